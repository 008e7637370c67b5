/-! WALKING ROWS. xk_Go K D nL k n w lv pc st: the machine K at pc with the cells w, the locals lv, the operands st, k cells and n slots made, comes to its end. xk_Ok: what holds of the machine K through a method's body. -/
abbrev xk_T : Type := Program × Launch × Env × Room × State × MethodId × Array Value × List Frame × Method × Code × (State → Prop) × (Nat → Prop)
def xk_Go (K : xk_T) (D : va_G) (nL k n : Nat) (w : va_W) (lv : List (Nat × Value)) (pc : Nat) (st : List Value) : Prop :=
  match K with
  | (p, l, e, R, s, m, args, below, meth, c, Q, A) => ∀ (H : Heap) (locs : List Loc) (ls : Array Slot), va_P D vwCl w H → va_D A w → va_S A s.heap H locs → lv_has ls nL lv → W p l e R s m args below meth c H locs k n Q (F0 m pc ls st)
def xk_Ok (K : xk_T) (D : va_G) (cc : ByteArray) (nL : Nat) (own : String) (R0 : Room) (ty : List (ClassId × FieldType)) : Prop :=
  match K with
  | (p, _, _, R, s, m, args, _, _, c, _, A) => p.tables.exec = Jvm.exec ∧ c.code = cc ∧ c.maxLocals = nL ∧ s.vm.findClass own = some m.cls ∧ (∀ w ∈ xk_gt, w.before args s = true) ∧ va_K D vwCl ty s ∧ (∀ q, s.heap.size ≤ q → A q) ∧ R = R0
section XK1
variable {K : xk_T} {D : va_G} {cc : ByteArray} {nL k n : Nat} {own : String} {R0 : Room} {ty : List (ClassId × FieldType)} {w : va_W} {lv : List (Nat × Value)} {pc : Nat} {st : List Value}
theorem x_iconst (C : xk_Ok K D cc nL own R0 ty) {z : Int} {v : Int32} (d : decode cc pc = .ok (.iconst z, 1)) (hv : Int32.ofInt z = v)
    (kk : xk_Go K D nL k n w lv (pc + 1) (.int v :: st)) : xk_Go K D nL k n w lv pc (st) := by
  obtain ⟨p, l, e, R, s, m, args, below, meth, c, Q, A⟩ := K
  obtain ⟨hx, hb, hml, hown, hts, -⟩ := C
  intro H locs ls hP hD hS hl
  exact lv_iconst hx hb d hv (kk H locs ls hP hD hS hl)
theorem x_bipush (C : xk_Ok K D cc nL own R0 ty) {z : Int} {v : Int32} (d : decode cc pc = .ok (.bipush z, 2)) (hv : (Int8.ofInt z).toInt32 = v)
    (kk : xk_Go K D nL k n w lv (pc + 2) (.int v :: st)) : xk_Go K D nL k n w lv pc (st) := by
  obtain ⟨p, l, e, R, s, m, args, below, meth, c, Q, A⟩ := K
  obtain ⟨hx, hb, hml, hown, hts, -⟩ := C
  intro H locs ls hP hD hS hl
  exact lv_bipush hx hb d hv (kk H locs ls hP hD hS hl)
theorem x_sipush (C : xk_Ok K D cc nL own R0 ty) {z : Int} {v : Int32} (d : decode cc pc = .ok (.sipush z, 3)) (hv : (Int16.ofInt z).toInt32 = v)
    (kk : xk_Go K D nL k n w lv (pc + 3) (.int v :: st)) : xk_Go K D nL k n w lv pc (st) := by
  obtain ⟨p, l, e, R, s, m, args, below, meth, c, Q, A⟩ := K
  obtain ⟨hx, hb, hml, hown, hts, -⟩ := C
  intro H locs ls hP hD hS hl
  exact lv_sipush hx hb d hv (kk H locs ls hP hD hS hl)
theorem x_lconst (C : xk_Ok K D cc nL own R0 ty) {z : Fin 2} {v : Int64} (d : decode cc pc = .ok (.lconst z, 1)) (hv : Int64.ofNat (z : Nat) = v)
    (kk : xk_Go K D nL k n w lv (pc + 1) (.long v :: st)) : xk_Go K D nL k n w lv pc (st) := by
  obtain ⟨p, l, e, R, s, m, args, below, meth, c, Q, A⟩ := K
  obtain ⟨hx, hb, hml, hown, hts, -⟩ := C
  intro H locs ls hP hD hS hl
  exact lv_lconst hx hb d hv (kk H locs ls hP hD hS hl)
theorem x_ldc2 (C : xk_Ok K D cc nL own R0 ty) {v : Int64} {i : Nat} (d : decode cc pc = .ok (.ldc2_w i, 3)) (hc : Cond.constantLong own i v ∈ xk_gt)
    (kk : xk_Go K D nL k n w lv (pc + 3) (.long v :: st)) : xk_Go K D nL k n w lv pc (st) := by
  obtain ⟨p, l, e, R, s, m, args, below, meth, c, Q, A⟩ := K
  obtain ⟨hx, hb, hml, hown, hts, -⟩ := C
  intro H locs ls hP hD hS hl
  exact lv_ldc2 hx hb hown (hts _ hc) d (kk H locs ls hP hD hS hl)
theorem x_iload_n (C : xk_Ok K D cc nL own R0 ty) {z : Fin 4} {i : Nat} {x : Int32} (d : decode cc pc = .ok (.iload_n z, 1)) (hi : (z : Nat) = i) (q : Nat) (hq : lv[q]? = some (i, .int x))
    (kk : xk_Go K D nL k n w lv (pc + 1) (.int x :: st)) : xk_Go K D nL k n w lv pc (st) := by
  obtain ⟨p, l, e, R, s, m, args, below, meth, c, Q, A⟩ := K
  obtain ⟨hx, hb, hml, hown, hts, -⟩ := C
  intro H locs ls hP hD hS hl
  exact lv_iload_n hx hb d hi (lv_at hl q hq) (kk H locs ls hP hD hS hl)
theorem x_iload (C : xk_Ok K D cc nL own R0 ty) {i : Nat} {x : Int32} (d : decode cc pc = .ok (.iload i, 2)) (q : Nat) (hq : lv[q]? = some (i, .int x))
    (kk : xk_Go K D nL k n w lv (pc + 2) (.int x :: st)) : xk_Go K D nL k n w lv pc (st) := by
  obtain ⟨p, l, e, R, s, m, args, below, meth, c, Q, A⟩ := K
  obtain ⟨hx, hb, hml, hown, hts, -⟩ := C
  intro H locs ls hP hD hS hl
  exact lv_iload hx hb d (lv_at hl q hq) (kk H locs ls hP hD hS hl)
theorem x_lload_n (C : xk_Ok K D cc nL own R0 ty) {z : Fin 4} {i : Nat} {x : Int64} (d : decode cc pc = .ok (.lload_n z, 1)) (hi : (z : Nat) = i) (q : Nat) (hq : lv[q]? = some (i, .long x))
    (kk : xk_Go K D nL k n w lv (pc + 1) (.long x :: st)) : xk_Go K D nL k n w lv pc (st) := by
  obtain ⟨p, l, e, R, s, m, args, below, meth, c, Q, A⟩ := K
  obtain ⟨hx, hb, hml, hown, hts, -⟩ := C
  intro H locs ls hP hD hS hl
  exact lv_lload_n hx hb d hi (lv_at hl q hq) (kk H locs ls hP hD hS hl)
theorem x_lload (C : xk_Ok K D cc nL own R0 ty) {i : Nat} {x : Int64} (d : decode cc pc = .ok (.lload i, 2)) (q : Nat) (hq : lv[q]? = some (i, .long x))
    (kk : xk_Go K D nL k n w lv (pc + 2) (.long x :: st)) : xk_Go K D nL k n w lv pc (st) := by
  obtain ⟨p, l, e, R, s, m, args, below, meth, c, Q, A⟩ := K
  obtain ⟨hx, hb, hml, hown, hts, -⟩ := C
  intro H locs ls hP hD hS hl
  exact lv_lload hx hb d (lv_at hl q hq) (kk H locs ls hP hD hS hl)
theorem x_aload_n (C : xk_Ok K D cc nL own R0 ty) {z : Fin 4} {i : Nat} {x : Nat} (d : decode cc pc = .ok (.aload_n z, 1)) (hi : (z : Nat) = i) (q : Nat) (hq : lv[q]? = some (i, .ref x))
    (kk : xk_Go K D nL k n w lv (pc + 1) (.ref x :: st)) : xk_Go K D nL k n w lv pc (st) := by
  obtain ⟨p, l, e, R, s, m, args, below, meth, c, Q, A⟩ := K
  obtain ⟨hx, hb, hml, hown, hts, -⟩ := C
  intro H locs ls hP hD hS hl
  exact lv_aload_n hx hb d hi (lv_at hl q hq) (kk H locs ls hP hD hS hl)
theorem x_aload (C : xk_Ok K D cc nL own R0 ty) {i : Nat} {x : Nat} (d : decode cc pc = .ok (.aload i, 2)) (q : Nat) (hq : lv[q]? = some (i, .ref x))
    (kk : xk_Go K D nL k n w lv (pc + 2) (.ref x :: st)) : xk_Go K D nL k n w lv pc (st) := by
  obtain ⟨p, l, e, R, s, m, args, below, meth, c, Q, A⟩ := K
  obtain ⟨hx, hb, hml, hown, hts, -⟩ := C
  intro H locs ls hP hD hS hl
  exact lv_aload hx hb d (lv_at hl q hq) (kk H locs ls hP hD hS hl)
theorem x_istore_n (C : xk_Ok K D cc nL own R0 ty) {z : Fin 4} {i : Nat} {x : Int32} (lv' : List (Nat × Value)) (d : decode cc pc = .ok (.istore_n z, 1)) (hi : (z : Nat) = i) (hn : i < nL) (hlv : (i, Value.int x) :: lv.filter (fun q => !(q.1 == i) && !(q.1 + 1 == i && q.2.category == 2)) = lv')
    (kk : xk_Go K D nL k n w lv' (pc + 1) st) : xk_Go K D nL k n w lv pc (Value.int x :: st) := by
  obtain ⟨p, l, e, R, s, m, args, below, meth, c, Q, A⟩ := K
  obtain ⟨hx, hb, hml, hown, hts, -⟩ := C
  intro H locs ls hP hD hS hl
  exact lv_istore_n hx hb d hi hl hn hlv (fun ls' hl' => kk H locs ls' hP hD hS hl')
theorem x_istore (C : xk_Ok K D cc nL own R0 ty) {i : Nat} {x : Int32} (lv' : List (Nat × Value)) (d : decode cc pc = .ok (.istore i, 2)) (hn : i < nL) (hlv : (i, Value.int x) :: lv.filter (fun q => !(q.1 == i) && !(q.1 + 1 == i && q.2.category == 2)) = lv')
    (kk : xk_Go K D nL k n w lv' (pc + 2) st) : xk_Go K D nL k n w lv pc (Value.int x :: st) := by
  obtain ⟨p, l, e, R, s, m, args, below, meth, c, Q, A⟩ := K
  obtain ⟨hx, hb, hml, hown, hts, -⟩ := C
  intro H locs ls hP hD hS hl
  exact lv_istore hx hb d hl hn hlv (fun ls' hl' => kk H locs ls' hP hD hS hl')
theorem x_astore_n (C : xk_Ok K D cc nL own R0 ty) {z : Fin 4} {i : Nat} {x : Nat} (lv' : List (Nat × Value)) (d : decode cc pc = .ok (.astore_n z, 1)) (hi : (z : Nat) = i) (hn : i < nL) (hlv : (i, Value.ref x) :: lv.filter (fun q => !(q.1 == i) && !(q.1 + 1 == i && q.2.category == 2)) = lv')
    (kk : xk_Go K D nL k n w lv' (pc + 1) st) : xk_Go K D nL k n w lv pc (Value.ref x :: st) := by
  obtain ⟨p, l, e, R, s, m, args, below, meth, c, Q, A⟩ := K
  obtain ⟨hx, hb, hml, hown, hts, -⟩ := C
  intro H locs ls hP hD hS hl
  exact lv_astore_n hx hb d hi hl hn hlv (fun ls' hl' => kk H locs ls' hP hD hS hl')
theorem x_astore (C : xk_Ok K D cc nL own R0 ty) {i : Nat} {x : Nat} (lv' : List (Nat × Value)) (d : decode cc pc = .ok (.astore i, 2)) (hn : i < nL) (hlv : (i, Value.ref x) :: lv.filter (fun q => !(q.1 == i) && !(q.1 + 1 == i && q.2.category == 2)) = lv')
    (kk : xk_Go K D nL k n w lv' (pc + 2) st) : xk_Go K D nL k n w lv pc (Value.ref x :: st) := by
  obtain ⟨p, l, e, R, s, m, args, below, meth, c, Q, A⟩ := K
  obtain ⟨hx, hb, hml, hown, hts, -⟩ := C
  intro H locs ls hP hD hS hl
  exact lv_astore hx hb d hl hn hlv (fun ls' hl' => kk H locs ls' hP hD hS hl')
theorem x_lstore_n (C : xk_Ok K D cc nL own R0 ty) {z : Fin 4} {i : Nat} {x : Int64} (lv' : List (Nat × Value)) (d : decode cc pc = .ok (.lstore_n z, 1)) (hi : (z : Nat) = i) (hn : i + 1 < nL) (hlv : (i, Value.long x) :: lv.filter (fun q => !(q.1 == i) && (!(q.1 == i + 1) && !(q.1 + 1 == i && q.2.category == 2))) = lv')
    (kk : xk_Go K D nL k n w lv' (pc + 1) st) : xk_Go K D nL k n w lv pc (Value.long x :: st) := by
  obtain ⟨p, l, e, R, s, m, args, below, meth, c, Q, A⟩ := K
  obtain ⟨hx, hb, hml, hown, hts, -⟩ := C
  intro H locs ls hP hD hS hl
  exact lv_lstore_n hx hb d hi hl hn hlv (fun ls' hl' => kk H locs ls' hP hD hS hl')
theorem x_lstore (C : xk_Ok K D cc nL own R0 ty) {i : Nat} {x : Int64} (lv' : List (Nat × Value)) (d : decode cc pc = .ok (.lstore i, 2)) (hn : i + 1 < nL) (hlv : (i, Value.long x) :: lv.filter (fun q => !(q.1 == i) && (!(q.1 == i + 1) && !(q.1 + 1 == i && q.2.category == 2))) = lv')
    (kk : xk_Go K D nL k n w lv' (pc + 2) st) : xk_Go K D nL k n w lv pc (Value.long x :: st) := by
  obtain ⟨p, l, e, R, s, m, args, below, meth, c, Q, A⟩ := K
  obtain ⟨hx, hb, hml, hown, hts, -⟩ := C
  intro H locs ls hP hD hS hl
  exact lv_lstore hx hb d hl hn hlv (fun ls' hl' => kk H locs ls' hP hD hS hl')
theorem x_iinc (C : xk_Ok K D cc nL own R0 ty) {i q : Nat} {z : Int} {x : Int32} (v : Int32) (lv' : List (Nat × Value)) (d : decode cc pc = .ok (.iinc i z, 3)) (hq : lv[q]? = some (i, .int x)) (hv : x + Int32.ofInt z = v) (hn : i < nL) (hlv : (i, Value.int v) :: lv.filter (fun q => !(q.1 == i) && !(q.1 + 1 == i && q.2.category == 2)) = lv')
    (kk : xk_Go K D nL k n w lv' (pc + 3) st) : xk_Go K D nL k n w lv pc (st) := by
  obtain ⟨p, l, e, R, s, m, args, below, meth, c, Q, A⟩ := K
  obtain ⟨hx, hb, hml, hown, hts, -⟩ := C
  intro H locs ls hP hD hS hl
  exact lv_iinc hx hb d hl hq hv hn hlv (fun ls' hl' => kk H locs ls' hP hD hS hl')
theorem x_iadd (C : xk_Ok K D cc nL own R0 ty) {x y : Int32} (d : decode cc pc = .ok (.iadd, 1))
    (kk : xk_Go K D nL k n w lv (pc + 1) (.int (x + y) :: st)) : xk_Go K D nL k n w lv pc (.int y :: .int x :: st) := by
  obtain ⟨p, l, e, R, s, m, args, below, meth, c, Q, A⟩ := K
  obtain ⟨hx, hb, hml, hown, hts, -⟩ := C
  intro H locs ls hP hD hS hl
  exact lv_iadd hx hb d (kk H locs ls hP hD hS hl)
theorem x_isub (C : xk_Ok K D cc nL own R0 ty) {x y : Int32} (d : decode cc pc = .ok (.isub, 1))
    (kk : xk_Go K D nL k n w lv (pc + 1) (.int (x - y) :: st)) : xk_Go K D nL k n w lv pc (.int y :: .int x :: st) := by
  obtain ⟨p, l, e, R, s, m, args, below, meth, c, Q, A⟩ := K
  obtain ⟨hx, hb, hml, hown, hts, -⟩ := C
  intro H locs ls hP hD hS hl
  exact lv_isub hx hb d (kk H locs ls hP hD hS hl)
theorem x_imul (C : xk_Ok K D cc nL own R0 ty) {x y : Int32} (d : decode cc pc = .ok (.imul, 1))
    (kk : xk_Go K D nL k n w lv (pc + 1) (.int (x * y) :: st)) : xk_Go K D nL k n w lv pc (.int y :: .int x :: st) := by
  obtain ⟨p, l, e, R, s, m, args, below, meth, c, Q, A⟩ := K
  obtain ⟨hx, hb, hml, hown, hts, -⟩ := C
  intro H locs ls hP hD hS hl
  exact lv_imul hx hb d (kk H locs ls hP hD hS hl)
theorem x_iand (C : xk_Ok K D cc nL own R0 ty) {x y : Int32} (d : decode cc pc = .ok (.iand, 1))
    (kk : xk_Go K D nL k n w lv (pc + 1) (.int (x &&& y) :: st)) : xk_Go K D nL k n w lv pc (.int y :: .int x :: st) := by
  obtain ⟨p, l, e, R, s, m, args, below, meth, c, Q, A⟩ := K
  obtain ⟨hx, hb, hml, hown, hts, -⟩ := C
  intro H locs ls hP hD hS hl
  exact lv_iand hx hb d (kk H locs ls hP hD hS hl)
theorem x_ior (C : xk_Ok K D cc nL own R0 ty) {x y : Int32} (d : decode cc pc = .ok (.ior, 1))
    (kk : xk_Go K D nL k n w lv (pc + 1) (.int (x ||| y) :: st)) : xk_Go K D nL k n w lv pc (.int y :: .int x :: st) := by
  obtain ⟨p, l, e, R, s, m, args, below, meth, c, Q, A⟩ := K
  obtain ⟨hx, hb, hml, hown, hts, -⟩ := C
  intro H locs ls hP hD hS hl
  exact lv_ior hx hb d (kk H locs ls hP hD hS hl)
theorem x_ladd (C : xk_Ok K D cc nL own R0 ty) {x y : Int64} (d : decode cc pc = .ok (.ladd, 1))
    (kk : xk_Go K D nL k n w lv (pc + 1) (.long (x + y) :: st)) : xk_Go K D nL k n w lv pc (.long y :: .long x :: st) := by
  obtain ⟨p, l, e, R, s, m, args, below, meth, c, Q, A⟩ := K
  obtain ⟨hx, hb, hml, hown, hts, -⟩ := C
  intro H locs ls hP hD hS hl
  exact lv_ladd hx hb d (kk H locs ls hP hD hS hl)
theorem x_lsub (C : xk_Ok K D cc nL own R0 ty) {x y : Int64} (d : decode cc pc = .ok (.lsub, 1))
    (kk : xk_Go K D nL k n w lv (pc + 1) (.long (x - y) :: st)) : xk_Go K D nL k n w lv pc (.long y :: .long x :: st) := by
  obtain ⟨p, l, e, R, s, m, args, below, meth, c, Q, A⟩ := K
  obtain ⟨hx, hb, hml, hown, hts, -⟩ := C
  intro H locs ls hP hD hS hl
  exact lv_lsub hx hb d (kk H locs ls hP hD hS hl)
theorem x_land (C : xk_Ok K D cc nL own R0 ty) {x y : Int64} (d : decode cc pc = .ok (.land, 1))
    (kk : xk_Go K D nL k n w lv (pc + 1) (.long (x &&& y) :: st)) : xk_Go K D nL k n w lv pc (.long y :: .long x :: st) := by
  obtain ⟨p, l, e, R, s, m, args, below, meth, c, Q, A⟩ := K
  obtain ⟨hx, hb, hml, hown, hts, -⟩ := C
  intro H locs ls hP hD hS hl
  exact lv_land hx hb d (kk H locs ls hP hD hS hl)
theorem x_lor (C : xk_Ok K D cc nL own R0 ty) {x y : Int64} (d : decode cc pc = .ok (.lor, 1))
    (kk : xk_Go K D nL k n w lv (pc + 1) (.long (x ||| y) :: st)) : xk_Go K D nL k n w lv pc (.long y :: .long x :: st) := by
  obtain ⟨p, l, e, R, s, m, args, below, meth, c, Q, A⟩ := K
  obtain ⟨hx, hb, hml, hown, hts, -⟩ := C
  intro H locs ls hP hD hS hl
  exact lv_lor hx hb d (kk H locs ls hP hD hS hl)
theorem x_lxor (C : xk_Ok K D cc nL own R0 ty) {x y : Int64} (d : decode cc pc = .ok (.lxor, 1))
    (kk : xk_Go K D nL k n w lv (pc + 1) (.long (x ^^^ y) :: st)) : xk_Go K D nL k n w lv pc (.long y :: .long x :: st) := by
  obtain ⟨p, l, e, R, s, m, args, below, meth, c, Q, A⟩ := K
  obtain ⟨hx, hb, hml, hown, hts, -⟩ := C
  intro H locs ls hP hD hS hl
  exact lv_lxor hx hb d (kk H locs ls hP hD hS hl)
theorem x_idiv (C : xk_Ok K D cc nL own R0 ty) {x y : Int32} (d : decode cc pc = .ok (.idiv, 1)) (hne : ¬ y = 0)
    (kk : xk_Go K D nL k n w lv (pc + 1) (.int (x / y) :: st)) : xk_Go K D nL k n w lv pc (.int y :: .int x :: st) := by
  obtain ⟨p, l, e, R, s, m, args, below, meth, c, Q, A⟩ := K
  obtain ⟨hx, hb, hml, hown, hts, -⟩ := C
  intro H locs ls hP hD hS hl
  exact lv_idiv hx hb d hne (kk H locs ls hP hD hS hl)
theorem x_irem (C : xk_Ok K D cc nL own R0 ty) {x y : Int32} (d : decode cc pc = .ok (.irem, 1)) (hne : ¬ y = 0)
    (kk : xk_Go K D nL k n w lv (pc + 1) (.int (x - x / y * y) :: st)) : xk_Go K D nL k n w lv pc (.int y :: .int x :: st) := by
  obtain ⟨p, l, e, R, s, m, args, below, meth, c, Q, A⟩ := K
  obtain ⟨hx, hb, hml, hown, hts, -⟩ := C
  intro H locs ls hP hD hS hl
  exact lv_irem hx hb d hne (kk H locs ls hP hD hS hl)
theorem x_ldiv (C : xk_Ok K D cc nL own R0 ty) {x y : Int64} (d : decode cc pc = .ok (.ldiv, 1)) (hne : ¬ y = 0)
    (kk : xk_Go K D nL k n w lv (pc + 1) (.long (x / y) :: st)) : xk_Go K D nL k n w lv pc (.long y :: .long x :: st) := by
  obtain ⟨p, l, e, R, s, m, args, below, meth, c, Q, A⟩ := K
  obtain ⟨hx, hb, hml, hown, hts, -⟩ := C
  intro H locs ls hP hD hS hl
  exact lv_ldiv hx hb d hne (kk H locs ls hP hD hS hl)
theorem x_lrem (C : xk_Ok K D cc nL own R0 ty) {x y : Int64} (d : decode cc pc = .ok (.lrem, 1)) (hne : ¬ y = 0)
    (kk : xk_Go K D nL k n w lv (pc + 1) (.long (x - x / y * y) :: st)) : xk_Go K D nL k n w lv pc (.long y :: .long x :: st) := by
  obtain ⟨p, l, e, R, s, m, args, below, meth, c, Q, A⟩ := K
  obtain ⟨hx, hb, hml, hown, hts, -⟩ := C
  intro H locs ls hP hD hS hl
  exact lv_lrem hx hb d hne (kk H locs ls hP hD hS hl)
theorem x_i2l (C : xk_Ok K D cc nL own R0 ty) {x : Int32} {v : Int64} (d : decode cc pc = .ok (.i2l, 1)) (hv : x.toInt64 = v)
    (kk : xk_Go K D nL k n w lv (pc + 1) (.long v :: st)) : xk_Go K D nL k n w lv pc (.int x :: st) := by
  obtain ⟨p, l, e, R, s, m, args, below, meth, c, Q, A⟩ := K
  obtain ⟨hx, hb, hml, hown, hts, -⟩ := C
  intro H locs ls hP hD hS hl
  exact lv_i2l hx hb d hv (kk H locs ls hP hD hS hl)
theorem x_l2i (C : xk_Ok K D cc nL own R0 ty) {x : Int64} {v : Int32} (d : decode cc pc = .ok (.l2i, 1)) (hv : x.toInt32 = v)
    (kk : xk_Go K D nL k n w lv (pc + 1) (.int v :: st)) : xk_Go K D nL k n w lv pc (.long x :: st) := by
  obtain ⟨p, l, e, R, s, m, args, below, meth, c, Q, A⟩ := K
  obtain ⟨hx, hb, hml, hown, hts, -⟩ := C
  intro H locs ls hP hD hS hl
  exact lv_l2i hx hb d hv (kk H locs ls hP hD hS hl)
theorem x_i2b (C : xk_Ok K D cc nL own R0 ty) {x v : Int32} (d : decode cc pc = .ok (.i2b, 1)) (hv : x.toInt8.toInt32 = v)
    (kk : xk_Go K D nL k n w lv (pc + 1) (.int v :: st)) : xk_Go K D nL k n w lv pc (.int x :: st) := by
  obtain ⟨p, l, e, R, s, m, args, below, meth, c, Q, A⟩ := K
  obtain ⟨hx, hb, hml, hown, hts, -⟩ := C
  intro H locs ls hP hD hS hl
  exact lv_i2b hx hb d hv (kk H locs ls hP hD hS hl)
theorem x_lushr (C : xk_Ok K D cc nL own R0 ty) {x v : Int64} {y : Int32} (d : decode cc pc = .ok (.lushr, 1)) (hv : (x.toUInt64 >>> (y.toInt64.toUInt64 &&& Int64.toUInt64 63)).toInt64 = v)
    (kk : xk_Go K D nL k n w lv (pc + 1) (.long v :: st)) : xk_Go K D nL k n w lv pc (.int y :: .long x :: st) := by
  obtain ⟨p, l, e, R, s, m, args, below, meth, c, Q, A⟩ := K
  obtain ⟨hx, hb, hml, hown, hts, -⟩ := C
  intro H locs ls hP hD hS hl
  exact lv_lushr hx hb d hv (kk H locs ls hP hD hS hl)
theorem x_lshl (C : xk_Ok K D cc nL own R0 ty) {x v : Int64} {y : Int32} (d : decode cc pc = .ok (.lshl, 1)) (hv : x <<< (y.toInt64 &&& 63) = v)
    (kk : xk_Go K D nL k n w lv (pc + 1) (.long v :: st)) : xk_Go K D nL k n w lv pc (.int y :: .long x :: st) := by
  obtain ⟨p, l, e, R, s, m, args, below, meth, c, Q, A⟩ := K
  obtain ⟨hx, hb, hml, hown, hts, -⟩ := C
  intro H locs ls hP hD hS hl
  exact lv_lshl hx hb d hv (kk H locs ls hP hD hS hl)
theorem x_lshr (C : xk_Ok K D cc nL own R0 ty) {x v : Int64} {y : Int32} (d : decode cc pc = .ok (.lshr, 1)) (hv : x >>> (y.toInt64 &&& 63) = v)
    (kk : xk_Go K D nL k n w lv (pc + 1) (.long v :: st)) : xk_Go K D nL k n w lv pc (.int y :: .long x :: st) := by
  obtain ⟨p, l, e, R, s, m, args, below, meth, c, Q, A⟩ := K
  obtain ⟨hx, hb, hml, hown, hts, -⟩ := C
  intro H locs ls hP hD hS hl
  exact lv_lshr hx hb d hv (kk H locs ls hP hD hS hl)
theorem x_lcmp (C : xk_Ok K D cc nL own R0 ty) {x y : Int64} (d : decode cc pc = .ok (.lcmp, 1))
    (kk : xk_Go K D nL k n w lv (pc + 1) (.int (lg_cmp x y) :: st)) : xk_Go K D nL k n w lv pc (.long y :: .long x :: st) := by
  obtain ⟨p, l, e, R, s, m, args, below, meth, c, Q, A⟩ := K
  obtain ⟨hx, hb, hml, hown, hts, -⟩ := C
  intro H locs ls hP hD hS hl
  exact W.lcmp hx hb d (kk H locs ls hP hD hS hl)
theorem x_dup (C : xk_Ok K D cc nL own R0 ty) {va : Value} (d : decode cc pc = .ok (.dup, 1)) (hv : va.category = 1)
    (kk : xk_Go K D nL k n w lv (pc + 1) (va :: va :: st)) : xk_Go K D nL k n w lv pc (va :: st) := by
  obtain ⟨p, l, e, R, s, m, args, below, meth, c, Q, A⟩ := K
  obtain ⟨hx, hb, hml, hown, hts, -⟩ := C
  intro H locs ls hP hD hS hl
  exact lv_dup hx hb d hv (kk H locs ls hP hD hS hl)
theorem x_dup2 (C : xk_Ok K D cc nL own R0 ty) {va vb : Value} (d : decode cc pc = .ok (.dup2, 1)) (hv : va.category = 1) (hv2 : vb.category = 1)
    (kk : xk_Go K D nL k n w lv (pc + 1) (va :: vb :: va :: vb :: st)) : xk_Go K D nL k n w lv pc (va :: vb :: st) := by
  obtain ⟨p, l, e, R, s, m, args, below, meth, c, Q, A⟩ := K
  obtain ⟨hx, hb, hml, hown, hts, -⟩ := C
  intro H locs ls hP hD hS hl
  exact lv_dup2_11 hx hb d hv hv2 (kk H locs ls hP hD hS hl)
theorem x_pop (C : xk_Ok K D cc nL own R0 ty) {va : Value} (d : decode cc pc = .ok (.pop, 1)) (hv : va.category = 1)
    (kk : xk_Go K D nL k n w lv (pc + 1) (st)) : xk_Go K D nL k n w lv pc (va :: st) := by
  obtain ⟨p, l, e, R, s, m, args, below, meth, c, Q, A⟩ := K
  obtain ⟨hx, hb, hml, hown, hts, -⟩ := C
  intro H locs ls hP hD hS hl
  exact lv_pop hx hb d hv (kk H locs ls hP hD hS hl)
theorem x_if_eq (C : xk_Ok K D cc nL own R0 ty) {x : Int32} {off : Int} {tgt : Nat} (d : decode cc pc = .ok (.ifCond .eq off, 3)) (ht : (pc : Int) + off = (tgt : Int))
    (kt : x = 0 → xk_Go K D nL k n w lv tgt st) (kf : ¬ x = 0 → xk_Go K D nL k n w lv (pc + 3) st) : xk_Go K D nL k n w lv pc (.int x :: st) := by
  obtain ⟨p, l, e, R, s, m, args, below, meth, c, Q, A⟩ := K
  obtain ⟨hx, hb, -⟩ := C
  intro H locs ls hP hD hS hl
  exact lv_if_eq hx hb d ht (fun h => kt h H locs ls hP hD hS hl) (fun h => kf h H locs ls hP hD hS hl)
theorem x_icmp_eq (C : xk_Ok K D cc nL own R0 ty) {x y : Int32} {off : Int} {tgt : Nat} (d : decode cc pc = .ok (.if_icmp .eq off, 3)) (ht : (pc : Int) + off = (tgt : Int))
    (kt : x = y → xk_Go K D nL k n w lv tgt st) (kf : ¬ x = y → xk_Go K D nL k n w lv (pc + 3) st) : xk_Go K D nL k n w lv pc (.int y :: .int x :: st) := by
  obtain ⟨p, l, e, R, s, m, args, below, meth, c, Q, A⟩ := K
  obtain ⟨hx, hb, -⟩ := C
  intro H locs ls hP hD hS hl
  exact lv_icmp_eq hx hb d ht (fun h => kt h H locs ls hP hD hS hl) (fun h => kf h H locs ls hP hD hS hl)
theorem x_if_ne (C : xk_Ok K D cc nL own R0 ty) {x : Int32} {off : Int} {tgt : Nat} (d : decode cc pc = .ok (.ifCond .ne off, 3)) (ht : (pc : Int) + off = (tgt : Int))
    (kt : ¬ x = 0 → xk_Go K D nL k n w lv tgt st) (kf : x = 0 → xk_Go K D nL k n w lv (pc + 3) st) : xk_Go K D nL k n w lv pc (.int x :: st) := by
  obtain ⟨p, l, e, R, s, m, args, below, meth, c, Q, A⟩ := K
  obtain ⟨hx, hb, -⟩ := C
  intro H locs ls hP hD hS hl
  exact lv_if_ne hx hb d ht (fun h => kt h H locs ls hP hD hS hl) (fun h => kf h H locs ls hP hD hS hl)
theorem x_icmp_ne (C : xk_Ok K D cc nL own R0 ty) {x y : Int32} {off : Int} {tgt : Nat} (d : decode cc pc = .ok (.if_icmp .ne off, 3)) (ht : (pc : Int) + off = (tgt : Int))
    (kt : ¬ x = y → xk_Go K D nL k n w lv tgt st) (kf : x = y → xk_Go K D nL k n w lv (pc + 3) st) : xk_Go K D nL k n w lv pc (.int y :: .int x :: st) := by
  obtain ⟨p, l, e, R, s, m, args, below, meth, c, Q, A⟩ := K
  obtain ⟨hx, hb, -⟩ := C
  intro H locs ls hP hD hS hl
  exact lv_icmp_ne hx hb d ht (fun h => kt h H locs ls hP hD hS hl) (fun h => kf h H locs ls hP hD hS hl)
theorem x_if_lt (C : xk_Ok K D cc nL own R0 ty) {x : Int32} {off : Int} {tgt : Nat} (d : decode cc pc = .ok (.ifCond .lt off, 3)) (ht : (pc : Int) + off = (tgt : Int))
    (kt : x < 0 → xk_Go K D nL k n w lv tgt st) (kf : ¬ x < 0 → xk_Go K D nL k n w lv (pc + 3) st) : xk_Go K D nL k n w lv pc (.int x :: st) := by
  obtain ⟨p, l, e, R, s, m, args, below, meth, c, Q, A⟩ := K
  obtain ⟨hx, hb, -⟩ := C
  intro H locs ls hP hD hS hl
  exact lv_if_lt hx hb d ht (fun h => kt h H locs ls hP hD hS hl) (fun h => kf h H locs ls hP hD hS hl)
theorem x_icmp_lt (C : xk_Ok K D cc nL own R0 ty) {x y : Int32} {off : Int} {tgt : Nat} (d : decode cc pc = .ok (.if_icmp .lt off, 3)) (ht : (pc : Int) + off = (tgt : Int))
    (kt : x < y → xk_Go K D nL k n w lv tgt st) (kf : ¬ x < y → xk_Go K D nL k n w lv (pc + 3) st) : xk_Go K D nL k n w lv pc (.int y :: .int x :: st) := by
  obtain ⟨p, l, e, R, s, m, args, below, meth, c, Q, A⟩ := K
  obtain ⟨hx, hb, -⟩ := C
  intro H locs ls hP hD hS hl
  exact lv_icmp_lt hx hb d ht (fun h => kt h H locs ls hP hD hS hl) (fun h => kf h H locs ls hP hD hS hl)
theorem x_if_ge (C : xk_Ok K D cc nL own R0 ty) {x : Int32} {off : Int} {tgt : Nat} (d : decode cc pc = .ok (.ifCond .ge off, 3)) (ht : (pc : Int) + off = (tgt : Int))
    (kt : 0 ≤ x → xk_Go K D nL k n w lv tgt st) (kf : ¬ 0 ≤ x → xk_Go K D nL k n w lv (pc + 3) st) : xk_Go K D nL k n w lv pc (.int x :: st) := by
  obtain ⟨p, l, e, R, s, m, args, below, meth, c, Q, A⟩ := K
  obtain ⟨hx, hb, -⟩ := C
  intro H locs ls hP hD hS hl
  exact lv_if_ge hx hb d ht (fun h => kt h H locs ls hP hD hS hl) (fun h => kf h H locs ls hP hD hS hl)
theorem x_icmp_ge (C : xk_Ok K D cc nL own R0 ty) {x y : Int32} {off : Int} {tgt : Nat} (d : decode cc pc = .ok (.if_icmp .ge off, 3)) (ht : (pc : Int) + off = (tgt : Int))
    (kt : y ≤ x → xk_Go K D nL k n w lv tgt st) (kf : ¬ y ≤ x → xk_Go K D nL k n w lv (pc + 3) st) : xk_Go K D nL k n w lv pc (.int y :: .int x :: st) := by
  obtain ⟨p, l, e, R, s, m, args, below, meth, c, Q, A⟩ := K
  obtain ⟨hx, hb, -⟩ := C
  intro H locs ls hP hD hS hl
  exact lv_icmp_ge hx hb d ht (fun h => kt h H locs ls hP hD hS hl) (fun h => kf h H locs ls hP hD hS hl)
theorem x_if_gt (C : xk_Ok K D cc nL own R0 ty) {x : Int32} {off : Int} {tgt : Nat} (d : decode cc pc = .ok (.ifCond .gt off, 3)) (ht : (pc : Int) + off = (tgt : Int))
    (kt : 0 < x → xk_Go K D nL k n w lv tgt st) (kf : ¬ 0 < x → xk_Go K D nL k n w lv (pc + 3) st) : xk_Go K D nL k n w lv pc (.int x :: st) := by
  obtain ⟨p, l, e, R, s, m, args, below, meth, c, Q, A⟩ := K
  obtain ⟨hx, hb, -⟩ := C
  intro H locs ls hP hD hS hl
  exact lv_if_gt hx hb d ht (fun h => kt h H locs ls hP hD hS hl) (fun h => kf h H locs ls hP hD hS hl)
theorem x_icmp_gt (C : xk_Ok K D cc nL own R0 ty) {x y : Int32} {off : Int} {tgt : Nat} (d : decode cc pc = .ok (.if_icmp .gt off, 3)) (ht : (pc : Int) + off = (tgt : Int))
    (kt : y < x → xk_Go K D nL k n w lv tgt st) (kf : ¬ y < x → xk_Go K D nL k n w lv (pc + 3) st) : xk_Go K D nL k n w lv pc (.int y :: .int x :: st) := by
  obtain ⟨p, l, e, R, s, m, args, below, meth, c, Q, A⟩ := K
  obtain ⟨hx, hb, -⟩ := C
  intro H locs ls hP hD hS hl
  exact lv_icmp_gt hx hb d ht (fun h => kt h H locs ls hP hD hS hl) (fun h => kf h H locs ls hP hD hS hl)
theorem x_if_le (C : xk_Ok K D cc nL own R0 ty) {x : Int32} {off : Int} {tgt : Nat} (d : decode cc pc = .ok (.ifCond .le off, 3)) (ht : (pc : Int) + off = (tgt : Int))
    (kt : x ≤ 0 → xk_Go K D nL k n w lv tgt st) (kf : ¬ x ≤ 0 → xk_Go K D nL k n w lv (pc + 3) st) : xk_Go K D nL k n w lv pc (.int x :: st) := by
  obtain ⟨p, l, e, R, s, m, args, below, meth, c, Q, A⟩ := K
  obtain ⟨hx, hb, -⟩ := C
  intro H locs ls hP hD hS hl
  exact lv_if_le hx hb d ht (fun h => kt h H locs ls hP hD hS hl) (fun h => kf h H locs ls hP hD hS hl)
theorem x_icmp_le (C : xk_Ok K D cc nL own R0 ty) {x y : Int32} {off : Int} {tgt : Nat} (d : decode cc pc = .ok (.if_icmp .le off, 3)) (ht : (pc : Int) + off = (tgt : Int))
    (kt : x ≤ y → xk_Go K D nL k n w lv tgt st) (kf : ¬ x ≤ y → xk_Go K D nL k n w lv (pc + 3) st) : xk_Go K D nL k n w lv pc (.int y :: .int x :: st) := by
  obtain ⟨p, l, e, R, s, m, args, below, meth, c, Q, A⟩ := K
  obtain ⟨hx, hb, -⟩ := C
  intro H locs ls hP hD hS hl
  exact lv_icmp_le hx hb d ht (fun h => kt h H locs ls hP hD hS hl) (fun h => kf h H locs ls hP hD hS hl)
theorem x_goto (C : xk_Ok K D cc nL own R0 ty) {off : Int} (tgt : Nat) (d : decode cc pc = .ok (.goto off, 3)) (ht : (pc : Int) + off = (tgt : Int))
    (kk : xk_Go K D nL k n w lv tgt st) : xk_Go K D nL k n w lv pc st := by
  obtain ⟨p, l, e, R, s, m, args, below, meth, c, Q, A⟩ := K
  obtain ⟨hx, hb, -⟩ := C
  intro H locs ls hP hD hS hl
  exact lv_goto hx hb d ht (kk H locs ls hP hD hS hl)
end XK1
/-! WALKING ROWS 2: fields, arrays, calls, ends. -/
def xk_nA (g : Nat → Nat) : Nat → Int32 := fun j => nI (g j)
def xk_oI : Option Nat → Int32
  | none => -1
  | some v => nI v
def xk_oA (g : Nat → Option Nat) : Nat → Int32 := fun j => xk_oI (g j)
def xk_bZ : Bool → Int32
  | false => nI 0
  | true => nI 1
def xk_zA (g : Nat → Bool) : Nat → Int32 := fun j => xk_bZ (g j)
def xk_sb (v : Nat) : Int32 := (nI v).toInt8.toInt32
def xk_bA (g : Nat → Nat) : Nat → Int32 := fun j => xk_sb (g j)
theorem xk_nA_up (g : Nat → Nat) (i v : Nat) : upd (xk_nA g) i (nI v) = xk_nA (va_up g i v) := by
  funext j
  unfold upd xk_nA va_up
  split <;> rfl
theorem xk_oA_up (g : Nat → Option Nat) (i : Nat) (v : Option Nat) : upd (xk_oA g) i (xk_oI v) = xk_oA (va_up g i v) := by
  funext j
  unfold upd xk_oA va_up
  split <;> rfl
theorem xk_zA_up (g : Nat → Bool) (i : Nat) (v : Bool) : upd (xk_zA g) i (xk_bZ v) = xk_zA (va_up g i v) := by
  funext j
  unfold upd xk_zA va_up
  split <;> rfl
theorem xk_bA_up (g : Nat → Nat) (i v : Nat) : upd (xk_bA g) i (xk_sb v) = xk_bA (va_up g i v) := by
  funext j
  unfold upd xk_bA va_up
  split <;> rfl
theorem xk_sb_nar (v : Nat) : vp_nar .byte (xk_sb v) = xk_sb v := pk_vb (nI v)
theorem xk_bZ_nar (b : Bool) : vp_nar .boolean (xk_bZ b) = xk_bZ b := by
  cases b <;> rfl
/-- a field that can be read: own: the class that reads; idx: its pool's row; ci: the class of the object by vwCl; k: the slot -/
def xk_F (own : String) (idx ci k : Nat) : Prop := ∃ (Cn : String) (T : u_T) (N : Nat), vwCl[ci]? = some (Cn, T, N) ∧ k < N ∧ (∀ w ∈ u_ws Cn T N, w ∈ xk_gt) ∧ Cond.fieldLink own idx (T k).1 (T k).2.1 (T k).2.2.1 ∈ xk_gt
/-- a field that can be written -/
def xk_FP (own : String) (idx ci k : Nat) (fin : Bool) (fty : FieldType) : Prop := ∃ (Cn : String) (T : u_T) (N : Nat), vwCl[ci]? = some (Cn, T, N) ∧ k < N ∧ (∀ w ∈ u_ws Cn T N, w ∈ xk_gt) ∧ Cond.fieldLink own idx (T k).1 (T k).2.1 (T k).2.2.1 ∈ xk_gt ∧
  (∃ ty0 : Nat → FieldType, ∀ j, j < N → parseFieldDescriptor (T j).2.2.1 = some (ty0 j)) ∧ (∀ a, a < N → ∀ b, b < N → a ≠ b → (T a).2.1 ≠ (T b).2.1) ∧ (T k).2.2.2 = fin ∧ parseFieldDescriptor (T k).2.2.1 = some fty ∧ (fin = true → (T k).1 = own)
section XK2
variable {K : xk_T} {D : va_G} {cc : ByteArray} {nL k n : Nat} {own : String} {R0 : Room} {ty : List (ClassId × FieldType)} {w : va_W} {lv : List (Nat × Value)} {pc : Nat} {st : List Value}
theorem x_sub (is : List Nat) {lv' : List (Nat × Value)} (h : lv_pick lv is = lv') (kk : xk_Go K D nL k n w lv' pc st) : xk_Go K D nL k n w lv pc st := by
  obtain ⟨p, l, e, R, s, m, args, below, meth, c, Q, A⟩ := K
  intro H locs ls hP hD hS hl
  exact kk H locs ls hP hD hS (lv_sub hl is h)
theorem x_widen {k' n' : Nat} (h1 : k ≤ k') (h2 : n ≤ n') (kk : xk_Go K D nL k' n' w lv pc st) : xk_Go K D nL k n w lv pc st := by
  obtain ⟨p, l, e, R, s, m, args, below, meth, c, Q, A⟩ := K
  intro H locs ls hP hD hS hl
  exact W.widen h1 h2 (kk H locs ls hP hD hS hl)
theorem x_perm (is : List Nat) {w' : va_W} (hn : va_nd is = true) (hs : is.filterMap (fun i => w[i]?) = w') (hs2 : is.map (fun i => w[i]?) = w'.map some) (kk : xk_Go K D nL k n w' lv pc st) : xk_Go K D nL k n w lv pc st := by
  obtain ⟨p, l, e, R, s, m, args, below, meth, c, Q, A⟩ := K
  intro H locs ls hP hD hS hl
  exact kk H locs ls (hP.sub is hs) (hD.sub is hn hs2) hS hl
theorem x_get (C : xk_Ok K D cc nL own R0 ty) {idx ci kf : Nat} (hF : xk_F own idx ci kf) (q0 : Nat) {a : Nat} {fs : List Value} {v : Value} (he : w[q0]? = some (a, .inr (ci, fs))) (hv : fs[kf]? = some v) (d : decode cc pc = .ok (.getfield idx, 3))
    (kk : xk_Go K D nL k n w lv (pc + 3) (v :: st)) : xk_Go K D nL k n w lv pc (.ref a :: st) := by
  obtain ⟨p, l, e, R, s, m, args, below, meth, c, Q, A⟩ := K
  obtain ⟨hx, hb, hml, hown, hts, hK, -⟩ := C
  obtain ⟨Cn, T, N, hc, hk, hin, hlk⟩ := hF
  intro H locs ls hP hD hS hl
  exact va_get hx hb hts hin hown hK hP q0 he hc kf hk (hts _ hlk) (fun _ h9 => h9) hv d (kk H locs ls hP hD hS hl)
theorem x_put (C : xk_Ok K D cc nL own R0 ty) {idx ci kf : Nat} {fty : FieldType} (hF : xk_FP own idx ci kf false fty) (q0 : Nat) (w' : va_W) {a : Nat} {fs : List Value} {v : Value} (he : w[q0]? = some (a, .inr (ci, fs))) (hw : w.set q0 (a, .inr (ci, fs.set kf v)) = w')
    (hn : narrow fty v = v) (hfit : fits fty v = true) (hlen : kf < fs.length) (d : decode cc pc = .ok (.putfield idx, 3))
    (kk : xk_Go K D nL k n w' lv (pc + 3) st) : xk_Go K D nL k n w lv pc (v :: .ref a :: st) := by
  obtain ⟨p, l, e, R, s, m, args, below, meth, c, Q, A⟩ := K
  obtain ⟨hx, hb, hml, hown, hts, hK, -⟩ := C
  obtain ⟨Cn, T, N, hc, hk, hin, hlk, ⟨ty0, hty⟩, hnm, hfin, hd, -⟩ := hF
  subst hw
  intro H locs ls hP hD hS hl
  exact va_put hx hb hts hin ty0 hty hnm hown hK hP hD hS q0 he hc kf hk (hts _ hlk) (fun _ h9 => h9) hfin hd hn hfit hlen d (fun H1 locs1 hP hD hS => kk H1 locs1 ls hP hD hS hl)
/-- the machine is in a constructor -/
def xk_In (K : xk_T) : Prop := match K with
  | (_, _, _, _, _, _, _, _, meth, _, _, _) => meth.name = "<init>"
theorem x_putF (C : xk_Ok K D cc nL own R0 ty) (hin2 : xk_In K) {idx ci kf : Nat} {fty : FieldType} (hF : xk_FP own idx ci kf true fty) (q0 : Nat) (w' : va_W) {a : Nat} {fs : List Value} {v : Value} (he : w[q0]? = some (a, .inr (ci, fs))) (hw : w.set q0 (a, .inr (ci, fs.set kf v)) = w')
    (hn : narrow fty v = v) (hfit : fits fty v = true) (hlen : kf < fs.length) (d : decode cc pc = .ok (.putfield idx, 3))
    (kk : xk_Go K D nL k n w' lv (pc + 3) st) : xk_Go K D nL k n w lv pc (v :: .ref a :: st) := by
  obtain ⟨p, l, e, R, s, m, args, below, meth, c, Q, A⟩ := K
  obtain ⟨hx, hb, hml, hown, hts, hK, -⟩ := C
  obtain ⟨Cn, T, N, hc, hk, hin, hlk, ⟨ty0, hty⟩, hnm, hfin, hd, hdecl⟩ := hF
  subst hw
  intro H locs ls hP hD hS hl
  exact va_putF hx hb hts hin ty0 hty hnm hown hK hP hD hS q0 he hc kf hk (hts _ hlk) (fun _ h9 => h9) hfin hin2 (hdecl rfl) hd hn hfit hlen d (fun H1 locs1 hP hD hS => kk H1 locs1 ls hP hD hS hl)
-- arrays, at a place nI i
theorem x_ild (C : xk_Ok K D cc nL own R0 ty) (q0 t0 : Nat) {a N : Nat} {cA : ClassId} {f : Nat → Int32} (ha : w[q0]? = some (a, .inl (cA, N, .inl f))) (ht : ty[t0]? = some (cA, .int)) {i : Nat} (hi : i < N) (hN : N < 2 ^ 31) (d : decode cc pc = .ok (.iaload, 1))
    (kk : xk_Go K D nL k n w lv (pc + 1) (.int (f i) :: st)) : xk_Go K D nL k n w lv pc (.int (nI i) :: .ref a :: st) := by
  obtain ⟨p, l, e, R, s, m, args, below, meth, c, Q, A⟩ := K
  obtain ⟨hx, hb, hml, hown, hts, hK, -⟩ := C
  intro H locs ls hP hD hS hl
  refine va_iald hx hb hK hP q0 t0 ha ht (vp_in_nI hi hN) d ?_
  rw [nI_clamp (by omega)]
  exact kk H locs ls hP hD hS hl
theorem x_bld (C : xk_Ok K D cc nL own R0 ty) (q0 t0 : Nat) {a N : Nat} {cA : ClassId} {f : Nat → Int32} (ha : w[q0]? = some (a, .inl (cA, N, .inl f))) (ht : ty[t0]? = some (cA, .byte)) {i : Nat} (hi : i < N) (hN : N < 2 ^ 31) (d : decode cc pc = .ok (.baload, 1))
    (kk : xk_Go K D nL k n w lv (pc + 1) (.int (f i) :: st)) : xk_Go K D nL k n w lv pc (.int (nI i) :: .ref a :: st) := by
  obtain ⟨p, l, e, R, s, m, args, below, meth, c, Q, A⟩ := K
  obtain ⟨hx, hb, hml, hown, hts, hK, -⟩ := C
  intro H locs ls hP hD hS hl
  refine va_bald hx hb hK hP q0 t0 ha ht (vp_in_nI hi hN) d ?_
  rw [nI_clamp (by omega)]
  exact kk H locs ls hP hD hS hl
theorem x_zld (C : xk_Ok K D cc nL own R0 ty) (q0 t0 : Nat) {a N : Nat} {cA : ClassId} {f : Nat → Int32} (ha : w[q0]? = some (a, .inl (cA, N, .inl f))) (ht : ty[t0]? = some (cA, .boolean)) {i : Nat} (hi : i < N) (hN : N < 2 ^ 31) (d : decode cc pc = .ok (.baload, 1))
    (kk : xk_Go K D nL k n w lv (pc + 1) (.int (f i) :: st)) : xk_Go K D nL k n w lv pc (.int (nI i) :: .ref a :: st) := by
  obtain ⟨p, l, e, R, s, m, args, below, meth, c, Q, A⟩ := K
  obtain ⟨hx, hb, hml, hown, hts, hK, -⟩ := C
  intro H locs ls hP hD hS hl
  refine va_zald hx hb hK hP q0 t0 ha ht (vp_in_nI hi hN) d ?_
  rw [nI_clamp (by omega)]
  exact kk H locs ls hP hD hS hl
theorem x_lld (C : xk_Ok K D cc nL own R0 ty) (q0 t0 : Nat) {a N : Nat} {cA : ClassId} {f : Nat → Int64} (ha : w[q0]? = some (a, .inl (cA, N, .inr (.inl f)))) (ht : ty[t0]? = some (cA, .long)) {i : Nat} (hi : i < N) (hN : N < 2 ^ 31) (d : decode cc pc = .ok (.laload, 1))
    (kk : xk_Go K D nL k n w lv (pc + 1) (.long (f i) :: st)) : xk_Go K D nL k n w lv pc (.int (nI i) :: .ref a :: st) := by
  obtain ⟨p, l, e, R, s, m, args, below, meth, c, Q, A⟩ := K
  obtain ⟨hx, hb, hml, hown, hts, hK, -⟩ := C
  intro H locs ls hP hD hS hl
  refine va_lald hx hb hK hP q0 t0 ha ht (vp_in_nI hi hN) d ?_
  rw [nI_clamp (by omega)]
  exact kk H locs ls hP hD hS hl
theorem x_ist (C : xk_Ok K D cc nL own R0 ty) (q0 t0 : Nat) (w' : va_W) {a N : Nat} {cA : ClassId} {f : Nat → Int32} (ha : w[q0]? = some (a, .inl (cA, N, .inl f))) (ht : ty[t0]? = some (cA, .int)) {i : Nat} {x : Int32} {f' : Nat → Int32} (hf : upd f i x = f') (hw : w.set q0 (a, .inl (cA, N, .inl f')) = w') (hi : i < N) (hN : N < 2 ^ 31) (d : decode cc pc = .ok (.iastore, 1))
    (kk : xk_Go K D nL k n w' lv (pc + 1) st) : xk_Go K D nL k n w lv pc (.int x :: .int (nI i) :: .ref a :: st) := by
  obtain ⟨p, l, e, R, s, m, args, below, meth, c, Q, A⟩ := K
  obtain ⟨hx, hb, hml, hown, hts, hK, -⟩ := C
  subst hf
  subst hw
  intro H locs ls hP hD hS hl
  refine va_iast hx hb hK hP hD hS q0 t0 ha ht (vp_in_nI hi hN) d (fun H1 locs1 hP hD hS => ?_)
  rw [nI_clamp (by omega)] at hP hD
  exact kk H1 locs1 ls hP hD hS hl
theorem x_bst (C : xk_Ok K D cc nL own R0 ty) (q0 t0 : Nat) (w' : va_W) {a N : Nat} {cA : ClassId} {f : Nat → Int32} (ha : w[q0]? = some (a, .inl (cA, N, .inl f))) (ht : ty[t0]? = some (cA, .byte)) {i : Nat} {x : Int32} {f' : Nat → Int32} (hf : upd f i (vp_nar .byte x) = f') (hw : w.set q0 (a, .inl (cA, N, .inl f')) = w') (hi : i < N) (hN : N < 2 ^ 31) (d : decode cc pc = .ok (.bastore, 1))
    (kk : xk_Go K D nL k n w' lv (pc + 1) st) : xk_Go K D nL k n w lv pc (.int x :: .int (nI i) :: .ref a :: st) := by
  obtain ⟨p, l, e, R, s, m, args, below, meth, c, Q, A⟩ := K
  obtain ⟨hx, hb, hml, hown, hts, hK, -⟩ := C
  subst hf
  subst hw
  intro H locs ls hP hD hS hl
  refine va_bast hx hb hK hP hD hS q0 t0 ha ht (vp_in_nI hi hN) d (fun H1 locs1 hP hD hS => ?_)
  rw [nI_clamp (by omega)] at hP hD
  exact kk H1 locs1 ls hP hD hS hl
theorem x_zst (C : xk_Ok K D cc nL own R0 ty) (q0 t0 : Nat) (w' : va_W) {a N : Nat} {cA : ClassId} {f : Nat → Int32} (ha : w[q0]? = some (a, .inl (cA, N, .inl f))) (ht : ty[t0]? = some (cA, .boolean)) {i : Nat} {x : Int32} {f' : Nat → Int32} (hf : upd f i (vp_nar .boolean x) = f') (hw : w.set q0 (a, .inl (cA, N, .inl f')) = w') (hi : i < N) (hN : N < 2 ^ 31) (d : decode cc pc = .ok (.bastore, 1))
    (kk : xk_Go K D nL k n w' lv (pc + 1) st) : xk_Go K D nL k n w lv pc (.int x :: .int (nI i) :: .ref a :: st) := by
  obtain ⟨p, l, e, R, s, m, args, below, meth, c, Q, A⟩ := K
  obtain ⟨hx, hb, hml, hown, hts, hK, -⟩ := C
  subst hf
  subst hw
  intro H locs ls hP hD hS hl
  refine va_zast hx hb hK hP hD hS q0 t0 ha ht (vp_in_nI hi hN) d (fun H1 locs1 hP hD hS => ?_)
  rw [nI_clamp (by omega)] at hP hD
  exact kk H1 locs1 ls hP hD hS hl
theorem x_lst (C : xk_Ok K D cc nL own R0 ty) (q0 t0 : Nat) (w' : va_W) {a N : Nat} {cA : ClassId} {f : Nat → Int64} (ha : w[q0]? = some (a, .inl (cA, N, .inr (.inl f)))) (ht : ty[t0]? = some (cA, .long)) {i : Nat} {x : Int64} {f' : Nat → Int64} (hf : vp_updL f i x = f') (hw : w.set q0 (a, .inl (cA, N, .inr (.inl f'))) = w') (hi : i < N) (hN : N < 2 ^ 31) (d : decode cc pc = .ok (.lastore, 1))
    (kk : xk_Go K D nL k n w' lv (pc + 1) st) : xk_Go K D nL k n w lv pc (.long x :: .int (nI i) :: .ref a :: st) := by
  obtain ⟨p, l, e, R, s, m, args, below, meth, c, Q, A⟩ := K
  obtain ⟨hx, hb, hml, hown, hts, hK, -⟩ := C
  subst hf
  subst hw
  intro H locs ls hP hD hS hl
  refine va_last hx hb hK hP hD hS q0 t0 ha ht (vp_in_nI hi hN) d (fun H1 locs1 hP hD hS => ?_)
  rw [nI_clamp (by omega)] at hP hD
  exact kk H1 locs1 ls hP hD hS hl
end XK2
-- contracts
def xk_Pre (D : va_G) (ty : List (ClassId × FieldType)) (as : List Value) (w : va_W) (sz : Nat) : Array Value → State → Prop := va_Pc as (fun U => U.heap.size = sz ∧ va_P D vwCl w U.heap ∧ va_K D vwCl ty U ∧ va_D (fun _ => True) w)
def xk_Q (post : Option Value → va_W → Prop) (D : va_G) (A : Nat → Prop) : Array Value → State → Outcome → State → Prop := fun _ st oc t => (∃ (v : Option Value) (u : va_W), oc = .returned v ∧ post v u ∧ va_P D vwCl u t.heap ∧ va_D A u) ∧ va_F A st t
/-- THE CONTRACT of a method: from the cells w and the arguments as it returns v with the cells u, 'post v u' -/
def xk_Ct (y : MethodName) (cc : ByteArray) (nL : Nat) (rt : Option FieldType) (rm : Room) (D : va_G) (ty : List (ClassId × FieldType)) (as : List Value) (w : va_W) (post : Option Value → va_W → Prop) : Prop :=
  ∀ (l : Launch) (sz : Nat), Met l y (.code y cc nL rt :: xk_gt) rm (xk_Pre D ty as w sz) (xk_Q post D (va_A w sz)) rm.cells rm.slots (va_A w sz)
/-- the ends of a method -/
def xk_Rt (K : xk_T) (D : va_G) (rt : Option FieldType) (post : Option Value → va_W → Prop) (mc ms : Nat) : Prop := match K with
  | (_, _, _, _, s, _, args, below, meth, _, Q, A) => meth.sig.returnType = rt ∧ meth.locks = false ∧ Q = MQ below (xk_Q post D A) args s mc ms A
theorem xk_Pre_blind {D : va_G} {ty : List (ClassId × FieldType)} {as : List Value} {w : va_W} {sz : Nat} : FrameBlind (xk_Pre D ty as w sz) := fun a U g mk q => by
  obtain ⟨q0, q1, qP, qK, qD⟩ := q
  exact ⟨q0, q1, qP, va_K.moved (u := U) (U := U.calling g mk a) (Vm.Alike.refl U.vm) qK, qD⟩
theorem xk_enter {y : MethodName} {cc : ByteArray} {nL : Nat} {rt : Option FieldType} {rm : Room} {D : va_G} {ty : List (ClassId × FieldType)} {as : List Value} {w : va_W} {post : Option Value → va_W → Prop}
    (hy : plainName y.cls = true) (hlv : (lg_sl as).length ≤ nL)
    (body : ∀ K : xk_T, xk_Ok K D cc nL y.cls rm ty → xk_Rt K D rt post rm.cells rm.slots → (y.name = "<init>" → xk_In K) → xk_Go K D nL 0 0 w (lv_args 0 as) 0 []) : xk_Ct y cc nL rt rm D ty as w post := by
  intro l sz
  refine Met.ofW (cc := cc) (maxL := nL) (ret := rt) hy rfl ?_
  intro p e s m args below meth c s₁ B hml hv
  obtain ⟨rfl, hsz, hP, hK, hD0⟩ := hv
  have hts := atoms_spec (ws := .code y cc nL rt :: xk_gt) B.pre
  have hown : s.vm.findClass y.cls = some m.cls := findClass_of_methodNamed B.named
  subst hsz
  have hD := hD0.self (sz := s.heap.size)
  have hA : ∀ q : Nat, s.heap.size ≤ q → va_A w s.heap.size q := fun q h => Or.inr h
  have hl := lv_entry as (n := nL) hlv
  rw [lg_entry_eq]
  exact body (p, l, e, rm, s, m, as.toArray, below, meth, c, MQ below (xk_Q post D (va_A w s.heap.size)) as.toArray s rm.cells rm.slots (va_A w s.heap.size), va_A w s.heap.size)
    ⟨B.exec, B.bytes, hml, hown, fun x hx => hts x (List.mem_cons_of_mem _ hx), hK, hA, rfl⟩ ⟨B.returns, B.notSynchronized, rfl⟩ (fun h => by
      show meth.name = "<init>"
      rw [(name_of_methodNamed B.named B.method).1]; exact h)
    s.heap [] _ hP hD va_S.rf hl
section XK3
variable {K : xk_T} {D : va_G} {cc : ByteArray} {nL mc ms : Nat} {own : String} {R0 : Room} {ty : List (ClassId × FieldType)} {w : va_W} {lv : List (Nat × Value)} {pc : Nat} {rt : Option FieldType} {post : Option Value → va_W → Prop}
theorem x_iret (C : xk_Ok K D cc nL own R0 ty) (T : xk_Rt K D rt post mc ms) {v : Int32} (ft : FieldType) (hr : rt = some ft) (hn : narrow ft (.int v) = .int v) (d : decode cc pc = .ok (.ireturn, 1)) (hp : post (some (.int v)) w) : xk_Go K D nL mc ms w lv pc [.int v] := by
  obtain ⟨p, l, e, R, s, m, args, below, meth, c, Q, A⟩ := K
  obtain ⟨hx, hb, -⟩ := C
  obtain ⟨h1, h2, h3⟩ := T
  subst hr
  subst h3
  intro H locs ls hP hD hS hl
  exact W.zret hx hb h1 hn (fun t ht hW => ⟨⟨_, w, rfl, hp, by rw [ht]; exact hP, hD⟩, hS.F ht⟩) hS.2.2 d h2
theorem x_lret (C : xk_Ok K D cc nL own R0 ty) (T : xk_Rt K D rt post mc ms) {v : Int64} (hr : rt = some .long) (d : decode cc pc = .ok (.lreturn, 1)) (hp : post (some (.long v)) w) : xk_Go K D nL mc ms w lv pc [.long v] := by
  obtain ⟨p, l, e, R, s, m, args, below, meth, c, Q, A⟩ := K
  obtain ⟨hx, hb, -⟩ := C
  obtain ⟨h1, h2, h3⟩ := T
  subst hr
  subst h3
  intro H locs ls hP hD hS hl
  exact W.lret hx hb h1 (fun t ht hW => ⟨⟨_, w, rfl, hp, by rw [ht]; exact hP, hD⟩, hS.F ht⟩) hS.2.2 d h2
theorem x_vret (C : xk_Ok K D cc nL own R0 ty) (T : xk_Rt K D rt post mc ms) (hr : rt = none) (d : decode cc pc = .ok (.return_, 1)) (hp : post none w) : xk_Go K D nL mc ms w lv pc [] := by
  obtain ⟨p, l, e, R, s, m, args, below, meth, c, Q, A⟩ := K
  obtain ⟨hx, hb, -⟩ := C
  obtain ⟨h1, h2, h3⟩ := T
  subst hr
  subst h3
  intro H locs ls hP hD hS hl
  exact W.vret hx hb h1 (fun t ht hW => ⟨⟨_, w, rfl, hp, by rw [ht]; exact hP, hD⟩, hS.F ht⟩) hS.2.2 d h2
end XK3
/-! WALKING ROWS 3: calls. -/
theorem xk_fm {α β : Type} {f : α → Option β} {is : List α} {wc : List β} (h : is.map f = wc.map some) : is.filterMap f = wc := by
  have h1 : is.filterMap f = (is.map f).filterMap id := by rw [List.filterMap_map]; rfl
  rw [h1, h, List.filterMap_map]
  exact List.filterMap_some
theorem xk_gt_in : GoodIn xk_gt xk_gt := fun w hw => ⟨hw, good_of_word (xk_gt_good w hw)⟩
section XK4
variable {p : Program} {l : Launch} {e : Env} {R : Room} {s : State} {m : MethodId} {args : Array Value} {below : List Frame} {meth : Method} {c : Code} {H : Heap} {locs : List Loc} {cells slots mc ms : Nat} {Q : State → Prop}
theorem xk_call {pc : Nat} {ls : Array Slot} {st0 rest : List Value} {post : Option Value → va_W → Prop} {D : va_G} {A0 A1 : Nat → Prop} {a : Array Value} {free : Addr → Prop} {H0 : Heap}
    (hr : va_Run p l e R s m args below meth c H locs cells slots mc ms (F0 m pc ls st0) rest (xk_Q post D A1 a) free) (hS : va_S A0 H0 H locs) (hA : ∀ q, q < H.size → A1 q → A0 q) (hf : ∀ q, free q → A0 q)
    (kk : ∀ (v : Option Value) (u : va_W) (H1 : Heap) (locs1 : List Loc), post v u → va_P D vwCl u H1 → va_D A1 u → H.size ≤ H1.size → (∀ q : Nat, q < H.size → ¬ A1 q → H1[q]? = H[q]?) → va_S A0 H0 H1 locs1 → W p l e R s m args below meth c H1 locs1 (cells + mc) (slots + ms) Q (F0 m (pc + 3) ls (v.toList ++ rest))) : W p l e R s m args below meth c H locs cells slots Q (F0 m pc ls st0) := by
  intro T hT X
  obtain ⟨v, st₀, t, T', L, h0, X', hL, e1, e2, ⟨⟨v', u, hv, hp, hPu, hDu⟩, hz, hk⟩, st⟩ := hr T hT X
  cases hv
  rw [h0] at hz hk
  have hz' : H.size ≤ T'.heap.size := by rw [e1]; exact hz
  have hk' : ∀ q : Nat, q < H.size → ¬ A1 q → T'.heap[q]? = H[q]? := fun q h1 h2 => by rw [e1]; exact hk q h1 h2
  obtain ⟨t2, a1, b1⟩ := kk v u T'.heap (locs ++ L) hp (by rw [e1]; exact hPu) hDu hz' hk'
    ⟨Nat.le_trans hS.1 hz', fun q h1 h2 => (hk' q (Nat.lt_of_lt_of_le h1 hS.1) (fun z => h2 (hA q (Nat.lt_of_lt_of_le h1 hS.1) z))).trans (hS.2.1 q h1 h2), fun q hq => by
      rcases List.mem_append.mp hq with h | h
      · exact hS.2.2 q h
      · exact hf _ (hL q h)⟩ T' rfl X'
  exact ⟨t2, st t2 a1, b1⟩
end XK4
/-- a call's words: the callee's code, its class, the caller's link, so many arguments -/
def xk_CB (own : String) (idx : Nat) (y : MethodName) (cc : ByteArray) (nL : Nat) (rt : Option FieldType) (na : Nat) : Prop := Cond.code y cc nL rt ∈ xk_gt ∧ Cond.initialized y.cls ∈ xk_gt ∧ Cond.methodLink own idx y ∈ xk_gt ∧
  (y.cls ≠ "java/lang/invoke/MethodHandle" ∧ y.cls ≠ "java/lang/invoke/VarHandle" ∧ (parseMethodDescriptor y.desc).map (fun d => d.parameters.length) = some na)
theorem xk_callB {own : String} {idx : Nat} {y : MethodName} {cc : ByteArray} {nL : Nat} {rt : Option FieldType} {na : Nat} {R rm : Room} {s : State} {args : Array Value} (h : xk_CB own idx y cc nL rt na) (hts : ∀ w ∈ xk_gt, w.before args s = true)
    (hR : rm.frames + 1 ≤ R.frames ∧ 8 + (nL + 11) + rm.locals ≤ R.locals) : CallB R s args own idx y cc nL rt (.code y cc nL rt :: xk_gt) rm rm.cells rm.slots na := by
  obtain ⟨h1, h2, h3, h4⟩ := h
  refine callB_of na hts (fun w hw => ?_) rfl rfl rfl (hts _ h2) (hts _ h3) h4 hR
  rcases List.mem_cons.mp hw with rfl | hw
  · exact xk_gt_in _ h1
  · exact xk_gt_in _ hw
section XK5
variable {K : xk_T} {D : va_G} {cc : ByteArray} {nL k n : Nat} {own : String} {R0 : Room} {ty : List (ClassId × FieldType)} {w : va_W} {lv : List (Nat × Value)} {pc : Nat} {st : List Value}
theorem x_callV (C : xk_Ok K D cc nL own R0 ty) {y : MethodName} {cc' : ByteArray} {nL' : Nat} {rt' : Option FieldType} {rm : Room} {ty' : List (ClassId × FieldType)} {wc : va_W} {post : Option Value → va_W → Prop} {b : Nat} {As : List Value}
    (hM : xk_Ct y cc' nL' rt' rm D ty' (.ref b :: As) wc post) {idx na : Nat} (hk : xk_CB own idx y cc' nL' rt' na) (hk2 : Cond.instanceMethod y ∈ xk_gt ∧ Cond.selects y.cls y y ∈ xk_gt)
    (isC isR isT : List Nat) (wr : va_W) (hC : isC.map (fun i => w[i]?) = wc.map some) (hR : isR.map (fun i => w[i]?) = wr.map some) (hnC : va_nd isC = true) (hnR : va_nd isR = true) (hdis : ∀ i ∈ isR, i ∉ isC) (hT : isT.filterMap (fun i => ty[i]?) = ty')
    (r0 : Nat) {ci : Nat} {fs : List Value} (hrc : wc[r0]? = some (b, .inr (ci, fs))) (hcl : (vwCl[ci]?).map (fun q => q.1) = some y.cls)
    (hroom : rm.frames + 1 ≤ R0.frames ∧ 8 + (nL' + 11) + rm.locals ≤ R0.locals) (hcells : k + rm.cells ≤ R0.cells ∧ n + rm.slots ≤ R0.slots)
    {st0 : List Value} (st : List Value) (hst : st0 = As.reverse ++ .ref b :: st) (hna : As.length = na) (hcat : (st.map fun v => v.category).sum ≤ 8) (d : decode cc pc = .ok (.invokevirtual idx, 3))
    (kk : ∀ (v : Option Value) (u : va_W), post v u → xk_Go K D nL (k + rm.cells) (n + rm.slots) (wr ++ u) lv (pc + 3) (v.toList ++ st)) : xk_Go K D nL k n w lv pc st0 := by
  obtain ⟨p, l, e, R, s, m, args, below, meth, c, Q, A⟩ := K
  obtain ⟨hx, hb, hml, hown, hts, hK, hA, hR0⟩ := C
  subst hR0
  subst hst
  intro H locs ls hP hD hS hl
  have hPc := hP.sub isC (xk_fm hC)
  have hDc := hD.sub isC hnC hC
  have hKc := hK.sub isT hT
  have hFc := va_free (wc := wc) hD hS hA isC hC
  have hrv : ∃ cell : Cell, H[b]? = some cell ∧ cell.vm.isStatics = false ∧ s.vm.findClass y.cls = some cell.cls := by
    cases hq : vwCl[ci]? with
    | none => rw [hq] at hcl; cases hcl
    | some q =>
      rw [hq] at hcl
      have : q.1 = y.cls := Option.some.inj hcl
      rw [← this]
      exact va_recv hKc hPc hq hrc
  refine xk_call (va_runV (As := As) (rest := st) ⟨hx, hb, hml, hown, hts⟩ (hM l H.size) ⟨xk_callB hk hts hroom, hts _ hk2.1, hts _ hk2.2⟩ ⟨xk_Pre_blind, hrv, fun U hU hW => ⟨rfl, by rw [hU], by rw [hU]; exact hPc, va_K.moved hW.alike hKc, hDc.weaken (fun _ _ _ _ => trivial)⟩⟩ rfl hna hl.1 rfl (lv_room hcat) d hcells) hS (fun q _ h => hFc q h) hFc (fun v u H1 locs1 hp hP1 hD1 hz hk1 hS1 => ?_)
  obtain ⟨hP', hD'⟩ := va_join hP hD isC isR hC hR hnR hdis hk1 hFc hP1 hD1
  exact kk v u hp H1 locs1 ls hP' hD' hS1 hl
theorem x_callS (C : xk_Ok K D cc nL own R0 ty) {y : MethodName} {cc' : ByteArray} {nL' : Nat} {rt' : Option FieldType} {rm : Room} {ty' : List (ClassId × FieldType)} {wc : va_W} {post : Option Value → va_W → Prop} {As : List Value}
    (hM : xk_Ct y cc' nL' rt' rm D ty' As wc post) {idx na : Nat} (hk : xk_CB own idx y cc' nL' rt' na) (hk2 : Cond.static y ∈ xk_gt)
    (isC isR isT : List Nat) (wr : va_W) (hC : isC.map (fun i => w[i]?) = wc.map some) (hR : isR.map (fun i => w[i]?) = wr.map some) (hnC : va_nd isC = true) (hnR : va_nd isR = true) (hdis : ∀ i ∈ isR, i ∉ isC) (hT : isT.filterMap (fun i => ty[i]?) = ty')
    (hroom : rm.frames + 1 ≤ R0.frames ∧ 8 + (nL' + 11) + rm.locals ≤ R0.locals) (hcells : k + rm.cells ≤ R0.cells ∧ n + rm.slots ≤ R0.slots)
    {st0 : List Value} (st : List Value) (hst : st0 = As.reverse ++ st) (hna : As.length = na) (hcat : (st.map fun v => v.category).sum ≤ 8) (d : decode cc pc = .ok (.invokestatic idx, 3))
    (kk : ∀ (v : Option Value) (u : va_W), post v u → xk_Go K D nL (k + rm.cells) (n + rm.slots) (wr ++ u) lv (pc + 3) (v.toList ++ st)) : xk_Go K D nL k n w lv pc st0 := by
  obtain ⟨p, l, e, R, s, m, args, below, meth, c, Q, A⟩ := K
  obtain ⟨hx, hb, hml, hown, hts, hK, hA, hR0⟩ := C
  subst hR0
  subst hst
  intro H locs ls hP hD hS hl
  have hPc := hP.sub isC (xk_fm hC)
  have hDc := hD.sub isC hnC hC
  have hKc := hK.sub isT hT
  have hFc := va_free (wc := wc) hD hS hA isC hC
  refine xk_call (va_runS (As := As) (rest := st) ⟨hx, hb, hml, hown, hts⟩ (hM l H.size) ⟨xk_callB hk hts hroom, hts _ hk2⟩ ⟨xk_Pre_blind, fun U hU hW => ⟨rfl, by rw [hU], by rw [hU]; exact hPc, va_K.moved hW.alike hKc, hDc.weaken (fun _ _ _ _ => trivial)⟩⟩ rfl hna hl.1 rfl (lv_room hcat) d hcells) hS (fun q _ h => hFc q h) hFc (fun v u H1 locs1 hp hP1 hD1 hz hk1 hS1 => ?_)
  obtain ⟨hP', hD'⟩ := va_join hP hD isC isR hC hR hnR hdis hk1 hFc hP1 hD1
  exact kk v u hp H1 locs1 ls hP' hD' hS1 hl
theorem x_callI (C : xk_Ok K D cc nL own R0 ty) {y : MethodName} {cc' : ByteArray} {nL' : Nat} {rm : Room} {ty' : List (ClassId × FieldType)} {wc : va_W} {post : Option Value → va_W → Prop} {b : Nat} {As : List Value}
    (hM : xk_Ct y cc' nL' none rm D ty' (.ref b :: As) wc post) {idx na : Nat} (hk : xk_CB own idx y cc' nL' none na) (hk2 : y.name = "<init>" ∧ Cond.instanceMethod y ∈ xk_gt)
    (isC isR isT : List Nat) (wr : va_W) (hC : isC.map (fun i => w[i]?) = wc.map some) (hR : isR.map (fun i => w[i]?) = wr.map some) (hnC : va_nd isC = true) (hnR : va_nd isR = true) (hdis : ∀ i ∈ isR, i ∉ isC) (hT : isT.filterMap (fun i => ty[i]?) = ty')
    (hroom : rm.frames + 1 ≤ R0.frames ∧ 8 + (nL' + 11) + rm.locals ≤ R0.locals) (hcells : k + rm.cells ≤ R0.cells ∧ n + rm.slots ≤ R0.slots)
    {st0 : List Value} (st : List Value) (hst : st0 = As.reverse ++ .ref b :: st) (hna : As.length = na) (hcat : (st.map fun v => v.category).sum ≤ 8) (d : decode cc pc = .ok (.invokespecial idx, 3))
    (kk : ∀ (v : Option Value) (u : va_W), post v u → xk_Go K D nL (k + rm.cells) (n + rm.slots) (wr ++ u) lv (pc + 3) (v.toList ++ st)) : xk_Go K D nL k n w lv pc st0 := by
  obtain ⟨p, l, e, R, s, m, args, below, meth, c, Q, A⟩ := K
  obtain ⟨hx, hb, hml, hown, hts, hK, hA, hR0⟩ := C
  subst hR0
  subst hst
  intro H locs ls hP hD hS hl
  have hPc := hP.sub isC (xk_fm hC)
  have hDc := hD.sub isC hnC hC
  have hKc := hK.sub isT hT
  have hFc := va_free (wc := wc) hD hS hA isC hC
  refine xk_call (va_runI (As := As) (rest := st) ⟨hx, hb, hml, hown, hts⟩ (hM l H.size) ⟨xk_callB hk hts hroom, hk2.1, hts _ hk2.2⟩ ⟨xk_Pre_blind, fun U hU hW => ⟨rfl, by rw [hU], by rw [hU]; exact hPc, va_K.moved hW.alike hKc, hDc.weaken (fun _ _ _ _ => trivial)⟩⟩ rfl hna hl.1 rfl (lv_room hcat) d hcells) hS (fun q _ h => hFc q h) hFc (fun v u H1 locs1 hp hP1 hD1 hz hk1 hS1 => ?_)
  obtain ⟨hP', hD'⟩ := va_join hP hD isC isR hC hR hnR hdis hk1 hFc hP1 hD1
  exact kk v u hp H1 locs1 ls hP' hD' hS1 hl
end XK5
/-! WALKING ROWS 4: branches and sums in numbers. -/
theorem xk_cmp_lt (x y : Int64) : lg_cmp x y < 0 ↔ x < y := by
  unfold lg_cmp
  by_cases h1 : y < x
  · rw [if_pos h1]
    refine ⟨fun h => absurd h (by decide), fun h => ?_⟩
    exact absurd (Int64.lt_trans h1 h) (Int64.lt_irrefl)
  · rw [if_neg h1]
    by_cases h2 : x = y
    · rw [if_pos h2]
      refine ⟨fun h => absurd h (by decide), fun h => absurd h (by rw [h2]; exact Int64.lt_irrefl)⟩
    · rw [if_neg h2]
      refine ⟨fun _ => ?_, fun _ => by decide⟩
      rw [Int64.lt_iff_toInt_lt] at h1 ⊢
      have h3 : x.toInt ≠ y.toInt := fun q => h2 (Int64.toInt_inj.mp q)
      omega
theorem xk_cmp_eq (x y : Int64) : lg_cmp x y = 0 ↔ x = y := by
  unfold lg_cmp
  by_cases h1 : y < x
  · rw [if_pos h1]
    refine ⟨fun h => absurd h (by decide), fun h => ?_⟩
    rw [h] at h1
    exact absurd h1 Int64.lt_irrefl
  · rw [if_neg h1]
    by_cases h2 : x = y
    · rw [if_pos h2]
      exact ⟨fun _ => h2, fun _ => rfl⟩
    · rw [if_neg h2]
      exact ⟨fun h => absurd h (by decide), fun h => absurd h h2⟩
theorem xk_cmp_gt (x y : Int64) : 0 < lg_cmp x y ↔ y < x := by
  unfold lg_cmp
  by_cases h1 : y < x
  · rw [if_pos h1]
    exact ⟨fun _ => h1, fun _ => by decide⟩
  · rw [if_neg h1]
    by_cases h2 : x = y
    · rw [if_pos h2]
      exact ⟨fun h => absurd h (by decide), fun h => absurd h h1⟩
    · rw [if_neg h2]
      exact ⟨fun h => absurd h (by decide), fun h => absurd h h1⟩
theorem xk_cmp_ge (x y : Int64) : 0 ≤ lg_cmp x y ↔ y ≤ x := by
  rw [← Int32.not_lt, xk_cmp_lt, Int64.not_lt]
theorem xk_cmp_le (x y : Int64) : lg_cmp x y ≤ 0 ↔ x ≤ y := by
  rw [← Int32.not_lt, xk_cmp_gt, Int64.not_lt]
section XK6
variable {K : xk_T} {D : va_G} {cc : ByteArray} {nL k n : Nat} {own : String} {R0 : Room} {ty : List (ClassId × FieldType)} {w : va_W} {lv : List (Nat × Value)} {pc : Nat} {st : List Value}
theorem x_top {x y : Int32} (h : x = y) (kk : xk_Go K D nL k n w lv pc (.int y :: st)) : xk_Go K D nL k n w lv pc (.int x :: st) := h ▸ kk
theorem x_topl {x y : Int64} (h : x = y) (kk : xk_Go K D nL k n w lv pc (.long y :: st)) : xk_Go K D nL k n w lv pc (.long x :: st) := h ▸ kk
theorem x_iaddN (C : xk_Ok K D cc nL own R0 ty) {a b : Nat} (d : decode cc pc = .ok (.iadd, 1)) (kk : xk_Go K D nL k n w lv (pc + 1) (.int (nI (a + b)) :: st)) : xk_Go K D nL k n w lv pc (.int (nI b) :: .int (nI a) :: st) := x_iadd C d (x_top (nI_add a b) kk)
theorem x_isubN (C : xk_Ok K D cc nL own R0 ty) {a b : Nat} (h : b ≤ a) (d : decode cc pc = .ok (.isub, 1)) (kk : xk_Go K D nL k n w lv (pc + 1) (.int (nI (a - b)) :: st)) : xk_Go K D nL k n w lv pc (.int (nI b) :: .int (nI a) :: st) := x_isub C d (x_top (pk_sub h) kk)
theorem x_imulN (C : xk_Ok K D cc nL own R0 ty) {a b : Nat} (d : decode cc pc = .ok (.imul, 1)) (kk : xk_Go K D nL k n w lv (pc + 1) (.int (nI (a * b)) :: st)) : xk_Go K D nL k n w lv pc (.int (nI b) :: .int (nI a) :: st) := x_imul C d (x_top (pk_mul a b) kk)
theorem x_idivN (C : xk_Ok K D cc nL own R0 ty) {a b : Nat} (ha : a < 2 ^ 31) (h0 : 0 < b) (hb : b < 2 ^ 31) (d : decode cc pc = .ok (.idiv, 1)) (kk : xk_Go K D nL k n w lv (pc + 1) (.int (nI (a / b)) :: st)) : xk_Go K D nL k n w lv pc (.int (nI b) :: .int (nI a) :: st) := x_idiv C d (nI_ne0 h0 hb) (x_top (pk_div ha h0 hb) kk)
theorem x_iremN (C : xk_Ok K D cc nL own R0 ty) {a b : Nat} (ha : a < 2 ^ 31) (h0 : 0 < b) (hb : b < 2 ^ 31) (d : decode cc pc = .ok (.irem, 1)) (kk : xk_Go K D nL k n w lv (pc + 1) (.int (nI (a % b)) :: st)) : xk_Go K D nL k n w lv pc (.int (nI b) :: .int (nI a) :: st) := x_irem C d (nI_ne0 h0 hb) (x_top (pk_rem ha h0 hb) kk)
theorem x_icmp_eqN (C : xk_Ok K D cc nL own R0 ty) {a b : Nat} (ha : a < 2 ^ 31) (hb : b < 2 ^ 31) {off : Int} {tgt : Nat} (d : decode cc pc = .ok (.if_icmp .eq off, 3)) (ht : (pc : Int) + off = (tgt : Int))
    (kt : a = b → xk_Go K D nL k n w lv tgt st) (kf : ¬ a = b → xk_Go K D nL k n w lv (pc + 3) st) : xk_Go K D nL k n w lv pc (.int (nI b) :: .int (nI a) :: st) :=
  x_icmp_eq C d ht (fun h => kt ((nI_eq ha hb).mp h)) (fun h => kf (fun q => h ((nI_eq ha hb).mpr q)))
theorem x_icmp_neN (C : xk_Ok K D cc nL own R0 ty) {a b : Nat} (ha : a < 2 ^ 31) (hb : b < 2 ^ 31) {off : Int} {tgt : Nat} (d : decode cc pc = .ok (.if_icmp .ne off, 3)) (ht : (pc : Int) + off = (tgt : Int))
    (kt : ¬ a = b → xk_Go K D nL k n w lv tgt st) (kf : a = b → xk_Go K D nL k n w lv (pc + 3) st) : xk_Go K D nL k n w lv pc (.int (nI b) :: .int (nI a) :: st) :=
  x_icmp_ne C d ht (fun h => kt (fun q => h ((nI_eq ha hb).mpr q))) (fun h => kf ((nI_eq ha hb).mp h))
theorem x_icmp_ltN (C : xk_Ok K D cc nL own R0 ty) {a b : Nat} (ha : a < 2 ^ 31) (hb : b < 2 ^ 31) {off : Int} {tgt : Nat} (d : decode cc pc = .ok (.if_icmp .lt off, 3)) (ht : (pc : Int) + off = (tgt : Int))
    (kt : a < b → xk_Go K D nL k n w lv tgt st) (kf : b ≤ a → xk_Go K D nL k n w lv (pc + 3) st) : xk_Go K D nL k n w lv pc (.int (nI b) :: .int (nI a) :: st) :=
  x_icmp_lt C d ht (fun h => kt ((nI_ltI ha hb).mp h)) (fun h => kf (Nat.not_lt.mp (fun q => h ((nI_ltI ha hb).mpr q))))
theorem x_icmp_geN (C : xk_Ok K D cc nL own R0 ty) {a b : Nat} (ha : a < 2 ^ 31) (hb : b < 2 ^ 31) {off : Int} {tgt : Nat} (d : decode cc pc = .ok (.if_icmp .ge off, 3)) (ht : (pc : Int) + off = (tgt : Int))
    (kt : b ≤ a → xk_Go K D nL k n w lv tgt st) (kf : a < b → xk_Go K D nL k n w lv (pc + 3) st) : xk_Go K D nL k n w lv pc (.int (nI b) :: .int (nI a) :: st) :=
  x_icmp_ge C d ht (fun h => kt ((nI_leI hb ha).mp h)) (fun h => kf (Nat.not_le.mp (fun q => h ((nI_leI hb ha).mpr q))))
theorem x_icmp_gtN (C : xk_Ok K D cc nL own R0 ty) {a b : Nat} (ha : a < 2 ^ 31) (hb : b < 2 ^ 31) {off : Int} {tgt : Nat} (d : decode cc pc = .ok (.if_icmp .gt off, 3)) (ht : (pc : Int) + off = (tgt : Int))
    (kt : b < a → xk_Go K D nL k n w lv tgt st) (kf : a ≤ b → xk_Go K D nL k n w lv (pc + 3) st) : xk_Go K D nL k n w lv pc (.int (nI b) :: .int (nI a) :: st) :=
  x_icmp_gt C d ht (fun h => kt ((nI_ltI hb ha).mp h)) (fun h => kf (Nat.not_lt.mp (fun q => h ((nI_ltI hb ha).mpr q))))
theorem x_icmp_leN (C : xk_Ok K D cc nL own R0 ty) {a b : Nat} (ha : a < 2 ^ 31) (hb : b < 2 ^ 31) {off : Int} {tgt : Nat} (d : decode cc pc = .ok (.if_icmp .le off, 3)) (ht : (pc : Int) + off = (tgt : Int))
    (kt : a ≤ b → xk_Go K D nL k n w lv tgt st) (kf : b < a → xk_Go K D nL k n w lv (pc + 3) st) : xk_Go K D nL k n w lv pc (.int (nI b) :: .int (nI a) :: st) :=
  x_icmp_le C d ht (fun h => kt ((nI_leI ha hb).mp h)) (fun h => kf (Nat.not_le.mp (fun q => h ((nI_leI ha hb).mpr q))))
theorem x_if_eqN (C : xk_Ok K D cc nL own R0 ty) {a : Nat} (ha : a < 2 ^ 31) {off : Int} {tgt : Nat} (d : decode cc pc = .ok (.ifCond .eq off, 3)) (ht : (pc : Int) + off = (tgt : Int))
    (kt : a = 0 → xk_Go K D nL k n w lv tgt st) (kf : ¬ a = 0 → xk_Go K D nL k n w lv (pc + 3) st) : xk_Go K D nL k n w lv pc (.int (nI a) :: st) := by
  have h0 : nI a = 0 → a = 0 := fun h => (nI_eq ha (by decide)).mp (h.trans nI_0.symm)
  exact x_if_eq C d ht (fun h => kt (h0 h)) (fun h => kf (fun q => h (by rw [q]; rfl)))
theorem x_if_neN (C : xk_Ok K D cc nL own R0 ty) {a : Nat} (ha : a < 2 ^ 31) {off : Int} {tgt : Nat} (d : decode cc pc = .ok (.ifCond .ne off, 3)) (ht : (pc : Int) + off = (tgt : Int))
    (kt : ¬ a = 0 → xk_Go K D nL k n w lv tgt st) (kf : a = 0 → xk_Go K D nL k n w lv (pc + 3) st) : xk_Go K D nL k n w lv pc (.int (nI a) :: st) := by
  have h0 : nI a = 0 → a = 0 := fun h => (nI_eq ha (by decide)).mp (h.trans nI_0.symm)
  exact x_if_ne C d ht (fun h => kt (fun q => h (by rw [q]; rfl))) (fun h => kf (h0 h))
theorem x_if_gtN (C : xk_Ok K D cc nL own R0 ty) {a : Nat} (ha : a < 2 ^ 31) {off : Int} {tgt : Nat} (d : decode cc pc = .ok (.ifCond .gt off, 3)) (ht : (pc : Int) + off = (tgt : Int))
    (kt : 0 < a → xk_Go K D nL k n w lv tgt st) (kf : a = 0 → xk_Go K D nL k n w lv (pc + 3) st) : xk_Go K D nL k n w lv pc (.int (nI a) :: st) := by
  have h0 : nI a = 0 → a = 0 := fun h => (nI_eq ha (by decide)).mp (h.trans nI_0.symm)
  exact x_if_gt C d ht (fun h => kt (Nat.pos_of_ne_zero (fun q => by rw [q] at h; exact absurd h (by decide)))) (fun h => kf ((Nat.eq_zero_or_pos a).resolve_right (fun q => h (nI_lt q ha))))
theorem x_if_leN (C : xk_Ok K D cc nL own R0 ty) {a : Nat} (ha : a < 2 ^ 31) {off : Int} {tgt : Nat} (d : decode cc pc = .ok (.ifCond .le off, 3)) (ht : (pc : Int) + off = (tgt : Int))
    (kt : a = 0 → xk_Go K D nL k n w lv tgt st) (kf : 0 < a → xk_Go K D nL k n w lv (pc + 3) st) : xk_Go K D nL k n w lv pc (.int (nI a) :: st) := by
  have h0 : nI a = 0 → a = 0 := fun h => (nI_eq ha (by decide)).mp (h.trans nI_0.symm)
  exact x_if_le C d ht (fun h => kt ((Nat.eq_zero_or_pos a).resolve_right (fun q => nI_nle q ha h))) (fun h => kf (Nat.pos_of_ne_zero (fun q => h (by rw [q]; decide))))
theorem x_if_ltN (C : xk_Ok K D cc nL own R0 ty) {a : Nat} (ha : a < 2 ^ 31) {off : Int} {tgt : Nat} (d : decode cc pc = .ok (.ifCond .lt off, 3)) (ht : (pc : Int) + off = (tgt : Int))
    (kf : xk_Go K D nL k n w lv (pc + 3) st) : xk_Go K D nL k n w lv pc (.int (nI a) :: st) := x_if_lt C d ht (fun h => absurd h (nI_pos ha)) (fun _ => kf)
theorem x_if_geN (C : xk_Ok K D cc nL own R0 ty) {a : Nat} (ha : a < 2 ^ 31) {off : Int} {tgt : Nat} (d : decode cc pc = .ok (.ifCond .ge off, 3)) (ht : (pc : Int) + off = (tgt : Int))
    (kt : xk_Go K D nL k n w lv tgt st) : xk_Go K D nL k n w lv pc (.int (nI a) :: st) := x_if_ge C d ht (fun _ => kt) (fun h => absurd (nI_pos' ha) h)
theorem x_if_ltO (C : xk_Ok K D cc nL own R0 ty) {o : Option Nat} (ho : ∀ v, o = some v → v < 2 ^ 31) {off : Int} {tgt : Nat} (d : decode cc pc = .ok (.ifCond .lt off, 3)) (ht : (pc : Int) + off = (tgt : Int))
    (kt : o = none → xk_Go K D nL k n w lv tgt st) (kf : ∀ v, o = some v → xk_Go K D nL k n w lv (pc + 3) st) : xk_Go K D nL k n w lv pc (.int (xk_oI o) :: st) := by
  cases o with
  | none => exact x_if_lt C d ht (fun _ => kt rfl) (fun h => absurd (by decide) h)
  | some v => exact x_if_ltN C (ho v rfl) d ht (kf v rfl)
theorem x_if_geO (C : xk_Ok K D cc nL own R0 ty) {o : Option Nat} (ho : ∀ v, o = some v → v < 2 ^ 31) {off : Int} {tgt : Nat} (d : decode cc pc = .ok (.ifCond .ge off, 3)) (ht : (pc : Int) + off = (tgt : Int))
    (kt : ∀ v, o = some v → xk_Go K D nL k n w lv tgt st) (kf : o = none → xk_Go K D nL k n w lv (pc + 3) st) : xk_Go K D nL k n w lv pc (.int (xk_oI o) :: st) := by
  cases o with
  | none => exact x_if_ge C d ht (fun h => absurd h (by decide)) (fun _ => kf rfl)
  | some v => exact x_if_geN C (ho v rfl) d ht (kt v rfl)
theorem x_if_eqB (C : xk_Ok K D cc nL own R0 ty) {b : Bool} {off : Int} {tgt : Nat} (d : decode cc pc = .ok (.ifCond .eq off, 3)) (ht : (pc : Int) + off = (tgt : Int))
    (kt : b = false → xk_Go K D nL k n w lv tgt st) (kf : b = true → xk_Go K D nL k n w lv (pc + 3) st) : xk_Go K D nL k n w lv pc (.int (xk_bZ b) :: st) := by
  cases b with
  | false => exact x_if_eq C d ht (fun _ => kt rfl) (fun h => absurd (by decide) h)
  | true => exact x_if_eq C d ht (fun h => absurd h (by decide)) (fun _ => kf rfl)
theorem x_if_neB (C : xk_Ok K D cc nL own R0 ty) {b : Bool} {off : Int} {tgt : Nat} (d : decode cc pc = .ok (.ifCond .ne off, 3)) (ht : (pc : Int) + off = (tgt : Int))
    (kt : b = true → xk_Go K D nL k n w lv tgt st) (kf : b = false → xk_Go K D nL k n w lv (pc + 3) st) : xk_Go K D nL k n w lv pc (.int (xk_bZ b) :: st) := by
  cases b with
  | false => exact x_if_ne C d ht (fun h => absurd (by decide) h) (fun _ => kf rfl)
  | true => exact x_if_ne C d ht (fun _ => kt rfl) (fun h => absurd h (by decide))
theorem x_if_eqC (C : xk_Ok K D cc nL own R0 ty) {x y : Int64} {off : Int} {tgt : Nat} (d : decode cc pc = .ok (.ifCond .eq off, 3)) (ht : (pc : Int) + off = (tgt : Int))
    (kt : x = y → xk_Go K D nL k n w lv tgt st) (kf : ¬ x = y → xk_Go K D nL k n w lv (pc + 3) st) : xk_Go K D nL k n w lv pc (.int (lg_cmp x y) :: st) :=
  x_if_eq C d ht (fun h => kt ((xk_cmp_eq x y).mp h)) (fun h => kf (fun q => h ((xk_cmp_eq x y).mpr q)))
theorem x_if_neC (C : xk_Ok K D cc nL own R0 ty) {x y : Int64} {off : Int} {tgt : Nat} (d : decode cc pc = .ok (.ifCond .ne off, 3)) (ht : (pc : Int) + off = (tgt : Int))
    (kt : ¬ x = y → xk_Go K D nL k n w lv tgt st) (kf : x = y → xk_Go K D nL k n w lv (pc + 3) st) : xk_Go K D nL k n w lv pc (.int (lg_cmp x y) :: st) :=
  x_if_ne C d ht (fun h => kt (fun q => h ((xk_cmp_eq x y).mpr q))) (fun h => kf ((xk_cmp_eq x y).mp h))
theorem x_if_ltC (C : xk_Ok K D cc nL own R0 ty) {x y : Int64} {off : Int} {tgt : Nat} (d : decode cc pc = .ok (.ifCond .lt off, 3)) (ht : (pc : Int) + off = (tgt : Int))
    (kt : x < y → xk_Go K D nL k n w lv tgt st) (kf : ¬ x < y → xk_Go K D nL k n w lv (pc + 3) st) : xk_Go K D nL k n w lv pc (.int (lg_cmp x y) :: st) :=
  x_if_lt C d ht (fun h => kt ((xk_cmp_lt x y).mp h)) (fun h => kf (fun q => h ((xk_cmp_lt x y).mpr q)))
theorem x_if_geC (C : xk_Ok K D cc nL own R0 ty) {x y : Int64} {off : Int} {tgt : Nat} (d : decode cc pc = .ok (.ifCond .ge off, 3)) (ht : (pc : Int) + off = (tgt : Int))
    (kt : y ≤ x → xk_Go K D nL k n w lv tgt st) (kf : ¬ y ≤ x → xk_Go K D nL k n w lv (pc + 3) st) : xk_Go K D nL k n w lv pc (.int (lg_cmp x y) :: st) :=
  x_if_ge C d ht (fun h => kt ((xk_cmp_ge x y).mp h)) (fun h => kf (fun q => h ((xk_cmp_ge x y).mpr q)))
theorem x_if_gtC (C : xk_Ok K D cc nL own R0 ty) {x y : Int64} {off : Int} {tgt : Nat} (d : decode cc pc = .ok (.ifCond .gt off, 3)) (ht : (pc : Int) + off = (tgt : Int))
    (kt : y < x → xk_Go K D nL k n w lv tgt st) (kf : ¬ y < x → xk_Go K D nL k n w lv (pc + 3) st) : xk_Go K D nL k n w lv pc (.int (lg_cmp x y) :: st) :=
  x_if_gt C d ht (fun h => kt ((xk_cmp_gt x y).mp h)) (fun h => kf (fun q => h ((xk_cmp_gt x y).mpr q)))
theorem x_if_leC (C : xk_Ok K D cc nL own R0 ty) {x y : Int64} {off : Int} {tgt : Nat} (d : decode cc pc = .ok (.ifCond .le off, 3)) (ht : (pc : Int) + off = (tgt : Int))
    (kt : x ≤ y → xk_Go K D nL k n w lv tgt st) (kf : ¬ x ≤ y → xk_Go K D nL k n w lv (pc + 3) st) : xk_Go K D nL k n w lv pc (.int (lg_cmp x y) :: st) :=
  x_if_le C d ht (fun h => kt ((xk_cmp_le x y).mp h)) (fun h => kf (fun q => h ((xk_cmp_le x y).mpr q)))
end XK6
/-! WALKING ROWS 5: switches, Math.max, arraycopy. -/
theorem xk_sb_and (v : Nat) : xk_sb v &&& nI 255 = nI (v % 256) := by
  have h1 : xk_sb v &&& nI 255 = nI v &&& 255 := by
    unfold xk_sb
    exact bp_b (nI v)
  rw [h1, pk_and (nI v) 8 (by decide)]
  have h2 : (nI v).toBitVec.toNat = v % 2 ^ 32 := by
    unfold nI
    rw [Int32.toBitVec_ofNat', BitVec.toNat_ofNat]
  rw [h2]
  congr 1
  omega
def xk_Mx (own : String) (idx : Nat) : Prop := Cond.methodLink own idx Lib.Math.max.name ∈ xk_gt ∧ Cond.static Lib.Math.max.name ∈ xk_gt ∧ Cond.initialized "java/lang/Math" ∈ xk_gt ∧ Cond.code Lib.Math.max.name Lib.Math.max.code 2 (some .int) ∈ xk_gt
def xk_Mn (own : String) (idx : Nat) : Prop := Cond.methodLink own idx Lib.Math.min.name ∈ xk_gt ∧ Cond.static Lib.Math.min.name ∈ xk_gt ∧ Cond.initialized "java/lang/Math" ∈ xk_gt ∧ Cond.code Lib.Math.min.name Lib.Math.min.code 2 (some .int) ∈ xk_gt
def xk_Cp (own : String) (idx : Nat) : Prop := Cond.methodLink own idx arraycopyName ∈ xk_gt ∧ Cond.native arraycopyName ∈ xk_gt ∧ Cond.static arraycopyName ∈ xk_gt ∧ Cond.initialized "java/lang/System" ∈ xk_gt
theorem xk_nA_cpy (f g : Nat → Nat) (i j m : Nat) : va_cpy (xk_nA f) (xk_nA g) i j m = xk_nA (va_cpy f g i j m) := by
  funext q
  exact (apply_ite nI _ _ _).symm
theorem xk_bA_cpy (f g : Nat → Nat) (i j m : Nat) : va_cpy (xk_bA f) (xk_bA g) i j m = xk_bA (va_cpy f g i j m) := by
  funext q
  exact (apply_ite xk_sb _ _ _).symm
section XK7
variable {K : xk_T} {D : va_G} {cc : ByteArray} {nL k n : Nat} {own : String} {R0 : Room} {ty : List (ClassId × FieldType)} {w : va_W} {lv : List (Nat × Value)} {pc : Nat} {st : List Value}
theorem x_tblIn (C : xk_Ok K D cc nL own R0 ty) {dflt lo hi off : Int} {offs : Array Int} {len : Nat} {x : Int32} (tgt : Nat) (d : decode cc pc = .ok (.tableswitch dflt lo hi offs, len)) (h1 : ¬ x.toInt < lo) (h2 : ¬ hi < x.toInt) (ho : offs[(x.toInt - lo).toNat]? = some off) (ht : (pc : Int) + off = (tgt : Int))
    (kk : xk_Go K D nL k n w lv tgt st) : xk_Go K D nL k n w lv pc (.int x :: st) := by
  obtain ⟨p, l, e, R, s, m, args, below, meth, c, Q, A⟩ := K
  obtain ⟨hx, hb, -⟩ := C
  intro H locs ls hP hD hS hl
  exact lv_tableIn hx hb d h1 h2 ho ht (kk H locs ls hP hD hS hl)
theorem x_tblOut (C : xk_Ok K D cc nL own R0 ty) {dflt lo hi : Int} {offs : Array Int} {len : Nat} {x : Int32} (tgt : Nat) (d : decode cc pc = .ok (.tableswitch dflt lo hi offs, len)) (h : x.toInt < lo ∨ hi < x.toInt) (ht : (pc : Int) + dflt = (tgt : Int))
    (kk : xk_Go K D nL k n w lv tgt st) : xk_Go K D nL k n w lv pc (.int x :: st) := by
  obtain ⟨p, l, e, R, s, m, args, below, meth, c, Q, A⟩ := K
  obtain ⟨hx, hb, -⟩ := C
  intro H locs ls hP hD hS hl
  exact lv_tableOut hx hb d h ht (kk H locs ls hP hD hS hl)
theorem x_max (C : xk_Ok K D cc nL own R0 ty) {idx : Nat} (hk : xk_Mx own idx) {a b : Nat} (ha : a < 2 ^ 31) (hb0 : b < 2 ^ 31) (hframes : 1 ≤ R0.frames) (hlocals : (st.map fun v => v.category).sum + 13 ≤ R0.locals) (hc : k ≤ R0.cells) (hs : n ≤ R0.slots) (d : decode cc pc = .ok (.invokestatic idx, 3))
    (kk : xk_Go K D nL k n w lv (pc + 3) (.int (nI (max a b)) :: st)) : xk_Go K D nL k n w lv pc (.int (nI b) :: .int (nI a) :: st) := by
  obtain ⟨p, l, e, R, s, m, args, below, meth, c, Q, A⟩ := K
  obtain ⟨hx, hb, hml, hown, hts, hK, hA, hR0⟩ := C
  obtain ⟨k1, k2, k3, k4⟩ := hk
  subst hR0
  intro H locs ls hP hD hS hl
  refine va_mmax hx hb (hml.trans hl.1.symm) hown (hts _ k1) (hts _ k2) (hts _ k3) (hts _ k4) hframes hlocals hc hs d ?_
  have h : (if nI a < nI b then nI b else nI a) = nI (max a b) := by
    by_cases h1 : a < b
    · rw [if_pos ((nI_ltI ha hb0).mpr h1), Nat.max_eq_right (Nat.le_of_lt h1)]
    · rw [if_neg (fun q => h1 ((nI_ltI ha hb0).mp q)), Nat.max_eq_left (Nat.not_lt.mp h1)]
  rw [h]
  exact kk H locs ls hP hD hS hl
theorem x_min (C : xk_Ok K D cc nL own R0 ty) {idx : Nat} (hk : xk_Mn own idx) {a b : Nat} (ha : a < 2 ^ 31) (hb0 : b < 2 ^ 31) (hframes : 1 ≤ R0.frames) (hlocals : (st.map fun v => v.category).sum + 13 ≤ R0.locals) (hc : k ≤ R0.cells) (hs : n ≤ R0.slots) (d : decode cc pc = .ok (.invokestatic idx, 3))
    (kk : xk_Go K D nL k n w lv (pc + 3) (.int (nI (min a b)) :: st)) : xk_Go K D nL k n w lv pc (.int (nI b) :: .int (nI a) :: st) := by
  obtain ⟨p, l, e, R, s, m, args, below, meth, c, Q, A⟩ := K
  obtain ⟨hx, hb, hml, hown, hts, hK, hA, hR0⟩ := C
  obtain ⟨k1, k2, k3, k4⟩ := hk
  subst hR0
  intro H locs ls hP hD hS hl
  refine va_mmin hx hb (hml.trans hl.1.symm) hown (hts _ k1) (hts _ k2) (hts _ k3) (hts _ k4) hframes hlocals hc hs d ?_
  have h : (if nI b < nI a then nI b else nI a) = nI (min a b) := by
    by_cases h1 : b < a
    · rw [if_pos ((nI_ltI hb0 ha).mpr h1), Nat.min_eq_right (Nat.le_of_lt h1)]
    · rw [if_neg (fun q => h1 ((nI_ltI hb0 ha).mp q)), Nat.min_eq_left (Nat.not_lt.mp h1)]
  rw [h]
  exact kk H locs ls hP hD hS hl
theorem x_alen (C : xk_Ok K D cc nL own R0 ty) (q0 t0 : Nat) {a : Nat} {cA : ClassId} {x : vp_A} {T0 : FieldType} (ha : w[q0]? = some (a, .inl (cA, x))) (ht : ty[t0]? = some (cA, T0)) (d : decode cc pc = .ok (.arraylength, 1))
    (kk : xk_Go K D nL k n w lv (pc + 1) (.int (nI x.1) :: st)) : xk_Go K D nL k n w lv pc (.ref a :: st) := by
  obtain ⟨p, l, e, R, s, m, args, below, meth, c, Q, A⟩ := K
  obtain ⟨hx, hb, hml, hown, hts, hK, -⟩ := C
  intro H locs ls hP hD hS hl
  exact va_alen hx hb hK hP q0 t0 ha ht rfl d (kk H locs ls hP hD hS hl)
theorem x_copyN (C : xk_Ok K D cc nL own R0 ty) {idx : Nat} (hk : xk_Cp own idx) (q0 q1 t0 t1 : Nat) (w' : va_W) {a0 a n0 n1 : Nat} {c0 c1 : ClassId} {f g : Nat → Nat} {sp dp m0 : Nat} (ha0 : w[q0]? = some (a0, .inl (c0, n0, .inl (xk_nA f)))) (ha1 : w[q1]? = some (a, .inl (c1, n1, .inl (xk_nA g)))) (ht0 : ty[t0]? = some (c0, .int)) (ht1 : ty[t1]? = some (c1, .int))
    (hw : w.set q1 (a, .inl (c1, n1, .inl (xk_nA (va_cpy f g sp dp m0)))) = w') (h4 : sp + m0 ≤ n0) (h5 : dp + m0 ≤ n1) (hn0 : n0 < 2 ^ 31) (hn1 : n1 < 2 ^ 31) (hframes : 1 ≤ R0.frames) (hlocals : (st.map fun v => v.category).sum + (nativeFrameWords "java/lang/System" "arraycopy" 5 + 11) ≤ R0.locals) (d : decode cc pc = .ok (.invokestatic idx, 3))
    (kk : xk_Go K D nL k n w' lv (pc + 3) st) : xk_Go K D nL k n w lv pc (.int (nI m0) :: .int (nI dp) :: .ref a :: .int (nI sp) :: .ref a0 :: st) := by
  obtain ⟨p, l, e, R, s, m, args, below, meth, c, Q, A⟩ := K
  obtain ⟨hx, hb, hml, hown, hts, hK, hA, hR0⟩ := C
  obtain ⟨k1, k2, k3, k4⟩ := hk
  subst hR0
  subst hw
  intro H locs ls hP hD hS hl
  refine va_copyi hx hb (hml.trans hl.1.symm) hown (hts _ k1) (hts _ k2) (hts _ k3) (hts _ k4) hK hP hD hS q0 q1 t0 t1 ha0 ha1 ht0 ht1 rfl (nI_pos (by omega)) (nI_pos (by omega)) (nI_pos (by omega)) (by rw [nI_clamp (by omega), nI_clamp (by omega)]; exact h4) (by rw [nI_clamp (by omega), nI_clamp (by omega)]; exact h5) (fun i _ => rfl) hframes hlocals d (fun H1 locs1 hP hD hS => ?_)
  rw [nI_clamp (by omega), nI_clamp (by omega), nI_clamp (by omega), xk_nA_cpy] at hP hD
  exact kk H1 locs1 ls hP hD hS hl
theorem x_copyL (C : xk_Ok K D cc nL own R0 ty) {idx : Nat} (hk : xk_Cp own idx) (q0 q1 t0 t1 : Nat) (w' : va_W) {a0 a n0 n1 : Nat} {c0 c1 : ClassId} {f g : Nat → Int64} {sp dp m0 : Nat} (ha0 : w[q0]? = some (a0, .inl (c0, n0, .inr (.inl f)))) (ha1 : w[q1]? = some (a, .inl (c1, n1, .inr (.inl g)))) (ht0 : ty[t0]? = some (c0, .long)) (ht1 : ty[t1]? = some (c1, .long))
    (hw : w.set q1 (a, .inl (c1, n1, .inr (.inl (va_cpy f g sp dp m0)))) = w') (h4 : sp + m0 ≤ n0) (h5 : dp + m0 ≤ n1) (hn0 : n0 < 2 ^ 31) (hn1 : n1 < 2 ^ 31) (hframes : 1 ≤ R0.frames) (hlocals : (st.map fun v => v.category).sum + (nativeFrameWords "java/lang/System" "arraycopy" 5 + 11) ≤ R0.locals) (d : decode cc pc = .ok (.invokestatic idx, 3))
    (kk : xk_Go K D nL k n w' lv (pc + 3) st) : xk_Go K D nL k n w lv pc (.int (nI m0) :: .int (nI dp) :: .ref a :: .int (nI sp) :: .ref a0 :: st) := by
  obtain ⟨p, l, e, R, s, m, args, below, meth, c, Q, A⟩ := K
  obtain ⟨hx, hb, hml, hown, hts, hK, hA, hR0⟩ := C
  obtain ⟨k1, k2, k3, k4⟩ := hk
  subst hR0
  subst hw
  intro H locs ls hP hD hS hl
  refine va_copyl hx hb (hml.trans hl.1.symm) hown (hts _ k1) (hts _ k2) (hts _ k3) (hts _ k4) hK hP hD hS q0 q1 t0 t1 ha0 ha1 ht0 ht1 rfl (nI_pos (by omega)) (nI_pos (by omega)) (nI_pos (by omega)) (by rw [nI_clamp (by omega), nI_clamp (by omega)]; exact h4) (by rw [nI_clamp (by omega), nI_clamp (by omega)]; exact h5) (fun i _ => rfl) hframes hlocals d (fun H1 locs1 hP hD hS => ?_)
  rw [nI_clamp (by omega), nI_clamp (by omega), nI_clamp (by omega)] at hP hD
  exact kk H1 locs1 ls hP hD hS hl
theorem x_copyB (C : xk_Ok K D cc nL own R0 ty) {idx : Nat} (hk : xk_Cp own idx) (q0 q1 t0 t1 : Nat) (w' : va_W) {a0 a n0 n1 : Nat} {c0 c1 : ClassId} {f g : Nat → Nat} {sp dp m0 : Nat} (ha0 : w[q0]? = some (a0, .inl (c0, n0, .inl (xk_bA f)))) (ha1 : w[q1]? = some (a, .inl (c1, n1, .inl (xk_bA g)))) (ht0 : ty[t0]? = some (c0, .byte)) (ht1 : ty[t1]? = some (c1, .byte))
    (hw : w.set q1 (a, .inl (c1, n1, .inl (xk_bA (va_cpy f g sp dp m0)))) = w') (h4 : sp + m0 ≤ n0) (h5 : dp + m0 ≤ n1) (hn0 : n0 < 2 ^ 31) (hn1 : n1 < 2 ^ 31) (hframes : 1 ≤ R0.frames) (hlocals : (st.map fun v => v.category).sum + (nativeFrameWords "java/lang/System" "arraycopy" 5 + 11) ≤ R0.locals) (d : decode cc pc = .ok (.invokestatic idx, 3))
    (kk : xk_Go K D nL k n w' lv (pc + 3) st) : xk_Go K D nL k n w lv pc (.int (nI m0) :: .int (nI dp) :: .ref a :: .int (nI sp) :: .ref a0 :: st) := by
  obtain ⟨p, l, e, R, s, m, args, below, meth, c, Q, A⟩ := K
  obtain ⟨hx, hb, hml, hown, hts, hK, hA, hR0⟩ := C
  obtain ⟨k1, k2, k3, k4⟩ := hk
  subst hR0
  subst hw
  intro H locs ls hP hD hS hl
  refine va_copyi hx hb (hml.trans hl.1.symm) hown (hts _ k1) (hts _ k2) (hts _ k3) (hts _ k4) hK hP hD hS q0 q1 t0 t1 ha0 ha1 ht0 ht1 rfl (nI_pos (by omega)) (nI_pos (by omega)) (nI_pos (by omega)) (by rw [nI_clamp (by omega), nI_clamp (by omega)]; exact h4) (by rw [nI_clamp (by omega), nI_clamp (by omega)]; exact h5) (fun i _ => pk_fb _) hframes hlocals d (fun H1 locs1 hP hD hS => ?_)
  rw [nI_clamp (by omega), nI_clamp (by omega), nI_clamp (by omega), xk_bA_cpy] at hP hD
  exact kk H1 locs1 ls hP hD hS hl
end XK7
