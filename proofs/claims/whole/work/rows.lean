section
-- ===== PART A: goes FIRST, ahead of the names: the tables' words, and 'selects' of the private methods out of them =====
/-- a private method of a class that the tables say can be made, by its rows of tables_1 -/
def lw_okq (q : MethodName × Nat) : Prop := (q.1.cls ≠ "java/lang/invoke/MethodHandle" ∧ q.1.cls ≠ "java/lang/invoke/VarHandle") ∧ Cond.instantiable q.1.cls q.2 ∈ tables_1 ∧ Cond.privateMethod q.1 ∈ tables_1 ∧ Cond.instanceMethod q.1 ∈ tables_1
theorem lw_p0 : lw_okq (⟨"TermCodec$TermStack", "settle", "(I)V"⟩, 10) := ⟨⟨by decide +kernel, by decide +kernel⟩, List.mem_of_getElem? (i := 23) (by decide +kernel), List.mem_of_getElem? (i := 166) (by decide +kernel), List.mem_of_getElem? (i := 167) (by decide +kernel)⟩
theorem lw_p1 : lw_okq (⟨"TermCodec$TermStack", "copyNodes", "(III)V"⟩, 10) := ⟨⟨by decide +kernel, by decide +kernel⟩, List.mem_of_getElem? (i := 23) (by decide +kernel), List.mem_of_getElem? (i := 202) (by decide +kernel), List.mem_of_getElem? (i := 203) (by decide +kernel)⟩
theorem lw_p2 : lw_okq (⟨"TermCodec$TermStack", "pushTerm", "(I)V"⟩, 10) := ⟨⟨by decide +kernel, by decide +kernel⟩, List.mem_of_getElem? (i := 23) (by decide +kernel), List.mem_of_getElem? (i := 209) (by decide +kernel), List.mem_of_getElem? (i := 210) (by decide +kernel)⟩
theorem lw_p3 : lw_okq (⟨"TermCodec$Reader", "await", "(III)V"⟩, 9) := ⟨⟨by decide +kernel, by decide +kernel⟩, List.mem_of_getElem? (i := 87) (by decide +kernel), List.mem_of_getElem? (i := 280) (by decide +kernel), List.mem_of_getElem? (i := 281) (by decide +kernel)⟩
theorem lw_p4 : lw_okq (⟨"TermCodec$Reader", "readNode", "(I)V"⟩, 9) := ⟨⟨by decide +kernel, by decide +kernel⟩, List.mem_of_getElem? (i := 87) (by decide +kernel), List.mem_of_getElem? (i := 284) (by decide +kernel), List.mem_of_getElem? (i := 285) (by decide +kernel)⟩
theorem lw_p5 : lw_okq (⟨"TermCodec$Reader", "takeByte", "()I"⟩, 9) := ⟨⟨by decide +kernel, by decide +kernel⟩, List.mem_of_getElem? (i := 87) (by decide +kernel), List.mem_of_getElem? (i := 288) (by decide +kernel), List.mem_of_getElem? (i := 289) (by decide +kernel)⟩
theorem lw_p6 : lw_okq (⟨"TermCodec$Reader", "fail", "(II)V"⟩, 9) := ⟨⟨by decide +kernel, by decide +kernel⟩, List.mem_of_getElem? (i := 87) (by decide +kernel), List.mem_of_getElem? (i := 296) (by decide +kernel), List.mem_of_getElem? (i := 297) (by decide +kernel)⟩
theorem lw_p7 : lw_okq (⟨"TermCodec$Reader", "readNumber", "(III)V"⟩, 9) := ⟨⟨by decide +kernel, by decide +kernel⟩, List.mem_of_getElem? (i := 87) (by decide +kernel), List.mem_of_getElem? (i := 303) (by decide +kernel), List.mem_of_getElem? (i := 304) (by decide +kernel)⟩
theorem lw_p8 : lw_okq (⟨"TermCodec$Reader", "takeNumber", "(I)J"⟩, 9) := ⟨⟨by decide +kernel, by decide +kernel⟩, List.mem_of_getElem? (i := 87) (by decide +kernel), List.mem_of_getElem? (i := 307) (by decide +kernel), List.mem_of_getElem? (i := 308) (by decide +kernel)⟩
theorem lw_p9 : lw_okq (⟨"TermCodec$Reader", "takeUnsigned", "()J"⟩, 9) := ⟨⟨by decide +kernel, by decide +kernel⟩, List.mem_of_getElem? (i := 87) (by decide +kernel), List.mem_of_getElem? (i := 311) (by decide +kernel), List.mem_of_getElem? (i := 312) (by decide +kernel)⟩
theorem lw_p10 : lw_okq (⟨"TermCodec$Reader", "takeSigned", "()J"⟩, 9) := ⟨⟨by decide +kernel, by decide +kernel⟩, List.mem_of_getElem? (i := 87) (by decide +kernel), List.mem_of_getElem? (i := 317) (by decide +kernel), List.mem_of_getElem? (i := 318) (by decide +kernel)⟩
theorem lw_p11 : lw_okq (⟨"java/lang/Throwable", "fillInStackTrace", "(I)Ljava/lang/Throwable;"⟩, 6) := ⟨⟨by decide +kernel, by decide +kernel⟩, List.mem_of_getElem? (i := 418) (by decide +kernel), List.mem_of_getElem? (i := 416) (by decide +kernel), List.mem_of_getElem? (i := 417) (by decide +kernel)⟩
theorem lw_p12 : lw_okq (⟨"TermCodec$TermStack", "alike", "(II)Z"⟩, 10) := ⟨⟨by decide +kernel, by decide +kernel⟩, List.mem_of_getElem? (i := 23) (by decide +kernel), List.mem_of_getElem? (i := 500) (by decide +kernel), List.mem_of_getElem? (i := 501) (by decide +kernel)⟩
theorem lw_p13 : lw_okq (⟨"TermCodecModel", "deepest", "(I)I"⟩, 31) := ⟨⟨by decide +kernel, by decide +kernel⟩, List.mem_of_getElem? (i := 504) (by decide +kernel), List.mem_of_getElem? (i := 625) (by decide +kernel), List.mem_of_getElem? (i := 626) (by decide +kernel)⟩
theorem lw_p14 : lw_okq (⟨"TermCodecModel", "depthOf", "(I)I"⟩, 31) := ⟨⟨by decide +kernel, by decide +kernel⟩, List.mem_of_getElem? (i := 504) (by decide +kernel), List.mem_of_getElem? (i := 629) (by decide +kernel), List.mem_of_getElem? (i := 630) (by decide +kernel)⟩
theorem lw_p15 : lw_okq (⟨"TermCodecModel", "go", "(I)V"⟩, 31) := ⟨⟨by decide +kernel, by decide +kernel⟩, List.mem_of_getElem? (i := 504) (by decide +kernel), List.mem_of_getElem? (i := 633) (by decide +kernel), List.mem_of_getElem? (i := 634) (by decide +kernel)⟩
def lw_privs_1 : List (MethodName × Nat) := [(⟨"TermCodec$TermStack", "settle", "(I)V"⟩, 10), (⟨"TermCodec$TermStack", "copyNodes", "(III)V"⟩, 10), (⟨"TermCodec$TermStack", "pushTerm", "(I)V"⟩, 10), (⟨"TermCodec$Reader", "await", "(III)V"⟩, 9), (⟨"TermCodec$Reader", "readNode", "(I)V"⟩, 9), (⟨"TermCodec$Reader", "takeByte", "()I"⟩, 9), (⟨"TermCodec$Reader", "fail", "(II)V"⟩, 9), (⟨"TermCodec$Reader", "readNumber", "(III)V"⟩, 9), (⟨"TermCodec$Reader", "takeNumber", "(I)J"⟩, 9), (⟨"TermCodec$Reader", "takeUnsigned", "()J"⟩, 9), (⟨"TermCodec$Reader", "takeSigned", "()J"⟩, 9), (⟨"java/lang/Throwable", "fillInStackTrace", "(I)Ljava/lang/Throwable;"⟩, 6), (⟨"TermCodec$TermStack", "alike", "(II)Z"⟩, 10), (⟨"TermCodecModel", "deepest", "(I)I"⟩, 31), (⟨"TermCodecModel", "depthOf", "(I)I"⟩, 31), (⟨"TermCodecModel", "go", "(I)V"⟩, 31)]
theorem lw_r1 : ∀ q ∈ lw_privs_1, lw_okq q := List.forall_mem_cons.mpr ⟨lw_p0, List.forall_mem_cons.mpr ⟨lw_p1, List.forall_mem_cons.mpr ⟨lw_p2, List.forall_mem_cons.mpr ⟨lw_p3, List.forall_mem_cons.mpr ⟨lw_p4, List.forall_mem_cons.mpr ⟨lw_p5, List.forall_mem_cons.mpr ⟨lw_p6, List.forall_mem_cons.mpr ⟨lw_p7, List.forall_mem_cons.mpr ⟨lw_p8, List.forall_mem_cons.mpr ⟨lw_p9, List.forall_mem_cons.mpr ⟨lw_p10, List.forall_mem_cons.mpr ⟨lw_p11, List.forall_mem_cons.mpr ⟨lw_p12, List.forall_mem_cons.mpr ⟨lw_p13, List.forall_mem_cons.mpr ⟨lw_p14, List.forall_mem_cons.mpr ⟨lw_p15, fun _ h => absurd h List.not_mem_nil⟩⟩⟩⟩⟩⟩⟩⟩⟩⟩⟩⟩⟩⟩⟩⟩
theorem lw_p16 : lw_okq (⟨"TermCodecModel", "make", "(IJ)I"⟩, 31) := ⟨⟨by decide +kernel, by decide +kernel⟩, List.mem_of_getElem? (i := 504) (by decide +kernel), List.mem_of_getElem? (i := 637) (by decide +kernel), List.mem_of_getElem? (i := 638) (by decide +kernel)⟩
theorem lw_p17 : lw_okq (⟨"TermCodecModel", "free", "()I"⟩, 31) := ⟨⟨by decide +kernel, by decide +kernel⟩, List.mem_of_getElem? (i := 504) (by decide +kernel), List.mem_of_getElem? (i := 641) (by decide +kernel), List.mem_of_getElem? (i := 642) (by decide +kernel)⟩
theorem lw_p18 : lw_okq (⟨"TermCodecModel", "append", "(IJI)V"⟩, 31) := ⟨⟨by decide +kernel, by decide +kernel⟩, List.mem_of_getElem? (i := 504) (by decide +kernel), List.mem_of_getElem? (i := 649) (by decide +kernel), List.mem_of_getElem? (i := 650) (by decide +kernel)⟩
theorem lw_p19 : lw_okq (⟨"TermCodecModel", "release", "(I)V"⟩, 31) := ⟨⟨by decide +kernel, by decide +kernel⟩, List.mem_of_getElem? (i := 504) (by decide +kernel), List.mem_of_getElem? (i := 662) (by decide +kernel), List.mem_of_getElem? (i := 663) (by decide +kernel)⟩
theorem lw_p20 : lw_okq (⟨"TermCodecModel", "lengthOfTerm", "(I)I"⟩, 31) := ⟨⟨by decide +kernel, by decide +kernel⟩, List.mem_of_getElem? (i := 504) (by decide +kernel), List.mem_of_getElem? (i := 678) (by decide +kernel), List.mem_of_getElem? (i := 679) (by decide +kernel)⟩
theorem lw_p21 : lw_okq (⟨"TermCodecModel", "lengthOf", "(I)I"⟩, 31) := ⟨⟨by decide +kernel, by decide +kernel⟩, List.mem_of_getElem? (i := 504) (by decide +kernel), List.mem_of_getElem? (i := 682) (by decide +kernel), List.mem_of_getElem? (i := 683) (by decide +kernel)⟩
theorem lw_p22 : lw_okq (⟨"TermCodecModel", "lengthU", "(J)I"⟩, 31) := ⟨⟨by decide +kernel, by decide +kernel⟩, List.mem_of_getElem? (i := 504) (by decide +kernel), List.mem_of_getElem? (i := 686) (by decide +kernel), List.mem_of_getElem? (i := 687) (by decide +kernel)⟩
theorem lw_p23 : lw_okq (⟨"TermCodecModel", "lengthS", "(J)I"⟩, 31) := ⟨⟨by decide +kernel, by decide +kernel⟩, List.mem_of_getElem? (i := 504) (by decide +kernel), List.mem_of_getElem? (i := 692) (by decide +kernel), List.mem_of_getElem? (i := 693) (by decide +kernel)⟩
theorem lw_p24 : lw_okq (⟨"TermCodecModel", "layNode", "(I)V"⟩, 31) := ⟨⟨by decide +kernel, by decide +kernel⟩, List.mem_of_getElem? (i := 504) (by decide +kernel), List.mem_of_getElem? (i := 698) (by decide +kernel), List.mem_of_getElem? (i := 699) (by decide +kernel)⟩
theorem lw_p25 : lw_okq (⟨"TermCodecModel", "lay", "(J)V"⟩, 31) := ⟨⟨by decide +kernel, by decide +kernel⟩, List.mem_of_getElem? (i := 504) (by decide +kernel), List.mem_of_getElem? (i := 702) (by decide +kernel), List.mem_of_getElem? (i := 703) (by decide +kernel)⟩
theorem lw_p26 : lw_okq (⟨"TermCodecModel", "readNode", "(I)V"⟩, 31) := ⟨⟨by decide +kernel, by decide +kernel⟩, List.mem_of_getElem? (i := 504) (by decide +kernel), List.mem_of_getElem? (i := 726) (by decide +kernel), List.mem_of_getElem? (i := 727) (by decide +kernel)⟩
theorem lw_p27 : lw_okq (⟨"TermCodecModel", "next", "()I"⟩, 31) := ⟨⟨by decide +kernel, by decide +kernel⟩, List.mem_of_getElem? (i := 504) (by decide +kernel), List.mem_of_getElem? (i := 730) (by decide +kernel), List.mem_of_getElem? (i := 731) (by decide +kernel)⟩
theorem lw_p28 : lw_okq (⟨"TermCodecModel", "wrong", "(II)I"⟩, 31) := ⟨⟨by decide +kernel, by decide +kernel⟩, List.mem_of_getElem? (i := 504) (by decide +kernel), List.mem_of_getElem? (i := 734) (by decide +kernel), List.mem_of_getElem? (i := 735) (by decide +kernel)⟩
theorem lw_p29 : lw_okq (⟨"TermCodecModel", "must", "(Z)V"⟩, 31) := ⟨⟨by decide +kernel, by decide +kernel⟩, List.mem_of_getElem? (i := 504) (by decide +kernel), List.mem_of_getElem? (i := 738) (by decide +kernel), List.mem_of_getElem? (i := 739) (by decide +kernel)⟩
theorem lw_p30 : lw_okq (⟨"TermCodecModel", "readU", "()J"⟩, 31) := ⟨⟨by decide +kernel, by decide +kernel⟩, List.mem_of_getElem? (i := 504) (by decide +kernel), List.mem_of_getElem? (i := 742) (by decide +kernel), List.mem_of_getElem? (i := 743) (by decide +kernel)⟩
theorem lw_p31 : lw_okq (⟨"TermCodecModel", "readS", "()J"⟩, 31) := ⟨⟨by decide +kernel, by decide +kernel⟩, List.mem_of_getElem? (i := 504) (by decide +kernel), List.mem_of_getElem? (i := 749) (by decide +kernel), List.mem_of_getElem? (i := 750) (by decide +kernel)⟩
def lw_privs_2 : List (MethodName × Nat) := [(⟨"TermCodecModel", "make", "(IJ)I"⟩, 31), (⟨"TermCodecModel", "free", "()I"⟩, 31), (⟨"TermCodecModel", "append", "(IJI)V"⟩, 31), (⟨"TermCodecModel", "release", "(I)V"⟩, 31), (⟨"TermCodecModel", "lengthOfTerm", "(I)I"⟩, 31), (⟨"TermCodecModel", "lengthOf", "(I)I"⟩, 31), (⟨"TermCodecModel", "lengthU", "(J)I"⟩, 31), (⟨"TermCodecModel", "lengthS", "(J)I"⟩, 31), (⟨"TermCodecModel", "layNode", "(I)V"⟩, 31), (⟨"TermCodecModel", "lay", "(J)V"⟩, 31), (⟨"TermCodecModel", "readNode", "(I)V"⟩, 31), (⟨"TermCodecModel", "next", "()I"⟩, 31), (⟨"TermCodecModel", "wrong", "(II)I"⟩, 31), (⟨"TermCodecModel", "must", "(Z)V"⟩, 31), (⟨"TermCodecModel", "readU", "()J"⟩, 31), (⟨"TermCodecModel", "readS", "()J"⟩, 31)]
theorem lw_r2 : ∀ q ∈ lw_privs_2, lw_okq q := List.forall_mem_cons.mpr ⟨lw_p16, List.forall_mem_cons.mpr ⟨lw_p17, List.forall_mem_cons.mpr ⟨lw_p18, List.forall_mem_cons.mpr ⟨lw_p19, List.forall_mem_cons.mpr ⟨lw_p20, List.forall_mem_cons.mpr ⟨lw_p21, List.forall_mem_cons.mpr ⟨lw_p22, List.forall_mem_cons.mpr ⟨lw_p23, List.forall_mem_cons.mpr ⟨lw_p24, List.forall_mem_cons.mpr ⟨lw_p25, List.forall_mem_cons.mpr ⟨lw_p26, List.forall_mem_cons.mpr ⟨lw_p27, List.forall_mem_cons.mpr ⟨lw_p28, List.forall_mem_cons.mpr ⟨lw_p29, List.forall_mem_cons.mpr ⟨lw_p30, List.forall_mem_cons.mpr ⟨lw_p31, fun _ h => absurd h List.not_mem_nil⟩⟩⟩⟩⟩⟩⟩⟩⟩⟩⟩⟩⟩⟩⟩⟩
theorem lw_p32 : lw_okq (⟨"TermCodecModel", "open", "()I"⟩, 31) := ⟨⟨by decide +kernel, by decide +kernel⟩, List.mem_of_getElem? (i := 504) (by decide +kernel), List.mem_of_getElem? (i := 754) (by decide +kernel), List.mem_of_getElem? (i := 755) (by decide +kernel)⟩
theorem lw_p33 : lw_okq (⟨"TermCodecModel", "isNode", "(I)Z"⟩, 31) := ⟨⟨by decide +kernel, by decide +kernel⟩, List.mem_of_getElem? (i := 504) (by decide +kernel), List.mem_of_getElem? (i := 762) (by decide +kernel), List.mem_of_getElem? (i := 763) (by decide +kernel)⟩
theorem lw_p34 : lw_okq (⟨"TermCodecModel", "sizeOf", "(I)I"⟩, 31) := ⟨⟨by decide +kernel, by decide +kernel⟩, List.mem_of_getElem? (i := 504) (by decide +kernel), List.mem_of_getElem? (i := 766) (by decide +kernel), List.mem_of_getElem? (i := 767) (by decide +kernel)⟩
theorem lw_p35 : lw_okq (⟨"TermCodecModel", "lambdas", "(II)I"⟩, 31) := ⟨⟨by decide +kernel, by decide +kernel⟩, List.mem_of_getElem? (i := 504) (by decide +kernel), List.mem_of_getElem? (i := 770) (by decide +kernel), List.mem_of_getElem? (i := 771) (by decide +kernel)⟩
def lw_privs_3 : List (MethodName × Nat) := [(⟨"TermCodecModel", "open", "()I"⟩, 31), (⟨"TermCodecModel", "isNode", "(I)Z"⟩, 31), (⟨"TermCodecModel", "sizeOf", "(I)I"⟩, 31), (⟨"TermCodecModel", "lambdas", "(II)I"⟩, 31)]
theorem lw_r3 : ∀ q ∈ lw_privs_3, lw_okq q := List.forall_mem_cons.mpr ⟨lw_p32, List.forall_mem_cons.mpr ⟨lw_p33, List.forall_mem_cons.mpr ⟨lw_p34, List.forall_mem_cons.mpr ⟨lw_p35, fun _ h => absurd h List.not_mem_nil⟩⟩⟩⟩
def lw_privs : List (MethodName × Nat) := lw_privs_1 ++ (lw_privs_2 ++ (lw_privs_3))
def lw_tbl : List Cond := k2_sels lw_privs ++ tables_1
theorem lw_privs_ok : ∀ q ∈ lw_privs, lw_okq q := by
  show ∀ q ∈ lw_privs_1 ++ (lw_privs_2 ++ (lw_privs_3)), lw_okq q
  exact List.forall_mem_append.mpr ⟨lw_r1, List.forall_mem_append.mpr ⟨lw_r2, lw_r3⟩⟩
-- ===== end of PART A
/-- the words that a callee may be handed -/
def xk_gt : List Cond := lw_tbl.filter goodWord
theorem xk_gt_good : ∀ w ∈ xk_gt, goodWord w = true := fun w h => (List.mem_filter.mp h).2
theorem xk_gt_tbl : ∀ w ∈ xk_gt, w ∈ lw_tbl := fun w h => (List.mem_filter.mp h).1
theorem xk_mem {w : Cond} (i : Nat) (h : lw_tbl[i]? = some w) (hg : goodWord w = true) : w ∈ xk_gt := List.mem_filter.mpr ⟨List.mem_of_getElem? h, hg⟩
end
section
def RB : String := "TermCodec$ByteRow"
def RS : String := "TermCodec$TermStack"
def RR : String := "TermCodec$Reader"
def RX : String := "TermCodec"
def RM : String := "TermCodecModel"
def RF : String := "TermCodec$Format"
def RL : String := "TermCodecLaw"
def TB : u_T := fun k => match k with
  | 0 => ("TermCodec$ByteRow", "row", "[B", true)
  | _ => ("TermCodec$ByteRow", "size", "I", false)
def tB : Nat → FieldType := fun k => match k with
  | 0 => .array .byte
  | _ => .int
theorem nB_ok : ∀ a, a < 2 → ∀ b, b < 2 → a ≠ b → (TB a).2.1 ≠ (TB b).2.1 := by decide +kernel
theorem tB_ok : ∀ k, k < 2 → parseFieldDescriptor (TB k).2.2.1 = some (tB k) := by decide +kernel
def TS : u_T := fun k => match k with
  | 0 => ("TermCodec$TermStack", "kinds", "[I", true)
  | 1 => ("TermCodec$TermStack", "numbers", "[J", true)
  | 2 => ("TermCodec$TermStack", "words", "[J", true)
  | 3 => ("TermCodec$TermStack", "sizes", "[I", true)
  | 4 => ("TermCodec$TermStack", "depths", "[I", true)
  | 5 => ("TermCodec$TermStack", "lacks", "[I", true)
  | 6 => ("TermCodec$TermStack", "lengths", "[I", true)
  | 7 => ("TermCodec$TermStack", "roots", "[I", true)
  | 8 => ("TermCodec$TermStack", "terms", "I", false)
  | _ => ("TermCodec$TermStack", "nodes", "I", false)
def tS : Nat → FieldType := fun k => match k with
  | 0 => .array .int
  | 1 => .array .long
  | 2 => .array .long
  | 3 => .array .int
  | 4 => .array .int
  | 5 => .array .int
  | 6 => .array .int
  | 7 => .array .int
  | 8 => .int
  | _ => .int
theorem nS_ok : ∀ a, a < 10 → ∀ b, b < 10 → a ≠ b → (TS a).2.1 ≠ (TS b).2.1 := by decide +kernel
theorem tS_ok : ∀ k, k < 10 → parseFieldDescriptor (TS k).2.2.1 = some (tS k) := by decide +kernel
def TR : u_T := fun k => match k with
  | 0 => ("TermCodec$Reader", "input", "LTermCodec$ByteRow;", true)
  | 1 => ("TermCodec$Reader", "stack", "LTermCodec$TermStack;", true)
  | 2 => ("TermCodec$Reader", "waitingLevels", "[I", true)
  | 3 => ("TermCodec$Reader", "waitingLambdas", "[I", true)
  | 4 => ("TermCodec$Reader", "waiting", "I", false)
  | 5 => ("TermCodec$Reader", "next", "I", false)
  | 6 => ("TermCodec$Reader", "at", "I", false)
  | 7 => ("TermCodec$Reader", "fault", "I", false)
  | _ => ("TermCodec$Reader", "place", "I", false)
def tR : Nat → FieldType := fun k => match k with
  | 0 => .object "TermCodec$ByteRow"
  | 1 => .object "TermCodec$TermStack"
  | 2 => .array .int
  | 3 => .array .int
  | 4 => .int
  | 5 => .int
  | 6 => .int
  | 7 => .int
  | _ => .int
theorem nR_ok : ∀ a, a < 9 → ∀ b, b < 9 → a ≠ b → (TR a).2.1 ≠ (TR b).2.1 := by decide +kernel
theorem tR_ok : ∀ k, k < 9 → parseFieldDescriptor (TR k).2.2.1 = some (tR k) := by decide +kernel
def TX : u_T := fun k => match k with
  | 0 => ("TermCodec", "stack", "LTermCodec$TermStack;", true)
  | 1 => ("TermCodec", "written", "LTermCodec$ByteRow;", true)
  | 2 => ("TermCodec", "given", "LTermCodec$ByteRow;", true)
  | _ => ("TermCodec", "reader", "LTermCodec$Reader;", true)
def tX : Nat → FieldType := fun k => match k with
  | 0 => .object "TermCodec$TermStack"
  | 1 => .object "TermCodec$ByteRow"
  | 2 => .object "TermCodec$ByteRow"
  | _ => .object "TermCodec$Reader"
theorem nX_ok : ∀ a, a < 4 → ∀ b, b < 4 → a ≠ b → (TX a).2.1 ≠ (TX b).2.1 := by decide +kernel
theorem tX_ok : ∀ k, k < 4 → parseFieldDescriptor (TX k).2.2.1 = some (tX k) := by decide +kernel
def TM : u_T := fun k => match k with
  | 0 => ("TermCodecModel", "thrown", "I", false)
  | 1 => ("TermCodecModel", "inUse", "[Z", true)
  | 2 => ("TermCodecModel", "kinds", "[I", true)
  | 3 => ("TermCodecModel", "numbers", "[J", true)
  | 4 => ("TermCodecModel", "firsts", "[I", true)
  | 5 => ("TermCodecModel", "seconds", "[I", true)
  | 6 => ("TermCodecModel", "texts", "[B", true)
  | 7 => ("TermCodecModel", "used", "I", false)
  | 8 => ("TermCodecModel", "terms", "[I", true)
  | 9 => ("TermCodecModel", "many", "I", false)
  | 10 => ("TermCodecModel", "output", "[B", true)
  | 11 => ("TermCodecModel", "outputs", "I", false)
  | 12 => ("TermCodecModel", "input", "[B", true)
  | 13 => ("TermCodecModel", "inputs", "I", false)
  | 14 => ("TermCodecModel", "at", "I", false)
  | 15 => ("TermCodecModel", "fault", "I", false)
  | 16 => ("TermCodecModel", "place", "I", false)
  | 17 => ("TermCodecModel", "order", "[I", true)
  | 18 => ("TermCodecModel", "around", "[I", true)
  | 19 => ("TermCodecModel", "level", "[I", true)
  | 20 => ("TermCodecModel", "ordered", "I", false)
  | 21 => ("TermCodecModel", "stack", "[I", true)
  | 22 => ("TermCodecModel", "stackAround", "[I", true)
  | 23 => ("TermCodecModel", "stackLevel", "[I", true)
  | 24 => ("TermCodecModel", "p", "I", false)
  | 25 => ("TermCodecModel", "read", "[I", true)
  | 26 => ("TermCodecModel", "reads", "I", false)
  | 27 => ("TermCodecModel", "copies", "[I", true)
  | 28 => ("TermCodecModel", "deep", "[I", true)
  | 29 => ("TermCodecModel", "bound", "[I", true)
  | _ => ("TermCodecModel", "lack", "[I", true)
def tM : Nat → FieldType := fun k => match k with
  | 0 => .int
  | 1 => .array .boolean
  | 2 => .array .int
  | 3 => .array .long
  | 4 => .array .int
  | 5 => .array .int
  | 6 => .array .byte
  | 7 => .int
  | 8 => .array .int
  | 9 => .int
  | 10 => .array .byte
  | 11 => .int
  | 12 => .array .byte
  | 13 => .int
  | 14 => .int
  | 15 => .int
  | 16 => .int
  | 17 => .array .int
  | 18 => .array .int
  | 19 => .array .int
  | 20 => .int
  | 21 => .array .int
  | 22 => .array .int
  | 23 => .array .int
  | 24 => .int
  | 25 => .array .int
  | 26 => .int
  | 27 => .array .int
  | 28 => .array .int
  | 29 => .array .int
  | _ => .array .int
theorem nM_ok : ∀ a, a < 31 → ∀ b, b < 31 → a ≠ b → (TM a).2.1 ≠ (TM b).2.1 := by decide +kernel
theorem tM_ok : ∀ k, k < 31 → parseFieldDescriptor (TM k).2.2.1 = some (tM k) := by decide +kernel
abbrev vwCl : List vw_C := [(RB, TB, 2), (RS, TS, 10), (RR, TR, 9), (RX, TX, 4), (RM, TM, 31)]
abbrev cX_init : ByteArray := prog_1_method_1_code
def yX_init : MethodName := ⟨"TermCodec", "<init>", "()V"⟩
abbrev cS_init : ByteArray := prog_5_method_1_code
def yS_init : MethodName := ⟨"TermCodec$TermStack", "<init>", "()V"⟩
abbrev cB_init : ByteArray := prog_2_method_1_code
def yB_init : MethodName := ⟨"TermCodec$ByteRow", "<init>", "()V"⟩
abbrev cR_init : ByteArray := prog_4_method_1_code
def yR_init : MethodName := ⟨"TermCodec$Reader", "<init>", "(LTermCodec$ByteRow;LTermCodec$TermStack;)V"⟩
abbrev cX_clear : ByteArray := prog_1_method_2_code
def yX_clear : MethodName := ⟨"TermCodec", "clear", "()V"⟩
abbrev cX_more : ByteArray := prog_1_method_5_code
def yX_more : MethodName := ⟨"TermCodec", "more", "(JI)Z"⟩
abbrev cS_extend : ByteArray := prog_5_method_11_code
def yS_extend : MethodName := ⟨"TermCodec$TermStack", "extend", "(JI)Z"⟩
abbrev cS_lastRoot : ByteArray := prog_5_method_2_code
def yS_lastRoot : MethodName := ⟨"TermCodec$TermStack", "lastRoot", "()I"⟩
abbrev cS_byteCount : ByteArray := prog_5_method_6_code
def yS_byteCount : MethodName := ⟨"TermCodec$TermStack", "byteCount", "(I)I"⟩
abbrev cF_byteOf : ByteArray := prog_3_method_9_code
def yF_byteOf : MethodName := ⟨"TermCodec$Format", "byteOf", "(JI)I"⟩
abbrev cS_setByte : ByteArray := prog_5_method_8_code
def yS_setByte : MethodName := ⟨"TermCodec$TermStack", "setByte", "(III)V"⟩
abbrev cS_settle : ByteArray := prog_5_method_20_code
def yS_settle : MethodName := ⟨"TermCodec$TermStack", "settle", "(I)V"⟩
abbrev cF_ownLength : ByteArray := prog_3_method_6_code
def yF_ownLength : MethodName := ⟨"TermCodec$Format", "ownLength", "(IJ)I"⟩
abbrev cF_unsignedGroups : ByteArray := prog_3_method_7_code
def yF_unsignedGroups : MethodName := ⟨"TermCodec$Format", "unsignedGroups", "(J)I"⟩
abbrev cF_signedGroups : ByteArray := prog_3_method_8_code
def yF_signedGroups : MethodName := ⟨"TermCodec$Format", "signedGroups", "(J)I"⟩
abbrev cF_partsOf : ByteArray := prog_3_method_3_code
def yF_partsOf : MethodName := ⟨"TermCodec$Format", "partsOf", "(I)I"⟩
abbrev cX_drop : ByteArray := prog_1_method_6_code
def yX_drop : MethodName := ⟨"TermCodec", "drop", "()Z"⟩
abbrev cS_removeLast : ByteArray := prog_5_method_12_code
def yS_removeLast : MethodName := ⟨"TermCodec$TermStack", "removeLast", "()Z"⟩
abbrev cX_twice : ByteArray := prog_1_method_7_code
def yX_twice : MethodName := ⟨"TermCodec", "twice", "()Z"⟩
abbrev cS_repeatLast : ByteArray := prog_5_method_13_code
def yS_repeatLast : MethodName := ⟨"TermCodec$TermStack", "repeatLast", "()Z"⟩
abbrev cS_copyNodes : ByteArray := prog_5_method_21_code
def yS_copyNodes : MethodName := ⟨"TermCodec$TermStack", "copyNodes", "(III)V"⟩
abbrev cS_pushTerm : ByteArray := prog_5_method_19_code
def yS_pushTerm : MethodName := ⟨"TermCodec$TermStack", "pushTerm", "(I)V"⟩
abbrev cX_split : ByteArray := prog_1_method_8_code
def yX_split : MethodName := ⟨"TermCodec", "split", "()I"⟩
abbrev cS_openLast : ByteArray := prog_5_method_14_code
def yS_openLast : MethodName := ⟨"TermCodec$TermStack", "openLast", "()I"⟩
abbrev cX_write : ByteArray := prog_1_method_9_code
def yX_write : MethodName := ⟨"TermCodec", "write", "()I"⟩
abbrev cB_room : ByteArray := prog_2_method_2_code
def yB_room : MethodName := ⟨"TermCodec$ByteRow", "room", "()I"⟩
abbrev cS_appendNode : ByteArray := prog_5_method_17_code
def yS_appendNode : MethodName := ⟨"TermCodec$TermStack", "appendNode", "(ILTermCodec$ByteRow;)V"⟩
abbrev cB_append : ByteArray := prog_2_method_4_code
def yB_append : MethodName := ⟨"TermCodec$ByteRow", "append", "(I)V"⟩
abbrev cB_appendGroups : ByteArray := prog_2_method_5_code
def yB_appendGroups : MethodName := ⟨"TermCodec$ByteRow", "appendGroups", "(JI)V"⟩
abbrev cS_byteIn : ByteArray := prog_5_method_7_code
def yS_byteIn : MethodName := ⟨"TermCodec$TermStack", "byteIn", "(II)I"⟩
abbrev cX_wipe : ByteArray := prog_1_method_10_code
def yX_wipe : MethodName := ⟨"TermCodec", "wipe", "()V"⟩
abbrev cX_give : ByteArray := prog_1_method_11_code
def yX_give : MethodName := ⟨"TermCodec", "give", "(JI)Z"⟩
abbrev cX_cut : ByteArray := prog_1_method_12_code
def yX_cut : MethodName := ⟨"TermCodec", "cut", "(I)Z"⟩
abbrev cX_turn : ByteArray := prog_1_method_13_code
def yX_turn : MethodName := ⟨"TermCodec", "turn", "()V"⟩
abbrev cB_copyFrom : ByteArray := prog_2_method_6_code
def yB_copyFrom : MethodName := ⟨"TermCodec$ByteRow", "copyFrom", "(LTermCodec$ByteRow;)V"⟩
abbrev cX_read : ByteArray := prog_1_method_14_code
def yX_read : MethodName := ⟨"TermCodec", "read", "()I"⟩
abbrev cR_readTerm : ByteArray := prog_4_method_2_code
def yR_readTerm : MethodName := ⟨"TermCodec$Reader", "readTerm", "()I"⟩
abbrev cR_await : ByteArray := prog_4_method_9_code
def yR_await : MethodName := ⟨"TermCodec$Reader", "await", "(III)V"⟩
abbrev cR_readNode : ByteArray := prog_4_method_3_code
def yR_readNode : MethodName := ⟨"TermCodec$Reader", "readNode", "(I)V"⟩
abbrev cR_takeByte : ByteArray := prog_4_method_8_code
def yR_takeByte : MethodName := ⟨"TermCodec$Reader", "takeByte", "()I"⟩
abbrev cB_get : ByteArray := prog_2_method_3_code
def yB_get : MethodName := ⟨"TermCodec$ByteRow", "get", "(I)I"⟩
abbrev cR_fail : ByteArray := prog_4_method_10_code
def yR_fail : MethodName := ⟨"TermCodec$Reader", "fail", "(II)V"⟩
abbrev cF_isKind : ByteArray := prog_3_method_2_code
def yF_isKind : MethodName := ⟨"TermCodec$Format", "isKind", "(I)Z"⟩
abbrev cR_readNumber : ByteArray := prog_4_method_4_code
def yR_readNumber : MethodName := ⟨"TermCodec$Reader", "readNumber", "(III)V"⟩
abbrev cR_takeNumber : ByteArray := prog_4_method_5_code
def yR_takeNumber : MethodName := ⟨"TermCodec$Reader", "takeNumber", "(I)J"⟩
abbrev cR_takeUnsigned : ByteArray := prog_4_method_6_code
def yR_takeUnsigned : MethodName := ⟨"TermCodec$Reader", "takeUnsigned", "()J"⟩
abbrev cR_takeSigned : ByteArray := prog_4_method_7_code
def yR_takeSigned : MethodName := ⟨"TermCodec$Reader", "takeSigned", "()J"⟩
abbrev cF_fits : ByteArray := prog_3_method_5_code
def yF_fits : MethodName := ⟨"TermCodec$Format", "fits", "(IJ)Z"⟩
abbrev cS_setNode : ByteArray := prog_5_method_9_code
def yS_setNode : MethodName := ⟨"TermCodec$TermStack", "setNode", "(IIJ)V"⟩
abbrev cS_adopt : ByteArray := prog_5_method_15_code
def yS_adopt : MethodName := ⟨"TermCodec$TermStack", "adopt", "(I)V"⟩
abbrev cX_of : ByteArray := prog_1_method_15_code
def yX_of : MethodName := ⟨"TermCodec", "of", "(II)I"⟩
abbrev cS_find : ByteArray := prog_5_method_3_code
def yS_find : MethodName := ⟨"TermCodec$TermStack", "find", "(I)I"⟩
abbrev cS_parentOf : ByteArray := prog_5_method_5_code
def yS_parentOf : MethodName := ⟨"TermCodec$TermStack", "parentOf", "(I)I"⟩
abbrev cX_byteAt : ByteArray := prog_1_method_17_code
def yX_byteAt : MethodName := ⟨"TermCodec", "byteAt", "(II)I"⟩
abbrev cX_output : ByteArray := prog_1_method_19_code
def yX_output : MethodName := ⟨"TermCodec", "output", "(I)I"⟩
abbrev cX_look : ByteArray := prog_1_method_20_code
def yX_look : MethodName := ⟨"TermCodec", "look", "(I)I"⟩
abbrev cS_lastLength : ByteArray := prog_5_method_4_code
def yS_lastLength : MethodName := ⟨"TermCodec$TermStack", "lastLength", "()I"⟩
abbrev cL_node : ByteArray := method_3_code
def yL_node : MethodName := ⟨"TermCodecLaw", "node", "(LTermCodec;IJ[J)I"⟩
abbrev cX_node : ByteArray := prog_1_method_3_code
def yX_node : MethodName := ⟨"TermCodec", "node", "(IJ)I"⟩
abbrev cS_put : ByteArray := prog_5_method_10_code
def yS_put : MethodName := ⟨"TermCodec$TermStack", "put", "(IJ)Z"⟩
abbrev cL_bytes : ByteArray := method_4_code
def yL_bytes : MethodName := ⟨"TermCodecLaw", "bytes", "(LTermCodec;JI[J)I"⟩
abbrev cX_bytes : ByteArray := prog_1_method_4_code
def yX_bytes : MethodName := ⟨"TermCodec", "bytes", "(JI)I"⟩
abbrev cL_number : ByteArray := method_5_code
def yL_number : MethodName := ⟨"TermCodecLaw", "number", "(LTermCodec;I[J)I"⟩
abbrev cX_number : ByteArray := prog_1_method_16_code
def yX_number : MethodName := ⟨"TermCodec", "number", "(I)J"⟩
abbrev cF_hasNumber : ByteArray := prog_3_method_4_code
def yF_hasNumber : MethodName := ⟨"TermCodec$Format", "hasNumber", "(I)Z"⟩
abbrev cL_same : ByteArray := method_6_code
def yL_same : MethodName := ⟨"TermCodecLaw", "same", "(LTermCodec;[J)I"⟩
abbrev cX_same : ByteArray := prog_1_method_18_code
def yX_same : MethodName := ⟨"TermCodec", "same", "()Z"⟩
abbrev cS_lastTwoAlike : ByteArray := prog_5_method_16_code
def yS_lastTwoAlike : MethodName := ⟨"TermCodec$TermStack", "lastTwoAlike", "()Z"⟩
abbrev cS_alike : ByteArray := prog_5_method_18_code
def yS_alike : MethodName := ⟨"TermCodec$TermStack", "alike", "(II)Z"⟩
abbrev cM_init : ByteArray := prog_7_method_1_code
def yM_init : MethodName := ⟨"TermCodecModel", "<init>", "()V"⟩
abbrev cM_thrown : ByteArray := prog_7_method_2_code
def yM_thrown : MethodName := ⟨"TermCodecModel", "thrown", "()I"⟩
abbrev cM_clear : ByteArray := prog_7_method_11_code
def yM_clear : MethodName := ⟨"TermCodecModel", "clear", "()V"⟩
abbrev cM_node : ByteArray := prog_7_method_14_code
def yM_node : MethodName := ⟨"TermCodecModel", "node", "(IJ)I"⟩
abbrev cM_isArg : ByteArray := prog_7_method_12_code
def yM_isArg : MethodName := ⟨"TermCodecModel", "isArg", "(IJ)Z"⟩
abbrev cM_takes : ByteArray := prog_7_method_3_code
def yM_takes : MethodName := ⟨"TermCodecModel", "takes", "(I)I"⟩
abbrev cM_deepest : ByteArray := prog_7_method_13_code
def yM_deepest : MethodName := ⟨"TermCodecModel", "deepest", "(I)I"⟩
abbrev cM_depthOf : ByteArray := prog_7_method_8_code
def yM_depthOf : MethodName := ⟨"TermCodecModel", "depthOf", "(I)I"⟩
abbrev cM_go : ByteArray := prog_7_method_7_code
def yM_go : MethodName := ⟨"TermCodecModel", "go", "(I)V"⟩
abbrev cM_make : ByteArray := prog_7_method_5_code
def yM_make : MethodName := ⟨"TermCodecModel", "make", "(IJ)I"⟩
abbrev cM_free : ByteArray := prog_7_method_4_code
def yM_free : MethodName := ⟨"TermCodecModel", "free", "()I"⟩
abbrev cM_bytes : ByteArray := prog_7_method_15_code
def yM_bytes : MethodName := ⟨"TermCodecModel", "bytes", "(JI)I"⟩
abbrev cM_append : ByteArray := prog_7_method_16_code
def yM_append : MethodName := ⟨"TermCodecModel", "append", "(IJI)V"⟩
abbrev cM_more : ByteArray := prog_7_method_17_code
def yM_more : MethodName := ⟨"TermCodecModel", "more", "(JI)Z"⟩
abbrev cM_drop : ByteArray := prog_7_method_18_code
def yM_drop : MethodName := ⟨"TermCodecModel", "drop", "()Z"⟩
abbrev cM_release : ByteArray := prog_7_method_6_code
def yM_release : MethodName := ⟨"TermCodecModel", "release", "(I)V"⟩
abbrev cM_twice : ByteArray := prog_7_method_19_code
def yM_twice : MethodName := ⟨"TermCodecModel", "twice", "()Z"⟩
abbrev cM_split : ByteArray := prog_7_method_20_code
def yM_split : MethodName := ⟨"TermCodecModel", "split", "()I"⟩
abbrev cM_write : ByteArray := prog_7_method_27_code
def yM_write : MethodName := ⟨"TermCodecModel", "write", "()I"⟩
abbrev cM_lengthOfTerm : ByteArray := prog_7_method_24_code
def yM_lengthOfTerm : MethodName := ⟨"TermCodecModel", "lengthOfTerm", "(I)I"⟩
abbrev cM_lengthOf : ByteArray := prog_7_method_23_code
def yM_lengthOf : MethodName := ⟨"TermCodecModel", "lengthOf", "(I)I"⟩
abbrev cM_lengthU : ByteArray := prog_7_method_21_code
def yM_lengthU : MethodName := ⟨"TermCodecModel", "lengthU", "(J)I"⟩
abbrev cM_lengthS : ByteArray := prog_7_method_22_code
def yM_lengthS : MethodName := ⟨"TermCodecModel", "lengthS", "(J)I"⟩
abbrev cM_layNode : ByteArray := prog_7_method_26_code
def yM_layNode : MethodName := ⟨"TermCodecModel", "layNode", "(I)V"⟩
abbrev cM_lay : ByteArray := prog_7_method_25_code
def yM_lay : MethodName := ⟨"TermCodecModel", "lay", "(J)V"⟩
abbrev cM_wipe : ByteArray := prog_7_method_28_code
def yM_wipe : MethodName := ⟨"TermCodecModel", "wipe", "()V"⟩
abbrev cM_give : ByteArray := prog_7_method_29_code
def yM_give : MethodName := ⟨"TermCodecModel", "give", "(JI)Z"⟩
abbrev cM_cut : ByteArray := prog_7_method_30_code
def yM_cut : MethodName := ⟨"TermCodecModel", "cut", "(I)Z"⟩
abbrev cM_turn : ByteArray := prog_7_method_31_code
def yM_turn : MethodName := ⟨"TermCodecModel", "turn", "()V"⟩
abbrev cM_read : ByteArray := prog_7_method_39_code
def yM_read : MethodName := ⟨"TermCodecModel", "read", "()I"⟩
abbrev cM_readNode : ByteArray := prog_7_method_37_code
def yM_readNode : MethodName := ⟨"TermCodecModel", "readNode", "(I)V"⟩
abbrev cM_next : ByteArray := prog_7_method_33_code
def yM_next : MethodName := ⟨"TermCodecModel", "next", "()I"⟩
abbrev cM_wrong : ByteArray := prog_7_method_32_code
def yM_wrong : MethodName := ⟨"TermCodecModel", "wrong", "(II)I"⟩
abbrev cM_must : ByteArray := prog_7_method_36_code
def yM_must : MethodName := ⟨"TermCodecModel", "must", "(Z)V"⟩
abbrev cM_readU : ByteArray := prog_7_method_34_code
def yM_readU : MethodName := ⟨"TermCodecModel", "readU", "()J"⟩
abbrev cM_readS : ByteArray := prog_7_method_35_code
def yM_readS : MethodName := ⟨"TermCodecModel", "readS", "()J"⟩
abbrev cM_open : ByteArray := prog_7_method_38_code
def yM_open : MethodName := ⟨"TermCodecModel", "open", "()I"⟩
abbrev cM_of : ByteArray := prog_7_method_41_code
def yM_of : MethodName := ⟨"TermCodecModel", "of", "(II)I"⟩
abbrev cM_isNode : ByteArray := prog_7_method_40_code
def yM_isNode : MethodName := ⟨"TermCodecModel", "isNode", "(I)Z"⟩
abbrev cM_sizeOf : ByteArray := prog_7_method_10_code
def yM_sizeOf : MethodName := ⟨"TermCodecModel", "sizeOf", "(I)I"⟩
abbrev cM_lambdas : ByteArray := prog_7_method_9_code
def yM_lambdas : MethodName := ⟨"TermCodecModel", "lambdas", "(II)I"⟩
abbrev cM_number : ByteArray := prog_7_method_42_code
def yM_number : MethodName := ⟨"TermCodecModel", "number", "(I)J"⟩
abbrev cM_byteAt : ByteArray := prog_7_method_43_code
def yM_byteAt : MethodName := ⟨"TermCodecModel", "byteAt", "(II)I"⟩
abbrev cM_same : ByteArray := prog_7_method_44_code
def yM_same : MethodName := ⟨"TermCodecModel", "same", "()Z"⟩
abbrev cM_output : ByteArray := prog_7_method_45_code
def yM_output : MethodName := ⟨"TermCodecModel", "output", "(I)I"⟩
abbrev cM_look : ByteArray := prog_7_method_46_code
def yM_look : MethodName := ⟨"TermCodecModel", "look", "(I)I"⟩
abbrev cL_law : ByteArray := code
theorem i_B : ∀ w ∈ u_ws RB TB 2, w ∈ xk_gt := by
  intro w hw
  obtain ⟨j, hj, rfl⟩ := List.mem_map.mp hw
  have hj : j < 2 := List.mem_range.mp hj
  match j, hj with
  | 0, _ => exact xk_mem 116 (by decide +kernel) (by decide)
  | 1, _ => exact xk_mem 118 (by decide +kernel) (by decide)
  | j + 2, hj => exact absurd hj (by omega)
theorem i_S : ∀ w ∈ u_ws RS TS 10, w ∈ xk_gt := by
  intro w hw
  obtain ⟨j, hj, rfl⟩ := List.mem_map.mp hw
  have hj : j < 10 := List.mem_range.mp hj
  match j, hj with
  | 0, _ => exact xk_mem 83 (by decide +kernel) (by decide)
  | 1, _ => exact xk_mem 85 (by decide +kernel) (by decide)
  | 2, _ => exact xk_mem 87 (by decide +kernel) (by decide)
  | 3, _ => exact xk_mem 89 (by decide +kernel) (by decide)
  | 4, _ => exact xk_mem 91 (by decide +kernel) (by decide)
  | 5, _ => exact xk_mem 93 (by decide +kernel) (by decide)
  | 6, _ => exact xk_mem 95 (by decide +kernel) (by decide)
  | 7, _ => exact xk_mem 97 (by decide +kernel) (by decide)
  | 8, _ => exact xk_mem 99 (by decide +kernel) (by decide)
  | 9, _ => exact xk_mem 101 (by decide +kernel) (by decide)
  | j + 10, hj => exact absurd hj (by omega)
theorem i_R : ∀ w ∈ u_ws RR TR 9, w ∈ xk_gt := by
  intro w hw
  obtain ⟨j, hj, rfl⟩ := List.mem_map.mp hw
  have hj : j < 9 := List.mem_range.mp hj
  match j, hj with
  | 0, _ => exact xk_mem 140 (by decide +kernel) (by decide)
  | 1, _ => exact xk_mem 142 (by decide +kernel) (by decide)
  | 2, _ => exact xk_mem 144 (by decide +kernel) (by decide)
  | 3, _ => exact xk_mem 146 (by decide +kernel) (by decide)
  | 4, _ => exact xk_mem 148 (by decide +kernel) (by decide)
  | 5, _ => exact xk_mem 150 (by decide +kernel) (by decide)
  | 6, _ => exact xk_mem 152 (by decide +kernel) (by decide)
  | 7, _ => exact xk_mem 154 (by decide +kernel) (by decide)
  | 8, _ => exact xk_mem 156 (by decide +kernel) (by decide)
  | j + 9, hj => exact absurd hj (by omega)
theorem i_X : ∀ w ∈ u_ws RX TX 4, w ∈ xk_gt := by
  intro w hw
  obtain ⟨j, hj, rfl⟩ := List.mem_map.mp hw
  have hj : j < 4 := List.mem_range.mp hj
  match j, hj with
  | 0, _ => exact xk_mem 163 (by decide +kernel) (by decide)
  | 1, _ => exact xk_mem 165 (by decide +kernel) (by decide)
  | 2, _ => exact xk_mem 167 (by decide +kernel) (by decide)
  | 3, _ => exact xk_mem 169 (by decide +kernel) (by decide)
  | j + 4, hj => exact absurd hj (by omega)
theorem i_M : ∀ w ∈ u_ws RM TM 31, w ∈ xk_gt := by
  intro w hw
  obtain ⟨j, hj, rfl⟩ := List.mem_map.mp hw
  have hj : j < 31 := List.mem_range.mp hj
  match j, hj with
  | 0, _ => exact xk_mem 576 (by decide +kernel) (by decide)
  | 1, _ => exact xk_mem 578 (by decide +kernel) (by decide)
  | 2, _ => exact xk_mem 580 (by decide +kernel) (by decide)
  | 3, _ => exact xk_mem 582 (by decide +kernel) (by decide)
  | 4, _ => exact xk_mem 584 (by decide +kernel) (by decide)
  | 5, _ => exact xk_mem 586 (by decide +kernel) (by decide)
  | 6, _ => exact xk_mem 588 (by decide +kernel) (by decide)
  | 7, _ => exact xk_mem 590 (by decide +kernel) (by decide)
  | 8, _ => exact xk_mem 592 (by decide +kernel) (by decide)
  | 9, _ => exact xk_mem 594 (by decide +kernel) (by decide)
  | 10, _ => exact xk_mem 596 (by decide +kernel) (by decide)
  | 11, _ => exact xk_mem 598 (by decide +kernel) (by decide)
  | 12, _ => exact xk_mem 600 (by decide +kernel) (by decide)
  | 13, _ => exact xk_mem 602 (by decide +kernel) (by decide)
  | 14, _ => exact xk_mem 604 (by decide +kernel) (by decide)
  | 15, _ => exact xk_mem 606 (by decide +kernel) (by decide)
  | 16, _ => exact xk_mem 608 (by decide +kernel) (by decide)
  | 17, _ => exact xk_mem 610 (by decide +kernel) (by decide)
  | 18, _ => exact xk_mem 612 (by decide +kernel) (by decide)
  | 19, _ => exact xk_mem 614 (by decide +kernel) (by decide)
  | 20, _ => exact xk_mem 616 (by decide +kernel) (by decide)
  | 21, _ => exact xk_mem 618 (by decide +kernel) (by decide)
  | 22, _ => exact xk_mem 620 (by decide +kernel) (by decide)
  | 23, _ => exact xk_mem 622 (by decide +kernel) (by decide)
  | 24, _ => exact xk_mem 624 (by decide +kernel) (by decide)
  | 25, _ => exact xk_mem 626 (by decide +kernel) (by decide)
  | 26, _ => exact xk_mem 628 (by decide +kernel) (by decide)
  | 27, _ => exact xk_mem 630 (by decide +kernel) (by decide)
  | 28, _ => exact xk_mem 632 (by decide +kernel) (by decide)
  | 29, _ => exact xk_mem 634 (by decide +kernel) (by decide)
  | 30, _ => exact xk_mem 636 (by decide +kernel) (by decide)
  | j + 31, hj => exact absurd hj (by omega)
end
section
theorem bp_b (x : Int32) : x.toInt8.toInt32 &&& 255 = x &&& 255 := by
  apply Int32.toBitVec_inj.mp
  rw [Int32.toBitVec_and, Int32.toBitVec_and, Int8.toBitVec_toInt32, Int32.toBitVec_toInt8]
  apply BitVec.eq_of_getLsbD_eq
  intro i hi
  rw [BitVec.getLsbD_and, BitVec.getLsbD_and]
  have hm : ∀ i < 32, 8 ≤ i → (255 : Int32).toBitVec.getLsbD i = false := by decide
  rcases Nat.lt_or_ge i 8 with z | z
  · rw [BitVec.getLsbD_signExtend, BitVec.getLsbD_signExtend, if_pos z, if_pos hi]
    simp only [z, hi, decide_true, Bool.true_and]
  · rw [hm i hi z]; simp
theorem wb_tb (n : Nat) : (lN n).toBitVec = BitVec.ofNat 64 n := rfl
theorem wb_inj {a b : Int64} (h : a.toBitVec = b.toBitVec) : a = b := Int64.toBitVec_inj.mp h
theorem wb_tn {n : Nat} (h : n < 2 ^ 64) : (lN n).toBitVec.toNat = n := by rw [wb_tb, BitVec.toNat_ofNat, Nat.mod_eq_of_lt h]
theorem wb_of (x : Int64) : ∃ n, n < 2 ^ 64 ∧ x = lN n := ⟨x.toBitVec.toNat, x.toBitVec.isLt, wb_inj (by rw [wb_tb]; simp)⟩
theorem wb_of32 (x : Int32) : ∃ n, n < 2 ^ 32 ∧ x = nI n := ⟨x.toBitVec.toNat, x.toBitVec.isLt, Int32.toBitVec_inj.mp (by show _ = BitVec.ofNat 32 _; simp)⟩
theorem wb_c : ∀ k, k < 64 → ((nI k).toInt64 &&& 63) = lN k := by decide +kernel
theorem wb_cu : ∀ k, k < 64 → ((nI k).toInt64.toUInt64 &&& Int64.toUInt64 63) = UInt64.ofNat k := by decide +kernel
theorem wb_sm : ∀ k, k < 64 → (BitVec.ofNat 64 k).smod 64 = BitVec.ofNat 64 k := by decide +kernel
theorem wb_pw {a b : Nat} (h : a ≤ b) : 2 ^ b = 2 ^ a * 2 ^ (b - a) := by rw [← Nat.pow_add]; congr 1; omega
theorem wb_lt2 {a b : Nat} (h : a < b) : 2 ^ a < 2 ^ b := Nat.pow_lt_pow_right (by decide) h
theorem wb_mod (n : Nat) : lN n = lN (n % 2 ^ 64) := wb_inj (by rw [wb_tb, wb_tb]; apply BitVec.eq_of_toNat_eq; rw [BitVec.toNat_ofNat, BitVec.toNat_ofNat, Nat.mod_mod])
theorem wb_shr {n k : Nat} (hn : n < 2 ^ 64) (hk : k < 64) : ((lN n).toUInt64 >>> ((nI k).toInt64.toUInt64 &&& Int64.toUInt64 63)).toInt64 = lN (n / 2 ^ k) := by
  rw [wb_cu k hk]
  apply wb_inj
  apply BitVec.eq_of_toNat_eq
  show ((lN n).toUInt64 >>> UInt64.ofNat k).toNat = (BitVec.ofNat 64 _).toNat
  have h1 : (UInt64.ofNat k).toNat = k := by
    show (BitVec.ofNat 64 k).toNat = k
    rw [BitVec.toNat_ofNat, Nat.mod_eq_of_lt (by omega)]
  have h2 : (lN n).toUInt64.toNat = n := wb_tn hn
  rw [UInt64.toNat_shiftRight, h1, h2, Nat.mod_eq_of_lt hk, Nat.shiftRight_eq_div_pow, BitVec.toNat_ofNat, Nat.mod_eq_of_lt (Nat.lt_of_le_of_lt (Nat.div_le_self _ _) hn)]
theorem wb_shl (n : Nat) {k : Nat} (hk : k < 64) : lN n <<< ((nI k).toInt64 &&& 63) = lN (n * 2 ^ k) := by
  rw [wb_c k hk]
  apply wb_inj
  rw [Int64.toBitVec_shiftLeft, wb_tb, wb_tb, wb_tb, wb_sm k hk]
  apply BitVec.eq_of_toNat_eq
  rw [BitVec.shiftLeft_eq', BitVec.toNat_shiftLeft, BitVec.toNat_ofNat, BitVec.toNat_ofNat, BitVec.toNat_ofNat, Nat.mod_eq_of_lt (show k < 2 ^ 64 by omega), Nat.shiftLeft_eq, Nat.mul_mod, Nat.mod_mod, ← Nat.mul_mod]
theorem wb_and {a b : Nat} (ha : a < 2 ^ 64) (hb : b < 2 ^ 64) : lN a &&& lN b = lN (a &&& b) := by
  apply wb_inj
  rw [Int64.toBitVec_and, wb_tb, wb_tb, wb_tb]
  apply BitVec.eq_of_toNat_eq
  rw [BitVec.toNat_and, BitVec.toNat_ofNat, BitVec.toNat_ofNat, BitVec.toNat_ofNat, Nat.mod_eq_of_lt ha, Nat.mod_eq_of_lt hb, Nat.mod_eq_of_lt (Nat.and_lt_two_pow _ hb)]
theorem wb_or {a b : Nat} (ha : a < 2 ^ 64) (hb : b < 2 ^ 64) : lN a ||| lN b = lN (a ||| b) := by
  apply wb_inj
  rw [Int64.toBitVec_or, wb_tb, wb_tb, wb_tb]
  apply BitVec.eq_of_toNat_eq
  rw [BitVec.toNat_or, BitVec.toNat_ofNat, BitVec.toNat_ofNat, BitVec.toNat_ofNat, Nat.mod_eq_of_lt ha, Nat.mod_eq_of_lt hb, Nat.mod_eq_of_lt (Nat.or_lt_two_pow ha hb)]
theorem wb_mask {n k : Nat} (hn : n < 2 ^ 64) (hk : k < 64) : lN n &&& lN (2 ^ k - 1) = lN (n % 2 ^ k) := by
  rw [wb_and hn (by have := wb_lt2 hk; omega), Nat.and_two_pow_sub_one_eq_mod]
theorem wb_a1 {n : Nat} (hn : n < 2 ^ 64) : lN n &&& 1 = lN (n % 2) := wb_mask (k := 1) hn (by decide)
theorem wb_bit {n k : Nat} (hn : n < 2 ^ 64) (hk : k < 64) : ((lN n).toUInt64 >>> ((nI k).toInt64.toUInt64 &&& Int64.toUInt64 63)).toInt64 &&& 1 = lN (n / 2 ^ k % 2) := by
  rw [wb_shr hn hk, wb_a1 (Nat.lt_of_le_of_lt (Nat.div_le_self _ _) hn)]
theorem wb_xor {q k : Nat} (hk : k < 63) (h : 2 ^ k ≤ q) (h2 : q < 2 ^ (k + 1)) : lN q ^^^ lN (2 ^ k) = lN (q - 2 ^ k) := by
  obtain ⟨r, rfl⟩ : ∃ r, q = 2 ^ k + r := ⟨q - 2 ^ k, by omega⟩
  have hr : r < 2 ^ k := by rw [Nat.pow_succ] at h2; omega
  have hx : (2 ^ k + r) ^^^ 2 ^ k = r := by
    apply Nat.eq_of_testBit_eq
    intro i
    rw [Nat.testBit_xor, Nat.testBit_two_pow]
    rcases Nat.lt_trichotomy i k with h | h | h
    · rw [Nat.testBit_two_pow_add_gt h]
      simp [show ¬ k = i by omega]
    · subst h
      rw [Nat.testBit_two_pow_add_eq]
      simp
    · have a1 : 2 ^ (k + 1) ≤ 2 ^ i := Nat.pow_le_pow_right (by decide) h
      rw [Nat.testBit_lt_two_pow (show 2 ^ k + r < 2 ^ i by omega), Nat.testBit_lt_two_pow (show r < 2 ^ i by omega)]
      simp [show ¬ k = i by omega]
  have b1 := wb_lt2 (show k + 1 < 64 by omega)
  have b2 := wb_lt2 (show k < 64 by omega)
  apply wb_inj
  rw [Int64.toBitVec_xor, wb_tb, wb_tb, wb_tb]
  apply BitVec.eq_of_toNat_eq
  rw [BitVec.toNat_xor, BitVec.toNat_ofNat, BitVec.toNat_ofNat, BitVec.toNat_ofNat, Nat.mod_eq_of_lt (by omega : 2 ^ k + r < 2 ^ 64), Nat.mod_eq_of_lt b2, hx, Nat.add_sub_cancel_left, Nat.mod_eq_of_lt (by omega)]
def uN (x : Int64) : Nat := x.toUInt64.toNat
theorem uN_lt (x : Int64) : uN x < 18446744073709551616 := x.toUInt64.toNat_lt
theorem uN_inj {x y : Int64} (h : uN x = uN y) : x = y := congrArg UInt64.toInt64 (UInt64.toNat_inj.mp h)
theorem uN_add (x y : Int64) : uN (x + y) = (uN x + uN y) % 18446744073709551616 := by
  show (x.toUInt64 + y.toUInt64).toNat = _
  exact UInt64.toNat_add _ _
theorem uN_mul (x y : Int64) : uN (x * y) = (uN x * uN y) % 18446744073709551616 := by
  show (x.toUInt64 * y.toUInt64).toNat = _
  exact UInt64.toNat_mul _ _
theorem uN_shl (x : Int64) : uN (x <<< ((1 : Int32).toInt64 &&& 63)) = (2 * uN x) % 18446744073709551616 := by
  have h : (((1 : Int32).toInt64 &&& 63).toBitVec.smod 64).toNat = 1 := by decide
  show (x.toBitVec <<< (((1 : Int32).toInt64 &&& 63).toBitVec.smod 64).toNat).toNat = _
  rw [h, BitVec.toNat_shiftLeft, Nat.shiftLeft_eq, Nat.mul_comm]
  rfl
theorem uN_shr (x : Int64) (s : UInt64) : uN (x.toUInt64 >>> s).toInt64 = uN x / 2 ^ (s.toNat % 64) := by
  show (x.toUInt64 >>> s).toNat = _
  rw [UInt64.toNat_shiftRight, Nat.shiftRight_eq_div_pow]
  rfl
theorem uN_s32 (x : Int64) : uN (x.toUInt64 >>> ((32 : Int32).toInt64.toUInt64 &&& Int64.toUInt64 63)).toInt64 = uN x / 4294967296 := by
  have h : ((32 : Int32).toInt64.toUInt64 &&& Int64.toUInt64 63).toNat % 64 = 32 := by decide
  rw [uN_shr, h]
theorem uN_s63 (x : Int64) : uN (x.toUInt64 >>> ((63 : Int32).toInt64.toUInt64 &&& Int64.toUInt64 63)).toInt64 = uN x / 9223372036854775808 := by
  have h : ((63 : Int32).toInt64.toUInt64 &&& Int64.toUInt64 63).toNat % 64 = 63 := by decide
  rw [uN_shr, h]
theorem uN_lo (x : Int64) : uN (x &&& 4294967295) = uN x % 4294967296 := by
  show (x.toUInt64 &&& Int64.toUInt64 4294967295).toNat = _
  rw [UInt64.toNat_and]
  exact Nat.and_two_pow_sub_one_eq_mod _ 32
theorem uN_bit (x : Int64) : (x &&& 1) = 0 ↔ uN x % 2 = 0 := by
  have h : uN (x &&& 1) = uN x % 2 := by
    show (x.toUInt64 &&& Int64.toUInt64 1).toNat = _
    rw [UInt64.toNat_and]
    exact Nat.and_two_pow_sub_one_eq_mod _ 1
  rw [← h]
  exact ⟨fun z => by rw [z]; rfl, fun z => uN_inj (z.trans rfl)⟩
theorem uN_or {x y : Int64} (hy : uN y < 2) : uN ((x <<< ((1 : Int32).toInt64 &&& 63)) ||| y) = (2 * uN x) % 18446744073709551616 + uN y := by
  have h1 : uN ((x <<< ((1 : Int32).toInt64 &&& 63)) ||| y) = uN (x <<< ((1 : Int32).toInt64 &&& 63)) ||| uN y := UInt64.toNat_or _ _
  have h2 : (2 * uN x) % 18446744073709551616 = 2 ^ 1 * (uN x % 9223372036854775808) := by omega
  rw [h1, uN_shl, h2]
  exact (Nat.two_pow_add_eq_or_of_lt (i := 1) hy _).symm
theorem nat_xor {a : Nat} (h : a < 18446744073709551616) : a ^^^ 2 ^ 63 = (a + 9223372036854775808) % 18446744073709551616 := by
  have h1 : (a ^^^ 2 ^ 63) % 2 ^ 63 = a % 2 ^ 63 := by rw [Nat.xor_mod_two_pow, Nat.mod_self, Nat.xor_zero]
  have h2 : (a ^^^ 2 ^ 63) / 2 ^ 63 = (a / 2 ^ 63) ^^^ 1 := by rw [Nat.xor_div_two_pow, Nat.div_self (Nat.two_pow_pos 63)]
  have h3 : a / 2 ^ 63 = 0 ∨ a / 2 ^ 63 = 1 := by omega
  generalize a ^^^ 2 ^ 63 = t at h1 h2
  rcases h3 with h3 | h3
  · rw [h3] at h2
    have h2 : t / 2 ^ 63 = 1 := h2
    omega
  · rw [h3] at h2
    have h2 : t / 2 ^ 63 = 0 := h2
    omega
theorem uN_xor (x : Int64) : uN (x ^^^ (-9223372036854775808)) = (uN x + 9223372036854775808) % 18446744073709551616 := by
  rw [← nat_xor (uN_lt x)]
  exact UInt64.toNat_xor _ _
theorem uN_int (x : Int64) : x.toInt = if 2 * uN x < 18446744073709551616 then (uN x : Int) else (uN x : Int) - 18446744073709551616 := BitVec.toInt_eq_toNat_cond _
theorem uN_le (x y : Int64) : (x ^^^ (-9223372036854775808)) ≤ (y ^^^ (-9223372036854775808)) ↔ uN x ≤ uN y := by
  have hx := uN_lt x
  have hy := uN_lt y
  rw [Int64.le_iff_toInt_le, uN_int, uN_int, uN_xor, uN_xor]
  omega
theorem uN_sk (x : Int64) {k : Nat} (hk : k < 64) : uN (x.toUInt64 >>> ((nI k).toInt64.toUInt64 &&& Int64.toUInt64 63)).toInt64 = uN x / 2 ^ k := by
  have h : ((nI k).toInt64.toUInt64 &&& Int64.toUInt64 63).toNat % 64 = k := by
    rw [nI_l (by omega), UInt64.toNat_and]
    have e : (lN k).toUInt64.toNat = k % 2 ^ 64 := rfl
    have e2 : (Int64.toUInt64 63).toNat = 2 ^ 6 - 1 := by decide
    rw [e, e2, Nat.and_two_pow_sub_one_eq_mod]
    omega
  rw [uN_shr, h]
end
section
/-! WALKING ROWS. xk_Go K D nL k n w lv pc st: the machine K at pc with the cells w, the locals lv, the operands st, k cells and n slots made, comes to its end. xk_Ok: what holds of the machine K through a method's body. -/
abbrev xk_T : Type := Program × Launch × Env × Room × State × MethodId × Array Value × List Frame × Method × Code × (State → Prop) × (Nat → Prop)
def xk_Go (K : xk_T) (D : va_G) (nL k n : Nat) (w : va_W) (lv : List (Nat × Value)) (pc : Nat) (st : List Value) : Prop :=
  match K with
  | (p, l, e, R, s, m, args, below, meth, c, Q, A) => ∀ (H : Heap) (locs : List Loc) (ls : Array Slot), va_P D vwCl w H → va_D A w → va_S A s.heap H locs → lv_has ls nL lv → W p l e R s m args below meth c H locs k n Q (F0 m pc ls st)
def xk_Ok (K : xk_T) (D : va_G) (cc : ByteArray) (nL : Nat) (own : String) (R0 : Room) (ty : List (ClassId × FieldType)) : Prop :=
  match K with
  | (p, _, _, R, s, m, args, _, _, c, _, A) => p.tables.exec = Jvm.exec ∧ c.code = cc ∧ c.maxLocals = nL ∧ s.vm.findClass own = some m.cls ∧ (∀ w ∈ xk_gt, w.before args s = true) ∧ va_K D vwCl ty s ∧ (∀ q, s.heap.size ≤ q → A q) ∧ R = R0
section XK1
variable {K : xk_T} {D : va_G} {cc : ByteArray} {nL k n : Nat} {own : String} {R0 : Room} {ty : List (ClassId × FieldType)} {w : va_W} {lv : List (Nat × Value)} {pc : Nat} {st : List Value}
theorem x_iconst (C : xk_Ok K D cc nL own R0 ty) {z : Int} {v : Int32} (d : decode cc pc = .ok (.iconst z, 1)) (hv : Int32.ofInt z = v)
    (kk : xk_Go K D nL k n w lv (pc + 1) (.int v :: st)) : xk_Go K D nL k n w lv pc (st) := by
  obtain ⟨p, l, e, R, s, m, args, below, meth, c, Q, A⟩ := K
  obtain ⟨hx, hb, hml, hown, hts, -⟩ := C
  intro H locs ls hP hD hS hl
  exact lv_iconst hx hb d hv (kk H locs ls hP hD hS hl)
theorem x_bipush (C : xk_Ok K D cc nL own R0 ty) {z : Int} {v : Int32} (d : decode cc pc = .ok (.bipush z, 2)) (hv : (Int8.ofInt z).toInt32 = v)
    (kk : xk_Go K D nL k n w lv (pc + 2) (.int v :: st)) : xk_Go K D nL k n w lv pc (st) := by
  obtain ⟨p, l, e, R, s, m, args, below, meth, c, Q, A⟩ := K
  obtain ⟨hx, hb, hml, hown, hts, -⟩ := C
  intro H locs ls hP hD hS hl
  exact lv_bipush hx hb d hv (kk H locs ls hP hD hS hl)
theorem x_sipush (C : xk_Ok K D cc nL own R0 ty) {z : Int} {v : Int32} (d : decode cc pc = .ok (.sipush z, 3)) (hv : (Int16.ofInt z).toInt32 = v)
    (kk : xk_Go K D nL k n w lv (pc + 3) (.int v :: st)) : xk_Go K D nL k n w lv pc (st) := by
  obtain ⟨p, l, e, R, s, m, args, below, meth, c, Q, A⟩ := K
  obtain ⟨hx, hb, hml, hown, hts, -⟩ := C
  intro H locs ls hP hD hS hl
  exact lv_sipush hx hb d hv (kk H locs ls hP hD hS hl)
theorem x_lconst (C : xk_Ok K D cc nL own R0 ty) {z : Fin 2} {v : Int64} (d : decode cc pc = .ok (.lconst z, 1)) (hv : Int64.ofNat (z : Nat) = v)
    (kk : xk_Go K D nL k n w lv (pc + 1) (.long v :: st)) : xk_Go K D nL k n w lv pc (st) := by
  obtain ⟨p, l, e, R, s, m, args, below, meth, c, Q, A⟩ := K
  obtain ⟨hx, hb, hml, hown, hts, -⟩ := C
  intro H locs ls hP hD hS hl
  exact lv_lconst hx hb d hv (kk H locs ls hP hD hS hl)
theorem x_ldc2 (C : xk_Ok K D cc nL own R0 ty) {v : Int64} {i : Nat} (d : decode cc pc = .ok (.ldc2_w i, 3)) (hc : Cond.constantLong own i v ∈ xk_gt)
    (kk : xk_Go K D nL k n w lv (pc + 3) (.long v :: st)) : xk_Go K D nL k n w lv pc (st) := by
  obtain ⟨p, l, e, R, s, m, args, below, meth, c, Q, A⟩ := K
  obtain ⟨hx, hb, hml, hown, hts, -⟩ := C
  intro H locs ls hP hD hS hl
  exact lv_ldc2 hx hb hown (hts _ hc) d (kk H locs ls hP hD hS hl)
theorem x_iload_n (C : xk_Ok K D cc nL own R0 ty) {z : Fin 4} {i : Nat} {x : Int32} (d : decode cc pc = .ok (.iload_n z, 1)) (hi : (z : Nat) = i) (q : Nat) (hq : lv[q]? = some (i, .int x))
    (kk : xk_Go K D nL k n w lv (pc + 1) (.int x :: st)) : xk_Go K D nL k n w lv pc (st) := by
  obtain ⟨p, l, e, R, s, m, args, below, meth, c, Q, A⟩ := K
  obtain ⟨hx, hb, hml, hown, hts, -⟩ := C
  intro H locs ls hP hD hS hl
  exact lv_iload_n hx hb d hi (lv_at hl q hq) (kk H locs ls hP hD hS hl)
theorem x_iload (C : xk_Ok K D cc nL own R0 ty) {i : Nat} {x : Int32} (d : decode cc pc = .ok (.iload i, 2)) (q : Nat) (hq : lv[q]? = some (i, .int x))
    (kk : xk_Go K D nL k n w lv (pc + 2) (.int x :: st)) : xk_Go K D nL k n w lv pc (st) := by
  obtain ⟨p, l, e, R, s, m, args, below, meth, c, Q, A⟩ := K
  obtain ⟨hx, hb, hml, hown, hts, -⟩ := C
  intro H locs ls hP hD hS hl
  exact lv_iload hx hb d (lv_at hl q hq) (kk H locs ls hP hD hS hl)
theorem x_lload_n (C : xk_Ok K D cc nL own R0 ty) {z : Fin 4} {i : Nat} {x : Int64} (d : decode cc pc = .ok (.lload_n z, 1)) (hi : (z : Nat) = i) (q : Nat) (hq : lv[q]? = some (i, .long x))
    (kk : xk_Go K D nL k n w lv (pc + 1) (.long x :: st)) : xk_Go K D nL k n w lv pc (st) := by
  obtain ⟨p, l, e, R, s, m, args, below, meth, c, Q, A⟩ := K
  obtain ⟨hx, hb, hml, hown, hts, -⟩ := C
  intro H locs ls hP hD hS hl
  exact lv_lload_n hx hb d hi (lv_at hl q hq) (kk H locs ls hP hD hS hl)
theorem x_lload (C : xk_Ok K D cc nL own R0 ty) {i : Nat} {x : Int64} (d : decode cc pc = .ok (.lload i, 2)) (q : Nat) (hq : lv[q]? = some (i, .long x))
    (kk : xk_Go K D nL k n w lv (pc + 2) (.long x :: st)) : xk_Go K D nL k n w lv pc (st) := by
  obtain ⟨p, l, e, R, s, m, args, below, meth, c, Q, A⟩ := K
  obtain ⟨hx, hb, hml, hown, hts, -⟩ := C
  intro H locs ls hP hD hS hl
  exact lv_lload hx hb d (lv_at hl q hq) (kk H locs ls hP hD hS hl)
theorem x_aload_n (C : xk_Ok K D cc nL own R0 ty) {z : Fin 4} {i : Nat} {x : Nat} (d : decode cc pc = .ok (.aload_n z, 1)) (hi : (z : Nat) = i) (q : Nat) (hq : lv[q]? = some (i, .ref x))
    (kk : xk_Go K D nL k n w lv (pc + 1) (.ref x :: st)) : xk_Go K D nL k n w lv pc (st) := by
  obtain ⟨p, l, e, R, s, m, args, below, meth, c, Q, A⟩ := K
  obtain ⟨hx, hb, hml, hown, hts, -⟩ := C
  intro H locs ls hP hD hS hl
  exact lv_aload_n hx hb d hi (lv_at hl q hq) (kk H locs ls hP hD hS hl)
theorem x_aload (C : xk_Ok K D cc nL own R0 ty) {i : Nat} {x : Nat} (d : decode cc pc = .ok (.aload i, 2)) (q : Nat) (hq : lv[q]? = some (i, .ref x))
    (kk : xk_Go K D nL k n w lv (pc + 2) (.ref x :: st)) : xk_Go K D nL k n w lv pc (st) := by
  obtain ⟨p, l, e, R, s, m, args, below, meth, c, Q, A⟩ := K
  obtain ⟨hx, hb, hml, hown, hts, -⟩ := C
  intro H locs ls hP hD hS hl
  exact lv_aload hx hb d (lv_at hl q hq) (kk H locs ls hP hD hS hl)
theorem x_istore_n (C : xk_Ok K D cc nL own R0 ty) {z : Fin 4} {i : Nat} {x : Int32} (lv' : List (Nat × Value)) (d : decode cc pc = .ok (.istore_n z, 1)) (hi : (z : Nat) = i) (hn : i < nL) (hlv : (i, Value.int x) :: lv.filter (fun q => !(q.1 == i) && !(q.1 + 1 == i && q.2.category == 2)) = lv')
    (kk : xk_Go K D nL k n w lv' (pc + 1) st) : xk_Go K D nL k n w lv pc (Value.int x :: st) := by
  obtain ⟨p, l, e, R, s, m, args, below, meth, c, Q, A⟩ := K
  obtain ⟨hx, hb, hml, hown, hts, -⟩ := C
  intro H locs ls hP hD hS hl
  exact lv_istore_n hx hb d hi hl hn hlv (fun ls' hl' => kk H locs ls' hP hD hS hl')
theorem x_istore (C : xk_Ok K D cc nL own R0 ty) {i : Nat} {x : Int32} (lv' : List (Nat × Value)) (d : decode cc pc = .ok (.istore i, 2)) (hn : i < nL) (hlv : (i, Value.int x) :: lv.filter (fun q => !(q.1 == i) && !(q.1 + 1 == i && q.2.category == 2)) = lv')
    (kk : xk_Go K D nL k n w lv' (pc + 2) st) : xk_Go K D nL k n w lv pc (Value.int x :: st) := by
  obtain ⟨p, l, e, R, s, m, args, below, meth, c, Q, A⟩ := K
  obtain ⟨hx, hb, hml, hown, hts, -⟩ := C
  intro H locs ls hP hD hS hl
  exact lv_istore hx hb d hl hn hlv (fun ls' hl' => kk H locs ls' hP hD hS hl')
theorem x_astore_n (C : xk_Ok K D cc nL own R0 ty) {z : Fin 4} {i : Nat} {x : Nat} (lv' : List (Nat × Value)) (d : decode cc pc = .ok (.astore_n z, 1)) (hi : (z : Nat) = i) (hn : i < nL) (hlv : (i, Value.ref x) :: lv.filter (fun q => !(q.1 == i) && !(q.1 + 1 == i && q.2.category == 2)) = lv')
    (kk : xk_Go K D nL k n w lv' (pc + 1) st) : xk_Go K D nL k n w lv pc (Value.ref x :: st) := by
  obtain ⟨p, l, e, R, s, m, args, below, meth, c, Q, A⟩ := K
  obtain ⟨hx, hb, hml, hown, hts, -⟩ := C
  intro H locs ls hP hD hS hl
  exact lv_astore_n hx hb d hi hl hn hlv (fun ls' hl' => kk H locs ls' hP hD hS hl')
theorem x_astore (C : xk_Ok K D cc nL own R0 ty) {i : Nat} {x : Nat} (lv' : List (Nat × Value)) (d : decode cc pc = .ok (.astore i, 2)) (hn : i < nL) (hlv : (i, Value.ref x) :: lv.filter (fun q => !(q.1 == i) && !(q.1 + 1 == i && q.2.category == 2)) = lv')
    (kk : xk_Go K D nL k n w lv' (pc + 2) st) : xk_Go K D nL k n w lv pc (Value.ref x :: st) := by
  obtain ⟨p, l, e, R, s, m, args, below, meth, c, Q, A⟩ := K
  obtain ⟨hx, hb, hml, hown, hts, -⟩ := C
  intro H locs ls hP hD hS hl
  exact lv_astore hx hb d hl hn hlv (fun ls' hl' => kk H locs ls' hP hD hS hl')
theorem x_lstore_n (C : xk_Ok K D cc nL own R0 ty) {z : Fin 4} {i : Nat} {x : Int64} (lv' : List (Nat × Value)) (d : decode cc pc = .ok (.lstore_n z, 1)) (hi : (z : Nat) = i) (hn : i + 1 < nL) (hlv : (i, Value.long x) :: lv.filter (fun q => !(q.1 == i) && (!(q.1 == i + 1) && !(q.1 + 1 == i && q.2.category == 2))) = lv')
    (kk : xk_Go K D nL k n w lv' (pc + 1) st) : xk_Go K D nL k n w lv pc (Value.long x :: st) := by
  obtain ⟨p, l, e, R, s, m, args, below, meth, c, Q, A⟩ := K
  obtain ⟨hx, hb, hml, hown, hts, -⟩ := C
  intro H locs ls hP hD hS hl
  exact lv_lstore_n hx hb d hi hl hn hlv (fun ls' hl' => kk H locs ls' hP hD hS hl')
theorem x_lstore (C : xk_Ok K D cc nL own R0 ty) {i : Nat} {x : Int64} (lv' : List (Nat × Value)) (d : decode cc pc = .ok (.lstore i, 2)) (hn : i + 1 < nL) (hlv : (i, Value.long x) :: lv.filter (fun q => !(q.1 == i) && (!(q.1 == i + 1) && !(q.1 + 1 == i && q.2.category == 2))) = lv')
    (kk : xk_Go K D nL k n w lv' (pc + 2) st) : xk_Go K D nL k n w lv pc (Value.long x :: st) := by
  obtain ⟨p, l, e, R, s, m, args, below, meth, c, Q, A⟩ := K
  obtain ⟨hx, hb, hml, hown, hts, -⟩ := C
  intro H locs ls hP hD hS hl
  exact lv_lstore hx hb d hl hn hlv (fun ls' hl' => kk H locs ls' hP hD hS hl')
theorem x_iinc (C : xk_Ok K D cc nL own R0 ty) {i q : Nat} {z : Int} {x : Int32} (v : Int32) (lv' : List (Nat × Value)) (d : decode cc pc = .ok (.iinc i z, 3)) (hq : lv[q]? = some (i, .int x)) (hv : x + Int32.ofInt z = v) (hn : i < nL) (hlv : (i, Value.int v) :: lv.filter (fun q => !(q.1 == i) && !(q.1 + 1 == i && q.2.category == 2)) = lv')
    (kk : xk_Go K D nL k n w lv' (pc + 3) st) : xk_Go K D nL k n w lv pc (st) := by
  obtain ⟨p, l, e, R, s, m, args, below, meth, c, Q, A⟩ := K
  obtain ⟨hx, hb, hml, hown, hts, -⟩ := C
  intro H locs ls hP hD hS hl
  exact lv_iinc hx hb d hl hq hv hn hlv (fun ls' hl' => kk H locs ls' hP hD hS hl')
theorem x_iadd (C : xk_Ok K D cc nL own R0 ty) {x y : Int32} (d : decode cc pc = .ok (.iadd, 1))
    (kk : xk_Go K D nL k n w lv (pc + 1) (.int (x + y) :: st)) : xk_Go K D nL k n w lv pc (.int y :: .int x :: st) := by
  obtain ⟨p, l, e, R, s, m, args, below, meth, c, Q, A⟩ := K
  obtain ⟨hx, hb, hml, hown, hts, -⟩ := C
  intro H locs ls hP hD hS hl
  exact lv_iadd hx hb d (kk H locs ls hP hD hS hl)
theorem x_isub (C : xk_Ok K D cc nL own R0 ty) {x y : Int32} (d : decode cc pc = .ok (.isub, 1))
    (kk : xk_Go K D nL k n w lv (pc + 1) (.int (x - y) :: st)) : xk_Go K D nL k n w lv pc (.int y :: .int x :: st) := by
  obtain ⟨p, l, e, R, s, m, args, below, meth, c, Q, A⟩ := K
  obtain ⟨hx, hb, hml, hown, hts, -⟩ := C
  intro H locs ls hP hD hS hl
  exact lv_isub hx hb d (kk H locs ls hP hD hS hl)
theorem x_imul (C : xk_Ok K D cc nL own R0 ty) {x y : Int32} (d : decode cc pc = .ok (.imul, 1))
    (kk : xk_Go K D nL k n w lv (pc + 1) (.int (x * y) :: st)) : xk_Go K D nL k n w lv pc (.int y :: .int x :: st) := by
  obtain ⟨p, l, e, R, s, m, args, below, meth, c, Q, A⟩ := K
  obtain ⟨hx, hb, hml, hown, hts, -⟩ := C
  intro H locs ls hP hD hS hl
  exact lv_imul hx hb d (kk H locs ls hP hD hS hl)
theorem x_iand (C : xk_Ok K D cc nL own R0 ty) {x y : Int32} (d : decode cc pc = .ok (.iand, 1))
    (kk : xk_Go K D nL k n w lv (pc + 1) (.int (x &&& y) :: st)) : xk_Go K D nL k n w lv pc (.int y :: .int x :: st) := by
  obtain ⟨p, l, e, R, s, m, args, below, meth, c, Q, A⟩ := K
  obtain ⟨hx, hb, hml, hown, hts, -⟩ := C
  intro H locs ls hP hD hS hl
  exact lv_iand hx hb d (kk H locs ls hP hD hS hl)
theorem x_ior (C : xk_Ok K D cc nL own R0 ty) {x y : Int32} (d : decode cc pc = .ok (.ior, 1))
    (kk : xk_Go K D nL k n w lv (pc + 1) (.int (x ||| y) :: st)) : xk_Go K D nL k n w lv pc (.int y :: .int x :: st) := by
  obtain ⟨p, l, e, R, s, m, args, below, meth, c, Q, A⟩ := K
  obtain ⟨hx, hb, hml, hown, hts, -⟩ := C
  intro H locs ls hP hD hS hl
  exact lv_ior hx hb d (kk H locs ls hP hD hS hl)
theorem x_ladd (C : xk_Ok K D cc nL own R0 ty) {x y : Int64} (d : decode cc pc = .ok (.ladd, 1))
    (kk : xk_Go K D nL k n w lv (pc + 1) (.long (x + y) :: st)) : xk_Go K D nL k n w lv pc (.long y :: .long x :: st) := by
  obtain ⟨p, l, e, R, s, m, args, below, meth, c, Q, A⟩ := K
  obtain ⟨hx, hb, hml, hown, hts, -⟩ := C
  intro H locs ls hP hD hS hl
  exact lv_ladd hx hb d (kk H locs ls hP hD hS hl)
theorem x_lsub (C : xk_Ok K D cc nL own R0 ty) {x y : Int64} (d : decode cc pc = .ok (.lsub, 1))
    (kk : xk_Go K D nL k n w lv (pc + 1) (.long (x - y) :: st)) : xk_Go K D nL k n w lv pc (.long y :: .long x :: st) := by
  obtain ⟨p, l, e, R, s, m, args, below, meth, c, Q, A⟩ := K
  obtain ⟨hx, hb, hml, hown, hts, -⟩ := C
  intro H locs ls hP hD hS hl
  exact lv_lsub hx hb d (kk H locs ls hP hD hS hl)
theorem x_land (C : xk_Ok K D cc nL own R0 ty) {x y : Int64} (d : decode cc pc = .ok (.land, 1))
    (kk : xk_Go K D nL k n w lv (pc + 1) (.long (x &&& y) :: st)) : xk_Go K D nL k n w lv pc (.long y :: .long x :: st) := by
  obtain ⟨p, l, e, R, s, m, args, below, meth, c, Q, A⟩ := K
  obtain ⟨hx, hb, hml, hown, hts, -⟩ := C
  intro H locs ls hP hD hS hl
  exact lv_land hx hb d (kk H locs ls hP hD hS hl)
theorem x_lor (C : xk_Ok K D cc nL own R0 ty) {x y : Int64} (d : decode cc pc = .ok (.lor, 1))
    (kk : xk_Go K D nL k n w lv (pc + 1) (.long (x ||| y) :: st)) : xk_Go K D nL k n w lv pc (.long y :: .long x :: st) := by
  obtain ⟨p, l, e, R, s, m, args, below, meth, c, Q, A⟩ := K
  obtain ⟨hx, hb, hml, hown, hts, -⟩ := C
  intro H locs ls hP hD hS hl
  exact lv_lor hx hb d (kk H locs ls hP hD hS hl)
theorem x_lxor (C : xk_Ok K D cc nL own R0 ty) {x y : Int64} (d : decode cc pc = .ok (.lxor, 1))
    (kk : xk_Go K D nL k n w lv (pc + 1) (.long (x ^^^ y) :: st)) : xk_Go K D nL k n w lv pc (.long y :: .long x :: st) := by
  obtain ⟨p, l, e, R, s, m, args, below, meth, c, Q, A⟩ := K
  obtain ⟨hx, hb, hml, hown, hts, -⟩ := C
  intro H locs ls hP hD hS hl
  exact lv_lxor hx hb d (kk H locs ls hP hD hS hl)
theorem x_idiv (C : xk_Ok K D cc nL own R0 ty) {x y : Int32} (d : decode cc pc = .ok (.idiv, 1)) (hne : ¬ y = 0)
    (kk : xk_Go K D nL k n w lv (pc + 1) (.int (x / y) :: st)) : xk_Go K D nL k n w lv pc (.int y :: .int x :: st) := by
  obtain ⟨p, l, e, R, s, m, args, below, meth, c, Q, A⟩ := K
  obtain ⟨hx, hb, hml, hown, hts, -⟩ := C
  intro H locs ls hP hD hS hl
  exact lv_idiv hx hb d hne (kk H locs ls hP hD hS hl)
theorem x_irem (C : xk_Ok K D cc nL own R0 ty) {x y : Int32} (d : decode cc pc = .ok (.irem, 1)) (hne : ¬ y = 0)
    (kk : xk_Go K D nL k n w lv (pc + 1) (.int (x - x / y * y) :: st)) : xk_Go K D nL k n w lv pc (.int y :: .int x :: st) := by
  obtain ⟨p, l, e, R, s, m, args, below, meth, c, Q, A⟩ := K
  obtain ⟨hx, hb, hml, hown, hts, -⟩ := C
  intro H locs ls hP hD hS hl
  exact lv_irem hx hb d hne (kk H locs ls hP hD hS hl)
theorem x_ldiv (C : xk_Ok K D cc nL own R0 ty) {x y : Int64} (d : decode cc pc = .ok (.ldiv, 1)) (hne : ¬ y = 0)
    (kk : xk_Go K D nL k n w lv (pc + 1) (.long (x / y) :: st)) : xk_Go K D nL k n w lv pc (.long y :: .long x :: st) := by
  obtain ⟨p, l, e, R, s, m, args, below, meth, c, Q, A⟩ := K
  obtain ⟨hx, hb, hml, hown, hts, -⟩ := C
  intro H locs ls hP hD hS hl
  exact lv_ldiv hx hb d hne (kk H locs ls hP hD hS hl)
theorem x_lrem (C : xk_Ok K D cc nL own R0 ty) {x y : Int64} (d : decode cc pc = .ok (.lrem, 1)) (hne : ¬ y = 0)
    (kk : xk_Go K D nL k n w lv (pc + 1) (.long (x - x / y * y) :: st)) : xk_Go K D nL k n w lv pc (.long y :: .long x :: st) := by
  obtain ⟨p, l, e, R, s, m, args, below, meth, c, Q, A⟩ := K
  obtain ⟨hx, hb, hml, hown, hts, -⟩ := C
  intro H locs ls hP hD hS hl
  exact lv_lrem hx hb d hne (kk H locs ls hP hD hS hl)
theorem x_i2l (C : xk_Ok K D cc nL own R0 ty) {x : Int32} {v : Int64} (d : decode cc pc = .ok (.i2l, 1)) (hv : x.toInt64 = v)
    (kk : xk_Go K D nL k n w lv (pc + 1) (.long v :: st)) : xk_Go K D nL k n w lv pc (.int x :: st) := by
  obtain ⟨p, l, e, R, s, m, args, below, meth, c, Q, A⟩ := K
  obtain ⟨hx, hb, hml, hown, hts, -⟩ := C
  intro H locs ls hP hD hS hl
  exact lv_i2l hx hb d hv (kk H locs ls hP hD hS hl)
theorem x_l2i (C : xk_Ok K D cc nL own R0 ty) {x : Int64} {v : Int32} (d : decode cc pc = .ok (.l2i, 1)) (hv : x.toInt32 = v)
    (kk : xk_Go K D nL k n w lv (pc + 1) (.int v :: st)) : xk_Go K D nL k n w lv pc (.long x :: st) := by
  obtain ⟨p, l, e, R, s, m, args, below, meth, c, Q, A⟩ := K
  obtain ⟨hx, hb, hml, hown, hts, -⟩ := C
  intro H locs ls hP hD hS hl
  exact lv_l2i hx hb d hv (kk H locs ls hP hD hS hl)
theorem x_i2b (C : xk_Ok K D cc nL own R0 ty) {x v : Int32} (d : decode cc pc = .ok (.i2b, 1)) (hv : x.toInt8.toInt32 = v)
    (kk : xk_Go K D nL k n w lv (pc + 1) (.int v :: st)) : xk_Go K D nL k n w lv pc (.int x :: st) := by
  obtain ⟨p, l, e, R, s, m, args, below, meth, c, Q, A⟩ := K
  obtain ⟨hx, hb, hml, hown, hts, -⟩ := C
  intro H locs ls hP hD hS hl
  exact lv_i2b hx hb d hv (kk H locs ls hP hD hS hl)
theorem x_lushr (C : xk_Ok K D cc nL own R0 ty) {x v : Int64} {y : Int32} (d : decode cc pc = .ok (.lushr, 1)) (hv : (x.toUInt64 >>> (y.toInt64.toUInt64 &&& Int64.toUInt64 63)).toInt64 = v)
    (kk : xk_Go K D nL k n w lv (pc + 1) (.long v :: st)) : xk_Go K D nL k n w lv pc (.int y :: .long x :: st) := by
  obtain ⟨p, l, e, R, s, m, args, below, meth, c, Q, A⟩ := K
  obtain ⟨hx, hb, hml, hown, hts, -⟩ := C
  intro H locs ls hP hD hS hl
  exact lv_lushr hx hb d hv (kk H locs ls hP hD hS hl)
theorem x_lshl (C : xk_Ok K D cc nL own R0 ty) {x v : Int64} {y : Int32} (d : decode cc pc = .ok (.lshl, 1)) (hv : x <<< (y.toInt64 &&& 63) = v)
    (kk : xk_Go K D nL k n w lv (pc + 1) (.long v :: st)) : xk_Go K D nL k n w lv pc (.int y :: .long x :: st) := by
  obtain ⟨p, l, e, R, s, m, args, below, meth, c, Q, A⟩ := K
  obtain ⟨hx, hb, hml, hown, hts, -⟩ := C
  intro H locs ls hP hD hS hl
  exact lv_lshl hx hb d hv (kk H locs ls hP hD hS hl)
theorem x_lshr (C : xk_Ok K D cc nL own R0 ty) {x v : Int64} {y : Int32} (d : decode cc pc = .ok (.lshr, 1)) (hv : x >>> (y.toInt64 &&& 63) = v)
    (kk : xk_Go K D nL k n w lv (pc + 1) (.long v :: st)) : xk_Go K D nL k n w lv pc (.int y :: .long x :: st) := by
  obtain ⟨p, l, e, R, s, m, args, below, meth, c, Q, A⟩ := K
  obtain ⟨hx, hb, hml, hown, hts, -⟩ := C
  intro H locs ls hP hD hS hl
  exact lv_lshr hx hb d hv (kk H locs ls hP hD hS hl)
theorem x_lcmp (C : xk_Ok K D cc nL own R0 ty) {x y : Int64} (d : decode cc pc = .ok (.lcmp, 1))
    (kk : xk_Go K D nL k n w lv (pc + 1) (.int (lg_cmp x y) :: st)) : xk_Go K D nL k n w lv pc (.long y :: .long x :: st) := by
  obtain ⟨p, l, e, R, s, m, args, below, meth, c, Q, A⟩ := K
  obtain ⟨hx, hb, hml, hown, hts, -⟩ := C
  intro H locs ls hP hD hS hl
  exact W.lcmp hx hb d (kk H locs ls hP hD hS hl)
theorem x_dup (C : xk_Ok K D cc nL own R0 ty) {va : Value} (d : decode cc pc = .ok (.dup, 1)) (hv : va.category = 1)
    (kk : xk_Go K D nL k n w lv (pc + 1) (va :: va :: st)) : xk_Go K D nL k n w lv pc (va :: st) := by
  obtain ⟨p, l, e, R, s, m, args, below, meth, c, Q, A⟩ := K
  obtain ⟨hx, hb, hml, hown, hts, -⟩ := C
  intro H locs ls hP hD hS hl
  exact lv_dup hx hb d hv (kk H locs ls hP hD hS hl)
theorem x_dup2 (C : xk_Ok K D cc nL own R0 ty) {va vb : Value} (d : decode cc pc = .ok (.dup2, 1)) (hv : va.category = 1) (hv2 : vb.category = 1)
    (kk : xk_Go K D nL k n w lv (pc + 1) (va :: vb :: va :: vb :: st)) : xk_Go K D nL k n w lv pc (va :: vb :: st) := by
  obtain ⟨p, l, e, R, s, m, args, below, meth, c, Q, A⟩ := K
  obtain ⟨hx, hb, hml, hown, hts, -⟩ := C
  intro H locs ls hP hD hS hl
  exact lv_dup2_11 hx hb d hv hv2 (kk H locs ls hP hD hS hl)
theorem x_pop (C : xk_Ok K D cc nL own R0 ty) {va : Value} (d : decode cc pc = .ok (.pop, 1)) (hv : va.category = 1)
    (kk : xk_Go K D nL k n w lv (pc + 1) (st)) : xk_Go K D nL k n w lv pc (va :: st) := by
  obtain ⟨p, l, e, R, s, m, args, below, meth, c, Q, A⟩ := K
  obtain ⟨hx, hb, hml, hown, hts, -⟩ := C
  intro H locs ls hP hD hS hl
  exact lv_pop hx hb d hv (kk H locs ls hP hD hS hl)
theorem x_if_eq (C : xk_Ok K D cc nL own R0 ty) {x : Int32} {off : Int} {tgt : Nat} (d : decode cc pc = .ok (.ifCond .eq off, 3)) (ht : (pc : Int) + off = (tgt : Int))
    (kt : x = 0 → xk_Go K D nL k n w lv tgt st) (kf : ¬ x = 0 → xk_Go K D nL k n w lv (pc + 3) st) : xk_Go K D nL k n w lv pc (.int x :: st) := by
  obtain ⟨p, l, e, R, s, m, args, below, meth, c, Q, A⟩ := K
  obtain ⟨hx, hb, -⟩ := C
  intro H locs ls hP hD hS hl
  exact lv_if_eq hx hb d ht (fun h => kt h H locs ls hP hD hS hl) (fun h => kf h H locs ls hP hD hS hl)
theorem x_icmp_eq (C : xk_Ok K D cc nL own R0 ty) {x y : Int32} {off : Int} {tgt : Nat} (d : decode cc pc = .ok (.if_icmp .eq off, 3)) (ht : (pc : Int) + off = (tgt : Int))
    (kt : x = y → xk_Go K D nL k n w lv tgt st) (kf : ¬ x = y → xk_Go K D nL k n w lv (pc + 3) st) : xk_Go K D nL k n w lv pc (.int y :: .int x :: st) := by
  obtain ⟨p, l, e, R, s, m, args, below, meth, c, Q, A⟩ := K
  obtain ⟨hx, hb, -⟩ := C
  intro H locs ls hP hD hS hl
  exact lv_icmp_eq hx hb d ht (fun h => kt h H locs ls hP hD hS hl) (fun h => kf h H locs ls hP hD hS hl)
theorem x_if_ne (C : xk_Ok K D cc nL own R0 ty) {x : Int32} {off : Int} {tgt : Nat} (d : decode cc pc = .ok (.ifCond .ne off, 3)) (ht : (pc : Int) + off = (tgt : Int))
    (kt : ¬ x = 0 → xk_Go K D nL k n w lv tgt st) (kf : x = 0 → xk_Go K D nL k n w lv (pc + 3) st) : xk_Go K D nL k n w lv pc (.int x :: st) := by
  obtain ⟨p, l, e, R, s, m, args, below, meth, c, Q, A⟩ := K
  obtain ⟨hx, hb, -⟩ := C
  intro H locs ls hP hD hS hl
  exact lv_if_ne hx hb d ht (fun h => kt h H locs ls hP hD hS hl) (fun h => kf h H locs ls hP hD hS hl)
theorem x_icmp_ne (C : xk_Ok K D cc nL own R0 ty) {x y : Int32} {off : Int} {tgt : Nat} (d : decode cc pc = .ok (.if_icmp .ne off, 3)) (ht : (pc : Int) + off = (tgt : Int))
    (kt : ¬ x = y → xk_Go K D nL k n w lv tgt st) (kf : x = y → xk_Go K D nL k n w lv (pc + 3) st) : xk_Go K D nL k n w lv pc (.int y :: .int x :: st) := by
  obtain ⟨p, l, e, R, s, m, args, below, meth, c, Q, A⟩ := K
  obtain ⟨hx, hb, -⟩ := C
  intro H locs ls hP hD hS hl
  exact lv_icmp_ne hx hb d ht (fun h => kt h H locs ls hP hD hS hl) (fun h => kf h H locs ls hP hD hS hl)
theorem x_if_lt (C : xk_Ok K D cc nL own R0 ty) {x : Int32} {off : Int} {tgt : Nat} (d : decode cc pc = .ok (.ifCond .lt off, 3)) (ht : (pc : Int) + off = (tgt : Int))
    (kt : x < 0 → xk_Go K D nL k n w lv tgt st) (kf : ¬ x < 0 → xk_Go K D nL k n w lv (pc + 3) st) : xk_Go K D nL k n w lv pc (.int x :: st) := by
  obtain ⟨p, l, e, R, s, m, args, below, meth, c, Q, A⟩ := K
  obtain ⟨hx, hb, -⟩ := C
  intro H locs ls hP hD hS hl
  exact lv_if_lt hx hb d ht (fun h => kt h H locs ls hP hD hS hl) (fun h => kf h H locs ls hP hD hS hl)
theorem x_icmp_lt (C : xk_Ok K D cc nL own R0 ty) {x y : Int32} {off : Int} {tgt : Nat} (d : decode cc pc = .ok (.if_icmp .lt off, 3)) (ht : (pc : Int) + off = (tgt : Int))
    (kt : x < y → xk_Go K D nL k n w lv tgt st) (kf : ¬ x < y → xk_Go K D nL k n w lv (pc + 3) st) : xk_Go K D nL k n w lv pc (.int y :: .int x :: st) := by
  obtain ⟨p, l, e, R, s, m, args, below, meth, c, Q, A⟩ := K
  obtain ⟨hx, hb, -⟩ := C
  intro H locs ls hP hD hS hl
  exact lv_icmp_lt hx hb d ht (fun h => kt h H locs ls hP hD hS hl) (fun h => kf h H locs ls hP hD hS hl)
theorem x_if_ge (C : xk_Ok K D cc nL own R0 ty) {x : Int32} {off : Int} {tgt : Nat} (d : decode cc pc = .ok (.ifCond .ge off, 3)) (ht : (pc : Int) + off = (tgt : Int))
    (kt : 0 ≤ x → xk_Go K D nL k n w lv tgt st) (kf : ¬ 0 ≤ x → xk_Go K D nL k n w lv (pc + 3) st) : xk_Go K D nL k n w lv pc (.int x :: st) := by
  obtain ⟨p, l, e, R, s, m, args, below, meth, c, Q, A⟩ := K
  obtain ⟨hx, hb, -⟩ := C
  intro H locs ls hP hD hS hl
  exact lv_if_ge hx hb d ht (fun h => kt h H locs ls hP hD hS hl) (fun h => kf h H locs ls hP hD hS hl)
theorem x_icmp_ge (C : xk_Ok K D cc nL own R0 ty) {x y : Int32} {off : Int} {tgt : Nat} (d : decode cc pc = .ok (.if_icmp .ge off, 3)) (ht : (pc : Int) + off = (tgt : Int))
    (kt : y ≤ x → xk_Go K D nL k n w lv tgt st) (kf : ¬ y ≤ x → xk_Go K D nL k n w lv (pc + 3) st) : xk_Go K D nL k n w lv pc (.int y :: .int x :: st) := by
  obtain ⟨p, l, e, R, s, m, args, below, meth, c, Q, A⟩ := K
  obtain ⟨hx, hb, -⟩ := C
  intro H locs ls hP hD hS hl
  exact lv_icmp_ge hx hb d ht (fun h => kt h H locs ls hP hD hS hl) (fun h => kf h H locs ls hP hD hS hl)
theorem x_if_gt (C : xk_Ok K D cc nL own R0 ty) {x : Int32} {off : Int} {tgt : Nat} (d : decode cc pc = .ok (.ifCond .gt off, 3)) (ht : (pc : Int) + off = (tgt : Int))
    (kt : 0 < x → xk_Go K D nL k n w lv tgt st) (kf : ¬ 0 < x → xk_Go K D nL k n w lv (pc + 3) st) : xk_Go K D nL k n w lv pc (.int x :: st) := by
  obtain ⟨p, l, e, R, s, m, args, below, meth, c, Q, A⟩ := K
  obtain ⟨hx, hb, -⟩ := C
  intro H locs ls hP hD hS hl
  exact lv_if_gt hx hb d ht (fun h => kt h H locs ls hP hD hS hl) (fun h => kf h H locs ls hP hD hS hl)
theorem x_icmp_gt (C : xk_Ok K D cc nL own R0 ty) {x y : Int32} {off : Int} {tgt : Nat} (d : decode cc pc = .ok (.if_icmp .gt off, 3)) (ht : (pc : Int) + off = (tgt : Int))
    (kt : y < x → xk_Go K D nL k n w lv tgt st) (kf : ¬ y < x → xk_Go K D nL k n w lv (pc + 3) st) : xk_Go K D nL k n w lv pc (.int y :: .int x :: st) := by
  obtain ⟨p, l, e, R, s, m, args, below, meth, c, Q, A⟩ := K
  obtain ⟨hx, hb, -⟩ := C
  intro H locs ls hP hD hS hl
  exact lv_icmp_gt hx hb d ht (fun h => kt h H locs ls hP hD hS hl) (fun h => kf h H locs ls hP hD hS hl)
theorem x_if_le (C : xk_Ok K D cc nL own R0 ty) {x : Int32} {off : Int} {tgt : Nat} (d : decode cc pc = .ok (.ifCond .le off, 3)) (ht : (pc : Int) + off = (tgt : Int))
    (kt : x ≤ 0 → xk_Go K D nL k n w lv tgt st) (kf : ¬ x ≤ 0 → xk_Go K D nL k n w lv (pc + 3) st) : xk_Go K D nL k n w lv pc (.int x :: st) := by
  obtain ⟨p, l, e, R, s, m, args, below, meth, c, Q, A⟩ := K
  obtain ⟨hx, hb, -⟩ := C
  intro H locs ls hP hD hS hl
  exact lv_if_le hx hb d ht (fun h => kt h H locs ls hP hD hS hl) (fun h => kf h H locs ls hP hD hS hl)
theorem x_icmp_le (C : xk_Ok K D cc nL own R0 ty) {x y : Int32} {off : Int} {tgt : Nat} (d : decode cc pc = .ok (.if_icmp .le off, 3)) (ht : (pc : Int) + off = (tgt : Int))
    (kt : x ≤ y → xk_Go K D nL k n w lv tgt st) (kf : ¬ x ≤ y → xk_Go K D nL k n w lv (pc + 3) st) : xk_Go K D nL k n w lv pc (.int y :: .int x :: st) := by
  obtain ⟨p, l, e, R, s, m, args, below, meth, c, Q, A⟩ := K
  obtain ⟨hx, hb, -⟩ := C
  intro H locs ls hP hD hS hl
  exact lv_icmp_le hx hb d ht (fun h => kt h H locs ls hP hD hS hl) (fun h => kf h H locs ls hP hD hS hl)
theorem x_goto (C : xk_Ok K D cc nL own R0 ty) {off : Int} (tgt : Nat) (d : decode cc pc = .ok (.goto off, 3)) (ht : (pc : Int) + off = (tgt : Int))
    (kk : xk_Go K D nL k n w lv tgt st) : xk_Go K D nL k n w lv pc st := by
  obtain ⟨p, l, e, R, s, m, args, below, meth, c, Q, A⟩ := K
  obtain ⟨hx, hb, -⟩ := C
  intro H locs ls hP hD hS hl
  exact lv_goto hx hb d ht (kk H locs ls hP hD hS hl)
end XK1
/-! WALKING ROWS 2: fields, arrays, calls, ends. -/
def xk_nA (g : Nat → Nat) : Nat → Int32 := fun j => nI (g j)
def xk_oI : Option Nat → Int32
  | none => -1
  | some v => nI v
def xk_oA (g : Nat → Option Nat) : Nat → Int32 := fun j => xk_oI (g j)
def xk_bZ : Bool → Int32
  | false => nI 0
  | true => nI 1
def xk_zA (g : Nat → Bool) : Nat → Int32 := fun j => xk_bZ (g j)
def xk_sb (v : Nat) : Int32 := (nI v).toInt8.toInt32
def xk_bA (g : Nat → Nat) : Nat → Int32 := fun j => xk_sb (g j)
theorem xk_nA_up (g : Nat → Nat) (i v : Nat) : upd (xk_nA g) i (nI v) = xk_nA (va_up g i v) := by
  funext j
  unfold upd xk_nA va_up
  split <;> rfl
theorem xk_oA_up (g : Nat → Option Nat) (i : Nat) (v : Option Nat) : upd (xk_oA g) i (xk_oI v) = xk_oA (va_up g i v) := by
  funext j
  unfold upd xk_oA va_up
  split <;> rfl
theorem xk_zA_up (g : Nat → Bool) (i : Nat) (v : Bool) : upd (xk_zA g) i (xk_bZ v) = xk_zA (va_up g i v) := by
  funext j
  unfold upd xk_zA va_up
  split <;> rfl
theorem xk_bA_up (g : Nat → Nat) (i v : Nat) : upd (xk_bA g) i (xk_sb v) = xk_bA (va_up g i v) := by
  funext j
  unfold upd xk_bA va_up
  split <;> rfl
theorem xk_sb_nar (v : Nat) : vp_nar .byte (xk_sb v) = xk_sb v := pk_vb (nI v)
theorem xk_bZ_nar (b : Bool) : vp_nar .boolean (xk_bZ b) = xk_bZ b := by
  cases b <;> rfl
/-- a field that can be read: own: the class that reads; idx: its pool's row; ci: the class of the object by vwCl; k: the slot -/
def xk_F (own : String) (idx ci k : Nat) : Prop := ∃ (Cn : String) (T : u_T) (N : Nat), vwCl[ci]? = some (Cn, T, N) ∧ k < N ∧ (∀ w ∈ u_ws Cn T N, w ∈ xk_gt) ∧ Cond.fieldLink own idx (T k).1 (T k).2.1 (T k).2.2.1 ∈ xk_gt
/-- a field that can be written -/
def xk_FP (own : String) (idx ci k : Nat) (fin : Bool) (fty : FieldType) : Prop := ∃ (Cn : String) (T : u_T) (N : Nat), vwCl[ci]? = some (Cn, T, N) ∧ k < N ∧ (∀ w ∈ u_ws Cn T N, w ∈ xk_gt) ∧ Cond.fieldLink own idx (T k).1 (T k).2.1 (T k).2.2.1 ∈ xk_gt ∧
  (∃ ty0 : Nat → FieldType, ∀ j, j < N → parseFieldDescriptor (T j).2.2.1 = some (ty0 j)) ∧ (∀ a, a < N → ∀ b, b < N → a ≠ b → (T a).2.1 ≠ (T b).2.1) ∧ (T k).2.2.2 = fin ∧ parseFieldDescriptor (T k).2.2.1 = some fty ∧ (fin = true → (T k).1 = own)
section XK2
variable {K : xk_T} {D : va_G} {cc : ByteArray} {nL k n : Nat} {own : String} {R0 : Room} {ty : List (ClassId × FieldType)} {w : va_W} {lv : List (Nat × Value)} {pc : Nat} {st : List Value}
theorem x_sub (is : List Nat) {lv' : List (Nat × Value)} (h : lv_pick lv is = lv') (kk : xk_Go K D nL k n w lv' pc st) : xk_Go K D nL k n w lv pc st := by
  obtain ⟨p, l, e, R, s, m, args, below, meth, c, Q, A⟩ := K
  intro H locs ls hP hD hS hl
  exact kk H locs ls hP hD hS (lv_sub hl is h)
theorem x_widen {k' n' : Nat} (h1 : k ≤ k') (h2 : n ≤ n') (kk : xk_Go K D nL k' n' w lv pc st) : xk_Go K D nL k n w lv pc st := by
  obtain ⟨p, l, e, R, s, m, args, below, meth, c, Q, A⟩ := K
  intro H locs ls hP hD hS hl
  exact W.widen h1 h2 (kk H locs ls hP hD hS hl)
theorem x_perm (is : List Nat) {w' : va_W} (hn : va_nd is = true) (hs : is.filterMap (fun i => w[i]?) = w') (hs2 : is.map (fun i => w[i]?) = w'.map some) (kk : xk_Go K D nL k n w' lv pc st) : xk_Go K D nL k n w lv pc st := by
  obtain ⟨p, l, e, R, s, m, args, below, meth, c, Q, A⟩ := K
  intro H locs ls hP hD hS hl
  exact kk H locs ls (hP.sub is hs) (hD.sub is hn hs2) hS hl
theorem x_get (C : xk_Ok K D cc nL own R0 ty) {idx ci kf : Nat} (hF : xk_F own idx ci kf) (q0 : Nat) {a : Nat} {fs : List Value} {v : Value} (he : w[q0]? = some (a, .inr (ci, fs))) (hv : fs[kf]? = some v) (d : decode cc pc = .ok (.getfield idx, 3))
    (kk : xk_Go K D nL k n w lv (pc + 3) (v :: st)) : xk_Go K D nL k n w lv pc (.ref a :: st) := by
  obtain ⟨p, l, e, R, s, m, args, below, meth, c, Q, A⟩ := K
  obtain ⟨hx, hb, hml, hown, hts, hK, -⟩ := C
  obtain ⟨Cn, T, N, hc, hk, hin, hlk⟩ := hF
  intro H locs ls hP hD hS hl
  exact va_get hx hb hts hin hown hK hP q0 he hc kf hk (hts _ hlk) (fun _ h9 => h9) hv d (kk H locs ls hP hD hS hl)
theorem x_put (C : xk_Ok K D cc nL own R0 ty) {idx ci kf : Nat} {fty : FieldType} (hF : xk_FP own idx ci kf false fty) (q0 : Nat) (w' : va_W) {a : Nat} {fs : List Value} {v : Value} (he : w[q0]? = some (a, .inr (ci, fs))) (hw : w.set q0 (a, .inr (ci, fs.set kf v)) = w')
    (hn : narrow fty v = v) (hfit : fits fty v = true) (hlen : kf < fs.length) (d : decode cc pc = .ok (.putfield idx, 3))
    (kk : xk_Go K D nL k n w' lv (pc + 3) st) : xk_Go K D nL k n w lv pc (v :: .ref a :: st) := by
  obtain ⟨p, l, e, R, s, m, args, below, meth, c, Q, A⟩ := K
  obtain ⟨hx, hb, hml, hown, hts, hK, -⟩ := C
  obtain ⟨Cn, T, N, hc, hk, hin, hlk, ⟨ty0, hty⟩, hnm, hfin, hd, -⟩ := hF
  subst hw
  intro H locs ls hP hD hS hl
  exact va_put hx hb hts hin ty0 hty hnm hown hK hP hD hS q0 he hc kf hk (hts _ hlk) (fun _ h9 => h9) hfin hd hn hfit hlen d (fun H1 locs1 hP hD hS => kk H1 locs1 ls hP hD hS hl)
/-- the machine is in a constructor -/
def xk_In (K : xk_T) : Prop := match K with
  | (_, _, _, _, _, _, _, _, meth, _, _, _) => meth.name = "<init>"
theorem x_putF (C : xk_Ok K D cc nL own R0 ty) (hin2 : xk_In K) {idx ci kf : Nat} {fty : FieldType} (hF : xk_FP own idx ci kf true fty) (q0 : Nat) (w' : va_W) {a : Nat} {fs : List Value} {v : Value} (he : w[q0]? = some (a, .inr (ci, fs))) (hw : w.set q0 (a, .inr (ci, fs.set kf v)) = w')
    (hn : narrow fty v = v) (hfit : fits fty v = true) (hlen : kf < fs.length) (d : decode cc pc = .ok (.putfield idx, 3))
    (kk : xk_Go K D nL k n w' lv (pc + 3) st) : xk_Go K D nL k n w lv pc (v :: .ref a :: st) := by
  obtain ⟨p, l, e, R, s, m, args, below, meth, c, Q, A⟩ := K
  obtain ⟨hx, hb, hml, hown, hts, hK, -⟩ := C
  obtain ⟨Cn, T, N, hc, hk, hin, hlk, ⟨ty0, hty⟩, hnm, hfin, hd, hdecl⟩ := hF
  subst hw
  intro H locs ls hP hD hS hl
  exact va_putF hx hb hts hin ty0 hty hnm hown hK hP hD hS q0 he hc kf hk (hts _ hlk) (fun _ h9 => h9) hfin hin2 (hdecl rfl) hd hn hfit hlen d (fun H1 locs1 hP hD hS => kk H1 locs1 ls hP hD hS hl)
-- arrays, at a place nI i
theorem x_ild (C : xk_Ok K D cc nL own R0 ty) (q0 t0 : Nat) {a N : Nat} {cA : ClassId} {f : Nat → Int32} (ha : w[q0]? = some (a, .inl (cA, N, .inl f))) (ht : ty[t0]? = some (cA, .int)) {i : Nat} (hi : i < N) (hN : N < 2 ^ 31) (d : decode cc pc = .ok (.iaload, 1))
    (kk : xk_Go K D nL k n w lv (pc + 1) (.int (f i) :: st)) : xk_Go K D nL k n w lv pc (.int (nI i) :: .ref a :: st) := by
  obtain ⟨p, l, e, R, s, m, args, below, meth, c, Q, A⟩ := K
  obtain ⟨hx, hb, hml, hown, hts, hK, -⟩ := C
  intro H locs ls hP hD hS hl
  refine va_iald hx hb hK hP q0 t0 ha ht (vp_in_nI hi hN) d ?_
  rw [nI_clamp (by omega)]
  exact kk H locs ls hP hD hS hl
theorem x_bld (C : xk_Ok K D cc nL own R0 ty) (q0 t0 : Nat) {a N : Nat} {cA : ClassId} {f : Nat → Int32} (ha : w[q0]? = some (a, .inl (cA, N, .inl f))) (ht : ty[t0]? = some (cA, .byte)) {i : Nat} (hi : i < N) (hN : N < 2 ^ 31) (d : decode cc pc = .ok (.baload, 1))
    (kk : xk_Go K D nL k n w lv (pc + 1) (.int (f i) :: st)) : xk_Go K D nL k n w lv pc (.int (nI i) :: .ref a :: st) := by
  obtain ⟨p, l, e, R, s, m, args, below, meth, c, Q, A⟩ := K
  obtain ⟨hx, hb, hml, hown, hts, hK, -⟩ := C
  intro H locs ls hP hD hS hl
  refine va_bald hx hb hK hP q0 t0 ha ht (vp_in_nI hi hN) d ?_
  rw [nI_clamp (by omega)]
  exact kk H locs ls hP hD hS hl
theorem x_zld (C : xk_Ok K D cc nL own R0 ty) (q0 t0 : Nat) {a N : Nat} {cA : ClassId} {f : Nat → Int32} (ha : w[q0]? = some (a, .inl (cA, N, .inl f))) (ht : ty[t0]? = some (cA, .boolean)) {i : Nat} (hi : i < N) (hN : N < 2 ^ 31) (d : decode cc pc = .ok (.baload, 1))
    (kk : xk_Go K D nL k n w lv (pc + 1) (.int (f i) :: st)) : xk_Go K D nL k n w lv pc (.int (nI i) :: .ref a :: st) := by
  obtain ⟨p, l, e, R, s, m, args, below, meth, c, Q, A⟩ := K
  obtain ⟨hx, hb, hml, hown, hts, hK, -⟩ := C
  intro H locs ls hP hD hS hl
  refine va_zald hx hb hK hP q0 t0 ha ht (vp_in_nI hi hN) d ?_
  rw [nI_clamp (by omega)]
  exact kk H locs ls hP hD hS hl
theorem x_lld (C : xk_Ok K D cc nL own R0 ty) (q0 t0 : Nat) {a N : Nat} {cA : ClassId} {f : Nat → Int64} (ha : w[q0]? = some (a, .inl (cA, N, .inr (.inl f)))) (ht : ty[t0]? = some (cA, .long)) {i : Nat} (hi : i < N) (hN : N < 2 ^ 31) (d : decode cc pc = .ok (.laload, 1))
    (kk : xk_Go K D nL k n w lv (pc + 1) (.long (f i) :: st)) : xk_Go K D nL k n w lv pc (.int (nI i) :: .ref a :: st) := by
  obtain ⟨p, l, e, R, s, m, args, below, meth, c, Q, A⟩ := K
  obtain ⟨hx, hb, hml, hown, hts, hK, -⟩ := C
  intro H locs ls hP hD hS hl
  refine va_lald hx hb hK hP q0 t0 ha ht (vp_in_nI hi hN) d ?_
  rw [nI_clamp (by omega)]
  exact kk H locs ls hP hD hS hl
theorem x_ist (C : xk_Ok K D cc nL own R0 ty) (q0 t0 : Nat) (w' : va_W) {a N : Nat} {cA : ClassId} {f : Nat → Int32} (ha : w[q0]? = some (a, .inl (cA, N, .inl f))) (ht : ty[t0]? = some (cA, .int)) {i : Nat} {x : Int32} {f' : Nat → Int32} (hf : upd f i x = f') (hw : w.set q0 (a, .inl (cA, N, .inl f')) = w') (hi : i < N) (hN : N < 2 ^ 31) (d : decode cc pc = .ok (.iastore, 1))
    (kk : xk_Go K D nL k n w' lv (pc + 1) st) : xk_Go K D nL k n w lv pc (.int x :: .int (nI i) :: .ref a :: st) := by
  obtain ⟨p, l, e, R, s, m, args, below, meth, c, Q, A⟩ := K
  obtain ⟨hx, hb, hml, hown, hts, hK, -⟩ := C
  subst hf
  subst hw
  intro H locs ls hP hD hS hl
  refine va_iast hx hb hK hP hD hS q0 t0 ha ht (vp_in_nI hi hN) d (fun H1 locs1 hP hD hS => ?_)
  rw [nI_clamp (by omega)] at hP hD
  exact kk H1 locs1 ls hP hD hS hl
theorem x_bst (C : xk_Ok K D cc nL own R0 ty) (q0 t0 : Nat) (w' : va_W) {a N : Nat} {cA : ClassId} {f : Nat → Int32} (ha : w[q0]? = some (a, .inl (cA, N, .inl f))) (ht : ty[t0]? = some (cA, .byte)) {i : Nat} {x : Int32} {f' : Nat → Int32} (hf : upd f i (vp_nar .byte x) = f') (hw : w.set q0 (a, .inl (cA, N, .inl f')) = w') (hi : i < N) (hN : N < 2 ^ 31) (d : decode cc pc = .ok (.bastore, 1))
    (kk : xk_Go K D nL k n w' lv (pc + 1) st) : xk_Go K D nL k n w lv pc (.int x :: .int (nI i) :: .ref a :: st) := by
  obtain ⟨p, l, e, R, s, m, args, below, meth, c, Q, A⟩ := K
  obtain ⟨hx, hb, hml, hown, hts, hK, -⟩ := C
  subst hf
  subst hw
  intro H locs ls hP hD hS hl
  refine va_bast hx hb hK hP hD hS q0 t0 ha ht (vp_in_nI hi hN) d (fun H1 locs1 hP hD hS => ?_)
  rw [nI_clamp (by omega)] at hP hD
  exact kk H1 locs1 ls hP hD hS hl
theorem x_zst (C : xk_Ok K D cc nL own R0 ty) (q0 t0 : Nat) (w' : va_W) {a N : Nat} {cA : ClassId} {f : Nat → Int32} (ha : w[q0]? = some (a, .inl (cA, N, .inl f))) (ht : ty[t0]? = some (cA, .boolean)) {i : Nat} {x : Int32} {f' : Nat → Int32} (hf : upd f i (vp_nar .boolean x) = f') (hw : w.set q0 (a, .inl (cA, N, .inl f')) = w') (hi : i < N) (hN : N < 2 ^ 31) (d : decode cc pc = .ok (.bastore, 1))
    (kk : xk_Go K D nL k n w' lv (pc + 1) st) : xk_Go K D nL k n w lv pc (.int x :: .int (nI i) :: .ref a :: st) := by
  obtain ⟨p, l, e, R, s, m, args, below, meth, c, Q, A⟩ := K
  obtain ⟨hx, hb, hml, hown, hts, hK, -⟩ := C
  subst hf
  subst hw
  intro H locs ls hP hD hS hl
  refine va_zast hx hb hK hP hD hS q0 t0 ha ht (vp_in_nI hi hN) d (fun H1 locs1 hP hD hS => ?_)
  rw [nI_clamp (by omega)] at hP hD
  exact kk H1 locs1 ls hP hD hS hl
theorem x_lst (C : xk_Ok K D cc nL own R0 ty) (q0 t0 : Nat) (w' : va_W) {a N : Nat} {cA : ClassId} {f : Nat → Int64} (ha : w[q0]? = some (a, .inl (cA, N, .inr (.inl f)))) (ht : ty[t0]? = some (cA, .long)) {i : Nat} {x : Int64} {f' : Nat → Int64} (hf : vp_updL f i x = f') (hw : w.set q0 (a, .inl (cA, N, .inr (.inl f'))) = w') (hi : i < N) (hN : N < 2 ^ 31) (d : decode cc pc = .ok (.lastore, 1))
    (kk : xk_Go K D nL k n w' lv (pc + 1) st) : xk_Go K D nL k n w lv pc (.long x :: .int (nI i) :: .ref a :: st) := by
  obtain ⟨p, l, e, R, s, m, args, below, meth, c, Q, A⟩ := K
  obtain ⟨hx, hb, hml, hown, hts, hK, -⟩ := C
  subst hf
  subst hw
  intro H locs ls hP hD hS hl
  refine va_last hx hb hK hP hD hS q0 t0 ha ht (vp_in_nI hi hN) d (fun H1 locs1 hP hD hS => ?_)
  rw [nI_clamp (by omega)] at hP hD
  exact kk H1 locs1 ls hP hD hS hl
end XK2
-- contracts
def xk_Pre (D : va_G) (ty : List (ClassId × FieldType)) (as : List Value) (w : va_W) (sz : Nat) : Array Value → State → Prop := va_Pc as (fun U => U.heap.size = sz ∧ va_P D vwCl w U.heap ∧ va_K D vwCl ty U ∧ va_D (fun _ => True) w)
def xk_Q (post : Option Value → va_W → Prop) (D : va_G) (A : Nat → Prop) : Array Value → State → Outcome → State → Prop := fun _ st oc t => (∃ (v : Option Value) (u : va_W), oc = .returned v ∧ post v u ∧ va_P D vwCl u t.heap ∧ va_D A u) ∧ va_F A st t
/-- THE CONTRACT of a method: from the cells w and the arguments as it returns v with the cells u, 'post v u' -/
def xk_Ct (y : MethodName) (cc : ByteArray) (nL : Nat) (rt : Option FieldType) (rm : Room) (D : va_G) (ty : List (ClassId × FieldType)) (as : List Value) (w : va_W) (post : Option Value → va_W → Prop) : Prop :=
  ∀ (l : Launch) (sz : Nat), Met l y (.code y cc nL rt :: xk_gt) rm (xk_Pre D ty as w sz) (xk_Q post D (va_A w sz)) rm.cells rm.slots (va_A w sz)
/-- the ends of a method -/
def xk_Rt (K : xk_T) (D : va_G) (rt : Option FieldType) (post : Option Value → va_W → Prop) (mc ms : Nat) : Prop := match K with
  | (_, _, _, _, s, _, args, below, meth, _, Q, A) => meth.sig.returnType = rt ∧ meth.locks = false ∧ Q = MQ below (xk_Q post D A) args s mc ms A
theorem xk_Pre_blind {D : va_G} {ty : List (ClassId × FieldType)} {as : List Value} {w : va_W} {sz : Nat} : FrameBlind (xk_Pre D ty as w sz) := fun a U g mk q => by
  obtain ⟨q0, q1, qP, qK, qD⟩ := q
  exact ⟨q0, q1, qP, va_K.moved (u := U) (U := U.calling g mk a) (Vm.Alike.refl U.vm) qK, qD⟩
theorem xk_enter {y : MethodName} {cc : ByteArray} {nL : Nat} {rt : Option FieldType} {rm : Room} {D : va_G} {ty : List (ClassId × FieldType)} {as : List Value} {w : va_W} {post : Option Value → va_W → Prop}
    (hy : plainName y.cls = true) (hlv : (lg_sl as).length ≤ nL)
    (body : ∀ K : xk_T, xk_Ok K D cc nL y.cls rm ty → xk_Rt K D rt post rm.cells rm.slots → (y.name = "<init>" → xk_In K) → xk_Go K D nL 0 0 w (lv_args 0 as) 0 []) : xk_Ct y cc nL rt rm D ty as w post := by
  intro l sz
  refine Met.ofW (cc := cc) (maxL := nL) (ret := rt) hy rfl ?_
  intro p e s m args below meth c s₁ B hml hv
  obtain ⟨rfl, hsz, hP, hK, hD0⟩ := hv
  have hts := atoms_spec (ws := .code y cc nL rt :: xk_gt) B.pre
  have hown : s.vm.findClass y.cls = some m.cls := findClass_of_methodNamed B.named
  subst hsz
  have hD := hD0.self (sz := s.heap.size)
  have hA : ∀ q : Nat, s.heap.size ≤ q → va_A w s.heap.size q := fun q h => Or.inr h
  have hl := lv_entry as (n := nL) hlv
  rw [lg_entry_eq]
  exact body (p, l, e, rm, s, m, as.toArray, below, meth, c, MQ below (xk_Q post D (va_A w s.heap.size)) as.toArray s rm.cells rm.slots (va_A w s.heap.size), va_A w s.heap.size)
    ⟨B.exec, B.bytes, hml, hown, fun x hx => hts x (List.mem_cons_of_mem _ hx), hK, hA, rfl⟩ ⟨B.returns, B.notSynchronized, rfl⟩ (fun h => by
      show meth.name = "<init>"
      rw [(name_of_methodNamed B.named B.method).1]; exact h)
    s.heap [] _ hP hD va_S.rf hl
section XK3
variable {K : xk_T} {D : va_G} {cc : ByteArray} {nL mc ms : Nat} {own : String} {R0 : Room} {ty : List (ClassId × FieldType)} {w : va_W} {lv : List (Nat × Value)} {pc : Nat} {rt : Option FieldType} {post : Option Value → va_W → Prop}
theorem x_iret (C : xk_Ok K D cc nL own R0 ty) (T : xk_Rt K D rt post mc ms) {v : Int32} (ft : FieldType) (hr : rt = some ft) (hn : narrow ft (.int v) = .int v) (d : decode cc pc = .ok (.ireturn, 1)) (hp : post (some (.int v)) w) : xk_Go K D nL mc ms w lv pc [.int v] := by
  obtain ⟨p, l, e, R, s, m, args, below, meth, c, Q, A⟩ := K
  obtain ⟨hx, hb, -⟩ := C
  obtain ⟨h1, h2, h3⟩ := T
  subst hr
  subst h3
  intro H locs ls hP hD hS hl
  exact W.zret hx hb h1 hn (fun t ht hW => ⟨⟨_, w, rfl, hp, by rw [ht]; exact hP, hD⟩, hS.F ht⟩) hS.2.2 d h2
theorem x_lret (C : xk_Ok K D cc nL own R0 ty) (T : xk_Rt K D rt post mc ms) {v : Int64} (hr : rt = some .long) (d : decode cc pc = .ok (.lreturn, 1)) (hp : post (some (.long v)) w) : xk_Go K D nL mc ms w lv pc [.long v] := by
  obtain ⟨p, l, e, R, s, m, args, below, meth, c, Q, A⟩ := K
  obtain ⟨hx, hb, -⟩ := C
  obtain ⟨h1, h2, h3⟩ := T
  subst hr
  subst h3
  intro H locs ls hP hD hS hl
  exact W.lret hx hb h1 (fun t ht hW => ⟨⟨_, w, rfl, hp, by rw [ht]; exact hP, hD⟩, hS.F ht⟩) hS.2.2 d h2
theorem x_vret (C : xk_Ok K D cc nL own R0 ty) (T : xk_Rt K D rt post mc ms) (hr : rt = none) (d : decode cc pc = .ok (.return_, 1)) (hp : post none w) : xk_Go K D nL mc ms w lv pc [] := by
  obtain ⟨p, l, e, R, s, m, args, below, meth, c, Q, A⟩ := K
  obtain ⟨hx, hb, -⟩ := C
  obtain ⟨h1, h2, h3⟩ := T
  subst hr
  subst h3
  intro H locs ls hP hD hS hl
  exact W.vret hx hb h1 (fun t ht hW => ⟨⟨_, w, rfl, hp, by rw [ht]; exact hP, hD⟩, hS.F ht⟩) hS.2.2 d h2
end XK3
/-! WALKING ROWS 3: calls. -/
theorem xk_fm {α β : Type} {f : α → Option β} {is : List α} {wc : List β} (h : is.map f = wc.map some) : is.filterMap f = wc := by
  have h1 : is.filterMap f = (is.map f).filterMap id := by rw [List.filterMap_map]; rfl
  rw [h1, h, List.filterMap_map]
  exact List.filterMap_some
theorem xk_gt_in : GoodIn xk_gt xk_gt := fun w hw => ⟨hw, good_of_word (xk_gt_good w hw)⟩
section XK4
variable {p : Program} {l : Launch} {e : Env} {R : Room} {s : State} {m : MethodId} {args : Array Value} {below : List Frame} {meth : Method} {c : Code} {H : Heap} {locs : List Loc} {cells slots mc ms : Nat} {Q : State → Prop}
theorem xk_call {pc : Nat} {ls : Array Slot} {st0 rest : List Value} {post : Option Value → va_W → Prop} {D : va_G} {A0 A1 : Nat → Prop} {a : Array Value} {free : Addr → Prop} {H0 : Heap}
    (hr : va_Run p l e R s m args below meth c H locs cells slots mc ms (F0 m pc ls st0) rest (xk_Q post D A1 a) free) (hS : va_S A0 H0 H locs) (hA : ∀ q, q < H.size → A1 q → A0 q) (hf : ∀ q, free q → A0 q)
    (kk : ∀ (v : Option Value) (u : va_W) (H1 : Heap) (locs1 : List Loc), post v u → va_P D vwCl u H1 → va_D A1 u → H.size ≤ H1.size → (∀ q : Nat, q < H.size → ¬ A1 q → H1[q]? = H[q]?) → va_S A0 H0 H1 locs1 → W p l e R s m args below meth c H1 locs1 (cells + mc) (slots + ms) Q (F0 m (pc + 3) ls (v.toList ++ rest))) : W p l e R s m args below meth c H locs cells slots Q (F0 m pc ls st0) := by
  intro T hT X
  obtain ⟨v, st₀, t, T', L, h0, X', hL, e1, e2, ⟨⟨v', u, hv, hp, hPu, hDu⟩, hz, hk⟩, st⟩ := hr T hT X
  cases hv
  rw [h0] at hz hk
  have hz' : H.size ≤ T'.heap.size := by rw [e1]; exact hz
  have hk' : ∀ q : Nat, q < H.size → ¬ A1 q → T'.heap[q]? = H[q]? := fun q h1 h2 => by rw [e1]; exact hk q h1 h2
  obtain ⟨t2, a1, b1⟩ := kk v u T'.heap (locs ++ L) hp (by rw [e1]; exact hPu) hDu hz' hk'
    ⟨Nat.le_trans hS.1 hz', fun q h1 h2 => (hk' q (Nat.lt_of_lt_of_le h1 hS.1) (fun z => h2 (hA q (Nat.lt_of_lt_of_le h1 hS.1) z))).trans (hS.2.1 q h1 h2), fun q hq => by
      rcases List.mem_append.mp hq with h | h
      · exact hS.2.2 q h
      · exact hf _ (hL q h)⟩ T' rfl X'
  exact ⟨t2, st t2 a1, b1⟩
end XK4
/-- a call's words: the callee's code, its class, the caller's link, so many arguments -/
def xk_CB (own : String) (idx : Nat) (y : MethodName) (cc : ByteArray) (nL : Nat) (rt : Option FieldType) (na : Nat) : Prop := Cond.code y cc nL rt ∈ xk_gt ∧ Cond.initialized y.cls ∈ xk_gt ∧ Cond.methodLink own idx y ∈ xk_gt ∧
  (y.cls ≠ "java/lang/invoke/MethodHandle" ∧ y.cls ≠ "java/lang/invoke/VarHandle" ∧ (parseMethodDescriptor y.desc).map (fun d => d.parameters.length) = some na)
theorem xk_callB {own : String} {idx : Nat} {y : MethodName} {cc : ByteArray} {nL : Nat} {rt : Option FieldType} {na : Nat} {R rm : Room} {s : State} {args : Array Value} (h : xk_CB own idx y cc nL rt na) (hts : ∀ w ∈ xk_gt, w.before args s = true)
    (hR : rm.frames + 1 ≤ R.frames ∧ 8 + (nL + 11) + rm.locals ≤ R.locals) : CallB R s args own idx y cc nL rt (.code y cc nL rt :: xk_gt) rm rm.cells rm.slots na := by
  obtain ⟨h1, h2, h3, h4⟩ := h
  refine callB_of na hts (fun w hw => ?_) rfl rfl rfl (hts _ h2) (hts _ h3) h4 hR
  rcases List.mem_cons.mp hw with rfl | hw
  · exact xk_gt_in _ h1
  · exact xk_gt_in _ hw
section XK5
variable {K : xk_T} {D : va_G} {cc : ByteArray} {nL k n : Nat} {own : String} {R0 : Room} {ty : List (ClassId × FieldType)} {w : va_W} {lv : List (Nat × Value)} {pc : Nat} {st : List Value}
theorem x_callV (C : xk_Ok K D cc nL own R0 ty) {y : MethodName} {cc' : ByteArray} {nL' : Nat} {rt' : Option FieldType} {rm : Room} {ty' : List (ClassId × FieldType)} {wc : va_W} {post : Option Value → va_W → Prop} {b : Nat} {As : List Value}
    (hM : xk_Ct y cc' nL' rt' rm D ty' (.ref b :: As) wc post) {idx na : Nat} (hk : xk_CB own idx y cc' nL' rt' na) (hk2 : Cond.instanceMethod y ∈ xk_gt ∧ Cond.selects y.cls y y ∈ xk_gt)
    (isC isR isT : List Nat) (wr : va_W) (hC : isC.map (fun i => w[i]?) = wc.map some) (hR : isR.map (fun i => w[i]?) = wr.map some) (hnC : va_nd isC = true) (hnR : va_nd isR = true) (hdis : ∀ i ∈ isR, i ∉ isC) (hT : isT.filterMap (fun i => ty[i]?) = ty')
    (r0 : Nat) {ci : Nat} {fs : List Value} (hrc : wc[r0]? = some (b, .inr (ci, fs))) (hcl : (vwCl[ci]?).map (fun q => q.1) = some y.cls)
    (hroom : rm.frames + 1 ≤ R0.frames ∧ 8 + (nL' + 11) + rm.locals ≤ R0.locals) (hcells : k + rm.cells ≤ R0.cells ∧ n + rm.slots ≤ R0.slots)
    {st0 : List Value} (st : List Value) (hst : st0 = As.reverse ++ .ref b :: st) (hna : As.length = na) (hcat : (st.map fun v => v.category).sum ≤ 8) (d : decode cc pc = .ok (.invokevirtual idx, 3))
    (kk : ∀ (v : Option Value) (u : va_W), post v u → xk_Go K D nL (k + rm.cells) (n + rm.slots) (wr ++ u) lv (pc + 3) (v.toList ++ st)) : xk_Go K D nL k n w lv pc st0 := by
  obtain ⟨p, l, e, R, s, m, args, below, meth, c, Q, A⟩ := K
  obtain ⟨hx, hb, hml, hown, hts, hK, hA, hR0⟩ := C
  subst hR0
  subst hst
  intro H locs ls hP hD hS hl
  have hPc := hP.sub isC (xk_fm hC)
  have hDc := hD.sub isC hnC hC
  have hKc := hK.sub isT hT
  have hFc := va_free (wc := wc) hD hS hA isC hC
  have hrv : ∃ cell : Cell, H[b]? = some cell ∧ cell.vm.isStatics = false ∧ s.vm.findClass y.cls = some cell.cls := by
    cases hq : vwCl[ci]? with
    | none => rw [hq] at hcl; cases hcl
    | some q =>
      rw [hq] at hcl
      have : q.1 = y.cls := Option.some.inj hcl
      rw [← this]
      exact va_recv hKc hPc hq hrc
  refine xk_call (va_runV (As := As) (rest := st) ⟨hx, hb, hml, hown, hts⟩ (hM l H.size) ⟨xk_callB hk hts hroom, hts _ hk2.1, hts _ hk2.2⟩ ⟨xk_Pre_blind, hrv, fun U hU hW => ⟨rfl, by rw [hU], by rw [hU]; exact hPc, va_K.moved hW.alike hKc, hDc.weaken (fun _ _ _ _ => trivial)⟩⟩ rfl hna hl.1 rfl (lv_room hcat) d hcells) hS (fun q _ h => hFc q h) hFc (fun v u H1 locs1 hp hP1 hD1 hz hk1 hS1 => ?_)
  obtain ⟨hP', hD'⟩ := va_join hP hD isC isR hC hR hnR hdis hk1 hFc hP1 hD1
  exact kk v u hp H1 locs1 ls hP' hD' hS1 hl
theorem x_callS (C : xk_Ok K D cc nL own R0 ty) {y : MethodName} {cc' : ByteArray} {nL' : Nat} {rt' : Option FieldType} {rm : Room} {ty' : List (ClassId × FieldType)} {wc : va_W} {post : Option Value → va_W → Prop} {As : List Value}
    (hM : xk_Ct y cc' nL' rt' rm D ty' As wc post) {idx na : Nat} (hk : xk_CB own idx y cc' nL' rt' na) (hk2 : Cond.static y ∈ xk_gt)
    (isC isR isT : List Nat) (wr : va_W) (hC : isC.map (fun i => w[i]?) = wc.map some) (hR : isR.map (fun i => w[i]?) = wr.map some) (hnC : va_nd isC = true) (hnR : va_nd isR = true) (hdis : ∀ i ∈ isR, i ∉ isC) (hT : isT.filterMap (fun i => ty[i]?) = ty')
    (hroom : rm.frames + 1 ≤ R0.frames ∧ 8 + (nL' + 11) + rm.locals ≤ R0.locals) (hcells : k + rm.cells ≤ R0.cells ∧ n + rm.slots ≤ R0.slots)
    {st0 : List Value} (st : List Value) (hst : st0 = As.reverse ++ st) (hna : As.length = na) (hcat : (st.map fun v => v.category).sum ≤ 8) (d : decode cc pc = .ok (.invokestatic idx, 3))
    (kk : ∀ (v : Option Value) (u : va_W), post v u → xk_Go K D nL (k + rm.cells) (n + rm.slots) (wr ++ u) lv (pc + 3) (v.toList ++ st)) : xk_Go K D nL k n w lv pc st0 := by
  obtain ⟨p, l, e, R, s, m, args, below, meth, c, Q, A⟩ := K
  obtain ⟨hx, hb, hml, hown, hts, hK, hA, hR0⟩ := C
  subst hR0
  subst hst
  intro H locs ls hP hD hS hl
  have hPc := hP.sub isC (xk_fm hC)
  have hDc := hD.sub isC hnC hC
  have hKc := hK.sub isT hT
  have hFc := va_free (wc := wc) hD hS hA isC hC
  refine xk_call (va_runS (As := As) (rest := st) ⟨hx, hb, hml, hown, hts⟩ (hM l H.size) ⟨xk_callB hk hts hroom, hts _ hk2⟩ ⟨xk_Pre_blind, fun U hU hW => ⟨rfl, by rw [hU], by rw [hU]; exact hPc, va_K.moved hW.alike hKc, hDc.weaken (fun _ _ _ _ => trivial)⟩⟩ rfl hna hl.1 rfl (lv_room hcat) d hcells) hS (fun q _ h => hFc q h) hFc (fun v u H1 locs1 hp hP1 hD1 hz hk1 hS1 => ?_)
  obtain ⟨hP', hD'⟩ := va_join hP hD isC isR hC hR hnR hdis hk1 hFc hP1 hD1
  exact kk v u hp H1 locs1 ls hP' hD' hS1 hl
theorem x_callI (C : xk_Ok K D cc nL own R0 ty) {y : MethodName} {cc' : ByteArray} {nL' : Nat} {rm : Room} {ty' : List (ClassId × FieldType)} {wc : va_W} {post : Option Value → va_W → Prop} {b : Nat} {As : List Value}
    (hM : xk_Ct y cc' nL' none rm D ty' (.ref b :: As) wc post) {idx na : Nat} (hk : xk_CB own idx y cc' nL' none na) (hk2 : y.name = "<init>" ∧ Cond.instanceMethod y ∈ xk_gt)
    (isC isR isT : List Nat) (wr : va_W) (hC : isC.map (fun i => w[i]?) = wc.map some) (hR : isR.map (fun i => w[i]?) = wr.map some) (hnC : va_nd isC = true) (hnR : va_nd isR = true) (hdis : ∀ i ∈ isR, i ∉ isC) (hT : isT.filterMap (fun i => ty[i]?) = ty')
    (hroom : rm.frames + 1 ≤ R0.frames ∧ 8 + (nL' + 11) + rm.locals ≤ R0.locals) (hcells : k + rm.cells ≤ R0.cells ∧ n + rm.slots ≤ R0.slots)
    {st0 : List Value} (st : List Value) (hst : st0 = As.reverse ++ .ref b :: st) (hna : As.length = na) (hcat : (st.map fun v => v.category).sum ≤ 8) (d : decode cc pc = .ok (.invokespecial idx, 3))
    (kk : ∀ (v : Option Value) (u : va_W), post v u → xk_Go K D nL (k + rm.cells) (n + rm.slots) (wr ++ u) lv (pc + 3) (v.toList ++ st)) : xk_Go K D nL k n w lv pc st0 := by
  obtain ⟨p, l, e, R, s, m, args, below, meth, c, Q, A⟩ := K
  obtain ⟨hx, hb, hml, hown, hts, hK, hA, hR0⟩ := C
  subst hR0
  subst hst
  intro H locs ls hP hD hS hl
  have hPc := hP.sub isC (xk_fm hC)
  have hDc := hD.sub isC hnC hC
  have hKc := hK.sub isT hT
  have hFc := va_free (wc := wc) hD hS hA isC hC
  refine xk_call (va_runI (As := As) (rest := st) ⟨hx, hb, hml, hown, hts⟩ (hM l H.size) ⟨xk_callB hk hts hroom, hk2.1, hts _ hk2.2⟩ ⟨xk_Pre_blind, fun U hU hW => ⟨rfl, by rw [hU], by rw [hU]; exact hPc, va_K.moved hW.alike hKc, hDc.weaken (fun _ _ _ _ => trivial)⟩⟩ rfl hna hl.1 rfl (lv_room hcat) d hcells) hS (fun q _ h => hFc q h) hFc (fun v u H1 locs1 hp hP1 hD1 hz hk1 hS1 => ?_)
  obtain ⟨hP', hD'⟩ := va_join hP hD isC isR hC hR hnR hdis hk1 hFc hP1 hD1
  exact kk v u hp H1 locs1 ls hP' hD' hS1 hl
end XK5
/-! WALKING ROWS 4: branches and sums in numbers. -/
theorem xk_cmp_lt (x y : Int64) : lg_cmp x y < 0 ↔ x < y := by
  unfold lg_cmp
  by_cases h1 : y < x
  · rw [if_pos h1]
    refine ⟨fun h => absurd h (by decide), fun h => ?_⟩
    exact absurd (Int64.lt_trans h1 h) (Int64.lt_irrefl)
  · rw [if_neg h1]
    by_cases h2 : x = y
    · rw [if_pos h2]
      refine ⟨fun h => absurd h (by decide), fun h => absurd h (by rw [h2]; exact Int64.lt_irrefl)⟩
    · rw [if_neg h2]
      refine ⟨fun _ => ?_, fun _ => by decide⟩
      rw [Int64.lt_iff_toInt_lt] at h1 ⊢
      have h3 : x.toInt ≠ y.toInt := fun q => h2 (Int64.toInt_inj.mp q)
      omega
theorem xk_cmp_eq (x y : Int64) : lg_cmp x y = 0 ↔ x = y := by
  unfold lg_cmp
  by_cases h1 : y < x
  · rw [if_pos h1]
    refine ⟨fun h => absurd h (by decide), fun h => ?_⟩
    rw [h] at h1
    exact absurd h1 Int64.lt_irrefl
  · rw [if_neg h1]
    by_cases h2 : x = y
    · rw [if_pos h2]
      exact ⟨fun _ => h2, fun _ => rfl⟩
    · rw [if_neg h2]
      exact ⟨fun h => absurd h (by decide), fun h => absurd h h2⟩
theorem xk_cmp_gt (x y : Int64) : 0 < lg_cmp x y ↔ y < x := by
  unfold lg_cmp
  by_cases h1 : y < x
  · rw [if_pos h1]
    exact ⟨fun _ => h1, fun _ => by decide⟩
  · rw [if_neg h1]
    by_cases h2 : x = y
    · rw [if_pos h2]
      exact ⟨fun h => absurd h (by decide), fun h => absurd h h1⟩
    · rw [if_neg h2]
      exact ⟨fun h => absurd h (by decide), fun h => absurd h h1⟩
theorem xk_cmp_ge (x y : Int64) : 0 ≤ lg_cmp x y ↔ y ≤ x := by
  rw [← Int32.not_lt, xk_cmp_lt, Int64.not_lt]
theorem xk_cmp_le (x y : Int64) : lg_cmp x y ≤ 0 ↔ x ≤ y := by
  rw [← Int32.not_lt, xk_cmp_gt, Int64.not_lt]
section XK6
variable {K : xk_T} {D : va_G} {cc : ByteArray} {nL k n : Nat} {own : String} {R0 : Room} {ty : List (ClassId × FieldType)} {w : va_W} {lv : List (Nat × Value)} {pc : Nat} {st : List Value}
theorem x_top {x y : Int32} (h : x = y) (kk : xk_Go K D nL k n w lv pc (.int y :: st)) : xk_Go K D nL k n w lv pc (.int x :: st) := h ▸ kk
theorem x_topl {x y : Int64} (h : x = y) (kk : xk_Go K D nL k n w lv pc (.long y :: st)) : xk_Go K D nL k n w lv pc (.long x :: st) := h ▸ kk
theorem x_iaddN (C : xk_Ok K D cc nL own R0 ty) {a b : Nat} (d : decode cc pc = .ok (.iadd, 1)) (kk : xk_Go K D nL k n w lv (pc + 1) (.int (nI (a + b)) :: st)) : xk_Go K D nL k n w lv pc (.int (nI b) :: .int (nI a) :: st) := x_iadd C d (x_top (nI_add a b) kk)
theorem x_isubN (C : xk_Ok K D cc nL own R0 ty) {a b : Nat} (h : b ≤ a) (d : decode cc pc = .ok (.isub, 1)) (kk : xk_Go K D nL k n w lv (pc + 1) (.int (nI (a - b)) :: st)) : xk_Go K D nL k n w lv pc (.int (nI b) :: .int (nI a) :: st) := x_isub C d (x_top (pk_sub h) kk)
theorem x_imulN (C : xk_Ok K D cc nL own R0 ty) {a b : Nat} (d : decode cc pc = .ok (.imul, 1)) (kk : xk_Go K D nL k n w lv (pc + 1) (.int (nI (a * b)) :: st)) : xk_Go K D nL k n w lv pc (.int (nI b) :: .int (nI a) :: st) := x_imul C d (x_top (pk_mul a b) kk)
theorem x_idivN (C : xk_Ok K D cc nL own R0 ty) {a b : Nat} (ha : a < 2 ^ 31) (h0 : 0 < b) (hb : b < 2 ^ 31) (d : decode cc pc = .ok (.idiv, 1)) (kk : xk_Go K D nL k n w lv (pc + 1) (.int (nI (a / b)) :: st)) : xk_Go K D nL k n w lv pc (.int (nI b) :: .int (nI a) :: st) := x_idiv C d (nI_ne0 h0 hb) (x_top (pk_div ha h0 hb) kk)
theorem x_iremN (C : xk_Ok K D cc nL own R0 ty) {a b : Nat} (ha : a < 2 ^ 31) (h0 : 0 < b) (hb : b < 2 ^ 31) (d : decode cc pc = .ok (.irem, 1)) (kk : xk_Go K D nL k n w lv (pc + 1) (.int (nI (a % b)) :: st)) : xk_Go K D nL k n w lv pc (.int (nI b) :: .int (nI a) :: st) := x_irem C d (nI_ne0 h0 hb) (x_top (pk_rem ha h0 hb) kk)
theorem x_icmp_eqN (C : xk_Ok K D cc nL own R0 ty) {a b : Nat} (ha : a < 2 ^ 31) (hb : b < 2 ^ 31) {off : Int} {tgt : Nat} (d : decode cc pc = .ok (.if_icmp .eq off, 3)) (ht : (pc : Int) + off = (tgt : Int))
    (kt : a = b → xk_Go K D nL k n w lv tgt st) (kf : ¬ a = b → xk_Go K D nL k n w lv (pc + 3) st) : xk_Go K D nL k n w lv pc (.int (nI b) :: .int (nI a) :: st) :=
  x_icmp_eq C d ht (fun h => kt ((nI_eq ha hb).mp h)) (fun h => kf (fun q => h ((nI_eq ha hb).mpr q)))
theorem x_icmp_neN (C : xk_Ok K D cc nL own R0 ty) {a b : Nat} (ha : a < 2 ^ 31) (hb : b < 2 ^ 31) {off : Int} {tgt : Nat} (d : decode cc pc = .ok (.if_icmp .ne off, 3)) (ht : (pc : Int) + off = (tgt : Int))
    (kt : ¬ a = b → xk_Go K D nL k n w lv tgt st) (kf : a = b → xk_Go K D nL k n w lv (pc + 3) st) : xk_Go K D nL k n w lv pc (.int (nI b) :: .int (nI a) :: st) :=
  x_icmp_ne C d ht (fun h => kt (fun q => h ((nI_eq ha hb).mpr q))) (fun h => kf ((nI_eq ha hb).mp h))
theorem x_icmp_ltN (C : xk_Ok K D cc nL own R0 ty) {a b : Nat} (ha : a < 2 ^ 31) (hb : b < 2 ^ 31) {off : Int} {tgt : Nat} (d : decode cc pc = .ok (.if_icmp .lt off, 3)) (ht : (pc : Int) + off = (tgt : Int))
    (kt : a < b → xk_Go K D nL k n w lv tgt st) (kf : b ≤ a → xk_Go K D nL k n w lv (pc + 3) st) : xk_Go K D nL k n w lv pc (.int (nI b) :: .int (nI a) :: st) :=
  x_icmp_lt C d ht (fun h => kt ((nI_ltI ha hb).mp h)) (fun h => kf (Nat.not_lt.mp (fun q => h ((nI_ltI ha hb).mpr q))))
theorem x_icmp_geN (C : xk_Ok K D cc nL own R0 ty) {a b : Nat} (ha : a < 2 ^ 31) (hb : b < 2 ^ 31) {off : Int} {tgt : Nat} (d : decode cc pc = .ok (.if_icmp .ge off, 3)) (ht : (pc : Int) + off = (tgt : Int))
    (kt : b ≤ a → xk_Go K D nL k n w lv tgt st) (kf : a < b → xk_Go K D nL k n w lv (pc + 3) st) : xk_Go K D nL k n w lv pc (.int (nI b) :: .int (nI a) :: st) :=
  x_icmp_ge C d ht (fun h => kt ((nI_leI hb ha).mp h)) (fun h => kf (Nat.not_le.mp (fun q => h ((nI_leI hb ha).mpr q))))
theorem x_icmp_gtN (C : xk_Ok K D cc nL own R0 ty) {a b : Nat} (ha : a < 2 ^ 31) (hb : b < 2 ^ 31) {off : Int} {tgt : Nat} (d : decode cc pc = .ok (.if_icmp .gt off, 3)) (ht : (pc : Int) + off = (tgt : Int))
    (kt : b < a → xk_Go K D nL k n w lv tgt st) (kf : a ≤ b → xk_Go K D nL k n w lv (pc + 3) st) : xk_Go K D nL k n w lv pc (.int (nI b) :: .int (nI a) :: st) :=
  x_icmp_gt C d ht (fun h => kt ((nI_ltI hb ha).mp h)) (fun h => kf (Nat.not_lt.mp (fun q => h ((nI_ltI hb ha).mpr q))))
theorem x_icmp_leN (C : xk_Ok K D cc nL own R0 ty) {a b : Nat} (ha : a < 2 ^ 31) (hb : b < 2 ^ 31) {off : Int} {tgt : Nat} (d : decode cc pc = .ok (.if_icmp .le off, 3)) (ht : (pc : Int) + off = (tgt : Int))
    (kt : a ≤ b → xk_Go K D nL k n w lv tgt st) (kf : b < a → xk_Go K D nL k n w lv (pc + 3) st) : xk_Go K D nL k n w lv pc (.int (nI b) :: .int (nI a) :: st) :=
  x_icmp_le C d ht (fun h => kt ((nI_leI ha hb).mp h)) (fun h => kf (Nat.not_le.mp (fun q => h ((nI_leI ha hb).mpr q))))
theorem x_if_eqN (C : xk_Ok K D cc nL own R0 ty) {a : Nat} (ha : a < 2 ^ 31) {off : Int} {tgt : Nat} (d : decode cc pc = .ok (.ifCond .eq off, 3)) (ht : (pc : Int) + off = (tgt : Int))
    (kt : a = 0 → xk_Go K D nL k n w lv tgt st) (kf : ¬ a = 0 → xk_Go K D nL k n w lv (pc + 3) st) : xk_Go K D nL k n w lv pc (.int (nI a) :: st) := by
  have h0 : nI a = 0 → a = 0 := fun h => (nI_eq ha (by decide)).mp (h.trans nI_0.symm)
  exact x_if_eq C d ht (fun h => kt (h0 h)) (fun h => kf (fun q => h (by rw [q]; rfl)))
theorem x_if_neN (C : xk_Ok K D cc nL own R0 ty) {a : Nat} (ha : a < 2 ^ 31) {off : Int} {tgt : Nat} (d : decode cc pc = .ok (.ifCond .ne off, 3)) (ht : (pc : Int) + off = (tgt : Int))
    (kt : ¬ a = 0 → xk_Go K D nL k n w lv tgt st) (kf : a = 0 → xk_Go K D nL k n w lv (pc + 3) st) : xk_Go K D nL k n w lv pc (.int (nI a) :: st) := by
  have h0 : nI a = 0 → a = 0 := fun h => (nI_eq ha (by decide)).mp (h.trans nI_0.symm)
  exact x_if_ne C d ht (fun h => kt (fun q => h (by rw [q]; rfl))) (fun h => kf (h0 h))
theorem x_if_gtN (C : xk_Ok K D cc nL own R0 ty) {a : Nat} (ha : a < 2 ^ 31) {off : Int} {tgt : Nat} (d : decode cc pc = .ok (.ifCond .gt off, 3)) (ht : (pc : Int) + off = (tgt : Int))
    (kt : 0 < a → xk_Go K D nL k n w lv tgt st) (kf : a = 0 → xk_Go K D nL k n w lv (pc + 3) st) : xk_Go K D nL k n w lv pc (.int (nI a) :: st) := by
  have h0 : nI a = 0 → a = 0 := fun h => (nI_eq ha (by decide)).mp (h.trans nI_0.symm)
  exact x_if_gt C d ht (fun h => kt (Nat.pos_of_ne_zero (fun q => by rw [q] at h; exact absurd h (by decide)))) (fun h => kf ((Nat.eq_zero_or_pos a).resolve_right (fun q => h (nI_lt q ha))))
theorem x_if_leN (C : xk_Ok K D cc nL own R0 ty) {a : Nat} (ha : a < 2 ^ 31) {off : Int} {tgt : Nat} (d : decode cc pc = .ok (.ifCond .le off, 3)) (ht : (pc : Int) + off = (tgt : Int))
    (kt : a = 0 → xk_Go K D nL k n w lv tgt st) (kf : 0 < a → xk_Go K D nL k n w lv (pc + 3) st) : xk_Go K D nL k n w lv pc (.int (nI a) :: st) := by
  have h0 : nI a = 0 → a = 0 := fun h => (nI_eq ha (by decide)).mp (h.trans nI_0.symm)
  exact x_if_le C d ht (fun h => kt ((Nat.eq_zero_or_pos a).resolve_right (fun q => nI_nle q ha h))) (fun h => kf (Nat.pos_of_ne_zero (fun q => h (by rw [q]; decide))))
theorem x_if_ltN (C : xk_Ok K D cc nL own R0 ty) {a : Nat} (ha : a < 2 ^ 31) {off : Int} {tgt : Nat} (d : decode cc pc = .ok (.ifCond .lt off, 3)) (ht : (pc : Int) + off = (tgt : Int))
    (kf : xk_Go K D nL k n w lv (pc + 3) st) : xk_Go K D nL k n w lv pc (.int (nI a) :: st) := x_if_lt C d ht (fun h => absurd h (nI_pos ha)) (fun _ => kf)
theorem x_if_geN (C : xk_Ok K D cc nL own R0 ty) {a : Nat} (ha : a < 2 ^ 31) {off : Int} {tgt : Nat} (d : decode cc pc = .ok (.ifCond .ge off, 3)) (ht : (pc : Int) + off = (tgt : Int))
    (kt : xk_Go K D nL k n w lv tgt st) : xk_Go K D nL k n w lv pc (.int (nI a) :: st) := x_if_ge C d ht (fun _ => kt) (fun h => absurd (nI_pos' ha) h)
theorem x_if_ltO (C : xk_Ok K D cc nL own R0 ty) {o : Option Nat} (ho : ∀ v, o = some v → v < 2 ^ 31) {off : Int} {tgt : Nat} (d : decode cc pc = .ok (.ifCond .lt off, 3)) (ht : (pc : Int) + off = (tgt : Int))
    (kt : o = none → xk_Go K D nL k n w lv tgt st) (kf : ∀ v, o = some v → xk_Go K D nL k n w lv (pc + 3) st) : xk_Go K D nL k n w lv pc (.int (xk_oI o) :: st) := by
  cases o with
  | none => exact x_if_lt C d ht (fun _ => kt rfl) (fun h => absurd (by decide) h)
  | some v => exact x_if_ltN C (ho v rfl) d ht (kf v rfl)
theorem x_if_geO (C : xk_Ok K D cc nL own R0 ty) {o : Option Nat} (ho : ∀ v, o = some v → v < 2 ^ 31) {off : Int} {tgt : Nat} (d : decode cc pc = .ok (.ifCond .ge off, 3)) (ht : (pc : Int) + off = (tgt : Int))
    (kt : ∀ v, o = some v → xk_Go K D nL k n w lv tgt st) (kf : o = none → xk_Go K D nL k n w lv (pc + 3) st) : xk_Go K D nL k n w lv pc (.int (xk_oI o) :: st) := by
  cases o with
  | none => exact x_if_ge C d ht (fun h => absurd h (by decide)) (fun _ => kf rfl)
  | some v => exact x_if_geN C (ho v rfl) d ht (kt v rfl)
theorem x_if_eqB (C : xk_Ok K D cc nL own R0 ty) {b : Bool} {off : Int} {tgt : Nat} (d : decode cc pc = .ok (.ifCond .eq off, 3)) (ht : (pc : Int) + off = (tgt : Int))
    (kt : b = false → xk_Go K D nL k n w lv tgt st) (kf : b = true → xk_Go K D nL k n w lv (pc + 3) st) : xk_Go K D nL k n w lv pc (.int (xk_bZ b) :: st) := by
  cases b with
  | false => exact x_if_eq C d ht (fun _ => kt rfl) (fun h => absurd (by decide) h)
  | true => exact x_if_eq C d ht (fun h => absurd h (by decide)) (fun _ => kf rfl)
theorem x_if_neB (C : xk_Ok K D cc nL own R0 ty) {b : Bool} {off : Int} {tgt : Nat} (d : decode cc pc = .ok (.ifCond .ne off, 3)) (ht : (pc : Int) + off = (tgt : Int))
    (kt : b = true → xk_Go K D nL k n w lv tgt st) (kf : b = false → xk_Go K D nL k n w lv (pc + 3) st) : xk_Go K D nL k n w lv pc (.int (xk_bZ b) :: st) := by
  cases b with
  | false => exact x_if_ne C d ht (fun h => absurd (by decide) h) (fun _ => kf rfl)
  | true => exact x_if_ne C d ht (fun _ => kt rfl) (fun h => absurd h (by decide))
theorem x_if_eqC (C : xk_Ok K D cc nL own R0 ty) {x y : Int64} {off : Int} {tgt : Nat} (d : decode cc pc = .ok (.ifCond .eq off, 3)) (ht : (pc : Int) + off = (tgt : Int))
    (kt : x = y → xk_Go K D nL k n w lv tgt st) (kf : ¬ x = y → xk_Go K D nL k n w lv (pc + 3) st) : xk_Go K D nL k n w lv pc (.int (lg_cmp x y) :: st) :=
  x_if_eq C d ht (fun h => kt ((xk_cmp_eq x y).mp h)) (fun h => kf (fun q => h ((xk_cmp_eq x y).mpr q)))
theorem x_if_neC (C : xk_Ok K D cc nL own R0 ty) {x y : Int64} {off : Int} {tgt : Nat} (d : decode cc pc = .ok (.ifCond .ne off, 3)) (ht : (pc : Int) + off = (tgt : Int))
    (kt : ¬ x = y → xk_Go K D nL k n w lv tgt st) (kf : x = y → xk_Go K D nL k n w lv (pc + 3) st) : xk_Go K D nL k n w lv pc (.int (lg_cmp x y) :: st) :=
  x_if_ne C d ht (fun h => kt (fun q => h ((xk_cmp_eq x y).mpr q))) (fun h => kf ((xk_cmp_eq x y).mp h))
theorem x_if_ltC (C : xk_Ok K D cc nL own R0 ty) {x y : Int64} {off : Int} {tgt : Nat} (d : decode cc pc = .ok (.ifCond .lt off, 3)) (ht : (pc : Int) + off = (tgt : Int))
    (kt : x < y → xk_Go K D nL k n w lv tgt st) (kf : ¬ x < y → xk_Go K D nL k n w lv (pc + 3) st) : xk_Go K D nL k n w lv pc (.int (lg_cmp x y) :: st) :=
  x_if_lt C d ht (fun h => kt ((xk_cmp_lt x y).mp h)) (fun h => kf (fun q => h ((xk_cmp_lt x y).mpr q)))
theorem x_if_geC (C : xk_Ok K D cc nL own R0 ty) {x y : Int64} {off : Int} {tgt : Nat} (d : decode cc pc = .ok (.ifCond .ge off, 3)) (ht : (pc : Int) + off = (tgt : Int))
    (kt : y ≤ x → xk_Go K D nL k n w lv tgt st) (kf : ¬ y ≤ x → xk_Go K D nL k n w lv (pc + 3) st) : xk_Go K D nL k n w lv pc (.int (lg_cmp x y) :: st) :=
  x_if_ge C d ht (fun h => kt ((xk_cmp_ge x y).mp h)) (fun h => kf (fun q => h ((xk_cmp_ge x y).mpr q)))
theorem x_if_gtC (C : xk_Ok K D cc nL own R0 ty) {x y : Int64} {off : Int} {tgt : Nat} (d : decode cc pc = .ok (.ifCond .gt off, 3)) (ht : (pc : Int) + off = (tgt : Int))
    (kt : y < x → xk_Go K D nL k n w lv tgt st) (kf : ¬ y < x → xk_Go K D nL k n w lv (pc + 3) st) : xk_Go K D nL k n w lv pc (.int (lg_cmp x y) :: st) :=
  x_if_gt C d ht (fun h => kt ((xk_cmp_gt x y).mp h)) (fun h => kf (fun q => h ((xk_cmp_gt x y).mpr q)))
theorem x_if_leC (C : xk_Ok K D cc nL own R0 ty) {x y : Int64} {off : Int} {tgt : Nat} (d : decode cc pc = .ok (.ifCond .le off, 3)) (ht : (pc : Int) + off = (tgt : Int))
    (kt : x ≤ y → xk_Go K D nL k n w lv tgt st) (kf : ¬ x ≤ y → xk_Go K D nL k n w lv (pc + 3) st) : xk_Go K D nL k n w lv pc (.int (lg_cmp x y) :: st) :=
  x_if_le C d ht (fun h => kt ((xk_cmp_le x y).mp h)) (fun h => kf (fun q => h ((xk_cmp_le x y).mpr q)))
end XK6
/-! WALKING ROWS 5: switches, Math.max, arraycopy. -/
theorem xk_sb_and (v : Nat) : xk_sb v &&& nI 255 = nI (v % 256) := by
  have h1 : xk_sb v &&& nI 255 = nI v &&& 255 := by
    unfold xk_sb
    exact bp_b (nI v)
  rw [h1, pk_and (nI v) 8 (by decide)]
  have h2 : (nI v).toBitVec.toNat = v % 2 ^ 32 := by
    unfold nI
    rw [Int32.toBitVec_ofNat', BitVec.toNat_ofNat]
  rw [h2]
  congr 1
  omega
def xk_Mx (own : String) (idx : Nat) : Prop := Cond.methodLink own idx Lib.Math.max.name ∈ xk_gt ∧ Cond.static Lib.Math.max.name ∈ xk_gt ∧ Cond.initialized "java/lang/Math" ∈ xk_gt ∧ Cond.code Lib.Math.max.name Lib.Math.max.code 2 (some .int) ∈ xk_gt
def xk_Cp (own : String) (idx : Nat) : Prop := Cond.methodLink own idx arraycopyName ∈ xk_gt ∧ Cond.native arraycopyName ∈ xk_gt ∧ Cond.static arraycopyName ∈ xk_gt ∧ Cond.initialized "java/lang/System" ∈ xk_gt
theorem xk_nA_cpy (f g : Nat → Nat) (i j m : Nat) : va_cpy (xk_nA f) (xk_nA g) i j m = xk_nA (va_cpy f g i j m) := by
  funext q
  exact (apply_ite nI _ _ _).symm
theorem xk_bA_cpy (f g : Nat → Nat) (i j m : Nat) : va_cpy (xk_bA f) (xk_bA g) i j m = xk_bA (va_cpy f g i j m) := by
  funext q
  exact (apply_ite xk_sb _ _ _).symm
section XK7
variable {K : xk_T} {D : va_G} {cc : ByteArray} {nL k n : Nat} {own : String} {R0 : Room} {ty : List (ClassId × FieldType)} {w : va_W} {lv : List (Nat × Value)} {pc : Nat} {st : List Value}
theorem x_tblIn (C : xk_Ok K D cc nL own R0 ty) {dflt lo hi off : Int} {offs : Array Int} {len : Nat} {x : Int32} (tgt : Nat) (d : decode cc pc = .ok (.tableswitch dflt lo hi offs, len)) (h1 : ¬ x.toInt < lo) (h2 : ¬ hi < x.toInt) (ho : offs[(x.toInt - lo).toNat]? = some off) (ht : (pc : Int) + off = (tgt : Int))
    (kk : xk_Go K D nL k n w lv tgt st) : xk_Go K D nL k n w lv pc (.int x :: st) := by
  obtain ⟨p, l, e, R, s, m, args, below, meth, c, Q, A⟩ := K
  obtain ⟨hx, hb, -⟩ := C
  intro H locs ls hP hD hS hl
  exact lv_tableIn hx hb d h1 h2 ho ht (kk H locs ls hP hD hS hl)
theorem x_tblOut (C : xk_Ok K D cc nL own R0 ty) {dflt lo hi : Int} {offs : Array Int} {len : Nat} {x : Int32} (tgt : Nat) (d : decode cc pc = .ok (.tableswitch dflt lo hi offs, len)) (h : x.toInt < lo ∨ hi < x.toInt) (ht : (pc : Int) + dflt = (tgt : Int))
    (kk : xk_Go K D nL k n w lv tgt st) : xk_Go K D nL k n w lv pc (.int x :: st) := by
  obtain ⟨p, l, e, R, s, m, args, below, meth, c, Q, A⟩ := K
  obtain ⟨hx, hb, -⟩ := C
  intro H locs ls hP hD hS hl
  exact lv_tableOut hx hb d h ht (kk H locs ls hP hD hS hl)
theorem x_max (C : xk_Ok K D cc nL own R0 ty) {idx : Nat} (hk : xk_Mx own idx) {a b : Nat} (ha : a < 2 ^ 31) (hb0 : b < 2 ^ 31) (hframes : 1 ≤ R0.frames) (hlocals : (st.map fun v => v.category).sum + 13 ≤ R0.locals) (hc : k ≤ R0.cells) (hs : n ≤ R0.slots) (d : decode cc pc = .ok (.invokestatic idx, 3))
    (kk : xk_Go K D nL k n w lv (pc + 3) (.int (nI (max a b)) :: st)) : xk_Go K D nL k n w lv pc (.int (nI b) :: .int (nI a) :: st) := by
  obtain ⟨p, l, e, R, s, m, args, below, meth, c, Q, A⟩ := K
  obtain ⟨hx, hb, hml, hown, hts, hK, hA, hR0⟩ := C
  obtain ⟨k1, k2, k3, k4⟩ := hk
  subst hR0
  intro H locs ls hP hD hS hl
  refine va_mmax hx hb (hml.trans hl.1.symm) hown (hts _ k1) (hts _ k2) (hts _ k3) (hts _ k4) hframes hlocals hc hs d ?_
  have h : (if nI a < nI b then nI b else nI a) = nI (max a b) := by
    by_cases h1 : a < b
    · rw [if_pos ((nI_ltI ha hb0).mpr h1), Nat.max_eq_right (Nat.le_of_lt h1)]
    · rw [if_neg (fun q => h1 ((nI_ltI ha hb0).mp q)), Nat.max_eq_left (Nat.not_lt.mp h1)]
  rw [h]
  exact kk H locs ls hP hD hS hl
theorem x_copyN (C : xk_Ok K D cc nL own R0 ty) {idx : Nat} (hk : xk_Cp own idx) (q0 q1 t0 t1 : Nat) (w' : va_W) {a0 a n0 n1 : Nat} {c0 c1 : ClassId} {f g : Nat → Nat} {sp dp m0 : Nat} (ha0 : w[q0]? = some (a0, .inl (c0, n0, .inl (xk_nA f)))) (ha1 : w[q1]? = some (a, .inl (c1, n1, .inl (xk_nA g)))) (ht0 : ty[t0]? = some (c0, .int)) (ht1 : ty[t1]? = some (c1, .int))
    (hw : w.set q1 (a, .inl (c1, n1, .inl (xk_nA (va_cpy f g sp dp m0)))) = w') (h4 : sp + m0 ≤ n0) (h5 : dp + m0 ≤ n1) (hn0 : n0 < 2 ^ 31) (hn1 : n1 < 2 ^ 31) (hframes : 1 ≤ R0.frames) (hlocals : (st.map fun v => v.category).sum + (nativeFrameWords "java/lang/System" "arraycopy" 5 + 11) ≤ R0.locals) (d : decode cc pc = .ok (.invokestatic idx, 3))
    (kk : xk_Go K D nL k n w' lv (pc + 3) st) : xk_Go K D nL k n w lv pc (.int (nI m0) :: .int (nI dp) :: .ref a :: .int (nI sp) :: .ref a0 :: st) := by
  obtain ⟨p, l, e, R, s, m, args, below, meth, c, Q, A⟩ := K
  obtain ⟨hx, hb, hml, hown, hts, hK, hA, hR0⟩ := C
  obtain ⟨k1, k2, k3, k4⟩ := hk
  subst hR0
  subst hw
  intro H locs ls hP hD hS hl
  refine va_copyi hx hb (hml.trans hl.1.symm) hown (hts _ k1) (hts _ k2) (hts _ k3) (hts _ k4) hK hP hD hS q0 q1 t0 t1 ha0 ha1 ht0 ht1 rfl (nI_pos (by omega)) (nI_pos (by omega)) (nI_pos (by omega)) (by rw [nI_clamp (by omega), nI_clamp (by omega)]; exact h4) (by rw [nI_clamp (by omega), nI_clamp (by omega)]; exact h5) (fun i _ => rfl) hframes hlocals d (fun H1 locs1 hP hD hS => ?_)
  rw [nI_clamp (by omega), nI_clamp (by omega), nI_clamp (by omega), xk_nA_cpy] at hP hD
  exact kk H1 locs1 ls hP hD hS hl
theorem x_copyL (C : xk_Ok K D cc nL own R0 ty) {idx : Nat} (hk : xk_Cp own idx) (q0 q1 t0 t1 : Nat) (w' : va_W) {a0 a n0 n1 : Nat} {c0 c1 : ClassId} {f g : Nat → Int64} {sp dp m0 : Nat} (ha0 : w[q0]? = some (a0, .inl (c0, n0, .inr (.inl f)))) (ha1 : w[q1]? = some (a, .inl (c1, n1, .inr (.inl g)))) (ht0 : ty[t0]? = some (c0, .long)) (ht1 : ty[t1]? = some (c1, .long))
    (hw : w.set q1 (a, .inl (c1, n1, .inr (.inl (va_cpy f g sp dp m0)))) = w') (h4 : sp + m0 ≤ n0) (h5 : dp + m0 ≤ n1) (hn0 : n0 < 2 ^ 31) (hn1 : n1 < 2 ^ 31) (hframes : 1 ≤ R0.frames) (hlocals : (st.map fun v => v.category).sum + (nativeFrameWords "java/lang/System" "arraycopy" 5 + 11) ≤ R0.locals) (d : decode cc pc = .ok (.invokestatic idx, 3))
    (kk : xk_Go K D nL k n w' lv (pc + 3) st) : xk_Go K D nL k n w lv pc (.int (nI m0) :: .int (nI dp) :: .ref a :: .int (nI sp) :: .ref a0 :: st) := by
  obtain ⟨p, l, e, R, s, m, args, below, meth, c, Q, A⟩ := K
  obtain ⟨hx, hb, hml, hown, hts, hK, hA, hR0⟩ := C
  obtain ⟨k1, k2, k3, k4⟩ := hk
  subst hR0
  subst hw
  intro H locs ls hP hD hS hl
  refine va_copyl hx hb (hml.trans hl.1.symm) hown (hts _ k1) (hts _ k2) (hts _ k3) (hts _ k4) hK hP hD hS q0 q1 t0 t1 ha0 ha1 ht0 ht1 rfl (nI_pos (by omega)) (nI_pos (by omega)) (nI_pos (by omega)) (by rw [nI_clamp (by omega), nI_clamp (by omega)]; exact h4) (by rw [nI_clamp (by omega), nI_clamp (by omega)]; exact h5) (fun i _ => rfl) hframes hlocals d (fun H1 locs1 hP hD hS => ?_)
  rw [nI_clamp (by omega), nI_clamp (by omega), nI_clamp (by omega)] at hP hD
  exact kk H1 locs1 ls hP hD hS hl
theorem x_copyB (C : xk_Ok K D cc nL own R0 ty) {idx : Nat} (hk : xk_Cp own idx) (q0 q1 t0 t1 : Nat) (w' : va_W) {a0 a n0 n1 : Nat} {c0 c1 : ClassId} {f g : Nat → Nat} {sp dp m0 : Nat} (ha0 : w[q0]? = some (a0, .inl (c0, n0, .inl (xk_bA f)))) (ha1 : w[q1]? = some (a, .inl (c1, n1, .inl (xk_bA g)))) (ht0 : ty[t0]? = some (c0, .byte)) (ht1 : ty[t1]? = some (c1, .byte))
    (hw : w.set q1 (a, .inl (c1, n1, .inl (xk_bA (va_cpy f g sp dp m0)))) = w') (h4 : sp + m0 ≤ n0) (h5 : dp + m0 ≤ n1) (hn0 : n0 < 2 ^ 31) (hn1 : n1 < 2 ^ 31) (hframes : 1 ≤ R0.frames) (hlocals : (st.map fun v => v.category).sum + (nativeFrameWords "java/lang/System" "arraycopy" 5 + 11) ≤ R0.locals) (d : decode cc pc = .ok (.invokestatic idx, 3))
    (kk : xk_Go K D nL k n w' lv (pc + 3) st) : xk_Go K D nL k n w lv pc (.int (nI m0) :: .int (nI dp) :: .ref a :: .int (nI sp) :: .ref a0 :: st) := by
  obtain ⟨p, l, e, R, s, m, args, below, meth, c, Q, A⟩ := K
  obtain ⟨hx, hb, hml, hown, hts, hK, hA, hR0⟩ := C
  obtain ⟨k1, k2, k3, k4⟩ := hk
  subst hR0
  subst hw
  intro H locs ls hP hD hS hl
  refine va_copyi hx hb (hml.trans hl.1.symm) hown (hts _ k1) (hts _ k2) (hts _ k3) (hts _ k4) hK hP hD hS q0 q1 t0 t1 ha0 ha1 ht0 ht1 rfl (nI_pos (by omega)) (nI_pos (by omega)) (nI_pos (by omega)) (by rw [nI_clamp (by omega), nI_clamp (by omega)]; exact h4) (by rw [nI_clamp (by omega), nI_clamp (by omega)]; exact h5) (fun i _ => pk_fb _) hframes hlocals d (fun H1 locs1 hP hD hS => ?_)
  rw [nI_clamp (by omega), nI_clamp (by omega), nI_clamp (by omega), xk_bA_cpy] at hP hD
  exact kk H1 locs1 ls hP hD hS hl
end XK7
end
section
abbrev tc_wB (a : Nat → Nat) (ca : Nat → ClassId) (bf : Nat → Nat) (sz : Nat) : va_W := [(a 0, .inr (0, [.ref (a 1), .int (nI sz)])), (a 1, .inl (ca 1, 4096, .inl (xk_bA bf)))]
abbrev tc_tB (ca : Nat → ClassId) : List (ClassId × FieldType) := [(ca 1, .byte)]
abbrev tc_wS (a : Nat → Nat) (ca : Nat → ClassId) (kn : Nat → Nat) (nu : Nat → Int64) (wo : Nat → Int64) (si : Nat → Nat) (de : Nat → Nat) (la : Nat → Nat) (le : Nat → Nat) (ro : Nat → Nat) (tm : Nat) (nd : Nat) : va_W := [(a 0, .inr (1, [.ref (a 1), .ref (a 2), .ref (a 3), .ref (a 4), .ref (a 5), .ref (a 6), .ref (a 7), .ref (a 8), .int (nI tm), .int (nI nd)])), (a 1, .inl (ca 1, 200, .inl (xk_nA kn))), (a 2, .inl (ca 2, 200, .inr (.inl nu))), (a 3, .inl (ca 3, 1600, .inr (.inl wo))), (a 4, .inl (ca 4, 200, .inl (xk_nA si))), (a 5, .inl (ca 5, 200, .inl (xk_nA de))), (a 6, .inl (ca 6, 200, .inl (xk_nA la))), (a 7, .inl (ca 7, 200, .inl (xk_nA le))), (a 8, .inl (ca 8, 200, .inl (xk_nA ro)))]
abbrev tc_tS (ca : Nat → ClassId) : List (ClassId × FieldType) := [(ca 1, .int), (ca 2, .long), (ca 3, .long), (ca 4, .int), (ca 5, .int), (ca 6, .int), (ca 7, .int), (ca 8, .int)]
abbrev tc_wR (a : Nat → Nat) (ca : Nat → ClassId) (ri : Nat) (rs : Nat) (wl : Nat → Nat) (wm : Nat → Nat) (wt : Nat) (nx : Nat) (ap : Nat) (fa : Nat) (pl : Option Nat) : va_W := [(a 0, .inr (2, [.ref ri, .ref rs, .ref (a 1), .ref (a 2), .int (nI wt), .int (nI nx), .int (nI ap), .int (nI fa), .int (xk_oI pl)])), (a 1, .inl (ca 1, 62, .inl (xk_nA wl))), (a 2, .inl (ca 2, 62, .inl (xk_nA wm)))]
abbrev tc_tR (ca : Nat → ClassId) : List (ClassId × FieldType) := [(ca 1, .int), (ca 2, .int)]
abbrev tc_wX (a : Nat → Nat) (ca : Nat → ClassId) (xs : Nat) (xo : Nat) (xg : Nat) (xr : Nat) : va_W := [(a 0, .inr (3, [.ref xs, .ref xo, .ref xg, .ref xr]))]
abbrev tc_tX (ca : Nat → ClassId) : List (ClassId × FieldType) := []
end
section
theorem dF_isKind_0 : decode cF_isKind 0 = .ok (.iload_n 0, 1) := by decide +kernel
theorem dF_isKind_1 : decode cF_isKind 1 = .ok (.ifCond .lt 13, 3) := by decide +kernel
theorem dF_isKind_4 : decode cF_isKind 4 = .ok (.iload_n 0, 1) := by decide +kernel
theorem dF_isKind_5 : decode cF_isKind 5 = .ok (.bipush 11, 2) := by decide +kernel
theorem dF_isKind_7 : decode cF_isKind 7 = .ok (.if_icmp .gt 7, 3) := by decide +kernel
theorem dF_isKind_10 : decode cF_isKind 10 = .ok (.iconst 1, 1) := by decide +kernel
theorem dF_isKind_11 : decode cF_isKind 11 = .ok (.goto 4, 3) := by decide +kernel
theorem dF_isKind_14 : decode cF_isKind 14 = .ok (.iconst 0, 1) := by decide +kernel
theorem dF_isKind_15 : decode cF_isKind 15 = .ok (.ireturn, 1) := by decide +kernel
theorem dF_partsOf_0 : decode cF_partsOf 0 = .ok (.iload_n 0, 1) := by decide +kernel
theorem dF_partsOf_1 : decode cF_partsOf 1 = .ok (.iconst 2, 1) := by decide +kernel
theorem dF_partsOf_2 : decode cF_partsOf 2 = .ok (.if_icmp .ne 5, 3) := by decide +kernel
theorem dF_partsOf_5 : decode cF_partsOf 5 = .ok (.iconst 2, 1) := by decide +kernel
theorem dF_partsOf_6 : decode cF_partsOf 6 = .ok (.ireturn, 1) := by decide +kernel
theorem dF_partsOf_7 : decode cF_partsOf 7 = .ok (.iload_n 0, 1) := by decide +kernel
theorem dF_partsOf_8 : decode cF_partsOf 8 = .ok (.iconst 1, 1) := by decide +kernel
theorem dF_partsOf_9 : decode cF_partsOf 9 = .ok (.if_icmp .eq 13, 3) := by decide +kernel
theorem dF_partsOf_12 : decode cF_partsOf 12 = .ok (.iload_n 0, 1) := by decide +kernel
theorem dF_partsOf_13 : decode cF_partsOf 13 = .ok (.iconst 3, 1) := by decide +kernel
theorem dF_partsOf_14 : decode cF_partsOf 14 = .ok (.if_icmp .eq 8, 3) := by decide +kernel
theorem dF_partsOf_17 : decode cF_partsOf 17 = .ok (.iload_n 0, 1) := by decide +kernel
theorem dF_partsOf_18 : decode cF_partsOf 18 = .ok (.iconst 4, 1) := by decide +kernel
theorem dF_partsOf_19 : decode cF_partsOf 19 = .ok (.if_icmp .ne 7, 3) := by decide +kernel
theorem dF_partsOf_22 : decode cF_partsOf 22 = .ok (.iconst 1, 1) := by decide +kernel
theorem dF_partsOf_23 : decode cF_partsOf 23 = .ok (.goto 4, 3) := by decide +kernel
theorem dF_partsOf_26 : decode cF_partsOf 26 = .ok (.iconst 0, 1) := by decide +kernel
theorem dF_partsOf_27 : decode cF_partsOf 27 = .ok (.ireturn, 1) := by decide +kernel
theorem dF_hasNumber_0 : decode cF_hasNumber 0 = .ok (.iload_n 0, 1) := by decide +kernel
theorem dF_hasNumber_1 : decode cF_hasNumber 1 = .ok (.ifCond .eq 21, 3) := by decide +kernel
theorem dF_hasNumber_4 : decode cF_hasNumber 4 = .ok (.iload_n 0, 1) := by decide +kernel
theorem dF_hasNumber_5 : decode cF_hasNumber 5 = .ok (.bipush 6, 2) := by decide +kernel
theorem dF_hasNumber_7 : decode cF_hasNumber 7 = .ok (.if_icmp .eq 15, 3) := by decide +kernel
theorem dF_hasNumber_10 : decode cF_hasNumber 10 = .ok (.iload_n 0, 1) := by decide +kernel
theorem dF_hasNumber_11 : decode cF_hasNumber 11 = .ok (.bipush 7, 2) := by decide +kernel
theorem dF_hasNumber_13 : decode cF_hasNumber 13 = .ok (.if_icmp .eq 9, 3) := by decide +kernel
theorem dF_hasNumber_16 : decode cF_hasNumber 16 = .ok (.iload_n 0, 1) := by decide +kernel
theorem dF_hasNumber_17 : decode cF_hasNumber 17 = .ok (.bipush 9, 2) := by decide +kernel
theorem dF_hasNumber_19 : decode cF_hasNumber 19 = .ok (.if_icmp .ne 7, 3) := by decide +kernel
theorem dF_hasNumber_22 : decode cF_hasNumber 22 = .ok (.iconst 1, 1) := by decide +kernel
theorem dF_hasNumber_23 : decode cF_hasNumber 23 = .ok (.goto 4, 3) := by decide +kernel
theorem dF_hasNumber_26 : decode cF_hasNumber 26 = .ok (.iconst 0, 1) := by decide +kernel
theorem dF_hasNumber_27 : decode cF_hasNumber 27 = .ok (.ireturn, 1) := by decide +kernel
theorem dF_fits_0 : decode cF_fits 0 = .ok (.iload_n 0, 1) := by decide +kernel
theorem dF_fits_1 : decode cF_fits 1 = .ok (.tableswitch 135 0 9 #[55, 135, 135, 135, 135, 135, 75, 95, 97, 117], 55) := by decide +kernel
theorem dF_fits_56 : decode cF_fits 56 = .ok (.lload_n 1, 1) := by decide +kernel
theorem dF_fits_57 : decode cF_fits 57 = .ok (.lconst 1, 1) := by decide +kernel
theorem dF_fits_58 : decode cF_fits 58 = .ok (.lcmp, 1) := by decide +kernel
theorem dF_fits_59 : decode cF_fits 59 = .ok (.ifCond .lt 15, 3) := by decide +kernel
theorem dF_fits_62 : decode cF_fits 62 = .ok (.lload_n 1, 1) := by decide +kernel
theorem dF_fits_63 : decode cF_fits 63 = .ok (.ldc2_w 9, 3) := by decide +kernel
theorem dF_fits_66 : decode cF_fits 66 = .ok (.lcmp, 1) := by decide +kernel
theorem dF_fits_67 : decode cF_fits 67 = .ok (.ifCond .gt 7, 3) := by decide +kernel
theorem dF_fits_70 : decode cF_fits 70 = .ok (.iconst 1, 1) := by decide +kernel
theorem dF_fits_71 : decode cF_fits 71 = .ok (.goto 4, 3) := by decide +kernel
theorem dF_fits_74 : decode cF_fits 74 = .ok (.iconst 0, 1) := by decide +kernel
theorem dF_fits_75 : decode cF_fits 75 = .ok (.ireturn, 1) := by decide +kernel
theorem dF_fits_76 : decode cF_fits 76 = .ok (.lload_n 1, 1) := by decide +kernel
theorem dF_fits_77 : decode cF_fits 77 = .ok (.lconst 0, 1) := by decide +kernel
theorem dF_fits_78 : decode cF_fits 78 = .ok (.lcmp, 1) := by decide +kernel
theorem dF_fits_79 : decode cF_fits 79 = .ok (.ifCond .lt 15, 3) := by decide +kernel
theorem dF_fits_82 : decode cF_fits 82 = .ok (.lload_n 1, 1) := by decide +kernel
theorem dF_fits_83 : decode cF_fits 83 = .ok (.ldc2_w 11, 3) := by decide +kernel
theorem dF_fits_86 : decode cF_fits 86 = .ok (.lcmp, 1) := by decide +kernel
theorem dF_fits_87 : decode cF_fits 87 = .ok (.ifCond .gt 7, 3) := by decide +kernel
theorem dF_fits_90 : decode cF_fits 90 = .ok (.iconst 1, 1) := by decide +kernel
theorem dF_fits_91 : decode cF_fits 91 = .ok (.goto 4, 3) := by decide +kernel
theorem dF_fits_94 : decode cF_fits 94 = .ok (.iconst 0, 1) := by decide +kernel
theorem dF_fits_95 : decode cF_fits 95 = .ok (.ireturn, 1) := by decide +kernel
theorem dF_fits_96 : decode cF_fits 96 = .ok (.iconst 1, 1) := by decide +kernel
theorem dF_fits_97 : decode cF_fits 97 = .ok (.ireturn, 1) := by decide +kernel
theorem dF_fits_98 : decode cF_fits 98 = .ok (.lload_n 1, 1) := by decide +kernel
theorem dF_fits_99 : decode cF_fits 99 = .ok (.lconst 0, 1) := by decide +kernel
theorem dF_fits_100 : decode cF_fits 100 = .ok (.lcmp, 1) := by decide +kernel
theorem dF_fits_101 : decode cF_fits 101 = .ok (.ifCond .lt 15, 3) := by decide +kernel
theorem dF_fits_104 : decode cF_fits 104 = .ok (.lload_n 1, 1) := by decide +kernel
theorem dF_fits_105 : decode cF_fits 105 = .ok (.ldc2_w 13, 3) := by decide +kernel
theorem dF_fits_108 : decode cF_fits 108 = .ok (.lcmp, 1) := by decide +kernel
theorem dF_fits_109 : decode cF_fits 109 = .ok (.ifCond .gt 7, 3) := by decide +kernel
theorem dF_fits_112 : decode cF_fits 112 = .ok (.iconst 1, 1) := by decide +kernel
theorem dF_fits_113 : decode cF_fits 113 = .ok (.goto 4, 3) := by decide +kernel
theorem dF_fits_116 : decode cF_fits 116 = .ok (.iconst 0, 1) := by decide +kernel
theorem dF_fits_117 : decode cF_fits 117 = .ok (.ireturn, 1) := by decide +kernel
theorem dF_fits_118 : decode cF_fits 118 = .ok (.lload_n 1, 1) := by decide +kernel
theorem dF_fits_119 : decode cF_fits 119 = .ok (.lconst 0, 1) := by decide +kernel
theorem dF_fits_120 : decode cF_fits 120 = .ok (.lcmp, 1) := by decide +kernel
theorem dF_fits_121 : decode cF_fits 121 = .ok (.ifCond .eq 9, 3) := by decide +kernel
theorem dF_fits_124 : decode cF_fits 124 = .ok (.lload_n 1, 1) := by decide +kernel
theorem dF_fits_125 : decode cF_fits 125 = .ok (.lconst 1, 1) := by decide +kernel
theorem dF_fits_126 : decode cF_fits 126 = .ok (.lcmp, 1) := by decide +kernel
theorem dF_fits_127 : decode cF_fits 127 = .ok (.ifCond .ne 7, 3) := by decide +kernel
theorem dF_fits_130 : decode cF_fits 130 = .ok (.iconst 1, 1) := by decide +kernel
theorem dF_fits_131 : decode cF_fits 131 = .ok (.goto 4, 3) := by decide +kernel
theorem dF_fits_134 : decode cF_fits 134 = .ok (.iconst 0, 1) := by decide +kernel
theorem dF_fits_135 : decode cF_fits 135 = .ok (.ireturn, 1) := by decide +kernel
theorem dF_fits_136 : decode cF_fits 136 = .ok (.lload_n 1, 1) := by decide +kernel
theorem dF_fits_137 : decode cF_fits 137 = .ok (.lconst 0, 1) := by decide +kernel
theorem dF_fits_138 : decode cF_fits 138 = .ok (.lcmp, 1) := by decide +kernel
theorem dF_fits_139 : decode cF_fits 139 = .ok (.ifCond .ne 7, 3) := by decide +kernel
theorem dF_fits_142 : decode cF_fits 142 = .ok (.iconst 1, 1) := by decide +kernel
theorem dF_fits_143 : decode cF_fits 143 = .ok (.goto 4, 3) := by decide +kernel
theorem dF_fits_146 : decode cF_fits 146 = .ok (.iconst 0, 1) := by decide +kernel
theorem dF_fits_147 : decode cF_fits 147 = .ok (.ireturn, 1) := by decide +kernel
theorem dF_ownLength_0 : decode cF_ownLength 0 = .ok (.iload_n 0, 1) := by decide +kernel
theorem dF_ownLength_1 : decode cF_ownLength 1 = .ok (.tableswitch 76 0 9 #[55, 76, 76, 76, 76, 76, 74, 62, 69, 74], 55) := by decide +kernel
theorem dF_ownLength_56 : decode cF_ownLength 56 = .ok (.iconst 1, 1) := by decide +kernel
theorem dF_ownLength_57 : decode cF_ownLength 57 = .ok (.lload_n 1, 1) := by decide +kernel
theorem dF_ownLength_58 : decode cF_ownLength 58 = .ok (.invokestatic 15, 3) := by decide +kernel
theorem dF_ownLength_61 : decode cF_ownLength 61 = .ok (.iadd, 1) := by decide +kernel
theorem dF_ownLength_62 : decode cF_ownLength 62 = .ok (.ireturn, 1) := by decide +kernel
theorem dF_ownLength_63 : decode cF_ownLength 63 = .ok (.iconst 1, 1) := by decide +kernel
theorem dF_ownLength_64 : decode cF_ownLength 64 = .ok (.lload_n 1, 1) := by decide +kernel
theorem dF_ownLength_65 : decode cF_ownLength 65 = .ok (.invokestatic 21, 3) := by decide +kernel
theorem dF_ownLength_68 : decode cF_ownLength 68 = .ok (.iadd, 1) := by decide +kernel
theorem dF_ownLength_69 : decode cF_ownLength 69 = .ok (.ireturn, 1) := by decide +kernel
theorem dF_ownLength_70 : decode cF_ownLength 70 = .ok (.iconst 2, 1) := by decide +kernel
theorem dF_ownLength_71 : decode cF_ownLength 71 = .ok (.lload_n 1, 1) := by decide +kernel
theorem dF_ownLength_72 : decode cF_ownLength 72 = .ok (.l2i, 1) := by decide +kernel
theorem dF_ownLength_73 : decode cF_ownLength 73 = .ok (.iadd, 1) := by decide +kernel
theorem dF_ownLength_74 : decode cF_ownLength 74 = .ok (.ireturn, 1) := by decide +kernel
theorem dF_ownLength_75 : decode cF_ownLength 75 = .ok (.iconst 2, 1) := by decide +kernel
theorem dF_ownLength_76 : decode cF_ownLength 76 = .ok (.ireturn, 1) := by decide +kernel
theorem dF_ownLength_77 : decode cF_ownLength 77 = .ok (.iconst 1, 1) := by decide +kernel
theorem dF_ownLength_78 : decode cF_ownLength 78 = .ok (.ireturn, 1) := by decide +kernel
theorem dF_unsignedGroups_0 : decode cF_unsignedGroups 0 = .ok (.iconst 1, 1) := by decide +kernel
theorem dF_unsignedGroups_1 : decode cF_unsignedGroups 1 = .ok (.istore_n 2, 1) := by decide +kernel
theorem dF_unsignedGroups_2 : decode cF_unsignedGroups 2 = .ok (.iload_n 2, 1) := by decide +kernel
theorem dF_unsignedGroups_3 : decode cF_unsignedGroups 3 = .ok (.iconst 5, 1) := by decide +kernel
theorem dF_unsignedGroups_4 : decode cF_unsignedGroups 4 = .ok (.if_icmp .ge 22, 3) := by decide +kernel
theorem dF_unsignedGroups_7 : decode cF_unsignedGroups 7 = .ok (.lload_n 0, 1) := by decide +kernel
theorem dF_unsignedGroups_8 : decode cF_unsignedGroups 8 = .ok (.bipush 7, 2) := by decide +kernel
theorem dF_unsignedGroups_10 : decode cF_unsignedGroups 10 = .ok (.iload_n 2, 1) := by decide +kernel
theorem dF_unsignedGroups_11 : decode cF_unsignedGroups 11 = .ok (.imul, 1) := by decide +kernel
theorem dF_unsignedGroups_12 : decode cF_unsignedGroups 12 = .ok (.lushr, 1) := by decide +kernel
theorem dF_unsignedGroups_13 : decode cF_unsignedGroups 13 = .ok (.lconst 0, 1) := by decide +kernel
theorem dF_unsignedGroups_14 : decode cF_unsignedGroups 14 = .ok (.lcmp, 1) := by decide +kernel
theorem dF_unsignedGroups_15 : decode cF_unsignedGroups 15 = .ok (.ifCond .ne 5, 3) := by decide +kernel
theorem dF_unsignedGroups_18 : decode cF_unsignedGroups 18 = .ok (.iload_n 2, 1) := by decide +kernel
theorem dF_unsignedGroups_19 : decode cF_unsignedGroups 19 = .ok (.ireturn, 1) := by decide +kernel
theorem dF_unsignedGroups_20 : decode cF_unsignedGroups 20 = .ok (.iinc 2 1, 3) := by decide +kernel
theorem dF_unsignedGroups_23 : decode cF_unsignedGroups 23 = .ok (.goto (-21), 3) := by decide +kernel
theorem dF_unsignedGroups_26 : decode cF_unsignedGroups 26 = .ok (.iconst 5, 1) := by decide +kernel
theorem dF_unsignedGroups_27 : decode cF_unsignedGroups 27 = .ok (.ireturn, 1) := by decide +kernel
theorem dF_signedGroups_0 : decode cF_signedGroups 0 = .ok (.iconst 1, 1) := by decide +kernel
theorem dF_signedGroups_1 : decode cF_signedGroups 1 = .ok (.istore_n 2, 1) := by decide +kernel
theorem dF_signedGroups_2 : decode cF_signedGroups 2 = .ok (.iload_n 2, 1) := by decide +kernel
theorem dF_signedGroups_3 : decode cF_signedGroups 3 = .ok (.bipush 10, 2) := by decide +kernel
theorem dF_signedGroups_5 : decode cF_signedGroups 5 = .ok (.if_icmp .ge 34, 3) := by decide +kernel
theorem dF_signedGroups_8 : decode cF_signedGroups 8 = .ok (.lload_n 0, 1) := by decide +kernel
theorem dF_signedGroups_9 : decode cF_signedGroups 9 = .ok (.bipush 7, 2) := by decide +kernel
theorem dF_signedGroups_11 : decode cF_signedGroups 11 = .ok (.iload_n 2, 1) := by decide +kernel
theorem dF_signedGroups_12 : decode cF_signedGroups 12 = .ok (.imul, 1) := by decide +kernel
theorem dF_signedGroups_13 : decode cF_signedGroups 13 = .ok (.iconst 1, 1) := by decide +kernel
theorem dF_signedGroups_14 : decode cF_signedGroups 14 = .ok (.isub, 1) := by decide +kernel
theorem dF_signedGroups_15 : decode cF_signedGroups 15 = .ok (.lshr, 1) := by decide +kernel
theorem dF_signedGroups_16 : decode cF_signedGroups 16 = .ok (.lstore_n 3, 1) := by decide +kernel
theorem dF_signedGroups_17 : decode cF_signedGroups 17 = .ok (.lload_n 3, 1) := by decide +kernel
theorem dF_signedGroups_18 : decode cF_signedGroups 18 = .ok (.lconst 0, 1) := by decide +kernel
theorem dF_signedGroups_19 : decode cF_signedGroups 19 = .ok (.lcmp, 1) := by decide +kernel
theorem dF_signedGroups_20 : decode cF_signedGroups 20 = .ok (.ifCond .eq 11, 3) := by decide +kernel
theorem dF_signedGroups_23 : decode cF_signedGroups 23 = .ok (.lload_n 3, 1) := by decide +kernel
theorem dF_signedGroups_24 : decode cF_signedGroups 24 = .ok (.ldc2_w 24, 3) := by decide +kernel
theorem dF_signedGroups_27 : decode cF_signedGroups 27 = .ok (.lcmp, 1) := by decide +kernel
theorem dF_signedGroups_28 : decode cF_signedGroups 28 = .ok (.ifCond .ne 5, 3) := by decide +kernel
theorem dF_signedGroups_31 : decode cF_signedGroups 31 = .ok (.iload_n 2, 1) := by decide +kernel
theorem dF_signedGroups_32 : decode cF_signedGroups 32 = .ok (.ireturn, 1) := by decide +kernel
theorem dF_signedGroups_33 : decode cF_signedGroups 33 = .ok (.iinc 2 1, 3) := by decide +kernel
theorem dF_signedGroups_36 : decode cF_signedGroups 36 = .ok (.goto (-34), 3) := by decide +kernel
theorem dF_signedGroups_39 : decode cF_signedGroups 39 = .ok (.bipush 10, 2) := by decide +kernel
theorem dF_signedGroups_41 : decode cF_signedGroups 41 = .ok (.ireturn, 1) := by decide +kernel
theorem dF_byteOf_0 : decode cF_byteOf 0 = .ok (.lload_n 0, 1) := by decide +kernel
theorem dF_byteOf_1 : decode cF_byteOf 1 = .ok (.bipush 8, 2) := by decide +kernel
theorem dF_byteOf_3 : decode cF_byteOf 3 = .ok (.iload_n 2, 1) := by decide +kernel
theorem dF_byteOf_4 : decode cF_byteOf 4 = .ok (.imul, 1) := by decide +kernel
theorem dF_byteOf_5 : decode cF_byteOf 5 = .ok (.lushr, 1) := by decide +kernel
theorem dF_byteOf_6 : decode cF_byteOf 6 = .ok (.l2i, 1) := by decide +kernel
theorem dF_byteOf_7 : decode cF_byteOf 7 = .ok (.sipush 255, 3) := by decide +kernel
theorem dF_byteOf_10 : decode cF_byteOf 10 = .ok (.iand, 1) := by decide +kernel
theorem dF_byteOf_11 : decode cF_byteOf 11 = .ok (.ireturn, 1) := by decide +kernel
end
section
theorem dB_init_0 : decode cB_init 0 = .ok (.aload_n 0, 1) := by decide +kernel
theorem dB_init_1 : decode cB_init 1 = .ok (.invokespecial 3, 3) := by decide +kernel
theorem dB_init_4 : decode cB_init 4 = .ok (.aload_n 0, 1) := by decide +kernel
theorem dB_init_5 : decode cB_init 5 = .ok (.sipush 4096, 3) := by decide +kernel
theorem dB_init_8 : decode cB_init 8 = .ok (.newarray .byte, 2) := by decide +kernel
theorem dB_init_10 : decode cB_init 10 = .ok (.putfield 9, 3) := by decide +kernel
theorem dB_init_13 : decode cB_init 13 = .ok (.aload_n 0, 1) := by decide +kernel
theorem dB_init_14 : decode cB_init 14 = .ok (.iconst 0, 1) := by decide +kernel
theorem dB_init_15 : decode cB_init 15 = .ok (.putfield 15, 3) := by decide +kernel
theorem dB_init_18 : decode cB_init 18 = .ok (.return_, 1) := by decide +kernel
theorem dB_room_0 : decode cB_room 0 = .ok (.sipush 4096, 3) := by decide +kernel
theorem dB_room_3 : decode cB_room 3 = .ok (.aload_n 0, 1) := by decide +kernel
theorem dB_room_4 : decode cB_room 4 = .ok (.getfield 15, 3) := by decide +kernel
theorem dB_room_7 : decode cB_room 7 = .ok (.isub, 1) := by decide +kernel
theorem dB_room_8 : decode cB_room 8 = .ok (.ireturn, 1) := by decide +kernel
theorem dB_get_0 : decode cB_get 0 = .ok (.iload_n 1, 1) := by decide +kernel
theorem dB_get_1 : decode cB_get 1 = .ok (.ifCond .lt 11, 3) := by decide +kernel
theorem dB_get_4 : decode cB_get 4 = .ok (.iload_n 1, 1) := by decide +kernel
theorem dB_get_5 : decode cB_get 5 = .ok (.aload_n 0, 1) := by decide +kernel
theorem dB_get_6 : decode cB_get 6 = .ok (.getfield 15, 3) := by decide +kernel
theorem dB_get_9 : decode cB_get 9 = .ok (.if_icmp .lt 7, 3) := by decide +kernel
theorem dB_get_12 : decode cB_get 12 = .ok (.iconst (-1), 1) := by decide +kernel
theorem dB_get_13 : decode cB_get 13 = .ok (.goto 13, 3) := by decide +kernel
theorem dB_get_16 : decode cB_get 16 = .ok (.aload_n 0, 1) := by decide +kernel
theorem dB_get_17 : decode cB_get 17 = .ok (.getfield 9, 3) := by decide +kernel
theorem dB_get_20 : decode cB_get 20 = .ok (.iload_n 1, 1) := by decide +kernel
theorem dB_get_21 : decode cB_get 21 = .ok (.baload, 1) := by decide +kernel
theorem dB_get_22 : decode cB_get 22 = .ok (.sipush 255, 3) := by decide +kernel
theorem dB_get_25 : decode cB_get 25 = .ok (.iand, 1) := by decide +kernel
theorem dB_get_26 : decode cB_get 26 = .ok (.ireturn, 1) := by decide +kernel
theorem dB_append_0 : decode cB_append 0 = .ok (.aload_n 0, 1) := by decide +kernel
theorem dB_append_1 : decode cB_append 1 = .ok (.getfield 15, 3) := by decide +kernel
theorem dB_append_4 : decode cB_append 4 = .ok (.sipush 4096, 3) := by decide +kernel
theorem dB_append_7 : decode cB_append 7 = .ok (.if_icmp .ge 24, 3) := by decide +kernel
theorem dB_append_10 : decode cB_append 10 = .ok (.aload_n 0, 1) := by decide +kernel
theorem dB_append_11 : decode cB_append 11 = .ok (.getfield 9, 3) := by decide +kernel
theorem dB_append_14 : decode cB_append 14 = .ok (.aload_n 0, 1) := by decide +kernel
theorem dB_append_15 : decode cB_append 15 = .ok (.getfield 15, 3) := by decide +kernel
theorem dB_append_18 : decode cB_append 18 = .ok (.iload_n 1, 1) := by decide +kernel
theorem dB_append_19 : decode cB_append 19 = .ok (.i2b, 1) := by decide +kernel
theorem dB_append_20 : decode cB_append 20 = .ok (.bastore, 1) := by decide +kernel
theorem dB_append_21 : decode cB_append 21 = .ok (.aload_n 0, 1) := by decide +kernel
theorem dB_append_22 : decode cB_append 22 = .ok (.dup, 1) := by decide +kernel
theorem dB_append_23 : decode cB_append 23 = .ok (.getfield 15, 3) := by decide +kernel
theorem dB_append_26 : decode cB_append 26 = .ok (.iconst 1, 1) := by decide +kernel
theorem dB_append_27 : decode cB_append 27 = .ok (.iadd, 1) := by decide +kernel
theorem dB_append_28 : decode cB_append 28 = .ok (.putfield 15, 3) := by decide +kernel
theorem dB_append_31 : decode cB_append 31 = .ok (.return_, 1) := by decide +kernel
theorem dB_appendGroups_0 : decode cB_appendGroups 0 = .ok (.iconst 0, 1) := by decide +kernel
theorem dB_appendGroups_1 : decode cB_appendGroups 1 = .ok (.istore 4, 2) := by decide +kernel
theorem dB_appendGroups_3 : decode cB_appendGroups 3 = .ok (.iload 4, 2) := by decide +kernel
theorem dB_appendGroups_5 : decode cB_appendGroups 5 = .ok (.iload_n 3, 1) := by decide +kernel
theorem dB_appendGroups_6 : decode cB_appendGroups 6 = .ok (.if_icmp .ge 45, 3) := by decide +kernel
theorem dB_appendGroups_9 : decode cB_appendGroups 9 = .ok (.lload_n 1, 1) := by decide +kernel
theorem dB_appendGroups_10 : decode cB_appendGroups 10 = .ok (.bipush 7, 2) := by decide +kernel
theorem dB_appendGroups_12 : decode cB_appendGroups 12 = .ok (.iload 4, 2) := by decide +kernel
theorem dB_appendGroups_14 : decode cB_appendGroups 14 = .ok (.imul, 1) := by decide +kernel
theorem dB_appendGroups_15 : decode cB_appendGroups 15 = .ok (.lshr, 1) := by decide +kernel
theorem dB_appendGroups_16 : decode cB_appendGroups 16 = .ok (.l2i, 1) := by decide +kernel
theorem dB_appendGroups_17 : decode cB_appendGroups 17 = .ok (.bipush 127, 2) := by decide +kernel
theorem dB_appendGroups_19 : decode cB_appendGroups 19 = .ok (.iand, 1) := by decide +kernel
theorem dB_appendGroups_20 : decode cB_appendGroups 20 = .ok (.istore 5, 2) := by decide +kernel
theorem dB_appendGroups_22 : decode cB_appendGroups 22 = .ok (.aload_n 0, 1) := by decide +kernel
theorem dB_appendGroups_23 : decode cB_appendGroups 23 = .ok (.iload 4, 2) := by decide +kernel
theorem dB_appendGroups_25 : decode cB_appendGroups 25 = .ok (.iload_n 3, 1) := by decide +kernel
theorem dB_appendGroups_26 : decode cB_appendGroups 26 = .ok (.iconst 1, 1) := by decide +kernel
theorem dB_appendGroups_27 : decode cB_appendGroups 27 = .ok (.isub, 1) := by decide +kernel
theorem dB_appendGroups_28 : decode cB_appendGroups 28 = .ok (.if_icmp .ge 12, 3) := by decide +kernel
theorem dB_appendGroups_31 : decode cB_appendGroups 31 = .ok (.iload 5, 2) := by decide +kernel
theorem dB_appendGroups_33 : decode cB_appendGroups 33 = .ok (.sipush 128, 3) := by decide +kernel
theorem dB_appendGroups_36 : decode cB_appendGroups 36 = .ok (.ior, 1) := by decide +kernel
theorem dB_appendGroups_37 : decode cB_appendGroups 37 = .ok (.goto 5, 3) := by decide +kernel
theorem dB_appendGroups_40 : decode cB_appendGroups 40 = .ok (.iload 5, 2) := by decide +kernel
theorem dB_appendGroups_42 : decode cB_appendGroups 42 = .ok (.invokevirtual 19, 3) := by decide +kernel
theorem dB_appendGroups_45 : decode cB_appendGroups 45 = .ok (.iinc 4 1, 3) := by decide +kernel
theorem dB_appendGroups_48 : decode cB_appendGroups 48 = .ok (.goto (-45), 3) := by decide +kernel
theorem dB_appendGroups_51 : decode cB_appendGroups 51 = .ok (.return_, 1) := by decide +kernel
theorem dB_copyFrom_0 : decode cB_copyFrom 0 = .ok (.aload_n 1, 1) := by decide +kernel
theorem dB_copyFrom_1 : decode cB_copyFrom 1 = .ok (.getfield 9, 3) := by decide +kernel
theorem dB_copyFrom_4 : decode cB_copyFrom 4 = .ok (.iconst 0, 1) := by decide +kernel
theorem dB_copyFrom_5 : decode cB_copyFrom 5 = .ok (.aload_n 0, 1) := by decide +kernel
theorem dB_copyFrom_6 : decode cB_copyFrom 6 = .ok (.getfield 9, 3) := by decide +kernel
theorem dB_copyFrom_9 : decode cB_copyFrom 9 = .ok (.iconst 0, 1) := by decide +kernel
theorem dB_copyFrom_10 : decode cB_copyFrom 10 = .ok (.aload_n 1, 1) := by decide +kernel
theorem dB_copyFrom_11 : decode cB_copyFrom 11 = .ok (.getfield 15, 3) := by decide +kernel
theorem dB_copyFrom_14 : decode cB_copyFrom 14 = .ok (.invokestatic 23, 3) := by decide +kernel
theorem dB_copyFrom_17 : decode cB_copyFrom 17 = .ok (.aload_n 0, 1) := by decide +kernel
theorem dB_copyFrom_18 : decode cB_copyFrom 18 = .ok (.aload_n 1, 1) := by decide +kernel
theorem dB_copyFrom_19 : decode cB_copyFrom 19 = .ok (.getfield 15, 3) := by decide +kernel
theorem dB_copyFrom_22 : decode cB_copyFrom 22 = .ok (.putfield 15, 3) := by decide +kernel
theorem dB_copyFrom_25 : decode cB_copyFrom 25 = .ok (.return_, 1) := by decide +kernel
end
section
theorem dS_init_0 : decode cS_init 0 = .ok (.aload_n 0, 1) := by decide +kernel
theorem dS_init_1 : decode cS_init 1 = .ok (.invokespecial 3, 3) := by decide +kernel
theorem dS_init_4 : decode cS_init 4 = .ok (.aload_n 0, 1) := by decide +kernel
theorem dS_init_5 : decode cS_init 5 = .ok (.sipush 200, 3) := by decide +kernel
theorem dS_init_8 : decode cS_init 8 = .ok (.newarray .int, 2) := by decide +kernel
theorem dS_init_10 : decode cS_init 10 = .ok (.putfield 9, 3) := by decide +kernel
theorem dS_init_13 : decode cS_init 13 = .ok (.aload_n 0, 1) := by decide +kernel
theorem dS_init_14 : decode cS_init 14 = .ok (.sipush 200, 3) := by decide +kernel
theorem dS_init_17 : decode cS_init 17 = .ok (.newarray .long, 2) := by decide +kernel
theorem dS_init_19 : decode cS_init 19 = .ok (.putfield 15, 3) := by decide +kernel
theorem dS_init_22 : decode cS_init 22 = .ok (.aload_n 0, 1) := by decide +kernel
theorem dS_init_23 : decode cS_init 23 = .ok (.sipush 1600, 3) := by decide +kernel
theorem dS_init_26 : decode cS_init 26 = .ok (.newarray .long, 2) := by decide +kernel
theorem dS_init_28 : decode cS_init 28 = .ok (.putfield 19, 3) := by decide +kernel
theorem dS_init_31 : decode cS_init 31 = .ok (.aload_n 0, 1) := by decide +kernel
theorem dS_init_32 : decode cS_init 32 = .ok (.sipush 200, 3) := by decide +kernel
theorem dS_init_35 : decode cS_init 35 = .ok (.newarray .int, 2) := by decide +kernel
theorem dS_init_37 : decode cS_init 37 = .ok (.putfield 22, 3) := by decide +kernel
theorem dS_init_40 : decode cS_init 40 = .ok (.aload_n 0, 1) := by decide +kernel
theorem dS_init_41 : decode cS_init 41 = .ok (.sipush 200, 3) := by decide +kernel
theorem dS_init_44 : decode cS_init 44 = .ok (.newarray .int, 2) := by decide +kernel
theorem dS_init_46 : decode cS_init 46 = .ok (.putfield 25, 3) := by decide +kernel
theorem dS_init_49 : decode cS_init 49 = .ok (.aload_n 0, 1) := by decide +kernel
theorem dS_init_50 : decode cS_init 50 = .ok (.sipush 200, 3) := by decide +kernel
theorem dS_init_53 : decode cS_init 53 = .ok (.newarray .int, 2) := by decide +kernel
theorem dS_init_55 : decode cS_init 55 = .ok (.putfield 28, 3) := by decide +kernel
theorem dS_init_58 : decode cS_init 58 = .ok (.aload_n 0, 1) := by decide +kernel
theorem dS_init_59 : decode cS_init 59 = .ok (.sipush 200, 3) := by decide +kernel
theorem dS_init_62 : decode cS_init 62 = .ok (.newarray .int, 2) := by decide +kernel
theorem dS_init_64 : decode cS_init 64 = .ok (.putfield 31, 3) := by decide +kernel
theorem dS_init_67 : decode cS_init 67 = .ok (.aload_n 0, 1) := by decide +kernel
theorem dS_init_68 : decode cS_init 68 = .ok (.sipush 200, 3) := by decide +kernel
theorem dS_init_71 : decode cS_init 71 = .ok (.newarray .int, 2) := by decide +kernel
theorem dS_init_73 : decode cS_init 73 = .ok (.putfield 34, 3) := by decide +kernel
theorem dS_init_76 : decode cS_init 76 = .ok (.aload_n 0, 1) := by decide +kernel
theorem dS_init_77 : decode cS_init 77 = .ok (.iconst 0, 1) := by decide +kernel
theorem dS_init_78 : decode cS_init 78 = .ok (.putfield 37, 3) := by decide +kernel
theorem dS_init_81 : decode cS_init 81 = .ok (.aload_n 0, 1) := by decide +kernel
theorem dS_init_82 : decode cS_init 82 = .ok (.iconst 0, 1) := by decide +kernel
theorem dS_init_83 : decode cS_init 83 = .ok (.putfield 41, 3) := by decide +kernel
theorem dS_init_86 : decode cS_init 86 = .ok (.return_, 1) := by decide +kernel
theorem dS_lastRoot_0 : decode cS_lastRoot 0 = .ok (.aload_n 0, 1) := by decide +kernel
theorem dS_lastRoot_1 : decode cS_lastRoot 1 = .ok (.getfield 37, 3) := by decide +kernel
theorem dS_lastRoot_4 : decode cS_lastRoot 4 = .ok (.iconst 1, 1) := by decide +kernel
theorem dS_lastRoot_5 : decode cS_lastRoot 5 = .ok (.if_icmp .lt 13, 3) := by decide +kernel
theorem dS_lastRoot_8 : decode cS_lastRoot 8 = .ok (.aload_n 0, 1) := by decide +kernel
theorem dS_lastRoot_9 : decode cS_lastRoot 9 = .ok (.getfield 37, 3) := by decide +kernel
theorem dS_lastRoot_12 : decode cS_lastRoot 12 = .ok (.sipush 200, 3) := by decide +kernel
theorem dS_lastRoot_15 : decode cS_lastRoot 15 = .ok (.if_icmp .le 7, 3) := by decide +kernel
theorem dS_lastRoot_18 : decode cS_lastRoot 18 = .ok (.iconst (-1), 1) := by decide +kernel
theorem dS_lastRoot_19 : decode cS_lastRoot 19 = .ok (.goto 14, 3) := by decide +kernel
theorem dS_lastRoot_22 : decode cS_lastRoot 22 = .ok (.aload_n 0, 1) := by decide +kernel
theorem dS_lastRoot_23 : decode cS_lastRoot 23 = .ok (.getfield 34, 3) := by decide +kernel
theorem dS_lastRoot_26 : decode cS_lastRoot 26 = .ok (.aload_n 0, 1) := by decide +kernel
theorem dS_lastRoot_27 : decode cS_lastRoot 27 = .ok (.getfield 37, 3) := by decide +kernel
theorem dS_lastRoot_30 : decode cS_lastRoot 30 = .ok (.iconst 1, 1) := by decide +kernel
theorem dS_lastRoot_31 : decode cS_lastRoot 31 = .ok (.isub, 1) := by decide +kernel
theorem dS_lastRoot_32 : decode cS_lastRoot 32 = .ok (.iaload, 1) := by decide +kernel
theorem dS_lastRoot_33 : decode cS_lastRoot 33 = .ok (.ireturn, 1) := by decide +kernel
theorem dS_find_0 : decode cS_find 0 = .ok (.aload_n 0, 1) := by decide +kernel
theorem dS_find_1 : decode cS_find 1 = .ok (.invokevirtual 44, 3) := by decide +kernel
theorem dS_find_4 : decode cS_find 4 = .ok (.istore_n 2, 1) := by decide +kernel
theorem dS_find_5 : decode cS_find 5 = .ok (.iload_n 2, 1) := by decide +kernel
theorem dS_find_6 : decode cS_find 6 = .ok (.ifCond .lt 17, 3) := by decide +kernel
theorem dS_find_9 : decode cS_find 9 = .ok (.iload_n 1, 1) := by decide +kernel
theorem dS_find_10 : decode cS_find 10 = .ok (.ifCond .lt 13, 3) := by decide +kernel
theorem dS_find_13 : decode cS_find 13 = .ok (.iload_n 1, 1) := by decide +kernel
theorem dS_find_14 : decode cS_find 14 = .ok (.aload_n 0, 1) := by decide +kernel
theorem dS_find_15 : decode cS_find 15 = .ok (.getfield 22, 3) := by decide +kernel
theorem dS_find_18 : decode cS_find 18 = .ok (.iload_n 2, 1) := by decide +kernel
theorem dS_find_19 : decode cS_find 19 = .ok (.iaload, 1) := by decide +kernel
theorem dS_find_20 : decode cS_find 20 = .ok (.if_icmp .lt 7, 3) := by decide +kernel
theorem dS_find_23 : decode cS_find 23 = .ok (.iconst (-1), 1) := by decide +kernel
theorem dS_find_24 : decode cS_find 24 = .ok (.goto 6, 3) := by decide +kernel
theorem dS_find_27 : decode cS_find 27 = .ok (.iload_n 2, 1) := by decide +kernel
theorem dS_find_28 : decode cS_find 28 = .ok (.iload_n 1, 1) := by decide +kernel
theorem dS_find_29 : decode cS_find 29 = .ok (.iadd, 1) := by decide +kernel
theorem dS_find_30 : decode cS_find 30 = .ok (.ireturn, 1) := by decide +kernel
theorem dS_lastLength_0 : decode cS_lastLength 0 = .ok (.aload_n 0, 1) := by decide +kernel
theorem dS_lastLength_1 : decode cS_lastLength 1 = .ok (.invokevirtual 44, 3) := by decide +kernel
theorem dS_lastLength_4 : decode cS_lastLength 4 = .ok (.istore_n 1, 1) := by decide +kernel
theorem dS_lastLength_5 : decode cS_lastLength 5 = .ok (.iload_n 1, 1) := by decide +kernel
theorem dS_lastLength_6 : decode cS_lastLength 6 = .ok (.ifCond .ge 7, 3) := by decide +kernel
theorem dS_lastLength_9 : decode cS_lastLength 9 = .ok (.iconst (-1), 1) := by decide +kernel
theorem dS_lastLength_10 : decode cS_lastLength 10 = .ok (.goto 9, 3) := by decide +kernel
theorem dS_lastLength_13 : decode cS_lastLength 13 = .ok (.aload_n 0, 1) := by decide +kernel
theorem dS_lastLength_14 : decode cS_lastLength 14 = .ok (.getfield 31, 3) := by decide +kernel
theorem dS_lastLength_17 : decode cS_lastLength 17 = .ok (.iload_n 1, 1) := by decide +kernel
theorem dS_lastLength_18 : decode cS_lastLength 18 = .ok (.iaload, 1) := by decide +kernel
theorem dS_lastLength_19 : decode cS_lastLength 19 = .ok (.ireturn, 1) := by decide +kernel
theorem dS_parentOf_0 : decode cS_parentOf 0 = .ok (.aload_n 0, 1) := by decide +kernel
theorem dS_parentOf_1 : decode cS_parentOf 1 = .ok (.invokevirtual 44, 3) := by decide +kernel
theorem dS_parentOf_4 : decode cS_parentOf 4 = .ok (.istore_n 2, 1) := by decide +kernel
theorem dS_parentOf_5 : decode cS_parentOf 5 = .ok (.iload_n 1, 1) := by decide +kernel
theorem dS_parentOf_6 : decode cS_parentOf 6 = .ok (.iconst 1, 1) := by decide +kernel
theorem dS_parentOf_7 : decode cS_parentOf 7 = .ok (.isub, 1) := by decide +kernel
theorem dS_parentOf_8 : decode cS_parentOf 8 = .ok (.istore_n 3, 1) := by decide +kernel
theorem dS_parentOf_9 : decode cS_parentOf 9 = .ok (.iload_n 3, 1) := by decide +kernel
theorem dS_parentOf_10 : decode cS_parentOf 10 = .ok (.ifCond .lt 29, 3) := by decide +kernel
theorem dS_parentOf_13 : decode cS_parentOf 13 = .ok (.iload_n 2, 1) := by decide +kernel
theorem dS_parentOf_14 : decode cS_parentOf 14 = .ok (.ifCond .lt 19, 3) := by decide +kernel
theorem dS_parentOf_17 : decode cS_parentOf 17 = .ok (.iload_n 3, 1) := by decide +kernel
theorem dS_parentOf_18 : decode cS_parentOf 18 = .ok (.aload_n 0, 1) := by decide +kernel
theorem dS_parentOf_19 : decode cS_parentOf 19 = .ok (.getfield 22, 3) := by decide +kernel
theorem dS_parentOf_22 : decode cS_parentOf 22 = .ok (.iload_n 2, 1) := by decide +kernel
theorem dS_parentOf_23 : decode cS_parentOf 23 = .ok (.iload_n 3, 1) := by decide +kernel
theorem dS_parentOf_24 : decode cS_parentOf 24 = .ok (.iadd, 1) := by decide +kernel
theorem dS_parentOf_25 : decode cS_parentOf 25 = .ok (.iaload, 1) := by decide +kernel
theorem dS_parentOf_26 : decode cS_parentOf 26 = .ok (.iadd, 1) := by decide +kernel
theorem dS_parentOf_27 : decode cS_parentOf 27 = .ok (.iload_n 1, 1) := by decide +kernel
theorem dS_parentOf_28 : decode cS_parentOf 28 = .ok (.if_icmp .le 5, 3) := by decide +kernel
theorem dS_parentOf_31 : decode cS_parentOf 31 = .ok (.iload_n 3, 1) := by decide +kernel
theorem dS_parentOf_32 : decode cS_parentOf 32 = .ok (.ireturn, 1) := by decide +kernel
theorem dS_parentOf_33 : decode cS_parentOf 33 = .ok (.iinc 3 (-1), 3) := by decide +kernel
theorem dS_parentOf_36 : decode cS_parentOf 36 = .ok (.goto (-27), 3) := by decide +kernel
theorem dS_parentOf_39 : decode cS_parentOf 39 = .ok (.iconst (-1), 1) := by decide +kernel
theorem dS_parentOf_40 : decode cS_parentOf 40 = .ok (.ireturn, 1) := by decide +kernel
theorem dS_byteCount_0 : decode cS_byteCount 0 = .ok (.aload_n 0, 1) := by decide +kernel
theorem dS_byteCount_1 : decode cS_byteCount 1 = .ok (.getfield 9, 3) := by decide +kernel
theorem dS_byteCount_4 : decode cS_byteCount 4 = .ok (.iload_n 1, 1) := by decide +kernel
theorem dS_byteCount_5 : decode cS_byteCount 5 = .ok (.iaload, 1) := by decide +kernel
theorem dS_byteCount_6 : decode cS_byteCount 6 = .ok (.bipush 8, 2) := by decide +kernel
theorem dS_byteCount_8 : decode cS_byteCount 8 = .ok (.if_icmp .ne 13, 3) := by decide +kernel
theorem dS_byteCount_11 : decode cS_byteCount 11 = .ok (.aload_n 0, 1) := by decide +kernel
theorem dS_byteCount_12 : decode cS_byteCount 12 = .ok (.getfield 15, 3) := by decide +kernel
theorem dS_byteCount_15 : decode cS_byteCount 15 = .ok (.iload_n 1, 1) := by decide +kernel
theorem dS_byteCount_16 : decode cS_byteCount 16 = .ok (.laload, 1) := by decide +kernel
theorem dS_byteCount_17 : decode cS_byteCount 17 = .ok (.l2i, 1) := by decide +kernel
theorem dS_byteCount_18 : decode cS_byteCount 18 = .ok (.goto 4, 3) := by decide +kernel
theorem dS_byteCount_21 : decode cS_byteCount 21 = .ok (.iconst (-1), 1) := by decide +kernel
theorem dS_byteCount_22 : decode cS_byteCount 22 = .ok (.ireturn, 1) := by decide +kernel
theorem dS_byteIn_0 : decode cS_byteIn 0 = .ok (.aload_n 0, 1) := by decide +kernel
theorem dS_byteIn_1 : decode cS_byteIn 1 = .ok (.getfield 19, 3) := by decide +kernel
theorem dS_byteIn_4 : decode cS_byteIn 4 = .ok (.iload_n 1, 1) := by decide +kernel
theorem dS_byteIn_5 : decode cS_byteIn 5 = .ok (.bipush 8, 2) := by decide +kernel
theorem dS_byteIn_7 : decode cS_byteIn 7 = .ok (.imul, 1) := by decide +kernel
theorem dS_byteIn_8 : decode cS_byteIn 8 = .ok (.iload_n 2, 1) := by decide +kernel
theorem dS_byteIn_9 : decode cS_byteIn 9 = .ok (.bipush 8, 2) := by decide +kernel
theorem dS_byteIn_11 : decode cS_byteIn 11 = .ok (.idiv, 1) := by decide +kernel
theorem dS_byteIn_12 : decode cS_byteIn 12 = .ok (.iadd, 1) := by decide +kernel
theorem dS_byteIn_13 : decode cS_byteIn 13 = .ok (.laload, 1) := by decide +kernel
theorem dS_byteIn_14 : decode cS_byteIn 14 = .ok (.bipush 7, 2) := by decide +kernel
theorem dS_byteIn_16 : decode cS_byteIn 16 = .ok (.iload_n 2, 1) := by decide +kernel
theorem dS_byteIn_17 : decode cS_byteIn 17 = .ok (.bipush 8, 2) := by decide +kernel
theorem dS_byteIn_19 : decode cS_byteIn 19 = .ok (.irem, 1) := by decide +kernel
theorem dS_byteIn_20 : decode cS_byteIn 20 = .ok (.isub, 1) := by decide +kernel
theorem dS_byteIn_21 : decode cS_byteIn 21 = .ok (.invokestatic 48, 3) := by decide +kernel
theorem dS_byteIn_24 : decode cS_byteIn 24 = .ok (.ireturn, 1) := by decide +kernel
theorem dS_setByte_0 : decode cS_setByte 0 = .ok (.iload_n 1, 1) := by decide +kernel
theorem dS_setByte_1 : decode cS_setByte 1 = .ok (.bipush 8, 2) := by decide +kernel
theorem dS_setByte_3 : decode cS_setByte 3 = .ok (.imul, 1) := by decide +kernel
theorem dS_setByte_4 : decode cS_setByte 4 = .ok (.iload_n 2, 1) := by decide +kernel
theorem dS_setByte_5 : decode cS_setByte 5 = .ok (.bipush 8, 2) := by decide +kernel
theorem dS_setByte_7 : decode cS_setByte 7 = .ok (.idiv, 1) := by decide +kernel
theorem dS_setByte_8 : decode cS_setByte 8 = .ok (.iadd, 1) := by decide +kernel
theorem dS_setByte_9 : decode cS_setByte 9 = .ok (.istore 4, 2) := by decide +kernel
theorem dS_setByte_11 : decode cS_setByte 11 = .ok (.bipush 8, 2) := by decide +kernel
theorem dS_setByte_13 : decode cS_setByte 13 = .ok (.bipush 7, 2) := by decide +kernel
theorem dS_setByte_15 : decode cS_setByte 15 = .ok (.iload_n 2, 1) := by decide +kernel
theorem dS_setByte_16 : decode cS_setByte 16 = .ok (.bipush 8, 2) := by decide +kernel
theorem dS_setByte_18 : decode cS_setByte 18 = .ok (.irem, 1) := by decide +kernel
theorem dS_setByte_19 : decode cS_setByte 19 = .ok (.isub, 1) := by decide +kernel
theorem dS_setByte_20 : decode cS_setByte 20 = .ok (.imul, 1) := by decide +kernel
theorem dS_setByte_21 : decode cS_setByte 21 = .ok (.istore 5, 2) := by decide +kernel
theorem dS_setByte_23 : decode cS_setByte 23 = .ok (.aload_n 0, 1) := by decide +kernel
theorem dS_setByte_24 : decode cS_setByte 24 = .ok (.getfield 19, 3) := by decide +kernel
theorem dS_setByte_27 : decode cS_setByte 27 = .ok (.iload 4, 2) := by decide +kernel
theorem dS_setByte_29 : decode cS_setByte 29 = .ok (.aload_n 0, 1) := by decide +kernel
theorem dS_setByte_30 : decode cS_setByte 30 = .ok (.getfield 19, 3) := by decide +kernel
theorem dS_setByte_33 : decode cS_setByte 33 = .ok (.iload 4, 2) := by decide +kernel
theorem dS_setByte_35 : decode cS_setByte 35 = .ok (.laload, 1) := by decide +kernel
theorem dS_setByte_36 : decode cS_setByte 36 = .ok (.ldc2_w 54, 3) := by decide +kernel
theorem dS_setByte_39 : decode cS_setByte 39 = .ok (.iload 5, 2) := by decide +kernel
theorem dS_setByte_41 : decode cS_setByte 41 = .ok (.lshl, 1) := by decide +kernel
theorem dS_setByte_42 : decode cS_setByte 42 = .ok (.ldc2_w 56, 3) := by decide +kernel
theorem dS_setByte_45 : decode cS_setByte 45 = .ok (.lxor, 1) := by decide +kernel
theorem dS_setByte_46 : decode cS_setByte 46 = .ok (.land, 1) := by decide +kernel
theorem dS_setByte_47 : decode cS_setByte 47 = .ok (.iload_n 3, 1) := by decide +kernel
theorem dS_setByte_48 : decode cS_setByte 48 = .ok (.i2l, 1) := by decide +kernel
theorem dS_setByte_49 : decode cS_setByte 49 = .ok (.iload 5, 2) := by decide +kernel
theorem dS_setByte_51 : decode cS_setByte 51 = .ok (.lshl, 1) := by decide +kernel
theorem dS_setByte_52 : decode cS_setByte 52 = .ok (.lor, 1) := by decide +kernel
theorem dS_setByte_53 : decode cS_setByte 53 = .ok (.lastore, 1) := by decide +kernel
theorem dS_setByte_54 : decode cS_setByte 54 = .ok (.return_, 1) := by decide +kernel
theorem dS_setNode_0 : decode cS_setNode 0 = .ok (.aload_n 0, 1) := by decide +kernel
theorem dS_setNode_1 : decode cS_setNode 1 = .ok (.getfield 9, 3) := by decide +kernel
theorem dS_setNode_4 : decode cS_setNode 4 = .ok (.iload_n 1, 1) := by decide +kernel
theorem dS_setNode_5 : decode cS_setNode 5 = .ok (.iload_n 2, 1) := by decide +kernel
theorem dS_setNode_6 : decode cS_setNode 6 = .ok (.iastore, 1) := by decide +kernel
theorem dS_setNode_7 : decode cS_setNode 7 = .ok (.aload_n 0, 1) := by decide +kernel
theorem dS_setNode_8 : decode cS_setNode 8 = .ok (.getfield 15, 3) := by decide +kernel
theorem dS_setNode_11 : decode cS_setNode 11 = .ok (.iload_n 1, 1) := by decide +kernel
theorem dS_setNode_12 : decode cS_setNode 12 = .ok (.lload_n 3, 1) := by decide +kernel
theorem dS_setNode_13 : decode cS_setNode 13 = .ok (.lastore, 1) := by decide +kernel
theorem dS_setNode_14 : decode cS_setNode 14 = .ok (.return_, 1) := by decide +kernel
theorem dS_put_0 : decode cS_put 0 = .ok (.iload_n 1, 1) := by decide +kernel
theorem dS_put_1 : decode cS_put 1 = .ok (.invokestatic 58, 3) := by decide +kernel
theorem dS_put_4 : decode cS_put 4 = .ok (.istore 4, 2) := by decide +kernel
theorem dS_put_6 : decode cS_put 6 = .ok (.aload_n 0, 1) := by decide +kernel
theorem dS_put_7 : decode cS_put 7 = .ok (.getfield 37, 3) := by decide +kernel
theorem dS_put_10 : decode cS_put 10 = .ok (.iload 4, 2) := by decide +kernel
theorem dS_put_12 : decode cS_put 12 = .ok (.if_icmp .lt 13, 3) := by decide +kernel
theorem dS_put_15 : decode cS_put 15 = .ok (.aload_n 0, 1) := by decide +kernel
theorem dS_put_16 : decode cS_put 16 = .ok (.getfield 41, 3) := by decide +kernel
theorem dS_put_19 : decode cS_put 19 = .ok (.sipush 200, 3) := by decide +kernel
theorem dS_put_22 : decode cS_put 22 = .ok (.if_icmp .lt 5, 3) := by decide +kernel
theorem dS_put_25 : decode cS_put 25 = .ok (.iconst 0, 1) := by decide +kernel
theorem dS_put_26 : decode cS_put 26 = .ok (.ireturn, 1) := by decide +kernel
theorem dS_put_27 : decode cS_put 27 = .ok (.aload_n 0, 1) := by decide +kernel
theorem dS_put_28 : decode cS_put 28 = .ok (.getfield 37, 3) := by decide +kernel
theorem dS_put_31 : decode cS_put 31 = .ok (.iload 4, 2) := by decide +kernel
theorem dS_put_33 : decode cS_put 33 = .ok (.isub, 1) := by decide +kernel
theorem dS_put_34 : decode cS_put 34 = .ok (.istore 5, 2) := by decide +kernel
theorem dS_put_36 : decode cS_put 36 = .ok (.iload 5, 2) := by decide +kernel
theorem dS_put_38 : decode cS_put 38 = .ok (.aload_n 0, 1) := by decide +kernel
theorem dS_put_39 : decode cS_put 39 = .ok (.getfield 37, 3) := by decide +kernel
theorem dS_put_42 : decode cS_put 42 = .ok (.if_icmp .ge 28, 3) := by decide +kernel
theorem dS_put_45 : decode cS_put 45 = .ok (.aload_n 0, 1) := by decide +kernel
theorem dS_put_46 : decode cS_put 46 = .ok (.getfield 25, 3) := by decide +kernel
theorem dS_put_49 : decode cS_put 49 = .ok (.aload_n 0, 1) := by decide +kernel
theorem dS_put_50 : decode cS_put 50 = .ok (.getfield 34, 3) := by decide +kernel
theorem dS_put_53 : decode cS_put 53 = .ok (.iload 5, 2) := by decide +kernel
theorem dS_put_55 : decode cS_put 55 = .ok (.iaload, 1) := by decide +kernel
theorem dS_put_56 : decode cS_put 56 = .ok (.iaload, 1) := by decide +kernel
theorem dS_put_57 : decode cS_put 57 = .ok (.bipush 60, 2) := by decide +kernel
theorem dS_put_59 : decode cS_put 59 = .ok (.if_icmp .lt 5, 3) := by decide +kernel
theorem dS_put_62 : decode cS_put 62 = .ok (.iconst 0, 1) := by decide +kernel
theorem dS_put_63 : decode cS_put 63 = .ok (.ireturn, 1) := by decide +kernel
theorem dS_put_64 : decode cS_put 64 = .ok (.iinc 5 1, 3) := by decide +kernel
theorem dS_put_67 : decode cS_put 67 = .ok (.goto (-31), 3) := by decide +kernel
theorem dS_put_70 : decode cS_put 70 = .ok (.iload 4, 2) := by decide +kernel
theorem dS_put_72 : decode cS_put 72 = .ok (.ifCond .ne 10, 3) := by decide +kernel
theorem dS_put_75 : decode cS_put 75 = .ok (.aload_n 0, 1) := by decide +kernel
theorem dS_put_76 : decode cS_put 76 = .ok (.getfield 41, 3) := by decide +kernel
theorem dS_put_79 : decode cS_put 79 = .ok (.goto 15, 3) := by decide +kernel
theorem dS_put_82 : decode cS_put 82 = .ok (.aload_n 0, 1) := by decide +kernel
theorem dS_put_83 : decode cS_put 83 = .ok (.getfield 34, 3) := by decide +kernel
theorem dS_put_86 : decode cS_put 86 = .ok (.aload_n 0, 1) := by decide +kernel
theorem dS_put_87 : decode cS_put 87 = .ok (.getfield 37, 3) := by decide +kernel
theorem dS_put_90 : decode cS_put 90 = .ok (.iload 4, 2) := by decide +kernel
theorem dS_put_92 : decode cS_put 92 = .ok (.isub, 1) := by decide +kernel
theorem dS_put_93 : decode cS_put 93 = .ok (.iaload, 1) := by decide +kernel
theorem dS_put_94 : decode cS_put 94 = .ok (.istore 5, 2) := by decide +kernel
theorem dS_put_96 : decode cS_put 96 = .ok (.aload_n 0, 1) := by decide +kernel
theorem dS_put_97 : decode cS_put 97 = .ok (.iload 5, 2) := by decide +kernel
theorem dS_put_99 : decode cS_put 99 = .ok (.iload 5, 2) := by decide +kernel
theorem dS_put_101 : decode cS_put 101 = .ok (.iconst 1, 1) := by decide +kernel
theorem dS_put_102 : decode cS_put 102 = .ok (.iadd, 1) := by decide +kernel
theorem dS_put_103 : decode cS_put 103 = .ok (.aload_n 0, 1) := by decide +kernel
theorem dS_put_104 : decode cS_put 104 = .ok (.getfield 41, 3) := by decide +kernel
theorem dS_put_107 : decode cS_put 107 = .ok (.iload 5, 2) := by decide +kernel
theorem dS_put_109 : decode cS_put 109 = .ok (.isub, 1) := by decide +kernel
theorem dS_put_110 : decode cS_put 110 = .ok (.invokevirtual 62, 3) := by decide +kernel
theorem dS_put_113 : decode cS_put 113 = .ok (.aload_n 0, 1) := by decide +kernel
theorem dS_put_114 : decode cS_put 114 = .ok (.iload 5, 2) := by decide +kernel
theorem dS_put_116 : decode cS_put 116 = .ok (.iload_n 1, 1) := by decide +kernel
theorem dS_put_117 : decode cS_put 117 = .ok (.lload_n 2, 1) := by decide +kernel
theorem dS_put_118 : decode cS_put 118 = .ok (.invokevirtual 66, 3) := by decide +kernel
theorem dS_put_121 : decode cS_put 121 = .ok (.aload_n 0, 1) := by decide +kernel
theorem dS_put_122 : decode cS_put 122 = .ok (.iload 5, 2) := by decide +kernel
theorem dS_put_124 : decode cS_put 124 = .ok (.invokevirtual 70, 3) := by decide +kernel
theorem dS_put_127 : decode cS_put 127 = .ok (.aload_n 0, 1) := by decide +kernel
theorem dS_put_128 : decode cS_put 128 = .ok (.dup, 1) := by decide +kernel
theorem dS_put_129 : decode cS_put 129 = .ok (.getfield 41, 3) := by decide +kernel
theorem dS_put_132 : decode cS_put 132 = .ok (.iconst 1, 1) := by decide +kernel
theorem dS_put_133 : decode cS_put 133 = .ok (.iadd, 1) := by decide +kernel
theorem dS_put_134 : decode cS_put 134 = .ok (.putfield 41, 3) := by decide +kernel
theorem dS_put_137 : decode cS_put 137 = .ok (.aload_n 0, 1) := by decide +kernel
theorem dS_put_138 : decode cS_put 138 = .ok (.aload_n 0, 1) := by decide +kernel
theorem dS_put_139 : decode cS_put 139 = .ok (.getfield 37, 3) := by decide +kernel
theorem dS_put_142 : decode cS_put 142 = .ok (.iload 4, 2) := by decide +kernel
theorem dS_put_144 : decode cS_put 144 = .ok (.isub, 1) := by decide +kernel
theorem dS_put_145 : decode cS_put 145 = .ok (.iconst 1, 1) := by decide +kernel
theorem dS_put_146 : decode cS_put 146 = .ok (.iadd, 1) := by decide +kernel
theorem dS_put_147 : decode cS_put 147 = .ok (.putfield 37, 3) := by decide +kernel
theorem dS_put_150 : decode cS_put 150 = .ok (.aload_n 0, 1) := by decide +kernel
theorem dS_put_151 : decode cS_put 151 = .ok (.getfield 34, 3) := by decide +kernel
theorem dS_put_154 : decode cS_put 154 = .ok (.aload_n 0, 1) := by decide +kernel
theorem dS_put_155 : decode cS_put 155 = .ok (.getfield 37, 3) := by decide +kernel
theorem dS_put_158 : decode cS_put 158 = .ok (.iconst 1, 1) := by decide +kernel
theorem dS_put_159 : decode cS_put 159 = .ok (.isub, 1) := by decide +kernel
theorem dS_put_160 : decode cS_put 160 = .ok (.iload 5, 2) := by decide +kernel
theorem dS_put_162 : decode cS_put 162 = .ok (.iastore, 1) := by decide +kernel
theorem dS_put_163 : decode cS_put 163 = .ok (.iconst 1, 1) := by decide +kernel
theorem dS_put_164 : decode cS_put 164 = .ok (.ireturn, 1) := by decide +kernel
theorem dS_extend_0 : decode cS_extend 0 = .ok (.aload_n 0, 1) := by decide +kernel
theorem dS_extend_1 : decode cS_extend 1 = .ok (.invokevirtual 44, 3) := by decide +kernel
theorem dS_extend_4 : decode cS_extend 4 = .ok (.istore 4, 2) := by decide +kernel
theorem dS_extend_6 : decode cS_extend 6 = .ok (.iload 4, 2) := by decide +kernel
theorem dS_extend_8 : decode cS_extend 8 = .ok (.ifCond .lt 28, 3) := by decide +kernel
theorem dS_extend_11 : decode cS_extend 11 = .ok (.aload_n 0, 1) := by decide +kernel
theorem dS_extend_12 : decode cS_extend 12 = .ok (.getfield 9, 3) := by decide +kernel
theorem dS_extend_15 : decode cS_extend 15 = .ok (.iload 4, 2) := by decide +kernel
theorem dS_extend_17 : decode cS_extend 17 = .ok (.iaload, 1) := by decide +kernel
theorem dS_extend_18 : decode cS_extend 18 = .ok (.bipush 8, 2) := by decide +kernel
theorem dS_extend_20 : decode cS_extend 20 = .ok (.if_icmp .ne 16, 3) := by decide +kernel
theorem dS_extend_23 : decode cS_extend 23 = .ok (.iload_n 3, 1) := by decide +kernel
theorem dS_extend_24 : decode cS_extend 24 = .ok (.bipush 64, 2) := by decide +kernel
theorem dS_extend_26 : decode cS_extend 26 = .ok (.aload_n 0, 1) := by decide +kernel
theorem dS_extend_27 : decode cS_extend 27 = .ok (.iload 4, 2) := by decide +kernel
theorem dS_extend_29 : decode cS_extend 29 = .ok (.invokevirtual 74, 3) := by decide +kernel
theorem dS_extend_32 : decode cS_extend 32 = .ok (.isub, 1) := by decide +kernel
theorem dS_extend_33 : decode cS_extend 33 = .ok (.if_icmp .le 5, 3) := by decide +kernel
theorem dS_extend_36 : decode cS_extend 36 = .ok (.iconst 0, 1) := by decide +kernel
theorem dS_extend_37 : decode cS_extend 37 = .ok (.ireturn, 1) := by decide +kernel
theorem dS_extend_38 : decode cS_extend 38 = .ok (.aload_n 0, 1) := by decide +kernel
theorem dS_extend_39 : decode cS_extend 39 = .ok (.iload 4, 2) := by decide +kernel
theorem dS_extend_41 : decode cS_extend 41 = .ok (.invokevirtual 74, 3) := by decide +kernel
theorem dS_extend_44 : decode cS_extend 44 = .ok (.istore 5, 2) := by decide +kernel
theorem dS_extend_46 : decode cS_extend 46 = .ok (.iconst 0, 1) := by decide +kernel
theorem dS_extend_47 : decode cS_extend 47 = .ok (.istore 6, 2) := by decide +kernel
theorem dS_extend_49 : decode cS_extend 49 = .ok (.iload 6, 2) := by decide +kernel
theorem dS_extend_51 : decode cS_extend 51 = .ok (.iload_n 3, 1) := by decide +kernel
theorem dS_extend_52 : decode cS_extend 52 = .ok (.if_icmp .ge 30, 3) := by decide +kernel
theorem dS_extend_55 : decode cS_extend 55 = .ok (.aload_n 0, 1) := by decide +kernel
theorem dS_extend_56 : decode cS_extend 56 = .ok (.iload 4, 2) := by decide +kernel
theorem dS_extend_58 : decode cS_extend 58 = .ok (.iload 5, 2) := by decide +kernel
theorem dS_extend_60 : decode cS_extend 60 = .ok (.iload 6, 2) := by decide +kernel
theorem dS_extend_62 : decode cS_extend 62 = .ok (.iadd, 1) := by decide +kernel
theorem dS_extend_63 : decode cS_extend 63 = .ok (.lload_n 1, 1) := by decide +kernel
theorem dS_extend_64 : decode cS_extend 64 = .ok (.iload_n 3, 1) := by decide +kernel
theorem dS_extend_65 : decode cS_extend 65 = .ok (.iconst 1, 1) := by decide +kernel
theorem dS_extend_66 : decode cS_extend 66 = .ok (.isub, 1) := by decide +kernel
theorem dS_extend_67 : decode cS_extend 67 = .ok (.iload 6, 2) := by decide +kernel
theorem dS_extend_69 : decode cS_extend 69 = .ok (.isub, 1) := by decide +kernel
theorem dS_extend_70 : decode cS_extend 70 = .ok (.invokestatic 48, 3) := by decide +kernel
theorem dS_extend_73 : decode cS_extend 73 = .ok (.invokevirtual 77, 3) := by decide +kernel
theorem dS_extend_76 : decode cS_extend 76 = .ok (.iinc 6 1, 3) := by decide +kernel
theorem dS_extend_79 : decode cS_extend 79 = .ok (.goto (-30), 3) := by decide +kernel
theorem dS_extend_82 : decode cS_extend 82 = .ok (.aload_n 0, 1) := by decide +kernel
theorem dS_extend_83 : decode cS_extend 83 = .ok (.getfield 15, 3) := by decide +kernel
theorem dS_extend_86 : decode cS_extend 86 = .ok (.iload 4, 2) := by decide +kernel
theorem dS_extend_88 : decode cS_extend 88 = .ok (.iload 5, 2) := by decide +kernel
theorem dS_extend_90 : decode cS_extend 90 = .ok (.iload_n 3, 1) := by decide +kernel
theorem dS_extend_91 : decode cS_extend 91 = .ok (.iadd, 1) := by decide +kernel
theorem dS_extend_92 : decode cS_extend 92 = .ok (.i2l, 1) := by decide +kernel
theorem dS_extend_93 : decode cS_extend 93 = .ok (.lastore, 1) := by decide +kernel
theorem dS_extend_94 : decode cS_extend 94 = .ok (.aload_n 0, 1) := by decide +kernel
theorem dS_extend_95 : decode cS_extend 95 = .ok (.iload 4, 2) := by decide +kernel
theorem dS_extend_97 : decode cS_extend 97 = .ok (.invokevirtual 70, 3) := by decide +kernel
theorem dS_extend_100 : decode cS_extend 100 = .ok (.iconst 1, 1) := by decide +kernel
theorem dS_extend_101 : decode cS_extend 101 = .ok (.ireturn, 1) := by decide +kernel
theorem dS_removeLast_0 : decode cS_removeLast 0 = .ok (.aload_n 0, 1) := by decide +kernel
theorem dS_removeLast_1 : decode cS_removeLast 1 = .ok (.invokevirtual 44, 3) := by decide +kernel
theorem dS_removeLast_4 : decode cS_removeLast 4 = .ok (.istore_n 1, 1) := by decide +kernel
theorem dS_removeLast_5 : decode cS_removeLast 5 = .ok (.iload_n 1, 1) := by decide +kernel
theorem dS_removeLast_6 : decode cS_removeLast 6 = .ok (.ifCond .ge 5, 3) := by decide +kernel
theorem dS_removeLast_9 : decode cS_removeLast 9 = .ok (.iconst 0, 1) := by decide +kernel
theorem dS_removeLast_10 : decode cS_removeLast 10 = .ok (.ireturn, 1) := by decide +kernel
theorem dS_removeLast_11 : decode cS_removeLast 11 = .ok (.aload_n 0, 1) := by decide +kernel
theorem dS_removeLast_12 : decode cS_removeLast 12 = .ok (.iload_n 1, 1) := by decide +kernel
theorem dS_removeLast_13 : decode cS_removeLast 13 = .ok (.putfield 41, 3) := by decide +kernel
theorem dS_removeLast_16 : decode cS_removeLast 16 = .ok (.aload_n 0, 1) := by decide +kernel
theorem dS_removeLast_17 : decode cS_removeLast 17 = .ok (.dup, 1) := by decide +kernel
theorem dS_removeLast_18 : decode cS_removeLast 18 = .ok (.getfield 37, 3) := by decide +kernel
theorem dS_removeLast_21 : decode cS_removeLast 21 = .ok (.iconst 1, 1) := by decide +kernel
theorem dS_removeLast_22 : decode cS_removeLast 22 = .ok (.isub, 1) := by decide +kernel
theorem dS_removeLast_23 : decode cS_removeLast 23 = .ok (.putfield 37, 3) := by decide +kernel
theorem dS_removeLast_26 : decode cS_removeLast 26 = .ok (.iconst 1, 1) := by decide +kernel
theorem dS_removeLast_27 : decode cS_removeLast 27 = .ok (.ireturn, 1) := by decide +kernel
theorem dS_repeatLast_0 : decode cS_repeatLast 0 = .ok (.aload_n 0, 1) := by decide +kernel
theorem dS_repeatLast_1 : decode cS_repeatLast 1 = .ok (.invokevirtual 44, 3) := by decide +kernel
theorem dS_repeatLast_4 : decode cS_repeatLast 4 = .ok (.istore_n 1, 1) := by decide +kernel
theorem dS_repeatLast_5 : decode cS_repeatLast 5 = .ok (.iload_n 1, 1) := by decide +kernel
theorem dS_repeatLast_6 : decode cS_repeatLast 6 = .ok (.ifCond .lt 20, 3) := by decide +kernel
theorem dS_repeatLast_9 : decode cS_repeatLast 9 = .ok (.aload_n 0, 1) := by decide +kernel
theorem dS_repeatLast_10 : decode cS_repeatLast 10 = .ok (.getfield 22, 3) := by decide +kernel
theorem dS_repeatLast_13 : decode cS_repeatLast 13 = .ok (.iload_n 1, 1) := by decide +kernel
theorem dS_repeatLast_14 : decode cS_repeatLast 14 = .ok (.iaload, 1) := by decide +kernel
theorem dS_repeatLast_15 : decode cS_repeatLast 15 = .ok (.sipush 200, 3) := by decide +kernel
theorem dS_repeatLast_18 : decode cS_repeatLast 18 = .ok (.aload_n 0, 1) := by decide +kernel
theorem dS_repeatLast_19 : decode cS_repeatLast 19 = .ok (.getfield 41, 3) := by decide +kernel
theorem dS_repeatLast_22 : decode cS_repeatLast 22 = .ok (.isub, 1) := by decide +kernel
theorem dS_repeatLast_23 : decode cS_repeatLast 23 = .ok (.if_icmp .le 5, 3) := by decide +kernel
theorem dS_repeatLast_26 : decode cS_repeatLast 26 = .ok (.iconst 0, 1) := by decide +kernel
theorem dS_repeatLast_27 : decode cS_repeatLast 27 = .ok (.ireturn, 1) := by decide +kernel
theorem dS_repeatLast_28 : decode cS_repeatLast 28 = .ok (.aload_n 0, 1) := by decide +kernel
theorem dS_repeatLast_29 : decode cS_repeatLast 29 = .ok (.iload_n 1, 1) := by decide +kernel
theorem dS_repeatLast_30 : decode cS_repeatLast 30 = .ok (.aload_n 0, 1) := by decide +kernel
theorem dS_repeatLast_31 : decode cS_repeatLast 31 = .ok (.getfield 41, 3) := by decide +kernel
theorem dS_repeatLast_34 : decode cS_repeatLast 34 = .ok (.aload_n 0, 1) := by decide +kernel
theorem dS_repeatLast_35 : decode cS_repeatLast 35 = .ok (.getfield 22, 3) := by decide +kernel
theorem dS_repeatLast_38 : decode cS_repeatLast 38 = .ok (.iload_n 1, 1) := by decide +kernel
theorem dS_repeatLast_39 : decode cS_repeatLast 39 = .ok (.iaload, 1) := by decide +kernel
theorem dS_repeatLast_40 : decode cS_repeatLast 40 = .ok (.invokevirtual 62, 3) := by decide +kernel
theorem dS_repeatLast_43 : decode cS_repeatLast 43 = .ok (.aload_n 0, 1) := by decide +kernel
theorem dS_repeatLast_44 : decode cS_repeatLast 44 = .ok (.aload_n 0, 1) := by decide +kernel
theorem dS_repeatLast_45 : decode cS_repeatLast 45 = .ok (.getfield 41, 3) := by decide +kernel
theorem dS_repeatLast_48 : decode cS_repeatLast 48 = .ok (.invokevirtual 80, 3) := by decide +kernel
theorem dS_repeatLast_51 : decode cS_repeatLast 51 = .ok (.aload_n 0, 1) := by decide +kernel
theorem dS_repeatLast_52 : decode cS_repeatLast 52 = .ok (.dup, 1) := by decide +kernel
theorem dS_repeatLast_53 : decode cS_repeatLast 53 = .ok (.getfield 41, 3) := by decide +kernel
theorem dS_repeatLast_56 : decode cS_repeatLast 56 = .ok (.aload_n 0, 1) := by decide +kernel
theorem dS_repeatLast_57 : decode cS_repeatLast 57 = .ok (.getfield 22, 3) := by decide +kernel
theorem dS_repeatLast_60 : decode cS_repeatLast 60 = .ok (.iload_n 1, 1) := by decide +kernel
theorem dS_repeatLast_61 : decode cS_repeatLast 61 = .ok (.iaload, 1) := by decide +kernel
theorem dS_repeatLast_62 : decode cS_repeatLast 62 = .ok (.iadd, 1) := by decide +kernel
theorem dS_repeatLast_63 : decode cS_repeatLast 63 = .ok (.putfield 41, 3) := by decide +kernel
theorem dS_repeatLast_66 : decode cS_repeatLast 66 = .ok (.iconst 1, 1) := by decide +kernel
theorem dS_repeatLast_67 : decode cS_repeatLast 67 = .ok (.ireturn, 1) := by decide +kernel
theorem dS_openLast_0 : decode cS_openLast 0 = .ok (.aload_n 0, 1) := by decide +kernel
theorem dS_openLast_1 : decode cS_openLast 1 = .ok (.invokevirtual 44, 3) := by decide +kernel
theorem dS_openLast_4 : decode cS_openLast 4 = .ok (.istore_n 1, 1) := by decide +kernel
theorem dS_openLast_5 : decode cS_openLast 5 = .ok (.iload_n 1, 1) := by decide +kernel
theorem dS_openLast_6 : decode cS_openLast 6 = .ok (.ifCond .lt 15, 3) := by decide +kernel
theorem dS_openLast_9 : decode cS_openLast 9 = .ok (.aload_n 0, 1) := by decide +kernel
theorem dS_openLast_10 : decode cS_openLast 10 = .ok (.getfield 9, 3) := by decide +kernel
theorem dS_openLast_13 : decode cS_openLast 13 = .ok (.iload_n 1, 1) := by decide +kernel
theorem dS_openLast_14 : decode cS_openLast 14 = .ok (.iaload, 1) := by decide +kernel
theorem dS_openLast_15 : decode cS_openLast 15 = .ok (.invokestatic 58, 3) := by decide +kernel
theorem dS_openLast_18 : decode cS_openLast 18 = .ok (.ifCond .ne 5, 3) := by decide +kernel
theorem dS_openLast_21 : decode cS_openLast 21 = .ok (.iconst (-1), 1) := by decide +kernel
theorem dS_openLast_22 : decode cS_openLast 22 = .ok (.ireturn, 1) := by decide +kernel
theorem dS_openLast_23 : decode cS_openLast 23 = .ok (.aload_n 0, 1) := by decide +kernel
theorem dS_openLast_24 : decode cS_openLast 24 = .ok (.getfield 9, 3) := by decide +kernel
theorem dS_openLast_27 : decode cS_openLast 27 = .ok (.iload_n 1, 1) := by decide +kernel
theorem dS_openLast_28 : decode cS_openLast 28 = .ok (.iaload, 1) := by decide +kernel
theorem dS_openLast_29 : decode cS_openLast 29 = .ok (.invokestatic 58, 3) := by decide +kernel
theorem dS_openLast_32 : decode cS_openLast 32 = .ok (.istore_n 2, 1) := by decide +kernel
theorem dS_openLast_33 : decode cS_openLast 33 = .ok (.aload_n 0, 1) := by decide +kernel
theorem dS_openLast_34 : decode cS_openLast 34 = .ok (.iload_n 1, 1) := by decide +kernel
theorem dS_openLast_35 : decode cS_openLast 35 = .ok (.iconst 1, 1) := by decide +kernel
theorem dS_openLast_36 : decode cS_openLast 36 = .ok (.iadd, 1) := by decide +kernel
theorem dS_openLast_37 : decode cS_openLast 37 = .ok (.iload_n 1, 1) := by decide +kernel
theorem dS_openLast_38 : decode cS_openLast 38 = .ok (.aload_n 0, 1) := by decide +kernel
theorem dS_openLast_39 : decode cS_openLast 39 = .ok (.getfield 41, 3) := by decide +kernel
theorem dS_openLast_42 : decode cS_openLast 42 = .ok (.iload_n 1, 1) := by decide +kernel
theorem dS_openLast_43 : decode cS_openLast 43 = .ok (.isub, 1) := by decide +kernel
theorem dS_openLast_44 : decode cS_openLast 44 = .ok (.iconst 1, 1) := by decide +kernel
theorem dS_openLast_45 : decode cS_openLast 45 = .ok (.isub, 1) := by decide +kernel
theorem dS_openLast_46 : decode cS_openLast 46 = .ok (.invokevirtual 62, 3) := by decide +kernel
theorem dS_openLast_49 : decode cS_openLast 49 = .ok (.aload_n 0, 1) := by decide +kernel
theorem dS_openLast_50 : decode cS_openLast 50 = .ok (.dup, 1) := by decide +kernel
theorem dS_openLast_51 : decode cS_openLast 51 = .ok (.getfield 41, 3) := by decide +kernel
theorem dS_openLast_54 : decode cS_openLast 54 = .ok (.iconst 1, 1) := by decide +kernel
theorem dS_openLast_55 : decode cS_openLast 55 = .ok (.isub, 1) := by decide +kernel
theorem dS_openLast_56 : decode cS_openLast 56 = .ok (.putfield 41, 3) := by decide +kernel
theorem dS_openLast_59 : decode cS_openLast 59 = .ok (.aload_n 0, 1) := by decide +kernel
theorem dS_openLast_60 : decode cS_openLast 60 = .ok (.dup, 1) := by decide +kernel
theorem dS_openLast_61 : decode cS_openLast 61 = .ok (.getfield 37, 3) := by decide +kernel
theorem dS_openLast_64 : decode cS_openLast 64 = .ok (.iconst 1, 1) := by decide +kernel
theorem dS_openLast_65 : decode cS_openLast 65 = .ok (.isub, 1) := by decide +kernel
theorem dS_openLast_66 : decode cS_openLast 66 = .ok (.putfield 37, 3) := by decide +kernel
theorem dS_openLast_69 : decode cS_openLast 69 = .ok (.iload_n 1, 1) := by decide +kernel
theorem dS_openLast_70 : decode cS_openLast 70 = .ok (.istore_n 3, 1) := by decide +kernel
theorem dS_openLast_71 : decode cS_openLast 71 = .ok (.iconst 0, 1) := by decide +kernel
theorem dS_openLast_72 : decode cS_openLast 72 = .ok (.istore 4, 2) := by decide +kernel
theorem dS_openLast_74 : decode cS_openLast 74 = .ok (.iload 4, 2) := by decide +kernel
theorem dS_openLast_76 : decode cS_openLast 76 = .ok (.iload_n 2, 1) := by decide +kernel
theorem dS_openLast_77 : decode cS_openLast 77 = .ok (.if_icmp .ge 31, 3) := by decide +kernel
theorem dS_openLast_80 : decode cS_openLast 80 = .ok (.iload_n 3, 1) := by decide +kernel
theorem dS_openLast_81 : decode cS_openLast 81 = .ok (.aload_n 0, 1) := by decide +kernel
theorem dS_openLast_82 : decode cS_openLast 82 = .ok (.getfield 41, 3) := by decide +kernel
theorem dS_openLast_85 : decode cS_openLast 85 = .ok (.if_icmp .ge 23, 3) := by decide +kernel
theorem dS_openLast_88 : decode cS_openLast 88 = .ok (.aload_n 0, 1) := by decide +kernel
theorem dS_openLast_89 : decode cS_openLast 89 = .ok (.iload_n 3, 1) := by decide +kernel
theorem dS_openLast_90 : decode cS_openLast 90 = .ok (.invokevirtual 80, 3) := by decide +kernel
theorem dS_openLast_93 : decode cS_openLast 93 = .ok (.iload_n 3, 1) := by decide +kernel
theorem dS_openLast_94 : decode cS_openLast 94 = .ok (.aload_n 0, 1) := by decide +kernel
theorem dS_openLast_95 : decode cS_openLast 95 = .ok (.getfield 22, 3) := by decide +kernel
theorem dS_openLast_98 : decode cS_openLast 98 = .ok (.iload_n 3, 1) := by decide +kernel
theorem dS_openLast_99 : decode cS_openLast 99 = .ok (.iaload, 1) := by decide +kernel
theorem dS_openLast_100 : decode cS_openLast 100 = .ok (.iadd, 1) := by decide +kernel
theorem dS_openLast_101 : decode cS_openLast 101 = .ok (.istore_n 3, 1) := by decide +kernel
theorem dS_openLast_102 : decode cS_openLast 102 = .ok (.iinc 4 1, 3) := by decide +kernel
theorem dS_openLast_105 : decode cS_openLast 105 = .ok (.goto (-31), 3) := by decide +kernel
theorem dS_openLast_108 : decode cS_openLast 108 = .ok (.iload_n 2, 1) := by decide +kernel
theorem dS_openLast_109 : decode cS_openLast 109 = .ok (.ireturn, 1) := by decide +kernel
theorem dS_adopt_0 : decode cS_adopt 0 = .ok (.iload_n 1, 1) := by decide +kernel
theorem dS_adopt_1 : decode cS_adopt 1 = .ok (.iconst 1, 1) := by decide +kernel
theorem dS_adopt_2 : decode cS_adopt 2 = .ok (.isub, 1) := by decide +kernel
theorem dS_adopt_3 : decode cS_adopt 3 = .ok (.istore_n 2, 1) := by decide +kernel
theorem dS_adopt_4 : decode cS_adopt 4 = .ok (.iload_n 2, 1) := by decide +kernel
theorem dS_adopt_5 : decode cS_adopt 5 = .ok (.aload_n 0, 1) := by decide +kernel
theorem dS_adopt_6 : decode cS_adopt 6 = .ok (.getfield 41, 3) := by decide +kernel
theorem dS_adopt_9 : decode cS_adopt 9 = .ok (.if_icmp .lt 14, 3) := by decide +kernel
theorem dS_adopt_12 : decode cS_adopt 12 = .ok (.aload_n 0, 1) := by decide +kernel
theorem dS_adopt_13 : decode cS_adopt 13 = .ok (.iload_n 2, 1) := by decide +kernel
theorem dS_adopt_14 : decode cS_adopt 14 = .ok (.invokevirtual 70, 3) := by decide +kernel
theorem dS_adopt_17 : decode cS_adopt 17 = .ok (.iinc 2 (-1), 3) := by decide +kernel
theorem dS_adopt_20 : decode cS_adopt 20 = .ok (.goto (-16), 3) := by decide +kernel
theorem dS_adopt_23 : decode cS_adopt 23 = .ok (.aload_n 0, 1) := by decide +kernel
theorem dS_adopt_24 : decode cS_adopt 24 = .ok (.aload_n 0, 1) := by decide +kernel
theorem dS_adopt_25 : decode cS_adopt 25 = .ok (.getfield 41, 3) := by decide +kernel
theorem dS_adopt_28 : decode cS_adopt 28 = .ok (.invokevirtual 80, 3) := by decide +kernel
theorem dS_adopt_31 : decode cS_adopt 31 = .ok (.aload_n 0, 1) := by decide +kernel
theorem dS_adopt_32 : decode cS_adopt 32 = .ok (.iload_n 1, 1) := by decide +kernel
theorem dS_adopt_33 : decode cS_adopt 33 = .ok (.putfield 41, 3) := by decide +kernel
theorem dS_adopt_36 : decode cS_adopt 36 = .ok (.return_, 1) := by decide +kernel
theorem dS_lastTwoAlike_0 : decode cS_lastTwoAlike 0 = .ok (.aload_n 0, 1) := by decide +kernel
theorem dS_lastTwoAlike_1 : decode cS_lastTwoAlike 1 = .ok (.getfield 37, 3) := by decide +kernel
theorem dS_lastTwoAlike_4 : decode cS_lastTwoAlike 4 = .ok (.iconst 2, 1) := by decide +kernel
theorem dS_lastTwoAlike_5 : decode cS_lastTwoAlike 5 = .ok (.if_icmp .ge 5, 3) := by decide +kernel
theorem dS_lastTwoAlike_8 : decode cS_lastTwoAlike 8 = .ok (.iconst 0, 1) := by decide +kernel
theorem dS_lastTwoAlike_9 : decode cS_lastTwoAlike 9 = .ok (.ireturn, 1) := by decide +kernel
theorem dS_lastTwoAlike_10 : decode cS_lastTwoAlike 10 = .ok (.aload_n 0, 1) := by decide +kernel
theorem dS_lastTwoAlike_11 : decode cS_lastTwoAlike 11 = .ok (.getfield 34, 3) := by decide +kernel
theorem dS_lastTwoAlike_14 : decode cS_lastTwoAlike 14 = .ok (.aload_n 0, 1) := by decide +kernel
theorem dS_lastTwoAlike_15 : decode cS_lastTwoAlike 15 = .ok (.getfield 37, 3) := by decide +kernel
theorem dS_lastTwoAlike_18 : decode cS_lastTwoAlike 18 = .ok (.iconst 2, 1) := by decide +kernel
theorem dS_lastTwoAlike_19 : decode cS_lastTwoAlike 19 = .ok (.isub, 1) := by decide +kernel
theorem dS_lastTwoAlike_20 : decode cS_lastTwoAlike 20 = .ok (.iaload, 1) := by decide +kernel
theorem dS_lastTwoAlike_21 : decode cS_lastTwoAlike 21 = .ok (.istore_n 1, 1) := by decide +kernel
theorem dS_lastTwoAlike_22 : decode cS_lastTwoAlike 22 = .ok (.aload_n 0, 1) := by decide +kernel
theorem dS_lastTwoAlike_23 : decode cS_lastTwoAlike 23 = .ok (.getfield 34, 3) := by decide +kernel
theorem dS_lastTwoAlike_26 : decode cS_lastTwoAlike 26 = .ok (.aload_n 0, 1) := by decide +kernel
theorem dS_lastTwoAlike_27 : decode cS_lastTwoAlike 27 = .ok (.getfield 37, 3) := by decide +kernel
theorem dS_lastTwoAlike_30 : decode cS_lastTwoAlike 30 = .ok (.iconst 1, 1) := by decide +kernel
theorem dS_lastTwoAlike_31 : decode cS_lastTwoAlike 31 = .ok (.isub, 1) := by decide +kernel
theorem dS_lastTwoAlike_32 : decode cS_lastTwoAlike 32 = .ok (.iaload, 1) := by decide +kernel
theorem dS_lastTwoAlike_33 : decode cS_lastTwoAlike 33 = .ok (.istore_n 2, 1) := by decide +kernel
theorem dS_lastTwoAlike_34 : decode cS_lastTwoAlike 34 = .ok (.aload_n 0, 1) := by decide +kernel
theorem dS_lastTwoAlike_35 : decode cS_lastTwoAlike 35 = .ok (.getfield 22, 3) := by decide +kernel
theorem dS_lastTwoAlike_38 : decode cS_lastTwoAlike 38 = .ok (.iload_n 1, 1) := by decide +kernel
theorem dS_lastTwoAlike_39 : decode cS_lastTwoAlike 39 = .ok (.iaload, 1) := by decide +kernel
theorem dS_lastTwoAlike_40 : decode cS_lastTwoAlike 40 = .ok (.aload_n 0, 1) := by decide +kernel
theorem dS_lastTwoAlike_41 : decode cS_lastTwoAlike 41 = .ok (.getfield 22, 3) := by decide +kernel
theorem dS_lastTwoAlike_44 : decode cS_lastTwoAlike 44 = .ok (.iload_n 2, 1) := by decide +kernel
theorem dS_lastTwoAlike_45 : decode cS_lastTwoAlike 45 = .ok (.iaload, 1) := by decide +kernel
theorem dS_lastTwoAlike_46 : decode cS_lastTwoAlike 46 = .ok (.if_icmp .eq 5, 3) := by decide +kernel
theorem dS_lastTwoAlike_49 : decode cS_lastTwoAlike 49 = .ok (.iconst 0, 1) := by decide +kernel
theorem dS_lastTwoAlike_50 : decode cS_lastTwoAlike 50 = .ok (.ireturn, 1) := by decide +kernel
theorem dS_lastTwoAlike_51 : decode cS_lastTwoAlike 51 = .ok (.iconst 0, 1) := by decide +kernel
theorem dS_lastTwoAlike_52 : decode cS_lastTwoAlike 52 = .ok (.istore_n 3, 1) := by decide +kernel
theorem dS_lastTwoAlike_53 : decode cS_lastTwoAlike 53 = .ok (.iload_n 3, 1) := by decide +kernel
theorem dS_lastTwoAlike_54 : decode cS_lastTwoAlike 54 = .ok (.aload_n 0, 1) := by decide +kernel
theorem dS_lastTwoAlike_55 : decode cS_lastTwoAlike 55 = .ok (.getfield 22, 3) := by decide +kernel
theorem dS_lastTwoAlike_58 : decode cS_lastTwoAlike 58 = .ok (.iload_n 1, 1) := by decide +kernel
theorem dS_lastTwoAlike_59 : decode cS_lastTwoAlike 59 = .ok (.iaload, 1) := by decide +kernel
theorem dS_lastTwoAlike_60 : decode cS_lastTwoAlike 60 = .ok (.if_icmp .ge 24, 3) := by decide +kernel
theorem dS_lastTwoAlike_63 : decode cS_lastTwoAlike 63 = .ok (.aload_n 0, 1) := by decide +kernel
theorem dS_lastTwoAlike_64 : decode cS_lastTwoAlike 64 = .ok (.iload_n 1, 1) := by decide +kernel
theorem dS_lastTwoAlike_65 : decode cS_lastTwoAlike 65 = .ok (.iload_n 3, 1) := by decide +kernel
theorem dS_lastTwoAlike_66 : decode cS_lastTwoAlike 66 = .ok (.iadd, 1) := by decide +kernel
theorem dS_lastTwoAlike_67 : decode cS_lastTwoAlike 67 = .ok (.iload_n 2, 1) := by decide +kernel
theorem dS_lastTwoAlike_68 : decode cS_lastTwoAlike 68 = .ok (.iload_n 3, 1) := by decide +kernel
theorem dS_lastTwoAlike_69 : decode cS_lastTwoAlike 69 = .ok (.iadd, 1) := by decide +kernel
theorem dS_lastTwoAlike_70 : decode cS_lastTwoAlike 70 = .ok (.invokevirtual 83, 3) := by decide +kernel
theorem dS_lastTwoAlike_73 : decode cS_lastTwoAlike 73 = .ok (.ifCond .ne 5, 3) := by decide +kernel
theorem dS_lastTwoAlike_76 : decode cS_lastTwoAlike 76 = .ok (.iconst 0, 1) := by decide +kernel
theorem dS_lastTwoAlike_77 : decode cS_lastTwoAlike 77 = .ok (.ireturn, 1) := by decide +kernel
theorem dS_lastTwoAlike_78 : decode cS_lastTwoAlike 78 = .ok (.iinc 3 1, 3) := by decide +kernel
theorem dS_lastTwoAlike_81 : decode cS_lastTwoAlike 81 = .ok (.goto (-28), 3) := by decide +kernel
theorem dS_lastTwoAlike_84 : decode cS_lastTwoAlike 84 = .ok (.iconst 1, 1) := by decide +kernel
theorem dS_lastTwoAlike_85 : decode cS_lastTwoAlike 85 = .ok (.ireturn, 1) := by decide +kernel
theorem dS_appendNode_0 : decode cS_appendNode 0 = .ok (.aload_n 0, 1) := by decide +kernel
theorem dS_appendNode_1 : decode cS_appendNode 1 = .ok (.getfield 9, 3) := by decide +kernel
theorem dS_appendNode_4 : decode cS_appendNode 4 = .ok (.iload_n 1, 1) := by decide +kernel
theorem dS_appendNode_5 : decode cS_appendNode 5 = .ok (.iaload, 1) := by decide +kernel
theorem dS_appendNode_6 : decode cS_appendNode 6 = .ok (.istore_n 3, 1) := by decide +kernel
theorem dS_appendNode_7 : decode cS_appendNode 7 = .ok (.aload_n 0, 1) := by decide +kernel
theorem dS_appendNode_8 : decode cS_appendNode 8 = .ok (.getfield 15, 3) := by decide +kernel
theorem dS_appendNode_11 : decode cS_appendNode 11 = .ok (.iload_n 1, 1) := by decide +kernel
theorem dS_appendNode_12 : decode cS_appendNode 12 = .ok (.laload, 1) := by decide +kernel
theorem dS_appendNode_13 : decode cS_appendNode 13 = .ok (.lstore 4, 2) := by decide +kernel
theorem dS_appendNode_15 : decode cS_appendNode 15 = .ok (.aload_n 2, 1) := by decide +kernel
theorem dS_appendNode_16 : decode cS_appendNode 16 = .ok (.iload_n 3, 1) := by decide +kernel
theorem dS_appendNode_17 : decode cS_appendNode 17 = .ok (.invokevirtual 87, 3) := by decide +kernel
theorem dS_appendNode_20 : decode cS_appendNode 20 = .ok (.iload_n 3, 1) := by decide +kernel
theorem dS_appendNode_21 : decode cS_appendNode 21 = .ok (.ifCond .ne 17, 3) := by decide +kernel
theorem dS_appendNode_24 : decode cS_appendNode 24 = .ok (.aload_n 2, 1) := by decide +kernel
theorem dS_appendNode_25 : decode cS_appendNode 25 = .ok (.lload 4, 2) := by decide +kernel
theorem dS_appendNode_27 : decode cS_appendNode 27 = .ok (.lload 4, 2) := by decide +kernel
theorem dS_appendNode_29 : decode cS_appendNode 29 = .ok (.invokestatic 92, 3) := by decide +kernel
theorem dS_appendNode_32 : decode cS_appendNode 32 = .ok (.invokevirtual 96, 3) := by decide +kernel
theorem dS_appendNode_35 : decode cS_appendNode 35 = .ok (.goto 48, 3) := by decide +kernel
theorem dS_appendNode_38 : decode cS_appendNode 38 = .ok (.iload_n 3, 1) := by decide +kernel
theorem dS_appendNode_39 : decode cS_appendNode 39 = .ok (.bipush 7, 2) := by decide +kernel
theorem dS_appendNode_41 : decode cS_appendNode 41 = .ok (.if_icmp .ne 17, 3) := by decide +kernel
theorem dS_appendNode_44 : decode cS_appendNode 44 = .ok (.aload_n 2, 1) := by decide +kernel
theorem dS_appendNode_45 : decode cS_appendNode 45 = .ok (.lload 4, 2) := by decide +kernel
theorem dS_appendNode_47 : decode cS_appendNode 47 = .ok (.lload 4, 2) := by decide +kernel
theorem dS_appendNode_49 : decode cS_appendNode 49 = .ok (.invokestatic 100, 3) := by decide +kernel
theorem dS_appendNode_52 : decode cS_appendNode 52 = .ok (.invokevirtual 96, 3) := by decide +kernel
theorem dS_appendNode_55 : decode cS_appendNode 55 = .ok (.goto 28, 3) := by decide +kernel
theorem dS_appendNode_58 : decode cS_appendNode 58 = .ok (.iload_n 3, 1) := by decide +kernel
theorem dS_appendNode_59 : decode cS_appendNode 59 = .ok (.bipush 6, 2) := by decide +kernel
theorem dS_appendNode_61 : decode cS_appendNode 61 = .ok (.if_icmp .eq 15, 3) := by decide +kernel
theorem dS_appendNode_64 : decode cS_appendNode 64 = .ok (.iload_n 3, 1) := by decide +kernel
theorem dS_appendNode_65 : decode cS_appendNode 65 = .ok (.bipush 9, 2) := by decide +kernel
theorem dS_appendNode_67 : decode cS_appendNode 67 = .ok (.if_icmp .eq 9, 3) := by decide +kernel
theorem dS_appendNode_70 : decode cS_appendNode 70 = .ok (.iload_n 3, 1) := by decide +kernel
theorem dS_appendNode_71 : decode cS_appendNode 71 = .ok (.bipush 8, 2) := by decide +kernel
theorem dS_appendNode_73 : decode cS_appendNode 73 = .ok (.if_icmp .ne 10, 3) := by decide +kernel
theorem dS_appendNode_76 : decode cS_appendNode 76 = .ok (.aload_n 2, 1) := by decide +kernel
theorem dS_appendNode_77 : decode cS_appendNode 77 = .ok (.lload 4, 2) := by decide +kernel
theorem dS_appendNode_79 : decode cS_appendNode 79 = .ok (.l2i, 1) := by decide +kernel
theorem dS_appendNode_80 : decode cS_appendNode 80 = .ok (.invokevirtual 87, 3) := by decide +kernel
theorem dS_appendNode_83 : decode cS_appendNode 83 = .ok (.iconst 0, 1) := by decide +kernel
theorem dS_appendNode_84 : decode cS_appendNode 84 = .ok (.istore 6, 2) := by decide +kernel
theorem dS_appendNode_86 : decode cS_appendNode 86 = .ok (.iload 6, 2) := by decide +kernel
theorem dS_appendNode_88 : decode cS_appendNode 88 = .ok (.aload_n 0, 1) := by decide +kernel
theorem dS_appendNode_89 : decode cS_appendNode 89 = .ok (.iload_n 1, 1) := by decide +kernel
theorem dS_appendNode_90 : decode cS_appendNode 90 = .ok (.invokevirtual 74, 3) := by decide +kernel
theorem dS_appendNode_93 : decode cS_appendNode 93 = .ok (.if_icmp .ge 20, 3) := by decide +kernel
theorem dS_appendNode_96 : decode cS_appendNode 96 = .ok (.aload_n 2, 1) := by decide +kernel
theorem dS_appendNode_97 : decode cS_appendNode 97 = .ok (.aload_n 0, 1) := by decide +kernel
theorem dS_appendNode_98 : decode cS_appendNode 98 = .ok (.iload_n 1, 1) := by decide +kernel
theorem dS_appendNode_99 : decode cS_appendNode 99 = .ok (.iload 6, 2) := by decide +kernel
theorem dS_appendNode_101 : decode cS_appendNode 101 = .ok (.invokevirtual 103, 3) := by decide +kernel
theorem dS_appendNode_104 : decode cS_appendNode 104 = .ok (.invokevirtual 87, 3) := by decide +kernel
theorem dS_appendNode_107 : decode cS_appendNode 107 = .ok (.iinc 6 1, 3) := by decide +kernel
theorem dS_appendNode_110 : decode cS_appendNode 110 = .ok (.goto (-24), 3) := by decide +kernel
theorem dS_appendNode_113 : decode cS_appendNode 113 = .ok (.return_, 1) := by decide +kernel
theorem dS_alike_0 : decode cS_alike 0 = .ok (.aload_n 0, 1) := by decide +kernel
theorem dS_alike_1 : decode cS_alike 1 = .ok (.getfield 9, 3) := by decide +kernel
theorem dS_alike_4 : decode cS_alike 4 = .ok (.iload_n 1, 1) := by decide +kernel
theorem dS_alike_5 : decode cS_alike 5 = .ok (.iaload, 1) := by decide +kernel
theorem dS_alike_6 : decode cS_alike 6 = .ok (.aload_n 0, 1) := by decide +kernel
theorem dS_alike_7 : decode cS_alike 7 = .ok (.getfield 9, 3) := by decide +kernel
theorem dS_alike_10 : decode cS_alike 10 = .ok (.iload_n 2, 1) := by decide +kernel
theorem dS_alike_11 : decode cS_alike 11 = .ok (.iaload, 1) := by decide +kernel
theorem dS_alike_12 : decode cS_alike 12 = .ok (.if_icmp .ne 19, 3) := by decide +kernel
theorem dS_alike_15 : decode cS_alike 15 = .ok (.aload_n 0, 1) := by decide +kernel
theorem dS_alike_16 : decode cS_alike 16 = .ok (.getfield 15, 3) := by decide +kernel
theorem dS_alike_19 : decode cS_alike 19 = .ok (.iload_n 1, 1) := by decide +kernel
theorem dS_alike_20 : decode cS_alike 20 = .ok (.laload, 1) := by decide +kernel
theorem dS_alike_21 : decode cS_alike 21 = .ok (.aload_n 0, 1) := by decide +kernel
theorem dS_alike_22 : decode cS_alike 22 = .ok (.getfield 15, 3) := by decide +kernel
theorem dS_alike_25 : decode cS_alike 25 = .ok (.iload_n 2, 1) := by decide +kernel
theorem dS_alike_26 : decode cS_alike 26 = .ok (.laload, 1) := by decide +kernel
theorem dS_alike_27 : decode cS_alike 27 = .ok (.lcmp, 1) := by decide +kernel
theorem dS_alike_28 : decode cS_alike 28 = .ok (.ifCond .eq 5, 3) := by decide +kernel
theorem dS_alike_31 : decode cS_alike 31 = .ok (.iconst 0, 1) := by decide +kernel
theorem dS_alike_32 : decode cS_alike 32 = .ok (.ireturn, 1) := by decide +kernel
theorem dS_alike_33 : decode cS_alike 33 = .ok (.iconst 0, 1) := by decide +kernel
theorem dS_alike_34 : decode cS_alike 34 = .ok (.istore_n 3, 1) := by decide +kernel
theorem dS_alike_35 : decode cS_alike 35 = .ok (.iload_n 3, 1) := by decide +kernel
theorem dS_alike_36 : decode cS_alike 36 = .ok (.aload_n 0, 1) := by decide +kernel
theorem dS_alike_37 : decode cS_alike 37 = .ok (.iload_n 1, 1) := by decide +kernel
theorem dS_alike_38 : decode cS_alike 38 = .ok (.invokevirtual 74, 3) := by decide +kernel
theorem dS_alike_41 : decode cS_alike 41 = .ok (.if_icmp .ge 26, 3) := by decide +kernel
theorem dS_alike_44 : decode cS_alike 44 = .ok (.aload_n 0, 1) := by decide +kernel
theorem dS_alike_45 : decode cS_alike 45 = .ok (.iload_n 1, 1) := by decide +kernel
theorem dS_alike_46 : decode cS_alike 46 = .ok (.iload_n 3, 1) := by decide +kernel
theorem dS_alike_47 : decode cS_alike 47 = .ok (.invokevirtual 103, 3) := by decide +kernel
theorem dS_alike_50 : decode cS_alike 50 = .ok (.aload_n 0, 1) := by decide +kernel
theorem dS_alike_51 : decode cS_alike 51 = .ok (.iload_n 2, 1) := by decide +kernel
theorem dS_alike_52 : decode cS_alike 52 = .ok (.iload_n 3, 1) := by decide +kernel
theorem dS_alike_53 : decode cS_alike 53 = .ok (.invokevirtual 103, 3) := by decide +kernel
theorem dS_alike_56 : decode cS_alike 56 = .ok (.if_icmp .eq 5, 3) := by decide +kernel
theorem dS_alike_59 : decode cS_alike 59 = .ok (.iconst 0, 1) := by decide +kernel
theorem dS_alike_60 : decode cS_alike 60 = .ok (.ireturn, 1) := by decide +kernel
theorem dS_alike_61 : decode cS_alike 61 = .ok (.iinc 3 1, 3) := by decide +kernel
theorem dS_alike_64 : decode cS_alike 64 = .ok (.goto (-29), 3) := by decide +kernel
theorem dS_alike_67 : decode cS_alike 67 = .ok (.iconst 1, 1) := by decide +kernel
theorem dS_alike_68 : decode cS_alike 68 = .ok (.ireturn, 1) := by decide +kernel
theorem dS_pushTerm_0 : decode cS_pushTerm 0 = .ok (.aload_n 0, 1) := by decide +kernel
theorem dS_pushTerm_1 : decode cS_pushTerm 1 = .ok (.getfield 37, 3) := by decide +kernel
theorem dS_pushTerm_4 : decode cS_pushTerm 4 = .ok (.sipush 200, 3) := by decide +kernel
theorem dS_pushTerm_7 : decode cS_pushTerm 7 = .ok (.if_icmp .ge 23, 3) := by decide +kernel
theorem dS_pushTerm_10 : decode cS_pushTerm 10 = .ok (.aload_n 0, 1) := by decide +kernel
theorem dS_pushTerm_11 : decode cS_pushTerm 11 = .ok (.getfield 34, 3) := by decide +kernel
theorem dS_pushTerm_14 : decode cS_pushTerm 14 = .ok (.aload_n 0, 1) := by decide +kernel
theorem dS_pushTerm_15 : decode cS_pushTerm 15 = .ok (.getfield 37, 3) := by decide +kernel
theorem dS_pushTerm_18 : decode cS_pushTerm 18 = .ok (.iload_n 1, 1) := by decide +kernel
theorem dS_pushTerm_19 : decode cS_pushTerm 19 = .ok (.iastore, 1) := by decide +kernel
theorem dS_pushTerm_20 : decode cS_pushTerm 20 = .ok (.aload_n 0, 1) := by decide +kernel
theorem dS_pushTerm_21 : decode cS_pushTerm 21 = .ok (.dup, 1) := by decide +kernel
theorem dS_pushTerm_22 : decode cS_pushTerm 22 = .ok (.getfield 37, 3) := by decide +kernel
theorem dS_pushTerm_25 : decode cS_pushTerm 25 = .ok (.iconst 1, 1) := by decide +kernel
theorem dS_pushTerm_26 : decode cS_pushTerm 26 = .ok (.iadd, 1) := by decide +kernel
theorem dS_pushTerm_27 : decode cS_pushTerm 27 = .ok (.putfield 37, 3) := by decide +kernel
theorem dS_pushTerm_30 : decode cS_pushTerm 30 = .ok (.return_, 1) := by decide +kernel
theorem dS_settle_0 : decode cS_settle 0 = .ok (.aload_n 0, 1) := by decide +kernel
theorem dS_settle_1 : decode cS_settle 1 = .ok (.getfield 9, 3) := by decide +kernel
theorem dS_settle_4 : decode cS_settle 4 = .ok (.iload_n 1, 1) := by decide +kernel
theorem dS_settle_5 : decode cS_settle 5 = .ok (.iaload, 1) := by decide +kernel
theorem dS_settle_6 : decode cS_settle 6 = .ok (.istore_n 2, 1) := by decide +kernel
theorem dS_settle_7 : decode cS_settle 7 = .ok (.iconst 1, 1) := by decide +kernel
theorem dS_settle_8 : decode cS_settle 8 = .ok (.istore_n 3, 1) := by decide +kernel
theorem dS_settle_9 : decode cS_settle 9 = .ok (.iconst 0, 1) := by decide +kernel
theorem dS_settle_10 : decode cS_settle 10 = .ok (.istore 4, 2) := by decide +kernel
theorem dS_settle_12 : decode cS_settle 12 = .ok (.iload_n 2, 1) := by decide +kernel
theorem dS_settle_13 : decode cS_settle 13 = .ok (.ifCond .ne 13, 3) := by decide +kernel
theorem dS_settle_16 : decode cS_settle 16 = .ok (.aload_n 0, 1) := by decide +kernel
theorem dS_settle_17 : decode cS_settle 17 = .ok (.getfield 15, 3) := by decide +kernel
theorem dS_settle_20 : decode cS_settle 20 = .ok (.iload_n 1, 1) := by decide +kernel
theorem dS_settle_21 : decode cS_settle 21 = .ok (.laload, 1) := by decide +kernel
theorem dS_settle_22 : decode cS_settle 22 = .ok (.l2i, 1) := by decide +kernel
theorem dS_settle_23 : decode cS_settle 23 = .ok (.goto 4, 3) := by decide +kernel
theorem dS_settle_26 : decode cS_settle 26 = .ok (.iconst 0, 1) := by decide +kernel
theorem dS_settle_27 : decode cS_settle 27 = .ok (.istore 5, 2) := by decide +kernel
theorem dS_settle_29 : decode cS_settle 29 = .ok (.iload_n 2, 1) := by decide +kernel
theorem dS_settle_30 : decode cS_settle 30 = .ok (.aload_n 0, 1) := by decide +kernel
theorem dS_settle_31 : decode cS_settle 31 = .ok (.getfield 15, 3) := by decide +kernel
theorem dS_settle_34 : decode cS_settle 34 = .ok (.iload_n 1, 1) := by decide +kernel
theorem dS_settle_35 : decode cS_settle 35 = .ok (.laload, 1) := by decide +kernel
theorem dS_settle_36 : decode cS_settle 36 = .ok (.invokestatic 107, 3) := by decide +kernel
theorem dS_settle_39 : decode cS_settle 39 = .ok (.istore 6, 2) := by decide +kernel
theorem dS_settle_41 : decode cS_settle 41 = .ok (.iload_n 2, 1) := by decide +kernel
theorem dS_settle_42 : decode cS_settle 42 = .ok (.invokestatic 58, 3) := by decide +kernel
theorem dS_settle_45 : decode cS_settle 45 = .ok (.istore 7, 2) := by decide +kernel
theorem dS_settle_47 : decode cS_settle 47 = .ok (.iconst 0, 1) := by decide +kernel
theorem dS_settle_48 : decode cS_settle 48 = .ok (.istore 8, 2) := by decide +kernel
theorem dS_settle_50 : decode cS_settle 50 = .ok (.iload 8, 2) := by decide +kernel
theorem dS_settle_52 : decode cS_settle 52 = .ok (.iload 7, 2) := by decide +kernel
theorem dS_settle_54 : decode cS_settle 54 = .ok (.if_icmp .ge 73, 3) := by decide +kernel
theorem dS_settle_57 : decode cS_settle 57 = .ok (.iload_n 1, 1) := by decide +kernel
theorem dS_settle_58 : decode cS_settle 58 = .ok (.iload_n 3, 1) := by decide +kernel
theorem dS_settle_59 : decode cS_settle 59 = .ok (.iadd, 1) := by decide +kernel
theorem dS_settle_60 : decode cS_settle 60 = .ok (.sipush 200, 3) := by decide +kernel
theorem dS_settle_63 : decode cS_settle 63 = .ok (.if_icmp .ge 64, 3) := by decide +kernel
theorem dS_settle_66 : decode cS_settle 66 = .ok (.iload_n 1, 1) := by decide +kernel
theorem dS_settle_67 : decode cS_settle 67 = .ok (.iload_n 3, 1) := by decide +kernel
theorem dS_settle_68 : decode cS_settle 68 = .ok (.iadd, 1) := by decide +kernel
theorem dS_settle_69 : decode cS_settle 69 = .ok (.istore 9, 2) := by decide +kernel
theorem dS_settle_71 : decode cS_settle 71 = .ok (.iload 4, 2) := by decide +kernel
theorem dS_settle_73 : decode cS_settle 73 = .ok (.aload_n 0, 1) := by decide +kernel
theorem dS_settle_74 : decode cS_settle 74 = .ok (.getfield 25, 3) := by decide +kernel
theorem dS_settle_77 : decode cS_settle 77 = .ok (.iload 9, 2) := by decide +kernel
theorem dS_settle_79 : decode cS_settle 79 = .ok (.iaload, 1) := by decide +kernel
theorem dS_settle_80 : decode cS_settle 80 = .ok (.invokestatic 111, 3) := by decide +kernel
theorem dS_settle_83 : decode cS_settle 83 = .ok (.istore 4, 2) := by decide +kernel
theorem dS_settle_85 : decode cS_settle 85 = .ok (.iload 5, 2) := by decide +kernel
theorem dS_settle_87 : decode cS_settle 87 = .ok (.aload_n 0, 1) := by decide +kernel
theorem dS_settle_88 : decode cS_settle 88 = .ok (.getfield 28, 3) := by decide +kernel
theorem dS_settle_91 : decode cS_settle 91 = .ok (.iload 9, 2) := by decide +kernel
theorem dS_settle_93 : decode cS_settle 93 = .ok (.iaload, 1) := by decide +kernel
theorem dS_settle_94 : decode cS_settle 94 = .ok (.invokestatic 111, 3) := by decide +kernel
theorem dS_settle_97 : decode cS_settle 97 = .ok (.istore 5, 2) := by decide +kernel
theorem dS_settle_99 : decode cS_settle 99 = .ok (.iload 6, 2) := by decide +kernel
theorem dS_settle_101 : decode cS_settle 101 = .ok (.aload_n 0, 1) := by decide +kernel
theorem dS_settle_102 : decode cS_settle 102 = .ok (.getfield 31, 3) := by decide +kernel
theorem dS_settle_105 : decode cS_settle 105 = .ok (.iload 9, 2) := by decide +kernel
theorem dS_settle_107 : decode cS_settle 107 = .ok (.iaload, 1) := by decide +kernel
theorem dS_settle_108 : decode cS_settle 108 = .ok (.iadd, 1) := by decide +kernel
theorem dS_settle_109 : decode cS_settle 109 = .ok (.istore 6, 2) := by decide +kernel
theorem dS_settle_111 : decode cS_settle 111 = .ok (.iload_n 3, 1) := by decide +kernel
theorem dS_settle_112 : decode cS_settle 112 = .ok (.aload_n 0, 1) := by decide +kernel
theorem dS_settle_113 : decode cS_settle 113 = .ok (.getfield 22, 3) := by decide +kernel
theorem dS_settle_116 : decode cS_settle 116 = .ok (.iload 9, 2) := by decide +kernel
theorem dS_settle_118 : decode cS_settle 118 = .ok (.iaload, 1) := by decide +kernel
theorem dS_settle_119 : decode cS_settle 119 = .ok (.iadd, 1) := by decide +kernel
theorem dS_settle_120 : decode cS_settle 120 = .ok (.istore_n 3, 1) := by decide +kernel
theorem dS_settle_121 : decode cS_settle 121 = .ok (.iinc 8 1, 3) := by decide +kernel
theorem dS_settle_124 : decode cS_settle 124 = .ok (.goto (-74), 3) := by decide +kernel
theorem dS_settle_127 : decode cS_settle 127 = .ok (.aload_n 0, 1) := by decide +kernel
theorem dS_settle_128 : decode cS_settle 128 = .ok (.getfield 22, 3) := by decide +kernel
theorem dS_settle_131 : decode cS_settle 131 = .ok (.iload_n 1, 1) := by decide +kernel
theorem dS_settle_132 : decode cS_settle 132 = .ok (.iload_n 3, 1) := by decide +kernel
theorem dS_settle_133 : decode cS_settle 133 = .ok (.iastore, 1) := by decide +kernel
theorem dS_settle_134 : decode cS_settle 134 = .ok (.aload_n 0, 1) := by decide +kernel
theorem dS_settle_135 : decode cS_settle 135 = .ok (.getfield 25, 3) := by decide +kernel
theorem dS_settle_138 : decode cS_settle 138 = .ok (.iload_n 1, 1) := by decide +kernel
theorem dS_settle_139 : decode cS_settle 139 = .ok (.iload 4, 2) := by decide +kernel
theorem dS_settle_141 : decode cS_settle 141 = .ok (.iconst 1, 1) := by decide +kernel
theorem dS_settle_142 : decode cS_settle 142 = .ok (.iadd, 1) := by decide +kernel
theorem dS_settle_143 : decode cS_settle 143 = .ok (.iastore, 1) := by decide +kernel
theorem dS_settle_144 : decode cS_settle 144 = .ok (.aload_n 0, 1) := by decide +kernel
theorem dS_settle_145 : decode cS_settle 145 = .ok (.getfield 28, 3) := by decide +kernel
theorem dS_settle_148 : decode cS_settle 148 = .ok (.iload_n 1, 1) := by decide +kernel
theorem dS_settle_149 : decode cS_settle 149 = .ok (.iload_n 2, 1) := by decide +kernel
theorem dS_settle_150 : decode cS_settle 150 = .ok (.iconst 1, 1) := by decide +kernel
theorem dS_settle_151 : decode cS_settle 151 = .ok (.if_icmp .ne 15, 3) := by decide +kernel
theorem dS_settle_154 : decode cS_settle 154 = .ok (.iload 5, 2) := by decide +kernel
theorem dS_settle_156 : decode cS_settle 156 = .ok (.ifCond .le 10, 3) := by decide +kernel
theorem dS_settle_159 : decode cS_settle 159 = .ok (.iload 5, 2) := by decide +kernel
theorem dS_settle_161 : decode cS_settle 161 = .ok (.iconst 1, 1) := by decide +kernel
theorem dS_settle_162 : decode cS_settle 162 = .ok (.isub, 1) := by decide +kernel
theorem dS_settle_163 : decode cS_settle 163 = .ok (.goto 5, 3) := by decide +kernel
theorem dS_settle_166 : decode cS_settle 166 = .ok (.iload 5, 2) := by decide +kernel
theorem dS_settle_168 : decode cS_settle 168 = .ok (.iastore, 1) := by decide +kernel
theorem dS_settle_169 : decode cS_settle 169 = .ok (.aload_n 0, 1) := by decide +kernel
theorem dS_settle_170 : decode cS_settle 170 = .ok (.getfield 31, 3) := by decide +kernel
theorem dS_settle_173 : decode cS_settle 173 = .ok (.iload_n 1, 1) := by decide +kernel
theorem dS_settle_174 : decode cS_settle 174 = .ok (.iload 6, 2) := by decide +kernel
theorem dS_settle_176 : decode cS_settle 176 = .ok (.iastore, 1) := by decide +kernel
theorem dS_settle_177 : decode cS_settle 177 = .ok (.return_, 1) := by decide +kernel
theorem dS_copyNodes_0 : decode cS_copyNodes 0 = .ok (.iload_n 1, 1) := by decide +kernel
theorem dS_copyNodes_1 : decode cS_copyNodes 1 = .ok (.ifCond .lt 24, 3) := by decide +kernel
theorem dS_copyNodes_4 : decode cS_copyNodes 4 = .ok (.iload_n 2, 1) := by decide +kernel
theorem dS_copyNodes_5 : decode cS_copyNodes 5 = .ok (.ifCond .lt 20, 3) := by decide +kernel
theorem dS_copyNodes_8 : decode cS_copyNodes 8 = .ok (.iload_n 3, 1) := by decide +kernel
theorem dS_copyNodes_9 : decode cS_copyNodes 9 = .ok (.ifCond .lt 16, 3) := by decide +kernel
theorem dS_copyNodes_12 : decode cS_copyNodes 12 = .ok (.iload_n 1, 1) := by decide +kernel
theorem dS_copyNodes_13 : decode cS_copyNodes 13 = .ok (.iload_n 2, 1) := by decide +kernel
theorem dS_copyNodes_14 : decode cS_copyNodes 14 = .ok (.invokestatic 111, 3) := by decide +kernel
theorem dS_copyNodes_17 : decode cS_copyNodes 17 = .ok (.sipush 200, 3) := by decide +kernel
theorem dS_copyNodes_20 : decode cS_copyNodes 20 = .ok (.iload_n 3, 1) := by decide +kernel
theorem dS_copyNodes_21 : decode cS_copyNodes 21 = .ok (.isub, 1) := by decide +kernel
theorem dS_copyNodes_22 : decode cS_copyNodes 22 = .ok (.if_icmp .le 4, 3) := by decide +kernel
theorem dS_copyNodes_25 : decode cS_copyNodes 25 = .ok (.return_, 1) := by decide +kernel
theorem dS_copyNodes_26 : decode cS_copyNodes 26 = .ok (.aload_n 0, 1) := by decide +kernel
theorem dS_copyNodes_27 : decode cS_copyNodes 27 = .ok (.getfield 9, 3) := by decide +kernel
theorem dS_copyNodes_30 : decode cS_copyNodes 30 = .ok (.iload_n 1, 1) := by decide +kernel
theorem dS_copyNodes_31 : decode cS_copyNodes 31 = .ok (.aload_n 0, 1) := by decide +kernel
theorem dS_copyNodes_32 : decode cS_copyNodes 32 = .ok (.getfield 9, 3) := by decide +kernel
theorem dS_copyNodes_35 : decode cS_copyNodes 35 = .ok (.iload_n 2, 1) := by decide +kernel
theorem dS_copyNodes_36 : decode cS_copyNodes 36 = .ok (.iload_n 3, 1) := by decide +kernel
theorem dS_copyNodes_37 : decode cS_copyNodes 37 = .ok (.invokestatic 116, 3) := by decide +kernel
theorem dS_copyNodes_40 : decode cS_copyNodes 40 = .ok (.aload_n 0, 1) := by decide +kernel
theorem dS_copyNodes_41 : decode cS_copyNodes 41 = .ok (.getfield 15, 3) := by decide +kernel
theorem dS_copyNodes_44 : decode cS_copyNodes 44 = .ok (.iload_n 1, 1) := by decide +kernel
theorem dS_copyNodes_45 : decode cS_copyNodes 45 = .ok (.aload_n 0, 1) := by decide +kernel
theorem dS_copyNodes_46 : decode cS_copyNodes 46 = .ok (.getfield 15, 3) := by decide +kernel
theorem dS_copyNodes_49 : decode cS_copyNodes 49 = .ok (.iload_n 2, 1) := by decide +kernel
theorem dS_copyNodes_50 : decode cS_copyNodes 50 = .ok (.iload_n 3, 1) := by decide +kernel
theorem dS_copyNodes_51 : decode cS_copyNodes 51 = .ok (.invokestatic 116, 3) := by decide +kernel
theorem dS_copyNodes_54 : decode cS_copyNodes 54 = .ok (.aload_n 0, 1) := by decide +kernel
theorem dS_copyNodes_55 : decode cS_copyNodes 55 = .ok (.getfield 19, 3) := by decide +kernel
theorem dS_copyNodes_58 : decode cS_copyNodes 58 = .ok (.iload_n 1, 1) := by decide +kernel
theorem dS_copyNodes_59 : decode cS_copyNodes 59 = .ok (.bipush 8, 2) := by decide +kernel
theorem dS_copyNodes_61 : decode cS_copyNodes 61 = .ok (.imul, 1) := by decide +kernel
theorem dS_copyNodes_62 : decode cS_copyNodes 62 = .ok (.aload_n 0, 1) := by decide +kernel
theorem dS_copyNodes_63 : decode cS_copyNodes 63 = .ok (.getfield 19, 3) := by decide +kernel
theorem dS_copyNodes_66 : decode cS_copyNodes 66 = .ok (.iload_n 2, 1) := by decide +kernel
theorem dS_copyNodes_67 : decode cS_copyNodes 67 = .ok (.bipush 8, 2) := by decide +kernel
theorem dS_copyNodes_69 : decode cS_copyNodes 69 = .ok (.imul, 1) := by decide +kernel
theorem dS_copyNodes_70 : decode cS_copyNodes 70 = .ok (.iload_n 3, 1) := by decide +kernel
theorem dS_copyNodes_71 : decode cS_copyNodes 71 = .ok (.bipush 8, 2) := by decide +kernel
theorem dS_copyNodes_73 : decode cS_copyNodes 73 = .ok (.imul, 1) := by decide +kernel
theorem dS_copyNodes_74 : decode cS_copyNodes 74 = .ok (.invokestatic 116, 3) := by decide +kernel
theorem dS_copyNodes_77 : decode cS_copyNodes 77 = .ok (.aload_n 0, 1) := by decide +kernel
theorem dS_copyNodes_78 : decode cS_copyNodes 78 = .ok (.getfield 22, 3) := by decide +kernel
theorem dS_copyNodes_81 : decode cS_copyNodes 81 = .ok (.iload_n 1, 1) := by decide +kernel
theorem dS_copyNodes_82 : decode cS_copyNodes 82 = .ok (.aload_n 0, 1) := by decide +kernel
theorem dS_copyNodes_83 : decode cS_copyNodes 83 = .ok (.getfield 22, 3) := by decide +kernel
theorem dS_copyNodes_86 : decode cS_copyNodes 86 = .ok (.iload_n 2, 1) := by decide +kernel
theorem dS_copyNodes_87 : decode cS_copyNodes 87 = .ok (.iload_n 3, 1) := by decide +kernel
theorem dS_copyNodes_88 : decode cS_copyNodes 88 = .ok (.invokestatic 116, 3) := by decide +kernel
theorem dS_copyNodes_91 : decode cS_copyNodes 91 = .ok (.aload_n 0, 1) := by decide +kernel
theorem dS_copyNodes_92 : decode cS_copyNodes 92 = .ok (.getfield 25, 3) := by decide +kernel
theorem dS_copyNodes_95 : decode cS_copyNodes 95 = .ok (.iload_n 1, 1) := by decide +kernel
theorem dS_copyNodes_96 : decode cS_copyNodes 96 = .ok (.aload_n 0, 1) := by decide +kernel
theorem dS_copyNodes_97 : decode cS_copyNodes 97 = .ok (.getfield 25, 3) := by decide +kernel
theorem dS_copyNodes_100 : decode cS_copyNodes 100 = .ok (.iload_n 2, 1) := by decide +kernel
theorem dS_copyNodes_101 : decode cS_copyNodes 101 = .ok (.iload_n 3, 1) := by decide +kernel
theorem dS_copyNodes_102 : decode cS_copyNodes 102 = .ok (.invokestatic 116, 3) := by decide +kernel
theorem dS_copyNodes_105 : decode cS_copyNodes 105 = .ok (.aload_n 0, 1) := by decide +kernel
theorem dS_copyNodes_106 : decode cS_copyNodes 106 = .ok (.getfield 28, 3) := by decide +kernel
theorem dS_copyNodes_109 : decode cS_copyNodes 109 = .ok (.iload_n 1, 1) := by decide +kernel
theorem dS_copyNodes_110 : decode cS_copyNodes 110 = .ok (.aload_n 0, 1) := by decide +kernel
theorem dS_copyNodes_111 : decode cS_copyNodes 111 = .ok (.getfield 28, 3) := by decide +kernel
theorem dS_copyNodes_114 : decode cS_copyNodes 114 = .ok (.iload_n 2, 1) := by decide +kernel
theorem dS_copyNodes_115 : decode cS_copyNodes 115 = .ok (.iload_n 3, 1) := by decide +kernel
theorem dS_copyNodes_116 : decode cS_copyNodes 116 = .ok (.invokestatic 116, 3) := by decide +kernel
theorem dS_copyNodes_119 : decode cS_copyNodes 119 = .ok (.aload_n 0, 1) := by decide +kernel
theorem dS_copyNodes_120 : decode cS_copyNodes 120 = .ok (.getfield 31, 3) := by decide +kernel
theorem dS_copyNodes_123 : decode cS_copyNodes 123 = .ok (.iload_n 1, 1) := by decide +kernel
theorem dS_copyNodes_124 : decode cS_copyNodes 124 = .ok (.aload_n 0, 1) := by decide +kernel
theorem dS_copyNodes_125 : decode cS_copyNodes 125 = .ok (.getfield 31, 3) := by decide +kernel
theorem dS_copyNodes_128 : decode cS_copyNodes 128 = .ok (.iload_n 2, 1) := by decide +kernel
theorem dS_copyNodes_129 : decode cS_copyNodes 129 = .ok (.iload_n 3, 1) := by decide +kernel
theorem dS_copyNodes_130 : decode cS_copyNodes 130 = .ok (.invokestatic 116, 3) := by decide +kernel
theorem dS_copyNodes_133 : decode cS_copyNodes 133 = .ok (.return_, 1) := by decide +kernel
end
section
theorem dR_init_0 : decode cR_init 0 = .ok (.aload_n 0, 1) := by decide +kernel
theorem dR_init_1 : decode cR_init 1 = .ok (.invokespecial 3, 3) := by decide +kernel
theorem dR_init_4 : decode cR_init 4 = .ok (.aload_n 0, 1) := by decide +kernel
theorem dR_init_5 : decode cR_init 5 = .ok (.bipush 62, 2) := by decide +kernel
theorem dR_init_7 : decode cR_init 7 = .ok (.newarray .int, 2) := by decide +kernel
theorem dR_init_9 : decode cR_init 9 = .ok (.putfield 11, 3) := by decide +kernel
theorem dR_init_12 : decode cR_init 12 = .ok (.aload_n 0, 1) := by decide +kernel
theorem dR_init_13 : decode cR_init 13 = .ok (.bipush 62, 2) := by decide +kernel
theorem dR_init_15 : decode cR_init 15 = .ok (.newarray .int, 2) := by decide +kernel
theorem dR_init_17 : decode cR_init 17 = .ok (.putfield 15, 3) := by decide +kernel
theorem dR_init_20 : decode cR_init 20 = .ok (.aload_n 0, 1) := by decide +kernel
theorem dR_init_21 : decode cR_init 21 = .ok (.iconst 0, 1) := by decide +kernel
theorem dR_init_22 : decode cR_init 22 = .ok (.putfield 18, 3) := by decide +kernel
theorem dR_init_25 : decode cR_init 25 = .ok (.aload_n 0, 1) := by decide +kernel
theorem dR_init_26 : decode cR_init 26 = .ok (.iconst 0, 1) := by decide +kernel
theorem dR_init_27 : decode cR_init 27 = .ok (.putfield 22, 3) := by decide +kernel
theorem dR_init_30 : decode cR_init 30 = .ok (.aload_n 0, 1) := by decide +kernel
theorem dR_init_31 : decode cR_init 31 = .ok (.iconst 0, 1) := by decide +kernel
theorem dR_init_32 : decode cR_init 32 = .ok (.putfield 25, 3) := by decide +kernel
theorem dR_init_35 : decode cR_init 35 = .ok (.aload_n 0, 1) := by decide +kernel
theorem dR_init_36 : decode cR_init 36 = .ok (.iconst 0, 1) := by decide +kernel
theorem dR_init_37 : decode cR_init 37 = .ok (.putfield 28, 3) := by decide +kernel
theorem dR_init_40 : decode cR_init 40 = .ok (.aload_n 0, 1) := by decide +kernel
theorem dR_init_41 : decode cR_init 41 = .ok (.iconst (-1), 1) := by decide +kernel
theorem dR_init_42 : decode cR_init 42 = .ok (.putfield 31, 3) := by decide +kernel
theorem dR_init_45 : decode cR_init 45 = .ok (.aload_n 0, 1) := by decide +kernel
theorem dR_init_46 : decode cR_init 46 = .ok (.aload_n 1, 1) := by decide +kernel
theorem dR_init_47 : decode cR_init 47 = .ok (.putfield 34, 3) := by decide +kernel
theorem dR_init_50 : decode cR_init 50 = .ok (.aload_n 0, 1) := by decide +kernel
theorem dR_init_51 : decode cR_init 51 = .ok (.aload_n 2, 1) := by decide +kernel
theorem dR_init_52 : decode cR_init 52 = .ok (.putfield 38, 3) := by decide +kernel
theorem dR_init_55 : decode cR_init 55 = .ok (.return_, 1) := by decide +kernel
theorem dR_readTerm_0 : decode cR_readTerm 0 = .ok (.aload_n 0, 1) := by decide +kernel
theorem dR_readTerm_1 : decode cR_readTerm 1 = .ok (.getfield 25, 3) := by decide +kernel
theorem dR_readTerm_4 : decode cR_readTerm 4 = .ok (.aload_n 0, 1) := by decide +kernel
theorem dR_readTerm_5 : decode cR_readTerm 5 = .ok (.getfield 34, 3) := by decide +kernel
theorem dR_readTerm_8 : decode cR_readTerm 8 = .ok (.getfield 42, 3) := by decide +kernel
theorem dR_readTerm_11 : decode cR_readTerm 11 = .ok (.if_icmp .lt 5, 3) := by decide +kernel
theorem dR_readTerm_14 : decode cR_readTerm 14 = .ok (.iconst (-1), 1) := by decide +kernel
theorem dR_readTerm_15 : decode cR_readTerm 15 = .ok (.ireturn, 1) := by decide +kernel
theorem dR_readTerm_16 : decode cR_readTerm 16 = .ok (.aload_n 0, 1) := by decide +kernel
theorem dR_readTerm_17 : decode cR_readTerm 17 = .ok (.iconst 0, 1) := by decide +kernel
theorem dR_readTerm_18 : decode cR_readTerm 18 = .ok (.putfield 28, 3) := by decide +kernel
theorem dR_readTerm_21 : decode cR_readTerm 21 = .ok (.aload_n 0, 1) := by decide +kernel
theorem dR_readTerm_22 : decode cR_readTerm 22 = .ok (.iconst (-1), 1) := by decide +kernel
theorem dR_readTerm_23 : decode cR_readTerm 23 = .ok (.putfield 31, 3) := by decide +kernel
theorem dR_readTerm_26 : decode cR_readTerm 26 = .ok (.aload_n 0, 1) := by decide +kernel
theorem dR_readTerm_27 : decode cR_readTerm 27 = .ok (.aload_n 0, 1) := by decide +kernel
theorem dR_readTerm_28 : decode cR_readTerm 28 = .ok (.getfield 25, 3) := by decide +kernel
theorem dR_readTerm_31 : decode cR_readTerm 31 = .ok (.putfield 22, 3) := by decide +kernel
theorem dR_readTerm_34 : decode cR_readTerm 34 = .ok (.aload_n 0, 1) := by decide +kernel
theorem dR_readTerm_35 : decode cR_readTerm 35 = .ok (.iconst 0, 1) := by decide +kernel
theorem dR_readTerm_36 : decode cR_readTerm 36 = .ok (.putfield 18, 3) := by decide +kernel
theorem dR_readTerm_39 : decode cR_readTerm 39 = .ok (.aload_n 0, 1) := by decide +kernel
theorem dR_readTerm_40 : decode cR_readTerm 40 = .ok (.iconst 1, 1) := by decide +kernel
theorem dR_readTerm_41 : decode cR_readTerm 41 = .ok (.iconst 1, 1) := by decide +kernel
theorem dR_readTerm_42 : decode cR_readTerm 42 = .ok (.iconst 0, 1) := by decide +kernel
theorem dR_readTerm_43 : decode cR_readTerm 43 = .ok (.invokevirtual 47, 3) := by decide +kernel
theorem dR_readTerm_46 : decode cR_readTerm 46 = .ok (.aload_n 0, 1) := by decide +kernel
theorem dR_readTerm_47 : decode cR_readTerm 47 = .ok (.getfield 38, 3) := by decide +kernel
theorem dR_readTerm_50 : decode cR_readTerm 50 = .ok (.getfield 51, 3) := by decide +kernel
theorem dR_readTerm_53 : decode cR_readTerm 53 = .ok (.istore_n 1, 1) := by decide +kernel
theorem dR_readTerm_54 : decode cR_readTerm 54 = .ok (.aload_n 0, 1) := by decide +kernel
theorem dR_readTerm_55 : decode cR_readTerm 55 = .ok (.getfield 38, 3) := by decide +kernel
theorem dR_readTerm_58 : decode cR_readTerm 58 = .ok (.getfield 51, 3) := by decide +kernel
theorem dR_readTerm_61 : decode cR_readTerm 61 = .ok (.istore_n 2, 1) := by decide +kernel
theorem dR_readTerm_62 : decode cR_readTerm 62 = .ok (.iload_n 2, 1) := by decide +kernel
theorem dR_readTerm_63 : decode cR_readTerm 63 = .ok (.sipush 200, 3) := by decide +kernel
theorem dR_readTerm_66 : decode cR_readTerm 66 = .ok (.if_icmp .gt 32, 3) := by decide +kernel
theorem dR_readTerm_69 : decode cR_readTerm 69 = .ok (.aload_n 0, 1) := by decide +kernel
theorem dR_readTerm_70 : decode cR_readTerm 70 = .ok (.getfield 18, 3) := by decide +kernel
theorem dR_readTerm_73 : decode cR_readTerm 73 = .ok (.ifCond .le 25, 3) := by decide +kernel
theorem dR_readTerm_76 : decode cR_readTerm 76 = .ok (.aload_n 0, 1) := by decide +kernel
theorem dR_readTerm_77 : decode cR_readTerm 77 = .ok (.getfield 28, 3) := by decide +kernel
theorem dR_readTerm_80 : decode cR_readTerm 80 = .ok (.ifCond .ne 18, 3) := by decide +kernel
theorem dR_readTerm_83 : decode cR_readTerm 83 = .ok (.aload_n 0, 1) := by decide +kernel
theorem dR_readTerm_84 : decode cR_readTerm 84 = .ok (.iload_n 2, 1) := by decide +kernel
theorem dR_readTerm_85 : decode cR_readTerm 85 = .ok (.invokevirtual 56, 3) := by decide +kernel
theorem dR_readTerm_88 : decode cR_readTerm 88 = .ok (.iload_n 2, 1) := by decide +kernel
theorem dR_readTerm_89 : decode cR_readTerm 89 = .ok (.iconst 1, 1) := by decide +kernel
theorem dR_readTerm_90 : decode cR_readTerm 90 = .ok (.iadd, 1) := by decide +kernel
theorem dR_readTerm_91 : decode cR_readTerm 91 = .ok (.istore_n 1, 1) := by decide +kernel
theorem dR_readTerm_92 : decode cR_readTerm 92 = .ok (.iinc 2 1, 3) := by decide +kernel
theorem dR_readTerm_95 : decode cR_readTerm 95 = .ok (.goto (-33), 3) := by decide +kernel
theorem dR_readTerm_98 : decode cR_readTerm 98 = .ok (.aload_n 0, 1) := by decide +kernel
theorem dR_readTerm_99 : decode cR_readTerm 99 = .ok (.getfield 28, 3) := by decide +kernel
theorem dR_readTerm_102 : decode cR_readTerm 102 = .ok (.ifCond .ne 19, 3) := by decide +kernel
theorem dR_readTerm_105 : decode cR_readTerm 105 = .ok (.aload_n 0, 1) := by decide +kernel
theorem dR_readTerm_106 : decode cR_readTerm 106 = .ok (.getfield 38, 3) := by decide +kernel
theorem dR_readTerm_109 : decode cR_readTerm 109 = .ok (.iload_n 1, 1) := by decide +kernel
theorem dR_readTerm_110 : decode cR_readTerm 110 = .ok (.invokevirtual 60, 3) := by decide +kernel
theorem dR_readTerm_113 : decode cR_readTerm 113 = .ok (.aload_n 0, 1) := by decide +kernel
theorem dR_readTerm_114 : decode cR_readTerm 114 = .ok (.aload_n 0, 1) := by decide +kernel
theorem dR_readTerm_115 : decode cR_readTerm 115 = .ok (.getfield 22, 3) := by decide +kernel
theorem dR_readTerm_118 : decode cR_readTerm 118 = .ok (.putfield 25, 3) := by decide +kernel
theorem dR_readTerm_121 : decode cR_readTerm 121 = .ok (.aload_n 0, 1) := by decide +kernel
theorem dR_readTerm_122 : decode cR_readTerm 122 = .ok (.getfield 28, 3) := by decide +kernel
theorem dR_readTerm_125 : decode cR_readTerm 125 = .ok (.ireturn, 1) := by decide +kernel
theorem dR_readNode_0 : decode cR_readNode 0 = .ok (.aload_n 0, 1) := by decide +kernel
theorem dR_readNode_1 : decode cR_readNode 1 = .ok (.getfield 22, 3) := by decide +kernel
theorem dR_readNode_4 : decode cR_readNode 4 = .ok (.istore_n 2, 1) := by decide +kernel
theorem dR_readNode_5 : decode cR_readNode 5 = .ok (.aload_n 0, 1) := by decide +kernel
theorem dR_readNode_6 : decode cR_readNode 6 = .ok (.invokevirtual 63, 3) := by decide +kernel
theorem dR_readNode_9 : decode cR_readNode 9 = .ok (.istore_n 3, 1) := by decide +kernel
theorem dR_readNode_10 : decode cR_readNode 10 = .ok (.aload_n 0, 1) := by decide +kernel
theorem dR_readNode_11 : decode cR_readNode 11 = .ok (.dup, 1) := by decide +kernel
theorem dR_readNode_12 : decode cR_readNode 12 = .ok (.getfield 18, 3) := by decide +kernel
theorem dR_readNode_15 : decode cR_readNode 15 = .ok (.iconst 1, 1) := by decide +kernel
theorem dR_readNode_16 : decode cR_readNode 16 = .ok (.isub, 1) := by decide +kernel
theorem dR_readNode_17 : decode cR_readNode 17 = .ok (.putfield 18, 3) := by decide +kernel
theorem dR_readNode_20 : decode cR_readNode 20 = .ok (.aload_n 0, 1) := by decide +kernel
theorem dR_readNode_21 : decode cR_readNode 21 = .ok (.getfield 11, 3) := by decide +kernel
theorem dR_readNode_24 : decode cR_readNode 24 = .ok (.aload_n 0, 1) := by decide +kernel
theorem dR_readNode_25 : decode cR_readNode 25 = .ok (.getfield 18, 3) := by decide +kernel
theorem dR_readNode_28 : decode cR_readNode 28 = .ok (.iaload, 1) := by decide +kernel
theorem dR_readNode_29 : decode cR_readNode 29 = .ok (.istore 4, 2) := by decide +kernel
theorem dR_readNode_31 : decode cR_readNode 31 = .ok (.aload_n 0, 1) := by decide +kernel
theorem dR_readNode_32 : decode cR_readNode 32 = .ok (.getfield 15, 3) := by decide +kernel
theorem dR_readNode_35 : decode cR_readNode 35 = .ok (.aload_n 0, 1) := by decide +kernel
theorem dR_readNode_36 : decode cR_readNode 36 = .ok (.getfield 18, 3) := by decide +kernel
theorem dR_readNode_39 : decode cR_readNode 39 = .ok (.iaload, 1) := by decide +kernel
theorem dR_readNode_40 : decode cR_readNode 40 = .ok (.istore 5, 2) := by decide +kernel
theorem dR_readNode_42 : decode cR_readNode 42 = .ok (.iload_n 3, 1) := by decide +kernel
theorem dR_readNode_43 : decode cR_readNode 43 = .ok (.invokestatic 67, 3) := by decide +kernel
theorem dR_readNode_46 : decode cR_readNode 46 = .ok (.ifCond .ne 9, 3) := by decide +kernel
theorem dR_readNode_49 : decode cR_readNode 49 = .ok (.aload_n 0, 1) := by decide +kernel
theorem dR_readNode_50 : decode cR_readNode 50 = .ok (.iconst 3, 1) := by decide +kernel
theorem dR_readNode_51 : decode cR_readNode 51 = .ok (.iload_n 2, 1) := by decide +kernel
theorem dR_readNode_52 : decode cR_readNode 52 = .ok (.invokevirtual 73, 3) := by decide +kernel
theorem dR_readNode_55 : decode cR_readNode 55 = .ok (.iload 4, 2) := by decide +kernel
theorem dR_readNode_57 : decode cR_readNode 57 = .ok (.bipush 60, 2) := by decide +kernel
theorem dR_readNode_59 : decode cR_readNode 59 = .ok (.if_icmp .le 9, 3) := by decide +kernel
theorem dR_readNode_62 : decode cR_readNode 62 = .ok (.aload_n 0, 1) := by decide +kernel
theorem dR_readNode_63 : decode cR_readNode 63 = .ok (.iconst 5, 1) := by decide +kernel
theorem dR_readNode_64 : decode cR_readNode 64 = .ok (.iload_n 2, 1) := by decide +kernel
theorem dR_readNode_65 : decode cR_readNode 65 = .ok (.invokevirtual 73, 3) := by decide +kernel
theorem dR_readNode_68 : decode cR_readNode 68 = .ok (.iload_n 1, 1) := by decide +kernel
theorem dR_readNode_69 : decode cR_readNode 69 = .ok (.sipush 200, 3) := by decide +kernel
theorem dR_readNode_72 : decode cR_readNode 72 = .ok (.if_icmp .lt 10, 3) := by decide +kernel
theorem dR_readNode_75 : decode cR_readNode 75 = .ok (.aload_n 0, 1) := by decide +kernel
theorem dR_readNode_76 : decode cR_readNode 76 = .ok (.bipush 6, 2) := by decide +kernel
theorem dR_readNode_78 : decode cR_readNode 78 = .ok (.iload_n 2, 1) := by decide +kernel
theorem dR_readNode_79 : decode cR_readNode 79 = .ok (.invokevirtual 73, 3) := by decide +kernel
theorem dR_readNode_82 : decode cR_readNode 82 = .ok (.aload_n 0, 1) := by decide +kernel
theorem dR_readNode_83 : decode cR_readNode 83 = .ok (.getfield 28, 3) := by decide +kernel
theorem dR_readNode_86 : decode cR_readNode 86 = .ok (.ifCond .ne 37, 3) := by decide +kernel
theorem dR_readNode_89 : decode cR_readNode 89 = .ok (.aload_n 0, 1) := by decide +kernel
theorem dR_readNode_90 : decode cR_readNode 90 = .ok (.iload_n 1, 1) := by decide +kernel
theorem dR_readNode_91 : decode cR_readNode 91 = .ok (.iload_n 3, 1) := by decide +kernel
theorem dR_readNode_92 : decode cR_readNode 92 = .ok (.iload 5, 2) := by decide +kernel
theorem dR_readNode_94 : decode cR_readNode 94 = .ok (.invokevirtual 77, 3) := by decide +kernel
theorem dR_readNode_97 : decode cR_readNode 97 = .ok (.aload_n 0, 1) := by decide +kernel
theorem dR_readNode_98 : decode cR_readNode 98 = .ok (.iload_n 3, 1) := by decide +kernel
theorem dR_readNode_99 : decode cR_readNode 99 = .ok (.invokestatic 80, 3) := by decide +kernel
theorem dR_readNode_102 : decode cR_readNode 102 = .ok (.iload 4, 2) := by decide +kernel
theorem dR_readNode_104 : decode cR_readNode 104 = .ok (.iconst 1, 1) := by decide +kernel
theorem dR_readNode_105 : decode cR_readNode 105 = .ok (.iadd, 1) := by decide +kernel
theorem dR_readNode_106 : decode cR_readNode 106 = .ok (.iload_n 3, 1) := by decide +kernel
theorem dR_readNode_107 : decode cR_readNode 107 = .ok (.iconst 1, 1) := by decide +kernel
theorem dR_readNode_108 : decode cR_readNode 108 = .ok (.if_icmp .ne 10, 3) := by decide +kernel
theorem dR_readNode_111 : decode cR_readNode 111 = .ok (.iload 5, 2) := by decide +kernel
theorem dR_readNode_113 : decode cR_readNode 113 = .ok (.iconst 1, 1) := by decide +kernel
theorem dR_readNode_114 : decode cR_readNode 114 = .ok (.iadd, 1) := by decide +kernel
theorem dR_readNode_115 : decode cR_readNode 115 = .ok (.goto 5, 3) := by decide +kernel
theorem dR_readNode_118 : decode cR_readNode 118 = .ok (.iload 5, 2) := by decide +kernel
theorem dR_readNode_120 : decode cR_readNode 120 = .ok (.invokevirtual 47, 3) := by decide +kernel
theorem dR_readNode_123 : decode cR_readNode 123 = .ok (.return_, 1) := by decide +kernel
theorem dR_readNumber_0 : decode cR_readNumber 0 = .ok (.aload_n 0, 1) := by decide +kernel
theorem dR_readNumber_1 : decode cR_readNumber 1 = .ok (.getfield 22, 3) := by decide +kernel
theorem dR_readNumber_4 : decode cR_readNumber 4 = .ok (.iconst 1, 1) := by decide +kernel
theorem dR_readNumber_5 : decode cR_readNumber 5 = .ok (.isub, 1) := by decide +kernel
theorem dR_readNumber_6 : decode cR_readNumber 6 = .ok (.istore 4, 2) := by decide +kernel
theorem dR_readNumber_8 : decode cR_readNumber 8 = .ok (.aload_n 0, 1) := by decide +kernel
theorem dR_readNumber_9 : decode cR_readNumber 9 = .ok (.iload_n 2, 1) := by decide +kernel
theorem dR_readNumber_10 : decode cR_readNumber 10 = .ok (.invokevirtual 84, 3) := by decide +kernel
theorem dR_readNumber_13 : decode cR_readNumber 13 = .ok (.lstore 5, 2) := by decide +kernel
theorem dR_readNumber_15 : decode cR_readNumber 15 = .ok (.iload_n 2, 1) := by decide +kernel
theorem dR_readNumber_16 : decode cR_readNumber 16 = .ok (.lload 5, 2) := by decide +kernel
theorem dR_readNumber_18 : decode cR_readNumber 18 = .ok (.invokestatic 88, 3) := by decide +kernel
theorem dR_readNumber_21 : decode cR_readNumber 21 = .ok (.ifCond .ne 14, 3) := by decide +kernel
theorem dR_readNumber_24 : decode cR_readNumber 24 = .ok (.aload_n 0, 1) := by decide +kernel
theorem dR_readNumber_25 : decode cR_readNumber 25 = .ok (.iconst 3, 1) := by decide +kernel
theorem dR_readNumber_26 : decode cR_readNumber 26 = .ok (.aload_n 0, 1) := by decide +kernel
theorem dR_readNumber_27 : decode cR_readNumber 27 = .ok (.getfield 22, 3) := by decide +kernel
theorem dR_readNumber_30 : decode cR_readNumber 30 = .ok (.iconst 1, 1) := by decide +kernel
theorem dR_readNumber_31 : decode cR_readNumber 31 = .ok (.isub, 1) := by decide +kernel
theorem dR_readNumber_32 : decode cR_readNumber 32 = .ok (.invokevirtual 73, 3) := by decide +kernel
theorem dR_readNumber_35 : decode cR_readNumber 35 = .ok (.iload_n 2, 1) := by decide +kernel
theorem dR_readNumber_36 : decode cR_readNumber 36 = .ok (.ifCond .ne 18, 3) := by decide +kernel
theorem dR_readNumber_39 : decode cR_readNumber 39 = .ok (.lload 5, 2) := by decide +kernel
theorem dR_readNumber_41 : decode cR_readNumber 41 = .ok (.iload_n 3, 1) := by decide +kernel
theorem dR_readNumber_42 : decode cR_readNumber 42 = .ok (.i2l, 1) := by decide +kernel
theorem dR_readNumber_43 : decode cR_readNumber 43 = .ok (.lcmp, 1) := by decide +kernel
theorem dR_readNumber_44 : decode cR_readNumber 44 = .ok (.ifCond .le 10, 3) := by decide +kernel
theorem dR_readNumber_47 : decode cR_readNumber 47 = .ok (.aload_n 0, 1) := by decide +kernel
theorem dR_readNumber_48 : decode cR_readNumber 48 = .ok (.iconst 4, 1) := by decide +kernel
theorem dR_readNumber_49 : decode cR_readNumber 49 = .ok (.iload 4, 2) := by decide +kernel
theorem dR_readNumber_51 : decode cR_readNumber 51 = .ok (.invokevirtual 73, 3) := by decide +kernel
theorem dR_readNumber_54 : decode cR_readNumber 54 = .ok (.aload_n 0, 1) := by decide +kernel
theorem dR_readNumber_55 : decode cR_readNumber 55 = .ok (.getfield 38, 3) := by decide +kernel
theorem dR_readNumber_58 : decode cR_readNumber 58 = .ok (.iload_n 1, 1) := by decide +kernel
theorem dR_readNumber_59 : decode cR_readNumber 59 = .ok (.iload_n 2, 1) := by decide +kernel
theorem dR_readNumber_60 : decode cR_readNumber 60 = .ok (.lload 5, 2) := by decide +kernel
theorem dR_readNumber_62 : decode cR_readNumber 62 = .ok (.invokevirtual 92, 3) := by decide +kernel
theorem dR_readNumber_65 : decode cR_readNumber 65 = .ok (.iload_n 2, 1) := by decide +kernel
theorem dR_readNumber_66 : decode cR_readNumber 66 = .ok (.bipush 8, 2) := by decide +kernel
theorem dR_readNumber_68 : decode cR_readNumber 68 = .ok (.if_icmp .ne 49, 3) := by decide +kernel
theorem dR_readNumber_71 : decode cR_readNumber 71 = .ok (.iconst 0, 1) := by decide +kernel
theorem dR_readNumber_72 : decode cR_readNumber 72 = .ok (.istore 7, 2) := by decide +kernel
theorem dR_readNumber_74 : decode cR_readNumber 74 = .ok (.iload 7, 2) := by decide +kernel
theorem dR_readNumber_76 : decode cR_readNumber 76 = .ok (.i2l, 1) := by decide +kernel
theorem dR_readNumber_77 : decode cR_readNumber 77 = .ok (.lload 5, 2) := by decide +kernel
theorem dR_readNumber_79 : decode cR_readNumber 79 = .ok (.lcmp, 1) := by decide +kernel
theorem dR_readNumber_80 : decode cR_readNumber 80 = .ok (.ifCond .ge 37, 3) := by decide +kernel
theorem dR_readNumber_83 : decode cR_readNumber 83 = .ok (.iload 7, 2) := by decide +kernel
theorem dR_readNumber_85 : decode cR_readNumber 85 = .ok (.bipush 64, 2) := by decide +kernel
theorem dR_readNumber_87 : decode cR_readNumber 87 = .ok (.if_icmp .ge 30, 3) := by decide +kernel
theorem dR_readNumber_90 : decode cR_readNumber 90 = .ok (.aload_n 0, 1) := by decide +kernel
theorem dR_readNumber_91 : decode cR_readNumber 91 = .ok (.getfield 28, 3) := by decide +kernel
theorem dR_readNumber_94 : decode cR_readNumber 94 = .ok (.ifCond .ne 23, 3) := by decide +kernel
theorem dR_readNumber_97 : decode cR_readNumber 97 = .ok (.aload_n 0, 1) := by decide +kernel
theorem dR_readNumber_98 : decode cR_readNumber 98 = .ok (.getfield 38, 3) := by decide +kernel
theorem dR_readNumber_101 : decode cR_readNumber 101 = .ok (.iload_n 1, 1) := by decide +kernel
theorem dR_readNumber_102 : decode cR_readNumber 102 = .ok (.iload 7, 2) := by decide +kernel
theorem dR_readNumber_104 : decode cR_readNumber 104 = .ok (.aload_n 0, 1) := by decide +kernel
theorem dR_readNumber_105 : decode cR_readNumber 105 = .ok (.invokevirtual 63, 3) := by decide +kernel
theorem dR_readNumber_108 : decode cR_readNumber 108 = .ok (.invokevirtual 96, 3) := by decide +kernel
theorem dR_readNumber_111 : decode cR_readNumber 111 = .ok (.iinc 7 1, 3) := by decide +kernel
theorem dR_readNumber_114 : decode cR_readNumber 114 = .ok (.goto (-40), 3) := by decide +kernel
theorem dR_readNumber_117 : decode cR_readNumber 117 = .ok (.return_, 1) := by decide +kernel
theorem dR_takeNumber_0 : decode cR_takeNumber 0 = .ok (.iload_n 1, 1) := by decide +kernel
theorem dR_takeNumber_1 : decode cR_takeNumber 1 = .ok (.tableswitch 71 0 9 #[55, 71, 71, 71, 71, 71, 65, 60, 65, 65], 55) := by decide +kernel
theorem dR_takeNumber_56 : decode cR_takeNumber 56 = .ok (.aload_n 0, 1) := by decide +kernel
theorem dR_takeNumber_57 : decode cR_takeNumber 57 = .ok (.invokevirtual 99, 3) := by decide +kernel
theorem dR_takeNumber_60 : decode cR_takeNumber 60 = .ok (.lreturn, 1) := by decide +kernel
theorem dR_takeNumber_61 : decode cR_takeNumber 61 = .ok (.aload_n 0, 1) := by decide +kernel
theorem dR_takeNumber_62 : decode cR_takeNumber 62 = .ok (.invokevirtual 103, 3) := by decide +kernel
theorem dR_takeNumber_65 : decode cR_takeNumber 65 = .ok (.lreturn, 1) := by decide +kernel
theorem dR_takeNumber_66 : decode cR_takeNumber 66 = .ok (.aload_n 0, 1) := by decide +kernel
theorem dR_takeNumber_67 : decode cR_takeNumber 67 = .ok (.invokevirtual 63, 3) := by decide +kernel
theorem dR_takeNumber_70 : decode cR_takeNumber 70 = .ok (.i2l, 1) := by decide +kernel
theorem dR_takeNumber_71 : decode cR_takeNumber 71 = .ok (.lreturn, 1) := by decide +kernel
theorem dR_takeNumber_72 : decode cR_takeNumber 72 = .ok (.lconst 0, 1) := by decide +kernel
theorem dR_takeNumber_73 : decode cR_takeNumber 73 = .ok (.lreturn, 1) := by decide +kernel
theorem dR_takeUnsigned_0 : decode cR_takeUnsigned 0 = .ok (.lconst 0, 1) := by decide +kernel
theorem dR_takeUnsigned_1 : decode cR_takeUnsigned 1 = .ok (.lstore_n 1, 1) := by decide +kernel
theorem dR_takeUnsigned_2 : decode cR_takeUnsigned 2 = .ok (.iconst 0, 1) := by decide +kernel
theorem dR_takeUnsigned_3 : decode cR_takeUnsigned 3 = .ok (.istore_n 3, 1) := by decide +kernel
theorem dR_takeUnsigned_4 : decode cR_takeUnsigned 4 = .ok (.sipush 128, 3) := by decide +kernel
theorem dR_takeUnsigned_7 : decode cR_takeUnsigned 7 = .ok (.istore 4, 2) := by decide +kernel
theorem dR_takeUnsigned_9 : decode cR_takeUnsigned 9 = .ok (.iload 4, 2) := by decide +kernel
theorem dR_takeUnsigned_11 : decode cR_takeUnsigned 11 = .ok (.sipush 128, 3) := by decide +kernel
theorem dR_takeUnsigned_14 : decode cR_takeUnsigned 14 = .ok (.if_icmp .lt 34, 3) := by decide +kernel
theorem dR_takeUnsigned_17 : decode cR_takeUnsigned 17 = .ok (.iload_n 3, 1) := by decide +kernel
theorem dR_takeUnsigned_18 : decode cR_takeUnsigned 18 = .ok (.iconst 5, 1) := by decide +kernel
theorem dR_takeUnsigned_19 : decode cR_takeUnsigned 19 = .ok (.if_icmp .ge 29, 3) := by decide +kernel
theorem dR_takeUnsigned_22 : decode cR_takeUnsigned 22 = .ok (.aload_n 0, 1) := by decide +kernel
theorem dR_takeUnsigned_23 : decode cR_takeUnsigned 23 = .ok (.invokevirtual 63, 3) := by decide +kernel
theorem dR_takeUnsigned_26 : decode cR_takeUnsigned 26 = .ok (.istore 4, 2) := by decide +kernel
theorem dR_takeUnsigned_28 : decode cR_takeUnsigned 28 = .ok (.lload_n 1, 1) := by decide +kernel
theorem dR_takeUnsigned_29 : decode cR_takeUnsigned 29 = .ok (.iload 4, 2) := by decide +kernel
theorem dR_takeUnsigned_31 : decode cR_takeUnsigned 31 = .ok (.bipush 127, 2) := by decide +kernel
theorem dR_takeUnsigned_33 : decode cR_takeUnsigned 33 = .ok (.iand, 1) := by decide +kernel
theorem dR_takeUnsigned_34 : decode cR_takeUnsigned 34 = .ok (.i2l, 1) := by decide +kernel
theorem dR_takeUnsigned_35 : decode cR_takeUnsigned 35 = .ok (.bipush 7, 2) := by decide +kernel
theorem dR_takeUnsigned_37 : decode cR_takeUnsigned 37 = .ok (.iload_n 3, 1) := by decide +kernel
theorem dR_takeUnsigned_38 : decode cR_takeUnsigned 38 = .ok (.imul, 1) := by decide +kernel
theorem dR_takeUnsigned_39 : decode cR_takeUnsigned 39 = .ok (.lshl, 1) := by decide +kernel
theorem dR_takeUnsigned_40 : decode cR_takeUnsigned 40 = .ok (.lor, 1) := by decide +kernel
theorem dR_takeUnsigned_41 : decode cR_takeUnsigned 41 = .ok (.lstore_n 1, 1) := by decide +kernel
theorem dR_takeUnsigned_42 : decode cR_takeUnsigned 42 = .ok (.iinc 3 1, 3) := by decide +kernel
theorem dR_takeUnsigned_45 : decode cR_takeUnsigned 45 = .ok (.goto (-36), 3) := by decide +kernel
theorem dR_takeUnsigned_48 : decode cR_takeUnsigned 48 = .ok (.iload 4, 2) := by decide +kernel
theorem dR_takeUnsigned_50 : decode cR_takeUnsigned 50 = .ok (.sipush 128, 3) := by decide +kernel
theorem dR_takeUnsigned_53 : decode cR_takeUnsigned 53 = .ok (.if_icmp .ge 19, 3) := by decide +kernel
theorem dR_takeUnsigned_56 : decode cR_takeUnsigned 56 = .ok (.lload_n 1, 1) := by decide +kernel
theorem dR_takeUnsigned_57 : decode cR_takeUnsigned 57 = .ok (.ldc2_w 108, 3) := by decide +kernel
theorem dR_takeUnsigned_60 : decode cR_takeUnsigned 60 = .ok (.lcmp, 1) := by decide +kernel
theorem dR_takeUnsigned_61 : decode cR_takeUnsigned 61 = .ok (.ifCond .gt 11, 3) := by decide +kernel
theorem dR_takeUnsigned_64 : decode cR_takeUnsigned 64 = .ok (.lload_n 1, 1) := by decide +kernel
theorem dR_takeUnsigned_65 : decode cR_takeUnsigned 65 = .ok (.invokestatic 110, 3) := by decide +kernel
theorem dR_takeUnsigned_68 : decode cR_takeUnsigned 68 = .ok (.iload_n 3, 1) := by decide +kernel
theorem dR_takeUnsigned_69 : decode cR_takeUnsigned 69 = .ok (.if_icmp .eq 14, 3) := by decide +kernel
theorem dR_takeUnsigned_72 : decode cR_takeUnsigned 72 = .ok (.aload_n 0, 1) := by decide +kernel
theorem dR_takeUnsigned_73 : decode cR_takeUnsigned 73 = .ok (.iconst 2, 1) := by decide +kernel
theorem dR_takeUnsigned_74 : decode cR_takeUnsigned 74 = .ok (.aload_n 0, 1) := by decide +kernel
theorem dR_takeUnsigned_75 : decode cR_takeUnsigned 75 = .ok (.getfield 22, 3) := by decide +kernel
theorem dR_takeUnsigned_78 : decode cR_takeUnsigned 78 = .ok (.iconst 1, 1) := by decide +kernel
theorem dR_takeUnsigned_79 : decode cR_takeUnsigned 79 = .ok (.isub, 1) := by decide +kernel
theorem dR_takeUnsigned_80 : decode cR_takeUnsigned 80 = .ok (.invokevirtual 73, 3) := by decide +kernel
theorem dR_takeUnsigned_83 : decode cR_takeUnsigned 83 = .ok (.lload_n 1, 1) := by decide +kernel
theorem dR_takeUnsigned_84 : decode cR_takeUnsigned 84 = .ok (.lreturn, 1) := by decide +kernel
theorem dR_takeSigned_0 : decode cR_takeSigned 0 = .ok (.lconst 0, 1) := by decide +kernel
theorem dR_takeSigned_1 : decode cR_takeSigned 1 = .ok (.lstore_n 1, 1) := by decide +kernel
theorem dR_takeSigned_2 : decode cR_takeSigned 2 = .ok (.iconst 0, 1) := by decide +kernel
theorem dR_takeSigned_3 : decode cR_takeSigned 3 = .ok (.istore_n 3, 1) := by decide +kernel
theorem dR_takeSigned_4 : decode cR_takeSigned 4 = .ok (.sipush 128, 3) := by decide +kernel
theorem dR_takeSigned_7 : decode cR_takeSigned 7 = .ok (.istore 4, 2) := by decide +kernel
theorem dR_takeSigned_9 : decode cR_takeSigned 9 = .ok (.iload 4, 2) := by decide +kernel
theorem dR_takeSigned_11 : decode cR_takeSigned 11 = .ok (.sipush 128, 3) := by decide +kernel
theorem dR_takeSigned_14 : decode cR_takeSigned 14 = .ok (.if_icmp .lt 35, 3) := by decide +kernel
theorem dR_takeSigned_17 : decode cR_takeSigned 17 = .ok (.iload_n 3, 1) := by decide +kernel
theorem dR_takeSigned_18 : decode cR_takeSigned 18 = .ok (.bipush 10, 2) := by decide +kernel
theorem dR_takeSigned_20 : decode cR_takeSigned 20 = .ok (.if_icmp .ge 29, 3) := by decide +kernel
theorem dR_takeSigned_23 : decode cR_takeSigned 23 = .ok (.aload_n 0, 1) := by decide +kernel
theorem dR_takeSigned_24 : decode cR_takeSigned 24 = .ok (.invokevirtual 63, 3) := by decide +kernel
theorem dR_takeSigned_27 : decode cR_takeSigned 27 = .ok (.istore 4, 2) := by decide +kernel
theorem dR_takeSigned_29 : decode cR_takeSigned 29 = .ok (.lload_n 1, 1) := by decide +kernel
theorem dR_takeSigned_30 : decode cR_takeSigned 30 = .ok (.iload 4, 2) := by decide +kernel
theorem dR_takeSigned_32 : decode cR_takeSigned 32 = .ok (.bipush 127, 2) := by decide +kernel
theorem dR_takeSigned_34 : decode cR_takeSigned 34 = .ok (.iand, 1) := by decide +kernel
theorem dR_takeSigned_35 : decode cR_takeSigned 35 = .ok (.i2l, 1) := by decide +kernel
theorem dR_takeSigned_36 : decode cR_takeSigned 36 = .ok (.bipush 7, 2) := by decide +kernel
theorem dR_takeSigned_38 : decode cR_takeSigned 38 = .ok (.iload_n 3, 1) := by decide +kernel
theorem dR_takeSigned_39 : decode cR_takeSigned 39 = .ok (.imul, 1) := by decide +kernel
theorem dR_takeSigned_40 : decode cR_takeSigned 40 = .ok (.lshl, 1) := by decide +kernel
theorem dR_takeSigned_41 : decode cR_takeSigned 41 = .ok (.lor, 1) := by decide +kernel
theorem dR_takeSigned_42 : decode cR_takeSigned 42 = .ok (.lstore_n 1, 1) := by decide +kernel
theorem dR_takeSigned_43 : decode cR_takeSigned 43 = .ok (.iinc 3 1, 3) := by decide +kernel
theorem dR_takeSigned_46 : decode cR_takeSigned 46 = .ok (.goto (-37), 3) := by decide +kernel
theorem dR_takeSigned_49 : decode cR_takeSigned 49 = .ok (.iload_n 3, 1) := by decide +kernel
theorem dR_takeSigned_50 : decode cR_takeSigned 50 = .ok (.bipush 10, 2) := by decide +kernel
theorem dR_takeSigned_52 : decode cR_takeSigned 52 = .ok (.if_icmp .ne 7, 3) := by decide +kernel
theorem dR_takeSigned_55 : decode cR_takeSigned 55 = .ok (.iconst 1, 1) := by decide +kernel
theorem dR_takeSigned_56 : decode cR_takeSigned 56 = .ok (.goto 4, 3) := by decide +kernel
theorem dR_takeSigned_59 : decode cR_takeSigned 59 = .ok (.iconst 0, 1) := by decide +kernel
theorem dR_takeSigned_60 : decode cR_takeSigned 60 = .ok (.istore 5, 2) := by decide +kernel
theorem dR_takeSigned_62 : decode cR_takeSigned 62 = .ok (.iload 5, 2) := by decide +kernel
theorem dR_takeSigned_64 : decode cR_takeSigned 64 = .ok (.ifCond .ne 22, 3) := by decide +kernel
theorem dR_takeSigned_67 : decode cR_takeSigned 67 = .ok (.iload 4, 2) := by decide +kernel
theorem dR_takeSigned_69 : decode cR_takeSigned 69 = .ok (.bipush 64, 2) := by decide +kernel
theorem dR_takeSigned_71 : decode cR_takeSigned 71 = .ok (.iand, 1) := by decide +kernel
theorem dR_takeSigned_72 : decode cR_takeSigned 72 = .ok (.ifCond .eq 14, 3) := by decide +kernel
theorem dR_takeSigned_75 : decode cR_takeSigned 75 = .ok (.lload_n 1, 1) := by decide +kernel
theorem dR_takeSigned_76 : decode cR_takeSigned 76 = .ok (.ldc2_w 114, 3) := by decide +kernel
theorem dR_takeSigned_79 : decode cR_takeSigned 79 = .ok (.bipush 7, 2) := by decide +kernel
theorem dR_takeSigned_81 : decode cR_takeSigned 81 = .ok (.iload_n 3, 1) := by decide +kernel
theorem dR_takeSigned_82 : decode cR_takeSigned 82 = .ok (.imul, 1) := by decide +kernel
theorem dR_takeSigned_83 : decode cR_takeSigned 83 = .ok (.lshl, 1) := by decide +kernel
theorem dR_takeSigned_84 : decode cR_takeSigned 84 = .ok (.lor, 1) := by decide +kernel
theorem dR_takeSigned_85 : decode cR_takeSigned 85 = .ok (.lstore_n 1, 1) := by decide +kernel
theorem dR_takeSigned_86 : decode cR_takeSigned 86 = .ok (.iload 5, 2) := by decide +kernel
theorem dR_takeSigned_88 : decode cR_takeSigned 88 = .ok (.ifCond .eq 15, 3) := by decide +kernel
theorem dR_takeSigned_91 : decode cR_takeSigned 91 = .ok (.iload 4, 2) := by decide +kernel
theorem dR_takeSigned_93 : decode cR_takeSigned 93 = .ok (.ifCond .eq 10, 3) := by decide +kernel
theorem dR_takeSigned_96 : decode cR_takeSigned 96 = .ok (.iload 4, 2) := by decide +kernel
theorem dR_takeSigned_98 : decode cR_takeSigned 98 = .ok (.bipush 127, 2) := by decide +kernel
theorem dR_takeSigned_100 : decode cR_takeSigned 100 = .ok (.if_icmp .ne 7, 3) := by decide +kernel
theorem dR_takeSigned_103 : decode cR_takeSigned 103 = .ok (.iconst 1, 1) := by decide +kernel
theorem dR_takeSigned_104 : decode cR_takeSigned 104 = .ok (.goto 4, 3) := by decide +kernel
theorem dR_takeSigned_107 : decode cR_takeSigned 107 = .ok (.iconst 0, 1) := by decide +kernel
theorem dR_takeSigned_108 : decode cR_takeSigned 108 = .ok (.istore 6, 2) := by decide +kernel
theorem dR_takeSigned_110 : decode cR_takeSigned 110 = .ok (.iload 6, 2) := by decide +kernel
theorem dR_takeSigned_112 : decode cR_takeSigned 112 = .ok (.ifCond .eq 11, 3) := by decide +kernel
theorem dR_takeSigned_115 : decode cR_takeSigned 115 = .ok (.lload_n 1, 1) := by decide +kernel
theorem dR_takeSigned_116 : decode cR_takeSigned 116 = .ok (.invokestatic 116, 3) := by decide +kernel
theorem dR_takeSigned_119 : decode cR_takeSigned 119 = .ok (.iload_n 3, 1) := by decide +kernel
theorem dR_takeSigned_120 : decode cR_takeSigned 120 = .ok (.if_icmp .eq 14, 3) := by decide +kernel
theorem dR_takeSigned_123 : decode cR_takeSigned 123 = .ok (.aload_n 0, 1) := by decide +kernel
theorem dR_takeSigned_124 : decode cR_takeSigned 124 = .ok (.iconst 2, 1) := by decide +kernel
theorem dR_takeSigned_125 : decode cR_takeSigned 125 = .ok (.aload_n 0, 1) := by decide +kernel
theorem dR_takeSigned_126 : decode cR_takeSigned 126 = .ok (.getfield 22, 3) := by decide +kernel
theorem dR_takeSigned_129 : decode cR_takeSigned 129 = .ok (.iconst 1, 1) := by decide +kernel
theorem dR_takeSigned_130 : decode cR_takeSigned 130 = .ok (.isub, 1) := by decide +kernel
theorem dR_takeSigned_131 : decode cR_takeSigned 131 = .ok (.invokevirtual 73, 3) := by decide +kernel
theorem dR_takeSigned_134 : decode cR_takeSigned 134 = .ok (.lload_n 1, 1) := by decide +kernel
theorem dR_takeSigned_135 : decode cR_takeSigned 135 = .ok (.lreturn, 1) := by decide +kernel
theorem dR_takeByte_0 : decode cR_takeByte 0 = .ok (.aload_n 0, 1) := by decide +kernel
theorem dR_takeByte_1 : decode cR_takeByte 1 = .ok (.getfield 34, 3) := by decide +kernel
theorem dR_takeByte_4 : decode cR_takeByte 4 = .ok (.aload_n 0, 1) := by decide +kernel
theorem dR_takeByte_5 : decode cR_takeByte 5 = .ok (.getfield 22, 3) := by decide +kernel
theorem dR_takeByte_8 : decode cR_takeByte 8 = .ok (.invokevirtual 119, 3) := by decide +kernel
theorem dR_takeByte_11 : decode cR_takeByte 11 = .ok (.istore_n 1, 1) := by decide +kernel
theorem dR_takeByte_12 : decode cR_takeByte 12 = .ok (.iload_n 1, 1) := by decide +kernel
theorem dR_takeByte_13 : decode cR_takeByte 13 = .ok (.ifCond .ge 17, 3) := by decide +kernel
theorem dR_takeByte_16 : decode cR_takeByte 16 = .ok (.aload_n 0, 1) := by decide +kernel
theorem dR_takeByte_17 : decode cR_takeByte 17 = .ok (.iconst 1, 1) := by decide +kernel
theorem dR_takeByte_18 : decode cR_takeByte 18 = .ok (.aload_n 0, 1) := by decide +kernel
theorem dR_takeByte_19 : decode cR_takeByte 19 = .ok (.getfield 34, 3) := by decide +kernel
theorem dR_takeByte_22 : decode cR_takeByte 22 = .ok (.getfield 42, 3) := by decide +kernel
theorem dR_takeByte_25 : decode cR_takeByte 25 = .ok (.invokevirtual 73, 3) := by decide +kernel
theorem dR_takeByte_28 : decode cR_takeByte 28 = .ok (.iconst 0, 1) := by decide +kernel
theorem dR_takeByte_29 : decode cR_takeByte 29 = .ok (.ireturn, 1) := by decide +kernel
theorem dR_takeByte_30 : decode cR_takeByte 30 = .ok (.aload_n 0, 1) := by decide +kernel
theorem dR_takeByte_31 : decode cR_takeByte 31 = .ok (.dup, 1) := by decide +kernel
theorem dR_takeByte_32 : decode cR_takeByte 32 = .ok (.getfield 22, 3) := by decide +kernel
theorem dR_takeByte_35 : decode cR_takeByte 35 = .ok (.iconst 1, 1) := by decide +kernel
theorem dR_takeByte_36 : decode cR_takeByte 36 = .ok (.iadd, 1) := by decide +kernel
theorem dR_takeByte_37 : decode cR_takeByte 37 = .ok (.putfield 22, 3) := by decide +kernel
theorem dR_takeByte_40 : decode cR_takeByte 40 = .ok (.iload_n 1, 1) := by decide +kernel
theorem dR_takeByte_41 : decode cR_takeByte 41 = .ok (.ireturn, 1) := by decide +kernel
theorem dR_await_0 : decode cR_await 0 = .ok (.iconst 0, 1) := by decide +kernel
theorem dR_await_1 : decode cR_await 1 = .ok (.istore 4, 2) := by decide +kernel
theorem dR_await_3 : decode cR_await 3 = .ok (.iload 4, 2) := by decide +kernel
theorem dR_await_5 : decode cR_await 5 = .ok (.iload_n 1, 1) := by decide +kernel
theorem dR_await_6 : decode cR_await 6 = .ok (.if_icmp .ge 48, 3) := by decide +kernel
theorem dR_await_9 : decode cR_await 9 = .ok (.aload_n 0, 1) := by decide +kernel
theorem dR_await_10 : decode cR_await 10 = .ok (.getfield 18, 3) := by decide +kernel
theorem dR_await_13 : decode cR_await 13 = .ok (.bipush 62, 2) := by decide +kernel
theorem dR_await_15 : decode cR_await 15 = .ok (.if_icmp .ge 39, 3) := by decide +kernel
theorem dR_await_18 : decode cR_await 18 = .ok (.aload_n 0, 1) := by decide +kernel
theorem dR_await_19 : decode cR_await 19 = .ok (.getfield 11, 3) := by decide +kernel
theorem dR_await_22 : decode cR_await 22 = .ok (.aload_n 0, 1) := by decide +kernel
theorem dR_await_23 : decode cR_await 23 = .ok (.getfield 18, 3) := by decide +kernel
theorem dR_await_26 : decode cR_await 26 = .ok (.iload_n 2, 1) := by decide +kernel
theorem dR_await_27 : decode cR_await 27 = .ok (.iastore, 1) := by decide +kernel
theorem dR_await_28 : decode cR_await 28 = .ok (.aload_n 0, 1) := by decide +kernel
theorem dR_await_29 : decode cR_await 29 = .ok (.getfield 15, 3) := by decide +kernel
theorem dR_await_32 : decode cR_await 32 = .ok (.aload_n 0, 1) := by decide +kernel
theorem dR_await_33 : decode cR_await 33 = .ok (.getfield 18, 3) := by decide +kernel
theorem dR_await_36 : decode cR_await 36 = .ok (.iload_n 3, 1) := by decide +kernel
theorem dR_await_37 : decode cR_await 37 = .ok (.iastore, 1) := by decide +kernel
theorem dR_await_38 : decode cR_await 38 = .ok (.aload_n 0, 1) := by decide +kernel
theorem dR_await_39 : decode cR_await 39 = .ok (.dup, 1) := by decide +kernel
theorem dR_await_40 : decode cR_await 40 = .ok (.getfield 18, 3) := by decide +kernel
theorem dR_await_43 : decode cR_await 43 = .ok (.iconst 1, 1) := by decide +kernel
theorem dR_await_44 : decode cR_await 44 = .ok (.iadd, 1) := by decide +kernel
theorem dR_await_45 : decode cR_await 45 = .ok (.putfield 18, 3) := by decide +kernel
theorem dR_await_48 : decode cR_await 48 = .ok (.iinc 4 1, 3) := by decide +kernel
theorem dR_await_51 : decode cR_await 51 = .ok (.goto (-48), 3) := by decide +kernel
theorem dR_await_54 : decode cR_await 54 = .ok (.return_, 1) := by decide +kernel
theorem dR_fail_0 : decode cR_fail 0 = .ok (.aload_n 0, 1) := by decide +kernel
theorem dR_fail_1 : decode cR_fail 1 = .ok (.getfield 28, 3) := by decide +kernel
theorem dR_fail_4 : decode cR_fail 4 = .ok (.ifCond .ne 13, 3) := by decide +kernel
theorem dR_fail_7 : decode cR_fail 7 = .ok (.aload_n 0, 1) := by decide +kernel
theorem dR_fail_8 : decode cR_fail 8 = .ok (.iload_n 1, 1) := by decide +kernel
theorem dR_fail_9 : decode cR_fail 9 = .ok (.putfield 28, 3) := by decide +kernel
theorem dR_fail_12 : decode cR_fail 12 = .ok (.aload_n 0, 1) := by decide +kernel
theorem dR_fail_13 : decode cR_fail 13 = .ok (.iload_n 2, 1) := by decide +kernel
theorem dR_fail_14 : decode cR_fail 14 = .ok (.putfield 31, 3) := by decide +kernel
theorem dR_fail_17 : decode cR_fail 17 = .ok (.return_, 1) := by decide +kernel
end
section
theorem dX_init_0 : decode cX_init 0 = .ok (.aload_n 0, 1) := by decide +kernel
theorem dX_init_1 : decode cX_init 1 = .ok (.invokespecial 1, 3) := by decide +kernel
theorem dX_init_4 : decode cX_init 4 = .ok (.aload_n 0, 1) := by decide +kernel
theorem dX_init_5 : decode cX_init 5 = .ok (.new 7, 3) := by decide +kernel
theorem dX_init_8 : decode cX_init 8 = .ok (.dup, 1) := by decide +kernel
theorem dX_init_9 : decode cX_init 9 = .ok (.invokespecial 9, 3) := by decide +kernel
theorem dX_init_12 : decode cX_init 12 = .ok (.putfield 10, 3) := by decide +kernel
theorem dX_init_15 : decode cX_init 15 = .ok (.aload_n 0, 1) := by decide +kernel
theorem dX_init_16 : decode cX_init 16 = .ok (.new 16, 3) := by decide +kernel
theorem dX_init_19 : decode cX_init 19 = .ok (.dup, 1) := by decide +kernel
theorem dX_init_20 : decode cX_init 20 = .ok (.invokespecial 18, 3) := by decide +kernel
theorem dX_init_23 : decode cX_init 23 = .ok (.putfield 19, 3) := by decide +kernel
theorem dX_init_26 : decode cX_init 26 = .ok (.aload_n 0, 1) := by decide +kernel
theorem dX_init_27 : decode cX_init 27 = .ok (.new 16, 3) := by decide +kernel
theorem dX_init_30 : decode cX_init 30 = .ok (.dup, 1) := by decide +kernel
theorem dX_init_31 : decode cX_init 31 = .ok (.invokespecial 18, 3) := by decide +kernel
theorem dX_init_34 : decode cX_init 34 = .ok (.putfield 23, 3) := by decide +kernel
theorem dX_init_37 : decode cX_init 37 = .ok (.aload_n 0, 1) := by decide +kernel
theorem dX_init_38 : decode cX_init 38 = .ok (.new 26, 3) := by decide +kernel
theorem dX_init_41 : decode cX_init 41 = .ok (.dup, 1) := by decide +kernel
theorem dX_init_42 : decode cX_init 42 = .ok (.aload_n 0, 1) := by decide +kernel
theorem dX_init_43 : decode cX_init 43 = .ok (.getfield 23, 3) := by decide +kernel
theorem dX_init_46 : decode cX_init 46 = .ok (.aload_n 0, 1) := by decide +kernel
theorem dX_init_47 : decode cX_init 47 = .ok (.getfield 10, 3) := by decide +kernel
theorem dX_init_50 : decode cX_init 50 = .ok (.invokespecial 28, 3) := by decide +kernel
theorem dX_init_53 : decode cX_init 53 = .ok (.putfield 31, 3) := by decide +kernel
theorem dX_init_56 : decode cX_init 56 = .ok (.return_, 1) := by decide +kernel
theorem dX_clear_0 : decode cX_clear 0 = .ok (.aload_n 0, 1) := by decide +kernel
theorem dX_clear_1 : decode cX_clear 1 = .ok (.getfield 10, 3) := by decide +kernel
theorem dX_clear_4 : decode cX_clear 4 = .ok (.iconst 0, 1) := by decide +kernel
theorem dX_clear_5 : decode cX_clear 5 = .ok (.putfield 35, 3) := by decide +kernel
theorem dX_clear_8 : decode cX_clear 8 = .ok (.aload_n 0, 1) := by decide +kernel
theorem dX_clear_9 : decode cX_clear 9 = .ok (.getfield 10, 3) := by decide +kernel
theorem dX_clear_12 : decode cX_clear 12 = .ok (.iconst 0, 1) := by decide +kernel
theorem dX_clear_13 : decode cX_clear 13 = .ok (.putfield 39, 3) := by decide +kernel
theorem dX_clear_16 : decode cX_clear 16 = .ok (.return_, 1) := by decide +kernel
theorem dX_node_0 : decode cX_node 0 = .ok (.iload_n 1, 1) := by decide +kernel
theorem dX_node_1 : decode cX_node 1 = .ok (.invokestatic 42, 3) := by decide +kernel
theorem dX_node_4 : decode cX_node 4 = .ok (.ifCond .eq 17, 3) := by decide +kernel
theorem dX_node_7 : decode cX_node 7 = .ok (.iload_n 1, 1) := by decide +kernel
theorem dX_node_8 : decode cX_node 8 = .ok (.bipush 8, 2) := by decide +kernel
theorem dX_node_10 : decode cX_node 10 = .ok (.if_icmp .eq 11, 3) := by decide +kernel
theorem dX_node_13 : decode cX_node 13 = .ok (.iload_n 1, 1) := by decide +kernel
theorem dX_node_14 : decode cX_node 14 = .ok (.lload_n 2, 1) := by decide +kernel
theorem dX_node_15 : decode cX_node 15 = .ok (.invokestatic 48, 3) := by decide +kernel
theorem dX_node_18 : decode cX_node 18 = .ok (.ifCond .ne 13, 3) := by decide +kernel
theorem dX_node_21 : decode cX_node 21 = .ok (.new 52, 3) := by decide +kernel
theorem dX_node_24 : decode cX_node 24 = .ok (.dup, 1) := by decide +kernel
theorem dX_node_25 : decode cX_node 25 = .ok (.ldc 54, 2) := by decide +kernel
theorem dX_node_27 : decode cX_node 27 = .ok (.invokespecial 56, 3) := by decide +kernel
theorem dX_node_30 : decode cX_node 30 = .ok (.athrow, 1) := by decide +kernel
theorem dX_node_31 : decode cX_node 31 = .ok (.aload_n 0, 1) := by decide +kernel
theorem dX_node_32 : decode cX_node 32 = .ok (.getfield 10, 3) := by decide +kernel
theorem dX_node_35 : decode cX_node 35 = .ok (.iload_n 1, 1) := by decide +kernel
theorem dX_node_36 : decode cX_node 36 = .ok (.lload_n 2, 1) := by decide +kernel
theorem dX_node_37 : decode cX_node 37 = .ok (.invokevirtual 59, 3) := by decide +kernel
theorem dX_node_40 : decode cX_node 40 = .ok (.ifCond .ne 13, 3) := by decide +kernel
theorem dX_node_43 : decode cX_node 43 = .ok (.new 62, 3) := by decide +kernel
theorem dX_node_46 : decode cX_node 46 = .ok (.dup, 1) := by decide +kernel
theorem dX_node_47 : decode cX_node 47 = .ok (.ldc 64, 2) := by decide +kernel
theorem dX_node_49 : decode cX_node 49 = .ok (.invokespecial 66, 3) := by decide +kernel
theorem dX_node_52 : decode cX_node 52 = .ok (.athrow, 1) := by decide +kernel
theorem dX_node_53 : decode cX_node 53 = .ok (.aload_n 0, 1) := by decide +kernel
theorem dX_node_54 : decode cX_node 54 = .ok (.getfield 10, 3) := by decide +kernel
theorem dX_node_57 : decode cX_node 57 = .ok (.getfield 35, 3) := by decide +kernel
theorem dX_node_60 : decode cX_node 60 = .ok (.ireturn, 1) := by decide +kernel
theorem dX_bytes_0 : decode cX_bytes 0 = .ok (.iload_n 3, 1) := by decide +kernel
theorem dX_bytes_1 : decode cX_bytes 1 = .ok (.ifCond .lt 9, 3) := by decide +kernel
theorem dX_bytes_4 : decode cX_bytes 4 = .ok (.iload_n 3, 1) := by decide +kernel
theorem dX_bytes_5 : decode cX_bytes 5 = .ok (.bipush 8, 2) := by decide +kernel
theorem dX_bytes_7 : decode cX_bytes 7 = .ok (.if_icmp .le 13, 3) := by decide +kernel
theorem dX_bytes_10 : decode cX_bytes 10 = .ok (.new 52, 3) := by decide +kernel
theorem dX_bytes_13 : decode cX_bytes 13 = .ok (.dup, 1) := by decide +kernel
theorem dX_bytes_14 : decode cX_bytes 14 = .ok (.ldc 67, 2) := by decide +kernel
theorem dX_bytes_16 : decode cX_bytes 16 = .ok (.invokespecial 56, 3) := by decide +kernel
theorem dX_bytes_19 : decode cX_bytes 19 = .ok (.athrow, 1) := by decide +kernel
theorem dX_bytes_20 : decode cX_bytes 20 = .ok (.aload_n 0, 1) := by decide +kernel
theorem dX_bytes_21 : decode cX_bytes 21 = .ok (.getfield 10, 3) := by decide +kernel
theorem dX_bytes_24 : decode cX_bytes 24 = .ok (.bipush 8, 2) := by decide +kernel
theorem dX_bytes_26 : decode cX_bytes 26 = .ok (.lconst 0, 1) := by decide +kernel
theorem dX_bytes_27 : decode cX_bytes 27 = .ok (.invokevirtual 59, 3) := by decide +kernel
theorem dX_bytes_30 : decode cX_bytes 30 = .ok (.ifCond .ne 13, 3) := by decide +kernel
theorem dX_bytes_33 : decode cX_bytes 33 = .ok (.new 62, 3) := by decide +kernel
theorem dX_bytes_36 : decode cX_bytes 36 = .ok (.dup, 1) := by decide +kernel
theorem dX_bytes_37 : decode cX_bytes 37 = .ok (.ldc 69, 2) := by decide +kernel
theorem dX_bytes_39 : decode cX_bytes 39 = .ok (.invokespecial 66, 3) := by decide +kernel
theorem dX_bytes_42 : decode cX_bytes 42 = .ok (.athrow, 1) := by decide +kernel
theorem dX_bytes_43 : decode cX_bytes 43 = .ok (.aload_n 0, 1) := by decide +kernel
theorem dX_bytes_44 : decode cX_bytes 44 = .ok (.getfield 10, 3) := by decide +kernel
theorem dX_bytes_47 : decode cX_bytes 47 = .ok (.lload_n 1, 1) := by decide +kernel
theorem dX_bytes_48 : decode cX_bytes 48 = .ok (.iload_n 3, 1) := by decide +kernel
theorem dX_bytes_49 : decode cX_bytes 49 = .ok (.invokevirtual 71, 3) := by decide +kernel
theorem dX_bytes_52 : decode cX_bytes 52 = .ok (.pop, 1) := by decide +kernel
theorem dX_bytes_53 : decode cX_bytes 53 = .ok (.aload_n 0, 1) := by decide +kernel
theorem dX_bytes_54 : decode cX_bytes 54 = .ok (.getfield 10, 3) := by decide +kernel
theorem dX_bytes_57 : decode cX_bytes 57 = .ok (.getfield 35, 3) := by decide +kernel
theorem dX_bytes_60 : decode cX_bytes 60 = .ok (.ireturn, 1) := by decide +kernel
theorem dX_more_0 : decode cX_more 0 = .ok (.iload_n 3, 1) := by decide +kernel
theorem dX_more_1 : decode cX_more 1 = .ok (.iconst 1, 1) := by decide +kernel
theorem dX_more_2 : decode cX_more 2 = .ok (.if_icmp .lt 25, 3) := by decide +kernel
theorem dX_more_5 : decode cX_more 5 = .ok (.iload_n 3, 1) := by decide +kernel
theorem dX_more_6 : decode cX_more 6 = .ok (.bipush 8, 2) := by decide +kernel
theorem dX_more_8 : decode cX_more 8 = .ok (.if_icmp .gt 19, 3) := by decide +kernel
theorem dX_more_11 : decode cX_more 11 = .ok (.aload_n 0, 1) := by decide +kernel
theorem dX_more_12 : decode cX_more 12 = .ok (.getfield 10, 3) := by decide +kernel
theorem dX_more_15 : decode cX_more 15 = .ok (.lload_n 1, 1) := by decide +kernel
theorem dX_more_16 : decode cX_more 16 = .ok (.iload_n 3, 1) := by decide +kernel
theorem dX_more_17 : decode cX_more 17 = .ok (.invokevirtual 71, 3) := by decide +kernel
theorem dX_more_20 : decode cX_more 20 = .ok (.ifCond .eq 7, 3) := by decide +kernel
theorem dX_more_23 : decode cX_more 23 = .ok (.iconst 1, 1) := by decide +kernel
theorem dX_more_24 : decode cX_more 24 = .ok (.goto 4, 3) := by decide +kernel
theorem dX_more_27 : decode cX_more 27 = .ok (.iconst 0, 1) := by decide +kernel
theorem dX_more_28 : decode cX_more 28 = .ok (.ireturn, 1) := by decide +kernel
theorem dX_drop_0 : decode cX_drop 0 = .ok (.aload_n 0, 1) := by decide +kernel
theorem dX_drop_1 : decode cX_drop 1 = .ok (.getfield 10, 3) := by decide +kernel
theorem dX_drop_4 : decode cX_drop 4 = .ok (.invokevirtual 75, 3) := by decide +kernel
theorem dX_drop_7 : decode cX_drop 7 = .ok (.ireturn, 1) := by decide +kernel
theorem dX_twice_0 : decode cX_twice 0 = .ok (.aload_n 0, 1) := by decide +kernel
theorem dX_twice_1 : decode cX_twice 1 = .ok (.getfield 10, 3) := by decide +kernel
theorem dX_twice_4 : decode cX_twice 4 = .ok (.invokevirtual 79, 3) := by decide +kernel
theorem dX_twice_7 : decode cX_twice 7 = .ok (.ireturn, 1) := by decide +kernel
theorem dX_split_0 : decode cX_split 0 = .ok (.aload_n 0, 1) := by decide +kernel
theorem dX_split_1 : decode cX_split 1 = .ok (.getfield 10, 3) := by decide +kernel
theorem dX_split_4 : decode cX_split 4 = .ok (.invokevirtual 82, 3) := by decide +kernel
theorem dX_split_7 : decode cX_split 7 = .ok (.ireturn, 1) := by decide +kernel
theorem dX_write_0 : decode cX_write 0 = .ok (.aload_n 0, 1) := by decide +kernel
theorem dX_write_1 : decode cX_write 1 = .ok (.getfield 10, 3) := by decide +kernel
theorem dX_write_4 : decode cX_write 4 = .ok (.invokevirtual 86, 3) := by decide +kernel
theorem dX_write_7 : decode cX_write 7 = .ok (.istore_n 1, 1) := by decide +kernel
theorem dX_write_8 : decode cX_write 8 = .ok (.iload_n 1, 1) := by decide +kernel
theorem dX_write_9 : decode cX_write 9 = .ok (.ifCond .lt 22, 3) := by decide +kernel
theorem dX_write_12 : decode cX_write 12 = .ok (.aload_n 0, 1) := by decide +kernel
theorem dX_write_13 : decode cX_write 13 = .ok (.getfield 10, 3) := by decide +kernel
theorem dX_write_16 : decode cX_write 16 = .ok (.getfield 89, 3) := by decide +kernel
theorem dX_write_19 : decode cX_write 19 = .ok (.iload_n 1, 1) := by decide +kernel
theorem dX_write_20 : decode cX_write 20 = .ok (.iaload, 1) := by decide +kernel
theorem dX_write_21 : decode cX_write 21 = .ok (.aload_n 0, 1) := by decide +kernel
theorem dX_write_22 : decode cX_write 22 = .ok (.getfield 19, 3) := by decide +kernel
theorem dX_write_25 : decode cX_write 25 = .ok (.invokevirtual 93, 3) := by decide +kernel
theorem dX_write_28 : decode cX_write 28 = .ok (.if_icmp .le 5, 3) := by decide +kernel
theorem dX_write_31 : decode cX_write 31 = .ok (.iconst (-1), 1) := by decide +kernel
theorem dX_write_32 : decode cX_write 32 = .ok (.ireturn, 1) := by decide +kernel
theorem dX_write_33 : decode cX_write 33 = .ok (.iload_n 1, 1) := by decide +kernel
theorem dX_write_34 : decode cX_write 34 = .ok (.aload_n 0, 1) := by decide +kernel
theorem dX_write_35 : decode cX_write 35 = .ok (.getfield 10, 3) := by decide +kernel
theorem dX_write_38 : decode cX_write 38 = .ok (.getfield 96, 3) := by decide +kernel
theorem dX_write_41 : decode cX_write 41 = .ok (.iload_n 1, 1) := by decide +kernel
theorem dX_write_42 : decode cX_write 42 = .ok (.iaload, 1) := by decide +kernel
theorem dX_write_43 : decode cX_write 43 = .ok (.iadd, 1) := by decide +kernel
theorem dX_write_44 : decode cX_write 44 = .ok (.istore_n 2, 1) := by decide +kernel
theorem dX_write_45 : decode cX_write 45 = .ok (.iload_n 1, 1) := by decide +kernel
theorem dX_write_46 : decode cX_write 46 = .ok (.istore_n 3, 1) := by decide +kernel
theorem dX_write_47 : decode cX_write 47 = .ok (.iload_n 3, 1) := by decide +kernel
theorem dX_write_48 : decode cX_write 48 = .ok (.iload_n 2, 1) := by decide +kernel
theorem dX_write_49 : decode cX_write 49 = .ok (.if_icmp .ge 28, 3) := by decide +kernel
theorem dX_write_52 : decode cX_write 52 = .ok (.iload_n 3, 1) := by decide +kernel
theorem dX_write_53 : decode cX_write 53 = .ok (.sipush 200, 3) := by decide +kernel
theorem dX_write_56 : decode cX_write 56 = .ok (.if_icmp .ge 21, 3) := by decide +kernel
theorem dX_write_59 : decode cX_write 59 = .ok (.aload_n 0, 1) := by decide +kernel
theorem dX_write_60 : decode cX_write 60 = .ok (.getfield 10, 3) := by decide +kernel
theorem dX_write_63 : decode cX_write 63 = .ok (.iload_n 3, 1) := by decide +kernel
theorem dX_write_64 : decode cX_write 64 = .ok (.aload_n 0, 1) := by decide +kernel
theorem dX_write_65 : decode cX_write 65 = .ok (.getfield 19, 3) := by decide +kernel
theorem dX_write_68 : decode cX_write 68 = .ok (.invokevirtual 99, 3) := by decide +kernel
theorem dX_write_71 : decode cX_write 71 = .ok (.iinc 3 1, 3) := by decide +kernel
theorem dX_write_74 : decode cX_write 74 = .ok (.goto (-27), 3) := by decide +kernel
theorem dX_write_77 : decode cX_write 77 = .ok (.aload_n 0, 1) := by decide +kernel
theorem dX_write_78 : decode cX_write 78 = .ok (.getfield 19, 3) := by decide +kernel
theorem dX_write_81 : decode cX_write 81 = .ok (.getfield 103, 3) := by decide +kernel
theorem dX_write_84 : decode cX_write 84 = .ok (.ireturn, 1) := by decide +kernel
theorem dX_wipe_0 : decode cX_wipe 0 = .ok (.aload_n 0, 1) := by decide +kernel
theorem dX_wipe_1 : decode cX_wipe 1 = .ok (.getfield 19, 3) := by decide +kernel
theorem dX_wipe_4 : decode cX_wipe 4 = .ok (.iconst 0, 1) := by decide +kernel
theorem dX_wipe_5 : decode cX_wipe 5 = .ok (.putfield 103, 3) := by decide +kernel
theorem dX_wipe_8 : decode cX_wipe 8 = .ok (.return_, 1) := by decide +kernel
theorem dX_give_0 : decode cX_give 0 = .ok (.iload_n 3, 1) := by decide +kernel
theorem dX_give_1 : decode cX_give 1 = .ok (.iconst 1, 1) := by decide +kernel
theorem dX_give_2 : decode cX_give 2 = .ok (.if_icmp .lt 20, 3) := by decide +kernel
theorem dX_give_5 : decode cX_give 5 = .ok (.iload_n 3, 1) := by decide +kernel
theorem dX_give_6 : decode cX_give 6 = .ok (.bipush 8, 2) := by decide +kernel
theorem dX_give_8 : decode cX_give 8 = .ok (.if_icmp .gt 14, 3) := by decide +kernel
theorem dX_give_11 : decode cX_give 11 = .ok (.iload_n 3, 1) := by decide +kernel
theorem dX_give_12 : decode cX_give 12 = .ok (.aload_n 0, 1) := by decide +kernel
theorem dX_give_13 : decode cX_give 13 = .ok (.getfield 23, 3) := by decide +kernel
theorem dX_give_16 : decode cX_give 16 = .ok (.invokevirtual 93, 3) := by decide +kernel
theorem dX_give_19 : decode cX_give 19 = .ok (.if_icmp .le 5, 3) := by decide +kernel
theorem dX_give_22 : decode cX_give 22 = .ok (.iconst 0, 1) := by decide +kernel
theorem dX_give_23 : decode cX_give 23 = .ok (.ireturn, 1) := by decide +kernel
theorem dX_give_24 : decode cX_give 24 = .ok (.iload_n 3, 1) := by decide +kernel
theorem dX_give_25 : decode cX_give 25 = .ok (.iconst 1, 1) := by decide +kernel
theorem dX_give_26 : decode cX_give 26 = .ok (.isub, 1) := by decide +kernel
theorem dX_give_27 : decode cX_give 27 = .ok (.istore 4, 2) := by decide +kernel
theorem dX_give_29 : decode cX_give 29 = .ok (.iload 4, 2) := by decide +kernel
theorem dX_give_31 : decode cX_give 31 = .ok (.ifCond .lt 22, 3) := by decide +kernel
theorem dX_give_34 : decode cX_give 34 = .ok (.aload_n 0, 1) := by decide +kernel
theorem dX_give_35 : decode cX_give 35 = .ok (.getfield 23, 3) := by decide +kernel
theorem dX_give_38 : decode cX_give 38 = .ok (.lload_n 1, 1) := by decide +kernel
theorem dX_give_39 : decode cX_give 39 = .ok (.iload 4, 2) := by decide +kernel
theorem dX_give_41 : decode cX_give 41 = .ok (.invokestatic 106, 3) := by decide +kernel
theorem dX_give_44 : decode cX_give 44 = .ok (.invokevirtual 110, 3) := by decide +kernel
theorem dX_give_47 : decode cX_give 47 = .ok (.iinc 4 (-1), 3) := by decide +kernel
theorem dX_give_50 : decode cX_give 50 = .ok (.goto (-21), 3) := by decide +kernel
theorem dX_give_53 : decode cX_give 53 = .ok (.iconst 1, 1) := by decide +kernel
theorem dX_give_54 : decode cX_give 54 = .ok (.ireturn, 1) := by decide +kernel
theorem dX_cut_0 : decode cX_cut 0 = .ok (.iload_n 1, 1) := by decide +kernel
theorem dX_cut_1 : decode cX_cut 1 = .ok (.ifCond .lt 14, 3) := by decide +kernel
theorem dX_cut_4 : decode cX_cut 4 = .ok (.iload_n 1, 1) := by decide +kernel
theorem dX_cut_5 : decode cX_cut 5 = .ok (.aload_n 0, 1) := by decide +kernel
theorem dX_cut_6 : decode cX_cut 6 = .ok (.getfield 23, 3) := by decide +kernel
theorem dX_cut_9 : decode cX_cut 9 = .ok (.getfield 103, 3) := by decide +kernel
theorem dX_cut_12 : decode cX_cut 12 = .ok (.if_icmp .le 5, 3) := by decide +kernel
theorem dX_cut_15 : decode cX_cut 15 = .ok (.iconst 0, 1) := by decide +kernel
theorem dX_cut_16 : decode cX_cut 16 = .ok (.ireturn, 1) := by decide +kernel
theorem dX_cut_17 : decode cX_cut 17 = .ok (.aload_n 0, 1) := by decide +kernel
theorem dX_cut_18 : decode cX_cut 18 = .ok (.getfield 23, 3) := by decide +kernel
theorem dX_cut_21 : decode cX_cut 21 = .ok (.iload_n 1, 1) := by decide +kernel
theorem dX_cut_22 : decode cX_cut 22 = .ok (.putfield 103, 3) := by decide +kernel
theorem dX_cut_25 : decode cX_cut 25 = .ok (.aload_n 0, 1) := by decide +kernel
theorem dX_cut_26 : decode cX_cut 26 = .ok (.getfield 31, 3) := by decide +kernel
theorem dX_cut_29 : decode cX_cut 29 = .ok (.iconst 0, 1) := by decide +kernel
theorem dX_cut_30 : decode cX_cut 30 = .ok (.putfield 114, 3) := by decide +kernel
theorem dX_cut_33 : decode cX_cut 33 = .ok (.iconst 1, 1) := by decide +kernel
theorem dX_cut_34 : decode cX_cut 34 = .ok (.ireturn, 1) := by decide +kernel
theorem dX_turn_0 : decode cX_turn 0 = .ok (.aload_n 0, 1) := by decide +kernel
theorem dX_turn_1 : decode cX_turn 1 = .ok (.getfield 23, 3) := by decide +kernel
theorem dX_turn_4 : decode cX_turn 4 = .ok (.aload_n 0, 1) := by decide +kernel
theorem dX_turn_5 : decode cX_turn 5 = .ok (.getfield 19, 3) := by decide +kernel
theorem dX_turn_8 : decode cX_turn 8 = .ok (.invokevirtual 117, 3) := by decide +kernel
theorem dX_turn_11 : decode cX_turn 11 = .ok (.aload_n 0, 1) := by decide +kernel
theorem dX_turn_12 : decode cX_turn 12 = .ok (.getfield 31, 3) := by decide +kernel
theorem dX_turn_15 : decode cX_turn 15 = .ok (.iconst 0, 1) := by decide +kernel
theorem dX_turn_16 : decode cX_turn 16 = .ok (.putfield 114, 3) := by decide +kernel
theorem dX_turn_19 : decode cX_turn 19 = .ok (.return_, 1) := by decide +kernel
theorem dX_read_0 : decode cX_read 0 = .ok (.aload_n 0, 1) := by decide +kernel
theorem dX_read_1 : decode cX_read 1 = .ok (.getfield 31, 3) := by decide +kernel
theorem dX_read_4 : decode cX_read 4 = .ok (.invokevirtual 121, 3) := by decide +kernel
theorem dX_read_7 : decode cX_read 7 = .ok (.ireturn, 1) := by decide +kernel
theorem dX_of_0 : decode cX_of 0 = .ok (.aload_n 0, 1) := by decide +kernel
theorem dX_of_1 : decode cX_of 1 = .ok (.getfield 10, 3) := by decide +kernel
theorem dX_of_4 : decode cX_of 4 = .ok (.iload_n 1, 1) := by decide +kernel
theorem dX_of_5 : decode cX_of 5 = .ok (.invokevirtual 124, 3) := by decide +kernel
theorem dX_of_8 : decode cX_of 8 = .ok (.istore_n 3, 1) := by decide +kernel
theorem dX_of_9 : decode cX_of 9 = .ok (.iload_n 3, 1) := by decide +kernel
theorem dX_of_10 : decode cX_of 10 = .ok (.ifCond .ge 5, 3) := by decide +kernel
theorem dX_of_13 : decode cX_of 13 = .ok (.iconst (-1), 1) := by decide +kernel
theorem dX_of_14 : decode cX_of 14 = .ok (.ireturn, 1) := by decide +kernel
theorem dX_of_15 : decode cX_of 15 = .ok (.iload_n 2, 1) := by decide +kernel
theorem dX_of_16 : decode cX_of 16 = .ok (.tableswitch 98 0 5 #[40, 50, 60, 70, 80, 89], 40) := by decide +kernel
theorem dX_of_56 : decode cX_of 56 = .ok (.aload_n 0, 1) := by decide +kernel
theorem dX_of_57 : decode cX_of 57 = .ok (.getfield 10, 3) := by decide +kernel
theorem dX_of_60 : decode cX_of 60 = .ok (.getfield 128, 3) := by decide +kernel
theorem dX_of_63 : decode cX_of 63 = .ok (.iload_n 3, 1) := by decide +kernel
theorem dX_of_64 : decode cX_of 64 = .ok (.iaload, 1) := by decide +kernel
theorem dX_of_65 : decode cX_of 65 = .ok (.ireturn, 1) := by decide +kernel
theorem dX_of_66 : decode cX_of 66 = .ok (.aload_n 0, 1) := by decide +kernel
theorem dX_of_67 : decode cX_of 67 = .ok (.getfield 10, 3) := by decide +kernel
theorem dX_of_70 : decode cX_of 70 = .ok (.getfield 96, 3) := by decide +kernel
theorem dX_of_73 : decode cX_of 73 = .ok (.iload_n 3, 1) := by decide +kernel
theorem dX_of_74 : decode cX_of 74 = .ok (.iaload, 1) := by decide +kernel
theorem dX_of_75 : decode cX_of 75 = .ok (.ireturn, 1) := by decide +kernel
theorem dX_of_76 : decode cX_of 76 = .ok (.aload_n 0, 1) := by decide +kernel
theorem dX_of_77 : decode cX_of 77 = .ok (.getfield 10, 3) := by decide +kernel
theorem dX_of_80 : decode cX_of 80 = .ok (.getfield 131, 3) := by decide +kernel
theorem dX_of_83 : decode cX_of 83 = .ok (.iload_n 3, 1) := by decide +kernel
theorem dX_of_84 : decode cX_of 84 = .ok (.iaload, 1) := by decide +kernel
theorem dX_of_85 : decode cX_of 85 = .ok (.ireturn, 1) := by decide +kernel
theorem dX_of_86 : decode cX_of 86 = .ok (.aload_n 0, 1) := by decide +kernel
theorem dX_of_87 : decode cX_of 87 = .ok (.getfield 10, 3) := by decide +kernel
theorem dX_of_90 : decode cX_of 90 = .ok (.getfield 134, 3) := by decide +kernel
theorem dX_of_93 : decode cX_of 93 = .ok (.iload_n 3, 1) := by decide +kernel
theorem dX_of_94 : decode cX_of 94 = .ok (.iaload, 1) := by decide +kernel
theorem dX_of_95 : decode cX_of 95 = .ok (.ireturn, 1) := by decide +kernel
theorem dX_of_96 : decode cX_of 96 = .ok (.aload_n 0, 1) := by decide +kernel
theorem dX_of_97 : decode cX_of 97 = .ok (.getfield 10, 3) := by decide +kernel
theorem dX_of_100 : decode cX_of 100 = .ok (.iload_n 1, 1) := by decide +kernel
theorem dX_of_101 : decode cX_of 101 = .ok (.invokevirtual 137, 3) := by decide +kernel
theorem dX_of_104 : decode cX_of 104 = .ok (.ireturn, 1) := by decide +kernel
theorem dX_of_105 : decode cX_of 105 = .ok (.aload_n 0, 1) := by decide +kernel
theorem dX_of_106 : decode cX_of 106 = .ok (.getfield 10, 3) := by decide +kernel
theorem dX_of_109 : decode cX_of 109 = .ok (.iload_n 3, 1) := by decide +kernel
theorem dX_of_110 : decode cX_of 110 = .ok (.invokevirtual 140, 3) := by decide +kernel
theorem dX_of_113 : decode cX_of 113 = .ok (.ireturn, 1) := by decide +kernel
theorem dX_of_114 : decode cX_of 114 = .ok (.iconst (-1), 1) := by decide +kernel
theorem dX_of_115 : decode cX_of 115 = .ok (.ireturn, 1) := by decide +kernel
theorem dX_number_0 : decode cX_number 0 = .ok (.aload_n 0, 1) := by decide +kernel
theorem dX_number_1 : decode cX_number 1 = .ok (.getfield 10, 3) := by decide +kernel
theorem dX_number_4 : decode cX_number 4 = .ok (.iload_n 1, 1) := by decide +kernel
theorem dX_number_5 : decode cX_number 5 = .ok (.invokevirtual 124, 3) := by decide +kernel
theorem dX_number_8 : decode cX_number 8 = .ok (.istore_n 2, 1) := by decide +kernel
theorem dX_number_9 : decode cX_number 9 = .ok (.iload_n 2, 1) := by decide +kernel
theorem dX_number_10 : decode cX_number 10 = .ok (.ifCond .lt 18, 3) := by decide +kernel
theorem dX_number_13 : decode cX_number 13 = .ok (.aload_n 0, 1) := by decide +kernel
theorem dX_number_14 : decode cX_number 14 = .ok (.getfield 10, 3) := by decide +kernel
theorem dX_number_17 : decode cX_number 17 = .ok (.getfield 128, 3) := by decide +kernel
theorem dX_number_20 : decode cX_number 20 = .ok (.iload_n 2, 1) := by decide +kernel
theorem dX_number_21 : decode cX_number 21 = .ok (.iaload, 1) := by decide +kernel
theorem dX_number_22 : decode cX_number 22 = .ok (.invokestatic 143, 3) := by decide +kernel
theorem dX_number_25 : decode cX_number 25 = .ok (.ifCond .ne 13, 3) := by decide +kernel
theorem dX_number_28 : decode cX_number 28 = .ok (.new 52, 3) := by decide +kernel
theorem dX_number_31 : decode cX_number 31 = .ok (.dup, 1) := by decide +kernel
theorem dX_number_32 : decode cX_number 32 = .ok (.ldc 146, 2) := by decide +kernel
theorem dX_number_34 : decode cX_number 34 = .ok (.invokespecial 56, 3) := by decide +kernel
theorem dX_number_37 : decode cX_number 37 = .ok (.athrow, 1) := by decide +kernel
theorem dX_number_38 : decode cX_number 38 = .ok (.aload_n 0, 1) := by decide +kernel
theorem dX_number_39 : decode cX_number 39 = .ok (.getfield 10, 3) := by decide +kernel
theorem dX_number_42 : decode cX_number 42 = .ok (.getfield 148, 3) := by decide +kernel
theorem dX_number_45 : decode cX_number 45 = .ok (.iload_n 2, 1) := by decide +kernel
theorem dX_number_46 : decode cX_number 46 = .ok (.laload, 1) := by decide +kernel
theorem dX_number_47 : decode cX_number 47 = .ok (.lreturn, 1) := by decide +kernel
theorem dX_byteAt_0 : decode cX_byteAt 0 = .ok (.aload_n 0, 1) := by decide +kernel
theorem dX_byteAt_1 : decode cX_byteAt 1 = .ok (.getfield 10, 3) := by decide +kernel
theorem dX_byteAt_4 : decode cX_byteAt 4 = .ok (.iload_n 1, 1) := by decide +kernel
theorem dX_byteAt_5 : decode cX_byteAt 5 = .ok (.invokevirtual 124, 3) := by decide +kernel
theorem dX_byteAt_8 : decode cX_byteAt 8 = .ok (.istore_n 3, 1) := by decide +kernel
theorem dX_byteAt_9 : decode cX_byteAt 9 = .ok (.iload_n 3, 1) := by decide +kernel
theorem dX_byteAt_10 : decode cX_byteAt 10 = .ok (.ifCond .lt 19, 3) := by decide +kernel
theorem dX_byteAt_13 : decode cX_byteAt 13 = .ok (.iload_n 2, 1) := by decide +kernel
theorem dX_byteAt_14 : decode cX_byteAt 14 = .ok (.ifCond .lt 15, 3) := by decide +kernel
theorem dX_byteAt_17 : decode cX_byteAt 17 = .ok (.iload_n 2, 1) := by decide +kernel
theorem dX_byteAt_18 : decode cX_byteAt 18 = .ok (.aload_n 0, 1) := by decide +kernel
theorem dX_byteAt_19 : decode cX_byteAt 19 = .ok (.getfield 10, 3) := by decide +kernel
theorem dX_byteAt_22 : decode cX_byteAt 22 = .ok (.iload_n 3, 1) := by decide +kernel
theorem dX_byteAt_23 : decode cX_byteAt 23 = .ok (.invokevirtual 140, 3) := by decide +kernel
theorem dX_byteAt_26 : decode cX_byteAt 26 = .ok (.if_icmp .lt 5, 3) := by decide +kernel
theorem dX_byteAt_29 : decode cX_byteAt 29 = .ok (.iconst (-1), 1) := by decide +kernel
theorem dX_byteAt_30 : decode cX_byteAt 30 = .ok (.ireturn, 1) := by decide +kernel
theorem dX_byteAt_31 : decode cX_byteAt 31 = .ok (.aload_n 0, 1) := by decide +kernel
theorem dX_byteAt_32 : decode cX_byteAt 32 = .ok (.getfield 10, 3) := by decide +kernel
theorem dX_byteAt_35 : decode cX_byteAt 35 = .ok (.iload_n 3, 1) := by decide +kernel
theorem dX_byteAt_36 : decode cX_byteAt 36 = .ok (.iload_n 2, 1) := by decide +kernel
theorem dX_byteAt_37 : decode cX_byteAt 37 = .ok (.invokevirtual 152, 3) := by decide +kernel
theorem dX_byteAt_40 : decode cX_byteAt 40 = .ok (.ireturn, 1) := by decide +kernel
theorem dX_same_0 : decode cX_same 0 = .ok (.aload_n 0, 1) := by decide +kernel
theorem dX_same_1 : decode cX_same 1 = .ok (.getfield 10, 3) := by decide +kernel
theorem dX_same_4 : decode cX_same 4 = .ok (.getfield 35, 3) := by decide +kernel
theorem dX_same_7 : decode cX_same 7 = .ok (.iconst 2, 1) := by decide +kernel
theorem dX_same_8 : decode cX_same 8 = .ok (.if_icmp .ge 13, 3) := by decide +kernel
theorem dX_same_11 : decode cX_same 11 = .ok (.new 62, 3) := by decide +kernel
theorem dX_same_14 : decode cX_same 14 = .ok (.dup, 1) := by decide +kernel
theorem dX_same_15 : decode cX_same 15 = .ok (.ldc 156, 2) := by decide +kernel
theorem dX_same_17 : decode cX_same 17 = .ok (.invokespecial 66, 3) := by decide +kernel
theorem dX_same_20 : decode cX_same 20 = .ok (.athrow, 1) := by decide +kernel
theorem dX_same_21 : decode cX_same 21 = .ok (.aload_n 0, 1) := by decide +kernel
theorem dX_same_22 : decode cX_same 22 = .ok (.getfield 10, 3) := by decide +kernel
theorem dX_same_25 : decode cX_same 25 = .ok (.invokevirtual 158, 3) := by decide +kernel
theorem dX_same_28 : decode cX_same 28 = .ok (.ireturn, 1) := by decide +kernel
theorem dX_output_0 : decode cX_output 0 = .ok (.aload_n 0, 1) := by decide +kernel
theorem dX_output_1 : decode cX_output 1 = .ok (.getfield 19, 3) := by decide +kernel
theorem dX_output_4 : decode cX_output 4 = .ok (.iload_n 1, 1) := by decide +kernel
theorem dX_output_5 : decode cX_output 5 = .ok (.invokevirtual 161, 3) := by decide +kernel
theorem dX_output_8 : decode cX_output 8 = .ok (.ireturn, 1) := by decide +kernel
theorem dX_look_0 : decode cX_look 0 = .ok (.iload_n 1, 1) := by decide +kernel
theorem dX_look_1 : decode cX_look 1 = .ok (.tableswitch 111 0 7 #[47, 55, 63, 71, 79, 87, 95, 103], 47) := by decide +kernel
theorem dX_look_48 : decode cX_look 48 = .ok (.aload_n 0, 1) := by decide +kernel
theorem dX_look_49 : decode cX_look 49 = .ok (.getfield 10, 3) := by decide +kernel
theorem dX_look_52 : decode cX_look 52 = .ok (.getfield 35, 3) := by decide +kernel
theorem dX_look_55 : decode cX_look 55 = .ok (.ireturn, 1) := by decide +kernel
theorem dX_look_56 : decode cX_look 56 = .ok (.aload_n 0, 1) := by decide +kernel
theorem dX_look_57 : decode cX_look 57 = .ok (.getfield 10, 3) := by decide +kernel
theorem dX_look_60 : decode cX_look 60 = .ok (.getfield 39, 3) := by decide +kernel
theorem dX_look_63 : decode cX_look 63 = .ok (.ireturn, 1) := by decide +kernel
theorem dX_look_64 : decode cX_look 64 = .ok (.aload_n 0, 1) := by decide +kernel
theorem dX_look_65 : decode cX_look 65 = .ok (.getfield 19, 3) := by decide +kernel
theorem dX_look_68 : decode cX_look 68 = .ok (.getfield 103, 3) := by decide +kernel
theorem dX_look_71 : decode cX_look 71 = .ok (.ireturn, 1) := by decide +kernel
theorem dX_look_72 : decode cX_look 72 = .ok (.aload_n 0, 1) := by decide +kernel
theorem dX_look_73 : decode cX_look 73 = .ok (.getfield 23, 3) := by decide +kernel
theorem dX_look_76 : decode cX_look 76 = .ok (.getfield 103, 3) := by decide +kernel
theorem dX_look_79 : decode cX_look 79 = .ok (.ireturn, 1) := by decide +kernel
theorem dX_look_80 : decode cX_look 80 = .ok (.aload_n 0, 1) := by decide +kernel
theorem dX_look_81 : decode cX_look 81 = .ok (.getfield 31, 3) := by decide +kernel
theorem dX_look_84 : decode cX_look 84 = .ok (.getfield 114, 3) := by decide +kernel
theorem dX_look_87 : decode cX_look 87 = .ok (.ireturn, 1) := by decide +kernel
theorem dX_look_88 : decode cX_look 88 = .ok (.aload_n 0, 1) := by decide +kernel
theorem dX_look_89 : decode cX_look 89 = .ok (.getfield 31, 3) := by decide +kernel
theorem dX_look_92 : decode cX_look 92 = .ok (.getfield 164, 3) := by decide +kernel
theorem dX_look_95 : decode cX_look 95 = .ok (.ireturn, 1) := by decide +kernel
theorem dX_look_96 : decode cX_look 96 = .ok (.aload_n 0, 1) := by decide +kernel
theorem dX_look_97 : decode cX_look 97 = .ok (.getfield 31, 3) := by decide +kernel
theorem dX_look_100 : decode cX_look 100 = .ok (.getfield 167, 3) := by decide +kernel
theorem dX_look_103 : decode cX_look 103 = .ok (.ireturn, 1) := by decide +kernel
theorem dX_look_104 : decode cX_look 104 = .ok (.aload_n 0, 1) := by decide +kernel
theorem dX_look_105 : decode cX_look 105 = .ok (.getfield 10, 3) := by decide +kernel
theorem dX_look_108 : decode cX_look 108 = .ok (.invokevirtual 170, 3) := by decide +kernel
theorem dX_look_111 : decode cX_look 111 = .ok (.ireturn, 1) := by decide +kernel
theorem dX_look_112 : decode cX_look 112 = .ok (.iconst (-1), 1) := by decide +kernel
theorem dX_look_113 : decode cX_look 113 = .ok (.ireturn, 1) := by decide +kernel
end
section
/-! PURE 1: terms as lists of nodes in their order (a node: kind, number, bytes); wf n L: L is n terms, one behind the other. -/
abbrev tc_Nd : Type := Nat × Int64 × List Nat
def tc_tk (k : Nat) : Nat := if k = 2 then 2 else if k = 1 ∨ k = 3 ∨ k = 4 then 1 else 0
theorem tc_tk_le (k : Nat) : tc_tk k ≤ 2 := by
  unfold tc_tk
  split
  · exact Nat.le_refl _
  · split <;> omega
def tc_wf : Nat → List tc_Nd → Prop
  | n, [] => n = 0
  | n, x :: R => 0 < n ∧ tc_wf (n - 1 + tc_tk x.1) R
theorem tc_wf_nil {n : Nat} : tc_wf n [] ↔ n = 0 := Iff.rfl
theorem tc_wf_cons {n : Nat} {x : tc_Nd} {R : List tc_Nd} : tc_wf n (x :: R) ↔ 0 < n ∧ tc_wf (n - 1 + tc_tk x.1) R := Iff.rfl
theorem tc_wf_app : ∀ {A B : List tc_Nd} {a b : Nat}, tc_wf a A → tc_wf b B → tc_wf (a + b) (A ++ B)
  | [], B, a, b, hA, hB => by
    have : a = 0 := hA
    subst this
    rw [Nat.zero_add, List.nil_append]; exact hB
  | x :: A, B, a, b, hA, hB => by
    obtain ⟨h0, h1⟩ := hA
    have h2 := tc_wf_app h1 hB
    refine ⟨by omega, ?_⟩
    rw [show a + b - 1 + tc_tk x.1 = a - 1 + tc_tk x.1 + b by omega]
    exact h2
theorem tc_wf_split : ∀ {L : List tc_Nd} {a b : Nat}, tc_wf (a + b) L → ∃ A B, L = A ++ B ∧ tc_wf a A ∧ tc_wf b B
  | [], a, b, h => by
    have h : a + b = 0 := h
    exact ⟨[], [], rfl, (by omega : a = 0), (by omega : b = 0)⟩
  | x :: R, a, b, h => by
    by_cases ha : a = 0
    · subst ha
      exact ⟨[], x :: R, rfl, rfl, by rw [Nat.zero_add] at h; exact h⟩
    · obtain ⟨h0, h1⟩ := h
      rw [show a + b - 1 + tc_tk x.1 = (a - 1 + tc_tk x.1) + b by omega] at h1
      obtain ⟨A, B, hR, hA, hB⟩ := tc_wf_split h1
      exact ⟨x :: A, B, by rw [hR]; rfl, ⟨by omega, hA⟩, hB⟩
/-- a fold from the right with a stack: f gets a node and what its parts gave -/
def tc_ev {α : Type} (f : tc_Nd → List α → α) : List tc_Nd → List α
  | [] => []
  | x :: R => f x ((tc_ev f R).take (tc_tk x.1)) :: (tc_ev f R).drop (tc_tk x.1)
theorem tc_ev_len {α : Type} (f : tc_Nd → List α → α) : ∀ {L : List tc_Nd} {n : Nat}, tc_wf n L → (tc_ev f L).length = n
  | [], n, h => by
    have h : n = 0 := h
    rw [h]; rfl
  | x :: R, n, h => by
    obtain ⟨h0, h1⟩ := h
    have h2 := tc_ev_len f h1
    show ((tc_ev f R).drop (tc_tk x.1)).length + 1 = n
    rw [List.length_drop, h2]
    omega
theorem tc_ev_app {α : Type} (f : tc_Nd → List α → α) : ∀ {A : List tc_Nd} {n : Nat} (B : List tc_Nd), tc_wf n A → tc_ev f (A ++ B) = tc_ev f A ++ tc_ev f B
  | [], n, B, h => rfl
  | x :: R, n, B, h => by
    obtain ⟨h0, h1⟩ := h
    have h2 := tc_ev_app f B h1
    have h3 := tc_ev_len f h1
    show f x ((tc_ev f (R ++ B)).take (tc_tk x.1)) :: (tc_ev f (R ++ B)).drop (tc_tk x.1) = (f x ((tc_ev f R).take (tc_tk x.1)) :: (tc_ev f R).drop (tc_tk x.1)) ++ tc_ev f B
    rw [h2, List.take_append_of_le_length (by omega), List.drop_append_of_le_length (by omega)]
    rfl
/-- the value of one term -/
def tc_tv {α : Type} (f : tc_Nd → List α → α) (d : α) (L : List tc_Nd) : α := (tc_ev f L).headD d
theorem tc_ev_one {α : Type} (f : tc_Nd → List α → α) (d : α) {L : List tc_Nd} (h : tc_wf 1 L) : tc_ev f L = [tc_tv f d L] := by
  have h1 := tc_ev_len f h
  unfold tc_tv
  match hL : tc_ev f L, h1 with
  | [a], _ => rfl
/-- a term's parts -/
theorem tc_parts {x : tc_Nd} {R : List tc_Nd} (h : tc_wf 1 (x :: R)) : tc_wf (tc_tk x.1) R := by
  have := h.2
  rwa [show 1 - 1 + tc_tk x.1 = tc_tk x.1 by omega] at this
theorem tc_tv_0 {α : Type} (f : tc_Nd → List α → α) (d : α) {x : tc_Nd} (hx : tc_tk x.1 = 0) (R : List tc_Nd) : tc_tv f d (x :: R) = f x [] := by
  show f x ((tc_ev f R).take (tc_tk x.1)) = _
  rw [hx, List.take_zero]
theorem tc_tv_1 {α : Type} (f : tc_Nd → List α → α) (d : α) {x : tc_Nd} (hx : tc_tk x.1 = 1) {A : List tc_Nd} (hA : tc_wf 1 A) : tc_tv f d (x :: A) = f x [tc_tv f d A] := by
  show f x ((tc_ev f A).take (tc_tk x.1)) = _
  rw [hx, tc_ev_one f d hA]
  rfl
theorem tc_tv_2 {α : Type} (f : tc_Nd → List α → α) (d : α) {x : tc_Nd} (hx : tc_tk x.1 = 2) {A B : List tc_Nd} (hA : tc_wf 1 A) (hB : tc_wf 1 B) : tc_tv f d (x :: (A ++ B)) = f x [tc_tv f d A, tc_tv f d B] := by
  show f x ((tc_ev f (A ++ B)).take (tc_tk x.1)) = _
  rw [hx, tc_ev_app f B hA, tc_ev_one f d hA, tc_ev_one f d hB]
  rfl
/-- the first of some terms, apart from the rest -/
theorem tc_first {L : List tc_Nd} {n : Nat} (h : tc_wf n L) (hn : 0 < n) : ∃ A B, L = A ++ B ∧ tc_wf 1 A ∧ tc_wf (n - 1) B := by
  rw [show n = 1 + (n - 1) by omega] at h
  exact tc_wf_split h
theorem tc_ind {P : List tc_Nd → Prop} (h0 : ∀ x, tc_tk x.1 = 0 → P [x]) (h1 : ∀ x A, tc_tk x.1 = 1 → tc_wf 1 A → P A → P (x :: A))
    (h2 : ∀ x A B, tc_tk x.1 = 2 → tc_wf 1 A → tc_wf 1 B → P A → P B → P (x :: (A ++ B))) : ∀ (n : Nat) (L : List tc_Nd), L.length ≤ n → tc_wf 1 L → P L
  | 0, [], _, h => absurd h (by intro h; cases h)
  | 0, x :: R, hl, _ => absurd hl (by simp)
  | n + 1, [], _, h => absurd h (by intro h; cases h)
  | n + 1, x :: R, hl, h => by
    have hp := tc_parts h
    have hl' : R.length ≤ n := by simpa using hl
    rcases (show tc_tk x.1 = 0 ∨ tc_tk x.1 = 1 ∨ tc_tk x.1 = 2 by have := tc_tk_le x.1; omega) with q | q | q
    · rw [q] at hp
      match R, hp with
      | [], _ => exact h0 x q
      | y :: R', hp => exact absurd hp.1 (by omega)
    · rw [q] at hp
      exact h1 x R q hp (tc_ind h0 h1 h2 n R hl' hp)
    · rw [q] at hp
      obtain ⟨A, B, rfl, hA, hB⟩ := tc_wf_split (a := 1) (b := 1) hp
      rw [List.length_append] at hl'
      exact h2 x A B q hA hB (tc_ind h0 h1 h2 n A (by omega) hA) (tc_ind h0 h1 h2 n B (by omega) hB)
theorem tc_induct {P : List tc_Nd → Prop} {L : List tc_Nd} (h : tc_wf 1 L) (h0 : ∀ x, tc_tk x.1 = 0 → P [x]) (h1 : ∀ x A, tc_tk x.1 = 1 → tc_wf 1 A → P A → P (x :: A))
    (h2 : ∀ x A B, tc_tk x.1 = 2 → tc_wf 1 A → tc_wf 1 B → P A → P B → P (x :: (A ++ B))) : P L := tc_ind h0 h1 h2 L.length L (Nat.le_refl _) h
-- size, depth, what it lacks
def tc_fs (_ : tc_Nd) (vs : List Nat) : Nat := 1 + vs.sum
def tc_fd (_ : tc_Nd) (vs : List Nat) : Nat := 1 + vs.foldr max 0
def tc_fl (x : tc_Nd) (vs : List Nat) : Nat := if x.1 = 0 then x.2.1.toInt.toNat else if x.1 = 1 then vs.foldr max 0 - 1 else vs.foldr max 0
def tc_sz (L : List tc_Nd) : Nat := tc_tv tc_fs 0 L
def tc_dp (L : List tc_Nd) : Nat := tc_tv tc_fd 0 L
def tc_lk (L : List tc_Nd) : Nat := tc_tv tc_fl 0 L
theorem tc_sz_len {L : List tc_Nd} (h : tc_wf 1 L) : tc_sz L = L.length := by
  refine tc_induct (P := fun L => tc_sz L = L.length) h ?_ ?_ ?_
  · intro x hx
    rw [tc_sz, tc_tv_0 _ _ hx]; rfl
  · intro x A hx hA ih
    rw [tc_sz, tc_tv_1 _ _ hx hA]
    show 1 + [tc_sz A].sum = _
    rw [ih]; simp; omega
  · intro x A B hx hA hB ihA ihB
    rw [tc_sz, tc_tv_2 _ _ hx hA hB]
    show 1 + [tc_sz A, tc_sz B].sum = _
    rw [ihA, ihB]; simp; omega
/-- what stands at place k of some terms is a term of its own -/
theorem tc_at : ∀ {L : List tc_Nd} {n : Nat} (k : Nat), tc_wf n L → k < L.length → ∃ A B m, L.drop k = A ++ B ∧ tc_wf 1 A ∧ tc_wf m B
  | [], n, k, h, hk => absurd hk (by simp)
  | x :: R, n, 0, h, hk => by
    obtain ⟨A, B, e, hA, hB⟩ := tc_first h h.1
    exact ⟨A, B, n - 1, e, hA, hB⟩
  | x :: R, n, k + 1, h, hk => by
    obtain ⟨A, B, m, e, hA, hB⟩ := tc_at k h.2 (by simpa using hk)
    exact ⟨A, B, m, e, hA, hB⟩
theorem tc_wf_drop : ∀ {L : List tc_Nd} {n : Nat} (k : Nat), tc_wf n L → ∃ m, tc_wf m (L.drop k)
  | L, n, 0, h => ⟨n, h⟩
  | [], n, k + 1, h => ⟨n, h⟩
  | x :: R, n, k + 1, h => tc_wf_drop k h.2
/-! PURE 2: open places (of which node, level, lambdas around), and what every node gets of them. -/
abbrev tc_Q : Type := Option Nat × Nat × Nat
def tc_kid (i : Nat) (x : tc_Nd) (q : tc_Q) : List tc_Q := List.replicate (tc_tk x.1) (some i, q.2.1 + 1, q.2.2 + if x.1 = 1 then 1 else 0)
def tc_fw : Nat → List tc_Q → List tc_Nd → List tc_Q
  | _, _, [] => []
  | _, [], _ :: _ => []
  | i, q :: st, x :: R => q :: tc_fw (i + 1) (tc_kid i x q ++ st) R
def tc_pd : Nat → List tc_Q → List tc_Nd → List tc_Q
  | _, st, [] => st
  | _, [], _ :: _ => []
  | i, q :: st, x :: R => tc_pd (i + 1) (tc_kid i x q ++ st) R
theorem tc_fw_nil (i : Nat) (st : List tc_Q) : tc_fw i st [] = [] := by cases st <;> rfl
theorem tc_fw_no (i : Nat) (L : List tc_Nd) : tc_fw i [] L = [] := by cases L <;> rfl
theorem tc_fw_cons (i : Nat) (q : tc_Q) (st : List tc_Q) (x : tc_Nd) (R : List tc_Nd) : tc_fw i (q :: st) (x :: R) = q :: tc_fw (i + 1) (tc_kid i x q ++ st) R := rfl
theorem tc_pd_nil (i : Nat) (st : List tc_Q) : tc_pd i st [] = st := by cases st <;> rfl
theorem tc_pd_no (i : Nat) (L : List tc_Nd) : tc_pd i [] L = [] := by cases L <;> rfl
theorem tc_pd_cons (i : Nat) (q : tc_Q) (st : List tc_Q) (x : tc_Nd) (R : List tc_Nd) : tc_pd i (q :: st) (x :: R) = tc_pd (i + 1) (tc_kid i x q ++ st) R := rfl
theorem tc_kid_len (i : Nat) (x : tc_Nd) (q : tc_Q) : (tc_kid i x q).length = tc_tk x.1 := List.length_replicate
theorem tc_fw_app : ∀ (A B : List tc_Nd) (i : Nat) (st : List tc_Q), tc_fw i st (A ++ B) = tc_fw i st A ++ tc_fw (i + A.length) (tc_pd i st A) B
  | [], B, i, st => by rw [List.nil_append, tc_fw_nil, tc_pd_nil, List.nil_append]; rfl
  | x :: A, B, i, [] => by rw [tc_fw_no, tc_fw_no, tc_pd_no, tc_fw_no]; rfl
  | x :: A, B, i, q :: st => by
    rw [List.cons_append, tc_fw_cons, tc_fw_cons, tc_pd_cons, tc_fw_app A B, List.cons_append, List.length_cons]
    rw [show i + 1 + A.length = i + (A.length + 1) by omega]
theorem tc_pd_app : ∀ (A B : List tc_Nd) (i : Nat) (st : List tc_Q), tc_pd i st (A ++ B) = tc_pd (i + A.length) (tc_pd i st A) B
  | [], B, i, st => by rw [List.nil_append, tc_pd_nil]; rfl
  | x :: A, B, i, [] => by rw [tc_pd_no, tc_pd_no, tc_pd_no]
  | x :: A, B, i, q :: st => by
    rw [List.cons_append, tc_pd_cons, tc_pd_cons, tc_pd_app A B, List.length_cons]
    rw [show i + 1 + A.length = i + (A.length + 1) by omega]
/-- n terms use up the n first open places, and look at no other -/
theorem tc_pd_wf : ∀ {A : List tc_Nd} {n : Nat} (i : Nat) (s1 s2 : List tc_Q), tc_wf n A → s1.length = n → tc_pd i (s1 ++ s2) A = s2 ∧ tc_fw i (s1 ++ s2) A = tc_fw i s1 A
  | [], n, i, s1, s2, h, hl => by
    have h : n = 0 := h
    subst h
    rw [List.eq_nil_of_length_eq_zero hl, List.nil_append]
    exact ⟨tc_pd_nil i s2, by rw [tc_fw_nil, tc_fw_nil]⟩
  | x :: A, n, i, [], s2, h, hl => by
    have := h.1
    simp at hl
    omega
  | x :: A, n, i, q :: s1, s2, h, hl => by
    have h1 := tc_pd_wf (i + 1) (tc_kid i x q ++ s1) s2 h.2 (by rw [List.length_append, tc_kid_len]; simp at hl; omega)
    rw [List.cons_append, tc_pd_cons, tc_fw_cons, tc_fw_cons, ← List.append_assoc]
    exact ⟨h1.1, by rw [h1.2]⟩
theorem tc_fw_len : ∀ {A : List tc_Nd} {n : Nat} (i : Nat) (st : List tc_Q), tc_wf n A → st.length = n → (tc_fw i st A).length = A.length
  | [], n, i, st, h, hl => by rw [tc_fw_nil]; rfl
  | x :: A, n, i, [], h, hl => by
    have := h.1
    simp at hl
    omega
  | x :: A, n, i, q :: st, h, hl => by
    rw [tc_fw_cons, List.length_cons, List.length_cons, tc_fw_len (i + 1) (tc_kid i x q ++ st) h.2 (by rw [List.length_append, tc_kid_len]; simp at hl; omega)]
theorem tc_fw_2 {A B : List tc_Nd} {a : Nat} (i : Nat) (s1 s2 : List tc_Q) (hA : tc_wf a A) (h1 : s1.length = a) : tc_fw i (s1 ++ s2) (A ++ B) = tc_fw i s1 A ++ tc_fw (i + A.length) s2 B := by
  obtain ⟨e1, e2⟩ := tc_pd_wf i s1 s2 hA h1
  rw [tc_fw_app, e1, e2]
/-- a term of parts -/
theorem tc_fw_t1 {x : tc_Nd} {A : List tc_Nd} (hx : tc_tk x.1 = 1) (i : Nat) (q : tc_Q) : tc_fw i [q] (x :: A) = q :: tc_fw (i + 1) [(some i, q.2.1 + 1, q.2.2 + if x.1 = 1 then 1 else 0)] A := by
  rw [tc_fw_cons]
  unfold tc_kid
  rw [hx]
  rfl
theorem tc_fw_t2 {x : tc_Nd} {A B : List tc_Nd} (hx : tc_tk x.1 = 2) (hA : tc_wf 1 A) (i : Nat) (q : tc_Q) :
    tc_fw i [q] (x :: (A ++ B)) = q :: (tc_fw (i + 1) [(some i, q.2.1 + 1, q.2.2 + if x.1 = 1 then 1 else 0)] A ++ tc_fw (i + 1 + A.length) [(some i, q.2.1 + 1, q.2.2 + if x.1 = 1 then 1 else 0)] B) := by
  rw [tc_fw_cons]
  unfold tc_kid
  rw [hx]
  exact congrArg _ (tc_fw_2 (i + 1) [_] [_] hA rfl)
/-- levels never fall below those that stand open -/
theorem tc_fw_lev : ∀ (L : List tc_Nd) (i l : Nat) (st : List tc_Q), (∀ q ∈ st, l ≤ q.2.1) → ∀ q ∈ tc_fw i st L, l ≤ q.2.1
  | [], i, l, st, _, q, hq => by rw [tc_fw_nil] at hq; cases hq
  | x :: R, i, l, [], _, q, hq => by rw [tc_fw_no] at hq; cases hq
  | x :: R, i, l, q0 :: st, h, q, hq => by
    rw [tc_fw_cons] at hq
    rcases List.mem_cons.mp hq with rfl | hq
    · exact h _ List.mem_cons_self
    · refine tc_fw_lev R (i + 1) l _ (fun z hz => ?_) q hq
      rcases List.mem_append.mp hz with hz | hz
      · have := (List.mem_replicate.mp hz).2
        rw [this]
        exact Nat.le_succ_of_le (h _ List.mem_cons_self)
      · exact h z (List.mem_cons_of_mem _ hz)
theorem tc_fw_lc : ∀ (L : List tc_Nd) (i l : Nat) (st : List tc_Q), (∀ q ∈ st, l ≤ q.2.2) → ∀ q ∈ tc_fw i st L, l ≤ q.2.2
  | [], i, l, st, _, q, hq => by rw [tc_fw_nil] at hq; cases hq
  | x :: R, i, l, [], _, q, hq => by rw [tc_fw_no] at hq; cases hq
  | x :: R, i, l, q0 :: st, h, q, hq => by
    rw [tc_fw_cons] at hq
    rcases List.mem_cons.mp hq with rfl | hq
    · exact h _ List.mem_cons_self
    · refine tc_fw_lc R (i + 1) l _ (fun z hz => ?_) q hq
      rcases List.mem_append.mp hz with hz | hz
      · have := (List.mem_replicate.mp hz).2
        rw [this]
        exact Nat.le_trans (h _ List.mem_cons_self) (Nat.le_add_right _ _)
      · exact h z (List.mem_cons_of_mem _ hz)
/-- the greatest level in a term -/
def tc_mx (E : List tc_Q) : Nat := E.foldr (fun q r => max q.2.1 r) 0
theorem tc_mx_app (A B : List tc_Q) : tc_mx (A ++ B) = max (tc_mx A) (tc_mx B) := by
  induction A with
  | nil => exact (Nat.zero_max _).symm
  | cons q A ih =>
    show max q.2.1 (tc_mx (A ++ B)) = max (max q.2.1 (tc_mx A)) (tc_mx B)
    rw [ih, Nat.max_assoc]
theorem tc_dp_pos {L : List tc_Nd} (h : tc_wf 1 L) : 0 < tc_dp L := by
  match L, h with
  | x :: R, h =>
    show 0 < tc_fd x _
    unfold tc_fd
    omega
theorem tc_mx_dp {L : List tc_Nd} (h : tc_wf 1 L) : ∀ (i : Nat) (q : tc_Q), tc_mx (tc_fw i [q] L) = q.2.1 + tc_dp L - 1 := by
  refine tc_induct (P := fun L => ∀ (i : Nat) (q : tc_Q), tc_mx (tc_fw i [q] L) = q.2.1 + tc_dp L - 1) h ?_ ?_ ?_
  · intro x hx i q
    rw [tc_fw_cons, tc_fw_nil, tc_dp, tc_tv_0 _ _ hx]
    show max q.2.1 0 = q.2.1 + (1 + 0) - 1
    omega
  · intro x A hx hA ih i q
    rw [tc_fw_t1 hx, tc_dp, tc_tv_1 _ _ hx hA]
    show max q.2.1 (tc_mx _) = q.2.1 + (1 + max (tc_dp A) 0) - 1
    rw [ih]
    have := tc_dp_pos hA
    show max q.2.1 (q.2.1 + 1 + tc_dp A - 1) = _
    omega
  · intro x A B hx hA hB ihA ihB i q
    rw [tc_fw_t2 hx hA, tc_dp, tc_tv_2 _ _ hx hA hB]
    show max q.2.1 (tc_mx _) = q.2.1 + (1 + max (tc_dp A) (max (tc_dp B) 0)) - 1
    rw [tc_mx_app, ihA, ihB]
    have := tc_dp_pos hA
    have := tc_dp_pos hB
    show max q.2.1 (max (q.2.1 + 1 + tc_dp A - 1) (q.2.1 + 1 + tc_dp B - 1)) = _
    omega
/-- what the variables of a term lack, seen from so many lambdas outside -/
def tc_ml (c : Nat) : List tc_Nd → List tc_Q → Nat
  | x :: L, q :: E => max (if x.1 = 0 then x.2.1.toInt.toNat - (q.2.2 - c) else 0) (tc_ml c L E)
  | _, _ => 0
theorem tc_ml_app (c : Nat) : ∀ (A B : List tc_Nd) (E F : List tc_Q), E.length = A.length → tc_ml c (A ++ B) (E ++ F) = max (tc_ml c A E) (tc_ml c B F)
  | [], B, [], F, _ => (Nat.zero_max _).symm
  | [], B, q :: E, F, h => by simp at h
  | x :: A, B, [], F, h => by simp at h
  | x :: A, B, q :: E, F, h => by
    show max _ (tc_ml c (A ++ B) (E ++ F)) = max (max _ (tc_ml c A E)) (tc_ml c B F)
    rw [tc_ml_app c A B E F (by simpa using h), Nat.max_assoc]
theorem tc_ml_lk {L : List tc_Nd} (h : tc_wf 1 L) : ∀ (i c : Nat) (q : tc_Q), c ≤ q.2.2 → tc_ml c L (tc_fw i [q] L) = tc_lk L - (q.2.2 - c) := by
  refine tc_induct (P := fun L => ∀ (i c : Nat) (q : tc_Q), c ≤ q.2.2 → tc_ml c L (tc_fw i [q] L) = tc_lk L - (q.2.2 - c)) h ?_ ?_ ?_
  · intro x hx i c q hc
    rw [tc_fw_cons, tc_fw_nil, tc_lk, tc_tv_0 _ _ hx]
    show max (if x.1 = 0 then x.2.1.toInt.toNat - (q.2.2 - c) else 0) 0 = tc_fl x [] - (q.2.2 - c)
    unfold tc_fl
    by_cases h0 : x.1 = 0
    · rw [if_pos h0, if_pos h0, Nat.max_zero]
    · rw [if_neg h0, if_neg h0]
      split <;> simp
  · intro x A hx hA ih i c q hc
    rw [tc_fw_t1 hx, tc_lk, tc_tv_1 _ _ hx hA]
    have h0 : ¬ x.1 = 0 := fun q => by rw [q] at hx; exact absurd hx (by decide)
    show max (if x.1 = 0 then x.2.1.toInt.toNat - (q.2.2 - c) else 0) (tc_ml c A _) = tc_fl x [tc_lk A] - (q.2.2 - c)
    rw [if_neg h0, ih (i + 1) c _ (Nat.le_trans hc (Nat.le_add_right _ _))]
    unfold tc_fl
    rw [if_neg h0]
    show max 0 (tc_lk A - (q.2.2 + (if x.1 = 1 then 1 else 0) - c)) = _
    by_cases h1 : x.1 = 1
    · rw [if_pos h1, if_pos h1]
      show _ = max (tc_lk A) 0 - 1 - (q.2.2 - c)
      omega
    · rw [if_neg h1, if_neg h1]
      show _ = max (tc_lk A) 0 - (q.2.2 - c)
      omega
  · intro x A B hx hA hB ihA ihB i c q hc
    rw [tc_fw_t2 hx hA, tc_lk, tc_tv_2 _ _ hx hA hB]
    have h0 : ¬ x.1 = 0 := fun q => by rw [q] at hx; exact absurd hx (by decide)
    have h1 : ¬ x.1 = 1 := fun q => by rw [q] at hx; exact absurd hx (by decide)
    show max (if x.1 = 0 then x.2.1.toInt.toNat - (q.2.2 - c) else 0) (tc_ml c (A ++ B) _) = tc_fl x [tc_lk A, tc_lk B] - (q.2.2 - c)
    rw [if_neg h0, tc_ml_app c A B _ _ (tc_fw_len _ _ hA rfl), ihA (i + 1) c _ (Nat.le_trans hc (Nat.le_add_right _ _)), ihB (i + 1 + A.length) c _ (Nat.le_trans hc (Nat.le_add_right _ _))]
    unfold tc_fl
    rw [if_neg h0, if_neg h1, if_neg h1]
    show max 0 (max (tc_lk A - (q.2.2 + 0 - c)) (tc_lk B - (q.2.2 + 0 - c))) = max (tc_lk A) (max (tc_lk B) 0) - (q.2.2 - c)
    omega
/-! PURE 3: numbers: groups of seven bits, bytes of a long. -/
theorem tc_sar (x : Int64) {k : Nat} (hk : k < 64) : (x >>> ((nI k).toInt64 &&& 63)).toInt = x.toInt >>> k := by
  rw [wb_c k hk]
  show (x.toBitVec.sshiftRight ((lN k).toBitVec.smod 64).toNat).toInt = _
  rw [wb_tb, wb_sm k hk, BitVec.toNat_ofNat, Nat.mod_eq_of_lt (show k < 2 ^ 64 by omega), BitVec.toInt_sshiftRight]
  rfl
theorem tc_sard (x : Int64) {k : Nat} {p : Int} (hk : k < 64) (hp : ((2 ^ k : Nat) : Int) = p) : (x >>> ((nI k).toInt64 &&& 63)).toInt = x.toInt / p := by
  rw [tc_sar x hk, Int.shiftRight_eq_div_pow, hp]
theorem tc_l0 {y : Int64} : y = 0 ↔ y.toInt = 0 := ⟨fun h => by rw [h]; rfl, fun h => Int64.toInt_inj.mp (by rw [h]; rfl)⟩
theorem tc_lm1 {y : Int64} : y = (-1) ↔ y.toInt = -1 := ⟨fun h => by rw [h]; rfl, fun h => Int64.toInt_inj.mp (by rw [h]; rfl)⟩
theorem tc_sg1 (x : Int64) : (x >>> ((nI 6).toInt64 &&& 63) = 0 ∨ x >>> ((nI 6).toInt64 &&& 63) = (-1)) ↔ (-64 ≤ x.toInt ∧ x.toInt < 64) := by
  rw [tc_l0, tc_lm1, tc_sard x (k := 6) (p := 64) (by decide) (by decide)]
  omega
theorem tc_sg2 (x : Int64) : (x >>> ((nI 13).toInt64 &&& 63) = 0 ∨ x >>> ((nI 13).toInt64 &&& 63) = (-1)) ↔ (-8192 ≤ x.toInt ∧ x.toInt < 8192) := by
  rw [tc_l0, tc_lm1, tc_sard x (k := 13) (p := 8192) (by decide) (by decide)]
  omega
theorem tc_sg3 (x : Int64) : (x >>> ((nI 20).toInt64 &&& 63) = 0 ∨ x >>> ((nI 20).toInt64 &&& 63) = (-1)) ↔ (-1048576 ≤ x.toInt ∧ x.toInt < 1048576) := by
  rw [tc_l0, tc_lm1, tc_sard x (k := 20) (p := 1048576) (by decide) (by decide)]
  omega
theorem tc_sg4 (x : Int64) : (x >>> ((nI 27).toInt64 &&& 63) = 0 ∨ x >>> ((nI 27).toInt64 &&& 63) = (-1)) ↔ (-134217728 ≤ x.toInt ∧ x.toInt < 134217728) := by
  rw [tc_l0, tc_lm1, tc_sard x (k := 27) (p := 134217728) (by decide) (by decide)]
  omega
theorem tc_sg5 (x : Int64) : (x >>> ((nI 34).toInt64 &&& 63) = 0 ∨ x >>> ((nI 34).toInt64 &&& 63) = (-1)) ↔ (-17179869184 ≤ x.toInt ∧ x.toInt < 17179869184) := by
  rw [tc_l0, tc_lm1, tc_sard x (k := 34) (p := 17179869184) (by decide) (by decide)]
  omega
theorem tc_sg6 (x : Int64) : (x >>> ((nI 41).toInt64 &&& 63) = 0 ∨ x >>> ((nI 41).toInt64 &&& 63) = (-1)) ↔ (-2199023255552 ≤ x.toInt ∧ x.toInt < 2199023255552) := by
  rw [tc_l0, tc_lm1, tc_sard x (k := 41) (p := 2199023255552) (by decide) (by decide)]
  omega
theorem tc_sg7 (x : Int64) : (x >>> ((nI 48).toInt64 &&& 63) = 0 ∨ x >>> ((nI 48).toInt64 &&& 63) = (-1)) ↔ (-281474976710656 ≤ x.toInt ∧ x.toInt < 281474976710656) := by
  rw [tc_l0, tc_lm1, tc_sard x (k := 48) (p := 281474976710656) (by decide) (by decide)]
  omega
theorem tc_sg8 (x : Int64) : (x >>> ((nI 55).toInt64 &&& 63) = 0 ∨ x >>> ((nI 55).toInt64 &&& 63) = (-1)) ↔ (-36028797018963968 ≤ x.toInt ∧ x.toInt < 36028797018963968) := by
  rw [tc_l0, tc_lm1, tc_sard x (k := 55) (p := 36028797018963968) (by decide) (by decide)]
  omega
theorem tc_sg9 (x : Int64) : (x >>> ((nI 62).toInt64 &&& 63) = 0 ∨ x >>> ((nI 62).toInt64 &&& 63) = (-1)) ↔ (-4611686018427387904 ≤ x.toInt ∧ x.toInt < 4611686018427387904) := by
  rw [tc_l0, tc_lm1, tc_sard x (k := 62) (p := 4611686018427387904) (by decide) (by decide)]
  omega
/-- how many groups S has -/
def tc_gS (z : Int) : Nat := if -64 ≤ z ∧ z < 64 then 1 else if -8192 ≤ z ∧ z < 8192 then 2 else if -1048576 ≤ z ∧ z < 1048576 then 3 else if -134217728 ≤ z ∧ z < 134217728 then 4 else if -17179869184 ≤ z ∧ z < 17179869184 then 5 else if -2199023255552 ≤ z ∧ z < 2199023255552 then 6 else if -281474976710656 ≤ z ∧ z < 281474976710656 then 7 else if -36028797018963968 ≤ z ∧ z < 36028797018963968 then 8 else if -4611686018427387904 ≤ z ∧ z < 4611686018427387904 then 9 else 10
/-- how many groups U has -/
def tc_gU (v : Nat) : Nat := if v < 128 then 1 else if v < 16384 then 2 else if v < 2097152 then 3 else if v < 268435456 then 4 else 5
/-- byte i of a long, the lowest being 0 -/
def tc_by (x : Int64) (i : Nat) : Nat := uN x / 2 ^ (8 * i) % 256
theorem tc_l2i (y : Int64) : y.toInt32.toBitVec.toNat = uN y % 2 ^ 32 := by
  rw [Int64.toBitVec_toInt32, BitVec.signExtend_eq_setWidth_of_le _ (by decide), BitVec.toNat_setWidth]
  rfl
theorem tc_and255 (y : Int64) : y.toInt32 &&& nI 255 = nI (uN y % 256) := by
  rw [pk_and y.toInt32 8 (by decide), tc_l2i]
  congr 1
  omega
theorem tc_and127 (y : Int64) : y.toInt32 &&& nI 127 = nI (uN y % 128) := by
  rw [pk_and y.toInt32 7 (by decide), tc_l2i]
  congr 1
  omega
theorem tc_byteOf (x : Int64) {i : Nat} (hi : i < 8) : ((x.toUInt64 >>> ((nI (8 * i)).toInt64.toUInt64 &&& Int64.toUInt64 63)).toInt64).toInt32 &&& nI 255 = nI (tc_by x i) := by
  rw [tc_and255, uN_sk x (show 8 * i < 64 by omega)]
  rfl
theorem tc_by_lt (x : Int64) (i : Nat) : tc_by x i < 256 := Nat.mod_lt _ (by decide)
theorem tc_uN_int (x : Int64) : (uN x : Int) = x.toInt % 18446744073709551616 := by
  rw [uN_int x]
  have := uN_lt x
  split <;> omega
/-- group i of a long -/
def tc_g7 (x : Int64) (i : Nat) : Nat := (x.toInt / (2 ^ (7 * i) : Nat) % 128).toNat
theorem tc_g7_lt (x : Int64) (i : Nat) : tc_g7 x i < 128 := by
  unfold tc_g7
  omega
theorem tc_g7_ok (x : Int64) {i : Nat} (hi : 7 * i < 64) : (x >>> ((nI (7 * i)).toInt64 &&& 63)).toInt32 &&& nI 127 = nI (tc_g7 x i) := by
  rw [tc_and127]
  congr 1
  have h1 := tc_uN_int (x >>> ((nI (7 * i)).toInt64 &&& 63))
  rw [tc_sard x hi rfl] at h1
  unfold tc_g7
  omega
theorem tc_or128 {v : Nat} (h : v < 128) : nI v ||| nI 128 = nI (v + 128) := by
  have h1 : ∀ v, v < 128 → nI v ||| nI 128 = nI (v + 128) := by decide +kernel
  exact h1 v h
/-! PURE 4: kinds and their numbers. -/
def tc_num (k : Nat) : Bool := decide (k = 0 ∨ k = 6 ∨ k = 7 ∨ k = 9)
def tc_fitP (k : Nat) (x : Int64) : Prop := if k = 0 then 1 ≤ x ∧ x ≤ 200 else if k = 6 then 0 ≤ x ∧ x ≤ 31 else if k = 7 then True else if k = 8 then 0 ≤ x ∧ x ≤ 64 else if k = 9 then x = 0 ∨ x = 1 else x = 0
noncomputable def tc_fit (k : Nat) (x : Int64) : Bool := @decide (tc_fitP k x) (Classical.propDecidable _)
theorem tc_fit_t {k : Nat} {x : Int64} (h : tc_fitP k x) : tc_fit k x = true := by
  unfold tc_fit
  exact @decide_eq_true _ (Classical.propDecidable _) h
theorem tc_fit_f {k : Nat} {x : Int64} (h : ¬ tc_fitP k x) : tc_fit k x = false := by
  unfold tc_fit
  exact @decide_eq_false _ (Classical.propDecidable _) h
theorem tc_fit_iff {k : Nat} {x : Int64} : tc_fit k x = true ↔ tc_fitP k x := by
  by_cases h : tc_fitP k x
  · rw [tc_fit_t h]
    exact ⟨fun _ => h, fun _ => rfl⟩
  · rw [tc_fit_f h]
    exact ⟨fun q => Bool.noConfusion q, fun q => absurd q h⟩
theorem tc_div0 {v p : Nat} (hp : 0 < p) (hv : v / p < 9223372036854775808) (h : lN (v / p) = 0) : v < p := by
  have h1 : v / p = 0 := (pk_lEQ (show v / p < 2 ^ 63 by omega) (show 0 < 2 ^ 63 by decide)).mp h
  exact (Nat.div_eq_zero_iff.mp h1).resolve_left (by omega)
theorem tc_div0' {v p : Nat} (hp : 0 < p) (h : v < p) : lN (v / p) = 0 := by
  rw [Nat.div_eq_of_lt h]
  rfl
/-- byte j of g groups -/
def tc_grb (x : Int64) (g j : Nat) : Nat := if j + 1 < g then tc_g7 x j + 128 else tc_g7 x j
theorem tc_grb_lo {x : Int64} {g j : Nat} (h : j + 1 < g) : tc_grb x g j = tc_g7 x j + 128 := if_pos h
theorem tc_grb_hi {x : Int64} {g j : Nat} (h : ¬ j + 1 < g) : tc_grb x g j = tc_g7 x j := if_neg h
theorem tc_app_grb {x : Int64} {g i sz v : Nat} {bg : Nat → Nat} (h : ∀ j, j < i → bg (sz + j) = tc_grb x g j) (hv : v = tc_grb x g i) : ∀ j, j < i + 1 → va_up bg (sz + i) v (sz + j) = tc_grb x g j := by
  intro j hj
  by_cases e : j = i
  · rw [e, va_up_self, hv]
  · rw [va_up_ne _ _ (by omega)]
    exact h j (by omega)
/-- how many bytes a node has by itself -/
def tc_ol (k : Nat) (x : Int64) : Nat := if k = 0 then 1 + tc_gU x.toInt.toNat else if k = 7 then 1 + tc_gS x.toInt else if k = 8 then 2 + x.toInt.toNat else if k = 6 ∨ k = 9 then 2 else 1
theorem tc_ol_0 {v : Nat} (h : v < 2 ^ 30) : tc_ol 0 (lN v) = 1 + tc_gU v := by
  unfold tc_ol
  rw [if_pos rfl, pk_lT (by omega), Int.toNat_natCast]
theorem tc_ol_8 {v : Nat} (h : v < 2 ^ 30) : tc_ol 8 (lN v) = 2 + v := by
  unfold tc_ol
  rw [if_neg (by decide), if_neg (by decide), if_pos rfl, pk_lT (by omega), Int.toNat_natCast]
def tc_pr : Nat → Option Nat
  | 0 => none
  | n + 1 => some n
theorem tc_pr_sub (k : Nat) : nI k - nI 1 = xk_oI (tc_pr k) := by
  cases k with
  | zero => rfl
  | succ n => exact nI_pred n
theorem tc_pr_dec (k : Nat) : nI k + Int32.ofInt (-1) = xk_oI (tc_pr k) := by
  cases k with
  | zero => rfl
  | succ n => exact pk_m1 n
/-- byte j of the words of node i -/
def tc_wb (wo : Nat → Int64) (i j : Nat) : Nat := tc_by (wo (i * 8 + j / 8)) (7 - j % 8)
theorem tc_tk3 (k : Nat) : tc_tk k = 0 ∨ tc_tk k = 1 ∨ tc_tk k = 2 := by have := tc_tk_le k; omega
/-- where the parts of node i stand -/
def tc_chs (k i : Nat) (si : Nat → Nat) : List Nat := if tc_tk k = 0 then [] else if tc_tk k = 1 then [i + 1] else [i + 1, i + (1 + si (i + 1))]
theorem tc_chs_0 {k i : Nat} {si : Nat → Nat} (h : tc_tk k = 0) : tc_chs k i si = [] := if_pos h
theorem tc_chs_1 {k i : Nat} {si : Nat → Nat} (h : tc_tk k = 1) : tc_chs k i si = [i + 1] := by
  unfold tc_chs
  rw [if_neg (by omega), if_pos h]
theorem tc_chs_2 {k i : Nat} {si : Nat → Nat} (h : tc_tk k = 2) : tc_chs k i si = [i + 1, i + (1 + si (i + 1))] := by
  unfold tc_chs
  rw [if_neg (by omega), if_neg (by omega)]
theorem tc_gU_le (v : Nat) : tc_gU v ≤ 5 := by
  unfold tc_gU
  repeat (split; omega)
  omega
theorem tc_gS_le (z : Int) : tc_gS z ≤ 10 := by
  unfold tc_gS
  repeat (split; omega)
  omega
theorem tc_ol_lt (k : Nat) (x : Int64) (v : Nat) (h : k = 0 ∨ k = 8 → x = lN v ∧ v < 2 ^ 30) : tc_ol k x < 2 ^ 30 + 100 := by
  unfold tc_ol
  have h1 := tc_gU_le x.toInt.toNat
  have h2 := tc_gS_le x.toInt
  split
  · omega
  · split
    · omega
    · split
      · rename_i q
        obtain ⟨e, hv⟩ := h (Or.inr q)
        rw [e, pk_lT (by omega), Int.toNat_natCast]
        omega
      · split <;> omega
theorem tc_se_n {k l0 l1 : Nat} {x : Int64} {vs : List Nat} (e0 : l0 = if k = 0 then x.toInt.toNat else 0) (f3 : l1 = max l0 (vs.foldr max 0)) (h : ¬ k = 1) (h0 : k = 0 → vs = [] := by first | assumption | (intro q; rw [q]; rfl)) : l1 = tc_fl (k, x, []) vs := by
  by_cases hk : k = 0
  · have q : tc_fl (k, x, []) vs = x.toInt.toNat := if_pos hk
    rw [q, f3, e0, if_pos hk, h0 hk]
    show max _ 0 = _
    omega
  · have q : tc_fl (k, x, []) vs = vs.foldr max 0 := (if_neg hk).trans (if_neg h)
    rw [q, f3, e0, if_neg hk]
    omega
theorem tc_se_0 {k l0 l1 : Nat} {x : Int64} {vs : List Nat} (e0 : l0 = if k = 0 then x.toInt.toNat else 0) (f3 : l1 = max l0 (vs.foldr max 0)) (h : k = 1) (hl : l1 = 0) : l1 = tc_fl (k, x, []) vs := by
  unfold tc_fl
  rw [if_neg (by show ¬ k = 0; omega), if_pos h]
  show _ = vs.foldr max 0 - 1
  omega
theorem tc_se_1 {k l0 l1 : Nat} {x : Int64} {vs : List Nat} (e0 : l0 = if k = 0 then x.toInt.toNat else 0) (f3 : l1 = max l0 (vs.foldr max 0)) (h : k = 1) : l1 - 1 = tc_fl (k, x, []) vs := by
  have h0 : l0 = 0 := by rw [e0, if_neg (by omega)]
  unfold tc_fl
  rw [if_neg (by show ¬ k = 0; omega), if_pos h]
  show _ = vs.foldr max 0 - 1
  omega
theorem tc_by_bit (x : Int64) (i t : Nat) : (tc_by x i).testBit t = (decide (t < 8) && (uN x).testBit (8 * i + t)) := by
  unfold tc_by
  rw [show (256 : Nat) = 2 ^ 8 by rfl, Nat.testBit_mod_two_pow, Nat.testBit_div_two_pow]
  rw [Nat.add_comm]
theorem tc_uN_bit (x : Int64) (n : Nat) : (uN x).testBit n = x.toBitVec.getLsbD n := rfl
theorem tc_mask_bit {s n : Nat} : (255 * 2 ^ s).testBit n = (decide (s ≤ n) && decide (n < s + 8)) := by
  rw [Nat.mul_comm, Nat.testBit_two_pow_mul]
  by_cases h : s ≤ n
  · rw [show (255 : Nat) = 2 ^ 8 - 1 by rfl, Nat.testBit_two_pow_sub_one]
    simp only [h, decide_true, Bool.true_and, ge_iff_le]
    congr 1
    simp
    omega
  · simp [h]
theorem tc_set_by (W : Int64) {b u t : Nat} (hb : b < 256) (hu : u < 8) (ht : t < 8) :
    tc_by ((W &&& (lN (255 * 2 ^ (8 * u)) ^^^ (-1))) ||| lN (b * 2 ^ (8 * u))) t = if t = u then b else tc_by W t := by
  apply Nat.eq_of_testBit_eq
  intro n
  rw [tc_by_bit, tc_uN_bit]
  by_cases hn : n < 8
  · have hm : 8 * t + n < 64 := by omega
    rw [Int64.toBitVec_or, Int64.toBitVec_and, Int64.toBitVec_xor, BitVec.getLsbD_or, BitVec.getLsbD_and, BitVec.getLsbD_xor]
    have h1 : (-1 : Int64).toBitVec.getLsbD (8 * t + n) = true := by
      have : (-1 : Int64).toBitVec = BitVec.allOnes 64 := by decide
      rw [this, BitVec.getLsbD_allOnes]
      simp [hm]
    have h2 : (lN (255 * 2 ^ (8 * u))).toBitVec.getLsbD (8 * t + n) = decide (t = u) := by
      rw [wb_tb, BitVec.getLsbD_ofNat, tc_mask_bit]
      simp only [hm, decide_true, Bool.true_and]
      by_cases e : t = u
      · subst e
        simp
        omega
      · simp [e]
        omega
    have h3 : (lN (b * 2 ^ (8 * u))).toBitVec.getLsbD (8 * t + n) = (decide (t = u) && b.testBit n) := by
      rw [wb_tb, BitVec.getLsbD_ofNat, Nat.mul_comm b, Nat.testBit_two_pow_mul]
      simp only [hm, decide_true, Bool.true_and]
      by_cases e : t = u
      · subst e
        simp
      · by_cases e2 : 8 * u ≤ 8 * t + n
        · have e3 : b.testBit (8 * t + n - 8 * u) = false := Nat.testBit_lt_two_pow (Nat.lt_of_lt_of_le hb (show 256 ≤ 2 ^ (8 * t + n - 8 * u) from Nat.pow_le_pow_right (n := 2) (by decide) (show 8 ≤ 8 * t + n - 8 * u by omega)))
          simp [e, e3]
        · simp [e, e2]
    rw [h1, h2, h3]
    by_cases e : t = u
    · rw [if_pos e]
      simp [e, hn]
    · rw [if_neg e, tc_by_bit, tc_uN_bit]
      simp [e, hn]
  · simp only [hn, decide_false, Bool.false_and]
    symm
    by_cases e : t = u
    · rw [if_pos e]
      exact Nat.testBit_lt_two_pow (Nat.lt_of_lt_of_le hb (show 256 ≤ 2 ^ n from Nat.pow_le_pow_right (n := 2) (by decide) (show 8 ≤ n by omega)))
    · rw [if_neg e]
      exact Nat.testBit_lt_two_pow (Nat.lt_of_lt_of_le (tc_by_lt W t) (show 256 ≤ 2 ^ n from Nat.pow_le_pow_right (n := 2) (by decide) (show 8 ≤ n by omega)))
theorem tc_setb (wo : Nat → Int64) (i j b : Nat) (hj : j < 64) (hb : b < 256) : ∀ q t, t < 64 → tc_wb (vp_updL wo (i * 8 + j / 8) ((wo (i * 8 + j / 8) &&& (lN (255 * 2 ^ (8 * (7 - j % 8))) ^^^ (-1))) ||| lN (b * 2 ^ (8 * (7 - j % 8))))) q t = if q = i ∧ t = j then b else tc_wb wo q t := by
  intro q t ht
  unfold tc_wb
  by_cases e : q * 8 + t / 8 = i * 8 + j / 8
  · have hq : q = i := by omega
    rw [e, pk_uLs, tc_set_by _ hb (by omega) (by omega)]
    by_cases e2 : t = j
    · rw [if_pos (by rw [e2]), if_pos ⟨hq, e2⟩]
    · rw [if_neg (by omega), if_neg (fun h => e2 h.2)]
  · rw [pk_uLn e, if_neg (fun h => e (by rw [h.1, h.2]))]
/-! PURE 5: a node's place in a term: its part, its parent. -/
def tc_q0 : tc_Q := (none, 1, 0)
def tc_E (L : List tc_Nd) : List tc_Q := tc_fw 0 [tc_q0] L
/-- the open places, before node k -/
def tc_st (L : List tc_Nd) (k : Nat) : List tc_Q := tc_pd 0 [tc_q0] (L.take k)
theorem tc_pd_len : ∀ (P R : List tc_Nd) (i : Nat) (st : List tc_Q), tc_wf st.length (P ++ R) → tc_wf (tc_pd i st P).length R
  | [], R, i, st, h => by rw [tc_pd_nil]; exact h
  | x :: P, R, i, [], h => absurd h.1 (by simp)
  | x :: P, R, i, q :: st, h => by
    rw [tc_pd_cons]
    refine tc_pd_len P R (i + 1) _ ?_
    rw [List.length_append, tc_kid_len]
    have h2 := h.2
    rw [List.length_cons, show st.length + 1 - 1 + tc_tk x.1 = tc_tk x.1 + st.length by omega] at h2
    exact h2
theorem tc_fw_lenp : ∀ (P R : List tc_Nd) (i : Nat) (st : List tc_Q), tc_wf st.length (P ++ R) → (tc_fw i st P).length = P.length
  | [], R, i, st, h => by rw [tc_fw_nil]; rfl
  | x :: P, R, i, [], h => absurd h.1 (by simp)
  | x :: P, R, i, q :: st, h => by
    rw [tc_fw_cons, List.length_cons, List.length_cons]
    refine congrArg (· + 1) (tc_fw_lenp P R (i + 1) _ ?_)
    rw [List.length_append, tc_kid_len]
    have h2 := h.2
    rw [List.length_cons, show st.length + 1 - 1 + tc_tk x.1 = tc_tk x.1 + st.length by omega] at h2
    exact h2
/-- levels fall from the top of the open places down -/
theorem tc_pd_srt : ∀ (P : List tc_Nd) (i : Nat) (st : List tc_Q), st.Pairwise (fun q r => r.2.1 ≤ q.2.1) → (tc_pd i st P).Pairwise (fun q r => r.2.1 ≤ q.2.1)
  | [], i, st, h => by rw [tc_pd_nil]; exact h
  | x :: P, i, [], h => by rw [tc_pd_no]; exact h
  | x :: P, i, q :: st, h => by
    rw [tc_pd_cons]
    refine tc_pd_srt P (i + 1) _ ?_
    obtain ⟨h1, h2⟩ := List.pairwise_cons.mp h
    refine List.pairwise_append.mpr ⟨?_, h2, ?_⟩
    · unfold tc_kid
      exact List.pairwise_replicate.mpr (Or.inr (Nat.le_refl _))
    · intro a ha b hb
      have := (List.mem_replicate.mp ha).2
      rw [this]
      exact Nat.le_succ_of_le (h1 b hb)
/-- node k of a term: the term that begins there, the open place that it takes, what stands behind -/
theorem tc_sub {L : List tc_Nd} (h : tc_wf 1 L) {k : Nat} (hk : k < L.length) : ∃ (A B : List tc_Nd) (q : tc_Q) (s2 : List tc_Q), L.drop k = A ++ B ∧ tc_wf 1 A ∧ tc_sz (L.drop k) = A.length ∧ tc_dp (L.drop k) = tc_dp A ∧ tc_lk (L.drop k) = tc_lk A ∧
    tc_st L k = q :: s2 ∧ (∀ r ∈ s2, r.2.1 ≤ q.2.1) ∧ tc_E L = tc_fw 0 [tc_q0] (L.take k) ++ (tc_fw k [q] A ++ tc_fw (k + A.length) s2 B) ∧ (tc_fw 0 [tc_q0] (L.take k)).length = k := by
  have hL : L.take k ++ L.drop k = L := List.take_append_drop k L
  have hw : tc_wf (tc_st L k).length (L.drop k) := tc_pd_len (L.take k) (L.drop k) 0 [tc_q0] (by rw [hL]; exact h)
  have hlen : (L.take k).length = k := by rw [List.length_take]; omega
  have hd0 : 0 < (L.drop k).length := by rw [List.length_drop]; omega
  have hpos : 0 < (tc_st L k).length := by
    match hd : L.drop k, hw, hd0 with
    | x :: R, hw, _ => exact hw.1
  obtain ⟨A, B, e, hA, hB⟩ := tc_first hw hpos
  match hst : tc_st L k, hpos with
  | q :: s2, _ =>
    refine ⟨A, B, q, s2, e, hA, ?_, ?_, ?_, rfl, ?_, ?_, ?_⟩
    · rw [tc_sz, tc_tv, e, tc_ev_app _ B hA, tc_ev_one _ 0 hA]
      exact tc_sz_len hA
    · rw [tc_dp, tc_tv, e, tc_ev_app _ B hA, tc_ev_one _ 0 hA]
      rfl
    · rw [tc_lk, tc_tv, e, tc_ev_app _ B hA, tc_ev_one _ 0 hA]
      rfl
    · have hs := tc_pd_srt (L.take k) 0 [tc_q0] (List.pairwise_singleton _ _)
      have hs : (tc_st L k).Pairwise (fun q r => r.2.1 ≤ q.2.1) := hs
      rw [hst] at hs
      exact (List.pairwise_cons.mp hs).1
    · have h1 : tc_E L = tc_fw 0 [tc_q0] (L.take k) ++ tc_fw (0 + (L.take k).length) (tc_st L k) (L.drop k) := by
        show tc_fw 0 [tc_q0] L = tc_fw 0 [tc_q0] (L.take k) ++ tc_fw (0 + (L.take k).length) (tc_pd 0 [tc_q0] (L.take k)) (L.drop k)
        rw [← tc_fw_app, hL]
      rw [h1, hlen, Nat.zero_add, hst, e]
      exact congrArg _ (tc_fw_2 k [q] s2 hA rfl)
    · rw [tc_fw_lenp (L.take k) (L.drop k) 0 [tc_q0] (by rw [hL]; exact h), hlen]
end
section
/-! PURE 6: terms laid out in arrays, one behind the other. -/
def tc_fn (x : tc_Nd) (vs : List Nat) : Nat := tc_ol x.1 x.2.1 + vs.sum
def tc_ln (L : List tc_Nd) : Nat := tc_tv tc_fn 0 L
/-- a node as it may be -/
def tc_okn (x : tc_Nd) : Prop := x.1 ≤ 11 ∧ tc_fitP x.1 x.2.1 ∧ (x.1 = 8 → x.2.1 = lN x.2.2.length) ∧ (¬ x.1 = 8 → x.2.2 = []) ∧ x.2.2.length ≤ 64 ∧ ∀ b ∈ x.2.2, b < 256
abbrev tc_Ar : Type := (Nat → Nat) × (Nat → Int64) × (Nat → Int64) × (Nat → Nat) × (Nat → Nat) × (Nat → Nat) × (Nat → Nat)
/-- node k of the arrays is the first of L, with what is kept of it -/
def tc_nd (a : tc_Ar) (k : Nat) (x : tc_Nd) (R : List tc_Nd) : Prop := match a with
  | (kn, nu, wo, si, de, la, le) => kn k = x.1 ∧ nu k = x.2.1 ∧ (∀ j b, x.2.2[j]? = some b → tc_wb wo k j = b) ∧ si k = tc_sz (x :: R) ∧ de k = tc_dp (x :: R) ∧ la k = tc_lk (x :: R) ∧ le k = tc_ln (x :: R)
def tc_AR (a : tc_Ar) : Nat → List tc_Nd → Prop
  | _, [] => True
  | k, x :: R => tc_nd a k x R ∧ tc_AR a (k + 1) R
theorem tc_tv_app {α : Type} (f : tc_Nd → List α → α) (d : α) {A : List tc_Nd} {n : Nat} (h : tc_wf n A) (hn : 0 < n) (B : List tc_Nd) : tc_tv f d (A ++ B) = tc_tv f d A := by
  unfold tc_tv
  rw [tc_ev_app f B h]
  have hl := tc_ev_len f h
  match he : tc_ev f A with
  | [] => rw [he] at hl; simp at hl; omega
  | a :: r => rfl
theorem tc_AR_app {a : tc_Ar} : ∀ {A : List tc_Nd} {n : Nat} (k : Nat) (B : List tc_Nd), tc_wf n A → (tc_AR a k (A ++ B) ↔ tc_AR a k A ∧ tc_AR a (k + A.length) B)
  | [], n, k, B, h => ⟨fun q => ⟨trivial, q⟩, fun q => q.2⟩
  | x :: A, n, k, B, h => by
    have ih := tc_AR_app (a := a) (k + 1) B h.2
    have e : tc_nd a k x (A ++ B) ↔ tc_nd a k x A := by
      obtain ⟨kn, nu, wo, si, de, la, le⟩ := a
      have e1 : tc_sz (x :: (A ++ B)) = tc_sz (x :: A) := tc_tv_app _ _ h h.1 B
      have e2 : tc_dp (x :: (A ++ B)) = tc_dp (x :: A) := tc_tv_app _ _ h h.1 B
      have e3 : tc_lk (x :: (A ++ B)) = tc_lk (x :: A) := tc_tv_app _ _ h h.1 B
      have e4 : tc_ln (x :: (A ++ B)) = tc_ln (x :: A) := tc_tv_app _ _ h h.1 B
      unfold tc_nd
      simp only [e1, e2, e3, e4]
    show tc_nd a k x (A ++ B) ∧ tc_AR a (k + 1) (A ++ B) ↔ (tc_nd a k x A ∧ tc_AR a (k + 1) A) ∧ tc_AR a (k + (A.length + 1)) B
    rw [e, ih, show k + 1 + A.length = k + (A.length + 1) by omega]
    constructor
    · rintro ⟨h1, h2, h3⟩
      exact ⟨⟨h1, h2⟩, h3⟩
    · rintro ⟨⟨h1, h2⟩, h3⟩
      exact ⟨h1, h2, h3⟩
/-- the arrays b hold at j what the arrays a hold at i -/
def tc_eqn (a b : tc_Ar) (i j : Nat) : Prop := match a, b with
  | (kn, nu, wo, si, de, la, le), (kn', nu', wo', si', de', la', le') => kn' j = kn i ∧ nu' j = nu i ∧ (∀ t, t < 64 → tc_wb wo' j t = tc_wb wo i t) ∧ si' j = si i ∧ de' j = de i ∧ la' j = la i ∧ le' j = le i
theorem tc_eqn_rf (a : tc_Ar) (i : Nat) : tc_eqn a a i i := by
  obtain ⟨kn, nu, wo, si, de, la, le⟩ := a
  exact ⟨rfl, rfl, fun _ _ => rfl, rfl, rfl, rfl, rfl⟩
theorem tc_AR_eq {a b : tc_Ar} : ∀ {L : List tc_Nd} (i j : Nat), (∀ x ∈ L, tc_okn x) → (∀ t, t < L.length → tc_eqn a b (i + t) (j + t)) → tc_AR a i L → tc_AR b j L
  | [], i, j, _, _, _ => trivial
  | x :: R, i, j, hx, he, h => by
    refine ⟨?_, tc_AR_eq (i + 1) (j + 1) (fun y hy => hx y (List.mem_cons_of_mem _ hy)) (fun t ht => ?_) h.2⟩
    · have h0 := he 0 (by simp)
      have h1 := h.1
      have h2 := hx x List.mem_cons_self
      obtain ⟨kn, nu, wo, si, de, la, le⟩ := a
      obtain ⟨kn', nu', wo', si', de', la', le'⟩ := b
      obtain ⟨q1, q2, q3, q4, q5, q6, q7⟩ := h0
      obtain ⟨r1, r2, r3, r4, r5, r6, r7⟩ := h1
      refine ⟨q1.trans r1, q2.trans r2, fun t b hb => ?_, q4.trans r4, q5.trans r5, q6.trans r6, q7.trans r7⟩
      have ht : t < x.2.2.length := (List.getElem?_eq_some_iff.mp hb).1
      exact (q3 t (by have := h2.2.2.2.2.1; omega)).trans (r3 t b hb)
    · have := he (t + 1) (by simpa using ht)
      rw [show i + 1 + t = i + (t + 1) by omega, show j + 1 + t = j + (t + 1) by omega]
      exact this
theorem tc_AR_at {a : tc_Ar} : ∀ {L : List tc_Nd} (i k : Nat) (x : tc_Nd) (R : List tc_Nd), L.drop k = x :: R → tc_AR a i L → tc_nd a (i + k) x R
  | [], i, k, x, R, h, _ => by simp at h
  | y :: L, i, 0, x, R, h, q => by
    have h : y :: L = x :: R := h
    cases h
    exact q.1
  | y :: L, i, k + 1, x, R, h, q => by
    have := tc_AR_at (i + 1) k x R h q.2
    rwa [show i + 1 + k = i + (k + 1) by omega] at this
/-- what the parts of a node gave, read off the arrays -/
theorem tc_chs_ev {kn : Nat → Nat} {nu wo : Nat → Int64} {si de la le : Nat → Nat} {R : List tc_Nd} {m k i : Nat} (h : tc_AR (kn, nu, wo, si, de, la, le) (i + 1) R) (hw : tc_wf m R) (hm : tc_tk k ≤ m) :
    (tc_chs k i si).map si = (tc_ev tc_fs R).take (tc_tk k) ∧ (tc_chs k i si).map de = (tc_ev tc_fd R).take (tc_tk k) ∧ (tc_chs k i si).map la = (tc_ev tc_fl R).take (tc_tk k) ∧ (tc_chs k i si).map le = (tc_ev tc_fn R).take (tc_tk k) := by
  rcases tc_tk3 k with q | q | q
  · rw [tc_chs_0 q, q]
    exact ⟨rfl, rfl, rfl, rfl⟩
  · rw [tc_chs_1 q, q]
    rw [q] at hm
    have l1 := tc_ev_len tc_fs hw
    have l2 := tc_ev_len tc_fd hw
    have l3 := tc_ev_len tc_fl hw
    have l4 := tc_ev_len tc_fn hw
    match R, h, hw with
    | [], h, hw => have : m = 0 := hw; omega
    | x :: R', h, hw =>
      obtain ⟨h1, h2, h3, h4, h5, h6, h7⟩ := h.1
      exact ⟨congrArg (fun z => [z]) h4, congrArg (fun z => [z]) h5, congrArg (fun z => [z]) h6, congrArg (fun z => [z]) h7⟩
  · rw [tc_chs_2 q, q]
    rw [q] at hm
    obtain ⟨A, B, rfl, hA, hB⟩ := tc_first hw (by omega)
    obtain ⟨hA', hB'⟩ := (tc_AR_app (i + 1) B hA).mp h
    have hs : si (i + 1) = A.length := by
      match A, hA, hA' with
      | x :: A', hA, hA' =>
        rw [← tc_sz_len hA]
        exact hA'.1.2.2.2.1
    obtain ⟨B1, B2, rfl, hB1, hB2⟩ := tc_first hB (by omega)
    obtain ⟨hB1', -⟩ := (tc_AR_app _ B2 hB1).mp hB'
    rw [← hs, show i + 1 + si (i + 1) = i + (1 + si (i + 1)) by omega] at hB1'
    have key : ∀ (f : tc_Nd → List Nat → Nat) (g : Nat → Nat), g (i + 1) = tc_tv f 0 A → g (i + (1 + si (i + 1))) = tc_tv f 0 B1 → [g (i + 1), g (i + (1 + si (i + 1)))] = (tc_ev f (A ++ (B1 ++ B2))).take 2 := by
      intro f g e1 e2
      rw [tc_ev_app f _ hA, tc_ev_app f _ hB1, tc_ev_one f 0 hA, tc_ev_one f 0 hB1, e1, e2]
      rfl
    have at1 : ∀ {A : List tc_Nd} {j : Nat}, tc_wf 1 A → tc_AR (kn, nu, wo, si, de, la, le) j A → si j = tc_sz A ∧ de j = tc_dp A ∧ la j = tc_lk A ∧ le j = tc_ln A := by
      intro A j hA h
      match A, hA, h with
      | x :: A', hA, h => exact ⟨h.1.2.2.2.1, h.1.2.2.2.2.1, h.1.2.2.2.2.2.1, h.1.2.2.2.2.2.2⟩
    obtain ⟨a1, a2, a3, a4⟩ := at1 hA hA'
    obtain ⟨b1, b2, b3, b4⟩ := at1 hB1 hB1'
    exact ⟨key tc_fs si a1 b1, key tc_fd de a2 b2, key tc_fl la a3 b3, key tc_fn le a4 b4⟩
/-- what settle makes is what is to be kept -/
theorem tc_settled {kn : Nat → Nat} {nu wo : Nat → Int64} {si de la le : Nat → Nat} {R : List tc_Nd} {m k i : Nat} {n : Int64} (bs : List Nat) (h : tc_AR (kn, nu, wo, si, de, la, le) (i + 1) R) (hw : tc_wf m R) (hm : tc_tk k ≤ m) :
    tc_fs (k, n, []) ((tc_chs k i si).map si) = tc_sz ((k, n, bs) :: R) ∧ tc_fd (k, n, []) ((tc_chs k i si).map de) = tc_dp ((k, n, bs) :: R) ∧ tc_fl (k, n, []) ((tc_chs k i si).map la) = tc_lk ((k, n, bs) :: R) ∧ tc_ol k n + ((tc_chs k i si).map le).sum = tc_ln ((k, n, bs) :: R) := by
  obtain ⟨e1, e2, e3, e4⟩ := tc_chs_ev h hw hm
  rw [e1, e2, e3, e4]
  exact ⟨rfl, rfl, rfl, rfl⟩
-- the stack's terms, the last first
def tc_cat : List (List tc_Nd) → List tc_Nd
  | [] => []
  | t :: R => tc_cat R ++ t
def tc_rts (ro : Nat → Nat) : List (List tc_Nd) → Prop
  | [] => True
  | _ :: R => ro R.length = (tc_cat R).length ∧ tc_rts ro R
def tc_okt (t : List tc_Nd) : Prop := tc_wf 1 t ∧ tc_dp t ≤ 60 ∧ ∀ x ∈ t, tc_okn x
def tc_RS (Ts : List (List tc_Nd)) (a : tc_Ar) (ro : Nat → Nat) (tm nd : Nat) : Prop := (∀ t ∈ Ts, tc_okt t) ∧ tm = Ts.length ∧ nd = (tc_cat Ts).length ∧ nd ≤ 200 ∧ tc_rts ro Ts ∧ tc_AR a 0 (tc_cat Ts)
theorem tc_cat_wf : ∀ {Ts : List (List tc_Nd)}, (∀ t ∈ Ts, tc_okt t) → tc_wf Ts.length (tc_cat Ts)
  | [], _ => rfl
  | t :: R, h => tc_wf_app (tc_cat_wf (fun u hu => h u (List.mem_cons_of_mem _ hu))) (h t List.mem_cons_self).1
theorem tc_cat_ok : ∀ {Ts : List (List tc_Nd)}, (∀ t ∈ Ts, tc_okt t) → ∀ x ∈ tc_cat Ts, tc_okn x
  | [], _, x, hx => by cases hx
  | t :: R, h, x, hx => by
    rcases List.mem_append.mp hx with q | q
    · exact tc_cat_ok (fun u hu => h u (List.mem_cons_of_mem _ hu)) x q
    · exact (h t List.mem_cons_self).2.2 x q
theorem tc_wf_pos {L : List tc_Nd} {n : Nat} (h : tc_wf n L) : n ≤ L.length := by
  have key : ∀ (L : List tc_Nd) (n : Nat), tc_wf n L → n ≤ L.length := by
    intro L
    induction L with
    | nil => intro n h; have : n = 0 := h; omega
    | cons x R ih =>
      intro n h
      have := ih _ h.2
      rw [List.length_cons]
      omega
  exact key L n h
theorem tc_rts_eq {ro ro' : Nat → Nat} : ∀ {Ts : List (List tc_Nd)}, (∀ i, i < Ts.length → ro' i = ro i) → tc_rts ro Ts → tc_rts ro' Ts
  | [], _, _ => trivial
  | t :: R, he, h => ⟨(he R.length (by simp)).trans h.1, tc_rts_eq (fun i hi => he i (by rw [List.length_cons]; omega)) h.2⟩
/-- the last term of the stack -/
theorem tc_top {t : List tc_Nd} {R : List (List tc_Nd)} {kn : Nat → Nat} {nu wo : Nat → Int64} {si de la le ro : Nat → Nat} {tm nd : Nat} (h : tc_RS (t :: R) (kn, nu, wo, si, de, la, le) ro tm nd) :
    tm = R.length + 1 ∧ ro (tm - 1) = (tc_cat R).length ∧ nd = (tc_cat R).length + t.length ∧ nd ≤ 200 ∧ 0 < t.length ∧ R.length ≤ (tc_cat R).length ∧ tc_AR (kn, nu, wo, si, de, la, le) 0 (tc_cat R) ∧ tc_AR (kn, nu, wo, si, de, la, le) (tc_cat R).length t ∧ si (tc_cat R).length = t.length ∧ de (tc_cat R).length = tc_dp t ∧ la (tc_cat R).length = tc_lk t ∧ le (tc_cat R).length = tc_ln t := by
  obtain ⟨h1, h2, h3, h4, h5, h6⟩ := h
  have hR : ∀ u ∈ R, tc_okt u := fun u hu => h1 u (List.mem_cons_of_mem _ hu)
  have ht := h1 t List.mem_cons_self
  have hw := tc_cat_wf hR
  have h6 : tc_AR (kn, nu, wo, si, de, la, le) 0 (tc_cat R ++ t) := h6
  have h3 : nd = (tc_cat R ++ t).length := h3
  rw [List.length_append] at h3
  obtain ⟨a1, a2⟩ := (tc_AR_app 0 t hw).mp h6
  rw [Nat.zero_add] at a2
  have h2 : tm = R.length + 1 := h2
  have hp := tc_wf_pos ht.1
  have hq := tc_wf_pos hw
  refine ⟨h2, ?_, h3, h4, hp, hq, a1, a2, ?_⟩
  · rw [h2]
    exact h5.1
  · match t, ht, a2 with
    | x :: t', ht, a2 =>
      refine ⟨?_, a2.1.2.2.2.2.1, a2.1.2.2.2.2.2.1, a2.1.2.2.2.2.2.2⟩
      rw [← tc_sz_len ht.1]
      exact a2.1.2.2.2.1
theorem tc_RS_tm {Ts : List (List tc_Nd)} {a : tc_Ar} {ro : Nat → Nat} {tm nd : Nat} (h : tc_RS Ts a ro tm nd) : tm ≤ 200 ∧ tm ≤ nd := by
  obtain ⟨h1, h2, h3, h4, h5, h6⟩ := h
  have := tc_wf_pos (tc_cat_wf h1)
  omega
end
section
/-! PURE 7: what the stack's calls do to terms. -/
theorem tc_RS_nil {Ts : List (List tc_Nd)} {a : tc_Ar} {ro : Nat → Nat} {tm nd : Nat} (h : tc_RS Ts a ro tm nd) (h0 : tm = 0) : Ts = [] := by
  have := h.2.1
  exact List.eq_nil_of_length_eq_zero (by omega)
theorem tc_RS_cons {Ts : List (List tc_Nd)} {a : tc_Ar} {ro : Nat → Nat} {tm nd : Nat} (h : tc_RS Ts a ro tm nd) (h0 : 0 < tm) : ∃ t R, Ts = t :: R := by
  match Ts, h with
  | [], h => have : tm = 0 := h.2.1; omega
  | t :: R, _ => exact ⟨t, R, rfl⟩
theorem tc_RS_tail {t : List tc_Nd} {R : List (List tc_Nd)} {kn : Nat → Nat} {nu wo : Nat → Int64} {si de la le ro : Nat → Nat} {tm nd : Nat} (h : tc_RS (t :: R) (kn, nu, wo, si, de, la, le) ro tm nd) : tc_RS R (kn, nu, wo, si, de, la, le) ro (tm - 1) (ro (tm - 1)) := by
  obtain ⟨z1, z2, z3, z4, z5, z6, z7, z8, -⟩ := tc_top h
  refine ⟨fun u hu => h.1 u (List.mem_cons_of_mem _ hu), by omega, z2, by omega, h.2.2.2.2.1.2, z7⟩
/-- the arrays behind copyNodes f t c -/
def tc_cpA (a : tc_Ar) (f t c : Nat) : tc_Ar := match a with
  | (kn, nu, wo, si, de, la, le) => (va_cpy kn kn f t c, va_cpy nu nu f t c, va_cpy wo wo (f * 8) (t * 8) (c * 8), va_cpy si si f t c, va_cpy de de f t c, va_cpy la la f t c, va_cpy le le f t c)
theorem tc_cpA_out (a : tc_Ar) {f t c i : Nat} (h : i < t ∨ t + c ≤ i) : tc_eqn a (tc_cpA a f t c) i i := by
  obtain ⟨kn, nu, wo, si, de, la, le⟩ := a
  refine ⟨pk_cpy_out h, pk_cpy_out h, fun j hj => ?_, pk_cpy_out h, pk_cpy_out h, pk_cpy_out h, pk_cpy_out h⟩
  show tc_by (va_cpy wo wo (f * 8) (t * 8) (c * 8) (i * 8 + j / 8)) _ = tc_by (wo (i * 8 + j / 8)) _
  rw [pk_cpy_out (by omega)]
theorem tc_cpA_in (a : tc_Ar) {f t c i : Nat} (h : i < c) : tc_eqn a (tc_cpA a f t c) (f + i) (t + i) := by
  obtain ⟨kn, nu, wo, si, de, la, le⟩ := a
  have e : f + (t + i - t) = f + i := by omega
  have q : ∀ (g : Nat → Nat), va_cpy g g f t c (t + i) = g (f + i) := fun g => by rw [pk_cpy_in (by omega) (by omega), e]
  have q2 : va_cpy nu nu f t c (t + i) = nu (f + i) := by rw [pk_cpy_in (by omega) (by omega), e]
  refine ⟨q kn, q2, fun j hj => ?_, q si, q de, q la, q le⟩
  show tc_by (va_cpy wo wo (f * 8) (t * 8) (c * 8) ((t + i) * 8 + j / 8)) _ = tc_by (wo ((f + i) * 8 + j / 8)) _
  rw [pk_cpy_in (by omega) (by omega), show f * 8 + ((t + i) * 8 + j / 8 - t * 8) = (f + i) * 8 + j / 8 by omega]
theorem tc_wb_ar (wo : Nat → Int64) (i j : Nat) : tc_wb wo i j = tc_by (wo (i * 8 + j / 8)) (7 - j % 8) := rfl
/-- one node written anew -/
def tc_upA (a : tc_Ar) (r k : Nat) (n : Int64) (s d l e : Nat) : tc_Ar := match a with
  | (kn, nu, wo, si, de, la, le) => (va_up kn r k, vp_updL nu r n, wo, va_up si r s, va_up de r d, va_up la r l, va_up le r e)
theorem tc_upA_ne (a : tc_Ar) {r k : Nat} {n : Int64} {s d l e i : Nat} (h : i ≠ r) : tc_eqn a (tc_upA a r k n s d l e) i i := by
  obtain ⟨kn, nu, wo, si, de, la, le⟩ := a
  exact ⟨va_up_ne _ _ h, pk_uLn h, fun _ _ => rfl, va_up_ne _ _ h, va_up_ne _ _ h, va_up_ne _ _ h, va_up_ne _ _ h⟩
/-- a node over terms: shifted, set, settled -/
theorem tc_put_RS {R : List (List tc_Nd)} {P : List tc_Nd} {kn : Nat → Nat} {nu wo : Nat → Int64} {si de la le ro : Nat → Nat} {k r c s dd l e : Nat} {n : Int64} (hr : r = (tc_cat R).length) (hc : c = P.length)
    (hR : ∀ u ∈ R, tc_okt u) (hro : tc_rts ro R) (h0 : tc_AR (kn, nu, wo, si, de, la, le) 0 (tc_cat R)) (hP : tc_AR (kn, nu, wo, si, de, la, le) r P) (hw : tc_wf (tc_tk k) P) (hok : ∀ y ∈ P, tc_okn y) (hx : tc_okn (k, n, [])) (hd : tc_dp ((k, n, []) :: P) ≤ 60) (hl : r + c < 200)
    (g1 : s = tc_fs (k, n, []) ((tc_chs k r (va_cpy si si r (r + 1) c)).map (va_cpy si si r (r + 1) c))) (g2 : dd = tc_fd (k, n, []) ((tc_chs k r (va_cpy si si r (r + 1) c)).map (va_cpy de de r (r + 1) c)))
    (g3 : l = tc_fl (k, n, []) ((tc_chs k r (va_cpy si si r (r + 1) c)).map (va_cpy la la r (r + 1) c))) (g4 : e = tc_ol k n + ((tc_chs k r (va_cpy si si r (r + 1) c)).map (va_cpy le le r (r + 1) c)).sum) :
    tc_RS (((k, n, []) :: P) :: R) (va_up (va_cpy kn kn r (r + 1) c) r k, vp_updL (va_cpy nu nu r (r + 1) c) r n, va_cpy wo wo (r * 8) ((r + 1) * 8) (c * 8), va_up (va_cpy si si r (r + 1) c) r s, va_up (va_cpy de de r (r + 1) c) r dd, va_up (va_cpy la la r (r + 1) c) r l, va_up (va_cpy le le r (r + 1) c) r e) (va_up ro R.length r) (R.length + 1) (r + c + 1) := by
  have hwR := tc_cat_wf hR
  have hA1 : tc_AR (tc_cpA (kn, nu, wo, si, de, la, le) r (r + 1) c) (r + 1) P := tc_AR_eq r (r + 1) hok (fun t ht => tc_cpA_in _ (by omega)) hP
  have hA0 : tc_AR (tc_cpA (kn, nu, wo, si, de, la, le) r (r + 1) c) 0 (tc_cat R) := tc_AR_eq 0 0 (tc_cat_ok hR) (fun t ht => tc_cpA_out _ (by omega)) h0
  have hset := tc_settled (k := k) (n := n) [] hA1 hw (Nat.le_refl _)
  have hB : ∀ {L : List tc_Nd} {i : Nat}, (∀ y ∈ L, tc_okn y) → (i + L.length ≤ r ∨ r < i) → tc_AR (tc_cpA (kn, nu, wo, si, de, la, le) r (r + 1) c) i L → tc_AR (tc_upA (tc_cpA (kn, nu, wo, si, de, la, le) r (r + 1) c) r k n s dd l e) i L := fun hL hi h => tc_AR_eq _ _ hL (fun t ht => tc_upA_ne _ (by omega)) h
  refine ⟨?_, rfl, ?_, by omega, ?_, ?_⟩
  · intro u hu
    rcases List.mem_cons.mp hu with rfl | hu
    · refine ⟨⟨by omega, ?_⟩, hd, fun y hy => ?_⟩
      · show tc_wf (1 - 1 + tc_tk k) P
        rw [show 1 - 1 + tc_tk k = tc_tk k by omega]
        exact hw
      · rcases List.mem_cons.mp hy with rfl | hy
        · exact hx
        · exact hok y hy
    · exact hR u hu
  · show r + c + 1 = (tc_cat R ++ (k, n, []) :: P).length
    rw [List.length_append, List.length_cons]
    omega
  · exact ⟨by rw [va_up_self]; exact hr, tc_rts_eq (fun i hi => va_up_ne _ _ (by omega)) hro⟩
  · show tc_AR (tc_upA (tc_cpA (kn, nu, wo, si, de, la, le) r (r + 1) c) r k n s dd l e) 0 (tc_cat R ++ (k, n, []) :: P)
    refine (tc_AR_app 0 _ hwR).mpr ⟨hB (tc_cat_ok hR) (by omega) hA0, ?_⟩
    rw [Nat.zero_add, ← hr]
    refine ⟨⟨va_up_self _ _ _, pk_uLs, fun j b hb => by simp at hb, ?_, ?_, ?_, ?_⟩, hB hok (by omega) hA1⟩
    · show va_up _ r s r = _
      rw [va_up_self, g1]
      exact hset.1
    · show va_up _ r dd r = _
      rw [va_up_self, g2]
      exact hset.2.1
    · show va_up _ r l r = _
      rw [va_up_self, g3]
      exact hset.2.2.1
    · show va_up _ r e r = _
      rw [va_up_self, g4]
      exact hset.2.2.2
def tc_put (x : tc_Nd) (Ts : List (List tc_Nd)) : Option (List (List tc_Nd)) :=
  if 200 ≤ (tc_cat Ts).length then none
  else if tc_tk x.1 = 0 then some ([x] :: Ts)
  else if tc_tk x.1 = 1 then match Ts with
    | t :: R => if tc_dp t < 60 then some ((x :: t) :: R) else none
    | _ => none
  else match Ts with
    | t2 :: t1 :: R => if tc_dp t1 < 60 ∧ tc_dp t2 < 60 then some ((x :: (t1 ++ t2)) :: R) else none
    | _ => none
/-- n bytes of a long, the highest first -/
def tc_bts (p : Int64) (n : Nat) : List Nat := (List.range n).map (fun j => tc_by p (n - 1 - j))
def tc_ext (p : Int64) (n : Nat) (Ts : List (List tc_Nd)) : Option (List (List tc_Nd)) := match Ts with
  | [x] :: R => if x.1 = 8 ∧ x.2.2.length + n ≤ 64 then some ([(8, lN (x.2.2.length + n), x.2.2 ++ tc_bts p n)] :: R) else none
  | _ => none
def tc_opn (Ts : List (List tc_Nd)) : Option (Nat × List (List tc_Nd)) := match Ts with
  | (x :: P) :: R => if tc_tk x.1 = 0 then none else if tc_tk x.1 = 1 then some (1, P :: R) else some (2, P.drop (tc_sz P) :: P.take (tc_sz P) :: R)
  | _ => none
def tc_dup (Ts : List (List tc_Nd)) : Option (List (List tc_Nd)) := match Ts with
  | t :: R => if (tc_cat Ts).length + t.length ≤ 200 then some (t :: t :: R) else none
  | _ => none
theorem tc_dup_RS {t : List tc_Nd} {R : List (List tc_Nd)} {kn : Nat → Nat} {nu wo : Nat → Int64} {si de la le ro : Nat → Nat} {tm nd r c : Nat} (h : tc_RS (t :: R) (kn, nu, wo, si, de, la, le) ro tm nd) (hr : r = (tc_cat R).length) (hc : c = t.length) (hl : nd + c ≤ 200) :
    tc_RS (t :: t :: R) (va_cpy kn kn r nd c, va_cpy nu nu r nd c, va_cpy wo wo (r * 8) (nd * 8) (c * 8), va_cpy si si r nd c, va_cpy de de r nd c, va_cpy la la r nd c, va_cpy le le r nd c) (va_up ro tm nd) (tm + 1) (nd + c) := by
  obtain ⟨z1, z2, z3, z4, z5, z6, z7, z8, z9, -⟩ := tc_top h
  have h1 := h.1
  have ht := h1 t List.mem_cons_self
  have hw := tc_cat_wf h1
  have hnd : nd = (tc_cat (t :: R)).length := h.2.2.1
  refine ⟨?_, ?_, ?_, hl, ?_, ?_⟩
  · intro u hu
    rcases List.mem_cons.mp hu with rfl | hu
    · exact ht
    · exact h1 u hu
  · rw [z1]; rfl
  · show nd + c = (tc_cat (t :: R) ++ t).length
    rw [List.length_append, ← hnd, hc]
  · refine ⟨?_, tc_rts_eq (Ts := t :: R) (fun i hi => va_up_ne _ _ (by rw [z1]; simp at hi; omega)) h.2.2.2.2.1⟩
    show va_up ro tm nd (R.length + 1) = (tc_cat (t :: R)).length
    rw [← z1, va_up_self, hnd]
  · show tc_AR (tc_cpA (kn, nu, wo, si, de, la, le) r nd c) 0 (tc_cat (t :: R) ++ t)
    refine (tc_AR_app 0 _ hw).mpr ⟨tc_AR_eq 0 0 (tc_cat_ok h1) (fun i hi => tc_cpA_out _ (by omega)) h.2.2.2.2.2, ?_⟩
    rw [Nat.zero_add, ← hnd]
    rw [← hr] at z8
    exact tc_AR_eq r nd ht.2.2 (fun i hi => tc_cpA_in _ (by omega)) z8
theorem tc_dp0 {x : tc_Nd} (h : tc_tk x.1 = 0) : tc_dp [x] = 1 := by
  rw [tc_dp, tc_tv_0 _ _ h]
  rfl
theorem tc_dp1 {x : tc_Nd} {A : List tc_Nd} (h : tc_tk x.1 = 1) (hA : tc_wf 1 A) : tc_dp (x :: A) = 1 + tc_dp A := by
  rw [tc_dp, tc_tv_1 _ _ h hA]
  show 1 + max (tc_dp A) 0 = _
  omega
theorem tc_dp2 {x : tc_Nd} {A B : List tc_Nd} (h : tc_tk x.1 = 2) (hA : tc_wf 1 A) (hB : tc_wf 1 B) : tc_dp (x :: (A ++ B)) = 1 + max (tc_dp A) (tc_dp B) := by
  rw [tc_dp, tc_tv_2 _ _ h hA hB]
  show 1 + max (tc_dp A) (max (tc_dp B) 0) = _
  omega
theorem tc_okn_of {k : Nat} {n : Int64} (h1 : k ≤ 11) (h2 : tc_fitP k n) (h3 : k = 8 → n = 0) : tc_okn (k, n, []) := ⟨h1, h2, fun h => (h3 h).trans rfl, fun _ => rfl, by simp, fun b hb => by simp at hb⟩
end
section
/-! PURE 8: bounds of what is kept; put. -/
theorem tc_sum_td (l : List Nat) (n : Nat) : (l.take n).sum + (l.drop n).sum = l.sum := by
  rw [← List.sum_append, List.take_append_drop]
theorem tc_ev_sum_s : ∀ (L : List tc_Nd), (tc_ev tc_fs L).sum = L.length
  | [] => rfl
  | x :: R => by
    show (1 + ((tc_ev tc_fs R).take (tc_tk x.1)).sum) + ((tc_ev tc_fs R).drop (tc_tk x.1)).sum = R.length + 1
    have := tc_sum_td (tc_ev tc_fs R) (tc_tk x.1)
    have := tc_ev_sum_s R
    omega
theorem tc_ol_okn {x : tc_Nd} (h : tc_okn x) : tc_ol x.1 x.2.1 ≤ 66 := by
  unfold tc_ol
  have h1 := tc_gU_le x.2.1.toInt.toNat
  have h2 := tc_gS_le x.2.1.toInt
  split
  · omega
  · split
    · omega
    · split
      · rename_i q
        rw [h.2.2.1 q, pk_lT (by have := h.2.2.2.2.1; omega), Int.toNat_natCast]
        have := h.2.2.2.2.1
        omega
      · split <;> omega
theorem tc_ev_sum_n : ∀ (L : List tc_Nd), (∀ x ∈ L, tc_okn x) → (tc_ev tc_fn L).sum ≤ 66 * L.length
  | [], _ => Nat.le_refl _
  | x :: R, h => by
    show (tc_ol x.1 x.2.1 + ((tc_ev tc_fn R).take (tc_tk x.1)).sum) + ((tc_ev tc_fn R).drop (tc_tk x.1)).sum ≤ 66 * (R.length + 1)
    have := tc_sum_td (tc_ev tc_fn R) (tc_tk x.1)
    have := tc_ev_sum_n R (fun y hy => h y (List.mem_cons_of_mem _ hy))
    have := tc_ol_okn (h x List.mem_cons_self)
    omega
theorem tc_mx_td (l : List Nat) (n : Nat) : (l.take n).foldr max 0 ≤ l.foldr max 0 ∧ (l.drop n).foldr max 0 ≤ l.foldr max 0 := by
  induction l generalizing n with
  | nil => simp
  | cons a l ih =>
    cases n with
    | zero =>
      refine ⟨?_, Nat.le_refl _⟩
      simp
    | succ n =>
      obtain ⟨h1, h2⟩ := ih n
      refine ⟨?_, ?_⟩
      · show max a ((l.take n).foldr max 0) ≤ max a (l.foldr max 0)
        omega
      · show (l.drop n).foldr max 0 ≤ max a (l.foldr max 0)
        omega
theorem tc_ev_mx_d : ∀ (L : List tc_Nd), (tc_ev tc_fd L).foldr max 0 ≤ L.length
  | [] => Nat.le_refl _
  | x :: R => by
    show max (1 + ((tc_ev tc_fd R).take (tc_tk x.1)).foldr max 0) (((tc_ev tc_fd R).drop (tc_tk x.1)).foldr max 0) ≤ R.length + 1
    obtain ⟨h1, h2⟩ := tc_mx_td (tc_ev tc_fd R) (tc_tk x.1)
    have := tc_ev_mx_d R
    omega
theorem tc_v200 {x : Int64} (h : 1 ≤ x ∧ x ≤ 200) : 1 ≤ x.toInt ∧ x.toInt ≤ 200 := ⟨Int64.le_iff_toInt_le.mp h.1, Int64.le_iff_toInt_le.mp h.2⟩
theorem tc_ev_mx_l : ∀ (L : List tc_Nd), (∀ x ∈ L, tc_okn x) → (tc_ev tc_fl L).foldr max 0 ≤ 200
  | [], _ => Nat.zero_le _
  | x :: R, h => by
    show max (tc_fl x ((tc_ev tc_fl R).take (tc_tk x.1))) (((tc_ev tc_fl R).drop (tc_tk x.1)).foldr max 0) ≤ 200
    obtain ⟨h1, h2⟩ := tc_mx_td (tc_ev tc_fl R) (tc_tk x.1)
    have h3 := tc_ev_mx_l R (fun y hy => h y (List.mem_cons_of_mem _ hy))
    have h4 : ∀ vs : List Nat, vs.foldr max 0 ≤ 200 → tc_fl x vs ≤ 200 := by
      intro vs hvs
      unfold tc_fl
      split
      · rename_i q
        have h5 := (h x List.mem_cons_self).2.1
        rw [q] at h5
        have := tc_v200 (show 1 ≤ x.2.1 ∧ x.2.1 ≤ 200 from h5)
        omega
      · split <;> omega
    have h5 := h4 _ (Nat.le_trans h1 h3)
    omega
theorem tc_mem_sum {l : List Nat} {a : Nat} (h : a ∈ l) : a ≤ l.sum := by
  induction l with
  | nil => cases h
  | cons b l ih =>
    rw [List.sum_cons]
    rcases List.mem_cons.mp h with rfl | h
    · omega
    · have := ih h
      omega
theorem tc_mem_mx {l : List Nat} {a : Nat} (h : a ∈ l) : a ≤ l.foldr max 0 := by
  induction l with
  | nil => cases h
  | cons b l ih =>
    show a ≤ max b (l.foldr max 0)
    rcases List.mem_cons.mp h with rfl | h
    · omega
    · have := ih h
      omega
/-- what is kept of a node's parts is small -/
theorem tc_ch_bd {kn : Nat → Nat} {nu wo : Nat → Int64} {si de la le : Nat → Nat} {R : List tc_Nd} {m k i : Nat} (h : tc_AR (kn, nu, wo, si, de, la, le) (i + 1) R) (hw : tc_wf m R) (hm : tc_tk k ≤ m) (hok : ∀ y ∈ R, tc_okn y) (hl : i + 1 + R.length ≤ 200) :
    ∀ j, j ∈ tc_chs k i si → j < 200 ∧ si j < 1048576 ∧ de j < 1048576 ∧ la j < 1048576 ∧ le j < 1048576 := by
  obtain ⟨e1, e2, e3, e4⟩ := tc_chs_ev h hw hm
  intro j hj
  have m1 : si j ∈ tc_ev tc_fs R := List.mem_of_mem_take (e1 ▸ List.mem_map_of_mem hj)
  have m2 : de j ∈ tc_ev tc_fd R := List.mem_of_mem_take (e2 ▸ List.mem_map_of_mem hj)
  have m3 : la j ∈ tc_ev tc_fl R := List.mem_of_mem_take (e3 ▸ List.mem_map_of_mem hj)
  have m4 : le j ∈ tc_ev tc_fn R := List.mem_of_mem_take (e4 ▸ List.mem_map_of_mem hj)
  have b1 := tc_mem_sum m1
  rw [tc_ev_sum_s] at b1
  have b2 := tc_mem_mx m2
  have b2' := tc_ev_mx_d R
  have b3 := tc_mem_mx m3
  have b3' := tc_ev_mx_l R hok
  have b4 := tc_mem_sum m4
  have b4' := tc_ev_sum_n R hok
  refine ⟨?_, by omega, by omega, by omega, by omega⟩
  have hR : 0 < tc_tk k → 0 < R.length := fun q => by
    have := tc_wf_pos hw
    omega
  rcases tc_tk3 k with q | q | q
  · rw [tc_chs_0 q] at hj
    cases hj
  · rw [tc_chs_1 q] at hj
    have : j = i + 1 := by simpa using hj
    have := hR (by omega)
    omega
  · rw [tc_chs_2 q] at hj
    have hs : [si (i + 1), si (i + (1 + si (i + 1)))].sum ≤ R.length := by
      have e := e1
      rw [tc_chs_2 q] at e
      have e : [si (i + 1), si (i + (1 + si (i + 1)))] = (tc_ev tc_fs R).take (tc_tk k) := e
      rw [e]
      have := tc_sum_td (tc_ev tc_fs R) (tc_tk k)
      rw [tc_ev_sum_s] at this
      omega
    have hs2 : si (i + 1) < R.length := by
      obtain ⟨A, B, rfl, hA, hB⟩ := tc_first hw (by omega)
      obtain ⟨hA', -⟩ := (tc_AR_app (i + 1) B hA).mp h
      have hz : si (i + 1) = A.length := by
        match A, hA, hA' with
        | x :: A', hA, hA' =>
          rw [← tc_sz_len hA]
          exact hA'.1.2.2.2.1
      have := tc_wf_pos hB
      rw [List.length_append]
      omega
    have hj : j = i + 1 ∨ j = i + (1 + si (i + 1)) := by simpa using hj
    omega
theorem tc_num_v {k : Nat} {x : Int64} (h : tc_fitP k x) (h8 : k = 8 → x = 0) : k = 0 ∨ k = 8 → x = lN x.toInt.toNat ∧ x.toInt.toNat < 2 ^ 30 := by
  rintro (q | q)
  · rw [q] at h
    have h1 := tc_v200 (show 1 ≤ x ∧ x ≤ 200 from h)
    refine ⟨Int64.toInt_inj.mp ?_, by omega⟩
    rw [pk_lT (by omega)]
    omega
  · rw [h8 q]
    exact ⟨by decide, by decide⟩
theorem tc_put_ch {P : List tc_Nd} {kn : Nat → Nat} {nu wo : Nat → Int64} {si de la le : Nat → Nat} {k r c : Nat} (hc : c = P.length) (hP : tc_AR (kn, nu, wo, si, de, la, le) r P) (hw : tc_wf (tc_tk k) P) (hok : ∀ y ∈ P, tc_okn y) (hl : r + c < 200) :
    ∀ j, j ∈ tc_chs k r (va_cpy si si r (r + 1) c) → j < 200 ∧ va_cpy si si r (r + 1) c j < 1048576 ∧ va_cpy de de r (r + 1) c j < 1048576 ∧ va_cpy la la r (r + 1) c j < 1048576 ∧ va_cpy le le r (r + 1) c j < 1048576 := by
  have hA1 : tc_AR (tc_cpA (kn, nu, wo, si, de, la, le) r (r + 1) c) (r + 1) P := tc_AR_eq r (r + 1) hok (fun t ht => tc_cpA_in _ (by omega)) hP
  exact tc_ch_bd hA1 hw (Nat.le_refl _) hok (by omega)
theorem tc_put_RSx {R : List (List tc_Nd)} {P : List tc_Nd} {kn : Nat → Nat} {nu wo : Nat → Int64} {si de la le ro : Nat → Nat} {k r c s dd l e : Nat} {n : Int64} (hr : r = (tc_cat R).length) (hc : c = P.length)
    (hR : ∀ u ∈ R, tc_okt u) (hro : tc_rts ro R) (h0 : tc_AR (kn, nu, wo, si, de, la, le) 0 (tc_cat R)) (hP : tc_AR (kn, nu, wo, si, de, la, le) r P) (hw : tc_wf (tc_tk k) P) (hok : ∀ y ∈ P, tc_okn y) (hx : tc_okn (k, n, [])) (hd : tc_dp ((k, n, []) :: P) ≤ 60) (hl : r + c < 200)
    (g1 : s = tc_fs (k, n, []) ((tc_chs k r (va_cpy si si r (r + 1) c)).map (va_cpy si si r (r + 1) c))) (g2 : dd = tc_fd (k, n, []) ((tc_chs k r (va_cpy si si r (r + 1) c)).map (va_cpy de de r (r + 1) c)))
    (g3 : l = tc_fl (k, n, []) ((tc_chs k r (va_cpy si si r (r + 1) c)).map (va_cpy la la r (r + 1) c))) (g4 : e = tc_ol k n + ((tc_chs k r (va_cpy si si r (r + 1) c)).map (va_cpy le le r (r + 1) c)).sum) {i tg ng : Nat} (hi : i = R.length) (ht : tg = R.length + 1) (hn : ng = r + c + 1) :
    tc_RS (((k, n, []) :: P) :: R) (va_up (va_cpy kn kn r (r + 1) c) r k, vp_updL (va_cpy nu nu r (r + 1) c) r n, va_cpy wo wo (r * 8) ((r + 1) * 8) (c * 8), va_up (va_cpy si si r (r + 1) c) r s, va_up (va_cpy de de r (r + 1) c) r dd, va_up (va_cpy la la r (r + 1) c) r l, va_up (va_cpy le le r (r + 1) c) r e) (va_up ro i r) tg ng := by
  rw [hi, ht, hn]
  exact tc_put_RS hr hc hR hro h0 hP hw hok hx hd hl g1 g2 g3 g4
theorem tc_put_none {x : tc_Nd} {Ts : List (List tc_Nd)} {n : Nat} (hk : tc_tk x.1 = n) (h : Ts.length < n ∨ 200 ≤ (tc_cat Ts).length) : tc_put x Ts = none := by
  unfold tc_put
  split
  · rfl
  · rename_i q
    have h : Ts.length < n := h.resolve_right q
    rw [if_neg (by omega)]
    split
    · match Ts, h with
      | [], _ => rfl
      | t :: R, h => simp at h; omega
    · have := tc_tk_le x.1
      match Ts, h with
      | [], _ => rfl
      | [t], _ => rfl
      | t :: t' :: R, h => simp at h; omega
theorem tc_put_0 {x : tc_Nd} {Ts : List (List tc_Nd)} (hk : tc_tk x.1 = 0) (h : (tc_cat Ts).length < 200) : tc_put x Ts = some ([x] :: Ts) := by
  unfold tc_put
  rw [if_neg (by omega), if_pos hk]
theorem tc_put_1 {x : tc_Nd} {t : List tc_Nd} {R : List (List tc_Nd)} (hk : tc_tk x.1 = 1) (h : (tc_cat (t :: R)).length < 200) (hd : tc_dp t < 60) : tc_put x (t :: R) = some ((x :: t) :: R) := by
  unfold tc_put
  rw [if_neg (by omega), if_neg (by omega), if_pos hk]
  exact if_pos hd
theorem tc_put_deep1 {x : tc_Nd} {t : List tc_Nd} {R : List (List tc_Nd)} (hk : tc_tk x.1 = 1) (hd : 60 ≤ tc_dp t) : tc_put x (t :: R) = none := by
  unfold tc_put
  by_cases q : 200 ≤ (tc_cat (t :: R)).length
  · rw [if_pos q]
  · rw [if_neg q, if_neg (by omega), if_pos hk]
    exact if_neg (by omega)
theorem tc_put_2 {x : tc_Nd} {t t1 : List tc_Nd} {R : List (List tc_Nd)} (hk : tc_tk x.1 = 2) (h : (tc_cat (t :: t1 :: R)).length < 200) (hd1 : tc_dp t1 < 60) (hd : tc_dp t < 60) : tc_put x (t :: t1 :: R) = some ((x :: (t1 ++ t)) :: R) := by
  unfold tc_put
  rw [if_neg (by omega), if_neg (by omega), if_neg (by omega)]
  exact if_pos ⟨hd1, hd⟩
theorem tc_put_deep2 {x : tc_Nd} {t t1 : List tc_Nd} {R : List (List tc_Nd)} (hk : tc_tk x.1 = 2) (hd : 60 ≤ tc_dp t1 ∨ 60 ≤ tc_dp t) : tc_put x (t :: t1 :: R) = none := by
  unfold tc_put
  by_cases q : 200 ≤ (tc_cat (t :: t1 :: R)).length
  · rw [if_pos q]
  · rw [if_neg q, if_neg (by omega), if_neg (by omega)]
    exact if_neg (by omega)
end
section
/-! PURE 9: extend, open, adopt, alike, bytes. -/
theorem tc_leaf {x : tc_Nd} {t : List tc_Nd} (h : tc_wf 1 (x :: t)) (hk : tc_tk x.1 = 0) : t = [] := by
  have := tc_parts h
  rw [hk] at this
  match t, this with
  | [], _ => rfl
  | y :: r, q => exact absurd q.1 (by omega)
theorem tc_hd {t : List tc_Nd} (h : 0 < t.length) : ∃ x t', t = x :: t' := by
  match t, h with
  | x :: t', _ => exact ⟨x, t', rfl⟩
theorem tc_top_hd {x : tc_Nd} {t : List tc_Nd} {R : List (List tc_Nd)} {kn : Nat → Nat} {nu wo : Nat → Int64} {si de la le ro : Nat → Nat} {tm nd : Nat} (h : tc_RS ((x :: t) :: R) (kn, nu, wo, si, de, la, le) ro tm nd) :
    kn (ro (tm - 1)) = x.1 ∧ nu (ro (tm - 1)) = x.2.1 ∧ (∀ j b, x.2.2[j]? = some b → tc_wb wo (ro (tm - 1)) j = b) ∧ tc_okn x := by
  obtain ⟨z1, z2, z3, z4, z5, z6, z7, z8, -⟩ := tc_top h
  rw [z2]
  exact ⟨z8.1.1, z8.1.2.1, z8.1.2.2.1, (h.1 _ List.mem_cons_self).2.2 x List.mem_cons_self⟩
theorem tc_ext_step {wo wg wh : Nat → Int64} {r cn j n : Nat} {p : Int64} (e2 : ∀ q t, t < 64 → tc_wb wg q t = if q = r ∧ cn ≤ t ∧ t < cn + j then tc_by p (n - 1 - (t - cn)) else tc_wb wo q t)
    (g : ∀ q t, t < 64 → tc_wb wh q t = if q = r ∧ t = cn + j then tc_by p (n - 1 - j) else tc_wb wg q t) : ∀ q t, t < 64 → tc_wb wh q t = if q = r ∧ cn ≤ t ∧ t < cn + (j + 1) then tc_by p (n - 1 - (t - cn)) else tc_wb wo q t := by
  intro q t ht
  rw [g q t ht]
  by_cases h : q = r ∧ t = cn + j
  · rw [if_pos h, if_pos ⟨h.1, by omega, by omega⟩, h.2, show cn + j - cn = j by omega]
  · rw [if_neg h, e2 q t ht]
    by_cases h2 : q = r ∧ cn ≤ t ∧ t < cn + j
    · rw [if_pos h2, if_pos ⟨h2.1, h2.2.1, by omega⟩]
    · rw [if_neg h2, if_neg (fun z => h2 ⟨z.1, z.2.1, by
        have := z.2.2
        have : ¬ t = cn + j := fun y => h ⟨z.1, y⟩
        omega⟩)]
theorem tc_bts_len (p : Int64) (n : Nat) : (tc_bts p n).length = n := by simp [tc_bts]
theorem tc_bts_at {p : Int64} {n j b : Nat} (h : (tc_bts p n)[j]? = some b) : j < n ∧ b = tc_by p (n - 1 - j) := by
  have hl : j < (tc_bts p n).length := (List.getElem?_eq_some_iff.mp h).1
  rw [tc_bts_len] at hl
  refine ⟨hl, ?_⟩
  unfold tc_bts at h
  rw [List.getElem?_map, List.getElem?_range hl] at h
  exact (Option.some.inj h).symm
theorem tc_fit8 {n : Nat} (h : n ≤ 64) : tc_fitP 8 (lN n) := by
  show 0 ≤ lN n ∧ lN n ≤ 64
  constructor
  · rw [Int64.le_iff_toInt_le, pk_lT (by omega)]
    show (0 : Int) ≤ _
    omega
  · rw [Int64.le_iff_toInt_le, pk_lT (by omega)]
    show _ ≤ (64 : Int)
    omega
theorem tc_ext_RS {x : tc_Nd} {R : List (List tc_Nd)} {kn : Nat → Nat} {nu wo wg : Nat → Int64} {si de la le ro : Nat → Nat} {tm nd cn n s dd l e : Nat} {p : Int64} (h : tc_RS ([x] :: R) (kn, nu, wo, si, de, la, le) ro tm nd) (h8 : x.1 = 8) (hcn : cn = x.2.2.length) (hl : cn + n ≤ 64)
    (hw : ∀ q t, t < 64 → tc_wb wg q t = if q = ro (tm - 1) ∧ cn ≤ t ∧ t < cn + n then tc_by p (n - 1 - (t - cn)) else tc_wb wo q t)
    (g1 : s = tc_fs (8, lN (cn + n), []) []) (g2 : dd = tc_fd (8, lN (cn + n), []) []) (g3 : l = tc_fl (8, lN (cn + n), []) []) (g4 : e = tc_ol 8 (lN (cn + n)) + 0) :
    tc_RS ([(8, lN (x.2.2.length + n), x.2.2 ++ tc_bts p n)] :: R) (kn, vp_updL nu (ro (tm - 1)) (lN (cn + n)), wg, va_up si (ro (tm - 1)) s, va_up de (ro (tm - 1)) dd, va_up la (ro (tm - 1)) l, va_up le (ro (tm - 1)) e) ro tm nd := by
  obtain ⟨z1, z2, z3, z4, z5, z6, z7, z8, -⟩ := tc_top h
  obtain ⟨k1, k2, k3, k4⟩ := tc_top_hd h
  have hR : ∀ u ∈ R, tc_okt u := fun u hu => h.1 u (List.mem_cons_of_mem _ hu)
  rw [← hcn]
  refine ⟨?_, h.2.1, ?_, h.2.2.2.1, h.2.2.2.2.1, ?_⟩
  · intro u hu
    rcases List.mem_cons.mp hu with rfl | hu
    · refine ⟨⟨by omega, rfl⟩, (show 1 ≤ 60 by decide), fun y hy => ?_⟩
      obtain rfl : y = (8, lN (cn + n), x.2.2 ++ tc_bts p n) := by simpa using hy
      have hlen : (x.2.2 ++ tc_bts p n).length = cn + n := by rw [List.length_append, tc_bts_len, hcn]
      refine ⟨(show 8 ≤ 11 by decide), tc_fit8 hl, fun _ => by rw [hlen], fun q => absurd rfl q, by rw [hlen]; exact hl, fun b hb => ?_⟩
      rcases List.mem_append.mp hb with q | q
      · exact k4.2.2.2.2.2 b q
      · obtain ⟨j, hj, rfl⟩ := List.mem_map.mp q
        exact tc_by_lt _ _
    · exact hR u hu
  · have := h.2.2.1
    rw [this]
    show (tc_cat R ++ [x]).length = (tc_cat R ++ [_]).length
    simp
  · show tc_AR _ 0 (tc_cat R ++ [_])
    refine (tc_AR_app 0 _ (tc_cat_wf hR)).mpr ⟨?_, ?_⟩
    · refine tc_AR_eq 0 0 (tc_cat_ok hR) (fun t ht => ?_) z7
      have hne : (0 + t) ≠ ro (tm - 1) := by omega
      exact ⟨rfl, pk_uLn hne, fun j hj => by rw [hw _ _ hj, if_neg (fun q => hne q.1)], va_up_ne _ _ hne, va_up_ne _ _ hne, va_up_ne _ _ hne, va_up_ne _ _ hne⟩
    · rw [Nat.zero_add, ← z2]
      refine ⟨⟨k1.trans h8, pk_uLs, fun j b hb => ?_, ?_, ?_, ?_, ?_⟩, trivial⟩
      · have hj : j < 64 := by
          have := (List.getElem?_eq_some_iff.mp hb).1
          have e : (x.2.2 ++ tc_bts p n).length = cn + n := by rw [List.length_append, tc_bts_len, hcn]
          have : j < (x.2.2 ++ tc_bts p n).length := this
          omega
        show tc_wb wg (ro (tm - 1)) j = b
        rw [hw _ _ hj]
        have hb : (x.2.2 ++ tc_bts p n)[j]? = some b := hb
        by_cases hq : j < x.2.2.length
        · rw [List.getElem?_append_left hq] at hb
          rw [if_neg (fun q => by omega)]
          exact k3 j b hb
        · rw [List.getElem?_append_right (by omega)] at hb
          obtain ⟨h1, h2⟩ := tc_bts_at hb
          rw [if_pos ⟨rfl, by omega, by omega⟩, h2, hcn]
      · show va_up si (ro (tm - 1)) s (ro (tm - 1)) = _
        rw [va_up_self, g1]; rfl
      · show va_up de (ro (tm - 1)) dd (ro (tm - 1)) = _
        rw [va_up_self, g2]; rfl
      · show va_up la (ro (tm - 1)) l (ro (tm - 1)) = _
        rw [va_up_self, g3]; rfl
      · show va_up le (ro (tm - 1)) e (ro (tm - 1)) = _
        rw [va_up_self, g4]; rfl
theorem tc_ext_none {p : Int64} {n : Nat} {x : tc_Nd} {t : List tc_Nd} {R : List (List tc_Nd)} (h : ¬ x.1 = 8 ∨ 64 < x.2.2.length + n) : tc_ext p n ((x :: t) :: R) = none := by
  match t with
  | [] => exact if_neg (fun q => by omega)
  | y :: t' => rfl
theorem tc_ext_some {p : Int64} {n : Nat} {x : tc_Nd} {R : List (List tc_Nd)} (h8 : x.1 = 8) (h : x.2.2.length + n ≤ 64) : tc_ext p n ([x] :: R) = some ([(8, lN (x.2.2.length + n), x.2.2 ++ tc_bts p n)] :: R) := if_pos ⟨h8, h⟩
/-- the terms of a list of nodes that is two of them -/
theorem tc_halves {P : List tc_Nd} (h : tc_wf 2 P) : tc_wf 1 (P.take (tc_sz P)) ∧ tc_wf 1 (P.drop (tc_sz P)) ∧ P.take (tc_sz P) ++ P.drop (tc_sz P) = P ∧ (P.take (tc_sz P)).length = tc_sz P ∧ 0 < tc_sz P ∧ tc_sz P < P.length := by
  obtain ⟨A, B, rfl, hA, hB⟩ := tc_first h (by omega)
  have e : tc_sz (A ++ B) = A.length := by
    rw [tc_sz, tc_tv_app _ _ hA (by omega)]
    exact tc_sz_len hA
  have hb := tc_wf_pos hB
  have ha := tc_wf_pos hA
  rw [e, List.take_left, List.drop_left, List.length_append]
  exact ⟨hA, hB, rfl, rfl, by omega, by omega⟩
/-! PURE 10: open, adopt, alike. -/
theorem tc_opn_AR {x : tc_Nd} {P : List tc_Nd} {R : List (List tc_Nd)} {kn : Nat → Nat} {nu wo : Nat → Int64} {si de la le ro : Nat → Nat} {tm nd r c : Nat} (h : tc_RS ((x :: P) :: R) (kn, nu, wo, si, de, la, le) ro tm nd) (hr : r = (tc_cat R).length) (hc : c = P.length) :
    tc_AR (tc_cpA (kn, nu, wo, si, de, la, le) (r + 1) r c) 0 (tc_cat R) ∧ tc_AR (tc_cpA (kn, nu, wo, si, de, la, le) (r + 1) r c) r P := by
  obtain ⟨z1, z2, z3, z4, z5, z6, z7, z8, -⟩ := tc_top h
  have hR : ∀ u ∈ R, tc_okt u := fun u hu => h.1 u (List.mem_cons_of_mem _ hu)
  have ht := h.1 _ List.mem_cons_self
  rw [← hr] at z8
  refine ⟨tc_AR_eq 0 0 (tc_cat_ok hR) (fun t ht => tc_cpA_out _ (by omega)) z7, ?_⟩
  exact tc_AR_eq (r + 1) r (fun y hy => ht.2.2 y (List.mem_cons_of_mem _ hy)) (fun t ht => tc_cpA_in _ (by omega)) z8.2
theorem tc_opn_RS1 {x : tc_Nd} {P : List tc_Nd} {R : List (List tc_Nd)} {kn : Nat → Nat} {nu wo : Nat → Int64} {si de la le ro : Nat → Nat} {tm nd r c : Nat} (h : tc_RS ((x :: P) :: R) (kn, nu, wo, si, de, la, le) ro tm nd) (hk : tc_tk x.1 = 1) (hr : r = (tc_cat R).length) (hc : c = P.length) :
    tc_RS (P :: R) (va_cpy kn kn (r + 1) r c, va_cpy nu nu (r + 1) r c, va_cpy wo wo ((r + 1) * 8) (r * 8) (c * 8), va_cpy si si (r + 1) r c, va_cpy de de (r + 1) r c, va_cpy la la (r + 1) r c, va_cpy le le (r + 1) r c) (va_up ro (tm - 1) r) (tm - 1 + 1) (nd - 1) := by
  obtain ⟨a1, a2⟩ := tc_opn_AR h hr hc
  obtain ⟨z1, z2, z3, z4, z5, z6, z7, z8, -⟩ := tc_top h
  have hR : ∀ u ∈ R, tc_okt u := fun u hu => h.1 u (List.mem_cons_of_mem _ hu)
  have ht := h.1 _ List.mem_cons_self
  have hP : tc_wf 1 P := by have := tc_parts ht.1; rwa [hk] at this
  have hd := ht.2.1
  rw [tc_dp1 hk hP] at hd
  have zl : (x :: P).length = P.length + 1 := rfl
  refine ⟨?_, ?_, ?_, by omega, ⟨?_, tc_rts_eq (fun i hi => va_up_ne _ _ (by omega)) h.2.2.2.2.1.2⟩, ?_⟩
  · intro u hu
    rcases List.mem_cons.mp hu with rfl | hu
    · exact ⟨hP, by omega, fun y hy => ht.2.2 y (List.mem_cons_of_mem _ hy)⟩
    · exact hR u hu
  · show tm - 1 + 1 = R.length + 1
    omega
  · show nd - 1 = (tc_cat R ++ P).length
    rw [List.length_append]
    omega
  · rw [show R.length = tm - 1 by omega, va_up_self, hr]
  · refine (tc_AR_app 0 _ (tc_cat_wf hR)).mpr ⟨a1, ?_⟩
    rw [Nat.zero_add, ← hr]
    exact a2
theorem tc_opn_si {x : tc_Nd} {P : List tc_Nd} {R : List (List tc_Nd)} {kn : Nat → Nat} {nu wo : Nat → Int64} {si de la le ro : Nat → Nat} {tm nd r c : Nat} (h : tc_RS ((x :: P) :: R) (kn, nu, wo, si, de, la, le) ro tm nd) (hr : r = (tc_cat R).length) (hc : c = P.length) (hp : 0 < P.length) : va_cpy si si (r + 1) r c r = tc_sz P := by
  obtain ⟨a1, a2⟩ := tc_opn_AR h hr hc
  obtain ⟨y, Q, rfl⟩ := tc_hd hp
  exact a2.1.2.2.2.1
theorem tc_opn_RS2 {x : tc_Nd} {P : List tc_Nd} {R : List (List tc_Nd)} {kn : Nat → Nat} {nu wo : Nat → Int64} {si de la le ro : Nat → Nat} {tm nd r c s : Nat} (h : tc_RS ((x :: P) :: R) (kn, nu, wo, si, de, la, le) ro tm nd) (hk : tc_tk x.1 = 2) (hr : r = (tc_cat R).length) (hc : c = P.length) (hs : s = tc_sz P) :
    tc_RS (P.drop (tc_sz P) :: P.take (tc_sz P) :: R) (va_cpy kn kn (r + 1) r c, va_cpy nu nu (r + 1) r c, va_cpy wo wo ((r + 1) * 8) (r * 8) (c * 8), va_cpy si si (r + 1) r c, va_cpy de de (r + 1) r c, va_cpy la la (r + 1) r c, va_cpy le le (r + 1) r c) (va_up (va_up ro (tm - 1) r) (tm - 1 + 1) (r + s)) (tm - 1 + 1 + 1) (nd - 1) := by
  obtain ⟨a1, a2⟩ := tc_opn_AR h hr hc
  obtain ⟨z1, z2, z3, z4, z5, z6, z7, z8, -⟩ := tc_top h
  have hR : ∀ u ∈ R, tc_okt u := fun u hu => h.1 u (List.mem_cons_of_mem _ hu)
  have ht := h.1 _ List.mem_cons_self
  have hP : tc_wf 2 P := by have := tc_parts ht.1; rwa [hk] at this
  obtain ⟨hA, hB, e, el, ep, ep2⟩ := tc_halves hP
  have hd := ht.2.1
  rw [← e, tc_dp2 hk hA hB] at hd
  have zl : (x :: P).length = P.length + 1 := rfl
  have hok : ∀ y ∈ P, tc_okn y := fun y hy => ht.2.2 y (List.mem_cons_of_mem _ hy)
  refine ⟨?_, ?_, ?_, by omega, ⟨?_, ?_, tc_rts_eq (fun i hi => (va_up_ne _ _ (by omega)).trans (va_up_ne _ _ (by omega))) h.2.2.2.2.1.2⟩, ?_⟩
  · intro u hu
    rcases List.mem_cons.mp hu with rfl | hu
    · exact ⟨hB, by omega, fun y hy => hok y (List.mem_of_mem_drop hy)⟩
    · rcases List.mem_cons.mp hu with rfl | hu
      · exact ⟨hA, by omega, fun y hy => hok y (List.mem_of_mem_take hy)⟩
      · exact hR u hu
  · show tm - 1 + 1 + 1 = R.length + 1 + 1
    omega
  · show nd - 1 = ((tc_cat R ++ P.take (tc_sz P)) ++ P.drop (tc_sz P)).length
    rw [List.append_assoc, e, List.length_append]
    omega
  · show va_up _ (tm - 1 + 1) (r + s) (R.length + 1) = (tc_cat R ++ P.take (tc_sz P)).length
    rw [show R.length + 1 = tm - 1 + 1 by omega, va_up_self, List.length_append, el, hr, hs]
  · rw [va_up_ne _ _ (by omega), show R.length = tm - 1 by omega, va_up_self, hr]
  · show tc_AR _ 0 ((tc_cat R ++ P.take (tc_sz P)) ++ P.drop (tc_sz P))
    rw [List.append_assoc, e]
    refine (tc_AR_app 0 _ (tc_cat_wf hR)).mpr ⟨a1, ?_⟩
    rw [Nat.zero_add, ← hr]
    exact a2
theorem tc_opn_1 {x : tc_Nd} {P : List tc_Nd} {R : List (List tc_Nd)} (h : tc_tk x.1 = 1) : tc_opn ((x :: P) :: R) = some (1, P :: R) := by
  show (if _ then _ else _) = _
  rw [if_neg (by omega), if_pos h]
theorem tc_opn_2 {x : tc_Nd} {P : List tc_Nd} {R : List (List tc_Nd)} (h : tc_tk x.1 = 2) : tc_opn ((x :: P) :: R) = some (2, P.drop (tc_sz P) :: P.take (tc_sz P) :: R) := by
  show (if _ then _ else _) = _
  rw [if_neg (by omega), if_neg (by omega)]
theorem xk_none_lt {n : Nat} (h : n < 2 ^ 31) : xk_oI none < nI n := by
  rw [Int32.lt_iff_toInt_lt, nI_toInt h]
  show (-1 : Int) < _
  omega
theorem xk_none_le {n : Nat} (h : n < 2 ^ 31) : xk_oI none ≤ nI n := Int32.le_of_lt (xk_none_lt h)
theorem xk_none_nle {n : Nat} (h : n < 2 ^ 31) : ¬ nI n ≤ xk_oI none := Int32.not_le.mpr (xk_none_lt h)
theorem xk_none_nlt {n : Nat} (h : n < 2 ^ 31) : ¬ nI n < xk_oI none := Int32.not_lt.mpr (xk_none_le h)
/-- nodes in the arrays, not settled yet -/
def tc_raw (kn : Nat → Nat) (nu wo : Nat → Int64) (k : Nat) (L : List tc_Nd) : Prop := ∀ j x, L[j]? = some x → kn (k + j) = x.1 ∧ nu (k + j) = x.2.1 ∧ ∀ t b, x.2.2[t]? = some b → tc_wb wo (k + j) t = b
theorem tc_okn_v {x : tc_Nd} (h : tc_okn x) : x.1 = 0 ∨ x.1 = 8 → x.2.1 = lN x.2.1.toInt.toNat ∧ x.2.1.toInt.toNat < 2 ^ 30 := by
  rintro (q | q)
  · have h2 := h.2.1
    rw [q] at h2
    have h1 := tc_v200 (show 1 ≤ x.2.1 ∧ x.2.1 ≤ 200 from h2)
    refine ⟨Int64.toInt_inj.mp ?_, by omega⟩
    rw [pk_lT (by omega)]
    omega
  · have h3 := h.2.2.1 q
    have h4 := h.2.2.2.2.1
    rw [h3, pk_lT (by omega), Int.toNat_natCast]
    exact ⟨rfl, by omega⟩
/-- one more node settled, the one ahead of those that are -/
theorem tc_adopt_step {kn : Nat → Nat} {nu wo : Nat → Int64} {si de la le : Nat → Nat} {L : List tc_Nd} {nd j s dd l e : Nat} {x : tc_Nd} {m : Nat} (hj : nd ≤ j) (hx : L[j - nd]? = some x) (hraw : tc_raw kn nu wo nd L) (hw : tc_wf m (L.drop (j - nd))) (hok : ∀ y ∈ L, tc_okn y)
    (h : tc_AR (kn, nu, wo, si, de, la, le) (j + 1) (L.drop (j + 1 - nd))) (g1 : s = tc_fs (kn j, nu j, []) ((tc_chs (kn j) j si).map si)) (g2 : dd = tc_fd (kn j, nu j, []) ((tc_chs (kn j) j si).map de)) (g3 : l = tc_fl (kn j, nu j, []) ((tc_chs (kn j) j si).map la)) (g4 : e = tc_ol (kn j) (nu j) + ((tc_chs (kn j) j si).map le).sum) :
    tc_AR (kn, nu, wo, va_up si j s, va_up de j dd, va_up la j l, va_up le j e) j (L.drop (j - nd)) := by
  have hdr : L.drop (j - nd) = x :: L.drop (j + 1 - nd) := by
    rw [show j + 1 - nd = (j - nd) + 1 by omega]
    obtain ⟨h1, h2⟩ := List.getElem?_eq_some_iff.mp hx
    rw [List.drop_eq_getElem_cons h1, h2]
  rw [hdr] at hw ⊢
  have hr := hraw _ _ hx
  rw [show nd + (j - nd) = j by omega] at hr
  have hset := tc_settled (k := x.1) (n := x.2.1) x.2.2 h hw.2 (by have := hw.1; omega)
  rw [hr.1, hr.2.1] at g1 g2 g3 g4
  refine ⟨⟨hr.1, hr.2.1, hr.2.2, ?_, ?_, ?_, ?_⟩, ?_⟩
  · show va_up si j s j = _
    rw [va_up_self, g1]; exact hset.1
  · show va_up de j dd j = _
    rw [va_up_self, g2]; exact hset.2.1
  · show va_up la j l j = _
    rw [va_up_self, g3]; exact hset.2.2.1
  · show va_up le j e j = _
    rw [va_up_self, g4]; exact hset.2.2.2
  · refine tc_AR_eq _ _ (fun y hy => hok y (List.mem_of_mem_drop hy)) (fun t ht => ?_) h
    have hne : (j + 1 + t) ≠ j := by omega
    exact ⟨rfl, rfl, fun _ _ => rfl, va_up_ne _ _ hne, va_up_ne _ _ hne, va_up_ne _ _ hne, va_up_ne _ _ hne⟩
theorem tc_adopt_RS {Ts : List (List tc_Nd)} {L : List tc_Nd} {kn : Nat → Nat} {nu wo : Nat → Int64} {si de la le sg dg lg eg ro : Nat → Nat} {tm nd en jn : Nat} (y1 : tc_RS Ts (kn, nu, wo, si, de, la, le) ro tm nd) (y2 : en = nd + L.length) (y3 : en ≤ 200) (y4 : tc_okt L) (hj : jn ≤ nd) (e1 : nd ≤ jn) (e3 : tc_AR (kn, nu, wo, sg, dg, lg, eg) 0 (tc_cat Ts)) (e4 : tc_AR (kn, nu, wo, sg, dg, lg, eg) jn (L.drop (jn - nd))) :
    tc_RS (L :: Ts) (kn, nu, wo, sg, dg, lg, eg) (va_up ro tm nd) (tm + 1) en := by
  obtain rfl : jn = nd := by omega
  rw [Nat.sub_self, List.drop_zero] at e4
  obtain ⟨h1, h2, h3, h4, h5, h6⟩ := y1
  refine ⟨?_, ?_, ?_, y3, ⟨?_, tc_rts_eq (fun i hi => va_up_ne _ _ (by omega)) h5⟩, ?_⟩
  · intro u hu
    rcases List.mem_cons.mp hu with rfl | hu
    · exact y4
    · exact h1 u hu
  · rw [h2]; rfl
  · show en = (tc_cat Ts ++ L).length
    rw [List.length_append]
    omega
  · rw [← h2, va_up_self, h3]
  · refine (tc_AR_app 0 _ (tc_cat_wf h1)).mpr ⟨e3, ?_⟩
    rw [Nat.zero_add, ← h3]
    exact e4
theorem tc_drop1 {α : Type} {L : List α} {i : Nat} {x : α} (h : L[i]? = some x) : L.drop i = x :: L.drop (i + 1) := by
  obtain ⟨h1, h2⟩ := List.getElem?_eq_some_iff.mp h
  rw [List.drop_eq_getElem_cons h1, h2]
theorem tc_al_at {kn : Nat → Nat} {nu wo : Nat → Int64} {si de la le : Nat → Nat} {x y : tc_Nd} {Rx Ry : List tc_Nd} {i j q : Nat} (h1 : tc_nd (kn, nu, wo, si, de, la, le) i x Rx) (h2 : tc_nd (kn, nu, wo, si, de, la, le) j y Ry) (e : x = y) (hq : q < x.2.2.length) : tc_wb wo i q = tc_wb wo j q := by
  subst e
  have hb : x.2.2[q]? = some (x.2.2[q]) := List.getElem?_eq_getElem hq
  rw [h1.2.2.1 q _ hb, h2.2.2.1 q _ hb]
theorem tc_al_8 {kn : Nat → Nat} {nu wo : Nat → Int64} {si de la le : Nat → Nat} {x y : tc_Nd} {Rx Ry : List tc_Nd} {i j : Nat} (h1 : tc_nd (kn, nu, wo, si, de, la, le) i x Rx) (h2 : tc_nd (kn, nu, wo, si, de, la, le) j y Ry) (o1 : tc_okn x) (o2 : tc_okn y) (e1 : kn i = kn j) (e2 : nu i = nu j) (h8 : kn i = 8) (hb : ∀ t, t < x.2.2.length → tc_wb wo i t = tc_wb wo j t) : x = y := by
  have a1 : x.1 = y.1 := by rw [← h1.1, ← h2.1, e1]
  have a2 : x.2.1 = y.2.1 := by rw [← h1.2.1, ← h2.2.1, e2]
  have l1 := o1.2.2.1 (by rw [← h1.1]; exact h8)
  have l2 := o2.2.2.1 (by rw [← h2.1, ← e1]; exact h8)
  have b1 := o1.2.2.2.2.1
  have b2 := o2.2.2.2.2.1
  have hl : x.2.2.length = y.2.2.length := (pk_lEQ (by omega) (by omega)).mp (l1.symm.trans (a2.trans l2))
  have a3 : x.2.2 = y.2.2 := by
    apply List.ext_getElem hl
    intro q q1 q2
    have c1 := h1.2.2.1 q _ (List.getElem?_eq_getElem q1)
    have c2 := h2.2.2.1 q _ (List.getElem?_eq_getElem q2)
    rw [← c1, ← c2]
    exact hb q q1
  exact Prod.ext a1 (Prod.ext a2 a3)
theorem tc_al_n {kn : Nat → Nat} {nu wo : Nat → Int64} {si de la le : Nat → Nat} {x y : tc_Nd} {Rx Ry : List tc_Nd} {i j : Nat} (h1 : tc_nd (kn, nu, wo, si, de, la, le) i x Rx) (h2 : tc_nd (kn, nu, wo, si, de, la, le) j y Ry) (o1 : tc_okn x) (o2 : tc_okn y) (e1 : kn i = kn j) (e2 : nu i = nu j) (h8 : ¬ kn i = 8) : x = y := by
  have a1 : x.1 = y.1 := by rw [← h1.1, ← h2.1, e1]
  have a2 : x.2.1 = y.2.1 := by rw [← h1.2.1, ← h2.2.1, e2]
  have l1 := o1.2.2.2.1 (by rw [← h1.1]; exact h8)
  have l2 := o2.2.2.2.1 (by rw [← h2.1, ← e1]; exact h8)
  exact Prod.ext a1 (Prod.ext a2 (l1.trans l2.symm))
end
section
theorem klF_9 : Cond.constantLong RF 9 (200) ∈ xk_gt := (xk_mem 361 (by decide +kernel) (by decide))
theorem klF_11 : Cond.constantLong RF 11 (31) ∈ xk_gt := (xk_mem 362 (by decide +kernel) (by decide))
theorem klF_13 : Cond.constantLong RF 13 (64) ∈ xk_gt := (xk_mem 363 (by decide +kernel) (by decide))
theorem klF_24 : Cond.constantLong RF 24 (-1) ∈ xk_gt := (xk_mem 214 (by decide +kernel) (by decide))
set_option maxRecDepth 100000 in
theorem kbF_15 : xk_CB RF 15 yF_unsignedGroups cF_unsignedGroups 3 (some .int) 1 := ⟨(xk_mem 210 (by rfl) rfl), (xk_mem 42 (by decide +kernel) (by decide)), (xk_mem 208 (by decide +kernel) (by decide)), by decide +kernel⟩
theorem kcF_15 : Cond.static yF_unsignedGroups ∈ xk_gt := (xk_mem 209 (by decide +kernel) (by decide))
set_option maxRecDepth 100000 in
theorem kbF_21 : xk_CB RF 21 yF_signedGroups cF_signedGroups 5 (some .int) 1 := ⟨(xk_mem 213 (by rfl) rfl), (xk_mem 42 (by decide +kernel) (by decide)), (xk_mem 211 (by decide +kernel) (by decide)), by decide +kernel⟩
theorem kcF_21 : Cond.static yF_signedGroups ∈ xk_gt := (xk_mem 212 (by decide +kernel) (by decide))
end
section
theorem fgB_15 : xk_F RB 15 0 1 := ⟨RB, TB, 2, rfl, by decide, i_B, (xk_mem 113 (by decide +kernel) (by decide))⟩
theorem fgB_9 : xk_F RB 9 0 0 := ⟨RB, TB, 2, rfl, by decide, i_B, (xk_mem 112 (by decide +kernel) (by decide))⟩
theorem fpB_15 : xk_FP RB 15 0 1 false (.int) := ⟨RB, TB, 2, rfl, by decide, i_B, (xk_mem 113 (by decide +kernel) (by decide)), ⟨tB, tB_ok⟩, nB_ok, rfl, by decide +kernel, fun h => by cases h⟩
set_option maxRecDepth 100000 in
theorem kbB_19 : xk_CB RB 19 yB_append cB_append 2 none 1 := ⟨(xk_mem 272 (by rfl) rfl), (xk_mem 39 (by decide +kernel) (by decide)), (xk_mem 278 (by decide +kernel) (by decide)), by decide +kernel⟩
theorem kcB_19 : Cond.instanceMethod yB_append ∈ xk_gt ∧ Cond.selects (yB_append).cls yB_append yB_append ∈ xk_gt := ⟨(xk_mem 270 (by decide +kernel) (by decide)), (xk_mem 271 (by decide +kernel) (by decide))⟩
theorem kyB_23 : xk_Cp RB 23 := ⟨(xk_mem 306 (by decide +kernel) (by decide)), (xk_mem 243 (by decide +kernel) (by decide)), (xk_mem 242 (by decide +kernel) (by decide)), (xk_mem 48 (by decide +kernel) (by decide))⟩
end
section
theorem fgS_37 : xk_F RS 37 1 8 := ⟨RS, TS, 10, rfl, by decide, i_S, (xk_mem 78 (by decide +kernel) (by decide))⟩
theorem fgS_34 : xk_F RS 34 1 7 := ⟨RS, TS, 10, rfl, by decide, i_S, (xk_mem 77 (by decide +kernel) (by decide))⟩
set_option maxRecDepth 100000 in
theorem kbS_44 : xk_CB RS 44 yS_lastRoot cS_lastRoot 1 (some .int) 0 := ⟨(xk_mem 187 (by rfl) rfl), (xk_mem 38 (by decide +kernel) (by decide)), (xk_mem 184 (by decide +kernel) (by decide)), by decide +kernel⟩
theorem kcS_44 : Cond.instanceMethod yS_lastRoot ∈ xk_gt ∧ Cond.selects (yS_lastRoot).cls yS_lastRoot yS_lastRoot ∈ xk_gt := ⟨(xk_mem 185 (by decide +kernel) (by decide)), (xk_mem 186 (by decide +kernel) (by decide))⟩
theorem fgS_22 : xk_F RS 22 1 3 := ⟨RS, TS, 10, rfl, by decide, i_S, (xk_mem 69 (by decide +kernel) (by decide))⟩
theorem fgS_31 : xk_F RS 31 1 6 := ⟨RS, TS, 10, rfl, by decide, i_S, (xk_mem 75 (by decide +kernel) (by decide))⟩
theorem fgS_9 : xk_F RS 9 1 0 := ⟨RS, TS, 10, rfl, by decide, i_S, (xk_mem 64 (by decide +kernel) (by decide))⟩
theorem fgS_15 : xk_F RS 15 1 1 := ⟨RS, TS, 10, rfl, by decide, i_S, (xk_mem 66 (by decide +kernel) (by decide))⟩
theorem fgS_19 : xk_F RS 19 1 2 := ⟨RS, TS, 10, rfl, by decide, i_S, (xk_mem 68 (by decide +kernel) (by decide))⟩
set_option maxRecDepth 100000 in
theorem kbS_48 : xk_CB RS 48 yF_byteOf cF_byteOf 3 (some .int) 2 := ⟨(xk_mem 194 (by rfl) rfl), (xk_mem 42 (by decide +kernel) (by decide)), (xk_mem 192 (by decide +kernel) (by decide)), by decide +kernel⟩
theorem kcS_48 : Cond.static yF_byteOf ∈ xk_gt := (xk_mem 193 (by decide +kernel) (by decide))
theorem fpS_37 : xk_FP RS 37 1 8 false (.int) := ⟨RS, TS, 10, rfl, by decide, i_S, (xk_mem 78 (by decide +kernel) (by decide)), ⟨tS, tS_ok⟩, nS_ok, rfl, by decide +kernel, fun h => by cases h⟩
set_option maxRecDepth 100000 in
theorem kmS_111 : xk_Mx RS 111 := ⟨(xk_mem 218 (by decide +kernel) (by decide)), (xk_mem 219 (by decide +kernel) (by decide)), (xk_mem 47 (by decide +kernel) (by decide)), (xk_mem 220 (by decide +kernel) rfl)⟩
theorem kyS_116 : xk_Cp RS 116 := ⟨(xk_mem 241 (by decide +kernel) (by decide)), (xk_mem 243 (by decide +kernel) (by decide)), (xk_mem 242 (by decide +kernel) (by decide)), (xk_mem 48 (by decide +kernel) (by decide))⟩
theorem fgS_25 : xk_F RS 25 1 4 := ⟨RS, TS, 10, rfl, by decide, i_S, (xk_mem 71 (by decide +kernel) (by decide))⟩
theorem fgS_28 : xk_F RS 28 1 5 := ⟨RS, TS, 10, rfl, by decide, i_S, (xk_mem 73 (by decide +kernel) (by decide))⟩
theorem klS_54 : Cond.constantLong RS 54 (255) ∈ xk_gt := (xk_mem 199 (by decide +kernel) (by decide))
theorem klS_56 : Cond.constantLong RS 56 (-1) ∈ xk_gt := (xk_mem 200 (by decide +kernel) (by decide))
set_option maxRecDepth 100000 in
theorem kbS_107 : xk_CB RS 107 yF_ownLength cF_ownLength 3 (some .int) 2 := ⟨(xk_mem 207 (by rfl) rfl), (xk_mem 42 (by decide +kernel) (by decide)), (xk_mem 205 (by decide +kernel) (by decide)), by decide +kernel⟩
theorem kcS_107 : Cond.static yF_ownLength ∈ xk_gt := (xk_mem 206 (by decide +kernel) (by decide))
set_option maxRecDepth 100000 in
theorem kbS_58 : xk_CB RS 58 yF_partsOf cF_partsOf 1 (some .int) 1 := ⟨(xk_mem 217 (by rfl) rfl), (xk_mem 42 (by decide +kernel) (by decide)), (xk_mem 215 (by decide +kernel) (by decide)), by decide +kernel⟩
theorem kcS_58 : Cond.static yF_partsOf ∈ xk_gt := (xk_mem 216 (by decide +kernel) (by decide))
theorem fpS_41 : xk_FP RS 41 1 9 false (.int) := ⟨RS, TS, 10, rfl, by decide, i_S, (xk_mem 80 (by decide +kernel) (by decide)), ⟨tS, tS_ok⟩, nS_ok, rfl, by decide +kernel, fun h => by cases h⟩
theorem fgS_41 : xk_F RS 41 1 9 := ⟨RS, TS, 10, rfl, by decide, i_S, (xk_mem 80 (by decide +kernel) (by decide))⟩
set_option maxRecDepth 100000 in
theorem kbS_62 : xk_CB RS 62 yS_copyNodes cS_copyNodes 4 none 3 := ⟨(xk_mem 240 (by rfl) rfl), (xk_mem 38 (by decide +kernel) (by decide)), (xk_mem 237 (by decide +kernel) (by decide)), by decide +kernel⟩
theorem kcS_62 : Cond.instanceMethod yS_copyNodes ∈ xk_gt ∧ Cond.selects (yS_copyNodes).cls yS_copyNodes yS_copyNodes ∈ xk_gt := ⟨(xk_mem 239 (by decide +kernel) (by decide)), (xk_mem 1 (by decide +kernel) (by decide))⟩
set_option maxRecDepth 100000 in
theorem kbS_80 : xk_CB RS 80 yS_pushTerm cS_pushTerm 2 none 1 := ⟨(xk_mem 247 (by rfl) rfl), (xk_mem 38 (by decide +kernel) (by decide)), (xk_mem 244 (by decide +kernel) (by decide)), by decide +kernel⟩
theorem kcS_80 : Cond.instanceMethod yS_pushTerm ∈ xk_gt ∧ Cond.selects (yS_pushTerm).cls yS_pushTerm yS_pushTerm ∈ xk_gt := ⟨(xk_mem 246 (by decide +kernel) (by decide)), (xk_mem 2 (by decide +kernel) (by decide))⟩
set_option maxRecDepth 100000 in
theorem kbS_66 : xk_CB RS 66 yS_setNode cS_setNode 5 none 3 := ⟨(xk_mem 367 (by rfl) rfl), (xk_mem 38 (by decide +kernel) (by decide)), (xk_mem 486 (by decide +kernel) (by decide)), by decide +kernel⟩
theorem kcS_66 : Cond.instanceMethod yS_setNode ∈ xk_gt ∧ Cond.selects (yS_setNode).cls yS_setNode yS_setNode ∈ xk_gt := ⟨(xk_mem 365 (by decide +kernel) (by decide)), (xk_mem 366 (by decide +kernel) (by decide))⟩
set_option maxRecDepth 100000 in
theorem kbS_70 : xk_CB RS 70 yS_settle cS_settle 10 none 1 := ⟨(xk_mem 204 (by rfl) rfl), (xk_mem 38 (by decide +kernel) (by decide)), (xk_mem 201 (by decide +kernel) (by decide)), by decide +kernel⟩
theorem kcS_70 : Cond.instanceMethod yS_settle ∈ xk_gt ∧ Cond.selects (yS_settle).cls yS_settle yS_settle ∈ xk_gt := ⟨(xk_mem 203 (by decide +kernel) (by decide)), (xk_mem 0 (by decide +kernel) (by decide))⟩
set_option maxRecDepth 100000 in
theorem kbS_74 : xk_CB RS 74 yS_byteCount cS_byteCount 2 (some .int) 1 := ⟨(xk_mem 191 (by rfl) rfl), (xk_mem 38 (by decide +kernel) (by decide)), (xk_mem 188 (by decide +kernel) (by decide)), by decide +kernel⟩
theorem kcS_74 : Cond.instanceMethod yS_byteCount ∈ xk_gt ∧ Cond.selects (yS_byteCount).cls yS_byteCount yS_byteCount ∈ xk_gt := ⟨(xk_mem 189 (by decide +kernel) (by decide)), (xk_mem 190 (by decide +kernel) (by decide))⟩
set_option maxRecDepth 100000 in
theorem kbS_77 : xk_CB RS 77 yS_setByte cS_setByte 6 none 3 := ⟨(xk_mem 198 (by rfl) rfl), (xk_mem 38 (by decide +kernel) (by decide)), (xk_mem 195 (by decide +kernel) (by decide)), by decide +kernel⟩
theorem kcS_77 : Cond.instanceMethod yS_setByte ∈ xk_gt ∧ Cond.selects (yS_setByte).cls yS_setByte yS_setByte ∈ xk_gt := ⟨(xk_mem 196 (by decide +kernel) (by decide)), (xk_mem 197 (by decide +kernel) (by decide))⟩
set_option maxRecDepth 100000 in
theorem kbS_103 : xk_CB RS 103 yS_byteIn cS_byteIn 3 (some .int) 2 := ⟨(xk_mem 283 (by rfl) rfl), (xk_mem 38 (by decide +kernel) (by decide)), (xk_mem 280 (by decide +kernel) (by decide)), by decide +kernel⟩
theorem kcS_103 : Cond.instanceMethod yS_byteIn ∈ xk_gt ∧ Cond.selects (yS_byteIn).cls yS_byteIn yS_byteIn ∈ xk_gt := ⟨(xk_mem 281 (by decide +kernel) (by decide)), (xk_mem 282 (by decide +kernel) (by decide))⟩
set_option maxRecDepth 100000 in
theorem kbS_83 : xk_CB RS 83 yS_alike cS_alike 4 (some .boolean) 2 := ⟨(xk_mem 538 (by rfl) rfl), (xk_mem 38 (by decide +kernel) (by decide)), (xk_mem 535 (by decide +kernel) (by decide)), by decide +kernel⟩
theorem kcS_83 : Cond.instanceMethod yS_alike ∈ xk_gt ∧ Cond.selects (yS_alike).cls yS_alike yS_alike ∈ xk_gt := ⟨(xk_mem 537 (by decide +kernel) (by decide)), (xk_mem 12 (by decide +kernel) (by decide))⟩
set_option maxRecDepth 100000 in
theorem kbS_87 : xk_CB RS 87 yB_append cB_append 2 none 1 := ⟨(xk_mem 272 (by rfl) rfl), (xk_mem 39 (by decide +kernel) (by decide)), (xk_mem 269 (by decide +kernel) (by decide)), by decide +kernel⟩
theorem kcS_87 : Cond.instanceMethod yB_append ∈ xk_gt ∧ Cond.selects (yB_append).cls yB_append yB_append ∈ xk_gt := ⟨(xk_mem 270 (by decide +kernel) (by decide)), (xk_mem 271 (by decide +kernel) (by decide))⟩
set_option maxRecDepth 100000 in
theorem kbS_100 : xk_CB RS 100 yF_signedGroups cF_signedGroups 5 (some .int) 1 := ⟨(xk_mem 213 (by rfl) rfl), (xk_mem 42 (by decide +kernel) (by decide)), (xk_mem 279 (by decide +kernel) (by decide)), by decide +kernel⟩
theorem kcS_100 : Cond.static yF_signedGroups ∈ xk_gt := (xk_mem 212 (by decide +kernel) (by decide))
set_option maxRecDepth 100000 in
theorem kbS_96 : xk_CB RS 96 yB_appendGroups cB_appendGroups 6 none 2 := ⟨(xk_mem 277 (by rfl) rfl), (xk_mem 39 (by decide +kernel) (by decide)), (xk_mem 274 (by decide +kernel) (by decide)), by decide +kernel⟩
theorem kcS_96 : Cond.instanceMethod yB_appendGroups ∈ xk_gt ∧ Cond.selects (yB_appendGroups).cls yB_appendGroups yB_appendGroups ∈ xk_gt := ⟨(xk_mem 275 (by decide +kernel) (by decide)), (xk_mem 276 (by decide +kernel) (by decide))⟩
set_option maxRecDepth 100000 in
theorem kbS_92 : xk_CB RS 92 yF_unsignedGroups cF_unsignedGroups 3 (some .int) 1 := ⟨(xk_mem 210 (by rfl) rfl), (xk_mem 42 (by decide +kernel) (by decide)), (xk_mem 273 (by decide +kernel) (by decide)), by decide +kernel⟩
theorem kcS_92 : Cond.static yF_unsignedGroups ∈ xk_gt := (xk_mem 209 (by decide +kernel) (by decide))
end
section
set_option maxHeartbeats 4000000 in
set_option maxRecDepth 100000 in
/-- isKind: 0 .. 11 -/
theorem c_F_isKind (D : va_G) (kd : Int32) : xk_Ct yF_isKind cF_isKind 1 (some .boolean) { frames := 0, cells := 0, slots := 0, locals := 0 } D ([]) [.int kd] ([]) (fun rv ru => (rv = some (.int (nI 0)) ∧ ru = [] ∧ (∀ j, j ≤ 11 → kd ≠ nI j)) ∨ (∃ (j : Nat), rv = some (.int (nI 1)) ∧ ru = [] ∧ (kd = nI j) ∧ (j ≤ 11))) := by
  refine xk_enter (by decide) (Nat.le_of_ble_eq_true rfl) (fun K C T hin => ?_)
  show xk_Go K D 1 0 0 ([]) [(0, .int kd)] 0 []
  refine x_iload_n C dF_isKind_0 rfl 0 rfl ?_
  refine x_if_lt (tgt := 14) C dF_isKind_1 (by decide) (fun h1 => ?_) (fun h1 => ?_)
  ·
    refine x_iconst (v := nI 0) C dF_isKind_14 (by decide) ?_
    exact x_iret C T .boolean rfl rfl dF_isKind_15 (Or.inl (⟨rfl, rfl, (fun j hj e => nI_pos (n := j) (by omega) (e ▸ h1))⟩))
  ·
    obtain ⟨j, hj, rfl⟩ := nI_of h1
    refine x_iload_n C dF_isKind_4 rfl 0 rfl ?_
    refine x_bipush (v := nI 11) C dF_isKind_5 (by decide) ?_
    refine x_icmp_gtN (tgt := 14) C (by omega) (by decide) dF_isKind_7 (by decide) (fun h7 => ?_) (fun h7 => ?_)
    ·
      refine x_iconst (v := nI 0) C dF_isKind_14 (by decide) ?_
      exact x_iret C T .boolean rfl rfl dF_isKind_15 (Or.inl (⟨rfl, rfl, (fun i hi e => by have := (nI_eq hj (by omega)).mp e; omega)⟩))
    ·
      refine x_iconst (v := nI 1) C dF_isKind_10 (by decide) ?_
      refine x_goto C 15 dF_isKind_11 (by decide) ?_
      exact x_iret C T .boolean rfl rfl dF_isKind_15 (Or.inr (⟨j, rfl, rfl, rfl, (by omega)⟩))
set_option maxHeartbeats 4000000 in
set_option maxRecDepth 100000 in
/-- partsOf -/
theorem c_F_partsOf (D : va_G) (kd : Nat) (y1 : kd < 2 ^ 31) : xk_Ct yF_partsOf cF_partsOf 1 (some .int) { frames := 0, cells := 0, slots := 0, locals := 0 } D ([]) [.int (nI kd)] ([]) (fun rv ru => (rv = some (.int (nI (tc_tk kd))) ∧ ru = [])) := by
  refine xk_enter (by decide) (Nat.le_of_ble_eq_true rfl) (fun K C T hin => ?_)
  show xk_Go K D 1 0 0 ([]) [(0, .int (nI kd))] 0 []
  refine x_iload_n C dF_partsOf_0 rfl 0 rfl ?_
  refine x_iconst (v := nI 2) C dF_partsOf_1 (by decide) ?_
  refine x_icmp_neN (tgt := 7) C (by omega) (by decide) dF_partsOf_2 (by decide) (fun h2 => ?_) (fun h2 => ?_)
  ·
    refine x_iload_n C dF_partsOf_7 rfl 0 rfl ?_
    refine x_iconst (v := nI 1) C dF_partsOf_8 (by decide) ?_
    refine x_icmp_eqN (tgt := 22) C (by omega) (by decide) dF_partsOf_9 (by decide) (fun h9 => ?_) (fun h9 => ?_)
    ·
      refine x_iconst (v := nI 1) C dF_partsOf_22 (by decide) ?_
      refine x_goto C 27 dF_partsOf_23 (by decide) ?_
      exact x_iret C T .int rfl rfl dF_partsOf_27 (⟨by rw [h9]; rfl, rfl⟩)
    ·
      refine x_iload_n C dF_partsOf_12 rfl 0 rfl ?_
      refine x_iconst (v := nI 3) C dF_partsOf_13 (by decide) ?_
      refine x_icmp_eqN (tgt := 22) C (by omega) (by decide) dF_partsOf_14 (by decide) (fun h14 => ?_) (fun h14 => ?_)
      ·
        refine x_iconst (v := nI 1) C dF_partsOf_22 (by decide) ?_
        refine x_goto C 27 dF_partsOf_23 (by decide) ?_
        exact x_iret C T .int rfl rfl dF_partsOf_27 (⟨by rw [h14]; rfl, rfl⟩)
      ·
        refine x_iload_n C dF_partsOf_17 rfl 0 rfl ?_
        refine x_iconst (v := nI 4) C dF_partsOf_18 (by decide) ?_
        refine x_icmp_neN (tgt := 26) C (by omega) (by decide) dF_partsOf_19 (by decide) (fun h19 => ?_) (fun h19 => ?_)
        ·
          refine x_iconst (v := nI 0) C dF_partsOf_26 (by decide) ?_
          exact x_iret C T .int rfl rfl dF_partsOf_27 (⟨by unfold tc_tk; rw [if_neg h2, if_neg (by omega)], rfl⟩)
        ·
          refine x_iconst (v := nI 1) C dF_partsOf_22 (by decide) ?_
          refine x_goto C 27 dF_partsOf_23 (by decide) ?_
          exact x_iret C T .int rfl rfl dF_partsOf_27 (⟨by rw [h19]; rfl, rfl⟩)
  ·
    refine x_iconst (v := nI 2) C dF_partsOf_5 (by decide) ?_
    exact x_iret C T .int rfl rfl dF_partsOf_6 (⟨by rw [h2]; rfl, rfl⟩)
set_option maxHeartbeats 4000000 in
set_option maxRecDepth 100000 in
/-- hasNumber -/
theorem c_F_hasNumber (D : va_G) (kd : Nat) (y1 : kd < 2 ^ 31) : xk_Ct yF_hasNumber cF_hasNumber 1 (some .boolean) { frames := 0, cells := 0, slots := 0, locals := 0 } D ([]) [.int (nI kd)] ([]) (fun rv ru => (rv = some (.int (xk_bZ (tc_num kd))) ∧ ru = [])) := by
  refine xk_enter (by decide) (Nat.le_of_ble_eq_true rfl) (fun K C T hin => ?_)
  show xk_Go K D 1 0 0 ([]) [(0, .int (nI kd))] 0 []
  refine x_iload_n C dF_hasNumber_0 rfl 0 rfl ?_
  refine x_if_eqN (tgt := 22) C (by omega) dF_hasNumber_1 (by decide) (fun h1 => ?_) (fun h1 => ?_)
  ·
    refine x_iconst (v := nI 1) C dF_hasNumber_22 (by decide) ?_
    refine x_goto C 27 dF_hasNumber_23 (by decide) ?_
    exact x_iret C T .boolean rfl rfl dF_hasNumber_27 (⟨by rw [h1]; rfl, rfl⟩)
  ·
    refine x_iload_n C dF_hasNumber_4 rfl 0 rfl ?_
    refine x_bipush (v := nI 6) C dF_hasNumber_5 (by decide) ?_
    refine x_icmp_eqN (tgt := 22) C (by omega) (by decide) dF_hasNumber_7 (by decide) (fun h7 => ?_) (fun h7 => ?_)
    ·
      refine x_iconst (v := nI 1) C dF_hasNumber_22 (by decide) ?_
      refine x_goto C 27 dF_hasNumber_23 (by decide) ?_
      exact x_iret C T .boolean rfl rfl dF_hasNumber_27 (⟨by rw [h7]; rfl, rfl⟩)
    ·
      refine x_iload_n C dF_hasNumber_10 rfl 0 rfl ?_
      refine x_bipush (v := nI 7) C dF_hasNumber_11 (by decide) ?_
      refine x_icmp_eqN (tgt := 22) C (by omega) (by decide) dF_hasNumber_13 (by decide) (fun h13 => ?_) (fun h13 => ?_)
      ·
        refine x_iconst (v := nI 1) C dF_hasNumber_22 (by decide) ?_
        refine x_goto C 27 dF_hasNumber_23 (by decide) ?_
        exact x_iret C T .boolean rfl rfl dF_hasNumber_27 (⟨by rw [h13]; rfl, rfl⟩)
      ·
        refine x_iload_n C dF_hasNumber_16 rfl 0 rfl ?_
        refine x_bipush (v := nI 9) C dF_hasNumber_17 (by decide) ?_
        refine x_icmp_neN (tgt := 26) C (by omega) (by decide) dF_hasNumber_19 (by decide) (fun h19 => ?_) (fun h19 => ?_)
        ·
          refine x_iconst (v := nI 0) C dF_hasNumber_26 (by decide) ?_
          exact x_iret C T .boolean rfl rfl dF_hasNumber_27 (⟨by rw [show tc_num kd = false from decide_eq_false (by omega)]; rfl, rfl⟩)
        ·
          refine x_iconst (v := nI 1) C dF_hasNumber_22 (by decide) ?_
          refine x_goto C 27 dF_hasNumber_23 (by decide) ?_
          exact x_iret C T .boolean rfl rfl dF_hasNumber_27 (⟨by rw [h19]; rfl, rfl⟩)
set_option maxHeartbeats 4000000 in
set_option maxRecDepth 100000 in
/-- fits -/
theorem c_F_fits (D : va_G) (kd : Nat) (x : Int64) (y1 : kd = 0 ∨ kd = 1 ∨ kd = 2 ∨ kd = 3 ∨ kd = 4 ∨ kd = 5 ∨ kd = 6 ∨ kd = 7 ∨ kd = 8 ∨ kd = 9 ∨ kd = 10 ∨ kd = 11) : xk_Ct yF_fits cF_fits 3 (some .boolean) { frames := 0, cells := 0, slots := 0, locals := 0 } D ([]) [.int (nI kd), .long x] ([]) (fun rv ru => (rv = some (.int (xk_bZ (tc_fit kd x))) ∧ ru = [])) := by
  refine xk_enter (by decide) (Nat.le_of_ble_eq_true rfl) (fun K C T hin => ?_)
  show xk_Go K D 3 0 0 ([]) [(0, .int (nI kd)), (1, .long x)] 0 []
  refine x_iload_n C dF_fits_0 rfl 0 rfl ?_
  rcases y1 with rfl | rfl | rfl | rfl | rfl | rfl | rfl | rfl | rfl | rfl | rfl | rfl
  ·
    refine x_tblIn C 56 dF_fits_1 (by decide) (by decide) rfl (by decide) ?_
    refine x_lload_n C dF_fits_56 rfl 1 rfl ?_
    refine x_lconst (v := 1) C dF_fits_57 (by decide) ?_
    refine x_lcmp C dF_fits_58 ?_
    refine x_if_ltC (tgt := 74) C dF_fits_59 (by decide) (fun h59 => ?_) (fun h59 => ?_)
    ·
      refine x_iconst (v := nI 0) C dF_fits_74 (by decide) ?_
      exact x_iret C T .boolean rfl rfl dF_fits_75 (⟨by rw [show tc_fit 0 x = false from tc_fit_f (show ¬ (1 ≤ x ∧ x ≤ 200) from (by rintro ⟨q1, q2⟩; exact absurd h59 (Int64.not_lt.mpr q1)))]; rfl, rfl⟩)
    ·
      refine x_lload_n C dF_fits_62 rfl 1 rfl ?_
      refine x_ldc2 (v := 200) C dF_fits_63 klF_9 ?_
      refine x_lcmp C dF_fits_66 ?_
      refine x_if_gtC (tgt := 74) C dF_fits_67 (by decide) (fun h67 => ?_) (fun h67 => ?_)
      ·
        refine x_iconst (v := nI 0) C dF_fits_74 (by decide) ?_
        exact x_iret C T .boolean rfl rfl dF_fits_75 (⟨by rw [show tc_fit 0 x = false from tc_fit_f (show ¬ (1 ≤ x ∧ x ≤ 200) from (by rintro ⟨q1, q2⟩; exact absurd h67 (Int64.not_lt.mpr q2)))]; rfl, rfl⟩)
      ·
        refine x_iconst (v := nI 1) C dF_fits_70 (by decide) ?_
        refine x_goto C 75 dF_fits_71 (by decide) ?_
        exact x_iret C T .boolean rfl rfl dF_fits_75 (⟨by rw [show tc_fit 0 x = true from tc_fit_t (show (1 ≤ x ∧ x ≤ 200) from ⟨Int64.not_lt.mp h59, Int64.not_lt.mp h67⟩)]; rfl, rfl⟩)
  ·
    refine x_tblIn C 136 dF_fits_1 (by decide) (by decide) rfl (by decide) ?_
    refine x_lload_n C dF_fits_136 rfl 1 rfl ?_
    refine x_lconst (v := 0) C dF_fits_137 (by decide) ?_
    refine x_lcmp C dF_fits_138 ?_
    refine x_if_neC (tgt := 146) C dF_fits_139 (by decide) (fun h139 => ?_) (fun h139 => ?_)
    ·
      refine x_iconst (v := nI 0) C dF_fits_146 (by decide) ?_
      exact x_iret C T .boolean rfl rfl dF_fits_147 (⟨by rw [show tc_fit 1 x = false from tc_fit_f (show ¬ (x = 0) from h139)]; rfl, rfl⟩)
    ·
      refine x_iconst (v := nI 1) C dF_fits_142 (by decide) ?_
      refine x_goto C 147 dF_fits_143 (by decide) ?_
      exact x_iret C T .boolean rfl rfl dF_fits_147 (⟨by rw [show tc_fit 1 x = true from tc_fit_t (show (x = 0) from h139)]; rfl, rfl⟩)
  ·
    refine x_tblIn C 136 dF_fits_1 (by decide) (by decide) rfl (by decide) ?_
    refine x_lload_n C dF_fits_136 rfl 1 rfl ?_
    refine x_lconst (v := 0) C dF_fits_137 (by decide) ?_
    refine x_lcmp C dF_fits_138 ?_
    refine x_if_neC (tgt := 146) C dF_fits_139 (by decide) (fun h139 => ?_) (fun h139 => ?_)
    ·
      refine x_iconst (v := nI 0) C dF_fits_146 (by decide) ?_
      exact x_iret C T .boolean rfl rfl dF_fits_147 (⟨by rw [show tc_fit 2 x = false from tc_fit_f (show ¬ (x = 0) from h139)]; rfl, rfl⟩)
    ·
      refine x_iconst (v := nI 1) C dF_fits_142 (by decide) ?_
      refine x_goto C 147 dF_fits_143 (by decide) ?_
      exact x_iret C T .boolean rfl rfl dF_fits_147 (⟨by rw [show tc_fit 2 x = true from tc_fit_t (show (x = 0) from h139)]; rfl, rfl⟩)
  ·
    refine x_tblIn C 136 dF_fits_1 (by decide) (by decide) rfl (by decide) ?_
    refine x_lload_n C dF_fits_136 rfl 1 rfl ?_
    refine x_lconst (v := 0) C dF_fits_137 (by decide) ?_
    refine x_lcmp C dF_fits_138 ?_
    refine x_if_neC (tgt := 146) C dF_fits_139 (by decide) (fun h139 => ?_) (fun h139 => ?_)
    ·
      refine x_iconst (v := nI 0) C dF_fits_146 (by decide) ?_
      exact x_iret C T .boolean rfl rfl dF_fits_147 (⟨by rw [show tc_fit 3 x = false from tc_fit_f (show ¬ (x = 0) from h139)]; rfl, rfl⟩)
    ·
      refine x_iconst (v := nI 1) C dF_fits_142 (by decide) ?_
      refine x_goto C 147 dF_fits_143 (by decide) ?_
      exact x_iret C T .boolean rfl rfl dF_fits_147 (⟨by rw [show tc_fit 3 x = true from tc_fit_t (show (x = 0) from h139)]; rfl, rfl⟩)
  ·
    refine x_tblIn C 136 dF_fits_1 (by decide) (by decide) rfl (by decide) ?_
    refine x_lload_n C dF_fits_136 rfl 1 rfl ?_
    refine x_lconst (v := 0) C dF_fits_137 (by decide) ?_
    refine x_lcmp C dF_fits_138 ?_
    refine x_if_neC (tgt := 146) C dF_fits_139 (by decide) (fun h139 => ?_) (fun h139 => ?_)
    ·
      refine x_iconst (v := nI 0) C dF_fits_146 (by decide) ?_
      exact x_iret C T .boolean rfl rfl dF_fits_147 (⟨by rw [show tc_fit 4 x = false from tc_fit_f (show ¬ (x = 0) from h139)]; rfl, rfl⟩)
    ·
      refine x_iconst (v := nI 1) C dF_fits_142 (by decide) ?_
      refine x_goto C 147 dF_fits_143 (by decide) ?_
      exact x_iret C T .boolean rfl rfl dF_fits_147 (⟨by rw [show tc_fit 4 x = true from tc_fit_t (show (x = 0) from h139)]; rfl, rfl⟩)
  ·
    refine x_tblIn C 136 dF_fits_1 (by decide) (by decide) rfl (by decide) ?_
    refine x_lload_n C dF_fits_136 rfl 1 rfl ?_
    refine x_lconst (v := 0) C dF_fits_137 (by decide) ?_
    refine x_lcmp C dF_fits_138 ?_
    refine x_if_neC (tgt := 146) C dF_fits_139 (by decide) (fun h139 => ?_) (fun h139 => ?_)
    ·
      refine x_iconst (v := nI 0) C dF_fits_146 (by decide) ?_
      exact x_iret C T .boolean rfl rfl dF_fits_147 (⟨by rw [show tc_fit 5 x = false from tc_fit_f (show ¬ (x = 0) from h139)]; rfl, rfl⟩)
    ·
      refine x_iconst (v := nI 1) C dF_fits_142 (by decide) ?_
      refine x_goto C 147 dF_fits_143 (by decide) ?_
      exact x_iret C T .boolean rfl rfl dF_fits_147 (⟨by rw [show tc_fit 5 x = true from tc_fit_t (show (x = 0) from h139)]; rfl, rfl⟩)
  ·
    refine x_tblIn C 76 dF_fits_1 (by decide) (by decide) rfl (by decide) ?_
    refine x_lload_n C dF_fits_76 rfl 1 rfl ?_
    refine x_lconst (v := 0) C dF_fits_77 (by decide) ?_
    refine x_lcmp C dF_fits_78 ?_
    refine x_if_ltC (tgt := 94) C dF_fits_79 (by decide) (fun h79 => ?_) (fun h79 => ?_)
    ·
      refine x_iconst (v := nI 0) C dF_fits_94 (by decide) ?_
      exact x_iret C T .boolean rfl rfl dF_fits_95 (⟨by rw [show tc_fit 6 x = false from tc_fit_f (show ¬ (0 ≤ x ∧ x ≤ 31) from (by rintro ⟨q1, q2⟩; exact absurd h79 (Int64.not_lt.mpr q1)))]; rfl, rfl⟩)
    ·
      refine x_lload_n C dF_fits_82 rfl 1 rfl ?_
      refine x_ldc2 (v := 31) C dF_fits_83 klF_11 ?_
      refine x_lcmp C dF_fits_86 ?_
      refine x_if_gtC (tgt := 94) C dF_fits_87 (by decide) (fun h87 => ?_) (fun h87 => ?_)
      ·
        refine x_iconst (v := nI 0) C dF_fits_94 (by decide) ?_
        exact x_iret C T .boolean rfl rfl dF_fits_95 (⟨by rw [show tc_fit 6 x = false from tc_fit_f (show ¬ (0 ≤ x ∧ x ≤ 31) from (by rintro ⟨q1, q2⟩; exact absurd h87 (Int64.not_lt.mpr q2)))]; rfl, rfl⟩)
      ·
        refine x_iconst (v := nI 1) C dF_fits_90 (by decide) ?_
        refine x_goto C 95 dF_fits_91 (by decide) ?_
        exact x_iret C T .boolean rfl rfl dF_fits_95 (⟨by rw [show tc_fit 6 x = true from tc_fit_t (show (0 ≤ x ∧ x ≤ 31) from ⟨Int64.not_lt.mp h79, Int64.not_lt.mp h87⟩)]; rfl, rfl⟩)
  ·
    refine x_tblIn C 96 dF_fits_1 (by decide) (by decide) rfl (by decide) ?_
    refine x_iconst (v := nI 1) C dF_fits_96 (by decide) ?_
    exact x_iret C T .boolean rfl rfl dF_fits_97 (⟨by rw [show tc_fit 7 x = true from tc_fit_t (show True from trivial)]; rfl, rfl⟩)
  ·
    refine x_tblIn C 98 dF_fits_1 (by decide) (by decide) rfl (by decide) ?_
    refine x_lload_n C dF_fits_98 rfl 1 rfl ?_
    refine x_lconst (v := 0) C dF_fits_99 (by decide) ?_
    refine x_lcmp C dF_fits_100 ?_
    refine x_if_ltC (tgt := 116) C dF_fits_101 (by decide) (fun h101 => ?_) (fun h101 => ?_)
    ·
      refine x_iconst (v := nI 0) C dF_fits_116 (by decide) ?_
      exact x_iret C T .boolean rfl rfl dF_fits_117 (⟨by rw [show tc_fit 8 x = false from tc_fit_f (show ¬ (0 ≤ x ∧ x ≤ 64) from (by rintro ⟨q1, q2⟩; exact absurd h101 (Int64.not_lt.mpr q1)))]; rfl, rfl⟩)
    ·
      refine x_lload_n C dF_fits_104 rfl 1 rfl ?_
      refine x_ldc2 (v := 64) C dF_fits_105 klF_13 ?_
      refine x_lcmp C dF_fits_108 ?_
      refine x_if_gtC (tgt := 116) C dF_fits_109 (by decide) (fun h109 => ?_) (fun h109 => ?_)
      ·
        refine x_iconst (v := nI 0) C dF_fits_116 (by decide) ?_
        exact x_iret C T .boolean rfl rfl dF_fits_117 (⟨by rw [show tc_fit 8 x = false from tc_fit_f (show ¬ (0 ≤ x ∧ x ≤ 64) from (by rintro ⟨q1, q2⟩; exact absurd h109 (Int64.not_lt.mpr q2)))]; rfl, rfl⟩)
      ·
        refine x_iconst (v := nI 1) C dF_fits_112 (by decide) ?_
        refine x_goto C 117 dF_fits_113 (by decide) ?_
        exact x_iret C T .boolean rfl rfl dF_fits_117 (⟨by rw [show tc_fit 8 x = true from tc_fit_t (show (0 ≤ x ∧ x ≤ 64) from ⟨Int64.not_lt.mp h101, Int64.not_lt.mp h109⟩)]; rfl, rfl⟩)
  ·
    refine x_tblIn C 118 dF_fits_1 (by decide) (by decide) rfl (by decide) ?_
    refine x_lload_n C dF_fits_118 rfl 1 rfl ?_
    refine x_lconst (v := 0) C dF_fits_119 (by decide) ?_
    refine x_lcmp C dF_fits_120 ?_
    refine x_if_eqC (tgt := 130) C dF_fits_121 (by decide) (fun h121 => ?_) (fun h121 => ?_)
    ·
      refine x_iconst (v := nI 1) C dF_fits_130 (by decide) ?_
      refine x_goto C 135 dF_fits_131 (by decide) ?_
      exact x_iret C T .boolean rfl rfl dF_fits_135 (⟨by rw [show tc_fit 9 x = true from tc_fit_t (show (x = 0 ∨ x = 1) from (Or.inl h121))]; rfl, rfl⟩)
    ·
      refine x_lload_n C dF_fits_124 rfl 1 rfl ?_
      refine x_lconst (v := 1) C dF_fits_125 (by decide) ?_
      refine x_lcmp C dF_fits_126 ?_
      refine x_if_neC (tgt := 134) C dF_fits_127 (by decide) (fun h127 => ?_) (fun h127 => ?_)
      ·
        refine x_iconst (v := nI 0) C dF_fits_134 (by decide) ?_
        exact x_iret C T .boolean rfl rfl dF_fits_135 (⟨by rw [show tc_fit 9 x = false from tc_fit_f (show ¬ (x = 0 ∨ x = 1) from (by rintro (q | q); exact h121 q; exact h127 q))]; rfl, rfl⟩)
      ·
        refine x_iconst (v := nI 1) C dF_fits_130 (by decide) ?_
        refine x_goto C 135 dF_fits_131 (by decide) ?_
        exact x_iret C T .boolean rfl rfl dF_fits_135 (⟨by rw [show tc_fit 9 x = true from tc_fit_t (show (x = 0 ∨ x = 1) from (Or.inr h127))]; rfl, rfl⟩)
  ·
    refine x_tblOut C 136 dF_fits_1 (by decide) (by decide) ?_
    refine x_lload_n C dF_fits_136 rfl 1 rfl ?_
    refine x_lconst (v := 0) C dF_fits_137 (by decide) ?_
    refine x_lcmp C dF_fits_138 ?_
    refine x_if_neC (tgt := 146) C dF_fits_139 (by decide) (fun h139 => ?_) (fun h139 => ?_)
    ·
      refine x_iconst (v := nI 0) C dF_fits_146 (by decide) ?_
      exact x_iret C T .boolean rfl rfl dF_fits_147 (⟨by rw [show tc_fit 10 x = false from tc_fit_f (show ¬ (x = 0) from h139)]; rfl, rfl⟩)
    ·
      refine x_iconst (v := nI 1) C dF_fits_142 (by decide) ?_
      refine x_goto C 147 dF_fits_143 (by decide) ?_
      exact x_iret C T .boolean rfl rfl dF_fits_147 (⟨by rw [show tc_fit 10 x = true from tc_fit_t (show (x = 0) from h139)]; rfl, rfl⟩)
  ·
    refine x_tblOut C 136 dF_fits_1 (by decide) (by decide) ?_
    refine x_lload_n C dF_fits_136 rfl 1 rfl ?_
    refine x_lconst (v := 0) C dF_fits_137 (by decide) ?_
    refine x_lcmp C dF_fits_138 ?_
    refine x_if_neC (tgt := 146) C dF_fits_139 (by decide) (fun h139 => ?_) (fun h139 => ?_)
    ·
      refine x_iconst (v := nI 0) C dF_fits_146 (by decide) ?_
      exact x_iret C T .boolean rfl rfl dF_fits_147 (⟨by rw [show tc_fit 11 x = false from tc_fit_f (show ¬ (x = 0) from h139)]; rfl, rfl⟩)
    ·
      refine x_iconst (v := nI 1) C dF_fits_142 (by decide) ?_
      refine x_goto C 147 dF_fits_143 (by decide) ?_
      exact x_iret C T .boolean rfl rfl dF_fits_147 (⟨by rw [show tc_fit 11 x = true from tc_fit_t (show (x = 0) from h139)]; rfl, rfl⟩)
set_option maxHeartbeats 4000000 in
set_option maxRecDepth 100000 in
/-- unsignedGroups -/
theorem c_F_unsignedGroups (D : va_G) (v : Nat) (y1 : v < 9223372036854775808) : xk_Ct yF_unsignedGroups cF_unsignedGroups 3 (some .int) { frames := 0, cells := 0, slots := 0, locals := 0 } D ([]) [.long (lN v)] ([]) (fun rv ru => (rv = some (.int (nI (tc_gU v))) ∧ ru = [])) := by
  refine xk_enter (by decide) (Nat.le_of_ble_eq_true rfl) (fun K C T hin => ?_)
  show xk_Go K D 3 0 0 ([]) [(0, .long (lN v))] 0 []
  refine x_iconst (v := nI 1) C dF_unsignedGroups_0 (by decide) ?_
  refine x_istore_n C [(2, .int (nI 1)), (0, .long (lN v))] dF_unsignedGroups_1 rfl (by decide) rfl ?_
  refine x_iload_n C dF_unsignedGroups_2 rfl 0 rfl ?_
  refine x_iconst (v := nI 5) C dF_unsignedGroups_3 (by decide) ?_
  refine x_icmp_ge (tgt := 26) C dF_unsignedGroups_4 (by decide) (fun h => absurd h (by decide)) (fun _ => ?_)
  refine x_lload_n C dF_unsignedGroups_7 rfl 1 rfl ?_
  refine x_bipush (v := nI 7) C dF_unsignedGroups_8 (by decide) ?_
  refine x_iload_n C dF_unsignedGroups_10 rfl 0 rfl ?_
  refine x_imul C dF_unsignedGroups_11 ?_
  refine x_top (y := nI 7) (by decide) ?_
  refine x_lushr (v := lN (v / 128)) C dF_unsignedGroups_12 (wb_shr (by omega) (by decide)) ?_
  refine x_lconst (v := 0) C dF_unsignedGroups_13 (by decide) ?_
  refine x_lcmp C dF_unsignedGroups_14 ?_
  refine x_if_neC (tgt := 20) C dF_unsignedGroups_15 (by decide) (fun h15 => ?_) (fun h15 => ?_)
  ·
    have n1 : ¬ v < 128 := fun q => h15 (tc_div0' (by decide) q)
    refine x_iinc (q := 0) C (nI 2) [(2, .int (nI 2)), (0, .long (lN v))] dF_unsignedGroups_20 rfl (by decide) (by decide) rfl ?_
    refine x_goto C 2 dF_unsignedGroups_23 (by decide) ?_
    refine x_iload_n C dF_unsignedGroups_2 rfl 0 rfl ?_
    refine x_iconst (v := nI 5) C dF_unsignedGroups_3 (by decide) ?_
    refine x_icmp_ge (tgt := 26) C dF_unsignedGroups_4 (by decide) (fun h => absurd h (by decide)) (fun _ => ?_)
    refine x_lload_n C dF_unsignedGroups_7 rfl 1 rfl ?_
    refine x_bipush (v := nI 7) C dF_unsignedGroups_8 (by decide) ?_
    refine x_iload_n C dF_unsignedGroups_10 rfl 0 rfl ?_
    refine x_imul C dF_unsignedGroups_11 ?_
    refine x_top (y := nI 14) (by decide) ?_
    refine x_lushr (v := lN (v / 16384)) C dF_unsignedGroups_12 (wb_shr (by omega) (by decide)) ?_
    refine x_lconst (v := 0) C dF_unsignedGroups_13 (by decide) ?_
    refine x_lcmp C dF_unsignedGroups_14 ?_
    refine x_if_neC (tgt := 20) C dF_unsignedGroups_15 (by decide) (fun h15 => ?_) (fun h15 => ?_)
    ·
      have n2 : ¬ v < 16384 := fun q => h15 (tc_div0' (by decide) q)
      refine x_iinc (q := 0) C (nI 3) [(2, .int (nI 3)), (0, .long (lN v))] dF_unsignedGroups_20 rfl (by decide) (by decide) rfl ?_
      refine x_goto C 2 dF_unsignedGroups_23 (by decide) ?_
      refine x_iload_n C dF_unsignedGroups_2 rfl 0 rfl ?_
      refine x_iconst (v := nI 5) C dF_unsignedGroups_3 (by decide) ?_
      refine x_icmp_ge (tgt := 26) C dF_unsignedGroups_4 (by decide) (fun h => absurd h (by decide)) (fun _ => ?_)
      refine x_lload_n C dF_unsignedGroups_7 rfl 1 rfl ?_
      refine x_bipush (v := nI 7) C dF_unsignedGroups_8 (by decide) ?_
      refine x_iload_n C dF_unsignedGroups_10 rfl 0 rfl ?_
      refine x_imul C dF_unsignedGroups_11 ?_
      refine x_top (y := nI 21) (by decide) ?_
      refine x_lushr (v := lN (v / 2097152)) C dF_unsignedGroups_12 (wb_shr (by omega) (by decide)) ?_
      refine x_lconst (v := 0) C dF_unsignedGroups_13 (by decide) ?_
      refine x_lcmp C dF_unsignedGroups_14 ?_
      refine x_if_neC (tgt := 20) C dF_unsignedGroups_15 (by decide) (fun h15 => ?_) (fun h15 => ?_)
      ·
        have n3 : ¬ v < 2097152 := fun q => h15 (tc_div0' (by decide) q)
        refine x_iinc (q := 0) C (nI 4) [(2, .int (nI 4)), (0, .long (lN v))] dF_unsignedGroups_20 rfl (by decide) (by decide) rfl ?_
        refine x_goto C 2 dF_unsignedGroups_23 (by decide) ?_
        refine x_iload_n C dF_unsignedGroups_2 rfl 0 rfl ?_
        refine x_iconst (v := nI 5) C dF_unsignedGroups_3 (by decide) ?_
        refine x_icmp_ge (tgt := 26) C dF_unsignedGroups_4 (by decide) (fun h => absurd h (by decide)) (fun _ => ?_)
        refine x_lload_n C dF_unsignedGroups_7 rfl 1 rfl ?_
        refine x_bipush (v := nI 7) C dF_unsignedGroups_8 (by decide) ?_
        refine x_iload_n C dF_unsignedGroups_10 rfl 0 rfl ?_
        refine x_imul C dF_unsignedGroups_11 ?_
        refine x_top (y := nI 28) (by decide) ?_
        refine x_lushr (v := lN (v / 268435456)) C dF_unsignedGroups_12 (wb_shr (by omega) (by decide)) ?_
        refine x_lconst (v := 0) C dF_unsignedGroups_13 (by decide) ?_
        refine x_lcmp C dF_unsignedGroups_14 ?_
        refine x_if_neC (tgt := 20) C dF_unsignedGroups_15 (by decide) (fun h15 => ?_) (fun h15 => ?_)
        ·
          have n4 : ¬ v < 268435456 := fun q => h15 (tc_div0' (by decide) q)
          refine x_iinc (q := 0) C (nI 5) [(2, .int (nI 5)), (0, .long (lN v))] dF_unsignedGroups_20 rfl (by decide) (by decide) rfl ?_
          refine x_goto C 2 dF_unsignedGroups_23 (by decide) ?_
          refine x_iload_n C dF_unsignedGroups_2 rfl 0 rfl ?_
          refine x_iconst (v := nI 5) C dF_unsignedGroups_3 (by decide) ?_
          refine x_icmp_ge (tgt := 26) C dF_unsignedGroups_4 (by decide) (fun _ => ?_) (fun h => absurd (by decide) h)
          refine x_iconst (v := nI 5) C dF_unsignedGroups_26 (by decide) ?_
          exact x_iret C T .int rfl rfl dF_unsignedGroups_27 (⟨by rw [show tc_gU v = 5 by unfold tc_gU; simp only [if_neg n1, if_neg n2, if_neg n3, if_neg n4]], rfl⟩)
        ·
          refine x_iload_n C dF_unsignedGroups_18 rfl 0 rfl ?_
          have z4 : v < 268435456 := tc_div0 (by decide) (by omega) h15
          exact x_iret C T .int rfl rfl dF_unsignedGroups_19 (⟨by rw [show tc_gU v = 4 by unfold tc_gU; simp only [if_neg n1, if_neg n2, if_neg n3, if_pos z4]], rfl⟩)
      ·
        refine x_iload_n C dF_unsignedGroups_18 rfl 0 rfl ?_
        have z3 : v < 2097152 := tc_div0 (by decide) (by omega) h15
        exact x_iret C T .int rfl rfl dF_unsignedGroups_19 (⟨by rw [show tc_gU v = 3 by unfold tc_gU; simp only [if_neg n1, if_neg n2, if_pos z3]], rfl⟩)
    ·
      refine x_iload_n C dF_unsignedGroups_18 rfl 0 rfl ?_
      have z2 : v < 16384 := tc_div0 (by decide) (by omega) h15
      exact x_iret C T .int rfl rfl dF_unsignedGroups_19 (⟨by rw [show tc_gU v = 2 by unfold tc_gU; simp only [if_neg n1, if_pos z2]], rfl⟩)
  ·
    refine x_iload_n C dF_unsignedGroups_18 rfl 0 rfl ?_
    have z1 : v < 128 := tc_div0 (by decide) (by omega) h15
    exact x_iret C T .int rfl rfl dF_unsignedGroups_19 (⟨by rw [show tc_gU v = 1 by unfold tc_gU; simp only [if_pos z1]], rfl⟩)
set_option maxHeartbeats 4000000 in
set_option maxRecDepth 100000 in
/-- signedGroups -/
theorem c_F_signedGroups (D : va_G) (x : Int64) : xk_Ct yF_signedGroups cF_signedGroups 5 (some .int) { frames := 0, cells := 0, slots := 0, locals := 0 } D ([]) [.long x] ([]) (fun rv ru => (rv = some (.int (nI (tc_gS x.toInt))) ∧ ru = [])) := by
  refine xk_enter (by decide) (Nat.le_of_ble_eq_true rfl) (fun K C T hin => ?_)
  show xk_Go K D 5 0 0 ([]) [(0, .long x)] 0 []
  refine x_iconst (v := nI 1) C dF_signedGroups_0 (by decide) ?_
  refine x_istore_n C [(2, .int (nI 1)), (0, .long x)] dF_signedGroups_1 rfl (by decide) rfl ?_
  refine x_iload_n C dF_signedGroups_2 rfl 0 rfl ?_
  refine x_bipush (v := nI 10) C dF_signedGroups_3 (by decide) ?_
  refine x_icmp_ge (tgt := 39) C dF_signedGroups_5 (by decide) (fun h => absurd h (by decide)) (fun _ => ?_)
  refine x_lload_n C dF_signedGroups_8 rfl 1 rfl ?_
  refine x_bipush (v := nI 7) C dF_signedGroups_9 (by decide) ?_
  refine x_iload_n C dF_signedGroups_11 rfl 0 rfl ?_
  refine x_imul C dF_signedGroups_12 ?_
  refine x_top (y := nI 7) (by decide) ?_
  refine x_iconst (v := nI 1) C dF_signedGroups_13 (by decide) ?_
  refine x_isub C dF_signedGroups_14 ?_
  refine x_top (y := nI 6) (by decide) ?_
  refine x_lshr (v := x >>> ((nI 6).toInt64 &&& 63)) C dF_signedGroups_15 rfl ?_
  refine x_lstore_n C [(3, .long (x >>> ((nI 6).toInt64 &&& 63))), (2, .int (nI 1)), (0, .long x)] dF_signedGroups_16 rfl (by decide) rfl ?_
  refine x_lload_n C dF_signedGroups_17 rfl 0 rfl ?_
  refine x_lconst (v := 0) C dF_signedGroups_18 (by decide) ?_
  refine x_lcmp C dF_signedGroups_19 ?_
  refine x_if_eqC (tgt := 31) C dF_signedGroups_20 (by decide) (fun h20 => ?_) (fun h20 => ?_)
  ·
    have z1 := (tc_sg1 x).mp (by first | exact Or.inl h20 | exact Or.inr h28)
    refine x_iload_n C dF_signedGroups_31 rfl 1 rfl ?_
    exact x_iret C T .int rfl rfl dF_signedGroups_32 (⟨by rw [show tc_gS x.toInt = 1 by unfold tc_gS; simp only [if_pos z1]], rfl⟩)
  ·
    refine x_lload_n C dF_signedGroups_23 rfl 0 rfl ?_
    refine x_ldc2 (v := (-1)) C dF_signedGroups_24 klF_24 ?_
    refine x_lcmp C dF_signedGroups_27 ?_
    refine x_if_neC (tgt := 33) C dF_signedGroups_28 (by decide) (fun h28 => ?_) (fun h28 => ?_)
    ·
      have n1 := fun q => ((tc_sg1 x).mpr q).elim h20 h28
      refine x_iinc (q := 1) C (nI 2) [(2, .int (nI 2)), (3, .long (x >>> ((nI 6).toInt64 &&& 63))), (0, .long x)] dF_signedGroups_33 rfl (by decide) (by decide) rfl ?_
      refine x_goto C 2 dF_signedGroups_36 (by decide) ?_
      refine x_iload_n C dF_signedGroups_2 rfl 0 rfl ?_
      refine x_bipush (v := nI 10) C dF_signedGroups_3 (by decide) ?_
      refine x_icmp_ge (tgt := 39) C dF_signedGroups_5 (by decide) (fun h => absurd h (by decide)) (fun _ => ?_)
      refine x_lload_n C dF_signedGroups_8 rfl 2 rfl ?_
      refine x_bipush (v := nI 7) C dF_signedGroups_9 (by decide) ?_
      refine x_iload_n C dF_signedGroups_11 rfl 0 rfl ?_
      refine x_imul C dF_signedGroups_12 ?_
      refine x_top (y := nI 14) (by decide) ?_
      refine x_iconst (v := nI 1) C dF_signedGroups_13 (by decide) ?_
      refine x_isub C dF_signedGroups_14 ?_
      refine x_top (y := nI 13) (by decide) ?_
      refine x_lshr (v := x >>> ((nI 13).toInt64 &&& 63)) C dF_signedGroups_15 rfl ?_
      refine x_lstore_n C [(3, .long (x >>> ((nI 13).toInt64 &&& 63))), (2, .int (nI 2)), (0, .long x)] dF_signedGroups_16 rfl (by decide) rfl ?_
      refine x_lload_n C dF_signedGroups_17 rfl 0 rfl ?_
      refine x_lconst (v := 0) C dF_signedGroups_18 (by decide) ?_
      refine x_lcmp C dF_signedGroups_19 ?_
      refine x_if_eqC (tgt := 31) C dF_signedGroups_20 (by decide) (fun h20 => ?_) (fun h20 => ?_)
      ·
        have z2 := (tc_sg2 x).mp (by first | exact Or.inl h20 | exact Or.inr h28)
        refine x_iload_n C dF_signedGroups_31 rfl 1 rfl ?_
        exact x_iret C T .int rfl rfl dF_signedGroups_32 (⟨by rw [show tc_gS x.toInt = 2 by unfold tc_gS; simp only [if_neg n1, if_pos z2]], rfl⟩)
      ·
        refine x_lload_n C dF_signedGroups_23 rfl 0 rfl ?_
        refine x_ldc2 (v := (-1)) C dF_signedGroups_24 klF_24 ?_
        refine x_lcmp C dF_signedGroups_27 ?_
        refine x_if_neC (tgt := 33) C dF_signedGroups_28 (by decide) (fun h28 => ?_) (fun h28 => ?_)
        ·
          have n2 := fun q => ((tc_sg2 x).mpr q).elim h20 h28
          refine x_iinc (q := 1) C (nI 3) [(2, .int (nI 3)), (3, .long (x >>> ((nI 13).toInt64 &&& 63))), (0, .long x)] dF_signedGroups_33 rfl (by decide) (by decide) rfl ?_
          refine x_goto C 2 dF_signedGroups_36 (by decide) ?_
          refine x_iload_n C dF_signedGroups_2 rfl 0 rfl ?_
          refine x_bipush (v := nI 10) C dF_signedGroups_3 (by decide) ?_
          refine x_icmp_ge (tgt := 39) C dF_signedGroups_5 (by decide) (fun h => absurd h (by decide)) (fun _ => ?_)
          refine x_lload_n C dF_signedGroups_8 rfl 2 rfl ?_
          refine x_bipush (v := nI 7) C dF_signedGroups_9 (by decide) ?_
          refine x_iload_n C dF_signedGroups_11 rfl 0 rfl ?_
          refine x_imul C dF_signedGroups_12 ?_
          refine x_top (y := nI 21) (by decide) ?_
          refine x_iconst (v := nI 1) C dF_signedGroups_13 (by decide) ?_
          refine x_isub C dF_signedGroups_14 ?_
          refine x_top (y := nI 20) (by decide) ?_
          refine x_lshr (v := x >>> ((nI 20).toInt64 &&& 63)) C dF_signedGroups_15 rfl ?_
          refine x_lstore_n C [(3, .long (x >>> ((nI 20).toInt64 &&& 63))), (2, .int (nI 3)), (0, .long x)] dF_signedGroups_16 rfl (by decide) rfl ?_
          refine x_lload_n C dF_signedGroups_17 rfl 0 rfl ?_
          refine x_lconst (v := 0) C dF_signedGroups_18 (by decide) ?_
          refine x_lcmp C dF_signedGroups_19 ?_
          refine x_if_eqC (tgt := 31) C dF_signedGroups_20 (by decide) (fun h20 => ?_) (fun h20 => ?_)
          ·
            have z3 := (tc_sg3 x).mp (by first | exact Or.inl h20 | exact Or.inr h28)
            refine x_iload_n C dF_signedGroups_31 rfl 1 rfl ?_
            exact x_iret C T .int rfl rfl dF_signedGroups_32 (⟨by rw [show tc_gS x.toInt = 3 by unfold tc_gS; simp only [if_neg n1, if_neg n2, if_pos z3]], rfl⟩)
          ·
            refine x_lload_n C dF_signedGroups_23 rfl 0 rfl ?_
            refine x_ldc2 (v := (-1)) C dF_signedGroups_24 klF_24 ?_
            refine x_lcmp C dF_signedGroups_27 ?_
            refine x_if_neC (tgt := 33) C dF_signedGroups_28 (by decide) (fun h28 => ?_) (fun h28 => ?_)
            ·
              have n3 := fun q => ((tc_sg3 x).mpr q).elim h20 h28
              refine x_iinc (q := 1) C (nI 4) [(2, .int (nI 4)), (3, .long (x >>> ((nI 20).toInt64 &&& 63))), (0, .long x)] dF_signedGroups_33 rfl (by decide) (by decide) rfl ?_
              refine x_goto C 2 dF_signedGroups_36 (by decide) ?_
              refine x_iload_n C dF_signedGroups_2 rfl 0 rfl ?_
              refine x_bipush (v := nI 10) C dF_signedGroups_3 (by decide) ?_
              refine x_icmp_ge (tgt := 39) C dF_signedGroups_5 (by decide) (fun h => absurd h (by decide)) (fun _ => ?_)
              refine x_lload_n C dF_signedGroups_8 rfl 2 rfl ?_
              refine x_bipush (v := nI 7) C dF_signedGroups_9 (by decide) ?_
              refine x_iload_n C dF_signedGroups_11 rfl 0 rfl ?_
              refine x_imul C dF_signedGroups_12 ?_
              refine x_top (y := nI 28) (by decide) ?_
              refine x_iconst (v := nI 1) C dF_signedGroups_13 (by decide) ?_
              refine x_isub C dF_signedGroups_14 ?_
              refine x_top (y := nI 27) (by decide) ?_
              refine x_lshr (v := x >>> ((nI 27).toInt64 &&& 63)) C dF_signedGroups_15 rfl ?_
              refine x_lstore_n C [(3, .long (x >>> ((nI 27).toInt64 &&& 63))), (2, .int (nI 4)), (0, .long x)] dF_signedGroups_16 rfl (by decide) rfl ?_
              refine x_lload_n C dF_signedGroups_17 rfl 0 rfl ?_
              refine x_lconst (v := 0) C dF_signedGroups_18 (by decide) ?_
              refine x_lcmp C dF_signedGroups_19 ?_
              refine x_if_eqC (tgt := 31) C dF_signedGroups_20 (by decide) (fun h20 => ?_) (fun h20 => ?_)
              ·
                have z4 := (tc_sg4 x).mp (by first | exact Or.inl h20 | exact Or.inr h28)
                refine x_iload_n C dF_signedGroups_31 rfl 1 rfl ?_
                exact x_iret C T .int rfl rfl dF_signedGroups_32 (⟨by rw [show tc_gS x.toInt = 4 by unfold tc_gS; simp only [if_neg n1, if_neg n2, if_neg n3, if_pos z4]], rfl⟩)
              ·
                refine x_lload_n C dF_signedGroups_23 rfl 0 rfl ?_
                refine x_ldc2 (v := (-1)) C dF_signedGroups_24 klF_24 ?_
                refine x_lcmp C dF_signedGroups_27 ?_
                refine x_if_neC (tgt := 33) C dF_signedGroups_28 (by decide) (fun h28 => ?_) (fun h28 => ?_)
                ·
                  have n4 := fun q => ((tc_sg4 x).mpr q).elim h20 h28
                  refine x_iinc (q := 1) C (nI 5) [(2, .int (nI 5)), (3, .long (x >>> ((nI 27).toInt64 &&& 63))), (0, .long x)] dF_signedGroups_33 rfl (by decide) (by decide) rfl ?_
                  refine x_goto C 2 dF_signedGroups_36 (by decide) ?_
                  refine x_iload_n C dF_signedGroups_2 rfl 0 rfl ?_
                  refine x_bipush (v := nI 10) C dF_signedGroups_3 (by decide) ?_
                  refine x_icmp_ge (tgt := 39) C dF_signedGroups_5 (by decide) (fun h => absurd h (by decide)) (fun _ => ?_)
                  refine x_lload_n C dF_signedGroups_8 rfl 2 rfl ?_
                  refine x_bipush (v := nI 7) C dF_signedGroups_9 (by decide) ?_
                  refine x_iload_n C dF_signedGroups_11 rfl 0 rfl ?_
                  refine x_imul C dF_signedGroups_12 ?_
                  refine x_top (y := nI 35) (by decide) ?_
                  refine x_iconst (v := nI 1) C dF_signedGroups_13 (by decide) ?_
                  refine x_isub C dF_signedGroups_14 ?_
                  refine x_top (y := nI 34) (by decide) ?_
                  refine x_lshr (v := x >>> ((nI 34).toInt64 &&& 63)) C dF_signedGroups_15 rfl ?_
                  refine x_lstore_n C [(3, .long (x >>> ((nI 34).toInt64 &&& 63))), (2, .int (nI 5)), (0, .long x)] dF_signedGroups_16 rfl (by decide) rfl ?_
                  refine x_lload_n C dF_signedGroups_17 rfl 0 rfl ?_
                  refine x_lconst (v := 0) C dF_signedGroups_18 (by decide) ?_
                  refine x_lcmp C dF_signedGroups_19 ?_
                  refine x_if_eqC (tgt := 31) C dF_signedGroups_20 (by decide) (fun h20 => ?_) (fun h20 => ?_)
                  ·
                    have z5 := (tc_sg5 x).mp (by first | exact Or.inl h20 | exact Or.inr h28)
                    refine x_iload_n C dF_signedGroups_31 rfl 1 rfl ?_
                    exact x_iret C T .int rfl rfl dF_signedGroups_32 (⟨by rw [show tc_gS x.toInt = 5 by unfold tc_gS; simp only [if_neg n1, if_neg n2, if_neg n3, if_neg n4, if_pos z5]], rfl⟩)
                  ·
                    refine x_lload_n C dF_signedGroups_23 rfl 0 rfl ?_
                    refine x_ldc2 (v := (-1)) C dF_signedGroups_24 klF_24 ?_
                    refine x_lcmp C dF_signedGroups_27 ?_
                    refine x_if_neC (tgt := 33) C dF_signedGroups_28 (by decide) (fun h28 => ?_) (fun h28 => ?_)
                    ·
                      have n5 := fun q => ((tc_sg5 x).mpr q).elim h20 h28
                      refine x_iinc (q := 1) C (nI 6) [(2, .int (nI 6)), (3, .long (x >>> ((nI 34).toInt64 &&& 63))), (0, .long x)] dF_signedGroups_33 rfl (by decide) (by decide) rfl ?_
                      refine x_goto C 2 dF_signedGroups_36 (by decide) ?_
                      refine x_iload_n C dF_signedGroups_2 rfl 0 rfl ?_
                      refine x_bipush (v := nI 10) C dF_signedGroups_3 (by decide) ?_
                      refine x_icmp_ge (tgt := 39) C dF_signedGroups_5 (by decide) (fun h => absurd h (by decide)) (fun _ => ?_)
                      refine x_lload_n C dF_signedGroups_8 rfl 2 rfl ?_
                      refine x_bipush (v := nI 7) C dF_signedGroups_9 (by decide) ?_
                      refine x_iload_n C dF_signedGroups_11 rfl 0 rfl ?_
                      refine x_imul C dF_signedGroups_12 ?_
                      refine x_top (y := nI 42) (by decide) ?_
                      refine x_iconst (v := nI 1) C dF_signedGroups_13 (by decide) ?_
                      refine x_isub C dF_signedGroups_14 ?_
                      refine x_top (y := nI 41) (by decide) ?_
                      refine x_lshr (v := x >>> ((nI 41).toInt64 &&& 63)) C dF_signedGroups_15 rfl ?_
                      refine x_lstore_n C [(3, .long (x >>> ((nI 41).toInt64 &&& 63))), (2, .int (nI 6)), (0, .long x)] dF_signedGroups_16 rfl (by decide) rfl ?_
                      refine x_lload_n C dF_signedGroups_17 rfl 0 rfl ?_
                      refine x_lconst (v := 0) C dF_signedGroups_18 (by decide) ?_
                      refine x_lcmp C dF_signedGroups_19 ?_
                      refine x_if_eqC (tgt := 31) C dF_signedGroups_20 (by decide) (fun h20 => ?_) (fun h20 => ?_)
                      ·
                        have z6 := (tc_sg6 x).mp (by first | exact Or.inl h20 | exact Or.inr h28)
                        refine x_iload_n C dF_signedGroups_31 rfl 1 rfl ?_
                        exact x_iret C T .int rfl rfl dF_signedGroups_32 (⟨by rw [show tc_gS x.toInt = 6 by unfold tc_gS; simp only [if_neg n1, if_neg n2, if_neg n3, if_neg n4, if_neg n5, if_pos z6]], rfl⟩)
                      ·
                        refine x_lload_n C dF_signedGroups_23 rfl 0 rfl ?_
                        refine x_ldc2 (v := (-1)) C dF_signedGroups_24 klF_24 ?_
                        refine x_lcmp C dF_signedGroups_27 ?_
                        refine x_if_neC (tgt := 33) C dF_signedGroups_28 (by decide) (fun h28 => ?_) (fun h28 => ?_)
                        ·
                          have n6 := fun q => ((tc_sg6 x).mpr q).elim h20 h28
                          refine x_iinc (q := 1) C (nI 7) [(2, .int (nI 7)), (3, .long (x >>> ((nI 41).toInt64 &&& 63))), (0, .long x)] dF_signedGroups_33 rfl (by decide) (by decide) rfl ?_
                          refine x_goto C 2 dF_signedGroups_36 (by decide) ?_
                          refine x_iload_n C dF_signedGroups_2 rfl 0 rfl ?_
                          refine x_bipush (v := nI 10) C dF_signedGroups_3 (by decide) ?_
                          refine x_icmp_ge (tgt := 39) C dF_signedGroups_5 (by decide) (fun h => absurd h (by decide)) (fun _ => ?_)
                          refine x_lload_n C dF_signedGroups_8 rfl 2 rfl ?_
                          refine x_bipush (v := nI 7) C dF_signedGroups_9 (by decide) ?_
                          refine x_iload_n C dF_signedGroups_11 rfl 0 rfl ?_
                          refine x_imul C dF_signedGroups_12 ?_
                          refine x_top (y := nI 49) (by decide) ?_
                          refine x_iconst (v := nI 1) C dF_signedGroups_13 (by decide) ?_
                          refine x_isub C dF_signedGroups_14 ?_
                          refine x_top (y := nI 48) (by decide) ?_
                          refine x_lshr (v := x >>> ((nI 48).toInt64 &&& 63)) C dF_signedGroups_15 rfl ?_
                          refine x_lstore_n C [(3, .long (x >>> ((nI 48).toInt64 &&& 63))), (2, .int (nI 7)), (0, .long x)] dF_signedGroups_16 rfl (by decide) rfl ?_
                          refine x_lload_n C dF_signedGroups_17 rfl 0 rfl ?_
                          refine x_lconst (v := 0) C dF_signedGroups_18 (by decide) ?_
                          refine x_lcmp C dF_signedGroups_19 ?_
                          refine x_if_eqC (tgt := 31) C dF_signedGroups_20 (by decide) (fun h20 => ?_) (fun h20 => ?_)
                          ·
                            have z7 := (tc_sg7 x).mp (by first | exact Or.inl h20 | exact Or.inr h28)
                            refine x_iload_n C dF_signedGroups_31 rfl 1 rfl ?_
                            exact x_iret C T .int rfl rfl dF_signedGroups_32 (⟨by rw [show tc_gS x.toInt = 7 by unfold tc_gS; simp only [if_neg n1, if_neg n2, if_neg n3, if_neg n4, if_neg n5, if_neg n6, if_pos z7]], rfl⟩)
                          ·
                            refine x_lload_n C dF_signedGroups_23 rfl 0 rfl ?_
                            refine x_ldc2 (v := (-1)) C dF_signedGroups_24 klF_24 ?_
                            refine x_lcmp C dF_signedGroups_27 ?_
                            refine x_if_neC (tgt := 33) C dF_signedGroups_28 (by decide) (fun h28 => ?_) (fun h28 => ?_)
                            ·
                              have n7 := fun q => ((tc_sg7 x).mpr q).elim h20 h28
                              refine x_iinc (q := 1) C (nI 8) [(2, .int (nI 8)), (3, .long (x >>> ((nI 48).toInt64 &&& 63))), (0, .long x)] dF_signedGroups_33 rfl (by decide) (by decide) rfl ?_
                              refine x_goto C 2 dF_signedGroups_36 (by decide) ?_
                              refine x_iload_n C dF_signedGroups_2 rfl 0 rfl ?_
                              refine x_bipush (v := nI 10) C dF_signedGroups_3 (by decide) ?_
                              refine x_icmp_ge (tgt := 39) C dF_signedGroups_5 (by decide) (fun h => absurd h (by decide)) (fun _ => ?_)
                              refine x_lload_n C dF_signedGroups_8 rfl 2 rfl ?_
                              refine x_bipush (v := nI 7) C dF_signedGroups_9 (by decide) ?_
                              refine x_iload_n C dF_signedGroups_11 rfl 0 rfl ?_
                              refine x_imul C dF_signedGroups_12 ?_
                              refine x_top (y := nI 56) (by decide) ?_
                              refine x_iconst (v := nI 1) C dF_signedGroups_13 (by decide) ?_
                              refine x_isub C dF_signedGroups_14 ?_
                              refine x_top (y := nI 55) (by decide) ?_
                              refine x_lshr (v := x >>> ((nI 55).toInt64 &&& 63)) C dF_signedGroups_15 rfl ?_
                              refine x_lstore_n C [(3, .long (x >>> ((nI 55).toInt64 &&& 63))), (2, .int (nI 8)), (0, .long x)] dF_signedGroups_16 rfl (by decide) rfl ?_
                              refine x_lload_n C dF_signedGroups_17 rfl 0 rfl ?_
                              refine x_lconst (v := 0) C dF_signedGroups_18 (by decide) ?_
                              refine x_lcmp C dF_signedGroups_19 ?_
                              refine x_if_eqC (tgt := 31) C dF_signedGroups_20 (by decide) (fun h20 => ?_) (fun h20 => ?_)
                              ·
                                have z8 := (tc_sg8 x).mp (by first | exact Or.inl h20 | exact Or.inr h28)
                                refine x_iload_n C dF_signedGroups_31 rfl 1 rfl ?_
                                exact x_iret C T .int rfl rfl dF_signedGroups_32 (⟨by rw [show tc_gS x.toInt = 8 by unfold tc_gS; simp only [if_neg n1, if_neg n2, if_neg n3, if_neg n4, if_neg n5, if_neg n6, if_neg n7, if_pos z8]], rfl⟩)
                              ·
                                refine x_lload_n C dF_signedGroups_23 rfl 0 rfl ?_
                                refine x_ldc2 (v := (-1)) C dF_signedGroups_24 klF_24 ?_
                                refine x_lcmp C dF_signedGroups_27 ?_
                                refine x_if_neC (tgt := 33) C dF_signedGroups_28 (by decide) (fun h28 => ?_) (fun h28 => ?_)
                                ·
                                  have n8 := fun q => ((tc_sg8 x).mpr q).elim h20 h28
                                  refine x_iinc (q := 1) C (nI 9) [(2, .int (nI 9)), (3, .long (x >>> ((nI 55).toInt64 &&& 63))), (0, .long x)] dF_signedGroups_33 rfl (by decide) (by decide) rfl ?_
                                  refine x_goto C 2 dF_signedGroups_36 (by decide) ?_
                                  refine x_iload_n C dF_signedGroups_2 rfl 0 rfl ?_
                                  refine x_bipush (v := nI 10) C dF_signedGroups_3 (by decide) ?_
                                  refine x_icmp_ge (tgt := 39) C dF_signedGroups_5 (by decide) (fun h => absurd h (by decide)) (fun _ => ?_)
                                  refine x_lload_n C dF_signedGroups_8 rfl 2 rfl ?_
                                  refine x_bipush (v := nI 7) C dF_signedGroups_9 (by decide) ?_
                                  refine x_iload_n C dF_signedGroups_11 rfl 0 rfl ?_
                                  refine x_imul C dF_signedGroups_12 ?_
                                  refine x_top (y := nI 63) (by decide) ?_
                                  refine x_iconst (v := nI 1) C dF_signedGroups_13 (by decide) ?_
                                  refine x_isub C dF_signedGroups_14 ?_
                                  refine x_top (y := nI 62) (by decide) ?_
                                  refine x_lshr (v := x >>> ((nI 62).toInt64 &&& 63)) C dF_signedGroups_15 rfl ?_
                                  refine x_lstore_n C [(3, .long (x >>> ((nI 62).toInt64 &&& 63))), (2, .int (nI 9)), (0, .long x)] dF_signedGroups_16 rfl (by decide) rfl ?_
                                  refine x_lload_n C dF_signedGroups_17 rfl 0 rfl ?_
                                  refine x_lconst (v := 0) C dF_signedGroups_18 (by decide) ?_
                                  refine x_lcmp C dF_signedGroups_19 ?_
                                  refine x_if_eqC (tgt := 31) C dF_signedGroups_20 (by decide) (fun h20 => ?_) (fun h20 => ?_)
                                  ·
                                    have z9 := (tc_sg9 x).mp (by first | exact Or.inl h20 | exact Or.inr h28)
                                    refine x_iload_n C dF_signedGroups_31 rfl 1 rfl ?_
                                    exact x_iret C T .int rfl rfl dF_signedGroups_32 (⟨by rw [show tc_gS x.toInt = 9 by unfold tc_gS; simp only [if_neg n1, if_neg n2, if_neg n3, if_neg n4, if_neg n5, if_neg n6, if_neg n7, if_neg n8, if_pos z9]], rfl⟩)
                                  ·
                                    refine x_lload_n C dF_signedGroups_23 rfl 0 rfl ?_
                                    refine x_ldc2 (v := (-1)) C dF_signedGroups_24 klF_24 ?_
                                    refine x_lcmp C dF_signedGroups_27 ?_
                                    refine x_if_neC (tgt := 33) C dF_signedGroups_28 (by decide) (fun h28 => ?_) (fun h28 => ?_)
                                    ·
                                      have n9 := fun q => ((tc_sg9 x).mpr q).elim h20 h28
                                      refine x_iinc (q := 1) C (nI 10) [(2, .int (nI 10)), (3, .long (x >>> ((nI 62).toInt64 &&& 63))), (0, .long x)] dF_signedGroups_33 rfl (by decide) (by decide) rfl ?_
                                      refine x_goto C 2 dF_signedGroups_36 (by decide) ?_
                                      refine x_iload_n C dF_signedGroups_2 rfl 0 rfl ?_
                                      refine x_bipush (v := nI 10) C dF_signedGroups_3 (by decide) ?_
                                      refine x_icmp_ge (tgt := 39) C dF_signedGroups_5 (by decide) (fun _ => ?_) (fun h => absurd (by decide) h)
                                      refine x_bipush (v := nI 10) C dF_signedGroups_39 (by decide) ?_
                                      exact x_iret C T .int rfl rfl dF_signedGroups_41 (⟨by rw [show tc_gS x.toInt = 10 by unfold tc_gS; simp only [if_neg n1, if_neg n2, if_neg n3, if_neg n4, if_neg n5, if_neg n6, if_neg n7, if_neg n8, if_neg n9]], rfl⟩)
                                    ·
                                      have z9 := (tc_sg9 x).mp (by first | exact Or.inl h20 | exact Or.inr h28)
                                      refine x_iload_n C dF_signedGroups_31 rfl 1 rfl ?_
                                      exact x_iret C T .int rfl rfl dF_signedGroups_32 (⟨by rw [show tc_gS x.toInt = 9 by unfold tc_gS; simp only [if_neg n1, if_neg n2, if_neg n3, if_neg n4, if_neg n5, if_neg n6, if_neg n7, if_neg n8, if_pos z9]], rfl⟩)
                                ·
                                  have z8 := (tc_sg8 x).mp (by first | exact Or.inl h20 | exact Or.inr h28)
                                  refine x_iload_n C dF_signedGroups_31 rfl 1 rfl ?_
                                  exact x_iret C T .int rfl rfl dF_signedGroups_32 (⟨by rw [show tc_gS x.toInt = 8 by unfold tc_gS; simp only [if_neg n1, if_neg n2, if_neg n3, if_neg n4, if_neg n5, if_neg n6, if_neg n7, if_pos z8]], rfl⟩)
                            ·
                              have z7 := (tc_sg7 x).mp (by first | exact Or.inl h20 | exact Or.inr h28)
                              refine x_iload_n C dF_signedGroups_31 rfl 1 rfl ?_
                              exact x_iret C T .int rfl rfl dF_signedGroups_32 (⟨by rw [show tc_gS x.toInt = 7 by unfold tc_gS; simp only [if_neg n1, if_neg n2, if_neg n3, if_neg n4, if_neg n5, if_neg n6, if_pos z7]], rfl⟩)
                        ·
                          have z6 := (tc_sg6 x).mp (by first | exact Or.inl h20 | exact Or.inr h28)
                          refine x_iload_n C dF_signedGroups_31 rfl 1 rfl ?_
                          exact x_iret C T .int rfl rfl dF_signedGroups_32 (⟨by rw [show tc_gS x.toInt = 6 by unfold tc_gS; simp only [if_neg n1, if_neg n2, if_neg n3, if_neg n4, if_neg n5, if_pos z6]], rfl⟩)
                    ·
                      have z5 := (tc_sg5 x).mp (by first | exact Or.inl h20 | exact Or.inr h28)
                      refine x_iload_n C dF_signedGroups_31 rfl 1 rfl ?_
                      exact x_iret C T .int rfl rfl dF_signedGroups_32 (⟨by rw [show tc_gS x.toInt = 5 by unfold tc_gS; simp only [if_neg n1, if_neg n2, if_neg n3, if_neg n4, if_pos z5]], rfl⟩)
                ·
                  have z4 := (tc_sg4 x).mp (by first | exact Or.inl h20 | exact Or.inr h28)
                  refine x_iload_n C dF_signedGroups_31 rfl 1 rfl ?_
                  exact x_iret C T .int rfl rfl dF_signedGroups_32 (⟨by rw [show tc_gS x.toInt = 4 by unfold tc_gS; simp only [if_neg n1, if_neg n2, if_neg n3, if_pos z4]], rfl⟩)
            ·
              have z3 := (tc_sg3 x).mp (by first | exact Or.inl h20 | exact Or.inr h28)
              refine x_iload_n C dF_signedGroups_31 rfl 1 rfl ?_
              exact x_iret C T .int rfl rfl dF_signedGroups_32 (⟨by rw [show tc_gS x.toInt = 3 by unfold tc_gS; simp only [if_neg n1, if_neg n2, if_pos z3]], rfl⟩)
        ·
          have z2 := (tc_sg2 x).mp (by first | exact Or.inl h20 | exact Or.inr h28)
          refine x_iload_n C dF_signedGroups_31 rfl 1 rfl ?_
          exact x_iret C T .int rfl rfl dF_signedGroups_32 (⟨by rw [show tc_gS x.toInt = 2 by unfold tc_gS; simp only [if_neg n1, if_pos z2]], rfl⟩)
    ·
      have z1 := (tc_sg1 x).mp (by first | exact Or.inl h20 | exact Or.inr h28)
      refine x_iload_n C dF_signedGroups_31 rfl 1 rfl ?_
      exact x_iret C T .int rfl rfl dF_signedGroups_32 (⟨by rw [show tc_gS x.toInt = 1 by unfold tc_gS; simp only [if_pos z1]], rfl⟩)
set_option maxHeartbeats 4000000 in
set_option maxRecDepth 100000 in
/-- byteOf -/
theorem c_F_byteOf (D : va_G) (x : Int64) (i : Nat) (y1 : i < 8) : xk_Ct yF_byteOf cF_byteOf 3 (some .int) { frames := 0, cells := 0, slots := 0, locals := 0 } D ([]) [.long x, .int (nI i)] ([]) (fun rv ru => (rv = some (.int (nI (tc_by x i))) ∧ ru = [])) := by
  refine xk_enter (by decide) (Nat.le_of_ble_eq_true rfl) (fun K C T hin => ?_)
  show xk_Go K D 3 0 0 ([]) [(0, .long x), (2, .int (nI i))] 0 []
  refine x_lload_n C dF_byteOf_0 rfl 0 rfl ?_
  refine x_bipush (v := nI 8) C dF_byteOf_1 (by decide) ?_
  refine x_iload_n C dF_byteOf_3 rfl 1 rfl ?_
  refine x_imulN C dF_byteOf_4 ?_
  refine x_lushr (v := ((x.toUInt64 >>> ((nI (8 * i)).toInt64.toUInt64 &&& Int64.toUInt64 63)).toInt64)) C dF_byteOf_5 rfl ?_
  refine x_l2i (v := Int64.toInt32 ((x.toUInt64 >>> ((nI (8 * i)).toInt64.toUInt64 &&& Int64.toUInt64 63)).toInt64)) C dF_byteOf_6 rfl ?_
  refine x_sipush (v := nI 255) C dF_byteOf_7 (by decide) ?_
  refine x_iand C dF_byteOf_10 ?_
  refine x_top (tc_byteOf x y1) ?_
  exact x_iret C T .int rfl rfl dF_byteOf_11 (⟨rfl, rfl⟩)
set_option maxHeartbeats 4000000 in
set_option maxRecDepth 100000 in
/-- ownLength -/
theorem c_F_ownLength (D : va_G) (kd : Nat) (x : Int64) (v : Nat) (y1 : kd = 0 ∨ kd = 1 ∨ kd = 2 ∨ kd = 3 ∨ kd = 4 ∨ kd = 5 ∨ kd = 6 ∨ kd = 7 ∨ kd = 8 ∨ kd = 9 ∨ kd = 10 ∨ kd = 11) (y2 : kd = 0 ∨ kd = 8 → x = lN v ∧ v < 2 ^ 30) : xk_Ct yF_ownLength cF_ownLength 3 (some .int) { frames := 1, cells := 0, slots := 0, locals := 24 } D ([]) [.int (nI kd), .long x] ([]) (fun rv ru => (rv = some (.int (nI (tc_ol kd x))) ∧ ru = [])) := by
  refine xk_enter (by decide) (Nat.le_of_ble_eq_true rfl) (fun K C T hin => ?_)
  show xk_Go K D 3 0 0 ([]) [(0, .int (nI kd)), (1, .long x)] 0 []
  refine x_iload_n C dF_ownLength_0 rfl 0 rfl ?_
  rcases y1 with rfl | rfl | rfl | rfl | rfl | rfl | rfl | rfl | rfl | rfl | rfl | rfl
  ·
    refine x_tblIn C 56 dF_ownLength_1 (by decide) (by decide) rfl (by decide) ?_
    refine x_iconst (v := nI 1) C dF_ownLength_56 (by decide) ?_
    obtain ⟨rfl, hv⟩ := y2 (Or.inl rfl)
    refine x_lload_n C dF_ownLength_57 rfl 1 rfl ?_
    refine x_callS C (c_F_unsignedGroups D v (by omega)) kbF_15 kcF_15 [] [] [] ([]) rfl rfl (by decide) (by decide) (by decide) rfl ⟨Nat.le_of_ble_eq_true rfl, Nat.le_of_ble_eq_true rfl⟩ ⟨Nat.le_of_ble_eq_true rfl, Nat.le_of_ble_eq_true rfl⟩ [.int (nI 1)] rfl rfl (Nat.le_of_ble_eq_true rfl) dF_ownLength_58 (fun rv ru hw => ?_)
    obtain ⟨rfl, rfl⟩ := hw
    show xk_Go K D 3 0 0 ([]) [(0, .int (nI 0)), (1, .long (lN v))] 61 [.int (nI (tc_gU v)), .int (nI 1)]
    refine x_iaddN C dF_ownLength_61 ?_
    exact x_iret C T .int rfl rfl dF_ownLength_62 (⟨by rw [tc_ol_0 hv], rfl⟩)
  ·
    refine x_tblIn C 77 dF_ownLength_1 (by decide) (by decide) rfl (by decide) ?_
    refine x_iconst (v := nI 1) C dF_ownLength_77 (by decide) ?_
    exact x_iret C T .int rfl rfl dF_ownLength_78 (⟨rfl, rfl⟩)
  ·
    refine x_tblIn C 77 dF_ownLength_1 (by decide) (by decide) rfl (by decide) ?_
    refine x_iconst (v := nI 1) C dF_ownLength_77 (by decide) ?_
    exact x_iret C T .int rfl rfl dF_ownLength_78 (⟨rfl, rfl⟩)
  ·
    refine x_tblIn C 77 dF_ownLength_1 (by decide) (by decide) rfl (by decide) ?_
    refine x_iconst (v := nI 1) C dF_ownLength_77 (by decide) ?_
    exact x_iret C T .int rfl rfl dF_ownLength_78 (⟨rfl, rfl⟩)
  ·
    refine x_tblIn C 77 dF_ownLength_1 (by decide) (by decide) rfl (by decide) ?_
    refine x_iconst (v := nI 1) C dF_ownLength_77 (by decide) ?_
    exact x_iret C T .int rfl rfl dF_ownLength_78 (⟨rfl, rfl⟩)
  ·
    refine x_tblIn C 77 dF_ownLength_1 (by decide) (by decide) rfl (by decide) ?_
    refine x_iconst (v := nI 1) C dF_ownLength_77 (by decide) ?_
    exact x_iret C T .int rfl rfl dF_ownLength_78 (⟨rfl, rfl⟩)
  ·
    refine x_tblIn C 75 dF_ownLength_1 (by decide) (by decide) rfl (by decide) ?_
    refine x_iconst (v := nI 2) C dF_ownLength_75 (by decide) ?_
    exact x_iret C T .int rfl rfl dF_ownLength_76 (⟨rfl, rfl⟩)
  ·
    refine x_tblIn C 63 dF_ownLength_1 (by decide) (by decide) rfl (by decide) ?_
    refine x_iconst (v := nI 1) C dF_ownLength_63 (by decide) ?_
    refine x_lload_n C dF_ownLength_64 rfl 1 rfl ?_
    refine x_callS C (c_F_signedGroups D x) kbF_21 kcF_21 [] [] [] ([]) rfl rfl (by decide) (by decide) (by decide) rfl ⟨Nat.le_of_ble_eq_true rfl, Nat.le_of_ble_eq_true rfl⟩ ⟨Nat.le_of_ble_eq_true rfl, Nat.le_of_ble_eq_true rfl⟩ [.int (nI 1)] rfl rfl (Nat.le_of_ble_eq_true rfl) dF_ownLength_65 (fun rv ru hw => ?_)
    obtain ⟨rfl, rfl⟩ := hw
    show xk_Go K D 3 0 0 ([]) [(0, .int (nI 7)), (1, .long x)] 68 [.int (nI (tc_gS x.toInt)), .int (nI 1)]
    refine x_iaddN C dF_ownLength_68 ?_
    exact x_iret C T .int rfl rfl dF_ownLength_69 (⟨rfl, rfl⟩)
  ·
    refine x_tblIn C 70 dF_ownLength_1 (by decide) (by decide) rfl (by decide) ?_
    refine x_iconst (v := nI 2) C dF_ownLength_70 (by decide) ?_
    obtain ⟨rfl, hv⟩ := y2 (Or.inr rfl)
    refine x_lload_n C dF_ownLength_71 rfl 1 rfl ?_
    refine x_l2i (v := nI v) C dF_ownLength_72 (lN_i _) ?_
    refine x_iaddN C dF_ownLength_73 ?_
    exact x_iret C T .int rfl rfl dF_ownLength_74 (⟨by rw [tc_ol_8 hv], rfl⟩)
  ·
    refine x_tblIn C 75 dF_ownLength_1 (by decide) (by decide) rfl (by decide) ?_
    refine x_iconst (v := nI 2) C dF_ownLength_75 (by decide) ?_
    exact x_iret C T .int rfl rfl dF_ownLength_76 (⟨rfl, rfl⟩)
  ·
    refine x_tblOut C 77 dF_ownLength_1 (by decide) (by decide) ?_
    refine x_iconst (v := nI 1) C dF_ownLength_77 (by decide) ?_
    exact x_iret C T .int rfl rfl dF_ownLength_78 (⟨rfl, rfl⟩)
  ·
    refine x_tblOut C 77 dF_ownLength_1 (by decide) (by decide) ?_
    refine x_iconst (v := nI 1) C dF_ownLength_77 (by decide) ?_
    exact x_iret C T .int rfl rfl dF_ownLength_78 (⟨rfl, rfl⟩)
end
section
set_option maxHeartbeats 4000000 in
set_option maxRecDepth 100000 in
/-- room -/
theorem c_B_room (D : va_G) (b : Nat → Nat) (cb : Nat → ClassId) (bf : Nat → Nat) (sz : Nat) (y1 : sz ≤ 4096) : xk_Ct yB_room cB_room 1 (some .int) { frames := 0, cells := 0, slots := 0, locals := 0 } D (tc_tB cb) [.ref (b 0)] (tc_wB b cb bf sz) (fun rv ru => (rv = some (.int (nI (4096 - sz))) ∧ ru = tc_wB b cb bf sz)) := by
  refine xk_enter (by decide) (Nat.le_of_ble_eq_true rfl) (fun K C T hin => ?_)
  show xk_Go K D 1 0 0 (tc_wB b cb bf sz) [(0, .ref (b 0))] 0 []
  refine x_sipush (v := nI 4096) C dB_room_0 (by decide) ?_
  refine x_aload_n C dB_room_3 rfl 0 rfl ?_
  refine x_get C fgB_15 0 rfl rfl dB_room_4 ?_
  refine x_isubN C (by omega) dB_room_7 ?_
  exact x_iret C T .int rfl rfl dB_room_8 (⟨rfl, rfl⟩)
set_option maxHeartbeats 4000000 in
set_option maxRecDepth 100000 in
/-- get -/
theorem c_B_get (D : va_G) (b : Nat → Nat) (cb : Nat → ClassId) (bf : Nat → Nat) (sz : Nat) (i : Int32) (y1 : sz ≤ 4096) : xk_Ct yB_get cB_get 2 (some .int) { frames := 0, cells := 0, slots := 0, locals := 0 } D (tc_tB cb) [.ref (b 0), .int i] (tc_wB b cb bf sz) (fun rv ru => (rv = some (.int (xk_oI none)) ∧ ru = tc_wB b cb bf sz ∧ (∀ j, j < sz → i ≠ nI j)) ∨ (∃ (j : Nat), rv = some (.int (nI (bf j % 256))) ∧ ru = tc_wB b cb bf sz ∧ (i = nI j) ∧ (j < sz))) := by
  refine xk_enter (by decide) (Nat.le_of_ble_eq_true rfl) (fun K C T hin => ?_)
  show xk_Go K D 2 0 0 (tc_wB b cb bf sz) [(0, .ref (b 0)), (1, .int i)] 0 []
  refine x_iload_n C dB_get_0 rfl 1 rfl ?_
  refine x_if_lt (tgt := 12) C dB_get_1 (by decide) (fun h1 => ?_) (fun h1 => ?_)
  ·
    refine x_iconst (v := xk_oI none) C dB_get_12 (by decide) ?_
    refine x_goto C 26 dB_get_13 (by decide) ?_
    exact x_iret C T .int rfl rfl dB_get_26 (Or.inl (⟨rfl, rfl, (fun j hj e => nI_pos (n := j) (by omega) (e ▸ h1))⟩))
  ·
    obtain ⟨j, hj, rfl⟩ := nI_of h1
    refine x_iload_n C dB_get_4 rfl 1 rfl ?_
    refine x_aload_n C dB_get_5 rfl 0 rfl ?_
    refine x_get C fgB_15 0 rfl rfl dB_get_6 ?_
    refine x_icmp_ltN (tgt := 16) C (by omega) (by omega) dB_get_9 (by decide) (fun h9 => ?_) (fun h9 => ?_)
    ·
      refine x_aload_n C dB_get_16 rfl 0 rfl ?_
      refine x_get C fgB_9 0 rfl rfl dB_get_17 ?_
      refine x_iload_n C dB_get_20 rfl 1 rfl ?_
      refine x_bld C 1 0 rfl rfl (by omega) (by decide) dB_get_21 ?_
      show xk_Go K D 2 0 0 (tc_wB b cb bf sz) [(0, .ref (b 0)), (1, .int (nI j))] 22 [.int (xk_sb (bf j))]
      refine x_sipush (v := nI 255) C dB_get_22 (by decide) ?_
      refine x_iand C dB_get_25 ?_
      refine x_top (xk_sb_and (bf j)) ?_
      exact x_iret C T .int rfl rfl dB_get_26 (Or.inr (⟨j, rfl, rfl, rfl, h9⟩))
    ·
      refine x_iconst (v := xk_oI none) C dB_get_12 (by decide) ?_
      refine x_goto C 26 dB_get_13 (by decide) ?_
      exact x_iret C T .int rfl rfl dB_get_26 (Or.inl (⟨rfl, rfl, (fun i hi e => by have := (nI_eq hj (by omega)).mp e; omega)⟩))
set_option maxHeartbeats 4000000 in
set_option maxRecDepth 100000 in
/-- append -/
theorem c_B_append (D : va_G) (b : Nat → Nat) (cb : Nat → ClassId) (bf : Nat → Nat) (sz : Nat) (v : Nat) (y1 : sz < 4096) : xk_Ct yB_append cB_append 2 none { frames := 0, cells := 0, slots := 0, locals := 0 } D (tc_tB cb) [.ref (b 0), .int (nI v)] (tc_wB b cb bf sz) (fun rv ru => (rv = none ∧ ru = tc_wB b cb (va_up bf sz v) (sz + 1))) := by
  refine xk_enter (by decide) (Nat.le_of_ble_eq_true rfl) (fun K C T hin => ?_)
  show xk_Go K D 2 0 0 (tc_wB b cb bf sz) [(0, .ref (b 0)), (1, .int (nI v))] 0 []
  refine x_aload_n C dB_append_0 rfl 0 rfl ?_
  refine x_get C fgB_15 0 rfl rfl dB_append_1 ?_
  refine x_sipush (v := nI 4096) C dB_append_4 (by decide) ?_
  refine x_icmp_geN (tgt := 31) C (by omega) (by decide) dB_append_7 (by decide) (fun h7 => ?_) (fun h7 => ?_)
  ·
    exact absurd h7 (by omega)
  ·
    refine x_aload_n C dB_append_10 rfl 0 rfl ?_
    refine x_get C fgB_9 0 rfl rfl dB_append_11 ?_
    refine x_aload_n C dB_append_14 rfl 0 rfl ?_
    refine x_get C fgB_15 0 rfl rfl dB_append_15 ?_
    refine x_iload_n C dB_append_18 rfl 1 rfl ?_
    refine x_i2b (v := xk_sb v) C dB_append_19 rfl ?_
    refine x_bst C 1 0 (tc_wB b cb (va_up bf sz v) sz) rfl rfl ((congrArg _ (xk_sb_nar v)).trans (xk_bA_up bf sz v)) rfl (by omega) (by decide) dB_append_20 ?_
    refine x_aload_n C dB_append_21 rfl 0 rfl ?_
    refine x_dup C dB_append_22 rfl ?_
    refine x_get C fgB_15 0 rfl rfl dB_append_23 ?_
    refine x_iconst (v := nI 1) C dB_append_26 (by decide) ?_
    refine x_iaddN C dB_append_27 ?_
    refine x_put C fpB_15 0 (tc_wB b cb (va_up bf sz v) (sz + 1)) rfl rfl rfl rfl (Nat.le_of_ble_eq_true rfl) dB_append_28 ?_
    exact x_vret C T rfl dB_append_31 (⟨rfl, rfl⟩)
set_option maxHeartbeats 4000000 in
set_option maxRecDepth 100000 in
/-- appendGroups: so many groups of seven bits -/
theorem c_B_appendGroups (D : va_G) (b : Nat → Nat) (cb : Nat → ClassId) (bf : Nat → Nat) (sz : Nat) (x : Int64) (g : Nat) (y1 : sz + g ≤ 4096) (y2 : g ≤ 10) : xk_Ct yB_appendGroups cB_appendGroups 6 none { frames := 1, cells := 0, slots := 0, locals := 21 } D (tc_tB cb) [.ref (b 0), .long x, .int (nI g)] (tc_wB b cb bf sz) (fun rv ru => (∃ (bg : Nat → Nat), rv = none ∧ ru = tc_wB b cb bg (sz + g) ∧ (∀ j, j < sz → bg j = bf j) ∧ (∀ j, j < g → bg (sz + j) = tc_grb x g j))) := by
  refine xk_enter (by decide) (Nat.le_of_ble_eq_true rfl) (fun K C T hin => ?_)
  show xk_Go K D 6 0 0 (tc_wB b cb bf sz) [(0, .ref (b 0)), (1, .long x), (3, .int (nI g))] 0 []
  refine x_iconst (v := nI 0) C dB_appendGroups_0 (by decide) ?_
  refine x_istore C [(4, .int (nI 0)), (0, .ref (b 0)), (1, .long x), (3, .int (nI g))] dB_appendGroups_1 (by decide) rfl ?_
  have lp3 : ∀ (zc : Nat) (i : Nat) (bg : Nat → Nat), (g - i) < zc → (i ≤ g) → (∀ j, j < sz → bg j = bf j) → (∀ j, j < i → bg (sz + j) = tc_grb x g j) → xk_Go K D 6 0 0 (tc_wB b cb bg (sz + i)) [(0, .ref (b 0)), (1, .long x), (3, .int (nI g)), (4, .int (nI i))] 3 [] := by
    intro zc
    induction zc with
    | zero => intro i bg hm; exact absurd hm (Nat.not_lt_zero _)
    | succ zc ih3 =>
      intro i bg hm e1 e2 e3
      refine x_iload C dB_appendGroups_3 3 rfl ?_
      refine x_iload_n C dB_appendGroups_5 rfl 2 rfl ?_
      refine x_icmp_geN (tgt := 51) C (by omega) (by omega) dB_appendGroups_6 (by decide) (fun h6 => ?_) (fun h6 => ?_)
      ·
        obtain rfl : i = g := by omega
        exact x_vret C T rfl dB_appendGroups_51 (⟨bg, rfl, rfl, e2, e3⟩)
      ·
        refine x_lload_n C dB_appendGroups_9 rfl 1 rfl ?_
        refine x_bipush (v := nI 7) C dB_appendGroups_10 (by decide) ?_
        refine x_iload C dB_appendGroups_12 3 rfl ?_
        refine x_imulN C dB_appendGroups_14 ?_
        refine x_lshr (v := x >>> ((nI (7 * i)).toInt64 &&& 63)) C dB_appendGroups_15 rfl ?_
        refine x_l2i (v := Int64.toInt32 (x >>> ((nI (7 * i)).toInt64 &&& 63))) C dB_appendGroups_16 rfl ?_
        refine x_bipush (v := nI 127) C dB_appendGroups_17 (by decide) ?_
        refine x_iand C dB_appendGroups_19 ?_
        refine x_top (tc_g7_ok x (by omega)) ?_
        refine x_istore C [(5, .int (nI (tc_g7 x i))), (0, .ref (b 0)), (1, .long x), (3, .int (nI g)), (4, .int (nI i))] dB_appendGroups_20 (by decide) rfl ?_
        refine x_aload_n C dB_appendGroups_22 rfl 1 rfl ?_
        refine x_iload C dB_appendGroups_23 4 rfl ?_
        refine x_iload_n C dB_appendGroups_25 rfl 3 rfl ?_
        refine x_iconst (v := nI 1) C dB_appendGroups_26 (by decide) ?_
        refine x_isubN C (by omega) dB_appendGroups_27 ?_
        refine x_icmp_geN (tgt := 40) C (by omega) (by omega) dB_appendGroups_28 (by decide) (fun h28 => ?_) (fun h28 => ?_)
        ·
          refine x_iload C dB_appendGroups_40 0 rfl ?_
          refine x_callV C (c_B_append D b cb bg (sz + i) (tc_g7 x i) (by omega)) kbB_19 kcB_19 [0, 1] [] [0] ([]) rfl rfl (by decide) (by decide) (by decide) rfl 0 rfl rfl ⟨Nat.le_of_ble_eq_true rfl, Nat.le_of_ble_eq_true rfl⟩ ⟨Nat.le_of_ble_eq_true rfl, Nat.le_of_ble_eq_true rfl⟩ [] rfl rfl (Nat.le_of_ble_eq_true rfl) dB_appendGroups_42 (fun rv ru hw => ?_)
          obtain ⟨rfl, rfl⟩ := hw
          show xk_Go K D 6 0 0 (tc_wB b cb (va_up bg (sz + i) (tc_g7 x i)) ((sz + i) + 1)) [(5, .int (nI (tc_g7 x i))), (0, .ref (b 0)), (1, .long x), (3, .int (nI g)), (4, .int (nI i))] 45 []
          refine x_iinc (q := 4) C (nI (i + 1)) [(4, .int (nI (i + 1))), (5, .int (nI (tc_g7 x i))), (0, .ref (b 0)), (1, .long x), (3, .int (nI g))] dB_appendGroups_45 rfl (nI_add i 1) (by decide) rfl ?_
          refine x_goto C 3 dB_appendGroups_48 (by decide) ?_
          exact x_sub [2, 3, 4, 0] rfl (ih3 (i + 1) (va_up bg (sz + i) (tc_g7 x i)) (by omega) h6 (fun j hj => (va_up_ne _ _ (by omega)).trans (e2 j hj)) (tc_app_grb e3 (by rw [tc_grb_hi (by omega)])))
        ·
          refine x_iload C dB_appendGroups_31 0 rfl ?_
          refine x_sipush (v := nI 128) C dB_appendGroups_33 (by decide) ?_
          refine x_ior C dB_appendGroups_36 ?_
          refine x_top (tc_or128 (tc_g7_lt x i)) ?_
          refine x_goto C 42 dB_appendGroups_37 (by decide) ?_
          refine x_callV C (c_B_append D b cb bg (sz + i) (tc_g7 x i + 128) (by omega)) kbB_19 kcB_19 [0, 1] [] [0] ([]) rfl rfl (by decide) (by decide) (by decide) rfl 0 rfl rfl ⟨Nat.le_of_ble_eq_true rfl, Nat.le_of_ble_eq_true rfl⟩ ⟨Nat.le_of_ble_eq_true rfl, Nat.le_of_ble_eq_true rfl⟩ [] rfl rfl (Nat.le_of_ble_eq_true rfl) dB_appendGroups_42 (fun rv ru hw => ?_)
          obtain ⟨rfl, rfl⟩ := hw
          show xk_Go K D 6 0 0 (tc_wB b cb (va_up bg (sz + i) (tc_g7 x i + 128)) ((sz + i) + 1)) [(5, .int (nI (tc_g7 x i))), (0, .ref (b 0)), (1, .long x), (3, .int (nI g)), (4, .int (nI i))] 45 []
          refine x_iinc (q := 4) C (nI (i + 1)) [(4, .int (nI (i + 1))), (5, .int (nI (tc_g7 x i))), (0, .ref (b 0)), (1, .long x), (3, .int (nI g))] dB_appendGroups_45 rfl (nI_add i 1) (by decide) rfl ?_
          refine x_goto C 3 dB_appendGroups_48 (by decide) ?_
          exact x_sub [2, 3, 4, 0] rfl (ih3 (i + 1) (va_up bg (sz + i) (tc_g7 x i + 128)) (by omega) h6 (fun j hj => (va_up_ne _ _ (by omega)).trans (e2 j hj)) (tc_app_grb e3 (by rw [tc_grb_lo (by omega)])))
  exact x_sub [1, 2, 3, 0] rfl (lp3 _ 0 bf (Nat.lt_succ_self _) (Nat.zero_le _) (fun _ _ => rfl) (fun j hj => absurd hj (Nat.not_lt_zero _)))
set_option maxHeartbeats 4000000 in
set_option maxRecDepth 100000 in
/-- copyFrom -/
theorem c_B_copyFrom (D : va_G) (b : Nat → Nat) (cb : Nat → ClassId) (o : Nat → Nat) (co : Nat → ClassId) (bf : Nat → Nat) (sz : Nat) (ob : Nat → Nat) (oz : Nat) (y1 : oz ≤ 4096) : xk_Ct yB_copyFrom cB_copyFrom 2 none { frames := 1, cells := 0, slots := 0, locals := 100 } D (tc_tB cb ++ tc_tB co) [.ref (b 0), .ref (o 0)] (tc_wB b cb bf sz ++ tc_wB o co ob oz) (fun rv ru => (rv = none ∧ ru = tc_wB b cb (va_cpy ob bf 0 0 oz) oz ++ tc_wB o co ob oz)) := by
  refine xk_enter (by decide) (Nat.le_of_ble_eq_true rfl) (fun K C T hin => ?_)
  show xk_Go K D 2 0 0 (tc_wB b cb bf sz ++ tc_wB o co ob oz) [(0, .ref (b 0)), (1, .ref (o 0))] 0 []
  refine x_aload_n C dB_copyFrom_0 rfl 1 rfl ?_
  refine x_get C fgB_9 2 rfl rfl dB_copyFrom_1 ?_
  refine x_iconst (v := nI 0) C dB_copyFrom_4 (by decide) ?_
  refine x_aload_n C dB_copyFrom_5 rfl 0 rfl ?_
  refine x_get C fgB_9 0 rfl rfl dB_copyFrom_6 ?_
  refine x_iconst (v := nI 0) C dB_copyFrom_9 (by decide) ?_
  refine x_aload_n C dB_copyFrom_10 rfl 1 rfl ?_
  refine x_get C fgB_15 2 rfl rfl dB_copyFrom_11 ?_
  refine x_copyB C kyB_23 3 1 1 0 (tc_wB b cb (va_cpy ob bf 0 0 oz) sz ++ tc_wB o co ob oz) rfl rfl rfl rfl rfl (by omega) (by omega) (by decide) (by decide) (Nat.le_of_ble_eq_true rfl) (Nat.le_of_ble_eq_true rfl) dB_copyFrom_14 ?_
  refine x_aload_n C dB_copyFrom_17 rfl 0 rfl ?_
  refine x_aload_n C dB_copyFrom_18 rfl 1 rfl ?_
  refine x_get C fgB_15 2 rfl rfl dB_copyFrom_19 ?_
  refine x_put C fpB_15 0 (tc_wB b cb (va_cpy ob bf 0 0 oz) oz ++ tc_wB o co ob oz) rfl rfl rfl rfl (Nat.le_of_ble_eq_true rfl) dB_copyFrom_22 ?_
  exact x_vret C T rfl dB_copyFrom_25 (⟨rfl, rfl⟩)
end
section
set_option maxHeartbeats 4000000 in
set_option maxRecDepth 100000 in
/-- lastRoot -/
theorem c_S_lastRoot (D : va_G) (a : Nat → Nat) (ca : Nat → ClassId) (kn : Nat → Nat) (nu : Nat → Int64) (wo : Nat → Int64) (si : Nat → Nat) (de : Nat → Nat) (la : Nat → Nat) (le : Nat → Nat) (ro : Nat → Nat) (tm : Nat) (nd : Nat) (y1 : tm ≤ 200) : xk_Ct yS_lastRoot cS_lastRoot 1 (some .int) { frames := 0, cells := 0, slots := 0, locals := 0 } D (tc_tS ca) [.ref (a 0)] (tc_wS a ca kn nu wo si de la le ro tm nd) (fun rv ru => (rv = some (.int (xk_oI none)) ∧ ru = tc_wS a ca kn nu wo si de la le ro tm nd ∧ (tm = 0)) ∨ (rv = some (.int (nI (ro (tm - 1)))) ∧ ru = tc_wS a ca kn nu wo si de la le ro tm nd ∧ (0 < tm))) := by
  refine xk_enter (by decide) (Nat.le_of_ble_eq_true rfl) (fun K C T hin => ?_)
  show xk_Go K D 1 0 0 (tc_wS a ca kn nu wo si de la le ro tm nd) [(0, .ref (a 0))] 0 []
  refine x_aload_n C dS_lastRoot_0 rfl 0 rfl ?_
  refine x_get C fgS_37 0 rfl rfl dS_lastRoot_1 ?_
  refine x_iconst (v := nI 1) C dS_lastRoot_4 (by decide) ?_
  refine x_icmp_ltN (tgt := 18) C (by omega) (by decide) dS_lastRoot_5 (by decide) (fun h5 => ?_) (fun h5 => ?_)
  ·
    refine x_iconst (v := xk_oI none) C dS_lastRoot_18 (by decide) ?_
    refine x_goto C 33 dS_lastRoot_19 (by decide) ?_
    exact x_iret C T .int rfl rfl dS_lastRoot_33 (Or.inl (⟨rfl, rfl, (by omega)⟩))
  ·
    refine x_aload_n C dS_lastRoot_8 rfl 0 rfl ?_
    refine x_get C fgS_37 0 rfl rfl dS_lastRoot_9 ?_
    refine x_sipush (v := nI 200) C dS_lastRoot_12 (by decide) ?_
    refine x_icmp_leN (tgt := 22) C (by omega) (by decide) dS_lastRoot_15 (by decide) (fun h15 => ?_) (fun h15 => ?_)
    ·
      refine x_aload_n C dS_lastRoot_22 rfl 0 rfl ?_
      refine x_get C fgS_34 0 rfl rfl dS_lastRoot_23 ?_
      refine x_aload_n C dS_lastRoot_26 rfl 0 rfl ?_
      refine x_get C fgS_37 0 rfl rfl dS_lastRoot_27 ?_
      refine x_iconst (v := nI 1) C dS_lastRoot_30 (by decide) ?_
      refine x_isubN C (by omega) dS_lastRoot_31 ?_
      refine x_ild C 8 7 rfl rfl (by omega) (by decide) dS_lastRoot_32 ?_
      show xk_Go K D 1 0 0 (tc_wS a ca kn nu wo si de la le ro tm nd) [(0, .ref (a 0))] 33 [.int (nI (ro (tm - 1)))]
      exact x_iret C T .int rfl rfl dS_lastRoot_33 (Or.inr (⟨rfl, rfl, (by omega)⟩))
    ·
      exact absurd h15 (by omega)
set_option maxHeartbeats 4000000 in
set_option maxRecDepth 100000 in
/-- find -/
theorem c_S_find (D : va_G) (a : Nat → Nat) (ca : Nat → ClassId) (kn : Nat → Nat) (nu : Nat → Int64) (wo : Nat → Int64) (si : Nat → Nat) (de : Nat → Nat) (la : Nat → Nat) (le : Nat → Nat) (ro : Nat → Nat) (tm : Nat) (nd : Nat) (k : Int32) (y1 : tm ≤ 200) (y2 : 0 < tm → ro (tm - 1) < 200) (y3 : 0 < tm → si (ro (tm - 1)) ≤ 200) : xk_Ct yS_find cS_find 3 (some .int) { frames := 1, cells := 0, slots := 0, locals := 20 } D (tc_tS ca) [.ref (a 0), .int k] (tc_wS a ca kn nu wo si de la le ro tm nd) (fun rv ru => (rv = some (.int (xk_oI none)) ∧ ru = tc_wS a ca kn nu wo si de la le ro tm nd ∧ (tm = 0 ∨ ∀ j, j < si (ro (tm - 1)) → k ≠ nI j)) ∨ (∃ (j : Nat), rv = some (.int (nI (ro (tm - 1) + j))) ∧ ru = tc_wS a ca kn nu wo si de la le ro tm nd ∧ (k = nI j) ∧ (j < si (ro (tm - 1))) ∧ (0 < tm))) := by
  refine xk_enter (by decide) (Nat.le_of_ble_eq_true rfl) (fun K C T hin => ?_)
  show xk_Go K D 3 0 0 (tc_wS a ca kn nu wo si de la le ro tm nd) [(0, .ref (a 0)), (1, .int k)] 0 []
  refine x_aload_n C dS_find_0 rfl 0 rfl ?_
  refine x_callV C (c_S_lastRoot D a ca kn nu wo si de la le ro tm nd y1) kbS_44 kcS_44 [0, 1, 2, 3, 4, 5, 6, 7, 8] [] [0, 1, 2, 3, 4, 5, 6, 7] ([]) rfl rfl (by decide) (by decide) (by decide) rfl 0 rfl rfl ⟨Nat.le_of_ble_eq_true rfl, Nat.le_of_ble_eq_true rfl⟩ ⟨Nat.le_of_ble_eq_true rfl, Nat.le_of_ble_eq_true rfl⟩ [] rfl rfl (Nat.le_of_ble_eq_true rfl) dS_find_1 (fun rv ru hw => ?_)
  rcases hw with ⟨rfl, rfl, g1⟩ | ⟨rfl, rfl, g1⟩
  ·
    show xk_Go K D 3 0 0 (tc_wS a ca kn nu wo si de la le ro tm nd) [(0, .ref (a 0)), (1, .int k)] 4 [.int (xk_oI none)]
    refine x_istore_n C [(2, .int (xk_oI none)), (0, .ref (a 0)), (1, .int k)] dS_find_4 rfl (by decide) rfl ?_
    refine x_iload_n C dS_find_5 rfl 0 rfl ?_
    refine x_if_lt (tgt := 23) C dS_find_6 (by decide) (fun _ => ?_) (fun h => absurd (by decide) h)
    refine x_iconst (v := xk_oI none) C dS_find_23 (by decide) ?_
    refine x_goto C 30 dS_find_24 (by decide) ?_
    exact x_iret C T .int rfl rfl dS_find_30 (Or.inl (⟨rfl, rfl, (Or.inl g1)⟩))
  ·
    show xk_Go K D 3 0 0 (tc_wS a ca kn nu wo si de la le ro tm nd) [(0, .ref (a 0)), (1, .int k)] 4 [.int (nI (ro (tm - 1)))]
    have y2 := y2 g1
    have y3 := y3 g1
    refine x_istore_n C [(2, .int (nI (ro (tm - 1)))), (0, .ref (a 0)), (1, .int k)] dS_find_4 rfl (by decide) rfl ?_
    refine x_iload_n C dS_find_5 rfl 0 rfl ?_
    refine x_if_ltN (tgt := 23) C (by omega) dS_find_6 (by decide) ?_
    refine x_iload_n C dS_find_9 rfl 2 rfl ?_
    refine x_if_lt (tgt := 23) C dS_find_10 (by decide) (fun h10 => ?_) (fun h10 => ?_)
    ·
      refine x_iconst (v := xk_oI none) C dS_find_23 (by decide) ?_
      refine x_goto C 30 dS_find_24 (by decide) ?_
      exact x_iret C T .int rfl rfl dS_find_30 (Or.inl (⟨rfl, rfl, (Or.inr (fun j hj e => nI_pos (n := j) (by omega) (e ▸ h10)))⟩))
    ·
      obtain ⟨j, hj, rfl⟩ := nI_of h10
      refine x_iload_n C dS_find_13 rfl 2 rfl ?_
      refine x_aload_n C dS_find_14 rfl 1 rfl ?_
      refine x_get C fgS_22 0 rfl rfl dS_find_15 ?_
      refine x_iload_n C dS_find_18 rfl 0 rfl ?_
      refine x_ild C 4 3 rfl rfl (by omega) (by decide) dS_find_19 ?_
      show xk_Go K D 3 0 0 (tc_wS a ca kn nu wo si de la le ro tm nd) [(2, .int (nI (ro (tm - 1)))), (0, .ref (a 0)), (1, .int (nI j))] 20 [.int (nI (si (ro (tm - 1)))), .int (nI j)]
      refine x_icmp_ltN (tgt := 27) C (by omega) (by omega) dS_find_20 (by decide) (fun h20 => ?_) (fun h20 => ?_)
      ·
        refine x_iload_n C dS_find_27 rfl 0 rfl ?_
        refine x_iload_n C dS_find_28 rfl 2 rfl ?_
        refine x_iaddN C dS_find_29 ?_
        exact x_iret C T .int rfl rfl dS_find_30 (Or.inr (⟨j, rfl, rfl, rfl, h20, g1⟩))
      ·
        refine x_iconst (v := xk_oI none) C dS_find_23 (by decide) ?_
        refine x_goto C 30 dS_find_24 (by decide) ?_
        exact x_iret C T .int rfl rfl dS_find_30 (Or.inl (⟨rfl, rfl, (Or.inr (fun i hi e => by have := (nI_eq hj (by omega)).mp e; omega))⟩))
set_option maxHeartbeats 4000000 in
set_option maxRecDepth 100000 in
/-- lastLength -/
theorem c_S_lastLength (D : va_G) (a : Nat → Nat) (ca : Nat → ClassId) (kn : Nat → Nat) (nu : Nat → Int64) (wo : Nat → Int64) (si : Nat → Nat) (de : Nat → Nat) (la : Nat → Nat) (le : Nat → Nat) (ro : Nat → Nat) (tm : Nat) (nd : Nat) (y1 : tm ≤ 200) (y2 : 0 < tm → ro (tm - 1) < 200) : xk_Ct yS_lastLength cS_lastLength 2 (some .int) { frames := 1, cells := 0, slots := 0, locals := 20 } D (tc_tS ca) [.ref (a 0)] (tc_wS a ca kn nu wo si de la le ro tm nd) (fun rv ru => (rv = some (.int (xk_oI none)) ∧ ru = tc_wS a ca kn nu wo si de la le ro tm nd ∧ (tm = 0)) ∨ (rv = some (.int (nI (le (ro (tm - 1))))) ∧ ru = tc_wS a ca kn nu wo si de la le ro tm nd ∧ (0 < tm))) := by
  refine xk_enter (by decide) (Nat.le_of_ble_eq_true rfl) (fun K C T hin => ?_)
  show xk_Go K D 2 0 0 (tc_wS a ca kn nu wo si de la le ro tm nd) [(0, .ref (a 0))] 0 []
  refine x_aload_n C dS_lastLength_0 rfl 0 rfl ?_
  refine x_callV C (c_S_lastRoot D a ca kn nu wo si de la le ro tm nd y1) kbS_44 kcS_44 [0, 1, 2, 3, 4, 5, 6, 7, 8] [] [0, 1, 2, 3, 4, 5, 6, 7] ([]) rfl rfl (by decide) (by decide) (by decide) rfl 0 rfl rfl ⟨Nat.le_of_ble_eq_true rfl, Nat.le_of_ble_eq_true rfl⟩ ⟨Nat.le_of_ble_eq_true rfl, Nat.le_of_ble_eq_true rfl⟩ [] rfl rfl (Nat.le_of_ble_eq_true rfl) dS_lastLength_1 (fun rv ru hw => ?_)
  rcases hw with ⟨rfl, rfl, g1⟩ | ⟨rfl, rfl, g1⟩
  ·
    show xk_Go K D 2 0 0 (tc_wS a ca kn nu wo si de la le ro tm nd) [(0, .ref (a 0))] 4 [.int (xk_oI none)]
    refine x_istore_n C [(1, .int (xk_oI none)), (0, .ref (a 0))] dS_lastLength_4 rfl (by decide) rfl ?_
    refine x_iload_n C dS_lastLength_5 rfl 0 rfl ?_
    refine x_if_ge (tgt := 13) C dS_lastLength_6 (by decide) (fun h => absurd h (by decide)) (fun _ => ?_)
    refine x_iconst (v := xk_oI none) C dS_lastLength_9 (by decide) ?_
    refine x_goto C 19 dS_lastLength_10 (by decide) ?_
    exact x_iret C T .int rfl rfl dS_lastLength_19 (Or.inl (⟨rfl, rfl, g1⟩))
  ·
    show xk_Go K D 2 0 0 (tc_wS a ca kn nu wo si de la le ro tm nd) [(0, .ref (a 0))] 4 [.int (nI (ro (tm - 1)))]
    have y2 := y2 g1
    refine x_istore_n C [(1, .int (nI (ro (tm - 1)))), (0, .ref (a 0))] dS_lastLength_4 rfl (by decide) rfl ?_
    refine x_iload_n C dS_lastLength_5 rfl 0 rfl ?_
    refine x_if_geN (tgt := 13) C (by omega) dS_lastLength_6 (by decide) ?_
    refine x_aload_n C dS_lastLength_13 rfl 1 rfl ?_
    refine x_get C fgS_31 0 rfl rfl dS_lastLength_14 ?_
    refine x_iload_n C dS_lastLength_17 rfl 0 rfl ?_
    refine x_ild C 7 6 rfl rfl (by omega) (by decide) dS_lastLength_18 ?_
    show xk_Go K D 2 0 0 (tc_wS a ca kn nu wo si de la le ro tm nd) [(1, .int (nI (ro (tm - 1)))), (0, .ref (a 0))] 19 [.int (nI (le (ro (tm - 1))))]
    exact x_iret C T .int rfl rfl dS_lastLength_19 (Or.inr (⟨rfl, rfl, g1⟩))
set_option maxHeartbeats 4000000 in
set_option maxRecDepth 100000 in
/-- parentOf -/
theorem c_S_parentOf (D : va_G) (a : Nat → Nat) (ca : Nat → ClassId) (kn : Nat → Nat) (nu : Nat → Int64) (wo : Nat → Int64) (si : Nat → Nat) (de : Nat → Nat) (la : Nat → Nat) (le : Nat → Nat) (ro : Nat → Nat) (tm : Nat) (nd : Nat) (k : Nat) (y1 : tm ≤ 200) (y2 : 0 < tm) (y3 : ro (tm - 1) + k < 200) (y4 : ∀ j, j < k → si (ro (tm - 1) + j) ≤ 200) : xk_Ct yS_parentOf cS_parentOf 4 (some .int) { frames := 1, cells := 0, slots := 0, locals := 20 } D (tc_tS ca) [.ref (a 0), .int (nI k)] (tc_wS a ca kn nu wo si de la le ro tm nd) (fun rv ru => (∃ (j : Nat), rv = some (.int (nI j)) ∧ ru = tc_wS a ca kn nu wo si de la le ro tm nd ∧ (j < k) ∧ (k < j + si (ro (tm - 1) + j)) ∧ (∀ i, j < i → i < k → i + si (ro (tm - 1) + i) ≤ k)) ∨ (rv = some (.int (xk_oI none)) ∧ ru = tc_wS a ca kn nu wo si de la le ro tm nd ∧ (∀ i, i < k → i + si (ro (tm - 1) + i) ≤ k))) := by
  refine xk_enter (by decide) (Nat.le_of_ble_eq_true rfl) (fun K C T hin => ?_)
  show xk_Go K D 4 0 0 (tc_wS a ca kn nu wo si de la le ro tm nd) [(0, .ref (a 0)), (1, .int (nI k))] 0 []
  refine x_aload_n C dS_parentOf_0 rfl 0 rfl ?_
  refine x_callV C (c_S_lastRoot D a ca kn nu wo si de la le ro tm nd y1) kbS_44 kcS_44 [0, 1, 2, 3, 4, 5, 6, 7, 8] [] [0, 1, 2, 3, 4, 5, 6, 7] ([]) rfl rfl (by decide) (by decide) (by decide) rfl 0 rfl rfl ⟨Nat.le_of_ble_eq_true rfl, Nat.le_of_ble_eq_true rfl⟩ ⟨Nat.le_of_ble_eq_true rfl, Nat.le_of_ble_eq_true rfl⟩ [] rfl rfl (Nat.le_of_ble_eq_true rfl) dS_parentOf_1 (fun rv ru hw => ?_)
  rcases hw with ⟨rfl, rfl, g1⟩ | ⟨rfl, rfl, g1⟩
  ·
    show xk_Go K D 4 0 0 (tc_wS a ca kn nu wo si de la le ro tm nd) [(0, .ref (a 0)), (1, .int (nI k))] 4 [.int (xk_oI none)]
    exact absurd g1 (by omega)
  ·
    show xk_Go K D 4 0 0 (tc_wS a ca kn nu wo si de la le ro tm nd) [(0, .ref (a 0)), (1, .int (nI k))] 4 [.int (nI (ro (tm - 1)))]
    refine x_istore_n C [(2, .int (nI (ro (tm - 1)))), (0, .ref (a 0)), (1, .int (nI k))] dS_parentOf_4 rfl (by decide) rfl ?_
    refine x_iload_n C dS_parentOf_5 rfl 2 rfl ?_
    refine x_iconst (v := nI 1) C dS_parentOf_6 (by decide) ?_
    refine x_isub C dS_parentOf_7 ?_
    refine x_top (tc_pr_sub k) ?_
    refine x_istore_n C [(3, .int (xk_oI (tc_pr k))), (2, .int (nI (ro (tm - 1)))), (0, .ref (a 0)), (1, .int (nI k))] dS_parentOf_8 rfl (by decide) rfl ?_
    have lp9 : ∀ (zc : Nat) (jn : Nat), jn < zc → (jn ≤ k) → (∀ i, jn ≤ i → i < k → i + si (ro (tm - 1) + i) ≤ k) → xk_Go K D 4 0 0 (tc_wS a ca kn nu wo si de la le ro tm nd) [(0, .ref (a 0)), (1, .int (nI k)), (2, .int (nI (ro (tm - 1)))), (3, .int (xk_oI (tc_pr jn)))] 9 [] := by
      intro zc
      induction zc with
      | zero => intro jn hm; exact absurd hm (Nat.not_lt_zero _)
      | succ zc ih9 =>
        intro jn hm e1 e2
        refine x_iload_n C dS_parentOf_9 rfl 3 rfl ?_
        rcases jn with _ | j
        ·
          show xk_Go K D 4 0 0 (tc_wS a ca kn nu wo si de la le ro tm nd) [(0, .ref (a 0)), (1, .int (nI k)), (2, .int (nI (ro (tm - 1)))), (3, .int (xk_oI none))] 10 [.int (xk_oI none)]
          refine x_if_lt (tgt := 39) C dS_parentOf_10 (by decide) (fun _ => ?_) (fun h => absurd (by decide) h)
          refine x_iconst (v := xk_oI none) C dS_parentOf_39 (by decide) ?_
          exact x_iret C T .int rfl rfl dS_parentOf_40 (Or.inr (⟨rfl, rfl, (fun i q => e2 i (Nat.zero_le _) q)⟩))
        ·
          have y4j := y4 j (by omega)
          show xk_Go K D 4 0 0 (tc_wS a ca kn nu wo si de la le ro tm nd) [(0, .ref (a 0)), (1, .int (nI k)), (2, .int (nI (ro (tm - 1)))), (3, .int (nI j))] 10 [.int (nI j)]
          refine x_if_ltN (tgt := 39) C (by omega) dS_parentOf_10 (by decide) ?_
          refine x_iload_n C dS_parentOf_13 rfl 2 rfl ?_
          refine x_if_ltN (tgt := 33) C (by omega) dS_parentOf_14 (by decide) ?_
          refine x_iload_n C dS_parentOf_17 rfl 3 rfl ?_
          refine x_aload_n C dS_parentOf_18 rfl 0 rfl ?_
          refine x_get C fgS_22 0 rfl rfl dS_parentOf_19 ?_
          refine x_iload_n C dS_parentOf_22 rfl 2 rfl ?_
          refine x_iload_n C dS_parentOf_23 rfl 3 rfl ?_
          refine x_iaddN C dS_parentOf_24 ?_
          refine x_ild C 4 3 rfl rfl (by omega) (by decide) dS_parentOf_25 ?_
          show xk_Go K D 4 0 0 (tc_wS a ca kn nu wo si de la le ro tm nd) [(0, .ref (a 0)), (1, .int (nI k)), (2, .int (nI (ro (tm - 1)))), (3, .int (nI j))] 26 [.int (nI (si (ro (tm - 1) + j))), .int (nI j)]
          refine x_iaddN C dS_parentOf_26 ?_
          refine x_iload_n C dS_parentOf_27 rfl 1 rfl ?_
          refine x_icmp_leN (tgt := 33) C (by omega) (by omega) dS_parentOf_28 (by decide) (fun h28 => ?_) (fun h28 => ?_)
          ·
            refine x_iinc (q := 3) C (xk_oI (tc_pr j)) [(3, .int (xk_oI (tc_pr j))), (0, .ref (a 0)), (1, .int (nI k)), (2, .int (nI (ro (tm - 1))))] dS_parentOf_33 rfl (tc_pr_dec j) (by decide) rfl ?_
            refine x_goto C 9 dS_parentOf_36 (by decide) ?_
            exact x_sub [1, 2, 3, 0] rfl (ih9 j (by omega) (by omega) (fun i q1 q2 => by rcases Nat.lt_or_ge j i with q | q; exact e2 i (by omega) q2; rw [show i = j by omega]; exact h28))
          ·
            refine x_iload_n C dS_parentOf_31 rfl 3 rfl ?_
            exact x_iret C T .int rfl rfl dS_parentOf_32 (Or.inl (⟨j, rfl, rfl, (by omega), h28, (fun i q1 q2 => e2 i (by omega) q2)⟩))
    exact x_sub [2, 3, 1, 0] rfl (lp9 _ k (Nat.lt_succ_self _) (Nat.le_refl _) (fun i h1 h2 => absurd h1 (by omega)))
set_option maxHeartbeats 4000000 in
set_option maxRecDepth 100000 in
/-- byteCount -/
theorem c_S_byteCount (D : va_G) (a : Nat → Nat) (ca : Nat → ClassId) (kn : Nat → Nat) (nu : Nat → Int64) (wo : Nat → Int64) (si : Nat → Nat) (de : Nat → Nat) (la : Nat → Nat) (le : Nat → Nat) (ro : Nat → Nat) (tm : Nat) (nd : Nat) (i : Nat) (cn : Nat) (y1 : i < 200) (y2 : kn i < 2 ^ 31) (y3 : kn i = 8 → nu i = lN cn) : xk_Ct yS_byteCount cS_byteCount 2 (some .int) { frames := 0, cells := 0, slots := 0, locals := 0 } D (tc_tS ca) [.ref (a 0), .int (nI i)] (tc_wS a ca kn nu wo si de la le ro tm nd) (fun rv ru => (rv = some (.int (nI cn)) ∧ ru = tc_wS a ca kn nu wo si de la le ro tm nd ∧ (kn i = 8)) ∨ (rv = some (.int (xk_oI none)) ∧ ru = tc_wS a ca kn nu wo si de la le ro tm nd ∧ (¬ kn i = 8))) := by
  refine xk_enter (by decide) (Nat.le_of_ble_eq_true rfl) (fun K C T hin => ?_)
  show xk_Go K D 2 0 0 (tc_wS a ca kn nu wo si de la le ro tm nd) [(0, .ref (a 0)), (1, .int (nI i))] 0 []
  refine x_aload_n C dS_byteCount_0 rfl 0 rfl ?_
  refine x_get C fgS_9 0 rfl rfl dS_byteCount_1 ?_
  refine x_iload_n C dS_byteCount_4 rfl 1 rfl ?_
  refine x_ild C 1 0 rfl rfl (by omega) (by decide) dS_byteCount_5 ?_
  show xk_Go K D 2 0 0 (tc_wS a ca kn nu wo si de la le ro tm nd) [(0, .ref (a 0)), (1, .int (nI i))] 6 [.int (nI (kn i))]
  refine x_bipush (v := nI 8) C dS_byteCount_6 (by decide) ?_
  refine x_icmp_neN (tgt := 21) C (by omega) (by decide) dS_byteCount_8 (by decide) (fun h8 => ?_) (fun h8 => ?_)
  ·
    refine x_iconst (v := xk_oI none) C dS_byteCount_21 (by decide) ?_
    exact x_iret C T .int rfl rfl dS_byteCount_22 (Or.inr (⟨rfl, rfl, h8⟩))
  ·
    refine x_aload_n C dS_byteCount_11 rfl 0 rfl ?_
    refine x_get C fgS_15 0 rfl rfl dS_byteCount_12 ?_
    refine x_iload_n C dS_byteCount_15 rfl 1 rfl ?_
    refine x_lld C 2 1 rfl rfl (by omega) (by decide) dS_byteCount_16 ?_
    refine x_l2i (v := nI cn) C dS_byteCount_17 (by rw [y3 h8]; exact lN_i cn) ?_
    refine x_goto C 22 dS_byteCount_18 (by decide) ?_
    exact x_iret C T .int rfl rfl dS_byteCount_22 (Or.inl (⟨rfl, rfl, h8⟩))
set_option maxHeartbeats 4000000 in
set_option maxRecDepth 100000 in
/-- byteIn -/
theorem c_S_byteIn (D : va_G) (a : Nat → Nat) (ca : Nat → ClassId) (kn : Nat → Nat) (nu : Nat → Int64) (wo : Nat → Int64) (si : Nat → Nat) (de : Nat → Nat) (la : Nat → Nat) (le : Nat → Nat) (ro : Nat → Nat) (tm : Nat) (nd : Nat) (i : Nat) (j : Nat) (y1 : i < 200) (y2 : j < 64) : xk_Ct yS_byteIn cS_byteIn 3 (some .int) { frames := 1, cells := 0, slots := 0, locals := 22 } D (tc_tS ca) [.ref (a 0), .int (nI i), .int (nI j)] (tc_wS a ca kn nu wo si de la le ro tm nd) (fun rv ru => (rv = some (.int (nI (tc_wb wo i j))) ∧ ru = tc_wS a ca kn nu wo si de la le ro tm nd)) := by
  refine xk_enter (by decide) (Nat.le_of_ble_eq_true rfl) (fun K C T hin => ?_)
  show xk_Go K D 3 0 0 (tc_wS a ca kn nu wo si de la le ro tm nd) [(0, .ref (a 0)), (1, .int (nI i)), (2, .int (nI j))] 0 []
  refine x_aload_n C dS_byteIn_0 rfl 0 rfl ?_
  refine x_get C fgS_19 0 rfl rfl dS_byteIn_1 ?_
  refine x_iload_n C dS_byteIn_4 rfl 1 rfl ?_
  refine x_bipush (v := nI 8) C dS_byteIn_5 (by decide) ?_
  refine x_imulN C dS_byteIn_7 ?_
  refine x_iload_n C dS_byteIn_8 rfl 2 rfl ?_
  refine x_bipush (v := nI 8) C dS_byteIn_9 (by decide) ?_
  refine x_idivN C (by omega) (by decide) (by decide) dS_byteIn_11 ?_
  refine x_iaddN C dS_byteIn_12 ?_
  refine x_lld C 3 2 rfl rfl (by omega) (by decide) dS_byteIn_13 ?_
  refine x_bipush (v := nI 7) C dS_byteIn_14 (by decide) ?_
  refine x_iload_n C dS_byteIn_16 rfl 2 rfl ?_
  refine x_bipush (v := nI 8) C dS_byteIn_17 (by decide) ?_
  refine x_iremN C (by omega) (by decide) (by decide) dS_byteIn_19 ?_
  refine x_isubN C (by omega) dS_byteIn_20 ?_
  refine x_callS C (c_F_byteOf D (wo (i * 8 + (j / 8))) (7 - (j % 8)) (by omega)) kbS_48 kcS_48 [] [0, 1, 2, 3, 4, 5, 6, 7, 8] [] (tc_wS a ca kn nu wo si de la le ro tm nd) rfl rfl (by decide) (by decide) (by decide) rfl ⟨Nat.le_of_ble_eq_true rfl, Nat.le_of_ble_eq_true rfl⟩ ⟨Nat.le_of_ble_eq_true rfl, Nat.le_of_ble_eq_true rfl⟩ [] rfl rfl (Nat.le_of_ble_eq_true rfl) dS_byteIn_21 (fun rv ru hw => ?_)
  obtain ⟨rfl, rfl⟩ := hw
  show xk_Go K D 3 0 0 (tc_wS a ca kn nu wo si de la le ro tm nd) [(0, .ref (a 0)), (1, .int (nI i)), (2, .int (nI j))] 24 [.int (nI (tc_by (wo (i * 8 + (j / 8))) (7 - (j % 8))))]
  exact x_iret C T .int rfl rfl dS_byteIn_24 (⟨rfl, rfl⟩)
set_option maxHeartbeats 4000000 in
set_option maxRecDepth 100000 in
/-- setNode -/
theorem c_S_setNode (D : va_G) (a : Nat → Nat) (ca : Nat → ClassId) (kn : Nat → Nat) (nu : Nat → Int64) (wo : Nat → Int64) (si : Nat → Nat) (de : Nat → Nat) (la : Nat → Nat) (le : Nat → Nat) (ro : Nat → Nat) (tm : Nat) (nd : Nat) (i : Nat) (kd : Nat) (x : Int64) (y1 : i < 200) : xk_Ct yS_setNode cS_setNode 5 none { frames := 0, cells := 0, slots := 0, locals := 0 } D (tc_tS ca) [.ref (a 0), .int (nI i), .int (nI kd), .long x] (tc_wS a ca kn nu wo si de la le ro tm nd) (fun rv ru => (rv = none ∧ ru = tc_wS a ca (va_up kn i kd) (vp_updL nu i x) wo si de la le ro tm nd)) := by
  refine xk_enter (by decide) (Nat.le_of_ble_eq_true rfl) (fun K C T hin => ?_)
  show xk_Go K D 5 0 0 (tc_wS a ca kn nu wo si de la le ro tm nd) [(0, .ref (a 0)), (1, .int (nI i)), (2, .int (nI kd)), (3, .long x)] 0 []
  refine x_aload_n C dS_setNode_0 rfl 0 rfl ?_
  refine x_get C fgS_9 0 rfl rfl dS_setNode_1 ?_
  refine x_iload_n C dS_setNode_4 rfl 1 rfl ?_
  refine x_iload_n C dS_setNode_5 rfl 2 rfl ?_
  refine x_ist C 1 0 (tc_wS a ca (va_up kn i kd) nu wo si de la le ro tm nd) rfl rfl (xk_nA_up kn i kd) rfl (by omega) (by decide) dS_setNode_6 ?_
  refine x_aload_n C dS_setNode_7 rfl 0 rfl ?_
  refine x_get C fgS_15 0 rfl rfl dS_setNode_8 ?_
  refine x_iload_n C dS_setNode_11 rfl 1 rfl ?_
  refine x_lload_n C dS_setNode_12 rfl 3 rfl ?_
  refine x_lst C 2 1 (tc_wS a ca (va_up kn i kd) (vp_updL nu i x) wo si de la le ro tm nd) rfl rfl rfl rfl (by omega) (by decide) dS_setNode_13 ?_
  exact x_vret C T rfl dS_setNode_14 (⟨rfl, rfl⟩)
set_option maxHeartbeats 4000000 in
set_option maxRecDepth 100000 in
/-- pushTerm -/
theorem c_S_pushTerm (D : va_G) (a : Nat → Nat) (ca : Nat → ClassId) (kn : Nat → Nat) (nu : Nat → Int64) (wo : Nat → Int64) (si : Nat → Nat) (de : Nat → Nat) (la : Nat → Nat) (le : Nat → Nat) (ro : Nat → Nat) (tm : Nat) (nd : Nat) (r : Nat) (y1 : tm < 200) : xk_Ct yS_pushTerm cS_pushTerm 2 none { frames := 0, cells := 0, slots := 0, locals := 0 } D (tc_tS ca) [.ref (a 0), .int (nI r)] (tc_wS a ca kn nu wo si de la le ro tm nd) (fun rv ru => (rv = none ∧ ru = tc_wS a ca kn nu wo si de la le (va_up ro tm r) (tm + 1) nd)) := by
  refine xk_enter (by decide) (Nat.le_of_ble_eq_true rfl) (fun K C T hin => ?_)
  show xk_Go K D 2 0 0 (tc_wS a ca kn nu wo si de la le ro tm nd) [(0, .ref (a 0)), (1, .int (nI r))] 0 []
  refine x_aload_n C dS_pushTerm_0 rfl 0 rfl ?_
  refine x_get C fgS_37 0 rfl rfl dS_pushTerm_1 ?_
  refine x_sipush (v := nI 200) C dS_pushTerm_4 (by decide) ?_
  refine x_icmp_geN (tgt := 30) C (by omega) (by decide) dS_pushTerm_7 (by decide) (fun h7 => ?_) (fun h7 => ?_)
  ·
    exact absurd h7 (by omega)
  ·
    refine x_aload_n C dS_pushTerm_10 rfl 0 rfl ?_
    refine x_get C fgS_34 0 rfl rfl dS_pushTerm_11 ?_
    refine x_aload_n C dS_pushTerm_14 rfl 0 rfl ?_
    refine x_get C fgS_37 0 rfl rfl dS_pushTerm_15 ?_
    refine x_iload_n C dS_pushTerm_18 rfl 1 rfl ?_
    refine x_ist C 8 7 (tc_wS a ca kn nu wo si de la le (va_up ro tm r) tm nd) rfl rfl (xk_nA_up ro tm r) rfl (by omega) (by decide) dS_pushTerm_19 ?_
    refine x_aload_n C dS_pushTerm_20 rfl 0 rfl ?_
    refine x_dup C dS_pushTerm_21 rfl ?_
    refine x_get C fgS_37 0 rfl rfl dS_pushTerm_22 ?_
    refine x_iconst (v := nI 1) C dS_pushTerm_25 (by decide) ?_
    refine x_iaddN C dS_pushTerm_26 ?_
    refine x_put C fpS_37 0 (tc_wS a ca kn nu wo si de la le (va_up ro tm r) (tm + 1) nd) rfl rfl rfl rfl (Nat.le_of_ble_eq_true rfl) dS_pushTerm_27 ?_
    exact x_vret C T rfl dS_pushTerm_30 (⟨rfl, rfl⟩)
set_option maxHeartbeats 4000000 in
set_option maxRecDepth 100000 in
/-- copyNodes -/
theorem c_S_copyNodes (D : va_G) (a : Nat → Nat) (ca : Nat → ClassId) (kn : Nat → Nat) (nu : Nat → Int64) (wo : Nat → Int64) (si : Nat → Nat) (de : Nat → Nat) (la : Nat → Nat) (le : Nat → Nat) (ro : Nat → Nat) (tm : Nat) (nd : Nat) (f : Nat) (t : Nat) (c : Nat) (y1 : f + c ≤ 200) (y2 : t + c ≤ 200) : xk_Ct yS_copyNodes cS_copyNodes 4 none { frames := 1, cells := 0, slots := 0, locals := 100 } D (tc_tS ca) [.ref (a 0), .int (nI f), .int (nI t), .int (nI c)] (tc_wS a ca kn nu wo si de la le ro tm nd) (fun rv ru => (rv = none ∧ ru = tc_wS a ca (va_cpy kn kn f t c) (va_cpy nu nu f t c) (va_cpy wo wo (f * 8) (t * 8) (c * 8)) (va_cpy si si f t c) (va_cpy de de f t c) (va_cpy la la f t c) (va_cpy le le f t c) ro tm nd)) := by
  refine xk_enter (by decide) (Nat.le_of_ble_eq_true rfl) (fun K C T hin => ?_)
  show xk_Go K D 4 0 0 (tc_wS a ca kn nu wo si de la le ro tm nd) [(0, .ref (a 0)), (1, .int (nI f)), (2, .int (nI t)), (3, .int (nI c))] 0 []
  refine x_iload_n C dS_copyNodes_0 rfl 1 rfl ?_
  refine x_if_ltN (tgt := 25) C (by omega) dS_copyNodes_1 (by decide) ?_
  refine x_iload_n C dS_copyNodes_4 rfl 2 rfl ?_
  refine x_if_ltN (tgt := 25) C (by omega) dS_copyNodes_5 (by decide) ?_
  refine x_iload_n C dS_copyNodes_8 rfl 3 rfl ?_
  refine x_if_ltN (tgt := 25) C (by omega) dS_copyNodes_9 (by decide) ?_
  refine x_iload_n C dS_copyNodes_12 rfl 1 rfl ?_
  refine x_iload_n C dS_copyNodes_13 rfl 2 rfl ?_
  refine x_max C kmS_111 (by omega) (by omega) (by decide) (Nat.le_of_ble_eq_true rfl) (Nat.le_of_ble_eq_true rfl) (Nat.le_of_ble_eq_true rfl) dS_copyNodes_14 ?_
  refine x_sipush (v := nI 200) C dS_copyNodes_17 (by decide) ?_
  refine x_iload_n C dS_copyNodes_20 rfl 3 rfl ?_
  refine x_isubN C (by omega) dS_copyNodes_21 ?_
  refine x_icmp_leN (tgt := 26) C (by omega) (by omega) dS_copyNodes_22 (by decide) (fun h22 => ?_) (fun h22 => ?_)
  ·
    refine x_aload_n C dS_copyNodes_26 rfl 0 rfl ?_
    refine x_get C fgS_9 0 rfl rfl dS_copyNodes_27 ?_
    refine x_iload_n C dS_copyNodes_30 rfl 1 rfl ?_
    refine x_aload_n C dS_copyNodes_31 rfl 0 rfl ?_
    refine x_get C fgS_9 0 rfl rfl dS_copyNodes_32 ?_
    refine x_iload_n C dS_copyNodes_35 rfl 2 rfl ?_
    refine x_iload_n C dS_copyNodes_36 rfl 3 rfl ?_
    refine x_copyN C kyS_116 1 1 0 0 (tc_wS a ca (va_cpy kn kn f t c) nu wo si de la le ro tm nd) rfl rfl rfl rfl rfl (by omega) (by omega) (by decide) (by decide) (Nat.le_of_ble_eq_true rfl) (Nat.le_of_ble_eq_true rfl) dS_copyNodes_37 ?_
    refine x_aload_n C dS_copyNodes_40 rfl 0 rfl ?_
    refine x_get C fgS_15 0 rfl rfl dS_copyNodes_41 ?_
    refine x_iload_n C dS_copyNodes_44 rfl 1 rfl ?_
    refine x_aload_n C dS_copyNodes_45 rfl 0 rfl ?_
    refine x_get C fgS_15 0 rfl rfl dS_copyNodes_46 ?_
    refine x_iload_n C dS_copyNodes_49 rfl 2 rfl ?_
    refine x_iload_n C dS_copyNodes_50 rfl 3 rfl ?_
    refine x_copyL C kyS_116 2 2 1 1 (tc_wS a ca (va_cpy kn kn f t c) (va_cpy nu nu f t c) wo si de la le ro tm nd) rfl rfl rfl rfl rfl (by omega) (by omega) (by decide) (by decide) (Nat.le_of_ble_eq_true rfl) (Nat.le_of_ble_eq_true rfl) dS_copyNodes_51 ?_
    refine x_aload_n C dS_copyNodes_54 rfl 0 rfl ?_
    refine x_get C fgS_19 0 rfl rfl dS_copyNodes_55 ?_
    refine x_iload_n C dS_copyNodes_58 rfl 1 rfl ?_
    refine x_bipush (v := nI 8) C dS_copyNodes_59 (by decide) ?_
    refine x_imulN C dS_copyNodes_61 ?_
    refine x_aload_n C dS_copyNodes_62 rfl 0 rfl ?_
    refine x_get C fgS_19 0 rfl rfl dS_copyNodes_63 ?_
    refine x_iload_n C dS_copyNodes_66 rfl 2 rfl ?_
    refine x_bipush (v := nI 8) C dS_copyNodes_67 (by decide) ?_
    refine x_imulN C dS_copyNodes_69 ?_
    refine x_iload_n C dS_copyNodes_70 rfl 3 rfl ?_
    refine x_bipush (v := nI 8) C dS_copyNodes_71 (by decide) ?_
    refine x_imulN C dS_copyNodes_73 ?_
    refine x_copyL C kyS_116 3 3 2 2 (tc_wS a ca (va_cpy kn kn f t c) (va_cpy nu nu f t c) (va_cpy wo wo (f * 8) (t * 8) (c * 8)) si de la le ro tm nd) rfl rfl rfl rfl rfl (by omega) (by omega) (by decide) (by decide) (Nat.le_of_ble_eq_true rfl) (Nat.le_of_ble_eq_true rfl) dS_copyNodes_74 ?_
    refine x_aload_n C dS_copyNodes_77 rfl 0 rfl ?_
    refine x_get C fgS_22 0 rfl rfl dS_copyNodes_78 ?_
    refine x_iload_n C dS_copyNodes_81 rfl 1 rfl ?_
    refine x_aload_n C dS_copyNodes_82 rfl 0 rfl ?_
    refine x_get C fgS_22 0 rfl rfl dS_copyNodes_83 ?_
    refine x_iload_n C dS_copyNodes_86 rfl 2 rfl ?_
    refine x_iload_n C dS_copyNodes_87 rfl 3 rfl ?_
    refine x_copyN C kyS_116 4 4 3 3 (tc_wS a ca (va_cpy kn kn f t c) (va_cpy nu nu f t c) (va_cpy wo wo (f * 8) (t * 8) (c * 8)) (va_cpy si si f t c) de la le ro tm nd) rfl rfl rfl rfl rfl (by omega) (by omega) (by decide) (by decide) (Nat.le_of_ble_eq_true rfl) (Nat.le_of_ble_eq_true rfl) dS_copyNodes_88 ?_
    refine x_aload_n C dS_copyNodes_91 rfl 0 rfl ?_
    refine x_get C fgS_25 0 rfl rfl dS_copyNodes_92 ?_
    refine x_iload_n C dS_copyNodes_95 rfl 1 rfl ?_
    refine x_aload_n C dS_copyNodes_96 rfl 0 rfl ?_
    refine x_get C fgS_25 0 rfl rfl dS_copyNodes_97 ?_
    refine x_iload_n C dS_copyNodes_100 rfl 2 rfl ?_
    refine x_iload_n C dS_copyNodes_101 rfl 3 rfl ?_
    refine x_copyN C kyS_116 5 5 4 4 (tc_wS a ca (va_cpy kn kn f t c) (va_cpy nu nu f t c) (va_cpy wo wo (f * 8) (t * 8) (c * 8)) (va_cpy si si f t c) (va_cpy de de f t c) la le ro tm nd) rfl rfl rfl rfl rfl (by omega) (by omega) (by decide) (by decide) (Nat.le_of_ble_eq_true rfl) (Nat.le_of_ble_eq_true rfl) dS_copyNodes_102 ?_
    refine x_aload_n C dS_copyNodes_105 rfl 0 rfl ?_
    refine x_get C fgS_28 0 rfl rfl dS_copyNodes_106 ?_
    refine x_iload_n C dS_copyNodes_109 rfl 1 rfl ?_
    refine x_aload_n C dS_copyNodes_110 rfl 0 rfl ?_
    refine x_get C fgS_28 0 rfl rfl dS_copyNodes_111 ?_
    refine x_iload_n C dS_copyNodes_114 rfl 2 rfl ?_
    refine x_iload_n C dS_copyNodes_115 rfl 3 rfl ?_
    refine x_copyN C kyS_116 6 6 5 5 (tc_wS a ca (va_cpy kn kn f t c) (va_cpy nu nu f t c) (va_cpy wo wo (f * 8) (t * 8) (c * 8)) (va_cpy si si f t c) (va_cpy de de f t c) (va_cpy la la f t c) le ro tm nd) rfl rfl rfl rfl rfl (by omega) (by omega) (by decide) (by decide) (Nat.le_of_ble_eq_true rfl) (Nat.le_of_ble_eq_true rfl) dS_copyNodes_116 ?_
    refine x_aload_n C dS_copyNodes_119 rfl 0 rfl ?_
    refine x_get C fgS_31 0 rfl rfl dS_copyNodes_120 ?_
    refine x_iload_n C dS_copyNodes_123 rfl 1 rfl ?_
    refine x_aload_n C dS_copyNodes_124 rfl 0 rfl ?_
    refine x_get C fgS_31 0 rfl rfl dS_copyNodes_125 ?_
    refine x_iload_n C dS_copyNodes_128 rfl 2 rfl ?_
    refine x_iload_n C dS_copyNodes_129 rfl 3 rfl ?_
    refine x_copyN C kyS_116 7 7 6 6 (tc_wS a ca (va_cpy kn kn f t c) (va_cpy nu nu f t c) (va_cpy wo wo (f * 8) (t * 8) (c * 8)) (va_cpy si si f t c) (va_cpy de de f t c) (va_cpy la la f t c) (va_cpy le le f t c) ro tm nd) rfl rfl rfl rfl rfl (by omega) (by omega) (by decide) (by decide) (Nat.le_of_ble_eq_true rfl) (Nat.le_of_ble_eq_true rfl) dS_copyNodes_130 ?_
    exact x_vret C T rfl dS_copyNodes_133 (⟨rfl, rfl⟩)
  ·
    exact absurd h22 (by omega)
set_option maxHeartbeats 4000000 in
set_option maxRecDepth 100000 in
/-- setByte -/
theorem c_S_setByte (D : va_G) (a : Nat → Nat) (ca : Nat → ClassId) (kn : Nat → Nat) (nu : Nat → Int64) (wo : Nat → Int64) (si : Nat → Nat) (de : Nat → Nat) (la : Nat → Nat) (le : Nat → Nat) (ro : Nat → Nat) (tm : Nat) (nd : Nat) (i : Nat) (j : Nat) (b : Nat) (y1 : i < 200) (y2 : j < 64) (y3 : b < 256) : xk_Ct yS_setByte cS_setByte 6 none { frames := 0, cells := 0, slots := 0, locals := 0 } D (tc_tS ca) [.ref (a 0), .int (nI i), .int (nI j), .int (nI b)] (tc_wS a ca kn nu wo si de la le ro tm nd) (fun rv ru => (∃ (wg : Nat → Int64), rv = none ∧ ru = tc_wS a ca kn nu wg si de la le ro tm nd ∧ (∀ q t, t < 64 → tc_wb wg q t = if q = i ∧ t = j then b else tc_wb wo q t))) := by
  refine xk_enter (by decide) (Nat.le_of_ble_eq_true rfl) (fun K C T hin => ?_)
  show xk_Go K D 6 0 0 (tc_wS a ca kn nu wo si de la le ro tm nd) [(0, .ref (a 0)), (1, .int (nI i)), (2, .int (nI j)), (3, .int (nI b))] 0 []
  refine x_iload_n C dS_setByte_0 rfl 1 rfl ?_
  refine x_bipush (v := nI 8) C dS_setByte_1 (by decide) ?_
  refine x_imulN C dS_setByte_3 ?_
  refine x_iload_n C dS_setByte_4 rfl 2 rfl ?_
  refine x_bipush (v := nI 8) C dS_setByte_5 (by decide) ?_
  refine x_idivN C (by omega) (by decide) (by decide) dS_setByte_7 ?_
  refine x_iaddN C dS_setByte_8 ?_
  refine x_istore C [(4, .int (nI (i * 8 + (j / 8)))), (0, .ref (a 0)), (1, .int (nI i)), (2, .int (nI j)), (3, .int (nI b))] dS_setByte_9 (by decide) rfl ?_
  refine x_bipush (v := nI 8) C dS_setByte_11 (by decide) ?_
  refine x_bipush (v := nI 7) C dS_setByte_13 (by decide) ?_
  refine x_iload_n C dS_setByte_15 rfl 3 rfl ?_
  refine x_bipush (v := nI 8) C dS_setByte_16 (by decide) ?_
  refine x_iremN C (by omega) (by decide) (by decide) dS_setByte_18 ?_
  refine x_isubN C (by omega) dS_setByte_19 ?_
  refine x_imulN C dS_setByte_20 ?_
  refine x_istore C [(5, .int (nI (8 * (7 - (j % 8))))), (4, .int (nI (i * 8 + (j / 8)))), (0, .ref (a 0)), (1, .int (nI i)), (2, .int (nI j)), (3, .int (nI b))] dS_setByte_21 (by decide) rfl ?_
  refine x_aload_n C dS_setByte_23 rfl 2 rfl ?_
  refine x_get C fgS_19 0 rfl rfl dS_setByte_24 ?_
  refine x_iload C dS_setByte_27 1 rfl ?_
  refine x_aload_n C dS_setByte_29 rfl 2 rfl ?_
  refine x_get C fgS_19 0 rfl rfl dS_setByte_30 ?_
  refine x_iload C dS_setByte_33 1 rfl ?_
  refine x_lld C 3 2 rfl rfl (by omega) (by decide) dS_setByte_35 ?_
  refine x_ldc2 (v := 255) C dS_setByte_36 klS_54 ?_
  refine x_iload C dS_setByte_39 0 rfl ?_
  refine x_lshl (v := lN (255 * 2 ^ (8 * (7 - j % 8)))) C dS_setByte_41 (wb_shl 255 (by omega)) ?_
  refine x_ldc2 (v := (-1)) C dS_setByte_42 klS_56 ?_
  refine x_lxor C dS_setByte_45 ?_
  refine x_land C dS_setByte_46 ?_
  refine x_iload_n C dS_setByte_47 rfl 5 rfl ?_
  refine x_i2l (v := lN b) C dS_setByte_48 (nI_l (by omega)) ?_
  refine x_iload C dS_setByte_49 0 rfl ?_
  refine x_lshl (v := lN (b * 2 ^ (8 * (7 - j % 8)))) C dS_setByte_51 (wb_shl b (by omega)) ?_
  refine x_lor C dS_setByte_52 ?_
  refine x_lst C 3 2 (tc_wS a ca kn nu (vp_updL wo (i * 8 + (j / 8)) (((wo (i * 8 + (j / 8))) &&& ((lN (255 * 2 ^ (8 * (7 - j % 8)))) ^^^ (-1))) ||| (lN (b * 2 ^ (8 * (7 - j % 8)))))) si de la le ro tm nd) rfl rfl rfl rfl (by omega) (by decide) dS_setByte_53 ?_
  exact x_vret C T rfl dS_setByte_54 (⟨_, rfl, rfl, (tc_setb wo i j b y2 y3)⟩)
end
section
set_option maxHeartbeats 4000000 in
set_option maxRecDepth 100000 in
/-- settle -/
theorem c_S_settle (D : va_G) (a : Nat → Nat) (ca : Nat → ClassId) (kn : Nat → Nat) (nu : Nat → Int64) (wo : Nat → Int64) (si : Nat → Nat) (de : Nat → Nat) (la : Nat → Nat) (le : Nat → Nat) (ro : Nat → Nat) (tm : Nat) (nd : Nat) (i : Nat) (v : Nat) (y1 : i < 200) (y2 : kn i = 0 ∨ kn i = 1 ∨ kn i = 2 ∨ kn i = 3 ∨ kn i = 4 ∨ kn i = 5 ∨ kn i = 6 ∨ kn i = 7 ∨ kn i = 8 ∨ kn i = 9 ∨ kn i = 10 ∨ kn i = 11) (y3 : kn i = 0 ∨ kn i = 8 → nu i = lN v ∧ v < 2 ^ 30) (y4 : ∀ j, j ∈ tc_chs (kn i) i si → j < 200 ∧ si j < 1048576 ∧ de j < 1048576 ∧ la j < 1048576 ∧ le j < 1048576) : xk_Ct yS_settle cS_settle 10 none { frames := 2, cells := 0, slots := 0, locals := 46 } D (tc_tS ca) [.ref (a 0), .int (nI i)] (tc_wS a ca kn nu wo si de la le ro tm nd) (fun rv ru => (∃ (s : Nat), ∃ (dd : Nat), ∃ (l : Nat), ∃ (e : Nat), rv = none ∧ ru = tc_wS a ca kn nu wo (va_up si i s) (va_up de i dd) (va_up la i l) (va_up le i e) ro tm nd ∧ (s = tc_fs (kn i, nu i, []) ((tc_chs (kn i) i si).map si)) ∧ (dd = tc_fd (kn i, nu i, []) ((tc_chs (kn i) i si).map de)) ∧ (l = tc_fl (kn i, nu i, []) ((tc_chs (kn i) i si).map la)) ∧ (e = tc_ol (kn i) (nu i) + ((tc_chs (kn i) i si).map le).sum))) := by
  refine xk_enter (by decide) (Nat.le_of_ble_eq_true rfl) (fun K C T hin => ?_)
  have yk : kn i ≤ 11 := by omega
  have yo := tc_ol_lt (kn i) (nu i) v y3
  show xk_Go K D 10 0 0 (tc_wS a ca kn nu wo si de la le ro tm nd) [(0, .ref (a 0)), (1, .int (nI i))] 0 []
  refine x_aload_n C dS_settle_0 rfl 0 rfl ?_
  refine x_get C fgS_9 0 rfl rfl dS_settle_1 ?_
  refine x_iload_n C dS_settle_4 rfl 1 rfl ?_
  refine x_ild C 1 0 rfl rfl (by omega) (by decide) dS_settle_5 ?_
  show xk_Go K D 10 0 0 (tc_wS a ca kn nu wo si de la le ro tm nd) [(0, .ref (a 0)), (1, .int (nI i))] 6 [.int (nI (kn i))]
  refine x_istore_n C [(2, .int (nI (kn i))), (0, .ref (a 0)), (1, .int (nI i))] dS_settle_6 rfl (by decide) rfl ?_
  refine x_iconst (v := nI 1) C dS_settle_7 (by decide) ?_
  refine x_istore_n C [(3, .int (nI 1)), (2, .int (nI (kn i))), (0, .ref (a 0)), (1, .int (nI i))] dS_settle_8 rfl (by decide) rfl ?_
  refine x_iconst (v := nI 0) C dS_settle_9 (by decide) ?_
  refine x_istore C [(4, .int (nI 0)), (3, .int (nI 1)), (2, .int (nI (kn i))), (0, .ref (a 0)), (1, .int (nI i))] dS_settle_10 (by decide) rfl ?_
  have jn29 : ∀ (l0 : Nat), ((l0 = if kn i = 0 then (nu i).toInt.toNat else 0)) → (l0 < 2 ^ 30) → xk_Go K D 10 0 0 (tc_wS a ca kn nu wo si de la le ro tm nd) [(0, .ref (a 0)), (1, .int (nI i)), (2, .int (nI (kn i))), (3, .int (nI 1)), (4, .int (nI 0)), (5, .int (nI l0))] 29 [] := by
    intro l0 e0 e00
    refine x_iload_n C dS_settle_29 rfl 2 rfl ?_
    refine x_aload_n C dS_settle_30 rfl 0 rfl ?_
    refine x_get C fgS_15 0 rfl rfl dS_settle_31 ?_
    refine x_iload_n C dS_settle_34 rfl 1 rfl ?_
    refine x_lld C 2 1 rfl rfl (by omega) (by decide) dS_settle_35 ?_
    refine x_callS C (c_F_ownLength D (kn i) (nu i) v y2 y3) kbS_107 kcS_107 [] [0, 1, 2, 3, 4, 5, 6, 7, 8] [] (tc_wS a ca kn nu wo si de la le ro tm nd) rfl rfl (by decide) (by decide) (by decide) rfl ⟨Nat.le_of_ble_eq_true rfl, Nat.le_of_ble_eq_true rfl⟩ ⟨Nat.le_of_ble_eq_true rfl, Nat.le_of_ble_eq_true rfl⟩ [] rfl rfl (Nat.le_of_ble_eq_true rfl) dS_settle_36 (fun rv ru hw => ?_)
    obtain ⟨rfl, rfl⟩ := hw
    show xk_Go K D 10 0 0 (tc_wS a ca kn nu wo si de la le ro tm nd) [(0, .ref (a 0)), (1, .int (nI i)), (2, .int (nI (kn i))), (3, .int (nI 1)), (4, .int (nI 0)), (5, .int (nI l0))] 39 [.int (nI (tc_ol (kn i) (nu i)))]
    refine x_istore C [(6, .int (nI (tc_ol (kn i) (nu i)))), (0, .ref (a 0)), (1, .int (nI i)), (2, .int (nI (kn i))), (3, .int (nI 1)), (4, .int (nI 0)), (5, .int (nI l0))] dS_settle_39 (by decide) rfl ?_
    refine x_iload_n C dS_settle_41 rfl 3 rfl ?_
    refine x_callS C (c_F_partsOf D (kn i) (by omega)) kbS_58 kcS_58 [] [0, 1, 2, 3, 4, 5, 6, 7, 8] [] (tc_wS a ca kn nu wo si de la le ro tm nd) rfl rfl (by decide) (by decide) (by decide) rfl ⟨Nat.le_of_ble_eq_true rfl, Nat.le_of_ble_eq_true rfl⟩ ⟨Nat.le_of_ble_eq_true rfl, Nat.le_of_ble_eq_true rfl⟩ [] rfl rfl (Nat.le_of_ble_eq_true rfl) dS_settle_42 (fun rv ru hw => ?_)
    obtain ⟨rfl, rfl⟩ := hw
    show xk_Go K D 10 0 0 (tc_wS a ca kn nu wo si de la le ro tm nd) [(6, .int (nI (tc_ol (kn i) (nu i)))), (0, .ref (a 0)), (1, .int (nI i)), (2, .int (nI (kn i))), (3, .int (nI 1)), (4, .int (nI 0)), (5, .int (nI l0))] 45 [.int (nI (tc_tk (kn i)))]
    have jn127 : ∀ (s0 : Nat) (d0 : Nat) (l1 : Nat) (e1 : Nat), (s0 = tc_fs (kn i, nu i, []) ((tc_chs (kn i) i si).map si)) → (d0 + 1 = tc_fd (kn i, nu i, []) ((tc_chs (kn i) i si).map de)) → (l1 = max l0 (((tc_chs (kn i) i si).map la).foldr max 0)) → (e1 = tc_ol (kn i) (nu i) + ((tc_chs (kn i) i si).map le).sum) → (l1 < 2 ^ 31) → xk_Go K D 10 0 0 (tc_wS a ca kn nu wo si de la le ro tm nd) [(0, .ref (a 0)), (1, .int (nI i)), (2, .int (nI (kn i))), (3, .int (nI s0)), (4, .int (nI d0)), (5, .int (nI l1)), (6, .int (nI e1))] 127 [] := by
      intro s0 d0 l1 e1 f1 f2 f3 f4 f5
      refine x_aload_n C dS_settle_127 rfl 0 rfl ?_
      refine x_get C fgS_22 0 rfl rfl dS_settle_128 ?_
      refine x_iload_n C dS_settle_131 rfl 1 rfl ?_
      refine x_iload_n C dS_settle_132 rfl 3 rfl ?_
      refine x_ist C 4 3 (tc_wS a ca kn nu wo (va_up si i s0) de la le ro tm nd) rfl rfl (xk_nA_up si i s0) rfl (by omega) (by decide) dS_settle_133 ?_
      refine x_aload_n C dS_settle_134 rfl 0 rfl ?_
      refine x_get C fgS_25 0 rfl rfl dS_settle_135 ?_
      refine x_iload_n C dS_settle_138 rfl 1 rfl ?_
      refine x_iload C dS_settle_139 4 rfl ?_
      refine x_iconst (v := nI 1) C dS_settle_141 (by decide) ?_
      refine x_iaddN C dS_settle_142 ?_
      refine x_ist C 5 4 (tc_wS a ca kn nu wo (va_up si i s0) (va_up de i (d0 + 1)) la le ro tm nd) rfl rfl (xk_nA_up de i (d0 + 1)) rfl (by omega) (by decide) dS_settle_143 ?_
      refine x_aload_n C dS_settle_144 rfl 0 rfl ?_
      refine x_get C fgS_28 0 rfl rfl dS_settle_145 ?_
      refine x_iload_n C dS_settle_148 rfl 1 rfl ?_
      refine x_iload_n C dS_settle_149 rfl 2 rfl ?_
      refine x_iconst (v := nI 1) C dS_settle_150 (by decide) ?_
      refine x_icmp_neN (tgt := 166) C (by omega) (by decide) dS_settle_151 (by decide) (fun h151 => ?_) (fun h151 => ?_)
      ·
        refine x_iload C dS_settle_166 5 rfl ?_
        refine x_ist C 6 5 (tc_wS a ca kn nu wo (va_up si i s0) (va_up de i (d0 + 1)) (va_up la i l1) le ro tm nd) rfl rfl (xk_nA_up la i l1) rfl (by omega) (by decide) dS_settle_168 ?_
        refine x_aload_n C dS_settle_169 rfl 0 rfl ?_
        refine x_get C fgS_31 0 rfl rfl dS_settle_170 ?_
        refine x_iload_n C dS_settle_173 rfl 1 rfl ?_
        refine x_iload C dS_settle_174 6 rfl ?_
        refine x_ist C 7 6 (tc_wS a ca kn nu wo (va_up si i s0) (va_up de i (d0 + 1)) (va_up la i l1) (va_up le i e1) ro tm nd) rfl rfl (xk_nA_up le i e1) rfl (by omega) (by decide) dS_settle_176 ?_
        exact x_vret C T rfl dS_settle_177 (⟨_, _, _, _, rfl, rfl, f1, (by omega), (tc_se_n e0 f3 h151 (fun q => by rw [tc_chs_0 (by rw [q]; rfl)]; rfl)), f4⟩)
      ·
        refine x_iload C dS_settle_154 5 rfl ?_
        refine x_if_leN (tgt := 166) C (by omega) dS_settle_156 (by decide) (fun h156 => ?_) (fun h156 => ?_)
        ·
          refine x_iload C dS_settle_166 5 rfl ?_
          refine x_ist C 6 5 (tc_wS a ca kn nu wo (va_up si i s0) (va_up de i (d0 + 1)) (va_up la i l1) le ro tm nd) rfl rfl (xk_nA_up la i l1) rfl (by omega) (by decide) dS_settle_168 ?_
          refine x_aload_n C dS_settle_169 rfl 0 rfl ?_
          refine x_get C fgS_31 0 rfl rfl dS_settle_170 ?_
          refine x_iload_n C dS_settle_173 rfl 1 rfl ?_
          refine x_iload C dS_settle_174 6 rfl ?_
          refine x_ist C 7 6 (tc_wS a ca kn nu wo (va_up si i s0) (va_up de i (d0 + 1)) (va_up la i l1) (va_up le i e1) ro tm nd) rfl rfl (xk_nA_up le i e1) rfl (by omega) (by decide) dS_settle_176 ?_
          exact x_vret C T rfl dS_settle_177 (⟨_, _, _, _, rfl, rfl, f1, (by omega), (tc_se_0 e0 f3 h151 h156), f4⟩)
        ·
          refine x_iload C dS_settle_159 5 rfl ?_
          refine x_iconst (v := nI 1) C dS_settle_161 (by decide) ?_
          refine x_isubN C (by omega) dS_settle_162 ?_
          refine x_goto C 168 dS_settle_163 (by decide) ?_
          refine x_ist C 6 5 (tc_wS a ca kn nu wo (va_up si i s0) (va_up de i (d0 + 1)) (va_up la i (l1 - 1)) le ro tm nd) rfl rfl (xk_nA_up la i (l1 - 1)) rfl (by omega) (by decide) dS_settle_168 ?_
          refine x_aload_n C dS_settle_169 rfl 0 rfl ?_
          refine x_get C fgS_31 0 rfl rfl dS_settle_170 ?_
          refine x_iload_n C dS_settle_173 rfl 1 rfl ?_
          refine x_iload C dS_settle_174 6 rfl ?_
          refine x_ist C 7 6 (tc_wS a ca kn nu wo (va_up si i s0) (va_up de i (d0 + 1)) (va_up la i (l1 - 1)) (va_up le i e1) ro tm nd) rfl rfl (xk_nA_up le i e1) rfl (by omega) (by decide) dS_settle_176 ?_
          exact x_vret C T rfl dS_settle_177 (⟨_, _, _, _, rfl, rfl, f1, (by omega), (tc_se_1 e0 f3 h151), f4⟩)
    rcases tc_tk3 (kn i) with hk | hk | hk
    ·
      rw [hk]
      refine x_istore C [(7, .int (nI 0)), (6, .int (nI (tc_ol (kn i) (nu i)))), (0, .ref (a 0)), (1, .int (nI i)), (2, .int (nI (kn i))), (3, .int (nI 1)), (4, .int (nI 0)), (5, .int (nI l0))] dS_settle_45 (by decide) rfl ?_
      refine x_iconst (v := nI 0) C dS_settle_47 (by decide) ?_
      refine x_istore C [(8, .int (nI 0)), (7, .int (nI 0)), (6, .int (nI (tc_ol (kn i) (nu i)))), (0, .ref (a 0)), (1, .int (nI i)), (2, .int (nI (kn i))), (3, .int (nI 1)), (4, .int (nI 0)), (5, .int (nI l0))] dS_settle_48 (by decide) rfl ?_
      refine x_iload C dS_settle_50 0 rfl ?_
      refine x_iload C dS_settle_52 1 rfl ?_
      refine x_icmp_ge (tgt := 127) C dS_settle_54 (by decide) (fun _ => ?_) (fun h => absurd (by decide) h)
      exact x_sub [3, 4, 5, 6, 7, 8, 2] rfl (jn127 1 0 l0 (tc_ol (kn i) (nu i)) (by rw [tc_chs_0 hk]; rfl) (by rw [tc_chs_0 hk]; rfl) (by rw [tc_chs_0 hk]; show _ = max l0 0; omega) (by rw [tc_chs_0 hk]; rfl) (by omega))
    ·
      rw [hk]
      obtain ⟨z1, z2, z3, z4, z5⟩ := y4 (i + 1) (by rw [tc_chs_1 hk]; simp)
      refine x_istore C [(7, .int (nI 1)), (6, .int (nI (tc_ol (kn i) (nu i)))), (0, .ref (a 0)), (1, .int (nI i)), (2, .int (nI (kn i))), (3, .int (nI 1)), (4, .int (nI 0)), (5, .int (nI l0))] dS_settle_45 (by decide) rfl ?_
      refine x_iconst (v := nI 0) C dS_settle_47 (by decide) ?_
      refine x_istore C [(8, .int (nI 0)), (7, .int (nI 1)), (6, .int (nI (tc_ol (kn i) (nu i)))), (0, .ref (a 0)), (1, .int (nI i)), (2, .int (nI (kn i))), (3, .int (nI 1)), (4, .int (nI 0)), (5, .int (nI l0))] dS_settle_48 (by decide) rfl ?_
      refine x_iload C dS_settle_50 0 rfl ?_
      refine x_iload C dS_settle_52 1 rfl ?_
      refine x_icmp_ge (tgt := 127) C dS_settle_54 (by decide) (fun h => absurd h (by decide)) (fun _ => ?_)
      refine x_iload_n C dS_settle_57 rfl 4 rfl ?_
      refine x_iload_n C dS_settle_58 rfl 6 rfl ?_
      refine x_iaddN C dS_settle_59 ?_
      refine x_sipush (v := nI 200) C dS_settle_60 (by decide) ?_
      refine x_icmp_geN (tgt := 127) C (by omega) (by decide) dS_settle_63 (by decide) (fun h63 => ?_) (fun h63 => ?_)
      ·
        exact absurd h63 (by omega)
      ·
        refine x_iload_n C dS_settle_66 rfl 4 rfl ?_
        refine x_iload_n C dS_settle_67 rfl 6 rfl ?_
        refine x_iaddN C dS_settle_68 ?_
        refine x_istore C [(9, .int (nI (i + 1))), (8, .int (nI 0)), (7, .int (nI 1)), (6, .int (nI (tc_ol (kn i) (nu i)))), (0, .ref (a 0)), (1, .int (nI i)), (2, .int (nI (kn i))), (3, .int (nI 1)), (4, .int (nI 0)), (5, .int (nI l0))] dS_settle_69 (by decide) rfl ?_
        refine x_iload C dS_settle_71 8 rfl ?_
        refine x_aload_n C dS_settle_73 rfl 4 rfl ?_
        refine x_get C fgS_25 0 rfl rfl dS_settle_74 ?_
        refine x_iload C dS_settle_77 0 rfl ?_
        refine x_ild C 5 4 rfl rfl (by omega) (by decide) dS_settle_79 ?_
        show xk_Go K D 10 0 0 (tc_wS a ca kn nu wo si de la le ro tm nd) [(9, .int (nI (i + 1))), (8, .int (nI 0)), (7, .int (nI 1)), (6, .int (nI (tc_ol (kn i) (nu i)))), (0, .ref (a 0)), (1, .int (nI i)), (2, .int (nI (kn i))), (3, .int (nI 1)), (4, .int (nI 0)), (5, .int (nI l0))] 80 [.int (nI (de (i + 1))), .int (nI 0)]
        refine x_max C kmS_111 (by omega) (by omega) (by decide) (Nat.le_of_ble_eq_true rfl) (Nat.le_of_ble_eq_true rfl) (Nat.le_of_ble_eq_true rfl) dS_settle_80 ?_
        refine x_istore C [(4, .int (nI (max 0 (de (i + 1))))), (9, .int (nI (i + 1))), (8, .int (nI 0)), (7, .int (nI 1)), (6, .int (nI (tc_ol (kn i) (nu i)))), (0, .ref (a 0)), (1, .int (nI i)), (2, .int (nI (kn i))), (3, .int (nI 1)), (5, .int (nI l0))] dS_settle_83 (by decide) rfl ?_
        refine x_iload C dS_settle_85 9 rfl ?_
        refine x_aload_n C dS_settle_87 rfl 5 rfl ?_
        refine x_get C fgS_28 0 rfl rfl dS_settle_88 ?_
        refine x_iload C dS_settle_91 1 rfl ?_
        refine x_ild C 6 5 rfl rfl (by omega) (by decide) dS_settle_93 ?_
        show xk_Go K D 10 0 0 (tc_wS a ca kn nu wo si de la le ro tm nd) [(4, .int (nI (max 0 (de (i + 1))))), (9, .int (nI (i + 1))), (8, .int (nI 0)), (7, .int (nI 1)), (6, .int (nI (tc_ol (kn i) (nu i)))), (0, .ref (a 0)), (1, .int (nI i)), (2, .int (nI (kn i))), (3, .int (nI 1)), (5, .int (nI l0))] 94 [.int (nI (la (i + 1))), .int (nI l0)]
        refine x_max C kmS_111 (by omega) (by omega) (by decide) (Nat.le_of_ble_eq_true rfl) (Nat.le_of_ble_eq_true rfl) (Nat.le_of_ble_eq_true rfl) dS_settle_94 ?_
        refine x_istore C [(5, .int (nI (max l0 (la (i + 1))))), (4, .int (nI (max 0 (de (i + 1))))), (9, .int (nI (i + 1))), (8, .int (nI 0)), (7, .int (nI 1)), (6, .int (nI (tc_ol (kn i) (nu i)))), (0, .ref (a 0)), (1, .int (nI i)), (2, .int (nI (kn i))), (3, .int (nI 1))] dS_settle_97 (by decide) rfl ?_
        refine x_iload C dS_settle_99 5 rfl ?_
        refine x_aload_n C dS_settle_101 rfl 6 rfl ?_
        refine x_get C fgS_31 0 rfl rfl dS_settle_102 ?_
        refine x_iload C dS_settle_105 2 rfl ?_
        refine x_ild C 7 6 rfl rfl (by omega) (by decide) dS_settle_107 ?_
        show xk_Go K D 10 0 0 (tc_wS a ca kn nu wo si de la le ro tm nd) [(5, .int (nI (max l0 (la (i + 1))))), (4, .int (nI (max 0 (de (i + 1))))), (9, .int (nI (i + 1))), (8, .int (nI 0)), (7, .int (nI 1)), (6, .int (nI (tc_ol (kn i) (nu i)))), (0, .ref (a 0)), (1, .int (nI i)), (2, .int (nI (kn i))), (3, .int (nI 1))] 108 [.int (nI (le (i + 1))), .int (nI (tc_ol (kn i) (nu i)))]
        refine x_iaddN C dS_settle_108 ?_
        refine x_istore C [(6, .int (nI (tc_ol (kn i) (nu i) + (le (i + 1))))), (5, .int (nI (max l0 (la (i + 1))))), (4, .int (nI (max 0 (de (i + 1))))), (9, .int (nI (i + 1))), (8, .int (nI 0)), (7, .int (nI 1)), (0, .ref (a 0)), (1, .int (nI i)), (2, .int (nI (kn i))), (3, .int (nI 1))] dS_settle_109 (by decide) rfl ?_
        refine x_iload_n C dS_settle_111 rfl 9 rfl ?_
        refine x_aload_n C dS_settle_112 rfl 6 rfl ?_
        refine x_get C fgS_22 0 rfl rfl dS_settle_113 ?_
        refine x_iload C dS_settle_116 3 rfl ?_
        refine x_ild C 4 3 rfl rfl (by omega) (by decide) dS_settle_118 ?_
        show xk_Go K D 10 0 0 (tc_wS a ca kn nu wo si de la le ro tm nd) [(6, .int (nI (tc_ol (kn i) (nu i) + (le (i + 1))))), (5, .int (nI (max l0 (la (i + 1))))), (4, .int (nI (max 0 (de (i + 1))))), (9, .int (nI (i + 1))), (8, .int (nI 0)), (7, .int (nI 1)), (0, .ref (a 0)), (1, .int (nI i)), (2, .int (nI (kn i))), (3, .int (nI 1))] 119 [.int (nI (si (i + 1))), .int (nI 1)]
        refine x_iaddN C dS_settle_119 ?_
        refine x_istore_n C [(3, .int (nI (1 + (si (i + 1))))), (6, .int (nI (tc_ol (kn i) (nu i) + (le (i + 1))))), (5, .int (nI (max l0 (la (i + 1))))), (4, .int (nI (max 0 (de (i + 1))))), (9, .int (nI (i + 1))), (8, .int (nI 0)), (7, .int (nI 1)), (0, .ref (a 0)), (1, .int (nI i)), (2, .int (nI (kn i)))] dS_settle_120 rfl (by decide) rfl ?_
        refine x_iinc (q := 5) C (nI 1) [(8, .int (nI 1)), (3, .int (nI (1 + (si (i + 1))))), (6, .int (nI (tc_ol (kn i) (nu i) + (le (i + 1))))), (5, .int (nI (max l0 (la (i + 1))))), (4, .int (nI (max 0 (de (i + 1))))), (9, .int (nI (i + 1))), (7, .int (nI 1)), (0, .ref (a 0)), (1, .int (nI i)), (2, .int (nI (kn i)))] dS_settle_121 rfl (by decide) (by decide) rfl ?_
        refine x_goto C 50 dS_settle_124 (by decide) ?_
        refine x_iload C dS_settle_50 0 rfl ?_
        refine x_iload C dS_settle_52 6 rfl ?_
        refine x_icmp_ge (tgt := 127) C dS_settle_54 (by decide) (fun _ => ?_) (fun h => absurd (by decide) h)
        exact x_sub [7, 8, 9, 1, 4, 3, 2] rfl (jn127 (1 + (si (i + 1))) (max 0 (de (i + 1))) (max l0 (la (i + 1))) (tc_ol (kn i) (nu i) + (le (i + 1))) (by rw [tc_chs_1 hk]; rfl) (by rw [tc_chs_1 hk]; show _ = 1 + max (de (i + 1)) 0; omega) (by rw [tc_chs_1 hk]; show _ = max l0 (max (la (i + 1)) 0); omega) (by rw [tc_chs_1 hk]; rfl) (by omega))
    ·
      rw [hk]
      obtain ⟨z1, z2, z3, z4, z5⟩ := y4 (i + 1) (by rw [tc_chs_2 hk]; simp)
      obtain ⟨w1, w2, w3, w4, w5⟩ := y4 (i + (1 + si (i + 1))) (by rw [tc_chs_2 hk]; simp)
      refine x_istore C [(7, .int (nI 2)), (6, .int (nI (tc_ol (kn i) (nu i)))), (0, .ref (a 0)), (1, .int (nI i)), (2, .int (nI (kn i))), (3, .int (nI 1)), (4, .int (nI 0)), (5, .int (nI l0))] dS_settle_45 (by decide) rfl ?_
      refine x_iconst (v := nI 0) C dS_settle_47 (by decide) ?_
      refine x_istore C [(8, .int (nI 0)), (7, .int (nI 2)), (6, .int (nI (tc_ol (kn i) (nu i)))), (0, .ref (a 0)), (1, .int (nI i)), (2, .int (nI (kn i))), (3, .int (nI 1)), (4, .int (nI 0)), (5, .int (nI l0))] dS_settle_48 (by decide) rfl ?_
      refine x_iload C dS_settle_50 0 rfl ?_
      refine x_iload C dS_settle_52 1 rfl ?_
      refine x_icmp_ge (tgt := 127) C dS_settle_54 (by decide) (fun h => absurd h (by decide)) (fun _ => ?_)
      refine x_iload_n C dS_settle_57 rfl 4 rfl ?_
      refine x_iload_n C dS_settle_58 rfl 6 rfl ?_
      refine x_iaddN C dS_settle_59 ?_
      refine x_sipush (v := nI 200) C dS_settle_60 (by decide) ?_
      refine x_icmp_geN (tgt := 127) C (by omega) (by decide) dS_settle_63 (by decide) (fun h63 => ?_) (fun h63 => ?_)
      ·
        exact absurd h63 (by omega)
      ·
        refine x_iload_n C dS_settle_66 rfl 4 rfl ?_
        refine x_iload_n C dS_settle_67 rfl 6 rfl ?_
        refine x_iaddN C dS_settle_68 ?_
        refine x_istore C [(9, .int (nI (i + 1))), (8, .int (nI 0)), (7, .int (nI 2)), (6, .int (nI (tc_ol (kn i) (nu i)))), (0, .ref (a 0)), (1, .int (nI i)), (2, .int (nI (kn i))), (3, .int (nI 1)), (4, .int (nI 0)), (5, .int (nI l0))] dS_settle_69 (by decide) rfl ?_
        refine x_iload C dS_settle_71 8 rfl ?_
        refine x_aload_n C dS_settle_73 rfl 4 rfl ?_
        refine x_get C fgS_25 0 rfl rfl dS_settle_74 ?_
        refine x_iload C dS_settle_77 0 rfl ?_
        refine x_ild C 5 4 rfl rfl (by omega) (by decide) dS_settle_79 ?_
        show xk_Go K D 10 0 0 (tc_wS a ca kn nu wo si de la le ro tm nd) [(9, .int (nI (i + 1))), (8, .int (nI 0)), (7, .int (nI 2)), (6, .int (nI (tc_ol (kn i) (nu i)))), (0, .ref (a 0)), (1, .int (nI i)), (2, .int (nI (kn i))), (3, .int (nI 1)), (4, .int (nI 0)), (5, .int (nI l0))] 80 [.int (nI (de (i + 1))), .int (nI 0)]
        refine x_max C kmS_111 (by omega) (by omega) (by decide) (Nat.le_of_ble_eq_true rfl) (Nat.le_of_ble_eq_true rfl) (Nat.le_of_ble_eq_true rfl) dS_settle_80 ?_
        refine x_istore C [(4, .int (nI (max 0 (de (i + 1))))), (9, .int (nI (i + 1))), (8, .int (nI 0)), (7, .int (nI 2)), (6, .int (nI (tc_ol (kn i) (nu i)))), (0, .ref (a 0)), (1, .int (nI i)), (2, .int (nI (kn i))), (3, .int (nI 1)), (5, .int (nI l0))] dS_settle_83 (by decide) rfl ?_
        refine x_iload C dS_settle_85 9 rfl ?_
        refine x_aload_n C dS_settle_87 rfl 5 rfl ?_
        refine x_get C fgS_28 0 rfl rfl dS_settle_88 ?_
        refine x_iload C dS_settle_91 1 rfl ?_
        refine x_ild C 6 5 rfl rfl (by omega) (by decide) dS_settle_93 ?_
        show xk_Go K D 10 0 0 (tc_wS a ca kn nu wo si de la le ro tm nd) [(4, .int (nI (max 0 (de (i + 1))))), (9, .int (nI (i + 1))), (8, .int (nI 0)), (7, .int (nI 2)), (6, .int (nI (tc_ol (kn i) (nu i)))), (0, .ref (a 0)), (1, .int (nI i)), (2, .int (nI (kn i))), (3, .int (nI 1)), (5, .int (nI l0))] 94 [.int (nI (la (i + 1))), .int (nI l0)]
        refine x_max C kmS_111 (by omega) (by omega) (by decide) (Nat.le_of_ble_eq_true rfl) (Nat.le_of_ble_eq_true rfl) (Nat.le_of_ble_eq_true rfl) dS_settle_94 ?_
        refine x_istore C [(5, .int (nI (max l0 (la (i + 1))))), (4, .int (nI (max 0 (de (i + 1))))), (9, .int (nI (i + 1))), (8, .int (nI 0)), (7, .int (nI 2)), (6, .int (nI (tc_ol (kn i) (nu i)))), (0, .ref (a 0)), (1, .int (nI i)), (2, .int (nI (kn i))), (3, .int (nI 1))] dS_settle_97 (by decide) rfl ?_
        refine x_iload C dS_settle_99 5 rfl ?_
        refine x_aload_n C dS_settle_101 rfl 6 rfl ?_
        refine x_get C fgS_31 0 rfl rfl dS_settle_102 ?_
        refine x_iload C dS_settle_105 2 rfl ?_
        refine x_ild C 7 6 rfl rfl (by omega) (by decide) dS_settle_107 ?_
        show xk_Go K D 10 0 0 (tc_wS a ca kn nu wo si de la le ro tm nd) [(5, .int (nI (max l0 (la (i + 1))))), (4, .int (nI (max 0 (de (i + 1))))), (9, .int (nI (i + 1))), (8, .int (nI 0)), (7, .int (nI 2)), (6, .int (nI (tc_ol (kn i) (nu i)))), (0, .ref (a 0)), (1, .int (nI i)), (2, .int (nI (kn i))), (3, .int (nI 1))] 108 [.int (nI (le (i + 1))), .int (nI (tc_ol (kn i) (nu i)))]
        refine x_iaddN C dS_settle_108 ?_
        refine x_istore C [(6, .int (nI (tc_ol (kn i) (nu i) + (le (i + 1))))), (5, .int (nI (max l0 (la (i + 1))))), (4, .int (nI (max 0 (de (i + 1))))), (9, .int (nI (i + 1))), (8, .int (nI 0)), (7, .int (nI 2)), (0, .ref (a 0)), (1, .int (nI i)), (2, .int (nI (kn i))), (3, .int (nI 1))] dS_settle_109 (by decide) rfl ?_
        refine x_iload_n C dS_settle_111 rfl 9 rfl ?_
        refine x_aload_n C dS_settle_112 rfl 6 rfl ?_
        refine x_get C fgS_22 0 rfl rfl dS_settle_113 ?_
        refine x_iload C dS_settle_116 3 rfl ?_
        refine x_ild C 4 3 rfl rfl (by omega) (by decide) dS_settle_118 ?_
        show xk_Go K D 10 0 0 (tc_wS a ca kn nu wo si de la le ro tm nd) [(6, .int (nI (tc_ol (kn i) (nu i) + (le (i + 1))))), (5, .int (nI (max l0 (la (i + 1))))), (4, .int (nI (max 0 (de (i + 1))))), (9, .int (nI (i + 1))), (8, .int (nI 0)), (7, .int (nI 2)), (0, .ref (a 0)), (1, .int (nI i)), (2, .int (nI (kn i))), (3, .int (nI 1))] 119 [.int (nI (si (i + 1))), .int (nI 1)]
        refine x_iaddN C dS_settle_119 ?_
        refine x_istore_n C [(3, .int (nI (1 + (si (i + 1))))), (6, .int (nI (tc_ol (kn i) (nu i) + (le (i + 1))))), (5, .int (nI (max l0 (la (i + 1))))), (4, .int (nI (max 0 (de (i + 1))))), (9, .int (nI (i + 1))), (8, .int (nI 0)), (7, .int (nI 2)), (0, .ref (a 0)), (1, .int (nI i)), (2, .int (nI (kn i)))] dS_settle_120 rfl (by decide) rfl ?_
        refine x_iinc (q := 5) C (nI 1) [(8, .int (nI 1)), (3, .int (nI (1 + (si (i + 1))))), (6, .int (nI (tc_ol (kn i) (nu i) + (le (i + 1))))), (5, .int (nI (max l0 (la (i + 1))))), (4, .int (nI (max 0 (de (i + 1))))), (9, .int (nI (i + 1))), (7, .int (nI 2)), (0, .ref (a 0)), (1, .int (nI i)), (2, .int (nI (kn i)))] dS_settle_121 rfl (by decide) (by decide) rfl ?_
        refine x_goto C 50 dS_settle_124 (by decide) ?_
        refine x_iload C dS_settle_50 0 rfl ?_
        refine x_iload C dS_settle_52 6 rfl ?_
        refine x_icmp_ge (tgt := 127) C dS_settle_54 (by decide) (fun h => absurd h (by decide)) (fun _ => ?_)
        refine x_iload_n C dS_settle_57 rfl 8 rfl ?_
        refine x_iload_n C dS_settle_58 rfl 1 rfl ?_
        refine x_iaddN C dS_settle_59 ?_
        refine x_sipush (v := nI 200) C dS_settle_60 (by decide) ?_
        refine x_icmp_geN (tgt := 127) C (by omega) (by decide) dS_settle_63 (by decide) (fun h63 => ?_) (fun h63 => ?_)
        ·
          exact absurd h63 (by omega)
        ·
          refine x_iload_n C dS_settle_66 rfl 8 rfl ?_
          refine x_iload_n C dS_settle_67 rfl 1 rfl ?_
          refine x_iaddN C dS_settle_68 ?_
          refine x_istore C [(9, .int (nI (i + (1 + (si (i + 1)))))), (8, .int (nI 1)), (3, .int (nI (1 + (si (i + 1))))), (6, .int (nI (tc_ol (kn i) (nu i) + (le (i + 1))))), (5, .int (nI (max l0 (la (i + 1))))), (4, .int (nI (max 0 (de (i + 1))))), (7, .int (nI 2)), (0, .ref (a 0)), (1, .int (nI i)), (2, .int (nI (kn i)))] dS_settle_69 (by decide) rfl ?_
          refine x_iload C dS_settle_71 5 rfl ?_
          refine x_aload_n C dS_settle_73 rfl 7 rfl ?_
          refine x_get C fgS_25 0 rfl rfl dS_settle_74 ?_
          refine x_iload C dS_settle_77 0 rfl ?_
          refine x_ild C 5 4 rfl rfl (by omega) (by decide) dS_settle_79 ?_
          show xk_Go K D 10 0 0 (tc_wS a ca kn nu wo si de la le ro tm nd) [(9, .int (nI (i + (1 + (si (i + 1)))))), (8, .int (nI 1)), (3, .int (nI (1 + (si (i + 1))))), (6, .int (nI (tc_ol (kn i) (nu i) + (le (i + 1))))), (5, .int (nI (max l0 (la (i + 1))))), (4, .int (nI (max 0 (de (i + 1))))), (7, .int (nI 2)), (0, .ref (a 0)), (1, .int (nI i)), (2, .int (nI (kn i)))] 80 [.int (nI (de (i + (1 + (si (i + 1)))))), .int (nI (max 0 (de (i + 1))))]
          refine x_max C kmS_111 (by omega) (by omega) (by decide) (Nat.le_of_ble_eq_true rfl) (Nat.le_of_ble_eq_true rfl) (Nat.le_of_ble_eq_true rfl) dS_settle_80 ?_
          refine x_istore C [(4, .int (nI (max (max 0 (de (i + 1))) (de (i + (1 + (si (i + 1)))))))), (9, .int (nI (i + (1 + (si (i + 1)))))), (8, .int (nI 1)), (3, .int (nI (1 + (si (i + 1))))), (6, .int (nI (tc_ol (kn i) (nu i) + (le (i + 1))))), (5, .int (nI (max l0 (la (i + 1))))), (7, .int (nI 2)), (0, .ref (a 0)), (1, .int (nI i)), (2, .int (nI (kn i)))] dS_settle_83 (by decide) rfl ?_
          refine x_iload C dS_settle_85 5 rfl ?_
          refine x_aload_n C dS_settle_87 rfl 7 rfl ?_
          refine x_get C fgS_28 0 rfl rfl dS_settle_88 ?_
          refine x_iload C dS_settle_91 1 rfl ?_
          refine x_ild C 6 5 rfl rfl (by omega) (by decide) dS_settle_93 ?_
          show xk_Go K D 10 0 0 (tc_wS a ca kn nu wo si de la le ro tm nd) [(4, .int (nI (max (max 0 (de (i + 1))) (de (i + (1 + (si (i + 1)))))))), (9, .int (nI (i + (1 + (si (i + 1)))))), (8, .int (nI 1)), (3, .int (nI (1 + (si (i + 1))))), (6, .int (nI (tc_ol (kn i) (nu i) + (le (i + 1))))), (5, .int (nI (max l0 (la (i + 1))))), (7, .int (nI 2)), (0, .ref (a 0)), (1, .int (nI i)), (2, .int (nI (kn i)))] 94 [.int (nI (la (i + (1 + (si (i + 1)))))), .int (nI (max l0 (la (i + 1))))]
          refine x_max C kmS_111 (by omega) (by omega) (by decide) (Nat.le_of_ble_eq_true rfl) (Nat.le_of_ble_eq_true rfl) (Nat.le_of_ble_eq_true rfl) dS_settle_94 ?_
          refine x_istore C [(5, .int (nI (max (max l0 (la (i + 1))) (la (i + (1 + (si (i + 1)))))))), (4, .int (nI (max (max 0 (de (i + 1))) (de (i + (1 + (si (i + 1)))))))), (9, .int (nI (i + (1 + (si (i + 1)))))), (8, .int (nI 1)), (3, .int (nI (1 + (si (i + 1))))), (6, .int (nI (tc_ol (kn i) (nu i) + (le (i + 1))))), (7, .int (nI 2)), (0, .ref (a 0)), (1, .int (nI i)), (2, .int (nI (kn i)))] dS_settle_97 (by decide) rfl ?_
          refine x_iload C dS_settle_99 5 rfl ?_
          refine x_aload_n C dS_settle_101 rfl 7 rfl ?_
          refine x_get C fgS_31 0 rfl rfl dS_settle_102 ?_
          refine x_iload C dS_settle_105 2 rfl ?_
          refine x_ild C 7 6 rfl rfl (by omega) (by decide) dS_settle_107 ?_
          show xk_Go K D 10 0 0 (tc_wS a ca kn nu wo si de la le ro tm nd) [(5, .int (nI (max (max l0 (la (i + 1))) (la (i + (1 + (si (i + 1)))))))), (4, .int (nI (max (max 0 (de (i + 1))) (de (i + (1 + (si (i + 1)))))))), (9, .int (nI (i + (1 + (si (i + 1)))))), (8, .int (nI 1)), (3, .int (nI (1 + (si (i + 1))))), (6, .int (nI (tc_ol (kn i) (nu i) + (le (i + 1))))), (7, .int (nI 2)), (0, .ref (a 0)), (1, .int (nI i)), (2, .int (nI (kn i)))] 108 [.int (nI (le (i + (1 + (si (i + 1)))))), .int (nI (tc_ol (kn i) (nu i) + (le (i + 1))))]
          refine x_iaddN C dS_settle_108 ?_
          refine x_istore C [(6, .int (nI (tc_ol (kn i) (nu i) + (le (i + 1)) + (le (i + (1 + (si (i + 1)))))))), (5, .int (nI (max (max l0 (la (i + 1))) (la (i + (1 + (si (i + 1)))))))), (4, .int (nI (max (max 0 (de (i + 1))) (de (i + (1 + (si (i + 1)))))))), (9, .int (nI (i + (1 + (si (i + 1)))))), (8, .int (nI 1)), (3, .int (nI (1 + (si (i + 1))))), (7, .int (nI 2)), (0, .ref (a 0)), (1, .int (nI i)), (2, .int (nI (kn i)))] dS_settle_109 (by decide) rfl ?_
          refine x_iload_n C dS_settle_111 rfl 5 rfl ?_
          refine x_aload_n C dS_settle_112 rfl 7 rfl ?_
          refine x_get C fgS_22 0 rfl rfl dS_settle_113 ?_
          refine x_iload C dS_settle_116 3 rfl ?_
          refine x_ild C 4 3 rfl rfl (by omega) (by decide) dS_settle_118 ?_
          show xk_Go K D 10 0 0 (tc_wS a ca kn nu wo si de la le ro tm nd) [(6, .int (nI (tc_ol (kn i) (nu i) + (le (i + 1)) + (le (i + (1 + (si (i + 1)))))))), (5, .int (nI (max (max l0 (la (i + 1))) (la (i + (1 + (si (i + 1)))))))), (4, .int (nI (max (max 0 (de (i + 1))) (de (i + (1 + (si (i + 1)))))))), (9, .int (nI (i + (1 + (si (i + 1)))))), (8, .int (nI 1)), (3, .int (nI (1 + (si (i + 1))))), (7, .int (nI 2)), (0, .ref (a 0)), (1, .int (nI i)), (2, .int (nI (kn i)))] 119 [.int (nI (si (i + (1 + (si (i + 1)))))), .int (nI (1 + (si (i + 1))))]
          refine x_iaddN C dS_settle_119 ?_
          refine x_istore_n C [(3, .int (nI (1 + (si (i + 1)) + (si (i + (1 + (si (i + 1)))))))), (6, .int (nI (tc_ol (kn i) (nu i) + (le (i + 1)) + (le (i + (1 + (si (i + 1)))))))), (5, .int (nI (max (max l0 (la (i + 1))) (la (i + (1 + (si (i + 1)))))))), (4, .int (nI (max (max 0 (de (i + 1))) (de (i + (1 + (si (i + 1)))))))), (9, .int (nI (i + (1 + (si (i + 1)))))), (8, .int (nI 1)), (7, .int (nI 2)), (0, .ref (a 0)), (1, .int (nI i)), (2, .int (nI (kn i)))] dS_settle_120 rfl (by decide) rfl ?_
          refine x_iinc (q := 5) C (nI 2) [(8, .int (nI 2)), (3, .int (nI (1 + (si (i + 1)) + (si (i + (1 + (si (i + 1)))))))), (6, .int (nI (tc_ol (kn i) (nu i) + (le (i + 1)) + (le (i + (1 + (si (i + 1)))))))), (5, .int (nI (max (max l0 (la (i + 1))) (la (i + (1 + (si (i + 1)))))))), (4, .int (nI (max (max 0 (de (i + 1))) (de (i + (1 + (si (i + 1)))))))), (9, .int (nI (i + (1 + (si (i + 1)))))), (7, .int (nI 2)), (0, .ref (a 0)), (1, .int (nI i)), (2, .int (nI (kn i)))] dS_settle_121 rfl (by decide) (by decide) rfl ?_
          refine x_goto C 50 dS_settle_124 (by decide) ?_
          refine x_iload C dS_settle_50 0 rfl ?_
          refine x_iload C dS_settle_52 6 rfl ?_
          refine x_icmp_ge (tgt := 127) C dS_settle_54 (by decide) (fun _ => ?_) (fun h => absurd (by decide) h)
          exact x_sub [7, 8, 9, 1, 4, 3, 2] rfl (jn127 (1 + (si (i + 1)) + (si (i + (1 + (si (i + 1)))))) (max (max 0 (de (i + 1))) (de (i + (1 + (si (i + 1)))))) (max (max l0 (la (i + 1))) (la (i + (1 + (si (i + 1)))))) (tc_ol (kn i) (nu i) + (le (i + 1)) + (le (i + (1 + (si (i + 1)))))) (by rw [tc_chs_2 hk]; show _ = 1 + (si (i + 1) + (si (i + (1 + si (i + 1))) + 0)); omega) (by rw [tc_chs_2 hk]; show _ = 1 + max (de (i + 1)) (max (de (i + (1 + si (i + 1)))) 0); omega) (by rw [tc_chs_2 hk]; show _ = max l0 (max (la (i + 1)) (max (la (i + (1 + si (i + 1)))) 0)); omega) (by rw [tc_chs_2 hk]; show _ = tc_ol _ _ + (le (i + 1) + (le (i + (1 + si (i + 1))) + 0)); omega) (by omega))
  refine x_iload_n C dS_settle_12 rfl 2 rfl ?_
  refine x_if_neN (tgt := 26) C (by omega) dS_settle_13 (by decide) (fun h13 => ?_) (fun h13 => ?_)
  ·
    refine x_iconst (v := nI 0) C dS_settle_26 (by decide) ?_
    refine x_istore C [(5, .int (nI 0)), (4, .int (nI 0)), (3, .int (nI 1)), (2, .int (nI (kn i))), (0, .ref (a 0)), (1, .int (nI i))] dS_settle_27 (by decide) rfl ?_
    exact x_sub [4, 5, 3, 2, 1, 0] rfl (jn29 0 (by rw [if_neg h13]) (by omega))
  ·
    refine x_aload_n C dS_settle_16 rfl 3 rfl ?_
    refine x_get C fgS_15 0 rfl rfl dS_settle_17 ?_
    refine x_iload_n C dS_settle_20 rfl 4 rfl ?_
    refine x_lld C 2 1 rfl rfl (by omega) (by decide) dS_settle_21 ?_
    refine x_l2i (v := nI v) C dS_settle_22 (by rw [(y3 (Or.inl h13)).1]; exact lN_i v) ?_
    refine x_goto C 27 dS_settle_23 (by decide) ?_
    refine x_istore C [(5, .int (nI v)), (4, .int (nI 0)), (3, .int (nI 1)), (2, .int (nI (kn i))), (0, .ref (a 0)), (1, .int (nI i))] dS_settle_27 (by decide) rfl ?_
    exact x_sub [4, 5, 3, 2, 1, 0] rfl (jn29 v (by rw [if_pos h13, (y3 (Or.inl h13)).1, pk_lT (by have := (y3 (Or.inl h13)).2; omega), Int.toNat_natCast]) ((y3 (Or.inl h13)).2))
end
section
set_option maxHeartbeats 4000000 in
set_option maxRecDepth 100000 in
/-- removeLast -/
theorem c_S_removeLast (D : va_G) (a : Nat → Nat) (ca : Nat → ClassId) (kn : Nat → Nat) (nu : Nat → Int64) (wo : Nat → Int64) (si : Nat → Nat) (de : Nat → Nat) (la : Nat → Nat) (le : Nat → Nat) (ro : Nat → Nat) (tm : Nat) (nd : Nat) (Ts : List (List tc_Nd)) (y1 : tc_RS Ts (kn, nu, wo, si, de, la, le) ro tm nd) : xk_Ct yS_removeLast cS_removeLast 2 (some .boolean) { frames := 1, cells := 0, slots := 0, locals := 20 } D (tc_tS ca) [.ref (a 0)] (tc_wS a ca kn nu wo si de la le ro tm nd) (fun rv ru => (rv = some (.int (nI 0)) ∧ ru = tc_wS a ca kn nu wo si de la le ro tm nd ∧ (Ts = [])) ∨ (∃ (t : List tc_Nd), ∃ (R : List (List tc_Nd)), rv = some (.int (nI 1)) ∧ ru = tc_wS a ca kn nu wo si de la le ro (tm - 1) (ro (tm - 1)) ∧ (Ts = t :: R) ∧ (tc_RS R (kn, nu, wo, si, de, la, le) ro (tm - 1) (ro (tm - 1))))) := by
  refine xk_enter (by decide) (Nat.le_of_ble_eq_true rfl) (fun K C T hin => ?_)
  show xk_Go K D 2 0 0 (tc_wS a ca kn nu wo si de la le ro tm nd) [(0, .ref (a 0))] 0 []
  refine x_aload_n C dS_removeLast_0 rfl 0 rfl ?_
  refine x_callV C (c_S_lastRoot D a ca kn nu wo si de la le ro tm nd ((tc_RS_tm y1).1)) kbS_44 kcS_44 [0, 1, 2, 3, 4, 5, 6, 7, 8] [] [0, 1, 2, 3, 4, 5, 6, 7] ([]) rfl rfl (by decide) (by decide) (by decide) rfl 0 rfl rfl ⟨Nat.le_of_ble_eq_true rfl, Nat.le_of_ble_eq_true rfl⟩ ⟨Nat.le_of_ble_eq_true rfl, Nat.le_of_ble_eq_true rfl⟩ [] rfl rfl (Nat.le_of_ble_eq_true rfl) dS_removeLast_1 (fun rv ru hw => ?_)
  rcases hw with ⟨rfl, rfl, g1⟩ | ⟨rfl, rfl, g1⟩
  ·
    show xk_Go K D 2 0 0 (tc_wS a ca kn nu wo si de la le ro tm nd) [(0, .ref (a 0))] 4 [.int (xk_oI none)]
    refine x_istore_n C [(1, .int (xk_oI none)), (0, .ref (a 0))] dS_removeLast_4 rfl (by decide) rfl ?_
    refine x_iload_n C dS_removeLast_5 rfl 0 rfl ?_
    refine x_if_ge (tgt := 11) C dS_removeLast_6 (by decide) (fun h => absurd h (by decide)) (fun _ => ?_)
    refine x_iconst (v := nI 0) C dS_removeLast_9 (by decide) ?_
    exact x_iret C T .boolean rfl rfl dS_removeLast_10 (Or.inl (⟨rfl, rfl, (tc_RS_nil y1 g1)⟩))
  ·
    show xk_Go K D 2 0 0 (tc_wS a ca kn nu wo si de la le ro tm nd) [(0, .ref (a 0))] 4 [.int (nI (ro (tm - 1)))]
    obtain ⟨t, R, rfl⟩ := tc_RS_cons y1 g1
    obtain ⟨z1, z2, z3, z4, z5, z6, z7, z8, z9, z10, z11, z12⟩ := tc_top y1
    have zs : si (ro (tm - 1)) = t.length := by rw [z2]; exact z9
    refine x_istore_n C [(1, .int (nI (ro (tm - 1)))), (0, .ref (a 0))] dS_removeLast_4 rfl (by decide) rfl ?_
    refine x_iload_n C dS_removeLast_5 rfl 0 rfl ?_
    refine x_if_geN (tgt := 11) C (by omega) dS_removeLast_6 (by decide) ?_
    refine x_aload_n C dS_removeLast_11 rfl 1 rfl ?_
    refine x_iload_n C dS_removeLast_12 rfl 0 rfl ?_
    refine x_put C fpS_41 0 (tc_wS a ca kn nu wo si de la le ro tm (ro (tm - 1))) rfl rfl rfl rfl (Nat.le_of_ble_eq_true rfl) dS_removeLast_13 ?_
    refine x_aload_n C dS_removeLast_16 rfl 1 rfl ?_
    refine x_dup C dS_removeLast_17 rfl ?_
    refine x_get C fgS_37 0 rfl rfl dS_removeLast_18 ?_
    refine x_iconst (v := nI 1) C dS_removeLast_21 (by decide) ?_
    refine x_isubN C (by omega) dS_removeLast_22 ?_
    refine x_put C fpS_37 0 (tc_wS a ca kn nu wo si de la le ro (tm - 1) (ro (tm - 1))) rfl rfl rfl rfl (Nat.le_of_ble_eq_true rfl) dS_removeLast_23 ?_
    refine x_iconst (v := nI 1) C dS_removeLast_26 (by decide) ?_
    exact x_iret C T .boolean rfl rfl dS_removeLast_27 (Or.inr (⟨_, _, rfl, rfl, rfl, (tc_RS_tail y1)⟩))
set_option maxHeartbeats 4000000 in
set_option maxRecDepth 100000 in
/-- repeatLast -/
theorem c_S_repeatLast (D : va_G) (a : Nat → Nat) (ca : Nat → ClassId) (kn : Nat → Nat) (nu : Nat → Int64) (wo : Nat → Int64) (si : Nat → Nat) (de : Nat → Nat) (la : Nat → Nat) (le : Nat → Nat) (ro : Nat → Nat) (tm : Nat) (nd : Nat) (Ts : List (List tc_Nd)) (y1 : tc_RS Ts (kn, nu, wo, si, de, la, le) ro tm nd) : xk_Ct yS_repeatLast cS_repeatLast 2 (some .boolean) { frames := 2, cells := 0, slots := 0, locals := 123 } D (tc_tS ca) [.ref (a 0)] (tc_wS a ca kn nu wo si de la le ro tm nd) (fun rv ru => (rv = some (.int (nI 0)) ∧ ru = tc_wS a ca kn nu wo si de la le ro tm nd ∧ (tc_dup Ts = none)) ∨ (∃ (kg : Nat → Nat), ∃ (ug : Nat → Int64), ∃ (wg : Nat → Int64), ∃ (sg : Nat → Nat), ∃ (dg : Nat → Nat), ∃ (lg : Nat → Nat), ∃ (eg : Nat → Nat), ∃ (rg : Nat → Nat), ∃ (tg : Nat), ∃ (ng : Nat), ∃ (Tn : List (List tc_Nd)), rv = some (.int (nI 1)) ∧ ru = tc_wS a ca kg ug wg sg dg lg eg rg tg ng ∧ (tc_dup Ts = some Tn) ∧ (tc_RS Tn (kg, ug, wg, sg, dg, lg, eg) rg tg ng))) := by
  refine xk_enter (by decide) (Nat.le_of_ble_eq_true rfl) (fun K C T hin => ?_)
  show xk_Go K D 2 0 0 (tc_wS a ca kn nu wo si de la le ro tm nd) [(0, .ref (a 0))] 0 []
  refine x_aload_n C dS_repeatLast_0 rfl 0 rfl ?_
  refine x_callV C (c_S_lastRoot D a ca kn nu wo si de la le ro tm nd ((tc_RS_tm y1).1)) kbS_44 kcS_44 [0, 1, 2, 3, 4, 5, 6, 7, 8] [] [0, 1, 2, 3, 4, 5, 6, 7] ([]) rfl rfl (by decide) (by decide) (by decide) rfl 0 rfl rfl ⟨Nat.le_of_ble_eq_true rfl, Nat.le_of_ble_eq_true rfl⟩ ⟨Nat.le_of_ble_eq_true rfl, Nat.le_of_ble_eq_true rfl⟩ [] rfl rfl (Nat.le_of_ble_eq_true rfl) dS_repeatLast_1 (fun rv ru hw => ?_)
  rcases hw with ⟨rfl, rfl, g1⟩ | ⟨rfl, rfl, g1⟩
  ·
    show xk_Go K D 2 0 0 (tc_wS a ca kn nu wo si de la le ro tm nd) [(0, .ref (a 0))] 4 [.int (xk_oI none)]
    refine x_istore_n C [(1, .int (xk_oI none)), (0, .ref (a 0))] dS_repeatLast_4 rfl (by decide) rfl ?_
    refine x_iload_n C dS_repeatLast_5 rfl 0 rfl ?_
    refine x_if_lt (tgt := 26) C dS_repeatLast_6 (by decide) (fun _ => ?_) (fun h => absurd (by decide) h)
    refine x_iconst (v := nI 0) C dS_repeatLast_26 (by decide) ?_
    exact x_iret C T .boolean rfl rfl dS_repeatLast_27 (Or.inl (⟨rfl, rfl, (by rw [tc_RS_nil y1 g1]; rfl)⟩))
  ·
    show xk_Go K D 2 0 0 (tc_wS a ca kn nu wo si de la le ro tm nd) [(0, .ref (a 0))] 4 [.int (nI (ro (tm - 1)))]
    obtain ⟨t, R, rfl⟩ := tc_RS_cons y1 g1
    obtain ⟨z1, z2, z3, z4, z5, z6, z7, z8, z9, z10, z11, z12⟩ := tc_top y1
    have zs : si (ro (tm - 1)) = t.length := by rw [z2]; exact z9
    refine x_istore_n C [(1, .int (nI (ro (tm - 1)))), (0, .ref (a 0))] dS_repeatLast_4 rfl (by decide) rfl ?_
    refine x_iload_n C dS_repeatLast_5 rfl 0 rfl ?_
    refine x_if_ltN (tgt := 26) C (by omega) dS_repeatLast_6 (by decide) ?_
    refine x_aload_n C dS_repeatLast_9 rfl 1 rfl ?_
    refine x_get C fgS_22 0 rfl rfl dS_repeatLast_10 ?_
    refine x_iload_n C dS_repeatLast_13 rfl 0 rfl ?_
    refine x_ild C 4 3 rfl rfl (by omega) (by decide) dS_repeatLast_14 ?_
    show xk_Go K D 2 0 0 (tc_wS a ca kn nu wo si de la le ro tm nd) [(1, .int (nI (ro (tm - 1)))), (0, .ref (a 0))] 15 [.int (nI (si (ro (tm - 1))))]
    refine x_sipush (v := nI 200) C dS_repeatLast_15 (by decide) ?_
    refine x_aload_n C dS_repeatLast_18 rfl 1 rfl ?_
    refine x_get C fgS_41 0 rfl rfl dS_repeatLast_19 ?_
    refine x_isubN C (by omega) dS_repeatLast_22 ?_
    refine x_icmp_leN (tgt := 28) C (by omega) (by omega) dS_repeatLast_23 (by decide) (fun h23 => ?_) (fun h23 => ?_)
    ·
      refine x_aload_n C dS_repeatLast_28 rfl 1 rfl ?_
      refine x_iload_n C dS_repeatLast_29 rfl 0 rfl ?_
      refine x_aload_n C dS_repeatLast_30 rfl 1 rfl ?_
      refine x_get C fgS_41 0 rfl rfl dS_repeatLast_31 ?_
      refine x_aload_n C dS_repeatLast_34 rfl 1 rfl ?_
      refine x_get C fgS_22 0 rfl rfl dS_repeatLast_35 ?_
      refine x_iload_n C dS_repeatLast_38 rfl 0 rfl ?_
      refine x_ild C 4 3 rfl rfl (by omega) (by decide) dS_repeatLast_39 ?_
      show xk_Go K D 2 0 0 (tc_wS a ca kn nu wo si de la le ro tm nd) [(1, .int (nI (ro (tm - 1)))), (0, .ref (a 0))] 40 [.int (nI (si (ro (tm - 1)))), .int (nI nd), .int (nI (ro (tm - 1))), .ref (a 0)]
      refine x_callV C (c_S_copyNodes D a ca kn nu wo si de la le ro tm nd (ro (tm - 1)) nd (si (ro (tm - 1))) (by omega) (by omega)) kbS_62 kcS_62 [0, 1, 2, 3, 4, 5, 6, 7, 8] [] [0, 1, 2, 3, 4, 5, 6, 7] ([]) rfl rfl (by decide) (by decide) (by decide) rfl 0 rfl rfl ⟨Nat.le_of_ble_eq_true rfl, Nat.le_of_ble_eq_true rfl⟩ ⟨Nat.le_of_ble_eq_true rfl, Nat.le_of_ble_eq_true rfl⟩ [] rfl rfl (Nat.le_of_ble_eq_true rfl) dS_repeatLast_40 (fun rv ru hw => ?_)
      obtain ⟨rfl, rfl⟩ := hw
      show xk_Go K D 2 0 0 (tc_wS a ca (va_cpy kn kn (ro (tm - 1)) nd (si (ro (tm - 1)))) (va_cpy nu nu (ro (tm - 1)) nd (si (ro (tm - 1)))) (va_cpy wo wo ((ro (tm - 1)) * 8) (nd * 8) ((si (ro (tm - 1))) * 8)) (va_cpy si si (ro (tm - 1)) nd (si (ro (tm - 1)))) (va_cpy de de (ro (tm - 1)) nd (si (ro (tm - 1)))) (va_cpy la la (ro (tm - 1)) nd (si (ro (tm - 1)))) (va_cpy le le (ro (tm - 1)) nd (si (ro (tm - 1)))) ro tm nd) [(1, .int (nI (ro (tm - 1)))), (0, .ref (a 0))] 43 []
      refine x_aload_n C dS_repeatLast_43 rfl 1 rfl ?_
      refine x_aload_n C dS_repeatLast_44 rfl 1 rfl ?_
      refine x_get C fgS_41 0 rfl rfl dS_repeatLast_45 ?_
      refine x_callV C (c_S_pushTerm D a ca (va_cpy kn kn (ro (tm - 1)) nd (si (ro (tm - 1)))) (va_cpy nu nu (ro (tm - 1)) nd (si (ro (tm - 1)))) (va_cpy wo wo ((ro (tm - 1)) * 8) (nd * 8) ((si (ro (tm - 1))) * 8)) (va_cpy si si (ro (tm - 1)) nd (si (ro (tm - 1)))) (va_cpy de de (ro (tm - 1)) nd (si (ro (tm - 1)))) (va_cpy la la (ro (tm - 1)) nd (si (ro (tm - 1)))) (va_cpy le le (ro (tm - 1)) nd (si (ro (tm - 1)))) ro tm nd nd (by omega)) kbS_80 kcS_80 [0, 1, 2, 3, 4, 5, 6, 7, 8] [] [0, 1, 2, 3, 4, 5, 6, 7] ([]) rfl rfl (by decide) (by decide) (by decide) rfl 0 rfl rfl ⟨Nat.le_of_ble_eq_true rfl, Nat.le_of_ble_eq_true rfl⟩ ⟨Nat.le_of_ble_eq_true rfl, Nat.le_of_ble_eq_true rfl⟩ [] rfl rfl (Nat.le_of_ble_eq_true rfl) dS_repeatLast_48 (fun rv ru hw => ?_)
      obtain ⟨rfl, rfl⟩ := hw
      show xk_Go K D 2 0 0 (tc_wS a ca (va_cpy kn kn (ro (tm - 1)) nd (si (ro (tm - 1)))) (va_cpy nu nu (ro (tm - 1)) nd (si (ro (tm - 1)))) (va_cpy wo wo ((ro (tm - 1)) * 8) (nd * 8) ((si (ro (tm - 1))) * 8)) (va_cpy si si (ro (tm - 1)) nd (si (ro (tm - 1)))) (va_cpy de de (ro (tm - 1)) nd (si (ro (tm - 1)))) (va_cpy la la (ro (tm - 1)) nd (si (ro (tm - 1)))) (va_cpy le le (ro (tm - 1)) nd (si (ro (tm - 1)))) (va_up ro tm nd) (tm + 1) nd) [(1, .int (nI (ro (tm - 1)))), (0, .ref (a 0))] 51 []
      refine x_aload_n C dS_repeatLast_51 rfl 1 rfl ?_
      refine x_dup C dS_repeatLast_52 rfl ?_
      refine x_get C fgS_41 0 rfl rfl dS_repeatLast_53 ?_
      refine x_aload_n C dS_repeatLast_56 rfl 1 rfl ?_
      refine x_get C fgS_22 0 rfl rfl dS_repeatLast_57 ?_
      refine x_iload_n C dS_repeatLast_60 rfl 0 rfl ?_
      refine x_ild C 4 3 rfl rfl (by omega) (by decide) dS_repeatLast_61 ?_
      show xk_Go K D 2 0 0 (tc_wS a ca (va_cpy kn kn (ro (tm - 1)) nd (si (ro (tm - 1)))) (va_cpy nu nu (ro (tm - 1)) nd (si (ro (tm - 1)))) (va_cpy wo wo ((ro (tm - 1)) * 8) (nd * 8) ((si (ro (tm - 1))) * 8)) (va_cpy si si (ro (tm - 1)) nd (si (ro (tm - 1)))) (va_cpy de de (ro (tm - 1)) nd (si (ro (tm - 1)))) (va_cpy la la (ro (tm - 1)) nd (si (ro (tm - 1)))) (va_cpy le le (ro (tm - 1)) nd (si (ro (tm - 1)))) (va_up ro tm nd) (tm + 1) nd) [(1, .int (nI (ro (tm - 1)))), (0, .ref (a 0))] 62 [.int (nI ((va_cpy si si (ro (tm - 1)) nd (si (ro (tm - 1)))) (ro (tm - 1)))), .int (nI nd), .ref (a 0)]
      refine x_iaddN C dS_repeatLast_62 ?_
      refine x_put C fpS_41 0 (tc_wS a ca (va_cpy kn kn (ro (tm - 1)) nd (si (ro (tm - 1)))) (va_cpy nu nu (ro (tm - 1)) nd (si (ro (tm - 1)))) (va_cpy wo wo ((ro (tm - 1)) * 8) (nd * 8) ((si (ro (tm - 1))) * 8)) (va_cpy si si (ro (tm - 1)) nd (si (ro (tm - 1)))) (va_cpy de de (ro (tm - 1)) nd (si (ro (tm - 1)))) (va_cpy la la (ro (tm - 1)) nd (si (ro (tm - 1)))) (va_cpy le le (ro (tm - 1)) nd (si (ro (tm - 1)))) (va_up ro tm nd) (tm + 1) (nd + ((va_cpy si si (ro (tm - 1)) nd (si (ro (tm - 1)))) (ro (tm - 1))))) rfl rfl rfl rfl (Nat.le_of_ble_eq_true rfl) dS_repeatLast_63 ?_
      refine x_iconst (v := nI 1) C dS_repeatLast_66 (by decide) ?_
      have zv : va_cpy si si (ro (tm - 1)) nd (si (ro (tm - 1))) (ro (tm - 1)) = si (ro (tm - 1)) := pk_cpy_out (by omega)
      exact x_iret C T .boolean rfl rfl dS_repeatLast_67 (Or.inr (⟨_, _, _, _, _, _, _, _, _, _, (t :: t :: R), rfl, rfl, (by show (if _ then _ else _) = _; rw [if_pos]; show (tc_cat (t :: R)).length + t.length ≤ 200; rw [← y1.2.2.1]; omega), (by rw [zv]; exact tc_dup_RS y1 z2 zs (by omega))⟩))
    ·
      refine x_iconst (v := nI 0) C dS_repeatLast_26 (by decide) ?_
      exact x_iret C T .boolean rfl rfl dS_repeatLast_27 (Or.inl (⟨rfl, rfl, (by show (if _ then _ else _) = none; rw [if_neg]; show ¬ ((tc_cat (t :: R)).length + t.length ≤ 200); rw [← y1.2.2.1]; omega)⟩))
end
section
set_option maxHeartbeats 4000000 in
set_option maxRecDepth 100000 in
/-- put -/
theorem c_S_put (D : va_G) (a : Nat → Nat) (ca : Nat → ClassId) (kn : Nat → Nat) (nu : Nat → Int64) (wo : Nat → Int64) (si : Nat → Nat) (de : Nat → Nat) (la : Nat → Nat) (le : Nat → Nat) (ro : Nat → Nat) (tm : Nat) (nd : Nat) (kd : Nat) (x : Int64) (Ts : List (List tc_Nd)) (y1 : tc_RS Ts (kn, nu, wo, si, de, la, le) ro tm nd) (y2 : kd = 0 ∨ kd = 1 ∨ kd = 2 ∨ kd = 3 ∨ kd = 4 ∨ kd = 5 ∨ kd = 6 ∨ kd = 7 ∨ kd = 8 ∨ kd = 9 ∨ kd = 10 ∨ kd = 11) (y3 : tc_fitP kd x) (y4 : kd = 8 → x = 0) : xk_Ct yS_put cS_put 6 (some .boolean) { frames := 3, cells := 0, slots := 0, locals := 123 } D (tc_tS ca) [.ref (a 0), .int (nI kd), .long x] (tc_wS a ca kn nu wo si de la le ro tm nd) (fun rv ru => (rv = some (.int (nI 0)) ∧ ru = tc_wS a ca kn nu wo si de la le ro tm nd ∧ (tc_put (kd, x, []) Ts = none)) ∨ (∃ (kg : Nat → Nat), ∃ (ug : Nat → Int64), ∃ (wg : Nat → Int64), ∃ (sg : Nat → Nat), ∃ (dg : Nat → Nat), ∃ (lg : Nat → Nat), ∃ (eg : Nat → Nat), ∃ (rg : Nat → Nat), ∃ (tg : Nat), ∃ (ng : Nat), ∃ (Tn : List (List tc_Nd)), rv = some (.int (nI 1)) ∧ ru = tc_wS a ca kg ug wg sg dg lg eg rg tg ng ∧ (tc_put (kd, x, []) Ts = some Tn) ∧ (tc_RS Tn (kg, ug, wg, sg, dg, lg, eg) rg tg ng))) := by
  refine xk_enter (by decide) (Nat.le_of_ble_eq_true rfl) (fun K C T hin => ?_)
  have yk : kd ≤ 11 := by omega
  have hx := tc_okn_of yk y3 y4
  obtain ⟨ytm, ytn⟩ := tc_RS_tm y1
  have ynd := y1.2.2.2.1
  show xk_Go K D 6 0 0 (tc_wS a ca kn nu wo si de la le ro tm nd) [(0, .ref (a 0)), (1, .int (nI kd)), (2, .long x)] 0 []
  refine x_iload_n C dS_put_0 rfl 1 rfl ?_
  refine x_callS C (c_F_partsOf D kd (by omega)) kbS_58 kcS_58 [] [0, 1, 2, 3, 4, 5, 6, 7, 8] [] (tc_wS a ca kn nu wo si de la le ro tm nd) rfl rfl (by decide) (by decide) (by decide) rfl ⟨Nat.le_of_ble_eq_true rfl, Nat.le_of_ble_eq_true rfl⟩ ⟨Nat.le_of_ble_eq_true rfl, Nat.le_of_ble_eq_true rfl⟩ [] rfl rfl (Nat.le_of_ble_eq_true rfl) dS_put_1 (fun rv ru hw => ?_)
  obtain ⟨rfl, rfl⟩ := hw
  show xk_Go K D 6 0 0 (tc_wS a ca kn nu wo si de la le ro tm nd) [(0, .ref (a 0)), (1, .int (nI kd)), (2, .long x)] 4 [.int (nI (tc_tk kd))]
  rcases tc_tk3 kd with hk | hk | hk
  ·
    rw [hk]
    refine x_istore C [(4, .int (nI 0)), (0, .ref (a 0)), (1, .int (nI kd)), (2, .long x)] dS_put_4 (by decide) rfl ?_
    refine x_aload_n C dS_put_6 rfl 1 rfl ?_
    refine x_get C fgS_37 0 rfl rfl dS_put_7 ?_
    refine x_iload C dS_put_10 0 rfl ?_
    refine x_icmp_ltN (tgt := 25) C (by omega) (by decide) dS_put_12 (by decide) (fun h12 => ?_) (fun h12 => ?_)
    ·
      refine x_iconst (v := nI 0) C dS_put_25 (by decide) ?_
      exact x_iret C T .boolean rfl rfl dS_put_26 (Or.inl (⟨rfl, rfl, (tc_put_none hk (by first | exact Or.inl (by have := y1.2.1; omega) | exact Or.inr (by have := y1.2.2.1; omega)))⟩))
    ·
      refine x_aload_n C dS_put_15 rfl 1 rfl ?_
      refine x_get C fgS_41 0 rfl rfl dS_put_16 ?_
      refine x_sipush (v := nI 200) C dS_put_19 (by decide) ?_
      refine x_icmp_ltN (tgt := 27) C (by omega) (by decide) dS_put_22 (by decide) (fun h22 => ?_) (fun h22 => ?_)
      ·
        refine x_aload_n C dS_put_27 rfl 1 rfl ?_
        refine x_get C fgS_37 0 rfl rfl dS_put_28 ?_
        refine x_iload C dS_put_31 0 rfl ?_
        refine x_isubN C (by omega) dS_put_33 ?_
        refine x_istore C [(5, .int (nI (tm - 0))), (4, .int (nI 0)), (0, .ref (a 0)), (1, .int (nI kd)), (2, .long x)] dS_put_34 (by decide) rfl ?_
        refine x_iload C dS_put_36 0 rfl ?_
        refine x_aload_n C dS_put_38 rfl 2 rfl ?_
        refine x_get C fgS_37 0 rfl rfl dS_put_39 ?_
        refine x_icmp_geN (tgt := 70) C (by omega) (by omega) dS_put_42 (by decide) (fun h42 => ?_) (fun h42 => ?_)
        ·
          refine x_iload C dS_put_70 1 rfl ?_
          refine x_if_ne (tgt := 82) C dS_put_72 (by decide) (fun h => absurd (by decide) h) (fun _ => ?_)
          refine x_aload_n C dS_put_75 rfl 2 rfl ?_
          refine x_get C fgS_41 0 rfl rfl dS_put_76 ?_
          refine x_goto C 94 dS_put_79 (by decide) ?_
          refine x_istore C [(5, .int (nI nd)), (4, .int (nI 0)), (0, .ref (a 0)), (1, .int (nI kd)), (2, .long x)] dS_put_94 (by decide) rfl ?_
          refine x_aload_n C dS_put_96 rfl 2 rfl ?_
          refine x_iload C dS_put_97 0 rfl ?_
          refine x_iload C dS_put_99 0 rfl ?_
          refine x_iconst (v := nI 1) C dS_put_101 (by decide) ?_
          refine x_iaddN C dS_put_102 ?_
          refine x_aload_n C dS_put_103 rfl 2 rfl ?_
          refine x_get C fgS_41 0 rfl rfl dS_put_104 ?_
          refine x_iload C dS_put_107 0 rfl ?_
          refine x_isubN C (by omega) dS_put_109 ?_
          refine x_callV C (c_S_copyNodes D a ca kn nu wo si de la le ro tm nd nd (nd + 1) (nd - nd) (by omega) (by omega)) kbS_62 kcS_62 [0, 1, 2, 3, 4, 5, 6, 7, 8] [] [0, 1, 2, 3, 4, 5, 6, 7] ([]) rfl rfl (by decide) (by decide) (by decide) rfl 0 rfl rfl ⟨Nat.le_of_ble_eq_true rfl, Nat.le_of_ble_eq_true rfl⟩ ⟨Nat.le_of_ble_eq_true rfl, Nat.le_of_ble_eq_true rfl⟩ [] rfl rfl (Nat.le_of_ble_eq_true rfl) dS_put_110 (fun rv ru hw => ?_)
          obtain ⟨rfl, rfl⟩ := hw
          show xk_Go K D 6 0 0 (tc_wS a ca (va_cpy kn kn nd (nd + 1) (nd - nd)) (va_cpy nu nu nd (nd + 1) (nd - nd)) (va_cpy wo wo (nd * 8) ((nd + 1) * 8) ((nd - nd) * 8)) (va_cpy si si nd (nd + 1) (nd - nd)) (va_cpy de de nd (nd + 1) (nd - nd)) (va_cpy la la nd (nd + 1) (nd - nd)) (va_cpy le le nd (nd + 1) (nd - nd)) ro tm nd) [(5, .int (nI nd)), (4, .int (nI 0)), (0, .ref (a 0)), (1, .int (nI kd)), (2, .long x)] 113 []
          refine x_aload_n C dS_put_113 rfl 2 rfl ?_
          refine x_iload C dS_put_114 0 rfl ?_
          refine x_iload_n C dS_put_116 rfl 3 rfl ?_
          refine x_lload_n C dS_put_117 rfl 4 rfl ?_
          refine x_callV C (c_S_setNode D a ca (va_cpy kn kn nd (nd + 1) (nd - nd)) (va_cpy nu nu nd (nd + 1) (nd - nd)) (va_cpy wo wo (nd * 8) ((nd + 1) * 8) ((nd - nd) * 8)) (va_cpy si si nd (nd + 1) (nd - nd)) (va_cpy de de nd (nd + 1) (nd - nd)) (va_cpy la la nd (nd + 1) (nd - nd)) (va_cpy le le nd (nd + 1) (nd - nd)) ro tm nd nd kd x (by omega)) kbS_66 kcS_66 [0, 1, 2, 3, 4, 5, 6, 7, 8] [] [0, 1, 2, 3, 4, 5, 6, 7] ([]) rfl rfl (by decide) (by decide) (by decide) rfl 0 rfl rfl ⟨Nat.le_of_ble_eq_true rfl, Nat.le_of_ble_eq_true rfl⟩ ⟨Nat.le_of_ble_eq_true rfl, Nat.le_of_ble_eq_true rfl⟩ [] rfl rfl (Nat.le_of_ble_eq_true rfl) dS_put_118 (fun rv ru hw => ?_)
          obtain ⟨rfl, rfl⟩ := hw
          show xk_Go K D 6 0 0 (tc_wS a ca (va_up (va_cpy kn kn nd (nd + 1) (nd - nd)) nd kd) (vp_updL (va_cpy nu nu nd (nd + 1) (nd - nd)) nd x) (va_cpy wo wo (nd * 8) ((nd + 1) * 8) ((nd - nd) * 8)) (va_cpy si si nd (nd + 1) (nd - nd)) (va_cpy de de nd (nd + 1) (nd - nd)) (va_cpy la la nd (nd + 1) (nd - nd)) (va_cpy le le nd (nd + 1) (nd - nd)) ro tm nd) [(5, .int (nI nd)), (4, .int (nI 0)), (0, .ref (a 0)), (1, .int (nI kd)), (2, .long x)] 121 []
          refine x_aload_n C dS_put_121 rfl 2 rfl ?_
          refine x_iload C dS_put_122 0 rfl ?_
          refine x_callV C (c_S_settle D a ca (va_up (va_cpy kn kn nd (nd + 1) (nd - nd)) nd kd) (vp_updL (va_cpy nu nu nd (nd + 1) (nd - nd)) nd x) (va_cpy wo wo (nd * 8) ((nd + 1) * 8) ((nd - nd) * 8)) (va_cpy si si nd (nd + 1) (nd - nd)) (va_cpy de de nd (nd + 1) (nd - nd)) (va_cpy la la nd (nd + 1) (nd - nd)) (va_cpy le le nd (nd + 1) (nd - nd)) ro tm nd nd x.toInt.toNat (by omega) (by simp only [va_up_self]; exact y2) (by simp only [va_up_self, pk_uLs]; exact tc_num_v y3 y4) (by simp only [va_up_self]; exact tc_put_ch (P := ([] : List tc_Nd)) (by simp) (show tc_AR (kn, nu, wo, si, de, la, le) nd [] from trivial) (by rw [hk]; rfl) (fun y hy => absurd hy List.not_mem_nil) (by omega))) kbS_70 kcS_70 [0, 1, 2, 3, 4, 5, 6, 7, 8] [] [0, 1, 2, 3, 4, 5, 6, 7] ([]) rfl rfl (by decide) (by decide) (by decide) rfl 0 rfl rfl ⟨Nat.le_of_ble_eq_true rfl, Nat.le_of_ble_eq_true rfl⟩ ⟨Nat.le_of_ble_eq_true rfl, Nat.le_of_ble_eq_true rfl⟩ [] rfl rfl (Nat.le_of_ble_eq_true rfl) dS_put_124 (fun rv ru hw => ?_)
          obtain ⟨s, dd, l, e, rfl, rfl, g1, g2, g3, g4⟩ := hw
          show xk_Go K D 6 0 0 (tc_wS a ca (va_up (va_cpy kn kn nd (nd + 1) (nd - nd)) nd kd) (vp_updL (va_cpy nu nu nd (nd + 1) (nd - nd)) nd x) (va_cpy wo wo (nd * 8) ((nd + 1) * 8) ((nd - nd) * 8)) (va_up (va_cpy si si nd (nd + 1) (nd - nd)) nd s) (va_up (va_cpy de de nd (nd + 1) (nd - nd)) nd dd) (va_up (va_cpy la la nd (nd + 1) (nd - nd)) nd l) (va_up (va_cpy le le nd (nd + 1) (nd - nd)) nd e) ro tm nd) [(5, .int (nI nd)), (4, .int (nI 0)), (0, .ref (a 0)), (1, .int (nI kd)), (2, .long x)] 127 []
          simp only [va_up_self, pk_uLs] at g1 g2 g3 g4
          refine x_aload_n C dS_put_127 rfl 2 rfl ?_
          refine x_dup C dS_put_128 rfl ?_
          refine x_get C fgS_41 0 rfl rfl dS_put_129 ?_
          refine x_iconst (v := nI 1) C dS_put_132 (by decide) ?_
          refine x_iaddN C dS_put_133 ?_
          refine x_put C fpS_41 0 (tc_wS a ca (va_up (va_cpy kn kn nd (nd + 1) (nd - nd)) nd kd) (vp_updL (va_cpy nu nu nd (nd + 1) (nd - nd)) nd x) (va_cpy wo wo (nd * 8) ((nd + 1) * 8) ((nd - nd) * 8)) (va_up (va_cpy si si nd (nd + 1) (nd - nd)) nd s) (va_up (va_cpy de de nd (nd + 1) (nd - nd)) nd dd) (va_up (va_cpy la la nd (nd + 1) (nd - nd)) nd l) (va_up (va_cpy le le nd (nd + 1) (nd - nd)) nd e) ro tm (nd + 1)) rfl rfl rfl rfl (Nat.le_of_ble_eq_true rfl) dS_put_134 ?_
          refine x_aload_n C dS_put_137 rfl 2 rfl ?_
          refine x_aload_n C dS_put_138 rfl 2 rfl ?_
          refine x_get C fgS_37 0 rfl rfl dS_put_139 ?_
          refine x_iload C dS_put_142 1 rfl ?_
          refine x_isubN C (by omega) dS_put_144 ?_
          refine x_iconst (v := nI 1) C dS_put_145 (by decide) ?_
          refine x_iaddN C dS_put_146 ?_
          refine x_put C fpS_37 0 (tc_wS a ca (va_up (va_cpy kn kn nd (nd + 1) (nd - nd)) nd kd) (vp_updL (va_cpy nu nu nd (nd + 1) (nd - nd)) nd x) (va_cpy wo wo (nd * 8) ((nd + 1) * 8) ((nd - nd) * 8)) (va_up (va_cpy si si nd (nd + 1) (nd - nd)) nd s) (va_up (va_cpy de de nd (nd + 1) (nd - nd)) nd dd) (va_up (va_cpy la la nd (nd + 1) (nd - nd)) nd l) (va_up (va_cpy le le nd (nd + 1) (nd - nd)) nd e) ro (tm - 0 + 1) (nd + 1)) rfl rfl rfl rfl (Nat.le_of_ble_eq_true rfl) dS_put_147 ?_
          refine x_aload_n C dS_put_150 rfl 2 rfl ?_
          refine x_get C fgS_34 0 rfl rfl dS_put_151 ?_
          refine x_aload_n C dS_put_154 rfl 2 rfl ?_
          refine x_get C fgS_37 0 rfl rfl dS_put_155 ?_
          refine x_iconst (v := nI 1) C dS_put_158 (by decide) ?_
          refine x_isubN C (by omega) dS_put_159 ?_
          refine x_iload C dS_put_160 0 rfl ?_
          refine x_ist C 8 7 (tc_wS a ca (va_up (va_cpy kn kn nd (nd + 1) (nd - nd)) nd kd) (vp_updL (va_cpy nu nu nd (nd + 1) (nd - nd)) nd x) (va_cpy wo wo (nd * 8) ((nd + 1) * 8) ((nd - nd) * 8)) (va_up (va_cpy si si nd (nd + 1) (nd - nd)) nd s) (va_up (va_cpy de de nd (nd + 1) (nd - nd)) nd dd) (va_up (va_cpy la la nd (nd + 1) (nd - nd)) nd l) (va_up (va_cpy le le nd (nd + 1) (nd - nd)) nd e) (va_up ro (tm - 0 + 1 - 1) nd) (tm - 0 + 1) (nd + 1)) rfl rfl (xk_nA_up ro (tm - 0 + 1 - 1) nd) rfl (by omega) (by decide) dS_put_162 ?_
          refine x_iconst (v := nI 1) C dS_put_163 (by decide) ?_
          have ytl := y1.2.1
          exact x_iret C T .boolean rfl rfl dS_put_164 (Or.inr (⟨_, _, _, _, _, _, _, _, _, _, ([(kd, x, [])] :: Ts), rfl, rfl, (tc_put_0 hk (by have := y1.2.2.1; omega)), (tc_put_RSx y1.2.2.1 (by simp) y1.1 y1.2.2.2.2.1 y1.2.2.2.2.2 (show tc_AR (kn, nu, wo, si, de, la, le) nd [] from trivial) (by rw [hk]; rfl) (fun y hy => absurd hy List.not_mem_nil) hx (by rw [tc_dp0 hk]; decide) (by omega) g1 g2 g3 g4 (by omega) (by omega) (by omega))⟩))
        ·
          exact absurd h42 (by omega)
      ·
        refine x_iconst (v := nI 0) C dS_put_25 (by decide) ?_
        exact x_iret C T .boolean rfl rfl dS_put_26 (Or.inl (⟨rfl, rfl, (tc_put_none hk (by first | exact Or.inl (by have := y1.2.1; omega) | exact Or.inr (by have := y1.2.2.1; omega)))⟩))
  ·
    rw [hk]
    refine x_istore C [(4, .int (nI 1)), (0, .ref (a 0)), (1, .int (nI kd)), (2, .long x)] dS_put_4 (by decide) rfl ?_
    refine x_aload_n C dS_put_6 rfl 1 rfl ?_
    refine x_get C fgS_37 0 rfl rfl dS_put_7 ?_
    refine x_iload C dS_put_10 0 rfl ?_
    refine x_icmp_ltN (tgt := 25) C (by omega) (by decide) dS_put_12 (by decide) (fun h12 => ?_) (fun h12 => ?_)
    ·
      refine x_iconst (v := nI 0) C dS_put_25 (by decide) ?_
      exact x_iret C T .boolean rfl rfl dS_put_26 (Or.inl (⟨rfl, rfl, (tc_put_none hk (by first | exact Or.inl (by have := y1.2.1; omega) | exact Or.inr (by have := y1.2.2.1; omega)))⟩))
    ·
      refine x_aload_n C dS_put_15 rfl 1 rfl ?_
      refine x_get C fgS_41 0 rfl rfl dS_put_16 ?_
      refine x_sipush (v := nI 200) C dS_put_19 (by decide) ?_
      refine x_icmp_ltN (tgt := 27) C (by omega) (by decide) dS_put_22 (by decide) (fun h22 => ?_) (fun h22 => ?_)
      ·
        obtain ⟨t, R, rfl⟩ := tc_RS_cons y1 (by omega)
        obtain ⟨z1, z2, z3, z4, z5, z6, z7, z8, z9, z10, z11, z12⟩ := tc_top y1
        have zt := y1.1 t List.mem_cons_self
        have zt60 := zt.2.1
        have zd : de (ro (tm - 1)) = tc_dp t := by rw [z2]; exact z10
        refine x_aload_n C dS_put_27 rfl 1 rfl ?_
        refine x_get C fgS_37 0 rfl rfl dS_put_28 ?_
        refine x_iload C dS_put_31 0 rfl ?_
        refine x_isubN C (by omega) dS_put_33 ?_
        refine x_istore C [(5, .int (nI (tm - 1))), (4, .int (nI 1)), (0, .ref (a 0)), (1, .int (nI kd)), (2, .long x)] dS_put_34 (by decide) rfl ?_
        refine x_iload C dS_put_36 0 rfl ?_
        refine x_aload_n C dS_put_38 rfl 2 rfl ?_
        refine x_get C fgS_37 0 rfl rfl dS_put_39 ?_
        refine x_icmp_geN (tgt := 70) C (by omega) (by omega) dS_put_42 (by decide) (fun h42 => ?_) (fun h42 => ?_)
        ·
          exact absurd h42 (by omega)
        ·
          refine x_aload_n C dS_put_45 rfl 2 rfl ?_
          refine x_get C fgS_25 0 rfl rfl dS_put_46 ?_
          refine x_aload_n C dS_put_49 rfl 2 rfl ?_
          refine x_get C fgS_34 0 rfl rfl dS_put_50 ?_
          refine x_iload C dS_put_53 0 rfl ?_
          refine x_ild C 8 7 rfl rfl (by omega) (by decide) dS_put_55 ?_
          show xk_Go K D 6 0 0 (tc_wS a ca kn nu wo si de la le ro tm nd) [(5, .int (nI (tm - 1))), (4, .int (nI 1)), (0, .ref (a 0)), (1, .int (nI kd)), (2, .long x)] 56 [.int (nI (ro (tm - 1))), .ref (a 5)]
          refine x_ild C 5 4 rfl rfl (by omega) (by decide) dS_put_56 ?_
          show xk_Go K D 6 0 0 (tc_wS a ca kn nu wo si de la le ro tm nd) [(5, .int (nI (tm - 1))), (4, .int (nI 1)), (0, .ref (a 0)), (1, .int (nI kd)), (2, .long x)] 57 [.int (nI (de (ro (tm - 1))))]
          refine x_bipush (v := nI 60) C dS_put_57 (by decide) ?_
          refine x_icmp_ltN (tgt := 64) C (by omega) (by decide) dS_put_59 (by decide) (fun h59 => ?_) (fun h59 => ?_)
          ·
            refine x_iinc (q := 0) C (nI (tm - 1 + 1)) [(5, .int (nI (tm - 1 + 1))), (4, .int (nI 1)), (0, .ref (a 0)), (1, .int (nI kd)), (2, .long x)] dS_put_64 rfl (nI_add (tm - 1) 1) (by decide) rfl ?_
            refine x_goto C 36 dS_put_67 (by decide) ?_
            refine x_iload C dS_put_36 0 rfl ?_
            refine x_aload_n C dS_put_38 rfl 2 rfl ?_
            refine x_get C fgS_37 0 rfl rfl dS_put_39 ?_
            refine x_icmp_geN (tgt := 70) C (by omega) (by omega) dS_put_42 (by decide) (fun h42 => ?_) (fun h42 => ?_)
            ·
              refine x_iload C dS_put_70 1 rfl ?_
              refine x_if_ne (tgt := 82) C dS_put_72 (by decide) (fun _ => ?_) (fun h => absurd h (by decide))
              refine x_aload_n C dS_put_82 rfl 2 rfl ?_
              refine x_get C fgS_34 0 rfl rfl dS_put_83 ?_
              refine x_aload_n C dS_put_86 rfl 2 rfl ?_
              refine x_get C fgS_37 0 rfl rfl dS_put_87 ?_
              refine x_iload C dS_put_90 1 rfl ?_
              refine x_isubN C (by omega) dS_put_92 ?_
              refine x_ild C 8 7 rfl rfl (by omega) (by decide) dS_put_93 ?_
              show xk_Go K D 6 0 0 (tc_wS a ca kn nu wo si de la le ro tm nd) [(5, .int (nI (tm - 1 + 1))), (4, .int (nI 1)), (0, .ref (a 0)), (1, .int (nI kd)), (2, .long x)] 94 [.int (nI (ro (tm - 1)))]
              refine x_istore C [(5, .int (nI (ro (tm - 1)))), (4, .int (nI 1)), (0, .ref (a 0)), (1, .int (nI kd)), (2, .long x)] dS_put_94 (by decide) rfl ?_
              refine x_aload_n C dS_put_96 rfl 2 rfl ?_
              refine x_iload C dS_put_97 0 rfl ?_
              refine x_iload C dS_put_99 0 rfl ?_
              refine x_iconst (v := nI 1) C dS_put_101 (by decide) ?_
              refine x_iaddN C dS_put_102 ?_
              refine x_aload_n C dS_put_103 rfl 2 rfl ?_
              refine x_get C fgS_41 0 rfl rfl dS_put_104 ?_
              refine x_iload C dS_put_107 0 rfl ?_
              refine x_isubN C (by omega) dS_put_109 ?_
              refine x_callV C (c_S_copyNodes D a ca kn nu wo si de la le ro tm nd (ro (tm - 1)) (ro (tm - 1) + 1) (nd - (ro (tm - 1))) (by omega) (by omega)) kbS_62 kcS_62 [0, 1, 2, 3, 4, 5, 6, 7, 8] [] [0, 1, 2, 3, 4, 5, 6, 7] ([]) rfl rfl (by decide) (by decide) (by decide) rfl 0 rfl rfl ⟨Nat.le_of_ble_eq_true rfl, Nat.le_of_ble_eq_true rfl⟩ ⟨Nat.le_of_ble_eq_true rfl, Nat.le_of_ble_eq_true rfl⟩ [] rfl rfl (Nat.le_of_ble_eq_true rfl) dS_put_110 (fun rv ru hw => ?_)
              obtain ⟨rfl, rfl⟩ := hw
              show xk_Go K D 6 0 0 (tc_wS a ca (va_cpy kn kn (ro (tm - 1)) (ro (tm - 1) + 1) (nd - (ro (tm - 1)))) (va_cpy nu nu (ro (tm - 1)) (ro (tm - 1) + 1) (nd - (ro (tm - 1)))) (va_cpy wo wo ((ro (tm - 1)) * 8) ((ro (tm - 1) + 1) * 8) ((nd - (ro (tm - 1))) * 8)) (va_cpy si si (ro (tm - 1)) (ro (tm - 1) + 1) (nd - (ro (tm - 1)))) (va_cpy de de (ro (tm - 1)) (ro (tm - 1) + 1) (nd - (ro (tm - 1)))) (va_cpy la la (ro (tm - 1)) (ro (tm - 1) + 1) (nd - (ro (tm - 1)))) (va_cpy le le (ro (tm - 1)) (ro (tm - 1) + 1) (nd - (ro (tm - 1)))) ro tm nd) [(5, .int (nI (ro (tm - 1)))), (4, .int (nI 1)), (0, .ref (a 0)), (1, .int (nI kd)), (2, .long x)] 113 []
              refine x_aload_n C dS_put_113 rfl 2 rfl ?_
              refine x_iload C dS_put_114 0 rfl ?_
              refine x_iload_n C dS_put_116 rfl 3 rfl ?_
              refine x_lload_n C dS_put_117 rfl 4 rfl ?_
              refine x_callV C (c_S_setNode D a ca (va_cpy kn kn (ro (tm - 1)) (ro (tm - 1) + 1) (nd - (ro (tm - 1)))) (va_cpy nu nu (ro (tm - 1)) (ro (tm - 1) + 1) (nd - (ro (tm - 1)))) (va_cpy wo wo ((ro (tm - 1)) * 8) ((ro (tm - 1) + 1) * 8) ((nd - (ro (tm - 1))) * 8)) (va_cpy si si (ro (tm - 1)) (ro (tm - 1) + 1) (nd - (ro (tm - 1)))) (va_cpy de de (ro (tm - 1)) (ro (tm - 1) + 1) (nd - (ro (tm - 1)))) (va_cpy la la (ro (tm - 1)) (ro (tm - 1) + 1) (nd - (ro (tm - 1)))) (va_cpy le le (ro (tm - 1)) (ro (tm - 1) + 1) (nd - (ro (tm - 1)))) ro tm nd (ro (tm - 1)) kd x (by omega)) kbS_66 kcS_66 [0, 1, 2, 3, 4, 5, 6, 7, 8] [] [0, 1, 2, 3, 4, 5, 6, 7] ([]) rfl rfl (by decide) (by decide) (by decide) rfl 0 rfl rfl ⟨Nat.le_of_ble_eq_true rfl, Nat.le_of_ble_eq_true rfl⟩ ⟨Nat.le_of_ble_eq_true rfl, Nat.le_of_ble_eq_true rfl⟩ [] rfl rfl (Nat.le_of_ble_eq_true rfl) dS_put_118 (fun rv ru hw => ?_)
              obtain ⟨rfl, rfl⟩ := hw
              show xk_Go K D 6 0 0 (tc_wS a ca (va_up (va_cpy kn kn (ro (tm - 1)) (ro (tm - 1) + 1) (nd - (ro (tm - 1)))) (ro (tm - 1)) kd) (vp_updL (va_cpy nu nu (ro (tm - 1)) (ro (tm - 1) + 1) (nd - (ro (tm - 1)))) (ro (tm - 1)) x) (va_cpy wo wo ((ro (tm - 1)) * 8) ((ro (tm - 1) + 1) * 8) ((nd - (ro (tm - 1))) * 8)) (va_cpy si si (ro (tm - 1)) (ro (tm - 1) + 1) (nd - (ro (tm - 1)))) (va_cpy de de (ro (tm - 1)) (ro (tm - 1) + 1) (nd - (ro (tm - 1)))) (va_cpy la la (ro (tm - 1)) (ro (tm - 1) + 1) (nd - (ro (tm - 1)))) (va_cpy le le (ro (tm - 1)) (ro (tm - 1) + 1) (nd - (ro (tm - 1)))) ro tm nd) [(5, .int (nI (ro (tm - 1)))), (4, .int (nI 1)), (0, .ref (a 0)), (1, .int (nI kd)), (2, .long x)] 121 []
              refine x_aload_n C dS_put_121 rfl 2 rfl ?_
              refine x_iload C dS_put_122 0 rfl ?_
              refine x_callV C (c_S_settle D a ca (va_up (va_cpy kn kn (ro (tm - 1)) (ro (tm - 1) + 1) (nd - (ro (tm - 1)))) (ro (tm - 1)) kd) (vp_updL (va_cpy nu nu (ro (tm - 1)) (ro (tm - 1) + 1) (nd - (ro (tm - 1)))) (ro (tm - 1)) x) (va_cpy wo wo ((ro (tm - 1)) * 8) ((ro (tm - 1) + 1) * 8) ((nd - (ro (tm - 1))) * 8)) (va_cpy si si (ro (tm - 1)) (ro (tm - 1) + 1) (nd - (ro (tm - 1)))) (va_cpy de de (ro (tm - 1)) (ro (tm - 1) + 1) (nd - (ro (tm - 1)))) (va_cpy la la (ro (tm - 1)) (ro (tm - 1) + 1) (nd - (ro (tm - 1)))) (va_cpy le le (ro (tm - 1)) (ro (tm - 1) + 1) (nd - (ro (tm - 1)))) ro tm nd (ro (tm - 1)) x.toInt.toNat (by omega) (by simp only [va_up_self]; exact y2) (by simp only [va_up_self, pk_uLs]; exact tc_num_v y3 y4) (by simp only [va_up_self]; exact tc_put_ch (by omega) (by rw [z2]; exact z8) (by rw [hk]; exact zt.1) zt.2.2 (by omega))) kbS_70 kcS_70 [0, 1, 2, 3, 4, 5, 6, 7, 8] [] [0, 1, 2, 3, 4, 5, 6, 7] ([]) rfl rfl (by decide) (by decide) (by decide) rfl 0 rfl rfl ⟨Nat.le_of_ble_eq_true rfl, Nat.le_of_ble_eq_true rfl⟩ ⟨Nat.le_of_ble_eq_true rfl, Nat.le_of_ble_eq_true rfl⟩ [] rfl rfl (Nat.le_of_ble_eq_true rfl) dS_put_124 (fun rv ru hw => ?_)
              obtain ⟨s, dd, l, e, rfl, rfl, g1, g2, g3, g4⟩ := hw
              show xk_Go K D 6 0 0 (tc_wS a ca (va_up (va_cpy kn kn (ro (tm - 1)) (ro (tm - 1) + 1) (nd - (ro (tm - 1)))) (ro (tm - 1)) kd) (vp_updL (va_cpy nu nu (ro (tm - 1)) (ro (tm - 1) + 1) (nd - (ro (tm - 1)))) (ro (tm - 1)) x) (va_cpy wo wo ((ro (tm - 1)) * 8) ((ro (tm - 1) + 1) * 8) ((nd - (ro (tm - 1))) * 8)) (va_up (va_cpy si si (ro (tm - 1)) (ro (tm - 1) + 1) (nd - (ro (tm - 1)))) (ro (tm - 1)) s) (va_up (va_cpy de de (ro (tm - 1)) (ro (tm - 1) + 1) (nd - (ro (tm - 1)))) (ro (tm - 1)) dd) (va_up (va_cpy la la (ro (tm - 1)) (ro (tm - 1) + 1) (nd - (ro (tm - 1)))) (ro (tm - 1)) l) (va_up (va_cpy le le (ro (tm - 1)) (ro (tm - 1) + 1) (nd - (ro (tm - 1)))) (ro (tm - 1)) e) ro tm nd) [(5, .int (nI (ro (tm - 1)))), (4, .int (nI 1)), (0, .ref (a 0)), (1, .int (nI kd)), (2, .long x)] 127 []
              simp only [va_up_self, pk_uLs] at g1 g2 g3 g4
              refine x_aload_n C dS_put_127 rfl 2 rfl ?_
              refine x_dup C dS_put_128 rfl ?_
              refine x_get C fgS_41 0 rfl rfl dS_put_129 ?_
              refine x_iconst (v := nI 1) C dS_put_132 (by decide) ?_
              refine x_iaddN C dS_put_133 ?_
              refine x_put C fpS_41 0 (tc_wS a ca (va_up (va_cpy kn kn (ro (tm - 1)) (ro (tm - 1) + 1) (nd - (ro (tm - 1)))) (ro (tm - 1)) kd) (vp_updL (va_cpy nu nu (ro (tm - 1)) (ro (tm - 1) + 1) (nd - (ro (tm - 1)))) (ro (tm - 1)) x) (va_cpy wo wo ((ro (tm - 1)) * 8) ((ro (tm - 1) + 1) * 8) ((nd - (ro (tm - 1))) * 8)) (va_up (va_cpy si si (ro (tm - 1)) (ro (tm - 1) + 1) (nd - (ro (tm - 1)))) (ro (tm - 1)) s) (va_up (va_cpy de de (ro (tm - 1)) (ro (tm - 1) + 1) (nd - (ro (tm - 1)))) (ro (tm - 1)) dd) (va_up (va_cpy la la (ro (tm - 1)) (ro (tm - 1) + 1) (nd - (ro (tm - 1)))) (ro (tm - 1)) l) (va_up (va_cpy le le (ro (tm - 1)) (ro (tm - 1) + 1) (nd - (ro (tm - 1)))) (ro (tm - 1)) e) ro tm (nd + 1)) rfl rfl rfl rfl (Nat.le_of_ble_eq_true rfl) dS_put_134 ?_
              refine x_aload_n C dS_put_137 rfl 2 rfl ?_
              refine x_aload_n C dS_put_138 rfl 2 rfl ?_
              refine x_get C fgS_37 0 rfl rfl dS_put_139 ?_
              refine x_iload C dS_put_142 1 rfl ?_
              refine x_isubN C (by omega) dS_put_144 ?_
              refine x_iconst (v := nI 1) C dS_put_145 (by decide) ?_
              refine x_iaddN C dS_put_146 ?_
              refine x_put C fpS_37 0 (tc_wS a ca (va_up (va_cpy kn kn (ro (tm - 1)) (ro (tm - 1) + 1) (nd - (ro (tm - 1)))) (ro (tm - 1)) kd) (vp_updL (va_cpy nu nu (ro (tm - 1)) (ro (tm - 1) + 1) (nd - (ro (tm - 1)))) (ro (tm - 1)) x) (va_cpy wo wo ((ro (tm - 1)) * 8) ((ro (tm - 1) + 1) * 8) ((nd - (ro (tm - 1))) * 8)) (va_up (va_cpy si si (ro (tm - 1)) (ro (tm - 1) + 1) (nd - (ro (tm - 1)))) (ro (tm - 1)) s) (va_up (va_cpy de de (ro (tm - 1)) (ro (tm - 1) + 1) (nd - (ro (tm - 1)))) (ro (tm - 1)) dd) (va_up (va_cpy la la (ro (tm - 1)) (ro (tm - 1) + 1) (nd - (ro (tm - 1)))) (ro (tm - 1)) l) (va_up (va_cpy le le (ro (tm - 1)) (ro (tm - 1) + 1) (nd - (ro (tm - 1)))) (ro (tm - 1)) e) ro (tm - 1 + 1) (nd + 1)) rfl rfl rfl rfl (Nat.le_of_ble_eq_true rfl) dS_put_147 ?_
              refine x_aload_n C dS_put_150 rfl 2 rfl ?_
              refine x_get C fgS_34 0 rfl rfl dS_put_151 ?_
              refine x_aload_n C dS_put_154 rfl 2 rfl ?_
              refine x_get C fgS_37 0 rfl rfl dS_put_155 ?_
              refine x_iconst (v := nI 1) C dS_put_158 (by decide) ?_
              refine x_isubN C (by omega) dS_put_159 ?_
              refine x_iload C dS_put_160 0 rfl ?_
              refine x_ist C 8 7 (tc_wS a ca (va_up (va_cpy kn kn (ro (tm - 1)) (ro (tm - 1) + 1) (nd - (ro (tm - 1)))) (ro (tm - 1)) kd) (vp_updL (va_cpy nu nu (ro (tm - 1)) (ro (tm - 1) + 1) (nd - (ro (tm - 1)))) (ro (tm - 1)) x) (va_cpy wo wo ((ro (tm - 1)) * 8) ((ro (tm - 1) + 1) * 8) ((nd - (ro (tm - 1))) * 8)) (va_up (va_cpy si si (ro (tm - 1)) (ro (tm - 1) + 1) (nd - (ro (tm - 1)))) (ro (tm - 1)) s) (va_up (va_cpy de de (ro (tm - 1)) (ro (tm - 1) + 1) (nd - (ro (tm - 1)))) (ro (tm - 1)) dd) (va_up (va_cpy la la (ro (tm - 1)) (ro (tm - 1) + 1) (nd - (ro (tm - 1)))) (ro (tm - 1)) l) (va_up (va_cpy le le (ro (tm - 1)) (ro (tm - 1) + 1) (nd - (ro (tm - 1)))) (ro (tm - 1)) e) (va_up ro (tm - 1 + 1 - 1) (ro (tm - 1))) (tm - 1 + 1) (nd + 1)) rfl rfl (xk_nA_up ro (tm - 1 + 1 - 1) (ro (tm - 1))) rfl (by omega) (by decide) dS_put_162 ?_
              refine x_iconst (v := nI 1) C dS_put_163 (by decide) ?_
              exact x_iret C T .boolean rfl rfl dS_put_164 (Or.inr (⟨_, _, _, _, _, _, _, _, _, _, (((kd, x, []) :: t) :: R), rfl, rfl, (tc_put_1 hk (by have := y1.2.2.1; omega) (by omega)), (tc_put_RSx z2 (by omega) (fun u hu => y1.1 u (List.mem_cons_of_mem _ hu)) y1.2.2.2.2.1.2 z7 (by rw [z2]; exact z8) (by rw [hk]; exact zt.1) zt.2.2 hx (by rw [tc_dp1 hk zt.1]; omega) (by omega) g1 g2 g3 g4 (by omega) (by omega) (by omega))⟩))
            ·
              exact absurd h42 (by omega)
          ·
            refine x_iconst (v := nI 0) C dS_put_62 (by decide) ?_
            exact x_iret C T .boolean rfl rfl dS_put_63 (Or.inl (⟨rfl, rfl, (tc_put_deep1 hk (by omega))⟩))
      ·
        refine x_iconst (v := nI 0) C dS_put_25 (by decide) ?_
        exact x_iret C T .boolean rfl rfl dS_put_26 (Or.inl (⟨rfl, rfl, (tc_put_none hk (by first | exact Or.inl (by have := y1.2.1; omega) | exact Or.inr (by have := y1.2.2.1; omega)))⟩))
  ·
    rw [hk]
    refine x_istore C [(4, .int (nI 2)), (0, .ref (a 0)), (1, .int (nI kd)), (2, .long x)] dS_put_4 (by decide) rfl ?_
    refine x_aload_n C dS_put_6 rfl 1 rfl ?_
    refine x_get C fgS_37 0 rfl rfl dS_put_7 ?_
    refine x_iload C dS_put_10 0 rfl ?_
    refine x_icmp_ltN (tgt := 25) C (by omega) (by decide) dS_put_12 (by decide) (fun h12 => ?_) (fun h12 => ?_)
    ·
      refine x_iconst (v := nI 0) C dS_put_25 (by decide) ?_
      exact x_iret C T .boolean rfl rfl dS_put_26 (Or.inl (⟨rfl, rfl, (tc_put_none hk (by first | exact Or.inl (by have := y1.2.1; omega) | exact Or.inr (by have := y1.2.2.1; omega)))⟩))
    ·
      refine x_aload_n C dS_put_15 rfl 1 rfl ?_
      refine x_get C fgS_41 0 rfl rfl dS_put_16 ?_
      refine x_sipush (v := nI 200) C dS_put_19 (by decide) ?_
      refine x_icmp_ltN (tgt := 27) C (by omega) (by decide) dS_put_22 (by decide) (fun h22 => ?_) (fun h22 => ?_)
      ·
        obtain ⟨t, R, rfl⟩ := tc_RS_cons y1 (by omega)
        obtain ⟨z1, z2, z3, z4, z5, z6, z7, z8, z9, z10, z11, z12⟩ := tc_top y1
        have zt := y1.1 t List.mem_cons_self
        have zt60 := zt.2.1
        have y1b := tc_RS_tail y1
        obtain ⟨t1, R1, rfl⟩ := tc_RS_cons y1b (by omega)
        obtain ⟨w1, w2, w3, w4, w5, w6, w7, w8, w9, w10, w11, w12⟩ := tc_top y1b
        have zt1 := y1.1 t1 (List.mem_cons_of_mem _ List.mem_cons_self)
        have zt160 := zt1.2.1
        have e21 : tm - 1 - 1 = tm - 2 := by omega
        rw [e21] at w2
        have e211 : tm - 2 + 1 = tm - 1 := by omega
        have zd1 : de (ro (tm - 2)) = tc_dp t1 := by rw [w2]; exact w10
        have zd : de (ro (tm - 2 + 1)) = tc_dp t := by rw [e211, z2]; exact z10
        have zr : ro (tm - 2 + 1) < 200 := by rw [e211]; omega
        refine x_aload_n C dS_put_27 rfl 1 rfl ?_
        refine x_get C fgS_37 0 rfl rfl dS_put_28 ?_
        refine x_iload C dS_put_31 0 rfl ?_
        refine x_isubN C (by omega) dS_put_33 ?_
        refine x_istore C [(5, .int (nI (tm - 2))), (4, .int (nI 2)), (0, .ref (a 0)), (1, .int (nI kd)), (2, .long x)] dS_put_34 (by decide) rfl ?_
        refine x_iload C dS_put_36 0 rfl ?_
        refine x_aload_n C dS_put_38 rfl 2 rfl ?_
        refine x_get C fgS_37 0 rfl rfl dS_put_39 ?_
        refine x_icmp_geN (tgt := 70) C (by omega) (by omega) dS_put_42 (by decide) (fun h42 => ?_) (fun h42 => ?_)
        ·
          exact absurd h42 (by omega)
        ·
          refine x_aload_n C dS_put_45 rfl 2 rfl ?_
          refine x_get C fgS_25 0 rfl rfl dS_put_46 ?_
          refine x_aload_n C dS_put_49 rfl 2 rfl ?_
          refine x_get C fgS_34 0 rfl rfl dS_put_50 ?_
          refine x_iload C dS_put_53 0 rfl ?_
          refine x_ild C 8 7 rfl rfl (by omega) (by decide) dS_put_55 ?_
          show xk_Go K D 6 0 0 (tc_wS a ca kn nu wo si de la le ro tm nd) [(5, .int (nI (tm - 2))), (4, .int (nI 2)), (0, .ref (a 0)), (1, .int (nI kd)), (2, .long x)] 56 [.int (nI (ro (tm - 2))), .ref (a 5)]
          refine x_ild C 5 4 rfl rfl (by omega) (by decide) dS_put_56 ?_
          show xk_Go K D 6 0 0 (tc_wS a ca kn nu wo si de la le ro tm nd) [(5, .int (nI (tm - 2))), (4, .int (nI 2)), (0, .ref (a 0)), (1, .int (nI kd)), (2, .long x)] 57 [.int (nI (de (ro (tm - 2))))]
          refine x_bipush (v := nI 60) C dS_put_57 (by decide) ?_
          refine x_icmp_ltN (tgt := 64) C (by omega) (by decide) dS_put_59 (by decide) (fun h59 => ?_) (fun h59 => ?_)
          ·
            refine x_iinc (q := 0) C (nI (tm - 2 + 1)) [(5, .int (nI (tm - 2 + 1))), (4, .int (nI 2)), (0, .ref (a 0)), (1, .int (nI kd)), (2, .long x)] dS_put_64 rfl (nI_add (tm - 2) 1) (by decide) rfl ?_
            refine x_goto C 36 dS_put_67 (by decide) ?_
            refine x_iload C dS_put_36 0 rfl ?_
            refine x_aload_n C dS_put_38 rfl 2 rfl ?_
            refine x_get C fgS_37 0 rfl rfl dS_put_39 ?_
            refine x_icmp_geN (tgt := 70) C (by omega) (by omega) dS_put_42 (by decide) (fun h42 => ?_) (fun h42 => ?_)
            ·
              exact absurd h42 (by omega)
            ·
              refine x_aload_n C dS_put_45 rfl 2 rfl ?_
              refine x_get C fgS_25 0 rfl rfl dS_put_46 ?_
              refine x_aload_n C dS_put_49 rfl 2 rfl ?_
              refine x_get C fgS_34 0 rfl rfl dS_put_50 ?_
              refine x_iload C dS_put_53 0 rfl ?_
              refine x_ild C 8 7 rfl rfl (by omega) (by decide) dS_put_55 ?_
              show xk_Go K D 6 0 0 (tc_wS a ca kn nu wo si de la le ro tm nd) [(5, .int (nI (tm - 2 + 1))), (4, .int (nI 2)), (0, .ref (a 0)), (1, .int (nI kd)), (2, .long x)] 56 [.int (nI (ro (tm - 2 + 1))), .ref (a 5)]
              refine x_ild C 5 4 rfl rfl (by omega) (by decide) dS_put_56 ?_
              show xk_Go K D 6 0 0 (tc_wS a ca kn nu wo si de la le ro tm nd) [(5, .int (nI (tm - 2 + 1))), (4, .int (nI 2)), (0, .ref (a 0)), (1, .int (nI kd)), (2, .long x)] 57 [.int (nI (de (ro (tm - 2 + 1))))]
              refine x_bipush (v := nI 60) C dS_put_57 (by decide) ?_
              refine x_icmp_ltN (tgt := 64) C (by omega) (by decide) dS_put_59 (by decide) (fun h59 => ?_) (fun h59 => ?_)
              ·
                refine x_iinc (q := 0) C (nI (tm - 2 + 1 + 1)) [(5, .int (nI (tm - 2 + 1 + 1))), (4, .int (nI 2)), (0, .ref (a 0)), (1, .int (nI kd)), (2, .long x)] dS_put_64 rfl (nI_add (tm - 2 + 1) 1) (by decide) rfl ?_
                refine x_goto C 36 dS_put_67 (by decide) ?_
                refine x_iload C dS_put_36 0 rfl ?_
                refine x_aload_n C dS_put_38 rfl 2 rfl ?_
                refine x_get C fgS_37 0 rfl rfl dS_put_39 ?_
                refine x_icmp_geN (tgt := 70) C (by omega) (by omega) dS_put_42 (by decide) (fun h42 => ?_) (fun h42 => ?_)
                ·
                  refine x_iload C dS_put_70 1 rfl ?_
                  refine x_if_ne (tgt := 82) C dS_put_72 (by decide) (fun _ => ?_) (fun h => absurd h (by decide))
                  refine x_aload_n C dS_put_82 rfl 2 rfl ?_
                  refine x_get C fgS_34 0 rfl rfl dS_put_83 ?_
                  refine x_aload_n C dS_put_86 rfl 2 rfl ?_
                  refine x_get C fgS_37 0 rfl rfl dS_put_87 ?_
                  refine x_iload C dS_put_90 1 rfl ?_
                  refine x_isubN C (by omega) dS_put_92 ?_
                  refine x_ild C 8 7 rfl rfl (by omega) (by decide) dS_put_93 ?_
                  show xk_Go K D 6 0 0 (tc_wS a ca kn nu wo si de la le ro tm nd) [(5, .int (nI (tm - 2 + 1 + 1))), (4, .int (nI 2)), (0, .ref (a 0)), (1, .int (nI kd)), (2, .long x)] 94 [.int (nI (ro (tm - 2)))]
                  refine x_istore C [(5, .int (nI (ro (tm - 2)))), (4, .int (nI 2)), (0, .ref (a 0)), (1, .int (nI kd)), (2, .long x)] dS_put_94 (by decide) rfl ?_
                  have zlen : (tc_cat (t1 :: R1)).length = (tc_cat R1).length + t1.length := List.length_append
                  have zAR : tc_AR (kn, nu, wo, si, de, la, le) (ro (tm - 2)) (t1 ++ t) := (tc_AR_app _ t zt1.1).mpr ⟨by rw [w2]; exact w8, by rw [w2, ← zlen]; exact z8⟩
                  have zok : ∀ y ∈ t1 ++ t, tc_okn y := fun y hy => (List.mem_append.mp hy).elim (zt1.2.2 y) (zt.2.2 y)
                  refine x_aload_n C dS_put_96 rfl 2 rfl ?_
                  refine x_iload C dS_put_97 0 rfl ?_
                  refine x_iload C dS_put_99 0 rfl ?_
                  refine x_iconst (v := nI 1) C dS_put_101 (by decide) ?_
                  refine x_iaddN C dS_put_102 ?_
                  refine x_aload_n C dS_put_103 rfl 2 rfl ?_
                  refine x_get C fgS_41 0 rfl rfl dS_put_104 ?_
                  refine x_iload C dS_put_107 0 rfl ?_
                  refine x_isubN C (by omega) dS_put_109 ?_
                  refine x_callV C (c_S_copyNodes D a ca kn nu wo si de la le ro tm nd (ro (tm - 2)) (ro (tm - 2) + 1) (nd - (ro (tm - 2))) (by omega) (by omega)) kbS_62 kcS_62 [0, 1, 2, 3, 4, 5, 6, 7, 8] [] [0, 1, 2, 3, 4, 5, 6, 7] ([]) rfl rfl (by decide) (by decide) (by decide) rfl 0 rfl rfl ⟨Nat.le_of_ble_eq_true rfl, Nat.le_of_ble_eq_true rfl⟩ ⟨Nat.le_of_ble_eq_true rfl, Nat.le_of_ble_eq_true rfl⟩ [] rfl rfl (Nat.le_of_ble_eq_true rfl) dS_put_110 (fun rv ru hw => ?_)
                  obtain ⟨rfl, rfl⟩ := hw
                  show xk_Go K D 6 0 0 (tc_wS a ca (va_cpy kn kn (ro (tm - 2)) (ro (tm - 2) + 1) (nd - (ro (tm - 2)))) (va_cpy nu nu (ro (tm - 2)) (ro (tm - 2) + 1) (nd - (ro (tm - 2)))) (va_cpy wo wo ((ro (tm - 2)) * 8) ((ro (tm - 2) + 1) * 8) ((nd - (ro (tm - 2))) * 8)) (va_cpy si si (ro (tm - 2)) (ro (tm - 2) + 1) (nd - (ro (tm - 2)))) (va_cpy de de (ro (tm - 2)) (ro (tm - 2) + 1) (nd - (ro (tm - 2)))) (va_cpy la la (ro (tm - 2)) (ro (tm - 2) + 1) (nd - (ro (tm - 2)))) (va_cpy le le (ro (tm - 2)) (ro (tm - 2) + 1) (nd - (ro (tm - 2)))) ro tm nd) [(5, .int (nI (ro (tm - 2)))), (4, .int (nI 2)), (0, .ref (a 0)), (1, .int (nI kd)), (2, .long x)] 113 []
                  refine x_aload_n C dS_put_113 rfl 2 rfl ?_
                  refine x_iload C dS_put_114 0 rfl ?_
                  refine x_iload_n C dS_put_116 rfl 3 rfl ?_
                  refine x_lload_n C dS_put_117 rfl 4 rfl ?_
                  refine x_callV C (c_S_setNode D a ca (va_cpy kn kn (ro (tm - 2)) (ro (tm - 2) + 1) (nd - (ro (tm - 2)))) (va_cpy nu nu (ro (tm - 2)) (ro (tm - 2) + 1) (nd - (ro (tm - 2)))) (va_cpy wo wo ((ro (tm - 2)) * 8) ((ro (tm - 2) + 1) * 8) ((nd - (ro (tm - 2))) * 8)) (va_cpy si si (ro (tm - 2)) (ro (tm - 2) + 1) (nd - (ro (tm - 2)))) (va_cpy de de (ro (tm - 2)) (ro (tm - 2) + 1) (nd - (ro (tm - 2)))) (va_cpy la la (ro (tm - 2)) (ro (tm - 2) + 1) (nd - (ro (tm - 2)))) (va_cpy le le (ro (tm - 2)) (ro (tm - 2) + 1) (nd - (ro (tm - 2)))) ro tm nd (ro (tm - 2)) kd x (by omega)) kbS_66 kcS_66 [0, 1, 2, 3, 4, 5, 6, 7, 8] [] [0, 1, 2, 3, 4, 5, 6, 7] ([]) rfl rfl (by decide) (by decide) (by decide) rfl 0 rfl rfl ⟨Nat.le_of_ble_eq_true rfl, Nat.le_of_ble_eq_true rfl⟩ ⟨Nat.le_of_ble_eq_true rfl, Nat.le_of_ble_eq_true rfl⟩ [] rfl rfl (Nat.le_of_ble_eq_true rfl) dS_put_118 (fun rv ru hw => ?_)
                  obtain ⟨rfl, rfl⟩ := hw
                  show xk_Go K D 6 0 0 (tc_wS a ca (va_up (va_cpy kn kn (ro (tm - 2)) (ro (tm - 2) + 1) (nd - (ro (tm - 2)))) (ro (tm - 2)) kd) (vp_updL (va_cpy nu nu (ro (tm - 2)) (ro (tm - 2) + 1) (nd - (ro (tm - 2)))) (ro (tm - 2)) x) (va_cpy wo wo ((ro (tm - 2)) * 8) ((ro (tm - 2) + 1) * 8) ((nd - (ro (tm - 2))) * 8)) (va_cpy si si (ro (tm - 2)) (ro (tm - 2) + 1) (nd - (ro (tm - 2)))) (va_cpy de de (ro (tm - 2)) (ro (tm - 2) + 1) (nd - (ro (tm - 2)))) (va_cpy la la (ro (tm - 2)) (ro (tm - 2) + 1) (nd - (ro (tm - 2)))) (va_cpy le le (ro (tm - 2)) (ro (tm - 2) + 1) (nd - (ro (tm - 2)))) ro tm nd) [(5, .int (nI (ro (tm - 2)))), (4, .int (nI 2)), (0, .ref (a 0)), (1, .int (nI kd)), (2, .long x)] 121 []
                  refine x_aload_n C dS_put_121 rfl 2 rfl ?_
                  refine x_iload C dS_put_122 0 rfl ?_
                  refine x_callV C (c_S_settle D a ca (va_up (va_cpy kn kn (ro (tm - 2)) (ro (tm - 2) + 1) (nd - (ro (tm - 2)))) (ro (tm - 2)) kd) (vp_updL (va_cpy nu nu (ro (tm - 2)) (ro (tm - 2) + 1) (nd - (ro (tm - 2)))) (ro (tm - 2)) x) (va_cpy wo wo ((ro (tm - 2)) * 8) ((ro (tm - 2) + 1) * 8) ((nd - (ro (tm - 2))) * 8)) (va_cpy si si (ro (tm - 2)) (ro (tm - 2) + 1) (nd - (ro (tm - 2)))) (va_cpy de de (ro (tm - 2)) (ro (tm - 2) + 1) (nd - (ro (tm - 2)))) (va_cpy la la (ro (tm - 2)) (ro (tm - 2) + 1) (nd - (ro (tm - 2)))) (va_cpy le le (ro (tm - 2)) (ro (tm - 2) + 1) (nd - (ro (tm - 2)))) ro tm nd (ro (tm - 2)) x.toInt.toNat (by omega) (by simp only [va_up_self]; exact y2) (by simp only [va_up_self, pk_uLs]; exact tc_num_v y3 y4) (by simp only [va_up_self]; exact tc_put_ch (by rw [List.length_append]; omega) zAR (by rw [hk]; exact tc_wf_app (a := 1) (b := 1) zt1.1 zt.1) zok (by omega))) kbS_70 kcS_70 [0, 1, 2, 3, 4, 5, 6, 7, 8] [] [0, 1, 2, 3, 4, 5, 6, 7] ([]) rfl rfl (by decide) (by decide) (by decide) rfl 0 rfl rfl ⟨Nat.le_of_ble_eq_true rfl, Nat.le_of_ble_eq_true rfl⟩ ⟨Nat.le_of_ble_eq_true rfl, Nat.le_of_ble_eq_true rfl⟩ [] rfl rfl (Nat.le_of_ble_eq_true rfl) dS_put_124 (fun rv ru hw => ?_)
                  obtain ⟨s, dd, l, e, rfl, rfl, g1, g2, g3, g4⟩ := hw
                  show xk_Go K D 6 0 0 (tc_wS a ca (va_up (va_cpy kn kn (ro (tm - 2)) (ro (tm - 2) + 1) (nd - (ro (tm - 2)))) (ro (tm - 2)) kd) (vp_updL (va_cpy nu nu (ro (tm - 2)) (ro (tm - 2) + 1) (nd - (ro (tm - 2)))) (ro (tm - 2)) x) (va_cpy wo wo ((ro (tm - 2)) * 8) ((ro (tm - 2) + 1) * 8) ((nd - (ro (tm - 2))) * 8)) (va_up (va_cpy si si (ro (tm - 2)) (ro (tm - 2) + 1) (nd - (ro (tm - 2)))) (ro (tm - 2)) s) (va_up (va_cpy de de (ro (tm - 2)) (ro (tm - 2) + 1) (nd - (ro (tm - 2)))) (ro (tm - 2)) dd) (va_up (va_cpy la la (ro (tm - 2)) (ro (tm - 2) + 1) (nd - (ro (tm - 2)))) (ro (tm - 2)) l) (va_up (va_cpy le le (ro (tm - 2)) (ro (tm - 2) + 1) (nd - (ro (tm - 2)))) (ro (tm - 2)) e) ro tm nd) [(5, .int (nI (ro (tm - 2)))), (4, .int (nI 2)), (0, .ref (a 0)), (1, .int (nI kd)), (2, .long x)] 127 []
                  simp only [va_up_self, pk_uLs] at g1 g2 g3 g4
                  refine x_aload_n C dS_put_127 rfl 2 rfl ?_
                  refine x_dup C dS_put_128 rfl ?_
                  refine x_get C fgS_41 0 rfl rfl dS_put_129 ?_
                  refine x_iconst (v := nI 1) C dS_put_132 (by decide) ?_
                  refine x_iaddN C dS_put_133 ?_
                  refine x_put C fpS_41 0 (tc_wS a ca (va_up (va_cpy kn kn (ro (tm - 2)) (ro (tm - 2) + 1) (nd - (ro (tm - 2)))) (ro (tm - 2)) kd) (vp_updL (va_cpy nu nu (ro (tm - 2)) (ro (tm - 2) + 1) (nd - (ro (tm - 2)))) (ro (tm - 2)) x) (va_cpy wo wo ((ro (tm - 2)) * 8) ((ro (tm - 2) + 1) * 8) ((nd - (ro (tm - 2))) * 8)) (va_up (va_cpy si si (ro (tm - 2)) (ro (tm - 2) + 1) (nd - (ro (tm - 2)))) (ro (tm - 2)) s) (va_up (va_cpy de de (ro (tm - 2)) (ro (tm - 2) + 1) (nd - (ro (tm - 2)))) (ro (tm - 2)) dd) (va_up (va_cpy la la (ro (tm - 2)) (ro (tm - 2) + 1) (nd - (ro (tm - 2)))) (ro (tm - 2)) l) (va_up (va_cpy le le (ro (tm - 2)) (ro (tm - 2) + 1) (nd - (ro (tm - 2)))) (ro (tm - 2)) e) ro tm (nd + 1)) rfl rfl rfl rfl (Nat.le_of_ble_eq_true rfl) dS_put_134 ?_
                  refine x_aload_n C dS_put_137 rfl 2 rfl ?_
                  refine x_aload_n C dS_put_138 rfl 2 rfl ?_
                  refine x_get C fgS_37 0 rfl rfl dS_put_139 ?_
                  refine x_iload C dS_put_142 1 rfl ?_
                  refine x_isubN C (by omega) dS_put_144 ?_
                  refine x_iconst (v := nI 1) C dS_put_145 (by decide) ?_
                  refine x_iaddN C dS_put_146 ?_
                  refine x_put C fpS_37 0 (tc_wS a ca (va_up (va_cpy kn kn (ro (tm - 2)) (ro (tm - 2) + 1) (nd - (ro (tm - 2)))) (ro (tm - 2)) kd) (vp_updL (va_cpy nu nu (ro (tm - 2)) (ro (tm - 2) + 1) (nd - (ro (tm - 2)))) (ro (tm - 2)) x) (va_cpy wo wo ((ro (tm - 2)) * 8) ((ro (tm - 2) + 1) * 8) ((nd - (ro (tm - 2))) * 8)) (va_up (va_cpy si si (ro (tm - 2)) (ro (tm - 2) + 1) (nd - (ro (tm - 2)))) (ro (tm - 2)) s) (va_up (va_cpy de de (ro (tm - 2)) (ro (tm - 2) + 1) (nd - (ro (tm - 2)))) (ro (tm - 2)) dd) (va_up (va_cpy la la (ro (tm - 2)) (ro (tm - 2) + 1) (nd - (ro (tm - 2)))) (ro (tm - 2)) l) (va_up (va_cpy le le (ro (tm - 2)) (ro (tm - 2) + 1) (nd - (ro (tm - 2)))) (ro (tm - 2)) e) ro (tm - 2 + 1) (nd + 1)) rfl rfl rfl rfl (Nat.le_of_ble_eq_true rfl) dS_put_147 ?_
                  refine x_aload_n C dS_put_150 rfl 2 rfl ?_
                  refine x_get C fgS_34 0 rfl rfl dS_put_151 ?_
                  refine x_aload_n C dS_put_154 rfl 2 rfl ?_
                  refine x_get C fgS_37 0 rfl rfl dS_put_155 ?_
                  refine x_iconst (v := nI 1) C dS_put_158 (by decide) ?_
                  refine x_isubN C (by omega) dS_put_159 ?_
                  refine x_iload C dS_put_160 0 rfl ?_
                  refine x_ist C 8 7 (tc_wS a ca (va_up (va_cpy kn kn (ro (tm - 2)) (ro (tm - 2) + 1) (nd - (ro (tm - 2)))) (ro (tm - 2)) kd) (vp_updL (va_cpy nu nu (ro (tm - 2)) (ro (tm - 2) + 1) (nd - (ro (tm - 2)))) (ro (tm - 2)) x) (va_cpy wo wo ((ro (tm - 2)) * 8) ((ro (tm - 2) + 1) * 8) ((nd - (ro (tm - 2))) * 8)) (va_up (va_cpy si si (ro (tm - 2)) (ro (tm - 2) + 1) (nd - (ro (tm - 2)))) (ro (tm - 2)) s) (va_up (va_cpy de de (ro (tm - 2)) (ro (tm - 2) + 1) (nd - (ro (tm - 2)))) (ro (tm - 2)) dd) (va_up (va_cpy la la (ro (tm - 2)) (ro (tm - 2) + 1) (nd - (ro (tm - 2)))) (ro (tm - 2)) l) (va_up (va_cpy le le (ro (tm - 2)) (ro (tm - 2) + 1) (nd - (ro (tm - 2)))) (ro (tm - 2)) e) (va_up ro (tm - 2 + 1 - 1) (ro (tm - 2))) (tm - 2 + 1) (nd + 1)) rfl rfl (xk_nA_up ro (tm - 2 + 1 - 1) (ro (tm - 2))) rfl (by omega) (by decide) dS_put_162 ?_
                  refine x_iconst (v := nI 1) C dS_put_163 (by decide) ?_
                  exact x_iret C T .boolean rfl rfl dS_put_164 (Or.inr (⟨_, _, _, _, _, _, _, _, _, _, (((kd, x, []) :: (t1 ++ t)) :: R1), rfl, rfl, (tc_put_2 hk (by have := y1.2.2.1; omega) (by omega) (by omega)), (tc_put_RSx w2 (by rw [List.length_append]; omega) (fun u hu => y1.1 u (List.mem_cons_of_mem _ (List.mem_cons_of_mem _ hu))) y1.2.2.2.2.1.2.2 w7 zAR (by rw [hk]; exact tc_wf_app (a := 1) (b := 1) zt1.1 zt.1) zok hx (by rw [tc_dp2 hk zt1.1 zt.1]; omega) (by omega) g1 g2 g3 g4 (by omega) (by omega) (by omega))⟩))
                ·
                  exact absurd h42 (by omega)
              ·
                refine x_iconst (v := nI 0) C dS_put_62 (by decide) ?_
                exact x_iret C T .boolean rfl rfl dS_put_63 (Or.inl (⟨rfl, rfl, (tc_put_deep2 hk (by first | exact Or.inl (by omega) | exact Or.inr (by omega)))⟩))
          ·
            refine x_iconst (v := nI 0) C dS_put_62 (by decide) ?_
            exact x_iret C T .boolean rfl rfl dS_put_63 (Or.inl (⟨rfl, rfl, (tc_put_deep2 hk (by first | exact Or.inl (by omega) | exact Or.inr (by omega)))⟩))
      ·
        refine x_iconst (v := nI 0) C dS_put_25 (by decide) ?_
        exact x_iret C T .boolean rfl rfl dS_put_26 (Or.inl (⟨rfl, rfl, (tc_put_none hk (by first | exact Or.inl (by have := y1.2.1; omega) | exact Or.inr (by have := y1.2.2.1; omega)))⟩))
end
section
set_option maxHeartbeats 4000000 in
set_option maxRecDepth 100000 in
/-- extend -/
theorem c_S_extend (D : va_G) (a : Nat → Nat) (ca : Nat → ClassId) (kn : Nat → Nat) (nu : Nat → Int64) (wo : Nat → Int64) (si : Nat → Nat) (de : Nat → Nat) (la : Nat → Nat) (le : Nat → Nat) (ro : Nat → Nat) (tm : Nat) (nd : Nat) (pt : Int64) (n : Nat) (Ts : List (List tc_Nd)) (y1 : tc_RS Ts (kn, nu, wo, si, de, la, le) ro tm nd) (y2 : n ≤ 8) : xk_Ct yS_extend cS_extend 7 (some .boolean) { frames := 3, cells := 0, slots := 0, locals := 75 } D (tc_tS ca) [.ref (a 0), .long pt, .int (nI n)] (tc_wS a ca kn nu wo si de la le ro tm nd) (fun rv ru => (rv = some (.int (nI 0)) ∧ ru = tc_wS a ca kn nu wo si de la le ro tm nd ∧ (tc_ext pt n Ts = none)) ∨ (∃ (kg : Nat → Nat), ∃ (ug : Nat → Int64), ∃ (wg : Nat → Int64), ∃ (sg : Nat → Nat), ∃ (dg : Nat → Nat), ∃ (lg : Nat → Nat), ∃ (eg : Nat → Nat), ∃ (rg : Nat → Nat), ∃ (tg : Nat), ∃ (ng : Nat), ∃ (Tn : List (List tc_Nd)), rv = some (.int (nI 1)) ∧ ru = tc_wS a ca kg ug wg sg dg lg eg rg tg ng ∧ (tc_ext pt n Ts = some Tn) ∧ (tc_RS Tn (kg, ug, wg, sg, dg, lg, eg) rg tg ng))) := by
  refine xk_enter (by decide) (Nat.le_of_ble_eq_true rfl) (fun K C T hin => ?_)
  show xk_Go K D 7 0 0 (tc_wS a ca kn nu wo si de la le ro tm nd) [(0, .ref (a 0)), (1, .long pt), (3, .int (nI n))] 0 []
  refine x_aload_n C dS_extend_0 rfl 0 rfl ?_
  refine x_callV C (c_S_lastRoot D a ca kn nu wo si de la le ro tm nd ((tc_RS_tm y1).1)) kbS_44 kcS_44 [0, 1, 2, 3, 4, 5, 6, 7, 8] [] [0, 1, 2, 3, 4, 5, 6, 7] ([]) rfl rfl (by decide) (by decide) (by decide) rfl 0 rfl rfl ⟨Nat.le_of_ble_eq_true rfl, Nat.le_of_ble_eq_true rfl⟩ ⟨Nat.le_of_ble_eq_true rfl, Nat.le_of_ble_eq_true rfl⟩ [] rfl rfl (Nat.le_of_ble_eq_true rfl) dS_extend_1 (fun rv ru hw => ?_)
  rcases hw with ⟨rfl, rfl, g1⟩ | ⟨rfl, rfl, g1⟩
  ·
    show xk_Go K D 7 0 0 (tc_wS a ca kn nu wo si de la le ro tm nd) [(0, .ref (a 0)), (1, .long pt), (3, .int (nI n))] 4 [.int (xk_oI none)]
    refine x_istore C [(4, .int (xk_oI none)), (0, .ref (a 0)), (1, .long pt), (3, .int (nI n))] dS_extend_4 (by decide) rfl ?_
    refine x_iload C dS_extend_6 0 rfl ?_
    refine x_if_lt (tgt := 36) C dS_extend_8 (by decide) (fun _ => ?_) (fun h => absurd (by decide) h)
    refine x_iconst (v := nI 0) C dS_extend_36 (by decide) ?_
    exact x_iret C T .boolean rfl rfl dS_extend_37 (Or.inl (⟨rfl, rfl, (by rw [tc_RS_nil y1 g1]; rfl)⟩))
  ·
    show xk_Go K D 7 0 0 (tc_wS a ca kn nu wo si de la le ro tm nd) [(0, .ref (a 0)), (1, .long pt), (3, .int (nI n))] 4 [.int (nI (ro (tm - 1)))]
    obtain ⟨t, R, rfl⟩ := tc_RS_cons y1 g1
    obtain ⟨z1, z2, z3, z4, z5, z6, z7, z8, z9, z10, z11, z12⟩ := tc_top y1
    have zs : si (ro (tm - 1)) = t.length := by rw [z2]; exact z9
    obtain ⟨x, t', rfl⟩ := tc_hd z5
    obtain ⟨k1, k2, k3, k4⟩ := tc_top_hd y1
    have k11 := k4.1
    have zt := y1.1 _ List.mem_cons_self
    obtain ⟨cn, hcn⟩ : ∃ c, c = x.2.2.length := ⟨_, rfl⟩
    have k64 := k4.2.2.2.2.1
    refine x_istore C [(4, .int (nI (ro (tm - 1)))), (0, .ref (a 0)), (1, .long pt), (3, .int (nI n))] dS_extend_4 (by decide) rfl ?_
    refine x_iload C dS_extend_6 0 rfl ?_
    refine x_if_ltN (tgt := 36) C (by omega) dS_extend_8 (by decide) ?_
    refine x_aload_n C dS_extend_11 rfl 1 rfl ?_
    refine x_get C fgS_9 0 rfl rfl dS_extend_12 ?_
    refine x_iload C dS_extend_15 0 rfl ?_
    refine x_ild C 1 0 rfl rfl (by omega) (by decide) dS_extend_17 ?_
    show xk_Go K D 7 0 0 (tc_wS a ca kn nu wo si de la le ro tm nd) [(4, .int (nI (ro (tm - 1)))), (0, .ref (a 0)), (1, .long pt), (3, .int (nI n))] 18 [.int (nI (kn (ro (tm - 1))))]
    refine x_bipush (v := nI 8) C dS_extend_18 (by decide) ?_
    refine x_icmp_neN (tgt := 36) C (by omega) (by decide) dS_extend_20 (by decide) (fun h20 => ?_) (fun h20 => ?_)
    ·
      refine x_iconst (v := nI 0) C dS_extend_36 (by decide) ?_
      exact x_iret C T .boolean rfl rfl dS_extend_37 (Or.inl (⟨rfl, rfl, (tc_ext_none (Or.inl (fun q => h20 (k1.trans q))))⟩))
    ·
      have zk8 : kn (ro (tm - 1)) = 8 := h20
      have h8 : x.1 = 8 := k1 ▸ h20
      obtain rfl : t' = [] := tc_leaf zt.1 (by rw [h8]; rfl)
      refine x_iload_n C dS_extend_23 rfl 3 rfl ?_
      refine x_bipush (v := nI 64) C dS_extend_24 (by decide) ?_
      refine x_aload_n C dS_extend_26 rfl 1 rfl ?_
      refine x_iload C dS_extend_27 0 rfl ?_
      refine x_callV C (c_S_byteCount D a ca kn nu wo si de la le ro tm nd (ro (tm - 1)) cn (by omega) (by omega) (fun _ => by rw [k2, hcn]; exact k4.2.2.1 h8)) kbS_74 kcS_74 [0, 1, 2, 3, 4, 5, 6, 7, 8] [] [0, 1, 2, 3, 4, 5, 6, 7] ([]) rfl rfl (by decide) (by decide) (by decide) rfl 0 rfl rfl ⟨Nat.le_of_ble_eq_true rfl, Nat.le_of_ble_eq_true rfl⟩ ⟨Nat.le_of_ble_eq_true rfl, Nat.le_of_ble_eq_true rfl⟩ [.int (nI 64), .int (nI n)] rfl rfl (Nat.le_of_ble_eq_true rfl) dS_extend_29 (fun rv ru hw => ?_)
      rcases hw with ⟨rfl, rfl, g1b⟩ | ⟨rfl, rfl, g1b⟩
      ·
        show xk_Go K D 7 0 0 (tc_wS a ca kn nu wo si de la le ro tm nd) [(4, .int (nI (ro (tm - 1)))), (0, .ref (a 0)), (1, .long pt), (3, .int (nI n))] 32 [.int (nI cn), .int (nI 64), .int (nI n)]
        refine x_isubN C (by omega) dS_extend_32 ?_
        refine x_icmp_leN (tgt := 38) C (by omega) (by omega) dS_extend_33 (by decide) (fun h33 => ?_) (fun h33 => ?_)
        ·
          refine x_aload_n C dS_extend_38 rfl 1 rfl ?_
          refine x_iload C dS_extend_39 0 rfl ?_
          refine x_callV C (c_S_byteCount D a ca kn nu wo si de la le ro tm nd (ro (tm - 1)) cn (by omega) (by omega) (fun _ => by rw [k2, hcn]; exact k4.2.2.1 h8)) kbS_74 kcS_74 [0, 1, 2, 3, 4, 5, 6, 7, 8] [] [0, 1, 2, 3, 4, 5, 6, 7] ([]) rfl rfl (by decide) (by decide) (by decide) rfl 0 rfl rfl ⟨Nat.le_of_ble_eq_true rfl, Nat.le_of_ble_eq_true rfl⟩ ⟨Nat.le_of_ble_eq_true rfl, Nat.le_of_ble_eq_true rfl⟩ [] rfl rfl (Nat.le_of_ble_eq_true rfl) dS_extend_41 (fun rv ru hw => ?_)
          rcases hw with ⟨rfl, rfl, g1b⟩ | ⟨rfl, rfl, g1b⟩
          ·
            show xk_Go K D 7 0 0 (tc_wS a ca kn nu wo si de la le ro tm nd) [(4, .int (nI (ro (tm - 1)))), (0, .ref (a 0)), (1, .long pt), (3, .int (nI n))] 44 [.int (nI cn)]
            refine x_istore C [(5, .int (nI cn)), (4, .int (nI (ro (tm - 1)))), (0, .ref (a 0)), (1, .long pt), (3, .int (nI n))] dS_extend_44 (by decide) rfl ?_
            refine x_iconst (v := nI 0) C dS_extend_46 (by decide) ?_
            refine x_istore C [(6, .int (nI 0)), (5, .int (nI cn)), (4, .int (nI (ro (tm - 1)))), (0, .ref (a 0)), (1, .long pt), (3, .int (nI n))] dS_extend_47 (by decide) rfl ?_
            have lp49 : ∀ (zc : Nat) (j : Nat) (wg : Nat → Int64), (n - j) < zc → (j ≤ n) → (∀ q t, t < 64 → tc_wb wg q t = if q = ro (tm - 1) ∧ cn ≤ t ∧ t < cn + j then tc_by pt (n - 1 - (t - cn)) else tc_wb wo q t) → xk_Go K D 7 0 0 (tc_wS a ca kn nu wg si de la le ro tm nd) [(0, .ref (a 0)), (1, .long pt), (3, .int (nI n)), (4, .int (nI (ro (tm - 1)))), (5, .int (nI cn)), (6, .int (nI j))] 49 [] := by
              intro zc
              induction zc with
              | zero => intro j wg hm; exact absurd hm (Nat.not_lt_zero _)
              | succ zc ih49 =>
                intro j wg hm e1 e2
                refine x_iload C dS_extend_49 5 rfl ?_
                refine x_iload_n C dS_extend_51 rfl 2 rfl ?_
                refine x_icmp_geN (tgt := 82) C (by omega) (by omega) dS_extend_52 (by decide) (fun h52 => ?_) (fun h52 => ?_)
                ·
                  refine x_aload_n C dS_extend_82 rfl 0 rfl ?_
                  refine x_get C fgS_15 0 rfl rfl dS_extend_83 ?_
                  refine x_iload C dS_extend_86 3 rfl ?_
                  refine x_iload C dS_extend_88 4 rfl ?_
                  refine x_iload_n C dS_extend_90 rfl 2 rfl ?_
                  refine x_iaddN C dS_extend_91 ?_
                  refine x_i2l (v := lN (cn + n)) C dS_extend_92 (nI_l (by omega)) ?_
                  refine x_lst C 2 1 (tc_wS a ca kn (vp_updL nu (ro (tm - 1)) (lN (cn + n))) wg si de la le ro tm nd) rfl rfl rfl rfl (by omega) (by decide) dS_extend_93 ?_
                  refine x_aload_n C dS_extend_94 rfl 0 rfl ?_
                  refine x_iload C dS_extend_95 3 rfl ?_
                  refine x_callV C (c_S_settle D a ca kn (vp_updL nu (ro (tm - 1)) (lN (cn + n))) wg si de la le ro tm nd (ro (tm - 1)) (cn + n) (by omega) (by simp [zk8]) (fun _ => ⟨pk_uLs, by omega⟩) (fun q hq => by rw [tc_chs_0 (by rw [zk8]; rfl)] at hq; cases hq)) kbS_70 kcS_70 [0, 1, 2, 3, 4, 5, 6, 7, 8] [] [0, 1, 2, 3, 4, 5, 6, 7] ([]) rfl rfl (by decide) (by decide) (by decide) rfl 0 rfl rfl ⟨Nat.le_of_ble_eq_true rfl, Nat.le_of_ble_eq_true rfl⟩ ⟨Nat.le_of_ble_eq_true rfl, Nat.le_of_ble_eq_true rfl⟩ [] rfl rfl (Nat.le_of_ble_eq_true rfl) dS_extend_97 (fun rv ru hw => ?_)
                  obtain ⟨s, dd, l, e, rfl, rfl, g1, g2, g3, g4⟩ := hw
                  show xk_Go K D 7 0 0 (tc_wS a ca kn (vp_updL nu (ro (tm - 1)) (lN (cn + n))) wg (va_up si (ro (tm - 1)) s) (va_up de (ro (tm - 1)) dd) (va_up la (ro (tm - 1)) l) (va_up le (ro (tm - 1)) e) ro tm nd) [(0, .ref (a 0)), (1, .long pt), (3, .int (nI n)), (4, .int (nI (ro (tm - 1)))), (5, .int (nI cn)), (6, .int (nI j))] 100 []
                  rw [zk8, pk_uLs, tc_chs_0 rfl] at g1 g2 g3
                  rw [zk8, pk_uLs, tc_chs_0 rfl] at g4
                  refine x_iconst (v := nI 1) C dS_extend_100 (by decide) ?_
                  have ejn : j = n := by omega
                  rw [ejn] at e2
                  exact x_iret C T .boolean rfl rfl dS_extend_101 (Or.inr (⟨_, _, _, _, _, _, _, _, _, _, ([(8, lN (x.2.2.length + n), x.2.2 ++ tc_bts pt n)] :: R), rfl, rfl, (tc_ext_some h8 (by omega)), (tc_ext_RS y1 h8 hcn (by omega) e2 g1 g2 g3 g4)⟩))
                ·
                  refine x_aload_n C dS_extend_55 rfl 0 rfl ?_
                  refine x_iload C dS_extend_56 3 rfl ?_
                  refine x_iload C dS_extend_58 4 rfl ?_
                  refine x_iload C dS_extend_60 5 rfl ?_
                  refine x_iaddN C dS_extend_62 ?_
                  refine x_lload_n C dS_extend_63 rfl 1 rfl ?_
                  refine x_iload_n C dS_extend_64 rfl 2 rfl ?_
                  refine x_iconst (v := nI 1) C dS_extend_65 (by decide) ?_
                  refine x_isubN C (by omega) dS_extend_66 ?_
                  refine x_iload C dS_extend_67 5 rfl ?_
                  refine x_isubN C (by omega) dS_extend_69 ?_
                  refine x_callS C (c_F_byteOf D pt (n - 1 - j) (by omega)) kbS_48 kcS_48 [] [0, 1, 2, 3, 4, 5, 6, 7, 8] [] (tc_wS a ca kn nu wg si de la le ro tm nd) rfl rfl (by decide) (by decide) (by decide) rfl ⟨Nat.le_of_ble_eq_true rfl, Nat.le_of_ble_eq_true rfl⟩ ⟨Nat.le_of_ble_eq_true rfl, Nat.le_of_ble_eq_true rfl⟩ [.int (nI (cn + j)), .int (nI (ro (tm - 1))), .ref (a 0)] rfl rfl (Nat.le_of_ble_eq_true rfl) dS_extend_70 (fun rv ru hw => ?_)
                  obtain ⟨rfl, rfl⟩ := hw
                  show xk_Go K D 7 0 0 (tc_wS a ca kn nu wg si de la le ro tm nd) [(0, .ref (a 0)), (1, .long pt), (3, .int (nI n)), (4, .int (nI (ro (tm - 1)))), (5, .int (nI cn)), (6, .int (nI j))] 73 [.int (nI (tc_by pt (n - 1 - j))), .int (nI (cn + j)), .int (nI (ro (tm - 1))), .ref (a 0)]
                  refine x_callV C (c_S_setByte D a ca kn nu wg si de la le ro tm nd (ro (tm - 1)) (cn + j) (tc_by pt (n - 1 - j)) (by omega) (by omega) (tc_by_lt _ _)) kbS_77 kcS_77 [0, 1, 2, 3, 4, 5, 6, 7, 8] [] [0, 1, 2, 3, 4, 5, 6, 7] ([]) rfl rfl (by decide) (by decide) (by decide) rfl 0 rfl rfl ⟨Nat.le_of_ble_eq_true rfl, Nat.le_of_ble_eq_true rfl⟩ ⟨Nat.le_of_ble_eq_true rfl, Nat.le_of_ble_eq_true rfl⟩ [] rfl rfl (Nat.le_of_ble_eq_true rfl) dS_extend_73 (fun rv ru hw => ?_)
                  obtain ⟨wh, rfl, rfl, gs⟩ := hw
                  show xk_Go K D 7 0 0 (tc_wS a ca kn nu wh si de la le ro tm nd) [(0, .ref (a 0)), (1, .long pt), (3, .int (nI n)), (4, .int (nI (ro (tm - 1)))), (5, .int (nI cn)), (6, .int (nI j))] 76 []
                  refine x_iinc (q := 5) C (nI (j + 1)) [(6, .int (nI (j + 1))), (0, .ref (a 0)), (1, .long pt), (3, .int (nI n)), (4, .int (nI (ro (tm - 1)))), (5, .int (nI cn))] dS_extend_76 rfl (nI_add j 1) (by decide) rfl ?_
                  refine x_goto C 49 dS_extend_79 (by decide) ?_
                  exact x_sub [1, 2, 3, 4, 5, 0] rfl (ih49 (j + 1) wh (by omega) (by omega) (tc_ext_step e2 gs))
            exact x_sub [3, 4, 5, 2, 1, 0] rfl (lp49 _ 0 wo (Nat.lt_succ_self _) (Nat.zero_le _) (fun q t ht => by rw [if_neg (fun z => by omega)]))
          ·
            show xk_Go K D 7 0 0 (tc_wS a ca kn nu wo si de la le ro tm nd) [(4, .int (nI (ro (tm - 1)))), (0, .ref (a 0)), (1, .long pt), (3, .int (nI n))] 44 [.int (xk_oI none)]
            exact absurd zk8 g1b
        ·
          refine x_iconst (v := nI 0) C dS_extend_36 (by decide) ?_
          exact x_iret C T .boolean rfl rfl dS_extend_37 (Or.inl (⟨rfl, rfl, (tc_ext_none (Or.inr (by omega)))⟩))
      ·
        show xk_Go K D 7 0 0 (tc_wS a ca kn nu wo si de la le ro tm nd) [(4, .int (nI (ro (tm - 1)))), (0, .ref (a 0)), (1, .long pt), (3, .int (nI n))] 32 [.int (xk_oI none), .int (nI 64), .int (nI n)]
        exact absurd zk8 g1b
end
section
set_option maxHeartbeats 4000000 in
set_option maxRecDepth 100000 in
/-- openLast -/
theorem c_S_openLast (D : va_G) (a : Nat → Nat) (ca : Nat → ClassId) (kn : Nat → Nat) (nu : Nat → Int64) (wo : Nat → Int64) (si : Nat → Nat) (de : Nat → Nat) (la : Nat → Nat) (le : Nat → Nat) (ro : Nat → Nat) (tm : Nat) (nd : Nat) (Ts : List (List tc_Nd)) (y1 : tc_RS Ts (kn, nu, wo, si, de, la, le) ro tm nd) : xk_Ct yS_openLast cS_openLast 5 (some .int) { frames := 2, cells := 0, slots := 0, locals := 123 } D (tc_tS ca) [.ref (a 0)] (tc_wS a ca kn nu wo si de la le ro tm nd) (fun rv ru => (rv = some (.int (xk_oI none)) ∧ ru = tc_wS a ca kn nu wo si de la le ro tm nd ∧ (tc_opn Ts = none)) ∨ (∃ (n : Nat), ∃ (kg : Nat → Nat), ∃ (ug : Nat → Int64), ∃ (wg : Nat → Int64), ∃ (sg : Nat → Nat), ∃ (dg : Nat → Nat), ∃ (lg : Nat → Nat), ∃ (eg : Nat → Nat), ∃ (rg : Nat → Nat), ∃ (tg : Nat), ∃ (ng : Nat), ∃ (Tn : List (List tc_Nd)), rv = some (.int (nI n)) ∧ ru = tc_wS a ca kg ug wg sg dg lg eg rg tg ng ∧ (tc_opn Ts = some (n, Tn)) ∧ (tc_RS Tn (kg, ug, wg, sg, dg, lg, eg) rg tg ng))) := by
  refine xk_enter (by decide) (Nat.le_of_ble_eq_true rfl) (fun K C T hin => ?_)
  show xk_Go K D 5 0 0 (tc_wS a ca kn nu wo si de la le ro tm nd) [(0, .ref (a 0))] 0 []
  refine x_aload_n C dS_openLast_0 rfl 0 rfl ?_
  refine x_callV C (c_S_lastRoot D a ca kn nu wo si de la le ro tm nd ((tc_RS_tm y1).1)) kbS_44 kcS_44 [0, 1, 2, 3, 4, 5, 6, 7, 8] [] [0, 1, 2, 3, 4, 5, 6, 7] ([]) rfl rfl (by decide) (by decide) (by decide) rfl 0 rfl rfl ⟨Nat.le_of_ble_eq_true rfl, Nat.le_of_ble_eq_true rfl⟩ ⟨Nat.le_of_ble_eq_true rfl, Nat.le_of_ble_eq_true rfl⟩ [] rfl rfl (Nat.le_of_ble_eq_true rfl) dS_openLast_1 (fun rv ru hw => ?_)
  rcases hw with ⟨rfl, rfl, g1⟩ | ⟨rfl, rfl, g1⟩
  ·
    show xk_Go K D 5 0 0 (tc_wS a ca kn nu wo si de la le ro tm nd) [(0, .ref (a 0))] 4 [.int (xk_oI none)]
    refine x_istore_n C [(1, .int (xk_oI none)), (0, .ref (a 0))] dS_openLast_4 rfl (by decide) rfl ?_
    refine x_iload_n C dS_openLast_5 rfl 0 rfl ?_
    refine x_if_lt (tgt := 21) C dS_openLast_6 (by decide) (fun _ => ?_) (fun h => absurd (by decide) h)
    refine x_iconst (v := xk_oI none) C dS_openLast_21 (by decide) ?_
    exact x_iret C T .int rfl rfl dS_openLast_22 (Or.inl (⟨rfl, rfl, (by rw [tc_RS_nil y1 g1]; rfl)⟩))
  ·
    show xk_Go K D 5 0 0 (tc_wS a ca kn nu wo si de la le ro tm nd) [(0, .ref (a 0))] 4 [.int (nI (ro (tm - 1)))]
    obtain ⟨t, R, rfl⟩ := tc_RS_cons y1 g1
    obtain ⟨z1, z2, z3, z4, z5, z6, z7, z8, z9, z10, z11, z12⟩ := tc_top y1
    have zs : si (ro (tm - 1)) = t.length := by rw [z2]; exact z9
    obtain ⟨x, t', rfl⟩ := tc_hd z5
    obtain ⟨k1, k2, k3, k4⟩ := tc_top_hd y1
    have k11 := k4.1
    have zt := y1.1 _ List.mem_cons_self
    have zlc : (x :: t').length = t'.length + 1 := rfl
    refine x_istore_n C [(1, .int (nI (ro (tm - 1)))), (0, .ref (a 0))] dS_openLast_4 rfl (by decide) rfl ?_
    refine x_iload_n C dS_openLast_5 rfl 0 rfl ?_
    refine x_if_ltN (tgt := 21) C (by omega) dS_openLast_6 (by decide) ?_
    refine x_aload_n C dS_openLast_9 rfl 1 rfl ?_
    refine x_get C fgS_9 0 rfl rfl dS_openLast_10 ?_
    refine x_iload_n C dS_openLast_13 rfl 0 rfl ?_
    refine x_ild C 1 0 rfl rfl (by omega) (by decide) dS_openLast_14 ?_
    show xk_Go K D 5 0 0 (tc_wS a ca kn nu wo si de la le ro tm nd) [(1, .int (nI (ro (tm - 1)))), (0, .ref (a 0))] 15 [.int (nI (kn (ro (tm - 1))))]
    refine x_callS C (c_F_partsOf D (kn (ro (tm - 1))) (by omega)) kbS_58 kcS_58 [] [0, 1, 2, 3, 4, 5, 6, 7, 8] [] (tc_wS a ca kn nu wo si de la le ro tm nd) rfl rfl (by decide) (by decide) (by decide) rfl ⟨Nat.le_of_ble_eq_true rfl, Nat.le_of_ble_eq_true rfl⟩ ⟨Nat.le_of_ble_eq_true rfl, Nat.le_of_ble_eq_true rfl⟩ [] rfl rfl (Nat.le_of_ble_eq_true rfl) dS_openLast_15 (fun rv ru hw => ?_)
    obtain ⟨rfl, rfl⟩ := hw
    show xk_Go K D 5 0 0 (tc_wS a ca kn nu wo si de la le ro tm nd) [(1, .int (nI (ro (tm - 1)))), (0, .ref (a 0))] 18 [.int (nI (tc_tk (kn (ro (tm - 1)))))]
    have ztk := tc_tk_le (kn (ro (tm - 1)))
    refine x_if_neN (tgt := 23) C (by omega) dS_openLast_18 (by decide) (fun h18 => ?_) (fun h18 => ?_)
    ·
      refine x_aload_n C dS_openLast_23 rfl 1 rfl ?_
      refine x_get C fgS_9 0 rfl rfl dS_openLast_24 ?_
      refine x_iload_n C dS_openLast_27 rfl 0 rfl ?_
      refine x_ild C 1 0 rfl rfl (by omega) (by decide) dS_openLast_28 ?_
      show xk_Go K D 5 0 0 (tc_wS a ca kn nu wo si de la le ro tm nd) [(1, .int (nI (ro (tm - 1)))), (0, .ref (a 0))] 29 [.int (nI (kn (ro (tm - 1))))]
      refine x_callS C (c_F_partsOf D (kn (ro (tm - 1))) (by omega)) kbS_58 kcS_58 [] [0, 1, 2, 3, 4, 5, 6, 7, 8] [] (tc_wS a ca kn nu wo si de la le ro tm nd) rfl rfl (by decide) (by decide) (by decide) rfl ⟨Nat.le_of_ble_eq_true rfl, Nat.le_of_ble_eq_true rfl⟩ ⟨Nat.le_of_ble_eq_true rfl, Nat.le_of_ble_eq_true rfl⟩ [] rfl rfl (Nat.le_of_ble_eq_true rfl) dS_openLast_29 (fun rv ru hw => ?_)
      obtain ⟨rfl, rfl⟩ := hw
      show xk_Go K D 5 0 0 (tc_wS a ca kn nu wo si de la le ro tm nd) [(1, .int (nI (ro (tm - 1)))), (0, .ref (a 0))] 32 [.int (nI (tc_tk (kn (ro (tm - 1)))))]
      rcases tc_tk3 (kn (ro (tm - 1))) with hk | hk | hk
      ·
        exact absurd hk h18
      ·
        rw [hk]
        have hk' : tc_tk x.1 = 1 := k1 ▸ hk
        have zP : tc_wf 1 t' := by have := tc_parts zt.1; rwa [hk'] at this
        have zp := tc_wf_pos zP
        refine x_istore_n C [(2, .int (nI 1)), (1, .int (nI (ro (tm - 1)))), (0, .ref (a 0))] dS_openLast_32 rfl (by decide) rfl ?_
        refine x_aload_n C dS_openLast_33 rfl 2 rfl ?_
        refine x_iload_n C dS_openLast_34 rfl 1 rfl ?_
        refine x_iconst (v := nI 1) C dS_openLast_35 (by decide) ?_
        refine x_iaddN C dS_openLast_36 ?_
        refine x_iload_n C dS_openLast_37 rfl 1 rfl ?_
        refine x_aload_n C dS_openLast_38 rfl 2 rfl ?_
        refine x_get C fgS_41 0 rfl rfl dS_openLast_39 ?_
        refine x_iload_n C dS_openLast_42 rfl 1 rfl ?_
        refine x_isubN C (by omega) dS_openLast_43 ?_
        refine x_iconst (v := nI 1) C dS_openLast_44 (by decide) ?_
        refine x_isubN C (by omega) dS_openLast_45 ?_
        refine x_callV C (c_S_copyNodes D a ca kn nu wo si de la le ro tm nd (ro (tm - 1) + 1) (ro (tm - 1)) (nd - (ro (tm - 1)) - 1) (by omega) (by omega)) kbS_62 kcS_62 [0, 1, 2, 3, 4, 5, 6, 7, 8] [] [0, 1, 2, 3, 4, 5, 6, 7] ([]) rfl rfl (by decide) (by decide) (by decide) rfl 0 rfl rfl ⟨Nat.le_of_ble_eq_true rfl, Nat.le_of_ble_eq_true rfl⟩ ⟨Nat.le_of_ble_eq_true rfl, Nat.le_of_ble_eq_true rfl⟩ [] rfl rfl (Nat.le_of_ble_eq_true rfl) dS_openLast_46 (fun rv ru hw => ?_)
        obtain ⟨rfl, rfl⟩ := hw
        show xk_Go K D 5 0 0 (tc_wS a ca (va_cpy kn kn (ro (tm - 1) + 1) (ro (tm - 1)) (nd - (ro (tm - 1)) - 1)) (va_cpy nu nu (ro (tm - 1) + 1) (ro (tm - 1)) (nd - (ro (tm - 1)) - 1)) (va_cpy wo wo ((ro (tm - 1) + 1) * 8) ((ro (tm - 1)) * 8) ((nd - (ro (tm - 1)) - 1) * 8)) (va_cpy si si (ro (tm - 1) + 1) (ro (tm - 1)) (nd - (ro (tm - 1)) - 1)) (va_cpy de de (ro (tm - 1) + 1) (ro (tm - 1)) (nd - (ro (tm - 1)) - 1)) (va_cpy la la (ro (tm - 1) + 1) (ro (tm - 1)) (nd - (ro (tm - 1)) - 1)) (va_cpy le le (ro (tm - 1) + 1) (ro (tm - 1)) (nd - (ro (tm - 1)) - 1)) ro tm nd) [(2, .int (nI 1)), (1, .int (nI (ro (tm - 1)))), (0, .ref (a 0))] 49 []
        refine x_aload_n C dS_openLast_49 rfl 2 rfl ?_
        refine x_dup C dS_openLast_50 rfl ?_
        refine x_get C fgS_41 0 rfl rfl dS_openLast_51 ?_
        refine x_iconst (v := nI 1) C dS_openLast_54 (by decide) ?_
        refine x_isubN C (by omega) dS_openLast_55 ?_
        refine x_put C fpS_41 0 (tc_wS a ca (va_cpy kn kn (ro (tm - 1) + 1) (ro (tm - 1)) (nd - (ro (tm - 1)) - 1)) (va_cpy nu nu (ro (tm - 1) + 1) (ro (tm - 1)) (nd - (ro (tm - 1)) - 1)) (va_cpy wo wo ((ro (tm - 1) + 1) * 8) ((ro (tm - 1)) * 8) ((nd - (ro (tm - 1)) - 1) * 8)) (va_cpy si si (ro (tm - 1) + 1) (ro (tm - 1)) (nd - (ro (tm - 1)) - 1)) (va_cpy de de (ro (tm - 1) + 1) (ro (tm - 1)) (nd - (ro (tm - 1)) - 1)) (va_cpy la la (ro (tm - 1) + 1) (ro (tm - 1)) (nd - (ro (tm - 1)) - 1)) (va_cpy le le (ro (tm - 1) + 1) (ro (tm - 1)) (nd - (ro (tm - 1)) - 1)) ro tm (nd - 1)) rfl rfl rfl rfl (Nat.le_of_ble_eq_true rfl) dS_openLast_56 ?_
        refine x_aload_n C dS_openLast_59 rfl 2 rfl ?_
        refine x_dup C dS_openLast_60 rfl ?_
        refine x_get C fgS_37 0 rfl rfl dS_openLast_61 ?_
        refine x_iconst (v := nI 1) C dS_openLast_64 (by decide) ?_
        refine x_isubN C (by omega) dS_openLast_65 ?_
        refine x_put C fpS_37 0 (tc_wS a ca (va_cpy kn kn (ro (tm - 1) + 1) (ro (tm - 1)) (nd - (ro (tm - 1)) - 1)) (va_cpy nu nu (ro (tm - 1) + 1) (ro (tm - 1)) (nd - (ro (tm - 1)) - 1)) (va_cpy wo wo ((ro (tm - 1) + 1) * 8) ((ro (tm - 1)) * 8) ((nd - (ro (tm - 1)) - 1) * 8)) (va_cpy si si (ro (tm - 1) + 1) (ro (tm - 1)) (nd - (ro (tm - 1)) - 1)) (va_cpy de de (ro (tm - 1) + 1) (ro (tm - 1)) (nd - (ro (tm - 1)) - 1)) (va_cpy la la (ro (tm - 1) + 1) (ro (tm - 1)) (nd - (ro (tm - 1)) - 1)) (va_cpy le le (ro (tm - 1) + 1) (ro (tm - 1)) (nd - (ro (tm - 1)) - 1)) ro (tm - 1) (nd - 1)) rfl rfl rfl rfl (Nat.le_of_ble_eq_true rfl) dS_openLast_66 ?_
        refine x_iload_n C dS_openLast_69 rfl 1 rfl ?_
        refine x_istore_n C [(3, .int (nI (ro (tm - 1)))), (2, .int (nI 1)), (1, .int (nI (ro (tm - 1)))), (0, .ref (a 0))] dS_openLast_70 rfl (by decide) rfl ?_
        refine x_iconst (v := nI 0) C dS_openLast_71 (by decide) ?_
        refine x_istore C [(4, .int (nI 0)), (3, .int (nI (ro (tm - 1)))), (2, .int (nI 1)), (1, .int (nI (ro (tm - 1)))), (0, .ref (a 0))] dS_openLast_72 (by decide) rfl ?_
        refine x_iload C dS_openLast_74 0 rfl ?_
        refine x_iload_n C dS_openLast_76 rfl 2 rfl ?_
        refine x_icmp_ge (tgt := 108) C dS_openLast_77 (by decide) (fun h => absurd h (by decide)) (fun _ => ?_)
        refine x_iload_n C dS_openLast_80 rfl 1 rfl ?_
        refine x_aload_n C dS_openLast_81 rfl 4 rfl ?_
        refine x_get C fgS_41 0 rfl rfl dS_openLast_82 ?_
        refine x_icmp_geN (tgt := 108) C (by omega) (by omega) dS_openLast_85 (by decide) (fun h85 => ?_) (fun h85 => ?_)
        ·
          exact absurd h85 (by omega)
        ·
          refine x_aload_n C dS_openLast_88 rfl 4 rfl ?_
          refine x_iload_n C dS_openLast_89 rfl 1 rfl ?_
          refine x_callV C (c_S_pushTerm D a ca (va_cpy kn kn (ro (tm - 1) + 1) (ro (tm - 1)) (nd - (ro (tm - 1)) - 1)) (va_cpy nu nu (ro (tm - 1) + 1) (ro (tm - 1)) (nd - (ro (tm - 1)) - 1)) (va_cpy wo wo ((ro (tm - 1) + 1) * 8) ((ro (tm - 1)) * 8) ((nd - (ro (tm - 1)) - 1) * 8)) (va_cpy si si (ro (tm - 1) + 1) (ro (tm - 1)) (nd - (ro (tm - 1)) - 1)) (va_cpy de de (ro (tm - 1) + 1) (ro (tm - 1)) (nd - (ro (tm - 1)) - 1)) (va_cpy la la (ro (tm - 1) + 1) (ro (tm - 1)) (nd - (ro (tm - 1)) - 1)) (va_cpy le le (ro (tm - 1) + 1) (ro (tm - 1)) (nd - (ro (tm - 1)) - 1)) ro (tm - 1) (nd - 1) (ro (tm - 1)) (by omega)) kbS_80 kcS_80 [0, 1, 2, 3, 4, 5, 6, 7, 8] [] [0, 1, 2, 3, 4, 5, 6, 7] ([]) rfl rfl (by decide) (by decide) (by decide) rfl 0 rfl rfl ⟨Nat.le_of_ble_eq_true rfl, Nat.le_of_ble_eq_true rfl⟩ ⟨Nat.le_of_ble_eq_true rfl, Nat.le_of_ble_eq_true rfl⟩ [] rfl rfl (Nat.le_of_ble_eq_true rfl) dS_openLast_90 (fun rv ru hw => ?_)
          obtain ⟨rfl, rfl⟩ := hw
          show xk_Go K D 5 0 0 (tc_wS a ca (va_cpy kn kn (ro (tm - 1) + 1) (ro (tm - 1)) (nd - (ro (tm - 1)) - 1)) (va_cpy nu nu (ro (tm - 1) + 1) (ro (tm - 1)) (nd - (ro (tm - 1)) - 1)) (va_cpy wo wo ((ro (tm - 1) + 1) * 8) ((ro (tm - 1)) * 8) ((nd - (ro (tm - 1)) - 1) * 8)) (va_cpy si si (ro (tm - 1) + 1) (ro (tm - 1)) (nd - (ro (tm - 1)) - 1)) (va_cpy de de (ro (tm - 1) + 1) (ro (tm - 1)) (nd - (ro (tm - 1)) - 1)) (va_cpy la la (ro (tm - 1) + 1) (ro (tm - 1)) (nd - (ro (tm - 1)) - 1)) (va_cpy le le (ro (tm - 1) + 1) (ro (tm - 1)) (nd - (ro (tm - 1)) - 1)) (va_up ro (tm - 1) (ro (tm - 1))) ((tm - 1) + 1) (nd - 1)) [(4, .int (nI 0)), (3, .int (nI (ro (tm - 1)))), (2, .int (nI 1)), (1, .int (nI (ro (tm - 1)))), (0, .ref (a 0))] 93 []
          refine x_iload_n C dS_openLast_93 rfl 1 rfl ?_
          refine x_aload_n C dS_openLast_94 rfl 4 rfl ?_
          refine x_get C fgS_22 0 rfl rfl dS_openLast_95 ?_
          refine x_iload_n C dS_openLast_98 rfl 1 rfl ?_
          refine x_ild C 4 3 rfl rfl (by omega) (by decide) dS_openLast_99 ?_
          show xk_Go K D 5 0 0 (tc_wS a ca (va_cpy kn kn (ro (tm - 1) + 1) (ro (tm - 1)) (nd - (ro (tm - 1)) - 1)) (va_cpy nu nu (ro (tm - 1) + 1) (ro (tm - 1)) (nd - (ro (tm - 1)) - 1)) (va_cpy wo wo ((ro (tm - 1) + 1) * 8) ((ro (tm - 1)) * 8) ((nd - (ro (tm - 1)) - 1) * 8)) (va_cpy si si (ro (tm - 1) + 1) (ro (tm - 1)) (nd - (ro (tm - 1)) - 1)) (va_cpy de de (ro (tm - 1) + 1) (ro (tm - 1)) (nd - (ro (tm - 1)) - 1)) (va_cpy la la (ro (tm - 1) + 1) (ro (tm - 1)) (nd - (ro (tm - 1)) - 1)) (va_cpy le le (ro (tm - 1) + 1) (ro (tm - 1)) (nd - (ro (tm - 1)) - 1)) (va_up ro (tm - 1) (ro (tm - 1))) ((tm - 1) + 1) (nd - 1)) [(4, .int (nI 0)), (3, .int (nI (ro (tm - 1)))), (2, .int (nI 1)), (1, .int (nI (ro (tm - 1)))), (0, .ref (a 0))] 100 [.int (nI ((va_cpy si si (ro (tm - 1) + 1) (ro (tm - 1)) (nd - (ro (tm - 1)) - 1)) (ro (tm - 1)))), .int (nI (ro (tm - 1)))]
          refine x_iaddN C dS_openLast_100 ?_
          refine x_istore_n C [(3, .int (nI (ro (tm - 1) + ((va_cpy si si (ro (tm - 1) + 1) (ro (tm - 1)) (nd - (ro (tm - 1)) - 1)) (ro (tm - 1)))))), (4, .int (nI 0)), (2, .int (nI 1)), (1, .int (nI (ro (tm - 1)))), (0, .ref (a 0))] dS_openLast_101 rfl (by decide) rfl ?_
          refine x_iinc (q := 1) C (nI 1) [(4, .int (nI 1)), (3, .int (nI (ro (tm - 1) + ((va_cpy si si (ro (tm - 1) + 1) (ro (tm - 1)) (nd - (ro (tm - 1)) - 1)) (ro (tm - 1)))))), (2, .int (nI 1)), (1, .int (nI (ro (tm - 1)))), (0, .ref (a 0))] dS_openLast_102 rfl (by decide) (by decide) rfl ?_
          refine x_goto C 74 dS_openLast_105 (by decide) ?_
          refine x_iload C dS_openLast_74 0 rfl ?_
          refine x_iload_n C dS_openLast_76 rfl 2 rfl ?_
          refine x_icmp_ge (tgt := 108) C dS_openLast_77 (by decide) (fun _ => ?_) (fun h => absurd (by decide) h)
          refine x_iload_n C dS_openLast_108 rfl 2 rfl ?_
          exact x_iret C T .int rfl rfl dS_openLast_109 (Or.inr (⟨1, _, _, _, _, _, _, _, _, _, _, (t' :: R), rfl, rfl, (tc_opn_1 hk'), (tc_opn_RS1 y1 hk' z2 (by omega))⟩))
      ·
        rw [hk]
        have hk' : tc_tk x.1 = 2 := k1 ▸ hk
        have zP : tc_wf 2 t' := by have := tc_parts zt.1; rwa [hk'] at this
        obtain ⟨zA, zB, ze, zel, zep, zep2⟩ := tc_halves zP
        have zq : va_cpy si si (ro (tm - 1) + 1) (ro (tm - 1)) (nd - (ro (tm - 1)) - 1) (ro (tm - 1)) = tc_sz t' := tc_opn_si y1 z2 (by omega) (by omega)
        refine x_istore_n C [(2, .int (nI 2)), (1, .int (nI (ro (tm - 1)))), (0, .ref (a 0))] dS_openLast_32 rfl (by decide) rfl ?_
        refine x_aload_n C dS_openLast_33 rfl 2 rfl ?_
        refine x_iload_n C dS_openLast_34 rfl 1 rfl ?_
        refine x_iconst (v := nI 1) C dS_openLast_35 (by decide) ?_
        refine x_iaddN C dS_openLast_36 ?_
        refine x_iload_n C dS_openLast_37 rfl 1 rfl ?_
        refine x_aload_n C dS_openLast_38 rfl 2 rfl ?_
        refine x_get C fgS_41 0 rfl rfl dS_openLast_39 ?_
        refine x_iload_n C dS_openLast_42 rfl 1 rfl ?_
        refine x_isubN C (by omega) dS_openLast_43 ?_
        refine x_iconst (v := nI 1) C dS_openLast_44 (by decide) ?_
        refine x_isubN C (by omega) dS_openLast_45 ?_
        refine x_callV C (c_S_copyNodes D a ca kn nu wo si de la le ro tm nd (ro (tm - 1) + 1) (ro (tm - 1)) (nd - (ro (tm - 1)) - 1) (by omega) (by omega)) kbS_62 kcS_62 [0, 1, 2, 3, 4, 5, 6, 7, 8] [] [0, 1, 2, 3, 4, 5, 6, 7] ([]) rfl rfl (by decide) (by decide) (by decide) rfl 0 rfl rfl ⟨Nat.le_of_ble_eq_true rfl, Nat.le_of_ble_eq_true rfl⟩ ⟨Nat.le_of_ble_eq_true rfl, Nat.le_of_ble_eq_true rfl⟩ [] rfl rfl (Nat.le_of_ble_eq_true rfl) dS_openLast_46 (fun rv ru hw => ?_)
        obtain ⟨rfl, rfl⟩ := hw
        show xk_Go K D 5 0 0 (tc_wS a ca (va_cpy kn kn (ro (tm - 1) + 1) (ro (tm - 1)) (nd - (ro (tm - 1)) - 1)) (va_cpy nu nu (ro (tm - 1) + 1) (ro (tm - 1)) (nd - (ro (tm - 1)) - 1)) (va_cpy wo wo ((ro (tm - 1) + 1) * 8) ((ro (tm - 1)) * 8) ((nd - (ro (tm - 1)) - 1) * 8)) (va_cpy si si (ro (tm - 1) + 1) (ro (tm - 1)) (nd - (ro (tm - 1)) - 1)) (va_cpy de de (ro (tm - 1) + 1) (ro (tm - 1)) (nd - (ro (tm - 1)) - 1)) (va_cpy la la (ro (tm - 1) + 1) (ro (tm - 1)) (nd - (ro (tm - 1)) - 1)) (va_cpy le le (ro (tm - 1) + 1) (ro (tm - 1)) (nd - (ro (tm - 1)) - 1)) ro tm nd) [(2, .int (nI 2)), (1, .int (nI (ro (tm - 1)))), (0, .ref (a 0))] 49 []
        refine x_aload_n C dS_openLast_49 rfl 2 rfl ?_
        refine x_dup C dS_openLast_50 rfl ?_
        refine x_get C fgS_41 0 rfl rfl dS_openLast_51 ?_
        refine x_iconst (v := nI 1) C dS_openLast_54 (by decide) ?_
        refine x_isubN C (by omega) dS_openLast_55 ?_
        refine x_put C fpS_41 0 (tc_wS a ca (va_cpy kn kn (ro (tm - 1) + 1) (ro (tm - 1)) (nd - (ro (tm - 1)) - 1)) (va_cpy nu nu (ro (tm - 1) + 1) (ro (tm - 1)) (nd - (ro (tm - 1)) - 1)) (va_cpy wo wo ((ro (tm - 1) + 1) * 8) ((ro (tm - 1)) * 8) ((nd - (ro (tm - 1)) - 1) * 8)) (va_cpy si si (ro (tm - 1) + 1) (ro (tm - 1)) (nd - (ro (tm - 1)) - 1)) (va_cpy de de (ro (tm - 1) + 1) (ro (tm - 1)) (nd - (ro (tm - 1)) - 1)) (va_cpy la la (ro (tm - 1) + 1) (ro (tm - 1)) (nd - (ro (tm - 1)) - 1)) (va_cpy le le (ro (tm - 1) + 1) (ro (tm - 1)) (nd - (ro (tm - 1)) - 1)) ro tm (nd - 1)) rfl rfl rfl rfl (Nat.le_of_ble_eq_true rfl) dS_openLast_56 ?_
        refine x_aload_n C dS_openLast_59 rfl 2 rfl ?_
        refine x_dup C dS_openLast_60 rfl ?_
        refine x_get C fgS_37 0 rfl rfl dS_openLast_61 ?_
        refine x_iconst (v := nI 1) C dS_openLast_64 (by decide) ?_
        refine x_isubN C (by omega) dS_openLast_65 ?_
        refine x_put C fpS_37 0 (tc_wS a ca (va_cpy kn kn (ro (tm - 1) + 1) (ro (tm - 1)) (nd - (ro (tm - 1)) - 1)) (va_cpy nu nu (ro (tm - 1) + 1) (ro (tm - 1)) (nd - (ro (tm - 1)) - 1)) (va_cpy wo wo ((ro (tm - 1) + 1) * 8) ((ro (tm - 1)) * 8) ((nd - (ro (tm - 1)) - 1) * 8)) (va_cpy si si (ro (tm - 1) + 1) (ro (tm - 1)) (nd - (ro (tm - 1)) - 1)) (va_cpy de de (ro (tm - 1) + 1) (ro (tm - 1)) (nd - (ro (tm - 1)) - 1)) (va_cpy la la (ro (tm - 1) + 1) (ro (tm - 1)) (nd - (ro (tm - 1)) - 1)) (va_cpy le le (ro (tm - 1) + 1) (ro (tm - 1)) (nd - (ro (tm - 1)) - 1)) ro (tm - 1) (nd - 1)) rfl rfl rfl rfl (Nat.le_of_ble_eq_true rfl) dS_openLast_66 ?_
        refine x_iload_n C dS_openLast_69 rfl 1 rfl ?_
        refine x_istore_n C [(3, .int (nI (ro (tm - 1)))), (2, .int (nI 2)), (1, .int (nI (ro (tm - 1)))), (0, .ref (a 0))] dS_openLast_70 rfl (by decide) rfl ?_
        refine x_iconst (v := nI 0) C dS_openLast_71 (by decide) ?_
        refine x_istore C [(4, .int (nI 0)), (3, .int (nI (ro (tm - 1)))), (2, .int (nI 2)), (1, .int (nI (ro (tm - 1)))), (0, .ref (a 0))] dS_openLast_72 (by decide) rfl ?_
        refine x_iload C dS_openLast_74 0 rfl ?_
        refine x_iload_n C dS_openLast_76 rfl 2 rfl ?_
        refine x_icmp_ge (tgt := 108) C dS_openLast_77 (by decide) (fun h => absurd h (by decide)) (fun _ => ?_)
        refine x_iload_n C dS_openLast_80 rfl 1 rfl ?_
        refine x_aload_n C dS_openLast_81 rfl 4 rfl ?_
        refine x_get C fgS_41 0 rfl rfl dS_openLast_82 ?_
        refine x_icmp_geN (tgt := 108) C (by omega) (by omega) dS_openLast_85 (by decide) (fun h85 => ?_) (fun h85 => ?_)
        ·
          exact absurd h85 (by omega)
        ·
          refine x_aload_n C dS_openLast_88 rfl 4 rfl ?_
          refine x_iload_n C dS_openLast_89 rfl 1 rfl ?_
          refine x_callV C (c_S_pushTerm D a ca (va_cpy kn kn (ro (tm - 1) + 1) (ro (tm - 1)) (nd - (ro (tm - 1)) - 1)) (va_cpy nu nu (ro (tm - 1) + 1) (ro (tm - 1)) (nd - (ro (tm - 1)) - 1)) (va_cpy wo wo ((ro (tm - 1) + 1) * 8) ((ro (tm - 1)) * 8) ((nd - (ro (tm - 1)) - 1) * 8)) (va_cpy si si (ro (tm - 1) + 1) (ro (tm - 1)) (nd - (ro (tm - 1)) - 1)) (va_cpy de de (ro (tm - 1) + 1) (ro (tm - 1)) (nd - (ro (tm - 1)) - 1)) (va_cpy la la (ro (tm - 1) + 1) (ro (tm - 1)) (nd - (ro (tm - 1)) - 1)) (va_cpy le le (ro (tm - 1) + 1) (ro (tm - 1)) (nd - (ro (tm - 1)) - 1)) ro (tm - 1) (nd - 1) (ro (tm - 1)) (by omega)) kbS_80 kcS_80 [0, 1, 2, 3, 4, 5, 6, 7, 8] [] [0, 1, 2, 3, 4, 5, 6, 7] ([]) rfl rfl (by decide) (by decide) (by decide) rfl 0 rfl rfl ⟨Nat.le_of_ble_eq_true rfl, Nat.le_of_ble_eq_true rfl⟩ ⟨Nat.le_of_ble_eq_true rfl, Nat.le_of_ble_eq_true rfl⟩ [] rfl rfl (Nat.le_of_ble_eq_true rfl) dS_openLast_90 (fun rv ru hw => ?_)
          obtain ⟨rfl, rfl⟩ := hw
          show xk_Go K D 5 0 0 (tc_wS a ca (va_cpy kn kn (ro (tm - 1) + 1) (ro (tm - 1)) (nd - (ro (tm - 1)) - 1)) (va_cpy nu nu (ro (tm - 1) + 1) (ro (tm - 1)) (nd - (ro (tm - 1)) - 1)) (va_cpy wo wo ((ro (tm - 1) + 1) * 8) ((ro (tm - 1)) * 8) ((nd - (ro (tm - 1)) - 1) * 8)) (va_cpy si si (ro (tm - 1) + 1) (ro (tm - 1)) (nd - (ro (tm - 1)) - 1)) (va_cpy de de (ro (tm - 1) + 1) (ro (tm - 1)) (nd - (ro (tm - 1)) - 1)) (va_cpy la la (ro (tm - 1) + 1) (ro (tm - 1)) (nd - (ro (tm - 1)) - 1)) (va_cpy le le (ro (tm - 1) + 1) (ro (tm - 1)) (nd - (ro (tm - 1)) - 1)) (va_up ro (tm - 1) (ro (tm - 1))) ((tm - 1) + 1) (nd - 1)) [(4, .int (nI 0)), (3, .int (nI (ro (tm - 1)))), (2, .int (nI 2)), (1, .int (nI (ro (tm - 1)))), (0, .ref (a 0))] 93 []
          refine x_iload_n C dS_openLast_93 rfl 1 rfl ?_
          refine x_aload_n C dS_openLast_94 rfl 4 rfl ?_
          refine x_get C fgS_22 0 rfl rfl dS_openLast_95 ?_
          refine x_iload_n C dS_openLast_98 rfl 1 rfl ?_
          refine x_ild C 4 3 rfl rfl (by omega) (by decide) dS_openLast_99 ?_
          show xk_Go K D 5 0 0 (tc_wS a ca (va_cpy kn kn (ro (tm - 1) + 1) (ro (tm - 1)) (nd - (ro (tm - 1)) - 1)) (va_cpy nu nu (ro (tm - 1) + 1) (ro (tm - 1)) (nd - (ro (tm - 1)) - 1)) (va_cpy wo wo ((ro (tm - 1) + 1) * 8) ((ro (tm - 1)) * 8) ((nd - (ro (tm - 1)) - 1) * 8)) (va_cpy si si (ro (tm - 1) + 1) (ro (tm - 1)) (nd - (ro (tm - 1)) - 1)) (va_cpy de de (ro (tm - 1) + 1) (ro (tm - 1)) (nd - (ro (tm - 1)) - 1)) (va_cpy la la (ro (tm - 1) + 1) (ro (tm - 1)) (nd - (ro (tm - 1)) - 1)) (va_cpy le le (ro (tm - 1) + 1) (ro (tm - 1)) (nd - (ro (tm - 1)) - 1)) (va_up ro (tm - 1) (ro (tm - 1))) ((tm - 1) + 1) (nd - 1)) [(4, .int (nI 0)), (3, .int (nI (ro (tm - 1)))), (2, .int (nI 2)), (1, .int (nI (ro (tm - 1)))), (0, .ref (a 0))] 100 [.int (nI ((va_cpy si si (ro (tm - 1) + 1) (ro (tm - 1)) (nd - (ro (tm - 1)) - 1)) (ro (tm - 1)))), .int (nI (ro (tm - 1)))]
          refine x_iaddN C dS_openLast_100 ?_
          refine x_istore_n C [(3, .int (nI (ro (tm - 1) + ((va_cpy si si (ro (tm - 1) + 1) (ro (tm - 1)) (nd - (ro (tm - 1)) - 1)) (ro (tm - 1)))))), (4, .int (nI 0)), (2, .int (nI 2)), (1, .int (nI (ro (tm - 1)))), (0, .ref (a 0))] dS_openLast_101 rfl (by decide) rfl ?_
          refine x_iinc (q := 1) C (nI 1) [(4, .int (nI 1)), (3, .int (nI (ro (tm - 1) + ((va_cpy si si (ro (tm - 1) + 1) (ro (tm - 1)) (nd - (ro (tm - 1)) - 1)) (ro (tm - 1)))))), (2, .int (nI 2)), (1, .int (nI (ro (tm - 1)))), (0, .ref (a 0))] dS_openLast_102 rfl (by decide) (by decide) rfl ?_
          refine x_goto C 74 dS_openLast_105 (by decide) ?_
          refine x_iload C dS_openLast_74 0 rfl ?_
          refine x_iload_n C dS_openLast_76 rfl 2 rfl ?_
          refine x_icmp_ge (tgt := 108) C dS_openLast_77 (by decide) (fun h => absurd h (by decide)) (fun _ => ?_)
          refine x_iload_n C dS_openLast_80 rfl 1 rfl ?_
          refine x_aload_n C dS_openLast_81 rfl 4 rfl ?_
          refine x_get C fgS_41 0 rfl rfl dS_openLast_82 ?_
          refine x_icmp_geN (tgt := 108) C (by omega) (by omega) dS_openLast_85 (by decide) (fun h85 => ?_) (fun h85 => ?_)
          ·
            exact absurd h85 (by omega)
          ·
            refine x_aload_n C dS_openLast_88 rfl 4 rfl ?_
            refine x_iload_n C dS_openLast_89 rfl 1 rfl ?_
            refine x_callV C (c_S_pushTerm D a ca (va_cpy kn kn (ro (tm - 1) + 1) (ro (tm - 1)) (nd - (ro (tm - 1)) - 1)) (va_cpy nu nu (ro (tm - 1) + 1) (ro (tm - 1)) (nd - (ro (tm - 1)) - 1)) (va_cpy wo wo ((ro (tm - 1) + 1) * 8) ((ro (tm - 1)) * 8) ((nd - (ro (tm - 1)) - 1) * 8)) (va_cpy si si (ro (tm - 1) + 1) (ro (tm - 1)) (nd - (ro (tm - 1)) - 1)) (va_cpy de de (ro (tm - 1) + 1) (ro (tm - 1)) (nd - (ro (tm - 1)) - 1)) (va_cpy la la (ro (tm - 1) + 1) (ro (tm - 1)) (nd - (ro (tm - 1)) - 1)) (va_cpy le le (ro (tm - 1) + 1) (ro (tm - 1)) (nd - (ro (tm - 1)) - 1)) (va_up ro (tm - 1) (ro (tm - 1))) ((tm - 1) + 1) (nd - 1) (ro (tm - 1) + ((va_cpy si si (ro (tm - 1) + 1) (ro (tm - 1)) (nd - (ro (tm - 1)) - 1)) (ro (tm - 1)))) (by omega)) kbS_80 kcS_80 [0, 1, 2, 3, 4, 5, 6, 7, 8] [] [0, 1, 2, 3, 4, 5, 6, 7] ([]) rfl rfl (by decide) (by decide) (by decide) rfl 0 rfl rfl ⟨Nat.le_of_ble_eq_true rfl, Nat.le_of_ble_eq_true rfl⟩ ⟨Nat.le_of_ble_eq_true rfl, Nat.le_of_ble_eq_true rfl⟩ [] rfl rfl (Nat.le_of_ble_eq_true rfl) dS_openLast_90 (fun rv ru hw => ?_)
            obtain ⟨rfl, rfl⟩ := hw
            show xk_Go K D 5 0 0 (tc_wS a ca (va_cpy kn kn (ro (tm - 1) + 1) (ro (tm - 1)) (nd - (ro (tm - 1)) - 1)) (va_cpy nu nu (ro (tm - 1) + 1) (ro (tm - 1)) (nd - (ro (tm - 1)) - 1)) (va_cpy wo wo ((ro (tm - 1) + 1) * 8) ((ro (tm - 1)) * 8) ((nd - (ro (tm - 1)) - 1) * 8)) (va_cpy si si (ro (tm - 1) + 1) (ro (tm - 1)) (nd - (ro (tm - 1)) - 1)) (va_cpy de de (ro (tm - 1) + 1) (ro (tm - 1)) (nd - (ro (tm - 1)) - 1)) (va_cpy la la (ro (tm - 1) + 1) (ro (tm - 1)) (nd - (ro (tm - 1)) - 1)) (va_cpy le le (ro (tm - 1) + 1) (ro (tm - 1)) (nd - (ro (tm - 1)) - 1)) (va_up (va_up ro (tm - 1) (ro (tm - 1))) ((tm - 1) + 1) (ro (tm - 1) + ((va_cpy si si (ro (tm - 1) + 1) (ro (tm - 1)) (nd - (ro (tm - 1)) - 1)) (ro (tm - 1))))) (((tm - 1) + 1) + 1) (nd - 1)) [(4, .int (nI 1)), (3, .int (nI (ro (tm - 1) + ((va_cpy si si (ro (tm - 1) + 1) (ro (tm - 1)) (nd - (ro (tm - 1)) - 1)) (ro (tm - 1)))))), (2, .int (nI 2)), (1, .int (nI (ro (tm - 1)))), (0, .ref (a 0))] 93 []
            refine x_iload_n C dS_openLast_93 rfl 1 rfl ?_
            refine x_aload_n C dS_openLast_94 rfl 4 rfl ?_
            refine x_get C fgS_22 0 rfl rfl dS_openLast_95 ?_
            refine x_iload_n C dS_openLast_98 rfl 1 rfl ?_
            refine x_ild C 4 3 rfl rfl (by omega) (by decide) dS_openLast_99 ?_
            show xk_Go K D 5 0 0 (tc_wS a ca (va_cpy kn kn (ro (tm - 1) + 1) (ro (tm - 1)) (nd - (ro (tm - 1)) - 1)) (va_cpy nu nu (ro (tm - 1) + 1) (ro (tm - 1)) (nd - (ro (tm - 1)) - 1)) (va_cpy wo wo ((ro (tm - 1) + 1) * 8) ((ro (tm - 1)) * 8) ((nd - (ro (tm - 1)) - 1) * 8)) (va_cpy si si (ro (tm - 1) + 1) (ro (tm - 1)) (nd - (ro (tm - 1)) - 1)) (va_cpy de de (ro (tm - 1) + 1) (ro (tm - 1)) (nd - (ro (tm - 1)) - 1)) (va_cpy la la (ro (tm - 1) + 1) (ro (tm - 1)) (nd - (ro (tm - 1)) - 1)) (va_cpy le le (ro (tm - 1) + 1) (ro (tm - 1)) (nd - (ro (tm - 1)) - 1)) (va_up (va_up ro (tm - 1) (ro (tm - 1))) ((tm - 1) + 1) (ro (tm - 1) + ((va_cpy si si (ro (tm - 1) + 1) (ro (tm - 1)) (nd - (ro (tm - 1)) - 1)) (ro (tm - 1))))) (((tm - 1) + 1) + 1) (nd - 1)) [(4, .int (nI 1)), (3, .int (nI (ro (tm - 1) + ((va_cpy si si (ro (tm - 1) + 1) (ro (tm - 1)) (nd - (ro (tm - 1)) - 1)) (ro (tm - 1)))))), (2, .int (nI 2)), (1, .int (nI (ro (tm - 1)))), (0, .ref (a 0))] 100 [.int (nI ((va_cpy si si (ro (tm - 1) + 1) (ro (tm - 1)) (nd - (ro (tm - 1)) - 1)) (ro (tm - 1) + ((va_cpy si si (ro (tm - 1) + 1) (ro (tm - 1)) (nd - (ro (tm - 1)) - 1)) (ro (tm - 1)))))), .int (nI (ro (tm - 1) + ((va_cpy si si (ro (tm - 1) + 1) (ro (tm - 1)) (nd - (ro (tm - 1)) - 1)) (ro (tm - 1)))))]
            refine x_iaddN C dS_openLast_100 ?_
            refine x_istore_n C [(3, .int (nI (ro (tm - 1) + ((va_cpy si si (ro (tm - 1) + 1) (ro (tm - 1)) (nd - (ro (tm - 1)) - 1)) (ro (tm - 1))) + ((va_cpy si si (ro (tm - 1) + 1) (ro (tm - 1)) (nd - (ro (tm - 1)) - 1)) (ro (tm - 1) + ((va_cpy si si (ro (tm - 1) + 1) (ro (tm - 1)) (nd - (ro (tm - 1)) - 1)) (ro (tm - 1)))))))), (4, .int (nI 1)), (2, .int (nI 2)), (1, .int (nI (ro (tm - 1)))), (0, .ref (a 0))] dS_openLast_101 rfl (by decide) rfl ?_
            refine x_iinc (q := 1) C (nI 2) [(4, .int (nI 2)), (3, .int (nI (ro (tm - 1) + ((va_cpy si si (ro (tm - 1) + 1) (ro (tm - 1)) (nd - (ro (tm - 1)) - 1)) (ro (tm - 1))) + ((va_cpy si si (ro (tm - 1) + 1) (ro (tm - 1)) (nd - (ro (tm - 1)) - 1)) (ro (tm - 1) + ((va_cpy si si (ro (tm - 1) + 1) (ro (tm - 1)) (nd - (ro (tm - 1)) - 1)) (ro (tm - 1)))))))), (2, .int (nI 2)), (1, .int (nI (ro (tm - 1)))), (0, .ref (a 0))] dS_openLast_102 rfl (by decide) (by decide) rfl ?_
            refine x_goto C 74 dS_openLast_105 (by decide) ?_
            refine x_iload C dS_openLast_74 0 rfl ?_
            refine x_iload_n C dS_openLast_76 rfl 2 rfl ?_
            refine x_icmp_ge (tgt := 108) C dS_openLast_77 (by decide) (fun _ => ?_) (fun h => absurd (by decide) h)
            refine x_iload_n C dS_openLast_108 rfl 2 rfl ?_
            exact x_iret C T .int rfl rfl dS_openLast_109 (Or.inr (⟨2, _, _, _, _, _, _, _, _, _, _, (t'.drop (tc_sz t') :: t'.take (tc_sz t') :: R), rfl, rfl, (tc_opn_2 hk'), (tc_opn_RS2 y1 hk' z2 (by omega) zq)⟩))
    ·
      refine x_iconst (v := xk_oI none) C dS_openLast_21 (by decide) ?_
      exact x_iret C T .int rfl rfl dS_openLast_22 (Or.inl (⟨rfl, rfl, (if_pos (k1 ▸ h18))⟩))
end
section
set_option maxHeartbeats 4000000 in
set_option maxRecDepth 100000 in
/-- adopt -/
theorem c_S_adopt (D : va_G) (a : Nat → Nat) (ca : Nat → ClassId) (kn : Nat → Nat) (nu : Nat → Int64) (wo : Nat → Int64) (si : Nat → Nat) (de : Nat → Nat) (la : Nat → Nat) (le : Nat → Nat) (ro : Nat → Nat) (tm : Nat) (nd : Nat) (en : Nat) (Ts : List (List tc_Nd)) (L : List tc_Nd) (y1 : tc_RS Ts (kn, nu, wo, si, de, la, le) ro tm nd) (y2 : en = nd + L.length) (y3 : en ≤ 200) (y4 : tc_okt L) (y5 : tc_raw kn nu wo nd L) : xk_Ct yS_adopt cS_adopt 3 none { frames := 3, cells := 0, slots := 0, locals := 75 } D (tc_tS ca) [.ref (a 0), .int (nI en)] (tc_wS a ca kn nu wo si de la le ro tm nd) (fun rv ru => (∃ (kg : Nat → Nat), ∃ (ug : Nat → Int64), ∃ (wg : Nat → Int64), ∃ (sg : Nat → Nat), ∃ (dg : Nat → Nat), ∃ (lg : Nat → Nat), ∃ (eg : Nat → Nat), ∃ (rg : Nat → Nat), ∃ (tg : Nat), ∃ (ng : Nat), rv = none ∧ ru = tc_wS a ca kg ug wg sg dg lg eg rg tg ng ∧ (tc_RS (L :: Ts) (kg, ug, wg, sg, dg, lg, eg) rg tg ng))) := by
  refine xk_enter (by decide) (Nat.le_of_ble_eq_true rfl) (fun K C T hin => ?_)
  obtain ⟨ytm, ytn⟩ := tc_RS_tm y1
  have yl := tc_wf_pos y4.1
  show xk_Go K D 3 0 0 (tc_wS a ca kn nu wo si de la le ro tm nd) [(0, .ref (a 0)), (1, .int (nI en))] 0 []
  refine x_iload_n C dS_adopt_0 rfl 1 rfl ?_
  refine x_iconst (v := nI 1) C dS_adopt_1 (by decide) ?_
  refine x_isub C dS_adopt_2 ?_
  refine x_top (tc_pr_sub en) ?_
  refine x_istore_n C [(2, .int (xk_oI (tc_pr en))), (0, .ref (a 0)), (1, .int (nI en))] dS_adopt_3 rfl (by decide) rfl ?_
  have lp4 : ∀ (zc : Nat) (jn : Nat) (sg : Nat → Nat) (dg : Nat → Nat) (lg : Nat → Nat) (eg : Nat → Nat), jn < zc → (nd ≤ jn) → (jn ≤ en) → (tc_AR (kn, nu, wo, sg, dg, lg, eg) 0 (tc_cat Ts)) → (tc_AR (kn, nu, wo, sg, dg, lg, eg) jn (L.drop (jn - nd))) → xk_Go K D 3 0 0 (tc_wS a ca kn nu wo sg dg lg eg ro tm nd) [(0, .ref (a 0)), (1, .int (nI en)), (2, .int (xk_oI (tc_pr jn)))] 4 [] := by
    intro zc
    induction zc with
    | zero => intro jn sg dg lg eg hm; exact absurd hm (Nat.not_lt_zero _)
    | succ zc ih4 =>
      intro jn sg dg lg eg hm e1 e2 e3 e4
      refine x_iload_n C dS_adopt_4 rfl 2 rfl ?_
      rcases jn with _ | j
      ·
        show xk_Go K D 3 0 0 (tc_wS a ca kn nu wo sg dg lg eg ro tm nd) [(0, .ref (a 0)), (1, .int (nI en)), (2, .int (xk_oI none))] 5 [.int (xk_oI none)]
        refine x_aload_n C dS_adopt_5 rfl 0 rfl ?_
        refine x_get C fgS_41 0 rfl rfl dS_adopt_6 ?_
        refine x_icmp_lt (tgt := 23) C dS_adopt_9 (by decide) (fun _ => ?_) (fun h => absurd (xk_none_lt (by omega)) h)
        refine x_aload_n C dS_adopt_23 rfl 0 rfl ?_
        refine x_aload_n C dS_adopt_24 rfl 0 rfl ?_
        refine x_get C fgS_41 0 rfl rfl dS_adopt_25 ?_
        refine x_callV C (c_S_pushTerm D a ca kn nu wo sg dg lg eg ro tm nd nd (by omega)) kbS_80 kcS_80 [0, 1, 2, 3, 4, 5, 6, 7, 8] [] [0, 1, 2, 3, 4, 5, 6, 7] ([]) rfl rfl (by decide) (by decide) (by decide) rfl 0 rfl rfl ⟨Nat.le_of_ble_eq_true rfl, Nat.le_of_ble_eq_true rfl⟩ ⟨Nat.le_of_ble_eq_true rfl, Nat.le_of_ble_eq_true rfl⟩ [] rfl rfl (Nat.le_of_ble_eq_true rfl) dS_adopt_28 (fun rv ru hw => ?_)
        obtain ⟨rfl, rfl⟩ := hw
        show xk_Go K D 3 0 0 (tc_wS a ca kn nu wo sg dg lg eg (va_up ro tm nd) (tm + 1) nd) [(0, .ref (a 0)), (1, .int (nI en)), (2, .int (xk_oI none))] 31 []
        refine x_aload_n C dS_adopt_31 rfl 0 rfl ?_
        refine x_iload_n C dS_adopt_32 rfl 1 rfl ?_
        refine x_put C fpS_41 0 (tc_wS a ca kn nu wo sg dg lg eg (va_up ro tm nd) (tm + 1) en) rfl rfl rfl rfl (Nat.le_of_ble_eq_true rfl) dS_adopt_33 ?_
        exact x_vret C T rfl dS_adopt_36 (⟨_, _, _, _, _, _, _, _, _, _, rfl, rfl, (tc_adopt_RS y1 y2 y3 y4 (by omega) e1 e3 e4)⟩)
      ·
        show xk_Go K D 3 0 0 (tc_wS a ca kn nu wo sg dg lg eg ro tm nd) [(0, .ref (a 0)), (1, .int (nI en)), (2, .int (nI j))] 5 [.int (nI j)]
        refine x_aload_n C dS_adopt_5 rfl 0 rfl ?_
        refine x_get C fgS_41 0 rfl rfl dS_adopt_6 ?_
        refine x_icmp_ltN (tgt := 23) C (by omega) (by omega) dS_adopt_9 (by decide) (fun h9 => ?_) (fun h9 => ?_)
        ·
          refine x_aload_n C dS_adopt_23 rfl 0 rfl ?_
          refine x_aload_n C dS_adopt_24 rfl 0 rfl ?_
          refine x_get C fgS_41 0 rfl rfl dS_adopt_25 ?_
          refine x_callV C (c_S_pushTerm D a ca kn nu wo sg dg lg eg ro tm nd nd (by omega)) kbS_80 kcS_80 [0, 1, 2, 3, 4, 5, 6, 7, 8] [] [0, 1, 2, 3, 4, 5, 6, 7] ([]) rfl rfl (by decide) (by decide) (by decide) rfl 0 rfl rfl ⟨Nat.le_of_ble_eq_true rfl, Nat.le_of_ble_eq_true rfl⟩ ⟨Nat.le_of_ble_eq_true rfl, Nat.le_of_ble_eq_true rfl⟩ [] rfl rfl (Nat.le_of_ble_eq_true rfl) dS_adopt_28 (fun rv ru hw => ?_)
          obtain ⟨rfl, rfl⟩ := hw
          show xk_Go K D 3 0 0 (tc_wS a ca kn nu wo sg dg lg eg (va_up ro tm nd) (tm + 1) nd) [(0, .ref (a 0)), (1, .int (nI en)), (2, .int (nI j))] 31 []
          refine x_aload_n C dS_adopt_31 rfl 0 rfl ?_
          refine x_iload_n C dS_adopt_32 rfl 1 rfl ?_
          refine x_put C fpS_41 0 (tc_wS a ca kn nu wo sg dg lg eg (va_up ro tm nd) (tm + 1) en) rfl rfl rfl rfl (Nat.le_of_ble_eq_true rfl) dS_adopt_33 ?_
          exact x_vret C T rfl dS_adopt_36 (⟨_, _, _, _, _, _, _, _, _, _, rfl, rfl, (tc_adopt_RS y1 y2 y3 y4 (by omega) e1 e3 e4)⟩)
        ·
          refine x_aload_n C dS_adopt_12 rfl 0 rfl ?_
          refine x_iload_n C dS_adopt_13 rfl 2 rfl ?_
          obtain ⟨x, hxj⟩ : ∃ x, L[j - nd]? = some x := ⟨_, List.getElem?_eq_getElem (by omega)⟩
          obtain ⟨m, hwm⟩ := tc_wf_drop (j - nd) y4.1
          have hraw := y5 _ _ hxj
          rw [show nd + (j - nd) = j by omega] at hraw
          have hokx := y4.2.2 x (List.mem_of_getElem? hxj)
          have hk11 := hokx.1
          have hdr : L.drop (j - nd) = x :: L.drop (j + 1 - nd) := by rw [show j + 1 - nd = (j - nd) + 1 by omega]; exact tc_drop1 hxj
          have hwm2 := hwm
          rw [hdr] at hwm2
          refine x_callV C (c_S_settle D a ca kn nu wo sg dg lg eg ro tm nd j x.2.1.toInt.toNat (by omega) (by rw [hraw.1]; omega) (by rw [hraw.1, hraw.2.1]; exact tc_okn_v hokx) (by rw [hraw.1]; exact tc_ch_bd e4 hwm2.2 (by have := hwm2.1; omega) (fun y hy => y4.2.2 y (List.mem_of_mem_drop hy)) (by rw [List.length_drop]; omega))) kbS_70 kcS_70 [0, 1, 2, 3, 4, 5, 6, 7, 8] [] [0, 1, 2, 3, 4, 5, 6, 7] ([]) rfl rfl (by decide) (by decide) (by decide) rfl 0 rfl rfl ⟨Nat.le_of_ble_eq_true rfl, Nat.le_of_ble_eq_true rfl⟩ ⟨Nat.le_of_ble_eq_true rfl, Nat.le_of_ble_eq_true rfl⟩ [] rfl rfl (Nat.le_of_ble_eq_true rfl) dS_adopt_14 (fun rv ru hw => ?_)
          obtain ⟨s, dd, l, e, rfl, rfl, g1, g2, g3, g4⟩ := hw
          show xk_Go K D 3 0 0 (tc_wS a ca kn nu wo (va_up sg j s) (va_up dg j dd) (va_up lg j l) (va_up eg j e) ro tm nd) [(0, .ref (a 0)), (1, .int (nI en)), (2, .int (nI j))] 17 []
          refine x_iinc (q := 2) C (xk_oI (tc_pr j)) [(2, .int (xk_oI (tc_pr j))), (0, .ref (a 0)), (1, .int (nI en))] dS_adopt_17 rfl (tc_pr_dec j) (by decide) rfl ?_
          refine x_goto C 4 dS_adopt_20 (by decide) ?_
          exact x_sub [1, 2, 0] rfl (ih4 j (va_up sg j s) (va_up dg j dd) (va_up lg j l) (va_up eg j e) (by omega) (by omega) (by omega) (tc_AR_eq 0 0 (tc_cat_ok y1.1) (fun t ht => by have hne : (0 + t) ≠ j := (by have := y1.2.2.1; omega); exact ⟨rfl, rfl, fun _ _ => rfl, va_up_ne _ _ hne, va_up_ne _ _ hne, va_up_ne _ _ hne, va_up_ne _ _ hne⟩) e3) (tc_adopt_step (by omega) hxj y5 hwm y4.2.2 e4 g1 g2 g3 g4))
  exact x_sub [1, 2, 0] rfl (lp4 _ en si de la le (Nat.lt_succ_self _) (by omega) (Nat.le_refl _) y1.2.2.2.2.2 (by rw [show en - nd = L.length by omega, List.drop_length]; trivial))
end
section
set_option maxHeartbeats 4000000 in
set_option maxRecDepth 100000 in
/-- alike -/
theorem c_S_alike (D : va_G) (a : Nat → Nat) (ca : Nat → ClassId) (kn : Nat → Nat) (nu : Nat → Int64) (wo : Nat → Int64) (si : Nat → Nat) (de : Nat → Nat) (la : Nat → Nat) (le : Nat → Nat) (ro : Nat → Nat) (tm : Nat) (nd : Nat) (i : Nat) (j : Nat) (x : tc_Nd) (Rx : List tc_Nd) (y : tc_Nd) (Ry : List tc_Nd) (y1 : i < 200) (y2 : j < 200) (y3 : tc_nd (kn, nu, wo, si, de, la, le) i x Rx) (y4 : tc_nd (kn, nu, wo, si, de, la, le) j y Ry) (y5 : tc_okn x) (y6 : tc_okn y) : xk_Ct yS_alike cS_alike 4 (some .boolean) { frames := 2, cells := 0, slots := 0, locals := 44 } D (tc_tS ca) [.ref (a 0), .int (nI i), .int (nI j)] (tc_wS a ca kn nu wo si de la le ro tm nd) (fun rv ru => (rv = some (.int (xk_bZ (decide (x = y)))) ∧ ru = tc_wS a ca kn nu wo si de la le ro tm nd)) := by
  refine xk_enter (by decide) (Nat.le_of_ble_eq_true rfl) (fun K C T hin => ?_)
  have yx := y5.1
  have yy := y6.1
  have y64 := y5.2.2.2.2.1
  have q3 := y3.1
  have q4 := y4.1
  show xk_Go K D 4 0 0 (tc_wS a ca kn nu wo si de la le ro tm nd) [(0, .ref (a 0)), (1, .int (nI i)), (2, .int (nI j))] 0 []
  refine x_aload_n C dS_alike_0 rfl 0 rfl ?_
  refine x_get C fgS_9 0 rfl rfl dS_alike_1 ?_
  refine x_iload_n C dS_alike_4 rfl 1 rfl ?_
  refine x_ild C 1 0 rfl rfl (by omega) (by decide) dS_alike_5 ?_
  show xk_Go K D 4 0 0 (tc_wS a ca kn nu wo si de la le ro tm nd) [(0, .ref (a 0)), (1, .int (nI i)), (2, .int (nI j))] 6 [.int (nI (kn i))]
  refine x_aload_n C dS_alike_6 rfl 0 rfl ?_
  refine x_get C fgS_9 0 rfl rfl dS_alike_7 ?_
  refine x_iload_n C dS_alike_10 rfl 2 rfl ?_
  refine x_ild C 1 0 rfl rfl (by omega) (by decide) dS_alike_11 ?_
  show xk_Go K D 4 0 0 (tc_wS a ca kn nu wo si de la le ro tm nd) [(0, .ref (a 0)), (1, .int (nI i)), (2, .int (nI j))] 12 [.int (nI (kn j)), .int (nI (kn i))]
  refine x_icmp_neN (tgt := 31) C (by omega) (by omega) dS_alike_12 (by decide) (fun h12 => ?_) (fun h12 => ?_)
  ·
    refine x_iconst (v := nI 0) C dS_alike_31 (by decide) ?_
    exact x_iret C T .boolean rfl rfl dS_alike_32 (⟨by rw [show decide (x = y) = false from decide_eq_false (fun z => h12 (by rw [q3, q4, z]))]; rfl, rfl⟩)
  ·
    refine x_aload_n C dS_alike_15 rfl 0 rfl ?_
    refine x_get C fgS_15 0 rfl rfl dS_alike_16 ?_
    refine x_iload_n C dS_alike_19 rfl 1 rfl ?_
    refine x_lld C 2 1 rfl rfl (by omega) (by decide) dS_alike_20 ?_
    refine x_aload_n C dS_alike_21 rfl 0 rfl ?_
    refine x_get C fgS_15 0 rfl rfl dS_alike_22 ?_
    refine x_iload_n C dS_alike_25 rfl 2 rfl ?_
    refine x_lld C 2 1 rfl rfl (by omega) (by decide) dS_alike_26 ?_
    refine x_lcmp C dS_alike_27 ?_
    refine x_if_eqC (tgt := 33) C dS_alike_28 (by decide) (fun h28 => ?_) (fun h28 => ?_)
    ·
      refine x_iconst (v := nI 0) C dS_alike_33 (by decide) ?_
      refine x_istore_n C [(3, .int (nI 0)), (0, .ref (a 0)), (1, .int (nI i)), (2, .int (nI j))] dS_alike_34 rfl (by decide) rfl ?_
      have lp35 : ∀ (zc : Nat) (q : Nat), (x.2.2.length - q) < zc → (q ≤ x.2.2.length) → (∀ t, t < q → tc_wb wo i t = tc_wb wo j t) → xk_Go K D 4 0 0 (tc_wS a ca kn nu wo si de la le ro tm nd) [(0, .ref (a 0)), (1, .int (nI i)), (2, .int (nI j)), (3, .int (nI q))] 35 [] := by
        intro zc
        induction zc with
        | zero => intro q hm; exact absurd hm (Nat.not_lt_zero _)
        | succ zc ih35 =>
          intro q hm e1 e2
          refine x_iload_n C dS_alike_35 rfl 3 rfl ?_
          refine x_aload_n C dS_alike_36 rfl 0 rfl ?_
          refine x_iload_n C dS_alike_37 rfl 1 rfl ?_
          refine x_callV C (c_S_byteCount D a ca kn nu wo si de la le ro tm nd i x.2.2.length y1 (by rw [y3.1]; omega) (fun q => by rw [y3.2.1]; exact y5.2.2.1 (y3.1 ▸ q))) kbS_74 kcS_74 [0, 1, 2, 3, 4, 5, 6, 7, 8] [] [0, 1, 2, 3, 4, 5, 6, 7] ([]) rfl rfl (by decide) (by decide) (by decide) rfl 0 rfl rfl ⟨Nat.le_of_ble_eq_true rfl, Nat.le_of_ble_eq_true rfl⟩ ⟨Nat.le_of_ble_eq_true rfl, Nat.le_of_ble_eq_true rfl⟩ [.int (nI q)] rfl rfl (Nat.le_of_ble_eq_true rfl) dS_alike_38 (fun rv ru hw => ?_)
          rcases hw with ⟨rfl, rfl, g1b⟩ | ⟨rfl, rfl, g1b⟩
          ·
            show xk_Go K D 4 0 0 (tc_wS a ca kn nu wo si de la le ro tm nd) [(0, .ref (a 0)), (1, .int (nI i)), (2, .int (nI j)), (3, .int (nI q))] 41 [.int (nI x.2.2.length), .int (nI q)]
            refine x_icmp_geN (tgt := 67) C (by omega) (by omega) dS_alike_41 (by decide) (fun h41 => ?_) (fun h41 => ?_)
            ·
              refine x_iconst (v := nI 1) C dS_alike_67 (by decide) ?_
              exact x_iret C T .boolean rfl rfl dS_alike_68 (⟨by rw [show decide (x = y) = true from decide_eq_true (tc_al_8 y3 y4 y5 y6 h12 h28 g1b (fun t ht => e2 t (by omega)))]; rfl, rfl⟩)
            ·
              refine x_aload_n C dS_alike_44 rfl 0 rfl ?_
              refine x_iload_n C dS_alike_45 rfl 1 rfl ?_
              refine x_iload_n C dS_alike_46 rfl 3 rfl ?_
              refine x_callV C (c_S_byteIn D a ca kn nu wo si de la le ro tm nd i q y1 (by omega)) kbS_103 kcS_103 [0, 1, 2, 3, 4, 5, 6, 7, 8] [] [0, 1, 2, 3, 4, 5, 6, 7] ([]) rfl rfl (by decide) (by decide) (by decide) rfl 0 rfl rfl ⟨Nat.le_of_ble_eq_true rfl, Nat.le_of_ble_eq_true rfl⟩ ⟨Nat.le_of_ble_eq_true rfl, Nat.le_of_ble_eq_true rfl⟩ [] rfl rfl (Nat.le_of_ble_eq_true rfl) dS_alike_47 (fun rv ru hw => ?_)
              obtain ⟨rfl, rfl⟩ := hw
              show xk_Go K D 4 0 0 (tc_wS a ca kn nu wo si de la le ro tm nd) [(0, .ref (a 0)), (1, .int (nI i)), (2, .int (nI j)), (3, .int (nI q))] 50 [.int (nI (tc_wb wo i q))]
              refine x_aload_n C dS_alike_50 rfl 0 rfl ?_
              refine x_iload_n C dS_alike_51 rfl 2 rfl ?_
              refine x_iload_n C dS_alike_52 rfl 3 rfl ?_
              refine x_callV C (c_S_byteIn D a ca kn nu wo si de la le ro tm nd j q y2 (by omega)) kbS_103 kcS_103 [0, 1, 2, 3, 4, 5, 6, 7, 8] [] [0, 1, 2, 3, 4, 5, 6, 7] ([]) rfl rfl (by decide) (by decide) (by decide) rfl 0 rfl rfl ⟨Nat.le_of_ble_eq_true rfl, Nat.le_of_ble_eq_true rfl⟩ ⟨Nat.le_of_ble_eq_true rfl, Nat.le_of_ble_eq_true rfl⟩ [.int (nI (tc_wb wo i q))] rfl rfl (Nat.le_of_ble_eq_true rfl) dS_alike_53 (fun rv ru hw => ?_)
              obtain ⟨rfl, rfl⟩ := hw
              show xk_Go K D 4 0 0 (tc_wS a ca kn nu wo si de la le ro tm nd) [(0, .ref (a 0)), (1, .int (nI i)), (2, .int (nI j)), (3, .int (nI q))] 56 [.int (nI (tc_wb wo j q)), .int (nI (tc_wb wo i q))]
              refine x_icmp_eqN (tgt := 61) C (by have := tc_by_lt (wo (i * 8 + q / 8)) (7 - q % 8); have := tc_by_lt (wo (j * 8 + q / 8)) (7 - q % 8); unfold tc_wb; omega) (by have := tc_by_lt (wo (i * 8 + q / 8)) (7 - q % 8); have := tc_by_lt (wo (j * 8 + q / 8)) (7 - q % 8); unfold tc_wb; omega) dS_alike_56 (by decide) (fun h56 => ?_) (fun h56 => ?_)
              ·
                refine x_iinc (q := 3) C (nI (q + 1)) [(3, .int (nI (q + 1))), (0, .ref (a 0)), (1, .int (nI i)), (2, .int (nI j))] dS_alike_61 rfl (nI_add q 1) (by decide) rfl ?_
                refine x_goto C 35 dS_alike_64 (by decide) ?_
                exact x_sub [1, 2, 3, 0] rfl (ih35 (q + 1) (by omega) (by omega) (fun t ht => by rcases Nat.lt_or_ge t q with z | z; exact e2 t z; rw [show t = q by omega]; exact h56))
              ·
                refine x_iconst (v := nI 0) C dS_alike_59 (by decide) ?_
                exact x_iret C T .boolean rfl rfl dS_alike_60 (⟨by rw [show decide (x = y) = false from decide_eq_false (fun z => h56 (tc_al_at y3 y4 z (by omega)))]; rfl, rfl⟩)
          ·
            show xk_Go K D 4 0 0 (tc_wS a ca kn nu wo si de la le ro tm nd) [(0, .ref (a 0)), (1, .int (nI i)), (2, .int (nI j)), (3, .int (nI q))] 41 [.int (xk_oI none), .int (nI q)]
            refine x_icmp_ge (tgt := 67) C dS_alike_41 (by decide) (fun _ => ?_) (fun h => absurd (xk_none_le (by omega)) h)
            refine x_iconst (v := nI 1) C dS_alike_67 (by decide) ?_
            exact x_iret C T .boolean rfl rfl dS_alike_68 (⟨by rw [show decide (x = y) = true from decide_eq_true (tc_al_n y3 y4 y5 y6 h12 h28 g1b)]; rfl, rfl⟩)
      exact x_sub [1, 2, 3, 0] rfl (lp35 _ 0 (Nat.lt_succ_self _) (Nat.zero_le _) (fun t ht => absurd ht (Nat.not_lt_zero _)))
    ·
      refine x_iconst (v := nI 0) C dS_alike_31 (by decide) ?_
      exact x_iret C T .boolean rfl rfl dS_alike_32 (⟨by rw [show decide (x = y) = false from decide_eq_false (fun z => h28 (by rw [y3.2.1, y4.2.1, z]))]; rfl, rfl⟩)
end
section
/-! PURE 11: two terms alike; the bytes of a node. -/
theorem tc_two {t t1 : List tc_Nd} {R : List (List tc_Nd)} {kn : Nat → Nat} {nu wo : Nat → Int64} {si de la le ro : Nat → Nat} {tm nd : Nat} (h : tc_RS (t :: t1 :: R) (kn, nu, wo, si, de, la, le) ro tm nd) :
    2 ≤ tm ∧ tm ≤ 200 ∧ tc_AR (kn, nu, wo, si, de, la, le) (ro (tm - 2)) t1 ∧ tc_AR (kn, nu, wo, si, de, la, le) (ro (tm - 1)) t ∧ si (ro (tm - 2)) = t1.length ∧ si (ro (tm - 1)) = t.length ∧ ro (tm - 2) + t1.length ≤ 200 ∧ ro (tm - 1) + t.length ≤ 200 ∧ 0 < t.length ∧ 0 < t1.length ∧ tc_okt t ∧ tc_okt t1 := by
  obtain ⟨z1, z2, z3, z4, z5, z6, z7, z8, z9, -⟩ := tc_top h
  have hb := tc_RS_tail h
  obtain ⟨w1, w2, w3, w4, w5, w6, w7, w8, w9, -⟩ := tc_top hb
  have hl : (t1 :: R).length = R.length + 1 := rfl
  have e : tm - 1 - 1 = tm - 2 := by omega
  rw [e] at w2
  have ht := tc_RS_tm h
  rw [w2, z2]
  refine ⟨by omega, ht.1, w8, z8, w9, z9, by omega, by omega, z5, w5, h.1 t List.mem_cons_self, h.1 t1 (List.mem_cons_of_mem _ List.mem_cons_self)⟩
theorem tc_at_k {a : tc_Ar} {L : List tc_Nd} {r k : Nat} {x : tc_Nd} (h : tc_AR a r L) (hx : L[k]? = some x) : tc_nd a (r + k) x (L.drop (k + 1)) := tc_AR_at r k x _ (tc_drop1 hx) h
theorem tc_ext_k {α : Type} {A B : List α} (hl : A.length = B.length) (h : ∀ i, i < A.length → A[i]? = B[i]?) : A = B := by
  apply List.ext_getElem?
  intro i
  rcases Nat.lt_or_ge i A.length with q | q
  · exact h i q
  · rw [List.getElem?_eq_none q, List.getElem?_eq_none (by omega)]
/-- bg is bf with L behind its first sz bytes -/
def tc_apd (bf : Nat → Nat) (sz : Nat) (bg : Nat → Nat) (L : List Nat) : Prop := (∀ j, j < sz → bg j = bf j) ∧ ∀ j b, L[j]? = some b → bg (sz + j) = b
theorem tc_apd_0 (bf : Nat → Nat) (sz : Nat) : tc_apd bf sz bf [] := ⟨fun _ _ => rfl, fun j b h => by simp at h⟩
theorem tc_apd_1 {bf bg : Nat → Nat} {sz s : Nat} {L : List Nat} (h : tc_apd bf sz bg L) (hs : s = sz + L.length) {v w : Nat} (hv : v = w) : tc_apd bf sz (va_up bg s v) (L ++ [w]) := by
  refine ⟨fun j hj => (va_up_ne _ _ (by omega)).trans (h.1 j hj), fun j b hb => ?_⟩
  rcases Nat.lt_or_ge j L.length with q | q
  · rw [List.getElem?_append_left q] at hb
    exact (va_up_ne _ _ (by omega)).trans (h.2 j b hb)
  · rw [List.getElem?_append_right q] at hb
    have hj : j - L.length = 0 := by
      have := (List.getElem?_eq_some_iff.mp hb).1
      simp at this
      omega
    rw [hj] at hb
    have hb : w = b := by simpa using hb
    rw [show sz + j = s by omega, va_up_self, hv, hb]
def tc_grs (x : Int64) (g : Nat) : List Nat := (List.range g).map (tc_grb x g)
theorem tc_grs_len (x : Int64) (g : Nat) : (tc_grs x g).length = g := by simp [tc_grs]
theorem tc_apd_g {bf bg bh : Nat → Nat} {sz s : Nat} {L : List Nat} {x : Int64} {g : Nat} (h : tc_apd bf sz bg L) (hs : s = sz + L.length) (g1 : ∀ j, j < s → bh j = bg j) (g2 : ∀ j, j < g → bh (s + j) = tc_grb x g j) : tc_apd bf sz bh (L ++ tc_grs x g) := by
  refine ⟨fun j hj => (g1 j (by omega)).trans (h.1 j hj), fun j b hb => ?_⟩
  rcases Nat.lt_or_ge j L.length with q | q
  · rw [List.getElem?_append_left q] at hb
    exact (g1 _ (by omega)).trans (h.2 j b hb)
  · rw [List.getElem?_append_right q] at hb
    have hj : j - L.length < g := by
      have := (List.getElem?_eq_some_iff.mp hb).1
      rw [tc_grs_len] at this
      exact this
    unfold tc_grs at hb
    rw [List.getElem?_map, List.getElem?_range hj] at hb
    have hb : tc_grb x g (j - L.length) = b := Option.some.inj hb
    rw [show sz + j = s + (j - L.length) by omega, g2 _ hj, hb]
def tc_mid (x : tc_Nd) : List Nat := if x.1 = 0 then tc_grs x.2.1 (tc_gU x.2.1.toInt.toNat) else if x.1 = 7 then tc_grs x.2.1 (tc_gS x.2.1.toInt) else if x.1 = 6 ∨ x.1 = 9 ∨ x.1 = 8 then [x.2.1.toInt.toNat] else []
/-- the bytes of a node -/
def tc_nb (x : tc_Nd) : List Nat := x.1 :: tc_mid x ++ x.2.2
theorem tc_mid_len {x : tc_Nd} : (tc_mid x).length ≤ 10 := by
  unfold tc_mid
  have h1 := tc_gU_le x.2.1.toInt.toNat
  have h2 := tc_gS_le x.2.1.toInt
  split
  · rw [tc_grs_len]; omega
  · split
    · rw [tc_grs_len]; omega
    · split <;> simp
theorem tc_okn_w {x : tc_Nd} (h : tc_okn x) (hk : x.1 = 0 ∨ x.1 = 6 ∨ x.1 = 9 ∨ x.1 = 8) : x.2.1 = lN x.2.1.toInt.toNat ∧ x.2.1.toInt.toNat ≤ 200 := by
  have key : ∀ y : Int64, 0 ≤ y.toInt → y.toInt ≤ 200 → y = lN y.toInt.toNat ∧ y.toInt.toNat ≤ 200 := by
    intro y h1 h2
    refine ⟨Int64.toInt_inj.mp ?_, by omega⟩
    rw [pk_lT (by omega)]
    omega
  have h2 := h.2.1
  rcases hk with q | q | q | q
  · rw [q] at h2
    have h1 := tc_v200 (show 1 ≤ x.2.1 ∧ x.2.1 ≤ 200 from h2)
    exact key _ (by omega) (by omega)
  · rw [q] at h2
    have h1 : 0 ≤ x.2.1 ∧ x.2.1 ≤ 31 := h2
    have a1 : (0 : Int) ≤ x.2.1.toInt := Int64.le_iff_toInt_le.mp h1.1
    have a2 : x.2.1.toInt ≤ (31 : Int) := Int64.le_iff_toInt_le.mp h1.2
    exact key _ (by omega) (by omega)
  · rw [q] at h2
    have h1 : x.2.1 = 0 ∨ x.2.1 = 1 := h2
    rcases h1 with h1 | h1
    · rw [h1]; decide
    · rw [h1]; decide
  · have h3 := h.2.2.1 q
    have h4 := h.2.2.2.2.1
    rw [h3, pk_lT (by omega), Int.toNat_natCast]
    exact ⟨rfl, by omega⟩
theorem tc_l2iN {x : Int64} {v : Nat} (h : x = lN v) : x.toInt32 = nI v := by rw [h]; exact lN_i v
theorem tc_take1 {L : List Nat} {j b : Nat} (h : L[j]? = some b) : L.take (j + 1) = L.take j ++ [b] := by
  obtain ⟨h1, h2⟩ := List.getElem?_eq_some_iff.mp h
  rw [List.take_succ_eq_append_getElem h1, h2]
theorem tc_mid_none {x : tc_Nd} (h0 : ¬ x.1 = 0) (h7 : ¬ x.1 = 7) (h6 : ¬ x.1 = 6) (h9 : ¬ x.1 = 9) (h8 : ¬ x.1 = 8) : tc_mid x = [] := by
  unfold tc_mid
  rw [if_neg h0, if_neg h7, if_neg (by omega)]
end
section
set_option maxHeartbeats 4000000 in
set_option maxRecDepth 100000 in
/-- lastTwoAlike -/
theorem c_S_lastTwoAlike (D : va_G) (a : Nat → Nat) (ca : Nat → ClassId) (kn : Nat → Nat) (nu : Nat → Int64) (wo : Nat → Int64) (si : Nat → Nat) (de : Nat → Nat) (la : Nat → Nat) (le : Nat → Nat) (ro : Nat → Nat) (tm : Nat) (nd : Nat) (t : List tc_Nd) (t1 : List tc_Nd) (R : List (List tc_Nd)) (y1 : tc_RS (t :: t1 :: R) (kn, nu, wo, si, de, la, le) ro tm nd) : xk_Ct yS_lastTwoAlike cS_lastTwoAlike 4 (some .boolean) { frames := 3, cells := 0, slots := 0, locals := 67 } D (tc_tS ca) [.ref (a 0)] (tc_wS a ca kn nu wo si de la le ro tm nd) (fun rv ru => (rv = some (.int (xk_bZ (decide (t1 = t)))) ∧ ru = tc_wS a ca kn nu wo si de la le ro tm nd)) := by
  refine xk_enter (by decide) (Nat.le_of_ble_eq_true rfl) (fun K C T hin => ?_)
  obtain ⟨w1, w2, w3, w4, w5, w6, w7, w8, w9, w10, w11, w12⟩ := tc_two y1
  show xk_Go K D 4 0 0 (tc_wS a ca kn nu wo si de la le ro tm nd) [(0, .ref (a 0))] 0 []
  refine x_aload_n C dS_lastTwoAlike_0 rfl 0 rfl ?_
  refine x_get C fgS_37 0 rfl rfl dS_lastTwoAlike_1 ?_
  refine x_iconst (v := nI 2) C dS_lastTwoAlike_4 (by decide) ?_
  refine x_icmp_geN (tgt := 10) C (by omega) (by decide) dS_lastTwoAlike_5 (by decide) (fun h5 => ?_) (fun h5 => ?_)
  ·
    refine x_aload_n C dS_lastTwoAlike_10 rfl 0 rfl ?_
    refine x_get C fgS_34 0 rfl rfl dS_lastTwoAlike_11 ?_
    refine x_aload_n C dS_lastTwoAlike_14 rfl 0 rfl ?_
    refine x_get C fgS_37 0 rfl rfl dS_lastTwoAlike_15 ?_
    refine x_iconst (v := nI 2) C dS_lastTwoAlike_18 (by decide) ?_
    refine x_isubN C (by omega) dS_lastTwoAlike_19 ?_
    refine x_ild C 8 7 rfl rfl (by omega) (by decide) dS_lastTwoAlike_20 ?_
    show xk_Go K D 4 0 0 (tc_wS a ca kn nu wo si de la le ro tm nd) [(0, .ref (a 0))] 21 [.int (nI (ro (tm - 2)))]
    refine x_istore_n C [(1, .int (nI (ro (tm - 2)))), (0, .ref (a 0))] dS_lastTwoAlike_21 rfl (by decide) rfl ?_
    refine x_aload_n C dS_lastTwoAlike_22 rfl 1 rfl ?_
    refine x_get C fgS_34 0 rfl rfl dS_lastTwoAlike_23 ?_
    refine x_aload_n C dS_lastTwoAlike_26 rfl 1 rfl ?_
    refine x_get C fgS_37 0 rfl rfl dS_lastTwoAlike_27 ?_
    refine x_iconst (v := nI 1) C dS_lastTwoAlike_30 (by decide) ?_
    refine x_isubN C (by omega) dS_lastTwoAlike_31 ?_
    refine x_ild C 8 7 rfl rfl (by omega) (by decide) dS_lastTwoAlike_32 ?_
    show xk_Go K D 4 0 0 (tc_wS a ca kn nu wo si de la le ro tm nd) [(1, .int (nI (ro (tm - 2)))), (0, .ref (a 0))] 33 [.int (nI (ro (tm - 1)))]
    refine x_istore_n C [(2, .int (nI (ro (tm - 1)))), (1, .int (nI (ro (tm - 2)))), (0, .ref (a 0))] dS_lastTwoAlike_33 rfl (by decide) rfl ?_
    refine x_aload_n C dS_lastTwoAlike_34 rfl 2 rfl ?_
    refine x_get C fgS_22 0 rfl rfl dS_lastTwoAlike_35 ?_
    refine x_iload_n C dS_lastTwoAlike_38 rfl 1 rfl ?_
    refine x_ild C 4 3 rfl rfl (by omega) (by decide) dS_lastTwoAlike_39 ?_
    show xk_Go K D 4 0 0 (tc_wS a ca kn nu wo si de la le ro tm nd) [(2, .int (nI (ro (tm - 1)))), (1, .int (nI (ro (tm - 2)))), (0, .ref (a 0))] 40 [.int (nI (si (ro (tm - 2))))]
    refine x_aload_n C dS_lastTwoAlike_40 rfl 2 rfl ?_
    refine x_get C fgS_22 0 rfl rfl dS_lastTwoAlike_41 ?_
    refine x_iload_n C dS_lastTwoAlike_44 rfl 0 rfl ?_
    refine x_ild C 4 3 rfl rfl (by omega) (by decide) dS_lastTwoAlike_45 ?_
    show xk_Go K D 4 0 0 (tc_wS a ca kn nu wo si de la le ro tm nd) [(2, .int (nI (ro (tm - 1)))), (1, .int (nI (ro (tm - 2)))), (0, .ref (a 0))] 46 [.int (nI (si (ro (tm - 1)))), .int (nI (si (ro (tm - 2))))]
    refine x_icmp_eqN (tgt := 51) C (by omega) (by omega) dS_lastTwoAlike_46 (by decide) (fun h46 => ?_) (fun h46 => ?_)
    ·
      refine x_iconst (v := nI 0) C dS_lastTwoAlike_51 (by decide) ?_
      refine x_istore_n C [(3, .int (nI 0)), (2, .int (nI (ro (tm - 1)))), (1, .int (nI (ro (tm - 2)))), (0, .ref (a 0))] dS_lastTwoAlike_52 rfl (by decide) rfl ?_
      have lp53 : ∀ (zc : Nat) (k : Nat), (t1.length - k) < zc → (k ≤ t1.length) → (∀ i, i < k → t1[i]? = t[i]?) → xk_Go K D 4 0 0 (tc_wS a ca kn nu wo si de la le ro tm nd) [(0, .ref (a 0)), (1, .int (nI (ro (tm - 2)))), (2, .int (nI (ro (tm - 1)))), (3, .int (nI k))] 53 [] := by
        intro zc
        induction zc with
        | zero => intro k hm; exact absurd hm (Nat.not_lt_zero _)
        | succ zc ih53 =>
          intro k hm e1 e2
          refine x_iload_n C dS_lastTwoAlike_53 rfl 3 rfl ?_
          refine x_aload_n C dS_lastTwoAlike_54 rfl 0 rfl ?_
          refine x_get C fgS_22 0 rfl rfl dS_lastTwoAlike_55 ?_
          refine x_iload_n C dS_lastTwoAlike_58 rfl 1 rfl ?_
          refine x_ild C 4 3 rfl rfl (by omega) (by decide) dS_lastTwoAlike_59 ?_
          show xk_Go K D 4 0 0 (tc_wS a ca kn nu wo si de la le ro tm nd) [(0, .ref (a 0)), (1, .int (nI (ro (tm - 2)))), (2, .int (nI (ro (tm - 1)))), (3, .int (nI k))] 60 [.int (nI (si (ro (tm - 2)))), .int (nI k)]
          refine x_icmp_geN (tgt := 84) C (by omega) (by omega) dS_lastTwoAlike_60 (by decide) (fun h60 => ?_) (fun h60 => ?_)
          ·
            refine x_iconst (v := nI 1) C dS_lastTwoAlike_84 (by decide) ?_
            exact x_iret C T .boolean rfl rfl dS_lastTwoAlike_85 (⟨by rw [show decide (t1 = t) = true from decide_eq_true (tc_ext_k (by omega) (fun i hi => e2 i (by omega)))]; rfl, rfl⟩)
          ·
            refine x_aload_n C dS_lastTwoAlike_63 rfl 0 rfl ?_
            refine x_iload_n C dS_lastTwoAlike_64 rfl 1 rfl ?_
            refine x_iload_n C dS_lastTwoAlike_65 rfl 3 rfl ?_
            refine x_iaddN C dS_lastTwoAlike_66 ?_
            refine x_iload_n C dS_lastTwoAlike_67 rfl 2 rfl ?_
            refine x_iload_n C dS_lastTwoAlike_68 rfl 3 rfl ?_
            refine x_iaddN C dS_lastTwoAlike_69 ?_
            obtain ⟨x, hx1⟩ : ∃ x, t1[k]? = some x := ⟨_, List.getElem?_eq_getElem (by omega)⟩
            obtain ⟨y, hx2⟩ : ∃ y, t[k]? = some y := ⟨_, List.getElem?_eq_getElem (by omega)⟩
            refine x_callV C (c_S_alike D a ca kn nu wo si de la le ro tm nd (ro (tm - 2) + k) (ro (tm - 1) + k) x _ y _ (by omega) (by omega) (tc_at_k w3 hx1) (tc_at_k w4 hx2) (w12.2.2 x (List.mem_of_getElem? hx1)) (w11.2.2 y (List.mem_of_getElem? hx2))) kbS_83 kcS_83 [0, 1, 2, 3, 4, 5, 6, 7, 8] [] [0, 1, 2, 3, 4, 5, 6, 7] ([]) rfl rfl (by decide) (by decide) (by decide) rfl 0 rfl rfl ⟨Nat.le_of_ble_eq_true rfl, Nat.le_of_ble_eq_true rfl⟩ ⟨Nat.le_of_ble_eq_true rfl, Nat.le_of_ble_eq_true rfl⟩ [] rfl rfl (Nat.le_of_ble_eq_true rfl) dS_lastTwoAlike_70 (fun rv ru hw => ?_)
            obtain ⟨rfl, rfl⟩ := hw
            show xk_Go K D 4 0 0 (tc_wS a ca kn nu wo si de la le ro tm nd) [(0, .ref (a 0)), (1, .int (nI (ro (tm - 2)))), (2, .int (nI (ro (tm - 1)))), (3, .int (nI k))] 73 [.int (xk_bZ (decide (x = y)))]
            refine x_if_neB (tgt := 78) C dS_lastTwoAlike_73 (by decide) (fun h73 => ?_) (fun h73 => ?_)
            ·
              refine x_iinc (q := 3) C (nI (k + 1)) [(3, .int (nI (k + 1))), (0, .ref (a 0)), (1, .int (nI (ro (tm - 2)))), (2, .int (nI (ro (tm - 1))))] dS_lastTwoAlike_78 rfl (nI_add k 1) (by decide) rfl ?_
              refine x_goto C 53 dS_lastTwoAlike_81 (by decide) ?_
              exact x_sub [1, 2, 3, 0] rfl (ih53 (k + 1) (by omega) (by omega) (fun i hi => by rcases Nat.lt_or_ge i k with z | z; exact e2 i z; rw [show i = k by omega, hx1, hx2, of_decide_eq_true h73]))
            ·
              refine x_iconst (v := nI 0) C dS_lastTwoAlike_76 (by decide) ?_
              exact x_iret C T .boolean rfl rfl dS_lastTwoAlike_77 (⟨by rw [show decide (t1 = t) = false from decide_eq_false (fun z => of_decide_eq_false h73 (Option.some.inj (by rw [← hx1, ← hx2, z])))]; rfl, rfl⟩)
      exact x_sub [3, 2, 1, 0] rfl (lp53 _ 0 (Nat.lt_succ_self _) (Nat.zero_le _) (fun i hi => absurd hi (Nat.not_lt_zero _)))
    ·
      refine x_iconst (v := nI 0) C dS_lastTwoAlike_49 (by decide) ?_
      exact x_iret C T .boolean rfl rfl dS_lastTwoAlike_50 (⟨by rw [show decide (t1 = t) = false from decide_eq_false (fun z => h46 (by rw [w5, w6, z]))]; rfl, rfl⟩)
  ·
    exact absurd h5 (by omega)
set_option maxHeartbeats 4000000 in
set_option maxRecDepth 100000 in
/-- appendNode -/
theorem c_S_appendNode (D : va_G) (a : Nat → Nat) (ca : Nat → ClassId) (o : Nat → Nat) (co : Nat → ClassId) (kn : Nat → Nat) (nu : Nat → Int64) (wo : Nat → Int64) (si : Nat → Nat) (de : Nat → Nat) (la : Nat → Nat) (le : Nat → Nat) (ro : Nat → Nat) (tm : Nat) (nd : Nat) (ob : Nat → Nat) (oz : Nat) (i : Nat) (x : tc_Nd) (Rx : List tc_Nd) (y1 : i < 200) (y3 : tc_nd (kn, nu, wo, si, de, la, le) i x Rx) (y5 : tc_okn x) (y6 : oz + (tc_nb x).length ≤ 4096) : xk_Ct yS_appendNode cS_appendNode 7 none { frames := 2, cells := 0, slots := 0, locals := 46 } D (tc_tS ca ++ tc_tB co) [.ref (a 0), .int (nI i), .ref (o 0)] (tc_wS a ca kn nu wo si de la le ro tm nd ++ tc_wB o co ob oz) (fun rv ru => (∃ (bg : Nat → Nat), rv = none ∧ ru = tc_wS a ca kn nu wo si de la le ro tm nd ++ tc_wB o co bg (oz + (tc_nb x).length) ∧ (tc_apd ob oz bg (tc_nb x)))) := by
  refine xk_enter (by decide) (Nat.le_of_ble_eq_true rfl) (fun K C T hin => ?_)
  have q3 := y3.1
  have yx := y5.1
  have ym := tc_mid_len (x := x)
  have yl : (tc_nb x).length = 1 + (tc_mid x).length + x.2.2.length := by unfold tc_nb; rw [List.length_append, List.length_cons]; omega
  have y64 := y5.2.2.2.2.1
  show xk_Go K D 7 0 0 (tc_wS a ca kn nu wo si de la le ro tm nd ++ tc_wB o co ob oz) [(0, .ref (a 0)), (1, .int (nI i)), (2, .ref (o 0))] 0 []
  refine x_aload_n C dS_appendNode_0 rfl 0 rfl ?_
  refine x_get C fgS_9 0 rfl rfl dS_appendNode_1 ?_
  refine x_iload_n C dS_appendNode_4 rfl 1 rfl ?_
  refine x_ild C 1 0 rfl rfl (by omega) (by decide) dS_appendNode_5 ?_
  show xk_Go K D 7 0 0 (tc_wS a ca kn nu wo si de la le ro tm nd ++ tc_wB o co ob oz) [(0, .ref (a 0)), (1, .int (nI i)), (2, .ref (o 0))] 6 [.int (nI (kn i))]
  refine x_istore_n C [(3, .int (nI (kn i))), (0, .ref (a 0)), (1, .int (nI i)), (2, .ref (o 0))] dS_appendNode_6 rfl (by decide) rfl ?_
  refine x_aload_n C dS_appendNode_7 rfl 1 rfl ?_
  refine x_get C fgS_15 0 rfl rfl dS_appendNode_8 ?_
  refine x_iload_n C dS_appendNode_11 rfl 2 rfl ?_
  refine x_lld C 2 1 rfl rfl (by omega) (by decide) dS_appendNode_12 ?_
  refine x_lstore C [(4, .long (nu i)), (3, .int (nI (kn i))), (0, .ref (a 0)), (1, .int (nI i)), (2, .ref (o 0))] dS_appendNode_13 (by decide) rfl ?_
  refine x_aload_n C dS_appendNode_15 rfl 4 rfl ?_
  refine x_iload_n C dS_appendNode_16 rfl 1 rfl ?_
  refine x_callV C (c_B_append D o co ob oz (kn i) (by omega)) kbS_87 kcS_87 [9, 10] [0, 1, 2, 3, 4, 5, 6, 7, 8] [8] (tc_wS a ca kn nu wo si de la le ro tm nd) rfl rfl (by decide) (by decide) (by decide) rfl 0 rfl rfl ⟨Nat.le_of_ble_eq_true rfl, Nat.le_of_ble_eq_true rfl⟩ ⟨Nat.le_of_ble_eq_true rfl, Nat.le_of_ble_eq_true rfl⟩ [] rfl rfl (Nat.le_of_ble_eq_true rfl) dS_appendNode_17 (fun rv ru hw => ?_)
  obtain ⟨rfl, rfl⟩ := hw
  show xk_Go K D 7 0 0 (tc_wS a ca kn nu wo si de la le ro tm nd ++ tc_wB o co (va_up ob oz (kn i)) (oz + 1)) [(4, .long (nu i)), (3, .int (nI (kn i))), (0, .ref (a 0)), (1, .int (nI i)), (2, .ref (o 0))] 20 []
  have f0 : tc_apd ob oz (va_up ob oz (kn i)) ([] ++ [x.1]) := tc_apd_1 (tc_apd_0 ob oz) rfl q3
  have jn83 : ∀ (bg : Nat → Nat) (s1 : Nat), (tc_apd ob oz bg (x.1 :: tc_mid x)) → (s1 = oz + (1 + (tc_mid x).length)) → xk_Go K D 7 0 0 (tc_wS a ca kn nu wo si de la le ro tm nd ++ tc_wB o co bg s1) [(0, .ref (a 0)), (1, .int (nI i)), (2, .ref (o 0))] 83 [] := by
    intro bg s1 f1 f2
    refine x_iconst (v := nI 0) C dS_appendNode_83 (by decide) ?_
    refine x_istore C [(6, .int (nI 0)), (0, .ref (a 0)), (1, .int (nI i)), (2, .ref (o 0))] dS_appendNode_84 (by decide) rfl ?_
    subst f2
    have lp86 : ∀ (zc : Nat) (j : Nat) (bg : Nat → Nat), (x.2.2.length - j) < zc → (j ≤ x.2.2.length) → (tc_apd ob oz bg ((x.1 :: tc_mid x) ++ x.2.2.take j)) → xk_Go K D 7 0 0 (tc_wS a ca kn nu wo si de la le ro tm nd ++ tc_wB o co bg (oz + (1 + (tc_mid x).length) + j)) [(0, .ref (a 0)), (1, .int (nI i)), (2, .ref (o 0)), (6, .int (nI j))] 86 [] := by
      intro zc
      induction zc with
      | zero => intro j bg hm; exact absurd hm (Nat.not_lt_zero _)
      | succ zc ih86 =>
        intro j bg hm e1 e2
        refine x_iload C dS_appendNode_86 3 rfl ?_
        refine x_aload_n C dS_appendNode_88 rfl 0 rfl ?_
        refine x_iload_n C dS_appendNode_89 rfl 1 rfl ?_
        refine x_callV C (c_S_byteCount D a ca kn nu wo si de la le ro tm nd i x.2.2.length y1 (by omega) (fun q => by rw [y3.2.1]; exact y5.2.2.1 (q3 ▸ q))) kbS_74 kcS_74 [0, 1, 2, 3, 4, 5, 6, 7, 8] [9, 10] [0, 1, 2, 3, 4, 5, 6, 7] (tc_wB o co bg (oz + (1 + (tc_mid x).length) + j)) rfl rfl (by decide) (by decide) (by decide) rfl 0 rfl rfl ⟨Nat.le_of_ble_eq_true rfl, Nat.le_of_ble_eq_true rfl⟩ ⟨Nat.le_of_ble_eq_true rfl, Nat.le_of_ble_eq_true rfl⟩ [.int (nI j)] rfl rfl (Nat.le_of_ble_eq_true rfl) dS_appendNode_90 (fun rv ru hw => ?_)
        rcases hw with ⟨rfl, rfl, g1b⟩ | ⟨rfl, rfl, g1b⟩
        ·
          show xk_Go K D 7 0 0 (tc_wB o co bg (oz + (1 + (tc_mid x).length) + j) ++ tc_wS a ca kn nu wo si de la le ro tm nd) [(0, .ref (a 0)), (1, .int (nI i)), (2, .ref (o 0)), (6, .int (nI j))] 93 [.int (nI x.2.2.length), .int (nI j)]
          refine x_perm [2, 3, 4, 5, 6, 7, 8, 9, 10, 0, 1] (w' := tc_wS a ca kn nu wo si de la le ro tm nd ++ tc_wB o co bg (oz + (1 + (tc_mid x).length) + j)) (by decide) rfl rfl ?_
          refine x_icmp_geN (tgt := 113) C (by omega) (by omega) dS_appendNode_93 (by decide) (fun h93 => ?_) (fun h93 => ?_)
          ·
            exact x_vret C T rfl dS_appendNode_113 (⟨bg, rfl, by rw [show oz + (1 + (tc_mid x).length) + j = oz + (tc_nb x).length by omega], (by have e2 := e2; rw [show j = x.2.2.length by omega, List.take_length] at e2; exact e2)⟩)
          ·
            refine x_aload_n C dS_appendNode_96 rfl 2 rfl ?_
            refine x_aload_n C dS_appendNode_97 rfl 0 rfl ?_
            refine x_iload_n C dS_appendNode_98 rfl 1 rfl ?_
            refine x_iload C dS_appendNode_99 3 rfl ?_
            refine x_callV C (c_S_byteIn D a ca kn nu wo si de la le ro tm nd i j y1 (by omega)) kbS_103 kcS_103 [0, 1, 2, 3, 4, 5, 6, 7, 8] [9, 10] [0, 1, 2, 3, 4, 5, 6, 7] (tc_wB o co bg (oz + (1 + (tc_mid x).length) + j)) rfl rfl (by decide) (by decide) (by decide) rfl 0 rfl rfl ⟨Nat.le_of_ble_eq_true rfl, Nat.le_of_ble_eq_true rfl⟩ ⟨Nat.le_of_ble_eq_true rfl, Nat.le_of_ble_eq_true rfl⟩ [.ref (o 0)] rfl rfl (Nat.le_of_ble_eq_true rfl) dS_appendNode_101 (fun rv ru hw => ?_)
            obtain ⟨rfl, rfl⟩ := hw
            show xk_Go K D 7 0 0 (tc_wB o co bg (oz + (1 + (tc_mid x).length) + j) ++ tc_wS a ca kn nu wo si de la le ro tm nd) [(0, .ref (a 0)), (1, .int (nI i)), (2, .ref (o 0)), (6, .int (nI j))] 104 [.int (nI (tc_wb wo i j)), .ref (o 0)]
            refine x_perm [2, 3, 4, 5, 6, 7, 8, 9, 10, 0, 1] (w' := tc_wS a ca kn nu wo si de la le ro tm nd ++ tc_wB o co bg (oz + (1 + (tc_mid x).length) + j)) (by decide) rfl rfl ?_
            obtain ⟨b, hb⟩ : ∃ b, x.2.2[j]? = some b := ⟨_, List.getElem?_eq_getElem (by omega)⟩
            refine x_callV C (c_B_append D o co bg (oz + (1 + (tc_mid x).length) + j) (tc_wb wo i j) (by omega)) kbS_87 kcS_87 [9, 10] [0, 1, 2, 3, 4, 5, 6, 7, 8] [8] (tc_wS a ca kn nu wo si de la le ro tm nd) rfl rfl (by decide) (by decide) (by decide) rfl 0 rfl rfl ⟨Nat.le_of_ble_eq_true rfl, Nat.le_of_ble_eq_true rfl⟩ ⟨Nat.le_of_ble_eq_true rfl, Nat.le_of_ble_eq_true rfl⟩ [] rfl rfl (Nat.le_of_ble_eq_true rfl) dS_appendNode_104 (fun rv ru hw => ?_)
            obtain ⟨rfl, rfl⟩ := hw
            show xk_Go K D 7 0 0 (tc_wS a ca kn nu wo si de la le ro tm nd ++ tc_wB o co (va_up bg (oz + (1 + (tc_mid x).length) + j) (tc_wb wo i j)) ((oz + (1 + (tc_mid x).length) + j) + 1)) [(0, .ref (a 0)), (1, .int (nI i)), (2, .ref (o 0)), (6, .int (nI j))] 107 []
            refine x_iinc (q := 3) C (nI (j + 1)) [(6, .int (nI (j + 1))), (0, .ref (a 0)), (1, .int (nI i)), (2, .ref (o 0))] dS_appendNode_107 rfl (nI_add j 1) (by decide) rfl ?_
            refine x_goto C 86 dS_appendNode_110 (by decide) ?_
            exact x_sub [1, 2, 3, 0] rfl (ih86 (j + 1) (va_up bg (oz + (1 + (tc_mid x).length) + j) (tc_wb wo i j)) (by omega) (by omega) (by rw [tc_take1 hb, ← List.append_assoc]; exact tc_apd_1 e2 (by rw [List.length_append, List.length_cons, List.length_take]; omega) (y3.2.2.1 j b hb)))
        ·
          show xk_Go K D 7 0 0 (tc_wB o co bg (oz + (1 + (tc_mid x).length) + j) ++ tc_wS a ca kn nu wo si de la le ro tm nd) [(0, .ref (a 0)), (1, .int (nI i)), (2, .ref (o 0)), (6, .int (nI j))] 93 [.int (xk_oI none), .int (nI j)]
          refine x_perm [2, 3, 4, 5, 6, 7, 8, 9, 10, 0, 1] (w' := tc_wS a ca kn nu wo si de la le ro tm nd ++ tc_wB o co bg (oz + (1 + (tc_mid x).length) + j)) (by decide) rfl rfl ?_
          refine x_icmp_ge (tgt := 113) C dS_appendNode_93 (by decide) (fun _ => ?_) (fun h => absurd (xk_none_le (by omega)) h)
          exact x_vret C T rfl dS_appendNode_113 (⟨bg, rfl, by rw [show oz + (1 + (tc_mid x).length) + j = oz + (tc_nb x).length by rw [yl, y5.2.2.2.1 (q3 ▸ g1b)]; have := y5.2.2.2.1 (q3 ▸ g1b); rw [this] at e1; simp at e1; simp; omega], (by have h0 := y5.2.2.2.1 (q3 ▸ g1b); have e2 := e2; unfold tc_nb; rw [h0] at e2 ⊢; simpa using e2)⟩)
    exact x_sub [1, 2, 3, 0] rfl (lp86 _ 0 bg (Nat.lt_succ_self _) (Nat.zero_le _) (by rw [List.take_zero, List.append_nil]; exact f1))
  refine x_iload_n C dS_appendNode_20 rfl 1 rfl ?_
  refine x_if_neN (tgt := 38) C (by omega) dS_appendNode_21 (by decide) (fun h21 => ?_) (fun h21 => ?_)
  ·
    refine x_iload_n C dS_appendNode_38 rfl 1 rfl ?_
    refine x_bipush (v := nI 7) C dS_appendNode_39 (by decide) ?_
    refine x_icmp_neN (tgt := 58) C (by omega) (by decide) dS_appendNode_41 (by decide) (fun h41 => ?_) (fun h41 => ?_)
    ·
      refine x_iload_n C dS_appendNode_58 rfl 1 rfl ?_
      refine x_bipush (v := nI 6) C dS_appendNode_59 (by decide) ?_
      refine x_icmp_eqN (tgt := 76) C (by omega) (by decide) dS_appendNode_61 (by decide) (fun h61 => ?_) (fun h61 => ?_)
      ·
        have hk689 : kn i = 6 ∨ kn i = 9 ∨ kn i = 8 := Or.inl h61
        refine x_aload_n C dS_appendNode_76 rfl 4 rfl ?_
        refine x_lload C dS_appendNode_77 0 rfl ?_
        refine x_l2i (v := nI x.2.1.toInt.toNat) C dS_appendNode_79 (tc_l2iN (by rw [y3.2.1]; exact (tc_okn_w y5 (Or.inr (q3 ▸ hk689))).1)) ?_
        have hm : tc_mid x = [x.2.1.toInt.toNat] := by unfold tc_mid; rw [if_neg (fun z => h21 (q3.trans z)), if_neg (fun z => h41 (q3.trans z)), if_pos (q3 ▸ hk689)]
        have hml := congrArg List.length hm
        rw [List.length_singleton] at hml
        refine x_callV C (c_B_append D o co (va_up ob oz (kn i)) (oz + 1) x.2.1.toInt.toNat (by omega)) kbS_87 kcS_87 [9, 10] [0, 1, 2, 3, 4, 5, 6, 7, 8] [8] (tc_wS a ca kn nu wo si de la le ro tm nd) rfl rfl (by decide) (by decide) (by decide) rfl 0 rfl rfl ⟨Nat.le_of_ble_eq_true rfl, Nat.le_of_ble_eq_true rfl⟩ ⟨Nat.le_of_ble_eq_true rfl, Nat.le_of_ble_eq_true rfl⟩ [] rfl rfl (Nat.le_of_ble_eq_true rfl) dS_appendNode_80 (fun rv ru hw => ?_)
        obtain ⟨rfl, rfl⟩ := hw
        show xk_Go K D 7 0 0 (tc_wS a ca kn nu wo si de la le ro tm nd ++ tc_wB o co (va_up (va_up ob oz (kn i)) (oz + 1) x.2.1.toInt.toNat) ((oz + 1) + 1)) [(4, .long (nu i)), (3, .int (nI (kn i))), (0, .ref (a 0)), (1, .int (nI i)), (2, .ref (o 0))] 83 []
        exact x_sub [2, 3, 4] rfl (jn83 (va_up (va_up ob oz (kn i)) (oz + 1) x.2.1.toInt.toNat) ((oz + 1) + 1) (by rw [hm]; exact tc_apd_1 f0 rfl rfl) (by omega))
      ·
        refine x_iload_n C dS_appendNode_64 rfl 1 rfl ?_
        refine x_bipush (v := nI 9) C dS_appendNode_65 (by decide) ?_
        refine x_icmp_eqN (tgt := 76) C (by omega) (by decide) dS_appendNode_67 (by decide) (fun h67 => ?_) (fun h67 => ?_)
        ·
          have hk689 : kn i = 6 ∨ kn i = 9 ∨ kn i = 8 := Or.inr (Or.inl h67)
          refine x_aload_n C dS_appendNode_76 rfl 4 rfl ?_
          refine x_lload C dS_appendNode_77 0 rfl ?_
          refine x_l2i (v := nI x.2.1.toInt.toNat) C dS_appendNode_79 (tc_l2iN (by rw [y3.2.1]; exact (tc_okn_w y5 (Or.inr (q3 ▸ hk689))).1)) ?_
          have hm : tc_mid x = [x.2.1.toInt.toNat] := by unfold tc_mid; rw [if_neg (fun z => h21 (q3.trans z)), if_neg (fun z => h41 (q3.trans z)), if_pos (q3 ▸ hk689)]
          have hml := congrArg List.length hm
          rw [List.length_singleton] at hml
          refine x_callV C (c_B_append D o co (va_up ob oz (kn i)) (oz + 1) x.2.1.toInt.toNat (by omega)) kbS_87 kcS_87 [9, 10] [0, 1, 2, 3, 4, 5, 6, 7, 8] [8] (tc_wS a ca kn nu wo si de la le ro tm nd) rfl rfl (by decide) (by decide) (by decide) rfl 0 rfl rfl ⟨Nat.le_of_ble_eq_true rfl, Nat.le_of_ble_eq_true rfl⟩ ⟨Nat.le_of_ble_eq_true rfl, Nat.le_of_ble_eq_true rfl⟩ [] rfl rfl (Nat.le_of_ble_eq_true rfl) dS_appendNode_80 (fun rv ru hw => ?_)
          obtain ⟨rfl, rfl⟩ := hw
          show xk_Go K D 7 0 0 (tc_wS a ca kn nu wo si de la le ro tm nd ++ tc_wB o co (va_up (va_up ob oz (kn i)) (oz + 1) x.2.1.toInt.toNat) ((oz + 1) + 1)) [(4, .long (nu i)), (3, .int (nI (kn i))), (0, .ref (a 0)), (1, .int (nI i)), (2, .ref (o 0))] 83 []
          exact x_sub [2, 3, 4] rfl (jn83 (va_up (va_up ob oz (kn i)) (oz + 1) x.2.1.toInt.toNat) ((oz + 1) + 1) (by rw [hm]; exact tc_apd_1 f0 rfl rfl) (by omega))
        ·
          refine x_iload_n C dS_appendNode_70 rfl 1 rfl ?_
          refine x_bipush (v := nI 8) C dS_appendNode_71 (by decide) ?_
          refine x_icmp_neN (tgt := 83) C (by omega) (by decide) dS_appendNode_73 (by decide) (fun h73 => ?_) (fun h73 => ?_)
          ·
            exact x_sub [2, 3, 4] rfl (jn83 (va_up ob oz (kn i)) (oz + 1) (by rw [tc_mid_none (fun z => h21 (q3.trans z)) (fun z => h41 (q3.trans z)) (fun z => h61 (q3.trans z)) (fun z => h67 (q3.trans z)) (fun z => h73 (q3.trans z))]; exact f0) (by rw [tc_mid_none (fun z => h21 (q3.trans z)) (fun z => h41 (q3.trans z)) (fun z => h61 (q3.trans z)) (fun z => h67 (q3.trans z)) (fun z => h73 (q3.trans z))]; rfl))
          ·
            have hk689 : kn i = 6 ∨ kn i = 9 ∨ kn i = 8 := Or.inr (Or.inr h73)
            refine x_aload_n C dS_appendNode_76 rfl 4 rfl ?_
            refine x_lload C dS_appendNode_77 0 rfl ?_
            refine x_l2i (v := nI x.2.1.toInt.toNat) C dS_appendNode_79 (tc_l2iN (by rw [y3.2.1]; exact (tc_okn_w y5 (Or.inr (q3 ▸ hk689))).1)) ?_
            have hm : tc_mid x = [x.2.1.toInt.toNat] := by unfold tc_mid; rw [if_neg (fun z => h21 (q3.trans z)), if_neg (fun z => h41 (q3.trans z)), if_pos (q3 ▸ hk689)]
            have hml := congrArg List.length hm
            rw [List.length_singleton] at hml
            refine x_callV C (c_B_append D o co (va_up ob oz (kn i)) (oz + 1) x.2.1.toInt.toNat (by omega)) kbS_87 kcS_87 [9, 10] [0, 1, 2, 3, 4, 5, 6, 7, 8] [8] (tc_wS a ca kn nu wo si de la le ro tm nd) rfl rfl (by decide) (by decide) (by decide) rfl 0 rfl rfl ⟨Nat.le_of_ble_eq_true rfl, Nat.le_of_ble_eq_true rfl⟩ ⟨Nat.le_of_ble_eq_true rfl, Nat.le_of_ble_eq_true rfl⟩ [] rfl rfl (Nat.le_of_ble_eq_true rfl) dS_appendNode_80 (fun rv ru hw => ?_)
            obtain ⟨rfl, rfl⟩ := hw
            show xk_Go K D 7 0 0 (tc_wS a ca kn nu wo si de la le ro tm nd ++ tc_wB o co (va_up (va_up ob oz (kn i)) (oz + 1) x.2.1.toInt.toNat) ((oz + 1) + 1)) [(4, .long (nu i)), (3, .int (nI (kn i))), (0, .ref (a 0)), (1, .int (nI i)), (2, .ref (o 0))] 83 []
            exact x_sub [2, 3, 4] rfl (jn83 (va_up (va_up ob oz (kn i)) (oz + 1) x.2.1.toInt.toNat) ((oz + 1) + 1) (by rw [hm]; exact tc_apd_1 f0 rfl rfl) (by omega))
    ·
      refine x_aload_n C dS_appendNode_44 rfl 4 rfl ?_
      refine x_lload C dS_appendNode_45 0 rfl ?_
      refine x_lload C dS_appendNode_47 0 rfl ?_
      refine x_callS C (c_F_signedGroups D (nu i)) kbS_100 kcS_100 [] [0, 1, 2, 3, 4, 5, 6, 7, 8, 9, 10] [] (tc_wS a ca kn nu wo si de la le ro tm nd ++ tc_wB o co (va_up ob oz (kn i)) (oz + 1)) rfl rfl (by decide) (by decide) (by decide) rfl ⟨Nat.le_of_ble_eq_true rfl, Nat.le_of_ble_eq_true rfl⟩ ⟨Nat.le_of_ble_eq_true rfl, Nat.le_of_ble_eq_true rfl⟩ [.long (nu i), .ref (o 0)] rfl rfl (Nat.le_of_ble_eq_true rfl) dS_appendNode_49 (fun rv ru hw => ?_)
      obtain ⟨rfl, rfl⟩ := hw
      show xk_Go K D 7 0 0 (tc_wS a ca kn nu wo si de la le ro tm nd ++ tc_wB o co (va_up ob oz (kn i)) (oz + 1)) [(4, .long (nu i)), (3, .int (nI (kn i))), (0, .ref (a 0)), (1, .int (nI i)), (2, .ref (o 0))] 52 [.int (nI (tc_gS (nu i).toInt)), .long (nu i), .ref (o 0)]
      have hm : tc_mid x = tc_grs (nu i) (tc_gS (nu i).toInt) := by unfold tc_mid; rw [if_neg (fun z => h21 (q3.trans z)), if_pos (q3 ▸ h41), y3.2.1]
      have hml := congrArg List.length hm
      rw [tc_grs_len] at hml
      have hg := tc_gS_le (nu i).toInt
      refine x_callV C (c_B_appendGroups D o co (va_up ob oz (kn i)) (oz + 1) (nu i) (tc_gS (nu i).toInt) (by omega) (by omega)) kbS_96 kcS_96 [9, 10] [0, 1, 2, 3, 4, 5, 6, 7, 8] [8] (tc_wS a ca kn nu wo si de la le ro tm nd) rfl rfl (by decide) (by decide) (by decide) rfl 0 rfl rfl ⟨Nat.le_of_ble_eq_true rfl, Nat.le_of_ble_eq_true rfl⟩ ⟨Nat.le_of_ble_eq_true rfl, Nat.le_of_ble_eq_true rfl⟩ [] rfl rfl (Nat.le_of_ble_eq_true rfl) dS_appendNode_52 (fun rv ru hw => ?_)
      obtain ⟨bgm, rfl, rfl, g1m, g2m⟩ := hw
      show xk_Go K D 7 0 0 (tc_wS a ca kn nu wo si de la le ro tm nd ++ tc_wB o co bgm ((oz + 1) + (tc_gS (nu i).toInt))) [(4, .long (nu i)), (3, .int (nI (kn i))), (0, .ref (a 0)), (1, .int (nI i)), (2, .ref (o 0))] 55 []
      refine x_goto C 83 dS_appendNode_55 (by decide) ?_
      exact x_sub [2, 3, 4] rfl (jn83 bgm ((oz + 1) + (tc_gS (nu i).toInt)) (by rw [hm]; exact tc_apd_g f0 rfl g1m g2m) (by omega))
  ·
    obtain ⟨v, hv, hv2, hvx⟩ : ∃ v, nu i = lN v ∧ v ≤ 200 ∧ v = x.2.1.toInt.toNat := ⟨_, by rw [y3.2.1]; exact (tc_okn_w y5 (Or.inl (q3 ▸ h21))).1, (tc_okn_w y5 (Or.inl (q3 ▸ h21))).2, rfl⟩
    rw [hv]
    have hg := tc_gU_le v
    refine x_aload_n C dS_appendNode_24 rfl 4 rfl ?_
    refine x_lload C dS_appendNode_25 0 rfl ?_
    refine x_lload C dS_appendNode_27 0 rfl ?_
    refine x_callS C (c_F_unsignedGroups D v (by omega)) kbS_92 kcS_92 [] [0, 1, 2, 3, 4, 5, 6, 7, 8, 9, 10] [] (tc_wS a ca kn nu wo si de la le ro tm nd ++ tc_wB o co (va_up ob oz (kn i)) (oz + 1)) rfl rfl (by decide) (by decide) (by decide) rfl ⟨Nat.le_of_ble_eq_true rfl, Nat.le_of_ble_eq_true rfl⟩ ⟨Nat.le_of_ble_eq_true rfl, Nat.le_of_ble_eq_true rfl⟩ [.long (lN v), .ref (o 0)] rfl rfl (Nat.le_of_ble_eq_true rfl) dS_appendNode_29 (fun rv ru hw => ?_)
    obtain ⟨rfl, rfl⟩ := hw
    show xk_Go K D 7 0 0 (tc_wS a ca kn nu wo si de la le ro tm nd ++ tc_wB o co (va_up ob oz (kn i)) (oz + 1)) [(4, .long (lN v)), (3, .int (nI (kn i))), (0, .ref (a 0)), (1, .int (nI i)), (2, .ref (o 0))] 32 [.int (nI (tc_gU v)), .long (lN v), .ref (o 0)]
    have hm : tc_mid x = tc_grs (lN v) (tc_gU v) := by unfold tc_mid; rw [if_pos (q3 ▸ h21), ← hvx, ← y3.2.1, hv]
    have hml := congrArg List.length hm
    rw [tc_grs_len] at hml
    refine x_callV C (c_B_appendGroups D o co (va_up ob oz (kn i)) (oz + 1) (lN v) (tc_gU v) (by omega) (by omega)) kbS_96 kcS_96 [9, 10] [0, 1, 2, 3, 4, 5, 6, 7, 8] [8] (tc_wS a ca kn nu wo si de la le ro tm nd) rfl rfl (by decide) (by decide) (by decide) rfl 0 rfl rfl ⟨Nat.le_of_ble_eq_true rfl, Nat.le_of_ble_eq_true rfl⟩ ⟨Nat.le_of_ble_eq_true rfl, Nat.le_of_ble_eq_true rfl⟩ [] rfl rfl (Nat.le_of_ble_eq_true rfl) dS_appendNode_32 (fun rv ru hw => ?_)
    obtain ⟨bgm, rfl, rfl, g1m, g2m⟩ := hw
    show xk_Go K D 7 0 0 (tc_wS a ca kn nu wo si de la le ro tm nd ++ tc_wB o co bgm ((oz + 1) + (tc_gU v))) [(4, .long (lN v)), (3, .int (nI (kn i))), (0, .ref (a 0)), (1, .int (nI i)), (2, .ref (o 0))] 35 []
    refine x_goto C 83 dS_appendNode_35 (by decide) ?_
    exact x_sub [2, 3, 4] rfl (jn83 bgm ((oz + 1) + (tc_gU v)) (by rw [hm]; exact tc_apd_g f0 rfl g1m g2m) (by omega))
end
section
/-! PURE 12: the node that a node is of; what 'of' answers. -/
theorem tc_sz_le {L : List tc_Nd} : tc_sz L ≤ L.length := by
  have h := tc_ev_sum_s L
  unfold tc_sz tc_tv
  match he : tc_ev tc_fs L with
  | [] => exact Nat.zero_le _
  | a :: r =>
    rw [he] at h
    rw [List.sum_cons] at h
    show a ≤ _
    omega
theorem tc_sz_app {A B : List tc_Nd} {n k : Nat} (h : tc_wf n A) (hk : k < A.length) : tc_sz ((A ++ B).drop k) = tc_sz (A.drop k) := by
  rw [List.drop_append_of_le_length (Nat.le_of_lt hk)]
  obtain ⟨m, hm⟩ := tc_wf_drop k h
  refine tc_tv_app _ _ hm ?_ B
  have hl : 0 < (A.drop k).length := by rw [List.length_drop]; omega
  match hd : A.drop k, hm, hl with
  | x :: R, hm, _ => exact hm.1
theorem tc_parP {L : List tc_Nd} (h : tc_wf 1 L) : ∀ (i : Nat) (q : tc_Q) (j : Nat), 0 < j → j < L.length → ∃ (p : Nat) (e : tc_Q), (tc_fw i [q] L)[j]? = some e ∧ e.1 = some (i + p) ∧ p < j ∧ j < p + tc_sz (L.drop p) ∧ ∀ t, p < t → t < j → t + tc_sz (L.drop t) ≤ j := by
  refine tc_induct (P := fun L => ∀ (i : Nat) (q : tc_Q) (j : Nat), 0 < j → j < L.length → ∃ (p : Nat) (e : tc_Q), (tc_fw i [q] L)[j]? = some e ∧ e.1 = some (i + p) ∧ p < j ∧ j < p + tc_sz (L.drop p) ∧ ∀ t, p < t → t < j → t + tc_sz (L.drop t) ≤ j) h ?_ ?_ ?_
  · intro x hx i q j h1 h2
    have : j < 1 := h2
    omega
  · intro x A hx hA ih i q j h1 h2
    have h2 : j < A.length + 1 := h2
    have hs : tc_sz (x :: A) = A.length + 1 := tc_sz_len (show tc_wf 1 (x :: A) from ⟨by omega, by rw [hx]; exact hA⟩)
    have hl := tc_wf_pos hA
    rw [tc_fw_t1 hx]
    obtain ⟨j, rfl⟩ : ∃ k, j = k + 1 := ⟨j - 1, by omega⟩
    rw [List.getElem?_cons_succ]
    by_cases hj : j = 0
    · subst hj
      match A, hA, hl, hs with
      | y :: A', hA, hl, hs =>
        refine ⟨0, _, rfl, rfl, by omega, ?_, fun t h3 h4 => by omega⟩
        show 0 + 1 < 0 + tc_sz (x :: y :: A')
        rw [hs]
        simp
    · obtain ⟨p, e, h3, h4, h5, h6, h7⟩ := ih (i + 1) _ j (by omega) (by omega)
      refine ⟨p + 1, e, h3, by rw [h4, show i + 1 + p = i + (p + 1) by omega], by omega, ?_, fun t h8 h9 => ?_⟩
      · show j + 1 < p + 1 + tc_sz (A.drop p)
        omega
      · obtain ⟨t, rfl⟩ : ∃ k, t = k + 1 := ⟨t - 1, by omega⟩
        have := h7 t (by omega) (by omega)
        show t + 1 + tc_sz (A.drop t) ≤ j + 1
        omega
  · intro x A B hx hA hB ihA ihB i q j h1 h2
    have h2 : j < (A ++ B).length + 1 := h2
    rw [List.length_append] at h2
    have hs : tc_sz (x :: (A ++ B)) = (A ++ B).length + 1 := tc_sz_len (show tc_wf 1 (x :: (A ++ B)) from ⟨by omega, by rw [hx]; exact tc_wf_app (a := 1) (b := 1) hA hB⟩)
    rw [List.length_append] at hs
    have hlA := tc_wf_pos hA
    have hlB := tc_wf_pos hB
    have hfA := tc_fw_len (i + 1) [(some i, q.2.1 + 1, q.2.2 + if x.1 = 1 then 1 else 0)] hA rfl
    rw [tc_fw_t2 hx hA]
    obtain ⟨j, rfl⟩ : ∃ k, j = k + 1 := ⟨j - 1, by omega⟩
    rw [List.getElem?_cons_succ]
    by_cases hjA : j < A.length
    · rw [List.getElem?_append_left (by omega)]
      by_cases hj : j = 0
      · subst hj
        match A, hA, hlA, hs with
        | y :: A', hA, hlA, hs =>
          refine ⟨0, _, rfl, rfl, by omega, ?_, fun t h3 h4 => by omega⟩
          show 0 + 1 < 0 + tc_sz (x :: ((y :: A') ++ B))
          rw [hs]
          simp
          omega
      · obtain ⟨p, e, h3, h4, h5, h6, h7⟩ := ihA (i + 1) _ j (by omega) hjA
        refine ⟨p + 1, e, h3, by rw [h4, show i + 1 + p = i + (p + 1) by omega], by omega, ?_, fun t h8 h9 => ?_⟩
        · show j + 1 < p + 1 + tc_sz ((A ++ B).drop p)
          rw [tc_sz_app hA (by omega)]
          omega
        · obtain ⟨t, rfl⟩ : ∃ k, t = k + 1 := ⟨t - 1, by omega⟩
          have := h7 t (by omega) (by omega)
          show t + 1 + tc_sz ((A ++ B).drop t) ≤ j + 1
          rw [tc_sz_app hA (by omega)]
          omega
    · rw [List.getElem?_append_right (by omega), hfA]
      by_cases hj : j - A.length = 0
      · rw [hj]
        match B, hB, hlB with
        | y :: B', hB, hlB =>
          refine ⟨0, _, rfl, rfl, by omega, ?_, fun t h3 h4 => ?_⟩
          · show j + 1 < 0 + tc_sz (x :: (A ++ (y :: B')))
            rw [hs]
            simp
            omega
          · obtain ⟨t, rfl⟩ : ∃ k, t = k + 1 := ⟨t - 1, by omega⟩
            show t + 1 + tc_sz ((A ++ (y :: B')).drop t) ≤ j + 1
            rw [tc_sz_app hA (by omega)]
            have := tc_sz_le (L := A.drop t)
            rw [List.length_drop] at this
            omega
      · obtain ⟨p, e, h3, h4, h5, h6, h7⟩ := ihB (i + 1 + A.length) _ (j - A.length) (by omega) (by omega)
        have hd : ∀ t, (x :: (A ++ B)).drop (t + A.length + 1) = B.drop t := by
          intro t
          show (A ++ B).drop (t + A.length) = B.drop t
          rw [Nat.add_comm, ← List.drop_drop, List.drop_left]
        refine ⟨p + A.length + 1, e, h3, by rw [h4, show i + 1 + A.length + p = i + (p + A.length + 1) by omega], by omega, ?_, fun t h8 h9 => ?_⟩
        · rw [hd]
          omega
        · obtain ⟨t, rfl⟩ : ∃ k, t = k + A.length + 1 := ⟨t - A.length - 1, by omega⟩
          have := h7 t (by omega) (by omega)
          rw [hd]
          omega
/-- the number of the node that node k is of -/
def tc_par (L : List tc_Nd) (k : Nat) : Option Nat := match (tc_E L)[k]? with
  | some q => q.1
  | none => none
theorem tc_par_0 {L : List tc_Nd} : tc_par L 0 = none := by
  unfold tc_par tc_E
  match L with
  | [] => rfl
  | x :: R => rfl
theorem tc_par_s {L : List tc_Nd} (h : tc_wf 1 L) {k : Nat} (h0 : 0 < k) (hk : k < L.length) : ∃ p, tc_par L k = some p ∧ p < k ∧ k < p + tc_sz (L.drop p) ∧ ∀ t, p < t → t < k → t + tc_sz (L.drop t) ≤ k := by
  obtain ⟨p, e, h1, h2, h3, h4, h5⟩ := tc_parP h 0 tc_q0 k h0 hk
  refine ⟨p, ?_, h3, h4, h5⟩
  unfold tc_par tc_E
  rw [h1]
  show e.1 = some p
  rw [h2, Nat.zero_add]
theorem tc_par_is {L : List tc_Nd} (h : tc_wf 1 L) {k j : Nat} (hk : k < L.length) (h1 : j < k) (h2 : k < j + tc_sz (L.drop j)) (h3 : ∀ t, j < t → t < k → t + tc_sz (L.drop t) ≤ k) : tc_par L k = some j := by
  obtain ⟨p, e, p1, p2, p3⟩ := tc_par_s h (by omega) hk
  rw [e]
  congr 1
  rcases Nat.lt_trichotomy p j with q | q | q
  · have := p3 j q h1
    omega
  · exact q
  · have := h3 p q p1
    omega
theorem tc_par_no {L : List tc_Nd} (h : tc_wf 1 L) {k : Nat} (hk : k < L.length) (h3 : ∀ t, t < k → t + tc_sz (L.drop t) ≤ k) : tc_par L k = none := by
  by_cases h0 : k = 0
  · rw [h0]; exact tc_par_0
  · obtain ⟨p, e, p1, p2, p3⟩ := tc_par_s h (by omega) hk
    have := h3 p p1
    omega
def tc_ofn (x : tc_Nd) (R : List tc_Nd) (pr : Option Nat) (w : Int32) : Option Nat := if w = nI 0 then some x.1 else if w = nI 1 then some (tc_sz (x :: R)) else if w = nI 2 then some (tc_dp (x :: R)) else if w = nI 3 then some (tc_lk (x :: R)) else if w = nI 4 then pr else if w = nI 5 then (if x.1 = 8 then some x.2.2.length else none) else none
/-- node k of the last term -/
def tc_nth (Ts : List (List tc_Nd)) (k : Int32) : Option Nat := match Ts with
  | [] => none
  | t :: _ => if 0 ≤ k.toInt ∧ k.toInt < (t.length : Int) then some k.toInt.toNat else none
theorem tc_nth_some {t : List tc_Nd} {R : List (List tc_Nd)} {j : Nat} (hj : j < t.length) (hl : t.length ≤ 200) : tc_nth (t :: R) (nI j) = some j := by
  show (if _ then _ else _) = _
  rw [nI_toInt (by omega), if_pos (by omega), Int.toNat_natCast]
theorem tc_nth_none {t : List tc_Nd} {R : List (List tc_Nd)} {k : Int32} (hl : t.length ≤ 200) (h : ∀ j, j < t.length → k ≠ nI j) : tc_nth (t :: R) k = none := by
  refine if_neg (fun q => ?_)
  refine h k.toInt.toNat (by omega) (Int32.toInt_inj.mp ?_)
  rw [nI_toInt (by omega)]
  omega
end
section
/-! PURE 13: what the calls of TermCodec answer. -/
theorem tc_rng18 {n : Int32} (h1 : ¬ n < nI 1) (h8 : ¬ nI 8 < n) : ∃ k, 1 ≤ k ∧ k ≤ 8 ∧ n = nI k := by
  rw [Int32.lt_iff_toInt_lt, nI_toInt (by decide)] at h1 h8
  refine ⟨n.toInt.toNat, by omega, by omega, Int32.toInt_inj.mp ?_⟩
  rw [nI_toInt (by omega)]
  omega
def tc_more (p : Int64) (n : Int32) (Ts : List (List tc_Nd)) : Option (List (List tc_Nd)) := if 1 ≤ n.toInt ∧ n.toInt ≤ 8 then tc_ext p n.toInt.toNat Ts else none
theorem tc_more_lo {p : Int64} {n : Int32} {Ts : List (List tc_Nd)} (h : n < nI 1) : tc_more p n Ts = none := by
  rw [Int32.lt_iff_toInt_lt, nI_toInt (by decide)] at h
  exact if_neg (by omega)
theorem tc_more_hi {p : Int64} {n : Int32} {Ts : List (List tc_Nd)} (h : nI 8 < n) : tc_more p n Ts = none := by
  rw [Int32.lt_iff_toInt_lt, nI_toInt (by decide)] at h
  exact if_neg (by omega)
theorem tc_more_in {p : Int64} {k : Nat} {Ts : List (List tc_Nd)} (h1 : 1 ≤ k) (h8 : k ≤ 8) : tc_more p (nI k) Ts = tc_ext p k Ts := by
  unfold tc_more
  rw [nI_toInt (by omega), if_pos (by omega), Int.toNat_natCast]
def tc_gv (n : Int32) (gz : Nat) : Option Nat := if 1 ≤ n.toInt ∧ n.toInt ≤ 8 ∧ n.toInt + gz ≤ 4096 then some n.toInt.toNat else none
theorem tc_gv_lo {n : Int32} {gz : Nat} (h : n < nI 1) : tc_gv n gz = none := by
  rw [Int32.lt_iff_toInt_lt, nI_toInt (by decide)] at h
  exact if_neg (by omega)
theorem tc_gv_hi {n : Int32} {gz : Nat} (h : nI 8 < n) : tc_gv n gz = none := by
  rw [Int32.lt_iff_toInt_lt, nI_toInt (by decide)] at h
  exact if_neg (by omega)
theorem tc_gv_in {k gz : Nat} (h1 : 1 ≤ k) (h8 : k ≤ 8) (h : k + gz ≤ 4096) : tc_gv (nI k) gz = some k := by
  unfold tc_gv
  rw [nI_toInt (by omega), if_pos (by omega), Int.toNat_natCast]
theorem tc_gv_no {k gz : Nat} (h8 : k ≤ 8) (h : 4096 < k + gz) : tc_gv (nI k) gz = none := by
  unfold tc_gv
  rw [nI_toInt (by omega), if_neg (by omega)]
def tc_ct (n : Int32) (gz : Nat) : Option Nat := if 0 ≤ n.toInt ∧ n.toInt ≤ gz then some n.toInt.toNat else none
theorem tc_ct_lo {n : Int32} {gz : Nat} (h : n < 0) : tc_ct n gz = none := by
  rw [Int32.lt_iff_toInt_lt, Int32.toInt_zero] at h
  exact if_neg (by omega)
theorem tc_ct_in {k gz : Nat} (h : k ≤ gz) (hg : gz < 2 ^ 31) : tc_ct (nI k) gz = some k := by
  unfold tc_ct
  rw [nI_toInt (by omega), if_pos (by omega), Int.toNat_natCast]
theorem tc_ct_no {k gz : Nat} (h : gz < k) (hg : k < 2 ^ 31) : tc_ct (nI k) gz = none := by
  unfold tc_ct
  rw [nI_toInt (by omega), if_neg (by omega)]
theorem tc_bts_take {v : Int64} {k j : Nat} (h : j + 1 ≤ k) : (tc_bts v k).take (k - j) = (tc_bts v k).take (k - (j + 1)) ++ [tc_by v j] := by
  have hg : (tc_bts v k)[k - (j + 1)]? = some (tc_by v j) := by
    unfold tc_bts
    rw [List.getElem?_map, List.getElem?_range (by omega)]
    show some (tc_by v (k - 1 - (k - (j + 1)))) = _
    rw [show k - 1 - (k - (j + 1)) = j by omega]
  rw [show k - j = k - (j + 1) + 1 by omega]
  exact tc_take1 hg
-- a term's bytes
def tc_tb (t : List tc_Nd) : List Nat := t.flatMap tc_nb
theorem tc_tb_take {t : List tc_Nd} {q : Nat} {x : tc_Nd} (h : t[q]? = some x) : tc_tb (t.take (q + 1)) = tc_tb (t.take q) ++ tc_nb x := by
  obtain ⟨h1, h2⟩ := List.getElem?_eq_some_iff.mp h
  rw [List.take_succ_eq_append_getElem h1, h2]
  unfold tc_tb
  rw [List.flatMap_append]
  simp
theorem tc_nb_len {x : tc_Nd} (h : tc_okn x) : (tc_nb x).length = tc_ol x.1 x.2.1 := by
  have yl : (tc_nb x).length = 1 + (tc_mid x).length + x.2.2.length := by
    unfold tc_nb
    rw [List.length_append, List.length_cons]
    omega
  rw [yl]
  unfold tc_mid tc_ol
  have hn := h.2.2.2.1
  by_cases h0 : x.1 = 0
  · rw [if_pos h0, if_pos h0, tc_grs_len, hn (by omega)]
    rfl
  · rw [if_neg h0, if_neg h0]
    by_cases h7 : x.1 = 7
    · rw [if_pos h7, if_pos h7, tc_grs_len, hn (by omega)]
      rfl
    · rw [if_neg h7, if_neg h7]
      by_cases h8 : x.1 = 8
      · rw [if_pos (by omega), if_pos h8, h.2.2.1 h8, pk_lT (by have := h.2.2.2.2.1; omega), Int.toNat_natCast]
        show 1 + 1 + _ = _
        omega
      · rw [if_neg h8, hn h8]
        by_cases h6 : x.1 = 6 ∨ x.1 = 9
        · rw [if_pos (by omega), if_pos h6]
          rfl
        · rw [if_neg (by omega), if_neg h6]
          rfl
theorem tc_tb_sum : ∀ (t : List tc_Nd), (∀ x ∈ t, tc_okn x) → (tc_ev tc_fn t).sum = (tc_tb t).length
  | [], _ => rfl
  | x :: R, h => by
    show (tc_ol x.1 x.2.1 + ((tc_ev tc_fn R).take (tc_tk x.1)).sum) + ((tc_ev tc_fn R).drop (tc_tk x.1)).sum = (tc_nb x ++ tc_tb R).length
    have h1 := tc_sum_td (tc_ev tc_fn R) (tc_tk x.1)
    have h2 := tc_tb_sum R (fun y hy => h y (List.mem_cons_of_mem _ hy))
    rw [List.length_append, tc_nb_len (h x List.mem_cons_self)]
    omega
theorem tc_ln_tb {t : List tc_Nd} (h : tc_okt t) : tc_ln t = (tc_tb t).length := by
  rw [← tc_tb_sum t h.2.2, tc_ev_one tc_fn 0 h.1]
  show _ = tc_tv tc_fn 0 t + 0
  rfl
theorem tc_tb_le {t : List tc_Nd} (q : Nat) : (tc_tb (t.take q)).length ≤ (tc_tb t).length := by
  have h : tc_tb t = tc_tb (t.take q) ++ tc_tb (t.drop q) := by
    unfold tc_tb
    rw [← List.flatMap_append, List.take_append_drop]
  rw [h, List.length_append]
  omega
def tc_wr (Ts : List (List tc_Nd)) (oz : Nat) : Option (List Nat) := match Ts with
  | [] => none
  | t :: _ => if oz + tc_ln t ≤ 4096 then some (tc_tb t) else none
theorem tc_apd_app {bf bg bh : Nat → Nat} {sz s : Nat} {L M : List Nat} (h : tc_apd bf sz bg L) (hs : s = sz + L.length) (g : tc_apd bg s bh M) : tc_apd bf sz bh (L ++ M) := by
  refine ⟨fun j hj => (g.1 j (by omega)).trans (h.1 j hj), fun j b hb => ?_⟩
  rcases Nat.lt_or_ge j L.length with q | q
  · rw [List.getElem?_append_left q] at hb
    exact (g.1 _ (by omega)).trans (h.2 j b hb)
  · rw [List.getElem?_append_right q] at hb
    have := g.2 _ _ hb
    rwa [show s + (j - L.length) = sz + j by omega] at this
def tc_lln (Ts : List (List tc_Nd)) : Option Nat := match Ts with
  | [] => none
  | t :: _ => some (tc_ln t)
theorem tc_w8 (w : Int32) : w = nI 0 ∨ w = nI 1 ∨ w = nI 2 ∨ w = nI 3 ∨ w = nI 4 ∨ w = nI 5 ∨ w = nI 6 ∨ w = nI 7 ∨ (w.toInt < 0 ∨ 7 < w.toInt) := by
  by_cases h : w.toInt < 0 ∨ 7 < w.toInt
  · simp [h]
  · have key : ∀ j : Nat, j < 100 → w.toInt = j → w = nI j := fun j hj e => Int32.toInt_inj.mp (by rw [nI_toInt (by omega)]; exact e)
    have h2 : w.toInt = (0 : Nat) ∨ w.toInt = (1 : Nat) ∨ w.toInt = (2 : Nat) ∨ w.toInt = (3 : Nat) ∨ w.toInt = (4 : Nat) ∨ w.toInt = (5 : Nat) ∨ w.toInt = (6 : Nat) ∨ w.toInt = (7 : Nat) := by omega
    rcases h2 with q | q | q | q | q | q | q | q
    · exact Or.inl (key _ (by decide) q)
    · exact Or.inr (Or.inl (key _ (by decide) q))
    · exact Or.inr (Or.inr (Or.inl (key _ (by decide) q)))
    · exact Or.inr (Or.inr (Or.inr (Or.inl (key _ (by decide) q))))
    · exact Or.inr (Or.inr (Or.inr (Or.inr (Or.inl (key _ (by decide) q)))))
    · exact Or.inr (Or.inr (Or.inr (Or.inr (Or.inr (Or.inl (key _ (by decide) q))))))
    · exact Or.inr (Or.inr (Or.inr (Or.inr (Or.inr (Or.inr (Or.inl (key _ (by decide) q)))))))
    · exact Or.inr (Or.inr (Or.inr (Or.inr (Or.inr (Or.inr (Or.inr (Or.inl (key _ (by decide) q))))))))
theorem tc_w6 (w : Int32) : w = nI 0 ∨ w = nI 1 ∨ w = nI 2 ∨ w = nI 3 ∨ w = nI 4 ∨ w = nI 5 ∨ (w.toInt < 0 ∨ 5 < w.toInt) := by
  rcases tc_w8 w with q | q | q | q | q | q | q | q | q
  · exact Or.inl q
  · exact Or.inr (Or.inl q)
  · exact Or.inr (Or.inr (Or.inl q))
  · exact Or.inr (Or.inr (Or.inr (Or.inl q)))
  · exact Or.inr (Or.inr (Or.inr (Or.inr (Or.inl q))))
  · exact Or.inr (Or.inr (Or.inr (Or.inr (Or.inr (Or.inl q)))))
  · exact Or.inr (Or.inr (Or.inr (Or.inr (Or.inr (Or.inr (by rw [q]; decide))))))
  · exact Or.inr (Or.inr (Or.inr (Or.inr (Or.inr (Or.inr (by rw [q]; decide))))))
  · exact Or.inr (Or.inr (Or.inr (Or.inr (Or.inr (Or.inr (by omega))))))
def tc_look (tm nd oz gz ap fa : Nat) (pl ln : Option Nat) (w : Int32) : Option Nat := if w = nI 0 then some tm else if w = nI 1 then some nd else if w = nI 2 then some oz else if w = nI 3 then some gz else if w = nI 4 then some ap else if w = nI 5 then some fa else if w = nI 6 then pl else if w = nI 7 then ln else none
theorem tc_look_no {tm nd oz gz ap fa : Nat} {pl ln : Option Nat} {w : Int32} (h : w.toInt < 0 ∨ 7 < w.toInt) : tc_look tm nd oz gz ap fa pl ln w = none := by
  have key : ∀ j : Nat, j ≤ 7 → ¬ w = nI j := fun j hj e => by rw [e, nI_toInt (by omega)] at h; omega
  unfold tc_look
  rw [if_neg (key 0 (by decide)), if_neg (key 1 (by decide)), if_neg (key 2 (by decide)), if_neg (key 3 (by decide)), if_neg (key 4 (by decide)), if_neg (key 5 (by decide)), if_neg (key 6 (by decide)), if_neg (key 7 (by decide))]
theorem tc_ofn_no {x : tc_Nd} {R : List tc_Nd} {pr : Option Nat} {w : Int32} (h : w.toInt < 0 ∨ 5 < w.toInt) : tc_ofn x R pr w = none := by
  have key : ∀ j : Nat, j ≤ 5 → ¬ w = nI j := fun j hj e => by rw [e, nI_toInt (by omega)] at h; omega
  unfold tc_ofn
  rw [if_neg (key 0 (by decide)), if_neg (key 1 (by decide)), if_neg (key 2 (by decide)), if_neg (key 3 (by decide)), if_neg (key 4 (by decide)), if_neg (key 5 (by decide))]
def tc_ofa (Ts : List (List tc_Nd)) (k w : Int32) : Option Nat := match Ts with
  | [] => none
  | t :: R => match tc_nth (t :: R) k with
    | none => none
    | some j => match t.drop j with
      | [] => none
      | x :: Q => tc_ofn x Q (tc_par t j) w
theorem tc_ofa_none {Ts : List (List tc_Nd)} {k w : Int32} (h : tc_nth Ts k = none) : tc_ofa Ts k w = none := by
  match Ts, h with
  | [], _ => rfl
  | t :: R, h =>
    simp only [tc_ofa, h]
theorem tc_ofa_some {t Q : List tc_Nd} {R : List (List tc_Nd)} {k w : Int32} {j : Nat} {x : tc_Nd} (h : tc_nth (t :: R) k = some j) (hd : t.drop j = x :: Q) : tc_ofa (t :: R) k w = tc_ofn x Q (tc_par t j) w := by
  simp only [tc_ofa, h, hd]
def tc_bta (Ts : List (List tc_Nd)) (k j : Int32) : Option Nat := match Ts with
  | [] => none
  | t :: R => match tc_nth (t :: R) k with
    | none => none
    | some q => match t[q]? with
      | none => none
      | some x => if 0 ≤ j.toInt then x.2.2[j.toInt.toNat]? else none
theorem tc_bta_none {Ts : List (List tc_Nd)} {k j : Int32} (h : tc_nth Ts k = none) : tc_bta Ts k j = none := by
  match Ts, h with
  | [], _ => rfl
  | t :: R, h =>
    simp only [tc_bta, h]
theorem tc_bta_some {t : List tc_Nd} {R : List (List tc_Nd)} {k j : Int32} {q : Nat} {x : tc_Nd} (h : tc_nth (t :: R) k = some q) (hd : t[q]? = some x) : tc_bta (t :: R) k j = if 0 ≤ j.toInt then x.2.2[j.toInt.toNat]? else none := by
  simp only [tc_bta, h, hd]
end
section
theorem tc_nth_no {Ts : List (List tc_Nd)} {kn : Nat → Nat} {nu wo : Nat → Int64} {si de la le ro : Nat → Nat} {tm nd : Nat} {k : Int32} (h : tc_RS Ts (kn, nu, wo, si, de, la, le) ro tm nd) (g : tm = 0 ∨ ∀ j, j < si (ro (tm - 1)) → k ≠ nI j) : tc_nth Ts k = none := by
  match Ts, h with
  | [], _ => rfl
  | t :: R, h =>
    obtain ⟨z1, z2, z3, z4, z5, z6, z7, z8, z9, z10, z11, z12⟩ := tc_top h
    have g := g.resolve_left (by omega)
    rw [z2, z9] at g
    exact tc_nth_none (by omega) g
theorem tc_sib {kn : Nat → Nat} {nu wo : Nat → Int64} {si de la le : Nat → Nat} {t : List tc_Nd} {r i : Nat} (h : tc_AR (kn, nu, wo, si, de, la, le) r t) (hi : i < t.length) : si (r + i) = tc_sz (t.drop i) := by
  have hx : t[i]? = some t[i] := List.getElem?_eq_getElem hi
  have := (tc_at_k h hx).2.2.2.1
  rw [tc_drop1 hx]
  exact this
end
section
theorem fgX_10 : xk_F RX 10 3 0 := ⟨RX, TX, 4, rfl, by decide, i_X, (xk_mem 159 (by decide +kernel) (by decide))⟩
theorem fpX_35 : xk_FP RX 35 1 8 false (.int) := ⟨RS, TS, 10, rfl, by decide, i_S, (xk_mem 79 (by decide +kernel) (by decide)), ⟨tS, tS_ok⟩, nS_ok, rfl, by decide +kernel, fun h => by cases h⟩
theorem fpX_39 : xk_FP RX 39 1 9 false (.int) := ⟨RS, TS, 10, rfl, by decide, i_S, (xk_mem 81 (by decide +kernel) (by decide)), ⟨tS, tS_ok⟩, nS_ok, rfl, by decide +kernel, fun h => by cases h⟩
theorem fgX_19 : xk_F RX 19 3 1 := ⟨RX, TX, 4, rfl, by decide, i_X, (xk_mem 160 (by decide +kernel) (by decide))⟩
theorem fpX_103 : xk_FP RX 103 0 1 false (.int) := ⟨RB, TB, 2, rfl, by decide, i_B, (xk_mem 115 (by decide +kernel) (by decide)), ⟨tB, tB_ok⟩, nB_ok, rfl, by decide +kernel, fun h => by cases h⟩
set_option maxRecDepth 100000 in
theorem kbX_71 : xk_CB RX 71 yS_extend cS_extend 7 (some .boolean) 2 := ⟨(xk_mem 183 (by rfl) rfl), (xk_mem 38 (by decide +kernel) (by decide)), (xk_mem 180 (by decide +kernel) (by decide)), by decide +kernel⟩
theorem kcX_71 : Cond.instanceMethod yS_extend ∈ xk_gt ∧ Cond.selects (yS_extend).cls yS_extend yS_extend ∈ xk_gt := ⟨(xk_mem 181 (by decide +kernel) (by decide)), (xk_mem 182 (by decide +kernel) (by decide))⟩
set_option maxRecDepth 100000 in
theorem kbX_75 : xk_CB RX 75 yS_removeLast cS_removeLast 2 (some .boolean) 0 := ⟨(xk_mem 228 (by rfl) rfl), (xk_mem 38 (by decide +kernel) (by decide)), (xk_mem 225 (by decide +kernel) (by decide)), by decide +kernel⟩
theorem kcX_75 : Cond.instanceMethod yS_removeLast ∈ xk_gt ∧ Cond.selects (yS_removeLast).cls yS_removeLast yS_removeLast ∈ xk_gt := ⟨(xk_mem 226 (by decide +kernel) (by decide)), (xk_mem 227 (by decide +kernel) (by decide))⟩
set_option maxRecDepth 100000 in
theorem kbX_79 : xk_CB RX 79 yS_repeatLast cS_repeatLast 2 (some .boolean) 0 := ⟨(xk_mem 236 (by rfl) rfl), (xk_mem 38 (by decide +kernel) (by decide)), (xk_mem 233 (by decide +kernel) (by decide)), by decide +kernel⟩
theorem kcX_79 : Cond.instanceMethod yS_repeatLast ∈ xk_gt ∧ Cond.selects (yS_repeatLast).cls yS_repeatLast yS_repeatLast ∈ xk_gt := ⟨(xk_mem 234 (by decide +kernel) (by decide)), (xk_mem 235 (by decide +kernel) (by decide))⟩
set_option maxRecDepth 100000 in
theorem kbX_82 : xk_CB RX 82 yS_openLast cS_openLast 5 (some .int) 0 := ⟨(xk_mem 255 (by rfl) rfl), (xk_mem 38 (by decide +kernel) (by decide)), (xk_mem 252 (by decide +kernel) (by decide)), by decide +kernel⟩
theorem kcX_82 : Cond.instanceMethod yS_openLast ∈ xk_gt ∧ Cond.selects (yS_openLast).cls yS_openLast yS_openLast ∈ xk_gt := ⟨(xk_mem 253 (by decide +kernel) (by decide)), (xk_mem 254 (by decide +kernel) (by decide))⟩
set_option maxRecDepth 100000 in
theorem kbX_86 : xk_CB RX 86 yS_lastRoot cS_lastRoot 1 (some .int) 0 := ⟨(xk_mem 187 (by rfl) rfl), (xk_mem 38 (by decide +kernel) (by decide)), (xk_mem 260 (by decide +kernel) (by decide)), by decide +kernel⟩
theorem kcX_86 : Cond.instanceMethod yS_lastRoot ∈ xk_gt ∧ Cond.selects (yS_lastRoot).cls yS_lastRoot yS_lastRoot ∈ xk_gt := ⟨(xk_mem 185 (by decide +kernel) (by decide)), (xk_mem 186 (by decide +kernel) (by decide))⟩
theorem fgX_89 : xk_F RX 89 1 6 := ⟨RS, TS, 10, rfl, by decide, i_S, (xk_mem 76 (by decide +kernel) (by decide))⟩
set_option maxRecDepth 100000 in
theorem kbX_93 : xk_CB RX 93 yB_room cB_room 1 (some .int) 0 := ⟨(xk_mem 264 (by rfl) rfl), (xk_mem 39 (by decide +kernel) (by decide)), (xk_mem 261 (by decide +kernel) (by decide)), by decide +kernel⟩
theorem kcX_93 : Cond.instanceMethod yB_room ∈ xk_gt ∧ Cond.selects (yB_room).cls yB_room yB_room ∈ xk_gt := ⟨(xk_mem 262 (by decide +kernel) (by decide)), (xk_mem 263 (by decide +kernel) (by decide))⟩
theorem fgX_96 : xk_F RX 96 1 3 := ⟨RS, TS, 10, rfl, by decide, i_S, (xk_mem 70 (by decide +kernel) (by decide))⟩
theorem fgX_103 : xk_F RX 103 0 1 := ⟨RB, TB, 2, rfl, by decide, i_B, (xk_mem 115 (by decide +kernel) (by decide))⟩
set_option maxRecDepth 100000 in
theorem kbX_99 : xk_CB RX 99 yS_appendNode cS_appendNode 7 none 2 := ⟨(xk_mem 268 (by rfl) rfl), (xk_mem 38 (by decide +kernel) (by decide)), (xk_mem 265 (by decide +kernel) (by decide)), by decide +kernel⟩
theorem kcX_99 : Cond.instanceMethod yS_appendNode ∈ xk_gt ∧ Cond.selects (yS_appendNode).cls yS_appendNode yS_appendNode ∈ xk_gt := ⟨(xk_mem 266 (by decide +kernel) (by decide)), (xk_mem 267 (by decide +kernel) (by decide))⟩
theorem fgX_23 : xk_F RX 23 3 2 := ⟨RX, TX, 4, rfl, by decide, i_X, (xk_mem 161 (by decide +kernel) (by decide))⟩
set_option maxRecDepth 100000 in
theorem kbX_106 : xk_CB RX 106 yF_byteOf cF_byteOf 3 (some .int) 2 := ⟨(xk_mem 194 (by rfl) rfl), (xk_mem 42 (by decide +kernel) (by decide)), (xk_mem 292 (by decide +kernel) (by decide)), by decide +kernel⟩
theorem kcX_106 : Cond.static yF_byteOf ∈ xk_gt := (xk_mem 193 (by decide +kernel) (by decide))
set_option maxRecDepth 100000 in
theorem kbX_110 : xk_CB RX 110 yB_append cB_append 2 none 1 := ⟨(xk_mem 272 (by rfl) rfl), (xk_mem 39 (by decide +kernel) (by decide)), (xk_mem 293 (by decide +kernel) (by decide)), by decide +kernel⟩
theorem kcX_110 : Cond.instanceMethod yB_append ∈ xk_gt ∧ Cond.selects (yB_append).cls yB_append yB_append ∈ xk_gt := ⟨(xk_mem 270 (by decide +kernel) (by decide)), (xk_mem 271 (by decide +kernel) (by decide))⟩
theorem fgX_31 : xk_F RX 31 3 3 := ⟨RX, TX, 4, rfl, by decide, i_X, (xk_mem 162 (by decide +kernel) (by decide))⟩
theorem fpX_114 : xk_FP RX 114 2 6 false (.int) := ⟨RR, TR, 9, rfl, by decide, i_R, (xk_mem 135 (by decide +kernel) (by decide)), ⟨tR, tR_ok⟩, nR_ok, rfl, by decide +kernel, fun h => by cases h⟩
set_option maxRecDepth 100000 in
theorem kbX_117 : xk_CB RX 117 yB_copyFrom cB_copyFrom 2 none 1 := ⟨(xk_mem 305 (by rfl) rfl), (xk_mem 39 (by decide +kernel) (by decide)), (xk_mem 302 (by decide +kernel) (by decide)), by decide +kernel⟩
theorem kcX_117 : Cond.instanceMethod yB_copyFrom ∈ xk_gt ∧ Cond.selects (yB_copyFrom).cls yB_copyFrom yB_copyFrom ∈ xk_gt := ⟨(xk_mem 303 (by decide +kernel) (by decide)), (xk_mem 304 (by decide +kernel) (by decide))⟩
set_option maxRecDepth 100000 in
theorem kbX_161 : xk_CB RX 161 yB_get cB_get 2 (some .int) 1 := ⟨(xk_mem 330 (by rfl) rfl), (xk_mem 39 (by decide +kernel) (by decide)), (xk_mem 396 (by decide +kernel) (by decide)), by decide +kernel⟩
theorem kcX_161 : Cond.instanceMethod yB_get ∈ xk_gt ∧ Cond.selects (yB_get).cls yB_get yB_get ∈ xk_gt := ⟨(xk_mem 328 (by decide +kernel) (by decide)), (xk_mem 329 (by decide +kernel) (by decide))⟩
theorem fgX_35 : xk_F RX 35 1 8 := ⟨RS, TS, 10, rfl, by decide, i_S, (xk_mem 79 (by decide +kernel) (by decide))⟩
theorem fgX_39 : xk_F RX 39 1 9 := ⟨RS, TS, 10, rfl, by decide, i_S, (xk_mem 81 (by decide +kernel) (by decide))⟩
theorem fgX_114 : xk_F RX 114 2 6 := ⟨RR, TR, 9, rfl, by decide, i_R, (xk_mem 135 (by decide +kernel) (by decide))⟩
theorem fgX_164 : xk_F RX 164 2 7 := ⟨RR, TR, 9, rfl, by decide, i_R, (xk_mem 137 (by decide +kernel) (by decide))⟩
theorem fgX_167 : xk_F RX 167 2 8 := ⟨RR, TR, 9, rfl, by decide, i_R, (xk_mem 139 (by decide +kernel) (by decide))⟩
set_option maxRecDepth 100000 in
theorem kbX_170 : xk_CB RX 170 yS_lastLength cS_lastLength 2 (some .int) 0 := ⟨(xk_mem 404 (by rfl) rfl), (xk_mem 38 (by decide +kernel) (by decide)), (xk_mem 401 (by decide +kernel) (by decide)), by decide +kernel⟩
theorem kcX_170 : Cond.instanceMethod yS_lastLength ∈ xk_gt ∧ Cond.selects (yS_lastLength).cls yS_lastLength yS_lastLength ∈ xk_gt := ⟨(xk_mem 402 (by decide +kernel) (by decide)), (xk_mem 403 (by decide +kernel) (by decide))⟩
set_option maxRecDepth 100000 in
theorem kbX_124 : xk_CB RX 124 yS_find cS_find 3 (some .int) 1 := ⟨(xk_mem 381 (by rfl) rfl), (xk_mem 38 (by decide +kernel) (by decide)), (xk_mem 378 (by decide +kernel) (by decide)), by decide +kernel⟩
theorem kcX_124 : Cond.instanceMethod yS_find ∈ xk_gt ∧ Cond.selects (yS_find).cls yS_find yS_find ∈ xk_gt := ⟨(xk_mem 379 (by decide +kernel) (by decide)), (xk_mem 380 (by decide +kernel) (by decide))⟩
theorem fgX_128 : xk_F RX 128 1 0 := ⟨RS, TS, 10, rfl, by decide, i_S, (xk_mem 65 (by decide +kernel) (by decide))⟩
theorem fgX_131 : xk_F RX 131 1 4 := ⟨RS, TS, 10, rfl, by decide, i_S, (xk_mem 72 (by decide +kernel) (by decide))⟩
theorem fgX_134 : xk_F RX 134 1 5 := ⟨RS, TS, 10, rfl, by decide, i_S, (xk_mem 74 (by decide +kernel) (by decide))⟩
set_option maxRecDepth 100000 in
theorem kbX_137 : xk_CB RX 137 yS_parentOf cS_parentOf 4 (some .int) 1 := ⟨(xk_mem 385 (by rfl) rfl), (xk_mem 38 (by decide +kernel) (by decide)), (xk_mem 382 (by decide +kernel) (by decide)), by decide +kernel⟩
theorem kcX_137 : Cond.instanceMethod yS_parentOf ∈ xk_gt ∧ Cond.selects (yS_parentOf).cls yS_parentOf yS_parentOf ∈ xk_gt := ⟨(xk_mem 383 (by decide +kernel) (by decide)), (xk_mem 384 (by decide +kernel) (by decide))⟩
set_option maxRecDepth 100000 in
theorem kbX_140 : xk_CB RX 140 yS_byteCount cS_byteCount 2 (some .int) 1 := ⟨(xk_mem 191 (by rfl) rfl), (xk_mem 38 (by decide +kernel) (by decide)), (xk_mem 386 (by decide +kernel) (by decide)), by decide +kernel⟩
theorem kcX_140 : Cond.instanceMethod yS_byteCount ∈ xk_gt ∧ Cond.selects (yS_byteCount).cls yS_byteCount yS_byteCount ∈ xk_gt := ⟨(xk_mem 189 (by decide +kernel) (by decide)), (xk_mem 190 (by decide +kernel) (by decide))⟩
set_option maxRecDepth 100000 in
theorem kbX_152 : xk_CB RX 152 yS_byteIn cS_byteIn 3 (some .int) 2 := ⟨(xk_mem 283 (by rfl) rfl), (xk_mem 38 (by decide +kernel) (by decide)), (xk_mem 391 (by decide +kernel) (by decide)), by decide +kernel⟩
theorem kcX_152 : Cond.instanceMethod yS_byteIn ∈ xk_gt ∧ Cond.selects (yS_byteIn).cls yS_byteIn yS_byteIn ∈ xk_gt := ⟨(xk_mem 281 (by decide +kernel) (by decide)), (xk_mem 282 (by decide +kernel) (by decide))⟩
end
section
set_option maxHeartbeats 4000000 in
set_option maxRecDepth 100000 in
/-- clear -/
theorem c_X_clear (D : va_G) (xx : Nat → Nat) (cxx : Nat → ClassId) (r : Nat → Nat) (cr : Nat → ClassId) (g : Nat → Nat) (cg : Nat → ClassId) (o : Nat → Nat) (co : Nat → ClassId) (a : Nat → Nat) (ca : Nat → ClassId) (wl : Nat → Nat) (wm : Nat → Nat) (wt : Nat) (nx : Nat) (ap : Nat) (fa : Nat) (pl : Option Nat) (gb : Nat → Nat) (gz : Nat) (ob : Nat → Nat) (oz : Nat) (kn : Nat → Nat) (nu : Nat → Int64) (wo : Nat → Int64) (si : Nat → Nat) (de : Nat → Nat) (la : Nat → Nat) (le : Nat → Nat) (ro : Nat → Nat) (tm : Nat) (nd : Nat) : xk_Ct yX_clear cX_clear 1 none { frames := 0, cells := 0, slots := 0, locals := 0 } D (tc_tX cxx ++ (tc_tR cr ++ (tc_tB cg ++ (tc_tB co ++ tc_tS ca)))) [.ref (xx 0)] (tc_wX xx cxx (a 0) (o 0) (g 0) (r 0) ++ (tc_wR r cr (g 0) (a 0) wl wm wt nx ap fa pl ++ (tc_wB g cg gb gz ++ (tc_wB o co ob oz ++ tc_wS a ca kn nu wo si de la le ro tm nd)))) (fun rv ru => (rv = none ∧ ru = tc_wX xx cxx (a 0) (o 0) (g 0) (r 0) ++ (tc_wR r cr (g 0) (a 0) wl wm wt nx ap fa pl ++ (tc_wB g cg gb gz ++ (tc_wB o co ob oz ++ tc_wS a ca kn nu wo si de la le ro 0 0))))) := by
  refine xk_enter (by decide) (Nat.le_of_ble_eq_true rfl) (fun K C T hin => ?_)
  show xk_Go K D 1 0 0 (tc_wX xx cxx (a 0) (o 0) (g 0) (r 0) ++ (tc_wR r cr (g 0) (a 0) wl wm wt nx ap fa pl ++ (tc_wB g cg gb gz ++ (tc_wB o co ob oz ++ tc_wS a ca kn nu wo si de la le ro tm nd)))) [(0, .ref (xx 0))] 0 []
  refine x_aload_n C dX_clear_0 rfl 0 rfl ?_
  refine x_get C fgX_10 0 rfl rfl dX_clear_1 ?_
  refine x_iconst (v := nI 0) C dX_clear_4 (by decide) ?_
  refine x_put C fpX_35 8 (tc_wX xx cxx (a 0) (o 0) (g 0) (r 0) ++ (tc_wR r cr (g 0) (a 0) wl wm wt nx ap fa pl ++ (tc_wB g cg gb gz ++ (tc_wB o co ob oz ++ tc_wS a ca kn nu wo si de la le ro 0 nd)))) rfl rfl rfl rfl (Nat.le_of_ble_eq_true rfl) dX_clear_5 ?_
  refine x_aload_n C dX_clear_8 rfl 0 rfl ?_
  refine x_get C fgX_10 0 rfl rfl dX_clear_9 ?_
  refine x_iconst (v := nI 0) C dX_clear_12 (by decide) ?_
  refine x_put C fpX_39 8 (tc_wX xx cxx (a 0) (o 0) (g 0) (r 0) ++ (tc_wR r cr (g 0) (a 0) wl wm wt nx ap fa pl ++ (tc_wB g cg gb gz ++ (tc_wB o co ob oz ++ tc_wS a ca kn nu wo si de la le ro 0 0)))) rfl rfl rfl rfl (Nat.le_of_ble_eq_true rfl) dX_clear_13 ?_
  exact x_vret C T rfl dX_clear_16 (⟨rfl, rfl⟩)
set_option maxHeartbeats 4000000 in
set_option maxRecDepth 100000 in
/-- wipe -/
theorem c_X_wipe (D : va_G) (xx : Nat → Nat) (cxx : Nat → ClassId) (r : Nat → Nat) (cr : Nat → ClassId) (g : Nat → Nat) (cg : Nat → ClassId) (o : Nat → Nat) (co : Nat → ClassId) (a : Nat → Nat) (ca : Nat → ClassId) (wl : Nat → Nat) (wm : Nat → Nat) (wt : Nat) (nx : Nat) (ap : Nat) (fa : Nat) (pl : Option Nat) (gb : Nat → Nat) (gz : Nat) (ob : Nat → Nat) (oz : Nat) (kn : Nat → Nat) (nu : Nat → Int64) (wo : Nat → Int64) (si : Nat → Nat) (de : Nat → Nat) (la : Nat → Nat) (le : Nat → Nat) (ro : Nat → Nat) (tm : Nat) (nd : Nat) : xk_Ct yX_wipe cX_wipe 1 none { frames := 0, cells := 0, slots := 0, locals := 0 } D (tc_tX cxx ++ (tc_tR cr ++ (tc_tB cg ++ (tc_tB co ++ tc_tS ca)))) [.ref (xx 0)] (tc_wX xx cxx (a 0) (o 0) (g 0) (r 0) ++ (tc_wR r cr (g 0) (a 0) wl wm wt nx ap fa pl ++ (tc_wB g cg gb gz ++ (tc_wB o co ob oz ++ tc_wS a ca kn nu wo si de la le ro tm nd)))) (fun rv ru => (rv = none ∧ ru = tc_wX xx cxx (a 0) (o 0) (g 0) (r 0) ++ (tc_wR r cr (g 0) (a 0) wl wm wt nx ap fa pl ++ (tc_wB g cg gb gz ++ (tc_wB o co ob 0 ++ tc_wS a ca kn nu wo si de la le ro tm nd))))) := by
  refine xk_enter (by decide) (Nat.le_of_ble_eq_true rfl) (fun K C T hin => ?_)
  show xk_Go K D 1 0 0 (tc_wX xx cxx (a 0) (o 0) (g 0) (r 0) ++ (tc_wR r cr (g 0) (a 0) wl wm wt nx ap fa pl ++ (tc_wB g cg gb gz ++ (tc_wB o co ob oz ++ tc_wS a ca kn nu wo si de la le ro tm nd)))) [(0, .ref (xx 0))] 0 []
  refine x_aload_n C dX_wipe_0 rfl 0 rfl ?_
  refine x_get C fgX_19 0 rfl rfl dX_wipe_1 ?_
  refine x_iconst (v := nI 0) C dX_wipe_4 (by decide) ?_
  refine x_put C fpX_103 6 (tc_wX xx cxx (a 0) (o 0) (g 0) (r 0) ++ (tc_wR r cr (g 0) (a 0) wl wm wt nx ap fa pl ++ (tc_wB g cg gb gz ++ (tc_wB o co ob 0 ++ tc_wS a ca kn nu wo si de la le ro tm nd)))) rfl rfl rfl rfl (Nat.le_of_ble_eq_true rfl) dX_wipe_5 ?_
  exact x_vret C T rfl dX_wipe_8 (⟨rfl, rfl⟩)
set_option maxHeartbeats 4000000 in
set_option maxRecDepth 100000 in
/-- more -/
theorem c_X_more (D : va_G) (xx : Nat → Nat) (cxx : Nat → ClassId) (r : Nat → Nat) (cr : Nat → ClassId) (g : Nat → Nat) (cg : Nat → ClassId) (o : Nat → Nat) (co : Nat → ClassId) (a : Nat → Nat) (ca : Nat → ClassId) (wl : Nat → Nat) (wm : Nat → Nat) (wt : Nat) (nx : Nat) (ap : Nat) (fa : Nat) (pl : Option Nat) (gb : Nat → Nat) (gz : Nat) (ob : Nat → Nat) (oz : Nat) (kn : Nat → Nat) (nu : Nat → Int64) (wo : Nat → Int64) (si : Nat → Nat) (de : Nat → Nat) (la : Nat → Nat) (le : Nat → Nat) (ro : Nat → Nat) (tm : Nat) (nd : Nat) (pt : Int64) (n : Int32) (Ts : List (List tc_Nd)) (y1 : tc_RS Ts (kn, nu, wo, si, de, la, le) ro tm nd) : xk_Ct yX_more cX_more 4 (some .boolean) { frames := 4, cells := 0, slots := 0, locals := 101 } D (tc_tX cxx ++ (tc_tR cr ++ (tc_tB cg ++ (tc_tB co ++ tc_tS ca)))) [.ref (xx 0), .long pt, .int n] (tc_wX xx cxx (a 0) (o 0) (g 0) (r 0) ++ (tc_wR r cr (g 0) (a 0) wl wm wt nx ap fa pl ++ (tc_wB g cg gb gz ++ (tc_wB o co ob oz ++ tc_wS a ca kn nu wo si de la le ro tm nd)))) (fun rv ru => (rv = some (.int (nI 0)) ∧ ru = tc_wX xx cxx (a 0) (o 0) (g 0) (r 0) ++ (tc_wR r cr (g 0) (a 0) wl wm wt nx ap fa pl ++ (tc_wB g cg gb gz ++ (tc_wB o co ob oz ++ tc_wS a ca kn nu wo si de la le ro tm nd))) ∧ (tc_more pt n Ts = none)) ∨ (∃ (kg : Nat → Nat), ∃ (ug : Nat → Int64), ∃ (wg : Nat → Int64), ∃ (sg : Nat → Nat), ∃ (dg : Nat → Nat), ∃ (lg : Nat → Nat), ∃ (eg : Nat → Nat), ∃ (rg : Nat → Nat), ∃ (tg : Nat), ∃ (ng : Nat), ∃ (Tn : List (List tc_Nd)), rv = some (.int (nI 1)) ∧ ru = tc_wX xx cxx (a 0) (o 0) (g 0) (r 0) ++ (tc_wR r cr (g 0) (a 0) wl wm wt nx ap fa pl ++ (tc_wB g cg gb gz ++ (tc_wB o co ob oz ++ tc_wS a ca kg ug wg sg dg lg eg rg tg ng))) ∧ (tc_more pt n Ts = some Tn) ∧ (tc_RS Tn (kg, ug, wg, sg, dg, lg, eg) rg tg ng))) := by
  refine xk_enter (by decide) (Nat.le_of_ble_eq_true rfl) (fun K C T hin => ?_)
  show xk_Go K D 4 0 0 (tc_wX xx cxx (a 0) (o 0) (g 0) (r 0) ++ (tc_wR r cr (g 0) (a 0) wl wm wt nx ap fa pl ++ (tc_wB g cg gb gz ++ (tc_wB o co ob oz ++ tc_wS a ca kn nu wo si de la le ro tm nd)))) [(0, .ref (xx 0)), (1, .long pt), (3, .int n)] 0 []
  refine x_iload_n C dX_more_0 rfl 2 rfl ?_
  refine x_iconst (v := nI 1) C dX_more_1 (by decide) ?_
  refine x_icmp_lt (tgt := 27) C dX_more_2 (by decide) (fun h2 => ?_) (fun h2 => ?_)
  ·
    refine x_iconst (v := nI 0) C dX_more_27 (by decide) ?_
    exact x_iret C T .boolean rfl rfl dX_more_28 (Or.inl (⟨rfl, rfl, (tc_more_lo h2)⟩))
  ·
    refine x_iload_n C dX_more_5 rfl 2 rfl ?_
    refine x_bipush (v := nI 8) C dX_more_6 (by decide) ?_
    refine x_icmp_gt (tgt := 27) C dX_more_8 (by decide) (fun h8 => ?_) (fun h8 => ?_)
    ·
      refine x_iconst (v := nI 0) C dX_more_27 (by decide) ?_
      exact x_iret C T .boolean rfl rfl dX_more_28 (Or.inl (⟨rfl, rfl, (tc_more_hi h8)⟩))
    ·
      obtain ⟨k, hk1, hk8, rfl⟩ := tc_rng18 h2 h8
      refine x_aload_n C dX_more_11 rfl 0 rfl ?_
      refine x_get C fgX_10 0 rfl rfl dX_more_12 ?_
      refine x_lload_n C dX_more_15 rfl 1 rfl ?_
      refine x_iload_n C dX_more_16 rfl 2 rfl ?_
      refine x_callV C (c_S_extend D a ca kn nu wo si de la le ro tm nd pt k Ts y1 hk8) kbX_71 kcX_71 [8, 9, 10, 11, 12, 13, 14, 15, 16] [0, 1, 2, 3, 4, 5, 6, 7] [4, 5, 6, 7, 8, 9, 10, 11] (tc_wX xx cxx (a 0) (o 0) (g 0) (r 0) ++ (tc_wR r cr (g 0) (a 0) wl wm wt nx ap fa pl ++ (tc_wB g cg gb gz ++ tc_wB o co ob oz))) rfl rfl (by decide) (by decide) (by decide) rfl 0 rfl rfl ⟨Nat.le_of_ble_eq_true rfl, Nat.le_of_ble_eq_true rfl⟩ ⟨Nat.le_of_ble_eq_true rfl, Nat.le_of_ble_eq_true rfl⟩ [] rfl rfl (Nat.le_of_ble_eq_true rfl) dX_more_17 (fun rv ru hw => ?_)
      rcases hw with ⟨rfl, rfl, g1e⟩ | ⟨kge, uge, wge, sge, dge, lge, ege, rge, tge, nge, Tne, rfl, rfl, g1e, g2e⟩
      ·
        show xk_Go K D 4 0 0 (tc_wX xx cxx (a 0) (o 0) (g 0) (r 0) ++ (tc_wR r cr (g 0) (a 0) wl wm wt nx ap fa pl ++ (tc_wB g cg gb gz ++ (tc_wB o co ob oz ++ tc_wS a ca kn nu wo si de la le ro tm nd)))) [(0, .ref (xx 0)), (1, .long pt), (3, .int (nI k))] 20 [.int (nI 0)]
        refine x_if_eq (tgt := 27) C dX_more_20 (by decide) (fun _ => ?_) (fun h => absurd (by decide) h)
        refine x_iconst (v := nI 0) C dX_more_27 (by decide) ?_
        exact x_iret C T .boolean rfl rfl dX_more_28 (Or.inl (⟨rfl, rfl, ((tc_more_in hk1 hk8).trans g1e)⟩))
      ·
        show xk_Go K D 4 0 0 (tc_wX xx cxx (a 0) (o 0) (g 0) (r 0) ++ (tc_wR r cr (g 0) (a 0) wl wm wt nx ap fa pl ++ (tc_wB g cg gb gz ++ (tc_wB o co ob oz ++ tc_wS a ca kge uge wge sge dge lge ege rge tge nge)))) [(0, .ref (xx 0)), (1, .long pt), (3, .int (nI k))] 20 [.int (nI 1)]
        refine x_if_eq (tgt := 27) C dX_more_20 (by decide) (fun h => absurd h (by decide)) (fun _ => ?_)
        refine x_iconst (v := nI 1) C dX_more_23 (by decide) ?_
        refine x_goto C 28 dX_more_24 (by decide) ?_
        exact x_iret C T .boolean rfl rfl dX_more_28 (Or.inr (⟨_, _, _, _, _, _, _, _, _, _, Tne, rfl, rfl, ((tc_more_in hk1 hk8).trans g1e), g2e⟩))
set_option maxHeartbeats 4000000 in
set_option maxRecDepth 100000 in
/-- drop -/
theorem c_X_drop (D : va_G) (xx : Nat → Nat) (cxx : Nat → ClassId) (r : Nat → Nat) (cr : Nat → ClassId) (g : Nat → Nat) (cg : Nat → ClassId) (o : Nat → Nat) (co : Nat → ClassId) (a : Nat → Nat) (ca : Nat → ClassId) (wl : Nat → Nat) (wm : Nat → Nat) (wt : Nat) (nx : Nat) (ap : Nat) (fa : Nat) (pl : Option Nat) (gb : Nat → Nat) (gz : Nat) (ob : Nat → Nat) (oz : Nat) (kn : Nat → Nat) (nu : Nat → Int64) (wo : Nat → Int64) (si : Nat → Nat) (de : Nat → Nat) (la : Nat → Nat) (le : Nat → Nat) (ro : Nat → Nat) (tm : Nat) (nd : Nat) (Ts : List (List tc_Nd)) (y1 : tc_RS Ts (kn, nu, wo, si, de, la, le) ro tm nd) : xk_Ct yX_drop cX_drop 1 (some .boolean) { frames := 2, cells := 0, slots := 0, locals := 41 } D (tc_tX cxx ++ (tc_tR cr ++ (tc_tB cg ++ (tc_tB co ++ tc_tS ca)))) [.ref (xx 0)] (tc_wX xx cxx (a 0) (o 0) (g 0) (r 0) ++ (tc_wR r cr (g 0) (a 0) wl wm wt nx ap fa pl ++ (tc_wB g cg gb gz ++ (tc_wB o co ob oz ++ tc_wS a ca kn nu wo si de la le ro tm nd)))) (fun rv ru => (rv = some (.int (nI 0)) ∧ ru = tc_wX xx cxx (a 0) (o 0) (g 0) (r 0) ++ (tc_wR r cr (g 0) (a 0) wl wm wt nx ap fa pl ++ (tc_wB g cg gb gz ++ (tc_wB o co ob oz ++ tc_wS a ca kn nu wo si de la le ro tm nd))) ∧ (Ts = [])) ∨ (∃ (t : List tc_Nd), ∃ (R : List (List tc_Nd)), rv = some (.int (nI 1)) ∧ ru = tc_wX xx cxx (a 0) (o 0) (g 0) (r 0) ++ (tc_wR r cr (g 0) (a 0) wl wm wt nx ap fa pl ++ (tc_wB g cg gb gz ++ (tc_wB o co ob oz ++ tc_wS a ca kn nu wo si de la le ro (tm - 1) (ro (tm - 1))))) ∧ (Ts = t :: R) ∧ (tc_RS R (kn, nu, wo, si, de, la, le) ro (tm - 1) (ro (tm - 1))))) := by
  refine xk_enter (by decide) (Nat.le_of_ble_eq_true rfl) (fun K C T hin => ?_)
  show xk_Go K D 1 0 0 (tc_wX xx cxx (a 0) (o 0) (g 0) (r 0) ++ (tc_wR r cr (g 0) (a 0) wl wm wt nx ap fa pl ++ (tc_wB g cg gb gz ++ (tc_wB o co ob oz ++ tc_wS a ca kn nu wo si de la le ro tm nd)))) [(0, .ref (xx 0))] 0 []
  refine x_aload_n C dX_drop_0 rfl 0 rfl ?_
  refine x_get C fgX_10 0 rfl rfl dX_drop_1 ?_
  refine x_callV C (c_S_removeLast D a ca kn nu wo si de la le ro tm nd Ts y1) kbX_75 kcX_75 [8, 9, 10, 11, 12, 13, 14, 15, 16] [0, 1, 2, 3, 4, 5, 6, 7] [4, 5, 6, 7, 8, 9, 10, 11] (tc_wX xx cxx (a 0) (o 0) (g 0) (r 0) ++ (tc_wR r cr (g 0) (a 0) wl wm wt nx ap fa pl ++ (tc_wB g cg gb gz ++ tc_wB o co ob oz))) rfl rfl (by decide) (by decide) (by decide) rfl 0 rfl rfl ⟨Nat.le_of_ble_eq_true rfl, Nat.le_of_ble_eq_true rfl⟩ ⟨Nat.le_of_ble_eq_true rfl, Nat.le_of_ble_eq_true rfl⟩ [] rfl rfl (Nat.le_of_ble_eq_true rfl) dX_drop_4 (fun rv ru hw => ?_)
  rcases hw with ⟨rfl, rfl, g1⟩ | ⟨t, R, rfl, rfl, g1, g2⟩
  ·
    show xk_Go K D 1 0 0 (tc_wX xx cxx (a 0) (o 0) (g 0) (r 0) ++ (tc_wR r cr (g 0) (a 0) wl wm wt nx ap fa pl ++ (tc_wB g cg gb gz ++ (tc_wB o co ob oz ++ tc_wS a ca kn nu wo si de la le ro tm nd)))) [(0, .ref (xx 0))] 7 [.int (nI 0)]
    exact x_iret C T .boolean rfl rfl dX_drop_7 (Or.inl (⟨rfl, rfl, g1⟩))
  ·
    show xk_Go K D 1 0 0 (tc_wX xx cxx (a 0) (o 0) (g 0) (r 0) ++ (tc_wR r cr (g 0) (a 0) wl wm wt nx ap fa pl ++ (tc_wB g cg gb gz ++ (tc_wB o co ob oz ++ tc_wS a ca kn nu wo si de la le ro (tm - 1) (ro (tm - 1)))))) [(0, .ref (xx 0))] 7 [.int (nI 1)]
    exact x_iret C T .boolean rfl rfl dX_drop_7 (Or.inr (⟨t, R, rfl, rfl, g1, g2⟩))
set_option maxHeartbeats 4000000 in
set_option maxRecDepth 100000 in
/-- twice -/
theorem c_X_twice (D : va_G) (xx : Nat → Nat) (cxx : Nat → ClassId) (r : Nat → Nat) (cr : Nat → ClassId) (g : Nat → Nat) (cg : Nat → ClassId) (o : Nat → Nat) (co : Nat → ClassId) (a : Nat → Nat) (ca : Nat → ClassId) (wl : Nat → Nat) (wm : Nat → Nat) (wt : Nat) (nx : Nat) (ap : Nat) (fa : Nat) (pl : Option Nat) (gb : Nat → Nat) (gz : Nat) (ob : Nat → Nat) (oz : Nat) (kn : Nat → Nat) (nu : Nat → Int64) (wo : Nat → Int64) (si : Nat → Nat) (de : Nat → Nat) (la : Nat → Nat) (le : Nat → Nat) (ro : Nat → Nat) (tm : Nat) (nd : Nat) (Ts : List (List tc_Nd)) (y1 : tc_RS Ts (kn, nu, wo, si, de, la, le) ro tm nd) : xk_Ct yX_twice cX_twice 1 (some .boolean) { frames := 3, cells := 0, slots := 0, locals := 144 } D (tc_tX cxx ++ (tc_tR cr ++ (tc_tB cg ++ (tc_tB co ++ tc_tS ca)))) [.ref (xx 0)] (tc_wX xx cxx (a 0) (o 0) (g 0) (r 0) ++ (tc_wR r cr (g 0) (a 0) wl wm wt nx ap fa pl ++ (tc_wB g cg gb gz ++ (tc_wB o co ob oz ++ tc_wS a ca kn nu wo si de la le ro tm nd)))) (fun rv ru => (rv = some (.int (nI 0)) ∧ ru = tc_wX xx cxx (a 0) (o 0) (g 0) (r 0) ++ (tc_wR r cr (g 0) (a 0) wl wm wt nx ap fa pl ++ (tc_wB g cg gb gz ++ (tc_wB o co ob oz ++ tc_wS a ca kn nu wo si de la le ro tm nd))) ∧ (tc_dup Ts = none)) ∨ (∃ (kg : Nat → Nat), ∃ (ug : Nat → Int64), ∃ (wg : Nat → Int64), ∃ (sg : Nat → Nat), ∃ (dg : Nat → Nat), ∃ (lg : Nat → Nat), ∃ (eg : Nat → Nat), ∃ (rg : Nat → Nat), ∃ (tg : Nat), ∃ (ng : Nat), ∃ (Tn : List (List tc_Nd)), rv = some (.int (nI 1)) ∧ ru = tc_wX xx cxx (a 0) (o 0) (g 0) (r 0) ++ (tc_wR r cr (g 0) (a 0) wl wm wt nx ap fa pl ++ (tc_wB g cg gb gz ++ (tc_wB o co ob oz ++ tc_wS a ca kg ug wg sg dg lg eg rg tg ng))) ∧ (tc_dup Ts = some Tn) ∧ (tc_RS Tn (kg, ug, wg, sg, dg, lg, eg) rg tg ng))) := by
  refine xk_enter (by decide) (Nat.le_of_ble_eq_true rfl) (fun K C T hin => ?_)
  show xk_Go K D 1 0 0 (tc_wX xx cxx (a 0) (o 0) (g 0) (r 0) ++ (tc_wR r cr (g 0) (a 0) wl wm wt nx ap fa pl ++ (tc_wB g cg gb gz ++ (tc_wB o co ob oz ++ tc_wS a ca kn nu wo si de la le ro tm nd)))) [(0, .ref (xx 0))] 0 []
  refine x_aload_n C dX_twice_0 rfl 0 rfl ?_
  refine x_get C fgX_10 0 rfl rfl dX_twice_1 ?_
  refine x_callV C (c_S_repeatLast D a ca kn nu wo si de la le ro tm nd Ts y1) kbX_79 kcX_79 [8, 9, 10, 11, 12, 13, 14, 15, 16] [0, 1, 2, 3, 4, 5, 6, 7] [4, 5, 6, 7, 8, 9, 10, 11] (tc_wX xx cxx (a 0) (o 0) (g 0) (r 0) ++ (tc_wR r cr (g 0) (a 0) wl wm wt nx ap fa pl ++ (tc_wB g cg gb gz ++ tc_wB o co ob oz))) rfl rfl (by decide) (by decide) (by decide) rfl 0 rfl rfl ⟨Nat.le_of_ble_eq_true rfl, Nat.le_of_ble_eq_true rfl⟩ ⟨Nat.le_of_ble_eq_true rfl, Nat.le_of_ble_eq_true rfl⟩ [] rfl rfl (Nat.le_of_ble_eq_true rfl) dX_twice_4 (fun rv ru hw => ?_)
  rcases hw with ⟨rfl, rfl, g1⟩ | ⟨kg, ug, wg, sg, dg, lg, eg, rg, tg, ng, Tn, rfl, rfl, g1, g2⟩
  ·
    show xk_Go K D 1 0 0 (tc_wX xx cxx (a 0) (o 0) (g 0) (r 0) ++ (tc_wR r cr (g 0) (a 0) wl wm wt nx ap fa pl ++ (tc_wB g cg gb gz ++ (tc_wB o co ob oz ++ tc_wS a ca kn nu wo si de la le ro tm nd)))) [(0, .ref (xx 0))] 7 [.int (nI 0)]
    exact x_iret C T .boolean rfl rfl dX_twice_7 (Or.inl (⟨rfl, rfl, g1⟩))
  ·
    show xk_Go K D 1 0 0 (tc_wX xx cxx (a 0) (o 0) (g 0) (r 0) ++ (tc_wR r cr (g 0) (a 0) wl wm wt nx ap fa pl ++ (tc_wB g cg gb gz ++ (tc_wB o co ob oz ++ tc_wS a ca kg ug wg sg dg lg eg rg tg ng)))) [(0, .ref (xx 0))] 7 [.int (nI 1)]
    exact x_iret C T .boolean rfl rfl dX_twice_7 (Or.inr (⟨_, _, _, _, _, _, _, _, _, _, Tn, rfl, rfl, g1, g2⟩))
set_option maxHeartbeats 4000000 in
set_option maxRecDepth 100000 in
/-- split -/
theorem c_X_split (D : va_G) (xx : Nat → Nat) (cxx : Nat → ClassId) (r : Nat → Nat) (cr : Nat → ClassId) (g : Nat → Nat) (cg : Nat → ClassId) (o : Nat → Nat) (co : Nat → ClassId) (a : Nat → Nat) (ca : Nat → ClassId) (wl : Nat → Nat) (wm : Nat → Nat) (wt : Nat) (nx : Nat) (ap : Nat) (fa : Nat) (pl : Option Nat) (gb : Nat → Nat) (gz : Nat) (ob : Nat → Nat) (oz : Nat) (kn : Nat → Nat) (nu : Nat → Int64) (wo : Nat → Int64) (si : Nat → Nat) (de : Nat → Nat) (la : Nat → Nat) (le : Nat → Nat) (ro : Nat → Nat) (tm : Nat) (nd : Nat) (Ts : List (List tc_Nd)) (y1 : tc_RS Ts (kn, nu, wo, si, de, la, le) ro tm nd) : xk_Ct yX_split cX_split 1 (some .int) { frames := 3, cells := 0, slots := 0, locals := 147 } D (tc_tX cxx ++ (tc_tR cr ++ (tc_tB cg ++ (tc_tB co ++ tc_tS ca)))) [.ref (xx 0)] (tc_wX xx cxx (a 0) (o 0) (g 0) (r 0) ++ (tc_wR r cr (g 0) (a 0) wl wm wt nx ap fa pl ++ (tc_wB g cg gb gz ++ (tc_wB o co ob oz ++ tc_wS a ca kn nu wo si de la le ro tm nd)))) (fun rv ru => (rv = some (.int (xk_oI none)) ∧ ru = tc_wX xx cxx (a 0) (o 0) (g 0) (r 0) ++ (tc_wR r cr (g 0) (a 0) wl wm wt nx ap fa pl ++ (tc_wB g cg gb gz ++ (tc_wB o co ob oz ++ tc_wS a ca kn nu wo si de la le ro tm nd))) ∧ (tc_opn Ts = none)) ∨ (∃ (n : Nat), ∃ (kg : Nat → Nat), ∃ (ug : Nat → Int64), ∃ (wg : Nat → Int64), ∃ (sg : Nat → Nat), ∃ (dg : Nat → Nat), ∃ (lg : Nat → Nat), ∃ (eg : Nat → Nat), ∃ (rg : Nat → Nat), ∃ (tg : Nat), ∃ (ng : Nat), ∃ (Tn : List (List tc_Nd)), rv = some (.int (nI n)) ∧ ru = tc_wX xx cxx (a 0) (o 0) (g 0) (r 0) ++ (tc_wR r cr (g 0) (a 0) wl wm wt nx ap fa pl ++ (tc_wB g cg gb gz ++ (tc_wB o co ob oz ++ tc_wS a ca kg ug wg sg dg lg eg rg tg ng))) ∧ (tc_opn Ts = some (n, Tn)) ∧ (tc_RS Tn (kg, ug, wg, sg, dg, lg, eg) rg tg ng))) := by
  refine xk_enter (by decide) (Nat.le_of_ble_eq_true rfl) (fun K C T hin => ?_)
  show xk_Go K D 1 0 0 (tc_wX xx cxx (a 0) (o 0) (g 0) (r 0) ++ (tc_wR r cr (g 0) (a 0) wl wm wt nx ap fa pl ++ (tc_wB g cg gb gz ++ (tc_wB o co ob oz ++ tc_wS a ca kn nu wo si de la le ro tm nd)))) [(0, .ref (xx 0))] 0 []
  refine x_aload_n C dX_split_0 rfl 0 rfl ?_
  refine x_get C fgX_10 0 rfl rfl dX_split_1 ?_
  refine x_callV C (c_S_openLast D a ca kn nu wo si de la le ro tm nd Ts y1) kbX_82 kcX_82 [8, 9, 10, 11, 12, 13, 14, 15, 16] [0, 1, 2, 3, 4, 5, 6, 7] [4, 5, 6, 7, 8, 9, 10, 11] (tc_wX xx cxx (a 0) (o 0) (g 0) (r 0) ++ (tc_wR r cr (g 0) (a 0) wl wm wt nx ap fa pl ++ (tc_wB g cg gb gz ++ tc_wB o co ob oz))) rfl rfl (by decide) (by decide) (by decide) rfl 0 rfl rfl ⟨Nat.le_of_ble_eq_true rfl, Nat.le_of_ble_eq_true rfl⟩ ⟨Nat.le_of_ble_eq_true rfl, Nat.le_of_ble_eq_true rfl⟩ [] rfl rfl (Nat.le_of_ble_eq_true rfl) dX_split_4 (fun rv ru hw => ?_)
  rcases hw with ⟨rfl, rfl, g1⟩ | ⟨n, kg, ug, wg, sg, dg, lg, eg, rg, tg, ng, Tn, rfl, rfl, g1, g2⟩
  ·
    show xk_Go K D 1 0 0 (tc_wX xx cxx (a 0) (o 0) (g 0) (r 0) ++ (tc_wR r cr (g 0) (a 0) wl wm wt nx ap fa pl ++ (tc_wB g cg gb gz ++ (tc_wB o co ob oz ++ tc_wS a ca kn nu wo si de la le ro tm nd)))) [(0, .ref (xx 0))] 7 [.int (xk_oI none)]
    exact x_iret C T .int rfl rfl dX_split_7 (Or.inl (⟨rfl, rfl, g1⟩))
  ·
    show xk_Go K D 1 0 0 (tc_wX xx cxx (a 0) (o 0) (g 0) (r 0) ++ (tc_wR r cr (g 0) (a 0) wl wm wt nx ap fa pl ++ (tc_wB g cg gb gz ++ (tc_wB o co ob oz ++ tc_wS a ca kg ug wg sg dg lg eg rg tg ng)))) [(0, .ref (xx 0))] 7 [.int (nI n)]
    exact x_iret C T .int rfl rfl dX_split_7 (Or.inr (⟨n, _, _, _, _, _, _, _, _, _, _, Tn, rfl, rfl, g1, g2⟩))
end
section
set_option maxHeartbeats 4000000 in
set_option maxRecDepth 100000 in
/-- write -/
theorem c_X_write (D : va_G) (xx : Nat → Nat) (cxx : Nat → ClassId) (r : Nat → Nat) (cr : Nat → ClassId) (g : Nat → Nat) (cg : Nat → ClassId) (o : Nat → Nat) (co : Nat → ClassId) (a : Nat → Nat) (ca : Nat → ClassId) (wl : Nat → Nat) (wm : Nat → Nat) (wt : Nat) (nx : Nat) (ap : Nat) (fa : Nat) (pl : Option Nat) (gb : Nat → Nat) (gz : Nat) (ob : Nat → Nat) (oz : Nat) (kn : Nat → Nat) (nu : Nat → Int64) (wo : Nat → Int64) (si : Nat → Nat) (de : Nat → Nat) (la : Nat → Nat) (le : Nat → Nat) (ro : Nat → Nat) (tm : Nat) (nd : Nat) (Ts : List (List tc_Nd)) (y1 : tc_RS Ts (kn, nu, wo, si, de, la, le) ro tm nd) (y2 : oz ≤ 4096) : xk_Ct yX_write cX_write 4 (some .int) { frames := 3, cells := 0, slots := 0, locals := 72 } D (tc_tX cxx ++ (tc_tR cr ++ (tc_tB cg ++ (tc_tB co ++ tc_tS ca)))) [.ref (xx 0)] (tc_wX xx cxx (a 0) (o 0) (g 0) (r 0) ++ (tc_wR r cr (g 0) (a 0) wl wm wt nx ap fa pl ++ (tc_wB g cg gb gz ++ (tc_wB o co ob oz ++ tc_wS a ca kn nu wo si de la le ro tm nd)))) (fun rv ru => (rv = some (.int (xk_oI none)) ∧ ru = tc_wX xx cxx (a 0) (o 0) (g 0) (r 0) ++ (tc_wR r cr (g 0) (a 0) wl wm wt nx ap fa pl ++ (tc_wB g cg gb gz ++ (tc_wB o co ob oz ++ tc_wS a ca kn nu wo si de la le ro tm nd))) ∧ (tc_wr Ts oz = none)) ∨ (∃ (bg : Nat → Nat), ∃ (L : List Nat), rv = some (.int (nI (oz + L.length))) ∧ ru = tc_wX xx cxx (a 0) (o 0) (g 0) (r 0) ++ (tc_wR r cr (g 0) (a 0) wl wm wt nx ap fa pl ++ (tc_wB g cg gb gz ++ (tc_wB o co bg (oz + L.length) ++ tc_wS a ca kn nu wo si de la le ro tm nd))) ∧ (tc_wr Ts oz = some L) ∧ (tc_apd ob oz bg L))) := by
  refine xk_enter (by decide) (Nat.le_of_ble_eq_true rfl) (fun K C T hin => ?_)
  show xk_Go K D 4 0 0 (tc_wX xx cxx (a 0) (o 0) (g 0) (r 0) ++ (tc_wR r cr (g 0) (a 0) wl wm wt nx ap fa pl ++ (tc_wB g cg gb gz ++ (tc_wB o co ob oz ++ tc_wS a ca kn nu wo si de la le ro tm nd)))) [(0, .ref (xx 0))] 0 []
  refine x_aload_n C dX_write_0 rfl 0 rfl ?_
  refine x_get C fgX_10 0 rfl rfl dX_write_1 ?_
  refine x_callV C (c_S_lastRoot D a ca kn nu wo si de la le ro tm nd ((tc_RS_tm y1).1)) kbX_86 kcX_86 [8, 9, 10, 11, 12, 13, 14, 15, 16] [0, 1, 2, 3, 4, 5, 6, 7] [4, 5, 6, 7, 8, 9, 10, 11] (tc_wX xx cxx (a 0) (o 0) (g 0) (r 0) ++ (tc_wR r cr (g 0) (a 0) wl wm wt nx ap fa pl ++ (tc_wB g cg gb gz ++ tc_wB o co ob oz))) rfl rfl (by decide) (by decide) (by decide) rfl 0 rfl rfl ⟨Nat.le_of_ble_eq_true rfl, Nat.le_of_ble_eq_true rfl⟩ ⟨Nat.le_of_ble_eq_true rfl, Nat.le_of_ble_eq_true rfl⟩ [] rfl rfl (Nat.le_of_ble_eq_true rfl) dX_write_4 (fun rv ru hw => ?_)
  rcases hw with ⟨rfl, rfl, g1⟩ | ⟨rfl, rfl, g1⟩
  ·
    show xk_Go K D 4 0 0 (tc_wX xx cxx (a 0) (o 0) (g 0) (r 0) ++ (tc_wR r cr (g 0) (a 0) wl wm wt nx ap fa pl ++ (tc_wB g cg gb gz ++ (tc_wB o co ob oz ++ tc_wS a ca kn nu wo si de la le ro tm nd)))) [(0, .ref (xx 0))] 7 [.int (xk_oI none)]
    refine x_istore_n C [(1, .int (xk_oI none)), (0, .ref (xx 0))] dX_write_7 rfl (by decide) rfl ?_
    refine x_iload_n C dX_write_8 rfl 0 rfl ?_
    refine x_if_lt (tgt := 31) C dX_write_9 (by decide) (fun _ => ?_) (fun h => absurd (by decide) h)
    refine x_iconst (v := xk_oI none) C dX_write_31 (by decide) ?_
    exact x_iret C T .int rfl rfl dX_write_32 (Or.inl (⟨rfl, rfl, (by rw [tc_RS_nil y1 g1]; rfl)⟩))
  ·
    show xk_Go K D 4 0 0 (tc_wX xx cxx (a 0) (o 0) (g 0) (r 0) ++ (tc_wR r cr (g 0) (a 0) wl wm wt nx ap fa pl ++ (tc_wB g cg gb gz ++ (tc_wB o co ob oz ++ tc_wS a ca kn nu wo si de la le ro tm nd)))) [(0, .ref (xx 0))] 7 [.int (nI (ro (tm - 1)))]
    obtain ⟨t, R, rfl⟩ := tc_RS_cons y1 g1
    obtain ⟨z1, z2, z3, z4, z5, z6, z7, z8, z9, z10, z11, z12⟩ := tc_top y1
    have zs : si (ro (tm - 1)) = t.length := by rw [z2]; exact z9
    have zt := y1.1 t List.mem_cons_self
    have zl : le (ro (tm - 1)) = tc_ln t := by rw [z2]; exact z12
    have zlb := tc_ln_tb zt
    have zle := tc_ev_sum_n t zt.2.2
    rw [tc_tb_sum t zt.2.2] at zle
    refine x_istore_n C [(1, .int (nI (ro (tm - 1)))), (0, .ref (xx 0))] dX_write_7 rfl (by decide) rfl ?_
    refine x_iload_n C dX_write_8 rfl 0 rfl ?_
    refine x_if_ltN (tgt := 31) C (by omega) dX_write_9 (by decide) ?_
    refine x_aload_n C dX_write_12 rfl 1 rfl ?_
    refine x_get C fgX_10 0 rfl rfl dX_write_13 ?_
    refine x_get C fgX_89 8 rfl rfl dX_write_16 ?_
    refine x_iload_n C dX_write_19 rfl 0 rfl ?_
    refine x_ild C 15 10 rfl rfl (by omega) (by decide) dX_write_20 ?_
    show xk_Go K D 4 0 0 (tc_wX xx cxx (a 0) (o 0) (g 0) (r 0) ++ (tc_wR r cr (g 0) (a 0) wl wm wt nx ap fa pl ++ (tc_wB g cg gb gz ++ (tc_wB o co ob oz ++ tc_wS a ca kn nu wo si de la le ro tm nd)))) [(1, .int (nI (ro (tm - 1)))), (0, .ref (xx 0))] 21 [.int (nI (le (ro (tm - 1))))]
    refine x_aload_n C dX_write_21 rfl 1 rfl ?_
    refine x_get C fgX_19 0 rfl rfl dX_write_22 ?_
    refine x_callV C (c_B_room D o co ob oz (by omega)) kbX_93 kcX_93 [6, 7] [0, 1, 2, 3, 4, 5, 8, 9, 10, 11, 12, 13, 14, 15, 16] [3] (tc_wX xx cxx (a 0) (o 0) (g 0) (r 0) ++ (tc_wR r cr (g 0) (a 0) wl wm wt nx ap fa pl ++ (tc_wB g cg gb gz ++ tc_wS a ca kn nu wo si de la le ro tm nd))) rfl rfl (by decide) (by decide) (by decide) rfl 0 rfl rfl ⟨Nat.le_of_ble_eq_true rfl, Nat.le_of_ble_eq_true rfl⟩ ⟨Nat.le_of_ble_eq_true rfl, Nat.le_of_ble_eq_true rfl⟩ [.int (nI (le (ro (tm - 1))))] rfl rfl (Nat.le_of_ble_eq_true rfl) dX_write_25 (fun rv ru hw => ?_)
    obtain ⟨rfl, rfl⟩ := hw
    show xk_Go K D 4 0 0 (tc_wX xx cxx (a 0) (o 0) (g 0) (r 0) ++ (tc_wR r cr (g 0) (a 0) wl wm wt nx ap fa pl ++ (tc_wB g cg gb gz ++ (tc_wS a ca kn nu wo si de la le ro tm nd ++ tc_wB o co ob oz)))) [(1, .int (nI (ro (tm - 1)))), (0, .ref (xx 0))] 28 [.int (nI (4096 - oz)), .int (nI (le (ro (tm - 1))))]
    refine x_perm [0, 1, 2, 3, 4, 5, 15, 16, 6, 7, 8, 9, 10, 11, 12, 13, 14] (w' := tc_wX xx cxx (a 0) (o 0) (g 0) (r 0) ++ (tc_wR r cr (g 0) (a 0) wl wm wt nx ap fa pl ++ (tc_wB g cg gb gz ++ (tc_wB o co ob oz ++ tc_wS a ca kn nu wo si de la le ro tm nd)))) (by decide) rfl rfl ?_
    refine x_icmp_leN (tgt := 33) C (by omega) (by omega) dX_write_28 (by decide) (fun h28 => ?_) (fun h28 => ?_)
    ·
      refine x_iload_n C dX_write_33 rfl 0 rfl ?_
      refine x_aload_n C dX_write_34 rfl 1 rfl ?_
      refine x_get C fgX_10 0 rfl rfl dX_write_35 ?_
      refine x_get C fgX_96 8 rfl rfl dX_write_38 ?_
      refine x_iload_n C dX_write_41 rfl 0 rfl ?_
      refine x_ild C 12 7 rfl rfl (by omega) (by decide) dX_write_42 ?_
      show xk_Go K D 4 0 0 (tc_wX xx cxx (a 0) (o 0) (g 0) (r 0) ++ (tc_wR r cr (g 0) (a 0) wl wm wt nx ap fa pl ++ (tc_wB g cg gb gz ++ (tc_wB o co ob oz ++ tc_wS a ca kn nu wo si de la le ro tm nd)))) [(1, .int (nI (ro (tm - 1)))), (0, .ref (xx 0))] 43 [.int (nI (si (ro (tm - 1)))), .int (nI (ro (tm - 1)))]
      refine x_iaddN C dX_write_43 ?_
      refine x_istore_n C [(2, .int (nI (ro (tm - 1) + (si (ro (tm - 1)))))), (1, .int (nI (ro (tm - 1)))), (0, .ref (xx 0))] dX_write_44 rfl (by decide) rfl ?_
      refine x_iload_n C dX_write_45 rfl 1 rfl ?_
      refine x_istore_n C [(3, .int (nI (ro (tm - 1)))), (2, .int (nI (ro (tm - 1) + (si (ro (tm - 1)))))), (1, .int (nI (ro (tm - 1)))), (0, .ref (xx 0))] dX_write_46 rfl (by decide) rfl ?_
      have lp47 : ∀ (zc : Nat) (q : Nat) (bg : Nat → Nat) (s1 : Nat), (t.length - q) < zc → (q ≤ t.length) → (tc_apd ob oz bg (tc_tb (t.take q))) → (s1 = oz + (tc_tb (t.take q)).length) → xk_Go K D 4 0 0 (tc_wX xx cxx (a 0) (o 0) (g 0) (r 0) ++ (tc_wR r cr (g 0) (a 0) wl wm wt nx ap fa pl ++ (tc_wB g cg gb gz ++ (tc_wB o co bg s1 ++ tc_wS a ca kn nu wo si de la le ro tm nd)))) [(0, .ref (xx 0)), (1, .int (nI (ro (tm - 1)))), (2, .int (nI (ro (tm - 1) + (si (ro (tm - 1)))))), (3, .int (nI (ro (tm - 1) + q)))] 47 [] := by
        intro zc
        induction zc with
        | zero => intro q bg s1 hm; exact absurd hm (Nat.not_lt_zero _)
        | succ zc ih47 =>
          intro q bg s1 hm e1 e2 e3
          refine x_iload_n C dX_write_47 rfl 3 rfl ?_
          refine x_iload_n C dX_write_48 rfl 2 rfl ?_
          refine x_icmp_geN (tgt := 77) C (by omega) (by omega) dX_write_49 (by decide) (fun h49 => ?_) (fun h49 => ?_)
          ·
            refine x_aload_n C dX_write_77 rfl 0 rfl ?_
            refine x_get C fgX_19 0 rfl rfl dX_write_78 ?_
            refine x_get C fgX_103 6 rfl rfl dX_write_81 ?_
            have eq : q = t.length := by omega
            rw [eq, List.take_length] at e2 e3
            subst e3
            exact x_iret C T .int rfl rfl dX_write_84 (Or.inr (⟨bg, (tc_tb t), rfl, rfl, (if_pos (by omega)), e2⟩))
          ·
            refine x_iload_n C dX_write_52 rfl 3 rfl ?_
            refine x_sipush (v := nI 200) C dX_write_53 (by decide) ?_
            refine x_icmp_geN (tgt := 77) C (by omega) (by decide) dX_write_56 (by decide) (fun h56 => ?_) (fun h56 => ?_)
            ·
              exact absurd h56 (by omega)
            ·
              refine x_aload_n C dX_write_59 rfl 0 rfl ?_
              refine x_get C fgX_10 0 rfl rfl dX_write_60 ?_
              refine x_iload_n C dX_write_63 rfl 3 rfl ?_
              refine x_aload_n C dX_write_64 rfl 0 rfl ?_
              refine x_get C fgX_19 0 rfl rfl dX_write_65 ?_
              obtain ⟨x, hxq⟩ : ∃ x, t[q]? = some x := ⟨_, List.getElem?_eq_getElem (by omega)⟩
              have hxo := zt.2.2 x (List.mem_of_getElem? hxq)
              have hq1 := tc_tb_le (t := t) (q + 1)
              rw [tc_tb_take hxq, List.length_append] at hq1
              refine x_callV C (c_S_appendNode D a ca o co kn nu wo si de la le ro tm nd bg s1 (ro (tm - 1) + q) x _ (by omega) (by rw [z2]; exact tc_at_k z8 hxq) hxo (by omega)) kbX_99 kcX_99 [8, 9, 10, 11, 12, 13, 14, 15, 16, 6, 7] [0, 1, 2, 3, 4, 5] [4, 5, 6, 7, 8, 9, 10, 11, 3] (tc_wX xx cxx (a 0) (o 0) (g 0) (r 0) ++ (tc_wR r cr (g 0) (a 0) wl wm wt nx ap fa pl ++ tc_wB g cg gb gz)) rfl rfl (by decide) (by decide) (by decide) rfl 0 rfl rfl ⟨Nat.le_of_ble_eq_true rfl, Nat.le_of_ble_eq_true rfl⟩ ⟨Nat.le_of_ble_eq_true rfl, Nat.le_of_ble_eq_true rfl⟩ [] rfl rfl (Nat.le_of_ble_eq_true rfl) dX_write_68 (fun rv ru hw => ?_)
              obtain ⟨bgn, rfl, rfl, g1n⟩ := hw
              show xk_Go K D 4 0 0 (tc_wX xx cxx (a 0) (o 0) (g 0) (r 0) ++ (tc_wR r cr (g 0) (a 0) wl wm wt nx ap fa pl ++ (tc_wB g cg gb gz ++ (tc_wS a ca kn nu wo si de la le ro tm nd ++ tc_wB o co bgn (s1 + (tc_nb x).length))))) [(0, .ref (xx 0)), (1, .int (nI (ro (tm - 1)))), (2, .int (nI (ro (tm - 1) + (si (ro (tm - 1)))))), (3, .int (nI (ro (tm - 1) + q)))] 71 []
              refine x_perm [0, 1, 2, 3, 4, 5, 15, 16, 6, 7, 8, 9, 10, 11, 12, 13, 14] (w' := tc_wX xx cxx (a 0) (o 0) (g 0) (r 0) ++ (tc_wR r cr (g 0) (a 0) wl wm wt nx ap fa pl ++ (tc_wB g cg gb gz ++ (tc_wB o co bgn (s1 + (tc_nb x).length) ++ tc_wS a ca kn nu wo si de la le ro tm nd)))) (by decide) rfl rfl ?_
              refine x_iinc (q := 3) C (nI (ro (tm - 1) + q + 1)) [(3, .int (nI (ro (tm - 1) + q + 1))), (0, .ref (xx 0)), (1, .int (nI (ro (tm - 1)))), (2, .int (nI (ro (tm - 1) + (si (ro (tm - 1))))))] dX_write_71 rfl (nI_add (ro (tm - 1) + q) 1) (by decide) rfl ?_
              refine x_goto C 47 dX_write_74 (by decide) ?_
              exact x_sub [1, 2, 3, 0] rfl (ih47 (q + 1) bgn (s1 + (tc_nb x).length) (by omega) (by omega) (by rw [tc_tb_take hxq]; exact tc_apd_app e2 e3 g1n) (by rw [tc_tb_take hxq, List.length_append]; omega))
      exact x_sub [3, 2, 1, 0] rfl (lp47 _ 0 ob oz (Nat.lt_succ_self _) (Nat.zero_le _) (tc_apd_0 ob oz) rfl)
    ·
      refine x_iconst (v := xk_oI none) C dX_write_31 (by decide) ?_
      exact x_iret C T .int rfl rfl dX_write_32 (Or.inl (⟨rfl, rfl, (if_neg (by omega))⟩))
set_option maxHeartbeats 4000000 in
set_option maxRecDepth 100000 in
/-- give -/
theorem c_X_give (D : va_G) (xx : Nat → Nat) (cxx : Nat → ClassId) (r : Nat → Nat) (cr : Nat → ClassId) (g : Nat → Nat) (cg : Nat → ClassId) (o : Nat → Nat) (co : Nat → ClassId) (a : Nat → Nat) (ca : Nat → ClassId) (wl : Nat → Nat) (wm : Nat → Nat) (wt : Nat) (nx : Nat) (ap : Nat) (fa : Nat) (pl : Option Nat) (gb : Nat → Nat) (gz : Nat) (ob : Nat → Nat) (oz : Nat) (kn : Nat → Nat) (nu : Nat → Int64) (wo : Nat → Int64) (si : Nat → Nat) (de : Nat → Nat) (la : Nat → Nat) (le : Nat → Nat) (ro : Nat → Nat) (tm : Nat) (nd : Nat) (v : Int64) (n : Int32) (y1 : gz ≤ 4096) : xk_Ct yX_give cX_give 5 (some .boolean) { frames := 1, cells := 0, slots := 0, locals := 22 } D (tc_tX cxx ++ (tc_tR cr ++ (tc_tB cg ++ (tc_tB co ++ tc_tS ca)))) [.ref (xx 0), .long v, .int n] (tc_wX xx cxx (a 0) (o 0) (g 0) (r 0) ++ (tc_wR r cr (g 0) (a 0) wl wm wt nx ap fa pl ++ (tc_wB g cg gb gz ++ (tc_wB o co ob oz ++ tc_wS a ca kn nu wo si de la le ro tm nd)))) (fun rv ru => (rv = some (.int (nI 0)) ∧ ru = tc_wX xx cxx (a 0) (o 0) (g 0) (r 0) ++ (tc_wR r cr (g 0) (a 0) wl wm wt nx ap fa pl ++ (tc_wB g cg gb gz ++ (tc_wB o co ob oz ++ tc_wS a ca kn nu wo si de la le ro tm nd))) ∧ (tc_gv n gz = none)) ∨ (∃ (k : Nat), ∃ (bg : Nat → Nat), rv = some (.int (nI 1)) ∧ ru = tc_wX xx cxx (a 0) (o 0) (g 0) (r 0) ++ (tc_wR r cr (g 0) (a 0) wl wm wt nx ap fa pl ++ (tc_wB g cg bg (gz + k) ++ (tc_wB o co ob oz ++ tc_wS a ca kn nu wo si de la le ro tm nd))) ∧ (tc_gv n gz = some k) ∧ (tc_apd gb gz bg (tc_bts v k)))) := by
  refine xk_enter (by decide) (Nat.le_of_ble_eq_true rfl) (fun K C T hin => ?_)
  show xk_Go K D 5 0 0 (tc_wX xx cxx (a 0) (o 0) (g 0) (r 0) ++ (tc_wR r cr (g 0) (a 0) wl wm wt nx ap fa pl ++ (tc_wB g cg gb gz ++ (tc_wB o co ob oz ++ tc_wS a ca kn nu wo si de la le ro tm nd)))) [(0, .ref (xx 0)), (1, .long v), (3, .int n)] 0 []
  refine x_iload_n C dX_give_0 rfl 2 rfl ?_
  refine x_iconst (v := nI 1) C dX_give_1 (by decide) ?_
  refine x_icmp_lt (tgt := 22) C dX_give_2 (by decide) (fun h2 => ?_) (fun h2 => ?_)
  ·
    refine x_iconst (v := nI 0) C dX_give_22 (by decide) ?_
    exact x_iret C T .boolean rfl rfl dX_give_23 (Or.inl (⟨rfl, rfl, (tc_gv_lo h2)⟩))
  ·
    refine x_iload_n C dX_give_5 rfl 2 rfl ?_
    refine x_bipush (v := nI 8) C dX_give_6 (by decide) ?_
    refine x_icmp_gt (tgt := 22) C dX_give_8 (by decide) (fun h8 => ?_) (fun h8 => ?_)
    ·
      refine x_iconst (v := nI 0) C dX_give_22 (by decide) ?_
      exact x_iret C T .boolean rfl rfl dX_give_23 (Or.inl (⟨rfl, rfl, (tc_gv_hi h8)⟩))
    ·
      obtain ⟨k, hk1, hk8, rfl⟩ := tc_rng18 h2 h8
      refine x_iload_n C dX_give_11 rfl 2 rfl ?_
      refine x_aload_n C dX_give_12 rfl 0 rfl ?_
      refine x_get C fgX_23 0 rfl rfl dX_give_13 ?_
      refine x_callV C (c_B_room D g cg gb gz (by omega)) kbX_93 kcX_93 [4, 5] [0, 1, 2, 3, 6, 7, 8, 9, 10, 11, 12, 13, 14, 15, 16] [2] (tc_wX xx cxx (a 0) (o 0) (g 0) (r 0) ++ (tc_wR r cr (g 0) (a 0) wl wm wt nx ap fa pl ++ (tc_wB o co ob oz ++ tc_wS a ca kn nu wo si de la le ro tm nd))) rfl rfl (by decide) (by decide) (by decide) rfl 0 rfl rfl ⟨Nat.le_of_ble_eq_true rfl, Nat.le_of_ble_eq_true rfl⟩ ⟨Nat.le_of_ble_eq_true rfl, Nat.le_of_ble_eq_true rfl⟩ [.int (nI k)] rfl rfl (Nat.le_of_ble_eq_true rfl) dX_give_16 (fun rv ru hw => ?_)
      obtain ⟨rfl, rfl⟩ := hw
      show xk_Go K D 5 0 0 (tc_wX xx cxx (a 0) (o 0) (g 0) (r 0) ++ (tc_wR r cr (g 0) (a 0) wl wm wt nx ap fa pl ++ (tc_wB o co ob oz ++ (tc_wS a ca kn nu wo si de la le ro tm nd ++ tc_wB g cg gb gz)))) [(0, .ref (xx 0)), (1, .long v), (3, .int (nI k))] 19 [.int (nI (4096 - gz)), .int (nI k)]
      refine x_perm [0, 1, 2, 3, 15, 16, 4, 5, 6, 7, 8, 9, 10, 11, 12, 13, 14] (w' := tc_wX xx cxx (a 0) (o 0) (g 0) (r 0) ++ (tc_wR r cr (g 0) (a 0) wl wm wt nx ap fa pl ++ (tc_wB g cg gb gz ++ (tc_wB o co ob oz ++ tc_wS a ca kn nu wo si de la le ro tm nd)))) (by decide) rfl rfl ?_
      refine x_icmp_leN (tgt := 24) C (by omega) (by omega) dX_give_19 (by decide) (fun h19 => ?_) (fun h19 => ?_)
      ·
        refine x_iload_n C dX_give_24 rfl 2 rfl ?_
        refine x_iconst (v := nI 1) C dX_give_25 (by decide) ?_
        refine x_isub C dX_give_26 ?_
        refine x_top (tc_pr_sub k) ?_
        refine x_istore C [(4, .int (xk_oI (tc_pr k))), (0, .ref (xx 0)), (1, .long v), (3, .int (nI k))] dX_give_27 (by decide) rfl ?_
        have lp29 : ∀ (zc : Nat) (jn : Nat) (bg : Nat → Nat) (s1 : Nat), jn < zc → (jn ≤ k) → (tc_apd gb gz bg ((tc_bts v k).take (k - jn))) → (s1 = gz + (k - jn)) → xk_Go K D 5 0 0 (tc_wX xx cxx (a 0) (o 0) (g 0) (r 0) ++ (tc_wR r cr (g 0) (a 0) wl wm wt nx ap fa pl ++ (tc_wB g cg bg s1 ++ (tc_wB o co ob oz ++ tc_wS a ca kn nu wo si de la le ro tm nd)))) [(0, .ref (xx 0)), (1, .long v), (3, .int (nI k)), (4, .int (xk_oI (tc_pr jn)))] 29 [] := by
          intro zc
          induction zc with
          | zero => intro jn bg s1 hm; exact absurd hm (Nat.not_lt_zero _)
          | succ zc ih29 =>
            intro jn bg s1 hm e1 e2 e3
            refine x_iload C dX_give_29 3 rfl ?_
            rcases jn with _ | j
            ·
              show xk_Go K D 5 0 0 (tc_wX xx cxx (a 0) (o 0) (g 0) (r 0) ++ (tc_wR r cr (g 0) (a 0) wl wm wt nx ap fa pl ++ (tc_wB g cg bg s1 ++ (tc_wB o co ob oz ++ tc_wS a ca kn nu wo si de la le ro tm nd)))) [(0, .ref (xx 0)), (1, .long v), (3, .int (nI k)), (4, .int (xk_oI none))] 31 [.int (xk_oI none)]
              refine x_if_lt (tgt := 53) C dX_give_31 (by decide) (fun _ => ?_) (fun h => absurd (by decide) h)
              refine x_iconst (v := nI 1) C dX_give_53 (by decide) ?_
              obtain rfl : s1 = gz + k := by omega
              rw [Nat.sub_zero, List.take_of_length_le (by rw [tc_bts_len]; exact Nat.le_refl _)] at e2
              exact x_iret C T .boolean rfl rfl dX_give_54 (Or.inr (⟨k, bg, rfl, rfl, (tc_gv_in hk1 hk8 (by omega)), e2⟩))
            ·
              show xk_Go K D 5 0 0 (tc_wX xx cxx (a 0) (o 0) (g 0) (r 0) ++ (tc_wR r cr (g 0) (a 0) wl wm wt nx ap fa pl ++ (tc_wB g cg bg s1 ++ (tc_wB o co ob oz ++ tc_wS a ca kn nu wo si de la le ro tm nd)))) [(0, .ref (xx 0)), (1, .long v), (3, .int (nI k)), (4, .int (nI j))] 31 [.int (nI j)]
              refine x_if_ltN (tgt := 53) C (by omega) dX_give_31 (by decide) ?_
              refine x_aload_n C dX_give_34 rfl 0 rfl ?_
              refine x_get C fgX_23 0 rfl rfl dX_give_35 ?_
              refine x_lload_n C dX_give_38 rfl 1 rfl ?_
              refine x_iload C dX_give_39 3 rfl ?_
              refine x_callS C (c_F_byteOf D v j (by omega)) kbX_106 kcX_106 [] [0, 1, 2, 3, 4, 5, 6, 7, 8, 9, 10, 11, 12, 13, 14, 15, 16] [] (tc_wX xx cxx (a 0) (o 0) (g 0) (r 0) ++ (tc_wR r cr (g 0) (a 0) wl wm wt nx ap fa pl ++ (tc_wB g cg bg s1 ++ (tc_wB o co ob oz ++ tc_wS a ca kn nu wo si de la le ro tm nd)))) rfl rfl (by decide) (by decide) (by decide) rfl ⟨Nat.le_of_ble_eq_true rfl, Nat.le_of_ble_eq_true rfl⟩ ⟨Nat.le_of_ble_eq_true rfl, Nat.le_of_ble_eq_true rfl⟩ [.ref (g 0)] rfl rfl (Nat.le_of_ble_eq_true rfl) dX_give_41 (fun rv ru hw => ?_)
              obtain ⟨rfl, rfl⟩ := hw
              show xk_Go K D 5 0 0 (tc_wX xx cxx (a 0) (o 0) (g 0) (r 0) ++ (tc_wR r cr (g 0) (a 0) wl wm wt nx ap fa pl ++ (tc_wB g cg bg s1 ++ (tc_wB o co ob oz ++ tc_wS a ca kn nu wo si de la le ro tm nd)))) [(0, .ref (xx 0)), (1, .long v), (3, .int (nI k)), (4, .int (nI j))] 44 [.int (nI (tc_by v j)), .ref (g 0)]
              refine x_callV C (c_B_append D g cg bg s1 (tc_by v j) (by omega)) kbX_110 kcX_110 [4, 5] [0, 1, 2, 3, 6, 7, 8, 9, 10, 11, 12, 13, 14, 15, 16] [2] (tc_wX xx cxx (a 0) (o 0) (g 0) (r 0) ++ (tc_wR r cr (g 0) (a 0) wl wm wt nx ap fa pl ++ (tc_wB o co ob oz ++ tc_wS a ca kn nu wo si de la le ro tm nd))) rfl rfl (by decide) (by decide) (by decide) rfl 0 rfl rfl ⟨Nat.le_of_ble_eq_true rfl, Nat.le_of_ble_eq_true rfl⟩ ⟨Nat.le_of_ble_eq_true rfl, Nat.le_of_ble_eq_true rfl⟩ [] rfl rfl (Nat.le_of_ble_eq_true rfl) dX_give_44 (fun rv ru hw => ?_)
              obtain ⟨rfl, rfl⟩ := hw
              show xk_Go K D 5 0 0 (tc_wX xx cxx (a 0) (o 0) (g 0) (r 0) ++ (tc_wR r cr (g 0) (a 0) wl wm wt nx ap fa pl ++ (tc_wB o co ob oz ++ (tc_wS a ca kn nu wo si de la le ro tm nd ++ tc_wB g cg (va_up bg s1 (tc_by v j)) (s1 + 1))))) [(0, .ref (xx 0)), (1, .long v), (3, .int (nI k)), (4, .int (nI j))] 47 []
              refine x_perm [0, 1, 2, 3, 15, 16, 4, 5, 6, 7, 8, 9, 10, 11, 12, 13, 14] (w' := tc_wX xx cxx (a 0) (o 0) (g 0) (r 0) ++ (tc_wR r cr (g 0) (a 0) wl wm wt nx ap fa pl ++ (tc_wB g cg (va_up bg s1 (tc_by v j)) (s1 + 1) ++ (tc_wB o co ob oz ++ tc_wS a ca kn nu wo si de la le ro tm nd)))) (by decide) rfl rfl ?_
              refine x_iinc (q := 3) C (xk_oI (tc_pr j)) [(4, .int (xk_oI (tc_pr j))), (0, .ref (xx 0)), (1, .long v), (3, .int (nI k))] dX_give_47 rfl (tc_pr_dec j) (by decide) rfl ?_
              refine x_goto C 29 dX_give_50 (by decide) ?_
              exact x_sub [1, 2, 3, 0] rfl (ih29 j (va_up bg s1 (tc_by v j)) (s1 + 1) (by omega) (by omega) (by rw [tc_bts_take (by omega)]; exact tc_apd_1 e2 (by rw [List.length_take, tc_bts_len]; omega) rfl) (by omega))
        exact x_sub [1, 2, 3, 0] rfl (lp29 _ k gb gz (Nat.lt_succ_self _) (Nat.le_refl _) (by rw [Nat.sub_self]; exact tc_apd_0 gb gz) (by omega))
      ·
        refine x_iconst (v := nI 0) C dX_give_22 (by decide) ?_
        exact x_iret C T .boolean rfl rfl dX_give_23 (Or.inl (⟨rfl, rfl, (tc_gv_no hk8 (by omega))⟩))
set_option maxHeartbeats 4000000 in
set_option maxRecDepth 100000 in
/-- cut -/
theorem c_X_cut (D : va_G) (xx : Nat → Nat) (cxx : Nat → ClassId) (r : Nat → Nat) (cr : Nat → ClassId) (g : Nat → Nat) (cg : Nat → ClassId) (o : Nat → Nat) (co : Nat → ClassId) (a : Nat → Nat) (ca : Nat → ClassId) (wl : Nat → Nat) (wm : Nat → Nat) (wt : Nat) (nx : Nat) (ap : Nat) (fa : Nat) (pl : Option Nat) (gb : Nat → Nat) (gz : Nat) (ob : Nat → Nat) (oz : Nat) (kn : Nat → Nat) (nu : Nat → Int64) (wo : Nat → Int64) (si : Nat → Nat) (de : Nat → Nat) (la : Nat → Nat) (le : Nat → Nat) (ro : Nat → Nat) (tm : Nat) (nd : Nat) (n : Int32) (y1 : gz ≤ 4096) : xk_Ct yX_cut cX_cut 2 (some .boolean) { frames := 0, cells := 0, slots := 0, locals := 0 } D (tc_tX cxx ++ (tc_tR cr ++ (tc_tB cg ++ (tc_tB co ++ tc_tS ca)))) [.ref (xx 0), .int n] (tc_wX xx cxx (a 0) (o 0) (g 0) (r 0) ++ (tc_wR r cr (g 0) (a 0) wl wm wt nx ap fa pl ++ (tc_wB g cg gb gz ++ (tc_wB o co ob oz ++ tc_wS a ca kn nu wo si de la le ro tm nd)))) (fun rv ru => (rv = some (.int (nI 0)) ∧ ru = tc_wX xx cxx (a 0) (o 0) (g 0) (r 0) ++ (tc_wR r cr (g 0) (a 0) wl wm wt nx ap fa pl ++ (tc_wB g cg gb gz ++ (tc_wB o co ob oz ++ tc_wS a ca kn nu wo si de la le ro tm nd))) ∧ (tc_ct n gz = none)) ∨ (∃ (k : Nat), rv = some (.int (nI 1)) ∧ ru = tc_wX xx cxx (a 0) (o 0) (g 0) (r 0) ++ (tc_wR r cr (g 0) (a 0) wl wm wt nx 0 fa pl ++ (tc_wB g cg gb k ++ (tc_wB o co ob oz ++ tc_wS a ca kn nu wo si de la le ro tm nd))) ∧ (tc_ct n gz = some k) ∧ (k ≤ gz))) := by
  refine xk_enter (by decide) (Nat.le_of_ble_eq_true rfl) (fun K C T hin => ?_)
  show xk_Go K D 2 0 0 (tc_wX xx cxx (a 0) (o 0) (g 0) (r 0) ++ (tc_wR r cr (g 0) (a 0) wl wm wt nx ap fa pl ++ (tc_wB g cg gb gz ++ (tc_wB o co ob oz ++ tc_wS a ca kn nu wo si de la le ro tm nd)))) [(0, .ref (xx 0)), (1, .int n)] 0 []
  refine x_iload_n C dX_cut_0 rfl 1 rfl ?_
  refine x_if_lt (tgt := 15) C dX_cut_1 (by decide) (fun h1 => ?_) (fun h1 => ?_)
  ·
    refine x_iconst (v := nI 0) C dX_cut_15 (by decide) ?_
    exact x_iret C T .boolean rfl rfl dX_cut_16 (Or.inl (⟨rfl, rfl, (tc_ct_lo h1)⟩))
  ·
    obtain ⟨k, hk, rfl⟩ := nI_of h1
    refine x_iload_n C dX_cut_4 rfl 1 rfl ?_
    refine x_aload_n C dX_cut_5 rfl 0 rfl ?_
    refine x_get C fgX_23 0 rfl rfl dX_cut_6 ?_
    refine x_get C fgX_103 4 rfl rfl dX_cut_9 ?_
    refine x_icmp_leN (tgt := 17) C (by omega) (by omega) dX_cut_12 (by decide) (fun h12 => ?_) (fun h12 => ?_)
    ·
      refine x_aload_n C dX_cut_17 rfl 0 rfl ?_
      refine x_get C fgX_23 0 rfl rfl dX_cut_18 ?_
      refine x_iload_n C dX_cut_21 rfl 1 rfl ?_
      refine x_put C fpX_103 4 (tc_wX xx cxx (a 0) (o 0) (g 0) (r 0) ++ (tc_wR r cr (g 0) (a 0) wl wm wt nx ap fa pl ++ (tc_wB g cg gb k ++ (tc_wB o co ob oz ++ tc_wS a ca kn nu wo si de la le ro tm nd)))) rfl rfl rfl rfl (Nat.le_of_ble_eq_true rfl) dX_cut_22 ?_
      refine x_aload_n C dX_cut_25 rfl 0 rfl ?_
      refine x_get C fgX_31 0 rfl rfl dX_cut_26 ?_
      refine x_iconst (v := nI 0) C dX_cut_29 (by decide) ?_
      refine x_put C fpX_114 1 (tc_wX xx cxx (a 0) (o 0) (g 0) (r 0) ++ (tc_wR r cr (g 0) (a 0) wl wm wt nx 0 fa pl ++ (tc_wB g cg gb k ++ (tc_wB o co ob oz ++ tc_wS a ca kn nu wo si de la le ro tm nd)))) rfl rfl rfl rfl (Nat.le_of_ble_eq_true rfl) dX_cut_30 ?_
      refine x_iconst (v := nI 1) C dX_cut_33 (by decide) ?_
      exact x_iret C T .boolean rfl rfl dX_cut_34 (Or.inr (⟨k, rfl, rfl, (tc_ct_in h12 (by omega)), h12⟩))
    ·
      refine x_iconst (v := nI 0) C dX_cut_15 (by decide) ?_
      exact x_iret C T .boolean rfl rfl dX_cut_16 (Or.inl (⟨rfl, rfl, (tc_ct_no h12 hk)⟩))
set_option maxHeartbeats 4000000 in
set_option maxRecDepth 100000 in
/-- turn -/
theorem c_X_turn (D : va_G) (xx : Nat → Nat) (cxx : Nat → ClassId) (r : Nat → Nat) (cr : Nat → ClassId) (g : Nat → Nat) (cg : Nat → ClassId) (o : Nat → Nat) (co : Nat → ClassId) (a : Nat → Nat) (ca : Nat → ClassId) (wl : Nat → Nat) (wm : Nat → Nat) (wt : Nat) (nx : Nat) (ap : Nat) (fa : Nat) (pl : Option Nat) (gb : Nat → Nat) (gz : Nat) (ob : Nat → Nat) (oz : Nat) (kn : Nat → Nat) (nu : Nat → Int64) (wo : Nat → Int64) (si : Nat → Nat) (de : Nat → Nat) (la : Nat → Nat) (le : Nat → Nat) (ro : Nat → Nat) (tm : Nat) (nd : Nat) (y1 : oz ≤ 4096) : xk_Ct yX_turn cX_turn 1 none { frames := 2, cells := 0, slots := 0, locals := 121 } D (tc_tX cxx ++ (tc_tR cr ++ (tc_tB cg ++ (tc_tB co ++ tc_tS ca)))) [.ref (xx 0)] (tc_wX xx cxx (a 0) (o 0) (g 0) (r 0) ++ (tc_wR r cr (g 0) (a 0) wl wm wt nx ap fa pl ++ (tc_wB g cg gb gz ++ (tc_wB o co ob oz ++ tc_wS a ca kn nu wo si de la le ro tm nd)))) (fun rv ru => (rv = none ∧ ru = tc_wX xx cxx (a 0) (o 0) (g 0) (r 0) ++ (tc_wR r cr (g 0) (a 0) wl wm wt nx 0 fa pl ++ (tc_wB g cg (va_cpy ob gb 0 0 oz) oz ++ (tc_wB o co ob oz ++ tc_wS a ca kn nu wo si de la le ro tm nd))))) := by
  refine xk_enter (by decide) (Nat.le_of_ble_eq_true rfl) (fun K C T hin => ?_)
  show xk_Go K D 1 0 0 (tc_wX xx cxx (a 0) (o 0) (g 0) (r 0) ++ (tc_wR r cr (g 0) (a 0) wl wm wt nx ap fa pl ++ (tc_wB g cg gb gz ++ (tc_wB o co ob oz ++ tc_wS a ca kn nu wo si de la le ro tm nd)))) [(0, .ref (xx 0))] 0 []
  refine x_aload_n C dX_turn_0 rfl 0 rfl ?_
  refine x_get C fgX_23 0 rfl rfl dX_turn_1 ?_
  refine x_aload_n C dX_turn_4 rfl 0 rfl ?_
  refine x_get C fgX_19 0 rfl rfl dX_turn_5 ?_
  refine x_callV C (c_B_copyFrom D g cg o co gb gz ob oz y1) kbX_117 kcX_117 [4, 5, 6, 7] [0, 1, 2, 3, 8, 9, 10, 11, 12, 13, 14, 15, 16] [2, 3] (tc_wX xx cxx (a 0) (o 0) (g 0) (r 0) ++ (tc_wR r cr (g 0) (a 0) wl wm wt nx ap fa pl ++ tc_wS a ca kn nu wo si de la le ro tm nd)) rfl rfl (by decide) (by decide) (by decide) rfl 0 rfl rfl ⟨Nat.le_of_ble_eq_true rfl, Nat.le_of_ble_eq_true rfl⟩ ⟨Nat.le_of_ble_eq_true rfl, Nat.le_of_ble_eq_true rfl⟩ [] rfl rfl (Nat.le_of_ble_eq_true rfl) dX_turn_8 (fun rv ru hw => ?_)
  obtain ⟨rfl, rfl⟩ := hw
  show xk_Go K D 1 0 0 (tc_wX xx cxx (a 0) (o 0) (g 0) (r 0) ++ (tc_wR r cr (g 0) (a 0) wl wm wt nx ap fa pl ++ (tc_wS a ca kn nu wo si de la le ro tm nd ++ (tc_wB g cg (va_cpy ob gb 0 0 oz) oz ++ tc_wB o co ob oz)))) [(0, .ref (xx 0))] 11 []
  refine x_perm [0, 1, 2, 3, 13, 14, 15, 16, 4, 5, 6, 7, 8, 9, 10, 11, 12] (w' := tc_wX xx cxx (a 0) (o 0) (g 0) (r 0) ++ (tc_wR r cr (g 0) (a 0) wl wm wt nx ap fa pl ++ (tc_wB g cg (va_cpy ob gb 0 0 oz) oz ++ (tc_wB o co ob oz ++ tc_wS a ca kn nu wo si de la le ro tm nd)))) (by decide) rfl rfl ?_
  refine x_aload_n C dX_turn_11 rfl 0 rfl ?_
  refine x_get C fgX_31 0 rfl rfl dX_turn_12 ?_
  refine x_iconst (v := nI 0) C dX_turn_15 (by decide) ?_
  refine x_put C fpX_114 1 (tc_wX xx cxx (a 0) (o 0) (g 0) (r 0) ++ (tc_wR r cr (g 0) (a 0) wl wm wt nx 0 fa pl ++ (tc_wB g cg (va_cpy ob gb 0 0 oz) oz ++ (tc_wB o co ob oz ++ tc_wS a ca kn nu wo si de la le ro tm nd)))) rfl rfl rfl rfl (Nat.le_of_ble_eq_true rfl) dX_turn_16 ?_
  exact x_vret C T rfl dX_turn_19 (⟨rfl, rfl⟩)
set_option maxHeartbeats 4000000 in
set_option maxRecDepth 100000 in
/-- output -/
theorem c_X_output (D : va_G) (xx : Nat → Nat) (cxx : Nat → ClassId) (r : Nat → Nat) (cr : Nat → ClassId) (g : Nat → Nat) (cg : Nat → ClassId) (o : Nat → Nat) (co : Nat → ClassId) (a : Nat → Nat) (ca : Nat → ClassId) (wl : Nat → Nat) (wm : Nat → Nat) (wt : Nat) (nx : Nat) (ap : Nat) (fa : Nat) (pl : Option Nat) (gb : Nat → Nat) (gz : Nat) (ob : Nat → Nat) (oz : Nat) (kn : Nat → Nat) (nu : Nat → Int64) (wo : Nat → Int64) (si : Nat → Nat) (de : Nat → Nat) (la : Nat → Nat) (le : Nat → Nat) (ro : Nat → Nat) (tm : Nat) (nd : Nat) (k : Int32) (y1 : oz ≤ 4096) : xk_Ct yX_output cX_output 2 (some .int) { frames := 1, cells := 0, slots := 0, locals := 21 } D (tc_tX cxx ++ (tc_tR cr ++ (tc_tB cg ++ (tc_tB co ++ tc_tS ca)))) [.ref (xx 0), .int k] (tc_wX xx cxx (a 0) (o 0) (g 0) (r 0) ++ (tc_wR r cr (g 0) (a 0) wl wm wt nx ap fa pl ++ (tc_wB g cg gb gz ++ (tc_wB o co ob oz ++ tc_wS a ca kn nu wo si de la le ro tm nd)))) (fun rv ru => (rv = some (.int (xk_oI none)) ∧ ru = tc_wX xx cxx (a 0) (o 0) (g 0) (r 0) ++ (tc_wR r cr (g 0) (a 0) wl wm wt nx ap fa pl ++ (tc_wB g cg gb gz ++ (tc_wB o co ob oz ++ tc_wS a ca kn nu wo si de la le ro tm nd))) ∧ (∀ j, j < oz → k ≠ nI j)) ∨ (∃ (j : Nat), rv = some (.int (nI (ob j % 256))) ∧ ru = tc_wX xx cxx (a 0) (o 0) (g 0) (r 0) ++ (tc_wR r cr (g 0) (a 0) wl wm wt nx ap fa pl ++ (tc_wB g cg gb gz ++ (tc_wB o co ob oz ++ tc_wS a ca kn nu wo si de la le ro tm nd))) ∧ (k = nI j) ∧ (j < oz))) := by
  refine xk_enter (by decide) (Nat.le_of_ble_eq_true rfl) (fun K C T hin => ?_)
  show xk_Go K D 2 0 0 (tc_wX xx cxx (a 0) (o 0) (g 0) (r 0) ++ (tc_wR r cr (g 0) (a 0) wl wm wt nx ap fa pl ++ (tc_wB g cg gb gz ++ (tc_wB o co ob oz ++ tc_wS a ca kn nu wo si de la le ro tm nd)))) [(0, .ref (xx 0)), (1, .int k)] 0 []
  refine x_aload_n C dX_output_0 rfl 0 rfl ?_
  refine x_get C fgX_19 0 rfl rfl dX_output_1 ?_
  refine x_iload_n C dX_output_4 rfl 1 rfl ?_
  refine x_callV C (c_B_get D o co ob oz k y1) kbX_161 kcX_161 [6, 7] [0, 1, 2, 3, 4, 5, 8, 9, 10, 11, 12, 13, 14, 15, 16] [3] (tc_wX xx cxx (a 0) (o 0) (g 0) (r 0) ++ (tc_wR r cr (g 0) (a 0) wl wm wt nx ap fa pl ++ (tc_wB g cg gb gz ++ tc_wS a ca kn nu wo si de la le ro tm nd))) rfl rfl (by decide) (by decide) (by decide) rfl 0 rfl rfl ⟨Nat.le_of_ble_eq_true rfl, Nat.le_of_ble_eq_true rfl⟩ ⟨Nat.le_of_ble_eq_true rfl, Nat.le_of_ble_eq_true rfl⟩ [] rfl rfl (Nat.le_of_ble_eq_true rfl) dX_output_5 (fun rv ru hw => ?_)
  rcases hw with ⟨rfl, rfl, g1⟩ | ⟨j, rfl, rfl, g1, g2⟩
  ·
    show xk_Go K D 2 0 0 (tc_wX xx cxx (a 0) (o 0) (g 0) (r 0) ++ (tc_wR r cr (g 0) (a 0) wl wm wt nx ap fa pl ++ (tc_wB g cg gb gz ++ (tc_wS a ca kn nu wo si de la le ro tm nd ++ tc_wB o co ob oz)))) [(0, .ref (xx 0)), (1, .int k)] 8 [.int (xk_oI none)]
    refine x_perm [0, 1, 2, 3, 4, 5, 15, 16, 6, 7, 8, 9, 10, 11, 12, 13, 14] (w' := tc_wX xx cxx (a 0) (o 0) (g 0) (r 0) ++ (tc_wR r cr (g 0) (a 0) wl wm wt nx ap fa pl ++ (tc_wB g cg gb gz ++ (tc_wB o co ob oz ++ tc_wS a ca kn nu wo si de la le ro tm nd)))) (by decide) rfl rfl ?_
    exact x_iret C T .int rfl rfl dX_output_8 (Or.inl (⟨rfl, rfl, g1⟩))
  ·
    show xk_Go K D 2 0 0 (tc_wX xx cxx (a 0) (o 0) (g 0) (r 0) ++ (tc_wR r cr (g 0) (a 0) wl wm wt nx ap fa pl ++ (tc_wB g cg gb gz ++ (tc_wS a ca kn nu wo si de la le ro tm nd ++ tc_wB o co ob oz)))) [(0, .ref (xx 0)), (1, .int k)] 8 [.int (nI (ob j % 256))]
    refine x_perm [0, 1, 2, 3, 4, 5, 15, 16, 6, 7, 8, 9, 10, 11, 12, 13, 14] (w' := tc_wX xx cxx (a 0) (o 0) (g 0) (r 0) ++ (tc_wR r cr (g 0) (a 0) wl wm wt nx ap fa pl ++ (tc_wB g cg gb gz ++ (tc_wB o co ob oz ++ tc_wS a ca kn nu wo si de la le ro tm nd)))) (by decide) rfl rfl ?_
    exact x_iret C T .int rfl rfl dX_output_8 (Or.inr (⟨j, rfl, rfl, g1, g2⟩))
end
section
set_option maxHeartbeats 4000000 in
set_option maxRecDepth 100000 in
/-- look -/
theorem c_X_look (D : va_G) (xx : Nat → Nat) (cxx : Nat → ClassId) (r : Nat → Nat) (cr : Nat → ClassId) (g : Nat → Nat) (cg : Nat → ClassId) (o : Nat → Nat) (co : Nat → ClassId) (a : Nat → Nat) (ca : Nat → ClassId) (wl : Nat → Nat) (wm : Nat → Nat) (wt : Nat) (nx : Nat) (ap : Nat) (fa : Nat) (pl : Option Nat) (gb : Nat → Nat) (gz : Nat) (ob : Nat → Nat) (oz : Nat) (kn : Nat → Nat) (nu : Nat → Int64) (wo : Nat → Int64) (si : Nat → Nat) (de : Nat → Nat) (la : Nat → Nat) (le : Nat → Nat) (ro : Nat → Nat) (tm : Nat) (nd : Nat) (w : Int32) (Ts : List (List tc_Nd)) (y1 : tc_RS Ts (kn, nu, wo, si, de, la, le) ro tm nd) : xk_Ct yX_look cX_look 2 (some .int) { frames := 2, cells := 0, slots := 0, locals := 41 } D (tc_tX cxx ++ (tc_tR cr ++ (tc_tB cg ++ (tc_tB co ++ tc_tS ca)))) [.ref (xx 0), .int w] (tc_wX xx cxx (a 0) (o 0) (g 0) (r 0) ++ (tc_wR r cr (g 0) (a 0) wl wm wt nx ap fa pl ++ (tc_wB g cg gb gz ++ (tc_wB o co ob oz ++ tc_wS a ca kn nu wo si de la le ro tm nd)))) (fun rv ru => (rv = some (.int (xk_oI (tc_look tm nd oz gz ap fa pl (tc_lln Ts) w))) ∧ ru = tc_wX xx cxx (a 0) (o 0) (g 0) (r 0) ++ (tc_wR r cr (g 0) (a 0) wl wm wt nx ap fa pl ++ (tc_wB g cg gb gz ++ (tc_wB o co ob oz ++ tc_wS a ca kn nu wo si de la le ro tm nd))))) := by
  refine xk_enter (by decide) (Nat.le_of_ble_eq_true rfl) (fun K C T hin => ?_)
  show xk_Go K D 2 0 0 (tc_wX xx cxx (a 0) (o 0) (g 0) (r 0) ++ (tc_wR r cr (g 0) (a 0) wl wm wt nx ap fa pl ++ (tc_wB g cg gb gz ++ (tc_wB o co ob oz ++ tc_wS a ca kn nu wo si de la le ro tm nd)))) [(0, .ref (xx 0)), (1, .int w)] 0 []
  refine x_iload_n C dX_look_0 rfl 1 rfl ?_
  rcases tc_w8 w with rfl | rfl | rfl | rfl | rfl | rfl | rfl | rfl | hw
  ·
    refine x_tblIn C 48 dX_look_1 (by decide) (by decide) rfl (by decide) ?_
    refine x_aload_n C dX_look_48 rfl 0 rfl ?_
    refine x_get C fgX_10 0 rfl rfl dX_look_49 ?_
    refine x_get C fgX_35 8 rfl rfl dX_look_52 ?_
    exact x_iret C T .int rfl rfl dX_look_55 (⟨by unfold tc_look; rw [if_pos rfl]; rfl, rfl⟩)
  ·
    refine x_tblIn C 56 dX_look_1 (by decide) (by decide) rfl (by decide) ?_
    refine x_aload_n C dX_look_56 rfl 0 rfl ?_
    refine x_get C fgX_10 0 rfl rfl dX_look_57 ?_
    refine x_get C fgX_39 8 rfl rfl dX_look_60 ?_
    exact x_iret C T .int rfl rfl dX_look_63 (⟨by unfold tc_look; rw [if_neg (show ¬ (nI 1 = nI 0) by decide), if_pos rfl]; rfl, rfl⟩)
  ·
    refine x_tblIn C 64 dX_look_1 (by decide) (by decide) rfl (by decide) ?_
    refine x_aload_n C dX_look_64 rfl 0 rfl ?_
    refine x_get C fgX_19 0 rfl rfl dX_look_65 ?_
    refine x_get C fgX_103 6 rfl rfl dX_look_68 ?_
    exact x_iret C T .int rfl rfl dX_look_71 (⟨by unfold tc_look; rw [if_neg (show ¬ (nI 2 = nI 0) by decide), if_neg (show ¬ (nI 2 = nI 1) by decide), if_pos rfl]; rfl, rfl⟩)
  ·
    refine x_tblIn C 72 dX_look_1 (by decide) (by decide) rfl (by decide) ?_
    refine x_aload_n C dX_look_72 rfl 0 rfl ?_
    refine x_get C fgX_23 0 rfl rfl dX_look_73 ?_
    refine x_get C fgX_103 4 rfl rfl dX_look_76 ?_
    exact x_iret C T .int rfl rfl dX_look_79 (⟨by unfold tc_look; rw [if_neg (show ¬ (nI 3 = nI 0) by decide), if_neg (show ¬ (nI 3 = nI 1) by decide), if_neg (show ¬ (nI 3 = nI 2) by decide), if_pos rfl]; rfl, rfl⟩)
  ·
    refine x_tblIn C 80 dX_look_1 (by decide) (by decide) rfl (by decide) ?_
    refine x_aload_n C dX_look_80 rfl 0 rfl ?_
    refine x_get C fgX_31 0 rfl rfl dX_look_81 ?_
    refine x_get C fgX_114 1 rfl rfl dX_look_84 ?_
    exact x_iret C T .int rfl rfl dX_look_87 (⟨by unfold tc_look; rw [if_neg (show ¬ (nI 4 = nI 0) by decide), if_neg (show ¬ (nI 4 = nI 1) by decide), if_neg (show ¬ (nI 4 = nI 2) by decide), if_neg (show ¬ (nI 4 = nI 3) by decide), if_pos rfl]; rfl, rfl⟩)
  ·
    refine x_tblIn C 88 dX_look_1 (by decide) (by decide) rfl (by decide) ?_
    refine x_aload_n C dX_look_88 rfl 0 rfl ?_
    refine x_get C fgX_31 0 rfl rfl dX_look_89 ?_
    refine x_get C fgX_164 1 rfl rfl dX_look_92 ?_
    exact x_iret C T .int rfl rfl dX_look_95 (⟨by unfold tc_look; rw [if_neg (show ¬ (nI 5 = nI 0) by decide), if_neg (show ¬ (nI 5 = nI 1) by decide), if_neg (show ¬ (nI 5 = nI 2) by decide), if_neg (show ¬ (nI 5 = nI 3) by decide), if_neg (show ¬ (nI 5 = nI 4) by decide), if_pos rfl]; rfl, rfl⟩)
  ·
    refine x_tblIn C 96 dX_look_1 (by decide) (by decide) rfl (by decide) ?_
    refine x_aload_n C dX_look_96 rfl 0 rfl ?_
    refine x_get C fgX_31 0 rfl rfl dX_look_97 ?_
    refine x_get C fgX_167 1 rfl rfl dX_look_100 ?_
    exact x_iret C T .int rfl rfl dX_look_103 (⟨by unfold tc_look; rw [if_neg (show ¬ (nI 6 = nI 0) by decide), if_neg (show ¬ (nI 6 = nI 1) by decide), if_neg (show ¬ (nI 6 = nI 2) by decide), if_neg (show ¬ (nI 6 = nI 3) by decide), if_neg (show ¬ (nI 6 = nI 4) by decide), if_neg (show ¬ (nI 6 = nI 5) by decide), if_pos rfl], rfl⟩)
  ·
    refine x_tblIn C 104 dX_look_1 (by decide) (by decide) rfl (by decide) ?_
    refine x_aload_n C dX_look_104 rfl 0 rfl ?_
    refine x_get C fgX_10 0 rfl rfl dX_look_105 ?_
    refine x_callV C (c_S_lastLength D a ca kn nu wo si de la le ro tm nd ((tc_RS_tm y1).1) (fun h => by obtain ⟨t, R, rfl⟩ := tc_RS_cons y1 h; obtain ⟨z1, z2, z3, z4, z5, z6, z7, z8, z9, z10, z11, z12⟩ := tc_top y1; omega)) kbX_170 kcX_170 [8, 9, 10, 11, 12, 13, 14, 15, 16] [0, 1, 2, 3, 4, 5, 6, 7] [4, 5, 6, 7, 8, 9, 10, 11] (tc_wX xx cxx (a 0) (o 0) (g 0) (r 0) ++ (tc_wR r cr (g 0) (a 0) wl wm wt nx ap fa pl ++ (tc_wB g cg gb gz ++ tc_wB o co ob oz))) rfl rfl (by decide) (by decide) (by decide) rfl 0 rfl rfl ⟨Nat.le_of_ble_eq_true rfl, Nat.le_of_ble_eq_true rfl⟩ ⟨Nat.le_of_ble_eq_true rfl, Nat.le_of_ble_eq_true rfl⟩ [] rfl rfl (Nat.le_of_ble_eq_true rfl) dX_look_108 (fun rv ru hw => ?_)
    rcases hw with ⟨rfl, rfl, g1⟩ | ⟨rfl, rfl, g1⟩
    ·
      show xk_Go K D 2 0 0 (tc_wX xx cxx (a 0) (o 0) (g 0) (r 0) ++ (tc_wR r cr (g 0) (a 0) wl wm wt nx ap fa pl ++ (tc_wB g cg gb gz ++ (tc_wB o co ob oz ++ tc_wS a ca kn nu wo si de la le ro tm nd)))) [(0, .ref (xx 0)), (1, .int (nI 7))] 111 [.int (xk_oI none)]
      exact x_iret C T .int rfl rfl dX_look_111 (⟨by unfold tc_look; rw [if_neg (show ¬ (nI 7 = nI 0) by decide), if_neg (show ¬ (nI 7 = nI 1) by decide), if_neg (show ¬ (nI 7 = nI 2) by decide), if_neg (show ¬ (nI 7 = nI 3) by decide), if_neg (show ¬ (nI 7 = nI 4) by decide), if_neg (show ¬ (nI 7 = nI 5) by decide), if_neg (show ¬ (nI 7 = nI 6) by decide), if_pos rfl]; rw [tc_RS_nil y1 g1]; rfl, rfl⟩)
    ·
      show xk_Go K D 2 0 0 (tc_wX xx cxx (a 0) (o 0) (g 0) (r 0) ++ (tc_wR r cr (g 0) (a 0) wl wm wt nx ap fa pl ++ (tc_wB g cg gb gz ++ (tc_wB o co ob oz ++ tc_wS a ca kn nu wo si de la le ro tm nd)))) [(0, .ref (xx 0)), (1, .int (nI 7))] 111 [.int (nI (le (ro (tm - 1))))]
      obtain ⟨t, R, rfl⟩ := tc_RS_cons y1 g1
      obtain ⟨z1, z2, z3, z4, z5, z6, z7, z8, z9, z10, z11, z12⟩ := tc_top y1
      exact x_iret C T .int rfl rfl dX_look_111 (⟨by unfold tc_look; rw [if_neg (show ¬ (nI 7 = nI 0) by decide), if_neg (show ¬ (nI 7 = nI 1) by decide), if_neg (show ¬ (nI 7 = nI 2) by decide), if_neg (show ¬ (nI 7 = nI 3) by decide), if_neg (show ¬ (nI 7 = nI 4) by decide), if_neg (show ¬ (nI 7 = nI 5) by decide), if_neg (show ¬ (nI 7 = nI 6) by decide), if_pos rfl]; show _ = some (Value.int (nI (tc_ln t))); rw [z2, z12], rfl⟩)
  ·
    refine x_tblOut C 112 dX_look_1 hw (by decide) ?_
    refine x_iconst (v := xk_oI none) C dX_look_112 (by decide) ?_
    exact x_iret C T .int rfl rfl dX_look_113 (⟨by rw [tc_look_no hw], rfl⟩)
set_option maxHeartbeats 4000000 in
set_option maxRecDepth 100000 in
/-- of -/
theorem c_X_of (D : va_G) (xx : Nat → Nat) (cxx : Nat → ClassId) (r : Nat → Nat) (cr : Nat → ClassId) (g : Nat → Nat) (cg : Nat → ClassId) (o : Nat → Nat) (co : Nat → ClassId) (a : Nat → Nat) (ca : Nat → ClassId) (wl : Nat → Nat) (wm : Nat → Nat) (wt : Nat) (nx : Nat) (ap : Nat) (fa : Nat) (pl : Option Nat) (gb : Nat → Nat) (gz : Nat) (ob : Nat → Nat) (oz : Nat) (kn : Nat → Nat) (nu : Nat → Int64) (wo : Nat → Int64) (si : Nat → Nat) (de : Nat → Nat) (la : Nat → Nat) (le : Nat → Nat) (ro : Nat → Nat) (tm : Nat) (nd : Nat) (k : Int32) (w : Int32) (Ts : List (List tc_Nd)) (y1 : tc_RS Ts (kn, nu, wo, si, de, la, le) ro tm nd) : xk_Ct yX_of cX_of 4 (some .int) { frames := 2, cells := 0, slots := 0, locals := 43 } D (tc_tX cxx ++ (tc_tR cr ++ (tc_tB cg ++ (tc_tB co ++ tc_tS ca)))) [.ref (xx 0), .int k, .int w] (tc_wX xx cxx (a 0) (o 0) (g 0) (r 0) ++ (tc_wR r cr (g 0) (a 0) wl wm wt nx ap fa pl ++ (tc_wB g cg gb gz ++ (tc_wB o co ob oz ++ tc_wS a ca kn nu wo si de la le ro tm nd)))) (fun rv ru => (rv = some (.int (xk_oI (tc_ofa Ts k w))) ∧ ru = tc_wX xx cxx (a 0) (o 0) (g 0) (r 0) ++ (tc_wR r cr (g 0) (a 0) wl wm wt nx ap fa pl ++ (tc_wB g cg gb gz ++ (tc_wB o co ob oz ++ tc_wS a ca kn nu wo si de la le ro tm nd))))) := by
  refine xk_enter (by decide) (Nat.le_of_ble_eq_true rfl) (fun K C T hin => ?_)
  show xk_Go K D 4 0 0 (tc_wX xx cxx (a 0) (o 0) (g 0) (r 0) ++ (tc_wR r cr (g 0) (a 0) wl wm wt nx ap fa pl ++ (tc_wB g cg gb gz ++ (tc_wB o co ob oz ++ tc_wS a ca kn nu wo si de la le ro tm nd)))) [(0, .ref (xx 0)), (1, .int k), (2, .int w)] 0 []
  refine x_aload_n C dX_of_0 rfl 0 rfl ?_
  refine x_get C fgX_10 0 rfl rfl dX_of_1 ?_
  refine x_iload_n C dX_of_4 rfl 1 rfl ?_
  refine x_callV C (c_S_find D a ca kn nu wo si de la le ro tm nd k ((tc_RS_tm y1).1) (fun h => by obtain ⟨t, R, rfl⟩ := tc_RS_cons y1 h; obtain ⟨z1, z2, z3, z4, z5, z6, z7, z8, z9, z10, z11, z12⟩ := tc_top y1; omega) (fun h => by obtain ⟨t, R, rfl⟩ := tc_RS_cons y1 h; obtain ⟨z1, z2, z3, z4, z5, z6, z7, z8, z9, z10, z11, z12⟩ := tc_top y1; rw [z2, z9]; omega)) kbX_124 kcX_124 [8, 9, 10, 11, 12, 13, 14, 15, 16] [0, 1, 2, 3, 4, 5, 6, 7] [4, 5, 6, 7, 8, 9, 10, 11] (tc_wX xx cxx (a 0) (o 0) (g 0) (r 0) ++ (tc_wR r cr (g 0) (a 0) wl wm wt nx ap fa pl ++ (tc_wB g cg gb gz ++ tc_wB o co ob oz))) rfl rfl (by decide) (by decide) (by decide) rfl 0 rfl rfl ⟨Nat.le_of_ble_eq_true rfl, Nat.le_of_ble_eq_true rfl⟩ ⟨Nat.le_of_ble_eq_true rfl, Nat.le_of_ble_eq_true rfl⟩ [] rfl rfl (Nat.le_of_ble_eq_true rfl) dX_of_5 (fun rv ru hw => ?_)
  rcases hw with ⟨rfl, rfl, g1⟩ | ⟨j, rfl, rfl, g1, g2, g3⟩
  ·
    show xk_Go K D 4 0 0 (tc_wX xx cxx (a 0) (o 0) (g 0) (r 0) ++ (tc_wR r cr (g 0) (a 0) wl wm wt nx ap fa pl ++ (tc_wB g cg gb gz ++ (tc_wB o co ob oz ++ tc_wS a ca kn nu wo si de la le ro tm nd)))) [(0, .ref (xx 0)), (1, .int k), (2, .int w)] 8 [.int (xk_oI none)]
    have hno : tc_nth Ts k = none := tc_nth_no y1 g1
    refine x_istore_n C [(3, .int (xk_oI none)), (0, .ref (xx 0)), (1, .int k), (2, .int w)] dX_of_8 rfl (by decide) rfl ?_
    refine x_iload_n C dX_of_9 rfl 0 rfl ?_
    refine x_if_ge (tgt := 15) C dX_of_10 (by decide) (fun h => absurd h (by decide)) (fun _ => ?_)
    refine x_iconst (v := xk_oI none) C dX_of_13 (by decide) ?_
    exact x_iret C T .int rfl rfl dX_of_14 (⟨by rw [tc_ofa_none hno], rfl⟩)
  ·
    show xk_Go K D 4 0 0 (tc_wX xx cxx (a 0) (o 0) (g 0) (r 0) ++ (tc_wR r cr (g 0) (a 0) wl wm wt nx ap fa pl ++ (tc_wB g cg gb gz ++ (tc_wB o co ob oz ++ tc_wS a ca kn nu wo si de la le ro tm nd)))) [(0, .ref (xx 0)), (1, .int k), (2, .int w)] 8 [.int (nI (ro (tm - 1) + j))]
    obtain ⟨t, R, rfl⟩ := tc_RS_cons y1 g3
    obtain ⟨z1, z2, z3, z4, z5, z6, z7, z8, z9, z10, z11, z12⟩ := tc_top y1
    subst g1
    rw [z2, z9] at g2
    have zt := y1.1 t List.mem_cons_self
    have hth : tc_nth (t :: R) (nI j) = some j := tc_nth_some g2 (by omega)
    obtain ⟨x, hxj⟩ : ∃ x, t[j]? = some x := ⟨_, List.getElem?_eq_getElem g2⟩
    have hxd := tc_drop1 hxj
    have hn := tc_at_k z8 hxj
    rw [← z2] at hn
    have hxo := zt.2.2 x (List.mem_of_getElem? hxj)
    have hx11 := hxo.1
    refine x_istore_n C [(3, .int (nI (ro (tm - 1) + j))), (0, .ref (xx 0)), (1, .int (nI j)), (2, .int w)] dX_of_8 rfl (by decide) rfl ?_
    refine x_iload_n C dX_of_9 rfl 0 rfl ?_
    refine x_if_geN (tgt := 15) C (by omega) dX_of_10 (by decide) ?_
    refine x_iload_n C dX_of_15 rfl 3 rfl ?_
    rcases tc_w6 w with rfl | rfl | rfl | rfl | rfl | rfl | hw
    ·
      refine x_tblIn C 56 dX_of_16 (by decide) (by decide) rfl (by decide) ?_
      refine x_aload_n C dX_of_56 rfl 1 rfl ?_
      refine x_get C fgX_10 0 rfl rfl dX_of_57 ?_
      refine x_get C fgX_128 8 rfl rfl dX_of_60 ?_
      refine x_iload_n C dX_of_63 rfl 0 rfl ?_
      refine x_ild C 9 4 rfl rfl (by omega) (by decide) dX_of_64 ?_
      show xk_Go K D 4 0 0 (tc_wX xx cxx (a 0) (o 0) (g 0) (r 0) ++ (tc_wR r cr (g 0) (a 0) wl wm wt nx ap fa pl ++ (tc_wB g cg gb gz ++ (tc_wB o co ob oz ++ tc_wS a ca kn nu wo si de la le ro tm nd)))) [(3, .int (nI (ro (tm - 1) + j))), (0, .ref (xx 0)), (1, .int (nI j)), (2, .int (nI 0))] 65 [.int (nI (kn (ro (tm - 1) + j)))]
      exact x_iret C T .int rfl rfl dX_of_65 (⟨by rw [tc_ofa_some hth hxd]; unfold tc_ofn; rw [if_pos rfl]; rw [hn.1]; rfl, rfl⟩)
    ·
      refine x_tblIn C 66 dX_of_16 (by decide) (by decide) rfl (by decide) ?_
      refine x_aload_n C dX_of_66 rfl 1 rfl ?_
      refine x_get C fgX_10 0 rfl rfl dX_of_67 ?_
      refine x_get C fgX_96 8 rfl rfl dX_of_70 ?_
      refine x_iload_n C dX_of_73 rfl 0 rfl ?_
      refine x_ild C 12 7 rfl rfl (by omega) (by decide) dX_of_74 ?_
      show xk_Go K D 4 0 0 (tc_wX xx cxx (a 0) (o 0) (g 0) (r 0) ++ (tc_wR r cr (g 0) (a 0) wl wm wt nx ap fa pl ++ (tc_wB g cg gb gz ++ (tc_wB o co ob oz ++ tc_wS a ca kn nu wo si de la le ro tm nd)))) [(3, .int (nI (ro (tm - 1) + j))), (0, .ref (xx 0)), (1, .int (nI j)), (2, .int (nI 1))] 75 [.int (nI (si (ro (tm - 1) + j)))]
      exact x_iret C T .int rfl rfl dX_of_75 (⟨by rw [tc_ofa_some hth hxd]; unfold tc_ofn; rw [if_neg (show ¬ (nI 1 = nI 0) by decide), if_pos rfl]; rw [hn.2.2.2.1]; rfl, rfl⟩)
    ·
      refine x_tblIn C 76 dX_of_16 (by decide) (by decide) rfl (by decide) ?_
      refine x_aload_n C dX_of_76 rfl 1 rfl ?_
      refine x_get C fgX_10 0 rfl rfl dX_of_77 ?_
      refine x_get C fgX_131 8 rfl rfl dX_of_80 ?_
      refine x_iload_n C dX_of_83 rfl 0 rfl ?_
      refine x_ild C 13 8 rfl rfl (by omega) (by decide) dX_of_84 ?_
      show xk_Go K D 4 0 0 (tc_wX xx cxx (a 0) (o 0) (g 0) (r 0) ++ (tc_wR r cr (g 0) (a 0) wl wm wt nx ap fa pl ++ (tc_wB g cg gb gz ++ (tc_wB o co ob oz ++ tc_wS a ca kn nu wo si de la le ro tm nd)))) [(3, .int (nI (ro (tm - 1) + j))), (0, .ref (xx 0)), (1, .int (nI j)), (2, .int (nI 2))] 85 [.int (nI (de (ro (tm - 1) + j)))]
      exact x_iret C T .int rfl rfl dX_of_85 (⟨by rw [tc_ofa_some hth hxd]; unfold tc_ofn; rw [if_neg (show ¬ (nI 2 = nI 0) by decide), if_neg (show ¬ (nI 2 = nI 1) by decide), if_pos rfl]; rw [hn.2.2.2.2.1]; rfl, rfl⟩)
    ·
      refine x_tblIn C 86 dX_of_16 (by decide) (by decide) rfl (by decide) ?_
      refine x_aload_n C dX_of_86 rfl 1 rfl ?_
      refine x_get C fgX_10 0 rfl rfl dX_of_87 ?_
      refine x_get C fgX_134 8 rfl rfl dX_of_90 ?_
      refine x_iload_n C dX_of_93 rfl 0 rfl ?_
      refine x_ild C 14 9 rfl rfl (by omega) (by decide) dX_of_94 ?_
      show xk_Go K D 4 0 0 (tc_wX xx cxx (a 0) (o 0) (g 0) (r 0) ++ (tc_wR r cr (g 0) (a 0) wl wm wt nx ap fa pl ++ (tc_wB g cg gb gz ++ (tc_wB o co ob oz ++ tc_wS a ca kn nu wo si de la le ro tm nd)))) [(3, .int (nI (ro (tm - 1) + j))), (0, .ref (xx 0)), (1, .int (nI j)), (2, .int (nI 3))] 95 [.int (nI (la (ro (tm - 1) + j)))]
      exact x_iret C T .int rfl rfl dX_of_95 (⟨by rw [tc_ofa_some hth hxd]; unfold tc_ofn; rw [if_neg (show ¬ (nI 3 = nI 0) by decide), if_neg (show ¬ (nI 3 = nI 1) by decide), if_neg (show ¬ (nI 3 = nI 2) by decide), if_pos rfl]; rw [hn.2.2.2.2.2.1]; rfl, rfl⟩)
    ·
      refine x_tblIn C 96 dX_of_16 (by decide) (by decide) rfl (by decide) ?_
      refine x_aload_n C dX_of_96 rfl 1 rfl ?_
      refine x_get C fgX_10 0 rfl rfl dX_of_97 ?_
      refine x_iload_n C dX_of_100 rfl 2 rfl ?_
      refine x_callV C (c_S_parentOf D a ca kn nu wo si de la le ro tm nd j ((tc_RS_tm y1).1) (by omega) (by omega) (fun i hi => by have hs := tc_sib z8 (show i < t.length by omega); rw [z2, hs]; have := tc_sz_le (L := t.drop i); rw [List.length_drop] at this; omega)) kbX_137 kcX_137 [8, 9, 10, 11, 12, 13, 14, 15, 16] [0, 1, 2, 3, 4, 5, 6, 7] [4, 5, 6, 7, 8, 9, 10, 11] (tc_wX xx cxx (a 0) (o 0) (g 0) (r 0) ++ (tc_wR r cr (g 0) (a 0) wl wm wt nx ap fa pl ++ (tc_wB g cg gb gz ++ tc_wB o co ob oz))) rfl rfl (by decide) (by decide) (by decide) rfl 0 rfl rfl ⟨Nat.le_of_ble_eq_true rfl, Nat.le_of_ble_eq_true rfl⟩ ⟨Nat.le_of_ble_eq_true rfl, Nat.le_of_ble_eq_true rfl⟩ [] rfl rfl (Nat.le_of_ble_eq_true rfl) dX_of_101 (fun rv ru hw => ?_)
      rcases hw with ⟨jp, rfl, rfl, g1p, g2p, g3p⟩ | ⟨rfl, rfl, g1p⟩
      ·
        show xk_Go K D 4 0 0 (tc_wX xx cxx (a 0) (o 0) (g 0) (r 0) ++ (tc_wR r cr (g 0) (a 0) wl wm wt nx ap fa pl ++ (tc_wB g cg gb gz ++ (tc_wB o co ob oz ++ tc_wS a ca kn nu wo si de la le ro tm nd)))) [(3, .int (nI (ro (tm - 1) + j))), (0, .ref (xx 0)), (1, .int (nI j)), (2, .int (nI 4))] 104 [.int (nI jp)]
        exact x_iret C T .int rfl rfl dX_of_104 (⟨by rw [tc_ofa_some hth hxd]; unfold tc_ofn; rw [if_neg (show ¬ (nI 4 = nI 0) by decide), if_neg (show ¬ (nI 4 = nI 1) by decide), if_neg (show ¬ (nI 4 = nI 2) by decide), if_neg (show ¬ (nI 4 = nI 3) by decide), if_pos rfl]; rw [tc_par_is zt.1 g2 g1p (by have hs := tc_sib z8 (show jp < t.length by omega); rw [z2, hs] at g2p; exact g2p) (fun i h1 h2 => by have hs := tc_sib z8 (show i < t.length by omega); have := g3p i h1 h2; rw [z2, hs] at this; exact this)]; rfl, rfl⟩)
      ·
        show xk_Go K D 4 0 0 (tc_wX xx cxx (a 0) (o 0) (g 0) (r 0) ++ (tc_wR r cr (g 0) (a 0) wl wm wt nx ap fa pl ++ (tc_wB g cg gb gz ++ (tc_wB o co ob oz ++ tc_wS a ca kn nu wo si de la le ro tm nd)))) [(3, .int (nI (ro (tm - 1) + j))), (0, .ref (xx 0)), (1, .int (nI j)), (2, .int (nI 4))] 104 [.int (xk_oI none)]
        exact x_iret C T .int rfl rfl dX_of_104 (⟨by rw [tc_ofa_some hth hxd]; unfold tc_ofn; rw [if_neg (show ¬ (nI 4 = nI 0) by decide), if_neg (show ¬ (nI 4 = nI 1) by decide), if_neg (show ¬ (nI 4 = nI 2) by decide), if_neg (show ¬ (nI 4 = nI 3) by decide), if_pos rfl]; rw [tc_par_no zt.1 g2 (fun i h1 => by have hs := tc_sib z8 (show i < t.length by omega); have := g1p i h1; rw [z2, hs] at this; exact this)], rfl⟩)
    ·
      refine x_tblIn C 105 dX_of_16 (by decide) (by decide) rfl (by decide) ?_
      refine x_aload_n C dX_of_105 rfl 1 rfl ?_
      refine x_get C fgX_10 0 rfl rfl dX_of_106 ?_
      refine x_iload_n C dX_of_109 rfl 0 rfl ?_
      refine x_callV C (c_S_byteCount D a ca kn nu wo si de la le ro tm nd (ro (tm - 1) + j) x.2.2.length (by omega) (by rw [hn.1]; omega) (fun q => by rw [hn.2.1]; exact hxo.2.2.1 (hn.1 ▸ q))) kbX_140 kcX_140 [8, 9, 10, 11, 12, 13, 14, 15, 16] [0, 1, 2, 3, 4, 5, 6, 7] [4, 5, 6, 7, 8, 9, 10, 11] (tc_wX xx cxx (a 0) (o 0) (g 0) (r 0) ++ (tc_wR r cr (g 0) (a 0) wl wm wt nx ap fa pl ++ (tc_wB g cg gb gz ++ tc_wB o co ob oz))) rfl rfl (by decide) (by decide) (by decide) rfl 0 rfl rfl ⟨Nat.le_of_ble_eq_true rfl, Nat.le_of_ble_eq_true rfl⟩ ⟨Nat.le_of_ble_eq_true rfl, Nat.le_of_ble_eq_true rfl⟩ [] rfl rfl (Nat.le_of_ble_eq_true rfl) dX_of_110 (fun rv ru hw => ?_)
      rcases hw with ⟨rfl, rfl, g1c⟩ | ⟨rfl, rfl, g1c⟩
      ·
        show xk_Go K D 4 0 0 (tc_wX xx cxx (a 0) (o 0) (g 0) (r 0) ++ (tc_wR r cr (g 0) (a 0) wl wm wt nx ap fa pl ++ (tc_wB g cg gb gz ++ (tc_wB o co ob oz ++ tc_wS a ca kn nu wo si de la le ro tm nd)))) [(3, .int (nI (ro (tm - 1) + j))), (0, .ref (xx 0)), (1, .int (nI j)), (2, .int (nI 5))] 113 [.int (nI x.2.2.length)]
        exact x_iret C T .int rfl rfl dX_of_113 (⟨by rw [tc_ofa_some hth hxd]; unfold tc_ofn; rw [if_neg (show ¬ (nI 5 = nI 0) by decide), if_neg (show ¬ (nI 5 = nI 1) by decide), if_neg (show ¬ (nI 5 = nI 2) by decide), if_neg (show ¬ (nI 5 = nI 3) by decide), if_neg (show ¬ (nI 5 = nI 4) by decide), if_pos rfl]; rw [if_pos (hn.1 ▸ g1c)]; rfl, rfl⟩)
      ·
        show xk_Go K D 4 0 0 (tc_wX xx cxx (a 0) (o 0) (g 0) (r 0) ++ (tc_wR r cr (g 0) (a 0) wl wm wt nx ap fa pl ++ (tc_wB g cg gb gz ++ (tc_wB o co ob oz ++ tc_wS a ca kn nu wo si de la le ro tm nd)))) [(3, .int (nI (ro (tm - 1) + j))), (0, .ref (xx 0)), (1, .int (nI j)), (2, .int (nI 5))] 113 [.int (xk_oI none)]
        exact x_iret C T .int rfl rfl dX_of_113 (⟨by rw [tc_ofa_some hth hxd]; unfold tc_ofn; rw [if_neg (show ¬ (nI 5 = nI 0) by decide), if_neg (show ¬ (nI 5 = nI 1) by decide), if_neg (show ¬ (nI 5 = nI 2) by decide), if_neg (show ¬ (nI 5 = nI 3) by decide), if_neg (show ¬ (nI 5 = nI 4) by decide), if_pos rfl]; rw [if_neg (hn.1 ▸ g1c)], rfl⟩)
    ·
      refine x_tblOut C 114 dX_of_16 hw (by decide) ?_
      refine x_iconst (v := xk_oI none) C dX_of_114 (by decide) ?_
      exact x_iret C T .int rfl rfl dX_of_115 (⟨by rw [tc_ofa_some hth hxd, tc_ofn_no hw], rfl⟩)
set_option maxHeartbeats 4000000 in
set_option maxRecDepth 100000 in
/-- byteAt -/
theorem c_X_byteAt (D : va_G) (xx : Nat → Nat) (cxx : Nat → ClassId) (r : Nat → Nat) (cr : Nat → ClassId) (g : Nat → Nat) (cg : Nat → ClassId) (o : Nat → Nat) (co : Nat → ClassId) (a : Nat → Nat) (ca : Nat → ClassId) (wl : Nat → Nat) (wm : Nat → Nat) (wt : Nat) (nx : Nat) (ap : Nat) (fa : Nat) (pl : Option Nat) (gb : Nat → Nat) (gz : Nat) (ob : Nat → Nat) (oz : Nat) (kn : Nat → Nat) (nu : Nat → Int64) (wo : Nat → Int64) (si : Nat → Nat) (de : Nat → Nat) (la : Nat → Nat) (le : Nat → Nat) (ro : Nat → Nat) (tm : Nat) (nd : Nat) (k : Int32) (jj : Int32) (Ts : List (List tc_Nd)) (y1 : tc_RS Ts (kn, nu, wo, si, de, la, le) ro tm nd) : xk_Ct yX_byteAt cX_byteAt 4 (some .int) { frames := 2, cells := 0, slots := 0, locals := 44 } D (tc_tX cxx ++ (tc_tR cr ++ (tc_tB cg ++ (tc_tB co ++ tc_tS ca)))) [.ref (xx 0), .int k, .int jj] (tc_wX xx cxx (a 0) (o 0) (g 0) (r 0) ++ (tc_wR r cr (g 0) (a 0) wl wm wt nx ap fa pl ++ (tc_wB g cg gb gz ++ (tc_wB o co ob oz ++ tc_wS a ca kn nu wo si de la le ro tm nd)))) (fun rv ru => (rv = some (.int (xk_oI (tc_bta Ts k jj))) ∧ ru = tc_wX xx cxx (a 0) (o 0) (g 0) (r 0) ++ (tc_wR r cr (g 0) (a 0) wl wm wt nx ap fa pl ++ (tc_wB g cg gb gz ++ (tc_wB o co ob oz ++ tc_wS a ca kn nu wo si de la le ro tm nd))))) := by
  refine xk_enter (by decide) (Nat.le_of_ble_eq_true rfl) (fun K C T hin => ?_)
  show xk_Go K D 4 0 0 (tc_wX xx cxx (a 0) (o 0) (g 0) (r 0) ++ (tc_wR r cr (g 0) (a 0) wl wm wt nx ap fa pl ++ (tc_wB g cg gb gz ++ (tc_wB o co ob oz ++ tc_wS a ca kn nu wo si de la le ro tm nd)))) [(0, .ref (xx 0)), (1, .int k), (2, .int jj)] 0 []
  refine x_aload_n C dX_byteAt_0 rfl 0 rfl ?_
  refine x_get C fgX_10 0 rfl rfl dX_byteAt_1 ?_
  refine x_iload_n C dX_byteAt_4 rfl 1 rfl ?_
  refine x_callV C (c_S_find D a ca kn nu wo si de la le ro tm nd k ((tc_RS_tm y1).1) (fun h => by obtain ⟨t, R, rfl⟩ := tc_RS_cons y1 h; obtain ⟨z1, z2, z3, z4, z5, z6, z7, z8, z9, z10, z11, z12⟩ := tc_top y1; omega) (fun h => by obtain ⟨t, R, rfl⟩ := tc_RS_cons y1 h; obtain ⟨z1, z2, z3, z4, z5, z6, z7, z8, z9, z10, z11, z12⟩ := tc_top y1; rw [z2, z9]; omega)) kbX_124 kcX_124 [8, 9, 10, 11, 12, 13, 14, 15, 16] [0, 1, 2, 3, 4, 5, 6, 7] [4, 5, 6, 7, 8, 9, 10, 11] (tc_wX xx cxx (a 0) (o 0) (g 0) (r 0) ++ (tc_wR r cr (g 0) (a 0) wl wm wt nx ap fa pl ++ (tc_wB g cg gb gz ++ tc_wB o co ob oz))) rfl rfl (by decide) (by decide) (by decide) rfl 0 rfl rfl ⟨Nat.le_of_ble_eq_true rfl, Nat.le_of_ble_eq_true rfl⟩ ⟨Nat.le_of_ble_eq_true rfl, Nat.le_of_ble_eq_true rfl⟩ [] rfl rfl (Nat.le_of_ble_eq_true rfl) dX_byteAt_5 (fun rv ru hw => ?_)
  rcases hw with ⟨rfl, rfl, g1⟩ | ⟨j, rfl, rfl, g1, g2, g3⟩
  ·
    show xk_Go K D 4 0 0 (tc_wX xx cxx (a 0) (o 0) (g 0) (r 0) ++ (tc_wR r cr (g 0) (a 0) wl wm wt nx ap fa pl ++ (tc_wB g cg gb gz ++ (tc_wB o co ob oz ++ tc_wS a ca kn nu wo si de la le ro tm nd)))) [(0, .ref (xx 0)), (1, .int k), (2, .int jj)] 8 [.int (xk_oI none)]
    have hno : tc_nth Ts k = none := tc_nth_no y1 g1
    refine x_istore_n C [(3, .int (xk_oI none)), (0, .ref (xx 0)), (1, .int k), (2, .int jj)] dX_byteAt_8 rfl (by decide) rfl ?_
    refine x_iload_n C dX_byteAt_9 rfl 0 rfl ?_
    refine x_if_lt (tgt := 29) C dX_byteAt_10 (by decide) (fun _ => ?_) (fun h => absurd (by decide) h)
    refine x_iconst (v := xk_oI none) C dX_byteAt_29 (by decide) ?_
    exact x_iret C T .int rfl rfl dX_byteAt_30 (⟨by rw [tc_bta_none hno], rfl⟩)
  ·
    show xk_Go K D 4 0 0 (tc_wX xx cxx (a 0) (o 0) (g 0) (r 0) ++ (tc_wR r cr (g 0) (a 0) wl wm wt nx ap fa pl ++ (tc_wB g cg gb gz ++ (tc_wB o co ob oz ++ tc_wS a ca kn nu wo si de la le ro tm nd)))) [(0, .ref (xx 0)), (1, .int k), (2, .int jj)] 8 [.int (nI (ro (tm - 1) + j))]
    obtain ⟨t, R, rfl⟩ := tc_RS_cons y1 g3
    obtain ⟨z1, z2, z3, z4, z5, z6, z7, z8, z9, z10, z11, z12⟩ := tc_top y1
    subst g1
    rw [z2, z9] at g2
    have zt := y1.1 t List.mem_cons_self
    have hth : tc_nth (t :: R) (nI j) = some j := tc_nth_some g2 (by omega)
    obtain ⟨x, hxj⟩ : ∃ x, t[j]? = some x := ⟨_, List.getElem?_eq_getElem g2⟩
    have hxd := tc_drop1 hxj
    have hn := tc_at_k z8 hxj
    rw [← z2] at hn
    have hxo := zt.2.2 x (List.mem_of_getElem? hxj)
    have hx11 := hxo.1
    have h64 := hxo.2.2.2.2.1
    refine x_istore_n C [(3, .int (nI (ro (tm - 1) + j))), (0, .ref (xx 0)), (1, .int (nI j)), (2, .int jj)] dX_byteAt_8 rfl (by decide) rfl ?_
    refine x_iload_n C dX_byteAt_9 rfl 0 rfl ?_
    refine x_if_ltN (tgt := 29) C (by omega) dX_byteAt_10 (by decide) ?_
    refine x_iload_n C dX_byteAt_13 rfl 3 rfl ?_
    refine x_if_lt (tgt := 29) C dX_byteAt_14 (by decide) (fun h14 => ?_) (fun h14 => ?_)
    ·
      refine x_iconst (v := xk_oI none) C dX_byteAt_29 (by decide) ?_
      exact x_iret C T .int rfl rfl dX_byteAt_30 (⟨by rw [tc_bta_some hth hxj, if_neg (by rw [Int32.lt_iff_toInt_lt, Int32.toInt_zero] at h14; omega)], rfl⟩)
    ·
      obtain ⟨q, hq, rfl⟩ := nI_of h14
      refine x_iload_n C dX_byteAt_17 rfl 3 rfl ?_
      refine x_aload_n C dX_byteAt_18 rfl 1 rfl ?_
      refine x_get C fgX_10 0 rfl rfl dX_byteAt_19 ?_
      refine x_iload_n C dX_byteAt_22 rfl 0 rfl ?_
      refine x_callV C (c_S_byteCount D a ca kn nu wo si de la le ro tm nd (ro (tm - 1) + j) x.2.2.length (by omega) (by rw [hn.1]; omega) (fun q => by rw [hn.2.1]; exact hxo.2.2.1 (hn.1 ▸ q))) kbX_140 kcX_140 [8, 9, 10, 11, 12, 13, 14, 15, 16] [0, 1, 2, 3, 4, 5, 6, 7] [4, 5, 6, 7, 8, 9, 10, 11] (tc_wX xx cxx (a 0) (o 0) (g 0) (r 0) ++ (tc_wR r cr (g 0) (a 0) wl wm wt nx ap fa pl ++ (tc_wB g cg gb gz ++ tc_wB o co ob oz))) rfl rfl (by decide) (by decide) (by decide) rfl 0 rfl rfl ⟨Nat.le_of_ble_eq_true rfl, Nat.le_of_ble_eq_true rfl⟩ ⟨Nat.le_of_ble_eq_true rfl, Nat.le_of_ble_eq_true rfl⟩ [.int (nI q)] rfl rfl (Nat.le_of_ble_eq_true rfl) dX_byteAt_23 (fun rv ru hw => ?_)
      rcases hw with ⟨rfl, rfl, g1c⟩ | ⟨rfl, rfl, g1c⟩
      ·
        show xk_Go K D 4 0 0 (tc_wX xx cxx (a 0) (o 0) (g 0) (r 0) ++ (tc_wR r cr (g 0) (a 0) wl wm wt nx ap fa pl ++ (tc_wB g cg gb gz ++ (tc_wB o co ob oz ++ tc_wS a ca kn nu wo si de la le ro tm nd)))) [(3, .int (nI (ro (tm - 1) + j))), (0, .ref (xx 0)), (1, .int (nI j)), (2, .int (nI q))] 26 [.int (nI x.2.2.length), .int (nI q)]
        refine x_icmp_ltN (tgt := 31) C (by omega) (by omega) dX_byteAt_26 (by decide) (fun h26 => ?_) (fun h26 => ?_)
        ·
          refine x_aload_n C dX_byteAt_31 rfl 1 rfl ?_
          refine x_get C fgX_10 0 rfl rfl dX_byteAt_32 ?_
          refine x_iload_n C dX_byteAt_35 rfl 0 rfl ?_
          refine x_iload_n C dX_byteAt_36 rfl 3 rfl ?_
          refine x_callV C (c_S_byteIn D a ca kn nu wo si de la le ro tm nd (ro (tm - 1) + j) q (by omega) (by omega)) kbX_152 kcX_152 [8, 9, 10, 11, 12, 13, 14, 15, 16] [0, 1, 2, 3, 4, 5, 6, 7] [4, 5, 6, 7, 8, 9, 10, 11] (tc_wX xx cxx (a 0) (o 0) (g 0) (r 0) ++ (tc_wR r cr (g 0) (a 0) wl wm wt nx ap fa pl ++ (tc_wB g cg gb gz ++ tc_wB o co ob oz))) rfl rfl (by decide) (by decide) (by decide) rfl 0 rfl rfl ⟨Nat.le_of_ble_eq_true rfl, Nat.le_of_ble_eq_true rfl⟩ ⟨Nat.le_of_ble_eq_true rfl, Nat.le_of_ble_eq_true rfl⟩ [] rfl rfl (Nat.le_of_ble_eq_true rfl) dX_byteAt_37 (fun rv ru hw => ?_)
          obtain ⟨rfl, rfl⟩ := hw
          show xk_Go K D 4 0 0 (tc_wX xx cxx (a 0) (o 0) (g 0) (r 0) ++ (tc_wR r cr (g 0) (a 0) wl wm wt nx ap fa pl ++ (tc_wB g cg gb gz ++ (tc_wB o co ob oz ++ tc_wS a ca kn nu wo si de la le ro tm nd)))) [(3, .int (nI (ro (tm - 1) + j))), (0, .ref (xx 0)), (1, .int (nI j)), (2, .int (nI q))] 40 [.int (nI (tc_wb wo (ro (tm - 1) + j) q))]
          obtain ⟨b, hb⟩ : ∃ b, x.2.2[q]? = some b := ⟨_, List.getElem?_eq_getElem (by omega)⟩
          exact x_iret C T .int rfl rfl dX_byteAt_40 (⟨by rw [tc_bta_some hth hxj, nI_toInt hq, if_pos (by omega), Int.toNat_natCast, hb, hn.2.2.1 q b hb]; rfl, rfl⟩)
        ·
          refine x_iconst (v := xk_oI none) C dX_byteAt_29 (by decide) ?_
          exact x_iret C T .int rfl rfl dX_byteAt_30 (⟨by rw [tc_bta_some hth hxj, nI_toInt hq, if_pos (by omega), Int.toNat_natCast, List.getElem?_eq_none (by omega)], rfl⟩)
      ·
        show xk_Go K D 4 0 0 (tc_wX xx cxx (a 0) (o 0) (g 0) (r 0) ++ (tc_wR r cr (g 0) (a 0) wl wm wt nx ap fa pl ++ (tc_wB g cg gb gz ++ (tc_wB o co ob oz ++ tc_wS a ca kn nu wo si de la le ro tm nd)))) [(3, .int (nI (ro (tm - 1) + j))), (0, .ref (xx 0)), (1, .int (nI j)), (2, .int (nI q))] 26 [.int (xk_oI none), .int (nI q)]
        refine x_icmp_lt (tgt := 31) C dX_byteAt_26 (by decide) (fun h => absurd h (xk_none_nlt (by omega))) (fun _ => ?_)
        refine x_iconst (v := xk_oI none) C dX_byteAt_29 (by decide) ?_
        exact x_iret C T .int rfl rfl dX_byteAt_30 (⟨by rw [tc_bta_some hth hxj, nI_toInt hq, if_pos (by omega), Int.toNat_natCast, hxo.2.2.2.1 (hn.1 ▸ g1c)]; rfl, rfl⟩)
end
section
/-! PURE 15: reading, as it is to be: B the bytes, n how many there are, p the place. A fault is (its number, its place). -/
/-- groups of seven bits from p on, m at most: their value, how many, the last byte (128: none ended them), whether the end was met -/
def tc_scan (B : Nat → Nat) (n : Nat) : Nat → Nat → Nat → Nat → Nat × Nat × Nat × Bool
  | 0, _, v, k => (v, k, 128, false)
  | m + 1, p, v, k => if n ≤ p then (v, k + 1, 0, true) else if B p < 128 then (v + B p * 2 ^ (7 * k), k + 1, B p, false) else tc_scan B n m (p + 1) (v + (B p % 128) * 2 ^ (7 * k)) (k + 1)
abbrev tc_Rs (α : Type) : Type := (Nat × Nat) ⊕ (α × Nat)
def tc_rU (B : Nat → Nat) (n p : Nat) : tc_Rs Int64 := match tc_scan B n 5 p 0 0 with
  | (v, k, b, e) => if e = true then .inl (1, n) else if 128 ≤ b ∨ 2147483647 < v ∨ tc_gU v ≠ k then .inl (2, p + k - 1) else .inr (lN v, p + k)
def tc_sgn (v k b : Nat) : Int64 := if k < 10 ∧ 64 ≤ b then lN v ||| ((-1 : Int64) <<< ((nI (7 * k)).toInt64 &&& 63)) else lN v
def tc_rS (B : Nat → Nat) (n p : Nat) : tc_Rs Int64 := match tc_scan B n 10 p 0 0 with
  | (v, k, b, e) => if e = true then .inl (1, n) else if 128 ≤ b ∨ (k = 10 ∧ ¬ b = 0 ∧ ¬ b = 127) ∨ tc_gS (tc_sgn v k b).toInt ≠ k then .inl (2, p + k - 1) else .inr (tc_sgn v k b, p + k)
def tc_rB (B : Nat → Nat) (n p : Nat) : tc_Rs Int64 := if n ≤ p then .inl (1, n) else .inr (lN (B p), p + 1)
def tc_rV (B : Nat → Nat) (n k p : Nat) : tc_Rs Int64 := if k = 0 then tc_rU B n p else if k = 7 then tc_rS B n p else if k = 6 ∨ k = 8 ∨ k = 9 then tc_rB B n p else .inr (0, p)
def tc_seg (B : Nat → Nat) (p m : Nat) : List Nat := (List.range m).map (fun j => B (p + j))
/-- the rest of a node of kind k, from p on: p0 is the place of its kind, m the lambdas around it -/
noncomputable def tc_rE (B : Nat → Nat) (n k p0 m p : Nat) : tc_Rs tc_Nd := match tc_rV B n k p with
  | .inl e => .inl e
  | .inr (x, q) => if tc_fit k x = false then .inl (3, q - 1) else if k = 0 ∧ m < x.toInt.toNat then .inl (4, p0) else if k = 8 then (if q + x.toInt.toNat ≤ n then .inr ((8, x, tc_seg B q x.toInt.toNat), q + x.toInt.toNat) else .inl (1, n)) else .inr ((k, x, []), q)
/-- a node at p: l its level, m the lambdas around it, i the nodes that there are -/
noncomputable def tc_rN (B : Nat → Nat) (n p l m i : Nat) : tc_Rs tc_Nd := if n ≤ p then .inl (1, n) else if 11 < B p then .inl (3, p) else if 60 < l then .inl (5, p) else if 200 ≤ i then .inl (6, p) else tc_rE B n (B p) p m (p + 1)
/-- nodes for all open places -/
noncomputable def tc_rL (B : Nat → Nat) (n nd : Nat) : Nat → Nat → List tc_Q → List tc_Nd → tc_Rs (List tc_Nd)
  | 0, p, _, L => .inr (L, p)
  | _ + 1, p, [], L => .inr (L, p)
  | f + 1, p, q :: st, L => match tc_rN B n p q.2.1 q.2.2 (nd + L.length) with
    | .inl e => .inl e
    | .inr (x, p') => tc_rL B n nd f p' (tc_kid L.length x q ++ st) (L ++ [x])
noncomputable def tc_rT (B : Nat → Nat) (n nd p : Nat) : tc_Rs (List tc_Nd) := tc_rL B n nd 202 p [tc_q0] []
theorem tc_or_add {v g s : Nat} (h : v < 2 ^ s) : lN v ||| lN (g * 2 ^ s) = lN (v + g * 2 ^ s) := by
  have h1 : lN v ||| lN (g * 2 ^ s) = lN (v ||| g * 2 ^ s) := by
    apply wb_inj
    rw [Int64.toBitVec_or, wb_tb, wb_tb, wb_tb, BitVec.ofNat_or]
  rw [h1]
  congr 1
  rw [Nat.or_comm, Nat.mul_comm, ← Nat.two_pow_add_eq_or_of_lt h]
  omega
theorem tc_grp_or {v g k : Nat} (hk : k ≤ 9) (h : v < 2 ^ (7 * k)) : lN v ||| (lN g <<< ((nI (7 * k)).toInt64 &&& 63)) = lN (v + g * 2 ^ (7 * k)) := by
  rw [wb_shl g (by omega), tc_or_add h]
theorem tc_grp_lt {v g k : Nat} (h : v < 2 ^ (7 * k)) (hg : g < 128) : v + g * 2 ^ (7 * k) < 2 ^ (7 * (k + 1)) := by
  have e : 2 ^ (7 * (k + 1)) = 128 * 2 ^ (7 * k) := by
    rw [show 7 * (k + 1) = 7 + 7 * k by omega, Nat.pow_add]
  rw [e]
  have : g * 2 ^ (7 * k) ≤ 127 * 2 ^ (7 * k) := Nat.mul_le_mul_right _ (by omega)
  omega
theorem tc_p35 {v k : Nat} (h : v < 2 ^ (7 * k)) (hk : k ≤ 5) : v < 34359738368 := Nat.lt_of_lt_of_le h (show 2 ^ (7 * k) ≤ 2 ^ 35 from Nat.pow_le_pow_right (by decide) (by omega))
theorem tc_scan_e {B : Nat → Nat} {n m p v k : Nat} (h : n ≤ p) : tc_scan B n (m + 1) p v k = (v, k + 1, 0, true) := if_pos h
theorem tc_scan_l {B : Nat → Nat} {n m p v k : Nat} (h : ¬ n ≤ p) (hb : B p < 128) : tc_scan B n (m + 1) p v k = (v + B p * 2 ^ (7 * k), k + 1, B p, false) := by
  show (if _ then _ else _) = _
  rw [if_neg h, if_pos hb]
theorem tc_scan_m {B : Nat → Nat} {n m p v k : Nat} (h : ¬ n ≤ p) (hb : ¬ B p < 128) : tc_scan B n (m + 1) p v k = tc_scan B n m (p + 1) (v + (B p % 128) * 2 ^ (7 * k)) (k + 1) := by
  show (if _ then _ else _) = _
  rw [if_neg h, if_neg hb]
theorem tc_and127N {b : Nat} (h : b < 2 ^ 31) : nI b &&& nI 127 = nI (b % 128) := pk_andN (by omega) 7 (by decide)
theorem tc_rU_e {B : Nat → Nat} {n p v k b : Nat} (h : tc_scan B n 5 p 0 0 = (v, k, b, true)) : tc_rU B n p = .inl (1, n) := by
  unfold tc_rU
  rw [h]
  rfl
theorem tc_rU_f {B : Nat → Nat} {n p v k b : Nat} (h : tc_scan B n 5 p 0 0 = (v, k, b, false)) (hb : 128 ≤ b ∨ 2147483647 < v ∨ tc_gU v ≠ k) : tc_rU B n p = .inl (2, p + k - 1) := by
  unfold tc_rU
  rw [h]
  show (if _ then _ else if _ then _ else _) = _
  rw [if_neg (by decide), if_pos hb]
theorem tc_rU_o {B : Nat → Nat} {n p v k b : Nat} (h : tc_scan B n 5 p 0 0 = (v, k, b, false)) (hb : ¬ (128 ≤ b ∨ 2147483647 < v ∨ tc_gU v ≠ k)) : tc_rU B n p = .inr (lN v, p + k) := by
  unfold tc_rU
  rw [h]
  show (if _ then _ else if _ then _ else _) = _
  rw [if_neg (by decide), if_neg hb]
theorem tc_rS_e {B : Nat → Nat} {n p v k b : Nat} (h : tc_scan B n 10 p 0 0 = (v, k, b, true)) : tc_rS B n p = .inl (1, n) := by
  unfold tc_rS
  rw [h]
  rfl
theorem tc_rS_f {B : Nat → Nat} {n p v k b : Nat} (h : tc_scan B n 10 p 0 0 = (v, k, b, false)) (hb : 128 ≤ b ∨ (k = 10 ∧ ¬ b = 0 ∧ ¬ b = 127) ∨ tc_gS (tc_sgn v k b).toInt ≠ k) : tc_rS B n p = .inl (2, p + k - 1) := by
  unfold tc_rS
  rw [h]
  show (if _ then _ else if _ then _ else _) = _
  rw [if_neg (by decide), if_pos hb]
theorem tc_rS_o {B : Nat → Nat} {n p v k b : Nat} (h : tc_scan B n 10 p 0 0 = (v, k, b, false)) (hb : ¬ (128 ≤ b ∨ (k = 10 ∧ ¬ b = 0 ∧ ¬ b = 127) ∨ tc_gS (tc_sgn v k b).toInt ≠ k)) : tc_rS B n p = .inr (tc_sgn v k b, p + k) := by
  unfold tc_rS
  rw [h]
  show (if _ then _ else if _ then _ else _) = _
  rw [if_neg (by decide), if_neg hb]
theorem tc_and64 {b : Nat} (h : b < 256) : nI b &&& nI 64 = nI 0 ↔ b % 128 < 64 := by
  have h1 : ∀ b, b < 256 → (nI b &&& nI 64 = nI 0 ↔ b % 128 < 64) := by decide +kernel
  exact h1 b h
def tc_f1 (fa f : Nat) : Nat := if fa = 0 then f else fa
def tc_f2 (fa : Nat) (pl : Option Nat) (w : Nat) : Option Nat := if fa = 0 then some w else pl
theorem tc_f1_n {fa f : Nat} (h : ¬ fa = 0) : tc_f1 fa f = fa := if_neg h
theorem tc_f2_n {fa w : Nat} {pl : Option Nat} (h : ¬ fa = 0) : tc_f2 fa pl w = pl := if_neg h
theorem tc_f1_0 {fa f : Nat} (h : fa = 0) : tc_f1 fa f = f := if_pos h
theorem tc_f2_0 {fa w : Nat} {pl : Option Nat} (h : fa = 0) : tc_f2 fa pl w = some w := if_pos h
def tc_B (g : Nat → Nat) : Nat → Nat := fun j => g j % 256
end
section
theorem fgR_28 : xk_F RR 28 2 7 := ⟨RR, TR, 9, rfl, by decide, i_R, (xk_mem 136 (by decide +kernel) (by decide))⟩
theorem fpR_28 : xk_FP RR 28 2 7 false (.int) := ⟨RR, TR, 9, rfl, by decide, i_R, (xk_mem 136 (by decide +kernel) (by decide)), ⟨tR, tR_ok⟩, nR_ok, rfl, by decide +kernel, fun h => by cases h⟩
theorem fpR_31 : xk_FP RR 31 2 8 false (.int) := ⟨RR, TR, 9, rfl, by decide, i_R, (xk_mem 138 (by decide +kernel) (by decide)), ⟨tR, tR_ok⟩, nR_ok, rfl, by decide +kernel, fun h => by cases h⟩
theorem fgR_34 : xk_F RR 34 2 0 := ⟨RR, TR, 9, rfl, by decide, i_R, (xk_mem 128 (by decide +kernel) (by decide))⟩
theorem fgR_22 : xk_F RR 22 2 5 := ⟨RR, TR, 9, rfl, by decide, i_R, (xk_mem 133 (by decide +kernel) (by decide))⟩
set_option maxRecDepth 100000 in
theorem kbR_119 : xk_CB RR 119 yB_get cB_get 2 (some .int) 1 := ⟨(xk_mem 330 (by rfl) rfl), (xk_mem 39 (by decide +kernel) (by decide)), (xk_mem 327 (by decide +kernel) (by decide)), by decide +kernel⟩
theorem kcR_119 : Cond.instanceMethod yB_get ∈ xk_gt ∧ Cond.selects (yB_get).cls yB_get yB_get ∈ xk_gt := ⟨(xk_mem 328 (by decide +kernel) (by decide)), (xk_mem 329 (by decide +kernel) (by decide))⟩
theorem fgR_42 : xk_F RR 42 0 1 := ⟨RB, TB, 2, rfl, by decide, i_B, (xk_mem 114 (by decide +kernel) (by decide))⟩
set_option maxRecDepth 100000 in
theorem kbR_73 : xk_CB RR 73 yR_fail cR_fail 3 none 2 := ⟨(xk_mem 334 (by rfl) rfl), (xk_mem 40 (by decide +kernel) (by decide)), (xk_mem 331 (by decide +kernel) (by decide)), by decide +kernel⟩
theorem kcR_73 : Cond.instanceMethod yR_fail ∈ xk_gt ∧ Cond.selects (yR_fail).cls yR_fail yR_fail ∈ xk_gt := ⟨(xk_mem 333 (by decide +kernel) (by decide)), (xk_mem 6 (by decide +kernel) (by decide))⟩
theorem fpR_22 : xk_FP RR 22 2 5 false (.int) := ⟨RR, TR, 9, rfl, by decide, i_R, (xk_mem 133 (by decide +kernel) (by decide)), ⟨tR, tR_ok⟩, nR_ok, rfl, by decide +kernel, fun h => by cases h⟩
theorem fgR_18 : xk_F RR 18 2 4 := ⟨RR, TR, 9, rfl, by decide, i_R, (xk_mem 132 (by decide +kernel) (by decide))⟩
theorem fgR_11 : xk_F RR 11 2 2 := ⟨RR, TR, 9, rfl, by decide, i_R, (xk_mem 130 (by decide +kernel) (by decide))⟩
theorem fgR_15 : xk_F RR 15 2 3 := ⟨RR, TR, 9, rfl, by decide, i_R, (xk_mem 131 (by decide +kernel) (by decide))⟩
theorem fpR_18 : xk_FP RR 18 2 4 false (.int) := ⟨RR, TR, 9, rfl, by decide, i_R, (xk_mem 132 (by decide +kernel) (by decide)), ⟨tR, tR_ok⟩, nR_ok, rfl, by decide +kernel, fun h => by cases h⟩
theorem klR_108 : Cond.constantLong RR 108 (2147483647) ∈ xk_gt := (xk_mem 350 (by decide +kernel) (by decide))
set_option maxRecDepth 100000 in
theorem kbR_110 : xk_CB RR 110 yF_unsignedGroups cF_unsignedGroups 3 (some .int) 1 := ⟨(xk_mem 210 (by rfl) rfl), (xk_mem 42 (by decide +kernel) (by decide)), (xk_mem 351 (by decide +kernel) (by decide)), by decide +kernel⟩
theorem kcR_110 : Cond.static yF_unsignedGroups ∈ xk_gt := (xk_mem 209 (by decide +kernel) (by decide))
set_option maxRecDepth 100000 in
theorem kbR_63 : xk_CB RR 63 yR_takeByte cR_takeByte 2 (some .int) 0 := ⟨(xk_mem 326 (by rfl) rfl), (xk_mem 40 (by decide +kernel) (by decide)), (xk_mem 323 (by decide +kernel) (by decide)), by decide +kernel⟩
theorem kcR_63 : Cond.instanceMethod yR_takeByte ∈ xk_gt ∧ Cond.selects (yR_takeByte).cls yR_takeByte yR_takeByte ∈ xk_gt := ⟨(xk_mem 325 (by decide +kernel) (by decide)), (xk_mem 5 (by decide +kernel) (by decide))⟩
set_option maxRecDepth 100000 in
theorem kbR_116 : xk_CB RR 116 yF_signedGroups cF_signedGroups 5 (some .int) 1 := ⟨(xk_mem 213 (by rfl) rfl), (xk_mem 42 (by decide +kernel) (by decide)), (xk_mem 357 (by decide +kernel) (by decide)), by decide +kernel⟩
theorem kcR_116 : Cond.static yF_signedGroups ∈ xk_gt := (xk_mem 212 (by decide +kernel) (by decide))
theorem klR_114 : Cond.constantLong RR 114 (-1) ∈ xk_gt := (xk_mem 356 (by decide +kernel) (by decide))
set_option maxRecDepth 100000 in
theorem kbR_99 : xk_CB RR 99 yR_takeUnsigned cR_takeUnsigned 5 (some .long) 0 := ⟨(xk_mem 349 (by rfl) rfl), (xk_mem 40 (by decide +kernel) (by decide)), (xk_mem 346 (by decide +kernel) (by decide)), by decide +kernel⟩
theorem kcR_99 : Cond.instanceMethod yR_takeUnsigned ∈ xk_gt ∧ Cond.selects (yR_takeUnsigned).cls yR_takeUnsigned yR_takeUnsigned ∈ xk_gt := ⟨(xk_mem 348 (by decide +kernel) (by decide)), (xk_mem 9 (by decide +kernel) (by decide))⟩
set_option maxRecDepth 100000 in
theorem kbR_103 : xk_CB RR 103 yR_takeSigned cR_takeSigned 7 (some .long) 0 := ⟨(xk_mem 355 (by rfl) rfl), (xk_mem 40 (by decide +kernel) (by decide)), (xk_mem 352 (by decide +kernel) (by decide)), by decide +kernel⟩
theorem kcR_103 : Cond.instanceMethod yR_takeSigned ∈ xk_gt ∧ Cond.selects (yR_takeSigned).cls yR_takeSigned yR_takeSigned ∈ xk_gt := ⟨(xk_mem 354 (by decide +kernel) (by decide)), (xk_mem 10 (by decide +kernel) (by decide))⟩
theorem fgR_38 : xk_F RR 38 2 1 := ⟨RR, TR, 9, rfl, by decide, i_R, (xk_mem 129 (by decide +kernel) (by decide))⟩
set_option maxRecDepth 100000 in
theorem kbR_92 : xk_CB RR 92 yS_setNode cS_setNode 5 none 3 := ⟨(xk_mem 367 (by rfl) rfl), (xk_mem 38 (by decide +kernel) (by decide)), (xk_mem 364 (by decide +kernel) (by decide)), by decide +kernel⟩
theorem kcR_92 : Cond.instanceMethod yS_setNode ∈ xk_gt ∧ Cond.selects (yS_setNode).cls yS_setNode yS_setNode ∈ xk_gt := ⟨(xk_mem 365 (by decide +kernel) (by decide)), (xk_mem 366 (by decide +kernel) (by decide))⟩
set_option maxRecDepth 100000 in
theorem kbR_96 : xk_CB RR 96 yS_setByte cS_setByte 6 none 3 := ⟨(xk_mem 198 (by rfl) rfl), (xk_mem 38 (by decide +kernel) (by decide)), (xk_mem 368 (by decide +kernel) (by decide)), by decide +kernel⟩
theorem kcR_96 : Cond.instanceMethod yS_setByte ∈ xk_gt ∧ Cond.selects (yS_setByte).cls yS_setByte yS_setByte ∈ xk_gt := ⟨(xk_mem 196 (by decide +kernel) (by decide)), (xk_mem 197 (by decide +kernel) (by decide))⟩
set_option maxRecDepth 100000 in
theorem kbR_84 : xk_CB RR 84 yR_takeNumber cR_takeNumber 2 (some .long) 1 := ⟨(xk_mem 345 (by rfl) rfl), (xk_mem 40 (by decide +kernel) (by decide)), (xk_mem 342 (by decide +kernel) (by decide)), by decide +kernel⟩
theorem kcR_84 : Cond.instanceMethod yR_takeNumber ∈ xk_gt ∧ Cond.selects (yR_takeNumber).cls yR_takeNumber yR_takeNumber ∈ xk_gt := ⟨(xk_mem 344 (by decide +kernel) (by decide)), (xk_mem 8 (by decide +kernel) (by decide))⟩
set_option maxRecDepth 100000 in
theorem kbR_88 : xk_CB RR 88 yF_fits cF_fits 3 (some .boolean) 2 := ⟨(xk_mem 360 (by rfl) rfl), (xk_mem 42 (by decide +kernel) (by decide)), (xk_mem 358 (by decide +kernel) (by decide)), by decide +kernel⟩
theorem kcR_88 : Cond.static yF_fits ∈ xk_gt := (xk_mem 359 (by decide +kernel) (by decide))
end
section
set_option maxHeartbeats 4000000 in
set_option maxRecDepth 100000 in
/-- fail -/
theorem c_R_fail (D : va_G) (r : Nat → Nat) (cr : Nat → ClassId) (g : Nat → Nat) (cg : Nat → ClassId) (a : Nat → Nat) (ca : Nat → ClassId) (wl : Nat → Nat) (wm : Nat → Nat) (wt : Nat) (nx : Nat) (ap : Nat) (fa : Nat) (pl : Option Nat) (gb : Nat → Nat) (gz : Nat) (kn : Nat → Nat) (nu : Nat → Int64) (wo : Nat → Int64) (si : Nat → Nat) (de : Nat → Nat) (la : Nat → Nat) (le : Nat → Nat) (ro : Nat → Nat) (tm : Nat) (nd : Nat) (f : Nat) (w : Nat) (y1 : fa < 10) : xk_Ct yR_fail cR_fail 3 none { frames := 0, cells := 0, slots := 0, locals := 0 } D (tc_tR cr ++ (tc_tB cg ++ tc_tS ca)) [.ref (r 0), .int (nI f), .int (nI w)] (tc_wR r cr (g 0) (a 0) wl wm wt nx ap fa pl ++ (tc_wB g cg gb gz ++ tc_wS a ca kn nu wo si de la le ro tm nd)) (fun rv ru => (rv = none ∧ ru = tc_wR r cr (g 0) (a 0) wl wm wt nx ap (tc_f1 fa f) (tc_f2 fa pl w) ++ (tc_wB g cg gb gz ++ tc_wS a ca kn nu wo si de la le ro tm nd))) := by
  refine xk_enter (by decide) (Nat.le_of_ble_eq_true rfl) (fun K C T hin => ?_)
  show xk_Go K D 3 0 0 (tc_wR r cr (g 0) (a 0) wl wm wt nx ap fa pl ++ (tc_wB g cg gb gz ++ tc_wS a ca kn nu wo si de la le ro tm nd)) [(0, .ref (r 0)), (1, .int (nI f)), (2, .int (nI w))] 0 []
  refine x_aload_n C dR_fail_0 rfl 0 rfl ?_
  refine x_get C fgR_28 0 rfl rfl dR_fail_1 ?_
  refine x_if_neN (tgt := 17) C (by omega) dR_fail_4 (by decide) (fun h4 => ?_) (fun h4 => ?_)
  ·
    exact x_vret C T rfl dR_fail_17 (⟨rfl, by rw [tc_f1_n h4, tc_f2_n h4]⟩)
  ·
    refine x_aload_n C dR_fail_7 rfl 0 rfl ?_
    refine x_iload_n C dR_fail_8 rfl 1 rfl ?_
    refine x_put C fpR_28 0 (tc_wR r cr (g 0) (a 0) wl wm wt nx ap f pl ++ (tc_wB g cg gb gz ++ tc_wS a ca kn nu wo si de la le ro tm nd)) rfl rfl rfl rfl (Nat.le_of_ble_eq_true rfl) dR_fail_9 ?_
    refine x_aload_n C dR_fail_12 rfl 0 rfl ?_
    refine x_iload_n C dR_fail_13 rfl 2 rfl ?_
    refine x_put C fpR_31 0 (tc_wR r cr (g 0) (a 0) wl wm wt nx ap f (some w) ++ (tc_wB g cg gb gz ++ tc_wS a ca kn nu wo si de la le ro tm nd)) rfl rfl rfl rfl (Nat.le_of_ble_eq_true rfl) dR_fail_14 ?_
    exact x_vret C T rfl dR_fail_17 (⟨rfl, by rw [tc_f1_0 h4, tc_f2_0 h4]⟩)
set_option maxHeartbeats 4000000 in
set_option maxRecDepth 100000 in
/-- takeByte -/
theorem c_R_takeByte (D : va_G) (r : Nat → Nat) (cr : Nat → ClassId) (g : Nat → Nat) (cg : Nat → ClassId) (a : Nat → Nat) (ca : Nat → ClassId) (wl : Nat → Nat) (wm : Nat → Nat) (wt : Nat) (nx : Nat) (ap : Nat) (fa : Nat) (pl : Option Nat) (gb : Nat → Nat) (gz : Nat) (kn : Nat → Nat) (nu : Nat → Int64) (wo : Nat → Int64) (si : Nat → Nat) (de : Nat → Nat) (la : Nat → Nat) (le : Nat → Nat) (ro : Nat → Nat) (tm : Nat) (nd : Nat) (y1 : nx ≤ gz) (y2 : gz ≤ 4096) (y3 : fa < 10) : xk_Ct yR_takeByte cR_takeByte 2 (some .int) { frames := 1, cells := 0, slots := 0, locals := 22 } D (tc_tR cr ++ (tc_tB cg ++ tc_tS ca)) [.ref (r 0)] (tc_wR r cr (g 0) (a 0) wl wm wt nx ap fa pl ++ (tc_wB g cg gb gz ++ tc_wS a ca kn nu wo si de la le ro tm nd)) (fun rv ru => (rv = some (.int (nI 0)) ∧ ru = tc_wR r cr (g 0) (a 0) wl wm wt nx ap (tc_f1 fa 1) (tc_f2 fa pl gz) ++ (tc_wB g cg gb gz ++ tc_wS a ca kn nu wo si de la le ro tm nd) ∧ (gz ≤ nx)) ∨ (rv = some (.int (nI (gb nx % 256))) ∧ ru = tc_wR r cr (g 0) (a 0) wl wm wt (nx + 1) ap fa pl ++ (tc_wB g cg gb gz ++ tc_wS a ca kn nu wo si de la le ro tm nd) ∧ (nx < gz))) := by
  refine xk_enter (by decide) (Nat.le_of_ble_eq_true rfl) (fun K C T hin => ?_)
  show xk_Go K D 2 0 0 (tc_wR r cr (g 0) (a 0) wl wm wt nx ap fa pl ++ (tc_wB g cg gb gz ++ tc_wS a ca kn nu wo si de la le ro tm nd)) [(0, .ref (r 0))] 0 []
  refine x_aload_n C dR_takeByte_0 rfl 0 rfl ?_
  refine x_get C fgR_34 0 rfl rfl dR_takeByte_1 ?_
  refine x_aload_n C dR_takeByte_4 rfl 0 rfl ?_
  refine x_get C fgR_22 0 rfl rfl dR_takeByte_5 ?_
  refine x_callV C (c_B_get D g cg gb gz (nI nx) y2) kbR_119 kcR_119 [3, 4] [0, 1, 2, 5, 6, 7, 8, 9, 10, 11, 12, 13] [2] (tc_wR r cr (g 0) (a 0) wl wm wt nx ap fa pl ++ tc_wS a ca kn nu wo si de la le ro tm nd) rfl rfl (by decide) (by decide) (by decide) rfl 0 rfl rfl ⟨Nat.le_of_ble_eq_true rfl, Nat.le_of_ble_eq_true rfl⟩ ⟨Nat.le_of_ble_eq_true rfl, Nat.le_of_ble_eq_true rfl⟩ [] rfl rfl (Nat.le_of_ble_eq_true rfl) dR_takeByte_8 (fun rv ru hw => ?_)
  rcases hw with ⟨rfl, rfl, g1⟩ | ⟨j, rfl, rfl, g1, g2⟩
  ·
    show xk_Go K D 2 0 0 (tc_wR r cr (g 0) (a 0) wl wm wt nx ap fa pl ++ (tc_wS a ca kn nu wo si de la le ro tm nd ++ tc_wB g cg gb gz)) [(0, .ref (r 0))] 11 [.int (xk_oI none)]
    refine x_perm [0, 1, 2, 12, 13, 3, 4, 5, 6, 7, 8, 9, 10, 11] (w' := tc_wR r cr (g 0) (a 0) wl wm wt nx ap fa pl ++ (tc_wB g cg gb gz ++ tc_wS a ca kn nu wo si de la le ro tm nd)) (by decide) rfl rfl ?_
    have hge : gz ≤ nx := Nat.not_lt.mp (fun q => g1 nx q rfl)
    refine x_istore_n C [(1, .int (xk_oI none)), (0, .ref (r 0))] dR_takeByte_11 rfl (by decide) rfl ?_
    refine x_iload_n C dR_takeByte_12 rfl 0 rfl ?_
    refine x_if_ge (tgt := 30) C dR_takeByte_13 (by decide) (fun h => absurd h (by decide)) (fun _ => ?_)
    refine x_aload_n C dR_takeByte_16 rfl 1 rfl ?_
    refine x_iconst (v := nI 1) C dR_takeByte_17 (by decide) ?_
    refine x_aload_n C dR_takeByte_18 rfl 1 rfl ?_
    refine x_get C fgR_34 0 rfl rfl dR_takeByte_19 ?_
    refine x_get C fgR_42 3 rfl rfl dR_takeByte_22 ?_
    refine x_callV C (c_R_fail D r cr g cg a ca wl wm wt nx ap fa pl gb gz kn nu wo si de la le ro tm nd 1 gz y3) kbR_73 kcR_73 [0, 1, 2, 3, 4, 5, 6, 7, 8, 9, 10, 11, 12, 13] [] [0, 1, 2, 3, 4, 5, 6, 7, 8, 9, 10] ([]) rfl rfl (by decide) (by decide) (by decide) rfl 0 rfl rfl ⟨Nat.le_of_ble_eq_true rfl, Nat.le_of_ble_eq_true rfl⟩ ⟨Nat.le_of_ble_eq_true rfl, Nat.le_of_ble_eq_true rfl⟩ [] rfl rfl (Nat.le_of_ble_eq_true rfl) dR_takeByte_25 (fun rv ru hw => ?_)
    obtain ⟨rfl, rfl⟩ := hw
    show xk_Go K D 2 0 0 (tc_wR r cr (g 0) (a 0) wl wm wt nx ap (tc_f1 fa 1) (tc_f2 fa pl gz) ++ (tc_wB g cg gb gz ++ tc_wS a ca kn nu wo si de la le ro tm nd)) [(1, .int (xk_oI none)), (0, .ref (r 0))] 28 []
    refine x_iconst (v := nI 0) C dR_takeByte_28 (by decide) ?_
    exact x_iret C T .int rfl rfl dR_takeByte_29 (Or.inl (⟨rfl, rfl, hge⟩))
  ·
    show xk_Go K D 2 0 0 (tc_wR r cr (g 0) (a 0) wl wm wt nx ap fa pl ++ (tc_wS a ca kn nu wo si de la le ro tm nd ++ tc_wB g cg gb gz)) [(0, .ref (r 0))] 11 [.int (nI (gb j % 256))]
    refine x_perm [0, 1, 2, 12, 13, 3, 4, 5, 6, 7, 8, 9, 10, 11] (w' := tc_wR r cr (g 0) (a 0) wl wm wt nx ap fa pl ++ (tc_wB g cg gb gz ++ tc_wS a ca kn nu wo si de la le ro tm nd)) (by decide) rfl rfl ?_
    obtain rfl : nx = j := (nI_eq (by omega) (by omega)).mp g1
    refine x_istore_n C [(1, .int (nI (gb nx % 256))), (0, .ref (r 0))] dR_takeByte_11 rfl (by decide) rfl ?_
    refine x_iload_n C dR_takeByte_12 rfl 0 rfl ?_
    refine x_if_geN (tgt := 30) C (by omega) dR_takeByte_13 (by decide) ?_
    refine x_aload_n C dR_takeByte_30 rfl 1 rfl ?_
    refine x_dup C dR_takeByte_31 rfl ?_
    refine x_get C fgR_22 0 rfl rfl dR_takeByte_32 ?_
    refine x_iconst (v := nI 1) C dR_takeByte_35 (by decide) ?_
    refine x_iaddN C dR_takeByte_36 ?_
    refine x_put C fpR_22 0 (tc_wR r cr (g 0) (a 0) wl wm wt (nx + 1) ap fa pl ++ (tc_wB g cg gb gz ++ tc_wS a ca kn nu wo si de la le ro tm nd)) rfl rfl rfl rfl (Nat.le_of_ble_eq_true rfl) dR_takeByte_37 ?_
    refine x_iload_n C dR_takeByte_40 rfl 0 rfl ?_
    exact x_iret C T .int rfl rfl dR_takeByte_41 (Or.inr (⟨rfl, rfl, g2⟩))
set_option maxHeartbeats 4000000 in
set_option maxRecDepth 100000 in
/-- await -/
theorem c_R_await (D : va_G) (r : Nat → Nat) (cr : Nat → ClassId) (g : Nat → Nat) (cg : Nat → ClassId) (a : Nat → Nat) (ca : Nat → ClassId) (wl : Nat → Nat) (wm : Nat → Nat) (wt : Nat) (nx : Nat) (ap : Nat) (fa : Nat) (pl : Option Nat) (gb : Nat → Nat) (gz : Nat) (kn : Nat → Nat) (nu : Nat → Int64) (wo : Nat → Int64) (si : Nat → Nat) (de : Nat → Nat) (la : Nat → Nat) (le : Nat → Nat) (ro : Nat → Nat) (tm : Nat) (nd : Nat) (n : Nat) (l : Nat) (m : Nat) (y1 : wt + n ≤ 62) : xk_Ct yR_await cR_await 5 none { frames := 0, cells := 0, slots := 0, locals := 0 } D (tc_tR cr ++ (tc_tB cg ++ tc_tS ca)) [.ref (r 0), .int (nI n), .int (nI l), .int (nI m)] (tc_wR r cr (g 0) (a 0) wl wm wt nx ap fa pl ++ (tc_wB g cg gb gz ++ tc_wS a ca kn nu wo si de la le ro tm nd)) (fun rv ru => (∃ (wlg : Nat → Nat), ∃ (wmg : Nat → Nat), rv = none ∧ ru = tc_wR r cr (g 0) (a 0) wlg wmg (wt + n) nx ap fa pl ++ (tc_wB g cg gb gz ++ tc_wS a ca kn nu wo si de la le ro tm nd) ∧ (∀ j, j < wt → wlg j = wl j ∧ wmg j = wm j) ∧ (∀ j, wt ≤ j → j < wt + n → wlg j = l ∧ wmg j = m))) := by
  refine xk_enter (by decide) (Nat.le_of_ble_eq_true rfl) (fun K C T hin => ?_)
  show xk_Go K D 5 0 0 (tc_wR r cr (g 0) (a 0) wl wm wt nx ap fa pl ++ (tc_wB g cg gb gz ++ tc_wS a ca kn nu wo si de la le ro tm nd)) [(0, .ref (r 0)), (1, .int (nI n)), (2, .int (nI l)), (3, .int (nI m))] 0 []
  refine x_iconst (v := nI 0) C dR_await_0 (by decide) ?_
  refine x_istore C [(4, .int (nI 0)), (0, .ref (r 0)), (1, .int (nI n)), (2, .int (nI l)), (3, .int (nI m))] dR_await_1 (by decide) rfl ?_
  have lp3 : ∀ (zc : Nat) (q : Nat) (wlg : Nat → Nat) (wmg : Nat → Nat), (n - q) < zc → (q ≤ n) → (∀ j, j < wt → wlg j = wl j ∧ wmg j = wm j) → (∀ j, wt ≤ j → j < wt + q → wlg j = l ∧ wmg j = m) → xk_Go K D 5 0 0 (tc_wR r cr (g 0) (a 0) wlg wmg (wt + q) nx ap fa pl ++ (tc_wB g cg gb gz ++ tc_wS a ca kn nu wo si de la le ro tm nd)) [(0, .ref (r 0)), (1, .int (nI n)), (2, .int (nI l)), (3, .int (nI m)), (4, .int (nI q))] 3 [] := by
    intro zc
    induction zc with
    | zero => intro q wlg wmg hm; exact absurd hm (Nat.not_lt_zero _)
    | succ zc ih3 =>
      intro q wlg wmg hm e1 e2 e3
      refine x_iload C dR_await_3 4 rfl ?_
      refine x_iload_n C dR_await_5 rfl 1 rfl ?_
      refine x_icmp_geN (tgt := 54) C (by omega) (by omega) dR_await_6 (by decide) (fun h6 => ?_) (fun h6 => ?_)
      ·
        have eqn : q = n := by omega
        subst eqn
        exact x_vret C T rfl dR_await_54 (⟨wlg, wmg, rfl, rfl, e2, e3⟩)
      ·
        refine x_aload_n C dR_await_9 rfl 0 rfl ?_
        refine x_get C fgR_18 0 rfl rfl dR_await_10 ?_
        refine x_bipush (v := nI 62) C dR_await_13 (by decide) ?_
        refine x_icmp_geN (tgt := 54) C (by omega) (by decide) dR_await_15 (by decide) (fun h15 => ?_) (fun h15 => ?_)
        ·
          exact absurd h15 (by omega)
        ·
          refine x_aload_n C dR_await_18 rfl 0 rfl ?_
          refine x_get C fgR_11 0 rfl rfl dR_await_19 ?_
          refine x_aload_n C dR_await_22 rfl 0 rfl ?_
          refine x_get C fgR_18 0 rfl rfl dR_await_23 ?_
          refine x_iload_n C dR_await_26 rfl 2 rfl ?_
          refine x_ist C 1 0 (tc_wR r cr (g 0) (a 0) (va_up wlg (wt + q) l) wmg (wt + q) nx ap fa pl ++ (tc_wB g cg gb gz ++ tc_wS a ca kn nu wo si de la le ro tm nd)) rfl rfl (xk_nA_up wlg (wt + q) l) rfl (by omega) (by decide) dR_await_27 ?_
          refine x_aload_n C dR_await_28 rfl 0 rfl ?_
          refine x_get C fgR_15 0 rfl rfl dR_await_29 ?_
          refine x_aload_n C dR_await_32 rfl 0 rfl ?_
          refine x_get C fgR_18 0 rfl rfl dR_await_33 ?_
          refine x_iload_n C dR_await_36 rfl 3 rfl ?_
          refine x_ist C 2 1 (tc_wR r cr (g 0) (a 0) (va_up wlg (wt + q) l) (va_up wmg (wt + q) m) (wt + q) nx ap fa pl ++ (tc_wB g cg gb gz ++ tc_wS a ca kn nu wo si de la le ro tm nd)) rfl rfl (xk_nA_up wmg (wt + q) m) rfl (by omega) (by decide) dR_await_37 ?_
          refine x_aload_n C dR_await_38 rfl 0 rfl ?_
          refine x_dup C dR_await_39 rfl ?_
          refine x_get C fgR_18 0 rfl rfl dR_await_40 ?_
          refine x_iconst (v := nI 1) C dR_await_43 (by decide) ?_
          refine x_iaddN C dR_await_44 ?_
          refine x_put C fpR_18 0 (tc_wR r cr (g 0) (a 0) (va_up wlg (wt + q) l) (va_up wmg (wt + q) m) (wt + q + 1) nx ap fa pl ++ (tc_wB g cg gb gz ++ tc_wS a ca kn nu wo si de la le ro tm nd)) rfl rfl rfl rfl (Nat.le_of_ble_eq_true rfl) dR_await_45 ?_
          refine x_iinc (q := 4) C (nI (q + 1)) [(4, .int (nI (q + 1))), (0, .ref (r 0)), (1, .int (nI n)), (2, .int (nI l)), (3, .int (nI m))] dR_await_48 rfl (nI_add q 1) (by decide) rfl ?_
          refine x_goto C 3 dR_await_51 (by decide) ?_
          exact x_sub [1, 2, 3, 4, 0] rfl (ih3 (q + 1) (va_up wlg (wt + q) l) (va_up wmg (wt + q) m) (by omega) (by omega) (fun j hj => ⟨(va_up_ne _ _ (by omega)).trans (e2 j hj).1, (va_up_ne _ _ (by omega)).trans (e2 j hj).2⟩) (fun j h1 h2 => by rcases Nat.lt_or_ge j (wt + q) with z | z; exact ⟨(va_up_ne _ _ (by omega)).trans (e3 j h1 z).1, (va_up_ne _ _ (by omega)).trans (e3 j h1 z).2⟩; rw [show j = wt + q by omega]; exact ⟨va_up_self _ _ _, va_up_self _ _ _⟩))
  exact x_sub [1, 2, 3, 4, 0] rfl (lp3 _ 0 wl wm (Nat.lt_succ_self _) (Nat.zero_le _) (fun _ _ => ⟨rfl, rfl⟩) (fun j h1 h2 => absurd h2 (by omega)))
end
section
set_option maxHeartbeats 4000000 in
set_option maxRecDepth 100000 in
/-- takeUnsigned -/
theorem c_R_takeUnsigned (D : va_G) (r : Nat → Nat) (cr : Nat → ClassId) (g : Nat → Nat) (cg : Nat → ClassId) (a : Nat → Nat) (ca : Nat → ClassId) (wl : Nat → Nat) (wm : Nat → Nat) (wt : Nat) (nx : Nat) (ap : Nat) (gb : Nat → Nat) (gz : Nat) (kn : Nat → Nat) (nu : Nat → Int64) (wo : Nat → Int64) (si : Nat → Nat) (de : Nat → Nat) (la : Nat → Nat) (le : Nat → Nat) (ro : Nat → Nat) (tm : Nat) (nd : Nat) (y1 : nx ≤ gz) (y2 : gz ≤ 4096) (y4 : 0 < nx) : xk_Ct yR_takeUnsigned cR_takeUnsigned 5 (some .long) { frames := 2, cells := 0, slots := 0, locals := 43 } D (tc_tR cr ++ (tc_tB cg ++ tc_tS ca)) [.ref (r 0)] (tc_wR r cr (g 0) (a 0) wl wm wt nx ap 0 none ++ (tc_wB g cg gb gz ++ tc_wS a ca kn nu wo si de la le ro tm nd)) (fun rv ru => (∃ (xv : Int64), ∃ (nw : Nat), rv = some (.long xv) ∧ ru = tc_wR r cr (g 0) (a 0) wl wm wt nw ap 0 none ++ (tc_wB g cg gb gz ++ tc_wS a ca kn nu wo si de la le ro tm nd) ∧ (tc_rU (tc_B gb) gz nx = .inr (xv, nw)) ∧ (nx ≤ nw) ∧ (nw ≤ gz)) ∨ (∃ (xv : Int64), ∃ (nw : Nat), ∃ (f : Nat), ∃ (q : Nat), rv = some (.long xv) ∧ ru = tc_wR r cr (g 0) (a 0) wl wm wt nw ap f (some q) ++ (tc_wB g cg gb gz ++ tc_wS a ca kn nu wo si de la le ro tm nd) ∧ (tc_rU (tc_B gb) gz nx = .inl (f, q)) ∧ (0 < f ∧ f < 10) ∧ (nx ≤ nw) ∧ (nw ≤ gz))) := by
  refine xk_enter (by decide) (Nat.le_of_ble_eq_true rfl) (fun K C T hin => ?_)
  show xk_Go K D 5 0 0 (tc_wR r cr (g 0) (a 0) wl wm wt nx ap 0 none ++ (tc_wB g cg gb gz ++ tc_wS a ca kn nu wo si de la le ro tm nd)) [(0, .ref (r 0))] 0 []
  have jn48 : ∀ (w : Nat) (kk : Nat) (b : Nat) (nw : Nat) (fv : Nat) (pv : Option Nat) (bb : Nat) (e : Bool), (tc_scan (tc_B gb) gz 5 nx 0 0 = (w, kk, bb, e)) → ((e = true ∧ fv = 1 ∧ pv = some gz) ∨ (e = false ∧ fv = 0 ∧ pv = none ∧ nw = nx + kk ∧ ((bb = b ∧ b < 128) ∨ (128 ≤ b ∧ bb = 128 ∧ kk = 5)))) → (b < 256 ∧ nx ≤ nw ∧ nw ≤ gz ∧ 0 < kk ∧ kk ≤ 5) → (w < 2 ^ (7 * kk)) → xk_Go K D 5 0 0 (tc_wR r cr (g 0) (a 0) wl wm wt nw ap fv pv ++ (tc_wB g cg gb gz ++ tc_wS a ca kn nu wo si de la le ro tm nd)) [(0, .ref (r 0)), (1, .long (lN w)), (3, .int (nI kk)), (4, .int (nI b))] 48 [] := by
    intro w kk b nw fv pv bb e j1 j2 j3 j5
    obtain ⟨j6, j7, j8, j9, j10⟩ := j3
    refine x_iload C dR_takeUnsigned_48 3 rfl ?_
    rcases j2 with ⟨rfl, rfl, rfl⟩ | ⟨rfl, rfl, rfl, rfl, j4⟩
    ·
      refine x_sipush (v := nI 128) C dR_takeUnsigned_50 (by decide) ?_
      refine x_icmp_geN (tgt := 72) C (by omega) (by decide) dR_takeUnsigned_53 (by decide) (fun h53 => ?_) (fun h53 => ?_)
      ·
        refine x_aload_n C dR_takeUnsigned_72 rfl 0 rfl ?_
        refine x_iconst (v := nI 2) C dR_takeUnsigned_73 (by decide) ?_
        refine x_aload_n C dR_takeUnsigned_74 rfl 0 rfl ?_
        refine x_get C fgR_22 0 rfl rfl dR_takeUnsigned_75 ?_
        refine x_iconst (v := nI 1) C dR_takeUnsigned_78 (by decide) ?_
        refine x_isubN C (by omega) dR_takeUnsigned_79 ?_
        refine x_callV C (c_R_fail D r cr g cg a ca wl wm wt nw ap 1 (some gz) gb gz kn nu wo si de la le ro tm nd 2 (nw - 1) (by decide)) kbR_73 kcR_73 [0, 1, 2, 3, 4, 5, 6, 7, 8, 9, 10, 11, 12, 13] [] [0, 1, 2, 3, 4, 5, 6, 7, 8, 9, 10] ([]) rfl rfl (by decide) (by decide) (by decide) rfl 0 rfl rfl ⟨Nat.le_of_ble_eq_true rfl, Nat.le_of_ble_eq_true rfl⟩ ⟨Nat.le_of_ble_eq_true rfl, Nat.le_of_ble_eq_true rfl⟩ [] rfl rfl (Nat.le_of_ble_eq_true rfl) dR_takeUnsigned_80 (fun rv ru hw => ?_)
        obtain ⟨rfl, rfl⟩ := hw
        show xk_Go K D 5 0 0 (tc_wR r cr (g 0) (a 0) wl wm wt nw ap (tc_f1 1 2) (tc_f2 1 (some gz) (nw - 1)) ++ (tc_wB g cg gb gz ++ tc_wS a ca kn nu wo si de la le ro tm nd)) [(0, .ref (r 0)), (1, .long (lN w)), (3, .int (nI kk)), (4, .int (nI b))] 83 []
        show xk_Go K D 5 0 0 (tc_wR r cr (g 0) (a 0) wl wm wt nw ap 1 (some gz) ++ (tc_wB g cg gb gz ++ tc_wS a ca kn nu wo si de la le ro tm nd)) [(0, .ref (r 0)), (1, .long (lN w)), (3, .int (nI kk)), (4, .int (nI b))] 83 []
        refine x_lload_n C dR_takeUnsigned_83 rfl 1 rfl ?_
        exact x_lret C T rfl dR_takeUnsigned_84 (Or.inr (⟨_, _, 1, gz, rfl, rfl, (tc_rU_e j1), (by decide), j7, j8⟩))
      ·
        have j35 := tc_p35 j5 j10
        refine x_lload_n C dR_takeUnsigned_56 rfl 1 rfl ?_
        refine x_ldc2 (v := 2147483647) C dR_takeUnsigned_57 klR_108 ?_
        refine x_lcmp C dR_takeUnsigned_60 ?_
        refine x_if_gtC (tgt := 72) C dR_takeUnsigned_61 (by decide) (fun h61 => ?_) (fun h61 => ?_)
        ·
          refine x_aload_n C dR_takeUnsigned_72 rfl 0 rfl ?_
          refine x_iconst (v := nI 2) C dR_takeUnsigned_73 (by decide) ?_
          refine x_aload_n C dR_takeUnsigned_74 rfl 0 rfl ?_
          refine x_get C fgR_22 0 rfl rfl dR_takeUnsigned_75 ?_
          refine x_iconst (v := nI 1) C dR_takeUnsigned_78 (by decide) ?_
          refine x_isubN C (by omega) dR_takeUnsigned_79 ?_
          refine x_callV C (c_R_fail D r cr g cg a ca wl wm wt nw ap 1 (some gz) gb gz kn nu wo si de la le ro tm nd 2 (nw - 1) (by decide)) kbR_73 kcR_73 [0, 1, 2, 3, 4, 5, 6, 7, 8, 9, 10, 11, 12, 13] [] [0, 1, 2, 3, 4, 5, 6, 7, 8, 9, 10] ([]) rfl rfl (by decide) (by decide) (by decide) rfl 0 rfl rfl ⟨Nat.le_of_ble_eq_true rfl, Nat.le_of_ble_eq_true rfl⟩ ⟨Nat.le_of_ble_eq_true rfl, Nat.le_of_ble_eq_true rfl⟩ [] rfl rfl (Nat.le_of_ble_eq_true rfl) dR_takeUnsigned_80 (fun rv ru hw => ?_)
          obtain ⟨rfl, rfl⟩ := hw
          show xk_Go K D 5 0 0 (tc_wR r cr (g 0) (a 0) wl wm wt nw ap (tc_f1 1 2) (tc_f2 1 (some gz) (nw - 1)) ++ (tc_wB g cg gb gz ++ tc_wS a ca kn nu wo si de la le ro tm nd)) [(0, .ref (r 0)), (1, .long (lN w)), (3, .int (nI kk)), (4, .int (nI b))] 83 []
          show xk_Go K D 5 0 0 (tc_wR r cr (g 0) (a 0) wl wm wt nw ap 1 (some gz) ++ (tc_wB g cg gb gz ++ tc_wS a ca kn nu wo si de la le ro tm nd)) [(0, .ref (r 0)), (1, .long (lN w)), (3, .int (nI kk)), (4, .int (nI b))] 83 []
          refine x_lload_n C dR_takeUnsigned_83 rfl 1 rfl ?_
          exact x_lret C T rfl dR_takeUnsigned_84 (Or.inr (⟨_, _, 1, gz, rfl, rfl, (tc_rU_e j1), (by decide), j7, j8⟩))
        ·
          refine x_lload_n C dR_takeUnsigned_64 rfl 1 rfl ?_
          refine x_callS C (c_F_unsignedGroups D w (by omega)) kbR_110 kcR_110 [] [0, 1, 2, 3, 4, 5, 6, 7, 8, 9, 10, 11, 12, 13] [] (tc_wR r cr (g 0) (a 0) wl wm wt nw ap 1 (some gz) ++ (tc_wB g cg gb gz ++ tc_wS a ca kn nu wo si de la le ro tm nd)) rfl rfl (by decide) (by decide) (by decide) rfl ⟨Nat.le_of_ble_eq_true rfl, Nat.le_of_ble_eq_true rfl⟩ ⟨Nat.le_of_ble_eq_true rfl, Nat.le_of_ble_eq_true rfl⟩ [] rfl rfl (Nat.le_of_ble_eq_true rfl) dR_takeUnsigned_65 (fun rv ru hw => ?_)
          obtain ⟨rfl, rfl⟩ := hw
          show xk_Go K D 5 0 0 (tc_wR r cr (g 0) (a 0) wl wm wt nw ap 1 (some gz) ++ (tc_wB g cg gb gz ++ tc_wS a ca kn nu wo si de la le ro tm nd)) [(0, .ref (r 0)), (1, .long (lN w)), (3, .int (nI kk)), (4, .int (nI b))] 68 [.int (nI (tc_gU w))]
          have jg := tc_gU_le w
          refine x_iload_n C dR_takeUnsigned_68 rfl 2 rfl ?_
          refine x_icmp_eqN (tgt := 83) C (by omega) (by omega) dR_takeUnsigned_69 (by decide) (fun h69 => ?_) (fun h69 => ?_)
          ·
            refine x_lload_n C dR_takeUnsigned_83 rfl 1 rfl ?_
            exact x_lret C T rfl dR_takeUnsigned_84 (Or.inr (⟨_, _, 1, gz, rfl, rfl, (tc_rU_e j1), (by decide), j7, j8⟩))
          ·
            refine x_aload_n C dR_takeUnsigned_72 rfl 0 rfl ?_
            refine x_iconst (v := nI 2) C dR_takeUnsigned_73 (by decide) ?_
            refine x_aload_n C dR_takeUnsigned_74 rfl 0 rfl ?_
            refine x_get C fgR_22 0 rfl rfl dR_takeUnsigned_75 ?_
            refine x_iconst (v := nI 1) C dR_takeUnsigned_78 (by decide) ?_
            refine x_isubN C (by omega) dR_takeUnsigned_79 ?_
            refine x_callV C (c_R_fail D r cr g cg a ca wl wm wt nw ap 1 (some gz) gb gz kn nu wo si de la le ro tm nd 2 (nw - 1) (by decide)) kbR_73 kcR_73 [0, 1, 2, 3, 4, 5, 6, 7, 8, 9, 10, 11, 12, 13] [] [0, 1, 2, 3, 4, 5, 6, 7, 8, 9, 10] ([]) rfl rfl (by decide) (by decide) (by decide) rfl 0 rfl rfl ⟨Nat.le_of_ble_eq_true rfl, Nat.le_of_ble_eq_true rfl⟩ ⟨Nat.le_of_ble_eq_true rfl, Nat.le_of_ble_eq_true rfl⟩ [] rfl rfl (Nat.le_of_ble_eq_true rfl) dR_takeUnsigned_80 (fun rv ru hw => ?_)
            obtain ⟨rfl, rfl⟩ := hw
            show xk_Go K D 5 0 0 (tc_wR r cr (g 0) (a 0) wl wm wt nw ap (tc_f1 1 2) (tc_f2 1 (some gz) (nw - 1)) ++ (tc_wB g cg gb gz ++ tc_wS a ca kn nu wo si de la le ro tm nd)) [(0, .ref (r 0)), (1, .long (lN w)), (3, .int (nI kk)), (4, .int (nI b))] 83 []
            show xk_Go K D 5 0 0 (tc_wR r cr (g 0) (a 0) wl wm wt nw ap 1 (some gz) ++ (tc_wB g cg gb gz ++ tc_wS a ca kn nu wo si de la le ro tm nd)) [(0, .ref (r 0)), (1, .long (lN w)), (3, .int (nI kk)), (4, .int (nI b))] 83 []
            refine x_lload_n C dR_takeUnsigned_83 rfl 1 rfl ?_
            exact x_lret C T rfl dR_takeUnsigned_84 (Or.inr (⟨_, _, 1, gz, rfl, rfl, (tc_rU_e j1), (by decide), j7, j8⟩))
    ·
      refine x_sipush (v := nI 128) C dR_takeUnsigned_50 (by decide) ?_
      refine x_icmp_geN (tgt := 72) C (by omega) (by decide) dR_takeUnsigned_53 (by decide) (fun h53 => ?_) (fun h53 => ?_)
      ·
        refine x_aload_n C dR_takeUnsigned_72 rfl 0 rfl ?_
        refine x_iconst (v := nI 2) C dR_takeUnsigned_73 (by decide) ?_
        refine x_aload_n C dR_takeUnsigned_74 rfl 0 rfl ?_
        refine x_get C fgR_22 0 rfl rfl dR_takeUnsigned_75 ?_
        refine x_iconst (v := nI 1) C dR_takeUnsigned_78 (by decide) ?_
        refine x_isubN C (by omega) dR_takeUnsigned_79 ?_
        refine x_callV C (c_R_fail D r cr g cg a ca wl wm wt (nx + kk) ap 0 none gb gz kn nu wo si de la le ro tm nd 2 (nx + kk - 1) (by decide)) kbR_73 kcR_73 [0, 1, 2, 3, 4, 5, 6, 7, 8, 9, 10, 11, 12, 13] [] [0, 1, 2, 3, 4, 5, 6, 7, 8, 9, 10] ([]) rfl rfl (by decide) (by decide) (by decide) rfl 0 rfl rfl ⟨Nat.le_of_ble_eq_true rfl, Nat.le_of_ble_eq_true rfl⟩ ⟨Nat.le_of_ble_eq_true rfl, Nat.le_of_ble_eq_true rfl⟩ [] rfl rfl (Nat.le_of_ble_eq_true rfl) dR_takeUnsigned_80 (fun rv ru hw => ?_)
        obtain ⟨rfl, rfl⟩ := hw
        show xk_Go K D 5 0 0 (tc_wR r cr (g 0) (a 0) wl wm wt (nx + kk) ap (tc_f1 0 2) (tc_f2 0 none (nx + kk - 1)) ++ (tc_wB g cg gb gz ++ tc_wS a ca kn nu wo si de la le ro tm nd)) [(0, .ref (r 0)), (1, .long (lN w)), (3, .int (nI kk)), (4, .int (nI b))] 83 []
        show xk_Go K D 5 0 0 (tc_wR r cr (g 0) (a 0) wl wm wt (nx + kk) ap 2 (some (nx + kk - 1)) ++ (tc_wB g cg gb gz ++ tc_wS a ca kn nu wo si de la le ro tm nd)) [(0, .ref (r 0)), (1, .long (lN w)), (3, .int (nI kk)), (4, .int (nI b))] 83 []
        refine x_lload_n C dR_takeUnsigned_83 rfl 1 rfl ?_
        exact x_lret C T rfl dR_takeUnsigned_84 (Or.inr (⟨_, _, 2, (nx + kk - 1), rfl, rfl, (tc_rU_f j1 (by first | exact Or.inl (by omega) | exact Or.inr (Or.inl ((pk_lLT (by decide) (by omega)).mp h61)) | exact Or.inr (Or.inr h69))), (by decide), j7, j8⟩))
      ·
        have j35 := tc_p35 j5 j10
        refine x_lload_n C dR_takeUnsigned_56 rfl 1 rfl ?_
        refine x_ldc2 (v := 2147483647) C dR_takeUnsigned_57 klR_108 ?_
        refine x_lcmp C dR_takeUnsigned_60 ?_
        refine x_if_gtC (tgt := 72) C dR_takeUnsigned_61 (by decide) (fun h61 => ?_) (fun h61 => ?_)
        ·
          refine x_aload_n C dR_takeUnsigned_72 rfl 0 rfl ?_
          refine x_iconst (v := nI 2) C dR_takeUnsigned_73 (by decide) ?_
          refine x_aload_n C dR_takeUnsigned_74 rfl 0 rfl ?_
          refine x_get C fgR_22 0 rfl rfl dR_takeUnsigned_75 ?_
          refine x_iconst (v := nI 1) C dR_takeUnsigned_78 (by decide) ?_
          refine x_isubN C (by omega) dR_takeUnsigned_79 ?_
          refine x_callV C (c_R_fail D r cr g cg a ca wl wm wt (nx + kk) ap 0 none gb gz kn nu wo si de la le ro tm nd 2 (nx + kk - 1) (by decide)) kbR_73 kcR_73 [0, 1, 2, 3, 4, 5, 6, 7, 8, 9, 10, 11, 12, 13] [] [0, 1, 2, 3, 4, 5, 6, 7, 8, 9, 10] ([]) rfl rfl (by decide) (by decide) (by decide) rfl 0 rfl rfl ⟨Nat.le_of_ble_eq_true rfl, Nat.le_of_ble_eq_true rfl⟩ ⟨Nat.le_of_ble_eq_true rfl, Nat.le_of_ble_eq_true rfl⟩ [] rfl rfl (Nat.le_of_ble_eq_true rfl) dR_takeUnsigned_80 (fun rv ru hw => ?_)
          obtain ⟨rfl, rfl⟩ := hw
          show xk_Go K D 5 0 0 (tc_wR r cr (g 0) (a 0) wl wm wt (nx + kk) ap (tc_f1 0 2) (tc_f2 0 none (nx + kk - 1)) ++ (tc_wB g cg gb gz ++ tc_wS a ca kn nu wo si de la le ro tm nd)) [(0, .ref (r 0)), (1, .long (lN w)), (3, .int (nI kk)), (4, .int (nI b))] 83 []
          show xk_Go K D 5 0 0 (tc_wR r cr (g 0) (a 0) wl wm wt (nx + kk) ap 2 (some (nx + kk - 1)) ++ (tc_wB g cg gb gz ++ tc_wS a ca kn nu wo si de la le ro tm nd)) [(0, .ref (r 0)), (1, .long (lN w)), (3, .int (nI kk)), (4, .int (nI b))] 83 []
          refine x_lload_n C dR_takeUnsigned_83 rfl 1 rfl ?_
          exact x_lret C T rfl dR_takeUnsigned_84 (Or.inr (⟨_, _, 2, (nx + kk - 1), rfl, rfl, (tc_rU_f j1 (by first | exact Or.inl (by omega) | exact Or.inr (Or.inl ((pk_lLT (by decide) (by omega)).mp h61)) | exact Or.inr (Or.inr h69))), (by decide), j7, j8⟩))
        ·
          refine x_lload_n C dR_takeUnsigned_64 rfl 1 rfl ?_
          refine x_callS C (c_F_unsignedGroups D w (by omega)) kbR_110 kcR_110 [] [0, 1, 2, 3, 4, 5, 6, 7, 8, 9, 10, 11, 12, 13] [] (tc_wR r cr (g 0) (a 0) wl wm wt (nx + kk) ap 0 none ++ (tc_wB g cg gb gz ++ tc_wS a ca kn nu wo si de la le ro tm nd)) rfl rfl (by decide) (by decide) (by decide) rfl ⟨Nat.le_of_ble_eq_true rfl, Nat.le_of_ble_eq_true rfl⟩ ⟨Nat.le_of_ble_eq_true rfl, Nat.le_of_ble_eq_true rfl⟩ [] rfl rfl (Nat.le_of_ble_eq_true rfl) dR_takeUnsigned_65 (fun rv ru hw => ?_)
          obtain ⟨rfl, rfl⟩ := hw
          show xk_Go K D 5 0 0 (tc_wR r cr (g 0) (a 0) wl wm wt (nx + kk) ap 0 none ++ (tc_wB g cg gb gz ++ tc_wS a ca kn nu wo si de la le ro tm nd)) [(0, .ref (r 0)), (1, .long (lN w)), (3, .int (nI kk)), (4, .int (nI b))] 68 [.int (nI (tc_gU w))]
          have jg := tc_gU_le w
          refine x_iload_n C dR_takeUnsigned_68 rfl 2 rfl ?_
          refine x_icmp_eqN (tgt := 83) C (by omega) (by omega) dR_takeUnsigned_69 (by decide) (fun h69 => ?_) (fun h69 => ?_)
          ·
            refine x_lload_n C dR_takeUnsigned_83 rfl 1 rfl ?_
            exact x_lret C T rfl dR_takeUnsigned_84 (Or.inl (⟨_, _, rfl, rfl, (tc_rU_o j1 (by have z2 : ¬ 2147483647 < w := fun q => h61 ((pk_lLT (by decide) (by omega)).mpr q); omega)), j7, j8⟩))
          ·
            refine x_aload_n C dR_takeUnsigned_72 rfl 0 rfl ?_
            refine x_iconst (v := nI 2) C dR_takeUnsigned_73 (by decide) ?_
            refine x_aload_n C dR_takeUnsigned_74 rfl 0 rfl ?_
            refine x_get C fgR_22 0 rfl rfl dR_takeUnsigned_75 ?_
            refine x_iconst (v := nI 1) C dR_takeUnsigned_78 (by decide) ?_
            refine x_isubN C (by omega) dR_takeUnsigned_79 ?_
            refine x_callV C (c_R_fail D r cr g cg a ca wl wm wt (nx + kk) ap 0 none gb gz kn nu wo si de la le ro tm nd 2 (nx + kk - 1) (by decide)) kbR_73 kcR_73 [0, 1, 2, 3, 4, 5, 6, 7, 8, 9, 10, 11, 12, 13] [] [0, 1, 2, 3, 4, 5, 6, 7, 8, 9, 10] ([]) rfl rfl (by decide) (by decide) (by decide) rfl 0 rfl rfl ⟨Nat.le_of_ble_eq_true rfl, Nat.le_of_ble_eq_true rfl⟩ ⟨Nat.le_of_ble_eq_true rfl, Nat.le_of_ble_eq_true rfl⟩ [] rfl rfl (Nat.le_of_ble_eq_true rfl) dR_takeUnsigned_80 (fun rv ru hw => ?_)
            obtain ⟨rfl, rfl⟩ := hw
            show xk_Go K D 5 0 0 (tc_wR r cr (g 0) (a 0) wl wm wt (nx + kk) ap (tc_f1 0 2) (tc_f2 0 none (nx + kk - 1)) ++ (tc_wB g cg gb gz ++ tc_wS a ca kn nu wo si de la le ro tm nd)) [(0, .ref (r 0)), (1, .long (lN w)), (3, .int (nI kk)), (4, .int (nI b))] 83 []
            show xk_Go K D 5 0 0 (tc_wR r cr (g 0) (a 0) wl wm wt (nx + kk) ap 2 (some (nx + kk - 1)) ++ (tc_wB g cg gb gz ++ tc_wS a ca kn nu wo si de la le ro tm nd)) [(0, .ref (r 0)), (1, .long (lN w)), (3, .int (nI kk)), (4, .int (nI b))] 83 []
            refine x_lload_n C dR_takeUnsigned_83 rfl 1 rfl ?_
            exact x_lret C T rfl dR_takeUnsigned_84 (Or.inr (⟨_, _, 2, (nx + kk - 1), rfl, rfl, (tc_rU_f j1 (by first | exact Or.inl (by omega) | exact Or.inr (Or.inl ((pk_lLT (by decide) (by omega)).mp h61)) | exact Or.inr (Or.inr h69))), (by decide), j7, j8⟩))
  refine x_lconst (v := 0) C dR_takeUnsigned_0 (by decide) ?_
  refine x_lstore_n C [(1, .long 0), (0, .ref (r 0))] dR_takeUnsigned_1 rfl (by decide) rfl ?_
  refine x_iconst (v := nI 0) C dR_takeUnsigned_2 (by decide) ?_
  refine x_istore_n C [(3, .int (nI 0)), (1, .long 0), (0, .ref (r 0))] dR_takeUnsigned_3 rfl (by decide) rfl ?_
  refine x_sipush (v := nI 128) C dR_takeUnsigned_4 (by decide) ?_
  refine x_istore C [(4, .int (nI 128)), (3, .int (nI 0)), (1, .long 0), (0, .ref (r 0))] dR_takeUnsigned_7 (by decide) rfl ?_
  refine x_iload C dR_takeUnsigned_9 0 rfl ?_
  refine x_sipush (v := nI 128) C dR_takeUnsigned_11 (by decide) ?_
  refine x_icmp_lt (tgt := 48) C dR_takeUnsigned_14 (by decide) (fun h => absurd h (by decide)) (fun _ => ?_)
  refine x_iload_n C dR_takeUnsigned_17 rfl 1 rfl ?_
  refine x_iconst (v := nI 5) C dR_takeUnsigned_18 (by decide) ?_
  refine x_icmp_ge (tgt := 48) C dR_takeUnsigned_19 (by decide) (fun h => absurd h (by decide)) (fun _ => ?_)
  have lp22 : ∀ (zc : Nat) (v : Nat) (k : Nat), (5 - k) < zc → (k < 5) → (tc_scan (tc_B gb) gz 5 nx 0 0 = tc_scan (tc_B gb) gz (5 - k) (nx + k) v k) → (v < 2 ^ (7 * k)) → (nx + k ≤ gz) → xk_Go K D 5 0 0 (tc_wR r cr (g 0) (a 0) wl wm wt (nx + k) ap 0 none ++ (tc_wB g cg gb gz ++ tc_wS a ca kn nu wo si de la le ro tm nd)) [(0, .ref (r 0)), (1, .long (lN v)), (3, .int (nI k))] 22 [] := by
    intro zc
    induction zc with
    | zero => intro v k hm; exact absurd hm (Nat.not_lt_zero _)
    | succ zc ih22 =>
      intro v k hm e1 e2 e3 e4
      have hm : 5 - k = (4 - k) + 1 := by omega
      refine x_aload_n C dR_takeUnsigned_22 rfl 0 rfl ?_
      refine x_callV C (c_R_takeByte D r cr g cg a ca wl wm wt (nx + k) ap 0 none gb gz kn nu wo si de la le ro tm nd (by omega) y2 (by decide)) kbR_63 kcR_63 [0, 1, 2, 3, 4, 5, 6, 7, 8, 9, 10, 11, 12, 13] [] [0, 1, 2, 3, 4, 5, 6, 7, 8, 9, 10] ([]) rfl rfl (by decide) (by decide) (by decide) rfl 0 rfl rfl ⟨Nat.le_of_ble_eq_true rfl, Nat.le_of_ble_eq_true rfl⟩ ⟨Nat.le_of_ble_eq_true rfl, Nat.le_of_ble_eq_true rfl⟩ [] rfl rfl (Nat.le_of_ble_eq_true rfl) dR_takeUnsigned_23 (fun rv ru hw => ?_)
      rcases hw with ⟨rfl, rfl, g1t⟩ | ⟨rfl, rfl, g1t⟩
      ·
        show xk_Go K D 5 0 0 (tc_wR r cr (g 0) (a 0) wl wm wt (nx + k) ap (tc_f1 0 1) (tc_f2 0 none gz) ++ (tc_wB g cg gb gz ++ tc_wS a ca kn nu wo si de la le ro tm nd)) [(0, .ref (r 0)), (1, .long (lN v)), (3, .int (nI k))] 26 [.int (nI 0)]
        show xk_Go K D 5 0 0 (tc_wR r cr (g 0) (a 0) wl wm wt (nx + k) ap 1 (some gz) ++ (tc_wB g cg gb gz ++ tc_wS a ca kn nu wo si de la le ro tm nd)) [(0, .ref (r 0)), (1, .long (lN v)), (3, .int (nI k))] 26 [.int (nI 0)]
        refine x_istore C [(4, .int (nI 0)), (0, .ref (r 0)), (1, .long (lN v)), (3, .int (nI k))] dR_takeUnsigned_26 (by decide) rfl ?_
        refine x_lload_n C dR_takeUnsigned_28 rfl 2 rfl ?_
        refine x_iload C dR_takeUnsigned_29 0 rfl ?_
        refine x_bipush (v := nI 127) C dR_takeUnsigned_31 (by decide) ?_
        refine x_iand C dR_takeUnsigned_33 ?_
        refine x_top (y := nI 0) (by decide) ?_
        refine x_i2l (v := 0) C dR_takeUnsigned_34 (by decide) ?_
        refine x_bipush (v := nI 7) C dR_takeUnsigned_35 (by decide) ?_
        refine x_iload_n C dR_takeUnsigned_37 rfl 3 rfl ?_
        refine x_imulN C dR_takeUnsigned_38 ?_
        refine x_lshl (v := 0 <<< ((nI (7 * k)).toInt64 &&& 63)) C dR_takeUnsigned_39 rfl ?_
        refine x_lor C dR_takeUnsigned_40 ?_
        refine x_topl (tc_grp_or (g := 0) (by omega) e3) ?_
        have e3b := tc_grp_lt (g := 0) e3 (by omega)
        refine x_lstore_n C [(1, .long (lN (v + (0) * 2 ^ (7 * k)))), (4, .int (nI 0)), (0, .ref (r 0)), (3, .int (nI k))] dR_takeUnsigned_41 rfl (by decide) rfl ?_
        refine x_iinc (q := 3) C (nI (k + 1)) [(3, .int (nI (k + 1))), (1, .long (lN (v + (0) * 2 ^ (7 * k)))), (4, .int (nI 0)), (0, .ref (r 0))] dR_takeUnsigned_42 rfl (nI_add k 1) (by decide) rfl ?_
        refine x_goto C 9 dR_takeUnsigned_45 (by decide) ?_
        refine x_iload C dR_takeUnsigned_9 2 rfl ?_
        refine x_sipush (v := nI 128) C dR_takeUnsigned_11 (by decide) ?_
        refine x_icmp_lt (tgt := 48) C dR_takeUnsigned_14 (by decide) (fun _ => ?_) (fun h => absurd (by decide) h)
        exact x_sub [3, 1, 0, 2] rfl (jn48 (v + (0) * 2 ^ (7 * k)) (k + 1) 0 (nx + k) 1 (some gz) 0 true (e2.trans (by rw [hm, tc_scan_e g1t]; simp)) (Or.inl ⟨rfl, rfl, rfl⟩) (by omega) e3b)
      ·
        show xk_Go K D 5 0 0 (tc_wR r cr (g 0) (a 0) wl wm wt ((nx + k) + 1) ap 0 none ++ (tc_wB g cg gb gz ++ tc_wS a ca kn nu wo si de la le ro tm nd)) [(0, .ref (r 0)), (1, .long (lN v)), (3, .int (nI k))] 26 [.int (nI (gb (nx + k) % 256))]
        refine x_istore C [(4, .int (nI (gb (nx + k) % 256))), (0, .ref (r 0)), (1, .long (lN v)), (3, .int (nI k))] dR_takeUnsigned_26 (by decide) rfl ?_
        refine x_lload_n C dR_takeUnsigned_28 rfl 2 rfl ?_
        refine x_iload C dR_takeUnsigned_29 0 rfl ?_
        refine x_bipush (v := nI 127) C dR_takeUnsigned_31 (by decide) ?_
        refine x_iand C dR_takeUnsigned_33 ?_
        refine x_top (tc_and127N (by omega)) ?_
        refine x_i2l (v := lN ((gb (nx + k) % 256) % 128)) C dR_takeUnsigned_34 (nI_l (by omega)) ?_
        refine x_bipush (v := nI 7) C dR_takeUnsigned_35 (by decide) ?_
        refine x_iload_n C dR_takeUnsigned_37 rfl 3 rfl ?_
        refine x_imulN C dR_takeUnsigned_38 ?_
        refine x_lshl (v := (lN ((gb (nx + k) % 256) % 128)) <<< ((nI (7 * k)).toInt64 &&& 63)) C dR_takeUnsigned_39 rfl ?_
        refine x_lor C dR_takeUnsigned_40 ?_
        refine x_topl (tc_grp_or (g := (gb (nx + k) % 256) % 128) (by omega) e3) ?_
        have e3b := tc_grp_lt (g := (gb (nx + k) % 256) % 128) e3 (by omega)
        refine x_lstore_n C [(1, .long (lN (v + ((gb (nx + k) % 256) % 128) * 2 ^ (7 * k)))), (4, .int (nI (gb (nx + k) % 256))), (0, .ref (r 0)), (3, .int (nI k))] dR_takeUnsigned_41 rfl (by decide) rfl ?_
        refine x_iinc (q := 3) C (nI (k + 1)) [(3, .int (nI (k + 1))), (1, .long (lN (v + ((gb (nx + k) % 256) % 128) * 2 ^ (7 * k)))), (4, .int (nI (gb (nx + k) % 256))), (0, .ref (r 0))] dR_takeUnsigned_42 rfl (nI_add k 1) (by decide) rfl ?_
        refine x_goto C 9 dR_takeUnsigned_45 (by decide) ?_
        refine x_iload C dR_takeUnsigned_9 2 rfl ?_
        refine x_sipush (v := nI 128) C dR_takeUnsigned_11 (by decide) ?_
        refine x_icmp_ltN (tgt := 48) C (by omega) (by decide) dR_takeUnsigned_14 (by decide) (fun h14 => ?_) (fun h14 => ?_)
        ·
          exact x_sub [3, 1, 0, 2] rfl (jn48 (v + ((gb (nx + k) % 256) % 128) * 2 ^ (7 * k)) (k + 1) (gb (nx + k) % 256) ((nx + k) + 1) 0 none (gb (nx + k) % 256) false (e2.trans (by rw [hm, tc_scan_l (Nat.not_le.mpr g1t) h14]; simp only [tc_B]; rw [Nat.mod_eq_of_lt h14])) (Or.inr ⟨rfl, rfl, rfl, rfl, Or.inl ⟨rfl, h14⟩⟩) (by omega) e3b)
        ·
          refine x_iload_n C dR_takeUnsigned_17 rfl 0 rfl ?_
          refine x_iconst (v := nI 5) C dR_takeUnsigned_18 (by decide) ?_
          refine x_icmp_geN (tgt := 48) C (by omega) (by decide) dR_takeUnsigned_19 (by decide) (fun h19 => ?_) (fun h19 => ?_)
          ·
            exact x_sub [3, 1, 0, 2] rfl (jn48 (v + ((gb (nx + k) % 256) % 128) * 2 ^ (7 * k)) (k + 1) (gb (nx + k) % 256) ((nx + k) + 1) 0 none 128 false (e2.trans (by rw [hm, tc_scan_m (Nat.not_le.mpr g1t) (Nat.not_lt.mpr h14), show 4 - k = 0 by omega]; rfl)) (Or.inr ⟨rfl, rfl, rfl, rfl, Or.inr ⟨h14, rfl, by omega⟩⟩) (by omega) e3b)
          ·
            exact x_sub [3, 1, 0] rfl (ih22 (v + (gb (nx + k) % 256) % 128 * 2 ^ (7 * k)) (k + 1) (by omega) (by omega) (e2.trans (by rw [hm, tc_scan_m (Nat.not_le.mpr g1t) (Nat.not_lt.mpr h14), show 5 - (k + 1) = 4 - k by omega]; rfl)) e3b (by omega))
  exact x_sub [3, 2, 1] rfl (lp22 _ 0 0 (Nat.lt_succ_self _) (by decide) rfl (by decide) (by omega))
end
section
set_option maxHeartbeats 4000000 in
set_option maxRecDepth 100000 in
/-- takeSigned -/
theorem c_R_takeSigned (D : va_G) (r : Nat → Nat) (cr : Nat → ClassId) (g : Nat → Nat) (cg : Nat → ClassId) (a : Nat → Nat) (ca : Nat → ClassId) (wl : Nat → Nat) (wm : Nat → Nat) (wt : Nat) (nx : Nat) (ap : Nat) (gb : Nat → Nat) (gz : Nat) (kn : Nat → Nat) (nu : Nat → Int64) (wo : Nat → Int64) (si : Nat → Nat) (de : Nat → Nat) (la : Nat → Nat) (le : Nat → Nat) (ro : Nat → Nat) (tm : Nat) (nd : Nat) (y1 : nx ≤ gz) (y2 : gz ≤ 4096) (y4 : 0 < nx) : xk_Ct yR_takeSigned cR_takeSigned 7 (some .long) { frames := 2, cells := 0, slots := 0, locals := 43 } D (tc_tR cr ++ (tc_tB cg ++ tc_tS ca)) [.ref (r 0)] (tc_wR r cr (g 0) (a 0) wl wm wt nx ap 0 none ++ (tc_wB g cg gb gz ++ tc_wS a ca kn nu wo si de la le ro tm nd)) (fun rv ru => (∃ (xv : Int64), ∃ (nw : Nat), rv = some (.long xv) ∧ ru = tc_wR r cr (g 0) (a 0) wl wm wt nw ap 0 none ++ (tc_wB g cg gb gz ++ tc_wS a ca kn nu wo si de la le ro tm nd) ∧ (tc_rS (tc_B gb) gz nx = .inr (xv, nw)) ∧ (nx ≤ nw) ∧ (nw ≤ gz)) ∨ (∃ (xv : Int64), ∃ (nw : Nat), ∃ (f : Nat), ∃ (q : Nat), rv = some (.long xv) ∧ ru = tc_wR r cr (g 0) (a 0) wl wm wt nw ap f (some q) ++ (tc_wB g cg gb gz ++ tc_wS a ca kn nu wo si de la le ro tm nd) ∧ (tc_rS (tc_B gb) gz nx = .inl (f, q)) ∧ (0 < f ∧ f < 10) ∧ (nx ≤ nw) ∧ (nw ≤ gz))) := by
  refine xk_enter (by decide) (Nat.le_of_ble_eq_true rfl) (fun K C T hin => ?_)
  show xk_Go K D 7 0 0 (tc_wR r cr (g 0) (a 0) wl wm wt nx ap 0 none ++ (tc_wB g cg gb gz ++ tc_wS a ca kn nu wo si de la le ro tm nd)) [(0, .ref (r 0))] 0 []
  have jn49 : ∀ (w : Nat) (kk : Nat) (b : Nat) (nw : Nat) (fv : Nat) (pv : Option Nat) (bb : Nat) (e : Bool), (tc_scan (tc_B gb) gz 10 nx 0 0 = (w, kk, bb, e)) → ((e = true ∧ fv = 1 ∧ pv = some gz) ∨ (e = false ∧ fv = 0 ∧ pv = none ∧ nw = nx + kk ∧ ((bb = b ∧ b < 128) ∨ (128 ≤ b ∧ bb = 128 ∧ kk = 10)))) → (b < 256 ∧ nx ≤ nw ∧ nw ≤ gz ∧ 0 < kk ∧ kk ≤ 10) → (w < 2 ^ (7 * kk)) → xk_Go K D 7 0 0 (tc_wR r cr (g 0) (a 0) wl wm wt nw ap fv pv ++ (tc_wB g cg gb gz ++ tc_wS a ca kn nu wo si de la le ro tm nd)) [(0, .ref (r 0)), (1, .long (lN w)), (3, .int (nI kk)), (4, .int (nI b))] 49 [] := by
    intro w kk b nw fv pv bb e j1 j2 j3 j5
    obtain ⟨j6, j7, j8, j9, j10⟩ := j3
    refine x_iload_n C dR_takeSigned_49 rfl 2 rfl ?_
    rcases j2 with ⟨rfl, rfl, rfl⟩ | ⟨rfl, rfl, rfl, rfl, j4⟩
    ·
      refine x_bipush (v := nI 10) C dR_takeSigned_50 (by decide) ?_
      refine x_icmp_neN (tgt := 59) C (by omega) (by decide) dR_takeSigned_52 (by decide) (fun h52 => ?_) (fun h52 => ?_)
      ·
        refine x_iconst (v := nI 0) C dR_takeSigned_59 (by decide) ?_
        refine x_istore C [(5, .int (nI 0)), (0, .ref (r 0)), (1, .long (lN w)), (3, .int (nI kk)), (4, .int (nI b))] dR_takeSigned_60 (by decide) rfl ?_
        refine x_iload C dR_takeSigned_62 0 rfl ?_
        refine x_if_ne (tgt := 86) C dR_takeSigned_64 (by decide) (fun h => absurd (by decide) h) (fun _ => ?_)
        refine x_iload C dR_takeSigned_67 4 rfl ?_
        refine x_bipush (v := nI 64) C dR_takeSigned_69 (by decide) ?_
        refine x_iand C dR_takeSigned_71 ?_
        refine x_if_eq (tgt := 86) C dR_takeSigned_72 (by decide) (fun h72 => ?_) (fun h72 => ?_)
        ·
          refine x_iload C dR_takeSigned_86 0 rfl ?_
          refine x_if_eq (tgt := 103) C dR_takeSigned_88 (by decide) (fun _ => ?_) (fun h => absurd (by decide) h)
          refine x_iconst (v := nI 1) C dR_takeSigned_103 (by decide) ?_
          refine x_goto C 108 dR_takeSigned_104 (by decide) ?_
          refine x_istore C [(6, .int (nI 1)), (5, .int (nI 0)), (0, .ref (r 0)), (1, .long (lN w)), (3, .int (nI kk)), (4, .int (nI b))] dR_takeSigned_108 (by decide) rfl ?_
          refine x_iload C dR_takeSigned_110 0 rfl ?_
          refine x_if_eq (tgt := 123) C dR_takeSigned_112 (by decide) (fun h => absurd h (by decide)) (fun _ => ?_)
          refine x_lload_n C dR_takeSigned_115 rfl 3 rfl ?_
          refine x_callS C (c_F_signedGroups D (lN w)) kbR_116 kcR_116 [] [0, 1, 2, 3, 4, 5, 6, 7, 8, 9, 10, 11, 12, 13] [] (tc_wR r cr (g 0) (a 0) wl wm wt nw ap 1 (some gz) ++ (tc_wB g cg gb gz ++ tc_wS a ca kn nu wo si de la le ro tm nd)) rfl rfl (by decide) (by decide) (by decide) rfl ⟨Nat.le_of_ble_eq_true rfl, Nat.le_of_ble_eq_true rfl⟩ ⟨Nat.le_of_ble_eq_true rfl, Nat.le_of_ble_eq_true rfl⟩ [] rfl rfl (Nat.le_of_ble_eq_true rfl) dR_takeSigned_116 (fun rv ru hw => ?_)
          obtain ⟨rfl, rfl⟩ := hw
          show xk_Go K D 7 0 0 (tc_wR r cr (g 0) (a 0) wl wm wt nw ap 1 (some gz) ++ (tc_wB g cg gb gz ++ tc_wS a ca kn nu wo si de la le ro tm nd)) [(6, .int (nI 1)), (5, .int (nI 0)), (0, .ref (r 0)), (1, .long (lN w)), (3, .int (nI kk)), (4, .int (nI b))] 119 [.int (nI (tc_gS (lN w).toInt))]
          refine x_iload_n C dR_takeSigned_119 rfl 4 rfl ?_
          refine x_icmp_eqN (tgt := 134) C (Nat.lt_of_le_of_lt (tc_gS_le _) (by decide)) (by omega) dR_takeSigned_120 (by decide) (fun h120 => ?_) (fun h120 => ?_)
          ·
            refine x_lload_n C dR_takeSigned_134 rfl 3 rfl ?_
            exact x_lret C T rfl dR_takeSigned_135 (Or.inr (⟨_, _, 1, gz, rfl, rfl, (tc_rS_e j1), (by decide), j7, j8⟩))
          ·
            refine x_aload_n C dR_takeSigned_123 rfl 2 rfl ?_
            refine x_iconst (v := nI 2) C dR_takeSigned_124 (by decide) ?_
            refine x_aload_n C dR_takeSigned_125 rfl 2 rfl ?_
            refine x_get C fgR_22 0 rfl rfl dR_takeSigned_126 ?_
            refine x_iconst (v := nI 1) C dR_takeSigned_129 (by decide) ?_
            refine x_isubN C (by omega) dR_takeSigned_130 ?_
            refine x_callV C (c_R_fail D r cr g cg a ca wl wm wt nw ap 1 (some gz) gb gz kn nu wo si de la le ro tm nd 2 (nw - 1) (by decide)) kbR_73 kcR_73 [0, 1, 2, 3, 4, 5, 6, 7, 8, 9, 10, 11, 12, 13] [] [0, 1, 2, 3, 4, 5, 6, 7, 8, 9, 10] ([]) rfl rfl (by decide) (by decide) (by decide) rfl 0 rfl rfl ⟨Nat.le_of_ble_eq_true rfl, Nat.le_of_ble_eq_true rfl⟩ ⟨Nat.le_of_ble_eq_true rfl, Nat.le_of_ble_eq_true rfl⟩ [] rfl rfl (Nat.le_of_ble_eq_true rfl) dR_takeSigned_131 (fun rv ru hw => ?_)
            obtain ⟨rfl, rfl⟩ := hw
            show xk_Go K D 7 0 0 (tc_wR r cr (g 0) (a 0) wl wm wt nw ap (tc_f1 1 2) (tc_f2 1 (some gz) (nw - 1)) ++ (tc_wB g cg gb gz ++ tc_wS a ca kn nu wo si de la le ro tm nd)) [(6, .int (nI 1)), (5, .int (nI 0)), (0, .ref (r 0)), (1, .long (lN w)), (3, .int (nI kk)), (4, .int (nI b))] 134 []
            show xk_Go K D 7 0 0 (tc_wR r cr (g 0) (a 0) wl wm wt nw ap 1 (some gz) ++ (tc_wB g cg gb gz ++ tc_wS a ca kn nu wo si de la le ro tm nd)) [(6, .int (nI 1)), (5, .int (nI 0)), (0, .ref (r 0)), (1, .long (lN w)), (3, .int (nI kk)), (4, .int (nI b))] 134 []
            refine x_lload_n C dR_takeSigned_134 rfl 3 rfl ?_
            exact x_lret C T rfl dR_takeSigned_135 (Or.inr (⟨_, _, 1, gz, rfl, rfl, (tc_rS_e j1), (by decide), j7, j8⟩))
        ·
          refine x_lload_n C dR_takeSigned_75 rfl 2 rfl ?_
          refine x_ldc2 (v := (-1)) C dR_takeSigned_76 klR_114 ?_
          refine x_bipush (v := nI 7) C dR_takeSigned_79 (by decide) ?_
          refine x_iload_n C dR_takeSigned_81 rfl 3 rfl ?_
          refine x_imulN C dR_takeSigned_82 ?_
          refine x_lshl (v := (-1) <<< ((nI (7 * kk)).toInt64 &&& 63)) C dR_takeSigned_83 rfl ?_
          refine x_lor C dR_takeSigned_84 ?_
          refine x_lstore_n C [(1, .long ((lN w) ||| ((-1) <<< ((nI (7 * kk)).toInt64 &&& 63)))), (5, .int (nI 0)), (0, .ref (r 0)), (3, .int (nI kk)), (4, .int (nI b))] dR_takeSigned_85 rfl (by decide) rfl ?_
          refine x_iload C dR_takeSigned_86 1 rfl ?_
          refine x_if_eq (tgt := 103) C dR_takeSigned_88 (by decide) (fun _ => ?_) (fun h => absurd (by decide) h)
          refine x_iconst (v := nI 1) C dR_takeSigned_103 (by decide) ?_
          refine x_goto C 108 dR_takeSigned_104 (by decide) ?_
          refine x_istore C [(6, .int (nI 1)), (1, .long ((lN w) ||| ((-1) <<< ((nI (7 * kk)).toInt64 &&& 63)))), (5, .int (nI 0)), (0, .ref (r 0)), (3, .int (nI kk)), (4, .int (nI b))] dR_takeSigned_108 (by decide) rfl ?_
          refine x_iload C dR_takeSigned_110 0 rfl ?_
          refine x_if_eq (tgt := 123) C dR_takeSigned_112 (by decide) (fun h => absurd h (by decide)) (fun _ => ?_)
          refine x_lload_n C dR_takeSigned_115 rfl 1 rfl ?_
          refine x_callS C (c_F_signedGroups D ((lN w) ||| ((-1) <<< ((nI (7 * kk)).toInt64 &&& 63)))) kbR_116 kcR_116 [] [0, 1, 2, 3, 4, 5, 6, 7, 8, 9, 10, 11, 12, 13] [] (tc_wR r cr (g 0) (a 0) wl wm wt nw ap 1 (some gz) ++ (tc_wB g cg gb gz ++ tc_wS a ca kn nu wo si de la le ro tm nd)) rfl rfl (by decide) (by decide) (by decide) rfl ⟨Nat.le_of_ble_eq_true rfl, Nat.le_of_ble_eq_true rfl⟩ ⟨Nat.le_of_ble_eq_true rfl, Nat.le_of_ble_eq_true rfl⟩ [] rfl rfl (Nat.le_of_ble_eq_true rfl) dR_takeSigned_116 (fun rv ru hw => ?_)
          obtain ⟨rfl, rfl⟩ := hw
          show xk_Go K D 7 0 0 (tc_wR r cr (g 0) (a 0) wl wm wt nw ap 1 (some gz) ++ (tc_wB g cg gb gz ++ tc_wS a ca kn nu wo si de la le ro tm nd)) [(6, .int (nI 1)), (1, .long ((lN w) ||| ((-1) <<< ((nI (7 * kk)).toInt64 &&& 63)))), (5, .int (nI 0)), (0, .ref (r 0)), (3, .int (nI kk)), (4, .int (nI b))] 119 [.int (nI (tc_gS ((lN w) ||| ((-1) <<< ((nI (7 * kk)).toInt64 &&& 63))).toInt))]
          refine x_iload_n C dR_takeSigned_119 rfl 4 rfl ?_
          refine x_icmp_eqN (tgt := 134) C (Nat.lt_of_le_of_lt (tc_gS_le _) (by decide)) (by omega) dR_takeSigned_120 (by decide) (fun h120 => ?_) (fun h120 => ?_)
          ·
            refine x_lload_n C dR_takeSigned_134 rfl 1 rfl ?_
            exact x_lret C T rfl dR_takeSigned_135 (Or.inr (⟨_, _, 1, gz, rfl, rfl, (tc_rS_e j1), (by decide), j7, j8⟩))
          ·
            refine x_aload_n C dR_takeSigned_123 rfl 3 rfl ?_
            refine x_iconst (v := nI 2) C dR_takeSigned_124 (by decide) ?_
            refine x_aload_n C dR_takeSigned_125 rfl 3 rfl ?_
            refine x_get C fgR_22 0 rfl rfl dR_takeSigned_126 ?_
            refine x_iconst (v := nI 1) C dR_takeSigned_129 (by decide) ?_
            refine x_isubN C (by omega) dR_takeSigned_130 ?_
            refine x_callV C (c_R_fail D r cr g cg a ca wl wm wt nw ap 1 (some gz) gb gz kn nu wo si de la le ro tm nd 2 (nw - 1) (by decide)) kbR_73 kcR_73 [0, 1, 2, 3, 4, 5, 6, 7, 8, 9, 10, 11, 12, 13] [] [0, 1, 2, 3, 4, 5, 6, 7, 8, 9, 10] ([]) rfl rfl (by decide) (by decide) (by decide) rfl 0 rfl rfl ⟨Nat.le_of_ble_eq_true rfl, Nat.le_of_ble_eq_true rfl⟩ ⟨Nat.le_of_ble_eq_true rfl, Nat.le_of_ble_eq_true rfl⟩ [] rfl rfl (Nat.le_of_ble_eq_true rfl) dR_takeSigned_131 (fun rv ru hw => ?_)
            obtain ⟨rfl, rfl⟩ := hw
            show xk_Go K D 7 0 0 (tc_wR r cr (g 0) (a 0) wl wm wt nw ap (tc_f1 1 2) (tc_f2 1 (some gz) (nw - 1)) ++ (tc_wB g cg gb gz ++ tc_wS a ca kn nu wo si de la le ro tm nd)) [(6, .int (nI 1)), (1, .long ((lN w) ||| ((-1) <<< ((nI (7 * kk)).toInt64 &&& 63)))), (5, .int (nI 0)), (0, .ref (r 0)), (3, .int (nI kk)), (4, .int (nI b))] 134 []
            show xk_Go K D 7 0 0 (tc_wR r cr (g 0) (a 0) wl wm wt nw ap 1 (some gz) ++ (tc_wB g cg gb gz ++ tc_wS a ca kn nu wo si de la le ro tm nd)) [(6, .int (nI 1)), (1, .long ((lN w) ||| ((-1) <<< ((nI (7 * kk)).toInt64 &&& 63)))), (5, .int (nI 0)), (0, .ref (r 0)), (3, .int (nI kk)), (4, .int (nI b))] 134 []
            refine x_lload_n C dR_takeSigned_134 rfl 1 rfl ?_
            exact x_lret C T rfl dR_takeSigned_135 (Or.inr (⟨_, _, 1, gz, rfl, rfl, (tc_rS_e j1), (by decide), j7, j8⟩))
      ·
        refine x_iconst (v := nI 1) C dR_takeSigned_55 (by decide) ?_
        refine x_goto C 60 dR_takeSigned_56 (by decide) ?_
        refine x_istore C [(5, .int (nI 1)), (0, .ref (r 0)), (1, .long (lN w)), (3, .int (nI kk)), (4, .int (nI b))] dR_takeSigned_60 (by decide) rfl ?_
        refine x_iload C dR_takeSigned_62 0 rfl ?_
        refine x_if_ne (tgt := 86) C dR_takeSigned_64 (by decide) (fun _ => ?_) (fun h => absurd h (by decide))
        refine x_iload C dR_takeSigned_86 0 rfl ?_
        refine x_if_eq (tgt := 103) C dR_takeSigned_88 (by decide) (fun h => absurd h (by decide)) (fun _ => ?_)
        refine x_iload C dR_takeSigned_91 4 rfl ?_
        refine x_if_eqN (tgt := 103) C (by omega) dR_takeSigned_93 (by decide) (fun h93 => ?_) (fun h93 => ?_)
        ·
          refine x_iconst (v := nI 1) C dR_takeSigned_103 (by decide) ?_
          refine x_goto C 108 dR_takeSigned_104 (by decide) ?_
          refine x_istore C [(6, .int (nI 1)), (5, .int (nI 1)), (0, .ref (r 0)), (1, .long (lN w)), (3, .int (nI kk)), (4, .int (nI b))] dR_takeSigned_108 (by decide) rfl ?_
          refine x_iload C dR_takeSigned_110 0 rfl ?_
          refine x_if_eq (tgt := 123) C dR_takeSigned_112 (by decide) (fun h => absurd h (by decide)) (fun _ => ?_)
          refine x_lload_n C dR_takeSigned_115 rfl 3 rfl ?_
          refine x_callS C (c_F_signedGroups D (lN w)) kbR_116 kcR_116 [] [0, 1, 2, 3, 4, 5, 6, 7, 8, 9, 10, 11, 12, 13] [] (tc_wR r cr (g 0) (a 0) wl wm wt nw ap 1 (some gz) ++ (tc_wB g cg gb gz ++ tc_wS a ca kn nu wo si de la le ro tm nd)) rfl rfl (by decide) (by decide) (by decide) rfl ⟨Nat.le_of_ble_eq_true rfl, Nat.le_of_ble_eq_true rfl⟩ ⟨Nat.le_of_ble_eq_true rfl, Nat.le_of_ble_eq_true rfl⟩ [] rfl rfl (Nat.le_of_ble_eq_true rfl) dR_takeSigned_116 (fun rv ru hw => ?_)
          obtain ⟨rfl, rfl⟩ := hw
          show xk_Go K D 7 0 0 (tc_wR r cr (g 0) (a 0) wl wm wt nw ap 1 (some gz) ++ (tc_wB g cg gb gz ++ tc_wS a ca kn nu wo si de la le ro tm nd)) [(6, .int (nI 1)), (5, .int (nI 1)), (0, .ref (r 0)), (1, .long (lN w)), (3, .int (nI kk)), (4, .int (nI b))] 119 [.int (nI (tc_gS (lN w).toInt))]
          refine x_iload_n C dR_takeSigned_119 rfl 4 rfl ?_
          refine x_icmp_eqN (tgt := 134) C (Nat.lt_of_le_of_lt (tc_gS_le _) (by decide)) (by omega) dR_takeSigned_120 (by decide) (fun h120 => ?_) (fun h120 => ?_)
          ·
            refine x_lload_n C dR_takeSigned_134 rfl 3 rfl ?_
            exact x_lret C T rfl dR_takeSigned_135 (Or.inr (⟨_, _, 1, gz, rfl, rfl, (tc_rS_e j1), (by decide), j7, j8⟩))
          ·
            refine x_aload_n C dR_takeSigned_123 rfl 2 rfl ?_
            refine x_iconst (v := nI 2) C dR_takeSigned_124 (by decide) ?_
            refine x_aload_n C dR_takeSigned_125 rfl 2 rfl ?_
            refine x_get C fgR_22 0 rfl rfl dR_takeSigned_126 ?_
            refine x_iconst (v := nI 1) C dR_takeSigned_129 (by decide) ?_
            refine x_isubN C (by omega) dR_takeSigned_130 ?_
            refine x_callV C (c_R_fail D r cr g cg a ca wl wm wt nw ap 1 (some gz) gb gz kn nu wo si de la le ro tm nd 2 (nw - 1) (by decide)) kbR_73 kcR_73 [0, 1, 2, 3, 4, 5, 6, 7, 8, 9, 10, 11, 12, 13] [] [0, 1, 2, 3, 4, 5, 6, 7, 8, 9, 10] ([]) rfl rfl (by decide) (by decide) (by decide) rfl 0 rfl rfl ⟨Nat.le_of_ble_eq_true rfl, Nat.le_of_ble_eq_true rfl⟩ ⟨Nat.le_of_ble_eq_true rfl, Nat.le_of_ble_eq_true rfl⟩ [] rfl rfl (Nat.le_of_ble_eq_true rfl) dR_takeSigned_131 (fun rv ru hw => ?_)
            obtain ⟨rfl, rfl⟩ := hw
            show xk_Go K D 7 0 0 (tc_wR r cr (g 0) (a 0) wl wm wt nw ap (tc_f1 1 2) (tc_f2 1 (some gz) (nw - 1)) ++ (tc_wB g cg gb gz ++ tc_wS a ca kn nu wo si de la le ro tm nd)) [(6, .int (nI 1)), (5, .int (nI 1)), (0, .ref (r 0)), (1, .long (lN w)), (3, .int (nI kk)), (4, .int (nI b))] 134 []
            show xk_Go K D 7 0 0 (tc_wR r cr (g 0) (a 0) wl wm wt nw ap 1 (some gz) ++ (tc_wB g cg gb gz ++ tc_wS a ca kn nu wo si de la le ro tm nd)) [(6, .int (nI 1)), (5, .int (nI 1)), (0, .ref (r 0)), (1, .long (lN w)), (3, .int (nI kk)), (4, .int (nI b))] 134 []
            refine x_lload_n C dR_takeSigned_134 rfl 3 rfl ?_
            exact x_lret C T rfl dR_takeSigned_135 (Or.inr (⟨_, _, 1, gz, rfl, rfl, (tc_rS_e j1), (by decide), j7, j8⟩))
        ·
          refine x_iload C dR_takeSigned_96 4 rfl ?_
          refine x_bipush (v := nI 127) C dR_takeSigned_98 (by decide) ?_
          refine x_icmp_neN (tgt := 107) C (by omega) (by decide) dR_takeSigned_100 (by decide) (fun h100 => ?_) (fun h100 => ?_)
          ·
            refine x_iconst (v := nI 0) C dR_takeSigned_107 (by decide) ?_
            refine x_istore C [(6, .int (nI 0)), (5, .int (nI 1)), (0, .ref (r 0)), (1, .long (lN w)), (3, .int (nI kk)), (4, .int (nI b))] dR_takeSigned_108 (by decide) rfl ?_
            refine x_iload C dR_takeSigned_110 0 rfl ?_
            refine x_if_eq (tgt := 123) C dR_takeSigned_112 (by decide) (fun _ => ?_) (fun h => absurd (by decide) h)
            refine x_aload_n C dR_takeSigned_123 rfl 2 rfl ?_
            refine x_iconst (v := nI 2) C dR_takeSigned_124 (by decide) ?_
            refine x_aload_n C dR_takeSigned_125 rfl 2 rfl ?_
            refine x_get C fgR_22 0 rfl rfl dR_takeSigned_126 ?_
            refine x_iconst (v := nI 1) C dR_takeSigned_129 (by decide) ?_
            refine x_isubN C (by omega) dR_takeSigned_130 ?_
            refine x_callV C (c_R_fail D r cr g cg a ca wl wm wt nw ap 1 (some gz) gb gz kn nu wo si de la le ro tm nd 2 (nw - 1) (by decide)) kbR_73 kcR_73 [0, 1, 2, 3, 4, 5, 6, 7, 8, 9, 10, 11, 12, 13] [] [0, 1, 2, 3, 4, 5, 6, 7, 8, 9, 10] ([]) rfl rfl (by decide) (by decide) (by decide) rfl 0 rfl rfl ⟨Nat.le_of_ble_eq_true rfl, Nat.le_of_ble_eq_true rfl⟩ ⟨Nat.le_of_ble_eq_true rfl, Nat.le_of_ble_eq_true rfl⟩ [] rfl rfl (Nat.le_of_ble_eq_true rfl) dR_takeSigned_131 (fun rv ru hw => ?_)
            obtain ⟨rfl, rfl⟩ := hw
            show xk_Go K D 7 0 0 (tc_wR r cr (g 0) (a 0) wl wm wt nw ap (tc_f1 1 2) (tc_f2 1 (some gz) (nw - 1)) ++ (tc_wB g cg gb gz ++ tc_wS a ca kn nu wo si de la le ro tm nd)) [(6, .int (nI 0)), (5, .int (nI 1)), (0, .ref (r 0)), (1, .long (lN w)), (3, .int (nI kk)), (4, .int (nI b))] 134 []
            show xk_Go K D 7 0 0 (tc_wR r cr (g 0) (a 0) wl wm wt nw ap 1 (some gz) ++ (tc_wB g cg gb gz ++ tc_wS a ca kn nu wo si de la le ro tm nd)) [(6, .int (nI 0)), (5, .int (nI 1)), (0, .ref (r 0)), (1, .long (lN w)), (3, .int (nI kk)), (4, .int (nI b))] 134 []
            refine x_lload_n C dR_takeSigned_134 rfl 3 rfl ?_
            exact x_lret C T rfl dR_takeSigned_135 (Or.inr (⟨_, _, 1, gz, rfl, rfl, (tc_rS_e j1), (by decide), j7, j8⟩))
          ·
            refine x_iconst (v := nI 1) C dR_takeSigned_103 (by decide) ?_
            refine x_goto C 108 dR_takeSigned_104 (by decide) ?_
            refine x_istore C [(6, .int (nI 1)), (5, .int (nI 1)), (0, .ref (r 0)), (1, .long (lN w)), (3, .int (nI kk)), (4, .int (nI b))] dR_takeSigned_108 (by decide) rfl ?_
            refine x_iload C dR_takeSigned_110 0 rfl ?_
            refine x_if_eq (tgt := 123) C dR_takeSigned_112 (by decide) (fun h => absurd h (by decide)) (fun _ => ?_)
            refine x_lload_n C dR_takeSigned_115 rfl 3 rfl ?_
            refine x_callS C (c_F_signedGroups D (lN w)) kbR_116 kcR_116 [] [0, 1, 2, 3, 4, 5, 6, 7, 8, 9, 10, 11, 12, 13] [] (tc_wR r cr (g 0) (a 0) wl wm wt nw ap 1 (some gz) ++ (tc_wB g cg gb gz ++ tc_wS a ca kn nu wo si de la le ro tm nd)) rfl rfl (by decide) (by decide) (by decide) rfl ⟨Nat.le_of_ble_eq_true rfl, Nat.le_of_ble_eq_true rfl⟩ ⟨Nat.le_of_ble_eq_true rfl, Nat.le_of_ble_eq_true rfl⟩ [] rfl rfl (Nat.le_of_ble_eq_true rfl) dR_takeSigned_116 (fun rv ru hw => ?_)
            obtain ⟨rfl, rfl⟩ := hw
            show xk_Go K D 7 0 0 (tc_wR r cr (g 0) (a 0) wl wm wt nw ap 1 (some gz) ++ (tc_wB g cg gb gz ++ tc_wS a ca kn nu wo si de la le ro tm nd)) [(6, .int (nI 1)), (5, .int (nI 1)), (0, .ref (r 0)), (1, .long (lN w)), (3, .int (nI kk)), (4, .int (nI b))] 119 [.int (nI (tc_gS (lN w).toInt))]
            refine x_iload_n C dR_takeSigned_119 rfl 4 rfl ?_
            refine x_icmp_eqN (tgt := 134) C (Nat.lt_of_le_of_lt (tc_gS_le _) (by decide)) (by omega) dR_takeSigned_120 (by decide) (fun h120 => ?_) (fun h120 => ?_)
            ·
              refine x_lload_n C dR_takeSigned_134 rfl 3 rfl ?_
              exact x_lret C T rfl dR_takeSigned_135 (Or.inr (⟨_, _, 1, gz, rfl, rfl, (tc_rS_e j1), (by decide), j7, j8⟩))
            ·
              refine x_aload_n C dR_takeSigned_123 rfl 2 rfl ?_
              refine x_iconst (v := nI 2) C dR_takeSigned_124 (by decide) ?_
              refine x_aload_n C dR_takeSigned_125 rfl 2 rfl ?_
              refine x_get C fgR_22 0 rfl rfl dR_takeSigned_126 ?_
              refine x_iconst (v := nI 1) C dR_takeSigned_129 (by decide) ?_
              refine x_isubN C (by omega) dR_takeSigned_130 ?_
              refine x_callV C (c_R_fail D r cr g cg a ca wl wm wt nw ap 1 (some gz) gb gz kn nu wo si de la le ro tm nd 2 (nw - 1) (by decide)) kbR_73 kcR_73 [0, 1, 2, 3, 4, 5, 6, 7, 8, 9, 10, 11, 12, 13] [] [0, 1, 2, 3, 4, 5, 6, 7, 8, 9, 10] ([]) rfl rfl (by decide) (by decide) (by decide) rfl 0 rfl rfl ⟨Nat.le_of_ble_eq_true rfl, Nat.le_of_ble_eq_true rfl⟩ ⟨Nat.le_of_ble_eq_true rfl, Nat.le_of_ble_eq_true rfl⟩ [] rfl rfl (Nat.le_of_ble_eq_true rfl) dR_takeSigned_131 (fun rv ru hw => ?_)
              obtain ⟨rfl, rfl⟩ := hw
              show xk_Go K D 7 0 0 (tc_wR r cr (g 0) (a 0) wl wm wt nw ap (tc_f1 1 2) (tc_f2 1 (some gz) (nw - 1)) ++ (tc_wB g cg gb gz ++ tc_wS a ca kn nu wo si de la le ro tm nd)) [(6, .int (nI 1)), (5, .int (nI 1)), (0, .ref (r 0)), (1, .long (lN w)), (3, .int (nI kk)), (4, .int (nI b))] 134 []
              show xk_Go K D 7 0 0 (tc_wR r cr (g 0) (a 0) wl wm wt nw ap 1 (some gz) ++ (tc_wB g cg gb gz ++ tc_wS a ca kn nu wo si de la le ro tm nd)) [(6, .int (nI 1)), (5, .int (nI 1)), (0, .ref (r 0)), (1, .long (lN w)), (3, .int (nI kk)), (4, .int (nI b))] 134 []
              refine x_lload_n C dR_takeSigned_134 rfl 3 rfl ?_
              exact x_lret C T rfl dR_takeSigned_135 (Or.inr (⟨_, _, 1, gz, rfl, rfl, (tc_rS_e j1), (by decide), j7, j8⟩))
    ·
      refine x_bipush (v := nI 10) C dR_takeSigned_50 (by decide) ?_
      refine x_icmp_neN (tgt := 59) C (by omega) (by decide) dR_takeSigned_52 (by decide) (fun h52 => ?_) (fun h52 => ?_)
      ·
        refine x_iconst (v := nI 0) C dR_takeSigned_59 (by decide) ?_
        refine x_istore C [(5, .int (nI 0)), (0, .ref (r 0)), (1, .long (lN w)), (3, .int (nI kk)), (4, .int (nI b))] dR_takeSigned_60 (by decide) rfl ?_
        refine x_iload C dR_takeSigned_62 0 rfl ?_
        refine x_if_ne (tgt := 86) C dR_takeSigned_64 (by decide) (fun h => absurd (by decide) h) (fun _ => ?_)
        refine x_iload C dR_takeSigned_67 4 rfl ?_
        refine x_bipush (v := nI 64) C dR_takeSigned_69 (by decide) ?_
        refine x_iand C dR_takeSigned_71 ?_
        refine x_if_eq (tgt := 86) C dR_takeSigned_72 (by decide) (fun h72 => ?_) (fun h72 => ?_)
        ·
          have hb64 := (tc_and64 j6).mp h72
          have hsg : tc_sgn w kk bb = lN w := if_neg (by omega)
          refine x_iload C dR_takeSigned_86 0 rfl ?_
          refine x_if_eq (tgt := 103) C dR_takeSigned_88 (by decide) (fun _ => ?_) (fun h => absurd (by decide) h)
          refine x_iconst (v := nI 1) C dR_takeSigned_103 (by decide) ?_
          refine x_goto C 108 dR_takeSigned_104 (by decide) ?_
          refine x_istore C [(6, .int (nI 1)), (5, .int (nI 0)), (0, .ref (r 0)), (1, .long (lN w)), (3, .int (nI kk)), (4, .int (nI b))] dR_takeSigned_108 (by decide) rfl ?_
          refine x_iload C dR_takeSigned_110 0 rfl ?_
          refine x_if_eq (tgt := 123) C dR_takeSigned_112 (by decide) (fun h => absurd h (by decide)) (fun _ => ?_)
          refine x_lload_n C dR_takeSigned_115 rfl 3 rfl ?_
          refine x_callS C (c_F_signedGroups D (lN w)) kbR_116 kcR_116 [] [0, 1, 2, 3, 4, 5, 6, 7, 8, 9, 10, 11, 12, 13] [] (tc_wR r cr (g 0) (a 0) wl wm wt (nx + kk) ap 0 none ++ (tc_wB g cg gb gz ++ tc_wS a ca kn nu wo si de la le ro tm nd)) rfl rfl (by decide) (by decide) (by decide) rfl ⟨Nat.le_of_ble_eq_true rfl, Nat.le_of_ble_eq_true rfl⟩ ⟨Nat.le_of_ble_eq_true rfl, Nat.le_of_ble_eq_true rfl⟩ [] rfl rfl (Nat.le_of_ble_eq_true rfl) dR_takeSigned_116 (fun rv ru hw => ?_)
          obtain ⟨rfl, rfl⟩ := hw
          show xk_Go K D 7 0 0 (tc_wR r cr (g 0) (a 0) wl wm wt (nx + kk) ap 0 none ++ (tc_wB g cg gb gz ++ tc_wS a ca kn nu wo si de la le ro tm nd)) [(6, .int (nI 1)), (5, .int (nI 0)), (0, .ref (r 0)), (1, .long (lN w)), (3, .int (nI kk)), (4, .int (nI b))] 119 [.int (nI (tc_gS (lN w).toInt))]
          refine x_iload_n C dR_takeSigned_119 rfl 4 rfl ?_
          refine x_icmp_eqN (tgt := 134) C (Nat.lt_of_le_of_lt (tc_gS_le _) (by decide)) (by omega) dR_takeSigned_120 (by decide) (fun h120 => ?_) (fun h120 => ?_)
          ·
            refine x_lload_n C dR_takeSigned_134 rfl 3 rfl ?_
            exact x_lret C T rfl dR_takeSigned_135 (Or.inl (⟨_, _, rfl, rfl, ((tc_rS_o j1 (by rw [hsg]; intro q; rcases q with q | q | q <;> first | omega | exact q h120)).trans (by rw [hsg])), j7, j8⟩))
          ·
            refine x_aload_n C dR_takeSigned_123 rfl 2 rfl ?_
            refine x_iconst (v := nI 2) C dR_takeSigned_124 (by decide) ?_
            refine x_aload_n C dR_takeSigned_125 rfl 2 rfl ?_
            refine x_get C fgR_22 0 rfl rfl dR_takeSigned_126 ?_
            refine x_iconst (v := nI 1) C dR_takeSigned_129 (by decide) ?_
            refine x_isubN C (by omega) dR_takeSigned_130 ?_
            refine x_callV C (c_R_fail D r cr g cg a ca wl wm wt (nx + kk) ap 0 none gb gz kn nu wo si de la le ro tm nd 2 (nx + kk - 1) (by decide)) kbR_73 kcR_73 [0, 1, 2, 3, 4, 5, 6, 7, 8, 9, 10, 11, 12, 13] [] [0, 1, 2, 3, 4, 5, 6, 7, 8, 9, 10] ([]) rfl rfl (by decide) (by decide) (by decide) rfl 0 rfl rfl ⟨Nat.le_of_ble_eq_true rfl, Nat.le_of_ble_eq_true rfl⟩ ⟨Nat.le_of_ble_eq_true rfl, Nat.le_of_ble_eq_true rfl⟩ [] rfl rfl (Nat.le_of_ble_eq_true rfl) dR_takeSigned_131 (fun rv ru hw => ?_)
            obtain ⟨rfl, rfl⟩ := hw
            show xk_Go K D 7 0 0 (tc_wR r cr (g 0) (a 0) wl wm wt (nx + kk) ap (tc_f1 0 2) (tc_f2 0 none (nx + kk - 1)) ++ (tc_wB g cg gb gz ++ tc_wS a ca kn nu wo si de la le ro tm nd)) [(6, .int (nI 1)), (5, .int (nI 0)), (0, .ref (r 0)), (1, .long (lN w)), (3, .int (nI kk)), (4, .int (nI b))] 134 []
            show xk_Go K D 7 0 0 (tc_wR r cr (g 0) (a 0) wl wm wt (nx + kk) ap 2 (some (nx + kk - 1)) ++ (tc_wB g cg gb gz ++ tc_wS a ca kn nu wo si de la le ro tm nd)) [(6, .int (nI 1)), (5, .int (nI 0)), (0, .ref (r 0)), (1, .long (lN w)), (3, .int (nI kk)), (4, .int (nI b))] 134 []
            refine x_lload_n C dR_takeSigned_134 rfl 3 rfl ?_
            exact x_lret C T rfl dR_takeSigned_135 (Or.inr (⟨_, _, 2, (nx + kk - 1), rfl, rfl, (tc_rS_f j1 (by first | exact Or.inr (Or.inr (by rw [hsg]; exact h120)) | (rcases j4 with ⟨j4, j4b⟩ | ⟨j4, j4b, j4c⟩ <;> first | exact Or.inr (Or.inl (by omega)) | exact Or.inl (by omega)))), (by decide), j7, j8⟩))
        ·
          refine x_lload_n C dR_takeSigned_75 rfl 2 rfl ?_
          refine x_ldc2 (v := (-1)) C dR_takeSigned_76 klR_114 ?_
          refine x_bipush (v := nI 7) C dR_takeSigned_79 (by decide) ?_
          refine x_iload_n C dR_takeSigned_81 rfl 3 rfl ?_
          refine x_imulN C dR_takeSigned_82 ?_
          refine x_lshl (v := (-1) <<< ((nI (7 * kk)).toInt64 &&& 63)) C dR_takeSigned_83 rfl ?_
          refine x_lor C dR_takeSigned_84 ?_
          refine x_lstore_n C [(1, .long ((lN w) ||| ((-1) <<< ((nI (7 * kk)).toInt64 &&& 63)))), (5, .int (nI 0)), (0, .ref (r 0)), (3, .int (nI kk)), (4, .int (nI b))] dR_takeSigned_85 rfl (by decide) rfl ?_
          have hb64 : ¬ b % 128 < 64 := fun q => h72 ((tc_and64 j6).mpr q)
          have hsg : tc_sgn w kk bb = lN w ||| ((-1) <<< ((nI (7 * kk)).toInt64 &&& 63)) := if_pos (by omega)
          refine x_iload C dR_takeSigned_86 1 rfl ?_
          refine x_if_eq (tgt := 103) C dR_takeSigned_88 (by decide) (fun _ => ?_) (fun h => absurd (by decide) h)
          refine x_iconst (v := nI 1) C dR_takeSigned_103 (by decide) ?_
          refine x_goto C 108 dR_takeSigned_104 (by decide) ?_
          refine x_istore C [(6, .int (nI 1)), (1, .long ((lN w) ||| ((-1) <<< ((nI (7 * kk)).toInt64 &&& 63)))), (5, .int (nI 0)), (0, .ref (r 0)), (3, .int (nI kk)), (4, .int (nI b))] dR_takeSigned_108 (by decide) rfl ?_
          refine x_iload C dR_takeSigned_110 0 rfl ?_
          refine x_if_eq (tgt := 123) C dR_takeSigned_112 (by decide) (fun h => absurd h (by decide)) (fun _ => ?_)
          refine x_lload_n C dR_takeSigned_115 rfl 1 rfl ?_
          refine x_callS C (c_F_signedGroups D ((lN w) ||| ((-1) <<< ((nI (7 * kk)).toInt64 &&& 63)))) kbR_116 kcR_116 [] [0, 1, 2, 3, 4, 5, 6, 7, 8, 9, 10, 11, 12, 13] [] (tc_wR r cr (g 0) (a 0) wl wm wt (nx + kk) ap 0 none ++ (tc_wB g cg gb gz ++ tc_wS a ca kn nu wo si de la le ro tm nd)) rfl rfl (by decide) (by decide) (by decide) rfl ⟨Nat.le_of_ble_eq_true rfl, Nat.le_of_ble_eq_true rfl⟩ ⟨Nat.le_of_ble_eq_true rfl, Nat.le_of_ble_eq_true rfl⟩ [] rfl rfl (Nat.le_of_ble_eq_true rfl) dR_takeSigned_116 (fun rv ru hw => ?_)
          obtain ⟨rfl, rfl⟩ := hw
          show xk_Go K D 7 0 0 (tc_wR r cr (g 0) (a 0) wl wm wt (nx + kk) ap 0 none ++ (tc_wB g cg gb gz ++ tc_wS a ca kn nu wo si de la le ro tm nd)) [(6, .int (nI 1)), (1, .long ((lN w) ||| ((-1) <<< ((nI (7 * kk)).toInt64 &&& 63)))), (5, .int (nI 0)), (0, .ref (r 0)), (3, .int (nI kk)), (4, .int (nI b))] 119 [.int (nI (tc_gS ((lN w) ||| ((-1) <<< ((nI (7 * kk)).toInt64 &&& 63))).toInt))]
          refine x_iload_n C dR_takeSigned_119 rfl 4 rfl ?_
          refine x_icmp_eqN (tgt := 134) C (Nat.lt_of_le_of_lt (tc_gS_le _) (by decide)) (by omega) dR_takeSigned_120 (by decide) (fun h120 => ?_) (fun h120 => ?_)
          ·
            refine x_lload_n C dR_takeSigned_134 rfl 1 rfl ?_
            exact x_lret C T rfl dR_takeSigned_135 (Or.inl (⟨_, _, rfl, rfl, ((tc_rS_o j1 (by rw [hsg]; intro q; rcases q with q | q | q <;> first | omega | exact q h120)).trans (by rw [hsg])), j7, j8⟩))
          ·
            refine x_aload_n C dR_takeSigned_123 rfl 3 rfl ?_
            refine x_iconst (v := nI 2) C dR_takeSigned_124 (by decide) ?_
            refine x_aload_n C dR_takeSigned_125 rfl 3 rfl ?_
            refine x_get C fgR_22 0 rfl rfl dR_takeSigned_126 ?_
            refine x_iconst (v := nI 1) C dR_takeSigned_129 (by decide) ?_
            refine x_isubN C (by omega) dR_takeSigned_130 ?_
            refine x_callV C (c_R_fail D r cr g cg a ca wl wm wt (nx + kk) ap 0 none gb gz kn nu wo si de la le ro tm nd 2 (nx + kk - 1) (by decide)) kbR_73 kcR_73 [0, 1, 2, 3, 4, 5, 6, 7, 8, 9, 10, 11, 12, 13] [] [0, 1, 2, 3, 4, 5, 6, 7, 8, 9, 10] ([]) rfl rfl (by decide) (by decide) (by decide) rfl 0 rfl rfl ⟨Nat.le_of_ble_eq_true rfl, Nat.le_of_ble_eq_true rfl⟩ ⟨Nat.le_of_ble_eq_true rfl, Nat.le_of_ble_eq_true rfl⟩ [] rfl rfl (Nat.le_of_ble_eq_true rfl) dR_takeSigned_131 (fun rv ru hw => ?_)
            obtain ⟨rfl, rfl⟩ := hw
            show xk_Go K D 7 0 0 (tc_wR r cr (g 0) (a 0) wl wm wt (nx + kk) ap (tc_f1 0 2) (tc_f2 0 none (nx + kk - 1)) ++ (tc_wB g cg gb gz ++ tc_wS a ca kn nu wo si de la le ro tm nd)) [(6, .int (nI 1)), (1, .long ((lN w) ||| ((-1) <<< ((nI (7 * kk)).toInt64 &&& 63)))), (5, .int (nI 0)), (0, .ref (r 0)), (3, .int (nI kk)), (4, .int (nI b))] 134 []
            show xk_Go K D 7 0 0 (tc_wR r cr (g 0) (a 0) wl wm wt (nx + kk) ap 2 (some (nx + kk - 1)) ++ (tc_wB g cg gb gz ++ tc_wS a ca kn nu wo si de la le ro tm nd)) [(6, .int (nI 1)), (1, .long ((lN w) ||| ((-1) <<< ((nI (7 * kk)).toInt64 &&& 63)))), (5, .int (nI 0)), (0, .ref (r 0)), (3, .int (nI kk)), (4, .int (nI b))] 134 []
            refine x_lload_n C dR_takeSigned_134 rfl 1 rfl ?_
            exact x_lret C T rfl dR_takeSigned_135 (Or.inr (⟨_, _, 2, (nx + kk - 1), rfl, rfl, (tc_rS_f j1 (by first | exact Or.inr (Or.inr (by rw [hsg]; exact h120)) | (rcases j4 with ⟨j4, j4b⟩ | ⟨j4, j4b, j4c⟩ <;> first | exact Or.inr (Or.inl (by omega)) | exact Or.inl (by omega)))), (by decide), j7, j8⟩))
      ·
        refine x_iconst (v := nI 1) C dR_takeSigned_55 (by decide) ?_
        refine x_goto C 60 dR_takeSigned_56 (by decide) ?_
        refine x_istore C [(5, .int (nI 1)), (0, .ref (r 0)), (1, .long (lN w)), (3, .int (nI kk)), (4, .int (nI b))] dR_takeSigned_60 (by decide) rfl ?_
        refine x_iload C dR_takeSigned_62 0 rfl ?_
        refine x_if_ne (tgt := 86) C dR_takeSigned_64 (by decide) (fun _ => ?_) (fun h => absurd h (by decide))
        have hsg : tc_sgn w kk bb = lN w := if_neg (by omega)
        refine x_iload C dR_takeSigned_86 0 rfl ?_
        refine x_if_eq (tgt := 103) C dR_takeSigned_88 (by decide) (fun h => absurd h (by decide)) (fun _ => ?_)
        refine x_iload C dR_takeSigned_91 4 rfl ?_
        refine x_if_eqN (tgt := 103) C (by omega) dR_takeSigned_93 (by decide) (fun h93 => ?_) (fun h93 => ?_)
        ·
          refine x_iconst (v := nI 1) C dR_takeSigned_103 (by decide) ?_
          refine x_goto C 108 dR_takeSigned_104 (by decide) ?_
          refine x_istore C [(6, .int (nI 1)), (5, .int (nI 1)), (0, .ref (r 0)), (1, .long (lN w)), (3, .int (nI kk)), (4, .int (nI b))] dR_takeSigned_108 (by decide) rfl ?_
          refine x_iload C dR_takeSigned_110 0 rfl ?_
          refine x_if_eq (tgt := 123) C dR_takeSigned_112 (by decide) (fun h => absurd h (by decide)) (fun _ => ?_)
          refine x_lload_n C dR_takeSigned_115 rfl 3 rfl ?_
          refine x_callS C (c_F_signedGroups D (lN w)) kbR_116 kcR_116 [] [0, 1, 2, 3, 4, 5, 6, 7, 8, 9, 10, 11, 12, 13] [] (tc_wR r cr (g 0) (a 0) wl wm wt (nx + kk) ap 0 none ++ (tc_wB g cg gb gz ++ tc_wS a ca kn nu wo si de la le ro tm nd)) rfl rfl (by decide) (by decide) (by decide) rfl ⟨Nat.le_of_ble_eq_true rfl, Nat.le_of_ble_eq_true rfl⟩ ⟨Nat.le_of_ble_eq_true rfl, Nat.le_of_ble_eq_true rfl⟩ [] rfl rfl (Nat.le_of_ble_eq_true rfl) dR_takeSigned_116 (fun rv ru hw => ?_)
          obtain ⟨rfl, rfl⟩ := hw
          show xk_Go K D 7 0 0 (tc_wR r cr (g 0) (a 0) wl wm wt (nx + kk) ap 0 none ++ (tc_wB g cg gb gz ++ tc_wS a ca kn nu wo si de la le ro tm nd)) [(6, .int (nI 1)), (5, .int (nI 1)), (0, .ref (r 0)), (1, .long (lN w)), (3, .int (nI kk)), (4, .int (nI b))] 119 [.int (nI (tc_gS (lN w).toInt))]
          refine x_iload_n C dR_takeSigned_119 rfl 4 rfl ?_
          refine x_icmp_eqN (tgt := 134) C (Nat.lt_of_le_of_lt (tc_gS_le _) (by decide)) (by omega) dR_takeSigned_120 (by decide) (fun h120 => ?_) (fun h120 => ?_)
          ·
            refine x_lload_n C dR_takeSigned_134 rfl 3 rfl ?_
            exact x_lret C T rfl dR_takeSigned_135 (Or.inl (⟨_, _, rfl, rfl, ((tc_rS_o j1 (by rw [hsg]; intro q; rcases q with q | q | q <;> first | omega | exact q h120)).trans (by rw [hsg])), j7, j8⟩))
          ·
            refine x_aload_n C dR_takeSigned_123 rfl 2 rfl ?_
            refine x_iconst (v := nI 2) C dR_takeSigned_124 (by decide) ?_
            refine x_aload_n C dR_takeSigned_125 rfl 2 rfl ?_
            refine x_get C fgR_22 0 rfl rfl dR_takeSigned_126 ?_
            refine x_iconst (v := nI 1) C dR_takeSigned_129 (by decide) ?_
            refine x_isubN C (by omega) dR_takeSigned_130 ?_
            refine x_callV C (c_R_fail D r cr g cg a ca wl wm wt (nx + kk) ap 0 none gb gz kn nu wo si de la le ro tm nd 2 (nx + kk - 1) (by decide)) kbR_73 kcR_73 [0, 1, 2, 3, 4, 5, 6, 7, 8, 9, 10, 11, 12, 13] [] [0, 1, 2, 3, 4, 5, 6, 7, 8, 9, 10] ([]) rfl rfl (by decide) (by decide) (by decide) rfl 0 rfl rfl ⟨Nat.le_of_ble_eq_true rfl, Nat.le_of_ble_eq_true rfl⟩ ⟨Nat.le_of_ble_eq_true rfl, Nat.le_of_ble_eq_true rfl⟩ [] rfl rfl (Nat.le_of_ble_eq_true rfl) dR_takeSigned_131 (fun rv ru hw => ?_)
            obtain ⟨rfl, rfl⟩ := hw
            show xk_Go K D 7 0 0 (tc_wR r cr (g 0) (a 0) wl wm wt (nx + kk) ap (tc_f1 0 2) (tc_f2 0 none (nx + kk - 1)) ++ (tc_wB g cg gb gz ++ tc_wS a ca kn nu wo si de la le ro tm nd)) [(6, .int (nI 1)), (5, .int (nI 1)), (0, .ref (r 0)), (1, .long (lN w)), (3, .int (nI kk)), (4, .int (nI b))] 134 []
            show xk_Go K D 7 0 0 (tc_wR r cr (g 0) (a 0) wl wm wt (nx + kk) ap 2 (some (nx + kk - 1)) ++ (tc_wB g cg gb gz ++ tc_wS a ca kn nu wo si de la le ro tm nd)) [(6, .int (nI 1)), (5, .int (nI 1)), (0, .ref (r 0)), (1, .long (lN w)), (3, .int (nI kk)), (4, .int (nI b))] 134 []
            refine x_lload_n C dR_takeSigned_134 rfl 3 rfl ?_
            exact x_lret C T rfl dR_takeSigned_135 (Or.inr (⟨_, _, 2, (nx + kk - 1), rfl, rfl, (tc_rS_f j1 (by first | exact Or.inr (Or.inr (by rw [hsg]; exact h120)) | (rcases j4 with ⟨j4, j4b⟩ | ⟨j4, j4b, j4c⟩ <;> first | exact Or.inr (Or.inl (by omega)) | exact Or.inl (by omega)))), (by decide), j7, j8⟩))
        ·
          refine x_iload C dR_takeSigned_96 4 rfl ?_
          refine x_bipush (v := nI 127) C dR_takeSigned_98 (by decide) ?_
          refine x_icmp_neN (tgt := 107) C (by omega) (by decide) dR_takeSigned_100 (by decide) (fun h100 => ?_) (fun h100 => ?_)
          ·
            refine x_iconst (v := nI 0) C dR_takeSigned_107 (by decide) ?_
            refine x_istore C [(6, .int (nI 0)), (5, .int (nI 1)), (0, .ref (r 0)), (1, .long (lN w)), (3, .int (nI kk)), (4, .int (nI b))] dR_takeSigned_108 (by decide) rfl ?_
            refine x_iload C dR_takeSigned_110 0 rfl ?_
            refine x_if_eq (tgt := 123) C dR_takeSigned_112 (by decide) (fun _ => ?_) (fun h => absurd (by decide) h)
            refine x_aload_n C dR_takeSigned_123 rfl 2 rfl ?_
            refine x_iconst (v := nI 2) C dR_takeSigned_124 (by decide) ?_
            refine x_aload_n C dR_takeSigned_125 rfl 2 rfl ?_
            refine x_get C fgR_22 0 rfl rfl dR_takeSigned_126 ?_
            refine x_iconst (v := nI 1) C dR_takeSigned_129 (by decide) ?_
            refine x_isubN C (by omega) dR_takeSigned_130 ?_
            refine x_callV C (c_R_fail D r cr g cg a ca wl wm wt (nx + kk) ap 0 none gb gz kn nu wo si de la le ro tm nd 2 (nx + kk - 1) (by decide)) kbR_73 kcR_73 [0, 1, 2, 3, 4, 5, 6, 7, 8, 9, 10, 11, 12, 13] [] [0, 1, 2, 3, 4, 5, 6, 7, 8, 9, 10] ([]) rfl rfl (by decide) (by decide) (by decide) rfl 0 rfl rfl ⟨Nat.le_of_ble_eq_true rfl, Nat.le_of_ble_eq_true rfl⟩ ⟨Nat.le_of_ble_eq_true rfl, Nat.le_of_ble_eq_true rfl⟩ [] rfl rfl (Nat.le_of_ble_eq_true rfl) dR_takeSigned_131 (fun rv ru hw => ?_)
            obtain ⟨rfl, rfl⟩ := hw
            show xk_Go K D 7 0 0 (tc_wR r cr (g 0) (a 0) wl wm wt (nx + kk) ap (tc_f1 0 2) (tc_f2 0 none (nx + kk - 1)) ++ (tc_wB g cg gb gz ++ tc_wS a ca kn nu wo si de la le ro tm nd)) [(6, .int (nI 0)), (5, .int (nI 1)), (0, .ref (r 0)), (1, .long (lN w)), (3, .int (nI kk)), (4, .int (nI b))] 134 []
            show xk_Go K D 7 0 0 (tc_wR r cr (g 0) (a 0) wl wm wt (nx + kk) ap 2 (some (nx + kk - 1)) ++ (tc_wB g cg gb gz ++ tc_wS a ca kn nu wo si de la le ro tm nd)) [(6, .int (nI 0)), (5, .int (nI 1)), (0, .ref (r 0)), (1, .long (lN w)), (3, .int (nI kk)), (4, .int (nI b))] 134 []
            refine x_lload_n C dR_takeSigned_134 rfl 3 rfl ?_
            exact x_lret C T rfl dR_takeSigned_135 (Or.inr (⟨_, _, 2, (nx + kk - 1), rfl, rfl, (tc_rS_f j1 (by first | exact Or.inr (Or.inr (by rw [hsg]; exact h120)) | (rcases j4 with ⟨j4, j4b⟩ | ⟨j4, j4b, j4c⟩ <;> first | exact Or.inr (Or.inl (by omega)) | exact Or.inl (by omega)))), (by decide), j7, j8⟩))
          ·
            refine x_iconst (v := nI 1) C dR_takeSigned_103 (by decide) ?_
            refine x_goto C 108 dR_takeSigned_104 (by decide) ?_
            refine x_istore C [(6, .int (nI 1)), (5, .int (nI 1)), (0, .ref (r 0)), (1, .long (lN w)), (3, .int (nI kk)), (4, .int (nI b))] dR_takeSigned_108 (by decide) rfl ?_
            refine x_iload C dR_takeSigned_110 0 rfl ?_
            refine x_if_eq (tgt := 123) C dR_takeSigned_112 (by decide) (fun h => absurd h (by decide)) (fun _ => ?_)
            refine x_lload_n C dR_takeSigned_115 rfl 3 rfl ?_
            refine x_callS C (c_F_signedGroups D (lN w)) kbR_116 kcR_116 [] [0, 1, 2, 3, 4, 5, 6, 7, 8, 9, 10, 11, 12, 13] [] (tc_wR r cr (g 0) (a 0) wl wm wt (nx + kk) ap 0 none ++ (tc_wB g cg gb gz ++ tc_wS a ca kn nu wo si de la le ro tm nd)) rfl rfl (by decide) (by decide) (by decide) rfl ⟨Nat.le_of_ble_eq_true rfl, Nat.le_of_ble_eq_true rfl⟩ ⟨Nat.le_of_ble_eq_true rfl, Nat.le_of_ble_eq_true rfl⟩ [] rfl rfl (Nat.le_of_ble_eq_true rfl) dR_takeSigned_116 (fun rv ru hw => ?_)
            obtain ⟨rfl, rfl⟩ := hw
            show xk_Go K D 7 0 0 (tc_wR r cr (g 0) (a 0) wl wm wt (nx + kk) ap 0 none ++ (tc_wB g cg gb gz ++ tc_wS a ca kn nu wo si de la le ro tm nd)) [(6, .int (nI 1)), (5, .int (nI 1)), (0, .ref (r 0)), (1, .long (lN w)), (3, .int (nI kk)), (4, .int (nI b))] 119 [.int (nI (tc_gS (lN w).toInt))]
            refine x_iload_n C dR_takeSigned_119 rfl 4 rfl ?_
            refine x_icmp_eqN (tgt := 134) C (Nat.lt_of_le_of_lt (tc_gS_le _) (by decide)) (by omega) dR_takeSigned_120 (by decide) (fun h120 => ?_) (fun h120 => ?_)
            ·
              refine x_lload_n C dR_takeSigned_134 rfl 3 rfl ?_
              exact x_lret C T rfl dR_takeSigned_135 (Or.inl (⟨_, _, rfl, rfl, ((tc_rS_o j1 (by rw [hsg]; intro q; rcases q with q | q | q <;> first | omega | exact q h120)).trans (by rw [hsg])), j7, j8⟩))
            ·
              refine x_aload_n C dR_takeSigned_123 rfl 2 rfl ?_
              refine x_iconst (v := nI 2) C dR_takeSigned_124 (by decide) ?_
              refine x_aload_n C dR_takeSigned_125 rfl 2 rfl ?_
              refine x_get C fgR_22 0 rfl rfl dR_takeSigned_126 ?_
              refine x_iconst (v := nI 1) C dR_takeSigned_129 (by decide) ?_
              refine x_isubN C (by omega) dR_takeSigned_130 ?_
              refine x_callV C (c_R_fail D r cr g cg a ca wl wm wt (nx + kk) ap 0 none gb gz kn nu wo si de la le ro tm nd 2 (nx + kk - 1) (by decide)) kbR_73 kcR_73 [0, 1, 2, 3, 4, 5, 6, 7, 8, 9, 10, 11, 12, 13] [] [0, 1, 2, 3, 4, 5, 6, 7, 8, 9, 10] ([]) rfl rfl (by decide) (by decide) (by decide) rfl 0 rfl rfl ⟨Nat.le_of_ble_eq_true rfl, Nat.le_of_ble_eq_true rfl⟩ ⟨Nat.le_of_ble_eq_true rfl, Nat.le_of_ble_eq_true rfl⟩ [] rfl rfl (Nat.le_of_ble_eq_true rfl) dR_takeSigned_131 (fun rv ru hw => ?_)
              obtain ⟨rfl, rfl⟩ := hw
              show xk_Go K D 7 0 0 (tc_wR r cr (g 0) (a 0) wl wm wt (nx + kk) ap (tc_f1 0 2) (tc_f2 0 none (nx + kk - 1)) ++ (tc_wB g cg gb gz ++ tc_wS a ca kn nu wo si de la le ro tm nd)) [(6, .int (nI 1)), (5, .int (nI 1)), (0, .ref (r 0)), (1, .long (lN w)), (3, .int (nI kk)), (4, .int (nI b))] 134 []
              show xk_Go K D 7 0 0 (tc_wR r cr (g 0) (a 0) wl wm wt (nx + kk) ap 2 (some (nx + kk - 1)) ++ (tc_wB g cg gb gz ++ tc_wS a ca kn nu wo si de la le ro tm nd)) [(6, .int (nI 1)), (5, .int (nI 1)), (0, .ref (r 0)), (1, .long (lN w)), (3, .int (nI kk)), (4, .int (nI b))] 134 []
              refine x_lload_n C dR_takeSigned_134 rfl 3 rfl ?_
              exact x_lret C T rfl dR_takeSigned_135 (Or.inr (⟨_, _, 2, (nx + kk - 1), rfl, rfl, (tc_rS_f j1 (by first | exact Or.inr (Or.inr (by rw [hsg]; exact h120)) | (rcases j4 with ⟨j4, j4b⟩ | ⟨j4, j4b, j4c⟩ <;> first | exact Or.inr (Or.inl (by omega)) | exact Or.inl (by omega)))), (by decide), j7, j8⟩))
  refine x_lconst (v := 0) C dR_takeSigned_0 (by decide) ?_
  refine x_lstore_n C [(1, .long 0), (0, .ref (r 0))] dR_takeSigned_1 rfl (by decide) rfl ?_
  refine x_iconst (v := nI 0) C dR_takeSigned_2 (by decide) ?_
  refine x_istore_n C [(3, .int (nI 0)), (1, .long 0), (0, .ref (r 0))] dR_takeSigned_3 rfl (by decide) rfl ?_
  refine x_sipush (v := nI 128) C dR_takeSigned_4 (by decide) ?_
  refine x_istore C [(4, .int (nI 128)), (3, .int (nI 0)), (1, .long 0), (0, .ref (r 0))] dR_takeSigned_7 (by decide) rfl ?_
  refine x_iload C dR_takeSigned_9 0 rfl ?_
  refine x_sipush (v := nI 128) C dR_takeSigned_11 (by decide) ?_
  refine x_icmp_lt (tgt := 49) C dR_takeSigned_14 (by decide) (fun h => absurd h (by decide)) (fun _ => ?_)
  refine x_iload_n C dR_takeSigned_17 rfl 1 rfl ?_
  refine x_bipush (v := nI 10) C dR_takeSigned_18 (by decide) ?_
  refine x_icmp_ge (tgt := 49) C dR_takeSigned_20 (by decide) (fun h => absurd h (by decide)) (fun _ => ?_)
  have lp23 : ∀ (zc : Nat) (v : Nat) (k : Nat), (10 - k) < zc → (k < 10) → (tc_scan (tc_B gb) gz 10 nx 0 0 = tc_scan (tc_B gb) gz (10 - k) (nx + k) v k) → (v < 2 ^ (7 * k)) → (nx + k ≤ gz) → xk_Go K D 7 0 0 (tc_wR r cr (g 0) (a 0) wl wm wt (nx + k) ap 0 none ++ (tc_wB g cg gb gz ++ tc_wS a ca kn nu wo si de la le ro tm nd)) [(0, .ref (r 0)), (1, .long (lN v)), (3, .int (nI k))] 23 [] := by
    intro zc
    induction zc with
    | zero => intro v k hm; exact absurd hm (Nat.not_lt_zero _)
    | succ zc ih23 =>
      intro v k hm e1 e2 e3 e4
      have hm : 10 - k = (9 - k) + 1 := by omega
      refine x_aload_n C dR_takeSigned_23 rfl 0 rfl ?_
      refine x_callV C (c_R_takeByte D r cr g cg a ca wl wm wt (nx + k) ap 0 none gb gz kn nu wo si de la le ro tm nd (by omega) y2 (by decide)) kbR_63 kcR_63 [0, 1, 2, 3, 4, 5, 6, 7, 8, 9, 10, 11, 12, 13] [] [0, 1, 2, 3, 4, 5, 6, 7, 8, 9, 10] ([]) rfl rfl (by decide) (by decide) (by decide) rfl 0 rfl rfl ⟨Nat.le_of_ble_eq_true rfl, Nat.le_of_ble_eq_true rfl⟩ ⟨Nat.le_of_ble_eq_true rfl, Nat.le_of_ble_eq_true rfl⟩ [] rfl rfl (Nat.le_of_ble_eq_true rfl) dR_takeSigned_24 (fun rv ru hw => ?_)
      rcases hw with ⟨rfl, rfl, g1t⟩ | ⟨rfl, rfl, g1t⟩
      ·
        show xk_Go K D 7 0 0 (tc_wR r cr (g 0) (a 0) wl wm wt (nx + k) ap (tc_f1 0 1) (tc_f2 0 none gz) ++ (tc_wB g cg gb gz ++ tc_wS a ca kn nu wo si de la le ro tm nd)) [(0, .ref (r 0)), (1, .long (lN v)), (3, .int (nI k))] 27 [.int (nI 0)]
        show xk_Go K D 7 0 0 (tc_wR r cr (g 0) (a 0) wl wm wt (nx + k) ap 1 (some gz) ++ (tc_wB g cg gb gz ++ tc_wS a ca kn nu wo si de la le ro tm nd)) [(0, .ref (r 0)), (1, .long (lN v)), (3, .int (nI k))] 27 [.int (nI 0)]
        refine x_istore C [(4, .int (nI 0)), (0, .ref (r 0)), (1, .long (lN v)), (3, .int (nI k))] dR_takeSigned_27 (by decide) rfl ?_
        refine x_lload_n C dR_takeSigned_29 rfl 2 rfl ?_
        refine x_iload C dR_takeSigned_30 0 rfl ?_
        refine x_bipush (v := nI 127) C dR_takeSigned_32 (by decide) ?_
        refine x_iand C dR_takeSigned_34 ?_
        refine x_top (y := nI 0) (by decide) ?_
        refine x_i2l (v := 0) C dR_takeSigned_35 (by decide) ?_
        refine x_bipush (v := nI 7) C dR_takeSigned_36 (by decide) ?_
        refine x_iload_n C dR_takeSigned_38 rfl 3 rfl ?_
        refine x_imulN C dR_takeSigned_39 ?_
        refine x_lshl (v := 0 <<< ((nI (7 * k)).toInt64 &&& 63)) C dR_takeSigned_40 rfl ?_
        refine x_lor C dR_takeSigned_41 ?_
        refine x_topl (tc_grp_or (g := 0) (by omega) e3) ?_
        have e3b := tc_grp_lt (g := 0) e3 (by omega)
        refine x_lstore_n C [(1, .long (lN (v + (0) * 2 ^ (7 * k)))), (4, .int (nI 0)), (0, .ref (r 0)), (3, .int (nI k))] dR_takeSigned_42 rfl (by decide) rfl ?_
        refine x_iinc (q := 3) C (nI (k + 1)) [(3, .int (nI (k + 1))), (1, .long (lN (v + (0) * 2 ^ (7 * k)))), (4, .int (nI 0)), (0, .ref (r 0))] dR_takeSigned_43 rfl (nI_add k 1) (by decide) rfl ?_
        refine x_goto C 9 dR_takeSigned_46 (by decide) ?_
        refine x_iload C dR_takeSigned_9 2 rfl ?_
        refine x_sipush (v := nI 128) C dR_takeSigned_11 (by decide) ?_
        refine x_icmp_lt (tgt := 49) C dR_takeSigned_14 (by decide) (fun _ => ?_) (fun h => absurd (by decide) h)
        exact x_sub [3, 1, 0, 2] rfl (jn49 (v + (0) * 2 ^ (7 * k)) (k + 1) 0 (nx + k) 1 (some gz) 0 true (e2.trans (by rw [hm, tc_scan_e g1t]; simp)) (Or.inl ⟨rfl, rfl, rfl⟩) (by omega) e3b)
      ·
        show xk_Go K D 7 0 0 (tc_wR r cr (g 0) (a 0) wl wm wt ((nx + k) + 1) ap 0 none ++ (tc_wB g cg gb gz ++ tc_wS a ca kn nu wo si de la le ro tm nd)) [(0, .ref (r 0)), (1, .long (lN v)), (3, .int (nI k))] 27 [.int (nI (gb (nx + k) % 256))]
        refine x_istore C [(4, .int (nI (gb (nx + k) % 256))), (0, .ref (r 0)), (1, .long (lN v)), (3, .int (nI k))] dR_takeSigned_27 (by decide) rfl ?_
        refine x_lload_n C dR_takeSigned_29 rfl 2 rfl ?_
        refine x_iload C dR_takeSigned_30 0 rfl ?_
        refine x_bipush (v := nI 127) C dR_takeSigned_32 (by decide) ?_
        refine x_iand C dR_takeSigned_34 ?_
        refine x_top (tc_and127N (by omega)) ?_
        refine x_i2l (v := lN ((gb (nx + k) % 256) % 128)) C dR_takeSigned_35 (nI_l (by omega)) ?_
        refine x_bipush (v := nI 7) C dR_takeSigned_36 (by decide) ?_
        refine x_iload_n C dR_takeSigned_38 rfl 3 rfl ?_
        refine x_imulN C dR_takeSigned_39 ?_
        refine x_lshl (v := (lN ((gb (nx + k) % 256) % 128)) <<< ((nI (7 * k)).toInt64 &&& 63)) C dR_takeSigned_40 rfl ?_
        refine x_lor C dR_takeSigned_41 ?_
        refine x_topl (tc_grp_or (g := (gb (nx + k) % 256) % 128) (by omega) e3) ?_
        have e3b := tc_grp_lt (g := (gb (nx + k) % 256) % 128) e3 (by omega)
        refine x_lstore_n C [(1, .long (lN (v + ((gb (nx + k) % 256) % 128) * 2 ^ (7 * k)))), (4, .int (nI (gb (nx + k) % 256))), (0, .ref (r 0)), (3, .int (nI k))] dR_takeSigned_42 rfl (by decide) rfl ?_
        refine x_iinc (q := 3) C (nI (k + 1)) [(3, .int (nI (k + 1))), (1, .long (lN (v + ((gb (nx + k) % 256) % 128) * 2 ^ (7 * k)))), (4, .int (nI (gb (nx + k) % 256))), (0, .ref (r 0))] dR_takeSigned_43 rfl (nI_add k 1) (by decide) rfl ?_
        refine x_goto C 9 dR_takeSigned_46 (by decide) ?_
        refine x_iload C dR_takeSigned_9 2 rfl ?_
        refine x_sipush (v := nI 128) C dR_takeSigned_11 (by decide) ?_
        refine x_icmp_ltN (tgt := 49) C (by omega) (by decide) dR_takeSigned_14 (by decide) (fun h14 => ?_) (fun h14 => ?_)
        ·
          exact x_sub [3, 1, 0, 2] rfl (jn49 (v + ((gb (nx + k) % 256) % 128) * 2 ^ (7 * k)) (k + 1) (gb (nx + k) % 256) ((nx + k) + 1) 0 none (gb (nx + k) % 256) false (e2.trans (by rw [hm, tc_scan_l (Nat.not_le.mpr g1t) h14]; simp only [tc_B]; rw [Nat.mod_eq_of_lt h14])) (Or.inr ⟨rfl, rfl, rfl, rfl, Or.inl ⟨rfl, h14⟩⟩) (by omega) e3b)
        ·
          refine x_iload_n C dR_takeSigned_17 rfl 0 rfl ?_
          refine x_bipush (v := nI 10) C dR_takeSigned_18 (by decide) ?_
          refine x_icmp_geN (tgt := 49) C (by omega) (by decide) dR_takeSigned_20 (by decide) (fun h20 => ?_) (fun h20 => ?_)
          ·
            exact x_sub [3, 1, 0, 2] rfl (jn49 (v + ((gb (nx + k) % 256) % 128) * 2 ^ (7 * k)) (k + 1) (gb (nx + k) % 256) ((nx + k) + 1) 0 none 128 false (e2.trans (by rw [hm, tc_scan_m (Nat.not_le.mpr g1t) (Nat.not_lt.mpr h14), show 9 - k = 0 by omega]; rfl)) (Or.inr ⟨rfl, rfl, rfl, rfl, Or.inr ⟨h14, rfl, by omega⟩⟩) (by omega) e3b)
          ·
            exact x_sub [3, 1, 0] rfl (ih23 (v + (gb (nx + k) % 256) % 128 * 2 ^ (7 * k)) (k + 1) (by omega) (by omega) (e2.trans (by rw [hm, tc_scan_m (Nat.not_le.mpr g1t) (Nat.not_lt.mpr h14), show 10 - (k + 1) = 9 - k by omega]; rfl)) e3b (by omega))
  exact x_sub [3, 2, 1] rfl (lp23 _ 0 0 (Nat.lt_succ_self _) (by decide) rfl (by decide) (by omega))
end
section
set_option maxHeartbeats 4000000 in
set_option maxRecDepth 100000 in
/-- takeNumber -/
theorem c_R_takeNumber (D : va_G) (r : Nat → Nat) (cr : Nat → ClassId) (g : Nat → Nat) (cg : Nat → ClassId) (a : Nat → Nat) (ca : Nat → ClassId) (wl : Nat → Nat) (wm : Nat → Nat) (wt : Nat) (nx : Nat) (ap : Nat) (gb : Nat → Nat) (gz : Nat) (kn : Nat → Nat) (nu : Nat → Int64) (wo : Nat → Int64) (si : Nat → Nat) (de : Nat → Nat) (la : Nat → Nat) (le : Nat → Nat) (ro : Nat → Nat) (tm : Nat) (nd : Nat) (kd : Nat) (y1 : nx ≤ gz) (y2 : gz ≤ 4096) (y4 : 0 < nx) (y5 : kd = 0 ∨ kd = 1 ∨ kd = 2 ∨ kd = 3 ∨ kd = 4 ∨ kd = 5 ∨ kd = 6 ∨ kd = 7 ∨ kd = 8 ∨ kd = 9 ∨ kd = 10 ∨ kd = 11) : xk_Ct yR_takeNumber cR_takeNumber 2 (some .long) { frames := 3, cells := 0, slots := 0, locals := 69 } D (tc_tR cr ++ (tc_tB cg ++ tc_tS ca)) [.ref (r 0), .int (nI kd)] (tc_wR r cr (g 0) (a 0) wl wm wt nx ap 0 none ++ (tc_wB g cg gb gz ++ tc_wS a ca kn nu wo si de la le ro tm nd)) (fun rv ru => (∃ (xv : Int64), ∃ (nw : Nat), rv = some (.long xv) ∧ ru = tc_wR r cr (g 0) (a 0) wl wm wt nw ap 0 none ++ (tc_wB g cg gb gz ++ tc_wS a ca kn nu wo si de la le ro tm nd) ∧ (tc_rV (tc_B gb) gz kd nx = .inr (xv, nw)) ∧ (nx ≤ nw) ∧ (nw ≤ gz)) ∨ (∃ (xv : Int64), ∃ (nw : Nat), ∃ (f : Nat), ∃ (q : Nat), rv = some (.long xv) ∧ ru = tc_wR r cr (g 0) (a 0) wl wm wt nw ap f (some q) ++ (tc_wB g cg gb gz ++ tc_wS a ca kn nu wo si de la le ro tm nd) ∧ (tc_rV (tc_B gb) gz kd nx = .inl (f, q)) ∧ (0 < f ∧ f < 10) ∧ (nx ≤ nw) ∧ (nw ≤ gz))) := by
  refine xk_enter (by decide) (Nat.le_of_ble_eq_true rfl) (fun K C T hin => ?_)
  show xk_Go K D 2 0 0 (tc_wR r cr (g 0) (a 0) wl wm wt nx ap 0 none ++ (tc_wB g cg gb gz ++ tc_wS a ca kn nu wo si de la le ro tm nd)) [(0, .ref (r 0)), (1, .int (nI kd))] 0 []
  refine x_iload_n C dR_takeNumber_0 rfl 1 rfl ?_
  rcases y5 with rfl | rfl | rfl | rfl | rfl | rfl | rfl | rfl | rfl | rfl | rfl | rfl
  ·
    refine x_tblIn C 56 dR_takeNumber_1 (by decide) (by decide) rfl (by decide) ?_
    refine x_aload_n C dR_takeNumber_56 rfl 0 rfl ?_
    refine x_callV C (c_R_takeUnsigned D r cr g cg a ca wl wm wt nx ap gb gz kn nu wo si de la le ro tm nd y1 y2 y4) kbR_99 kcR_99 [0, 1, 2, 3, 4, 5, 6, 7, 8, 9, 10, 11, 12, 13] [] [0, 1, 2, 3, 4, 5, 6, 7, 8, 9, 10] ([]) rfl rfl (by decide) (by decide) (by decide) rfl 0 rfl rfl ⟨Nat.le_of_ble_eq_true rfl, Nat.le_of_ble_eq_true rfl⟩ ⟨Nat.le_of_ble_eq_true rfl, Nat.le_of_ble_eq_true rfl⟩ [] rfl rfl (Nat.le_of_ble_eq_true rfl) dR_takeNumber_57 (fun rv ru hw => ?_)
    rcases hw with ⟨xv, nw, rfl, rfl, g1, g2, g3⟩ | ⟨xv, nw, f, q, rfl, rfl, g1, g2, g3, g4⟩
    ·
      show xk_Go K D 2 0 0 (tc_wR r cr (g 0) (a 0) wl wm wt nw ap 0 none ++ (tc_wB g cg gb gz ++ tc_wS a ca kn nu wo si de la le ro tm nd)) [(0, .ref (r 0)), (1, .int (nI 0))] 60 [.long xv]
      exact x_lret C T rfl dR_takeNumber_60 (Or.inl (⟨_, _, rfl, rfl, g1, g2, g3⟩))
    ·
      show xk_Go K D 2 0 0 (tc_wR r cr (g 0) (a 0) wl wm wt nw ap f (some q) ++ (tc_wB g cg gb gz ++ tc_wS a ca kn nu wo si de la le ro tm nd)) [(0, .ref (r 0)), (1, .int (nI 0))] 60 [.long xv]
      exact x_lret C T rfl dR_takeNumber_60 (Or.inr (⟨_, _, f, q, rfl, rfl, g1, g2, g3, g4⟩))
  ·
    refine x_tblIn C 72 dR_takeNumber_1 (by decide) (by decide) rfl (by decide) ?_
    refine x_lconst (v := 0) C dR_takeNumber_72 (by decide) ?_
    exact x_lret C T rfl dR_takeNumber_73 (Or.inl (⟨_, _, rfl, rfl, rfl, (Nat.le_refl _), y1⟩))
  ·
    refine x_tblIn C 72 dR_takeNumber_1 (by decide) (by decide) rfl (by decide) ?_
    refine x_lconst (v := 0) C dR_takeNumber_72 (by decide) ?_
    exact x_lret C T rfl dR_takeNumber_73 (Or.inl (⟨_, _, rfl, rfl, rfl, (Nat.le_refl _), y1⟩))
  ·
    refine x_tblIn C 72 dR_takeNumber_1 (by decide) (by decide) rfl (by decide) ?_
    refine x_lconst (v := 0) C dR_takeNumber_72 (by decide) ?_
    exact x_lret C T rfl dR_takeNumber_73 (Or.inl (⟨_, _, rfl, rfl, rfl, (Nat.le_refl _), y1⟩))
  ·
    refine x_tblIn C 72 dR_takeNumber_1 (by decide) (by decide) rfl (by decide) ?_
    refine x_lconst (v := 0) C dR_takeNumber_72 (by decide) ?_
    exact x_lret C T rfl dR_takeNumber_73 (Or.inl (⟨_, _, rfl, rfl, rfl, (Nat.le_refl _), y1⟩))
  ·
    refine x_tblIn C 72 dR_takeNumber_1 (by decide) (by decide) rfl (by decide) ?_
    refine x_lconst (v := 0) C dR_takeNumber_72 (by decide) ?_
    exact x_lret C T rfl dR_takeNumber_73 (Or.inl (⟨_, _, rfl, rfl, rfl, (Nat.le_refl _), y1⟩))
  ·
    refine x_tblIn C 66 dR_takeNumber_1 (by decide) (by decide) rfl (by decide) ?_
    refine x_aload_n C dR_takeNumber_66 rfl 0 rfl ?_
    refine x_callV C (c_R_takeByte D r cr g cg a ca wl wm wt nx ap 0 none gb gz kn nu wo si de la le ro tm nd (by omega) y2 (by decide)) kbR_63 kcR_63 [0, 1, 2, 3, 4, 5, 6, 7, 8, 9, 10, 11, 12, 13] [] [0, 1, 2, 3, 4, 5, 6, 7, 8, 9, 10] ([]) rfl rfl (by decide) (by decide) (by decide) rfl 0 rfl rfl ⟨Nat.le_of_ble_eq_true rfl, Nat.le_of_ble_eq_true rfl⟩ ⟨Nat.le_of_ble_eq_true rfl, Nat.le_of_ble_eq_true rfl⟩ [] rfl rfl (Nat.le_of_ble_eq_true rfl) dR_takeNumber_67 (fun rv ru hw => ?_)
    rcases hw with ⟨rfl, rfl, g1t⟩ | ⟨rfl, rfl, g1t⟩
    ·
      show xk_Go K D 2 0 0 (tc_wR r cr (g 0) (a 0) wl wm wt nx ap (tc_f1 0 1) (tc_f2 0 none gz) ++ (tc_wB g cg gb gz ++ tc_wS a ca kn nu wo si de la le ro tm nd)) [(0, .ref (r 0)), (1, .int (nI 6))] 70 [.int (nI 0)]
      show xk_Go K D 2 0 0 (tc_wR r cr (g 0) (a 0) wl wm wt nx ap 1 (some gz) ++ (tc_wB g cg gb gz ++ tc_wS a ca kn nu wo si de la le ro tm nd)) [(0, .ref (r 0)), (1, .int (nI 6))] 70 [.int (nI 0)]
      refine x_i2l (v := 0) C dR_takeNumber_70 (by decide) ?_
      exact x_lret C T rfl dR_takeNumber_71 (Or.inr (⟨_, _, 1, gz, rfl, rfl, (if_pos g1t), (by decide), (Nat.le_refl _), y1⟩))
    ·
      show xk_Go K D 2 0 0 (tc_wR r cr (g 0) (a 0) wl wm wt (nx + 1) ap 0 none ++ (tc_wB g cg gb gz ++ tc_wS a ca kn nu wo si de la le ro tm nd)) [(0, .ref (r 0)), (1, .int (nI 6))] 70 [.int (nI (gb nx % 256))]
      refine x_i2l (v := lN (gb nx % 256)) C dR_takeNumber_70 (nI_l (by omega)) ?_
      exact x_lret C T rfl dR_takeNumber_71 (Or.inl (⟨_, _, rfl, rfl, (if_neg (Nat.not_le.mpr g1t)), (by omega), (by omega)⟩))
  ·
    refine x_tblIn C 61 dR_takeNumber_1 (by decide) (by decide) rfl (by decide) ?_
    refine x_aload_n C dR_takeNumber_61 rfl 0 rfl ?_
    refine x_callV C (c_R_takeSigned D r cr g cg a ca wl wm wt nx ap gb gz kn nu wo si de la le ro tm nd y1 y2 y4) kbR_103 kcR_103 [0, 1, 2, 3, 4, 5, 6, 7, 8, 9, 10, 11, 12, 13] [] [0, 1, 2, 3, 4, 5, 6, 7, 8, 9, 10] ([]) rfl rfl (by decide) (by decide) (by decide) rfl 0 rfl rfl ⟨Nat.le_of_ble_eq_true rfl, Nat.le_of_ble_eq_true rfl⟩ ⟨Nat.le_of_ble_eq_true rfl, Nat.le_of_ble_eq_true rfl⟩ [] rfl rfl (Nat.le_of_ble_eq_true rfl) dR_takeNumber_62 (fun rv ru hw => ?_)
    rcases hw with ⟨xv, nw, rfl, rfl, g1, g2, g3⟩ | ⟨xv, nw, f, q, rfl, rfl, g1, g2, g3, g4⟩
    ·
      show xk_Go K D 2 0 0 (tc_wR r cr (g 0) (a 0) wl wm wt nw ap 0 none ++ (tc_wB g cg gb gz ++ tc_wS a ca kn nu wo si de la le ro tm nd)) [(0, .ref (r 0)), (1, .int (nI 7))] 65 [.long xv]
      exact x_lret C T rfl dR_takeNumber_65 (Or.inl (⟨_, _, rfl, rfl, g1, g2, g3⟩))
    ·
      show xk_Go K D 2 0 0 (tc_wR r cr (g 0) (a 0) wl wm wt nw ap f (some q) ++ (tc_wB g cg gb gz ++ tc_wS a ca kn nu wo si de la le ro tm nd)) [(0, .ref (r 0)), (1, .int (nI 7))] 65 [.long xv]
      exact x_lret C T rfl dR_takeNumber_65 (Or.inr (⟨_, _, f, q, rfl, rfl, g1, g2, g3, g4⟩))
  ·
    refine x_tblIn C 66 dR_takeNumber_1 (by decide) (by decide) rfl (by decide) ?_
    refine x_aload_n C dR_takeNumber_66 rfl 0 rfl ?_
    refine x_callV C (c_R_takeByte D r cr g cg a ca wl wm wt nx ap 0 none gb gz kn nu wo si de la le ro tm nd (by omega) y2 (by decide)) kbR_63 kcR_63 [0, 1, 2, 3, 4, 5, 6, 7, 8, 9, 10, 11, 12, 13] [] [0, 1, 2, 3, 4, 5, 6, 7, 8, 9, 10] ([]) rfl rfl (by decide) (by decide) (by decide) rfl 0 rfl rfl ⟨Nat.le_of_ble_eq_true rfl, Nat.le_of_ble_eq_true rfl⟩ ⟨Nat.le_of_ble_eq_true rfl, Nat.le_of_ble_eq_true rfl⟩ [] rfl rfl (Nat.le_of_ble_eq_true rfl) dR_takeNumber_67 (fun rv ru hw => ?_)
    rcases hw with ⟨rfl, rfl, g1t⟩ | ⟨rfl, rfl, g1t⟩
    ·
      show xk_Go K D 2 0 0 (tc_wR r cr (g 0) (a 0) wl wm wt nx ap (tc_f1 0 1) (tc_f2 0 none gz) ++ (tc_wB g cg gb gz ++ tc_wS a ca kn nu wo si de la le ro tm nd)) [(0, .ref (r 0)), (1, .int (nI 8))] 70 [.int (nI 0)]
      show xk_Go K D 2 0 0 (tc_wR r cr (g 0) (a 0) wl wm wt nx ap 1 (some gz) ++ (tc_wB g cg gb gz ++ tc_wS a ca kn nu wo si de la le ro tm nd)) [(0, .ref (r 0)), (1, .int (nI 8))] 70 [.int (nI 0)]
      refine x_i2l (v := 0) C dR_takeNumber_70 (by decide) ?_
      exact x_lret C T rfl dR_takeNumber_71 (Or.inr (⟨_, _, 1, gz, rfl, rfl, (if_pos g1t), (by decide), (Nat.le_refl _), y1⟩))
    ·
      show xk_Go K D 2 0 0 (tc_wR r cr (g 0) (a 0) wl wm wt (nx + 1) ap 0 none ++ (tc_wB g cg gb gz ++ tc_wS a ca kn nu wo si de la le ro tm nd)) [(0, .ref (r 0)), (1, .int (nI 8))] 70 [.int (nI (gb nx % 256))]
      refine x_i2l (v := lN (gb nx % 256)) C dR_takeNumber_70 (nI_l (by omega)) ?_
      exact x_lret C T rfl dR_takeNumber_71 (Or.inl (⟨_, _, rfl, rfl, (if_neg (Nat.not_le.mpr g1t)), (by omega), (by omega)⟩))
  ·
    refine x_tblIn C 66 dR_takeNumber_1 (by decide) (by decide) rfl (by decide) ?_
    refine x_aload_n C dR_takeNumber_66 rfl 0 rfl ?_
    refine x_callV C (c_R_takeByte D r cr g cg a ca wl wm wt nx ap 0 none gb gz kn nu wo si de la le ro tm nd (by omega) y2 (by decide)) kbR_63 kcR_63 [0, 1, 2, 3, 4, 5, 6, 7, 8, 9, 10, 11, 12, 13] [] [0, 1, 2, 3, 4, 5, 6, 7, 8, 9, 10] ([]) rfl rfl (by decide) (by decide) (by decide) rfl 0 rfl rfl ⟨Nat.le_of_ble_eq_true rfl, Nat.le_of_ble_eq_true rfl⟩ ⟨Nat.le_of_ble_eq_true rfl, Nat.le_of_ble_eq_true rfl⟩ [] rfl rfl (Nat.le_of_ble_eq_true rfl) dR_takeNumber_67 (fun rv ru hw => ?_)
    rcases hw with ⟨rfl, rfl, g1t⟩ | ⟨rfl, rfl, g1t⟩
    ·
      show xk_Go K D 2 0 0 (tc_wR r cr (g 0) (a 0) wl wm wt nx ap (tc_f1 0 1) (tc_f2 0 none gz) ++ (tc_wB g cg gb gz ++ tc_wS a ca kn nu wo si de la le ro tm nd)) [(0, .ref (r 0)), (1, .int (nI 9))] 70 [.int (nI 0)]
      show xk_Go K D 2 0 0 (tc_wR r cr (g 0) (a 0) wl wm wt nx ap 1 (some gz) ++ (tc_wB g cg gb gz ++ tc_wS a ca kn nu wo si de la le ro tm nd)) [(0, .ref (r 0)), (1, .int (nI 9))] 70 [.int (nI 0)]
      refine x_i2l (v := 0) C dR_takeNumber_70 (by decide) ?_
      exact x_lret C T rfl dR_takeNumber_71 (Or.inr (⟨_, _, 1, gz, rfl, rfl, (if_pos g1t), (by decide), (Nat.le_refl _), y1⟩))
    ·
      show xk_Go K D 2 0 0 (tc_wR r cr (g 0) (a 0) wl wm wt (nx + 1) ap 0 none ++ (tc_wB g cg gb gz ++ tc_wS a ca kn nu wo si de la le ro tm nd)) [(0, .ref (r 0)), (1, .int (nI 9))] 70 [.int (nI (gb nx % 256))]
      refine x_i2l (v := lN (gb nx % 256)) C dR_takeNumber_70 (nI_l (by omega)) ?_
      exact x_lret C T rfl dR_takeNumber_71 (Or.inl (⟨_, _, rfl, rfl, (if_neg (Nat.not_le.mpr g1t)), (by omega), (by omega)⟩))
  ·
    refine x_tblOut C 72 dR_takeNumber_1 (by decide) (by decide) ?_
    refine x_lconst (v := 0) C dR_takeNumber_72 (by decide) ?_
    exact x_lret C T rfl dR_takeNumber_73 (Or.inl (⟨_, _, rfl, rfl, rfl, (Nat.le_refl _), y1⟩))
  ·
    refine x_tblOut C 72 dR_takeNumber_1 (by decide) (by decide) ?_
    refine x_lconst (v := 0) C dR_takeNumber_72 (by decide) ?_
    exact x_lret C T rfl dR_takeNumber_73 (Or.inl (⟨_, _, rfl, rfl, rfl, (Nat.le_refl _), y1⟩))
end
section
/-! PURE 16: the rest of a node. -/
section
variable {B : Nat → Nat} {n k p0 m p q : Nat} {x : Int64}
theorem tc_rE_l {e : Nat × Nat} (h : tc_rV B n k p = .inl e) : tc_rE B n k p0 m p = .inl e := by
  unfold tc_rE
  rw [h]
theorem tc_rE_3 (h : tc_rV B n k p = .inr (x, q)) (hf : tc_fit k x = false) : tc_rE B n k p0 m p = .inl (3, q - 1) := by
  unfold tc_rE
  rw [h]
  exact if_pos hf
theorem tc_rE_4 (h : tc_rV B n k p = .inr (x, q)) (hf : tc_fit k x = true) (h0 : k = 0) (hm : m < x.toInt.toNat) : tc_rE B n k p0 m p = .inl (4, p0) := by
  unfold tc_rE
  rw [h]
  show (if _ then _ else if _ then _ else _) = _
  rw [if_neg (by rw [hf]; decide), if_pos ⟨h0, hm⟩]
theorem tc_rE_o (h : tc_rV B n k p = .inr (x, q)) (hf : tc_fit k x = true) (hm : ¬ (k = 0 ∧ m < x.toInt.toNat)) (h8 : ¬ k = 8) : tc_rE B n k p0 m p = .inr ((k, x, []), q) := by
  unfold tc_rE
  rw [h]
  show (if _ then _ else if _ then _ else if _ then _ else _) = _
  rw [if_neg (by rw [hf]; decide), if_neg hm, if_neg h8]
theorem tc_rE_8f {c : Nat} (h : tc_rV B n k p = .inr (x, q)) (hf : tc_fit k x = true) (h8 : k = 8) (hc : x.toInt.toNat = c) (hl : n < q + c) : tc_rE B n k p0 m p = .inl (1, n) := by
  unfold tc_rE
  rw [h]
  show (if _ then _ else if _ then _ else if _ then (if _ then _ else _) else _) = _
  rw [if_neg (by rw [hf]; decide), if_neg (by omega), if_pos h8, if_neg (by omega)]
theorem tc_rE_8o {c : Nat} (h : tc_rV B n k p = .inr (x, q)) (hf : tc_fit k x = true) (h8 : k = 8) (hc : x.toInt.toNat = c) (hl : q + c ≤ n) : tc_rE B n k p0 m p = .inr ((8, x, tc_seg B q c), q + c) := by
  unfold tc_rE
  rw [h]
  show (if _ then _ else if _ then _ else if _ then (if _ then _ else _) else _) = _
  rw [if_neg (by rw [hf]; decide), if_neg (by omega), if_pos h8, if_pos (by omega), hc]
end
theorem tc_le_la {x : Int64} {la : Nat} (hl : la < 2 ^ 31) (h : x ≤ lN la) : ¬ la < x.toInt.toNat := by
  rw [Int64.le_iff_toInt_le, pk_lT (by omega)] at h
  omega
theorem tc_gt_la {x : Int64} {la : Nat} (hl : la < 2 ^ 31) (h : ¬ x ≤ lN la) : la < x.toInt.toNat := by
  rw [Int64.le_iff_toInt_le, pk_lT (by omega)] at h
  omega
theorem tc_fit8c {k : Nat} {x : Int64} (h8 : k = 8) (hf : tc_fit k x = true) : ∃ c, x = lN c ∧ c ≤ 64 ∧ x.toInt.toNat = c := by
  rw [tc_fit_iff, h8] at hf
  have hf : 0 ≤ x ∧ x ≤ 64 := hf
  have a1 : (0 : Int) ≤ x.toInt := Int64.le_iff_toInt_le.mp hf.1
  have a2 : x.toInt ≤ (64 : Int) := Int64.le_iff_toInt_le.mp hf.2
  refine ⟨x.toInt.toNat, Int64.toInt_inj.mp ?_, by omega, rfl⟩
  rw [pk_lT (by omega)]
  omega
theorem tc_lt0 {x : Int64} {c : Nat} (hc : x = lN c) (h64 : c ≤ 64) (h : ¬ x ≤ 0) : 0 < c := by
  rw [hc, Int64.le_iff_toInt_le, pk_lT (by omega)] at h
  have : ¬ (c : Int) ≤ 0 := h
  omega
theorem tc_le0 {x : Int64} {c : Nat} (hc : x = lN c) (h64 : c ≤ 64) (h : x ≤ 0) : c = 0 := by
  rw [hc, Int64.le_iff_toInt_le, pk_lT (by omega)] at h
  have : (c : Int) ≤ 0 := h
  omega
theorem tc_lt1 {x : Int64} {c j : Nat} (hc : x = lN c) (h64 : c ≤ 64) (hj : j < 2 ^ 31) (h : ¬ x ≤ lN j) : j < c := by
  rw [hc, pk_lLE (by omega) (by omega)] at h
  omega
theorem tc_le1 {x : Int64} {c j : Nat} (hc : x = lN c) (h64 : c ≤ 64) (hj : j < 2 ^ 31) (h : x ≤ lN j) : c ≤ j := by
  rw [hc, pk_lLE (by omega) (by omega)] at h
  exact h
theorem tc_seg_step {B : Nat → Nat} {wo wg wh : Nat → Int64} {i j nw : Nat} (e2 : ∀ q t, t < 64 → tc_wb wg q t = if q = i ∧ t < j then B (nw + t) else tc_wb wo q t) (g : ∀ q t, t < 64 → tc_wb wh q t = if q = i ∧ t = j then B (nw + j) else tc_wb wg q t) :
    ∀ q t, t < 64 → tc_wb wh q t = if q = i ∧ t < j + 1 then B (nw + t) else tc_wb wo q t := by
  intro q t ht
  rw [g q t ht]
  by_cases h : q = i ∧ t = j
  · rw [if_pos h, if_pos ⟨h.1, by omega⟩, h.2]
  · rw [if_neg h, e2 q t ht]
    by_cases h2 : q = i ∧ t < j
    · rw [if_pos h2, if_pos ⟨h2.1, by omega⟩]
    · rw [if_neg h2, if_neg (fun z => h2 ⟨z.1, by
        have : ¬ t = j := fun y => h ⟨z.1, y⟩
        have := z.2
        omega⟩)]
theorem tc_keep8 {B : Nat → Nat} {kn : Nat → Nat} {nu wo wg wh : Nat → Int64} {i j nw kd b : Nat} {xv : Int64} (e2 : ∀ q t, t < 64 → tc_wb wg q t = if q = i ∧ t < j then B (nw + t) else tc_wb wo q t) (g : ∀ q t, t < 64 → tc_wb wh q t = if q = i ∧ t = j then b else tc_wb wg q t) :
    ∀ y, y ≠ i → va_up kn i kd y = kn y ∧ vp_updL nu i xv y = nu y ∧ ∀ t, t < 64 → tc_wb wh y t = tc_wb wo y t := by
  intro y hy
  refine ⟨va_up_ne _ _ hy, pk_uLn hy, fun t ht => ?_⟩
  rw [g y t ht, if_neg (fun z => hy z.1), e2 y t ht, if_neg (fun z => hy z.1)]
theorem tc_seg_len (B : Nat → Nat) (p m : Nat) : (tc_seg B p m).length = m := by simp [tc_seg]
theorem tc_seg_at {B : Nat → Nat} {p m t b : Nat} (h : (tc_seg B p m)[t]? = some b) : t < m ∧ b = B (p + t) := by
  have hl : t < (tc_seg B p m).length := (List.getElem?_eq_some_iff.mp h).1
  rw [tc_seg_len] at hl
  refine ⟨hl, ?_⟩
  unfold tc_seg at h
  rw [List.getElem?_map, List.getElem?_range hl] at h
  exact (Option.some.inj h).symm
theorem tc_seg8 {B : Nat → Nat} {wo wg wh : Nat → Int64} {i j nw c : Nat} (e2 : ∀ q t, t < 64 → tc_wb wg q t = if q = i ∧ t < j then B (nw + t) else tc_wb wo q t) (g : ∀ q t, t < 64 → tc_wb wh q t = if q = i ∧ t = j then B (nw + j) else tc_wb wg q t) (hc : c = j + 1) (h64 : c ≤ 64) :
    ∀ t b, (tc_seg B nw c)[t]? = some b → tc_wb wh i t = b := by
  intro t b hb
  obtain ⟨h1, h2⟩ := tc_seg_at hb
  rw [tc_seg_step e2 g i t (by omega), if_pos ⟨rfl, by omega⟩, h2]
end
section
set_option maxHeartbeats 4000000 in
set_option maxRecDepth 100000 in
/-- readNumber -/
theorem c_R_readNumber (D : va_G) (r : Nat → Nat) (cr : Nat → ClassId) (g : Nat → Nat) (cg : Nat → ClassId) (a : Nat → Nat) (ca : Nat → ClassId) (wl : Nat → Nat) (wm : Nat → Nat) (wt : Nat) (nx : Nat) (ap : Nat) (gb : Nat → Nat) (gz : Nat) (kn : Nat → Nat) (nu : Nat → Int64) (wo : Nat → Int64) (si : Nat → Nat) (de : Nat → Nat) (la : Nat → Nat) (le : Nat → Nat) (ro : Nat → Nat) (tm : Nat) (nd : Nat) (i : Nat) (kd : Nat) (lb : Nat) (y1 : nx ≤ gz) (y2 : gz ≤ 4096) (y4 : 0 < nx) (y5 : kd = 0 ∨ kd = 1 ∨ kd = 2 ∨ kd = 3 ∨ kd = 4 ∨ kd = 5 ∨ kd = 6 ∨ kd = 7 ∨ kd = 8 ∨ kd = 9 ∨ kd = 10 ∨ kd = 11) (y6 : i < 200) (y7 : lb < 2 ^ 31) : xk_Ct yR_readNumber cR_readNumber 8 none { frames := 4, cells := 0, slots := 0, locals := 90 } D (tc_tR cr ++ (tc_tB cg ++ tc_tS ca)) [.ref (r 0), .int (nI i), .int (nI kd), .int (nI lb)] (tc_wR r cr (g 0) (a 0) wl wm wt nx ap 0 none ++ (tc_wB g cg gb gz ++ tc_wS a ca kn nu wo si de la le ro tm nd)) (fun rv ru => (∃ (x : tc_Nd), ∃ (nw : Nat), ∃ (kg : Nat → Nat), ∃ (ug : Nat → Int64), ∃ (wg : Nat → Int64), rv = none ∧ ru = tc_wR r cr (g 0) (a 0) wl wm wt nw ap 0 none ++ (tc_wB g cg gb gz ++ tc_wS a ca kg ug wg si de la le ro tm nd) ∧ (tc_rE (tc_B gb) gz kd (nx - 1) lb nx = .inr (x, nw)) ∧ (∀ j, j ≠ i → kg j = kn j ∧ ug j = nu j ∧ ∀ t, t < 64 → tc_wb wg j t = tc_wb wo j t) ∧ (kg i = x.1 ∧ ug i = x.2.1 ∧ ∀ t b, x.2.2[t]? = some b → tc_wb wg i t = b) ∧ (nx ≤ nw) ∧ (nw ≤ gz)) ∨ (∃ (f : Nat), ∃ (q : Nat), ∃ (nw : Nat), ∃ (kg : Nat → Nat), ∃ (ug : Nat → Int64), ∃ (wg : Nat → Int64), rv = none ∧ ru = tc_wR r cr (g 0) (a 0) wl wm wt nw ap f (some q) ++ (tc_wB g cg gb gz ++ tc_wS a ca kg ug wg si de la le ro tm nd) ∧ (tc_rE (tc_B gb) gz kd (nx - 1) lb nx = .inl (f, q)) ∧ (∀ j, j ≠ i → kg j = kn j ∧ ug j = nu j ∧ ∀ t, t < 64 → tc_wb wg j t = tc_wb wo j t) ∧ (0 < f ∧ f < 10) ∧ (nx ≤ nw) ∧ (nw ≤ gz))) := by
  refine xk_enter (by decide) (Nat.le_of_ble_eq_true rfl) (fun K C T hin => ?_)
  have yk : kd ≤ 11 := by omega
  show xk_Go K D 8 0 0 (tc_wR r cr (g 0) (a 0) wl wm wt nx ap 0 none ++ (tc_wB g cg gb gz ++ tc_wS a ca kn nu wo si de la le ro tm nd)) [(0, .ref (r 0)), (1, .int (nI i)), (2, .int (nI kd)), (3, .int (nI lb))] 0 []
  refine x_aload_n C dR_readNumber_0 rfl 0 rfl ?_
  refine x_get C fgR_22 0 rfl rfl dR_readNumber_1 ?_
  refine x_iconst (v := nI 1) C dR_readNumber_4 (by decide) ?_
  refine x_isubN C (by omega) dR_readNumber_5 ?_
  refine x_istore C [(4, .int (nI (nx - 1))), (0, .ref (r 0)), (1, .int (nI i)), (2, .int (nI kd)), (3, .int (nI lb))] dR_readNumber_6 (by decide) rfl ?_
  have jn54 : ∀ (xv : Int64) (nw : Nat) (fv : Nat) (pv : Option Nat), ((fv = 0 ∧ pv = none ∧ tc_rV (tc_B gb) gz kd nx = .inr (xv, nw) ∧ tc_fit kd xv = true ∧ ¬ (kd = 0 ∧ lb < xv.toInt.toNat)) ∨ (0 < fv ∧ fv < 10 ∧ ∃ q, pv = some q ∧ tc_rE (tc_B gb) gz kd (nx - 1) lb nx = .inl (fv, q))) → (nx ≤ nw) → (nw ≤ gz) → xk_Go K D 8 0 0 (tc_wR r cr (g 0) (a 0) wl wm wt nw ap fv pv ++ (tc_wB g cg gb gz ++ tc_wS a ca kn nu wo si de la le ro tm nd)) [(0, .ref (r 0)), (1, .int (nI i)), (2, .int (nI kd)), (3, .int (nI lb)), (5, .long xv)] 54 [] := by
    intro xv nw fv pv jj j4 j5
    refine x_aload_n C dR_readNumber_54 rfl 0 rfl ?_
    refine x_get C fgR_38 0 rfl rfl dR_readNumber_55 ?_
    refine x_iload_n C dR_readNumber_58 rfl 1 rfl ?_
    refine x_iload_n C dR_readNumber_59 rfl 2 rfl ?_
    refine x_lload C dR_readNumber_60 4 rfl ?_
    refine x_callV C (c_S_setNode D a ca kn nu wo si de la le ro tm nd i kd xv y6) kbR_92 kcR_92 [5, 6, 7, 8, 9, 10, 11, 12, 13] [0, 1, 2, 3, 4] [3, 4, 5, 6, 7, 8, 9, 10] (tc_wR r cr (g 0) (a 0) wl wm wt nw ap fv pv ++ tc_wB g cg gb gz) rfl rfl (by decide) (by decide) (by decide) rfl 0 rfl rfl ⟨Nat.le_of_ble_eq_true rfl, Nat.le_of_ble_eq_true rfl⟩ ⟨Nat.le_of_ble_eq_true rfl, Nat.le_of_ble_eq_true rfl⟩ [] rfl rfl (Nat.le_of_ble_eq_true rfl) dR_readNumber_62 (fun rv ru hw => ?_)
    obtain ⟨rfl, rfl⟩ := hw
    show xk_Go K D 8 0 0 (tc_wR r cr (g 0) (a 0) wl wm wt nw ap fv pv ++ (tc_wB g cg gb gz ++ tc_wS a ca (va_up kn i kd) (vp_updL nu i xv) wo si de la le ro tm nd)) [(0, .ref (r 0)), (1, .int (nI i)), (2, .int (nI kd)), (3, .int (nI lb)), (5, .long xv)] 65 []
    rcases jj with ⟨rfl, rfl, j1, j2, j3⟩ | ⟨j1, j2, q, rfl, j3⟩
    ·
      refine x_iload_n C dR_readNumber_65 rfl 2 rfl ?_
      refine x_bipush (v := nI 8) C dR_readNumber_66 (by decide) ?_
      refine x_icmp_neN (tgt := 117) C (by omega) (by decide) dR_readNumber_68 (by decide) (fun h68 => ?_) (fun h68 => ?_)
      ·
        exact x_vret C T rfl dR_readNumber_117 (Or.inl (⟨(kd, xv, []), _, _, _, _, rfl, rfl, (tc_rE_o j1 j2 j3 h68), (fun j hj => ⟨va_up_ne _ _ hj, pk_uLn hj, fun _ _ => rfl⟩), (⟨va_up_self _ _ _, pk_uLs, fun t b hb => by simp at hb⟩), j4, j5⟩))
      ·
        have hk8 : kd = 8 := h68
        obtain ⟨c, hc, hc64, hcn⟩ := tc_fit8c hk8 j2
        refine x_iconst (v := nI 0) C dR_readNumber_71 (by decide) ?_
        refine x_istore C [(7, .int (nI 0)), (0, .ref (r 0)), (1, .int (nI i)), (2, .int (nI kd)), (3, .int (nI lb)), (5, .long xv)] dR_readNumber_72 (by decide) rfl ?_
        refine x_iload C dR_readNumber_74 0 rfl ?_
        refine x_i2l (v := 0) C dR_readNumber_76 (by decide) ?_
        refine x_lload C dR_readNumber_77 5 rfl ?_
        refine x_lcmp C dR_readNumber_79 ?_
        refine x_if_geC (tgt := 117) C dR_readNumber_80 (by decide) (fun h80 => ?_) (fun h80 => ?_)
        ·
          obtain rfl : c = 0 := tc_le0 hc hc64 h80
          exact x_vret C T rfl dR_readNumber_117 (Or.inl (⟨(8, xv, tc_seg (tc_B gb) nw 0), nw, _, _, _, rfl, rfl, (tc_rE_8o j1 j2 hk8 hcn (by omega)), (fun j hj => ⟨va_up_ne _ _ hj, pk_uLn hj, fun _ _ => rfl⟩), (⟨(va_up_self _ _ _).trans hk8, pk_uLs, fun t b hb => by simp [tc_seg] at hb⟩), j4, j5⟩))
        ·
          refine x_iload C dR_readNumber_83 0 rfl ?_
          refine x_bipush (v := nI 64) C dR_readNumber_85 (by decide) ?_
          refine x_icmp_ge (tgt := 117) C dR_readNumber_87 (by decide) (fun h => absurd h (by decide)) (fun _ => ?_)
          refine x_aload_n C dR_readNumber_90 rfl 1 rfl ?_
          refine x_get C fgR_28 0 rfl rfl dR_readNumber_91 ?_
          refine x_if_ne (tgt := 117) C dR_readNumber_94 (by decide) (fun h => absurd (by decide) h) (fun _ => ?_)
          have lp97 : ∀ (zc : Nat) (j : Nat) (wg : Nat → Int64), (c - j) < zc → (j < c) → (∀ q t, t < 64 → tc_wb wg q t = if q = i ∧ t < j then (tc_B gb) (nw + t) else tc_wb wo q t) → (nw + j ≤ gz) → xk_Go K D 8 0 0 (tc_wR r cr (g 0) (a 0) wl wm wt (nw + j) ap 0 none ++ (tc_wB g cg gb gz ++ tc_wS a ca (va_up kn i kd) (vp_updL nu i xv) wg si de la le ro tm nd)) [(0, .ref (r 0)), (1, .int (nI i)), (2, .int (nI kd)), (3, .int (nI lb)), (5, .long xv), (7, .int (nI j))] 97 [] := by
            intro zc
            induction zc with
            | zero => intro j wg hm; exact absurd hm (Nat.not_lt_zero _)
            | succ zc ih97 =>
              intro j wg hm e1 e2 e3
              refine x_aload_n C dR_readNumber_97 rfl 0 rfl ?_
              refine x_get C fgR_38 0 rfl rfl dR_readNumber_98 ?_
              refine x_iload_n C dR_readNumber_101 rfl 1 rfl ?_
              refine x_iload C dR_readNumber_102 5 rfl ?_
              refine x_aload_n C dR_readNumber_104 rfl 0 rfl ?_
              refine x_callV C (c_R_takeByte D r cr g cg a ca wl wm wt (nw + j) ap 0 none gb gz (va_up kn i kd) (vp_updL nu i xv) wg si de la le ro tm nd (by omega) y2 (by decide)) kbR_63 kcR_63 [0, 1, 2, 3, 4, 5, 6, 7, 8, 9, 10, 11, 12, 13] [] [0, 1, 2, 3, 4, 5, 6, 7, 8, 9, 10] ([]) rfl rfl (by decide) (by decide) (by decide) rfl 0 rfl rfl ⟨Nat.le_of_ble_eq_true rfl, Nat.le_of_ble_eq_true rfl⟩ ⟨Nat.le_of_ble_eq_true rfl, Nat.le_of_ble_eq_true rfl⟩ [.int (nI j), .int (nI i), .ref (a 0)] rfl rfl (Nat.le_of_ble_eq_true rfl) dR_readNumber_105 (fun rv ru hw => ?_)
              rcases hw with ⟨rfl, rfl, g1t⟩ | ⟨rfl, rfl, g1t⟩
              ·
                show xk_Go K D 8 0 0 (tc_wR r cr (g 0) (a 0) wl wm wt (nw + j) ap (tc_f1 0 1) (tc_f2 0 none gz) ++ (tc_wB g cg gb gz ++ tc_wS a ca (va_up kn i kd) (vp_updL nu i xv) wg si de la le ro tm nd)) [(0, .ref (r 0)), (1, .int (nI i)), (2, .int (nI kd)), (3, .int (nI lb)), (5, .long xv), (7, .int (nI j))] 108 [.int (nI 0), .int (nI j), .int (nI i), .ref (a 0)]
                show xk_Go K D 8 0 0 (tc_wR r cr (g 0) (a 0) wl wm wt (nw + j) ap 1 (some gz) ++ (tc_wB g cg gb gz ++ tc_wS a ca (va_up kn i kd) (vp_updL nu i xv) wg si de la le ro tm nd)) [(0, .ref (r 0)), (1, .int (nI i)), (2, .int (nI kd)), (3, .int (nI lb)), (5, .long xv), (7, .int (nI j))] 108 [.int (nI 0), .int (nI j), .int (nI i), .ref (a 0)]
                refine x_callV C (c_S_setByte D a ca (va_up kn i kd) (vp_updL nu i xv) wg si de la le ro tm nd i j 0 y6 (by omega) (by omega)) kbR_96 kcR_96 [5, 6, 7, 8, 9, 10, 11, 12, 13] [0, 1, 2, 3, 4] [3, 4, 5, 6, 7, 8, 9, 10] (tc_wR r cr (g 0) (a 0) wl wm wt (nw + j) ap 1 (some gz) ++ tc_wB g cg gb gz) rfl rfl (by decide) (by decide) (by decide) rfl 0 rfl rfl ⟨Nat.le_of_ble_eq_true rfl, Nat.le_of_ble_eq_true rfl⟩ ⟨Nat.le_of_ble_eq_true rfl, Nat.le_of_ble_eq_true rfl⟩ [] rfl rfl (Nat.le_of_ble_eq_true rfl) dR_readNumber_108 (fun rv ru hw => ?_)
                obtain ⟨wh, rfl, rfl, gs⟩ := hw
                show xk_Go K D 8 0 0 (tc_wR r cr (g 0) (a 0) wl wm wt (nw + j) ap 1 (some gz) ++ (tc_wB g cg gb gz ++ tc_wS a ca (va_up kn i kd) (vp_updL nu i xv) wh si de la le ro tm nd)) [(0, .ref (r 0)), (1, .int (nI i)), (2, .int (nI kd)), (3, .int (nI lb)), (5, .long xv), (7, .int (nI j))] 111 []
                refine x_iinc (q := 5) C (nI (j + 1)) [(7, .int (nI (j + 1))), (0, .ref (r 0)), (1, .int (nI i)), (2, .int (nI kd)), (3, .int (nI lb)), (5, .long xv)] dR_readNumber_111 rfl (nI_add j 1) (by decide) rfl ?_
                refine x_goto C 74 dR_readNumber_114 (by decide) ?_
                refine x_iload C dR_readNumber_74 0 rfl ?_
                refine x_i2l (v := lN (j + 1)) C dR_readNumber_76 (nI_l (by omega)) ?_
                refine x_lload C dR_readNumber_77 5 rfl ?_
                refine x_lcmp C dR_readNumber_79 ?_
                refine x_if_geC (tgt := 117) C dR_readNumber_80 (by decide) (fun h80 => ?_) (fun h80 => ?_)
                ·
                  exact x_vret C T rfl dR_readNumber_117 (Or.inr (⟨1, gz, _, _, _, _, rfl, rfl, (tc_rE_8f j1 j2 hk8 hcn (by omega)), (tc_keep8 e2 gs), (by decide), (by omega), (by omega)⟩))
                ·
                  refine x_iload C dR_readNumber_83 0 rfl ?_
                  refine x_bipush (v := nI 64) C dR_readNumber_85 (by decide) ?_
                  refine x_icmp_geN (tgt := 117) C (by omega) (by decide) dR_readNumber_87 (by decide) (fun h87 => ?_) (fun h87 => ?_)
                  ·
                    exact x_vret C T rfl dR_readNumber_117 (Or.inr (⟨1, gz, _, _, _, _, rfl, rfl, (tc_rE_8f j1 j2 hk8 hcn (by omega)), (tc_keep8 e2 gs), (by decide), (by omega), (by omega)⟩))
                  ·
                    refine x_aload_n C dR_readNumber_90 rfl 1 rfl ?_
                    refine x_get C fgR_28 0 rfl rfl dR_readNumber_91 ?_
                    refine x_if_ne (tgt := 117) C dR_readNumber_94 (by decide) (fun _ => ?_) (fun h => absurd h (by decide))
                    exact x_vret C T rfl dR_readNumber_117 (Or.inr (⟨1, gz, _, _, _, _, rfl, rfl, (tc_rE_8f j1 j2 hk8 hcn (by omega)), (tc_keep8 e2 gs), (by decide), (by omega), (by omega)⟩))
              ·
                show xk_Go K D 8 0 0 (tc_wR r cr (g 0) (a 0) wl wm wt ((nw + j) + 1) ap 0 none ++ (tc_wB g cg gb gz ++ tc_wS a ca (va_up kn i kd) (vp_updL nu i xv) wg si de la le ro tm nd)) [(0, .ref (r 0)), (1, .int (nI i)), (2, .int (nI kd)), (3, .int (nI lb)), (5, .long xv), (7, .int (nI j))] 108 [.int (nI (gb (nw + j) % 256)), .int (nI j), .int (nI i), .ref (a 0)]
                refine x_callV C (c_S_setByte D a ca (va_up kn i kd) (vp_updL nu i xv) wg si de la le ro tm nd i j (gb (nw + j) % 256) y6 (by omega) (by omega)) kbR_96 kcR_96 [5, 6, 7, 8, 9, 10, 11, 12, 13] [0, 1, 2, 3, 4] [3, 4, 5, 6, 7, 8, 9, 10] (tc_wR r cr (g 0) (a 0) wl wm wt ((nw + j) + 1) ap 0 none ++ tc_wB g cg gb gz) rfl rfl (by decide) (by decide) (by decide) rfl 0 rfl rfl ⟨Nat.le_of_ble_eq_true rfl, Nat.le_of_ble_eq_true rfl⟩ ⟨Nat.le_of_ble_eq_true rfl, Nat.le_of_ble_eq_true rfl⟩ [] rfl rfl (Nat.le_of_ble_eq_true rfl) dR_readNumber_108 (fun rv ru hw => ?_)
                obtain ⟨wh, rfl, rfl, gs⟩ := hw
                show xk_Go K D 8 0 0 (tc_wR r cr (g 0) (a 0) wl wm wt ((nw + j) + 1) ap 0 none ++ (tc_wB g cg gb gz ++ tc_wS a ca (va_up kn i kd) (vp_updL nu i xv) wh si de la le ro tm nd)) [(0, .ref (r 0)), (1, .int (nI i)), (2, .int (nI kd)), (3, .int (nI lb)), (5, .long xv), (7, .int (nI j))] 111 []
                refine x_iinc (q := 5) C (nI (j + 1)) [(7, .int (nI (j + 1))), (0, .ref (r 0)), (1, .int (nI i)), (2, .int (nI kd)), (3, .int (nI lb)), (5, .long xv)] dR_readNumber_111 rfl (nI_add j 1) (by decide) rfl ?_
                refine x_goto C 74 dR_readNumber_114 (by decide) ?_
                refine x_iload C dR_readNumber_74 0 rfl ?_
                refine x_i2l (v := lN (j + 1)) C dR_readNumber_76 (nI_l (by omega)) ?_
                refine x_lload C dR_readNumber_77 5 rfl ?_
                refine x_lcmp C dR_readNumber_79 ?_
                refine x_if_geC (tgt := 117) C dR_readNumber_80 (by decide) (fun h80 => ?_) (fun h80 => ?_)
                ·
                  have hcj : c = j + 1 := by have := tc_le1 hc hc64 (by omega) h80; omega
                  exact x_vret C T rfl dR_readNumber_117 (Or.inl (⟨(8, xv, tc_seg (tc_B gb) nw c), (nw + c), _, _, _, rfl, by rw [hcj]; rfl, (tc_rE_8o j1 j2 hk8 hcn (by omega)), (tc_keep8 e2 gs), (⟨(va_up_self _ _ _).trans hk8, pk_uLs, tc_seg8 e2 gs hcj hc64⟩), (by omega), (by omega)⟩))
                ·
                  refine x_iload C dR_readNumber_83 0 rfl ?_
                  refine x_bipush (v := nI 64) C dR_readNumber_85 (by decide) ?_
                  refine x_icmp_geN (tgt := 117) C (by omega) (by decide) dR_readNumber_87 (by decide) (fun h87 => ?_) (fun h87 => ?_)
                  ·
                    exact absurd h87 (by have := tc_lt1 hc hc64 (by omega) h80; omega)
                  ·
                    refine x_aload_n C dR_readNumber_90 rfl 1 rfl ?_
                    refine x_get C fgR_28 0 rfl rfl dR_readNumber_91 ?_
                    refine x_if_ne (tgt := 117) C dR_readNumber_94 (by decide) (fun h => absurd (by decide) h) (fun _ => ?_)
                    exact x_sub [1, 2, 3, 4, 5, 0] rfl (ih97 (j + 1) wh (by omega) (tc_lt1 hc hc64 (by omega) h80) (tc_seg_step e2 gs) (by omega))
          exact x_sub [1, 2, 3, 4, 5, 0] rfl (lp97 _ 0 wo (Nat.lt_succ_self _) (tc_lt0 hc hc64 h80) (fun q t ht => by rw [if_neg (fun z => by omega)]) (by omega))
    ·
      refine x_iload_n C dR_readNumber_65 rfl 2 rfl ?_
      refine x_bipush (v := nI 8) C dR_readNumber_66 (by decide) ?_
      refine x_icmp_neN (tgt := 117) C (by omega) (by decide) dR_readNumber_68 (by decide) (fun h68 => ?_) (fun h68 => ?_)
      ·
        exact x_vret C T rfl dR_readNumber_117 (Or.inr (⟨fv, q, _, _, _, _, rfl, rfl, j3, (fun j hj => ⟨va_up_ne _ _ hj, pk_uLn hj, fun _ _ => rfl⟩), (⟨j1, j2⟩), j4, j5⟩))
      ·
        refine x_iconst (v := nI 0) C dR_readNumber_71 (by decide) ?_
        refine x_istore C [(7, .int (nI 0)), (0, .ref (r 0)), (1, .int (nI i)), (2, .int (nI kd)), (3, .int (nI lb)), (5, .long xv)] dR_readNumber_72 (by decide) rfl ?_
        refine x_iload C dR_readNumber_74 0 rfl ?_
        refine x_i2l (v := 0) C dR_readNumber_76 (by decide) ?_
        refine x_lload C dR_readNumber_77 5 rfl ?_
        refine x_lcmp C dR_readNumber_79 ?_
        refine x_if_geC (tgt := 117) C dR_readNumber_80 (by decide) (fun h80 => ?_) (fun h80 => ?_)
        ·
          exact x_vret C T rfl dR_readNumber_117 (Or.inr (⟨fv, q, _, _, _, _, rfl, rfl, j3, (fun j hj => ⟨va_up_ne _ _ hj, pk_uLn hj, fun _ _ => rfl⟩), (⟨j1, j2⟩), j4, j5⟩))
        ·
          refine x_iload C dR_readNumber_83 0 rfl ?_
          refine x_bipush (v := nI 64) C dR_readNumber_85 (by decide) ?_
          refine x_icmp_ge (tgt := 117) C dR_readNumber_87 (by decide) (fun h => absurd h (by decide)) (fun _ => ?_)
          refine x_aload_n C dR_readNumber_90 rfl 1 rfl ?_
          refine x_get C fgR_28 0 rfl rfl dR_readNumber_91 ?_
          refine x_if_neN (tgt := 117) C (by omega) dR_readNumber_94 (by decide) (fun h94 => ?_) (fun h94 => ?_)
          ·
            exact x_vret C T rfl dR_readNumber_117 (Or.inr (⟨fv, q, _, _, _, _, rfl, rfl, j3, (fun j hj => ⟨va_up_ne _ _ hj, pk_uLn hj, fun _ _ => rfl⟩), (⟨j1, j2⟩), j4, j5⟩))
          ·
            exact absurd h94 (by omega)
  refine x_aload_n C dR_readNumber_8 rfl 1 rfl ?_
  refine x_iload_n C dR_readNumber_9 rfl 3 rfl ?_
  refine x_callV C (c_R_takeNumber D r cr g cg a ca wl wm wt nx ap gb gz kn nu wo si de la le ro tm nd kd y1 y2 y4 y5) kbR_84 kcR_84 [0, 1, 2, 3, 4, 5, 6, 7, 8, 9, 10, 11, 12, 13] [] [0, 1, 2, 3, 4, 5, 6, 7, 8, 9, 10] ([]) rfl rfl (by decide) (by decide) (by decide) rfl 0 rfl rfl ⟨Nat.le_of_ble_eq_true rfl, Nat.le_of_ble_eq_true rfl⟩ ⟨Nat.le_of_ble_eq_true rfl, Nat.le_of_ble_eq_true rfl⟩ [] rfl rfl (Nat.le_of_ble_eq_true rfl) dR_readNumber_10 (fun rv ru hw => ?_)
  rcases hw with ⟨xv, nw, rfl, rfl, g1, g2, g3⟩ | ⟨xv, nw, f, q, rfl, rfl, g1, g2, g3, g4⟩
  ·
    show xk_Go K D 8 0 0 (tc_wR r cr (g 0) (a 0) wl wm wt nw ap 0 none ++ (tc_wB g cg gb gz ++ tc_wS a ca kn nu wo si de la le ro tm nd)) [(4, .int (nI (nx - 1))), (0, .ref (r 0)), (1, .int (nI i)), (2, .int (nI kd)), (3, .int (nI lb))] 13 [.long xv]
    refine x_lstore C [(5, .long xv), (4, .int (nI (nx - 1))), (0, .ref (r 0)), (1, .int (nI i)), (2, .int (nI kd)), (3, .int (nI lb))] dR_readNumber_13 (by decide) rfl ?_
    refine x_iload_n C dR_readNumber_15 rfl 4 rfl ?_
    refine x_lload C dR_readNumber_16 0 rfl ?_
    refine x_callS C (c_F_fits D kd xv y5) kbR_88 kcR_88 [] [0, 1, 2, 3, 4, 5, 6, 7, 8, 9, 10, 11, 12, 13] [] (tc_wR r cr (g 0) (a 0) wl wm wt nw ap 0 none ++ (tc_wB g cg gb gz ++ tc_wS a ca kn nu wo si de la le ro tm nd)) rfl rfl (by decide) (by decide) (by decide) rfl ⟨Nat.le_of_ble_eq_true rfl, Nat.le_of_ble_eq_true rfl⟩ ⟨Nat.le_of_ble_eq_true rfl, Nat.le_of_ble_eq_true rfl⟩ [] rfl rfl (Nat.le_of_ble_eq_true rfl) dR_readNumber_18 (fun rv ru hw => ?_)
    obtain ⟨rfl, rfl⟩ := hw
    show xk_Go K D 8 0 0 (tc_wR r cr (g 0) (a 0) wl wm wt nw ap 0 none ++ (tc_wB g cg gb gz ++ tc_wS a ca kn nu wo si de la le ro tm nd)) [(5, .long xv), (4, .int (nI (nx - 1))), (0, .ref (r 0)), (1, .int (nI i)), (2, .int (nI kd)), (3, .int (nI lb))] 21 [.int (xk_bZ (tc_fit kd xv))]
    refine x_if_neB (tgt := 35) C dR_readNumber_21 (by decide) (fun h21 => ?_) (fun h21 => ?_)
    ·
      refine x_iload_n C dR_readNumber_35 rfl 4 rfl ?_
      refine x_if_neN (tgt := 54) C (by omega) dR_readNumber_36 (by decide) (fun h36 => ?_) (fun h36 => ?_)
      ·
        exact x_sub [2, 3, 4, 5, 0] rfl (jn54 xv nw 0 none (Or.inl ⟨rfl, rfl, g1, h21, (by omega)⟩) g2 g3)
      ·
        refine x_lload C dR_readNumber_39 0 rfl ?_
        refine x_iload_n C dR_readNumber_41 rfl 5 rfl ?_
        refine x_i2l (v := lN lb) C dR_readNumber_42 (nI_l (by omega)) ?_
        refine x_lcmp C dR_readNumber_43 ?_
        refine x_if_leC (tgt := 54) C dR_readNumber_44 (by decide) (fun h44 => ?_) (fun h44 => ?_)
        ·
          exact x_sub [2, 3, 4, 5, 0] rfl (jn54 xv nw 0 none (Or.inl ⟨rfl, rfl, g1, h21, fun z => absurd z.2 (tc_le_la y7 h44)⟩) g2 g3)
        ·
          refine x_aload_n C dR_readNumber_47 rfl 2 rfl ?_
          refine x_iconst (v := nI 4) C dR_readNumber_48 (by decide) ?_
          refine x_iload C dR_readNumber_49 1 rfl ?_
          refine x_callV C (c_R_fail D r cr g cg a ca wl wm wt nw ap 0 none gb gz kn nu wo si de la le ro tm nd 4 (nx - 1) (by decide)) kbR_73 kcR_73 [0, 1, 2, 3, 4, 5, 6, 7, 8, 9, 10, 11, 12, 13] [] [0, 1, 2, 3, 4, 5, 6, 7, 8, 9, 10] ([]) rfl rfl (by decide) (by decide) (by decide) rfl 0 rfl rfl ⟨Nat.le_of_ble_eq_true rfl, Nat.le_of_ble_eq_true rfl⟩ ⟨Nat.le_of_ble_eq_true rfl, Nat.le_of_ble_eq_true rfl⟩ [] rfl rfl (Nat.le_of_ble_eq_true rfl) dR_readNumber_51 (fun rv ru hw => ?_)
          obtain ⟨rfl, rfl⟩ := hw
          show xk_Go K D 8 0 0 (tc_wR r cr (g 0) (a 0) wl wm wt nw ap (tc_f1 0 4) (tc_f2 0 none (nx - 1)) ++ (tc_wB g cg gb gz ++ tc_wS a ca kn nu wo si de la le ro tm nd)) [(5, .long xv), (4, .int (nI (nx - 1))), (0, .ref (r 0)), (1, .int (nI i)), (2, .int (nI kd)), (3, .int (nI lb))] 54 []
          show xk_Go K D 8 0 0 (tc_wR r cr (g 0) (a 0) wl wm wt nw ap 4 (some (nx - 1)) ++ (tc_wB g cg gb gz ++ tc_wS a ca kn nu wo si de la le ro tm nd)) [(5, .long xv), (4, .int (nI (nx - 1))), (0, .ref (r 0)), (1, .int (nI i)), (2, .int (nI kd)), (3, .int (nI lb))] 54 []
          exact x_sub [2, 3, 4, 5, 0] rfl (jn54 xv nw 4 (some (nx - 1)) (Or.inr ⟨by decide, by decide, _, rfl, tc_rE_4 g1 h21 h36 (tc_gt_la y7 h44)⟩) g2 g3)
    ·
      refine x_aload_n C dR_readNumber_24 rfl 2 rfl ?_
      refine x_iconst (v := nI 3) C dR_readNumber_25 (by decide) ?_
      refine x_aload_n C dR_readNumber_26 rfl 2 rfl ?_
      refine x_get C fgR_22 0 rfl rfl dR_readNumber_27 ?_
      refine x_iconst (v := nI 1) C dR_readNumber_30 (by decide) ?_
      refine x_isubN C (by omega) dR_readNumber_31 ?_
      refine x_callV C (c_R_fail D r cr g cg a ca wl wm wt nw ap 0 none gb gz kn nu wo si de la le ro tm nd 3 (nw - 1) (by decide)) kbR_73 kcR_73 [0, 1, 2, 3, 4, 5, 6, 7, 8, 9, 10, 11, 12, 13] [] [0, 1, 2, 3, 4, 5, 6, 7, 8, 9, 10] ([]) rfl rfl (by decide) (by decide) (by decide) rfl 0 rfl rfl ⟨Nat.le_of_ble_eq_true rfl, Nat.le_of_ble_eq_true rfl⟩ ⟨Nat.le_of_ble_eq_true rfl, Nat.le_of_ble_eq_true rfl⟩ [] rfl rfl (Nat.le_of_ble_eq_true rfl) dR_readNumber_32 (fun rv ru hw => ?_)
      obtain ⟨rfl, rfl⟩ := hw
      show xk_Go K D 8 0 0 (tc_wR r cr (g 0) (a 0) wl wm wt nw ap (tc_f1 0 3) (tc_f2 0 none (nw - 1)) ++ (tc_wB g cg gb gz ++ tc_wS a ca kn nu wo si de la le ro tm nd)) [(5, .long xv), (4, .int (nI (nx - 1))), (0, .ref (r 0)), (1, .int (nI i)), (2, .int (nI kd)), (3, .int (nI lb))] 35 []
      show xk_Go K D 8 0 0 (tc_wR r cr (g 0) (a 0) wl wm wt nw ap 3 (some (nw - 1)) ++ (tc_wB g cg gb gz ++ tc_wS a ca kn nu wo si de la le ro tm nd)) [(5, .long xv), (4, .int (nI (nx - 1))), (0, .ref (r 0)), (1, .int (nI i)), (2, .int (nI kd)), (3, .int (nI lb))] 35 []
      refine x_iload_n C dR_readNumber_35 rfl 4 rfl ?_
      refine x_if_neN (tgt := 54) C (by omega) dR_readNumber_36 (by decide) (fun h36 => ?_) (fun h36 => ?_)
      ·
        exact x_sub [2, 3, 4, 5, 0] rfl (jn54 xv nw 3 (some (nw - 1)) (Or.inr ⟨by decide, by decide, _, rfl, tc_rE_3 g1 h21⟩) g2 g3)
      ·
        refine x_lload C dR_readNumber_39 0 rfl ?_
        refine x_iload_n C dR_readNumber_41 rfl 5 rfl ?_
        refine x_i2l (v := lN lb) C dR_readNumber_42 (nI_l (by omega)) ?_
        refine x_lcmp C dR_readNumber_43 ?_
        refine x_if_leC (tgt := 54) C dR_readNumber_44 (by decide) (fun h44 => ?_) (fun h44 => ?_)
        ·
          exact x_sub [2, 3, 4, 5, 0] rfl (jn54 xv nw 3 (some (nw - 1)) (Or.inr ⟨by decide, by decide, _, rfl, tc_rE_3 g1 h21⟩) g2 g3)
        ·
          refine x_aload_n C dR_readNumber_47 rfl 2 rfl ?_
          refine x_iconst (v := nI 4) C dR_readNumber_48 (by decide) ?_
          refine x_iload C dR_readNumber_49 1 rfl ?_
          refine x_callV C (c_R_fail D r cr g cg a ca wl wm wt nw ap 3 (some (nw - 1)) gb gz kn nu wo si de la le ro tm nd 4 (nx - 1) (by decide)) kbR_73 kcR_73 [0, 1, 2, 3, 4, 5, 6, 7, 8, 9, 10, 11, 12, 13] [] [0, 1, 2, 3, 4, 5, 6, 7, 8, 9, 10] ([]) rfl rfl (by decide) (by decide) (by decide) rfl 0 rfl rfl ⟨Nat.le_of_ble_eq_true rfl, Nat.le_of_ble_eq_true rfl⟩ ⟨Nat.le_of_ble_eq_true rfl, Nat.le_of_ble_eq_true rfl⟩ [] rfl rfl (Nat.le_of_ble_eq_true rfl) dR_readNumber_51 (fun rv ru hw => ?_)
          obtain ⟨rfl, rfl⟩ := hw
          show xk_Go K D 8 0 0 (tc_wR r cr (g 0) (a 0) wl wm wt nw ap (tc_f1 3 4) (tc_f2 3 (some (nw - 1)) (nx - 1)) ++ (tc_wB g cg gb gz ++ tc_wS a ca kn nu wo si de la le ro tm nd)) [(5, .long xv), (4, .int (nI (nx - 1))), (0, .ref (r 0)), (1, .int (nI i)), (2, .int (nI kd)), (3, .int (nI lb))] 54 []
          show xk_Go K D 8 0 0 (tc_wR r cr (g 0) (a 0) wl wm wt nw ap 3 (some (nw - 1)) ++ (tc_wB g cg gb gz ++ tc_wS a ca kn nu wo si de la le ro tm nd)) [(5, .long xv), (4, .int (nI (nx - 1))), (0, .ref (r 0)), (1, .int (nI i)), (2, .int (nI kd)), (3, .int (nI lb))] 54 []
          exact x_sub [2, 3, 4, 5, 0] rfl (jn54 xv nw 3 (some (nw - 1)) (Or.inr ⟨by decide, by decide, _, rfl, tc_rE_3 g1 h21⟩) g2 g3)
  ·
    show xk_Go K D 8 0 0 (tc_wR r cr (g 0) (a 0) wl wm wt nw ap f (some q) ++ (tc_wB g cg gb gz ++ tc_wS a ca kn nu wo si de la le ro tm nd)) [(4, .int (nI (nx - 1))), (0, .ref (r 0)), (1, .int (nI i)), (2, .int (nI kd)), (3, .int (nI lb))] 13 [.long xv]
    refine x_lstore C [(5, .long xv), (4, .int (nI (nx - 1))), (0, .ref (r 0)), (1, .int (nI i)), (2, .int (nI kd)), (3, .int (nI lb))] dR_readNumber_13 (by decide) rfl ?_
    refine x_iload_n C dR_readNumber_15 rfl 4 rfl ?_
    refine x_lload C dR_readNumber_16 0 rfl ?_
    refine x_callS C (c_F_fits D kd xv y5) kbR_88 kcR_88 [] [0, 1, 2, 3, 4, 5, 6, 7, 8, 9, 10, 11, 12, 13] [] (tc_wR r cr (g 0) (a 0) wl wm wt nw ap f (some q) ++ (tc_wB g cg gb gz ++ tc_wS a ca kn nu wo si de la le ro tm nd)) rfl rfl (by decide) (by decide) (by decide) rfl ⟨Nat.le_of_ble_eq_true rfl, Nat.le_of_ble_eq_true rfl⟩ ⟨Nat.le_of_ble_eq_true rfl, Nat.le_of_ble_eq_true rfl⟩ [] rfl rfl (Nat.le_of_ble_eq_true rfl) dR_readNumber_18 (fun rv ru hw => ?_)
    obtain ⟨rfl, rfl⟩ := hw
    show xk_Go K D 8 0 0 (tc_wR r cr (g 0) (a 0) wl wm wt nw ap f (some q) ++ (tc_wB g cg gb gz ++ tc_wS a ca kn nu wo si de la le ro tm nd)) [(5, .long xv), (4, .int (nI (nx - 1))), (0, .ref (r 0)), (1, .int (nI i)), (2, .int (nI kd)), (3, .int (nI lb))] 21 [.int (xk_bZ (tc_fit kd xv))]
    refine x_if_neB (tgt := 35) C dR_readNumber_21 (by decide) (fun h21 => ?_) (fun h21 => ?_)
    ·
      refine x_iload_n C dR_readNumber_35 rfl 4 rfl ?_
      refine x_if_neN (tgt := 54) C (by omega) dR_readNumber_36 (by decide) (fun h36 => ?_) (fun h36 => ?_)
      ·
        exact x_sub [2, 3, 4, 5, 0] rfl (jn54 xv nw f (some q) (Or.inr ⟨g2.1, g2.2, _, rfl, tc_rE_l g1⟩) g3 g4)
      ·
        refine x_lload C dR_readNumber_39 0 rfl ?_
        refine x_iload_n C dR_readNumber_41 rfl 5 rfl ?_
        refine x_i2l (v := lN lb) C dR_readNumber_42 (nI_l (by omega)) ?_
        refine x_lcmp C dR_readNumber_43 ?_
        refine x_if_leC (tgt := 54) C dR_readNumber_44 (by decide) (fun h44 => ?_) (fun h44 => ?_)
        ·
          exact x_sub [2, 3, 4, 5, 0] rfl (jn54 xv nw f (some q) (Or.inr ⟨g2.1, g2.2, _, rfl, tc_rE_l g1⟩) g3 g4)
        ·
          refine x_aload_n C dR_readNumber_47 rfl 2 rfl ?_
          refine x_iconst (v := nI 4) C dR_readNumber_48 (by decide) ?_
          refine x_iload C dR_readNumber_49 1 rfl ?_
          refine x_callV C (c_R_fail D r cr g cg a ca wl wm wt nw ap f (some q) gb gz kn nu wo si de la le ro tm nd 4 (nx - 1) g2.2) kbR_73 kcR_73 [0, 1, 2, 3, 4, 5, 6, 7, 8, 9, 10, 11, 12, 13] [] [0, 1, 2, 3, 4, 5, 6, 7, 8, 9, 10] ([]) rfl rfl (by decide) (by decide) (by decide) rfl 0 rfl rfl ⟨Nat.le_of_ble_eq_true rfl, Nat.le_of_ble_eq_true rfl⟩ ⟨Nat.le_of_ble_eq_true rfl, Nat.le_of_ble_eq_true rfl⟩ [] rfl rfl (Nat.le_of_ble_eq_true rfl) dR_readNumber_51 (fun rv ru hw => ?_)
          obtain ⟨rfl, rfl⟩ := hw
          show xk_Go K D 8 0 0 (tc_wR r cr (g 0) (a 0) wl wm wt nw ap (tc_f1 f 4) (tc_f2 f (some q) (nx - 1)) ++ (tc_wB g cg gb gz ++ tc_wS a ca kn nu wo si de la le ro tm nd)) [(5, .long xv), (4, .int (nI (nx - 1))), (0, .ref (r 0)), (1, .int (nI i)), (2, .int (nI kd)), (3, .int (nI lb))] 54 []
          rw [tc_f1_n (show ¬ f = 0 by omega), tc_f2_n (show ¬ f = 0 by omega)]
          exact x_sub [2, 3, 4, 5, 0] rfl (jn54 xv nw f (some q) (Or.inr ⟨g2.1, g2.2, _, rfl, tc_rE_l g1⟩) g3 g4)
    ·
      refine x_aload_n C dR_readNumber_24 rfl 2 rfl ?_
      refine x_iconst (v := nI 3) C dR_readNumber_25 (by decide) ?_
      refine x_aload_n C dR_readNumber_26 rfl 2 rfl ?_
      refine x_get C fgR_22 0 rfl rfl dR_readNumber_27 ?_
      refine x_iconst (v := nI 1) C dR_readNumber_30 (by decide) ?_
      refine x_isubN C (by omega) dR_readNumber_31 ?_
      refine x_callV C (c_R_fail D r cr g cg a ca wl wm wt nw ap f (some q) gb gz kn nu wo si de la le ro tm nd 3 (nw - 1) g2.2) kbR_73 kcR_73 [0, 1, 2, 3, 4, 5, 6, 7, 8, 9, 10, 11, 12, 13] [] [0, 1, 2, 3, 4, 5, 6, 7, 8, 9, 10] ([]) rfl rfl (by decide) (by decide) (by decide) rfl 0 rfl rfl ⟨Nat.le_of_ble_eq_true rfl, Nat.le_of_ble_eq_true rfl⟩ ⟨Nat.le_of_ble_eq_true rfl, Nat.le_of_ble_eq_true rfl⟩ [] rfl rfl (Nat.le_of_ble_eq_true rfl) dR_readNumber_32 (fun rv ru hw => ?_)
      obtain ⟨rfl, rfl⟩ := hw
      show xk_Go K D 8 0 0 (tc_wR r cr (g 0) (a 0) wl wm wt nw ap (tc_f1 f 3) (tc_f2 f (some q) (nw - 1)) ++ (tc_wB g cg gb gz ++ tc_wS a ca kn nu wo si de la le ro tm nd)) [(5, .long xv), (4, .int (nI (nx - 1))), (0, .ref (r 0)), (1, .int (nI i)), (2, .int (nI kd)), (3, .int (nI lb))] 35 []
      rw [tc_f1_n (show ¬ f = 0 by omega), tc_f2_n (show ¬ f = 0 by omega)]
      refine x_iload_n C dR_readNumber_35 rfl 4 rfl ?_
      refine x_if_neN (tgt := 54) C (by omega) dR_readNumber_36 (by decide) (fun h36 => ?_) (fun h36 => ?_)
      ·
        exact x_sub [2, 3, 4, 5, 0] rfl (jn54 xv nw f (some q) (Or.inr ⟨g2.1, g2.2, _, rfl, tc_rE_l g1⟩) g3 g4)
      ·
        refine x_lload C dR_readNumber_39 0 rfl ?_
        refine x_iload_n C dR_readNumber_41 rfl 5 rfl ?_
        refine x_i2l (v := lN lb) C dR_readNumber_42 (nI_l (by omega)) ?_
        refine x_lcmp C dR_readNumber_43 ?_
        refine x_if_leC (tgt := 54) C dR_readNumber_44 (by decide) (fun h44 => ?_) (fun h44 => ?_)
        ·
          exact x_sub [2, 3, 4, 5, 0] rfl (jn54 xv nw f (some q) (Or.inr ⟨g2.1, g2.2, _, rfl, tc_rE_l g1⟩) g3 g4)
        ·
          refine x_aload_n C dR_readNumber_47 rfl 2 rfl ?_
          refine x_iconst (v := nI 4) C dR_readNumber_48 (by decide) ?_
          refine x_iload C dR_readNumber_49 1 rfl ?_
          refine x_callV C (c_R_fail D r cr g cg a ca wl wm wt nw ap f (some q) gb gz kn nu wo si de la le ro tm nd 4 (nx - 1) g2.2) kbR_73 kcR_73 [0, 1, 2, 3, 4, 5, 6, 7, 8, 9, 10, 11, 12, 13] [] [0, 1, 2, 3, 4, 5, 6, 7, 8, 9, 10] ([]) rfl rfl (by decide) (by decide) (by decide) rfl 0 rfl rfl ⟨Nat.le_of_ble_eq_true rfl, Nat.le_of_ble_eq_true rfl⟩ ⟨Nat.le_of_ble_eq_true rfl, Nat.le_of_ble_eq_true rfl⟩ [] rfl rfl (Nat.le_of_ble_eq_true rfl) dR_readNumber_51 (fun rv ru hw => ?_)
          obtain ⟨rfl, rfl⟩ := hw
          show xk_Go K D 8 0 0 (tc_wR r cr (g 0) (a 0) wl wm wt nw ap (tc_f1 f 4) (tc_f2 f (some q) (nx - 1)) ++ (tc_wB g cg gb gz ++ tc_wS a ca kn nu wo si de la le ro tm nd)) [(5, .long xv), (4, .int (nI (nx - 1))), (0, .ref (r 0)), (1, .int (nI i)), (2, .int (nI kd)), (3, .int (nI lb))] 54 []
          rw [tc_f1_n (show ¬ f = 0 by omega), tc_f2_n (show ¬ f = 0 by omega)]
          exact x_sub [2, 3, 4, 5, 0] rfl (jn54 xv nw f (some q) (Or.inr ⟨g2.1, g2.2, _, rfl, tc_rE_l g1⟩) g3 g4)
end
