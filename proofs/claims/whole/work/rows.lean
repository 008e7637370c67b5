section
-- ===== PART A: goes FIRST, ahead of the names: the tables' words, and 'selects' of the private methods out of them =====
/-- a private method of a class that the tables say can be made, by its rows of tables_1 -/
def lw_okq (q : MethodName × Nat) : Prop := (q.1.cls ≠ "java/lang/invoke/MethodHandle" ∧ q.1.cls ≠ "java/lang/invoke/VarHandle") ∧ Cond.instantiable q.1.cls q.2 ∈ tables_1 ∧ Cond.privateMethod q.1 ∈ tables_1 ∧ Cond.instanceMethod q.1 ∈ tables_1
theorem lw_p0 : lw_okq (⟨"TermCodec$TermStack", "settle", "(I)V"⟩, 10) := ⟨⟨by decide +kernel, by decide +kernel⟩, List.mem_of_getElem? (i := 23) (by decide +kernel), List.mem_of_getElem? (i := 166) (by decide +kernel), List.mem_of_getElem? (i := 167) (by decide +kernel)⟩
theorem lw_p1 : lw_okq (⟨"TermCodec$TermStack", "copyNodes", "(III)V"⟩, 10) := ⟨⟨by decide +kernel, by decide +kernel⟩, List.mem_of_getElem? (i := 23) (by decide +kernel), List.mem_of_getElem? (i := 202) (by decide +kernel), List.mem_of_getElem? (i := 203) (by decide +kernel)⟩
theorem lw_p2 : lw_okq (⟨"TermCodec$TermStack", "pushTerm", "(I)V"⟩, 10) := ⟨⟨by decide +kernel, by decide +kernel⟩, List.mem_of_getElem? (i := 23) (by decide +kernel), List.mem_of_getElem? (i := 209) (by decide +kernel), List.mem_of_getElem? (i := 210) (by decide +kernel)⟩
theorem lw_p3 : lw_okq (⟨"TermCodec$Reader", "await", "(III)V"⟩, 9) := ⟨⟨by decide +kernel, by decide +kernel⟩, List.mem_of_getElem? (i := 87) (by decide +kernel), List.mem_of_getElem? (i := 280) (by decide +kernel), List.mem_of_getElem? (i := 281) (by decide +kernel)⟩
theorem lw_p4 : lw_okq (⟨"TermCodec$Reader", "readNode", "(I)V"⟩, 9) := ⟨⟨by decide +kernel, by decide +kernel⟩, List.mem_of_getElem? (i := 87) (by decide +kernel), List.mem_of_getElem? (i := 284) (by decide +kernel), List.mem_of_getElem? (i := 285) (by decide +kernel)⟩
theorem lw_p5 : lw_okq (⟨"TermCodec$Reader", "takeByte", "()I"⟩, 9) := ⟨⟨by decide +kernel, by decide +kernel⟩, List.mem_of_getElem? (i := 87) (by decide +kernel), List.mem_of_getElem? (i := 288) (by decide +kernel), List.mem_of_getElem? (i := 289) (by decide +kernel)⟩
theorem lw_p6 : lw_okq (⟨"TermCodec$Reader", "fail", "(II)V"⟩, 9) := ⟨⟨by decide +kernel, by decide +kernel⟩, List.mem_of_getElem? (i := 87) (by decide +kernel), List.mem_of_getElem? (i := 296) (by decide +kernel), List.mem_of_getElem? (i := 297) (by decide +kernel)⟩
theorem lw_p7 : lw_okq (⟨"TermCodec$Reader", "readNumber", "(III)V"⟩, 9) := ⟨⟨by decide +kernel, by decide +kernel⟩, List.mem_of_getElem? (i := 87) (by decide +kernel), List.mem_of_getElem? (i := 303) (by decide +kernel), List.mem_of_getElem? (i := 304) (by decide +kernel)⟩
theorem lw_p8 : lw_okq (⟨"TermCodec$Reader", "takeNumber", "(I)J"⟩, 9) := ⟨⟨by decide +kernel, by decide +kernel⟩, List.mem_of_getElem? (i := 87) (by decide +kernel), List.mem_of_getElem? (i := 307) (by decide +kernel), List.mem_of_getElem? (i := 308) (by decide +kernel)⟩
theorem lw_p9 : lw_okq (⟨"TermCodec$Reader", "takeUnsigned", "()J"⟩, 9) := ⟨⟨by decide +kernel, by decide +kernel⟩, List.mem_of_getElem? (i := 87) (by decide +kernel), List.mem_of_getElem? (i := 311) (by decide +kernel), List.mem_of_getElem? (i := 312) (by decide +kernel)⟩
theorem lw_p10 : lw_okq (⟨"TermCodec$Reader", "takeSigned", "()J"⟩, 9) := ⟨⟨by decide +kernel, by decide +kernel⟩, List.mem_of_getElem? (i := 87) (by decide +kernel), List.mem_of_getElem? (i := 317) (by decide +kernel), List.mem_of_getElem? (i := 318) (by decide +kernel)⟩
theorem lw_p11 : lw_okq (⟨"java/lang/Throwable", "fillInStackTrace", "(I)Ljava/lang/Throwable;"⟩, 6) := ⟨⟨by decide +kernel, by decide +kernel⟩, List.mem_of_getElem? (i := 418) (by decide +kernel), List.mem_of_getElem? (i := 416) (by decide +kernel), List.mem_of_getElem? (i := 417) (by decide +kernel)⟩
theorem lw_p12 : lw_okq (⟨"TermCodec$TermStack", "alike", "(II)Z"⟩, 10) := ⟨⟨by decide +kernel, by decide +kernel⟩, List.mem_of_getElem? (i := 23) (by decide +kernel), List.mem_of_getElem? (i := 500) (by decide +kernel), List.mem_of_getElem? (i := 501) (by decide +kernel)⟩
theorem lw_p13 : lw_okq (⟨"TermCodecModel", "deepest", "(I)I"⟩, 31) := ⟨⟨by decide +kernel, by decide +kernel⟩, List.mem_of_getElem? (i := 504) (by decide +kernel), List.mem_of_getElem? (i := 625) (by decide +kernel), List.mem_of_getElem? (i := 626) (by decide +kernel)⟩
theorem lw_p14 : lw_okq (⟨"TermCodecModel", "depthOf", "(I)I"⟩, 31) := ⟨⟨by decide +kernel, by decide +kernel⟩, List.mem_of_getElem? (i := 504) (by decide +kernel), List.mem_of_getElem? (i := 629) (by decide +kernel), List.mem_of_getElem? (i := 630) (by decide +kernel)⟩
theorem lw_p15 : lw_okq (⟨"TermCodecModel", "go", "(I)V"⟩, 31) := ⟨⟨by decide +kernel, by decide +kernel⟩, List.mem_of_getElem? (i := 504) (by decide +kernel), List.mem_of_getElem? (i := 633) (by decide +kernel), List.mem_of_getElem? (i := 634) (by decide +kernel)⟩
def lw_privs_1 : List (MethodName × Nat) := [(⟨"TermCodec$TermStack", "settle", "(I)V"⟩, 10), (⟨"TermCodec$TermStack", "copyNodes", "(III)V"⟩, 10), (⟨"TermCodec$TermStack", "pushTerm", "(I)V"⟩, 10), (⟨"TermCodec$Reader", "await", "(III)V"⟩, 9), (⟨"TermCodec$Reader", "readNode", "(I)V"⟩, 9), (⟨"TermCodec$Reader", "takeByte", "()I"⟩, 9), (⟨"TermCodec$Reader", "fail", "(II)V"⟩, 9), (⟨"TermCodec$Reader", "readNumber", "(III)V"⟩, 9), (⟨"TermCodec$Reader", "takeNumber", "(I)J"⟩, 9), (⟨"TermCodec$Reader", "takeUnsigned", "()J"⟩, 9), (⟨"TermCodec$Reader", "takeSigned", "()J"⟩, 9), (⟨"java/lang/Throwable", "fillInStackTrace", "(I)Ljava/lang/Throwable;"⟩, 6), (⟨"TermCodec$TermStack", "alike", "(II)Z"⟩, 10), (⟨"TermCodecModel", "deepest", "(I)I"⟩, 31), (⟨"TermCodecModel", "depthOf", "(I)I"⟩, 31), (⟨"TermCodecModel", "go", "(I)V"⟩, 31)]
theorem lw_r1 : ∀ q ∈ lw_privs_1, lw_okq q := List.forall_mem_cons.mpr ⟨lw_p0, List.forall_mem_cons.mpr ⟨lw_p1, List.forall_mem_cons.mpr ⟨lw_p2, List.forall_mem_cons.mpr ⟨lw_p3, List.forall_mem_cons.mpr ⟨lw_p4, List.forall_mem_cons.mpr ⟨lw_p5, List.forall_mem_cons.mpr ⟨lw_p6, List.forall_mem_cons.mpr ⟨lw_p7, List.forall_mem_cons.mpr ⟨lw_p8, List.forall_mem_cons.mpr ⟨lw_p9, List.forall_mem_cons.mpr ⟨lw_p10, List.forall_mem_cons.mpr ⟨lw_p11, List.forall_mem_cons.mpr ⟨lw_p12, List.forall_mem_cons.mpr ⟨lw_p13, List.forall_mem_cons.mpr ⟨lw_p14, List.forall_mem_cons.mpr ⟨lw_p15, fun _ h => absurd h List.not_mem_nil⟩⟩⟩⟩⟩⟩⟩⟩⟩⟩⟩⟩⟩⟩⟩⟩
theorem lw_p16 : lw_okq (⟨"TermCodecModel", "make", "(IJ)I"⟩, 31) := ⟨⟨by decide +kernel, by decide +kernel⟩, List.mem_of_getElem? (i := 504) (by decide +kernel), List.mem_of_getElem? (i := 637) (by decide +kernel), List.mem_of_getElem? (i := 638) (by decide +kernel)⟩
theorem lw_p17 : lw_okq (⟨"TermCodecModel", "free", "()I"⟩, 31) := ⟨⟨by decide +kernel, by decide +kernel⟩, List.mem_of_getElem? (i := 504) (by decide +kernel), List.mem_of_getElem? (i := 641) (by decide +kernel), List.mem_of_getElem? (i := 642) (by decide +kernel)⟩
theorem lw_p18 : lw_okq (⟨"TermCodecModel", "append", "(IJI)V"⟩, 31) := ⟨⟨by decide +kernel, by decide +kernel⟩, List.mem_of_getElem? (i := 504) (by decide +kernel), List.mem_of_getElem? (i := 649) (by decide +kernel), List.mem_of_getElem? (i := 650) (by decide +kernel)⟩
theorem lw_p19 : lw_okq (⟨"TermCodecModel", "release", "(I)V"⟩, 31) := ⟨⟨by decide +kernel, by decide +kernel⟩, List.mem_of_getElem? (i := 504) (by decide +kernel), List.mem_of_getElem? (i := 662) (by decide +kernel), List.mem_of_getElem? (i := 663) (by decide +kernel)⟩
theorem lw_p20 : lw_okq (⟨"TermCodecModel", "lengthOfTerm", "(I)I"⟩, 31) := ⟨⟨by decide +kernel, by decide +kernel⟩, List.mem_of_getElem? (i := 504) (by decide +kernel), List.mem_of_getElem? (i := 678) (by decide +kernel), List.mem_of_getElem? (i := 679) (by decide +kernel)⟩
theorem lw_p21 : lw_okq (⟨"TermCodecModel", "lengthOf", "(I)I"⟩, 31) := ⟨⟨by decide +kernel, by decide +kernel⟩, List.mem_of_getElem? (i := 504) (by decide +kernel), List.mem_of_getElem? (i := 682) (by decide +kernel), List.mem_of_getElem? (i := 683) (by decide +kernel)⟩
theorem lw_p22 : lw_okq (⟨"TermCodecModel", "lengthU", "(J)I"⟩, 31) := ⟨⟨by decide +kernel, by decide +kernel⟩, List.mem_of_getElem? (i := 504) (by decide +kernel), List.mem_of_getElem? (i := 686) (by decide +kernel), List.mem_of_getElem? (i := 687) (by decide +kernel)⟩
theorem lw_p23 : lw_okq (⟨"TermCodecModel", "lengthS", "(J)I"⟩, 31) := ⟨⟨by decide +kernel, by decide +kernel⟩, List.mem_of_getElem? (i := 504) (by decide +kernel), List.mem_of_getElem? (i := 692) (by decide +kernel), List.mem_of_getElem? (i := 693) (by decide +kernel)⟩
theorem lw_p24 : lw_okq (⟨"TermCodecModel", "layNode", "(I)V"⟩, 31) := ⟨⟨by decide +kernel, by decide +kernel⟩, List.mem_of_getElem? (i := 504) (by decide +kernel), List.mem_of_getElem? (i := 698) (by decide +kernel), List.mem_of_getElem? (i := 699) (by decide +kernel)⟩
theorem lw_p25 : lw_okq (⟨"TermCodecModel", "lay", "(J)V"⟩, 31) := ⟨⟨by decide +kernel, by decide +kernel⟩, List.mem_of_getElem? (i := 504) (by decide +kernel), List.mem_of_getElem? (i := 702) (by decide +kernel), List.mem_of_getElem? (i := 703) (by decide +kernel)⟩
theorem lw_p26 : lw_okq (⟨"TermCodecModel", "readNode", "(I)V"⟩, 31) := ⟨⟨by decide +kernel, by decide +kernel⟩, List.mem_of_getElem? (i := 504) (by decide +kernel), List.mem_of_getElem? (i := 726) (by decide +kernel), List.mem_of_getElem? (i := 727) (by decide +kernel)⟩
theorem lw_p27 : lw_okq (⟨"TermCodecModel", "next", "()I"⟩, 31) := ⟨⟨by decide +kernel, by decide +kernel⟩, List.mem_of_getElem? (i := 504) (by decide +kernel), List.mem_of_getElem? (i := 730) (by decide +kernel), List.mem_of_getElem? (i := 731) (by decide +kernel)⟩
theorem lw_p28 : lw_okq (⟨"TermCodecModel", "wrong", "(II)I"⟩, 31) := ⟨⟨by decide +kernel, by decide +kernel⟩, List.mem_of_getElem? (i := 504) (by decide +kernel), List.mem_of_getElem? (i := 734) (by decide +kernel), List.mem_of_getElem? (i := 735) (by decide +kernel)⟩
theorem lw_p29 : lw_okq (⟨"TermCodecModel", "must", "(Z)V"⟩, 31) := ⟨⟨by decide +kernel, by decide +kernel⟩, List.mem_of_getElem? (i := 504) (by decide +kernel), List.mem_of_getElem? (i := 738) (by decide +kernel), List.mem_of_getElem? (i := 739) (by decide +kernel)⟩
theorem lw_p30 : lw_okq (⟨"TermCodecModel", "readU", "()J"⟩, 31) := ⟨⟨by decide +kernel, by decide +kernel⟩, List.mem_of_getElem? (i := 504) (by decide +kernel), List.mem_of_getElem? (i := 742) (by decide +kernel), List.mem_of_getElem? (i := 743) (by decide +kernel)⟩
theorem lw_p31 : lw_okq (⟨"TermCodecModel", "readS", "()J"⟩, 31) := ⟨⟨by decide +kernel, by decide +kernel⟩, List.mem_of_getElem? (i := 504) (by decide +kernel), List.mem_of_getElem? (i := 749) (by decide +kernel), List.mem_of_getElem? (i := 750) (by decide +kernel)⟩
def lw_privs_2 : List (MethodName × Nat) := [(⟨"TermCodecModel", "make", "(IJ)I"⟩, 31), (⟨"TermCodecModel", "free", "()I"⟩, 31), (⟨"TermCodecModel", "append", "(IJI)V"⟩, 31), (⟨"TermCodecModel", "release", "(I)V"⟩, 31), (⟨"TermCodecModel", "lengthOfTerm", "(I)I"⟩, 31), (⟨"TermCodecModel", "lengthOf", "(I)I"⟩, 31), (⟨"TermCodecModel", "lengthU", "(J)I"⟩, 31), (⟨"TermCodecModel", "lengthS", "(J)I"⟩, 31), (⟨"TermCodecModel", "layNode", "(I)V"⟩, 31), (⟨"TermCodecModel", "lay", "(J)V"⟩, 31), (⟨"TermCodecModel", "readNode", "(I)V"⟩, 31), (⟨"TermCodecModel", "next", "()I"⟩, 31), (⟨"TermCodecModel", "wrong", "(II)I"⟩, 31), (⟨"TermCodecModel", "must", "(Z)V"⟩, 31), (⟨"TermCodecModel", "readU", "()J"⟩, 31), (⟨"TermCodecModel", "readS", "()J"⟩, 31)]
theorem lw_r2 : ∀ q ∈ lw_privs_2, lw_okq q := List.forall_mem_cons.mpr ⟨lw_p16, List.forall_mem_cons.mpr ⟨lw_p17, List.forall_mem_cons.mpr ⟨lw_p18, List.forall_mem_cons.mpr ⟨lw_p19, List.forall_mem_cons.mpr ⟨lw_p20, List.forall_mem_cons.mpr ⟨lw_p21, List.forall_mem_cons.mpr ⟨lw_p22, List.forall_mem_cons.mpr ⟨lw_p23, List.forall_mem_cons.mpr ⟨lw_p24, List.forall_mem_cons.mpr ⟨lw_p25, List.forall_mem_cons.mpr ⟨lw_p26, List.forall_mem_cons.mpr ⟨lw_p27, List.forall_mem_cons.mpr ⟨lw_p28, List.forall_mem_cons.mpr ⟨lw_p29, List.forall_mem_cons.mpr ⟨lw_p30, List.forall_mem_cons.mpr ⟨lw_p31, fun _ h => absurd h List.not_mem_nil⟩⟩⟩⟩⟩⟩⟩⟩⟩⟩⟩⟩⟩⟩⟩⟩
theorem lw_p32 : lw_okq (⟨"TermCodecModel", "open", "()I"⟩, 31) := ⟨⟨by decide +kernel, by decide +kernel⟩, List.mem_of_getElem? (i := 504) (by decide +kernel), List.mem_of_getElem? (i := 754) (by decide +kernel), List.mem_of_getElem? (i := 755) (by decide +kernel)⟩
theorem lw_p33 : lw_okq (⟨"TermCodecModel", "isNode", "(I)Z"⟩, 31) := ⟨⟨by decide +kernel, by decide +kernel⟩, List.mem_of_getElem? (i := 504) (by decide +kernel), List.mem_of_getElem? (i := 762) (by decide +kernel), List.mem_of_getElem? (i := 763) (by decide +kernel)⟩
theorem lw_p34 : lw_okq (⟨"TermCodecModel", "sizeOf", "(I)I"⟩, 31) := ⟨⟨by decide +kernel, by decide +kernel⟩, List.mem_of_getElem? (i := 504) (by decide +kernel), List.mem_of_getElem? (i := 766) (by decide +kernel), List.mem_of_getElem? (i := 767) (by decide +kernel)⟩
theorem lw_p35 : lw_okq (⟨"TermCodecModel", "lambdas", "(II)I"⟩, 31) := ⟨⟨by decide +kernel, by decide +kernel⟩, List.mem_of_getElem? (i := 504) (by decide +kernel), List.mem_of_getElem? (i := 770) (by decide +kernel), List.mem_of_getElem? (i := 771) (by decide +kernel)⟩
def lw_privs_3 : List (MethodName × Nat) := [(⟨"TermCodecModel", "open", "()I"⟩, 31), (⟨"TermCodecModel", "isNode", "(I)Z"⟩, 31), (⟨"TermCodecModel", "sizeOf", "(I)I"⟩, 31), (⟨"TermCodecModel", "lambdas", "(II)I"⟩, 31)]
theorem lw_r3 : ∀ q ∈ lw_privs_3, lw_okq q := List.forall_mem_cons.mpr ⟨lw_p32, List.forall_mem_cons.mpr ⟨lw_p33, List.forall_mem_cons.mpr ⟨lw_p34, List.forall_mem_cons.mpr ⟨lw_p35, fun _ h => absurd h List.not_mem_nil⟩⟩⟩⟩
def lw_privs : List (MethodName × Nat) := lw_privs_1 ++ (lw_privs_2 ++ (lw_privs_3))
def lw_tbl : List Cond := k2_sels lw_privs ++ tables_1
theorem lw_privs_ok : ∀ q ∈ lw_privs, lw_okq q := by
  show ∀ q ∈ lw_privs_1 ++ (lw_privs_2 ++ (lw_privs_3)), lw_okq q
  exact List.forall_mem_append.mpr ⟨lw_r1, List.forall_mem_append.mpr ⟨lw_r2, lw_r3⟩⟩
-- ===== end of PART A
/-- the words that a callee may be handed -/
def xk_gt : List Cond := lw_tbl.filter goodWord
theorem xk_gt_good : ∀ w ∈ xk_gt, goodWord w = true := fun w h => (List.mem_filter.mp h).2
theorem xk_gt_tbl : ∀ w ∈ xk_gt, w ∈ lw_tbl := fun w h => (List.mem_filter.mp h).1
theorem xk_mem {w : Cond} (i : Nat) (h : lw_tbl[i]? = some w) (hg : goodWord w = true) : w ∈ xk_gt := List.mem_filter.mpr ⟨List.mem_of_getElem? h, hg⟩
end
section
def RB : String := "TermCodec$ByteRow"
def RS : String := "TermCodec$TermStack"
def RR : String := "TermCodec$Reader"
def RX : String := "TermCodec"
def RM : String := "TermCodecModel"
def RF : String := "TermCodec$Format"
def RL : String := "TermCodecLaw"
def TB : u_T := fun k => match k with
  | 0 => ("TermCodec$ByteRow", "row", "[B", true)
  | _ => ("TermCodec$ByteRow", "size", "I", false)
def tB : Nat → FieldType := fun k => match k with
  | 0 => .array .byte
  | _ => .int
theorem nB_ok : ∀ a, a < 2 → ∀ b, b < 2 → a ≠ b → (TB a).2.1 ≠ (TB b).2.1 := by decide +kernel
theorem tB_ok : ∀ k, k < 2 → parseFieldDescriptor (TB k).2.2.1 = some (tB k) := by decide +kernel
def TS : u_T := fun k => match k with
  | 0 => ("TermCodec$TermStack", "kinds", "[I", true)
  | 1 => ("TermCodec$TermStack", "numbers", "[J", true)
  | 2 => ("TermCodec$TermStack", "words", "[J", true)
  | 3 => ("TermCodec$TermStack", "sizes", "[I", true)
  | 4 => ("TermCodec$TermStack", "depths", "[I", true)
  | 5 => ("TermCodec$TermStack", "lacks", "[I", true)
  | 6 => ("TermCodec$TermStack", "lengths", "[I", true)
  | 7 => ("TermCodec$TermStack", "roots", "[I", true)
  | 8 => ("TermCodec$TermStack", "terms", "I", false)
  | _ => ("TermCodec$TermStack", "nodes", "I", false)
def tS : Nat → FieldType := fun k => match k with
  | 0 => .array .int
  | 1 => .array .long
  | 2 => .array .long
  | 3 => .array .int
  | 4 => .array .int
  | 5 => .array .int
  | 6 => .array .int
  | 7 => .array .int
  | 8 => .int
  | _ => .int
theorem nS_ok : ∀ a, a < 10 → ∀ b, b < 10 → a ≠ b → (TS a).2.1 ≠ (TS b).2.1 := by decide +kernel
theorem tS_ok : ∀ k, k < 10 → parseFieldDescriptor (TS k).2.2.1 = some (tS k) := by decide +kernel
def TR : u_T := fun k => match k with
  | 0 => ("TermCodec$Reader", "input", "LTermCodec$ByteRow;", true)
  | 1 => ("TermCodec$Reader", "stack", "LTermCodec$TermStack;", true)
  | 2 => ("TermCodec$Reader", "waitingLevels", "[I", true)
  | 3 => ("TermCodec$Reader", "waitingLambdas", "[I", true)
  | 4 => ("TermCodec$Reader", "waiting", "I", false)
  | 5 => ("TermCodec$Reader", "next", "I", false)
  | 6 => ("TermCodec$Reader", "at", "I", false)
  | 7 => ("TermCodec$Reader", "fault", "I", false)
  | _ => ("TermCodec$Reader", "place", "I", false)
def tR : Nat → FieldType := fun k => match k with
  | 0 => .object "TermCodec$ByteRow"
  | 1 => .object "TermCodec$TermStack"
  | 2 => .array .int
  | 3 => .array .int
  | 4 => .int
  | 5 => .int
  | 6 => .int
  | 7 => .int
  | _ => .int
theorem nR_ok : ∀ a, a < 9 → ∀ b, b < 9 → a ≠ b → (TR a).2.1 ≠ (TR b).2.1 := by decide +kernel
theorem tR_ok : ∀ k, k < 9 → parseFieldDescriptor (TR k).2.2.1 = some (tR k) := by decide +kernel
def TX : u_T := fun k => match k with
  | 0 => ("TermCodec", "stack", "LTermCodec$TermStack;", true)
  | 1 => ("TermCodec", "written", "LTermCodec$ByteRow;", true)
  | 2 => ("TermCodec", "given", "LTermCodec$ByteRow;", true)
  | _ => ("TermCodec", "reader", "LTermCodec$Reader;", true)
def tX : Nat → FieldType := fun k => match k with
  | 0 => .object "TermCodec$TermStack"
  | 1 => .object "TermCodec$ByteRow"
  | 2 => .object "TermCodec$ByteRow"
  | _ => .object "TermCodec$Reader"
theorem nX_ok : ∀ a, a < 4 → ∀ b, b < 4 → a ≠ b → (TX a).2.1 ≠ (TX b).2.1 := by decide +kernel
theorem tX_ok : ∀ k, k < 4 → parseFieldDescriptor (TX k).2.2.1 = some (tX k) := by decide +kernel
def TM : u_T := fun k => match k with
  | 0 => ("TermCodecModel", "thrown", "I", false)
  | 1 => ("TermCodecModel", "inUse", "[Z", true)
  | 2 => ("TermCodecModel", "kinds", "[I", true)
  | 3 => ("TermCodecModel", "numbers", "[J", true)
  | 4 => ("TermCodecModel", "firsts", "[I", true)
  | 5 => ("TermCodecModel", "seconds", "[I", true)
  | 6 => ("TermCodecModel", "texts", "[B", true)
  | 7 => ("TermCodecModel", "used", "I", false)
  | 8 => ("TermCodecModel", "terms", "[I", true)
  | 9 => ("TermCodecModel", "many", "I", false)
  | 10 => ("TermCodecModel", "output", "[B", true)
  | 11 => ("TermCodecModel", "outputs", "I", false)
  | 12 => ("TermCodecModel", "input", "[B", true)
  | 13 => ("TermCodecModel", "inputs", "I", false)
  | 14 => ("TermCodecModel", "at", "I", false)
  | 15 => ("TermCodecModel", "fault", "I", false)
  | 16 => ("TermCodecModel", "place", "I", false)
  | 17 => ("TermCodecModel", "order", "[I", true)
  | 18 => ("TermCodecModel", "around", "[I", true)
  | 19 => ("TermCodecModel", "level", "[I", true)
  | 20 => ("TermCodecModel", "ordered", "I", false)
  | 21 => ("TermCodecModel", "stack", "[I", true)
  | 22 => ("TermCodecModel", "stackAround", "[I", true)
  | 23 => ("TermCodecModel", "stackLevel", "[I", true)
  | 24 => ("TermCodecModel", "p", "I", false)
  | 25 => ("TermCodecModel", "read", "[I", true)
  | 26 => ("TermCodecModel", "reads", "I", false)
  | 27 => ("TermCodecModel", "copies", "[I", true)
  | 28 => ("TermCodecModel", "deep", "[I", true)
  | 29 => ("TermCodecModel", "bound", "[I", true)
  | _ => ("TermCodecModel", "lack", "[I", true)
def tM : Nat → FieldType := fun k => match k with
  | 0 => .int
  | 1 => .array .boolean
  | 2 => .array .int
  | 3 => .array .long
  | 4 => .array .int
  | 5 => .array .int
  | 6 => .array .byte
  | 7 => .int
  | 8 => .array .int
  | 9 => .int
  | 10 => .array .byte
  | 11 => .int
  | 12 => .array .byte
  | 13 => .int
  | 14 => .int
  | 15 => .int
  | 16 => .int
  | 17 => .array .int
  | 18 => .array .int
  | 19 => .array .int
  | 20 => .int
  | 21 => .array .int
  | 22 => .array .int
  | 23 => .array .int
  | 24 => .int
  | 25 => .array .int
  | 26 => .int
  | 27 => .array .int
  | 28 => .array .int
  | 29 => .array .int
  | _ => .array .int
theorem nM_ok : ∀ a, a < 31 → ∀ b, b < 31 → a ≠ b → (TM a).2.1 ≠ (TM b).2.1 := by decide +kernel
theorem tM_ok : ∀ k, k < 31 → parseFieldDescriptor (TM k).2.2.1 = some (tM k) := by decide +kernel
abbrev vwCl : List vw_C := [(RB, TB, 2), (RS, TS, 10), (RR, TR, 9), (RX, TX, 4), (RM, TM, 31)]
abbrev cX_init : ByteArray := prog_1_method_1_code
def yX_init : MethodName := ⟨"TermCodec", "<init>", "()V"⟩
abbrev cS_init : ByteArray := prog_5_method_1_code
def yS_init : MethodName := ⟨"TermCodec$TermStack", "<init>", "()V"⟩
abbrev cB_init : ByteArray := prog_2_method_1_code
def yB_init : MethodName := ⟨"TermCodec$ByteRow", "<init>", "()V"⟩
abbrev cR_init : ByteArray := prog_4_method_1_code
def yR_init : MethodName := ⟨"TermCodec$Reader", "<init>", "(LTermCodec$ByteRow;LTermCodec$TermStack;)V"⟩
abbrev cX_clear : ByteArray := prog_1_method_2_code
def yX_clear : MethodName := ⟨"TermCodec", "clear", "()V"⟩
abbrev cX_more : ByteArray := prog_1_method_5_code
def yX_more : MethodName := ⟨"TermCodec", "more", "(JI)Z"⟩
abbrev cS_extend : ByteArray := prog_5_method_11_code
def yS_extend : MethodName := ⟨"TermCodec$TermStack", "extend", "(JI)Z"⟩
abbrev cS_lastRoot : ByteArray := prog_5_method_2_code
def yS_lastRoot : MethodName := ⟨"TermCodec$TermStack", "lastRoot", "()I"⟩
abbrev cS_byteCount : ByteArray := prog_5_method_6_code
def yS_byteCount : MethodName := ⟨"TermCodec$TermStack", "byteCount", "(I)I"⟩
abbrev cF_byteOf : ByteArray := prog_3_method_9_code
def yF_byteOf : MethodName := ⟨"TermCodec$Format", "byteOf", "(JI)I"⟩
abbrev cS_setByte : ByteArray := prog_5_method_8_code
def yS_setByte : MethodName := ⟨"TermCodec$TermStack", "setByte", "(III)V"⟩
abbrev cS_settle : ByteArray := prog_5_method_20_code
def yS_settle : MethodName := ⟨"TermCodec$TermStack", "settle", "(I)V"⟩
abbrev cF_ownLength : ByteArray := prog_3_method_6_code
def yF_ownLength : MethodName := ⟨"TermCodec$Format", "ownLength", "(IJ)I"⟩
abbrev cF_unsignedGroups : ByteArray := prog_3_method_7_code
def yF_unsignedGroups : MethodName := ⟨"TermCodec$Format", "unsignedGroups", "(J)I"⟩
abbrev cF_signedGroups : ByteArray := prog_3_method_8_code
def yF_signedGroups : MethodName := ⟨"TermCodec$Format", "signedGroups", "(J)I"⟩
abbrev cF_partsOf : ByteArray := prog_3_method_3_code
def yF_partsOf : MethodName := ⟨"TermCodec$Format", "partsOf", "(I)I"⟩
abbrev cX_drop : ByteArray := prog_1_method_6_code
def yX_drop : MethodName := ⟨"TermCodec", "drop", "()Z"⟩
abbrev cS_removeLast : ByteArray := prog_5_method_12_code
def yS_removeLast : MethodName := ⟨"TermCodec$TermStack", "removeLast", "()Z"⟩
abbrev cX_twice : ByteArray := prog_1_method_7_code
def yX_twice : MethodName := ⟨"TermCodec", "twice", "()Z"⟩
abbrev cS_repeatLast : ByteArray := prog_5_method_13_code
def yS_repeatLast : MethodName := ⟨"TermCodec$TermStack", "repeatLast", "()Z"⟩
abbrev cS_copyNodes : ByteArray := prog_5_method_21_code
def yS_copyNodes : MethodName := ⟨"TermCodec$TermStack", "copyNodes", "(III)V"⟩
abbrev cS_pushTerm : ByteArray := prog_5_method_19_code
def yS_pushTerm : MethodName := ⟨"TermCodec$TermStack", "pushTerm", "(I)V"⟩
abbrev cX_split : ByteArray := prog_1_method_8_code
def yX_split : MethodName := ⟨"TermCodec", "split", "()I"⟩
abbrev cS_openLast : ByteArray := prog_5_method_14_code
def yS_openLast : MethodName := ⟨"TermCodec$TermStack", "openLast", "()I"⟩
abbrev cX_write : ByteArray := prog_1_method_9_code
def yX_write : MethodName := ⟨"TermCodec", "write", "()I"⟩
abbrev cB_room : ByteArray := prog_2_method_2_code
def yB_room : MethodName := ⟨"TermCodec$ByteRow", "room", "()I"⟩
abbrev cS_appendNode : ByteArray := prog_5_method_17_code
def yS_appendNode : MethodName := ⟨"TermCodec$TermStack", "appendNode", "(ILTermCodec$ByteRow;)V"⟩
abbrev cB_append : ByteArray := prog_2_method_4_code
def yB_append : MethodName := ⟨"TermCodec$ByteRow", "append", "(I)V"⟩
abbrev cB_appendGroups : ByteArray := prog_2_method_5_code
def yB_appendGroups : MethodName := ⟨"TermCodec$ByteRow", "appendGroups", "(JI)V"⟩
abbrev cS_byteIn : ByteArray := prog_5_method_7_code
def yS_byteIn : MethodName := ⟨"TermCodec$TermStack", "byteIn", "(II)I"⟩
abbrev cX_wipe : ByteArray := prog_1_method_10_code
def yX_wipe : MethodName := ⟨"TermCodec", "wipe", "()V"⟩
abbrev cX_give : ByteArray := prog_1_method_11_code
def yX_give : MethodName := ⟨"TermCodec", "give", "(JI)Z"⟩
abbrev cX_cut : ByteArray := prog_1_method_12_code
def yX_cut : MethodName := ⟨"TermCodec", "cut", "(I)Z"⟩
abbrev cX_turn : ByteArray := prog_1_method_13_code
def yX_turn : MethodName := ⟨"TermCodec", "turn", "()V"⟩
abbrev cB_copyFrom : ByteArray := prog_2_method_6_code
def yB_copyFrom : MethodName := ⟨"TermCodec$ByteRow", "copyFrom", "(LTermCodec$ByteRow;)V"⟩
abbrev cX_read : ByteArray := prog_1_method_14_code
def yX_read : MethodName := ⟨"TermCodec", "read", "()I"⟩
abbrev cR_readTerm : ByteArray := prog_4_method_2_code
def yR_readTerm : MethodName := ⟨"TermCodec$Reader", "readTerm", "()I"⟩
abbrev cR_await : ByteArray := prog_4_method_9_code
def yR_await : MethodName := ⟨"TermCodec$Reader", "await", "(III)V"⟩
abbrev cR_readNode : ByteArray := prog_4_method_3_code
def yR_readNode : MethodName := ⟨"TermCodec$Reader", "readNode", "(I)V"⟩
abbrev cR_takeByte : ByteArray := prog_4_method_8_code
def yR_takeByte : MethodName := ⟨"TermCodec$Reader", "takeByte", "()I"⟩
abbrev cB_get : ByteArray := prog_2_method_3_code
def yB_get : MethodName := ⟨"TermCodec$ByteRow", "get", "(I)I"⟩
abbrev cR_fail : ByteArray := prog_4_method_10_code
def yR_fail : MethodName := ⟨"TermCodec$Reader", "fail", "(II)V"⟩
abbrev cF_isKind : ByteArray := prog_3_method_2_code
def yF_isKind : MethodName := ⟨"TermCodec$Format", "isKind", "(I)Z"⟩
abbrev cR_readNumber : ByteArray := prog_4_method_4_code
def yR_readNumber : MethodName := ⟨"TermCodec$Reader", "readNumber", "(III)V"⟩
abbrev cR_takeNumber : ByteArray := prog_4_method_5_code
def yR_takeNumber : MethodName := ⟨"TermCodec$Reader", "takeNumber", "(I)J"⟩
abbrev cR_takeUnsigned : ByteArray := prog_4_method_6_code
def yR_takeUnsigned : MethodName := ⟨"TermCodec$Reader", "takeUnsigned", "()J"⟩
abbrev cR_takeSigned : ByteArray := prog_4_method_7_code
def yR_takeSigned : MethodName := ⟨"TermCodec$Reader", "takeSigned", "()J"⟩
abbrev cF_fits : ByteArray := prog_3_method_5_code
def yF_fits : MethodName := ⟨"TermCodec$Format", "fits", "(IJ)Z"⟩
abbrev cS_setNode : ByteArray := prog_5_method_9_code
def yS_setNode : MethodName := ⟨"TermCodec$TermStack", "setNode", "(IIJ)V"⟩
abbrev cS_adopt : ByteArray := prog_5_method_15_code
def yS_adopt : MethodName := ⟨"TermCodec$TermStack", "adopt", "(I)V"⟩
abbrev cX_of : ByteArray := prog_1_method_15_code
def yX_of : MethodName := ⟨"TermCodec", "of", "(II)I"⟩
abbrev cS_find : ByteArray := prog_5_method_3_code
def yS_find : MethodName := ⟨"TermCodec$TermStack", "find", "(I)I"⟩
abbrev cS_parentOf : ByteArray := prog_5_method_5_code
def yS_parentOf : MethodName := ⟨"TermCodec$TermStack", "parentOf", "(I)I"⟩
abbrev cX_byteAt : ByteArray := prog_1_method_17_code
def yX_byteAt : MethodName := ⟨"TermCodec", "byteAt", "(II)I"⟩
abbrev cX_output : ByteArray := prog_1_method_19_code
def yX_output : MethodName := ⟨"TermCodec", "output", "(I)I"⟩
abbrev cX_look : ByteArray := prog_1_method_20_code
def yX_look : MethodName := ⟨"TermCodec", "look", "(I)I"⟩
abbrev cS_lastLength : ByteArray := prog_5_method_4_code
def yS_lastLength : MethodName := ⟨"TermCodec$TermStack", "lastLength", "()I"⟩
abbrev cL_node : ByteArray := method_3_code
def yL_node : MethodName := ⟨"TermCodecLaw", "node", "(LTermCodec;IJ[J)I"⟩
abbrev cX_node : ByteArray := prog_1_method_3_code
def yX_node : MethodName := ⟨"TermCodec", "node", "(IJ)I"⟩
abbrev cS_put : ByteArray := prog_5_method_10_code
def yS_put : MethodName := ⟨"TermCodec$TermStack", "put", "(IJ)Z"⟩
abbrev cL_bytes : ByteArray := method_4_code
def yL_bytes : MethodName := ⟨"TermCodecLaw", "bytes", "(LTermCodec;JI[J)I"⟩
abbrev cX_bytes : ByteArray := prog_1_method_4_code
def yX_bytes : MethodName := ⟨"TermCodec", "bytes", "(JI)I"⟩
abbrev cL_number : ByteArray := method_5_code
def yL_number : MethodName := ⟨"TermCodecLaw", "number", "(LTermCodec;I[J)I"⟩
abbrev cX_number : ByteArray := prog_1_method_16_code
def yX_number : MethodName := ⟨"TermCodec", "number", "(I)J"⟩
abbrev cF_hasNumber : ByteArray := prog_3_method_4_code
def yF_hasNumber : MethodName := ⟨"TermCodec$Format", "hasNumber", "(I)Z"⟩
abbrev cL_same : ByteArray := method_6_code
def yL_same : MethodName := ⟨"TermCodecLaw", "same", "(LTermCodec;[J)I"⟩
abbrev cX_same : ByteArray := prog_1_method_18_code
def yX_same : MethodName := ⟨"TermCodec", "same", "()Z"⟩
abbrev cS_lastTwoAlike : ByteArray := prog_5_method_16_code
def yS_lastTwoAlike : MethodName := ⟨"TermCodec$TermStack", "lastTwoAlike", "()Z"⟩
abbrev cS_alike : ByteArray := prog_5_method_18_code
def yS_alike : MethodName := ⟨"TermCodec$TermStack", "alike", "(II)Z"⟩
abbrev cM_init : ByteArray := prog_7_method_1_code
def yM_init : MethodName := ⟨"TermCodecModel", "<init>", "()V"⟩
abbrev cM_thrown : ByteArray := prog_7_method_2_code
def yM_thrown : MethodName := ⟨"TermCodecModel", "thrown", "()I"⟩
abbrev cM_clear : ByteArray := prog_7_method_11_code
def yM_clear : MethodName := ⟨"TermCodecModel", "clear", "()V"⟩
abbrev cM_node : ByteArray := prog_7_method_14_code
def yM_node : MethodName := ⟨"TermCodecModel", "node", "(IJ)I"⟩
abbrev cM_isArg : ByteArray := prog_7_method_12_code
def yM_isArg : MethodName := ⟨"TermCodecModel", "isArg", "(IJ)Z"⟩
abbrev cM_takes : ByteArray := prog_7_method_3_code
def yM_takes : MethodName := ⟨"TermCodecModel", "takes", "(I)I"⟩
abbrev cM_deepest : ByteArray := prog_7_method_13_code
def yM_deepest : MethodName := ⟨"TermCodecModel", "deepest", "(I)I"⟩
abbrev cM_depthOf : ByteArray := prog_7_method_8_code
def yM_depthOf : MethodName := ⟨"TermCodecModel", "depthOf", "(I)I"⟩
abbrev cM_go : ByteArray := prog_7_method_7_code
def yM_go : MethodName := ⟨"TermCodecModel", "go", "(I)V"⟩
abbrev cM_make : ByteArray := prog_7_method_5_code
def yM_make : MethodName := ⟨"TermCodecModel", "make", "(IJ)I"⟩
abbrev cM_free : ByteArray := prog_7_method_4_code
def yM_free : MethodName := ⟨"TermCodecModel", "free", "()I"⟩
abbrev cM_bytes : ByteArray := prog_7_method_15_code
def yM_bytes : MethodName := ⟨"TermCodecModel", "bytes", "(JI)I"⟩
abbrev cM_append : ByteArray := prog_7_method_16_code
def yM_append : MethodName := ⟨"TermCodecModel", "append", "(IJI)V"⟩
abbrev cM_more : ByteArray := prog_7_method_17_code
def yM_more : MethodName := ⟨"TermCodecModel", "more", "(JI)Z"⟩
abbrev cM_drop : ByteArray := prog_7_method_18_code
def yM_drop : MethodName := ⟨"TermCodecModel", "drop", "()Z"⟩
abbrev cM_release : ByteArray := prog_7_method_6_code
def yM_release : MethodName := ⟨"TermCodecModel", "release", "(I)V"⟩
abbrev cM_twice : ByteArray := prog_7_method_19_code
def yM_twice : MethodName := ⟨"TermCodecModel", "twice", "()Z"⟩
abbrev cM_split : ByteArray := prog_7_method_20_code
def yM_split : MethodName := ⟨"TermCodecModel", "split", "()I"⟩
abbrev cM_write : ByteArray := prog_7_method_27_code
def yM_write : MethodName := ⟨"TermCodecModel", "write", "()I"⟩
abbrev cM_lengthOfTerm : ByteArray := prog_7_method_24_code
def yM_lengthOfTerm : MethodName := ⟨"TermCodecModel", "lengthOfTerm", "(I)I"⟩
abbrev cM_lengthOf : ByteArray := prog_7_method_23_code
def yM_lengthOf : MethodName := ⟨"TermCodecModel", "lengthOf", "(I)I"⟩
abbrev cM_lengthU : ByteArray := prog_7_method_21_code
def yM_lengthU : MethodName := ⟨"TermCodecModel", "lengthU", "(J)I"⟩
abbrev cM_lengthS : ByteArray := prog_7_method_22_code
def yM_lengthS : MethodName := ⟨"TermCodecModel", "lengthS", "(J)I"⟩
abbrev cM_layNode : ByteArray := prog_7_method_26_code
def yM_layNode : MethodName := ⟨"TermCodecModel", "layNode", "(I)V"⟩
abbrev cM_lay : ByteArray := prog_7_method_25_code
def yM_lay : MethodName := ⟨"TermCodecModel", "lay", "(J)V"⟩
abbrev cM_wipe : ByteArray := prog_7_method_28_code
def yM_wipe : MethodName := ⟨"TermCodecModel", "wipe", "()V"⟩
abbrev cM_give : ByteArray := prog_7_method_29_code
def yM_give : MethodName := ⟨"TermCodecModel", "give", "(JI)Z"⟩
abbrev cM_cut : ByteArray := prog_7_method_30_code
def yM_cut : MethodName := ⟨"TermCodecModel", "cut", "(I)Z"⟩
abbrev cM_turn : ByteArray := prog_7_method_31_code
def yM_turn : MethodName := ⟨"TermCodecModel", "turn", "()V"⟩
abbrev cM_read : ByteArray := prog_7_method_39_code
def yM_read : MethodName := ⟨"TermCodecModel", "read", "()I"⟩
abbrev cM_readNode : ByteArray := prog_7_method_37_code
def yM_readNode : MethodName := ⟨"TermCodecModel", "readNode", "(I)V"⟩
abbrev cM_next : ByteArray := prog_7_method_33_code
def yM_next : MethodName := ⟨"TermCodecModel", "next", "()I"⟩
abbrev cM_wrong : ByteArray := prog_7_method_32_code
def yM_wrong : MethodName := ⟨"TermCodecModel", "wrong", "(II)I"⟩
abbrev cM_must : ByteArray := prog_7_method_36_code
def yM_must : MethodName := ⟨"TermCodecModel", "must", "(Z)V"⟩
abbrev cM_readU : ByteArray := prog_7_method_34_code
def yM_readU : MethodName := ⟨"TermCodecModel", "readU", "()J"⟩
abbrev cM_readS : ByteArray := prog_7_method_35_code
def yM_readS : MethodName := ⟨"TermCodecModel", "readS", "()J"⟩
abbrev cM_open : ByteArray := prog_7_method_38_code
def yM_open : MethodName := ⟨"TermCodecModel", "open", "()I"⟩
abbrev cM_of : ByteArray := prog_7_method_41_code
def yM_of : MethodName := ⟨"TermCodecModel", "of", "(II)I"⟩
abbrev cM_isNode : ByteArray := prog_7_method_40_code
def yM_isNode : MethodName := ⟨"TermCodecModel", "isNode", "(I)Z"⟩
abbrev cM_sizeOf : ByteArray := prog_7_method_10_code
def yM_sizeOf : MethodName := ⟨"TermCodecModel", "sizeOf", "(I)I"⟩
abbrev cM_lambdas : ByteArray := prog_7_method_9_code
def yM_lambdas : MethodName := ⟨"TermCodecModel", "lambdas", "(II)I"⟩
abbrev cM_number : ByteArray := prog_7_method_42_code
def yM_number : MethodName := ⟨"TermCodecModel", "number", "(I)J"⟩
abbrev cM_byteAt : ByteArray := prog_7_method_43_code
def yM_byteAt : MethodName := ⟨"TermCodecModel", "byteAt", "(II)I"⟩
abbrev cM_same : ByteArray := prog_7_method_44_code
def yM_same : MethodName := ⟨"TermCodecModel", "same", "()Z"⟩
abbrev cM_output : ByteArray := prog_7_method_45_code
def yM_output : MethodName := ⟨"TermCodecModel", "output", "(I)I"⟩
abbrev cM_look : ByteArray := prog_7_method_46_code
def yM_look : MethodName := ⟨"TermCodecModel", "look", "(I)I"⟩
abbrev cL_law : ByteArray := code
theorem i_B : ∀ w ∈ u_ws RB TB 2, w ∈ xk_gt := by
  intro w hw
  obtain ⟨j, hj, rfl⟩ := List.mem_map.mp hw
  have hj : j < 2 := List.mem_range.mp hj
  match j, hj with
  | 0, _ => exact xk_mem 116 (by decide +kernel) (by decide)
  | 1, _ => exact xk_mem 118 (by decide +kernel) (by decide)
  | j + 2, hj => exact absurd hj (by omega)
theorem i_S : ∀ w ∈ u_ws RS TS 10, w ∈ xk_gt := by
  intro w hw
  obtain ⟨j, hj, rfl⟩ := List.mem_map.mp hw
  have hj : j < 10 := List.mem_range.mp hj
  match j, hj with
  | 0, _ => exact xk_mem 83 (by decide +kernel) (by decide)
  | 1, _ => exact xk_mem 85 (by decide +kernel) (by decide)
  | 2, _ => exact xk_mem 87 (by decide +kernel) (by decide)
  | 3, _ => exact xk_mem 89 (by decide +kernel) (by decide)
  | 4, _ => exact xk_mem 91 (by decide +kernel) (by decide)
  | 5, _ => exact xk_mem 93 (by decide +kernel) (by decide)
  | 6, _ => exact xk_mem 95 (by decide +kernel) (by decide)
  | 7, _ => exact xk_mem 97 (by decide +kernel) (by decide)
  | 8, _ => exact xk_mem 99 (by decide +kernel) (by decide)
  | 9, _ => exact xk_mem 101 (by decide +kernel) (by decide)
  | j + 10, hj => exact absurd hj (by omega)
theorem i_R : ∀ w ∈ u_ws RR TR 9, w ∈ xk_gt := by
  intro w hw
  obtain ⟨j, hj, rfl⟩ := List.mem_map.mp hw
  have hj : j < 9 := List.mem_range.mp hj
  match j, hj with
  | 0, _ => exact xk_mem 140 (by decide +kernel) (by decide)
  | 1, _ => exact xk_mem 142 (by decide +kernel) (by decide)
  | 2, _ => exact xk_mem 144 (by decide +kernel) (by decide)
  | 3, _ => exact xk_mem 146 (by decide +kernel) (by decide)
  | 4, _ => exact xk_mem 148 (by decide +kernel) (by decide)
  | 5, _ => exact xk_mem 150 (by decide +kernel) (by decide)
  | 6, _ => exact xk_mem 152 (by decide +kernel) (by decide)
  | 7, _ => exact xk_mem 154 (by decide +kernel) (by decide)
  | 8, _ => exact xk_mem 156 (by decide +kernel) (by decide)
  | j + 9, hj => exact absurd hj (by omega)
theorem i_X : ∀ w ∈ u_ws RX TX 4, w ∈ xk_gt := by
  intro w hw
  obtain ⟨j, hj, rfl⟩ := List.mem_map.mp hw
  have hj : j < 4 := List.mem_range.mp hj
  match j, hj with
  | 0, _ => exact xk_mem 163 (by decide +kernel) (by decide)
  | 1, _ => exact xk_mem 165 (by decide +kernel) (by decide)
  | 2, _ => exact xk_mem 167 (by decide +kernel) (by decide)
  | 3, _ => exact xk_mem 169 (by decide +kernel) (by decide)
  | j + 4, hj => exact absurd hj (by omega)
theorem i_M : ∀ w ∈ u_ws RM TM 31, w ∈ xk_gt := by
  intro w hw
  obtain ⟨j, hj, rfl⟩ := List.mem_map.mp hw
  have hj : j < 31 := List.mem_range.mp hj
  match j, hj with
  | 0, _ => exact xk_mem 576 (by decide +kernel) (by decide)
  | 1, _ => exact xk_mem 578 (by decide +kernel) (by decide)
  | 2, _ => exact xk_mem 580 (by decide +kernel) (by decide)
  | 3, _ => exact xk_mem 582 (by decide +kernel) (by decide)
  | 4, _ => exact xk_mem 584 (by decide +kernel) (by decide)
  | 5, _ => exact xk_mem 586 (by decide +kernel) (by decide)
  | 6, _ => exact xk_mem 588 (by decide +kernel) (by decide)
  | 7, _ => exact xk_mem 590 (by decide +kernel) (by decide)
  | 8, _ => exact xk_mem 592 (by decide +kernel) (by decide)
  | 9, _ => exact xk_mem 594 (by decide +kernel) (by decide)
  | 10, _ => exact xk_mem 596 (by decide +kernel) (by decide)
  | 11, _ => exact xk_mem 598 (by decide +kernel) (by decide)
  | 12, _ => exact xk_mem 600 (by decide +kernel) (by decide)
  | 13, _ => exact xk_mem 602 (by decide +kernel) (by decide)
  | 14, _ => exact xk_mem 604 (by decide +kernel) (by decide)
  | 15, _ => exact xk_mem 606 (by decide +kernel) (by decide)
  | 16, _ => exact xk_mem 608 (by decide +kernel) (by decide)
  | 17, _ => exact xk_mem 610 (by decide +kernel) (by decide)
  | 18, _ => exact xk_mem 612 (by decide +kernel) (by decide)
  | 19, _ => exact xk_mem 614 (by decide +kernel) (by decide)
  | 20, _ => exact xk_mem 616 (by decide +kernel) (by decide)
  | 21, _ => exact xk_mem 618 (by decide +kernel) (by decide)
  | 22, _ => exact xk_mem 620 (by decide +kernel) (by decide)
  | 23, _ => exact xk_mem 622 (by decide +kernel) (by decide)
  | 24, _ => exact xk_mem 624 (by decide +kernel) (by decide)
  | 25, _ => exact xk_mem 626 (by decide +kernel) (by decide)
  | 26, _ => exact xk_mem 628 (by decide +kernel) (by decide)
  | 27, _ => exact xk_mem 630 (by decide +kernel) (by decide)
  | 28, _ => exact xk_mem 632 (by decide +kernel) (by decide)
  | 29, _ => exact xk_mem 634 (by decide +kernel) (by decide)
  | 30, _ => exact xk_mem 636 (by decide +kernel) (by decide)
  | j + 31, hj => exact absurd hj (by omega)
end
section
theorem bp_b (x : Int32) : x.toInt8.toInt32 &&& 255 = x &&& 255 := by
  apply Int32.toBitVec_inj.mp
  rw [Int32.toBitVec_and, Int32.toBitVec_and, Int8.toBitVec_toInt32, Int32.toBitVec_toInt8]
  apply BitVec.eq_of_getLsbD_eq
  intro i hi
  rw [BitVec.getLsbD_and, BitVec.getLsbD_and]
  have hm : ∀ i < 32, 8 ≤ i → (255 : Int32).toBitVec.getLsbD i = false := by decide
  rcases Nat.lt_or_ge i 8 with z | z
  · rw [BitVec.getLsbD_signExtend, BitVec.getLsbD_signExtend, if_pos z, if_pos hi]
    simp only [z, hi, decide_true, Bool.true_and]
  · rw [hm i hi z]; simp
theorem wb_tb (n : Nat) : (lN n).toBitVec = BitVec.ofNat 64 n := rfl
theorem wb_inj {a b : Int64} (h : a.toBitVec = b.toBitVec) : a = b := Int64.toBitVec_inj.mp h
theorem wb_tn {n : Nat} (h : n < 2 ^ 64) : (lN n).toBitVec.toNat = n := by rw [wb_tb, BitVec.toNat_ofNat, Nat.mod_eq_of_lt h]
theorem wb_of (x : Int64) : ∃ n, n < 2 ^ 64 ∧ x = lN n := ⟨x.toBitVec.toNat, x.toBitVec.isLt, wb_inj (by rw [wb_tb]; simp)⟩
theorem wb_of32 (x : Int32) : ∃ n, n < 2 ^ 32 ∧ x = nI n := ⟨x.toBitVec.toNat, x.toBitVec.isLt, Int32.toBitVec_inj.mp (by show _ = BitVec.ofNat 32 _; simp)⟩
theorem wb_c : ∀ k, k < 64 → ((nI k).toInt64 &&& 63) = lN k := by decide +kernel
theorem wb_cu : ∀ k, k < 64 → ((nI k).toInt64.toUInt64 &&& Int64.toUInt64 63) = UInt64.ofNat k := by decide +kernel
theorem wb_sm : ∀ k, k < 64 → (BitVec.ofNat 64 k).smod 64 = BitVec.ofNat 64 k := by decide +kernel
theorem wb_pw {a b : Nat} (h : a ≤ b) : 2 ^ b = 2 ^ a * 2 ^ (b - a) := by rw [← Nat.pow_add]; congr 1; omega
theorem wb_lt2 {a b : Nat} (h : a < b) : 2 ^ a < 2 ^ b := Nat.pow_lt_pow_right (by decide) h
theorem wb_mod (n : Nat) : lN n = lN (n % 2 ^ 64) := wb_inj (by rw [wb_tb, wb_tb]; apply BitVec.eq_of_toNat_eq; rw [BitVec.toNat_ofNat, BitVec.toNat_ofNat, Nat.mod_mod])
theorem wb_shr {n k : Nat} (hn : n < 2 ^ 64) (hk : k < 64) : ((lN n).toUInt64 >>> ((nI k).toInt64.toUInt64 &&& Int64.toUInt64 63)).toInt64 = lN (n / 2 ^ k) := by
  rw [wb_cu k hk]
  apply wb_inj
  apply BitVec.eq_of_toNat_eq
  show ((lN n).toUInt64 >>> UInt64.ofNat k).toNat = (BitVec.ofNat 64 _).toNat
  have h1 : (UInt64.ofNat k).toNat = k := by
    show (BitVec.ofNat 64 k).toNat = k
    rw [BitVec.toNat_ofNat, Nat.mod_eq_of_lt (by omega)]
  have h2 : (lN n).toUInt64.toNat = n := wb_tn hn
  rw [UInt64.toNat_shiftRight, h1, h2, Nat.mod_eq_of_lt hk, Nat.shiftRight_eq_div_pow, BitVec.toNat_ofNat, Nat.mod_eq_of_lt (Nat.lt_of_le_of_lt (Nat.div_le_self _ _) hn)]
theorem wb_shl (n : Nat) {k : Nat} (hk : k < 64) : lN n <<< ((nI k).toInt64 &&& 63) = lN (n * 2 ^ k) := by
  rw [wb_c k hk]
  apply wb_inj
  rw [Int64.toBitVec_shiftLeft, wb_tb, wb_tb, wb_tb, wb_sm k hk]
  apply BitVec.eq_of_toNat_eq
  rw [BitVec.shiftLeft_eq', BitVec.toNat_shiftLeft, BitVec.toNat_ofNat, BitVec.toNat_ofNat, BitVec.toNat_ofNat, Nat.mod_eq_of_lt (show k < 2 ^ 64 by omega), Nat.shiftLeft_eq, Nat.mul_mod, Nat.mod_mod, ← Nat.mul_mod]
theorem wb_and {a b : Nat} (ha : a < 2 ^ 64) (hb : b < 2 ^ 64) : lN a &&& lN b = lN (a &&& b) := by
  apply wb_inj
  rw [Int64.toBitVec_and, wb_tb, wb_tb, wb_tb]
  apply BitVec.eq_of_toNat_eq
  rw [BitVec.toNat_and, BitVec.toNat_ofNat, BitVec.toNat_ofNat, BitVec.toNat_ofNat, Nat.mod_eq_of_lt ha, Nat.mod_eq_of_lt hb, Nat.mod_eq_of_lt (Nat.and_lt_two_pow _ hb)]
theorem wb_or {a b : Nat} (ha : a < 2 ^ 64) (hb : b < 2 ^ 64) : lN a ||| lN b = lN (a ||| b) := by
  apply wb_inj
  rw [Int64.toBitVec_or, wb_tb, wb_tb, wb_tb]
  apply BitVec.eq_of_toNat_eq
  rw [BitVec.toNat_or, BitVec.toNat_ofNat, BitVec.toNat_ofNat, BitVec.toNat_ofNat, Nat.mod_eq_of_lt ha, Nat.mod_eq_of_lt hb, Nat.mod_eq_of_lt (Nat.or_lt_two_pow ha hb)]
theorem wb_mask {n k : Nat} (hn : n < 2 ^ 64) (hk : k < 64) : lN n &&& lN (2 ^ k - 1) = lN (n % 2 ^ k) := by
  rw [wb_and hn (by have := wb_lt2 hk; omega), Nat.and_two_pow_sub_one_eq_mod]
theorem wb_a1 {n : Nat} (hn : n < 2 ^ 64) : lN n &&& 1 = lN (n % 2) := wb_mask (k := 1) hn (by decide)
theorem wb_bit {n k : Nat} (hn : n < 2 ^ 64) (hk : k < 64) : ((lN n).toUInt64 >>> ((nI k).toInt64.toUInt64 &&& Int64.toUInt64 63)).toInt64 &&& 1 = lN (n / 2 ^ k % 2) := by
  rw [wb_shr hn hk, wb_a1 (Nat.lt_of_le_of_lt (Nat.div_le_self _ _) hn)]
theorem wb_xor {q k : Nat} (hk : k < 63) (h : 2 ^ k ≤ q) (h2 : q < 2 ^ (k + 1)) : lN q ^^^ lN (2 ^ k) = lN (q - 2 ^ k) := by
  obtain ⟨r, rfl⟩ : ∃ r, q = 2 ^ k + r := ⟨q - 2 ^ k, by omega⟩
  have hr : r < 2 ^ k := by rw [Nat.pow_succ] at h2; omega
  have hx : (2 ^ k + r) ^^^ 2 ^ k = r := by
    apply Nat.eq_of_testBit_eq
    intro i
    rw [Nat.testBit_xor, Nat.testBit_two_pow]
    rcases Nat.lt_trichotomy i k with h | h | h
    · rw [Nat.testBit_two_pow_add_gt h]
      simp [show ¬ k = i by omega]
    · subst h
      rw [Nat.testBit_two_pow_add_eq]
      simp
    · have a1 : 2 ^ (k + 1) ≤ 2 ^ i := Nat.pow_le_pow_right (by decide) h
      rw [Nat.testBit_lt_two_pow (show 2 ^ k + r < 2 ^ i by omega), Nat.testBit_lt_two_pow (show r < 2 ^ i by omega)]
      simp [show ¬ k = i by omega]
  have b1 := wb_lt2 (show k + 1 < 64 by omega)
  have b2 := wb_lt2 (show k < 64 by omega)
  apply wb_inj
  rw [Int64.toBitVec_xor, wb_tb, wb_tb, wb_tb]
  apply BitVec.eq_of_toNat_eq
  rw [BitVec.toNat_xor, BitVec.toNat_ofNat, BitVec.toNat_ofNat, BitVec.toNat_ofNat, Nat.mod_eq_of_lt (by omega : 2 ^ k + r < 2 ^ 64), Nat.mod_eq_of_lt b2, hx, Nat.add_sub_cancel_left, Nat.mod_eq_of_lt (by omega)]
def uN (x : Int64) : Nat := x.toUInt64.toNat
theorem uN_lt (x : Int64) : uN x < 18446744073709551616 := x.toUInt64.toNat_lt
theorem uN_inj {x y : Int64} (h : uN x = uN y) : x = y := congrArg UInt64.toInt64 (UInt64.toNat_inj.mp h)
theorem uN_add (x y : Int64) : uN (x + y) = (uN x + uN y) % 18446744073709551616 := by
  show (x.toUInt64 + y.toUInt64).toNat = _
  exact UInt64.toNat_add _ _
theorem uN_mul (x y : Int64) : uN (x * y) = (uN x * uN y) % 18446744073709551616 := by
  show (x.toUInt64 * y.toUInt64).toNat = _
  exact UInt64.toNat_mul _ _
theorem uN_shl (x : Int64) : uN (x <<< ((1 : Int32).toInt64 &&& 63)) = (2 * uN x) % 18446744073709551616 := by
  have h : (((1 : Int32).toInt64 &&& 63).toBitVec.smod 64).toNat = 1 := by decide
  show (x.toBitVec <<< (((1 : Int32).toInt64 &&& 63).toBitVec.smod 64).toNat).toNat = _
  rw [h, BitVec.toNat_shiftLeft, Nat.shiftLeft_eq, Nat.mul_comm]
  rfl
theorem uN_shr (x : Int64) (s : UInt64) : uN (x.toUInt64 >>> s).toInt64 = uN x / 2 ^ (s.toNat % 64) := by
  show (x.toUInt64 >>> s).toNat = _
  rw [UInt64.toNat_shiftRight, Nat.shiftRight_eq_div_pow]
  rfl
theorem uN_s32 (x : Int64) : uN (x.toUInt64 >>> ((32 : Int32).toInt64.toUInt64 &&& Int64.toUInt64 63)).toInt64 = uN x / 4294967296 := by
  have h : ((32 : Int32).toInt64.toUInt64 &&& Int64.toUInt64 63).toNat % 64 = 32 := by decide
  rw [uN_shr, h]
theorem uN_s63 (x : Int64) : uN (x.toUInt64 >>> ((63 : Int32).toInt64.toUInt64 &&& Int64.toUInt64 63)).toInt64 = uN x / 9223372036854775808 := by
  have h : ((63 : Int32).toInt64.toUInt64 &&& Int64.toUInt64 63).toNat % 64 = 63 := by decide
  rw [uN_shr, h]
theorem uN_lo (x : Int64) : uN (x &&& 4294967295) = uN x % 4294967296 := by
  show (x.toUInt64 &&& Int64.toUInt64 4294967295).toNat = _
  rw [UInt64.toNat_and]
  exact Nat.and_two_pow_sub_one_eq_mod _ 32
theorem uN_bit (x : Int64) : (x &&& 1) = 0 ↔ uN x % 2 = 0 := by
  have h : uN (x &&& 1) = uN x % 2 := by
    show (x.toUInt64 &&& Int64.toUInt64 1).toNat = _
    rw [UInt64.toNat_and]
    exact Nat.and_two_pow_sub_one_eq_mod _ 1
  rw [← h]
  exact ⟨fun z => by rw [z]; rfl, fun z => uN_inj (z.trans rfl)⟩
theorem uN_or {x y : Int64} (hy : uN y < 2) : uN ((x <<< ((1 : Int32).toInt64 &&& 63)) ||| y) = (2 * uN x) % 18446744073709551616 + uN y := by
  have h1 : uN ((x <<< ((1 : Int32).toInt64 &&& 63)) ||| y) = uN (x <<< ((1 : Int32).toInt64 &&& 63)) ||| uN y := UInt64.toNat_or _ _
  have h2 : (2 * uN x) % 18446744073709551616 = 2 ^ 1 * (uN x % 9223372036854775808) := by omega
  rw [h1, uN_shl, h2]
  exact (Nat.two_pow_add_eq_or_of_lt (i := 1) hy _).symm
theorem nat_xor {a : Nat} (h : a < 18446744073709551616) : a ^^^ 2 ^ 63 = (a + 9223372036854775808) % 18446744073709551616 := by
  have h1 : (a ^^^ 2 ^ 63) % 2 ^ 63 = a % 2 ^ 63 := by rw [Nat.xor_mod_two_pow, Nat.mod_self, Nat.xor_zero]
  have h2 : (a ^^^ 2 ^ 63) / 2 ^ 63 = (a / 2 ^ 63) ^^^ 1 := by rw [Nat.xor_div_two_pow, Nat.div_self (Nat.two_pow_pos 63)]
  have h3 : a / 2 ^ 63 = 0 ∨ a / 2 ^ 63 = 1 := by omega
  generalize a ^^^ 2 ^ 63 = t at h1 h2
  rcases h3 with h3 | h3
  · rw [h3] at h2
    have h2 : t / 2 ^ 63 = 1 := h2
    omega
  · rw [h3] at h2
    have h2 : t / 2 ^ 63 = 0 := h2
    omega
theorem uN_xor (x : Int64) : uN (x ^^^ (-9223372036854775808)) = (uN x + 9223372036854775808) % 18446744073709551616 := by
  rw [← nat_xor (uN_lt x)]
  exact UInt64.toNat_xor _ _
theorem uN_int (x : Int64) : x.toInt = if 2 * uN x < 18446744073709551616 then (uN x : Int) else (uN x : Int) - 18446744073709551616 := BitVec.toInt_eq_toNat_cond _
theorem uN_le (x y : Int64) : (x ^^^ (-9223372036854775808)) ≤ (y ^^^ (-9223372036854775808)) ↔ uN x ≤ uN y := by
  have hx := uN_lt x
  have hy := uN_lt y
  rw [Int64.le_iff_toInt_le, uN_int, uN_int, uN_xor, uN_xor]
  omega
theorem uN_sk (x : Int64) {k : Nat} (hk : k < 64) : uN (x.toUInt64 >>> ((nI k).toInt64.toUInt64 &&& Int64.toUInt64 63)).toInt64 = uN x / 2 ^ k := by
  have h : ((nI k).toInt64.toUInt64 &&& Int64.toUInt64 63).toNat % 64 = k := by
    rw [nI_l (by omega), UInt64.toNat_and]
    have e : (lN k).toUInt64.toNat = k % 2 ^ 64 := rfl
    have e2 : (Int64.toUInt64 63).toNat = 2 ^ 6 - 1 := by decide
    rw [e, e2, Nat.and_two_pow_sub_one_eq_mod]
    omega
  rw [uN_shr, h]
end
section
/-! WALKING ROWS. xk_Go K D nL k n w lv pc st: the machine K at pc with the cells w, the locals lv, the operands st, k cells and n slots made, comes to its end. xk_Ok: what holds of the machine K through a method's body. -/
abbrev xk_T : Type := Program × Launch × Env × Room × State × MethodId × Array Value × List Frame × Method × Code × (State → Prop) × (Nat → Prop)
def xk_Go (K : xk_T) (D : va_G) (nL k n : Nat) (w : va_W) (lv : List (Nat × Value)) (pc : Nat) (st : List Value) : Prop :=
  match K with
  | (p, l, e, R, s, m, args, below, meth, c, Q, A) => ∀ (H : Heap) (locs : List Loc) (ls : Array Slot), va_P D vwCl w H → va_D A w → va_S A s.heap H locs → lv_has ls nL lv → W p l e R s m args below meth c H locs k n Q (F0 m pc ls st)
def xk_Ok (K : xk_T) (D : va_G) (cc : ByteArray) (nL : Nat) (own : String) (R0 : Room) (ty : List (ClassId × FieldType)) : Prop :=
  match K with
  | (p, _, _, R, s, m, args, _, _, c, _, A) => p.tables.exec = Jvm.exec ∧ c.code = cc ∧ c.maxLocals = nL ∧ s.vm.findClass own = some m.cls ∧ (∀ w ∈ xk_gt, w.before args s = true) ∧ va_K D vwCl ty s ∧ (∀ q, s.heap.size ≤ q → A q) ∧ R = R0
section XK1
variable {K : xk_T} {D : va_G} {cc : ByteArray} {nL k n : Nat} {own : String} {R0 : Room} {ty : List (ClassId × FieldType)} {w : va_W} {lv : List (Nat × Value)} {pc : Nat} {st : List Value}
theorem x_iconst (C : xk_Ok K D cc nL own R0 ty) {z : Int} {v : Int32} (d : decode cc pc = .ok (.iconst z, 1)) (hv : Int32.ofInt z = v)
    (kk : xk_Go K D nL k n w lv (pc + 1) (.int v :: st)) : xk_Go K D nL k n w lv pc (st) := by
  obtain ⟨p, l, e, R, s, m, args, below, meth, c, Q, A⟩ := K
  obtain ⟨hx, hb, hml, hown, hts, -⟩ := C
  intro H locs ls hP hD hS hl
  exact lv_iconst hx hb d hv (kk H locs ls hP hD hS hl)
theorem x_bipush (C : xk_Ok K D cc nL own R0 ty) {z : Int} {v : Int32} (d : decode cc pc = .ok (.bipush z, 2)) (hv : (Int8.ofInt z).toInt32 = v)
    (kk : xk_Go K D nL k n w lv (pc + 2) (.int v :: st)) : xk_Go K D nL k n w lv pc (st) := by
  obtain ⟨p, l, e, R, s, m, args, below, meth, c, Q, A⟩ := K
  obtain ⟨hx, hb, hml, hown, hts, -⟩ := C
  intro H locs ls hP hD hS hl
  exact lv_bipush hx hb d hv (kk H locs ls hP hD hS hl)
theorem x_sipush (C : xk_Ok K D cc nL own R0 ty) {z : Int} {v : Int32} (d : decode cc pc = .ok (.sipush z, 3)) (hv : (Int16.ofInt z).toInt32 = v)
    (kk : xk_Go K D nL k n w lv (pc + 3) (.int v :: st)) : xk_Go K D nL k n w lv pc (st) := by
  obtain ⟨p, l, e, R, s, m, args, below, meth, c, Q, A⟩ := K
  obtain ⟨hx, hb, hml, hown, hts, -⟩ := C
  intro H locs ls hP hD hS hl
  exact lv_sipush hx hb d hv (kk H locs ls hP hD hS hl)
theorem x_lconst (C : xk_Ok K D cc nL own R0 ty) {z : Fin 2} {v : Int64} (d : decode cc pc = .ok (.lconst z, 1)) (hv : Int64.ofNat (z : Nat) = v)
    (kk : xk_Go K D nL k n w lv (pc + 1) (.long v :: st)) : xk_Go K D nL k n w lv pc (st) := by
  obtain ⟨p, l, e, R, s, m, args, below, meth, c, Q, A⟩ := K
  obtain ⟨hx, hb, hml, hown, hts, -⟩ := C
  intro H locs ls hP hD hS hl
  exact lv_lconst hx hb d hv (kk H locs ls hP hD hS hl)
theorem x_ldc2 (C : xk_Ok K D cc nL own R0 ty) {v : Int64} {i : Nat} (d : decode cc pc = .ok (.ldc2_w i, 3)) (hc : Cond.constantLong own i v ∈ xk_gt)
    (kk : xk_Go K D nL k n w lv (pc + 3) (.long v :: st)) : xk_Go K D nL k n w lv pc (st) := by
  obtain ⟨p, l, e, R, s, m, args, below, meth, c, Q, A⟩ := K
  obtain ⟨hx, hb, hml, hown, hts, -⟩ := C
  intro H locs ls hP hD hS hl
  exact lv_ldc2 hx hb hown (hts _ hc) d (kk H locs ls hP hD hS hl)
theorem x_iload_n (C : xk_Ok K D cc nL own R0 ty) {z : Fin 4} {i : Nat} {x : Int32} (d : decode cc pc = .ok (.iload_n z, 1)) (hi : (z : Nat) = i) (q : Nat) (hq : lv[q]? = some (i, .int x))
    (kk : xk_Go K D nL k n w lv (pc + 1) (.int x :: st)) : xk_Go K D nL k n w lv pc (st) := by
  obtain ⟨p, l, e, R, s, m, args, below, meth, c, Q, A⟩ := K
  obtain ⟨hx, hb, hml, hown, hts, -⟩ := C
  intro H locs ls hP hD hS hl
  exact lv_iload_n hx hb d hi (lv_at hl q hq) (kk H locs ls hP hD hS hl)
theorem x_iload (C : xk_Ok K D cc nL own R0 ty) {i : Nat} {x : Int32} (d : decode cc pc = .ok (.iload i, 2)) (q : Nat) (hq : lv[q]? = some (i, .int x))
    (kk : xk_Go K D nL k n w lv (pc + 2) (.int x :: st)) : xk_Go K D nL k n w lv pc (st) := by
  obtain ⟨p, l, e, R, s, m, args, below, meth, c, Q, A⟩ := K
  obtain ⟨hx, hb, hml, hown, hts, -⟩ := C
  intro H locs ls hP hD hS hl
  exact lv_iload hx hb d (lv_at hl q hq) (kk H locs ls hP hD hS hl)
theorem x_lload_n (C : xk_Ok K D cc nL own R0 ty) {z : Fin 4} {i : Nat} {x : Int64} (d : decode cc pc = .ok (.lload_n z, 1)) (hi : (z : Nat) = i) (q : Nat) (hq : lv[q]? = some (i, .long x))
    (kk : xk_Go K D nL k n w lv (pc + 1) (.long x :: st)) : xk_Go K D nL k n w lv pc (st) := by
  obtain ⟨p, l, e, R, s, m, args, below, meth, c, Q, A⟩ := K
  obtain ⟨hx, hb, hml, hown, hts, -⟩ := C
  intro H locs ls hP hD hS hl
  exact lv_lload_n hx hb d hi (lv_at hl q hq) (kk H locs ls hP hD hS hl)
theorem x_lload (C : xk_Ok K D cc nL own R0 ty) {i : Nat} {x : Int64} (d : decode cc pc = .ok (.lload i, 2)) (q : Nat) (hq : lv[q]? = some (i, .long x))
    (kk : xk_Go K D nL k n w lv (pc + 2) (.long x :: st)) : xk_Go K D nL k n w lv pc (st) := by
  obtain ⟨p, l, e, R, s, m, args, below, meth, c, Q, A⟩ := K
  obtain ⟨hx, hb, hml, hown, hts, -⟩ := C
  intro H locs ls hP hD hS hl
  exact lv_lload hx hb d (lv_at hl q hq) (kk H locs ls hP hD hS hl)
theorem x_aload_n (C : xk_Ok K D cc nL own R0 ty) {z : Fin 4} {i : Nat} {x : Nat} (d : decode cc pc = .ok (.aload_n z, 1)) (hi : (z : Nat) = i) (q : Nat) (hq : lv[q]? = some (i, .ref x))
    (kk : xk_Go K D nL k n w lv (pc + 1) (.ref x :: st)) : xk_Go K D nL k n w lv pc (st) := by
  obtain ⟨p, l, e, R, s, m, args, below, meth, c, Q, A⟩ := K
  obtain ⟨hx, hb, hml, hown, hts, -⟩ := C
  intro H locs ls hP hD hS hl
  exact lv_aload_n hx hb d hi (lv_at hl q hq) (kk H locs ls hP hD hS hl)
theorem x_aload (C : xk_Ok K D cc nL own R0 ty) {i : Nat} {x : Nat} (d : decode cc pc = .ok (.aload i, 2)) (q : Nat) (hq : lv[q]? = some (i, .ref x))
    (kk : xk_Go K D nL k n w lv (pc + 2) (.ref x :: st)) : xk_Go K D nL k n w lv pc (st) := by
  obtain ⟨p, l, e, R, s, m, args, below, meth, c, Q, A⟩ := K
  obtain ⟨hx, hb, hml, hown, hts, -⟩ := C
  intro H locs ls hP hD hS hl
  exact lv_aload hx hb d (lv_at hl q hq) (kk H locs ls hP hD hS hl)
theorem x_istore_n (C : xk_Ok K D cc nL own R0 ty) {z : Fin 4} {i : Nat} {x : Int32} (lv' : List (Nat × Value)) (d : decode cc pc = .ok (.istore_n z, 1)) (hi : (z : Nat) = i) (hn : i < nL) (hlv : (i, Value.int x) :: lv.filter (fun q => !(q.1 == i) && !(q.1 + 1 == i && q.2.category == 2)) = lv')
    (kk : xk_Go K D nL k n w lv' (pc + 1) st) : xk_Go K D nL k n w lv pc (Value.int x :: st) := by
  obtain ⟨p, l, e, R, s, m, args, below, meth, c, Q, A⟩ := K
  obtain ⟨hx, hb, hml, hown, hts, -⟩ := C
  intro H locs ls hP hD hS hl
  exact lv_istore_n hx hb d hi hl hn hlv (fun ls' hl' => kk H locs ls' hP hD hS hl')
theorem x_istore (C : xk_Ok K D cc nL own R0 ty) {i : Nat} {x : Int32} (lv' : List (Nat × Value)) (d : decode cc pc = .ok (.istore i, 2)) (hn : i < nL) (hlv : (i, Value.int x) :: lv.filter (fun q => !(q.1 == i) && !(q.1 + 1 == i && q.2.category == 2)) = lv')
    (kk : xk_Go K D nL k n w lv' (pc + 2) st) : xk_Go K D nL k n w lv pc (Value.int x :: st) := by
  obtain ⟨p, l, e, R, s, m, args, below, meth, c, Q, A⟩ := K
  obtain ⟨hx, hb, hml, hown, hts, -⟩ := C
  intro H locs ls hP hD hS hl
  exact lv_istore hx hb d hl hn hlv (fun ls' hl' => kk H locs ls' hP hD hS hl')
theorem x_astore_n (C : xk_Ok K D cc nL own R0 ty) {z : Fin 4} {i : Nat} {x : Nat} (lv' : List (Nat × Value)) (d : decode cc pc = .ok (.astore_n z, 1)) (hi : (z : Nat) = i) (hn : i < nL) (hlv : (i, Value.ref x) :: lv.filter (fun q => !(q.1 == i) && !(q.1 + 1 == i && q.2.category == 2)) = lv')
    (kk : xk_Go K D nL k n w lv' (pc + 1) st) : xk_Go K D nL k n w lv pc (Value.ref x :: st) := by
  obtain ⟨p, l, e, R, s, m, args, below, meth, c, Q, A⟩ := K
  obtain ⟨hx, hb, hml, hown, hts, -⟩ := C
  intro H locs ls hP hD hS hl
  exact lv_astore_n hx hb d hi hl hn hlv (fun ls' hl' => kk H locs ls' hP hD hS hl')
theorem x_astore (C : xk_Ok K D cc nL own R0 ty) {i : Nat} {x : Nat} (lv' : List (Nat × Value)) (d : decode cc pc = .ok (.astore i, 2)) (hn : i < nL) (hlv : (i, Value.ref x) :: lv.filter (fun q => !(q.1 == i) && !(q.1 + 1 == i && q.2.category == 2)) = lv')
    (kk : xk_Go K D nL k n w lv' (pc + 2) st) : xk_Go K D nL k n w lv pc (Value.ref x :: st) := by
  obtain ⟨p, l, e, R, s, m, args, below, meth, c, Q, A⟩ := K
  obtain ⟨hx, hb, hml, hown, hts, -⟩ := C
  intro H locs ls hP hD hS hl
  exact lv_astore hx hb d hl hn hlv (fun ls' hl' => kk H locs ls' hP hD hS hl')
theorem x_lstore_n (C : xk_Ok K D cc nL own R0 ty) {z : Fin 4} {i : Nat} {x : Int64} (lv' : List (Nat × Value)) (d : decode cc pc = .ok (.lstore_n z, 1)) (hi : (z : Nat) = i) (hn : i + 1 < nL) (hlv : (i, Value.long x) :: lv.filter (fun q => !(q.1 == i) && (!(q.1 == i + 1) && !(q.1 + 1 == i && q.2.category == 2))) = lv')
    (kk : xk_Go K D nL k n w lv' (pc + 1) st) : xk_Go K D nL k n w lv pc (Value.long x :: st) := by
  obtain ⟨p, l, e, R, s, m, args, below, meth, c, Q, A⟩ := K
  obtain ⟨hx, hb, hml, hown, hts, -⟩ := C
  intro H locs ls hP hD hS hl
  exact lv_lstore_n hx hb d hi hl hn hlv (fun ls' hl' => kk H locs ls' hP hD hS hl')
theorem x_lstore (C : xk_Ok K D cc nL own R0 ty) {i : Nat} {x : Int64} (lv' : List (Nat × Value)) (d : decode cc pc = .ok (.lstore i, 2)) (hn : i + 1 < nL) (hlv : (i, Value.long x) :: lv.filter (fun q => !(q.1 == i) && (!(q.1 == i + 1) && !(q.1 + 1 == i && q.2.category == 2))) = lv')
    (kk : xk_Go K D nL k n w lv' (pc + 2) st) : xk_Go K D nL k n w lv pc (Value.long x :: st) := by
  obtain ⟨p, l, e, R, s, m, args, below, meth, c, Q, A⟩ := K
  obtain ⟨hx, hb, hml, hown, hts, -⟩ := C
  intro H locs ls hP hD hS hl
  exact lv_lstore hx hb d hl hn hlv (fun ls' hl' => kk H locs ls' hP hD hS hl')
theorem x_iinc (C : xk_Ok K D cc nL own R0 ty) {i q : Nat} {z : Int} {x : Int32} (v : Int32) (lv' : List (Nat × Value)) (d : decode cc pc = .ok (.iinc i z, 3)) (hq : lv[q]? = some (i, .int x)) (hv : x + Int32.ofInt z = v) (hn : i < nL) (hlv : (i, Value.int v) :: lv.filter (fun q => !(q.1 == i) && !(q.1 + 1 == i && q.2.category == 2)) = lv')
    (kk : xk_Go K D nL k n w lv' (pc + 3) st) : xk_Go K D nL k n w lv pc (st) := by
  obtain ⟨p, l, e, R, s, m, args, below, meth, c, Q, A⟩ := K
  obtain ⟨hx, hb, hml, hown, hts, -⟩ := C
  intro H locs ls hP hD hS hl
  exact lv_iinc hx hb d hl hq hv hn hlv (fun ls' hl' => kk H locs ls' hP hD hS hl')
theorem x_iadd (C : xk_Ok K D cc nL own R0 ty) {x y : Int32} (d : decode cc pc = .ok (.iadd, 1))
    (kk : xk_Go K D nL k n w lv (pc + 1) (.int (x + y) :: st)) : xk_Go K D nL k n w lv pc (.int y :: .int x :: st) := by
  obtain ⟨p, l, e, R, s, m, args, below, meth, c, Q, A⟩ := K
  obtain ⟨hx, hb, hml, hown, hts, -⟩ := C
  intro H locs ls hP hD hS hl
  exact lv_iadd hx hb d (kk H locs ls hP hD hS hl)
theorem x_isub (C : xk_Ok K D cc nL own R0 ty) {x y : Int32} (d : decode cc pc = .ok (.isub, 1))
    (kk : xk_Go K D nL k n w lv (pc + 1) (.int (x - y) :: st)) : xk_Go K D nL k n w lv pc (.int y :: .int x :: st) := by
  obtain ⟨p, l, e, R, s, m, args, below, meth, c, Q, A⟩ := K
  obtain ⟨hx, hb, hml, hown, hts, -⟩ := C
  intro H locs ls hP hD hS hl
  exact lv_isub hx hb d (kk H locs ls hP hD hS hl)
theorem x_imul (C : xk_Ok K D cc nL own R0 ty) {x y : Int32} (d : decode cc pc = .ok (.imul, 1))
    (kk : xk_Go K D nL k n w lv (pc + 1) (.int (x * y) :: st)) : xk_Go K D nL k n w lv pc (.int y :: .int x :: st) := by
  obtain ⟨p, l, e, R, s, m, args, below, meth, c, Q, A⟩ := K
  obtain ⟨hx, hb, hml, hown, hts, -⟩ := C
  intro H locs ls hP hD hS hl
  exact lv_imul hx hb d (kk H locs ls hP hD hS hl)
theorem x_iand (C : xk_Ok K D cc nL own R0 ty) {x y : Int32} (d : decode cc pc = .ok (.iand, 1))
    (kk : xk_Go K D nL k n w lv (pc + 1) (.int (x &&& y) :: st)) : xk_Go K D nL k n w lv pc (.int y :: .int x :: st) := by
  obtain ⟨p, l, e, R, s, m, args, below, meth, c, Q, A⟩ := K
  obtain ⟨hx, hb, hml, hown, hts, -⟩ := C
  intro H locs ls hP hD hS hl
  exact lv_iand hx hb d (kk H locs ls hP hD hS hl)
theorem x_ior (C : xk_Ok K D cc nL own R0 ty) {x y : Int32} (d : decode cc pc = .ok (.ior, 1))
    (kk : xk_Go K D nL k n w lv (pc + 1) (.int (x ||| y) :: st)) : xk_Go K D nL k n w lv pc (.int y :: .int x :: st) := by
  obtain ⟨p, l, e, R, s, m, args, below, meth, c, Q, A⟩ := K
  obtain ⟨hx, hb, hml, hown, hts, -⟩ := C
  intro H locs ls hP hD hS hl
  exact lv_ior hx hb d (kk H locs ls hP hD hS hl)
theorem x_ladd (C : xk_Ok K D cc nL own R0 ty) {x y : Int64} (d : decode cc pc = .ok (.ladd, 1))
    (kk : xk_Go K D nL k n w lv (pc + 1) (.long (x + y) :: st)) : xk_Go K D nL k n w lv pc (.long y :: .long x :: st) := by
  obtain ⟨p, l, e, R, s, m, args, below, meth, c, Q, A⟩ := K
  obtain ⟨hx, hb, hml, hown, hts, -⟩ := C
  intro H locs ls hP hD hS hl
  exact lv_ladd hx hb d (kk H locs ls hP hD hS hl)
theorem x_lsub (C : xk_Ok K D cc nL own R0 ty) {x y : Int64} (d : decode cc pc = .ok (.lsub, 1))
    (kk : xk_Go K D nL k n w lv (pc + 1) (.long (x - y) :: st)) : xk_Go K D nL k n w lv pc (.long y :: .long x :: st) := by
  obtain ⟨p, l, e, R, s, m, args, below, meth, c, Q, A⟩ := K
  obtain ⟨hx, hb, hml, hown, hts, -⟩ := C
  intro H locs ls hP hD hS hl
  exact lv_lsub hx hb d (kk H locs ls hP hD hS hl)
theorem x_land (C : xk_Ok K D cc nL own R0 ty) {x y : Int64} (d : decode cc pc = .ok (.land, 1))
    (kk : xk_Go K D nL k n w lv (pc + 1) (.long (x &&& y) :: st)) : xk_Go K D nL k n w lv pc (.long y :: .long x :: st) := by
  obtain ⟨p, l, e, R, s, m, args, below, meth, c, Q, A⟩ := K
  obtain ⟨hx, hb, hml, hown, hts, -⟩ := C
  intro H locs ls hP hD hS hl
  exact lv_land hx hb d (kk H locs ls hP hD hS hl)
theorem x_lor (C : xk_Ok K D cc nL own R0 ty) {x y : Int64} (d : decode cc pc = .ok (.lor, 1))
    (kk : xk_Go K D nL k n w lv (pc + 1) (.long (x ||| y) :: st)) : xk_Go K D nL k n w lv pc (.long y :: .long x :: st) := by
  obtain ⟨p, l, e, R, s, m, args, below, meth, c, Q, A⟩ := K
  obtain ⟨hx, hb, hml, hown, hts, -⟩ := C
  intro H locs ls hP hD hS hl
  exact lv_lor hx hb d (kk H locs ls hP hD hS hl)
theorem x_lxor (C : xk_Ok K D cc nL own R0 ty) {x y : Int64} (d : decode cc pc = .ok (.lxor, 1))
    (kk : xk_Go K D nL k n w lv (pc + 1) (.long (x ^^^ y) :: st)) : xk_Go K D nL k n w lv pc (.long y :: .long x :: st) := by
  obtain ⟨p, l, e, R, s, m, args, below, meth, c, Q, A⟩ := K
  obtain ⟨hx, hb, hml, hown, hts, -⟩ := C
  intro H locs ls hP hD hS hl
  exact lv_lxor hx hb d (kk H locs ls hP hD hS hl)
theorem x_idiv (C : xk_Ok K D cc nL own R0 ty) {x y : Int32} (d : decode cc pc = .ok (.idiv, 1)) (hne : ¬ y = 0)
    (kk : xk_Go K D nL k n w lv (pc + 1) (.int (x / y) :: st)) : xk_Go K D nL k n w lv pc (.int y :: .int x :: st) := by
  obtain ⟨p, l, e, R, s, m, args, below, meth, c, Q, A⟩ := K
  obtain ⟨hx, hb, hml, hown, hts, -⟩ := C
  intro H locs ls hP hD hS hl
  exact lv_idiv hx hb d hne (kk H locs ls hP hD hS hl)
theorem x_irem (C : xk_Ok K D cc nL own R0 ty) {x y : Int32} (d : decode cc pc = .ok (.irem, 1)) (hne : ¬ y = 0)
    (kk : xk_Go K D nL k n w lv (pc + 1) (.int (x - x / y * y) :: st)) : xk_Go K D nL k n w lv pc (.int y :: .int x :: st) := by
  obtain ⟨p, l, e, R, s, m, args, below, meth, c, Q, A⟩ := K
  obtain ⟨hx, hb, hml, hown, hts, -⟩ := C
  intro H locs ls hP hD hS hl
  exact lv_irem hx hb d hne (kk H locs ls hP hD hS hl)
theorem x_ldiv (C : xk_Ok K D cc nL own R0 ty) {x y : Int64} (d : decode cc pc = .ok (.ldiv, 1)) (hne : ¬ y = 0)
    (kk : xk_Go K D nL k n w lv (pc + 1) (.long (x / y) :: st)) : xk_Go K D nL k n w lv pc (.long y :: .long x :: st) := by
  obtain ⟨p, l, e, R, s, m, args, below, meth, c, Q, A⟩ := K
  obtain ⟨hx, hb, hml, hown, hts, -⟩ := C
  intro H locs ls hP hD hS hl
  exact lv_ldiv hx hb d hne (kk H locs ls hP hD hS hl)
theorem x_lrem (C : xk_Ok K D cc nL own R0 ty) {x y : Int64} (d : decode cc pc = .ok (.lrem, 1)) (hne : ¬ y = 0)
    (kk : xk_Go K D nL k n w lv (pc + 1) (.long (x - x / y * y) :: st)) : xk_Go K D nL k n w lv pc (.long y :: .long x :: st) := by
  obtain ⟨p, l, e, R, s, m, args, below, meth, c, Q, A⟩ := K
  obtain ⟨hx, hb, hml, hown, hts, -⟩ := C
  intro H locs ls hP hD hS hl
  exact lv_lrem hx hb d hne (kk H locs ls hP hD hS hl)
theorem x_i2l (C : xk_Ok K D cc nL own R0 ty) {x : Int32} {v : Int64} (d : decode cc pc = .ok (.i2l, 1)) (hv : x.toInt64 = v)
    (kk : xk_Go K D nL k n w lv (pc + 1) (.long v :: st)) : xk_Go K D nL k n w lv pc (.int x :: st) := by
  obtain ⟨p, l, e, R, s, m, args, below, meth, c, Q, A⟩ := K
  obtain ⟨hx, hb, hml, hown, hts, -⟩ := C
  intro H locs ls hP hD hS hl
  exact lv_i2l hx hb d hv (kk H locs ls hP hD hS hl)
theorem x_l2i (C : xk_Ok K D cc nL own R0 ty) {x : Int64} {v : Int32} (d : decode cc pc = .ok (.l2i, 1)) (hv : x.toInt32 = v)
    (kk : xk_Go K D nL k n w lv (pc + 1) (.int v :: st)) : xk_Go K D nL k n w lv pc (.long x :: st) := by
  obtain ⟨p, l, e, R, s, m, args, below, meth, c, Q, A⟩ := K
  obtain ⟨hx, hb, hml, hown, hts, -⟩ := C
  intro H locs ls hP hD hS hl
  exact lv_l2i hx hb d hv (kk H locs ls hP hD hS hl)
theorem x_i2b (C : xk_Ok K D cc nL own R0 ty) {x v : Int32} (d : decode cc pc = .ok (.i2b, 1)) (hv : x.toInt8.toInt32 = v)
    (kk : xk_Go K D nL k n w lv (pc + 1) (.int v :: st)) : xk_Go K D nL k n w lv pc (.int x :: st) := by
  obtain ⟨p, l, e, R, s, m, args, below, meth, c, Q, A⟩ := K
  obtain ⟨hx, hb, hml, hown, hts, -⟩ := C
  intro H locs ls hP hD hS hl
  exact lv_i2b hx hb d hv (kk H locs ls hP hD hS hl)
theorem x_lushr (C : xk_Ok K D cc nL own R0 ty) {x v : Int64} {y : Int32} (d : decode cc pc = .ok (.lushr, 1)) (hv : (x.toUInt64 >>> (y.toInt64.toUInt64 &&& Int64.toUInt64 63)).toInt64 = v)
    (kk : xk_Go K D nL k n w lv (pc + 1) (.long v :: st)) : xk_Go K D nL k n w lv pc (.int y :: .long x :: st) := by
  obtain ⟨p, l, e, R, s, m, args, below, meth, c, Q, A⟩ := K
  obtain ⟨hx, hb, hml, hown, hts, -⟩ := C
  intro H locs ls hP hD hS hl
  exact lv_lushr hx hb d hv (kk H locs ls hP hD hS hl)
theorem x_lshl (C : xk_Ok K D cc nL own R0 ty) {x v : Int64} {y : Int32} (d : decode cc pc = .ok (.lshl, 1)) (hv : x <<< (y.toInt64 &&& 63) = v)
    (kk : xk_Go K D nL k n w lv (pc + 1) (.long v :: st)) : xk_Go K D nL k n w lv pc (.int y :: .long x :: st) := by
  obtain ⟨p, l, e, R, s, m, args, below, meth, c, Q, A⟩ := K
  obtain ⟨hx, hb, hml, hown, hts, -⟩ := C
  intro H locs ls hP hD hS hl
  exact lv_lshl hx hb d hv (kk H locs ls hP hD hS hl)
theorem x_lshr (C : xk_Ok K D cc nL own R0 ty) {x v : Int64} {y : Int32} (d : decode cc pc = .ok (.lshr, 1)) (hv : x >>> (y.toInt64 &&& 63) = v)
    (kk : xk_Go K D nL k n w lv (pc + 1) (.long v :: st)) : xk_Go K D nL k n w lv pc (.int y :: .long x :: st) := by
  obtain ⟨p, l, e, R, s, m, args, below, meth, c, Q, A⟩ := K
  obtain ⟨hx, hb, hml, hown, hts, -⟩ := C
  intro H locs ls hP hD hS hl
  exact lv_lshr hx hb d hv (kk H locs ls hP hD hS hl)
theorem x_lcmp (C : xk_Ok K D cc nL own R0 ty) {x y : Int64} (d : decode cc pc = .ok (.lcmp, 1))
    (kk : xk_Go K D nL k n w lv (pc + 1) (.int (lg_cmp x y) :: st)) : xk_Go K D nL k n w lv pc (.long y :: .long x :: st) := by
  obtain ⟨p, l, e, R, s, m, args, below, meth, c, Q, A⟩ := K
  obtain ⟨hx, hb, hml, hown, hts, -⟩ := C
  intro H locs ls hP hD hS hl
  exact W.lcmp hx hb d (kk H locs ls hP hD hS hl)
theorem x_dup (C : xk_Ok K D cc nL own R0 ty) {va : Value} (d : decode cc pc = .ok (.dup, 1)) (hv : va.category = 1)
    (kk : xk_Go K D nL k n w lv (pc + 1) (va :: va :: st)) : xk_Go K D nL k n w lv pc (va :: st) := by
  obtain ⟨p, l, e, R, s, m, args, below, meth, c, Q, A⟩ := K
  obtain ⟨hx, hb, hml, hown, hts, -⟩ := C
  intro H locs ls hP hD hS hl
  exact lv_dup hx hb d hv (kk H locs ls hP hD hS hl)
theorem x_dup2 (C : xk_Ok K D cc nL own R0 ty) {va vb : Value} (d : decode cc pc = .ok (.dup2, 1)) (hv : va.category = 1) (hv2 : vb.category = 1)
    (kk : xk_Go K D nL k n w lv (pc + 1) (va :: vb :: va :: vb :: st)) : xk_Go K D nL k n w lv pc (va :: vb :: st) := by
  obtain ⟨p, l, e, R, s, m, args, below, meth, c, Q, A⟩ := K
  obtain ⟨hx, hb, hml, hown, hts, -⟩ := C
  intro H locs ls hP hD hS hl
  exact lv_dup2_11 hx hb d hv hv2 (kk H locs ls hP hD hS hl)
theorem x_pop (C : xk_Ok K D cc nL own R0 ty) {va : Value} (d : decode cc pc = .ok (.pop, 1)) (hv : va.category = 1)
    (kk : xk_Go K D nL k n w lv (pc + 1) (st)) : xk_Go K D nL k n w lv pc (va :: st) := by
  obtain ⟨p, l, e, R, s, m, args, below, meth, c, Q, A⟩ := K
  obtain ⟨hx, hb, hml, hown, hts, -⟩ := C
  intro H locs ls hP hD hS hl
  exact lv_pop hx hb d hv (kk H locs ls hP hD hS hl)
theorem x_if_eq (C : xk_Ok K D cc nL own R0 ty) {x : Int32} {off : Int} {tgt : Nat} (d : decode cc pc = .ok (.ifCond .eq off, 3)) (ht : (pc : Int) + off = (tgt : Int))
    (kt : x = 0 → xk_Go K D nL k n w lv tgt st) (kf : ¬ x = 0 → xk_Go K D nL k n w lv (pc + 3) st) : xk_Go K D nL k n w lv pc (.int x :: st) := by
  obtain ⟨p, l, e, R, s, m, args, below, meth, c, Q, A⟩ := K
  obtain ⟨hx, hb, -⟩ := C
  intro H locs ls hP hD hS hl
  exact lv_if_eq hx hb d ht (fun h => kt h H locs ls hP hD hS hl) (fun h => kf h H locs ls hP hD hS hl)
theorem x_icmp_eq (C : xk_Ok K D cc nL own R0 ty) {x y : Int32} {off : Int} {tgt : Nat} (d : decode cc pc = .ok (.if_icmp .eq off, 3)) (ht : (pc : Int) + off = (tgt : Int))
    (kt : x = y → xk_Go K D nL k n w lv tgt st) (kf : ¬ x = y → xk_Go K D nL k n w lv (pc + 3) st) : xk_Go K D nL k n w lv pc (.int y :: .int x :: st) := by
  obtain ⟨p, l, e, R, s, m, args, below, meth, c, Q, A⟩ := K
  obtain ⟨hx, hb, -⟩ := C
  intro H locs ls hP hD hS hl
  exact lv_icmp_eq hx hb d ht (fun h => kt h H locs ls hP hD hS hl) (fun h => kf h H locs ls hP hD hS hl)
theorem x_if_ne (C : xk_Ok K D cc nL own R0 ty) {x : Int32} {off : Int} {tgt : Nat} (d : decode cc pc = .ok (.ifCond .ne off, 3)) (ht : (pc : Int) + off = (tgt : Int))
    (kt : ¬ x = 0 → xk_Go K D nL k n w lv tgt st) (kf : x = 0 → xk_Go K D nL k n w lv (pc + 3) st) : xk_Go K D nL k n w lv pc (.int x :: st) := by
  obtain ⟨p, l, e, R, s, m, args, below, meth, c, Q, A⟩ := K
  obtain ⟨hx, hb, -⟩ := C
  intro H locs ls hP hD hS hl
  exact lv_if_ne hx hb d ht (fun h => kt h H locs ls hP hD hS hl) (fun h => kf h H locs ls hP hD hS hl)
theorem x_icmp_ne (C : xk_Ok K D cc nL own R0 ty) {x y : Int32} {off : Int} {tgt : Nat} (d : decode cc pc = .ok (.if_icmp .ne off, 3)) (ht : (pc : Int) + off = (tgt : Int))
    (kt : ¬ x = y → xk_Go K D nL k n w lv tgt st) (kf : x = y → xk_Go K D nL k n w lv (pc + 3) st) : xk_Go K D nL k n w lv pc (.int y :: .int x :: st) := by
  obtain ⟨p, l, e, R, s, m, args, below, meth, c, Q, A⟩ := K
  obtain ⟨hx, hb, -⟩ := C
  intro H locs ls hP hD hS hl
  exact lv_icmp_ne hx hb d ht (fun h => kt h H locs ls hP hD hS hl) (fun h => kf h H locs ls hP hD hS hl)
theorem x_if_lt (C : xk_Ok K D cc nL own R0 ty) {x : Int32} {off : Int} {tgt : Nat} (d : decode cc pc = .ok (.ifCond .lt off, 3)) (ht : (pc : Int) + off = (tgt : Int))
    (kt : x < 0 → xk_Go K D nL k n w lv tgt st) (kf : ¬ x < 0 → xk_Go K D nL k n w lv (pc + 3) st) : xk_Go K D nL k n w lv pc (.int x :: st) := by
  obtain ⟨p, l, e, R, s, m, args, below, meth, c, Q, A⟩ := K
  obtain ⟨hx, hb, -⟩ := C
  intro H locs ls hP hD hS hl
  exact lv_if_lt hx hb d ht (fun h => kt h H locs ls hP hD hS hl) (fun h => kf h H locs ls hP hD hS hl)
theorem x_icmp_lt (C : xk_Ok K D cc nL own R0 ty) {x y : Int32} {off : Int} {tgt : Nat} (d : decode cc pc = .ok (.if_icmp .lt off, 3)) (ht : (pc : Int) + off = (tgt : Int))
    (kt : x < y → xk_Go K D nL k n w lv tgt st) (kf : ¬ x < y → xk_Go K D nL k n w lv (pc + 3) st) : xk_Go K D nL k n w lv pc (.int y :: .int x :: st) := by
  obtain ⟨p, l, e, R, s, m, args, below, meth, c, Q, A⟩ := K
  obtain ⟨hx, hb, -⟩ := C
  intro H locs ls hP hD hS hl
  exact lv_icmp_lt hx hb d ht (fun h => kt h H locs ls hP hD hS hl) (fun h => kf h H locs ls hP hD hS hl)
theorem x_if_ge (C : xk_Ok K D cc nL own R0 ty) {x : Int32} {off : Int} {tgt : Nat} (d : decode cc pc = .ok (.ifCond .ge off, 3)) (ht : (pc : Int) + off = (tgt : Int))
    (kt : 0 ≤ x → xk_Go K D nL k n w lv tgt st) (kf : ¬ 0 ≤ x → xk_Go K D nL k n w lv (pc + 3) st) : xk_Go K D nL k n w lv pc (.int x :: st) := by
  obtain ⟨p, l, e, R, s, m, args, below, meth, c, Q, A⟩ := K
  obtain ⟨hx, hb, -⟩ := C
  intro H locs ls hP hD hS hl
  exact lv_if_ge hx hb d ht (fun h => kt h H locs ls hP hD hS hl) (fun h => kf h H locs ls hP hD hS hl)
theorem x_icmp_ge (C : xk_Ok K D cc nL own R0 ty) {x y : Int32} {off : Int} {tgt : Nat} (d : decode cc pc = .ok (.if_icmp .ge off, 3)) (ht : (pc : Int) + off = (tgt : Int))
    (kt : y ≤ x → xk_Go K D nL k n w lv tgt st) (kf : ¬ y ≤ x → xk_Go K D nL k n w lv (pc + 3) st) : xk_Go K D nL k n w lv pc (.int y :: .int x :: st) := by
  obtain ⟨p, l, e, R, s, m, args, below, meth, c, Q, A⟩ := K
  obtain ⟨hx, hb, -⟩ := C
  intro H locs ls hP hD hS hl
  exact lv_icmp_ge hx hb d ht (fun h => kt h H locs ls hP hD hS hl) (fun h => kf h H locs ls hP hD hS hl)
theorem x_if_gt (C : xk_Ok K D cc nL own R0 ty) {x : Int32} {off : Int} {tgt : Nat} (d : decode cc pc = .ok (.ifCond .gt off, 3)) (ht : (pc : Int) + off = (tgt : Int))
    (kt : 0 < x → xk_Go K D nL k n w lv tgt st) (kf : ¬ 0 < x → xk_Go K D nL k n w lv (pc + 3) st) : xk_Go K D nL k n w lv pc (.int x :: st) := by
  obtain ⟨p, l, e, R, s, m, args, below, meth, c, Q, A⟩ := K
  obtain ⟨hx, hb, -⟩ := C
  intro H locs ls hP hD hS hl
  exact lv_if_gt hx hb d ht (fun h => kt h H locs ls hP hD hS hl) (fun h => kf h H locs ls hP hD hS hl)
theorem x_icmp_gt (C : xk_Ok K D cc nL own R0 ty) {x y : Int32} {off : Int} {tgt : Nat} (d : decode cc pc = .ok (.if_icmp .gt off, 3)) (ht : (pc : Int) + off = (tgt : Int))
    (kt : y < x → xk_Go K D nL k n w lv tgt st) (kf : ¬ y < x → xk_Go K D nL k n w lv (pc + 3) st) : xk_Go K D nL k n w lv pc (.int y :: .int x :: st) := by
  obtain ⟨p, l, e, R, s, m, args, below, meth, c, Q, A⟩ := K
  obtain ⟨hx, hb, -⟩ := C
  intro H locs ls hP hD hS hl
  exact lv_icmp_gt hx hb d ht (fun h => kt h H locs ls hP hD hS hl) (fun h => kf h H locs ls hP hD hS hl)
theorem x_if_le (C : xk_Ok K D cc nL own R0 ty) {x : Int32} {off : Int} {tgt : Nat} (d : decode cc pc = .ok (.ifCond .le off, 3)) (ht : (pc : Int) + off = (tgt : Int))
    (kt : x ≤ 0 → xk_Go K D nL k n w lv tgt st) (kf : ¬ x ≤ 0 → xk_Go K D nL k n w lv (pc + 3) st) : xk_Go K D nL k n w lv pc (.int x :: st) := by
  obtain ⟨p, l, e, R, s, m, args, below, meth, c, Q, A⟩ := K
  obtain ⟨hx, hb, -⟩ := C
  intro H locs ls hP hD hS hl
  exact lv_if_le hx hb d ht (fun h => kt h H locs ls hP hD hS hl) (fun h => kf h H locs ls hP hD hS hl)
theorem x_icmp_le (C : xk_Ok K D cc nL own R0 ty) {x y : Int32} {off : Int} {tgt : Nat} (d : decode cc pc = .ok (.if_icmp .le off, 3)) (ht : (pc : Int) + off = (tgt : Int))
    (kt : x ≤ y → xk_Go K D nL k n w lv tgt st) (kf : ¬ x ≤ y → xk_Go K D nL k n w lv (pc + 3) st) : xk_Go K D nL k n w lv pc (.int y :: .int x :: st) := by
  obtain ⟨p, l, e, R, s, m, args, below, meth, c, Q, A⟩ := K
  obtain ⟨hx, hb, -⟩ := C
  intro H locs ls hP hD hS hl
  exact lv_icmp_le hx hb d ht (fun h => kt h H locs ls hP hD hS hl) (fun h => kf h H locs ls hP hD hS hl)
theorem x_goto (C : xk_Ok K D cc nL own R0 ty) {off : Int} (tgt : Nat) (d : decode cc pc = .ok (.goto off, 3)) (ht : (pc : Int) + off = (tgt : Int))
    (kk : xk_Go K D nL k n w lv tgt st) : xk_Go K D nL k n w lv pc st := by
  obtain ⟨p, l, e, R, s, m, args, below, meth, c, Q, A⟩ := K
  obtain ⟨hx, hb, -⟩ := C
  intro H locs ls hP hD hS hl
  exact lv_goto hx hb d ht (kk H locs ls hP hD hS hl)
end XK1
/-! WALKING ROWS 2: fields, arrays, calls, ends. -/
def xk_nA (g : Nat → Nat) : Nat → Int32 := fun j => nI (g j)
def xk_oI : Option Nat → Int32
  | none => -1
  | some v => nI v
def xk_oA (g : Nat → Option Nat) : Nat → Int32 := fun j => xk_oI (g j)
def xk_bZ : Bool → Int32
  | false => nI 0
  | true => nI 1
def xk_zA (g : Nat → Bool) : Nat → Int32 := fun j => xk_bZ (g j)
def xk_sb (v : Nat) : Int32 := (nI v).toInt8.toInt32
def xk_bA (g : Nat → Nat) : Nat → Int32 := fun j => xk_sb (g j)
theorem xk_nA_up (g : Nat → Nat) (i v : Nat) : upd (xk_nA g) i (nI v) = xk_nA (va_up g i v) := by
  funext j
  unfold upd xk_nA va_up
  split <;> rfl
theorem xk_oA_up (g : Nat → Option Nat) (i : Nat) (v : Option Nat) : upd (xk_oA g) i (xk_oI v) = xk_oA (va_up g i v) := by
  funext j
  unfold upd xk_oA va_up
  split <;> rfl
theorem xk_zA_up (g : Nat → Bool) (i : Nat) (v : Bool) : upd (xk_zA g) i (xk_bZ v) = xk_zA (va_up g i v) := by
  funext j
  unfold upd xk_zA va_up
  split <;> rfl
theorem xk_bA_up (g : Nat → Nat) (i v : Nat) : upd (xk_bA g) i (xk_sb v) = xk_bA (va_up g i v) := by
  funext j
  unfold upd xk_bA va_up
  split <;> rfl
theorem xk_sb_nar (v : Nat) : vp_nar .byte (xk_sb v) = xk_sb v := pk_vb (nI v)
theorem xk_bZ_nar (b : Bool) : vp_nar .boolean (xk_bZ b) = xk_bZ b := by
  cases b <;> rfl
/-- a field that can be read: own: the class that reads; idx: its pool's row; ci: the class of the object by vwCl; k: the slot -/
def xk_F (own : String) (idx ci k : Nat) : Prop := ∃ (Cn : String) (T : u_T) (N : Nat), vwCl[ci]? = some (Cn, T, N) ∧ k < N ∧ (∀ w ∈ u_ws Cn T N, w ∈ xk_gt) ∧ Cond.fieldLink own idx (T k).1 (T k).2.1 (T k).2.2.1 ∈ xk_gt
/-- a field that can be written -/
def xk_FP (own : String) (idx ci k : Nat) (fin : Bool) (fty : FieldType) : Prop := ∃ (Cn : String) (T : u_T) (N : Nat), vwCl[ci]? = some (Cn, T, N) ∧ k < N ∧ (∀ w ∈ u_ws Cn T N, w ∈ xk_gt) ∧ Cond.fieldLink own idx (T k).1 (T k).2.1 (T k).2.2.1 ∈ xk_gt ∧
  (∃ ty0 : Nat → FieldType, ∀ j, j < N → parseFieldDescriptor (T j).2.2.1 = some (ty0 j)) ∧ (∀ a, a < N → ∀ b, b < N → a ≠ b → (T a).2.1 ≠ (T b).2.1) ∧ (T k).2.2.2 = fin ∧ parseFieldDescriptor (T k).2.2.1 = some fty ∧ (fin = true → (T k).1 = own)
section XK2
variable {K : xk_T} {D : va_G} {cc : ByteArray} {nL k n : Nat} {own : String} {R0 : Room} {ty : List (ClassId × FieldType)} {w : va_W} {lv : List (Nat × Value)} {pc : Nat} {st : List Value}
theorem x_sub (is : List Nat) {lv' : List (Nat × Value)} (h : lv_pick lv is = lv') (kk : xk_Go K D nL k n w lv' pc st) : xk_Go K D nL k n w lv pc st := by
  obtain ⟨p, l, e, R, s, m, args, below, meth, c, Q, A⟩ := K
  intro H locs ls hP hD hS hl
  exact kk H locs ls hP hD hS (lv_sub hl is h)
theorem x_widen {k' n' : Nat} (h1 : k ≤ k') (h2 : n ≤ n') (kk : xk_Go K D nL k' n' w lv pc st) : xk_Go K D nL k n w lv pc st := by
  obtain ⟨p, l, e, R, s, m, args, below, meth, c, Q, A⟩ := K
  intro H locs ls hP hD hS hl
  exact W.widen h1 h2 (kk H locs ls hP hD hS hl)
theorem x_perm (is : List Nat) {w' : va_W} (hn : va_nd is = true) (hs : is.filterMap (fun i => w[i]?) = w') (hs2 : is.map (fun i => w[i]?) = w'.map some) (kk : xk_Go K D nL k n w' lv pc st) : xk_Go K D nL k n w lv pc st := by
  obtain ⟨p, l, e, R, s, m, args, below, meth, c, Q, A⟩ := K
  intro H locs ls hP hD hS hl
  exact kk H locs ls (hP.sub is hs) (hD.sub is hn hs2) hS hl
theorem x_get (C : xk_Ok K D cc nL own R0 ty) {idx ci kf : Nat} (hF : xk_F own idx ci kf) (q0 : Nat) {a : Nat} {fs : List Value} {v : Value} (he : w[q0]? = some (a, .inr (ci, fs))) (hv : fs[kf]? = some v) (d : decode cc pc = .ok (.getfield idx, 3))
    (kk : xk_Go K D nL k n w lv (pc + 3) (v :: st)) : xk_Go K D nL k n w lv pc (.ref a :: st) := by
  obtain ⟨p, l, e, R, s, m, args, below, meth, c, Q, A⟩ := K
  obtain ⟨hx, hb, hml, hown, hts, hK, -⟩ := C
  obtain ⟨Cn, T, N, hc, hk, hin, hlk⟩ := hF
  intro H locs ls hP hD hS hl
  exact va_get hx hb hts hin hown hK hP q0 he hc kf hk (hts _ hlk) (fun _ h9 => h9) hv d (kk H locs ls hP hD hS hl)
theorem x_put (C : xk_Ok K D cc nL own R0 ty) {idx ci kf : Nat} {fty : FieldType} (hF : xk_FP own idx ci kf false fty) (q0 : Nat) (w' : va_W) {a : Nat} {fs : List Value} {v : Value} (he : w[q0]? = some (a, .inr (ci, fs))) (hw : w.set q0 (a, .inr (ci, fs.set kf v)) = w')
    (hn : narrow fty v = v) (hfit : fits fty v = true) (hlen : kf < fs.length) (d : decode cc pc = .ok (.putfield idx, 3))
    (kk : xk_Go K D nL k n w' lv (pc + 3) st) : xk_Go K D nL k n w lv pc (v :: .ref a :: st) := by
  obtain ⟨p, l, e, R, s, m, args, below, meth, c, Q, A⟩ := K
  obtain ⟨hx, hb, hml, hown, hts, hK, -⟩ := C
  obtain ⟨Cn, T, N, hc, hk, hin, hlk, ⟨ty0, hty⟩, hnm, hfin, hd, -⟩ := hF
  subst hw
  intro H locs ls hP hD hS hl
  exact va_put hx hb hts hin ty0 hty hnm hown hK hP hD hS q0 he hc kf hk (hts _ hlk) (fun _ h9 => h9) hfin hd hn hfit hlen d (fun H1 locs1 hP hD hS => kk H1 locs1 ls hP hD hS hl)
/-- the machine is in a constructor -/
def xk_In (K : xk_T) : Prop := match K with
  | (_, _, _, _, _, _, _, _, meth, _, _, _) => meth.name = "<init>"
theorem x_putF (C : xk_Ok K D cc nL own R0 ty) (hin2 : xk_In K) {idx ci kf : Nat} {fty : FieldType} (hF : xk_FP own idx ci kf true fty) (q0 : Nat) (w' : va_W) {a : Nat} {fs : List Value} {v : Value} (he : w[q0]? = some (a, .inr (ci, fs))) (hw : w.set q0 (a, .inr (ci, fs.set kf v)) = w')
    (hn : narrow fty v = v) (hfit : fits fty v = true) (hlen : kf < fs.length) (d : decode cc pc = .ok (.putfield idx, 3))
    (kk : xk_Go K D nL k n w' lv (pc + 3) st) : xk_Go K D nL k n w lv pc (v :: .ref a :: st) := by
  obtain ⟨p, l, e, R, s, m, args, below, meth, c, Q, A⟩ := K
  obtain ⟨hx, hb, hml, hown, hts, hK, -⟩ := C
  obtain ⟨Cn, T, N, hc, hk, hin, hlk, ⟨ty0, hty⟩, hnm, hfin, hd, hdecl⟩ := hF
  subst hw
  intro H locs ls hP hD hS hl
  exact va_putF hx hb hts hin ty0 hty hnm hown hK hP hD hS q0 he hc kf hk (hts _ hlk) (fun _ h9 => h9) hfin hin2 (hdecl rfl) hd hn hfit hlen d (fun H1 locs1 hP hD hS => kk H1 locs1 ls hP hD hS hl)
-- arrays, at a place nI i
theorem x_ild (C : xk_Ok K D cc nL own R0 ty) (q0 t0 : Nat) {a N : Nat} {cA : ClassId} {f : Nat → Int32} (ha : w[q0]? = some (a, .inl (cA, N, .inl f))) (ht : ty[t0]? = some (cA, .int)) {i : Nat} (hi : i < N) (hN : N < 2 ^ 31) (d : decode cc pc = .ok (.iaload, 1))
    (kk : xk_Go K D nL k n w lv (pc + 1) (.int (f i) :: st)) : xk_Go K D nL k n w lv pc (.int (nI i) :: .ref a :: st) := by
  obtain ⟨p, l, e, R, s, m, args, below, meth, c, Q, A⟩ := K
  obtain ⟨hx, hb, hml, hown, hts, hK, -⟩ := C
  intro H locs ls hP hD hS hl
  refine va_iald hx hb hK hP q0 t0 ha ht (vp_in_nI hi hN) d ?_
  rw [nI_clamp (by omega)]
  exact kk H locs ls hP hD hS hl
theorem x_bld (C : xk_Ok K D cc nL own R0 ty) (q0 t0 : Nat) {a N : Nat} {cA : ClassId} {f : Nat → Int32} (ha : w[q0]? = some (a, .inl (cA, N, .inl f))) (ht : ty[t0]? = some (cA, .byte)) {i : Nat} (hi : i < N) (hN : N < 2 ^ 31) (d : decode cc pc = .ok (.baload, 1))
    (kk : xk_Go K D nL k n w lv (pc + 1) (.int (f i) :: st)) : xk_Go K D nL k n w lv pc (.int (nI i) :: .ref a :: st) := by
  obtain ⟨p, l, e, R, s, m, args, below, meth, c, Q, A⟩ := K
  obtain ⟨hx, hb, hml, hown, hts, hK, -⟩ := C
  intro H locs ls hP hD hS hl
  refine va_bald hx hb hK hP q0 t0 ha ht (vp_in_nI hi hN) d ?_
  rw [nI_clamp (by omega)]
  exact kk H locs ls hP hD hS hl
theorem x_zld (C : xk_Ok K D cc nL own R0 ty) (q0 t0 : Nat) {a N : Nat} {cA : ClassId} {f : Nat → Int32} (ha : w[q0]? = some (a, .inl (cA, N, .inl f))) (ht : ty[t0]? = some (cA, .boolean)) {i : Nat} (hi : i < N) (hN : N < 2 ^ 31) (d : decode cc pc = .ok (.baload, 1))
    (kk : xk_Go K D nL k n w lv (pc + 1) (.int (f i) :: st)) : xk_Go K D nL k n w lv pc (.int (nI i) :: .ref a :: st) := by
  obtain ⟨p, l, e, R, s, m, args, below, meth, c, Q, A⟩ := K
  obtain ⟨hx, hb, hml, hown, hts, hK, -⟩ := C
  intro H locs ls hP hD hS hl
  refine va_zald hx hb hK hP q0 t0 ha ht (vp_in_nI hi hN) d ?_
  rw [nI_clamp (by omega)]
  exact kk H locs ls hP hD hS hl
theorem x_lld (C : xk_Ok K D cc nL own R0 ty) (q0 t0 : Nat) {a N : Nat} {cA : ClassId} {f : Nat → Int64} (ha : w[q0]? = some (a, .inl (cA, N, .inr (.inl f)))) (ht : ty[t0]? = some (cA, .long)) {i : Nat} (hi : i < N) (hN : N < 2 ^ 31) (d : decode cc pc = .ok (.laload, 1))
    (kk : xk_Go K D nL k n w lv (pc + 1) (.long (f i) :: st)) : xk_Go K D nL k n w lv pc (.int (nI i) :: .ref a :: st) := by
  obtain ⟨p, l, e, R, s, m, args, below, meth, c, Q, A⟩ := K
  obtain ⟨hx, hb, hml, hown, hts, hK, -⟩ := C
  intro H locs ls hP hD hS hl
  refine va_lald hx hb hK hP q0 t0 ha ht (vp_in_nI hi hN) d ?_
  rw [nI_clamp (by omega)]
  exact kk H locs ls hP hD hS hl
theorem x_ist (C : xk_Ok K D cc nL own R0 ty) (q0 t0 : Nat) (w' : va_W) {a N : Nat} {cA : ClassId} {f : Nat → Int32} (ha : w[q0]? = some (a, .inl (cA, N, .inl f))) (ht : ty[t0]? = some (cA, .int)) {i : Nat} {x : Int32} {f' : Nat → Int32} (hf : upd f i x = f') (hw : w.set q0 (a, .inl (cA, N, .inl f')) = w') (hi : i < N) (hN : N < 2 ^ 31) (d : decode cc pc = .ok (.iastore, 1))
    (kk : xk_Go K D nL k n w' lv (pc + 1) st) : xk_Go K D nL k n w lv pc (.int x :: .int (nI i) :: .ref a :: st) := by
  obtain ⟨p, l, e, R, s, m, args, below, meth, c, Q, A⟩ := K
  obtain ⟨hx, hb, hml, hown, hts, hK, -⟩ := C
  subst hf
  subst hw
  intro H locs ls hP hD hS hl
  refine va_iast hx hb hK hP hD hS q0 t0 ha ht (vp_in_nI hi hN) d (fun H1 locs1 hP hD hS => ?_)
  rw [nI_clamp (by omega)] at hP hD
  exact kk H1 locs1 ls hP hD hS hl
theorem x_bst (C : xk_Ok K D cc nL own R0 ty) (q0 t0 : Nat) (w' : va_W) {a N : Nat} {cA : ClassId} {f : Nat → Int32} (ha : w[q0]? = some (a, .inl (cA, N, .inl f))) (ht : ty[t0]? = some (cA, .byte)) {i : Nat} {x : Int32} {f' : Nat → Int32} (hf : upd f i (vp_nar .byte x) = f') (hw : w.set q0 (a, .inl (cA, N, .inl f')) = w') (hi : i < N) (hN : N < 2 ^ 31) (d : decode cc pc = .ok (.bastore, 1))
    (kk : xk_Go K D nL k n w' lv (pc + 1) st) : xk_Go K D nL k n w lv pc (.int x :: .int (nI i) :: .ref a :: st) := by
  obtain ⟨p, l, e, R, s, m, args, below, meth, c, Q, A⟩ := K
  obtain ⟨hx, hb, hml, hown, hts, hK, -⟩ := C
  subst hf
  subst hw
  intro H locs ls hP hD hS hl
  refine va_bast hx hb hK hP hD hS q0 t0 ha ht (vp_in_nI hi hN) d (fun H1 locs1 hP hD hS => ?_)
  rw [nI_clamp (by omega)] at hP hD
  exact kk H1 locs1 ls hP hD hS hl
theorem x_zst (C : xk_Ok K D cc nL own R0 ty) (q0 t0 : Nat) (w' : va_W) {a N : Nat} {cA : ClassId} {f : Nat → Int32} (ha : w[q0]? = some (a, .inl (cA, N, .inl f))) (ht : ty[t0]? = some (cA, .boolean)) {i : Nat} {x : Int32} {f' : Nat → Int32} (hf : upd f i (vp_nar .boolean x) = f') (hw : w.set q0 (a, .inl (cA, N, .inl f')) = w') (hi : i < N) (hN : N < 2 ^ 31) (d : decode cc pc = .ok (.bastore, 1))
    (kk : xk_Go K D nL k n w' lv (pc + 1) st) : xk_Go K D nL k n w lv pc (.int x :: .int (nI i) :: .ref a :: st) := by
  obtain ⟨p, l, e, R, s, m, args, below, meth, c, Q, A⟩ := K
  obtain ⟨hx, hb, hml, hown, hts, hK, -⟩ := C
  subst hf
  subst hw
  intro H locs ls hP hD hS hl
  refine va_zast hx hb hK hP hD hS q0 t0 ha ht (vp_in_nI hi hN) d (fun H1 locs1 hP hD hS => ?_)
  rw [nI_clamp (by omega)] at hP hD
  exact kk H1 locs1 ls hP hD hS hl
theorem x_lst (C : xk_Ok K D cc nL own R0 ty) (q0 t0 : Nat) (w' : va_W) {a N : Nat} {cA : ClassId} {f : Nat → Int64} (ha : w[q0]? = some (a, .inl (cA, N, .inr (.inl f)))) (ht : ty[t0]? = some (cA, .long)) {i : Nat} {x : Int64} {f' : Nat → Int64} (hf : vp_updL f i x = f') (hw : w.set q0 (a, .inl (cA, N, .inr (.inl f'))) = w') (hi : i < N) (hN : N < 2 ^ 31) (d : decode cc pc = .ok (.lastore, 1))
    (kk : xk_Go K D nL k n w' lv (pc + 1) st) : xk_Go K D nL k n w lv pc (.long x :: .int (nI i) :: .ref a :: st) := by
  obtain ⟨p, l, e, R, s, m, args, below, meth, c, Q, A⟩ := K
  obtain ⟨hx, hb, hml, hown, hts, hK, -⟩ := C
  subst hf
  subst hw
  intro H locs ls hP hD hS hl
  refine va_last hx hb hK hP hD hS q0 t0 ha ht (vp_in_nI hi hN) d (fun H1 locs1 hP hD hS => ?_)
  rw [nI_clamp (by omega)] at hP hD
  exact kk H1 locs1 ls hP hD hS hl
end XK2
-- contracts
def xk_Pre (D : va_G) (ty : List (ClassId × FieldType)) (as : List Value) (w : va_W) (sz : Nat) : Array Value → State → Prop := va_Pc as (fun U => U.heap.size = sz ∧ va_P D vwCl w U.heap ∧ va_K D vwCl ty U ∧ va_D (fun _ => True) w)
def xk_Q (post : Option Value → va_W → Prop) (D : va_G) (A : Nat → Prop) : Array Value → State → Outcome → State → Prop := fun _ st oc t => (∃ (v : Option Value) (u : va_W), oc = .returned v ∧ post v u ∧ va_P D vwCl u t.heap ∧ va_D A u) ∧ va_F A st t
/-- THE CONTRACT of a method: from the cells w and the arguments as it returns v with the cells u, 'post v u' -/
def xk_Ct (y : MethodName) (cc : ByteArray) (nL : Nat) (rt : Option FieldType) (rm : Room) (D : va_G) (ty : List (ClassId × FieldType)) (as : List Value) (w : va_W) (post : Option Value → va_W → Prop) : Prop :=
  ∀ (l : Launch) (sz : Nat), Met l y (.code y cc nL rt :: xk_gt) rm (xk_Pre D ty as w sz) (xk_Q post D (va_A w sz)) rm.cells rm.slots (va_A w sz)
/-- the ends of a method -/
def xk_Rt (K : xk_T) (D : va_G) (rt : Option FieldType) (post : Option Value → va_W → Prop) (mc ms : Nat) : Prop := match K with
  | (_, _, _, _, s, _, args, below, meth, _, Q, A) => meth.sig.returnType = rt ∧ meth.locks = false ∧ Q = MQ below (xk_Q post D A) args s mc ms A
theorem xk_Pre_blind {D : va_G} {ty : List (ClassId × FieldType)} {as : List Value} {w : va_W} {sz : Nat} : FrameBlind (xk_Pre D ty as w sz) := fun a U g mk q => by
  obtain ⟨q0, q1, qP, qK, qD⟩ := q
  exact ⟨q0, q1, qP, va_K.moved (u := U) (U := U.calling g mk a) (Vm.Alike.refl U.vm) qK, qD⟩
theorem xk_enter {y : MethodName} {cc : ByteArray} {nL : Nat} {rt : Option FieldType} {rm : Room} {D : va_G} {ty : List (ClassId × FieldType)} {as : List Value} {w : va_W} {post : Option Value → va_W → Prop}
    (hy : plainName y.cls = true) (hlv : (lg_sl as).length ≤ nL)
    (body : ∀ K : xk_T, xk_Ok K D cc nL y.cls rm ty → xk_Rt K D rt post rm.cells rm.slots → (y.name = "<init>" → xk_In K) → xk_Go K D nL 0 0 w (lv_args 0 as) 0 []) : xk_Ct y cc nL rt rm D ty as w post := by
  intro l sz
  refine Met.ofW (cc := cc) (maxL := nL) (ret := rt) hy rfl ?_
  intro p e s m args below meth c s₁ B hml hv
  obtain ⟨rfl, hsz, hP, hK, hD0⟩ := hv
  have hts := atoms_spec (ws := .code y cc nL rt :: xk_gt) B.pre
  have hown : s.vm.findClass y.cls = some m.cls := findClass_of_methodNamed B.named
  subst hsz
  have hD := hD0.self (sz := s.heap.size)
  have hA : ∀ q : Nat, s.heap.size ≤ q → va_A w s.heap.size q := fun q h => Or.inr h
  have hl := lv_entry as (n := nL) hlv
  rw [lg_entry_eq]
  exact body (p, l, e, rm, s, m, as.toArray, below, meth, c, MQ below (xk_Q post D (va_A w s.heap.size)) as.toArray s rm.cells rm.slots (va_A w s.heap.size), va_A w s.heap.size)
    ⟨B.exec, B.bytes, hml, hown, fun x hx => hts x (List.mem_cons_of_mem _ hx), hK, hA, rfl⟩ ⟨B.returns, B.notSynchronized, rfl⟩ (fun h => by
      show meth.name = "<init>"
      rw [(name_of_methodNamed B.named B.method).1]; exact h)
    s.heap [] _ hP hD va_S.rf hl
section XK3
variable {K : xk_T} {D : va_G} {cc : ByteArray} {nL mc ms : Nat} {own : String} {R0 : Room} {ty : List (ClassId × FieldType)} {w : va_W} {lv : List (Nat × Value)} {pc : Nat} {rt : Option FieldType} {post : Option Value → va_W → Prop}
theorem x_iret (C : xk_Ok K D cc nL own R0 ty) (T : xk_Rt K D rt post mc ms) {v : Int32} (ft : FieldType) (hr : rt = some ft) (hn : narrow ft (.int v) = .int v) (d : decode cc pc = .ok (.ireturn, 1)) (hp : post (some (.int v)) w) : xk_Go K D nL mc ms w lv pc [.int v] := by
  obtain ⟨p, l, e, R, s, m, args, below, meth, c, Q, A⟩ := K
  obtain ⟨hx, hb, -⟩ := C
  obtain ⟨h1, h2, h3⟩ := T
  subst hr
  subst h3
  intro H locs ls hP hD hS hl
  exact W.zret hx hb h1 hn (fun t ht hW => ⟨⟨_, w, rfl, hp, by rw [ht]; exact hP, hD⟩, hS.F ht⟩) hS.2.2 d h2
theorem x_lret (C : xk_Ok K D cc nL own R0 ty) (T : xk_Rt K D rt post mc ms) {v : Int64} (hr : rt = some .long) (d : decode cc pc = .ok (.lreturn, 1)) (hp : post (some (.long v)) w) : xk_Go K D nL mc ms w lv pc [.long v] := by
  obtain ⟨p, l, e, R, s, m, args, below, meth, c, Q, A⟩ := K
  obtain ⟨hx, hb, -⟩ := C
  obtain ⟨h1, h2, h3⟩ := T
  subst hr
  subst h3
  intro H locs ls hP hD hS hl
  exact W.lret hx hb h1 (fun t ht hW => ⟨⟨_, w, rfl, hp, by rw [ht]; exact hP, hD⟩, hS.F ht⟩) hS.2.2 d h2
theorem x_vret (C : xk_Ok K D cc nL own R0 ty) (T : xk_Rt K D rt post mc ms) (hr : rt = none) (d : decode cc pc = .ok (.return_, 1)) (hp : post none w) : xk_Go K D nL mc ms w lv pc [] := by
  obtain ⟨p, l, e, R, s, m, args, below, meth, c, Q, A⟩ := K
  obtain ⟨hx, hb, -⟩ := C
  obtain ⟨h1, h2, h3⟩ := T
  subst hr
  subst h3
  intro H locs ls hP hD hS hl
  exact W.vret hx hb h1 (fun t ht hW => ⟨⟨_, w, rfl, hp, by rw [ht]; exact hP, hD⟩, hS.F ht⟩) hS.2.2 d h2
end XK3
/-! WALKING ROWS 3: calls. -/
theorem xk_fm {α β : Type} {f : α → Option β} {is : List α} {wc : List β} (h : is.map f = wc.map some) : is.filterMap f = wc := by
  have h1 : is.filterMap f = (is.map f).filterMap id := by rw [List.filterMap_map]; rfl
  rw [h1, h, List.filterMap_map]
  exact List.filterMap_some
theorem xk_gt_in : GoodIn xk_gt xk_gt := fun w hw => ⟨hw, good_of_word (xk_gt_good w hw)⟩
section XK4
variable {p : Program} {l : Launch} {e : Env} {R : Room} {s : State} {m : MethodId} {args : Array Value} {below : List Frame} {meth : Method} {c : Code} {H : Heap} {locs : List Loc} {cells slots mc ms : Nat} {Q : State → Prop}
theorem xk_call {pc : Nat} {ls : Array Slot} {st0 rest : List Value} {post : Option Value → va_W → Prop} {D : va_G} {A0 A1 : Nat → Prop} {a : Array Value} {free : Addr → Prop} {H0 : Heap}
    (hr : va_Run p l e R s m args below meth c H locs cells slots mc ms (F0 m pc ls st0) rest (xk_Q post D A1 a) free) (hS : va_S A0 H0 H locs) (hA : ∀ q, q < H.size → A1 q → A0 q) (hf : ∀ q, free q → A0 q)
    (kk : ∀ (v : Option Value) (u : va_W) (H1 : Heap) (locs1 : List Loc), post v u → va_P D vwCl u H1 → va_D A1 u → H.size ≤ H1.size → (∀ q : Nat, q < H.size → ¬ A1 q → H1[q]? = H[q]?) → va_S A0 H0 H1 locs1 → W p l e R s m args below meth c H1 locs1 (cells + mc) (slots + ms) Q (F0 m (pc + 3) ls (v.toList ++ rest))) : W p l e R s m args below meth c H locs cells slots Q (F0 m pc ls st0) := by
  intro T hT X
  obtain ⟨v, st₀, t, T', L, h0, X', hL, e1, e2, ⟨⟨v', u, hv, hp, hPu, hDu⟩, hz, hk⟩, st⟩ := hr T hT X
  cases hv
  rw [h0] at hz hk
  have hz' : H.size ≤ T'.heap.size := by rw [e1]; exact hz
  have hk' : ∀ q : Nat, q < H.size → ¬ A1 q → T'.heap[q]? = H[q]? := fun q h1 h2 => by rw [e1]; exact hk q h1 h2
  obtain ⟨t2, a1, b1⟩ := kk v u T'.heap (locs ++ L) hp (by rw [e1]; exact hPu) hDu hz' hk'
    ⟨Nat.le_trans hS.1 hz', fun q h1 h2 => (hk' q (Nat.lt_of_lt_of_le h1 hS.1) (fun z => h2 (hA q (Nat.lt_of_lt_of_le h1 hS.1) z))).trans (hS.2.1 q h1 h2), fun q hq => by
      rcases List.mem_append.mp hq with h | h
      · exact hS.2.2 q h
      · exact hf _ (hL q h)⟩ T' rfl X'
  exact ⟨t2, st t2 a1, b1⟩
end XK4
/-- a call's words: the callee's code, its class, the caller's link, so many arguments -/
def xk_CB (own : String) (idx : Nat) (y : MethodName) (cc : ByteArray) (nL : Nat) (rt : Option FieldType) (na : Nat) : Prop := Cond.code y cc nL rt ∈ xk_gt ∧ Cond.initialized y.cls ∈ xk_gt ∧ Cond.methodLink own idx y ∈ xk_gt ∧
  (y.cls ≠ "java/lang/invoke/MethodHandle" ∧ y.cls ≠ "java/lang/invoke/VarHandle" ∧ (parseMethodDescriptor y.desc).map (fun d => d.parameters.length) = some na)
theorem xk_callB {own : String} {idx : Nat} {y : MethodName} {cc : ByteArray} {nL : Nat} {rt : Option FieldType} {na : Nat} {R rm : Room} {s : State} {args : Array Value} (h : xk_CB own idx y cc nL rt na) (hts : ∀ w ∈ xk_gt, w.before args s = true)
    (hR : rm.frames + 1 ≤ R.frames ∧ 8 + (nL + 11) + rm.locals ≤ R.locals) : CallB R s args own idx y cc nL rt (.code y cc nL rt :: xk_gt) rm rm.cells rm.slots na := by
  obtain ⟨h1, h2, h3, h4⟩ := h
  refine callB_of na hts (fun w hw => ?_) rfl rfl rfl (hts _ h2) (hts _ h3) h4 hR
  rcases List.mem_cons.mp hw with rfl | hw
  · exact xk_gt_in _ h1
  · exact xk_gt_in _ hw
section XK5
variable {K : xk_T} {D : va_G} {cc : ByteArray} {nL k n : Nat} {own : String} {R0 : Room} {ty : List (ClassId × FieldType)} {w : va_W} {lv : List (Nat × Value)} {pc : Nat} {st : List Value}
theorem x_callV (C : xk_Ok K D cc nL own R0 ty) {y : MethodName} {cc' : ByteArray} {nL' : Nat} {rt' : Option FieldType} {rm : Room} {ty' : List (ClassId × FieldType)} {wc : va_W} {post : Option Value → va_W → Prop} {b : Nat} {As : List Value}
    (hM : xk_Ct y cc' nL' rt' rm D ty' (.ref b :: As) wc post) {idx na : Nat} (hk : xk_CB own idx y cc' nL' rt' na) (hk2 : Cond.instanceMethod y ∈ xk_gt ∧ Cond.selects y.cls y y ∈ xk_gt)
    (isC isR isT : List Nat) (wr : va_W) (hC : isC.map (fun i => w[i]?) = wc.map some) (hR : isR.map (fun i => w[i]?) = wr.map some) (hnC : va_nd isC = true) (hnR : va_nd isR = true) (hdis : ∀ i ∈ isR, i ∉ isC) (hT : isT.filterMap (fun i => ty[i]?) = ty')
    (r0 : Nat) {ci : Nat} {fs : List Value} (hrc : wc[r0]? = some (b, .inr (ci, fs))) (hcl : (vwCl[ci]?).map (fun q => q.1) = some y.cls)
    (hroom : rm.frames + 1 ≤ R0.frames ∧ 8 + (nL' + 11) + rm.locals ≤ R0.locals) (hcells : k + rm.cells ≤ R0.cells ∧ n + rm.slots ≤ R0.slots)
    {st0 : List Value} (st : List Value) (hst : st0 = As.reverse ++ .ref b :: st) (hna : As.length = na) (hcat : (st.map fun v => v.category).sum ≤ 8) (d : decode cc pc = .ok (.invokevirtual idx, 3))
    (kk : ∀ (v : Option Value) (u : va_W), post v u → xk_Go K D nL (k + rm.cells) (n + rm.slots) (wr ++ u) lv (pc + 3) (v.toList ++ st)) : xk_Go K D nL k n w lv pc st0 := by
  obtain ⟨p, l, e, R, s, m, args, below, meth, c, Q, A⟩ := K
  obtain ⟨hx, hb, hml, hown, hts, hK, hA, hR0⟩ := C
  subst hR0
  subst hst
  intro H locs ls hP hD hS hl
  have hPc := hP.sub isC (xk_fm hC)
  have hDc := hD.sub isC hnC hC
  have hKc := hK.sub isT hT
  have hFc := va_free (wc := wc) hD hS hA isC hC
  have hrv : ∃ cell : Cell, H[b]? = some cell ∧ cell.vm.isStatics = false ∧ s.vm.findClass y.cls = some cell.cls := by
    cases hq : vwCl[ci]? with
    | none => rw [hq] at hcl; cases hcl
    | some q =>
      rw [hq] at hcl
      have : q.1 = y.cls := Option.some.inj hcl
      rw [← this]
      exact va_recv hKc hPc hq hrc
  refine xk_call (va_runV (As := As) (rest := st) ⟨hx, hb, hml, hown, hts⟩ (hM l H.size) ⟨xk_callB hk hts hroom, hts _ hk2.1, hts _ hk2.2⟩ ⟨xk_Pre_blind, hrv, fun U hU hW => ⟨rfl, by rw [hU], by rw [hU]; exact hPc, va_K.moved hW.alike hKc, hDc.weaken (fun _ _ _ _ => trivial)⟩⟩ rfl hna hl.1 rfl (lv_room hcat) d hcells) hS (fun q _ h => hFc q h) hFc (fun v u H1 locs1 hp hP1 hD1 hz hk1 hS1 => ?_)
  obtain ⟨hP', hD'⟩ := va_join hP hD isC isR hC hR hnR hdis hk1 hFc hP1 hD1
  exact kk v u hp H1 locs1 ls hP' hD' hS1 hl
theorem x_callS (C : xk_Ok K D cc nL own R0 ty) {y : MethodName} {cc' : ByteArray} {nL' : Nat} {rt' : Option FieldType} {rm : Room} {ty' : List (ClassId × FieldType)} {wc : va_W} {post : Option Value → va_W → Prop} {As : List Value}
    (hM : xk_Ct y cc' nL' rt' rm D ty' As wc post) {idx na : Nat} (hk : xk_CB own idx y cc' nL' rt' na) (hk2 : Cond.static y ∈ xk_gt)
    (isC isR isT : List Nat) (wr : va_W) (hC : isC.map (fun i => w[i]?) = wc.map some) (hR : isR.map (fun i => w[i]?) = wr.map some) (hnC : va_nd isC = true) (hnR : va_nd isR = true) (hdis : ∀ i ∈ isR, i ∉ isC) (hT : isT.filterMap (fun i => ty[i]?) = ty')
    (hroom : rm.frames + 1 ≤ R0.frames ∧ 8 + (nL' + 11) + rm.locals ≤ R0.locals) (hcells : k + rm.cells ≤ R0.cells ∧ n + rm.slots ≤ R0.slots)
    {st0 : List Value} (st : List Value) (hst : st0 = As.reverse ++ st) (hna : As.length = na) (hcat : (st.map fun v => v.category).sum ≤ 8) (d : decode cc pc = .ok (.invokestatic idx, 3))
    (kk : ∀ (v : Option Value) (u : va_W), post v u → xk_Go K D nL (k + rm.cells) (n + rm.slots) (wr ++ u) lv (pc + 3) (v.toList ++ st)) : xk_Go K D nL k n w lv pc st0 := by
  obtain ⟨p, l, e, R, s, m, args, below, meth, c, Q, A⟩ := K
  obtain ⟨hx, hb, hml, hown, hts, hK, hA, hR0⟩ := C
  subst hR0
  subst hst
  intro H locs ls hP hD hS hl
  have hPc := hP.sub isC (xk_fm hC)
  have hDc := hD.sub isC hnC hC
  have hKc := hK.sub isT hT
  have hFc := va_free (wc := wc) hD hS hA isC hC
  refine xk_call (va_runS (As := As) (rest := st) ⟨hx, hb, hml, hown, hts⟩ (hM l H.size) ⟨xk_callB hk hts hroom, hts _ hk2⟩ ⟨xk_Pre_blind, fun U hU hW => ⟨rfl, by rw [hU], by rw [hU]; exact hPc, va_K.moved hW.alike hKc, hDc.weaken (fun _ _ _ _ => trivial)⟩⟩ rfl hna hl.1 rfl (lv_room hcat) d hcells) hS (fun q _ h => hFc q h) hFc (fun v u H1 locs1 hp hP1 hD1 hz hk1 hS1 => ?_)
  obtain ⟨hP', hD'⟩ := va_join hP hD isC isR hC hR hnR hdis hk1 hFc hP1 hD1
  exact kk v u hp H1 locs1 ls hP' hD' hS1 hl
theorem x_callI (C : xk_Ok K D cc nL own R0 ty) {y : MethodName} {cc' : ByteArray} {nL' : Nat} {rm : Room} {ty' : List (ClassId × FieldType)} {wc : va_W} {post : Option Value → va_W → Prop} {b : Nat} {As : List Value}
    (hM : xk_Ct y cc' nL' none rm D ty' (.ref b :: As) wc post) {idx na : Nat} (hk : xk_CB own idx y cc' nL' none na) (hk2 : y.name = "<init>" ∧ Cond.instanceMethod y ∈ xk_gt)
    (isC isR isT : List Nat) (wr : va_W) (hC : isC.map (fun i => w[i]?) = wc.map some) (hR : isR.map (fun i => w[i]?) = wr.map some) (hnC : va_nd isC = true) (hnR : va_nd isR = true) (hdis : ∀ i ∈ isR, i ∉ isC) (hT : isT.filterMap (fun i => ty[i]?) = ty')
    (hroom : rm.frames + 1 ≤ R0.frames ∧ 8 + (nL' + 11) + rm.locals ≤ R0.locals) (hcells : k + rm.cells ≤ R0.cells ∧ n + rm.slots ≤ R0.slots)
    {st0 : List Value} (st : List Value) (hst : st0 = As.reverse ++ .ref b :: st) (hna : As.length = na) (hcat : (st.map fun v => v.category).sum ≤ 8) (d : decode cc pc = .ok (.invokespecial idx, 3))
    (kk : ∀ (v : Option Value) (u : va_W), post v u → xk_Go K D nL (k + rm.cells) (n + rm.slots) (wr ++ u) lv (pc + 3) (v.toList ++ st)) : xk_Go K D nL k n w lv pc st0 := by
  obtain ⟨p, l, e, R, s, m, args, below, meth, c, Q, A⟩ := K
  obtain ⟨hx, hb, hml, hown, hts, hK, hA, hR0⟩ := C
  subst hR0
  subst hst
  intro H locs ls hP hD hS hl
  have hPc := hP.sub isC (xk_fm hC)
  have hDc := hD.sub isC hnC hC
  have hKc := hK.sub isT hT
  have hFc := va_free (wc := wc) hD hS hA isC hC
  refine xk_call (va_runI (As := As) (rest := st) ⟨hx, hb, hml, hown, hts⟩ (hM l H.size) ⟨xk_callB hk hts hroom, hk2.1, hts _ hk2.2⟩ ⟨xk_Pre_blind, fun U hU hW => ⟨rfl, by rw [hU], by rw [hU]; exact hPc, va_K.moved hW.alike hKc, hDc.weaken (fun _ _ _ _ => trivial)⟩⟩ rfl hna hl.1 rfl (lv_room hcat) d hcells) hS (fun q _ h => hFc q h) hFc (fun v u H1 locs1 hp hP1 hD1 hz hk1 hS1 => ?_)
  obtain ⟨hP', hD'⟩ := va_join hP hD isC isR hC hR hnR hdis hk1 hFc hP1 hD1
  exact kk v u hp H1 locs1 ls hP' hD' hS1 hl
end XK5
/-! WALKING ROWS 4: branches and sums in numbers. -/
theorem xk_cmp_lt (x y : Int64) : lg_cmp x y < 0 ↔ x < y := by
  unfold lg_cmp
  by_cases h1 : y < x
  · rw [if_pos h1]
    refine ⟨fun h => absurd h (by decide), fun h => ?_⟩
    exact absurd (Int64.lt_trans h1 h) (Int64.lt_irrefl)
  · rw [if_neg h1]
    by_cases h2 : x = y
    · rw [if_pos h2]
      refine ⟨fun h => absurd h (by decide), fun h => absurd h (by rw [h2]; exact Int64.lt_irrefl)⟩
    · rw [if_neg h2]
      refine ⟨fun _ => ?_, fun _ => by decide⟩
      rw [Int64.lt_iff_toInt_lt] at h1 ⊢
      have h3 : x.toInt ≠ y.toInt := fun q => h2 (Int64.toInt_inj.mp q)
      omega
theorem xk_cmp_eq (x y : Int64) : lg_cmp x y = 0 ↔ x = y := by
  unfold lg_cmp
  by_cases h1 : y < x
  · rw [if_pos h1]
    refine ⟨fun h => absurd h (by decide), fun h => ?_⟩
    rw [h] at h1
    exact absurd h1 Int64.lt_irrefl
  · rw [if_neg h1]
    by_cases h2 : x = y
    · rw [if_pos h2]
      exact ⟨fun _ => h2, fun _ => rfl⟩
    · rw [if_neg h2]
      exact ⟨fun h => absurd h (by decide), fun h => absurd h h2⟩
theorem xk_cmp_gt (x y : Int64) : 0 < lg_cmp x y ↔ y < x := by
  unfold lg_cmp
  by_cases h1 : y < x
  · rw [if_pos h1]
    exact ⟨fun _ => h1, fun _ => by decide⟩
  · rw [if_neg h1]
    by_cases h2 : x = y
    · rw [if_pos h2]
      exact ⟨fun h => absurd h (by decide), fun h => absurd h h1⟩
    · rw [if_neg h2]
      exact ⟨fun h => absurd h (by decide), fun h => absurd h h1⟩
theorem xk_cmp_ge (x y : Int64) : 0 ≤ lg_cmp x y ↔ y ≤ x := by
  rw [← Int32.not_lt, xk_cmp_lt, Int64.not_lt]
theorem xk_cmp_le (x y : Int64) : lg_cmp x y ≤ 0 ↔ x ≤ y := by
  rw [← Int32.not_lt, xk_cmp_gt, Int64.not_lt]
section XK6
variable {K : xk_T} {D : va_G} {cc : ByteArray} {nL k n : Nat} {own : String} {R0 : Room} {ty : List (ClassId × FieldType)} {w : va_W} {lv : List (Nat × Value)} {pc : Nat} {st : List Value}
theorem x_top {x y : Int32} (h : x = y) (kk : xk_Go K D nL k n w lv pc (.int y :: st)) : xk_Go K D nL k n w lv pc (.int x :: st) := h ▸ kk
theorem x_topl {x y : Int64} (h : x = y) (kk : xk_Go K D nL k n w lv pc (.long y :: st)) : xk_Go K D nL k n w lv pc (.long x :: st) := h ▸ kk
theorem x_iaddN (C : xk_Ok K D cc nL own R0 ty) {a b : Nat} (d : decode cc pc = .ok (.iadd, 1)) (kk : xk_Go K D nL k n w lv (pc + 1) (.int (nI (a + b)) :: st)) : xk_Go K D nL k n w lv pc (.int (nI b) :: .int (nI a) :: st) := x_iadd C d (x_top (nI_add a b) kk)
theorem x_isubN (C : xk_Ok K D cc nL own R0 ty) {a b : Nat} (h : b ≤ a) (d : decode cc pc = .ok (.isub, 1)) (kk : xk_Go K D nL k n w lv (pc + 1) (.int (nI (a - b)) :: st)) : xk_Go K D nL k n w lv pc (.int (nI b) :: .int (nI a) :: st) := x_isub C d (x_top (pk_sub h) kk)
theorem x_imulN (C : xk_Ok K D cc nL own R0 ty) {a b : Nat} (d : decode cc pc = .ok (.imul, 1)) (kk : xk_Go K D nL k n w lv (pc + 1) (.int (nI (a * b)) :: st)) : xk_Go K D nL k n w lv pc (.int (nI b) :: .int (nI a) :: st) := x_imul C d (x_top (pk_mul a b) kk)
theorem x_idivN (C : xk_Ok K D cc nL own R0 ty) {a b : Nat} (ha : a < 2 ^ 31) (h0 : 0 < b) (hb : b < 2 ^ 31) (d : decode cc pc = .ok (.idiv, 1)) (kk : xk_Go K D nL k n w lv (pc + 1) (.int (nI (a / b)) :: st)) : xk_Go K D nL k n w lv pc (.int (nI b) :: .int (nI a) :: st) := x_idiv C d (nI_ne0 h0 hb) (x_top (pk_div ha h0 hb) kk)
theorem x_iremN (C : xk_Ok K D cc nL own R0 ty) {a b : Nat} (ha : a < 2 ^ 31) (h0 : 0 < b) (hb : b < 2 ^ 31) (d : decode cc pc = .ok (.irem, 1)) (kk : xk_Go K D nL k n w lv (pc + 1) (.int (nI (a % b)) :: st)) : xk_Go K D nL k n w lv pc (.int (nI b) :: .int (nI a) :: st) := x_irem C d (nI_ne0 h0 hb) (x_top (pk_rem ha h0 hb) kk)
theorem x_icmp_eqN (C : xk_Ok K D cc nL own R0 ty) {a b : Nat} (ha : a < 2 ^ 31) (hb : b < 2 ^ 31) {off : Int} {tgt : Nat} (d : decode cc pc = .ok (.if_icmp .eq off, 3)) (ht : (pc : Int) + off = (tgt : Int))
    (kt : a = b → xk_Go K D nL k n w lv tgt st) (kf : ¬ a = b → xk_Go K D nL k n w lv (pc + 3) st) : xk_Go K D nL k n w lv pc (.int (nI b) :: .int (nI a) :: st) :=
  x_icmp_eq C d ht (fun h => kt ((nI_eq ha hb).mp h)) (fun h => kf (fun q => h ((nI_eq ha hb).mpr q)))
theorem x_icmp_neN (C : xk_Ok K D cc nL own R0 ty) {a b : Nat} (ha : a < 2 ^ 31) (hb : b < 2 ^ 31) {off : Int} {tgt : Nat} (d : decode cc pc = .ok (.if_icmp .ne off, 3)) (ht : (pc : Int) + off = (tgt : Int))
    (kt : ¬ a = b → xk_Go K D nL k n w lv tgt st) (kf : a = b → xk_Go K D nL k n w lv (pc + 3) st) : xk_Go K D nL k n w lv pc (.int (nI b) :: .int (nI a) :: st) :=
  x_icmp_ne C d ht (fun h => kt (fun q => h ((nI_eq ha hb).mpr q))) (fun h => kf ((nI_eq ha hb).mp h))
theorem x_icmp_ltN (C : xk_Ok K D cc nL own R0 ty) {a b : Nat} (ha : a < 2 ^ 31) (hb : b < 2 ^ 31) {off : Int} {tgt : Nat} (d : decode cc pc = .ok (.if_icmp .lt off, 3)) (ht : (pc : Int) + off = (tgt : Int))
    (kt : a < b → xk_Go K D nL k n w lv tgt st) (kf : b ≤ a → xk_Go K D nL k n w lv (pc + 3) st) : xk_Go K D nL k n w lv pc (.int (nI b) :: .int (nI a) :: st) :=
  x_icmp_lt C d ht (fun h => kt ((nI_ltI ha hb).mp h)) (fun h => kf (Nat.not_lt.mp (fun q => h ((nI_ltI ha hb).mpr q))))
theorem x_icmp_geN (C : xk_Ok K D cc nL own R0 ty) {a b : Nat} (ha : a < 2 ^ 31) (hb : b < 2 ^ 31) {off : Int} {tgt : Nat} (d : decode cc pc = .ok (.if_icmp .ge off, 3)) (ht : (pc : Int) + off = (tgt : Int))
    (kt : b ≤ a → xk_Go K D nL k n w lv tgt st) (kf : a < b → xk_Go K D nL k n w lv (pc + 3) st) : xk_Go K D nL k n w lv pc (.int (nI b) :: .int (nI a) :: st) :=
  x_icmp_ge C d ht (fun h => kt ((nI_leI hb ha).mp h)) (fun h => kf (Nat.not_le.mp (fun q => h ((nI_leI hb ha).mpr q))))
theorem x_icmp_gtN (C : xk_Ok K D cc nL own R0 ty) {a b : Nat} (ha : a < 2 ^ 31) (hb : b < 2 ^ 31) {off : Int} {tgt : Nat} (d : decode cc pc = .ok (.if_icmp .gt off, 3)) (ht : (pc : Int) + off = (tgt : Int))
    (kt : b < a → xk_Go K D nL k n w lv tgt st) (kf : a ≤ b → xk_Go K D nL k n w lv (pc + 3) st) : xk_Go K D nL k n w lv pc (.int (nI b) :: .int (nI a) :: st) :=
  x_icmp_gt C d ht (fun h => kt ((nI_ltI hb ha).mp h)) (fun h => kf (Nat.not_lt.mp (fun q => h ((nI_ltI hb ha).mpr q))))
theorem x_icmp_leN (C : xk_Ok K D cc nL own R0 ty) {a b : Nat} (ha : a < 2 ^ 31) (hb : b < 2 ^ 31) {off : Int} {tgt : Nat} (d : decode cc pc = .ok (.if_icmp .le off, 3)) (ht : (pc : Int) + off = (tgt : Int))
    (kt : a ≤ b → xk_Go K D nL k n w lv tgt st) (kf : b < a → xk_Go K D nL k n w lv (pc + 3) st) : xk_Go K D nL k n w lv pc (.int (nI b) :: .int (nI a) :: st) :=
  x_icmp_le C d ht (fun h => kt ((nI_leI ha hb).mp h)) (fun h => kf (Nat.not_le.mp (fun q => h ((nI_leI ha hb).mpr q))))
theorem x_if_eqN (C : xk_Ok K D cc nL own R0 ty) {a : Nat} (ha : a < 2 ^ 31) {off : Int} {tgt : Nat} (d : decode cc pc = .ok (.ifCond .eq off, 3)) (ht : (pc : Int) + off = (tgt : Int))
    (kt : a = 0 → xk_Go K D nL k n w lv tgt st) (kf : ¬ a = 0 → xk_Go K D nL k n w lv (pc + 3) st) : xk_Go K D nL k n w lv pc (.int (nI a) :: st) := by
  have h0 : nI a = 0 → a = 0 := fun h => (nI_eq ha (by decide)).mp (h.trans nI_0.symm)
  exact x_if_eq C d ht (fun h => kt (h0 h)) (fun h => kf (fun q => h (by rw [q]; rfl)))
theorem x_if_neN (C : xk_Ok K D cc nL own R0 ty) {a : Nat} (ha : a < 2 ^ 31) {off : Int} {tgt : Nat} (d : decode cc pc = .ok (.ifCond .ne off, 3)) (ht : (pc : Int) + off = (tgt : Int))
    (kt : ¬ a = 0 → xk_Go K D nL k n w lv tgt st) (kf : a = 0 → xk_Go K D nL k n w lv (pc + 3) st) : xk_Go K D nL k n w lv pc (.int (nI a) :: st) := by
  have h0 : nI a = 0 → a = 0 := fun h => (nI_eq ha (by decide)).mp (h.trans nI_0.symm)
  exact x_if_ne C d ht (fun h => kt (fun q => h (by rw [q]; rfl))) (fun h => kf (h0 h))
theorem x_if_gtN (C : xk_Ok K D cc nL own R0 ty) {a : Nat} (ha : a < 2 ^ 31) {off : Int} {tgt : Nat} (d : decode cc pc = .ok (.ifCond .gt off, 3)) (ht : (pc : Int) + off = (tgt : Int))
    (kt : 0 < a → xk_Go K D nL k n w lv tgt st) (kf : a = 0 → xk_Go K D nL k n w lv (pc + 3) st) : xk_Go K D nL k n w lv pc (.int (nI a) :: st) := by
  have h0 : nI a = 0 → a = 0 := fun h => (nI_eq ha (by decide)).mp (h.trans nI_0.symm)
  exact x_if_gt C d ht (fun h => kt (Nat.pos_of_ne_zero (fun q => by rw [q] at h; exact absurd h (by decide)))) (fun h => kf ((Nat.eq_zero_or_pos a).resolve_right (fun q => h (nI_lt q ha))))
theorem x_if_leN (C : xk_Ok K D cc nL own R0 ty) {a : Nat} (ha : a < 2 ^ 31) {off : Int} {tgt : Nat} (d : decode cc pc = .ok (.ifCond .le off, 3)) (ht : (pc : Int) + off = (tgt : Int))
    (kt : a = 0 → xk_Go K D nL k n w lv tgt st) (kf : 0 < a → xk_Go K D nL k n w lv (pc + 3) st) : xk_Go K D nL k n w lv pc (.int (nI a) :: st) := by
  have h0 : nI a = 0 → a = 0 := fun h => (nI_eq ha (by decide)).mp (h.trans nI_0.symm)
  exact x_if_le C d ht (fun h => kt ((Nat.eq_zero_or_pos a).resolve_right (fun q => nI_nle q ha h))) (fun h => kf (Nat.pos_of_ne_zero (fun q => h (by rw [q]; decide))))
theorem x_if_ltN (C : xk_Ok K D cc nL own R0 ty) {a : Nat} (ha : a < 2 ^ 31) {off : Int} {tgt : Nat} (d : decode cc pc = .ok (.ifCond .lt off, 3)) (ht : (pc : Int) + off = (tgt : Int))
    (kf : xk_Go K D nL k n w lv (pc + 3) st) : xk_Go K D nL k n w lv pc (.int (nI a) :: st) := x_if_lt C d ht (fun h => absurd h (nI_pos ha)) (fun _ => kf)
theorem x_if_geN (C : xk_Ok K D cc nL own R0 ty) {a : Nat} (ha : a < 2 ^ 31) {off : Int} {tgt : Nat} (d : decode cc pc = .ok (.ifCond .ge off, 3)) (ht : (pc : Int) + off = (tgt : Int))
    (kt : xk_Go K D nL k n w lv tgt st) : xk_Go K D nL k n w lv pc (.int (nI a) :: st) := x_if_ge C d ht (fun _ => kt) (fun h => absurd (nI_pos' ha) h)
theorem x_if_ltO (C : xk_Ok K D cc nL own R0 ty) {o : Option Nat} (ho : ∀ v, o = some v → v < 2 ^ 31) {off : Int} {tgt : Nat} (d : decode cc pc = .ok (.ifCond .lt off, 3)) (ht : (pc : Int) + off = (tgt : Int))
    (kt : o = none → xk_Go K D nL k n w lv tgt st) (kf : ∀ v, o = some v → xk_Go K D nL k n w lv (pc + 3) st) : xk_Go K D nL k n w lv pc (.int (xk_oI o) :: st) := by
  cases o with
  | none => exact x_if_lt C d ht (fun _ => kt rfl) (fun h => absurd (by decide) h)
  | some v => exact x_if_ltN C (ho v rfl) d ht (kf v rfl)
theorem x_if_geO (C : xk_Ok K D cc nL own R0 ty) {o : Option Nat} (ho : ∀ v, o = some v → v < 2 ^ 31) {off : Int} {tgt : Nat} (d : decode cc pc = .ok (.ifCond .ge off, 3)) (ht : (pc : Int) + off = (tgt : Int))
    (kt : ∀ v, o = some v → xk_Go K D nL k n w lv tgt st) (kf : o = none → xk_Go K D nL k n w lv (pc + 3) st) : xk_Go K D nL k n w lv pc (.int (xk_oI o) :: st) := by
  cases o with
  | none => exact x_if_ge C d ht (fun h => absurd h (by decide)) (fun _ => kf rfl)
  | some v => exact x_if_geN C (ho v rfl) d ht (kt v rfl)
theorem x_if_eqB (C : xk_Ok K D cc nL own R0 ty) {b : Bool} {off : Int} {tgt : Nat} (d : decode cc pc = .ok (.ifCond .eq off, 3)) (ht : (pc : Int) + off = (tgt : Int))
    (kt : b = false → xk_Go K D nL k n w lv tgt st) (kf : b = true → xk_Go K D nL k n w lv (pc + 3) st) : xk_Go K D nL k n w lv pc (.int (xk_bZ b) :: st) := by
  cases b with
  | false => exact x_if_eq C d ht (fun _ => kt rfl) (fun h => absurd (by decide) h)
  | true => exact x_if_eq C d ht (fun h => absurd h (by decide)) (fun _ => kf rfl)
theorem x_if_neB (C : xk_Ok K D cc nL own R0 ty) {b : Bool} {off : Int} {tgt : Nat} (d : decode cc pc = .ok (.ifCond .ne off, 3)) (ht : (pc : Int) + off = (tgt : Int))
    (kt : b = true → xk_Go K D nL k n w lv tgt st) (kf : b = false → xk_Go K D nL k n w lv (pc + 3) st) : xk_Go K D nL k n w lv pc (.int (xk_bZ b) :: st) := by
  cases b with
  | false => exact x_if_ne C d ht (fun h => absurd (by decide) h) (fun _ => kf rfl)
  | true => exact x_if_ne C d ht (fun _ => kt rfl) (fun h => absurd h (by decide))
theorem x_if_eqC (C : xk_Ok K D cc nL own R0 ty) {x y : Int64} {off : Int} {tgt : Nat} (d : decode cc pc = .ok (.ifCond .eq off, 3)) (ht : (pc : Int) + off = (tgt : Int))
    (kt : x = y → xk_Go K D nL k n w lv tgt st) (kf : ¬ x = y → xk_Go K D nL k n w lv (pc + 3) st) : xk_Go K D nL k n w lv pc (.int (lg_cmp x y) :: st) :=
  x_if_eq C d ht (fun h => kt ((xk_cmp_eq x y).mp h)) (fun h => kf (fun q => h ((xk_cmp_eq x y).mpr q)))
theorem x_if_neC (C : xk_Ok K D cc nL own R0 ty) {x y : Int64} {off : Int} {tgt : Nat} (d : decode cc pc = .ok (.ifCond .ne off, 3)) (ht : (pc : Int) + off = (tgt : Int))
    (kt : ¬ x = y → xk_Go K D nL k n w lv tgt st) (kf : x = y → xk_Go K D nL k n w lv (pc + 3) st) : xk_Go K D nL k n w lv pc (.int (lg_cmp x y) :: st) :=
  x_if_ne C d ht (fun h => kt (fun q => h ((xk_cmp_eq x y).mpr q))) (fun h => kf ((xk_cmp_eq x y).mp h))
theorem x_if_ltC (C : xk_Ok K D cc nL own R0 ty) {x y : Int64} {off : Int} {tgt : Nat} (d : decode cc pc = .ok (.ifCond .lt off, 3)) (ht : (pc : Int) + off = (tgt : Int))
    (kt : x < y → xk_Go K D nL k n w lv tgt st) (kf : ¬ x < y → xk_Go K D nL k n w lv (pc + 3) st) : xk_Go K D nL k n w lv pc (.int (lg_cmp x y) :: st) :=
  x_if_lt C d ht (fun h => kt ((xk_cmp_lt x y).mp h)) (fun h => kf (fun q => h ((xk_cmp_lt x y).mpr q)))
theorem x_if_geC (C : xk_Ok K D cc nL own R0 ty) {x y : Int64} {off : Int} {tgt : Nat} (d : decode cc pc = .ok (.ifCond .ge off, 3)) (ht : (pc : Int) + off = (tgt : Int))
    (kt : y ≤ x → xk_Go K D nL k n w lv tgt st) (kf : ¬ y ≤ x → xk_Go K D nL k n w lv (pc + 3) st) : xk_Go K D nL k n w lv pc (.int (lg_cmp x y) :: st) :=
  x_if_ge C d ht (fun h => kt ((xk_cmp_ge x y).mp h)) (fun h => kf (fun q => h ((xk_cmp_ge x y).mpr q)))
theorem x_if_gtC (C : xk_Ok K D cc nL own R0 ty) {x y : Int64} {off : Int} {tgt : Nat} (d : decode cc pc = .ok (.ifCond .gt off, 3)) (ht : (pc : Int) + off = (tgt : Int))
    (kt : y < x → xk_Go K D nL k n w lv tgt st) (kf : ¬ y < x → xk_Go K D nL k n w lv (pc + 3) st) : xk_Go K D nL k n w lv pc (.int (lg_cmp x y) :: st) :=
  x_if_gt C d ht (fun h => kt ((xk_cmp_gt x y).mp h)) (fun h => kf (fun q => h ((xk_cmp_gt x y).mpr q)))
theorem x_if_leC (C : xk_Ok K D cc nL own R0 ty) {x y : Int64} {off : Int} {tgt : Nat} (d : decode cc pc = .ok (.ifCond .le off, 3)) (ht : (pc : Int) + off = (tgt : Int))
    (kt : x ≤ y → xk_Go K D nL k n w lv tgt st) (kf : ¬ x ≤ y → xk_Go K D nL k n w lv (pc + 3) st) : xk_Go K D nL k n w lv pc (.int (lg_cmp x y) :: st) :=
  x_if_le C d ht (fun h => kt ((xk_cmp_le x y).mp h)) (fun h => kf (fun q => h ((xk_cmp_le x y).mpr q)))
end XK6
/-! WALKING ROWS 5: switches, Math.max, arraycopy. -/
theorem xk_sb_and (v : Nat) : xk_sb v &&& nI 255 = nI (v % 256) := by
  have h1 : xk_sb v &&& nI 255 = nI v &&& 255 := by
    unfold xk_sb
    exact bp_b (nI v)
  rw [h1, pk_and (nI v) 8 (by decide)]
  have h2 : (nI v).toBitVec.toNat = v % 2 ^ 32 := by
    unfold nI
    rw [Int32.toBitVec_ofNat', BitVec.toNat_ofNat]
  rw [h2]
  congr 1
  omega
def xk_Mx (own : String) (idx : Nat) : Prop := Cond.methodLink own idx Lib.Math.max.name ∈ xk_gt ∧ Cond.static Lib.Math.max.name ∈ xk_gt ∧ Cond.initialized "java/lang/Math" ∈ xk_gt ∧ Cond.code Lib.Math.max.name Lib.Math.max.code 2 (some .int) ∈ xk_gt
def xk_Cp (own : String) (idx : Nat) : Prop := Cond.methodLink own idx arraycopyName ∈ xk_gt ∧ Cond.native arraycopyName ∈ xk_gt ∧ Cond.static arraycopyName ∈ xk_gt ∧ Cond.initialized "java/lang/System" ∈ xk_gt
theorem xk_nA_cpy (f g : Nat → Nat) (i j m : Nat) : va_cpy (xk_nA f) (xk_nA g) i j m = xk_nA (va_cpy f g i j m) := by
  funext q
  exact (apply_ite nI _ _ _).symm
theorem xk_bA_cpy (f g : Nat → Nat) (i j m : Nat) : va_cpy (xk_bA f) (xk_bA g) i j m = xk_bA (va_cpy f g i j m) := by
  funext q
  exact (apply_ite xk_sb _ _ _).symm
section XK7
variable {K : xk_T} {D : va_G} {cc : ByteArray} {nL k n : Nat} {own : String} {R0 : Room} {ty : List (ClassId × FieldType)} {w : va_W} {lv : List (Nat × Value)} {pc : Nat} {st : List Value}
theorem x_tblIn (C : xk_Ok K D cc nL own R0 ty) {dflt lo hi off : Int} {offs : Array Int} {len : Nat} {x : Int32} (tgt : Nat) (d : decode cc pc = .ok (.tableswitch dflt lo hi offs, len)) (h1 : ¬ x.toInt < lo) (h2 : ¬ hi < x.toInt) (ho : offs[(x.toInt - lo).toNat]? = some off) (ht : (pc : Int) + off = (tgt : Int))
    (kk : xk_Go K D nL k n w lv tgt st) : xk_Go K D nL k n w lv pc (.int x :: st) := by
  obtain ⟨p, l, e, R, s, m, args, below, meth, c, Q, A⟩ := K
  obtain ⟨hx, hb, -⟩ := C
  intro H locs ls hP hD hS hl
  exact lv_tableIn hx hb d h1 h2 ho ht (kk H locs ls hP hD hS hl)
theorem x_tblOut (C : xk_Ok K D cc nL own R0 ty) {dflt lo hi : Int} {offs : Array Int} {len : Nat} {x : Int32} (tgt : Nat) (d : decode cc pc = .ok (.tableswitch dflt lo hi offs, len)) (h : x.toInt < lo ∨ hi < x.toInt) (ht : (pc : Int) + dflt = (tgt : Int))
    (kk : xk_Go K D nL k n w lv tgt st) : xk_Go K D nL k n w lv pc (.int x :: st) := by
  obtain ⟨p, l, e, R, s, m, args, below, meth, c, Q, A⟩ := K
  obtain ⟨hx, hb, -⟩ := C
  intro H locs ls hP hD hS hl
  exact lv_tableOut hx hb d h ht (kk H locs ls hP hD hS hl)
theorem x_max (C : xk_Ok K D cc nL own R0 ty) {idx : Nat} (hk : xk_Mx own idx) {a b : Nat} (ha : a < 2 ^ 31) (hb0 : b < 2 ^ 31) (hframes : 1 ≤ R0.frames) (hlocals : (st.map fun v => v.category).sum + 13 ≤ R0.locals) (hc : k ≤ R0.cells) (hs : n ≤ R0.slots) (d : decode cc pc = .ok (.invokestatic idx, 3))
    (kk : xk_Go K D nL k n w lv (pc + 3) (.int (nI (max a b)) :: st)) : xk_Go K D nL k n w lv pc (.int (nI b) :: .int (nI a) :: st) := by
  obtain ⟨p, l, e, R, s, m, args, below, meth, c, Q, A⟩ := K
  obtain ⟨hx, hb, hml, hown, hts, hK, hA, hR0⟩ := C
  obtain ⟨k1, k2, k3, k4⟩ := hk
  subst hR0
  intro H locs ls hP hD hS hl
  refine va_mmax hx hb (hml.trans hl.1.symm) hown (hts _ k1) (hts _ k2) (hts _ k3) (hts _ k4) hframes hlocals hc hs d ?_
  have h : (if nI a < nI b then nI b else nI a) = nI (max a b) := by
    by_cases h1 : a < b
    · rw [if_pos ((nI_ltI ha hb0).mpr h1), Nat.max_eq_right (Nat.le_of_lt h1)]
    · rw [if_neg (fun q => h1 ((nI_ltI ha hb0).mp q)), Nat.max_eq_left (Nat.not_lt.mp h1)]
  rw [h]
  exact kk H locs ls hP hD hS hl
theorem x_copyN (C : xk_Ok K D cc nL own R0 ty) {idx : Nat} (hk : xk_Cp own idx) (q0 q1 t0 t1 : Nat) (w' : va_W) {a0 a n0 n1 : Nat} {c0 c1 : ClassId} {f g : Nat → Nat} {sp dp m0 : Nat} (ha0 : w[q0]? = some (a0, .inl (c0, n0, .inl (xk_nA f)))) (ha1 : w[q1]? = some (a, .inl (c1, n1, .inl (xk_nA g)))) (ht0 : ty[t0]? = some (c0, .int)) (ht1 : ty[t1]? = some (c1, .int))
    (hw : w.set q1 (a, .inl (c1, n1, .inl (xk_nA (va_cpy f g sp dp m0)))) = w') (h4 : sp + m0 ≤ n0) (h5 : dp + m0 ≤ n1) (hn0 : n0 < 2 ^ 31) (hn1 : n1 < 2 ^ 31) (hframes : 1 ≤ R0.frames) (hlocals : (st.map fun v => v.category).sum + (nativeFrameWords "java/lang/System" "arraycopy" 5 + 11) ≤ R0.locals) (d : decode cc pc = .ok (.invokestatic idx, 3))
    (kk : xk_Go K D nL k n w' lv (pc + 3) st) : xk_Go K D nL k n w lv pc (.int (nI m0) :: .int (nI dp) :: .ref a :: .int (nI sp) :: .ref a0 :: st) := by
  obtain ⟨p, l, e, R, s, m, args, below, meth, c, Q, A⟩ := K
  obtain ⟨hx, hb, hml, hown, hts, hK, hA, hR0⟩ := C
  obtain ⟨k1, k2, k3, k4⟩ := hk
  subst hR0
  subst hw
  intro H locs ls hP hD hS hl
  refine va_copyi hx hb (hml.trans hl.1.symm) hown (hts _ k1) (hts _ k2) (hts _ k3) (hts _ k4) hK hP hD hS q0 q1 t0 t1 ha0 ha1 ht0 ht1 rfl (nI_pos (by omega)) (nI_pos (by omega)) (nI_pos (by omega)) (by rw [nI_clamp (by omega), nI_clamp (by omega)]; exact h4) (by rw [nI_clamp (by omega), nI_clamp (by omega)]; exact h5) (fun i _ => rfl) hframes hlocals d (fun H1 locs1 hP hD hS => ?_)
  rw [nI_clamp (by omega), nI_clamp (by omega), nI_clamp (by omega), xk_nA_cpy] at hP hD
  exact kk H1 locs1 ls hP hD hS hl
theorem x_copyL (C : xk_Ok K D cc nL own R0 ty) {idx : Nat} (hk : xk_Cp own idx) (q0 q1 t0 t1 : Nat) (w' : va_W) {a0 a n0 n1 : Nat} {c0 c1 : ClassId} {f g : Nat → Int64} {sp dp m0 : Nat} (ha0 : w[q0]? = some (a0, .inl (c0, n0, .inr (.inl f)))) (ha1 : w[q1]? = some (a, .inl (c1, n1, .inr (.inl g)))) (ht0 : ty[t0]? = some (c0, .long)) (ht1 : ty[t1]? = some (c1, .long))
    (hw : w.set q1 (a, .inl (c1, n1, .inr (.inl (va_cpy f g sp dp m0)))) = w') (h4 : sp + m0 ≤ n0) (h5 : dp + m0 ≤ n1) (hn0 : n0 < 2 ^ 31) (hn1 : n1 < 2 ^ 31) (hframes : 1 ≤ R0.frames) (hlocals : (st.map fun v => v.category).sum + (nativeFrameWords "java/lang/System" "arraycopy" 5 + 11) ≤ R0.locals) (d : decode cc pc = .ok (.invokestatic idx, 3))
    (kk : xk_Go K D nL k n w' lv (pc + 3) st) : xk_Go K D nL k n w lv pc (.int (nI m0) :: .int (nI dp) :: .ref a :: .int (nI sp) :: .ref a0 :: st) := by
  obtain ⟨p, l, e, R, s, m, args, below, meth, c, Q, A⟩ := K
  obtain ⟨hx, hb, hml, hown, hts, hK, hA, hR0⟩ := C
  obtain ⟨k1, k2, k3, k4⟩ := hk
  subst hR0
  subst hw
  intro H locs ls hP hD hS hl
  refine va_copyl hx hb (hml.trans hl.1.symm) hown (hts _ k1) (hts _ k2) (hts _ k3) (hts _ k4) hK hP hD hS q0 q1 t0 t1 ha0 ha1 ht0 ht1 rfl (nI_pos (by omega)) (nI_pos (by omega)) (nI_pos (by omega)) (by rw [nI_clamp (by omega), nI_clamp (by omega)]; exact h4) (by rw [nI_clamp (by omega), nI_clamp (by omega)]; exact h5) (fun i _ => rfl) hframes hlocals d (fun H1 locs1 hP hD hS => ?_)
  rw [nI_clamp (by omega), nI_clamp (by omega), nI_clamp (by omega)] at hP hD
  exact kk H1 locs1 ls hP hD hS hl
theorem x_copyB (C : xk_Ok K D cc nL own R0 ty) {idx : Nat} (hk : xk_Cp own idx) (q0 q1 t0 t1 : Nat) (w' : va_W) {a0 a n0 n1 : Nat} {c0 c1 : ClassId} {f g : Nat → Nat} {sp dp m0 : Nat} (ha0 : w[q0]? = some (a0, .inl (c0, n0, .inl (xk_bA f)))) (ha1 : w[q1]? = some (a, .inl (c1, n1, .inl (xk_bA g)))) (ht0 : ty[t0]? = some (c0, .byte)) (ht1 : ty[t1]? = some (c1, .byte))
    (hw : w.set q1 (a, .inl (c1, n1, .inl (xk_bA (va_cpy f g sp dp m0)))) = w') (h4 : sp + m0 ≤ n0) (h5 : dp + m0 ≤ n1) (hn0 : n0 < 2 ^ 31) (hn1 : n1 < 2 ^ 31) (hframes : 1 ≤ R0.frames) (hlocals : (st.map fun v => v.category).sum + (nativeFrameWords "java/lang/System" "arraycopy" 5 + 11) ≤ R0.locals) (d : decode cc pc = .ok (.invokestatic idx, 3))
    (kk : xk_Go K D nL k n w' lv (pc + 3) st) : xk_Go K D nL k n w lv pc (.int (nI m0) :: .int (nI dp) :: .ref a :: .int (nI sp) :: .ref a0 :: st) := by
  obtain ⟨p, l, e, R, s, m, args, below, meth, c, Q, A⟩ := K
  obtain ⟨hx, hb, hml, hown, hts, hK, hA, hR0⟩ := C
  obtain ⟨k1, k2, k3, k4⟩ := hk
  subst hR0
  subst hw
  intro H locs ls hP hD hS hl
  refine va_copyi hx hb (hml.trans hl.1.symm) hown (hts _ k1) (hts _ k2) (hts _ k3) (hts _ k4) hK hP hD hS q0 q1 t0 t1 ha0 ha1 ht0 ht1 rfl (nI_pos (by omega)) (nI_pos (by omega)) (nI_pos (by omega)) (by rw [nI_clamp (by omega), nI_clamp (by omega)]; exact h4) (by rw [nI_clamp (by omega), nI_clamp (by omega)]; exact h5) (fun i _ => pk_fb _) hframes hlocals d (fun H1 locs1 hP hD hS => ?_)
  rw [nI_clamp (by omega), nI_clamp (by omega), nI_clamp (by omega), xk_bA_cpy] at hP hD
  exact kk H1 locs1 ls hP hD hS hl
end XK7
end
section
/-! PURE 1: terms as lists of nodes in their order (a node: kind, number, bytes); wf n L: L is n terms, one behind the other. -/
abbrev tc_Nd : Type := Nat × Int64 × List Nat
def tc_tk (k : Nat) : Nat := if k = 2 then 2 else if k = 1 ∨ k = 3 ∨ k = 4 then 1 else 0
theorem tc_tk_le (k : Nat) : tc_tk k ≤ 2 := by
  unfold tc_tk
  split
  · exact Nat.le_refl _
  · split <;> omega
def tc_wf : Nat → List tc_Nd → Prop
  | n, [] => n = 0
  | n, x :: R => 0 < n ∧ tc_wf (n - 1 + tc_tk x.1) R
theorem tc_wf_nil {n : Nat} : tc_wf n [] ↔ n = 0 := Iff.rfl
theorem tc_wf_cons {n : Nat} {x : tc_Nd} {R : List tc_Nd} : tc_wf n (x :: R) ↔ 0 < n ∧ tc_wf (n - 1 + tc_tk x.1) R := Iff.rfl
theorem tc_wf_app : ∀ {A B : List tc_Nd} {a b : Nat}, tc_wf a A → tc_wf b B → tc_wf (a + b) (A ++ B)
  | [], B, a, b, hA, hB => by
    have : a = 0 := hA
    subst this
    rw [Nat.zero_add, List.nil_append]; exact hB
  | x :: A, B, a, b, hA, hB => by
    obtain ⟨h0, h1⟩ := hA
    have h2 := tc_wf_app h1 hB
    refine ⟨by omega, ?_⟩
    rw [show a + b - 1 + tc_tk x.1 = a - 1 + tc_tk x.1 + b by omega]
    exact h2
theorem tc_wf_split : ∀ {L : List tc_Nd} {a b : Nat}, tc_wf (a + b) L → ∃ A B, L = A ++ B ∧ tc_wf a A ∧ tc_wf b B
  | [], a, b, h => by
    have h : a + b = 0 := h
    exact ⟨[], [], rfl, (by omega : a = 0), (by omega : b = 0)⟩
  | x :: R, a, b, h => by
    by_cases ha : a = 0
    · subst ha
      exact ⟨[], x :: R, rfl, rfl, by rw [Nat.zero_add] at h; exact h⟩
    · obtain ⟨h0, h1⟩ := h
      rw [show a + b - 1 + tc_tk x.1 = (a - 1 + tc_tk x.1) + b by omega] at h1
      obtain ⟨A, B, hR, hA, hB⟩ := tc_wf_split h1
      exact ⟨x :: A, B, by rw [hR]; rfl, ⟨by omega, hA⟩, hB⟩
/-- a fold from the right with a stack: f gets a node and what its parts gave -/
def tc_ev {α : Type} (f : tc_Nd → List α → α) : List tc_Nd → List α
  | [] => []
  | x :: R => f x ((tc_ev f R).take (tc_tk x.1)) :: (tc_ev f R).drop (tc_tk x.1)
theorem tc_ev_len {α : Type} (f : tc_Nd → List α → α) : ∀ {L : List tc_Nd} {n : Nat}, tc_wf n L → (tc_ev f L).length = n
  | [], n, h => by
    have h : n = 0 := h
    rw [h]; rfl
  | x :: R, n, h => by
    obtain ⟨h0, h1⟩ := h
    have h2 := tc_ev_len f h1
    show ((tc_ev f R).drop (tc_tk x.1)).length + 1 = n
    rw [List.length_drop, h2]
    omega
theorem tc_ev_app {α : Type} (f : tc_Nd → List α → α) : ∀ {A : List tc_Nd} {n : Nat} (B : List tc_Nd), tc_wf n A → tc_ev f (A ++ B) = tc_ev f A ++ tc_ev f B
  | [], n, B, h => rfl
  | x :: R, n, B, h => by
    obtain ⟨h0, h1⟩ := h
    have h2 := tc_ev_app f B h1
    have h3 := tc_ev_len f h1
    show f x ((tc_ev f (R ++ B)).take (tc_tk x.1)) :: (tc_ev f (R ++ B)).drop (tc_tk x.1) = (f x ((tc_ev f R).take (tc_tk x.1)) :: (tc_ev f R).drop (tc_tk x.1)) ++ tc_ev f B
    rw [h2, List.take_append_of_le_length (by omega), List.drop_append_of_le_length (by omega)]
    rfl
/-- the value of one term -/
def tc_tv {α : Type} (f : tc_Nd → List α → α) (d : α) (L : List tc_Nd) : α := (tc_ev f L).headD d
theorem tc_ev_one {α : Type} (f : tc_Nd → List α → α) (d : α) {L : List tc_Nd} (h : tc_wf 1 L) : tc_ev f L = [tc_tv f d L] := by
  have h1 := tc_ev_len f h
  unfold tc_tv
  match hL : tc_ev f L, h1 with
  | [a], _ => rfl
/-- a term's parts -/
theorem tc_parts {x : tc_Nd} {R : List tc_Nd} (h : tc_wf 1 (x :: R)) : tc_wf (tc_tk x.1) R := by
  have := h.2
  rwa [show 1 - 1 + tc_tk x.1 = tc_tk x.1 by omega] at this
theorem tc_tv_0 {α : Type} (f : tc_Nd → List α → α) (d : α) {x : tc_Nd} (hx : tc_tk x.1 = 0) (R : List tc_Nd) : tc_tv f d (x :: R) = f x [] := by
  show f x ((tc_ev f R).take (tc_tk x.1)) = _
  rw [hx, List.take_zero]
theorem tc_tv_1 {α : Type} (f : tc_Nd → List α → α) (d : α) {x : tc_Nd} (hx : tc_tk x.1 = 1) {A : List tc_Nd} (hA : tc_wf 1 A) : tc_tv f d (x :: A) = f x [tc_tv f d A] := by
  show f x ((tc_ev f A).take (tc_tk x.1)) = _
  rw [hx, tc_ev_one f d hA]
  rfl
theorem tc_tv_2 {α : Type} (f : tc_Nd → List α → α) (d : α) {x : tc_Nd} (hx : tc_tk x.1 = 2) {A B : List tc_Nd} (hA : tc_wf 1 A) (hB : tc_wf 1 B) : tc_tv f d (x :: (A ++ B)) = f x [tc_tv f d A, tc_tv f d B] := by
  show f x ((tc_ev f (A ++ B)).take (tc_tk x.1)) = _
  rw [hx, tc_ev_app f B hA, tc_ev_one f d hA, tc_ev_one f d hB]
  rfl
/-- the first of some terms, apart from the rest -/
theorem tc_first {L : List tc_Nd} {n : Nat} (h : tc_wf n L) (hn : 0 < n) : ∃ A B, L = A ++ B ∧ tc_wf 1 A ∧ tc_wf (n - 1) B := by
  rw [show n = 1 + (n - 1) by omega] at h
  exact tc_wf_split h
theorem tc_ind {P : List tc_Nd → Prop} (h0 : ∀ x, tc_tk x.1 = 0 → P [x]) (h1 : ∀ x A, tc_tk x.1 = 1 → tc_wf 1 A → P A → P (x :: A))
    (h2 : ∀ x A B, tc_tk x.1 = 2 → tc_wf 1 A → tc_wf 1 B → P A → P B → P (x :: (A ++ B))) : ∀ (n : Nat) (L : List tc_Nd), L.length ≤ n → tc_wf 1 L → P L
  | 0, [], _, h => absurd h (by intro h; cases h)
  | 0, x :: R, hl, _ => absurd hl (by simp)
  | n + 1, [], _, h => absurd h (by intro h; cases h)
  | n + 1, x :: R, hl, h => by
    have hp := tc_parts h
    have hl' : R.length ≤ n := by simpa using hl
    rcases (show tc_tk x.1 = 0 ∨ tc_tk x.1 = 1 ∨ tc_tk x.1 = 2 by have := tc_tk_le x.1; omega) with q | q | q
    · rw [q] at hp
      match R, hp with
      | [], _ => exact h0 x q
      | y :: R', hp => exact absurd hp.1 (by omega)
    · rw [q] at hp
      exact h1 x R q hp (tc_ind h0 h1 h2 n R hl' hp)
    · rw [q] at hp
      obtain ⟨A, B, rfl, hA, hB⟩ := tc_wf_split (a := 1) (b := 1) hp
      rw [List.length_append] at hl'
      exact h2 x A B q hA hB (tc_ind h0 h1 h2 n A (by omega) hA) (tc_ind h0 h1 h2 n B (by omega) hB)
theorem tc_induct {P : List tc_Nd → Prop} {L : List tc_Nd} (h : tc_wf 1 L) (h0 : ∀ x, tc_tk x.1 = 0 → P [x]) (h1 : ∀ x A, tc_tk x.1 = 1 → tc_wf 1 A → P A → P (x :: A))
    (h2 : ∀ x A B, tc_tk x.1 = 2 → tc_wf 1 A → tc_wf 1 B → P A → P B → P (x :: (A ++ B))) : P L := tc_ind h0 h1 h2 L.length L (Nat.le_refl _) h
-- size, depth, what it lacks
def tc_fs (_ : tc_Nd) (vs : List Nat) : Nat := 1 + vs.sum
def tc_fd (_ : tc_Nd) (vs : List Nat) : Nat := 1 + vs.foldr max 0
def tc_fl (x : tc_Nd) (vs : List Nat) : Nat := if x.1 = 0 then x.2.1.toInt.toNat else if x.1 = 1 then vs.foldr max 0 - 1 else vs.foldr max 0
def tc_sz (L : List tc_Nd) : Nat := tc_tv tc_fs 0 L
def tc_dp (L : List tc_Nd) : Nat := tc_tv tc_fd 0 L
def tc_lk (L : List tc_Nd) : Nat := tc_tv tc_fl 0 L
theorem tc_sz_len {L : List tc_Nd} (h : tc_wf 1 L) : tc_sz L = L.length := by
  refine tc_induct (P := fun L => tc_sz L = L.length) h ?_ ?_ ?_
  · intro x hx
    rw [tc_sz, tc_tv_0 _ _ hx]; rfl
  · intro x A hx hA ih
    rw [tc_sz, tc_tv_1 _ _ hx hA]
    show 1 + [tc_sz A].sum = _
    rw [ih]; simp; omega
  · intro x A B hx hA hB ihA ihB
    rw [tc_sz, tc_tv_2 _ _ hx hA hB]
    show 1 + [tc_sz A, tc_sz B].sum = _
    rw [ihA, ihB]; simp; omega
/-- what stands at place k of some terms is a term of its own -/
theorem tc_at : ∀ {L : List tc_Nd} {n : Nat} (k : Nat), tc_wf n L → k < L.length → ∃ A B m, L.drop k = A ++ B ∧ tc_wf 1 A ∧ tc_wf m B
  | [], n, k, h, hk => absurd hk (by simp)
  | x :: R, n, 0, h, hk => by
    obtain ⟨A, B, e, hA, hB⟩ := tc_first h h.1
    exact ⟨A, B, n - 1, e, hA, hB⟩
  | x :: R, n, k + 1, h, hk => by
    obtain ⟨A, B, m, e, hA, hB⟩ := tc_at k h.2 (by simpa using hk)
    exact ⟨A, B, m, e, hA, hB⟩
theorem tc_wf_drop : ∀ {L : List tc_Nd} {n : Nat} (k : Nat), tc_wf n L → ∃ m, tc_wf m (L.drop k)
  | L, n, 0, h => ⟨n, h⟩
  | [], n, k + 1, h => ⟨n, h⟩
  | x :: R, n, k + 1, h => tc_wf_drop k h.2
/-! PURE 2: open places (of which node, level, lambdas around), and what every node gets of them. -/
abbrev tc_Q : Type := Option Nat × Nat × Nat
def tc_kid (i : Nat) (x : tc_Nd) (q : tc_Q) : List tc_Q := List.replicate (tc_tk x.1) (some i, q.2.1 + 1, q.2.2 + if x.1 = 1 then 1 else 0)
def tc_fw : Nat → List tc_Q → List tc_Nd → List tc_Q
  | _, _, [] => []
  | _, [], _ :: _ => []
  | i, q :: st, x :: R => q :: tc_fw (i + 1) (tc_kid i x q ++ st) R
def tc_pd : Nat → List tc_Q → List tc_Nd → List tc_Q
  | _, st, [] => st
  | _, [], _ :: _ => []
  | i, q :: st, x :: R => tc_pd (i + 1) (tc_kid i x q ++ st) R
theorem tc_fw_nil (i : Nat) (st : List tc_Q) : tc_fw i st [] = [] := by cases st <;> rfl
theorem tc_fw_no (i : Nat) (L : List tc_Nd) : tc_fw i [] L = [] := by cases L <;> rfl
theorem tc_fw_cons (i : Nat) (q : tc_Q) (st : List tc_Q) (x : tc_Nd) (R : List tc_Nd) : tc_fw i (q :: st) (x :: R) = q :: tc_fw (i + 1) (tc_kid i x q ++ st) R := rfl
theorem tc_pd_nil (i : Nat) (st : List tc_Q) : tc_pd i st [] = st := by cases st <;> rfl
theorem tc_pd_no (i : Nat) (L : List tc_Nd) : tc_pd i [] L = [] := by cases L <;> rfl
theorem tc_pd_cons (i : Nat) (q : tc_Q) (st : List tc_Q) (x : tc_Nd) (R : List tc_Nd) : tc_pd i (q :: st) (x :: R) = tc_pd (i + 1) (tc_kid i x q ++ st) R := rfl
theorem tc_kid_len (i : Nat) (x : tc_Nd) (q : tc_Q) : (tc_kid i x q).length = tc_tk x.1 := List.length_replicate
theorem tc_fw_app : ∀ (A B : List tc_Nd) (i : Nat) (st : List tc_Q), tc_fw i st (A ++ B) = tc_fw i st A ++ tc_fw (i + A.length) (tc_pd i st A) B
  | [], B, i, st => by rw [List.nil_append, tc_fw_nil, tc_pd_nil, List.nil_append]; rfl
  | x :: A, B, i, [] => by rw [tc_fw_no, tc_fw_no, tc_pd_no, tc_fw_no]; rfl
  | x :: A, B, i, q :: st => by
    rw [List.cons_append, tc_fw_cons, tc_fw_cons, tc_pd_cons, tc_fw_app A B, List.cons_append, List.length_cons]
    rw [show i + 1 + A.length = i + (A.length + 1) by omega]
theorem tc_pd_app : ∀ (A B : List tc_Nd) (i : Nat) (st : List tc_Q), tc_pd i st (A ++ B) = tc_pd (i + A.length) (tc_pd i st A) B
  | [], B, i, st => by rw [List.nil_append, tc_pd_nil]; rfl
  | x :: A, B, i, [] => by rw [tc_pd_no, tc_pd_no, tc_pd_no]
  | x :: A, B, i, q :: st => by
    rw [List.cons_append, tc_pd_cons, tc_pd_cons, tc_pd_app A B, List.length_cons]
    rw [show i + 1 + A.length = i + (A.length + 1) by omega]
/-- n terms use up the n first open places, and look at no other -/
theorem tc_pd_wf : ∀ {A : List tc_Nd} {n : Nat} (i : Nat) (s1 s2 : List tc_Q), tc_wf n A → s1.length = n → tc_pd i (s1 ++ s2) A = s2 ∧ tc_fw i (s1 ++ s2) A = tc_fw i s1 A
  | [], n, i, s1, s2, h, hl => by
    have h : n = 0 := h
    subst h
    rw [List.eq_nil_of_length_eq_zero hl, List.nil_append]
    exact ⟨tc_pd_nil i s2, by rw [tc_fw_nil, tc_fw_nil]⟩
  | x :: A, n, i, [], s2, h, hl => by
    have := h.1
    simp at hl
    omega
  | x :: A, n, i, q :: s1, s2, h, hl => by
    have h1 := tc_pd_wf (i + 1) (tc_kid i x q ++ s1) s2 h.2 (by rw [List.length_append, tc_kid_len]; simp at hl; omega)
    rw [List.cons_append, tc_pd_cons, tc_fw_cons, tc_fw_cons, ← List.append_assoc]
    exact ⟨h1.1, by rw [h1.2]⟩
theorem tc_fw_len : ∀ {A : List tc_Nd} {n : Nat} (i : Nat) (st : List tc_Q), tc_wf n A → st.length = n → (tc_fw i st A).length = A.length
  | [], n, i, st, h, hl => by rw [tc_fw_nil]; rfl
  | x :: A, n, i, [], h, hl => by
    have := h.1
    simp at hl
    omega
  | x :: A, n, i, q :: st, h, hl => by
    rw [tc_fw_cons, List.length_cons, List.length_cons, tc_fw_len (i + 1) (tc_kid i x q ++ st) h.2 (by rw [List.length_append, tc_kid_len]; simp at hl; omega)]
theorem tc_fw_2 {A B : List tc_Nd} {a : Nat} (i : Nat) (s1 s2 : List tc_Q) (hA : tc_wf a A) (h1 : s1.length = a) : tc_fw i (s1 ++ s2) (A ++ B) = tc_fw i s1 A ++ tc_fw (i + A.length) s2 B := by
  obtain ⟨e1, e2⟩ := tc_pd_wf i s1 s2 hA h1
  rw [tc_fw_app, e1, e2]
/-- a term of parts -/
theorem tc_fw_t1 {x : tc_Nd} {A : List tc_Nd} (hx : tc_tk x.1 = 1) (i : Nat) (q : tc_Q) : tc_fw i [q] (x :: A) = q :: tc_fw (i + 1) [(some i, q.2.1 + 1, q.2.2 + if x.1 = 1 then 1 else 0)] A := by
  rw [tc_fw_cons]
  unfold tc_kid
  rw [hx]
  rfl
theorem tc_fw_t2 {x : tc_Nd} {A B : List tc_Nd} (hx : tc_tk x.1 = 2) (hA : tc_wf 1 A) (i : Nat) (q : tc_Q) :
    tc_fw i [q] (x :: (A ++ B)) = q :: (tc_fw (i + 1) [(some i, q.2.1 + 1, q.2.2 + if x.1 = 1 then 1 else 0)] A ++ tc_fw (i + 1 + A.length) [(some i, q.2.1 + 1, q.2.2 + if x.1 = 1 then 1 else 0)] B) := by
  rw [tc_fw_cons]
  unfold tc_kid
  rw [hx]
  exact congrArg _ (tc_fw_2 (i + 1) [_] [_] hA rfl)
/-- levels never fall below those that stand open -/
theorem tc_fw_lev : ∀ (L : List tc_Nd) (i l : Nat) (st : List tc_Q), (∀ q ∈ st, l ≤ q.2.1) → ∀ q ∈ tc_fw i st L, l ≤ q.2.1
  | [], i, l, st, _, q, hq => by rw [tc_fw_nil] at hq; cases hq
  | x :: R, i, l, [], _, q, hq => by rw [tc_fw_no] at hq; cases hq
  | x :: R, i, l, q0 :: st, h, q, hq => by
    rw [tc_fw_cons] at hq
    rcases List.mem_cons.mp hq with rfl | hq
    · exact h _ List.mem_cons_self
    · refine tc_fw_lev R (i + 1) l _ (fun z hz => ?_) q hq
      rcases List.mem_append.mp hz with hz | hz
      · have := (List.mem_replicate.mp hz).2
        rw [this]
        exact Nat.le_succ_of_le (h _ List.mem_cons_self)
      · exact h z (List.mem_cons_of_mem _ hz)
theorem tc_fw_lc : ∀ (L : List tc_Nd) (i l : Nat) (st : List tc_Q), (∀ q ∈ st, l ≤ q.2.2) → ∀ q ∈ tc_fw i st L, l ≤ q.2.2
  | [], i, l, st, _, q, hq => by rw [tc_fw_nil] at hq; cases hq
  | x :: R, i, l, [], _, q, hq => by rw [tc_fw_no] at hq; cases hq
  | x :: R, i, l, q0 :: st, h, q, hq => by
    rw [tc_fw_cons] at hq
    rcases List.mem_cons.mp hq with rfl | hq
    · exact h _ List.mem_cons_self
    · refine tc_fw_lc R (i + 1) l _ (fun z hz => ?_) q hq
      rcases List.mem_append.mp hz with hz | hz
      · have := (List.mem_replicate.mp hz).2
        rw [this]
        exact Nat.le_trans (h _ List.mem_cons_self) (Nat.le_add_right _ _)
      · exact h z (List.mem_cons_of_mem _ hz)
/-- the greatest level in a term -/
def tc_mx (E : List tc_Q) : Nat := E.foldr (fun q r => max q.2.1 r) 0
theorem tc_mx_app (A B : List tc_Q) : tc_mx (A ++ B) = max (tc_mx A) (tc_mx B) := by
  induction A with
  | nil => exact (Nat.zero_max _).symm
  | cons q A ih =>
    show max q.2.1 (tc_mx (A ++ B)) = max (max q.2.1 (tc_mx A)) (tc_mx B)
    rw [ih, Nat.max_assoc]
theorem tc_dp_pos {L : List tc_Nd} (h : tc_wf 1 L) : 0 < tc_dp L := by
  match L, h with
  | x :: R, h =>
    show 0 < tc_fd x _
    unfold tc_fd
    omega
theorem tc_mx_dp {L : List tc_Nd} (h : tc_wf 1 L) : ∀ (i : Nat) (q : tc_Q), tc_mx (tc_fw i [q] L) = q.2.1 + tc_dp L - 1 := by
  refine tc_induct (P := fun L => ∀ (i : Nat) (q : tc_Q), tc_mx (tc_fw i [q] L) = q.2.1 + tc_dp L - 1) h ?_ ?_ ?_
  · intro x hx i q
    rw [tc_fw_cons, tc_fw_nil, tc_dp, tc_tv_0 _ _ hx]
    show max q.2.1 0 = q.2.1 + (1 + 0) - 1
    omega
  · intro x A hx hA ih i q
    rw [tc_fw_t1 hx, tc_dp, tc_tv_1 _ _ hx hA]
    show max q.2.1 (tc_mx _) = q.2.1 + (1 + max (tc_dp A) 0) - 1
    rw [ih]
    have := tc_dp_pos hA
    show max q.2.1 (q.2.1 + 1 + tc_dp A - 1) = _
    omega
  · intro x A B hx hA hB ihA ihB i q
    rw [tc_fw_t2 hx hA, tc_dp, tc_tv_2 _ _ hx hA hB]
    show max q.2.1 (tc_mx _) = q.2.1 + (1 + max (tc_dp A) (max (tc_dp B) 0)) - 1
    rw [tc_mx_app, ihA, ihB]
    have := tc_dp_pos hA
    have := tc_dp_pos hB
    show max q.2.1 (max (q.2.1 + 1 + tc_dp A - 1) (q.2.1 + 1 + tc_dp B - 1)) = _
    omega
/-- what the variables of a term lack, seen from so many lambdas outside -/
def tc_ml (c : Nat) : List tc_Nd → List tc_Q → Nat
  | x :: L, q :: E => max (if x.1 = 0 then x.2.1.toInt.toNat - (q.2.2 - c) else 0) (tc_ml c L E)
  | _, _ => 0
theorem tc_ml_app (c : Nat) : ∀ (A B : List tc_Nd) (E F : List tc_Q), E.length = A.length → tc_ml c (A ++ B) (E ++ F) = max (tc_ml c A E) (tc_ml c B F)
  | [], B, [], F, _ => (Nat.zero_max _).symm
  | [], B, q :: E, F, h => by simp at h
  | x :: A, B, [], F, h => by simp at h
  | x :: A, B, q :: E, F, h => by
    show max _ (tc_ml c (A ++ B) (E ++ F)) = max (max _ (tc_ml c A E)) (tc_ml c B F)
    rw [tc_ml_app c A B E F (by simpa using h), Nat.max_assoc]
theorem tc_ml_lk {L : List tc_Nd} (h : tc_wf 1 L) : ∀ (i c : Nat) (q : tc_Q), c ≤ q.2.2 → tc_ml c L (tc_fw i [q] L) = tc_lk L - (q.2.2 - c) := by
  refine tc_induct (P := fun L => ∀ (i c : Nat) (q : tc_Q), c ≤ q.2.2 → tc_ml c L (tc_fw i [q] L) = tc_lk L - (q.2.2 - c)) h ?_ ?_ ?_
  · intro x hx i c q hc
    rw [tc_fw_cons, tc_fw_nil, tc_lk, tc_tv_0 _ _ hx]
    show max (if x.1 = 0 then x.2.1.toInt.toNat - (q.2.2 - c) else 0) 0 = tc_fl x [] - (q.2.2 - c)
    unfold tc_fl
    by_cases h0 : x.1 = 0
    · rw [if_pos h0, if_pos h0, Nat.max_zero]
    · rw [if_neg h0, if_neg h0]
      split <;> simp
  · intro x A hx hA ih i c q hc
    rw [tc_fw_t1 hx, tc_lk, tc_tv_1 _ _ hx hA]
    have h0 : ¬ x.1 = 0 := fun q => by rw [q] at hx; exact absurd hx (by decide)
    show max (if x.1 = 0 then x.2.1.toInt.toNat - (q.2.2 - c) else 0) (tc_ml c A _) = tc_fl x [tc_lk A] - (q.2.2 - c)
    rw [if_neg h0, ih (i + 1) c _ (Nat.le_trans hc (Nat.le_add_right _ _))]
    unfold tc_fl
    rw [if_neg h0]
    show max 0 (tc_lk A - (q.2.2 + (if x.1 = 1 then 1 else 0) - c)) = _
    by_cases h1 : x.1 = 1
    · rw [if_pos h1, if_pos h1]
      show _ = max (tc_lk A) 0 - 1 - (q.2.2 - c)
      omega
    · rw [if_neg h1, if_neg h1]
      show _ = max (tc_lk A) 0 - (q.2.2 - c)
      omega
  · intro x A B hx hA hB ihA ihB i c q hc
    rw [tc_fw_t2 hx hA, tc_lk, tc_tv_2 _ _ hx hA hB]
    have h0 : ¬ x.1 = 0 := fun q => by rw [q] at hx; exact absurd hx (by decide)
    have h1 : ¬ x.1 = 1 := fun q => by rw [q] at hx; exact absurd hx (by decide)
    show max (if x.1 = 0 then x.2.1.toInt.toNat - (q.2.2 - c) else 0) (tc_ml c (A ++ B) _) = tc_fl x [tc_lk A, tc_lk B] - (q.2.2 - c)
    rw [if_neg h0, tc_ml_app c A B _ _ (tc_fw_len _ _ hA rfl), ihA (i + 1) c _ (Nat.le_trans hc (Nat.le_add_right _ _)), ihB (i + 1 + A.length) c _ (Nat.le_trans hc (Nat.le_add_right _ _))]
    unfold tc_fl
    rw [if_neg h0, if_neg h1, if_neg h1]
    show max 0 (max (tc_lk A - (q.2.2 + 0 - c)) (tc_lk B - (q.2.2 + 0 - c))) = max (tc_lk A) (max (tc_lk B) 0) - (q.2.2 - c)
    omega
/-! PURE 3: numbers: groups of seven bits, bytes of a long. -/
theorem tc_sar (x : Int64) {k : Nat} (hk : k < 64) : (x >>> ((nI k).toInt64 &&& 63)).toInt = x.toInt >>> k := by
  rw [wb_c k hk]
  show (x.toBitVec.sshiftRight ((lN k).toBitVec.smod 64).toNat).toInt = _
  rw [wb_tb, wb_sm k hk, BitVec.toNat_ofNat, Nat.mod_eq_of_lt (show k < 2 ^ 64 by omega), BitVec.toInt_sshiftRight]
  rfl
theorem tc_sard (x : Int64) {k : Nat} {p : Int} (hk : k < 64) (hp : ((2 ^ k : Nat) : Int) = p) : (x >>> ((nI k).toInt64 &&& 63)).toInt = x.toInt / p := by
  rw [tc_sar x hk, Int.shiftRight_eq_div_pow, hp]
theorem tc_l0 {y : Int64} : y = 0 ↔ y.toInt = 0 := ⟨fun h => by rw [h]; rfl, fun h => Int64.toInt_inj.mp (by rw [h]; rfl)⟩
theorem tc_lm1 {y : Int64} : y = (-1) ↔ y.toInt = -1 := ⟨fun h => by rw [h]; rfl, fun h => Int64.toInt_inj.mp (by rw [h]; rfl)⟩
theorem tc_sg1 (x : Int64) : (x >>> ((nI 6).toInt64 &&& 63) = 0 ∨ x >>> ((nI 6).toInt64 &&& 63) = (-1)) ↔ (-64 ≤ x.toInt ∧ x.toInt < 64) := by
  rw [tc_l0, tc_lm1, tc_sard x (k := 6) (p := 64) (by decide) (by decide)]
  omega
theorem tc_sg2 (x : Int64) : (x >>> ((nI 13).toInt64 &&& 63) = 0 ∨ x >>> ((nI 13).toInt64 &&& 63) = (-1)) ↔ (-8192 ≤ x.toInt ∧ x.toInt < 8192) := by
  rw [tc_l0, tc_lm1, tc_sard x (k := 13) (p := 8192) (by decide) (by decide)]
  omega
theorem tc_sg3 (x : Int64) : (x >>> ((nI 20).toInt64 &&& 63) = 0 ∨ x >>> ((nI 20).toInt64 &&& 63) = (-1)) ↔ (-1048576 ≤ x.toInt ∧ x.toInt < 1048576) := by
  rw [tc_l0, tc_lm1, tc_sard x (k := 20) (p := 1048576) (by decide) (by decide)]
  omega
theorem tc_sg4 (x : Int64) : (x >>> ((nI 27).toInt64 &&& 63) = 0 ∨ x >>> ((nI 27).toInt64 &&& 63) = (-1)) ↔ (-134217728 ≤ x.toInt ∧ x.toInt < 134217728) := by
  rw [tc_l0, tc_lm1, tc_sard x (k := 27) (p := 134217728) (by decide) (by decide)]
  omega
theorem tc_sg5 (x : Int64) : (x >>> ((nI 34).toInt64 &&& 63) = 0 ∨ x >>> ((nI 34).toInt64 &&& 63) = (-1)) ↔ (-17179869184 ≤ x.toInt ∧ x.toInt < 17179869184) := by
  rw [tc_l0, tc_lm1, tc_sard x (k := 34) (p := 17179869184) (by decide) (by decide)]
  omega
theorem tc_sg6 (x : Int64) : (x >>> ((nI 41).toInt64 &&& 63) = 0 ∨ x >>> ((nI 41).toInt64 &&& 63) = (-1)) ↔ (-2199023255552 ≤ x.toInt ∧ x.toInt < 2199023255552) := by
  rw [tc_l0, tc_lm1, tc_sard x (k := 41) (p := 2199023255552) (by decide) (by decide)]
  omega
theorem tc_sg7 (x : Int64) : (x >>> ((nI 48).toInt64 &&& 63) = 0 ∨ x >>> ((nI 48).toInt64 &&& 63) = (-1)) ↔ (-281474976710656 ≤ x.toInt ∧ x.toInt < 281474976710656) := by
  rw [tc_l0, tc_lm1, tc_sard x (k := 48) (p := 281474976710656) (by decide) (by decide)]
  omega
theorem tc_sg8 (x : Int64) : (x >>> ((nI 55).toInt64 &&& 63) = 0 ∨ x >>> ((nI 55).toInt64 &&& 63) = (-1)) ↔ (-36028797018963968 ≤ x.toInt ∧ x.toInt < 36028797018963968) := by
  rw [tc_l0, tc_lm1, tc_sard x (k := 55) (p := 36028797018963968) (by decide) (by decide)]
  omega
theorem tc_sg9 (x : Int64) : (x >>> ((nI 62).toInt64 &&& 63) = 0 ∨ x >>> ((nI 62).toInt64 &&& 63) = (-1)) ↔ (-4611686018427387904 ≤ x.toInt ∧ x.toInt < 4611686018427387904) := by
  rw [tc_l0, tc_lm1, tc_sard x (k := 62) (p := 4611686018427387904) (by decide) (by decide)]
  omega
/-- how many groups S has -/
def tc_gS (z : Int) : Nat := if -64 ≤ z ∧ z < 64 then 1 else if -8192 ≤ z ∧ z < 8192 then 2 else if -1048576 ≤ z ∧ z < 1048576 then 3 else if -134217728 ≤ z ∧ z < 134217728 then 4 else if -17179869184 ≤ z ∧ z < 17179869184 then 5 else if -2199023255552 ≤ z ∧ z < 2199023255552 then 6 else if -281474976710656 ≤ z ∧ z < 281474976710656 then 7 else if -36028797018963968 ≤ z ∧ z < 36028797018963968 then 8 else if -4611686018427387904 ≤ z ∧ z < 4611686018427387904 then 9 else 10
/-- how many groups U has -/
def tc_gU (v : Nat) : Nat := if v < 128 then 1 else if v < 16384 then 2 else if v < 2097152 then 3 else if v < 268435456 then 4 else 5
/-- byte i of a long, the lowest being 0 -/
def tc_by (x : Int64) (i : Nat) : Nat := uN x / 2 ^ (8 * i) % 256
theorem tc_l2i (y : Int64) : y.toInt32.toBitVec.toNat = uN y % 2 ^ 32 := by
  rw [Int64.toBitVec_toInt32, BitVec.signExtend_eq_setWidth_of_le _ (by decide), BitVec.toNat_setWidth]
  rfl
theorem tc_and255 (y : Int64) : y.toInt32 &&& nI 255 = nI (uN y % 256) := by
  rw [pk_and y.toInt32 8 (by decide), tc_l2i]
  congr 1
  omega
theorem tc_and127 (y : Int64) : y.toInt32 &&& nI 127 = nI (uN y % 128) := by
  rw [pk_and y.toInt32 7 (by decide), tc_l2i]
  congr 1
  omega
theorem tc_byteOf (x : Int64) {i : Nat} (hi : i < 8) : ((x.toUInt64 >>> ((nI (8 * i)).toInt64.toUInt64 &&& Int64.toUInt64 63)).toInt64).toInt32 &&& nI 255 = nI (tc_by x i) := by
  rw [tc_and255, uN_sk x (show 8 * i < 64 by omega)]
  rfl
theorem tc_by_lt (x : Int64) (i : Nat) : tc_by x i < 256 := Nat.mod_lt _ (by decide)
theorem tc_uN_int (x : Int64) : (uN x : Int) = x.toInt % 18446744073709551616 := by
  rw [uN_int x]
  have := uN_lt x
  split <;> omega
/-- group i of a long -/
def tc_g7 (x : Int64) (i : Nat) : Nat := (x.toInt / (2 ^ (7 * i) : Nat) % 128).toNat
theorem tc_g7_lt (x : Int64) (i : Nat) : tc_g7 x i < 128 := by
  unfold tc_g7
  omega
theorem tc_g7_ok (x : Int64) {i : Nat} (hi : 7 * i < 64) : (x >>> ((nI (7 * i)).toInt64 &&& 63)).toInt32 &&& nI 127 = nI (tc_g7 x i) := by
  rw [tc_and127]
  congr 1
  have h1 := tc_uN_int (x >>> ((nI (7 * i)).toInt64 &&& 63))
  rw [tc_sard x hi rfl] at h1
  unfold tc_g7
  omega
theorem tc_or128 {v : Nat} (h : v < 128) : nI v ||| nI 128 = nI (v + 128) := by
  have h1 : ∀ v, v < 128 → nI v ||| nI 128 = nI (v + 128) := by decide +kernel
  exact h1 v h
/-! PURE 4: kinds and their numbers. -/
def tc_num (k : Nat) : Bool := decide (k = 0 ∨ k = 6 ∨ k = 7 ∨ k = 9)
def tc_fitP (k : Nat) (x : Int64) : Prop := if k = 0 then 1 ≤ x ∧ x ≤ 200 else if k = 6 then 0 ≤ x ∧ x ≤ 31 else if k = 7 then True else if k = 8 then 0 ≤ x ∧ x ≤ 64 else if k = 9 then x = 0 ∨ x = 1 else x = 0
noncomputable def tc_fit (k : Nat) (x : Int64) : Bool := @decide (tc_fitP k x) (Classical.propDecidable _)
theorem tc_fit_t {k : Nat} {x : Int64} (h : tc_fitP k x) : tc_fit k x = true := by
  unfold tc_fit
  exact @decide_eq_true _ (Classical.propDecidable _) h
theorem tc_fit_f {k : Nat} {x : Int64} (h : ¬ tc_fitP k x) : tc_fit k x = false := by
  unfold tc_fit
  exact @decide_eq_false _ (Classical.propDecidable _) h
theorem tc_fit_iff {k : Nat} {x : Int64} : tc_fit k x = true ↔ tc_fitP k x := by
  by_cases h : tc_fitP k x
  · rw [tc_fit_t h]
    exact ⟨fun _ => h, fun _ => rfl⟩
  · rw [tc_fit_f h]
    exact ⟨fun q => Bool.noConfusion q, fun q => absurd q h⟩
theorem tc_div0 {v p : Nat} (hp : 0 < p) (hv : v / p < 9223372036854775808) (h : lN (v / p) = 0) : v < p := by
  have h1 : v / p = 0 := (pk_lEQ (show v / p < 2 ^ 63 by omega) (show 0 < 2 ^ 63 by decide)).mp h
  exact (Nat.div_eq_zero_iff.mp h1).resolve_left (by omega)
theorem tc_div0' {v p : Nat} (hp : 0 < p) (h : v < p) : lN (v / p) = 0 := by
  rw [Nat.div_eq_of_lt h]
  rfl
/-- byte j of g groups -/
def tc_grb (x : Int64) (g j : Nat) : Nat := if j + 1 < g then tc_g7 x j + 128 else tc_g7 x j
theorem tc_grb_lo {x : Int64} {g j : Nat} (h : j + 1 < g) : tc_grb x g j = tc_g7 x j + 128 := if_pos h
theorem tc_grb_hi {x : Int64} {g j : Nat} (h : ¬ j + 1 < g) : tc_grb x g j = tc_g7 x j := if_neg h
theorem tc_app_grb {x : Int64} {g i sz v : Nat} {bg : Nat → Nat} (h : ∀ j, j < i → bg (sz + j) = tc_grb x g j) (hv : v = tc_grb x g i) : ∀ j, j < i + 1 → va_up bg (sz + i) v (sz + j) = tc_grb x g j := by
  intro j hj
  by_cases e : j = i
  · rw [e, va_up_self, hv]
  · rw [va_up_ne _ _ (by omega)]
    exact h j (by omega)
/-- how many bytes a node has by itself -/
def tc_ol (k : Nat) (x : Int64) : Nat := if k = 0 then 1 + tc_gU x.toInt.toNat else if k = 7 then 1 + tc_gS x.toInt else if k = 8 then 2 + x.toInt.toNat else if k = 6 ∨ k = 9 then 2 else 1
theorem tc_ol_0 {v : Nat} (h : v < 2 ^ 30) : tc_ol 0 (lN v) = 1 + tc_gU v := by
  unfold tc_ol
  rw [if_pos rfl, pk_lT (by omega), Int.toNat_natCast]
theorem tc_ol_8 {v : Nat} (h : v < 2 ^ 30) : tc_ol 8 (lN v) = 2 + v := by
  unfold tc_ol
  rw [if_neg (by decide), if_neg (by decide), if_pos rfl, pk_lT (by omega), Int.toNat_natCast]
def tc_pr : Nat → Option Nat
  | 0 => none
  | n + 1 => some n
theorem tc_pr_sub (k : Nat) : nI k - nI 1 = xk_oI (tc_pr k) := by
  cases k with
  | zero => rfl
  | succ n => exact nI_pred n
theorem tc_pr_dec (k : Nat) : nI k + Int32.ofInt (-1) = xk_oI (tc_pr k) := by
  cases k with
  | zero => rfl
  | succ n => exact pk_m1 n
/-- byte j of the words of node i -/
def tc_wb (wo : Nat → Int64) (i j : Nat) : Nat := tc_by (wo (i * 8 + j / 8)) (7 - j % 8)
theorem tc_tk3 (k : Nat) : tc_tk k = 0 ∨ tc_tk k = 1 ∨ tc_tk k = 2 := by have := tc_tk_le k; omega
/-- where the parts of node i stand -/
def tc_chs (k i : Nat) (si : Nat → Nat) : List Nat := if tc_tk k = 0 then [] else if tc_tk k = 1 then [i + 1] else [i + 1, i + (1 + si (i + 1))]
theorem tc_chs_0 {k i : Nat} {si : Nat → Nat} (h : tc_tk k = 0) : tc_chs k i si = [] := if_pos h
theorem tc_chs_1 {k i : Nat} {si : Nat → Nat} (h : tc_tk k = 1) : tc_chs k i si = [i + 1] := by
  unfold tc_chs
  rw [if_neg (by omega), if_pos h]
theorem tc_chs_2 {k i : Nat} {si : Nat → Nat} (h : tc_tk k = 2) : tc_chs k i si = [i + 1, i + (1 + si (i + 1))] := by
  unfold tc_chs
  rw [if_neg (by omega), if_neg (by omega)]
theorem tc_gU_le (v : Nat) : tc_gU v ≤ 5 := by
  unfold tc_gU
  repeat (split; omega)
  omega
theorem tc_gS_le (z : Int) : tc_gS z ≤ 10 := by
  unfold tc_gS
  repeat (split; omega)
  omega
theorem tc_ol_lt (k : Nat) (x : Int64) (v : Nat) (h : k = 0 ∨ k = 8 → x = lN v ∧ v < 2 ^ 30) : tc_ol k x < 2 ^ 30 + 100 := by
  unfold tc_ol
  have h1 := tc_gU_le x.toInt.toNat
  have h2 := tc_gS_le x.toInt
  split
  · omega
  · split
    · omega
    · split
      · rename_i q
        obtain ⟨e, hv⟩ := h (Or.inr q)
        rw [e, pk_lT (by omega), Int.toNat_natCast]
        omega
      · split <;> omega
theorem tc_se_n {k l0 l1 : Nat} {x : Int64} {vs : List Nat} (e0 : l0 = if k = 0 then x.toInt.toNat else 0) (f3 : l1 = max l0 (vs.foldr max 0)) (h : ¬ k = 1) (h0 : k = 0 → vs = [] := by first | assumption | (intro q; rw [q]; rfl)) : l1 = tc_fl (k, x, []) vs := by
  by_cases hk : k = 0
  · have q : tc_fl (k, x, []) vs = x.toInt.toNat := if_pos hk
    rw [q, f3, e0, if_pos hk, h0 hk]
    show max _ 0 = _
    omega
  · have q : tc_fl (k, x, []) vs = vs.foldr max 0 := (if_neg hk).trans (if_neg h)
    rw [q, f3, e0, if_neg hk]
    omega
theorem tc_se_0 {k l0 l1 : Nat} {x : Int64} {vs : List Nat} (e0 : l0 = if k = 0 then x.toInt.toNat else 0) (f3 : l1 = max l0 (vs.foldr max 0)) (h : k = 1) (hl : l1 = 0) : l1 = tc_fl (k, x, []) vs := by
  unfold tc_fl
  rw [if_neg (by show ¬ k = 0; omega), if_pos h]
  show _ = vs.foldr max 0 - 1
  omega
theorem tc_se_1 {k l0 l1 : Nat} {x : Int64} {vs : List Nat} (e0 : l0 = if k = 0 then x.toInt.toNat else 0) (f3 : l1 = max l0 (vs.foldr max 0)) (h : k = 1) : l1 - 1 = tc_fl (k, x, []) vs := by
  have h0 : l0 = 0 := by rw [e0, if_neg (by omega)]
  unfold tc_fl
  rw [if_neg (by show ¬ k = 0; omega), if_pos h]
  show _ = vs.foldr max 0 - 1
  omega
/-! PURE 5: a node's place in a term: its part, its parent. -/
def tc_q0 : tc_Q := (none, 1, 0)
def tc_E (L : List tc_Nd) : List tc_Q := tc_fw 0 [tc_q0] L
/-- the open places, before node k -/
def tc_st (L : List tc_Nd) (k : Nat) : List tc_Q := tc_pd 0 [tc_q0] (L.take k)
theorem tc_pd_len : ∀ (P R : List tc_Nd) (i : Nat) (st : List tc_Q), tc_wf st.length (P ++ R) → tc_wf (tc_pd i st P).length R
  | [], R, i, st, h => by rw [tc_pd_nil]; exact h
  | x :: P, R, i, [], h => absurd h.1 (by simp)
  | x :: P, R, i, q :: st, h => by
    rw [tc_pd_cons]
    refine tc_pd_len P R (i + 1) _ ?_
    rw [List.length_append, tc_kid_len]
    have h2 := h.2
    rw [List.length_cons, show st.length + 1 - 1 + tc_tk x.1 = tc_tk x.1 + st.length by omega] at h2
    exact h2
theorem tc_fw_lenp : ∀ (P R : List tc_Nd) (i : Nat) (st : List tc_Q), tc_wf st.length (P ++ R) → (tc_fw i st P).length = P.length
  | [], R, i, st, h => by rw [tc_fw_nil]; rfl
  | x :: P, R, i, [], h => absurd h.1 (by simp)
  | x :: P, R, i, q :: st, h => by
    rw [tc_fw_cons, List.length_cons, List.length_cons]
    refine congrArg (· + 1) (tc_fw_lenp P R (i + 1) _ ?_)
    rw [List.length_append, tc_kid_len]
    have h2 := h.2
    rw [List.length_cons, show st.length + 1 - 1 + tc_tk x.1 = tc_tk x.1 + st.length by omega] at h2
    exact h2
/-- levels fall from the top of the open places down -/
theorem tc_pd_srt : ∀ (P : List tc_Nd) (i : Nat) (st : List tc_Q), st.Pairwise (fun q r => r.2.1 ≤ q.2.1) → (tc_pd i st P).Pairwise (fun q r => r.2.1 ≤ q.2.1)
  | [], i, st, h => by rw [tc_pd_nil]; exact h
  | x :: P, i, [], h => by rw [tc_pd_no]; exact h
  | x :: P, i, q :: st, h => by
    rw [tc_pd_cons]
    refine tc_pd_srt P (i + 1) _ ?_
    obtain ⟨h1, h2⟩ := List.pairwise_cons.mp h
    refine List.pairwise_append.mpr ⟨?_, h2, ?_⟩
    · unfold tc_kid
      exact List.pairwise_replicate.mpr (Or.inr (Nat.le_refl _))
    · intro a ha b hb
      have := (List.mem_replicate.mp ha).2
      rw [this]
      exact Nat.le_succ_of_le (h1 b hb)
/-- node k of a term: the term that begins there, the open place that it takes, what stands behind -/
theorem tc_sub {L : List tc_Nd} (h : tc_wf 1 L) {k : Nat} (hk : k < L.length) : ∃ (A B : List tc_Nd) (q : tc_Q) (s2 : List tc_Q), L.drop k = A ++ B ∧ tc_wf 1 A ∧ tc_sz (L.drop k) = A.length ∧ tc_dp (L.drop k) = tc_dp A ∧ tc_lk (L.drop k) = tc_lk A ∧
    tc_st L k = q :: s2 ∧ (∀ r ∈ s2, r.2.1 ≤ q.2.1) ∧ tc_E L = tc_fw 0 [tc_q0] (L.take k) ++ (tc_fw k [q] A ++ tc_fw (k + A.length) s2 B) ∧ (tc_fw 0 [tc_q0] (L.take k)).length = k := by
  have hL : L.take k ++ L.drop k = L := List.take_append_drop k L
  have hw : tc_wf (tc_st L k).length (L.drop k) := tc_pd_len (L.take k) (L.drop k) 0 [tc_q0] (by rw [hL]; exact h)
  have hlen : (L.take k).length = k := by rw [List.length_take]; omega
  have hd0 : 0 < (L.drop k).length := by rw [List.length_drop]; omega
  have hpos : 0 < (tc_st L k).length := by
    match hd : L.drop k, hw, hd0 with
    | x :: R, hw, _ => exact hw.1
  obtain ⟨A, B, e, hA, hB⟩ := tc_first hw hpos
  match hst : tc_st L k, hpos with
  | q :: s2, _ =>
    refine ⟨A, B, q, s2, e, hA, ?_, ?_, ?_, rfl, ?_, ?_, ?_⟩
    · rw [tc_sz, tc_tv, e, tc_ev_app _ B hA, tc_ev_one _ 0 hA]
      exact tc_sz_len hA
    · rw [tc_dp, tc_tv, e, tc_ev_app _ B hA, tc_ev_one _ 0 hA]
      rfl
    · rw [tc_lk, tc_tv, e, tc_ev_app _ B hA, tc_ev_one _ 0 hA]
      rfl
    · have hs := tc_pd_srt (L.take k) 0 [tc_q0] (List.pairwise_singleton _ _)
      have hs : (tc_st L k).Pairwise (fun q r => r.2.1 ≤ q.2.1) := hs
      rw [hst] at hs
      exact (List.pairwise_cons.mp hs).1
    · have h1 : tc_E L = tc_fw 0 [tc_q0] (L.take k) ++ tc_fw (0 + (L.take k).length) (tc_st L k) (L.drop k) := by
        show tc_fw 0 [tc_q0] L = tc_fw 0 [tc_q0] (L.take k) ++ tc_fw (0 + (L.take k).length) (tc_pd 0 [tc_q0] (L.take k)) (L.drop k)
        rw [← tc_fw_app, hL]
      rw [h1, hlen, Nat.zero_add, hst, e]
      exact congrArg _ (tc_fw_2 k [q] s2 hA rfl)
    · rw [tc_fw_lenp (L.take k) (L.drop k) 0 [tc_q0] (by rw [hL]; exact h), hlen]
end
section
abbrev tc_wB (a : Nat → Nat) (ca : Nat → ClassId) (bf : Nat → Nat) (sz : Nat) : va_W := [(a 0, .inr (0, [.ref (a 1), .int (nI sz)])), (a 1, .inl (ca 1, 4096, .inl (xk_bA bf)))]
abbrev tc_tB (ca : Nat → ClassId) : List (ClassId × FieldType) := [(ca 1, .byte)]
abbrev tc_wS (a : Nat → Nat) (ca : Nat → ClassId) (kn : Nat → Nat) (nu : Nat → Int64) (wo : Nat → Int64) (si : Nat → Nat) (de : Nat → Nat) (la : Nat → Nat) (le : Nat → Nat) (ro : Nat → Nat) (tm : Nat) (nd : Nat) : va_W := [(a 0, .inr (1, [.ref (a 1), .ref (a 2), .ref (a 3), .ref (a 4), .ref (a 5), .ref (a 6), .ref (a 7), .ref (a 8), .int (nI tm), .int (nI nd)])), (a 1, .inl (ca 1, 200, .inl (xk_nA kn))), (a 2, .inl (ca 2, 200, .inr (.inl nu))), (a 3, .inl (ca 3, 1600, .inr (.inl wo))), (a 4, .inl (ca 4, 200, .inl (xk_nA si))), (a 5, .inl (ca 5, 200, .inl (xk_nA de))), (a 6, .inl (ca 6, 200, .inl (xk_nA la))), (a 7, .inl (ca 7, 200, .inl (xk_nA le))), (a 8, .inl (ca 8, 200, .inl (xk_nA ro)))]
abbrev tc_tS (ca : Nat → ClassId) : List (ClassId × FieldType) := [(ca 1, .int), (ca 2, .long), (ca 3, .long), (ca 4, .int), (ca 5, .int), (ca 6, .int), (ca 7, .int), (ca 8, .int)]
abbrev tc_wR (a : Nat → Nat) (ca : Nat → ClassId) (ri : Nat) (rs : Nat) (wl : Nat → Nat) (wm : Nat → Nat) (wt : Nat) (nx : Nat) (ap : Nat) (fa : Nat) (pl : Option Nat) : va_W := [(a 0, .inr (2, [.ref ri, .ref rs, .ref (a 1), .ref (a 2), .int (nI wt), .int (nI nx), .int (nI ap), .int (nI fa), .int (xk_oI pl)])), (a 1, .inl (ca 1, 62, .inl (xk_nA wl))), (a 2, .inl (ca 2, 62, .inl (xk_nA wm)))]
abbrev tc_tR (ca : Nat → ClassId) : List (ClassId × FieldType) := [(ca 1, .int), (ca 2, .int)]
abbrev tc_wX (a : Nat → Nat) (ca : Nat → ClassId) (xs : Nat) (xo : Nat) (xg : Nat) (xr : Nat) : va_W := [(a 0, .inr (3, [.ref xs, .ref xo, .ref xg, .ref xr]))]
abbrev tc_tX (ca : Nat → ClassId) : List (ClassId × FieldType) := []
end
