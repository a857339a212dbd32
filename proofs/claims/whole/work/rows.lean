section
-- ===== PART A: goes FIRST, ahead of the names: the tables' words, and 'selects' of the private methods out of them =====
/-- a private method of a class that the tables say can be made, by its rows of tables_1 -/
def lw_okq (q : MethodName × Nat) : Prop := (q.1.cls ≠ "java/lang/invoke/MethodHandle" ∧ q.1.cls ≠ "java/lang/invoke/VarHandle") ∧ Cond.instantiable q.1.cls q.2 ∈ tables_1 ∧ Cond.privateMethod q.1 ∈ tables_1 ∧ Cond.instanceMethod q.1 ∈ tables_1
theorem lw_p0 : lw_okq (⟨"SlowSeal", "bytesOf", "(I)LSlowSeal$Bytes;"⟩, 5) := ⟨⟨by decide +kernel, by decide +kernel⟩, List.mem_of_getElem? (i := 9) (by decide +kernel), List.mem_of_getElem? (i := 159) (by decide +kernel), List.mem_of_getElem? (i := 160) (by decide +kernel)⟩
theorem lw_p1 : lw_okq (⟨"SlowSeal$Hasher", "digest", "(II)V"⟩, 5) := ⟨⟨by decide +kernel, by decide +kernel⟩, List.mem_of_getElem? (i := 37) (by decide +kernel), List.mem_of_getElem? (i := 214) (by decide +kernel), List.mem_of_getElem? (i := 215) (by decide +kernel)⟩
theorem lw_p2 : lw_okq (⟨"SlowSeal$Hasher", "loadPart", "(IZ)V"⟩, 5) := ⟨⟨by decide +kernel, by decide +kernel⟩, List.mem_of_getElem? (i := 37) (by decide +kernel), List.mem_of_getElem? (i := 222) (by decide +kernel), List.mem_of_getElem? (i := 223) (by decide +kernel)⟩
theorem lw_p3 : lw_okq (⟨"SlowSeal$Hasher", "mix", "(IJJ)V"⟩, 5) := ⟨⟨by decide +kernel, by decide +kernel⟩, List.mem_of_getElem? (i := 37) (by decide +kernel), List.mem_of_getElem? (i := 237) (by decide +kernel), List.mem_of_getElem? (i := 238) (by decide +kernel)⟩
theorem lw_p4 : lw_okq (⟨"SlowSeal$Hasher", "foldPart", "()V"⟩, 5) := ⟨⟨by decide +kernel, by decide +kernel⟩, List.mem_of_getElem? (i := 37) (by decide +kernel), List.mem_of_getElem? (i := 246) (by decide +kernel), List.mem_of_getElem? (i := 247) (by decide +kernel)⟩
theorem lw_p5 : lw_okq (⟨"SlowSeal$Hasher", "give", "(I)V"⟩, 5) := ⟨⟨by decide +kernel, by decide +kernel⟩, List.mem_of_getElem? (i := 37) (by decide +kernel), List.mem_of_getElem? (i := 250) (by decide +kernel), List.mem_of_getElem? (i := 251) (by decide +kernel)⟩
theorem lw_p6 : lw_okq (⟨"SlowSeal$Hasher", "takeStateAsMessage", "()V"⟩, 5) := ⟨⟨by decide +kernel, by decide +kernel⟩, List.mem_of_getElem? (i := 37) (by decide +kernel), List.mem_of_getElem? (i := 273) (by decide +kernel), List.mem_of_getElem? (i := 274) (by decide +kernel)⟩
theorem lw_p7 : lw_okq (⟨"SlowSeal", "putWithLength", "(I)V"⟩, 5) := ⟨⟨by decide +kernel, by decide +kernel⟩, List.mem_of_getElem? (i := 9) (by decide +kernel), List.mem_of_getElem? (i := 295) (by decide +kernel), List.mem_of_getElem? (i := 296) (by decide +kernel)⟩
theorem lw_p8 : lw_okq (⟨"SlowSeal", "layFirstBlocks", "()V"⟩, 5) := ⟨⟨by decide +kernel, by decide +kernel⟩, List.mem_of_getElem? (i := 9) (by decide +kernel), List.mem_of_getElem? (i := 299) (by decide +kernel), List.mem_of_getElem? (i := 300) (by decide +kernel)⟩
theorem lw_p9 : lw_okq (⟨"SlowSeal$Filling", "blockOf", "(I)[J"⟩, 14) := ⟨⟨by decide +kernel, by decide +kernel⟩, List.mem_of_getElem? (i := 64) (by decide +kernel), List.mem_of_getElem? (i := 307) (by decide +kernel), List.mem_of_getElem? (i := 308) (by decide +kernel)⟩
theorem lw_p10 : lw_okq (⟨"SlowSeal$Filling", "goesByAddress", "()Z"⟩, 14) := ⟨⟨by decide +kernel, by decide +kernel⟩, List.mem_of_getElem? (i := 64) (by decide +kernel), List.mem_of_getElem? (i := 334) (by decide +kernel), List.mem_of_getElem? (i := 335) (by decide +kernel)⟩
theorem lw_p11 : lw_okq (⟨"SlowSeal$Filling", "openAddress", "()V"⟩, 14) := ⟨⟨by decide +kernel, by decide +kernel⟩, List.mem_of_getElem? (i := 64) (by decide +kernel), List.mem_of_getElem? (i := 338) (by decide +kernel), List.mem_of_getElem? (i := 339) (by decide +kernel)⟩
theorem lw_p12 : lw_okq (⟨"SlowSeal$Joiner", "stir", "(II)V"⟩, 3) := ⟨⟨by decide +kernel, by decide +kernel⟩, List.mem_of_getElem? (i := 72) (by decide +kernel), List.mem_of_getElem? (i := 347) (by decide +kernel), List.mem_of_getElem? (i := 348) (by decide +kernel)⟩
theorem lw_p13 : lw_okq (⟨"SlowSeal$Joiner", "mixHard", "(I)V"⟩, 3) := ⟨⟨by decide +kernel, by decide +kernel⟩, List.mem_of_getElem? (i := 72) (by decide +kernel), List.mem_of_getElem? (i := 351) (by decide +kernel), List.mem_of_getElem? (i := 352) (by decide +kernel)⟩
theorem lw_p14 : lw_okq (⟨"SlowSeal$Filling", "isFirstSlice", "()Z"⟩, 14) := ⟨⟨by decide +kernel, by decide +kernel⟩, List.mem_of_getElem? (i := 64) (by decide +kernel), List.mem_of_getElem? (i := 362) (by decide +kernel), List.mem_of_getElem? (i := 363) (by decide +kernel)⟩
theorem lw_p15 : lw_okq (⟨"SlowSeal$Filling", "farBlock", "(IJ)I"⟩, 14) := ⟨⟨by decide +kernel, by decide +kernel⟩, List.mem_of_getElem? (i := 64) (by decide +kernel), List.mem_of_getElem? (i := 366) (by decide +kernel), List.mem_of_getElem? (i := 367) (by decide +kernel)⟩
def lw_privs_1 : List (MethodName × Nat) := [(⟨"SlowSeal", "bytesOf", "(I)LSlowSeal$Bytes;"⟩, 5), (⟨"SlowSeal$Hasher", "digest", "(II)V"⟩, 5), (⟨"SlowSeal$Hasher", "loadPart", "(IZ)V"⟩, 5), (⟨"SlowSeal$Hasher", "mix", "(IJJ)V"⟩, 5), (⟨"SlowSeal$Hasher", "foldPart", "()V"⟩, 5), (⟨"SlowSeal$Hasher", "give", "(I)V"⟩, 5), (⟨"SlowSeal$Hasher", "takeStateAsMessage", "()V"⟩, 5), (⟨"SlowSeal", "putWithLength", "(I)V"⟩, 5), (⟨"SlowSeal", "layFirstBlocks", "()V"⟩, 5), (⟨"SlowSeal$Filling", "blockOf", "(I)[J"⟩, 14), (⟨"SlowSeal$Filling", "goesByAddress", "()Z"⟩, 14), (⟨"SlowSeal$Filling", "openAddress", "()V"⟩, 14), (⟨"SlowSeal$Joiner", "stir", "(II)V"⟩, 3), (⟨"SlowSeal$Joiner", "mixHard", "(I)V"⟩, 3), (⟨"SlowSeal$Filling", "isFirstSlice", "()Z"⟩, 14), (⟨"SlowSeal$Filling", "farBlock", "(IJ)I"⟩, 14)]
theorem lw_r1 : ∀ q ∈ lw_privs_1, lw_okq q := List.forall_mem_cons.mpr ⟨lw_p0, List.forall_mem_cons.mpr ⟨lw_p1, List.forall_mem_cons.mpr ⟨lw_p2, List.forall_mem_cons.mpr ⟨lw_p3, List.forall_mem_cons.mpr ⟨lw_p4, List.forall_mem_cons.mpr ⟨lw_p5, List.forall_mem_cons.mpr ⟨lw_p6, List.forall_mem_cons.mpr ⟨lw_p7, List.forall_mem_cons.mpr ⟨lw_p8, List.forall_mem_cons.mpr ⟨lw_p9, List.forall_mem_cons.mpr ⟨lw_p10, List.forall_mem_cons.mpr ⟨lw_p11, List.forall_mem_cons.mpr ⟨lw_p12, List.forall_mem_cons.mpr ⟨lw_p13, List.forall_mem_cons.mpr ⟨lw_p14, List.forall_mem_cons.mpr ⟨lw_p15, fun _ h => absurd h List.not_mem_nil⟩⟩⟩⟩⟩⟩⟩⟩⟩⟩⟩⟩⟩⟩⟩⟩
theorem lw_p16 : lw_okq (⟨"SlowSealModel", "putRegister", "(I)V"⟩, 23) := ⟨⟨by decide +kernel, by decide +kernel⟩, List.mem_of_getElem? (i := 399) (by decide +kernel), List.mem_of_getElem? (i := 503) (by decide +kernel), List.mem_of_getElem? (i := 504) (by decide +kernel)⟩
theorem lw_p17 : lw_okq (⟨"SlowSealModel", "hashTo", "(II)V"⟩, 23) := ⟨⟨by decide +kernel, by decide +kernel⟩, List.mem_of_getElem? (i := 399) (by decide +kernel), List.mem_of_getElem? (i := 507) (by decide +kernel), List.mem_of_getElem? (i := 508) (by decide +kernel)⟩
theorem lw_p18 : lw_okq (⟨"SlowSealModel", "part", "(IIZ)V"⟩, 23) := ⟨⟨by decide +kernel, by decide +kernel⟩, List.mem_of_getElem? (i := 399) (by decide +kernel), List.mem_of_getElem? (i := 524) (by decide +kernel), List.mem_of_getElem? (i := 525) (by decide +kernel)⟩
theorem lw_p19 : lw_okq (⟨"SlowSealModel", "byteAt", "(I)I"⟩, 23) := ⟨⟨by decide +kernel, by decide +kernel⟩, List.mem_of_getElem? (i := 399) (by decide +kernel), List.mem_of_getElem? (i := 528) (by decide +kernel), List.mem_of_getElem? (i := 529) (by decide +kernel)⟩
theorem lw_p20 : lw_okq (⟨"SlowSealModel", "picked", "(JI)J"⟩, 23) := ⟨⟨by decide +kernel, by decide +kernel⟩, List.mem_of_getElem? (i := 399) (by decide +kernel), List.mem_of_getElem? (i := 546) (by decide +kernel), List.mem_of_getElem? (i := 547) (by decide +kernel)⟩
theorem lw_p21 : lw_okq (⟨"SlowSealModel", "mix", "(IIIIJJ)V"⟩, 23) := ⟨⟨by decide +kernel, by decide +kernel⟩, List.mem_of_getElem? (i := 399) (by decide +kernel), List.mem_of_getElem? (i := 551) (by decide +kernel), List.mem_of_getElem? (i := 552) (by decide +kernel)⟩
theorem lw_p22 : lw_okq (⟨"SlowSealModel", "give", "(II)V"⟩, 23) := ⟨⟨by decide +kernel, by decide +kernel⟩, List.mem_of_getElem? (i := 399) (by decide +kernel), List.mem_of_getElem? (i := 558) (by decide +kernel), List.mem_of_getElem? (i := 559) (by decide +kernel)⟩
theorem lw_p23 : lw_okq (⟨"SlowSealModel", "longTo", "(I)V"⟩, 23) := ⟨⟨by decide +kernel, by decide +kernel⟩, List.mem_of_getElem? (i := 399) (by decide +kernel), List.mem_of_getElem? (i := 566) (by decide +kernel), List.mem_of_getElem? (i := 567) (by decide +kernel)⟩
theorem lw_p24 : lw_okq (⟨"SlowSealModel", "put", "(IJ)V"⟩, 23) := ⟨⟨by decide +kernel, by decide +kernel⟩, List.mem_of_getElem? (i := 399) (by decide +kernel), List.mem_of_getElem? (i := 570) (by decide +kernel), List.mem_of_getElem? (i := 571) (by decide +kernel)⟩
theorem lw_p25 : lw_okq (⟨"SlowSealModel", "putOwn", "(I)V"⟩, 23) := ⟨⟨by decide +kernel, by decide +kernel⟩, List.mem_of_getElem? (i := 399) (by decide +kernel), List.mem_of_getElem? (i := 582) (by decide +kernel), List.mem_of_getElem? (i := 583) (by decide +kernel)⟩
theorem lw_p26 : lw_okq (⟨"SlowSealModel", "fillSome", "(I)I"⟩, 23) := ⟨⟨by decide +kernel, by decide +kernel⟩, List.mem_of_getElem? (i := 399) (by decide +kernel), List.mem_of_getElem? (i := 590) (by decide +kernel), List.mem_of_getElem? (i := 591) (by decide +kernel)⟩
theorem lw_p27 : lw_okq (⟨"SlowSealModel", "segment", "(III)V"⟩, 23) := ⟨⟨by decide +kernel, by decide +kernel⟩, List.mem_of_getElem? (i := 399) (by decide +kernel), List.mem_of_getElem? (i := 594) (by decide +kernel), List.mem_of_getElem? (i := 595) (by decide +kernel)⟩
theorem lw_p28 : lw_okq (⟨"SlowSealModel", "makeAddress", "(IIII)V"⟩, 23) := ⟨⟨by decide +kernel, by decide +kernel⟩, List.mem_of_getElem? (i := 399) (by decide +kernel), List.mem_of_getElem? (i := 598) (by decide +kernel), List.mem_of_getElem? (i := 599) (by decide +kernel)⟩
theorem lw_p29 : lw_okq (⟨"SlowSealModel", "join", "()V"⟩, 23) := ⟨⟨by decide +kernel, by decide +kernel⟩, List.mem_of_getElem? (i := 399) (by decide +kernel), List.mem_of_getElem? (i := 603) (by decide +kernel), List.mem_of_getElem? (i := 604) (by decide +kernel)⟩
theorem lw_p30 : lw_okq (⟨"SlowSealModel", "stir", "(IZ)V"⟩, 23) := ⟨⟨by decide +kernel, by decide +kernel⟩, List.mem_of_getElem? (i := 399) (by decide +kernel), List.mem_of_getElem? (i := 607) (by decide +kernel), List.mem_of_getElem? (i := 608) (by decide +kernel)⟩
theorem lw_p31 : lw_okq (⟨"SlowSealModel", "quarter", "(IZIIII)V"⟩, 23) := ⟨⟨by decide +kernel, by decide +kernel⟩, List.mem_of_getElem? (i := 399) (by decide +kernel), List.mem_of_getElem? (i := 611) (by decide +kernel), List.mem_of_getElem? (i := 612) (by decide +kernel)⟩
def lw_privs_2 : List (MethodName × Nat) := [(⟨"SlowSealModel", "putRegister", "(I)V"⟩, 23), (⟨"SlowSealModel", "hashTo", "(II)V"⟩, 23), (⟨"SlowSealModel", "part", "(IIZ)V"⟩, 23), (⟨"SlowSealModel", "byteAt", "(I)I"⟩, 23), (⟨"SlowSealModel", "picked", "(JI)J"⟩, 23), (⟨"SlowSealModel", "mix", "(IIIIJJ)V"⟩, 23), (⟨"SlowSealModel", "give", "(II)V"⟩, 23), (⟨"SlowSealModel", "longTo", "(I)V"⟩, 23), (⟨"SlowSealModel", "put", "(IJ)V"⟩, 23), (⟨"SlowSealModel", "putOwn", "(I)V"⟩, 23), (⟨"SlowSealModel", "fillSome", "(I)I"⟩, 23), (⟨"SlowSealModel", "segment", "(III)V"⟩, 23), (⟨"SlowSealModel", "makeAddress", "(IIII)V"⟩, 23), (⟨"SlowSealModel", "join", "()V"⟩, 23), (⟨"SlowSealModel", "stir", "(IZ)V"⟩, 23), (⟨"SlowSealModel", "quarter", "(IZIIII)V"⟩, 23)]
theorem lw_r2 : ∀ q ∈ lw_privs_2, lw_okq q := List.forall_mem_cons.mpr ⟨lw_p16, List.forall_mem_cons.mpr ⟨lw_p17, List.forall_mem_cons.mpr ⟨lw_p18, List.forall_mem_cons.mpr ⟨lw_p19, List.forall_mem_cons.mpr ⟨lw_p20, List.forall_mem_cons.mpr ⟨lw_p21, List.forall_mem_cons.mpr ⟨lw_p22, List.forall_mem_cons.mpr ⟨lw_p23, List.forall_mem_cons.mpr ⟨lw_p24, List.forall_mem_cons.mpr ⟨lw_p25, List.forall_mem_cons.mpr ⟨lw_p26, List.forall_mem_cons.mpr ⟨lw_p27, List.forall_mem_cons.mpr ⟨lw_p28, List.forall_mem_cons.mpr ⟨lw_p29, List.forall_mem_cons.mpr ⟨lw_p30, List.forall_mem_cons.mpr ⟨lw_p31, fun _ h => absurd h List.not_mem_nil⟩⟩⟩⟩⟩⟩⟩⟩⟩⟩⟩⟩⟩⟩⟩⟩
theorem lw_p32 : lw_okq (⟨"SlowSealModel", "hard", "(IIII)V"⟩, 23) := ⟨⟨by decide +kernel, by decide +kernel⟩, List.mem_of_getElem? (i := 399) (by decide +kernel), List.mem_of_getElem? (i := 618) (by decide +kernel), List.mem_of_getElem? (i := 619) (by decide +kernel)⟩
theorem lw_p33 : lw_okq (⟨"SlowSealModel", "farBlock", "(IIIIJ)I"⟩, 23) := ⟨⟨by decide +kernel, by decide +kernel⟩, List.mem_of_getElem? (i := 399) (by decide +kernel), List.mem_of_getElem? (i := 627) (by decide +kernel), List.mem_of_getElem? (i := 628) (by decide +kernel)⟩
theorem lw_p34 : lw_okq (⟨"SlowSealModel", "makeTag", "()V"⟩, 23) := ⟨⟨by decide +kernel, by decide +kernel⟩, List.mem_of_getElem? (i := 399) (by decide +kernel), List.mem_of_getElem? (i := 639) (by decide +kernel), List.mem_of_getElem? (i := 640) (by decide +kernel)⟩
def lw_privs_3 : List (MethodName × Nat) := [(⟨"SlowSealModel", "hard", "(IIII)V"⟩, 23), (⟨"SlowSealModel", "farBlock", "(IIIIJ)I"⟩, 23), (⟨"SlowSealModel", "makeTag", "()V"⟩, 23)]
theorem lw_r3 : ∀ q ∈ lw_privs_3, lw_okq q := List.forall_mem_cons.mpr ⟨lw_p32, List.forall_mem_cons.mpr ⟨lw_p33, List.forall_mem_cons.mpr ⟨lw_p34, fun _ h => absurd h List.not_mem_nil⟩⟩⟩
def lw_privs : List (MethodName × Nat) := lw_privs_1 ++ (lw_privs_2 ++ (lw_privs_3))
def lw_tbl : List Cond := k2_sels lw_privs ++ tables_1
theorem lw_privs_ok : ∀ q ∈ lw_privs, lw_okq q := by
  show ∀ q ∈ lw_privs_1 ++ (lw_privs_2 ++ (lw_privs_3)), lw_okq q
  exact List.forall_mem_append.mpr ⟨lw_r1, List.forall_mem_append.mpr ⟨lw_r2, lw_r3⟩⟩
end
section
/-! ===== BEGIN printed: names, fields, word lists, decode rows ===== -/
def RX0 : String := "SlowSeal$Bytes"
def TX0 : u_T := fun k => match k with
  | 0 => ("SlowSeal$Bytes", "bytes", "[B", true)
  | _ => ("SlowSeal$Bytes", "count", "I", false)
def tyX0 : Nat → FieldType := fun k => match k with
  | 0 => .array .byte
  | _ => .int
abbrev wsX00 : List Cond := u_ws RX0 TX0 2
theorem nmX0 : ∀ a, a < 2 → ∀ b, b < 2 → a ≠ b → (TX0 a).2.1 ≠ (TX0 b).2.1 := by decide +kernel
theorem tyX0_ok : ∀ k, k < 2 → parseFieldDescriptor (TX0 k).2.2.1 = some (tyX0 k) := by decide +kernel
abbrev cX0_init : ByteArray := prog_2_method_1_code
def yX0_init : MethodName := ⟨RX0, "<init>", "(I)V"⟩
abbrev cX0_empty : ByteArray := prog_2_method_2_code
def yX0_empty : MethodName := ⟨RX0, "empty", "()V"⟩
abbrev cX0_byteAt : ByteArray := prog_2_method_3_code
def yX0_byteAt : MethodName := ⟨RX0, "byteAt", "(I)I"⟩
abbrev cX0_wordAt : ByteArray := prog_2_method_4_code
def yX0_wordAt : MethodName := ⟨RX0, "wordAt", "(I)J"⟩
abbrev cX0_put : ByteArray := prog_2_method_5_code
def yX0_put : MethodName := ⟨RX0, "put", "(I)V"⟩
abbrev cX0_putNumber : ByteArray := prog_2_method_6_code
def yX0_putNumber : MethodName := ⟨RX0, "putNumber", "(JI)V"⟩
abbrev cX0_putAll : ByteArray := prog_2_method_7_code
def yX0_putAll : MethodName := ⟨RX0, "putAll", "(LSlowSeal$Bytes;)V"⟩
abbrev cX0_become : ByteArray := prog_2_method_8_code
def yX0_become : MethodName := ⟨RX0, "become", "(LSlowSeal$Bytes;)V"⟩
def RX1 : String := "SlowSeal$Filling"
def TX1 : u_T := fun k => match k with
  | 0 => ("SlowSeal$Filling", "memory", "[[J", true)
  | 1 => ("SlowSeal$Filling", "zeros", "[J", true)
  | 2 => ("SlowSeal$Filling", "address", "[J", true)
  | 3 => ("SlowSeal$Filling", "joiner", "LSlowSeal$Joiner;", true)
  | 4 => ("SlowSeal$Filling", "kind", "I", false)
  | 5 => ("SlowSeal$Filling", "lanes", "I", false)
  | 6 => ("SlowSeal$Filling", "passes", "I", false)
  | 7 => ("SlowSeal$Filling", "tagBytes", "I", false)
  | 8 => ("SlowSeal$Filling", "laneBlocks", "I", false)
  | 9 => ("SlowSeal$Filling", "sliceBlocks", "I", false)
  | 10 => ("SlowSeal$Filling", "done", "I", false)
  | 11 => ("SlowSeal$Filling", "pass", "I", false)
  | 12 => ("SlowSeal$Filling", "slice", "I", false)
  | _ => ("SlowSeal$Filling", "lane", "I", false)
def tyX1 : Nat → FieldType := fun k => match k with
  | 0 => .array (.array .long)
  | 1 => .array .long
  | 2 => .array .long
  | 3 => .object "SlowSeal$Joiner"
  | 4 => .int
  | 5 => .int
  | 6 => .int
  | 7 => .int
  | 8 => .int
  | 9 => .int
  | 10 => .int
  | 11 => .int
  | 12 => .int
  | _ => .int
abbrev wsX10 : List Cond := u_ws RX1 TX1 14
theorem nmX1 : ∀ a, a < 14 → ∀ b, b < 14 → a ≠ b → (TX1 a).2.1 ≠ (TX1 b).2.1 := by decide +kernel
theorem tyX1_ok : ∀ k, k < 14 → parseFieldDescriptor (TX1 k).2.2.1 = some (tyX1 k) := by decide +kernel
abbrev cX1_init : ByteArray := prog_3_method_1_code
def yX1_init : MethodName := ⟨RX1, "<init>", "()V"⟩
abbrev cX1_isPossible : ByteArray := prog_3_method_2_code
def yX1_isPossible : MethodName := ⟨RX1, "isPossible", "(IIIII)Z"⟩
abbrev cX1_restart : ByteArray := prog_3_method_3_code
def yX1_restart : MethodName := ⟨RX1, "restart", "(IIIII)V"⟩
abbrev cX1_putSettings : ByteArray := prog_3_method_4_code
def yX1_putSettings : MethodName := ⟨RX1, "putSettings", "(LSlowSeal$Bytes;I)V"⟩
abbrev cX1_isBegun : ByteArray := prog_3_method_5_code
def yX1_isBegun : MethodName := ⟨RX1, "isBegun", "()Z"⟩
abbrev cX1_blocks : ByteArray := prog_3_method_6_code
def yX1_blocks : MethodName := ⟨RX1, "blocks", "()I"⟩
abbrev cX1_segments : ByteArray := prog_3_method_7_code
def yX1_segments : MethodName := ⟨RX1, "segments", "()I"⟩
abbrev cX1_wordOf : ByteArray := prog_3_method_8_code
def yX1_wordOf : MethodName := ⟨RX1, "wordOf", "(II)J"⟩
abbrev cX1_lay : ByteArray := prog_3_method_9_code
def yX1_lay : MethodName := ⟨RX1, "lay", "(IILSlowSeal$Bytes;)V"⟩
abbrev cX1_putLastBlocks : ByteArray := prog_3_method_10_code
def yX1_putLastBlocks : MethodName := ⟨RX1, "putLastBlocks", "(LSlowSeal$Bytes;)V"⟩
abbrev cX1_doSegment : ByteArray := prog_3_method_11_code
def yX1_doSegment : MethodName := ⟨RX1, "doSegment", "()V"⟩
abbrev cX1_isFirstSlice : ByteArray := prog_3_method_12_code
def yX1_isFirstSlice : MethodName := ⟨RX1, "isFirstSlice", "()Z"⟩
abbrev cX1_goesByAddress : ByteArray := prog_3_method_13_code
def yX1_goesByAddress : MethodName := ⟨RX1, "goesByAddress", "()Z"⟩
abbrev cX1_openAddress : ByteArray := prog_3_method_14_code
def yX1_openAddress : MethodName := ⟨RX1, "openAddress", "()V"⟩
abbrev cX1_farBlock : ByteArray := prog_3_method_15_code
def yX1_farBlock : MethodName := ⟨RX1, "farBlock", "(IJ)I"⟩
abbrev cX1_blockOf : ByteArray := prog_3_method_16_code
def yX1_blockOf : MethodName := ⟨RX1, "blockOf", "(I)[J"⟩
def RX2 : String := "SlowSeal$Hasher"
def TX2 : u_T := fun k => match k with
  | 0 => ("SlowSeal$Hasher", "message", "LSlowSeal$Bytes;", true)
  | 1 => ("SlowSeal$Hasher", "made", "LSlowSeal$Bytes;", true)
  | 2 => ("SlowSeal$Hasher", "h", "[J", true)
  | 3 => ("SlowSeal$Hasher", "v", "[J", true)
  | _ => ("SlowSeal$Hasher", "w", "[J", true)
def tyX2 : Nat → FieldType := fun k => match k with
  | 0 => .object "SlowSeal$Bytes"
  | 1 => .object "SlowSeal$Bytes"
  | 2 => .array .long
  | 3 => .array .long
  | _ => .array .long
abbrev wsX20 : List Cond := u_ws RX2 TX2 5
theorem nmX2 : ∀ a, a < 5 → ∀ b, b < 5 → a ≠ b → (TX2 a).2.1 ≠ (TX2 b).2.1 := by decide +kernel
theorem tyX2_ok : ∀ k, k < 5 → parseFieldDescriptor (TX2 k).2.2.1 = some (tyX2 k) := by decide +kernel
abbrev cX2_init : ByteArray := prog_4_method_1_code
def yX2_init : MethodName := ⟨RX2, "<init>", "()V"⟩
abbrev cX2_openWithKey : ByteArray := prog_4_method_2_code
def yX2_openWithKey : MethodName := ⟨RX2, "openWithKey", "(LSlowSeal$Bytes;)V"⟩
abbrev cX2_openLong : ByteArray := prog_4_method_3_code
def yX2_openLong : MethodName := ⟨RX2, "openLong", "(I)V"⟩
abbrev cX2_makeShort : ByteArray := prog_4_method_4_code
def yX2_makeShort : MethodName := ⟨RX2, "makeShort", "(II)V"⟩
abbrev cX2_makeLong : ByteArray := prog_4_method_5_code
def yX2_makeLong : MethodName := ⟨RX2, "makeLong", "(I)V"⟩
abbrev cX2_takeStateAsMessage : ByteArray := prog_4_method_6_code
def yX2_takeStateAsMessage : MethodName := ⟨RX2, "takeStateAsMessage", "()V"⟩
abbrev cX2_give : ByteArray := prog_4_method_7_code
def yX2_give : MethodName := ⟨RX2, "give", "(I)V"⟩
abbrev cX2_digest : ByteArray := prog_4_method_8_code
def yX2_digest : MethodName := ⟨RX2, "digest", "(II)V"⟩
abbrev cX2_loadPart : ByteArray := prog_4_method_9_code
def yX2_loadPart : MethodName := ⟨RX2, "loadPart", "(IZ)V"⟩
abbrev cX2_foldPart : ByteArray := prog_4_method_10_code
def yX2_foldPart : MethodName := ⟨RX2, "foldPart", "()V"⟩
abbrev cX2_mix : ByteArray := prog_4_method_11_code
def yX2_mix : MethodName := ⟨RX2, "mix", "(IJJ)V"⟩
def RX3 : String := "SlowSeal$Joiner"
def TX3 : u_T := fun k => match k with
  | 0 => ("SlowSeal$Joiner", "sum", "[J", true)
  | 1 => ("SlowSeal$Joiner", "z", "[J", true)
  | _ => ("SlowSeal$Joiner", "v", "[J", true)
def tyX3 : Nat → FieldType := fun k => match k with
  | 0 => .array .long
  | 1 => .array .long
  | _ => .array .long
abbrev wsX30 : List Cond := u_ws RX3 TX3 3
theorem nmX3 : ∀ a, a < 3 → ∀ b, b < 3 → a ≠ b → (TX3 a).2.1 ≠ (TX3 b).2.1 := by decide +kernel
theorem tyX3_ok : ∀ k, k < 3 → parseFieldDescriptor (TX3 k).2.2.1 = some (tyX3 k) := by decide +kernel
abbrev cX3_init : ByteArray := prog_5_method_1_code
def yX3_init : MethodName := ⟨RX3, "<init>", "()V"⟩
abbrev cX3_join : ByteArray := prog_5_method_2_code
def yX3_join : MethodName := ⟨RX3, "join", "([J[J[JZ)V"⟩
abbrev cX3_stir : ByteArray := prog_5_method_3_code
def yX3_stir : MethodName := ⟨RX3, "stir", "(II)V"⟩
abbrev cX3_mixHard : ByteArray := prog_5_method_4_code
def yX3_mixHard : MethodName := ⟨RX3, "mixHard", "(I)V"⟩
abbrev cX3_sumHard : ByteArray := prog_5_method_5_code
def yX3_sumHard : MethodName := ⟨RX3, "sumHard", "(JJ)J"⟩
def RX4 : String := "SlowSeal"
def TX4 : u_T := fun k => match k with
  | 0 => ("SlowSeal", "registers", "[LSlowSeal$Bytes;", true)
  | 1 => ("SlowSeal", "nothing", "LSlowSeal$Bytes;", true)
  | 2 => ("SlowSeal", "opening", "LSlowSeal$Bytes;", true)
  | 3 => ("SlowSeal", "hasher", "LSlowSeal$Hasher;", true)
  | _ => ("SlowSeal", "filling", "LSlowSeal$Filling;", true)
def tyX4 : Nat → FieldType := fun k => match k with
  | 0 => .array (.object "SlowSeal$Bytes")
  | 1 => .object "SlowSeal$Bytes"
  | 2 => .object "SlowSeal$Bytes"
  | 3 => .object "SlowSeal$Hasher"
  | _ => .object "SlowSeal$Filling"
abbrev wsX40 : List Cond := u_ws RX4 TX4 5
theorem nmX4 : ∀ a, a < 5 → ∀ b, b < 5 → a ≠ b → (TX4 a).2.1 ≠ (TX4 b).2.1 := by decide +kernel
theorem tyX4_ok : ∀ k, k < 5 → parseFieldDescriptor (TX4 k).2.2.1 = some (tyX4 k) := by decide +kernel
abbrev cX4_init : ByteArray := prog_1_method_1_code
def yX4_init : MethodName := ⟨RX4, "<init>", "()V"⟩
abbrev cX4_add : ByteArray := prog_1_method_2_code
def yX4_add : MethodName := ⟨RX4, "add", "(IIJ)I"⟩
abbrev cX4_clear : ByteArray := prog_1_method_3_code
def yX4_clear : MethodName := ⟨RX4, "clear", "(I)I"⟩
abbrev cX4_size : ByteArray := prog_1_method_4_code
def yX4_size : MethodName := ⟨RX4, "size", "(I)I"⟩
abbrev cX4_at : ByteArray := prog_1_method_5_code
def yX4_at : MethodName := ⟨RX4, "at", "(II)I"⟩
abbrev cX4_hash : ByteArray := prog_1_method_6_code
def yX4_hash : MethodName := ⟨RX4, "hash", "(IIII)I"⟩
abbrev cX4_longHash : ByteArray := prog_1_method_7_code
def yX4_longHash : MethodName := ⟨RX4, "longHash", "(III)I"⟩
abbrev cX4_begin : ByteArray := prog_1_method_8_code
def yX4_begin : MethodName := ⟨RX4, "begin", "(IIIIIIIII)I"⟩
abbrev cX4_fill : ByteArray := prog_1_method_9_code
def yX4_fill : MethodName := ⟨RX4, "fill", "(I)I"⟩
abbrev cX4_word : ByteArray := prog_1_method_10_code
def yX4_word : MethodName := ⟨RX4, "word", "(II)J"⟩
abbrev cX4_tag : ByteArray := prog_1_method_11_code
def yX4_tag : MethodName := ⟨RX4, "tag", "(I)I"⟩
abbrev cX4_told : ByteArray := prog_1_method_12_code
def yX4_told : MethodName := ⟨RX4, "told", "(I)I"⟩
abbrev cX4_seal : ByteArray := prog_1_method_13_code
def yX4_seal : MethodName := ⟨RX4, "seal", "(IIIIIIII)I"⟩
abbrev cX4_isRegister : ByteArray := prog_1_method_14_code
def yX4_isRegister : MethodName := ⟨RX4, "isRegister", "(I)Z"⟩
abbrev cX4_isRegisterOrNone : ByteArray := prog_1_method_15_code
def yX4_isRegisterOrNone : MethodName := ⟨RX4, "isRegisterOrNone", "(I)Z"⟩
abbrev cX4_bytesOf : ByteArray := prog_1_method_16_code
def yX4_bytesOf : MethodName := ⟨RX4, "bytesOf", "(I)LSlowSeal$Bytes;"⟩
abbrev cX4_putWithLength : ByteArray := prog_1_method_17_code
def yX4_putWithLength : MethodName := ⟨RX4, "putWithLength", "(I)V"⟩
abbrev cX4_layFirstBlocks : ByteArray := prog_1_method_18_code
def yX4_layFirstBlocks : MethodName := ⟨RX4, "layFirstBlocks", "()V"⟩
abbrev cX4_turnRight : ByteArray := prog_1_method_19_code
def yX4_turnRight : MethodName := ⟨RX4, "turnRight", "(JI)J"⟩
def RX5 : String := "SlowSealModel"
def TX5 : u_T := fun k => match k with
  | 0 => ("SlowSealModel", "thrown", "I", false)
  | 1 => ("SlowSealModel", "sizes", "[I", true)
  | 2 => ("SlowSealModel", "bytes", "[I", true)
  | 3 => ("SlowSealModel", "keySize", "I", false)
  | 4 => ("SlowSealModel", "key", "[I", true)
  | 5 => ("SlowSealModel", "size", "I", false)
  | 6 => ("SlowSealModel", "message", "[I", true)
  | 7 => ("SlowSealModel", "h", "[J", true)
  | 8 => ("SlowSealModel", "v", "[J", true)
  | 9 => ("SlowSealModel", "w", "[J", true)
  | 10 => ("SlowSealModel", "out", "[I", true)
  | 11 => ("SlowSealModel", "begun", "Z", false)
  | 12 => ("SlowSealModel", "kind", "I", false)
  | 13 => ("SlowSealModel", "lanes", "I", false)
  | 14 => ("SlowSealModel", "passes", "I", false)
  | 15 => ("SlowSealModel", "tag", "I", false)
  | 16 => ("SlowSealModel", "slice", "I", false)
  | 17 => ("SlowSealModel", "done", "I", false)
  | 18 => ("SlowSealModel", "memory", "[J", true)
  | 19 => ("SlowSealModel", "near", "[J", true)
  | 20 => ("SlowSealModel", "far", "[J", true)
  | 21 => ("SlowSealModel", "mixed", "[J", true)
  | _ => ("SlowSealModel", "address", "[J", true)
def tyX5 : Nat → FieldType := fun k => match k with
  | 0 => .int
  | 1 => .array .int
  | 2 => .array .int
  | 3 => .int
  | 4 => .array .int
  | 5 => .int
  | 6 => .array .int
  | 7 => .array .long
  | 8 => .array .long
  | 9 => .array .long
  | 10 => .array .int
  | 11 => .boolean
  | 12 => .int
  | 13 => .int
  | 14 => .int
  | 15 => .int
  | 16 => .int
  | 17 => .int
  | 18 => .array .long
  | 19 => .array .long
  | 20 => .array .long
  | 21 => .array .long
  | _ => .array .long
abbrev wsX50 : List Cond := u_ws RX5 TX5 23
theorem nmX5 : ∀ a, a < 23 → ∀ b, b < 23 → a ≠ b → (TX5 a).2.1 ≠ (TX5 b).2.1 := by decide +kernel
theorem tyX5_ok : ∀ k, k < 23 → parseFieldDescriptor (TX5 k).2.2.1 = some (tyX5 k) := by decide +kernel
abbrev cX5_init : ByteArray := prog_7_method_1_code
def yX5_init : MethodName := ⟨RX5, "<init>", "()V"⟩
abbrev cX5_in : ByteArray := prog_7_method_3_code
def yX5_in : MethodName := ⟨RX5, "in", "(III)Z"⟩
abbrev cX5_isRegister : ByteArray := prog_7_method_4_code
def yX5_isRegister : MethodName := ⟨RX5, "isRegister", "(I)Z"⟩
abbrev cX5_add : ByteArray := prog_7_method_5_code
def yX5_add : MethodName := ⟨RX5, "add", "(IIJ)I"⟩
abbrev cX5_clear : ByteArray := prog_7_method_6_code
def yX5_clear : MethodName := ⟨RX5, "clear", "(I)I"⟩
abbrev cX5_size : ByteArray := prog_7_method_7_code
def yX5_size : MethodName := ⟨RX5, "size", "(I)I"⟩
abbrev cX5_at : ByteArray := prog_7_method_8_code
def yX5_at : MethodName := ⟨RX5, "at", "(II)I"⟩
abbrev cX5_give : ByteArray := prog_7_method_9_code
def yX5_give : MethodName := ⟨RX5, "give", "(II)V"⟩
abbrev cX5_start : ByteArray := prog_7_method_10_code
def yX5_start : MethodName := ⟨RX5, "start", "(I)J"⟩
abbrev cX5_order : ByteArray := prog_7_method_11_code
def yX5_order : MethodName := ⟨RX5, "order", "(I)J"⟩
abbrev cX5_turned : ByteArray := prog_7_method_12_code
def yX5_turned : MethodName := ⟨RX5, "turned", "(JI)J"⟩
abbrev cX5_mix : ByteArray := prog_7_method_13_code
def yX5_mix : MethodName := ⟨RX5, "mix", "(IIIIJJ)V"⟩
abbrev cX5_picked : ByteArray := prog_7_method_14_code
def yX5_picked : MethodName := ⟨RX5, "picked", "(JI)J"⟩
abbrev cX5_byteAt : ByteArray := prog_7_method_15_code
def yX5_byteAt : MethodName := ⟨RX5, "byteAt", "(I)I"⟩
abbrev cX5_part : ByteArray := prog_7_method_16_code
def yX5_part : MethodName := ⟨RX5, "part", "(IIZ)V"⟩
abbrev cX5_hashTo : ByteArray := prog_7_method_17_code
def yX5_hashTo : MethodName := ⟨RX5, "hashTo", "(II)V"⟩
abbrev cX5_put : ByteArray := prog_7_method_18_code
def yX5_put : MethodName := ⟨RX5, "put", "(IJ)V"⟩
abbrev cX5_putRegister : ByteArray := prog_7_method_19_code
def yX5_putRegister : MethodName := ⟨RX5, "putRegister", "(I)V"⟩
abbrev cX5_longTo : ByteArray := prog_7_method_20_code
def yX5_longTo : MethodName := ⟨RX5, "longTo", "(I)V"⟩
abbrev cX5_hash : ByteArray := prog_7_method_21_code
def yX5_hash : MethodName := ⟨RX5, "hash", "(IIII)I"⟩
abbrev cX5_longHash : ByteArray := prog_7_method_22_code
def yX5_longHash : MethodName := ⟨RX5, "longHash", "(III)I"⟩
abbrev cX5_putOwn : ByteArray := prog_7_method_23_code
def yX5_putOwn : MethodName := ⟨RX5, "putOwn", "(I)V"⟩
abbrev cX5_isPerhaps : ByteArray := prog_7_method_24_code
def yX5_isPerhaps : MethodName := ⟨RX5, "isPerhaps", "(I)Z"⟩
abbrev cX5_begin : ByteArray := prog_7_method_25_code
def yX5_begin : MethodName := ⟨RX5, "begin", "(IIIIIIIII)I"⟩
abbrev cX5_half : ByteArray := prog_7_method_26_code
def yX5_half : MethodName := ⟨RX5, "half", "(J)J"⟩
abbrev cX5_hard : ByteArray := prog_7_method_27_code
def yX5_hard : MethodName := ⟨RX5, "hard", "(IIII)V"⟩
abbrev cX5_spot : ByteArray := prog_7_method_28_code
def yX5_spot : MethodName := ⟨RX5, "spot", "(IZI)I"⟩
abbrev cX5_quarter : ByteArray := prog_7_method_29_code
def yX5_quarter : MethodName := ⟨RX5, "quarter", "(IZIIII)V"⟩
abbrev cX5_stir : ByteArray := prog_7_method_30_code
def yX5_stir : MethodName := ⟨RX5, "stir", "(IZ)V"⟩
abbrev cX5_join : ByteArray := prog_7_method_31_code
def yX5_join : MethodName := ⟨RX5, "join", "()V"⟩
abbrev cX5_makeAddress : ByteArray := prog_7_method_32_code
def yX5_makeAddress : MethodName := ⟨RX5, "makeAddress", "(IIII)V"⟩
abbrev cX5_farBlock : ByteArray := prog_7_method_33_code
def yX5_farBlock : MethodName := ⟨RX5, "farBlock", "(IIIIJ)I"⟩
abbrev cX5_segment : ByteArray := prog_7_method_34_code
def yX5_segment : MethodName := ⟨RX5, "segment", "(III)V"⟩
abbrev cX5_fillSome : ByteArray := prog_7_method_35_code
def yX5_fillSome : MethodName := ⟨RX5, "fillSome", "(I)I"⟩
abbrev cX5_fill : ByteArray := prog_7_method_36_code
def yX5_fill : MethodName := ⟨RX5, "fill", "(I)I"⟩
abbrev cX5_word : ByteArray := prog_7_method_37_code
def yX5_word : MethodName := ⟨RX5, "word", "(II)J"⟩
abbrev cX5_makeTag : ByteArray := prog_7_method_38_code
def yX5_makeTag : MethodName := ⟨RX5, "makeTag", "()V"⟩
abbrev cX5_tag : ByteArray := prog_7_method_39_code
def yX5_tag : MethodName := ⟨RX5, "tag", "(I)I"⟩
abbrev cX5_told : ByteArray := prog_7_method_40_code
def yX5_told : MethodName := ⟨RX5, "told", "(I)I"⟩
abbrev cX5_seal : ByteArray := prog_7_method_41_code
def yX5_seal : MethodName := ⟨RX5, "seal", "(IIIIIIII)I"⟩
def RJ9 : String := "java/lang/Math"
def TJ9 : u_T := fun k => match k with
  | _ => ("", "", "", false)
def tyJ9 : Nat → FieldType := fun k => match k with
  | _ => .int
abbrev wsJ90 : List Cond := u_ws RJ9 TJ9 0
theorem nmJ9 : ∀ a, a < 0 → ∀ b, b < 0 → a ≠ b → (TJ9 a).2.1 ≠ (TJ9 b).2.1 := by decide +kernel
theorem tyJ9_ok : ∀ k, k < 0 → parseFieldDescriptor (TJ9 k).2.2.1 = some (tyJ9 k) := by decide +kernel
abbrev cJ9_max_7cf53 : ByteArray := prog_8_method_65_code
def yJ9_max_7cf53 : MethodName := ⟨RJ9, "max", "(II)I"⟩
abbrev cJ9_min_7cf53 : ByteArray := prog_8_method_69_code
def yJ9_min_7cf53 : MethodName := ⟨RJ9, "min", "(II)I"⟩
def RL : String := "SlowSealLaw"
abbrev cL_law : ByteArray := code
def yL_law : MethodName := ⟨RL, "law", "([I)Z"⟩
end
section
theorem dX0_init_0 : decode cX0_init 0 = .ok (.aload_n 0, 1) := by decide +kernel
theorem dX0_init_1 : decode cX0_init 1 = .ok (.invokespecial 3, 3) := by decide +kernel
theorem dX0_init_4 : decode cX0_init 4 = .ok (.aload_n 0, 1) := by decide +kernel
theorem dX0_init_5 : decode cX0_init 5 = .ok (.iload_n 1, 1) := by decide +kernel
theorem dX0_init_6 : decode cX0_init 6 = .ok (.iconst 0, 1) := by decide +kernel
theorem dX0_init_7 : decode cX0_init 7 = .ok (.invokestatic 9, 3) := by decide +kernel
theorem dX0_init_10 : decode cX0_init 10 = .ok (.newarray .byte, 2) := by decide +kernel
theorem dX0_init_12 : decode cX0_init 12 = .ok (.putfield 15, 3) := by decide +kernel
theorem dX0_init_15 : decode cX0_init 15 = .ok (.return_, 1) := by decide +kernel
theorem dX0_empty_0 : decode cX0_empty 0 = .ok (.aload_n 0, 1) := by decide +kernel
theorem dX0_empty_1 : decode cX0_empty 1 = .ok (.iconst 0, 1) := by decide +kernel
theorem dX0_empty_2 : decode cX0_empty 2 = .ok (.putfield 21, 3) := by decide +kernel
theorem dX0_empty_5 : decode cX0_empty 5 = .ok (.return_, 1) := by decide +kernel
theorem dX0_byteAt_0 : decode cX0_byteAt 0 = .ok (.iload_n 1, 1) := by decide +kernel
theorem dX0_byteAt_1 : decode cX0_byteAt 1 = .ok (.ifCond .lt 24, 3) := by decide +kernel
theorem dX0_byteAt_4 : decode cX0_byteAt 4 = .ok (.iload_n 1, 1) := by decide +kernel
theorem dX0_byteAt_5 : decode cX0_byteAt 5 = .ok (.aload_n 0, 1) := by decide +kernel
theorem dX0_byteAt_6 : decode cX0_byteAt 6 = .ok (.getfield 21, 3) := by decide +kernel
theorem dX0_byteAt_9 : decode cX0_byteAt 9 = .ok (.if_icmp .ge 16, 3) := by decide +kernel
theorem dX0_byteAt_12 : decode cX0_byteAt 12 = .ok (.aload_n 0, 1) := by decide +kernel
theorem dX0_byteAt_13 : decode cX0_byteAt 13 = .ok (.getfield 15, 3) := by decide +kernel
theorem dX0_byteAt_16 : decode cX0_byteAt 16 = .ok (.iload_n 1, 1) := by decide +kernel
theorem dX0_byteAt_17 : decode cX0_byteAt 17 = .ok (.baload, 1) := by decide +kernel
theorem dX0_byteAt_18 : decode cX0_byteAt 18 = .ok (.sipush 255, 3) := by decide +kernel
theorem dX0_byteAt_21 : decode cX0_byteAt 21 = .ok (.iand, 1) := by decide +kernel
theorem dX0_byteAt_22 : decode cX0_byteAt 22 = .ok (.goto 4, 3) := by decide +kernel
theorem dX0_byteAt_25 : decode cX0_byteAt 25 = .ok (.iconst (-1), 1) := by decide +kernel
theorem dX0_byteAt_26 : decode cX0_byteAt 26 = .ok (.ireturn, 1) := by decide +kernel
theorem dX0_wordAt_0 : decode cX0_wordAt 0 = .ok (.lconst 0, 1) := by decide +kernel
theorem dX0_wordAt_1 : decode cX0_wordAt 1 = .ok (.lstore_n 2, 1) := by decide +kernel
theorem dX0_wordAt_2 : decode cX0_wordAt 2 = .ok (.iload_n 1, 1) := by decide +kernel
theorem dX0_wordAt_3 : decode cX0_wordAt 3 = .ok (.bipush 8, 2) := by decide +kernel
theorem dX0_wordAt_5 : decode cX0_wordAt 5 = .ok (.iadd, 1) := by decide +kernel
theorem dX0_wordAt_6 : decode cX0_wordAt 6 = .ok (.aload_n 0, 1) := by decide +kernel
theorem dX0_wordAt_7 : decode cX0_wordAt 7 = .ok (.getfield 21, 3) := by decide +kernel
theorem dX0_wordAt_10 : decode cX0_wordAt 10 = .ok (.invokestatic 25, 3) := by decide +kernel
theorem dX0_wordAt_13 : decode cX0_wordAt 13 = .ok (.istore 4, 2) := by decide +kernel
theorem dX0_wordAt_15 : decode cX0_wordAt 15 = .ok (.iload 4, 2) := by decide +kernel
theorem dX0_wordAt_17 : decode cX0_wordAt 17 = .ok (.iconst 1, 1) := by decide +kernel
theorem dX0_wordAt_18 : decode cX0_wordAt 18 = .ok (.isub, 1) := by decide +kernel
theorem dX0_wordAt_19 : decode cX0_wordAt 19 = .ok (.istore 5, 2) := by decide +kernel
theorem dX0_wordAt_21 : decode cX0_wordAt 21 = .ok (.iload 5, 2) := by decide +kernel
theorem dX0_wordAt_23 : decode cX0_wordAt 23 = .ok (.ifCond .lt 33, 3) := by decide +kernel
theorem dX0_wordAt_26 : decode cX0_wordAt 26 = .ok (.iload 5, 2) := by decide +kernel
theorem dX0_wordAt_28 : decode cX0_wordAt 28 = .ok (.iload_n 1, 1) := by decide +kernel
theorem dX0_wordAt_29 : decode cX0_wordAt 29 = .ok (.if_icmp .lt 27, 3) := by decide +kernel
theorem dX0_wordAt_32 : decode cX0_wordAt 32 = .ok (.lload_n 2, 1) := by decide +kernel
theorem dX0_wordAt_33 : decode cX0_wordAt 33 = .ok (.bipush 8, 2) := by decide +kernel
theorem dX0_wordAt_35 : decode cX0_wordAt 35 = .ok (.lshl, 1) := by decide +kernel
theorem dX0_wordAt_36 : decode cX0_wordAt 36 = .ok (.aload_n 0, 1) := by decide +kernel
theorem dX0_wordAt_37 : decode cX0_wordAt 37 = .ok (.getfield 15, 3) := by decide +kernel
theorem dX0_wordAt_40 : decode cX0_wordAt 40 = .ok (.iload 5, 2) := by decide +kernel
theorem dX0_wordAt_42 : decode cX0_wordAt 42 = .ok (.baload, 1) := by decide +kernel
theorem dX0_wordAt_43 : decode cX0_wordAt 43 = .ok (.sipush 255, 3) := by decide +kernel
theorem dX0_wordAt_46 : decode cX0_wordAt 46 = .ok (.iand, 1) := by decide +kernel
theorem dX0_wordAt_47 : decode cX0_wordAt 47 = .ok (.i2l, 1) := by decide +kernel
theorem dX0_wordAt_48 : decode cX0_wordAt 48 = .ok (.lor, 1) := by decide +kernel
theorem dX0_wordAt_49 : decode cX0_wordAt 49 = .ok (.lstore_n 2, 1) := by decide +kernel
theorem dX0_wordAt_50 : decode cX0_wordAt 50 = .ok (.iinc 5 (-1), 3) := by decide +kernel
theorem dX0_wordAt_53 : decode cX0_wordAt 53 = .ok (.goto (-32), 3) := by decide +kernel
theorem dX0_wordAt_56 : decode cX0_wordAt 56 = .ok (.lload_n 2, 1) := by decide +kernel
theorem dX0_wordAt_57 : decode cX0_wordAt 57 = .ok (.lreturn, 1) := by decide +kernel
theorem dX0_put_0 : decode cX0_put 0 = .ok (.aload_n 0, 1) := by decide +kernel
theorem dX0_put_1 : decode cX0_put 1 = .ok (.getfield 21, 3) := by decide +kernel
theorem dX0_put_4 : decode cX0_put 4 = .ok (.aload_n 0, 1) := by decide +kernel
theorem dX0_put_5 : decode cX0_put 5 = .ok (.getfield 15, 3) := by decide +kernel
theorem dX0_put_8 : decode cX0_put 8 = .ok (.arraylength, 1) := by decide +kernel
theorem dX0_put_9 : decode cX0_put 9 = .ok (.if_icmp .ge 24, 3) := by decide +kernel
theorem dX0_put_12 : decode cX0_put 12 = .ok (.aload_n 0, 1) := by decide +kernel
theorem dX0_put_13 : decode cX0_put 13 = .ok (.getfield 15, 3) := by decide +kernel
theorem dX0_put_16 : decode cX0_put 16 = .ok (.aload_n 0, 1) := by decide +kernel
theorem dX0_put_17 : decode cX0_put 17 = .ok (.getfield 21, 3) := by decide +kernel
theorem dX0_put_20 : decode cX0_put 20 = .ok (.iload_n 1, 1) := by decide +kernel
theorem dX0_put_21 : decode cX0_put 21 = .ok (.i2b, 1) := by decide +kernel
theorem dX0_put_22 : decode cX0_put 22 = .ok (.bastore, 1) := by decide +kernel
theorem dX0_put_23 : decode cX0_put 23 = .ok (.aload_n 0, 1) := by decide +kernel
theorem dX0_put_24 : decode cX0_put 24 = .ok (.dup, 1) := by decide +kernel
theorem dX0_put_25 : decode cX0_put 25 = .ok (.getfield 21, 3) := by decide +kernel
theorem dX0_put_28 : decode cX0_put 28 = .ok (.iconst 1, 1) := by decide +kernel
theorem dX0_put_29 : decode cX0_put 29 = .ok (.iadd, 1) := by decide +kernel
theorem dX0_put_30 : decode cX0_put 30 = .ok (.putfield 21, 3) := by decide +kernel
theorem dX0_put_33 : decode cX0_put 33 = .ok (.return_, 1) := by decide +kernel
theorem dX0_putNumber_0 : decode cX0_putNumber 0 = .ok (.iconst 0, 1) := by decide +kernel
theorem dX0_putNumber_1 : decode cX0_putNumber 1 = .ok (.istore 4, 2) := by decide +kernel
theorem dX0_putNumber_3 : decode cX0_putNumber 3 = .ok (.iload 4, 2) := by decide +kernel
theorem dX0_putNumber_5 : decode cX0_putNumber 5 = .ok (.iload_n 3, 1) := by decide +kernel
theorem dX0_putNumber_6 : decode cX0_putNumber 6 = .ok (.if_icmp .ge 21, 3) := by decide +kernel
theorem dX0_putNumber_9 : decode cX0_putNumber 9 = .ok (.aload_n 0, 1) := by decide +kernel
theorem dX0_putNumber_10 : decode cX0_putNumber 10 = .ok (.lload_n 1, 1) := by decide +kernel
theorem dX0_putNumber_11 : decode cX0_putNumber 11 = .ok (.bipush 8, 2) := by decide +kernel
theorem dX0_putNumber_13 : decode cX0_putNumber 13 = .ok (.iload 4, 2) := by decide +kernel
theorem dX0_putNumber_15 : decode cX0_putNumber 15 = .ok (.imul, 1) := by decide +kernel
theorem dX0_putNumber_16 : decode cX0_putNumber 16 = .ok (.lushr, 1) := by decide +kernel
theorem dX0_putNumber_17 : decode cX0_putNumber 17 = .ok (.l2i, 1) := by decide +kernel
theorem dX0_putNumber_18 : decode cX0_putNumber 18 = .ok (.invokevirtual 28, 3) := by decide +kernel
theorem dX0_putNumber_21 : decode cX0_putNumber 21 = .ok (.iinc 4 1, 3) := by decide +kernel
theorem dX0_putNumber_24 : decode cX0_putNumber 24 = .ok (.goto (-21), 3) := by decide +kernel
theorem dX0_putNumber_27 : decode cX0_putNumber 27 = .ok (.return_, 1) := by decide +kernel
theorem dX0_putAll_0 : decode cX0_putAll 0 = .ok (.iconst 0, 1) := by decide +kernel
theorem dX0_putAll_1 : decode cX0_putAll 1 = .ok (.istore_n 2, 1) := by decide +kernel
theorem dX0_putAll_2 : decode cX0_putAll 2 = .ok (.iload_n 2, 1) := by decide +kernel
theorem dX0_putAll_3 : decode cX0_putAll 3 = .ok (.aload_n 1, 1) := by decide +kernel
theorem dX0_putAll_4 : decode cX0_putAll 4 = .ok (.getfield 21, 3) := by decide +kernel
theorem dX0_putAll_7 : decode cX0_putAll 7 = .ok (.if_icmp .ge 18, 3) := by decide +kernel
theorem dX0_putAll_10 : decode cX0_putAll 10 = .ok (.aload_n 0, 1) := by decide +kernel
theorem dX0_putAll_11 : decode cX0_putAll 11 = .ok (.aload_n 1, 1) := by decide +kernel
theorem dX0_putAll_12 : decode cX0_putAll 12 = .ok (.iload_n 2, 1) := by decide +kernel
theorem dX0_putAll_13 : decode cX0_putAll 13 = .ok (.invokevirtual 32, 3) := by decide +kernel
theorem dX0_putAll_16 : decode cX0_putAll 16 = .ok (.invokevirtual 28, 3) := by decide +kernel
theorem dX0_putAll_19 : decode cX0_putAll 19 = .ok (.iinc 2 1, 3) := by decide +kernel
theorem dX0_putAll_22 : decode cX0_putAll 22 = .ok (.goto (-20), 3) := by decide +kernel
theorem dX0_putAll_25 : decode cX0_putAll 25 = .ok (.return_, 1) := by decide +kernel
theorem dX0_become_0 : decode cX0_become 0 = .ok (.aload_n 0, 1) := by decide +kernel
theorem dX0_become_1 : decode cX0_become 1 = .ok (.invokevirtual 36, 3) := by decide +kernel
theorem dX0_become_4 : decode cX0_become 4 = .ok (.aload_n 0, 1) := by decide +kernel
theorem dX0_become_5 : decode cX0_become 5 = .ok (.aload_n 1, 1) := by decide +kernel
theorem dX0_become_6 : decode cX0_become 6 = .ok (.invokevirtual 39, 3) := by decide +kernel
theorem dX0_become_9 : decode cX0_become 9 = .ok (.return_, 1) := by decide +kernel
theorem dX1_init_0 : decode cX1_init 0 = .ok (.aload_n 0, 1) := by decide +kernel
theorem dX1_init_1 : decode cX1_init 1 = .ok (.invokespecial 3, 3) := by decide +kernel
theorem dX1_init_4 : decode cX1_init 4 = .ok (.aload_n 0, 1) := by decide +kernel
theorem dX1_init_5 : decode cX1_init 5 = .ok (.sipush 128, 3) := by decide +kernel
theorem dX1_init_8 : decode cX1_init 8 = .ok (.sipush 128, 3) := by decide +kernel
theorem dX1_init_11 : decode cX1_init 11 = .ok (.multianewarray 9 2, 4) := by decide +kernel
theorem dX1_init_15 : decode cX1_init 15 = .ok (.putfield 11, 3) := by decide +kernel
theorem dX1_init_18 : decode cX1_init 18 = .ok (.aload_n 0, 1) := by decide +kernel
theorem dX1_init_19 : decode cX1_init 19 = .ok (.sipush 128, 3) := by decide +kernel
theorem dX1_init_22 : decode cX1_init 22 = .ok (.newarray .long, 2) := by decide +kernel
theorem dX1_init_24 : decode cX1_init 24 = .ok (.putfield 16, 3) := by decide +kernel
theorem dX1_init_27 : decode cX1_init 27 = .ok (.aload_n 0, 1) := by decide +kernel
theorem dX1_init_28 : decode cX1_init 28 = .ok (.sipush 128, 3) := by decide +kernel
theorem dX1_init_31 : decode cX1_init 31 = .ok (.newarray .long, 2) := by decide +kernel
theorem dX1_init_33 : decode cX1_init 33 = .ok (.putfield 20, 3) := by decide +kernel
theorem dX1_init_36 : decode cX1_init 36 = .ok (.aload_n 0, 1) := by decide +kernel
theorem dX1_init_37 : decode cX1_init 37 = .ok (.new 23, 3) := by decide +kernel
theorem dX1_init_40 : decode cX1_init 40 = .ok (.dup, 1) := by decide +kernel
theorem dX1_init_41 : decode cX1_init 41 = .ok (.invokespecial 25, 3) := by decide +kernel
theorem dX1_init_44 : decode cX1_init 44 = .ok (.putfield 26, 3) := by decide +kernel
theorem dX1_init_47 : decode cX1_init 47 = .ok (.return_, 1) := by decide +kernel
theorem dX1_isPossible_0 : decode cX1_isPossible 0 = .ok (.iload_n 0, 1) := by decide +kernel
theorem dX1_isPossible_1 : decode cX1_isPossible 1 = .ok (.ifCond .lt 61, 3) := by decide +kernel
theorem dX1_isPossible_4 : decode cX1_isPossible 4 = .ok (.iload_n 0, 1) := by decide +kernel
theorem dX1_isPossible_5 : decode cX1_isPossible 5 = .ok (.iconst 2, 1) := by decide +kernel
theorem dX1_isPossible_6 : decode cX1_isPossible 6 = .ok (.if_icmp .gt 56, 3) := by decide +kernel
theorem dX1_isPossible_9 : decode cX1_isPossible 9 = .ok (.iload_n 1, 1) := by decide +kernel
theorem dX1_isPossible_10 : decode cX1_isPossible 10 = .ok (.iconst 1, 1) := by decide +kernel
theorem dX1_isPossible_11 : decode cX1_isPossible 11 = .ok (.if_icmp .lt 51, 3) := by decide +kernel
theorem dX1_isPossible_14 : decode cX1_isPossible 14 = .ok (.iload_n 1, 1) := by decide +kernel
theorem dX1_isPossible_15 : decode cX1_isPossible 15 = .ok (.iconst 4, 1) := by decide +kernel
theorem dX1_isPossible_16 : decode cX1_isPossible 16 = .ok (.if_icmp .gt 46, 3) := by decide +kernel
theorem dX1_isPossible_19 : decode cX1_isPossible 19 = .ok (.iload_n 2, 1) := by decide +kernel
theorem dX1_isPossible_20 : decode cX1_isPossible 20 = .ok (.iconst 1, 1) := by decide +kernel
theorem dX1_isPossible_21 : decode cX1_isPossible 21 = .ok (.if_icmp .lt 41, 3) := by decide +kernel
theorem dX1_isPossible_24 : decode cX1_isPossible 24 = .ok (.iload_n 2, 1) := by decide +kernel
theorem dX1_isPossible_25 : decode cX1_isPossible 25 = .ok (.iconst 5, 1) := by decide +kernel
theorem dX1_isPossible_26 : decode cX1_isPossible 26 = .ok (.if_icmp .gt 36, 3) := by decide +kernel
theorem dX1_isPossible_29 : decode cX1_isPossible 29 = .ok (.iload_n 3, 1) := by decide +kernel
theorem dX1_isPossible_30 : decode cX1_isPossible 30 = .ok (.bipush 8, 2) := by decide +kernel
theorem dX1_isPossible_32 : decode cX1_isPossible 32 = .ok (.iload_n 1, 1) := by decide +kernel
theorem dX1_isPossible_33 : decode cX1_isPossible 33 = .ok (.imul, 1) := by decide +kernel
theorem dX1_isPossible_34 : decode cX1_isPossible 34 = .ok (.if_icmp .lt 28, 3) := by decide +kernel
theorem dX1_isPossible_37 : decode cX1_isPossible 37 = .ok (.iload_n 3, 1) := by decide +kernel
theorem dX1_isPossible_38 : decode cX1_isPossible 38 = .ok (.sipush 128, 3) := by decide +kernel
theorem dX1_isPossible_41 : decode cX1_isPossible 41 = .ok (.if_icmp .gt 21, 3) := by decide +kernel
theorem dX1_isPossible_44 : decode cX1_isPossible 44 = .ok (.iload 4, 2) := by decide +kernel
theorem dX1_isPossible_46 : decode cX1_isPossible 46 = .ok (.iconst 4, 1) := by decide +kernel
theorem dX1_isPossible_47 : decode cX1_isPossible 47 = .ok (.if_icmp .lt 15, 3) := by decide +kernel
theorem dX1_isPossible_50 : decode cX1_isPossible 50 = .ok (.iload 4, 2) := by decide +kernel
theorem dX1_isPossible_52 : decode cX1_isPossible 52 = .ok (.sipush 128, 3) := by decide +kernel
theorem dX1_isPossible_55 : decode cX1_isPossible 55 = .ok (.if_icmp .gt 7, 3) := by decide +kernel
theorem dX1_isPossible_58 : decode cX1_isPossible 58 = .ok (.iconst 1, 1) := by decide +kernel
theorem dX1_isPossible_59 : decode cX1_isPossible 59 = .ok (.goto 4, 3) := by decide +kernel
theorem dX1_isPossible_62 : decode cX1_isPossible 62 = .ok (.iconst 0, 1) := by decide +kernel
theorem dX1_isPossible_63 : decode cX1_isPossible 63 = .ok (.ireturn, 1) := by decide +kernel
theorem dX1_restart_0 : decode cX1_restart 0 = .ok (.iload_n 1, 1) := by decide +kernel
theorem dX1_restart_1 : decode cX1_restart 1 = .ok (.iload_n 2, 1) := by decide +kernel
theorem dX1_restart_2 : decode cX1_restart 2 = .ok (.iload_n 3, 1) := by decide +kernel
theorem dX1_restart_3 : decode cX1_restart 3 = .ok (.iload 4, 2) := by decide +kernel
theorem dX1_restart_5 : decode cX1_restart 5 = .ok (.iload 5, 2) := by decide +kernel
theorem dX1_restart_7 : decode cX1_restart 7 = .ok (.invokestatic 30, 3) := by decide +kernel
theorem dX1_restart_10 : decode cX1_restart 10 = .ok (.ifCond .ne 4, 3) := by decide +kernel
theorem dX1_restart_13 : decode cX1_restart 13 = .ok (.return_, 1) := by decide +kernel
theorem dX1_restart_14 : decode cX1_restart 14 = .ok (.aload_n 0, 1) := by decide +kernel
theorem dX1_restart_15 : decode cX1_restart 15 = .ok (.iload_n 1, 1) := by decide +kernel
theorem dX1_restart_16 : decode cX1_restart 16 = .ok (.putfield 34, 3) := by decide +kernel
theorem dX1_restart_19 : decode cX1_restart 19 = .ok (.aload_n 0, 1) := by decide +kernel
theorem dX1_restart_20 : decode cX1_restart 20 = .ok (.iload_n 2, 1) := by decide +kernel
theorem dX1_restart_21 : decode cX1_restart 21 = .ok (.putfield 38, 3) := by decide +kernel
theorem dX1_restart_24 : decode cX1_restart 24 = .ok (.aload_n 0, 1) := by decide +kernel
theorem dX1_restart_25 : decode cX1_restart 25 = .ok (.iload_n 3, 1) := by decide +kernel
theorem dX1_restart_26 : decode cX1_restart 26 = .ok (.putfield 41, 3) := by decide +kernel
theorem dX1_restart_29 : decode cX1_restart 29 = .ok (.aload_n 0, 1) := by decide +kernel
theorem dX1_restart_30 : decode cX1_restart 30 = .ok (.iload 5, 2) := by decide +kernel
theorem dX1_restart_32 : decode cX1_restart 32 = .ok (.putfield 44, 3) := by decide +kernel
theorem dX1_restart_35 : decode cX1_restart 35 = .ok (.aload_n 0, 1) := by decide +kernel
theorem dX1_restart_36 : decode cX1_restart 36 = .ok (.iload 4, 2) := by decide +kernel
theorem dX1_restart_38 : decode cX1_restart 38 = .ok (.iconst 4, 1) := by decide +kernel
theorem dX1_restart_39 : decode cX1_restart 39 = .ok (.iload_n 2, 1) := by decide +kernel
theorem dX1_restart_40 : decode cX1_restart 40 = .ok (.imul, 1) := by decide +kernel
theorem dX1_restart_41 : decode cX1_restart 41 = .ok (.idiv, 1) := by decide +kernel
theorem dX1_restart_42 : decode cX1_restart 42 = .ok (.putfield 47, 3) := by decide +kernel
theorem dX1_restart_45 : decode cX1_restart 45 = .ok (.aload_n 0, 1) := by decide +kernel
theorem dX1_restart_46 : decode cX1_restart 46 = .ok (.iconst 4, 1) := by decide +kernel
theorem dX1_restart_47 : decode cX1_restart 47 = .ok (.aload_n 0, 1) := by decide +kernel
theorem dX1_restart_48 : decode cX1_restart 48 = .ok (.getfield 47, 3) := by decide +kernel
theorem dX1_restart_51 : decode cX1_restart 51 = .ok (.imul, 1) := by decide +kernel
theorem dX1_restart_52 : decode cX1_restart 52 = .ok (.putfield 50, 3) := by decide +kernel
theorem dX1_restart_55 : decode cX1_restart 55 = .ok (.aload_n 0, 1) := by decide +kernel
theorem dX1_restart_56 : decode cX1_restart 56 = .ok (.iconst 0, 1) := by decide +kernel
theorem dX1_restart_57 : decode cX1_restart 57 = .ok (.putfield 53, 3) := by decide +kernel
theorem dX1_restart_60 : decode cX1_restart 60 = .ok (.iconst 0, 1) := by decide +kernel
theorem dX1_restart_61 : decode cX1_restart 61 = .ok (.istore 6, 2) := by decide +kernel
theorem dX1_restart_63 : decode cX1_restart 63 = .ok (.iload 6, 2) := by decide +kernel
theorem dX1_restart_65 : decode cX1_restart 65 = .ok (.sipush 128, 3) := by decide +kernel
theorem dX1_restart_68 : decode cX1_restart 68 = .ok (.if_icmp .ge 37, 3) := by decide +kernel
theorem dX1_restart_71 : decode cX1_restart 71 = .ok (.iconst 0, 1) := by decide +kernel
theorem dX1_restart_72 : decode cX1_restart 72 = .ok (.istore 7, 2) := by decide +kernel
theorem dX1_restart_74 : decode cX1_restart 74 = .ok (.iload 7, 2) := by decide +kernel
theorem dX1_restart_76 : decode cX1_restart 76 = .ok (.sipush 128, 3) := by decide +kernel
theorem dX1_restart_79 : decode cX1_restart 79 = .ok (.if_icmp .ge 20, 3) := by decide +kernel
theorem dX1_restart_82 : decode cX1_restart 82 = .ok (.aload_n 0, 1) := by decide +kernel
theorem dX1_restart_83 : decode cX1_restart 83 = .ok (.getfield 11, 3) := by decide +kernel
theorem dX1_restart_86 : decode cX1_restart 86 = .ok (.iload 6, 2) := by decide +kernel
theorem dX1_restart_88 : decode cX1_restart 88 = .ok (.aaload, 1) := by decide +kernel
theorem dX1_restart_89 : decode cX1_restart 89 = .ok (.iload 7, 2) := by decide +kernel
theorem dX1_restart_91 : decode cX1_restart 91 = .ok (.lconst 0, 1) := by decide +kernel
theorem dX1_restart_92 : decode cX1_restart 92 = .ok (.lastore, 1) := by decide +kernel
theorem dX1_restart_93 : decode cX1_restart 93 = .ok (.iinc 7 1, 3) := by decide +kernel
theorem dX1_restart_96 : decode cX1_restart 96 = .ok (.goto (-22), 3) := by decide +kernel
theorem dX1_restart_99 : decode cX1_restart 99 = .ok (.iinc 6 1, 3) := by decide +kernel
theorem dX1_restart_102 : decode cX1_restart 102 = .ok (.goto (-39), 3) := by decide +kernel
theorem dX1_restart_105 : decode cX1_restart 105 = .ok (.return_, 1) := by decide +kernel
theorem dX1_putSettings_0 : decode cX1_putSettings 0 = .ok (.aload_n 1, 1) := by decide +kernel
theorem dX1_putSettings_1 : decode cX1_putSettings 1 = .ok (.aload_n 0, 1) := by decide +kernel
theorem dX1_putSettings_2 : decode cX1_putSettings 2 = .ok (.getfield 38, 3) := by decide +kernel
theorem dX1_putSettings_5 : decode cX1_putSettings 5 = .ok (.i2l, 1) := by decide +kernel
theorem dX1_putSettings_6 : decode cX1_putSettings 6 = .ok (.iconst 4, 1) := by decide +kernel
theorem dX1_putSettings_7 : decode cX1_putSettings 7 = .ok (.invokevirtual 56, 3) := by decide +kernel
theorem dX1_putSettings_10 : decode cX1_putSettings 10 = .ok (.aload_n 1, 1) := by decide +kernel
theorem dX1_putSettings_11 : decode cX1_putSettings 11 = .ok (.aload_n 0, 1) := by decide +kernel
theorem dX1_putSettings_12 : decode cX1_putSettings 12 = .ok (.getfield 44, 3) := by decide +kernel
theorem dX1_putSettings_15 : decode cX1_putSettings 15 = .ok (.i2l, 1) := by decide +kernel
theorem dX1_putSettings_16 : decode cX1_putSettings 16 = .ok (.iconst 4, 1) := by decide +kernel
theorem dX1_putSettings_17 : decode cX1_putSettings 17 = .ok (.invokevirtual 56, 3) := by decide +kernel
theorem dX1_putSettings_20 : decode cX1_putSettings 20 = .ok (.aload_n 1, 1) := by decide +kernel
theorem dX1_putSettings_21 : decode cX1_putSettings 21 = .ok (.iload_n 2, 1) := by decide +kernel
theorem dX1_putSettings_22 : decode cX1_putSettings 22 = .ok (.i2l, 1) := by decide +kernel
theorem dX1_putSettings_23 : decode cX1_putSettings 23 = .ok (.iconst 4, 1) := by decide +kernel
theorem dX1_putSettings_24 : decode cX1_putSettings 24 = .ok (.invokevirtual 56, 3) := by decide +kernel
theorem dX1_putSettings_27 : decode cX1_putSettings 27 = .ok (.aload_n 1, 1) := by decide +kernel
theorem dX1_putSettings_28 : decode cX1_putSettings 28 = .ok (.aload_n 0, 1) := by decide +kernel
theorem dX1_putSettings_29 : decode cX1_putSettings 29 = .ok (.getfield 41, 3) := by decide +kernel
theorem dX1_putSettings_32 : decode cX1_putSettings 32 = .ok (.i2l, 1) := by decide +kernel
theorem dX1_putSettings_33 : decode cX1_putSettings 33 = .ok (.iconst 4, 1) := by decide +kernel
theorem dX1_putSettings_34 : decode cX1_putSettings 34 = .ok (.invokevirtual 56, 3) := by decide +kernel
theorem dX1_putSettings_37 : decode cX1_putSettings 37 = .ok (.aload_n 1, 1) := by decide +kernel
theorem dX1_putSettings_38 : decode cX1_putSettings 38 = .ok (.ldc2_w 62, 3) := by decide +kernel
theorem dX1_putSettings_41 : decode cX1_putSettings 41 = .ok (.iconst 4, 1) := by decide +kernel
theorem dX1_putSettings_42 : decode cX1_putSettings 42 = .ok (.invokevirtual 56, 3) := by decide +kernel
theorem dX1_putSettings_45 : decode cX1_putSettings 45 = .ok (.aload_n 1, 1) := by decide +kernel
theorem dX1_putSettings_46 : decode cX1_putSettings 46 = .ok (.aload_n 0, 1) := by decide +kernel
theorem dX1_putSettings_47 : decode cX1_putSettings 47 = .ok (.getfield 34, 3) := by decide +kernel
theorem dX1_putSettings_50 : decode cX1_putSettings 50 = .ok (.i2l, 1) := by decide +kernel
theorem dX1_putSettings_51 : decode cX1_putSettings 51 = .ok (.iconst 4, 1) := by decide +kernel
theorem dX1_putSettings_52 : decode cX1_putSettings 52 = .ok (.invokevirtual 56, 3) := by decide +kernel
theorem dX1_putSettings_55 : decode cX1_putSettings 55 = .ok (.return_, 1) := by decide +kernel
theorem dX1_isBegun_0 : decode cX1_isBegun 0 = .ok (.aload_n 0, 1) := by decide +kernel
theorem dX1_isBegun_1 : decode cX1_isBegun 1 = .ok (.getfield 38, 3) := by decide +kernel
theorem dX1_isBegun_4 : decode cX1_isBegun 4 = .ok (.ifCond .le 7, 3) := by decide +kernel
theorem dX1_isBegun_7 : decode cX1_isBegun 7 = .ok (.iconst 1, 1) := by decide +kernel
theorem dX1_isBegun_8 : decode cX1_isBegun 8 = .ok (.goto 4, 3) := by decide +kernel
theorem dX1_isBegun_11 : decode cX1_isBegun 11 = .ok (.iconst 0, 1) := by decide +kernel
theorem dX1_isBegun_12 : decode cX1_isBegun 12 = .ok (.ireturn, 1) := by decide +kernel
theorem dX1_blocks_0 : decode cX1_blocks 0 = .ok (.aload_n 0, 1) := by decide +kernel
theorem dX1_blocks_1 : decode cX1_blocks 1 = .ok (.getfield 38, 3) := by decide +kernel
theorem dX1_blocks_4 : decode cX1_blocks 4 = .ok (.aload_n 0, 1) := by decide +kernel
theorem dX1_blocks_5 : decode cX1_blocks 5 = .ok (.getfield 50, 3) := by decide +kernel
theorem dX1_blocks_8 : decode cX1_blocks 8 = .ok (.imul, 1) := by decide +kernel
theorem dX1_blocks_9 : decode cX1_blocks 9 = .ok (.ireturn, 1) := by decide +kernel
theorem dX1_segments_0 : decode cX1_segments 0 = .ok (.aload_n 0, 1) := by decide +kernel
theorem dX1_segments_1 : decode cX1_segments 1 = .ok (.getfield 41, 3) := by decide +kernel
theorem dX1_segments_4 : decode cX1_segments 4 = .ok (.iconst 4, 1) := by decide +kernel
theorem dX1_segments_5 : decode cX1_segments 5 = .ok (.imul, 1) := by decide +kernel
theorem dX1_segments_6 : decode cX1_segments 6 = .ok (.aload_n 0, 1) := by decide +kernel
theorem dX1_segments_7 : decode cX1_segments 7 = .ok (.getfield 38, 3) := by decide +kernel
theorem dX1_segments_10 : decode cX1_segments 10 = .ok (.imul, 1) := by decide +kernel
theorem dX1_segments_11 : decode cX1_segments 11 = .ok (.ireturn, 1) := by decide +kernel
theorem dX1_wordOf_0 : decode cX1_wordOf 0 = .ok (.iload_n 1, 1) := by decide +kernel
theorem dX1_wordOf_1 : decode cX1_wordOf 1 = .ok (.ifCond .lt 22, 3) := by decide +kernel
theorem dX1_wordOf_4 : decode cX1_wordOf 4 = .ok (.iload_n 1, 1) := by decide +kernel
theorem dX1_wordOf_5 : decode cX1_wordOf 5 = .ok (.aload_n 0, 1) := by decide +kernel
theorem dX1_wordOf_6 : decode cX1_wordOf 6 = .ok (.invokevirtual 64, 3) := by decide +kernel
theorem dX1_wordOf_9 : decode cX1_wordOf 9 = .ok (.if_icmp .ge 14, 3) := by decide +kernel
theorem dX1_wordOf_12 : decode cX1_wordOf 12 = .ok (.iload_n 2, 1) := by decide +kernel
theorem dX1_wordOf_13 : decode cX1_wordOf 13 = .ok (.ifCond .lt 10, 3) := by decide +kernel
theorem dX1_wordOf_16 : decode cX1_wordOf 16 = .ok (.iload_n 2, 1) := by decide +kernel
theorem dX1_wordOf_17 : decode cX1_wordOf 17 = .ok (.sipush 128, 3) := by decide +kernel
theorem dX1_wordOf_20 : decode cX1_wordOf 20 = .ok (.if_icmp .lt 5, 3) := by decide +kernel
theorem dX1_wordOf_23 : decode cX1_wordOf 23 = .ok (.lconst 0, 1) := by decide +kernel
theorem dX1_wordOf_24 : decode cX1_wordOf 24 = .ok (.lreturn, 1) := by decide +kernel
theorem dX1_wordOf_25 : decode cX1_wordOf 25 = .ok (.aload_n 0, 1) := by decide +kernel
theorem dX1_wordOf_26 : decode cX1_wordOf 26 = .ok (.iload_n 1, 1) := by decide +kernel
theorem dX1_wordOf_27 : decode cX1_wordOf 27 = .ok (.invokevirtual 68, 3) := by decide +kernel
theorem dX1_wordOf_30 : decode cX1_wordOf 30 = .ok (.iload_n 2, 1) := by decide +kernel
theorem dX1_wordOf_31 : decode cX1_wordOf 31 = .ok (.laload, 1) := by decide +kernel
theorem dX1_wordOf_32 : decode cX1_wordOf 32 = .ok (.lreturn, 1) := by decide +kernel
theorem dX1_lay_0 : decode cX1_lay 0 = .ok (.aload_n 0, 1) := by decide +kernel
theorem dX1_lay_1 : decode cX1_lay 1 = .ok (.iload_n 1, 1) := by decide +kernel
theorem dX1_lay_2 : decode cX1_lay 2 = .ok (.aload_n 0, 1) := by decide +kernel
theorem dX1_lay_3 : decode cX1_lay 3 = .ok (.getfield 50, 3) := by decide +kernel
theorem dX1_lay_6 : decode cX1_lay 6 = .ok (.imul, 1) := by decide +kernel
theorem dX1_lay_7 : decode cX1_lay 7 = .ok (.iload_n 2, 1) := by decide +kernel
theorem dX1_lay_8 : decode cX1_lay 8 = .ok (.iadd, 1) := by decide +kernel
theorem dX1_lay_9 : decode cX1_lay 9 = .ok (.invokevirtual 68, 3) := by decide +kernel
theorem dX1_lay_12 : decode cX1_lay 12 = .ok (.astore 4, 2) := by decide +kernel
theorem dX1_lay_14 : decode cX1_lay 14 = .ok (.iconst 0, 1) := by decide +kernel
theorem dX1_lay_15 : decode cX1_lay 15 = .ok (.istore 5, 2) := by decide +kernel
theorem dX1_lay_17 : decode cX1_lay 17 = .ok (.iload 5, 2) := by decide +kernel
theorem dX1_lay_19 : decode cX1_lay 19 = .ok (.sipush 128, 3) := by decide +kernel
theorem dX1_lay_22 : decode cX1_lay 22 = .ok (.if_icmp .ge 23, 3) := by decide +kernel
theorem dX1_lay_25 : decode cX1_lay 25 = .ok (.aload 4, 2) := by decide +kernel
theorem dX1_lay_27 : decode cX1_lay 27 = .ok (.iload 5, 2) := by decide +kernel
theorem dX1_lay_29 : decode cX1_lay 29 = .ok (.aload_n 3, 1) := by decide +kernel
theorem dX1_lay_30 : decode cX1_lay 30 = .ok (.bipush 8, 2) := by decide +kernel
theorem dX1_lay_32 : decode cX1_lay 32 = .ok (.iload 5, 2) := by decide +kernel
theorem dX1_lay_34 : decode cX1_lay 34 = .ok (.imul, 1) := by decide +kernel
theorem dX1_lay_35 : decode cX1_lay 35 = .ok (.invokevirtual 72, 3) := by decide +kernel
theorem dX1_lay_38 : decode cX1_lay 38 = .ok (.lastore, 1) := by decide +kernel
theorem dX1_lay_39 : decode cX1_lay 39 = .ok (.iinc 5 1, 3) := by decide +kernel
theorem dX1_lay_42 : decode cX1_lay 42 = .ok (.goto (-25), 3) := by decide +kernel
theorem dX1_lay_45 : decode cX1_lay 45 = .ok (.return_, 1) := by decide +kernel
theorem dX1_putLastBlocks_0 : decode cX1_putLastBlocks 0 = .ok (.iconst 0, 1) := by decide +kernel
theorem dX1_putLastBlocks_1 : decode cX1_putLastBlocks 1 = .ok (.istore_n 2, 1) := by decide +kernel
theorem dX1_putLastBlocks_2 : decode cX1_putLastBlocks 2 = .ok (.iload_n 2, 1) := by decide +kernel
theorem dX1_putLastBlocks_3 : decode cX1_putLastBlocks 3 = .ok (.sipush 128, 3) := by decide +kernel
theorem dX1_putLastBlocks_6 : decode cX1_putLastBlocks 6 = .ok (.if_icmp .ge 53, 3) := by decide +kernel
theorem dX1_putLastBlocks_9 : decode cX1_putLastBlocks 9 = .ok (.lconst 0, 1) := by decide +kernel
theorem dX1_putLastBlocks_10 : decode cX1_putLastBlocks 10 = .ok (.lstore_n 3, 1) := by decide +kernel
theorem dX1_putLastBlocks_11 : decode cX1_putLastBlocks 11 = .ok (.iconst 1, 1) := by decide +kernel
theorem dX1_putLastBlocks_12 : decode cX1_putLastBlocks 12 = .ok (.istore 5, 2) := by decide +kernel
theorem dX1_putLastBlocks_14 : decode cX1_putLastBlocks 14 = .ok (.iload 5, 2) := by decide +kernel
theorem dX1_putLastBlocks_16 : decode cX1_putLastBlocks 16 = .ok (.aload_n 0, 1) := by decide +kernel
theorem dX1_putLastBlocks_17 : decode cX1_putLastBlocks 17 = .ok (.getfield 38, 3) := by decide +kernel
theorem dX1_putLastBlocks_20 : decode cX1_putLastBlocks 20 = .ok (.if_icmp .gt 26, 3) := by decide +kernel
theorem dX1_putLastBlocks_23 : decode cX1_putLastBlocks 23 = .ok (.lload_n 3, 1) := by decide +kernel
theorem dX1_putLastBlocks_24 : decode cX1_putLastBlocks 24 = .ok (.aload_n 0, 1) := by decide +kernel
theorem dX1_putLastBlocks_25 : decode cX1_putLastBlocks 25 = .ok (.iload 5, 2) := by decide +kernel
theorem dX1_putLastBlocks_27 : decode cX1_putLastBlocks 27 = .ok (.aload_n 0, 1) := by decide +kernel
theorem dX1_putLastBlocks_28 : decode cX1_putLastBlocks 28 = .ok (.getfield 50, 3) := by decide +kernel
theorem dX1_putLastBlocks_31 : decode cX1_putLastBlocks 31 = .ok (.imul, 1) := by decide +kernel
theorem dX1_putLastBlocks_32 : decode cX1_putLastBlocks 32 = .ok (.iconst 1, 1) := by decide +kernel
theorem dX1_putLastBlocks_33 : decode cX1_putLastBlocks 33 = .ok (.isub, 1) := by decide +kernel
theorem dX1_putLastBlocks_34 : decode cX1_putLastBlocks 34 = .ok (.iload_n 2, 1) := by decide +kernel
theorem dX1_putLastBlocks_35 : decode cX1_putLastBlocks 35 = .ok (.invokevirtual 76, 3) := by decide +kernel
theorem dX1_putLastBlocks_38 : decode cX1_putLastBlocks 38 = .ok (.lxor, 1) := by decide +kernel
theorem dX1_putLastBlocks_39 : decode cX1_putLastBlocks 39 = .ok (.lstore_n 3, 1) := by decide +kernel
theorem dX1_putLastBlocks_40 : decode cX1_putLastBlocks 40 = .ok (.iinc 5 1, 3) := by decide +kernel
theorem dX1_putLastBlocks_43 : decode cX1_putLastBlocks 43 = .ok (.goto (-29), 3) := by decide +kernel
theorem dX1_putLastBlocks_46 : decode cX1_putLastBlocks 46 = .ok (.aload_n 1, 1) := by decide +kernel
theorem dX1_putLastBlocks_47 : decode cX1_putLastBlocks 47 = .ok (.lload_n 3, 1) := by decide +kernel
theorem dX1_putLastBlocks_48 : decode cX1_putLastBlocks 48 = .ok (.bipush 8, 2) := by decide +kernel
theorem dX1_putLastBlocks_50 : decode cX1_putLastBlocks 50 = .ok (.invokevirtual 56, 3) := by decide +kernel
theorem dX1_putLastBlocks_53 : decode cX1_putLastBlocks 53 = .ok (.iinc 2 1, 3) := by decide +kernel
theorem dX1_putLastBlocks_56 : decode cX1_putLastBlocks 56 = .ok (.goto (-54), 3) := by decide +kernel
theorem dX1_putLastBlocks_59 : decode cX1_putLastBlocks 59 = .ok (.return_, 1) := by decide +kernel
end
section
theorem dX1_doSegment_0 : decode cX1_doSegment 0 = .ok (.aload_n 0, 1) := by decide +kernel
theorem dX1_doSegment_1 : decode cX1_doSegment 1 = .ok (.getfield 38, 3) := by decide +kernel
theorem dX1_doSegment_4 : decode cX1_doSegment 4 = .ok (.iconst 1, 1) := by decide +kernel
theorem dX1_doSegment_5 : decode cX1_doSegment 5 = .ok (.if_icmp .lt 14, 3) := by decide +kernel
theorem dX1_doSegment_8 : decode cX1_doSegment 8 = .ok (.aload_n 0, 1) := by decide +kernel
theorem dX1_doSegment_9 : decode cX1_doSegment 9 = .ok (.getfield 53, 3) := by decide +kernel
theorem dX1_doSegment_12 : decode cX1_doSegment 12 = .ok (.aload_n 0, 1) := by decide +kernel
theorem dX1_doSegment_13 : decode cX1_doSegment 13 = .ok (.invokevirtual 80, 3) := by decide +kernel
theorem dX1_doSegment_16 : decode cX1_doSegment 16 = .ok (.if_icmp .lt 4, 3) := by decide +kernel
theorem dX1_doSegment_19 : decode cX1_doSegment 19 = .ok (.return_, 1) := by decide +kernel
theorem dX1_doSegment_20 : decode cX1_doSegment 20 = .ok (.aload_n 0, 1) := by decide +kernel
theorem dX1_doSegment_21 : decode cX1_doSegment 21 = .ok (.aload_n 0, 1) := by decide +kernel
theorem dX1_doSegment_22 : decode cX1_doSegment 22 = .ok (.getfield 53, 3) := by decide +kernel
theorem dX1_doSegment_25 : decode cX1_doSegment 25 = .ok (.aload_n 0, 1) := by decide +kernel
theorem dX1_doSegment_26 : decode cX1_doSegment 26 = .ok (.getfield 38, 3) := by decide +kernel
theorem dX1_doSegment_29 : decode cX1_doSegment 29 = .ok (.irem, 1) := by decide +kernel
theorem dX1_doSegment_30 : decode cX1_doSegment 30 = .ok (.putfield 83, 3) := by decide +kernel
theorem dX1_doSegment_33 : decode cX1_doSegment 33 = .ok (.aload_n 0, 1) := by decide +kernel
theorem dX1_doSegment_34 : decode cX1_doSegment 34 = .ok (.aload_n 0, 1) := by decide +kernel
theorem dX1_doSegment_35 : decode cX1_doSegment 35 = .ok (.getfield 53, 3) := by decide +kernel
theorem dX1_doSegment_38 : decode cX1_doSegment 38 = .ok (.aload_n 0, 1) := by decide +kernel
theorem dX1_doSegment_39 : decode cX1_doSegment 39 = .ok (.getfield 38, 3) := by decide +kernel
theorem dX1_doSegment_42 : decode cX1_doSegment 42 = .ok (.idiv, 1) := by decide +kernel
theorem dX1_doSegment_43 : decode cX1_doSegment 43 = .ok (.iconst 4, 1) := by decide +kernel
theorem dX1_doSegment_44 : decode cX1_doSegment 44 = .ok (.irem, 1) := by decide +kernel
theorem dX1_doSegment_45 : decode cX1_doSegment 45 = .ok (.putfield 86, 3) := by decide +kernel
theorem dX1_doSegment_48 : decode cX1_doSegment 48 = .ok (.aload_n 0, 1) := by decide +kernel
theorem dX1_doSegment_49 : decode cX1_doSegment 49 = .ok (.aload_n 0, 1) := by decide +kernel
theorem dX1_doSegment_50 : decode cX1_doSegment 50 = .ok (.getfield 53, 3) := by decide +kernel
theorem dX1_doSegment_53 : decode cX1_doSegment 53 = .ok (.aload_n 0, 1) := by decide +kernel
theorem dX1_doSegment_54 : decode cX1_doSegment 54 = .ok (.getfield 38, 3) := by decide +kernel
theorem dX1_doSegment_57 : decode cX1_doSegment 57 = .ok (.idiv, 1) := by decide +kernel
theorem dX1_doSegment_58 : decode cX1_doSegment 58 = .ok (.iconst 4, 1) := by decide +kernel
theorem dX1_doSegment_59 : decode cX1_doSegment 59 = .ok (.idiv, 1) := by decide +kernel
theorem dX1_doSegment_60 : decode cX1_doSegment 60 = .ok (.putfield 89, 3) := by decide +kernel
theorem dX1_doSegment_63 : decode cX1_doSegment 63 = .ok (.aload_n 0, 1) := by decide +kernel
theorem dX1_doSegment_64 : decode cX1_doSegment 64 = .ok (.invokevirtual 92, 3) := by decide +kernel
theorem dX1_doSegment_67 : decode cX1_doSegment 67 = .ok (.istore_n 1, 1) := by decide +kernel
theorem dX1_doSegment_68 : decode cX1_doSegment 68 = .ok (.iload_n 1, 1) := by decide +kernel
theorem dX1_doSegment_69 : decode cX1_doSegment 69 = .ok (.ifCond .eq 47, 3) := by decide +kernel
theorem dX1_doSegment_72 : decode cX1_doSegment 72 = .ok (.aload_n 0, 1) := by decide +kernel
theorem dX1_doSegment_73 : decode cX1_doSegment 73 = .ok (.invokevirtual 96, 3) := by decide +kernel
theorem dX1_doSegment_76 : decode cX1_doSegment 76 = .ok (.aload_n 0, 1) := by decide +kernel
theorem dX1_doSegment_77 : decode cX1_doSegment 77 = .ok (.getfield 26, 3) := by decide +kernel
theorem dX1_doSegment_80 : decode cX1_doSegment 80 = .ok (.aload_n 0, 1) := by decide +kernel
theorem dX1_doSegment_81 : decode cX1_doSegment 81 = .ok (.getfield 16, 3) := by decide +kernel
theorem dX1_doSegment_84 : decode cX1_doSegment 84 = .ok (.aload_n 0, 1) := by decide +kernel
theorem dX1_doSegment_85 : decode cX1_doSegment 85 = .ok (.getfield 20, 3) := by decide +kernel
theorem dX1_doSegment_88 : decode cX1_doSegment 88 = .ok (.aload_n 0, 1) := by decide +kernel
theorem dX1_doSegment_89 : decode cX1_doSegment 89 = .ok (.getfield 20, 3) := by decide +kernel
theorem dX1_doSegment_92 : decode cX1_doSegment 92 = .ok (.iconst 0, 1) := by decide +kernel
theorem dX1_doSegment_93 : decode cX1_doSegment 93 = .ok (.invokevirtual 99, 3) := by decide +kernel
theorem dX1_doSegment_96 : decode cX1_doSegment 96 = .ok (.aload_n 0, 1) := by decide +kernel
theorem dX1_doSegment_97 : decode cX1_doSegment 97 = .ok (.getfield 26, 3) := by decide +kernel
theorem dX1_doSegment_100 : decode cX1_doSegment 100 = .ok (.aload_n 0, 1) := by decide +kernel
theorem dX1_doSegment_101 : decode cX1_doSegment 101 = .ok (.getfield 16, 3) := by decide +kernel
theorem dX1_doSegment_104 : decode cX1_doSegment 104 = .ok (.aload_n 0, 1) := by decide +kernel
theorem dX1_doSegment_105 : decode cX1_doSegment 105 = .ok (.getfield 20, 3) := by decide +kernel
theorem dX1_doSegment_108 : decode cX1_doSegment 108 = .ok (.aload_n 0, 1) := by decide +kernel
theorem dX1_doSegment_109 : decode cX1_doSegment 109 = .ok (.getfield 20, 3) := by decide +kernel
theorem dX1_doSegment_112 : decode cX1_doSegment 112 = .ok (.iconst 0, 1) := by decide +kernel
theorem dX1_doSegment_113 : decode cX1_doSegment 113 = .ok (.invokevirtual 99, 3) := by decide +kernel
theorem dX1_doSegment_116 : decode cX1_doSegment 116 = .ok (.aload_n 0, 1) := by decide +kernel
theorem dX1_doSegment_117 : decode cX1_doSegment 117 = .ok (.getfield 83, 3) := by decide +kernel
theorem dX1_doSegment_120 : decode cX1_doSegment 120 = .ok (.aload_n 0, 1) := by decide +kernel
theorem dX1_doSegment_121 : decode cX1_doSegment 121 = .ok (.getfield 50, 3) := by decide +kernel
theorem dX1_doSegment_124 : decode cX1_doSegment 124 = .ok (.imul, 1) := by decide +kernel
theorem dX1_doSegment_125 : decode cX1_doSegment 125 = .ok (.istore_n 2, 1) := by decide +kernel
theorem dX1_doSegment_126 : decode cX1_doSegment 126 = .ok (.aload_n 0, 1) := by decide +kernel
theorem dX1_doSegment_127 : decode cX1_doSegment 127 = .ok (.invokevirtual 103, 3) := by decide +kernel
theorem dX1_doSegment_130 : decode cX1_doSegment 130 = .ok (.ifCond .eq 7, 3) := by decide +kernel
theorem dX1_doSegment_133 : decode cX1_doSegment 133 = .ok (.iconst 2, 1) := by decide +kernel
theorem dX1_doSegment_134 : decode cX1_doSegment 134 = .ok (.goto 4, 3) := by decide +kernel
theorem dX1_doSegment_137 : decode cX1_doSegment 137 = .ok (.iconst 0, 1) := by decide +kernel
theorem dX1_doSegment_138 : decode cX1_doSegment 138 = .ok (.istore_n 3, 1) := by decide +kernel
theorem dX1_doSegment_139 : decode cX1_doSegment 139 = .ok (.iload_n 3, 1) := by decide +kernel
theorem dX1_doSegment_140 : decode cX1_doSegment 140 = .ok (.aload_n 0, 1) := by decide +kernel
theorem dX1_doSegment_141 : decode cX1_doSegment 141 = .ok (.getfield 47, 3) := by decide +kernel
theorem dX1_doSegment_144 : decode cX1_doSegment 144 = .ok (.if_icmp .ge 113, 3) := by decide +kernel
theorem dX1_doSegment_147 : decode cX1_doSegment 147 = .ok (.aload_n 0, 1) := by decide +kernel
theorem dX1_doSegment_148 : decode cX1_doSegment 148 = .ok (.getfield 86, 3) := by decide +kernel
theorem dX1_doSegment_151 : decode cX1_doSegment 151 = .ok (.aload_n 0, 1) := by decide +kernel
theorem dX1_doSegment_152 : decode cX1_doSegment 152 = .ok (.getfield 47, 3) := by decide +kernel
theorem dX1_doSegment_155 : decode cX1_doSegment 155 = .ok (.imul, 1) := by decide +kernel
theorem dX1_doSegment_156 : decode cX1_doSegment 156 = .ok (.iload_n 3, 1) := by decide +kernel
theorem dX1_doSegment_157 : decode cX1_doSegment 157 = .ok (.iadd, 1) := by decide +kernel
theorem dX1_doSegment_158 : decode cX1_doSegment 158 = .ok (.istore 4, 2) := by decide +kernel
theorem dX1_doSegment_160 : decode cX1_doSegment 160 = .ok (.aload_n 0, 1) := by decide +kernel
theorem dX1_doSegment_161 : decode cX1_doSegment 161 = .ok (.iload_n 2, 1) := by decide +kernel
theorem dX1_doSegment_162 : decode cX1_doSegment 162 = .ok (.iload 4, 2) := by decide +kernel
theorem dX1_doSegment_164 : decode cX1_doSegment 164 = .ok (.ifCond .ne 10, 3) := by decide +kernel
theorem dX1_doSegment_167 : decode cX1_doSegment 167 = .ok (.aload_n 0, 1) := by decide +kernel
theorem dX1_doSegment_168 : decode cX1_doSegment 168 = .ok (.getfield 50, 3) := by decide +kernel
theorem dX1_doSegment_171 : decode cX1_doSegment 171 = .ok (.goto 5, 3) := by decide +kernel
theorem dX1_doSegment_174 : decode cX1_doSegment 174 = .ok (.iload 4, 2) := by decide +kernel
theorem dX1_doSegment_176 : decode cX1_doSegment 176 = .ok (.iadd, 1) := by decide +kernel
theorem dX1_doSegment_177 : decode cX1_doSegment 177 = .ok (.iconst 1, 1) := by decide +kernel
theorem dX1_doSegment_178 : decode cX1_doSegment 178 = .ok (.isub, 1) := by decide +kernel
theorem dX1_doSegment_179 : decode cX1_doSegment 179 = .ok (.invokevirtual 68, 3) := by decide +kernel
theorem dX1_doSegment_182 : decode cX1_doSegment 182 = .ok (.astore 5, 2) := by decide +kernel
theorem dX1_doSegment_184 : decode cX1_doSegment 184 = .ok (.iload_n 1, 1) := by decide +kernel
theorem dX1_doSegment_185 : decode cX1_doSegment 185 = .ok (.ifCond .eq 16, 3) := by decide +kernel
theorem dX1_doSegment_188 : decode cX1_doSegment 188 = .ok (.aload_n 0, 1) := by decide +kernel
theorem dX1_doSegment_189 : decode cX1_doSegment 189 = .ok (.getfield 20, 3) := by decide +kernel
theorem dX1_doSegment_192 : decode cX1_doSegment 192 = .ok (.iload_n 3, 1) := by decide +kernel
theorem dX1_doSegment_193 : decode cX1_doSegment 193 = .ok (.sipush 128, 3) := by decide +kernel
theorem dX1_doSegment_196 : decode cX1_doSegment 196 = .ok (.irem, 1) := by decide +kernel
theorem dX1_doSegment_197 : decode cX1_doSegment 197 = .ok (.laload, 1) := by decide +kernel
theorem dX1_doSegment_198 : decode cX1_doSegment 198 = .ok (.goto 7, 3) := by decide +kernel
theorem dX1_doSegment_201 : decode cX1_doSegment 201 = .ok (.aload 5, 2) := by decide +kernel
theorem dX1_doSegment_203 : decode cX1_doSegment 203 = .ok (.iconst 0, 1) := by decide +kernel
theorem dX1_doSegment_204 : decode cX1_doSegment 204 = .ok (.laload, 1) := by decide +kernel
theorem dX1_doSegment_205 : decode cX1_doSegment 205 = .ok (.lstore 6, 2) := by decide +kernel
theorem dX1_doSegment_207 : decode cX1_doSegment 207 = .ok (.aload_n 0, 1) := by decide +kernel
theorem dX1_doSegment_208 : decode cX1_doSegment 208 = .ok (.aload_n 0, 1) := by decide +kernel
theorem dX1_doSegment_209 : decode cX1_doSegment 209 = .ok (.iload_n 3, 1) := by decide +kernel
theorem dX1_doSegment_210 : decode cX1_doSegment 210 = .ok (.lload 6, 2) := by decide +kernel
theorem dX1_doSegment_212 : decode cX1_doSegment 212 = .ok (.invokevirtual 106, 3) := by decide +kernel
theorem dX1_doSegment_215 : decode cX1_doSegment 215 = .ok (.invokevirtual 68, 3) := by decide +kernel
theorem dX1_doSegment_218 : decode cX1_doSegment 218 = .ok (.astore 8, 2) := by decide +kernel
theorem dX1_doSegment_220 : decode cX1_doSegment 220 = .ok (.aload_n 0, 1) := by decide +kernel
theorem dX1_doSegment_221 : decode cX1_doSegment 221 = .ok (.getfield 26, 3) := by decide +kernel
theorem dX1_doSegment_224 : decode cX1_doSegment 224 = .ok (.aload 5, 2) := by decide +kernel
theorem dX1_doSegment_226 : decode cX1_doSegment 226 = .ok (.aload 8, 2) := by decide +kernel
theorem dX1_doSegment_228 : decode cX1_doSegment 228 = .ok (.aload_n 0, 1) := by decide +kernel
theorem dX1_doSegment_229 : decode cX1_doSegment 229 = .ok (.iload_n 2, 1) := by decide +kernel
theorem dX1_doSegment_230 : decode cX1_doSegment 230 = .ok (.iload 4, 2) := by decide +kernel
theorem dX1_doSegment_232 : decode cX1_doSegment 232 = .ok (.iadd, 1) := by decide +kernel
theorem dX1_doSegment_233 : decode cX1_doSegment 233 = .ok (.invokevirtual 68, 3) := by decide +kernel
theorem dX1_doSegment_236 : decode cX1_doSegment 236 = .ok (.aload_n 0, 1) := by decide +kernel
theorem dX1_doSegment_237 : decode cX1_doSegment 237 = .ok (.getfield 89, 3) := by decide +kernel
theorem dX1_doSegment_240 : decode cX1_doSegment 240 = .ok (.ifCond .le 7, 3) := by decide +kernel
theorem dX1_doSegment_243 : decode cX1_doSegment 243 = .ok (.iconst 1, 1) := by decide +kernel
theorem dX1_doSegment_244 : decode cX1_doSegment 244 = .ok (.goto 4, 3) := by decide +kernel
theorem dX1_doSegment_247 : decode cX1_doSegment 247 = .ok (.iconst 0, 1) := by decide +kernel
theorem dX1_doSegment_248 : decode cX1_doSegment 248 = .ok (.invokevirtual 99, 3) := by decide +kernel
theorem dX1_doSegment_251 : decode cX1_doSegment 251 = .ok (.iinc 3 1, 3) := by decide +kernel
theorem dX1_doSegment_254 : decode cX1_doSegment 254 = .ok (.goto (-115), 3) := by decide +kernel
theorem dX1_doSegment_257 : decode cX1_doSegment 257 = .ok (.aload_n 0, 1) := by decide +kernel
theorem dX1_doSegment_258 : decode cX1_doSegment 258 = .ok (.dup, 1) := by decide +kernel
theorem dX1_doSegment_259 : decode cX1_doSegment 259 = .ok (.getfield 53, 3) := by decide +kernel
theorem dX1_doSegment_262 : decode cX1_doSegment 262 = .ok (.iconst 1, 1) := by decide +kernel
theorem dX1_doSegment_263 : decode cX1_doSegment 263 = .ok (.iadd, 1) := by decide +kernel
theorem dX1_doSegment_264 : decode cX1_doSegment 264 = .ok (.putfield 53, 3) := by decide +kernel
theorem dX1_doSegment_267 : decode cX1_doSegment 267 = .ok (.return_, 1) := by decide +kernel
theorem dX1_isFirstSlice_0 : decode cX1_isFirstSlice 0 = .ok (.aload_n 0, 1) := by decide +kernel
theorem dX1_isFirstSlice_1 : decode cX1_isFirstSlice 1 = .ok (.getfield 89, 3) := by decide +kernel
theorem dX1_isFirstSlice_4 : decode cX1_isFirstSlice 4 = .ok (.ifCond .ne 14, 3) := by decide +kernel
theorem dX1_isFirstSlice_7 : decode cX1_isFirstSlice 7 = .ok (.aload_n 0, 1) := by decide +kernel
theorem dX1_isFirstSlice_8 : decode cX1_isFirstSlice 8 = .ok (.getfield 86, 3) := by decide +kernel
theorem dX1_isFirstSlice_11 : decode cX1_isFirstSlice 11 = .ok (.ifCond .ne 7, 3) := by decide +kernel
theorem dX1_isFirstSlice_14 : decode cX1_isFirstSlice 14 = .ok (.iconst 1, 1) := by decide +kernel
theorem dX1_isFirstSlice_15 : decode cX1_isFirstSlice 15 = .ok (.goto 4, 3) := by decide +kernel
theorem dX1_isFirstSlice_18 : decode cX1_isFirstSlice 18 = .ok (.iconst 0, 1) := by decide +kernel
theorem dX1_isFirstSlice_19 : decode cX1_isFirstSlice 19 = .ok (.ireturn, 1) := by decide +kernel
theorem dX1_goesByAddress_0 : decode cX1_goesByAddress 0 = .ok (.aload_n 0, 1) := by decide +kernel
theorem dX1_goesByAddress_1 : decode cX1_goesByAddress 1 = .ok (.getfield 34, 3) := by decide +kernel
theorem dX1_goesByAddress_4 : decode cX1_goesByAddress 4 = .ok (.iconst 1, 1) := by decide +kernel
theorem dX1_goesByAddress_5 : decode cX1_goesByAddress 5 = .ok (.if_icmp .eq 26, 3) := by decide +kernel
theorem dX1_goesByAddress_8 : decode cX1_goesByAddress 8 = .ok (.aload_n 0, 1) := by decide +kernel
theorem dX1_goesByAddress_9 : decode cX1_goesByAddress 9 = .ok (.getfield 34, 3) := by decide +kernel
theorem dX1_goesByAddress_12 : decode cX1_goesByAddress 12 = .ok (.iconst 2, 1) := by decide +kernel
theorem dX1_goesByAddress_13 : decode cX1_goesByAddress 13 = .ok (.if_icmp .ne 22, 3) := by decide +kernel
theorem dX1_goesByAddress_16 : decode cX1_goesByAddress 16 = .ok (.aload_n 0, 1) := by decide +kernel
theorem dX1_goesByAddress_17 : decode cX1_goesByAddress 17 = .ok (.getfield 89, 3) := by decide +kernel
theorem dX1_goesByAddress_20 : decode cX1_goesByAddress 20 = .ok (.ifCond .ne 15, 3) := by decide +kernel
theorem dX1_goesByAddress_23 : decode cX1_goesByAddress 23 = .ok (.aload_n 0, 1) := by decide +kernel
theorem dX1_goesByAddress_24 : decode cX1_goesByAddress 24 = .ok (.getfield 86, 3) := by decide +kernel
theorem dX1_goesByAddress_27 : decode cX1_goesByAddress 27 = .ok (.iconst 2, 1) := by decide +kernel
theorem dX1_goesByAddress_28 : decode cX1_goesByAddress 28 = .ok (.if_icmp .ge 7, 3) := by decide +kernel
theorem dX1_goesByAddress_31 : decode cX1_goesByAddress 31 = .ok (.iconst 1, 1) := by decide +kernel
theorem dX1_goesByAddress_32 : decode cX1_goesByAddress 32 = .ok (.goto 4, 3) := by decide +kernel
theorem dX1_goesByAddress_35 : decode cX1_goesByAddress 35 = .ok (.iconst 0, 1) := by decide +kernel
theorem dX1_goesByAddress_36 : decode cX1_goesByAddress 36 = .ok (.ireturn, 1) := by decide +kernel
theorem dX1_openAddress_0 : decode cX1_openAddress 0 = .ok (.iconst 0, 1) := by decide +kernel
theorem dX1_openAddress_1 : decode cX1_openAddress 1 = .ok (.istore_n 1, 1) := by decide +kernel
theorem dX1_openAddress_2 : decode cX1_openAddress 2 = .ok (.iload_n 1, 1) := by decide +kernel
theorem dX1_openAddress_3 : decode cX1_openAddress 3 = .ok (.sipush 128, 3) := by decide +kernel
theorem dX1_openAddress_6 : decode cX1_openAddress 6 = .ok (.if_icmp .ge 16, 3) := by decide +kernel
theorem dX1_openAddress_9 : decode cX1_openAddress 9 = .ok (.aload_n 0, 1) := by decide +kernel
theorem dX1_openAddress_10 : decode cX1_openAddress 10 = .ok (.getfield 20, 3) := by decide +kernel
theorem dX1_openAddress_13 : decode cX1_openAddress 13 = .ok (.iload_n 1, 1) := by decide +kernel
theorem dX1_openAddress_14 : decode cX1_openAddress 14 = .ok (.lconst 0, 1) := by decide +kernel
theorem dX1_openAddress_15 : decode cX1_openAddress 15 = .ok (.lastore, 1) := by decide +kernel
theorem dX1_openAddress_16 : decode cX1_openAddress 16 = .ok (.iinc 1 1, 3) := by decide +kernel
theorem dX1_openAddress_19 : decode cX1_openAddress 19 = .ok (.goto (-17), 3) := by decide +kernel
theorem dX1_openAddress_22 : decode cX1_openAddress 22 = .ok (.aload_n 0, 1) := by decide +kernel
theorem dX1_openAddress_23 : decode cX1_openAddress 23 = .ok (.getfield 20, 3) := by decide +kernel
theorem dX1_openAddress_26 : decode cX1_openAddress 26 = .ok (.iconst 0, 1) := by decide +kernel
theorem dX1_openAddress_27 : decode cX1_openAddress 27 = .ok (.aload_n 0, 1) := by decide +kernel
theorem dX1_openAddress_28 : decode cX1_openAddress 28 = .ok (.getfield 89, 3) := by decide +kernel
theorem dX1_openAddress_31 : decode cX1_openAddress 31 = .ok (.i2l, 1) := by decide +kernel
theorem dX1_openAddress_32 : decode cX1_openAddress 32 = .ok (.lastore, 1) := by decide +kernel
theorem dX1_openAddress_33 : decode cX1_openAddress 33 = .ok (.aload_n 0, 1) := by decide +kernel
theorem dX1_openAddress_34 : decode cX1_openAddress 34 = .ok (.getfield 20, 3) := by decide +kernel
theorem dX1_openAddress_37 : decode cX1_openAddress 37 = .ok (.iconst 1, 1) := by decide +kernel
theorem dX1_openAddress_38 : decode cX1_openAddress 38 = .ok (.aload_n 0, 1) := by decide +kernel
theorem dX1_openAddress_39 : decode cX1_openAddress 39 = .ok (.getfield 83, 3) := by decide +kernel
theorem dX1_openAddress_42 : decode cX1_openAddress 42 = .ok (.i2l, 1) := by decide +kernel
theorem dX1_openAddress_43 : decode cX1_openAddress 43 = .ok (.lastore, 1) := by decide +kernel
theorem dX1_openAddress_44 : decode cX1_openAddress 44 = .ok (.aload_n 0, 1) := by decide +kernel
theorem dX1_openAddress_45 : decode cX1_openAddress 45 = .ok (.getfield 20, 3) := by decide +kernel
theorem dX1_openAddress_48 : decode cX1_openAddress 48 = .ok (.iconst 2, 1) := by decide +kernel
theorem dX1_openAddress_49 : decode cX1_openAddress 49 = .ok (.aload_n 0, 1) := by decide +kernel
theorem dX1_openAddress_50 : decode cX1_openAddress 50 = .ok (.getfield 86, 3) := by decide +kernel
theorem dX1_openAddress_53 : decode cX1_openAddress 53 = .ok (.i2l, 1) := by decide +kernel
theorem dX1_openAddress_54 : decode cX1_openAddress 54 = .ok (.lastore, 1) := by decide +kernel
theorem dX1_openAddress_55 : decode cX1_openAddress 55 = .ok (.aload_n 0, 1) := by decide +kernel
theorem dX1_openAddress_56 : decode cX1_openAddress 56 = .ok (.getfield 20, 3) := by decide +kernel
theorem dX1_openAddress_59 : decode cX1_openAddress 59 = .ok (.iconst 3, 1) := by decide +kernel
theorem dX1_openAddress_60 : decode cX1_openAddress 60 = .ok (.aload_n 0, 1) := by decide +kernel
theorem dX1_openAddress_61 : decode cX1_openAddress 61 = .ok (.invokevirtual 64, 3) := by decide +kernel
theorem dX1_openAddress_64 : decode cX1_openAddress 64 = .ok (.i2l, 1) := by decide +kernel
theorem dX1_openAddress_65 : decode cX1_openAddress 65 = .ok (.lastore, 1) := by decide +kernel
theorem dX1_openAddress_66 : decode cX1_openAddress 66 = .ok (.aload_n 0, 1) := by decide +kernel
theorem dX1_openAddress_67 : decode cX1_openAddress 67 = .ok (.getfield 20, 3) := by decide +kernel
theorem dX1_openAddress_70 : decode cX1_openAddress 70 = .ok (.iconst 4, 1) := by decide +kernel
theorem dX1_openAddress_71 : decode cX1_openAddress 71 = .ok (.aload_n 0, 1) := by decide +kernel
theorem dX1_openAddress_72 : decode cX1_openAddress 72 = .ok (.getfield 41, 3) := by decide +kernel
theorem dX1_openAddress_75 : decode cX1_openAddress 75 = .ok (.i2l, 1) := by decide +kernel
theorem dX1_openAddress_76 : decode cX1_openAddress 76 = .ok (.lastore, 1) := by decide +kernel
theorem dX1_openAddress_77 : decode cX1_openAddress 77 = .ok (.aload_n 0, 1) := by decide +kernel
theorem dX1_openAddress_78 : decode cX1_openAddress 78 = .ok (.getfield 20, 3) := by decide +kernel
theorem dX1_openAddress_81 : decode cX1_openAddress 81 = .ok (.iconst 5, 1) := by decide +kernel
theorem dX1_openAddress_82 : decode cX1_openAddress 82 = .ok (.aload_n 0, 1) := by decide +kernel
theorem dX1_openAddress_83 : decode cX1_openAddress 83 = .ok (.getfield 34, 3) := by decide +kernel
theorem dX1_openAddress_86 : decode cX1_openAddress 86 = .ok (.i2l, 1) := by decide +kernel
theorem dX1_openAddress_87 : decode cX1_openAddress 87 = .ok (.lastore, 1) := by decide +kernel
theorem dX1_openAddress_88 : decode cX1_openAddress 88 = .ok (.aload_n 0, 1) := by decide +kernel
theorem dX1_openAddress_89 : decode cX1_openAddress 89 = .ok (.getfield 20, 3) := by decide +kernel
theorem dX1_openAddress_92 : decode cX1_openAddress 92 = .ok (.bipush 6, 2) := by decide +kernel
theorem dX1_openAddress_94 : decode cX1_openAddress 94 = .ok (.lconst 1, 1) := by decide +kernel
theorem dX1_openAddress_95 : decode cX1_openAddress 95 = .ok (.lastore, 1) := by decide +kernel
theorem dX1_openAddress_96 : decode cX1_openAddress 96 = .ok (.return_, 1) := by decide +kernel
theorem dX1_farBlock_0 : decode cX1_farBlock 0 = .ok (.aload_n 0, 1) := by decide +kernel
theorem dX1_farBlock_1 : decode cX1_farBlock 1 = .ok (.invokevirtual 103, 3) := by decide +kernel
theorem dX1_farBlock_4 : decode cX1_farBlock 4 = .ok (.ifCond .ne 11, 3) := by decide +kernel
theorem dX1_farBlock_7 : decode cX1_farBlock 7 = .ok (.aload_n 0, 1) := by decide +kernel
theorem dX1_farBlock_8 : decode cX1_farBlock 8 = .ok (.getfield 38, 3) := by decide +kernel
theorem dX1_farBlock_11 : decode cX1_farBlock 11 = .ok (.iconst 2, 1) := by decide +kernel
theorem dX1_farBlock_12 : decode cX1_farBlock 12 = .ok (.if_icmp .ge 10, 3) := by decide +kernel
theorem dX1_farBlock_15 : decode cX1_farBlock 15 = .ok (.aload_n 0, 1) := by decide +kernel
theorem dX1_farBlock_16 : decode cX1_farBlock 16 = .ok (.getfield 83, 3) := by decide +kernel
theorem dX1_farBlock_19 : decode cX1_farBlock 19 = .ok (.goto 14, 3) := by decide +kernel
theorem dX1_farBlock_22 : decode cX1_farBlock 22 = .ok (.lload_n 2, 1) := by decide +kernel
theorem dX1_farBlock_23 : decode cX1_farBlock 23 = .ok (.bipush 32, 2) := by decide +kernel
theorem dX1_farBlock_25 : decode cX1_farBlock 25 = .ok (.lushr, 1) := by decide +kernel
theorem dX1_farBlock_26 : decode cX1_farBlock 26 = .ok (.aload_n 0, 1) := by decide +kernel
theorem dX1_farBlock_27 : decode cX1_farBlock 27 = .ok (.getfield 38, 3) := by decide +kernel
theorem dX1_farBlock_30 : decode cX1_farBlock 30 = .ok (.i2l, 1) := by decide +kernel
theorem dX1_farBlock_31 : decode cX1_farBlock 31 = .ok (.lrem, 1) := by decide +kernel
theorem dX1_farBlock_32 : decode cX1_farBlock 32 = .ok (.l2i, 1) := by decide +kernel
theorem dX1_farBlock_33 : decode cX1_farBlock 33 = .ok (.istore 4, 2) := by decide +kernel
theorem dX1_farBlock_35 : decode cX1_farBlock 35 = .ok (.aload_n 0, 1) := by decide +kernel
theorem dX1_farBlock_36 : decode cX1_farBlock 36 = .ok (.getfield 89, 3) := by decide +kernel
theorem dX1_farBlock_39 : decode cX1_farBlock 39 = .ok (.ifCond .ne 15, 3) := by decide +kernel
theorem dX1_farBlock_42 : decode cX1_farBlock 42 = .ok (.aload_n 0, 1) := by decide +kernel
theorem dX1_farBlock_43 : decode cX1_farBlock 43 = .ok (.getfield 86, 3) := by decide +kernel
theorem dX1_farBlock_46 : decode cX1_farBlock 46 = .ok (.aload_n 0, 1) := by decide +kernel
theorem dX1_farBlock_47 : decode cX1_farBlock 47 = .ok (.getfield 47, 3) := by decide +kernel
theorem dX1_farBlock_50 : decode cX1_farBlock 50 = .ok (.imul, 1) := by decide +kernel
theorem dX1_farBlock_51 : decode cX1_farBlock 51 = .ok (.goto 12, 3) := by decide +kernel
theorem dX1_farBlock_54 : decode cX1_farBlock 54 = .ok (.aload_n 0, 1) := by decide +kernel
theorem dX1_farBlock_55 : decode cX1_farBlock 55 = .ok (.getfield 50, 3) := by decide +kernel
theorem dX1_farBlock_58 : decode cX1_farBlock 58 = .ok (.aload_n 0, 1) := by decide +kernel
theorem dX1_farBlock_59 : decode cX1_farBlock 59 = .ok (.getfield 47, 3) := by decide +kernel
theorem dX1_farBlock_62 : decode cX1_farBlock 62 = .ok (.isub, 1) := by decide +kernel
theorem dX1_farBlock_63 : decode cX1_farBlock 63 = .ok (.istore 5, 2) := by decide +kernel
theorem dX1_farBlock_65 : decode cX1_farBlock 65 = .ok (.iload 5, 2) := by decide +kernel
theorem dX1_farBlock_67 : decode cX1_farBlock 67 = .ok (.iload_n 1, 1) := by decide +kernel
theorem dX1_farBlock_68 : decode cX1_farBlock 68 = .ok (.ifCond .ne 7, 3) := by decide +kernel
theorem dX1_farBlock_71 : decode cX1_farBlock 71 = .ok (.iconst 1, 1) := by decide +kernel
theorem dX1_farBlock_72 : decode cX1_farBlock 72 = .ok (.goto 4, 3) := by decide +kernel
theorem dX1_farBlock_75 : decode cX1_farBlock 75 = .ok (.iconst 0, 1) := by decide +kernel
theorem dX1_farBlock_76 : decode cX1_farBlock 76 = .ok (.isub, 1) := by decide +kernel
theorem dX1_farBlock_77 : decode cX1_farBlock 77 = .ok (.i2l, 1) := by decide +kernel
theorem dX1_farBlock_78 : decode cX1_farBlock 78 = .ok (.lstore 6, 2) := by decide +kernel
theorem dX1_farBlock_80 : decode cX1_farBlock 80 = .ok (.iload 4, 2) := by decide +kernel
theorem dX1_farBlock_82 : decode cX1_farBlock 82 = .ok (.aload_n 0, 1) := by decide +kernel
theorem dX1_farBlock_83 : decode cX1_farBlock 83 = .ok (.getfield 83, 3) := by decide +kernel
theorem dX1_farBlock_86 : decode cX1_farBlock 86 = .ok (.if_icmp .ne 12, 3) := by decide +kernel
theorem dX1_farBlock_89 : decode cX1_farBlock 89 = .ok (.iload 5, 2) := by decide +kernel
theorem dX1_farBlock_91 : decode cX1_farBlock 91 = .ok (.iload_n 1, 1) := by decide +kernel
theorem dX1_farBlock_92 : decode cX1_farBlock 92 = .ok (.iadd, 1) := by decide +kernel
theorem dX1_farBlock_93 : decode cX1_farBlock 93 = .ok (.iconst 1, 1) := by decide +kernel
theorem dX1_farBlock_94 : decode cX1_farBlock 94 = .ok (.isub, 1) := by decide +kernel
theorem dX1_farBlock_95 : decode cX1_farBlock 95 = .ok (.i2l, 1) := by decide +kernel
theorem dX1_farBlock_96 : decode cX1_farBlock 96 = .ok (.lstore 6, 2) := by decide +kernel
theorem dX1_farBlock_98 : decode cX1_farBlock 98 = .ok (.lload_n 2, 1) := by decide +kernel
theorem dX1_farBlock_99 : decode cX1_farBlock 99 = .ok (.ldc2_w 110, 3) := by decide +kernel
theorem dX1_farBlock_102 : decode cX1_farBlock 102 = .ok (.land, 1) := by decide +kernel
theorem dX1_farBlock_103 : decode cX1_farBlock 103 = .ok (.lstore 8, 2) := by decide +kernel
theorem dX1_farBlock_105 : decode cX1_farBlock 105 = .ok (.lload 8, 2) := by decide +kernel
theorem dX1_farBlock_107 : decode cX1_farBlock 107 = .ok (.lload 8, 2) := by decide +kernel
theorem dX1_farBlock_109 : decode cX1_farBlock 109 = .ok (.lmul, 1) := by decide +kernel
theorem dX1_farBlock_110 : decode cX1_farBlock 110 = .ok (.bipush 32, 2) := by decide +kernel
theorem dX1_farBlock_112 : decode cX1_farBlock 112 = .ok (.lushr, 1) := by decide +kernel
theorem dX1_farBlock_113 : decode cX1_farBlock 113 = .ok (.lstore 10, 2) := by decide +kernel
theorem dX1_farBlock_115 : decode cX1_farBlock 115 = .ok (.lload 6, 2) := by decide +kernel
theorem dX1_farBlock_117 : decode cX1_farBlock 117 = .ok (.lconst 1, 1) := by decide +kernel
theorem dX1_farBlock_118 : decode cX1_farBlock 118 = .ok (.lsub, 1) := by decide +kernel
theorem dX1_farBlock_119 : decode cX1_farBlock 119 = .ok (.lload 6, 2) := by decide +kernel
theorem dX1_farBlock_121 : decode cX1_farBlock 121 = .ok (.lload 10, 2) := by decide +kernel
theorem dX1_farBlock_123 : decode cX1_farBlock 123 = .ok (.lmul, 1) := by decide +kernel
theorem dX1_farBlock_124 : decode cX1_farBlock 124 = .ok (.bipush 32, 2) := by decide +kernel
theorem dX1_farBlock_126 : decode cX1_farBlock 126 = .ok (.lushr, 1) := by decide +kernel
theorem dX1_farBlock_127 : decode cX1_farBlock 127 = .ok (.lsub, 1) := by decide +kernel
theorem dX1_farBlock_128 : decode cX1_farBlock 128 = .ok (.l2i, 1) := by decide +kernel
theorem dX1_farBlock_129 : decode cX1_farBlock 129 = .ok (.istore 12, 2) := by decide +kernel
theorem dX1_farBlock_131 : decode cX1_farBlock 131 = .ok (.aload_n 0, 1) := by decide +kernel
theorem dX1_farBlock_132 : decode cX1_farBlock 132 = .ok (.getfield 89, 3) := by decide +kernel
theorem dX1_farBlock_135 : decode cX1_farBlock 135 = .ok (.ifCond .eq 11, 3) := by decide +kernel
theorem dX1_farBlock_138 : decode cX1_farBlock 138 = .ok (.aload_n 0, 1) := by decide +kernel
theorem dX1_farBlock_139 : decode cX1_farBlock 139 = .ok (.getfield 86, 3) := by decide +kernel
theorem dX1_farBlock_142 : decode cX1_farBlock 142 = .ok (.iconst 3, 1) := by decide +kernel
theorem dX1_farBlock_143 : decode cX1_farBlock 143 = .ok (.if_icmp .ne 7, 3) := by decide +kernel
theorem dX1_farBlock_146 : decode cX1_farBlock 146 = .ok (.iconst 0, 1) := by decide +kernel
theorem dX1_farBlock_147 : decode cX1_farBlock 147 = .ok (.goto 14, 3) := by decide +kernel
theorem dX1_farBlock_150 : decode cX1_farBlock 150 = .ok (.aload_n 0, 1) := by decide +kernel
theorem dX1_farBlock_151 : decode cX1_farBlock 151 = .ok (.getfield 86, 3) := by decide +kernel
theorem dX1_farBlock_154 : decode cX1_farBlock 154 = .ok (.iconst 1, 1) := by decide +kernel
theorem dX1_farBlock_155 : decode cX1_farBlock 155 = .ok (.iadd, 1) := by decide +kernel
theorem dX1_farBlock_156 : decode cX1_farBlock 156 = .ok (.aload_n 0, 1) := by decide +kernel
theorem dX1_farBlock_157 : decode cX1_farBlock 157 = .ok (.getfield 47, 3) := by decide +kernel
theorem dX1_farBlock_160 : decode cX1_farBlock 160 = .ok (.imul, 1) := by decide +kernel
theorem dX1_farBlock_161 : decode cX1_farBlock 161 = .ok (.istore 13, 2) := by decide +kernel
theorem dX1_farBlock_163 : decode cX1_farBlock 163 = .ok (.iload 13, 2) := by decide +kernel
theorem dX1_farBlock_165 : decode cX1_farBlock 165 = .ok (.iload 12, 2) := by decide +kernel
theorem dX1_farBlock_167 : decode cX1_farBlock 167 = .ok (.iadd, 1) := by decide +kernel
theorem dX1_farBlock_168 : decode cX1_farBlock 168 = .ok (.istore 14, 2) := by decide +kernel
theorem dX1_farBlock_170 : decode cX1_farBlock 170 = .ok (.iload 4, 2) := by decide +kernel
theorem dX1_farBlock_172 : decode cX1_farBlock 172 = .ok (.aload_n 0, 1) := by decide +kernel
theorem dX1_farBlock_173 : decode cX1_farBlock 173 = .ok (.getfield 50, 3) := by decide +kernel
theorem dX1_farBlock_176 : decode cX1_farBlock 176 = .ok (.imul, 1) := by decide +kernel
theorem dX1_farBlock_177 : decode cX1_farBlock 177 = .ok (.iload 14, 2) := by decide +kernel
theorem dX1_farBlock_179 : decode cX1_farBlock 179 = .ok (.aload_n 0, 1) := by decide +kernel
theorem dX1_farBlock_180 : decode cX1_farBlock 180 = .ok (.getfield 50, 3) := by decide +kernel
theorem dX1_farBlock_183 : decode cX1_farBlock 183 = .ok (.if_icmp .ge 8, 3) := by decide +kernel
theorem dX1_farBlock_186 : decode cX1_farBlock 186 = .ok (.iload 14, 2) := by decide +kernel
theorem dX1_farBlock_188 : decode cX1_farBlock 188 = .ok (.goto 10, 3) := by decide +kernel
theorem dX1_farBlock_191 : decode cX1_farBlock 191 = .ok (.iload 14, 2) := by decide +kernel
theorem dX1_farBlock_193 : decode cX1_farBlock 193 = .ok (.aload_n 0, 1) := by decide +kernel
theorem dX1_farBlock_194 : decode cX1_farBlock 194 = .ok (.getfield 50, 3) := by decide +kernel
theorem dX1_farBlock_197 : decode cX1_farBlock 197 = .ok (.isub, 1) := by decide +kernel
theorem dX1_farBlock_198 : decode cX1_farBlock 198 = .ok (.iadd, 1) := by decide +kernel
theorem dX1_farBlock_199 : decode cX1_farBlock 199 = .ok (.ireturn, 1) := by decide +kernel
theorem dX1_blockOf_0 : decode cX1_blockOf 0 = .ok (.iload_n 1, 1) := by decide +kernel
theorem dX1_blockOf_1 : decode cX1_blockOf 1 = .ok (.ifCond .lt 19, 3) := by decide +kernel
theorem dX1_blockOf_4 : decode cX1_blockOf 4 = .ok (.iload_n 1, 1) := by decide +kernel
theorem dX1_blockOf_5 : decode cX1_blockOf 5 = .ok (.sipush 128, 3) := by decide +kernel
theorem dX1_blockOf_8 : decode cX1_blockOf 8 = .ok (.if_icmp .ge 12, 3) := by decide +kernel
theorem dX1_blockOf_11 : decode cX1_blockOf 11 = .ok (.aload_n 0, 1) := by decide +kernel
theorem dX1_blockOf_12 : decode cX1_blockOf 12 = .ok (.getfield 11, 3) := by decide +kernel
theorem dX1_blockOf_15 : decode cX1_blockOf 15 = .ok (.iload_n 1, 1) := by decide +kernel
theorem dX1_blockOf_16 : decode cX1_blockOf 16 = .ok (.aaload, 1) := by decide +kernel
theorem dX1_blockOf_17 : decode cX1_blockOf 17 = .ok (.goto 7, 3) := by decide +kernel
theorem dX1_blockOf_20 : decode cX1_blockOf 20 = .ok (.aload_n 0, 1) := by decide +kernel
theorem dX1_blockOf_21 : decode cX1_blockOf 21 = .ok (.getfield 16, 3) := by decide +kernel
theorem dX1_blockOf_24 : decode cX1_blockOf 24 = .ok (.areturn, 1) := by decide +kernel
theorem dX2_init_0 : decode cX2_init 0 = .ok (.aload_n 0, 1) := by decide +kernel
theorem dX2_init_1 : decode cX2_init 1 = .ok (.invokespecial 3, 3) := by decide +kernel
theorem dX2_init_4 : decode cX2_init 4 = .ok (.aload_n 0, 1) := by decide +kernel
theorem dX2_init_5 : decode cX2_init 5 = .ok (.new 9, 3) := by decide +kernel
theorem dX2_init_8 : decode cX2_init 8 = .ok (.dup, 1) := by decide +kernel
theorem dX2_init_9 : decode cX2_init 9 = .ok (.sipush 1028, 3) := by decide +kernel
theorem dX2_init_12 : decode cX2_init 12 = .ok (.invokespecial 13, 3) := by decide +kernel
theorem dX2_init_15 : decode cX2_init 15 = .ok (.putfield 16, 3) := by decide +kernel
theorem dX2_init_18 : decode cX2_init 18 = .ok (.aload_n 0, 1) := by decide +kernel
theorem dX2_init_19 : decode cX2_init 19 = .ok (.new 9, 3) := by decide +kernel
theorem dX2_init_22 : decode cX2_init 22 = .ok (.dup, 1) := by decide +kernel
theorem dX2_init_23 : decode cX2_init 23 = .ok (.sipush 1024, 3) := by decide +kernel
theorem dX2_init_26 : decode cX2_init 26 = .ok (.invokespecial 13, 3) := by decide +kernel
theorem dX2_init_29 : decode cX2_init 29 = .ok (.putfield 20, 3) := by decide +kernel
theorem dX2_init_32 : decode cX2_init 32 = .ok (.aload_n 0, 1) := by decide +kernel
theorem dX2_init_33 : decode cX2_init 33 = .ok (.bipush 8, 2) := by decide +kernel
theorem dX2_init_35 : decode cX2_init 35 = .ok (.newarray .long, 2) := by decide +kernel
theorem dX2_init_37 : decode cX2_init 37 = .ok (.putfield 23, 3) := by decide +kernel
theorem dX2_init_40 : decode cX2_init 40 = .ok (.aload_n 0, 1) := by decide +kernel
theorem dX2_init_41 : decode cX2_init 41 = .ok (.bipush 16, 2) := by decide +kernel
theorem dX2_init_43 : decode cX2_init 43 = .ok (.newarray .long, 2) := by decide +kernel
theorem dX2_init_45 : decode cX2_init 45 = .ok (.putfield 27, 3) := by decide +kernel
theorem dX2_init_48 : decode cX2_init 48 = .ok (.aload_n 0, 1) := by decide +kernel
theorem dX2_init_49 : decode cX2_init 49 = .ok (.bipush 16, 2) := by decide +kernel
theorem dX2_init_51 : decode cX2_init 51 = .ok (.newarray .long, 2) := by decide +kernel
theorem dX2_init_53 : decode cX2_init 53 = .ok (.putfield 30, 3) := by decide +kernel
theorem dX2_init_56 : decode cX2_init 56 = .ok (.return_, 1) := by decide +kernel
theorem dX2_openWithKey_0 : decode cX2_openWithKey 0 = .ok (.aload_n 0, 1) := by decide +kernel
theorem dX2_openWithKey_1 : decode cX2_openWithKey 1 = .ok (.getfield 16, 3) := by decide +kernel
theorem dX2_openWithKey_4 : decode cX2_openWithKey 4 = .ok (.invokevirtual 33, 3) := by decide +kernel
theorem dX2_openWithKey_7 : decode cX2_openWithKey 7 = .ok (.aload_n 1, 1) := by decide +kernel
theorem dX2_openWithKey_8 : decode cX2_openWithKey 8 = .ok (.getfield 36, 3) := by decide +kernel
theorem dX2_openWithKey_11 : decode cX2_openWithKey 11 = .ok (.ifCond .ne 4, 3) := by decide +kernel
theorem dX2_openWithKey_14 : decode cX2_openWithKey 14 = .ok (.return_, 1) := by decide +kernel
theorem dX2_openWithKey_15 : decode cX2_openWithKey 15 = .ok (.aload_n 0, 1) := by decide +kernel
theorem dX2_openWithKey_16 : decode cX2_openWithKey 16 = .ok (.getfield 16, 3) := by decide +kernel
theorem dX2_openWithKey_19 : decode cX2_openWithKey 19 = .ok (.aload_n 1, 1) := by decide +kernel
theorem dX2_openWithKey_20 : decode cX2_openWithKey 20 = .ok (.invokevirtual 40, 3) := by decide +kernel
theorem dX2_openWithKey_23 : decode cX2_openWithKey 23 = .ok (.aload_n 1, 1) := by decide +kernel
theorem dX2_openWithKey_24 : decode cX2_openWithKey 24 = .ok (.getfield 36, 3) := by decide +kernel
theorem dX2_openWithKey_27 : decode cX2_openWithKey 27 = .ok (.istore_n 2, 1) := by decide +kernel
theorem dX2_openWithKey_28 : decode cX2_openWithKey 28 = .ok (.iload_n 2, 1) := by decide +kernel
theorem dX2_openWithKey_29 : decode cX2_openWithKey 29 = .ok (.sipush 128, 3) := by decide +kernel
theorem dX2_openWithKey_32 : decode cX2_openWithKey 32 = .ok (.if_icmp .ge 17, 3) := by decide +kernel
theorem dX2_openWithKey_35 : decode cX2_openWithKey 35 = .ok (.aload_n 0, 1) := by decide +kernel
theorem dX2_openWithKey_36 : decode cX2_openWithKey 36 = .ok (.getfield 16, 3) := by decide +kernel
theorem dX2_openWithKey_39 : decode cX2_openWithKey 39 = .ok (.iconst 0, 1) := by decide +kernel
theorem dX2_openWithKey_40 : decode cX2_openWithKey 40 = .ok (.invokevirtual 44, 3) := by decide +kernel
theorem dX2_openWithKey_43 : decode cX2_openWithKey 43 = .ok (.iinc 2 1, 3) := by decide +kernel
theorem dX2_openWithKey_46 : decode cX2_openWithKey 46 = .ok (.goto (-18), 3) := by decide +kernel
theorem dX2_openWithKey_49 : decode cX2_openWithKey 49 = .ok (.return_, 1) := by decide +kernel
theorem dX2_openLong_0 : decode cX2_openLong 0 = .ok (.aload_n 0, 1) := by decide +kernel
theorem dX2_openLong_1 : decode cX2_openLong 1 = .ok (.getfield 16, 3) := by decide +kernel
theorem dX2_openLong_4 : decode cX2_openLong 4 = .ok (.invokevirtual 33, 3) := by decide +kernel
theorem dX2_openLong_7 : decode cX2_openLong 7 = .ok (.aload_n 0, 1) := by decide +kernel
theorem dX2_openLong_8 : decode cX2_openLong 8 = .ok (.getfield 16, 3) := by decide +kernel
theorem dX2_openLong_11 : decode cX2_openLong 11 = .ok (.iload_n 1, 1) := by decide +kernel
theorem dX2_openLong_12 : decode cX2_openLong 12 = .ok (.i2l, 1) := by decide +kernel
theorem dX2_openLong_13 : decode cX2_openLong 13 = .ok (.iconst 4, 1) := by decide +kernel
theorem dX2_openLong_14 : decode cX2_openLong 14 = .ok (.invokevirtual 47, 3) := by decide +kernel
theorem dX2_openLong_17 : decode cX2_openLong 17 = .ok (.return_, 1) := by decide +kernel
end
section
theorem dX2_makeShort_0 : decode cX2_makeShort 0 = .ok (.aload_n 0, 1) := by decide +kernel
theorem dX2_makeShort_1 : decode cX2_makeShort 1 = .ok (.getfield 20, 3) := by decide +kernel
theorem dX2_makeShort_4 : decode cX2_makeShort 4 = .ok (.invokevirtual 33, 3) := by decide +kernel
theorem dX2_makeShort_7 : decode cX2_makeShort 7 = .ok (.aload_n 0, 1) := by decide +kernel
theorem dX2_makeShort_8 : decode cX2_makeShort 8 = .ok (.iload_n 1, 1) := by decide +kernel
theorem dX2_makeShort_9 : decode cX2_makeShort 9 = .ok (.iload_n 2, 1) := by decide +kernel
theorem dX2_makeShort_10 : decode cX2_makeShort 10 = .ok (.invokevirtual 51, 3) := by decide +kernel
theorem dX2_makeShort_13 : decode cX2_makeShort 13 = .ok (.aload_n 0, 1) := by decide +kernel
theorem dX2_makeShort_14 : decode cX2_makeShort 14 = .ok (.iload_n 1, 1) := by decide +kernel
theorem dX2_makeShort_15 : decode cX2_makeShort 15 = .ok (.invokevirtual 55, 3) := by decide +kernel
theorem dX2_makeShort_18 : decode cX2_makeShort 18 = .ok (.return_, 1) := by decide +kernel
theorem dX2_makeLong_0 : decode cX2_makeLong 0 = .ok (.aload_n 0, 1) := by decide +kernel
theorem dX2_makeLong_1 : decode cX2_makeLong 1 = .ok (.getfield 20, 3) := by decide +kernel
theorem dX2_makeLong_4 : decode cX2_makeLong 4 = .ok (.invokevirtual 33, 3) := by decide +kernel
theorem dX2_makeLong_7 : decode cX2_makeLong 7 = .ok (.iload_n 1, 1) := by decide +kernel
theorem dX2_makeLong_8 : decode cX2_makeLong 8 = .ok (.istore_n 2, 1) := by decide +kernel
theorem dX2_makeLong_9 : decode cX2_makeLong 9 = .ok (.iload_n 2, 1) := by decide +kernel
theorem dX2_makeLong_10 : decode cX2_makeLong 10 = .ok (.bipush 64, 2) := by decide +kernel
theorem dX2_makeLong_12 : decode cX2_makeLong 12 = .ok (.if_icmp .le 26, 3) := by decide +kernel
theorem dX2_makeLong_15 : decode cX2_makeLong 15 = .ok (.aload_n 0, 1) := by decide +kernel
theorem dX2_makeLong_16 : decode cX2_makeLong 16 = .ok (.bipush 64, 2) := by decide +kernel
theorem dX2_makeLong_18 : decode cX2_makeLong 18 = .ok (.iconst 0, 1) := by decide +kernel
theorem dX2_makeLong_19 : decode cX2_makeLong 19 = .ok (.invokevirtual 51, 3) := by decide +kernel
theorem dX2_makeLong_22 : decode cX2_makeLong 22 = .ok (.aload_n 0, 1) := by decide +kernel
theorem dX2_makeLong_23 : decode cX2_makeLong 23 = .ok (.bipush 32, 2) := by decide +kernel
theorem dX2_makeLong_25 : decode cX2_makeLong 25 = .ok (.invokevirtual 55, 3) := by decide +kernel
theorem dX2_makeLong_28 : decode cX2_makeLong 28 = .ok (.aload_n 0, 1) := by decide +kernel
theorem dX2_makeLong_29 : decode cX2_makeLong 29 = .ok (.invokevirtual 58, 3) := by decide +kernel
theorem dX2_makeLong_32 : decode cX2_makeLong 32 = .ok (.iinc 2 (-32), 3) := by decide +kernel
theorem dX2_makeLong_35 : decode cX2_makeLong 35 = .ok (.goto (-26), 3) := by decide +kernel
theorem dX2_makeLong_38 : decode cX2_makeLong 38 = .ok (.iload_n 1, 1) := by decide +kernel
theorem dX2_makeLong_39 : decode cX2_makeLong 39 = .ok (.aload_n 0, 1) := by decide +kernel
theorem dX2_makeLong_40 : decode cX2_makeLong 40 = .ok (.getfield 20, 3) := by decide +kernel
theorem dX2_makeLong_43 : decode cX2_makeLong 43 = .ok (.getfield 36, 3) := by decide +kernel
theorem dX2_makeLong_46 : decode cX2_makeLong 46 = .ok (.isub, 1) := by decide +kernel
theorem dX2_makeLong_47 : decode cX2_makeLong 47 = .ok (.istore_n 2, 1) := by decide +kernel
theorem dX2_makeLong_48 : decode cX2_makeLong 48 = .ok (.aload_n 0, 1) := by decide +kernel
theorem dX2_makeLong_49 : decode cX2_makeLong 49 = .ok (.iload_n 2, 1) := by decide +kernel
theorem dX2_makeLong_50 : decode cX2_makeLong 50 = .ok (.iconst 0, 1) := by decide +kernel
theorem dX2_makeLong_51 : decode cX2_makeLong 51 = .ok (.invokevirtual 51, 3) := by decide +kernel
theorem dX2_makeLong_54 : decode cX2_makeLong 54 = .ok (.aload_n 0, 1) := by decide +kernel
theorem dX2_makeLong_55 : decode cX2_makeLong 55 = .ok (.iload_n 2, 1) := by decide +kernel
theorem dX2_makeLong_56 : decode cX2_makeLong 56 = .ok (.invokevirtual 55, 3) := by decide +kernel
theorem dX2_makeLong_59 : decode cX2_makeLong 59 = .ok (.return_, 1) := by decide +kernel
theorem dX2_takeStateAsMessage_0 : decode cX2_takeStateAsMessage 0 = .ok (.aload_n 0, 1) := by decide +kernel
theorem dX2_takeStateAsMessage_1 : decode cX2_takeStateAsMessage 1 = .ok (.getfield 16, 3) := by decide +kernel
theorem dX2_takeStateAsMessage_4 : decode cX2_takeStateAsMessage 4 = .ok (.invokevirtual 33, 3) := by decide +kernel
theorem dX2_takeStateAsMessage_7 : decode cX2_takeStateAsMessage 7 = .ok (.iconst 0, 1) := by decide +kernel
theorem dX2_takeStateAsMessage_8 : decode cX2_takeStateAsMessage 8 = .ok (.istore_n 1, 1) := by decide +kernel
theorem dX2_takeStateAsMessage_9 : decode cX2_takeStateAsMessage 9 = .ok (.iload_n 1, 1) := by decide +kernel
theorem dX2_takeStateAsMessage_10 : decode cX2_takeStateAsMessage 10 = .ok (.bipush 8, 2) := by decide +kernel
theorem dX2_takeStateAsMessage_12 : decode cX2_takeStateAsMessage 12 = .ok (.if_icmp .ge 24, 3) := by decide +kernel
theorem dX2_takeStateAsMessage_15 : decode cX2_takeStateAsMessage 15 = .ok (.aload_n 0, 1) := by decide +kernel
theorem dX2_takeStateAsMessage_16 : decode cX2_takeStateAsMessage 16 = .ok (.getfield 16, 3) := by decide +kernel
theorem dX2_takeStateAsMessage_19 : decode cX2_takeStateAsMessage 19 = .ok (.aload_n 0, 1) := by decide +kernel
theorem dX2_takeStateAsMessage_20 : decode cX2_takeStateAsMessage 20 = .ok (.getfield 23, 3) := by decide +kernel
theorem dX2_takeStateAsMessage_23 : decode cX2_takeStateAsMessage 23 = .ok (.iload_n 1, 1) := by decide +kernel
theorem dX2_takeStateAsMessage_24 : decode cX2_takeStateAsMessage 24 = .ok (.laload, 1) := by decide +kernel
theorem dX2_takeStateAsMessage_25 : decode cX2_takeStateAsMessage 25 = .ok (.bipush 8, 2) := by decide +kernel
theorem dX2_takeStateAsMessage_27 : decode cX2_takeStateAsMessage 27 = .ok (.invokevirtual 47, 3) := by decide +kernel
theorem dX2_takeStateAsMessage_30 : decode cX2_takeStateAsMessage 30 = .ok (.iinc 1 1, 3) := by decide +kernel
theorem dX2_takeStateAsMessage_33 : decode cX2_takeStateAsMessage 33 = .ok (.goto (-24), 3) := by decide +kernel
theorem dX2_takeStateAsMessage_36 : decode cX2_takeStateAsMessage 36 = .ok (.return_, 1) := by decide +kernel
theorem dX2_give_0 : decode cX2_give 0 = .ok (.iconst 0, 1) := by decide +kernel
theorem dX2_give_1 : decode cX2_give 1 = .ok (.istore_n 2, 1) := by decide +kernel
theorem dX2_give_2 : decode cX2_give 2 = .ok (.iload_n 2, 1) := by decide +kernel
theorem dX2_give_3 : decode cX2_give 3 = .ok (.bipush 8, 2) := by decide +kernel
theorem dX2_give_5 : decode cX2_give 5 = .ok (.if_icmp .ge 33, 3) := by decide +kernel
theorem dX2_give_8 : decode cX2_give 8 = .ok (.aload_n 0, 1) := by decide +kernel
theorem dX2_give_9 : decode cX2_give 9 = .ok (.getfield 20, 3) := by decide +kernel
theorem dX2_give_12 : decode cX2_give 12 = .ok (.aload_n 0, 1) := by decide +kernel
theorem dX2_give_13 : decode cX2_give 13 = .ok (.getfield 23, 3) := by decide +kernel
theorem dX2_give_16 : decode cX2_give 16 = .ok (.iload_n 2, 1) := by decide +kernel
theorem dX2_give_17 : decode cX2_give 17 = .ok (.laload, 1) := by decide +kernel
theorem dX2_give_18 : decode cX2_give 18 = .ok (.bipush 8, 2) := by decide +kernel
theorem dX2_give_20 : decode cX2_give 20 = .ok (.iload_n 1, 1) := by decide +kernel
theorem dX2_give_21 : decode cX2_give 21 = .ok (.bipush 8, 2) := by decide +kernel
theorem dX2_give_23 : decode cX2_give 23 = .ok (.iload_n 2, 1) := by decide +kernel
theorem dX2_give_24 : decode cX2_give 24 = .ok (.imul, 1) := by decide +kernel
theorem dX2_give_25 : decode cX2_give 25 = .ok (.isub, 1) := by decide +kernel
theorem dX2_give_26 : decode cX2_give 26 = .ok (.invokestatic 61, 3) := by decide +kernel
theorem dX2_give_29 : decode cX2_give 29 = .ok (.invokevirtual 47, 3) := by decide +kernel
theorem dX2_give_32 : decode cX2_give 32 = .ok (.iinc 2 1, 3) := by decide +kernel
theorem dX2_give_35 : decode cX2_give 35 = .ok (.goto (-33), 3) := by decide +kernel
theorem dX2_give_38 : decode cX2_give 38 = .ok (.return_, 1) := by decide +kernel
theorem dX2_digest_0 : decode cX2_digest 0 = .ok (.iconst 0, 1) := by decide +kernel
theorem dX2_digest_1 : decode cX2_digest 1 = .ok (.istore_n 3, 1) := by decide +kernel
theorem dX2_digest_2 : decode cX2_digest 2 = .ok (.iload_n 3, 1) := by decide +kernel
theorem dX2_digest_3 : decode cX2_digest 3 = .ok (.bipush 8, 2) := by decide +kernel
theorem dX2_digest_5 : decode cX2_digest 5 = .ok (.if_icmp .ge 20, 3) := by decide +kernel
theorem dX2_digest_8 : decode cX2_digest 8 = .ok (.aload_n 0, 1) := by decide +kernel
theorem dX2_digest_9 : decode cX2_digest 9 = .ok (.getfield 23, 3) := by decide +kernel
theorem dX2_digest_12 : decode cX2_digest 12 = .ok (.iload_n 3, 1) := by decide +kernel
theorem dX2_digest_13 : decode cX2_digest 13 = .ok (.getstatic 67, 3) := by decide +kernel
theorem dX2_digest_16 : decode cX2_digest 16 = .ok (.iload_n 3, 1) := by decide +kernel
theorem dX2_digest_17 : decode cX2_digest 17 = .ok (.laload, 1) := by decide +kernel
theorem dX2_digest_18 : decode cX2_digest 18 = .ok (.lastore, 1) := by decide +kernel
theorem dX2_digest_19 : decode cX2_digest 19 = .ok (.iinc 3 1, 3) := by decide +kernel
theorem dX2_digest_22 : decode cX2_digest 22 = .ok (.goto (-20), 3) := by decide +kernel
theorem dX2_digest_25 : decode cX2_digest 25 = .ok (.aload_n 0, 1) := by decide +kernel
theorem dX2_digest_26 : decode cX2_digest 26 = .ok (.getfield 23, 3) := by decide +kernel
theorem dX2_digest_29 : decode cX2_digest 29 = .ok (.iconst 0, 1) := by decide +kernel
theorem dX2_digest_30 : decode cX2_digest 30 = .ok (.dup2, 1) := by decide +kernel
theorem dX2_digest_31 : decode cX2_digest 31 = .ok (.laload, 1) := by decide +kernel
theorem dX2_digest_32 : decode cX2_digest 32 = .ok (.ldc 70, 2) := by decide +kernel
theorem dX2_digest_34 : decode cX2_digest 34 = .ok (.sipush 256, 3) := by decide +kernel
theorem dX2_digest_37 : decode cX2_digest 37 = .ok (.iload_n 2, 1) := by decide +kernel
theorem dX2_digest_38 : decode cX2_digest 38 = .ok (.imul, 1) := by decide +kernel
theorem dX2_digest_39 : decode cX2_digest 39 = .ok (.ixor, 1) := by decide +kernel
theorem dX2_digest_40 : decode cX2_digest 40 = .ok (.iload_n 1, 1) := by decide +kernel
theorem dX2_digest_41 : decode cX2_digest 41 = .ok (.ixor, 1) := by decide +kernel
theorem dX2_digest_42 : decode cX2_digest 42 = .ok (.i2l, 1) := by decide +kernel
theorem dX2_digest_43 : decode cX2_digest 43 = .ok (.lxor, 1) := by decide +kernel
theorem dX2_digest_44 : decode cX2_digest 44 = .ok (.lastore, 1) := by decide +kernel
theorem dX2_digest_45 : decode cX2_digest 45 = .ok (.iconst 1, 1) := by decide +kernel
theorem dX2_digest_46 : decode cX2_digest 46 = .ok (.aload_n 0, 1) := by decide +kernel
theorem dX2_digest_47 : decode cX2_digest 47 = .ok (.getfield 16, 3) := by decide +kernel
theorem dX2_digest_50 : decode cX2_digest 50 = .ok (.getfield 36, 3) := by decide +kernel
theorem dX2_digest_53 : decode cX2_digest 53 = .ok (.sipush 128, 3) := by decide +kernel
theorem dX2_digest_56 : decode cX2_digest 56 = .ok (.iadd, 1) := by decide +kernel
theorem dX2_digest_57 : decode cX2_digest 57 = .ok (.iconst 1, 1) := by decide +kernel
theorem dX2_digest_58 : decode cX2_digest 58 = .ok (.isub, 1) := by decide +kernel
theorem dX2_digest_59 : decode cX2_digest 59 = .ok (.sipush 128, 3) := by decide +kernel
theorem dX2_digest_62 : decode cX2_digest 62 = .ok (.idiv, 1) := by decide +kernel
theorem dX2_digest_63 : decode cX2_digest 63 = .ok (.invokestatic 71, 3) := by decide +kernel
theorem dX2_digest_66 : decode cX2_digest 66 = .ok (.istore_n 3, 1) := by decide +kernel
theorem dX2_digest_67 : decode cX2_digest 67 = .ok (.iconst 0, 1) := by decide +kernel
theorem dX2_digest_68 : decode cX2_digest 68 = .ok (.istore 4, 2) := by decide +kernel
theorem dX2_digest_70 : decode cX2_digest 70 = .ok (.iload 4, 2) := by decide +kernel
theorem dX2_digest_72 : decode cX2_digest 72 = .ok (.iload_n 3, 1) := by decide +kernel
theorem dX2_digest_73 : decode cX2_digest 73 = .ok (.if_icmp .ge 105, 3) := by decide +kernel
theorem dX2_digest_76 : decode cX2_digest 76 = .ok (.aload_n 0, 1) := by decide +kernel
theorem dX2_digest_77 : decode cX2_digest 77 = .ok (.iload 4, 2) := by decide +kernel
theorem dX2_digest_79 : decode cX2_digest 79 = .ok (.iload 4, 2) := by decide +kernel
theorem dX2_digest_81 : decode cX2_digest 81 = .ok (.iload_n 3, 1) := by decide +kernel
theorem dX2_digest_82 : decode cX2_digest 82 = .ok (.iconst 1, 1) := by decide +kernel
theorem dX2_digest_83 : decode cX2_digest 83 = .ok (.isub, 1) := by decide +kernel
theorem dX2_digest_84 : decode cX2_digest 84 = .ok (.if_icmp .ne 7, 3) := by decide +kernel
theorem dX2_digest_87 : decode cX2_digest 87 = .ok (.iconst 1, 1) := by decide +kernel
theorem dX2_digest_88 : decode cX2_digest 88 = .ok (.goto 4, 3) := by decide +kernel
theorem dX2_digest_91 : decode cX2_digest 91 = .ok (.iconst 0, 1) := by decide +kernel
theorem dX2_digest_92 : decode cX2_digest 92 = .ok (.invokevirtual 74, 3) := by decide +kernel
theorem dX2_digest_95 : decode cX2_digest 95 = .ok (.iconst 0, 1) := by decide +kernel
theorem dX2_digest_96 : decode cX2_digest 96 = .ok (.istore 5, 2) := by decide +kernel
theorem dX2_digest_98 : decode cX2_digest 98 = .ok (.iload 5, 2) := by decide +kernel
theorem dX2_digest_100 : decode cX2_digest 100 = .ok (.bipush 96, 2) := by decide +kernel
theorem dX2_digest_102 : decode cX2_digest 102 = .ok (.if_icmp .ge 66, 3) := by decide +kernel
theorem dX2_digest_105 : decode cX2_digest 105 = .ok (.iload 5, 2) := by decide +kernel
theorem dX2_digest_107 : decode cX2_digest 107 = .ok (.bipush 8, 2) := by decide +kernel
theorem dX2_digest_109 : decode cX2_digest 109 = .ok (.irem, 1) := by decide +kernel
theorem dX2_digest_110 : decode cX2_digest 110 = .ok (.istore 6, 2) := by decide +kernel
theorem dX2_digest_112 : decode cX2_digest 112 = .ok (.iload 5, 2) := by decide +kernel
theorem dX2_digest_114 : decode cX2_digest 114 = .ok (.bipush 8, 2) := by decide +kernel
theorem dX2_digest_116 : decode cX2_digest 116 = .ok (.idiv, 1) := by decide +kernel
theorem dX2_digest_117 : decode cX2_digest 117 = .ok (.bipush 10, 2) := by decide +kernel
theorem dX2_digest_119 : decode cX2_digest 119 = .ok (.irem, 1) := by decide +kernel
theorem dX2_digest_120 : decode cX2_digest 120 = .ok (.bipush 16, 2) := by decide +kernel
theorem dX2_digest_122 : decode cX2_digest 122 = .ok (.imul, 1) := by decide +kernel
theorem dX2_digest_123 : decode cX2_digest 123 = .ok (.iconst 2, 1) := by decide +kernel
theorem dX2_digest_124 : decode cX2_digest 124 = .ok (.iload 6, 2) := by decide +kernel
theorem dX2_digest_126 : decode cX2_digest 126 = .ok (.imul, 1) := by decide +kernel
theorem dX2_digest_127 : decode cX2_digest 127 = .ok (.iadd, 1) := by decide +kernel
theorem dX2_digest_128 : decode cX2_digest 128 = .ok (.istore 7, 2) := by decide +kernel
theorem dX2_digest_130 : decode cX2_digest 130 = .ok (.aload_n 0, 1) := by decide +kernel
theorem dX2_digest_131 : decode cX2_digest 131 = .ok (.iconst 4, 1) := by decide +kernel
theorem dX2_digest_132 : decode cX2_digest 132 = .ok (.iload 6, 2) := by decide +kernel
theorem dX2_digest_134 : decode cX2_digest 134 = .ok (.imul, 1) := by decide +kernel
theorem dX2_digest_135 : decode cX2_digest 135 = .ok (.aload_n 0, 1) := by decide +kernel
theorem dX2_digest_136 : decode cX2_digest 136 = .ok (.getfield 30, 3) := by decide +kernel
theorem dX2_digest_139 : decode cX2_digest 139 = .ok (.getstatic 78, 3) := by decide +kernel
theorem dX2_digest_142 : decode cX2_digest 142 = .ok (.iload 7, 2) := by decide +kernel
theorem dX2_digest_144 : decode cX2_digest 144 = .ok (.iaload, 1) := by decide +kernel
theorem dX2_digest_145 : decode cX2_digest 145 = .ok (.laload, 1) := by decide +kernel
theorem dX2_digest_146 : decode cX2_digest 146 = .ok (.aload_n 0, 1) := by decide +kernel
theorem dX2_digest_147 : decode cX2_digest 147 = .ok (.getfield 30, 3) := by decide +kernel
theorem dX2_digest_150 : decode cX2_digest 150 = .ok (.getstatic 78, 3) := by decide +kernel
theorem dX2_digest_153 : decode cX2_digest 153 = .ok (.iload 7, 2) := by decide +kernel
theorem dX2_digest_155 : decode cX2_digest 155 = .ok (.iconst 1, 1) := by decide +kernel
theorem dX2_digest_156 : decode cX2_digest 156 = .ok (.iadd, 1) := by decide +kernel
theorem dX2_digest_157 : decode cX2_digest 157 = .ok (.iaload, 1) := by decide +kernel
theorem dX2_digest_158 : decode cX2_digest 158 = .ok (.laload, 1) := by decide +kernel
theorem dX2_digest_159 : decode cX2_digest 159 = .ok (.invokevirtual 82, 3) := by decide +kernel
theorem dX2_digest_162 : decode cX2_digest 162 = .ok (.iinc 5 1, 3) := by decide +kernel
theorem dX2_digest_165 : decode cX2_digest 165 = .ok (.goto (-67), 3) := by decide +kernel
theorem dX2_digest_168 : decode cX2_digest 168 = .ok (.aload_n 0, 1) := by decide +kernel
theorem dX2_digest_169 : decode cX2_digest 169 = .ok (.invokevirtual 86, 3) := by decide +kernel
theorem dX2_digest_172 : decode cX2_digest 172 = .ok (.iinc 4 1, 3) := by decide +kernel
theorem dX2_digest_175 : decode cX2_digest 175 = .ok (.goto (-105), 3) := by decide +kernel
theorem dX2_digest_178 : decode cX2_digest 178 = .ok (.return_, 1) := by decide +kernel
theorem dX2_loadPart_0 : decode cX2_loadPart 0 = .ok (.iconst 0, 1) := by decide +kernel
theorem dX2_loadPart_1 : decode cX2_loadPart 1 = .ok (.istore_n 3, 1) := by decide +kernel
theorem dX2_loadPart_2 : decode cX2_loadPart 2 = .ok (.iload_n 3, 1) := by decide +kernel
theorem dX2_loadPart_3 : decode cX2_loadPart 3 = .ok (.bipush 16, 2) := by decide +kernel
theorem dX2_loadPart_5 : decode cX2_loadPart 5 = .ok (.if_icmp .ge 32, 3) := by decide +kernel
theorem dX2_loadPart_8 : decode cX2_loadPart 8 = .ok (.aload_n 0, 1) := by decide +kernel
theorem dX2_loadPart_9 : decode cX2_loadPart 9 = .ok (.getfield 30, 3) := by decide +kernel
theorem dX2_loadPart_12 : decode cX2_loadPart 12 = .ok (.iload_n 3, 1) := by decide +kernel
theorem dX2_loadPart_13 : decode cX2_loadPart 13 = .ok (.aload_n 0, 1) := by decide +kernel
theorem dX2_loadPart_14 : decode cX2_loadPart 14 = .ok (.getfield 16, 3) := by decide +kernel
theorem dX2_loadPart_17 : decode cX2_loadPart 17 = .ok (.iload_n 1, 1) := by decide +kernel
theorem dX2_loadPart_18 : decode cX2_loadPart 18 = .ok (.sipush 128, 3) := by decide +kernel
theorem dX2_loadPart_21 : decode cX2_loadPart 21 = .ok (.imul, 1) := by decide +kernel
theorem dX2_loadPart_22 : decode cX2_loadPart 22 = .ok (.iload_n 3, 1) := by decide +kernel
theorem dX2_loadPart_23 : decode cX2_loadPart 23 = .ok (.bipush 8, 2) := by decide +kernel
theorem dX2_loadPart_25 : decode cX2_loadPart 25 = .ok (.imul, 1) := by decide +kernel
theorem dX2_loadPart_26 : decode cX2_loadPart 26 = .ok (.iadd, 1) := by decide +kernel
theorem dX2_loadPart_27 : decode cX2_loadPart 27 = .ok (.invokevirtual 89, 3) := by decide +kernel
theorem dX2_loadPart_30 : decode cX2_loadPart 30 = .ok (.lastore, 1) := by decide +kernel
theorem dX2_loadPart_31 : decode cX2_loadPart 31 = .ok (.iinc 3 1, 3) := by decide +kernel
theorem dX2_loadPart_34 : decode cX2_loadPart 34 = .ok (.goto (-32), 3) := by decide +kernel
theorem dX2_loadPart_37 : decode cX2_loadPart 37 = .ok (.iconst 0, 1) := by decide +kernel
theorem dX2_loadPart_38 : decode cX2_loadPart 38 = .ok (.istore_n 3, 1) := by decide +kernel
theorem dX2_loadPart_39 : decode cX2_loadPart 39 = .ok (.iload_n 3, 1) := by decide +kernel
theorem dX2_loadPart_40 : decode cX2_loadPart 40 = .ok (.bipush 8, 2) := by decide +kernel
theorem dX2_loadPart_42 : decode cX2_loadPart 42 = .ok (.if_icmp .ge 35, 3) := by decide +kernel
theorem dX2_loadPart_45 : decode cX2_loadPart 45 = .ok (.aload_n 0, 1) := by decide +kernel
theorem dX2_loadPart_46 : decode cX2_loadPart 46 = .ok (.getfield 27, 3) := by decide +kernel
theorem dX2_loadPart_49 : decode cX2_loadPart 49 = .ok (.iload_n 3, 1) := by decide +kernel
theorem dX2_loadPart_50 : decode cX2_loadPart 50 = .ok (.aload_n 0, 1) := by decide +kernel
theorem dX2_loadPart_51 : decode cX2_loadPart 51 = .ok (.getfield 23, 3) := by decide +kernel
theorem dX2_loadPart_54 : decode cX2_loadPart 54 = .ok (.iload_n 3, 1) := by decide +kernel
theorem dX2_loadPart_55 : decode cX2_loadPart 55 = .ok (.laload, 1) := by decide +kernel
theorem dX2_loadPart_56 : decode cX2_loadPart 56 = .ok (.lastore, 1) := by decide +kernel
theorem dX2_loadPart_57 : decode cX2_loadPart 57 = .ok (.aload_n 0, 1) := by decide +kernel
theorem dX2_loadPart_58 : decode cX2_loadPart 58 = .ok (.getfield 27, 3) := by decide +kernel
theorem dX2_loadPart_61 : decode cX2_loadPart 61 = .ok (.bipush 8, 2) := by decide +kernel
theorem dX2_loadPart_63 : decode cX2_loadPart 63 = .ok (.iload_n 3, 1) := by decide +kernel
theorem dX2_loadPart_64 : decode cX2_loadPart 64 = .ok (.iadd, 1) := by decide +kernel
theorem dX2_loadPart_65 : decode cX2_loadPart 65 = .ok (.getstatic 67, 3) := by decide +kernel
theorem dX2_loadPart_68 : decode cX2_loadPart 68 = .ok (.iload_n 3, 1) := by decide +kernel
theorem dX2_loadPart_69 : decode cX2_loadPart 69 = .ok (.laload, 1) := by decide +kernel
theorem dX2_loadPart_70 : decode cX2_loadPart 70 = .ok (.lastore, 1) := by decide +kernel
theorem dX2_loadPart_71 : decode cX2_loadPart 71 = .ok (.iinc 3 1, 3) := by decide +kernel
theorem dX2_loadPart_74 : decode cX2_loadPart 74 = .ok (.goto (-35), 3) := by decide +kernel
theorem dX2_loadPart_77 : decode cX2_loadPart 77 = .ok (.aload_n 0, 1) := by decide +kernel
theorem dX2_loadPart_78 : decode cX2_loadPart 78 = .ok (.getfield 27, 3) := by decide +kernel
theorem dX2_loadPart_81 : decode cX2_loadPart 81 = .ok (.bipush 12, 2) := by decide +kernel
theorem dX2_loadPart_83 : decode cX2_loadPart 83 = .ok (.dup2, 1) := by decide +kernel
theorem dX2_loadPart_84 : decode cX2_loadPart 84 = .ok (.laload, 1) := by decide +kernel
theorem dX2_loadPart_85 : decode cX2_loadPart 85 = .ok (.aload_n 0, 1) := by decide +kernel
theorem dX2_loadPart_86 : decode cX2_loadPart 86 = .ok (.getfield 16, 3) := by decide +kernel
theorem dX2_loadPart_89 : decode cX2_loadPart 89 = .ok (.getfield 36, 3) := by decide +kernel
theorem dX2_loadPart_92 : decode cX2_loadPart 92 = .ok (.iload_n 1, 1) := by decide +kernel
theorem dX2_loadPart_93 : decode cX2_loadPart 93 = .ok (.iconst 1, 1) := by decide +kernel
theorem dX2_loadPart_94 : decode cX2_loadPart 94 = .ok (.iadd, 1) := by decide +kernel
theorem dX2_loadPart_95 : decode cX2_loadPart 95 = .ok (.sipush 128, 3) := by decide +kernel
theorem dX2_loadPart_98 : decode cX2_loadPart 98 = .ok (.imul, 1) := by decide +kernel
theorem dX2_loadPart_99 : decode cX2_loadPart 99 = .ok (.invokestatic 61, 3) := by decide +kernel
theorem dX2_loadPart_102 : decode cX2_loadPart 102 = .ok (.i2l, 1) := by decide +kernel
theorem dX2_loadPart_103 : decode cX2_loadPart 103 = .ok (.lxor, 1) := by decide +kernel
theorem dX2_loadPart_104 : decode cX2_loadPart 104 = .ok (.lastore, 1) := by decide +kernel
theorem dX2_loadPart_105 : decode cX2_loadPart 105 = .ok (.iload_n 2, 1) := by decide +kernel
theorem dX2_loadPart_106 : decode cX2_loadPart 106 = .ok (.ifCond .eq 21, 3) := by decide +kernel
theorem dX2_loadPart_109 : decode cX2_loadPart 109 = .ok (.aload_n 0, 1) := by decide +kernel
theorem dX2_loadPart_110 : decode cX2_loadPart 110 = .ok (.getfield 27, 3) := by decide +kernel
theorem dX2_loadPart_113 : decode cX2_loadPart 113 = .ok (.bipush 14, 2) := by decide +kernel
theorem dX2_loadPart_115 : decode cX2_loadPart 115 = .ok (.aload_n 0, 1) := by decide +kernel
theorem dX2_loadPart_116 : decode cX2_loadPart 116 = .ok (.getfield 27, 3) := by decide +kernel
theorem dX2_loadPart_119 : decode cX2_loadPart 119 = .ok (.bipush 14, 2) := by decide +kernel
theorem dX2_loadPart_121 : decode cX2_loadPart 121 = .ok (.laload, 1) := by decide +kernel
theorem dX2_loadPart_122 : decode cX2_loadPart 122 = .ok (.ldc2_w 93, 3) := by decide +kernel
theorem dX2_loadPart_125 : decode cX2_loadPart 125 = .ok (.lxor, 1) := by decide +kernel
theorem dX2_loadPart_126 : decode cX2_loadPart 126 = .ok (.lastore, 1) := by decide +kernel
theorem dX2_loadPart_127 : decode cX2_loadPart 127 = .ok (.return_, 1) := by decide +kernel
theorem dX2_foldPart_0 : decode cX2_foldPart 0 = .ok (.iconst 0, 1) := by decide +kernel
theorem dX2_foldPart_1 : decode cX2_foldPart 1 = .ok (.istore_n 1, 1) := by decide +kernel
theorem dX2_foldPart_2 : decode cX2_foldPart 2 = .ok (.iload_n 1, 1) := by decide +kernel
theorem dX2_foldPart_3 : decode cX2_foldPart 3 = .ok (.bipush 8, 2) := by decide +kernel
theorem dX2_foldPart_5 : decode cX2_foldPart 5 = .ok (.if_icmp .ge 34, 3) := by decide +kernel
theorem dX2_foldPart_8 : decode cX2_foldPart 8 = .ok (.aload_n 0, 1) := by decide +kernel
theorem dX2_foldPart_9 : decode cX2_foldPart 9 = .ok (.getfield 23, 3) := by decide +kernel
theorem dX2_foldPart_12 : decode cX2_foldPart 12 = .ok (.iload_n 1, 1) := by decide +kernel
theorem dX2_foldPart_13 : decode cX2_foldPart 13 = .ok (.dup2, 1) := by decide +kernel
theorem dX2_foldPart_14 : decode cX2_foldPart 14 = .ok (.laload, 1) := by decide +kernel
theorem dX2_foldPart_15 : decode cX2_foldPart 15 = .ok (.aload_n 0, 1) := by decide +kernel
theorem dX2_foldPart_16 : decode cX2_foldPart 16 = .ok (.getfield 27, 3) := by decide +kernel
theorem dX2_foldPart_19 : decode cX2_foldPart 19 = .ok (.iload_n 1, 1) := by decide +kernel
theorem dX2_foldPart_20 : decode cX2_foldPart 20 = .ok (.laload, 1) := by decide +kernel
theorem dX2_foldPart_21 : decode cX2_foldPart 21 = .ok (.aload_n 0, 1) := by decide +kernel
theorem dX2_foldPart_22 : decode cX2_foldPart 22 = .ok (.getfield 27, 3) := by decide +kernel
theorem dX2_foldPart_25 : decode cX2_foldPart 25 = .ok (.bipush 8, 2) := by decide +kernel
theorem dX2_foldPart_27 : decode cX2_foldPart 27 = .ok (.iload_n 1, 1) := by decide +kernel
theorem dX2_foldPart_28 : decode cX2_foldPart 28 = .ok (.iadd, 1) := by decide +kernel
theorem dX2_foldPart_29 : decode cX2_foldPart 29 = .ok (.laload, 1) := by decide +kernel
theorem dX2_foldPart_30 : decode cX2_foldPart 30 = .ok (.lxor, 1) := by decide +kernel
theorem dX2_foldPart_31 : decode cX2_foldPart 31 = .ok (.lxor, 1) := by decide +kernel
theorem dX2_foldPart_32 : decode cX2_foldPart 32 = .ok (.lastore, 1) := by decide +kernel
theorem dX2_foldPart_33 : decode cX2_foldPart 33 = .ok (.iinc 1 1, 3) := by decide +kernel
theorem dX2_foldPart_36 : decode cX2_foldPart 36 = .ok (.goto (-34), 3) := by decide +kernel
theorem dX2_foldPart_39 : decode cX2_foldPart 39 = .ok (.return_, 1) := by decide +kernel
end
section
theorem dX2_mix_0 : decode cX2_mix 0 = .ok (.getstatic 95, 3) := by decide +kernel
theorem dX2_mix_3 : decode cX2_mix 3 = .ok (.iload_n 1, 1) := by decide +kernel
theorem dX2_mix_4 : decode cX2_mix 4 = .ok (.iaload, 1) := by decide +kernel
theorem dX2_mix_5 : decode cX2_mix 5 = .ok (.istore 6, 2) := by decide +kernel
theorem dX2_mix_7 : decode cX2_mix 7 = .ok (.getstatic 95, 3) := by decide +kernel
theorem dX2_mix_10 : decode cX2_mix 10 = .ok (.iload_n 1, 1) := by decide +kernel
theorem dX2_mix_11 : decode cX2_mix 11 = .ok (.iconst 1, 1) := by decide +kernel
theorem dX2_mix_12 : decode cX2_mix 12 = .ok (.iadd, 1) := by decide +kernel
theorem dX2_mix_13 : decode cX2_mix 13 = .ok (.iaload, 1) := by decide +kernel
theorem dX2_mix_14 : decode cX2_mix 14 = .ok (.istore 7, 2) := by decide +kernel
theorem dX2_mix_16 : decode cX2_mix 16 = .ok (.getstatic 95, 3) := by decide +kernel
theorem dX2_mix_19 : decode cX2_mix 19 = .ok (.iload_n 1, 1) := by decide +kernel
theorem dX2_mix_20 : decode cX2_mix 20 = .ok (.iconst 2, 1) := by decide +kernel
theorem dX2_mix_21 : decode cX2_mix 21 = .ok (.iadd, 1) := by decide +kernel
theorem dX2_mix_22 : decode cX2_mix 22 = .ok (.iaload, 1) := by decide +kernel
theorem dX2_mix_23 : decode cX2_mix 23 = .ok (.istore 8, 2) := by decide +kernel
theorem dX2_mix_25 : decode cX2_mix 25 = .ok (.getstatic 95, 3) := by decide +kernel
theorem dX2_mix_28 : decode cX2_mix 28 = .ok (.iload_n 1, 1) := by decide +kernel
theorem dX2_mix_29 : decode cX2_mix 29 = .ok (.iconst 3, 1) := by decide +kernel
theorem dX2_mix_30 : decode cX2_mix 30 = .ok (.iadd, 1) := by decide +kernel
theorem dX2_mix_31 : decode cX2_mix 31 = .ok (.iaload, 1) := by decide +kernel
theorem dX2_mix_32 : decode cX2_mix 32 = .ok (.istore 9, 2) := by decide +kernel
theorem dX2_mix_34 : decode cX2_mix 34 = .ok (.aload_n 0, 1) := by decide +kernel
theorem dX2_mix_35 : decode cX2_mix 35 = .ok (.getfield 27, 3) := by decide +kernel
theorem dX2_mix_38 : decode cX2_mix 38 = .ok (.iload 6, 2) := by decide +kernel
theorem dX2_mix_40 : decode cX2_mix 40 = .ok (.dup2, 1) := by decide +kernel
theorem dX2_mix_41 : decode cX2_mix 41 = .ok (.laload, 1) := by decide +kernel
theorem dX2_mix_42 : decode cX2_mix 42 = .ok (.aload_n 0, 1) := by decide +kernel
theorem dX2_mix_43 : decode cX2_mix 43 = .ok (.getfield 27, 3) := by decide +kernel
theorem dX2_mix_46 : decode cX2_mix 46 = .ok (.iload 7, 2) := by decide +kernel
theorem dX2_mix_48 : decode cX2_mix 48 = .ok (.laload, 1) := by decide +kernel
theorem dX2_mix_49 : decode cX2_mix 49 = .ok (.lload_n 2, 1) := by decide +kernel
theorem dX2_mix_50 : decode cX2_mix 50 = .ok (.ladd, 1) := by decide +kernel
theorem dX2_mix_51 : decode cX2_mix 51 = .ok (.ladd, 1) := by decide +kernel
theorem dX2_mix_52 : decode cX2_mix 52 = .ok (.lastore, 1) := by decide +kernel
theorem dX2_mix_53 : decode cX2_mix 53 = .ok (.aload_n 0, 1) := by decide +kernel
theorem dX2_mix_54 : decode cX2_mix 54 = .ok (.getfield 27, 3) := by decide +kernel
theorem dX2_mix_57 : decode cX2_mix 57 = .ok (.iload 9, 2) := by decide +kernel
theorem dX2_mix_59 : decode cX2_mix 59 = .ok (.aload_n 0, 1) := by decide +kernel
theorem dX2_mix_60 : decode cX2_mix 60 = .ok (.getfield 27, 3) := by decide +kernel
theorem dX2_mix_63 : decode cX2_mix 63 = .ok (.iload 9, 2) := by decide +kernel
theorem dX2_mix_65 : decode cX2_mix 65 = .ok (.laload, 1) := by decide +kernel
theorem dX2_mix_66 : decode cX2_mix 66 = .ok (.aload_n 0, 1) := by decide +kernel
theorem dX2_mix_67 : decode cX2_mix 67 = .ok (.getfield 27, 3) := by decide +kernel
theorem dX2_mix_70 : decode cX2_mix 70 = .ok (.iload 6, 2) := by decide +kernel
theorem dX2_mix_72 : decode cX2_mix 72 = .ok (.laload, 1) := by decide +kernel
theorem dX2_mix_73 : decode cX2_mix 73 = .ok (.lxor, 1) := by decide +kernel
theorem dX2_mix_74 : decode cX2_mix 74 = .ok (.bipush 32, 2) := by decide +kernel
theorem dX2_mix_76 : decode cX2_mix 76 = .ok (.invokestatic 98, 3) := by decide +kernel
theorem dX2_mix_79 : decode cX2_mix 79 = .ok (.lastore, 1) := by decide +kernel
theorem dX2_mix_80 : decode cX2_mix 80 = .ok (.aload_n 0, 1) := by decide +kernel
theorem dX2_mix_81 : decode cX2_mix 81 = .ok (.getfield 27, 3) := by decide +kernel
theorem dX2_mix_84 : decode cX2_mix 84 = .ok (.iload 8, 2) := by decide +kernel
theorem dX2_mix_86 : decode cX2_mix 86 = .ok (.dup2, 1) := by decide +kernel
theorem dX2_mix_87 : decode cX2_mix 87 = .ok (.laload, 1) := by decide +kernel
theorem dX2_mix_88 : decode cX2_mix 88 = .ok (.aload_n 0, 1) := by decide +kernel
theorem dX2_mix_89 : decode cX2_mix 89 = .ok (.getfield 27, 3) := by decide +kernel
theorem dX2_mix_92 : decode cX2_mix 92 = .ok (.iload 9, 2) := by decide +kernel
theorem dX2_mix_94 : decode cX2_mix 94 = .ok (.laload, 1) := by decide +kernel
theorem dX2_mix_95 : decode cX2_mix 95 = .ok (.ladd, 1) := by decide +kernel
theorem dX2_mix_96 : decode cX2_mix 96 = .ok (.lastore, 1) := by decide +kernel
theorem dX2_mix_97 : decode cX2_mix 97 = .ok (.aload_n 0, 1) := by decide +kernel
theorem dX2_mix_98 : decode cX2_mix 98 = .ok (.getfield 27, 3) := by decide +kernel
theorem dX2_mix_101 : decode cX2_mix 101 = .ok (.iload 7, 2) := by decide +kernel
theorem dX2_mix_103 : decode cX2_mix 103 = .ok (.aload_n 0, 1) := by decide +kernel
theorem dX2_mix_104 : decode cX2_mix 104 = .ok (.getfield 27, 3) := by decide +kernel
theorem dX2_mix_107 : decode cX2_mix 107 = .ok (.iload 7, 2) := by decide +kernel
theorem dX2_mix_109 : decode cX2_mix 109 = .ok (.laload, 1) := by decide +kernel
theorem dX2_mix_110 : decode cX2_mix 110 = .ok (.aload_n 0, 1) := by decide +kernel
theorem dX2_mix_111 : decode cX2_mix 111 = .ok (.getfield 27, 3) := by decide +kernel
theorem dX2_mix_114 : decode cX2_mix 114 = .ok (.iload 8, 2) := by decide +kernel
theorem dX2_mix_116 : decode cX2_mix 116 = .ok (.laload, 1) := by decide +kernel
theorem dX2_mix_117 : decode cX2_mix 117 = .ok (.lxor, 1) := by decide +kernel
theorem dX2_mix_118 : decode cX2_mix 118 = .ok (.bipush 24, 2) := by decide +kernel
theorem dX2_mix_120 : decode cX2_mix 120 = .ok (.invokestatic 98, 3) := by decide +kernel
theorem dX2_mix_123 : decode cX2_mix 123 = .ok (.lastore, 1) := by decide +kernel
theorem dX2_mix_124 : decode cX2_mix 124 = .ok (.aload_n 0, 1) := by decide +kernel
theorem dX2_mix_125 : decode cX2_mix 125 = .ok (.getfield 27, 3) := by decide +kernel
theorem dX2_mix_128 : decode cX2_mix 128 = .ok (.iload 6, 2) := by decide +kernel
theorem dX2_mix_130 : decode cX2_mix 130 = .ok (.dup2, 1) := by decide +kernel
theorem dX2_mix_131 : decode cX2_mix 131 = .ok (.laload, 1) := by decide +kernel
theorem dX2_mix_132 : decode cX2_mix 132 = .ok (.aload_n 0, 1) := by decide +kernel
theorem dX2_mix_133 : decode cX2_mix 133 = .ok (.getfield 27, 3) := by decide +kernel
theorem dX2_mix_136 : decode cX2_mix 136 = .ok (.iload 7, 2) := by decide +kernel
theorem dX2_mix_138 : decode cX2_mix 138 = .ok (.laload, 1) := by decide +kernel
theorem dX2_mix_139 : decode cX2_mix 139 = .ok (.lload 4, 2) := by decide +kernel
theorem dX2_mix_141 : decode cX2_mix 141 = .ok (.ladd, 1) := by decide +kernel
theorem dX2_mix_142 : decode cX2_mix 142 = .ok (.ladd, 1) := by decide +kernel
theorem dX2_mix_143 : decode cX2_mix 143 = .ok (.lastore, 1) := by decide +kernel
theorem dX2_mix_144 : decode cX2_mix 144 = .ok (.aload_n 0, 1) := by decide +kernel
theorem dX2_mix_145 : decode cX2_mix 145 = .ok (.getfield 27, 3) := by decide +kernel
theorem dX2_mix_148 : decode cX2_mix 148 = .ok (.iload 9, 2) := by decide +kernel
theorem dX2_mix_150 : decode cX2_mix 150 = .ok (.aload_n 0, 1) := by decide +kernel
theorem dX2_mix_151 : decode cX2_mix 151 = .ok (.getfield 27, 3) := by decide +kernel
theorem dX2_mix_154 : decode cX2_mix 154 = .ok (.iload 9, 2) := by decide +kernel
theorem dX2_mix_156 : decode cX2_mix 156 = .ok (.laload, 1) := by decide +kernel
theorem dX2_mix_157 : decode cX2_mix 157 = .ok (.aload_n 0, 1) := by decide +kernel
theorem dX2_mix_158 : decode cX2_mix 158 = .ok (.getfield 27, 3) := by decide +kernel
theorem dX2_mix_161 : decode cX2_mix 161 = .ok (.iload 6, 2) := by decide +kernel
theorem dX2_mix_163 : decode cX2_mix 163 = .ok (.laload, 1) := by decide +kernel
theorem dX2_mix_164 : decode cX2_mix 164 = .ok (.lxor, 1) := by decide +kernel
theorem dX2_mix_165 : decode cX2_mix 165 = .ok (.bipush 16, 2) := by decide +kernel
theorem dX2_mix_167 : decode cX2_mix 167 = .ok (.invokestatic 98, 3) := by decide +kernel
theorem dX2_mix_170 : decode cX2_mix 170 = .ok (.lastore, 1) := by decide +kernel
theorem dX2_mix_171 : decode cX2_mix 171 = .ok (.aload_n 0, 1) := by decide +kernel
theorem dX2_mix_172 : decode cX2_mix 172 = .ok (.getfield 27, 3) := by decide +kernel
theorem dX2_mix_175 : decode cX2_mix 175 = .ok (.iload 8, 2) := by decide +kernel
theorem dX2_mix_177 : decode cX2_mix 177 = .ok (.dup2, 1) := by decide +kernel
theorem dX2_mix_178 : decode cX2_mix 178 = .ok (.laload, 1) := by decide +kernel
theorem dX2_mix_179 : decode cX2_mix 179 = .ok (.aload_n 0, 1) := by decide +kernel
theorem dX2_mix_180 : decode cX2_mix 180 = .ok (.getfield 27, 3) := by decide +kernel
theorem dX2_mix_183 : decode cX2_mix 183 = .ok (.iload 9, 2) := by decide +kernel
theorem dX2_mix_185 : decode cX2_mix 185 = .ok (.laload, 1) := by decide +kernel
theorem dX2_mix_186 : decode cX2_mix 186 = .ok (.ladd, 1) := by decide +kernel
theorem dX2_mix_187 : decode cX2_mix 187 = .ok (.lastore, 1) := by decide +kernel
theorem dX2_mix_188 : decode cX2_mix 188 = .ok (.aload_n 0, 1) := by decide +kernel
theorem dX2_mix_189 : decode cX2_mix 189 = .ok (.getfield 27, 3) := by decide +kernel
theorem dX2_mix_192 : decode cX2_mix 192 = .ok (.iload 7, 2) := by decide +kernel
theorem dX2_mix_194 : decode cX2_mix 194 = .ok (.aload_n 0, 1) := by decide +kernel
theorem dX2_mix_195 : decode cX2_mix 195 = .ok (.getfield 27, 3) := by decide +kernel
theorem dX2_mix_198 : decode cX2_mix 198 = .ok (.iload 7, 2) := by decide +kernel
theorem dX2_mix_200 : decode cX2_mix 200 = .ok (.laload, 1) := by decide +kernel
theorem dX2_mix_201 : decode cX2_mix 201 = .ok (.aload_n 0, 1) := by decide +kernel
theorem dX2_mix_202 : decode cX2_mix 202 = .ok (.getfield 27, 3) := by decide +kernel
theorem dX2_mix_205 : decode cX2_mix 205 = .ok (.iload 8, 2) := by decide +kernel
theorem dX2_mix_207 : decode cX2_mix 207 = .ok (.laload, 1) := by decide +kernel
theorem dX2_mix_208 : decode cX2_mix 208 = .ok (.lxor, 1) := by decide +kernel
theorem dX2_mix_209 : decode cX2_mix 209 = .ok (.bipush 63, 2) := by decide +kernel
theorem dX2_mix_211 : decode cX2_mix 211 = .ok (.invokestatic 98, 3) := by decide +kernel
theorem dX2_mix_214 : decode cX2_mix 214 = .ok (.lastore, 1) := by decide +kernel
theorem dX2_mix_215 : decode cX2_mix 215 = .ok (.return_, 1) := by decide +kernel
theorem dX3_init_0 : decode cX3_init 0 = .ok (.aload_n 0, 1) := by decide +kernel
theorem dX3_init_1 : decode cX3_init 1 = .ok (.invokespecial 3, 3) := by decide +kernel
theorem dX3_init_4 : decode cX3_init 4 = .ok (.aload_n 0, 1) := by decide +kernel
theorem dX3_init_5 : decode cX3_init 5 = .ok (.sipush 128, 3) := by decide +kernel
theorem dX3_init_8 : decode cX3_init 8 = .ok (.newarray .long, 2) := by decide +kernel
theorem dX3_init_10 : decode cX3_init 10 = .ok (.putfield 9, 3) := by decide +kernel
theorem dX3_init_13 : decode cX3_init 13 = .ok (.aload_n 0, 1) := by decide +kernel
theorem dX3_init_14 : decode cX3_init 14 = .ok (.sipush 128, 3) := by decide +kernel
theorem dX3_init_17 : decode cX3_init 17 = .ok (.newarray .long, 2) := by decide +kernel
theorem dX3_init_19 : decode cX3_init 19 = .ok (.putfield 15, 3) := by decide +kernel
theorem dX3_init_22 : decode cX3_init 22 = .ok (.aload_n 0, 1) := by decide +kernel
theorem dX3_init_23 : decode cX3_init 23 = .ok (.bipush 16, 2) := by decide +kernel
theorem dX3_init_25 : decode cX3_init 25 = .ok (.newarray .long, 2) := by decide +kernel
theorem dX3_init_27 : decode cX3_init 27 = .ok (.putfield 18, 3) := by decide +kernel
theorem dX3_init_30 : decode cX3_init 30 = .ok (.return_, 1) := by decide +kernel
theorem dX3_join_0 : decode cX3_join 0 = .ok (.iconst 0, 1) := by decide +kernel
theorem dX3_join_1 : decode cX3_join 1 = .ok (.istore 5, 2) := by decide +kernel
theorem dX3_join_3 : decode cX3_join 3 = .ok (.iload 5, 2) := by decide +kernel
theorem dX3_join_5 : decode cX3_join 5 = .ok (.sipush 128, 3) := by decide +kernel
theorem dX3_join_8 : decode cX3_join 8 = .ok (.if_icmp .ge 39, 3) := by decide +kernel
theorem dX3_join_11 : decode cX3_join 11 = .ok (.aload_n 0, 1) := by decide +kernel
theorem dX3_join_12 : decode cX3_join 12 = .ok (.getfield 9, 3) := by decide +kernel
theorem dX3_join_15 : decode cX3_join 15 = .ok (.iload 5, 2) := by decide +kernel
theorem dX3_join_17 : decode cX3_join 17 = .ok (.aload_n 1, 1) := by decide +kernel
theorem dX3_join_18 : decode cX3_join 18 = .ok (.iload 5, 2) := by decide +kernel
theorem dX3_join_20 : decode cX3_join 20 = .ok (.laload, 1) := by decide +kernel
theorem dX3_join_21 : decode cX3_join 21 = .ok (.aload_n 2, 1) := by decide +kernel
theorem dX3_join_22 : decode cX3_join 22 = .ok (.iload 5, 2) := by decide +kernel
theorem dX3_join_24 : decode cX3_join 24 = .ok (.laload, 1) := by decide +kernel
theorem dX3_join_25 : decode cX3_join 25 = .ok (.lxor, 1) := by decide +kernel
theorem dX3_join_26 : decode cX3_join 26 = .ok (.lastore, 1) := by decide +kernel
theorem dX3_join_27 : decode cX3_join 27 = .ok (.aload_n 0, 1) := by decide +kernel
theorem dX3_join_28 : decode cX3_join 28 = .ok (.getfield 15, 3) := by decide +kernel
theorem dX3_join_31 : decode cX3_join 31 = .ok (.iload 5, 2) := by decide +kernel
theorem dX3_join_33 : decode cX3_join 33 = .ok (.aload_n 0, 1) := by decide +kernel
theorem dX3_join_34 : decode cX3_join 34 = .ok (.getfield 9, 3) := by decide +kernel
theorem dX3_join_37 : decode cX3_join 37 = .ok (.iload 5, 2) := by decide +kernel
theorem dX3_join_39 : decode cX3_join 39 = .ok (.laload, 1) := by decide +kernel
theorem dX3_join_40 : decode cX3_join 40 = .ok (.lastore, 1) := by decide +kernel
theorem dX3_join_41 : decode cX3_join 41 = .ok (.iinc 5 1, 3) := by decide +kernel
theorem dX3_join_44 : decode cX3_join 44 = .ok (.goto (-41), 3) := by decide +kernel
theorem dX3_join_47 : decode cX3_join 47 = .ok (.iconst 0, 1) := by decide +kernel
theorem dX3_join_48 : decode cX3_join 48 = .ok (.istore 5, 2) := by decide +kernel
theorem dX3_join_50 : decode cX3_join 50 = .ok (.iload 5, 2) := by decide +kernel
theorem dX3_join_52 : decode cX3_join 52 = .ok (.bipush 8, 2) := by decide +kernel
theorem dX3_join_54 : decode cX3_join 54 = .ok (.if_icmp .ge 19, 3) := by decide +kernel
theorem dX3_join_57 : decode cX3_join 57 = .ok (.aload_n 0, 1) := by decide +kernel
theorem dX3_join_58 : decode cX3_join 58 = .ok (.bipush 16, 2) := by decide +kernel
theorem dX3_join_60 : decode cX3_join 60 = .ok (.iload 5, 2) := by decide +kernel
theorem dX3_join_62 : decode cX3_join 62 = .ok (.imul, 1) := by decide +kernel
theorem dX3_join_63 : decode cX3_join 63 = .ok (.iconst 2, 1) := by decide +kernel
theorem dX3_join_64 : decode cX3_join 64 = .ok (.invokevirtual 21, 3) := by decide +kernel
theorem dX3_join_67 : decode cX3_join 67 = .ok (.iinc 5 1, 3) := by decide +kernel
theorem dX3_join_70 : decode cX3_join 70 = .ok (.goto (-20), 3) := by decide +kernel
theorem dX3_join_73 : decode cX3_join 73 = .ok (.iconst 0, 1) := by decide +kernel
theorem dX3_join_74 : decode cX3_join 74 = .ok (.istore 5, 2) := by decide +kernel
theorem dX3_join_76 : decode cX3_join 76 = .ok (.iload 5, 2) := by decide +kernel
theorem dX3_join_78 : decode cX3_join 78 = .ok (.bipush 8, 2) := by decide +kernel
theorem dX3_join_80 : decode cX3_join 80 = .ok (.if_icmp .ge 19, 3) := by decide +kernel
theorem dX3_join_83 : decode cX3_join 83 = .ok (.aload_n 0, 1) := by decide +kernel
theorem dX3_join_84 : decode cX3_join 84 = .ok (.iconst 2, 1) := by decide +kernel
theorem dX3_join_85 : decode cX3_join 85 = .ok (.iload 5, 2) := by decide +kernel
theorem dX3_join_87 : decode cX3_join 87 = .ok (.imul, 1) := by decide +kernel
theorem dX3_join_88 : decode cX3_join 88 = .ok (.bipush 16, 2) := by decide +kernel
theorem dX3_join_90 : decode cX3_join 90 = .ok (.invokevirtual 21, 3) := by decide +kernel
theorem dX3_join_93 : decode cX3_join 93 = .ok (.iinc 5 1, 3) := by decide +kernel
theorem dX3_join_96 : decode cX3_join 96 = .ok (.goto (-20), 3) := by decide +kernel
theorem dX3_join_99 : decode cX3_join 99 = .ok (.iconst 0, 1) := by decide +kernel
theorem dX3_join_100 : decode cX3_join 100 = .ok (.istore 5, 2) := by decide +kernel
theorem dX3_join_102 : decode cX3_join 102 = .ok (.iload 5, 2) := by decide +kernel
theorem dX3_join_104 : decode cX3_join 104 = .ok (.sipush 128, 3) := by decide +kernel
theorem dX3_join_107 : decode cX3_join 107 = .ok (.if_icmp .ge 46, 3) := by decide +kernel
theorem dX3_join_110 : decode cX3_join 110 = .ok (.iload 4, 2) := by decide +kernel
theorem dX3_join_112 : decode cX3_join 112 = .ok (.ifCond .eq 10, 3) := by decide +kernel
theorem dX3_join_115 : decode cX3_join 115 = .ok (.aload_n 3, 1) := by decide +kernel
theorem dX3_join_116 : decode cX3_join 116 = .ok (.iload 5, 2) := by decide +kernel
theorem dX3_join_118 : decode cX3_join 118 = .ok (.laload, 1) := by decide +kernel
theorem dX3_join_119 : decode cX3_join 119 = .ok (.goto 4, 3) := by decide +kernel
theorem dX3_join_122 : decode cX3_join 122 = .ok (.lconst 0, 1) := by decide +kernel
theorem dX3_join_123 : decode cX3_join 123 = .ok (.lstore 6, 2) := by decide +kernel
theorem dX3_join_125 : decode cX3_join 125 = .ok (.aload_n 3, 1) := by decide +kernel
theorem dX3_join_126 : decode cX3_join 126 = .ok (.iload 5, 2) := by decide +kernel
theorem dX3_join_128 : decode cX3_join 128 = .ok (.lload 6, 2) := by decide +kernel
theorem dX3_join_130 : decode cX3_join 130 = .ok (.aload_n 0, 1) := by decide +kernel
theorem dX3_join_131 : decode cX3_join 131 = .ok (.getfield 15, 3) := by decide +kernel
theorem dX3_join_134 : decode cX3_join 134 = .ok (.iload 5, 2) := by decide +kernel
theorem dX3_join_136 : decode cX3_join 136 = .ok (.laload, 1) := by decide +kernel
theorem dX3_join_137 : decode cX3_join 137 = .ok (.lxor, 1) := by decide +kernel
theorem dX3_join_138 : decode cX3_join 138 = .ok (.aload_n 0, 1) := by decide +kernel
theorem dX3_join_139 : decode cX3_join 139 = .ok (.getfield 9, 3) := by decide +kernel
theorem dX3_join_142 : decode cX3_join 142 = .ok (.iload 5, 2) := by decide +kernel
theorem dX3_join_144 : decode cX3_join 144 = .ok (.laload, 1) := by decide +kernel
theorem dX3_join_145 : decode cX3_join 145 = .ok (.lxor, 1) := by decide +kernel
theorem dX3_join_146 : decode cX3_join 146 = .ok (.lastore, 1) := by decide +kernel
theorem dX3_join_147 : decode cX3_join 147 = .ok (.iinc 5 1, 3) := by decide +kernel
theorem dX3_join_150 : decode cX3_join 150 = .ok (.goto (-48), 3) := by decide +kernel
theorem dX3_join_153 : decode cX3_join 153 = .ok (.return_, 1) := by decide +kernel
theorem dX3_stir_0 : decode cX3_stir 0 = .ok (.iconst 0, 1) := by decide +kernel
theorem dX3_stir_1 : decode cX3_stir 1 = .ok (.istore_n 3, 1) := by decide +kernel
theorem dX3_stir_2 : decode cX3_stir 2 = .ok (.iload_n 3, 1) := by decide +kernel
theorem dX3_stir_3 : decode cX3_stir 3 = .ok (.bipush 8, 2) := by decide +kernel
theorem dX3_stir_5 : decode cX3_stir 5 = .ok (.if_icmp .ge 49, 3) := by decide +kernel
theorem dX3_stir_8 : decode cX3_stir 8 = .ok (.aload_n 0, 1) := by decide +kernel
theorem dX3_stir_9 : decode cX3_stir 9 = .ok (.getfield 18, 3) := by decide +kernel
theorem dX3_stir_12 : decode cX3_stir 12 = .ok (.iconst 2, 1) := by decide +kernel
theorem dX3_stir_13 : decode cX3_stir 13 = .ok (.iload_n 3, 1) := by decide +kernel
theorem dX3_stir_14 : decode cX3_stir 14 = .ok (.imul, 1) := by decide +kernel
theorem dX3_stir_15 : decode cX3_stir 15 = .ok (.aload_n 0, 1) := by decide +kernel
theorem dX3_stir_16 : decode cX3_stir 16 = .ok (.getfield 15, 3) := by decide +kernel
theorem dX3_stir_19 : decode cX3_stir 19 = .ok (.iload_n 1, 1) := by decide +kernel
theorem dX3_stir_20 : decode cX3_stir 20 = .ok (.iload_n 2, 1) := by decide +kernel
theorem dX3_stir_21 : decode cX3_stir 21 = .ok (.iload_n 3, 1) := by decide +kernel
theorem dX3_stir_22 : decode cX3_stir 22 = .ok (.imul, 1) := by decide +kernel
theorem dX3_stir_23 : decode cX3_stir 23 = .ok (.iadd, 1) := by decide +kernel
theorem dX3_stir_24 : decode cX3_stir 24 = .ok (.laload, 1) := by decide +kernel
theorem dX3_stir_25 : decode cX3_stir 25 = .ok (.lastore, 1) := by decide +kernel
theorem dX3_stir_26 : decode cX3_stir 26 = .ok (.aload_n 0, 1) := by decide +kernel
theorem dX3_stir_27 : decode cX3_stir 27 = .ok (.getfield 18, 3) := by decide +kernel
theorem dX3_stir_30 : decode cX3_stir 30 = .ok (.iconst 2, 1) := by decide +kernel
theorem dX3_stir_31 : decode cX3_stir 31 = .ok (.iload_n 3, 1) := by decide +kernel
theorem dX3_stir_32 : decode cX3_stir 32 = .ok (.imul, 1) := by decide +kernel
theorem dX3_stir_33 : decode cX3_stir 33 = .ok (.iconst 1, 1) := by decide +kernel
theorem dX3_stir_34 : decode cX3_stir 34 = .ok (.iadd, 1) := by decide +kernel
theorem dX3_stir_35 : decode cX3_stir 35 = .ok (.aload_n 0, 1) := by decide +kernel
theorem dX3_stir_36 : decode cX3_stir 36 = .ok (.getfield 15, 3) := by decide +kernel
theorem dX3_stir_39 : decode cX3_stir 39 = .ok (.iload_n 1, 1) := by decide +kernel
theorem dX3_stir_40 : decode cX3_stir 40 = .ok (.iload_n 2, 1) := by decide +kernel
theorem dX3_stir_41 : decode cX3_stir 41 = .ok (.iload_n 3, 1) := by decide +kernel
theorem dX3_stir_42 : decode cX3_stir 42 = .ok (.imul, 1) := by decide +kernel
theorem dX3_stir_43 : decode cX3_stir 43 = .ok (.iadd, 1) := by decide +kernel
theorem dX3_stir_44 : decode cX3_stir 44 = .ok (.iconst 1, 1) := by decide +kernel
theorem dX3_stir_45 : decode cX3_stir 45 = .ok (.iadd, 1) := by decide +kernel
theorem dX3_stir_46 : decode cX3_stir 46 = .ok (.laload, 1) := by decide +kernel
theorem dX3_stir_47 : decode cX3_stir 47 = .ok (.lastore, 1) := by decide +kernel
theorem dX3_stir_48 : decode cX3_stir 48 = .ok (.iinc 3 1, 3) := by decide +kernel
theorem dX3_stir_51 : decode cX3_stir 51 = .ok (.goto (-49), 3) := by decide +kernel
theorem dX3_stir_54 : decode cX3_stir 54 = .ok (.iconst 0, 1) := by decide +kernel
theorem dX3_stir_55 : decode cX3_stir 55 = .ok (.istore_n 3, 1) := by decide +kernel
theorem dX3_stir_56 : decode cX3_stir 56 = .ok (.iload_n 3, 1) := by decide +kernel
theorem dX3_stir_57 : decode cX3_stir 57 = .ok (.bipush 8, 2) := by decide +kernel
theorem dX3_stir_59 : decode cX3_stir 59 = .ok (.if_icmp .ge 16, 3) := by decide +kernel
theorem dX3_stir_62 : decode cX3_stir 62 = .ok (.aload_n 0, 1) := by decide +kernel
theorem dX3_stir_63 : decode cX3_stir 63 = .ok (.iconst 4, 1) := by decide +kernel
theorem dX3_stir_64 : decode cX3_stir 64 = .ok (.iload_n 3, 1) := by decide +kernel
theorem dX3_stir_65 : decode cX3_stir 65 = .ok (.imul, 1) := by decide +kernel
theorem dX3_stir_66 : decode cX3_stir 66 = .ok (.invokevirtual 25, 3) := by decide +kernel
theorem dX3_stir_69 : decode cX3_stir 69 = .ok (.iinc 3 1, 3) := by decide +kernel
theorem dX3_stir_72 : decode cX3_stir 72 = .ok (.goto (-16), 3) := by decide +kernel
theorem dX3_stir_75 : decode cX3_stir 75 = .ok (.iconst 0, 1) := by decide +kernel
theorem dX3_stir_76 : decode cX3_stir 76 = .ok (.istore_n 3, 1) := by decide +kernel
theorem dX3_stir_77 : decode cX3_stir 77 = .ok (.iload_n 3, 1) := by decide +kernel
theorem dX3_stir_78 : decode cX3_stir 78 = .ok (.bipush 8, 2) := by decide +kernel
theorem dX3_stir_80 : decode cX3_stir 80 = .ok (.if_icmp .ge 49, 3) := by decide +kernel
theorem dX3_stir_83 : decode cX3_stir 83 = .ok (.aload_n 0, 1) := by decide +kernel
theorem dX3_stir_84 : decode cX3_stir 84 = .ok (.getfield 15, 3) := by decide +kernel
theorem dX3_stir_87 : decode cX3_stir 87 = .ok (.iload_n 1, 1) := by decide +kernel
theorem dX3_stir_88 : decode cX3_stir 88 = .ok (.iload_n 2, 1) := by decide +kernel
theorem dX3_stir_89 : decode cX3_stir 89 = .ok (.iload_n 3, 1) := by decide +kernel
theorem dX3_stir_90 : decode cX3_stir 90 = .ok (.imul, 1) := by decide +kernel
theorem dX3_stir_91 : decode cX3_stir 91 = .ok (.iadd, 1) := by decide +kernel
theorem dX3_stir_92 : decode cX3_stir 92 = .ok (.aload_n 0, 1) := by decide +kernel
theorem dX3_stir_93 : decode cX3_stir 93 = .ok (.getfield 18, 3) := by decide +kernel
theorem dX3_stir_96 : decode cX3_stir 96 = .ok (.iconst 2, 1) := by decide +kernel
theorem dX3_stir_97 : decode cX3_stir 97 = .ok (.iload_n 3, 1) := by decide +kernel
theorem dX3_stir_98 : decode cX3_stir 98 = .ok (.imul, 1) := by decide +kernel
theorem dX3_stir_99 : decode cX3_stir 99 = .ok (.laload, 1) := by decide +kernel
theorem dX3_stir_100 : decode cX3_stir 100 = .ok (.lastore, 1) := by decide +kernel
theorem dX3_stir_101 : decode cX3_stir 101 = .ok (.aload_n 0, 1) := by decide +kernel
theorem dX3_stir_102 : decode cX3_stir 102 = .ok (.getfield 15, 3) := by decide +kernel
theorem dX3_stir_105 : decode cX3_stir 105 = .ok (.iload_n 1, 1) := by decide +kernel
theorem dX3_stir_106 : decode cX3_stir 106 = .ok (.iload_n 2, 1) := by decide +kernel
theorem dX3_stir_107 : decode cX3_stir 107 = .ok (.iload_n 3, 1) := by decide +kernel
theorem dX3_stir_108 : decode cX3_stir 108 = .ok (.imul, 1) := by decide +kernel
theorem dX3_stir_109 : decode cX3_stir 109 = .ok (.iadd, 1) := by decide +kernel
theorem dX3_stir_110 : decode cX3_stir 110 = .ok (.iconst 1, 1) := by decide +kernel
theorem dX3_stir_111 : decode cX3_stir 111 = .ok (.iadd, 1) := by decide +kernel
theorem dX3_stir_112 : decode cX3_stir 112 = .ok (.aload_n 0, 1) := by decide +kernel
theorem dX3_stir_113 : decode cX3_stir 113 = .ok (.getfield 18, 3) := by decide +kernel
theorem dX3_stir_116 : decode cX3_stir 116 = .ok (.iconst 2, 1) := by decide +kernel
theorem dX3_stir_117 : decode cX3_stir 117 = .ok (.iload_n 3, 1) := by decide +kernel
theorem dX3_stir_118 : decode cX3_stir 118 = .ok (.imul, 1) := by decide +kernel
theorem dX3_stir_119 : decode cX3_stir 119 = .ok (.iconst 1, 1) := by decide +kernel
theorem dX3_stir_120 : decode cX3_stir 120 = .ok (.iadd, 1) := by decide +kernel
theorem dX3_stir_121 : decode cX3_stir 121 = .ok (.laload, 1) := by decide +kernel
theorem dX3_stir_122 : decode cX3_stir 122 = .ok (.lastore, 1) := by decide +kernel
theorem dX3_stir_123 : decode cX3_stir 123 = .ok (.iinc 3 1, 3) := by decide +kernel
theorem dX3_stir_126 : decode cX3_stir 126 = .ok (.goto (-49), 3) := by decide +kernel
theorem dX3_stir_129 : decode cX3_stir 129 = .ok (.return_, 1) := by decide +kernel
end
section
theorem dX3_mixHard_0 : decode cX3_mixHard 0 = .ok (.getstatic 29, 3) := by decide +kernel
theorem dX3_mixHard_3 : decode cX3_mixHard 3 = .ok (.iload_n 1, 1) := by decide +kernel
theorem dX3_mixHard_4 : decode cX3_mixHard 4 = .ok (.iaload, 1) := by decide +kernel
theorem dX3_mixHard_5 : decode cX3_mixHard 5 = .ok (.istore_n 2, 1) := by decide +kernel
theorem dX3_mixHard_6 : decode cX3_mixHard 6 = .ok (.getstatic 29, 3) := by decide +kernel
theorem dX3_mixHard_9 : decode cX3_mixHard 9 = .ok (.iload_n 1, 1) := by decide +kernel
theorem dX3_mixHard_10 : decode cX3_mixHard 10 = .ok (.iconst 1, 1) := by decide +kernel
theorem dX3_mixHard_11 : decode cX3_mixHard 11 = .ok (.iadd, 1) := by decide +kernel
theorem dX3_mixHard_12 : decode cX3_mixHard 12 = .ok (.iaload, 1) := by decide +kernel
theorem dX3_mixHard_13 : decode cX3_mixHard 13 = .ok (.istore_n 3, 1) := by decide +kernel
theorem dX3_mixHard_14 : decode cX3_mixHard 14 = .ok (.getstatic 29, 3) := by decide +kernel
theorem dX3_mixHard_17 : decode cX3_mixHard 17 = .ok (.iload_n 1, 1) := by decide +kernel
theorem dX3_mixHard_18 : decode cX3_mixHard 18 = .ok (.iconst 2, 1) := by decide +kernel
theorem dX3_mixHard_19 : decode cX3_mixHard 19 = .ok (.iadd, 1) := by decide +kernel
theorem dX3_mixHard_20 : decode cX3_mixHard 20 = .ok (.iaload, 1) := by decide +kernel
theorem dX3_mixHard_21 : decode cX3_mixHard 21 = .ok (.istore 4, 2) := by decide +kernel
theorem dX3_mixHard_23 : decode cX3_mixHard 23 = .ok (.getstatic 29, 3) := by decide +kernel
theorem dX3_mixHard_26 : decode cX3_mixHard 26 = .ok (.iload_n 1, 1) := by decide +kernel
theorem dX3_mixHard_27 : decode cX3_mixHard 27 = .ok (.iconst 3, 1) := by decide +kernel
theorem dX3_mixHard_28 : decode cX3_mixHard 28 = .ok (.iadd, 1) := by decide +kernel
theorem dX3_mixHard_29 : decode cX3_mixHard 29 = .ok (.iaload, 1) := by decide +kernel
theorem dX3_mixHard_30 : decode cX3_mixHard 30 = .ok (.istore 5, 2) := by decide +kernel
theorem dX3_mixHard_32 : decode cX3_mixHard 32 = .ok (.aload_n 0, 1) := by decide +kernel
theorem dX3_mixHard_33 : decode cX3_mixHard 33 = .ok (.getfield 18, 3) := by decide +kernel
theorem dX3_mixHard_36 : decode cX3_mixHard 36 = .ok (.iload_n 2, 1) := by decide +kernel
theorem dX3_mixHard_37 : decode cX3_mixHard 37 = .ok (.aload_n 0, 1) := by decide +kernel
theorem dX3_mixHard_38 : decode cX3_mixHard 38 = .ok (.getfield 18, 3) := by decide +kernel
theorem dX3_mixHard_41 : decode cX3_mixHard 41 = .ok (.iload_n 2, 1) := by decide +kernel
theorem dX3_mixHard_42 : decode cX3_mixHard 42 = .ok (.laload, 1) := by decide +kernel
theorem dX3_mixHard_43 : decode cX3_mixHard 43 = .ok (.aload_n 0, 1) := by decide +kernel
theorem dX3_mixHard_44 : decode cX3_mixHard 44 = .ok (.getfield 18, 3) := by decide +kernel
theorem dX3_mixHard_47 : decode cX3_mixHard 47 = .ok (.iload_n 3, 1) := by decide +kernel
theorem dX3_mixHard_48 : decode cX3_mixHard 48 = .ok (.laload, 1) := by decide +kernel
theorem dX3_mixHard_49 : decode cX3_mixHard 49 = .ok (.invokestatic 33, 3) := by decide +kernel
theorem dX3_mixHard_52 : decode cX3_mixHard 52 = .ok (.lastore, 1) := by decide +kernel
theorem dX3_mixHard_53 : decode cX3_mixHard 53 = .ok (.aload_n 0, 1) := by decide +kernel
theorem dX3_mixHard_54 : decode cX3_mixHard 54 = .ok (.getfield 18, 3) := by decide +kernel
theorem dX3_mixHard_57 : decode cX3_mixHard 57 = .ok (.iload 5, 2) := by decide +kernel
theorem dX3_mixHard_59 : decode cX3_mixHard 59 = .ok (.aload_n 0, 1) := by decide +kernel
theorem dX3_mixHard_60 : decode cX3_mixHard 60 = .ok (.getfield 18, 3) := by decide +kernel
theorem dX3_mixHard_63 : decode cX3_mixHard 63 = .ok (.iload 5, 2) := by decide +kernel
theorem dX3_mixHard_65 : decode cX3_mixHard 65 = .ok (.laload, 1) := by decide +kernel
theorem dX3_mixHard_66 : decode cX3_mixHard 66 = .ok (.aload_n 0, 1) := by decide +kernel
theorem dX3_mixHard_67 : decode cX3_mixHard 67 = .ok (.getfield 18, 3) := by decide +kernel
theorem dX3_mixHard_70 : decode cX3_mixHard 70 = .ok (.iload_n 2, 1) := by decide +kernel
theorem dX3_mixHard_71 : decode cX3_mixHard 71 = .ok (.laload, 1) := by decide +kernel
theorem dX3_mixHard_72 : decode cX3_mixHard 72 = .ok (.lxor, 1) := by decide +kernel
theorem dX3_mixHard_73 : decode cX3_mixHard 73 = .ok (.bipush 32, 2) := by decide +kernel
theorem dX3_mixHard_75 : decode cX3_mixHard 75 = .ok (.invokestatic 37, 3) := by decide +kernel
theorem dX3_mixHard_78 : decode cX3_mixHard 78 = .ok (.lastore, 1) := by decide +kernel
theorem dX3_mixHard_79 : decode cX3_mixHard 79 = .ok (.aload_n 0, 1) := by decide +kernel
theorem dX3_mixHard_80 : decode cX3_mixHard 80 = .ok (.getfield 18, 3) := by decide +kernel
theorem dX3_mixHard_83 : decode cX3_mixHard 83 = .ok (.iload 4, 2) := by decide +kernel
theorem dX3_mixHard_85 : decode cX3_mixHard 85 = .ok (.aload_n 0, 1) := by decide +kernel
theorem dX3_mixHard_86 : decode cX3_mixHard 86 = .ok (.getfield 18, 3) := by decide +kernel
theorem dX3_mixHard_89 : decode cX3_mixHard 89 = .ok (.iload 4, 2) := by decide +kernel
theorem dX3_mixHard_91 : decode cX3_mixHard 91 = .ok (.laload, 1) := by decide +kernel
theorem dX3_mixHard_92 : decode cX3_mixHard 92 = .ok (.aload_n 0, 1) := by decide +kernel
theorem dX3_mixHard_93 : decode cX3_mixHard 93 = .ok (.getfield 18, 3) := by decide +kernel
theorem dX3_mixHard_96 : decode cX3_mixHard 96 = .ok (.iload 5, 2) := by decide +kernel
theorem dX3_mixHard_98 : decode cX3_mixHard 98 = .ok (.laload, 1) := by decide +kernel
theorem dX3_mixHard_99 : decode cX3_mixHard 99 = .ok (.invokestatic 33, 3) := by decide +kernel
theorem dX3_mixHard_102 : decode cX3_mixHard 102 = .ok (.lastore, 1) := by decide +kernel
theorem dX3_mixHard_103 : decode cX3_mixHard 103 = .ok (.aload_n 0, 1) := by decide +kernel
theorem dX3_mixHard_104 : decode cX3_mixHard 104 = .ok (.getfield 18, 3) := by decide +kernel
theorem dX3_mixHard_107 : decode cX3_mixHard 107 = .ok (.iload_n 3, 1) := by decide +kernel
theorem dX3_mixHard_108 : decode cX3_mixHard 108 = .ok (.aload_n 0, 1) := by decide +kernel
theorem dX3_mixHard_109 : decode cX3_mixHard 109 = .ok (.getfield 18, 3) := by decide +kernel
theorem dX3_mixHard_112 : decode cX3_mixHard 112 = .ok (.iload_n 3, 1) := by decide +kernel
theorem dX3_mixHard_113 : decode cX3_mixHard 113 = .ok (.laload, 1) := by decide +kernel
theorem dX3_mixHard_114 : decode cX3_mixHard 114 = .ok (.aload_n 0, 1) := by decide +kernel
theorem dX3_mixHard_115 : decode cX3_mixHard 115 = .ok (.getfield 18, 3) := by decide +kernel
theorem dX3_mixHard_118 : decode cX3_mixHard 118 = .ok (.iload 4, 2) := by decide +kernel
theorem dX3_mixHard_120 : decode cX3_mixHard 120 = .ok (.laload, 1) := by decide +kernel
theorem dX3_mixHard_121 : decode cX3_mixHard 121 = .ok (.lxor, 1) := by decide +kernel
theorem dX3_mixHard_122 : decode cX3_mixHard 122 = .ok (.bipush 24, 2) := by decide +kernel
theorem dX3_mixHard_124 : decode cX3_mixHard 124 = .ok (.invokestatic 37, 3) := by decide +kernel
theorem dX3_mixHard_127 : decode cX3_mixHard 127 = .ok (.lastore, 1) := by decide +kernel
theorem dX3_mixHard_128 : decode cX3_mixHard 128 = .ok (.aload_n 0, 1) := by decide +kernel
theorem dX3_mixHard_129 : decode cX3_mixHard 129 = .ok (.getfield 18, 3) := by decide +kernel
theorem dX3_mixHard_132 : decode cX3_mixHard 132 = .ok (.iload_n 2, 1) := by decide +kernel
theorem dX3_mixHard_133 : decode cX3_mixHard 133 = .ok (.aload_n 0, 1) := by decide +kernel
theorem dX3_mixHard_134 : decode cX3_mixHard 134 = .ok (.getfield 18, 3) := by decide +kernel
theorem dX3_mixHard_137 : decode cX3_mixHard 137 = .ok (.iload_n 2, 1) := by decide +kernel
theorem dX3_mixHard_138 : decode cX3_mixHard 138 = .ok (.laload, 1) := by decide +kernel
theorem dX3_mixHard_139 : decode cX3_mixHard 139 = .ok (.aload_n 0, 1) := by decide +kernel
theorem dX3_mixHard_140 : decode cX3_mixHard 140 = .ok (.getfield 18, 3) := by decide +kernel
theorem dX3_mixHard_143 : decode cX3_mixHard 143 = .ok (.iload_n 3, 1) := by decide +kernel
theorem dX3_mixHard_144 : decode cX3_mixHard 144 = .ok (.laload, 1) := by decide +kernel
theorem dX3_mixHard_145 : decode cX3_mixHard 145 = .ok (.invokestatic 33, 3) := by decide +kernel
theorem dX3_mixHard_148 : decode cX3_mixHard 148 = .ok (.lastore, 1) := by decide +kernel
theorem dX3_mixHard_149 : decode cX3_mixHard 149 = .ok (.aload_n 0, 1) := by decide +kernel
theorem dX3_mixHard_150 : decode cX3_mixHard 150 = .ok (.getfield 18, 3) := by decide +kernel
theorem dX3_mixHard_153 : decode cX3_mixHard 153 = .ok (.iload 5, 2) := by decide +kernel
theorem dX3_mixHard_155 : decode cX3_mixHard 155 = .ok (.aload_n 0, 1) := by decide +kernel
theorem dX3_mixHard_156 : decode cX3_mixHard 156 = .ok (.getfield 18, 3) := by decide +kernel
theorem dX3_mixHard_159 : decode cX3_mixHard 159 = .ok (.iload 5, 2) := by decide +kernel
theorem dX3_mixHard_161 : decode cX3_mixHard 161 = .ok (.laload, 1) := by decide +kernel
theorem dX3_mixHard_162 : decode cX3_mixHard 162 = .ok (.aload_n 0, 1) := by decide +kernel
theorem dX3_mixHard_163 : decode cX3_mixHard 163 = .ok (.getfield 18, 3) := by decide +kernel
theorem dX3_mixHard_166 : decode cX3_mixHard 166 = .ok (.iload_n 2, 1) := by decide +kernel
theorem dX3_mixHard_167 : decode cX3_mixHard 167 = .ok (.laload, 1) := by decide +kernel
theorem dX3_mixHard_168 : decode cX3_mixHard 168 = .ok (.lxor, 1) := by decide +kernel
theorem dX3_mixHard_169 : decode cX3_mixHard 169 = .ok (.bipush 16, 2) := by decide +kernel
theorem dX3_mixHard_171 : decode cX3_mixHard 171 = .ok (.invokestatic 37, 3) := by decide +kernel
theorem dX3_mixHard_174 : decode cX3_mixHard 174 = .ok (.lastore, 1) := by decide +kernel
theorem dX3_mixHard_175 : decode cX3_mixHard 175 = .ok (.aload_n 0, 1) := by decide +kernel
theorem dX3_mixHard_176 : decode cX3_mixHard 176 = .ok (.getfield 18, 3) := by decide +kernel
theorem dX3_mixHard_179 : decode cX3_mixHard 179 = .ok (.iload 4, 2) := by decide +kernel
theorem dX3_mixHard_181 : decode cX3_mixHard 181 = .ok (.aload_n 0, 1) := by decide +kernel
theorem dX3_mixHard_182 : decode cX3_mixHard 182 = .ok (.getfield 18, 3) := by decide +kernel
theorem dX3_mixHard_185 : decode cX3_mixHard 185 = .ok (.iload 4, 2) := by decide +kernel
theorem dX3_mixHard_187 : decode cX3_mixHard 187 = .ok (.laload, 1) := by decide +kernel
theorem dX3_mixHard_188 : decode cX3_mixHard 188 = .ok (.aload_n 0, 1) := by decide +kernel
theorem dX3_mixHard_189 : decode cX3_mixHard 189 = .ok (.getfield 18, 3) := by decide +kernel
theorem dX3_mixHard_192 : decode cX3_mixHard 192 = .ok (.iload 5, 2) := by decide +kernel
theorem dX3_mixHard_194 : decode cX3_mixHard 194 = .ok (.laload, 1) := by decide +kernel
theorem dX3_mixHard_195 : decode cX3_mixHard 195 = .ok (.invokestatic 33, 3) := by decide +kernel
theorem dX3_mixHard_198 : decode cX3_mixHard 198 = .ok (.lastore, 1) := by decide +kernel
theorem dX3_mixHard_199 : decode cX3_mixHard 199 = .ok (.aload_n 0, 1) := by decide +kernel
theorem dX3_mixHard_200 : decode cX3_mixHard 200 = .ok (.getfield 18, 3) := by decide +kernel
theorem dX3_mixHard_203 : decode cX3_mixHard 203 = .ok (.iload_n 3, 1) := by decide +kernel
theorem dX3_mixHard_204 : decode cX3_mixHard 204 = .ok (.aload_n 0, 1) := by decide +kernel
theorem dX3_mixHard_205 : decode cX3_mixHard 205 = .ok (.getfield 18, 3) := by decide +kernel
theorem dX3_mixHard_208 : decode cX3_mixHard 208 = .ok (.iload_n 3, 1) := by decide +kernel
theorem dX3_mixHard_209 : decode cX3_mixHard 209 = .ok (.laload, 1) := by decide +kernel
theorem dX3_mixHard_210 : decode cX3_mixHard 210 = .ok (.aload_n 0, 1) := by decide +kernel
theorem dX3_mixHard_211 : decode cX3_mixHard 211 = .ok (.getfield 18, 3) := by decide +kernel
theorem dX3_mixHard_214 : decode cX3_mixHard 214 = .ok (.iload 4, 2) := by decide +kernel
theorem dX3_mixHard_216 : decode cX3_mixHard 216 = .ok (.laload, 1) := by decide +kernel
theorem dX3_mixHard_217 : decode cX3_mixHard 217 = .ok (.lxor, 1) := by decide +kernel
theorem dX3_mixHard_218 : decode cX3_mixHard 218 = .ok (.bipush 63, 2) := by decide +kernel
theorem dX3_mixHard_220 : decode cX3_mixHard 220 = .ok (.invokestatic 37, 3) := by decide +kernel
theorem dX3_mixHard_223 : decode cX3_mixHard 223 = .ok (.lastore, 1) := by decide +kernel
theorem dX3_mixHard_224 : decode cX3_mixHard 224 = .ok (.return_, 1) := by decide +kernel
theorem dX3_sumHard_0 : decode cX3_sumHard 0 = .ok (.lload_n 0, 1) := by decide +kernel
theorem dX3_sumHard_1 : decode cX3_sumHard 1 = .ok (.lload_n 2, 1) := by decide +kernel
theorem dX3_sumHard_2 : decode cX3_sumHard 2 = .ok (.ladd, 1) := by decide +kernel
theorem dX3_sumHard_3 : decode cX3_sumHard 3 = .ok (.ldc2_w 41, 3) := by decide +kernel
theorem dX3_sumHard_6 : decode cX3_sumHard 6 = .ok (.lload_n 0, 1) := by decide +kernel
theorem dX3_sumHard_7 : decode cX3_sumHard 7 = .ok (.ldc2_w 43, 3) := by decide +kernel
theorem dX3_sumHard_10 : decode cX3_sumHard 10 = .ok (.land, 1) := by decide +kernel
theorem dX3_sumHard_11 : decode cX3_sumHard 11 = .ok (.lmul, 1) := by decide +kernel
theorem dX3_sumHard_12 : decode cX3_sumHard 12 = .ok (.lload_n 2, 1) := by decide +kernel
theorem dX3_sumHard_13 : decode cX3_sumHard 13 = .ok (.ldc2_w 43, 3) := by decide +kernel
theorem dX3_sumHard_16 : decode cX3_sumHard 16 = .ok (.land, 1) := by decide +kernel
theorem dX3_sumHard_17 : decode cX3_sumHard 17 = .ok (.lmul, 1) := by decide +kernel
theorem dX3_sumHard_18 : decode cX3_sumHard 18 = .ok (.ladd, 1) := by decide +kernel
theorem dX3_sumHard_19 : decode cX3_sumHard 19 = .ok (.lreturn, 1) := by decide +kernel
theorem dX4_init_0 : decode cX4_init 0 = .ok (.aload_n 0, 1) := by decide +kernel
theorem dX4_init_1 : decode cX4_init 1 = .ok (.invokespecial 3, 3) := by decide +kernel
theorem dX4_init_4 : decode cX4_init 4 = .ok (.aload_n 0, 1) := by decide +kernel
theorem dX4_init_5 : decode cX4_init 5 = .ok (.bipush 8, 2) := by decide +kernel
theorem dX4_init_7 : decode cX4_init 7 = .ok (.anewarray 9, 3) := by decide +kernel
theorem dX4_init_10 : decode cX4_init 10 = .ok (.putfield 11, 3) := by decide +kernel
theorem dX4_init_13 : decode cX4_init 13 = .ok (.aload_n 0, 1) := by decide +kernel
theorem dX4_init_14 : decode cX4_init 14 = .ok (.new 9, 3) := by decide +kernel
theorem dX4_init_17 : decode cX4_init 17 = .ok (.dup, 1) := by decide +kernel
theorem dX4_init_18 : decode cX4_init 18 = .ok (.iconst 0, 1) := by decide +kernel
theorem dX4_init_19 : decode cX4_init 19 = .ok (.invokespecial 15, 3) := by decide +kernel
theorem dX4_init_22 : decode cX4_init 22 = .ok (.putfield 18, 3) := by decide +kernel
theorem dX4_init_25 : decode cX4_init 25 = .ok (.aload_n 0, 1) := by decide +kernel
theorem dX4_init_26 : decode cX4_init 26 = .ok (.new 9, 3) := by decide +kernel
theorem dX4_init_29 : decode cX4_init 29 = .ok (.dup, 1) := by decide +kernel
theorem dX4_init_30 : decode cX4_init 30 = .ok (.bipush 64, 2) := by decide +kernel
theorem dX4_init_32 : decode cX4_init 32 = .ok (.invokespecial 15, 3) := by decide +kernel
theorem dX4_init_35 : decode cX4_init 35 = .ok (.putfield 22, 3) := by decide +kernel
theorem dX4_init_38 : decode cX4_init 38 = .ok (.aload_n 0, 1) := by decide +kernel
theorem dX4_init_39 : decode cX4_init 39 = .ok (.new 25, 3) := by decide +kernel
theorem dX4_init_42 : decode cX4_init 42 = .ok (.dup, 1) := by decide +kernel
theorem dX4_init_43 : decode cX4_init 43 = .ok (.invokespecial 27, 3) := by decide +kernel
theorem dX4_init_46 : decode cX4_init 46 = .ok (.putfield 28, 3) := by decide +kernel
theorem dX4_init_49 : decode cX4_init 49 = .ok (.aload_n 0, 1) := by decide +kernel
theorem dX4_init_50 : decode cX4_init 50 = .ok (.new 32, 3) := by decide +kernel
theorem dX4_init_53 : decode cX4_init 53 = .ok (.dup, 1) := by decide +kernel
theorem dX4_init_54 : decode cX4_init 54 = .ok (.invokespecial 34, 3) := by decide +kernel
theorem dX4_init_57 : decode cX4_init 57 = .ok (.putfield 35, 3) := by decide +kernel
theorem dX4_init_60 : decode cX4_init 60 = .ok (.iconst 0, 1) := by decide +kernel
theorem dX4_init_61 : decode cX4_init 61 = .ok (.istore_n 1, 1) := by decide +kernel
theorem dX4_init_62 : decode cX4_init 62 = .ok (.iload_n 1, 1) := by decide +kernel
theorem dX4_init_63 : decode cX4_init 63 = .ok (.bipush 8, 2) := by decide +kernel
theorem dX4_init_65 : decode cX4_init 65 = .ok (.if_icmp .ge 25, 3) := by decide +kernel
theorem dX4_init_68 : decode cX4_init 68 = .ok (.aload_n 0, 1) := by decide +kernel
theorem dX4_init_69 : decode cX4_init 69 = .ok (.getfield 11, 3) := by decide +kernel
theorem dX4_init_72 : decode cX4_init 72 = .ok (.iload_n 1, 1) := by decide +kernel
theorem dX4_init_73 : decode cX4_init 73 = .ok (.new 9, 3) := by decide +kernel
theorem dX4_init_76 : decode cX4_init 76 = .ok (.dup, 1) := by decide +kernel
theorem dX4_init_77 : decode cX4_init 77 = .ok (.sipush 200, 3) := by decide +kernel
theorem dX4_init_80 : decode cX4_init 80 = .ok (.invokespecial 15, 3) := by decide +kernel
theorem dX4_init_83 : decode cX4_init 83 = .ok (.aastore, 1) := by decide +kernel
theorem dX4_init_84 : decode cX4_init 84 = .ok (.iinc 1 1, 3) := by decide +kernel
theorem dX4_init_87 : decode cX4_init 87 = .ok (.goto (-25), 3) := by decide +kernel
theorem dX4_init_90 : decode cX4_init 90 = .ok (.return_, 1) := by decide +kernel
theorem dX4_add_0 : decode cX4_add 0 = .ok (.iload_n 1, 1) := by decide +kernel
theorem dX4_add_1 : decode cX4_add 1 = .ok (.invokestatic 39, 3) := by decide +kernel
theorem dX4_add_4 : decode cX4_add 4 = .ok (.ifCond .eq 14, 3) := by decide +kernel
theorem dX4_add_7 : decode cX4_add 7 = .ok (.iload_n 2, 1) := by decide +kernel
theorem dX4_add_8 : decode cX4_add 8 = .ok (.iconst 1, 1) := by decide +kernel
theorem dX4_add_9 : decode cX4_add 9 = .ok (.if_icmp .lt 9, 3) := by decide +kernel
theorem dX4_add_12 : decode cX4_add 12 = .ok (.iload_n 2, 1) := by decide +kernel
theorem dX4_add_13 : decode cX4_add 13 = .ok (.bipush 8, 2) := by decide +kernel
theorem dX4_add_15 : decode cX4_add 15 = .ok (.if_icmp .le 6, 3) := by decide +kernel
theorem dX4_add_18 : decode cX4_add 18 = .ok (.bipush (-2), 2) := by decide +kernel
theorem dX4_add_20 : decode cX4_add 20 = .ok (.ireturn, 1) := by decide +kernel
theorem dX4_add_21 : decode cX4_add 21 = .ok (.aload_n 0, 1) := by decide +kernel
theorem dX4_add_22 : decode cX4_add 22 = .ok (.iload_n 1, 1) := by decide +kernel
theorem dX4_add_23 : decode cX4_add 23 = .ok (.invokevirtual 43, 3) := by decide +kernel
theorem dX4_add_26 : decode cX4_add 26 = .ok (.astore 5, 2) := by decide +kernel
theorem dX4_add_28 : decode cX4_add 28 = .ok (.aload 5, 2) := by decide +kernel
theorem dX4_add_30 : decode cX4_add 30 = .ok (.getfield 47, 3) := by decide +kernel
theorem dX4_add_33 : decode cX4_add 33 = .ok (.iload_n 2, 1) := by decide +kernel
theorem dX4_add_34 : decode cX4_add 34 = .ok (.iadd, 1) := by decide +kernel
theorem dX4_add_35 : decode cX4_add 35 = .ok (.sipush 200, 3) := by decide +kernel
theorem dX4_add_38 : decode cX4_add 38 = .ok (.if_icmp .le 6, 3) := by decide +kernel
theorem dX4_add_41 : decode cX4_add 41 = .ok (.bipush (-3), 2) := by decide +kernel
theorem dX4_add_43 : decode cX4_add 43 = .ok (.ireturn, 1) := by decide +kernel
theorem dX4_add_44 : decode cX4_add 44 = .ok (.aload 5, 2) := by decide +kernel
theorem dX4_add_46 : decode cX4_add 46 = .ok (.lload_n 3, 1) := by decide +kernel
theorem dX4_add_47 : decode cX4_add 47 = .ok (.iload_n 2, 1) := by decide +kernel
theorem dX4_add_48 : decode cX4_add 48 = .ok (.invokevirtual 51, 3) := by decide +kernel
theorem dX4_add_51 : decode cX4_add 51 = .ok (.aload 5, 2) := by decide +kernel
theorem dX4_add_53 : decode cX4_add 53 = .ok (.getfield 47, 3) := by decide +kernel
theorem dX4_add_56 : decode cX4_add 56 = .ok (.ireturn, 1) := by decide +kernel
theorem dX4_clear_0 : decode cX4_clear 0 = .ok (.iload_n 1, 1) := by decide +kernel
theorem dX4_clear_1 : decode cX4_clear 1 = .ok (.invokestatic 39, 3) := by decide +kernel
theorem dX4_clear_4 : decode cX4_clear 4 = .ok (.ifCond .ne 6, 3) := by decide +kernel
theorem dX4_clear_7 : decode cX4_clear 7 = .ok (.bipush (-2), 2) := by decide +kernel
theorem dX4_clear_9 : decode cX4_clear 9 = .ok (.ireturn, 1) := by decide +kernel
theorem dX4_clear_10 : decode cX4_clear 10 = .ok (.aload_n 0, 1) := by decide +kernel
theorem dX4_clear_11 : decode cX4_clear 11 = .ok (.iload_n 1, 1) := by decide +kernel
theorem dX4_clear_12 : decode cX4_clear 12 = .ok (.invokevirtual 43, 3) := by decide +kernel
theorem dX4_clear_15 : decode cX4_clear 15 = .ok (.astore_n 2, 1) := by decide +kernel
theorem dX4_clear_16 : decode cX4_clear 16 = .ok (.aload_n 2, 1) := by decide +kernel
theorem dX4_clear_17 : decode cX4_clear 17 = .ok (.getfield 47, 3) := by decide +kernel
theorem dX4_clear_20 : decode cX4_clear 20 = .ok (.istore_n 3, 1) := by decide +kernel
theorem dX4_clear_21 : decode cX4_clear 21 = .ok (.aload_n 2, 1) := by decide +kernel
theorem dX4_clear_22 : decode cX4_clear 22 = .ok (.invokevirtual 55, 3) := by decide +kernel
theorem dX4_clear_25 : decode cX4_clear 25 = .ok (.iload_n 3, 1) := by decide +kernel
theorem dX4_clear_26 : decode cX4_clear 26 = .ok (.ireturn, 1) := by decide +kernel
theorem dX4_size_0 : decode cX4_size 0 = .ok (.iload_n 1, 1) := by decide +kernel
theorem dX4_size_1 : decode cX4_size 1 = .ok (.invokestatic 39, 3) := by decide +kernel
theorem dX4_size_4 : decode cX4_size 4 = .ok (.ifCond .eq 14, 3) := by decide +kernel
theorem dX4_size_7 : decode cX4_size 7 = .ok (.aload_n 0, 1) := by decide +kernel
theorem dX4_size_8 : decode cX4_size 8 = .ok (.iload_n 1, 1) := by decide +kernel
theorem dX4_size_9 : decode cX4_size 9 = .ok (.invokevirtual 43, 3) := by decide +kernel
theorem dX4_size_12 : decode cX4_size 12 = .ok (.getfield 47, 3) := by decide +kernel
theorem dX4_size_15 : decode cX4_size 15 = .ok (.goto 5, 3) := by decide +kernel
theorem dX4_size_18 : decode cX4_size 18 = .ok (.bipush (-2), 2) := by decide +kernel
theorem dX4_size_20 : decode cX4_size 20 = .ok (.ireturn, 1) := by decide +kernel
theorem dX4_at_0 : decode cX4_at 0 = .ok (.iload_n 1, 1) := by decide +kernel
theorem dX4_at_1 : decode cX4_at 1 = .ok (.invokestatic 39, 3) := by decide +kernel
theorem dX4_at_4 : decode cX4_at 4 = .ok (.ifCond .eq 15, 3) := by decide +kernel
theorem dX4_at_7 : decode cX4_at 7 = .ok (.aload_n 0, 1) := by decide +kernel
theorem dX4_at_8 : decode cX4_at 8 = .ok (.iload_n 1, 1) := by decide +kernel
theorem dX4_at_9 : decode cX4_at 9 = .ok (.invokevirtual 43, 3) := by decide +kernel
theorem dX4_at_12 : decode cX4_at 12 = .ok (.iload_n 2, 1) := by decide +kernel
theorem dX4_at_13 : decode cX4_at 13 = .ok (.invokevirtual 58, 3) := by decide +kernel
theorem dX4_at_16 : decode cX4_at 16 = .ok (.goto 5, 3) := by decide +kernel
theorem dX4_at_19 : decode cX4_at 19 = .ok (.bipush (-2), 2) := by decide +kernel
theorem dX4_at_21 : decode cX4_at 21 = .ok (.ireturn, 1) := by decide +kernel
theorem dX4_hash_0 : decode cX4_hash 0 = .ok (.iload_n 1, 1) := by decide +kernel
theorem dX4_hash_1 : decode cX4_hash 1 = .ok (.invokestatic 39, 3) := by decide +kernel
theorem dX4_hash_4 : decode cX4_hash 4 = .ok (.ifCond .eq 17, 3) := by decide +kernel
theorem dX4_hash_7 : decode cX4_hash 7 = .ok (.iload_n 2, 1) := by decide +kernel
theorem dX4_hash_8 : decode cX4_hash 8 = .ok (.invokestatic 39, 3) := by decide +kernel
theorem dX4_hash_11 : decode cX4_hash 11 = .ok (.ifCond .eq 10, 3) := by decide +kernel
theorem dX4_hash_14 : decode cX4_hash 14 = .ok (.iload_n 3, 1) := by decide +kernel
theorem dX4_hash_15 : decode cX4_hash 15 = .ok (.invokestatic 62, 3) := by decide +kernel
theorem dX4_hash_18 : decode cX4_hash 18 = .ok (.ifCond .ne 6, 3) := by decide +kernel
theorem dX4_hash_21 : decode cX4_hash 21 = .ok (.bipush (-2), 2) := by decide +kernel
theorem dX4_hash_23 : decode cX4_hash 23 = .ok (.ireturn, 1) := by decide +kernel
theorem dX4_hash_24 : decode cX4_hash 24 = .ok (.aload_n 0, 1) := by decide +kernel
theorem dX4_hash_25 : decode cX4_hash 25 = .ok (.iload_n 3, 1) := by decide +kernel
theorem dX4_hash_26 : decode cX4_hash 26 = .ok (.invokevirtual 43, 3) := by decide +kernel
theorem dX4_hash_29 : decode cX4_hash 29 = .ok (.astore 5, 2) := by decide +kernel
theorem dX4_hash_31 : decode cX4_hash 31 = .ok (.iload 4, 2) := by decide +kernel
theorem dX4_hash_33 : decode cX4_hash 33 = .ok (.iconst 1, 1) := by decide +kernel
theorem dX4_hash_34 : decode cX4_hash 34 = .ok (.if_icmp .lt 20, 3) := by decide +kernel
theorem dX4_hash_37 : decode cX4_hash 37 = .ok (.iload 4, 2) := by decide +kernel
theorem dX4_hash_39 : decode cX4_hash 39 = .ok (.bipush 64, 2) := by decide +kernel
theorem dX4_hash_41 : decode cX4_hash 41 = .ok (.if_icmp .gt 13, 3) := by decide +kernel
theorem dX4_hash_44 : decode cX4_hash 44 = .ok (.aload 5, 2) := by decide +kernel
theorem dX4_hash_46 : decode cX4_hash 46 = .ok (.getfield 47, 3) := by decide +kernel
theorem dX4_hash_49 : decode cX4_hash 49 = .ok (.bipush 64, 2) := by decide +kernel
theorem dX4_hash_51 : decode cX4_hash 51 = .ok (.if_icmp .le 6, 3) := by decide +kernel
theorem dX4_hash_54 : decode cX4_hash 54 = .ok (.bipush (-2), 2) := by decide +kernel
theorem dX4_hash_56 : decode cX4_hash 56 = .ok (.ireturn, 1) := by decide +kernel
theorem dX4_hash_57 : decode cX4_hash 57 = .ok (.aload_n 0, 1) := by decide +kernel
theorem dX4_hash_58 : decode cX4_hash 58 = .ok (.getfield 28, 3) := by decide +kernel
theorem dX4_hash_61 : decode cX4_hash 61 = .ok (.aload 5, 2) := by decide +kernel
theorem dX4_hash_63 : decode cX4_hash 63 = .ok (.invokevirtual 65, 3) := by decide +kernel
theorem dX4_hash_66 : decode cX4_hash 66 = .ok (.aload_n 0, 1) := by decide +kernel
theorem dX4_hash_67 : decode cX4_hash 67 = .ok (.getfield 28, 3) := by decide +kernel
theorem dX4_hash_70 : decode cX4_hash 70 = .ok (.getfield 69, 3) := by decide +kernel
theorem dX4_hash_73 : decode cX4_hash 73 = .ok (.aload_n 0, 1) := by decide +kernel
theorem dX4_hash_74 : decode cX4_hash 74 = .ok (.iload_n 2, 1) := by decide +kernel
theorem dX4_hash_75 : decode cX4_hash 75 = .ok (.invokevirtual 43, 3) := by decide +kernel
theorem dX4_hash_78 : decode cX4_hash 78 = .ok (.invokevirtual 72, 3) := by decide +kernel
theorem dX4_hash_81 : decode cX4_hash 81 = .ok (.aload_n 0, 1) := by decide +kernel
theorem dX4_hash_82 : decode cX4_hash 82 = .ok (.getfield 28, 3) := by decide +kernel
theorem dX4_hash_85 : decode cX4_hash 85 = .ok (.iload 4, 2) := by decide +kernel
theorem dX4_hash_87 : decode cX4_hash 87 = .ok (.aload 5, 2) := by decide +kernel
theorem dX4_hash_89 : decode cX4_hash 89 = .ok (.getfield 47, 3) := by decide +kernel
theorem dX4_hash_92 : decode cX4_hash 92 = .ok (.invokevirtual 75, 3) := by decide +kernel
theorem dX4_hash_95 : decode cX4_hash 95 = .ok (.aload_n 0, 1) := by decide +kernel
theorem dX4_hash_96 : decode cX4_hash 96 = .ok (.iload_n 1, 1) := by decide +kernel
theorem dX4_hash_97 : decode cX4_hash 97 = .ok (.invokevirtual 43, 3) := by decide +kernel
theorem dX4_hash_100 : decode cX4_hash 100 = .ok (.aload_n 0, 1) := by decide +kernel
theorem dX4_hash_101 : decode cX4_hash 101 = .ok (.getfield 28, 3) := by decide +kernel
theorem dX4_hash_104 : decode cX4_hash 104 = .ok (.getfield 79, 3) := by decide +kernel
theorem dX4_hash_107 : decode cX4_hash 107 = .ok (.invokevirtual 82, 3) := by decide +kernel
theorem dX4_hash_110 : decode cX4_hash 110 = .ok (.iload 4, 2) := by decide +kernel
theorem dX4_hash_112 : decode cX4_hash 112 = .ok (.ireturn, 1) := by decide +kernel
theorem dX4_longHash_0 : decode cX4_longHash 0 = .ok (.iload_n 1, 1) := by decide +kernel
theorem dX4_longHash_1 : decode cX4_longHash 1 = .ok (.invokestatic 39, 3) := by decide +kernel
theorem dX4_longHash_4 : decode cX4_longHash 4 = .ok (.ifCond .eq 22, 3) := by decide +kernel
theorem dX4_longHash_7 : decode cX4_longHash 7 = .ok (.iload_n 2, 1) := by decide +kernel
theorem dX4_longHash_8 : decode cX4_longHash 8 = .ok (.invokestatic 39, 3) := by decide +kernel
theorem dX4_longHash_11 : decode cX4_longHash 11 = .ok (.ifCond .eq 15, 3) := by decide +kernel
theorem dX4_longHash_14 : decode cX4_longHash 14 = .ok (.iload_n 3, 1) := by decide +kernel
theorem dX4_longHash_15 : decode cX4_longHash 15 = .ok (.iconst 1, 1) := by decide +kernel
theorem dX4_longHash_16 : decode cX4_longHash 16 = .ok (.if_icmp .lt 10, 3) := by decide +kernel
theorem dX4_longHash_19 : decode cX4_longHash 19 = .ok (.iload_n 3, 1) := by decide +kernel
theorem dX4_longHash_20 : decode cX4_longHash 20 = .ok (.sipush 200, 3) := by decide +kernel
theorem dX4_longHash_23 : decode cX4_longHash 23 = .ok (.if_icmp .le 6, 3) := by decide +kernel
theorem dX4_longHash_26 : decode cX4_longHash 26 = .ok (.bipush (-2), 2) := by decide +kernel
theorem dX4_longHash_28 : decode cX4_longHash 28 = .ok (.ireturn, 1) := by decide +kernel
theorem dX4_longHash_29 : decode cX4_longHash 29 = .ok (.aload_n 0, 1) := by decide +kernel
theorem dX4_longHash_30 : decode cX4_longHash 30 = .ok (.getfield 28, 3) := by decide +kernel
theorem dX4_longHash_33 : decode cX4_longHash 33 = .ok (.iload_n 3, 1) := by decide +kernel
theorem dX4_longHash_34 : decode cX4_longHash 34 = .ok (.invokevirtual 85, 3) := by decide +kernel
theorem dX4_longHash_37 : decode cX4_longHash 37 = .ok (.aload_n 0, 1) := by decide +kernel
theorem dX4_longHash_38 : decode cX4_longHash 38 = .ok (.getfield 28, 3) := by decide +kernel
theorem dX4_longHash_41 : decode cX4_longHash 41 = .ok (.getfield 69, 3) := by decide +kernel
theorem dX4_longHash_44 : decode cX4_longHash 44 = .ok (.aload_n 0, 1) := by decide +kernel
theorem dX4_longHash_45 : decode cX4_longHash 45 = .ok (.iload_n 2, 1) := by decide +kernel
theorem dX4_longHash_46 : decode cX4_longHash 46 = .ok (.invokevirtual 43, 3) := by decide +kernel
theorem dX4_longHash_49 : decode cX4_longHash 49 = .ok (.invokevirtual 72, 3) := by decide +kernel
theorem dX4_longHash_52 : decode cX4_longHash 52 = .ok (.aload_n 0, 1) := by decide +kernel
theorem dX4_longHash_53 : decode cX4_longHash 53 = .ok (.getfield 28, 3) := by decide +kernel
theorem dX4_longHash_56 : decode cX4_longHash 56 = .ok (.iload_n 3, 1) := by decide +kernel
theorem dX4_longHash_57 : decode cX4_longHash 57 = .ok (.invokevirtual 88, 3) := by decide +kernel
theorem dX4_longHash_60 : decode cX4_longHash 60 = .ok (.aload_n 0, 1) := by decide +kernel
theorem dX4_longHash_61 : decode cX4_longHash 61 = .ok (.iload_n 1, 1) := by decide +kernel
theorem dX4_longHash_62 : decode cX4_longHash 62 = .ok (.invokevirtual 43, 3) := by decide +kernel
theorem dX4_longHash_65 : decode cX4_longHash 65 = .ok (.aload_n 0, 1) := by decide +kernel
theorem dX4_longHash_66 : decode cX4_longHash 66 = .ok (.getfield 28, 3) := by decide +kernel
theorem dX4_longHash_69 : decode cX4_longHash 69 = .ok (.getfield 79, 3) := by decide +kernel
theorem dX4_longHash_72 : decode cX4_longHash 72 = .ok (.invokevirtual 82, 3) := by decide +kernel
theorem dX4_longHash_75 : decode cX4_longHash 75 = .ok (.iload_n 3, 1) := by decide +kernel
theorem dX4_longHash_76 : decode cX4_longHash 76 = .ok (.ireturn, 1) := by decide +kernel
end
section
theorem dX4_begin_0 : decode cX4_begin 0 = .ok (.iload_n 1, 1) := by decide +kernel
theorem dX4_begin_1 : decode cX4_begin 1 = .ok (.iload_n 2, 1) := by decide +kernel
theorem dX4_begin_2 : decode cX4_begin 2 = .ok (.iload_n 3, 1) := by decide +kernel
theorem dX4_begin_3 : decode cX4_begin 3 = .ok (.iload 4, 2) := by decide +kernel
theorem dX4_begin_5 : decode cX4_begin 5 = .ok (.iload 5, 2) := by decide +kernel
theorem dX4_begin_7 : decode cX4_begin 7 = .ok (.invokestatic 91, 3) := by decide +kernel
theorem dX4_begin_10 : decode cX4_begin 10 = .ok (.ifCond .ne 6, 3) := by decide +kernel
theorem dX4_begin_13 : decode cX4_begin 13 = .ok (.bipush (-2), 2) := by decide +kernel
theorem dX4_begin_15 : decode cX4_begin 15 = .ok (.ireturn, 1) := by decide +kernel
theorem dX4_begin_16 : decode cX4_begin 16 = .ok (.iload 6, 2) := by decide +kernel
theorem dX4_begin_18 : decode cX4_begin 18 = .ok (.invokestatic 39, 3) := by decide +kernel
theorem dX4_begin_21 : decode cX4_begin 21 = .ok (.ifCond .eq 19, 3) := by decide +kernel
theorem dX4_begin_24 : decode cX4_begin 24 = .ok (.iload 8, 2) := by decide +kernel
theorem dX4_begin_26 : decode cX4_begin 26 = .ok (.invokestatic 62, 3) := by decide +kernel
theorem dX4_begin_29 : decode cX4_begin 29 = .ok (.ifCond .eq 11, 3) := by decide +kernel
theorem dX4_begin_32 : decode cX4_begin 32 = .ok (.iload 9, 2) := by decide +kernel
theorem dX4_begin_34 : decode cX4_begin 34 = .ok (.invokestatic 62, 3) := by decide +kernel
theorem dX4_begin_37 : decode cX4_begin 37 = .ok (.ifCond .ne 6, 3) := by decide +kernel
theorem dX4_begin_40 : decode cX4_begin 40 = .ok (.bipush (-2), 2) := by decide +kernel
theorem dX4_begin_42 : decode cX4_begin 42 = .ok (.ireturn, 1) := by decide +kernel
theorem dX4_begin_43 : decode cX4_begin 43 = .ok (.iload 7, 2) := by decide +kernel
theorem dX4_begin_45 : decode cX4_begin 45 = .ok (.invokestatic 39, 3) := by decide +kernel
theorem dX4_begin_48 : decode cX4_begin 48 = .ok (.ifCond .eq 17, 3) := by decide +kernel
theorem dX4_begin_51 : decode cX4_begin 51 = .ok (.aload_n 0, 1) := by decide +kernel
theorem dX4_begin_52 : decode cX4_begin 52 = .ok (.iload 7, 2) := by decide +kernel
theorem dX4_begin_54 : decode cX4_begin 54 = .ok (.invokevirtual 43, 3) := by decide +kernel
theorem dX4_begin_57 : decode cX4_begin 57 = .ok (.getfield 47, 3) := by decide +kernel
theorem dX4_begin_60 : decode cX4_begin 60 = .ok (.bipush 8, 2) := by decide +kernel
theorem dX4_begin_62 : decode cX4_begin 62 = .ok (.if_icmp .ge 6, 3) := by decide +kernel
theorem dX4_begin_65 : decode cX4_begin 65 = .ok (.bipush (-2), 2) := by decide +kernel
theorem dX4_begin_67 : decode cX4_begin 67 = .ok (.ireturn, 1) := by decide +kernel
theorem dX4_begin_68 : decode cX4_begin 68 = .ok (.aload_n 0, 1) := by decide +kernel
theorem dX4_begin_69 : decode cX4_begin 69 = .ok (.getfield 35, 3) := by decide +kernel
theorem dX4_begin_72 : decode cX4_begin 72 = .ok (.iload_n 1, 1) := by decide +kernel
theorem dX4_begin_73 : decode cX4_begin 73 = .ok (.iload_n 2, 1) := by decide +kernel
theorem dX4_begin_74 : decode cX4_begin 74 = .ok (.iload_n 3, 1) := by decide +kernel
theorem dX4_begin_75 : decode cX4_begin 75 = .ok (.iload 4, 2) := by decide +kernel
theorem dX4_begin_77 : decode cX4_begin 77 = .ok (.iload 5, 2) := by decide +kernel
theorem dX4_begin_79 : decode cX4_begin 79 = .ok (.invokevirtual 95, 3) := by decide +kernel
theorem dX4_begin_82 : decode cX4_begin 82 = .ok (.aload_n 0, 1) := by decide +kernel
theorem dX4_begin_83 : decode cX4_begin 83 = .ok (.getfield 28, 3) := by decide +kernel
theorem dX4_begin_86 : decode cX4_begin 86 = .ok (.getfield 69, 3) := by decide +kernel
theorem dX4_begin_89 : decode cX4_begin 89 = .ok (.invokevirtual 55, 3) := by decide +kernel
theorem dX4_begin_92 : decode cX4_begin 92 = .ok (.aload_n 0, 1) := by decide +kernel
theorem dX4_begin_93 : decode cX4_begin 93 = .ok (.getfield 35, 3) := by decide +kernel
theorem dX4_begin_96 : decode cX4_begin 96 = .ok (.aload_n 0, 1) := by decide +kernel
theorem dX4_begin_97 : decode cX4_begin 97 = .ok (.getfield 28, 3) := by decide +kernel
theorem dX4_begin_100 : decode cX4_begin 100 = .ok (.getfield 69, 3) := by decide +kernel
theorem dX4_begin_103 : decode cX4_begin 103 = .ok (.iload 4, 2) := by decide +kernel
theorem dX4_begin_105 : decode cX4_begin 105 = .ok (.invokevirtual 99, 3) := by decide +kernel
theorem dX4_begin_108 : decode cX4_begin 108 = .ok (.aload_n 0, 1) := by decide +kernel
theorem dX4_begin_109 : decode cX4_begin 109 = .ok (.iload 6, 2) := by decide +kernel
theorem dX4_begin_111 : decode cX4_begin 111 = .ok (.invokevirtual 103, 3) := by decide +kernel
theorem dX4_begin_114 : decode cX4_begin 114 = .ok (.aload_n 0, 1) := by decide +kernel
theorem dX4_begin_115 : decode cX4_begin 115 = .ok (.iload 7, 2) := by decide +kernel
theorem dX4_begin_117 : decode cX4_begin 117 = .ok (.invokevirtual 103, 3) := by decide +kernel
theorem dX4_begin_120 : decode cX4_begin 120 = .ok (.aload_n 0, 1) := by decide +kernel
theorem dX4_begin_121 : decode cX4_begin 121 = .ok (.iload 8, 2) := by decide +kernel
theorem dX4_begin_123 : decode cX4_begin 123 = .ok (.invokevirtual 103, 3) := by decide +kernel
theorem dX4_begin_126 : decode cX4_begin 126 = .ok (.aload_n 0, 1) := by decide +kernel
theorem dX4_begin_127 : decode cX4_begin 127 = .ok (.iload 9, 2) := by decide +kernel
theorem dX4_begin_129 : decode cX4_begin 129 = .ok (.invokevirtual 103, 3) := by decide +kernel
theorem dX4_begin_132 : decode cX4_begin 132 = .ok (.aload_n 0, 1) := by decide +kernel
theorem dX4_begin_133 : decode cX4_begin 133 = .ok (.getfield 28, 3) := by decide +kernel
theorem dX4_begin_136 : decode cX4_begin 136 = .ok (.bipush 64, 2) := by decide +kernel
theorem dX4_begin_138 : decode cX4_begin 138 = .ok (.iconst 0, 1) := by decide +kernel
theorem dX4_begin_139 : decode cX4_begin 139 = .ok (.invokevirtual 75, 3) := by decide +kernel
theorem dX4_begin_142 : decode cX4_begin 142 = .ok (.aload_n 0, 1) := by decide +kernel
theorem dX4_begin_143 : decode cX4_begin 143 = .ok (.getfield 22, 3) := by decide +kernel
theorem dX4_begin_146 : decode cX4_begin 146 = .ok (.aload_n 0, 1) := by decide +kernel
theorem dX4_begin_147 : decode cX4_begin 147 = .ok (.getfield 28, 3) := by decide +kernel
theorem dX4_begin_150 : decode cX4_begin 150 = .ok (.getfield 79, 3) := by decide +kernel
theorem dX4_begin_153 : decode cX4_begin 153 = .ok (.invokevirtual 82, 3) := by decide +kernel
theorem dX4_begin_156 : decode cX4_begin 156 = .ok (.aload_n 0, 1) := by decide +kernel
theorem dX4_begin_157 : decode cX4_begin 157 = .ok (.invokevirtual 106, 3) := by decide +kernel
theorem dX4_begin_160 : decode cX4_begin 160 = .ok (.aload_n 0, 1) := by decide +kernel
theorem dX4_begin_161 : decode cX4_begin 161 = .ok (.getfield 35, 3) := by decide +kernel
theorem dX4_begin_164 : decode cX4_begin 164 = .ok (.invokevirtual 109, 3) := by decide +kernel
theorem dX4_begin_167 : decode cX4_begin 167 = .ok (.ireturn, 1) := by decide +kernel
theorem dX4_fill_0 : decode cX4_fill 0 = .ok (.iload_n 1, 1) := by decide +kernel
theorem dX4_fill_1 : decode cX4_fill 1 = .ok (.iconst 1, 1) := by decide +kernel
theorem dX4_fill_2 : decode cX4_fill 2 = .ok (.if_icmp .lt 9, 3) := by decide +kernel
theorem dX4_fill_5 : decode cX4_fill 5 = .ok (.iload_n 1, 1) := by decide +kernel
theorem dX4_fill_6 : decode cX4_fill 6 = .ok (.bipush 100, 2) := by decide +kernel
theorem dX4_fill_8 : decode cX4_fill 8 = .ok (.if_icmp .le 6, 3) := by decide +kernel
theorem dX4_fill_11 : decode cX4_fill 11 = .ok (.bipush (-2), 2) := by decide +kernel
theorem dX4_fill_13 : decode cX4_fill 13 = .ok (.ireturn, 1) := by decide +kernel
theorem dX4_fill_14 : decode cX4_fill 14 = .ok (.aload_n 0, 1) := by decide +kernel
theorem dX4_fill_15 : decode cX4_fill 15 = .ok (.getfield 35, 3) := by decide +kernel
theorem dX4_fill_18 : decode cX4_fill 18 = .ok (.invokevirtual 113, 3) := by decide +kernel
theorem dX4_fill_21 : decode cX4_fill 21 = .ok (.ifCond .ne 6, 3) := by decide +kernel
theorem dX4_fill_24 : decode cX4_fill 24 = .ok (.bipush (-3), 2) := by decide +kernel
theorem dX4_fill_26 : decode cX4_fill 26 = .ok (.ireturn, 1) := by decide +kernel
theorem dX4_fill_27 : decode cX4_fill 27 = .ok (.iload_n 1, 1) := by decide +kernel
theorem dX4_fill_28 : decode cX4_fill 28 = .ok (.aload_n 0, 1) := by decide +kernel
theorem dX4_fill_29 : decode cX4_fill 29 = .ok (.getfield 35, 3) := by decide +kernel
theorem dX4_fill_32 : decode cX4_fill 32 = .ok (.invokevirtual 117, 3) := by decide +kernel
theorem dX4_fill_35 : decode cX4_fill 35 = .ok (.aload_n 0, 1) := by decide +kernel
theorem dX4_fill_36 : decode cX4_fill 36 = .ok (.getfield 35, 3) := by decide +kernel
theorem dX4_fill_39 : decode cX4_fill 39 = .ok (.getfield 120, 3) := by decide +kernel
theorem dX4_fill_42 : decode cX4_fill 42 = .ok (.isub, 1) := by decide +kernel
theorem dX4_fill_43 : decode cX4_fill 43 = .ok (.invokestatic 123, 3) := by decide +kernel
theorem dX4_fill_46 : decode cX4_fill 46 = .ok (.istore_n 2, 1) := by decide +kernel
theorem dX4_fill_47 : decode cX4_fill 47 = .ok (.iconst 0, 1) := by decide +kernel
theorem dX4_fill_48 : decode cX4_fill 48 = .ok (.istore_n 3, 1) := by decide +kernel
theorem dX4_fill_49 : decode cX4_fill 49 = .ok (.iload_n 3, 1) := by decide +kernel
theorem dX4_fill_50 : decode cX4_fill 50 = .ok (.iload_n 2, 1) := by decide +kernel
theorem dX4_fill_51 : decode cX4_fill 51 = .ok (.if_icmp .ge 16, 3) := by decide +kernel
theorem dX4_fill_54 : decode cX4_fill 54 = .ok (.aload_n 0, 1) := by decide +kernel
theorem dX4_fill_55 : decode cX4_fill 55 = .ok (.getfield 35, 3) := by decide +kernel
theorem dX4_fill_58 : decode cX4_fill 58 = .ok (.invokevirtual 129, 3) := by decide +kernel
theorem dX4_fill_61 : decode cX4_fill 61 = .ok (.iinc 3 1, 3) := by decide +kernel
theorem dX4_fill_64 : decode cX4_fill 64 = .ok (.goto (-15), 3) := by decide +kernel
theorem dX4_fill_67 : decode cX4_fill 67 = .ok (.iload_n 2, 1) := by decide +kernel
theorem dX4_fill_68 : decode cX4_fill 68 = .ok (.ireturn, 1) := by decide +kernel
theorem dX4_word_0 : decode cX4_word 0 = .ok (.aload_n 0, 1) := by decide +kernel
theorem dX4_word_1 : decode cX4_word 1 = .ok (.getfield 35, 3) := by decide +kernel
theorem dX4_word_4 : decode cX4_word 4 = .ok (.iload_n 1, 1) := by decide +kernel
theorem dX4_word_5 : decode cX4_word 5 = .ok (.iload_n 2, 1) := by decide +kernel
theorem dX4_word_6 : decode cX4_word 6 = .ok (.invokevirtual 132, 3) := by decide +kernel
theorem dX4_word_9 : decode cX4_word 9 = .ok (.lreturn, 1) := by decide +kernel
theorem dX4_tag_0 : decode cX4_tag 0 = .ok (.iload_n 1, 1) := by decide +kernel
theorem dX4_tag_1 : decode cX4_tag 1 = .ok (.invokestatic 39, 3) := by decide +kernel
theorem dX4_tag_4 : decode cX4_tag 4 = .ok (.ifCond .ne 6, 3) := by decide +kernel
theorem dX4_tag_7 : decode cX4_tag 7 = .ok (.bipush (-2), 2) := by decide +kernel
theorem dX4_tag_9 : decode cX4_tag 9 = .ok (.ireturn, 1) := by decide +kernel
theorem dX4_tag_10 : decode cX4_tag 10 = .ok (.aload_n 0, 1) := by decide +kernel
theorem dX4_tag_11 : decode cX4_tag 11 = .ok (.getfield 35, 3) := by decide +kernel
theorem dX4_tag_14 : decode cX4_tag 14 = .ok (.invokevirtual 113, 3) := by decide +kernel
theorem dX4_tag_17 : decode cX4_tag 17 = .ok (.ifCond .eq 20, 3) := by decide +kernel
theorem dX4_tag_20 : decode cX4_tag 20 = .ok (.aload_n 0, 1) := by decide +kernel
theorem dX4_tag_21 : decode cX4_tag 21 = .ok (.getfield 35, 3) := by decide +kernel
theorem dX4_tag_24 : decode cX4_tag 24 = .ok (.getfield 120, 3) := by decide +kernel
theorem dX4_tag_27 : decode cX4_tag 27 = .ok (.aload_n 0, 1) := by decide +kernel
theorem dX4_tag_28 : decode cX4_tag 28 = .ok (.getfield 35, 3) := by decide +kernel
theorem dX4_tag_31 : decode cX4_tag 31 = .ok (.invokevirtual 117, 3) := by decide +kernel
theorem dX4_tag_34 : decode cX4_tag 34 = .ok (.if_icmp .ge 6, 3) := by decide +kernel
theorem dX4_tag_37 : decode cX4_tag 37 = .ok (.bipush (-3), 2) := by decide +kernel
theorem dX4_tag_39 : decode cX4_tag 39 = .ok (.ireturn, 1) := by decide +kernel
theorem dX4_tag_40 : decode cX4_tag 40 = .ok (.aload_n 0, 1) := by decide +kernel
theorem dX4_tag_41 : decode cX4_tag 41 = .ok (.getfield 28, 3) := by decide +kernel
theorem dX4_tag_44 : decode cX4_tag 44 = .ok (.aload_n 0, 1) := by decide +kernel
theorem dX4_tag_45 : decode cX4_tag 45 = .ok (.getfield 35, 3) := by decide +kernel
theorem dX4_tag_48 : decode cX4_tag 48 = .ok (.getfield 136, 3) := by decide +kernel
theorem dX4_tag_51 : decode cX4_tag 51 = .ok (.invokevirtual 85, 3) := by decide +kernel
theorem dX4_tag_54 : decode cX4_tag 54 = .ok (.aload_n 0, 1) := by decide +kernel
theorem dX4_tag_55 : decode cX4_tag 55 = .ok (.getfield 35, 3) := by decide +kernel
theorem dX4_tag_58 : decode cX4_tag 58 = .ok (.aload_n 0, 1) := by decide +kernel
theorem dX4_tag_59 : decode cX4_tag 59 = .ok (.getfield 28, 3) := by decide +kernel
theorem dX4_tag_62 : decode cX4_tag 62 = .ok (.getfield 69, 3) := by decide +kernel
theorem dX4_tag_65 : decode cX4_tag 65 = .ok (.invokevirtual 139, 3) := by decide +kernel
theorem dX4_tag_68 : decode cX4_tag 68 = .ok (.aload_n 0, 1) := by decide +kernel
theorem dX4_tag_69 : decode cX4_tag 69 = .ok (.getfield 28, 3) := by decide +kernel
theorem dX4_tag_72 : decode cX4_tag 72 = .ok (.aload_n 0, 1) := by decide +kernel
theorem dX4_tag_73 : decode cX4_tag 73 = .ok (.getfield 35, 3) := by decide +kernel
theorem dX4_tag_76 : decode cX4_tag 76 = .ok (.getfield 136, 3) := by decide +kernel
theorem dX4_tag_79 : decode cX4_tag 79 = .ok (.invokevirtual 88, 3) := by decide +kernel
theorem dX4_tag_82 : decode cX4_tag 82 = .ok (.aload_n 0, 1) := by decide +kernel
theorem dX4_tag_83 : decode cX4_tag 83 = .ok (.iload_n 1, 1) := by decide +kernel
theorem dX4_tag_84 : decode cX4_tag 84 = .ok (.invokevirtual 43, 3) := by decide +kernel
theorem dX4_tag_87 : decode cX4_tag 87 = .ok (.aload_n 0, 1) := by decide +kernel
theorem dX4_tag_88 : decode cX4_tag 88 = .ok (.getfield 28, 3) := by decide +kernel
theorem dX4_tag_91 : decode cX4_tag 91 = .ok (.getfield 79, 3) := by decide +kernel
theorem dX4_tag_94 : decode cX4_tag 94 = .ok (.invokevirtual 82, 3) := by decide +kernel
theorem dX4_tag_97 : decode cX4_tag 97 = .ok (.aload_n 0, 1) := by decide +kernel
theorem dX4_tag_98 : decode cX4_tag 98 = .ok (.getfield 35, 3) := by decide +kernel
theorem dX4_tag_101 : decode cX4_tag 101 = .ok (.getfield 136, 3) := by decide +kernel
theorem dX4_tag_104 : decode cX4_tag 104 = .ok (.ireturn, 1) := by decide +kernel
theorem dX4_told_0 : decode cX4_told 0 = .ok (.iload_n 1, 1) := by decide +kernel
theorem dX4_told_1 : decode cX4_told 1 = .ok (.tableswitch 99 0 6 #[43, 51, 59, 67, 75, 83, 91], 43) := by decide +kernel
theorem dX4_told_44 : decode cX4_told 44 = .ok (.aload_n 0, 1) := by decide +kernel
theorem dX4_told_45 : decode cX4_told 45 = .ok (.getfield 35, 3) := by decide +kernel
theorem dX4_told_48 : decode cX4_told 48 = .ok (.getfield 142, 3) := by decide +kernel
theorem dX4_told_51 : decode cX4_told 51 = .ok (.ireturn, 1) := by decide +kernel
theorem dX4_told_52 : decode cX4_told 52 = .ok (.aload_n 0, 1) := by decide +kernel
theorem dX4_told_53 : decode cX4_told 53 = .ok (.getfield 35, 3) := by decide +kernel
theorem dX4_told_56 : decode cX4_told 56 = .ok (.getfield 145, 3) := by decide +kernel
theorem dX4_told_59 : decode cX4_told 59 = .ok (.ireturn, 1) := by decide +kernel
theorem dX4_told_60 : decode cX4_told 60 = .ok (.aload_n 0, 1) := by decide +kernel
theorem dX4_told_61 : decode cX4_told 61 = .ok (.getfield 35, 3) := by decide +kernel
theorem dX4_told_64 : decode cX4_told 64 = .ok (.getfield 148, 3) := by decide +kernel
theorem dX4_told_67 : decode cX4_told 67 = .ok (.ireturn, 1) := by decide +kernel
theorem dX4_told_68 : decode cX4_told 68 = .ok (.aload_n 0, 1) := by decide +kernel
theorem dX4_told_69 : decode cX4_told 69 = .ok (.getfield 35, 3) := by decide +kernel
theorem dX4_told_72 : decode cX4_told 72 = .ok (.invokevirtual 109, 3) := by decide +kernel
theorem dX4_told_75 : decode cX4_told 75 = .ok (.ireturn, 1) := by decide +kernel
theorem dX4_told_76 : decode cX4_told 76 = .ok (.aload_n 0, 1) := by decide +kernel
theorem dX4_told_77 : decode cX4_told 77 = .ok (.getfield 35, 3) := by decide +kernel
theorem dX4_told_80 : decode cX4_told 80 = .ok (.getfield 120, 3) := by decide +kernel
theorem dX4_told_83 : decode cX4_told 83 = .ok (.ireturn, 1) := by decide +kernel
theorem dX4_told_84 : decode cX4_told 84 = .ok (.aload_n 0, 1) := by decide +kernel
theorem dX4_told_85 : decode cX4_told 85 = .ok (.getfield 35, 3) := by decide +kernel
theorem dX4_told_88 : decode cX4_told 88 = .ok (.invokevirtual 117, 3) := by decide +kernel
theorem dX4_told_91 : decode cX4_told 91 = .ok (.ireturn, 1) := by decide +kernel
theorem dX4_told_92 : decode cX4_told 92 = .ok (.aload_n 0, 1) := by decide +kernel
theorem dX4_told_93 : decode cX4_told 93 = .ok (.getfield 35, 3) := by decide +kernel
theorem dX4_told_96 : decode cX4_told 96 = .ok (.getfield 136, 3) := by decide +kernel
theorem dX4_told_99 : decode cX4_told 99 = .ok (.ireturn, 1) := by decide +kernel
theorem dX4_told_100 : decode cX4_told 100 = .ok (.bipush (-2), 2) := by decide +kernel
theorem dX4_told_102 : decode cX4_told 102 = .ok (.ireturn, 1) := by decide +kernel
theorem dX4_seal_0 : decode cX4_seal 0 = .ok (.iload_n 1, 1) := by decide +kernel
theorem dX4_seal_1 : decode cX4_seal 1 = .ok (.invokestatic 39, 3) := by decide +kernel
theorem dX4_seal_4 : decode cX4_seal 4 = .ok (.ifCond .ne 6, 3) := by decide +kernel
theorem dX4_seal_7 : decode cX4_seal 7 = .ok (.bipush (-2), 2) := by decide +kernel
theorem dX4_seal_9 : decode cX4_seal 9 = .ok (.ireturn, 1) := by decide +kernel
theorem dX4_seal_10 : decode cX4_seal 10 = .ok (.aload_n 0, 1) := by decide +kernel
theorem dX4_seal_11 : decode cX4_seal 11 = .ok (.iload_n 2, 1) := by decide +kernel
theorem dX4_seal_12 : decode cX4_seal 12 = .ok (.iload_n 3, 1) := by decide +kernel
theorem dX4_seal_13 : decode cX4_seal 13 = .ok (.iload 4, 2) := by decide +kernel
theorem dX4_seal_15 : decode cX4_seal 15 = .ok (.iload 5, 2) := by decide +kernel
theorem dX4_seal_17 : decode cX4_seal 17 = .ok (.iload 6, 2) := by decide +kernel
theorem dX4_seal_19 : decode cX4_seal 19 = .ok (.iload 7, 2) := by decide +kernel
theorem dX4_seal_21 : decode cX4_seal 21 = .ok (.iload 8, 2) := by decide +kernel
theorem dX4_seal_23 : decode cX4_seal 23 = .ok (.iconst (-1), 1) := by decide +kernel
theorem dX4_seal_24 : decode cX4_seal 24 = .ok (.iconst (-1), 1) := by decide +kernel
theorem dX4_seal_25 : decode cX4_seal 25 = .ok (.invokevirtual 151, 3) := by decide +kernel
theorem dX4_seal_28 : decode cX4_seal 28 = .ok (.istore 9, 2) := by decide +kernel
theorem dX4_seal_30 : decode cX4_seal 30 = .ok (.iload 9, 2) := by decide +kernel
theorem dX4_seal_32 : decode cX4_seal 32 = .ok (.bipush (-2), 2) := by decide +kernel
theorem dX4_seal_34 : decode cX4_seal 34 = .ok (.if_icmp .ne 6, 3) := by decide +kernel
theorem dX4_seal_37 : decode cX4_seal 37 = .ok (.bipush (-2), 2) := by decide +kernel
theorem dX4_seal_39 : decode cX4_seal 39 = .ok (.ireturn, 1) := by decide +kernel
theorem dX4_seal_40 : decode cX4_seal 40 = .ok (.aload_n 0, 1) := by decide +kernel
theorem dX4_seal_41 : decode cX4_seal 41 = .ok (.bipush 100, 2) := by decide +kernel
theorem dX4_seal_43 : decode cX4_seal 43 = .ok (.invokevirtual 155, 3) := by decide +kernel
theorem dX4_seal_46 : decode cX4_seal 46 = .ok (.pop, 1) := by decide +kernel
theorem dX4_seal_47 : decode cX4_seal 47 = .ok (.aload_n 0, 1) := by decide +kernel
theorem dX4_seal_48 : decode cX4_seal 48 = .ok (.iload_n 1, 1) := by decide +kernel
theorem dX4_seal_49 : decode cX4_seal 49 = .ok (.invokevirtual 158, 3) := by decide +kernel
theorem dX4_seal_52 : decode cX4_seal 52 = .ok (.ireturn, 1) := by decide +kernel
theorem dX4_isRegister_0 : decode cX4_isRegister 0 = .ok (.iload_n 0, 1) := by decide +kernel
theorem dX4_isRegister_1 : decode cX4_isRegister 1 = .ok (.ifCond .lt 13, 3) := by decide +kernel
theorem dX4_isRegister_4 : decode cX4_isRegister 4 = .ok (.iload_n 0, 1) := by decide +kernel
theorem dX4_isRegister_5 : decode cX4_isRegister 5 = .ok (.bipush 8, 2) := by decide +kernel
theorem dX4_isRegister_7 : decode cX4_isRegister 7 = .ok (.if_icmp .ge 7, 3) := by decide +kernel
theorem dX4_isRegister_10 : decode cX4_isRegister 10 = .ok (.iconst 1, 1) := by decide +kernel
theorem dX4_isRegister_11 : decode cX4_isRegister 11 = .ok (.goto 4, 3) := by decide +kernel
theorem dX4_isRegister_14 : decode cX4_isRegister 14 = .ok (.iconst 0, 1) := by decide +kernel
theorem dX4_isRegister_15 : decode cX4_isRegister 15 = .ok (.ireturn, 1) := by decide +kernel
theorem dX4_isRegisterOrNone_0 : decode cX4_isRegisterOrNone 0 = .ok (.iload_n 0, 1) := by decide +kernel
theorem dX4_isRegisterOrNone_1 : decode cX4_isRegisterOrNone 1 = .ok (.iconst (-1), 1) := by decide +kernel
theorem dX4_isRegisterOrNone_2 : decode cX4_isRegisterOrNone 2 = .ok (.if_icmp .eq 10, 3) := by decide +kernel
theorem dX4_isRegisterOrNone_5 : decode cX4_isRegisterOrNone 5 = .ok (.iload_n 0, 1) := by decide +kernel
theorem dX4_isRegisterOrNone_6 : decode cX4_isRegisterOrNone 6 = .ok (.invokestatic 39, 3) := by decide +kernel
theorem dX4_isRegisterOrNone_9 : decode cX4_isRegisterOrNone 9 = .ok (.ifCond .eq 7, 3) := by decide +kernel
theorem dX4_isRegisterOrNone_12 : decode cX4_isRegisterOrNone 12 = .ok (.iconst 1, 1) := by decide +kernel
theorem dX4_isRegisterOrNone_13 : decode cX4_isRegisterOrNone 13 = .ok (.goto 4, 3) := by decide +kernel
theorem dX4_isRegisterOrNone_16 : decode cX4_isRegisterOrNone 16 = .ok (.iconst 0, 1) := by decide +kernel
theorem dX4_isRegisterOrNone_17 : decode cX4_isRegisterOrNone 17 = .ok (.ireturn, 1) := by decide +kernel
theorem dX4_bytesOf_0 : decode cX4_bytesOf 0 = .ok (.iload_n 1, 1) := by decide +kernel
theorem dX4_bytesOf_1 : decode cX4_bytesOf 1 = .ok (.invokestatic 39, 3) := by decide +kernel
theorem dX4_bytesOf_4 : decode cX4_bytesOf 4 = .ok (.ifCond .eq 12, 3) := by decide +kernel
theorem dX4_bytesOf_7 : decode cX4_bytesOf 7 = .ok (.aload_n 0, 1) := by decide +kernel
theorem dX4_bytesOf_8 : decode cX4_bytesOf 8 = .ok (.getfield 11, 3) := by decide +kernel
theorem dX4_bytesOf_11 : decode cX4_bytesOf 11 = .ok (.iload_n 1, 1) := by decide +kernel
theorem dX4_bytesOf_12 : decode cX4_bytesOf 12 = .ok (.aaload, 1) := by decide +kernel
theorem dX4_bytesOf_13 : decode cX4_bytesOf 13 = .ok (.goto 7, 3) := by decide +kernel
theorem dX4_bytesOf_16 : decode cX4_bytesOf 16 = .ok (.aload_n 0, 1) := by decide +kernel
theorem dX4_bytesOf_17 : decode cX4_bytesOf 17 = .ok (.getfield 18, 3) := by decide +kernel
theorem dX4_bytesOf_20 : decode cX4_bytesOf 20 = .ok (.areturn, 1) := by decide +kernel
theorem dX4_putWithLength_0 : decode cX4_putWithLength 0 = .ok (.aload_n 0, 1) := by decide +kernel
theorem dX4_putWithLength_1 : decode cX4_putWithLength 1 = .ok (.iload_n 1, 1) := by decide +kernel
theorem dX4_putWithLength_2 : decode cX4_putWithLength 2 = .ok (.invokevirtual 43, 3) := by decide +kernel
theorem dX4_putWithLength_5 : decode cX4_putWithLength 5 = .ok (.astore_n 2, 1) := by decide +kernel
theorem dX4_putWithLength_6 : decode cX4_putWithLength 6 = .ok (.aload_n 0, 1) := by decide +kernel
theorem dX4_putWithLength_7 : decode cX4_putWithLength 7 = .ok (.getfield 28, 3) := by decide +kernel
theorem dX4_putWithLength_10 : decode cX4_putWithLength 10 = .ok (.getfield 69, 3) := by decide +kernel
theorem dX4_putWithLength_13 : decode cX4_putWithLength 13 = .ok (.aload_n 2, 1) := by decide +kernel
theorem dX4_putWithLength_14 : decode cX4_putWithLength 14 = .ok (.getfield 47, 3) := by decide +kernel
theorem dX4_putWithLength_17 : decode cX4_putWithLength 17 = .ok (.i2l, 1) := by decide +kernel
theorem dX4_putWithLength_18 : decode cX4_putWithLength 18 = .ok (.iconst 4, 1) := by decide +kernel
theorem dX4_putWithLength_19 : decode cX4_putWithLength 19 = .ok (.invokevirtual 51, 3) := by decide +kernel
theorem dX4_putWithLength_22 : decode cX4_putWithLength 22 = .ok (.aload_n 0, 1) := by decide +kernel
theorem dX4_putWithLength_23 : decode cX4_putWithLength 23 = .ok (.getfield 28, 3) := by decide +kernel
theorem dX4_putWithLength_26 : decode cX4_putWithLength 26 = .ok (.getfield 69, 3) := by decide +kernel
theorem dX4_putWithLength_29 : decode cX4_putWithLength 29 = .ok (.aload_n 2, 1) := by decide +kernel
theorem dX4_putWithLength_30 : decode cX4_putWithLength 30 = .ok (.invokevirtual 72, 3) := by decide +kernel
theorem dX4_putWithLength_33 : decode cX4_putWithLength 33 = .ok (.return_, 1) := by decide +kernel
theorem dX4_layFirstBlocks_0 : decode cX4_layFirstBlocks 0 = .ok (.iconst 0, 1) := by decide +kernel
theorem dX4_layFirstBlocks_1 : decode cX4_layFirstBlocks 1 = .ok (.istore_n 1, 1) := by decide +kernel
theorem dX4_layFirstBlocks_2 : decode cX4_layFirstBlocks 2 = .ok (.iload_n 1, 1) := by decide +kernel
theorem dX4_layFirstBlocks_3 : decode cX4_layFirstBlocks 3 = .ok (.aload_n 0, 1) := by decide +kernel
theorem dX4_layFirstBlocks_4 : decode cX4_layFirstBlocks 4 = .ok (.getfield 35, 3) := by decide +kernel
theorem dX4_layFirstBlocks_7 : decode cX4_layFirstBlocks 7 = .ok (.getfield 145, 3) := by decide +kernel
theorem dX4_layFirstBlocks_10 : decode cX4_layFirstBlocks 10 = .ok (.if_icmp .ge 98, 3) := by decide +kernel
theorem dX4_layFirstBlocks_13 : decode cX4_layFirstBlocks 13 = .ok (.iconst 0, 1) := by decide +kernel
theorem dX4_layFirstBlocks_14 : decode cX4_layFirstBlocks 14 = .ok (.istore_n 2, 1) := by decide +kernel
theorem dX4_layFirstBlocks_15 : decode cX4_layFirstBlocks 15 = .ok (.iload_n 2, 1) := by decide +kernel
theorem dX4_layFirstBlocks_16 : decode cX4_layFirstBlocks 16 = .ok (.iconst 2, 1) := by decide +kernel
theorem dX4_layFirstBlocks_17 : decode cX4_layFirstBlocks 17 = .ok (.if_icmp .ge 85, 3) := by decide +kernel
theorem dX4_layFirstBlocks_20 : decode cX4_layFirstBlocks 20 = .ok (.aload_n 0, 1) := by decide +kernel
theorem dX4_layFirstBlocks_21 : decode cX4_layFirstBlocks 21 = .ok (.getfield 28, 3) := by decide +kernel
theorem dX4_layFirstBlocks_24 : decode cX4_layFirstBlocks 24 = .ok (.sipush 1024, 3) := by decide +kernel
theorem dX4_layFirstBlocks_27 : decode cX4_layFirstBlocks 27 = .ok (.invokevirtual 85, 3) := by decide +kernel
theorem dX4_layFirstBlocks_30 : decode cX4_layFirstBlocks 30 = .ok (.aload_n 0, 1) := by decide +kernel
theorem dX4_layFirstBlocks_31 : decode cX4_layFirstBlocks 31 = .ok (.getfield 28, 3) := by decide +kernel
theorem dX4_layFirstBlocks_34 : decode cX4_layFirstBlocks 34 = .ok (.getfield 69, 3) := by decide +kernel
theorem dX4_layFirstBlocks_37 : decode cX4_layFirstBlocks 37 = .ok (.aload_n 0, 1) := by decide +kernel
theorem dX4_layFirstBlocks_38 : decode cX4_layFirstBlocks 38 = .ok (.getfield 22, 3) := by decide +kernel
theorem dX4_layFirstBlocks_41 : decode cX4_layFirstBlocks 41 = .ok (.invokevirtual 72, 3) := by decide +kernel
theorem dX4_layFirstBlocks_44 : decode cX4_layFirstBlocks 44 = .ok (.aload_n 0, 1) := by decide +kernel
theorem dX4_layFirstBlocks_45 : decode cX4_layFirstBlocks 45 = .ok (.getfield 28, 3) := by decide +kernel
theorem dX4_layFirstBlocks_48 : decode cX4_layFirstBlocks 48 = .ok (.getfield 69, 3) := by decide +kernel
theorem dX4_layFirstBlocks_51 : decode cX4_layFirstBlocks 51 = .ok (.iload_n 2, 1) := by decide +kernel
theorem dX4_layFirstBlocks_52 : decode cX4_layFirstBlocks 52 = .ok (.i2l, 1) := by decide +kernel
theorem dX4_layFirstBlocks_53 : decode cX4_layFirstBlocks 53 = .ok (.iconst 4, 1) := by decide +kernel
theorem dX4_layFirstBlocks_54 : decode cX4_layFirstBlocks 54 = .ok (.invokevirtual 51, 3) := by decide +kernel
theorem dX4_layFirstBlocks_57 : decode cX4_layFirstBlocks 57 = .ok (.aload_n 0, 1) := by decide +kernel
theorem dX4_layFirstBlocks_58 : decode cX4_layFirstBlocks 58 = .ok (.getfield 28, 3) := by decide +kernel
theorem dX4_layFirstBlocks_61 : decode cX4_layFirstBlocks 61 = .ok (.getfield 69, 3) := by decide +kernel
theorem dX4_layFirstBlocks_64 : decode cX4_layFirstBlocks 64 = .ok (.iload_n 1, 1) := by decide +kernel
theorem dX4_layFirstBlocks_65 : decode cX4_layFirstBlocks 65 = .ok (.i2l, 1) := by decide +kernel
theorem dX4_layFirstBlocks_66 : decode cX4_layFirstBlocks 66 = .ok (.iconst 4, 1) := by decide +kernel
theorem dX4_layFirstBlocks_67 : decode cX4_layFirstBlocks 67 = .ok (.invokevirtual 51, 3) := by decide +kernel
theorem dX4_layFirstBlocks_70 : decode cX4_layFirstBlocks 70 = .ok (.aload_n 0, 1) := by decide +kernel
theorem dX4_layFirstBlocks_71 : decode cX4_layFirstBlocks 71 = .ok (.getfield 28, 3) := by decide +kernel
theorem dX4_layFirstBlocks_74 : decode cX4_layFirstBlocks 74 = .ok (.sipush 1024, 3) := by decide +kernel
theorem dX4_layFirstBlocks_77 : decode cX4_layFirstBlocks 77 = .ok (.invokevirtual 88, 3) := by decide +kernel
theorem dX4_layFirstBlocks_80 : decode cX4_layFirstBlocks 80 = .ok (.aload_n 0, 1) := by decide +kernel
theorem dX4_layFirstBlocks_81 : decode cX4_layFirstBlocks 81 = .ok (.getfield 35, 3) := by decide +kernel
theorem dX4_layFirstBlocks_84 : decode cX4_layFirstBlocks 84 = .ok (.iload_n 1, 1) := by decide +kernel
theorem dX4_layFirstBlocks_85 : decode cX4_layFirstBlocks 85 = .ok (.iload_n 2, 1) := by decide +kernel
theorem dX4_layFirstBlocks_86 : decode cX4_layFirstBlocks 86 = .ok (.aload_n 0, 1) := by decide +kernel
theorem dX4_layFirstBlocks_87 : decode cX4_layFirstBlocks 87 = .ok (.getfield 28, 3) := by decide +kernel
theorem dX4_layFirstBlocks_90 : decode cX4_layFirstBlocks 90 = .ok (.getfield 79, 3) := by decide +kernel
theorem dX4_layFirstBlocks_93 : decode cX4_layFirstBlocks 93 = .ok (.invokevirtual 161, 3) := by decide +kernel
theorem dX4_layFirstBlocks_96 : decode cX4_layFirstBlocks 96 = .ok (.iinc 2 1, 3) := by decide +kernel
theorem dX4_layFirstBlocks_99 : decode cX4_layFirstBlocks 99 = .ok (.goto (-84), 3) := by decide +kernel
theorem dX4_layFirstBlocks_102 : decode cX4_layFirstBlocks 102 = .ok (.iinc 1 1, 3) := by decide +kernel
theorem dX4_layFirstBlocks_105 : decode cX4_layFirstBlocks 105 = .ok (.goto (-103), 3) := by decide +kernel
theorem dX4_layFirstBlocks_108 : decode cX4_layFirstBlocks 108 = .ok (.return_, 1) := by decide +kernel
theorem dX4_turnRight_0 : decode cX4_turnRight 0 = .ok (.lload_n 0, 1) := by decide +kernel
theorem dX4_turnRight_1 : decode cX4_turnRight 1 = .ok (.iload_n 2, 1) := by decide +kernel
theorem dX4_turnRight_2 : decode cX4_turnRight 2 = .ok (.lushr, 1) := by decide +kernel
theorem dX4_turnRight_3 : decode cX4_turnRight 3 = .ok (.lload_n 0, 1) := by decide +kernel
theorem dX4_turnRight_4 : decode cX4_turnRight 4 = .ok (.bipush 64, 2) := by decide +kernel
theorem dX4_turnRight_6 : decode cX4_turnRight 6 = .ok (.iload_n 2, 1) := by decide +kernel
theorem dX4_turnRight_7 : decode cX4_turnRight 7 = .ok (.isub, 1) := by decide +kernel
theorem dX4_turnRight_8 : decode cX4_turnRight 8 = .ok (.lshl, 1) := by decide +kernel
theorem dX4_turnRight_9 : decode cX4_turnRight 9 = .ok (.lor, 1) := by decide +kernel
theorem dX4_turnRight_10 : decode cX4_turnRight 10 = .ok (.lreturn, 1) := by decide +kernel
theorem dX5_init_0 : decode cX5_init 0 = .ok (.aload_n 0, 1) := by decide +kernel
theorem dX5_init_1 : decode cX5_init 1 = .ok (.invokespecial 1, 3) := by decide +kernel
theorem dX5_init_4 : decode cX5_init 4 = .ok (.aload_n 0, 1) := by decide +kernel
theorem dX5_init_5 : decode cX5_init 5 = .ok (.bipush 8, 2) := by decide +kernel
theorem dX5_init_7 : decode cX5_init 7 = .ok (.newarray .int, 2) := by decide +kernel
theorem dX5_init_9 : decode cX5_init 9 = .ok (.putfield 7, 3) := by decide +kernel
theorem dX5_init_12 : decode cX5_init 12 = .ok (.aload_n 0, 1) := by decide +kernel
theorem dX5_init_13 : decode cX5_init 13 = .ok (.sipush 1600, 3) := by decide +kernel
theorem dX5_init_16 : decode cX5_init 16 = .ok (.newarray .int, 2) := by decide +kernel
theorem dX5_init_18 : decode cX5_init 18 = .ok (.putfield 13, 3) := by decide +kernel
theorem dX5_init_21 : decode cX5_init 21 = .ok (.aload_n 0, 1) := by decide +kernel
theorem dX5_init_22 : decode cX5_init 22 = .ok (.bipush 64, 2) := by decide +kernel
theorem dX5_init_24 : decode cX5_init 24 = .ok (.newarray .int, 2) := by decide +kernel
theorem dX5_init_26 : decode cX5_init 26 = .ok (.putfield 16, 3) := by decide +kernel
theorem dX5_init_29 : decode cX5_init 29 = .ok (.aload_n 0, 1) := by decide +kernel
theorem dX5_init_30 : decode cX5_init 30 = .ok (.sipush 1400, 3) := by decide +kernel
theorem dX5_init_33 : decode cX5_init 33 = .ok (.newarray .int, 2) := by decide +kernel
theorem dX5_init_35 : decode cX5_init 35 = .ok (.putfield 19, 3) := by decide +kernel
theorem dX5_init_38 : decode cX5_init 38 = .ok (.aload_n 0, 1) := by decide +kernel
theorem dX5_init_39 : decode cX5_init 39 = .ok (.bipush 8, 2) := by decide +kernel
theorem dX5_init_41 : decode cX5_init 41 = .ok (.newarray .long, 2) := by decide +kernel
theorem dX5_init_43 : decode cX5_init 43 = .ok (.putfield 22, 3) := by decide +kernel
theorem dX5_init_46 : decode cX5_init 46 = .ok (.aload_n 0, 1) := by decide +kernel
theorem dX5_init_47 : decode cX5_init 47 = .ok (.bipush 16, 2) := by decide +kernel
theorem dX5_init_49 : decode cX5_init 49 = .ok (.newarray .long, 2) := by decide +kernel
theorem dX5_init_51 : decode cX5_init 51 = .ok (.putfield 26, 3) := by decide +kernel
theorem dX5_init_54 : decode cX5_init 54 = .ok (.aload_n 0, 1) := by decide +kernel
theorem dX5_init_55 : decode cX5_init 55 = .ok (.bipush 16, 2) := by decide +kernel
theorem dX5_init_57 : decode cX5_init 57 = .ok (.newarray .long, 2) := by decide +kernel
theorem dX5_init_59 : decode cX5_init 59 = .ok (.putfield 29, 3) := by decide +kernel
theorem dX5_init_62 : decode cX5_init 62 = .ok (.aload_n 0, 1) := by decide +kernel
theorem dX5_init_63 : decode cX5_init 63 = .ok (.sipush 1024, 3) := by decide +kernel
theorem dX5_init_66 : decode cX5_init 66 = .ok (.newarray .int, 2) := by decide +kernel
theorem dX5_init_68 : decode cX5_init 68 = .ok (.putfield 32, 3) := by decide +kernel
theorem dX5_init_71 : decode cX5_init 71 = .ok (.aload_n 0, 1) := by decide +kernel
theorem dX5_init_72 : decode cX5_init 72 = .ok (.sipush 16384, 3) := by decide +kernel
theorem dX5_init_75 : decode cX5_init 75 = .ok (.newarray .long, 2) := by decide +kernel
theorem dX5_init_77 : decode cX5_init 77 = .ok (.putfield 35, 3) := by decide +kernel
theorem dX5_init_80 : decode cX5_init 80 = .ok (.aload_n 0, 1) := by decide +kernel
theorem dX5_init_81 : decode cX5_init 81 = .ok (.sipush 128, 3) := by decide +kernel
theorem dX5_init_84 : decode cX5_init 84 = .ok (.newarray .long, 2) := by decide +kernel
theorem dX5_init_86 : decode cX5_init 86 = .ok (.putfield 38, 3) := by decide +kernel
theorem dX5_init_89 : decode cX5_init 89 = .ok (.aload_n 0, 1) := by decide +kernel
theorem dX5_init_90 : decode cX5_init 90 = .ok (.sipush 128, 3) := by decide +kernel
theorem dX5_init_93 : decode cX5_init 93 = .ok (.newarray .long, 2) := by decide +kernel
theorem dX5_init_95 : decode cX5_init 95 = .ok (.putfield 41, 3) := by decide +kernel
theorem dX5_init_98 : decode cX5_init 98 = .ok (.aload_n 0, 1) := by decide +kernel
theorem dX5_init_99 : decode cX5_init 99 = .ok (.sipush 128, 3) := by decide +kernel
theorem dX5_init_102 : decode cX5_init 102 = .ok (.newarray .long, 2) := by decide +kernel
theorem dX5_init_104 : decode cX5_init 104 = .ok (.putfield 44, 3) := by decide +kernel
theorem dX5_init_107 : decode cX5_init 107 = .ok (.aload_n 0, 1) := by decide +kernel
theorem dX5_init_108 : decode cX5_init 108 = .ok (.sipush 128, 3) := by decide +kernel
theorem dX5_init_111 : decode cX5_init 111 = .ok (.newarray .long, 2) := by decide +kernel
theorem dX5_init_113 : decode cX5_init 113 = .ok (.putfield 47, 3) := by decide +kernel
theorem dX5_init_116 : decode cX5_init 116 = .ok (.return_, 1) := by decide +kernel
theorem dX5_in_0 : decode cX5_in 0 = .ok (.iload_n 0, 1) := by decide +kernel
theorem dX5_in_1 : decode cX5_in 1 = .ok (.iload_n 1, 1) := by decide +kernel
theorem dX5_in_2 : decode cX5_in 2 = .ok (.if_icmp .lt 12, 3) := by decide +kernel
theorem dX5_in_5 : decode cX5_in 5 = .ok (.iload_n 0, 1) := by decide +kernel
theorem dX5_in_6 : decode cX5_in 6 = .ok (.iload_n 2, 1) := by decide +kernel
theorem dX5_in_7 : decode cX5_in 7 = .ok (.if_icmp .gt 7, 3) := by decide +kernel
theorem dX5_in_10 : decode cX5_in 10 = .ok (.iconst 1, 1) := by decide +kernel
theorem dX5_in_11 : decode cX5_in 11 = .ok (.goto 4, 3) := by decide +kernel
theorem dX5_in_14 : decode cX5_in 14 = .ok (.iconst 0, 1) := by decide +kernel
theorem dX5_in_15 : decode cX5_in 15 = .ok (.ireturn, 1) := by decide +kernel
theorem dX5_isRegister_0 : decode cX5_isRegister 0 = .ok (.iload_n 0, 1) := by decide +kernel
theorem dX5_isRegister_1 : decode cX5_isRegister 1 = .ok (.iconst 0, 1) := by decide +kernel
theorem dX5_isRegister_2 : decode cX5_isRegister 2 = .ok (.bipush 7, 2) := by decide +kernel
theorem dX5_isRegister_4 : decode cX5_isRegister 4 = .ok (.invokestatic 54, 3) := by decide +kernel
theorem dX5_isRegister_7 : decode cX5_isRegister 7 = .ok (.ireturn, 1) := by decide +kernel
end
section
theorem dX5_add_0 : decode cX5_add 0 = .ok (.aload_n 0, 1) := by decide +kernel
theorem dX5_add_1 : decode cX5_add 1 = .ok (.iconst 0, 1) := by decide +kernel
theorem dX5_add_2 : decode cX5_add 2 = .ok (.putfield 50, 3) := by decide +kernel
theorem dX5_add_5 : decode cX5_add 5 = .ok (.iload_n 1, 1) := by decide +kernel
theorem dX5_add_6 : decode cX5_add 6 = .ok (.invokestatic 58, 3) := by decide +kernel
theorem dX5_add_9 : decode cX5_add 9 = .ok (.ifCond .eq 13, 3) := by decide +kernel
theorem dX5_add_12 : decode cX5_add 12 = .ok (.iload_n 2, 1) := by decide +kernel
theorem dX5_add_13 : decode cX5_add 13 = .ok (.iconst 1, 1) := by decide +kernel
theorem dX5_add_14 : decode cX5_add 14 = .ok (.bipush 8, 2) := by decide +kernel
theorem dX5_add_16 : decode cX5_add 16 = .ok (.invokestatic 54, 3) := by decide +kernel
theorem dX5_add_19 : decode cX5_add 19 = .ok (.ifCond .ne 6, 3) := by decide +kernel
theorem dX5_add_22 : decode cX5_add 22 = .ok (.bipush (-2), 2) := by decide +kernel
theorem dX5_add_24 : decode cX5_add 24 = .ok (.ireturn, 1) := by decide +kernel
theorem dX5_add_25 : decode cX5_add 25 = .ok (.aload_n 0, 1) := by decide +kernel
theorem dX5_add_26 : decode cX5_add 26 = .ok (.getfield 7, 3) := by decide +kernel
theorem dX5_add_29 : decode cX5_add 29 = .ok (.iload_n 1, 1) := by decide +kernel
theorem dX5_add_30 : decode cX5_add 30 = .ok (.iaload, 1) := by decide +kernel
theorem dX5_add_31 : decode cX5_add 31 = .ok (.iload_n 2, 1) := by decide +kernel
theorem dX5_add_32 : decode cX5_add 32 = .ok (.iadd, 1) := by decide +kernel
theorem dX5_add_33 : decode cX5_add 33 = .ok (.sipush 200, 3) := by decide +kernel
theorem dX5_add_36 : decode cX5_add 36 = .ok (.if_icmp .le 6, 3) := by decide +kernel
theorem dX5_add_39 : decode cX5_add 39 = .ok (.bipush (-3), 2) := by decide +kernel
theorem dX5_add_41 : decode cX5_add 41 = .ok (.ireturn, 1) := by decide +kernel
theorem dX5_add_42 : decode cX5_add 42 = .ok (.iconst 0, 1) := by decide +kernel
theorem dX5_add_43 : decode cX5_add 43 = .ok (.istore 5, 2) := by decide +kernel
theorem dX5_add_45 : decode cX5_add 45 = .ok (.iload 5, 2) := by decide +kernel
theorem dX5_add_47 : decode cX5_add 47 = .ok (.iload_n 2, 1) := by decide +kernel
theorem dX5_add_48 : decode cX5_add 48 = .ok (.if_icmp .ge 48, 3) := by decide +kernel
theorem dX5_add_51 : decode cX5_add 51 = .ok (.aload_n 0, 1) := by decide +kernel
theorem dX5_add_52 : decode cX5_add 52 = .ok (.getfield 13, 3) := by decide +kernel
theorem dX5_add_55 : decode cX5_add 55 = .ok (.sipush 200, 3) := by decide +kernel
theorem dX5_add_58 : decode cX5_add 58 = .ok (.iload_n 1, 1) := by decide +kernel
theorem dX5_add_59 : decode cX5_add 59 = .ok (.imul, 1) := by decide +kernel
theorem dX5_add_60 : decode cX5_add 60 = .ok (.aload_n 0, 1) := by decide +kernel
theorem dX5_add_61 : decode cX5_add 61 = .ok (.getfield 7, 3) := by decide +kernel
theorem dX5_add_64 : decode cX5_add 64 = .ok (.iload_n 1, 1) := by decide +kernel
theorem dX5_add_65 : decode cX5_add 65 = .ok (.iaload, 1) := by decide +kernel
theorem dX5_add_66 : decode cX5_add 66 = .ok (.iadd, 1) := by decide +kernel
theorem dX5_add_67 : decode cX5_add 67 = .ok (.lload_n 3, 1) := by decide +kernel
theorem dX5_add_68 : decode cX5_add 68 = .ok (.bipush 8, 2) := by decide +kernel
theorem dX5_add_70 : decode cX5_add 70 = .ok (.iload 5, 2) := by decide +kernel
theorem dX5_add_72 : decode cX5_add 72 = .ok (.imul, 1) := by decide +kernel
theorem dX5_add_73 : decode cX5_add 73 = .ok (.lshr, 1) := by decide +kernel
theorem dX5_add_74 : decode cX5_add 74 = .ok (.ldc2_w 62, 3) := by decide +kernel
theorem dX5_add_77 : decode cX5_add 77 = .ok (.land, 1) := by decide +kernel
theorem dX5_add_78 : decode cX5_add 78 = .ok (.l2i, 1) := by decide +kernel
theorem dX5_add_79 : decode cX5_add 79 = .ok (.iastore, 1) := by decide +kernel
theorem dX5_add_80 : decode cX5_add 80 = .ok (.aload_n 0, 1) := by decide +kernel
theorem dX5_add_81 : decode cX5_add 81 = .ok (.getfield 7, 3) := by decide +kernel
theorem dX5_add_84 : decode cX5_add 84 = .ok (.iload_n 1, 1) := by decide +kernel
theorem dX5_add_85 : decode cX5_add 85 = .ok (.dup2, 1) := by decide +kernel
theorem dX5_add_86 : decode cX5_add 86 = .ok (.iaload, 1) := by decide +kernel
theorem dX5_add_87 : decode cX5_add 87 = .ok (.iconst 1, 1) := by decide +kernel
theorem dX5_add_88 : decode cX5_add 88 = .ok (.iadd, 1) := by decide +kernel
theorem dX5_add_89 : decode cX5_add 89 = .ok (.iastore, 1) := by decide +kernel
theorem dX5_add_90 : decode cX5_add 90 = .ok (.iinc 5 1, 3) := by decide +kernel
theorem dX5_add_93 : decode cX5_add 93 = .ok (.goto (-48), 3) := by decide +kernel
theorem dX5_add_96 : decode cX5_add 96 = .ok (.aload_n 0, 1) := by decide +kernel
theorem dX5_add_97 : decode cX5_add 97 = .ok (.getfield 7, 3) := by decide +kernel
theorem dX5_add_100 : decode cX5_add 100 = .ok (.iload_n 1, 1) := by decide +kernel
theorem dX5_add_101 : decode cX5_add 101 = .ok (.iaload, 1) := by decide +kernel
theorem dX5_add_102 : decode cX5_add 102 = .ok (.ireturn, 1) := by decide +kernel
theorem dX5_clear_0 : decode cX5_clear 0 = .ok (.aload_n 0, 1) := by decide +kernel
theorem dX5_clear_1 : decode cX5_clear 1 = .ok (.iconst 0, 1) := by decide +kernel
theorem dX5_clear_2 : decode cX5_clear 2 = .ok (.putfield 50, 3) := by decide +kernel
theorem dX5_clear_5 : decode cX5_clear 5 = .ok (.iload_n 1, 1) := by decide +kernel
theorem dX5_clear_6 : decode cX5_clear 6 = .ok (.invokestatic 58, 3) := by decide +kernel
theorem dX5_clear_9 : decode cX5_clear 9 = .ok (.ifCond .ne 6, 3) := by decide +kernel
theorem dX5_clear_12 : decode cX5_clear 12 = .ok (.bipush (-2), 2) := by decide +kernel
theorem dX5_clear_14 : decode cX5_clear 14 = .ok (.ireturn, 1) := by decide +kernel
theorem dX5_clear_15 : decode cX5_clear 15 = .ok (.aload_n 0, 1) := by decide +kernel
theorem dX5_clear_16 : decode cX5_clear 16 = .ok (.getfield 7, 3) := by decide +kernel
theorem dX5_clear_19 : decode cX5_clear 19 = .ok (.iload_n 1, 1) := by decide +kernel
theorem dX5_clear_20 : decode cX5_clear 20 = .ok (.iaload, 1) := by decide +kernel
theorem dX5_clear_21 : decode cX5_clear 21 = .ok (.istore_n 2, 1) := by decide +kernel
theorem dX5_clear_22 : decode cX5_clear 22 = .ok (.aload_n 0, 1) := by decide +kernel
theorem dX5_clear_23 : decode cX5_clear 23 = .ok (.getfield 7, 3) := by decide +kernel
theorem dX5_clear_26 : decode cX5_clear 26 = .ok (.iload_n 1, 1) := by decide +kernel
theorem dX5_clear_27 : decode cX5_clear 27 = .ok (.iconst 0, 1) := by decide +kernel
theorem dX5_clear_28 : decode cX5_clear 28 = .ok (.iastore, 1) := by decide +kernel
theorem dX5_clear_29 : decode cX5_clear 29 = .ok (.iload_n 2, 1) := by decide +kernel
theorem dX5_clear_30 : decode cX5_clear 30 = .ok (.ireturn, 1) := by decide +kernel
theorem dX5_size_0 : decode cX5_size 0 = .ok (.aload_n 0, 1) := by decide +kernel
theorem dX5_size_1 : decode cX5_size 1 = .ok (.iconst 0, 1) := by decide +kernel
theorem dX5_size_2 : decode cX5_size 2 = .ok (.putfield 50, 3) := by decide +kernel
theorem dX5_size_5 : decode cX5_size 5 = .ok (.iload_n 1, 1) := by decide +kernel
theorem dX5_size_6 : decode cX5_size 6 = .ok (.invokestatic 58, 3) := by decide +kernel
theorem dX5_size_9 : decode cX5_size 9 = .ok (.ifCond .eq 12, 3) := by decide +kernel
theorem dX5_size_12 : decode cX5_size 12 = .ok (.aload_n 0, 1) := by decide +kernel
theorem dX5_size_13 : decode cX5_size 13 = .ok (.getfield 7, 3) := by decide +kernel
theorem dX5_size_16 : decode cX5_size 16 = .ok (.iload_n 1, 1) := by decide +kernel
theorem dX5_size_17 : decode cX5_size 17 = .ok (.iaload, 1) := by decide +kernel
theorem dX5_size_18 : decode cX5_size 18 = .ok (.goto 5, 3) := by decide +kernel
theorem dX5_size_21 : decode cX5_size 21 = .ok (.bipush (-2), 2) := by decide +kernel
theorem dX5_size_23 : decode cX5_size 23 = .ok (.ireturn, 1) := by decide +kernel
theorem dX5_at_0 : decode cX5_at 0 = .ok (.aload_n 0, 1) := by decide +kernel
theorem dX5_at_1 : decode cX5_at 1 = .ok (.iconst 0, 1) := by decide +kernel
theorem dX5_at_2 : decode cX5_at 2 = .ok (.putfield 50, 3) := by decide +kernel
theorem dX5_at_5 : decode cX5_at 5 = .ok (.iload_n 1, 1) := by decide +kernel
theorem dX5_at_6 : decode cX5_at 6 = .ok (.invokestatic 58, 3) := by decide +kernel
theorem dX5_at_9 : decode cX5_at 9 = .ok (.ifCond .ne 8, 3) := by decide +kernel
theorem dX5_at_12 : decode cX5_at 12 = .ok (.bipush (-2), 2) := by decide +kernel
theorem dX5_at_14 : decode cX5_at 14 = .ok (.goto 35, 3) := by decide +kernel
theorem dX5_at_17 : decode cX5_at 17 = .ok (.iload_n 2, 1) := by decide +kernel
theorem dX5_at_18 : decode cX5_at 18 = .ok (.iconst 0, 1) := by decide +kernel
theorem dX5_at_19 : decode cX5_at 19 = .ok (.aload_n 0, 1) := by decide +kernel
theorem dX5_at_20 : decode cX5_at 20 = .ok (.getfield 7, 3) := by decide +kernel
theorem dX5_at_23 : decode cX5_at 23 = .ok (.iload_n 1, 1) := by decide +kernel
theorem dX5_at_24 : decode cX5_at 24 = .ok (.iaload, 1) := by decide +kernel
theorem dX5_at_25 : decode cX5_at 25 = .ok (.iconst 1, 1) := by decide +kernel
theorem dX5_at_26 : decode cX5_at 26 = .ok (.isub, 1) := by decide +kernel
theorem dX5_at_27 : decode cX5_at 27 = .ok (.invokestatic 54, 3) := by decide +kernel
theorem dX5_at_30 : decode cX5_at 30 = .ok (.ifCond .eq 18, 3) := by decide +kernel
theorem dX5_at_33 : decode cX5_at 33 = .ok (.aload_n 0, 1) := by decide +kernel
theorem dX5_at_34 : decode cX5_at 34 = .ok (.getfield 13, 3) := by decide +kernel
theorem dX5_at_37 : decode cX5_at 37 = .ok (.sipush 200, 3) := by decide +kernel
theorem dX5_at_40 : decode cX5_at 40 = .ok (.iload_n 1, 1) := by decide +kernel
theorem dX5_at_41 : decode cX5_at 41 = .ok (.imul, 1) := by decide +kernel
theorem dX5_at_42 : decode cX5_at 42 = .ok (.iload_n 2, 1) := by decide +kernel
theorem dX5_at_43 : decode cX5_at 43 = .ok (.iadd, 1) := by decide +kernel
theorem dX5_at_44 : decode cX5_at 44 = .ok (.iaload, 1) := by decide +kernel
theorem dX5_at_45 : decode cX5_at 45 = .ok (.goto 4, 3) := by decide +kernel
theorem dX5_at_48 : decode cX5_at 48 = .ok (.iconst (-1), 1) := by decide +kernel
theorem dX5_at_49 : decode cX5_at 49 = .ok (.ireturn, 1) := by decide +kernel
theorem dX5_give_0 : decode cX5_give 0 = .ok (.iconst 0, 1) := by decide +kernel
theorem dX5_give_1 : decode cX5_give 1 = .ok (.istore_n 3, 1) := by decide +kernel
theorem dX5_give_2 : decode cX5_give 2 = .ok (.iload_n 3, 1) := by decide +kernel
theorem dX5_give_3 : decode cX5_give 3 = .ok (.iload_n 2, 1) := by decide +kernel
theorem dX5_give_4 : decode cX5_give 4 = .ok (.if_icmp .ge 27, 3) := by decide +kernel
theorem dX5_give_7 : decode cX5_give 7 = .ok (.aload_n 0, 1) := by decide +kernel
theorem dX5_give_8 : decode cX5_give 8 = .ok (.getfield 13, 3) := by decide +kernel
theorem dX5_give_11 : decode cX5_give 11 = .ok (.sipush 200, 3) := by decide +kernel
theorem dX5_give_14 : decode cX5_give 14 = .ok (.iload_n 1, 1) := by decide +kernel
theorem dX5_give_15 : decode cX5_give 15 = .ok (.imul, 1) := by decide +kernel
theorem dX5_give_16 : decode cX5_give 16 = .ok (.iload_n 3, 1) := by decide +kernel
theorem dX5_give_17 : decode cX5_give 17 = .ok (.iadd, 1) := by decide +kernel
theorem dX5_give_18 : decode cX5_give 18 = .ok (.aload_n 0, 1) := by decide +kernel
theorem dX5_give_19 : decode cX5_give 19 = .ok (.getfield 32, 3) := by decide +kernel
theorem dX5_give_22 : decode cX5_give 22 = .ok (.iload_n 3, 1) := by decide +kernel
theorem dX5_give_23 : decode cX5_give 23 = .ok (.iaload, 1) := by decide +kernel
theorem dX5_give_24 : decode cX5_give 24 = .ok (.iastore, 1) := by decide +kernel
theorem dX5_give_25 : decode cX5_give 25 = .ok (.iinc 3 1, 3) := by decide +kernel
theorem dX5_give_28 : decode cX5_give 28 = .ok (.goto (-26), 3) := by decide +kernel
theorem dX5_give_31 : decode cX5_give 31 = .ok (.aload_n 0, 1) := by decide +kernel
theorem dX5_give_32 : decode cX5_give 32 = .ok (.getfield 7, 3) := by decide +kernel
theorem dX5_give_35 : decode cX5_give 35 = .ok (.iload_n 1, 1) := by decide +kernel
theorem dX5_give_36 : decode cX5_give 36 = .ok (.iload_n 2, 1) := by decide +kernel
theorem dX5_give_37 : decode cX5_give 37 = .ok (.iastore, 1) := by decide +kernel
theorem dX5_give_38 : decode cX5_give 38 = .ok (.return_, 1) := by decide +kernel
theorem dX5_start_0 : decode cX5_start 0 = .ok (.iload_n 0, 1) := by decide +kernel
theorem dX5_start_1 : decode cX5_start 1 = .ok (.ifCond .ne 9, 3) := by decide +kernel
theorem dX5_start_4 : decode cX5_start 4 = .ok (.ldc2_w 64, 3) := by decide +kernel
theorem dX5_start_7 : decode cX5_start 7 = .ok (.goto 73, 3) := by decide +kernel
theorem dX5_start_10 : decode cX5_start 10 = .ok (.iload_n 0, 1) := by decide +kernel
theorem dX5_start_11 : decode cX5_start 11 = .ok (.iconst 1, 1) := by decide +kernel
theorem dX5_start_12 : decode cX5_start 12 = .ok (.if_icmp .ne 9, 3) := by decide +kernel
theorem dX5_start_15 : decode cX5_start 15 = .ok (.ldc2_w 66, 3) := by decide +kernel
theorem dX5_start_18 : decode cX5_start 18 = .ok (.goto 62, 3) := by decide +kernel
theorem dX5_start_21 : decode cX5_start 21 = .ok (.iload_n 0, 1) := by decide +kernel
theorem dX5_start_22 : decode cX5_start 22 = .ok (.iconst 2, 1) := by decide +kernel
theorem dX5_start_23 : decode cX5_start 23 = .ok (.if_icmp .ne 9, 3) := by decide +kernel
theorem dX5_start_26 : decode cX5_start 26 = .ok (.ldc2_w 68, 3) := by decide +kernel
theorem dX5_start_29 : decode cX5_start 29 = .ok (.goto 51, 3) := by decide +kernel
theorem dX5_start_32 : decode cX5_start 32 = .ok (.iload_n 0, 1) := by decide +kernel
theorem dX5_start_33 : decode cX5_start 33 = .ok (.iconst 3, 1) := by decide +kernel
theorem dX5_start_34 : decode cX5_start 34 = .ok (.if_icmp .ne 9, 3) := by decide +kernel
theorem dX5_start_37 : decode cX5_start 37 = .ok (.ldc2_w 70, 3) := by decide +kernel
theorem dX5_start_40 : decode cX5_start 40 = .ok (.goto 40, 3) := by decide +kernel
theorem dX5_start_43 : decode cX5_start 43 = .ok (.iload_n 0, 1) := by decide +kernel
theorem dX5_start_44 : decode cX5_start 44 = .ok (.iconst 4, 1) := by decide +kernel
theorem dX5_start_45 : decode cX5_start 45 = .ok (.if_icmp .ne 9, 3) := by decide +kernel
theorem dX5_start_48 : decode cX5_start 48 = .ok (.ldc2_w 72, 3) := by decide +kernel
theorem dX5_start_51 : decode cX5_start 51 = .ok (.goto 29, 3) := by decide +kernel
theorem dX5_start_54 : decode cX5_start 54 = .ok (.iload_n 0, 1) := by decide +kernel
theorem dX5_start_55 : decode cX5_start 55 = .ok (.iconst 5, 1) := by decide +kernel
theorem dX5_start_56 : decode cX5_start 56 = .ok (.if_icmp .ne 9, 3) := by decide +kernel
theorem dX5_start_59 : decode cX5_start 59 = .ok (.ldc2_w 74, 3) := by decide +kernel
theorem dX5_start_62 : decode cX5_start 62 = .ok (.goto 18, 3) := by decide +kernel
theorem dX5_start_65 : decode cX5_start 65 = .ok (.iload_n 0, 1) := by decide +kernel
theorem dX5_start_66 : decode cX5_start 66 = .ok (.bipush 6, 2) := by decide +kernel
theorem dX5_start_68 : decode cX5_start 68 = .ok (.if_icmp .ne 9, 3) := by decide +kernel
theorem dX5_start_71 : decode cX5_start 71 = .ok (.ldc2_w 76, 3) := by decide +kernel
theorem dX5_start_74 : decode cX5_start 74 = .ok (.goto 6, 3) := by decide +kernel
theorem dX5_start_77 : decode cX5_start 77 = .ok (.ldc2_w 78, 3) := by decide +kernel
theorem dX5_start_80 : decode cX5_start 80 = .ok (.lreturn, 1) := by decide +kernel
theorem dX5_order_0 : decode cX5_order 0 = .ok (.iload_n 0, 1) := by decide +kernel
theorem dX5_order_1 : decode cX5_order 1 = .ok (.bipush 10, 2) := by decide +kernel
theorem dX5_order_3 : decode cX5_order 3 = .ok (.irem, 1) := by decide +kernel
theorem dX5_order_4 : decode cX5_order 4 = .ok (.tableswitch 88 0 8 #[52, 56, 60, 64, 68, 72, 76, 80, 84], 52) := by decide +kernel
theorem dX5_order_56 : decode cX5_order 56 = .ok (.ldc2_w 80, 3) := by decide +kernel
theorem dX5_order_59 : decode cX5_order 59 = .ok (.lreturn, 1) := by decide +kernel
theorem dX5_order_60 : decode cX5_order 60 = .ok (.ldc2_w 82, 3) := by decide +kernel
theorem dX5_order_63 : decode cX5_order 63 = .ok (.lreturn, 1) := by decide +kernel
theorem dX5_order_64 : decode cX5_order 64 = .ok (.ldc2_w 84, 3) := by decide +kernel
theorem dX5_order_67 : decode cX5_order 67 = .ok (.lreturn, 1) := by decide +kernel
theorem dX5_order_68 : decode cX5_order 68 = .ok (.ldc2_w 86, 3) := by decide +kernel
theorem dX5_order_71 : decode cX5_order 71 = .ok (.lreturn, 1) := by decide +kernel
theorem dX5_order_72 : decode cX5_order 72 = .ok (.ldc2_w 88, 3) := by decide +kernel
theorem dX5_order_75 : decode cX5_order 75 = .ok (.lreturn, 1) := by decide +kernel
theorem dX5_order_76 : decode cX5_order 76 = .ok (.ldc2_w 90, 3) := by decide +kernel
theorem dX5_order_79 : decode cX5_order 79 = .ok (.lreturn, 1) := by decide +kernel
theorem dX5_order_80 : decode cX5_order 80 = .ok (.ldc2_w 92, 3) := by decide +kernel
theorem dX5_order_83 : decode cX5_order 83 = .ok (.lreturn, 1) := by decide +kernel
theorem dX5_order_84 : decode cX5_order 84 = .ok (.ldc2_w 94, 3) := by decide +kernel
theorem dX5_order_87 : decode cX5_order 87 = .ok (.lreturn, 1) := by decide +kernel
theorem dX5_order_88 : decode cX5_order 88 = .ok (.ldc2_w 96, 3) := by decide +kernel
theorem dX5_order_91 : decode cX5_order 91 = .ok (.lreturn, 1) := by decide +kernel
theorem dX5_order_92 : decode cX5_order 92 = .ok (.ldc2_w 98, 3) := by decide +kernel
theorem dX5_order_95 : decode cX5_order 95 = .ok (.lreturn, 1) := by decide +kernel
theorem dX5_turned_0 : decode cX5_turned 0 = .ok (.lload_n 0, 1) := by decide +kernel
theorem dX5_turned_1 : decode cX5_turned 1 = .ok (.iload_n 2, 1) := by decide +kernel
theorem dX5_turned_2 : decode cX5_turned 2 = .ok (.lushr, 1) := by decide +kernel
theorem dX5_turned_3 : decode cX5_turned 3 = .ok (.lload_n 0, 1) := by decide +kernel
theorem dX5_turned_4 : decode cX5_turned 4 = .ok (.bipush 64, 2) := by decide +kernel
theorem dX5_turned_6 : decode cX5_turned 6 = .ok (.iload_n 2, 1) := by decide +kernel
theorem dX5_turned_7 : decode cX5_turned 7 = .ok (.isub, 1) := by decide +kernel
theorem dX5_turned_8 : decode cX5_turned 8 = .ok (.lshl, 1) := by decide +kernel
theorem dX5_turned_9 : decode cX5_turned 9 = .ok (.lor, 1) := by decide +kernel
theorem dX5_turned_10 : decode cX5_turned 10 = .ok (.lreturn, 1) := by decide +kernel
theorem dX5_mix_0 : decode cX5_mix 0 = .ok (.aload_n 0, 1) := by decide +kernel
theorem dX5_mix_1 : decode cX5_mix 1 = .ok (.getfield 26, 3) := by decide +kernel
theorem dX5_mix_4 : decode cX5_mix 4 = .ok (.iload_n 1, 1) := by decide +kernel
theorem dX5_mix_5 : decode cX5_mix 5 = .ok (.dup2, 1) := by decide +kernel
theorem dX5_mix_6 : decode cX5_mix 6 = .ok (.laload, 1) := by decide +kernel
theorem dX5_mix_7 : decode cX5_mix 7 = .ok (.aload_n 0, 1) := by decide +kernel
theorem dX5_mix_8 : decode cX5_mix 8 = .ok (.getfield 26, 3) := by decide +kernel
theorem dX5_mix_11 : decode cX5_mix 11 = .ok (.iload_n 2, 1) := by decide +kernel
theorem dX5_mix_12 : decode cX5_mix 12 = .ok (.laload, 1) := by decide +kernel
theorem dX5_mix_13 : decode cX5_mix 13 = .ok (.lload 5, 2) := by decide +kernel
theorem dX5_mix_15 : decode cX5_mix 15 = .ok (.ladd, 1) := by decide +kernel
theorem dX5_mix_16 : decode cX5_mix 16 = .ok (.ladd, 1) := by decide +kernel
theorem dX5_mix_17 : decode cX5_mix 17 = .ok (.lastore, 1) := by decide +kernel
theorem dX5_mix_18 : decode cX5_mix 18 = .ok (.aload_n 0, 1) := by decide +kernel
theorem dX5_mix_19 : decode cX5_mix 19 = .ok (.getfield 26, 3) := by decide +kernel
theorem dX5_mix_22 : decode cX5_mix 22 = .ok (.iload 4, 2) := by decide +kernel
theorem dX5_mix_24 : decode cX5_mix 24 = .ok (.aload_n 0, 1) := by decide +kernel
theorem dX5_mix_25 : decode cX5_mix 25 = .ok (.getfield 26, 3) := by decide +kernel
theorem dX5_mix_28 : decode cX5_mix 28 = .ok (.iload 4, 2) := by decide +kernel
theorem dX5_mix_30 : decode cX5_mix 30 = .ok (.laload, 1) := by decide +kernel
theorem dX5_mix_31 : decode cX5_mix 31 = .ok (.aload_n 0, 1) := by decide +kernel
theorem dX5_mix_32 : decode cX5_mix 32 = .ok (.getfield 26, 3) := by decide +kernel
theorem dX5_mix_35 : decode cX5_mix 35 = .ok (.iload_n 1, 1) := by decide +kernel
theorem dX5_mix_36 : decode cX5_mix 36 = .ok (.laload, 1) := by decide +kernel
theorem dX5_mix_37 : decode cX5_mix 37 = .ok (.lxor, 1) := by decide +kernel
theorem dX5_mix_38 : decode cX5_mix 38 = .ok (.bipush 32, 2) := by decide +kernel
theorem dX5_mix_40 : decode cX5_mix 40 = .ok (.invokestatic 100, 3) := by decide +kernel
theorem dX5_mix_43 : decode cX5_mix 43 = .ok (.lastore, 1) := by decide +kernel
theorem dX5_mix_44 : decode cX5_mix 44 = .ok (.aload_n 0, 1) := by decide +kernel
theorem dX5_mix_45 : decode cX5_mix 45 = .ok (.getfield 26, 3) := by decide +kernel
theorem dX5_mix_48 : decode cX5_mix 48 = .ok (.iload_n 3, 1) := by decide +kernel
theorem dX5_mix_49 : decode cX5_mix 49 = .ok (.dup2, 1) := by decide +kernel
theorem dX5_mix_50 : decode cX5_mix 50 = .ok (.laload, 1) := by decide +kernel
theorem dX5_mix_51 : decode cX5_mix 51 = .ok (.aload_n 0, 1) := by decide +kernel
theorem dX5_mix_52 : decode cX5_mix 52 = .ok (.getfield 26, 3) := by decide +kernel
theorem dX5_mix_55 : decode cX5_mix 55 = .ok (.iload 4, 2) := by decide +kernel
theorem dX5_mix_57 : decode cX5_mix 57 = .ok (.laload, 1) := by decide +kernel
theorem dX5_mix_58 : decode cX5_mix 58 = .ok (.ladd, 1) := by decide +kernel
theorem dX5_mix_59 : decode cX5_mix 59 = .ok (.lastore, 1) := by decide +kernel
theorem dX5_mix_60 : decode cX5_mix 60 = .ok (.aload_n 0, 1) := by decide +kernel
theorem dX5_mix_61 : decode cX5_mix 61 = .ok (.getfield 26, 3) := by decide +kernel
theorem dX5_mix_64 : decode cX5_mix 64 = .ok (.iload_n 2, 1) := by decide +kernel
theorem dX5_mix_65 : decode cX5_mix 65 = .ok (.aload_n 0, 1) := by decide +kernel
theorem dX5_mix_66 : decode cX5_mix 66 = .ok (.getfield 26, 3) := by decide +kernel
theorem dX5_mix_69 : decode cX5_mix 69 = .ok (.iload_n 2, 1) := by decide +kernel
theorem dX5_mix_70 : decode cX5_mix 70 = .ok (.laload, 1) := by decide +kernel
theorem dX5_mix_71 : decode cX5_mix 71 = .ok (.aload_n 0, 1) := by decide +kernel
theorem dX5_mix_72 : decode cX5_mix 72 = .ok (.getfield 26, 3) := by decide +kernel
theorem dX5_mix_75 : decode cX5_mix 75 = .ok (.iload_n 3, 1) := by decide +kernel
theorem dX5_mix_76 : decode cX5_mix 76 = .ok (.laload, 1) := by decide +kernel
theorem dX5_mix_77 : decode cX5_mix 77 = .ok (.lxor, 1) := by decide +kernel
theorem dX5_mix_78 : decode cX5_mix 78 = .ok (.bipush 24, 2) := by decide +kernel
theorem dX5_mix_80 : decode cX5_mix 80 = .ok (.invokestatic 100, 3) := by decide +kernel
theorem dX5_mix_83 : decode cX5_mix 83 = .ok (.lastore, 1) := by decide +kernel
theorem dX5_mix_84 : decode cX5_mix 84 = .ok (.aload_n 0, 1) := by decide +kernel
theorem dX5_mix_85 : decode cX5_mix 85 = .ok (.getfield 26, 3) := by decide +kernel
theorem dX5_mix_88 : decode cX5_mix 88 = .ok (.iload_n 1, 1) := by decide +kernel
theorem dX5_mix_89 : decode cX5_mix 89 = .ok (.dup2, 1) := by decide +kernel
theorem dX5_mix_90 : decode cX5_mix 90 = .ok (.laload, 1) := by decide +kernel
theorem dX5_mix_91 : decode cX5_mix 91 = .ok (.aload_n 0, 1) := by decide +kernel
theorem dX5_mix_92 : decode cX5_mix 92 = .ok (.getfield 26, 3) := by decide +kernel
theorem dX5_mix_95 : decode cX5_mix 95 = .ok (.iload_n 2, 1) := by decide +kernel
theorem dX5_mix_96 : decode cX5_mix 96 = .ok (.laload, 1) := by decide +kernel
theorem dX5_mix_97 : decode cX5_mix 97 = .ok (.lload 7, 2) := by decide +kernel
theorem dX5_mix_99 : decode cX5_mix 99 = .ok (.ladd, 1) := by decide +kernel
theorem dX5_mix_100 : decode cX5_mix 100 = .ok (.ladd, 1) := by decide +kernel
theorem dX5_mix_101 : decode cX5_mix 101 = .ok (.lastore, 1) := by decide +kernel
theorem dX5_mix_102 : decode cX5_mix 102 = .ok (.aload_n 0, 1) := by decide +kernel
theorem dX5_mix_103 : decode cX5_mix 103 = .ok (.getfield 26, 3) := by decide +kernel
theorem dX5_mix_106 : decode cX5_mix 106 = .ok (.iload 4, 2) := by decide +kernel
theorem dX5_mix_108 : decode cX5_mix 108 = .ok (.aload_n 0, 1) := by decide +kernel
theorem dX5_mix_109 : decode cX5_mix 109 = .ok (.getfield 26, 3) := by decide +kernel
theorem dX5_mix_112 : decode cX5_mix 112 = .ok (.iload 4, 2) := by decide +kernel
theorem dX5_mix_114 : decode cX5_mix 114 = .ok (.laload, 1) := by decide +kernel
theorem dX5_mix_115 : decode cX5_mix 115 = .ok (.aload_n 0, 1) := by decide +kernel
theorem dX5_mix_116 : decode cX5_mix 116 = .ok (.getfield 26, 3) := by decide +kernel
theorem dX5_mix_119 : decode cX5_mix 119 = .ok (.iload_n 1, 1) := by decide +kernel
theorem dX5_mix_120 : decode cX5_mix 120 = .ok (.laload, 1) := by decide +kernel
theorem dX5_mix_121 : decode cX5_mix 121 = .ok (.lxor, 1) := by decide +kernel
theorem dX5_mix_122 : decode cX5_mix 122 = .ok (.bipush 16, 2) := by decide +kernel
theorem dX5_mix_124 : decode cX5_mix 124 = .ok (.invokestatic 100, 3) := by decide +kernel
theorem dX5_mix_127 : decode cX5_mix 127 = .ok (.lastore, 1) := by decide +kernel
theorem dX5_mix_128 : decode cX5_mix 128 = .ok (.aload_n 0, 1) := by decide +kernel
theorem dX5_mix_129 : decode cX5_mix 129 = .ok (.getfield 26, 3) := by decide +kernel
theorem dX5_mix_132 : decode cX5_mix 132 = .ok (.iload_n 3, 1) := by decide +kernel
theorem dX5_mix_133 : decode cX5_mix 133 = .ok (.dup2, 1) := by decide +kernel
theorem dX5_mix_134 : decode cX5_mix 134 = .ok (.laload, 1) := by decide +kernel
theorem dX5_mix_135 : decode cX5_mix 135 = .ok (.aload_n 0, 1) := by decide +kernel
theorem dX5_mix_136 : decode cX5_mix 136 = .ok (.getfield 26, 3) := by decide +kernel
theorem dX5_mix_139 : decode cX5_mix 139 = .ok (.iload 4, 2) := by decide +kernel
theorem dX5_mix_141 : decode cX5_mix 141 = .ok (.laload, 1) := by decide +kernel
theorem dX5_mix_142 : decode cX5_mix 142 = .ok (.ladd, 1) := by decide +kernel
theorem dX5_mix_143 : decode cX5_mix 143 = .ok (.lastore, 1) := by decide +kernel
theorem dX5_mix_144 : decode cX5_mix 144 = .ok (.aload_n 0, 1) := by decide +kernel
theorem dX5_mix_145 : decode cX5_mix 145 = .ok (.getfield 26, 3) := by decide +kernel
theorem dX5_mix_148 : decode cX5_mix 148 = .ok (.iload_n 2, 1) := by decide +kernel
theorem dX5_mix_149 : decode cX5_mix 149 = .ok (.aload_n 0, 1) := by decide +kernel
theorem dX5_mix_150 : decode cX5_mix 150 = .ok (.getfield 26, 3) := by decide +kernel
theorem dX5_mix_153 : decode cX5_mix 153 = .ok (.iload_n 2, 1) := by decide +kernel
theorem dX5_mix_154 : decode cX5_mix 154 = .ok (.laload, 1) := by decide +kernel
theorem dX5_mix_155 : decode cX5_mix 155 = .ok (.aload_n 0, 1) := by decide +kernel
theorem dX5_mix_156 : decode cX5_mix 156 = .ok (.getfield 26, 3) := by decide +kernel
theorem dX5_mix_159 : decode cX5_mix 159 = .ok (.iload_n 3, 1) := by decide +kernel
theorem dX5_mix_160 : decode cX5_mix 160 = .ok (.laload, 1) := by decide +kernel
theorem dX5_mix_161 : decode cX5_mix 161 = .ok (.lxor, 1) := by decide +kernel
theorem dX5_mix_162 : decode cX5_mix 162 = .ok (.bipush 63, 2) := by decide +kernel
theorem dX5_mix_164 : decode cX5_mix 164 = .ok (.invokestatic 100, 3) := by decide +kernel
theorem dX5_mix_167 : decode cX5_mix 167 = .ok (.lastore, 1) := by decide +kernel
theorem dX5_mix_168 : decode cX5_mix 168 = .ok (.return_, 1) := by decide +kernel
theorem dX5_picked_0 : decode cX5_picked 0 = .ok (.aload_n 0, 1) := by decide +kernel
theorem dX5_picked_1 : decode cX5_picked 1 = .ok (.getfield 29, 3) := by decide +kernel
theorem dX5_picked_4 : decode cX5_picked 4 = .ok (.lload_n 1, 1) := by decide +kernel
theorem dX5_picked_5 : decode cX5_picked 5 = .ok (.iconst 4, 1) := by decide +kernel
theorem dX5_picked_6 : decode cX5_picked 6 = .ok (.iload_n 3, 1) := by decide +kernel
theorem dX5_picked_7 : decode cX5_picked 7 = .ok (.imul, 1) := by decide +kernel
theorem dX5_picked_8 : decode cX5_picked 8 = .ok (.lshr, 1) := by decide +kernel
theorem dX5_picked_9 : decode cX5_picked 9 = .ok (.ldc2_w 104, 3) := by decide +kernel
theorem dX5_picked_12 : decode cX5_picked 12 = .ok (.land, 1) := by decide +kernel
theorem dX5_picked_13 : decode cX5_picked 13 = .ok (.l2i, 1) := by decide +kernel
theorem dX5_picked_14 : decode cX5_picked 14 = .ok (.laload, 1) := by decide +kernel
theorem dX5_picked_15 : decode cX5_picked 15 = .ok (.lreturn, 1) := by decide +kernel
theorem dX5_byteAt_0 : decode cX5_byteAt 0 = .ok (.iload_n 1, 1) := by decide +kernel
theorem dX5_byteAt_1 : decode cX5_byteAt 1 = .ok (.istore_n 2, 1) := by decide +kernel
theorem dX5_byteAt_2 : decode cX5_byteAt 2 = .ok (.aload_n 0, 1) := by decide +kernel
theorem dX5_byteAt_3 : decode cX5_byteAt 3 = .ok (.getfield 106, 3) := by decide +kernel
theorem dX5_byteAt_6 : decode cX5_byteAt 6 = .ok (.ifCond .le 32, 3) := by decide +kernel
theorem dX5_byteAt_9 : decode cX5_byteAt 9 = .ok (.iload_n 2, 1) := by decide +kernel
theorem dX5_byteAt_10 : decode cX5_byteAt 10 = .ok (.sipush 128, 3) := by decide +kernel
theorem dX5_byteAt_13 : decode cX5_byteAt 13 = .ok (.if_icmp .ge 22, 3) := by decide +kernel
theorem dX5_byteAt_16 : decode cX5_byteAt 16 = .ok (.iload_n 2, 1) := by decide +kernel
theorem dX5_byteAt_17 : decode cX5_byteAt 17 = .ok (.aload_n 0, 1) := by decide +kernel
theorem dX5_byteAt_18 : decode cX5_byteAt 18 = .ok (.getfield 106, 3) := by decide +kernel
theorem dX5_byteAt_21 : decode cX5_byteAt 21 = .ok (.if_icmp .ge 12, 3) := by decide +kernel
theorem dX5_byteAt_24 : decode cX5_byteAt 24 = .ok (.aload_n 0, 1) := by decide +kernel
theorem dX5_byteAt_25 : decode cX5_byteAt 25 = .ok (.getfield 16, 3) := by decide +kernel
theorem dX5_byteAt_28 : decode cX5_byteAt 28 = .ok (.iload_n 2, 1) := by decide +kernel
theorem dX5_byteAt_29 : decode cX5_byteAt 29 = .ok (.iaload, 1) := by decide +kernel
theorem dX5_byteAt_30 : decode cX5_byteAt 30 = .ok (.goto 4, 3) := by decide +kernel
theorem dX5_byteAt_33 : decode cX5_byteAt 33 = .ok (.iconst 0, 1) := by decide +kernel
theorem dX5_byteAt_34 : decode cX5_byteAt 34 = .ok (.ireturn, 1) := by decide +kernel
theorem dX5_byteAt_35 : decode cX5_byteAt 35 = .ok (.iinc 2 (-128), 3) := by decide +kernel
theorem dX5_byteAt_38 : decode cX5_byteAt 38 = .ok (.iload_n 2, 1) := by decide +kernel
theorem dX5_byteAt_39 : decode cX5_byteAt 39 = .ok (.aload_n 0, 1) := by decide +kernel
theorem dX5_byteAt_40 : decode cX5_byteAt 40 = .ok (.getfield 109, 3) := by decide +kernel
theorem dX5_byteAt_43 : decode cX5_byteAt 43 = .ok (.if_icmp .ge 12, 3) := by decide +kernel
theorem dX5_byteAt_46 : decode cX5_byteAt 46 = .ok (.aload_n 0, 1) := by decide +kernel
theorem dX5_byteAt_47 : decode cX5_byteAt 47 = .ok (.getfield 19, 3) := by decide +kernel
theorem dX5_byteAt_50 : decode cX5_byteAt 50 = .ok (.iload_n 2, 1) := by decide +kernel
theorem dX5_byteAt_51 : decode cX5_byteAt 51 = .ok (.iaload, 1) := by decide +kernel
theorem dX5_byteAt_52 : decode cX5_byteAt 52 = .ok (.goto 4, 3) := by decide +kernel
theorem dX5_byteAt_55 : decode cX5_byteAt 55 = .ok (.iconst 0, 1) := by decide +kernel
theorem dX5_byteAt_56 : decode cX5_byteAt 56 = .ok (.ireturn, 1) := by decide +kernel
end
section
theorem dX5_part_0 : decode cX5_part 0 = .ok (.iconst 0, 1) := by decide +kernel
theorem dX5_part_1 : decode cX5_part 1 = .ok (.istore 4, 2) := by decide +kernel
theorem dX5_part_3 : decode cX5_part 3 = .ok (.iload 4, 2) := by decide +kernel
theorem dX5_part_5 : decode cX5_part 5 = .ok (.bipush 16, 2) := by decide +kernel
theorem dX5_part_7 : decode cX5_part 7 = .ok (.if_icmp .ge 96, 3) := by decide +kernel
theorem dX5_part_10 : decode cX5_part 10 = .ok (.aload_n 0, 1) := by decide +kernel
theorem dX5_part_11 : decode cX5_part 11 = .ok (.getfield 29, 3) := by decide +kernel
theorem dX5_part_14 : decode cX5_part 14 = .ok (.iload 4, 2) := by decide +kernel
theorem dX5_part_16 : decode cX5_part 16 = .ok (.lconst 0, 1) := by decide +kernel
theorem dX5_part_17 : decode cX5_part 17 = .ok (.lastore, 1) := by decide +kernel
theorem dX5_part_18 : decode cX5_part 18 = .ok (.iconst 0, 1) := by decide +kernel
theorem dX5_part_19 : decode cX5_part 19 = .ok (.istore 5, 2) := by decide +kernel
theorem dX5_part_21 : decode cX5_part 21 = .ok (.iload 5, 2) := by decide +kernel
theorem dX5_part_23 : decode cX5_part 23 = .ok (.bipush 8, 2) := by decide +kernel
theorem dX5_part_25 : decode cX5_part 25 = .ok (.if_icmp .ge 40, 3) := by decide +kernel
theorem dX5_part_28 : decode cX5_part 28 = .ok (.aload_n 0, 1) := by decide +kernel
theorem dX5_part_29 : decode cX5_part 29 = .ok (.getfield 29, 3) := by decide +kernel
theorem dX5_part_32 : decode cX5_part 32 = .ok (.iload 4, 2) := by decide +kernel
theorem dX5_part_34 : decode cX5_part 34 = .ok (.dup2, 1) := by decide +kernel
theorem dX5_part_35 : decode cX5_part 35 = .ok (.laload, 1) := by decide +kernel
theorem dX5_part_36 : decode cX5_part 36 = .ok (.aload_n 0, 1) := by decide +kernel
theorem dX5_part_37 : decode cX5_part 37 = .ok (.iload_n 1, 1) := by decide +kernel
theorem dX5_part_38 : decode cX5_part 38 = .ok (.bipush 8, 2) := by decide +kernel
theorem dX5_part_40 : decode cX5_part 40 = .ok (.iload 4, 2) := by decide +kernel
theorem dX5_part_42 : decode cX5_part 42 = .ok (.imul, 1) := by decide +kernel
theorem dX5_part_43 : decode cX5_part 43 = .ok (.iadd, 1) := by decide +kernel
theorem dX5_part_44 : decode cX5_part 44 = .ok (.iload 5, 2) := by decide +kernel
theorem dX5_part_46 : decode cX5_part 46 = .ok (.iadd, 1) := by decide +kernel
theorem dX5_part_47 : decode cX5_part 47 = .ok (.invokevirtual 112, 3) := by decide +kernel
theorem dX5_part_50 : decode cX5_part 50 = .ok (.i2l, 1) := by decide +kernel
theorem dX5_part_51 : decode cX5_part 51 = .ok (.bipush 8, 2) := by decide +kernel
theorem dX5_part_53 : decode cX5_part 53 = .ok (.iload 5, 2) := by decide +kernel
theorem dX5_part_55 : decode cX5_part 55 = .ok (.imul, 1) := by decide +kernel
theorem dX5_part_56 : decode cX5_part 56 = .ok (.lshl, 1) := by decide +kernel
theorem dX5_part_57 : decode cX5_part 57 = .ok (.lor, 1) := by decide +kernel
theorem dX5_part_58 : decode cX5_part 58 = .ok (.lastore, 1) := by decide +kernel
theorem dX5_part_59 : decode cX5_part 59 = .ok (.iinc 5 1, 3) := by decide +kernel
theorem dX5_part_62 : decode cX5_part 62 = .ok (.goto (-41), 3) := by decide +kernel
theorem dX5_part_65 : decode cX5_part 65 = .ok (.aload_n 0, 1) := by decide +kernel
theorem dX5_part_66 : decode cX5_part 66 = .ok (.getfield 26, 3) := by decide +kernel
theorem dX5_part_69 : decode cX5_part 69 = .ok (.iload 4, 2) := by decide +kernel
theorem dX5_part_71 : decode cX5_part 71 = .ok (.iload 4, 2) := by decide +kernel
theorem dX5_part_73 : decode cX5_part 73 = .ok (.bipush 8, 2) := by decide +kernel
theorem dX5_part_75 : decode cX5_part 75 = .ok (.if_icmp .ge 13, 3) := by decide +kernel
theorem dX5_part_78 : decode cX5_part 78 = .ok (.aload_n 0, 1) := by decide +kernel
theorem dX5_part_79 : decode cX5_part 79 = .ok (.getfield 22, 3) := by decide +kernel
theorem dX5_part_82 : decode cX5_part 82 = .ok (.iload 4, 2) := by decide +kernel
theorem dX5_part_84 : decode cX5_part 84 = .ok (.laload, 1) := by decide +kernel
theorem dX5_part_85 : decode cX5_part 85 = .ok (.goto 11, 3) := by decide +kernel
theorem dX5_part_88 : decode cX5_part 88 = .ok (.iload 4, 2) := by decide +kernel
theorem dX5_part_90 : decode cX5_part 90 = .ok (.bipush 8, 2) := by decide +kernel
theorem dX5_part_92 : decode cX5_part 92 = .ok (.isub, 1) := by decide +kernel
theorem dX5_part_93 : decode cX5_part 93 = .ok (.invokestatic 116, 3) := by decide +kernel
theorem dX5_part_96 : decode cX5_part 96 = .ok (.lastore, 1) := by decide +kernel
theorem dX5_part_97 : decode cX5_part 97 = .ok (.iinc 4 1, 3) := by decide +kernel
theorem dX5_part_100 : decode cX5_part 100 = .ok (.goto (-97), 3) := by decide +kernel
theorem dX5_part_103 : decode cX5_part 103 = .ok (.aload_n 0, 1) := by decide +kernel
theorem dX5_part_104 : decode cX5_part 104 = .ok (.getfield 26, 3) := by decide +kernel
theorem dX5_part_107 : decode cX5_part 107 = .ok (.bipush 12, 2) := by decide +kernel
theorem dX5_part_109 : decode cX5_part 109 = .ok (.dup2, 1) := by decide +kernel
theorem dX5_part_110 : decode cX5_part 110 = .ok (.laload, 1) := by decide +kernel
theorem dX5_part_111 : decode cX5_part 111 = .ok (.iload_n 2, 1) := by decide +kernel
theorem dX5_part_112 : decode cX5_part 112 = .ok (.i2l, 1) := by decide +kernel
theorem dX5_part_113 : decode cX5_part 113 = .ok (.lxor, 1) := by decide +kernel
theorem dX5_part_114 : decode cX5_part 114 = .ok (.lastore, 1) := by decide +kernel
theorem dX5_part_115 : decode cX5_part 115 = .ok (.aload_n 0, 1) := by decide +kernel
theorem dX5_part_116 : decode cX5_part 116 = .ok (.getfield 26, 3) := by decide +kernel
theorem dX5_part_119 : decode cX5_part 119 = .ok (.bipush 14, 2) := by decide +kernel
theorem dX5_part_121 : decode cX5_part 121 = .ok (.iload_n 3, 1) := by decide +kernel
theorem dX5_part_122 : decode cX5_part 122 = .ok (.ifCond .eq 17, 3) := by decide +kernel
theorem dX5_part_125 : decode cX5_part 125 = .ok (.aload_n 0, 1) := by decide +kernel
theorem dX5_part_126 : decode cX5_part 126 = .ok (.getfield 26, 3) := by decide +kernel
theorem dX5_part_129 : decode cX5_part 129 = .ok (.bipush 14, 2) := by decide +kernel
theorem dX5_part_131 : decode cX5_part 131 = .ok (.laload, 1) := by decide +kernel
theorem dX5_part_132 : decode cX5_part 132 = .ok (.ldc2_w 120, 3) := by decide +kernel
theorem dX5_part_135 : decode cX5_part 135 = .ok (.lxor, 1) := by decide +kernel
theorem dX5_part_136 : decode cX5_part 136 = .ok (.goto 10, 3) := by decide +kernel
theorem dX5_part_139 : decode cX5_part 139 = .ok (.aload_n 0, 1) := by decide +kernel
theorem dX5_part_140 : decode cX5_part 140 = .ok (.getfield 26, 3) := by decide +kernel
theorem dX5_part_143 : decode cX5_part 143 = .ok (.bipush 14, 2) := by decide +kernel
theorem dX5_part_145 : decode cX5_part 145 = .ok (.laload, 1) := by decide +kernel
theorem dX5_part_146 : decode cX5_part 146 = .ok (.lastore, 1) := by decide +kernel
theorem dX5_part_147 : decode cX5_part 147 = .ok (.iconst 0, 1) := by decide +kernel
theorem dX5_part_148 : decode cX5_part 148 = .ok (.istore 4, 2) := by decide +kernel
theorem dX5_part_150 : decode cX5_part 150 = .ok (.iload 4, 2) := by decide +kernel
theorem dX5_part_152 : decode cX5_part 152 = .ok (.bipush 12, 2) := by decide +kernel
theorem dX5_part_154 : decode cX5_part 154 = .ok (.if_icmp .ge 222, 3) := by decide +kernel
theorem dX5_part_157 : decode cX5_part 157 = .ok (.iload 4, 2) := by decide +kernel
theorem dX5_part_159 : decode cX5_part 159 = .ok (.invokestatic 122, 3) := by decide +kernel
theorem dX5_part_162 : decode cX5_part 162 = .ok (.lstore 5, 2) := by decide +kernel
theorem dX5_part_164 : decode cX5_part 164 = .ok (.aload_n 0, 1) := by decide +kernel
theorem dX5_part_165 : decode cX5_part 165 = .ok (.iconst 0, 1) := by decide +kernel
theorem dX5_part_166 : decode cX5_part 166 = .ok (.iconst 4, 1) := by decide +kernel
theorem dX5_part_167 : decode cX5_part 167 = .ok (.bipush 8, 2) := by decide +kernel
theorem dX5_part_169 : decode cX5_part 169 = .ok (.bipush 12, 2) := by decide +kernel
theorem dX5_part_171 : decode cX5_part 171 = .ok (.aload_n 0, 1) := by decide +kernel
theorem dX5_part_172 : decode cX5_part 172 = .ok (.lload 5, 2) := by decide +kernel
theorem dX5_part_174 : decode cX5_part 174 = .ok (.iconst 0, 1) := by decide +kernel
theorem dX5_part_175 : decode cX5_part 175 = .ok (.invokevirtual 125, 3) := by decide +kernel
theorem dX5_part_178 : decode cX5_part 178 = .ok (.aload_n 0, 1) := by decide +kernel
theorem dX5_part_179 : decode cX5_part 179 = .ok (.lload 5, 2) := by decide +kernel
theorem dX5_part_181 : decode cX5_part 181 = .ok (.iconst 1, 1) := by decide +kernel
theorem dX5_part_182 : decode cX5_part 182 = .ok (.invokevirtual 125, 3) := by decide +kernel
theorem dX5_part_185 : decode cX5_part 185 = .ok (.invokevirtual 128, 3) := by decide +kernel
theorem dX5_part_188 : decode cX5_part 188 = .ok (.aload_n 0, 1) := by decide +kernel
theorem dX5_part_189 : decode cX5_part 189 = .ok (.iconst 1, 1) := by decide +kernel
theorem dX5_part_190 : decode cX5_part 190 = .ok (.iconst 5, 1) := by decide +kernel
theorem dX5_part_191 : decode cX5_part 191 = .ok (.bipush 9, 2) := by decide +kernel
theorem dX5_part_193 : decode cX5_part 193 = .ok (.bipush 13, 2) := by decide +kernel
theorem dX5_part_195 : decode cX5_part 195 = .ok (.aload_n 0, 1) := by decide +kernel
theorem dX5_part_196 : decode cX5_part 196 = .ok (.lload 5, 2) := by decide +kernel
theorem dX5_part_198 : decode cX5_part 198 = .ok (.iconst 2, 1) := by decide +kernel
theorem dX5_part_199 : decode cX5_part 199 = .ok (.invokevirtual 125, 3) := by decide +kernel
theorem dX5_part_202 : decode cX5_part 202 = .ok (.aload_n 0, 1) := by decide +kernel
theorem dX5_part_203 : decode cX5_part 203 = .ok (.lload 5, 2) := by decide +kernel
theorem dX5_part_205 : decode cX5_part 205 = .ok (.iconst 3, 1) := by decide +kernel
theorem dX5_part_206 : decode cX5_part 206 = .ok (.invokevirtual 125, 3) := by decide +kernel
theorem dX5_part_209 : decode cX5_part 209 = .ok (.invokevirtual 128, 3) := by decide +kernel
theorem dX5_part_212 : decode cX5_part 212 = .ok (.aload_n 0, 1) := by decide +kernel
theorem dX5_part_213 : decode cX5_part 213 = .ok (.iconst 2, 1) := by decide +kernel
theorem dX5_part_214 : decode cX5_part 214 = .ok (.bipush 6, 2) := by decide +kernel
theorem dX5_part_216 : decode cX5_part 216 = .ok (.bipush 10, 2) := by decide +kernel
theorem dX5_part_218 : decode cX5_part 218 = .ok (.bipush 14, 2) := by decide +kernel
theorem dX5_part_220 : decode cX5_part 220 = .ok (.aload_n 0, 1) := by decide +kernel
theorem dX5_part_221 : decode cX5_part 221 = .ok (.lload 5, 2) := by decide +kernel
theorem dX5_part_223 : decode cX5_part 223 = .ok (.iconst 4, 1) := by decide +kernel
theorem dX5_part_224 : decode cX5_part 224 = .ok (.invokevirtual 125, 3) := by decide +kernel
theorem dX5_part_227 : decode cX5_part 227 = .ok (.aload_n 0, 1) := by decide +kernel
theorem dX5_part_228 : decode cX5_part 228 = .ok (.lload 5, 2) := by decide +kernel
theorem dX5_part_230 : decode cX5_part 230 = .ok (.iconst 5, 1) := by decide +kernel
theorem dX5_part_231 : decode cX5_part 231 = .ok (.invokevirtual 125, 3) := by decide +kernel
theorem dX5_part_234 : decode cX5_part 234 = .ok (.invokevirtual 128, 3) := by decide +kernel
theorem dX5_part_237 : decode cX5_part 237 = .ok (.aload_n 0, 1) := by decide +kernel
theorem dX5_part_238 : decode cX5_part 238 = .ok (.iconst 3, 1) := by decide +kernel
theorem dX5_part_239 : decode cX5_part 239 = .ok (.bipush 7, 2) := by decide +kernel
theorem dX5_part_241 : decode cX5_part 241 = .ok (.bipush 11, 2) := by decide +kernel
theorem dX5_part_243 : decode cX5_part 243 = .ok (.bipush 15, 2) := by decide +kernel
theorem dX5_part_245 : decode cX5_part 245 = .ok (.aload_n 0, 1) := by decide +kernel
theorem dX5_part_246 : decode cX5_part 246 = .ok (.lload 5, 2) := by decide +kernel
theorem dX5_part_248 : decode cX5_part 248 = .ok (.bipush 6, 2) := by decide +kernel
theorem dX5_part_250 : decode cX5_part 250 = .ok (.invokevirtual 125, 3) := by decide +kernel
theorem dX5_part_253 : decode cX5_part 253 = .ok (.aload_n 0, 1) := by decide +kernel
theorem dX5_part_254 : decode cX5_part 254 = .ok (.lload 5, 2) := by decide +kernel
theorem dX5_part_256 : decode cX5_part 256 = .ok (.bipush 7, 2) := by decide +kernel
theorem dX5_part_258 : decode cX5_part 258 = .ok (.invokevirtual 125, 3) := by decide +kernel
theorem dX5_part_261 : decode cX5_part 261 = .ok (.invokevirtual 128, 3) := by decide +kernel
theorem dX5_part_264 : decode cX5_part 264 = .ok (.aload_n 0, 1) := by decide +kernel
theorem dX5_part_265 : decode cX5_part 265 = .ok (.iconst 0, 1) := by decide +kernel
theorem dX5_part_266 : decode cX5_part 266 = .ok (.iconst 5, 1) := by decide +kernel
theorem dX5_part_267 : decode cX5_part 267 = .ok (.bipush 10, 2) := by decide +kernel
theorem dX5_part_269 : decode cX5_part 269 = .ok (.bipush 15, 2) := by decide +kernel
theorem dX5_part_271 : decode cX5_part 271 = .ok (.aload_n 0, 1) := by decide +kernel
theorem dX5_part_272 : decode cX5_part 272 = .ok (.lload 5, 2) := by decide +kernel
theorem dX5_part_274 : decode cX5_part 274 = .ok (.bipush 8, 2) := by decide +kernel
theorem dX5_part_276 : decode cX5_part 276 = .ok (.invokevirtual 125, 3) := by decide +kernel
theorem dX5_part_279 : decode cX5_part 279 = .ok (.aload_n 0, 1) := by decide +kernel
theorem dX5_part_280 : decode cX5_part 280 = .ok (.lload 5, 2) := by decide +kernel
theorem dX5_part_282 : decode cX5_part 282 = .ok (.bipush 9, 2) := by decide +kernel
theorem dX5_part_284 : decode cX5_part 284 = .ok (.invokevirtual 125, 3) := by decide +kernel
theorem dX5_part_287 : decode cX5_part 287 = .ok (.invokevirtual 128, 3) := by decide +kernel
theorem dX5_part_290 : decode cX5_part 290 = .ok (.aload_n 0, 1) := by decide +kernel
theorem dX5_part_291 : decode cX5_part 291 = .ok (.iconst 1, 1) := by decide +kernel
theorem dX5_part_292 : decode cX5_part 292 = .ok (.bipush 6, 2) := by decide +kernel
theorem dX5_part_294 : decode cX5_part 294 = .ok (.bipush 11, 2) := by decide +kernel
theorem dX5_part_296 : decode cX5_part 296 = .ok (.bipush 12, 2) := by decide +kernel
theorem dX5_part_298 : decode cX5_part 298 = .ok (.aload_n 0, 1) := by decide +kernel
theorem dX5_part_299 : decode cX5_part 299 = .ok (.lload 5, 2) := by decide +kernel
theorem dX5_part_301 : decode cX5_part 301 = .ok (.bipush 10, 2) := by decide +kernel
theorem dX5_part_303 : decode cX5_part 303 = .ok (.invokevirtual 125, 3) := by decide +kernel
theorem dX5_part_306 : decode cX5_part 306 = .ok (.aload_n 0, 1) := by decide +kernel
theorem dX5_part_307 : decode cX5_part 307 = .ok (.lload 5, 2) := by decide +kernel
theorem dX5_part_309 : decode cX5_part 309 = .ok (.bipush 11, 2) := by decide +kernel
theorem dX5_part_311 : decode cX5_part 311 = .ok (.invokevirtual 125, 3) := by decide +kernel
theorem dX5_part_314 : decode cX5_part 314 = .ok (.invokevirtual 128, 3) := by decide +kernel
theorem dX5_part_317 : decode cX5_part 317 = .ok (.aload_n 0, 1) := by decide +kernel
theorem dX5_part_318 : decode cX5_part 318 = .ok (.iconst 2, 1) := by decide +kernel
theorem dX5_part_319 : decode cX5_part 319 = .ok (.bipush 7, 2) := by decide +kernel
theorem dX5_part_321 : decode cX5_part 321 = .ok (.bipush 8, 2) := by decide +kernel
theorem dX5_part_323 : decode cX5_part 323 = .ok (.bipush 13, 2) := by decide +kernel
theorem dX5_part_325 : decode cX5_part 325 = .ok (.aload_n 0, 1) := by decide +kernel
theorem dX5_part_326 : decode cX5_part 326 = .ok (.lload 5, 2) := by decide +kernel
theorem dX5_part_328 : decode cX5_part 328 = .ok (.bipush 12, 2) := by decide +kernel
theorem dX5_part_330 : decode cX5_part 330 = .ok (.invokevirtual 125, 3) := by decide +kernel
theorem dX5_part_333 : decode cX5_part 333 = .ok (.aload_n 0, 1) := by decide +kernel
theorem dX5_part_334 : decode cX5_part 334 = .ok (.lload 5, 2) := by decide +kernel
theorem dX5_part_336 : decode cX5_part 336 = .ok (.bipush 13, 2) := by decide +kernel
theorem dX5_part_338 : decode cX5_part 338 = .ok (.invokevirtual 125, 3) := by decide +kernel
theorem dX5_part_341 : decode cX5_part 341 = .ok (.invokevirtual 128, 3) := by decide +kernel
theorem dX5_part_344 : decode cX5_part 344 = .ok (.aload_n 0, 1) := by decide +kernel
theorem dX5_part_345 : decode cX5_part 345 = .ok (.iconst 3, 1) := by decide +kernel
theorem dX5_part_346 : decode cX5_part 346 = .ok (.iconst 4, 1) := by decide +kernel
theorem dX5_part_347 : decode cX5_part 347 = .ok (.bipush 9, 2) := by decide +kernel
theorem dX5_part_349 : decode cX5_part 349 = .ok (.bipush 14, 2) := by decide +kernel
theorem dX5_part_351 : decode cX5_part 351 = .ok (.aload_n 0, 1) := by decide +kernel
theorem dX5_part_352 : decode cX5_part 352 = .ok (.lload 5, 2) := by decide +kernel
theorem dX5_part_354 : decode cX5_part 354 = .ok (.bipush 14, 2) := by decide +kernel
theorem dX5_part_356 : decode cX5_part 356 = .ok (.invokevirtual 125, 3) := by decide +kernel
theorem dX5_part_359 : decode cX5_part 359 = .ok (.aload_n 0, 1) := by decide +kernel
theorem dX5_part_360 : decode cX5_part 360 = .ok (.lload 5, 2) := by decide +kernel
theorem dX5_part_362 : decode cX5_part 362 = .ok (.bipush 15, 2) := by decide +kernel
theorem dX5_part_364 : decode cX5_part 364 = .ok (.invokevirtual 125, 3) := by decide +kernel
theorem dX5_part_367 : decode cX5_part 367 = .ok (.invokevirtual 128, 3) := by decide +kernel
theorem dX5_part_370 : decode cX5_part 370 = .ok (.iinc 4 1, 3) := by decide +kernel
theorem dX5_part_373 : decode cX5_part 373 = .ok (.goto (-223), 3) := by decide +kernel
theorem dX5_part_376 : decode cX5_part 376 = .ok (.iconst 0, 1) := by decide +kernel
theorem dX5_part_377 : decode cX5_part 377 = .ok (.istore 4, 2) := by decide +kernel
theorem dX5_part_379 : decode cX5_part 379 = .ok (.iload 4, 2) := by decide +kernel
theorem dX5_part_381 : decode cX5_part 381 = .ok (.bipush 8, 2) := by decide +kernel
theorem dX5_part_383 : decode cX5_part 383 = .ok (.if_icmp .ge 37, 3) := by decide +kernel
theorem dX5_part_386 : decode cX5_part 386 = .ok (.aload_n 0, 1) := by decide +kernel
theorem dX5_part_387 : decode cX5_part 387 = .ok (.getfield 22, 3) := by decide +kernel
theorem dX5_part_390 : decode cX5_part 390 = .ok (.iload 4, 2) := by decide +kernel
theorem dX5_part_392 : decode cX5_part 392 = .ok (.dup2, 1) := by decide +kernel
theorem dX5_part_393 : decode cX5_part 393 = .ok (.laload, 1) := by decide +kernel
theorem dX5_part_394 : decode cX5_part 394 = .ok (.aload_n 0, 1) := by decide +kernel
theorem dX5_part_395 : decode cX5_part 395 = .ok (.getfield 26, 3) := by decide +kernel
theorem dX5_part_398 : decode cX5_part 398 = .ok (.iload 4, 2) := by decide +kernel
theorem dX5_part_400 : decode cX5_part 400 = .ok (.laload, 1) := by decide +kernel
theorem dX5_part_401 : decode cX5_part 401 = .ok (.aload_n 0, 1) := by decide +kernel
theorem dX5_part_402 : decode cX5_part 402 = .ok (.getfield 26, 3) := by decide +kernel
theorem dX5_part_405 : decode cX5_part 405 = .ok (.iload 4, 2) := by decide +kernel
theorem dX5_part_407 : decode cX5_part 407 = .ok (.bipush 8, 2) := by decide +kernel
theorem dX5_part_409 : decode cX5_part 409 = .ok (.iadd, 1) := by decide +kernel
theorem dX5_part_410 : decode cX5_part 410 = .ok (.laload, 1) := by decide +kernel
theorem dX5_part_411 : decode cX5_part 411 = .ok (.lxor, 1) := by decide +kernel
theorem dX5_part_412 : decode cX5_part 412 = .ok (.lxor, 1) := by decide +kernel
theorem dX5_part_413 : decode cX5_part 413 = .ok (.lastore, 1) := by decide +kernel
theorem dX5_part_414 : decode cX5_part 414 = .ok (.iinc 4 1, 3) := by decide +kernel
theorem dX5_part_417 : decode cX5_part 417 = .ok (.goto (-38), 3) := by decide +kernel
theorem dX5_part_420 : decode cX5_part 420 = .ok (.return_, 1) := by decide +kernel
theorem dX5_hashTo_0 : decode cX5_hashTo 0 = .ok (.iconst 0, 1) := by decide +kernel
theorem dX5_hashTo_1 : decode cX5_hashTo 1 = .ok (.istore_n 3, 1) := by decide +kernel
theorem dX5_hashTo_2 : decode cX5_hashTo 2 = .ok (.iload_n 3, 1) := by decide +kernel
theorem dX5_hashTo_3 : decode cX5_hashTo 3 = .ok (.bipush 8, 2) := by decide +kernel
theorem dX5_hashTo_5 : decode cX5_hashTo 5 = .ok (.if_icmp .ge 19, 3) := by decide +kernel
theorem dX5_hashTo_8 : decode cX5_hashTo 8 = .ok (.aload_n 0, 1) := by decide +kernel
theorem dX5_hashTo_9 : decode cX5_hashTo 9 = .ok (.getfield 22, 3) := by decide +kernel
theorem dX5_hashTo_12 : decode cX5_hashTo 12 = .ok (.iload_n 3, 1) := by decide +kernel
theorem dX5_hashTo_13 : decode cX5_hashTo 13 = .ok (.iload_n 3, 1) := by decide +kernel
theorem dX5_hashTo_14 : decode cX5_hashTo 14 = .ok (.invokestatic 116, 3) := by decide +kernel
theorem dX5_hashTo_17 : decode cX5_hashTo 17 = .ok (.lastore, 1) := by decide +kernel
theorem dX5_hashTo_18 : decode cX5_hashTo 18 = .ok (.iinc 3 1, 3) := by decide +kernel
theorem dX5_hashTo_21 : decode cX5_hashTo 21 = .ok (.goto (-19), 3) := by decide +kernel
theorem dX5_hashTo_24 : decode cX5_hashTo 24 = .ok (.aload_n 0, 1) := by decide +kernel
theorem dX5_hashTo_25 : decode cX5_hashTo 25 = .ok (.getfield 22, 3) := by decide +kernel
theorem dX5_hashTo_28 : decode cX5_hashTo 28 = .ok (.iconst 0, 1) := by decide +kernel
theorem dX5_hashTo_29 : decode cX5_hashTo 29 = .ok (.dup2, 1) := by decide +kernel
theorem dX5_hashTo_30 : decode cX5_hashTo 30 = .ok (.laload, 1) := by decide +kernel
theorem dX5_hashTo_31 : decode cX5_hashTo 31 = .ok (.ldc2_w 132, 3) := by decide +kernel
theorem dX5_hashTo_34 : decode cX5_hashTo 34 = .ok (.ldc2_w 134, 3) := by decide +kernel
theorem dX5_hashTo_37 : decode cX5_hashTo 37 = .ok (.aload_n 0, 1) := by decide +kernel
theorem dX5_hashTo_38 : decode cX5_hashTo 38 = .ok (.getfield 106, 3) := by decide +kernel
theorem dX5_hashTo_41 : decode cX5_hashTo 41 = .ok (.i2l, 1) := by decide +kernel
theorem dX5_hashTo_42 : decode cX5_hashTo 42 = .ok (.lmul, 1) := by decide +kernel
theorem dX5_hashTo_43 : decode cX5_hashTo 43 = .ok (.lxor, 1) := by decide +kernel
theorem dX5_hashTo_44 : decode cX5_hashTo 44 = .ok (.iload_n 2, 1) := by decide +kernel
theorem dX5_hashTo_45 : decode cX5_hashTo 45 = .ok (.i2l, 1) := by decide +kernel
theorem dX5_hashTo_46 : decode cX5_hashTo 46 = .ok (.lxor, 1) := by decide +kernel
theorem dX5_hashTo_47 : decode cX5_hashTo 47 = .ok (.lxor, 1) := by decide +kernel
theorem dX5_hashTo_48 : decode cX5_hashTo 48 = .ok (.lastore, 1) := by decide +kernel
theorem dX5_hashTo_49 : decode cX5_hashTo 49 = .ok (.aload_n 0, 1) := by decide +kernel
theorem dX5_hashTo_50 : decode cX5_hashTo 50 = .ok (.getfield 109, 3) := by decide +kernel
theorem dX5_hashTo_53 : decode cX5_hashTo 53 = .ok (.aload_n 0, 1) := by decide +kernel
theorem dX5_hashTo_54 : decode cX5_hashTo 54 = .ok (.getfield 106, 3) := by decide +kernel
theorem dX5_hashTo_57 : decode cX5_hashTo 57 = .ok (.ifCond .le 9, 3) := by decide +kernel
theorem dX5_hashTo_60 : decode cX5_hashTo 60 = .ok (.sipush 128, 3) := by decide +kernel
theorem dX5_hashTo_63 : decode cX5_hashTo 63 = .ok (.goto 4, 3) := by decide +kernel
theorem dX5_hashTo_66 : decode cX5_hashTo 66 = .ok (.iconst 0, 1) := by decide +kernel
theorem dX5_hashTo_67 : decode cX5_hashTo 67 = .ok (.iadd, 1) := by decide +kernel
theorem dX5_hashTo_68 : decode cX5_hashTo 68 = .ok (.istore_n 3, 1) := by decide +kernel
theorem dX5_hashTo_69 : decode cX5_hashTo 69 = .ok (.iconst 0, 1) := by decide +kernel
theorem dX5_hashTo_70 : decode cX5_hashTo 70 = .ok (.istore 4, 2) := by decide +kernel
theorem dX5_hashTo_72 : decode cX5_hashTo 72 = .ok (.iconst 1, 1) := by decide +kernel
theorem dX5_hashTo_73 : decode cX5_hashTo 73 = .ok (.istore 5, 2) := by decide +kernel
theorem dX5_hashTo_75 : decode cX5_hashTo 75 = .ok (.iload 5, 2) := by decide +kernel
theorem dX5_hashTo_77 : decode cX5_hashTo 77 = .ok (.ifCond .eq 60, 3) := by decide +kernel
theorem dX5_hashTo_80 : decode cX5_hashTo 80 = .ok (.iload_n 3, 1) := by decide +kernel
theorem dX5_hashTo_81 : decode cX5_hashTo 81 = .ok (.iload 4, 2) := by decide +kernel
theorem dX5_hashTo_83 : decode cX5_hashTo 83 = .ok (.sipush 128, 3) := by decide +kernel
theorem dX5_hashTo_86 : decode cX5_hashTo 86 = .ok (.iadd, 1) := by decide +kernel
theorem dX5_hashTo_87 : decode cX5_hashTo 87 = .ok (.if_icmp .le 7, 3) := by decide +kernel
theorem dX5_hashTo_90 : decode cX5_hashTo 90 = .ok (.iconst 1, 1) := by decide +kernel
theorem dX5_hashTo_91 : decode cX5_hashTo 91 = .ok (.goto 4, 3) := by decide +kernel
theorem dX5_hashTo_94 : decode cX5_hashTo 94 = .ok (.iconst 0, 1) := by decide +kernel
theorem dX5_hashTo_95 : decode cX5_hashTo 95 = .ok (.istore 5, 2) := by decide +kernel
theorem dX5_hashTo_97 : decode cX5_hashTo 97 = .ok (.aload_n 0, 1) := by decide +kernel
theorem dX5_hashTo_98 : decode cX5_hashTo 98 = .ok (.iload 4, 2) := by decide +kernel
theorem dX5_hashTo_100 : decode cX5_hashTo 100 = .ok (.iload 5, 2) := by decide +kernel
theorem dX5_hashTo_102 : decode cX5_hashTo 102 = .ok (.ifCond .eq 12, 3) := by decide +kernel
theorem dX5_hashTo_105 : decode cX5_hashTo 105 = .ok (.iload 4, 2) := by decide +kernel
theorem dX5_hashTo_107 : decode cX5_hashTo 107 = .ok (.sipush 128, 3) := by decide +kernel
theorem dX5_hashTo_110 : decode cX5_hashTo 110 = .ok (.iadd, 1) := by decide +kernel
theorem dX5_hashTo_111 : decode cX5_hashTo 111 = .ok (.goto 4, 3) := by decide +kernel
theorem dX5_hashTo_114 : decode cX5_hashTo 114 = .ok (.iload_n 3, 1) := by decide +kernel
theorem dX5_hashTo_115 : decode cX5_hashTo 115 = .ok (.iload 5, 2) := by decide +kernel
theorem dX5_hashTo_117 : decode cX5_hashTo 117 = .ok (.ifCond .ne 7, 3) := by decide +kernel
theorem dX5_hashTo_120 : decode cX5_hashTo 120 = .ok (.iconst 1, 1) := by decide +kernel
theorem dX5_hashTo_121 : decode cX5_hashTo 121 = .ok (.goto 4, 3) := by decide +kernel
theorem dX5_hashTo_124 : decode cX5_hashTo 124 = .ok (.iconst 0, 1) := by decide +kernel
theorem dX5_hashTo_125 : decode cX5_hashTo 125 = .ok (.invokevirtual 136, 3) := by decide +kernel
theorem dX5_hashTo_128 : decode cX5_hashTo 128 = .ok (.iinc 4 128, 6) := by decide +kernel
theorem dX5_hashTo_134 : decode cX5_hashTo 134 = .ok (.goto (-59), 3) := by decide +kernel
theorem dX5_hashTo_137 : decode cX5_hashTo 137 = .ok (.iconst 0, 1) := by decide +kernel
theorem dX5_hashTo_138 : decode cX5_hashTo 138 = .ok (.istore 6, 2) := by decide +kernel
theorem dX5_hashTo_140 : decode cX5_hashTo 140 = .ok (.iload 6, 2) := by decide +kernel
theorem dX5_hashTo_142 : decode cX5_hashTo 142 = .ok (.iload_n 2, 1) := by decide +kernel
theorem dX5_hashTo_143 : decode cX5_hashTo 143 = .ok (.if_icmp .ge 42, 3) := by decide +kernel
theorem dX5_hashTo_146 : decode cX5_hashTo 146 = .ok (.aload_n 0, 1) := by decide +kernel
theorem dX5_hashTo_147 : decode cX5_hashTo 147 = .ok (.getfield 32, 3) := by decide +kernel
theorem dX5_hashTo_150 : decode cX5_hashTo 150 = .ok (.iload_n 1, 1) := by decide +kernel
theorem dX5_hashTo_151 : decode cX5_hashTo 151 = .ok (.iload 6, 2) := by decide +kernel
theorem dX5_hashTo_153 : decode cX5_hashTo 153 = .ok (.iadd, 1) := by decide +kernel
theorem dX5_hashTo_154 : decode cX5_hashTo 154 = .ok (.aload_n 0, 1) := by decide +kernel
theorem dX5_hashTo_155 : decode cX5_hashTo 155 = .ok (.getfield 22, 3) := by decide +kernel
theorem dX5_hashTo_158 : decode cX5_hashTo 158 = .ok (.iload 6, 2) := by decide +kernel
theorem dX5_hashTo_160 : decode cX5_hashTo 160 = .ok (.bipush 8, 2) := by decide +kernel
theorem dX5_hashTo_162 : decode cX5_hashTo 162 = .ok (.idiv, 1) := by decide +kernel
theorem dX5_hashTo_163 : decode cX5_hashTo 163 = .ok (.laload, 1) := by decide +kernel
theorem dX5_hashTo_164 : decode cX5_hashTo 164 = .ok (.bipush 8, 2) := by decide +kernel
theorem dX5_hashTo_166 : decode cX5_hashTo 166 = .ok (.iload 6, 2) := by decide +kernel
theorem dX5_hashTo_168 : decode cX5_hashTo 168 = .ok (.bipush 8, 2) := by decide +kernel
theorem dX5_hashTo_170 : decode cX5_hashTo 170 = .ok (.irem, 1) := by decide +kernel
theorem dX5_hashTo_171 : decode cX5_hashTo 171 = .ok (.imul, 1) := by decide +kernel
theorem dX5_hashTo_172 : decode cX5_hashTo 172 = .ok (.lshr, 1) := by decide +kernel
theorem dX5_hashTo_173 : decode cX5_hashTo 173 = .ok (.ldc2_w 62, 3) := by decide +kernel
theorem dX5_hashTo_176 : decode cX5_hashTo 176 = .ok (.land, 1) := by decide +kernel
theorem dX5_hashTo_177 : decode cX5_hashTo 177 = .ok (.l2i, 1) := by decide +kernel
theorem dX5_hashTo_178 : decode cX5_hashTo 178 = .ok (.iastore, 1) := by decide +kernel
theorem dX5_hashTo_179 : decode cX5_hashTo 179 = .ok (.iinc 6 1, 3) := by decide +kernel
theorem dX5_hashTo_182 : decode cX5_hashTo 182 = .ok (.goto (-42), 3) := by decide +kernel
theorem dX5_hashTo_185 : decode cX5_hashTo 185 = .ok (.aload_n 0, 1) := by decide +kernel
theorem dX5_hashTo_186 : decode cX5_hashTo 186 = .ok (.iconst 0, 1) := by decide +kernel
theorem dX5_hashTo_187 : decode cX5_hashTo 187 = .ok (.putfield 106, 3) := by decide +kernel
theorem dX5_hashTo_190 : decode cX5_hashTo 190 = .ok (.return_, 1) := by decide +kernel
theorem dX5_put_0 : decode cX5_put 0 = .ok (.iconst 0, 1) := by decide +kernel
theorem dX5_put_1 : decode cX5_put 1 = .ok (.istore 4, 2) := by decide +kernel
theorem dX5_put_3 : decode cX5_put 3 = .ok (.iload 4, 2) := by decide +kernel
theorem dX5_put_5 : decode cX5_put 5 = .ok (.iload_n 1, 1) := by decide +kernel
theorem dX5_put_6 : decode cX5_put 6 = .ok (.if_icmp .ge 40, 3) := by decide +kernel
theorem dX5_put_9 : decode cX5_put 9 = .ok (.aload_n 0, 1) := by decide +kernel
theorem dX5_put_10 : decode cX5_put 10 = .ok (.getfield 19, 3) := by decide +kernel
theorem dX5_put_13 : decode cX5_put 13 = .ok (.aload_n 0, 1) := by decide +kernel
theorem dX5_put_14 : decode cX5_put 14 = .ok (.getfield 109, 3) := by decide +kernel
theorem dX5_put_17 : decode cX5_put 17 = .ok (.lload_n 2, 1) := by decide +kernel
theorem dX5_put_18 : decode cX5_put 18 = .ok (.bipush 8, 2) := by decide +kernel
theorem dX5_put_20 : decode cX5_put 20 = .ok (.iload 4, 2) := by decide +kernel
theorem dX5_put_22 : decode cX5_put 22 = .ok (.imul, 1) := by decide +kernel
theorem dX5_put_23 : decode cX5_put 23 = .ok (.lshr, 1) := by decide +kernel
theorem dX5_put_24 : decode cX5_put 24 = .ok (.ldc2_w 62, 3) := by decide +kernel
theorem dX5_put_27 : decode cX5_put 27 = .ok (.land, 1) := by decide +kernel
theorem dX5_put_28 : decode cX5_put 28 = .ok (.l2i, 1) := by decide +kernel
theorem dX5_put_29 : decode cX5_put 29 = .ok (.iastore, 1) := by decide +kernel
theorem dX5_put_30 : decode cX5_put 30 = .ok (.aload_n 0, 1) := by decide +kernel
theorem dX5_put_31 : decode cX5_put 31 = .ok (.dup, 1) := by decide +kernel
theorem dX5_put_32 : decode cX5_put 32 = .ok (.getfield 109, 3) := by decide +kernel
theorem dX5_put_35 : decode cX5_put 35 = .ok (.iconst 1, 1) := by decide +kernel
theorem dX5_put_36 : decode cX5_put 36 = .ok (.iadd, 1) := by decide +kernel
theorem dX5_put_37 : decode cX5_put 37 = .ok (.putfield 109, 3) := by decide +kernel
theorem dX5_put_40 : decode cX5_put 40 = .ok (.iinc 4 1, 3) := by decide +kernel
theorem dX5_put_43 : decode cX5_put 43 = .ok (.goto (-40), 3) := by decide +kernel
theorem dX5_put_46 : decode cX5_put 46 = .ok (.return_, 1) := by decide +kernel
theorem dX5_putRegister_0 : decode cX5_putRegister 0 = .ok (.iconst 0, 1) := by decide +kernel
theorem dX5_putRegister_1 : decode cX5_putRegister 1 = .ok (.istore_n 2, 1) := by decide +kernel
theorem dX5_putRegister_2 : decode cX5_putRegister 2 = .ok (.iload_n 2, 1) := by decide +kernel
theorem dX5_putRegister_3 : decode cX5_putRegister 3 = .ok (.aload_n 0, 1) := by decide +kernel
theorem dX5_putRegister_4 : decode cX5_putRegister 4 = .ok (.getfield 7, 3) := by decide +kernel
theorem dX5_putRegister_7 : decode cX5_putRegister 7 = .ok (.iload_n 1, 1) := by decide +kernel
theorem dX5_putRegister_8 : decode cX5_putRegister 8 = .ok (.iaload, 1) := by decide +kernel
theorem dX5_putRegister_9 : decode cX5_putRegister 9 = .ok (.if_icmp .ge 40, 3) := by decide +kernel
theorem dX5_putRegister_12 : decode cX5_putRegister 12 = .ok (.aload_n 0, 1) := by decide +kernel
theorem dX5_putRegister_13 : decode cX5_putRegister 13 = .ok (.getfield 19, 3) := by decide +kernel
theorem dX5_putRegister_16 : decode cX5_putRegister 16 = .ok (.aload_n 0, 1) := by decide +kernel
theorem dX5_putRegister_17 : decode cX5_putRegister 17 = .ok (.getfield 109, 3) := by decide +kernel
theorem dX5_putRegister_20 : decode cX5_putRegister 20 = .ok (.aload_n 0, 1) := by decide +kernel
theorem dX5_putRegister_21 : decode cX5_putRegister 21 = .ok (.getfield 13, 3) := by decide +kernel
theorem dX5_putRegister_24 : decode cX5_putRegister 24 = .ok (.sipush 200, 3) := by decide +kernel
theorem dX5_putRegister_27 : decode cX5_putRegister 27 = .ok (.iload_n 1, 1) := by decide +kernel
theorem dX5_putRegister_28 : decode cX5_putRegister 28 = .ok (.imul, 1) := by decide +kernel
theorem dX5_putRegister_29 : decode cX5_putRegister 29 = .ok (.iload_n 2, 1) := by decide +kernel
theorem dX5_putRegister_30 : decode cX5_putRegister 30 = .ok (.iadd, 1) := by decide +kernel
theorem dX5_putRegister_31 : decode cX5_putRegister 31 = .ok (.iaload, 1) := by decide +kernel
theorem dX5_putRegister_32 : decode cX5_putRegister 32 = .ok (.iastore, 1) := by decide +kernel
theorem dX5_putRegister_33 : decode cX5_putRegister 33 = .ok (.aload_n 0, 1) := by decide +kernel
theorem dX5_putRegister_34 : decode cX5_putRegister 34 = .ok (.dup, 1) := by decide +kernel
theorem dX5_putRegister_35 : decode cX5_putRegister 35 = .ok (.getfield 109, 3) := by decide +kernel
theorem dX5_putRegister_38 : decode cX5_putRegister 38 = .ok (.iconst 1, 1) := by decide +kernel
theorem dX5_putRegister_39 : decode cX5_putRegister 39 = .ok (.iadd, 1) := by decide +kernel
theorem dX5_putRegister_40 : decode cX5_putRegister 40 = .ok (.putfield 109, 3) := by decide +kernel
theorem dX5_putRegister_43 : decode cX5_putRegister 43 = .ok (.iinc 2 1, 3) := by decide +kernel
theorem dX5_putRegister_46 : decode cX5_putRegister 46 = .ok (.goto (-44), 3) := by decide +kernel
theorem dX5_putRegister_49 : decode cX5_putRegister 49 = .ok (.return_, 1) := by decide +kernel
end
section
theorem dX5_longTo_0 : decode cX5_longTo 0 = .ok (.iconst 0, 1) := by decide +kernel
theorem dX5_longTo_1 : decode cX5_longTo 1 = .ok (.istore_n 2, 1) := by decide +kernel
theorem dX5_longTo_2 : decode cX5_longTo 2 = .ok (.iload_n 2, 1) := by decide +kernel
theorem dX5_longTo_3 : decode cX5_longTo 3 = .ok (.iconst 4, 1) := by decide +kernel
theorem dX5_longTo_4 : decode cX5_longTo 4 = .ok (.if_icmp .ge 25, 3) := by decide +kernel
theorem dX5_longTo_7 : decode cX5_longTo 7 = .ok (.aload_n 0, 1) := by decide +kernel
theorem dX5_longTo_8 : decode cX5_longTo 8 = .ok (.getfield 19, 3) := by decide +kernel
theorem dX5_longTo_11 : decode cX5_longTo 11 = .ok (.iload_n 2, 1) := by decide +kernel
theorem dX5_longTo_12 : decode cX5_longTo 12 = .ok (.iload_n 1, 1) := by decide +kernel
theorem dX5_longTo_13 : decode cX5_longTo 13 = .ok (.bipush 8, 2) := by decide +kernel
theorem dX5_longTo_15 : decode cX5_longTo 15 = .ok (.iload_n 2, 1) := by decide +kernel
theorem dX5_longTo_16 : decode cX5_longTo 16 = .ok (.imul, 1) := by decide +kernel
theorem dX5_longTo_17 : decode cX5_longTo 17 = .ok (.ishr, 1) := by decide +kernel
theorem dX5_longTo_18 : decode cX5_longTo 18 = .ok (.sipush 255, 3) := by decide +kernel
theorem dX5_longTo_21 : decode cX5_longTo 21 = .ok (.iand, 1) := by decide +kernel
theorem dX5_longTo_22 : decode cX5_longTo 22 = .ok (.iastore, 1) := by decide +kernel
theorem dX5_longTo_23 : decode cX5_longTo 23 = .ok (.iinc 2 1, 3) := by decide +kernel
theorem dX5_longTo_26 : decode cX5_longTo 26 = .ok (.goto (-24), 3) := by decide +kernel
theorem dX5_longTo_29 : decode cX5_longTo 29 = .ok (.iload_n 1, 1) := by decide +kernel
theorem dX5_longTo_30 : decode cX5_longTo 30 = .ok (.bipush 64, 2) := by decide +kernel
theorem dX5_longTo_32 : decode cX5_longTo 32 = .ok (.if_icmp .gt 10, 3) := by decide +kernel
theorem dX5_longTo_35 : decode cX5_longTo 35 = .ok (.aload_n 0, 1) := by decide +kernel
theorem dX5_longTo_36 : decode cX5_longTo 36 = .ok (.iconst 0, 1) := by decide +kernel
theorem dX5_longTo_37 : decode cX5_longTo 37 = .ok (.iload_n 1, 1) := by decide +kernel
theorem dX5_longTo_38 : decode cX5_longTo 38 = .ok (.invokevirtual 140, 3) := by decide +kernel
theorem dX5_longTo_41 : decode cX5_longTo 41 = .ok (.return_, 1) := by decide +kernel
theorem dX5_longTo_42 : decode cX5_longTo 42 = .ok (.aload_n 0, 1) := by decide +kernel
theorem dX5_longTo_43 : decode cX5_longTo 43 = .ok (.iconst 0, 1) := by decide +kernel
theorem dX5_longTo_44 : decode cX5_longTo 44 = .ok (.bipush 64, 2) := by decide +kernel
theorem dX5_longTo_46 : decode cX5_longTo 46 = .ok (.invokevirtual 140, 3) := by decide +kernel
theorem dX5_longTo_49 : decode cX5_longTo 49 = .ok (.iconst 0, 1) := by decide +kernel
theorem dX5_longTo_50 : decode cX5_longTo 50 = .ok (.istore_n 2, 1) := by decide +kernel
theorem dX5_longTo_51 : decode cX5_longTo 51 = .ok (.iload_n 1, 1) := by decide +kernel
theorem dX5_longTo_52 : decode cX5_longTo 52 = .ok (.iload_n 2, 1) := by decide +kernel
theorem dX5_longTo_53 : decode cX5_longTo 53 = .ok (.isub, 1) := by decide +kernel
theorem dX5_longTo_54 : decode cX5_longTo 54 = .ok (.bipush 64, 2) := by decide +kernel
theorem dX5_longTo_56 : decode cX5_longTo 56 = .ok (.if_icmp .le 63, 3) := by decide +kernel
theorem dX5_longTo_59 : decode cX5_longTo 59 = .ok (.aload_n 0, 1) := by decide +kernel
theorem dX5_longTo_60 : decode cX5_longTo 60 = .ok (.iconst 0, 1) := by decide +kernel
theorem dX5_longTo_61 : decode cX5_longTo 61 = .ok (.putfield 109, 3) := by decide +kernel
theorem dX5_longTo_64 : decode cX5_longTo 64 = .ok (.iconst 0, 1) := by decide +kernel
theorem dX5_longTo_65 : decode cX5_longTo 65 = .ok (.istore_n 3, 1) := by decide +kernel
theorem dX5_longTo_66 : decode cX5_longTo 66 = .ok (.iload_n 3, 1) := by decide +kernel
theorem dX5_longTo_67 : decode cX5_longTo 67 = .ok (.bipush 64, 2) := by decide +kernel
theorem dX5_longTo_69 : decode cX5_longTo 69 = .ok (.if_icmp .ge 23, 3) := by decide +kernel
theorem dX5_longTo_72 : decode cX5_longTo 72 = .ok (.aload_n 0, 1) := by decide +kernel
theorem dX5_longTo_73 : decode cX5_longTo 73 = .ok (.iconst 1, 1) := by decide +kernel
theorem dX5_longTo_74 : decode cX5_longTo 74 = .ok (.aload_n 0, 1) := by decide +kernel
theorem dX5_longTo_75 : decode cX5_longTo 75 = .ok (.getfield 32, 3) := by decide +kernel
theorem dX5_longTo_78 : decode cX5_longTo 78 = .ok (.iload_n 2, 1) := by decide +kernel
theorem dX5_longTo_79 : decode cX5_longTo 79 = .ok (.iload_n 3, 1) := by decide +kernel
theorem dX5_longTo_80 : decode cX5_longTo 80 = .ok (.iadd, 1) := by decide +kernel
theorem dX5_longTo_81 : decode cX5_longTo 81 = .ok (.iaload, 1) := by decide +kernel
theorem dX5_longTo_82 : decode cX5_longTo 82 = .ok (.i2l, 1) := by decide +kernel
theorem dX5_longTo_83 : decode cX5_longTo 83 = .ok (.invokevirtual 144, 3) := by decide +kernel
theorem dX5_longTo_86 : decode cX5_longTo 86 = .ok (.iinc 3 1, 3) := by decide +kernel
theorem dX5_longTo_89 : decode cX5_longTo 89 = .ok (.goto (-23), 3) := by decide +kernel
theorem dX5_longTo_92 : decode cX5_longTo 92 = .ok (.iinc 2 32, 3) := by decide +kernel
theorem dX5_longTo_95 : decode cX5_longTo 95 = .ok (.aload_n 0, 1) := by decide +kernel
theorem dX5_longTo_96 : decode cX5_longTo 96 = .ok (.iload_n 2, 1) := by decide +kernel
theorem dX5_longTo_97 : decode cX5_longTo 97 = .ok (.iload_n 1, 1) := by decide +kernel
theorem dX5_longTo_98 : decode cX5_longTo 98 = .ok (.iload_n 2, 1) := by decide +kernel
theorem dX5_longTo_99 : decode cX5_longTo 99 = .ok (.isub, 1) := by decide +kernel
theorem dX5_longTo_100 : decode cX5_longTo 100 = .ok (.bipush 64, 2) := by decide +kernel
theorem dX5_longTo_102 : decode cX5_longTo 102 = .ok (.if_icmp .le 8, 3) := by decide +kernel
theorem dX5_longTo_105 : decode cX5_longTo 105 = .ok (.bipush 64, 2) := by decide +kernel
theorem dX5_longTo_107 : decode cX5_longTo 107 = .ok (.goto 6, 3) := by decide +kernel
theorem dX5_longTo_110 : decode cX5_longTo 110 = .ok (.iload_n 1, 1) := by decide +kernel
theorem dX5_longTo_111 : decode cX5_longTo 111 = .ok (.iload_n 2, 1) := by decide +kernel
theorem dX5_longTo_112 : decode cX5_longTo 112 = .ok (.isub, 1) := by decide +kernel
theorem dX5_longTo_113 : decode cX5_longTo 113 = .ok (.invokevirtual 140, 3) := by decide +kernel
theorem dX5_longTo_116 : decode cX5_longTo 116 = .ok (.goto (-65), 3) := by decide +kernel
theorem dX5_longTo_119 : decode cX5_longTo 119 = .ok (.return_, 1) := by decide +kernel
theorem dX5_hash_0 : decode cX5_hash 0 = .ok (.aload_n 0, 1) := by decide +kernel
theorem dX5_hash_1 : decode cX5_hash 1 = .ok (.iconst 0, 1) := by decide +kernel
theorem dX5_hash_2 : decode cX5_hash 2 = .ok (.putfield 50, 3) := by decide +kernel
theorem dX5_hash_5 : decode cX5_hash 5 = .ok (.iload_n 1, 1) := by decide +kernel
theorem dX5_hash_6 : decode cX5_hash 6 = .ok (.invokestatic 58, 3) := by decide +kernel
theorem dX5_hash_9 : decode cX5_hash 9 = .ok (.ifCond .eq 44, 3) := by decide +kernel
theorem dX5_hash_12 : decode cX5_hash 12 = .ok (.iload_n 2, 1) := by decide +kernel
theorem dX5_hash_13 : decode cX5_hash 13 = .ok (.invokestatic 58, 3) := by decide +kernel
theorem dX5_hash_16 : decode cX5_hash 16 = .ok (.ifCond .eq 37, 3) := by decide +kernel
theorem dX5_hash_19 : decode cX5_hash 19 = .ok (.iload_n 3, 1) := by decide +kernel
theorem dX5_hash_20 : decode cX5_hash 20 = .ok (.iconst (-1), 1) := by decide +kernel
theorem dX5_hash_21 : decode cX5_hash 21 = .ok (.if_icmp .eq 21, 3) := by decide +kernel
theorem dX5_hash_24 : decode cX5_hash 24 = .ok (.iload_n 3, 1) := by decide +kernel
theorem dX5_hash_25 : decode cX5_hash 25 = .ok (.invokestatic 58, 3) := by decide +kernel
theorem dX5_hash_28 : decode cX5_hash 28 = .ok (.ifCond .eq 25, 3) := by decide +kernel
theorem dX5_hash_31 : decode cX5_hash 31 = .ok (.aload_n 0, 1) := by decide +kernel
theorem dX5_hash_32 : decode cX5_hash 32 = .ok (.getfield 7, 3) := by decide +kernel
theorem dX5_hash_35 : decode cX5_hash 35 = .ok (.iload_n 3, 1) := by decide +kernel
theorem dX5_hash_36 : decode cX5_hash 36 = .ok (.iaload, 1) := by decide +kernel
theorem dX5_hash_37 : decode cX5_hash 37 = .ok (.bipush 64, 2) := by decide +kernel
theorem dX5_hash_39 : decode cX5_hash 39 = .ok (.if_icmp .gt 14, 3) := by decide +kernel
theorem dX5_hash_42 : decode cX5_hash 42 = .ok (.iload 4, 2) := by decide +kernel
theorem dX5_hash_44 : decode cX5_hash 44 = .ok (.iconst 1, 1) := by decide +kernel
theorem dX5_hash_45 : decode cX5_hash 45 = .ok (.bipush 64, 2) := by decide +kernel
theorem dX5_hash_47 : decode cX5_hash 47 = .ok (.invokestatic 54, 3) := by decide +kernel
theorem dX5_hash_50 : decode cX5_hash 50 = .ok (.ifCond .ne 6, 3) := by decide +kernel
theorem dX5_hash_53 : decode cX5_hash 53 = .ok (.bipush (-2), 2) := by decide +kernel
theorem dX5_hash_55 : decode cX5_hash 55 = .ok (.ireturn, 1) := by decide +kernel
theorem dX5_hash_56 : decode cX5_hash 56 = .ok (.aload_n 0, 1) := by decide +kernel
theorem dX5_hash_57 : decode cX5_hash 57 = .ok (.iconst 0, 1) := by decide +kernel
theorem dX5_hash_58 : decode cX5_hash 58 = .ok (.putfield 109, 3) := by decide +kernel
theorem dX5_hash_61 : decode cX5_hash 61 = .ok (.aload_n 0, 1) := by decide +kernel
theorem dX5_hash_62 : decode cX5_hash 62 = .ok (.iload_n 2, 1) := by decide +kernel
theorem dX5_hash_63 : decode cX5_hash 63 = .ok (.invokevirtual 148, 3) := by decide +kernel
theorem dX5_hash_66 : decode cX5_hash 66 = .ok (.aload_n 0, 1) := by decide +kernel
theorem dX5_hash_67 : decode cX5_hash 67 = .ok (.iload_n 3, 1) := by decide +kernel
theorem dX5_hash_68 : decode cX5_hash 68 = .ok (.iconst (-1), 1) := by decide +kernel
theorem dX5_hash_69 : decode cX5_hash 69 = .ok (.if_icmp .ne 7, 3) := by decide +kernel
theorem dX5_hash_72 : decode cX5_hash 72 = .ok (.iconst 0, 1) := by decide +kernel
theorem dX5_hash_73 : decode cX5_hash 73 = .ok (.goto 9, 3) := by decide +kernel
theorem dX5_hash_76 : decode cX5_hash 76 = .ok (.aload_n 0, 1) := by decide +kernel
theorem dX5_hash_77 : decode cX5_hash 77 = .ok (.getfield 7, 3) := by decide +kernel
theorem dX5_hash_80 : decode cX5_hash 80 = .ok (.iload_n 3, 1) := by decide +kernel
theorem dX5_hash_81 : decode cX5_hash 81 = .ok (.iaload, 1) := by decide +kernel
theorem dX5_hash_82 : decode cX5_hash 82 = .ok (.putfield 106, 3) := by decide +kernel
theorem dX5_hash_85 : decode cX5_hash 85 = .ok (.iconst 0, 1) := by decide +kernel
theorem dX5_hash_86 : decode cX5_hash 86 = .ok (.istore 5, 2) := by decide +kernel
theorem dX5_hash_88 : decode cX5_hash 88 = .ok (.iload 5, 2) := by decide +kernel
theorem dX5_hash_90 : decode cX5_hash 90 = .ok (.aload_n 0, 1) := by decide +kernel
theorem dX5_hash_91 : decode cX5_hash 91 = .ok (.getfield 106, 3) := by decide +kernel
theorem dX5_hash_94 : decode cX5_hash 94 = .ok (.if_icmp .ge 29, 3) := by decide +kernel
theorem dX5_hash_97 : decode cX5_hash 97 = .ok (.aload_n 0, 1) := by decide +kernel
theorem dX5_hash_98 : decode cX5_hash 98 = .ok (.getfield 16, 3) := by decide +kernel
theorem dX5_hash_101 : decode cX5_hash 101 = .ok (.iload 5, 2) := by decide +kernel
theorem dX5_hash_103 : decode cX5_hash 103 = .ok (.aload_n 0, 1) := by decide +kernel
theorem dX5_hash_104 : decode cX5_hash 104 = .ok (.getfield 13, 3) := by decide +kernel
theorem dX5_hash_107 : decode cX5_hash 107 = .ok (.sipush 200, 3) := by decide +kernel
theorem dX5_hash_110 : decode cX5_hash 110 = .ok (.iload_n 3, 1) := by decide +kernel
theorem dX5_hash_111 : decode cX5_hash 111 = .ok (.imul, 1) := by decide +kernel
theorem dX5_hash_112 : decode cX5_hash 112 = .ok (.iload 5, 2) := by decide +kernel
theorem dX5_hash_114 : decode cX5_hash 114 = .ok (.iadd, 1) := by decide +kernel
theorem dX5_hash_115 : decode cX5_hash 115 = .ok (.iaload, 1) := by decide +kernel
theorem dX5_hash_116 : decode cX5_hash 116 = .ok (.iastore, 1) := by decide +kernel
theorem dX5_hash_117 : decode cX5_hash 117 = .ok (.iinc 5 1, 3) := by decide +kernel
theorem dX5_hash_120 : decode cX5_hash 120 = .ok (.goto (-32), 3) := by decide +kernel
theorem dX5_hash_123 : decode cX5_hash 123 = .ok (.aload_n 0, 1) := by decide +kernel
theorem dX5_hash_124 : decode cX5_hash 124 = .ok (.iconst 0, 1) := by decide +kernel
theorem dX5_hash_125 : decode cX5_hash 125 = .ok (.iload 4, 2) := by decide +kernel
theorem dX5_hash_127 : decode cX5_hash 127 = .ok (.invokevirtual 140, 3) := by decide +kernel
theorem dX5_hash_130 : decode cX5_hash 130 = .ok (.aload_n 0, 1) := by decide +kernel
theorem dX5_hash_131 : decode cX5_hash 131 = .ok (.iload_n 1, 1) := by decide +kernel
theorem dX5_hash_132 : decode cX5_hash 132 = .ok (.iload 4, 2) := by decide +kernel
theorem dX5_hash_134 : decode cX5_hash 134 = .ok (.invokevirtual 152, 3) := by decide +kernel
theorem dX5_hash_137 : decode cX5_hash 137 = .ok (.iload 4, 2) := by decide +kernel
theorem dX5_hash_139 : decode cX5_hash 139 = .ok (.ireturn, 1) := by decide +kernel
theorem dX5_longHash_0 : decode cX5_longHash 0 = .ok (.aload_n 0, 1) := by decide +kernel
theorem dX5_longHash_1 : decode cX5_longHash 1 = .ok (.iconst 0, 1) := by decide +kernel
theorem dX5_longHash_2 : decode cX5_longHash 2 = .ok (.putfield 50, 3) := by decide +kernel
theorem dX5_longHash_5 : decode cX5_longHash 5 = .ok (.iload_n 1, 1) := by decide +kernel
theorem dX5_longHash_6 : decode cX5_longHash 6 = .ok (.invokestatic 58, 3) := by decide +kernel
theorem dX5_longHash_9 : decode cX5_longHash 9 = .ok (.ifCond .eq 21, 3) := by decide +kernel
theorem dX5_longHash_12 : decode cX5_longHash 12 = .ok (.iload_n 2, 1) := by decide +kernel
theorem dX5_longHash_13 : decode cX5_longHash 13 = .ok (.invokestatic 58, 3) := by decide +kernel
theorem dX5_longHash_16 : decode cX5_longHash 16 = .ok (.ifCond .eq 14, 3) := by decide +kernel
theorem dX5_longHash_19 : decode cX5_longHash 19 = .ok (.iload_n 3, 1) := by decide +kernel
theorem dX5_longHash_20 : decode cX5_longHash 20 = .ok (.iconst 1, 1) := by decide +kernel
theorem dX5_longHash_21 : decode cX5_longHash 21 = .ok (.sipush 200, 3) := by decide +kernel
theorem dX5_longHash_24 : decode cX5_longHash 24 = .ok (.invokestatic 54, 3) := by decide +kernel
theorem dX5_longHash_27 : decode cX5_longHash 27 = .ok (.ifCond .ne 6, 3) := by decide +kernel
theorem dX5_longHash_30 : decode cX5_longHash 30 = .ok (.bipush (-2), 2) := by decide +kernel
theorem dX5_longHash_32 : decode cX5_longHash 32 = .ok (.ireturn, 1) := by decide +kernel
theorem dX5_longHash_33 : decode cX5_longHash 33 = .ok (.aload_n 0, 1) := by decide +kernel
theorem dX5_longHash_34 : decode cX5_longHash 34 = .ok (.iconst 4, 1) := by decide +kernel
theorem dX5_longHash_35 : decode cX5_longHash 35 = .ok (.putfield 109, 3) := by decide +kernel
theorem dX5_longHash_38 : decode cX5_longHash 38 = .ok (.aload_n 0, 1) := by decide +kernel
theorem dX5_longHash_39 : decode cX5_longHash 39 = .ok (.iload_n 2, 1) := by decide +kernel
theorem dX5_longHash_40 : decode cX5_longHash 40 = .ok (.invokevirtual 148, 3) := by decide +kernel
theorem dX5_longHash_43 : decode cX5_longHash 43 = .ok (.aload_n 0, 1) := by decide +kernel
theorem dX5_longHash_44 : decode cX5_longHash 44 = .ok (.iload_n 3, 1) := by decide +kernel
theorem dX5_longHash_45 : decode cX5_longHash 45 = .ok (.invokevirtual 155, 3) := by decide +kernel
theorem dX5_longHash_48 : decode cX5_longHash 48 = .ok (.aload_n 0, 1) := by decide +kernel
theorem dX5_longHash_49 : decode cX5_longHash 49 = .ok (.iload_n 1, 1) := by decide +kernel
theorem dX5_longHash_50 : decode cX5_longHash 50 = .ok (.iload_n 3, 1) := by decide +kernel
theorem dX5_longHash_51 : decode cX5_longHash 51 = .ok (.invokevirtual 152, 3) := by decide +kernel
theorem dX5_longHash_54 : decode cX5_longHash 54 = .ok (.iload_n 3, 1) := by decide +kernel
theorem dX5_longHash_55 : decode cX5_longHash 55 = .ok (.ireturn, 1) := by decide +kernel
theorem dX5_putOwn_0 : decode cX5_putOwn 0 = .ok (.aload_n 0, 1) := by decide +kernel
theorem dX5_putOwn_1 : decode cX5_putOwn 1 = .ok (.iconst 4, 1) := by decide +kernel
theorem dX5_putOwn_2 : decode cX5_putOwn 2 = .ok (.iload_n 1, 1) := by decide +kernel
theorem dX5_putOwn_3 : decode cX5_putOwn 3 = .ok (.iconst (-1), 1) := by decide +kernel
theorem dX5_putOwn_4 : decode cX5_putOwn 4 = .ok (.if_icmp .ne 7, 3) := by decide +kernel
theorem dX5_putOwn_7 : decode cX5_putOwn 7 = .ok (.lconst 0, 1) := by decide +kernel
theorem dX5_putOwn_8 : decode cX5_putOwn 8 = .ok (.goto 10, 3) := by decide +kernel
theorem dX5_putOwn_11 : decode cX5_putOwn 11 = .ok (.aload_n 0, 1) := by decide +kernel
theorem dX5_putOwn_12 : decode cX5_putOwn 12 = .ok (.getfield 7, 3) := by decide +kernel
theorem dX5_putOwn_15 : decode cX5_putOwn 15 = .ok (.iload_n 1, 1) := by decide +kernel
theorem dX5_putOwn_16 : decode cX5_putOwn 16 = .ok (.iaload, 1) := by decide +kernel
theorem dX5_putOwn_17 : decode cX5_putOwn 17 = .ok (.i2l, 1) := by decide +kernel
theorem dX5_putOwn_18 : decode cX5_putOwn 18 = .ok (.invokevirtual 144, 3) := by decide +kernel
theorem dX5_putOwn_21 : decode cX5_putOwn 21 = .ok (.iload_n 1, 1) := by decide +kernel
theorem dX5_putOwn_22 : decode cX5_putOwn 22 = .ok (.iconst (-1), 1) := by decide +kernel
theorem dX5_putOwn_23 : decode cX5_putOwn 23 = .ok (.if_icmp .eq 8, 3) := by decide +kernel
theorem dX5_putOwn_26 : decode cX5_putOwn 26 = .ok (.aload_n 0, 1) := by decide +kernel
theorem dX5_putOwn_27 : decode cX5_putOwn 27 = .ok (.iload_n 1, 1) := by decide +kernel
theorem dX5_putOwn_28 : decode cX5_putOwn 28 = .ok (.invokevirtual 148, 3) := by decide +kernel
theorem dX5_putOwn_31 : decode cX5_putOwn 31 = .ok (.return_, 1) := by decide +kernel
theorem dX5_isPerhaps_0 : decode cX5_isPerhaps 0 = .ok (.iload_n 0, 1) := by decide +kernel
theorem dX5_isPerhaps_1 : decode cX5_isPerhaps 1 = .ok (.iconst (-1), 1) := by decide +kernel
theorem dX5_isPerhaps_2 : decode cX5_isPerhaps 2 = .ok (.if_icmp .eq 10, 3) := by decide +kernel
theorem dX5_isPerhaps_5 : decode cX5_isPerhaps 5 = .ok (.iload_n 0, 1) := by decide +kernel
theorem dX5_isPerhaps_6 : decode cX5_isPerhaps 6 = .ok (.invokestatic 58, 3) := by decide +kernel
theorem dX5_isPerhaps_9 : decode cX5_isPerhaps 9 = .ok (.ifCond .eq 7, 3) := by decide +kernel
theorem dX5_isPerhaps_12 : decode cX5_isPerhaps 12 = .ok (.iconst 1, 1) := by decide +kernel
theorem dX5_isPerhaps_13 : decode cX5_isPerhaps 13 = .ok (.goto 4, 3) := by decide +kernel
theorem dX5_isPerhaps_16 : decode cX5_isPerhaps 16 = .ok (.iconst 0, 1) := by decide +kernel
theorem dX5_isPerhaps_17 : decode cX5_isPerhaps 17 = .ok (.ireturn, 1) := by decide +kernel
end
section
theorem dX5_begin_0 : decode cX5_begin 0 = .ok (.aload_n 0, 1) := by decide +kernel
theorem dX5_begin_1 : decode cX5_begin 1 = .ok (.iconst 0, 1) := by decide +kernel
theorem dX5_begin_2 : decode cX5_begin 2 = .ok (.putfield 50, 3) := by decide +kernel
theorem dX5_begin_5 : decode cX5_begin 5 = .ok (.iload_n 1, 1) := by decide +kernel
theorem dX5_begin_6 : decode cX5_begin 6 = .ok (.iconst 0, 1) := by decide +kernel
theorem dX5_begin_7 : decode cX5_begin 7 = .ok (.iconst 2, 1) := by decide +kernel
theorem dX5_begin_8 : decode cX5_begin 8 = .ok (.invokestatic 54, 3) := by decide +kernel
theorem dX5_begin_11 : decode cX5_begin 11 = .ok (.ifCond .eq 92, 3) := by decide +kernel
theorem dX5_begin_14 : decode cX5_begin 14 = .ok (.iload_n 2, 1) := by decide +kernel
theorem dX5_begin_15 : decode cX5_begin 15 = .ok (.iconst 1, 1) := by decide +kernel
theorem dX5_begin_16 : decode cX5_begin 16 = .ok (.iconst 4, 1) := by decide +kernel
theorem dX5_begin_17 : decode cX5_begin 17 = .ok (.invokestatic 54, 3) := by decide +kernel
theorem dX5_begin_20 : decode cX5_begin 20 = .ok (.ifCond .eq 83, 3) := by decide +kernel
theorem dX5_begin_23 : decode cX5_begin 23 = .ok (.iload_n 3, 1) := by decide +kernel
theorem dX5_begin_24 : decode cX5_begin 24 = .ok (.iconst 1, 1) := by decide +kernel
theorem dX5_begin_25 : decode cX5_begin 25 = .ok (.iconst 5, 1) := by decide +kernel
theorem dX5_begin_26 : decode cX5_begin 26 = .ok (.invokestatic 54, 3) := by decide +kernel
theorem dX5_begin_29 : decode cX5_begin 29 = .ok (.ifCond .eq 74, 3) := by decide +kernel
theorem dX5_begin_32 : decode cX5_begin 32 = .ok (.iload 4, 2) := by decide +kernel
theorem dX5_begin_34 : decode cX5_begin 34 = .ok (.bipush 8, 2) := by decide +kernel
theorem dX5_begin_36 : decode cX5_begin 36 = .ok (.iload_n 2, 1) := by decide +kernel
theorem dX5_begin_37 : decode cX5_begin 37 = .ok (.imul, 1) := by decide +kernel
theorem dX5_begin_38 : decode cX5_begin 38 = .ok (.sipush 128, 3) := by decide +kernel
theorem dX5_begin_41 : decode cX5_begin 41 = .ok (.invokestatic 54, 3) := by decide +kernel
theorem dX5_begin_44 : decode cX5_begin 44 = .ok (.ifCond .eq 59, 3) := by decide +kernel
theorem dX5_begin_47 : decode cX5_begin 47 = .ok (.iload 5, 2) := by decide +kernel
theorem dX5_begin_49 : decode cX5_begin 49 = .ok (.iconst 4, 1) := by decide +kernel
theorem dX5_begin_50 : decode cX5_begin 50 = .ok (.sipush 128, 3) := by decide +kernel
theorem dX5_begin_53 : decode cX5_begin 53 = .ok (.invokestatic 54, 3) := by decide +kernel
theorem dX5_begin_56 : decode cX5_begin 56 = .ok (.ifCond .eq 47, 3) := by decide +kernel
theorem dX5_begin_59 : decode cX5_begin 59 = .ok (.iload 6, 2) := by decide +kernel
theorem dX5_begin_61 : decode cX5_begin 61 = .ok (.invokestatic 58, 3) := by decide +kernel
theorem dX5_begin_64 : decode cX5_begin 64 = .ok (.ifCond .eq 39, 3) := by decide +kernel
theorem dX5_begin_67 : decode cX5_begin 67 = .ok (.iload 7, 2) := by decide +kernel
theorem dX5_begin_69 : decode cX5_begin 69 = .ok (.invokestatic 58, 3) := by decide +kernel
theorem dX5_begin_72 : decode cX5_begin 72 = .ok (.ifCond .eq 31, 3) := by decide +kernel
theorem dX5_begin_75 : decode cX5_begin 75 = .ok (.iload 8, 2) := by decide +kernel
theorem dX5_begin_77 : decode cX5_begin 77 = .ok (.invokestatic 158, 3) := by decide +kernel
theorem dX5_begin_80 : decode cX5_begin 80 = .ok (.ifCond .eq 23, 3) := by decide +kernel
theorem dX5_begin_83 : decode cX5_begin 83 = .ok (.iload 9, 2) := by decide +kernel
theorem dX5_begin_85 : decode cX5_begin 85 = .ok (.invokestatic 158, 3) := by decide +kernel
theorem dX5_begin_88 : decode cX5_begin 88 = .ok (.ifCond .eq 15, 3) := by decide +kernel
theorem dX5_begin_91 : decode cX5_begin 91 = .ok (.aload_n 0, 1) := by decide +kernel
theorem dX5_begin_92 : decode cX5_begin 92 = .ok (.getfield 7, 3) := by decide +kernel
theorem dX5_begin_95 : decode cX5_begin 95 = .ok (.iload 7, 2) := by decide +kernel
theorem dX5_begin_97 : decode cX5_begin 97 = .ok (.iaload, 1) := by decide +kernel
theorem dX5_begin_98 : decode cX5_begin 98 = .ok (.bipush 8, 2) := by decide +kernel
theorem dX5_begin_100 : decode cX5_begin 100 = .ok (.if_icmp .ge 6, 3) := by decide +kernel
theorem dX5_begin_103 : decode cX5_begin 103 = .ok (.bipush (-2), 2) := by decide +kernel
theorem dX5_begin_105 : decode cX5_begin 105 = .ok (.ireturn, 1) := by decide +kernel
theorem dX5_begin_106 : decode cX5_begin 106 = .ok (.aload_n 0, 1) := by decide +kernel
theorem dX5_begin_107 : decode cX5_begin 107 = .ok (.iconst 1, 1) := by decide +kernel
theorem dX5_begin_108 : decode cX5_begin 108 = .ok (.putfield 161, 3) := by decide +kernel
theorem dX5_begin_111 : decode cX5_begin 111 = .ok (.aload_n 0, 1) := by decide +kernel
theorem dX5_begin_112 : decode cX5_begin 112 = .ok (.iload_n 1, 1) := by decide +kernel
theorem dX5_begin_113 : decode cX5_begin 113 = .ok (.putfield 165, 3) := by decide +kernel
theorem dX5_begin_116 : decode cX5_begin 116 = .ok (.aload_n 0, 1) := by decide +kernel
theorem dX5_begin_117 : decode cX5_begin 117 = .ok (.iload_n 2, 1) := by decide +kernel
theorem dX5_begin_118 : decode cX5_begin 118 = .ok (.putfield 168, 3) := by decide +kernel
theorem dX5_begin_121 : decode cX5_begin 121 = .ok (.aload_n 0, 1) := by decide +kernel
theorem dX5_begin_122 : decode cX5_begin 122 = .ok (.iload_n 3, 1) := by decide +kernel
theorem dX5_begin_123 : decode cX5_begin 123 = .ok (.putfield 171, 3) := by decide +kernel
theorem dX5_begin_126 : decode cX5_begin 126 = .ok (.aload_n 0, 1) := by decide +kernel
theorem dX5_begin_127 : decode cX5_begin 127 = .ok (.iload 5, 2) := by decide +kernel
theorem dX5_begin_129 : decode cX5_begin 129 = .ok (.putfield 174, 3) := by decide +kernel
theorem dX5_begin_132 : decode cX5_begin 132 = .ok (.aload_n 0, 1) := by decide +kernel
theorem dX5_begin_133 : decode cX5_begin 133 = .ok (.iload 4, 2) := by decide +kernel
theorem dX5_begin_135 : decode cX5_begin 135 = .ok (.iconst 4, 1) := by decide +kernel
theorem dX5_begin_136 : decode cX5_begin 136 = .ok (.iload_n 2, 1) := by decide +kernel
theorem dX5_begin_137 : decode cX5_begin 137 = .ok (.imul, 1) := by decide +kernel
theorem dX5_begin_138 : decode cX5_begin 138 = .ok (.idiv, 1) := by decide +kernel
theorem dX5_begin_139 : decode cX5_begin 139 = .ok (.putfield 177, 3) := by decide +kernel
theorem dX5_begin_142 : decode cX5_begin 142 = .ok (.aload_n 0, 1) := by decide +kernel
theorem dX5_begin_143 : decode cX5_begin 143 = .ok (.iconst 0, 1) := by decide +kernel
theorem dX5_begin_144 : decode cX5_begin 144 = .ok (.putfield 180, 3) := by decide +kernel
theorem dX5_begin_147 : decode cX5_begin 147 = .ok (.aload_n 0, 1) := by decide +kernel
theorem dX5_begin_148 : decode cX5_begin 148 = .ok (.iconst 0, 1) := by decide +kernel
theorem dX5_begin_149 : decode cX5_begin 149 = .ok (.putfield 109, 3) := by decide +kernel
theorem dX5_begin_152 : decode cX5_begin 152 = .ok (.aload_n 0, 1) := by decide +kernel
theorem dX5_begin_153 : decode cX5_begin 153 = .ok (.iconst 4, 1) := by decide +kernel
theorem dX5_begin_154 : decode cX5_begin 154 = .ok (.aload_n 0, 1) := by decide +kernel
theorem dX5_begin_155 : decode cX5_begin 155 = .ok (.getfield 168, 3) := by decide +kernel
theorem dX5_begin_158 : decode cX5_begin 158 = .ok (.i2l, 1) := by decide +kernel
theorem dX5_begin_159 : decode cX5_begin 159 = .ok (.invokevirtual 144, 3) := by decide +kernel
theorem dX5_begin_162 : decode cX5_begin 162 = .ok (.aload_n 0, 1) := by decide +kernel
theorem dX5_begin_163 : decode cX5_begin 163 = .ok (.iconst 4, 1) := by decide +kernel
theorem dX5_begin_164 : decode cX5_begin 164 = .ok (.aload_n 0, 1) := by decide +kernel
theorem dX5_begin_165 : decode cX5_begin 165 = .ok (.getfield 174, 3) := by decide +kernel
theorem dX5_begin_168 : decode cX5_begin 168 = .ok (.i2l, 1) := by decide +kernel
theorem dX5_begin_169 : decode cX5_begin 169 = .ok (.invokevirtual 144, 3) := by decide +kernel
theorem dX5_begin_172 : decode cX5_begin 172 = .ok (.aload_n 0, 1) := by decide +kernel
theorem dX5_begin_173 : decode cX5_begin 173 = .ok (.iconst 4, 1) := by decide +kernel
theorem dX5_begin_174 : decode cX5_begin 174 = .ok (.iload 4, 2) := by decide +kernel
theorem dX5_begin_176 : decode cX5_begin 176 = .ok (.i2l, 1) := by decide +kernel
theorem dX5_begin_177 : decode cX5_begin 177 = .ok (.invokevirtual 144, 3) := by decide +kernel
theorem dX5_begin_180 : decode cX5_begin 180 = .ok (.aload_n 0, 1) := by decide +kernel
theorem dX5_begin_181 : decode cX5_begin 181 = .ok (.iconst 4, 1) := by decide +kernel
theorem dX5_begin_182 : decode cX5_begin 182 = .ok (.aload_n 0, 1) := by decide +kernel
theorem dX5_begin_183 : decode cX5_begin 183 = .ok (.getfield 171, 3) := by decide +kernel
theorem dX5_begin_186 : decode cX5_begin 186 = .ok (.i2l, 1) := by decide +kernel
theorem dX5_begin_187 : decode cX5_begin 187 = .ok (.invokevirtual 144, 3) := by decide +kernel
theorem dX5_begin_190 : decode cX5_begin 190 = .ok (.aload_n 0, 1) := by decide +kernel
theorem dX5_begin_191 : decode cX5_begin 191 = .ok (.iconst 4, 1) := by decide +kernel
theorem dX5_begin_192 : decode cX5_begin 192 = .ok (.ldc2_w 183, 3) := by decide +kernel
theorem dX5_begin_195 : decode cX5_begin 195 = .ok (.invokevirtual 144, 3) := by decide +kernel
theorem dX5_begin_198 : decode cX5_begin 198 = .ok (.aload_n 0, 1) := by decide +kernel
theorem dX5_begin_199 : decode cX5_begin 199 = .ok (.iconst 4, 1) := by decide +kernel
theorem dX5_begin_200 : decode cX5_begin 200 = .ok (.aload_n 0, 1) := by decide +kernel
theorem dX5_begin_201 : decode cX5_begin 201 = .ok (.getfield 165, 3) := by decide +kernel
theorem dX5_begin_204 : decode cX5_begin 204 = .ok (.i2l, 1) := by decide +kernel
theorem dX5_begin_205 : decode cX5_begin 205 = .ok (.invokevirtual 144, 3) := by decide +kernel
theorem dX5_begin_208 : decode cX5_begin 208 = .ok (.aload_n 0, 1) := by decide +kernel
theorem dX5_begin_209 : decode cX5_begin 209 = .ok (.iload 6, 2) := by decide +kernel
theorem dX5_begin_211 : decode cX5_begin 211 = .ok (.invokevirtual 185, 3) := by decide +kernel
theorem dX5_begin_214 : decode cX5_begin 214 = .ok (.aload_n 0, 1) := by decide +kernel
theorem dX5_begin_215 : decode cX5_begin 215 = .ok (.iload 7, 2) := by decide +kernel
theorem dX5_begin_217 : decode cX5_begin 217 = .ok (.invokevirtual 185, 3) := by decide +kernel
theorem dX5_begin_220 : decode cX5_begin 220 = .ok (.aload_n 0, 1) := by decide +kernel
theorem dX5_begin_221 : decode cX5_begin 221 = .ok (.iload 8, 2) := by decide +kernel
theorem dX5_begin_223 : decode cX5_begin 223 = .ok (.invokevirtual 185, 3) := by decide +kernel
theorem dX5_begin_226 : decode cX5_begin 226 = .ok (.aload_n 0, 1) := by decide +kernel
theorem dX5_begin_227 : decode cX5_begin 227 = .ok (.iload 9, 2) := by decide +kernel
theorem dX5_begin_229 : decode cX5_begin 229 = .ok (.invokevirtual 185, 3) := by decide +kernel
theorem dX5_begin_232 : decode cX5_begin 232 = .ok (.aload_n 0, 1) := by decide +kernel
theorem dX5_begin_233 : decode cX5_begin 233 = .ok (.iconst 0, 1) := by decide +kernel
theorem dX5_begin_234 : decode cX5_begin 234 = .ok (.bipush 64, 2) := by decide +kernel
theorem dX5_begin_236 : decode cX5_begin 236 = .ok (.invokevirtual 140, 3) := by decide +kernel
theorem dX5_begin_239 : decode cX5_begin 239 = .ok (.iconst 0, 1) := by decide +kernel
theorem dX5_begin_240 : decode cX5_begin 240 = .ok (.istore 10, 2) := by decide +kernel
theorem dX5_begin_242 : decode cX5_begin 242 = .ok (.iload 10, 2) := by decide +kernel
theorem dX5_begin_244 : decode cX5_begin 244 = .ok (.bipush 64, 2) := by decide +kernel
theorem dX5_begin_246 : decode cX5_begin 246 = .ok (.if_icmp .ge 24, 3) := by decide +kernel
theorem dX5_begin_249 : decode cX5_begin 249 = .ok (.aload_n 0, 1) := by decide +kernel
theorem dX5_begin_250 : decode cX5_begin 250 = .ok (.getfield 47, 3) := by decide +kernel
theorem dX5_begin_253 : decode cX5_begin 253 = .ok (.iload 10, 2) := by decide +kernel
theorem dX5_begin_255 : decode cX5_begin 255 = .ok (.aload_n 0, 1) := by decide +kernel
theorem dX5_begin_256 : decode cX5_begin 256 = .ok (.getfield 32, 3) := by decide +kernel
theorem dX5_begin_259 : decode cX5_begin 259 = .ok (.iload 10, 2) := by decide +kernel
theorem dX5_begin_261 : decode cX5_begin 261 = .ok (.iaload, 1) := by decide +kernel
theorem dX5_begin_262 : decode cX5_begin 262 = .ok (.i2l, 1) := by decide +kernel
theorem dX5_begin_263 : decode cX5_begin 263 = .ok (.lastore, 1) := by decide +kernel
theorem dX5_begin_264 : decode cX5_begin 264 = .ok (.iinc 10 1, 3) := by decide +kernel
theorem dX5_begin_267 : decode cX5_begin 267 = .ok (.goto (-25), 3) := by decide +kernel
theorem dX5_begin_270 : decode cX5_begin 270 = .ok (.iconst 0, 1) := by decide +kernel
theorem dX5_begin_271 : decode cX5_begin 271 = .ok (.istore 10, 2) := by decide +kernel
theorem dX5_begin_273 : decode cX5_begin 273 = .ok (.iload 10, 2) := by decide +kernel
theorem dX5_begin_275 : decode cX5_begin 275 = .ok (.sipush 16384, 3) := by decide +kernel
theorem dX5_begin_278 : decode cX5_begin 278 = .ok (.if_icmp .ge 17, 3) := by decide +kernel
theorem dX5_begin_281 : decode cX5_begin 281 = .ok (.aload_n 0, 1) := by decide +kernel
theorem dX5_begin_282 : decode cX5_begin 282 = .ok (.getfield 35, 3) := by decide +kernel
theorem dX5_begin_285 : decode cX5_begin 285 = .ok (.iload 10, 2) := by decide +kernel
theorem dX5_begin_287 : decode cX5_begin 287 = .ok (.lconst 0, 1) := by decide +kernel
theorem dX5_begin_288 : decode cX5_begin 288 = .ok (.lastore, 1) := by decide +kernel
theorem dX5_begin_289 : decode cX5_begin 289 = .ok (.iinc 10 1, 3) := by decide +kernel
theorem dX5_begin_292 : decode cX5_begin 292 = .ok (.goto (-19), 3) := by decide +kernel
theorem dX5_begin_295 : decode cX5_begin 295 = .ok (.iconst 0, 1) := by decide +kernel
theorem dX5_begin_296 : decode cX5_begin 296 = .ok (.istore 10, 2) := by decide +kernel
theorem dX5_begin_298 : decode cX5_begin 298 = .ok (.iload 10, 2) := by decide +kernel
theorem dX5_begin_300 : decode cX5_begin 300 = .ok (.aload_n 0, 1) := by decide +kernel
theorem dX5_begin_301 : decode cX5_begin 301 = .ok (.getfield 168, 3) := by decide +kernel
theorem dX5_begin_304 : decode cX5_begin 304 = .ok (.if_icmp .ge 144, 3) := by decide +kernel
theorem dX5_begin_307 : decode cX5_begin 307 = .ok (.iconst 0, 1) := by decide +kernel
theorem dX5_begin_308 : decode cX5_begin 308 = .ok (.istore 11, 2) := by decide +kernel
theorem dX5_begin_310 : decode cX5_begin 310 = .ok (.iload 11, 2) := by decide +kernel
theorem dX5_begin_312 : decode cX5_begin 312 = .ok (.iconst 2, 1) := by decide +kernel
theorem dX5_begin_313 : decode cX5_begin 313 = .ok (.if_icmp .ge 129, 3) := by decide +kernel
theorem dX5_begin_316 : decode cX5_begin 316 = .ok (.aload_n 0, 1) := by decide +kernel
theorem dX5_begin_317 : decode cX5_begin 317 = .ok (.iconst 4, 1) := by decide +kernel
theorem dX5_begin_318 : decode cX5_begin 318 = .ok (.putfield 109, 3) := by decide +kernel
theorem dX5_begin_321 : decode cX5_begin 321 = .ok (.iconst 0, 1) := by decide +kernel
theorem dX5_begin_322 : decode cX5_begin 322 = .ok (.istore 12, 2) := by decide +kernel
theorem dX5_begin_324 : decode cX5_begin 324 = .ok (.iload 12, 2) := by decide +kernel
theorem dX5_begin_326 : decode cX5_begin 326 = .ok (.bipush 64, 2) := by decide +kernel
theorem dX5_begin_328 : decode cX5_begin 328 = .ok (.if_icmp .ge 21, 3) := by decide +kernel
theorem dX5_begin_331 : decode cX5_begin 331 = .ok (.aload_n 0, 1) := by decide +kernel
theorem dX5_begin_332 : decode cX5_begin 332 = .ok (.iconst 1, 1) := by decide +kernel
theorem dX5_begin_333 : decode cX5_begin 333 = .ok (.aload_n 0, 1) := by decide +kernel
theorem dX5_begin_334 : decode cX5_begin 334 = .ok (.getfield 47, 3) := by decide +kernel
theorem dX5_begin_337 : decode cX5_begin 337 = .ok (.iload 12, 2) := by decide +kernel
theorem dX5_begin_339 : decode cX5_begin 339 = .ok (.laload, 1) := by decide +kernel
theorem dX5_begin_340 : decode cX5_begin 340 = .ok (.invokevirtual 144, 3) := by decide +kernel
theorem dX5_begin_343 : decode cX5_begin 343 = .ok (.iinc 12 1, 3) := by decide +kernel
theorem dX5_begin_346 : decode cX5_begin 346 = .ok (.goto (-22), 3) := by decide +kernel
theorem dX5_begin_349 : decode cX5_begin 349 = .ok (.aload_n 0, 1) := by decide +kernel
theorem dX5_begin_350 : decode cX5_begin 350 = .ok (.iconst 4, 1) := by decide +kernel
theorem dX5_begin_351 : decode cX5_begin 351 = .ok (.iload 11, 2) := by decide +kernel
theorem dX5_begin_353 : decode cX5_begin 353 = .ok (.i2l, 1) := by decide +kernel
theorem dX5_begin_354 : decode cX5_begin 354 = .ok (.invokevirtual 144, 3) := by decide +kernel
theorem dX5_begin_357 : decode cX5_begin 357 = .ok (.aload_n 0, 1) := by decide +kernel
theorem dX5_begin_358 : decode cX5_begin 358 = .ok (.iconst 4, 1) := by decide +kernel
theorem dX5_begin_359 : decode cX5_begin 359 = .ok (.iload 10, 2) := by decide +kernel
theorem dX5_begin_361 : decode cX5_begin 361 = .ok (.i2l, 1) := by decide +kernel
theorem dX5_begin_362 : decode cX5_begin 362 = .ok (.invokevirtual 144, 3) := by decide +kernel
theorem dX5_begin_365 : decode cX5_begin 365 = .ok (.aload_n 0, 1) := by decide +kernel
theorem dX5_begin_366 : decode cX5_begin 366 = .ok (.sipush 1024, 3) := by decide +kernel
theorem dX5_begin_369 : decode cX5_begin 369 = .ok (.invokevirtual 155, 3) := by decide +kernel
theorem dX5_begin_372 : decode cX5_begin 372 = .ok (.iconst 0, 1) := by decide +kernel
theorem dX5_begin_373 : decode cX5_begin 373 = .ok (.istore 12, 2) := by decide +kernel
theorem dX5_begin_375 : decode cX5_begin 375 = .ok (.iload 12, 2) := by decide +kernel
theorem dX5_begin_377 : decode cX5_begin 377 = .ok (.sipush 1024, 3) := by decide +kernel
theorem dX5_begin_380 : decode cX5_begin 380 = .ok (.if_icmp .ge 56, 3) := by decide +kernel
theorem dX5_begin_383 : decode cX5_begin 383 = .ok (.aload_n 0, 1) := by decide +kernel
theorem dX5_begin_384 : decode cX5_begin 384 = .ok (.getfield 35, 3) := by decide +kernel
theorem dX5_begin_387 : decode cX5_begin 387 = .ok (.sipush 128, 3) := by decide +kernel
theorem dX5_begin_390 : decode cX5_begin 390 = .ok (.iconst 4, 1) := by decide +kernel
theorem dX5_begin_391 : decode cX5_begin 391 = .ok (.aload_n 0, 1) := by decide +kernel
theorem dX5_begin_392 : decode cX5_begin 392 = .ok (.getfield 177, 3) := by decide +kernel
theorem dX5_begin_395 : decode cX5_begin 395 = .ok (.imul, 1) := by decide +kernel
theorem dX5_begin_396 : decode cX5_begin 396 = .ok (.iload 10, 2) := by decide +kernel
theorem dX5_begin_398 : decode cX5_begin 398 = .ok (.imul, 1) := by decide +kernel
theorem dX5_begin_399 : decode cX5_begin 399 = .ok (.iload 11, 2) := by decide +kernel
theorem dX5_begin_401 : decode cX5_begin 401 = .ok (.iadd, 1) := by decide +kernel
theorem dX5_begin_402 : decode cX5_begin 402 = .ok (.imul, 1) := by decide +kernel
theorem dX5_begin_403 : decode cX5_begin 403 = .ok (.iload 12, 2) := by decide +kernel
theorem dX5_begin_405 : decode cX5_begin 405 = .ok (.bipush 8, 2) := by decide +kernel
theorem dX5_begin_407 : decode cX5_begin 407 = .ok (.idiv, 1) := by decide +kernel
theorem dX5_begin_408 : decode cX5_begin 408 = .ok (.iadd, 1) := by decide +kernel
theorem dX5_begin_409 : decode cX5_begin 409 = .ok (.dup2, 1) := by decide +kernel
theorem dX5_begin_410 : decode cX5_begin 410 = .ok (.laload, 1) := by decide +kernel
theorem dX5_begin_411 : decode cX5_begin 411 = .ok (.aload_n 0, 1) := by decide +kernel
theorem dX5_begin_412 : decode cX5_begin 412 = .ok (.getfield 32, 3) := by decide +kernel
theorem dX5_begin_415 : decode cX5_begin 415 = .ok (.iload 12, 2) := by decide +kernel
theorem dX5_begin_417 : decode cX5_begin 417 = .ok (.iaload, 1) := by decide +kernel
theorem dX5_begin_418 : decode cX5_begin 418 = .ok (.i2l, 1) := by decide +kernel
theorem dX5_begin_419 : decode cX5_begin 419 = .ok (.bipush 8, 2) := by decide +kernel
theorem dX5_begin_421 : decode cX5_begin 421 = .ok (.iload 12, 2) := by decide +kernel
theorem dX5_begin_423 : decode cX5_begin 423 = .ok (.bipush 8, 2) := by decide +kernel
theorem dX5_begin_425 : decode cX5_begin 425 = .ok (.irem, 1) := by decide +kernel
theorem dX5_begin_426 : decode cX5_begin 426 = .ok (.imul, 1) := by decide +kernel
theorem dX5_begin_427 : decode cX5_begin 427 = .ok (.lshl, 1) := by decide +kernel
theorem dX5_begin_428 : decode cX5_begin 428 = .ok (.lor, 1) := by decide +kernel
theorem dX5_begin_429 : decode cX5_begin 429 = .ok (.lastore, 1) := by decide +kernel
theorem dX5_begin_430 : decode cX5_begin 430 = .ok (.iinc 12 1, 3) := by decide +kernel
theorem dX5_begin_433 : decode cX5_begin 433 = .ok (.goto (-58), 3) := by decide +kernel
theorem dX5_begin_436 : decode cX5_begin 436 = .ok (.iinc 11 1, 3) := by decide +kernel
theorem dX5_begin_439 : decode cX5_begin 439 = .ok (.goto (-129), 3) := by decide +kernel
theorem dX5_begin_442 : decode cX5_begin 442 = .ok (.iinc 10 1, 3) := by decide +kernel
theorem dX5_begin_445 : decode cX5_begin 445 = .ok (.goto (-147), 3) := by decide +kernel
theorem dX5_begin_448 : decode cX5_begin 448 = .ok (.iconst 4, 1) := by decide +kernel
theorem dX5_begin_449 : decode cX5_begin 449 = .ok (.aload_n 0, 1) := by decide +kernel
theorem dX5_begin_450 : decode cX5_begin 450 = .ok (.getfield 177, 3) := by decide +kernel
theorem dX5_begin_453 : decode cX5_begin 453 = .ok (.imul, 1) := by decide +kernel
theorem dX5_begin_454 : decode cX5_begin 454 = .ok (.aload_n 0, 1) := by decide +kernel
theorem dX5_begin_455 : decode cX5_begin 455 = .ok (.getfield 168, 3) := by decide +kernel
theorem dX5_begin_458 : decode cX5_begin 458 = .ok (.imul, 1) := by decide +kernel
theorem dX5_begin_459 : decode cX5_begin 459 = .ok (.ireturn, 1) := by decide +kernel
theorem dX5_half_0 : decode cX5_half 0 = .ok (.lload_n 0, 1) := by decide +kernel
theorem dX5_half_1 : decode cX5_half 1 = .ok (.ldc2_w 188, 3) := by decide +kernel
theorem dX5_half_4 : decode cX5_half 4 = .ok (.land, 1) := by decide +kernel
theorem dX5_half_5 : decode cX5_half 5 = .ok (.lreturn, 1) := by decide +kernel
theorem dX5_hard_0 : decode cX5_hard 0 = .ok (.aload_n 0, 1) := by decide +kernel
theorem dX5_hard_1 : decode cX5_hard 1 = .ok (.getfield 44, 3) := by decide +kernel
theorem dX5_hard_4 : decode cX5_hard 4 = .ok (.iload_n 1, 1) := by decide +kernel
theorem dX5_hard_5 : decode cX5_hard 5 = .ok (.laload, 1) := by decide +kernel
theorem dX5_hard_6 : decode cX5_hard 6 = .ok (.lstore 5, 2) := by decide +kernel
theorem dX5_hard_8 : decode cX5_hard 8 = .ok (.aload_n 0, 1) := by decide +kernel
theorem dX5_hard_9 : decode cX5_hard 9 = .ok (.getfield 44, 3) := by decide +kernel
theorem dX5_hard_12 : decode cX5_hard 12 = .ok (.iload_n 2, 1) := by decide +kernel
theorem dX5_hard_13 : decode cX5_hard 13 = .ok (.laload, 1) := by decide +kernel
theorem dX5_hard_14 : decode cX5_hard 14 = .ok (.lstore 7, 2) := by decide +kernel
theorem dX5_hard_16 : decode cX5_hard 16 = .ok (.aload_n 0, 1) := by decide +kernel
theorem dX5_hard_17 : decode cX5_hard 17 = .ok (.getfield 44, 3) := by decide +kernel
theorem dX5_hard_20 : decode cX5_hard 20 = .ok (.iload_n 3, 1) := by decide +kernel
theorem dX5_hard_21 : decode cX5_hard 21 = .ok (.laload, 1) := by decide +kernel
theorem dX5_hard_22 : decode cX5_hard 22 = .ok (.lstore 9, 2) := by decide +kernel
theorem dX5_hard_24 : decode cX5_hard 24 = .ok (.aload_n 0, 1) := by decide +kernel
theorem dX5_hard_25 : decode cX5_hard 25 = .ok (.getfield 44, 3) := by decide +kernel
theorem dX5_hard_28 : decode cX5_hard 28 = .ok (.iload 4, 2) := by decide +kernel
theorem dX5_hard_30 : decode cX5_hard 30 = .ok (.laload, 1) := by decide +kernel
theorem dX5_hard_31 : decode cX5_hard 31 = .ok (.lstore 11, 2) := by decide +kernel
theorem dX5_hard_33 : decode cX5_hard 33 = .ok (.lload 5, 2) := by decide +kernel
theorem dX5_hard_35 : decode cX5_hard 35 = .ok (.lload 7, 2) := by decide +kernel
theorem dX5_hard_37 : decode cX5_hard 37 = .ok (.ldc2_w 190, 3) := by decide +kernel
theorem dX5_hard_40 : decode cX5_hard 40 = .ok (.lload 5, 2) := by decide +kernel
theorem dX5_hard_42 : decode cX5_hard 42 = .ok (.invokestatic 192, 3) := by decide +kernel
theorem dX5_hard_45 : decode cX5_hard 45 = .ok (.lmul, 1) := by decide +kernel
theorem dX5_hard_46 : decode cX5_hard 46 = .ok (.lload 7, 2) := by decide +kernel
theorem dX5_hard_48 : decode cX5_hard 48 = .ok (.invokestatic 192, 3) := by decide +kernel
theorem dX5_hard_51 : decode cX5_hard 51 = .ok (.lmul, 1) := by decide +kernel
theorem dX5_hard_52 : decode cX5_hard 52 = .ok (.ladd, 1) := by decide +kernel
theorem dX5_hard_53 : decode cX5_hard 53 = .ok (.ladd, 1) := by decide +kernel
theorem dX5_hard_54 : decode cX5_hard 54 = .ok (.lstore 5, 2) := by decide +kernel
theorem dX5_hard_56 : decode cX5_hard 56 = .ok (.lload 11, 2) := by decide +kernel
theorem dX5_hard_58 : decode cX5_hard 58 = .ok (.lload 5, 2) := by decide +kernel
theorem dX5_hard_60 : decode cX5_hard 60 = .ok (.lxor, 1) := by decide +kernel
theorem dX5_hard_61 : decode cX5_hard 61 = .ok (.bipush 32, 2) := by decide +kernel
theorem dX5_hard_63 : decode cX5_hard 63 = .ok (.invokestatic 100, 3) := by decide +kernel
theorem dX5_hard_66 : decode cX5_hard 66 = .ok (.lstore 11, 2) := by decide +kernel
theorem dX5_hard_68 : decode cX5_hard 68 = .ok (.lload 9, 2) := by decide +kernel
theorem dX5_hard_70 : decode cX5_hard 70 = .ok (.lload 11, 2) := by decide +kernel
theorem dX5_hard_72 : decode cX5_hard 72 = .ok (.ldc2_w 190, 3) := by decide +kernel
theorem dX5_hard_75 : decode cX5_hard 75 = .ok (.lload 9, 2) := by decide +kernel
theorem dX5_hard_77 : decode cX5_hard 77 = .ok (.invokestatic 192, 3) := by decide +kernel
theorem dX5_hard_80 : decode cX5_hard 80 = .ok (.lmul, 1) := by decide +kernel
theorem dX5_hard_81 : decode cX5_hard 81 = .ok (.lload 11, 2) := by decide +kernel
theorem dX5_hard_83 : decode cX5_hard 83 = .ok (.invokestatic 192, 3) := by decide +kernel
theorem dX5_hard_86 : decode cX5_hard 86 = .ok (.lmul, 1) := by decide +kernel
theorem dX5_hard_87 : decode cX5_hard 87 = .ok (.ladd, 1) := by decide +kernel
theorem dX5_hard_88 : decode cX5_hard 88 = .ok (.ladd, 1) := by decide +kernel
theorem dX5_hard_89 : decode cX5_hard 89 = .ok (.lstore 9, 2) := by decide +kernel
theorem dX5_hard_91 : decode cX5_hard 91 = .ok (.lload 7, 2) := by decide +kernel
theorem dX5_hard_93 : decode cX5_hard 93 = .ok (.lload 9, 2) := by decide +kernel
theorem dX5_hard_95 : decode cX5_hard 95 = .ok (.lxor, 1) := by decide +kernel
theorem dX5_hard_96 : decode cX5_hard 96 = .ok (.bipush 24, 2) := by decide +kernel
theorem dX5_hard_98 : decode cX5_hard 98 = .ok (.invokestatic 100, 3) := by decide +kernel
theorem dX5_hard_101 : decode cX5_hard 101 = .ok (.lstore 7, 2) := by decide +kernel
theorem dX5_hard_103 : decode cX5_hard 103 = .ok (.lload 5, 2) := by decide +kernel
theorem dX5_hard_105 : decode cX5_hard 105 = .ok (.lload 7, 2) := by decide +kernel
theorem dX5_hard_107 : decode cX5_hard 107 = .ok (.ldc2_w 190, 3) := by decide +kernel
theorem dX5_hard_110 : decode cX5_hard 110 = .ok (.lload 5, 2) := by decide +kernel
theorem dX5_hard_112 : decode cX5_hard 112 = .ok (.invokestatic 192, 3) := by decide +kernel
theorem dX5_hard_115 : decode cX5_hard 115 = .ok (.lmul, 1) := by decide +kernel
theorem dX5_hard_116 : decode cX5_hard 116 = .ok (.lload 7, 2) := by decide +kernel
theorem dX5_hard_118 : decode cX5_hard 118 = .ok (.invokestatic 192, 3) := by decide +kernel
theorem dX5_hard_121 : decode cX5_hard 121 = .ok (.lmul, 1) := by decide +kernel
theorem dX5_hard_122 : decode cX5_hard 122 = .ok (.ladd, 1) := by decide +kernel
theorem dX5_hard_123 : decode cX5_hard 123 = .ok (.ladd, 1) := by decide +kernel
theorem dX5_hard_124 : decode cX5_hard 124 = .ok (.lstore 5, 2) := by decide +kernel
theorem dX5_hard_126 : decode cX5_hard 126 = .ok (.lload 11, 2) := by decide +kernel
theorem dX5_hard_128 : decode cX5_hard 128 = .ok (.lload 5, 2) := by decide +kernel
theorem dX5_hard_130 : decode cX5_hard 130 = .ok (.lxor, 1) := by decide +kernel
theorem dX5_hard_131 : decode cX5_hard 131 = .ok (.bipush 16, 2) := by decide +kernel
theorem dX5_hard_133 : decode cX5_hard 133 = .ok (.invokestatic 100, 3) := by decide +kernel
theorem dX5_hard_136 : decode cX5_hard 136 = .ok (.lstore 11, 2) := by decide +kernel
theorem dX5_hard_138 : decode cX5_hard 138 = .ok (.lload 9, 2) := by decide +kernel
theorem dX5_hard_140 : decode cX5_hard 140 = .ok (.lload 11, 2) := by decide +kernel
theorem dX5_hard_142 : decode cX5_hard 142 = .ok (.ldc2_w 190, 3) := by decide +kernel
theorem dX5_hard_145 : decode cX5_hard 145 = .ok (.lload 9, 2) := by decide +kernel
theorem dX5_hard_147 : decode cX5_hard 147 = .ok (.invokestatic 192, 3) := by decide +kernel
theorem dX5_hard_150 : decode cX5_hard 150 = .ok (.lmul, 1) := by decide +kernel
theorem dX5_hard_151 : decode cX5_hard 151 = .ok (.lload 11, 2) := by decide +kernel
theorem dX5_hard_153 : decode cX5_hard 153 = .ok (.invokestatic 192, 3) := by decide +kernel
theorem dX5_hard_156 : decode cX5_hard 156 = .ok (.lmul, 1) := by decide +kernel
theorem dX5_hard_157 : decode cX5_hard 157 = .ok (.ladd, 1) := by decide +kernel
theorem dX5_hard_158 : decode cX5_hard 158 = .ok (.ladd, 1) := by decide +kernel
theorem dX5_hard_159 : decode cX5_hard 159 = .ok (.lstore 9, 2) := by decide +kernel
theorem dX5_hard_161 : decode cX5_hard 161 = .ok (.lload 7, 2) := by decide +kernel
theorem dX5_hard_163 : decode cX5_hard 163 = .ok (.lload 9, 2) := by decide +kernel
theorem dX5_hard_165 : decode cX5_hard 165 = .ok (.lxor, 1) := by decide +kernel
theorem dX5_hard_166 : decode cX5_hard 166 = .ok (.bipush 63, 2) := by decide +kernel
theorem dX5_hard_168 : decode cX5_hard 168 = .ok (.invokestatic 100, 3) := by decide +kernel
theorem dX5_hard_171 : decode cX5_hard 171 = .ok (.lstore 7, 2) := by decide +kernel
theorem dX5_hard_173 : decode cX5_hard 173 = .ok (.aload_n 0, 1) := by decide +kernel
theorem dX5_hard_174 : decode cX5_hard 174 = .ok (.getfield 44, 3) := by decide +kernel
theorem dX5_hard_177 : decode cX5_hard 177 = .ok (.iload_n 1, 1) := by decide +kernel
theorem dX5_hard_178 : decode cX5_hard 178 = .ok (.lload 5, 2) := by decide +kernel
theorem dX5_hard_180 : decode cX5_hard 180 = .ok (.lastore, 1) := by decide +kernel
theorem dX5_hard_181 : decode cX5_hard 181 = .ok (.aload_n 0, 1) := by decide +kernel
theorem dX5_hard_182 : decode cX5_hard 182 = .ok (.getfield 44, 3) := by decide +kernel
theorem dX5_hard_185 : decode cX5_hard 185 = .ok (.iload_n 2, 1) := by decide +kernel
theorem dX5_hard_186 : decode cX5_hard 186 = .ok (.lload 7, 2) := by decide +kernel
theorem dX5_hard_188 : decode cX5_hard 188 = .ok (.lastore, 1) := by decide +kernel
theorem dX5_hard_189 : decode cX5_hard 189 = .ok (.aload_n 0, 1) := by decide +kernel
theorem dX5_hard_190 : decode cX5_hard 190 = .ok (.getfield 44, 3) := by decide +kernel
theorem dX5_hard_193 : decode cX5_hard 193 = .ok (.iload_n 3, 1) := by decide +kernel
theorem dX5_hard_194 : decode cX5_hard 194 = .ok (.lload 9, 2) := by decide +kernel
theorem dX5_hard_196 : decode cX5_hard 196 = .ok (.lastore, 1) := by decide +kernel
theorem dX5_hard_197 : decode cX5_hard 197 = .ok (.aload_n 0, 1) := by decide +kernel
theorem dX5_hard_198 : decode cX5_hard 198 = .ok (.getfield 44, 3) := by decide +kernel
theorem dX5_hard_201 : decode cX5_hard 201 = .ok (.iload 4, 2) := by decide +kernel
theorem dX5_hard_203 : decode cX5_hard 203 = .ok (.lload 11, 2) := by decide +kernel
theorem dX5_hard_205 : decode cX5_hard 205 = .ok (.lastore, 1) := by decide +kernel
theorem dX5_hard_206 : decode cX5_hard 206 = .ok (.return_, 1) := by decide +kernel
theorem dX5_spot_0 : decode cX5_spot 0 = .ok (.iload_n 1, 1) := by decide +kernel
theorem dX5_spot_1 : decode cX5_spot 1 = .ok (.ifCond .eq 18, 3) := by decide +kernel
theorem dX5_spot_4 : decode cX5_spot 4 = .ok (.iload_n 0, 1) := by decide +kernel
theorem dX5_spot_5 : decode cX5_spot 5 = .ok (.bipush 16, 2) := by decide +kernel
theorem dX5_spot_7 : decode cX5_spot 7 = .ok (.iload_n 2, 1) := by decide +kernel
theorem dX5_spot_8 : decode cX5_spot 8 = .ok (.iconst 2, 1) := by decide +kernel
theorem dX5_spot_9 : decode cX5_spot 9 = .ok (.idiv, 1) := by decide +kernel
theorem dX5_spot_10 : decode cX5_spot 10 = .ok (.imul, 1) := by decide +kernel
theorem dX5_spot_11 : decode cX5_spot 11 = .ok (.iadd, 1) := by decide +kernel
theorem dX5_spot_12 : decode cX5_spot 12 = .ok (.iload_n 2, 1) := by decide +kernel
theorem dX5_spot_13 : decode cX5_spot 13 = .ok (.iconst 2, 1) := by decide +kernel
theorem dX5_spot_14 : decode cX5_spot 14 = .ok (.irem, 1) := by decide +kernel
theorem dX5_spot_15 : decode cX5_spot 15 = .ok (.iadd, 1) := by decide +kernel
theorem dX5_spot_16 : decode cX5_spot 16 = .ok (.goto 6, 3) := by decide +kernel
theorem dX5_spot_19 : decode cX5_spot 19 = .ok (.iload_n 0, 1) := by decide +kernel
theorem dX5_spot_20 : decode cX5_spot 20 = .ok (.iload_n 2, 1) := by decide +kernel
theorem dX5_spot_21 : decode cX5_spot 21 = .ok (.iadd, 1) := by decide +kernel
theorem dX5_spot_22 : decode cX5_spot 22 = .ok (.ireturn, 1) := by decide +kernel
theorem dX5_quarter_0 : decode cX5_quarter 0 = .ok (.aload_n 0, 1) := by decide +kernel
theorem dX5_quarter_1 : decode cX5_quarter 1 = .ok (.iload_n 1, 1) := by decide +kernel
theorem dX5_quarter_2 : decode cX5_quarter 2 = .ok (.iload_n 2, 1) := by decide +kernel
theorem dX5_quarter_3 : decode cX5_quarter 3 = .ok (.iload_n 3, 1) := by decide +kernel
theorem dX5_quarter_4 : decode cX5_quarter 4 = .ok (.invokestatic 196, 3) := by decide +kernel
theorem dX5_quarter_7 : decode cX5_quarter 7 = .ok (.iload_n 1, 1) := by decide +kernel
theorem dX5_quarter_8 : decode cX5_quarter 8 = .ok (.iload_n 2, 1) := by decide +kernel
theorem dX5_quarter_9 : decode cX5_quarter 9 = .ok (.iload 4, 2) := by decide +kernel
theorem dX5_quarter_11 : decode cX5_quarter 11 = .ok (.invokestatic 196, 3) := by decide +kernel
theorem dX5_quarter_14 : decode cX5_quarter 14 = .ok (.iload_n 1, 1) := by decide +kernel
theorem dX5_quarter_15 : decode cX5_quarter 15 = .ok (.iload_n 2, 1) := by decide +kernel
theorem dX5_quarter_16 : decode cX5_quarter 16 = .ok (.iload 5, 2) := by decide +kernel
theorem dX5_quarter_18 : decode cX5_quarter 18 = .ok (.invokestatic 196, 3) := by decide +kernel
theorem dX5_quarter_21 : decode cX5_quarter 21 = .ok (.iload_n 1, 1) := by decide +kernel
theorem dX5_quarter_22 : decode cX5_quarter 22 = .ok (.iload_n 2, 1) := by decide +kernel
theorem dX5_quarter_23 : decode cX5_quarter 23 = .ok (.iload 6, 2) := by decide +kernel
theorem dX5_quarter_25 : decode cX5_quarter 25 = .ok (.invokestatic 196, 3) := by decide +kernel
theorem dX5_quarter_28 : decode cX5_quarter 28 = .ok (.invokevirtual 200, 3) := by decide +kernel
theorem dX5_quarter_31 : decode cX5_quarter 31 = .ok (.return_, 1) := by decide +kernel
end
section
theorem dX5_stir_0 : decode cX5_stir 0 = .ok (.aload_n 0, 1) := by decide +kernel
theorem dX5_stir_1 : decode cX5_stir 1 = .ok (.iload_n 1, 1) := by decide +kernel
theorem dX5_stir_2 : decode cX5_stir 2 = .ok (.iload_n 2, 1) := by decide +kernel
theorem dX5_stir_3 : decode cX5_stir 3 = .ok (.iconst 0, 1) := by decide +kernel
theorem dX5_stir_4 : decode cX5_stir 4 = .ok (.iconst 4, 1) := by decide +kernel
theorem dX5_stir_5 : decode cX5_stir 5 = .ok (.bipush 8, 2) := by decide +kernel
theorem dX5_stir_7 : decode cX5_stir 7 = .ok (.bipush 12, 2) := by decide +kernel
theorem dX5_stir_9 : decode cX5_stir 9 = .ok (.invokevirtual 204, 3) := by decide +kernel
theorem dX5_stir_12 : decode cX5_stir 12 = .ok (.aload_n 0, 1) := by decide +kernel
theorem dX5_stir_13 : decode cX5_stir 13 = .ok (.iload_n 1, 1) := by decide +kernel
theorem dX5_stir_14 : decode cX5_stir 14 = .ok (.iload_n 2, 1) := by decide +kernel
theorem dX5_stir_15 : decode cX5_stir 15 = .ok (.iconst 1, 1) := by decide +kernel
theorem dX5_stir_16 : decode cX5_stir 16 = .ok (.iconst 5, 1) := by decide +kernel
theorem dX5_stir_17 : decode cX5_stir 17 = .ok (.bipush 9, 2) := by decide +kernel
theorem dX5_stir_19 : decode cX5_stir 19 = .ok (.bipush 13, 2) := by decide +kernel
theorem dX5_stir_21 : decode cX5_stir 21 = .ok (.invokevirtual 204, 3) := by decide +kernel
theorem dX5_stir_24 : decode cX5_stir 24 = .ok (.aload_n 0, 1) := by decide +kernel
theorem dX5_stir_25 : decode cX5_stir 25 = .ok (.iload_n 1, 1) := by decide +kernel
theorem dX5_stir_26 : decode cX5_stir 26 = .ok (.iload_n 2, 1) := by decide +kernel
theorem dX5_stir_27 : decode cX5_stir 27 = .ok (.iconst 2, 1) := by decide +kernel
theorem dX5_stir_28 : decode cX5_stir 28 = .ok (.bipush 6, 2) := by decide +kernel
theorem dX5_stir_30 : decode cX5_stir 30 = .ok (.bipush 10, 2) := by decide +kernel
theorem dX5_stir_32 : decode cX5_stir 32 = .ok (.bipush 14, 2) := by decide +kernel
theorem dX5_stir_34 : decode cX5_stir 34 = .ok (.invokevirtual 204, 3) := by decide +kernel
theorem dX5_stir_37 : decode cX5_stir 37 = .ok (.aload_n 0, 1) := by decide +kernel
theorem dX5_stir_38 : decode cX5_stir 38 = .ok (.iload_n 1, 1) := by decide +kernel
theorem dX5_stir_39 : decode cX5_stir 39 = .ok (.iload_n 2, 1) := by decide +kernel
theorem dX5_stir_40 : decode cX5_stir 40 = .ok (.iconst 3, 1) := by decide +kernel
theorem dX5_stir_41 : decode cX5_stir 41 = .ok (.bipush 7, 2) := by decide +kernel
theorem dX5_stir_43 : decode cX5_stir 43 = .ok (.bipush 11, 2) := by decide +kernel
theorem dX5_stir_45 : decode cX5_stir 45 = .ok (.bipush 15, 2) := by decide +kernel
theorem dX5_stir_47 : decode cX5_stir 47 = .ok (.invokevirtual 204, 3) := by decide +kernel
theorem dX5_stir_50 : decode cX5_stir 50 = .ok (.aload_n 0, 1) := by decide +kernel
theorem dX5_stir_51 : decode cX5_stir 51 = .ok (.iload_n 1, 1) := by decide +kernel
theorem dX5_stir_52 : decode cX5_stir 52 = .ok (.iload_n 2, 1) := by decide +kernel
theorem dX5_stir_53 : decode cX5_stir 53 = .ok (.iconst 0, 1) := by decide +kernel
theorem dX5_stir_54 : decode cX5_stir 54 = .ok (.iconst 5, 1) := by decide +kernel
theorem dX5_stir_55 : decode cX5_stir 55 = .ok (.bipush 10, 2) := by decide +kernel
theorem dX5_stir_57 : decode cX5_stir 57 = .ok (.bipush 15, 2) := by decide +kernel
theorem dX5_stir_59 : decode cX5_stir 59 = .ok (.invokevirtual 204, 3) := by decide +kernel
theorem dX5_stir_62 : decode cX5_stir 62 = .ok (.aload_n 0, 1) := by decide +kernel
theorem dX5_stir_63 : decode cX5_stir 63 = .ok (.iload_n 1, 1) := by decide +kernel
theorem dX5_stir_64 : decode cX5_stir 64 = .ok (.iload_n 2, 1) := by decide +kernel
theorem dX5_stir_65 : decode cX5_stir 65 = .ok (.iconst 1, 1) := by decide +kernel
theorem dX5_stir_66 : decode cX5_stir 66 = .ok (.bipush 6, 2) := by decide +kernel
theorem dX5_stir_68 : decode cX5_stir 68 = .ok (.bipush 11, 2) := by decide +kernel
theorem dX5_stir_70 : decode cX5_stir 70 = .ok (.bipush 12, 2) := by decide +kernel
theorem dX5_stir_72 : decode cX5_stir 72 = .ok (.invokevirtual 204, 3) := by decide +kernel
theorem dX5_stir_75 : decode cX5_stir 75 = .ok (.aload_n 0, 1) := by decide +kernel
theorem dX5_stir_76 : decode cX5_stir 76 = .ok (.iload_n 1, 1) := by decide +kernel
theorem dX5_stir_77 : decode cX5_stir 77 = .ok (.iload_n 2, 1) := by decide +kernel
theorem dX5_stir_78 : decode cX5_stir 78 = .ok (.iconst 2, 1) := by decide +kernel
theorem dX5_stir_79 : decode cX5_stir 79 = .ok (.bipush 7, 2) := by decide +kernel
theorem dX5_stir_81 : decode cX5_stir 81 = .ok (.bipush 8, 2) := by decide +kernel
theorem dX5_stir_83 : decode cX5_stir 83 = .ok (.bipush 13, 2) := by decide +kernel
theorem dX5_stir_85 : decode cX5_stir 85 = .ok (.invokevirtual 204, 3) := by decide +kernel
theorem dX5_stir_88 : decode cX5_stir 88 = .ok (.aload_n 0, 1) := by decide +kernel
theorem dX5_stir_89 : decode cX5_stir 89 = .ok (.iload_n 1, 1) := by decide +kernel
theorem dX5_stir_90 : decode cX5_stir 90 = .ok (.iload_n 2, 1) := by decide +kernel
theorem dX5_stir_91 : decode cX5_stir 91 = .ok (.iconst 3, 1) := by decide +kernel
theorem dX5_stir_92 : decode cX5_stir 92 = .ok (.iconst 4, 1) := by decide +kernel
theorem dX5_stir_93 : decode cX5_stir 93 = .ok (.bipush 9, 2) := by decide +kernel
theorem dX5_stir_95 : decode cX5_stir 95 = .ok (.bipush 14, 2) := by decide +kernel
theorem dX5_stir_97 : decode cX5_stir 97 = .ok (.invokevirtual 204, 3) := by decide +kernel
theorem dX5_stir_100 : decode cX5_stir 100 = .ok (.return_, 1) := by decide +kernel
theorem dX5_join_0 : decode cX5_join 0 = .ok (.iconst 0, 1) := by decide +kernel
theorem dX5_join_1 : decode cX5_join 1 = .ok (.istore_n 1, 1) := by decide +kernel
theorem dX5_join_2 : decode cX5_join 2 = .ok (.iload_n 1, 1) := by decide +kernel
theorem dX5_join_3 : decode cX5_join 3 = .ok (.sipush 128, 3) := by decide +kernel
theorem dX5_join_6 : decode cX5_join 6 = .ok (.if_icmp .ge 28, 3) := by decide +kernel
theorem dX5_join_9 : decode cX5_join 9 = .ok (.aload_n 0, 1) := by decide +kernel
theorem dX5_join_10 : decode cX5_join 10 = .ok (.getfield 44, 3) := by decide +kernel
theorem dX5_join_13 : decode cX5_join 13 = .ok (.iload_n 1, 1) := by decide +kernel
theorem dX5_join_14 : decode cX5_join 14 = .ok (.aload_n 0, 1) := by decide +kernel
theorem dX5_join_15 : decode cX5_join 15 = .ok (.getfield 38, 3) := by decide +kernel
theorem dX5_join_18 : decode cX5_join 18 = .ok (.iload_n 1, 1) := by decide +kernel
theorem dX5_join_19 : decode cX5_join 19 = .ok (.laload, 1) := by decide +kernel
theorem dX5_join_20 : decode cX5_join 20 = .ok (.aload_n 0, 1) := by decide +kernel
theorem dX5_join_21 : decode cX5_join 21 = .ok (.getfield 41, 3) := by decide +kernel
theorem dX5_join_24 : decode cX5_join 24 = .ok (.iload_n 1, 1) := by decide +kernel
theorem dX5_join_25 : decode cX5_join 25 = .ok (.laload, 1) := by decide +kernel
theorem dX5_join_26 : decode cX5_join 26 = .ok (.lxor, 1) := by decide +kernel
theorem dX5_join_27 : decode cX5_join 27 = .ok (.lastore, 1) := by decide +kernel
theorem dX5_join_28 : decode cX5_join 28 = .ok (.iinc 1 1, 3) := by decide +kernel
theorem dX5_join_31 : decode cX5_join 31 = .ok (.goto (-29), 3) := by decide +kernel
theorem dX5_join_34 : decode cX5_join 34 = .ok (.iconst 0, 1) := by decide +kernel
theorem dX5_join_35 : decode cX5_join 35 = .ok (.istore_n 1, 1) := by decide +kernel
theorem dX5_join_36 : decode cX5_join 36 = .ok (.iload_n 1, 1) := by decide +kernel
theorem dX5_join_37 : decode cX5_join 37 = .ok (.bipush 8, 2) := by decide +kernel
theorem dX5_join_39 : decode cX5_join 39 = .ok (.if_icmp .ge 18, 3) := by decide +kernel
theorem dX5_join_42 : decode cX5_join 42 = .ok (.aload_n 0, 1) := by decide +kernel
theorem dX5_join_43 : decode cX5_join 43 = .ok (.bipush 16, 2) := by decide +kernel
theorem dX5_join_45 : decode cX5_join 45 = .ok (.iload_n 1, 1) := by decide +kernel
theorem dX5_join_46 : decode cX5_join 46 = .ok (.imul, 1) := by decide +kernel
theorem dX5_join_47 : decode cX5_join 47 = .ok (.iconst 0, 1) := by decide +kernel
theorem dX5_join_48 : decode cX5_join 48 = .ok (.invokevirtual 208, 3) := by decide +kernel
theorem dX5_join_51 : decode cX5_join 51 = .ok (.iinc 1 1, 3) := by decide +kernel
theorem dX5_join_54 : decode cX5_join 54 = .ok (.goto (-18), 3) := by decide +kernel
theorem dX5_join_57 : decode cX5_join 57 = .ok (.iconst 0, 1) := by decide +kernel
theorem dX5_join_58 : decode cX5_join 58 = .ok (.istore_n 1, 1) := by decide +kernel
theorem dX5_join_59 : decode cX5_join 59 = .ok (.iload_n 1, 1) := by decide +kernel
theorem dX5_join_60 : decode cX5_join 60 = .ok (.bipush 8, 2) := by decide +kernel
theorem dX5_join_62 : decode cX5_join 62 = .ok (.if_icmp .ge 17, 3) := by decide +kernel
theorem dX5_join_65 : decode cX5_join 65 = .ok (.aload_n 0, 1) := by decide +kernel
theorem dX5_join_66 : decode cX5_join 66 = .ok (.iconst 2, 1) := by decide +kernel
theorem dX5_join_67 : decode cX5_join 67 = .ok (.iload_n 1, 1) := by decide +kernel
theorem dX5_join_68 : decode cX5_join 68 = .ok (.imul, 1) := by decide +kernel
theorem dX5_join_69 : decode cX5_join 69 = .ok (.iconst 1, 1) := by decide +kernel
theorem dX5_join_70 : decode cX5_join 70 = .ok (.invokevirtual 208, 3) := by decide +kernel
theorem dX5_join_73 : decode cX5_join 73 = .ok (.iinc 1 1, 3) := by decide +kernel
theorem dX5_join_76 : decode cX5_join 76 = .ok (.goto (-17), 3) := by decide +kernel
theorem dX5_join_79 : decode cX5_join 79 = .ok (.iconst 0, 1) := by decide +kernel
theorem dX5_join_80 : decode cX5_join 80 = .ok (.istore_n 1, 1) := by decide +kernel
theorem dX5_join_81 : decode cX5_join 81 = .ok (.iload_n 1, 1) := by decide +kernel
theorem dX5_join_82 : decode cX5_join 82 = .ok (.sipush 128, 3) := by decide +kernel
theorem dX5_join_85 : decode cX5_join 85 = .ok (.if_icmp .ge 31, 3) := by decide +kernel
theorem dX5_join_88 : decode cX5_join 88 = .ok (.aload_n 0, 1) := by decide +kernel
theorem dX5_join_89 : decode cX5_join 89 = .ok (.getfield 44, 3) := by decide +kernel
theorem dX5_join_92 : decode cX5_join 92 = .ok (.iload_n 1, 1) := by decide +kernel
theorem dX5_join_93 : decode cX5_join 93 = .ok (.dup2, 1) := by decide +kernel
theorem dX5_join_94 : decode cX5_join 94 = .ok (.laload, 1) := by decide +kernel
theorem dX5_join_95 : decode cX5_join 95 = .ok (.aload_n 0, 1) := by decide +kernel
theorem dX5_join_96 : decode cX5_join 96 = .ok (.getfield 38, 3) := by decide +kernel
theorem dX5_join_99 : decode cX5_join 99 = .ok (.iload_n 1, 1) := by decide +kernel
theorem dX5_join_100 : decode cX5_join 100 = .ok (.laload, 1) := by decide +kernel
theorem dX5_join_101 : decode cX5_join 101 = .ok (.aload_n 0, 1) := by decide +kernel
theorem dX5_join_102 : decode cX5_join 102 = .ok (.getfield 41, 3) := by decide +kernel
theorem dX5_join_105 : decode cX5_join 105 = .ok (.iload_n 1, 1) := by decide +kernel
theorem dX5_join_106 : decode cX5_join 106 = .ok (.laload, 1) := by decide +kernel
theorem dX5_join_107 : decode cX5_join 107 = .ok (.lxor, 1) := by decide +kernel
theorem dX5_join_108 : decode cX5_join 108 = .ok (.lxor, 1) := by decide +kernel
theorem dX5_join_109 : decode cX5_join 109 = .ok (.lastore, 1) := by decide +kernel
theorem dX5_join_110 : decode cX5_join 110 = .ok (.iinc 1 1, 3) := by decide +kernel
theorem dX5_join_113 : decode cX5_join 113 = .ok (.goto (-32), 3) := by decide +kernel
theorem dX5_join_116 : decode cX5_join 116 = .ok (.return_, 1) := by decide +kernel
theorem dX5_makeAddress_0 : decode cX5_makeAddress 0 = .ok (.iconst 0, 1) := by decide +kernel
theorem dX5_makeAddress_1 : decode cX5_makeAddress 1 = .ok (.istore 5, 2) := by decide +kernel
theorem dX5_makeAddress_3 : decode cX5_makeAddress 3 = .ok (.iload 5, 2) := by decide +kernel
theorem dX5_makeAddress_5 : decode cX5_makeAddress 5 = .ok (.sipush 128, 3) := by decide +kernel
theorem dX5_makeAddress_8 : decode cX5_makeAddress 8 = .ok (.if_icmp .ge 25, 3) := by decide +kernel
theorem dX5_makeAddress_11 : decode cX5_makeAddress 11 = .ok (.aload_n 0, 1) := by decide +kernel
theorem dX5_makeAddress_12 : decode cX5_makeAddress 12 = .ok (.getfield 38, 3) := by decide +kernel
theorem dX5_makeAddress_15 : decode cX5_makeAddress 15 = .ok (.iload 5, 2) := by decide +kernel
theorem dX5_makeAddress_17 : decode cX5_makeAddress 17 = .ok (.lconst 0, 1) := by decide +kernel
theorem dX5_makeAddress_18 : decode cX5_makeAddress 18 = .ok (.lastore, 1) := by decide +kernel
theorem dX5_makeAddress_19 : decode cX5_makeAddress 19 = .ok (.aload_n 0, 1) := by decide +kernel
theorem dX5_makeAddress_20 : decode cX5_makeAddress 20 = .ok (.getfield 41, 3) := by decide +kernel
theorem dX5_makeAddress_23 : decode cX5_makeAddress 23 = .ok (.iload 5, 2) := by decide +kernel
theorem dX5_makeAddress_25 : decode cX5_makeAddress 25 = .ok (.lconst 0, 1) := by decide +kernel
theorem dX5_makeAddress_26 : decode cX5_makeAddress 26 = .ok (.lastore, 1) := by decide +kernel
theorem dX5_makeAddress_27 : decode cX5_makeAddress 27 = .ok (.iinc 5 1, 3) := by decide +kernel
theorem dX5_makeAddress_30 : decode cX5_makeAddress 30 = .ok (.goto (-27), 3) := by decide +kernel
theorem dX5_makeAddress_33 : decode cX5_makeAddress 33 = .ok (.aload_n 0, 1) := by decide +kernel
theorem dX5_makeAddress_34 : decode cX5_makeAddress 34 = .ok (.getfield 41, 3) := by decide +kernel
theorem dX5_makeAddress_37 : decode cX5_makeAddress 37 = .ok (.iconst 0, 1) := by decide +kernel
theorem dX5_makeAddress_38 : decode cX5_makeAddress 38 = .ok (.iload_n 1, 1) := by decide +kernel
theorem dX5_makeAddress_39 : decode cX5_makeAddress 39 = .ok (.i2l, 1) := by decide +kernel
theorem dX5_makeAddress_40 : decode cX5_makeAddress 40 = .ok (.lastore, 1) := by decide +kernel
theorem dX5_makeAddress_41 : decode cX5_makeAddress 41 = .ok (.aload_n 0, 1) := by decide +kernel
theorem dX5_makeAddress_42 : decode cX5_makeAddress 42 = .ok (.getfield 41, 3) := by decide +kernel
theorem dX5_makeAddress_45 : decode cX5_makeAddress 45 = .ok (.iconst 1, 1) := by decide +kernel
theorem dX5_makeAddress_46 : decode cX5_makeAddress 46 = .ok (.iload_n 2, 1) := by decide +kernel
theorem dX5_makeAddress_47 : decode cX5_makeAddress 47 = .ok (.i2l, 1) := by decide +kernel
theorem dX5_makeAddress_48 : decode cX5_makeAddress 48 = .ok (.lastore, 1) := by decide +kernel
theorem dX5_makeAddress_49 : decode cX5_makeAddress 49 = .ok (.aload_n 0, 1) := by decide +kernel
theorem dX5_makeAddress_50 : decode cX5_makeAddress 50 = .ok (.getfield 41, 3) := by decide +kernel
theorem dX5_makeAddress_53 : decode cX5_makeAddress 53 = .ok (.iconst 2, 1) := by decide +kernel
theorem dX5_makeAddress_54 : decode cX5_makeAddress 54 = .ok (.iload_n 3, 1) := by decide +kernel
theorem dX5_makeAddress_55 : decode cX5_makeAddress 55 = .ok (.i2l, 1) := by decide +kernel
theorem dX5_makeAddress_56 : decode cX5_makeAddress 56 = .ok (.lastore, 1) := by decide +kernel
theorem dX5_makeAddress_57 : decode cX5_makeAddress 57 = .ok (.aload_n 0, 1) := by decide +kernel
theorem dX5_makeAddress_58 : decode cX5_makeAddress 58 = .ok (.getfield 41, 3) := by decide +kernel
theorem dX5_makeAddress_61 : decode cX5_makeAddress 61 = .ok (.iconst 3, 1) := by decide +kernel
theorem dX5_makeAddress_62 : decode cX5_makeAddress 62 = .ok (.ldc2_w 212, 3) := by decide +kernel
theorem dX5_makeAddress_65 : decode cX5_makeAddress 65 = .ok (.aload_n 0, 1) := by decide +kernel
theorem dX5_makeAddress_66 : decode cX5_makeAddress 66 = .ok (.getfield 177, 3) := by decide +kernel
theorem dX5_makeAddress_69 : decode cX5_makeAddress 69 = .ok (.i2l, 1) := by decide +kernel
theorem dX5_makeAddress_70 : decode cX5_makeAddress 70 = .ok (.lmul, 1) := by decide +kernel
theorem dX5_makeAddress_71 : decode cX5_makeAddress 71 = .ok (.aload_n 0, 1) := by decide +kernel
theorem dX5_makeAddress_72 : decode cX5_makeAddress 72 = .ok (.getfield 168, 3) := by decide +kernel
theorem dX5_makeAddress_75 : decode cX5_makeAddress 75 = .ok (.i2l, 1) := by decide +kernel
theorem dX5_makeAddress_76 : decode cX5_makeAddress 76 = .ok (.lmul, 1) := by decide +kernel
theorem dX5_makeAddress_77 : decode cX5_makeAddress 77 = .ok (.lastore, 1) := by decide +kernel
theorem dX5_makeAddress_78 : decode cX5_makeAddress 78 = .ok (.aload_n 0, 1) := by decide +kernel
theorem dX5_makeAddress_79 : decode cX5_makeAddress 79 = .ok (.getfield 41, 3) := by decide +kernel
theorem dX5_makeAddress_82 : decode cX5_makeAddress 82 = .ok (.iconst 4, 1) := by decide +kernel
theorem dX5_makeAddress_83 : decode cX5_makeAddress 83 = .ok (.aload_n 0, 1) := by decide +kernel
theorem dX5_makeAddress_84 : decode cX5_makeAddress 84 = .ok (.getfield 171, 3) := by decide +kernel
theorem dX5_makeAddress_87 : decode cX5_makeAddress 87 = .ok (.i2l, 1) := by decide +kernel
theorem dX5_makeAddress_88 : decode cX5_makeAddress 88 = .ok (.lastore, 1) := by decide +kernel
theorem dX5_makeAddress_89 : decode cX5_makeAddress 89 = .ok (.aload_n 0, 1) := by decide +kernel
theorem dX5_makeAddress_90 : decode cX5_makeAddress 90 = .ok (.getfield 41, 3) := by decide +kernel
theorem dX5_makeAddress_93 : decode cX5_makeAddress 93 = .ok (.iconst 5, 1) := by decide +kernel
theorem dX5_makeAddress_94 : decode cX5_makeAddress 94 = .ok (.aload_n 0, 1) := by decide +kernel
theorem dX5_makeAddress_95 : decode cX5_makeAddress 95 = .ok (.getfield 165, 3) := by decide +kernel
theorem dX5_makeAddress_98 : decode cX5_makeAddress 98 = .ok (.i2l, 1) := by decide +kernel
theorem dX5_makeAddress_99 : decode cX5_makeAddress 99 = .ok (.lastore, 1) := by decide +kernel
theorem dX5_makeAddress_100 : decode cX5_makeAddress 100 = .ok (.aload_n 0, 1) := by decide +kernel
theorem dX5_makeAddress_101 : decode cX5_makeAddress 101 = .ok (.getfield 41, 3) := by decide +kernel
theorem dX5_makeAddress_104 : decode cX5_makeAddress 104 = .ok (.bipush 6, 2) := by decide +kernel
theorem dX5_makeAddress_106 : decode cX5_makeAddress 106 = .ok (.iload 4, 2) := by decide +kernel
theorem dX5_makeAddress_108 : decode cX5_makeAddress 108 = .ok (.i2l, 1) := by decide +kernel
theorem dX5_makeAddress_109 : decode cX5_makeAddress 109 = .ok (.lastore, 1) := by decide +kernel
theorem dX5_makeAddress_110 : decode cX5_makeAddress 110 = .ok (.aload_n 0, 1) := by decide +kernel
theorem dX5_makeAddress_111 : decode cX5_makeAddress 111 = .ok (.invokevirtual 214, 3) := by decide +kernel
theorem dX5_makeAddress_114 : decode cX5_makeAddress 114 = .ok (.iconst 0, 1) := by decide +kernel
theorem dX5_makeAddress_115 : decode cX5_makeAddress 115 = .ok (.istore 5, 2) := by decide +kernel
theorem dX5_makeAddress_117 : decode cX5_makeAddress 117 = .ok (.iload 5, 2) := by decide +kernel
theorem dX5_makeAddress_119 : decode cX5_makeAddress 119 = .ok (.sipush 128, 3) := by decide +kernel
theorem dX5_makeAddress_122 : decode cX5_makeAddress 122 = .ok (.if_icmp .ge 23, 3) := by decide +kernel
theorem dX5_makeAddress_125 : decode cX5_makeAddress 125 = .ok (.aload_n 0, 1) := by decide +kernel
theorem dX5_makeAddress_126 : decode cX5_makeAddress 126 = .ok (.getfield 41, 3) := by decide +kernel
theorem dX5_makeAddress_129 : decode cX5_makeAddress 129 = .ok (.iload 5, 2) := by decide +kernel
theorem dX5_makeAddress_131 : decode cX5_makeAddress 131 = .ok (.aload_n 0, 1) := by decide +kernel
theorem dX5_makeAddress_132 : decode cX5_makeAddress 132 = .ok (.getfield 44, 3) := by decide +kernel
theorem dX5_makeAddress_135 : decode cX5_makeAddress 135 = .ok (.iload 5, 2) := by decide +kernel
theorem dX5_makeAddress_137 : decode cX5_makeAddress 137 = .ok (.laload, 1) := by decide +kernel
theorem dX5_makeAddress_138 : decode cX5_makeAddress 138 = .ok (.lastore, 1) := by decide +kernel
theorem dX5_makeAddress_139 : decode cX5_makeAddress 139 = .ok (.iinc 5 1, 3) := by decide +kernel
theorem dX5_makeAddress_142 : decode cX5_makeAddress 142 = .ok (.goto (-25), 3) := by decide +kernel
theorem dX5_makeAddress_145 : decode cX5_makeAddress 145 = .ok (.aload_n 0, 1) := by decide +kernel
theorem dX5_makeAddress_146 : decode cX5_makeAddress 146 = .ok (.invokevirtual 214, 3) := by decide +kernel
theorem dX5_makeAddress_149 : decode cX5_makeAddress 149 = .ok (.iconst 0, 1) := by decide +kernel
theorem dX5_makeAddress_150 : decode cX5_makeAddress 150 = .ok (.istore 5, 2) := by decide +kernel
theorem dX5_makeAddress_152 : decode cX5_makeAddress 152 = .ok (.iload 5, 2) := by decide +kernel
theorem dX5_makeAddress_154 : decode cX5_makeAddress 154 = .ok (.sipush 128, 3) := by decide +kernel
theorem dX5_makeAddress_157 : decode cX5_makeAddress 157 = .ok (.if_icmp .ge 23, 3) := by decide +kernel
theorem dX5_makeAddress_160 : decode cX5_makeAddress 160 = .ok (.aload_n 0, 1) := by decide +kernel
theorem dX5_makeAddress_161 : decode cX5_makeAddress 161 = .ok (.getfield 47, 3) := by decide +kernel
theorem dX5_makeAddress_164 : decode cX5_makeAddress 164 = .ok (.iload 5, 2) := by decide +kernel
theorem dX5_makeAddress_166 : decode cX5_makeAddress 166 = .ok (.aload_n 0, 1) := by decide +kernel
theorem dX5_makeAddress_167 : decode cX5_makeAddress 167 = .ok (.getfield 44, 3) := by decide +kernel
theorem dX5_makeAddress_170 : decode cX5_makeAddress 170 = .ok (.iload 5, 2) := by decide +kernel
theorem dX5_makeAddress_172 : decode cX5_makeAddress 172 = .ok (.laload, 1) := by decide +kernel
theorem dX5_makeAddress_173 : decode cX5_makeAddress 173 = .ok (.lastore, 1) := by decide +kernel
theorem dX5_makeAddress_174 : decode cX5_makeAddress 174 = .ok (.iinc 5 1, 3) := by decide +kernel
theorem dX5_makeAddress_177 : decode cX5_makeAddress 177 = .ok (.goto (-25), 3) := by decide +kernel
theorem dX5_makeAddress_180 : decode cX5_makeAddress 180 = .ok (.return_, 1) := by decide +kernel
theorem dX5_farBlock_0 : decode cX5_farBlock 0 = .ok (.iconst 4, 1) := by decide +kernel
theorem dX5_farBlock_1 : decode cX5_farBlock 1 = .ok (.aload_n 0, 1) := by decide +kernel
theorem dX5_farBlock_2 : decode cX5_farBlock 2 = .ok (.getfield 177, 3) := by decide +kernel
theorem dX5_farBlock_5 : decode cX5_farBlock 5 = .ok (.imul, 1) := by decide +kernel
theorem dX5_farBlock_6 : decode cX5_farBlock 6 = .ok (.istore 7, 2) := by decide +kernel
theorem dX5_farBlock_8 : decode cX5_farBlock 8 = .ok (.iload_n 1, 1) := by decide +kernel
theorem dX5_farBlock_9 : decode cX5_farBlock 9 = .ok (.ifCond .ne 11, 3) := by decide +kernel
theorem dX5_farBlock_12 : decode cX5_farBlock 12 = .ok (.iload_n 3, 1) := by decide +kernel
theorem dX5_farBlock_13 : decode cX5_farBlock 13 = .ok (.ifCond .ne 7, 3) := by decide +kernel
theorem dX5_farBlock_16 : decode cX5_farBlock 16 = .ok (.iload_n 2, 1) := by decide +kernel
theorem dX5_farBlock_17 : decode cX5_farBlock 17 = .ok (.goto 15, 3) := by decide +kernel
theorem dX5_farBlock_20 : decode cX5_farBlock 20 = .ok (.lload 5, 2) := by decide +kernel
theorem dX5_farBlock_22 : decode cX5_farBlock 22 = .ok (.bipush 32, 2) := by decide +kernel
theorem dX5_farBlock_24 : decode cX5_farBlock 24 = .ok (.lushr, 1) := by decide +kernel
theorem dX5_farBlock_25 : decode cX5_farBlock 25 = .ok (.aload_n 0, 1) := by decide +kernel
theorem dX5_farBlock_26 : decode cX5_farBlock 26 = .ok (.getfield 168, 3) := by decide +kernel
theorem dX5_farBlock_29 : decode cX5_farBlock 29 = .ok (.i2l, 1) := by decide +kernel
theorem dX5_farBlock_30 : decode cX5_farBlock 30 = .ok (.lrem, 1) := by decide +kernel
theorem dX5_farBlock_31 : decode cX5_farBlock 31 = .ok (.l2i, 1) := by decide +kernel
theorem dX5_farBlock_32 : decode cX5_farBlock 32 = .ok (.istore 8, 2) := by decide +kernel
theorem dX5_farBlock_34 : decode cX5_farBlock 34 = .ok (.iload_n 1, 1) := by decide +kernel
theorem dX5_farBlock_35 : decode cX5_farBlock 35 = .ok (.ifCond .ne 13, 3) := by decide +kernel
theorem dX5_farBlock_38 : decode cX5_farBlock 38 = .ok (.aload_n 0, 1) := by decide +kernel
theorem dX5_farBlock_39 : decode cX5_farBlock 39 = .ok (.getfield 177, 3) := by decide +kernel
theorem dX5_farBlock_42 : decode cX5_farBlock 42 = .ok (.iload_n 3, 1) := by decide +kernel
theorem dX5_farBlock_43 : decode cX5_farBlock 43 = .ok (.imul, 1) := by decide +kernel
theorem dX5_farBlock_44 : decode cX5_farBlock 44 = .ok (.i2l, 1) := by decide +kernel
theorem dX5_farBlock_45 : decode cX5_farBlock 45 = .ok (.goto 11, 3) := by decide +kernel
theorem dX5_farBlock_48 : decode cX5_farBlock 48 = .ok (.iload 7, 2) := by decide +kernel
theorem dX5_farBlock_50 : decode cX5_farBlock 50 = .ok (.aload_n 0, 1) := by decide +kernel
theorem dX5_farBlock_51 : decode cX5_farBlock 51 = .ok (.getfield 177, 3) := by decide +kernel
theorem dX5_farBlock_54 : decode cX5_farBlock 54 = .ok (.isub, 1) := by decide +kernel
theorem dX5_farBlock_55 : decode cX5_farBlock 55 = .ok (.i2l, 1) := by decide +kernel
theorem dX5_farBlock_56 : decode cX5_farBlock 56 = .ok (.lstore 9, 2) := by decide +kernel
theorem dX5_farBlock_58 : decode cX5_farBlock 58 = .ok (.iload 8, 2) := by decide +kernel
theorem dX5_farBlock_60 : decode cX5_farBlock 60 = .ok (.iload_n 2, 1) := by decide +kernel
theorem dX5_farBlock_61 : decode cX5_farBlock 61 = .ok (.if_icmp .ne 14, 3) := by decide +kernel
theorem dX5_farBlock_64 : decode cX5_farBlock 64 = .ok (.lload 9, 2) := by decide +kernel
theorem dX5_farBlock_66 : decode cX5_farBlock 66 = .ok (.iload 4, 2) := by decide +kernel
theorem dX5_farBlock_68 : decode cX5_farBlock 68 = .ok (.i2l, 1) := by decide +kernel
theorem dX5_farBlock_69 : decode cX5_farBlock 69 = .ok (.ladd, 1) := by decide +kernel
theorem dX5_farBlock_70 : decode cX5_farBlock 70 = .ok (.lconst 1, 1) := by decide +kernel
theorem dX5_farBlock_71 : decode cX5_farBlock 71 = .ok (.lsub, 1) := by decide +kernel
theorem dX5_farBlock_72 : decode cX5_farBlock 72 = .ok (.goto 16, 3) := by decide +kernel
theorem dX5_farBlock_75 : decode cX5_farBlock 75 = .ok (.lload 9, 2) := by decide +kernel
theorem dX5_farBlock_77 : decode cX5_farBlock 77 = .ok (.iload 4, 2) := by decide +kernel
theorem dX5_farBlock_79 : decode cX5_farBlock 79 = .ok (.ifCond .ne 7, 3) := by decide +kernel
theorem dX5_farBlock_82 : decode cX5_farBlock 82 = .ok (.lconst 1, 1) := by decide +kernel
theorem dX5_farBlock_83 : decode cX5_farBlock 83 = .ok (.goto 4, 3) := by decide +kernel
theorem dX5_farBlock_86 : decode cX5_farBlock 86 = .ok (.lconst 0, 1) := by decide +kernel
theorem dX5_farBlock_87 : decode cX5_farBlock 87 = .ok (.lsub, 1) := by decide +kernel
theorem dX5_farBlock_88 : decode cX5_farBlock 88 = .ok (.lstore 11, 2) := by decide +kernel
theorem dX5_farBlock_90 : decode cX5_farBlock 90 = .ok (.lload 5, 2) := by decide +kernel
theorem dX5_farBlock_92 : decode cX5_farBlock 92 = .ok (.invokestatic 192, 3) := by decide +kernel
theorem dX5_farBlock_95 : decode cX5_farBlock 95 = .ok (.lload 5, 2) := by decide +kernel
theorem dX5_farBlock_97 : decode cX5_farBlock 97 = .ok (.invokestatic 192, 3) := by decide +kernel
theorem dX5_farBlock_100 : decode cX5_farBlock 100 = .ok (.lmul, 1) := by decide +kernel
theorem dX5_farBlock_101 : decode cX5_farBlock 101 = .ok (.bipush 32, 2) := by decide +kernel
theorem dX5_farBlock_103 : decode cX5_farBlock 103 = .ok (.lushr, 1) := by decide +kernel
theorem dX5_farBlock_104 : decode cX5_farBlock 104 = .ok (.lstore 13, 2) := by decide +kernel
theorem dX5_farBlock_106 : decode cX5_farBlock 106 = .ok (.lload 11, 2) := by decide +kernel
theorem dX5_farBlock_108 : decode cX5_farBlock 108 = .ok (.lconst 1, 1) := by decide +kernel
theorem dX5_farBlock_109 : decode cX5_farBlock 109 = .ok (.lsub, 1) := by decide +kernel
theorem dX5_farBlock_110 : decode cX5_farBlock 110 = .ok (.lload 11, 2) := by decide +kernel
theorem dX5_farBlock_112 : decode cX5_farBlock 112 = .ok (.lload 13, 2) := by decide +kernel
theorem dX5_farBlock_114 : decode cX5_farBlock 114 = .ok (.lmul, 1) := by decide +kernel
theorem dX5_farBlock_115 : decode cX5_farBlock 115 = .ok (.bipush 32, 2) := by decide +kernel
theorem dX5_farBlock_117 : decode cX5_farBlock 117 = .ok (.lushr, 1) := by decide +kernel
theorem dX5_farBlock_118 : decode cX5_farBlock 118 = .ok (.lsub, 1) := by decide +kernel
theorem dX5_farBlock_119 : decode cX5_farBlock 119 = .ok (.lstore 15, 2) := by decide +kernel
theorem dX5_farBlock_121 : decode cX5_farBlock 121 = .ok (.iload_n 1, 1) := by decide +kernel
theorem dX5_farBlock_122 : decode cX5_farBlock 122 = .ok (.ifCond .eq 8, 3) := by decide +kernel
theorem dX5_farBlock_125 : decode cX5_farBlock 125 = .ok (.iload_n 3, 1) := by decide +kernel
theorem dX5_farBlock_126 : decode cX5_farBlock 126 = .ok (.iconst 3, 1) := by decide +kernel
theorem dX5_farBlock_127 : decode cX5_farBlock 127 = .ok (.if_icmp .ne 7, 3) := by decide +kernel
theorem dX5_farBlock_130 : decode cX5_farBlock 130 = .ok (.lconst 0, 1) := by decide +kernel
theorem dX5_farBlock_131 : decode cX5_farBlock 131 = .ok (.goto 12, 3) := by decide +kernel
theorem dX5_farBlock_134 : decode cX5_farBlock 134 = .ok (.aload_n 0, 1) := by decide +kernel
theorem dX5_farBlock_135 : decode cX5_farBlock 135 = .ok (.getfield 177, 3) := by decide +kernel
theorem dX5_farBlock_138 : decode cX5_farBlock 138 = .ok (.iload_n 3, 1) := by decide +kernel
theorem dX5_farBlock_139 : decode cX5_farBlock 139 = .ok (.iconst 1, 1) := by decide +kernel
theorem dX5_farBlock_140 : decode cX5_farBlock 140 = .ok (.iadd, 1) := by decide +kernel
theorem dX5_farBlock_141 : decode cX5_farBlock 141 = .ok (.imul, 1) := by decide +kernel
theorem dX5_farBlock_142 : decode cX5_farBlock 142 = .ok (.i2l, 1) := by decide +kernel
theorem dX5_farBlock_143 : decode cX5_farBlock 143 = .ok (.lstore 17, 2) := by decide +kernel
theorem dX5_farBlock_145 : decode cX5_farBlock 145 = .ok (.iload 7, 2) := by decide +kernel
theorem dX5_farBlock_147 : decode cX5_farBlock 147 = .ok (.iload 8, 2) := by decide +kernel
theorem dX5_farBlock_149 : decode cX5_farBlock 149 = .ok (.imul, 1) := by decide +kernel
theorem dX5_farBlock_150 : decode cX5_farBlock 150 = .ok (.lload 17, 2) := by decide +kernel
theorem dX5_farBlock_152 : decode cX5_farBlock 152 = .ok (.lload 15, 2) := by decide +kernel
theorem dX5_farBlock_154 : decode cX5_farBlock 154 = .ok (.ladd, 1) := by decide +kernel
theorem dX5_farBlock_155 : decode cX5_farBlock 155 = .ok (.iload 7, 2) := by decide +kernel
theorem dX5_farBlock_157 : decode cX5_farBlock 157 = .ok (.i2l, 1) := by decide +kernel
theorem dX5_farBlock_158 : decode cX5_farBlock 158 = .ok (.lrem, 1) := by decide +kernel
theorem dX5_farBlock_159 : decode cX5_farBlock 159 = .ok (.l2i, 1) := by decide +kernel
theorem dX5_farBlock_160 : decode cX5_farBlock 160 = .ok (.iadd, 1) := by decide +kernel
theorem dX5_farBlock_161 : decode cX5_farBlock 161 = .ok (.ireturn, 1) := by decide +kernel
end
section
theorem dX5_segment_0 : decode cX5_segment 0 = .ok (.iconst 4, 1) := by decide +kernel
theorem dX5_segment_1 : decode cX5_segment 1 = .ok (.aload_n 0, 1) := by decide +kernel
theorem dX5_segment_2 : decode cX5_segment 2 = .ok (.getfield 177, 3) := by decide +kernel
theorem dX5_segment_5 : decode cX5_segment 5 = .ok (.imul, 1) := by decide +kernel
theorem dX5_segment_6 : decode cX5_segment 6 = .ok (.istore 4, 2) := by decide +kernel
theorem dX5_segment_8 : decode cX5_segment 8 = .ok (.aload_n 0, 1) := by decide +kernel
theorem dX5_segment_9 : decode cX5_segment 9 = .ok (.getfield 165, 3) := by decide +kernel
theorem dX5_segment_12 : decode cX5_segment 12 = .ok (.iconst 1, 1) := by decide +kernel
theorem dX5_segment_13 : decode cX5_segment 13 = .ok (.if_icmp .eq 20, 3) := by decide +kernel
theorem dX5_segment_16 : decode cX5_segment 16 = .ok (.aload_n 0, 1) := by decide +kernel
theorem dX5_segment_17 : decode cX5_segment 17 = .ok (.getfield 165, 3) := by decide +kernel
theorem dX5_segment_20 : decode cX5_segment 20 = .ok (.iconst 2, 1) := by decide +kernel
theorem dX5_segment_21 : decode cX5_segment 21 = .ok (.if_icmp .ne 16, 3) := by decide +kernel
theorem dX5_segment_24 : decode cX5_segment 24 = .ok (.iload_n 1, 1) := by decide +kernel
theorem dX5_segment_25 : decode cX5_segment 25 = .ok (.ifCond .ne 12, 3) := by decide +kernel
theorem dX5_segment_28 : decode cX5_segment 28 = .ok (.iload_n 2, 1) := by decide +kernel
theorem dX5_segment_29 : decode cX5_segment 29 = .ok (.iconst 2, 1) := by decide +kernel
theorem dX5_segment_30 : decode cX5_segment 30 = .ok (.if_icmp .ge 7, 3) := by decide +kernel
theorem dX5_segment_33 : decode cX5_segment 33 = .ok (.iconst 1, 1) := by decide +kernel
theorem dX5_segment_34 : decode cX5_segment 34 = .ok (.goto 4, 3) := by decide +kernel
theorem dX5_segment_37 : decode cX5_segment 37 = .ok (.iconst 0, 1) := by decide +kernel
theorem dX5_segment_38 : decode cX5_segment 38 = .ok (.istore 5, 2) := by decide +kernel
theorem dX5_segment_40 : decode cX5_segment 40 = .ok (.iload_n 1, 1) := by decide +kernel
theorem dX5_segment_41 : decode cX5_segment 41 = .ok (.ifCond .ne 11, 3) := by decide +kernel
theorem dX5_segment_44 : decode cX5_segment 44 = .ok (.iload_n 2, 1) := by decide +kernel
theorem dX5_segment_45 : decode cX5_segment 45 = .ok (.ifCond .ne 7, 3) := by decide +kernel
theorem dX5_segment_48 : decode cX5_segment 48 = .ok (.iconst 2, 1) := by decide +kernel
theorem dX5_segment_49 : decode cX5_segment 49 = .ok (.goto 4, 3) := by decide +kernel
theorem dX5_segment_52 : decode cX5_segment 52 = .ok (.iconst 0, 1) := by decide +kernel
theorem dX5_segment_53 : decode cX5_segment 53 = .ok (.istore 6, 2) := by decide +kernel
theorem dX5_segment_55 : decode cX5_segment 55 = .ok (.iload 6, 2) := by decide +kernel
theorem dX5_segment_57 : decode cX5_segment 57 = .ok (.aload_n 0, 1) := by decide +kernel
theorem dX5_segment_58 : decode cX5_segment 58 = .ok (.getfield 177, 3) := by decide +kernel
theorem dX5_segment_61 : decode cX5_segment 61 = .ok (.if_icmp .ge 239, 3) := by decide +kernel
theorem dX5_segment_64 : decode cX5_segment 64 = .ok (.aload_n 0, 1) := by decide +kernel
theorem dX5_segment_65 : decode cX5_segment 65 = .ok (.getfield 177, 3) := by decide +kernel
theorem dX5_segment_68 : decode cX5_segment 68 = .ok (.iload_n 2, 1) := by decide +kernel
theorem dX5_segment_69 : decode cX5_segment 69 = .ok (.imul, 1) := by decide +kernel
theorem dX5_segment_70 : decode cX5_segment 70 = .ok (.iload 6, 2) := by decide +kernel
theorem dX5_segment_72 : decode cX5_segment 72 = .ok (.iadd, 1) := by decide +kernel
theorem dX5_segment_73 : decode cX5_segment 73 = .ok (.istore 7, 2) := by decide +kernel
theorem dX5_segment_75 : decode cX5_segment 75 = .ok (.iload 4, 2) := by decide +kernel
theorem dX5_segment_77 : decode cX5_segment 77 = .ok (.iload_n 3, 1) := by decide +kernel
theorem dX5_segment_78 : decode cX5_segment 78 = .ok (.imul, 1) := by decide +kernel
theorem dX5_segment_79 : decode cX5_segment 79 = .ok (.iload 7, 2) := by decide +kernel
theorem dX5_segment_81 : decode cX5_segment 81 = .ok (.ifCond .ne 10, 3) := by decide +kernel
theorem dX5_segment_84 : decode cX5_segment 84 = .ok (.iload 4, 2) := by decide +kernel
theorem dX5_segment_86 : decode cX5_segment 86 = .ok (.iconst 1, 1) := by decide +kernel
theorem dX5_segment_87 : decode cX5_segment 87 = .ok (.isub, 1) := by decide +kernel
theorem dX5_segment_88 : decode cX5_segment 88 = .ok (.goto 7, 3) := by decide +kernel
theorem dX5_segment_91 : decode cX5_segment 91 = .ok (.iload 7, 2) := by decide +kernel
theorem dX5_segment_93 : decode cX5_segment 93 = .ok (.iconst 1, 1) := by decide +kernel
theorem dX5_segment_94 : decode cX5_segment 94 = .ok (.isub, 1) := by decide +kernel
theorem dX5_segment_95 : decode cX5_segment 95 = .ok (.iadd, 1) := by decide +kernel
theorem dX5_segment_96 : decode cX5_segment 96 = .ok (.istore 8, 2) := by decide +kernel
theorem dX5_segment_98 : decode cX5_segment 98 = .ok (.iload 5, 2) := by decide +kernel
theorem dX5_segment_100 : decode cX5_segment 100 = .ok (.ifCond .eq 18, 3) := by decide +kernel
theorem dX5_segment_103 : decode cX5_segment 103 = .ok (.aload_n 0, 1) := by decide +kernel
theorem dX5_segment_104 : decode cX5_segment 104 = .ok (.iload_n 1, 1) := by decide +kernel
theorem dX5_segment_105 : decode cX5_segment 105 = .ok (.iload_n 3, 1) := by decide +kernel
theorem dX5_segment_106 : decode cX5_segment 106 = .ok (.iload_n 2, 1) := by decide +kernel
theorem dX5_segment_107 : decode cX5_segment 107 = .ok (.iconst 1, 1) := by decide +kernel
theorem dX5_segment_108 : decode cX5_segment 108 = .ok (.iload 6, 2) := by decide +kernel
theorem dX5_segment_110 : decode cX5_segment 110 = .ok (.sipush 128, 3) := by decide +kernel
theorem dX5_segment_113 : decode cX5_segment 113 = .ok (.idiv, 1) := by decide +kernel
theorem dX5_segment_114 : decode cX5_segment 114 = .ok (.iadd, 1) := by decide +kernel
theorem dX5_segment_115 : decode cX5_segment 115 = .ok (.invokevirtual 217, 3) := by decide +kernel
theorem dX5_segment_118 : decode cX5_segment 118 = .ok (.aload_n 0, 1) := by decide +kernel
theorem dX5_segment_119 : decode cX5_segment 119 = .ok (.iload_n 1, 1) := by decide +kernel
theorem dX5_segment_120 : decode cX5_segment 120 = .ok (.iload_n 3, 1) := by decide +kernel
theorem dX5_segment_121 : decode cX5_segment 121 = .ok (.iload_n 2, 1) := by decide +kernel
theorem dX5_segment_122 : decode cX5_segment 122 = .ok (.iload 6, 2) := by decide +kernel
theorem dX5_segment_124 : decode cX5_segment 124 = .ok (.iload 5, 2) := by decide +kernel
theorem dX5_segment_126 : decode cX5_segment 126 = .ok (.ifCond .eq 17, 3) := by decide +kernel
theorem dX5_segment_129 : decode cX5_segment 129 = .ok (.aload_n 0, 1) := by decide +kernel
theorem dX5_segment_130 : decode cX5_segment 130 = .ok (.getfield 47, 3) := by decide +kernel
theorem dX5_segment_133 : decode cX5_segment 133 = .ok (.iload 6, 2) := by decide +kernel
theorem dX5_segment_135 : decode cX5_segment 135 = .ok (.sipush 128, 3) := by decide +kernel
theorem dX5_segment_138 : decode cX5_segment 138 = .ok (.irem, 1) := by decide +kernel
theorem dX5_segment_139 : decode cX5_segment 139 = .ok (.laload, 1) := by decide +kernel
theorem dX5_segment_140 : decode cX5_segment 140 = .ok (.goto 14, 3) := by decide +kernel
theorem dX5_segment_143 : decode cX5_segment 143 = .ok (.aload_n 0, 1) := by decide +kernel
theorem dX5_segment_144 : decode cX5_segment 144 = .ok (.getfield 35, 3) := by decide +kernel
theorem dX5_segment_147 : decode cX5_segment 147 = .ok (.sipush 128, 3) := by decide +kernel
theorem dX5_segment_150 : decode cX5_segment 150 = .ok (.iload 8, 2) := by decide +kernel
theorem dX5_segment_152 : decode cX5_segment 152 = .ok (.imul, 1) := by decide +kernel
theorem dX5_segment_153 : decode cX5_segment 153 = .ok (.laload, 1) := by decide +kernel
theorem dX5_segment_154 : decode cX5_segment 154 = .ok (.invokevirtual 220, 3) := by decide +kernel
theorem dX5_segment_157 : decode cX5_segment 157 = .ok (.istore 9, 2) := by decide +kernel
theorem dX5_segment_159 : decode cX5_segment 159 = .ok (.iconst 0, 1) := by decide +kernel
theorem dX5_segment_160 : decode cX5_segment 160 = .ok (.istore 10, 2) := by decide +kernel
theorem dX5_segment_162 : decode cX5_segment 162 = .ok (.iload 10, 2) := by decide +kernel
theorem dX5_segment_164 : decode cX5_segment 164 = .ok (.sipush 128, 3) := by decide +kernel
theorem dX5_segment_167 : decode cX5_segment 167 = .ok (.if_icmp .ge 51, 3) := by decide +kernel
theorem dX5_segment_170 : decode cX5_segment 170 = .ok (.aload_n 0, 1) := by decide +kernel
theorem dX5_segment_171 : decode cX5_segment 171 = .ok (.getfield 38, 3) := by decide +kernel
theorem dX5_segment_174 : decode cX5_segment 174 = .ok (.iload 10, 2) := by decide +kernel
theorem dX5_segment_176 : decode cX5_segment 176 = .ok (.aload_n 0, 1) := by decide +kernel
theorem dX5_segment_177 : decode cX5_segment 177 = .ok (.getfield 35, 3) := by decide +kernel
theorem dX5_segment_180 : decode cX5_segment 180 = .ok (.sipush 128, 3) := by decide +kernel
theorem dX5_segment_183 : decode cX5_segment 183 = .ok (.iload 8, 2) := by decide +kernel
theorem dX5_segment_185 : decode cX5_segment 185 = .ok (.imul, 1) := by decide +kernel
theorem dX5_segment_186 : decode cX5_segment 186 = .ok (.iload 10, 2) := by decide +kernel
theorem dX5_segment_188 : decode cX5_segment 188 = .ok (.iadd, 1) := by decide +kernel
theorem dX5_segment_189 : decode cX5_segment 189 = .ok (.laload, 1) := by decide +kernel
theorem dX5_segment_190 : decode cX5_segment 190 = .ok (.lastore, 1) := by decide +kernel
theorem dX5_segment_191 : decode cX5_segment 191 = .ok (.aload_n 0, 1) := by decide +kernel
theorem dX5_segment_192 : decode cX5_segment 192 = .ok (.getfield 41, 3) := by decide +kernel
theorem dX5_segment_195 : decode cX5_segment 195 = .ok (.iload 10, 2) := by decide +kernel
theorem dX5_segment_197 : decode cX5_segment 197 = .ok (.aload_n 0, 1) := by decide +kernel
theorem dX5_segment_198 : decode cX5_segment 198 = .ok (.getfield 35, 3) := by decide +kernel
theorem dX5_segment_201 : decode cX5_segment 201 = .ok (.sipush 128, 3) := by decide +kernel
theorem dX5_segment_204 : decode cX5_segment 204 = .ok (.iload 9, 2) := by decide +kernel
theorem dX5_segment_206 : decode cX5_segment 206 = .ok (.imul, 1) := by decide +kernel
theorem dX5_segment_207 : decode cX5_segment 207 = .ok (.iload 10, 2) := by decide +kernel
theorem dX5_segment_209 : decode cX5_segment 209 = .ok (.iadd, 1) := by decide +kernel
theorem dX5_segment_210 : decode cX5_segment 210 = .ok (.laload, 1) := by decide +kernel
theorem dX5_segment_211 : decode cX5_segment 211 = .ok (.lastore, 1) := by decide +kernel
theorem dX5_segment_212 : decode cX5_segment 212 = .ok (.iinc 10 1, 3) := by decide +kernel
theorem dX5_segment_215 : decode cX5_segment 215 = .ok (.goto (-53), 3) := by decide +kernel
theorem dX5_segment_218 : decode cX5_segment 218 = .ok (.aload_n 0, 1) := by decide +kernel
theorem dX5_segment_219 : decode cX5_segment 219 = .ok (.invokevirtual 214, 3) := by decide +kernel
theorem dX5_segment_222 : decode cX5_segment 222 = .ok (.sipush 128, 3) := by decide +kernel
theorem dX5_segment_225 : decode cX5_segment 225 = .ok (.iload 4, 2) := by decide +kernel
theorem dX5_segment_227 : decode cX5_segment 227 = .ok (.iload_n 3, 1) := by decide +kernel
theorem dX5_segment_228 : decode cX5_segment 228 = .ok (.imul, 1) := by decide +kernel
theorem dX5_segment_229 : decode cX5_segment 229 = .ok (.iload 7, 2) := by decide +kernel
theorem dX5_segment_231 : decode cX5_segment 231 = .ok (.iadd, 1) := by decide +kernel
theorem dX5_segment_232 : decode cX5_segment 232 = .ok (.imul, 1) := by decide +kernel
theorem dX5_segment_233 : decode cX5_segment 233 = .ok (.istore 10, 2) := by decide +kernel
theorem dX5_segment_235 : decode cX5_segment 235 = .ok (.iconst 0, 1) := by decide +kernel
theorem dX5_segment_236 : decode cX5_segment 236 = .ok (.istore 11, 2) := by decide +kernel
theorem dX5_segment_238 : decode cX5_segment 238 = .ok (.iload 11, 2) := by decide +kernel
theorem dX5_segment_240 : decode cX5_segment 240 = .ok (.sipush 128, 3) := by decide +kernel
theorem dX5_segment_243 : decode cX5_segment 243 = .ok (.if_icmp .ge 51, 3) := by decide +kernel
theorem dX5_segment_246 : decode cX5_segment 246 = .ok (.aload_n 0, 1) := by decide +kernel
theorem dX5_segment_247 : decode cX5_segment 247 = .ok (.getfield 35, 3) := by decide +kernel
theorem dX5_segment_250 : decode cX5_segment 250 = .ok (.iload 10, 2) := by decide +kernel
theorem dX5_segment_252 : decode cX5_segment 252 = .ok (.iload 11, 2) := by decide +kernel
theorem dX5_segment_254 : decode cX5_segment 254 = .ok (.iadd, 1) := by decide +kernel
theorem dX5_segment_255 : decode cX5_segment 255 = .ok (.iload_n 1, 1) := by decide +kernel
theorem dX5_segment_256 : decode cX5_segment 256 = .ok (.ifCond .ne 13, 3) := by decide +kernel
theorem dX5_segment_259 : decode cX5_segment 259 = .ok (.aload_n 0, 1) := by decide +kernel
theorem dX5_segment_260 : decode cX5_segment 260 = .ok (.getfield 44, 3) := by decide +kernel
theorem dX5_segment_263 : decode cX5_segment 263 = .ok (.iload 11, 2) := by decide +kernel
theorem dX5_segment_265 : decode cX5_segment 265 = .ok (.laload, 1) := by decide +kernel
theorem dX5_segment_266 : decode cX5_segment 266 = .ok (.goto 21, 3) := by decide +kernel
theorem dX5_segment_269 : decode cX5_segment 269 = .ok (.aload_n 0, 1) := by decide +kernel
theorem dX5_segment_270 : decode cX5_segment 270 = .ok (.getfield 35, 3) := by decide +kernel
theorem dX5_segment_273 : decode cX5_segment 273 = .ok (.iload 10, 2) := by decide +kernel
theorem dX5_segment_275 : decode cX5_segment 275 = .ok (.iload 11, 2) := by decide +kernel
theorem dX5_segment_277 : decode cX5_segment 277 = .ok (.iadd, 1) := by decide +kernel
theorem dX5_segment_278 : decode cX5_segment 278 = .ok (.laload, 1) := by decide +kernel
theorem dX5_segment_279 : decode cX5_segment 279 = .ok (.aload_n 0, 1) := by decide +kernel
theorem dX5_segment_280 : decode cX5_segment 280 = .ok (.getfield 44, 3) := by decide +kernel
theorem dX5_segment_283 : decode cX5_segment 283 = .ok (.iload 11, 2) := by decide +kernel
theorem dX5_segment_285 : decode cX5_segment 285 = .ok (.laload, 1) := by decide +kernel
theorem dX5_segment_286 : decode cX5_segment 286 = .ok (.lxor, 1) := by decide +kernel
theorem dX5_segment_287 : decode cX5_segment 287 = .ok (.lastore, 1) := by decide +kernel
theorem dX5_segment_288 : decode cX5_segment 288 = .ok (.iinc 11 1, 3) := by decide +kernel
theorem dX5_segment_291 : decode cX5_segment 291 = .ok (.goto (-53), 3) := by decide +kernel
theorem dX5_segment_294 : decode cX5_segment 294 = .ok (.iinc 6 1, 3) := by decide +kernel
theorem dX5_segment_297 : decode cX5_segment 297 = .ok (.goto (-242), 3) := by decide +kernel
theorem dX5_segment_300 : decode cX5_segment 300 = .ok (.return_, 1) := by decide +kernel
theorem dX5_fillSome_0 : decode cX5_fillSome 0 = .ok (.iconst 0, 1) := by decide +kernel
theorem dX5_fillSome_1 : decode cX5_fillSome 1 = .ok (.istore_n 2, 1) := by decide +kernel
theorem dX5_fillSome_2 : decode cX5_fillSome 2 = .ok (.iload_n 2, 1) := by decide +kernel
theorem dX5_fillSome_3 : decode cX5_fillSome 3 = .ok (.iload_n 1, 1) := by decide +kernel
theorem dX5_fillSome_4 : decode cX5_fillSome 4 = .ok (.if_icmp .ge 72, 3) := by decide +kernel
theorem dX5_fillSome_7 : decode cX5_fillSome 7 = .ok (.aload_n 0, 1) := by decide +kernel
theorem dX5_fillSome_8 : decode cX5_fillSome 8 = .ok (.getfield 180, 3) := by decide +kernel
theorem dX5_fillSome_11 : decode cX5_fillSome 11 = .ok (.iconst 4, 1) := by decide +kernel
theorem dX5_fillSome_12 : decode cX5_fillSome 12 = .ok (.aload_n 0, 1) := by decide +kernel
theorem dX5_fillSome_13 : decode cX5_fillSome 13 = .ok (.getfield 168, 3) := by decide +kernel
theorem dX5_fillSome_16 : decode cX5_fillSome 16 = .ok (.imul, 1) := by decide +kernel
theorem dX5_fillSome_17 : decode cX5_fillSome 17 = .ok (.aload_n 0, 1) := by decide +kernel
theorem dX5_fillSome_18 : decode cX5_fillSome 18 = .ok (.getfield 171, 3) := by decide +kernel
theorem dX5_fillSome_21 : decode cX5_fillSome 21 = .ok (.imul, 1) := by decide +kernel
theorem dX5_fillSome_22 : decode cX5_fillSome 22 = .ok (.if_icmp .ge 54, 3) := by decide +kernel
theorem dX5_fillSome_25 : decode cX5_fillSome 25 = .ok (.aload_n 0, 1) := by decide +kernel
theorem dX5_fillSome_26 : decode cX5_fillSome 26 = .ok (.aload_n 0, 1) := by decide +kernel
theorem dX5_fillSome_27 : decode cX5_fillSome 27 = .ok (.getfield 180, 3) := by decide +kernel
theorem dX5_fillSome_30 : decode cX5_fillSome 30 = .ok (.iconst 4, 1) := by decide +kernel
theorem dX5_fillSome_31 : decode cX5_fillSome 31 = .ok (.aload_n 0, 1) := by decide +kernel
theorem dX5_fillSome_32 : decode cX5_fillSome 32 = .ok (.getfield 168, 3) := by decide +kernel
theorem dX5_fillSome_35 : decode cX5_fillSome 35 = .ok (.imul, 1) := by decide +kernel
theorem dX5_fillSome_36 : decode cX5_fillSome 36 = .ok (.idiv, 1) := by decide +kernel
theorem dX5_fillSome_37 : decode cX5_fillSome 37 = .ok (.aload_n 0, 1) := by decide +kernel
theorem dX5_fillSome_38 : decode cX5_fillSome 38 = .ok (.getfield 180, 3) := by decide +kernel
theorem dX5_fillSome_41 : decode cX5_fillSome 41 = .ok (.aload_n 0, 1) := by decide +kernel
theorem dX5_fillSome_42 : decode cX5_fillSome 42 = .ok (.getfield 168, 3) := by decide +kernel
theorem dX5_fillSome_45 : decode cX5_fillSome 45 = .ok (.idiv, 1) := by decide +kernel
theorem dX5_fillSome_46 : decode cX5_fillSome 46 = .ok (.iconst 4, 1) := by decide +kernel
theorem dX5_fillSome_47 : decode cX5_fillSome 47 = .ok (.irem, 1) := by decide +kernel
theorem dX5_fillSome_48 : decode cX5_fillSome 48 = .ok (.aload_n 0, 1) := by decide +kernel
theorem dX5_fillSome_49 : decode cX5_fillSome 49 = .ok (.getfield 180, 3) := by decide +kernel
theorem dX5_fillSome_52 : decode cX5_fillSome 52 = .ok (.aload_n 0, 1) := by decide +kernel
theorem dX5_fillSome_53 : decode cX5_fillSome 53 = .ok (.getfield 168, 3) := by decide +kernel
theorem dX5_fillSome_56 : decode cX5_fillSome 56 = .ok (.irem, 1) := by decide +kernel
theorem dX5_fillSome_57 : decode cX5_fillSome 57 = .ok (.invokevirtual 224, 3) := by decide +kernel
theorem dX5_fillSome_60 : decode cX5_fillSome 60 = .ok (.aload_n 0, 1) := by decide +kernel
theorem dX5_fillSome_61 : decode cX5_fillSome 61 = .ok (.dup, 1) := by decide +kernel
theorem dX5_fillSome_62 : decode cX5_fillSome 62 = .ok (.getfield 180, 3) := by decide +kernel
theorem dX5_fillSome_65 : decode cX5_fillSome 65 = .ok (.iconst 1, 1) := by decide +kernel
theorem dX5_fillSome_66 : decode cX5_fillSome 66 = .ok (.iadd, 1) := by decide +kernel
theorem dX5_fillSome_67 : decode cX5_fillSome 67 = .ok (.putfield 180, 3) := by decide +kernel
theorem dX5_fillSome_70 : decode cX5_fillSome 70 = .ok (.iinc 2 1, 3) := by decide +kernel
theorem dX5_fillSome_73 : decode cX5_fillSome 73 = .ok (.goto (-71), 3) := by decide +kernel
theorem dX5_fillSome_76 : decode cX5_fillSome 76 = .ok (.iload_n 2, 1) := by decide +kernel
theorem dX5_fillSome_77 : decode cX5_fillSome 77 = .ok (.ireturn, 1) := by decide +kernel
theorem dX5_fill_0 : decode cX5_fill 0 = .ok (.aload_n 0, 1) := by decide +kernel
theorem dX5_fill_1 : decode cX5_fill 1 = .ok (.iconst 0, 1) := by decide +kernel
theorem dX5_fill_2 : decode cX5_fill 2 = .ok (.putfield 50, 3) := by decide +kernel
theorem dX5_fill_5 : decode cX5_fill 5 = .ok (.iload_n 1, 1) := by decide +kernel
theorem dX5_fill_6 : decode cX5_fill 6 = .ok (.iconst 1, 1) := by decide +kernel
theorem dX5_fill_7 : decode cX5_fill 7 = .ok (.bipush 100, 2) := by decide +kernel
theorem dX5_fill_9 : decode cX5_fill 9 = .ok (.invokestatic 54, 3) := by decide +kernel
theorem dX5_fill_12 : decode cX5_fill 12 = .ok (.ifCond .ne 8, 3) := by decide +kernel
theorem dX5_fill_15 : decode cX5_fill 15 = .ok (.bipush (-2), 2) := by decide +kernel
theorem dX5_fill_17 : decode cX5_fill 17 = .ok (.goto 20, 3) := by decide +kernel
theorem dX5_fill_20 : decode cX5_fill 20 = .ok (.aload_n 0, 1) := by decide +kernel
theorem dX5_fill_21 : decode cX5_fill 21 = .ok (.getfield 161, 3) := by decide +kernel
theorem dX5_fill_24 : decode cX5_fill 24 = .ok (.ifCond .eq 11, 3) := by decide +kernel
theorem dX5_fill_27 : decode cX5_fill 27 = .ok (.aload_n 0, 1) := by decide +kernel
theorem dX5_fill_28 : decode cX5_fill 28 = .ok (.iload_n 1, 1) := by decide +kernel
theorem dX5_fill_29 : decode cX5_fill 29 = .ok (.invokevirtual 228, 3) := by decide +kernel
theorem dX5_fill_32 : decode cX5_fill 32 = .ok (.goto 5, 3) := by decide +kernel
theorem dX5_fill_35 : decode cX5_fill 35 = .ok (.bipush (-3), 2) := by decide +kernel
theorem dX5_fill_37 : decode cX5_fill 37 = .ok (.ireturn, 1) := by decide +kernel
theorem dX5_word_0 : decode cX5_word 0 = .ok (.aload_n 0, 1) := by decide +kernel
theorem dX5_word_1 : decode cX5_word 1 = .ok (.iconst 0, 1) := by decide +kernel
theorem dX5_word_2 : decode cX5_word 2 = .ok (.putfield 50, 3) := by decide +kernel
theorem dX5_word_5 : decode cX5_word 5 = .ok (.aload_n 0, 1) := by decide +kernel
theorem dX5_word_6 : decode cX5_word 6 = .ok (.getfield 161, 3) := by decide +kernel
theorem dX5_word_9 : decode cX5_word 9 = .ok (.ifCond .eq 49, 3) := by decide +kernel
theorem dX5_word_12 : decode cX5_word 12 = .ok (.iload_n 1, 1) := by decide +kernel
theorem dX5_word_13 : decode cX5_word 13 = .ok (.iconst 0, 1) := by decide +kernel
theorem dX5_word_14 : decode cX5_word 14 = .ok (.iconst 4, 1) := by decide +kernel
theorem dX5_word_15 : decode cX5_word 15 = .ok (.aload_n 0, 1) := by decide +kernel
theorem dX5_word_16 : decode cX5_word 16 = .ok (.getfield 177, 3) := by decide +kernel
theorem dX5_word_19 : decode cX5_word 19 = .ok (.imul, 1) := by decide +kernel
theorem dX5_word_20 : decode cX5_word 20 = .ok (.aload_n 0, 1) := by decide +kernel
theorem dX5_word_21 : decode cX5_word 21 = .ok (.getfield 168, 3) := by decide +kernel
theorem dX5_word_24 : decode cX5_word 24 = .ok (.imul, 1) := by decide +kernel
theorem dX5_word_25 : decode cX5_word 25 = .ok (.iconst 1, 1) := by decide +kernel
theorem dX5_word_26 : decode cX5_word 26 = .ok (.isub, 1) := by decide +kernel
theorem dX5_word_27 : decode cX5_word 27 = .ok (.invokestatic 54, 3) := by decide +kernel
theorem dX5_word_30 : decode cX5_word 30 = .ok (.ifCond .eq 28, 3) := by decide +kernel
theorem dX5_word_33 : decode cX5_word 33 = .ok (.iload_n 2, 1) := by decide +kernel
theorem dX5_word_34 : decode cX5_word 34 = .ok (.iconst 0, 1) := by decide +kernel
theorem dX5_word_35 : decode cX5_word 35 = .ok (.bipush 127, 2) := by decide +kernel
theorem dX5_word_37 : decode cX5_word 37 = .ok (.invokestatic 54, 3) := by decide +kernel
theorem dX5_word_40 : decode cX5_word 40 = .ok (.ifCond .eq 18, 3) := by decide +kernel
theorem dX5_word_43 : decode cX5_word 43 = .ok (.aload_n 0, 1) := by decide +kernel
theorem dX5_word_44 : decode cX5_word 44 = .ok (.getfield 35, 3) := by decide +kernel
theorem dX5_word_47 : decode cX5_word 47 = .ok (.sipush 128, 3) := by decide +kernel
theorem dX5_word_50 : decode cX5_word 50 = .ok (.iload_n 1, 1) := by decide +kernel
theorem dX5_word_51 : decode cX5_word 51 = .ok (.imul, 1) := by decide +kernel
theorem dX5_word_52 : decode cX5_word 52 = .ok (.iload_n 2, 1) := by decide +kernel
theorem dX5_word_53 : decode cX5_word 53 = .ok (.iadd, 1) := by decide +kernel
theorem dX5_word_54 : decode cX5_word 54 = .ok (.laload, 1) := by decide +kernel
theorem dX5_word_55 : decode cX5_word 55 = .ok (.goto 4, 3) := by decide +kernel
theorem dX5_word_58 : decode cX5_word 58 = .ok (.lconst 0, 1) := by decide +kernel
theorem dX5_word_59 : decode cX5_word 59 = .ok (.lreturn, 1) := by decide +kernel
theorem dX5_makeTag_0 : decode cX5_makeTag 0 = .ok (.iconst 0, 1) := by decide +kernel
theorem dX5_makeTag_1 : decode cX5_makeTag 1 = .ok (.istore_n 1, 1) := by decide +kernel
theorem dX5_makeTag_2 : decode cX5_makeTag 2 = .ok (.iload_n 1, 1) := by decide +kernel
theorem dX5_makeTag_3 : decode cX5_makeTag 3 = .ok (.sipush 128, 3) := by decide +kernel
theorem dX5_makeTag_6 : decode cX5_makeTag 6 = .ok (.if_icmp .ge 64, 3) := by decide +kernel
theorem dX5_makeTag_9 : decode cX5_makeTag 9 = .ok (.aload_n 0, 1) := by decide +kernel
theorem dX5_makeTag_10 : decode cX5_makeTag 10 = .ok (.getfield 38, 3) := by decide +kernel
theorem dX5_makeTag_13 : decode cX5_makeTag 13 = .ok (.iload_n 1, 1) := by decide +kernel
theorem dX5_makeTag_14 : decode cX5_makeTag 14 = .ok (.lconst 0, 1) := by decide +kernel
theorem dX5_makeTag_15 : decode cX5_makeTag 15 = .ok (.lastore, 1) := by decide +kernel
theorem dX5_makeTag_16 : decode cX5_makeTag 16 = .ok (.iconst 0, 1) := by decide +kernel
theorem dX5_makeTag_17 : decode cX5_makeTag 17 = .ok (.istore_n 2, 1) := by decide +kernel
theorem dX5_makeTag_18 : decode cX5_makeTag 18 = .ok (.iload_n 2, 1) := by decide +kernel
theorem dX5_makeTag_19 : decode cX5_makeTag 19 = .ok (.aload_n 0, 1) := by decide +kernel
theorem dX5_makeTag_20 : decode cX5_makeTag 20 = .ok (.getfield 168, 3) := by decide +kernel
theorem dX5_makeTag_23 : decode cX5_makeTag 23 = .ok (.if_icmp .ge 41, 3) := by decide +kernel
theorem dX5_makeTag_26 : decode cX5_makeTag 26 = .ok (.aload_n 0, 1) := by decide +kernel
theorem dX5_makeTag_27 : decode cX5_makeTag 27 = .ok (.getfield 38, 3) := by decide +kernel
theorem dX5_makeTag_30 : decode cX5_makeTag 30 = .ok (.iload_n 1, 1) := by decide +kernel
theorem dX5_makeTag_31 : decode cX5_makeTag 31 = .ok (.dup2, 1) := by decide +kernel
theorem dX5_makeTag_32 : decode cX5_makeTag 32 = .ok (.laload, 1) := by decide +kernel
theorem dX5_makeTag_33 : decode cX5_makeTag 33 = .ok (.aload_n 0, 1) := by decide +kernel
theorem dX5_makeTag_34 : decode cX5_makeTag 34 = .ok (.getfield 35, 3) := by decide +kernel
theorem dX5_makeTag_37 : decode cX5_makeTag 37 = .ok (.sipush 128, 3) := by decide +kernel
theorem dX5_makeTag_40 : decode cX5_makeTag 40 = .ok (.iconst 4, 1) := by decide +kernel
theorem dX5_makeTag_41 : decode cX5_makeTag 41 = .ok (.aload_n 0, 1) := by decide +kernel
theorem dX5_makeTag_42 : decode cX5_makeTag 42 = .ok (.getfield 177, 3) := by decide +kernel
theorem dX5_makeTag_45 : decode cX5_makeTag 45 = .ok (.imul, 1) := by decide +kernel
theorem dX5_makeTag_46 : decode cX5_makeTag 46 = .ok (.iload_n 2, 1) := by decide +kernel
theorem dX5_makeTag_47 : decode cX5_makeTag 47 = .ok (.iconst 1, 1) := by decide +kernel
theorem dX5_makeTag_48 : decode cX5_makeTag 48 = .ok (.iadd, 1) := by decide +kernel
theorem dX5_makeTag_49 : decode cX5_makeTag 49 = .ok (.imul, 1) := by decide +kernel
theorem dX5_makeTag_50 : decode cX5_makeTag 50 = .ok (.iconst 1, 1) := by decide +kernel
theorem dX5_makeTag_51 : decode cX5_makeTag 51 = .ok (.isub, 1) := by decide +kernel
theorem dX5_makeTag_52 : decode cX5_makeTag 52 = .ok (.imul, 1) := by decide +kernel
theorem dX5_makeTag_53 : decode cX5_makeTag 53 = .ok (.iload_n 1, 1) := by decide +kernel
theorem dX5_makeTag_54 : decode cX5_makeTag 54 = .ok (.iadd, 1) := by decide +kernel
theorem dX5_makeTag_55 : decode cX5_makeTag 55 = .ok (.laload, 1) := by decide +kernel
theorem dX5_makeTag_56 : decode cX5_makeTag 56 = .ok (.lxor, 1) := by decide +kernel
theorem dX5_makeTag_57 : decode cX5_makeTag 57 = .ok (.lastore, 1) := by decide +kernel
theorem dX5_makeTag_58 : decode cX5_makeTag 58 = .ok (.iinc 2 1, 3) := by decide +kernel
theorem dX5_makeTag_61 : decode cX5_makeTag 61 = .ok (.goto (-43), 3) := by decide +kernel
theorem dX5_makeTag_64 : decode cX5_makeTag 64 = .ok (.iinc 1 1, 3) := by decide +kernel
theorem dX5_makeTag_67 : decode cX5_makeTag 67 = .ok (.goto (-65), 3) := by decide +kernel
theorem dX5_makeTag_70 : decode cX5_makeTag 70 = .ok (.aload_n 0, 1) := by decide +kernel
theorem dX5_makeTag_71 : decode cX5_makeTag 71 = .ok (.iconst 4, 1) := by decide +kernel
theorem dX5_makeTag_72 : decode cX5_makeTag 72 = .ok (.putfield 109, 3) := by decide +kernel
theorem dX5_makeTag_75 : decode cX5_makeTag 75 = .ok (.iconst 0, 1) := by decide +kernel
theorem dX5_makeTag_76 : decode cX5_makeTag 76 = .ok (.istore_n 1, 1) := by decide +kernel
theorem dX5_makeTag_77 : decode cX5_makeTag 77 = .ok (.iload_n 1, 1) := by decide +kernel
theorem dX5_makeTag_78 : decode cX5_makeTag 78 = .ok (.sipush 128, 3) := by decide +kernel
theorem dX5_makeTag_81 : decode cX5_makeTag 81 = .ok (.if_icmp .ge 21, 3) := by decide +kernel
theorem dX5_makeTag_84 : decode cX5_makeTag 84 = .ok (.aload_n 0, 1) := by decide +kernel
theorem dX5_makeTag_85 : decode cX5_makeTag 85 = .ok (.bipush 8, 2) := by decide +kernel
theorem dX5_makeTag_87 : decode cX5_makeTag 87 = .ok (.aload_n 0, 1) := by decide +kernel
theorem dX5_makeTag_88 : decode cX5_makeTag 88 = .ok (.getfield 38, 3) := by decide +kernel
theorem dX5_makeTag_91 : decode cX5_makeTag 91 = .ok (.iload_n 1, 1) := by decide +kernel
theorem dX5_makeTag_92 : decode cX5_makeTag 92 = .ok (.laload, 1) := by decide +kernel
theorem dX5_makeTag_93 : decode cX5_makeTag 93 = .ok (.invokevirtual 144, 3) := by decide +kernel
theorem dX5_makeTag_96 : decode cX5_makeTag 96 = .ok (.iinc 1 1, 3) := by decide +kernel
theorem dX5_makeTag_99 : decode cX5_makeTag 99 = .ok (.goto (-22), 3) := by decide +kernel
theorem dX5_makeTag_102 : decode cX5_makeTag 102 = .ok (.aload_n 0, 1) := by decide +kernel
theorem dX5_makeTag_103 : decode cX5_makeTag 103 = .ok (.aload_n 0, 1) := by decide +kernel
theorem dX5_makeTag_104 : decode cX5_makeTag 104 = .ok (.getfield 174, 3) := by decide +kernel
theorem dX5_makeTag_107 : decode cX5_makeTag 107 = .ok (.invokevirtual 155, 3) := by decide +kernel
theorem dX5_makeTag_110 : decode cX5_makeTag 110 = .ok (.return_, 1) := by decide +kernel
theorem dX5_tag_0 : decode cX5_tag 0 = .ok (.aload_n 0, 1) := by decide +kernel
theorem dX5_tag_1 : decode cX5_tag 1 = .ok (.iconst 0, 1) := by decide +kernel
theorem dX5_tag_2 : decode cX5_tag 2 = .ok (.putfield 50, 3) := by decide +kernel
theorem dX5_tag_5 : decode cX5_tag 5 = .ok (.iload_n 1, 1) := by decide +kernel
theorem dX5_tag_6 : decode cX5_tag 6 = .ok (.invokestatic 58, 3) := by decide +kernel
theorem dX5_tag_9 : decode cX5_tag 9 = .ok (.ifCond .ne 6, 3) := by decide +kernel
theorem dX5_tag_12 : decode cX5_tag 12 = .ok (.bipush (-2), 2) := by decide +kernel
theorem dX5_tag_14 : decode cX5_tag 14 = .ok (.ireturn, 1) := by decide +kernel
theorem dX5_tag_15 : decode cX5_tag 15 = .ok (.aload_n 0, 1) := by decide +kernel
theorem dX5_tag_16 : decode cX5_tag 16 = .ok (.getfield 161, 3) := by decide +kernel
theorem dX5_tag_19 : decode cX5_tag 19 = .ok (.ifCond .eq 21, 3) := by decide +kernel
theorem dX5_tag_22 : decode cX5_tag 22 = .ok (.aload_n 0, 1) := by decide +kernel
theorem dX5_tag_23 : decode cX5_tag 23 = .ok (.getfield 180, 3) := by decide +kernel
theorem dX5_tag_26 : decode cX5_tag 26 = .ok (.iconst 4, 1) := by decide +kernel
theorem dX5_tag_27 : decode cX5_tag 27 = .ok (.aload_n 0, 1) := by decide +kernel
theorem dX5_tag_28 : decode cX5_tag 28 = .ok (.getfield 168, 3) := by decide +kernel
theorem dX5_tag_31 : decode cX5_tag 31 = .ok (.imul, 1) := by decide +kernel
theorem dX5_tag_32 : decode cX5_tag 32 = .ok (.aload_n 0, 1) := by decide +kernel
theorem dX5_tag_33 : decode cX5_tag 33 = .ok (.getfield 171, 3) := by decide +kernel
theorem dX5_tag_36 : decode cX5_tag 36 = .ok (.imul, 1) := by decide +kernel
theorem dX5_tag_37 : decode cX5_tag 37 = .ok (.if_icmp .ge 6, 3) := by decide +kernel
theorem dX5_tag_40 : decode cX5_tag 40 = .ok (.bipush (-3), 2) := by decide +kernel
theorem dX5_tag_42 : decode cX5_tag 42 = .ok (.ireturn, 1) := by decide +kernel
theorem dX5_tag_43 : decode cX5_tag 43 = .ok (.aload_n 0, 1) := by decide +kernel
theorem dX5_tag_44 : decode cX5_tag 44 = .ok (.invokevirtual 231, 3) := by decide +kernel
theorem dX5_tag_47 : decode cX5_tag 47 = .ok (.aload_n 0, 1) := by decide +kernel
theorem dX5_tag_48 : decode cX5_tag 48 = .ok (.iload_n 1, 1) := by decide +kernel
theorem dX5_tag_49 : decode cX5_tag 49 = .ok (.aload_n 0, 1) := by decide +kernel
theorem dX5_tag_50 : decode cX5_tag 50 = .ok (.getfield 174, 3) := by decide +kernel
theorem dX5_tag_53 : decode cX5_tag 53 = .ok (.invokevirtual 152, 3) := by decide +kernel
theorem dX5_tag_56 : decode cX5_tag 56 = .ok (.aload_n 0, 1) := by decide +kernel
theorem dX5_tag_57 : decode cX5_tag 57 = .ok (.getfield 174, 3) := by decide +kernel
theorem dX5_tag_60 : decode cX5_tag 60 = .ok (.ireturn, 1) := by decide +kernel
end
section
theorem dX5_told_0 : decode cX5_told 0 = .ok (.aload_n 0, 1) := by decide +kernel
theorem dX5_told_1 : decode cX5_told 1 = .ok (.iconst 0, 1) := by decide +kernel
theorem dX5_told_2 : decode cX5_told 2 = .ok (.putfield 50, 3) := by decide +kernel
theorem dX5_told_5 : decode cX5_told 5 = .ok (.iload_n 1, 1) := by decide +kernel
theorem dX5_told_6 : decode cX5_told 6 = .ok (.iconst 0, 1) := by decide +kernel
theorem dX5_told_7 : decode cX5_told 7 = .ok (.bipush 6, 2) := by decide +kernel
theorem dX5_told_9 : decode cX5_told 9 = .ok (.invokestatic 54, 3) := by decide +kernel
theorem dX5_told_12 : decode cX5_told 12 = .ok (.ifCond .ne 6, 3) := by decide +kernel
theorem dX5_told_15 : decode cX5_told 15 = .ok (.bipush (-2), 2) := by decide +kernel
theorem dX5_told_17 : decode cX5_told 17 = .ok (.ireturn, 1) := by decide +kernel
theorem dX5_told_18 : decode cX5_told 18 = .ok (.aload_n 0, 1) := by decide +kernel
theorem dX5_told_19 : decode cX5_told 19 = .ok (.getfield 161, 3) := by decide +kernel
theorem dX5_told_22 : decode cX5_told 22 = .ok (.ifCond .ne 7, 3) := by decide +kernel
theorem dX5_told_25 : decode cX5_told 25 = .ok (.iconst 0, 1) := by decide +kernel
theorem dX5_told_26 : decode cX5_told 26 = .ok (.goto 92, 3) := by decide +kernel
theorem dX5_told_29 : decode cX5_told 29 = .ok (.iload_n 1, 1) := by decide +kernel
theorem dX5_told_30 : decode cX5_told 30 = .ok (.ifCond .ne 10, 3) := by decide +kernel
theorem dX5_told_33 : decode cX5_told 33 = .ok (.aload_n 0, 1) := by decide +kernel
theorem dX5_told_34 : decode cX5_told 34 = .ok (.getfield 165, 3) := by decide +kernel
theorem dX5_told_37 : decode cX5_told 37 = .ok (.goto 81, 3) := by decide +kernel
theorem dX5_told_40 : decode cX5_told 40 = .ok (.iload_n 1, 1) := by decide +kernel
theorem dX5_told_41 : decode cX5_told 41 = .ok (.iconst 1, 1) := by decide +kernel
theorem dX5_told_42 : decode cX5_told 42 = .ok (.if_icmp .ne 10, 3) := by decide +kernel
theorem dX5_told_45 : decode cX5_told 45 = .ok (.aload_n 0, 1) := by decide +kernel
theorem dX5_told_46 : decode cX5_told 46 = .ok (.getfield 168, 3) := by decide +kernel
theorem dX5_told_49 : decode cX5_told 49 = .ok (.goto 69, 3) := by decide +kernel
theorem dX5_told_52 : decode cX5_told 52 = .ok (.iload_n 1, 1) := by decide +kernel
theorem dX5_told_53 : decode cX5_told 53 = .ok (.iconst 2, 1) := by decide +kernel
theorem dX5_told_54 : decode cX5_told 54 = .ok (.if_icmp .ne 10, 3) := by decide +kernel
theorem dX5_told_57 : decode cX5_told 57 = .ok (.aload_n 0, 1) := by decide +kernel
theorem dX5_told_58 : decode cX5_told 58 = .ok (.getfield 171, 3) := by decide +kernel
theorem dX5_told_61 : decode cX5_told 61 = .ok (.goto 57, 3) := by decide +kernel
theorem dX5_told_64 : decode cX5_told 64 = .ok (.iload_n 1, 1) := by decide +kernel
theorem dX5_told_65 : decode cX5_told 65 = .ok (.iconst 3, 1) := by decide +kernel
theorem dX5_told_66 : decode cX5_told 66 = .ok (.if_icmp .ne 17, 3) := by decide +kernel
theorem dX5_told_69 : decode cX5_told 69 = .ok (.iconst 4, 1) := by decide +kernel
theorem dX5_told_70 : decode cX5_told 70 = .ok (.aload_n 0, 1) := by decide +kernel
theorem dX5_told_71 : decode cX5_told 71 = .ok (.getfield 177, 3) := by decide +kernel
theorem dX5_told_74 : decode cX5_told 74 = .ok (.imul, 1) := by decide +kernel
theorem dX5_told_75 : decode cX5_told 75 = .ok (.aload_n 0, 1) := by decide +kernel
theorem dX5_told_76 : decode cX5_told 76 = .ok (.getfield 168, 3) := by decide +kernel
theorem dX5_told_79 : decode cX5_told 79 = .ok (.imul, 1) := by decide +kernel
theorem dX5_told_80 : decode cX5_told 80 = .ok (.goto 38, 3) := by decide +kernel
theorem dX5_told_83 : decode cX5_told 83 = .ok (.iload_n 1, 1) := by decide +kernel
theorem dX5_told_84 : decode cX5_told 84 = .ok (.iconst 4, 1) := by decide +kernel
theorem dX5_told_85 : decode cX5_told 85 = .ok (.if_icmp .ne 10, 3) := by decide +kernel
theorem dX5_told_88 : decode cX5_told 88 = .ok (.aload_n 0, 1) := by decide +kernel
theorem dX5_told_89 : decode cX5_told 89 = .ok (.getfield 180, 3) := by decide +kernel
theorem dX5_told_92 : decode cX5_told 92 = .ok (.goto 26, 3) := by decide +kernel
theorem dX5_told_95 : decode cX5_told 95 = .ok (.iload_n 1, 1) := by decide +kernel
theorem dX5_told_96 : decode cX5_told 96 = .ok (.iconst 5, 1) := by decide +kernel
theorem dX5_told_97 : decode cX5_told 97 = .ok (.if_icmp .ne 17, 3) := by decide +kernel
theorem dX5_told_100 : decode cX5_told 100 = .ok (.iconst 4, 1) := by decide +kernel
theorem dX5_told_101 : decode cX5_told 101 = .ok (.aload_n 0, 1) := by decide +kernel
theorem dX5_told_102 : decode cX5_told 102 = .ok (.getfield 168, 3) := by decide +kernel
theorem dX5_told_105 : decode cX5_told 105 = .ok (.imul, 1) := by decide +kernel
theorem dX5_told_106 : decode cX5_told 106 = .ok (.aload_n 0, 1) := by decide +kernel
theorem dX5_told_107 : decode cX5_told 107 = .ok (.getfield 171, 3) := by decide +kernel
theorem dX5_told_110 : decode cX5_told 110 = .ok (.imul, 1) := by decide +kernel
theorem dX5_told_111 : decode cX5_told 111 = .ok (.goto 7, 3) := by decide +kernel
theorem dX5_told_114 : decode cX5_told 114 = .ok (.aload_n 0, 1) := by decide +kernel
theorem dX5_told_115 : decode cX5_told 115 = .ok (.getfield 174, 3) := by decide +kernel
theorem dX5_told_118 : decode cX5_told 118 = .ok (.ireturn, 1) := by decide +kernel
theorem dX5_seal_0 : decode cX5_seal 0 = .ok (.aload_n 0, 1) := by decide +kernel
theorem dX5_seal_1 : decode cX5_seal 1 = .ok (.iconst 0, 1) := by decide +kernel
theorem dX5_seal_2 : decode cX5_seal 2 = .ok (.putfield 50, 3) := by decide +kernel
theorem dX5_seal_5 : decode cX5_seal 5 = .ok (.iload_n 1, 1) := by decide +kernel
theorem dX5_seal_6 : decode cX5_seal 6 = .ok (.invokestatic 58, 3) := by decide +kernel
theorem dX5_seal_9 : decode cX5_seal 9 = .ok (.ifCond .ne 6, 3) := by decide +kernel
theorem dX5_seal_12 : decode cX5_seal 12 = .ok (.bipush (-2), 2) := by decide +kernel
theorem dX5_seal_14 : decode cX5_seal 14 = .ok (.ireturn, 1) := by decide +kernel
theorem dX5_seal_15 : decode cX5_seal 15 = .ok (.aload_n 0, 1) := by decide +kernel
theorem dX5_seal_16 : decode cX5_seal 16 = .ok (.iload_n 2, 1) := by decide +kernel
theorem dX5_seal_17 : decode cX5_seal 17 = .ok (.iload_n 3, 1) := by decide +kernel
theorem dX5_seal_18 : decode cX5_seal 18 = .ok (.iload 4, 2) := by decide +kernel
theorem dX5_seal_20 : decode cX5_seal 20 = .ok (.iload 5, 2) := by decide +kernel
theorem dX5_seal_22 : decode cX5_seal 22 = .ok (.iload 6, 2) := by decide +kernel
theorem dX5_seal_24 : decode cX5_seal 24 = .ok (.iload 7, 2) := by decide +kernel
theorem dX5_seal_26 : decode cX5_seal 26 = .ok (.iload 8, 2) := by decide +kernel
theorem dX5_seal_28 : decode cX5_seal 28 = .ok (.iconst (-1), 1) := by decide +kernel
theorem dX5_seal_29 : decode cX5_seal 29 = .ok (.iconst (-1), 1) := by decide +kernel
theorem dX5_seal_30 : decode cX5_seal 30 = .ok (.invokevirtual 234, 3) := by decide +kernel
theorem dX5_seal_33 : decode cX5_seal 33 = .ok (.bipush (-2), 2) := by decide +kernel
theorem dX5_seal_35 : decode cX5_seal 35 = .ok (.if_icmp .ne 6, 3) := by decide +kernel
theorem dX5_seal_38 : decode cX5_seal 38 = .ok (.bipush (-2), 2) := by decide +kernel
theorem dX5_seal_40 : decode cX5_seal 40 = .ok (.ireturn, 1) := by decide +kernel
theorem dX5_seal_41 : decode cX5_seal 41 = .ok (.aload_n 0, 1) := by decide +kernel
theorem dX5_seal_42 : decode cX5_seal 42 = .ok (.sipush 1000, 3) := by decide +kernel
theorem dX5_seal_45 : decode cX5_seal 45 = .ok (.invokevirtual 228, 3) := by decide +kernel
theorem dX5_seal_48 : decode cX5_seal 48 = .ok (.pop, 1) := by decide +kernel
theorem dX5_seal_49 : decode cX5_seal 49 = .ok (.aload_n 0, 1) := by decide +kernel
theorem dX5_seal_50 : decode cX5_seal 50 = .ok (.invokevirtual 231, 3) := by decide +kernel
theorem dX5_seal_53 : decode cX5_seal 53 = .ok (.aload_n 0, 1) := by decide +kernel
theorem dX5_seal_54 : decode cX5_seal 54 = .ok (.iload_n 1, 1) := by decide +kernel
theorem dX5_seal_55 : decode cX5_seal 55 = .ok (.aload_n 0, 1) := by decide +kernel
theorem dX5_seal_56 : decode cX5_seal 56 = .ok (.getfield 174, 3) := by decide +kernel
theorem dX5_seal_59 : decode cX5_seal 59 = .ok (.invokevirtual 152, 3) := by decide +kernel
theorem dX5_seal_62 : decode cX5_seal 62 = .ok (.aload_n 0, 1) := by decide +kernel
theorem dX5_seal_63 : decode cX5_seal 63 = .ok (.getfield 174, 3) := by decide +kernel
theorem dX5_seal_66 : decode cX5_seal 66 = .ok (.ireturn, 1) := by decide +kernel
end
section
theorem dL_law_0 : decode cL_law 0 = .ok (.new 7, 3) := by decide +kernel
theorem dL_law_3 : decode cL_law 3 = .ok (.dup, 1) := by decide +kernel
theorem dL_law_4 : decode cL_law 4 = .ok (.invokespecial 9, 3) := by decide +kernel
theorem dL_law_7 : decode cL_law 7 = .ok (.astore_n 1, 1) := by decide +kernel
theorem dL_law_8 : decode cL_law 8 = .ok (.new 10, 3) := by decide +kernel
theorem dL_law_11 : decode cL_law 11 = .ok (.dup, 1) := by decide +kernel
theorem dL_law_12 : decode cL_law 12 = .ok (.invokespecial 12, 3) := by decide +kernel
theorem dL_law_15 : decode cL_law 15 = .ok (.astore_n 2, 1) := by decide +kernel
theorem dL_law_16 : decode cL_law 16 = .ok (.iconst 0, 1) := by decide +kernel
theorem dL_law_17 : decode cL_law 17 = .ok (.istore_n 3, 1) := by decide +kernel
theorem dL_law_18 : decode cL_law 18 = .ok (.iload_n 3, 1) := by decide +kernel
theorem dL_law_19 : decode cL_law 19 = .ok (.aload_n 0, 1) := by decide +kernel
theorem dL_law_20 : decode cL_law 20 = .ok (.arraylength, 1) := by decide +kernel
theorem dL_law_21 : decode cL_law 21 = .ok (.bipush 10, 2) := by decide +kernel
theorem dL_law_23 : decode cL_law 23 = .ok (.isub, 1) := by decide +kernel
theorem dL_law_24 : decode cL_law 24 = .ok (.if_icmp .gt 639, 3) := by decide +kernel
theorem dL_law_27 : decode cL_law 27 = .ok (.aload_n 0, 1) := by decide +kernel
theorem dL_law_28 : decode cL_law 28 = .ok (.iload_n 3, 1) := by decide +kernel
theorem dL_law_29 : decode cL_law 29 = .ok (.iaload, 1) := by decide +kernel
theorem dL_law_30 : decode cL_law 30 = .ok (.bipush 15, 2) := by decide +kernel
theorem dL_law_32 : decode cL_law 32 = .ok (.iand, 1) := by decide +kernel
theorem dL_law_33 : decode cL_law 33 = .ok (.tableswitch 624 0 11 #[63, 136, 159, 182, 215, 268, 311, 422, 445, 479, 502, 525], 63) := by decide +kernel
theorem dL_law_96 : decode cL_law 96 = .ok (.aload_n 1, 1) := by decide +kernel
theorem dL_law_97 : decode cL_law 97 = .ok (.aload_n 0, 1) := by decide +kernel
theorem dL_law_98 : decode cL_law 98 = .ok (.iload_n 3, 1) := by decide +kernel
theorem dL_law_99 : decode cL_law 99 = .ok (.iconst 1, 1) := by decide +kernel
theorem dL_law_100 : decode cL_law 100 = .ok (.iadd, 1) := by decide +kernel
theorem dL_law_101 : decode cL_law 101 = .ok (.iaload, 1) := by decide +kernel
theorem dL_law_102 : decode cL_law 102 = .ok (.aload_n 0, 1) := by decide +kernel
theorem dL_law_103 : decode cL_law 103 = .ok (.iload_n 3, 1) := by decide +kernel
theorem dL_law_104 : decode cL_law 104 = .ok (.iconst 2, 1) := by decide +kernel
theorem dL_law_105 : decode cL_law 105 = .ok (.iadd, 1) := by decide +kernel
theorem dL_law_106 : decode cL_law 106 = .ok (.iaload, 1) := by decide +kernel
theorem dL_law_107 : decode cL_law 107 = .ok (.aload_n 0, 1) := by decide +kernel
theorem dL_law_108 : decode cL_law 108 = .ok (.iload_n 3, 1) := by decide +kernel
theorem dL_law_109 : decode cL_law 109 = .ok (.iconst 3, 1) := by decide +kernel
theorem dL_law_110 : decode cL_law 110 = .ok (.iadd, 1) := by decide +kernel
theorem dL_law_111 : decode cL_law 111 = .ok (.iaload, 1) := by decide +kernel
theorem dL_law_112 : decode cL_law 112 = .ok (.i2l, 1) := by decide +kernel
theorem dL_law_113 : decode cL_law 113 = .ok (.bipush 32, 2) := by decide +kernel
theorem dL_law_115 : decode cL_law 115 = .ok (.lshl, 1) := by decide +kernel
theorem dL_law_116 : decode cL_law 116 = .ok (.aload_n 0, 1) := by decide +kernel
theorem dL_law_117 : decode cL_law 117 = .ok (.iload_n 3, 1) := by decide +kernel
theorem dL_law_118 : decode cL_law 118 = .ok (.iconst 4, 1) := by decide +kernel
theorem dL_law_119 : decode cL_law 119 = .ok (.iadd, 1) := by decide +kernel
theorem dL_law_120 : decode cL_law 120 = .ok (.iaload, 1) := by decide +kernel
theorem dL_law_121 : decode cL_law 121 = .ok (.i2l, 1) := by decide +kernel
theorem dL_law_122 : decode cL_law 122 = .ok (.ldc2_w 13, 3) := by decide +kernel
theorem dL_law_125 : decode cL_law 125 = .ok (.land, 1) := by decide +kernel
theorem dL_law_126 : decode cL_law 126 = .ok (.lor, 1) := by decide +kernel
theorem dL_law_127 : decode cL_law 127 = .ok (.invokevirtual 15, 3) := by decide +kernel
theorem dL_law_130 : decode cL_law 130 = .ok (.aload_n 2, 1) := by decide +kernel
theorem dL_law_131 : decode cL_law 131 = .ok (.aload_n 0, 1) := by decide +kernel
theorem dL_law_132 : decode cL_law 132 = .ok (.iload_n 3, 1) := by decide +kernel
theorem dL_law_133 : decode cL_law 133 = .ok (.iconst 1, 1) := by decide +kernel
theorem dL_law_134 : decode cL_law 134 = .ok (.iadd, 1) := by decide +kernel
theorem dL_law_135 : decode cL_law 135 = .ok (.iaload, 1) := by decide +kernel
theorem dL_law_136 : decode cL_law 136 = .ok (.aload_n 0, 1) := by decide +kernel
theorem dL_law_137 : decode cL_law 137 = .ok (.iload_n 3, 1) := by decide +kernel
theorem dL_law_138 : decode cL_law 138 = .ok (.iconst 2, 1) := by decide +kernel
theorem dL_law_139 : decode cL_law 139 = .ok (.iadd, 1) := by decide +kernel
theorem dL_law_140 : decode cL_law 140 = .ok (.iaload, 1) := by decide +kernel
theorem dL_law_141 : decode cL_law 141 = .ok (.aload_n 0, 1) := by decide +kernel
theorem dL_law_142 : decode cL_law 142 = .ok (.iload_n 3, 1) := by decide +kernel
theorem dL_law_143 : decode cL_law 143 = .ok (.iconst 3, 1) := by decide +kernel
theorem dL_law_144 : decode cL_law 144 = .ok (.iadd, 1) := by decide +kernel
theorem dL_law_145 : decode cL_law 145 = .ok (.iaload, 1) := by decide +kernel
theorem dL_law_146 : decode cL_law 146 = .ok (.i2l, 1) := by decide +kernel
theorem dL_law_147 : decode cL_law 147 = .ok (.bipush 32, 2) := by decide +kernel
theorem dL_law_149 : decode cL_law 149 = .ok (.lshl, 1) := by decide +kernel
theorem dL_law_150 : decode cL_law 150 = .ok (.aload_n 0, 1) := by decide +kernel
theorem dL_law_151 : decode cL_law 151 = .ok (.iload_n 3, 1) := by decide +kernel
theorem dL_law_152 : decode cL_law 152 = .ok (.iconst 4, 1) := by decide +kernel
theorem dL_law_153 : decode cL_law 153 = .ok (.iadd, 1) := by decide +kernel
theorem dL_law_154 : decode cL_law 154 = .ok (.iaload, 1) := by decide +kernel
theorem dL_law_155 : decode cL_law 155 = .ok (.i2l, 1) := by decide +kernel
theorem dL_law_156 : decode cL_law 156 = .ok (.ldc2_w 13, 3) := by decide +kernel
theorem dL_law_159 : decode cL_law 159 = .ok (.land, 1) := by decide +kernel
theorem dL_law_160 : decode cL_law 160 = .ok (.lor, 1) := by decide +kernel
theorem dL_law_161 : decode cL_law 161 = .ok (.invokevirtual 19, 3) := by decide +kernel
theorem dL_law_164 : decode cL_law 164 = .ok (.if_icmp .eq 493, 3) := by decide +kernel
theorem dL_law_167 : decode cL_law 167 = .ok (.iconst 0, 1) := by decide +kernel
theorem dL_law_168 : decode cL_law 168 = .ok (.ireturn, 1) := by decide +kernel
theorem dL_law_169 : decode cL_law 169 = .ok (.aload_n 1, 1) := by decide +kernel
theorem dL_law_170 : decode cL_law 170 = .ok (.aload_n 0, 1) := by decide +kernel
theorem dL_law_171 : decode cL_law 171 = .ok (.iload_n 3, 1) := by decide +kernel
theorem dL_law_172 : decode cL_law 172 = .ok (.iconst 1, 1) := by decide +kernel
theorem dL_law_173 : decode cL_law 173 = .ok (.iadd, 1) := by decide +kernel
theorem dL_law_174 : decode cL_law 174 = .ok (.iaload, 1) := by decide +kernel
theorem dL_law_175 : decode cL_law 175 = .ok (.invokevirtual 20, 3) := by decide +kernel
theorem dL_law_178 : decode cL_law 178 = .ok (.aload_n 2, 1) := by decide +kernel
theorem dL_law_179 : decode cL_law 179 = .ok (.aload_n 0, 1) := by decide +kernel
theorem dL_law_180 : decode cL_law 180 = .ok (.iload_n 3, 1) := by decide +kernel
theorem dL_law_181 : decode cL_law 181 = .ok (.iconst 1, 1) := by decide +kernel
theorem dL_law_182 : decode cL_law 182 = .ok (.iadd, 1) := by decide +kernel
theorem dL_law_183 : decode cL_law 183 = .ok (.iaload, 1) := by decide +kernel
theorem dL_law_184 : decode cL_law 184 = .ok (.invokevirtual 24, 3) := by decide +kernel
theorem dL_law_187 : decode cL_law 187 = .ok (.if_icmp .eq 470, 3) := by decide +kernel
theorem dL_law_190 : decode cL_law 190 = .ok (.iconst 0, 1) := by decide +kernel
theorem dL_law_191 : decode cL_law 191 = .ok (.ireturn, 1) := by decide +kernel
theorem dL_law_192 : decode cL_law 192 = .ok (.aload_n 1, 1) := by decide +kernel
theorem dL_law_193 : decode cL_law 193 = .ok (.aload_n 0, 1) := by decide +kernel
theorem dL_law_194 : decode cL_law 194 = .ok (.iload_n 3, 1) := by decide +kernel
theorem dL_law_195 : decode cL_law 195 = .ok (.iconst 1, 1) := by decide +kernel
theorem dL_law_196 : decode cL_law 196 = .ok (.iadd, 1) := by decide +kernel
theorem dL_law_197 : decode cL_law 197 = .ok (.iaload, 1) := by decide +kernel
theorem dL_law_198 : decode cL_law 198 = .ok (.invokevirtual 25, 3) := by decide +kernel
theorem dL_law_201 : decode cL_law 201 = .ok (.aload_n 2, 1) := by decide +kernel
theorem dL_law_202 : decode cL_law 202 = .ok (.aload_n 0, 1) := by decide +kernel
theorem dL_law_203 : decode cL_law 203 = .ok (.iload_n 3, 1) := by decide +kernel
theorem dL_law_204 : decode cL_law 204 = .ok (.iconst 1, 1) := by decide +kernel
theorem dL_law_205 : decode cL_law 205 = .ok (.iadd, 1) := by decide +kernel
theorem dL_law_206 : decode cL_law 206 = .ok (.iaload, 1) := by decide +kernel
theorem dL_law_207 : decode cL_law 207 = .ok (.invokevirtual 28, 3) := by decide +kernel
theorem dL_law_210 : decode cL_law 210 = .ok (.if_icmp .eq 447, 3) := by decide +kernel
theorem dL_law_213 : decode cL_law 213 = .ok (.iconst 0, 1) := by decide +kernel
theorem dL_law_214 : decode cL_law 214 = .ok (.ireturn, 1) := by decide +kernel
theorem dL_law_215 : decode cL_law 215 = .ok (.aload_n 1, 1) := by decide +kernel
theorem dL_law_216 : decode cL_law 216 = .ok (.aload_n 0, 1) := by decide +kernel
theorem dL_law_217 : decode cL_law 217 = .ok (.iload_n 3, 1) := by decide +kernel
theorem dL_law_218 : decode cL_law 218 = .ok (.iconst 1, 1) := by decide +kernel
theorem dL_law_219 : decode cL_law 219 = .ok (.iadd, 1) := by decide +kernel
theorem dL_law_220 : decode cL_law 220 = .ok (.iaload, 1) := by decide +kernel
theorem dL_law_221 : decode cL_law 221 = .ok (.aload_n 0, 1) := by decide +kernel
theorem dL_law_222 : decode cL_law 222 = .ok (.iload_n 3, 1) := by decide +kernel
theorem dL_law_223 : decode cL_law 223 = .ok (.iconst 2, 1) := by decide +kernel
theorem dL_law_224 : decode cL_law 224 = .ok (.iadd, 1) := by decide +kernel
theorem dL_law_225 : decode cL_law 225 = .ok (.iaload, 1) := by decide +kernel
theorem dL_law_226 : decode cL_law 226 = .ok (.invokevirtual 29, 3) := by decide +kernel
theorem dL_law_229 : decode cL_law 229 = .ok (.aload_n 2, 1) := by decide +kernel
theorem dL_law_230 : decode cL_law 230 = .ok (.aload_n 0, 1) := by decide +kernel
theorem dL_law_231 : decode cL_law 231 = .ok (.iload_n 3, 1) := by decide +kernel
theorem dL_law_232 : decode cL_law 232 = .ok (.iconst 1, 1) := by decide +kernel
theorem dL_law_233 : decode cL_law 233 = .ok (.iadd, 1) := by decide +kernel
theorem dL_law_234 : decode cL_law 234 = .ok (.iaload, 1) := by decide +kernel
theorem dL_law_235 : decode cL_law 235 = .ok (.aload_n 0, 1) := by decide +kernel
theorem dL_law_236 : decode cL_law 236 = .ok (.iload_n 3, 1) := by decide +kernel
theorem dL_law_237 : decode cL_law 237 = .ok (.iconst 2, 1) := by decide +kernel
theorem dL_law_238 : decode cL_law 238 = .ok (.iadd, 1) := by decide +kernel
theorem dL_law_239 : decode cL_law 239 = .ok (.iaload, 1) := by decide +kernel
theorem dL_law_240 : decode cL_law 240 = .ok (.invokevirtual 33, 3) := by decide +kernel
theorem dL_law_243 : decode cL_law 243 = .ok (.if_icmp .eq 414, 3) := by decide +kernel
theorem dL_law_246 : decode cL_law 246 = .ok (.iconst 0, 1) := by decide +kernel
theorem dL_law_247 : decode cL_law 247 = .ok (.ireturn, 1) := by decide +kernel
theorem dL_law_248 : decode cL_law 248 = .ok (.aload_n 1, 1) := by decide +kernel
theorem dL_law_249 : decode cL_law 249 = .ok (.aload_n 0, 1) := by decide +kernel
theorem dL_law_250 : decode cL_law 250 = .ok (.iload_n 3, 1) := by decide +kernel
theorem dL_law_251 : decode cL_law 251 = .ok (.iconst 1, 1) := by decide +kernel
theorem dL_law_252 : decode cL_law 252 = .ok (.iadd, 1) := by decide +kernel
theorem dL_law_253 : decode cL_law 253 = .ok (.iaload, 1) := by decide +kernel
theorem dL_law_254 : decode cL_law 254 = .ok (.aload_n 0, 1) := by decide +kernel
theorem dL_law_255 : decode cL_law 255 = .ok (.iload_n 3, 1) := by decide +kernel
theorem dL_law_256 : decode cL_law 256 = .ok (.iconst 2, 1) := by decide +kernel
theorem dL_law_257 : decode cL_law 257 = .ok (.iadd, 1) := by decide +kernel
theorem dL_law_258 : decode cL_law 258 = .ok (.iaload, 1) := by decide +kernel
theorem dL_law_259 : decode cL_law 259 = .ok (.aload_n 0, 1) := by decide +kernel
theorem dL_law_260 : decode cL_law 260 = .ok (.iload_n 3, 1) := by decide +kernel
theorem dL_law_261 : decode cL_law 261 = .ok (.iconst 3, 1) := by decide +kernel
theorem dL_law_262 : decode cL_law 262 = .ok (.iadd, 1) := by decide +kernel
theorem dL_law_263 : decode cL_law 263 = .ok (.iaload, 1) := by decide +kernel
theorem dL_law_264 : decode cL_law 264 = .ok (.aload_n 0, 1) := by decide +kernel
theorem dL_law_265 : decode cL_law 265 = .ok (.iload_n 3, 1) := by decide +kernel
theorem dL_law_266 : decode cL_law 266 = .ok (.iconst 4, 1) := by decide +kernel
theorem dL_law_267 : decode cL_law 267 = .ok (.iadd, 1) := by decide +kernel
theorem dL_law_268 : decode cL_law 268 = .ok (.iaload, 1) := by decide +kernel
theorem dL_law_269 : decode cL_law 269 = .ok (.invokevirtual 34, 3) := by decide +kernel
theorem dL_law_272 : decode cL_law 272 = .ok (.aload_n 2, 1) := by decide +kernel
theorem dL_law_273 : decode cL_law 273 = .ok (.aload_n 0, 1) := by decide +kernel
theorem dL_law_274 : decode cL_law 274 = .ok (.iload_n 3, 1) := by decide +kernel
theorem dL_law_275 : decode cL_law 275 = .ok (.iconst 1, 1) := by decide +kernel
theorem dL_law_276 : decode cL_law 276 = .ok (.iadd, 1) := by decide +kernel
theorem dL_law_277 : decode cL_law 277 = .ok (.iaload, 1) := by decide +kernel
theorem dL_law_278 : decode cL_law 278 = .ok (.aload_n 0, 1) := by decide +kernel
theorem dL_law_279 : decode cL_law 279 = .ok (.iload_n 3, 1) := by decide +kernel
theorem dL_law_280 : decode cL_law 280 = .ok (.iconst 2, 1) := by decide +kernel
theorem dL_law_281 : decode cL_law 281 = .ok (.iadd, 1) := by decide +kernel
theorem dL_law_282 : decode cL_law 282 = .ok (.iaload, 1) := by decide +kernel
theorem dL_law_283 : decode cL_law 283 = .ok (.aload_n 0, 1) := by decide +kernel
theorem dL_law_284 : decode cL_law 284 = .ok (.iload_n 3, 1) := by decide +kernel
theorem dL_law_285 : decode cL_law 285 = .ok (.iconst 3, 1) := by decide +kernel
theorem dL_law_286 : decode cL_law 286 = .ok (.iadd, 1) := by decide +kernel
theorem dL_law_287 : decode cL_law 287 = .ok (.iaload, 1) := by decide +kernel
theorem dL_law_288 : decode cL_law 288 = .ok (.aload_n 0, 1) := by decide +kernel
theorem dL_law_289 : decode cL_law 289 = .ok (.iload_n 3, 1) := by decide +kernel
theorem dL_law_290 : decode cL_law 290 = .ok (.iconst 4, 1) := by decide +kernel
theorem dL_law_291 : decode cL_law 291 = .ok (.iadd, 1) := by decide +kernel
theorem dL_law_292 : decode cL_law 292 = .ok (.iaload, 1) := by decide +kernel
theorem dL_law_293 : decode cL_law 293 = .ok (.invokevirtual 38, 3) := by decide +kernel
theorem dL_law_296 : decode cL_law 296 = .ok (.if_icmp .eq 361, 3) := by decide +kernel
theorem dL_law_299 : decode cL_law 299 = .ok (.iconst 0, 1) := by decide +kernel
theorem dL_law_300 : decode cL_law 300 = .ok (.ireturn, 1) := by decide +kernel
theorem dL_law_301 : decode cL_law 301 = .ok (.aload_n 1, 1) := by decide +kernel
theorem dL_law_302 : decode cL_law 302 = .ok (.aload_n 0, 1) := by decide +kernel
theorem dL_law_303 : decode cL_law 303 = .ok (.iload_n 3, 1) := by decide +kernel
theorem dL_law_304 : decode cL_law 304 = .ok (.iconst 1, 1) := by decide +kernel
theorem dL_law_305 : decode cL_law 305 = .ok (.iadd, 1) := by decide +kernel
theorem dL_law_306 : decode cL_law 306 = .ok (.iaload, 1) := by decide +kernel
theorem dL_law_307 : decode cL_law 307 = .ok (.aload_n 0, 1) := by decide +kernel
theorem dL_law_308 : decode cL_law 308 = .ok (.iload_n 3, 1) := by decide +kernel
theorem dL_law_309 : decode cL_law 309 = .ok (.iconst 2, 1) := by decide +kernel
theorem dL_law_310 : decode cL_law 310 = .ok (.iadd, 1) := by decide +kernel
theorem dL_law_311 : decode cL_law 311 = .ok (.iaload, 1) := by decide +kernel
theorem dL_law_312 : decode cL_law 312 = .ok (.aload_n 0, 1) := by decide +kernel
theorem dL_law_313 : decode cL_law 313 = .ok (.iload_n 3, 1) := by decide +kernel
theorem dL_law_314 : decode cL_law 314 = .ok (.iconst 3, 1) := by decide +kernel
theorem dL_law_315 : decode cL_law 315 = .ok (.iadd, 1) := by decide +kernel
theorem dL_law_316 : decode cL_law 316 = .ok (.iaload, 1) := by decide +kernel
theorem dL_law_317 : decode cL_law 317 = .ok (.invokevirtual 39, 3) := by decide +kernel
theorem dL_law_320 : decode cL_law 320 = .ok (.aload_n 2, 1) := by decide +kernel
theorem dL_law_321 : decode cL_law 321 = .ok (.aload_n 0, 1) := by decide +kernel
theorem dL_law_322 : decode cL_law 322 = .ok (.iload_n 3, 1) := by decide +kernel
theorem dL_law_323 : decode cL_law 323 = .ok (.iconst 1, 1) := by decide +kernel
theorem dL_law_324 : decode cL_law 324 = .ok (.iadd, 1) := by decide +kernel
theorem dL_law_325 : decode cL_law 325 = .ok (.iaload, 1) := by decide +kernel
theorem dL_law_326 : decode cL_law 326 = .ok (.aload_n 0, 1) := by decide +kernel
theorem dL_law_327 : decode cL_law 327 = .ok (.iload_n 3, 1) := by decide +kernel
theorem dL_law_328 : decode cL_law 328 = .ok (.iconst 2, 1) := by decide +kernel
theorem dL_law_329 : decode cL_law 329 = .ok (.iadd, 1) := by decide +kernel
theorem dL_law_330 : decode cL_law 330 = .ok (.iaload, 1) := by decide +kernel
theorem dL_law_331 : decode cL_law 331 = .ok (.aload_n 0, 1) := by decide +kernel
theorem dL_law_332 : decode cL_law 332 = .ok (.iload_n 3, 1) := by decide +kernel
theorem dL_law_333 : decode cL_law 333 = .ok (.iconst 3, 1) := by decide +kernel
theorem dL_law_334 : decode cL_law 334 = .ok (.iadd, 1) := by decide +kernel
theorem dL_law_335 : decode cL_law 335 = .ok (.iaload, 1) := by decide +kernel
theorem dL_law_336 : decode cL_law 336 = .ok (.invokevirtual 43, 3) := by decide +kernel
theorem dL_law_339 : decode cL_law 339 = .ok (.if_icmp .eq 318, 3) := by decide +kernel
theorem dL_law_342 : decode cL_law 342 = .ok (.iconst 0, 1) := by decide +kernel
theorem dL_law_343 : decode cL_law 343 = .ok (.ireturn, 1) := by decide +kernel
theorem dL_law_344 : decode cL_law 344 = .ok (.aload_n 1, 1) := by decide +kernel
theorem dL_law_345 : decode cL_law 345 = .ok (.aload_n 0, 1) := by decide +kernel
theorem dL_law_346 : decode cL_law 346 = .ok (.iload_n 3, 1) := by decide +kernel
theorem dL_law_347 : decode cL_law 347 = .ok (.iconst 1, 1) := by decide +kernel
theorem dL_law_348 : decode cL_law 348 = .ok (.iadd, 1) := by decide +kernel
theorem dL_law_349 : decode cL_law 349 = .ok (.iaload, 1) := by decide +kernel
theorem dL_law_350 : decode cL_law 350 = .ok (.aload_n 0, 1) := by decide +kernel
theorem dL_law_351 : decode cL_law 351 = .ok (.iload_n 3, 1) := by decide +kernel
theorem dL_law_352 : decode cL_law 352 = .ok (.iconst 2, 1) := by decide +kernel
theorem dL_law_353 : decode cL_law 353 = .ok (.iadd, 1) := by decide +kernel
theorem dL_law_354 : decode cL_law 354 = .ok (.iaload, 1) := by decide +kernel
theorem dL_law_355 : decode cL_law 355 = .ok (.aload_n 0, 1) := by decide +kernel
theorem dL_law_356 : decode cL_law 356 = .ok (.iload_n 3, 1) := by decide +kernel
theorem dL_law_357 : decode cL_law 357 = .ok (.iconst 3, 1) := by decide +kernel
theorem dL_law_358 : decode cL_law 358 = .ok (.iadd, 1) := by decide +kernel
theorem dL_law_359 : decode cL_law 359 = .ok (.iaload, 1) := by decide +kernel
theorem dL_law_360 : decode cL_law 360 = .ok (.aload_n 0, 1) := by decide +kernel
theorem dL_law_361 : decode cL_law 361 = .ok (.iload_n 3, 1) := by decide +kernel
theorem dL_law_362 : decode cL_law 362 = .ok (.iconst 4, 1) := by decide +kernel
theorem dL_law_363 : decode cL_law 363 = .ok (.iadd, 1) := by decide +kernel
theorem dL_law_364 : decode cL_law 364 = .ok (.iaload, 1) := by decide +kernel
theorem dL_law_365 : decode cL_law 365 = .ok (.aload_n 0, 1) := by decide +kernel
theorem dL_law_366 : decode cL_law 366 = .ok (.iload_n 3, 1) := by decide +kernel
theorem dL_law_367 : decode cL_law 367 = .ok (.iconst 5, 1) := by decide +kernel
theorem dL_law_368 : decode cL_law 368 = .ok (.iadd, 1) := by decide +kernel
theorem dL_law_369 : decode cL_law 369 = .ok (.iaload, 1) := by decide +kernel
theorem dL_law_370 : decode cL_law 370 = .ok (.aload_n 0, 1) := by decide +kernel
theorem dL_law_371 : decode cL_law 371 = .ok (.iload_n 3, 1) := by decide +kernel
theorem dL_law_372 : decode cL_law 372 = .ok (.bipush 6, 2) := by decide +kernel
theorem dL_law_374 : decode cL_law 374 = .ok (.iadd, 1) := by decide +kernel
theorem dL_law_375 : decode cL_law 375 = .ok (.iaload, 1) := by decide +kernel
theorem dL_law_376 : decode cL_law 376 = .ok (.aload_n 0, 1) := by decide +kernel
theorem dL_law_377 : decode cL_law 377 = .ok (.iload_n 3, 1) := by decide +kernel
theorem dL_law_378 : decode cL_law 378 = .ok (.bipush 7, 2) := by decide +kernel
theorem dL_law_380 : decode cL_law 380 = .ok (.iadd, 1) := by decide +kernel
theorem dL_law_381 : decode cL_law 381 = .ok (.iaload, 1) := by decide +kernel
theorem dL_law_382 : decode cL_law 382 = .ok (.aload_n 0, 1) := by decide +kernel
theorem dL_law_383 : decode cL_law 383 = .ok (.iload_n 3, 1) := by decide +kernel
theorem dL_law_384 : decode cL_law 384 = .ok (.bipush 8, 2) := by decide +kernel
theorem dL_law_386 : decode cL_law 386 = .ok (.iadd, 1) := by decide +kernel
theorem dL_law_387 : decode cL_law 387 = .ok (.iaload, 1) := by decide +kernel
theorem dL_law_388 : decode cL_law 388 = .ok (.aload_n 0, 1) := by decide +kernel
theorem dL_law_389 : decode cL_law 389 = .ok (.iload_n 3, 1) := by decide +kernel
theorem dL_law_390 : decode cL_law 390 = .ok (.bipush 9, 2) := by decide +kernel
theorem dL_law_392 : decode cL_law 392 = .ok (.iadd, 1) := by decide +kernel
theorem dL_law_393 : decode cL_law 393 = .ok (.iaload, 1) := by decide +kernel
theorem dL_law_394 : decode cL_law 394 = .ok (.invokevirtual 44, 3) := by decide +kernel
theorem dL_law_397 : decode cL_law 397 = .ok (.aload_n 2, 1) := by decide +kernel
theorem dL_law_398 : decode cL_law 398 = .ok (.aload_n 0, 1) := by decide +kernel
theorem dL_law_399 : decode cL_law 399 = .ok (.iload_n 3, 1) := by decide +kernel
theorem dL_law_400 : decode cL_law 400 = .ok (.iconst 1, 1) := by decide +kernel
theorem dL_law_401 : decode cL_law 401 = .ok (.iadd, 1) := by decide +kernel
theorem dL_law_402 : decode cL_law 402 = .ok (.iaload, 1) := by decide +kernel
theorem dL_law_403 : decode cL_law 403 = .ok (.aload_n 0, 1) := by decide +kernel
theorem dL_law_404 : decode cL_law 404 = .ok (.iload_n 3, 1) := by decide +kernel
theorem dL_law_405 : decode cL_law 405 = .ok (.iconst 2, 1) := by decide +kernel
theorem dL_law_406 : decode cL_law 406 = .ok (.iadd, 1) := by decide +kernel
theorem dL_law_407 : decode cL_law 407 = .ok (.iaload, 1) := by decide +kernel
theorem dL_law_408 : decode cL_law 408 = .ok (.aload_n 0, 1) := by decide +kernel
theorem dL_law_409 : decode cL_law 409 = .ok (.iload_n 3, 1) := by decide +kernel
theorem dL_law_410 : decode cL_law 410 = .ok (.iconst 3, 1) := by decide +kernel
theorem dL_law_411 : decode cL_law 411 = .ok (.iadd, 1) := by decide +kernel
theorem dL_law_412 : decode cL_law 412 = .ok (.iaload, 1) := by decide +kernel
theorem dL_law_413 : decode cL_law 413 = .ok (.aload_n 0, 1) := by decide +kernel
theorem dL_law_414 : decode cL_law 414 = .ok (.iload_n 3, 1) := by decide +kernel
theorem dL_law_415 : decode cL_law 415 = .ok (.iconst 4, 1) := by decide +kernel
theorem dL_law_416 : decode cL_law 416 = .ok (.iadd, 1) := by decide +kernel
theorem dL_law_417 : decode cL_law 417 = .ok (.iaload, 1) := by decide +kernel
theorem dL_law_418 : decode cL_law 418 = .ok (.aload_n 0, 1) := by decide +kernel
theorem dL_law_419 : decode cL_law 419 = .ok (.iload_n 3, 1) := by decide +kernel
theorem dL_law_420 : decode cL_law 420 = .ok (.iconst 5, 1) := by decide +kernel
theorem dL_law_421 : decode cL_law 421 = .ok (.iadd, 1) := by decide +kernel
theorem dL_law_422 : decode cL_law 422 = .ok (.iaload, 1) := by decide +kernel
theorem dL_law_423 : decode cL_law 423 = .ok (.aload_n 0, 1) := by decide +kernel
theorem dL_law_424 : decode cL_law 424 = .ok (.iload_n 3, 1) := by decide +kernel
theorem dL_law_425 : decode cL_law 425 = .ok (.bipush 6, 2) := by decide +kernel
theorem dL_law_427 : decode cL_law 427 = .ok (.iadd, 1) := by decide +kernel
theorem dL_law_428 : decode cL_law 428 = .ok (.iaload, 1) := by decide +kernel
theorem dL_law_429 : decode cL_law 429 = .ok (.aload_n 0, 1) := by decide +kernel
theorem dL_law_430 : decode cL_law 430 = .ok (.iload_n 3, 1) := by decide +kernel
theorem dL_law_431 : decode cL_law 431 = .ok (.bipush 7, 2) := by decide +kernel
theorem dL_law_433 : decode cL_law 433 = .ok (.iadd, 1) := by decide +kernel
theorem dL_law_434 : decode cL_law 434 = .ok (.iaload, 1) := by decide +kernel
theorem dL_law_435 : decode cL_law 435 = .ok (.aload_n 0, 1) := by decide +kernel
theorem dL_law_436 : decode cL_law 436 = .ok (.iload_n 3, 1) := by decide +kernel
theorem dL_law_437 : decode cL_law 437 = .ok (.bipush 8, 2) := by decide +kernel
theorem dL_law_439 : decode cL_law 439 = .ok (.iadd, 1) := by decide +kernel
theorem dL_law_440 : decode cL_law 440 = .ok (.iaload, 1) := by decide +kernel
theorem dL_law_441 : decode cL_law 441 = .ok (.aload_n 0, 1) := by decide +kernel
theorem dL_law_442 : decode cL_law 442 = .ok (.iload_n 3, 1) := by decide +kernel
theorem dL_law_443 : decode cL_law 443 = .ok (.bipush 9, 2) := by decide +kernel
theorem dL_law_445 : decode cL_law 445 = .ok (.iadd, 1) := by decide +kernel
theorem dL_law_446 : decode cL_law 446 = .ok (.iaload, 1) := by decide +kernel
theorem dL_law_447 : decode cL_law 447 = .ok (.invokevirtual 48, 3) := by decide +kernel
theorem dL_law_450 : decode cL_law 450 = .ok (.if_icmp .eq 207, 3) := by decide +kernel
theorem dL_law_453 : decode cL_law 453 = .ok (.iconst 0, 1) := by decide +kernel
theorem dL_law_454 : decode cL_law 454 = .ok (.ireturn, 1) := by decide +kernel
theorem dL_law_455 : decode cL_law 455 = .ok (.aload_n 1, 1) := by decide +kernel
theorem dL_law_456 : decode cL_law 456 = .ok (.aload_n 0, 1) := by decide +kernel
theorem dL_law_457 : decode cL_law 457 = .ok (.iload_n 3, 1) := by decide +kernel
theorem dL_law_458 : decode cL_law 458 = .ok (.iconst 1, 1) := by decide +kernel
theorem dL_law_459 : decode cL_law 459 = .ok (.iadd, 1) := by decide +kernel
theorem dL_law_460 : decode cL_law 460 = .ok (.iaload, 1) := by decide +kernel
theorem dL_law_461 : decode cL_law 461 = .ok (.invokevirtual 49, 3) := by decide +kernel
theorem dL_law_464 : decode cL_law 464 = .ok (.aload_n 2, 1) := by decide +kernel
theorem dL_law_465 : decode cL_law 465 = .ok (.aload_n 0, 1) := by decide +kernel
theorem dL_law_466 : decode cL_law 466 = .ok (.iload_n 3, 1) := by decide +kernel
theorem dL_law_467 : decode cL_law 467 = .ok (.iconst 1, 1) := by decide +kernel
theorem dL_law_468 : decode cL_law 468 = .ok (.iadd, 1) := by decide +kernel
theorem dL_law_469 : decode cL_law 469 = .ok (.iaload, 1) := by decide +kernel
theorem dL_law_470 : decode cL_law 470 = .ok (.invokevirtual 52, 3) := by decide +kernel
theorem dL_law_473 : decode cL_law 473 = .ok (.if_icmp .eq 184, 3) := by decide +kernel
theorem dL_law_476 : decode cL_law 476 = .ok (.iconst 0, 1) := by decide +kernel
theorem dL_law_477 : decode cL_law 477 = .ok (.ireturn, 1) := by decide +kernel
theorem dL_law_478 : decode cL_law 478 = .ok (.aload_n 1, 1) := by decide +kernel
theorem dL_law_479 : decode cL_law 479 = .ok (.aload_n 0, 1) := by decide +kernel
theorem dL_law_480 : decode cL_law 480 = .ok (.iload_n 3, 1) := by decide +kernel
theorem dL_law_481 : decode cL_law 481 = .ok (.iconst 1, 1) := by decide +kernel
theorem dL_law_482 : decode cL_law 482 = .ok (.iadd, 1) := by decide +kernel
theorem dL_law_483 : decode cL_law 483 = .ok (.iaload, 1) := by decide +kernel
theorem dL_law_484 : decode cL_law 484 = .ok (.aload_n 0, 1) := by decide +kernel
theorem dL_law_485 : decode cL_law 485 = .ok (.iload_n 3, 1) := by decide +kernel
theorem dL_law_486 : decode cL_law 486 = .ok (.iconst 2, 1) := by decide +kernel
theorem dL_law_487 : decode cL_law 487 = .ok (.iadd, 1) := by decide +kernel
theorem dL_law_488 : decode cL_law 488 = .ok (.iaload, 1) := by decide +kernel
theorem dL_law_489 : decode cL_law 489 = .ok (.invokevirtual 53, 3) := by decide +kernel
theorem dL_law_492 : decode cL_law 492 = .ok (.aload_n 2, 1) := by decide +kernel
theorem dL_law_493 : decode cL_law 493 = .ok (.aload_n 0, 1) := by decide +kernel
theorem dL_law_494 : decode cL_law 494 = .ok (.iload_n 3, 1) := by decide +kernel
theorem dL_law_495 : decode cL_law 495 = .ok (.iconst 1, 1) := by decide +kernel
theorem dL_law_496 : decode cL_law 496 = .ok (.iadd, 1) := by decide +kernel
theorem dL_law_497 : decode cL_law 497 = .ok (.iaload, 1) := by decide +kernel
theorem dL_law_498 : decode cL_law 498 = .ok (.aload_n 0, 1) := by decide +kernel
theorem dL_law_499 : decode cL_law 499 = .ok (.iload_n 3, 1) := by decide +kernel
theorem dL_law_500 : decode cL_law 500 = .ok (.iconst 2, 1) := by decide +kernel
theorem dL_law_501 : decode cL_law 501 = .ok (.iadd, 1) := by decide +kernel
theorem dL_law_502 : decode cL_law 502 = .ok (.iaload, 1) := by decide +kernel
theorem dL_law_503 : decode cL_law 503 = .ok (.invokevirtual 57, 3) := by decide +kernel
theorem dL_law_506 : decode cL_law 506 = .ok (.lcmp, 1) := by decide +kernel
theorem dL_law_507 : decode cL_law 507 = .ok (.ifCond .eq 150, 3) := by decide +kernel
theorem dL_law_510 : decode cL_law 510 = .ok (.iconst 0, 1) := by decide +kernel
theorem dL_law_511 : decode cL_law 511 = .ok (.ireturn, 1) := by decide +kernel
theorem dL_law_512 : decode cL_law 512 = .ok (.aload_n 1, 1) := by decide +kernel
theorem dL_law_513 : decode cL_law 513 = .ok (.aload_n 0, 1) := by decide +kernel
theorem dL_law_514 : decode cL_law 514 = .ok (.iload_n 3, 1) := by decide +kernel
theorem dL_law_515 : decode cL_law 515 = .ok (.iconst 1, 1) := by decide +kernel
theorem dL_law_516 : decode cL_law 516 = .ok (.iadd, 1) := by decide +kernel
theorem dL_law_517 : decode cL_law 517 = .ok (.iaload, 1) := by decide +kernel
theorem dL_law_518 : decode cL_law 518 = .ok (.invokevirtual 58, 3) := by decide +kernel
theorem dL_law_521 : decode cL_law 521 = .ok (.aload_n 2, 1) := by decide +kernel
theorem dL_law_522 : decode cL_law 522 = .ok (.aload_n 0, 1) := by decide +kernel
theorem dL_law_523 : decode cL_law 523 = .ok (.iload_n 3, 1) := by decide +kernel
theorem dL_law_524 : decode cL_law 524 = .ok (.iconst 1, 1) := by decide +kernel
theorem dL_law_525 : decode cL_law 525 = .ok (.iadd, 1) := by decide +kernel
theorem dL_law_526 : decode cL_law 526 = .ok (.iaload, 1) := by decide +kernel
theorem dL_law_527 : decode cL_law 527 = .ok (.invokevirtual 61, 3) := by decide +kernel
theorem dL_law_530 : decode cL_law 530 = .ok (.if_icmp .eq 127, 3) := by decide +kernel
theorem dL_law_533 : decode cL_law 533 = .ok (.iconst 0, 1) := by decide +kernel
theorem dL_law_534 : decode cL_law 534 = .ok (.ireturn, 1) := by decide +kernel
theorem dL_law_535 : decode cL_law 535 = .ok (.aload_n 1, 1) := by decide +kernel
theorem dL_law_536 : decode cL_law 536 = .ok (.aload_n 0, 1) := by decide +kernel
theorem dL_law_537 : decode cL_law 537 = .ok (.iload_n 3, 1) := by decide +kernel
theorem dL_law_538 : decode cL_law 538 = .ok (.iconst 1, 1) := by decide +kernel
theorem dL_law_539 : decode cL_law 539 = .ok (.iadd, 1) := by decide +kernel
theorem dL_law_540 : decode cL_law 540 = .ok (.iaload, 1) := by decide +kernel
theorem dL_law_541 : decode cL_law 541 = .ok (.invokevirtual 62, 3) := by decide +kernel
theorem dL_law_544 : decode cL_law 544 = .ok (.aload_n 2, 1) := by decide +kernel
theorem dL_law_545 : decode cL_law 545 = .ok (.aload_n 0, 1) := by decide +kernel
theorem dL_law_546 : decode cL_law 546 = .ok (.iload_n 3, 1) := by decide +kernel
theorem dL_law_547 : decode cL_law 547 = .ok (.iconst 1, 1) := by decide +kernel
theorem dL_law_548 : decode cL_law 548 = .ok (.iadd, 1) := by decide +kernel
theorem dL_law_549 : decode cL_law 549 = .ok (.iaload, 1) := by decide +kernel
theorem dL_law_550 : decode cL_law 550 = .ok (.invokevirtual 65, 3) := by decide +kernel
theorem dL_law_553 : decode cL_law 553 = .ok (.if_icmp .eq 104, 3) := by decide +kernel
theorem dL_law_556 : decode cL_law 556 = .ok (.iconst 0, 1) := by decide +kernel
theorem dL_law_557 : decode cL_law 557 = .ok (.ireturn, 1) := by decide +kernel
theorem dL_law_558 : decode cL_law 558 = .ok (.aload_n 1, 1) := by decide +kernel
theorem dL_law_559 : decode cL_law 559 = .ok (.aload_n 0, 1) := by decide +kernel
theorem dL_law_560 : decode cL_law 560 = .ok (.iload_n 3, 1) := by decide +kernel
theorem dL_law_561 : decode cL_law 561 = .ok (.iconst 1, 1) := by decide +kernel
theorem dL_law_562 : decode cL_law 562 = .ok (.iadd, 1) := by decide +kernel
theorem dL_law_563 : decode cL_law 563 = .ok (.iaload, 1) := by decide +kernel
theorem dL_law_564 : decode cL_law 564 = .ok (.aload_n 0, 1) := by decide +kernel
theorem dL_law_565 : decode cL_law 565 = .ok (.iload_n 3, 1) := by decide +kernel
theorem dL_law_566 : decode cL_law 566 = .ok (.iconst 2, 1) := by decide +kernel
theorem dL_law_567 : decode cL_law 567 = .ok (.iadd, 1) := by decide +kernel
theorem dL_law_568 : decode cL_law 568 = .ok (.iaload, 1) := by decide +kernel
theorem dL_law_569 : decode cL_law 569 = .ok (.aload_n 0, 1) := by decide +kernel
theorem dL_law_570 : decode cL_law 570 = .ok (.iload_n 3, 1) := by decide +kernel
theorem dL_law_571 : decode cL_law 571 = .ok (.iconst 3, 1) := by decide +kernel
theorem dL_law_572 : decode cL_law 572 = .ok (.iadd, 1) := by decide +kernel
theorem dL_law_573 : decode cL_law 573 = .ok (.iaload, 1) := by decide +kernel
theorem dL_law_574 : decode cL_law 574 = .ok (.aload_n 0, 1) := by decide +kernel
theorem dL_law_575 : decode cL_law 575 = .ok (.iload_n 3, 1) := by decide +kernel
theorem dL_law_576 : decode cL_law 576 = .ok (.iconst 4, 1) := by decide +kernel
theorem dL_law_577 : decode cL_law 577 = .ok (.iadd, 1) := by decide +kernel
theorem dL_law_578 : decode cL_law 578 = .ok (.iaload, 1) := by decide +kernel
theorem dL_law_579 : decode cL_law 579 = .ok (.aload_n 0, 1) := by decide +kernel
theorem dL_law_580 : decode cL_law 580 = .ok (.iload_n 3, 1) := by decide +kernel
theorem dL_law_581 : decode cL_law 581 = .ok (.iconst 5, 1) := by decide +kernel
theorem dL_law_582 : decode cL_law 582 = .ok (.iadd, 1) := by decide +kernel
theorem dL_law_583 : decode cL_law 583 = .ok (.iaload, 1) := by decide +kernel
theorem dL_law_584 : decode cL_law 584 = .ok (.aload_n 0, 1) := by decide +kernel
theorem dL_law_585 : decode cL_law 585 = .ok (.iload_n 3, 1) := by decide +kernel
theorem dL_law_586 : decode cL_law 586 = .ok (.bipush 6, 2) := by decide +kernel
theorem dL_law_588 : decode cL_law 588 = .ok (.iadd, 1) := by decide +kernel
theorem dL_law_589 : decode cL_law 589 = .ok (.iaload, 1) := by decide +kernel
theorem dL_law_590 : decode cL_law 590 = .ok (.aload_n 0, 1) := by decide +kernel
theorem dL_law_591 : decode cL_law 591 = .ok (.iload_n 3, 1) := by decide +kernel
theorem dL_law_592 : decode cL_law 592 = .ok (.bipush 7, 2) := by decide +kernel
theorem dL_law_594 : decode cL_law 594 = .ok (.iadd, 1) := by decide +kernel
theorem dL_law_595 : decode cL_law 595 = .ok (.iaload, 1) := by decide +kernel
theorem dL_law_596 : decode cL_law 596 = .ok (.aload_n 0, 1) := by decide +kernel
theorem dL_law_597 : decode cL_law 597 = .ok (.iload_n 3, 1) := by decide +kernel
theorem dL_law_598 : decode cL_law 598 = .ok (.bipush 8, 2) := by decide +kernel
theorem dL_law_600 : decode cL_law 600 = .ok (.iadd, 1) := by decide +kernel
theorem dL_law_601 : decode cL_law 601 = .ok (.iaload, 1) := by decide +kernel
theorem dL_law_602 : decode cL_law 602 = .ok (.invokevirtual 66, 3) := by decide +kernel
theorem dL_law_605 : decode cL_law 605 = .ok (.aload_n 2, 1) := by decide +kernel
theorem dL_law_606 : decode cL_law 606 = .ok (.aload_n 0, 1) := by decide +kernel
theorem dL_law_607 : decode cL_law 607 = .ok (.iload_n 3, 1) := by decide +kernel
theorem dL_law_608 : decode cL_law 608 = .ok (.iconst 1, 1) := by decide +kernel
theorem dL_law_609 : decode cL_law 609 = .ok (.iadd, 1) := by decide +kernel
theorem dL_law_610 : decode cL_law 610 = .ok (.iaload, 1) := by decide +kernel
theorem dL_law_611 : decode cL_law 611 = .ok (.aload_n 0, 1) := by decide +kernel
theorem dL_law_612 : decode cL_law 612 = .ok (.iload_n 3, 1) := by decide +kernel
theorem dL_law_613 : decode cL_law 613 = .ok (.iconst 2, 1) := by decide +kernel
theorem dL_law_614 : decode cL_law 614 = .ok (.iadd, 1) := by decide +kernel
theorem dL_law_615 : decode cL_law 615 = .ok (.iaload, 1) := by decide +kernel
theorem dL_law_616 : decode cL_law 616 = .ok (.aload_n 0, 1) := by decide +kernel
theorem dL_law_617 : decode cL_law 617 = .ok (.iload_n 3, 1) := by decide +kernel
theorem dL_law_618 : decode cL_law 618 = .ok (.iconst 3, 1) := by decide +kernel
theorem dL_law_619 : decode cL_law 619 = .ok (.iadd, 1) := by decide +kernel
theorem dL_law_620 : decode cL_law 620 = .ok (.iaload, 1) := by decide +kernel
theorem dL_law_621 : decode cL_law 621 = .ok (.aload_n 0, 1) := by decide +kernel
theorem dL_law_622 : decode cL_law 622 = .ok (.iload_n 3, 1) := by decide +kernel
theorem dL_law_623 : decode cL_law 623 = .ok (.iconst 4, 1) := by decide +kernel
theorem dL_law_624 : decode cL_law 624 = .ok (.iadd, 1) := by decide +kernel
theorem dL_law_625 : decode cL_law 625 = .ok (.iaload, 1) := by decide +kernel
theorem dL_law_626 : decode cL_law 626 = .ok (.aload_n 0, 1) := by decide +kernel
theorem dL_law_627 : decode cL_law 627 = .ok (.iload_n 3, 1) := by decide +kernel
theorem dL_law_628 : decode cL_law 628 = .ok (.iconst 5, 1) := by decide +kernel
theorem dL_law_629 : decode cL_law 629 = .ok (.iadd, 1) := by decide +kernel
theorem dL_law_630 : decode cL_law 630 = .ok (.iaload, 1) := by decide +kernel
theorem dL_law_631 : decode cL_law 631 = .ok (.aload_n 0, 1) := by decide +kernel
theorem dL_law_632 : decode cL_law 632 = .ok (.iload_n 3, 1) := by decide +kernel
theorem dL_law_633 : decode cL_law 633 = .ok (.bipush 6, 2) := by decide +kernel
theorem dL_law_635 : decode cL_law 635 = .ok (.iadd, 1) := by decide +kernel
theorem dL_law_636 : decode cL_law 636 = .ok (.iaload, 1) := by decide +kernel
theorem dL_law_637 : decode cL_law 637 = .ok (.aload_n 0, 1) := by decide +kernel
theorem dL_law_638 : decode cL_law 638 = .ok (.iload_n 3, 1) := by decide +kernel
theorem dL_law_639 : decode cL_law 639 = .ok (.bipush 7, 2) := by decide +kernel
theorem dL_law_641 : decode cL_law 641 = .ok (.iadd, 1) := by decide +kernel
theorem dL_law_642 : decode cL_law 642 = .ok (.iaload, 1) := by decide +kernel
theorem dL_law_643 : decode cL_law 643 = .ok (.aload_n 0, 1) := by decide +kernel
theorem dL_law_644 : decode cL_law 644 = .ok (.iload_n 3, 1) := by decide +kernel
theorem dL_law_645 : decode cL_law 645 = .ok (.bipush 8, 2) := by decide +kernel
theorem dL_law_647 : decode cL_law 647 = .ok (.iadd, 1) := by decide +kernel
theorem dL_law_648 : decode cL_law 648 = .ok (.iaload, 1) := by decide +kernel
theorem dL_law_649 : decode cL_law 649 = .ok (.invokevirtual 70, 3) := by decide +kernel
theorem dL_law_652 : decode cL_law 652 = .ok (.if_icmp .eq 5, 3) := by decide +kernel
theorem dL_law_655 : decode cL_law 655 = .ok (.iconst 0, 1) := by decide +kernel
theorem dL_law_656 : decode cL_law 656 = .ok (.ireturn, 1) := by decide +kernel
theorem dL_law_657 : decode cL_law 657 = .ok (.iinc 3 10, 3) := by decide +kernel
theorem dL_law_660 : decode cL_law 660 = .ok (.goto (-642), 3) := by decide +kernel
theorem dL_law_663 : decode cL_law 663 = .ok (.iconst 1, 1) := by decide +kernel
theorem dL_law_664 : decode cL_law 664 = .ok (.ireturn, 1) := by decide +kernel
end
section
/-! THE SHAPES: kind 0 the class's cells, kind 1 the reference's, kind 2 both (the reference's from 166 on) -/
abbrev zk_cl : List vw_C := [(RX0, TX0, 2), (RX1, TX1, 14), (RX2, TX2, 5), (RX3, TX3, 3), (RX4, TX4, 5), (RX5, TX5, 23)]
abbrev zk_ty3 : FieldType := .object "SlowSeal$Bytes"
abbrev zk_ty4 : FieldType := .array .long
def zk_host : String := "SlowSeal"
def zk_N (v : Nat) : Nat := match v with
  | 0 => 166
  | 1 => 14
  | _ => 180
def zk_sh0 (k : Nat) : (Nat × Nat) ⊕ ((Nat × List (Option Nat)) ⊕ (Nat × Nat × Nat)) := if 38 ≤ k then .inl (2, 128) else match k with
  | 0 => .inr (.inl (4, [some 1, some 18, some 20, some 22, some 30]))
  | 1 => .inr (.inr (3, 8, 2))
  | 2 => .inr (.inl (0, [some 10, none]))
  | 3 => .inr (.inl (0, [some 11, none]))
  | 4 => .inr (.inl (0, [some 12, none]))
  | 5 => .inr (.inl (0, [some 13, none]))
  | 6 => .inr (.inl (0, [some 14, none]))
  | 7 => .inr (.inl (0, [some 15, none]))
  | 8 => .inr (.inl (0, [some 16, none]))
  | 9 => .inr (.inl (0, [some 17, none]))
  | 10 => .inl (1, 200)
  | 11 => .inl (1, 200)
  | 12 => .inl (1, 200)
  | 13 => .inl (1, 200)
  | 14 => .inl (1, 200)
  | 15 => .inl (1, 200)
  | 16 => .inl (1, 200)
  | 17 => .inl (1, 200)
  | 18 => .inr (.inl (0, [some 19, none]))
  | 19 => .inl (1, 0)
  | 20 => .inr (.inl (0, [some 21, none]))
  | 21 => .inl (1, 64)
  | 22 => .inr (.inl (2, [some 23, some 25, some 27, some 28, some 29]))
  | 23 => .inr (.inl (0, [some 24, none]))
  | 24 => .inl (1, 1028)
  | 25 => .inr (.inl (0, [some 26, none]))
  | 26 => .inl (1, 1024)
  | 27 => .inl (2, 8)
  | 28 => .inl (2, 16)
  | 29 => .inl (2, 16)
  | 30 => .inr (.inl (1, [some 31, some 32, some 33, some 34, none, none, none, none, none, none, none, none, none, none]))
  | 31 => .inr (.inr (4, 128, 38))
  | 32 => .inl (2, 128)
  | 33 => .inl (2, 128)
  | 34 => .inr (.inl (3, [some 35, some 36, some 37]))
  | 35 => .inl (2, 128)
  | 36 => .inl (2, 128)
  | _ => .inl (2, 16)
def zk_sh1 (k : Nat) : (Nat × Nat) ⊕ ((Nat × List (Option Nat)) ⊕ (Nat × Nat × Nat)) := match k with
  | 0 => .inr (.inl (5, [none, some 1, some 2, none, some 3, none, some 4, some 5, some 6, some 7, some 8, none, none, none, none, none, none, none, some 9, some 10, some 11, some 12, some 13]))
  | 1 => .inl (0, 8)
  | 2 => .inl (0, 1600)
  | 3 => .inl (0, 64)
  | 4 => .inl (0, 1400)
  | 5 => .inl (2, 8)
  | 6 => .inl (2, 16)
  | 7 => .inl (2, 16)
  | 8 => .inl (0, 1024)
  | 9 => .inl (2, 16384)
  | 10 => .inl (2, 128)
  | 11 => .inl (2, 128)
  | 12 => .inl (2, 128)
  | _ => .inl (2, 128)
def zk_sh1b (k : Nat) : (Nat × Nat) ⊕ ((Nat × List (Option Nat)) ⊕ (Nat × Nat × Nat)) := match k with
  | 0 => .inr (.inl (5, [none, some 167, some 168, none, some 169, none, some 170, some 171, some 172, some 173, some 174, none, none, none, none, none, none, none, some 175, some 176, some 177, some 178, some 179]))
  | 1 => .inl (0, 8)
  | 2 => .inl (0, 1600)
  | 3 => .inl (0, 64)
  | 4 => .inl (0, 1400)
  | 5 => .inl (2, 8)
  | 6 => .inl (2, 16)
  | 7 => .inl (2, 16)
  | 8 => .inl (0, 1024)
  | 9 => .inl (2, 16384)
  | 10 => .inl (2, 128)
  | 11 => .inl (2, 128)
  | 12 => .inl (2, 128)
  | _ => .inl (2, 128)
def zk_sh (v k : Nat) : (Nat × Nat) ⊕ ((Nat × List (Option Nat)) ⊕ (Nat × Nat × Nat)) := match v with
  | 0 => zk_sh0 k
  | 1 => zk_sh1 k
  | _ => if k < 166 then zk_sh0 k else zk_sh1b (k - 166)
def zk_four : List Nat := [0, 4, 8, 12, 1, 5, 9, 13, 2, 6, 10, 14, 3, 7, 11, 15, 0, 5, 10, 15, 1, 6, 11, 12, 2, 7, 8, 13, 3, 4, 9, 14]
def zk_ord : List Nat := [0, 1, 2, 3, 4, 5, 6, 7, 8, 9, 10, 11, 12, 13, 14, 15, 14, 10, 4, 8, 9, 15, 13, 6, 1, 12, 0, 2, 11, 7, 5, 3, 11, 8, 12, 0, 5, 2, 15, 13, 10, 14, 3, 6, 7, 1, 9, 4, 7, 9, 3, 1, 13, 12, 11, 14, 2, 6, 5, 10, 4, 0, 15, 8, 9, 0, 5, 7, 2, 4, 10, 15, 14, 1, 11, 12, 6, 8, 3, 13, 2, 12, 6, 10, 0, 11, 8, 3, 4, 13, 7, 5, 15, 14, 1, 9, 12, 5, 1, 15, 14, 13, 4, 10, 0, 7, 6, 3, 9, 2, 8, 11, 13, 11, 7, 14, 12, 1, 3, 9, 5, 0, 15, 4, 8, 6, 2, 10, 6, 15, 14, 9, 11, 3, 0, 8, 12, 2, 13, 7, 1, 4, 10, 5, 10, 2, 8, 4, 7, 6, 1, 5, 15, 11, 9, 14, 3, 12, 13, 0]
def zk_start : List Int64 := [7640891576956012808, -4942790177534073029, 4354685564936845355, -6534734903238641935, 5840696475078001361, -7276294671716946913, 2270897969802886507, 6620516959819538809]
def zk_stats : List (String × String × String × FieldType × Nat × (Nat → Value)) := [("SlowSeal", "FOURS", "[I", .int, 32, fun j => .int (nI (zk_four.getD j 0))), ("SlowSeal$Hasher", "START", "[J", .long, 8, fun j => .long (zk_start.getD j 0)), ("SlowSeal$Hasher", "ORDERS", "[I", .int, 160, fun j => .int (nI (zk_ord.getD j 0)))]
end
section
/-! THE LAYER: a world of fixed shape. Its ints and its longs are two functions I, J of place and slot; its references never change. -/
abbrev zk_I : Type := Nat → Nat → Int32
abbrev zk_J : Type := Nat → Nat → Int64
/-- a cell's shape: an array of ints (0), bytes (1), longs (2) of a length; an object of a class with its fields (a place, or an int); an array of references to places in a row -/
abbrev zk_S : Type := (Nat × Nat) ⊕ ((Nat × List (Option Nat)) ⊕ (Nat × Nat × Nat))
/-- launch, lowest address of ours, the classes' numbers, the array classes, addresses of the places, addresses of the static arrays, other cells -/
abbrev zk_X : Type := Launch × Nat × va_G × (Nat → ClassId) × (Nat → Nat) × (Nat → Nat) × va_W
def zk_ad (X : zk_X) : Nat → Nat := X.2.2.2.2.1
def zk_sa (X : zk_X) : Nat → Nat := X.2.2.2.2.2.1
abbrev zk_tys (X : zk_X) : List (ClassId × FieldType) := [(X.2.2.2.1 0, .int), (X.2.2.2.1 1, .byte), (X.2.2.2.1 2, .long), (X.2.2.2.1 3, zk_ty3), (X.2.2.2.1 4, zk_ty4)]
def zk_fv (X : zk_X) (I : zk_I) (k : Nat) : Nat → List (Option Nat) → List Value
  | _, [] => []
  | j, some p :: r => .ref (zk_ad X p) :: zk_fv X I k (j + 1) r
  | j, none :: r => .int (I k j) :: zk_fv X I k (j + 1) r
def zk_e (X : zk_X) (I : zk_I) (J : zk_J) (k : Nat) (x : zk_S) : va_E := match x with
  | .inl (0, n) => .inl (X.2.2.2.1 0, n, .inl (I k))
  | .inl (1, n) => .inl (X.2.2.2.1 1, n, .inl (I k))
  | .inl (_ + 2, n) => .inl (X.2.2.2.1 2, n, .inr (.inl (J k)))
  | .inr (.inl (ci, fs)) => .inr (ci, zk_fv X I k 0 fs)
  | .inr (.inr (t, n, p0)) => .inl (X.2.2.2.1 t, n, .inr (.inr (.inr (.inr fun i => some (zk_ad X (p0 + i))))))
def zk_w (v : Nat) (X : zk_X) (I : zk_I) (J : zk_J) : va_W := (List.range (zk_N v)).map (fun k => (zk_ad X k, zk_e X I J k (zk_sh v k))) ++ X.2.2.2.2.2.2
theorem zk_w_get {v : Nat} {X : zk_X} {I : zk_I} {J : zk_J} {k : Nat} (hk : k < zk_N v) : (zk_w v X I J)[k]? = some (zk_ad X k, zk_e X I J k (zk_sh v k)) := by
  unfold zk_w
  rw [List.getElem?_append_left (by simpa using hk)]
  simp [hk]
/-- a row of I, of J is another one -/
def zk_u {α : Type} (I : Nat → Nat → α) (k : Nat) (g : Nat → α) : Nat → Nat → α := fun a => if a = k then g else I a
theorem zk_u_s {α : Type} {I : Nat → Nat → α} {k : Nat} {g : Nat → α} : zk_u I k g k = g := if_pos rfl
theorem zk_u_n {α : Type} {I : Nat → Nat → α} {k a : Nat} {g : Nat → α} (h : a ≠ k) : zk_u I k g a = I a := if_neg h
theorem zk_fv_ext {X : zk_X} {I I' : zk_I} {k : Nat} (h : I' k = I k) : ∀ (fs : List (Option Nat)) (j : Nat), zk_fv X I' k j fs = zk_fv X I k j fs
  | [], _ => rfl
  | some p :: r, j => by rw [zk_fv, zk_fv, zk_fv_ext h r]
  | none :: r, j => by rw [zk_fv, zk_fv, zk_fv_ext h r, h]
theorem zk_e_ext {X : zk_X} {I I' : zk_I} {J J' : zk_J} {k : Nat} (h : I' k = I k) (h2 : J' k = J k) (x : zk_S) : zk_e X I' J' k x = zk_e X I J k x := by
  rcases x with ⟨t, n⟩ | ⟨ci, fs⟩ | ⟨t, n, p0⟩
  · match t with
    | 0 => simp only [zk_e, h]
    | 1 => simp only [zk_e, h]
    | t + 2 => simp only [zk_e, h2]
  · simp only [zk_e, zk_fv_ext h]
  · rfl
theorem zk_w_set {v : Nat} {X : zk_X} {I I' : zk_I} {J J' : zk_J} {k : Nat} (hk : k < zk_N v) (h : ∀ a, a ≠ k → I' a = I a) (h2 : ∀ a, a ≠ k → J' a = J a) {x : zk_S} (hx : zk_sh v k = x) : (zk_w v X I J).set k (zk_ad X k, zk_e X I' J' k x) = zk_w v X I' J' := by
  subst hx
  unfold zk_w
  rw [List.set_append_left _ _ (by simpa using hk)]
  congr 1
  apply List.ext_getElem?
  intro i
  by_cases hi : i = k
  · subst hi
    simp [hk]
  · rw [List.getElem?_set_ne (Ne.symm hi)]
    by_cases hl : i < zk_N v
    · simp [hl, zk_e_ext (h i hi) (h2 i hi)]
    · simp [hl]
theorem zk_fv_len {X : zk_X} {I : zk_I} {k : Nat} : ∀ (fs : List (Option Nat)) (i : Nat), (zk_fv X I k i fs).length = fs.length
  | [], _ => rfl
  | some _ :: r, i => by rw [zk_fv, List.length_cons, List.length_cons, zk_fv_len r]
  | none :: r, i => by rw [zk_fv, List.length_cons, List.length_cons, zk_fv_len r]
theorem zk_fv_i {X : zk_X} {I : zk_I} {k : Nat} : ∀ (fs : List (Option Nat)) (i j : Nat), fs[j]? = some none → (zk_fv X I k i fs)[j]? = some (.int (I k (i + j)))
  | [], _, _, h => by simp at h
  | some p :: r, i, 0, h => by simp at h
  | none :: r, i, 0, h => rfl
  | some p :: r, i, j + 1, h => by rw [zk_fv, List.getElem?_cons_succ, zk_fv_i r (i + 1) j (by simpa using h), show i + 1 + j = i + (j + 1) by omega]
  | none :: r, i, j + 1, h => by rw [zk_fv, List.getElem?_cons_succ, zk_fv_i r (i + 1) j (by simpa using h), show i + 1 + j = i + (j + 1) by omega]
theorem zk_fv_r {X : zk_X} {I : zk_I} {k p : Nat} : ∀ (fs : List (Option Nat)) (i j : Nat), fs[j]? = some (some p) → (zk_fv X I k i fs)[j]? = some (.ref (zk_ad X p))
  | [], _, _, h => by simp at h
  | some q :: r, i, 0, h => by simp at h; subst h; rfl
  | none :: r, i, 0, h => by simp at h
  | some q :: r, i, j + 1, h => by rw [zk_fv, List.getElem?_cons_succ, zk_fv_r r (i + 1) j (by simpa using h)]
  | none :: r, i, j + 1, h => by rw [zk_fv, List.getElem?_cons_succ, zk_fv_r r (i + 1) j (by simpa using h)]
theorem zk_fv_far {X : zk_X} {I : zk_I} {k : Nat} {a : Nat} {x : Int32} : ∀ (fs : List (Option Nat)) (i : Nat), a < i → zk_fv X (zk_u I k (upd (I k) a x)) k i fs = zk_fv X I k i fs
  | [], _, _ => rfl
  | some q :: r, i, h => by rw [zk_fv, zk_fv, zk_fv_far r (i + 1) (by omega)]
  | none :: r, i, h => by rw [zk_fv, zk_fv, zk_fv_far r (i + 1) (by omega), zk_u_s, pk_un (by omega)]
theorem zk_fv_set {X : zk_X} {I : zk_I} {k : Nat} {x : Int32} : ∀ (fs : List (Option Nat)) (i j : Nat), fs[j]? = some none → (zk_fv X I k i fs).set j (.int x) = zk_fv X (zk_u I k (upd (I k) (i + j) x)) k i fs
  | [], _, _, h => by simp at h
  | some q :: r, i, 0, h => by simp at h
  | none :: r, i, 0, h => by rw [zk_fv, zk_fv, List.set_cons_zero, zk_u_s, show upd (I k) (i + 0) x i = x from pk_us (k := i), zk_fv_far r (i + 1) (by omega)]
  | some q :: r, i, j + 1, h => by rw [zk_fv, zk_fv, List.set_cons_succ, zk_fv_set r (i + 1) j (by simpa using h), show i + 1 + j = i + (j + 1) by omega]
  | none :: r, i, j + 1, h => by rw [zk_fv, zk_fv, List.set_cons_succ, zk_fv_set r (i + 1) j (by simpa using h), show i + 1 + j = i + (j + 1) by omega, zk_u_s, pk_un (by omega)]
/-- locals by their places -/
def zk_lv : Nat → List (Option Value) → List (Nat × Value)
  | _, [] => []
  | i, none :: r => zk_lv (i + 1) r
  | i, some x :: r => (i, x) :: zk_lv (i + 1) r
theorem zk_lv_of : ∀ (l : List (Option Value)) (i : Nat) (q : Nat × Value), q ∈ zk_lv i l → ∃ j, q.1 = i + j ∧ l[j]? = some (some q.2)
  | [], _, _, h => by simp [zk_lv] at h
  | none :: r, i, q, h => by
    obtain ⟨j, h1, h2⟩ := zk_lv_of r (i + 1) q h
    exact ⟨j + 1, by omega, by simpa using h2⟩
  | some x :: r, i, q, h => by
    rcases List.mem_cons.mp h with rfl | h
    · exact ⟨0, rfl, rfl⟩
    · obtain ⟨j, h1, h2⟩ := zk_lv_of r (i + 1) q h
      exact ⟨j + 1, by omega, by simpa using h2⟩
theorem zk_lv_in : ∀ (l : List (Option Value)) (i j : Nat) (x : Value), l[j]? = some (some x) → (i + j, x) ∈ zk_lv i l
  | [], _, _, _, h => by simp at h
  | none :: r, i, 0, x, h => by simp at h
  | some y :: r, i, 0, x, h => by simp at h; subst h; simp [zk_lv]
  | none :: r, i, j + 1, x, h => by
    have := zk_lv_in r (i + 1) j x (by simpa using h)
    rw [show i + 1 + j = i + (j + 1) by omega] at this
    exact this
  | some y :: r, i, j + 1, x, h => by
    have := zk_lv_in r (i + 1) j x (by simpa using h)
    rw [show i + 1 + j = i + (j + 1) by omega] at this
    exact List.mem_cons_of_mem _ this
theorem zk_lv_at {ls : Array Slot} {n : Nat} {lv : List (Option Value)} (h : lv_has ls n (zk_lv 0 lv)) {j : Nat} {x : Value} (hj : lv[j]? = some (some x)) : ls[j]? = some (.val x) := by
  have := h.2.2 (0 + j, x) (zk_lv_in lv 0 j x hj)
  rwa [Nat.zero_add] at this
/-- no long stands there -/
def zk_n2 (o : Option (Option Value)) : Bool := match o with
  | some (some x) => x.category != 2
  | _ => true
theorem zk_lv_st1 {ls' : Array Slot} {n k : Nat} {x : Value} {lv : List (Option Value)} (hk : k < lv.length) (hp : k = 0 ∨ zk_n2 lv[k - 1]? = true)
    (h : lv_has ls' n ((k, x) :: (zk_lv 0 lv).filter (fun q => !(q.1 == k) && !(q.1 + 1 == k && q.2.category == 2)))) : lv_has ls' n (zk_lv 0 (lv.set k (some x))) := by
  refine ⟨h.1, h.2.1, fun q hq => h.2.2 q ?_⟩
  obtain ⟨j, h1, h2⟩ := zk_lv_of _ _ _ hq
  rw [Nat.zero_add] at h1
  by_cases hj : j = k
  · subst hj
    rw [List.getElem?_set_self hk] at h2
    simp at h2
    rw [show q = (j, x) by rw [h2, ← h1]]
    exact List.mem_cons_self
  · rw [List.getElem?_set_ne (Ne.symm hj)] at h2
    refine List.mem_cons_of_mem _ (List.mem_filter.mpr ⟨?_, ?_⟩)
    · have := zk_lv_in lv 0 j q.2 h2
      rw [Nat.zero_add, ← h1] at this
      exact this
    · have hj' : ¬ q.1 = k := by omega
      simp only [Bool.and_eq_true, Bool.not_eq_true', beq_eq_false_iff_ne, ne_eq, Bool.and_eq_false_iff]
      refine ⟨hj', ?_⟩
      by_cases hq1 : q.1 + 1 = k
      · right
        rcases hp with hp | hp
        · omega
        · rw [show k - 1 = j by omega, h2] at hp
          simpa [zk_n2] using hp
      · left; exact hq1
theorem zk_lv_st2 {ls' : Array Slot} {n k : Nat} {x : Value} {lv : List (Option Value)} (hk : k + 1 < lv.length) (hp : k = 0 ∨ zk_n2 lv[k - 1]? = true)
    (h : lv_has ls' n ((k, x) :: (zk_lv 0 lv).filter (fun q => !(q.1 == k) && (!(q.1 == k + 1) && !(q.1 + 1 == k && q.2.category == 2))))) : lv_has ls' n (zk_lv 0 ((lv.set k (some x)).set (k + 1) none)) := by
  refine ⟨h.1, h.2.1, fun q hq => h.2.2 q ?_⟩
  obtain ⟨j, h1, h2⟩ := zk_lv_of _ _ _ hq
  rw [Nat.zero_add] at h1
  by_cases hj1 : j = k + 1
  · subst hj1
    rw [List.getElem?_set_self (by simpa using hk)] at h2
    simp at h2
  rw [List.getElem?_set_ne (Ne.symm hj1)] at h2
  by_cases hj : j = k
  · subst hj
    rw [List.getElem?_set_self (by omega)] at h2
    simp at h2
    rw [show q = (j, x) by rw [h2, ← h1]]
    exact List.mem_cons_self
  · rw [List.getElem?_set_ne (Ne.symm hj)] at h2
    refine List.mem_cons_of_mem _ (List.mem_filter.mpr ⟨?_, ?_⟩)
    · have := zk_lv_in lv 0 j q.2 h2
      rw [Nat.zero_add, ← h1] at this
      exact this
    · have hj' : ¬ q.1 = k := by omega
      have hj2 : ¬ q.1 = k + 1 := by omega
      simp only [Bool.and_eq_true, Bool.not_eq_true', beq_eq_false_iff_ne, ne_eq, Bool.and_eq_false_iff]
      refine ⟨hj', hj2, ?_⟩
      by_cases hq1 : q.1 + 1 = k
      · right
        rcases hp with hp | hp
        · omega
        · rw [show k - 1 = j by omega, h2] at hp
          simpa [zk_n2] using hp
      · left; exact hq1
def zk_en : List Value → List (Option Value)
  | [] => []
  | .long x :: r => some (.long x) :: none :: zk_en r
  | .double x :: r => some (.double x) :: none :: zk_en r
  | x :: r => some x :: zk_en r
theorem zk_en_in (n : Nat) : ∀ (vs : List Value) (i : Nat) (q : Nat × Value), q ∈ zk_lv i (zk_en vs ++ List.replicate n none) → q ∈ lv_args i vs
  | [], i, q, h => by
    obtain ⟨j, -, h2⟩ := zk_lv_of _ _ _ h
    have h2 : (List.replicate n (none : Option Value))[j]? = some (some q.2) := h2
    rw [List.getElem?_replicate] at h2
    split at h2 <;> simp at h2
  | x :: r, i, q, h => by
    cases x <;> (simp only [zk_en, List.cons_append, zk_lv] at h; rcases List.mem_cons.mp h with rfl | h) <;> first
      | exact List.mem_cons_self
      | exact List.mem_cons_of_mem _ (zk_en_in n r _ q h)
theorem zk_en_len : ∀ vs : List Value, (zk_en vs).length = (lg_sl vs).length
  | [] => rfl
  | x :: r => by
    have := zk_en_len r
    cases x <;> simp_all [zk_en, lg_sl, Value.category] <;> omega
def zk_good (w : Cond) : Bool := (w.onTables && w.keeps) || (match w with | .arrayClass _ => true | _ => false)
def zk_ws : List Cond := lw_tbl.filter zk_good
def zk_isNest (w : Cond) : Bool := match w with
  | .fieldLinkNest .. => true
  | .methodLinkNest .. => true
  | _ => false
def zk_nest : List Cond := lw_tbl.filter zk_isNest
theorem zk_goodIn {y : MethodName} {b : ByteArray} {n : Nat} {r : Option FieldType} (h : Cond.code y b n r ∈ zk_ws) : GoodIn zk_ws (Cond.code y b n r :: zk_ws) := by
  have key : ∀ w ∈ zk_ws, w ∈ zk_ws ∧ ((w.onTables && w.keeps) = true ∨ ∃ ty, w = .arrayClass ty) := by
    intro w hw
    refine ⟨hw, ?_⟩
    have h2 := (List.mem_filter.mp hw).2
    unfold zk_good at h2
    rcases Bool.or_eq_true _ _ |>.mp h2 with h3 | h3
    · exact Or.inl h3
    · cases w <;> first | exact Or.inr ⟨_, rfl⟩ | simp at h3
  intro w hw
  rcases List.mem_cons.mp hw with rfl | hw
  · exact key _ h
  · exact key _ hw
/-- the static arrays -/
def zk_St (X : zk_X) (U : State) : Prop := ∀ (j : Nat) (q : String × String × String × FieldType × Nat × (Nat → Value)), zk_stats[j]? = some q → va_Z q.1 q.2.1 q.2.2.1 (.ref (zk_sa X j)) (fun a => X.2.1 ≤ a) U U.heap ∧ va_T q.2.2.2.1 (zk_sa X j) q.2.2.2.2.1 q.2.2.2.2.2 (fun a => X.2.1 ≤ a) U U.heap
def zk_G (v : Nat) (X : zk_X) (U : State) : Prop := va_K X.2.2.1 zk_cl (zk_tys X) U ∧ zk_St X U ∧ (∀ w ∈ zk_nest, va_Nw w U) ∧ X.2.1 ≤ U.heap.size ∧ ∀ (I : zk_I) (J : zk_J), va_D (fun q => X.2.1 ≤ q) (zk_w v X I J)
theorem zk_St.go {X : zk_X} {s U : State} {H : Heap} {locs : List Loc} (h : zk_St X s) (hU : U.heap = H) (hS : va_S (fun q => X.2.1 ≤ q) s.heap H locs) (hvm : s.vm.Alike U.vm) : zk_St X U := by
  intro j q hq
  obtain ⟨h1, h2⟩ := h j q hq
  subst hU
  exact ⟨(h1.moved hvm).kept (fun a ha hb => hS.2.1 a ha hb), (h2.moved hvm).kept (fun a ha hb => hS.2.1 a ha hb)⟩
theorem zk_nest_warm {s U : State} (hW : s.WarmedH U.vm) (h : ∀ w ∈ zk_nest, va_Nw w s) : ∀ w ∈ zk_nest, va_Nw w U := by
  intro w hw
  have h1 := h w hw
  have h2 := (List.mem_filter.mp hw).2
  cases w <;> first
    | exact va_Nw.warmF hW h1
    | exact va_Nw.warmM hW h1
    | (simp [zk_isNest] at h2; done)
theorem zk_nest_same {s U : State} (hv : s.vm = U.vm) (h : ∀ w ∈ zk_nest, va_Nw w s) : ∀ w ∈ zk_nest, va_Nw w U := by
  intro w hw
  have h1 := h w hw
  have h2 := (List.mem_filter.mp hw).2
  cases w <;> first
    | (simp [zk_isNest] at h2; done)
    | exact va_Nw.same rfl hv h1
theorem zk_G.go {v : Nat} {X : zk_X} {s U : State} {H : Heap} {locs : List Loc} (h : zk_G v X s) (hU : U.heap = H) (hS : va_S (fun q => X.2.1 ≤ q) s.heap H locs) (hW : s.WarmedH U.vm) : zk_G v X U :=
  ⟨va_K.moved hW.alike h.1, h.2.1.go hU hS hW.alike, zk_nest_warm hW h.2.2.1, Nat.le_trans h.2.2.2.1 (by rw [hU]; exact hS.1), h.2.2.2.2⟩
theorem zk_G.blind {v : Nat} {X : zk_X} {U : State} {g : JFrame} {mk : MethodId} {a : Array Value} (h : zk_G v X U) : zk_G v X (U.calling g mk a) :=
  ⟨va_K.moved (u := U) (U := U.calling g mk a) (Vm.Alike.refl U.vm) h.1, h.2.1.go (U := U.calling g mk a) (locs := []) rfl va_S.rf (Vm.Alike.refl U.vm), zk_nest_same (s := U) (U := U.calling g mk a) rfl h.2.2.1, h.2.2.2.1, h.2.2.2.2⟩
abbrev zk_E : Type := Program × Env × Room × State × MethodId × Array Value × List Frame × Method × Code × Nat × Nat × (State → Prop)
/-- the machine, at pc with these locals (by place), this stack, and a heap that holds the world (I, J), comes to its end -/
def zk_A (v : Nat) (X : zk_X) (E : zk_E) (pc : Nat) (lv : List (Option Value)) (st : List Value) (I : zk_I) (J : zk_J) : Prop := match E with
  | (p, e, R, s, m, args, below, meth, c, cells, slots, Q) => ∀ (ls : Array Slot) (H : Heap) (locs : List Loc), lv.length = c.maxLocals → lv_has ls c.maxLocals (zk_lv 0 lv) → va_P X.2.2.1 zk_cl (zk_w v X I J) H → va_S (fun q => X.2.1 ≤ q) s.heap H locs →
      W p X.1 e R s m args below meth c H locs cells slots Q (F0 m pc ls st)
/-- what holds all through a method -/
def zk_C (v : Nat) (X : zk_X) (E : zk_E) (own : String) (cc : ByteArray) (dep : Nat × Nat) : Prop := match E with
  | (p, _, R, s, m, args, _, _, c, cells, slots, _) => p.tables.exec = Jvm.exec ∧ c.code = cc ∧ s.vm.findClass own = some m.cls ∧ (∀ w ∈ zk_ws, w.before args s = true) ∧ zk_G v X s ∧ dep.1 ≤ R.frames ∧ dep.2 ≤ R.locals ∧ cells ≤ R.cells ∧ slots ≤ R.slots
def zk_Q (v : Nat) (X : zk_X) (r : Option Value) (I : zk_I) (J : zk_J) : Array Value → State → Outcome → State → Prop := fun _ st o t => o = .returned r ∧ va_P X.2.2.1 zk_cl (zk_w v X I J) t.heap ∧ va_F (fun q => X.2.1 ≤ q) st t
/-- how a method ends -/
def zk_R (v : Nat) (X : zk_X) (E : zk_E) (ret : Option FieldType) (r : Option Value) (I : zk_I) (J : zk_J) : Prop := match E with
  | (_, _, _, s, _, args, below, meth, _, cells, slots, Q) => cells = 0 ∧ slots = 0 ∧ Q = MQ below (zk_Q v X r I J) args s 0 0 (fun q => X.2.1 ≤ q) ∧ meth.sig.returnType = ret ∧ meth.locks = false
abbrev zk_rm (d : Nat × Nat) : Room := { frames := d.1, cells := 0, slots := 0, locals := d.2 }
/-- THE CONTRACT: method y, of depth d, on these arguments, in the world (I, J): it answers r, and the world is (I', J') -/
def zk_M (v : Nat) (X : zk_X) (y : MethodName) (b : ByteArray) (maxL : Nat) (ret : Option FieldType) (d : Nat × Nat) (as : List Value) (I : zk_I) (J : zk_J) (r : Option Value) (I' : zk_I) (J' : zk_J) : Prop :=
  Met X.1 y (Cond.code y b maxL ret :: zk_ws) (zk_rm d) (va_Pc as (fun U => zk_G v X U ∧ va_P X.2.2.1 zk_cl (zk_w v X I J) U.heap)) (zk_Q v X r I' J') 0 0 (fun q => X.2.1 ≤ q)
theorem zk_M.intro {v : Nat} {X : zk_X} {y : MethodName} {b : ByteArray} {maxL : Nat} {ret : Option FieldType} {d : Nat × Nat} {as : List Value} {I : zk_I} {J : zk_J} {r : Option Value} {I' : zk_I} {J' : zk_J} (hy : plainName y.cls = true) {lv : List (Option Value)} (hlv : zk_en as ++ List.replicate (maxL - (zk_en as).length) none = lv) (hn : lv.length = maxL)
    (h : ∀ E, zk_C v X E y.cls b d → zk_R v X E ret r I' J' → zk_A v X E 0 lv [] I J) : zk_M v X y b maxL ret d as I J r I' J' := by
  refine Met.ofW (cc := b) (maxL := maxL) (ret := ret) hy rfl ?_
  intro p e s m args below meth c s₁ B hml hv
  obtain ⟨rfl, hG, hP⟩ := hv
  have hts := atoms_spec (ws := Cond.code y b maxL ret :: zk_ws) B.pre
  have hlen : (lg_sl as).length ≤ maxL := by
    rw [← zk_en_len, ← hn, ← hlv, List.length_append]; omega
  have hl := lv_entry as (n := maxL) hlen
  rw [lg_entry_eq]
  generalize (lg_sl as ++ List.replicate (maxL - (lg_sl as).length) Slot.unset).toArray = ls at hl ⊢
  refine h (p, e, _, s, m, _, below, meth, c, 0, 0, _) ⟨B.exec, B.bytes, findClass_of_methodNamed B.named, fun w hw => hts w (List.mem_cons_of_mem _ hw), hG, Nat.le_refl _, Nat.le_refl _, Nat.zero_le _, Nat.zero_le _⟩ ⟨rfl, rfl, rfl, B.returns, B.notSynchronized⟩ ls s.heap [] (by rw [hn, hml]) ⟨by rw [hl.1, hml], hl.2.1, fun q hq => hl.2.2 q (zk_en_in _ as 0 q (by rw [hlv]; exact hq))⟩ hP va_S.rf
section ZK
variable {v : Nat} {X : zk_X} {E : zk_E} {own : String} {cc : ByteArray} {dep : Nat × Nat} {pc pc' : Nat} {lv : List (Option Value)} {st : List Value} {I I' : zk_I} {J J' : zk_J}
/-- an instruction, decoded: its pc, the next one's, itself, its length -/
abbrev zk_D (cc : ByteArray) (pc pc' : Nat) (i : Instr) (n : Nat) : Prop := decode cc pc = .ok (i, n) ∧ pc' = pc + n
theorem zk_cast (k : zk_A v X E pc lv st I' J') (hI : I = I') (hJ : J = J') : zk_A v X E pc lv st I J := by subst hI; subst hJ; exact k
theorem zk_iconst {z : Int} {x : Int32} (h : zk_C v X E own cc dep) (d : zk_D cc pc pc' (.iconst z) 1) (hv : Int32.ofInt z = x) (kk : zk_A v X E pc' lv (.int x :: st) I J) : zk_A v X E pc lv (st) I J := by
  obtain ⟨p, e, R, s, m, args, below, meth, c, cells, slots, Q⟩ := E
  obtain ⟨d, rfl⟩ := d
  intro ls H locs hn hl hP hS
  exact lv_iconst h.1 h.2.1 d hv (kk ls H locs hn hl hP hS)
theorem zk_bipush {z : Int} {x : Int32} (h : zk_C v X E own cc dep) (d : zk_D cc pc pc' (.bipush z) 2) (hv : (Int8.ofInt z).toInt32 = x) (kk : zk_A v X E pc' lv (.int x :: st) I J) : zk_A v X E pc lv (st) I J := by
  obtain ⟨p, e, R, s, m, args, below, meth, c, cells, slots, Q⟩ := E
  obtain ⟨d, rfl⟩ := d
  intro ls H locs hn hl hP hS
  exact lv_bipush h.1 h.2.1 d hv (kk ls H locs hn hl hP hS)
theorem zk_sipush {z : Int} {x : Int32} (h : zk_C v X E own cc dep) (d : zk_D cc pc pc' (.sipush z) 3) (hv : (Int16.ofInt z).toInt32 = x) (kk : zk_A v X E pc' lv (.int x :: st) I J) : zk_A v X E pc lv (st) I J := by
  obtain ⟨p, e, R, s, m, args, below, meth, c, cells, slots, Q⟩ := E
  obtain ⟨d, rfl⟩ := d
  intro ls H locs hn hl hP hS
  exact lv_sipush h.1 h.2.1 d hv (kk ls H locs hn hl hP hS)
theorem zk_lconst {z : Fin 2} {x : Int64} (h : zk_C v X E own cc dep) (d : zk_D cc pc pc' (.lconst z) 1) (hv : Int64.ofNat (z : Nat) = x) (kk : zk_A v X E pc' lv (.long x :: st) I J) : zk_A v X E pc lv (st) I J := by
  obtain ⟨p, e, R, s, m, args, below, meth, c, cells, slots, Q⟩ := E
  obtain ⟨d, rfl⟩ := d
  intro ls H locs hn hl hP hS
  exact lv_lconst h.1 h.2.1 d hv (kk ls H locs hn hl hP hS)
theorem zk_iadd {x y : Int32} (h : zk_C v X E own cc dep) (d : zk_D cc pc pc' (.iadd) 1) (kk : zk_A v X E pc' lv (.int (x + y) :: st) I J) : zk_A v X E pc lv (.int y :: .int x :: st) I J := by
  obtain ⟨p, e, R, s, m, args, below, meth, c, cells, slots, Q⟩ := E
  obtain ⟨d, rfl⟩ := d
  intro ls H locs hn hl hP hS
  exact lv_iadd h.1 h.2.1 d (kk ls H locs hn hl hP hS)
theorem zk_isub {x y : Int32} (h : zk_C v X E own cc dep) (d : zk_D cc pc pc' (.isub) 1) (kk : zk_A v X E pc' lv (.int (x - y) :: st) I J) : zk_A v X E pc lv (.int y :: .int x :: st) I J := by
  obtain ⟨p, e, R, s, m, args, below, meth, c, cells, slots, Q⟩ := E
  obtain ⟨d, rfl⟩ := d
  intro ls H locs hn hl hP hS
  exact lv_isub h.1 h.2.1 d (kk ls H locs hn hl hP hS)
theorem zk_imul {x y : Int32} (h : zk_C v X E own cc dep) (d : zk_D cc pc pc' (.imul) 1) (kk : zk_A v X E pc' lv (.int (x * y) :: st) I J) : zk_A v X E pc lv (.int y :: .int x :: st) I J := by
  obtain ⟨p, e, R, s, m, args, below, meth, c, cells, slots, Q⟩ := E
  obtain ⟨d, rfl⟩ := d
  intro ls H locs hn hl hP hS
  exact lv_imul h.1 h.2.1 d (kk ls H locs hn hl hP hS)
theorem zk_iand {x y : Int32} (h : zk_C v X E own cc dep) (d : zk_D cc pc pc' (.iand) 1) (kk : zk_A v X E pc' lv (.int (x &&& y) :: st) I J) : zk_A v X E pc lv (.int y :: .int x :: st) I J := by
  obtain ⟨p, e, R, s, m, args, below, meth, c, cells, slots, Q⟩ := E
  obtain ⟨d, rfl⟩ := d
  intro ls H locs hn hl hP hS
  exact lv_iand h.1 h.2.1 d (kk ls H locs hn hl hP hS)
theorem zk_ior {x y : Int32} (h : zk_C v X E own cc dep) (d : zk_D cc pc pc' (.ior) 1) (kk : zk_A v X E pc' lv (.int (x ||| y) :: st) I J) : zk_A v X E pc lv (.int y :: .int x :: st) I J := by
  obtain ⟨p, e, R, s, m, args, below, meth, c, cells, slots, Q⟩ := E
  obtain ⟨d, rfl⟩ := d
  intro ls H locs hn hl hP hS
  exact lv_ior h.1 h.2.1 d (kk ls H locs hn hl hP hS)
theorem zk_ixor {x y : Int32} (h : zk_C v X E own cc dep) (d : zk_D cc pc pc' (.ixor) 1) (kk : zk_A v X E pc' lv (.int (x ^^^ y) :: st) I J) : zk_A v X E pc lv (.int y :: .int x :: st) I J := by
  obtain ⟨p, e, R, s, m, args, below, meth, c, cells, slots, Q⟩ := E
  obtain ⟨d, rfl⟩ := d
  intro ls H locs hn hl hP hS
  exact lv_ixor h.1 h.2.1 d (kk ls H locs hn hl hP hS)
theorem zk_ishl {x y : Int32} (h : zk_C v X E own cc dep) (d : zk_D cc pc pc' (.ishl) 1) (kk : zk_A v X E pc' lv (.int (x <<< (y &&& 31)) :: st) I J) : zk_A v X E pc lv (.int y :: .int x :: st) I J := by
  obtain ⟨p, e, R, s, m, args, below, meth, c, cells, slots, Q⟩ := E
  obtain ⟨d, rfl⟩ := d
  intro ls H locs hn hl hP hS
  exact lv_ishl h.1 h.2.1 d (kk ls H locs hn hl hP hS)
theorem zk_ishr {x y : Int32} (h : zk_C v X E own cc dep) (d : zk_D cc pc pc' (.ishr) 1) (kk : zk_A v X E pc' lv (.int (x >>> (y &&& 31)) :: st) I J) : zk_A v X E pc lv (.int y :: .int x :: st) I J := by
  obtain ⟨p, e, R, s, m, args, below, meth, c, cells, slots, Q⟩ := E
  obtain ⟨d, rfl⟩ := d
  intro ls H locs hn hl hP hS
  exact lv_ishr h.1 h.2.1 d (kk ls H locs hn hl hP hS)
theorem zk_ladd {x y : Int64} (h : zk_C v X E own cc dep) (d : zk_D cc pc pc' (.ladd) 1) (kk : zk_A v X E pc' lv (.long (x + y) :: st) I J) : zk_A v X E pc lv (.long y :: .long x :: st) I J := by
  obtain ⟨p, e, R, s, m, args, below, meth, c, cells, slots, Q⟩ := E
  obtain ⟨d, rfl⟩ := d
  intro ls H locs hn hl hP hS
  exact lv_ladd h.1 h.2.1 d (kk ls H locs hn hl hP hS)
theorem zk_lsub {x y : Int64} (h : zk_C v X E own cc dep) (d : zk_D cc pc pc' (.lsub) 1) (kk : zk_A v X E pc' lv (.long (x - y) :: st) I J) : zk_A v X E pc lv (.long y :: .long x :: st) I J := by
  obtain ⟨p, e, R, s, m, args, below, meth, c, cells, slots, Q⟩ := E
  obtain ⟨d, rfl⟩ := d
  intro ls H locs hn hl hP hS
  exact lv_lsub h.1 h.2.1 d (kk ls H locs hn hl hP hS)
theorem zk_lmul {x y : Int64} (h : zk_C v X E own cc dep) (d : zk_D cc pc pc' (.lmul) 1) (kk : zk_A v X E pc' lv (.long (x * y) :: st) I J) : zk_A v X E pc lv (.long y :: .long x :: st) I J := by
  obtain ⟨p, e, R, s, m, args, below, meth, c, cells, slots, Q⟩ := E
  obtain ⟨d, rfl⟩ := d
  intro ls H locs hn hl hP hS
  exact lv_lmul h.1 h.2.1 d (kk ls H locs hn hl hP hS)
theorem zk_land {x y : Int64} (h : zk_C v X E own cc dep) (d : zk_D cc pc pc' (.land) 1) (kk : zk_A v X E pc' lv (.long (x &&& y) :: st) I J) : zk_A v X E pc lv (.long y :: .long x :: st) I J := by
  obtain ⟨p, e, R, s, m, args, below, meth, c, cells, slots, Q⟩ := E
  obtain ⟨d, rfl⟩ := d
  intro ls H locs hn hl hP hS
  exact lv_land h.1 h.2.1 d (kk ls H locs hn hl hP hS)
theorem zk_lor {x y : Int64} (h : zk_C v X E own cc dep) (d : zk_D cc pc pc' (.lor) 1) (kk : zk_A v X E pc' lv (.long (x ||| y) :: st) I J) : zk_A v X E pc lv (.long y :: .long x :: st) I J := by
  obtain ⟨p, e, R, s, m, args, below, meth, c, cells, slots, Q⟩ := E
  obtain ⟨d, rfl⟩ := d
  intro ls H locs hn hl hP hS
  exact lv_lor h.1 h.2.1 d (kk ls H locs hn hl hP hS)
theorem zk_lxor {x y : Int64} (h : zk_C v X E own cc dep) (d : zk_D cc pc pc' (.lxor) 1) (kk : zk_A v X E pc' lv (.long (x ^^^ y) :: st) I J) : zk_A v X E pc lv (.long y :: .long x :: st) I J := by
  obtain ⟨p, e, R, s, m, args, below, meth, c, cells, slots, Q⟩ := E
  obtain ⟨d, rfl⟩ := d
  intro ls H locs hn hl hP hS
  exact lv_lxor h.1 h.2.1 d (kk ls H locs hn hl hP hS)
theorem zk_idiv {x y : Int32} (h : zk_C v X E own cc dep) (d : zk_D cc pc pc' (.idiv) 1) (hne : ¬ y = 0) (kk : zk_A v X E pc' lv (.int (x / y) :: st) I J) : zk_A v X E pc lv (.int y :: .int x :: st) I J := by
  obtain ⟨p, e, R, s, m, args, below, meth, c, cells, slots, Q⟩ := E
  obtain ⟨d, rfl⟩ := d
  intro ls H locs hn hl hP hS
  exact lv_idiv h.1 h.2.1 d hne (kk ls H locs hn hl hP hS)
theorem zk_irem {x y : Int32} (h : zk_C v X E own cc dep) (d : zk_D cc pc pc' (.irem) 1) (hne : ¬ y = 0) (kk : zk_A v X E pc' lv (.int (x - x / y * y) :: st) I J) : zk_A v X E pc lv (.int y :: .int x :: st) I J := by
  obtain ⟨p, e, R, s, m, args, below, meth, c, cells, slots, Q⟩ := E
  obtain ⟨d, rfl⟩ := d
  intro ls H locs hn hl hP hS
  exact lv_irem h.1 h.2.1 d hne (kk ls H locs hn hl hP hS)
theorem zk_lrem {x y : Int64} (h : zk_C v X E own cc dep) (d : zk_D cc pc pc' (.lrem) 1) (hne : ¬ y = 0) (kk : zk_A v X E pc' lv (.long (x - x / y * y) :: st) I J) : zk_A v X E pc lv (.long y :: .long x :: st) I J := by
  obtain ⟨p, e, R, s, m, args, below, meth, c, cells, slots, Q⟩ := E
  obtain ⟨d, rfl⟩ := d
  intro ls H locs hn hl hP hS
  exact lv_lrem h.1 h.2.1 d hne (kk ls H locs hn hl hP hS)
theorem zk_ineg {x : Int32} (h : zk_C v X E own cc dep) (d : zk_D cc pc pc' (.ineg) 1) (kk : zk_A v X E pc' lv (.int (-x) :: st) I J) : zk_A v X E pc lv (.int x :: st) I J := by
  obtain ⟨p, e, R, s, m, args, below, meth, c, cells, slots, Q⟩ := E
  obtain ⟨d, rfl⟩ := d
  intro ls H locs hn hl hP hS
  exact lv_ineg h.1 h.2.1 d (kk ls H locs hn hl hP hS)
theorem zk_i2l {x : Int32} (h : zk_C v X E own cc dep) (d : zk_D cc pc pc' (.i2l) 1) (kk : zk_A v X E pc' lv (.long x.toInt64 :: st) I J) : zk_A v X E pc lv (.int x :: st) I J := by
  obtain ⟨p, e, R, s, m, args, below, meth, c, cells, slots, Q⟩ := E
  obtain ⟨d, rfl⟩ := d
  intro ls H locs hn hl hP hS
  exact lv_i2l h.1 h.2.1 d rfl (kk ls H locs hn hl hP hS)
theorem zk_l2i {x : Int64} (h : zk_C v X E own cc dep) (d : zk_D cc pc pc' (.l2i) 1) (kk : zk_A v X E pc' lv (.int x.toInt32 :: st) I J) : zk_A v X E pc lv (.long x :: st) I J := by
  obtain ⟨p, e, R, s, m, args, below, meth, c, cells, slots, Q⟩ := E
  obtain ⟨d, rfl⟩ := d
  intro ls H locs hn hl hP hS
  exact lv_l2i h.1 h.2.1 d rfl (kk ls H locs hn hl hP hS)
theorem zk_i2b {x : Int32} (h : zk_C v X E own cc dep) (d : zk_D cc pc pc' (.i2b) 1) (kk : zk_A v X E pc' lv (.int x.toInt8.toInt32 :: st) I J) : zk_A v X E pc lv (.int x :: st) I J := by
  obtain ⟨p, e, R, s, m, args, below, meth, c, cells, slots, Q⟩ := E
  obtain ⟨d, rfl⟩ := d
  intro ls H locs hn hl hP hS
  exact lv_i2b h.1 h.2.1 d rfl (kk ls H locs hn hl hP hS)
theorem zk_lushr {x : Int64} {y : Int32} (h : zk_C v X E own cc dep) (d : zk_D cc pc pc' (.lushr) 1) (kk : zk_A v X E pc' lv (.long (x.toUInt64 >>> (y.toInt64.toUInt64 &&& Int64.toUInt64 63)).toInt64 :: st) I J) : zk_A v X E pc lv (.int y :: .long x :: st) I J := by
  obtain ⟨p, e, R, s, m, args, below, meth, c, cells, slots, Q⟩ := E
  obtain ⟨d, rfl⟩ := d
  intro ls H locs hn hl hP hS
  exact lv_lushr h.1 h.2.1 d rfl (kk ls H locs hn hl hP hS)
theorem zk_lshl {x : Int64} {y : Int32} (h : zk_C v X E own cc dep) (d : zk_D cc pc pc' (.lshl) 1) (kk : zk_A v X E pc' lv (.long (x <<< (y.toInt64 &&& 63)) :: st) I J) : zk_A v X E pc lv (.int y :: .long x :: st) I J := by
  obtain ⟨p, e, R, s, m, args, below, meth, c, cells, slots, Q⟩ := E
  obtain ⟨d, rfl⟩ := d
  intro ls H locs hn hl hP hS
  exact lv_lshl h.1 h.2.1 d rfl (kk ls H locs hn hl hP hS)
theorem zk_lshr {x : Int64} {y : Int32} (h : zk_C v X E own cc dep) (d : zk_D cc pc pc' (.lshr) 1) (kk : zk_A v X E pc' lv (.long (x >>> (y.toInt64 &&& 63)) :: st) I J) : zk_A v X E pc lv (.int y :: .long x :: st) I J := by
  obtain ⟨p, e, R, s, m, args, below, meth, c, cells, slots, Q⟩ := E
  obtain ⟨d, rfl⟩ := d
  intro ls H locs hn hl hP hS
  exact lv_lshr h.1 h.2.1 d rfl (kk ls H locs hn hl hP hS)
theorem zk_iushr {x y : Int32} (h : zk_C v X E own cc dep) (d : zk_D cc pc pc' (.iushr) 1) (kk : zk_A v X E pc' lv (.int (x.toUInt32 >>> (y.toUInt32 &&& Int32.toUInt32 31)).toInt32 :: st) I J) : zk_A v X E pc lv (.int y :: .int x :: st) I J := by
  obtain ⟨p, e, R, s, m, args, below, meth, c, cells, slots, Q⟩ := E
  obtain ⟨d, rfl⟩ := d
  intro ls H locs hn hl hP hS
  exact lv_iushr h.1 h.2.1 d rfl (kk ls H locs hn hl hP hS)
theorem zk_dup {a : Value} (h : zk_C v X E own cc dep) (d : zk_D cc pc pc' (.dup) 1) (hc : a.category = 1) (kk : zk_A v X E pc' lv (a :: a :: st) I J) : zk_A v X E pc lv (a :: st) I J := by
  obtain ⟨p, e, R, s, m, args, below, meth, c, cells, slots, Q⟩ := E
  obtain ⟨d, rfl⟩ := d
  intro ls H locs hn hl hP hS
  exact lv_dup h.1 h.2.1 d hc (kk ls H locs hn hl hP hS)
theorem zk_pop {a : Value} (h : zk_C v X E own cc dep) (d : zk_D cc pc pc' (.pop) 1) (hc : a.category = 1) (kk : zk_A v X E pc' lv (st) I J) : zk_A v X E pc lv (a :: st) I J := by
  obtain ⟨p, e, R, s, m, args, below, meth, c, cells, slots, Q⟩ := E
  obtain ⟨d, rfl⟩ := d
  intro ls H locs hn hl hP hS
  exact lv_pop h.1 h.2.1 d hc (kk ls H locs hn hl hP hS)
theorem zk_dup_x1 {a b : Value} (h : zk_C v X E own cc dep) (d : zk_D cc pc pc' (.dup_x1) 1) (hc : a.category = 1) (hb : b.category = 1) (kk : zk_A v X E pc' lv (a :: b :: a :: st) I J) : zk_A v X E pc lv (a :: b :: st) I J := by
  obtain ⟨p, e, R, s, m, args, below, meth, c, cells, slots, Q⟩ := E
  obtain ⟨d, rfl⟩ := d
  intro ls H locs hn hl hP hS
  exact lv_dup_x1 h.1 h.2.1 d hc hb (kk ls H locs hn hl hP hS)
theorem zk_dup2 {a b : Value} (h : zk_C v X E own cc dep) (d : zk_D cc pc pc' (.dup2) 1) (hc : a.category = 1) (hb : b.category = 1) (kk : zk_A v X E pc' lv (a :: b :: a :: b :: st) I J) : zk_A v X E pc lv (a :: b :: st) I J := by
  obtain ⟨p, e, R, s, m, args, below, meth, c, cells, slots, Q⟩ := E
  obtain ⟨d, rfl⟩ := d
  intro ls H locs hn hl hP hS
  exact lv_dup2_11 h.1 h.2.1 d hc hb (kk ls H locs hn hl hP hS)
theorem zk_lcmp {x y : Int64} (h : zk_C v X E own cc dep) (d : zk_D cc pc pc' (.lcmp) 1) (kk : zk_A v X E pc' lv (.int (lg_cmp x y) :: st) I J) : zk_A v X E pc lv (.long y :: .long x :: st) I J := by
  obtain ⟨p, e, R, s, m, args, below, meth, c, cells, slots, Q⟩ := E
  obtain ⟨d, rfl⟩ := d
  intro ls H locs hn hl hP hS
  exact W.lcmp h.1 h.2.1 d (kk ls H locs hn hl hP hS)
theorem zk_if_eq {x : Int32} {off : Int} (h : zk_C v X E own cc dep) (d : zk_D cc pc pc' (.ifCond .eq off) 3) (tgt : Nat) (ht : (pc : Int) + off = (tgt : Int)) (kt : x = 0 → zk_A v X E tgt lv st I J) (kf : ¬ (x = 0) → zk_A v X E pc' lv st I J) : zk_A v X E pc lv (.int x :: st) I J := by
  obtain ⟨p, e, R, s, m, args, below, meth, c, cells, slots, Q⟩ := E
  obtain ⟨d, rfl⟩ := d
  intro ls H locs hn hl hP hS
  exact lv_if_eq h.1 h.2.1 d ht (fun q => kt q ls H locs hn hl hP hS) (fun q => kf q ls H locs hn hl hP hS)
theorem zk_icmp_eq {x y : Int32} {off : Int} (h : zk_C v X E own cc dep) (d : zk_D cc pc pc' (.if_icmp .eq off) 3) (tgt : Nat) (ht : (pc : Int) + off = (tgt : Int)) (kt : x = y → zk_A v X E tgt lv st I J) (kf : ¬ (x = y) → zk_A v X E pc' lv st I J) : zk_A v X E pc lv (.int y :: .int x :: st) I J := by
  obtain ⟨p, e, R, s, m, args, below, meth, c, cells, slots, Q⟩ := E
  obtain ⟨d, rfl⟩ := d
  intro ls H locs hn hl hP hS
  exact lv_icmp_eq h.1 h.2.1 d ht (fun q => kt q ls H locs hn hl hP hS) (fun q => kf q ls H locs hn hl hP hS)
theorem zk_if_ne {x : Int32} {off : Int} (h : zk_C v X E own cc dep) (d : zk_D cc pc pc' (.ifCond .ne off) 3) (tgt : Nat) (ht : (pc : Int) + off = (tgt : Int)) (kt : ¬ x = 0 → zk_A v X E tgt lv st I J) (kf : x = 0 → zk_A v X E pc' lv st I J) : zk_A v X E pc lv (.int x :: st) I J := by
  obtain ⟨p, e, R, s, m, args, below, meth, c, cells, slots, Q⟩ := E
  obtain ⟨d, rfl⟩ := d
  intro ls H locs hn hl hP hS
  exact lv_if_ne h.1 h.2.1 d ht (fun q => kt q ls H locs hn hl hP hS) (fun q => kf q ls H locs hn hl hP hS)
theorem zk_icmp_ne {x y : Int32} {off : Int} (h : zk_C v X E own cc dep) (d : zk_D cc pc pc' (.if_icmp .ne off) 3) (tgt : Nat) (ht : (pc : Int) + off = (tgt : Int)) (kt : ¬ x = y → zk_A v X E tgt lv st I J) (kf : x = y → zk_A v X E pc' lv st I J) : zk_A v X E pc lv (.int y :: .int x :: st) I J := by
  obtain ⟨p, e, R, s, m, args, below, meth, c, cells, slots, Q⟩ := E
  obtain ⟨d, rfl⟩ := d
  intro ls H locs hn hl hP hS
  exact lv_icmp_ne h.1 h.2.1 d ht (fun q => kt q ls H locs hn hl hP hS) (fun q => kf q ls H locs hn hl hP hS)
theorem zk_if_lt {x : Int32} {off : Int} (h : zk_C v X E own cc dep) (d : zk_D cc pc pc' (.ifCond .lt off) 3) (tgt : Nat) (ht : (pc : Int) + off = (tgt : Int)) (kt : x < 0 → zk_A v X E tgt lv st I J) (kf : ¬ (x < 0) → zk_A v X E pc' lv st I J) : zk_A v X E pc lv (.int x :: st) I J := by
  obtain ⟨p, e, R, s, m, args, below, meth, c, cells, slots, Q⟩ := E
  obtain ⟨d, rfl⟩ := d
  intro ls H locs hn hl hP hS
  exact lv_if_lt h.1 h.2.1 d ht (fun q => kt q ls H locs hn hl hP hS) (fun q => kf q ls H locs hn hl hP hS)
theorem zk_icmp_lt {x y : Int32} {off : Int} (h : zk_C v X E own cc dep) (d : zk_D cc pc pc' (.if_icmp .lt off) 3) (tgt : Nat) (ht : (pc : Int) + off = (tgt : Int)) (kt : x < y → zk_A v X E tgt lv st I J) (kf : ¬ (x < y) → zk_A v X E pc' lv st I J) : zk_A v X E pc lv (.int y :: .int x :: st) I J := by
  obtain ⟨p, e, R, s, m, args, below, meth, c, cells, slots, Q⟩ := E
  obtain ⟨d, rfl⟩ := d
  intro ls H locs hn hl hP hS
  exact lv_icmp_lt h.1 h.2.1 d ht (fun q => kt q ls H locs hn hl hP hS) (fun q => kf q ls H locs hn hl hP hS)
theorem zk_if_ge {x : Int32} {off : Int} (h : zk_C v X E own cc dep) (d : zk_D cc pc pc' (.ifCond .ge off) 3) (tgt : Nat) (ht : (pc : Int) + off = (tgt : Int)) (kt : 0 ≤ x → zk_A v X E tgt lv st I J) (kf : ¬ (0 ≤ x) → zk_A v X E pc' lv st I J) : zk_A v X E pc lv (.int x :: st) I J := by
  obtain ⟨p, e, R, s, m, args, below, meth, c, cells, slots, Q⟩ := E
  obtain ⟨d, rfl⟩ := d
  intro ls H locs hn hl hP hS
  exact lv_if_ge h.1 h.2.1 d ht (fun q => kt q ls H locs hn hl hP hS) (fun q => kf q ls H locs hn hl hP hS)
theorem zk_icmp_ge {x y : Int32} {off : Int} (h : zk_C v X E own cc dep) (d : zk_D cc pc pc' (.if_icmp .ge off) 3) (tgt : Nat) (ht : (pc : Int) + off = (tgt : Int)) (kt : y ≤ x → zk_A v X E tgt lv st I J) (kf : ¬ (y ≤ x) → zk_A v X E pc' lv st I J) : zk_A v X E pc lv (.int y :: .int x :: st) I J := by
  obtain ⟨p, e, R, s, m, args, below, meth, c, cells, slots, Q⟩ := E
  obtain ⟨d, rfl⟩ := d
  intro ls H locs hn hl hP hS
  exact lv_icmp_ge h.1 h.2.1 d ht (fun q => kt q ls H locs hn hl hP hS) (fun q => kf q ls H locs hn hl hP hS)
theorem zk_if_gt {x : Int32} {off : Int} (h : zk_C v X E own cc dep) (d : zk_D cc pc pc' (.ifCond .gt off) 3) (tgt : Nat) (ht : (pc : Int) + off = (tgt : Int)) (kt : 0 < x → zk_A v X E tgt lv st I J) (kf : ¬ (0 < x) → zk_A v X E pc' lv st I J) : zk_A v X E pc lv (.int x :: st) I J := by
  obtain ⟨p, e, R, s, m, args, below, meth, c, cells, slots, Q⟩ := E
  obtain ⟨d, rfl⟩ := d
  intro ls H locs hn hl hP hS
  exact lv_if_gt h.1 h.2.1 d ht (fun q => kt q ls H locs hn hl hP hS) (fun q => kf q ls H locs hn hl hP hS)
theorem zk_icmp_gt {x y : Int32} {off : Int} (h : zk_C v X E own cc dep) (d : zk_D cc pc pc' (.if_icmp .gt off) 3) (tgt : Nat) (ht : (pc : Int) + off = (tgt : Int)) (kt : y < x → zk_A v X E tgt lv st I J) (kf : ¬ (y < x) → zk_A v X E pc' lv st I J) : zk_A v X E pc lv (.int y :: .int x :: st) I J := by
  obtain ⟨p, e, R, s, m, args, below, meth, c, cells, slots, Q⟩ := E
  obtain ⟨d, rfl⟩ := d
  intro ls H locs hn hl hP hS
  exact lv_icmp_gt h.1 h.2.1 d ht (fun q => kt q ls H locs hn hl hP hS) (fun q => kf q ls H locs hn hl hP hS)
theorem zk_if_le {x : Int32} {off : Int} (h : zk_C v X E own cc dep) (d : zk_D cc pc pc' (.ifCond .le off) 3) (tgt : Nat) (ht : (pc : Int) + off = (tgt : Int)) (kt : x ≤ 0 → zk_A v X E tgt lv st I J) (kf : ¬ (x ≤ 0) → zk_A v X E pc' lv st I J) : zk_A v X E pc lv (.int x :: st) I J := by
  obtain ⟨p, e, R, s, m, args, below, meth, c, cells, slots, Q⟩ := E
  obtain ⟨d, rfl⟩ := d
  intro ls H locs hn hl hP hS
  exact lv_if_le h.1 h.2.1 d ht (fun q => kt q ls H locs hn hl hP hS) (fun q => kf q ls H locs hn hl hP hS)
theorem zk_icmp_le {x y : Int32} {off : Int} (h : zk_C v X E own cc dep) (d : zk_D cc pc pc' (.if_icmp .le off) 3) (tgt : Nat) (ht : (pc : Int) + off = (tgt : Int)) (kt : x ≤ y → zk_A v X E tgt lv st I J) (kf : ¬ (x ≤ y) → zk_A v X E pc' lv st I J) : zk_A v X E pc lv (.int y :: .int x :: st) I J := by
  obtain ⟨p, e, R, s, m, args, below, meth, c, cells, slots, Q⟩ := E
  obtain ⟨d, rfl⟩ := d
  intro ls H locs hn hl hP hS
  exact lv_icmp_le h.1 h.2.1 d ht (fun q => kt q ls H locs hn hl hP hS) (fun q => kf q ls H locs hn hl hP hS)
theorem zk_goto {off : Int} (h : zk_C v X E own cc dep) (d : zk_D cc pc pc' (.goto off) 3) (tgt : Nat) (ht : (pc : Int) + off = (tgt : Int)) (kk : zk_A v X E tgt lv st I J) : zk_A v X E pc lv st I J := by
  obtain ⟨p, e, R, s, m, args, below, meth, c, cells, slots, Q⟩ := E
  obtain ⟨d, rfl⟩ := d
  intro ls H locs hn hl hP hS
  exact lv_goto h.1 h.2.1 d ht (kk ls H locs hn hl hP hS)
theorem zk_tabOut {dflt lo hi : Int} {offs : Array Int} {len : Nat} {x : Int32} (h : zk_C v X E own cc dep) (d : decode cc pc = .ok (.tableswitch dflt lo hi offs, len)) (tgt : Nat) (hx : x.toInt < lo ∨ hi < x.toInt) (ht : (pc : Int) + dflt = (tgt : Int)) (kk : zk_A v X E tgt lv st I J) : zk_A v X E pc lv (.int x :: st) I J := by
  obtain ⟨p, e, R, s, m, args, below, meth, c, cells, slots, Q⟩ := E
  intro ls H locs hn hl hP hS
  exact lv_tableOut h.1 h.2.1 d hx ht (kk ls H locs hn hl hP hS)
theorem zk_tabIn {dflt lo hi : Int} {offs : Array Int} {len : Nat} {x : Int32} {off : Int} (h : zk_C v X E own cc dep) (d : decode cc pc = .ok (.tableswitch dflt lo hi offs, len)) (tgt : Nat) (h1 : ¬ x.toInt < lo) (h2 : ¬ hi < x.toInt) (ho : offs[(x.toInt - lo).toNat]? = some off) (ht : (pc : Int) + off = (tgt : Int)) (kk : zk_A v X E tgt lv st I J) : zk_A v X E pc lv (.int x :: st) I J := by
  obtain ⟨p, e, R, s, m, args, below, meth, c, cells, slots, Q⟩ := E
  intro ls H locs hn hl hP hS
  exact lv_tableIn h.1 h.2.1 d h1 h2 ho ht (kk ls H locs hn hl hP hS)
theorem zk_ldc {k : Nat} {x : Int32} (h : zk_C v X E own cc dep) (d : zk_D cc pc pc' (.ldc k) 2) (hc : Jvm.Cond.constant own k x ∈ zk_ws) (kk : zk_A v X E pc' lv (.int x :: st) I J) : zk_A v X E pc lv st I J := by
  obtain ⟨p, e, R, s, m, args, below, meth, c, cells, slots, Q⟩ := E
  obtain ⟨d, rfl⟩ := d
  intro ls H locs hn hl hP hS
  exact lv_ldc h.1 h.2.1 h.2.2.1 (h.2.2.2.1 _ hc) d (kk ls H locs hn hl hP hS)
theorem zk_ldc2 {k : Nat} {x : Int64} (h : zk_C v X E own cc dep) (d : zk_D cc pc pc' (.ldc2_w k) 3) (hc : Jvm.Cond.constantLong own k x ∈ zk_ws) (kk : zk_A v X E pc' lv (.long x :: st) I J) : zk_A v X E pc lv st I J := by
  obtain ⟨p, e, R, s, m, args, below, meth, c, cells, slots, Q⟩ := E
  obtain ⟨d, rfl⟩ := d
  intro ls H locs hn hl hP hS
  exact lv_ldc2 h.1 h.2.1 h.2.2.1 (h.2.2.2.1 _ hc) d (kk ls H locs hn hl hP hS)
theorem zk_iload {k : Nat} {x : Int32} (h : zk_C v X E own cc dep) (hl : lv[k]? = some (some (.int x))) (d : zk_D cc pc pc' (.iload k) 2) (kk : zk_A v X E pc' lv (.int x :: st) I J) : zk_A v X E pc lv st I J := by
  obtain ⟨p, e, R, s, m, args, below, meth, c, cells, slots, Q⟩ := E
  obtain ⟨d, rfl⟩ := d
  intro ls H locs hn hl2 hP hS
  exact lv_iload h.1 h.2.1 d (zk_lv_at hl2 hl) (kk ls H locs hn hl2 hP hS)
theorem zk_lload {k : Nat} {x : Int64} (h : zk_C v X E own cc dep) (hl : lv[k]? = some (some (.long x))) (d : zk_D cc pc pc' (.lload k) 2) (kk : zk_A v X E pc' lv (.long x :: st) I J) : zk_A v X E pc lv st I J := by
  obtain ⟨p, e, R, s, m, args, below, meth, c, cells, slots, Q⟩ := E
  obtain ⟨d, rfl⟩ := d
  intro ls H locs hn hl2 hP hS
  exact lv_lload h.1 h.2.1 d (zk_lv_at hl2 hl) (kk ls H locs hn hl2 hP hS)
theorem zk_aload {k : Nat} {x : Nat} (h : zk_C v X E own cc dep) (hl : lv[k]? = some (some (.ref x))) (d : zk_D cc pc pc' (.aload k) 2) (kk : zk_A v X E pc' lv (.ref x :: st) I J) : zk_A v X E pc lv st I J := by
  obtain ⟨p, e, R, s, m, args, below, meth, c, cells, slots, Q⟩ := E
  obtain ⟨d, rfl⟩ := d
  intro ls H locs hn hl2 hP hS
  exact lv_aload h.1 h.2.1 d (zk_lv_at hl2 hl) (kk ls H locs hn hl2 hP hS)
theorem zk_iload_n {k : Fin 4} {x : Int32} (h : zk_C v X E own cc dep) (hl : lv[(k : Nat)]? = some (some (.int x))) (d : zk_D cc pc pc' (.iload_n k) 1) (kk : zk_A v X E pc' lv (.int x :: st) I J) : zk_A v X E pc lv st I J := by
  obtain ⟨p, e, R, s, m, args, below, meth, c, cells, slots, Q⟩ := E
  obtain ⟨d, rfl⟩ := d
  intro ls H locs hn hl2 hP hS
  exact lv_iload_n h.1 h.2.1 d rfl (zk_lv_at hl2 hl) (kk ls H locs hn hl2 hP hS)
theorem zk_lload_n {k : Fin 4} {x : Int64} (h : zk_C v X E own cc dep) (hl : lv[(k : Nat)]? = some (some (.long x))) (d : zk_D cc pc pc' (.lload_n k) 1) (kk : zk_A v X E pc' lv (.long x :: st) I J) : zk_A v X E pc lv st I J := by
  obtain ⟨p, e, R, s, m, args, below, meth, c, cells, slots, Q⟩ := E
  obtain ⟨d, rfl⟩ := d
  intro ls H locs hn hl2 hP hS
  exact lv_lload_n h.1 h.2.1 d rfl (zk_lv_at hl2 hl) (kk ls H locs hn hl2 hP hS)
theorem zk_aload_n {k : Fin 4} {x : Nat} (h : zk_C v X E own cc dep) (hl : lv[(k : Nat)]? = some (some (.ref x))) (d : zk_D cc pc pc' (.aload_n k) 1) (kk : zk_A v X E pc' lv (.ref x :: st) I J) : zk_A v X E pc lv st I J := by
  obtain ⟨p, e, R, s, m, args, below, meth, c, cells, slots, Q⟩ := E
  obtain ⟨d, rfl⟩ := d
  intro ls H locs hn hl2 hP hS
  exact lv_aload_n h.1 h.2.1 d rfl (zk_lv_at hl2 hl) (kk ls H locs hn hl2 hP hS)
theorem zk_store1 {k : Nat} {x : Value} {i : Instr} {n : Nat} (hk : k < lv.length) (hp : k = 0 ∨ zk_n2 lv[k - 1]? = true) (kk : zk_A v X E (pc + n) (lv.set k (some x)) st I J)
    (rule : ∀ {p : Program} {e : Env} {R : Room} {s : State} {m : MethodId} {args : Array Value} {below : List Frame} {meth : Method} {c : Code} {cells slots : Nat} {Q : State → Prop} {ls : Array Slot} {H : Heap} {locs : List Loc}, E = (p, e, R, s, m, args, below, meth, c, cells, slots, Q) → lv_has ls c.maxLocals (zk_lv 0 lv) → k < c.maxLocals →
      (∀ ls', lv_has ls' c.maxLocals ((k, x) :: (zk_lv 0 lv).filter (fun q => !(q.1 == k) && !(q.1 + 1 == k && q.2.category == 2))) → W p X.1 e R s m args below meth c H locs cells slots Q (F0 m (pc + n) ls' st)) → W p X.1 e R s m args below meth c H locs cells slots Q (F0 m pc ls (x :: st))) : zk_A v X E pc lv (x :: st) I J := by
  obtain ⟨p, e, R, s, m, args, below, meth, c, cells, slots, Q⟩ := E
  intro ls H locs hn hl hP hS
  exact rule rfl hl (by rw [← hn]; exact hk) (fun ls' hl' => kk ls' H locs (by rw [List.length_set]; exact hn) (zk_lv_st1 hk hp hl') hP hS)
theorem zk_store2 {k : Nat} {x : Value} {i : Instr} {n : Nat} (hk : k + 1 < lv.length) (hp : k = 0 ∨ zk_n2 lv[k - 1]? = true) (kk : zk_A v X E (pc + n) ((lv.set k (some x)).set (k + 1) none) st I J)
    (rule : ∀ {p : Program} {e : Env} {R : Room} {s : State} {m : MethodId} {args : Array Value} {below : List Frame} {meth : Method} {c : Code} {cells slots : Nat} {Q : State → Prop} {ls : Array Slot} {H : Heap} {locs : List Loc}, E = (p, e, R, s, m, args, below, meth, c, cells, slots, Q) → lv_has ls c.maxLocals (zk_lv 0 lv) → k + 1 < c.maxLocals →
      (∀ ls', lv_has ls' c.maxLocals ((k, x) :: (zk_lv 0 lv).filter (fun q => !(q.1 == k) && (!(q.1 == k + 1) && !(q.1 + 1 == k && q.2.category == 2)))) → W p X.1 e R s m args below meth c H locs cells slots Q (F0 m (pc + n) ls' st)) → W p X.1 e R s m args below meth c H locs cells slots Q (F0 m pc ls (x :: st))) : zk_A v X E pc lv (x :: st) I J := by
  obtain ⟨p, e, R, s, m, args, below, meth, c, cells, slots, Q⟩ := E
  intro ls H locs hn hl hP hS
  exact rule rfl hl (by rw [← hn]; exact hk) (fun ls' hl' => kk ls' H locs (by rw [List.length_set, List.length_set]; exact hn) (zk_lv_st2 hk hp hl') hP hS)
theorem zk_istoreG {k : Nat} {x : Int32} (h : zk_C v X E own cc dep) (d : zk_D cc pc pc' (.istore k) 2) (hk : k < lv.length) (hp : k = 0 ∨ zk_n2 lv[k - 1]? = true) (kk : zk_A v X E pc' (lv.set k (some (.int x))) st I J) : zk_A v X E pc lv (.int x :: st) I J := by
  obtain ⟨d, rfl⟩ := d
  refine zk_store1 (i := .nop) (n := 2) hk hp kk ?_
  intro p e R s m args below meth c cells slots Q ls H locs hE hl hk' g
  subst hE
  exact lv_istore h.1 h.2.1 d hl hk' rfl g
theorem zk_istoreNG {k : Fin 4} {x : Int32} (h : zk_C v X E own cc dep) (d : zk_D cc pc pc' (.istore_n k) 1) (hk : (k : Nat) < lv.length) (hp : (k : Nat) = 0 ∨ zk_n2 lv[(k : Nat) - 1]? = true) (kk : zk_A v X E pc' (lv.set k (some (.int x))) st I J) : zk_A v X E pc lv (.int x :: st) I J := by
  obtain ⟨d, rfl⟩ := d
  refine zk_store1 (i := .nop) (n := 1) hk hp kk ?_
  intro p e R s m args below meth c cells slots Q ls H locs hE hl hk' g
  subst hE
  exact lv_istore_n h.1 h.2.1 d rfl hl hk' rfl g
theorem zk_astoreG {k : Nat} {x : Nat} (h : zk_C v X E own cc dep) (d : zk_D cc pc pc' (.astore k) 2) (hk : k < lv.length) (hp : k = 0 ∨ zk_n2 lv[k - 1]? = true) (kk : zk_A v X E pc' (lv.set k (some (.ref x))) st I J) : zk_A v X E pc lv (.ref x :: st) I J := by
  obtain ⟨d, rfl⟩ := d
  refine zk_store1 (i := .nop) (n := 2) hk hp kk ?_
  intro p e R s m args below meth c cells slots Q ls H locs hE hl hk' g
  subst hE
  exact lv_astore h.1 h.2.1 d hl hk' rfl g
theorem zk_astoreNG {k : Fin 4} {x : Nat} (h : zk_C v X E own cc dep) (d : zk_D cc pc pc' (.astore_n k) 1) (hk : (k : Nat) < lv.length) (hp : (k : Nat) = 0 ∨ zk_n2 lv[(k : Nat) - 1]? = true) (kk : zk_A v X E pc' (lv.set k (some (.ref x))) st I J) : zk_A v X E pc lv (.ref x :: st) I J := by
  obtain ⟨d, rfl⟩ := d
  refine zk_store1 (i := .nop) (n := 1) hk hp kk ?_
  intro p e R s m args below meth c cells slots Q ls H locs hE hl hk' g
  subst hE
  exact lv_astore_n h.1 h.2.1 d rfl hl hk' rfl g
theorem zk_lstoreG {k : Nat} {x : Int64} (h : zk_C v X E own cc dep) (d : zk_D cc pc pc' (.lstore k) 2) (hk : k + 1 < lv.length) (hp : k = 0 ∨ zk_n2 lv[k - 1]? = true) (kk : zk_A v X E pc' ((lv.set k (some (.long x))).set (k + 1) none) st I J) : zk_A v X E pc lv (.long x :: st) I J := by
  obtain ⟨d, rfl⟩ := d
  refine zk_store2 (i := .nop) (n := 2) hk hp kk ?_
  intro p e R s m args below meth c cells slots Q ls H locs hE hl hk' g
  subst hE
  exact lv_lstore h.1 h.2.1 d hl hk' rfl g
theorem zk_lstoreNG {k : Fin 4} {x : Int64} (h : zk_C v X E own cc dep) (d : zk_D cc pc pc' (.lstore_n k) 1) (hk : (k : Nat) + 1 < lv.length) (hp : (k : Nat) = 0 ∨ zk_n2 lv[(k : Nat) - 1]? = true) (kk : zk_A v X E pc' ((lv.set k (some (.long x))).set ((k : Nat) + 1) none) st I J) : zk_A v X E pc lv (.long x :: st) I J := by
  obtain ⟨d, rfl⟩ := d
  refine zk_store2 (i := .nop) (n := 1) hk hp kk ?_
  intro p e R s m args below meth c cells slots Q ls H locs hE hl hk' g
  subst hE
  exact lv_lstore_n h.1 h.2.1 d rfl hl hk' rfl g
theorem zk_iincG {k : Nat} {n : Int} {x : Int32} (h : zk_C v X E own cc dep) (d : zk_D cc pc pc' (.iinc k n) 3) (hx : lv[k]? = some (some (.int x))) (kk : zk_A v X E pc' (lv.set k (some (.int (x + Int32.ofInt n)))) st I J) : zk_A v X E pc lv st I J := by
  obtain ⟨p, e, R, s, m, args, below, meth, c, cells, slots, Q⟩ := E
  obtain ⟨d, rfl⟩ := d
  intro ls H locs hn hl hP hS
  have hk : k < lv.length := (List.getElem?_eq_some_iff.mp hx).1
  obtain ⟨j, hj⟩ := List.getElem?_of_mem (zk_lv_in lv 0 k _ hx)
  rw [Nat.zero_add] at hj
  refine lv_iinc h.1 h.2.1 d hl hj rfl (by rw [← hn]; exact hk) rfl (fun ls' hl' => kk ls' H locs (by rw [List.length_set]; exact hn) (zk_lv_st1 hk ?_ hl') hP hS)
  by_cases h0 : k = 0
  · exact Or.inl h0
  · right
    cases hz : lv[k - 1]? with
    | none => rfl
    | some o =>
      cases o with
      | none => rfl
      | some y =>
        have hy := zk_lv_at hl hz
        have hx2 := zk_lv_at hl hx
        by_cases hc : y.category = 2
        · have := hl.2.1.1 _ _ hy hc
          rw [show k - 1 + 1 = k by omega, hx2] at this
          cases this
        · simp [zk_n2, hc]
/-- a field's link: the class's own word, or a nest mate's -/
abbrev zk_fl (own : String) (idx ci j : Nat) (C : String) (T : u_T) (n : Nat) : Prop := zk_cl[ci]? = some (C, T, n) ∧ j < n ∧ (∀ w ∈ u_ws C T n, w ∈ zk_ws) ∧ (T j).1 = C ∧ (Cond.fieldLink own idx C (T j).2.1 (T j).2.2.1 ∈ zk_ws ∨ Cond.fieldLinkNest own idx C (T j).2.1 (T j).2.2.1 zk_host ∈ zk_nest)
theorem zk_getv {ci j idx k n : Nat} {C : String} {T : u_T} {fs : List (Option Nat)} {x : Value} (h : zk_C v X E own cc dep) (hf : zk_fl own idx ci j C T n) (hk : k < zk_N v) (hs : zk_sh v k = .inr (.inl (ci, fs))) (hx : (zk_fv X I k 0 fs)[j]? = some x) (d : zk_D cc pc pc' (.getfield idx) 3) (kk : zk_A v X E pc' lv (x :: st) I J) : zk_A v X E pc lv (.ref (zk_ad X k) :: st) I J := by
  obtain ⟨p, e, R, s, m, args, below, meth, c, cells, slots, Q⟩ := E
  obtain ⟨d, rfl⟩ := d
  obtain ⟨f1, f2, f3, f4, f5⟩ := hf
  intro ls H locs hn hl hP hS
  have hw : (zk_w v X I J)[k]? = some (zk_ad X k, .inr (ci, zk_fv X I k 0 fs)) := by rw [zk_w_get hk, hs]; rfl
  rcases f5 with f5 | f5
  · exact va_get h.1 h.2.1 h.2.2.2.1 f3 h.2.2.1 h.2.2.2.2.1.1 hP k hw f1 j f2 (h.2.2.2.1 _ f5) (fun x hx => by rw [f4] at hx; exact hx) hx d (kk ls H locs hn hl hP hS)
  · exact va_getN h.1 h.2.1 h.2.2.2.1 f3 h.2.2.1 h.2.2.2.2.1.1 hP k hw f1 j f2 (va_Nw.use rfl (h.2.2.2.2.1.2.2.1 _ f5)) (fun x hx => by rw [f4] at hx; exact hx) hx d (kk ls H locs hn hl hP hS)
theorem zk_geti {ci j idx k n : Nat} {C : String} {T : u_T} {fs : List (Option Nat)} (h : zk_C v X E own cc dep) (hf : zk_fl own idx ci j C T n) (hk : k < zk_N v) (hs : zk_sh v k = .inr (.inl (ci, fs))) (hx : fs[j]? = some none) (d : zk_D cc pc pc' (.getfield idx) 3) (kk : zk_A v X E pc' lv (.int (I k j) :: st) I J) : zk_A v X E pc lv (.ref (zk_ad X k) :: st) I J :=
  zk_getv h hf hk hs (by rw [zk_fv_i fs 0 j hx, Nat.zero_add]) d kk
theorem zk_getr {ci j idx k n q : Nat} {C : String} {T : u_T} {fs : List (Option Nat)} (h : zk_C v X E own cc dep) (hf : zk_fl own idx ci j C T n) (hk : k < zk_N v) (hs : zk_sh v k = .inr (.inl (ci, fs))) (hx : fs[j]? = some (some q)) (d : zk_D cc pc pc' (.getfield idx) 3) (kk : zk_A v X E pc' lv (.ref (zk_ad X q) :: st) I J) : zk_A v X E pc lv (.ref (zk_ad X k) :: st) I J :=
  zk_getv h hf hk hs (zk_fv_r fs 0 j hx) d kk
/-- a field that may be written -/
abbrev zk_fp (C : String) (T : u_T) (n j : Nat) (ty0 : Nat → FieldType) : Prop := (∀ k, k < n → parseFieldDescriptor (T k).2.2.1 = some (ty0 k)) ∧ (∀ a, a < n → ∀ b, b < n → a ≠ b → (T a).2.1 ≠ (T b).2.1) ∧ (T j).2.2.2 = false
theorem zk_puti {ci j idx k n : Nat} {C : String} {T : u_T} {ty0 : Nat → FieldType} {fs : List (Option Nat)} {x : Int32} (h : zk_C v X E own cc dep) (hf : zk_fl own idx ci j C T n) (hp : zk_fp C T n j ty0) (hk : k < zk_N v) (hs : zk_sh v k = .inr (.inl (ci, fs))) (hx : fs[j]? = some none) (hnr : narrow (ty0 j) (.int x) = .int x) (hft : fits (ty0 j) (.int x) = true) (d : zk_D cc pc pc' (.putfield idx) 3) (kk : zk_A v X E pc' lv st (zk_u I k (upd (I k) j x)) J) : zk_A v X E pc lv (.int x :: .ref (zk_ad X k) :: st) I J := by
  obtain ⟨p, e, R, s, m, args, below, meth, c, cells, slots, Q⟩ := E
  obtain ⟨d, rfl⟩ := d
  obtain ⟨f1, f2, f3, f4, f5⟩ := hf
  obtain ⟨p1, p2, p3⟩ := hp
  intro ls H locs hn hl hP hS
  have hw : (zk_w v X I J)[k]? = some (zk_ad X k, .inr (ci, zk_fv X I k 0 fs)) := by rw [zk_w_get hk, hs]; rfl
  have hj : j < fs.length := (List.getElem?_eq_some_iff.mp hx).1
  have hset : (zk_w v X I J).set k (zk_ad X k, .inr (ci, (zk_fv X I k 0 fs).set j (.int x))) = zk_w v X (zk_u I k (upd (I k) j x)) J := by
    rw [zk_fv_set fs 0 j hx, Nat.zero_add]
    exact zk_w_set (x := .inr (.inl (ci, fs))) hk (fun a ha => zk_u_n ha) (fun _ _ => rfl) hs
  rcases f5 with f5 | f5
  · refine va_put h.1 h.2.1 h.2.2.2.1 f3 ty0 p1 p2 h.2.2.1 h.2.2.2.2.1.1 hP (h.2.2.2.2.1.2.2.2.2 I J) hS k hw f1 j f2 (h.2.2.2.1 _ f5) (fun x hx => by rw [f4] at hx; exact hx) p3 (p1 j f2) hnr hft (by rw [zk_fv_len]; exact hj) d (fun H1 locs1 hP1 hD1 hS1 => kk ls H1 locs1 hn hl (by rw [← hset]; exact hP1) hS1)
  · refine va_putN h.1 h.2.1 h.2.2.2.1 f3 ty0 p1 p2 h.2.2.1 h.2.2.2.2.1.1 hP (h.2.2.2.2.1.2.2.2.2 I J) hS k hw f1 j f2 (va_Nw.use rfl (h.2.2.2.2.1.2.2.1 _ f5)) (fun x hx => by rw [f4] at hx; exact hx) p3 (p1 j f2) hnr hft (by rw [zk_fv_len]; exact hj) d (fun H1 locs1 hP1 hD1 hS1 => kk ls H1 locs1 hn hl (by rw [← hset]; exact hP1) hS1)
theorem zk_iald {k n : Nat} {i : Int32} (h : zk_C v X E own cc dep) (hk : k < zk_N v) (hs : zk_sh v k = .inl (0, n)) (hi : vp_in i n) (d : zk_D cc pc pc' .iaload 1) (kk : zk_A v X E pc' lv (.int (I k i.toNatClampNeg) :: st) I J) : zk_A v X E pc lv (.int i :: .ref (zk_ad X k) :: st) I J := by
  obtain ⟨p, e, R, s, m, args, below, meth, c, cells, slots, Q⟩ := E
  obtain ⟨d, rfl⟩ := d
  intro ls H locs hn hl hP hS
  have hw : (zk_w v X I J)[k]? = some (zk_ad X k, .inl (X.2.2.2.1 0, n, .inl (I k))) := by rw [zk_w_get hk, hs]; rfl
  exact va_iald h.1 h.2.1 h.2.2.2.2.1.1 hP k 0 hw rfl hi d (kk ls H locs hn hl hP hS)
theorem zk_bald {k n : Nat} {i : Int32} (h : zk_C v X E own cc dep) (hk : k < zk_N v) (hs : zk_sh v k = .inl (1, n)) (hi : vp_in i n) (d : zk_D cc pc pc' .baload 1) (kk : zk_A v X E pc' lv (.int (I k i.toNatClampNeg) :: st) I J) : zk_A v X E pc lv (.int i :: .ref (zk_ad X k) :: st) I J := by
  obtain ⟨p, e, R, s, m, args, below, meth, c, cells, slots, Q⟩ := E
  obtain ⟨d, rfl⟩ := d
  intro ls H locs hn hl hP hS
  have hw : (zk_w v X I J)[k]? = some (zk_ad X k, .inl (X.2.2.2.1 1, n, .inl (I k))) := by rw [zk_w_get hk, hs]; rfl
  exact va_bald h.1 h.2.1 h.2.2.2.2.1.1 hP k 1 hw rfl hi d (kk ls H locs hn hl hP hS)
theorem zk_lald {k n : Nat} {i : Int32} (h : zk_C v X E own cc dep) (hk : k < zk_N v) (hs : zk_sh v k = .inl (2, n)) (hi : vp_in i n) (d : zk_D cc pc pc' .laload 1) (kk : zk_A v X E pc' lv (.long (J k i.toNatClampNeg) :: st) I J) : zk_A v X E pc lv (.int i :: .ref (zk_ad X k) :: st) I J := by
  obtain ⟨p, e, R, s, m, args, below, meth, c, cells, slots, Q⟩ := E
  obtain ⟨d, rfl⟩ := d
  intro ls H locs hn hl hP hS
  have hw : (zk_w v X I J)[k]? = some (zk_ad X k, .inl (X.2.2.2.1 2, n, .inr (.inl (J k)))) := by rw [zk_w_get hk, hs]; rfl
  exact va_lald h.1 h.2.1 h.2.2.2.2.1.1 hP k 2 hw rfl hi d (kk ls H locs hn hl hP hS)
theorem zk_iast {k n : Nat} {i x : Int32} (h : zk_C v X E own cc dep) (hk : k < zk_N v) (hs : zk_sh v k = .inl (0, n)) (hi : vp_in i n) (d : zk_D cc pc pc' .iastore 1) (kk : zk_A v X E pc' lv st (zk_u I k (upd (I k) i.toNatClampNeg x)) J) : zk_A v X E pc lv (.int x :: .int i :: .ref (zk_ad X k) :: st) I J := by
  obtain ⟨p, e, R, s, m, args, below, meth, c, cells, slots, Q⟩ := E
  obtain ⟨d, rfl⟩ := d
  intro ls H locs hn hl hP hS
  have hw : (zk_w v X I J)[k]? = some (zk_ad X k, .inl (X.2.2.2.1 0, n, .inl (I k))) := by rw [zk_w_get hk, hs]; rfl
  have hset : (zk_w v X I J).set k (zk_ad X k, .inl (X.2.2.2.1 0, n, .inl (upd (I k) i.toNatClampNeg x))) = zk_w v X (zk_u I k (upd (I k) i.toNatClampNeg x)) J := by
    have := zk_w_set (v := v) (X := X) (I := I) (I' := zk_u I k (upd (I k) i.toNatClampNeg x)) (J := J) (J' := J) (x := .inl (0, n)) hk (fun a ha => zk_u_n ha) (fun _ _ => rfl) hs
    simpa only [zk_e, zk_u_s] using this
  exact va_iast h.1 h.2.1 h.2.2.2.2.1.1 hP (h.2.2.2.2.1.2.2.2.2 I J) hS k 0 hw rfl hi d (fun H1 locs1 hP1 hD1 hS1 => kk ls H1 locs1 hn hl (by rw [← hset]; exact hP1) hS1)
theorem zk_bast {k n : Nat} {i x : Int32} (h : zk_C v X E own cc dep) (hk : k < zk_N v) (hs : zk_sh v k = .inl (1, n)) (hi : vp_in i n) (d : zk_D cc pc pc' .bastore 1) (kk : zk_A v X E pc' lv st (zk_u I k (upd (I k) i.toNatClampNeg x.toInt8.toInt32)) J) : zk_A v X E pc lv (.int x :: .int i :: .ref (zk_ad X k) :: st) I J := by
  obtain ⟨p, e, R, s, m, args, below, meth, c, cells, slots, Q⟩ := E
  obtain ⟨d, rfl⟩ := d
  intro ls H locs hn hl hP hS
  have hw : (zk_w v X I J)[k]? = some (zk_ad X k, .inl (X.2.2.2.1 1, n, .inl (I k))) := by rw [zk_w_get hk, hs]; rfl
  have hset : (zk_w v X I J).set k (zk_ad X k, .inl (X.2.2.2.1 1, n, .inl (upd (I k) i.toNatClampNeg (vp_nar .byte x)))) = zk_w v X (zk_u I k (upd (I k) i.toNatClampNeg x.toInt8.toInt32)) J := by
    have := zk_w_set (v := v) (X := X) (I := I) (I' := zk_u I k (upd (I k) i.toNatClampNeg x.toInt8.toInt32)) (J := J) (J' := J) (x := .inl (1, n)) hk (fun a ha => zk_u_n ha) (fun _ _ => rfl) hs
    rw [vp_nar_byte]
    simpa only [zk_e, zk_u_s] using this
  exact va_bast h.1 h.2.1 h.2.2.2.2.1.1 hP (h.2.2.2.2.1.2.2.2.2 I J) hS k 1 hw rfl hi d (fun H1 locs1 hP1 hD1 hS1 => kk ls H1 locs1 hn hl (by rw [← hset]; exact hP1) hS1)
theorem zk_last {k n : Nat} {i : Int32} {x : Int64} (h : zk_C v X E own cc dep) (hk : k < zk_N v) (hs : zk_sh v k = .inl (2, n)) (hi : vp_in i n) (d : zk_D cc pc pc' .lastore 1) (kk : zk_A v X E pc' lv st I (zk_u J k (vp_updL (J k) i.toNatClampNeg x))) : zk_A v X E pc lv (.long x :: .int i :: .ref (zk_ad X k) :: st) I J := by
  obtain ⟨p, e, R, s, m, args, below, meth, c, cells, slots, Q⟩ := E
  obtain ⟨d, rfl⟩ := d
  intro ls H locs hn hl hP hS
  have hw : (zk_w v X I J)[k]? = some (zk_ad X k, .inl (X.2.2.2.1 2, n, .inr (.inl (J k)))) := by rw [zk_w_get hk, hs]; rfl
  have hset : (zk_w v X I J).set k (zk_ad X k, .inl (X.2.2.2.1 2, n, .inr (.inl (vp_updL (J k) i.toNatClampNeg x)))) = zk_w v X I (zk_u J k (vp_updL (J k) i.toNatClampNeg x)) := by
    have := zk_w_set (v := v) (X := X) (I := I) (I' := I) (J := J) (J' := zk_u J k (vp_updL (J k) i.toNatClampNeg x)) (x := .inl (2, n)) hk (fun _ _ => rfl) (fun a ha => zk_u_n ha) hs
    simpa only [zk_e, zk_u_s] using this
  exact va_last h.1 h.2.1 h.2.2.2.2.1.1 hP (h.2.2.2.2.1.2.2.2.2 I J) hS k 2 hw rfl hi d (fun H1 locs1 hP1 hD1 hS1 => kk ls H1 locs1 hn hl (by rw [← hset]; exact hP1) hS1)
theorem zk_aald {k n t p0 : Nat} {ty : FieldType} {i : Int32} (h : zk_C v X E own cc dep) (hk : k < zk_N v) (hs : zk_sh v k = .inr (.inr (t, n, p0))) (ht : (zk_tys X)[t]? = some (X.2.2.2.1 t, ty)) (hr : ty.isReference = true) (hi : vp_in i n) (d : zk_D cc pc pc' .aaload 1) (kk : zk_A v X E pc' lv (.ref (zk_ad X (p0 + i.toNatClampNeg)) :: st) I J) : zk_A v X E pc lv (.int i :: .ref (zk_ad X k) :: st) I J := by
  obtain ⟨p, e, R, s, m, args, below, meth, c, cells, slots, Q⟩ := E
  obtain ⟨d, rfl⟩ := d
  intro ls H locs hn hl hP hS
  have hw : (zk_w v X I J)[k]? = some (zk_ad X k, .inl (X.2.2.2.1 t, n, .inr (.inr (.inr (.inr fun i => some (zk_ad X (p0 + i))))))) := by rw [zk_w_get hk, hs]; rfl
  have hlt : i.toNatClampNeg < n := Nat.not_le.mp fun q => hi (Or.inr q)
  exact W.aald (v := .ref (zk_ad X (p0 + i.toNatClampNeg))) (ty := ty) h.1 h.2.1 (hP k _ hw) ((h.2.2.2.2.1.1.2 t _ ht).1 n (fun j => va_rf (some (zk_ad X (p0 + j))))) hr (fun q => by cases q) (by show ¬ (i < 0 ∨ (arrV _ _ _).slots.size ≤ _); rw [arrV_size]; exact hi) (by show (arrV _ _ _).slots[_]? = _; rw [arrV_read _ _ hlt]; rfl) rfl rfl d (kk ls H locs hn hl hP hS)
theorem zk_alen {k n t : Nat} (h : zk_C v X E own cc dep) (hk : k < zk_N v) (hs : zk_sh v k = .inl (t, n)) (ht : t < 3) (d : zk_D cc pc pc' .arraylength 1) (kk : zk_A v X E pc' lv (.int (nI n) :: st) I J) : zk_A v X E pc lv (.ref (zk_ad X k) :: st) I J := by
  obtain ⟨p, e, R, s, m, args, below, meth, c, cells, slots, Q⟩ := E
  obtain ⟨d, rfl⟩ := d
  intro ls H locs hn hl hP hS
  have hw := zk_w_get (v := v) (X := X) (I := I) (J := J) hk
  rw [hs] at hw
  match t, ht with
  | 0, _ => exact W.alen (n := nI n) h.1 h.2.1 (hP k _ hw) ((h.2.2.2.2.1.1.2 0 _ rfl).1 n (fun j => .int (I k j))) (by show (arrV _ _ _).slots.size.toInt32 = _; rw [arrV_size]; rfl) rfl rfl d (kk ls H locs hn hl hP hS)
  | 1, _ => exact W.alen (n := nI n) h.1 h.2.1 (hP k _ hw) ((h.2.2.2.2.1.1.2 1 _ rfl).1 n (fun j => .int (I k j))) (by show (arrV _ _ _).slots.size.toInt32 = _; rw [arrV_size]; rfl) rfl rfl d (kk ls H locs hn hl hP hS)
  | 2, _ => exact W.alen (n := nI n) h.1 h.2.1 (hP k _ hw) ((h.2.2.2.2.1.1.2 2 _ rfl).1 n (fun j => .long (J k j))) (by show (arrV _ _ _).slots.size.toInt32 = _; rw [arrV_size]; rfl) rfl rfl d (kk ls H locs hn hl hP hS)
/-- static arrays -/
theorem zk_gets {idx j : Nat} {q : String × String × String × FieldType × Nat × (Nat → Value)} (h : zk_C v X E own cc dep) (hq : zk_stats[j]? = some q) (hlk : Cond.fieldLink own idx q.1 q.2.1 q.2.2.1 ∈ zk_ws ∨ Cond.fieldLinkNest own idx q.1 q.2.1 q.2.2.1 zk_host ∈ zk_nest) (d : zk_D cc pc pc' (.getstatic idx) 3) (kk : zk_A v X E pc' lv (.ref (zk_sa X j) :: st) I J) : zk_A v X E pc lv st I J := by
  obtain ⟨p, e, R, s, m, args, below, meth, c, cells, slots, Q⟩ := E
  obtain ⟨d, rfl⟩ := d
  intro ls H locs hn hl hP hS
  rcases hlk with hlk | hlk
  · exact va_gets h.1 h.2.1 (h.2.2.2.2.1.2.1 j q hq).1 hS h.2.2.1 (h.2.2.2.1 _ hlk) (fun _ h9 => h9) d (kk ls H locs hn hl hP hS)
  · exact va_getsN h.1 h.2.1 (h.2.2.2.2.1.2.1 j q hq).1 hS h.2.2.1 (va_Nw.use rfl (h.2.2.2.2.1.2.2.1 _ hlk)) (fun _ h9 => h9) d (kk ls H locs hn hl hP hS)
theorem zk_ti {j n : Nat} {C nm ds : String} {f : Nat → Value} {i : Int32} {x : Value} (h : zk_C v X E own cc dep) (hq : zk_stats[j]? = some (C, nm, ds, .int, n, f)) (hi : vp_in i n) (hx : f i.toNatClampNeg = x) (d : zk_D cc pc pc' .iaload 1) (kk : zk_A v X E pc' lv (x :: st) I J) : zk_A v X E pc lv (.int i :: .ref (zk_sa X j) :: st) I J := by
  obtain ⟨p, e, R, s, m, args, below, meth, c, cells, slots, Q⟩ := E
  obtain ⟨d, rfl⟩ := d
  intro ls H locs hn hl hP hS
  exact va_ti h.1 h.2.1 (h.2.2.2.2.1.2.1 j _ hq).2 hS hi hx d (kk ls H locs hn hl hP hS)
theorem zk_tl {j n : Nat} {C nm ds : String} {f : Nat → Value} {i : Int32} {x : Value} (h : zk_C v X E own cc dep) (hq : zk_stats[j]? = some (C, nm, ds, .long, n, f)) (hi : vp_in i n) (hx : f i.toNatClampNeg = x) (d : zk_D cc pc pc' .laload 1) (kk : zk_A v X E pc' lv (x :: st) I J) : zk_A v X E pc lv (.int i :: .ref (zk_sa X j) :: st) I J := by
  obtain ⟨p, e, R, s, m, args, below, meth, c, cells, slots, Q⟩ := E
  obtain ⟨d, rfl⟩ := d
  intro ls H locs hn hl hP hS
  exact va_tl h.1 h.2.1 (h.2.2.2.2.1.2.1 j _ hq).2 hS hi hx d (kk ls H locs hn hl hP hS)
/-- calls -/
theorem zk_run {r : Option Value} {a : Array Value} {p : Program} {e : Env} {R : Room} {s : State} {m : MethodId} {args : Array Value} {below : List Frame} {meth : Method} {c : Code} {cells slots : Nat} {Q : State → Prop} {ls : Array Slot} {H : Heap} {locs : List Loc} {st0 rest : List Value}
    (hr : va_Run p X.1 e R s m args below meth c H locs cells slots 0 0 (F0 m pc ls st0) rest (zk_Q v X r I' J' a) (fun q => X.2.1 ≤ q)) (hS : va_S (fun q => X.2.1 ≤ q) s.heap H locs)
    (kk : ∀ (H1 : Heap) (locs1 : List Loc), va_P X.2.2.1 zk_cl (zk_w v X I' J') H1 → va_S (fun q => X.2.1 ≤ q) s.heap H1 locs1 → W p X.1 e R s m args below meth c H1 locs1 cells slots Q (F0 m (pc + 3) ls (r.toList ++ rest))) : W p X.1 e R s m args below meth c H locs cells slots Q (F0 m pc ls st0) := by
  intro T hT Y
  obtain ⟨x, st₀, t, T', L, h0, X', hL, e1, e2, ⟨hv, hP, hz, hk⟩, go⟩ := hr T hT Y
  cases hv
  rw [h0] at hz hk
  obtain ⟨t2, a1, b1⟩ := kk T'.heap (locs ++ L) (by rw [e1]; exact hP) ⟨Nat.le_trans hS.1 (by rw [e1]; exact hz), fun q h1 h2 => by rw [e1, hk q (Nat.lt_of_lt_of_le h1 hS.1) h2]; exact hS.2.1 q h1 h2, fun q hq => by
      rcases List.mem_append.mp hq with h | h
      · exact hS.2.2 q h
      · exact hL q h⟩ T' rfl X'
  exact ⟨t2, go t2 a1, b1⟩
abbrev zk_ml (own : String) (idx : Nat) (y : MethodName) : Prop := Cond.methodLink own idx y ∈ zk_ws ∨ Cond.methodLinkNest own idx y zk_host ∈ zk_nest
/-- what a method is: an instance's, a static one -/
abbrev zk_mi (y : MethodName) (b : ByteArray) (maxL : Nat) (ret : Option FieldType) (n : Nat) : Prop := Cond.instanceMethod y ∈ zk_ws ∧ Cond.selects y.cls y y ∈ zk_ws ∧ Cond.initialized y.cls ∈ zk_ws ∧ Cond.code y b maxL ret ∈ zk_ws ∧ (y.cls ≠ "java/lang/invoke/MethodHandle" ∧ y.cls ≠ "java/lang/invoke/VarHandle" ∧ (parseMethodDescriptor y.desc).map (fun d => d.parameters.length) = some n)
abbrev zk_ms (y : MethodName) (b : ByteArray) (maxL : Nat) (ret : Option FieldType) (n : Nat) : Prop := Cond.static y ∈ zk_ws ∧ Cond.initialized y.cls ∈ zk_ws ∧ Cond.code y b maxL ret ∈ zk_ws ∧ (y.cls ≠ "java/lang/invoke/MethodHandle" ∧ y.cls ≠ "java/lang/invoke/VarHandle" ∧ (parseMethodDescriptor y.desc).map (fun d => d.parameters.length) = some n)
theorem zk_callV {idx k ci n maxL : Nat} {dy : Nat × Nat} {y : MethodName} {b : ByteArray} {ret : Option FieldType} {fs : List (Option Nat)} {as rest : List Value} {r : Option Value} (h : zk_C v X E own cc dep) (hl : zk_ml own idx y) (hi : zk_mi y b maxL ret n) (hM : zk_M v X y b maxL ret dy (.ref (zk_ad X k) :: as) I J r I' J') (hd : dy.1 + 1 ≤ dep.1 ∧ 8 + (maxL + 11) + dy.2 ≤ dep.2) (hk : k < zk_N v) (hs : zk_sh v k = .inr (.inl (ci, fs))) (hc : (zk_cl[ci]?).map (fun q => q.1) = some y.cls) (hn : as.length = n) (hst : st = as.reverse ++ .ref (zk_ad X k) :: rest) (hcat : (rest.map fun v => v.category).sum ≤ 8) (d : zk_D cc pc pc' (.invokevirtual idx) 3) (kk : zk_A v X E pc' lv (r.toList ++ rest) I' J') : zk_A v X E pc lv st I J := by
  obtain ⟨p, e, R, s, m, args, below, meth, c, cells, slots, Q⟩ := E
  obtain ⟨d, rfl⟩ := d
  subst hst
  obtain ⟨i1, i2, i3, i4, i5⟩ := hi
  obtain ⟨c1, c2, c3, c4, c5, c6, c7, c8, c9⟩ := h
  intro ls H locs hnl hll hP hS
  have hw : (zk_w v X I J)[k]? = some (zk_ad X k, .inr (ci, zk_fv X I k 0 fs)) := by rw [zk_w_get hk, hs]; rfl
  have hR : (zk_rm dy).frames + 1 ≤ R.frames ∧ 8 + (maxL + 11) + (zk_rm dy).locals ≤ R.locals := by
    exact ⟨Nat.le_trans hd.1 c6, Nat.le_trans hd.2 c7⟩
  have hp : PreV s H y.cls (zk_ad X k) (va_Pc (.ref (zk_ad X k) :: as) (fun U => zk_G v X U ∧ va_P X.2.2.1 zk_cl (zk_w v X I J) U.heap)) as := by
    refine ⟨fun a U g mk q => ⟨q.1, q.2.1.blind, q.2.2⟩, ?_, fun U hU hW => ⟨rfl, c5.go hU hS hW, by rw [hU]; exact hP⟩⟩
    cases hq : zk_cl[ci]? with
    | none => rw [hq] at hc; cases hc
    | some q =>
      rw [hq] at hc
      have := va_recv c5.1 hP hq hw
      rw [show q.1 = y.cls from Option.some.inj hc] at this
      exact this
  rcases hl with hl | hl
  · refine zk_run (va_runV (cc := cc) (nL := c.maxLocals) (Ts := zk_ws) ⟨c1, c2, rfl, c3, c4⟩ hM ⟨callB_of n c4 (zk_goodIn i4) rfl rfl rfl (c4 _ i3) (c4 _ hl) i5 hR, c4 _ i1, c4 _ i2⟩ hp rfl hn hll.1 rfl (lv_room hcat) d ⟨c8, c9⟩) hS (fun H1 locs1 hP1 hS1 => kk ls H1 locs1 hnl hll hP1 hS1)
  · refine zk_run (va_runVN (cc := cc) (nL := c.maxLocals) (Ts := zk_ws) ⟨c1, c2, rfl, c3, c4⟩ hM ⟨va_cnB n c4 (zk_goodIn i4) rfl rfl rfl (c5.2.2.1 _ hl) (c4 _ i3) i5 hR, c4 _ i1, c4 _ i2⟩ hp rfl hn hll.1 rfl (lv_room hcat) d ⟨c8, c9⟩) hS (fun H1 locs1 hP1 hS1 => kk ls H1 locs1 hnl hll hP1 hS1)
theorem zk_callS {idx n maxL : Nat} {dy : Nat × Nat} {y : MethodName} {b : ByteArray} {ret : Option FieldType} {as rest : List Value} {r : Option Value} (h : zk_C v X E own cc dep) (hl : zk_ml own idx y) (hi : zk_ms y b maxL ret n) (hM : zk_M v X y b maxL ret dy as I J r I' J') (hd : dy.1 + 1 ≤ dep.1 ∧ 8 + (maxL + 11) + dy.2 ≤ dep.2) (hn : as.length = n) (hst : st = as.reverse ++ rest) (hcat : (rest.map fun v => v.category).sum ≤ 8) (d : zk_D cc pc pc' (.invokestatic idx) 3) (kk : zk_A v X E pc' lv (r.toList ++ rest) I' J') : zk_A v X E pc lv st I J := by
  obtain ⟨p, e, R, s, m, args, below, meth, c, cells, slots, Q⟩ := E
  obtain ⟨d, rfl⟩ := d
  subst hst
  obtain ⟨i1, i3, i4, i5⟩ := hi
  obtain ⟨c1, c2, c3, c4, c5, c6, c7, c8, c9⟩ := h
  intro ls H locs hnl hll hP hS
  have hR : (zk_rm dy).frames + 1 ≤ R.frames ∧ 8 + (maxL + 11) + (zk_rm dy).locals ≤ R.locals := by
    exact ⟨Nat.le_trans hd.1 c6, Nat.le_trans hd.2 c7⟩
  have hp : PreS s H (va_Pc as (fun U => zk_G v X U ∧ va_P X.2.2.1 zk_cl (zk_w v X I J) U.heap)) as :=
    ⟨fun a U g mk q => ⟨q.1, q.2.1.blind, q.2.2⟩, fun U hU hW => ⟨rfl, c5.go hU hS hW, by rw [hU]; exact hP⟩⟩
  rcases hl with hl | hl
  · refine zk_run (va_runS (cc := cc) (nL := c.maxLocals) (Ts := zk_ws) ⟨c1, c2, rfl, c3, c4⟩ hM ⟨callB_of n c4 (zk_goodIn i4) rfl rfl rfl (c4 _ i3) (c4 _ hl) i5 hR, c4 _ i1⟩ hp rfl hn hll.1 rfl (lv_room hcat) d ⟨c8, c9⟩) hS (fun H1 locs1 hP1 hS1 => kk ls H1 locs1 hnl hll hP1 hS1)
  · refine zk_run (va_runSN (cc := cc) (nL := c.maxLocals) (Ts := zk_ws) ⟨c1, c2, rfl, c3, c4⟩ hM ⟨va_cnB n c4 (zk_goodIn i4) rfl rfl rfl (c5.2.2.1 _ hl) (c4 _ i3) i5 hR, c4 _ i1, trivial⟩ hp rfl hn hll.1 rfl (lv_room hcat) d ⟨c8, c9⟩) hS (fun H1 locs1 hP1 hS1 => kk ls H1 locs1 hnl hll hP1 hS1)
theorem zk_callS0 {idx n maxL : Nat} {dy : Nat × Nat} {y : MethodName} {b : ByteArray} {ret : Option FieldType} {as rest : List Value} (h : zk_C v X E own cc dep) (hl : zk_ml own idx y) (hi : zk_ms y b maxL ret n) (hM : zk_M v X y b maxL ret dy as I J none I' J') (hd : dy.1 + 1 ≤ dep.1 ∧ 8 + (maxL + 11) + dy.2 ≤ dep.2) (hn : as.length = n) (hst : st = as.reverse ++ rest) (hcat : (rest.map fun v => v.category).sum ≤ 8) (d : zk_D cc pc pc' (.invokestatic idx) 3) (kk : zk_A v X E pc' lv rest I' J') : zk_A v X E pc lv st I J := zk_callS h hl hi hM hd hn hst hcat d kk
theorem zk_callS1 {idx n maxL : Nat} {dy : Nat × Nat} {y : MethodName} {b : ByteArray} {ret : Option FieldType} {as rest : List Value} {x : Value} (h : zk_C v X E own cc dep) (hl : zk_ml own idx y) (hi : zk_ms y b maxL ret n) (hM : zk_M v X y b maxL ret dy as I J (some x) I' J') (hd : dy.1 + 1 ≤ dep.1 ∧ 8 + (maxL + 11) + dy.2 ≤ dep.2) (hn : as.length = n) (hst : st = as.reverse ++ rest) (hcat : (rest.map fun v => v.category).sum ≤ 8) (d : zk_D cc pc pc' (.invokestatic idx) 3) (kk : zk_A v X E pc' lv (x :: rest) I' J') : zk_A v X E pc lv st I J := zk_callS h hl hi hM hd hn hst hcat d kk
theorem zk_callV0 {idx k ci n maxL : Nat} {dy : Nat × Nat} {y : MethodName} {b : ByteArray} {ret : Option FieldType} {fs : List (Option Nat)} {as rest : List Value} (h : zk_C v X E own cc dep) (hl : zk_ml own idx y) (hi : zk_mi y b maxL ret n) (hM : zk_M v X y b maxL ret dy (.ref (zk_ad X k) :: as) I J none I' J') (hd : dy.1 + 1 ≤ dep.1 ∧ 8 + (maxL + 11) + dy.2 ≤ dep.2) (hk : k < zk_N v) (hs : zk_sh v k = .inr (.inl (ci, fs))) (hc : (zk_cl[ci]?).map (fun q => q.1) = some y.cls) (hn : as.length = n) (hst : st = as.reverse ++ .ref (zk_ad X k) :: rest) (hcat : (rest.map fun v => v.category).sum ≤ 8) (d : zk_D cc pc pc' (.invokevirtual idx) 3) (kk : zk_A v X E pc' lv rest I' J') : zk_A v X E pc lv st I J := zk_callV h hl hi hM hd hk hs hc hn hst hcat d kk
theorem zk_callV1 {idx k ci n maxL : Nat} {dy : Nat × Nat} {y : MethodName} {b : ByteArray} {ret : Option FieldType} {fs : List (Option Nat)} {as rest : List Value} {x : Value} (h : zk_C v X E own cc dep) (hl : zk_ml own idx y) (hi : zk_mi y b maxL ret n) (hM : zk_M v X y b maxL ret dy (.ref (zk_ad X k) :: as) I J (some x) I' J') (hd : dy.1 + 1 ≤ dep.1 ∧ 8 + (maxL + 11) + dy.2 ≤ dep.2) (hk : k < zk_N v) (hs : zk_sh v k = .inr (.inl (ci, fs))) (hc : (zk_cl[ci]?).map (fun q => q.1) = some y.cls) (hn : as.length = n) (hst : st = as.reverse ++ .ref (zk_ad X k) :: rest) (hcat : (rest.map fun v => v.category).sum ≤ 8) (d : zk_D cc pc pc' (.invokevirtual idx) 3) (kk : zk_A v X E pc' lv (x :: rest) I' J') : zk_A v X E pc lv st I J := zk_callV h hl hi hM hd hk hs hc hn hst hcat d kk
/-- returns -/
theorem zk_iret {x : Int32} {r : Option Value} (h : zk_C v X E own cc dep) (hq : zk_R v X E (some .int) r I' J') (hr : r = some (.int x)) (hI : I' = I) (hJ : J' = J) (d : zk_D cc pc pc' .ireturn 1) : zk_A v X E pc lv [.int x] I J := by
  obtain ⟨p, e, R, s, m, args, below, meth, c, cells, slots, Q⟩ := E
  obtain ⟨rfl, rfl, rfl, hrt, hlk⟩ := hq
  subst hr; subst hI; subst hJ
  intro ls H locs hn hl hP hS
  exact W.iret h.1 h.2.1 hrt (fun t ht hW => ⟨rfl, by rw [ht]; exact hP, hS.F ht⟩) hS.2.2 d.1 hlk
theorem zk_zret {x : Int32} {r : Option Value} (h : zk_C v X E own cc dep) (hq : zk_R v X E (some .boolean) r I' J') (hr : r = some (.int x)) (hn : narrow .boolean (.int x) = .int x) (hI : I' = I) (hJ : J' = J) (d : zk_D cc pc pc' .ireturn 1) : zk_A v X E pc lv [.int x] I J := by
  obtain ⟨p, e, R, s, m, args, below, meth, c, cells, slots, Q⟩ := E
  obtain ⟨rfl, rfl, rfl, hrt, hlk⟩ := hq
  subst hr; subst hI; subst hJ
  intro ls H locs hn' hl hP hS
  exact W.zret h.1 h.2.1 hrt hn (fun t ht hW => ⟨rfl, by rw [ht]; exact hP, hS.F ht⟩) hS.2.2 d.1 hlk
theorem zk_lret {x : Int64} {r : Option Value} (h : zk_C v X E own cc dep) (hq : zk_R v X E (some .long) r I' J') (hr : r = some (.long x)) (hI : I' = I) (hJ : J' = J) (d : zk_D cc pc pc' .lreturn 1) : zk_A v X E pc lv [.long x] I J := by
  obtain ⟨p, e, R, s, m, args, below, meth, c, cells, slots, Q⟩ := E
  obtain ⟨rfl, rfl, rfl, hrt, hlk⟩ := hq
  subst hr; subst hI; subst hJ
  intro ls H locs hn hl hP hS
  exact W.lret h.1 h.2.1 hrt (fun t ht hW => ⟨rfl, by rw [ht]; exact hP, hS.F ht⟩) hS.2.2 d.1 hlk
theorem zk_aret {x : Nat} {rt : FieldType} {r : Option Value} (h : zk_C v X E own cc dep) (hq : zk_R v X E (some rt) r I' J') (hrt : (∃ n, rt = .object n) ∨ ∃ t, rt = .array t) (hr : r = some (.ref x)) (hI : I' = I) (hJ : J' = J) (d : zk_D cc pc pc' .areturn 1) : zk_A v X E pc lv [.ref x] I J := by
  obtain ⟨p, e, R, s, m, args, below, meth, c, cells, slots, Q⟩ := E
  obtain ⟨rfl, rfl, rfl, hrt2, hlk⟩ := hq
  subst hr; subst hI; subst hJ
  intro ls H locs hn hl hP hS
  exact W.aret h.1 h.2.1 hrt2 hrt (Or.inr ⟨_, rfl⟩) (fun t ht hW => ⟨rfl, by rw [ht]; exact hP, hS.F ht⟩) hS.2.2 d.1 hlk
theorem zk_vret {r : Option Value} (h : zk_C v X E own cc dep) (hq : zk_R v X E none r I' J') (hr : r = none) (hI : I' = I) (hJ : J' = J) (d : zk_D cc pc pc' .return_ 1) : zk_A v X E pc lv [] I J := by
  obtain ⟨p, e, R, s, m, args, below, meth, c, cells, slots, Q⟩ := E
  obtain ⟨rfl, rfl, rfl, hrt, hlk⟩ := hq
  subst hr; subst hI; subst hJ
  intro ls H locs hn hl hP hS
  exact W.vret h.1 h.2.1 hrt (fun t ht hW => ⟨rfl, by rw [ht]; exact hP, hS.F ht⟩) hS.2.2 d.1 hlk
/-- Math.min, Math.max -/
theorem zk_mmin {idx : Nat} {x y : Int32} (h : zk_C v X E own cc dep) (hd : 1 ≤ dep.1 ∧ 21 ≤ dep.2) (h1 : Cond.methodLink own idx Lib.Math.min.name ∈ zk_ws) (h2 : Cond.static Lib.Math.min.name ∈ zk_ws ∧ Cond.initialized "java/lang/Math" ∈ zk_ws ∧ Cond.code Lib.Math.min.name Lib.Math.min.code 2 (some .int) ∈ zk_ws) (hcat : (st.map fun v => v.category).sum ≤ 8) (d : zk_D cc pc pc' (.invokestatic idx) 3) (kk : zk_A v X E pc' lv (.int (if y < x then y else x) :: st) I J) : zk_A v X E pc lv (.int y :: .int x :: st) I J := by
  obtain ⟨p, e, R, s, m, args, below, meth, c, cells, slots, Q⟩ := E
  obtain ⟨d, rfl⟩ := d
  obtain ⟨c1, c2, c3, c4, c5, c6, c7, c8, c9⟩ := h
  intro ls H locs hn hl hP hS
  exact va_mmin c1 c2 hl.1.symm c3 (c4 _ h1) (c4 _ h2.1) (c4 _ h2.2.1) (c4 _ h2.2.2) (by omega) (by omega) c8 c9 d (kk ls H locs hn hl hP hS)
theorem zk_mmax {idx : Nat} {x y : Int32} (h : zk_C v X E own cc dep) (hd : 1 ≤ dep.1 ∧ 21 ≤ dep.2) (h1 : Cond.methodLink own idx Lib.Math.max.name ∈ zk_ws) (h2 : Cond.static Lib.Math.max.name ∈ zk_ws ∧ Cond.initialized "java/lang/Math" ∈ zk_ws ∧ Cond.code Lib.Math.max.name Lib.Math.max.code 2 (some .int) ∈ zk_ws) (hcat : (st.map fun v => v.category).sum ≤ 8) (d : zk_D cc pc pc' (.invokestatic idx) 3) (kk : zk_A v X E pc' lv (.int (if x < y then y else x) :: st) I J) : zk_A v X E pc lv (.int y :: .int x :: st) I J := by
  obtain ⟨p, e, R, s, m, args, below, meth, c, cells, slots, Q⟩ := E
  obtain ⟨d, rfl⟩ := d
  obtain ⟨c1, c2, c3, c4, c5, c6, c7, c8, c9⟩ := h
  intro ls H locs hn hl hP hS
  exact va_mmax c1 c2 hl.1.symm c3 (c4 _ h1) (c4 _ h2.1) (c4 _ h2.2.1) (c4 _ h2.2.2) (by omega) (by omega) c8 c9 d (kk ls H locs hn hl hP hS)
end ZK
end
section
section ZP
variable {v : Nat} {X : zk_X} {E : zk_E} {own : String} {cc : ByteArray} {dep : Nat × Nat} {pc pc' : Nat} {lv : List (Option Value)} {st : List Value} {I I' : zk_I} {J J' : zk_J}
/-- fewer locals are known -/
theorem zk_fg (k : Nat) (kk : zk_A v X E pc (lv.set k none) st I J) : zk_A v X E pc lv st I J := by
  obtain ⟨p, e, R, s, m, args, below, meth, c, cells, slots, Q⟩ := E
  intro ls H locs hn hl hP hS
  refine kk ls H locs (by rw [List.length_set]; exact hn) ⟨hl.1, hl.2.1, fun q hq => hl.2.2 q ?_⟩ hP hS
  obtain ⟨j, h1, h2⟩ := zk_lv_of _ _ _ hq
  by_cases hj : k = j
  · subst hj
    by_cases hk : k < lv.length
    · rw [List.getElem?_set_self hk] at h2; simp at h2
    · rw [List.getElem?_eq_none (by rw [List.length_set]; omega)] at h2; simp at h2
  · rw [List.getElem?_set_ne hj] at h2
    have := zk_lv_in lv 0 j q.2 h2
    rw [← h1] at this
    exact this
theorem zk_is0 {a0 : Option Value} {tl : List (Option Value)} {x : Int32} (h : zk_C v X E own cc dep) (d : zk_D cc pc pc' (.istore_n 0) 1) (kk : zk_A v X E pc' (some (.int x) :: tl) st I J) : zk_A v X E pc (a0 :: tl) (.int x :: st) I J := zk_istoreNG (lv := a0 :: tl) h d (by simp only [List.length_cons]; omega) (Or.inl rfl) kk
theorem zk_as0 {a0 : Option Value} {tl : List (Option Value)} {x : Nat} (h : zk_C v X E own cc dep) (d : zk_D cc pc pc' (.astore_n 0) 1) (kk : zk_A v X E pc' (some (.ref x) :: tl) st I J) : zk_A v X E pc (a0 :: tl) (.ref x :: st) I J := zk_astoreNG (lv := a0 :: tl) h d (by simp only [List.length_cons]; omega) (Or.inl rfl) kk
theorem zk_ls0 {a0 a1 : Option Value} {tl : List (Option Value)} {x : Int64} (h : zk_C v X E own cc dep) (d : zk_D cc pc pc' (.lstore_n 0) 1) (kk : zk_A v X E pc' (some (.long x) :: none :: tl) st I J) : zk_A v X E pc (a0 :: a1 :: tl) (.long x :: st) I J := zk_lstoreNG (lv := a0 :: a1 :: tl) h d (by simp only [List.length_cons]; omega) (Or.inl rfl) kk
theorem zk_in0 {tl : List (Option Value)} {n : Nat} (h : zk_C v X E own cc dep) (d : zk_D cc pc pc' (.iinc 0 1) 3) (kk : zk_A v X E pc' (some (.int (nI (n + 1))) :: tl) st I J) : zk_A v X E pc (some (.int (nI n)) :: tl) st I J := by
  refine zk_iincG (lv := some (.int (nI n)) :: tl) h d rfl ?_
  rw [show nI n + Int32.ofInt 1 = nI (n + 1) from nI_1 n]
  exact kk
theorem zk_fg0 {a0 : Option Value} {tl : List (Option Value)} (kk : zk_A v X E pc (none :: tl) st I J) : zk_A v X E pc (a0 :: tl) st I J := zk_fg (lv := a0 :: tl) 0 kk
theorem zk_is1 {a0 a1 : Option Value} {tl : List (Option Value)} {x : Int32} (h : zk_C v X E own cc dep) (d : zk_D cc pc pc' (.istore_n 1) 1) (hp : zk_n2 (some a0) = true) (kk : zk_A v X E pc' (a0 :: some (.int x) :: tl) st I J) : zk_A v X E pc (a0 :: a1 :: tl) (.int x :: st) I J := zk_istoreNG (lv := a0 :: a1 :: tl) h d (by simp only [List.length_cons]; omega) (Or.inr hp) kk
theorem zk_as1 {a0 a1 : Option Value} {tl : List (Option Value)} {x : Nat} (h : zk_C v X E own cc dep) (d : zk_D cc pc pc' (.astore_n 1) 1) (hp : zk_n2 (some a0) = true) (kk : zk_A v X E pc' (a0 :: some (.ref x) :: tl) st I J) : zk_A v X E pc (a0 :: a1 :: tl) (.ref x :: st) I J := zk_astoreNG (lv := a0 :: a1 :: tl) h d (by simp only [List.length_cons]; omega) (Or.inr hp) kk
theorem zk_ls1 {a0 a1 a2 : Option Value} {tl : List (Option Value)} {x : Int64} (h : zk_C v X E own cc dep) (d : zk_D cc pc pc' (.lstore_n 1) 1) (hp : zk_n2 (some a0) = true) (kk : zk_A v X E pc' (a0 :: some (.long x) :: none :: tl) st I J) : zk_A v X E pc (a0 :: a1 :: a2 :: tl) (.long x :: st) I J := zk_lstoreNG (lv := a0 :: a1 :: a2 :: tl) h d (by simp only [List.length_cons]; omega) (Or.inr hp) kk
theorem zk_in1 {a0 : Option Value} {tl : List (Option Value)} {n : Nat} (h : zk_C v X E own cc dep) (d : zk_D cc pc pc' (.iinc 1 1) 3) (kk : zk_A v X E pc' (a0 :: some (.int (nI (n + 1))) :: tl) st I J) : zk_A v X E pc (a0 :: some (.int (nI n)) :: tl) st I J := by
  refine zk_iincG (lv := a0 :: some (.int (nI n)) :: tl) h d rfl ?_
  rw [show nI n + Int32.ofInt 1 = nI (n + 1) from nI_1 n]
  exact kk
theorem zk_fg1 {a0 a1 : Option Value} {tl : List (Option Value)} (kk : zk_A v X E pc (a0 :: none :: tl) st I J) : zk_A v X E pc (a0 :: a1 :: tl) st I J := zk_fg (lv := a0 :: a1 :: tl) 1 kk
theorem zk_is2 {a0 a1 a2 : Option Value} {tl : List (Option Value)} {x : Int32} (h : zk_C v X E own cc dep) (d : zk_D cc pc pc' (.istore_n 2) 1) (hp : zk_n2 (some a1) = true) (kk : zk_A v X E pc' (a0 :: a1 :: some (.int x) :: tl) st I J) : zk_A v X E pc (a0 :: a1 :: a2 :: tl) (.int x :: st) I J := zk_istoreNG (lv := a0 :: a1 :: a2 :: tl) h d (by simp only [List.length_cons]; omega) (Or.inr hp) kk
theorem zk_as2 {a0 a1 a2 : Option Value} {tl : List (Option Value)} {x : Nat} (h : zk_C v X E own cc dep) (d : zk_D cc pc pc' (.astore_n 2) 1) (hp : zk_n2 (some a1) = true) (kk : zk_A v X E pc' (a0 :: a1 :: some (.ref x) :: tl) st I J) : zk_A v X E pc (a0 :: a1 :: a2 :: tl) (.ref x :: st) I J := zk_astoreNG (lv := a0 :: a1 :: a2 :: tl) h d (by simp only [List.length_cons]; omega) (Or.inr hp) kk
theorem zk_ls2 {a0 a1 a2 a3 : Option Value} {tl : List (Option Value)} {x : Int64} (h : zk_C v X E own cc dep) (d : zk_D cc pc pc' (.lstore_n 2) 1) (hp : zk_n2 (some a1) = true) (kk : zk_A v X E pc' (a0 :: a1 :: some (.long x) :: none :: tl) st I J) : zk_A v X E pc (a0 :: a1 :: a2 :: a3 :: tl) (.long x :: st) I J := zk_lstoreNG (lv := a0 :: a1 :: a2 :: a3 :: tl) h d (by simp only [List.length_cons]; omega) (Or.inr hp) kk
theorem zk_in2 {a0 a1 : Option Value} {tl : List (Option Value)} {n : Nat} (h : zk_C v X E own cc dep) (d : zk_D cc pc pc' (.iinc 2 1) 3) (kk : zk_A v X E pc' (a0 :: a1 :: some (.int (nI (n + 1))) :: tl) st I J) : zk_A v X E pc (a0 :: a1 :: some (.int (nI n)) :: tl) st I J := by
  refine zk_iincG (lv := a0 :: a1 :: some (.int (nI n)) :: tl) h d rfl ?_
  rw [show nI n + Int32.ofInt 1 = nI (n + 1) from nI_1 n]
  exact kk
theorem zk_fg2 {a0 a1 a2 : Option Value} {tl : List (Option Value)} (kk : zk_A v X E pc (a0 :: a1 :: none :: tl) st I J) : zk_A v X E pc (a0 :: a1 :: a2 :: tl) st I J := zk_fg (lv := a0 :: a1 :: a2 :: tl) 2 kk
theorem zk_is3 {a0 a1 a2 a3 : Option Value} {tl : List (Option Value)} {x : Int32} (h : zk_C v X E own cc dep) (d : zk_D cc pc pc' (.istore_n 3) 1) (hp : zk_n2 (some a2) = true) (kk : zk_A v X E pc' (a0 :: a1 :: a2 :: some (.int x) :: tl) st I J) : zk_A v X E pc (a0 :: a1 :: a2 :: a3 :: tl) (.int x :: st) I J := zk_istoreNG (lv := a0 :: a1 :: a2 :: a3 :: tl) h d (by simp only [List.length_cons]; omega) (Or.inr hp) kk
theorem zk_as3 {a0 a1 a2 a3 : Option Value} {tl : List (Option Value)} {x : Nat} (h : zk_C v X E own cc dep) (d : zk_D cc pc pc' (.astore_n 3) 1) (hp : zk_n2 (some a2) = true) (kk : zk_A v X E pc' (a0 :: a1 :: a2 :: some (.ref x) :: tl) st I J) : zk_A v X E pc (a0 :: a1 :: a2 :: a3 :: tl) (.ref x :: st) I J := zk_astoreNG (lv := a0 :: a1 :: a2 :: a3 :: tl) h d (by simp only [List.length_cons]; omega) (Or.inr hp) kk
theorem zk_ls3 {a0 a1 a2 a3 a4 : Option Value} {tl : List (Option Value)} {x : Int64} (h : zk_C v X E own cc dep) (d : zk_D cc pc pc' (.lstore_n 3) 1) (hp : zk_n2 (some a2) = true) (kk : zk_A v X E pc' (a0 :: a1 :: a2 :: some (.long x) :: none :: tl) st I J) : zk_A v X E pc (a0 :: a1 :: a2 :: a3 :: a4 :: tl) (.long x :: st) I J := zk_lstoreNG (lv := a0 :: a1 :: a2 :: a3 :: a4 :: tl) h d (by simp only [List.length_cons]; omega) (Or.inr hp) kk
theorem zk_in3 {a0 a1 a2 : Option Value} {tl : List (Option Value)} {n : Nat} (h : zk_C v X E own cc dep) (d : zk_D cc pc pc' (.iinc 3 1) 3) (kk : zk_A v X E pc' (a0 :: a1 :: a2 :: some (.int (nI (n + 1))) :: tl) st I J) : zk_A v X E pc (a0 :: a1 :: a2 :: some (.int (nI n)) :: tl) st I J := by
  refine zk_iincG (lv := a0 :: a1 :: a2 :: some (.int (nI n)) :: tl) h d rfl ?_
  rw [show nI n + Int32.ofInt 1 = nI (n + 1) from nI_1 n]
  exact kk
theorem zk_fg3 {a0 a1 a2 a3 : Option Value} {tl : List (Option Value)} (kk : zk_A v X E pc (a0 :: a1 :: a2 :: none :: tl) st I J) : zk_A v X E pc (a0 :: a1 :: a2 :: a3 :: tl) st I J := zk_fg (lv := a0 :: a1 :: a2 :: a3 :: tl) 3 kk
theorem zk_is4 {a0 a1 a2 a3 a4 : Option Value} {tl : List (Option Value)} {x : Int32} (h : zk_C v X E own cc dep) (d : zk_D cc pc pc' (.istore 4) 2) (hp : zk_n2 (some a3) = true) (kk : zk_A v X E pc' (a0 :: a1 :: a2 :: a3 :: some (.int x) :: tl) st I J) : zk_A v X E pc (a0 :: a1 :: a2 :: a3 :: a4 :: tl) (.int x :: st) I J := zk_istoreG (lv := a0 :: a1 :: a2 :: a3 :: a4 :: tl) h d (by simp only [List.length_cons]; omega) (Or.inr hp) kk
theorem zk_as4 {a0 a1 a2 a3 a4 : Option Value} {tl : List (Option Value)} {x : Nat} (h : zk_C v X E own cc dep) (d : zk_D cc pc pc' (.astore 4) 2) (hp : zk_n2 (some a3) = true) (kk : zk_A v X E pc' (a0 :: a1 :: a2 :: a3 :: some (.ref x) :: tl) st I J) : zk_A v X E pc (a0 :: a1 :: a2 :: a3 :: a4 :: tl) (.ref x :: st) I J := zk_astoreG (lv := a0 :: a1 :: a2 :: a3 :: a4 :: tl) h d (by simp only [List.length_cons]; omega) (Or.inr hp) kk
theorem zk_ls4 {a0 a1 a2 a3 a4 a5 : Option Value} {tl : List (Option Value)} {x : Int64} (h : zk_C v X E own cc dep) (d : zk_D cc pc pc' (.lstore 4) 2) (hp : zk_n2 (some a3) = true) (kk : zk_A v X E pc' (a0 :: a1 :: a2 :: a3 :: some (.long x) :: none :: tl) st I J) : zk_A v X E pc (a0 :: a1 :: a2 :: a3 :: a4 :: a5 :: tl) (.long x :: st) I J := zk_lstoreG (lv := a0 :: a1 :: a2 :: a3 :: a4 :: a5 :: tl) h d (by simp only [List.length_cons]; omega) (Or.inr hp) kk
theorem zk_in4 {a0 a1 a2 a3 : Option Value} {tl : List (Option Value)} {n : Nat} (h : zk_C v X E own cc dep) (d : zk_D cc pc pc' (.iinc 4 1) 3) (kk : zk_A v X E pc' (a0 :: a1 :: a2 :: a3 :: some (.int (nI (n + 1))) :: tl) st I J) : zk_A v X E pc (a0 :: a1 :: a2 :: a3 :: some (.int (nI n)) :: tl) st I J := by
  refine zk_iincG (lv := a0 :: a1 :: a2 :: a3 :: some (.int (nI n)) :: tl) h d rfl ?_
  rw [show nI n + Int32.ofInt 1 = nI (n + 1) from nI_1 n]
  exact kk
theorem zk_fg4 {a0 a1 a2 a3 a4 : Option Value} {tl : List (Option Value)} (kk : zk_A v X E pc (a0 :: a1 :: a2 :: a3 :: none :: tl) st I J) : zk_A v X E pc (a0 :: a1 :: a2 :: a3 :: a4 :: tl) st I J := zk_fg (lv := a0 :: a1 :: a2 :: a3 :: a4 :: tl) 4 kk
theorem zk_is5 {a0 a1 a2 a3 a4 a5 : Option Value} {tl : List (Option Value)} {x : Int32} (h : zk_C v X E own cc dep) (d : zk_D cc pc pc' (.istore 5) 2) (hp : zk_n2 (some a4) = true) (kk : zk_A v X E pc' (a0 :: a1 :: a2 :: a3 :: a4 :: some (.int x) :: tl) st I J) : zk_A v X E pc (a0 :: a1 :: a2 :: a3 :: a4 :: a5 :: tl) (.int x :: st) I J := zk_istoreG (lv := a0 :: a1 :: a2 :: a3 :: a4 :: a5 :: tl) h d (by simp only [List.length_cons]; omega) (Or.inr hp) kk
theorem zk_as5 {a0 a1 a2 a3 a4 a5 : Option Value} {tl : List (Option Value)} {x : Nat} (h : zk_C v X E own cc dep) (d : zk_D cc pc pc' (.astore 5) 2) (hp : zk_n2 (some a4) = true) (kk : zk_A v X E pc' (a0 :: a1 :: a2 :: a3 :: a4 :: some (.ref x) :: tl) st I J) : zk_A v X E pc (a0 :: a1 :: a2 :: a3 :: a4 :: a5 :: tl) (.ref x :: st) I J := zk_astoreG (lv := a0 :: a1 :: a2 :: a3 :: a4 :: a5 :: tl) h d (by simp only [List.length_cons]; omega) (Or.inr hp) kk
theorem zk_ls5 {a0 a1 a2 a3 a4 a5 a6 : Option Value} {tl : List (Option Value)} {x : Int64} (h : zk_C v X E own cc dep) (d : zk_D cc pc pc' (.lstore 5) 2) (hp : zk_n2 (some a4) = true) (kk : zk_A v X E pc' (a0 :: a1 :: a2 :: a3 :: a4 :: some (.long x) :: none :: tl) st I J) : zk_A v X E pc (a0 :: a1 :: a2 :: a3 :: a4 :: a5 :: a6 :: tl) (.long x :: st) I J := zk_lstoreG (lv := a0 :: a1 :: a2 :: a3 :: a4 :: a5 :: a6 :: tl) h d (by simp only [List.length_cons]; omega) (Or.inr hp) kk
theorem zk_in5 {a0 a1 a2 a3 a4 : Option Value} {tl : List (Option Value)} {n : Nat} (h : zk_C v X E own cc dep) (d : zk_D cc pc pc' (.iinc 5 1) 3) (kk : zk_A v X E pc' (a0 :: a1 :: a2 :: a3 :: a4 :: some (.int (nI (n + 1))) :: tl) st I J) : zk_A v X E pc (a0 :: a1 :: a2 :: a3 :: a4 :: some (.int (nI n)) :: tl) st I J := by
  refine zk_iincG (lv := a0 :: a1 :: a2 :: a3 :: a4 :: some (.int (nI n)) :: tl) h d rfl ?_
  rw [show nI n + Int32.ofInt 1 = nI (n + 1) from nI_1 n]
  exact kk
theorem zk_fg5 {a0 a1 a2 a3 a4 a5 : Option Value} {tl : List (Option Value)} (kk : zk_A v X E pc (a0 :: a1 :: a2 :: a3 :: a4 :: none :: tl) st I J) : zk_A v X E pc (a0 :: a1 :: a2 :: a3 :: a4 :: a5 :: tl) st I J := zk_fg (lv := a0 :: a1 :: a2 :: a3 :: a4 :: a5 :: tl) 5 kk
theorem zk_is6 {a0 a1 a2 a3 a4 a5 a6 : Option Value} {tl : List (Option Value)} {x : Int32} (h : zk_C v X E own cc dep) (d : zk_D cc pc pc' (.istore 6) 2) (hp : zk_n2 (some a5) = true) (kk : zk_A v X E pc' (a0 :: a1 :: a2 :: a3 :: a4 :: a5 :: some (.int x) :: tl) st I J) : zk_A v X E pc (a0 :: a1 :: a2 :: a3 :: a4 :: a5 :: a6 :: tl) (.int x :: st) I J := zk_istoreG (lv := a0 :: a1 :: a2 :: a3 :: a4 :: a5 :: a6 :: tl) h d (by simp only [List.length_cons]; omega) (Or.inr hp) kk
theorem zk_as6 {a0 a1 a2 a3 a4 a5 a6 : Option Value} {tl : List (Option Value)} {x : Nat} (h : zk_C v X E own cc dep) (d : zk_D cc pc pc' (.astore 6) 2) (hp : zk_n2 (some a5) = true) (kk : zk_A v X E pc' (a0 :: a1 :: a2 :: a3 :: a4 :: a5 :: some (.ref x) :: tl) st I J) : zk_A v X E pc (a0 :: a1 :: a2 :: a3 :: a4 :: a5 :: a6 :: tl) (.ref x :: st) I J := zk_astoreG (lv := a0 :: a1 :: a2 :: a3 :: a4 :: a5 :: a6 :: tl) h d (by simp only [List.length_cons]; omega) (Or.inr hp) kk
theorem zk_ls6 {a0 a1 a2 a3 a4 a5 a6 a7 : Option Value} {tl : List (Option Value)} {x : Int64} (h : zk_C v X E own cc dep) (d : zk_D cc pc pc' (.lstore 6) 2) (hp : zk_n2 (some a5) = true) (kk : zk_A v X E pc' (a0 :: a1 :: a2 :: a3 :: a4 :: a5 :: some (.long x) :: none :: tl) st I J) : zk_A v X E pc (a0 :: a1 :: a2 :: a3 :: a4 :: a5 :: a6 :: a7 :: tl) (.long x :: st) I J := zk_lstoreG (lv := a0 :: a1 :: a2 :: a3 :: a4 :: a5 :: a6 :: a7 :: tl) h d (by simp only [List.length_cons]; omega) (Or.inr hp) kk
theorem zk_in6 {a0 a1 a2 a3 a4 a5 : Option Value} {tl : List (Option Value)} {n : Nat} (h : zk_C v X E own cc dep) (d : zk_D cc pc pc' (.iinc 6 1) 3) (kk : zk_A v X E pc' (a0 :: a1 :: a2 :: a3 :: a4 :: a5 :: some (.int (nI (n + 1))) :: tl) st I J) : zk_A v X E pc (a0 :: a1 :: a2 :: a3 :: a4 :: a5 :: some (.int (nI n)) :: tl) st I J := by
  refine zk_iincG (lv := a0 :: a1 :: a2 :: a3 :: a4 :: a5 :: some (.int (nI n)) :: tl) h d rfl ?_
  rw [show nI n + Int32.ofInt 1 = nI (n + 1) from nI_1 n]
  exact kk
theorem zk_fg6 {a0 a1 a2 a3 a4 a5 a6 : Option Value} {tl : List (Option Value)} (kk : zk_A v X E pc (a0 :: a1 :: a2 :: a3 :: a4 :: a5 :: none :: tl) st I J) : zk_A v X E pc (a0 :: a1 :: a2 :: a3 :: a4 :: a5 :: a6 :: tl) st I J := zk_fg (lv := a0 :: a1 :: a2 :: a3 :: a4 :: a5 :: a6 :: tl) 6 kk
theorem zk_is7 {a0 a1 a2 a3 a4 a5 a6 a7 : Option Value} {tl : List (Option Value)} {x : Int32} (h : zk_C v X E own cc dep) (d : zk_D cc pc pc' (.istore 7) 2) (hp : zk_n2 (some a6) = true) (kk : zk_A v X E pc' (a0 :: a1 :: a2 :: a3 :: a4 :: a5 :: a6 :: some (.int x) :: tl) st I J) : zk_A v X E pc (a0 :: a1 :: a2 :: a3 :: a4 :: a5 :: a6 :: a7 :: tl) (.int x :: st) I J := zk_istoreG (lv := a0 :: a1 :: a2 :: a3 :: a4 :: a5 :: a6 :: a7 :: tl) h d (by simp only [List.length_cons]; omega) (Or.inr hp) kk
theorem zk_as7 {a0 a1 a2 a3 a4 a5 a6 a7 : Option Value} {tl : List (Option Value)} {x : Nat} (h : zk_C v X E own cc dep) (d : zk_D cc pc pc' (.astore 7) 2) (hp : zk_n2 (some a6) = true) (kk : zk_A v X E pc' (a0 :: a1 :: a2 :: a3 :: a4 :: a5 :: a6 :: some (.ref x) :: tl) st I J) : zk_A v X E pc (a0 :: a1 :: a2 :: a3 :: a4 :: a5 :: a6 :: a7 :: tl) (.ref x :: st) I J := zk_astoreG (lv := a0 :: a1 :: a2 :: a3 :: a4 :: a5 :: a6 :: a7 :: tl) h d (by simp only [List.length_cons]; omega) (Or.inr hp) kk
theorem zk_ls7 {a0 a1 a2 a3 a4 a5 a6 a7 a8 : Option Value} {tl : List (Option Value)} {x : Int64} (h : zk_C v X E own cc dep) (d : zk_D cc pc pc' (.lstore 7) 2) (hp : zk_n2 (some a6) = true) (kk : zk_A v X E pc' (a0 :: a1 :: a2 :: a3 :: a4 :: a5 :: a6 :: some (.long x) :: none :: tl) st I J) : zk_A v X E pc (a0 :: a1 :: a2 :: a3 :: a4 :: a5 :: a6 :: a7 :: a8 :: tl) (.long x :: st) I J := zk_lstoreG (lv := a0 :: a1 :: a2 :: a3 :: a4 :: a5 :: a6 :: a7 :: a8 :: tl) h d (by simp only [List.length_cons]; omega) (Or.inr hp) kk
theorem zk_in7 {a0 a1 a2 a3 a4 a5 a6 : Option Value} {tl : List (Option Value)} {n : Nat} (h : zk_C v X E own cc dep) (d : zk_D cc pc pc' (.iinc 7 1) 3) (kk : zk_A v X E pc' (a0 :: a1 :: a2 :: a3 :: a4 :: a5 :: a6 :: some (.int (nI (n + 1))) :: tl) st I J) : zk_A v X E pc (a0 :: a1 :: a2 :: a3 :: a4 :: a5 :: a6 :: some (.int (nI n)) :: tl) st I J := by
  refine zk_iincG (lv := a0 :: a1 :: a2 :: a3 :: a4 :: a5 :: a6 :: some (.int (nI n)) :: tl) h d rfl ?_
  rw [show nI n + Int32.ofInt 1 = nI (n + 1) from nI_1 n]
  exact kk
theorem zk_fg7 {a0 a1 a2 a3 a4 a5 a6 a7 : Option Value} {tl : List (Option Value)} (kk : zk_A v X E pc (a0 :: a1 :: a2 :: a3 :: a4 :: a5 :: a6 :: none :: tl) st I J) : zk_A v X E pc (a0 :: a1 :: a2 :: a3 :: a4 :: a5 :: a6 :: a7 :: tl) st I J := zk_fg (lv := a0 :: a1 :: a2 :: a3 :: a4 :: a5 :: a6 :: a7 :: tl) 7 kk
theorem zk_is8 {a0 a1 a2 a3 a4 a5 a6 a7 a8 : Option Value} {tl : List (Option Value)} {x : Int32} (h : zk_C v X E own cc dep) (d : zk_D cc pc pc' (.istore 8) 2) (hp : zk_n2 (some a7) = true) (kk : zk_A v X E pc' (a0 :: a1 :: a2 :: a3 :: a4 :: a5 :: a6 :: a7 :: some (.int x) :: tl) st I J) : zk_A v X E pc (a0 :: a1 :: a2 :: a3 :: a4 :: a5 :: a6 :: a7 :: a8 :: tl) (.int x :: st) I J := zk_istoreG (lv := a0 :: a1 :: a2 :: a3 :: a4 :: a5 :: a6 :: a7 :: a8 :: tl) h d (by simp only [List.length_cons]; omega) (Or.inr hp) kk
theorem zk_as8 {a0 a1 a2 a3 a4 a5 a6 a7 a8 : Option Value} {tl : List (Option Value)} {x : Nat} (h : zk_C v X E own cc dep) (d : zk_D cc pc pc' (.astore 8) 2) (hp : zk_n2 (some a7) = true) (kk : zk_A v X E pc' (a0 :: a1 :: a2 :: a3 :: a4 :: a5 :: a6 :: a7 :: some (.ref x) :: tl) st I J) : zk_A v X E pc (a0 :: a1 :: a2 :: a3 :: a4 :: a5 :: a6 :: a7 :: a8 :: tl) (.ref x :: st) I J := zk_astoreG (lv := a0 :: a1 :: a2 :: a3 :: a4 :: a5 :: a6 :: a7 :: a8 :: tl) h d (by simp only [List.length_cons]; omega) (Or.inr hp) kk
theorem zk_ls8 {a0 a1 a2 a3 a4 a5 a6 a7 a8 a9 : Option Value} {tl : List (Option Value)} {x : Int64} (h : zk_C v X E own cc dep) (d : zk_D cc pc pc' (.lstore 8) 2) (hp : zk_n2 (some a7) = true) (kk : zk_A v X E pc' (a0 :: a1 :: a2 :: a3 :: a4 :: a5 :: a6 :: a7 :: some (.long x) :: none :: tl) st I J) : zk_A v X E pc (a0 :: a1 :: a2 :: a3 :: a4 :: a5 :: a6 :: a7 :: a8 :: a9 :: tl) (.long x :: st) I J := zk_lstoreG (lv := a0 :: a1 :: a2 :: a3 :: a4 :: a5 :: a6 :: a7 :: a8 :: a9 :: tl) h d (by simp only [List.length_cons]; omega) (Or.inr hp) kk
theorem zk_in8 {a0 a1 a2 a3 a4 a5 a6 a7 : Option Value} {tl : List (Option Value)} {n : Nat} (h : zk_C v X E own cc dep) (d : zk_D cc pc pc' (.iinc 8 1) 3) (kk : zk_A v X E pc' (a0 :: a1 :: a2 :: a3 :: a4 :: a5 :: a6 :: a7 :: some (.int (nI (n + 1))) :: tl) st I J) : zk_A v X E pc (a0 :: a1 :: a2 :: a3 :: a4 :: a5 :: a6 :: a7 :: some (.int (nI n)) :: tl) st I J := by
  refine zk_iincG (lv := a0 :: a1 :: a2 :: a3 :: a4 :: a5 :: a6 :: a7 :: some (.int (nI n)) :: tl) h d rfl ?_
  rw [show nI n + Int32.ofInt 1 = nI (n + 1) from nI_1 n]
  exact kk
theorem zk_fg8 {a0 a1 a2 a3 a4 a5 a6 a7 a8 : Option Value} {tl : List (Option Value)} (kk : zk_A v X E pc (a0 :: a1 :: a2 :: a3 :: a4 :: a5 :: a6 :: a7 :: none :: tl) st I J) : zk_A v X E pc (a0 :: a1 :: a2 :: a3 :: a4 :: a5 :: a6 :: a7 :: a8 :: tl) st I J := zk_fg (lv := a0 :: a1 :: a2 :: a3 :: a4 :: a5 :: a6 :: a7 :: a8 :: tl) 8 kk
theorem zk_is9 {a0 a1 a2 a3 a4 a5 a6 a7 a8 a9 : Option Value} {tl : List (Option Value)} {x : Int32} (h : zk_C v X E own cc dep) (d : zk_D cc pc pc' (.istore 9) 2) (hp : zk_n2 (some a8) = true) (kk : zk_A v X E pc' (a0 :: a1 :: a2 :: a3 :: a4 :: a5 :: a6 :: a7 :: a8 :: some (.int x) :: tl) st I J) : zk_A v X E pc (a0 :: a1 :: a2 :: a3 :: a4 :: a5 :: a6 :: a7 :: a8 :: a9 :: tl) (.int x :: st) I J := zk_istoreG (lv := a0 :: a1 :: a2 :: a3 :: a4 :: a5 :: a6 :: a7 :: a8 :: a9 :: tl) h d (by simp only [List.length_cons]; omega) (Or.inr hp) kk
theorem zk_as9 {a0 a1 a2 a3 a4 a5 a6 a7 a8 a9 : Option Value} {tl : List (Option Value)} {x : Nat} (h : zk_C v X E own cc dep) (d : zk_D cc pc pc' (.astore 9) 2) (hp : zk_n2 (some a8) = true) (kk : zk_A v X E pc' (a0 :: a1 :: a2 :: a3 :: a4 :: a5 :: a6 :: a7 :: a8 :: some (.ref x) :: tl) st I J) : zk_A v X E pc (a0 :: a1 :: a2 :: a3 :: a4 :: a5 :: a6 :: a7 :: a8 :: a9 :: tl) (.ref x :: st) I J := zk_astoreG (lv := a0 :: a1 :: a2 :: a3 :: a4 :: a5 :: a6 :: a7 :: a8 :: a9 :: tl) h d (by simp only [List.length_cons]; omega) (Or.inr hp) kk
theorem zk_ls9 {a0 a1 a2 a3 a4 a5 a6 a7 a8 a9 a10 : Option Value} {tl : List (Option Value)} {x : Int64} (h : zk_C v X E own cc dep) (d : zk_D cc pc pc' (.lstore 9) 2) (hp : zk_n2 (some a8) = true) (kk : zk_A v X E pc' (a0 :: a1 :: a2 :: a3 :: a4 :: a5 :: a6 :: a7 :: a8 :: some (.long x) :: none :: tl) st I J) : zk_A v X E pc (a0 :: a1 :: a2 :: a3 :: a4 :: a5 :: a6 :: a7 :: a8 :: a9 :: a10 :: tl) (.long x :: st) I J := zk_lstoreG (lv := a0 :: a1 :: a2 :: a3 :: a4 :: a5 :: a6 :: a7 :: a8 :: a9 :: a10 :: tl) h d (by simp only [List.length_cons]; omega) (Or.inr hp) kk
theorem zk_in9 {a0 a1 a2 a3 a4 a5 a6 a7 a8 : Option Value} {tl : List (Option Value)} {n : Nat} (h : zk_C v X E own cc dep) (d : zk_D cc pc pc' (.iinc 9 1) 3) (kk : zk_A v X E pc' (a0 :: a1 :: a2 :: a3 :: a4 :: a5 :: a6 :: a7 :: a8 :: some (.int (nI (n + 1))) :: tl) st I J) : zk_A v X E pc (a0 :: a1 :: a2 :: a3 :: a4 :: a5 :: a6 :: a7 :: a8 :: some (.int (nI n)) :: tl) st I J := by
  refine zk_iincG (lv := a0 :: a1 :: a2 :: a3 :: a4 :: a5 :: a6 :: a7 :: a8 :: some (.int (nI n)) :: tl) h d rfl ?_
  rw [show nI n + Int32.ofInt 1 = nI (n + 1) from nI_1 n]
  exact kk
theorem zk_fg9 {a0 a1 a2 a3 a4 a5 a6 a7 a8 a9 : Option Value} {tl : List (Option Value)} (kk : zk_A v X E pc (a0 :: a1 :: a2 :: a3 :: a4 :: a5 :: a6 :: a7 :: a8 :: none :: tl) st I J) : zk_A v X E pc (a0 :: a1 :: a2 :: a3 :: a4 :: a5 :: a6 :: a7 :: a8 :: a9 :: tl) st I J := zk_fg (lv := a0 :: a1 :: a2 :: a3 :: a4 :: a5 :: a6 :: a7 :: a8 :: a9 :: tl) 9 kk
theorem zk_is10 {a0 a1 a2 a3 a4 a5 a6 a7 a8 a9 a10 : Option Value} {tl : List (Option Value)} {x : Int32} (h : zk_C v X E own cc dep) (d : zk_D cc pc pc' (.istore 10) 2) (hp : zk_n2 (some a9) = true) (kk : zk_A v X E pc' (a0 :: a1 :: a2 :: a3 :: a4 :: a5 :: a6 :: a7 :: a8 :: a9 :: some (.int x) :: tl) st I J) : zk_A v X E pc (a0 :: a1 :: a2 :: a3 :: a4 :: a5 :: a6 :: a7 :: a8 :: a9 :: a10 :: tl) (.int x :: st) I J := zk_istoreG (lv := a0 :: a1 :: a2 :: a3 :: a4 :: a5 :: a6 :: a7 :: a8 :: a9 :: a10 :: tl) h d (by simp only [List.length_cons]; omega) (Or.inr hp) kk
theorem zk_as10 {a0 a1 a2 a3 a4 a5 a6 a7 a8 a9 a10 : Option Value} {tl : List (Option Value)} {x : Nat} (h : zk_C v X E own cc dep) (d : zk_D cc pc pc' (.astore 10) 2) (hp : zk_n2 (some a9) = true) (kk : zk_A v X E pc' (a0 :: a1 :: a2 :: a3 :: a4 :: a5 :: a6 :: a7 :: a8 :: a9 :: some (.ref x) :: tl) st I J) : zk_A v X E pc (a0 :: a1 :: a2 :: a3 :: a4 :: a5 :: a6 :: a7 :: a8 :: a9 :: a10 :: tl) (.ref x :: st) I J := zk_astoreG (lv := a0 :: a1 :: a2 :: a3 :: a4 :: a5 :: a6 :: a7 :: a8 :: a9 :: a10 :: tl) h d (by simp only [List.length_cons]; omega) (Or.inr hp) kk
theorem zk_ls10 {a0 a1 a2 a3 a4 a5 a6 a7 a8 a9 a10 a11 : Option Value} {tl : List (Option Value)} {x : Int64} (h : zk_C v X E own cc dep) (d : zk_D cc pc pc' (.lstore 10) 2) (hp : zk_n2 (some a9) = true) (kk : zk_A v X E pc' (a0 :: a1 :: a2 :: a3 :: a4 :: a5 :: a6 :: a7 :: a8 :: a9 :: some (.long x) :: none :: tl) st I J) : zk_A v X E pc (a0 :: a1 :: a2 :: a3 :: a4 :: a5 :: a6 :: a7 :: a8 :: a9 :: a10 :: a11 :: tl) (.long x :: st) I J := zk_lstoreG (lv := a0 :: a1 :: a2 :: a3 :: a4 :: a5 :: a6 :: a7 :: a8 :: a9 :: a10 :: a11 :: tl) h d (by simp only [List.length_cons]; omega) (Or.inr hp) kk
theorem zk_in10 {a0 a1 a2 a3 a4 a5 a6 a7 a8 a9 : Option Value} {tl : List (Option Value)} {n : Nat} (h : zk_C v X E own cc dep) (d : zk_D cc pc pc' (.iinc 10 1) 3) (kk : zk_A v X E pc' (a0 :: a1 :: a2 :: a3 :: a4 :: a5 :: a6 :: a7 :: a8 :: a9 :: some (.int (nI (n + 1))) :: tl) st I J) : zk_A v X E pc (a0 :: a1 :: a2 :: a3 :: a4 :: a5 :: a6 :: a7 :: a8 :: a9 :: some (.int (nI n)) :: tl) st I J := by
  refine zk_iincG (lv := a0 :: a1 :: a2 :: a3 :: a4 :: a5 :: a6 :: a7 :: a8 :: a9 :: some (.int (nI n)) :: tl) h d rfl ?_
  rw [show nI n + Int32.ofInt 1 = nI (n + 1) from nI_1 n]
  exact kk
theorem zk_fg10 {a0 a1 a2 a3 a4 a5 a6 a7 a8 a9 a10 : Option Value} {tl : List (Option Value)} (kk : zk_A v X E pc (a0 :: a1 :: a2 :: a3 :: a4 :: a5 :: a6 :: a7 :: a8 :: a9 :: none :: tl) st I J) : zk_A v X E pc (a0 :: a1 :: a2 :: a3 :: a4 :: a5 :: a6 :: a7 :: a8 :: a9 :: a10 :: tl) st I J := zk_fg (lv := a0 :: a1 :: a2 :: a3 :: a4 :: a5 :: a6 :: a7 :: a8 :: a9 :: a10 :: tl) 10 kk
theorem zk_is11 {a0 a1 a2 a3 a4 a5 a6 a7 a8 a9 a10 a11 : Option Value} {tl : List (Option Value)} {x : Int32} (h : zk_C v X E own cc dep) (d : zk_D cc pc pc' (.istore 11) 2) (hp : zk_n2 (some a10) = true) (kk : zk_A v X E pc' (a0 :: a1 :: a2 :: a3 :: a4 :: a5 :: a6 :: a7 :: a8 :: a9 :: a10 :: some (.int x) :: tl) st I J) : zk_A v X E pc (a0 :: a1 :: a2 :: a3 :: a4 :: a5 :: a6 :: a7 :: a8 :: a9 :: a10 :: a11 :: tl) (.int x :: st) I J := zk_istoreG (lv := a0 :: a1 :: a2 :: a3 :: a4 :: a5 :: a6 :: a7 :: a8 :: a9 :: a10 :: a11 :: tl) h d (by simp only [List.length_cons]; omega) (Or.inr hp) kk
theorem zk_as11 {a0 a1 a2 a3 a4 a5 a6 a7 a8 a9 a10 a11 : Option Value} {tl : List (Option Value)} {x : Nat} (h : zk_C v X E own cc dep) (d : zk_D cc pc pc' (.astore 11) 2) (hp : zk_n2 (some a10) = true) (kk : zk_A v X E pc' (a0 :: a1 :: a2 :: a3 :: a4 :: a5 :: a6 :: a7 :: a8 :: a9 :: a10 :: some (.ref x) :: tl) st I J) : zk_A v X E pc (a0 :: a1 :: a2 :: a3 :: a4 :: a5 :: a6 :: a7 :: a8 :: a9 :: a10 :: a11 :: tl) (.ref x :: st) I J := zk_astoreG (lv := a0 :: a1 :: a2 :: a3 :: a4 :: a5 :: a6 :: a7 :: a8 :: a9 :: a10 :: a11 :: tl) h d (by simp only [List.length_cons]; omega) (Or.inr hp) kk
theorem zk_ls11 {a0 a1 a2 a3 a4 a5 a6 a7 a8 a9 a10 a11 a12 : Option Value} {tl : List (Option Value)} {x : Int64} (h : zk_C v X E own cc dep) (d : zk_D cc pc pc' (.lstore 11) 2) (hp : zk_n2 (some a10) = true) (kk : zk_A v X E pc' (a0 :: a1 :: a2 :: a3 :: a4 :: a5 :: a6 :: a7 :: a8 :: a9 :: a10 :: some (.long x) :: none :: tl) st I J) : zk_A v X E pc (a0 :: a1 :: a2 :: a3 :: a4 :: a5 :: a6 :: a7 :: a8 :: a9 :: a10 :: a11 :: a12 :: tl) (.long x :: st) I J := zk_lstoreG (lv := a0 :: a1 :: a2 :: a3 :: a4 :: a5 :: a6 :: a7 :: a8 :: a9 :: a10 :: a11 :: a12 :: tl) h d (by simp only [List.length_cons]; omega) (Or.inr hp) kk
theorem zk_in11 {a0 a1 a2 a3 a4 a5 a6 a7 a8 a9 a10 : Option Value} {tl : List (Option Value)} {n : Nat} (h : zk_C v X E own cc dep) (d : zk_D cc pc pc' (.iinc 11 1) 3) (kk : zk_A v X E pc' (a0 :: a1 :: a2 :: a3 :: a4 :: a5 :: a6 :: a7 :: a8 :: a9 :: a10 :: some (.int (nI (n + 1))) :: tl) st I J) : zk_A v X E pc (a0 :: a1 :: a2 :: a3 :: a4 :: a5 :: a6 :: a7 :: a8 :: a9 :: a10 :: some (.int (nI n)) :: tl) st I J := by
  refine zk_iincG (lv := a0 :: a1 :: a2 :: a3 :: a4 :: a5 :: a6 :: a7 :: a8 :: a9 :: a10 :: some (.int (nI n)) :: tl) h d rfl ?_
  rw [show nI n + Int32.ofInt 1 = nI (n + 1) from nI_1 n]
  exact kk
theorem zk_fg11 {a0 a1 a2 a3 a4 a5 a6 a7 a8 a9 a10 a11 : Option Value} {tl : List (Option Value)} (kk : zk_A v X E pc (a0 :: a1 :: a2 :: a3 :: a4 :: a5 :: a6 :: a7 :: a8 :: a9 :: a10 :: none :: tl) st I J) : zk_A v X E pc (a0 :: a1 :: a2 :: a3 :: a4 :: a5 :: a6 :: a7 :: a8 :: a9 :: a10 :: a11 :: tl) st I J := zk_fg (lv := a0 :: a1 :: a2 :: a3 :: a4 :: a5 :: a6 :: a7 :: a8 :: a9 :: a10 :: a11 :: tl) 11 kk
theorem zk_is12 {a0 a1 a2 a3 a4 a5 a6 a7 a8 a9 a10 a11 a12 : Option Value} {tl : List (Option Value)} {x : Int32} (h : zk_C v X E own cc dep) (d : zk_D cc pc pc' (.istore 12) 2) (hp : zk_n2 (some a11) = true) (kk : zk_A v X E pc' (a0 :: a1 :: a2 :: a3 :: a4 :: a5 :: a6 :: a7 :: a8 :: a9 :: a10 :: a11 :: some (.int x) :: tl) st I J) : zk_A v X E pc (a0 :: a1 :: a2 :: a3 :: a4 :: a5 :: a6 :: a7 :: a8 :: a9 :: a10 :: a11 :: a12 :: tl) (.int x :: st) I J := zk_istoreG (lv := a0 :: a1 :: a2 :: a3 :: a4 :: a5 :: a6 :: a7 :: a8 :: a9 :: a10 :: a11 :: a12 :: tl) h d (by simp only [List.length_cons]; omega) (Or.inr hp) kk
theorem zk_as12 {a0 a1 a2 a3 a4 a5 a6 a7 a8 a9 a10 a11 a12 : Option Value} {tl : List (Option Value)} {x : Nat} (h : zk_C v X E own cc dep) (d : zk_D cc pc pc' (.astore 12) 2) (hp : zk_n2 (some a11) = true) (kk : zk_A v X E pc' (a0 :: a1 :: a2 :: a3 :: a4 :: a5 :: a6 :: a7 :: a8 :: a9 :: a10 :: a11 :: some (.ref x) :: tl) st I J) : zk_A v X E pc (a0 :: a1 :: a2 :: a3 :: a4 :: a5 :: a6 :: a7 :: a8 :: a9 :: a10 :: a11 :: a12 :: tl) (.ref x :: st) I J := zk_astoreG (lv := a0 :: a1 :: a2 :: a3 :: a4 :: a5 :: a6 :: a7 :: a8 :: a9 :: a10 :: a11 :: a12 :: tl) h d (by simp only [List.length_cons]; omega) (Or.inr hp) kk
theorem zk_ls12 {a0 a1 a2 a3 a4 a5 a6 a7 a8 a9 a10 a11 a12 a13 : Option Value} {tl : List (Option Value)} {x : Int64} (h : zk_C v X E own cc dep) (d : zk_D cc pc pc' (.lstore 12) 2) (hp : zk_n2 (some a11) = true) (kk : zk_A v X E pc' (a0 :: a1 :: a2 :: a3 :: a4 :: a5 :: a6 :: a7 :: a8 :: a9 :: a10 :: a11 :: some (.long x) :: none :: tl) st I J) : zk_A v X E pc (a0 :: a1 :: a2 :: a3 :: a4 :: a5 :: a6 :: a7 :: a8 :: a9 :: a10 :: a11 :: a12 :: a13 :: tl) (.long x :: st) I J := zk_lstoreG (lv := a0 :: a1 :: a2 :: a3 :: a4 :: a5 :: a6 :: a7 :: a8 :: a9 :: a10 :: a11 :: a12 :: a13 :: tl) h d (by simp only [List.length_cons]; omega) (Or.inr hp) kk
theorem zk_in12 {a0 a1 a2 a3 a4 a5 a6 a7 a8 a9 a10 a11 : Option Value} {tl : List (Option Value)} {n : Nat} (h : zk_C v X E own cc dep) (d : zk_D cc pc pc' (.iinc 12 1) 3) (kk : zk_A v X E pc' (a0 :: a1 :: a2 :: a3 :: a4 :: a5 :: a6 :: a7 :: a8 :: a9 :: a10 :: a11 :: some (.int (nI (n + 1))) :: tl) st I J) : zk_A v X E pc (a0 :: a1 :: a2 :: a3 :: a4 :: a5 :: a6 :: a7 :: a8 :: a9 :: a10 :: a11 :: some (.int (nI n)) :: tl) st I J := by
  refine zk_iincG (lv := a0 :: a1 :: a2 :: a3 :: a4 :: a5 :: a6 :: a7 :: a8 :: a9 :: a10 :: a11 :: some (.int (nI n)) :: tl) h d rfl ?_
  rw [show nI n + Int32.ofInt 1 = nI (n + 1) from nI_1 n]
  exact kk
theorem zk_fg12 {a0 a1 a2 a3 a4 a5 a6 a7 a8 a9 a10 a11 a12 : Option Value} {tl : List (Option Value)} (kk : zk_A v X E pc (a0 :: a1 :: a2 :: a3 :: a4 :: a5 :: a6 :: a7 :: a8 :: a9 :: a10 :: a11 :: none :: tl) st I J) : zk_A v X E pc (a0 :: a1 :: a2 :: a3 :: a4 :: a5 :: a6 :: a7 :: a8 :: a9 :: a10 :: a11 :: a12 :: tl) st I J := zk_fg (lv := a0 :: a1 :: a2 :: a3 :: a4 :: a5 :: a6 :: a7 :: a8 :: a9 :: a10 :: a11 :: a12 :: tl) 12 kk
theorem zk_is13 {a0 a1 a2 a3 a4 a5 a6 a7 a8 a9 a10 a11 a12 a13 : Option Value} {tl : List (Option Value)} {x : Int32} (h : zk_C v X E own cc dep) (d : zk_D cc pc pc' (.istore 13) 2) (hp : zk_n2 (some a12) = true) (kk : zk_A v X E pc' (a0 :: a1 :: a2 :: a3 :: a4 :: a5 :: a6 :: a7 :: a8 :: a9 :: a10 :: a11 :: a12 :: some (.int x) :: tl) st I J) : zk_A v X E pc (a0 :: a1 :: a2 :: a3 :: a4 :: a5 :: a6 :: a7 :: a8 :: a9 :: a10 :: a11 :: a12 :: a13 :: tl) (.int x :: st) I J := zk_istoreG (lv := a0 :: a1 :: a2 :: a3 :: a4 :: a5 :: a6 :: a7 :: a8 :: a9 :: a10 :: a11 :: a12 :: a13 :: tl) h d (by simp only [List.length_cons]; omega) (Or.inr hp) kk
theorem zk_as13 {a0 a1 a2 a3 a4 a5 a6 a7 a8 a9 a10 a11 a12 a13 : Option Value} {tl : List (Option Value)} {x : Nat} (h : zk_C v X E own cc dep) (d : zk_D cc pc pc' (.astore 13) 2) (hp : zk_n2 (some a12) = true) (kk : zk_A v X E pc' (a0 :: a1 :: a2 :: a3 :: a4 :: a5 :: a6 :: a7 :: a8 :: a9 :: a10 :: a11 :: a12 :: some (.ref x) :: tl) st I J) : zk_A v X E pc (a0 :: a1 :: a2 :: a3 :: a4 :: a5 :: a6 :: a7 :: a8 :: a9 :: a10 :: a11 :: a12 :: a13 :: tl) (.ref x :: st) I J := zk_astoreG (lv := a0 :: a1 :: a2 :: a3 :: a4 :: a5 :: a6 :: a7 :: a8 :: a9 :: a10 :: a11 :: a12 :: a13 :: tl) h d (by simp only [List.length_cons]; omega) (Or.inr hp) kk
theorem zk_ls13 {a0 a1 a2 a3 a4 a5 a6 a7 a8 a9 a10 a11 a12 a13 a14 : Option Value} {tl : List (Option Value)} {x : Int64} (h : zk_C v X E own cc dep) (d : zk_D cc pc pc' (.lstore 13) 2) (hp : zk_n2 (some a12) = true) (kk : zk_A v X E pc' (a0 :: a1 :: a2 :: a3 :: a4 :: a5 :: a6 :: a7 :: a8 :: a9 :: a10 :: a11 :: a12 :: some (.long x) :: none :: tl) st I J) : zk_A v X E pc (a0 :: a1 :: a2 :: a3 :: a4 :: a5 :: a6 :: a7 :: a8 :: a9 :: a10 :: a11 :: a12 :: a13 :: a14 :: tl) (.long x :: st) I J := zk_lstoreG (lv := a0 :: a1 :: a2 :: a3 :: a4 :: a5 :: a6 :: a7 :: a8 :: a9 :: a10 :: a11 :: a12 :: a13 :: a14 :: tl) h d (by simp only [List.length_cons]; omega) (Or.inr hp) kk
theorem zk_in13 {a0 a1 a2 a3 a4 a5 a6 a7 a8 a9 a10 a11 a12 : Option Value} {tl : List (Option Value)} {n : Nat} (h : zk_C v X E own cc dep) (d : zk_D cc pc pc' (.iinc 13 1) 3) (kk : zk_A v X E pc' (a0 :: a1 :: a2 :: a3 :: a4 :: a5 :: a6 :: a7 :: a8 :: a9 :: a10 :: a11 :: a12 :: some (.int (nI (n + 1))) :: tl) st I J) : zk_A v X E pc (a0 :: a1 :: a2 :: a3 :: a4 :: a5 :: a6 :: a7 :: a8 :: a9 :: a10 :: a11 :: a12 :: some (.int (nI n)) :: tl) st I J := by
  refine zk_iincG (lv := a0 :: a1 :: a2 :: a3 :: a4 :: a5 :: a6 :: a7 :: a8 :: a9 :: a10 :: a11 :: a12 :: some (.int (nI n)) :: tl) h d rfl ?_
  rw [show nI n + Int32.ofInt 1 = nI (n + 1) from nI_1 n]
  exact kk
theorem zk_fg13 {a0 a1 a2 a3 a4 a5 a6 a7 a8 a9 a10 a11 a12 a13 : Option Value} {tl : List (Option Value)} (kk : zk_A v X E pc (a0 :: a1 :: a2 :: a3 :: a4 :: a5 :: a6 :: a7 :: a8 :: a9 :: a10 :: a11 :: a12 :: none :: tl) st I J) : zk_A v X E pc (a0 :: a1 :: a2 :: a3 :: a4 :: a5 :: a6 :: a7 :: a8 :: a9 :: a10 :: a11 :: a12 :: a13 :: tl) st I J := zk_fg (lv := a0 :: a1 :: a2 :: a3 :: a4 :: a5 :: a6 :: a7 :: a8 :: a9 :: a10 :: a11 :: a12 :: a13 :: tl) 13 kk
theorem zk_is14 {a0 a1 a2 a3 a4 a5 a6 a7 a8 a9 a10 a11 a12 a13 a14 : Option Value} {tl : List (Option Value)} {x : Int32} (h : zk_C v X E own cc dep) (d : zk_D cc pc pc' (.istore 14) 2) (hp : zk_n2 (some a13) = true) (kk : zk_A v X E pc' (a0 :: a1 :: a2 :: a3 :: a4 :: a5 :: a6 :: a7 :: a8 :: a9 :: a10 :: a11 :: a12 :: a13 :: some (.int x) :: tl) st I J) : zk_A v X E pc (a0 :: a1 :: a2 :: a3 :: a4 :: a5 :: a6 :: a7 :: a8 :: a9 :: a10 :: a11 :: a12 :: a13 :: a14 :: tl) (.int x :: st) I J := zk_istoreG (lv := a0 :: a1 :: a2 :: a3 :: a4 :: a5 :: a6 :: a7 :: a8 :: a9 :: a10 :: a11 :: a12 :: a13 :: a14 :: tl) h d (by simp only [List.length_cons]; omega) (Or.inr hp) kk
theorem zk_as14 {a0 a1 a2 a3 a4 a5 a6 a7 a8 a9 a10 a11 a12 a13 a14 : Option Value} {tl : List (Option Value)} {x : Nat} (h : zk_C v X E own cc dep) (d : zk_D cc pc pc' (.astore 14) 2) (hp : zk_n2 (some a13) = true) (kk : zk_A v X E pc' (a0 :: a1 :: a2 :: a3 :: a4 :: a5 :: a6 :: a7 :: a8 :: a9 :: a10 :: a11 :: a12 :: a13 :: some (.ref x) :: tl) st I J) : zk_A v X E pc (a0 :: a1 :: a2 :: a3 :: a4 :: a5 :: a6 :: a7 :: a8 :: a9 :: a10 :: a11 :: a12 :: a13 :: a14 :: tl) (.ref x :: st) I J := zk_astoreG (lv := a0 :: a1 :: a2 :: a3 :: a4 :: a5 :: a6 :: a7 :: a8 :: a9 :: a10 :: a11 :: a12 :: a13 :: a14 :: tl) h d (by simp only [List.length_cons]; omega) (Or.inr hp) kk
theorem zk_ls14 {a0 a1 a2 a3 a4 a5 a6 a7 a8 a9 a10 a11 a12 a13 a14 a15 : Option Value} {tl : List (Option Value)} {x : Int64} (h : zk_C v X E own cc dep) (d : zk_D cc pc pc' (.lstore 14) 2) (hp : zk_n2 (some a13) = true) (kk : zk_A v X E pc' (a0 :: a1 :: a2 :: a3 :: a4 :: a5 :: a6 :: a7 :: a8 :: a9 :: a10 :: a11 :: a12 :: a13 :: some (.long x) :: none :: tl) st I J) : zk_A v X E pc (a0 :: a1 :: a2 :: a3 :: a4 :: a5 :: a6 :: a7 :: a8 :: a9 :: a10 :: a11 :: a12 :: a13 :: a14 :: a15 :: tl) (.long x :: st) I J := zk_lstoreG (lv := a0 :: a1 :: a2 :: a3 :: a4 :: a5 :: a6 :: a7 :: a8 :: a9 :: a10 :: a11 :: a12 :: a13 :: a14 :: a15 :: tl) h d (by simp only [List.length_cons]; omega) (Or.inr hp) kk
theorem zk_in14 {a0 a1 a2 a3 a4 a5 a6 a7 a8 a9 a10 a11 a12 a13 : Option Value} {tl : List (Option Value)} {n : Nat} (h : zk_C v X E own cc dep) (d : zk_D cc pc pc' (.iinc 14 1) 3) (kk : zk_A v X E pc' (a0 :: a1 :: a2 :: a3 :: a4 :: a5 :: a6 :: a7 :: a8 :: a9 :: a10 :: a11 :: a12 :: a13 :: some (.int (nI (n + 1))) :: tl) st I J) : zk_A v X E pc (a0 :: a1 :: a2 :: a3 :: a4 :: a5 :: a6 :: a7 :: a8 :: a9 :: a10 :: a11 :: a12 :: a13 :: some (.int (nI n)) :: tl) st I J := by
  refine zk_iincG (lv := a0 :: a1 :: a2 :: a3 :: a4 :: a5 :: a6 :: a7 :: a8 :: a9 :: a10 :: a11 :: a12 :: a13 :: some (.int (nI n)) :: tl) h d rfl ?_
  rw [show nI n + Int32.ofInt 1 = nI (n + 1) from nI_1 n]
  exact kk
theorem zk_fg14 {a0 a1 a2 a3 a4 a5 a6 a7 a8 a9 a10 a11 a12 a13 a14 : Option Value} {tl : List (Option Value)} (kk : zk_A v X E pc (a0 :: a1 :: a2 :: a3 :: a4 :: a5 :: a6 :: a7 :: a8 :: a9 :: a10 :: a11 :: a12 :: a13 :: none :: tl) st I J) : zk_A v X E pc (a0 :: a1 :: a2 :: a3 :: a4 :: a5 :: a6 :: a7 :: a8 :: a9 :: a10 :: a11 :: a12 :: a13 :: a14 :: tl) st I J := zk_fg (lv := a0 :: a1 :: a2 :: a3 :: a4 :: a5 :: a6 :: a7 :: a8 :: a9 :: a10 :: a11 :: a12 :: a13 :: a14 :: tl) 14 kk
theorem zk_is15 {a0 a1 a2 a3 a4 a5 a6 a7 a8 a9 a10 a11 a12 a13 a14 a15 : Option Value} {tl : List (Option Value)} {x : Int32} (h : zk_C v X E own cc dep) (d : zk_D cc pc pc' (.istore 15) 2) (hp : zk_n2 (some a14) = true) (kk : zk_A v X E pc' (a0 :: a1 :: a2 :: a3 :: a4 :: a5 :: a6 :: a7 :: a8 :: a9 :: a10 :: a11 :: a12 :: a13 :: a14 :: some (.int x) :: tl) st I J) : zk_A v X E pc (a0 :: a1 :: a2 :: a3 :: a4 :: a5 :: a6 :: a7 :: a8 :: a9 :: a10 :: a11 :: a12 :: a13 :: a14 :: a15 :: tl) (.int x :: st) I J := zk_istoreG (lv := a0 :: a1 :: a2 :: a3 :: a4 :: a5 :: a6 :: a7 :: a8 :: a9 :: a10 :: a11 :: a12 :: a13 :: a14 :: a15 :: tl) h d (by simp only [List.length_cons]; omega) (Or.inr hp) kk
theorem zk_as15 {a0 a1 a2 a3 a4 a5 a6 a7 a8 a9 a10 a11 a12 a13 a14 a15 : Option Value} {tl : List (Option Value)} {x : Nat} (h : zk_C v X E own cc dep) (d : zk_D cc pc pc' (.astore 15) 2) (hp : zk_n2 (some a14) = true) (kk : zk_A v X E pc' (a0 :: a1 :: a2 :: a3 :: a4 :: a5 :: a6 :: a7 :: a8 :: a9 :: a10 :: a11 :: a12 :: a13 :: a14 :: some (.ref x) :: tl) st I J) : zk_A v X E pc (a0 :: a1 :: a2 :: a3 :: a4 :: a5 :: a6 :: a7 :: a8 :: a9 :: a10 :: a11 :: a12 :: a13 :: a14 :: a15 :: tl) (.ref x :: st) I J := zk_astoreG (lv := a0 :: a1 :: a2 :: a3 :: a4 :: a5 :: a6 :: a7 :: a8 :: a9 :: a10 :: a11 :: a12 :: a13 :: a14 :: a15 :: tl) h d (by simp only [List.length_cons]; omega) (Or.inr hp) kk
theorem zk_ls15 {a0 a1 a2 a3 a4 a5 a6 a7 a8 a9 a10 a11 a12 a13 a14 a15 a16 : Option Value} {tl : List (Option Value)} {x : Int64} (h : zk_C v X E own cc dep) (d : zk_D cc pc pc' (.lstore 15) 2) (hp : zk_n2 (some a14) = true) (kk : zk_A v X E pc' (a0 :: a1 :: a2 :: a3 :: a4 :: a5 :: a6 :: a7 :: a8 :: a9 :: a10 :: a11 :: a12 :: a13 :: a14 :: some (.long x) :: none :: tl) st I J) : zk_A v X E pc (a0 :: a1 :: a2 :: a3 :: a4 :: a5 :: a6 :: a7 :: a8 :: a9 :: a10 :: a11 :: a12 :: a13 :: a14 :: a15 :: a16 :: tl) (.long x :: st) I J := zk_lstoreG (lv := a0 :: a1 :: a2 :: a3 :: a4 :: a5 :: a6 :: a7 :: a8 :: a9 :: a10 :: a11 :: a12 :: a13 :: a14 :: a15 :: a16 :: tl) h d (by simp only [List.length_cons]; omega) (Or.inr hp) kk
theorem zk_in15 {a0 a1 a2 a3 a4 a5 a6 a7 a8 a9 a10 a11 a12 a13 a14 : Option Value} {tl : List (Option Value)} {n : Nat} (h : zk_C v X E own cc dep) (d : zk_D cc pc pc' (.iinc 15 1) 3) (kk : zk_A v X E pc' (a0 :: a1 :: a2 :: a3 :: a4 :: a5 :: a6 :: a7 :: a8 :: a9 :: a10 :: a11 :: a12 :: a13 :: a14 :: some (.int (nI (n + 1))) :: tl) st I J) : zk_A v X E pc (a0 :: a1 :: a2 :: a3 :: a4 :: a5 :: a6 :: a7 :: a8 :: a9 :: a10 :: a11 :: a12 :: a13 :: a14 :: some (.int (nI n)) :: tl) st I J := by
  refine zk_iincG (lv := a0 :: a1 :: a2 :: a3 :: a4 :: a5 :: a6 :: a7 :: a8 :: a9 :: a10 :: a11 :: a12 :: a13 :: a14 :: some (.int (nI n)) :: tl) h d rfl ?_
  rw [show nI n + Int32.ofInt 1 = nI (n + 1) from nI_1 n]
  exact kk
theorem zk_fg15 {a0 a1 a2 a3 a4 a5 a6 a7 a8 a9 a10 a11 a12 a13 a14 a15 : Option Value} {tl : List (Option Value)} (kk : zk_A v X E pc (a0 :: a1 :: a2 :: a3 :: a4 :: a5 :: a6 :: a7 :: a8 :: a9 :: a10 :: a11 :: a12 :: a13 :: a14 :: none :: tl) st I J) : zk_A v X E pc (a0 :: a1 :: a2 :: a3 :: a4 :: a5 :: a6 :: a7 :: a8 :: a9 :: a10 :: a11 :: a12 :: a13 :: a14 :: a15 :: tl) st I J := zk_fg (lv := a0 :: a1 :: a2 :: a3 :: a4 :: a5 :: a6 :: a7 :: a8 :: a9 :: a10 :: a11 :: a12 :: a13 :: a14 :: a15 :: tl) 15 kk
theorem zk_is16 {a0 a1 a2 a3 a4 a5 a6 a7 a8 a9 a10 a11 a12 a13 a14 a15 a16 : Option Value} {tl : List (Option Value)} {x : Int32} (h : zk_C v X E own cc dep) (d : zk_D cc pc pc' (.istore 16) 2) (hp : zk_n2 (some a15) = true) (kk : zk_A v X E pc' (a0 :: a1 :: a2 :: a3 :: a4 :: a5 :: a6 :: a7 :: a8 :: a9 :: a10 :: a11 :: a12 :: a13 :: a14 :: a15 :: some (.int x) :: tl) st I J) : zk_A v X E pc (a0 :: a1 :: a2 :: a3 :: a4 :: a5 :: a6 :: a7 :: a8 :: a9 :: a10 :: a11 :: a12 :: a13 :: a14 :: a15 :: a16 :: tl) (.int x :: st) I J := zk_istoreG (lv := a0 :: a1 :: a2 :: a3 :: a4 :: a5 :: a6 :: a7 :: a8 :: a9 :: a10 :: a11 :: a12 :: a13 :: a14 :: a15 :: a16 :: tl) h d (by simp only [List.length_cons]; omega) (Or.inr hp) kk
theorem zk_as16 {a0 a1 a2 a3 a4 a5 a6 a7 a8 a9 a10 a11 a12 a13 a14 a15 a16 : Option Value} {tl : List (Option Value)} {x : Nat} (h : zk_C v X E own cc dep) (d : zk_D cc pc pc' (.astore 16) 2) (hp : zk_n2 (some a15) = true) (kk : zk_A v X E pc' (a0 :: a1 :: a2 :: a3 :: a4 :: a5 :: a6 :: a7 :: a8 :: a9 :: a10 :: a11 :: a12 :: a13 :: a14 :: a15 :: some (.ref x) :: tl) st I J) : zk_A v X E pc (a0 :: a1 :: a2 :: a3 :: a4 :: a5 :: a6 :: a7 :: a8 :: a9 :: a10 :: a11 :: a12 :: a13 :: a14 :: a15 :: a16 :: tl) (.ref x :: st) I J := zk_astoreG (lv := a0 :: a1 :: a2 :: a3 :: a4 :: a5 :: a6 :: a7 :: a8 :: a9 :: a10 :: a11 :: a12 :: a13 :: a14 :: a15 :: a16 :: tl) h d (by simp only [List.length_cons]; omega) (Or.inr hp) kk
theorem zk_ls16 {a0 a1 a2 a3 a4 a5 a6 a7 a8 a9 a10 a11 a12 a13 a14 a15 a16 a17 : Option Value} {tl : List (Option Value)} {x : Int64} (h : zk_C v X E own cc dep) (d : zk_D cc pc pc' (.lstore 16) 2) (hp : zk_n2 (some a15) = true) (kk : zk_A v X E pc' (a0 :: a1 :: a2 :: a3 :: a4 :: a5 :: a6 :: a7 :: a8 :: a9 :: a10 :: a11 :: a12 :: a13 :: a14 :: a15 :: some (.long x) :: none :: tl) st I J) : zk_A v X E pc (a0 :: a1 :: a2 :: a3 :: a4 :: a5 :: a6 :: a7 :: a8 :: a9 :: a10 :: a11 :: a12 :: a13 :: a14 :: a15 :: a16 :: a17 :: tl) (.long x :: st) I J := zk_lstoreG (lv := a0 :: a1 :: a2 :: a3 :: a4 :: a5 :: a6 :: a7 :: a8 :: a9 :: a10 :: a11 :: a12 :: a13 :: a14 :: a15 :: a16 :: a17 :: tl) h d (by simp only [List.length_cons]; omega) (Or.inr hp) kk
theorem zk_in16 {a0 a1 a2 a3 a4 a5 a6 a7 a8 a9 a10 a11 a12 a13 a14 a15 : Option Value} {tl : List (Option Value)} {n : Nat} (h : zk_C v X E own cc dep) (d : zk_D cc pc pc' (.iinc 16 1) 3) (kk : zk_A v X E pc' (a0 :: a1 :: a2 :: a3 :: a4 :: a5 :: a6 :: a7 :: a8 :: a9 :: a10 :: a11 :: a12 :: a13 :: a14 :: a15 :: some (.int (nI (n + 1))) :: tl) st I J) : zk_A v X E pc (a0 :: a1 :: a2 :: a3 :: a4 :: a5 :: a6 :: a7 :: a8 :: a9 :: a10 :: a11 :: a12 :: a13 :: a14 :: a15 :: some (.int (nI n)) :: tl) st I J := by
  refine zk_iincG (lv := a0 :: a1 :: a2 :: a3 :: a4 :: a5 :: a6 :: a7 :: a8 :: a9 :: a10 :: a11 :: a12 :: a13 :: a14 :: a15 :: some (.int (nI n)) :: tl) h d rfl ?_
  rw [show nI n + Int32.ofInt 1 = nI (n + 1) from nI_1 n]
  exact kk
theorem zk_fg16 {a0 a1 a2 a3 a4 a5 a6 a7 a8 a9 a10 a11 a12 a13 a14 a15 a16 : Option Value} {tl : List (Option Value)} (kk : zk_A v X E pc (a0 :: a1 :: a2 :: a3 :: a4 :: a5 :: a6 :: a7 :: a8 :: a9 :: a10 :: a11 :: a12 :: a13 :: a14 :: a15 :: none :: tl) st I J) : zk_A v X E pc (a0 :: a1 :: a2 :: a3 :: a4 :: a5 :: a6 :: a7 :: a8 :: a9 :: a10 :: a11 :: a12 :: a13 :: a14 :: a15 :: a16 :: tl) st I J := zk_fg (lv := a0 :: a1 :: a2 :: a3 :: a4 :: a5 :: a6 :: a7 :: a8 :: a9 :: a10 :: a11 :: a12 :: a13 :: a14 :: a15 :: a16 :: tl) 16 kk
theorem zk_is17 {a0 a1 a2 a3 a4 a5 a6 a7 a8 a9 a10 a11 a12 a13 a14 a15 a16 a17 : Option Value} {tl : List (Option Value)} {x : Int32} (h : zk_C v X E own cc dep) (d : zk_D cc pc pc' (.istore 17) 2) (hp : zk_n2 (some a16) = true) (kk : zk_A v X E pc' (a0 :: a1 :: a2 :: a3 :: a4 :: a5 :: a6 :: a7 :: a8 :: a9 :: a10 :: a11 :: a12 :: a13 :: a14 :: a15 :: a16 :: some (.int x) :: tl) st I J) : zk_A v X E pc (a0 :: a1 :: a2 :: a3 :: a4 :: a5 :: a6 :: a7 :: a8 :: a9 :: a10 :: a11 :: a12 :: a13 :: a14 :: a15 :: a16 :: a17 :: tl) (.int x :: st) I J := zk_istoreG (lv := a0 :: a1 :: a2 :: a3 :: a4 :: a5 :: a6 :: a7 :: a8 :: a9 :: a10 :: a11 :: a12 :: a13 :: a14 :: a15 :: a16 :: a17 :: tl) h d (by simp only [List.length_cons]; omega) (Or.inr hp) kk
theorem zk_as17 {a0 a1 a2 a3 a4 a5 a6 a7 a8 a9 a10 a11 a12 a13 a14 a15 a16 a17 : Option Value} {tl : List (Option Value)} {x : Nat} (h : zk_C v X E own cc dep) (d : zk_D cc pc pc' (.astore 17) 2) (hp : zk_n2 (some a16) = true) (kk : zk_A v X E pc' (a0 :: a1 :: a2 :: a3 :: a4 :: a5 :: a6 :: a7 :: a8 :: a9 :: a10 :: a11 :: a12 :: a13 :: a14 :: a15 :: a16 :: some (.ref x) :: tl) st I J) : zk_A v X E pc (a0 :: a1 :: a2 :: a3 :: a4 :: a5 :: a6 :: a7 :: a8 :: a9 :: a10 :: a11 :: a12 :: a13 :: a14 :: a15 :: a16 :: a17 :: tl) (.ref x :: st) I J := zk_astoreG (lv := a0 :: a1 :: a2 :: a3 :: a4 :: a5 :: a6 :: a7 :: a8 :: a9 :: a10 :: a11 :: a12 :: a13 :: a14 :: a15 :: a16 :: a17 :: tl) h d (by simp only [List.length_cons]; omega) (Or.inr hp) kk
theorem zk_ls17 {a0 a1 a2 a3 a4 a5 a6 a7 a8 a9 a10 a11 a12 a13 a14 a15 a16 a17 a18 : Option Value} {tl : List (Option Value)} {x : Int64} (h : zk_C v X E own cc dep) (d : zk_D cc pc pc' (.lstore 17) 2) (hp : zk_n2 (some a16) = true) (kk : zk_A v X E pc' (a0 :: a1 :: a2 :: a3 :: a4 :: a5 :: a6 :: a7 :: a8 :: a9 :: a10 :: a11 :: a12 :: a13 :: a14 :: a15 :: a16 :: some (.long x) :: none :: tl) st I J) : zk_A v X E pc (a0 :: a1 :: a2 :: a3 :: a4 :: a5 :: a6 :: a7 :: a8 :: a9 :: a10 :: a11 :: a12 :: a13 :: a14 :: a15 :: a16 :: a17 :: a18 :: tl) (.long x :: st) I J := zk_lstoreG (lv := a0 :: a1 :: a2 :: a3 :: a4 :: a5 :: a6 :: a7 :: a8 :: a9 :: a10 :: a11 :: a12 :: a13 :: a14 :: a15 :: a16 :: a17 :: a18 :: tl) h d (by simp only [List.length_cons]; omega) (Or.inr hp) kk
theorem zk_in17 {a0 a1 a2 a3 a4 a5 a6 a7 a8 a9 a10 a11 a12 a13 a14 a15 a16 : Option Value} {tl : List (Option Value)} {n : Nat} (h : zk_C v X E own cc dep) (d : zk_D cc pc pc' (.iinc 17 1) 3) (kk : zk_A v X E pc' (a0 :: a1 :: a2 :: a3 :: a4 :: a5 :: a6 :: a7 :: a8 :: a9 :: a10 :: a11 :: a12 :: a13 :: a14 :: a15 :: a16 :: some (.int (nI (n + 1))) :: tl) st I J) : zk_A v X E pc (a0 :: a1 :: a2 :: a3 :: a4 :: a5 :: a6 :: a7 :: a8 :: a9 :: a10 :: a11 :: a12 :: a13 :: a14 :: a15 :: a16 :: some (.int (nI n)) :: tl) st I J := by
  refine zk_iincG (lv := a0 :: a1 :: a2 :: a3 :: a4 :: a5 :: a6 :: a7 :: a8 :: a9 :: a10 :: a11 :: a12 :: a13 :: a14 :: a15 :: a16 :: some (.int (nI n)) :: tl) h d rfl ?_
  rw [show nI n + Int32.ofInt 1 = nI (n + 1) from nI_1 n]
  exact kk
theorem zk_fg17 {a0 a1 a2 a3 a4 a5 a6 a7 a8 a9 a10 a11 a12 a13 a14 a15 a16 a17 : Option Value} {tl : List (Option Value)} (kk : zk_A v X E pc (a0 :: a1 :: a2 :: a3 :: a4 :: a5 :: a6 :: a7 :: a8 :: a9 :: a10 :: a11 :: a12 :: a13 :: a14 :: a15 :: a16 :: none :: tl) st I J) : zk_A v X E pc (a0 :: a1 :: a2 :: a3 :: a4 :: a5 :: a6 :: a7 :: a8 :: a9 :: a10 :: a11 :: a12 :: a13 :: a14 :: a15 :: a16 :: a17 :: tl) st I J := zk_fg (lv := a0 :: a1 :: a2 :: a3 :: a4 :: a5 :: a6 :: a7 :: a8 :: a9 :: a10 :: a11 :: a12 :: a13 :: a14 :: a15 :: a16 :: a17 :: tl) 17 kk
theorem zk_is18 {a0 a1 a2 a3 a4 a5 a6 a7 a8 a9 a10 a11 a12 a13 a14 a15 a16 a17 a18 : Option Value} {tl : List (Option Value)} {x : Int32} (h : zk_C v X E own cc dep) (d : zk_D cc pc pc' (.istore 18) 2) (hp : zk_n2 (some a17) = true) (kk : zk_A v X E pc' (a0 :: a1 :: a2 :: a3 :: a4 :: a5 :: a6 :: a7 :: a8 :: a9 :: a10 :: a11 :: a12 :: a13 :: a14 :: a15 :: a16 :: a17 :: some (.int x) :: tl) st I J) : zk_A v X E pc (a0 :: a1 :: a2 :: a3 :: a4 :: a5 :: a6 :: a7 :: a8 :: a9 :: a10 :: a11 :: a12 :: a13 :: a14 :: a15 :: a16 :: a17 :: a18 :: tl) (.int x :: st) I J := zk_istoreG (lv := a0 :: a1 :: a2 :: a3 :: a4 :: a5 :: a6 :: a7 :: a8 :: a9 :: a10 :: a11 :: a12 :: a13 :: a14 :: a15 :: a16 :: a17 :: a18 :: tl) h d (by simp only [List.length_cons]; omega) (Or.inr hp) kk
theorem zk_as18 {a0 a1 a2 a3 a4 a5 a6 a7 a8 a9 a10 a11 a12 a13 a14 a15 a16 a17 a18 : Option Value} {tl : List (Option Value)} {x : Nat} (h : zk_C v X E own cc dep) (d : zk_D cc pc pc' (.astore 18) 2) (hp : zk_n2 (some a17) = true) (kk : zk_A v X E pc' (a0 :: a1 :: a2 :: a3 :: a4 :: a5 :: a6 :: a7 :: a8 :: a9 :: a10 :: a11 :: a12 :: a13 :: a14 :: a15 :: a16 :: a17 :: some (.ref x) :: tl) st I J) : zk_A v X E pc (a0 :: a1 :: a2 :: a3 :: a4 :: a5 :: a6 :: a7 :: a8 :: a9 :: a10 :: a11 :: a12 :: a13 :: a14 :: a15 :: a16 :: a17 :: a18 :: tl) (.ref x :: st) I J := zk_astoreG (lv := a0 :: a1 :: a2 :: a3 :: a4 :: a5 :: a6 :: a7 :: a8 :: a9 :: a10 :: a11 :: a12 :: a13 :: a14 :: a15 :: a16 :: a17 :: a18 :: tl) h d (by simp only [List.length_cons]; omega) (Or.inr hp) kk
theorem zk_ls18 {a0 a1 a2 a3 a4 a5 a6 a7 a8 a9 a10 a11 a12 a13 a14 a15 a16 a17 a18 a19 : Option Value} {tl : List (Option Value)} {x : Int64} (h : zk_C v X E own cc dep) (d : zk_D cc pc pc' (.lstore 18) 2) (hp : zk_n2 (some a17) = true) (kk : zk_A v X E pc' (a0 :: a1 :: a2 :: a3 :: a4 :: a5 :: a6 :: a7 :: a8 :: a9 :: a10 :: a11 :: a12 :: a13 :: a14 :: a15 :: a16 :: a17 :: some (.long x) :: none :: tl) st I J) : zk_A v X E pc (a0 :: a1 :: a2 :: a3 :: a4 :: a5 :: a6 :: a7 :: a8 :: a9 :: a10 :: a11 :: a12 :: a13 :: a14 :: a15 :: a16 :: a17 :: a18 :: a19 :: tl) (.long x :: st) I J := zk_lstoreG (lv := a0 :: a1 :: a2 :: a3 :: a4 :: a5 :: a6 :: a7 :: a8 :: a9 :: a10 :: a11 :: a12 :: a13 :: a14 :: a15 :: a16 :: a17 :: a18 :: a19 :: tl) h d (by simp only [List.length_cons]; omega) (Or.inr hp) kk
theorem zk_in18 {a0 a1 a2 a3 a4 a5 a6 a7 a8 a9 a10 a11 a12 a13 a14 a15 a16 a17 : Option Value} {tl : List (Option Value)} {n : Nat} (h : zk_C v X E own cc dep) (d : zk_D cc pc pc' (.iinc 18 1) 3) (kk : zk_A v X E pc' (a0 :: a1 :: a2 :: a3 :: a4 :: a5 :: a6 :: a7 :: a8 :: a9 :: a10 :: a11 :: a12 :: a13 :: a14 :: a15 :: a16 :: a17 :: some (.int (nI (n + 1))) :: tl) st I J) : zk_A v X E pc (a0 :: a1 :: a2 :: a3 :: a4 :: a5 :: a6 :: a7 :: a8 :: a9 :: a10 :: a11 :: a12 :: a13 :: a14 :: a15 :: a16 :: a17 :: some (.int (nI n)) :: tl) st I J := by
  refine zk_iincG (lv := a0 :: a1 :: a2 :: a3 :: a4 :: a5 :: a6 :: a7 :: a8 :: a9 :: a10 :: a11 :: a12 :: a13 :: a14 :: a15 :: a16 :: a17 :: some (.int (nI n)) :: tl) h d rfl ?_
  rw [show nI n + Int32.ofInt 1 = nI (n + 1) from nI_1 n]
  exact kk
theorem zk_fg18 {a0 a1 a2 a3 a4 a5 a6 a7 a8 a9 a10 a11 a12 a13 a14 a15 a16 a17 a18 : Option Value} {tl : List (Option Value)} (kk : zk_A v X E pc (a0 :: a1 :: a2 :: a3 :: a4 :: a5 :: a6 :: a7 :: a8 :: a9 :: a10 :: a11 :: a12 :: a13 :: a14 :: a15 :: a16 :: a17 :: none :: tl) st I J) : zk_A v X E pc (a0 :: a1 :: a2 :: a3 :: a4 :: a5 :: a6 :: a7 :: a8 :: a9 :: a10 :: a11 :: a12 :: a13 :: a14 :: a15 :: a16 :: a17 :: a18 :: tl) st I J := zk_fg (lv := a0 :: a1 :: a2 :: a3 :: a4 :: a5 :: a6 :: a7 :: a8 :: a9 :: a10 :: a11 :: a12 :: a13 :: a14 :: a15 :: a16 :: a17 :: a18 :: tl) 18 kk
theorem zk_is19 {a0 a1 a2 a3 a4 a5 a6 a7 a8 a9 a10 a11 a12 a13 a14 a15 a16 a17 a18 a19 : Option Value} {tl : List (Option Value)} {x : Int32} (h : zk_C v X E own cc dep) (d : zk_D cc pc pc' (.istore 19) 2) (hp : zk_n2 (some a18) = true) (kk : zk_A v X E pc' (a0 :: a1 :: a2 :: a3 :: a4 :: a5 :: a6 :: a7 :: a8 :: a9 :: a10 :: a11 :: a12 :: a13 :: a14 :: a15 :: a16 :: a17 :: a18 :: some (.int x) :: tl) st I J) : zk_A v X E pc (a0 :: a1 :: a2 :: a3 :: a4 :: a5 :: a6 :: a7 :: a8 :: a9 :: a10 :: a11 :: a12 :: a13 :: a14 :: a15 :: a16 :: a17 :: a18 :: a19 :: tl) (.int x :: st) I J := zk_istoreG (lv := a0 :: a1 :: a2 :: a3 :: a4 :: a5 :: a6 :: a7 :: a8 :: a9 :: a10 :: a11 :: a12 :: a13 :: a14 :: a15 :: a16 :: a17 :: a18 :: a19 :: tl) h d (by simp only [List.length_cons]; omega) (Or.inr hp) kk
theorem zk_as19 {a0 a1 a2 a3 a4 a5 a6 a7 a8 a9 a10 a11 a12 a13 a14 a15 a16 a17 a18 a19 : Option Value} {tl : List (Option Value)} {x : Nat} (h : zk_C v X E own cc dep) (d : zk_D cc pc pc' (.astore 19) 2) (hp : zk_n2 (some a18) = true) (kk : zk_A v X E pc' (a0 :: a1 :: a2 :: a3 :: a4 :: a5 :: a6 :: a7 :: a8 :: a9 :: a10 :: a11 :: a12 :: a13 :: a14 :: a15 :: a16 :: a17 :: a18 :: some (.ref x) :: tl) st I J) : zk_A v X E pc (a0 :: a1 :: a2 :: a3 :: a4 :: a5 :: a6 :: a7 :: a8 :: a9 :: a10 :: a11 :: a12 :: a13 :: a14 :: a15 :: a16 :: a17 :: a18 :: a19 :: tl) (.ref x :: st) I J := zk_astoreG (lv := a0 :: a1 :: a2 :: a3 :: a4 :: a5 :: a6 :: a7 :: a8 :: a9 :: a10 :: a11 :: a12 :: a13 :: a14 :: a15 :: a16 :: a17 :: a18 :: a19 :: tl) h d (by simp only [List.length_cons]; omega) (Or.inr hp) kk
theorem zk_ls19 {a0 a1 a2 a3 a4 a5 a6 a7 a8 a9 a10 a11 a12 a13 a14 a15 a16 a17 a18 a19 a20 : Option Value} {tl : List (Option Value)} {x : Int64} (h : zk_C v X E own cc dep) (d : zk_D cc pc pc' (.lstore 19) 2) (hp : zk_n2 (some a18) = true) (kk : zk_A v X E pc' (a0 :: a1 :: a2 :: a3 :: a4 :: a5 :: a6 :: a7 :: a8 :: a9 :: a10 :: a11 :: a12 :: a13 :: a14 :: a15 :: a16 :: a17 :: a18 :: some (.long x) :: none :: tl) st I J) : zk_A v X E pc (a0 :: a1 :: a2 :: a3 :: a4 :: a5 :: a6 :: a7 :: a8 :: a9 :: a10 :: a11 :: a12 :: a13 :: a14 :: a15 :: a16 :: a17 :: a18 :: a19 :: a20 :: tl) (.long x :: st) I J := zk_lstoreG (lv := a0 :: a1 :: a2 :: a3 :: a4 :: a5 :: a6 :: a7 :: a8 :: a9 :: a10 :: a11 :: a12 :: a13 :: a14 :: a15 :: a16 :: a17 :: a18 :: a19 :: a20 :: tl) h d (by simp only [List.length_cons]; omega) (Or.inr hp) kk
theorem zk_in19 {a0 a1 a2 a3 a4 a5 a6 a7 a8 a9 a10 a11 a12 a13 a14 a15 a16 a17 a18 : Option Value} {tl : List (Option Value)} {n : Nat} (h : zk_C v X E own cc dep) (d : zk_D cc pc pc' (.iinc 19 1) 3) (kk : zk_A v X E pc' (a0 :: a1 :: a2 :: a3 :: a4 :: a5 :: a6 :: a7 :: a8 :: a9 :: a10 :: a11 :: a12 :: a13 :: a14 :: a15 :: a16 :: a17 :: a18 :: some (.int (nI (n + 1))) :: tl) st I J) : zk_A v X E pc (a0 :: a1 :: a2 :: a3 :: a4 :: a5 :: a6 :: a7 :: a8 :: a9 :: a10 :: a11 :: a12 :: a13 :: a14 :: a15 :: a16 :: a17 :: a18 :: some (.int (nI n)) :: tl) st I J := by
  refine zk_iincG (lv := a0 :: a1 :: a2 :: a3 :: a4 :: a5 :: a6 :: a7 :: a8 :: a9 :: a10 :: a11 :: a12 :: a13 :: a14 :: a15 :: a16 :: a17 :: a18 :: some (.int (nI n)) :: tl) h d rfl ?_
  rw [show nI n + Int32.ofInt 1 = nI (n + 1) from nI_1 n]
  exact kk
theorem zk_fg19 {a0 a1 a2 a3 a4 a5 a6 a7 a8 a9 a10 a11 a12 a13 a14 a15 a16 a17 a18 a19 : Option Value} {tl : List (Option Value)} (kk : zk_A v X E pc (a0 :: a1 :: a2 :: a3 :: a4 :: a5 :: a6 :: a7 :: a8 :: a9 :: a10 :: a11 :: a12 :: a13 :: a14 :: a15 :: a16 :: a17 :: a18 :: none :: tl) st I J) : zk_A v X E pc (a0 :: a1 :: a2 :: a3 :: a4 :: a5 :: a6 :: a7 :: a8 :: a9 :: a10 :: a11 :: a12 :: a13 :: a14 :: a15 :: a16 :: a17 :: a18 :: a19 :: tl) st I J := zk_fg (lv := a0 :: a1 :: a2 :: a3 :: a4 :: a5 :: a6 :: a7 :: a8 :: a9 :: a10 :: a11 :: a12 :: a13 :: a14 :: a15 :: a16 :: a17 :: a18 :: a19 :: tl) 19 kk
end ZP
end
section
section ZN
variable {v : Nat} {X : zk_X} {E : zk_E} {own : String} {cc : ByteArray} {dep : Nat × Nat} {pc pc' : Nat} {lv : List (Option Value)} {st : List Value} {I I' : zk_I} {J J' : zk_J}
theorem zk_topi {x : Int32} (y : Int32) (e : x = y) (k : zk_A v X E pc lv (.int y :: st) I J) : zk_A v X E pc lv (.int x :: st) I J := e ▸ k
theorem zk_topl {x : Int64} (y : Int64) (e : x = y) (k : zk_A v X E pc lv (.long y :: st) I J) : zk_A v X E pc lv (.long x :: st) I J := e ▸ k
theorem zk_nmJ (k : ∀ J2, J2 = J → zk_A v X E pc lv st I J2) : zk_A v X E pc lv st I J := k J rfl
theorem zk_nmI (k : ∀ I2, I2 = I → zk_A v X E pc lv st I2 J) : zk_A v X E pc lv st I J := k I rfl
theorem zk_eqJ (e : J = J') (k : zk_A v X E pc lv st I J') : zk_A v X E pc lv st I J := e ▸ k
theorem zk_eqI (e : I = I') (k : zk_A v X E pc lv st I' J) : zk_A v X E pc lv st I J := e ▸ k
theorem zk_iaddN {a b : Nat} (h : zk_C v X E own cc dep) (d : zk_D cc pc pc' .iadd 1) (kk : zk_A v X E pc' lv (.int (nI (a + b)) :: st) I J) : zk_A v X E pc lv (.int (nI b) :: .int (nI a) :: st) I J := zk_iadd h d (by rw [nI_add]; exact kk)
theorem zk_isubN {a b : Nat} (h : zk_C v X E own cc dep) (d : zk_D cc pc pc' .isub 1) (hb : b ≤ a) (kk : zk_A v X E pc' lv (.int (nI (a - b)) :: st) I J) : zk_A v X E pc lv (.int (nI b) :: .int (nI a) :: st) I J := zk_isub h d (by rw [pk_sub hb]; exact kk)
theorem zk_imulN {a b : Nat} (h : zk_C v X E own cc dep) (d : zk_D cc pc pc' .imul 1) (kk : zk_A v X E pc' lv (.int (nI (a * b)) :: st) I J) : zk_A v X E pc lv (.int (nI b) :: .int (nI a) :: st) I J := zk_imul h d (by rw [pk_mul]; exact kk)
theorem zk_idivN {a b : Nat} (h : zk_C v X E own cc dep) (d : zk_D cc pc pc' .idiv 1) (ha : a < 2 ^ 31) (h0 : 0 < b) (hb : b < 2 ^ 31) (kk : zk_A v X E pc' lv (.int (nI (a / b)) :: st) I J) : zk_A v X E pc lv (.int (nI b) :: .int (nI a) :: st) I J := zk_idiv h d (nI_ne0 h0 hb) (by rw [pk_div ha h0 hb]; exact kk)
theorem zk_iremN {a b : Nat} (h : zk_C v X E own cc dep) (d : zk_D cc pc pc' .irem 1) (ha : a < 2 ^ 31) (h0 : 0 < b) (hb : b < 2 ^ 31) (kk : zk_A v X E pc' lv (.int (nI (a % b)) :: st) I J) : zk_A v X E pc lv (.int (nI b) :: .int (nI a) :: st) I J := zk_irem h d (nI_ne0 h0 hb) (by rw [pk_rem ha h0 hb]; exact kk)
theorem zk_i2lN {a : Nat} (h : zk_C v X E own cc dep) (d : zk_D cc pc pc' .i2l 1) (ha : a < 2 ^ 31) (kk : zk_A v X E pc' lv (.long (lN a) :: st) I J) : zk_A v X E pc lv (.int (nI a) :: st) I J := zk_i2l h d (by rw [nI_l ha]; exact kk)
theorem zk_ialdN {k n j : Nat} (h : zk_C v X E own cc dep) (hk : k < zk_N v) (hs : zk_sh v k = .inl (0, n)) (hj : j < n) (hn : n < 2 ^ 31) (d : zk_D cc pc pc' .iaload 1) (kk : zk_A v X E pc' lv (.int (I k j) :: st) I J) : zk_A v X E pc lv (.int (nI j) :: .ref (zk_ad X k) :: st) I J := zk_iald h hk hs (vp_in_nI hj hn) d (by rw [nI_clamp (Nat.lt_trans hj hn)]; exact kk)
theorem zk_baldN {k n j : Nat} (h : zk_C v X E own cc dep) (hk : k < zk_N v) (hs : zk_sh v k = .inl (1, n)) (hj : j < n) (hn : n < 2 ^ 31) (d : zk_D cc pc pc' .baload 1) (kk : zk_A v X E pc' lv (.int (I k j) :: st) I J) : zk_A v X E pc lv (.int (nI j) :: .ref (zk_ad X k) :: st) I J := zk_bald h hk hs (vp_in_nI hj hn) d (by rw [nI_clamp (Nat.lt_trans hj hn)]; exact kk)
theorem zk_laldN {k n j : Nat} (h : zk_C v X E own cc dep) (hk : k < zk_N v) (hs : zk_sh v k = .inl (2, n)) (hj : j < n) (hn : n < 2 ^ 31) (d : zk_D cc pc pc' .laload 1) (kk : zk_A v X E pc' lv (.long (J k j) :: st) I J) : zk_A v X E pc lv (.int (nI j) :: .ref (zk_ad X k) :: st) I J := zk_lald h hk hs (vp_in_nI hj hn) d (by rw [nI_clamp (Nat.lt_trans hj hn)]; exact kk)
theorem zk_iastN {k n j : Nat} {x : Int32} (h : zk_C v X E own cc dep) (hk : k < zk_N v) (hs : zk_sh v k = .inl (0, n)) (hj : j < n) (hn : n < 2 ^ 31) (d : zk_D cc pc pc' .iastore 1) (kk : zk_A v X E pc' lv st (zk_u I k (upd (I k) j x)) J) : zk_A v X E pc lv (.int x :: .int (nI j) :: .ref (zk_ad X k) :: st) I J := zk_iast h hk hs (vp_in_nI hj hn) d (by rw [nI_clamp (Nat.lt_trans hj hn)]; exact kk)
theorem zk_bastN {k n j : Nat} {x : Int32} (h : zk_C v X E own cc dep) (hk : k < zk_N v) (hs : zk_sh v k = .inl (1, n)) (hj : j < n) (hn : n < 2 ^ 31) (d : zk_D cc pc pc' .bastore 1) (kk : zk_A v X E pc' lv st (zk_u I k (upd (I k) j x.toInt8.toInt32)) J) : zk_A v X E pc lv (.int x :: .int (nI j) :: .ref (zk_ad X k) :: st) I J := zk_bast h hk hs (vp_in_nI hj hn) d (by rw [nI_clamp (Nat.lt_trans hj hn)]; exact kk)
theorem zk_lastN {k n j : Nat} {x : Int64} (h : zk_C v X E own cc dep) (hk : k < zk_N v) (hs : zk_sh v k = .inl (2, n)) (hj : j < n) (hn : n < 2 ^ 31) (d : zk_D cc pc pc' .lastore 1) (kk : zk_A v X E pc' lv st I (zk_u J k (vp_updL (J k) j x))) : zk_A v X E pc lv (.long x :: .int (nI j) :: .ref (zk_ad X k) :: st) I J := zk_last h hk hs (vp_in_nI hj hn) d (by rw [nI_clamp (Nat.lt_trans hj hn)]; exact kk)
theorem zk_aaldN {k n t p0 j : Nat} {ty : FieldType} (h : zk_C v X E own cc dep) (hk : k < zk_N v) (hs : zk_sh v k = .inr (.inr (t, n, p0))) (ht : (zk_tys X)[t]? = some (X.2.2.2.1 t, ty)) (hr : ty.isReference = true) (hj : j < n) (hn : n < 2 ^ 31) (d : zk_D cc pc pc' .aaload 1) (kk : zk_A v X E pc' lv (.ref (zk_ad X (p0 + j)) :: st) I J) : zk_A v X E pc lv (.int (nI j) :: .ref (zk_ad X k) :: st) I J := zk_aald h hk hs ht hr (vp_in_nI hj hn) d (by rw [nI_clamp (Nat.lt_trans hj hn)]; exact kk)
theorem zk_tiN {j i n : Nat} {C nm ds : String} {f : Nat → Value} {x : Value} (h : zk_C v X E own cc dep) (hq : zk_stats[j]? = some (C, nm, ds, .int, n, f)) (hi : i < n) (hn : n < 2 ^ 31) (hx : f i = x) (d : zk_D cc pc pc' .iaload 1) (kk : zk_A v X E pc' lv (x :: st) I J) : zk_A v X E pc lv (.int (nI i) :: .ref (zk_sa X j) :: st) I J := zk_ti h hq (vp_in_nI hi hn) (by rw [nI_clamp (Nat.lt_trans hi hn)]; exact hx) d kk
theorem zk_tlN {j i n : Nat} {C nm ds : String} {f : Nat → Value} {x : Value} (h : zk_C v X E own cc dep) (hq : zk_stats[j]? = some (C, nm, ds, .long, n, f)) (hi : i < n) (hn : n < 2 ^ 31) (hx : f i = x) (d : zk_D cc pc pc' .laload 1) (kk : zk_A v X E pc' lv (x :: st) I J) : zk_A v X E pc lv (.int (nI i) :: .ref (zk_sa X j) :: st) I J := zk_tl h hq (vp_in_nI hi hn) (by rw [nI_clamp (Nat.lt_trans hi hn)]; exact hx) d kk
/-- branches over small numbers -/
theorem zk_icmp_geN {a b : Nat} {off : Int} (h : zk_C v X E own cc dep) (d : zk_D cc pc pc' (.if_icmp .ge off) 3) (tgt : Nat) (ht : (pc : Int) + off = (tgt : Int)) (ha : a < 2 ^ 31) (hb : b < 2 ^ 31) (kt : b ≤ a → zk_A v X E tgt lv st I J) (kf : a < b → zk_A v X E pc' lv st I J) : zk_A v X E pc lv (.int (nI b) :: .int (nI a) :: st) I J := zk_icmp_ge h d tgt ht (fun q => kt ((nI_leI hb ha).mp q)) (fun q => kf (Nat.not_le.mp fun z => q ((nI_leI hb ha).mpr z)))
theorem zk_icmp_gtN {a b : Nat} {off : Int} (h : zk_C v X E own cc dep) (d : zk_D cc pc pc' (.if_icmp .gt off) 3) (tgt : Nat) (ht : (pc : Int) + off = (tgt : Int)) (ha : a < 2 ^ 31) (hb : b < 2 ^ 31) (kt : b < a → zk_A v X E tgt lv st I J) (kf : a ≤ b → zk_A v X E pc' lv st I J) : zk_A v X E pc lv (.int (nI b) :: .int (nI a) :: st) I J := zk_icmp_gt h d tgt ht (fun q => kt ((nI_ltI hb ha).mp q)) (fun q => kf (Nat.not_lt.mp fun z => q ((nI_ltI hb ha).mpr z)))
theorem zk_icmp_leN {a b : Nat} {off : Int} (h : zk_C v X E own cc dep) (d : zk_D cc pc pc' (.if_icmp .le off) 3) (tgt : Nat) (ht : (pc : Int) + off = (tgt : Int)) (ha : a < 2 ^ 31) (hb : b < 2 ^ 31) (kt : a ≤ b → zk_A v X E tgt lv st I J) (kf : b < a → zk_A v X E pc' lv st I J) : zk_A v X E pc lv (.int (nI b) :: .int (nI a) :: st) I J := zk_icmp_le h d tgt ht (fun q => kt ((nI_leI ha hb).mp q)) (fun q => kf (Nat.not_le.mp fun z => q ((nI_leI ha hb).mpr z)))
theorem zk_icmp_ltN {a b : Nat} {off : Int} (h : zk_C v X E own cc dep) (d : zk_D cc pc pc' (.if_icmp .lt off) 3) (tgt : Nat) (ht : (pc : Int) + off = (tgt : Int)) (ha : a < 2 ^ 31) (hb : b < 2 ^ 31) (kt : a < b → zk_A v X E tgt lv st I J) (kf : b ≤ a → zk_A v X E pc' lv st I J) : zk_A v X E pc lv (.int (nI b) :: .int (nI a) :: st) I J := zk_icmp_lt h d tgt ht (fun q => kt ((nI_ltI ha hb).mp q)) (fun q => kf (Nat.not_lt.mp fun z => q ((nI_ltI ha hb).mpr z)))
theorem zk_icmp_neN {a b : Nat} {off : Int} (h : zk_C v X E own cc dep) (d : zk_D cc pc pc' (.if_icmp .ne off) 3) (tgt : Nat) (ht : (pc : Int) + off = (tgt : Int)) (ha : a < 2 ^ 31) (hb : b < 2 ^ 31) (kt : a ≠ b → zk_A v X E tgt lv st I J) (kf : a = b → zk_A v X E pc' lv st I J) : zk_A v X E pc lv (.int (nI b) :: .int (nI a) :: st) I J := zk_icmp_ne h d tgt ht (fun q => kt (fun z => q (by rw [z]))) (fun q => kf ((nI_eq ha hb).mp q))
theorem zk_icmp_eqN {a b : Nat} {off : Int} (h : zk_C v X E own cc dep) (d : zk_D cc pc pc' (.if_icmp .eq off) 3) (tgt : Nat) (ht : (pc : Int) + off = (tgt : Int)) (ha : a < 2 ^ 31) (hb : b < 2 ^ 31) (kt : a = b → zk_A v X E tgt lv st I J) (kf : a ≠ b → zk_A v X E pc' lv st I J) : zk_A v X E pc lv (.int (nI b) :: .int (nI a) :: st) I J := zk_icmp_eq h d tgt ht (fun q => kt ((nI_eq ha hb).mp q)) (fun q => kf (fun z => q (by rw [z])))
theorem zk_if_neN {a : Nat} {off : Int} (h : zk_C v X E own cc dep) (d : zk_D cc pc pc' (.ifCond .ne off) 3) (tgt : Nat) (ht : (pc : Int) + off = (tgt : Int)) (ha : a < 2 ^ 31) (kt : a ≠ 0 → zk_A v X E tgt lv st I J) (kf : a = 0 → zk_A v X E pc' lv st I J) : zk_A v X E pc lv (.int (nI a) :: st) I J := zk_if_ne h d tgt ht (fun q => kt (fun z => q (by rw [z, nI_0]))) (fun q => kf ((nI_eq ha (by decide)).mp (q.trans nI_0.symm)))
theorem zk_if_eqN {a : Nat} {off : Int} (h : zk_C v X E own cc dep) (d : zk_D cc pc pc' (.ifCond .eq off) 3) (tgt : Nat) (ht : (pc : Int) + off = (tgt : Int)) (ha : a < 2 ^ 31) (kt : a = 0 → zk_A v X E tgt lv st I J) (kf : a ≠ 0 → zk_A v X E pc' lv st I J) : zk_A v X E pc lv (.int (nI a) :: st) I J := zk_if_eq h d tgt ht (fun q => kt ((nI_eq ha (by decide)).mp (q.trans nI_0.symm))) (fun q => kf (fun z => q (by rw [z, nI_0])))
theorem zk_if_leN {a : Nat} {off : Int} (h : zk_C v X E own cc dep) (d : zk_D cc pc pc' (.ifCond .le off) 3) (tgt : Nat) (ht : (pc : Int) + off = (tgt : Int)) (ha : a < 2 ^ 31) (kt : a = 0 → zk_A v X E tgt lv st I J) (kf : 0 < a → zk_A v X E pc' lv st I J) : zk_A v X E pc lv (.int (nI a) :: st) I J := zk_if_le h d tgt ht (fun q => kt (Nat.le_zero.mp ((nI_leI ha (by decide)).mp (by rw [nI_0]; exact q)))) (fun q => kf (Nat.pos_of_ne_zero (fun z => q (by rw [z, nI_0]; decide))))
theorem zk_if_gtN {a : Nat} {off : Int} (h : zk_C v X E own cc dep) (d : zk_D cc pc pc' (.ifCond .gt off) 3) (tgt : Nat) (ht : (pc : Int) + off = (tgt : Int)) (ha : a < 2 ^ 31) (kt : 0 < a → zk_A v X E tgt lv st I J) (kf : a = 0 → zk_A v X E pc' lv st I J) : zk_A v X E pc lv (.int (nI a) :: st) I J := zk_if_gt h d tgt ht (fun q => kt ((nI_ltI (by decide) ha).mp (by rw [nI_0]; exact q))) (fun q => kf (by
  rcases Nat.eq_zero_or_pos a with z | z
  · exact z
  · exact absurd (by have := (nI_ltI (by decide) ha).mpr z; rwa [nI_0] at this) q))
theorem zk_if_ltN {a : Nat} {off : Int} (h : zk_C v X E own cc dep) (d : zk_D cc pc pc' (.ifCond .lt off) 3) (tgt : Nat) (ht : (pc : Int) + off = (tgt : Int)) (ha : a < 2 ^ 31) (kf : zk_A v X E pc' lv st I J) : zk_A v X E pc lv (.int (nI a) :: st) I J := zk_if_lt h d tgt ht (fun q => absurd q (nI_pos ha)) (fun _ => kf)
theorem zk_if_geN {a : Nat} {off : Int} (h : zk_C v X E own cc dep) (d : zk_D cc pc pc' (.ifCond .ge off) 3) (tgt : Nat) (ht : (pc : Int) + off = (tgt : Int)) (ha : a < 2 ^ 31) (kt : zk_A v X E tgt lv st I J) : zk_A v X E pc lv (.int (nI a) :: st) I J := zk_if_ge h d tgt ht (fun _ => kt) (fun q => absurd (nI_pos' ha) q)
/-- a loop that counts -/
theorem zk_up {P : Nat → Prop} (N : Nat) (hN : P N) (h : ∀ i, i < N → P (i + 1) → P i) : P 0 := by
  have key : ∀ k, k ≤ N → P (N - k) := by
    intro k
    induction k with
    | zero => intro _; exact hN
    | succ k ih => exact fun hk => h _ (by omega) (by rw [show N - (k + 1) + 1 = N - k by omega]; exact ih (by omega))
  have := key N (Nat.le_refl N)
  rwa [Nat.sub_self] at this
end ZN
end
section
theorem zk_in {w : Cond} (i : Nat) (h : lw_tbl[i]? = some w) (g : zk_good w = true) : w ∈ zk_ws := List.mem_filter.mpr ⟨List.mem_of_getElem? h, g⟩
theorem zk_inN {w : Cond} (i : Nat) (h : lw_tbl[i]? = some w) (g : zk_isNest w = true) : w ∈ zk_nest := List.mem_filter.mpr ⟨List.mem_of_getElem? h, g⟩
set_option maxRecDepth 20000 in
theorem uw_X0 : ∀ w ∈ u_ws RX0 TX0 2, w ∈ zk_ws := by decide +kernel
set_option maxRecDepth 20000 in
theorem uw_X1 : ∀ w ∈ u_ws RX1 TX1 14, w ∈ zk_ws := by decide +kernel
set_option maxRecDepth 20000 in
theorem uw_X2 : ∀ w ∈ u_ws RX2 TX2 5, w ∈ zk_ws := by decide +kernel
set_option maxRecDepth 20000 in
theorem uw_X3 : ∀ w ∈ u_ws RX3 TX3 3, w ∈ zk_ws := by decide +kernel
set_option maxRecDepth 20000 in
theorem uw_X4 : ∀ w ∈ u_ws RX4 TX4 5, w ∈ zk_ws := by decide +kernel
set_option maxRecDepth 20000 in
theorem uw_X5 : ∀ w ∈ u_ws RX5 TX5 23, w ∈ zk_ws := by decide +kernel
theorem fl_X0_15 : zk_fl RX0 15 0 0 RX0 TX0 2 := ⟨rfl, by decide, uw_X0, rfl, Or.inl (zk_in 61 (by decide +kernel) (by decide +kernel))⟩
theorem fl_X0_21 : zk_fl RX0 21 0 1 RX0 TX0 2 := ⟨rfl, by decide, uw_X0, rfl, Or.inl (zk_in 62 (by decide +kernel) (by decide +kernel))⟩
theorem fl_X2_36 : zk_fl RX2 36 0 1 RX0 TX0 2 := ⟨rfl, by decide, uw_X0, rfl, Or.inr (zk_inN 63 (by decide +kernel) (by decide +kernel))⟩
theorem fl_X4_47 : zk_fl RX4 47 0 1 RX0 TX0 2 := ⟨rfl, by decide, uw_X0, rfl, Or.inr (zk_inN 64 (by decide +kernel) (by decide +kernel))⟩
theorem fl_X2_16 : zk_fl RX2 16 2 0 RX2 TX2 5 := ⟨rfl, by decide, uw_X2, rfl, Or.inl (zk_in 79 (by decide +kernel) (by decide +kernel))⟩
theorem fl_X4_69 : zk_fl RX4 69 2 0 RX2 TX2 5 := ⟨rfl, by decide, uw_X2, rfl, Or.inr (zk_inN 80 (by decide +kernel) (by decide +kernel))⟩
theorem fl_X2_20 : zk_fl RX2 20 2 1 RX2 TX2 5 := ⟨rfl, by decide, uw_X2, rfl, Or.inl (zk_in 81 (by decide +kernel) (by decide +kernel))⟩
theorem fl_X4_79 : zk_fl RX4 79 2 1 RX2 TX2 5 := ⟨rfl, by decide, uw_X2, rfl, Or.inr (zk_inN 82 (by decide +kernel) (by decide +kernel))⟩
theorem fl_X2_23 : zk_fl RX2 23 2 2 RX2 TX2 5 := ⟨rfl, by decide, uw_X2, rfl, Or.inl (zk_in 83 (by decide +kernel) (by decide +kernel))⟩
theorem fl_X2_27 : zk_fl RX2 27 2 3 RX2 TX2 5 := ⟨rfl, by decide, uw_X2, rfl, Or.inl (zk_in 84 (by decide +kernel) (by decide +kernel))⟩
theorem fl_X2_30 : zk_fl RX2 30 2 4 RX2 TX2 5 := ⟨rfl, by decide, uw_X2, rfl, Or.inl (zk_in 85 (by decide +kernel) (by decide +kernel))⟩
theorem fl_X3_9 : zk_fl RX3 9 3 0 RX3 TX3 3 := ⟨rfl, by decide, uw_X3, rfl, Or.inl (zk_in 112 (by decide +kernel) (by decide +kernel))⟩
theorem fl_X3_15 : zk_fl RX3 15 3 1 RX3 TX3 3 := ⟨rfl, by decide, uw_X3, rfl, Or.inl (zk_in 113 (by decide +kernel) (by decide +kernel))⟩
theorem fl_X3_18 : zk_fl RX3 18 3 2 RX3 TX3 3 := ⟨rfl, by decide, uw_X3, rfl, Or.inl (zk_in 114 (by decide +kernel) (by decide +kernel))⟩
theorem fl_X1_11 : zk_fl RX1 11 1 0 RX1 TX1 14 := ⟨rfl, by decide, uw_X1, rfl, Or.inl (zk_in 122 (by decide +kernel) (by decide +kernel))⟩
theorem fl_X1_16 : zk_fl RX1 16 1 1 RX1 TX1 14 := ⟨rfl, by decide, uw_X1, rfl, Or.inl (zk_in 123 (by decide +kernel) (by decide +kernel))⟩
theorem fl_X1_20 : zk_fl RX1 20 1 2 RX1 TX1 14 := ⟨rfl, by decide, uw_X1, rfl, Or.inl (zk_in 124 (by decide +kernel) (by decide +kernel))⟩
theorem fl_X1_26 : zk_fl RX1 26 1 3 RX1 TX1 14 := ⟨rfl, by decide, uw_X1, rfl, Or.inl (zk_in 125 (by decide +kernel) (by decide +kernel))⟩
theorem fl_X1_34 : zk_fl RX1 34 1 4 RX1 TX1 14 := ⟨rfl, by decide, uw_X1, rfl, Or.inl (zk_in 126 (by decide +kernel) (by decide +kernel))⟩
theorem fl_X4_142 : zk_fl RX4 142 1 4 RX1 TX1 14 := ⟨rfl, by decide, uw_X1, rfl, Or.inr (zk_inN 127 (by decide +kernel) (by decide +kernel))⟩
theorem fl_X1_38 : zk_fl RX1 38 1 5 RX1 TX1 14 := ⟨rfl, by decide, uw_X1, rfl, Or.inl (zk_in 128 (by decide +kernel) (by decide +kernel))⟩
theorem fl_X4_145 : zk_fl RX4 145 1 5 RX1 TX1 14 := ⟨rfl, by decide, uw_X1, rfl, Or.inr (zk_inN 129 (by decide +kernel) (by decide +kernel))⟩
theorem fl_X1_41 : zk_fl RX1 41 1 6 RX1 TX1 14 := ⟨rfl, by decide, uw_X1, rfl, Or.inl (zk_in 130 (by decide +kernel) (by decide +kernel))⟩
theorem fl_X4_148 : zk_fl RX4 148 1 6 RX1 TX1 14 := ⟨rfl, by decide, uw_X1, rfl, Or.inr (zk_inN 131 (by decide +kernel) (by decide +kernel))⟩
theorem fl_X1_44 : zk_fl RX1 44 1 7 RX1 TX1 14 := ⟨rfl, by decide, uw_X1, rfl, Or.inl (zk_in 132 (by decide +kernel) (by decide +kernel))⟩
theorem fl_X4_136 : zk_fl RX4 136 1 7 RX1 TX1 14 := ⟨rfl, by decide, uw_X1, rfl, Or.inr (zk_inN 133 (by decide +kernel) (by decide +kernel))⟩
theorem fl_X1_50 : zk_fl RX1 50 1 8 RX1 TX1 14 := ⟨rfl, by decide, uw_X1, rfl, Or.inl (zk_in 134 (by decide +kernel) (by decide +kernel))⟩
theorem fl_X1_47 : zk_fl RX1 47 1 9 RX1 TX1 14 := ⟨rfl, by decide, uw_X1, rfl, Or.inl (zk_in 135 (by decide +kernel) (by decide +kernel))⟩
theorem fl_X1_53 : zk_fl RX1 53 1 10 RX1 TX1 14 := ⟨rfl, by decide, uw_X1, rfl, Or.inl (zk_in 136 (by decide +kernel) (by decide +kernel))⟩
theorem fl_X4_120 : zk_fl RX4 120 1 10 RX1 TX1 14 := ⟨rfl, by decide, uw_X1, rfl, Or.inr (zk_inN 137 (by decide +kernel) (by decide +kernel))⟩
theorem fl_X1_89 : zk_fl RX1 89 1 11 RX1 TX1 14 := ⟨rfl, by decide, uw_X1, rfl, Or.inl (zk_in 138 (by decide +kernel) (by decide +kernel))⟩
theorem fl_X1_86 : zk_fl RX1 86 1 12 RX1 TX1 14 := ⟨rfl, by decide, uw_X1, rfl, Or.inl (zk_in 139 (by decide +kernel) (by decide +kernel))⟩
theorem fl_X1_83 : zk_fl RX1 83 1 13 RX1 TX1 14 := ⟨rfl, by decide, uw_X1, rfl, Or.inl (zk_in 140 (by decide +kernel) (by decide +kernel))⟩
theorem fl_X4_11 : zk_fl RX4 11 4 0 RX4 TX4 5 := ⟨rfl, by decide, uw_X4, rfl, Or.inl (zk_in 170 (by decide +kernel) (by decide +kernel))⟩
theorem fl_X4_18 : zk_fl RX4 18 4 1 RX4 TX4 5 := ⟨rfl, by decide, uw_X4, rfl, Or.inl (zk_in 171 (by decide +kernel) (by decide +kernel))⟩
theorem fl_X4_22 : zk_fl RX4 22 4 2 RX4 TX4 5 := ⟨rfl, by decide, uw_X4, rfl, Or.inl (zk_in 172 (by decide +kernel) (by decide +kernel))⟩
theorem fl_X4_28 : zk_fl RX4 28 4 3 RX4 TX4 5 := ⟨rfl, by decide, uw_X4, rfl, Or.inl (zk_in 173 (by decide +kernel) (by decide +kernel))⟩
theorem fl_X4_35 : zk_fl RX4 35 4 4 RX4 TX4 5 := ⟨rfl, by decide, uw_X4, rfl, Or.inl (zk_in 174 (by decide +kernel) (by decide +kernel))⟩
theorem ls_X2_67 : Cond.fieldLink RX2 67 "SlowSeal$Hasher" "START" "[J" ∈ zk_ws ∨ Cond.fieldLinkNest RX2 67 "SlowSeal$Hasher" "START" "[J" zk_host ∈ zk_nest := Or.inl (zk_in 252 (by decide +kernel) (by decide +kernel))
theorem ls_X2_78 : Cond.fieldLink RX2 78 "SlowSeal$Hasher" "ORDERS" "[I" ∈ zk_ws ∨ Cond.fieldLinkNest RX2 78 "SlowSeal$Hasher" "ORDERS" "[I" zk_host ∈ zk_nest := Or.inl (zk_in 269 (by decide +kernel) (by decide +kernel))
theorem ls_X2_95 : Cond.fieldLink RX2 95 "SlowSeal" "FOURS" "[I" ∈ zk_ws ∨ Cond.fieldLinkNest RX2 95 "SlowSeal" "FOURS" "[I" zk_host ∈ zk_nest := Or.inr (zk_inN 275 (by decide +kernel) (by decide +kernel))
theorem ls_X3_29 : Cond.fieldLink RX3 29 "SlowSeal" "FOURS" "[I" ∈ zk_ws ∨ Cond.fieldLinkNest RX3 29 "SlowSeal" "FOURS" "[I" zk_host ∈ zk_nest := Or.inr (zk_inN 389 (by decide +kernel) (by decide +kernel))
theorem fl_X5_50 : zk_fl RX5 50 5 0 RX5 TX5 23 := ⟨rfl, by decide, uw_X5, rfl, Or.inl (zk_in 439 (by decide +kernel) (by decide +kernel))⟩
theorem fl_X5_7 : zk_fl RX5 7 5 1 RX5 TX5 23 := ⟨rfl, by decide, uw_X5, rfl, Or.inl (zk_in 440 (by decide +kernel) (by decide +kernel))⟩
theorem fl_X5_13 : zk_fl RX5 13 5 2 RX5 TX5 23 := ⟨rfl, by decide, uw_X5, rfl, Or.inl (zk_in 441 (by decide +kernel) (by decide +kernel))⟩
theorem fl_X5_106 : zk_fl RX5 106 5 3 RX5 TX5 23 := ⟨rfl, by decide, uw_X5, rfl, Or.inl (zk_in 442 (by decide +kernel) (by decide +kernel))⟩
theorem fl_X5_16 : zk_fl RX5 16 5 4 RX5 TX5 23 := ⟨rfl, by decide, uw_X5, rfl, Or.inl (zk_in 443 (by decide +kernel) (by decide +kernel))⟩
theorem fl_X5_109 : zk_fl RX5 109 5 5 RX5 TX5 23 := ⟨rfl, by decide, uw_X5, rfl, Or.inl (zk_in 444 (by decide +kernel) (by decide +kernel))⟩
theorem fl_X5_19 : zk_fl RX5 19 5 6 RX5 TX5 23 := ⟨rfl, by decide, uw_X5, rfl, Or.inl (zk_in 445 (by decide +kernel) (by decide +kernel))⟩
theorem fl_X5_22 : zk_fl RX5 22 5 7 RX5 TX5 23 := ⟨rfl, by decide, uw_X5, rfl, Or.inl (zk_in 446 (by decide +kernel) (by decide +kernel))⟩
theorem fl_X5_26 : zk_fl RX5 26 5 8 RX5 TX5 23 := ⟨rfl, by decide, uw_X5, rfl, Or.inl (zk_in 447 (by decide +kernel) (by decide +kernel))⟩
theorem fl_X5_29 : zk_fl RX5 29 5 9 RX5 TX5 23 := ⟨rfl, by decide, uw_X5, rfl, Or.inl (zk_in 448 (by decide +kernel) (by decide +kernel))⟩
theorem fl_X5_32 : zk_fl RX5 32 5 10 RX5 TX5 23 := ⟨rfl, by decide, uw_X5, rfl, Or.inl (zk_in 449 (by decide +kernel) (by decide +kernel))⟩
theorem fl_X5_161 : zk_fl RX5 161 5 11 RX5 TX5 23 := ⟨rfl, by decide, uw_X5, rfl, Or.inl (zk_in 450 (by decide +kernel) (by decide +kernel))⟩
theorem fl_X5_165 : zk_fl RX5 165 5 12 RX5 TX5 23 := ⟨rfl, by decide, uw_X5, rfl, Or.inl (zk_in 451 (by decide +kernel) (by decide +kernel))⟩
theorem fl_X5_168 : zk_fl RX5 168 5 13 RX5 TX5 23 := ⟨rfl, by decide, uw_X5, rfl, Or.inl (zk_in 452 (by decide +kernel) (by decide +kernel))⟩
theorem fl_X5_171 : zk_fl RX5 171 5 14 RX5 TX5 23 := ⟨rfl, by decide, uw_X5, rfl, Or.inl (zk_in 453 (by decide +kernel) (by decide +kernel))⟩
theorem fl_X5_174 : zk_fl RX5 174 5 15 RX5 TX5 23 := ⟨rfl, by decide, uw_X5, rfl, Or.inl (zk_in 454 (by decide +kernel) (by decide +kernel))⟩
theorem fl_X5_177 : zk_fl RX5 177 5 16 RX5 TX5 23 := ⟨rfl, by decide, uw_X5, rfl, Or.inl (zk_in 455 (by decide +kernel) (by decide +kernel))⟩
theorem fl_X5_180 : zk_fl RX5 180 5 17 RX5 TX5 23 := ⟨rfl, by decide, uw_X5, rfl, Or.inl (zk_in 456 (by decide +kernel) (by decide +kernel))⟩
theorem fl_X5_35 : zk_fl RX5 35 5 18 RX5 TX5 23 := ⟨rfl, by decide, uw_X5, rfl, Or.inl (zk_in 457 (by decide +kernel) (by decide +kernel))⟩
theorem fl_X5_38 : zk_fl RX5 38 5 19 RX5 TX5 23 := ⟨rfl, by decide, uw_X5, rfl, Or.inl (zk_in 458 (by decide +kernel) (by decide +kernel))⟩
theorem fl_X5_41 : zk_fl RX5 41 5 20 RX5 TX5 23 := ⟨rfl, by decide, uw_X5, rfl, Or.inl (zk_in 459 (by decide +kernel) (by decide +kernel))⟩
theorem fl_X5_44 : zk_fl RX5 44 5 21 RX5 TX5 23 := ⟨rfl, by decide, uw_X5, rfl, Or.inl (zk_in 460 (by decide +kernel) (by decide +kernel))⟩
theorem fl_X5_47 : zk_fl RX5 47 5 22 RX5 TX5 23 := ⟨rfl, by decide, uw_X5, rfl, Or.inl (zk_in 461 (by decide +kernel) (by decide +kernel))⟩
theorem fp_X0_1 : zk_fp RX0 TX0 2 1 tyX0 := ⟨tyX0_ok, nmX0, rfl⟩
theorem fp_X1_4 : zk_fp RX1 TX1 14 4 tyX1 := ⟨tyX1_ok, nmX1, rfl⟩
theorem fp_X1_5 : zk_fp RX1 TX1 14 5 tyX1 := ⟨tyX1_ok, nmX1, rfl⟩
theorem fp_X1_6 : zk_fp RX1 TX1 14 6 tyX1 := ⟨tyX1_ok, nmX1, rfl⟩
theorem fp_X1_7 : zk_fp RX1 TX1 14 7 tyX1 := ⟨tyX1_ok, nmX1, rfl⟩
theorem fp_X1_8 : zk_fp RX1 TX1 14 8 tyX1 := ⟨tyX1_ok, nmX1, rfl⟩
theorem fp_X1_9 : zk_fp RX1 TX1 14 9 tyX1 := ⟨tyX1_ok, nmX1, rfl⟩
theorem fp_X1_10 : zk_fp RX1 TX1 14 10 tyX1 := ⟨tyX1_ok, nmX1, rfl⟩
theorem fp_X1_11 : zk_fp RX1 TX1 14 11 tyX1 := ⟨tyX1_ok, nmX1, rfl⟩
theorem fp_X1_12 : zk_fp RX1 TX1 14 12 tyX1 := ⟨tyX1_ok, nmX1, rfl⟩
theorem fp_X1_13 : zk_fp RX1 TX1 14 13 tyX1 := ⟨tyX1_ok, nmX1, rfl⟩
theorem fp_X5_0 : zk_fp RX5 TX5 23 0 tyX5 := ⟨tyX5_ok, nmX5, rfl⟩
theorem fp_X5_3 : zk_fp RX5 TX5 23 3 tyX5 := ⟨tyX5_ok, nmX5, rfl⟩
theorem fp_X5_5 : zk_fp RX5 TX5 23 5 tyX5 := ⟨tyX5_ok, nmX5, rfl⟩
theorem fp_X5_11 : zk_fp RX5 TX5 23 11 tyX5 := ⟨tyX5_ok, nmX5, rfl⟩
theorem fp_X5_12 : zk_fp RX5 TX5 23 12 tyX5 := ⟨tyX5_ok, nmX5, rfl⟩
theorem fp_X5_13 : zk_fp RX5 TX5 23 13 tyX5 := ⟨tyX5_ok, nmX5, rfl⟩
theorem fp_X5_14 : zk_fp RX5 TX5 23 14 tyX5 := ⟨tyX5_ok, nmX5, rfl⟩
theorem fp_X5_15 : zk_fp RX5 TX5 23 15 tyX5 := ⟨tyX5_ok, nmX5, rfl⟩
theorem fp_X5_16 : zk_fp RX5 TX5 23 16 tyX5 := ⟨tyX5_ok, nmX5, rfl⟩
theorem fp_X5_17 : zk_fp RX5 TX5 23 17 tyX5 := ⟨tyX5_ok, nmX5, rfl⟩
theorem ml_L_9 : zk_ml RL 9 yX4_init := Or.inl (zk_in 45 (by decide +kernel) (by decide +kernel))
theorem ml_X4_15 : zk_ml RX4 15 yX0_init := Or.inl (zk_in 54 (by decide +kernel) (by decide +kernel))
theorem mm_X0_9 : Cond.methodLink RX0 9 Lib.Math.max.name ∈ zk_ws := (zk_in 58 (by decide +kernel) (by decide +kernel))
theorem ml_X4_27 : zk_ml RX4 27 yX2_init := Or.inr (zk_inN 73 (by decide +kernel) (by decide +kernel))
theorem ml_X2_13 : zk_ml RX2 13 yX0_init := Or.inl (zk_in 78 (by decide +kernel) (by decide +kernel))
theorem ml_X4_34 : zk_ml RX4 34 yX1_init := Or.inr (zk_inN 100 (by decide +kernel) (by decide +kernel))
theorem ml_X1_25 : zk_ml RX1 25 yX3_init := Or.inr (zk_inN 108 (by decide +kernel) (by decide +kernel))
theorem ml_L_15 : zk_ml RL 15 yX4_add := Or.inl (zk_in 186 (by decide +kernel) (by decide +kernel))
theorem ml_X4_39 : zk_ml RX4 39 yX4_isRegister := Or.inl (zk_in 190 (by decide +kernel) (by decide +kernel))
theorem ml_X4_43 : zk_ml RX4 43 yX4_bytesOf := Or.inl (zk_in 193 (by decide +kernel) (by decide +kernel))
theorem ml_X4_51 : zk_ml RX4 51 yX0_putNumber := Or.inl (zk_in 197 (by decide +kernel) (by decide +kernel))
theorem ml_X0_28 : zk_ml RX0 28 yX0_put := Or.inl (zk_in 201 (by decide +kernel) (by decide +kernel))
theorem ml_L_20 : zk_ml RL 20 yX4_clear := Or.inl (zk_in 205 (by decide +kernel) (by decide +kernel))
theorem ml_X4_55 : zk_ml RX4 55 yX0_empty := Or.inl (zk_in 209 (by decide +kernel) (by decide +kernel))
theorem ml_L_25 : zk_ml RL 25 yX4_size := Or.inl (zk_in 213 (by decide +kernel) (by decide +kernel))
theorem ml_L_29 : zk_ml RL 29 yX4_at := Or.inl (zk_in 217 (by decide +kernel) (by decide +kernel))
theorem ml_X4_58 : zk_ml RX4 58 yX0_byteAt := Or.inl (zk_in 221 (by decide +kernel) (by decide +kernel))
theorem ml_L_34 : zk_ml RL 34 yX4_hash := Or.inl (zk_in 225 (by decide +kernel) (by decide +kernel))
theorem ml_X4_62 : zk_ml RX4 62 yX4_isRegisterOrNone := Or.inl (zk_in 229 (by decide +kernel) (by decide +kernel))
theorem ml_X4_65 : zk_ml RX4 65 yX2_openWithKey := Or.inl (zk_in 232 (by decide +kernel) (by decide +kernel))
theorem ml_X2_33 : zk_ml RX2 33 yX0_empty := Or.inl (zk_in 236 (by decide +kernel) (by decide +kernel))
theorem ml_X2_40 : zk_ml RX2 40 yX0_putAll := Or.inl (zk_in 237 (by decide +kernel) (by decide +kernel))
theorem ml_X0_32 : zk_ml RX0 32 yX0_byteAt := Or.inl (zk_in 241 (by decide +kernel) (by decide +kernel))
theorem ml_X2_44 : zk_ml RX2 44 yX0_put := Or.inl (zk_in 242 (by decide +kernel) (by decide +kernel))
theorem ml_X4_72 : zk_ml RX4 72 yX0_putAll := Or.inl (zk_in 243 (by decide +kernel) (by decide +kernel))
theorem ml_X4_75 : zk_ml RX4 75 yX2_makeShort := Or.inl (zk_in 244 (by decide +kernel) (by decide +kernel))
theorem ml_X2_51 : zk_ml RX2 51 yX2_digest := Or.inl (zk_in 248 (by decide +kernel) (by decide +kernel))
theorem mm_X2_71 : Cond.methodLink RX2 71 Lib.Math.max.name ∈ zk_ws := (zk_in 255 (by decide +kernel) (by decide +kernel))
theorem ml_X2_74 : zk_ml RX2 74 yX2_loadPart := Or.inl (zk_in 256 (by decide +kernel) (by decide +kernel))
theorem ml_X2_89 : zk_ml RX2 89 yX0_wordAt := Or.inl (zk_in 260 (by decide +kernel) (by decide +kernel))
theorem mm_X0_25 : Cond.methodLink RX0 25 Lib.Math.min.name ∈ zk_ws := (zk_in 264 (by decide +kernel) (by decide +kernel))
theorem mm_X2_61 : Cond.methodLink RX2 61 Lib.Math.min.name ∈ zk_ws := (zk_in 267 (by decide +kernel) (by decide +kernel))
theorem ml_X2_82 : zk_ml RX2 82 yX2_mix := Or.inl (zk_in 271 (by decide +kernel) (by decide +kernel))
theorem ml_X2_98 : zk_ml RX2 98 yX4_turnRight := Or.inr (zk_inN 277 (by decide +kernel) (by decide +kernel))
theorem ml_X2_86 : zk_ml RX2 86 yX2_foldPart := Or.inl (zk_in 280 (by decide +kernel) (by decide +kernel))
theorem ml_X2_55 : zk_ml RX2 55 yX2_give := Or.inl (zk_in 284 (by decide +kernel) (by decide +kernel))
theorem ml_X2_47 : zk_ml RX2 47 yX0_putNumber := Or.inl (zk_in 288 (by decide +kernel) (by decide +kernel))
theorem ml_X4_82 : zk_ml RX4 82 yX0_become := Or.inl (zk_in 289 (by decide +kernel) (by decide +kernel))
theorem ml_X0_36 : zk_ml RX0 36 yX0_empty := Or.inl (zk_in 293 (by decide +kernel) (by decide +kernel))
theorem ml_X0_39 : zk_ml RX0 39 yX0_putAll := Or.inl (zk_in 294 (by decide +kernel) (by decide +kernel))
theorem ml_L_39 : zk_ml RL 39 yX4_longHash := Or.inl (zk_in 295 (by decide +kernel) (by decide +kernel))
theorem ml_X4_85 : zk_ml RX4 85 yX2_openLong := Or.inl (zk_in 299 (by decide +kernel) (by decide +kernel))
theorem ml_X4_88 : zk_ml RX4 88 yX2_makeLong := Or.inl (zk_in 303 (by decide +kernel) (by decide +kernel))
theorem ml_X2_58 : zk_ml RX2 58 yX2_takeStateAsMessage := Or.inl (zk_in 307 (by decide +kernel) (by decide +kernel))
theorem ml_L_44 : zk_ml RL 44 yX4_begin := Or.inl (zk_in 311 (by decide +kernel) (by decide +kernel))
theorem ml_X4_91 : zk_ml RX4 91 yX1_isPossible := Or.inl (zk_in 315 (by decide +kernel) (by decide +kernel))
theorem ml_X4_95 : zk_ml RX4 95 yX1_restart := Or.inl (zk_in 318 (by decide +kernel) (by decide +kernel))
theorem ml_X1_30 : zk_ml RX1 30 yX1_isPossible := Or.inl (zk_in 322 (by decide +kernel) (by decide +kernel))
theorem ml_X4_99 : zk_ml RX4 99 yX1_putSettings := Or.inl (zk_in 323 (by decide +kernel) (by decide +kernel))
theorem ml_X1_56 : zk_ml RX1 56 yX0_putNumber := Or.inl (zk_in 327 (by decide +kernel) (by decide +kernel))
theorem ml_X4_103 : zk_ml RX4 103 yX4_putWithLength := Or.inl (zk_in 329 (by decide +kernel) (by decide +kernel))
theorem ml_X4_106 : zk_ml RX4 106 yX4_layFirstBlocks := Or.inl (zk_in 333 (by decide +kernel) (by decide +kernel))
theorem ml_X4_161 : zk_ml RX4 161 yX1_lay := Or.inl (zk_in 337 (by decide +kernel) (by decide +kernel))
theorem ml_X1_68 : zk_ml RX1 68 yX1_blockOf := Or.inl (zk_in 341 (by decide +kernel) (by decide +kernel))
theorem ml_X1_72 : zk_ml RX1 72 yX0_wordAt := Or.inl (zk_in 345 (by decide +kernel) (by decide +kernel))
theorem ml_X4_109 : zk_ml RX4 109 yX1_blocks := Or.inl (zk_in 346 (by decide +kernel) (by decide +kernel))
theorem ml_L_49 : zk_ml RL 49 yX4_fill := Or.inl (zk_in 350 (by decide +kernel) (by decide +kernel))
theorem ml_X4_113 : zk_ml RX4 113 yX1_isBegun := Or.inl (zk_in 354 (by decide +kernel) (by decide +kernel))
theorem ml_X4_117 : zk_ml RX4 117 yX1_segments := Or.inl (zk_in 358 (by decide +kernel) (by decide +kernel))
theorem mm_X4_123 : Cond.methodLink RX4 123 Lib.Math.min.name ∈ zk_ws := (zk_in 362 (by decide +kernel) (by decide +kernel))
theorem ml_X4_129 : zk_ml RX4 129 yX1_doSegment := Or.inl (zk_in 363 (by decide +kernel) (by decide +kernel))
theorem ml_X1_80 : zk_ml RX1 80 yX1_segments := Or.inl (zk_in 367 (by decide +kernel) (by decide +kernel))
theorem ml_X1_92 : zk_ml RX1 92 yX1_goesByAddress := Or.inl (zk_in 368 (by decide +kernel) (by decide +kernel))
theorem ml_X1_96 : zk_ml RX1 96 yX1_openAddress := Or.inl (zk_in 372 (by decide +kernel) (by decide +kernel))
theorem ml_X1_64 : zk_ml RX1 64 yX1_blocks := Or.inl (zk_in 376 (by decide +kernel) (by decide +kernel))
theorem ml_X1_99 : zk_ml RX1 99 yX3_join := Or.inl (zk_in 377 (by decide +kernel) (by decide +kernel))
theorem ml_X3_21 : zk_ml RX3 21 yX3_stir := Or.inl (zk_in 381 (by decide +kernel) (by decide +kernel))
theorem ml_X3_25 : zk_ml RX3 25 yX3_mixHard := Or.inl (zk_in 385 (by decide +kernel) (by decide +kernel))
theorem ml_X3_33 : zk_ml RX3 33 yX3_sumHard := Or.inl (zk_in 390 (by decide +kernel) (by decide +kernel))
theorem ml_X3_37 : zk_ml RX3 37 yX4_turnRight := Or.inr (zk_inN 395 (by decide +kernel) (by decide +kernel))
theorem ml_X1_103 : zk_ml RX1 103 yX1_isFirstSlice := Or.inl (zk_in 396 (by decide +kernel) (by decide +kernel))
theorem ml_X1_106 : zk_ml RX1 106 yX1_farBlock := Or.inl (zk_in 400 (by decide +kernel) (by decide +kernel))
theorem ml_L_53 : zk_ml RL 53 yX4_word := Or.inl (zk_in 405 (by decide +kernel) (by decide +kernel))
theorem ml_X4_132 : zk_ml RX4 132 yX1_wordOf := Or.inl (zk_in 409 (by decide +kernel) (by decide +kernel))
theorem ml_L_58 : zk_ml RL 58 yX4_tag := Or.inl (zk_in 413 (by decide +kernel) (by decide +kernel))
theorem ml_X4_139 : zk_ml RX4 139 yX1_putLastBlocks := Or.inl (zk_in 417 (by decide +kernel) (by decide +kernel))
theorem ml_X1_76 : zk_ml RX1 76 yX1_wordOf := Or.inl (zk_in 421 (by decide +kernel) (by decide +kernel))
theorem ml_L_62 : zk_ml RL 62 yX4_told := Or.inl (zk_in 422 (by decide +kernel) (by decide +kernel))
theorem ml_L_66 : zk_ml RL 66 yX4_seal := Or.inl (zk_in 426 (by decide +kernel) (by decide +kernel))
theorem ml_X4_151 : zk_ml RX4 151 yX4_begin := Or.inl (zk_in 430 (by decide +kernel) (by decide +kernel))
theorem ml_X4_155 : zk_ml RX4 155 yX4_fill := Or.inl (zk_in 431 (by decide +kernel) (by decide +kernel))
theorem ml_X4_158 : zk_ml RX4 158 yX4_tag := Or.inl (zk_in 432 (by decide +kernel) (by decide +kernel))
theorem ml_L_12 : zk_ml RL 12 yX5_init := Or.inl (zk_in 435 (by decide +kernel) (by decide +kernel))
theorem ml_L_19 : zk_ml RL 19 yX5_add := Or.inl (zk_in 510 (by decide +kernel) (by decide +kernel))
theorem ml_X5_58 : zk_ml RX5 58 yX5_isRegister := Or.inl (zk_in 514 (by decide +kernel) (by decide +kernel))
theorem ml_X5_54 : zk_ml RX5 54 yX5_in := Or.inl (zk_in 517 (by decide +kernel) (by decide +kernel))
theorem ml_L_24 : zk_ml RL 24 yX5_clear := Or.inl (zk_in 521 (by decide +kernel) (by decide +kernel))
theorem ml_L_28 : zk_ml RL 28 yX5_size := Or.inl (zk_in 525 (by decide +kernel) (by decide +kernel))
theorem ml_L_33 : zk_ml RL 33 yX5_at := Or.inl (zk_in 529 (by decide +kernel) (by decide +kernel))
theorem ml_L_38 : zk_ml RL 38 yX5_hash := Or.inl (zk_in 533 (by decide +kernel) (by decide +kernel))
theorem ml_X5_148 : zk_ml RX5 148 yX5_putRegister := Or.inl (zk_in 537 (by decide +kernel) (by decide +kernel))
theorem ml_X5_140 : zk_ml RX5 140 yX5_hashTo := Or.inl (zk_in 541 (by decide +kernel) (by decide +kernel))
theorem ml_X5_116 : zk_ml RX5 116 yX5_start := Or.inl (zk_in 545 (by decide +kernel) (by decide +kernel))
theorem ml_X5_136 : zk_ml RX5 136 yX5_part := Or.inl (zk_in 558 (by decide +kernel) (by decide +kernel))
theorem ml_X5_112 : zk_ml RX5 112 yX5_byteAt := Or.inl (zk_in 562 (by decide +kernel) (by decide +kernel))
theorem ml_X5_122 : zk_ml RX5 122 yX5_order := Or.inl (zk_in 567 (by decide +kernel) (by decide +kernel))
theorem ml_X5_125 : zk_ml RX5 125 yX5_picked := Or.inl (zk_in 580 (by decide +kernel) (by decide +kernel))
theorem ml_X5_128 : zk_ml RX5 128 yX5_mix := Or.inl (zk_in 585 (by decide +kernel) (by decide +kernel))
theorem ml_X5_100 : zk_ml RX5 100 yX5_turned := Or.inl (zk_in 589 (by decide +kernel) (by decide +kernel))
theorem ml_X5_152 : zk_ml RX5 152 yX5_give := Or.inl (zk_in 592 (by decide +kernel) (by decide +kernel))
theorem ml_L_43 : zk_ml RL 43 yX5_longHash := Or.inl (zk_in 596 (by decide +kernel) (by decide +kernel))
theorem ml_X5_155 : zk_ml RX5 155 yX5_longTo := Or.inl (zk_in 600 (by decide +kernel) (by decide +kernel))
theorem ml_X5_144 : zk_ml RX5 144 yX5_put := Or.inl (zk_in 604 (by decide +kernel) (by decide +kernel))
theorem ml_L_48 : zk_ml RL 48 yX5_begin := Or.inl (zk_in 608 (by decide +kernel) (by decide +kernel))
theorem ml_X5_158 : zk_ml RX5 158 yX5_isPerhaps := Or.inl (zk_in 612 (by decide +kernel) (by decide +kernel))
theorem ml_X5_185 : zk_ml RX5 185 yX5_putOwn := Or.inl (zk_in 616 (by decide +kernel) (by decide +kernel))
theorem ml_L_52 : zk_ml RL 52 yX5_fill := Or.inl (zk_in 620 (by decide +kernel) (by decide +kernel))
theorem ml_X5_228 : zk_ml RX5 228 yX5_fillSome := Or.inl (zk_in 624 (by decide +kernel) (by decide +kernel))
theorem ml_X5_224 : zk_ml RX5 224 yX5_segment := Or.inl (zk_in 628 (by decide +kernel) (by decide +kernel))
theorem ml_X5_217 : zk_ml RX5 217 yX5_makeAddress := Or.inl (zk_in 632 (by decide +kernel) (by decide +kernel))
theorem ml_X5_214 : zk_ml RX5 214 yX5_join := Or.inl (zk_in 637 (by decide +kernel) (by decide +kernel))
theorem ml_X5_208 : zk_ml RX5 208 yX5_stir := Or.inl (zk_in 641 (by decide +kernel) (by decide +kernel))
theorem ml_X5_204 : zk_ml RX5 204 yX5_quarter := Or.inl (zk_in 645 (by decide +kernel) (by decide +kernel))
theorem ml_X5_196 : zk_ml RX5 196 yX5_spot := Or.inl (zk_in 649 (by decide +kernel) (by decide +kernel))
theorem ml_X5_200 : zk_ml RX5 200 yX5_hard := Or.inl (zk_in 652 (by decide +kernel) (by decide +kernel))
theorem ml_X5_192 : zk_ml RX5 192 yX5_half := Or.inl (zk_in 657 (by decide +kernel) (by decide +kernel))
theorem ml_X5_220 : zk_ml RX5 220 yX5_farBlock := Or.inl (zk_in 661 (by decide +kernel) (by decide +kernel))
theorem ml_L_57 : zk_ml RL 57 yX5_word := Or.inl (zk_in 665 (by decide +kernel) (by decide +kernel))
theorem ml_L_61 : zk_ml RL 61 yX5_tag := Or.inl (zk_in 669 (by decide +kernel) (by decide +kernel))
theorem ml_X5_231 : zk_ml RX5 231 yX5_makeTag := Or.inl (zk_in 673 (by decide +kernel) (by decide +kernel))
theorem ml_L_65 : zk_ml RL 65 yX5_told := Or.inl (zk_in 677 (by decide +kernel) (by decide +kernel))
theorem ml_L_70 : zk_ml RL 70 yX5_seal := Or.inl (zk_in 681 (by decide +kernel) (by decide +kernel))
theorem ml_X5_234 : zk_ml RX5 234 yX5_begin := Or.inl (zk_in 685 (by decide +kernel) (by decide +kernel))
theorem mi_X0_empty : zk_mi yX0_empty cX0_empty 1 none 0 := ⟨(zk_in 210 (by decide +kernel) (by decide +kernel)), (zk_in 211 (by decide +kernel) (by decide +kernel)), (zk_in 37 (by decide +kernel) (by decide +kernel)), (zk_in 212 (by decide +kernel) (by decide +kernel)), ⟨by decide +kernel, by decide +kernel, by decide +kernel⟩⟩
theorem mi_X0_byteAt : zk_mi yX0_byteAt cX0_byteAt 2 (some .int) 1 := ⟨(zk_in 222 (by decide +kernel) (by decide +kernel)), (zk_in 223 (by decide +kernel) (by decide +kernel)), (zk_in 37 (by decide +kernel) (by decide +kernel)), (zk_in 224 (by decide +kernel) (by decide +kernel)), ⟨by decide +kernel, by decide +kernel, by decide +kernel⟩⟩
theorem mi_X0_wordAt : zk_mi yX0_wordAt cX0_wordAt 6 (some .long) 1 := ⟨(zk_in 261 (by decide +kernel) (by decide +kernel)), (zk_in 262 (by decide +kernel) (by decide +kernel)), (zk_in 37 (by decide +kernel) (by decide +kernel)), (zk_in 263 (by decide +kernel) (by decide +kernel)), ⟨by decide +kernel, by decide +kernel, by decide +kernel⟩⟩
theorem mi_X0_put : zk_mi yX0_put cX0_put 2 none 1 := ⟨(zk_in 202 (by decide +kernel) (by decide +kernel)), (zk_in 203 (by decide +kernel) (by decide +kernel)), (zk_in 37 (by decide +kernel) (by decide +kernel)), (zk_in 204 (by decide +kernel) (by decide +kernel)), ⟨by decide +kernel, by decide +kernel, by decide +kernel⟩⟩
theorem mi_X0_putNumber : zk_mi yX0_putNumber cX0_putNumber 5 none 2 := ⟨(zk_in 198 (by decide +kernel) (by decide +kernel)), (zk_in 199 (by decide +kernel) (by decide +kernel)), (zk_in 37 (by decide +kernel) (by decide +kernel)), (zk_in 200 (by decide +kernel) (by decide +kernel)), ⟨by decide +kernel, by decide +kernel, by decide +kernel⟩⟩
theorem mi_X0_putAll : zk_mi yX0_putAll cX0_putAll 3 none 1 := ⟨(zk_in 238 (by decide +kernel) (by decide +kernel)), (zk_in 239 (by decide +kernel) (by decide +kernel)), (zk_in 37 (by decide +kernel) (by decide +kernel)), (zk_in 240 (by decide +kernel) (by decide +kernel)), ⟨by decide +kernel, by decide +kernel, by decide +kernel⟩⟩
theorem mi_X0_become : zk_mi yX0_become cX0_become 2 none 1 := ⟨(zk_in 290 (by decide +kernel) (by decide +kernel)), (zk_in 291 (by decide +kernel) (by decide +kernel)), (zk_in 37 (by decide +kernel) (by decide +kernel)), (zk_in 292 (by decide +kernel) (by decide +kernel)), ⟨by decide +kernel, by decide +kernel, by decide +kernel⟩⟩
theorem ms_X1_isPossible : zk_ms yX1_isPossible cX1_isPossible 5 (some .boolean) 5 := ⟨(zk_in 316 (by decide +kernel) (by decide +kernel)), (zk_in 40 (by decide +kernel) (by decide +kernel)), (zk_in 317 (by decide +kernel) (by decide +kernel)), ⟨by decide +kernel, by decide +kernel, by decide +kernel⟩⟩
theorem mi_X1_restart : zk_mi yX1_restart cX1_restart 8 none 5 := ⟨(zk_in 319 (by decide +kernel) (by decide +kernel)), (zk_in 320 (by decide +kernel) (by decide +kernel)), (zk_in 40 (by decide +kernel) (by decide +kernel)), (zk_in 321 (by decide +kernel) (by decide +kernel)), ⟨by decide +kernel, by decide +kernel, by decide +kernel⟩⟩
theorem mi_X1_putSettings : zk_mi yX1_putSettings cX1_putSettings 3 none 2 := ⟨(zk_in 324 (by decide +kernel) (by decide +kernel)), (zk_in 325 (by decide +kernel) (by decide +kernel)), (zk_in 40 (by decide +kernel) (by decide +kernel)), (zk_in 326 (by decide +kernel) (by decide +kernel)), ⟨by decide +kernel, by decide +kernel, by decide +kernel⟩⟩
theorem mi_X1_isBegun : zk_mi yX1_isBegun cX1_isBegun 1 (some .boolean) 0 := ⟨(zk_in 355 (by decide +kernel) (by decide +kernel)), (zk_in 356 (by decide +kernel) (by decide +kernel)), (zk_in 40 (by decide +kernel) (by decide +kernel)), (zk_in 357 (by decide +kernel) (by decide +kernel)), ⟨by decide +kernel, by decide +kernel, by decide +kernel⟩⟩
theorem mi_X1_blocks : zk_mi yX1_blocks cX1_blocks 1 (some .int) 0 := ⟨(zk_in 347 (by decide +kernel) (by decide +kernel)), (zk_in 348 (by decide +kernel) (by decide +kernel)), (zk_in 40 (by decide +kernel) (by decide +kernel)), (zk_in 349 (by decide +kernel) (by decide +kernel)), ⟨by decide +kernel, by decide +kernel, by decide +kernel⟩⟩
theorem mi_X1_segments : zk_mi yX1_segments cX1_segments 1 (some .int) 0 := ⟨(zk_in 359 (by decide +kernel) (by decide +kernel)), (zk_in 360 (by decide +kernel) (by decide +kernel)), (zk_in 40 (by decide +kernel) (by decide +kernel)), (zk_in 361 (by decide +kernel) (by decide +kernel)), ⟨by decide +kernel, by decide +kernel, by decide +kernel⟩⟩
theorem mi_X1_wordOf : zk_mi yX1_wordOf cX1_wordOf 3 (some .long) 2 := ⟨(zk_in 410 (by decide +kernel) (by decide +kernel)), (zk_in 411 (by decide +kernel) (by decide +kernel)), (zk_in 40 (by decide +kernel) (by decide +kernel)), (zk_in 412 (by decide +kernel) (by decide +kernel)), ⟨by decide +kernel, by decide +kernel, by decide +kernel⟩⟩
theorem mi_X1_lay : zk_mi yX1_lay cX1_lay 6 none 3 := ⟨(zk_in 338 (by decide +kernel) (by decide +kernel)), (zk_in 339 (by decide +kernel) (by decide +kernel)), (zk_in 40 (by decide +kernel) (by decide +kernel)), (zk_in 340 (by decide +kernel) (by decide +kernel)), ⟨by decide +kernel, by decide +kernel, by decide +kernel⟩⟩
theorem mi_X1_putLastBlocks : zk_mi yX1_putLastBlocks cX1_putLastBlocks 6 none 1 := ⟨(zk_in 418 (by decide +kernel) (by decide +kernel)), (zk_in 419 (by decide +kernel) (by decide +kernel)), (zk_in 40 (by decide +kernel) (by decide +kernel)), (zk_in 420 (by decide +kernel) (by decide +kernel)), ⟨by decide +kernel, by decide +kernel, by decide +kernel⟩⟩
theorem mi_X1_doSegment : zk_mi yX1_doSegment cX1_doSegment 9 none 0 := ⟨(zk_in 364 (by decide +kernel) (by decide +kernel)), (zk_in 365 (by decide +kernel) (by decide +kernel)), (zk_in 40 (by decide +kernel) (by decide +kernel)), (zk_in 366 (by decide +kernel) (by decide +kernel)), ⟨by decide +kernel, by decide +kernel, by decide +kernel⟩⟩
theorem mi_X1_isFirstSlice : zk_mi yX1_isFirstSlice cX1_isFirstSlice 1 (some .boolean) 0 := ⟨(zk_in 398 (by decide +kernel) (by decide +kernel)), (zk_in 14 (by decide +kernel) (by decide +kernel)), (zk_in 40 (by decide +kernel) (by decide +kernel)), (zk_in 399 (by decide +kernel) (by decide +kernel)), ⟨by decide +kernel, by decide +kernel, by decide +kernel⟩⟩
theorem mi_X1_goesByAddress : zk_mi yX1_goesByAddress cX1_goesByAddress 1 (some .boolean) 0 := ⟨(zk_in 370 (by decide +kernel) (by decide +kernel)), (zk_in 10 (by decide +kernel) (by decide +kernel)), (zk_in 40 (by decide +kernel) (by decide +kernel)), (zk_in 371 (by decide +kernel) (by decide +kernel)), ⟨by decide +kernel, by decide +kernel, by decide +kernel⟩⟩
theorem mi_X1_openAddress : zk_mi yX1_openAddress cX1_openAddress 2 none 0 := ⟨(zk_in 374 (by decide +kernel) (by decide +kernel)), (zk_in 11 (by decide +kernel) (by decide +kernel)), (zk_in 40 (by decide +kernel) (by decide +kernel)), (zk_in 375 (by decide +kernel) (by decide +kernel)), ⟨by decide +kernel, by decide +kernel, by decide +kernel⟩⟩
theorem mi_X1_farBlock : zk_mi yX1_farBlock cX1_farBlock 15 (some .int) 2 := ⟨(zk_in 402 (by decide +kernel) (by decide +kernel)), (zk_in 15 (by decide +kernel) (by decide +kernel)), (zk_in 40 (by decide +kernel) (by decide +kernel)), (zk_in 403 (by decide +kernel) (by decide +kernel)), ⟨by decide +kernel, by decide +kernel, by decide +kernel⟩⟩
theorem mi_X1_blockOf : zk_mi yX1_blockOf cX1_blockOf 2 (some (.array .long)) 1 := ⟨(zk_in 343 (by decide +kernel) (by decide +kernel)), (zk_in 9 (by decide +kernel) (by decide +kernel)), (zk_in 40 (by decide +kernel) (by decide +kernel)), (zk_in 344 (by decide +kernel) (by decide +kernel)), ⟨by decide +kernel, by decide +kernel, by decide +kernel⟩⟩
theorem mi_X2_openWithKey : zk_mi yX2_openWithKey cX2_openWithKey 3 none 1 := ⟨(zk_in 233 (by decide +kernel) (by decide +kernel)), (zk_in 234 (by decide +kernel) (by decide +kernel)), (zk_in 39 (by decide +kernel) (by decide +kernel)), (zk_in 235 (by decide +kernel) (by decide +kernel)), ⟨by decide +kernel, by decide +kernel, by decide +kernel⟩⟩
theorem mi_X2_openLong : zk_mi yX2_openLong cX2_openLong 2 none 1 := ⟨(zk_in 300 (by decide +kernel) (by decide +kernel)), (zk_in 301 (by decide +kernel) (by decide +kernel)), (zk_in 39 (by decide +kernel) (by decide +kernel)), (zk_in 302 (by decide +kernel) (by decide +kernel)), ⟨by decide +kernel, by decide +kernel, by decide +kernel⟩⟩
theorem mi_X2_makeShort : zk_mi yX2_makeShort cX2_makeShort 3 none 2 := ⟨(zk_in 245 (by decide +kernel) (by decide +kernel)), (zk_in 246 (by decide +kernel) (by decide +kernel)), (zk_in 39 (by decide +kernel) (by decide +kernel)), (zk_in 247 (by decide +kernel) (by decide +kernel)), ⟨by decide +kernel, by decide +kernel, by decide +kernel⟩⟩
theorem mi_X2_makeLong : zk_mi yX2_makeLong cX2_makeLong 3 none 1 := ⟨(zk_in 304 (by decide +kernel) (by decide +kernel)), (zk_in 305 (by decide +kernel) (by decide +kernel)), (zk_in 39 (by decide +kernel) (by decide +kernel)), (zk_in 306 (by decide +kernel) (by decide +kernel)), ⟨by decide +kernel, by decide +kernel, by decide +kernel⟩⟩
theorem mi_X2_takeStateAsMessage : zk_mi yX2_takeStateAsMessage cX2_takeStateAsMessage 2 none 0 := ⟨(zk_in 309 (by decide +kernel) (by decide +kernel)), (zk_in 6 (by decide +kernel) (by decide +kernel)), (zk_in 39 (by decide +kernel) (by decide +kernel)), (zk_in 310 (by decide +kernel) (by decide +kernel)), ⟨by decide +kernel, by decide +kernel, by decide +kernel⟩⟩
theorem mi_X2_give : zk_mi yX2_give cX2_give 3 none 1 := ⟨(zk_in 286 (by decide +kernel) (by decide +kernel)), (zk_in 5 (by decide +kernel) (by decide +kernel)), (zk_in 39 (by decide +kernel) (by decide +kernel)), (zk_in 287 (by decide +kernel) (by decide +kernel)), ⟨by decide +kernel, by decide +kernel, by decide +kernel⟩⟩
theorem mi_X2_digest : zk_mi yX2_digest cX2_digest 8 none 2 := ⟨(zk_in 250 (by decide +kernel) (by decide +kernel)), (zk_in 1 (by decide +kernel) (by decide +kernel)), (zk_in 39 (by decide +kernel) (by decide +kernel)), (zk_in 251 (by decide +kernel) (by decide +kernel)), ⟨by decide +kernel, by decide +kernel, by decide +kernel⟩⟩
theorem mi_X2_loadPart : zk_mi yX2_loadPart cX2_loadPart 4 none 2 := ⟨(zk_in 258 (by decide +kernel) (by decide +kernel)), (zk_in 2 (by decide +kernel) (by decide +kernel)), (zk_in 39 (by decide +kernel) (by decide +kernel)), (zk_in 259 (by decide +kernel) (by decide +kernel)), ⟨by decide +kernel, by decide +kernel, by decide +kernel⟩⟩
theorem mi_X2_foldPart : zk_mi yX2_foldPart cX2_foldPart 2 none 0 := ⟨(zk_in 282 (by decide +kernel) (by decide +kernel)), (zk_in 4 (by decide +kernel) (by decide +kernel)), (zk_in 39 (by decide +kernel) (by decide +kernel)), (zk_in 283 (by decide +kernel) (by decide +kernel)), ⟨by decide +kernel, by decide +kernel, by decide +kernel⟩⟩
theorem mi_X2_mix : zk_mi yX2_mix cX2_mix 10 none 3 := ⟨(zk_in 273 (by decide +kernel) (by decide +kernel)), (zk_in 3 (by decide +kernel) (by decide +kernel)), (zk_in 39 (by decide +kernel) (by decide +kernel)), (zk_in 274 (by decide +kernel) (by decide +kernel)), ⟨by decide +kernel, by decide +kernel, by decide +kernel⟩⟩
theorem mi_X3_join : zk_mi yX3_join cX3_join 8 none 4 := ⟨(zk_in 378 (by decide +kernel) (by decide +kernel)), (zk_in 379 (by decide +kernel) (by decide +kernel)), (zk_in 41 (by decide +kernel) (by decide +kernel)), (zk_in 380 (by decide +kernel) (by decide +kernel)), ⟨by decide +kernel, by decide +kernel, by decide +kernel⟩⟩
theorem mi_X3_stir : zk_mi yX3_stir cX3_stir 4 none 2 := ⟨(zk_in 383 (by decide +kernel) (by decide +kernel)), (zk_in 12 (by decide +kernel) (by decide +kernel)), (zk_in 41 (by decide +kernel) (by decide +kernel)), (zk_in 384 (by decide +kernel) (by decide +kernel)), ⟨by decide +kernel, by decide +kernel, by decide +kernel⟩⟩
theorem mi_X3_mixHard : zk_mi yX3_mixHard cX3_mixHard 6 none 1 := ⟨(zk_in 387 (by decide +kernel) (by decide +kernel)), (zk_in 13 (by decide +kernel) (by decide +kernel)), (zk_in 41 (by decide +kernel) (by decide +kernel)), (zk_in 388 (by decide +kernel) (by decide +kernel)), ⟨by decide +kernel, by decide +kernel, by decide +kernel⟩⟩
theorem ms_X3_sumHard : zk_ms yX3_sumHard cX3_sumHard 4 (some .long) 2 := ⟨(zk_in 391 (by decide +kernel) (by decide +kernel)), (zk_in 41 (by decide +kernel) (by decide +kernel)), (zk_in 392 (by decide +kernel) (by decide +kernel)), ⟨by decide +kernel, by decide +kernel, by decide +kernel⟩⟩
theorem mi_X4_add : zk_mi yX4_add cX4_add 6 (some .int) 3 := ⟨(zk_in 187 (by decide +kernel) (by decide +kernel)), (zk_in 188 (by decide +kernel) (by decide +kernel)), (zk_in 36 (by decide +kernel) (by decide +kernel)), (zk_in 189 (by decide +kernel) (by decide +kernel)), ⟨by decide +kernel, by decide +kernel, by decide +kernel⟩⟩
theorem mi_X4_clear : zk_mi yX4_clear cX4_clear 4 (some .int) 1 := ⟨(zk_in 206 (by decide +kernel) (by decide +kernel)), (zk_in 207 (by decide +kernel) (by decide +kernel)), (zk_in 36 (by decide +kernel) (by decide +kernel)), (zk_in 208 (by decide +kernel) (by decide +kernel)), ⟨by decide +kernel, by decide +kernel, by decide +kernel⟩⟩
theorem mi_X4_size : zk_mi yX4_size cX4_size 2 (some .int) 1 := ⟨(zk_in 214 (by decide +kernel) (by decide +kernel)), (zk_in 215 (by decide +kernel) (by decide +kernel)), (zk_in 36 (by decide +kernel) (by decide +kernel)), (zk_in 216 (by decide +kernel) (by decide +kernel)), ⟨by decide +kernel, by decide +kernel, by decide +kernel⟩⟩
theorem mi_X4_at : zk_mi yX4_at cX4_at 3 (some .int) 2 := ⟨(zk_in 218 (by decide +kernel) (by decide +kernel)), (zk_in 219 (by decide +kernel) (by decide +kernel)), (zk_in 36 (by decide +kernel) (by decide +kernel)), (zk_in 220 (by decide +kernel) (by decide +kernel)), ⟨by decide +kernel, by decide +kernel, by decide +kernel⟩⟩
theorem mi_X4_hash : zk_mi yX4_hash cX4_hash 6 (some .int) 4 := ⟨(zk_in 226 (by decide +kernel) (by decide +kernel)), (zk_in 227 (by decide +kernel) (by decide +kernel)), (zk_in 36 (by decide +kernel) (by decide +kernel)), (zk_in 228 (by decide +kernel) (by decide +kernel)), ⟨by decide +kernel, by decide +kernel, by decide +kernel⟩⟩
theorem mi_X4_longHash : zk_mi yX4_longHash cX4_longHash 4 (some .int) 3 := ⟨(zk_in 296 (by decide +kernel) (by decide +kernel)), (zk_in 297 (by decide +kernel) (by decide +kernel)), (zk_in 36 (by decide +kernel) (by decide +kernel)), (zk_in 298 (by decide +kernel) (by decide +kernel)), ⟨by decide +kernel, by decide +kernel, by decide +kernel⟩⟩
theorem mi_X4_begin : zk_mi yX4_begin cX4_begin 10 (some .int) 9 := ⟨(zk_in 312 (by decide +kernel) (by decide +kernel)), (zk_in 313 (by decide +kernel) (by decide +kernel)), (zk_in 36 (by decide +kernel) (by decide +kernel)), (zk_in 314 (by decide +kernel) (by decide +kernel)), ⟨by decide +kernel, by decide +kernel, by decide +kernel⟩⟩
theorem mi_X4_fill : zk_mi yX4_fill cX4_fill 4 (some .int) 1 := ⟨(zk_in 351 (by decide +kernel) (by decide +kernel)), (zk_in 352 (by decide +kernel) (by decide +kernel)), (zk_in 36 (by decide +kernel) (by decide +kernel)), (zk_in 353 (by decide +kernel) (by decide +kernel)), ⟨by decide +kernel, by decide +kernel, by decide +kernel⟩⟩
theorem mi_X4_word : zk_mi yX4_word cX4_word 3 (some .long) 2 := ⟨(zk_in 406 (by decide +kernel) (by decide +kernel)), (zk_in 407 (by decide +kernel) (by decide +kernel)), (zk_in 36 (by decide +kernel) (by decide +kernel)), (zk_in 408 (by decide +kernel) (by decide +kernel)), ⟨by decide +kernel, by decide +kernel, by decide +kernel⟩⟩
theorem mi_X4_tag : zk_mi yX4_tag cX4_tag 2 (some .int) 1 := ⟨(zk_in 414 (by decide +kernel) (by decide +kernel)), (zk_in 415 (by decide +kernel) (by decide +kernel)), (zk_in 36 (by decide +kernel) (by decide +kernel)), (zk_in 416 (by decide +kernel) (by decide +kernel)), ⟨by decide +kernel, by decide +kernel, by decide +kernel⟩⟩
theorem mi_X4_told : zk_mi yX4_told cX4_told 2 (some .int) 1 := ⟨(zk_in 423 (by decide +kernel) (by decide +kernel)), (zk_in 424 (by decide +kernel) (by decide +kernel)), (zk_in 36 (by decide +kernel) (by decide +kernel)), (zk_in 425 (by decide +kernel) (by decide +kernel)), ⟨by decide +kernel, by decide +kernel, by decide +kernel⟩⟩
theorem mi_X4_seal : zk_mi yX4_seal cX4_seal 10 (some .int) 8 := ⟨(zk_in 427 (by decide +kernel) (by decide +kernel)), (zk_in 428 (by decide +kernel) (by decide +kernel)), (zk_in 36 (by decide +kernel) (by decide +kernel)), (zk_in 429 (by decide +kernel) (by decide +kernel)), ⟨by decide +kernel, by decide +kernel, by decide +kernel⟩⟩
theorem ms_X4_isRegister : zk_ms yX4_isRegister cX4_isRegister 1 (some .boolean) 1 := ⟨(zk_in 191 (by decide +kernel) (by decide +kernel)), (zk_in 36 (by decide +kernel) (by decide +kernel)), (zk_in 192 (by decide +kernel) (by decide +kernel)), ⟨by decide +kernel, by decide +kernel, by decide +kernel⟩⟩
theorem ms_X4_isRegisterOrNone : zk_ms yX4_isRegisterOrNone cX4_isRegisterOrNone 1 (some .boolean) 1 := ⟨(zk_in 230 (by decide +kernel) (by decide +kernel)), (zk_in 36 (by decide +kernel) (by decide +kernel)), (zk_in 231 (by decide +kernel) (by decide +kernel)), ⟨by decide +kernel, by decide +kernel, by decide +kernel⟩⟩
theorem mi_X4_bytesOf : zk_mi yX4_bytesOf cX4_bytesOf 2 (some (.object "SlowSeal$Bytes")) 1 := ⟨(zk_in 195 (by decide +kernel) (by decide +kernel)), (zk_in 0 (by decide +kernel) (by decide +kernel)), (zk_in 36 (by decide +kernel) (by decide +kernel)), (zk_in 196 (by decide +kernel) (by decide +kernel)), ⟨by decide +kernel, by decide +kernel, by decide +kernel⟩⟩
theorem mi_X4_putWithLength : zk_mi yX4_putWithLength cX4_putWithLength 3 none 1 := ⟨(zk_in 331 (by decide +kernel) (by decide +kernel)), (zk_in 7 (by decide +kernel) (by decide +kernel)), (zk_in 36 (by decide +kernel) (by decide +kernel)), (zk_in 332 (by decide +kernel) (by decide +kernel)), ⟨by decide +kernel, by decide +kernel, by decide +kernel⟩⟩
theorem mi_X4_layFirstBlocks : zk_mi yX4_layFirstBlocks cX4_layFirstBlocks 3 none 0 := ⟨(zk_in 335 (by decide +kernel) (by decide +kernel)), (zk_in 8 (by decide +kernel) (by decide +kernel)), (zk_in 36 (by decide +kernel) (by decide +kernel)), (zk_in 336 (by decide +kernel) (by decide +kernel)), ⟨by decide +kernel, by decide +kernel, by decide +kernel⟩⟩
theorem ms_X4_turnRight : zk_ms yX4_turnRight cX4_turnRight 3 (some .long) 2 := ⟨(zk_in 278 (by decide +kernel) (by decide +kernel)), (zk_in 36 (by decide +kernel) (by decide +kernel)), (zk_in 279 (by decide +kernel) (by decide +kernel)), ⟨by decide +kernel, by decide +kernel, by decide +kernel⟩⟩
theorem ms_X5_in : zk_ms yX5_in cX5_in 3 (some .boolean) 3 := ⟨(zk_in 518 (by decide +kernel) (by decide +kernel)), (zk_in 42 (by decide +kernel) (by decide +kernel)), (zk_in 519 (by decide +kernel) (by decide +kernel)), ⟨by decide +kernel, by decide +kernel, by decide +kernel⟩⟩
theorem ms_X5_isRegister : zk_ms yX5_isRegister cX5_isRegister 1 (some .boolean) 1 := ⟨(zk_in 515 (by decide +kernel) (by decide +kernel)), (zk_in 42 (by decide +kernel) (by decide +kernel)), (zk_in 516 (by decide +kernel) (by decide +kernel)), ⟨by decide +kernel, by decide +kernel, by decide +kernel⟩⟩
theorem mi_X5_add : zk_mi yX5_add cX5_add 6 (some .int) 3 := ⟨(zk_in 511 (by decide +kernel) (by decide +kernel)), (zk_in 512 (by decide +kernel) (by decide +kernel)), (zk_in 42 (by decide +kernel) (by decide +kernel)), (zk_in 513 (by decide +kernel) (by decide +kernel)), ⟨by decide +kernel, by decide +kernel, by decide +kernel⟩⟩
theorem mi_X5_clear : zk_mi yX5_clear cX5_clear 3 (some .int) 1 := ⟨(zk_in 522 (by decide +kernel) (by decide +kernel)), (zk_in 523 (by decide +kernel) (by decide +kernel)), (zk_in 42 (by decide +kernel) (by decide +kernel)), (zk_in 524 (by decide +kernel) (by decide +kernel)), ⟨by decide +kernel, by decide +kernel, by decide +kernel⟩⟩
theorem mi_X5_size : zk_mi yX5_size cX5_size 2 (some .int) 1 := ⟨(zk_in 526 (by decide +kernel) (by decide +kernel)), (zk_in 527 (by decide +kernel) (by decide +kernel)), (zk_in 42 (by decide +kernel) (by decide +kernel)), (zk_in 528 (by decide +kernel) (by decide +kernel)), ⟨by decide +kernel, by decide +kernel, by decide +kernel⟩⟩
theorem mi_X5_at : zk_mi yX5_at cX5_at 3 (some .int) 2 := ⟨(zk_in 530 (by decide +kernel) (by decide +kernel)), (zk_in 531 (by decide +kernel) (by decide +kernel)), (zk_in 42 (by decide +kernel) (by decide +kernel)), (zk_in 532 (by decide +kernel) (by decide +kernel)), ⟨by decide +kernel, by decide +kernel, by decide +kernel⟩⟩
theorem mi_X5_give : zk_mi yX5_give cX5_give 4 none 2 := ⟨(zk_in 594 (by decide +kernel) (by decide +kernel)), (zk_in 22 (by decide +kernel) (by decide +kernel)), (zk_in 42 (by decide +kernel) (by decide +kernel)), (zk_in 595 (by decide +kernel) (by decide +kernel)), ⟨by decide +kernel, by decide +kernel, by decide +kernel⟩⟩
theorem ms_X5_start : zk_ms yX5_start cX5_start 1 (some .long) 1 := ⟨(zk_in 546 (by decide +kernel) (by decide +kernel)), (zk_in 42 (by decide +kernel) (by decide +kernel)), (zk_in 547 (by decide +kernel) (by decide +kernel)), ⟨by decide +kernel, by decide +kernel, by decide +kernel⟩⟩
theorem ms_X5_order : zk_ms yX5_order cX5_order 1 (some .long) 1 := ⟨(zk_in 568 (by decide +kernel) (by decide +kernel)), (zk_in 42 (by decide +kernel) (by decide +kernel)), (zk_in 569 (by decide +kernel) (by decide +kernel)), ⟨by decide +kernel, by decide +kernel, by decide +kernel⟩⟩
theorem ms_X5_turned : zk_ms yX5_turned cX5_turned 3 (some .long) 2 := ⟨(zk_in 590 (by decide +kernel) (by decide +kernel)), (zk_in 42 (by decide +kernel) (by decide +kernel)), (zk_in 591 (by decide +kernel) (by decide +kernel)), ⟨by decide +kernel, by decide +kernel, by decide +kernel⟩⟩
theorem mi_X5_mix : zk_mi yX5_mix cX5_mix 9 none 6 := ⟨(zk_in 587 (by decide +kernel) (by decide +kernel)), (zk_in 21 (by decide +kernel) (by decide +kernel)), (zk_in 42 (by decide +kernel) (by decide +kernel)), (zk_in 588 (by decide +kernel) (by decide +kernel)), ⟨by decide +kernel, by decide +kernel, by decide +kernel⟩⟩
theorem mi_X5_picked : zk_mi yX5_picked cX5_picked 4 (some .long) 2 := ⟨(zk_in 582 (by decide +kernel) (by decide +kernel)), (zk_in 20 (by decide +kernel) (by decide +kernel)), (zk_in 42 (by decide +kernel) (by decide +kernel)), (zk_in 583 (by decide +kernel) (by decide +kernel)), ⟨by decide +kernel, by decide +kernel, by decide +kernel⟩⟩
theorem mi_X5_byteAt : zk_mi yX5_byteAt cX5_byteAt 3 (some .int) 1 := ⟨(zk_in 564 (by decide +kernel) (by decide +kernel)), (zk_in 19 (by decide +kernel) (by decide +kernel)), (zk_in 42 (by decide +kernel) (by decide +kernel)), (zk_in 565 (by decide +kernel) (by decide +kernel)), ⟨by decide +kernel, by decide +kernel, by decide +kernel⟩⟩
theorem mi_X5_part : zk_mi yX5_part cX5_part 7 none 3 := ⟨(zk_in 560 (by decide +kernel) (by decide +kernel)), (zk_in 18 (by decide +kernel) (by decide +kernel)), (zk_in 42 (by decide +kernel) (by decide +kernel)), (zk_in 561 (by decide +kernel) (by decide +kernel)), ⟨by decide +kernel, by decide +kernel, by decide +kernel⟩⟩
theorem mi_X5_hashTo : zk_mi yX5_hashTo cX5_hashTo 7 none 2 := ⟨(zk_in 543 (by decide +kernel) (by decide +kernel)), (zk_in 17 (by decide +kernel) (by decide +kernel)), (zk_in 42 (by decide +kernel) (by decide +kernel)), (zk_in 544 (by decide +kernel) (by decide +kernel)), ⟨by decide +kernel, by decide +kernel, by decide +kernel⟩⟩
theorem mi_X5_put : zk_mi yX5_put cX5_put 5 none 2 := ⟨(zk_in 606 (by decide +kernel) (by decide +kernel)), (zk_in 24 (by decide +kernel) (by decide +kernel)), (zk_in 42 (by decide +kernel) (by decide +kernel)), (zk_in 607 (by decide +kernel) (by decide +kernel)), ⟨by decide +kernel, by decide +kernel, by decide +kernel⟩⟩
theorem mi_X5_putRegister : zk_mi yX5_putRegister cX5_putRegister 3 none 1 := ⟨(zk_in 539 (by decide +kernel) (by decide +kernel)), (zk_in 16 (by decide +kernel) (by decide +kernel)), (zk_in 42 (by decide +kernel) (by decide +kernel)), (zk_in 540 (by decide +kernel) (by decide +kernel)), ⟨by decide +kernel, by decide +kernel, by decide +kernel⟩⟩
theorem mi_X5_longTo : zk_mi yX5_longTo cX5_longTo 4 none 1 := ⟨(zk_in 602 (by decide +kernel) (by decide +kernel)), (zk_in 23 (by decide +kernel) (by decide +kernel)), (zk_in 42 (by decide +kernel) (by decide +kernel)), (zk_in 603 (by decide +kernel) (by decide +kernel)), ⟨by decide +kernel, by decide +kernel, by decide +kernel⟩⟩
theorem mi_X5_hash : zk_mi yX5_hash cX5_hash 6 (some .int) 4 := ⟨(zk_in 534 (by decide +kernel) (by decide +kernel)), (zk_in 535 (by decide +kernel) (by decide +kernel)), (zk_in 42 (by decide +kernel) (by decide +kernel)), (zk_in 536 (by decide +kernel) (by decide +kernel)), ⟨by decide +kernel, by decide +kernel, by decide +kernel⟩⟩
theorem mi_X5_longHash : zk_mi yX5_longHash cX5_longHash 4 (some .int) 3 := ⟨(zk_in 597 (by decide +kernel) (by decide +kernel)), (zk_in 598 (by decide +kernel) (by decide +kernel)), (zk_in 42 (by decide +kernel) (by decide +kernel)), (zk_in 599 (by decide +kernel) (by decide +kernel)), ⟨by decide +kernel, by decide +kernel, by decide +kernel⟩⟩
theorem mi_X5_putOwn : zk_mi yX5_putOwn cX5_putOwn 2 none 1 := ⟨(zk_in 618 (by decide +kernel) (by decide +kernel)), (zk_in 25 (by decide +kernel) (by decide +kernel)), (zk_in 42 (by decide +kernel) (by decide +kernel)), (zk_in 619 (by decide +kernel) (by decide +kernel)), ⟨by decide +kernel, by decide +kernel, by decide +kernel⟩⟩
theorem ms_X5_isPerhaps : zk_ms yX5_isPerhaps cX5_isPerhaps 1 (some .boolean) 1 := ⟨(zk_in 613 (by decide +kernel) (by decide +kernel)), (zk_in 42 (by decide +kernel) (by decide +kernel)), (zk_in 614 (by decide +kernel) (by decide +kernel)), ⟨by decide +kernel, by decide +kernel, by decide +kernel⟩⟩
theorem mi_X5_begin : zk_mi yX5_begin cX5_begin 13 (some .int) 9 := ⟨(zk_in 609 (by decide +kernel) (by decide +kernel)), (zk_in 610 (by decide +kernel) (by decide +kernel)), (zk_in 42 (by decide +kernel) (by decide +kernel)), (zk_in 611 (by decide +kernel) (by decide +kernel)), ⟨by decide +kernel, by decide +kernel, by decide +kernel⟩⟩
theorem ms_X5_half : zk_ms yX5_half cX5_half 2 (some .long) 1 := ⟨(zk_in 658 (by decide +kernel) (by decide +kernel)), (zk_in 42 (by decide +kernel) (by decide +kernel)), (zk_in 659 (by decide +kernel) (by decide +kernel)), ⟨by decide +kernel, by decide +kernel, by decide +kernel⟩⟩
theorem mi_X5_hard : zk_mi yX5_hard cX5_hard 13 none 4 := ⟨(zk_in 654 (by decide +kernel) (by decide +kernel)), (zk_in 32 (by decide +kernel) (by decide +kernel)), (zk_in 42 (by decide +kernel) (by decide +kernel)), (zk_in 655 (by decide +kernel) (by decide +kernel)), ⟨by decide +kernel, by decide +kernel, by decide +kernel⟩⟩
theorem ms_X5_spot : zk_ms yX5_spot cX5_spot 3 (some .int) 3 := ⟨(zk_in 650 (by decide +kernel) (by decide +kernel)), (zk_in 42 (by decide +kernel) (by decide +kernel)), (zk_in 651 (by decide +kernel) (by decide +kernel)), ⟨by decide +kernel, by decide +kernel, by decide +kernel⟩⟩
theorem mi_X5_quarter : zk_mi yX5_quarter cX5_quarter 7 none 6 := ⟨(zk_in 647 (by decide +kernel) (by decide +kernel)), (zk_in 31 (by decide +kernel) (by decide +kernel)), (zk_in 42 (by decide +kernel) (by decide +kernel)), (zk_in 648 (by decide +kernel) (by decide +kernel)), ⟨by decide +kernel, by decide +kernel, by decide +kernel⟩⟩
theorem mi_X5_stir : zk_mi yX5_stir cX5_stir 3 none 2 := ⟨(zk_in 643 (by decide +kernel) (by decide +kernel)), (zk_in 30 (by decide +kernel) (by decide +kernel)), (zk_in 42 (by decide +kernel) (by decide +kernel)), (zk_in 644 (by decide +kernel) (by decide +kernel)), ⟨by decide +kernel, by decide +kernel, by decide +kernel⟩⟩
theorem mi_X5_join : zk_mi yX5_join cX5_join 2 none 0 := ⟨(zk_in 639 (by decide +kernel) (by decide +kernel)), (zk_in 29 (by decide +kernel) (by decide +kernel)), (zk_in 42 (by decide +kernel) (by decide +kernel)), (zk_in 640 (by decide +kernel) (by decide +kernel)), ⟨by decide +kernel, by decide +kernel, by decide +kernel⟩⟩
theorem mi_X5_makeAddress : zk_mi yX5_makeAddress cX5_makeAddress 6 none 4 := ⟨(zk_in 634 (by decide +kernel) (by decide +kernel)), (zk_in 28 (by decide +kernel) (by decide +kernel)), (zk_in 42 (by decide +kernel) (by decide +kernel)), (zk_in 635 (by decide +kernel) (by decide +kernel)), ⟨by decide +kernel, by decide +kernel, by decide +kernel⟩⟩
theorem mi_X5_farBlock : zk_mi yX5_farBlock cX5_farBlock 19 (some .int) 5 := ⟨(zk_in 663 (by decide +kernel) (by decide +kernel)), (zk_in 33 (by decide +kernel) (by decide +kernel)), (zk_in 42 (by decide +kernel) (by decide +kernel)), (zk_in 664 (by decide +kernel) (by decide +kernel)), ⟨by decide +kernel, by decide +kernel, by decide +kernel⟩⟩
theorem mi_X5_segment : zk_mi yX5_segment cX5_segment 12 none 3 := ⟨(zk_in 630 (by decide +kernel) (by decide +kernel)), (zk_in 27 (by decide +kernel) (by decide +kernel)), (zk_in 42 (by decide +kernel) (by decide +kernel)), (zk_in 631 (by decide +kernel) (by decide +kernel)), ⟨by decide +kernel, by decide +kernel, by decide +kernel⟩⟩
theorem mi_X5_fillSome : zk_mi yX5_fillSome cX5_fillSome 3 (some .int) 1 := ⟨(zk_in 626 (by decide +kernel) (by decide +kernel)), (zk_in 26 (by decide +kernel) (by decide +kernel)), (zk_in 42 (by decide +kernel) (by decide +kernel)), (zk_in 627 (by decide +kernel) (by decide +kernel)), ⟨by decide +kernel, by decide +kernel, by decide +kernel⟩⟩
theorem mi_X5_fill : zk_mi yX5_fill cX5_fill 2 (some .int) 1 := ⟨(zk_in 621 (by decide +kernel) (by decide +kernel)), (zk_in 622 (by decide +kernel) (by decide +kernel)), (zk_in 42 (by decide +kernel) (by decide +kernel)), (zk_in 623 (by decide +kernel) (by decide +kernel)), ⟨by decide +kernel, by decide +kernel, by decide +kernel⟩⟩
theorem mi_X5_word : zk_mi yX5_word cX5_word 3 (some .long) 2 := ⟨(zk_in 666 (by decide +kernel) (by decide +kernel)), (zk_in 667 (by decide +kernel) (by decide +kernel)), (zk_in 42 (by decide +kernel) (by decide +kernel)), (zk_in 668 (by decide +kernel) (by decide +kernel)), ⟨by decide +kernel, by decide +kernel, by decide +kernel⟩⟩
theorem mi_X5_makeTag : zk_mi yX5_makeTag cX5_makeTag 3 none 0 := ⟨(zk_in 675 (by decide +kernel) (by decide +kernel)), (zk_in 34 (by decide +kernel) (by decide +kernel)), (zk_in 42 (by decide +kernel) (by decide +kernel)), (zk_in 676 (by decide +kernel) (by decide +kernel)), ⟨by decide +kernel, by decide +kernel, by decide +kernel⟩⟩
theorem mi_X5_tag : zk_mi yX5_tag cX5_tag 2 (some .int) 1 := ⟨(zk_in 670 (by decide +kernel) (by decide +kernel)), (zk_in 671 (by decide +kernel) (by decide +kernel)), (zk_in 42 (by decide +kernel) (by decide +kernel)), (zk_in 672 (by decide +kernel) (by decide +kernel)), ⟨by decide +kernel, by decide +kernel, by decide +kernel⟩⟩
theorem mi_X5_told : zk_mi yX5_told cX5_told 2 (some .int) 1 := ⟨(zk_in 678 (by decide +kernel) (by decide +kernel)), (zk_in 679 (by decide +kernel) (by decide +kernel)), (zk_in 42 (by decide +kernel) (by decide +kernel)), (zk_in 680 (by decide +kernel) (by decide +kernel)), ⟨by decide +kernel, by decide +kernel, by decide +kernel⟩⟩
theorem mi_X5_seal : zk_mi yX5_seal cX5_seal 9 (some .int) 8 := ⟨(zk_in 682 (by decide +kernel) (by decide +kernel)), (zk_in 683 (by decide +kernel) (by decide +kernel)), (zk_in 42 (by decide +kernel) (by decide +kernel)), (zk_in 684 (by decide +kernel) (by decide +kernel)), ⟨by decide +kernel, by decide +kernel, by decide +kernel⟩⟩
theorem mmin_ws : Cond.static Lib.Math.min.name ∈ zk_ws ∧ Cond.initialized "java/lang/Math" ∈ zk_ws ∧ Cond.code Lib.Math.min.name Lib.Math.min.code 2 (some .int) ∈ zk_ws := ⟨(zk_in 265 (by decide +kernel) (by decide +kernel)), (zk_in 38 (by decide +kernel) (by decide +kernel)), (zk_in 266 (by decide +kernel) (by decide +kernel))⟩
theorem mmax_ws : Cond.static Lib.Math.max.name ∈ zk_ws ∧ Cond.initialized "java/lang/Math" ∈ zk_ws ∧ Cond.code Lib.Math.max.name Lib.Math.max.code 2 (some .int) ∈ zk_ws := ⟨(zk_in 59 (by decide +kernel) (by decide +kernel)), (zk_in 38 (by decide +kernel) (by decide +kernel)), (zk_in 60 (by decide +kernel) (by decide +kernel))⟩
theorem kl_X2_93 : Jvm.Cond.constantLong RX2 93 (-1) ∈ zk_ws := (zk_in 268 (by decide +kernel) (by decide +kernel))
theorem kl_X1_62 : Jvm.Cond.constantLong RX1 62 19 ∈ zk_ws := (zk_in 328 (by decide +kernel) (by decide +kernel))
theorem kl_X3_41 : Jvm.Cond.constantLong RX3 41 2 ∈ zk_ws := (zk_in 393 (by decide +kernel) (by decide +kernel))
theorem kl_X3_43 : Jvm.Cond.constantLong RX3 43 4294967295 ∈ zk_ws := (zk_in 394 (by decide +kernel) (by decide +kernel))
theorem kl_X1_110 : Jvm.Cond.constantLong RX1 110 4294967295 ∈ zk_ws := (zk_in 404 (by decide +kernel) (by decide +kernel))
theorem kl_X5_62 : Jvm.Cond.constantLong RX5 62 255 ∈ zk_ws := (zk_in 520 (by decide +kernel) (by decide +kernel))
theorem kl_X5_64 : Jvm.Cond.constantLong RX5 64 7640891576956012808 ∈ zk_ws := (zk_in 548 (by decide +kernel) (by decide +kernel))
theorem kl_X5_66 : Jvm.Cond.constantLong RX5 66 (-4942790177534073029) ∈ zk_ws := (zk_in 549 (by decide +kernel) (by decide +kernel))
theorem kl_X5_68 : Jvm.Cond.constantLong RX5 68 4354685564936845355 ∈ zk_ws := (zk_in 550 (by decide +kernel) (by decide +kernel))
theorem kl_X5_70 : Jvm.Cond.constantLong RX5 70 (-6534734903238641935) ∈ zk_ws := (zk_in 551 (by decide +kernel) (by decide +kernel))
theorem kl_X5_72 : Jvm.Cond.constantLong RX5 72 5840696475078001361 ∈ zk_ws := (zk_in 552 (by decide +kernel) (by decide +kernel))
theorem kl_X5_74 : Jvm.Cond.constantLong RX5 74 (-7276294671716946913) ∈ zk_ws := (zk_in 553 (by decide +kernel) (by decide +kernel))
theorem kl_X5_76 : Jvm.Cond.constantLong RX5 76 2270897969802886507 ∈ zk_ws := (zk_in 554 (by decide +kernel) (by decide +kernel))
theorem kl_X5_78 : Jvm.Cond.constantLong RX5 78 6620516959819538809 ∈ zk_ws := (zk_in 555 (by decide +kernel) (by decide +kernel))
theorem kl_X5_132 : Jvm.Cond.constantLong RX5 132 16842752 ∈ zk_ws := (zk_in 556 (by decide +kernel) (by decide +kernel))
theorem kl_X5_134 : Jvm.Cond.constantLong RX5 134 256 ∈ zk_ws := (zk_in 557 (by decide +kernel) (by decide +kernel))
theorem kl_X5_120 : Jvm.Cond.constantLong RX5 120 (-1) ∈ zk_ws := (zk_in 566 (by decide +kernel) (by decide +kernel))
theorem kl_X5_80 : Jvm.Cond.constantLong RX5 80 (-81985529216486896) ∈ zk_ws := (zk_in 570 (by decide +kernel) (by decide +kernel))
theorem kl_X5_82 : Jvm.Cond.constantLong RX5 82 3853709921291437230 ∈ zk_ws := (zk_in 571 (by decide +kernel) (by decide +kernel))
theorem kl_X5_84 : Jvm.Cond.constantLong RX5 84 5266788149650328715 ∈ zk_ws := (zk_in 572 (by decide +kernel) (by decide +kernel))
theorem kl_X5_86 : Jvm.Cond.constantLong RX5 86 (-8141200382097550441) ∈ zk_ws := (zk_in 573 (by decide +kernel) (by decide +kernel))
theorem kl_X5_88 : Jvm.Cond.constantLong RX5 88 (-3204650750919412471) ∈ zk_ws := (zk_in 574 (by decide +kernel) (by decide +kernel))
theorem kl_X5_90 : Jvm.Cond.constantLong RX5 90 (-7931023849780369726) ∈ zk_ws := (zk_in 575 (by decide +kernel) (by decide +kernel))
theorem kl_X5_92 : Jvm.Cond.constantLong RX5 92 (-5176546439255363236) ∈ zk_ws := (zk_in 576 (by decide +kernel) (by decide +kernel))
theorem kl_X5_94 : Jvm.Cond.constantLong RX5 94 (-6744053556625741891) ∈ zk_ws := (zk_in 577 (by decide +kernel) (by decide +kernel))
theorem kl_X5_96 : Jvm.Cond.constantLong RX5 96 6503616966983130870 ∈ zk_ws := (zk_in 578 (by decide +kernel) (by decide +kernel))
theorem kl_X5_98 : Jvm.Cond.constantLong RX5 98 991893350865389610 ∈ zk_ws := (zk_in 579 (by decide +kernel) (by decide +kernel))
theorem kl_X5_104 : Jvm.Cond.constantLong RX5 104 15 ∈ zk_ws := (zk_in 584 (by decide +kernel) (by decide +kernel))
theorem kl_X5_183 : Jvm.Cond.constantLong RX5 183 19 ∈ zk_ws := (zk_in 615 (by decide +kernel) (by decide +kernel))
theorem kl_X5_212 : Jvm.Cond.constantLong RX5 212 4 ∈ zk_ws := (zk_in 636 (by decide +kernel) (by decide +kernel))
theorem kl_X5_190 : Jvm.Cond.constantLong RX5 190 2 ∈ zk_ws := (zk_in 656 (by decide +kernel) (by decide +kernel))
theorem kl_X5_188 : Jvm.Cond.constantLong RX5 188 4294967295 ∈ zk_ws := (zk_in 660 (by decide +kernel) (by decide +kernel))
theorem kl_L_13 : Jvm.Cond.constantLong RL 13 4294967295 ∈ zk_ws := (zk_in 686 (by decide +kernel) (by decide +kernel))
theorem ki_X2_70 : Jvm.Cond.constant RX2 70 (nI 16842752) ∈ zk_ws := (zk_in 254 (by decide +kernel) (by decide +kernel))
theorem zc_bipush_m3 : (Int8.ofInt (-3)).toInt32 = (-3 : Int32) := by decide +kernel
theorem zc_bipush_m2 : (Int8.ofInt (-2)).toInt32 = (-2 : Int32) := by decide +kernel
theorem zc_bipush_6 : (Int8.ofInt (6)).toInt32 = nI 6 := by decide +kernel
theorem zc_bipush_7 : (Int8.ofInt (7)).toInt32 = nI 7 := by decide +kernel
theorem zc_bipush_8 : (Int8.ofInt (8)).toInt32 = nI 8 := by decide +kernel
theorem zc_bipush_9 : (Int8.ofInt (9)).toInt32 = nI 9 := by decide +kernel
theorem zc_bipush_10 : (Int8.ofInt (10)).toInt32 = nI 10 := by decide +kernel
theorem zc_bipush_11 : (Int8.ofInt (11)).toInt32 = nI 11 := by decide +kernel
theorem zc_bipush_12 : (Int8.ofInt (12)).toInt32 = nI 12 := by decide +kernel
theorem zc_bipush_13 : (Int8.ofInt (13)).toInt32 = nI 13 := by decide +kernel
theorem zc_bipush_14 : (Int8.ofInt (14)).toInt32 = nI 14 := by decide +kernel
theorem zc_bipush_15 : (Int8.ofInt (15)).toInt32 = nI 15 := by decide +kernel
theorem zc_bipush_16 : (Int8.ofInt (16)).toInt32 = nI 16 := by decide +kernel
theorem zc_bipush_24 : (Int8.ofInt (24)).toInt32 = nI 24 := by decide +kernel
theorem zc_bipush_32 : (Int8.ofInt (32)).toInt32 = nI 32 := by decide +kernel
theorem zc_bipush_63 : (Int8.ofInt (63)).toInt32 = nI 63 := by decide +kernel
theorem zc_bipush_64 : (Int8.ofInt (64)).toInt32 = nI 64 := by decide +kernel
theorem zc_bipush_96 : (Int8.ofInt (96)).toInt32 = nI 96 := by decide +kernel
theorem zc_bipush_100 : (Int8.ofInt (100)).toInt32 = nI 100 := by decide +kernel
theorem zc_bipush_127 : (Int8.ofInt (127)).toInt32 = nI 127 := by decide +kernel
theorem zc_iconst_m1 : Int32.ofInt (-1) = (-1 : Int32) := by decide +kernel
theorem zc_iconst_0 : Int32.ofInt (0) = nI 0 := by decide +kernel
theorem zc_iconst_1 : Int32.ofInt (1) = nI 1 := by decide +kernel
theorem zc_iconst_2 : Int32.ofInt (2) = nI 2 := by decide +kernel
theorem zc_iconst_3 : Int32.ofInt (3) = nI 3 := by decide +kernel
theorem zc_iconst_4 : Int32.ofInt (4) = nI 4 := by decide +kernel
theorem zc_iconst_5 : Int32.ofInt (5) = nI 5 := by decide +kernel
theorem zc_sipush_128 : (Int16.ofInt (128)).toInt32 = nI 128 := by decide +kernel
theorem zc_sipush_200 : (Int16.ofInt (200)).toInt32 = nI 200 := by decide +kernel
theorem zc_sipush_255 : (Int16.ofInt (255)).toInt32 = nI 255 := by decide +kernel
theorem zc_sipush_256 : (Int16.ofInt (256)).toInt32 = nI 256 := by decide +kernel
theorem zc_sipush_1000 : (Int16.ofInt (1000)).toInt32 = nI 1000 := by decide +kernel
theorem zc_sipush_1024 : (Int16.ofInt (1024)).toInt32 = nI 1024 := by decide +kernel
theorem zc_sipush_1028 : (Int16.ofInt (1028)).toInt32 = nI 1028 := by decide +kernel
theorem zc_sipush_1400 : (Int16.ofInt (1400)).toInt32 = nI 1400 := by decide +kernel
theorem zc_sipush_1600 : (Int16.ofInt (1600)).toInt32 = nI 1600 := by decide +kernel
theorem zc_sipush_16384 : (Int16.ofInt (16384)).toInt32 = nI 16384 := by decide +kernel
end
section
/-! THE MAKING: worlds that grow; a new cell comes to the front of the list -/
def zn_AOA (ty : FieldType) (U : State) : Prop := (Cond.arrayOver (.array ty)).before #[] U = true
theorem zn_AOA.moved {ty : FieldType} {u U : State} (hvm : u.vm.Alike U.vm) (h : zn_AOA ty u) : zn_AOA ty U :=
  have h1 : (Cond.arrayOver (.array ty)).before #[] (u.setVm U.vm) = true := by rw [Cond.arrayOver_setVmC hvm]; exact h
  h1
theorem zn_AOA.use {ty : FieldType} {A : Array Value} {U : State} (h : zn_AOA ty U) : (Cond.arrayOver (.array ty)).before A U = true := h
def zn_G (X : zk_X) (U : State) : Prop := va_K X.2.2.1 zk_cl (zk_tys X) U ∧ zk_St X U ∧ (∀ w ∈ zk_nest, va_Nw w U) ∧ X.2.1 ≤ U.heap.size ∧ va_AO "SlowSeal$Bytes" U ∧ zn_AOA .long U
theorem zn_G.go {X : zk_X} {s U : State} {H : Heap} {locs : List Loc} (h : zn_G X s) (hU : U.heap = H) (hS : va_S (fun q => X.2.1 ≤ q) s.heap H locs) (hW : s.WarmedH U.vm) : zn_G X U :=
  ⟨va_K.moved hW.alike h.1, h.2.1.go hU hS hW.alike, zk_nest_warm hW h.2.2.1, Nat.le_trans h.2.2.2.1 (by rw [hU]; exact hS.1), va_AO.moved hW.alike h.2.2.2.2.1, zn_AOA.moved hW.alike h.2.2.2.2.2⟩
theorem zn_G.blind {X : zk_X} {U : State} {g : JFrame} {mk : MethodId} {a : Array Value} (h : zn_G X U) : zn_G X (U.calling g mk a) :=
  ⟨va_K.moved (u := U) (U := U.calling g mk a) (Vm.Alike.refl U.vm) h.1, h.2.1.go (U := U.calling g mk a) (locs := []) rfl va_S.rf (Vm.Alike.refl U.vm), zk_nest_same (s := U) (U := U.calling g mk a) rfl h.2.2.1, h.2.2.2.1, va_AO.moved (u := U) (U := U.calling g mk a) (Vm.Alike.refl U.vm) h.2.2.2.2.1, zn_AOA.moved (u := U) (U := U.calling g mk a) (Vm.Alike.refl U.vm) h.2.2.2.2.2⟩
theorem zn_D_iff {A : Nat → Prop} {w : va_W} : va_D A w ↔ w.Pairwise (fun p q => p.1 ≠ q.1) ∧ ∀ q ∈ w, A q.1 := by
  constructor
  · intro h
    refine ⟨List.pairwise_iff_getElem.mpr (fun i j hi hj hij e => ?_), fun q hq => ?_⟩
    · have := h.1 i j _ _ (List.getElem?_eq_getElem hi) (List.getElem?_eq_getElem hj) e
      omega
    · obtain ⟨k, hk⟩ := List.getElem?_of_mem hq
      exact h.2 k q hk
  · intro h
    refine ⟨fun i j p q hp hq e => ?_, fun k q hk => h.2 q (List.mem_of_getElem? hk)⟩
    obtain ⟨hi, rfl⟩ := List.getElem?_eq_some_iff.mp hp
    obtain ⟨hj, rfl⟩ := List.getElem?_eq_some_iff.mp hq
    rcases Nat.lt_trichotomy i j with l | l | l
    · exact absurd e (List.pairwise_iff_getElem.mp h.1 i j hi hj l)
    · exact l
    · exact absurd e.symm (List.pairwise_iff_getElem.mp h.1 j i hj hi l)
theorem zn_P_iff {D : va_G} {cl : List vw_C} {w : va_W} {H : Heap} : va_P D cl w H ↔ ∀ q ∈ w, va_at D cl q H := by
  constructor
  · intro h q hq
    obtain ⟨k, hk⟩ := List.getElem?_of_mem hq
    exact h k q hk
  · intro h k q hk
    exact h q (List.mem_of_getElem? hk)
/-- the heap holds these cells, all apart, all ours -/
def zn_W (X : zk_X) (w : va_W) (H : Heap) : Prop := va_P X.2.2.1 zk_cl w H ∧ va_D (fun q => X.2.1 ≤ q) w
theorem zn_W.perm {X : zk_X} {w w' : va_W} {H : Heap} (p : w.Perm w') (h : zn_W X w H) : zn_W X w' H := by
  refine ⟨zn_P_iff.mpr fun q hq => zn_P_iff.mp h.1 q (p.mem_iff.mpr hq), zn_D_iff.mpr ⟨?_, fun q hq => (zn_D_iff.mp h.2).2 q (p.mem_iff.mpr hq)⟩⟩
  exact (p.pairwise_iff (fun hab => Ne.symm hab)).mp (zn_D_iff.mp h.2).1
theorem zn_front {w : va_W} {x : Nat × va_E} : (w ++ [x]).Perm (x :: w) := List.perm_append_singleton x w
theorem zn_RA_find {U : State} {cA : ClassId} {ty : FieldType} (h : va_RA U cA ty) : U.vm.findClass ("[" ++ ty.toString) = some cA := by
  cases ty with
  | object C => exact h.choose_spec.choose_spec.2.2.2
  | _ => exact h
theorem zn_uniq {X : zk_X} {s : State} {cA : ClassId} {ty : FieldType} {t : Nat} (hK : va_K X.2.2.1 zk_cl (zk_tys X ++ [(cA, ty)]) s) (ht : (zk_tys X)[t]? = some (X.2.2.2.1 t, ty)) : cA = X.2.2.2.1 t := by
  have h1 := zn_RA_find (hK.2 t _ (by rw [List.getElem?_append_left (List.getElem?_eq_some_iff.mp ht).1]; exact ht)).2
  have h2 := zn_RA_find (hK.2 5 (cA, ty) rfl).2
  exact Option.some.inj (h2.symm.trans h1)
def zn_A (X : zk_X) (E : zk_E) (pc : Nat) (lv : List (Option Value)) (st : List Value) (w : va_W) (kc nc : Nat) : Prop := match E with
  | (p, e, R, s, m, args, below, meth, c, _, _, Q) => ∀ (ls : Array Slot) (H : Heap) (locs : List Loc), lv.length = c.maxLocals → lv_has ls c.maxLocals (zk_lv 0 lv) → zn_W X w H → va_S (fun q => X.2.1 ≤ q) s.heap H locs →
      W p X.1 e R s m args below meth c H locs kc nc Q (F0 m pc ls st)
def zn_C (X : zk_X) (E : zk_E) (own : String) (cc : ByteArray) (dep mx : Nat × Nat) : Prop := match E with
  | (p, _, R, s, m, args, _, _, c, _, _, _) => p.tables.exec = Jvm.exec ∧ c.code = cc ∧ s.vm.findClass own = some m.cls ∧ (∀ w ∈ zk_ws, w.before args s = true) ∧ zn_G X s ∧ dep.1 ≤ R.frames ∧ dep.2 ≤ R.locals ∧ mx.1 ≤ R.cells ∧ mx.2 ≤ R.slots
def zn_Q (X : zk_X) (B : va_W → Prop) : Array Value → State → Outcome → State → Prop := fun _ st o t => o = .returned none ∧ (∃ w, B w ∧ zn_W X w t.heap) ∧ va_F (fun q => X.2.1 ≤ q) st t
def zn_R (X : zk_X) (E : zk_E) (mx : Nat × Nat) (B : va_W → Prop) : Prop := match E with
  | (_, _, _, s, _, args, below, meth, _, _, _, Q) => Q = MQ below (zn_Q X B) args s mx.1 mx.2 (fun q => X.2.1 ≤ q) ∧ meth.sig.returnType = none ∧ meth.locks = false ∧ meth.name = "<init>"
abbrev zn_rm (d mx : Nat × Nat) : Room := { frames := d.1, cells := mx.1, slots := mx.2, locals := d.2 }
/-- THE CONTRACT of a constructor: from the world w to a world of B, with mx cells and slots at most -/
def zn_M (X : zk_X) (y : MethodName) (b : ByteArray) (maxL : Nat) (d mx : Nat × Nat) (as : List Value) (w : va_W) (B : va_W → Prop) : Prop :=
  Met X.1 y (Cond.code y b maxL none :: zk_ws) (zn_rm d mx) (va_Pc as (fun U => zn_G X U ∧ zn_W X w U.heap)) (zn_Q X B) mx.1 mx.2 (fun q => X.2.1 ≤ q)
theorem zn_M.intro {X : zk_X} {y : MethodName} {b : ByteArray} {maxL : Nat} {d mx : Nat × Nat} {as : List Value} {w : va_W} {B : va_W → Prop} (hy : plainName y.cls = true) (hyn : y.name = "<init>") {lv : List (Option Value)} (hlv : zk_en as ++ List.replicate (maxL - (zk_en as).length) none = lv) (hn : lv.length = maxL)
    (h : ∀ E, zn_C X E y.cls b d mx → zn_R X E mx B → zn_A X E 0 lv [] w 0 0) : zn_M X y b maxL d mx as w B := by
  refine Met.ofW (cc := b) (maxL := maxL) (ret := none) hy rfl ?_
  intro p e s m args below meth c s₁ B hml hv
  obtain ⟨rfl, hG, hP⟩ := hv
  have hts := atoms_spec (ws := Cond.code y b maxL none :: zk_ws) B.pre
  have hlen : (lg_sl as).length ≤ maxL := by
    rw [← zk_en_len, ← hn, ← hlv, List.length_append]; omega
  have hl := lv_entry as (n := maxL) hlen
  rw [lg_entry_eq]
  generalize (lg_sl as ++ List.replicate (maxL - (lg_sl as).length) Slot.unset).toArray = ls at hl ⊢
  refine h (p, e, _, s, m, _, below, meth, c, 0, 0, _) ⟨B.exec, B.bytes, findClass_of_methodNamed B.named, fun w hw => hts w (List.mem_cons_of_mem _ hw), hG, Nat.le_refl _, Nat.le_refl _, Nat.le_refl _, Nat.le_refl _⟩ ⟨rfl, B.returns, B.notSynchronized, ?_⟩ ls s.heap [] (by rw [hn, hml]) ⟨by rw [hl.1, hml], hl.2.1, fun q hq => hl.2.2 q (zk_en_in _ as 0 q (by rw [hlv]; exact hq))⟩ hP va_S.rf
  rw [(name_of_methodNamed B.named B.method).1, hyn]
section ZN
variable {X : zk_X} {E : zk_E} {own : String} {cc : ByteArray} {dep mx : Nat × Nat} {pc pc' kc nc : Nat} {lv : List (Option Value)} {st : List Value} {w : va_W}
theorem zn_perm {w' : va_W} (hp : w.Perm w') (kk : zn_A X E pc lv st w' kc nc) : zn_A X E pc lv st w kc nc := by
  obtain ⟨p, e, R, s, m, args, below, meth, c, cells, slots, Q⟩ := E
  intro ls H locs hn hl hP hS
  exact kk ls H locs hn hl (hP.perm hp) hS
theorem zn_cast {w' : va_W} {k' n' : Nat} (kk : zn_A X E pc lv st w' k' n') (h : w = w') (h1 : kc = k') (h2 : nc = n') : zn_A X E pc lv st w kc nc := by subst h; subst h1; subst h2; exact kk
theorem zn_iconst {z : Int} {x : Int32} (h : zn_C X E own cc dep mx) (d : zk_D cc pc pc' (.iconst z) 1) (hv : Int32.ofInt z = x) (kk : zn_A X E pc' lv (.int x :: st) w kc nc) : zn_A X E pc lv (st) w kc nc := by
  obtain ⟨p, e, R, s, m, args, below, meth, c, cells, slots, Q⟩ := E
  obtain ⟨d, rfl⟩ := d
  intro ls H locs hn hl hP hS
  exact lv_iconst h.1 h.2.1 d hv (kk ls H locs hn hl hP hS)
theorem zn_bipush {z : Int} {x : Int32} (h : zn_C X E own cc dep mx) (d : zk_D cc pc pc' (.bipush z) 2) (hv : (Int8.ofInt z).toInt32 = x) (kk : zn_A X E pc' lv (.int x :: st) w kc nc) : zn_A X E pc lv (st) w kc nc := by
  obtain ⟨p, e, R, s, m, args, below, meth, c, cells, slots, Q⟩ := E
  obtain ⟨d, rfl⟩ := d
  intro ls H locs hn hl hP hS
  exact lv_bipush h.1 h.2.1 d hv (kk ls H locs hn hl hP hS)
theorem zn_sipush {z : Int} {x : Int32} (h : zn_C X E own cc dep mx) (d : zk_D cc pc pc' (.sipush z) 3) (hv : (Int16.ofInt z).toInt32 = x) (kk : zn_A X E pc' lv (.int x :: st) w kc nc) : zn_A X E pc lv (st) w kc nc := by
  obtain ⟨p, e, R, s, m, args, below, meth, c, cells, slots, Q⟩ := E
  obtain ⟨d, rfl⟩ := d
  intro ls H locs hn hl hP hS
  exact lv_sipush h.1 h.2.1 d hv (kk ls H locs hn hl hP hS)
theorem zn_dup {a : Value} (h : zn_C X E own cc dep mx) (d : zk_D cc pc pc' (.dup) 1) (hc : a.category = 1) (kk : zn_A X E pc' lv (a :: a :: st) w kc nc) : zn_A X E pc lv (a :: st) w kc nc := by
  obtain ⟨p, e, R, s, m, args, below, meth, c, cells, slots, Q⟩ := E
  obtain ⟨d, rfl⟩ := d
  intro ls H locs hn hl hP hS
  exact lv_dup h.1 h.2.1 d hc (kk ls H locs hn hl hP hS)
theorem zn_icmp_ge {x y : Int32} {off : Int} (h : zn_C X E own cc dep mx) (d : zk_D cc pc pc' (.if_icmp .ge off) 3) (tgt : Nat) (ht : (pc : Int) + off = (tgt : Int)) (kt : y ≤ x → zn_A X E tgt lv st w kc nc) (kf : ¬ (y ≤ x) → zn_A X E pc' lv st w kc nc) : zn_A X E pc lv (.int y :: .int x :: st) w kc nc := by
  obtain ⟨p, e, R, s, m, args, below, meth, c, cells, slots, Q⟩ := E
  obtain ⟨d, rfl⟩ := d
  intro ls H locs hn hl hP hS
  exact lv_icmp_ge h.1 h.2.1 d ht (fun q => kt q ls H locs hn hl hP hS) (fun q => kf q ls H locs hn hl hP hS)
theorem zn_goto {off : Int} (h : zn_C X E own cc dep mx) (d : zk_D cc pc pc' (.goto off) 3) (tgt : Nat) (ht : (pc : Int) + off = (tgt : Int)) (kk : zn_A X E tgt lv st w kc nc) : zn_A X E pc lv st w kc nc := by
  obtain ⟨p, e, R, s, m, args, below, meth, c, cells, slots, Q⟩ := E
  obtain ⟨d, rfl⟩ := d
  intro ls H locs hn hl hP hS
  exact lv_goto h.1 h.2.1 d ht (kk ls H locs hn hl hP hS)
theorem zn_iload_n {k : Fin 4} {x : Int32} (h : zn_C X E own cc dep mx) (hl : lv[(k : Nat)]? = some (some (.int x))) (d : zk_D cc pc pc' (.iload_n k) 1) (kk : zn_A X E pc' lv (.int x :: st) w kc nc) : zn_A X E pc lv st w kc nc := by
  obtain ⟨p, e, R, s, m, args, below, meth, c, cells, slots, Q⟩ := E
  obtain ⟨d, rfl⟩ := d
  intro ls H locs hn hl2 hP hS
  exact lv_iload_n h.1 h.2.1 d rfl (zk_lv_at hl2 hl) (kk ls H locs hn hl2 hP hS)
theorem zn_aload_n {k : Fin 4} {x : Nat} (h : zn_C X E own cc dep mx) (hl : lv[(k : Nat)]? = some (some (.ref x))) (d : zk_D cc pc pc' (.aload_n k) 1) (kk : zn_A X E pc' lv (.ref x :: st) w kc nc) : zn_A X E pc lv st w kc nc := by
  obtain ⟨p, e, R, s, m, args, below, meth, c, cells, slots, Q⟩ := E
  obtain ⟨d, rfl⟩ := d
  intro ls H locs hn hl2 hP hS
  exact lv_aload_n h.1 h.2.1 d rfl (zk_lv_at hl2 hl) (kk ls H locs hn hl2 hP hS)
theorem zn_iincG {k : Nat} {n : Int} {x : Int32} (h : zn_C X E own cc dep mx) (d : zk_D cc pc pc' (.iinc k n) 3) (hx : lv[k]? = some (some (.int x))) (kk : zn_A X E pc' (lv.set k (some (.int (x + Int32.ofInt n)))) st w kc nc) : zn_A X E pc lv st w kc nc := by
  obtain ⟨p, e, R, s, m, args, below, meth, c, cells, slots, Q⟩ := E
  obtain ⟨d, rfl⟩ := d
  intro ls H locs hn hl hP hS
  have hk : k < lv.length := (List.getElem?_eq_some_iff.mp hx).1
  obtain ⟨j, hj⟩ := List.getElem?_of_mem (zk_lv_in lv 0 k _ hx)
  rw [Nat.zero_add] at hj
  refine lv_iinc h.1 h.2.1 d hl hj rfl (by rw [← hn]; exact hk) rfl (fun ls' hl' => kk ls' H locs (by rw [List.length_set]; exact hn) (zk_lv_st1 hk ?_ hl') hP hS)
  by_cases h0 : k = 0
  · exact Or.inl h0
  · right
    cases hz : lv[k - 1]? with
    | none => rfl
    | some o =>
      cases o with
      | none => rfl
      | some y =>
        have hy := zk_lv_at hl hz
        have hx2 := zk_lv_at hl hx
        by_cases hc : y.category = 2
        · have := hl.2.1.1 _ _ hy hc
          rw [show k - 1 + 1 = k by omega, hx2] at this
          cases this
        · simp [zk_n2, hc]
theorem zn_astoreNG {k : Fin 4} {x : Nat} (h : zn_C X E own cc dep mx) (d : zk_D cc pc pc' (.astore_n k) 1) (hk : (k : Nat) < lv.length) (hp : (k : Nat) = 0 ∨ zk_n2 lv[(k : Nat) - 1]? = true) (kk : zn_A X E pc' (lv.set k (some (.ref x))) st w kc nc) : zn_A X E pc lv (.ref x :: st) w kc nc := by
  obtain ⟨p, e, R, s, m, args, below, meth, c, cells, slots, Q⟩ := E
  obtain ⟨d, rfl⟩ := d
  intro ls H locs hn hl hP hS
  exact lv_astore_n h.1 h.2.1 d rfl hl (by rw [← hn]; exact hk) rfl (fun ls' hl' => kk ls' H locs (by rw [List.length_set]; exact hn) (zk_lv_st1 hk hp hl') hP hS)
theorem zn_istoreNG {k : Fin 4} {x : Int32} (h : zn_C X E own cc dep mx) (d : zk_D cc pc pc' (.istore_n k) 1) (hk : (k : Nat) < lv.length) (hp : (k : Nat) = 0 ∨ zk_n2 lv[(k : Nat) - 1]? = true) (kk : zn_A X E pc' (lv.set k (some (.int x))) st w kc nc) : zn_A X E pc lv (.int x :: st) w kc nc := by
  obtain ⟨p, e, R, s, m, args, below, meth, c, cells, slots, Q⟩ := E
  obtain ⟨d, rfl⟩ := d
  intro ls H locs hn hl hP hS
  exact lv_istore_n h.1 h.2.1 d rfl hl (by rw [← hn]; exact hk) rfl (fun ls' hl' => kk ls' H locs (by rw [List.length_set]; exact hn) (zk_lv_st1 hk hp hl') hP hS)
/-- an array of references, by another function that agrees -/
theorem zn_ext {c9 : ClassId} {n a : Nat} {f : Nat → Option Nat} (g : Nat → Option Nat) (i : Nat) (hw : w[i]? = some (a, .inl (c9, n, .inr (.inr (.inr (.inr f)))))) (hfg : ∀ j, j < n → f j = g j) (kk : zn_A X E pc lv st (w.set i (a, .inl (c9, n, .inr (.inr (.inr (.inr g)))))) kc nc) : zn_A X E pc lv st w kc nc := by
  obtain ⟨p, e, R, s, m, args, below, meth, c, cells, slots, Q⟩ := E
  intro ls H locs hn hl hP hS
  refine kk ls H locs hn hl ⟨hP.1.set hP.2 hw ?_ (fun q _ => rfl), hP.2.set hw⟩ hS
  have h1 : H[a]? = some (vp_cell c9 (n, .inr (.inr (.inr (.inr f))))) := hP.1 i _ hw
  show H[a]? = some (vp_cell c9 (n, .inr (.inr (.inr (.inr g)))))
  rw [h1, vp_cell_q, vp_cell_q]
  congr 1
  unfold arrV
  rw [show (fun j : Fin n => va_rf (f j.val)) = (fun j : Fin n => va_rf (g j.val)) from funext fun j => by rw [hfg j.1 j.2]]
theorem zn_mmax {idx : Nat} {x y : Int32} (h : zn_C X E own cc dep mx) (hd : 1 ≤ dep.1 ∧ 21 ≤ dep.2) (h1 : Cond.methodLink own idx Lib.Math.max.name ∈ zk_ws) (h2 : Cond.static Lib.Math.max.name ∈ zk_ws ∧ Cond.initialized "java/lang/Math" ∈ zk_ws ∧ Cond.code Lib.Math.max.name Lib.Math.max.code 2 (some .int) ∈ zk_ws) (hcat : (st.map fun v => v.category).sum ≤ 8) (hk : kc ≤ mx.1) (hn : nc ≤ mx.2) (d : zk_D cc pc pc' (.invokestatic idx) 3) (kk : zn_A X E pc' lv (.int (if x < y then y else x) :: st) w kc nc) : zn_A X E pc lv (.int y :: .int x :: st) w kc nc := by
  obtain ⟨p, e, R, s, m, args, below, meth, c, cells, slots, Q⟩ := E
  obtain ⟨d, rfl⟩ := d
  obtain ⟨c1, c2, c3, c4, c5, c6, c7, c8, c9⟩ := h
  intro ls H locs hn' hl hP hS
  exact va_mmax c1 c2 hl.1.symm c3 (c4 _ h1) (c4 _ h2.1) (c4 _ h2.2.1) (c4 _ h2.2.2) (by omega) (by omega) (by omega) (by omega) d (kk ls H locs hn' hl hP hS)
theorem zn_obj {idx x : Nat} (h : zn_C X E own cc dep mx) (hd : 1 ≤ dep.1 ∧ 20 ≤ dep.2) (h1 : Cond.methodLink own idx Lib.objectInit ∈ zk_ws) (h2 : Cond.instanceMethod Lib.objectInit ∈ zk_ws ∧ Cond.code Lib.objectInit ⟨#[0xb1]⟩ 1 none ∈ zk_ws) (hcat : (st.map fun v => v.category).sum ≤ 8) (d : zk_D cc pc pc' (.invokespecial idx) 3) (kk : zn_A X E pc' lv st w kc nc) : zn_A X E pc lv (.ref x :: st) w kc nc := by
  obtain ⟨p, e, R, s, m, args, below, meth, c, cells, slots, Q⟩ := E
  obtain ⟨d, rfl⟩ := d
  obtain ⟨c1, c2, c3, c4, c5, c6, c7, c8, c9⟩ := h
  intro ls H locs hn' hl hP hS
  have hr : 2 * (F0 m pc ls (.ref x :: st)).monitorRoom + (st.map fun v => v.category).sum ≤ 8 := lv_room hcat
  exact W.objInit c1 c2 c3 (c4 _ h1) (c4 _ h2.1) (c4 _ h2.2) (g := F0 m pc ls (.ref x :: st)) rfl hl.1 rfl d (by omega) (by omega) (kk ls H locs hn' hl hP hS)
theorem zn_vret {B : va_W → Prop} (h : zn_C X E own cc dep mx) (hq : zn_R X E mx B) (hB : B w) (hk : kc ≤ mx.1) (hn : nc ≤ mx.2) (d : zk_D cc pc pc' .return_ 1) : zn_A X E pc lv [] w kc nc := by
  obtain ⟨p, e, R, s, m, args, below, meth, c, cells, slots, Q⟩ := E
  obtain ⟨rfl, hrt, hlk, -⟩ := hq
  intro ls H locs hn' hl hP hS
  exact W.widen hk hn (W.vret h.1 h.2.1 hrt (fun t ht hW => ⟨rfl, ⟨w, hB, by rw [ht]; exact hP⟩, hS.F ht⟩) hS.2.2 d.1 hlk)
theorem zn_newa {atype : ArrayType} {ty : FieldType} {a0 : vp_A} {N t : Nat} {z : Int32} (h : zn_C X E own cc dep mx) (hty : newarray.typeOf atype = ty) (hac : Cond.arrayClass (newarray.typeOf atype) ∈ zk_ws) (ht : (zk_tys X)[t]? = some (X.2.2.2.1 t, ty)) (ha : ∀ cA : ClassId, vp_cell cA a0 = arrV cA N (fun _ => defaultValue ty)) (hz : ¬ z < 0) (hN : z.toNatClampNeg = N) (hb : N * componentBytes ty ≤ 536870912) (hk : kc + 1 ≤ mx.1) (hn : nc + N ≤ mx.2) (d : zk_D cc pc pc' (.newarray atype) 2)
    (kk : ∀ q : Nat, zn_A X E pc' lv (.ref q :: st) ((q, .inl (X.2.2.2.1 t, a0)) :: w) (kc + 1) (nc + N)) : zn_A X E pc lv (.int z :: st) w kc nc := by
  obtain ⟨p, e, R, s, m, args, below, meth, c, cells, slots, Q⟩ := E
  obtain ⟨d, rfl⟩ := d
  obtain ⟨c1, c2, c3, c4, c5, c6, c7, c8, c9⟩ := h
  intro ls H locs hn' hl hP hS
  refine va_newa c1 c2 (c4 _ hac) hty c5.1 hP.1 hP.2 hS (fun q hq => Nat.le_trans c5.2.2.2.1 hq) ha hz hN hb (by omega) (by omega) d ?_
  intro q cA H1 hK1 hP1 hD1 hS1
  obtain rfl := zn_uniq hK1 ht
  exact kk q ls H1 locs hn' hl (zn_W.perm zn_front ⟨hP1, hD1⟩) hS1
theorem zn_newq {C : String} {idx N t : Nat} {z : Int32} (h : zn_C X E own cc dep mx) (hcl : Cond.classLink own idx C ∈ zk_ws) (hC : C = "SlowSeal$Bytes") (ht : (zk_tys X)[t]? = some (X.2.2.2.1 t, .object C)) (hz : ¬ z < 0) (hN : z.toNatClampNeg = N) (hb : N * 4 ≤ 536870912) (hk : kc + 1 ≤ mx.1) (hn : nc + N ≤ mx.2) (d : zk_D cc pc pc' (.anewarray idx) 3)
    (kk : ∀ q : Nat, zn_A X E pc' lv (.ref q :: st) ((q, .inl (X.2.2.2.1 t, N, .inr (.inr (.inr (.inr (fun _ => none)))))) :: w) (kc + 1) (nc + N)) : zn_A X E pc lv (.int z :: st) w kc nc := by
  obtain ⟨p, e, R, s, m, args, below, meth, c, cells, slots, Q⟩ := E
  obtain ⟨d, rfl⟩ := d
  obtain ⟨c1, c2, c3, c4, c5, c6, c7, c8, c9⟩ := h
  subst hC
  intro ls H locs hn' hl hP hS
  refine va_newq c1 c2 c3 (c4 _ hcl) c5.2.2.2.2.1 c5.1 hP.1 hP.2 hS (fun q hq => Nat.le_trans c5.2.2.2.1 hq) hz hN hb (by omega) (by omega) d ?_
  intro q cA H1 hK1 hP1 hD1 hS1
  obtain rfl := zn_uniq hK1 ht
  exact kk q ls H1 locs hn' hl (zn_W.perm zn_front ⟨hP1, hD1⟩) hS1
theorem zn_new {C : String} {T : u_T} {ty0 : Nat → FieldType} {ci idx N : Nat} {fs : List Value} (h : zn_C X E own cc dep mx) (hc : zk_cl[ci]? = some (C, T, N)) (hu : ∀ w ∈ u_ws C T N, w ∈ zk_ws) (hty : ∀ k, k < N → parseFieldDescriptor (T k).2.2.1 = some (ty0 k)) (hw : Cond.classLink own idx C ∈ zk_ws ∧ Cond.instantiable C N ∈ zk_ws ∧ Cond.initialized C ∈ zk_ws) (hfs : ∀ j, j < N → defaultValue (ty0 j) = vp_V fs j) (hk : kc + 1 ≤ mx.1) (hn : nc + N ≤ mx.2) (d : zk_D cc pc pc' (.new idx) 3)
    (kk : ∀ q : Nat, zn_A X E pc' lv (.ref q :: st) ((q, .inr (ci, fs)) :: w) (kc + 1) (nc + N)) : zn_A X E pc lv st w kc nc := by
  obtain ⟨p, e, R, s, m, args, below, meth, c, cells, slots, Q⟩ := E
  obtain ⟨d, rfl⟩ := d
  obtain ⟨c1, c2, c3, c4, c5, c6, c7, c8, c9⟩ := h
  intro ls H locs hn' hl hP hS
  refine va_new c1 c2 c4 hu ty0 hty c3 (c4 _ hw.1) (c4 _ hw.2.1) (c4 _ hw.2.2) c5.1 hP.1 hP.2 hS (fun q hq => Nat.le_trans c5.2.2.2.1 hq) hc hfs (by omega) (by omega) d ?_
  intro q H1 hP1 hD1 hS1
  exact kk q ls H1 locs hn' hl (zn_W.perm zn_front ⟨hP1, hD1⟩) hS1
theorem zn_put {B : va_W → Prop} {C : String} {T : u_T} {ty0 : Nat → FieldType} {ty : FieldType} {ci j idx N a x : Nat} (i : Nat) {fs : List Value} (h : zn_C X E own cc dep mx) (hq : zn_R X E mx B) (hc : zk_cl[ci]? = some (C, T, N)) (hu : ∀ w ∈ u_ws C T N, w ∈ zk_ws) (hp : (∀ k, k < N → parseFieldDescriptor (T k).2.2.1 = some (ty0 k)) ∧ (∀ a, a < N → ∀ b, b < N → a ≠ b → (T a).2.1 ≠ (T b).2.1)) (hj : j < N) (hlk : Cond.fieldLink own idx C (T j).2.1 (T j).2.2.1 ∈ zk_ws) (hT : (T j).1 = C) (hfin : (T j).2.2.2 = true) (hown : C = own) (hw : w[i]? = some (a, .inr (ci, fs))) (hd : parseFieldDescriptor (T j).2.2.1 = some ty) (hnr : narrow ty (.ref x) = .ref x) (hft : fits ty (.ref x) = true) (hl : j < fs.length) (d : zk_D cc pc pc' (.putfield idx) 3)
    (kk : zn_A X E pc' lv st (w.set i (a, .inr (ci, fs.set j (.ref x)))) kc nc) : zn_A X E pc lv (.ref x :: .ref a :: st) w kc nc := by
  obtain ⟨p, e, R, s, m, args, below, meth, c, cells, slots, Q⟩ := E
  obtain ⟨d, rfl⟩ := d
  obtain ⟨c1, c2, c3, c4, c5, c6, c7, c8, c9⟩ := h
  obtain ⟨-, -, -, hnm⟩ := hq
  intro ls H locs hn' hll hP hS
  refine va_putF c1 c2 c4 hu ty0 hp.1 hp.2 c3 c5.1 hP.1 hP.2 hS i hw hc j hj (c4 _ hlk) (fun x hx => by rw [hT] at hx; exact hx) hfin hnm (hT.trans hown) hd hnr hft hl d ?_
  intro H1 locs1 hP1 hD1 hS1
  exact kk ls H1 locs1 hn' hll ⟨hP1, hD1⟩ hS1
theorem zn_get {C : String} {T : u_T} {ci j idx N a : Nat} {x : Value} (i : Nat) {fs : List Value} (h : zn_C X E own cc dep mx) (hc : zk_cl[ci]? = some (C, T, N)) (hu : ∀ w ∈ u_ws C T N, w ∈ zk_ws) (hj : j < N) (hlk : Cond.fieldLink own idx C (T j).2.1 (T j).2.2.1 ∈ zk_ws) (hT : (T j).1 = C) (hw : w[i]? = some (a, .inr (ci, fs))) (hx : fs[j]? = some x) (d : zk_D cc pc pc' (.getfield idx) 3)
    (kk : zn_A X E pc' lv (x :: st) w kc nc) : zn_A X E pc lv (.ref a :: st) w kc nc := by
  obtain ⟨p, e, R, s, m, args, below, meth, c, cells, slots, Q⟩ := E
  obtain ⟨d, rfl⟩ := d
  obtain ⟨c1, c2, c3, c4, c5, c6, c7, c8, c9⟩ := h
  intro ls H locs hn' hll hP hS
  exact va_get c1 c2 c4 hu c3 c5.1 hP.1 i hw hc j hj (c4 _ hlk) (fun x hx => by rw [hT] at hx; exact hx) hx d (kk ls H locs hn' hll hP hS)
theorem zn_ast {t ci a v n : Nat} {r : vw_C} {vs : List Value} {f : Nat → Option Nat} {z : Int32} (i iv : Nat) (h : zn_C X E own cc dep mx) (hw : w[i]? = some (a, .inl (X.2.2.2.1 t, n, .inr (.inr (.inr (.inr f)))))) (ht : (zk_tys X)[t]? = some (X.2.2.2.1 t, .object r.1)) (hv : w[iv]? = some (v, .inr (ci, vs))) (hc : zk_cl[ci]? = some r) (hin : vp_in z n) (d : zk_D cc pc pc' .aastore 1)
    (kk : zn_A X E pc' lv st (w.set i (a, .inl (X.2.2.2.1 t, n, .inr (.inr (.inr (.inr (va_up f z.toNatClampNeg (some v)))))))) kc nc) : zn_A X E pc lv (.ref v :: .int z :: .ref a :: st) w kc nc := by
  obtain ⟨p, e, R, s, m, args, below, meth, c, cells, slots, Q⟩ := E
  obtain ⟨d, rfl⟩ := d
  obtain ⟨c1, c2, c3, c4, c5, c6, c7, c8, c9⟩ := h
  intro ls H locs hn' hll hP hS
  refine va_astq c1 c2 c5.1 hP.1 hP.2 hS i t iv ci hw ht hv hc hin d ?_
  intro H1 locs1 hP1 hD1 hS1
  exact kk ls H1 locs1 hn' hll ⟨hP1, hD1⟩ hS1
theorem zn_run {B : va_W → Prop} {a : Array Value} {p : Program} {e : Env} {R : Room} {s : State} {m : MethodId} {args : Array Value} {below : List Frame} {meth : Method} {c : Code} {cells slots mc ms : Nat} {Q : State → Prop} {ls : Array Slot} {H : Heap} {locs : List Loc} {st0 rest : List Value}
    (hr : va_Run p X.1 e R s m args below meth c H locs cells slots mc ms (F0 m pc ls st0) rest (zn_Q X B a) (fun q => X.2.1 ≤ q)) (hS : va_S (fun q => X.2.1 ≤ q) s.heap H locs)
    (kk : ∀ (w' : va_W) (H1 : Heap) (locs1 : List Loc), B w' → zn_W X w' H1 → va_S (fun q => X.2.1 ≤ q) s.heap H1 locs1 → W p X.1 e R s m args below meth c H1 locs1 (cells + mc) (slots + ms) Q (F0 m (pc + 3) ls rest)) : W p X.1 e R s m args below meth c H locs cells slots Q (F0 m pc ls st0) := by
  intro T hT Y
  obtain ⟨x, st₀, t, T', L, h0, X', hL, e1, e2, ⟨hv, ⟨w', hB, hP⟩, hz, hk⟩, go⟩ := hr T hT Y
  cases hv
  rw [h0] at hz hk
  obtain ⟨t2, a1, b1⟩ := kk w' T'.heap (locs ++ L) hB (by rw [e1]; exact hP) ⟨Nat.le_trans hS.1 (by rw [e1]; exact hz), fun q h1 h2 => by rw [e1, hk q (Nat.lt_of_lt_of_le h1 hS.1) h2]; exact hS.2.1 q h1 h2, fun q hq => by
      rcases List.mem_append.mp hq with h | h
      · exact hS.2.2 q h
      · exact hL q h⟩ T' rfl X'
  exact ⟨t2, go t2 a1, b1⟩
abbrev zn_mi (y : MethodName) (b : ByteArray) (maxL nn : Nat) : Prop := y.name = "<init>" ∧ Cond.instanceMethod y ∈ zk_ws ∧ Cond.initialized y.cls ∈ zk_ws ∧ Cond.code y b maxL none ∈ zk_ws ∧ (y.cls ≠ "java/lang/invoke/MethodHandle" ∧ y.cls ≠ "java/lang/invoke/VarHandle" ∧ (parseMethodDescriptor y.desc).map (fun d => d.parameters.length) = some nn)
theorem zn_call {idx nn maxL a : Nat} {dy my : Nat × Nat} {y : MethodName} {b : ByteArray} {as rest : List Value} {B : va_W → Prop} (h : zn_C X E own cc dep mx) (hl : zk_ml own idx y) (hi : zn_mi y b maxL nn) (hM : zn_M X y b maxL dy my (.ref a :: as) w B) (hd : dy.1 + 1 ≤ dep.1 ∧ 8 + (maxL + 11) + dy.2 ≤ dep.2) (hn : as.length = nn) (hst : st = as.reverse ++ .ref a :: rest) (hcat : (rest.map fun v => v.category).sum ≤ 8) (hk : kc + my.1 ≤ mx.1) (hs : nc + my.2 ≤ mx.2) (d : zk_D cc pc pc' (.invokespecial idx) 3)
    (kk : ∀ w', B w' → zn_A X E pc' lv rest w' (kc + my.1) (nc + my.2)) : zn_A X E pc lv st w kc nc := by
  obtain ⟨p, e, R, s, m, args, below, meth, c, cells, slots, Q⟩ := E
  obtain ⟨d, rfl⟩ := d
  subst hst
  obtain ⟨i0, i1, i3, i4, i5⟩ := hi
  obtain ⟨c1, c2, c3, c4, c5, c6, c7, c8, c9⟩ := h
  intro ls H locs hnl hll hP hS
  have hR : (zn_rm dy my).frames + 1 ≤ R.frames ∧ 8 + (maxL + 11) + (zn_rm dy my).locals ≤ R.locals := by
    exact ⟨Nat.le_trans hd.1 c6, Nat.le_trans hd.2 c7⟩
  have hp : PreS s H (va_Pc (.ref a :: as) (fun U => zn_G X U ∧ zn_W X w U.heap)) (.ref a :: as) :=
    ⟨fun a U g mk q => ⟨q.1, q.2.1.blind, q.2.2⟩, fun U hU hW => ⟨rfl, c5.go hU hS hW, by rw [hU]; exact hP⟩⟩
  rcases hl with hl | hl
  · refine zn_run (va_runI (cc := cc) (nL := c.maxLocals) (Ts := zk_ws) ⟨c1, c2, rfl, c3, c4⟩ hM ⟨callB_of nn c4 (zk_goodIn i4) rfl rfl rfl (c4 _ i3) (c4 _ hl) i5 hR, i0, c4 _ i1⟩ hp rfl hn hll.1 rfl (lv_room hcat) d ⟨by omega, by omega⟩) hS (fun w' H1 locs1 hB hP1 hS1 => kk w' hB ls H1 locs1 hnl hll hP1 hS1)
  · refine zn_run (va_runIN (cc := cc) (nL := c.maxLocals) (Ts := zk_ws) ⟨c1, c2, rfl, c3, c4⟩ hM ⟨va_cnB nn c4 (zk_goodIn i4) rfl rfl rfl (c5.2.2.1 _ hl) (c4 _ i3) i5 hR, i0, c4 _ i1⟩ hp rfl hn hll.1 rfl (lv_room hcat) d ⟨by omega, by omega⟩) hS (fun w' H1 locs1 hB hP1 hS1 => kk w' hB ls H1 locs1 hnl hll hP1 hS1)
end ZN
end
section
/-! THE CONSTRUCTORS -/
set_option maxRecDepth 100000 in
theorem ob_X4 : Cond.methodLink RX4 3 Lib.objectInit ∈ zk_ws := by decide +kernel
set_option maxRecDepth 100000 in
theorem ob_X0 : Cond.methodLink RX0 3 Lib.objectInit ∈ zk_ws := by decide +kernel
set_option maxRecDepth 100000 in
theorem ob_X2 : Cond.methodLink RX2 3 Lib.objectInit ∈ zk_ws := by decide +kernel
set_option maxRecDepth 100000 in
theorem ob_X1 : Cond.methodLink RX1 3 Lib.objectInit ∈ zk_ws := by decide +kernel
set_option maxRecDepth 100000 in
theorem ob_X3 : Cond.methodLink RX3 3 Lib.objectInit ∈ zk_ws := by decide +kernel
set_option maxRecDepth 100000 in
theorem ob_X5 : Cond.methodLink RX5 1 Lib.objectInit ∈ zk_ws := by decide +kernel
set_option maxRecDepth 100000 in
theorem ob_ws : Cond.instanceMethod Lib.objectInit ∈ zk_ws ∧ Cond.code Lib.objectInit ⟨#[0xb1]⟩ 1 none ∈ zk_ws := by decide +kernel
set_option maxRecDepth 100000 in
theorem ac_byte : Cond.arrayClass (newarray.typeOf .byte) ∈ zk_ws := by decide +kernel
set_option maxRecDepth 100000 in
theorem ac_int : Cond.arrayClass (newarray.typeOf .int) ∈ zk_ws := by decide +kernel
set_option maxRecDepth 100000 in
theorem ac_long : Cond.arrayClass (newarray.typeOf .long) ∈ zk_ws := by decide +kernel
set_option maxRecDepth 100000 in
theorem cl_X1_9 : Cond.classLink RX1 9 "[[J" ∈ zk_ws := by decide +kernel
set_option maxRecDepth 100000 in
theorem cl_X4_9 : Cond.classLink RX4 9 RX0 ∈ zk_ws := by decide +kernel
set_option maxRecDepth 100000 in
theorem nw_X4_9 : Cond.classLink RX4 9 RX0 ∈ zk_ws ∧ Cond.instantiable RX0 2 ∈ zk_ws ∧ Cond.initialized RX0 ∈ zk_ws := by decide +kernel
set_option maxRecDepth 100000 in
theorem nw_X2_9 : Cond.classLink RX2 9 RX0 ∈ zk_ws ∧ Cond.instantiable RX0 2 ∈ zk_ws ∧ Cond.initialized RX0 ∈ zk_ws := by decide +kernel
set_option maxRecDepth 100000 in
theorem nw_X4_25 : Cond.classLink RX4 25 RX2 ∈ zk_ws ∧ Cond.instantiable RX2 5 ∈ zk_ws ∧ Cond.initialized RX2 ∈ zk_ws := by decide +kernel
set_option maxRecDepth 100000 in
theorem nw_X4_32 : Cond.classLink RX4 32 RX1 ∈ zk_ws ∧ Cond.instantiable RX1 14 ∈ zk_ws ∧ Cond.initialized RX1 ∈ zk_ws := by decide +kernel
set_option maxRecDepth 100000 in
theorem nw_X1_23 : Cond.classLink RX1 23 RX3 ∈ zk_ws ∧ Cond.instantiable RX3 3 ∈ zk_ws ∧ Cond.initialized RX3 ∈ zk_ws := by decide +kernel
set_option maxRecDepth 100000 in
theorem in_X0 : zn_mi yX0_init cX0_init 2 1 := ⟨rfl, by decide +kernel, by decide +kernel, by decide +kernel, by decide +kernel, by decide +kernel, by decide +kernel⟩
set_option maxRecDepth 100000 in
theorem in_X1 : zn_mi yX1_init cX1_init 1 0 := ⟨rfl, by decide +kernel, by decide +kernel, by decide +kernel, by decide +kernel, by decide +kernel, by decide +kernel⟩
set_option maxRecDepth 100000 in
theorem in_X2 : zn_mi yX2_init cX2_init 1 0 := ⟨rfl, by decide +kernel, by decide +kernel, by decide +kernel, by decide +kernel, by decide +kernel, by decide +kernel⟩
set_option maxRecDepth 100000 in
theorem in_X3 : zn_mi yX3_init cX3_init 1 0 := ⟨rfl, by decide +kernel, by decide +kernel, by decide +kernel, by decide +kernel, by decide +kernel, by decide +kernel⟩
set_option maxRecDepth 100000 in
theorem in_X4 : zn_mi yX4_init cX4_init 2 0 := ⟨rfl, by decide +kernel, by decide +kernel, by decide +kernel, by decide +kernel, by decide +kernel, by decide +kernel⟩
set_option maxRecDepth 100000 in
theorem in_X5 : zn_mi yX5_init cX5_init 1 0 := ⟨rfl, by decide +kernel, by decide +kernel, by decide +kernel, by decide +kernel, by decide +kernel, by decide +kernel⟩
set_option maxRecDepth 100000 in
theorem df_X0 : ∀ j, j < 2 → defaultValue (tyX0 j) = vp_V [.null, .int 0] j := fun j hj => match j, hj with | 0, _ => rfl | 1, _ => rfl | j + 2, h => absurd h (by omega)
theorem df_X1 : ∀ j, j < 14 → defaultValue (tyX1 j) = vp_V [.null, .null, .null, .null, .int 0, .int 0, .int 0, .int 0, .int 0, .int 0, .int 0, .int 0, .int 0, .int 0] j := fun j hj => match j, hj with | 0, _ => rfl | 1, _ => rfl | 2, _ => rfl | 3, _ => rfl | 4, _ => rfl | 5, _ => rfl | 6, _ => rfl | 7, _ => rfl | 8, _ => rfl | 9, _ => rfl | 10, _ => rfl | 11, _ => rfl | 12, _ => rfl | 13, _ => rfl | j + 14, h => absurd h (by omega)
theorem df_X2 : ∀ j, j < 5 → defaultValue (tyX2 j) = vp_V [.null, .null, .null, .null, .null] j := fun j hj => match j, hj with | 0, _ => rfl | 1, _ => rfl | 2, _ => rfl | 3, _ => rfl | 4, _ => rfl | j + 5, h => absurd h (by omega)
theorem df_X3 : ∀ j, j < 3 → defaultValue (tyX3 j) = vp_V [.null, .null, .null] j := fun j hj => match j, hj with | 0, _ => rfl | 1, _ => rfl | 2, _ => rfl | j + 3, h => absurd h (by omega)
theorem df_X4 : ∀ j, j < 5 → defaultValue (tyX4 j) = vp_V [.null, .null, .null, .null, .null] j := fun j hj => match j, hj with | 0, _ => rfl | 1, _ => rfl | 2, _ => rfl | 3, _ => rfl | 4, _ => rfl | j + 5, h => absurd h (by omega)
theorem df_X5 : ∀ j, j < 23 → defaultValue (tyX5 j) = vp_V [.int 0, .null, .null, .int 0, .null, .int 0, .null, .null, .null, .null, .null, .int 0, .int 0, .int 0, .int 0, .int 0, .int 0, .int 0, .null, .null, .null, .null, .null] j := fun j hj => match j, hj with | 0, _ => rfl | 1, _ => rfl | 2, _ => rfl | 3, _ => rfl | 4, _ => rfl | 5, _ => rfl | 6, _ => rfl | 7, _ => rfl | 8, _ => rfl | 9, _ => rfl | 10, _ => rfl | 11, _ => rfl | 12, _ => rfl | 13, _ => rfl | 14, _ => rfl | 15, _ => rfl | 16, _ => rfl | 17, _ => rfl | 18, _ => rfl | 19, _ => rfl | 20, _ => rfl | 21, _ => rfl | 22, _ => rfl | j + 23, h => absurd h (by omega)
theorem fd_X0_15 : Cond.fieldLink RX0 15 RX0 (TX0 0).2.1 (TX0 0).2.2.1 ∈ zk_ws := zk_in 61 (by decide +kernel) (by decide +kernel)
theorem fd_X1_11 : Cond.fieldLink RX1 11 RX1 (TX1 0).2.1 (TX1 0).2.2.1 ∈ zk_ws := zk_in 122 (by decide +kernel) (by decide +kernel)
theorem fd_X1_16 : Cond.fieldLink RX1 16 RX1 (TX1 1).2.1 (TX1 1).2.2.1 ∈ zk_ws := zk_in 123 (by decide +kernel) (by decide +kernel)
theorem fd_X1_20 : Cond.fieldLink RX1 20 RX1 (TX1 2).2.1 (TX1 2).2.2.1 ∈ zk_ws := zk_in 124 (by decide +kernel) (by decide +kernel)
theorem fd_X1_26 : Cond.fieldLink RX1 26 RX1 (TX1 3).2.1 (TX1 3).2.2.1 ∈ zk_ws := zk_in 125 (by decide +kernel) (by decide +kernel)
theorem fd_X2_16 : Cond.fieldLink RX2 16 RX2 (TX2 0).2.1 (TX2 0).2.2.1 ∈ zk_ws := zk_in 79 (by decide +kernel) (by decide +kernel)
theorem fd_X2_20 : Cond.fieldLink RX2 20 RX2 (TX2 1).2.1 (TX2 1).2.2.1 ∈ zk_ws := zk_in 81 (by decide +kernel) (by decide +kernel)
theorem fd_X2_23 : Cond.fieldLink RX2 23 RX2 (TX2 2).2.1 (TX2 2).2.2.1 ∈ zk_ws := zk_in 83 (by decide +kernel) (by decide +kernel)
theorem fd_X2_27 : Cond.fieldLink RX2 27 RX2 (TX2 3).2.1 (TX2 3).2.2.1 ∈ zk_ws := zk_in 84 (by decide +kernel) (by decide +kernel)
theorem fd_X2_30 : Cond.fieldLink RX2 30 RX2 (TX2 4).2.1 (TX2 4).2.2.1 ∈ zk_ws := zk_in 85 (by decide +kernel) (by decide +kernel)
theorem fd_X3_15 : Cond.fieldLink RX3 15 RX3 (TX3 1).2.1 (TX3 1).2.2.1 ∈ zk_ws := zk_in 113 (by decide +kernel) (by decide +kernel)
theorem fd_X3_18 : Cond.fieldLink RX3 18 RX3 (TX3 2).2.1 (TX3 2).2.2.1 ∈ zk_ws := zk_in 114 (by decide +kernel) (by decide +kernel)
theorem fd_X3_9 : Cond.fieldLink RX3 9 RX3 (TX3 0).2.1 (TX3 0).2.2.1 ∈ zk_ws := zk_in 112 (by decide +kernel) (by decide +kernel)
theorem fd_X4_11 : Cond.fieldLink RX4 11 RX4 (TX4 0).2.1 (TX4 0).2.2.1 ∈ zk_ws := zk_in 170 (by decide +kernel) (by decide +kernel)
theorem fd_X4_18 : Cond.fieldLink RX4 18 RX4 (TX4 1).2.1 (TX4 1).2.2.1 ∈ zk_ws := zk_in 171 (by decide +kernel) (by decide +kernel)
theorem fd_X4_22 : Cond.fieldLink RX4 22 RX4 (TX4 2).2.1 (TX4 2).2.2.1 ∈ zk_ws := zk_in 172 (by decide +kernel) (by decide +kernel)
theorem fd_X4_28 : Cond.fieldLink RX4 28 RX4 (TX4 3).2.1 (TX4 3).2.2.1 ∈ zk_ws := zk_in 173 (by decide +kernel) (by decide +kernel)
theorem fd_X4_35 : Cond.fieldLink RX4 35 RX4 (TX4 4).2.1 (TX4 4).2.2.1 ∈ zk_ws := zk_in 174 (by decide +kernel) (by decide +kernel)
theorem fd_X5_13 : Cond.fieldLink RX5 13 RX5 (TX5 2).2.1 (TX5 2).2.2.1 ∈ zk_ws := zk_in 441 (by decide +kernel) (by decide +kernel)
theorem fd_X5_16 : Cond.fieldLink RX5 16 RX5 (TX5 4).2.1 (TX5 4).2.2.1 ∈ zk_ws := zk_in 443 (by decide +kernel) (by decide +kernel)
theorem fd_X5_19 : Cond.fieldLink RX5 19 RX5 (TX5 6).2.1 (TX5 6).2.2.1 ∈ zk_ws := zk_in 445 (by decide +kernel) (by decide +kernel)
theorem fd_X5_22 : Cond.fieldLink RX5 22 RX5 (TX5 7).2.1 (TX5 7).2.2.1 ∈ zk_ws := zk_in 446 (by decide +kernel) (by decide +kernel)
theorem fd_X5_26 : Cond.fieldLink RX5 26 RX5 (TX5 8).2.1 (TX5 8).2.2.1 ∈ zk_ws := zk_in 447 (by decide +kernel) (by decide +kernel)
theorem fd_X5_29 : Cond.fieldLink RX5 29 RX5 (TX5 9).2.1 (TX5 9).2.2.1 ∈ zk_ws := zk_in 448 (by decide +kernel) (by decide +kernel)
theorem fd_X5_32 : Cond.fieldLink RX5 32 RX5 (TX5 10).2.1 (TX5 10).2.2.1 ∈ zk_ws := zk_in 449 (by decide +kernel) (by decide +kernel)
theorem fd_X5_35 : Cond.fieldLink RX5 35 RX5 (TX5 18).2.1 (TX5 18).2.2.1 ∈ zk_ws := zk_in 457 (by decide +kernel) (by decide +kernel)
theorem fd_X5_38 : Cond.fieldLink RX5 38 RX5 (TX5 19).2.1 (TX5 19).2.2.1 ∈ zk_ws := zk_in 458 (by decide +kernel) (by decide +kernel)
theorem fd_X5_41 : Cond.fieldLink RX5 41 RX5 (TX5 20).2.1 (TX5 20).2.2.1 ∈ zk_ws := zk_in 459 (by decide +kernel) (by decide +kernel)
theorem fd_X5_44 : Cond.fieldLink RX5 44 RX5 (TX5 21).2.1 (TX5 21).2.2.1 ∈ zk_ws := zk_in 460 (by decide +kernel) (by decide +kernel)
theorem fd_X5_47 : Cond.fieldLink RX5 47 RX5 (TX5 22).2.1 (TX5 22).2.2.1 ∈ zk_ws := zk_in 461 (by decide +kernel) (by decide +kernel)
theorem fd_X5_7 : Cond.fieldLink RX5 7 RX5 (TX5 1).2.1 (TX5 1).2.2.1 ∈ zk_ws := zk_in 440 (by decide +kernel) (by decide +kernel)
set_option maxRecDepth 100000 in
theorem zn_X0 {X : zk_X} {a N : Nat} {z : Int32} {ws : va_W} (hz : ¬ z < 0) (hN : z.toNatClampNeg = N) (hb : N ≤ 100000) : zn_M X yX0_init cX0_init 2 (1, 21) (1, N) [.ref a, .int z] ((a, .inr (0, [.null, .int 0])) :: ws) (fun w => ∃ q1 : Nat, w = (q1, .inl (X.2.2.2.1 1, N, .inl (fun _ => 0))) :: (a, .inr (0, [.ref q1, .int 0])) :: ws) := by
  refine zn_M.intro rfl rfl rfl rfl ?_
  intro E hC hR
  refine zn_aload_n (k := 0) hC rfl ⟨dX0_init_0, rfl⟩ ?_
  refine zn_obj hC ⟨(Nat.le_of_ble_eq_true rfl), (Nat.le_of_ble_eq_true rfl)⟩ ob_X0 ob_ws (Nat.le_of_ble_eq_true rfl) ⟨dX0_init_1, rfl⟩ ?_
  refine zn_aload_n (k := 0) hC rfl ⟨dX0_init_4, rfl⟩ ?_
  refine zn_iload_n (k := 1) hC rfl ⟨dX0_init_5, rfl⟩ ?_
  refine zn_iconst hC ⟨dX0_init_6, rfl⟩ (x := 0) rfl ?_
  refine zn_mmax hC ⟨(Nat.le_of_ble_eq_true rfl), (Nat.le_of_ble_eq_true rfl)⟩ mm_X0_9 mmax_ws (Nat.le_of_ble_eq_true rfl) (Nat.le_of_ble_eq_true rfl) (Nat.zero_le _) ⟨dX0_init_7, rfl⟩ ?_
  rw [if_neg hz]
  refine zn_newa (atype := .byte) (ty := .byte) (t := 1) (a0 := (N, .inl fun _ => 0)) (N := N) hC rfl ac_byte rfl (fun _ => rfl) hz hN (by show N * 1 ≤ _; omega) (Nat.le_of_ble_eq_true rfl) (Nat.le_of_eq (Nat.zero_add N)) ⟨dX0_init_10, rfl⟩ ?_
  intro q1
  refine zn_put (ci := 0) (C := RX0) (T := TX0) (N := 2) (j := 0) (ty := tyX0 0) (ty0 := tyX0) 1 hC hR rfl uw_X0 ⟨tyX0_ok, nmX0⟩ (Nat.le_of_ble_eq_true rfl) fd_X0_15 rfl rfl rfl rfl (tyX0_ok 0 (Nat.le_of_ble_eq_true rfl)) rfl rfl (Nat.le_of_ble_eq_true rfl) ⟨dX0_init_12, rfl⟩ ?_
  simp only [List.set_cons_zero, List.set_cons_succ]
  exact zn_vret hC hR ⟨q1, rfl⟩ (Nat.le_of_ble_eq_true rfl) (Nat.le_of_eq (Nat.zero_add N)) ⟨dX0_init_15, rfl⟩
set_option maxRecDepth 100000 in
theorem zn_X3 {X : zk_X} {a : Nat} {ws : va_W} : zn_M X yX3_init cX3_init 1 (1, 20) (3, 272) [.ref a] ((a, .inr (3, [.null, .null, .null])) :: ws) (fun w => ∃ q1 q2 q3 : Nat, w = (q3, .inl (X.2.2.2.1 2, 16, .inr (.inl (fun _ => 0)))) :: (q2, .inl (X.2.2.2.1 2, 128, .inr (.inl (fun _ => 0)))) :: (q1, .inl (X.2.2.2.1 2, 128, .inr (.inl (fun _ => 0)))) :: (a, .inr (3, [.ref q1, .ref q2, .ref q3])) :: ws) := by
  refine zn_M.intro rfl rfl rfl rfl ?_
  intro E hC hR
  refine zn_aload_n (k := 0) hC rfl ⟨dX3_init_0, rfl⟩ ?_
  refine zn_obj hC ⟨(Nat.le_of_ble_eq_true rfl), (Nat.le_of_ble_eq_true rfl)⟩ ob_X3 ob_ws (Nat.le_of_ble_eq_true rfl) ⟨dX3_init_1, rfl⟩ ?_
  refine zn_aload_n (k := 0) hC rfl ⟨dX3_init_4, rfl⟩ ?_
  refine zn_sipush hC ⟨dX3_init_5, rfl⟩ (x := nI 128) (by decide +kernel) ?_
  refine zn_newa (atype := .long) (ty := .long) (t := 2) (a0 := (128, .inr (.inl fun _ => 0))) (N := 128) hC rfl ac_long rfl (fun _ => rfl) (by decide +kernel) (by decide +kernel) (Nat.le_of_ble_eq_true rfl) (Nat.le_of_ble_eq_true rfl) (Nat.le_of_ble_eq_true rfl) ⟨dX3_init_8, rfl⟩ ?_
  intro q1
  refine zn_put (ci := 3) (C := RX3) (T := TX3) (N := 3) (j := 0) (ty := tyX3 0) (ty0 := tyX3) 1 hC hR rfl uw_X3 ⟨tyX3_ok, nmX3⟩ (Nat.le_of_ble_eq_true rfl) fd_X3_9 rfl rfl rfl rfl (tyX3_ok 0 (Nat.le_of_ble_eq_true rfl)) rfl rfl (Nat.le_of_ble_eq_true rfl) ⟨dX3_init_10, rfl⟩ ?_
  simp only [List.set_cons_zero, List.set_cons_succ]
  refine zn_aload_n (k := 0) hC rfl ⟨dX3_init_13, rfl⟩ ?_
  refine zn_sipush hC ⟨dX3_init_14, rfl⟩ (x := nI 128) (by decide +kernel) ?_
  refine zn_newa (atype := .long) (ty := .long) (t := 2) (a0 := (128, .inr (.inl fun _ => 0))) (N := 128) hC rfl ac_long rfl (fun _ => rfl) (by decide +kernel) (by decide +kernel) (Nat.le_of_ble_eq_true rfl) (Nat.le_of_ble_eq_true rfl) (Nat.le_of_ble_eq_true rfl) ⟨dX3_init_17, rfl⟩ ?_
  intro q2
  refine zn_put (ci := 3) (C := RX3) (T := TX3) (N := 3) (j := 1) (ty := tyX3 1) (ty0 := tyX3) 2 hC hR rfl uw_X3 ⟨tyX3_ok, nmX3⟩ (Nat.le_of_ble_eq_true rfl) fd_X3_15 rfl rfl rfl rfl (tyX3_ok 1 (Nat.le_of_ble_eq_true rfl)) rfl rfl (Nat.le_of_ble_eq_true rfl) ⟨dX3_init_19, rfl⟩ ?_
  simp only [List.set_cons_zero, List.set_cons_succ]
  refine zn_aload_n (k := 0) hC rfl ⟨dX3_init_22, rfl⟩ ?_
  refine zn_bipush hC ⟨dX3_init_23, rfl⟩ (x := nI 16) (by decide +kernel) ?_
  refine zn_newa (atype := .long) (ty := .long) (t := 2) (a0 := (16, .inr (.inl fun _ => 0))) (N := 16) hC rfl ac_long rfl (fun _ => rfl) (by decide +kernel) (by decide +kernel) (Nat.le_of_ble_eq_true rfl) (Nat.le_of_ble_eq_true rfl) (Nat.le_of_ble_eq_true rfl) ⟨dX3_init_25, rfl⟩ ?_
  intro q3
  refine zn_put (ci := 3) (C := RX3) (T := TX3) (N := 3) (j := 2) (ty := tyX3 2) (ty0 := tyX3) 3 hC hR rfl uw_X3 ⟨tyX3_ok, nmX3⟩ (Nat.le_of_ble_eq_true rfl) fd_X3_18 rfl rfl rfl rfl (tyX3_ok 2 (Nat.le_of_ble_eq_true rfl)) rfl rfl (Nat.le_of_ble_eq_true rfl) ⟨dX3_init_27, rfl⟩ ?_
  simp only [List.set_cons_zero, List.set_cons_succ]
  exact zn_vret hC hR ⟨q1, q2, q3, rfl⟩ (Nat.le_of_ble_eq_true rfl) (Nat.le_of_ble_eq_true rfl) ⟨dX3_init_30, rfl⟩
set_option maxRecDepth 100000 in
theorem zn_X2 {X : zk_X} {a : Nat} {ws : va_W} : zn_M X yX2_init cX2_init 1 (2, 42) (7, 2096) [.ref a] ((a, .inr (2, [.null, .null, .null, .null, .null])) :: ws) (fun w => ∃ q1 q2 q3 q4 q5 q6 q7 : Nat, w = (q7, .inl (X.2.2.2.1 2, 16, .inr (.inl (fun _ => 0)))) :: (q6, .inl (X.2.2.2.1 2, 16, .inr (.inl (fun _ => 0)))) :: (q5, .inl (X.2.2.2.1 2, 8, .inr (.inl (fun _ => 0)))) :: (q4, .inl (X.2.2.2.1 1, 1024, .inl (fun _ => 0))) :: (q3, .inr (0, [.ref q4, .int 0])) :: (q2, .inl (X.2.2.2.1 1, 1028, .inl (fun _ => 0))) :: (q1, .inr (0, [.ref q2, .int 0])) :: (a, .inr (2, [.ref q1, .ref q3, .ref q5, .ref q6, .ref q7])) :: ws) := by
  refine zn_M.intro rfl rfl rfl rfl ?_
  intro E hC hR
  refine zn_aload_n (k := 0) hC rfl ⟨dX2_init_0, rfl⟩ ?_
  refine zn_obj hC ⟨(Nat.le_of_ble_eq_true rfl), (Nat.le_of_ble_eq_true rfl)⟩ ob_X2 ob_ws (Nat.le_of_ble_eq_true rfl) ⟨dX2_init_1, rfl⟩ ?_
  refine zn_aload_n (k := 0) hC rfl ⟨dX2_init_4, rfl⟩ ?_
  refine zn_new (ci := 0) (C := RX0) (T := TX0) (N := 2) (ty0 := tyX0) (fs := [.null, .int 0]) hC rfl uw_X0 tyX0_ok nw_X2_9 df_X0 (Nat.le_of_ble_eq_true rfl) (Nat.le_of_ble_eq_true rfl) ⟨dX2_init_5, rfl⟩ ?_
  intro q1
  refine zn_dup hC ⟨dX2_init_8, rfl⟩ rfl ?_
  refine zn_sipush hC ⟨dX2_init_9, rfl⟩ (x := nI 1028) (by decide +kernel) ?_
  refine zn_call hC ml_X2_13 in_X0 (zn_X0 (N := 1028) (z := nI 1028) (by decide +kernel) (by decide +kernel) (by decide +kernel)) ⟨(Nat.le_of_ble_eq_true rfl), (Nat.le_of_ble_eq_true rfl)⟩ rfl rfl (Nat.le_of_ble_eq_true rfl) (Nat.le_of_ble_eq_true rfl) (Nat.le_of_ble_eq_true rfl) ⟨dX2_init_12, rfl⟩ ?_
  rintro _ ⟨q2, rfl⟩
  refine zn_put (ci := 2) (C := RX2) (T := TX2) (N := 5) (j := 0) (ty := tyX2 0) (ty0 := tyX2) 2 hC hR rfl uw_X2 ⟨tyX2_ok, nmX2⟩ (Nat.le_of_ble_eq_true rfl) fd_X2_16 rfl rfl rfl rfl (tyX2_ok 0 (Nat.le_of_ble_eq_true rfl)) rfl rfl (Nat.le_of_ble_eq_true rfl) ⟨dX2_init_15, rfl⟩ ?_
  simp only [List.set_cons_zero, List.set_cons_succ]
  refine zn_aload_n (k := 0) hC rfl ⟨dX2_init_18, rfl⟩ ?_
  refine zn_new (ci := 0) (C := RX0) (T := TX0) (N := 2) (ty0 := tyX0) (fs := [.null, .int 0]) hC rfl uw_X0 tyX0_ok nw_X2_9 df_X0 (Nat.le_of_ble_eq_true rfl) (Nat.le_of_ble_eq_true rfl) ⟨dX2_init_19, rfl⟩ ?_
  intro q3
  refine zn_dup hC ⟨dX2_init_22, rfl⟩ rfl ?_
  refine zn_sipush hC ⟨dX2_init_23, rfl⟩ (x := nI 1024) (by decide +kernel) ?_
  refine zn_call hC ml_X2_13 in_X0 (zn_X0 (N := 1024) (z := nI 1024) (by decide +kernel) (by decide +kernel) (by decide +kernel)) ⟨(Nat.le_of_ble_eq_true rfl), (Nat.le_of_ble_eq_true rfl)⟩ rfl rfl (Nat.le_of_ble_eq_true rfl) (Nat.le_of_ble_eq_true rfl) (Nat.le_of_ble_eq_true rfl) ⟨dX2_init_26, rfl⟩ ?_
  rintro _ ⟨q4, rfl⟩
  refine zn_put (ci := 2) (C := RX2) (T := TX2) (N := 5) (j := 1) (ty := tyX2 1) (ty0 := tyX2) 4 hC hR rfl uw_X2 ⟨tyX2_ok, nmX2⟩ (Nat.le_of_ble_eq_true rfl) fd_X2_20 rfl rfl rfl rfl (tyX2_ok 1 (Nat.le_of_ble_eq_true rfl)) rfl rfl (Nat.le_of_ble_eq_true rfl) ⟨dX2_init_29, rfl⟩ ?_
  simp only [List.set_cons_zero, List.set_cons_succ]
  refine zn_aload_n (k := 0) hC rfl ⟨dX2_init_32, rfl⟩ ?_
  refine zn_bipush hC ⟨dX2_init_33, rfl⟩ (x := nI 8) (by decide +kernel) ?_
  refine zn_newa (atype := .long) (ty := .long) (t := 2) (a0 := (8, .inr (.inl fun _ => 0))) (N := 8) hC rfl ac_long rfl (fun _ => rfl) (by decide +kernel) (by decide +kernel) (Nat.le_of_ble_eq_true rfl) (Nat.le_of_ble_eq_true rfl) (Nat.le_of_ble_eq_true rfl) ⟨dX2_init_35, rfl⟩ ?_
  intro q5
  refine zn_put (ci := 2) (C := RX2) (T := TX2) (N := 5) (j := 2) (ty := tyX2 2) (ty0 := tyX2) 5 hC hR rfl uw_X2 ⟨tyX2_ok, nmX2⟩ (Nat.le_of_ble_eq_true rfl) fd_X2_23 rfl rfl rfl rfl (tyX2_ok 2 (Nat.le_of_ble_eq_true rfl)) rfl rfl (Nat.le_of_ble_eq_true rfl) ⟨dX2_init_37, rfl⟩ ?_
  simp only [List.set_cons_zero, List.set_cons_succ]
  refine zn_aload_n (k := 0) hC rfl ⟨dX2_init_40, rfl⟩ ?_
  refine zn_bipush hC ⟨dX2_init_41, rfl⟩ (x := nI 16) (by decide +kernel) ?_
  refine zn_newa (atype := .long) (ty := .long) (t := 2) (a0 := (16, .inr (.inl fun _ => 0))) (N := 16) hC rfl ac_long rfl (fun _ => rfl) (by decide +kernel) (by decide +kernel) (Nat.le_of_ble_eq_true rfl) (Nat.le_of_ble_eq_true rfl) (Nat.le_of_ble_eq_true rfl) ⟨dX2_init_43, rfl⟩ ?_
  intro q6
  refine zn_put (ci := 2) (C := RX2) (T := TX2) (N := 5) (j := 3) (ty := tyX2 3) (ty0 := tyX2) 6 hC hR rfl uw_X2 ⟨tyX2_ok, nmX2⟩ (Nat.le_of_ble_eq_true rfl) fd_X2_27 rfl rfl rfl rfl (tyX2_ok 3 (Nat.le_of_ble_eq_true rfl)) rfl rfl (Nat.le_of_ble_eq_true rfl) ⟨dX2_init_45, rfl⟩ ?_
  simp only [List.set_cons_zero, List.set_cons_succ]
  refine zn_aload_n (k := 0) hC rfl ⟨dX2_init_48, rfl⟩ ?_
  refine zn_bipush hC ⟨dX2_init_49, rfl⟩ (x := nI 16) (by decide +kernel) ?_
  refine zn_newa (atype := .long) (ty := .long) (t := 2) (a0 := (16, .inr (.inl fun _ => 0))) (N := 16) hC rfl ac_long rfl (fun _ => rfl) (by decide +kernel) (by decide +kernel) (Nat.le_of_ble_eq_true rfl) (Nat.le_of_ble_eq_true rfl) (Nat.le_of_ble_eq_true rfl) ⟨dX2_init_51, rfl⟩ ?_
  intro q7
  refine zn_put (ci := 2) (C := RX2) (T := TX2) (N := 5) (j := 4) (ty := tyX2 4) (ty0 := tyX2) 7 hC hR rfl uw_X2 ⟨tyX2_ok, nmX2⟩ (Nat.le_of_ble_eq_true rfl) fd_X2_30 rfl rfl rfl rfl (tyX2_ok 4 (Nat.le_of_ble_eq_true rfl)) rfl rfl (Nat.le_of_ble_eq_true rfl) ⟨dX2_init_53, rfl⟩ ?_
  simp only [List.set_cons_zero, List.set_cons_succ]
  exact zn_vret hC hR ⟨q1, q2, q3, q4, q5, q6, q7, rfl⟩ (Nat.le_of_ble_eq_true rfl) (Nat.le_of_ble_eq_true rfl) ⟨dX2_init_56, rfl⟩
end
section
/-- addresses by place -/
def zn_ad (q : Nat) (l : List Nat) (k : Nat) : Nat := if 38 ≤ k then q + 1 + (k - 38) else l.getD k 0
theorem zn_ad_far {q : Nat} {l : List Nat} (j : Nat) : zn_ad q l (38 + j) = q + 1 + j := by
  unfold zn_ad
  rw [if_pos (by omega), Nat.add_sub_cancel_left]
theorem zn_8 {f g : Nat → Option Nat} (j : Nat) (hj : j < 8) (h0 : f 0 = g 0) (h1 : f 1 = g 1) (h2 : f 2 = g 2) (h3 : f 3 = g 3) (h4 : f 4 = g 4) (h5 : f 5 = g 5) (h6 : f 6 = g 6) (h7 : f 7 = g 7) : f j = g j := match j, hj with
  | 0, _ => h0
  | 1, _ => h1
  | 2, _ => h2
  | 3, _ => h3
  | 4, _ => h4
  | 5, _ => h5
  | 6, _ => h6
  | 7, _ => h7
  | j + 8, h => absurd h (by omega)
/-- the cells of a kind, all numbers zero -/
def zn_X (X : zk_X) (ad : Nat → Nat) (wr : va_W) : zk_X := (X.1, X.2.1, X.2.2.1, X.2.2.2.1, ad, X.2.2.2.2.2.1, wr)
def zn_cells (v : Nat) (X : zk_X) (ad : Nat → Nat) : va_W := (List.range (zk_N v)).map (fun k => (ad k, zk_e (zn_X X ad []) (fun _ _ => 0) (fun _ _ => 0) k (zk_sh v k)))
theorem zn_range {α : Type} (F : Nat → α) : (List.range 166).map F = (List.range 38).map F ++ (List.range 128).map (fun i => F (38 + i)) := by
  rw [show (166 : Nat) = 38 + 128 from rfl, List.range_add, List.map_append, List.map_map]
  rfl
theorem zn_sh_far {i : Nat} : zk_sh 0 (38 + i) = .inl (2, 128) := by
  show zk_sh0 (38 + i) = _
  unfold zk_sh0
  rw [if_pos (by omega)]
set_option maxRecDepth 100000 in
theorem zn_p14 {α : Type} (x0 x1 x2 x3 x4 x5 x6 x7 x8 x9 x10 x11 x12 x13 : α) : [x13, x12, x11, x10, x9, x8, x7, x6, x5, x4, x3, x2, x1, x0].Perm [x0, x1, x2, x3, x4, x5, x6, x7, x8, x9, x10, x11, x12, x13] :=
  (by decide +kernel : List.Perm [13, 12, 11, 10, 9, 8, 7, 6, 5, 4, 3, 2, 1, 0] (List.range 14)).map (fun i => [x0, x1, x2, x3, x4, x5, x6, x7, x8, x9, x10, x11, x12, x13].getD i x0)
set_option maxRecDepth 100000 in
theorem zn_X5 {X : zk_X} {a : Nat} {ws : va_W} : zn_M X yX5_init cX5_init 1 (1, 20) (13, 21032) [.ref a] ((a, .inr (5, [.int 0, .null, .null, .int 0, .null, .int 0, .null, .null, .null, .null, .null, .int 0, .int 0, .int 0, .int 0, .int 0, .int 0, .int 0, .null, .null, .null, .null, .null])) :: ws) (fun w => ∃ ad : Nat → Nat, ad 0 = a ∧ w.Perm (zn_cells 1 X ad ++ ws)) := by
  refine zn_M.intro rfl rfl rfl rfl ?_
  intro E hC hR
  refine zn_aload_n (k := 0) hC rfl ⟨dX5_init_0, rfl⟩ ?_
  refine zn_obj hC ⟨(Nat.le_of_ble_eq_true rfl), (Nat.le_of_ble_eq_true rfl)⟩ ob_X5 ob_ws (Nat.le_of_ble_eq_true rfl) ⟨dX5_init_1, rfl⟩ ?_
  refine zn_aload_n (k := 0) hC rfl ⟨dX5_init_4, rfl⟩ ?_
  refine zn_bipush hC ⟨dX5_init_5, rfl⟩ (x := nI 8) (by decide +kernel) ?_
  refine zn_newa (atype := .int) (ty := .int) (t := 0) (a0 := (8, .inl fun _ => 0)) (N := 8) hC rfl ac_int rfl (fun _ => rfl) (by decide +kernel) (by decide +kernel) (Nat.le_of_ble_eq_true rfl) (Nat.le_of_ble_eq_true rfl) (Nat.le_of_ble_eq_true rfl) ⟨dX5_init_7, rfl⟩ ?_
  intro q1
  refine zn_put (ci := 5) (C := RX5) (T := TX5) (N := 23) (j := 1) (ty := tyX5 1) (ty0 := tyX5) 1 hC hR rfl uw_X5 ⟨tyX5_ok, nmX5⟩ (Nat.le_of_ble_eq_true rfl) fd_X5_7 rfl rfl rfl rfl (tyX5_ok 1 (Nat.le_of_ble_eq_true rfl)) rfl rfl (Nat.le_of_ble_eq_true rfl) ⟨dX5_init_9, rfl⟩ ?_
  simp only [List.set_cons_zero, List.set_cons_succ]
  refine zn_aload_n (k := 0) hC rfl ⟨dX5_init_12, rfl⟩ ?_
  refine zn_sipush hC ⟨dX5_init_13, rfl⟩ (x := nI 1600) (by decide +kernel) ?_
  refine zn_newa (atype := .int) (ty := .int) (t := 0) (a0 := (1600, .inl fun _ => 0)) (N := 1600) hC rfl ac_int rfl (fun _ => rfl) (by decide +kernel) (by decide +kernel) (Nat.le_of_ble_eq_true rfl) (Nat.le_of_ble_eq_true rfl) (Nat.le_of_ble_eq_true rfl) ⟨dX5_init_16, rfl⟩ ?_
  intro q2
  refine zn_put (ci := 5) (C := RX5) (T := TX5) (N := 23) (j := 2) (ty := tyX5 2) (ty0 := tyX5) 2 hC hR rfl uw_X5 ⟨tyX5_ok, nmX5⟩ (Nat.le_of_ble_eq_true rfl) fd_X5_13 rfl rfl rfl rfl (tyX5_ok 2 (Nat.le_of_ble_eq_true rfl)) rfl rfl (Nat.le_of_ble_eq_true rfl) ⟨dX5_init_18, rfl⟩ ?_
  simp only [List.set_cons_zero, List.set_cons_succ]
  refine zn_aload_n (k := 0) hC rfl ⟨dX5_init_21, rfl⟩ ?_
  refine zn_bipush hC ⟨dX5_init_22, rfl⟩ (x := nI 64) (by decide +kernel) ?_
  refine zn_newa (atype := .int) (ty := .int) (t := 0) (a0 := (64, .inl fun _ => 0)) (N := 64) hC rfl ac_int rfl (fun _ => rfl) (by decide +kernel) (by decide +kernel) (Nat.le_of_ble_eq_true rfl) (Nat.le_of_ble_eq_true rfl) (Nat.le_of_ble_eq_true rfl) ⟨dX5_init_24, rfl⟩ ?_
  intro q3
  refine zn_put (ci := 5) (C := RX5) (T := TX5) (N := 23) (j := 4) (ty := tyX5 4) (ty0 := tyX5) 3 hC hR rfl uw_X5 ⟨tyX5_ok, nmX5⟩ (Nat.le_of_ble_eq_true rfl) fd_X5_16 rfl rfl rfl rfl (tyX5_ok 4 (Nat.le_of_ble_eq_true rfl)) rfl rfl (Nat.le_of_ble_eq_true rfl) ⟨dX5_init_26, rfl⟩ ?_
  simp only [List.set_cons_zero, List.set_cons_succ]
  refine zn_aload_n (k := 0) hC rfl ⟨dX5_init_29, rfl⟩ ?_
  refine zn_sipush hC ⟨dX5_init_30, rfl⟩ (x := nI 1400) (by decide +kernel) ?_
  refine zn_newa (atype := .int) (ty := .int) (t := 0) (a0 := (1400, .inl fun _ => 0)) (N := 1400) hC rfl ac_int rfl (fun _ => rfl) (by decide +kernel) (by decide +kernel) (Nat.le_of_ble_eq_true rfl) (Nat.le_of_ble_eq_true rfl) (Nat.le_of_ble_eq_true rfl) ⟨dX5_init_33, rfl⟩ ?_
  intro q4
  refine zn_put (ci := 5) (C := RX5) (T := TX5) (N := 23) (j := 6) (ty := tyX5 6) (ty0 := tyX5) 4 hC hR rfl uw_X5 ⟨tyX5_ok, nmX5⟩ (Nat.le_of_ble_eq_true rfl) fd_X5_19 rfl rfl rfl rfl (tyX5_ok 6 (Nat.le_of_ble_eq_true rfl)) rfl rfl (Nat.le_of_ble_eq_true rfl) ⟨dX5_init_35, rfl⟩ ?_
  simp only [List.set_cons_zero, List.set_cons_succ]
  refine zn_aload_n (k := 0) hC rfl ⟨dX5_init_38, rfl⟩ ?_
  refine zn_bipush hC ⟨dX5_init_39, rfl⟩ (x := nI 8) (by decide +kernel) ?_
  refine zn_newa (atype := .long) (ty := .long) (t := 2) (a0 := (8, .inr (.inl fun _ => 0))) (N := 8) hC rfl ac_long rfl (fun _ => rfl) (by decide +kernel) (by decide +kernel) (Nat.le_of_ble_eq_true rfl) (Nat.le_of_ble_eq_true rfl) (Nat.le_of_ble_eq_true rfl) ⟨dX5_init_41, rfl⟩ ?_
  intro q5
  refine zn_put (ci := 5) (C := RX5) (T := TX5) (N := 23) (j := 7) (ty := tyX5 7) (ty0 := tyX5) 5 hC hR rfl uw_X5 ⟨tyX5_ok, nmX5⟩ (Nat.le_of_ble_eq_true rfl) fd_X5_22 rfl rfl rfl rfl (tyX5_ok 7 (Nat.le_of_ble_eq_true rfl)) rfl rfl (Nat.le_of_ble_eq_true rfl) ⟨dX5_init_43, rfl⟩ ?_
  simp only [List.set_cons_zero, List.set_cons_succ]
  refine zn_aload_n (k := 0) hC rfl ⟨dX5_init_46, rfl⟩ ?_
  refine zn_bipush hC ⟨dX5_init_47, rfl⟩ (x := nI 16) (by decide +kernel) ?_
  refine zn_newa (atype := .long) (ty := .long) (t := 2) (a0 := (16, .inr (.inl fun _ => 0))) (N := 16) hC rfl ac_long rfl (fun _ => rfl) (by decide +kernel) (by decide +kernel) (Nat.le_of_ble_eq_true rfl) (Nat.le_of_ble_eq_true rfl) (Nat.le_of_ble_eq_true rfl) ⟨dX5_init_49, rfl⟩ ?_
  intro q6
  refine zn_put (ci := 5) (C := RX5) (T := TX5) (N := 23) (j := 8) (ty := tyX5 8) (ty0 := tyX5) 6 hC hR rfl uw_X5 ⟨tyX5_ok, nmX5⟩ (Nat.le_of_ble_eq_true rfl) fd_X5_26 rfl rfl rfl rfl (tyX5_ok 8 (Nat.le_of_ble_eq_true rfl)) rfl rfl (Nat.le_of_ble_eq_true rfl) ⟨dX5_init_51, rfl⟩ ?_
  simp only [List.set_cons_zero, List.set_cons_succ]
  refine zn_aload_n (k := 0) hC rfl ⟨dX5_init_54, rfl⟩ ?_
  refine zn_bipush hC ⟨dX5_init_55, rfl⟩ (x := nI 16) (by decide +kernel) ?_
  refine zn_newa (atype := .long) (ty := .long) (t := 2) (a0 := (16, .inr (.inl fun _ => 0))) (N := 16) hC rfl ac_long rfl (fun _ => rfl) (by decide +kernel) (by decide +kernel) (Nat.le_of_ble_eq_true rfl) (Nat.le_of_ble_eq_true rfl) (Nat.le_of_ble_eq_true rfl) ⟨dX5_init_57, rfl⟩ ?_
  intro q7
  refine zn_put (ci := 5) (C := RX5) (T := TX5) (N := 23) (j := 9) (ty := tyX5 9) (ty0 := tyX5) 7 hC hR rfl uw_X5 ⟨tyX5_ok, nmX5⟩ (Nat.le_of_ble_eq_true rfl) fd_X5_29 rfl rfl rfl rfl (tyX5_ok 9 (Nat.le_of_ble_eq_true rfl)) rfl rfl (Nat.le_of_ble_eq_true rfl) ⟨dX5_init_59, rfl⟩ ?_
  simp only [List.set_cons_zero, List.set_cons_succ]
  refine zn_aload_n (k := 0) hC rfl ⟨dX5_init_62, rfl⟩ ?_
  refine zn_sipush hC ⟨dX5_init_63, rfl⟩ (x := nI 1024) (by decide +kernel) ?_
  refine zn_newa (atype := .int) (ty := .int) (t := 0) (a0 := (1024, .inl fun _ => 0)) (N := 1024) hC rfl ac_int rfl (fun _ => rfl) (by decide +kernel) (by decide +kernel) (Nat.le_of_ble_eq_true rfl) (Nat.le_of_ble_eq_true rfl) (Nat.le_of_ble_eq_true rfl) ⟨dX5_init_66, rfl⟩ ?_
  intro q8
  refine zn_put (ci := 5) (C := RX5) (T := TX5) (N := 23) (j := 10) (ty := tyX5 10) (ty0 := tyX5) 8 hC hR rfl uw_X5 ⟨tyX5_ok, nmX5⟩ (Nat.le_of_ble_eq_true rfl) fd_X5_32 rfl rfl rfl rfl (tyX5_ok 10 (Nat.le_of_ble_eq_true rfl)) rfl rfl (Nat.le_of_ble_eq_true rfl) ⟨dX5_init_68, rfl⟩ ?_
  simp only [List.set_cons_zero, List.set_cons_succ]
  refine zn_aload_n (k := 0) hC rfl ⟨dX5_init_71, rfl⟩ ?_
  refine zn_sipush hC ⟨dX5_init_72, rfl⟩ (x := nI 16384) (by decide +kernel) ?_
  refine zn_newa (atype := .long) (ty := .long) (t := 2) (a0 := (16384, .inr (.inl fun _ => 0))) (N := 16384) hC rfl ac_long rfl (fun _ => rfl) (by decide +kernel) (by decide +kernel) (Nat.le_of_ble_eq_true rfl) (Nat.le_of_ble_eq_true rfl) (Nat.le_of_ble_eq_true rfl) ⟨dX5_init_75, rfl⟩ ?_
  intro q9
  refine zn_put (ci := 5) (C := RX5) (T := TX5) (N := 23) (j := 18) (ty := tyX5 18) (ty0 := tyX5) 9 hC hR rfl uw_X5 ⟨tyX5_ok, nmX5⟩ (Nat.le_of_ble_eq_true rfl) fd_X5_35 rfl rfl rfl rfl (tyX5_ok 18 (Nat.le_of_ble_eq_true rfl)) rfl rfl (Nat.le_of_ble_eq_true rfl) ⟨dX5_init_77, rfl⟩ ?_
  simp only [List.set_cons_zero, List.set_cons_succ]
  refine zn_aload_n (k := 0) hC rfl ⟨dX5_init_80, rfl⟩ ?_
  refine zn_sipush hC ⟨dX5_init_81, rfl⟩ (x := nI 128) (by decide +kernel) ?_
  refine zn_newa (atype := .long) (ty := .long) (t := 2) (a0 := (128, .inr (.inl fun _ => 0))) (N := 128) hC rfl ac_long rfl (fun _ => rfl) (by decide +kernel) (by decide +kernel) (Nat.le_of_ble_eq_true rfl) (Nat.le_of_ble_eq_true rfl) (Nat.le_of_ble_eq_true rfl) ⟨dX5_init_84, rfl⟩ ?_
  intro q10
  refine zn_put (ci := 5) (C := RX5) (T := TX5) (N := 23) (j := 19) (ty := tyX5 19) (ty0 := tyX5) 10 hC hR rfl uw_X5 ⟨tyX5_ok, nmX5⟩ (Nat.le_of_ble_eq_true rfl) fd_X5_38 rfl rfl rfl rfl (tyX5_ok 19 (Nat.le_of_ble_eq_true rfl)) rfl rfl (Nat.le_of_ble_eq_true rfl) ⟨dX5_init_86, rfl⟩ ?_
  simp only [List.set_cons_zero, List.set_cons_succ]
  refine zn_aload_n (k := 0) hC rfl ⟨dX5_init_89, rfl⟩ ?_
  refine zn_sipush hC ⟨dX5_init_90, rfl⟩ (x := nI 128) (by decide +kernel) ?_
  refine zn_newa (atype := .long) (ty := .long) (t := 2) (a0 := (128, .inr (.inl fun _ => 0))) (N := 128) hC rfl ac_long rfl (fun _ => rfl) (by decide +kernel) (by decide +kernel) (Nat.le_of_ble_eq_true rfl) (Nat.le_of_ble_eq_true rfl) (Nat.le_of_ble_eq_true rfl) ⟨dX5_init_93, rfl⟩ ?_
  intro q11
  refine zn_put (ci := 5) (C := RX5) (T := TX5) (N := 23) (j := 20) (ty := tyX5 20) (ty0 := tyX5) 11 hC hR rfl uw_X5 ⟨tyX5_ok, nmX5⟩ (Nat.le_of_ble_eq_true rfl) fd_X5_41 rfl rfl rfl rfl (tyX5_ok 20 (Nat.le_of_ble_eq_true rfl)) rfl rfl (Nat.le_of_ble_eq_true rfl) ⟨dX5_init_95, rfl⟩ ?_
  simp only [List.set_cons_zero, List.set_cons_succ]
  refine zn_aload_n (k := 0) hC rfl ⟨dX5_init_98, rfl⟩ ?_
  refine zn_sipush hC ⟨dX5_init_99, rfl⟩ (x := nI 128) (by decide +kernel) ?_
  refine zn_newa (atype := .long) (ty := .long) (t := 2) (a0 := (128, .inr (.inl fun _ => 0))) (N := 128) hC rfl ac_long rfl (fun _ => rfl) (by decide +kernel) (by decide +kernel) (Nat.le_of_ble_eq_true rfl) (Nat.le_of_ble_eq_true rfl) (Nat.le_of_ble_eq_true rfl) ⟨dX5_init_102, rfl⟩ ?_
  intro q12
  refine zn_put (ci := 5) (C := RX5) (T := TX5) (N := 23) (j := 21) (ty := tyX5 21) (ty0 := tyX5) 12 hC hR rfl uw_X5 ⟨tyX5_ok, nmX5⟩ (Nat.le_of_ble_eq_true rfl) fd_X5_44 rfl rfl rfl rfl (tyX5_ok 21 (Nat.le_of_ble_eq_true rfl)) rfl rfl (Nat.le_of_ble_eq_true rfl) ⟨dX5_init_104, rfl⟩ ?_
  simp only [List.set_cons_zero, List.set_cons_succ]
  refine zn_aload_n (k := 0) hC rfl ⟨dX5_init_107, rfl⟩ ?_
  refine zn_sipush hC ⟨dX5_init_108, rfl⟩ (x := nI 128) (by decide +kernel) ?_
  refine zn_newa (atype := .long) (ty := .long) (t := 2) (a0 := (128, .inr (.inl fun _ => 0))) (N := 128) hC rfl ac_long rfl (fun _ => rfl) (by decide +kernel) (by decide +kernel) (Nat.le_of_ble_eq_true rfl) (Nat.le_of_ble_eq_true rfl) (Nat.le_of_ble_eq_true rfl) ⟨dX5_init_111, rfl⟩ ?_
  intro q13
  refine zn_put (ci := 5) (C := RX5) (T := TX5) (N := 23) (j := 22) (ty := tyX5 22) (ty0 := tyX5) 13 hC hR rfl uw_X5 ⟨tyX5_ok, nmX5⟩ (Nat.le_of_ble_eq_true rfl) fd_X5_47 rfl rfl rfl rfl (tyX5_ok 22 (Nat.le_of_ble_eq_true rfl)) rfl rfl (Nat.le_of_ble_eq_true rfl) ⟨dX5_init_113, rfl⟩ ?_
  simp only [List.set_cons_zero, List.set_cons_succ]
  refine zn_vret hC hR ⟨(fun k => [a, q1, q2, q3, q4, q5, q6, q7, q8, q9, q10, q11, q12, q13].getD k 0), rfl, ?_⟩ (Nat.le_of_ble_eq_true rfl) (Nat.le_of_ble_eq_true rfl) ⟨dX5_init_116, rfl⟩
  refine List.Perm.append_right (l₁ := [(q13, .inl (X.2.2.2.1 2, 128, .inr (.inl (fun _ => 0)))), (q12, .inl (X.2.2.2.1 2, 128, .inr (.inl (fun _ => 0)))), (q11, .inl (X.2.2.2.1 2, 128, .inr (.inl (fun _ => 0)))), (q10, .inl (X.2.2.2.1 2, 128, .inr (.inl (fun _ => 0)))), (q9, .inl (X.2.2.2.1 2, 16384, .inr (.inl (fun _ => 0)))), (q8, .inl (X.2.2.2.1 0, 1024, .inl (fun _ => 0))), (q7, .inl (X.2.2.2.1 2, 16, .inr (.inl (fun _ => 0)))), (q6, .inl (X.2.2.2.1 2, 16, .inr (.inl (fun _ => 0)))), (q5, .inl (X.2.2.2.1 2, 8, .inr (.inl (fun _ => 0)))), (q4, .inl (X.2.2.2.1 0, 1400, .inl (fun _ => 0))), (q3, .inl (X.2.2.2.1 0, 64, .inl (fun _ => 0))), (q2, .inl (X.2.2.2.1 0, 1600, .inl (fun _ => 0))), (q1, .inl (X.2.2.2.1 0, 8, .inl (fun _ => 0))), (a, .inr (5, [.int 0, .ref q1, .ref q2, .int 0, .ref q3, .int 0, .ref q4, .ref q5, .ref q6, .ref q7, .ref q8, .int 0, .int 0, .int 0, .int 0, .int 0, .int 0, .int 0, .ref q9, .ref q10, .ref q11, .ref q12, .ref q13]))]) ws ((zn_p14 _ _ _ _ _ _ _ _ _ _ _ _ _ _).trans (List.Perm.of_eq rfl))
end
section
set_option maxRecDepth 100000 in
theorem zn_X4_it {X : zk_X} {E : zk_E} {B : va_W → Prop} {a qr kc nc i : Nat} {x1 x2 x3 x4 : Value} {f : Nat → Option Nat} {w : va_W} (i1 i2 : Nat) (hC : zn_C X E yX4_init.cls cX4_init (3, 62) (165, 20850)) (hlt : ¬ nI 8 ≤ nI i) (hinc : nI i + Int32.ofInt 1 = nI (i + 1)) (hin : vp_in (nI i) 8) (hcl : (nI i).toNatClampNeg = i)
    (h1 : w[i1]? = some (a, .inr (4, [.ref qr, x1, x2, x3, x4]))) (h2 : w[i2]? = some (qr, .inl (X.2.2.2.1 3, 8, .inr (.inr (.inr (.inr f)))))) (hk : kc + 1 + 1 ≤ 165) (hn : nc + 2 + 200 ≤ 20850)
    (kk : ∀ q q' : Nat, zn_A X E 62 [some (.ref a), some (.int (nI (i + 1)))] [] ((q', .inl (X.2.2.2.1 1, 200, .inl (fun _ => 0))) :: (q, .inr (0, [.ref q', .int 0])) :: w.set i2 (qr, .inl (X.2.2.2.1 3, 8, .inr (.inr (.inr (.inr (va_up f i (some q)))))))) (kc + 1 + 1) (nc + 2 + 200)) : zn_A X E 62 [some (.ref a), some (.int (nI i))] [] w kc nc := by
  refine zn_iload_n (k := 1) hC rfl ⟨dX4_init_62, rfl⟩ ?_
  refine zn_bipush hC ⟨dX4_init_63, rfl⟩ (x := nI 8) (by decide +kernel) ?_
  refine zn_icmp_ge hC ⟨dX4_init_65, rfl⟩ 90 rfl (fun h => absurd h hlt) (fun _ => ?_)
  refine zn_aload_n (k := 0) hC rfl ⟨dX4_init_68, rfl⟩ ?_
  refine zn_get (ci := 4) (C := RX4) (T := TX4) (N := 5) (j := 0) i1 hC rfl uw_X4 (Nat.le_of_ble_eq_true rfl) fd_X4_11 rfl h1 rfl ⟨dX4_init_69, rfl⟩ ?_
  refine zn_iload_n (k := 1) hC rfl ⟨dX4_init_72, rfl⟩ ?_
  refine zn_new (ci := 0) (C := RX0) (T := TX0) (N := 2) (ty0 := tyX0) (fs := [.null, .int 0]) hC rfl uw_X0 tyX0_ok nw_X4_9 df_X0 (by show kc + 1 ≤ 165; omega) (by show nc + 2 ≤ 20850; omega) ⟨dX4_init_73, rfl⟩ ?_
  intro q
  refine zn_dup hC ⟨dX4_init_76, rfl⟩ rfl ?_
  refine zn_sipush hC ⟨dX4_init_77, rfl⟩ (x := nI 200) (by decide +kernel) ?_
  refine zn_call hC ml_X4_15 in_X0 (zn_X0 (N := 200) (z := nI 200) (by decide +kernel) (by decide +kernel) (by decide +kernel)) ⟨(Nat.le_of_ble_eq_true rfl), (Nat.le_of_ble_eq_true rfl)⟩ rfl rfl (Nat.le_of_ble_eq_true rfl) (by show kc + 1 + 1 ≤ 165; omega) (by show nc + 2 + 200 ≤ 20850; omega) ⟨dX4_init_80, rfl⟩ ?_
  rintro _ ⟨q', rfl⟩
  refine zn_ast (t := 3) (r := (RX0, TX0, 2)) (ci := 0) (i2 + 2) 1 hC h2 rfl rfl rfl hin ⟨dX4_init_83, rfl⟩ ?_
  rw [hcl]
  refine zn_iincG hC ⟨dX4_init_84, rfl⟩ rfl ?_
  rw [hinc]
  refine zn_goto hC ⟨dX4_init_87, rfl⟩ 62 rfl ?_
  exact kk q q'
set_option maxRecDepth 100000 in
theorem zn_p38 {α : Type} (x0 x1 x2 x3 x4 x5 x6 x7 x8 x9 x10 x11 x12 x13 x14 x15 x16 x17 x18 x19 x20 x21 x22 x23 x24 x25 x26 x27 x28 x29 x30 x31 x32 x33 x34 x35 x36 x37 : α) : [x17, x9, x16, x8, x15, x7, x14, x6, x13, x5, x12, x4, x11, x3, x10, x2, x37, x36, x35, x34, x33, x32, x31, x30, x29, x28, x27, x26, x25, x24, x23, x22, x21, x20, x19, x18, x1, x0].Perm [x0, x1, x2, x3, x4, x5, x6, x7, x8, x9, x10, x11, x12, x13, x14, x15, x16, x17, x18, x19, x20, x21, x22, x23, x24, x25, x26, x27, x28, x29, x30, x31, x32, x33, x34, x35, x36, x37] :=
  (by decide +kernel : List.Perm [17, 9, 16, 8, 15, 7, 14, 6, 13, 5, 12, 4, 11, 3, 10, 2, 37, 36, 35, 34, 33, 32, 31, 30, 29, 28, 27, 26, 25, 24, 23, 22, 21, 20, 19, 18, 1, 0] (List.range 38)).map (fun i => [x0, x1, x2, x3, x4, x5, x6, x7, x8, x9, x10, x11, x12, x13, x14, x15, x16, x17, x18, x19, x20, x21, x22, x23, x24, x25, x26, x27, x28, x29, x30, x31, x32, x33, x34, x35, x36, x37].getD i x0)
end
section
def fl_g (g0 : Nat → Int32) (kd ln ps tg lb sb dn pa sl la : Nat) : Nat → Int32 := fun j => match j with
  | 4 => nI kd
  | 5 => nI ln
  | 6 => nI ps
  | 7 => nI tg
  | 8 => nI lb
  | 9 => nI sb
  | 10 => nI dn
  | 11 => nI pa
  | 12 => nI sl
  | 13 => nI la
  | j => g0 j
abbrev fl_is (kd ln ps tg lb sb : Nat) : Prop := kd ≤ 2 ∧ 1 ≤ ln ∧ ln ≤ 4 ∧ 1 ≤ ps ∧ ps ≤ 5 ∧ tg ≤ 128 ∧ lb = 4 * sb ∧ 2 ≤ sb ∧ sb ≤ 32 ∧ ln * lb ≤ 128
def md_g (g0 : Nat → Int32) (th ks sz bg kd ln ps tg sc dn : Nat) : Nat → Int32 := fun j => match j with
  | 0 => nI th
  | 3 => nI ks
  | 5 => nI sz
  | 11 => nI bg
  | 12 => nI kd
  | 13 => nI ln
  | 14 => nI ps
  | 15 => nI tg
  | 16 => nI sc
  | 17 => nI dn
  | j => g0 j
abbrev md_T : Type := (Nat → Int64) × (Nat → Int64) × (Nat → Int64) × (Nat → Int64) × (Nat → Int64)
def md_of (J : zk_J) : md_T := (J 9, J 10, J 11, J 12, J 13)
def qx_e (p : Nat × (Nat → Int32)) (sz : Nat) (g : Nat → Int32) : Prop := p.1 = sz ∧ ∀ i, i < sz → p.2 i &&& nI 255 = g i
theorem qx_e0 {f g : Nat → Int32} : qx_e (0, f) 0 g := ⟨rfl, fun i h => absurd h (Nat.not_lt_zero i)⟩
def qx_q (n : Nat) (v v' : Nat → Int64) : Prop := ∀ j, j < n → v j = v' j
def qs_Z : Nat → Int64 := fun _ => lN 0
def qs_R (J : zk_J) (s : md_T) : Prop := (∀ b, b < 128 → ∀ k, k < 128 → J (38 + b) k = s.1 (128 * b + k)) ∧ qx_q 128 (J 32) qs_Z
def sm_R (I Ir : zk_I) : Prop := ∀ r, r < 8 → ∃ c, c ≤ 200 ∧ I (2 + r) 1 = nI c ∧ Ir 1 r = nI c ∧ qx_e (c, I (10 + r)) c (fun i => Ir 2 (200 * r + i))
def sm_N (I Ir : zk_I) : Prop := ∃ (g0 gr : Nat → Int32) (th sz bg kd ln ps tg sb dn pa sl la : Nat), I 30 = fl_g g0 kd ln ps tg (4 * sb) sb dn pa sl la ∧ Ir 0 = md_g gr th 0 sz bg kd ln ps tg sb dn ∧ ((bg = 0 ∧ kd = 0 ∧ ln = 0 ∧ ps = 0 ∧ tg = 0 ∧ sb = 0 ∧ dn = 0) ∨ (bg = 1 ∧ fl_is kd ln ps tg (4 * sb) sb ∧ 4 ≤ tg ∧ dn ≤ ps * 4 * ln))
def Sim (I : zk_I) (J : zk_J) (Ir : zk_I) (Jr : zk_J) : Prop := sm_R I Ir ∧ sm_N I Ir ∧ qs_R J (md_of Jr) ∧ I 18 1 = nI 0
/-- an answer's kind -/
def sm_k (ret : Option FieldType) (x : Value) : Bool := match ret, x with
  | some .int, .int _ => true
  | some .long, .long _ => true
  | _, _ => false
theorem sm_kI {x : Value} (h : sm_k (some .int) x = true) : ∃ y, x = .int y := by
  cases x <;> first | exact ⟨_, rfl⟩ | cases h
theorem sm_kL {x : Value} (h : sm_k (some .long) x = true) : ∃ y, x = .long y := by
  cases x <;> first | exact ⟨_, rfl⟩ | cases h
/-- a call: both answer alike, and the states stay alike -/
def sm_op (yc : MethodName) (bc : ByteArray) (mc : Nat) (dc : Nat × Nat) (yr : MethodName) (br : ByteArray) (mr : Nat) (dr : Nat × Nat) (ret : Option FieldType) (as : List Value) (I : zk_I) (J : zk_J) (Ir : zk_I) (Jr : zk_J) : Prop :=
  ∃ (x : Value) (I' : zk_I) (J' : zk_J) (Ir' : zk_I) (Jr' : zk_J), (∀ X, zk_M 0 X yc bc mc ret dc (.ref (zk_ad X 0) :: as) I J (some x) I' J') ∧ (∀ X, zk_M 1 X yr br mr ret dr (.ref (zk_ad X 0) :: as) Ir Jr (some x) Ir' Jr') ∧ sm_k ret x = true ∧ Sim I' J' Ir' Jr'
section SM
variable {I : zk_I} {J : zk_J} {Ir : zk_I} {Jr : zk_J}
theorem sm_add (h : Sim I J Ir Jr) (r n : Int32) (w : Int64) : sm_op yX4_add cX4_add 6 (2, 45) yX5_add cX5_add 6 (2, 42) (some .int) [.int r, .int n, .long w] I J Ir Jr := by
  sorry
theorem sm_clear (h : Sim I J Ir Jr) (r : Int32) : sm_op yX4_clear cX4_clear 4 (2, 41) yX5_clear cX5_clear 3 (2, 42) (some .int) [.int r] I J Ir Jr := by
  sorry
theorem sm_size (h : Sim I J Ir Jr) (r : Int32) : sm_op yX4_size cX4_size 2 (2, 41) yX5_size cX5_size 2 (2, 42) (some .int) [.int r] I J Ir Jr := by
  sorry
theorem sm_at (h : Sim I J Ir Jr) (r i : Int32) : sm_op yX4_at cX4_at 3 (2, 41) yX5_at cX5_at 3 (2, 42) (some .int) [.int r, .int i] I J Ir Jr := by
  sorry
theorem sm_told (h : Sim I J Ir Jr) (w : Int32) : sm_op yX4_told cX4_told 2 (1, 20) yX5_told cX5_told 2 (1, 22) (some .int) [.int w] I J Ir Jr := by
  sorry
theorem sm_word (h : Sim I J Ir Jr) (x y : Int32) : sm_op yX4_word cX4_word 3 (2, 43) yX5_word cX5_word 3 (1, 22) (some .long) [.int x, .int y] I J Ir Jr := by
  sorry
theorem sm_fill (h : Sim I J Ir Jr) (n : Int32) : sm_op yX4_fill cX4_fill 4 (5, 126) yX5_fill cX5_fill 2 (8, 201) (some .int) [.int n] I J Ir Jr := by
  sorry
theorem sm_hash (h : Sim I J Ir Jr) (t f k n : Int32) : sm_op yX4_hash cX4_hash 6 (5, 118) yX5_hash cX5_hash 6 (4, 102) (some .int) [.int t, .int f, .int k, .int n] I J Ir Jr := by
  sorry
theorem sm_longHash (h : Sim I J Ir Jr) (t f n : Int32) : sm_op yX4_longHash cX4_longHash 4 (5, 118) yX5_longHash cX5_longHash 4 (5, 125) (some .int) [.int t, .int f, .int n] I J Ir Jr := by
  sorry
theorem sm_tag (h : Sim I J Ir Jr) (t : Int32) : sm_op yX4_tag cX4_tag 2 (5, 118) yX5_tag cX5_tag 2 (6, 147) (some .int) [.int t] I J Ir Jr := by
  sorry
theorem sm_begin (h : Sim I J Ir Jr) (kd ln ps mm tg pw st sc dt : Int32) : sm_op yX4_begin cX4_begin 10 (6, 140) yX5_begin cX5_begin 13 (5, 125) (some .int) [.int kd, .int ln, .int ps, .int mm, .int tg, .int pw, .int st, .int sc, .int dt] I J Ir Jr := by
  sorry
theorem sm_seal (h : Sim I J Ir Jr) (t kd ln ps mm tg pw st : Int32) : sm_op yX4_seal cX4_seal 10 (7, 169) yX5_seal cX5_seal 9 (8, 201) (some .int) [.int t, .int kd, .int ln, .int ps, .int mm, .int tg, .int pw, .int st] I J Ir Jr := by
  sorry
end SM
def qx_n (x : Int32) : Nat := x.toBitVec.toNat
end
section
/-! THE START: both states are zero; array classes; static arrays -/
theorem sm_start : Sim (fun _ _ => 0) (fun _ _ => 0) (fun _ _ => 0) (fun _ _ => 0) := by
  refine ⟨fun r _ => ⟨0, Nat.zero_le _, nI_0.symm, nI_0.symm, qx_e0⟩, ⟨fun _ => 0, fun _ => 0, 0, 0, 0, 0, 0, 0, 0, 0, 0, 0, 0, 0, ?_, ?_, Or.inl ⟨rfl, rfl, rfl, rfl, rfl, rfl, rfl⟩⟩, ⟨fun _ _ _ _ => rfl, fun j _ => ?_⟩, nI_0.symm⟩
  · funext j
    unfold fl_g
    split <;> first | rfl | exact nI_0.symm
  · funext j
    unfold md_g
    split <;> first | rfl | exact nI_0.symm
  · show (0 : Int64) = lN 0
    decide +kernel
theorem lq_arr {args : Array Value} {s : State} {t : FieldType} (h : (Cond.arrayClass t).before args s = true) (ho : ∀ C, t ≠ .object C) : ∃ c : ClassId, ArrOfT s c t ∧ va_RA s c t := by
  obtain ⟨c, k, comp, h1, h2, h3⟩ := Cond.arrayClass_spec h
  refine ⟨c, fun n z => ⟨fun k h => (by cases h), k, h2, comp, h3⟩, ?_⟩
  cases t <;> first | exact h1 | exact absurd rfl (ho _)
theorem lq_arrO {args : Array Value} {s : State} {C : String} (h : (Cond.arrayOver (.object C)).before args s = true) : ∃ c : ClassId, ArrOfT s c (.object C) ∧ va_RA s c (.object C) := by
  obtain ⟨comp, c, k, h1, h2, h3, h4, h5⟩ := Cond.arrayOver_spec h
  exact ⟨c, fun n z => ⟨fun k h => (by cases h), k, h3, comp, h4⟩, k, comp, h3, h4, h1, h5⟩
theorem lq_stat {args : Array Value} {s : State} {C n d : String} {ty : FieldType} {N : Nat} {f : Nat → Value} (hN : N < 2 ^ 31) (hl : (Cond.laysStatic C n d).before args s = true) (hini : (Cond.initialized C).before args s = true) (harr : (Cond.arrayOf (.static C n d) ty).before args s = true) (hlen : (Cond.eq (.length (.static C n d)) (.int (Int32.ofNat N))).before args s = true) (hel : ∀ j : Nat, j < N → (Term.elem (.static C n d) (.int (Int32.ofNat j))).eval args s none [] s = some (f j)) : ∃ t : Nat, va_Z C n d (.ref t) (fun q => s.heap.size ≤ q) s s.heap ∧ va_T ty t N f (fun q => s.heap.size ≤ q) s s.heap := by
  obtain ⟨t, ht, hT⟩ := va_Tof (f := f) (A := fun q => s.heap.size ≤ q) hN harr (va_eqt hlen) hel (fun a h9 => Nat.not_le.mpr h9)
  exact ⟨t, va_Zof hl hini ht (fun a h9 => Nat.not_le.mpr h9), hT⟩
end
