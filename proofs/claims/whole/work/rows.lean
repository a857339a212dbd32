section
-- ===== PART A: goes FIRST, ahead of the names: the tables' words, and 'selects' of the private methods out of them =====
/-- a private method of a class that the tables say can be made, by its rows of tables_1 -/
def lw_okq (q : MethodName × Nat) : Prop := (q.1.cls ≠ "java/lang/invoke/MethodHandle" ∧ q.1.cls ≠ "java/lang/invoke/VarHandle") ∧ Cond.instantiable q.1.cls q.2 ∈ tables_1 ∧ Cond.privateMethod q.1 ∈ tables_1 ∧ Cond.instanceMethod q.1 ∈ tables_1
theorem lw_p0 : lw_okq (⟨"SlowSeal", "bytesOf", "(I)LSlowSeal$Bytes;"⟩, 5) := ⟨⟨by decide +kernel, by decide +kernel⟩, List.mem_of_getElem? (i := 9) (by decide +kernel), List.mem_of_getElem? (i := 159) (by decide +kernel), List.mem_of_getElem? (i := 160) (by decide +kernel)⟩
theorem lw_p1 : lw_okq (⟨"SlowSeal$Hasher", "digest", "(II)V"⟩, 5) := ⟨⟨by decide +kernel, by decide +kernel⟩, List.mem_of_getElem? (i := 37) (by decide +kernel), List.mem_of_getElem? (i := 214) (by decide +kernel), List.mem_of_getElem? (i := 215) (by decide +kernel)⟩
theorem lw_p2 : lw_okq (⟨"SlowSeal$Hasher", "loadPart", "(IZ)V"⟩, 5) := ⟨⟨by decide +kernel, by decide +kernel⟩, List.mem_of_getElem? (i := 37) (by decide +kernel), List.mem_of_getElem? (i := 222) (by decide +kernel), List.mem_of_getElem? (i := 223) (by decide +kernel)⟩
theorem lw_p3 : lw_okq (⟨"SlowSeal$Hasher", "mix", "(IJJ)V"⟩, 5) := ⟨⟨by decide +kernel, by decide +kernel⟩, List.mem_of_getElem? (i := 37) (by decide +kernel), List.mem_of_getElem? (i := 237) (by decide +kernel), List.mem_of_getElem? (i := 238) (by decide +kernel)⟩
theorem lw_p4 : lw_okq (⟨"SlowSeal$Hasher", "foldPart", "()V"⟩, 5) := ⟨⟨by decide +kernel, by decide +kernel⟩, List.mem_of_getElem? (i := 37) (by decide +kernel), List.mem_of_getElem? (i := 246) (by decide +kernel), List.mem_of_getElem? (i := 247) (by decide +kernel)⟩
theorem lw_p5 : lw_okq (⟨"SlowSeal$Hasher", "give", "(I)V"⟩, 5) := ⟨⟨by decide +kernel, by decide +kernel⟩, List.mem_of_getElem? (i := 37) (by decide +kernel), List.mem_of_getElem? (i := 250) (by decide +kernel), List.mem_of_getElem? (i := 251) (by decide +kernel)⟩
theorem lw_p6 : lw_okq (⟨"SlowSeal$Hasher", "takeStateAsMessage", "()V"⟩, 5) := ⟨⟨by decide +kernel, by decide +kernel⟩, List.mem_of_getElem? (i := 37) (by decide +kernel), List.mem_of_getElem? (i := 273) (by decide +kernel), List.mem_of_getElem? (i := 274) (by decide +kernel)⟩
theorem lw_p7 : lw_okq (⟨"SlowSeal", "putWithLength", "(I)V"⟩, 5) := ⟨⟨by decide +kernel, by decide +kernel⟩, List.mem_of_getElem? (i := 9) (by decide +kernel), List.mem_of_getElem? (i := 295) (by decide +kernel), List.mem_of_getElem? (i := 296) (by decide +kernel)⟩
theorem lw_p8 : lw_okq (⟨"SlowSeal", "layFirstBlocks", "()V"⟩, 5) := ⟨⟨by decide +kernel, by decide +kernel⟩, List.mem_of_getElem? (i := 9) (by decide +kernel), List.mem_of_getElem? (i := 299) (by decide +kernel), List.mem_of_getElem? (i := 300) (by decide +kernel)⟩
theorem lw_p9 : lw_okq (⟨"SlowSeal$Filling", "blockOf", "(I)[J"⟩, 14) := ⟨⟨by decide +kernel, by decide +kernel⟩, List.mem_of_getElem? (i := 64) (by decide +kernel), List.mem_of_getElem? (i := 307) (by decide +kernel), List.mem_of_getElem? (i := 308) (by decide +kernel)⟩
theorem lw_p10 : lw_okq (⟨"SlowSeal$Filling", "goesByAddress", "()Z"⟩, 14) := ⟨⟨by decide +kernel, by decide +kernel⟩, List.mem_of_getElem? (i := 64) (by decide +kernel), List.mem_of_getElem? (i := 334) (by decide +kernel), List.mem_of_getElem? (i := 335) (by decide +kernel)⟩
theorem lw_p11 : lw_okq (⟨"SlowSeal$Filling", "openAddress", "()V"⟩, 14) := ⟨⟨by decide +kernel, by decide +kernel⟩, List.mem_of_getElem? (i := 64) (by decide +kernel), List.mem_of_getElem? (i := 338) (by decide +kernel), List.mem_of_getElem? (i := 339) (by decide +kernel)⟩
theorem lw_p12 : lw_okq (⟨"SlowSeal$Joiner", "stir", "(II)V"⟩, 3) := ⟨⟨by decide +kernel, by decide +kernel⟩, List.mem_of_getElem? (i := 72) (by decide +kernel), List.mem_of_getElem? (i := 347) (by decide +kernel), List.mem_of_getElem? (i := 348) (by decide +kernel)⟩
theorem lw_p13 : lw_okq (⟨"SlowSeal$Joiner", "mixHard", "(I)V"⟩, 3) := ⟨⟨by decide +kernel, by decide +kernel⟩, List.mem_of_getElem? (i := 72) (by decide +kernel), List.mem_of_getElem? (i := 351) (by decide +kernel), List.mem_of_getElem? (i := 352) (by decide +kernel)⟩
theorem lw_p14 : lw_okq (⟨"SlowSeal$Filling", "isFirstSlice", "()Z"⟩, 14) := ⟨⟨by decide +kernel, by decide +kernel⟩, List.mem_of_getElem? (i := 64) (by decide +kernel), List.mem_of_getElem? (i := 362) (by decide +kernel), List.mem_of_getElem? (i := 363) (by decide +kernel)⟩
theorem lw_p15 : lw_okq (⟨"SlowSeal$Filling", "farBlock", "(IJ)I"⟩, 14) := ⟨⟨by decide +kernel, by decide +kernel⟩, List.mem_of_getElem? (i := 64) (by decide +kernel), List.mem_of_getElem? (i := 366) (by decide +kernel), List.mem_of_getElem? (i := 367) (by decide +kernel)⟩
def lw_privs_1 : List (MethodName × Nat) := [(⟨"SlowSeal", "bytesOf", "(I)LSlowSeal$Bytes;"⟩, 5), (⟨"SlowSeal$Hasher", "digest", "(II)V"⟩, 5), (⟨"SlowSeal$Hasher", "loadPart", "(IZ)V"⟩, 5), (⟨"SlowSeal$Hasher", "mix", "(IJJ)V"⟩, 5), (⟨"SlowSeal$Hasher", "foldPart", "()V"⟩, 5), (⟨"SlowSeal$Hasher", "give", "(I)V"⟩, 5), (⟨"SlowSeal$Hasher", "takeStateAsMessage", "()V"⟩, 5), (⟨"SlowSeal", "putWithLength", "(I)V"⟩, 5), (⟨"SlowSeal", "layFirstBlocks", "()V"⟩, 5), (⟨"SlowSeal$Filling", "blockOf", "(I)[J"⟩, 14), (⟨"SlowSeal$Filling", "goesByAddress", "()Z"⟩, 14), (⟨"SlowSeal$Filling", "openAddress", "()V"⟩, 14), (⟨"SlowSeal$Joiner", "stir", "(II)V"⟩, 3), (⟨"SlowSeal$Joiner", "mixHard", "(I)V"⟩, 3), (⟨"SlowSeal$Filling", "isFirstSlice", "()Z"⟩, 14), (⟨"SlowSeal$Filling", "farBlock", "(IJ)I"⟩, 14)]
theorem lw_r1 : ∀ q ∈ lw_privs_1, lw_okq q := List.forall_mem_cons.mpr ⟨lw_p0, List.forall_mem_cons.mpr ⟨lw_p1, List.forall_mem_cons.mpr ⟨lw_p2, List.forall_mem_cons.mpr ⟨lw_p3, List.forall_mem_cons.mpr ⟨lw_p4, List.forall_mem_cons.mpr ⟨lw_p5, List.forall_mem_cons.mpr ⟨lw_p6, List.forall_mem_cons.mpr ⟨lw_p7, List.forall_mem_cons.mpr ⟨lw_p8, List.forall_mem_cons.mpr ⟨lw_p9, List.forall_mem_cons.mpr ⟨lw_p10, List.forall_mem_cons.mpr ⟨lw_p11, List.forall_mem_cons.mpr ⟨lw_p12, List.forall_mem_cons.mpr ⟨lw_p13, List.forall_mem_cons.mpr ⟨lw_p14, List.forall_mem_cons.mpr ⟨lw_p15, fun _ h => absurd h List.not_mem_nil⟩⟩⟩⟩⟩⟩⟩⟩⟩⟩⟩⟩⟩⟩⟩⟩
theorem lw_p16 : lw_okq (⟨"SlowSealModel", "putRegister", "(I)V"⟩, 23) := ⟨⟨by decide +kernel, by decide +kernel⟩, List.mem_of_getElem? (i := 399) (by decide +kernel), List.mem_of_getElem? (i := 503) (by decide +kernel), List.mem_of_getElem? (i := 504) (by decide +kernel)⟩
theorem lw_p17 : lw_okq (⟨"SlowSealModel", "hashTo", "(II)V"⟩, 23) := ⟨⟨by decide +kernel, by decide +kernel⟩, List.mem_of_getElem? (i := 399) (by decide +kernel), List.mem_of_getElem? (i := 507) (by decide +kernel), List.mem_of_getElem? (i := 508) (by decide +kernel)⟩
theorem lw_p18 : lw_okq (⟨"SlowSealModel", "part", "(IIZ)V"⟩, 23) := ⟨⟨by decide +kernel, by decide +kernel⟩, List.mem_of_getElem? (i := 399) (by decide +kernel), List.mem_of_getElem? (i := 524) (by decide +kernel), List.mem_of_getElem? (i := 525) (by decide +kernel)⟩
theorem lw_p19 : lw_okq (⟨"SlowSealModel", "byteAt", "(I)I"⟩, 23) := ⟨⟨by decide +kernel, by decide +kernel⟩, List.mem_of_getElem? (i := 399) (by decide +kernel), List.mem_of_getElem? (i := 528) (by decide +kernel), List.mem_of_getElem? (i := 529) (by decide +kernel)⟩
theorem lw_p20 : lw_okq (⟨"SlowSealModel", "picked", "(JI)J"⟩, 23) := ⟨⟨by decide +kernel, by decide +kernel⟩, List.mem_of_getElem? (i := 399) (by decide +kernel), List.mem_of_getElem? (i := 546) (by decide +kernel), List.mem_of_getElem? (i := 547) (by decide +kernel)⟩
theorem lw_p21 : lw_okq (⟨"SlowSealModel", "mix", "(IIIIJJ)V"⟩, 23) := ⟨⟨by decide +kernel, by decide +kernel⟩, List.mem_of_getElem? (i := 399) (by decide +kernel), List.mem_of_getElem? (i := 551) (by decide +kernel), List.mem_of_getElem? (i := 552) (by decide +kernel)⟩
theorem lw_p22 : lw_okq (⟨"SlowSealModel", "give", "(II)V"⟩, 23) := ⟨⟨by decide +kernel, by decide +kernel⟩, List.mem_of_getElem? (i := 399) (by decide +kernel), List.mem_of_getElem? (i := 558) (by decide +kernel), List.mem_of_getElem? (i := 559) (by decide +kernel)⟩
theorem lw_p23 : lw_okq (⟨"SlowSealModel", "longTo", "(I)V"⟩, 23) := ⟨⟨by decide +kernel, by decide +kernel⟩, List.mem_of_getElem? (i := 399) (by decide +kernel), List.mem_of_getElem? (i := 566) (by decide +kernel), List.mem_of_getElem? (i := 567) (by decide +kernel)⟩
theorem lw_p24 : lw_okq (⟨"SlowSealModel", "put", "(IJ)V"⟩, 23) := ⟨⟨by decide +kernel, by decide +kernel⟩, List.mem_of_getElem? (i := 399) (by decide +kernel), List.mem_of_getElem? (i := 570) (by decide +kernel), List.mem_of_getElem? (i := 571) (by decide +kernel)⟩
theorem lw_p25 : lw_okq (⟨"SlowSealModel", "putOwn", "(I)V"⟩, 23) := ⟨⟨by decide +kernel, by decide +kernel⟩, List.mem_of_getElem? (i := 399) (by decide +kernel), List.mem_of_getElem? (i := 582) (by decide +kernel), List.mem_of_getElem? (i := 583) (by decide +kernel)⟩
theorem lw_p26 : lw_okq (⟨"SlowSealModel", "fillSome", "(I)I"⟩, 23) := ⟨⟨by decide +kernel, by decide +kernel⟩, List.mem_of_getElem? (i := 399) (by decide +kernel), List.mem_of_getElem? (i := 590) (by decide +kernel), List.mem_of_getElem? (i := 591) (by decide +kernel)⟩
theorem lw_p27 : lw_okq (⟨"SlowSealModel", "segment", "(III)V"⟩, 23) := ⟨⟨by decide +kernel, by decide +kernel⟩, List.mem_of_getElem? (i := 399) (by decide +kernel), List.mem_of_getElem? (i := 594) (by decide +kernel), List.mem_of_getElem? (i := 595) (by decide +kernel)⟩
theorem lw_p28 : lw_okq (⟨"SlowSealModel", "makeAddress", "(IIII)V"⟩, 23) := ⟨⟨by decide +kernel, by decide +kernel⟩, List.mem_of_getElem? (i := 399) (by decide +kernel), List.mem_of_getElem? (i := 598) (by decide +kernel), List.mem_of_getElem? (i := 599) (by decide +kernel)⟩
theorem lw_p29 : lw_okq (⟨"SlowSealModel", "join", "()V"⟩, 23) := ⟨⟨by decide +kernel, by decide +kernel⟩, List.mem_of_getElem? (i := 399) (by decide +kernel), List.mem_of_getElem? (i := 603) (by decide +kernel), List.mem_of_getElem? (i := 604) (by decide +kernel)⟩
theorem lw_p30 : lw_okq (⟨"SlowSealModel", "stir", "(IZ)V"⟩, 23) := ⟨⟨by decide +kernel, by decide +kernel⟩, List.mem_of_getElem? (i := 399) (by decide +kernel), List.mem_of_getElem? (i := 607) (by decide +kernel), List.mem_of_getElem? (i := 608) (by decide +kernel)⟩
theorem lw_p31 : lw_okq (⟨"SlowSealModel", "quarter", "(IZIIII)V"⟩, 23) := ⟨⟨by decide +kernel, by decide +kernel⟩, List.mem_of_getElem? (i := 399) (by decide +kernel), List.mem_of_getElem? (i := 611) (by decide +kernel), List.mem_of_getElem? (i := 612) (by decide +kernel)⟩
def lw_privs_2 : List (MethodName × Nat) := [(⟨"SlowSealModel", "putRegister", "(I)V"⟩, 23), (⟨"SlowSealModel", "hashTo", "(II)V"⟩, 23), (⟨"SlowSealModel", "part", "(IIZ)V"⟩, 23), (⟨"SlowSealModel", "byteAt", "(I)I"⟩, 23), (⟨"SlowSealModel", "picked", "(JI)J"⟩, 23), (⟨"SlowSealModel", "mix", "(IIIIJJ)V"⟩, 23), (⟨"SlowSealModel", "give", "(II)V"⟩, 23), (⟨"SlowSealModel", "longTo", "(I)V"⟩, 23), (⟨"SlowSealModel", "put", "(IJ)V"⟩, 23), (⟨"SlowSealModel", "putOwn", "(I)V"⟩, 23), (⟨"SlowSealModel", "fillSome", "(I)I"⟩, 23), (⟨"SlowSealModel", "segment", "(III)V"⟩, 23), (⟨"SlowSealModel", "makeAddress", "(IIII)V"⟩, 23), (⟨"SlowSealModel", "join", "()V"⟩, 23), (⟨"SlowSealModel", "stir", "(IZ)V"⟩, 23), (⟨"SlowSealModel", "quarter", "(IZIIII)V"⟩, 23)]
theorem lw_r2 : ∀ q ∈ lw_privs_2, lw_okq q := List.forall_mem_cons.mpr ⟨lw_p16, List.forall_mem_cons.mpr ⟨lw_p17, List.forall_mem_cons.mpr ⟨lw_p18, List.forall_mem_cons.mpr ⟨lw_p19, List.forall_mem_cons.mpr ⟨lw_p20, List.forall_mem_cons.mpr ⟨lw_p21, List.forall_mem_cons.mpr ⟨lw_p22, List.forall_mem_cons.mpr ⟨lw_p23, List.forall_mem_cons.mpr ⟨lw_p24, List.forall_mem_cons.mpr ⟨lw_p25, List.forall_mem_cons.mpr ⟨lw_p26, List.forall_mem_cons.mpr ⟨lw_p27, List.forall_mem_cons.mpr ⟨lw_p28, List.forall_mem_cons.mpr ⟨lw_p29, List.forall_mem_cons.mpr ⟨lw_p30, List.forall_mem_cons.mpr ⟨lw_p31, fun _ h => absurd h List.not_mem_nil⟩⟩⟩⟩⟩⟩⟩⟩⟩⟩⟩⟩⟩⟩⟩⟩
theorem lw_p32 : lw_okq (⟨"SlowSealModel", "hard", "(IIII)V"⟩, 23) := ⟨⟨by decide +kernel, by decide +kernel⟩, List.mem_of_getElem? (i := 399) (by decide +kernel), List.mem_of_getElem? (i := 618) (by decide +kernel), List.mem_of_getElem? (i := 619) (by decide +kernel)⟩
theorem lw_p33 : lw_okq (⟨"SlowSealModel", "farBlock", "(IIIIJ)I"⟩, 23) := ⟨⟨by decide +kernel, by decide +kernel⟩, List.mem_of_getElem? (i := 399) (by decide +kernel), List.mem_of_getElem? (i := 627) (by decide +kernel), List.mem_of_getElem? (i := 628) (by decide +kernel)⟩
theorem lw_p34 : lw_okq (⟨"SlowSealModel", "makeTag", "()V"⟩, 23) := ⟨⟨by decide +kernel, by decide +kernel⟩, List.mem_of_getElem? (i := 399) (by decide +kernel), List.mem_of_getElem? (i := 639) (by decide +kernel), List.mem_of_getElem? (i := 640) (by decide +kernel)⟩
def lw_privs_3 : List (MethodName × Nat) := [(⟨"SlowSealModel", "hard", "(IIII)V"⟩, 23), (⟨"SlowSealModel", "farBlock", "(IIIIJ)I"⟩, 23), (⟨"SlowSealModel", "makeTag", "()V"⟩, 23)]
theorem lw_r3 : ∀ q ∈ lw_privs_3, lw_okq q := List.forall_mem_cons.mpr ⟨lw_p32, List.forall_mem_cons.mpr ⟨lw_p33, List.forall_mem_cons.mpr ⟨lw_p34, fun _ h => absurd h List.not_mem_nil⟩⟩⟩
def lw_privs : List (MethodName × Nat) := lw_privs_1 ++ (lw_privs_2 ++ (lw_privs_3))
def lw_tbl : List Cond := k2_sels lw_privs ++ tables_1
theorem lw_privs_ok : ∀ q ∈ lw_privs, lw_okq q := by
  show ∀ q ∈ lw_privs_1 ++ (lw_privs_2 ++ (lw_privs_3)), lw_okq q
  exact List.forall_mem_append.mpr ⟨lw_r1, List.forall_mem_append.mpr ⟨lw_r2, lw_r3⟩⟩
end
section
/-! ===== BEGIN printed: names, fields, word lists, decode rows ===== -/
def RX0 : String := "SlowSeal$Bytes"
def TX0 : u_T := fun k => match k with
  | 0 => ("SlowSeal$Bytes", "bytes", "[B", true)
  | _ => ("SlowSeal$Bytes", "count", "I", false)
def tyX0 : Nat → FieldType := fun k => match k with
  | 0 => .array .byte
  | _ => .int
abbrev wsX00 : List Cond := u_ws RX0 TX0 2
theorem nmX0 : ∀ a, a < 2 → ∀ b, b < 2 → a ≠ b → (TX0 a).2.1 ≠ (TX0 b).2.1 := by decide +kernel
theorem tyX0_ok : ∀ k, k < 2 → parseFieldDescriptor (TX0 k).2.2.1 = some (tyX0 k) := by decide +kernel
abbrev cX0_init : ByteArray := prog_2_method_1_code
def yX0_init : MethodName := ⟨RX0, "<init>", "(I)V"⟩
abbrev cX0_empty : ByteArray := prog_2_method_2_code
def yX0_empty : MethodName := ⟨RX0, "empty", "()V"⟩
abbrev cX0_byteAt : ByteArray := prog_2_method_3_code
def yX0_byteAt : MethodName := ⟨RX0, "byteAt", "(I)I"⟩
abbrev cX0_wordAt : ByteArray := prog_2_method_4_code
def yX0_wordAt : MethodName := ⟨RX0, "wordAt", "(I)J"⟩
abbrev cX0_put : ByteArray := prog_2_method_5_code
def yX0_put : MethodName := ⟨RX0, "put", "(I)V"⟩
abbrev cX0_putNumber : ByteArray := prog_2_method_6_code
def yX0_putNumber : MethodName := ⟨RX0, "putNumber", "(JI)V"⟩
abbrev cX0_putAll : ByteArray := prog_2_method_7_code
def yX0_putAll : MethodName := ⟨RX0, "putAll", "(LSlowSeal$Bytes;)V"⟩
abbrev cX0_become : ByteArray := prog_2_method_8_code
def yX0_become : MethodName := ⟨RX0, "become", "(LSlowSeal$Bytes;)V"⟩
def RX1 : String := "SlowSeal$Filling"
def TX1 : u_T := fun k => match k with
  | 0 => ("SlowSeal$Filling", "memory", "[[J", true)
  | 1 => ("SlowSeal$Filling", "zeros", "[J", true)
  | 2 => ("SlowSeal$Filling", "address", "[J", true)
  | 3 => ("SlowSeal$Filling", "joiner", "LSlowSeal$Joiner;", true)
  | 4 => ("SlowSeal$Filling", "kind", "I", false)
  | 5 => ("SlowSeal$Filling", "lanes", "I", false)
  | 6 => ("SlowSeal$Filling", "passes", "I", false)
  | 7 => ("SlowSeal$Filling", "tagBytes", "I", false)
  | 8 => ("SlowSeal$Filling", "laneBlocks", "I", false)
  | 9 => ("SlowSeal$Filling", "sliceBlocks", "I", false)
  | 10 => ("SlowSeal$Filling", "done", "I", false)
  | 11 => ("SlowSeal$Filling", "pass", "I", false)
  | 12 => ("SlowSeal$Filling", "slice", "I", false)
  | _ => ("SlowSeal$Filling", "lane", "I", false)
def tyX1 : Nat → FieldType := fun k => match k with
  | 0 => .array (.array .long)
  | 1 => .array .long
  | 2 => .array .long
  | 3 => .object "SlowSeal$Joiner"
  | 4 => .int
  | 5 => .int
  | 6 => .int
  | 7 => .int
  | 8 => .int
  | 9 => .int
  | 10 => .int
  | 11 => .int
  | 12 => .int
  | _ => .int
abbrev wsX10 : List Cond := u_ws RX1 TX1 14
theorem nmX1 : ∀ a, a < 14 → ∀ b, b < 14 → a ≠ b → (TX1 a).2.1 ≠ (TX1 b).2.1 := by decide +kernel
theorem tyX1_ok : ∀ k, k < 14 → parseFieldDescriptor (TX1 k).2.2.1 = some (tyX1 k) := by decide +kernel
abbrev cX1_init : ByteArray := prog_3_method_1_code
def yX1_init : MethodName := ⟨RX1, "<init>", "()V"⟩
abbrev cX1_isPossible : ByteArray := prog_3_method_2_code
def yX1_isPossible : MethodName := ⟨RX1, "isPossible", "(IIIII)Z"⟩
abbrev cX1_restart : ByteArray := prog_3_method_3_code
def yX1_restart : MethodName := ⟨RX1, "restart", "(IIIII)V"⟩
abbrev cX1_putSettings : ByteArray := prog_3_method_4_code
def yX1_putSettings : MethodName := ⟨RX1, "putSettings", "(LSlowSeal$Bytes;I)V"⟩
abbrev cX1_isBegun : ByteArray := prog_3_method_5_code
def yX1_isBegun : MethodName := ⟨RX1, "isBegun", "()Z"⟩
abbrev cX1_blocks : ByteArray := prog_3_method_6_code
def yX1_blocks : MethodName := ⟨RX1, "blocks", "()I"⟩
abbrev cX1_segments : ByteArray := prog_3_method_7_code
def yX1_segments : MethodName := ⟨RX1, "segments", "()I"⟩
abbrev cX1_wordOf : ByteArray := prog_3_method_8_code
def yX1_wordOf : MethodName := ⟨RX1, "wordOf", "(II)J"⟩
abbrev cX1_lay : ByteArray := prog_3_method_9_code
def yX1_lay : MethodName := ⟨RX1, "lay", "(IILSlowSeal$Bytes;)V"⟩
abbrev cX1_putLastBlocks : ByteArray := prog_3_method_10_code
def yX1_putLastBlocks : MethodName := ⟨RX1, "putLastBlocks", "(LSlowSeal$Bytes;)V"⟩
abbrev cX1_doSegment : ByteArray := prog_3_method_11_code
def yX1_doSegment : MethodName := ⟨RX1, "doSegment", "()V"⟩
abbrev cX1_isFirstSlice : ByteArray := prog_3_method_12_code
def yX1_isFirstSlice : MethodName := ⟨RX1, "isFirstSlice", "()Z"⟩
abbrev cX1_goesByAddress : ByteArray := prog_3_method_13_code
def yX1_goesByAddress : MethodName := ⟨RX1, "goesByAddress", "()Z"⟩
abbrev cX1_openAddress : ByteArray := prog_3_method_14_code
def yX1_openAddress : MethodName := ⟨RX1, "openAddress", "()V"⟩
abbrev cX1_farBlock : ByteArray := prog_3_method_15_code
def yX1_farBlock : MethodName := ⟨RX1, "farBlock", "(IJ)I"⟩
abbrev cX1_blockOf : ByteArray := prog_3_method_16_code
def yX1_blockOf : MethodName := ⟨RX1, "blockOf", "(I)[J"⟩
def RX2 : String := "SlowSeal$Hasher"
def TX2 : u_T := fun k => match k with
  | 0 => ("SlowSeal$Hasher", "message", "LSlowSeal$Bytes;", true)
  | 1 => ("SlowSeal$Hasher", "made", "LSlowSeal$Bytes;", true)
  | 2 => ("SlowSeal$Hasher", "h", "[J", true)
  | 3 => ("SlowSeal$Hasher", "v", "[J", true)
  | _ => ("SlowSeal$Hasher", "w", "[J", true)
def tyX2 : Nat → FieldType := fun k => match k with
  | 0 => .object "SlowSeal$Bytes"
  | 1 => .object "SlowSeal$Bytes"
  | 2 => .array .long
  | 3 => .array .long
  | _ => .array .long
abbrev wsX20 : List Cond := u_ws RX2 TX2 5
theorem nmX2 : ∀ a, a < 5 → ∀ b, b < 5 → a ≠ b → (TX2 a).2.1 ≠ (TX2 b).2.1 := by decide +kernel
theorem tyX2_ok : ∀ k, k < 5 → parseFieldDescriptor (TX2 k).2.2.1 = some (tyX2 k) := by decide +kernel
abbrev cX2_init : ByteArray := prog_4_method_1_code
def yX2_init : MethodName := ⟨RX2, "<init>", "()V"⟩
abbrev cX2_openWithKey : ByteArray := prog_4_method_2_code
def yX2_openWithKey : MethodName := ⟨RX2, "openWithKey", "(LSlowSeal$Bytes;)V"⟩
abbrev cX2_openLong : ByteArray := prog_4_method_3_code
def yX2_openLong : MethodName := ⟨RX2, "openLong", "(I)V"⟩
abbrev cX2_makeShort : ByteArray := prog_4_method_4_code
def yX2_makeShort : MethodName := ⟨RX2, "makeShort", "(II)V"⟩
abbrev cX2_makeLong : ByteArray := prog_4_method_5_code
def yX2_makeLong : MethodName := ⟨RX2, "makeLong", "(I)V"⟩
abbrev cX2_takeStateAsMessage : ByteArray := prog_4_method_6_code
def yX2_takeStateAsMessage : MethodName := ⟨RX2, "takeStateAsMessage", "()V"⟩
abbrev cX2_give : ByteArray := prog_4_method_7_code
def yX2_give : MethodName := ⟨RX2, "give", "(I)V"⟩
abbrev cX2_digest : ByteArray := prog_4_method_8_code
def yX2_digest : MethodName := ⟨RX2, "digest", "(II)V"⟩
abbrev cX2_loadPart : ByteArray := prog_4_method_9_code
def yX2_loadPart : MethodName := ⟨RX2, "loadPart", "(IZ)V"⟩
abbrev cX2_foldPart : ByteArray := prog_4_method_10_code
def yX2_foldPart : MethodName := ⟨RX2, "foldPart", "()V"⟩
abbrev cX2_mix : ByteArray := prog_4_method_11_code
def yX2_mix : MethodName := ⟨RX2, "mix", "(IJJ)V"⟩
def RX3 : String := "SlowSeal$Joiner"
def TX3 : u_T := fun k => match k with
  | 0 => ("SlowSeal$Joiner", "sum", "[J", true)
  | 1 => ("SlowSeal$Joiner", "z", "[J", true)
  | _ => ("SlowSeal$Joiner", "v", "[J", true)
def tyX3 : Nat → FieldType := fun k => match k with
  | 0 => .array .long
  | 1 => .array .long
  | _ => .array .long
abbrev wsX30 : List Cond := u_ws RX3 TX3 3
theorem nmX3 : ∀ a, a < 3 → ∀ b, b < 3 → a ≠ b → (TX3 a).2.1 ≠ (TX3 b).2.1 := by decide +kernel
theorem tyX3_ok : ∀ k, k < 3 → parseFieldDescriptor (TX3 k).2.2.1 = some (tyX3 k) := by decide +kernel
abbrev cX3_init : ByteArray := prog_5_method_1_code
def yX3_init : MethodName := ⟨RX3, "<init>", "()V"⟩
abbrev cX3_join : ByteArray := prog_5_method_2_code
def yX3_join : MethodName := ⟨RX3, "join", "([J[J[JZ)V"⟩
abbrev cX3_stir : ByteArray := prog_5_method_3_code
def yX3_stir : MethodName := ⟨RX3, "stir", "(II)V"⟩
abbrev cX3_mixHard : ByteArray := prog_5_method_4_code
def yX3_mixHard : MethodName := ⟨RX3, "mixHard", "(I)V"⟩
abbrev cX3_sumHard : ByteArray := prog_5_method_5_code
def yX3_sumHard : MethodName := ⟨RX3, "sumHard", "(JJ)J"⟩
def RX4 : String := "SlowSeal"
def TX4 : u_T := fun k => match k with
  | 0 => ("SlowSeal", "registers", "[LSlowSeal$Bytes;", true)
  | 1 => ("SlowSeal", "nothing", "LSlowSeal$Bytes;", true)
  | 2 => ("SlowSeal", "opening", "LSlowSeal$Bytes;", true)
  | 3 => ("SlowSeal", "hasher", "LSlowSeal$Hasher;", true)
  | _ => ("SlowSeal", "filling", "LSlowSeal$Filling;", true)
def tyX4 : Nat → FieldType := fun k => match k with
  | 0 => .array (.object "SlowSeal$Bytes")
  | 1 => .object "SlowSeal$Bytes"
  | 2 => .object "SlowSeal$Bytes"
  | 3 => .object "SlowSeal$Hasher"
  | _ => .object "SlowSeal$Filling"
abbrev wsX40 : List Cond := u_ws RX4 TX4 5
theorem nmX4 : ∀ a, a < 5 → ∀ b, b < 5 → a ≠ b → (TX4 a).2.1 ≠ (TX4 b).2.1 := by decide +kernel
theorem tyX4_ok : ∀ k, k < 5 → parseFieldDescriptor (TX4 k).2.2.1 = some (tyX4 k) := by decide +kernel
abbrev cX4_init : ByteArray := prog_1_method_1_code
def yX4_init : MethodName := ⟨RX4, "<init>", "()V"⟩
abbrev cX4_add : ByteArray := prog_1_method_2_code
def yX4_add : MethodName := ⟨RX4, "add", "(IIJ)I"⟩
abbrev cX4_clear : ByteArray := prog_1_method_3_code
def yX4_clear : MethodName := ⟨RX4, "clear", "(I)I"⟩
abbrev cX4_size : ByteArray := prog_1_method_4_code
def yX4_size : MethodName := ⟨RX4, "size", "(I)I"⟩
abbrev cX4_at : ByteArray := prog_1_method_5_code
def yX4_at : MethodName := ⟨RX4, "at", "(II)I"⟩
abbrev cX4_hash : ByteArray := prog_1_method_6_code
def yX4_hash : MethodName := ⟨RX4, "hash", "(IIII)I"⟩
abbrev cX4_longHash : ByteArray := prog_1_method_7_code
def yX4_longHash : MethodName := ⟨RX4, "longHash", "(III)I"⟩
abbrev cX4_begin : ByteArray := prog_1_method_8_code
def yX4_begin : MethodName := ⟨RX4, "begin", "(IIIIIIIII)I"⟩
abbrev cX4_fill : ByteArray := prog_1_method_9_code
def yX4_fill : MethodName := ⟨RX4, "fill", "(I)I"⟩
abbrev cX4_word : ByteArray := prog_1_method_10_code
def yX4_word : MethodName := ⟨RX4, "word", "(II)J"⟩
abbrev cX4_tag : ByteArray := prog_1_method_11_code
def yX4_tag : MethodName := ⟨RX4, "tag", "(I)I"⟩
abbrev cX4_told : ByteArray := prog_1_method_12_code
def yX4_told : MethodName := ⟨RX4, "told", "(I)I"⟩
abbrev cX4_seal : ByteArray := prog_1_method_13_code
def yX4_seal : MethodName := ⟨RX4, "seal", "(IIIIIIII)I"⟩
abbrev cX4_isRegister : ByteArray := prog_1_method_14_code
def yX4_isRegister : MethodName := ⟨RX4, "isRegister", "(I)Z"⟩
abbrev cX4_isRegisterOrNone : ByteArray := prog_1_method_15_code
def yX4_isRegisterOrNone : MethodName := ⟨RX4, "isRegisterOrNone", "(I)Z"⟩
abbrev cX4_bytesOf : ByteArray := prog_1_method_16_code
def yX4_bytesOf : MethodName := ⟨RX4, "bytesOf", "(I)LSlowSeal$Bytes;"⟩
abbrev cX4_putWithLength : ByteArray := prog_1_method_17_code
def yX4_putWithLength : MethodName := ⟨RX4, "putWithLength", "(I)V"⟩
abbrev cX4_layFirstBlocks : ByteArray := prog_1_method_18_code
def yX4_layFirstBlocks : MethodName := ⟨RX4, "layFirstBlocks", "()V"⟩
abbrev cX4_turnRight : ByteArray := prog_1_method_19_code
def yX4_turnRight : MethodName := ⟨RX4, "turnRight", "(JI)J"⟩
def RX5 : String := "SlowSealModel"
def TX5 : u_T := fun k => match k with
  | 0 => ("SlowSealModel", "thrown", "I", false)
  | 1 => ("SlowSealModel", "sizes", "[I", true)
  | 2 => ("SlowSealModel", "bytes", "[I", true)
  | 3 => ("SlowSealModel", "keySize", "I", false)
  | 4 => ("SlowSealModel", "key", "[I", true)
  | 5 => ("SlowSealModel", "size", "I", false)
  | 6 => ("SlowSealModel", "message", "[I", true)
  | 7 => ("SlowSealModel", "h", "[J", true)
  | 8 => ("SlowSealModel", "v", "[J", true)
  | 9 => ("SlowSealModel", "w", "[J", true)
  | 10 => ("SlowSealModel", "out", "[I", true)
  | 11 => ("SlowSealModel", "begun", "Z", false)
  | 12 => ("SlowSealModel", "kind", "I", false)
  | 13 => ("SlowSealModel", "lanes", "I", false)
  | 14 => ("SlowSealModel", "passes", "I", false)
  | 15 => ("SlowSealModel", "tag", "I", false)
  | 16 => ("SlowSealModel", "slice", "I", false)
  | 17 => ("SlowSealModel", "done", "I", false)
  | 18 => ("SlowSealModel", "memory", "[J", true)
  | 19 => ("SlowSealModel", "near", "[J", true)
  | 20 => ("SlowSealModel", "far", "[J", true)
  | 21 => ("SlowSealModel", "mixed", "[J", true)
  | _ => ("SlowSealModel", "address", "[J", true)
def tyX5 : Nat → FieldType := fun k => match k with
  | 0 => .int
  | 1 => .array .int
  | 2 => .array .int
  | 3 => .int
  | 4 => .array .int
  | 5 => .int
  | 6 => .array .int
  | 7 => .array .long
  | 8 => .array .long
  | 9 => .array .long
  | 10 => .array .int
  | 11 => .boolean
  | 12 => .int
  | 13 => .int
  | 14 => .int
  | 15 => .int
  | 16 => .int
  | 17 => .int
  | 18 => .array .long
  | 19 => .array .long
  | 20 => .array .long
  | 21 => .array .long
  | _ => .array .long
abbrev wsX50 : List Cond := u_ws RX5 TX5 23
theorem nmX5 : ∀ a, a < 23 → ∀ b, b < 23 → a ≠ b → (TX5 a).2.1 ≠ (TX5 b).2.1 := by decide +kernel
theorem tyX5_ok : ∀ k, k < 23 → parseFieldDescriptor (TX5 k).2.2.1 = some (tyX5 k) := by decide +kernel
abbrev cX5_init : ByteArray := prog_7_method_1_code
def yX5_init : MethodName := ⟨RX5, "<init>", "()V"⟩
abbrev cX5_in : ByteArray := prog_7_method_3_code
def yX5_in : MethodName := ⟨RX5, "in", "(III)Z"⟩
abbrev cX5_isRegister : ByteArray := prog_7_method_4_code
def yX5_isRegister : MethodName := ⟨RX5, "isRegister", "(I)Z"⟩
abbrev cX5_add : ByteArray := prog_7_method_5_code
def yX5_add : MethodName := ⟨RX5, "add", "(IIJ)I"⟩
abbrev cX5_clear : ByteArray := prog_7_method_6_code
def yX5_clear : MethodName := ⟨RX5, "clear", "(I)I"⟩
abbrev cX5_size : ByteArray := prog_7_method_7_code
def yX5_size : MethodName := ⟨RX5, "size", "(I)I"⟩
abbrev cX5_at : ByteArray := prog_7_method_8_code
def yX5_at : MethodName := ⟨RX5, "at", "(II)I"⟩
abbrev cX5_give : ByteArray := prog_7_method_9_code
def yX5_give : MethodName := ⟨RX5, "give", "(II)V"⟩
abbrev cX5_start : ByteArray := prog_7_method_10_code
def yX5_start : MethodName := ⟨RX5, "start", "(I)J"⟩
abbrev cX5_order : ByteArray := prog_7_method_11_code
def yX5_order : MethodName := ⟨RX5, "order", "(I)J"⟩
abbrev cX5_turned : ByteArray := prog_7_method_12_code
def yX5_turned : MethodName := ⟨RX5, "turned", "(JI)J"⟩
abbrev cX5_mix : ByteArray := prog_7_method_13_code
def yX5_mix : MethodName := ⟨RX5, "mix", "(IIIIJJ)V"⟩
abbrev cX5_picked : ByteArray := prog_7_method_14_code
def yX5_picked : MethodName := ⟨RX5, "picked", "(JI)J"⟩
abbrev cX5_byteAt : ByteArray := prog_7_method_15_code
def yX5_byteAt : MethodName := ⟨RX5, "byteAt", "(I)I"⟩
abbrev cX5_part : ByteArray := prog_7_method_16_code
def yX5_part : MethodName := ⟨RX5, "part", "(IIZ)V"⟩
abbrev cX5_hashTo : ByteArray := prog_7_method_17_code
def yX5_hashTo : MethodName := ⟨RX5, "hashTo", "(II)V"⟩
abbrev cX5_put : ByteArray := prog_7_method_18_code
def yX5_put : MethodName := ⟨RX5, "put", "(IJ)V"⟩
abbrev cX5_putRegister : ByteArray := prog_7_method_19_code
def yX5_putRegister : MethodName := ⟨RX5, "putRegister", "(I)V"⟩
abbrev cX5_longTo : ByteArray := prog_7_method_20_code
def yX5_longTo : MethodName := ⟨RX5, "longTo", "(I)V"⟩
abbrev cX5_hash : ByteArray := prog_7_method_21_code
def yX5_hash : MethodName := ⟨RX5, "hash", "(IIII)I"⟩
abbrev cX5_longHash : ByteArray := prog_7_method_22_code
def yX5_longHash : MethodName := ⟨RX5, "longHash", "(III)I"⟩
abbrev cX5_putOwn : ByteArray := prog_7_method_23_code
def yX5_putOwn : MethodName := ⟨RX5, "putOwn", "(I)V"⟩
abbrev cX5_isPerhaps : ByteArray := prog_7_method_24_code
def yX5_isPerhaps : MethodName := ⟨RX5, "isPerhaps", "(I)Z"⟩
abbrev cX5_begin : ByteArray := prog_7_method_25_code
def yX5_begin : MethodName := ⟨RX5, "begin", "(IIIIIIIII)I"⟩
abbrev cX5_half : ByteArray := prog_7_method_26_code
def yX5_half : MethodName := ⟨RX5, "half", "(J)J"⟩
abbrev cX5_hard : ByteArray := prog_7_method_27_code
def yX5_hard : MethodName := ⟨RX5, "hard", "(IIII)V"⟩
abbrev cX5_spot : ByteArray := prog_7_method_28_code
def yX5_spot : MethodName := ⟨RX5, "spot", "(IZI)I"⟩
abbrev cX5_quarter : ByteArray := prog_7_method_29_code
def yX5_quarter : MethodName := ⟨RX5, "quarter", "(IZIIII)V"⟩
abbrev cX5_stir : ByteArray := prog_7_method_30_code
def yX5_stir : MethodName := ⟨RX5, "stir", "(IZ)V"⟩
abbrev cX5_join : ByteArray := prog_7_method_31_code
def yX5_join : MethodName := ⟨RX5, "join", "()V"⟩
abbrev cX5_makeAddress : ByteArray := prog_7_method_32_code
def yX5_makeAddress : MethodName := ⟨RX5, "makeAddress", "(IIII)V"⟩
abbrev cX5_farBlock : ByteArray := prog_7_method_33_code
def yX5_farBlock : MethodName := ⟨RX5, "farBlock", "(IIIIJ)I"⟩
abbrev cX5_segment : ByteArray := prog_7_method_34_code
def yX5_segment : MethodName := ⟨RX5, "segment", "(III)V"⟩
abbrev cX5_fillSome : ByteArray := prog_7_method_35_code
def yX5_fillSome : MethodName := ⟨RX5, "fillSome", "(I)I"⟩
abbrev cX5_fill : ByteArray := prog_7_method_36_code
def yX5_fill : MethodName := ⟨RX5, "fill", "(I)I"⟩
abbrev cX5_word : ByteArray := prog_7_method_37_code
def yX5_word : MethodName := ⟨RX5, "word", "(II)J"⟩
abbrev cX5_makeTag : ByteArray := prog_7_method_38_code
def yX5_makeTag : MethodName := ⟨RX5, "makeTag", "()V"⟩
abbrev cX5_tag : ByteArray := prog_7_method_39_code
def yX5_tag : MethodName := ⟨RX5, "tag", "(I)I"⟩
abbrev cX5_told : ByteArray := prog_7_method_40_code
def yX5_told : MethodName := ⟨RX5, "told", "(I)I"⟩
abbrev cX5_seal : ByteArray := prog_7_method_41_code
def yX5_seal : MethodName := ⟨RX5, "seal", "(IIIIIIII)I"⟩
def RJ9 : String := "java/lang/Math"
def TJ9 : u_T := fun k => match k with
  | _ => ("", "", "", false)
def tyJ9 : Nat → FieldType := fun k => match k with
  | _ => .int
abbrev wsJ90 : List Cond := u_ws RJ9 TJ9 0
theorem nmJ9 : ∀ a, a < 0 → ∀ b, b < 0 → a ≠ b → (TJ9 a).2.1 ≠ (TJ9 b).2.1 := by decide +kernel
theorem tyJ9_ok : ∀ k, k < 0 → parseFieldDescriptor (TJ9 k).2.2.1 = some (tyJ9 k) := by decide +kernel
abbrev cJ9_max_7cf53 : ByteArray := prog_8_method_65_code
def yJ9_max_7cf53 : MethodName := ⟨RJ9, "max", "(II)I"⟩
abbrev cJ9_min_7cf53 : ByteArray := prog_8_method_69_code
def yJ9_min_7cf53 : MethodName := ⟨RJ9, "min", "(II)I"⟩
def RL : String := "SlowSealLaw"
abbrev cL_law : ByteArray := code
def yL_law : MethodName := ⟨RL, "law", "([I)Z"⟩
end
section
/-! THE SHAPES: kind 0 the class's cells, kind 1 the reference's, kind 2 both (the reference's from 166 on) -/
abbrev zk_cl : List vw_C := [(RX0, TX0, 2), (RX1, TX1, 14), (RX2, TX2, 5), (RX3, TX3, 3), (RX4, TX4, 5), (RX5, TX5, 23)]
abbrev zk_ty3 : FieldType := .object "SlowSeal$Bytes"
abbrev zk_ty4 : FieldType := .array .long
def zk_host : String := "SlowSeal"
def zk_N (v : Nat) : Nat := match v with
  | 0 => 166
  | 1 => 14
  | _ => 180
def zk_sh0 (k : Nat) : (Nat × Nat) ⊕ ((Nat × List (Option Nat)) ⊕ (Nat × Nat × Nat)) := if 38 ≤ k then .inl (2, 128) else match k with
  | 0 => .inr (.inl (4, [some 1, some 18, some 20, some 22, some 30]))
  | 1 => .inr (.inr (3, 8, 2))
  | 2 => .inr (.inl (0, [some 10, none]))
  | 3 => .inr (.inl (0, [some 11, none]))
  | 4 => .inr (.inl (0, [some 12, none]))
  | 5 => .inr (.inl (0, [some 13, none]))
  | 6 => .inr (.inl (0, [some 14, none]))
  | 7 => .inr (.inl (0, [some 15, none]))
  | 8 => .inr (.inl (0, [some 16, none]))
  | 9 => .inr (.inl (0, [some 17, none]))
  | 10 => .inl (1, 200)
  | 11 => .inl (1, 200)
  | 12 => .inl (1, 200)
  | 13 => .inl (1, 200)
  | 14 => .inl (1, 200)
  | 15 => .inl (1, 200)
  | 16 => .inl (1, 200)
  | 17 => .inl (1, 200)
  | 18 => .inr (.inl (0, [some 19, none]))
  | 19 => .inl (1, 0)
  | 20 => .inr (.inl (0, [some 21, none]))
  | 21 => .inl (1, 64)
  | 22 => .inr (.inl (2, [some 23, some 25, some 27, some 28, some 29]))
  | 23 => .inr (.inl (0, [some 24, none]))
  | 24 => .inl (1, 1028)
  | 25 => .inr (.inl (0, [some 26, none]))
  | 26 => .inl (1, 1024)
  | 27 => .inl (2, 8)
  | 28 => .inl (2, 16)
  | 29 => .inl (2, 16)
  | 30 => .inr (.inl (1, [some 31, some 32, some 33, some 34, none, none, none, none, none, none, none, none, none, none]))
  | 31 => .inr (.inr (4, 128, 38))
  | 32 => .inl (2, 128)
  | 33 => .inl (2, 128)
  | 34 => .inr (.inl (3, [some 35, some 36, some 37]))
  | 35 => .inl (2, 128)
  | 36 => .inl (2, 128)
  | _ => .inl (2, 16)
def zk_sh1 (k : Nat) : (Nat × Nat) ⊕ ((Nat × List (Option Nat)) ⊕ (Nat × Nat × Nat)) := match k with
  | 0 => .inr (.inl (5, [none, some 1, some 2, none, some 3, none, some 4, some 5, some 6, some 7, some 8, none, none, none, none, none, none, none, some 9, some 10, some 11, some 12, some 13]))
  | 1 => .inl (0, 8)
  | 2 => .inl (0, 1600)
  | 3 => .inl (0, 64)
  | 4 => .inl (0, 1400)
  | 5 => .inl (2, 8)
  | 6 => .inl (2, 16)
  | 7 => .inl (2, 16)
  | 8 => .inl (0, 1024)
  | 9 => .inl (2, 16384)
  | 10 => .inl (2, 128)
  | 11 => .inl (2, 128)
  | 12 => .inl (2, 128)
  | _ => .inl (2, 128)
def zk_sh1b (k : Nat) : (Nat × Nat) ⊕ ((Nat × List (Option Nat)) ⊕ (Nat × Nat × Nat)) := match k with
  | 0 => .inr (.inl (5, [none, some 167, some 168, none, some 169, none, some 170, some 171, some 172, some 173, some 174, none, none, none, none, none, none, none, some 175, some 176, some 177, some 178, some 179]))
  | 1 => .inl (0, 8)
  | 2 => .inl (0, 1600)
  | 3 => .inl (0, 64)
  | 4 => .inl (0, 1400)
  | 5 => .inl (2, 8)
  | 6 => .inl (2, 16)
  | 7 => .inl (2, 16)
  | 8 => .inl (0, 1024)
  | 9 => .inl (2, 16384)
  | 10 => .inl (2, 128)
  | 11 => .inl (2, 128)
  | 12 => .inl (2, 128)
  | _ => .inl (2, 128)
def zk_sh (v k : Nat) : (Nat × Nat) ⊕ ((Nat × List (Option Nat)) ⊕ (Nat × Nat × Nat)) := match v with
  | 0 => zk_sh0 k
  | 1 => zk_sh1 k
  | _ => if k < 166 then zk_sh0 k else zk_sh1b (k - 166)
def zk_four : List Nat := [0, 4, 8, 12, 1, 5, 9, 13, 2, 6, 10, 14, 3, 7, 11, 15, 0, 5, 10, 15, 1, 6, 11, 12, 2, 7, 8, 13, 3, 4, 9, 14]
def zk_ord : List Nat := [0, 1, 2, 3, 4, 5, 6, 7, 8, 9, 10, 11, 12, 13, 14, 15, 14, 10, 4, 8, 9, 15, 13, 6, 1, 12, 0, 2, 11, 7, 5, 3, 11, 8, 12, 0, 5, 2, 15, 13, 10, 14, 3, 6, 7, 1, 9, 4, 7, 9, 3, 1, 13, 12, 11, 14, 2, 6, 5, 10, 4, 0, 15, 8, 9, 0, 5, 7, 2, 4, 10, 15, 14, 1, 11, 12, 6, 8, 3, 13, 2, 12, 6, 10, 0, 11, 8, 3, 4, 13, 7, 5, 15, 14, 1, 9, 12, 5, 1, 15, 14, 13, 4, 10, 0, 7, 6, 3, 9, 2, 8, 11, 13, 11, 7, 14, 12, 1, 3, 9, 5, 0, 15, 4, 8, 6, 2, 10, 6, 15, 14, 9, 11, 3, 0, 8, 12, 2, 13, 7, 1, 4, 10, 5, 10, 2, 8, 4, 7, 6, 1, 5, 15, 11, 9, 14, 3, 12, 13, 0]
def zk_start : List Int64 := [7640891576956012808, -4942790177534073029, 4354685564936845355, -6534734903238641935, 5840696475078001361, -7276294671716946913, 2270897969802886507, 6620516959819538809]
def zk_stats : List (String × String × String × FieldType × Nat × (Nat → Value)) := [("SlowSeal", "FOURS", "[I", .int, 32, fun j => .int (nI (zk_four.getD j 0))), ("SlowSeal$Hasher", "START", "[J", .long, 8, fun j => .long (zk_start.getD j 0)), ("SlowSeal$Hasher", "ORDERS", "[I", .int, 160, fun j => .int (nI (zk_ord.getD j 0)))]
end
section
/-! THE LAYER: a world of fixed shape. Its ints and its longs are two functions I, J of place and slot; its references never change. -/
abbrev zk_I : Type := Nat → Nat → Int32
abbrev zk_J : Type := Nat → Nat → Int64
/-- a cell's shape: an array of ints (0), bytes (1), longs (2) of a length; an object of a class with its fields (a place, or an int); an array of references to places in a row -/
abbrev zk_S : Type := (Nat × Nat) ⊕ ((Nat × List (Option Nat)) ⊕ (Nat × Nat × Nat))
/-- launch, lowest address of ours, the classes' numbers, the array classes, addresses of the places, addresses of the static arrays, other cells -/
abbrev zk_X : Type := Launch × Nat × va_G × (Nat → ClassId) × (Nat → Nat) × (Nat → Nat) × va_W
def zk_ad (X : zk_X) : Nat → Nat := X.2.2.2.2.1
def zk_sa (X : zk_X) : Nat → Nat := X.2.2.2.2.2.1
abbrev zk_tys (X : zk_X) : List (ClassId × FieldType) := [(X.2.2.2.1 0, .int), (X.2.2.2.1 1, .byte), (X.2.2.2.1 2, .long), (X.2.2.2.1 3, zk_ty3), (X.2.2.2.1 4, zk_ty4)]
def zk_fv (X : zk_X) (I : zk_I) (k : Nat) : Nat → List (Option Nat) → List Value
  | _, [] => []
  | j, some p :: r => .ref (zk_ad X p) :: zk_fv X I k (j + 1) r
  | j, none :: r => .int (I k j) :: zk_fv X I k (j + 1) r
def zk_e (X : zk_X) (I : zk_I) (J : zk_J) (k : Nat) (x : zk_S) : va_E := match x with
  | .inl (0, n) => .inl (X.2.2.2.1 0, n, .inl (I k))
  | .inl (1, n) => .inl (X.2.2.2.1 1, n, .inl (I k))
  | .inl (_ + 2, n) => .inl (X.2.2.2.1 2, n, .inr (.inl (J k)))
  | .inr (.inl (ci, fs)) => .inr (ci, zk_fv X I k 0 fs)
  | .inr (.inr (t, n, p0)) => .inl (X.2.2.2.1 t, n, .inr (.inr (.inr (.inr fun i => some (zk_ad X (p0 + i))))))
def zk_w (v : Nat) (X : zk_X) (I : zk_I) (J : zk_J) : va_W := (List.range (zk_N v)).map (fun k => (zk_ad X k, zk_e X I J k (zk_sh v k))) ++ X.2.2.2.2.2.2
theorem zk_w_get {v : Nat} {X : zk_X} {I : zk_I} {J : zk_J} {k : Nat} (hk : k < zk_N v) : (zk_w v X I J)[k]? = some (zk_ad X k, zk_e X I J k (zk_sh v k)) := by
  unfold zk_w
  rw [List.getElem?_append_left (by simpa using hk)]
  simp [hk]
/-- a row of I, of J is another one -/
def zk_u {α : Type} (I : Nat → Nat → α) (k : Nat) (g : Nat → α) : Nat → Nat → α := fun a => if a = k then g else I a
theorem zk_u_s {α : Type} {I : Nat → Nat → α} {k : Nat} {g : Nat → α} : zk_u I k g k = g := if_pos rfl
theorem zk_u_n {α : Type} {I : Nat → Nat → α} {k a : Nat} {g : Nat → α} (h : a ≠ k) : zk_u I k g a = I a := if_neg h
theorem zk_fv_ext {X : zk_X} {I I' : zk_I} {k : Nat} (h : I' k = I k) : ∀ (fs : List (Option Nat)) (j : Nat), zk_fv X I' k j fs = zk_fv X I k j fs
  | [], _ => rfl
  | some p :: r, j => by rw [zk_fv, zk_fv, zk_fv_ext h r]
  | none :: r, j => by rw [zk_fv, zk_fv, zk_fv_ext h r, h]
theorem zk_e_ext {X : zk_X} {I I' : zk_I} {J J' : zk_J} {k : Nat} (h : I' k = I k) (h2 : J' k = J k) (x : zk_S) : zk_e X I' J' k x = zk_e X I J k x := by
  rcases x with ⟨t, n⟩ | ⟨ci, fs⟩ | ⟨t, n, p0⟩
  · match t with
    | 0 => simp only [zk_e, h]
    | 1 => simp only [zk_e, h]
    | t + 2 => simp only [zk_e, h2]
  · simp only [zk_e, zk_fv_ext h]
  · rfl
theorem zk_w_set {v : Nat} {X : zk_X} {I I' : zk_I} {J J' : zk_J} {k : Nat} (hk : k < zk_N v) (h : ∀ a, a ≠ k → I' a = I a) (h2 : ∀ a, a ≠ k → J' a = J a) {x : zk_S} (hx : zk_sh v k = x) : (zk_w v X I J).set k (zk_ad X k, zk_e X I' J' k x) = zk_w v X I' J' := by
  subst hx
  unfold zk_w
  rw [List.set_append_left _ _ (by simpa using hk)]
  congr 1
  apply List.ext_getElem?
  intro i
  by_cases hi : i = k
  · subst hi
    simp [hk]
  · rw [List.getElem?_set_ne (Ne.symm hi)]
    by_cases hl : i < zk_N v
    · simp [hl, zk_e_ext (h i hi) (h2 i hi)]
    · simp [hl]
theorem zk_fv_len {X : zk_X} {I : zk_I} {k : Nat} : ∀ (fs : List (Option Nat)) (i : Nat), (zk_fv X I k i fs).length = fs.length
  | [], _ => rfl
  | some _ :: r, i => by rw [zk_fv, List.length_cons, List.length_cons, zk_fv_len r]
  | none :: r, i => by rw [zk_fv, List.length_cons, List.length_cons, zk_fv_len r]
theorem zk_fv_i {X : zk_X} {I : zk_I} {k : Nat} : ∀ (fs : List (Option Nat)) (i j : Nat), fs[j]? = some none → (zk_fv X I k i fs)[j]? = some (.int (I k (i + j)))
  | [], _, _, h => by simp at h
  | some p :: r, i, 0, h => by simp at h
  | none :: r, i, 0, h => rfl
  | some p :: r, i, j + 1, h => by rw [zk_fv, List.getElem?_cons_succ, zk_fv_i r (i + 1) j (by simpa using h), show i + 1 + j = i + (j + 1) by omega]
  | none :: r, i, j + 1, h => by rw [zk_fv, List.getElem?_cons_succ, zk_fv_i r (i + 1) j (by simpa using h), show i + 1 + j = i + (j + 1) by omega]
theorem zk_fv_r {X : zk_X} {I : zk_I} {k p : Nat} : ∀ (fs : List (Option Nat)) (i j : Nat), fs[j]? = some (some p) → (zk_fv X I k i fs)[j]? = some (.ref (zk_ad X p))
  | [], _, _, h => by simp at h
  | some q :: r, i, 0, h => by simp at h; subst h; rfl
  | none :: r, i, 0, h => by simp at h
  | some q :: r, i, j + 1, h => by rw [zk_fv, List.getElem?_cons_succ, zk_fv_r r (i + 1) j (by simpa using h)]
  | none :: r, i, j + 1, h => by rw [zk_fv, List.getElem?_cons_succ, zk_fv_r r (i + 1) j (by simpa using h)]
theorem zk_fv_far {X : zk_X} {I : zk_I} {k : Nat} {a : Nat} {x : Int32} : ∀ (fs : List (Option Nat)) (i : Nat), a < i → zk_fv X (zk_u I k (upd (I k) a x)) k i fs = zk_fv X I k i fs
  | [], _, _ => rfl
  | some q :: r, i, h => by rw [zk_fv, zk_fv, zk_fv_far r (i + 1) (by omega)]
  | none :: r, i, h => by rw [zk_fv, zk_fv, zk_fv_far r (i + 1) (by omega), zk_u_s, pk_un (by omega)]
theorem zk_fv_set {X : zk_X} {I : zk_I} {k : Nat} {x : Int32} : ∀ (fs : List (Option Nat)) (i j : Nat), fs[j]? = some none → (zk_fv X I k i fs).set j (.int x) = zk_fv X (zk_u I k (upd (I k) (i + j) x)) k i fs
  | [], _, _, h => by simp at h
  | some q :: r, i, 0, h => by simp at h
  | none :: r, i, 0, h => by rw [zk_fv, zk_fv, List.set_cons_zero, zk_u_s, show upd (I k) (i + 0) x i = x from pk_us (k := i), zk_fv_far r (i + 1) (by omega)]
  | some q :: r, i, j + 1, h => by rw [zk_fv, zk_fv, List.set_cons_succ, zk_fv_set r (i + 1) j (by simpa using h), show i + 1 + j = i + (j + 1) by omega]
  | none :: r, i, j + 1, h => by rw [zk_fv, zk_fv, List.set_cons_succ, zk_fv_set r (i + 1) j (by simpa using h), show i + 1 + j = i + (j + 1) by omega, zk_u_s, pk_un (by omega)]
/-- locals by their places -/
def zk_lv : Nat → List (Option Value) → List (Nat × Value)
  | _, [] => []
  | i, none :: r => zk_lv (i + 1) r
  | i, some x :: r => (i, x) :: zk_lv (i + 1) r
theorem zk_lv_of : ∀ (l : List (Option Value)) (i : Nat) (q : Nat × Value), q ∈ zk_lv i l → ∃ j, q.1 = i + j ∧ l[j]? = some (some q.2)
  | [], _, _, h => by simp [zk_lv] at h
  | none :: r, i, q, h => by
    obtain ⟨j, h1, h2⟩ := zk_lv_of r (i + 1) q h
    exact ⟨j + 1, by omega, by simpa using h2⟩
  | some x :: r, i, q, h => by
    rcases List.mem_cons.mp h with rfl | h
    · exact ⟨0, rfl, rfl⟩
    · obtain ⟨j, h1, h2⟩ := zk_lv_of r (i + 1) q h
      exact ⟨j + 1, by omega, by simpa using h2⟩
theorem zk_lv_in : ∀ (l : List (Option Value)) (i j : Nat) (x : Value), l[j]? = some (some x) → (i + j, x) ∈ zk_lv i l
  | [], _, _, _, h => by simp at h
  | none :: r, i, 0, x, h => by simp at h
  | some y :: r, i, 0, x, h => by simp at h; subst h; simp [zk_lv]
  | none :: r, i, j + 1, x, h => by
    have := zk_lv_in r (i + 1) j x (by simpa using h)
    rw [show i + 1 + j = i + (j + 1) by omega] at this
    exact this
  | some y :: r, i, j + 1, x, h => by
    have := zk_lv_in r (i + 1) j x (by simpa using h)
    rw [show i + 1 + j = i + (j + 1) by omega] at this
    exact List.mem_cons_of_mem _ this
theorem zk_lv_at {ls : Array Slot} {n : Nat} {lv : List (Option Value)} (h : lv_has ls n (zk_lv 0 lv)) {j : Nat} {x : Value} (hj : lv[j]? = some (some x)) : ls[j]? = some (.val x) := by
  have := h.2.2 (0 + j, x) (zk_lv_in lv 0 j x hj)
  rwa [Nat.zero_add] at this
/-- no long stands there -/
def zk_n2 (o : Option (Option Value)) : Bool := match o with
  | some (some x) => x.category != 2
  | _ => true
theorem zk_lv_st1 {ls' : Array Slot} {n k : Nat} {x : Value} {lv : List (Option Value)} (hk : k < lv.length) (hp : k = 0 ∨ zk_n2 lv[k - 1]? = true)
    (h : lv_has ls' n ((k, x) :: (zk_lv 0 lv).filter (fun q => !(q.1 == k) && !(q.1 + 1 == k && q.2.category == 2)))) : lv_has ls' n (zk_lv 0 (lv.set k (some x))) := by
  refine ⟨h.1, h.2.1, fun q hq => h.2.2 q ?_⟩
  obtain ⟨j, h1, h2⟩ := zk_lv_of _ _ _ hq
  rw [Nat.zero_add] at h1
  by_cases hj : j = k
  · subst hj
    rw [List.getElem?_set_self hk] at h2
    simp at h2
    rw [show q = (j, x) by rw [h2, ← h1]]
    exact List.mem_cons_self
  · rw [List.getElem?_set_ne (Ne.symm hj)] at h2
    refine List.mem_cons_of_mem _ (List.mem_filter.mpr ⟨?_, ?_⟩)
    · have := zk_lv_in lv 0 j q.2 h2
      rw [Nat.zero_add, ← h1] at this
      exact this
    · have hj' : ¬ q.1 = k := by omega
      simp only [Bool.and_eq_true, Bool.not_eq_true', beq_eq_false_iff_ne, ne_eq, Bool.and_eq_false_iff]
      refine ⟨hj', ?_⟩
      by_cases hq1 : q.1 + 1 = k
      · right
        rcases hp with hp | hp
        · omega
        · rw [show k - 1 = j by omega, h2] at hp
          simpa [zk_n2] using hp
      · left; exact hq1
theorem zk_lv_st2 {ls' : Array Slot} {n k : Nat} {x : Value} {lv : List (Option Value)} (hk : k + 1 < lv.length) (hp : k = 0 ∨ zk_n2 lv[k - 1]? = true)
    (h : lv_has ls' n ((k, x) :: (zk_lv 0 lv).filter (fun q => !(q.1 == k) && (!(q.1 == k + 1) && !(q.1 + 1 == k && q.2.category == 2))))) : lv_has ls' n (zk_lv 0 ((lv.set k (some x)).set (k + 1) none)) := by
  refine ⟨h.1, h.2.1, fun q hq => h.2.2 q ?_⟩
  obtain ⟨j, h1, h2⟩ := zk_lv_of _ _ _ hq
  rw [Nat.zero_add] at h1
  by_cases hj1 : j = k + 1
  · subst hj1
    rw [List.getElem?_set_self (by simpa using hk)] at h2
    simp at h2
  rw [List.getElem?_set_ne (Ne.symm hj1)] at h2
  by_cases hj : j = k
  · subst hj
    rw [List.getElem?_set_self (by omega)] at h2
    simp at h2
    rw [show q = (j, x) by rw [h2, ← h1]]
    exact List.mem_cons_self
  · rw [List.getElem?_set_ne (Ne.symm hj)] at h2
    refine List.mem_cons_of_mem _ (List.mem_filter.mpr ⟨?_, ?_⟩)
    · have := zk_lv_in lv 0 j q.2 h2
      rw [Nat.zero_add, ← h1] at this
      exact this
    · have hj' : ¬ q.1 = k := by omega
      have hj2 : ¬ q.1 = k + 1 := by omega
      simp only [Bool.and_eq_true, Bool.not_eq_true', beq_eq_false_iff_ne, ne_eq, Bool.and_eq_false_iff]
      refine ⟨hj', hj2, ?_⟩
      by_cases hq1 : q.1 + 1 = k
      · right
        rcases hp with hp | hp
        · omega
        · rw [show k - 1 = j by omega, h2] at hp
          simpa [zk_n2] using hp
      · left; exact hq1
def zk_en : List Value → List (Option Value)
  | [] => []
  | .long x :: r => some (.long x) :: none :: zk_en r
  | .double x :: r => some (.double x) :: none :: zk_en r
  | x :: r => some x :: zk_en r
theorem zk_en_in (n : Nat) : ∀ (vs : List Value) (i : Nat) (q : Nat × Value), q ∈ zk_lv i (zk_en vs ++ List.replicate n none) → q ∈ lv_args i vs
  | [], i, q, h => by
    obtain ⟨j, -, h2⟩ := zk_lv_of _ _ _ h
    have h2 : (List.replicate n (none : Option Value))[j]? = some (some q.2) := h2
    rw [List.getElem?_replicate] at h2
    split at h2 <;> simp at h2
  | x :: r, i, q, h => by
    cases x <;> (simp only [zk_en, List.cons_append, zk_lv] at h; rcases List.mem_cons.mp h with rfl | h) <;> first
      | exact List.mem_cons_self
      | exact List.mem_cons_of_mem _ (zk_en_in n r _ q h)
theorem zk_en_len : ∀ vs : List Value, (zk_en vs).length = (lg_sl vs).length
  | [] => rfl
  | x :: r => by
    have := zk_en_len r
    cases x <;> simp_all [zk_en, lg_sl, Value.category] <;> omega
def zk_good (w : Cond) : Bool := (w.onTables && w.keeps) || (match w with | .arrayClass _ => true | _ => false)
def zk_ws : List Cond := lw_tbl.filter zk_good
def zk_isNest (w : Cond) : Bool := match w with
  | .fieldLinkNest .. => true
  | .methodLinkNest .. => true
  | _ => false
def zk_nest : List Cond := lw_tbl.filter zk_isNest
theorem zk_goodIn {y : MethodName} {b : ByteArray} {n : Nat} {r : Option FieldType} (h : Cond.code y b n r ∈ zk_ws) : GoodIn zk_ws (Cond.code y b n r :: zk_ws) := by
  have key : ∀ w ∈ zk_ws, w ∈ zk_ws ∧ ((w.onTables && w.keeps) = true ∨ ∃ ty, w = .arrayClass ty) := by
    intro w hw
    refine ⟨hw, ?_⟩
    have h2 := (List.mem_filter.mp hw).2
    unfold zk_good at h2
    rcases Bool.or_eq_true _ _ |>.mp h2 with h3 | h3
    · exact Or.inl h3
    · cases w <;> first | exact Or.inr ⟨_, rfl⟩ | simp at h3
  intro w hw
  rcases List.mem_cons.mp hw with rfl | hw
  · exact key _ h
  · exact key _ hw
/-- the static arrays -/
def zk_St (X : zk_X) (U : State) : Prop := ∀ (j : Nat) (q : String × String × String × FieldType × Nat × (Nat → Value)), zk_stats[j]? = some q → va_Z q.1 q.2.1 q.2.2.1 (.ref (zk_sa X j)) (fun a => X.2.1 ≤ a) U U.heap ∧ va_T q.2.2.2.1 (zk_sa X j) q.2.2.2.2.1 q.2.2.2.2.2 (fun a => X.2.1 ≤ a) U U.heap
def zk_G (v : Nat) (X : zk_X) (U : State) : Prop := va_K X.2.2.1 zk_cl (zk_tys X) U ∧ zk_St X U ∧ (∀ w ∈ zk_nest, va_Nw w U) ∧ X.2.1 ≤ U.heap.size ∧ ∀ (I : zk_I) (J : zk_J), va_D (fun q => X.2.1 ≤ q) (zk_w v X I J)
theorem zk_St.go {X : zk_X} {s U : State} {H : Heap} {locs : List Loc} (h : zk_St X s) (hU : U.heap = H) (hS : va_S (fun q => X.2.1 ≤ q) s.heap H locs) (hvm : s.vm.Alike U.vm) : zk_St X U := by
  intro j q hq
  obtain ⟨h1, h2⟩ := h j q hq
  subst hU
  exact ⟨(h1.moved hvm).kept (fun a ha hb => hS.2.1 a ha hb), (h2.moved hvm).kept (fun a ha hb => hS.2.1 a ha hb)⟩
theorem zk_nest_warm {s U : State} (hW : s.WarmedH U.vm) (h : ∀ w ∈ zk_nest, va_Nw w s) : ∀ w ∈ zk_nest, va_Nw w U := by
  intro w hw
  have h1 := h w hw
  have h2 := (List.mem_filter.mp hw).2
  cases w <;> first
    | exact va_Nw.warmF hW h1
    | exact va_Nw.warmM hW h1
    | (simp [zk_isNest] at h2; done)
theorem zk_nest_same {s U : State} (hv : s.vm = U.vm) (h : ∀ w ∈ zk_nest, va_Nw w s) : ∀ w ∈ zk_nest, va_Nw w U := by
  intro w hw
  have h1 := h w hw
  have h2 := (List.mem_filter.mp hw).2
  cases w <;> first
    | (simp [zk_isNest] at h2; done)
    | exact va_Nw.same rfl hv h1
theorem zk_G.go {v : Nat} {X : zk_X} {s U : State} {H : Heap} {locs : List Loc} (h : zk_G v X s) (hU : U.heap = H) (hS : va_S (fun q => X.2.1 ≤ q) s.heap H locs) (hW : s.WarmedH U.vm) : zk_G v X U :=
  ⟨va_K.moved hW.alike h.1, h.2.1.go hU hS hW.alike, zk_nest_warm hW h.2.2.1, Nat.le_trans h.2.2.2.1 (by rw [hU]; exact hS.1), h.2.2.2.2⟩
theorem zk_G.blind {v : Nat} {X : zk_X} {U : State} {g : JFrame} {mk : MethodId} {a : Array Value} (h : zk_G v X U) : zk_G v X (U.calling g mk a) :=
  ⟨va_K.moved (u := U) (U := U.calling g mk a) (Vm.Alike.refl U.vm) h.1, h.2.1.go (U := U.calling g mk a) (locs := []) rfl va_S.rf (Vm.Alike.refl U.vm), zk_nest_same (s := U) (U := U.calling g mk a) rfl h.2.2.1, h.2.2.2.1, h.2.2.2.2⟩
abbrev zk_E : Type := Program × Env × Room × State × MethodId × Array Value × List Frame × Method × Code × Nat × Nat × (State → Prop)
/-- the machine, at pc with these locals (by place), this stack, and a heap that holds the world (I, J), comes to its end -/
def zk_A (v : Nat) (X : zk_X) (E : zk_E) (pc : Nat) (lv : List (Option Value)) (st : List Value) (I : zk_I) (J : zk_J) : Prop := match E with
  | (p, e, R, s, m, args, below, meth, c, cells, slots, Q) => ∀ (ls : Array Slot) (H : Heap) (locs : List Loc), lv.length = c.maxLocals → lv_has ls c.maxLocals (zk_lv 0 lv) → va_P X.2.2.1 zk_cl (zk_w v X I J) H → va_S (fun q => X.2.1 ≤ q) s.heap H locs →
      W p X.1 e R s m args below meth c H locs cells slots Q (F0 m pc ls st)
/-- what holds all through a method -/
def zk_C (v : Nat) (X : zk_X) (E : zk_E) (own : String) (cc : ByteArray) (dep : Nat × Nat) : Prop := match E with
  | (p, _, R, s, m, args, _, _, c, cells, slots, _) => p.tables.exec = Jvm.exec ∧ c.code = cc ∧ s.vm.findClass own = some m.cls ∧ (∀ w ∈ zk_ws, w.before args s = true) ∧ zk_G v X s ∧ dep.1 ≤ R.frames ∧ dep.2 ≤ R.locals ∧ cells ≤ R.cells ∧ slots ≤ R.slots
def zk_Q (v : Nat) (X : zk_X) (r : Option Value) (I : zk_I) (J : zk_J) : Array Value → State → Outcome → State → Prop := fun _ st o t => o = .returned r ∧ va_P X.2.2.1 zk_cl (zk_w v X I J) t.heap ∧ va_F (fun q => X.2.1 ≤ q) st t
/-- how a method ends -/
def zk_R (v : Nat) (X : zk_X) (E : zk_E) (ret : Option FieldType) (r : Option Value) (I : zk_I) (J : zk_J) : Prop := match E with
  | (_, _, _, s, _, args, below, meth, _, cells, slots, Q) => cells = 0 ∧ slots = 0 ∧ Q = MQ below (zk_Q v X r I J) args s 0 0 (fun q => X.2.1 ≤ q) ∧ meth.sig.returnType = ret ∧ meth.locks = false
abbrev zk_rm (d : Nat × Nat) : Room := { frames := d.1, cells := 0, slots := 0, locals := d.2 }
/-- THE CONTRACT: method y, of depth d, on these arguments, in the world (I, J): it answers r, and the world is (I', J') -/
def zk_M (v : Nat) (X : zk_X) (y : MethodName) (b : ByteArray) (maxL : Nat) (ret : Option FieldType) (d : Nat × Nat) (as : List Value) (I : zk_I) (J : zk_J) (r : Option Value) (I' : zk_I) (J' : zk_J) : Prop :=
  Met X.1 y (Cond.code y b maxL ret :: zk_ws) (zk_rm d) (va_Pc as (fun U => zk_G v X U ∧ va_P X.2.2.1 zk_cl (zk_w v X I J) U.heap)) (zk_Q v X r I' J') 0 0 (fun q => X.2.1 ≤ q)
theorem zk_M.intro {v : Nat} {X : zk_X} {y : MethodName} {b : ByteArray} {maxL : Nat} {ret : Option FieldType} {d : Nat × Nat} {as : List Value} {I : zk_I} {J : zk_J} {r : Option Value} {I' : zk_I} {J' : zk_J} (hy : plainName y.cls = true) {lv : List (Option Value)} (hlv : zk_en as ++ List.replicate (maxL - (zk_en as).length) none = lv) (hn : lv.length = maxL)
    (h : ∀ E, zk_C v X E y.cls b d → zk_R v X E ret r I' J' → zk_A v X E 0 lv [] I J) : zk_M v X y b maxL ret d as I J r I' J' := by
  refine Met.ofW (cc := b) (maxL := maxL) (ret := ret) hy rfl ?_
  intro p e s m args below meth c s₁ B hml hv
  obtain ⟨rfl, hG, hP⟩ := hv
  have hts := atoms_spec (ws := Cond.code y b maxL ret :: zk_ws) B.pre
  have hlen : (lg_sl as).length ≤ maxL := by
    rw [← zk_en_len, ← hn, ← hlv, List.length_append]; omega
  have hl := lv_entry as (n := maxL) hlen
  rw [lg_entry_eq]
  generalize (lg_sl as ++ List.replicate (maxL - (lg_sl as).length) Slot.unset).toArray = ls at hl ⊢
  refine h (p, e, _, s, m, _, below, meth, c, 0, 0, _) ⟨B.exec, B.bytes, findClass_of_methodNamed B.named, fun w hw => hts w (List.mem_cons_of_mem _ hw), hG, Nat.le_refl _, Nat.le_refl _, Nat.zero_le _, Nat.zero_le _⟩ ⟨rfl, rfl, rfl, B.returns, B.notSynchronized⟩ ls s.heap [] (by rw [hn, hml]) ⟨by rw [hl.1, hml], hl.2.1, fun q hq => hl.2.2 q (zk_en_in _ as 0 q (by rw [hlv]; exact hq))⟩ hP va_S.rf
section ZK
variable {v : Nat} {X : zk_X} {E : zk_E} {own : String} {cc : ByteArray} {dep : Nat × Nat} {pc pc' : Nat} {lv : List (Option Value)} {st : List Value} {I I' : zk_I} {J J' : zk_J}
/-- an instruction, decoded: its pc, the next one's, itself, its length -/
abbrev zk_D (cc : ByteArray) (pc pc' : Nat) (i : Instr) (n : Nat) : Prop := decode cc pc = .ok (i, n) ∧ pc' = pc + n
theorem zk_cast (k : zk_A v X E pc lv st I' J') (hI : I = I') (hJ : J = J') : zk_A v X E pc lv st I J := by subst hI; subst hJ; exact k
theorem zk_iconst {z : Int} {x : Int32} (h : zk_C v X E own cc dep) (d : zk_D cc pc pc' (.iconst z) 1) (hv : Int32.ofInt z = x) (kk : zk_A v X E pc' lv (.int x :: st) I J) : zk_A v X E pc lv (st) I J := by
  obtain ⟨p, e, R, s, m, args, below, meth, c, cells, slots, Q⟩ := E
  obtain ⟨d, rfl⟩ := d
  intro ls H locs hn hl hP hS
  exact lv_iconst h.1 h.2.1 d hv (kk ls H locs hn hl hP hS)
theorem zk_bipush {z : Int} {x : Int32} (h : zk_C v X E own cc dep) (d : zk_D cc pc pc' (.bipush z) 2) (hv : (Int8.ofInt z).toInt32 = x) (kk : zk_A v X E pc' lv (.int x :: st) I J) : zk_A v X E pc lv (st) I J := by
  obtain ⟨p, e, R, s, m, args, below, meth, c, cells, slots, Q⟩ := E
  obtain ⟨d, rfl⟩ := d
  intro ls H locs hn hl hP hS
  exact lv_bipush h.1 h.2.1 d hv (kk ls H locs hn hl hP hS)
theorem zk_sipush {z : Int} {x : Int32} (h : zk_C v X E own cc dep) (d : zk_D cc pc pc' (.sipush z) 3) (hv : (Int16.ofInt z).toInt32 = x) (kk : zk_A v X E pc' lv (.int x :: st) I J) : zk_A v X E pc lv (st) I J := by
  obtain ⟨p, e, R, s, m, args, below, meth, c, cells, slots, Q⟩ := E
  obtain ⟨d, rfl⟩ := d
  intro ls H locs hn hl hP hS
  exact lv_sipush h.1 h.2.1 d hv (kk ls H locs hn hl hP hS)
theorem zk_lconst {z : Fin 2} {x : Int64} (h : zk_C v X E own cc dep) (d : zk_D cc pc pc' (.lconst z) 1) (hv : Int64.ofNat (z : Nat) = x) (kk : zk_A v X E pc' lv (.long x :: st) I J) : zk_A v X E pc lv (st) I J := by
  obtain ⟨p, e, R, s, m, args, below, meth, c, cells, slots, Q⟩ := E
  obtain ⟨d, rfl⟩ := d
  intro ls H locs hn hl hP hS
  exact lv_lconst h.1 h.2.1 d hv (kk ls H locs hn hl hP hS)
theorem zk_iadd {x y : Int32} (h : zk_C v X E own cc dep) (d : zk_D cc pc pc' (.iadd) 1) (kk : zk_A v X E pc' lv (.int (x + y) :: st) I J) : zk_A v X E pc lv (.int y :: .int x :: st) I J := by
  obtain ⟨p, e, R, s, m, args, below, meth, c, cells, slots, Q⟩ := E
  obtain ⟨d, rfl⟩ := d
  intro ls H locs hn hl hP hS
  exact lv_iadd h.1 h.2.1 d (kk ls H locs hn hl hP hS)
theorem zk_isub {x y : Int32} (h : zk_C v X E own cc dep) (d : zk_D cc pc pc' (.isub) 1) (kk : zk_A v X E pc' lv (.int (x - y) :: st) I J) : zk_A v X E pc lv (.int y :: .int x :: st) I J := by
  obtain ⟨p, e, R, s, m, args, below, meth, c, cells, slots, Q⟩ := E
  obtain ⟨d, rfl⟩ := d
  intro ls H locs hn hl hP hS
  exact lv_isub h.1 h.2.1 d (kk ls H locs hn hl hP hS)
theorem zk_imul {x y : Int32} (h : zk_C v X E own cc dep) (d : zk_D cc pc pc' (.imul) 1) (kk : zk_A v X E pc' lv (.int (x * y) :: st) I J) : zk_A v X E pc lv (.int y :: .int x :: st) I J := by
  obtain ⟨p, e, R, s, m, args, below, meth, c, cells, slots, Q⟩ := E
  obtain ⟨d, rfl⟩ := d
  intro ls H locs hn hl hP hS
  exact lv_imul h.1 h.2.1 d (kk ls H locs hn hl hP hS)
theorem zk_iand {x y : Int32} (h : zk_C v X E own cc dep) (d : zk_D cc pc pc' (.iand) 1) (kk : zk_A v X E pc' lv (.int (x &&& y) :: st) I J) : zk_A v X E pc lv (.int y :: .int x :: st) I J := by
  obtain ⟨p, e, R, s, m, args, below, meth, c, cells, slots, Q⟩ := E
  obtain ⟨d, rfl⟩ := d
  intro ls H locs hn hl hP hS
  exact lv_iand h.1 h.2.1 d (kk ls H locs hn hl hP hS)
theorem zk_ior {x y : Int32} (h : zk_C v X E own cc dep) (d : zk_D cc pc pc' (.ior) 1) (kk : zk_A v X E pc' lv (.int (x ||| y) :: st) I J) : zk_A v X E pc lv (.int y :: .int x :: st) I J := by
  obtain ⟨p, e, R, s, m, args, below, meth, c, cells, slots, Q⟩ := E
  obtain ⟨d, rfl⟩ := d
  intro ls H locs hn hl hP hS
  exact lv_ior h.1 h.2.1 d (kk ls H locs hn hl hP hS)
theorem zk_ixor {x y : Int32} (h : zk_C v X E own cc dep) (d : zk_D cc pc pc' (.ixor) 1) (kk : zk_A v X E pc' lv (.int (x ^^^ y) :: st) I J) : zk_A v X E pc lv (.int y :: .int x :: st) I J := by
  obtain ⟨p, e, R, s, m, args, below, meth, c, cells, slots, Q⟩ := E
  obtain ⟨d, rfl⟩ := d
  intro ls H locs hn hl hP hS
  exact lv_ixor h.1 h.2.1 d (kk ls H locs hn hl hP hS)
theorem zk_ishl {x y : Int32} (h : zk_C v X E own cc dep) (d : zk_D cc pc pc' (.ishl) 1) (kk : zk_A v X E pc' lv (.int (x <<< (y &&& 31)) :: st) I J) : zk_A v X E pc lv (.int y :: .int x :: st) I J := by
  obtain ⟨p, e, R, s, m, args, below, meth, c, cells, slots, Q⟩ := E
  obtain ⟨d, rfl⟩ := d
  intro ls H locs hn hl hP hS
  exact lv_ishl h.1 h.2.1 d (kk ls H locs hn hl hP hS)
theorem zk_ishr {x y : Int32} (h : zk_C v X E own cc dep) (d : zk_D cc pc pc' (.ishr) 1) (kk : zk_A v X E pc' lv (.int (x >>> (y &&& 31)) :: st) I J) : zk_A v X E pc lv (.int y :: .int x :: st) I J := by
  obtain ⟨p, e, R, s, m, args, below, meth, c, cells, slots, Q⟩ := E
  obtain ⟨d, rfl⟩ := d
  intro ls H locs hn hl hP hS
  exact lv_ishr h.1 h.2.1 d (kk ls H locs hn hl hP hS)
theorem zk_ladd {x y : Int64} (h : zk_C v X E own cc dep) (d : zk_D cc pc pc' (.ladd) 1) (kk : zk_A v X E pc' lv (.long (x + y) :: st) I J) : zk_A v X E pc lv (.long y :: .long x :: st) I J := by
  obtain ⟨p, e, R, s, m, args, below, meth, c, cells, slots, Q⟩ := E
  obtain ⟨d, rfl⟩ := d
  intro ls H locs hn hl hP hS
  exact lv_ladd h.1 h.2.1 d (kk ls H locs hn hl hP hS)
theorem zk_lsub {x y : Int64} (h : zk_C v X E own cc dep) (d : zk_D cc pc pc' (.lsub) 1) (kk : zk_A v X E pc' lv (.long (x - y) :: st) I J) : zk_A v X E pc lv (.long y :: .long x :: st) I J := by
  obtain ⟨p, e, R, s, m, args, below, meth, c, cells, slots, Q⟩ := E
  obtain ⟨d, rfl⟩ := d
  intro ls H locs hn hl hP hS
  exact lv_lsub h.1 h.2.1 d (kk ls H locs hn hl hP hS)
theorem zk_lmul {x y : Int64} (h : zk_C v X E own cc dep) (d : zk_D cc pc pc' (.lmul) 1) (kk : zk_A v X E pc' lv (.long (x * y) :: st) I J) : zk_A v X E pc lv (.long y :: .long x :: st) I J := by
  obtain ⟨p, e, R, s, m, args, below, meth, c, cells, slots, Q⟩ := E
  obtain ⟨d, rfl⟩ := d
  intro ls H locs hn hl hP hS
  exact lv_lmul h.1 h.2.1 d (kk ls H locs hn hl hP hS)
theorem zk_land {x y : Int64} (h : zk_C v X E own cc dep) (d : zk_D cc pc pc' (.land) 1) (kk : zk_A v X E pc' lv (.long (x &&& y) :: st) I J) : zk_A v X E pc lv (.long y :: .long x :: st) I J := by
  obtain ⟨p, e, R, s, m, args, below, meth, c, cells, slots, Q⟩ := E
  obtain ⟨d, rfl⟩ := d
  intro ls H locs hn hl hP hS
  exact lv_land h.1 h.2.1 d (kk ls H locs hn hl hP hS)
theorem zk_lor {x y : Int64} (h : zk_C v X E own cc dep) (d : zk_D cc pc pc' (.lor) 1) (kk : zk_A v X E pc' lv (.long (x ||| y) :: st) I J) : zk_A v X E pc lv (.long y :: .long x :: st) I J := by
  obtain ⟨p, e, R, s, m, args, below, meth, c, cells, slots, Q⟩ := E
  obtain ⟨d, rfl⟩ := d
  intro ls H locs hn hl hP hS
  exact lv_lor h.1 h.2.1 d (kk ls H locs hn hl hP hS)
theorem zk_lxor {x y : Int64} (h : zk_C v X E own cc dep) (d : zk_D cc pc pc' (.lxor) 1) (kk : zk_A v X E pc' lv (.long (x ^^^ y) :: st) I J) : zk_A v X E pc lv (.long y :: .long x :: st) I J := by
  obtain ⟨p, e, R, s, m, args, below, meth, c, cells, slots, Q⟩ := E
  obtain ⟨d, rfl⟩ := d
  intro ls H locs hn hl hP hS
  exact lv_lxor h.1 h.2.1 d (kk ls H locs hn hl hP hS)
theorem zk_idiv {x y : Int32} (h : zk_C v X E own cc dep) (d : zk_D cc pc pc' (.idiv) 1) (hne : ¬ y = 0) (kk : zk_A v X E pc' lv (.int (x / y) :: st) I J) : zk_A v X E pc lv (.int y :: .int x :: st) I J := by
  obtain ⟨p, e, R, s, m, args, below, meth, c, cells, slots, Q⟩ := E
  obtain ⟨d, rfl⟩ := d
  intro ls H locs hn hl hP hS
  exact lv_idiv h.1 h.2.1 d hne (kk ls H locs hn hl hP hS)
theorem zk_irem {x y : Int32} (h : zk_C v X E own cc dep) (d : zk_D cc pc pc' (.irem) 1) (hne : ¬ y = 0) (kk : zk_A v X E pc' lv (.int (x - x / y * y) :: st) I J) : zk_A v X E pc lv (.int y :: .int x :: st) I J := by
  obtain ⟨p, e, R, s, m, args, below, meth, c, cells, slots, Q⟩ := E
  obtain ⟨d, rfl⟩ := d
  intro ls H locs hn hl hP hS
  exact lv_irem h.1 h.2.1 d hne (kk ls H locs hn hl hP hS)
theorem zk_lrem {x y : Int64} (h : zk_C v X E own cc dep) (d : zk_D cc pc pc' (.lrem) 1) (hne : ¬ y = 0) (kk : zk_A v X E pc' lv (.long (x - x / y * y) :: st) I J) : zk_A v X E pc lv (.long y :: .long x :: st) I J := by
  obtain ⟨p, e, R, s, m, args, below, meth, c, cells, slots, Q⟩ := E
  obtain ⟨d, rfl⟩ := d
  intro ls H locs hn hl hP hS
  exact lv_lrem h.1 h.2.1 d hne (kk ls H locs hn hl hP hS)
theorem zk_ineg {x : Int32} (h : zk_C v X E own cc dep) (d : zk_D cc pc pc' (.ineg) 1) (kk : zk_A v X E pc' lv (.int (-x) :: st) I J) : zk_A v X E pc lv (.int x :: st) I J := by
  obtain ⟨p, e, R, s, m, args, below, meth, c, cells, slots, Q⟩ := E
  obtain ⟨d, rfl⟩ := d
  intro ls H locs hn hl hP hS
  exact lv_ineg h.1 h.2.1 d (kk ls H locs hn hl hP hS)
theorem zk_i2l {x : Int32} (h : zk_C v X E own cc dep) (d : zk_D cc pc pc' (.i2l) 1) (kk : zk_A v X E pc' lv (.long x.toInt64 :: st) I J) : zk_A v X E pc lv (.int x :: st) I J := by
  obtain ⟨p, e, R, s, m, args, below, meth, c, cells, slots, Q⟩ := E
  obtain ⟨d, rfl⟩ := d
  intro ls H locs hn hl hP hS
  exact lv_i2l h.1 h.2.1 d rfl (kk ls H locs hn hl hP hS)
theorem zk_l2i {x : Int64} (h : zk_C v X E own cc dep) (d : zk_D cc pc pc' (.l2i) 1) (kk : zk_A v X E pc' lv (.int x.toInt32 :: st) I J) : zk_A v X E pc lv (.long x :: st) I J := by
  obtain ⟨p, e, R, s, m, args, below, meth, c, cells, slots, Q⟩ := E
  obtain ⟨d, rfl⟩ := d
  intro ls H locs hn hl hP hS
  exact lv_l2i h.1 h.2.1 d rfl (kk ls H locs hn hl hP hS)
theorem zk_i2b {x : Int32} (h : zk_C v X E own cc dep) (d : zk_D cc pc pc' (.i2b) 1) (kk : zk_A v X E pc' lv (.int x.toInt8.toInt32 :: st) I J) : zk_A v X E pc lv (.int x :: st) I J := by
  obtain ⟨p, e, R, s, m, args, below, meth, c, cells, slots, Q⟩ := E
  obtain ⟨d, rfl⟩ := d
  intro ls H locs hn hl hP hS
  exact lv_i2b h.1 h.2.1 d rfl (kk ls H locs hn hl hP hS)
theorem zk_lushr {x : Int64} {y : Int32} (h : zk_C v X E own cc dep) (d : zk_D cc pc pc' (.lushr) 1) (kk : zk_A v X E pc' lv (.long (x.toUInt64 >>> (y.toInt64.toUInt64 &&& Int64.toUInt64 63)).toInt64 :: st) I J) : zk_A v X E pc lv (.int y :: .long x :: st) I J := by
  obtain ⟨p, e, R, s, m, args, below, meth, c, cells, slots, Q⟩ := E
  obtain ⟨d, rfl⟩ := d
  intro ls H locs hn hl hP hS
  exact lv_lushr h.1 h.2.1 d rfl (kk ls H locs hn hl hP hS)
theorem zk_lshl {x : Int64} {y : Int32} (h : zk_C v X E own cc dep) (d : zk_D cc pc pc' (.lshl) 1) (kk : zk_A v X E pc' lv (.long (x <<< (y.toInt64 &&& 63)) :: st) I J) : zk_A v X E pc lv (.int y :: .long x :: st) I J := by
  obtain ⟨p, e, R, s, m, args, below, meth, c, cells, slots, Q⟩ := E
  obtain ⟨d, rfl⟩ := d
  intro ls H locs hn hl hP hS
  exact lv_lshl h.1 h.2.1 d rfl (kk ls H locs hn hl hP hS)
theorem zk_lshr {x : Int64} {y : Int32} (h : zk_C v X E own cc dep) (d : zk_D cc pc pc' (.lshr) 1) (kk : zk_A v X E pc' lv (.long (x >>> (y.toInt64 &&& 63)) :: st) I J) : zk_A v X E pc lv (.int y :: .long x :: st) I J := by
  obtain ⟨p, e, R, s, m, args, below, meth, c, cells, slots, Q⟩ := E
  obtain ⟨d, rfl⟩ := d
  intro ls H locs hn hl hP hS
  exact lv_lshr h.1 h.2.1 d rfl (kk ls H locs hn hl hP hS)
theorem zk_iushr {x y : Int32} (h : zk_C v X E own cc dep) (d : zk_D cc pc pc' (.iushr) 1) (kk : zk_A v X E pc' lv (.int (x.toUInt32 >>> (y.toUInt32 &&& Int32.toUInt32 31)).toInt32 :: st) I J) : zk_A v X E pc lv (.int y :: .int x :: st) I J := by
  obtain ⟨p, e, R, s, m, args, below, meth, c, cells, slots, Q⟩ := E
  obtain ⟨d, rfl⟩ := d
  intro ls H locs hn hl hP hS
  exact lv_iushr h.1 h.2.1 d rfl (kk ls H locs hn hl hP hS)
theorem zk_dup {a : Value} (h : zk_C v X E own cc dep) (d : zk_D cc pc pc' (.dup) 1) (hc : a.category = 1) (kk : zk_A v X E pc' lv (a :: a :: st) I J) : zk_A v X E pc lv (a :: st) I J := by
  obtain ⟨p, e, R, s, m, args, below, meth, c, cells, slots, Q⟩ := E
  obtain ⟨d, rfl⟩ := d
  intro ls H locs hn hl hP hS
  exact lv_dup h.1 h.2.1 d hc (kk ls H locs hn hl hP hS)
theorem zk_pop {a : Value} (h : zk_C v X E own cc dep) (d : zk_D cc pc pc' (.pop) 1) (hc : a.category = 1) (kk : zk_A v X E pc' lv (st) I J) : zk_A v X E pc lv (a :: st) I J := by
  obtain ⟨p, e, R, s, m, args, below, meth, c, cells, slots, Q⟩ := E
  obtain ⟨d, rfl⟩ := d
  intro ls H locs hn hl hP hS
  exact lv_pop h.1 h.2.1 d hc (kk ls H locs hn hl hP hS)
theorem zk_dup_x1 {a b : Value} (h : zk_C v X E own cc dep) (d : zk_D cc pc pc' (.dup_x1) 1) (hc : a.category = 1) (hb : b.category = 1) (kk : zk_A v X E pc' lv (a :: b :: a :: st) I J) : zk_A v X E pc lv (a :: b :: st) I J := by
  obtain ⟨p, e, R, s, m, args, below, meth, c, cells, slots, Q⟩ := E
  obtain ⟨d, rfl⟩ := d
  intro ls H locs hn hl hP hS
  exact lv_dup_x1 h.1 h.2.1 d hc hb (kk ls H locs hn hl hP hS)
theorem zk_dup2 {a b : Value} (h : zk_C v X E own cc dep) (d : zk_D cc pc pc' (.dup2) 1) (hc : a.category = 1) (hb : b.category = 1) (kk : zk_A v X E pc' lv (a :: b :: a :: b :: st) I J) : zk_A v X E pc lv (a :: b :: st) I J := by
  obtain ⟨p, e, R, s, m, args, below, meth, c, cells, slots, Q⟩ := E
  obtain ⟨d, rfl⟩ := d
  intro ls H locs hn hl hP hS
  exact lv_dup2_11 h.1 h.2.1 d hc hb (kk ls H locs hn hl hP hS)
theorem zk_lcmp {x y : Int64} (h : zk_C v X E own cc dep) (d : zk_D cc pc pc' (.lcmp) 1) (kk : zk_A v X E pc' lv (.int (lg_cmp x y) :: st) I J) : zk_A v X E pc lv (.long y :: .long x :: st) I J := by
  obtain ⟨p, e, R, s, m, args, below, meth, c, cells, slots, Q⟩ := E
  obtain ⟨d, rfl⟩ := d
  intro ls H locs hn hl hP hS
  exact W.lcmp h.1 h.2.1 d (kk ls H locs hn hl hP hS)
theorem zk_if_eq {x : Int32} {off : Int} (h : zk_C v X E own cc dep) (d : zk_D cc pc pc' (.ifCond .eq off) 3) (tgt : Nat) (ht : (pc : Int) + off = (tgt : Int)) (kt : x = 0 → zk_A v X E tgt lv st I J) (kf : ¬ (x = 0) → zk_A v X E pc' lv st I J) : zk_A v X E pc lv (.int x :: st) I J := by
  obtain ⟨p, e, R, s, m, args, below, meth, c, cells, slots, Q⟩ := E
  obtain ⟨d, rfl⟩ := d
  intro ls H locs hn hl hP hS
  exact lv_if_eq h.1 h.2.1 d ht (fun q => kt q ls H locs hn hl hP hS) (fun q => kf q ls H locs hn hl hP hS)
theorem zk_icmp_eq {x y : Int32} {off : Int} (h : zk_C v X E own cc dep) (d : zk_D cc pc pc' (.if_icmp .eq off) 3) (tgt : Nat) (ht : (pc : Int) + off = (tgt : Int)) (kt : x = y → zk_A v X E tgt lv st I J) (kf : ¬ (x = y) → zk_A v X E pc' lv st I J) : zk_A v X E pc lv (.int y :: .int x :: st) I J := by
  obtain ⟨p, e, R, s, m, args, below, meth, c, cells, slots, Q⟩ := E
  obtain ⟨d, rfl⟩ := d
  intro ls H locs hn hl hP hS
  exact lv_icmp_eq h.1 h.2.1 d ht (fun q => kt q ls H locs hn hl hP hS) (fun q => kf q ls H locs hn hl hP hS)
theorem zk_if_ne {x : Int32} {off : Int} (h : zk_C v X E own cc dep) (d : zk_D cc pc pc' (.ifCond .ne off) 3) (tgt : Nat) (ht : (pc : Int) + off = (tgt : Int)) (kt : ¬ x = 0 → zk_A v X E tgt lv st I J) (kf : x = 0 → zk_A v X E pc' lv st I J) : zk_A v X E pc lv (.int x :: st) I J := by
  obtain ⟨p, e, R, s, m, args, below, meth, c, cells, slots, Q⟩ := E
  obtain ⟨d, rfl⟩ := d
  intro ls H locs hn hl hP hS
  exact lv_if_ne h.1 h.2.1 d ht (fun q => kt q ls H locs hn hl hP hS) (fun q => kf q ls H locs hn hl hP hS)
theorem zk_icmp_ne {x y : Int32} {off : Int} (h : zk_C v X E own cc dep) (d : zk_D cc pc pc' (.if_icmp .ne off) 3) (tgt : Nat) (ht : (pc : Int) + off = (tgt : Int)) (kt : ¬ x = y → zk_A v X E tgt lv st I J) (kf : x = y → zk_A v X E pc' lv st I J) : zk_A v X E pc lv (.int y :: .int x :: st) I J := by
  obtain ⟨p, e, R, s, m, args, below, meth, c, cells, slots, Q⟩ := E
  obtain ⟨d, rfl⟩ := d
  intro ls H locs hn hl hP hS
  exact lv_icmp_ne h.1 h.2.1 d ht (fun q => kt q ls H locs hn hl hP hS) (fun q => kf q ls H locs hn hl hP hS)
theorem zk_if_lt {x : Int32} {off : Int} (h : zk_C v X E own cc dep) (d : zk_D cc pc pc' (.ifCond .lt off) 3) (tgt : Nat) (ht : (pc : Int) + off = (tgt : Int)) (kt : x < 0 → zk_A v X E tgt lv st I J) (kf : ¬ (x < 0) → zk_A v X E pc' lv st I J) : zk_A v X E pc lv (.int x :: st) I J := by
  obtain ⟨p, e, R, s, m, args, below, meth, c, cells, slots, Q⟩ := E
  obtain ⟨d, rfl⟩ := d
  intro ls H locs hn hl hP hS
  exact lv_if_lt h.1 h.2.1 d ht (fun q => kt q ls H locs hn hl hP hS) (fun q => kf q ls H locs hn hl hP hS)
theorem zk_icmp_lt {x y : Int32} {off : Int} (h : zk_C v X E own cc dep) (d : zk_D cc pc pc' (.if_icmp .lt off) 3) (tgt : Nat) (ht : (pc : Int) + off = (tgt : Int)) (kt : x < y → zk_A v X E tgt lv st I J) (kf : ¬ (x < y) → zk_A v X E pc' lv st I J) : zk_A v X E pc lv (.int y :: .int x :: st) I J := by
  obtain ⟨p, e, R, s, m, args, below, meth, c, cells, slots, Q⟩ := E
  obtain ⟨d, rfl⟩ := d
  intro ls H locs hn hl hP hS
  exact lv_icmp_lt h.1 h.2.1 d ht (fun q => kt q ls H locs hn hl hP hS) (fun q => kf q ls H locs hn hl hP hS)
theorem zk_if_ge {x : Int32} {off : Int} (h : zk_C v X E own cc dep) (d : zk_D cc pc pc' (.ifCond .ge off) 3) (tgt : Nat) (ht : (pc : Int) + off = (tgt : Int)) (kt : 0 ≤ x → zk_A v X E tgt lv st I J) (kf : ¬ (0 ≤ x) → zk_A v X E pc' lv st I J) : zk_A v X E pc lv (.int x :: st) I J := by
  obtain ⟨p, e, R, s, m, args, below, meth, c, cells, slots, Q⟩ := E
  obtain ⟨d, rfl⟩ := d
  intro ls H locs hn hl hP hS
  exact lv_if_ge h.1 h.2.1 d ht (fun q => kt q ls H locs hn hl hP hS) (fun q => kf q ls H locs hn hl hP hS)
theorem zk_icmp_ge {x y : Int32} {off : Int} (h : zk_C v X E own cc dep) (d : zk_D cc pc pc' (.if_icmp .ge off) 3) (tgt : Nat) (ht : (pc : Int) + off = (tgt : Int)) (kt : y ≤ x → zk_A v X E tgt lv st I J) (kf : ¬ (y ≤ x) → zk_A v X E pc' lv st I J) : zk_A v X E pc lv (.int y :: .int x :: st) I J := by
  obtain ⟨p, e, R, s, m, args, below, meth, c, cells, slots, Q⟩ := E
  obtain ⟨d, rfl⟩ := d
  intro ls H locs hn hl hP hS
  exact lv_icmp_ge h.1 h.2.1 d ht (fun q => kt q ls H locs hn hl hP hS) (fun q => kf q ls H locs hn hl hP hS)
theorem zk_if_gt {x : Int32} {off : Int} (h : zk_C v X E own cc dep) (d : zk_D cc pc pc' (.ifCond .gt off) 3) (tgt : Nat) (ht : (pc : Int) + off = (tgt : Int)) (kt : 0 < x → zk_A v X E tgt lv st I J) (kf : ¬ (0 < x) → zk_A v X E pc' lv st I J) : zk_A v X E pc lv (.int x :: st) I J := by
  obtain ⟨p, e, R, s, m, args, below, meth, c, cells, slots, Q⟩ := E
  obtain ⟨d, rfl⟩ := d
  intro ls H locs hn hl hP hS
  exact lv_if_gt h.1 h.2.1 d ht (fun q => kt q ls H locs hn hl hP hS) (fun q => kf q ls H locs hn hl hP hS)
theorem zk_icmp_gt {x y : Int32} {off : Int} (h : zk_C v X E own cc dep) (d : zk_D cc pc pc' (.if_icmp .gt off) 3) (tgt : Nat) (ht : (pc : Int) + off = (tgt : Int)) (kt : y < x → zk_A v X E tgt lv st I J) (kf : ¬ (y < x) → zk_A v X E pc' lv st I J) : zk_A v X E pc lv (.int y :: .int x :: st) I J := by
  obtain ⟨p, e, R, s, m, args, below, meth, c, cells, slots, Q⟩ := E
  obtain ⟨d, rfl⟩ := d
  intro ls H locs hn hl hP hS
  exact lv_icmp_gt h.1 h.2.1 d ht (fun q => kt q ls H locs hn hl hP hS) (fun q => kf q ls H locs hn hl hP hS)
theorem zk_if_le {x : Int32} {off : Int} (h : zk_C v X E own cc dep) (d : zk_D cc pc pc' (.ifCond .le off) 3) (tgt : Nat) (ht : (pc : Int) + off = (tgt : Int)) (kt : x ≤ 0 → zk_A v X E tgt lv st I J) (kf : ¬ (x ≤ 0) → zk_A v X E pc' lv st I J) : zk_A v X E pc lv (.int x :: st) I J := by
  obtain ⟨p, e, R, s, m, args, below, meth, c, cells, slots, Q⟩ := E
  obtain ⟨d, rfl⟩ := d
  intro ls H locs hn hl hP hS
  exact lv_if_le h.1 h.2.1 d ht (fun q => kt q ls H locs hn hl hP hS) (fun q => kf q ls H locs hn hl hP hS)
theorem zk_icmp_le {x y : Int32} {off : Int} (h : zk_C v X E own cc dep) (d : zk_D cc pc pc' (.if_icmp .le off) 3) (tgt : Nat) (ht : (pc : Int) + off = (tgt : Int)) (kt : x ≤ y → zk_A v X E tgt lv st I J) (kf : ¬ (x ≤ y) → zk_A v X E pc' lv st I J) : zk_A v X E pc lv (.int y :: .int x :: st) I J := by
  obtain ⟨p, e, R, s, m, args, below, meth, c, cells, slots, Q⟩ := E
  obtain ⟨d, rfl⟩ := d
  intro ls H locs hn hl hP hS
  exact lv_icmp_le h.1 h.2.1 d ht (fun q => kt q ls H locs hn hl hP hS) (fun q => kf q ls H locs hn hl hP hS)
theorem zk_goto {off : Int} (h : zk_C v X E own cc dep) (d : zk_D cc pc pc' (.goto off) 3) (tgt : Nat) (ht : (pc : Int) + off = (tgt : Int)) (kk : zk_A v X E tgt lv st I J) : zk_A v X E pc lv st I J := by
  obtain ⟨p, e, R, s, m, args, below, meth, c, cells, slots, Q⟩ := E
  obtain ⟨d, rfl⟩ := d
  intro ls H locs hn hl hP hS
  exact lv_goto h.1 h.2.1 d ht (kk ls H locs hn hl hP hS)
theorem zk_tabOut {dflt lo hi : Int} {offs : Array Int} {len : Nat} {x : Int32} (h : zk_C v X E own cc dep) (d : decode cc pc = .ok (.tableswitch dflt lo hi offs, len)) (tgt : Nat) (hx : x.toInt < lo ∨ hi < x.toInt) (ht : (pc : Int) + dflt = (tgt : Int)) (kk : zk_A v X E tgt lv st I J) : zk_A v X E pc lv (.int x :: st) I J := by
  obtain ⟨p, e, R, s, m, args, below, meth, c, cells, slots, Q⟩ := E
  intro ls H locs hn hl hP hS
  exact lv_tableOut h.1 h.2.1 d hx ht (kk ls H locs hn hl hP hS)
theorem zk_tabIn {dflt lo hi : Int} {offs : Array Int} {len : Nat} {x : Int32} {off : Int} (h : zk_C v X E own cc dep) (d : decode cc pc = .ok (.tableswitch dflt lo hi offs, len)) (tgt : Nat) (h1 : ¬ x.toInt < lo) (h2 : ¬ hi < x.toInt) (ho : offs[(x.toInt - lo).toNat]? = some off) (ht : (pc : Int) + off = (tgt : Int)) (kk : zk_A v X E tgt lv st I J) : zk_A v X E pc lv (.int x :: st) I J := by
  obtain ⟨p, e, R, s, m, args, below, meth, c, cells, slots, Q⟩ := E
  intro ls H locs hn hl hP hS
  exact lv_tableIn h.1 h.2.1 d h1 h2 ho ht (kk ls H locs hn hl hP hS)
theorem zk_ldc {k : Nat} {x : Int32} (h : zk_C v X E own cc dep) (d : zk_D cc pc pc' (.ldc k) 2) (hc : Jvm.Cond.constant own k x ∈ zk_ws) (kk : zk_A v X E pc' lv (.int x :: st) I J) : zk_A v X E pc lv st I J := by
  obtain ⟨p, e, R, s, m, args, below, meth, c, cells, slots, Q⟩ := E
  obtain ⟨d, rfl⟩ := d
  intro ls H locs hn hl hP hS
  exact lv_ldc h.1 h.2.1 h.2.2.1 (h.2.2.2.1 _ hc) d (kk ls H locs hn hl hP hS)
theorem zk_ldc2 {k : Nat} {x : Int64} (h : zk_C v X E own cc dep) (d : zk_D cc pc pc' (.ldc2_w k) 3) (hc : Jvm.Cond.constantLong own k x ∈ zk_ws) (kk : zk_A v X E pc' lv (.long x :: st) I J) : zk_A v X E pc lv st I J := by
  obtain ⟨p, e, R, s, m, args, below, meth, c, cells, slots, Q⟩ := E
  obtain ⟨d, rfl⟩ := d
  intro ls H locs hn hl hP hS
  exact lv_ldc2 h.1 h.2.1 h.2.2.1 (h.2.2.2.1 _ hc) d (kk ls H locs hn hl hP hS)
theorem zk_iload {k : Nat} {x : Int32} (h : zk_C v X E own cc dep) (hl : lv[k]? = some (some (.int x))) (d : zk_D cc pc pc' (.iload k) 2) (kk : zk_A v X E pc' lv (.int x :: st) I J) : zk_A v X E pc lv st I J := by
  obtain ⟨p, e, R, s, m, args, below, meth, c, cells, slots, Q⟩ := E
  obtain ⟨d, rfl⟩ := d
  intro ls H locs hn hl2 hP hS
  exact lv_iload h.1 h.2.1 d (zk_lv_at hl2 hl) (kk ls H locs hn hl2 hP hS)
theorem zk_lload {k : Nat} {x : Int64} (h : zk_C v X E own cc dep) (hl : lv[k]? = some (some (.long x))) (d : zk_D cc pc pc' (.lload k) 2) (kk : zk_A v X E pc' lv (.long x :: st) I J) : zk_A v X E pc lv st I J := by
  obtain ⟨p, e, R, s, m, args, below, meth, c, cells, slots, Q⟩ := E
  obtain ⟨d, rfl⟩ := d
  intro ls H locs hn hl2 hP hS
  exact lv_lload h.1 h.2.1 d (zk_lv_at hl2 hl) (kk ls H locs hn hl2 hP hS)
theorem zk_aload {k : Nat} {x : Nat} (h : zk_C v X E own cc dep) (hl : lv[k]? = some (some (.ref x))) (d : zk_D cc pc pc' (.aload k) 2) (kk : zk_A v X E pc' lv (.ref x :: st) I J) : zk_A v X E pc lv st I J := by
  obtain ⟨p, e, R, s, m, args, below, meth, c, cells, slots, Q⟩ := E
  obtain ⟨d, rfl⟩ := d
  intro ls H locs hn hl2 hP hS
  exact lv_aload h.1 h.2.1 d (zk_lv_at hl2 hl) (kk ls H locs hn hl2 hP hS)
theorem zk_iload_n {k : Fin 4} {x : Int32} (h : zk_C v X E own cc dep) (hl : lv[(k : Nat)]? = some (some (.int x))) (d : zk_D cc pc pc' (.iload_n k) 1) (kk : zk_A v X E pc' lv (.int x :: st) I J) : zk_A v X E pc lv st I J := by
  obtain ⟨p, e, R, s, m, args, below, meth, c, cells, slots, Q⟩ := E
  obtain ⟨d, rfl⟩ := d
  intro ls H locs hn hl2 hP hS
  exact lv_iload_n h.1 h.2.1 d rfl (zk_lv_at hl2 hl) (kk ls H locs hn hl2 hP hS)
theorem zk_lload_n {k : Fin 4} {x : Int64} (h : zk_C v X E own cc dep) (hl : lv[(k : Nat)]? = some (some (.long x))) (d : zk_D cc pc pc' (.lload_n k) 1) (kk : zk_A v X E pc' lv (.long x :: st) I J) : zk_A v X E pc lv st I J := by
  obtain ⟨p, e, R, s, m, args, below, meth, c, cells, slots, Q⟩ := E
  obtain ⟨d, rfl⟩ := d
  intro ls H locs hn hl2 hP hS
  exact lv_lload_n h.1 h.2.1 d rfl (zk_lv_at hl2 hl) (kk ls H locs hn hl2 hP hS)
theorem zk_aload_n {k : Fin 4} {x : Nat} (h : zk_C v X E own cc dep) (hl : lv[(k : Nat)]? = some (some (.ref x))) (d : zk_D cc pc pc' (.aload_n k) 1) (kk : zk_A v X E pc' lv (.ref x :: st) I J) : zk_A v X E pc lv st I J := by
  obtain ⟨p, e, R, s, m, args, below, meth, c, cells, slots, Q⟩ := E
  obtain ⟨d, rfl⟩ := d
  intro ls H locs hn hl2 hP hS
  exact lv_aload_n h.1 h.2.1 d rfl (zk_lv_at hl2 hl) (kk ls H locs hn hl2 hP hS)
theorem zk_store1 {k : Nat} {x : Value} {i : Instr} {n : Nat} (hk : k < lv.length) (hp : k = 0 ∨ zk_n2 lv[k - 1]? = true) (kk : zk_A v X E (pc + n) (lv.set k (some x)) st I J)
    (rule : ∀ {p : Program} {e : Env} {R : Room} {s : State} {m : MethodId} {args : Array Value} {below : List Frame} {meth : Method} {c : Code} {cells slots : Nat} {Q : State → Prop} {ls : Array Slot} {H : Heap} {locs : List Loc}, E = (p, e, R, s, m, args, below, meth, c, cells, slots, Q) → lv_has ls c.maxLocals (zk_lv 0 lv) → k < c.maxLocals →
      (∀ ls', lv_has ls' c.maxLocals ((k, x) :: (zk_lv 0 lv).filter (fun q => !(q.1 == k) && !(q.1 + 1 == k && q.2.category == 2))) → W p X.1 e R s m args below meth c H locs cells slots Q (F0 m (pc + n) ls' st)) → W p X.1 e R s m args below meth c H locs cells slots Q (F0 m pc ls (x :: st))) : zk_A v X E pc lv (x :: st) I J := by
  obtain ⟨p, e, R, s, m, args, below, meth, c, cells, slots, Q⟩ := E
  intro ls H locs hn hl hP hS
  exact rule rfl hl (by rw [← hn]; exact hk) (fun ls' hl' => kk ls' H locs (by rw [List.length_set]; exact hn) (zk_lv_st1 hk hp hl') hP hS)
theorem zk_store2 {k : Nat} {x : Value} {i : Instr} {n : Nat} (hk : k + 1 < lv.length) (hp : k = 0 ∨ zk_n2 lv[k - 1]? = true) (kk : zk_A v X E (pc + n) ((lv.set k (some x)).set (k + 1) none) st I J)
    (rule : ∀ {p : Program} {e : Env} {R : Room} {s : State} {m : MethodId} {args : Array Value} {below : List Frame} {meth : Method} {c : Code} {cells slots : Nat} {Q : State → Prop} {ls : Array Slot} {H : Heap} {locs : List Loc}, E = (p, e, R, s, m, args, below, meth, c, cells, slots, Q) → lv_has ls c.maxLocals (zk_lv 0 lv) → k + 1 < c.maxLocals →
      (∀ ls', lv_has ls' c.maxLocals ((k, x) :: (zk_lv 0 lv).filter (fun q => !(q.1 == k) && (!(q.1 == k + 1) && !(q.1 + 1 == k && q.2.category == 2)))) → W p X.1 e R s m args below meth c H locs cells slots Q (F0 m (pc + n) ls' st)) → W p X.1 e R s m args below meth c H locs cells slots Q (F0 m pc ls (x :: st))) : zk_A v X E pc lv (x :: st) I J := by
  obtain ⟨p, e, R, s, m, args, below, meth, c, cells, slots, Q⟩ := E
  intro ls H locs hn hl hP hS
  exact rule rfl hl (by rw [← hn]; exact hk) (fun ls' hl' => kk ls' H locs (by rw [List.length_set, List.length_set]; exact hn) (zk_lv_st2 hk hp hl') hP hS)
theorem zk_istoreG {k : Nat} {x : Int32} (h : zk_C v X E own cc dep) (d : zk_D cc pc pc' (.istore k) 2) (hk : k < lv.length) (hp : k = 0 ∨ zk_n2 lv[k - 1]? = true) (kk : zk_A v X E pc' (lv.set k (some (.int x))) st I J) : zk_A v X E pc lv (.int x :: st) I J := by
  obtain ⟨d, rfl⟩ := d
  refine zk_store1 (i := .nop) (n := 2) hk hp kk ?_
  intro p e R s m args below meth c cells slots Q ls H locs hE hl hk' g
  subst hE
  exact lv_istore h.1 h.2.1 d hl hk' rfl g
theorem zk_istoreNG {k : Fin 4} {x : Int32} (h : zk_C v X E own cc dep) (d : zk_D cc pc pc' (.istore_n k) 1) (hk : (k : Nat) < lv.length) (hp : (k : Nat) = 0 ∨ zk_n2 lv[(k : Nat) - 1]? = true) (kk : zk_A v X E pc' (lv.set k (some (.int x))) st I J) : zk_A v X E pc lv (.int x :: st) I J := by
  obtain ⟨d, rfl⟩ := d
  refine zk_store1 (i := .nop) (n := 1) hk hp kk ?_
  intro p e R s m args below meth c cells slots Q ls H locs hE hl hk' g
  subst hE
  exact lv_istore_n h.1 h.2.1 d rfl hl hk' rfl g
theorem zk_astoreG {k : Nat} {x : Nat} (h : zk_C v X E own cc dep) (d : zk_D cc pc pc' (.astore k) 2) (hk : k < lv.length) (hp : k = 0 ∨ zk_n2 lv[k - 1]? = true) (kk : zk_A v X E pc' (lv.set k (some (.ref x))) st I J) : zk_A v X E pc lv (.ref x :: st) I J := by
  obtain ⟨d, rfl⟩ := d
  refine zk_store1 (i := .nop) (n := 2) hk hp kk ?_
  intro p e R s m args below meth c cells slots Q ls H locs hE hl hk' g
  subst hE
  exact lv_astore h.1 h.2.1 d hl hk' rfl g
theorem zk_astoreNG {k : Fin 4} {x : Nat} (h : zk_C v X E own cc dep) (d : zk_D cc pc pc' (.astore_n k) 1) (hk : (k : Nat) < lv.length) (hp : (k : Nat) = 0 ∨ zk_n2 lv[(k : Nat) - 1]? = true) (kk : zk_A v X E pc' (lv.set k (some (.ref x))) st I J) : zk_A v X E pc lv (.ref x :: st) I J := by
  obtain ⟨d, rfl⟩ := d
  refine zk_store1 (i := .nop) (n := 1) hk hp kk ?_
  intro p e R s m args below meth c cells slots Q ls H locs hE hl hk' g
  subst hE
  exact lv_astore_n h.1 h.2.1 d rfl hl hk' rfl g
theorem zk_lstoreG {k : Nat} {x : Int64} (h : zk_C v X E own cc dep) (d : zk_D cc pc pc' (.lstore k) 2) (hk : k + 1 < lv.length) (hp : k = 0 ∨ zk_n2 lv[k - 1]? = true) (kk : zk_A v X E pc' ((lv.set k (some (.long x))).set (k + 1) none) st I J) : zk_A v X E pc lv (.long x :: st) I J := by
  obtain ⟨d, rfl⟩ := d
  refine zk_store2 (i := .nop) (n := 2) hk hp kk ?_
  intro p e R s m args below meth c cells slots Q ls H locs hE hl hk' g
  subst hE
  exact lv_lstore h.1 h.2.1 d hl hk' rfl g
theorem zk_lstoreNG {k : Fin 4} {x : Int64} (h : zk_C v X E own cc dep) (d : zk_D cc pc pc' (.lstore_n k) 1) (hk : (k : Nat) + 1 < lv.length) (hp : (k : Nat) = 0 ∨ zk_n2 lv[(k : Nat) - 1]? = true) (kk : zk_A v X E pc' ((lv.set k (some (.long x))).set ((k : Nat) + 1) none) st I J) : zk_A v X E pc lv (.long x :: st) I J := by
  obtain ⟨d, rfl⟩ := d
  refine zk_store2 (i := .nop) (n := 1) hk hp kk ?_
  intro p e R s m args below meth c cells slots Q ls H locs hE hl hk' g
  subst hE
  exact lv_lstore_n h.1 h.2.1 d rfl hl hk' rfl g
theorem zk_iincG {k : Nat} {n : Int} {x : Int32} (h : zk_C v X E own cc dep) (d : zk_D cc pc pc' (.iinc k n) 3) (hx : lv[k]? = some (some (.int x))) (kk : zk_A v X E pc' (lv.set k (some (.int (x + Int32.ofInt n)))) st I J) : zk_A v X E pc lv st I J := by
  obtain ⟨p, e, R, s, m, args, below, meth, c, cells, slots, Q⟩ := E
  obtain ⟨d, rfl⟩ := d
  intro ls H locs hn hl hP hS
  have hk : k < lv.length := (List.getElem?_eq_some_iff.mp hx).1
  obtain ⟨j, hj⟩ := List.getElem?_of_mem (zk_lv_in lv 0 k _ hx)
  rw [Nat.zero_add] at hj
  refine lv_iinc h.1 h.2.1 d hl hj rfl (by rw [← hn]; exact hk) rfl (fun ls' hl' => kk ls' H locs (by rw [List.length_set]; exact hn) (zk_lv_st1 hk ?_ hl') hP hS)
  by_cases h0 : k = 0
  · exact Or.inl h0
  · right
    cases hz : lv[k - 1]? with
    | none => rfl
    | some o =>
      cases o with
      | none => rfl
      | some y =>
        have hy := zk_lv_at hl hz
        have hx2 := zk_lv_at hl hx
        by_cases hc : y.category = 2
        · have := hl.2.1.1 _ _ hy hc
          rw [show k - 1 + 1 = k by omega, hx2] at this
          cases this
        · simp [zk_n2, hc]
/-- a field's link: the class's own word, or a nest mate's -/
abbrev zk_fl (own : String) (idx ci j : Nat) (C : String) (T : u_T) (n : Nat) : Prop := zk_cl[ci]? = some (C, T, n) ∧ j < n ∧ (∀ w ∈ u_ws C T n, w ∈ zk_ws) ∧ (T j).1 = C ∧ (Cond.fieldLink own idx C (T j).2.1 (T j).2.2.1 ∈ zk_ws ∨ Cond.fieldLinkNest own idx C (T j).2.1 (T j).2.2.1 zk_host ∈ zk_nest)
theorem zk_getv {ci j idx k n : Nat} {C : String} {T : u_T} {fs : List (Option Nat)} {x : Value} (h : zk_C v X E own cc dep) (hf : zk_fl own idx ci j C T n) (hk : k < zk_N v) (hs : zk_sh v k = .inr (.inl (ci, fs))) (hx : (zk_fv X I k 0 fs)[j]? = some x) (d : zk_D cc pc pc' (.getfield idx) 3) (kk : zk_A v X E pc' lv (x :: st) I J) : zk_A v X E pc lv (.ref (zk_ad X k) :: st) I J := by
  obtain ⟨p, e, R, s, m, args, below, meth, c, cells, slots, Q⟩ := E
  obtain ⟨d, rfl⟩ := d
  obtain ⟨f1, f2, f3, f4, f5⟩ := hf
  intro ls H locs hn hl hP hS
  have hw : (zk_w v X I J)[k]? = some (zk_ad X k, .inr (ci, zk_fv X I k 0 fs)) := by rw [zk_w_get hk, hs]; rfl
  rcases f5 with f5 | f5
  · exact va_get h.1 h.2.1 h.2.2.2.1 f3 h.2.2.1 h.2.2.2.2.1.1 hP k hw f1 j f2 (h.2.2.2.1 _ f5) (fun x hx => by rw [f4] at hx; exact hx) hx d (kk ls H locs hn hl hP hS)
  · exact va_getN h.1 h.2.1 h.2.2.2.1 f3 h.2.2.1 h.2.2.2.2.1.1 hP k hw f1 j f2 (va_Nw.use rfl (h.2.2.2.2.1.2.2.1 _ f5)) (fun x hx => by rw [f4] at hx; exact hx) hx d (kk ls H locs hn hl hP hS)
theorem zk_geti {ci j idx k n : Nat} {C : String} {T : u_T} {fs : List (Option Nat)} (h : zk_C v X E own cc dep) (hf : zk_fl own idx ci j C T n) (hk : k < zk_N v) (hs : zk_sh v k = .inr (.inl (ci, fs))) (hx : fs[j]? = some none) (d : zk_D cc pc pc' (.getfield idx) 3) (kk : zk_A v X E pc' lv (.int (I k j) :: st) I J) : zk_A v X E pc lv (.ref (zk_ad X k) :: st) I J :=
  zk_getv h hf hk hs (by rw [zk_fv_i fs 0 j hx, Nat.zero_add]) d kk
theorem zk_getr {ci j idx k n q : Nat} {C : String} {T : u_T} {fs : List (Option Nat)} (h : zk_C v X E own cc dep) (hf : zk_fl own idx ci j C T n) (hk : k < zk_N v) (hs : zk_sh v k = .inr (.inl (ci, fs))) (hx : fs[j]? = some (some q)) (d : zk_D cc pc pc' (.getfield idx) 3) (kk : zk_A v X E pc' lv (.ref (zk_ad X q) :: st) I J) : zk_A v X E pc lv (.ref (zk_ad X k) :: st) I J :=
  zk_getv h hf hk hs (zk_fv_r fs 0 j hx) d kk
/-- a field that may be written -/
abbrev zk_fp (C : String) (T : u_T) (n j : Nat) (ty0 : Nat → FieldType) : Prop := (∀ k, k < n → parseFieldDescriptor (T k).2.2.1 = some (ty0 k)) ∧ (∀ a, a < n → ∀ b, b < n → a ≠ b → (T a).2.1 ≠ (T b).2.1) ∧ (T j).2.2.2 = false
theorem zk_puti {ci j idx k n : Nat} {C : String} {T : u_T} {ty0 : Nat → FieldType} {fs : List (Option Nat)} {x : Int32} (h : zk_C v X E own cc dep) (hf : zk_fl own idx ci j C T n) (hp : zk_fp C T n j ty0) (hk : k < zk_N v) (hs : zk_sh v k = .inr (.inl (ci, fs))) (hx : fs[j]? = some none) (hnr : narrow (ty0 j) (.int x) = .int x) (hft : fits (ty0 j) (.int x) = true) (d : zk_D cc pc pc' (.putfield idx) 3) (kk : zk_A v X E pc' lv st (zk_u I k (upd (I k) j x)) J) : zk_A v X E pc lv (.int x :: .ref (zk_ad X k) :: st) I J := by
  obtain ⟨p, e, R, s, m, args, below, meth, c, cells, slots, Q⟩ := E
  obtain ⟨d, rfl⟩ := d
  obtain ⟨f1, f2, f3, f4, f5⟩ := hf
  obtain ⟨p1, p2, p3⟩ := hp
  intro ls H locs hn hl hP hS
  have hw : (zk_w v X I J)[k]? = some (zk_ad X k, .inr (ci, zk_fv X I k 0 fs)) := by rw [zk_w_get hk, hs]; rfl
  have hj : j < fs.length := (List.getElem?_eq_some_iff.mp hx).1
  have hset : (zk_w v X I J).set k (zk_ad X k, .inr (ci, (zk_fv X I k 0 fs).set j (.int x))) = zk_w v X (zk_u I k (upd (I k) j x)) J := by
    rw [zk_fv_set fs 0 j hx, Nat.zero_add]
    exact zk_w_set (x := .inr (.inl (ci, fs))) hk (fun a ha => zk_u_n ha) (fun _ _ => rfl) hs
  rcases f5 with f5 | f5
  · refine va_put h.1 h.2.1 h.2.2.2.1 f3 ty0 p1 p2 h.2.2.1 h.2.2.2.2.1.1 hP (h.2.2.2.2.1.2.2.2.2 I J) hS k hw f1 j f2 (h.2.2.2.1 _ f5) (fun x hx => by rw [f4] at hx; exact hx) p3 (p1 j f2) hnr hft (by rw [zk_fv_len]; exact hj) d (fun H1 locs1 hP1 hD1 hS1 => kk ls H1 locs1 hn hl (by rw [← hset]; exact hP1) hS1)
  · refine va_putN h.1 h.2.1 h.2.2.2.1 f3 ty0 p1 p2 h.2.2.1 h.2.2.2.2.1.1 hP (h.2.2.2.2.1.2.2.2.2 I J) hS k hw f1 j f2 (va_Nw.use rfl (h.2.2.2.2.1.2.2.1 _ f5)) (fun x hx => by rw [f4] at hx; exact hx) p3 (p1 j f2) hnr hft (by rw [zk_fv_len]; exact hj) d (fun H1 locs1 hP1 hD1 hS1 => kk ls H1 locs1 hn hl (by rw [← hset]; exact hP1) hS1)
theorem zk_iald {k n : Nat} {i : Int32} (h : zk_C v X E own cc dep) (hk : k < zk_N v) (hs : zk_sh v k = .inl (0, n)) (hi : vp_in i n) (d : zk_D cc pc pc' .iaload 1) (kk : zk_A v X E pc' lv (.int (I k i.toNatClampNeg) :: st) I J) : zk_A v X E pc lv (.int i :: .ref (zk_ad X k) :: st) I J := by
  obtain ⟨p, e, R, s, m, args, below, meth, c, cells, slots, Q⟩ := E
  obtain ⟨d, rfl⟩ := d
  intro ls H locs hn hl hP hS
  have hw : (zk_w v X I J)[k]? = some (zk_ad X k, .inl (X.2.2.2.1 0, n, .inl (I k))) := by rw [zk_w_get hk, hs]; rfl
  exact va_iald h.1 h.2.1 h.2.2.2.2.1.1 hP k 0 hw rfl hi d (kk ls H locs hn hl hP hS)
theorem zk_bald {k n : Nat} {i : Int32} (h : zk_C v X E own cc dep) (hk : k < zk_N v) (hs : zk_sh v k = .inl (1, n)) (hi : vp_in i n) (d : zk_D cc pc pc' .baload 1) (kk : zk_A v X E pc' lv (.int (I k i.toNatClampNeg) :: st) I J) : zk_A v X E pc lv (.int i :: .ref (zk_ad X k) :: st) I J := by
  obtain ⟨p, e, R, s, m, args, below, meth, c, cells, slots, Q⟩ := E
  obtain ⟨d, rfl⟩ := d
  intro ls H locs hn hl hP hS
  have hw : (zk_w v X I J)[k]? = some (zk_ad X k, .inl (X.2.2.2.1 1, n, .inl (I k))) := by rw [zk_w_get hk, hs]; rfl
  exact va_bald h.1 h.2.1 h.2.2.2.2.1.1 hP k 1 hw rfl hi d (kk ls H locs hn hl hP hS)
theorem zk_lald {k n : Nat} {i : Int32} (h : zk_C v X E own cc dep) (hk : k < zk_N v) (hs : zk_sh v k = .inl (2, n)) (hi : vp_in i n) (d : zk_D cc pc pc' .laload 1) (kk : zk_A v X E pc' lv (.long (J k i.toNatClampNeg) :: st) I J) : zk_A v X E pc lv (.int i :: .ref (zk_ad X k) :: st) I J := by
  obtain ⟨p, e, R, s, m, args, below, meth, c, cells, slots, Q⟩ := E
  obtain ⟨d, rfl⟩ := d
  intro ls H locs hn hl hP hS
  have hw : (zk_w v X I J)[k]? = some (zk_ad X k, .inl (X.2.2.2.1 2, n, .inr (.inl (J k)))) := by rw [zk_w_get hk, hs]; rfl
  exact va_lald h.1 h.2.1 h.2.2.2.2.1.1 hP k 2 hw rfl hi d (kk ls H locs hn hl hP hS)
theorem zk_iast {k n : Nat} {i x : Int32} (h : zk_C v X E own cc dep) (hk : k < zk_N v) (hs : zk_sh v k = .inl (0, n)) (hi : vp_in i n) (d : zk_D cc pc pc' .iastore 1) (kk : zk_A v X E pc' lv st (zk_u I k (upd (I k) i.toNatClampNeg x)) J) : zk_A v X E pc lv (.int x :: .int i :: .ref (zk_ad X k) :: st) I J := by
  obtain ⟨p, e, R, s, m, args, below, meth, c, cells, slots, Q⟩ := E
  obtain ⟨d, rfl⟩ := d
  intro ls H locs hn hl hP hS
  have hw : (zk_w v X I J)[k]? = some (zk_ad X k, .inl (X.2.2.2.1 0, n, .inl (I k))) := by rw [zk_w_get hk, hs]; rfl
  have hset : (zk_w v X I J).set k (zk_ad X k, .inl (X.2.2.2.1 0, n, .inl (upd (I k) i.toNatClampNeg x))) = zk_w v X (zk_u I k (upd (I k) i.toNatClampNeg x)) J := by
    have := zk_w_set (v := v) (X := X) (I := I) (I' := zk_u I k (upd (I k) i.toNatClampNeg x)) (J := J) (J' := J) (x := .inl (0, n)) hk (fun a ha => zk_u_n ha) (fun _ _ => rfl) hs
    simpa only [zk_e, zk_u_s] using this
  exact va_iast h.1 h.2.1 h.2.2.2.2.1.1 hP (h.2.2.2.2.1.2.2.2.2 I J) hS k 0 hw rfl hi d (fun H1 locs1 hP1 hD1 hS1 => kk ls H1 locs1 hn hl (by rw [← hset]; exact hP1) hS1)
theorem zk_bast {k n : Nat} {i x : Int32} (h : zk_C v X E own cc dep) (hk : k < zk_N v) (hs : zk_sh v k = .inl (1, n)) (hi : vp_in i n) (d : zk_D cc pc pc' .bastore 1) (kk : zk_A v X E pc' lv st (zk_u I k (upd (I k) i.toNatClampNeg x.toInt8.toInt32)) J) : zk_A v X E pc lv (.int x :: .int i :: .ref (zk_ad X k) :: st) I J := by
  obtain ⟨p, e, R, s, m, args, below, meth, c, cells, slots, Q⟩ := E
  obtain ⟨d, rfl⟩ := d
  intro ls H locs hn hl hP hS
  have hw : (zk_w v X I J)[k]? = some (zk_ad X k, .inl (X.2.2.2.1 1, n, .inl (I k))) := by rw [zk_w_get hk, hs]; rfl
  have hset : (zk_w v X I J).set k (zk_ad X k, .inl (X.2.2.2.1 1, n, .inl (upd (I k) i.toNatClampNeg (vp_nar .byte x)))) = zk_w v X (zk_u I k (upd (I k) i.toNatClampNeg x.toInt8.toInt32)) J := by
    have := zk_w_set (v := v) (X := X) (I := I) (I' := zk_u I k (upd (I k) i.toNatClampNeg x.toInt8.toInt32)) (J := J) (J' := J) (x := .inl (1, n)) hk (fun a ha => zk_u_n ha) (fun _ _ => rfl) hs
    rw [vp_nar_byte]
    simpa only [zk_e, zk_u_s] using this
  exact va_bast h.1 h.2.1 h.2.2.2.2.1.1 hP (h.2.2.2.2.1.2.2.2.2 I J) hS k 1 hw rfl hi d (fun H1 locs1 hP1 hD1 hS1 => kk ls H1 locs1 hn hl (by rw [← hset]; exact hP1) hS1)
theorem zk_last {k n : Nat} {i : Int32} {x : Int64} (h : zk_C v X E own cc dep) (hk : k < zk_N v) (hs : zk_sh v k = .inl (2, n)) (hi : vp_in i n) (d : zk_D cc pc pc' .lastore 1) (kk : zk_A v X E pc' lv st I (zk_u J k (vp_updL (J k) i.toNatClampNeg x))) : zk_A v X E pc lv (.long x :: .int i :: .ref (zk_ad X k) :: st) I J := by
  obtain ⟨p, e, R, s, m, args, below, meth, c, cells, slots, Q⟩ := E
  obtain ⟨d, rfl⟩ := d
  intro ls H locs hn hl hP hS
  have hw : (zk_w v X I J)[k]? = some (zk_ad X k, .inl (X.2.2.2.1 2, n, .inr (.inl (J k)))) := by rw [zk_w_get hk, hs]; rfl
  have hset : (zk_w v X I J).set k (zk_ad X k, .inl (X.2.2.2.1 2, n, .inr (.inl (vp_updL (J k) i.toNatClampNeg x)))) = zk_w v X I (zk_u J k (vp_updL (J k) i.toNatClampNeg x)) := by
    have := zk_w_set (v := v) (X := X) (I := I) (I' := I) (J := J) (J' := zk_u J k (vp_updL (J k) i.toNatClampNeg x)) (x := .inl (2, n)) hk (fun _ _ => rfl) (fun a ha => zk_u_n ha) hs
    simpa only [zk_e, zk_u_s] using this
  exact va_last h.1 h.2.1 h.2.2.2.2.1.1 hP (h.2.2.2.2.1.2.2.2.2 I J) hS k 2 hw rfl hi d (fun H1 locs1 hP1 hD1 hS1 => kk ls H1 locs1 hn hl (by rw [← hset]; exact hP1) hS1)
theorem zk_aald {k n t p0 : Nat} {ty : FieldType} {i : Int32} (h : zk_C v X E own cc dep) (hk : k < zk_N v) (hs : zk_sh v k = .inr (.inr (t, n, p0))) (ht : (zk_tys X)[t]? = some (X.2.2.2.1 t, ty)) (hr : ty.isReference = true) (hi : vp_in i n) (d : zk_D cc pc pc' .aaload 1) (kk : zk_A v X E pc' lv (.ref (zk_ad X (p0 + i.toNatClampNeg)) :: st) I J) : zk_A v X E pc lv (.int i :: .ref (zk_ad X k) :: st) I J := by
  obtain ⟨p, e, R, s, m, args, below, meth, c, cells, slots, Q⟩ := E
  obtain ⟨d, rfl⟩ := d
  intro ls H locs hn hl hP hS
  have hw : (zk_w v X I J)[k]? = some (zk_ad X k, .inl (X.2.2.2.1 t, n, .inr (.inr (.inr (.inr fun i => some (zk_ad X (p0 + i))))))) := by rw [zk_w_get hk, hs]; rfl
  have hlt : i.toNatClampNeg < n := Nat.not_le.mp fun q => hi (Or.inr q)
  exact W.aald (v := .ref (zk_ad X (p0 + i.toNatClampNeg))) (ty := ty) h.1 h.2.1 (hP k _ hw) ((h.2.2.2.2.1.1.2 t _ ht).1 n (fun j => va_rf (some (zk_ad X (p0 + j))))) hr (fun q => by cases q) (by show ¬ (i < 0 ∨ (arrV _ _ _).slots.size ≤ _); rw [arrV_size]; exact hi) (by show (arrV _ _ _).slots[_]? = _; rw [arrV_read _ _ hlt]; rfl) rfl rfl d (kk ls H locs hn hl hP hS)
theorem zk_alen {k n t : Nat} (h : zk_C v X E own cc dep) (hk : k < zk_N v) (hs : zk_sh v k = .inl (t, n)) (ht : t < 3) (d : zk_D cc pc pc' .arraylength 1) (kk : zk_A v X E pc' lv (.int (nI n) :: st) I J) : zk_A v X E pc lv (.ref (zk_ad X k) :: st) I J := by
  obtain ⟨p, e, R, s, m, args, below, meth, c, cells, slots, Q⟩ := E
  obtain ⟨d, rfl⟩ := d
  intro ls H locs hn hl hP hS
  have hw := zk_w_get (v := v) (X := X) (I := I) (J := J) hk
  rw [hs] at hw
  match t, ht with
  | 0, _ => exact W.alen (n := nI n) h.1 h.2.1 (hP k _ hw) ((h.2.2.2.2.1.1.2 0 _ rfl).1 n (fun j => .int (I k j))) (by show (arrV _ _ _).slots.size.toInt32 = _; rw [arrV_size]; rfl) rfl rfl d (kk ls H locs hn hl hP hS)
  | 1, _ => exact W.alen (n := nI n) h.1 h.2.1 (hP k _ hw) ((h.2.2.2.2.1.1.2 1 _ rfl).1 n (fun j => .int (I k j))) (by show (arrV _ _ _).slots.size.toInt32 = _; rw [arrV_size]; rfl) rfl rfl d (kk ls H locs hn hl hP hS)
  | 2, _ => exact W.alen (n := nI n) h.1 h.2.1 (hP k _ hw) ((h.2.2.2.2.1.1.2 2 _ rfl).1 n (fun j => .long (J k j))) (by show (arrV _ _ _).slots.size.toInt32 = _; rw [arrV_size]; rfl) rfl rfl d (kk ls H locs hn hl hP hS)
/-- static arrays -/
theorem zk_gets {idx j : Nat} {q : String × String × String × FieldType × Nat × (Nat → Value)} (h : zk_C v X E own cc dep) (hq : zk_stats[j]? = some q) (hlk : Cond.fieldLink own idx q.1 q.2.1 q.2.2.1 ∈ zk_ws ∨ Cond.fieldLinkNest own idx q.1 q.2.1 q.2.2.1 zk_host ∈ zk_nest) (d : zk_D cc pc pc' (.getstatic idx) 3) (kk : zk_A v X E pc' lv (.ref (zk_sa X j) :: st) I J) : zk_A v X E pc lv st I J := by
  obtain ⟨p, e, R, s, m, args, below, meth, c, cells, slots, Q⟩ := E
  obtain ⟨d, rfl⟩ := d
  intro ls H locs hn hl hP hS
  rcases hlk with hlk | hlk
  · exact va_gets h.1 h.2.1 (h.2.2.2.2.1.2.1 j q hq).1 hS h.2.2.1 (h.2.2.2.1 _ hlk) (fun _ h9 => h9) d (kk ls H locs hn hl hP hS)
  · exact va_getsN h.1 h.2.1 (h.2.2.2.2.1.2.1 j q hq).1 hS h.2.2.1 (va_Nw.use rfl (h.2.2.2.2.1.2.2.1 _ hlk)) (fun _ h9 => h9) d (kk ls H locs hn hl hP hS)
theorem zk_ti {j n : Nat} {C nm ds : String} {f : Nat → Value} {i : Int32} {x : Value} (h : zk_C v X E own cc dep) (hq : zk_stats[j]? = some (C, nm, ds, .int, n, f)) (hi : vp_in i n) (hx : f i.toNatClampNeg = x) (d : zk_D cc pc pc' .iaload 1) (kk : zk_A v X E pc' lv (x :: st) I J) : zk_A v X E pc lv (.int i :: .ref (zk_sa X j) :: st) I J := by
  obtain ⟨p, e, R, s, m, args, below, meth, c, cells, slots, Q⟩ := E
  obtain ⟨d, rfl⟩ := d
  intro ls H locs hn hl hP hS
  exact va_ti h.1 h.2.1 (h.2.2.2.2.1.2.1 j _ hq).2 hS hi hx d (kk ls H locs hn hl hP hS)
theorem zk_tl {j n : Nat} {C nm ds : String} {f : Nat → Value} {i : Int32} {x : Value} (h : zk_C v X E own cc dep) (hq : zk_stats[j]? = some (C, nm, ds, .long, n, f)) (hi : vp_in i n) (hx : f i.toNatClampNeg = x) (d : zk_D cc pc pc' .laload 1) (kk : zk_A v X E pc' lv (x :: st) I J) : zk_A v X E pc lv (.int i :: .ref (zk_sa X j) :: st) I J := by
  obtain ⟨p, e, R, s, m, args, below, meth, c, cells, slots, Q⟩ := E
  obtain ⟨d, rfl⟩ := d
  intro ls H locs hn hl hP hS
  exact va_tl h.1 h.2.1 (h.2.2.2.2.1.2.1 j _ hq).2 hS hi hx d (kk ls H locs hn hl hP hS)
/-- calls -/
theorem zk_run {r : Option Value} {a : Array Value} {p : Program} {e : Env} {R : Room} {s : State} {m : MethodId} {args : Array Value} {below : List Frame} {meth : Method} {c : Code} {cells slots : Nat} {Q : State → Prop} {ls : Array Slot} {H : Heap} {locs : List Loc} {st0 rest : List Value}
    (hr : va_Run p X.1 e R s m args below meth c H locs cells slots 0 0 (F0 m pc ls st0) rest (zk_Q v X r I' J' a) (fun q => X.2.1 ≤ q)) (hS : va_S (fun q => X.2.1 ≤ q) s.heap H locs)
    (kk : ∀ (H1 : Heap) (locs1 : List Loc), va_P X.2.2.1 zk_cl (zk_w v X I' J') H1 → va_S (fun q => X.2.1 ≤ q) s.heap H1 locs1 → W p X.1 e R s m args below meth c H1 locs1 cells slots Q (F0 m (pc + 3) ls (r.toList ++ rest))) : W p X.1 e R s m args below meth c H locs cells slots Q (F0 m pc ls st0) := by
  intro T hT Y
  obtain ⟨x, st₀, t, T', L, h0, X', hL, e1, e2, ⟨hv, hP, hz, hk⟩, go⟩ := hr T hT Y
  cases hv
  rw [h0] at hz hk
  obtain ⟨t2, a1, b1⟩ := kk T'.heap (locs ++ L) (by rw [e1]; exact hP) ⟨Nat.le_trans hS.1 (by rw [e1]; exact hz), fun q h1 h2 => by rw [e1, hk q (Nat.lt_of_lt_of_le h1 hS.1) h2]; exact hS.2.1 q h1 h2, fun q hq => by
      rcases List.mem_append.mp hq with h | h
      · exact hS.2.2 q h
      · exact hL q h⟩ T' rfl X'
  exact ⟨t2, go t2 a1, b1⟩
abbrev zk_ml (own : String) (idx : Nat) (y : MethodName) : Prop := Cond.methodLink own idx y ∈ zk_ws ∨ Cond.methodLinkNest own idx y zk_host ∈ zk_nest
/-- what a method is: an instance's, a static one -/
abbrev zk_mi (y : MethodName) (b : ByteArray) (maxL : Nat) (ret : Option FieldType) (n : Nat) : Prop := Cond.instanceMethod y ∈ zk_ws ∧ Cond.selects y.cls y y ∈ zk_ws ∧ Cond.initialized y.cls ∈ zk_ws ∧ Cond.code y b maxL ret ∈ zk_ws ∧ (y.cls ≠ "java/lang/invoke/MethodHandle" ∧ y.cls ≠ "java/lang/invoke/VarHandle" ∧ (parseMethodDescriptor y.desc).map (fun d => d.parameters.length) = some n)
abbrev zk_ms (y : MethodName) (b : ByteArray) (maxL : Nat) (ret : Option FieldType) (n : Nat) : Prop := Cond.static y ∈ zk_ws ∧ Cond.initialized y.cls ∈ zk_ws ∧ Cond.code y b maxL ret ∈ zk_ws ∧ (y.cls ≠ "java/lang/invoke/MethodHandle" ∧ y.cls ≠ "java/lang/invoke/VarHandle" ∧ (parseMethodDescriptor y.desc).map (fun d => d.parameters.length) = some n)
theorem zk_callV {idx k ci n maxL : Nat} {dy : Nat × Nat} {y : MethodName} {b : ByteArray} {ret : Option FieldType} {fs : List (Option Nat)} {as rest : List Value} {r : Option Value} (h : zk_C v X E own cc dep) (hl : zk_ml own idx y) (hi : zk_mi y b maxL ret n) (hM : zk_M v X y b maxL ret dy (.ref (zk_ad X k) :: as) I J r I' J') (hd : dy.1 + 1 ≤ dep.1 ∧ 8 + (maxL + 11) + dy.2 ≤ dep.2) (hk : k < zk_N v) (hs : zk_sh v k = .inr (.inl (ci, fs))) (hc : (zk_cl[ci]?).map (fun q => q.1) = some y.cls) (hn : as.length = n) (hst : st = as.reverse ++ .ref (zk_ad X k) :: rest) (hcat : (rest.map fun v => v.category).sum ≤ 8) (d : zk_D cc pc pc' (.invokevirtual idx) 3) (kk : zk_A v X E pc' lv (r.toList ++ rest) I' J') : zk_A v X E pc lv st I J := by
  obtain ⟨p, e, R, s, m, args, below, meth, c, cells, slots, Q⟩ := E
  obtain ⟨d, rfl⟩ := d
  subst hst
  obtain ⟨i1, i2, i3, i4, i5⟩ := hi
  obtain ⟨c1, c2, c3, c4, c5, c6, c7, c8, c9⟩ := h
  intro ls H locs hnl hll hP hS
  have hw : (zk_w v X I J)[k]? = some (zk_ad X k, .inr (ci, zk_fv X I k 0 fs)) := by rw [zk_w_get hk, hs]; rfl
  have hR : (zk_rm dy).frames + 1 ≤ R.frames ∧ 8 + (maxL + 11) + (zk_rm dy).locals ≤ R.locals := by
    exact ⟨Nat.le_trans hd.1 c6, Nat.le_trans hd.2 c7⟩
  have hp : PreV s H y.cls (zk_ad X k) (va_Pc (.ref (zk_ad X k) :: as) (fun U => zk_G v X U ∧ va_P X.2.2.1 zk_cl (zk_w v X I J) U.heap)) as := by
    refine ⟨fun a U g mk q => ⟨q.1, q.2.1.blind, q.2.2⟩, ?_, fun U hU hW => ⟨rfl, c5.go hU hS hW, by rw [hU]; exact hP⟩⟩
    cases hq : zk_cl[ci]? with
    | none => rw [hq] at hc; cases hc
    | some q =>
      rw [hq] at hc
      have := va_recv c5.1 hP hq hw
      rw [show q.1 = y.cls from Option.some.inj hc] at this
      exact this
  rcases hl with hl | hl
  · refine zk_run (va_runV (cc := cc) (nL := c.maxLocals) (Ts := zk_ws) ⟨c1, c2, rfl, c3, c4⟩ hM ⟨callB_of n c4 (zk_goodIn i4) rfl rfl rfl (c4 _ i3) (c4 _ hl) i5 hR, c4 _ i1, c4 _ i2⟩ hp rfl hn hll.1 rfl (lv_room hcat) d ⟨c8, c9⟩) hS (fun H1 locs1 hP1 hS1 => kk ls H1 locs1 hnl hll hP1 hS1)
  · refine zk_run (va_runVN (cc := cc) (nL := c.maxLocals) (Ts := zk_ws) ⟨c1, c2, rfl, c3, c4⟩ hM ⟨va_cnB n c4 (zk_goodIn i4) rfl rfl rfl (c5.2.2.1 _ hl) (c4 _ i3) i5 hR, c4 _ i1, c4 _ i2⟩ hp rfl hn hll.1 rfl (lv_room hcat) d ⟨c8, c9⟩) hS (fun H1 locs1 hP1 hS1 => kk ls H1 locs1 hnl hll hP1 hS1)
theorem zk_callS {idx n maxL : Nat} {dy : Nat × Nat} {y : MethodName} {b : ByteArray} {ret : Option FieldType} {as rest : List Value} {r : Option Value} (h : zk_C v X E own cc dep) (hl : zk_ml own idx y) (hi : zk_ms y b maxL ret n) (hM : zk_M v X y b maxL ret dy as I J r I' J') (hd : dy.1 + 1 ≤ dep.1 ∧ 8 + (maxL + 11) + dy.2 ≤ dep.2) (hn : as.length = n) (hst : st = as.reverse ++ rest) (hcat : (rest.map fun v => v.category).sum ≤ 8) (d : zk_D cc pc pc' (.invokestatic idx) 3) (kk : zk_A v X E pc' lv (r.toList ++ rest) I' J') : zk_A v X E pc lv st I J := by
  obtain ⟨p, e, R, s, m, args, below, meth, c, cells, slots, Q⟩ := E
  obtain ⟨d, rfl⟩ := d
  subst hst
  obtain ⟨i1, i3, i4, i5⟩ := hi
  obtain ⟨c1, c2, c3, c4, c5, c6, c7, c8, c9⟩ := h
  intro ls H locs hnl hll hP hS
  have hR : (zk_rm dy).frames + 1 ≤ R.frames ∧ 8 + (maxL + 11) + (zk_rm dy).locals ≤ R.locals := by
    exact ⟨Nat.le_trans hd.1 c6, Nat.le_trans hd.2 c7⟩
  have hp : PreS s H (va_Pc as (fun U => zk_G v X U ∧ va_P X.2.2.1 zk_cl (zk_w v X I J) U.heap)) as :=
    ⟨fun a U g mk q => ⟨q.1, q.2.1.blind, q.2.2⟩, fun U hU hW => ⟨rfl, c5.go hU hS hW, by rw [hU]; exact hP⟩⟩
  rcases hl with hl | hl
  · refine zk_run (va_runS (cc := cc) (nL := c.maxLocals) (Ts := zk_ws) ⟨c1, c2, rfl, c3, c4⟩ hM ⟨callB_of n c4 (zk_goodIn i4) rfl rfl rfl (c4 _ i3) (c4 _ hl) i5 hR, c4 _ i1⟩ hp rfl hn hll.1 rfl (lv_room hcat) d ⟨c8, c9⟩) hS (fun H1 locs1 hP1 hS1 => kk ls H1 locs1 hnl hll hP1 hS1)
  · refine zk_run (va_runSN (cc := cc) (nL := c.maxLocals) (Ts := zk_ws) ⟨c1, c2, rfl, c3, c4⟩ hM ⟨va_cnB n c4 (zk_goodIn i4) rfl rfl rfl (c5.2.2.1 _ hl) (c4 _ i3) i5 hR, c4 _ i1, trivial⟩ hp rfl hn hll.1 rfl (lv_room hcat) d ⟨c8, c9⟩) hS (fun H1 locs1 hP1 hS1 => kk ls H1 locs1 hnl hll hP1 hS1)
theorem zk_callS0 {idx n maxL : Nat} {dy : Nat × Nat} {y : MethodName} {b : ByteArray} {ret : Option FieldType} {as rest : List Value} (h : zk_C v X E own cc dep) (hl : zk_ml own idx y) (hi : zk_ms y b maxL ret n) (hM : zk_M v X y b maxL ret dy as I J none I' J') (hd : dy.1 + 1 ≤ dep.1 ∧ 8 + (maxL + 11) + dy.2 ≤ dep.2) (hn : as.length = n) (hst : st = as.reverse ++ rest) (hcat : (rest.map fun v => v.category).sum ≤ 8) (d : zk_D cc pc pc' (.invokestatic idx) 3) (kk : zk_A v X E pc' lv rest I' J') : zk_A v X E pc lv st I J := zk_callS h hl hi hM hd hn hst hcat d kk
theorem zk_callS1 {idx n maxL : Nat} {dy : Nat × Nat} {y : MethodName} {b : ByteArray} {ret : Option FieldType} {as rest : List Value} {x : Value} (h : zk_C v X E own cc dep) (hl : zk_ml own idx y) (hi : zk_ms y b maxL ret n) (hM : zk_M v X y b maxL ret dy as I J (some x) I' J') (hd : dy.1 + 1 ≤ dep.1 ∧ 8 + (maxL + 11) + dy.2 ≤ dep.2) (hn : as.length = n) (hst : st = as.reverse ++ rest) (hcat : (rest.map fun v => v.category).sum ≤ 8) (d : zk_D cc pc pc' (.invokestatic idx) 3) (kk : zk_A v X E pc' lv (x :: rest) I' J') : zk_A v X E pc lv st I J := zk_callS h hl hi hM hd hn hst hcat d kk
theorem zk_callV0 {idx k ci n maxL : Nat} {dy : Nat × Nat} {y : MethodName} {b : ByteArray} {ret : Option FieldType} {fs : List (Option Nat)} {as rest : List Value} (h : zk_C v X E own cc dep) (hl : zk_ml own idx y) (hi : zk_mi y b maxL ret n) (hM : zk_M v X y b maxL ret dy (.ref (zk_ad X k) :: as) I J none I' J') (hd : dy.1 + 1 ≤ dep.1 ∧ 8 + (maxL + 11) + dy.2 ≤ dep.2) (hk : k < zk_N v) (hs : zk_sh v k = .inr (.inl (ci, fs))) (hc : (zk_cl[ci]?).map (fun q => q.1) = some y.cls) (hn : as.length = n) (hst : st = as.reverse ++ .ref (zk_ad X k) :: rest) (hcat : (rest.map fun v => v.category).sum ≤ 8) (d : zk_D cc pc pc' (.invokevirtual idx) 3) (kk : zk_A v X E pc' lv rest I' J') : zk_A v X E pc lv st I J := zk_callV h hl hi hM hd hk hs hc hn hst hcat d kk
theorem zk_callV1 {idx k ci n maxL : Nat} {dy : Nat × Nat} {y : MethodName} {b : ByteArray} {ret : Option FieldType} {fs : List (Option Nat)} {as rest : List Value} {x : Value} (h : zk_C v X E own cc dep) (hl : zk_ml own idx y) (hi : zk_mi y b maxL ret n) (hM : zk_M v X y b maxL ret dy (.ref (zk_ad X k) :: as) I J (some x) I' J') (hd : dy.1 + 1 ≤ dep.1 ∧ 8 + (maxL + 11) + dy.2 ≤ dep.2) (hk : k < zk_N v) (hs : zk_sh v k = .inr (.inl (ci, fs))) (hc : (zk_cl[ci]?).map (fun q => q.1) = some y.cls) (hn : as.length = n) (hst : st = as.reverse ++ .ref (zk_ad X k) :: rest) (hcat : (rest.map fun v => v.category).sum ≤ 8) (d : zk_D cc pc pc' (.invokevirtual idx) 3) (kk : zk_A v X E pc' lv (x :: rest) I' J') : zk_A v X E pc lv st I J := zk_callV h hl hi hM hd hk hs hc hn hst hcat d kk
/-- returns -/
theorem zk_iret {x : Int32} {r : Option Value} (h : zk_C v X E own cc dep) (hq : zk_R v X E (some .int) r I' J') (hr : r = some (.int x)) (hI : I' = I) (hJ : J' = J) (d : zk_D cc pc pc' .ireturn 1) : zk_A v X E pc lv [.int x] I J := by
  obtain ⟨p, e, R, s, m, args, below, meth, c, cells, slots, Q⟩ := E
  obtain ⟨rfl, rfl, rfl, hrt, hlk⟩ := hq
  subst hr; subst hI; subst hJ
  intro ls H locs hn hl hP hS
  exact W.iret h.1 h.2.1 hrt (fun t ht hW => ⟨rfl, by rw [ht]; exact hP, hS.F ht⟩) hS.2.2 d.1 hlk
theorem zk_zret {x : Int32} {r : Option Value} (h : zk_C v X E own cc dep) (hq : zk_R v X E (some .boolean) r I' J') (hr : r = some (.int x)) (hn : narrow .boolean (.int x) = .int x) (hI : I' = I) (hJ : J' = J) (d : zk_D cc pc pc' .ireturn 1) : zk_A v X E pc lv [.int x] I J := by
  obtain ⟨p, e, R, s, m, args, below, meth, c, cells, slots, Q⟩ := E
  obtain ⟨rfl, rfl, rfl, hrt, hlk⟩ := hq
  subst hr; subst hI; subst hJ
  intro ls H locs hn' hl hP hS
  exact W.zret h.1 h.2.1 hrt hn (fun t ht hW => ⟨rfl, by rw [ht]; exact hP, hS.F ht⟩) hS.2.2 d.1 hlk
theorem zk_lret {x : Int64} {r : Option Value} (h : zk_C v X E own cc dep) (hq : zk_R v X E (some .long) r I' J') (hr : r = some (.long x)) (hI : I' = I) (hJ : J' = J) (d : zk_D cc pc pc' .lreturn 1) : zk_A v X E pc lv [.long x] I J := by
  obtain ⟨p, e, R, s, m, args, below, meth, c, cells, slots, Q⟩ := E
  obtain ⟨rfl, rfl, rfl, hrt, hlk⟩ := hq
  subst hr; subst hI; subst hJ
  intro ls H locs hn hl hP hS
  exact W.lret h.1 h.2.1 hrt (fun t ht hW => ⟨rfl, by rw [ht]; exact hP, hS.F ht⟩) hS.2.2 d.1 hlk
theorem zk_aret {x : Nat} {rt : FieldType} {r : Option Value} (h : zk_C v X E own cc dep) (hq : zk_R v X E (some rt) r I' J') (hrt : (∃ n, rt = .object n) ∨ ∃ t, rt = .array t) (hr : r = some (.ref x)) (hI : I' = I) (hJ : J' = J) (d : zk_D cc pc pc' .areturn 1) : zk_A v X E pc lv [.ref x] I J := by
  obtain ⟨p, e, R, s, m, args, below, meth, c, cells, slots, Q⟩ := E
  obtain ⟨rfl, rfl, rfl, hrt2, hlk⟩ := hq
  subst hr; subst hI; subst hJ
  intro ls H locs hn hl hP hS
  exact W.aret h.1 h.2.1 hrt2 hrt (Or.inr ⟨_, rfl⟩) (fun t ht hW => ⟨rfl, by rw [ht]; exact hP, hS.F ht⟩) hS.2.2 d.1 hlk
theorem zk_vret {r : Option Value} (h : zk_C v X E own cc dep) (hq : zk_R v X E none r I' J') (hr : r = none) (hI : I' = I) (hJ : J' = J) (d : zk_D cc pc pc' .return_ 1) : zk_A v X E pc lv [] I J := by
  obtain ⟨p, e, R, s, m, args, below, meth, c, cells, slots, Q⟩ := E
  obtain ⟨rfl, rfl, rfl, hrt, hlk⟩ := hq
  subst hr; subst hI; subst hJ
  intro ls H locs hn hl hP hS
  exact W.vret h.1 h.2.1 hrt (fun t ht hW => ⟨rfl, by rw [ht]; exact hP, hS.F ht⟩) hS.2.2 d.1 hlk
/-- Math.min, Math.max -/
theorem zk_mmin {idx : Nat} {x y : Int32} (h : zk_C v X E own cc dep) (hd : 1 ≤ dep.1 ∧ 21 ≤ dep.2) (h1 : Cond.methodLink own idx Lib.Math.min.name ∈ zk_ws) (h2 : Cond.static Lib.Math.min.name ∈ zk_ws ∧ Cond.initialized "java/lang/Math" ∈ zk_ws ∧ Cond.code Lib.Math.min.name Lib.Math.min.code 2 (some .int) ∈ zk_ws) (hcat : (st.map fun v => v.category).sum ≤ 8) (d : zk_D cc pc pc' (.invokestatic idx) 3) (kk : zk_A v X E pc' lv (.int (if y < x then y else x) :: st) I J) : zk_A v X E pc lv (.int y :: .int x :: st) I J := by
  obtain ⟨p, e, R, s, m, args, below, meth, c, cells, slots, Q⟩ := E
  obtain ⟨d, rfl⟩ := d
  obtain ⟨c1, c2, c3, c4, c5, c6, c7, c8, c9⟩ := h
  intro ls H locs hn hl hP hS
  exact va_mmin c1 c2 hl.1.symm c3 (c4 _ h1) (c4 _ h2.1) (c4 _ h2.2.1) (c4 _ h2.2.2) (by omega) (by omega) c8 c9 d (kk ls H locs hn hl hP hS)
theorem zk_mmax {idx : Nat} {x y : Int32} (h : zk_C v X E own cc dep) (hd : 1 ≤ dep.1 ∧ 21 ≤ dep.2) (h1 : Cond.methodLink own idx Lib.Math.max.name ∈ zk_ws) (h2 : Cond.static Lib.Math.max.name ∈ zk_ws ∧ Cond.initialized "java/lang/Math" ∈ zk_ws ∧ Cond.code Lib.Math.max.name Lib.Math.max.code 2 (some .int) ∈ zk_ws) (hcat : (st.map fun v => v.category).sum ≤ 8) (d : zk_D cc pc pc' (.invokestatic idx) 3) (kk : zk_A v X E pc' lv (.int (if x < y then y else x) :: st) I J) : zk_A v X E pc lv (.int y :: .int x :: st) I J := by
  obtain ⟨p, e, R, s, m, args, below, meth, c, cells, slots, Q⟩ := E
  obtain ⟨d, rfl⟩ := d
  obtain ⟨c1, c2, c3, c4, c5, c6, c7, c8, c9⟩ := h
  intro ls H locs hn hl hP hS
  exact va_mmax c1 c2 hl.1.symm c3 (c4 _ h1) (c4 _ h2.1) (c4 _ h2.2.1) (c4 _ h2.2.2) (by omega) (by omega) c8 c9 d (kk ls H locs hn hl hP hS)
end ZK
end
section
section ZP
variable {v : Nat} {X : zk_X} {E : zk_E} {own : String} {cc : ByteArray} {dep : Nat × Nat} {pc pc' : Nat} {lv : List (Option Value)} {st : List Value} {I I' : zk_I} {J J' : zk_J}
/-- fewer locals are known -/
theorem zk_fg (k : Nat) (kk : zk_A v X E pc (lv.set k none) st I J) : zk_A v X E pc lv st I J := by
  obtain ⟨p, e, R, s, m, args, below, meth, c, cells, slots, Q⟩ := E
  intro ls H locs hn hl hP hS
  refine kk ls H locs (by rw [List.length_set]; exact hn) ⟨hl.1, hl.2.1, fun q hq => hl.2.2 q ?_⟩ hP hS
  obtain ⟨j, h1, h2⟩ := zk_lv_of _ _ _ hq
  by_cases hj : k = j
  · subst hj
    by_cases hk : k < lv.length
    · rw [List.getElem?_set_self hk] at h2; simp at h2
    · rw [List.getElem?_eq_none (by rw [List.length_set]; omega)] at h2; simp at h2
  · rw [List.getElem?_set_ne hj] at h2
    have := zk_lv_in lv 0 j q.2 h2
    rw [← h1] at this
    exact this
theorem zk_is0 {a0 : Option Value} {tl : List (Option Value)} {x : Int32} (h : zk_C v X E own cc dep) (d : zk_D cc pc pc' (.istore_n 0) 1) (kk : zk_A v X E pc' (some (.int x) :: tl) st I J) : zk_A v X E pc (a0 :: tl) (.int x :: st) I J := zk_istoreNG (lv := a0 :: tl) h d (by simp only [List.length_cons]; omega) (Or.inl rfl) kk
theorem zk_as0 {a0 : Option Value} {tl : List (Option Value)} {x : Nat} (h : zk_C v X E own cc dep) (d : zk_D cc pc pc' (.astore_n 0) 1) (kk : zk_A v X E pc' (some (.ref x) :: tl) st I J) : zk_A v X E pc (a0 :: tl) (.ref x :: st) I J := zk_astoreNG (lv := a0 :: tl) h d (by simp only [List.length_cons]; omega) (Or.inl rfl) kk
theorem zk_ls0 {a0 a1 : Option Value} {tl : List (Option Value)} {x : Int64} (h : zk_C v X E own cc dep) (d : zk_D cc pc pc' (.lstore_n 0) 1) (kk : zk_A v X E pc' (some (.long x) :: none :: tl) st I J) : zk_A v X E pc (a0 :: a1 :: tl) (.long x :: st) I J := zk_lstoreNG (lv := a0 :: a1 :: tl) h d (by simp only [List.length_cons]; omega) (Or.inl rfl) kk
theorem zk_in0 {tl : List (Option Value)} {n : Nat} (h : zk_C v X E own cc dep) (d : zk_D cc pc pc' (.iinc 0 1) 3) (kk : zk_A v X E pc' (some (.int (nI (n + 1))) :: tl) st I J) : zk_A v X E pc (some (.int (nI n)) :: tl) st I J := by
  refine zk_iincG (lv := some (.int (nI n)) :: tl) h d rfl ?_
  rw [show nI n + Int32.ofInt 1 = nI (n + 1) from nI_1 n]
  exact kk
theorem zk_fg0 {a0 : Option Value} {tl : List (Option Value)} (kk : zk_A v X E pc (none :: tl) st I J) : zk_A v X E pc (a0 :: tl) st I J := zk_fg (lv := a0 :: tl) 0 kk
theorem zk_is1 {a0 a1 : Option Value} {tl : List (Option Value)} {x : Int32} (h : zk_C v X E own cc dep) (d : zk_D cc pc pc' (.istore_n 1) 1) (hp : zk_n2 (some a0) = true) (kk : zk_A v X E pc' (a0 :: some (.int x) :: tl) st I J) : zk_A v X E pc (a0 :: a1 :: tl) (.int x :: st) I J := zk_istoreNG (lv := a0 :: a1 :: tl) h d (by simp only [List.length_cons]; omega) (Or.inr hp) kk
theorem zk_as1 {a0 a1 : Option Value} {tl : List (Option Value)} {x : Nat} (h : zk_C v X E own cc dep) (d : zk_D cc pc pc' (.astore_n 1) 1) (hp : zk_n2 (some a0) = true) (kk : zk_A v X E pc' (a0 :: some (.ref x) :: tl) st I J) : zk_A v X E pc (a0 :: a1 :: tl) (.ref x :: st) I J := zk_astoreNG (lv := a0 :: a1 :: tl) h d (by simp only [List.length_cons]; omega) (Or.inr hp) kk
theorem zk_ls1 {a0 a1 a2 : Option Value} {tl : List (Option Value)} {x : Int64} (h : zk_C v X E own cc dep) (d : zk_D cc pc pc' (.lstore_n 1) 1) (hp : zk_n2 (some a0) = true) (kk : zk_A v X E pc' (a0 :: some (.long x) :: none :: tl) st I J) : zk_A v X E pc (a0 :: a1 :: a2 :: tl) (.long x :: st) I J := zk_lstoreNG (lv := a0 :: a1 :: a2 :: tl) h d (by simp only [List.length_cons]; omega) (Or.inr hp) kk
theorem zk_in1 {a0 : Option Value} {tl : List (Option Value)} {n : Nat} (h : zk_C v X E own cc dep) (d : zk_D cc pc pc' (.iinc 1 1) 3) (kk : zk_A v X E pc' (a0 :: some (.int (nI (n + 1))) :: tl) st I J) : zk_A v X E pc (a0 :: some (.int (nI n)) :: tl) st I J := by
  refine zk_iincG (lv := a0 :: some (.int (nI n)) :: tl) h d rfl ?_
  rw [show nI n + Int32.ofInt 1 = nI (n + 1) from nI_1 n]
  exact kk
theorem zk_fg1 {a0 a1 : Option Value} {tl : List (Option Value)} (kk : zk_A v X E pc (a0 :: none :: tl) st I J) : zk_A v X E pc (a0 :: a1 :: tl) st I J := zk_fg (lv := a0 :: a1 :: tl) 1 kk
theorem zk_is2 {a0 a1 a2 : Option Value} {tl : List (Option Value)} {x : Int32} (h : zk_C v X E own cc dep) (d : zk_D cc pc pc' (.istore_n 2) 1) (hp : zk_n2 (some a1) = true) (kk : zk_A v X E pc' (a0 :: a1 :: some (.int x) :: tl) st I J) : zk_A v X E pc (a0 :: a1 :: a2 :: tl) (.int x :: st) I J := zk_istoreNG (lv := a0 :: a1 :: a2 :: tl) h d (by simp only [List.length_cons]; omega) (Or.inr hp) kk
theorem zk_as2 {a0 a1 a2 : Option Value} {tl : List (Option Value)} {x : Nat} (h : zk_C v X E own cc dep) (d : zk_D cc pc pc' (.astore_n 2) 1) (hp : zk_n2 (some a1) = true) (kk : zk_A v X E pc' (a0 :: a1 :: some (.ref x) :: tl) st I J) : zk_A v X E pc (a0 :: a1 :: a2 :: tl) (.ref x :: st) I J := zk_astoreNG (lv := a0 :: a1 :: a2 :: tl) h d (by simp only [List.length_cons]; omega) (Or.inr hp) kk
theorem zk_ls2 {a0 a1 a2 a3 : Option Value} {tl : List (Option Value)} {x : Int64} (h : zk_C v X E own cc dep) (d : zk_D cc pc pc' (.lstore_n 2) 1) (hp : zk_n2 (some a1) = true) (kk : zk_A v X E pc' (a0 :: a1 :: some (.long x) :: none :: tl) st I J) : zk_A v X E pc (a0 :: a1 :: a2 :: a3 :: tl) (.long x :: st) I J := zk_lstoreNG (lv := a0 :: a1 :: a2 :: a3 :: tl) h d (by simp only [List.length_cons]; omega) (Or.inr hp) kk
theorem zk_in2 {a0 a1 : Option Value} {tl : List (Option Value)} {n : Nat} (h : zk_C v X E own cc dep) (d : zk_D cc pc pc' (.iinc 2 1) 3) (kk : zk_A v X E pc' (a0 :: a1 :: some (.int (nI (n + 1))) :: tl) st I J) : zk_A v X E pc (a0 :: a1 :: some (.int (nI n)) :: tl) st I J := by
  refine zk_iincG (lv := a0 :: a1 :: some (.int (nI n)) :: tl) h d rfl ?_
  rw [show nI n + Int32.ofInt 1 = nI (n + 1) from nI_1 n]
  exact kk
theorem zk_fg2 {a0 a1 a2 : Option Value} {tl : List (Option Value)} (kk : zk_A v X E pc (a0 :: a1 :: none :: tl) st I J) : zk_A v X E pc (a0 :: a1 :: a2 :: tl) st I J := zk_fg (lv := a0 :: a1 :: a2 :: tl) 2 kk
theorem zk_is3 {a0 a1 a2 a3 : Option Value} {tl : List (Option Value)} {x : Int32} (h : zk_C v X E own cc dep) (d : zk_D cc pc pc' (.istore_n 3) 1) (hp : zk_n2 (some a2) = true) (kk : zk_A v X E pc' (a0 :: a1 :: a2 :: some (.int x) :: tl) st I J) : zk_A v X E pc (a0 :: a1 :: a2 :: a3 :: tl) (.int x :: st) I J := zk_istoreNG (lv := a0 :: a1 :: a2 :: a3 :: tl) h d (by simp only [List.length_cons]; omega) (Or.inr hp) kk
theorem zk_as3 {a0 a1 a2 a3 : Option Value} {tl : List (Option Value)} {x : Nat} (h : zk_C v X E own cc dep) (d : zk_D cc pc pc' (.astore_n 3) 1) (hp : zk_n2 (some a2) = true) (kk : zk_A v X E pc' (a0 :: a1 :: a2 :: some (.ref x) :: tl) st I J) : zk_A v X E pc (a0 :: a1 :: a2 :: a3 :: tl) (.ref x :: st) I J := zk_astoreNG (lv := a0 :: a1 :: a2 :: a3 :: tl) h d (by simp only [List.length_cons]; omega) (Or.inr hp) kk
theorem zk_ls3 {a0 a1 a2 a3 a4 : Option Value} {tl : List (Option Value)} {x : Int64} (h : zk_C v X E own cc dep) (d : zk_D cc pc pc' (.lstore_n 3) 1) (hp : zk_n2 (some a2) = true) (kk : zk_A v X E pc' (a0 :: a1 :: a2 :: some (.long x) :: none :: tl) st I J) : zk_A v X E pc (a0 :: a1 :: a2 :: a3 :: a4 :: tl) (.long x :: st) I J := zk_lstoreNG (lv := a0 :: a1 :: a2 :: a3 :: a4 :: tl) h d (by simp only [List.length_cons]; omega) (Or.inr hp) kk
theorem zk_in3 {a0 a1 a2 : Option Value} {tl : List (Option Value)} {n : Nat} (h : zk_C v X E own cc dep) (d : zk_D cc pc pc' (.iinc 3 1) 3) (kk : zk_A v X E pc' (a0 :: a1 :: a2 :: some (.int (nI (n + 1))) :: tl) st I J) : zk_A v X E pc (a0 :: a1 :: a2 :: some (.int (nI n)) :: tl) st I J := by
  refine zk_iincG (lv := a0 :: a1 :: a2 :: some (.int (nI n)) :: tl) h d rfl ?_
  rw [show nI n + Int32.ofInt 1 = nI (n + 1) from nI_1 n]
  exact kk
theorem zk_fg3 {a0 a1 a2 a3 : Option Value} {tl : List (Option Value)} (kk : zk_A v X E pc (a0 :: a1 :: a2 :: none :: tl) st I J) : zk_A v X E pc (a0 :: a1 :: a2 :: a3 :: tl) st I J := zk_fg (lv := a0 :: a1 :: a2 :: a3 :: tl) 3 kk
theorem zk_is4 {a0 a1 a2 a3 a4 : Option Value} {tl : List (Option Value)} {x : Int32} (h : zk_C v X E own cc dep) (d : zk_D cc pc pc' (.istore 4) 2) (hp : zk_n2 (some a3) = true) (kk : zk_A v X E pc' (a0 :: a1 :: a2 :: a3 :: some (.int x) :: tl) st I J) : zk_A v X E pc (a0 :: a1 :: a2 :: a3 :: a4 :: tl) (.int x :: st) I J := zk_istoreG (lv := a0 :: a1 :: a2 :: a3 :: a4 :: tl) h d (by simp only [List.length_cons]; omega) (Or.inr hp) kk
theorem zk_as4 {a0 a1 a2 a3 a4 : Option Value} {tl : List (Option Value)} {x : Nat} (h : zk_C v X E own cc dep) (d : zk_D cc pc pc' (.astore 4) 2) (hp : zk_n2 (some a3) = true) (kk : zk_A v X E pc' (a0 :: a1 :: a2 :: a3 :: some (.ref x) :: tl) st I J) : zk_A v X E pc (a0 :: a1 :: a2 :: a3 :: a4 :: tl) (.ref x :: st) I J := zk_astoreG (lv := a0 :: a1 :: a2 :: a3 :: a4 :: tl) h d (by simp only [List.length_cons]; omega) (Or.inr hp) kk
theorem zk_ls4 {a0 a1 a2 a3 a4 a5 : Option Value} {tl : List (Option Value)} {x : Int64} (h : zk_C v X E own cc dep) (d : zk_D cc pc pc' (.lstore 4) 2) (hp : zk_n2 (some a3) = true) (kk : zk_A v X E pc' (a0 :: a1 :: a2 :: a3 :: some (.long x) :: none :: tl) st I J) : zk_A v X E pc (a0 :: a1 :: a2 :: a3 :: a4 :: a5 :: tl) (.long x :: st) I J := zk_lstoreG (lv := a0 :: a1 :: a2 :: a3 :: a4 :: a5 :: tl) h d (by simp only [List.length_cons]; omega) (Or.inr hp) kk
theorem zk_in4 {a0 a1 a2 a3 : Option Value} {tl : List (Option Value)} {n : Nat} (h : zk_C v X E own cc dep) (d : zk_D cc pc pc' (.iinc 4 1) 3) (kk : zk_A v X E pc' (a0 :: a1 :: a2 :: a3 :: some (.int (nI (n + 1))) :: tl) st I J) : zk_A v X E pc (a0 :: a1 :: a2 :: a3 :: some (.int (nI n)) :: tl) st I J := by
  refine zk_iincG (lv := a0 :: a1 :: a2 :: a3 :: some (.int (nI n)) :: tl) h d rfl ?_
  rw [show nI n + Int32.ofInt 1 = nI (n + 1) from nI_1 n]
  exact kk
theorem zk_fg4 {a0 a1 a2 a3 a4 : Option Value} {tl : List (Option Value)} (kk : zk_A v X E pc (a0 :: a1 :: a2 :: a3 :: none :: tl) st I J) : zk_A v X E pc (a0 :: a1 :: a2 :: a3 :: a4 :: tl) st I J := zk_fg (lv := a0 :: a1 :: a2 :: a3 :: a4 :: tl) 4 kk
theorem zk_is5 {a0 a1 a2 a3 a4 a5 : Option Value} {tl : List (Option Value)} {x : Int32} (h : zk_C v X E own cc dep) (d : zk_D cc pc pc' (.istore 5) 2) (hp : zk_n2 (some a4) = true) (kk : zk_A v X E pc' (a0 :: a1 :: a2 :: a3 :: a4 :: some (.int x) :: tl) st I J) : zk_A v X E pc (a0 :: a1 :: a2 :: a3 :: a4 :: a5 :: tl) (.int x :: st) I J := zk_istoreG (lv := a0 :: a1 :: a2 :: a3 :: a4 :: a5 :: tl) h d (by simp only [List.length_cons]; omega) (Or.inr hp) kk
theorem zk_as5 {a0 a1 a2 a3 a4 a5 : Option Value} {tl : List (Option Value)} {x : Nat} (h : zk_C v X E own cc dep) (d : zk_D cc pc pc' (.astore 5) 2) (hp : zk_n2 (some a4) = true) (kk : zk_A v X E pc' (a0 :: a1 :: a2 :: a3 :: a4 :: some (.ref x) :: tl) st I J) : zk_A v X E pc (a0 :: a1 :: a2 :: a3 :: a4 :: a5 :: tl) (.ref x :: st) I J := zk_astoreG (lv := a0 :: a1 :: a2 :: a3 :: a4 :: a5 :: tl) h d (by simp only [List.length_cons]; omega) (Or.inr hp) kk
theorem zk_ls5 {a0 a1 a2 a3 a4 a5 a6 : Option Value} {tl : List (Option Value)} {x : Int64} (h : zk_C v X E own cc dep) (d : zk_D cc pc pc' (.lstore 5) 2) (hp : zk_n2 (some a4) = true) (kk : zk_A v X E pc' (a0 :: a1 :: a2 :: a3 :: a4 :: some (.long x) :: none :: tl) st I J) : zk_A v X E pc (a0 :: a1 :: a2 :: a3 :: a4 :: a5 :: a6 :: tl) (.long x :: st) I J := zk_lstoreG (lv := a0 :: a1 :: a2 :: a3 :: a4 :: a5 :: a6 :: tl) h d (by simp only [List.length_cons]; omega) (Or.inr hp) kk
theorem zk_in5 {a0 a1 a2 a3 a4 : Option Value} {tl : List (Option Value)} {n : Nat} (h : zk_C v X E own cc dep) (d : zk_D cc pc pc' (.iinc 5 1) 3) (kk : zk_A v X E pc' (a0 :: a1 :: a2 :: a3 :: a4 :: some (.int (nI (n + 1))) :: tl) st I J) : zk_A v X E pc (a0 :: a1 :: a2 :: a3 :: a4 :: some (.int (nI n)) :: tl) st I J := by
  refine zk_iincG (lv := a0 :: a1 :: a2 :: a3 :: a4 :: some (.int (nI n)) :: tl) h d rfl ?_
  rw [show nI n + Int32.ofInt 1 = nI (n + 1) from nI_1 n]
  exact kk
theorem zk_fg5 {a0 a1 a2 a3 a4 a5 : Option Value} {tl : List (Option Value)} (kk : zk_A v X E pc (a0 :: a1 :: a2 :: a3 :: a4 :: none :: tl) st I J) : zk_A v X E pc (a0 :: a1 :: a2 :: a3 :: a4 :: a5 :: tl) st I J := zk_fg (lv := a0 :: a1 :: a2 :: a3 :: a4 :: a5 :: tl) 5 kk
theorem zk_is6 {a0 a1 a2 a3 a4 a5 a6 : Option Value} {tl : List (Option Value)} {x : Int32} (h : zk_C v X E own cc dep) (d : zk_D cc pc pc' (.istore 6) 2) (hp : zk_n2 (some a5) = true) (kk : zk_A v X E pc' (a0 :: a1 :: a2 :: a3 :: a4 :: a5 :: some (.int x) :: tl) st I J) : zk_A v X E pc (a0 :: a1 :: a2 :: a3 :: a4 :: a5 :: a6 :: tl) (.int x :: st) I J := zk_istoreG (lv := a0 :: a1 :: a2 :: a3 :: a4 :: a5 :: a6 :: tl) h d (by simp only [List.length_cons]; omega) (Or.inr hp) kk
theorem zk_as6 {a0 a1 a2 a3 a4 a5 a6 : Option Value} {tl : List (Option Value)} {x : Nat} (h : zk_C v X E own cc dep) (d : zk_D cc pc pc' (.astore 6) 2) (hp : zk_n2 (some a5) = true) (kk : zk_A v X E pc' (a0 :: a1 :: a2 :: a3 :: a4 :: a5 :: some (.ref x) :: tl) st I J) : zk_A v X E pc (a0 :: a1 :: a2 :: a3 :: a4 :: a5 :: a6 :: tl) (.ref x :: st) I J := zk_astoreG (lv := a0 :: a1 :: a2 :: a3 :: a4 :: a5 :: a6 :: tl) h d (by simp only [List.length_cons]; omega) (Or.inr hp) kk
theorem zk_ls6 {a0 a1 a2 a3 a4 a5 a6 a7 : Option Value} {tl : List (Option Value)} {x : Int64} (h : zk_C v X E own cc dep) (d : zk_D cc pc pc' (.lstore 6) 2) (hp : zk_n2 (some a5) = true) (kk : zk_A v X E pc' (a0 :: a1 :: a2 :: a3 :: a4 :: a5 :: some (.long x) :: none :: tl) st I J) : zk_A v X E pc (a0 :: a1 :: a2 :: a3 :: a4 :: a5 :: a6 :: a7 :: tl) (.long x :: st) I J := zk_lstoreG (lv := a0 :: a1 :: a2 :: a3 :: a4 :: a5 :: a6 :: a7 :: tl) h d (by simp only [List.length_cons]; omega) (Or.inr hp) kk
theorem zk_in6 {a0 a1 a2 a3 a4 a5 : Option Value} {tl : List (Option Value)} {n : Nat} (h : zk_C v X E own cc dep) (d : zk_D cc pc pc' (.iinc 6 1) 3) (kk : zk_A v X E pc' (a0 :: a1 :: a2 :: a3 :: a4 :: a5 :: some (.int (nI (n + 1))) :: tl) st I J) : zk_A v X E pc (a0 :: a1 :: a2 :: a3 :: a4 :: a5 :: some (.int (nI n)) :: tl) st I J := by
  refine zk_iincG (lv := a0 :: a1 :: a2 :: a3 :: a4 :: a5 :: some (.int (nI n)) :: tl) h d rfl ?_
  rw [show nI n + Int32.ofInt 1 = nI (n + 1) from nI_1 n]
  exact kk
theorem zk_fg6 {a0 a1 a2 a3 a4 a5 a6 : Option Value} {tl : List (Option Value)} (kk : zk_A v X E pc (a0 :: a1 :: a2 :: a3 :: a4 :: a5 :: none :: tl) st I J) : zk_A v X E pc (a0 :: a1 :: a2 :: a3 :: a4 :: a5 :: a6 :: tl) st I J := zk_fg (lv := a0 :: a1 :: a2 :: a3 :: a4 :: a5 :: a6 :: tl) 6 kk
theorem zk_is7 {a0 a1 a2 a3 a4 a5 a6 a7 : Option Value} {tl : List (Option Value)} {x : Int32} (h : zk_C v X E own cc dep) (d : zk_D cc pc pc' (.istore 7) 2) (hp : zk_n2 (some a6) = true) (kk : zk_A v X E pc' (a0 :: a1 :: a2 :: a3 :: a4 :: a5 :: a6 :: some (.int x) :: tl) st I J) : zk_A v X E pc (a0 :: a1 :: a2 :: a3 :: a4 :: a5 :: a6 :: a7 :: tl) (.int x :: st) I J := zk_istoreG (lv := a0 :: a1 :: a2 :: a3 :: a4 :: a5 :: a6 :: a7 :: tl) h d (by simp only [List.length_cons]; omega) (Or.inr hp) kk
theorem zk_as7 {a0 a1 a2 a3 a4 a5 a6 a7 : Option Value} {tl : List (Option Value)} {x : Nat} (h : zk_C v X E own cc dep) (d : zk_D cc pc pc' (.astore 7) 2) (hp : zk_n2 (some a6) = true) (kk : zk_A v X E pc' (a0 :: a1 :: a2 :: a3 :: a4 :: a5 :: a6 :: some (.ref x) :: tl) st I J) : zk_A v X E pc (a0 :: a1 :: a2 :: a3 :: a4 :: a5 :: a6 :: a7 :: tl) (.ref x :: st) I J := zk_astoreG (lv := a0 :: a1 :: a2 :: a3 :: a4 :: a5 :: a6 :: a7 :: tl) h d (by simp only [List.length_cons]; omega) (Or.inr hp) kk
theorem zk_ls7 {a0 a1 a2 a3 a4 a5 a6 a7 a8 : Option Value} {tl : List (Option Value)} {x : Int64} (h : zk_C v X E own cc dep) (d : zk_D cc pc pc' (.lstore 7) 2) (hp : zk_n2 (some a6) = true) (kk : zk_A v X E pc' (a0 :: a1 :: a2 :: a3 :: a4 :: a5 :: a6 :: some (.long x) :: none :: tl) st I J) : zk_A v X E pc (a0 :: a1 :: a2 :: a3 :: a4 :: a5 :: a6 :: a7 :: a8 :: tl) (.long x :: st) I J := zk_lstoreG (lv := a0 :: a1 :: a2 :: a3 :: a4 :: a5 :: a6 :: a7 :: a8 :: tl) h d (by simp only [List.length_cons]; omega) (Or.inr hp) kk
theorem zk_in7 {a0 a1 a2 a3 a4 a5 a6 : Option Value} {tl : List (Option Value)} {n : Nat} (h : zk_C v X E own cc dep) (d : zk_D cc pc pc' (.iinc 7 1) 3) (kk : zk_A v X E pc' (a0 :: a1 :: a2 :: a3 :: a4 :: a5 :: a6 :: some (.int (nI (n + 1))) :: tl) st I J) : zk_A v X E pc (a0 :: a1 :: a2 :: a3 :: a4 :: a5 :: a6 :: some (.int (nI n)) :: tl) st I J := by
  refine zk_iincG (lv := a0 :: a1 :: a2 :: a3 :: a4 :: a5 :: a6 :: some (.int (nI n)) :: tl) h d rfl ?_
  rw [show nI n + Int32.ofInt 1 = nI (n + 1) from nI_1 n]
  exact kk
theorem zk_fg7 {a0 a1 a2 a3 a4 a5 a6 a7 : Option Value} {tl : List (Option Value)} (kk : zk_A v X E pc (a0 :: a1 :: a2 :: a3 :: a4 :: a5 :: a6 :: none :: tl) st I J) : zk_A v X E pc (a0 :: a1 :: a2 :: a3 :: a4 :: a5 :: a6 :: a7 :: tl) st I J := zk_fg (lv := a0 :: a1 :: a2 :: a3 :: a4 :: a5 :: a6 :: a7 :: tl) 7 kk
theorem zk_is8 {a0 a1 a2 a3 a4 a5 a6 a7 a8 : Option Value} {tl : List (Option Value)} {x : Int32} (h : zk_C v X E own cc dep) (d : zk_D cc pc pc' (.istore 8) 2) (hp : zk_n2 (some a7) = true) (kk : zk_A v X E pc' (a0 :: a1 :: a2 :: a3 :: a4 :: a5 :: a6 :: a7 :: some (.int x) :: tl) st I J) : zk_A v X E pc (a0 :: a1 :: a2 :: a3 :: a4 :: a5 :: a6 :: a7 :: a8 :: tl) (.int x :: st) I J := zk_istoreG (lv := a0 :: a1 :: a2 :: a3 :: a4 :: a5 :: a6 :: a7 :: a8 :: tl) h d (by simp only [List.length_cons]; omega) (Or.inr hp) kk
theorem zk_as8 {a0 a1 a2 a3 a4 a5 a6 a7 a8 : Option Value} {tl : List (Option Value)} {x : Nat} (h : zk_C v X E own cc dep) (d : zk_D cc pc pc' (.astore 8) 2) (hp : zk_n2 (some a7) = true) (kk : zk_A v X E pc' (a0 :: a1 :: a2 :: a3 :: a4 :: a5 :: a6 :: a7 :: some (.ref x) :: tl) st I J) : zk_A v X E pc (a0 :: a1 :: a2 :: a3 :: a4 :: a5 :: a6 :: a7 :: a8 :: tl) (.ref x :: st) I J := zk_astoreG (lv := a0 :: a1 :: a2 :: a3 :: a4 :: a5 :: a6 :: a7 :: a8 :: tl) h d (by simp only [List.length_cons]; omega) (Or.inr hp) kk
theorem zk_ls8 {a0 a1 a2 a3 a4 a5 a6 a7 a8 a9 : Option Value} {tl : List (Option Value)} {x : Int64} (h : zk_C v X E own cc dep) (d : zk_D cc pc pc' (.lstore 8) 2) (hp : zk_n2 (some a7) = true) (kk : zk_A v X E pc' (a0 :: a1 :: a2 :: a3 :: a4 :: a5 :: a6 :: a7 :: some (.long x) :: none :: tl) st I J) : zk_A v X E pc (a0 :: a1 :: a2 :: a3 :: a4 :: a5 :: a6 :: a7 :: a8 :: a9 :: tl) (.long x :: st) I J := zk_lstoreG (lv := a0 :: a1 :: a2 :: a3 :: a4 :: a5 :: a6 :: a7 :: a8 :: a9 :: tl) h d (by simp only [List.length_cons]; omega) (Or.inr hp) kk
theorem zk_in8 {a0 a1 a2 a3 a4 a5 a6 a7 : Option Value} {tl : List (Option Value)} {n : Nat} (h : zk_C v X E own cc dep) (d : zk_D cc pc pc' (.iinc 8 1) 3) (kk : zk_A v X E pc' (a0 :: a1 :: a2 :: a3 :: a4 :: a5 :: a6 :: a7 :: some (.int (nI (n + 1))) :: tl) st I J) : zk_A v X E pc (a0 :: a1 :: a2 :: a3 :: a4 :: a5 :: a6 :: a7 :: some (.int (nI n)) :: tl) st I J := by
  refine zk_iincG (lv := a0 :: a1 :: a2 :: a3 :: a4 :: a5 :: a6 :: a7 :: some (.int (nI n)) :: tl) h d rfl ?_
  rw [show nI n + Int32.ofInt 1 = nI (n + 1) from nI_1 n]
  exact kk
theorem zk_fg8 {a0 a1 a2 a3 a4 a5 a6 a7 a8 : Option Value} {tl : List (Option Value)} (kk : zk_A v X E pc (a0 :: a1 :: a2 :: a3 :: a4 :: a5 :: a6 :: a7 :: none :: tl) st I J) : zk_A v X E pc (a0 :: a1 :: a2 :: a3 :: a4 :: a5 :: a6 :: a7 :: a8 :: tl) st I J := zk_fg (lv := a0 :: a1 :: a2 :: a3 :: a4 :: a5 :: a6 :: a7 :: a8 :: tl) 8 kk
theorem zk_is9 {a0 a1 a2 a3 a4 a5 a6 a7 a8 a9 : Option Value} {tl : List (Option Value)} {x : Int32} (h : zk_C v X E own cc dep) (d : zk_D cc pc pc' (.istore 9) 2) (hp : zk_n2 (some a8) = true) (kk : zk_A v X E pc' (a0 :: a1 :: a2 :: a3 :: a4 :: a5 :: a6 :: a7 :: a8 :: some (.int x) :: tl) st I J) : zk_A v X E pc (a0 :: a1 :: a2 :: a3 :: a4 :: a5 :: a6 :: a7 :: a8 :: a9 :: tl) (.int x :: st) I J := zk_istoreG (lv := a0 :: a1 :: a2 :: a3 :: a4 :: a5 :: a6 :: a7 :: a8 :: a9 :: tl) h d (by simp only [List.length_cons]; omega) (Or.inr hp) kk
theorem zk_as9 {a0 a1 a2 a3 a4 a5 a6 a7 a8 a9 : Option Value} {tl : List (Option Value)} {x : Nat} (h : zk_C v X E own cc dep) (d : zk_D cc pc pc' (.astore 9) 2) (hp : zk_n2 (some a8) = true) (kk : zk_A v X E pc' (a0 :: a1 :: a2 :: a3 :: a4 :: a5 :: a6 :: a7 :: a8 :: some (.ref x) :: tl) st I J) : zk_A v X E pc (a0 :: a1 :: a2 :: a3 :: a4 :: a5 :: a6 :: a7 :: a8 :: a9 :: tl) (.ref x :: st) I J := zk_astoreG (lv := a0 :: a1 :: a2 :: a3 :: a4 :: a5 :: a6 :: a7 :: a8 :: a9 :: tl) h d (by simp only [List.length_cons]; omega) (Or.inr hp) kk
theorem zk_ls9 {a0 a1 a2 a3 a4 a5 a6 a7 a8 a9 a10 : Option Value} {tl : List (Option Value)} {x : Int64} (h : zk_C v X E own cc dep) (d : zk_D cc pc pc' (.lstore 9) 2) (hp : zk_n2 (some a8) = true) (kk : zk_A v X E pc' (a0 :: a1 :: a2 :: a3 :: a4 :: a5 :: a6 :: a7 :: a8 :: some (.long x) :: none :: tl) st I J) : zk_A v X E pc (a0 :: a1 :: a2 :: a3 :: a4 :: a5 :: a6 :: a7 :: a8 :: a9 :: a10 :: tl) (.long x :: st) I J := zk_lstoreG (lv := a0 :: a1 :: a2 :: a3 :: a4 :: a5 :: a6 :: a7 :: a8 :: a9 :: a10 :: tl) h d (by simp only [List.length_cons]; omega) (Or.inr hp) kk
theorem zk_in9 {a0 a1 a2 a3 a4 a5 a6 a7 a8 : Option Value} {tl : List (Option Value)} {n : Nat} (h : zk_C v X E own cc dep) (d : zk_D cc pc pc' (.iinc 9 1) 3) (kk : zk_A v X E pc' (a0 :: a1 :: a2 :: a3 :: a4 :: a5 :: a6 :: a7 :: a8 :: some (.int (nI (n + 1))) :: tl) st I J) : zk_A v X E pc (a0 :: a1 :: a2 :: a3 :: a4 :: a5 :: a6 :: a7 :: a8 :: some (.int (nI n)) :: tl) st I J := by
  refine zk_iincG (lv := a0 :: a1 :: a2 :: a3 :: a4 :: a5 :: a6 :: a7 :: a8 :: some (.int (nI n)) :: tl) h d rfl ?_
  rw [show nI n + Int32.ofInt 1 = nI (n + 1) from nI_1 n]
  exact kk
theorem zk_fg9 {a0 a1 a2 a3 a4 a5 a6 a7 a8 a9 : Option Value} {tl : List (Option Value)} (kk : zk_A v X E pc (a0 :: a1 :: a2 :: a3 :: a4 :: a5 :: a6 :: a7 :: a8 :: none :: tl) st I J) : zk_A v X E pc (a0 :: a1 :: a2 :: a3 :: a4 :: a5 :: a6 :: a7 :: a8 :: a9 :: tl) st I J := zk_fg (lv := a0 :: a1 :: a2 :: a3 :: a4 :: a5 :: a6 :: a7 :: a8 :: a9 :: tl) 9 kk
theorem zk_is10 {a0 a1 a2 a3 a4 a5 a6 a7 a8 a9 a10 : Option Value} {tl : List (Option Value)} {x : Int32} (h : zk_C v X E own cc dep) (d : zk_D cc pc pc' (.istore 10) 2) (hp : zk_n2 (some a9) = true) (kk : zk_A v X E pc' (a0 :: a1 :: a2 :: a3 :: a4 :: a5 :: a6 :: a7 :: a8 :: a9 :: some (.int x) :: tl) st I J) : zk_A v X E pc (a0 :: a1 :: a2 :: a3 :: a4 :: a5 :: a6 :: a7 :: a8 :: a9 :: a10 :: tl) (.int x :: st) I J := zk_istoreG (lv := a0 :: a1 :: a2 :: a3 :: a4 :: a5 :: a6 :: a7 :: a8 :: a9 :: a10 :: tl) h d (by simp only [List.length_cons]; omega) (Or.inr hp) kk
theorem zk_as10 {a0 a1 a2 a3 a4 a5 a6 a7 a8 a9 a10 : Option Value} {tl : List (Option Value)} {x : Nat} (h : zk_C v X E own cc dep) (d : zk_D cc pc pc' (.astore 10) 2) (hp : zk_n2 (some a9) = true) (kk : zk_A v X E pc' (a0 :: a1 :: a2 :: a3 :: a4 :: a5 :: a6 :: a7 :: a8 :: a9 :: some (.ref x) :: tl) st I J) : zk_A v X E pc (a0 :: a1 :: a2 :: a3 :: a4 :: a5 :: a6 :: a7 :: a8 :: a9 :: a10 :: tl) (.ref x :: st) I J := zk_astoreG (lv := a0 :: a1 :: a2 :: a3 :: a4 :: a5 :: a6 :: a7 :: a8 :: a9 :: a10 :: tl) h d (by simp only [List.length_cons]; omega) (Or.inr hp) kk
theorem zk_ls10 {a0 a1 a2 a3 a4 a5 a6 a7 a8 a9 a10 a11 : Option Value} {tl : List (Option Value)} {x : Int64} (h : zk_C v X E own cc dep) (d : zk_D cc pc pc' (.lstore 10) 2) (hp : zk_n2 (some a9) = true) (kk : zk_A v X E pc' (a0 :: a1 :: a2 :: a3 :: a4 :: a5 :: a6 :: a7 :: a8 :: a9 :: some (.long x) :: none :: tl) st I J) : zk_A v X E pc (a0 :: a1 :: a2 :: a3 :: a4 :: a5 :: a6 :: a7 :: a8 :: a9 :: a10 :: a11 :: tl) (.long x :: st) I J := zk_lstoreG (lv := a0 :: a1 :: a2 :: a3 :: a4 :: a5 :: a6 :: a7 :: a8 :: a9 :: a10 :: a11 :: tl) h d (by simp only [List.length_cons]; omega) (Or.inr hp) kk
theorem zk_in10 {a0 a1 a2 a3 a4 a5 a6 a7 a8 a9 : Option Value} {tl : List (Option Value)} {n : Nat} (h : zk_C v X E own cc dep) (d : zk_D cc pc pc' (.iinc 10 1) 3) (kk : zk_A v X E pc' (a0 :: a1 :: a2 :: a3 :: a4 :: a5 :: a6 :: a7 :: a8 :: a9 :: some (.int (nI (n + 1))) :: tl) st I J) : zk_A v X E pc (a0 :: a1 :: a2 :: a3 :: a4 :: a5 :: a6 :: a7 :: a8 :: a9 :: some (.int (nI n)) :: tl) st I J := by
  refine zk_iincG (lv := a0 :: a1 :: a2 :: a3 :: a4 :: a5 :: a6 :: a7 :: a8 :: a9 :: some (.int (nI n)) :: tl) h d rfl ?_
  rw [show nI n + Int32.ofInt 1 = nI (n + 1) from nI_1 n]
  exact kk
theorem zk_fg10 {a0 a1 a2 a3 a4 a5 a6 a7 a8 a9 a10 : Option Value} {tl : List (Option Value)} (kk : zk_A v X E pc (a0 :: a1 :: a2 :: a3 :: a4 :: a5 :: a6 :: a7 :: a8 :: a9 :: none :: tl) st I J) : zk_A v X E pc (a0 :: a1 :: a2 :: a3 :: a4 :: a5 :: a6 :: a7 :: a8 :: a9 :: a10 :: tl) st I J := zk_fg (lv := a0 :: a1 :: a2 :: a3 :: a4 :: a5 :: a6 :: a7 :: a8 :: a9 :: a10 :: tl) 10 kk
theorem zk_is11 {a0 a1 a2 a3 a4 a5 a6 a7 a8 a9 a10 a11 : Option Value} {tl : List (Option Value)} {x : Int32} (h : zk_C v X E own cc dep) (d : zk_D cc pc pc' (.istore 11) 2) (hp : zk_n2 (some a10) = true) (kk : zk_A v X E pc' (a0 :: a1 :: a2 :: a3 :: a4 :: a5 :: a6 :: a7 :: a8 :: a9 :: a10 :: some (.int x) :: tl) st I J) : zk_A v X E pc (a0 :: a1 :: a2 :: a3 :: a4 :: a5 :: a6 :: a7 :: a8 :: a9 :: a10 :: a11 :: tl) (.int x :: st) I J := zk_istoreG (lv := a0 :: a1 :: a2 :: a3 :: a4 :: a5 :: a6 :: a7 :: a8 :: a9 :: a10 :: a11 :: tl) h d (by simp only [List.length_cons]; omega) (Or.inr hp) kk
theorem zk_as11 {a0 a1 a2 a3 a4 a5 a6 a7 a8 a9 a10 a11 : Option Value} {tl : List (Option Value)} {x : Nat} (h : zk_C v X E own cc dep) (d : zk_D cc pc pc' (.astore 11) 2) (hp : zk_n2 (some a10) = true) (kk : zk_A v X E pc' (a0 :: a1 :: a2 :: a3 :: a4 :: a5 :: a6 :: a7 :: a8 :: a9 :: a10 :: some (.ref x) :: tl) st I J) : zk_A v X E pc (a0 :: a1 :: a2 :: a3 :: a4 :: a5 :: a6 :: a7 :: a8 :: a9 :: a10 :: a11 :: tl) (.ref x :: st) I J := zk_astoreG (lv := a0 :: a1 :: a2 :: a3 :: a4 :: a5 :: a6 :: a7 :: a8 :: a9 :: a10 :: a11 :: tl) h d (by simp only [List.length_cons]; omega) (Or.inr hp) kk
theorem zk_ls11 {a0 a1 a2 a3 a4 a5 a6 a7 a8 a9 a10 a11 a12 : Option Value} {tl : List (Option Value)} {x : Int64} (h : zk_C v X E own cc dep) (d : zk_D cc pc pc' (.lstore 11) 2) (hp : zk_n2 (some a10) = true) (kk : zk_A v X E pc' (a0 :: a1 :: a2 :: a3 :: a4 :: a5 :: a6 :: a7 :: a8 :: a9 :: a10 :: some (.long x) :: none :: tl) st I J) : zk_A v X E pc (a0 :: a1 :: a2 :: a3 :: a4 :: a5 :: a6 :: a7 :: a8 :: a9 :: a10 :: a11 :: a12 :: tl) (.long x :: st) I J := zk_lstoreG (lv := a0 :: a1 :: a2 :: a3 :: a4 :: a5 :: a6 :: a7 :: a8 :: a9 :: a10 :: a11 :: a12 :: tl) h d (by simp only [List.length_cons]; omega) (Or.inr hp) kk
theorem zk_in11 {a0 a1 a2 a3 a4 a5 a6 a7 a8 a9 a10 : Option Value} {tl : List (Option Value)} {n : Nat} (h : zk_C v X E own cc dep) (d : zk_D cc pc pc' (.iinc 11 1) 3) (kk : zk_A v X E pc' (a0 :: a1 :: a2 :: a3 :: a4 :: a5 :: a6 :: a7 :: a8 :: a9 :: a10 :: some (.int (nI (n + 1))) :: tl) st I J) : zk_A v X E pc (a0 :: a1 :: a2 :: a3 :: a4 :: a5 :: a6 :: a7 :: a8 :: a9 :: a10 :: some (.int (nI n)) :: tl) st I J := by
  refine zk_iincG (lv := a0 :: a1 :: a2 :: a3 :: a4 :: a5 :: a6 :: a7 :: a8 :: a9 :: a10 :: some (.int (nI n)) :: tl) h d rfl ?_
  rw [show nI n + Int32.ofInt 1 = nI (n + 1) from nI_1 n]
  exact kk
theorem zk_fg11 {a0 a1 a2 a3 a4 a5 a6 a7 a8 a9 a10 a11 : Option Value} {tl : List (Option Value)} (kk : zk_A v X E pc (a0 :: a1 :: a2 :: a3 :: a4 :: a5 :: a6 :: a7 :: a8 :: a9 :: a10 :: none :: tl) st I J) : zk_A v X E pc (a0 :: a1 :: a2 :: a3 :: a4 :: a5 :: a6 :: a7 :: a8 :: a9 :: a10 :: a11 :: tl) st I J := zk_fg (lv := a0 :: a1 :: a2 :: a3 :: a4 :: a5 :: a6 :: a7 :: a8 :: a9 :: a10 :: a11 :: tl) 11 kk
theorem zk_is12 {a0 a1 a2 a3 a4 a5 a6 a7 a8 a9 a10 a11 a12 : Option Value} {tl : List (Option Value)} {x : Int32} (h : zk_C v X E own cc dep) (d : zk_D cc pc pc' (.istore 12) 2) (hp : zk_n2 (some a11) = true) (kk : zk_A v X E pc' (a0 :: a1 :: a2 :: a3 :: a4 :: a5 :: a6 :: a7 :: a8 :: a9 :: a10 :: a11 :: some (.int x) :: tl) st I J) : zk_A v X E pc (a0 :: a1 :: a2 :: a3 :: a4 :: a5 :: a6 :: a7 :: a8 :: a9 :: a10 :: a11 :: a12 :: tl) (.int x :: st) I J := zk_istoreG (lv := a0 :: a1 :: a2 :: a3 :: a4 :: a5 :: a6 :: a7 :: a8 :: a9 :: a10 :: a11 :: a12 :: tl) h d (by simp only [List.length_cons]; omega) (Or.inr hp) kk
theorem zk_as12 {a0 a1 a2 a3 a4 a5 a6 a7 a8 a9 a10 a11 a12 : Option Value} {tl : List (Option Value)} {x : Nat} (h : zk_C v X E own cc dep) (d : zk_D cc pc pc' (.astore 12) 2) (hp : zk_n2 (some a11) = true) (kk : zk_A v X E pc' (a0 :: a1 :: a2 :: a3 :: a4 :: a5 :: a6 :: a7 :: a8 :: a9 :: a10 :: a11 :: some (.ref x) :: tl) st I J) : zk_A v X E pc (a0 :: a1 :: a2 :: a3 :: a4 :: a5 :: a6 :: a7 :: a8 :: a9 :: a10 :: a11 :: a12 :: tl) (.ref x :: st) I J := zk_astoreG (lv := a0 :: a1 :: a2 :: a3 :: a4 :: a5 :: a6 :: a7 :: a8 :: a9 :: a10 :: a11 :: a12 :: tl) h d (by simp only [List.length_cons]; omega) (Or.inr hp) kk
theorem zk_ls12 {a0 a1 a2 a3 a4 a5 a6 a7 a8 a9 a10 a11 a12 a13 : Option Value} {tl : List (Option Value)} {x : Int64} (h : zk_C v X E own cc dep) (d : zk_D cc pc pc' (.lstore 12) 2) (hp : zk_n2 (some a11) = true) (kk : zk_A v X E pc' (a0 :: a1 :: a2 :: a3 :: a4 :: a5 :: a6 :: a7 :: a8 :: a9 :: a10 :: a11 :: some (.long x) :: none :: tl) st I J) : zk_A v X E pc (a0 :: a1 :: a2 :: a3 :: a4 :: a5 :: a6 :: a7 :: a8 :: a9 :: a10 :: a11 :: a12 :: a13 :: tl) (.long x :: st) I J := zk_lstoreG (lv := a0 :: a1 :: a2 :: a3 :: a4 :: a5 :: a6 :: a7 :: a8 :: a9 :: a10 :: a11 :: a12 :: a13 :: tl) h d (by simp only [List.length_cons]; omega) (Or.inr hp) kk
theorem zk_in12 {a0 a1 a2 a3 a4 a5 a6 a7 a8 a9 a10 a11 : Option Value} {tl : List (Option Value)} {n : Nat} (h : zk_C v X E own cc dep) (d : zk_D cc pc pc' (.iinc 12 1) 3) (kk : zk_A v X E pc' (a0 :: a1 :: a2 :: a3 :: a4 :: a5 :: a6 :: a7 :: a8 :: a9 :: a10 :: a11 :: some (.int (nI (n + 1))) :: tl) st I J) : zk_A v X E pc (a0 :: a1 :: a2 :: a3 :: a4 :: a5 :: a6 :: a7 :: a8 :: a9 :: a10 :: a11 :: some (.int (nI n)) :: tl) st I J := by
  refine zk_iincG (lv := a0 :: a1 :: a2 :: a3 :: a4 :: a5 :: a6 :: a7 :: a8 :: a9 :: a10 :: a11 :: some (.int (nI n)) :: tl) h d rfl ?_
  rw [show nI n + Int32.ofInt 1 = nI (n + 1) from nI_1 n]
  exact kk
theorem zk_fg12 {a0 a1 a2 a3 a4 a5 a6 a7 a8 a9 a10 a11 a12 : Option Value} {tl : List (Option Value)} (kk : zk_A v X E pc (a0 :: a1 :: a2 :: a3 :: a4 :: a5 :: a6 :: a7 :: a8 :: a9 :: a10 :: a11 :: none :: tl) st I J) : zk_A v X E pc (a0 :: a1 :: a2 :: a3 :: a4 :: a5 :: a6 :: a7 :: a8 :: a9 :: a10 :: a11 :: a12 :: tl) st I J := zk_fg (lv := a0 :: a1 :: a2 :: a3 :: a4 :: a5 :: a6 :: a7 :: a8 :: a9 :: a10 :: a11 :: a12 :: tl) 12 kk
theorem zk_is13 {a0 a1 a2 a3 a4 a5 a6 a7 a8 a9 a10 a11 a12 a13 : Option Value} {tl : List (Option Value)} {x : Int32} (h : zk_C v X E own cc dep) (d : zk_D cc pc pc' (.istore 13) 2) (hp : zk_n2 (some a12) = true) (kk : zk_A v X E pc' (a0 :: a1 :: a2 :: a3 :: a4 :: a5 :: a6 :: a7 :: a8 :: a9 :: a10 :: a11 :: a12 :: some (.int x) :: tl) st I J) : zk_A v X E pc (a0 :: a1 :: a2 :: a3 :: a4 :: a5 :: a6 :: a7 :: a8 :: a9 :: a10 :: a11 :: a12 :: a13 :: tl) (.int x :: st) I J := zk_istoreG (lv := a0 :: a1 :: a2 :: a3 :: a4 :: a5 :: a6 :: a7 :: a8 :: a9 :: a10 :: a11 :: a12 :: a13 :: tl) h d (by simp only [List.length_cons]; omega) (Or.inr hp) kk
theorem zk_as13 {a0 a1 a2 a3 a4 a5 a6 a7 a8 a9 a10 a11 a12 a13 : Option Value} {tl : List (Option Value)} {x : Nat} (h : zk_C v X E own cc dep) (d : zk_D cc pc pc' (.astore 13) 2) (hp : zk_n2 (some a12) = true) (kk : zk_A v X E pc' (a0 :: a1 :: a2 :: a3 :: a4 :: a5 :: a6 :: a7 :: a8 :: a9 :: a10 :: a11 :: a12 :: some (.ref x) :: tl) st I J) : zk_A v X E pc (a0 :: a1 :: a2 :: a3 :: a4 :: a5 :: a6 :: a7 :: a8 :: a9 :: a10 :: a11 :: a12 :: a13 :: tl) (.ref x :: st) I J := zk_astoreG (lv := a0 :: a1 :: a2 :: a3 :: a4 :: a5 :: a6 :: a7 :: a8 :: a9 :: a10 :: a11 :: a12 :: a13 :: tl) h d (by simp only [List.length_cons]; omega) (Or.inr hp) kk
theorem zk_ls13 {a0 a1 a2 a3 a4 a5 a6 a7 a8 a9 a10 a11 a12 a13 a14 : Option Value} {tl : List (Option Value)} {x : Int64} (h : zk_C v X E own cc dep) (d : zk_D cc pc pc' (.lstore 13) 2) (hp : zk_n2 (some a12) = true) (kk : zk_A v X E pc' (a0 :: a1 :: a2 :: a3 :: a4 :: a5 :: a6 :: a7 :: a8 :: a9 :: a10 :: a11 :: a12 :: some (.long x) :: none :: tl) st I J) : zk_A v X E pc (a0 :: a1 :: a2 :: a3 :: a4 :: a5 :: a6 :: a7 :: a8 :: a9 :: a10 :: a11 :: a12 :: a13 :: a14 :: tl) (.long x :: st) I J := zk_lstoreG (lv := a0 :: a1 :: a2 :: a3 :: a4 :: a5 :: a6 :: a7 :: a8 :: a9 :: a10 :: a11 :: a12 :: a13 :: a14 :: tl) h d (by simp only [List.length_cons]; omega) (Or.inr hp) kk
theorem zk_in13 {a0 a1 a2 a3 a4 a5 a6 a7 a8 a9 a10 a11 a12 : Option Value} {tl : List (Option Value)} {n : Nat} (h : zk_C v X E own cc dep) (d : zk_D cc pc pc' (.iinc 13 1) 3) (kk : zk_A v X E pc' (a0 :: a1 :: a2 :: a3 :: a4 :: a5 :: a6 :: a7 :: a8 :: a9 :: a10 :: a11 :: a12 :: some (.int (nI (n + 1))) :: tl) st I J) : zk_A v X E pc (a0 :: a1 :: a2 :: a3 :: a4 :: a5 :: a6 :: a7 :: a8 :: a9 :: a10 :: a11 :: a12 :: some (.int (nI n)) :: tl) st I J := by
  refine zk_iincG (lv := a0 :: a1 :: a2 :: a3 :: a4 :: a5 :: a6 :: a7 :: a8 :: a9 :: a10 :: a11 :: a12 :: some (.int (nI n)) :: tl) h d rfl ?_
  rw [show nI n + Int32.ofInt 1 = nI (n + 1) from nI_1 n]
  exact kk
theorem zk_fg13 {a0 a1 a2 a3 a4 a5 a6 a7 a8 a9 a10 a11 a12 a13 : Option Value} {tl : List (Option Value)} (kk : zk_A v X E pc (a0 :: a1 :: a2 :: a3 :: a4 :: a5 :: a6 :: a7 :: a8 :: a9 :: a10 :: a11 :: a12 :: none :: tl) st I J) : zk_A v X E pc (a0 :: a1 :: a2 :: a3 :: a4 :: a5 :: a6 :: a7 :: a8 :: a9 :: a10 :: a11 :: a12 :: a13 :: tl) st I J := zk_fg (lv := a0 :: a1 :: a2 :: a3 :: a4 :: a5 :: a6 :: a7 :: a8 :: a9 :: a10 :: a11 :: a12 :: a13 :: tl) 13 kk
theorem zk_is14 {a0 a1 a2 a3 a4 a5 a6 a7 a8 a9 a10 a11 a12 a13 a14 : Option Value} {tl : List (Option Value)} {x : Int32} (h : zk_C v X E own cc dep) (d : zk_D cc pc pc' (.istore 14) 2) (hp : zk_n2 (some a13) = true) (kk : zk_A v X E pc' (a0 :: a1 :: a2 :: a3 :: a4 :: a5 :: a6 :: a7 :: a8 :: a9 :: a10 :: a11 :: a12 :: a13 :: some (.int x) :: tl) st I J) : zk_A v X E pc (a0 :: a1 :: a2 :: a3 :: a4 :: a5 :: a6 :: a7 :: a8 :: a9 :: a10 :: a11 :: a12 :: a13 :: a14 :: tl) (.int x :: st) I J := zk_istoreG (lv := a0 :: a1 :: a2 :: a3 :: a4 :: a5 :: a6 :: a7 :: a8 :: a9 :: a10 :: a11 :: a12 :: a13 :: a14 :: tl) h d (by simp only [List.length_cons]; omega) (Or.inr hp) kk
theorem zk_as14 {a0 a1 a2 a3 a4 a5 a6 a7 a8 a9 a10 a11 a12 a13 a14 : Option Value} {tl : List (Option Value)} {x : Nat} (h : zk_C v X E own cc dep) (d : zk_D cc pc pc' (.astore 14) 2) (hp : zk_n2 (some a13) = true) (kk : zk_A v X E pc' (a0 :: a1 :: a2 :: a3 :: a4 :: a5 :: a6 :: a7 :: a8 :: a9 :: a10 :: a11 :: a12 :: a13 :: some (.ref x) :: tl) st I J) : zk_A v X E pc (a0 :: a1 :: a2 :: a3 :: a4 :: a5 :: a6 :: a7 :: a8 :: a9 :: a10 :: a11 :: a12 :: a13 :: a14 :: tl) (.ref x :: st) I J := zk_astoreG (lv := a0 :: a1 :: a2 :: a3 :: a4 :: a5 :: a6 :: a7 :: a8 :: a9 :: a10 :: a11 :: a12 :: a13 :: a14 :: tl) h d (by simp only [List.length_cons]; omega) (Or.inr hp) kk
theorem zk_ls14 {a0 a1 a2 a3 a4 a5 a6 a7 a8 a9 a10 a11 a12 a13 a14 a15 : Option Value} {tl : List (Option Value)} {x : Int64} (h : zk_C v X E own cc dep) (d : zk_D cc pc pc' (.lstore 14) 2) (hp : zk_n2 (some a13) = true) (kk : zk_A v X E pc' (a0 :: a1 :: a2 :: a3 :: a4 :: a5 :: a6 :: a7 :: a8 :: a9 :: a10 :: a11 :: a12 :: a13 :: some (.long x) :: none :: tl) st I J) : zk_A v X E pc (a0 :: a1 :: a2 :: a3 :: a4 :: a5 :: a6 :: a7 :: a8 :: a9 :: a10 :: a11 :: a12 :: a13 :: a14 :: a15 :: tl) (.long x :: st) I J := zk_lstoreG (lv := a0 :: a1 :: a2 :: a3 :: a4 :: a5 :: a6 :: a7 :: a8 :: a9 :: a10 :: a11 :: a12 :: a13 :: a14 :: a15 :: tl) h d (by simp only [List.length_cons]; omega) (Or.inr hp) kk
theorem zk_in14 {a0 a1 a2 a3 a4 a5 a6 a7 a8 a9 a10 a11 a12 a13 : Option Value} {tl : List (Option Value)} {n : Nat} (h : zk_C v X E own cc dep) (d : zk_D cc pc pc' (.iinc 14 1) 3) (kk : zk_A v X E pc' (a0 :: a1 :: a2 :: a3 :: a4 :: a5 :: a6 :: a7 :: a8 :: a9 :: a10 :: a11 :: a12 :: a13 :: some (.int (nI (n + 1))) :: tl) st I J) : zk_A v X E pc (a0 :: a1 :: a2 :: a3 :: a4 :: a5 :: a6 :: a7 :: a8 :: a9 :: a10 :: a11 :: a12 :: a13 :: some (.int (nI n)) :: tl) st I J := by
  refine zk_iincG (lv := a0 :: a1 :: a2 :: a3 :: a4 :: a5 :: a6 :: a7 :: a8 :: a9 :: a10 :: a11 :: a12 :: a13 :: some (.int (nI n)) :: tl) h d rfl ?_
  rw [show nI n + Int32.ofInt 1 = nI (n + 1) from nI_1 n]
  exact kk
theorem zk_fg14 {a0 a1 a2 a3 a4 a5 a6 a7 a8 a9 a10 a11 a12 a13 a14 : Option Value} {tl : List (Option Value)} (kk : zk_A v X E pc (a0 :: a1 :: a2 :: a3 :: a4 :: a5 :: a6 :: a7 :: a8 :: a9 :: a10 :: a11 :: a12 :: a13 :: none :: tl) st I J) : zk_A v X E pc (a0 :: a1 :: a2 :: a3 :: a4 :: a5 :: a6 :: a7 :: a8 :: a9 :: a10 :: a11 :: a12 :: a13 :: a14 :: tl) st I J := zk_fg (lv := a0 :: a1 :: a2 :: a3 :: a4 :: a5 :: a6 :: a7 :: a8 :: a9 :: a10 :: a11 :: a12 :: a13 :: a14 :: tl) 14 kk
theorem zk_is15 {a0 a1 a2 a3 a4 a5 a6 a7 a8 a9 a10 a11 a12 a13 a14 a15 : Option Value} {tl : List (Option Value)} {x : Int32} (h : zk_C v X E own cc dep) (d : zk_D cc pc pc' (.istore 15) 2) (hp : zk_n2 (some a14) = true) (kk : zk_A v X E pc' (a0 :: a1 :: a2 :: a3 :: a4 :: a5 :: a6 :: a7 :: a8 :: a9 :: a10 :: a11 :: a12 :: a13 :: a14 :: some (.int x) :: tl) st I J) : zk_A v X E pc (a0 :: a1 :: a2 :: a3 :: a4 :: a5 :: a6 :: a7 :: a8 :: a9 :: a10 :: a11 :: a12 :: a13 :: a14 :: a15 :: tl) (.int x :: st) I J := zk_istoreG (lv := a0 :: a1 :: a2 :: a3 :: a4 :: a5 :: a6 :: a7 :: a8 :: a9 :: a10 :: a11 :: a12 :: a13 :: a14 :: a15 :: tl) h d (by simp only [List.length_cons]; omega) (Or.inr hp) kk
theorem zk_as15 {a0 a1 a2 a3 a4 a5 a6 a7 a8 a9 a10 a11 a12 a13 a14 a15 : Option Value} {tl : List (Option Value)} {x : Nat} (h : zk_C v X E own cc dep) (d : zk_D cc pc pc' (.astore 15) 2) (hp : zk_n2 (some a14) = true) (kk : zk_A v X E pc' (a0 :: a1 :: a2 :: a3 :: a4 :: a5 :: a6 :: a7 :: a8 :: a9 :: a10 :: a11 :: a12 :: a13 :: a14 :: some (.ref x) :: tl) st I J) : zk_A v X E pc (a0 :: a1 :: a2 :: a3 :: a4 :: a5 :: a6 :: a7 :: a8 :: a9 :: a10 :: a11 :: a12 :: a13 :: a14 :: a15 :: tl) (.ref x :: st) I J := zk_astoreG (lv := a0 :: a1 :: a2 :: a3 :: a4 :: a5 :: a6 :: a7 :: a8 :: a9 :: a10 :: a11 :: a12 :: a13 :: a14 :: a15 :: tl) h d (by simp only [List.length_cons]; omega) (Or.inr hp) kk
theorem zk_ls15 {a0 a1 a2 a3 a4 a5 a6 a7 a8 a9 a10 a11 a12 a13 a14 a15 a16 : Option Value} {tl : List (Option Value)} {x : Int64} (h : zk_C v X E own cc dep) (d : zk_D cc pc pc' (.lstore 15) 2) (hp : zk_n2 (some a14) = true) (kk : zk_A v X E pc' (a0 :: a1 :: a2 :: a3 :: a4 :: a5 :: a6 :: a7 :: a8 :: a9 :: a10 :: a11 :: a12 :: a13 :: a14 :: some (.long x) :: none :: tl) st I J) : zk_A v X E pc (a0 :: a1 :: a2 :: a3 :: a4 :: a5 :: a6 :: a7 :: a8 :: a9 :: a10 :: a11 :: a12 :: a13 :: a14 :: a15 :: a16 :: tl) (.long x :: st) I J := zk_lstoreG (lv := a0 :: a1 :: a2 :: a3 :: a4 :: a5 :: a6 :: a7 :: a8 :: a9 :: a10 :: a11 :: a12 :: a13 :: a14 :: a15 :: a16 :: tl) h d (by simp only [List.length_cons]; omega) (Or.inr hp) kk
theorem zk_in15 {a0 a1 a2 a3 a4 a5 a6 a7 a8 a9 a10 a11 a12 a13 a14 : Option Value} {tl : List (Option Value)} {n : Nat} (h : zk_C v X E own cc dep) (d : zk_D cc pc pc' (.iinc 15 1) 3) (kk : zk_A v X E pc' (a0 :: a1 :: a2 :: a3 :: a4 :: a5 :: a6 :: a7 :: a8 :: a9 :: a10 :: a11 :: a12 :: a13 :: a14 :: some (.int (nI (n + 1))) :: tl) st I J) : zk_A v X E pc (a0 :: a1 :: a2 :: a3 :: a4 :: a5 :: a6 :: a7 :: a8 :: a9 :: a10 :: a11 :: a12 :: a13 :: a14 :: some (.int (nI n)) :: tl) st I J := by
  refine zk_iincG (lv := a0 :: a1 :: a2 :: a3 :: a4 :: a5 :: a6 :: a7 :: a8 :: a9 :: a10 :: a11 :: a12 :: a13 :: a14 :: some (.int (nI n)) :: tl) h d rfl ?_
  rw [show nI n + Int32.ofInt 1 = nI (n + 1) from nI_1 n]
  exact kk
theorem zk_fg15 {a0 a1 a2 a3 a4 a5 a6 a7 a8 a9 a10 a11 a12 a13 a14 a15 : Option Value} {tl : List (Option Value)} (kk : zk_A v X E pc (a0 :: a1 :: a2 :: a3 :: a4 :: a5 :: a6 :: a7 :: a8 :: a9 :: a10 :: a11 :: a12 :: a13 :: a14 :: none :: tl) st I J) : zk_A v X E pc (a0 :: a1 :: a2 :: a3 :: a4 :: a5 :: a6 :: a7 :: a8 :: a9 :: a10 :: a11 :: a12 :: a13 :: a14 :: a15 :: tl) st I J := zk_fg (lv := a0 :: a1 :: a2 :: a3 :: a4 :: a5 :: a6 :: a7 :: a8 :: a9 :: a10 :: a11 :: a12 :: a13 :: a14 :: a15 :: tl) 15 kk
theorem zk_is16 {a0 a1 a2 a3 a4 a5 a6 a7 a8 a9 a10 a11 a12 a13 a14 a15 a16 : Option Value} {tl : List (Option Value)} {x : Int32} (h : zk_C v X E own cc dep) (d : zk_D cc pc pc' (.istore 16) 2) (hp : zk_n2 (some a15) = true) (kk : zk_A v X E pc' (a0 :: a1 :: a2 :: a3 :: a4 :: a5 :: a6 :: a7 :: a8 :: a9 :: a10 :: a11 :: a12 :: a13 :: a14 :: a15 :: some (.int x) :: tl) st I J) : zk_A v X E pc (a0 :: a1 :: a2 :: a3 :: a4 :: a5 :: a6 :: a7 :: a8 :: a9 :: a10 :: a11 :: a12 :: a13 :: a14 :: a15 :: a16 :: tl) (.int x :: st) I J := zk_istoreG (lv := a0 :: a1 :: a2 :: a3 :: a4 :: a5 :: a6 :: a7 :: a8 :: a9 :: a10 :: a11 :: a12 :: a13 :: a14 :: a15 :: a16 :: tl) h d (by simp only [List.length_cons]; omega) (Or.inr hp) kk
theorem zk_as16 {a0 a1 a2 a3 a4 a5 a6 a7 a8 a9 a10 a11 a12 a13 a14 a15 a16 : Option Value} {tl : List (Option Value)} {x : Nat} (h : zk_C v X E own cc dep) (d : zk_D cc pc pc' (.astore 16) 2) (hp : zk_n2 (some a15) = true) (kk : zk_A v X E pc' (a0 :: a1 :: a2 :: a3 :: a4 :: a5 :: a6 :: a7 :: a8 :: a9 :: a10 :: a11 :: a12 :: a13 :: a14 :: a15 :: some (.ref x) :: tl) st I J) : zk_A v X E pc (a0 :: a1 :: a2 :: a3 :: a4 :: a5 :: a6 :: a7 :: a8 :: a9 :: a10 :: a11 :: a12 :: a13 :: a14 :: a15 :: a16 :: tl) (.ref x :: st) I J := zk_astoreG (lv := a0 :: a1 :: a2 :: a3 :: a4 :: a5 :: a6 :: a7 :: a8 :: a9 :: a10 :: a11 :: a12 :: a13 :: a14 :: a15 :: a16 :: tl) h d (by simp only [List.length_cons]; omega) (Or.inr hp) kk
theorem zk_ls16 {a0 a1 a2 a3 a4 a5 a6 a7 a8 a9 a10 a11 a12 a13 a14 a15 a16 a17 : Option Value} {tl : List (Option Value)} {x : Int64} (h : zk_C v X E own cc dep) (d : zk_D cc pc pc' (.lstore 16) 2) (hp : zk_n2 (some a15) = true) (kk : zk_A v X E pc' (a0 :: a1 :: a2 :: a3 :: a4 :: a5 :: a6 :: a7 :: a8 :: a9 :: a10 :: a11 :: a12 :: a13 :: a14 :: a15 :: some (.long x) :: none :: tl) st I J) : zk_A v X E pc (a0 :: a1 :: a2 :: a3 :: a4 :: a5 :: a6 :: a7 :: a8 :: a9 :: a10 :: a11 :: a12 :: a13 :: a14 :: a15 :: a16 :: a17 :: tl) (.long x :: st) I J := zk_lstoreG (lv := a0 :: a1 :: a2 :: a3 :: a4 :: a5 :: a6 :: a7 :: a8 :: a9 :: a10 :: a11 :: a12 :: a13 :: a14 :: a15 :: a16 :: a17 :: tl) h d (by simp only [List.length_cons]; omega) (Or.inr hp) kk
theorem zk_in16 {a0 a1 a2 a3 a4 a5 a6 a7 a8 a9 a10 a11 a12 a13 a14 a15 : Option Value} {tl : List (Option Value)} {n : Nat} (h : zk_C v X E own cc dep) (d : zk_D cc pc pc' (.iinc 16 1) 3) (kk : zk_A v X E pc' (a0 :: a1 :: a2 :: a3 :: a4 :: a5 :: a6 :: a7 :: a8 :: a9 :: a10 :: a11 :: a12 :: a13 :: a14 :: a15 :: some (.int (nI (n + 1))) :: tl) st I J) : zk_A v X E pc (a0 :: a1 :: a2 :: a3 :: a4 :: a5 :: a6 :: a7 :: a8 :: a9 :: a10 :: a11 :: a12 :: a13 :: a14 :: a15 :: some (.int (nI n)) :: tl) st I J := by
  refine zk_iincG (lv := a0 :: a1 :: a2 :: a3 :: a4 :: a5 :: a6 :: a7 :: a8 :: a9 :: a10 :: a11 :: a12 :: a13 :: a14 :: a15 :: some (.int (nI n)) :: tl) h d rfl ?_
  rw [show nI n + Int32.ofInt 1 = nI (n + 1) from nI_1 n]
  exact kk
theorem zk_fg16 {a0 a1 a2 a3 a4 a5 a6 a7 a8 a9 a10 a11 a12 a13 a14 a15 a16 : Option Value} {tl : List (Option Value)} (kk : zk_A v X E pc (a0 :: a1 :: a2 :: a3 :: a4 :: a5 :: a6 :: a7 :: a8 :: a9 :: a10 :: a11 :: a12 :: a13 :: a14 :: a15 :: none :: tl) st I J) : zk_A v X E pc (a0 :: a1 :: a2 :: a3 :: a4 :: a5 :: a6 :: a7 :: a8 :: a9 :: a10 :: a11 :: a12 :: a13 :: a14 :: a15 :: a16 :: tl) st I J := zk_fg (lv := a0 :: a1 :: a2 :: a3 :: a4 :: a5 :: a6 :: a7 :: a8 :: a9 :: a10 :: a11 :: a12 :: a13 :: a14 :: a15 :: a16 :: tl) 16 kk
theorem zk_is17 {a0 a1 a2 a3 a4 a5 a6 a7 a8 a9 a10 a11 a12 a13 a14 a15 a16 a17 : Option Value} {tl : List (Option Value)} {x : Int32} (h : zk_C v X E own cc dep) (d : zk_D cc pc pc' (.istore 17) 2) (hp : zk_n2 (some a16) = true) (kk : zk_A v X E pc' (a0 :: a1 :: a2 :: a3 :: a4 :: a5 :: a6 :: a7 :: a8 :: a9 :: a10 :: a11 :: a12 :: a13 :: a14 :: a15 :: a16 :: some (.int x) :: tl) st I J) : zk_A v X E pc (a0 :: a1 :: a2 :: a3 :: a4 :: a5 :: a6 :: a7 :: a8 :: a9 :: a10 :: a11 :: a12 :: a13 :: a14 :: a15 :: a16 :: a17 :: tl) (.int x :: st) I J := zk_istoreG (lv := a0 :: a1 :: a2 :: a3 :: a4 :: a5 :: a6 :: a7 :: a8 :: a9 :: a10 :: a11 :: a12 :: a13 :: a14 :: a15 :: a16 :: a17 :: tl) h d (by simp only [List.length_cons]; omega) (Or.inr hp) kk
theorem zk_as17 {a0 a1 a2 a3 a4 a5 a6 a7 a8 a9 a10 a11 a12 a13 a14 a15 a16 a17 : Option Value} {tl : List (Option Value)} {x : Nat} (h : zk_C v X E own cc dep) (d : zk_D cc pc pc' (.astore 17) 2) (hp : zk_n2 (some a16) = true) (kk : zk_A v X E pc' (a0 :: a1 :: a2 :: a3 :: a4 :: a5 :: a6 :: a7 :: a8 :: a9 :: a10 :: a11 :: a12 :: a13 :: a14 :: a15 :: a16 :: some (.ref x) :: tl) st I J) : zk_A v X E pc (a0 :: a1 :: a2 :: a3 :: a4 :: a5 :: a6 :: a7 :: a8 :: a9 :: a10 :: a11 :: a12 :: a13 :: a14 :: a15 :: a16 :: a17 :: tl) (.ref x :: st) I J := zk_astoreG (lv := a0 :: a1 :: a2 :: a3 :: a4 :: a5 :: a6 :: a7 :: a8 :: a9 :: a10 :: a11 :: a12 :: a13 :: a14 :: a15 :: a16 :: a17 :: tl) h d (by simp only [List.length_cons]; omega) (Or.inr hp) kk
theorem zk_ls17 {a0 a1 a2 a3 a4 a5 a6 a7 a8 a9 a10 a11 a12 a13 a14 a15 a16 a17 a18 : Option Value} {tl : List (Option Value)} {x : Int64} (h : zk_C v X E own cc dep) (d : zk_D cc pc pc' (.lstore 17) 2) (hp : zk_n2 (some a16) = true) (kk : zk_A v X E pc' (a0 :: a1 :: a2 :: a3 :: a4 :: a5 :: a6 :: a7 :: a8 :: a9 :: a10 :: a11 :: a12 :: a13 :: a14 :: a15 :: a16 :: some (.long x) :: none :: tl) st I J) : zk_A v X E pc (a0 :: a1 :: a2 :: a3 :: a4 :: a5 :: a6 :: a7 :: a8 :: a9 :: a10 :: a11 :: a12 :: a13 :: a14 :: a15 :: a16 :: a17 :: a18 :: tl) (.long x :: st) I J := zk_lstoreG (lv := a0 :: a1 :: a2 :: a3 :: a4 :: a5 :: a6 :: a7 :: a8 :: a9 :: a10 :: a11 :: a12 :: a13 :: a14 :: a15 :: a16 :: a17 :: a18 :: tl) h d (by simp only [List.length_cons]; omega) (Or.inr hp) kk
theorem zk_in17 {a0 a1 a2 a3 a4 a5 a6 a7 a8 a9 a10 a11 a12 a13 a14 a15 a16 : Option Value} {tl : List (Option Value)} {n : Nat} (h : zk_C v X E own cc dep) (d : zk_D cc pc pc' (.iinc 17 1) 3) (kk : zk_A v X E pc' (a0 :: a1 :: a2 :: a3 :: a4 :: a5 :: a6 :: a7 :: a8 :: a9 :: a10 :: a11 :: a12 :: a13 :: a14 :: a15 :: a16 :: some (.int (nI (n + 1))) :: tl) st I J) : zk_A v X E pc (a0 :: a1 :: a2 :: a3 :: a4 :: a5 :: a6 :: a7 :: a8 :: a9 :: a10 :: a11 :: a12 :: a13 :: a14 :: a15 :: a16 :: some (.int (nI n)) :: tl) st I J := by
  refine zk_iincG (lv := a0 :: a1 :: a2 :: a3 :: a4 :: a5 :: a6 :: a7 :: a8 :: a9 :: a10 :: a11 :: a12 :: a13 :: a14 :: a15 :: a16 :: some (.int (nI n)) :: tl) h d rfl ?_
  rw [show nI n + Int32.ofInt 1 = nI (n + 1) from nI_1 n]
  exact kk
theorem zk_fg17 {a0 a1 a2 a3 a4 a5 a6 a7 a8 a9 a10 a11 a12 a13 a14 a15 a16 a17 : Option Value} {tl : List (Option Value)} (kk : zk_A v X E pc (a0 :: a1 :: a2 :: a3 :: a4 :: a5 :: a6 :: a7 :: a8 :: a9 :: a10 :: a11 :: a12 :: a13 :: a14 :: a15 :: a16 :: none :: tl) st I J) : zk_A v X E pc (a0 :: a1 :: a2 :: a3 :: a4 :: a5 :: a6 :: a7 :: a8 :: a9 :: a10 :: a11 :: a12 :: a13 :: a14 :: a15 :: a16 :: a17 :: tl) st I J := zk_fg (lv := a0 :: a1 :: a2 :: a3 :: a4 :: a5 :: a6 :: a7 :: a8 :: a9 :: a10 :: a11 :: a12 :: a13 :: a14 :: a15 :: a16 :: a17 :: tl) 17 kk
theorem zk_is18 {a0 a1 a2 a3 a4 a5 a6 a7 a8 a9 a10 a11 a12 a13 a14 a15 a16 a17 a18 : Option Value} {tl : List (Option Value)} {x : Int32} (h : zk_C v X E own cc dep) (d : zk_D cc pc pc' (.istore 18) 2) (hp : zk_n2 (some a17) = true) (kk : zk_A v X E pc' (a0 :: a1 :: a2 :: a3 :: a4 :: a5 :: a6 :: a7 :: a8 :: a9 :: a10 :: a11 :: a12 :: a13 :: a14 :: a15 :: a16 :: a17 :: some (.int x) :: tl) st I J) : zk_A v X E pc (a0 :: a1 :: a2 :: a3 :: a4 :: a5 :: a6 :: a7 :: a8 :: a9 :: a10 :: a11 :: a12 :: a13 :: a14 :: a15 :: a16 :: a17 :: a18 :: tl) (.int x :: st) I J := zk_istoreG (lv := a0 :: a1 :: a2 :: a3 :: a4 :: a5 :: a6 :: a7 :: a8 :: a9 :: a10 :: a11 :: a12 :: a13 :: a14 :: a15 :: a16 :: a17 :: a18 :: tl) h d (by simp only [List.length_cons]; omega) (Or.inr hp) kk
theorem zk_as18 {a0 a1 a2 a3 a4 a5 a6 a7 a8 a9 a10 a11 a12 a13 a14 a15 a16 a17 a18 : Option Value} {tl : List (Option Value)} {x : Nat} (h : zk_C v X E own cc dep) (d : zk_D cc pc pc' (.astore 18) 2) (hp : zk_n2 (some a17) = true) (kk : zk_A v X E pc' (a0 :: a1 :: a2 :: a3 :: a4 :: a5 :: a6 :: a7 :: a8 :: a9 :: a10 :: a11 :: a12 :: a13 :: a14 :: a15 :: a16 :: a17 :: some (.ref x) :: tl) st I J) : zk_A v X E pc (a0 :: a1 :: a2 :: a3 :: a4 :: a5 :: a6 :: a7 :: a8 :: a9 :: a10 :: a11 :: a12 :: a13 :: a14 :: a15 :: a16 :: a17 :: a18 :: tl) (.ref x :: st) I J := zk_astoreG (lv := a0 :: a1 :: a2 :: a3 :: a4 :: a5 :: a6 :: a7 :: a8 :: a9 :: a10 :: a11 :: a12 :: a13 :: a14 :: a15 :: a16 :: a17 :: a18 :: tl) h d (by simp only [List.length_cons]; omega) (Or.inr hp) kk
theorem zk_ls18 {a0 a1 a2 a3 a4 a5 a6 a7 a8 a9 a10 a11 a12 a13 a14 a15 a16 a17 a18 a19 : Option Value} {tl : List (Option Value)} {x : Int64} (h : zk_C v X E own cc dep) (d : zk_D cc pc pc' (.lstore 18) 2) (hp : zk_n2 (some a17) = true) (kk : zk_A v X E pc' (a0 :: a1 :: a2 :: a3 :: a4 :: a5 :: a6 :: a7 :: a8 :: a9 :: a10 :: a11 :: a12 :: a13 :: a14 :: a15 :: a16 :: a17 :: some (.long x) :: none :: tl) st I J) : zk_A v X E pc (a0 :: a1 :: a2 :: a3 :: a4 :: a5 :: a6 :: a7 :: a8 :: a9 :: a10 :: a11 :: a12 :: a13 :: a14 :: a15 :: a16 :: a17 :: a18 :: a19 :: tl) (.long x :: st) I J := zk_lstoreG (lv := a0 :: a1 :: a2 :: a3 :: a4 :: a5 :: a6 :: a7 :: a8 :: a9 :: a10 :: a11 :: a12 :: a13 :: a14 :: a15 :: a16 :: a17 :: a18 :: a19 :: tl) h d (by simp only [List.length_cons]; omega) (Or.inr hp) kk
theorem zk_in18 {a0 a1 a2 a3 a4 a5 a6 a7 a8 a9 a10 a11 a12 a13 a14 a15 a16 a17 : Option Value} {tl : List (Option Value)} {n : Nat} (h : zk_C v X E own cc dep) (d : zk_D cc pc pc' (.iinc 18 1) 3) (kk : zk_A v X E pc' (a0 :: a1 :: a2 :: a3 :: a4 :: a5 :: a6 :: a7 :: a8 :: a9 :: a10 :: a11 :: a12 :: a13 :: a14 :: a15 :: a16 :: a17 :: some (.int (nI (n + 1))) :: tl) st I J) : zk_A v X E pc (a0 :: a1 :: a2 :: a3 :: a4 :: a5 :: a6 :: a7 :: a8 :: a9 :: a10 :: a11 :: a12 :: a13 :: a14 :: a15 :: a16 :: a17 :: some (.int (nI n)) :: tl) st I J := by
  refine zk_iincG (lv := a0 :: a1 :: a2 :: a3 :: a4 :: a5 :: a6 :: a7 :: a8 :: a9 :: a10 :: a11 :: a12 :: a13 :: a14 :: a15 :: a16 :: a17 :: some (.int (nI n)) :: tl) h d rfl ?_
  rw [show nI n + Int32.ofInt 1 = nI (n + 1) from nI_1 n]
  exact kk
theorem zk_fg18 {a0 a1 a2 a3 a4 a5 a6 a7 a8 a9 a10 a11 a12 a13 a14 a15 a16 a17 a18 : Option Value} {tl : List (Option Value)} (kk : zk_A v X E pc (a0 :: a1 :: a2 :: a3 :: a4 :: a5 :: a6 :: a7 :: a8 :: a9 :: a10 :: a11 :: a12 :: a13 :: a14 :: a15 :: a16 :: a17 :: none :: tl) st I J) : zk_A v X E pc (a0 :: a1 :: a2 :: a3 :: a4 :: a5 :: a6 :: a7 :: a8 :: a9 :: a10 :: a11 :: a12 :: a13 :: a14 :: a15 :: a16 :: a17 :: a18 :: tl) st I J := zk_fg (lv := a0 :: a1 :: a2 :: a3 :: a4 :: a5 :: a6 :: a7 :: a8 :: a9 :: a10 :: a11 :: a12 :: a13 :: a14 :: a15 :: a16 :: a17 :: a18 :: tl) 18 kk
theorem zk_is19 {a0 a1 a2 a3 a4 a5 a6 a7 a8 a9 a10 a11 a12 a13 a14 a15 a16 a17 a18 a19 : Option Value} {tl : List (Option Value)} {x : Int32} (h : zk_C v X E own cc dep) (d : zk_D cc pc pc' (.istore 19) 2) (hp : zk_n2 (some a18) = true) (kk : zk_A v X E pc' (a0 :: a1 :: a2 :: a3 :: a4 :: a5 :: a6 :: a7 :: a8 :: a9 :: a10 :: a11 :: a12 :: a13 :: a14 :: a15 :: a16 :: a17 :: a18 :: some (.int x) :: tl) st I J) : zk_A v X E pc (a0 :: a1 :: a2 :: a3 :: a4 :: a5 :: a6 :: a7 :: a8 :: a9 :: a10 :: a11 :: a12 :: a13 :: a14 :: a15 :: a16 :: a17 :: a18 :: a19 :: tl) (.int x :: st) I J := zk_istoreG (lv := a0 :: a1 :: a2 :: a3 :: a4 :: a5 :: a6 :: a7 :: a8 :: a9 :: a10 :: a11 :: a12 :: a13 :: a14 :: a15 :: a16 :: a17 :: a18 :: a19 :: tl) h d (by simp only [List.length_cons]; omega) (Or.inr hp) kk
theorem zk_as19 {a0 a1 a2 a3 a4 a5 a6 a7 a8 a9 a10 a11 a12 a13 a14 a15 a16 a17 a18 a19 : Option Value} {tl : List (Option Value)} {x : Nat} (h : zk_C v X E own cc dep) (d : zk_D cc pc pc' (.astore 19) 2) (hp : zk_n2 (some a18) = true) (kk : zk_A v X E pc' (a0 :: a1 :: a2 :: a3 :: a4 :: a5 :: a6 :: a7 :: a8 :: a9 :: a10 :: a11 :: a12 :: a13 :: a14 :: a15 :: a16 :: a17 :: a18 :: some (.ref x) :: tl) st I J) : zk_A v X E pc (a0 :: a1 :: a2 :: a3 :: a4 :: a5 :: a6 :: a7 :: a8 :: a9 :: a10 :: a11 :: a12 :: a13 :: a14 :: a15 :: a16 :: a17 :: a18 :: a19 :: tl) (.ref x :: st) I J := zk_astoreG (lv := a0 :: a1 :: a2 :: a3 :: a4 :: a5 :: a6 :: a7 :: a8 :: a9 :: a10 :: a11 :: a12 :: a13 :: a14 :: a15 :: a16 :: a17 :: a18 :: a19 :: tl) h d (by simp only [List.length_cons]; omega) (Or.inr hp) kk
theorem zk_ls19 {a0 a1 a2 a3 a4 a5 a6 a7 a8 a9 a10 a11 a12 a13 a14 a15 a16 a17 a18 a19 a20 : Option Value} {tl : List (Option Value)} {x : Int64} (h : zk_C v X E own cc dep) (d : zk_D cc pc pc' (.lstore 19) 2) (hp : zk_n2 (some a18) = true) (kk : zk_A v X E pc' (a0 :: a1 :: a2 :: a3 :: a4 :: a5 :: a6 :: a7 :: a8 :: a9 :: a10 :: a11 :: a12 :: a13 :: a14 :: a15 :: a16 :: a17 :: a18 :: some (.long x) :: none :: tl) st I J) : zk_A v X E pc (a0 :: a1 :: a2 :: a3 :: a4 :: a5 :: a6 :: a7 :: a8 :: a9 :: a10 :: a11 :: a12 :: a13 :: a14 :: a15 :: a16 :: a17 :: a18 :: a19 :: a20 :: tl) (.long x :: st) I J := zk_lstoreG (lv := a0 :: a1 :: a2 :: a3 :: a4 :: a5 :: a6 :: a7 :: a8 :: a9 :: a10 :: a11 :: a12 :: a13 :: a14 :: a15 :: a16 :: a17 :: a18 :: a19 :: a20 :: tl) h d (by simp only [List.length_cons]; omega) (Or.inr hp) kk
theorem zk_in19 {a0 a1 a2 a3 a4 a5 a6 a7 a8 a9 a10 a11 a12 a13 a14 a15 a16 a17 a18 : Option Value} {tl : List (Option Value)} {n : Nat} (h : zk_C v X E own cc dep) (d : zk_D cc pc pc' (.iinc 19 1) 3) (kk : zk_A v X E pc' (a0 :: a1 :: a2 :: a3 :: a4 :: a5 :: a6 :: a7 :: a8 :: a9 :: a10 :: a11 :: a12 :: a13 :: a14 :: a15 :: a16 :: a17 :: a18 :: some (.int (nI (n + 1))) :: tl) st I J) : zk_A v X E pc (a0 :: a1 :: a2 :: a3 :: a4 :: a5 :: a6 :: a7 :: a8 :: a9 :: a10 :: a11 :: a12 :: a13 :: a14 :: a15 :: a16 :: a17 :: a18 :: some (.int (nI n)) :: tl) st I J := by
  refine zk_iincG (lv := a0 :: a1 :: a2 :: a3 :: a4 :: a5 :: a6 :: a7 :: a8 :: a9 :: a10 :: a11 :: a12 :: a13 :: a14 :: a15 :: a16 :: a17 :: a18 :: some (.int (nI n)) :: tl) h d rfl ?_
  rw [show nI n + Int32.ofInt 1 = nI (n + 1) from nI_1 n]
  exact kk
theorem zk_fg19 {a0 a1 a2 a3 a4 a5 a6 a7 a8 a9 a10 a11 a12 a13 a14 a15 a16 a17 a18 a19 : Option Value} {tl : List (Option Value)} (kk : zk_A v X E pc (a0 :: a1 :: a2 :: a3 :: a4 :: a5 :: a6 :: a7 :: a8 :: a9 :: a10 :: a11 :: a12 :: a13 :: a14 :: a15 :: a16 :: a17 :: a18 :: none :: tl) st I J) : zk_A v X E pc (a0 :: a1 :: a2 :: a3 :: a4 :: a5 :: a6 :: a7 :: a8 :: a9 :: a10 :: a11 :: a12 :: a13 :: a14 :: a15 :: a16 :: a17 :: a18 :: a19 :: tl) st I J := zk_fg (lv := a0 :: a1 :: a2 :: a3 :: a4 :: a5 :: a6 :: a7 :: a8 :: a9 :: a10 :: a11 :: a12 :: a13 :: a14 :: a15 :: a16 :: a17 :: a18 :: a19 :: tl) 19 kk
end ZP
end
section
section ZN
variable {v : Nat} {X : zk_X} {E : zk_E} {own : String} {cc : ByteArray} {dep : Nat × Nat} {pc pc' : Nat} {lv : List (Option Value)} {st : List Value} {I I' : zk_I} {J J' : zk_J}
theorem zk_topi {x : Int32} (y : Int32) (e : x = y) (k : zk_A v X E pc lv (.int y :: st) I J) : zk_A v X E pc lv (.int x :: st) I J := e ▸ k
theorem zk_topl {x : Int64} (y : Int64) (e : x = y) (k : zk_A v X E pc lv (.long y :: st) I J) : zk_A v X E pc lv (.long x :: st) I J := e ▸ k
theorem zk_nmJ (k : ∀ J2, J2 = J → zk_A v X E pc lv st I J2) : zk_A v X E pc lv st I J := k J rfl
theorem zk_nmI (k : ∀ I2, I2 = I → zk_A v X E pc lv st I2 J) : zk_A v X E pc lv st I J := k I rfl
theorem zk_eqJ (e : J = J') (k : zk_A v X E pc lv st I J') : zk_A v X E pc lv st I J := e ▸ k
theorem zk_eqI (e : I = I') (k : zk_A v X E pc lv st I' J) : zk_A v X E pc lv st I J := e ▸ k
theorem zk_iaddN {a b : Nat} (h : zk_C v X E own cc dep) (d : zk_D cc pc pc' .iadd 1) (kk : zk_A v X E pc' lv (.int (nI (a + b)) :: st) I J) : zk_A v X E pc lv (.int (nI b) :: .int (nI a) :: st) I J := zk_iadd h d (by rw [nI_add]; exact kk)
theorem zk_isubN {a b : Nat} (h : zk_C v X E own cc dep) (d : zk_D cc pc pc' .isub 1) (hb : b ≤ a) (kk : zk_A v X E pc' lv (.int (nI (a - b)) :: st) I J) : zk_A v X E pc lv (.int (nI b) :: .int (nI a) :: st) I J := zk_isub h d (by rw [pk_sub hb]; exact kk)
theorem zk_imulN {a b : Nat} (h : zk_C v X E own cc dep) (d : zk_D cc pc pc' .imul 1) (kk : zk_A v X E pc' lv (.int (nI (a * b)) :: st) I J) : zk_A v X E pc lv (.int (nI b) :: .int (nI a) :: st) I J := zk_imul h d (by rw [pk_mul]; exact kk)
theorem zk_idivN {a b : Nat} (h : zk_C v X E own cc dep) (d : zk_D cc pc pc' .idiv 1) (ha : a < 2 ^ 31) (h0 : 0 < b) (hb : b < 2 ^ 31) (kk : zk_A v X E pc' lv (.int (nI (a / b)) :: st) I J) : zk_A v X E pc lv (.int (nI b) :: .int (nI a) :: st) I J := zk_idiv h d (nI_ne0 h0 hb) (by rw [pk_div ha h0 hb]; exact kk)
theorem zk_iremN {a b : Nat} (h : zk_C v X E own cc dep) (d : zk_D cc pc pc' .irem 1) (ha : a < 2 ^ 31) (h0 : 0 < b) (hb : b < 2 ^ 31) (kk : zk_A v X E pc' lv (.int (nI (a % b)) :: st) I J) : zk_A v X E pc lv (.int (nI b) :: .int (nI a) :: st) I J := zk_irem h d (nI_ne0 h0 hb) (by rw [pk_rem ha h0 hb]; exact kk)
theorem zk_i2lN {a : Nat} (h : zk_C v X E own cc dep) (d : zk_D cc pc pc' .i2l 1) (ha : a < 2 ^ 31) (kk : zk_A v X E pc' lv (.long (lN a) :: st) I J) : zk_A v X E pc lv (.int (nI a) :: st) I J := zk_i2l h d (by rw [nI_l ha]; exact kk)
theorem zk_ialdN {k n j : Nat} (h : zk_C v X E own cc dep) (hk : k < zk_N v) (hs : zk_sh v k = .inl (0, n)) (hj : j < n) (hn : n < 2 ^ 31) (d : zk_D cc pc pc' .iaload 1) (kk : zk_A v X E pc' lv (.int (I k j) :: st) I J) : zk_A v X E pc lv (.int (nI j) :: .ref (zk_ad X k) :: st) I J := zk_iald h hk hs (vp_in_nI hj hn) d (by rw [nI_clamp (Nat.lt_trans hj hn)]; exact kk)
theorem zk_baldN {k n j : Nat} (h : zk_C v X E own cc dep) (hk : k < zk_N v) (hs : zk_sh v k = .inl (1, n)) (hj : j < n) (hn : n < 2 ^ 31) (d : zk_D cc pc pc' .baload 1) (kk : zk_A v X E pc' lv (.int (I k j) :: st) I J) : zk_A v X E pc lv (.int (nI j) :: .ref (zk_ad X k) :: st) I J := zk_bald h hk hs (vp_in_nI hj hn) d (by rw [nI_clamp (Nat.lt_trans hj hn)]; exact kk)
theorem zk_laldN {k n j : Nat} (h : zk_C v X E own cc dep) (hk : k < zk_N v) (hs : zk_sh v k = .inl (2, n)) (hj : j < n) (hn : n < 2 ^ 31) (d : zk_D cc pc pc' .laload 1) (kk : zk_A v X E pc' lv (.long (J k j) :: st) I J) : zk_A v X E pc lv (.int (nI j) :: .ref (zk_ad X k) :: st) I J := zk_lald h hk hs (vp_in_nI hj hn) d (by rw [nI_clamp (Nat.lt_trans hj hn)]; exact kk)
theorem zk_iastN {k n j : Nat} {x : Int32} (h : zk_C v X E own cc dep) (hk : k < zk_N v) (hs : zk_sh v k = .inl (0, n)) (hj : j < n) (hn : n < 2 ^ 31) (d : zk_D cc pc pc' .iastore 1) (kk : zk_A v X E pc' lv st (zk_u I k (upd (I k) j x)) J) : zk_A v X E pc lv (.int x :: .int (nI j) :: .ref (zk_ad X k) :: st) I J := zk_iast h hk hs (vp_in_nI hj hn) d (by rw [nI_clamp (Nat.lt_trans hj hn)]; exact kk)
theorem zk_bastN {k n j : Nat} {x : Int32} (h : zk_C v X E own cc dep) (hk : k < zk_N v) (hs : zk_sh v k = .inl (1, n)) (hj : j < n) (hn : n < 2 ^ 31) (d : zk_D cc pc pc' .bastore 1) (kk : zk_A v X E pc' lv st (zk_u I k (upd (I k) j x.toInt8.toInt32)) J) : zk_A v X E pc lv (.int x :: .int (nI j) :: .ref (zk_ad X k) :: st) I J := zk_bast h hk hs (vp_in_nI hj hn) d (by rw [nI_clamp (Nat.lt_trans hj hn)]; exact kk)
theorem zk_lastN {k n j : Nat} {x : Int64} (h : zk_C v X E own cc dep) (hk : k < zk_N v) (hs : zk_sh v k = .inl (2, n)) (hj : j < n) (hn : n < 2 ^ 31) (d : zk_D cc pc pc' .lastore 1) (kk : zk_A v X E pc' lv st I (zk_u J k (vp_updL (J k) j x))) : zk_A v X E pc lv (.long x :: .int (nI j) :: .ref (zk_ad X k) :: st) I J := zk_last h hk hs (vp_in_nI hj hn) d (by rw [nI_clamp (Nat.lt_trans hj hn)]; exact kk)
theorem zk_aaldN {k n t p0 j : Nat} {ty : FieldType} (h : zk_C v X E own cc dep) (hk : k < zk_N v) (hs : zk_sh v k = .inr (.inr (t, n, p0))) (ht : (zk_tys X)[t]? = some (X.2.2.2.1 t, ty)) (hr : ty.isReference = true) (hj : j < n) (hn : n < 2 ^ 31) (d : zk_D cc pc pc' .aaload 1) (kk : zk_A v X E pc' lv (.ref (zk_ad X (p0 + j)) :: st) I J) : zk_A v X E pc lv (.int (nI j) :: .ref (zk_ad X k) :: st) I J := zk_aald h hk hs ht hr (vp_in_nI hj hn) d (by rw [nI_clamp (Nat.lt_trans hj hn)]; exact kk)
theorem zk_tiN {j i n : Nat} {C nm ds : String} {f : Nat → Value} {x : Value} (h : zk_C v X E own cc dep) (hq : zk_stats[j]? = some (C, nm, ds, .int, n, f)) (hi : i < n) (hn : n < 2 ^ 31) (hx : f i = x) (d : zk_D cc pc pc' .iaload 1) (kk : zk_A v X E pc' lv (x :: st) I J) : zk_A v X E pc lv (.int (nI i) :: .ref (zk_sa X j) :: st) I J := zk_ti h hq (vp_in_nI hi hn) (by rw [nI_clamp (Nat.lt_trans hi hn)]; exact hx) d kk
theorem zk_tlN {j i n : Nat} {C nm ds : String} {f : Nat → Value} {x : Value} (h : zk_C v X E own cc dep) (hq : zk_stats[j]? = some (C, nm, ds, .long, n, f)) (hi : i < n) (hn : n < 2 ^ 31) (hx : f i = x) (d : zk_D cc pc pc' .laload 1) (kk : zk_A v X E pc' lv (x :: st) I J) : zk_A v X E pc lv (.int (nI i) :: .ref (zk_sa X j) :: st) I J := zk_tl h hq (vp_in_nI hi hn) (by rw [nI_clamp (Nat.lt_trans hi hn)]; exact hx) d kk
/-- branches over small numbers -/
theorem zk_icmp_geN {a b : Nat} {off : Int} (h : zk_C v X E own cc dep) (d : zk_D cc pc pc' (.if_icmp .ge off) 3) (tgt : Nat) (ht : (pc : Int) + off = (tgt : Int)) (ha : a < 2 ^ 31) (hb : b < 2 ^ 31) (kt : b ≤ a → zk_A v X E tgt lv st I J) (kf : a < b → zk_A v X E pc' lv st I J) : zk_A v X E pc lv (.int (nI b) :: .int (nI a) :: st) I J := zk_icmp_ge h d tgt ht (fun q => kt ((nI_leI hb ha).mp q)) (fun q => kf (Nat.not_le.mp fun z => q ((nI_leI hb ha).mpr z)))
theorem zk_icmp_gtN {a b : Nat} {off : Int} (h : zk_C v X E own cc dep) (d : zk_D cc pc pc' (.if_icmp .gt off) 3) (tgt : Nat) (ht : (pc : Int) + off = (tgt : Int)) (ha : a < 2 ^ 31) (hb : b < 2 ^ 31) (kt : b < a → zk_A v X E tgt lv st I J) (kf : a ≤ b → zk_A v X E pc' lv st I J) : zk_A v X E pc lv (.int (nI b) :: .int (nI a) :: st) I J := zk_icmp_gt h d tgt ht (fun q => kt ((nI_ltI hb ha).mp q)) (fun q => kf (Nat.not_lt.mp fun z => q ((nI_ltI hb ha).mpr z)))
theorem zk_icmp_leN {a b : Nat} {off : Int} (h : zk_C v X E own cc dep) (d : zk_D cc pc pc' (.if_icmp .le off) 3) (tgt : Nat) (ht : (pc : Int) + off = (tgt : Int)) (ha : a < 2 ^ 31) (hb : b < 2 ^ 31) (kt : a ≤ b → zk_A v X E tgt lv st I J) (kf : b < a → zk_A v X E pc' lv st I J) : zk_A v X E pc lv (.int (nI b) :: .int (nI a) :: st) I J := zk_icmp_le h d tgt ht (fun q => kt ((nI_leI ha hb).mp q)) (fun q => kf (Nat.not_le.mp fun z => q ((nI_leI ha hb).mpr z)))
theorem zk_icmp_ltN {a b : Nat} {off : Int} (h : zk_C v X E own cc dep) (d : zk_D cc pc pc' (.if_icmp .lt off) 3) (tgt : Nat) (ht : (pc : Int) + off = (tgt : Int)) (ha : a < 2 ^ 31) (hb : b < 2 ^ 31) (kt : a < b → zk_A v X E tgt lv st I J) (kf : b ≤ a → zk_A v X E pc' lv st I J) : zk_A v X E pc lv (.int (nI b) :: .int (nI a) :: st) I J := zk_icmp_lt h d tgt ht (fun q => kt ((nI_ltI ha hb).mp q)) (fun q => kf (Nat.not_lt.mp fun z => q ((nI_ltI ha hb).mpr z)))
theorem zk_icmp_neN {a b : Nat} {off : Int} (h : zk_C v X E own cc dep) (d : zk_D cc pc pc' (.if_icmp .ne off) 3) (tgt : Nat) (ht : (pc : Int) + off = (tgt : Int)) (ha : a < 2 ^ 31) (hb : b < 2 ^ 31) (kt : a ≠ b → zk_A v X E tgt lv st I J) (kf : a = b → zk_A v X E pc' lv st I J) : zk_A v X E pc lv (.int (nI b) :: .int (nI a) :: st) I J := zk_icmp_ne h d tgt ht (fun q => kt (fun z => q (by rw [z]))) (fun q => kf ((nI_eq ha hb).mp q))
theorem zk_icmp_eqN {a b : Nat} {off : Int} (h : zk_C v X E own cc dep) (d : zk_D cc pc pc' (.if_icmp .eq off) 3) (tgt : Nat) (ht : (pc : Int) + off = (tgt : Int)) (ha : a < 2 ^ 31) (hb : b < 2 ^ 31) (kt : a = b → zk_A v X E tgt lv st I J) (kf : a ≠ b → zk_A v X E pc' lv st I J) : zk_A v X E pc lv (.int (nI b) :: .int (nI a) :: st) I J := zk_icmp_eq h d tgt ht (fun q => kt ((nI_eq ha hb).mp q)) (fun q => kf (fun z => q (by rw [z])))
theorem zk_if_neN {a : Nat} {off : Int} (h : zk_C v X E own cc dep) (d : zk_D cc pc pc' (.ifCond .ne off) 3) (tgt : Nat) (ht : (pc : Int) + off = (tgt : Int)) (ha : a < 2 ^ 31) (kt : a ≠ 0 → zk_A v X E tgt lv st I J) (kf : a = 0 → zk_A v X E pc' lv st I J) : zk_A v X E pc lv (.int (nI a) :: st) I J := zk_if_ne h d tgt ht (fun q => kt (fun z => q (by rw [z, nI_0]))) (fun q => kf ((nI_eq ha (by decide)).mp (q.trans nI_0.symm)))
theorem zk_if_eqN {a : Nat} {off : Int} (h : zk_C v X E own cc dep) (d : zk_D cc pc pc' (.ifCond .eq off) 3) (tgt : Nat) (ht : (pc : Int) + off = (tgt : Int)) (ha : a < 2 ^ 31) (kt : a = 0 → zk_A v X E tgt lv st I J) (kf : a ≠ 0 → zk_A v X E pc' lv st I J) : zk_A v X E pc lv (.int (nI a) :: st) I J := zk_if_eq h d tgt ht (fun q => kt ((nI_eq ha (by decide)).mp (q.trans nI_0.symm))) (fun q => kf (fun z => q (by rw [z, nI_0])))
theorem zk_if_leN {a : Nat} {off : Int} (h : zk_C v X E own cc dep) (d : zk_D cc pc pc' (.ifCond .le off) 3) (tgt : Nat) (ht : (pc : Int) + off = (tgt : Int)) (ha : a < 2 ^ 31) (kt : a = 0 → zk_A v X E tgt lv st I J) (kf : 0 < a → zk_A v X E pc' lv st I J) : zk_A v X E pc lv (.int (nI a) :: st) I J := zk_if_le h d tgt ht (fun q => kt (Nat.le_zero.mp ((nI_leI ha (by decide)).mp (by rw [nI_0]; exact q)))) (fun q => kf (Nat.pos_of_ne_zero (fun z => q (by rw [z, nI_0]; decide))))
theorem zk_if_gtN {a : Nat} {off : Int} (h : zk_C v X E own cc dep) (d : zk_D cc pc pc' (.ifCond .gt off) 3) (tgt : Nat) (ht : (pc : Int) + off = (tgt : Int)) (ha : a < 2 ^ 31) (kt : 0 < a → zk_A v X E tgt lv st I J) (kf : a = 0 → zk_A v X E pc' lv st I J) : zk_A v X E pc lv (.int (nI a) :: st) I J := zk_if_gt h d tgt ht (fun q => kt ((nI_ltI (by decide) ha).mp (by rw [nI_0]; exact q))) (fun q => kf (by
  rcases Nat.eq_zero_or_pos a with z | z
  · exact z
  · exact absurd (by have := (nI_ltI (by decide) ha).mpr z; rwa [nI_0] at this) q))
theorem zk_if_ltN {a : Nat} {off : Int} (h : zk_C v X E own cc dep) (d : zk_D cc pc pc' (.ifCond .lt off) 3) (tgt : Nat) (ht : (pc : Int) + off = (tgt : Int)) (ha : a < 2 ^ 31) (kf : zk_A v X E pc' lv st I J) : zk_A v X E pc lv (.int (nI a) :: st) I J := zk_if_lt h d tgt ht (fun q => absurd q (nI_pos ha)) (fun _ => kf)
theorem zk_if_geN {a : Nat} {off : Int} (h : zk_C v X E own cc dep) (d : zk_D cc pc pc' (.ifCond .ge off) 3) (tgt : Nat) (ht : (pc : Int) + off = (tgt : Int)) (ha : a < 2 ^ 31) (kt : zk_A v X E tgt lv st I J) : zk_A v X E pc lv (.int (nI a) :: st) I J := zk_if_ge h d tgt ht (fun _ => kt) (fun q => absurd (nI_pos' ha) q)
/-- a loop that counts -/
theorem zk_up {P : Nat → Prop} (N : Nat) (hN : P N) (h : ∀ i, i < N → P (i + 1) → P i) : P 0 := by
  have key : ∀ k, k ≤ N → P (N - k) := by
    intro k
    induction k with
    | zero => intro _; exact hN
    | succ k ih => exact fun hk => h _ (by omega) (by rw [show N - (k + 1) + 1 = N - k by omega]; exact ih (by omega))
  have := key N (Nat.le_refl N)
  rwa [Nat.sub_self] at this
end ZN
end
