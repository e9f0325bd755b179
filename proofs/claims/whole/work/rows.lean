section
-- ===== PART A: goes FIRST, ahead of the names: the tables' words, and 'selects' of the private methods out of them =====
/-- a private method of a class that the tables say can be made, by its rows of tables_1 -/
def lw_okq (q : MethodName × Nat) : Prop := (q.1.cls ≠ "java/lang/invoke/MethodHandle" ∧ q.1.cls ≠ "java/lang/invoke/VarHandle") ∧ Cond.instantiable q.1.cls q.2 ∈ tables_1 ∧ Cond.privateMethod q.1 ∈ tables_1 ∧ Cond.instanceMethod q.1 ∈ tables_1
theorem lw_p0 : lw_okq (⟨"FrameSharer", "leastMissingSpace", "()I"⟩, 6) := ⟨⟨by decide +kernel, by decide +kernel⟩, List.mem_of_getElem? (i := 13) (by decide +kernel), List.mem_of_getElem? (i := 55) (by decide +kernel), List.mem_of_getElem? (i := 56) (by decide +kernel)⟩
theorem lw_p1 : lw_okq (⟨"FrameSharer", "leastMissingPicture", "()I"⟩, 6) := ⟨⟨by decide +kernel, by decide +kernel⟩, List.mem_of_getElem? (i := 13) (by decide +kernel), List.mem_of_getElem? (i := 66) (by decide +kernel), List.mem_of_getElem? (i := 67) (by decide +kernel)⟩
theorem lw_p2 : lw_okq (⟨"FrameSharer", "copyRow", "(II)V"⟩, 6) := ⟨⟨by decide +kernel, by decide +kernel⟩, List.mem_of_getElem? (i := 13) (by decide +kernel), List.mem_of_getElem? (i := 70) (by decide +kernel), List.mem_of_getElem? (i := 71) (by decide +kernel)⟩
theorem lw_p3 : lw_okq (⟨"FrameSharer", "standIn", "(II)V"⟩, 6) := ⟨⟨by decide +kernel, by decide +kernel⟩, List.mem_of_getElem? (i := 13) (by decide +kernel), List.mem_of_getElem? (i := 74) (by decide +kernel), List.mem_of_getElem? (i := 75) (by decide +kernel)⟩
theorem lw_p4 : lw_okq (⟨"FrameSharer", "isFrame", "(I)Z"⟩, 6) := ⟨⟨by decide +kernel, by decide +kernel⟩, List.mem_of_getElem? (i := 13) (by decide +kernel), List.mem_of_getElem? (i := 78) (by decide +kernel), List.mem_of_getElem? (i := 79) (by decide +kernel)⟩
theorem lw_p5 : lw_okq (⟨"FrameSharer", "framesInUse", "()I"⟩, 6) := ⟨⟨by decide +kernel, by decide +kernel⟩, List.mem_of_getElem? (i := 13) (by decide +kernel), List.mem_of_getElem? (i := 86) (by decide +kernel), List.mem_of_getElem? (i := 87) (by decide +kernel)⟩
theorem lw_p6 : lw_okq (⟨"FrameSharer", "spacesNow", "()I"⟩, 6) := ⟨⟨by decide +kernel, by decide +kernel⟩, List.mem_of_getElem? (i := 13) (by decide +kernel), List.mem_of_getElem? (i := 90) (by decide +kernel), List.mem_of_getElem? (i := 91) (by decide +kernel)⟩
theorem lw_p7 : lw_okq (⟨"FrameSharer", "picturesNow", "()I"⟩, 6) := ⟨⟨by decide +kernel, by decide +kernel⟩, List.mem_of_getElem? (i := 13) (by decide +kernel), List.mem_of_getElem? (i := 94) (by decide +kernel), List.mem_of_getElem? (i := 95) (by decide +kernel)⟩
theorem lw_p8 : lw_okq (⟨"FrameSharer", "pagesNow", "()I"⟩, 6) := ⟨⟨by decide +kernel, by decide +kernel⟩, List.mem_of_getElem? (i := 13) (by decide +kernel), List.mem_of_getElem? (i := 98) (by decide +kernel), List.mem_of_getElem? (i := 99) (by decide +kernel)⟩
theorem lw_p9 : lw_okq (⟨"FrameSharer", "pagesOfSpace", "(I)I"⟩, 6) := ⟨⟨by decide +kernel, by decide +kernel⟩, List.mem_of_getElem? (i := 13) (by decide +kernel), List.mem_of_getElem? (i := 102) (by decide +kernel), List.mem_of_getElem? (i := 103) (by decide +kernel)⟩
theorem lw_p10 : lw_okq (⟨"FrameSharer", "needSpace", "(I)V"⟩, 6) := ⟨⟨by decide +kernel, by decide +kernel⟩, List.mem_of_getElem? (i := 13) (by decide +kernel), List.mem_of_getElem? (i := 124) (by decide +kernel), List.mem_of_getElem? (i := 125) (by decide +kernel)⟩
theorem lw_p11 : lw_okq (⟨"java/lang/Throwable", "fillInStackTrace", "(I)Ljava/lang/Throwable;"⟩, 6) := ⟨⟨by decide +kernel, by decide +kernel⟩, List.mem_of_getElem? (i := 167) (by decide +kernel), List.mem_of_getElem? (i := 165) (by decide +kernel), List.mem_of_getElem? (i := 166) (by decide +kernel)⟩
theorem lw_p12 : lw_okq (⟨"FrameSharer", "needPage", "(I)V"⟩, 6) := ⟨⟨by decide +kernel, by decide +kernel⟩, List.mem_of_getElem? (i := 13) (by decide +kernel), List.mem_of_getElem? (i := 213) (by decide +kernel), List.mem_of_getElem? (i := 214) (by decide +kernel)⟩
theorem lw_p13 : lw_okq (⟨"FrameSharer", "needFreeFrame", "()I"⟩, 6) := ⟨⟨by decide +kernel, by decide +kernel⟩, List.mem_of_getElem? (i := 13) (by decide +kernel), List.mem_of_getElem? (i := 233) (by decide +kernel), List.mem_of_getElem? (i := 234) (by decide +kernel)⟩
theorem lw_p14 : lw_okq (⟨"FrameSharer", "fillFrame", "(II)V"⟩, 6) := ⟨⟨by decide +kernel, by decide +kernel⟩, List.mem_of_getElem? (i := 13) (by decide +kernel), List.mem_of_getElem? (i := 253) (by decide +kernel), List.mem_of_getElem? (i := 254) (by decide +kernel)⟩
theorem lw_p15 : lw_okq (⟨"FrameSharer", "needHolderAt", "(II)I"⟩, 6) := ⟨⟨by decide +kernel, by decide +kernel⟩, List.mem_of_getElem? (i := 13) (by decide +kernel), List.mem_of_getElem? (i := 271) (by decide +kernel), List.mem_of_getElem? (i := 272) (by decide +kernel)⟩
def lw_privs_1 : List (MethodName × Nat) := [(⟨"FrameSharer", "leastMissingSpace", "()I"⟩, 6), (⟨"FrameSharer", "leastMissingPicture", "()I"⟩, 6), (⟨"FrameSharer", "copyRow", "(II)V"⟩, 6), (⟨"FrameSharer", "standIn", "(II)V"⟩, 6), (⟨"FrameSharer", "isFrame", "(I)Z"⟩, 6), (⟨"FrameSharer", "framesInUse", "()I"⟩, 6), (⟨"FrameSharer", "spacesNow", "()I"⟩, 6), (⟨"FrameSharer", "picturesNow", "()I"⟩, 6), (⟨"FrameSharer", "pagesNow", "()I"⟩, 6), (⟨"FrameSharer", "pagesOfSpace", "(I)I"⟩, 6), (⟨"FrameSharer", "needSpace", "(I)V"⟩, 6), (⟨"java/lang/Throwable", "fillInStackTrace", "(I)Ljava/lang/Throwable;"⟩, 6), (⟨"FrameSharer", "needPage", "(I)V"⟩, 6), (⟨"FrameSharer", "needFreeFrame", "()I"⟩, 6), (⟨"FrameSharer", "fillFrame", "(II)V"⟩, 6), (⟨"FrameSharer", "needHolderAt", "(II)I"⟩, 6)]
theorem lw_r1 : ∀ q ∈ lw_privs_1, lw_okq q := List.forall_mem_cons.mpr ⟨lw_p0, List.forall_mem_cons.mpr ⟨lw_p1, List.forall_mem_cons.mpr ⟨lw_p2, List.forall_mem_cons.mpr ⟨lw_p3, List.forall_mem_cons.mpr ⟨lw_p4, List.forall_mem_cons.mpr ⟨lw_p5, List.forall_mem_cons.mpr ⟨lw_p6, List.forall_mem_cons.mpr ⟨lw_p7, List.forall_mem_cons.mpr ⟨lw_p8, List.forall_mem_cons.mpr ⟨lw_p9, List.forall_mem_cons.mpr ⟨lw_p10, List.forall_mem_cons.mpr ⟨lw_p11, List.forall_mem_cons.mpr ⟨lw_p12, List.forall_mem_cons.mpr ⟨lw_p13, List.forall_mem_cons.mpr ⟨lw_p14, List.forall_mem_cons.mpr ⟨lw_p15, fun _ h => absurd h List.not_mem_nil⟩⟩⟩⟩⟩⟩⟩⟩⟩⟩⟩⟩⟩⟩⟩⟩
theorem lw_p16 : lw_okq (⟨"FrameSharer", "needOwnFrame", "(I)I"⟩, 6) := ⟨⟨by decide +kernel, by decide +kernel⟩, List.mem_of_getElem? (i := 13) (by decide +kernel), List.mem_of_getElem? (i := 287) (by decide +kernel), List.mem_of_getElem? (i := 288) (by decide +kernel)⟩
theorem lw_p17 : lw_okq (⟨"FrameSharer", "needTwoPages", "(IIII)V"⟩, 6) := ⟨⟨by decide +kernel, by decide +kernel⟩, List.mem_of_getElem? (i := 13) (by decide +kernel), List.mem_of_getElem? (i := 301) (by decide +kernel), List.mem_of_getElem? (i := 302) (by decide +kernel)⟩
theorem lw_p18 : lw_okq (⟨"FrameSharer", "haveSameCells", "(II)Z"⟩, 6) := ⟨⟨by decide +kernel, by decide +kernel⟩, List.mem_of_getElem? (i := 13) (by decide +kernel), List.mem_of_getElem? (i := 312) (by decide +kernel), List.mem_of_getElem? (i := 313) (by decide +kernel)⟩
theorem lw_p19 : lw_okq (⟨"FrameSharer", "moveHolders", "(II)V"⟩, 6) := ⟨⟨by decide +kernel, by decide +kernel⟩, List.mem_of_getElem? (i := 13) (by decide +kernel), List.mem_of_getElem? (i := 316) (by decide +kernel), List.mem_of_getElem? (i := 317) (by decide +kernel)⟩
theorem lw_p20 : lw_okq (⟨"FrameSharer", "needPicture", "(I)V"⟩, 6) := ⟨⟨by decide +kernel, by decide +kernel⟩, List.mem_of_getElem? (i := 13) (by decide +kernel), List.mem_of_getElem? (i := 327) (by decide +kernel), List.mem_of_getElem? (i := 328) (by decide +kernel)⟩
theorem lw_p21 : lw_okq (⟨"FrameSharer", "clearRow", "(I)V"⟩, 6) := ⟨⟨by decide +kernel, by decide +kernel⟩, List.mem_of_getElem? (i := 13) (by decide +kernel), List.mem_of_getElem? (i := 339) (by decide +kernel), List.mem_of_getElem? (i := 340) (by decide +kernel)⟩
theorem lw_p22 : lw_okq (⟨"FrameSharerModel", "free", "()I"⟩, 7) := ⟨⟨by decide +kernel, by decide +kernel⟩, List.mem_of_getElem? (i := 357) (by decide +kernel), List.mem_of_getElem? (i := 393) (by decide +kernel), List.mem_of_getElem? (i := 394) (by decide +kernel)⟩
theorem lw_p23 : lw_okq (⟨"FrameSharerModel", "isSpace", "(I)Z"⟩, 7) := ⟨⟨by decide +kernel, by decide +kernel⟩, List.mem_of_getElem? (i := 357) (by decide +kernel), List.mem_of_getElem? (i := 401) (by decide +kernel), List.mem_of_getElem? (i := 402) (by decide +kernel)⟩
theorem lw_p24 : lw_okq (⟨"FrameSharerModel", "fails", "(ZZZ)Z"⟩, 7) := ⟨⟨by decide +kernel, by decide +kernel⟩, List.mem_of_getElem? (i := 357) (by decide +kernel), List.mem_of_getElem? (i := 405) (by decide +kernel), List.mem_of_getElem? (i := 406) (by decide +kernel)⟩
theorem lw_p25 : lw_okq (⟨"FrameSharerModel", "copyPage", "(II)V"⟩, 7) := ⟨⟨by decide +kernel, by decide +kernel⟩, List.mem_of_getElem? (i := 357) (by decide +kernel), List.mem_of_getElem? (i := 412) (by decide +kernel), List.mem_of_getElem? (i := 413) (by decide +kernel)⟩
theorem lw_p26 : lw_okq (⟨"FrameSharerModel", "pagesOf", "(I)I"⟩, 7) := ⟨⟨by decide +kernel, by decide +kernel⟩, List.mem_of_getElem? (i := 357) (by decide +kernel), List.mem_of_getElem? (i := 420) (by decide +kernel), List.mem_of_getElem? (i := 421) (by decide +kernel)⟩
theorem lw_p27 : lw_okq (⟨"FrameSharerModel", "empty", "(II)V"⟩, 7) := ⟨⟨by decide +kernel, by decide +kernel⟩, List.mem_of_getElem? (i := 357) (by decide +kernel), List.mem_of_getElem? (i := 424) (by decide +kernel), List.mem_of_getElem? (i := 425) (by decide +kernel)⟩
theorem lw_p28 : lw_okq (⟨"FrameSharerModel", "used", "()I"⟩, 7) := ⟨⟨by decide +kernel, by decide +kernel⟩, List.mem_of_getElem? (i := 357) (by decide +kernel), List.mem_of_getElem? (i := 435) (by decide +kernel), List.mem_of_getElem? (i := 436) (by decide +kernel)⟩
theorem lw_p29 : lw_okq (⟨"FrameSharerModel", "cell", "(II)I"⟩, 7) := ⟨⟨by decide +kernel, by decide +kernel⟩, List.mem_of_getElem? (i := 357) (by decide +kernel), List.mem_of_getElem? (i := 447) (by decide +kernel), List.mem_of_getElem? (i := 448) (by decide +kernel)⟩
theorem lw_p30 : lw_okq (⟨"FrameSharerModel", "holdersOf", "(I)I"⟩, 7) := ⟨⟨by decide +kernel, by decide +kernel⟩, List.mem_of_getElem? (i := 357) (by decide +kernel), List.mem_of_getElem? (i := 455) (by decide +kernel), List.mem_of_getElem? (i := 456) (by decide +kernel)⟩
theorem lw_p31 : lw_okq (⟨"FrameSharerModel", "areFaulty", "(IIII)Z"⟩, 7) := ⟨⟨by decide +kernel, by decide +kernel⟩, List.mem_of_getElem? (i := 357) (by decide +kernel), List.mem_of_getElem? (i := 463) (by decide +kernel), List.mem_of_getElem? (i := 464) (by decide +kernel)⟩
def lw_privs_2 : List (MethodName × Nat) := [(⟨"FrameSharer", "needOwnFrame", "(I)I"⟩, 6), (⟨"FrameSharer", "needTwoPages", "(IIII)V"⟩, 6), (⟨"FrameSharer", "haveSameCells", "(II)Z"⟩, 6), (⟨"FrameSharer", "moveHolders", "(II)V"⟩, 6), (⟨"FrameSharer", "needPicture", "(I)V"⟩, 6), (⟨"FrameSharer", "clearRow", "(I)V"⟩, 6), (⟨"FrameSharerModel", "free", "()I"⟩, 7), (⟨"FrameSharerModel", "isSpace", "(I)Z"⟩, 7), (⟨"FrameSharerModel", "fails", "(ZZZ)Z"⟩, 7), (⟨"FrameSharerModel", "copyPage", "(II)V"⟩, 7), (⟨"FrameSharerModel", "pagesOf", "(I)I"⟩, 7), (⟨"FrameSharerModel", "empty", "(II)V"⟩, 7), (⟨"FrameSharerModel", "used", "()I"⟩, 7), (⟨"FrameSharerModel", "cell", "(II)I"⟩, 7), (⟨"FrameSharerModel", "holdersOf", "(I)I"⟩, 7), (⟨"FrameSharerModel", "areFaulty", "(IIII)Z"⟩, 7)]
theorem lw_r2 : ∀ q ∈ lw_privs_2, lw_okq q := List.forall_mem_cons.mpr ⟨lw_p16, List.forall_mem_cons.mpr ⟨lw_p17, List.forall_mem_cons.mpr ⟨lw_p18, List.forall_mem_cons.mpr ⟨lw_p19, List.forall_mem_cons.mpr ⟨lw_p20, List.forall_mem_cons.mpr ⟨lw_p21, List.forall_mem_cons.mpr ⟨lw_p22, List.forall_mem_cons.mpr ⟨lw_p23, List.forall_mem_cons.mpr ⟨lw_p24, List.forall_mem_cons.mpr ⟨lw_p25, List.forall_mem_cons.mpr ⟨lw_p26, List.forall_mem_cons.mpr ⟨lw_p27, List.forall_mem_cons.mpr ⟨lw_p28, List.forall_mem_cons.mpr ⟨lw_p29, List.forall_mem_cons.mpr ⟨lw_p30, List.forall_mem_cons.mpr ⟨lw_p31, fun _ h => absurd h List.not_mem_nil⟩⟩⟩⟩⟩⟩⟩⟩⟩⟩⟩⟩⟩⟩⟩⟩
theorem lw_p32 : lw_okq (⟨"FrameSharerModel", "copyRow", "(II)V"⟩, 7) := ⟨⟨by decide +kernel, by decide +kernel⟩, List.mem_of_getElem? (i := 357) (by decide +kernel), List.mem_of_getElem? (i := 475) (by decide +kernel), List.mem_of_getElem? (i := 476) (by decide +kernel)⟩
theorem lw_p33 : lw_okq (⟨"FrameSharerModel", "isPicture", "(I)Z"⟩, 7) := ⟨⟨by decide +kernel, by decide +kernel⟩, List.mem_of_getElem? (i := 357) (by decide +kernel), List.mem_of_getElem? (i := 483) (by decide +kernel), List.mem_of_getElem? (i := 484) (by decide +kernel)⟩
theorem lw_p34 : lw_okq (⟨"FrameSharerModel", "spaces", "()I"⟩, 7) := ⟨⟨by decide +kernel, by decide +kernel⟩, List.mem_of_getElem? (i := 357) (by decide +kernel), List.mem_of_getElem? (i := 487) (by decide +kernel), List.mem_of_getElem? (i := 488) (by decide +kernel)⟩
def lw_privs_3 : List (MethodName × Nat) := [(⟨"FrameSharerModel", "copyRow", "(II)V"⟩, 7), (⟨"FrameSharerModel", "isPicture", "(I)Z"⟩, 7), (⟨"FrameSharerModel", "spaces", "()I"⟩, 7)]
theorem lw_r3 : ∀ q ∈ lw_privs_3, lw_okq q := List.forall_mem_cons.mpr ⟨lw_p32, List.forall_mem_cons.mpr ⟨lw_p33, List.forall_mem_cons.mpr ⟨lw_p34, fun _ h => absurd h List.not_mem_nil⟩⟩⟩
def lw_privs : List (MethodName × Nat) := lw_privs_1 ++ (lw_privs_2 ++ (lw_privs_3))
def lw_tbl : List Cond := k2_sels lw_privs ++ tables_1
theorem lw_privs_ok : ∀ q ∈ lw_privs, lw_okq q := by
  show ∀ q ∈ lw_privs_1 ++ (lw_privs_2 ++ (lw_privs_3)), lw_okq q
  exact List.forall_mem_append.mpr ⟨lw_r1, List.forall_mem_append.mpr ⟨lw_r2, lw_r3⟩⟩
end
section
abbrev gR : Type := Option Value ⊕ String
abbrev gM : Type := MethodName × ByteArray × Nat × Option FieldType × List (Nat × Nat × Nat × Nat)
def TX : u_T := fun k => match k with
  | 0 => ("FrameSharer", "frameTotal", "I", true)
  | 1 => ("FrameSharer", "cells", "[I", true)
  | 2 => ("FrameSharer", "holdersOfFrame", "[I", true)
  | 3 => ("FrameSharer", "frameOfHolder", "[I", true)
  | 4 => ("FrameSharer", "spaceInRow", "[Z", true)
  | _ => ("FrameSharer", "pictureThere", "[Z", true)
def tyX : Nat → FieldType := fun k => match k with
  | 0 => .int
  | 1 => .array .int
  | 2 => .array .int
  | 3 => .array .int
  | 4 => .array .boolean
  | _ => .array .boolean
theorem nmX : ∀ a, a < 6 → ∀ b, b < 6 → a ≠ b → (TX a).2.1 ≠ (TX b).2.1 := by decide +kernel
theorem tyX_ok : ∀ k, k < 6 → parseFieldDescriptor (TX k).2.2.1 = some (tyX k) := by decide +kernel
def TY : u_T := fun k => match k with
  | 0 => ("FrameSharerModel", "code", "I", false)
  | 1 => ("FrameSharerModel", "frames", "I", true)
  | 2 => ("FrameSharerModel", "stamps", "I", false)
  | 3 => ("FrameSharerModel", "pictured", "[Z", true)
  | 4 => ("FrameSharerModel", "there", "[Z", true)
  | 5 => ("FrameSharerModel", "stamp", "[I", true)
  | _ => ("FrameSharerModel", "cells", "[I", true)
def tyY : Nat → FieldType := fun k => match k with
  | 0 => .int
  | 1 => .int
  | 2 => .int
  | 3 => .array .boolean
  | 4 => .array .boolean
  | 5 => .array .int
  | _ => .array .int
theorem nmY : ∀ a, a < 7 → ∀ b, b < 7 → a ≠ b → (TY a).2.1 ≠ (TY b).2.1 := by decide +kernel
theorem tyY_ok : ∀ k, k < 7 → parseFieldDescriptor (TY k).2.2.1 = some (tyY k) := by decide +kernel
abbrev vwCl : List vw_C := [("FrameSharer", TX, 6), ("FrameSharerModel", TY, 7)]
def gStr : List (String × Nat × String) := [("FrameSharer", 129, "this space is not there"), ("FrameSharer", 136, "a page is 0 to 7"), ("FrameSharer", 147, "all frames are in use"), ("FrameSharer", 141, "an address is 0 to 127"), ("FrameSharer", 143, "this page is absent"), ("FrameSharer", 139, "this picture is not there")]
def gNc : List (String × String) := [("java/lang/IllegalStateException", "java/lang/IndexOutOfBoundsException"), ("java/lang/IllegalStateException", "java/util/NoSuchElementException"), ("java/lang/IndexOutOfBoundsException", "java/lang/IllegalStateException"), ("java/lang/IndexOutOfBoundsException", "java/util/NoSuchElementException"), ("java/util/NoSuchElementException", "java/lang/IllegalStateException"), ("java/util/NoSuchElementException", "java/lang/IndexOutOfBoundsException")]
/-- a word that stays: good, or one of two more kinds -/
def gGood : Cond → Bool
  | .declares _ => true
  | .castable _ _ => true
  | w => goodWord w
theorem gWord_at {args a' : Array Value} {s U : State} {w : Cond} (hW : s.WarmedH U.vm) (hg : gGood w = true) (h : w.before args s = true) : w.before a' U = true := by
  have tr : ∀ {c : Cond}, c.onTables = true → c.before args (s.setVm U.vm) = true → c.before a' U = true := by
    intro c hc h
    have e := Cond.onTables_vm (A := args) (A' := a') (U := s) (U' := U) U.vm c hc
    have hU : U.setVm U.vm = U := rfl
    rw [hU] at e
    rw [← e]
    exact h
  cases w with
  | declares x => exact tr rfl (by rw [Cond.declares_setVm hW.alike]; exact h)
  | castable a b => exact tr rfl (by rw [Cond.castable_setVm hW.alike]; exact h)
  | _ => exact word_at hW (good_of_word hg) h
/-- a word that stands in the tables and stays -/
def gH (w : Cond) : Prop := w ∈ lw_tbl ∧ gGood w = true
abbrev mX_init : gM := (⟨"FrameSharer", "<init>", "(I)V"⟩, prog_1_method_1_code, 2, none, [])
abbrev mX_open : gM := (⟨"FrameSharer", "open", "()I"⟩, prog_1_method_2_code, 2, (some .int), [])
abbrev mX_leastMissingSpace : gM := (⟨"FrameSharer", "leastMissingSpace", "()I"⟩, prog_1_method_31_code, 2, (some .int), [])
abbrev mX_spaceIndex : gM := (⟨"FrameSharer", "spaceIndex", "(II)I"⟩, prog_1_method_39_code, 2, (some .int), [])
abbrev mX_take : gM := (⟨"FrameSharer", "take", "()I"⟩, prog_1_method_11_code, 2, (some .int), [])
abbrev mX_leastMissingPicture : gM := (⟨"FrameSharer", "leastMissingPicture", "()I"⟩, prog_1_method_32_code, 2, (some .int), [])
abbrev mX_copyRow : gM := (⟨"FrameSharer", "copyRow", "(II)V"⟩, prog_1_method_27_code, 4, none, [])
abbrev mX_standIn : gM := (⟨"FrameSharer", "standIn", "(II)V"⟩, prog_1_method_25_code, 4, none, [])
abbrev mX_isFrame : gM := (⟨"FrameSharer", "isFrame", "(I)Z"⟩, prog_1_method_38_code, 2, (some .boolean), [])
abbrev mX_count : gM := (⟨"FrameSharer", "count", "(I)I"⟩, prog_1_method_16_code, 2, (some .int), [])
abbrev mX_framesInUse : gM := (⟨"FrameSharer", "framesInUse", "()I"⟩, prog_1_method_33_code, 3, (some .int), [])
abbrev mX_spacesNow : gM := (⟨"FrameSharer", "spacesNow", "()I"⟩, prog_1_method_34_code, 3, (some .int), [])
abbrev mX_picturesNow : gM := (⟨"FrameSharer", "picturesNow", "()I"⟩, prog_1_method_35_code, 3, (some .int), [])
abbrev mX_pagesNow : gM := (⟨"FrameSharer", "pagesNow", "()I"⟩, prog_1_method_36_code, 3, (some .int), [])
abbrev mX_pagesOfSpace : gM := (⟨"FrameSharer", "pagesOfSpace", "(I)I"⟩, prog_1_method_37_code, 4, (some .int), [])
abbrev mX_pageNow : gM := (⟨"FrameSharer", "pageNow", "(II)I"⟩, prog_1_method_40_code, 2, (some .int), [])
abbrev mX_isThere : gM := (⟨"FrameSharer", "isThere", "(I)Z"⟩, prog_1_method_17_code, 2, (some .boolean), [])
abbrev mL_cell : gM := (⟨"FrameSharerLaw", "cell", "([II)I"⟩, method_2_code, 2, (some .int), [])
abbrev mL_fork : gM := (⟨"FrameSharerLaw", "fork", "(LFrameSharer;I[J)I"⟩, method_3_code, 4, (some .int), [(0, 9, 12, 13)])
abbrev mX_fork : gM := (⟨"FrameSharer", "fork", "(I)I"⟩, prog_1_method_3_code, 4, (some .int), [])
abbrev mX_needSpace : gM := (⟨"FrameSharer", "needSpace", "(I)V"⟩, prog_1_method_18_code, 2, none, [])
abbrev mL_close : gM := (⟨"FrameSharerLaw", "close", "(LFrameSharer;I[J)I"⟩, method_4_code, 4, (some .int), [(0, 9, 12, 13)])
abbrev mX_close : gM := (⟨"FrameSharer", "close", "(I)I"⟩, prog_1_method_4_code, 4, (some .int), [])
abbrev mL_map : gM := (⟨"FrameSharerLaw", "map", "(LFrameSharer;III[J)I"⟩, method_5_code, 6, (some .int), [(0, 19, 22, 13), (0, 19, 26, 22), (0, 19, 30, 24)])
abbrev mX_map : gM := (⟨"FrameSharer", "map", "(III)Z"⟩, prog_1_method_5_code, 6, (some .boolean), [])
abbrev mX_needPage : gM := (⟨"FrameSharer", "needPage", "(I)V"⟩, prog_1_method_19_code, 2, none, [])
abbrev mX_needFreeFrame : gM := (⟨"FrameSharer", "needFreeFrame", "()I"⟩, prog_1_method_23_code, 2, (some .int), [])
abbrev mX_fillFrame : gM := (⟨"FrameSharer", "fillFrame", "(II)V"⟩, prog_1_method_29_code, 4, none, [])
abbrev mL_unmap : gM := (⟨"FrameSharerLaw", "unmap", "(LFrameSharer;II[J)I"⟩, method_6_code, 5, (some .int), [(0, 17, 20, 13), (0, 17, 24, 22)])
abbrev mX_unmap : gM := (⟨"FrameSharer", "unmap", "(II)Z"⟩, prog_1_method_6_code, 5, (some .boolean), [])
abbrev mL_read : gM := (⟨"FrameSharerLaw", "read", "(LFrameSharer;II[J)I"⟩, method_7_code, 5, (some .int), [(0, 10, 13, 22), (0, 10, 17, 13)])
abbrev mX_read : gM := (⟨"FrameSharer", "read", "(II)I"⟩, prog_1_method_7_code, 4, (some .int), [])
abbrev mX_needHolderAt : gM := (⟨"FrameSharer", "needHolderAt", "(II)I"⟩, prog_1_method_22_code, 4, (some .int), [])
abbrev mX_cellIndex : gM := (⟨"FrameSharer", "cellIndex", "(II)I"⟩, prog_1_method_41_code, 2, (some .int), [])
abbrev mL_write : gM := (⟨"FrameSharerLaw", "write", "(LFrameSharer;III[J)I"⟩, method_8_code, 6, (some .int), [(0, 12, 15, 22), (0, 12, 19, 13), (0, 12, 23, 24)])
abbrev mX_write : gM := (⟨"FrameSharer", "write", "(III)I"⟩, prog_1_method_8_code, 7, (some .int), [])
abbrev mX_needOwnFrame : gM := (⟨"FrameSharer", "needOwnFrame", "(I)I"⟩, prog_1_method_24_code, 4, (some .int), [])
abbrev mL_lend : gM := (⟨"FrameSharerLaw", "lend", "(LFrameSharer;IIII[J)I"⟩, method_9_code, 7, (some .int), [(0, 21, 24, 13), (0, 21, 28, 22)])
abbrev mX_lend : gM := (⟨"FrameSharer", "lend", "(IIII)Z"⟩, prog_1_method_9_code, 8, (some .boolean), [])
abbrev mX_needTwoPages : gM := (⟨"FrameSharer", "needTwoPages", "(IIII)V"⟩, prog_1_method_20_code, 5, none, [])
abbrev mL_join : gM := (⟨"FrameSharerLaw", "join", "(LFrameSharer;IIII[J)I"⟩, method_10_code, 7, (some .int), [(0, 14, 17, 13), (0, 14, 21, 22)])
abbrev mX_join : gM := (⟨"FrameSharer", "join", "(IIII)I"⟩, prog_1_method_10_code, 8, (some .int), [])
abbrev mX_haveSameCells : gM := (⟨"FrameSharer", "haveSameCells", "(II)Z"⟩, prog_1_method_30_code, 4, (some .boolean), [])
abbrev mX_moveHolders : gM := (⟨"FrameSharer", "moveHolders", "(II)V"⟩, prog_1_method_26_code, 4, none, [])
abbrev mL_back : gM := (⟨"FrameSharerLaw", "back", "(LFrameSharer;I[J)I"⟩, method_11_code, 4, (some .int), [(0, 9, 12, 13)])
abbrev mX_back : gM := (⟨"FrameSharer", "back", "(I)I"⟩, prog_1_method_12_code, 2, (some .int), [])
abbrev mX_needPicture : gM := (⟨"FrameSharer", "needPicture", "(I)V"⟩, prog_1_method_21_code, 2, none, [])
abbrev mL_drop : gM := (⟨"FrameSharerLaw", "drop", "(LFrameSharer;I[J)I"⟩, method_12_code, 4, (some .int), [(0, 9, 12, 13)])
abbrev mX_drop : gM := (⟨"FrameSharer", "drop", "(I)I"⟩, prog_1_method_13_code, 3, (some .int), [])
abbrev mX_clearRow : gM := (⟨"FrameSharer", "clearRow", "(I)V"⟩, prog_1_method_28_code, 3, none, [])
abbrev mL_holders : gM := (⟨"FrameSharerLaw", "holders", "(LFrameSharer;II[J)I"⟩, method_13_code, 5, (some .int), [(0, 10, 13, 13), (0, 10, 17, 22)])
abbrev mX_holders : gM := (⟨"FrameSharer", "holders", "(II)I"⟩, prog_1_method_14_code, 4, (some .int), [])
abbrev mL_changed : gM := (⟨"FrameSharerLaw", "changed", "(LFrameSharer;I[J)I"⟩, method_14_code, 4, (some .int), [(0, 9, 12, 13)])
abbrev mX_changed : gM := (⟨"FrameSharer", "changed", "(I)I"⟩, prog_1_method_15_code, 4, (some .int), [])
abbrev mY_init : gM := (⟨"FrameSharerModel", "<init>", "(I)V"⟩, prog_3_method_1_code, 2, none, [])
abbrev mY_thrown : gM := (⟨"FrameSharerModel", "thrown", "()I"⟩, prog_3_method_2_code, 1, (some .int), [])
abbrev mY_open : gM := (⟨"FrameSharerModel", "open", "()I"⟩, prog_3_method_14_code, 2, (some .int), [])
abbrev mY_free : gM := (⟨"FrameSharerModel", "free", "()I"⟩, prog_3_method_12_code, 2, (some .int), [])
abbrev mY_fork : gM := (⟨"FrameSharerModel", "fork", "(I)I"⟩, prog_3_method_15_code, 4, (some .int), [])
abbrev mY_isSpace : gM := (⟨"FrameSharerModel", "isSpace", "(I)Z"⟩, prog_3_method_4_code, 2, (some .boolean), [])
abbrev mY_fails : gM := (⟨"FrameSharerModel", "fails", "(ZZZ)Z"⟩, prog_3_method_6_code, 4, (some .boolean), [])
abbrev mY_page : gM := (⟨"FrameSharerModel", "page", "(III)I"⟩, prog_3_method_3_code, 3, (some .int), [])
abbrev mY_copyPage : gM := (⟨"FrameSharerModel", "copyPage", "(II)V"⟩, prog_3_method_9_code, 4, none, [])
abbrev mY_close : gM := (⟨"FrameSharerModel", "close", "(I)I"⟩, prog_3_method_16_code, 3, (some .int), [])
abbrev mY_pagesOf : gM := (⟨"FrameSharerModel", "pagesOf", "(I)I"⟩, prog_3_method_13_code, 4, (some .int), [])
abbrev mY_empty : gM := (⟨"FrameSharerModel", "empty", "(II)V"⟩, prog_3_method_11_code, 4, none, [])
abbrev mY_map : gM := (⟨"FrameSharerModel", "map", "(III)Z"⟩, prog_3_method_17_code, 7, (some .boolean), [])
abbrev mY_isPage : gM := (⟨"FrameSharerModel", "isPage", "(I)Z"⟩, prog_3_method_5_code, 1, (some .boolean), [])
abbrev mY_used : gM := (⟨"FrameSharerModel", "used", "()I"⟩, prog_3_method_8_code, 5, (some .int), [])
abbrev mY_unmap : gM := (⟨"FrameSharerModel", "unmap", "(II)Z"⟩, prog_3_method_18_code, 5, (some .boolean), [])
abbrev mY_read : gM := (⟨"FrameSharerModel", "read", "(II)I"⟩, prog_3_method_20_code, 4, (some .int), [])
abbrev mY_cell : gM := (⟨"FrameSharerModel", "cell", "(II)I"⟩, prog_3_method_19_code, 6, (some .int), [])
abbrev mY_write : gM := (⟨"FrameSharerModel", "write", "(III)I"⟩, prog_3_method_21_code, 8, (some .int), [])
abbrev mY_holdersOf : gM := (⟨"FrameSharerModel", "holdersOf", "(I)I"⟩, prog_3_method_7_code, 4, (some .int), [])
abbrev mY_lend : gM := (⟨"FrameSharerModel", "lend", "(IIII)Z"⟩, prog_3_method_23_code, 7, (some .boolean), [])
abbrev mY_areFaulty : gM := (⟨"FrameSharerModel", "areFaulty", "(IIII)Z"⟩, prog_3_method_22_code, 5, (some .boolean), [])
abbrev mY_join : gM := (⟨"FrameSharerModel", "join", "(IIII)I"⟩, prog_3_method_24_code, 11, (some .int), [])
abbrev mY_take : gM := (⟨"FrameSharerModel", "take", "()I"⟩, prog_3_method_25_code, 2, (some .int), [])
abbrev mY_copyRow : gM := (⟨"FrameSharerModel", "copyRow", "(II)V"⟩, prog_3_method_10_code, 4, none, [])
abbrev mY_back : gM := (⟨"FrameSharerModel", "back", "(I)I"⟩, prog_3_method_28_code, 2, (some .int), [])
abbrev mY_isPicture : gM := (⟨"FrameSharerModel", "isPicture", "(I)Z"⟩, prog_3_method_26_code, 2, (some .boolean), [])
abbrev mY_spaces : gM := (⟨"FrameSharerModel", "spaces", "()I"⟩, prog_3_method_27_code, 3, (some .int), [])
abbrev mY_drop : gM := (⟨"FrameSharerModel", "drop", "(I)I"⟩, prog_3_method_29_code, 4, (some .int), [])
abbrev mY_holders : gM := (⟨"FrameSharerModel", "holders", "(II)I"⟩, prog_3_method_30_code, 3, (some .int), [])
abbrev mY_changed : gM := (⟨"FrameSharerModel", "changed", "(I)I"⟩, prog_3_method_31_code, 4, (some .int), [])
abbrev mY_count : gM := (⟨"FrameSharerModel", "count", "(I)I"⟩, prog_3_method_32_code, 4, (some .int), [])
abbrev mY_isThere : gM := (⟨"FrameSharerModel", "isThere", "(I)Z"⟩, prog_3_method_33_code, 2, (some .boolean), [])
abbrev mL_law : gM := (⟨"FrameSharerLaw", "law", "([I)Z"⟩, code, 7, ret, [])
end
section
theorem gh_0 : gH (Cond.selects "FrameSharer" ⟨"FrameSharer", "leastMissingSpace", "()I"⟩ ⟨"FrameSharer", "leastMissingSpace", "()I"⟩) := ⟨List.mem_of_getElem? (i := 0) rfl, rfl⟩
theorem gh_1 : gH (Cond.selects "FrameSharer" ⟨"FrameSharer", "leastMissingPicture", "()I"⟩ ⟨"FrameSharer", "leastMissingPicture", "()I"⟩) := ⟨List.mem_of_getElem? (i := 1) rfl, rfl⟩
theorem gh_2 : gH (Cond.selects "FrameSharer" ⟨"FrameSharer", "copyRow", "(II)V"⟩ ⟨"FrameSharer", "copyRow", "(II)V"⟩) := ⟨List.mem_of_getElem? (i := 2) rfl, rfl⟩
theorem gh_3 : gH (Cond.selects "FrameSharer" ⟨"FrameSharer", "standIn", "(II)V"⟩ ⟨"FrameSharer", "standIn", "(II)V"⟩) := ⟨List.mem_of_getElem? (i := 3) rfl, rfl⟩
theorem gh_4 : gH (Cond.selects "FrameSharer" ⟨"FrameSharer", "isFrame", "(I)Z"⟩ ⟨"FrameSharer", "isFrame", "(I)Z"⟩) := ⟨List.mem_of_getElem? (i := 4) rfl, rfl⟩
theorem gh_5 : gH (Cond.selects "FrameSharer" ⟨"FrameSharer", "framesInUse", "()I"⟩ ⟨"FrameSharer", "framesInUse", "()I"⟩) := ⟨List.mem_of_getElem? (i := 5) rfl, rfl⟩
theorem gh_6 : gH (Cond.selects "FrameSharer" ⟨"FrameSharer", "spacesNow", "()I"⟩ ⟨"FrameSharer", "spacesNow", "()I"⟩) := ⟨List.mem_of_getElem? (i := 6) rfl, rfl⟩
theorem gh_7 : gH (Cond.selects "FrameSharer" ⟨"FrameSharer", "picturesNow", "()I"⟩ ⟨"FrameSharer", "picturesNow", "()I"⟩) := ⟨List.mem_of_getElem? (i := 7) rfl, rfl⟩
theorem gh_8 : gH (Cond.selects "FrameSharer" ⟨"FrameSharer", "pagesNow", "()I"⟩ ⟨"FrameSharer", "pagesNow", "()I"⟩) := ⟨List.mem_of_getElem? (i := 8) rfl, rfl⟩
theorem gh_9 : gH (Cond.selects "FrameSharer" ⟨"FrameSharer", "pagesOfSpace", "(I)I"⟩ ⟨"FrameSharer", "pagesOfSpace", "(I)I"⟩) := ⟨List.mem_of_getElem? (i := 9) rfl, rfl⟩
theorem gh_10 : gH (Cond.selects "FrameSharer" ⟨"FrameSharer", "needSpace", "(I)V"⟩ ⟨"FrameSharer", "needSpace", "(I)V"⟩) := ⟨List.mem_of_getElem? (i := 10) rfl, rfl⟩
theorem gh_11 : gH (Cond.selects "java/lang/Throwable" ⟨"java/lang/Throwable", "fillInStackTrace", "(I)Ljava/lang/Throwable;"⟩ ⟨"java/lang/Throwable", "fillInStackTrace", "(I)Ljava/lang/Throwable;"⟩) := ⟨List.mem_of_getElem? (i := 11) rfl, rfl⟩
theorem gh_12 : gH (Cond.selects "FrameSharer" ⟨"FrameSharer", "needPage", "(I)V"⟩ ⟨"FrameSharer", "needPage", "(I)V"⟩) := ⟨List.mem_of_getElem? (i := 12) rfl, rfl⟩
theorem gh_13 : gH (Cond.selects "FrameSharer" ⟨"FrameSharer", "needFreeFrame", "()I"⟩ ⟨"FrameSharer", "needFreeFrame", "()I"⟩) := ⟨List.mem_of_getElem? (i := 13) rfl, rfl⟩
theorem gh_14 : gH (Cond.selects "FrameSharer" ⟨"FrameSharer", "fillFrame", "(II)V"⟩ ⟨"FrameSharer", "fillFrame", "(II)V"⟩) := ⟨List.mem_of_getElem? (i := 14) rfl, rfl⟩
theorem gh_15 : gH (Cond.selects "FrameSharer" ⟨"FrameSharer", "needHolderAt", "(II)I"⟩ ⟨"FrameSharer", "needHolderAt", "(II)I"⟩) := ⟨List.mem_of_getElem? (i := 15) rfl, rfl⟩
theorem gh_16 : gH (Cond.selects "FrameSharer" ⟨"FrameSharer", "needOwnFrame", "(I)I"⟩ ⟨"FrameSharer", "needOwnFrame", "(I)I"⟩) := ⟨List.mem_of_getElem? (i := 16) rfl, rfl⟩
theorem gh_17 : gH (Cond.selects "FrameSharer" ⟨"FrameSharer", "needTwoPages", "(IIII)V"⟩ ⟨"FrameSharer", "needTwoPages", "(IIII)V"⟩) := ⟨List.mem_of_getElem? (i := 17) rfl, rfl⟩
theorem gh_18 : gH (Cond.selects "FrameSharer" ⟨"FrameSharer", "haveSameCells", "(II)Z"⟩ ⟨"FrameSharer", "haveSameCells", "(II)Z"⟩) := ⟨List.mem_of_getElem? (i := 18) rfl, rfl⟩
theorem gh_19 : gH (Cond.selects "FrameSharer" ⟨"FrameSharer", "moveHolders", "(II)V"⟩ ⟨"FrameSharer", "moveHolders", "(II)V"⟩) := ⟨List.mem_of_getElem? (i := 19) rfl, rfl⟩
theorem gh_20 : gH (Cond.selects "FrameSharer" ⟨"FrameSharer", "needPicture", "(I)V"⟩ ⟨"FrameSharer", "needPicture", "(I)V"⟩) := ⟨List.mem_of_getElem? (i := 20) rfl, rfl⟩
theorem gh_21 : gH (Cond.selects "FrameSharer" ⟨"FrameSharer", "clearRow", "(I)V"⟩ ⟨"FrameSharer", "clearRow", "(I)V"⟩) := ⟨List.mem_of_getElem? (i := 21) rfl, rfl⟩
theorem gh_22 : gH (Cond.selects "FrameSharerModel" ⟨"FrameSharerModel", "free", "()I"⟩ ⟨"FrameSharerModel", "free", "()I"⟩) := ⟨List.mem_of_getElem? (i := 22) rfl, rfl⟩
theorem gh_23 : gH (Cond.selects "FrameSharerModel" ⟨"FrameSharerModel", "isSpace", "(I)Z"⟩ ⟨"FrameSharerModel", "isSpace", "(I)Z"⟩) := ⟨List.mem_of_getElem? (i := 23) rfl, rfl⟩
theorem gh_24 : gH (Cond.selects "FrameSharerModel" ⟨"FrameSharerModel", "fails", "(ZZZ)Z"⟩ ⟨"FrameSharerModel", "fails", "(ZZZ)Z"⟩) := ⟨List.mem_of_getElem? (i := 24) rfl, rfl⟩
theorem gh_25 : gH (Cond.selects "FrameSharerModel" ⟨"FrameSharerModel", "copyPage", "(II)V"⟩ ⟨"FrameSharerModel", "copyPage", "(II)V"⟩) := ⟨List.mem_of_getElem? (i := 25) rfl, rfl⟩
theorem gh_26 : gH (Cond.selects "FrameSharerModel" ⟨"FrameSharerModel", "pagesOf", "(I)I"⟩ ⟨"FrameSharerModel", "pagesOf", "(I)I"⟩) := ⟨List.mem_of_getElem? (i := 26) rfl, rfl⟩
theorem gh_27 : gH (Cond.selects "FrameSharerModel" ⟨"FrameSharerModel", "empty", "(II)V"⟩ ⟨"FrameSharerModel", "empty", "(II)V"⟩) := ⟨List.mem_of_getElem? (i := 27) rfl, rfl⟩
theorem gh_28 : gH (Cond.selects "FrameSharerModel" ⟨"FrameSharerModel", "used", "()I"⟩ ⟨"FrameSharerModel", "used", "()I"⟩) := ⟨List.mem_of_getElem? (i := 28) rfl, rfl⟩
theorem gh_29 : gH (Cond.selects "FrameSharerModel" ⟨"FrameSharerModel", "cell", "(II)I"⟩ ⟨"FrameSharerModel", "cell", "(II)I"⟩) := ⟨List.mem_of_getElem? (i := 29) rfl, rfl⟩
theorem gh_30 : gH (Cond.selects "FrameSharerModel" ⟨"FrameSharerModel", "holdersOf", "(I)I"⟩ ⟨"FrameSharerModel", "holdersOf", "(I)I"⟩) := ⟨List.mem_of_getElem? (i := 30) rfl, rfl⟩
theorem gh_31 : gH (Cond.selects "FrameSharerModel" ⟨"FrameSharerModel", "areFaulty", "(IIII)Z"⟩ ⟨"FrameSharerModel", "areFaulty", "(IIII)Z"⟩) := ⟨List.mem_of_getElem? (i := 31) rfl, rfl⟩
theorem gh_32 : gH (Cond.selects "FrameSharerModel" ⟨"FrameSharerModel", "copyRow", "(II)V"⟩ ⟨"FrameSharerModel", "copyRow", "(II)V"⟩) := ⟨List.mem_of_getElem? (i := 32) rfl, rfl⟩
theorem gh_33 : gH (Cond.selects "FrameSharerModel" ⟨"FrameSharerModel", "isPicture", "(I)Z"⟩ ⟨"FrameSharerModel", "isPicture", "(I)Z"⟩) := ⟨List.mem_of_getElem? (i := 33) rfl, rfl⟩
theorem gh_34 : gH (Cond.selects "FrameSharerModel" ⟨"FrameSharerModel", "spaces", "()I"⟩ ⟨"FrameSharerModel", "spaces", "()I"⟩) := ⟨List.mem_of_getElem? (i := 34) rfl, rfl⟩
theorem gh_35 : gH (Cond.initialized "FrameSharerLaw") := ⟨List.mem_of_getElem? (i := 35) rfl, rfl⟩
theorem gh_36 : gH (Cond.initialized "FrameSharer") := ⟨List.mem_of_getElem? (i := 36) rfl, rfl⟩
theorem gh_37 : gH (Cond.initialized "java/lang/Math") := ⟨List.mem_of_getElem? (i := 37) rfl, rfl⟩
theorem gh_38 : gH (Cond.initialized "java/util/Arrays") := ⟨List.mem_of_getElem? (i := 38) rfl, rfl⟩
theorem gh_39 : gH (Cond.initialized "FrameSharerModel") := ⟨List.mem_of_getElem? (i := 39) rfl, rfl⟩
theorem gh_40 : gH (Cond.initialized "java/lang/Throwable") := ⟨List.mem_of_getElem? (i := 40) rfl, rfl⟩
theorem gh_41 : gH (Cond.initialized "java/lang/Exception") := ⟨List.mem_of_getElem? (i := 41) rfl, rfl⟩
theorem gh_42 : gH (Cond.initialized "java/lang/RuntimeException") := ⟨List.mem_of_getElem? (i := 42) rfl, rfl⟩
theorem gh_43 : gH (Cond.initialized "java/util/NoSuchElementException") := ⟨List.mem_of_getElem? (i := 43) rfl, rfl⟩
theorem gh_44 : gH (Cond.initialized "java/lang/IndexOutOfBoundsException") := ⟨List.mem_of_getElem? (i := 44) rfl, rfl⟩
theorem gh_45 : gH (Cond.initialized "java/lang/IllegalStateException") := ⟨List.mem_of_getElem? (i := 45) rfl, rfl⟩
theorem gh_46 : gH (Cond.initialized "java/lang/System") := ⟨List.mem_of_getElem? (i := 46) rfl, rfl⟩
theorem gh_47 : gH (Cond.classLink "FrameSharerLaw" 8 "FrameSharer") := ⟨List.mem_of_getElem? (i := 47) rfl, rfl⟩
theorem gh_48 : gH (Cond.instantiable "FrameSharer" 6) := ⟨List.mem_of_getElem? (i := 48) rfl, rfl⟩
theorem gh_49 : gH (Cond.methodLink "FrameSharerLaw" 64 ⟨"FrameSharer", "<init>", "(I)V"⟩) := ⟨List.mem_of_getElem? (i := 49) rfl, rfl⟩
theorem gh_50 : gH (Cond.instanceMethod ⟨"FrameSharer", "<init>", "(I)V"⟩) := ⟨List.mem_of_getElem? (i := 50) rfl, rfl⟩
theorem gh_51 : gH (Cond.code ⟨"FrameSharer", "<init>", "(I)V"⟩ prog_1_method_1_code 2 none) := ⟨List.mem_of_getElem? (i := 51) rfl, rfl⟩
theorem gh_52 : gH (Cond.methodLink "FrameSharer" 3 ⟨"java/lang/Object", "<init>", "()V"⟩) := ⟨List.mem_of_getElem? (i := 52) rfl, rfl⟩
theorem gh_53 : gH (Cond.instanceMethod ⟨"java/lang/Object", "<init>", "()V"⟩) := ⟨List.mem_of_getElem? (i := 53) rfl, rfl⟩
theorem gh_54 : gH (Cond.code ⟨"java/lang/Object", "<init>", "()V"⟩ object_method_1_code 1 none) := ⟨List.mem_of_getElem? (i := 54) rfl, rfl⟩
theorem gh_55 : gH (Cond.methodLink "FrameSharer" 9 ⟨"java/lang/Math", "min", "(II)I"⟩) := ⟨List.mem_of_getElem? (i := 55) rfl, rfl⟩
theorem gh_56 : gH (Cond.static ⟨"java/lang/Math", "min", "(II)I"⟩) := ⟨List.mem_of_getElem? (i := 56) rfl, rfl⟩
theorem gh_57 : gH (Cond.code ⟨"java/lang/Math", "min", "(II)I"⟩ prog_7_method_69_code 2 (some FieldType.int)) := ⟨List.mem_of_getElem? (i := 57) rfl, rfl⟩
theorem gh_58 : gH (Cond.methodLink "FrameSharer" 15 ⟨"java/lang/Math", "max", "(II)I"⟩) := ⟨List.mem_of_getElem? (i := 58) rfl, rfl⟩
theorem gh_59 : gH (Cond.static ⟨"java/lang/Math", "max", "(II)I"⟩) := ⟨List.mem_of_getElem? (i := 59) rfl, rfl⟩
theorem gh_60 : gH (Cond.code ⟨"java/lang/Math", "max", "(II)I"⟩ prog_7_method_65_code 2 (some FieldType.int)) := ⟨List.mem_of_getElem? (i := 60) rfl, rfl⟩
theorem gh_61 : gH (Cond.methodLink "FrameSharer" 32 ⟨"java/util/Arrays", "fill", "([II)V"⟩) := ⟨List.mem_of_getElem? (i := 61) rfl, rfl⟩
theorem gh_62 : gH (Cond.static ⟨"java/util/Arrays", "fill", "([II)V"⟩) := ⟨List.mem_of_getElem? (i := 62) rfl, rfl⟩
theorem gh_63 : gH (Cond.code ⟨"java/util/Arrays", "fill", "([II)V"⟩ prog_12_method_103_code 4 none) := ⟨List.mem_of_getElem? (i := 63) rfl, rfl⟩
theorem gh_64 : gH (Cond.fieldLink "FrameSharer" 18 "FrameSharer" "frameTotal" "I") := ⟨List.mem_of_getElem? (i := 64) rfl, rfl⟩
theorem gh_65 : gH (Cond.fieldLink "FrameSharer" 22 "FrameSharer" "cells" "[I") := ⟨List.mem_of_getElem? (i := 65) rfl, rfl⟩
theorem gh_66 : gH (Cond.fieldLink "FrameSharer" 26 "FrameSharer" "holdersOfFrame" "[I") := ⟨List.mem_of_getElem? (i := 66) rfl, rfl⟩
theorem gh_67 : gH (Cond.fieldLink "FrameSharer" 29 "FrameSharer" "frameOfHolder" "[I") := ⟨List.mem_of_getElem? (i := 67) rfl, rfl⟩
theorem gh_68 : gH (Cond.fieldLink "FrameSharer" 38 "FrameSharer" "spaceInRow" "[Z") := ⟨List.mem_of_getElem? (i := 68) rfl, rfl⟩
theorem gh_69 : gH (Cond.fieldLink "FrameSharer" 42 "FrameSharer" "pictureThere" "[Z") := ⟨List.mem_of_getElem? (i := 69) rfl, rfl⟩
theorem gh_70 : gH (Cond.laysFinal "FrameSharer" "FrameSharer" "frameTotal" "I") := ⟨List.mem_of_getElem? (i := 70) rfl, rfl⟩
theorem gh_72 : gH (Cond.laysFinal "FrameSharer" "FrameSharer" "cells" "[I") := ⟨List.mem_of_getElem? (i := 72) rfl, rfl⟩
theorem gh_74 : gH (Cond.laysFinal "FrameSharer" "FrameSharer" "holdersOfFrame" "[I") := ⟨List.mem_of_getElem? (i := 74) rfl, rfl⟩
theorem gh_76 : gH (Cond.laysFinal "FrameSharer" "FrameSharer" "frameOfHolder" "[I") := ⟨List.mem_of_getElem? (i := 76) rfl, rfl⟩
theorem gh_78 : gH (Cond.laysFinal "FrameSharer" "FrameSharer" "spaceInRow" "[Z") := ⟨List.mem_of_getElem? (i := 78) rfl, rfl⟩
theorem gh_80 : gH (Cond.laysFinal "FrameSharer" "FrameSharer" "pictureThere" "[Z") := ⟨List.mem_of_getElem? (i := 80) rfl, rfl⟩
theorem gh_82 : gH (Cond.superclass "FrameSharer" "java/lang/Object") := ⟨List.mem_of_getElem? (i := 82) rfl, rfl⟩
theorem gh_83 : gH (Cond.arrayClass FieldType.int) := ⟨List.mem_of_getElem? (i := 83) rfl, rfl⟩
theorem gh_84 : gH (Cond.arrayClass FieldType.boolean) := ⟨List.mem_of_getElem? (i := 84) rfl, rfl⟩
theorem gh_85 : gH (Cond.methodLink "FrameSharerLaw" 70 ⟨"FrameSharer", "open", "()I"⟩) := ⟨List.mem_of_getElem? (i := 85) rfl, rfl⟩
theorem gh_86 : gH (Cond.instanceMethod ⟨"FrameSharer", "open", "()I"⟩) := ⟨List.mem_of_getElem? (i := 86) rfl, rfl⟩
theorem gh_87 : gH (Cond.selects "FrameSharer" ⟨"FrameSharer", "open", "()I"⟩ ⟨"FrameSharer", "open", "()I"⟩) := ⟨List.mem_of_getElem? (i := 87) rfl, rfl⟩
theorem gh_88 : gH (Cond.code ⟨"FrameSharer", "open", "()I"⟩ prog_1_method_2_code 2 (some FieldType.int)) := ⟨List.mem_of_getElem? (i := 88) rfl, rfl⟩
theorem gh_89 : gH (Cond.methodLink "FrameSharer" 45 ⟨"FrameSharer", "leastMissingSpace", "()I"⟩) := ⟨List.mem_of_getElem? (i := 89) rfl, rfl⟩
theorem gh_91 : gH (Cond.instanceMethod ⟨"FrameSharer", "leastMissingSpace", "()I"⟩) := ⟨List.mem_of_getElem? (i := 91) rfl, rfl⟩
theorem gh_92 : gH (Cond.code ⟨"FrameSharer", "leastMissingSpace", "()I"⟩ prog_1_method_31_code 2 (some FieldType.int)) := ⟨List.mem_of_getElem? (i := 92) rfl, rfl⟩
theorem gh_93 : gH (Cond.methodLink "FrameSharer" 49 ⟨"FrameSharer", "spaceIndex", "(II)I"⟩) := ⟨List.mem_of_getElem? (i := 93) rfl, rfl⟩
theorem gh_94 : gH (Cond.static ⟨"FrameSharer", "spaceIndex", "(II)I"⟩) := ⟨List.mem_of_getElem? (i := 94) rfl, rfl⟩
theorem gh_95 : gH (Cond.code ⟨"FrameSharer", "spaceIndex", "(II)I"⟩ prog_1_method_39_code 2 (some FieldType.int)) := ⟨List.mem_of_getElem? (i := 95) rfl, rfl⟩
theorem gh_96 : gH (Cond.methodLink "FrameSharerLaw" 106 ⟨"FrameSharer", "take", "()I"⟩) := ⟨List.mem_of_getElem? (i := 96) rfl, rfl⟩
theorem gh_97 : gH (Cond.instanceMethod ⟨"FrameSharer", "take", "()I"⟩) := ⟨List.mem_of_getElem? (i := 97) rfl, rfl⟩
theorem gh_98 : gH (Cond.selects "FrameSharer" ⟨"FrameSharer", "take", "()I"⟩ ⟨"FrameSharer", "take", "()I"⟩) := ⟨List.mem_of_getElem? (i := 98) rfl, rfl⟩
theorem gh_99 : gH (Cond.code ⟨"FrameSharer", "take", "()I"⟩ prog_1_method_11_code 2 (some FieldType.int)) := ⟨List.mem_of_getElem? (i := 99) rfl, rfl⟩
theorem gh_100 : gH (Cond.methodLink "FrameSharer" 100 ⟨"FrameSharer", "leastMissingPicture", "()I"⟩) := ⟨List.mem_of_getElem? (i := 100) rfl, rfl⟩
theorem gh_102 : gH (Cond.instanceMethod ⟨"FrameSharer", "leastMissingPicture", "()I"⟩) := ⟨List.mem_of_getElem? (i := 102) rfl, rfl⟩
theorem gh_103 : gH (Cond.code ⟨"FrameSharer", "leastMissingPicture", "()I"⟩ prog_1_method_32_code 2 (some FieldType.int)) := ⟨List.mem_of_getElem? (i := 103) rfl, rfl⟩
theorem gh_104 : gH (Cond.methodLink "FrameSharer" 103 ⟨"FrameSharer", "copyRow", "(II)V"⟩) := ⟨List.mem_of_getElem? (i := 104) rfl, rfl⟩
theorem gh_106 : gH (Cond.instanceMethod ⟨"FrameSharer", "copyRow", "(II)V"⟩) := ⟨List.mem_of_getElem? (i := 106) rfl, rfl⟩
theorem gh_107 : gH (Cond.code ⟨"FrameSharer", "copyRow", "(II)V"⟩ prog_1_method_27_code 4 none) := ⟨List.mem_of_getElem? (i := 107) rfl, rfl⟩
theorem gh_108 : gH (Cond.methodLink "FrameSharer" 59 ⟨"FrameSharer", "standIn", "(II)V"⟩) := ⟨List.mem_of_getElem? (i := 108) rfl, rfl⟩
theorem gh_110 : gH (Cond.instanceMethod ⟨"FrameSharer", "standIn", "(II)V"⟩) := ⟨List.mem_of_getElem? (i := 110) rfl, rfl⟩
theorem gh_111 : gH (Cond.code ⟨"FrameSharer", "standIn", "(II)V"⟩ prog_1_method_25_code 4 none) := ⟨List.mem_of_getElem? (i := 111) rfl, rfl⟩
theorem gh_112 : gH (Cond.methodLink "FrameSharer" 70 ⟨"FrameSharer", "isFrame", "(I)Z"⟩) := ⟨List.mem_of_getElem? (i := 112) rfl, rfl⟩
theorem gh_114 : gH (Cond.instanceMethod ⟨"FrameSharer", "isFrame", "(I)Z"⟩) := ⟨List.mem_of_getElem? (i := 114) rfl, rfl⟩
theorem gh_115 : gH (Cond.code ⟨"FrameSharer", "isFrame", "(I)Z"⟩ prog_1_method_38_code 2 (some FieldType.boolean)) := ⟨List.mem_of_getElem? (i := 115) rfl, rfl⟩
theorem gh_116 : gH (Cond.methodLink "FrameSharerLaw" 122 ⟨"FrameSharer", "count", "(I)I"⟩) := ⟨List.mem_of_getElem? (i := 116) rfl, rfl⟩
theorem gh_117 : gH (Cond.instanceMethod ⟨"FrameSharer", "count", "(I)I"⟩) := ⟨List.mem_of_getElem? (i := 117) rfl, rfl⟩
theorem gh_118 : gH (Cond.selects "FrameSharer" ⟨"FrameSharer", "count", "(I)I"⟩ ⟨"FrameSharer", "count", "(I)I"⟩) := ⟨List.mem_of_getElem? (i := 118) rfl, rfl⟩
theorem gh_119 : gH (Cond.code ⟨"FrameSharer", "count", "(I)I"⟩ prog_1_method_16_code 2 (some FieldType.int)) := ⟨List.mem_of_getElem? (i := 119) rfl, rfl⟩
theorem gh_120 : gH (Cond.methodLink "FrameSharer" 112 ⟨"FrameSharer", "framesInUse", "()I"⟩) := ⟨List.mem_of_getElem? (i := 120) rfl, rfl⟩
theorem gh_122 : gH (Cond.instanceMethod ⟨"FrameSharer", "framesInUse", "()I"⟩) := ⟨List.mem_of_getElem? (i := 122) rfl, rfl⟩
theorem gh_123 : gH (Cond.code ⟨"FrameSharer", "framesInUse", "()I"⟩ prog_1_method_33_code 3 (some FieldType.int)) := ⟨List.mem_of_getElem? (i := 123) rfl, rfl⟩
theorem gh_124 : gH (Cond.methodLink "FrameSharer" 109 ⟨"FrameSharer", "spacesNow", "()I"⟩) := ⟨List.mem_of_getElem? (i := 124) rfl, rfl⟩
theorem gh_126 : gH (Cond.instanceMethod ⟨"FrameSharer", "spacesNow", "()I"⟩) := ⟨List.mem_of_getElem? (i := 126) rfl, rfl⟩
theorem gh_127 : gH (Cond.code ⟨"FrameSharer", "spacesNow", "()I"⟩ prog_1_method_34_code 3 (some FieldType.int)) := ⟨List.mem_of_getElem? (i := 127) rfl, rfl⟩
theorem gh_128 : gH (Cond.methodLink "FrameSharer" 118 ⟨"FrameSharer", "picturesNow", "()I"⟩) := ⟨List.mem_of_getElem? (i := 128) rfl, rfl⟩
theorem gh_130 : gH (Cond.instanceMethod ⟨"FrameSharer", "picturesNow", "()I"⟩) := ⟨List.mem_of_getElem? (i := 130) rfl, rfl⟩
theorem gh_131 : gH (Cond.code ⟨"FrameSharer", "picturesNow", "()I"⟩ prog_1_method_35_code 3 (some FieldType.int)) := ⟨List.mem_of_getElem? (i := 131) rfl, rfl⟩
theorem gh_132 : gH (Cond.methodLink "FrameSharer" 121 ⟨"FrameSharer", "pagesNow", "()I"⟩) := ⟨List.mem_of_getElem? (i := 132) rfl, rfl⟩
theorem gh_134 : gH (Cond.instanceMethod ⟨"FrameSharer", "pagesNow", "()I"⟩) := ⟨List.mem_of_getElem? (i := 134) rfl, rfl⟩
theorem gh_135 : gH (Cond.code ⟨"FrameSharer", "pagesNow", "()I"⟩ prog_1_method_36_code 3 (some FieldType.int)) := ⟨List.mem_of_getElem? (i := 135) rfl, rfl⟩
theorem gh_136 : gH (Cond.methodLink "FrameSharer" 63 ⟨"FrameSharer", "pagesOfSpace", "(I)I"⟩) := ⟨List.mem_of_getElem? (i := 136) rfl, rfl⟩
theorem gh_138 : gH (Cond.instanceMethod ⟨"FrameSharer", "pagesOfSpace", "(I)I"⟩) := ⟨List.mem_of_getElem? (i := 138) rfl, rfl⟩
theorem gh_139 : gH (Cond.code ⟨"FrameSharer", "pagesOfSpace", "(I)I"⟩ prog_1_method_37_code 4 (some FieldType.int)) := ⟨List.mem_of_getElem? (i := 139) rfl, rfl⟩
theorem gh_140 : gH (Cond.methodLink "FrameSharer" 56 ⟨"FrameSharer", "pageNow", "(II)I"⟩) := ⟨List.mem_of_getElem? (i := 140) rfl, rfl⟩
theorem gh_141 : gH (Cond.static ⟨"FrameSharer", "pageNow", "(II)I"⟩) := ⟨List.mem_of_getElem? (i := 141) rfl, rfl⟩
theorem gh_142 : gH (Cond.code ⟨"FrameSharer", "pageNow", "(II)I"⟩ prog_1_method_40_code 2 (some FieldType.int)) := ⟨List.mem_of_getElem? (i := 142) rfl, rfl⟩
theorem gh_143 : gH (Cond.methodLink "FrameSharerLaw" 126 ⟨"FrameSharer", "isThere", "(I)Z"⟩) := ⟨List.mem_of_getElem? (i := 143) rfl, rfl⟩
theorem gh_144 : gH (Cond.instanceMethod ⟨"FrameSharer", "isThere", "(I)Z"⟩) := ⟨List.mem_of_getElem? (i := 144) rfl, rfl⟩
theorem gh_145 : gH (Cond.selects "FrameSharer" ⟨"FrameSharer", "isThere", "(I)Z"⟩ ⟨"FrameSharer", "isThere", "(I)Z"⟩) := ⟨List.mem_of_getElem? (i := 145) rfl, rfl⟩
theorem gh_146 : gH (Cond.code ⟨"FrameSharer", "isThere", "(I)Z"⟩ prog_1_method_17_code 2 (some FieldType.boolean)) := ⟨List.mem_of_getElem? (i := 146) rfl, rfl⟩
theorem gh_147 : gH (Cond.methodLink "FrameSharerLaw" 58 ⟨"FrameSharerLaw", "cell", "([II)I"⟩) := ⟨List.mem_of_getElem? (i := 147) rfl, rfl⟩
theorem gh_148 : gH (Cond.static ⟨"FrameSharerLaw", "cell", "([II)I"⟩) := ⟨List.mem_of_getElem? (i := 148) rfl, rfl⟩
theorem gh_149 : gH (Cond.code ⟨"FrameSharerLaw", "cell", "([II)I"⟩ method_2_code 2 (some FieldType.int)) := ⟨List.mem_of_getElem? (i := 149) rfl, rfl⟩
theorem gh_150 : gH (Cond.methodLink "FrameSharerLaw" 75 ⟨"FrameSharerLaw", "fork", "(LFrameSharer;I[J)I"⟩) := ⟨List.mem_of_getElem? (i := 150) rfl, rfl⟩
theorem gh_151 : gH (Cond.static ⟨"FrameSharerLaw", "fork", "(LFrameSharer;I[J)I"⟩) := ⟨List.mem_of_getElem? (i := 151) rfl, rfl⟩
theorem gh_152 : gH (Cond.codeWith ⟨"FrameSharerLaw", "fork", "(LFrameSharer;I[J)I"⟩ method_3_code 4 (some FieldType.int) [(0, 9, 12, 13)]) := ⟨List.mem_of_getElem? (i := 152) rfl, rfl⟩
theorem gh_153 : gH (Cond.classLink "FrameSharerLaw" 13 "java/util/NoSuchElementException") := ⟨List.mem_of_getElem? (i := 153) rfl, rfl⟩
theorem gh_154 : gH (Cond.methodLink "FrameSharerLaw" 7 ⟨"FrameSharer", "fork", "(I)I"⟩) := ⟨List.mem_of_getElem? (i := 154) rfl, rfl⟩
theorem gh_155 : gH (Cond.instanceMethod ⟨"FrameSharer", "fork", "(I)I"⟩) := ⟨List.mem_of_getElem? (i := 155) rfl, rfl⟩
theorem gh_156 : gH (Cond.selects "FrameSharer" ⟨"FrameSharer", "fork", "(I)I"⟩ ⟨"FrameSharer", "fork", "(I)I"⟩) := ⟨List.mem_of_getElem? (i := 156) rfl, rfl⟩
theorem gh_157 : gH (Cond.code ⟨"FrameSharer", "fork", "(I)I"⟩ prog_1_method_3_code 4 (some FieldType.int)) := ⟨List.mem_of_getElem? (i := 157) rfl, rfl⟩
theorem gh_158 : gH (Cond.methodLink "FrameSharer" 52 ⟨"FrameSharer", "needSpace", "(I)V"⟩) := ⟨List.mem_of_getElem? (i := 158) rfl, rfl⟩
theorem gh_160 : gH (Cond.instanceMethod ⟨"FrameSharer", "needSpace", "(I)V"⟩) := ⟨List.mem_of_getElem? (i := 160) rfl, rfl⟩
theorem gh_161 : gH (Cond.code ⟨"FrameSharer", "needSpace", "(I)V"⟩ prog_1_method_18_code 2 none) := ⟨List.mem_of_getElem? (i := 161) rfl, rfl⟩
theorem gh_162 : gH (Cond.methodLink "FrameSharer" 124 ⟨"FrameSharer", "isThere", "(I)Z"⟩) := ⟨List.mem_of_getElem? (i := 162) rfl, rfl⟩
theorem gh_163 : gH (Cond.classLink "FrameSharer" 127 "java/util/NoSuchElementException") := ⟨List.mem_of_getElem? (i := 163) rfl, rfl⟩
theorem gh_164 : gH (Cond.instantiable "java/util/NoSuchElementException" 6) := ⟨List.mem_of_getElem? (i := 164) rfl, rfl⟩
theorem gh_165 : gH (Cond.castable "java/util/NoSuchElementException" "java/util/NoSuchElementException") := ⟨List.mem_of_getElem? (i := 165) rfl, rfl⟩
theorem gh_166 : gH (Cond.declares ⟨"java/lang/RuntimeException", "<init>", "()V"⟩) := ⟨List.mem_of_getElem? (i := 166) rfl, rfl⟩
theorem gh_167 : gH (Cond.declares ⟨"java/lang/RuntimeException", "<init>", "(Ljava/lang/String;)V"⟩) := ⟨List.mem_of_getElem? (i := 167) rfl, rfl⟩
theorem gh_168 : gH (Cond.declares ⟨"java/lang/Exception", "<init>", "()V"⟩) := ⟨List.mem_of_getElem? (i := 168) rfl, rfl⟩
theorem gh_169 : gH (Cond.declares ⟨"java/lang/Exception", "<init>", "(Ljava/lang/String;)V"⟩) := ⟨List.mem_of_getElem? (i := 169) rfl, rfl⟩
theorem gh_170 : gH (Cond.declares ⟨"java/lang/Throwable", "<init>", "()V"⟩) := ⟨List.mem_of_getElem? (i := 170) rfl, rfl⟩
theorem gh_171 : gH (Cond.declares ⟨"java/lang/Throwable", "<init>", "(Ljava/lang/String;)V"⟩) := ⟨List.mem_of_getElem? (i := 171) rfl, rfl⟩
theorem gh_172 : gH (Cond.selects "java/util/NoSuchElementException" ⟨"java/lang/Throwable", "fillInStackTrace", "(I)Ljava/lang/Throwable;"⟩ ⟨"java/lang/Throwable", "fillInStackTrace", "(I)Ljava/lang/Throwable;"⟩) := ⟨List.mem_of_getElem? (i := 172) rfl, rfl⟩
theorem gh_173 : gH (Cond.selects "java/util/NoSuchElementException" ⟨"java/lang/Throwable", "fillInStackTrace", "()Ljava/lang/Throwable;"⟩ ⟨"java/lang/Throwable", "fillInStackTrace", "()Ljava/lang/Throwable;"⟩) := ⟨List.mem_of_getElem? (i := 173) rfl, rfl⟩
theorem gh_174 : gH (Cond.lays "java/util/NoSuchElementException" "java/lang/Throwable" "cause" "Ljava/lang/Throwable;") := ⟨List.mem_of_getElem? (i := 174) rfl, rfl⟩
theorem gh_175 : gH (Cond.lays "java/lang/Throwable" "java/lang/Throwable" "cause" "Ljava/lang/Throwable;") := ⟨List.mem_of_getElem? (i := 175) rfl, rfl⟩
theorem gh_176 : gH (Cond.lays "java/util/NoSuchElementException" "java/lang/Throwable" "stackTrace" "[Ljava/lang/StackTraceElement;") := ⟨List.mem_of_getElem? (i := 176) rfl, rfl⟩
theorem gh_177 : gH (Cond.lays "java/lang/Throwable" "java/lang/Throwable" "stackTrace" "[Ljava/lang/StackTraceElement;") := ⟨List.mem_of_getElem? (i := 177) rfl, rfl⟩
theorem gh_178 : gH (Cond.lays "java/util/NoSuchElementException" "java/lang/Throwable" "suppressedExceptions" "Ljava/util/List;") := ⟨List.mem_of_getElem? (i := 178) rfl, rfl⟩
theorem gh_179 : gH (Cond.lays "java/lang/Throwable" "java/lang/Throwable" "suppressedExceptions" "Ljava/util/List;") := ⟨List.mem_of_getElem? (i := 179) rfl, rfl⟩
theorem gh_180 : gH (Cond.lays "java/util/NoSuchElementException" "java/lang/Throwable" "detailMessage" "Ljava/lang/String;") := ⟨List.mem_of_getElem? (i := 180) rfl, rfl⟩
theorem gh_181 : gH (Cond.lays "java/lang/Throwable" "java/lang/Throwable" "detailMessage" "Ljava/lang/String;") := ⟨List.mem_of_getElem? (i := 181) rfl, rfl⟩
theorem gh_182 : gH (Cond.lays "java/util/NoSuchElementException" "java/lang/Throwable" "backtrace" "Ljava/lang/Object;") := ⟨List.mem_of_getElem? (i := 182) rfl, rfl⟩
theorem gh_183 : gH (Cond.lays "java/lang/Throwable" "java/lang/Throwable" "backtrace" "Ljava/lang/Object;") := ⟨List.mem_of_getElem? (i := 183) rfl, rfl⟩
theorem gh_184 : gH (Cond.fieldLink "java/lang/Throwable" 198 "java/lang/Throwable" "backtrace" "Ljava/lang/Object;") := ⟨List.mem_of_getElem? (i := 184) rfl, rfl⟩
theorem gh_185 : gH (Cond.superclass "java/lang/Throwable" "java/lang/Object") := ⟨List.mem_of_getElem? (i := 185) rfl, rfl⟩
theorem gh_186 : gH (Cond.instanceMethod ⟨"java/lang/Throwable", "<init>", "()V"⟩) := ⟨List.mem_of_getElem? (i := 186) rfl, rfl⟩
theorem gh_187 : gH (Cond.code ⟨"java/lang/Throwable", "<init>", "()V"⟩ prog_11_method_1_code 1 none) := ⟨List.mem_of_getElem? (i := 187) rfl, rfl⟩
theorem gh_188 : gH (Cond.methodLink "java/lang/Throwable" 1 ⟨"java/lang/Object", "<init>", "()V"⟩) := ⟨List.mem_of_getElem? (i := 188) rfl, rfl⟩
theorem gh_189 : gH (Cond.fieldLink "java/lang/Throwable" 13 "java/lang/Throwable" "UNASSIGNED_STACK" "[Ljava/lang/StackTraceElement;") := ⟨List.mem_of_getElem? (i := 189) rfl, rfl⟩
theorem gh_191 : gH (Cond.fieldLink "java/lang/Throwable" 20 "java/lang/Throwable" "SUPPRESSED_SENTINEL" "Ljava/util/List;") := ⟨List.mem_of_getElem? (i := 191) rfl, rfl⟩
theorem gh_193 : gH (Cond.methodLink "java/lang/Throwable" 27 ⟨"java/lang/Throwable", "fillInStackTrace", "()Ljava/lang/Throwable;"⟩) := ⟨List.mem_of_getElem? (i := 193) rfl, rfl⟩
theorem gh_194 : gH (Cond.instanceMethod ⟨"java/lang/Throwable", "fillInStackTrace", "()Ljava/lang/Throwable;"⟩) := ⟨List.mem_of_getElem? (i := 194) rfl, rfl⟩
theorem gh_195 : gH (Cond.sameMethod "java/lang/Throwable" "java/lang/Throwable" "fillInStackTrace" "()Ljava/lang/Throwable;") := ⟨List.mem_of_getElem? (i := 195) rfl, rfl⟩
theorem gh_196 : gH (Cond.selects "java/lang/IllegalStateException" ⟨"java/lang/Throwable", "fillInStackTrace", "()Ljava/lang/Throwable;"⟩ ⟨"java/lang/Throwable", "fillInStackTrace", "()Ljava/lang/Throwable;"⟩) := ⟨List.mem_of_getElem? (i := 196) rfl, rfl⟩
theorem gh_197 : gH (Cond.selects "java/lang/IndexOutOfBoundsException" ⟨"java/lang/Throwable", "fillInStackTrace", "()Ljava/lang/Throwable;"⟩ ⟨"java/lang/Throwable", "fillInStackTrace", "()Ljava/lang/Throwable;"⟩) := ⟨List.mem_of_getElem? (i := 197) rfl, rfl⟩
theorem gh_198 : gH (Cond.codeSync ⟨"java/lang/Throwable", "fillInStackTrace", "()Ljava/lang/Throwable;"⟩ prog_11_method_18_code 1 (Option.some (FieldType.object "java/lang/Throwable"))) := ⟨List.mem_of_getElem? (i := 198) rfl, rfl⟩
theorem gh_199 : gH (Cond.methodLink "java/lang/Throwable" 202 ⟨"java/lang/Throwable", "fillInStackTrace", "(I)Ljava/lang/Throwable;"⟩) := ⟨List.mem_of_getElem? (i := 199) rfl, rfl⟩
theorem gh_201 : gH (Cond.instanceMethod ⟨"java/lang/Throwable", "fillInStackTrace", "(I)Ljava/lang/Throwable;"⟩) := ⟨List.mem_of_getElem? (i := 201) rfl, rfl⟩
theorem gh_202 : gH (Cond.instantiable "java/lang/Throwable" 6) := ⟨List.mem_of_getElem? (i := 202) rfl, rfl⟩
theorem gh_203 : gH (Cond.native ⟨"java/lang/Throwable", "fillInStackTrace", "(I)Ljava/lang/Throwable;"⟩) := ⟨List.mem_of_getElem? (i := 203) rfl, rfl⟩
theorem gh_205 : gH (Cond.methodLink "FrameSharer" 131 ⟨"java/util/NoSuchElementException", "<init>", "(Ljava/lang/String;)V"⟩) := ⟨List.mem_of_getElem? (i := 205) rfl, rfl⟩
theorem gh_206 : gH (Cond.instanceMethod ⟨"java/util/NoSuchElementException", "<init>", "(Ljava/lang/String;)V"⟩) := ⟨List.mem_of_getElem? (i := 206) rfl, rfl⟩
theorem gh_207 : gH (Cond.code ⟨"java/util/NoSuchElementException", "<init>", "(Ljava/lang/String;)V"⟩ prog_13_method_4_code 2 none) := ⟨List.mem_of_getElem? (i := 207) rfl, rfl⟩
theorem gh_208 : gH (Cond.methodLink "java/util/NoSuchElementException" 13 ⟨"java/lang/RuntimeException", "<init>", "(Ljava/lang/String;)V"⟩) := ⟨List.mem_of_getElem? (i := 208) rfl, rfl⟩
theorem gh_209 : gH (Cond.instanceMethod ⟨"java/lang/RuntimeException", "<init>", "(Ljava/lang/String;)V"⟩) := ⟨List.mem_of_getElem? (i := 209) rfl, rfl⟩
theorem gh_210 : gH (Cond.code ⟨"java/lang/RuntimeException", "<init>", "(Ljava/lang/String;)V"⟩ prog_8_method_2_code 2 none) := ⟨List.mem_of_getElem? (i := 210) rfl, rfl⟩
theorem gh_211 : gH (Cond.methodLink "java/lang/RuntimeException" 7 ⟨"java/lang/Exception", "<init>", "(Ljava/lang/String;)V"⟩) := ⟨List.mem_of_getElem? (i := 211) rfl, rfl⟩
theorem gh_212 : gH (Cond.instanceMethod ⟨"java/lang/Exception", "<init>", "(Ljava/lang/String;)V"⟩) := ⟨List.mem_of_getElem? (i := 212) rfl, rfl⟩
theorem gh_213 : gH (Cond.code ⟨"java/lang/Exception", "<init>", "(Ljava/lang/String;)V"⟩ prog_4_method_2_code 2 none) := ⟨List.mem_of_getElem? (i := 213) rfl, rfl⟩
theorem gh_214 : gH (Cond.methodLink "java/lang/Exception" 7 ⟨"java/lang/Throwable", "<init>", "(Ljava/lang/String;)V"⟩) := ⟨List.mem_of_getElem? (i := 214) rfl, rfl⟩
theorem gh_215 : gH (Cond.instanceMethod ⟨"java/lang/Throwable", "<init>", "(Ljava/lang/String;)V"⟩) := ⟨List.mem_of_getElem? (i := 215) rfl, rfl⟩
theorem gh_216 : gH (Cond.code ⟨"java/lang/Throwable", "<init>", "(Ljava/lang/String;)V"⟩ prog_11_method_2_code 2 none) := ⟨List.mem_of_getElem? (i := 216) rfl, rfl⟩
theorem gh_218 : gH (Cond.fieldLink "java/lang/Throwable" 31 "java/lang/Throwable" "detailMessage" "Ljava/lang/String;") := ⟨List.mem_of_getElem? (i := 218) rfl, rfl⟩
theorem gh_219 : gH (Cond.fieldLink "java/lang/Throwable" 7 "java/lang/Throwable" "cause" "Ljava/lang/Throwable;") := ⟨List.mem_of_getElem? (i := 219) rfl, rfl⟩
theorem gh_220 : gH (Cond.fieldLink "java/lang/Throwable" 17 "java/lang/Throwable" "stackTrace" "[Ljava/lang/StackTraceElement;") := ⟨List.mem_of_getElem? (i := 220) rfl, rfl⟩
theorem gh_221 : gH (Cond.fieldLink "java/lang/Throwable" 24 "java/lang/Throwable" "suppressedExceptions" "Ljava/util/List;") := ⟨List.mem_of_getElem? (i := 221) rfl, rfl⟩
theorem gh_226 : gH (Cond.lays "java/util/NoSuchElementException" "java/lang/Throwable" "depth" "I") := ⟨List.mem_of_getElem? (i := 226) rfl, rfl⟩
theorem gh_229 : gH (Cond.superclass "java/util/NoSuchElementException" "java/lang/RuntimeException") := ⟨List.mem_of_getElem? (i := 229) rfl, rfl⟩
theorem gh_230 : gH (Cond.arrayClass FieldType.byte) := ⟨List.mem_of_getElem? (i := 230) rfl, rfl⟩
theorem gh_231 : gH (Cond.methodLink "FrameSharerLaw" 82 ⟨"FrameSharerLaw", "close", "(LFrameSharer;I[J)I"⟩) := ⟨List.mem_of_getElem? (i := 231) rfl, rfl⟩
theorem gh_232 : gH (Cond.static ⟨"FrameSharerLaw", "close", "(LFrameSharer;I[J)I"⟩) := ⟨List.mem_of_getElem? (i := 232) rfl, rfl⟩
theorem gh_233 : gH (Cond.codeWith ⟨"FrameSharerLaw", "close", "(LFrameSharer;I[J)I"⟩ method_4_code 4 (some FieldType.int) [(0, 9, 12, 13)]) := ⟨List.mem_of_getElem? (i := 233) rfl, rfl⟩
theorem gh_234 : gH (Cond.methodLink "FrameSharerLaw" 15 ⟨"FrameSharer", "close", "(I)I"⟩) := ⟨List.mem_of_getElem? (i := 234) rfl, rfl⟩
theorem gh_235 : gH (Cond.instanceMethod ⟨"FrameSharer", "close", "(I)I"⟩) := ⟨List.mem_of_getElem? (i := 235) rfl, rfl⟩
theorem gh_236 : gH (Cond.selects "FrameSharer" ⟨"FrameSharer", "close", "(I)I"⟩ ⟨"FrameSharer", "close", "(I)I"⟩) := ⟨List.mem_of_getElem? (i := 236) rfl, rfl⟩
theorem gh_237 : gH (Cond.code ⟨"FrameSharer", "close", "(I)I"⟩ prog_1_method_4_code 4 (some FieldType.int)) := ⟨List.mem_of_getElem? (i := 237) rfl, rfl⟩
theorem gh_238 : gH (Cond.methodLink "FrameSharerLaw" 85 ⟨"FrameSharerLaw", "map", "(LFrameSharer;III[J)I"⟩) := ⟨List.mem_of_getElem? (i := 238) rfl, rfl⟩
theorem gh_239 : gH (Cond.static ⟨"FrameSharerLaw", "map", "(LFrameSharer;III[J)I"⟩) := ⟨List.mem_of_getElem? (i := 239) rfl, rfl⟩
theorem gh_240 : gH (Cond.codeWith ⟨"FrameSharerLaw", "map", "(LFrameSharer;III[J)I"⟩ method_5_code 6 (some FieldType.int) [(0, 19, 22, 13), (0, 19, 26, 22), (0, 19, 30, 24)]) := ⟨List.mem_of_getElem? (i := 240) rfl, rfl⟩
theorem gh_241 : gH (Cond.classLink "FrameSharerLaw" 22 "java/lang/IndexOutOfBoundsException") := ⟨List.mem_of_getElem? (i := 241) rfl, rfl⟩
theorem gh_242 : gH (Cond.classLink "FrameSharerLaw" 24 "java/lang/IllegalStateException") := ⟨List.mem_of_getElem? (i := 242) rfl, rfl⟩
theorem gh_243 : gH (Cond.methodLink "FrameSharerLaw" 18 ⟨"FrameSharer", "map", "(III)Z"⟩) := ⟨List.mem_of_getElem? (i := 243) rfl, rfl⟩
theorem gh_244 : gH (Cond.instanceMethod ⟨"FrameSharer", "map", "(III)Z"⟩) := ⟨List.mem_of_getElem? (i := 244) rfl, rfl⟩
theorem gh_245 : gH (Cond.selects "FrameSharer" ⟨"FrameSharer", "map", "(III)Z"⟩ ⟨"FrameSharer", "map", "(III)Z"⟩) := ⟨List.mem_of_getElem? (i := 245) rfl, rfl⟩
theorem gh_246 : gH (Cond.code ⟨"FrameSharer", "map", "(III)Z"⟩ prog_1_method_5_code 6 (some FieldType.boolean)) := ⟨List.mem_of_getElem? (i := 246) rfl, rfl⟩
theorem gh_247 : gH (Cond.methodLink "FrameSharer" 67 ⟨"FrameSharer", "needPage", "(I)V"⟩) := ⟨List.mem_of_getElem? (i := 247) rfl, rfl⟩
theorem gh_249 : gH (Cond.instanceMethod ⟨"FrameSharer", "needPage", "(I)V"⟩) := ⟨List.mem_of_getElem? (i := 249) rfl, rfl⟩
theorem gh_250 : gH (Cond.code ⟨"FrameSharer", "needPage", "(I)V"⟩ prog_1_method_19_code 2 none) := ⟨List.mem_of_getElem? (i := 250) rfl, rfl⟩
theorem gh_251 : gH (Cond.classLink "FrameSharer" 134 "java/lang/IndexOutOfBoundsException") := ⟨List.mem_of_getElem? (i := 251) rfl, rfl⟩
theorem gh_252 : gH (Cond.instantiable "java/lang/IndexOutOfBoundsException" 6) := ⟨List.mem_of_getElem? (i := 252) rfl, rfl⟩
theorem gh_253 : gH (Cond.castable "java/lang/IndexOutOfBoundsException" "java/lang/IndexOutOfBoundsException") := ⟨List.mem_of_getElem? (i := 253) rfl, rfl⟩
theorem gh_254 : gH (Cond.selects "java/lang/IndexOutOfBoundsException" ⟨"java/lang/Throwable", "fillInStackTrace", "(I)Ljava/lang/Throwable;"⟩ ⟨"java/lang/Throwable", "fillInStackTrace", "(I)Ljava/lang/Throwable;"⟩) := ⟨List.mem_of_getElem? (i := 254) rfl, rfl⟩
theorem gh_255 : gH (Cond.lays "java/lang/IndexOutOfBoundsException" "java/lang/Throwable" "cause" "Ljava/lang/Throwable;") := ⟨List.mem_of_getElem? (i := 255) rfl, rfl⟩
theorem gh_256 : gH (Cond.lays "java/lang/IndexOutOfBoundsException" "java/lang/Throwable" "stackTrace" "[Ljava/lang/StackTraceElement;") := ⟨List.mem_of_getElem? (i := 256) rfl, rfl⟩
theorem gh_257 : gH (Cond.lays "java/lang/IndexOutOfBoundsException" "java/lang/Throwable" "suppressedExceptions" "Ljava/util/List;") := ⟨List.mem_of_getElem? (i := 257) rfl, rfl⟩
theorem gh_258 : gH (Cond.lays "java/lang/IndexOutOfBoundsException" "java/lang/Throwable" "detailMessage" "Ljava/lang/String;") := ⟨List.mem_of_getElem? (i := 258) rfl, rfl⟩
theorem gh_259 : gH (Cond.lays "java/lang/IndexOutOfBoundsException" "java/lang/Throwable" "backtrace" "Ljava/lang/Object;") := ⟨List.mem_of_getElem? (i := 259) rfl, rfl⟩
theorem gh_261 : gH (Cond.methodLink "FrameSharer" 138 ⟨"java/lang/IndexOutOfBoundsException", "<init>", "(Ljava/lang/String;)V"⟩) := ⟨List.mem_of_getElem? (i := 261) rfl, rfl⟩
theorem gh_262 : gH (Cond.instanceMethod ⟨"java/lang/IndexOutOfBoundsException", "<init>", "(Ljava/lang/String;)V"⟩) := ⟨List.mem_of_getElem? (i := 262) rfl, rfl⟩
theorem gh_263 : gH (Cond.code ⟨"java/lang/IndexOutOfBoundsException", "<init>", "(Ljava/lang/String;)V"⟩ prog_6_method_2_code 2 none) := ⟨List.mem_of_getElem? (i := 263) rfl, rfl⟩
theorem gh_264 : gH (Cond.methodLink "java/lang/IndexOutOfBoundsException" 7 ⟨"java/lang/RuntimeException", "<init>", "(Ljava/lang/String;)V"⟩) := ⟨List.mem_of_getElem? (i := 264) rfl, rfl⟩
theorem gh_265 : gH (Cond.lays "java/lang/IndexOutOfBoundsException" "java/lang/Throwable" "depth" "I") := ⟨List.mem_of_getElem? (i := 265) rfl, rfl⟩
theorem gh_266 : gH (Cond.superclass "java/lang/IndexOutOfBoundsException" "java/lang/RuntimeException") := ⟨List.mem_of_getElem? (i := 266) rfl, rfl⟩
theorem gh_267 : gH (Cond.methodLink "FrameSharer" 74 ⟨"FrameSharer", "needFreeFrame", "()I"⟩) := ⟨List.mem_of_getElem? (i := 267) rfl, rfl⟩
theorem gh_269 : gH (Cond.instanceMethod ⟨"FrameSharer", "needFreeFrame", "()I"⟩) := ⟨List.mem_of_getElem? (i := 269) rfl, rfl⟩
theorem gh_270 : gH (Cond.code ⟨"FrameSharer", "needFreeFrame", "()I"⟩ prog_1_method_23_code 2 (some FieldType.int)) := ⟨List.mem_of_getElem? (i := 270) rfl, rfl⟩
theorem gh_271 : gH (Cond.classLink "FrameSharer" 145 "java/lang/IllegalStateException") := ⟨List.mem_of_getElem? (i := 271) rfl, rfl⟩
theorem gh_272 : gH (Cond.instantiable "java/lang/IllegalStateException" 6) := ⟨List.mem_of_getElem? (i := 272) rfl, rfl⟩
theorem gh_273 : gH (Cond.castable "java/lang/IllegalStateException" "java/lang/IllegalStateException") := ⟨List.mem_of_getElem? (i := 273) rfl, rfl⟩
theorem gh_274 : gH (Cond.selects "java/lang/IllegalStateException" ⟨"java/lang/Throwable", "fillInStackTrace", "(I)Ljava/lang/Throwable;"⟩ ⟨"java/lang/Throwable", "fillInStackTrace", "(I)Ljava/lang/Throwable;"⟩) := ⟨List.mem_of_getElem? (i := 274) rfl, rfl⟩
theorem gh_275 : gH (Cond.lays "java/lang/IllegalStateException" "java/lang/Throwable" "cause" "Ljava/lang/Throwable;") := ⟨List.mem_of_getElem? (i := 275) rfl, rfl⟩
theorem gh_276 : gH (Cond.lays "java/lang/IllegalStateException" "java/lang/Throwable" "stackTrace" "[Ljava/lang/StackTraceElement;") := ⟨List.mem_of_getElem? (i := 276) rfl, rfl⟩
theorem gh_277 : gH (Cond.lays "java/lang/IllegalStateException" "java/lang/Throwable" "suppressedExceptions" "Ljava/util/List;") := ⟨List.mem_of_getElem? (i := 277) rfl, rfl⟩
theorem gh_278 : gH (Cond.lays "java/lang/IllegalStateException" "java/lang/Throwable" "detailMessage" "Ljava/lang/String;") := ⟨List.mem_of_getElem? (i := 278) rfl, rfl⟩
theorem gh_279 : gH (Cond.lays "java/lang/IllegalStateException" "java/lang/Throwable" "backtrace" "Ljava/lang/Object;") := ⟨List.mem_of_getElem? (i := 279) rfl, rfl⟩
theorem gh_281 : gH (Cond.methodLink "FrameSharer" 149 ⟨"java/lang/IllegalStateException", "<init>", "(Ljava/lang/String;)V"⟩) := ⟨List.mem_of_getElem? (i := 281) rfl, rfl⟩
theorem gh_282 : gH (Cond.instanceMethod ⟨"java/lang/IllegalStateException", "<init>", "(Ljava/lang/String;)V"⟩) := ⟨List.mem_of_getElem? (i := 282) rfl, rfl⟩
theorem gh_283 : gH (Cond.code ⟨"java/lang/IllegalStateException", "<init>", "(Ljava/lang/String;)V"⟩ prog_5_method_2_code 2 none) := ⟨List.mem_of_getElem? (i := 283) rfl, rfl⟩
theorem gh_284 : gH (Cond.methodLink "java/lang/IllegalStateException" 7 ⟨"java/lang/RuntimeException", "<init>", "(Ljava/lang/String;)V"⟩) := ⟨List.mem_of_getElem? (i := 284) rfl, rfl⟩
theorem gh_285 : gH (Cond.lays "java/lang/IllegalStateException" "java/lang/Throwable" "depth" "I") := ⟨List.mem_of_getElem? (i := 285) rfl, rfl⟩
theorem gh_286 : gH (Cond.superclass "java/lang/IllegalStateException" "java/lang/RuntimeException") := ⟨List.mem_of_getElem? (i := 286) rfl, rfl⟩
theorem gh_287 : gH (Cond.methodLink "FrameSharer" 77 ⟨"FrameSharer", "fillFrame", "(II)V"⟩) := ⟨List.mem_of_getElem? (i := 287) rfl, rfl⟩
theorem gh_289 : gH (Cond.instanceMethod ⟨"FrameSharer", "fillFrame", "(II)V"⟩) := ⟨List.mem_of_getElem? (i := 289) rfl, rfl⟩
theorem gh_290 : gH (Cond.code ⟨"FrameSharer", "fillFrame", "(II)V"⟩ prog_1_method_29_code 4 none) := ⟨List.mem_of_getElem? (i := 290) rfl, rfl⟩
theorem gh_291 : gH (Cond.methodLink "FrameSharerLaw" 89 ⟨"FrameSharerLaw", "unmap", "(LFrameSharer;II[J)I"⟩) := ⟨List.mem_of_getElem? (i := 291) rfl, rfl⟩
theorem gh_292 : gH (Cond.static ⟨"FrameSharerLaw", "unmap", "(LFrameSharer;II[J)I"⟩) := ⟨List.mem_of_getElem? (i := 292) rfl, rfl⟩
theorem gh_293 : gH (Cond.codeWith ⟨"FrameSharerLaw", "unmap", "(LFrameSharer;II[J)I"⟩ method_6_code 5 (some FieldType.int) [(0, 17, 20, 13), (0, 17, 24, 22)]) := ⟨List.mem_of_getElem? (i := 293) rfl, rfl⟩
theorem gh_294 : gH (Cond.methodLink "FrameSharerLaw" 26 ⟨"FrameSharer", "unmap", "(II)Z"⟩) := ⟨List.mem_of_getElem? (i := 294) rfl, rfl⟩
theorem gh_295 : gH (Cond.instanceMethod ⟨"FrameSharer", "unmap", "(II)Z"⟩) := ⟨List.mem_of_getElem? (i := 295) rfl, rfl⟩
theorem gh_296 : gH (Cond.selects "FrameSharer" ⟨"FrameSharer", "unmap", "(II)Z"⟩ ⟨"FrameSharer", "unmap", "(II)Z"⟩) := ⟨List.mem_of_getElem? (i := 296) rfl, rfl⟩
theorem gh_297 : gH (Cond.code ⟨"FrameSharer", "unmap", "(II)Z"⟩ prog_1_method_6_code 5 (some FieldType.boolean)) := ⟨List.mem_of_getElem? (i := 297) rfl, rfl⟩
theorem gh_298 : gH (Cond.methodLink "FrameSharerLaw" 93 ⟨"FrameSharerLaw", "read", "(LFrameSharer;II[J)I"⟩) := ⟨List.mem_of_getElem? (i := 298) rfl, rfl⟩
theorem gh_299 : gH (Cond.static ⟨"FrameSharerLaw", "read", "(LFrameSharer;II[J)I"⟩) := ⟨List.mem_of_getElem? (i := 299) rfl, rfl⟩
theorem gh_300 : gH (Cond.codeWith ⟨"FrameSharerLaw", "read", "(LFrameSharer;II[J)I"⟩ method_7_code 5 (some FieldType.int) [(0, 10, 13, 22), (0, 10, 17, 13)]) := ⟨List.mem_of_getElem? (i := 300) rfl, rfl⟩
theorem gh_301 : gH (Cond.methodLink "FrameSharerLaw" 30 ⟨"FrameSharer", "read", "(II)I"⟩) := ⟨List.mem_of_getElem? (i := 301) rfl, rfl⟩
theorem gh_302 : gH (Cond.instanceMethod ⟨"FrameSharer", "read", "(II)I"⟩) := ⟨List.mem_of_getElem? (i := 302) rfl, rfl⟩
theorem gh_303 : gH (Cond.selects "FrameSharer" ⟨"FrameSharer", "read", "(II)I"⟩ ⟨"FrameSharer", "read", "(II)I"⟩) := ⟨List.mem_of_getElem? (i := 303) rfl, rfl⟩
theorem gh_304 : gH (Cond.code ⟨"FrameSharer", "read", "(II)I"⟩ prog_1_method_7_code 4 (some FieldType.int)) := ⟨List.mem_of_getElem? (i := 304) rfl, rfl⟩
theorem gh_305 : gH (Cond.methodLink "FrameSharer" 80 ⟨"FrameSharer", "needHolderAt", "(II)I"⟩) := ⟨List.mem_of_getElem? (i := 305) rfl, rfl⟩
theorem gh_307 : gH (Cond.instanceMethod ⟨"FrameSharer", "needHolderAt", "(II)I"⟩) := ⟨List.mem_of_getElem? (i := 307) rfl, rfl⟩
theorem gh_308 : gH (Cond.code ⟨"FrameSharer", "needHolderAt", "(II)I"⟩ prog_1_method_22_code 4 (some FieldType.int)) := ⟨List.mem_of_getElem? (i := 308) rfl, rfl⟩
theorem gh_311 : gH (Cond.methodLink "FrameSharer" 83 ⟨"FrameSharer", "cellIndex", "(II)I"⟩) := ⟨List.mem_of_getElem? (i := 311) rfl, rfl⟩
theorem gh_312 : gH (Cond.static ⟨"FrameSharer", "cellIndex", "(II)I"⟩) := ⟨List.mem_of_getElem? (i := 312) rfl, rfl⟩
theorem gh_313 : gH (Cond.code ⟨"FrameSharer", "cellIndex", "(II)I"⟩ prog_1_method_41_code 2 (some FieldType.int)) := ⟨List.mem_of_getElem? (i := 313) rfl, rfl⟩
theorem gh_314 : gH (Cond.methodLink "FrameSharerLaw" 96 ⟨"FrameSharerLaw", "write", "(LFrameSharer;III[J)I"⟩) := ⟨List.mem_of_getElem? (i := 314) rfl, rfl⟩
theorem gh_315 : gH (Cond.static ⟨"FrameSharerLaw", "write", "(LFrameSharer;III[J)I"⟩) := ⟨List.mem_of_getElem? (i := 315) rfl, rfl⟩
theorem gh_316 : gH (Cond.codeWith ⟨"FrameSharerLaw", "write", "(LFrameSharer;III[J)I"⟩ method_8_code 6 (some FieldType.int) [(0, 12, 15, 22), (0, 12, 19, 13), (0, 12, 23, 24)]) := ⟨List.mem_of_getElem? (i := 316) rfl, rfl⟩
theorem gh_317 : gH (Cond.methodLink "FrameSharerLaw" 34 ⟨"FrameSharer", "write", "(III)I"⟩) := ⟨List.mem_of_getElem? (i := 317) rfl, rfl⟩
theorem gh_318 : gH (Cond.instanceMethod ⟨"FrameSharer", "write", "(III)I"⟩) := ⟨List.mem_of_getElem? (i := 318) rfl, rfl⟩
theorem gh_319 : gH (Cond.selects "FrameSharer" ⟨"FrameSharer", "write", "(III)I"⟩ ⟨"FrameSharer", "write", "(III)I"⟩) := ⟨List.mem_of_getElem? (i := 319) rfl, rfl⟩
theorem gh_320 : gH (Cond.code ⟨"FrameSharer", "write", "(III)I"⟩ prog_1_method_8_code 7 (some FieldType.int)) := ⟨List.mem_of_getElem? (i := 320) rfl, rfl⟩
theorem gh_321 : gH (Cond.methodLink "FrameSharer" 86 ⟨"FrameSharer", "needOwnFrame", "(I)I"⟩) := ⟨List.mem_of_getElem? (i := 321) rfl, rfl⟩
theorem gh_323 : gH (Cond.instanceMethod ⟨"FrameSharer", "needOwnFrame", "(I)I"⟩) := ⟨List.mem_of_getElem? (i := 323) rfl, rfl⟩
theorem gh_324 : gH (Cond.code ⟨"FrameSharer", "needOwnFrame", "(I)I"⟩ prog_1_method_24_code 4 (some FieldType.int)) := ⟨List.mem_of_getElem? (i := 324) rfl, rfl⟩
theorem gh_325 : gH (Cond.methodLink "FrameSharer" 150 ⟨"java/lang/System", "arraycopy", "(Ljava/lang/Object;ILjava/lang/Object;II)V"⟩) := ⟨List.mem_of_getElem? (i := 325) rfl, rfl⟩
theorem gh_326 : gH (Cond.static ⟨"java/lang/System", "arraycopy", "(Ljava/lang/Object;ILjava/lang/Object;II)V"⟩) := ⟨List.mem_of_getElem? (i := 326) rfl, rfl⟩
theorem gh_327 : gH (Cond.native ⟨"java/lang/System", "arraycopy", "(Ljava/lang/Object;ILjava/lang/Object;II)V"⟩) := ⟨List.mem_of_getElem? (i := 327) rfl, rfl⟩
theorem gh_328 : gH (Cond.methodLink "FrameSharerLaw" 99 ⟨"FrameSharerLaw", "lend", "(LFrameSharer;IIII[J)I"⟩) := ⟨List.mem_of_getElem? (i := 328) rfl, rfl⟩
theorem gh_329 : gH (Cond.static ⟨"FrameSharerLaw", "lend", "(LFrameSharer;IIII[J)I"⟩) := ⟨List.mem_of_getElem? (i := 329) rfl, rfl⟩
theorem gh_330 : gH (Cond.codeWith ⟨"FrameSharerLaw", "lend", "(LFrameSharer;IIII[J)I"⟩ method_9_code 7 (some FieldType.int) [(0, 21, 24, 13), (0, 21, 28, 22)]) := ⟨List.mem_of_getElem? (i := 330) rfl, rfl⟩
theorem gh_331 : gH (Cond.methodLink "FrameSharerLaw" 38 ⟨"FrameSharer", "lend", "(IIII)Z"⟩) := ⟨List.mem_of_getElem? (i := 331) rfl, rfl⟩
theorem gh_332 : gH (Cond.instanceMethod ⟨"FrameSharer", "lend", "(IIII)Z"⟩) := ⟨List.mem_of_getElem? (i := 332) rfl, rfl⟩
theorem gh_333 : gH (Cond.selects "FrameSharer" ⟨"FrameSharer", "lend", "(IIII)Z"⟩ ⟨"FrameSharer", "lend", "(IIII)Z"⟩) := ⟨List.mem_of_getElem? (i := 333) rfl, rfl⟩
theorem gh_334 : gH (Cond.code ⟨"FrameSharer", "lend", "(IIII)Z"⟩ prog_1_method_9_code 8 (some FieldType.boolean)) := ⟨List.mem_of_getElem? (i := 334) rfl, rfl⟩
theorem gh_335 : gH (Cond.methodLink "FrameSharer" 89 ⟨"FrameSharer", "needTwoPages", "(IIII)V"⟩) := ⟨List.mem_of_getElem? (i := 335) rfl, rfl⟩
theorem gh_337 : gH (Cond.instanceMethod ⟨"FrameSharer", "needTwoPages", "(IIII)V"⟩) := ⟨List.mem_of_getElem? (i := 337) rfl, rfl⟩
theorem gh_338 : gH (Cond.code ⟨"FrameSharer", "needTwoPages", "(IIII)V"⟩ prog_1_method_20_code 5 none) := ⟨List.mem_of_getElem? (i := 338) rfl, rfl⟩
theorem gh_339 : gH (Cond.methodLink "FrameSharerLaw" 103 ⟨"FrameSharerLaw", "join", "(LFrameSharer;IIII[J)I"⟩) := ⟨List.mem_of_getElem? (i := 339) rfl, rfl⟩
theorem gh_340 : gH (Cond.static ⟨"FrameSharerLaw", "join", "(LFrameSharer;IIII[J)I"⟩) := ⟨List.mem_of_getElem? (i := 340) rfl, rfl⟩
theorem gh_341 : gH (Cond.codeWith ⟨"FrameSharerLaw", "join", "(LFrameSharer;IIII[J)I"⟩ method_10_code 7 (some FieldType.int) [(0, 14, 17, 13), (0, 14, 21, 22)]) := ⟨List.mem_of_getElem? (i := 341) rfl, rfl⟩
theorem gh_342 : gH (Cond.methodLink "FrameSharerLaw" 42 ⟨"FrameSharer", "join", "(IIII)I"⟩) := ⟨List.mem_of_getElem? (i := 342) rfl, rfl⟩
theorem gh_343 : gH (Cond.instanceMethod ⟨"FrameSharer", "join", "(IIII)I"⟩) := ⟨List.mem_of_getElem? (i := 343) rfl, rfl⟩
theorem gh_344 : gH (Cond.selects "FrameSharer" ⟨"FrameSharer", "join", "(IIII)I"⟩ ⟨"FrameSharer", "join", "(IIII)I"⟩) := ⟨List.mem_of_getElem? (i := 344) rfl, rfl⟩
theorem gh_345 : gH (Cond.code ⟨"FrameSharer", "join", "(IIII)I"⟩ prog_1_method_10_code 8 (some FieldType.int)) := ⟨List.mem_of_getElem? (i := 345) rfl, rfl⟩
theorem gh_346 : gH (Cond.methodLink "FrameSharer" 93 ⟨"FrameSharer", "haveSameCells", "(II)Z"⟩) := ⟨List.mem_of_getElem? (i := 346) rfl, rfl⟩
theorem gh_348 : gH (Cond.instanceMethod ⟨"FrameSharer", "haveSameCells", "(II)Z"⟩) := ⟨List.mem_of_getElem? (i := 348) rfl, rfl⟩
theorem gh_349 : gH (Cond.code ⟨"FrameSharer", "haveSameCells", "(II)Z"⟩ prog_1_method_30_code 4 (some FieldType.boolean)) := ⟨List.mem_of_getElem? (i := 349) rfl, rfl⟩
theorem gh_350 : gH (Cond.methodLink "FrameSharer" 97 ⟨"FrameSharer", "moveHolders", "(II)V"⟩) := ⟨List.mem_of_getElem? (i := 350) rfl, rfl⟩
theorem gh_352 : gH (Cond.instanceMethod ⟨"FrameSharer", "moveHolders", "(II)V"⟩) := ⟨List.mem_of_getElem? (i := 352) rfl, rfl⟩
theorem gh_353 : gH (Cond.code ⟨"FrameSharer", "moveHolders", "(II)V"⟩ prog_1_method_26_code 4 none) := ⟨List.mem_of_getElem? (i := 353) rfl, rfl⟩
theorem gh_354 : gH (Cond.methodLink "FrameSharerLaw" 110 ⟨"FrameSharerLaw", "back", "(LFrameSharer;I[J)I"⟩) := ⟨List.mem_of_getElem? (i := 354) rfl, rfl⟩
theorem gh_355 : gH (Cond.static ⟨"FrameSharerLaw", "back", "(LFrameSharer;I[J)I"⟩) := ⟨List.mem_of_getElem? (i := 355) rfl, rfl⟩
theorem gh_356 : gH (Cond.codeWith ⟨"FrameSharerLaw", "back", "(LFrameSharer;I[J)I"⟩ method_11_code 4 (some FieldType.int) [(0, 9, 12, 13)]) := ⟨List.mem_of_getElem? (i := 356) rfl, rfl⟩
theorem gh_357 : gH (Cond.methodLink "FrameSharerLaw" 46 ⟨"FrameSharer", "back", "(I)I"⟩) := ⟨List.mem_of_getElem? (i := 357) rfl, rfl⟩
theorem gh_358 : gH (Cond.instanceMethod ⟨"FrameSharer", "back", "(I)I"⟩) := ⟨List.mem_of_getElem? (i := 358) rfl, rfl⟩
theorem gh_359 : gH (Cond.selects "FrameSharer" ⟨"FrameSharer", "back", "(I)I"⟩ ⟨"FrameSharer", "back", "(I)I"⟩) := ⟨List.mem_of_getElem? (i := 359) rfl, rfl⟩
theorem gh_360 : gH (Cond.code ⟨"FrameSharer", "back", "(I)I"⟩ prog_1_method_12_code 2 (some FieldType.int)) := ⟨List.mem_of_getElem? (i := 360) rfl, rfl⟩
theorem gh_361 : gH (Cond.methodLink "FrameSharer" 106 ⟨"FrameSharer", "needPicture", "(I)V"⟩) := ⟨List.mem_of_getElem? (i := 361) rfl, rfl⟩
theorem gh_363 : gH (Cond.instanceMethod ⟨"FrameSharer", "needPicture", "(I)V"⟩) := ⟨List.mem_of_getElem? (i := 363) rfl, rfl⟩
theorem gh_364 : gH (Cond.code ⟨"FrameSharer", "needPicture", "(I)V"⟩ prog_1_method_21_code 2 none) := ⟨List.mem_of_getElem? (i := 364) rfl, rfl⟩
theorem gh_366 : gH (Cond.methodLink "FrameSharerLaw" 113 ⟨"FrameSharerLaw", "drop", "(LFrameSharer;I[J)I"⟩) := ⟨List.mem_of_getElem? (i := 366) rfl, rfl⟩
theorem gh_367 : gH (Cond.static ⟨"FrameSharerLaw", "drop", "(LFrameSharer;I[J)I"⟩) := ⟨List.mem_of_getElem? (i := 367) rfl, rfl⟩
theorem gh_368 : gH (Cond.codeWith ⟨"FrameSharerLaw", "drop", "(LFrameSharer;I[J)I"⟩ method_12_code 4 (some FieldType.int) [(0, 9, 12, 13)]) := ⟨List.mem_of_getElem? (i := 368) rfl, rfl⟩
theorem gh_369 : gH (Cond.methodLink "FrameSharerLaw" 49 ⟨"FrameSharer", "drop", "(I)I"⟩) := ⟨List.mem_of_getElem? (i := 369) rfl, rfl⟩
theorem gh_370 : gH (Cond.instanceMethod ⟨"FrameSharer", "drop", "(I)I"⟩) := ⟨List.mem_of_getElem? (i := 370) rfl, rfl⟩
theorem gh_371 : gH (Cond.selects "FrameSharer" ⟨"FrameSharer", "drop", "(I)I"⟩ ⟨"FrameSharer", "drop", "(I)I"⟩) := ⟨List.mem_of_getElem? (i := 371) rfl, rfl⟩
theorem gh_372 : gH (Cond.code ⟨"FrameSharer", "drop", "(I)I"⟩ prog_1_method_13_code 3 (some FieldType.int)) := ⟨List.mem_of_getElem? (i := 372) rfl, rfl⟩
theorem gh_373 : gH (Cond.methodLink "FrameSharer" 115 ⟨"FrameSharer", "clearRow", "(I)V"⟩) := ⟨List.mem_of_getElem? (i := 373) rfl, rfl⟩
theorem gh_375 : gH (Cond.instanceMethod ⟨"FrameSharer", "clearRow", "(I)V"⟩) := ⟨List.mem_of_getElem? (i := 375) rfl, rfl⟩
theorem gh_376 : gH (Cond.code ⟨"FrameSharer", "clearRow", "(I)V"⟩ prog_1_method_28_code 3 none) := ⟨List.mem_of_getElem? (i := 376) rfl, rfl⟩
theorem gh_377 : gH (Cond.methodLink "FrameSharerLaw" 116 ⟨"FrameSharerLaw", "holders", "(LFrameSharer;II[J)I"⟩) := ⟨List.mem_of_getElem? (i := 377) rfl, rfl⟩
theorem gh_378 : gH (Cond.static ⟨"FrameSharerLaw", "holders", "(LFrameSharer;II[J)I"⟩) := ⟨List.mem_of_getElem? (i := 378) rfl, rfl⟩
theorem gh_379 : gH (Cond.codeWith ⟨"FrameSharerLaw", "holders", "(LFrameSharer;II[J)I"⟩ method_13_code 5 (some FieldType.int) [(0, 10, 13, 13), (0, 10, 17, 22)]) := ⟨List.mem_of_getElem? (i := 379) rfl, rfl⟩
set_option maxRecDepth 100000 in
theorem gh_380 : gH (Cond.methodLink "FrameSharerLaw" 52 ⟨"FrameSharer", "holders", "(II)I"⟩) := ⟨List.mem_of_getElem? (i := 380) rfl, rfl⟩
set_option maxRecDepth 100000 in
theorem gh_381 : gH (Cond.instanceMethod ⟨"FrameSharer", "holders", "(II)I"⟩) := ⟨List.mem_of_getElem? (i := 381) rfl, rfl⟩
set_option maxRecDepth 100000 in
theorem gh_382 : gH (Cond.selects "FrameSharer" ⟨"FrameSharer", "holders", "(II)I"⟩ ⟨"FrameSharer", "holders", "(II)I"⟩) := ⟨List.mem_of_getElem? (i := 382) rfl, rfl⟩
set_option maxRecDepth 100000 in
theorem gh_383 : gH (Cond.code ⟨"FrameSharer", "holders", "(II)I"⟩ prog_1_method_14_code 4 (some FieldType.int)) := ⟨List.mem_of_getElem? (i := 383) rfl, rfl⟩
set_option maxRecDepth 100000 in
theorem gh_384 : gH (Cond.methodLink "FrameSharerLaw" 119 ⟨"FrameSharerLaw", "changed", "(LFrameSharer;I[J)I"⟩) := ⟨List.mem_of_getElem? (i := 384) rfl, rfl⟩
set_option maxRecDepth 100000 in
theorem gh_385 : gH (Cond.static ⟨"FrameSharerLaw", "changed", "(LFrameSharer;I[J)I"⟩) := ⟨List.mem_of_getElem? (i := 385) rfl, rfl⟩
set_option maxRecDepth 100000 in
theorem gh_386 : gH (Cond.codeWith ⟨"FrameSharerLaw", "changed", "(LFrameSharer;I[J)I"⟩ method_14_code 4 (some FieldType.int) [(0, 9, 12, 13)]) := ⟨List.mem_of_getElem? (i := 386) rfl, rfl⟩
set_option maxRecDepth 100000 in
theorem gh_387 : gH (Cond.methodLink "FrameSharerLaw" 55 ⟨"FrameSharer", "changed", "(I)I"⟩) := ⟨List.mem_of_getElem? (i := 387) rfl, rfl⟩
set_option maxRecDepth 100000 in
theorem gh_388 : gH (Cond.instanceMethod ⟨"FrameSharer", "changed", "(I)I"⟩) := ⟨List.mem_of_getElem? (i := 388) rfl, rfl⟩
set_option maxRecDepth 100000 in
theorem gh_389 : gH (Cond.selects "FrameSharer" ⟨"FrameSharer", "changed", "(I)I"⟩ ⟨"FrameSharer", "changed", "(I)I"⟩) := ⟨List.mem_of_getElem? (i := 389) rfl, rfl⟩
set_option maxRecDepth 100000 in
theorem gh_390 : gH (Cond.code ⟨"FrameSharer", "changed", "(I)I"⟩ prog_1_method_15_code 4 (some FieldType.int)) := ⟨List.mem_of_getElem? (i := 390) rfl, rfl⟩
set_option maxRecDepth 100000 in
theorem gh_391 : gH (Cond.classLink "FrameSharerLaw" 67 "FrameSharerModel") := ⟨List.mem_of_getElem? (i := 391) rfl, rfl⟩
set_option maxRecDepth 100000 in
theorem gh_392 : gH (Cond.instantiable "FrameSharerModel" 7) := ⟨List.mem_of_getElem? (i := 392) rfl, rfl⟩
set_option maxRecDepth 100000 in
theorem gh_393 : gH (Cond.methodLink "FrameSharerLaw" 69 ⟨"FrameSharerModel", "<init>", "(I)V"⟩) := ⟨List.mem_of_getElem? (i := 393) rfl, rfl⟩
set_option maxRecDepth 100000 in
theorem gh_394 : gH (Cond.instanceMethod ⟨"FrameSharerModel", "<init>", "(I)V"⟩) := ⟨List.mem_of_getElem? (i := 394) rfl, rfl⟩
set_option maxRecDepth 100000 in
theorem gh_395 : gH (Cond.code ⟨"FrameSharerModel", "<init>", "(I)V"⟩ prog_3_method_1_code 2 none) := ⟨List.mem_of_getElem? (i := 395) rfl, rfl⟩
set_option maxRecDepth 100000 in
theorem gh_396 : gH (Cond.methodLink "FrameSharerModel" 1 ⟨"java/lang/Object", "<init>", "()V"⟩) := ⟨List.mem_of_getElem? (i := 396) rfl, rfl⟩
set_option maxRecDepth 100000 in
theorem gh_397 : gH (Cond.fieldLink "FrameSharerModel" 27 "FrameSharerModel" "code" "I") := ⟨List.mem_of_getElem? (i := 397) rfl, rfl⟩
set_option maxRecDepth 100000 in
theorem gh_398 : gH (Cond.fieldLink "FrameSharerModel" 23 "FrameSharerModel" "frames" "I") := ⟨List.mem_of_getElem? (i := 398) rfl, rfl⟩
set_option maxRecDepth 100000 in
theorem gh_399 : gH (Cond.fieldLink "FrameSharerModel" 63 "FrameSharerModel" "stamps" "I") := ⟨List.mem_of_getElem? (i := 399) rfl, rfl⟩
set_option maxRecDepth 100000 in
theorem gh_400 : gH (Cond.fieldLink "FrameSharerModel" 7 "FrameSharerModel" "pictured" "[Z") := ⟨List.mem_of_getElem? (i := 400) rfl, rfl⟩
set_option maxRecDepth 100000 in
theorem gh_401 : gH (Cond.fieldLink "FrameSharerModel" 13 "FrameSharerModel" "there" "[Z") := ⟨List.mem_of_getElem? (i := 401) rfl, rfl⟩
set_option maxRecDepth 100000 in
theorem gh_402 : gH (Cond.fieldLink "FrameSharerModel" 16 "FrameSharerModel" "stamp" "[I") := ⟨List.mem_of_getElem? (i := 402) rfl, rfl⟩
set_option maxRecDepth 100000 in
theorem gh_403 : gH (Cond.fieldLink "FrameSharerModel" 20 "FrameSharerModel" "cells" "[I") := ⟨List.mem_of_getElem? (i := 403) rfl, rfl⟩
set_option maxRecDepth 100000 in
theorem gh_404 : gH (Cond.lays "FrameSharerModel" "FrameSharerModel" "code" "I") := ⟨List.mem_of_getElem? (i := 404) rfl, rfl⟩
set_option maxRecDepth 100000 in
theorem gh_406 : gH (Cond.laysFinal "FrameSharerModel" "FrameSharerModel" "frames" "I") := ⟨List.mem_of_getElem? (i := 406) rfl, rfl⟩
set_option maxRecDepth 100000 in
theorem gh_408 : gH (Cond.lays "FrameSharerModel" "FrameSharerModel" "stamps" "I") := ⟨List.mem_of_getElem? (i := 408) rfl, rfl⟩
set_option maxRecDepth 100000 in
theorem gh_410 : gH (Cond.laysFinal "FrameSharerModel" "FrameSharerModel" "pictured" "[Z") := ⟨List.mem_of_getElem? (i := 410) rfl, rfl⟩
set_option maxRecDepth 100000 in
theorem gh_412 : gH (Cond.laysFinal "FrameSharerModel" "FrameSharerModel" "there" "[Z") := ⟨List.mem_of_getElem? (i := 412) rfl, rfl⟩
set_option maxRecDepth 100000 in
theorem gh_414 : gH (Cond.laysFinal "FrameSharerModel" "FrameSharerModel" "stamp" "[I") := ⟨List.mem_of_getElem? (i := 414) rfl, rfl⟩
set_option maxRecDepth 100000 in
theorem gh_416 : gH (Cond.laysFinal "FrameSharerModel" "FrameSharerModel" "cells" "[I") := ⟨List.mem_of_getElem? (i := 416) rfl, rfl⟩
set_option maxRecDepth 100000 in
theorem gh_418 : gH (Cond.superclass "FrameSharerModel" "java/lang/Object") := ⟨List.mem_of_getElem? (i := 418) rfl, rfl⟩
set_option maxRecDepth 100000 in
theorem gh_419 : gH (Cond.methodLink "FrameSharerLaw" 79 ⟨"FrameSharerModel", "thrown", "()I"⟩) := ⟨List.mem_of_getElem? (i := 419) rfl, rfl⟩
set_option maxRecDepth 100000 in
theorem gh_420 : gH (Cond.instanceMethod ⟨"FrameSharerModel", "thrown", "()I"⟩) := ⟨List.mem_of_getElem? (i := 420) rfl, rfl⟩
set_option maxRecDepth 100000 in
theorem gh_421 : gH (Cond.selects "FrameSharerModel" ⟨"FrameSharerModel", "thrown", "()I"⟩ ⟨"FrameSharerModel", "thrown", "()I"⟩) := ⟨List.mem_of_getElem? (i := 421) rfl, rfl⟩
set_option maxRecDepth 100000 in
theorem gh_422 : gH (Cond.code ⟨"FrameSharerModel", "thrown", "()I"⟩ prog_3_method_2_code 1 (some FieldType.int)) := ⟨List.mem_of_getElem? (i := 422) rfl, rfl⟩
set_option maxRecDepth 100000 in
theorem gh_423 : gH (Cond.methodLink "FrameSharerLaw" 74 ⟨"FrameSharerModel", "open", "()I"⟩) := ⟨List.mem_of_getElem? (i := 423) rfl, rfl⟩
set_option maxRecDepth 100000 in
theorem gh_424 : gH (Cond.instanceMethod ⟨"FrameSharerModel", "open", "()I"⟩) := ⟨List.mem_of_getElem? (i := 424) rfl, rfl⟩
set_option maxRecDepth 100000 in
theorem gh_425 : gH (Cond.selects "FrameSharerModel" ⟨"FrameSharerModel", "open", "()I"⟩ ⟨"FrameSharerModel", "open", "()I"⟩) := ⟨List.mem_of_getElem? (i := 425) rfl, rfl⟩
set_option maxRecDepth 100000 in
theorem gh_426 : gH (Cond.code ⟨"FrameSharerModel", "open", "()I"⟩ prog_3_method_14_code 2 (some FieldType.int)) := ⟨List.mem_of_getElem? (i := 426) rfl, rfl⟩
set_option maxRecDepth 100000 in
theorem gh_427 : gH (Cond.methodLink "FrameSharerModel" 38 ⟨"FrameSharerModel", "free", "()I"⟩) := ⟨List.mem_of_getElem? (i := 427) rfl, rfl⟩
set_option maxRecDepth 100000 in
theorem gh_429 : gH (Cond.instanceMethod ⟨"FrameSharerModel", "free", "()I"⟩) := ⟨List.mem_of_getElem? (i := 429) rfl, rfl⟩
set_option maxRecDepth 100000 in
theorem gh_430 : gH (Cond.code ⟨"FrameSharerModel", "free", "()I"⟩ prog_3_method_12_code 2 (some FieldType.int)) := ⟨List.mem_of_getElem? (i := 430) rfl, rfl⟩
set_option maxRecDepth 100000 in
theorem gh_431 : gH (Cond.methodLink "FrameSharerLaw" 78 ⟨"FrameSharerModel", "fork", "(I)I"⟩) := ⟨List.mem_of_getElem? (i := 431) rfl, rfl⟩
set_option maxRecDepth 100000 in
theorem gh_432 : gH (Cond.instanceMethod ⟨"FrameSharerModel", "fork", "(I)I"⟩) := ⟨List.mem_of_getElem? (i := 432) rfl, rfl⟩
set_option maxRecDepth 100000 in
theorem gh_433 : gH (Cond.selects "FrameSharerModel" ⟨"FrameSharerModel", "fork", "(I)I"⟩ ⟨"FrameSharerModel", "fork", "(I)I"⟩) := ⟨List.mem_of_getElem? (i := 433) rfl, rfl⟩
set_option maxRecDepth 100000 in
theorem gh_434 : gH (Cond.code ⟨"FrameSharerModel", "fork", "(I)I"⟩ prog_3_method_15_code 4 (some FieldType.int)) := ⟨List.mem_of_getElem? (i := 434) rfl, rfl⟩
set_option maxRecDepth 100000 in
theorem gh_435 : gH (Cond.methodLink "FrameSharerModel" 42 ⟨"FrameSharerModel", "isSpace", "(I)Z"⟩) := ⟨List.mem_of_getElem? (i := 435) rfl, rfl⟩
set_option maxRecDepth 100000 in
theorem gh_437 : gH (Cond.instanceMethod ⟨"FrameSharerModel", "isSpace", "(I)Z"⟩) := ⟨List.mem_of_getElem? (i := 437) rfl, rfl⟩
set_option maxRecDepth 100000 in
theorem gh_438 : gH (Cond.code ⟨"FrameSharerModel", "isSpace", "(I)Z"⟩ prog_3_method_4_code 2 (some FieldType.boolean)) := ⟨List.mem_of_getElem? (i := 438) rfl, rfl⟩
set_option maxRecDepth 100000 in
theorem gh_439 : gH (Cond.methodLink "FrameSharerModel" 46 ⟨"FrameSharerModel", "fails", "(ZZZ)Z"⟩) := ⟨List.mem_of_getElem? (i := 439) rfl, rfl⟩
set_option maxRecDepth 100000 in
theorem gh_441 : gH (Cond.instanceMethod ⟨"FrameSharerModel", "fails", "(ZZZ)Z"⟩) := ⟨List.mem_of_getElem? (i := 441) rfl, rfl⟩
set_option maxRecDepth 100000 in
theorem gh_442 : gH (Cond.code ⟨"FrameSharerModel", "fails", "(ZZZ)Z"⟩ prog_3_method_6_code 4 (some FieldType.boolean)) := ⟨List.mem_of_getElem? (i := 442) rfl, rfl⟩
set_option maxRecDepth 100000 in
theorem gh_443 : gH (Cond.methodLink "FrameSharerModel" 34 ⟨"FrameSharerModel", "page", "(III)I"⟩) := ⟨List.mem_of_getElem? (i := 443) rfl, rfl⟩
set_option maxRecDepth 100000 in
theorem gh_444 : gH (Cond.static ⟨"FrameSharerModel", "page", "(III)I"⟩) := ⟨List.mem_of_getElem? (i := 444) rfl, rfl⟩
set_option maxRecDepth 100000 in
theorem gh_445 : gH (Cond.code ⟨"FrameSharerModel", "page", "(III)I"⟩ prog_3_method_3_code 3 (some FieldType.int)) := ⟨List.mem_of_getElem? (i := 445) rfl, rfl⟩
set_option maxRecDepth 100000 in
theorem gh_446 : gH (Cond.methodLink "FrameSharerModel" 30 ⟨"FrameSharerModel", "copyPage", "(II)V"⟩) := ⟨List.mem_of_getElem? (i := 446) rfl, rfl⟩
set_option maxRecDepth 100000 in
theorem gh_448 : gH (Cond.instanceMethod ⟨"FrameSharerModel", "copyPage", "(II)V"⟩) := ⟨List.mem_of_getElem? (i := 448) rfl, rfl⟩
set_option maxRecDepth 100000 in
theorem gh_449 : gH (Cond.code ⟨"FrameSharerModel", "copyPage", "(II)V"⟩ prog_3_method_9_code 4 none) := ⟨List.mem_of_getElem? (i := 449) rfl, rfl⟩
set_option maxRecDepth 100000 in
theorem gh_450 : gH (Cond.methodLink "FrameSharerLaw" 84 ⟨"FrameSharerModel", "close", "(I)I"⟩) := ⟨List.mem_of_getElem? (i := 450) rfl, rfl⟩
set_option maxRecDepth 100000 in
theorem gh_451 : gH (Cond.instanceMethod ⟨"FrameSharerModel", "close", "(I)I"⟩) := ⟨List.mem_of_getElem? (i := 451) rfl, rfl⟩
set_option maxRecDepth 100000 in
theorem gh_452 : gH (Cond.selects "FrameSharerModel" ⟨"FrameSharerModel", "close", "(I)I"⟩ ⟨"FrameSharerModel", "close", "(I)I"⟩) := ⟨List.mem_of_getElem? (i := 452) rfl, rfl⟩
set_option maxRecDepth 100000 in
theorem gh_453 : gH (Cond.code ⟨"FrameSharerModel", "close", "(I)I"⟩ prog_3_method_16_code 3 (some FieldType.int)) := ⟨List.mem_of_getElem? (i := 453) rfl, rfl⟩
set_option maxRecDepth 100000 in
theorem gh_454 : gH (Cond.methodLink "FrameSharerModel" 50 ⟨"FrameSharerModel", "pagesOf", "(I)I"⟩) := ⟨List.mem_of_getElem? (i := 454) rfl, rfl⟩
set_option maxRecDepth 100000 in
theorem gh_456 : gH (Cond.instanceMethod ⟨"FrameSharerModel", "pagesOf", "(I)I"⟩) := ⟨List.mem_of_getElem? (i := 456) rfl, rfl⟩
set_option maxRecDepth 100000 in
theorem gh_457 : gH (Cond.code ⟨"FrameSharerModel", "pagesOf", "(I)I"⟩ prog_3_method_13_code 4 (some FieldType.int)) := ⟨List.mem_of_getElem? (i := 457) rfl, rfl⟩
set_option maxRecDepth 100000 in
theorem gh_458 : gH (Cond.methodLink "FrameSharerModel" 54 ⟨"FrameSharerModel", "empty", "(II)V"⟩) := ⟨List.mem_of_getElem? (i := 458) rfl, rfl⟩
set_option maxRecDepth 100000 in
theorem gh_460 : gH (Cond.instanceMethod ⟨"FrameSharerModel", "empty", "(II)V"⟩) := ⟨List.mem_of_getElem? (i := 460) rfl, rfl⟩
set_option maxRecDepth 100000 in
theorem gh_461 : gH (Cond.code ⟨"FrameSharerModel", "empty", "(II)V"⟩ prog_3_method_11_code 4 none) := ⟨List.mem_of_getElem? (i := 461) rfl, rfl⟩
set_option maxRecDepth 100000 in
theorem gh_462 : gH (Cond.methodLink "FrameSharerLaw" 88 ⟨"FrameSharerModel", "map", "(III)Z"⟩) := ⟨List.mem_of_getElem? (i := 462) rfl, rfl⟩
set_option maxRecDepth 100000 in
theorem gh_463 : gH (Cond.instanceMethod ⟨"FrameSharerModel", "map", "(III)Z"⟩) := ⟨List.mem_of_getElem? (i := 463) rfl, rfl⟩
set_option maxRecDepth 100000 in
theorem gh_464 : gH (Cond.selects "FrameSharerModel" ⟨"FrameSharerModel", "map", "(III)Z"⟩ ⟨"FrameSharerModel", "map", "(III)Z"⟩) := ⟨List.mem_of_getElem? (i := 464) rfl, rfl⟩
set_option maxRecDepth 100000 in
theorem gh_465 : gH (Cond.code ⟨"FrameSharerModel", "map", "(III)Z"⟩ prog_3_method_17_code 7 (some FieldType.boolean)) := ⟨List.mem_of_getElem? (i := 465) rfl, rfl⟩
set_option maxRecDepth 100000 in
theorem gh_466 : gH (Cond.methodLink "FrameSharerModel" 57 ⟨"FrameSharerModel", "isPage", "(I)Z"⟩) := ⟨List.mem_of_getElem? (i := 466) rfl, rfl⟩
set_option maxRecDepth 100000 in
theorem gh_467 : gH (Cond.static ⟨"FrameSharerModel", "isPage", "(I)Z"⟩) := ⟨List.mem_of_getElem? (i := 467) rfl, rfl⟩
set_option maxRecDepth 100000 in
theorem gh_468 : gH (Cond.code ⟨"FrameSharerModel", "isPage", "(I)Z"⟩ prog_3_method_5_code 1 (some FieldType.boolean)) := ⟨List.mem_of_getElem? (i := 468) rfl, rfl⟩
set_option maxRecDepth 100000 in
theorem gh_469 : gH (Cond.methodLink "FrameSharerModel" 60 ⟨"FrameSharerModel", "used", "()I"⟩) := ⟨List.mem_of_getElem? (i := 469) rfl, rfl⟩
set_option maxRecDepth 100000 in
theorem gh_471 : gH (Cond.instanceMethod ⟨"FrameSharerModel", "used", "()I"⟩) := ⟨List.mem_of_getElem? (i := 471) rfl, rfl⟩
set_option maxRecDepth 100000 in
theorem gh_472 : gH (Cond.code ⟨"FrameSharerModel", "used", "()I"⟩ prog_3_method_8_code 5 (some FieldType.int)) := ⟨List.mem_of_getElem? (i := 472) rfl, rfl⟩
set_option maxRecDepth 100000 in
theorem gh_473 : gH (Cond.methodLink "FrameSharerLaw" 92 ⟨"FrameSharerModel", "unmap", "(II)Z"⟩) := ⟨List.mem_of_getElem? (i := 473) rfl, rfl⟩
set_option maxRecDepth 100000 in
theorem gh_474 : gH (Cond.instanceMethod ⟨"FrameSharerModel", "unmap", "(II)Z"⟩) := ⟨List.mem_of_getElem? (i := 474) rfl, rfl⟩
set_option maxRecDepth 100000 in
theorem gh_475 : gH (Cond.selects "FrameSharerModel" ⟨"FrameSharerModel", "unmap", "(II)Z"⟩ ⟨"FrameSharerModel", "unmap", "(II)Z"⟩) := ⟨List.mem_of_getElem? (i := 475) rfl, rfl⟩
set_option maxRecDepth 100000 in
theorem gh_476 : gH (Cond.code ⟨"FrameSharerModel", "unmap", "(II)Z"⟩ prog_3_method_18_code 5 (some FieldType.boolean)) := ⟨List.mem_of_getElem? (i := 476) rfl, rfl⟩
set_option maxRecDepth 100000 in
theorem gh_477 : gH (Cond.methodLink "FrameSharerLaw" 95 ⟨"FrameSharerModel", "read", "(II)I"⟩) := ⟨List.mem_of_getElem? (i := 477) rfl, rfl⟩
set_option maxRecDepth 100000 in
theorem gh_478 : gH (Cond.instanceMethod ⟨"FrameSharerModel", "read", "(II)I"⟩) := ⟨List.mem_of_getElem? (i := 478) rfl, rfl⟩
set_option maxRecDepth 100000 in
theorem gh_479 : gH (Cond.selects "FrameSharerModel" ⟨"FrameSharerModel", "read", "(II)I"⟩ ⟨"FrameSharerModel", "read", "(II)I"⟩) := ⟨List.mem_of_getElem? (i := 479) rfl, rfl⟩
set_option maxRecDepth 100000 in
theorem gh_480 : gH (Cond.code ⟨"FrameSharerModel", "read", "(II)I"⟩ prog_3_method_20_code 4 (some FieldType.int)) := ⟨List.mem_of_getElem? (i := 480) rfl, rfl⟩
set_option maxRecDepth 100000 in
theorem gh_481 : gH (Cond.methodLink "FrameSharerModel" 66 ⟨"FrameSharerModel", "cell", "(II)I"⟩) := ⟨List.mem_of_getElem? (i := 481) rfl, rfl⟩
set_option maxRecDepth 100000 in
theorem gh_483 : gH (Cond.instanceMethod ⟨"FrameSharerModel", "cell", "(II)I"⟩) := ⟨List.mem_of_getElem? (i := 483) rfl, rfl⟩
set_option maxRecDepth 100000 in
theorem gh_484 : gH (Cond.code ⟨"FrameSharerModel", "cell", "(II)I"⟩ prog_3_method_19_code 6 (some FieldType.int)) := ⟨List.mem_of_getElem? (i := 484) rfl, rfl⟩
set_option maxRecDepth 100000 in
theorem gh_485 : gH (Cond.methodLink "FrameSharerLaw" 98 ⟨"FrameSharerModel", "write", "(III)I"⟩) := ⟨List.mem_of_getElem? (i := 485) rfl, rfl⟩
set_option maxRecDepth 100000 in
theorem gh_486 : gH (Cond.instanceMethod ⟨"FrameSharerModel", "write", "(III)I"⟩) := ⟨List.mem_of_getElem? (i := 486) rfl, rfl⟩
set_option maxRecDepth 100000 in
theorem gh_487 : gH (Cond.selects "FrameSharerModel" ⟨"FrameSharerModel", "write", "(III)I"⟩ ⟨"FrameSharerModel", "write", "(III)I"⟩) := ⟨List.mem_of_getElem? (i := 487) rfl, rfl⟩
set_option maxRecDepth 100000 in
theorem gh_488 : gH (Cond.code ⟨"FrameSharerModel", "write", "(III)I"⟩ prog_3_method_21_code 8 (some FieldType.int)) := ⟨List.mem_of_getElem? (i := 488) rfl, rfl⟩
set_option maxRecDepth 100000 in
theorem gh_489 : gH (Cond.methodLink "FrameSharerModel" 70 ⟨"FrameSharerModel", "holdersOf", "(I)I"⟩) := ⟨List.mem_of_getElem? (i := 489) rfl, rfl⟩
set_option maxRecDepth 100000 in
theorem gh_491 : gH (Cond.instanceMethod ⟨"FrameSharerModel", "holdersOf", "(I)I"⟩) := ⟨List.mem_of_getElem? (i := 491) rfl, rfl⟩
set_option maxRecDepth 100000 in
theorem gh_492 : gH (Cond.code ⟨"FrameSharerModel", "holdersOf", "(I)I"⟩ prog_3_method_7_code 4 (some FieldType.int)) := ⟨List.mem_of_getElem? (i := 492) rfl, rfl⟩
set_option maxRecDepth 100000 in
theorem gh_493 : gH (Cond.methodLink "FrameSharerLaw" 102 ⟨"FrameSharerModel", "lend", "(IIII)Z"⟩) := ⟨List.mem_of_getElem? (i := 493) rfl, rfl⟩
set_option maxRecDepth 100000 in
theorem gh_494 : gH (Cond.instanceMethod ⟨"FrameSharerModel", "lend", "(IIII)Z"⟩) := ⟨List.mem_of_getElem? (i := 494) rfl, rfl⟩
set_option maxRecDepth 100000 in
theorem gh_495 : gH (Cond.selects "FrameSharerModel" ⟨"FrameSharerModel", "lend", "(IIII)Z"⟩ ⟨"FrameSharerModel", "lend", "(IIII)Z"⟩) := ⟨List.mem_of_getElem? (i := 495) rfl, rfl⟩
set_option maxRecDepth 100000 in
theorem gh_496 : gH (Cond.code ⟨"FrameSharerModel", "lend", "(IIII)Z"⟩ prog_3_method_23_code 7 (some FieldType.boolean)) := ⟨List.mem_of_getElem? (i := 496) rfl, rfl⟩
set_option maxRecDepth 100000 in
theorem gh_497 : gH (Cond.methodLink "FrameSharerModel" 73 ⟨"FrameSharerModel", "areFaulty", "(IIII)Z"⟩) := ⟨List.mem_of_getElem? (i := 497) rfl, rfl⟩
set_option maxRecDepth 100000 in
theorem gh_499 : gH (Cond.instanceMethod ⟨"FrameSharerModel", "areFaulty", "(IIII)Z"⟩) := ⟨List.mem_of_getElem? (i := 499) rfl, rfl⟩
set_option maxRecDepth 100000 in
theorem gh_500 : gH (Cond.code ⟨"FrameSharerModel", "areFaulty", "(IIII)Z"⟩ prog_3_method_22_code 5 (some FieldType.boolean)) := ⟨List.mem_of_getElem? (i := 500) rfl, rfl⟩
set_option maxRecDepth 100000 in
theorem gh_501 : gH (Cond.methodLink "FrameSharerLaw" 105 ⟨"FrameSharerModel", "join", "(IIII)I"⟩) := ⟨List.mem_of_getElem? (i := 501) rfl, rfl⟩
set_option maxRecDepth 100000 in
theorem gh_502 : gH (Cond.instanceMethod ⟨"FrameSharerModel", "join", "(IIII)I"⟩) := ⟨List.mem_of_getElem? (i := 502) rfl, rfl⟩
set_option maxRecDepth 100000 in
theorem gh_503 : gH (Cond.selects "FrameSharerModel" ⟨"FrameSharerModel", "join", "(IIII)I"⟩ ⟨"FrameSharerModel", "join", "(IIII)I"⟩) := ⟨List.mem_of_getElem? (i := 503) rfl, rfl⟩
set_option maxRecDepth 100000 in
theorem gh_504 : gH (Cond.code ⟨"FrameSharerModel", "join", "(IIII)I"⟩ prog_3_method_24_code 11 (some FieldType.int)) := ⟨List.mem_of_getElem? (i := 504) rfl, rfl⟩
set_option maxRecDepth 100000 in
theorem gh_505 : gH (Cond.methodLink "FrameSharerLaw" 109 ⟨"FrameSharerModel", "take", "()I"⟩) := ⟨List.mem_of_getElem? (i := 505) rfl, rfl⟩
set_option maxRecDepth 100000 in
theorem gh_506 : gH (Cond.instanceMethod ⟨"FrameSharerModel", "take", "()I"⟩) := ⟨List.mem_of_getElem? (i := 506) rfl, rfl⟩
set_option maxRecDepth 100000 in
theorem gh_507 : gH (Cond.selects "FrameSharerModel" ⟨"FrameSharerModel", "take", "()I"⟩ ⟨"FrameSharerModel", "take", "()I"⟩) := ⟨List.mem_of_getElem? (i := 507) rfl, rfl⟩
set_option maxRecDepth 100000 in
theorem gh_508 : gH (Cond.code ⟨"FrameSharerModel", "take", "()I"⟩ prog_3_method_25_code 2 (some FieldType.int)) := ⟨List.mem_of_getElem? (i := 508) rfl, rfl⟩
set_option maxRecDepth 100000 in
theorem gh_509 : gH (Cond.methodLink "FrameSharerModel" 77 ⟨"FrameSharerModel", "copyRow", "(II)V"⟩) := ⟨List.mem_of_getElem? (i := 509) rfl, rfl⟩
set_option maxRecDepth 100000 in
theorem gh_511 : gH (Cond.instanceMethod ⟨"FrameSharerModel", "copyRow", "(II)V"⟩) := ⟨List.mem_of_getElem? (i := 511) rfl, rfl⟩
set_option maxRecDepth 100000 in
theorem gh_512 : gH (Cond.code ⟨"FrameSharerModel", "copyRow", "(II)V"⟩ prog_3_method_10_code 4 none) := ⟨List.mem_of_getElem? (i := 512) rfl, rfl⟩
set_option maxRecDepth 100000 in
theorem gh_513 : gH (Cond.methodLink "FrameSharerLaw" 112 ⟨"FrameSharerModel", "back", "(I)I"⟩) := ⟨List.mem_of_getElem? (i := 513) rfl, rfl⟩
set_option maxRecDepth 100000 in
theorem gh_514 : gH (Cond.instanceMethod ⟨"FrameSharerModel", "back", "(I)I"⟩) := ⟨List.mem_of_getElem? (i := 514) rfl, rfl⟩
set_option maxRecDepth 100000 in
theorem gh_515 : gH (Cond.selects "FrameSharerModel" ⟨"FrameSharerModel", "back", "(I)I"⟩ ⟨"FrameSharerModel", "back", "(I)I"⟩) := ⟨List.mem_of_getElem? (i := 515) rfl, rfl⟩
set_option maxRecDepth 100000 in
theorem gh_516 : gH (Cond.code ⟨"FrameSharerModel", "back", "(I)I"⟩ prog_3_method_28_code 2 (some FieldType.int)) := ⟨List.mem_of_getElem? (i := 516) rfl, rfl⟩
set_option maxRecDepth 100000 in
theorem gh_517 : gH (Cond.methodLink "FrameSharerModel" 80 ⟨"FrameSharerModel", "isPicture", "(I)Z"⟩) := ⟨List.mem_of_getElem? (i := 517) rfl, rfl⟩
set_option maxRecDepth 100000 in
theorem gh_519 : gH (Cond.instanceMethod ⟨"FrameSharerModel", "isPicture", "(I)Z"⟩) := ⟨List.mem_of_getElem? (i := 519) rfl, rfl⟩
set_option maxRecDepth 100000 in
theorem gh_520 : gH (Cond.code ⟨"FrameSharerModel", "isPicture", "(I)Z"⟩ prog_3_method_26_code 2 (some FieldType.boolean)) := ⟨List.mem_of_getElem? (i := 520) rfl, rfl⟩
set_option maxRecDepth 100000 in
theorem gh_521 : gH (Cond.methodLink "FrameSharerModel" 83 ⟨"FrameSharerModel", "spaces", "()I"⟩) := ⟨List.mem_of_getElem? (i := 521) rfl, rfl⟩
set_option maxRecDepth 100000 in
theorem gh_523 : gH (Cond.instanceMethod ⟨"FrameSharerModel", "spaces", "()I"⟩) := ⟨List.mem_of_getElem? (i := 523) rfl, rfl⟩
set_option maxRecDepth 100000 in
theorem gh_524 : gH (Cond.code ⟨"FrameSharerModel", "spaces", "()I"⟩ prog_3_method_27_code 3 (some FieldType.int)) := ⟨List.mem_of_getElem? (i := 524) rfl, rfl⟩
set_option maxRecDepth 100000 in
theorem gh_525 : gH (Cond.methodLink "FrameSharerLaw" 115 ⟨"FrameSharerModel", "drop", "(I)I"⟩) := ⟨List.mem_of_getElem? (i := 525) rfl, rfl⟩
set_option maxRecDepth 100000 in
theorem gh_526 : gH (Cond.instanceMethod ⟨"FrameSharerModel", "drop", "(I)I"⟩) := ⟨List.mem_of_getElem? (i := 526) rfl, rfl⟩
set_option maxRecDepth 100000 in
theorem gh_527 : gH (Cond.selects "FrameSharerModel" ⟨"FrameSharerModel", "drop", "(I)I"⟩ ⟨"FrameSharerModel", "drop", "(I)I"⟩) := ⟨List.mem_of_getElem? (i := 527) rfl, rfl⟩
set_option maxRecDepth 100000 in
theorem gh_528 : gH (Cond.code ⟨"FrameSharerModel", "drop", "(I)I"⟩ prog_3_method_29_code 4 (some FieldType.int)) := ⟨List.mem_of_getElem? (i := 528) rfl, rfl⟩
set_option maxRecDepth 100000 in
theorem gh_529 : gH (Cond.methodLink "FrameSharerLaw" 118 ⟨"FrameSharerModel", "holders", "(II)I"⟩) := ⟨List.mem_of_getElem? (i := 529) rfl, rfl⟩
set_option maxRecDepth 100000 in
theorem gh_530 : gH (Cond.instanceMethod ⟨"FrameSharerModel", "holders", "(II)I"⟩) := ⟨List.mem_of_getElem? (i := 530) rfl, rfl⟩
set_option maxRecDepth 100000 in
theorem gh_531 : gH (Cond.selects "FrameSharerModel" ⟨"FrameSharerModel", "holders", "(II)I"⟩ ⟨"FrameSharerModel", "holders", "(II)I"⟩) := ⟨List.mem_of_getElem? (i := 531) rfl, rfl⟩
set_option maxRecDepth 100000 in
theorem gh_532 : gH (Cond.code ⟨"FrameSharerModel", "holders", "(II)I"⟩ prog_3_method_30_code 3 (some FieldType.int)) := ⟨List.mem_of_getElem? (i := 532) rfl, rfl⟩
set_option maxRecDepth 100000 in
theorem gh_533 : gH (Cond.methodLink "FrameSharerLaw" 121 ⟨"FrameSharerModel", "changed", "(I)I"⟩) := ⟨List.mem_of_getElem? (i := 533) rfl, rfl⟩
set_option maxRecDepth 100000 in
theorem gh_534 : gH (Cond.instanceMethod ⟨"FrameSharerModel", "changed", "(I)I"⟩) := ⟨List.mem_of_getElem? (i := 534) rfl, rfl⟩
set_option maxRecDepth 100000 in
theorem gh_535 : gH (Cond.selects "FrameSharerModel" ⟨"FrameSharerModel", "changed", "(I)I"⟩ ⟨"FrameSharerModel", "changed", "(I)I"⟩) := ⟨List.mem_of_getElem? (i := 535) rfl, rfl⟩
set_option maxRecDepth 100000 in
theorem gh_536 : gH (Cond.code ⟨"FrameSharerModel", "changed", "(I)I"⟩ prog_3_method_31_code 4 (some FieldType.int)) := ⟨List.mem_of_getElem? (i := 536) rfl, rfl⟩
set_option maxRecDepth 100000 in
theorem gh_537 : gH (Cond.methodLink "FrameSharerLaw" 125 ⟨"FrameSharerModel", "count", "(I)I"⟩) := ⟨List.mem_of_getElem? (i := 537) rfl, rfl⟩
set_option maxRecDepth 100000 in
theorem gh_538 : gH (Cond.instanceMethod ⟨"FrameSharerModel", "count", "(I)I"⟩) := ⟨List.mem_of_getElem? (i := 538) rfl, rfl⟩
set_option maxRecDepth 100000 in
theorem gh_539 : gH (Cond.selects "FrameSharerModel" ⟨"FrameSharerModel", "count", "(I)I"⟩ ⟨"FrameSharerModel", "count", "(I)I"⟩) := ⟨List.mem_of_getElem? (i := 539) rfl, rfl⟩
set_option maxRecDepth 100000 in
theorem gh_540 : gH (Cond.code ⟨"FrameSharerModel", "count", "(I)I"⟩ prog_3_method_32_code 4 (some FieldType.int)) := ⟨List.mem_of_getElem? (i := 540) rfl, rfl⟩
set_option maxRecDepth 100000 in
theorem gh_541 : gH (Cond.methodLink "FrameSharerLaw" 130 ⟨"FrameSharerModel", "isThere", "(I)Z"⟩) := ⟨List.mem_of_getElem? (i := 541) rfl, rfl⟩
set_option maxRecDepth 100000 in
theorem gh_542 : gH (Cond.instanceMethod ⟨"FrameSharerModel", "isThere", "(I)Z"⟩) := ⟨List.mem_of_getElem? (i := 542) rfl, rfl⟩
set_option maxRecDepth 100000 in
theorem gh_543 : gH (Cond.selects "FrameSharerModel" ⟨"FrameSharerModel", "isThere", "(I)Z"⟩ ⟨"FrameSharerModel", "isThere", "(I)Z"⟩) := ⟨List.mem_of_getElem? (i := 543) rfl, rfl⟩
set_option maxRecDepth 100000 in
theorem gh_544 : gH (Cond.code ⟨"FrameSharerModel", "isThere", "(I)Z"⟩ prog_3_method_33_code 2 (some FieldType.boolean)) := ⟨List.mem_of_getElem? (i := 544) rfl, rfl⟩
set_option maxRecDepth 100000 in
theorem gh_545 : gH (Cond.arrayClass FieldType.long) := ⟨List.mem_of_getElem? (i := 545) rfl, rfl⟩
set_option maxRecDepth 100000 in
theorem gh_546 : gH (Cond.sameMethod "java/lang/Throwable" "java/lang/Throwable" "fillInStackTrace" "(I)Ljava/lang/Throwable;") := ⟨List.mem_of_getElem? (i := 546) rfl, rfl⟩
theorem hwX : ∀ w ∈ u_ws "FrameSharer" TX 6, w ∈ lw_tbl ∧ gGood w = true := by
  have h : u_ws "FrameSharer" TX 6 = [Cond.laysFinal "FrameSharer" "FrameSharer" "frameTotal" "I", Cond.laysFinal "FrameSharer" "FrameSharer" "cells" "[I", Cond.laysFinal "FrameSharer" "FrameSharer" "holdersOfFrame" "[I", Cond.laysFinal "FrameSharer" "FrameSharer" "frameOfHolder" "[I", Cond.laysFinal "FrameSharer" "FrameSharer" "spaceInRow" "[Z", Cond.laysFinal "FrameSharer" "FrameSharer" "pictureThere" "[Z"] := rfl
  rw [h]
  intro w hw
  simp only [List.mem_cons, List.not_mem_nil, or_false] at hw
  rcases hw with rfl | rfl | rfl | rfl | rfl | rfl
  · exact gh_70
  · exact gh_72
  · exact gh_74
  · exact gh_76
  · exact gh_78
  · exact gh_80
theorem lkX_18 : Cond.fieldLink "FrameSharer" 18 (TX 0).1 (TX 0).2.1 (TX 0).2.2.1 ∈ lw_tbl ∧ gGood (Cond.fieldLink "FrameSharer" 18 (TX 0).1 (TX 0).2.1 (TX 0).2.2.1) = true := gh_64
theorem lkX_22 : Cond.fieldLink "FrameSharer" 22 (TX 1).1 (TX 1).2.1 (TX 1).2.2.1 ∈ lw_tbl ∧ gGood (Cond.fieldLink "FrameSharer" 22 (TX 1).1 (TX 1).2.1 (TX 1).2.2.1) = true := gh_65
theorem lkX_26 : Cond.fieldLink "FrameSharer" 26 (TX 2).1 (TX 2).2.1 (TX 2).2.2.1 ∈ lw_tbl ∧ gGood (Cond.fieldLink "FrameSharer" 26 (TX 2).1 (TX 2).2.1 (TX 2).2.2.1) = true := gh_66
theorem lkX_29 : Cond.fieldLink "FrameSharer" 29 (TX 3).1 (TX 3).2.1 (TX 3).2.2.1 ∈ lw_tbl ∧ gGood (Cond.fieldLink "FrameSharer" 29 (TX 3).1 (TX 3).2.1 (TX 3).2.2.1) = true := gh_67
theorem lkX_38 : Cond.fieldLink "FrameSharer" 38 (TX 4).1 (TX 4).2.1 (TX 4).2.2.1 ∈ lw_tbl ∧ gGood (Cond.fieldLink "FrameSharer" 38 (TX 4).1 (TX 4).2.1 (TX 4).2.2.1) = true := gh_68
theorem lkX_42 : Cond.fieldLink "FrameSharer" 42 (TX 5).1 (TX 5).2.1 (TX 5).2.2.1 ∈ lw_tbl ∧ gGood (Cond.fieldLink "FrameSharer" 42 (TX 5).1 (TX 5).2.1 (TX 5).2.2.1) = true := gh_69
theorem hwY : ∀ w ∈ u_ws "FrameSharerModel" TY 7, w ∈ lw_tbl ∧ gGood w = true := by
  have h : u_ws "FrameSharerModel" TY 7 = [Cond.lays "FrameSharerModel" "FrameSharerModel" "code" "I", Cond.laysFinal "FrameSharerModel" "FrameSharerModel" "frames" "I", Cond.lays "FrameSharerModel" "FrameSharerModel" "stamps" "I", Cond.laysFinal "FrameSharerModel" "FrameSharerModel" "pictured" "[Z", Cond.laysFinal "FrameSharerModel" "FrameSharerModel" "there" "[Z", Cond.laysFinal "FrameSharerModel" "FrameSharerModel" "stamp" "[I", Cond.laysFinal "FrameSharerModel" "FrameSharerModel" "cells" "[I"] := rfl
  rw [h]
  intro w hw
  simp only [List.mem_cons, List.not_mem_nil, or_false] at hw
  rcases hw with rfl | rfl | rfl | rfl | rfl | rfl | rfl
  · exact gh_404
  · exact gh_406
  · exact gh_408
  · exact gh_410
  · exact gh_412
  · exact gh_414
  · exact gh_416
theorem lkY_27 : Cond.fieldLink "FrameSharerModel" 27 (TY 0).1 (TY 0).2.1 (TY 0).2.2.1 ∈ lw_tbl ∧ gGood (Cond.fieldLink "FrameSharerModel" 27 (TY 0).1 (TY 0).2.1 (TY 0).2.2.1) = true := gh_397
theorem lkY_23 : Cond.fieldLink "FrameSharerModel" 23 (TY 1).1 (TY 1).2.1 (TY 1).2.2.1 ∈ lw_tbl ∧ gGood (Cond.fieldLink "FrameSharerModel" 23 (TY 1).1 (TY 1).2.1 (TY 1).2.2.1) = true := gh_398
theorem lkY_63 : Cond.fieldLink "FrameSharerModel" 63 (TY 2).1 (TY 2).2.1 (TY 2).2.2.1 ∈ lw_tbl ∧ gGood (Cond.fieldLink "FrameSharerModel" 63 (TY 2).1 (TY 2).2.1 (TY 2).2.2.1) = true := gh_399
theorem lkY_7 : Cond.fieldLink "FrameSharerModel" 7 (TY 3).1 (TY 3).2.1 (TY 3).2.2.1 ∈ lw_tbl ∧ gGood (Cond.fieldLink "FrameSharerModel" 7 (TY 3).1 (TY 3).2.1 (TY 3).2.2.1) = true := gh_400
theorem lkY_13 : Cond.fieldLink "FrameSharerModel" 13 (TY 4).1 (TY 4).2.1 (TY 4).2.2.1 ∈ lw_tbl ∧ gGood (Cond.fieldLink "FrameSharerModel" 13 (TY 4).1 (TY 4).2.1 (TY 4).2.2.1) = true := gh_401
theorem lkY_16 : Cond.fieldLink "FrameSharerModel" 16 (TY 5).1 (TY 5).2.1 (TY 5).2.2.1 ∈ lw_tbl ∧ gGood (Cond.fieldLink "FrameSharerModel" 16 (TY 5).1 (TY 5).2.1 (TY 5).2.2.1) = true := gh_402
theorem lkY_20 : Cond.fieldLink "FrameSharerModel" 20 (TY 6).1 (TY 6).2.1 (TY 6).2.2.1 ∈ lw_tbl ∧ gGood (Cond.fieldLink "FrameSharerModel" 20 (TY 6).1 (TY 6).2.1 (TY 6).2.2.1) = true := gh_403
theorem clL_8 : gH (.classLink "FrameSharerLaw" 8 "FrameSharer") := gh_47
theorem lmL_64 : gH (.methodLink "FrameSharerLaw" 64 ⟨"FrameSharer", "<init>", "(I)V"⟩) := gh_49
theorem lmX_3 : gH (.methodLink "FrameSharer" 3 ⟨"java/lang/Object", "<init>", "()V"⟩) := gh_52
theorem lmX_9 : gH (.methodLink "FrameSharer" 9 ⟨"java/lang/Math", "min", "(II)I"⟩) := gh_55
theorem lmX_15 : gH (.methodLink "FrameSharer" 15 ⟨"java/lang/Math", "max", "(II)I"⟩) := gh_58
theorem lmX_32 : gH (.methodLink "FrameSharer" 32 ⟨"java/util/Arrays", "fill", "([II)V"⟩) := gh_61
theorem lmL_70 : gH (.methodLink "FrameSharerLaw" 70 ⟨"FrameSharer", "open", "()I"⟩) := gh_85
theorem lmX_45 : gH (.methodLink "FrameSharer" 45 ⟨"FrameSharer", "leastMissingSpace", "()I"⟩) := gh_89
theorem lmX_49 : gH (.methodLink "FrameSharer" 49 ⟨"FrameSharer", "spaceIndex", "(II)I"⟩) := gh_93
theorem lmL_106 : gH (.methodLink "FrameSharerLaw" 106 ⟨"FrameSharer", "take", "()I"⟩) := gh_96
theorem lmX_100 : gH (.methodLink "FrameSharer" 100 ⟨"FrameSharer", "leastMissingPicture", "()I"⟩) := gh_100
theorem lmX_103 : gH (.methodLink "FrameSharer" 103 ⟨"FrameSharer", "copyRow", "(II)V"⟩) := gh_104
theorem lmX_59 : gH (.methodLink "FrameSharer" 59 ⟨"FrameSharer", "standIn", "(II)V"⟩) := gh_108
theorem lmX_70 : gH (.methodLink "FrameSharer" 70 ⟨"FrameSharer", "isFrame", "(I)Z"⟩) := gh_112
theorem lmL_122 : gH (.methodLink "FrameSharerLaw" 122 ⟨"FrameSharer", "count", "(I)I"⟩) := gh_116
theorem lmX_112 : gH (.methodLink "FrameSharer" 112 ⟨"FrameSharer", "framesInUse", "()I"⟩) := gh_120
theorem lmX_109 : gH (.methodLink "FrameSharer" 109 ⟨"FrameSharer", "spacesNow", "()I"⟩) := gh_124
theorem lmX_118 : gH (.methodLink "FrameSharer" 118 ⟨"FrameSharer", "picturesNow", "()I"⟩) := gh_128
theorem lmX_121 : gH (.methodLink "FrameSharer" 121 ⟨"FrameSharer", "pagesNow", "()I"⟩) := gh_132
theorem lmX_63 : gH (.methodLink "FrameSharer" 63 ⟨"FrameSharer", "pagesOfSpace", "(I)I"⟩) := gh_136
theorem lmX_56 : gH (.methodLink "FrameSharer" 56 ⟨"FrameSharer", "pageNow", "(II)I"⟩) := gh_140
theorem lmL_126 : gH (.methodLink "FrameSharerLaw" 126 ⟨"FrameSharer", "isThere", "(I)Z"⟩) := gh_143
theorem lmL_58 : gH (.methodLink "FrameSharerLaw" 58 ⟨"FrameSharerLaw", "cell", "([II)I"⟩) := gh_147
theorem lmL_75 : gH (.methodLink "FrameSharerLaw" 75 ⟨"FrameSharerLaw", "fork", "(LFrameSharer;I[J)I"⟩) := gh_150
theorem clL_13 : gH (.classLink "FrameSharerLaw" 13 "java/util/NoSuchElementException") := gh_153
theorem lmL_7 : gH (.methodLink "FrameSharerLaw" 7 ⟨"FrameSharer", "fork", "(I)I"⟩) := gh_154
theorem lmX_52 : gH (.methodLink "FrameSharer" 52 ⟨"FrameSharer", "needSpace", "(I)V"⟩) := gh_158
theorem lmX_124 : gH (.methodLink "FrameSharer" 124 ⟨"FrameSharer", "isThere", "(I)Z"⟩) := gh_162
theorem clX_127 : gH (.classLink "FrameSharer" 127 "java/util/NoSuchElementException") := gh_163
theorem lmX_131 : gH (.methodLink "FrameSharer" 131 ⟨"java/util/NoSuchElementException", "<init>", "(Ljava/lang/String;)V"⟩) := gh_205
theorem lmL_82 : gH (.methodLink "FrameSharerLaw" 82 ⟨"FrameSharerLaw", "close", "(LFrameSharer;I[J)I"⟩) := gh_231
theorem lmL_15 : gH (.methodLink "FrameSharerLaw" 15 ⟨"FrameSharer", "close", "(I)I"⟩) := gh_234
theorem lmL_85 : gH (.methodLink "FrameSharerLaw" 85 ⟨"FrameSharerLaw", "map", "(LFrameSharer;III[J)I"⟩) := gh_238
theorem clL_22 : gH (.classLink "FrameSharerLaw" 22 "java/lang/IndexOutOfBoundsException") := gh_241
theorem clL_24 : gH (.classLink "FrameSharerLaw" 24 "java/lang/IllegalStateException") := gh_242
theorem lmL_18 : gH (.methodLink "FrameSharerLaw" 18 ⟨"FrameSharer", "map", "(III)Z"⟩) := gh_243
theorem lmX_67 : gH (.methodLink "FrameSharer" 67 ⟨"FrameSharer", "needPage", "(I)V"⟩) := gh_247
theorem clX_134 : gH (.classLink "FrameSharer" 134 "java/lang/IndexOutOfBoundsException") := gh_251
theorem lmX_138 : gH (.methodLink "FrameSharer" 138 ⟨"java/lang/IndexOutOfBoundsException", "<init>", "(Ljava/lang/String;)V"⟩) := gh_261
theorem lmX_74 : gH (.methodLink "FrameSharer" 74 ⟨"FrameSharer", "needFreeFrame", "()I"⟩) := gh_267
theorem clX_145 : gH (.classLink "FrameSharer" 145 "java/lang/IllegalStateException") := gh_271
theorem lmX_149 : gH (.methodLink "FrameSharer" 149 ⟨"java/lang/IllegalStateException", "<init>", "(Ljava/lang/String;)V"⟩) := gh_281
theorem lmX_77 : gH (.methodLink "FrameSharer" 77 ⟨"FrameSharer", "fillFrame", "(II)V"⟩) := gh_287
theorem lmL_89 : gH (.methodLink "FrameSharerLaw" 89 ⟨"FrameSharerLaw", "unmap", "(LFrameSharer;II[J)I"⟩) := gh_291
theorem lmL_26 : gH (.methodLink "FrameSharerLaw" 26 ⟨"FrameSharer", "unmap", "(II)Z"⟩) := gh_294
theorem lmL_93 : gH (.methodLink "FrameSharerLaw" 93 ⟨"FrameSharerLaw", "read", "(LFrameSharer;II[J)I"⟩) := gh_298
theorem lmL_30 : gH (.methodLink "FrameSharerLaw" 30 ⟨"FrameSharer", "read", "(II)I"⟩) := gh_301
theorem lmX_80 : gH (.methodLink "FrameSharer" 80 ⟨"FrameSharer", "needHolderAt", "(II)I"⟩) := gh_305
theorem lmX_83 : gH (.methodLink "FrameSharer" 83 ⟨"FrameSharer", "cellIndex", "(II)I"⟩) := gh_311
theorem lmL_96 : gH (.methodLink "FrameSharerLaw" 96 ⟨"FrameSharerLaw", "write", "(LFrameSharer;III[J)I"⟩) := gh_314
theorem lmL_34 : gH (.methodLink "FrameSharerLaw" 34 ⟨"FrameSharer", "write", "(III)I"⟩) := gh_317
theorem lmX_86 : gH (.methodLink "FrameSharer" 86 ⟨"FrameSharer", "needOwnFrame", "(I)I"⟩) := gh_321
theorem lmX_150 : gH (.methodLink "FrameSharer" 150 ⟨"java/lang/System", "arraycopy", "(Ljava/lang/Object;ILjava/lang/Object;II)V"⟩) := gh_325
theorem lmL_99 : gH (.methodLink "FrameSharerLaw" 99 ⟨"FrameSharerLaw", "lend", "(LFrameSharer;IIII[J)I"⟩) := gh_328
theorem lmL_38 : gH (.methodLink "FrameSharerLaw" 38 ⟨"FrameSharer", "lend", "(IIII)Z"⟩) := gh_331
theorem lmX_89 : gH (.methodLink "FrameSharer" 89 ⟨"FrameSharer", "needTwoPages", "(IIII)V"⟩) := gh_335
theorem lmL_103 : gH (.methodLink "FrameSharerLaw" 103 ⟨"FrameSharerLaw", "join", "(LFrameSharer;IIII[J)I"⟩) := gh_339
theorem lmL_42 : gH (.methodLink "FrameSharerLaw" 42 ⟨"FrameSharer", "join", "(IIII)I"⟩) := gh_342
theorem lmX_93 : gH (.methodLink "FrameSharer" 93 ⟨"FrameSharer", "haveSameCells", "(II)Z"⟩) := gh_346
theorem lmX_97 : gH (.methodLink "FrameSharer" 97 ⟨"FrameSharer", "moveHolders", "(II)V"⟩) := gh_350
theorem lmL_110 : gH (.methodLink "FrameSharerLaw" 110 ⟨"FrameSharerLaw", "back", "(LFrameSharer;I[J)I"⟩) := gh_354
theorem lmL_46 : gH (.methodLink "FrameSharerLaw" 46 ⟨"FrameSharer", "back", "(I)I"⟩) := gh_357
theorem lmX_106 : gH (.methodLink "FrameSharer" 106 ⟨"FrameSharer", "needPicture", "(I)V"⟩) := gh_361
theorem lmL_113 : gH (.methodLink "FrameSharerLaw" 113 ⟨"FrameSharerLaw", "drop", "(LFrameSharer;I[J)I"⟩) := gh_366
theorem lmL_49 : gH (.methodLink "FrameSharerLaw" 49 ⟨"FrameSharer", "drop", "(I)I"⟩) := gh_369
theorem lmX_115 : gH (.methodLink "FrameSharer" 115 ⟨"FrameSharer", "clearRow", "(I)V"⟩) := gh_373
theorem lmL_116 : gH (.methodLink "FrameSharerLaw" 116 ⟨"FrameSharerLaw", "holders", "(LFrameSharer;II[J)I"⟩) := gh_377
theorem lmL_52 : gH (.methodLink "FrameSharerLaw" 52 ⟨"FrameSharer", "holders", "(II)I"⟩) := gh_380
theorem lmL_119 : gH (.methodLink "FrameSharerLaw" 119 ⟨"FrameSharerLaw", "changed", "(LFrameSharer;I[J)I"⟩) := gh_384
theorem lmL_55 : gH (.methodLink "FrameSharerLaw" 55 ⟨"FrameSharer", "changed", "(I)I"⟩) := gh_387
theorem clL_67 : gH (.classLink "FrameSharerLaw" 67 "FrameSharerModel") := gh_391
theorem lmL_69 : gH (.methodLink "FrameSharerLaw" 69 ⟨"FrameSharerModel", "<init>", "(I)V"⟩) := gh_393
theorem lmY_1 : gH (.methodLink "FrameSharerModel" 1 ⟨"java/lang/Object", "<init>", "()V"⟩) := gh_396
theorem lmL_79 : gH (.methodLink "FrameSharerLaw" 79 ⟨"FrameSharerModel", "thrown", "()I"⟩) := gh_419
theorem lmL_74 : gH (.methodLink "FrameSharerLaw" 74 ⟨"FrameSharerModel", "open", "()I"⟩) := gh_423
theorem lmY_38 : gH (.methodLink "FrameSharerModel" 38 ⟨"FrameSharerModel", "free", "()I"⟩) := gh_427
theorem lmL_78 : gH (.methodLink "FrameSharerLaw" 78 ⟨"FrameSharerModel", "fork", "(I)I"⟩) := gh_431
theorem lmY_42 : gH (.methodLink "FrameSharerModel" 42 ⟨"FrameSharerModel", "isSpace", "(I)Z"⟩) := gh_435
theorem lmY_46 : gH (.methodLink "FrameSharerModel" 46 ⟨"FrameSharerModel", "fails", "(ZZZ)Z"⟩) := gh_439
theorem lmY_34 : gH (.methodLink "FrameSharerModel" 34 ⟨"FrameSharerModel", "page", "(III)I"⟩) := gh_443
theorem lmY_30 : gH (.methodLink "FrameSharerModel" 30 ⟨"FrameSharerModel", "copyPage", "(II)V"⟩) := gh_446
theorem lmL_84 : gH (.methodLink "FrameSharerLaw" 84 ⟨"FrameSharerModel", "close", "(I)I"⟩) := gh_450
theorem lmY_50 : gH (.methodLink "FrameSharerModel" 50 ⟨"FrameSharerModel", "pagesOf", "(I)I"⟩) := gh_454
theorem lmY_54 : gH (.methodLink "FrameSharerModel" 54 ⟨"FrameSharerModel", "empty", "(II)V"⟩) := gh_458
theorem lmL_88 : gH (.methodLink "FrameSharerLaw" 88 ⟨"FrameSharerModel", "map", "(III)Z"⟩) := gh_462
theorem lmY_57 : gH (.methodLink "FrameSharerModel" 57 ⟨"FrameSharerModel", "isPage", "(I)Z"⟩) := gh_466
theorem lmY_60 : gH (.methodLink "FrameSharerModel" 60 ⟨"FrameSharerModel", "used", "()I"⟩) := gh_469
theorem lmL_92 : gH (.methodLink "FrameSharerLaw" 92 ⟨"FrameSharerModel", "unmap", "(II)Z"⟩) := gh_473
theorem lmL_95 : gH (.methodLink "FrameSharerLaw" 95 ⟨"FrameSharerModel", "read", "(II)I"⟩) := gh_477
theorem lmY_66 : gH (.methodLink "FrameSharerModel" 66 ⟨"FrameSharerModel", "cell", "(II)I"⟩) := gh_481
theorem lmL_98 : gH (.methodLink "FrameSharerLaw" 98 ⟨"FrameSharerModel", "write", "(III)I"⟩) := gh_485
theorem lmY_70 : gH (.methodLink "FrameSharerModel" 70 ⟨"FrameSharerModel", "holdersOf", "(I)I"⟩) := gh_489
theorem lmL_102 : gH (.methodLink "FrameSharerLaw" 102 ⟨"FrameSharerModel", "lend", "(IIII)Z"⟩) := gh_493
theorem lmY_73 : gH (.methodLink "FrameSharerModel" 73 ⟨"FrameSharerModel", "areFaulty", "(IIII)Z"⟩) := gh_497
theorem lmL_105 : gH (.methodLink "FrameSharerLaw" 105 ⟨"FrameSharerModel", "join", "(IIII)I"⟩) := gh_501
theorem lmL_109 : gH (.methodLink "FrameSharerLaw" 109 ⟨"FrameSharerModel", "take", "()I"⟩) := gh_505
theorem lmY_77 : gH (.methodLink "FrameSharerModel" 77 ⟨"FrameSharerModel", "copyRow", "(II)V"⟩) := gh_509
theorem lmL_112 : gH (.methodLink "FrameSharerLaw" 112 ⟨"FrameSharerModel", "back", "(I)I"⟩) := gh_513
theorem lmY_80 : gH (.methodLink "FrameSharerModel" 80 ⟨"FrameSharerModel", "isPicture", "(I)Z"⟩) := gh_517
theorem lmY_83 : gH (.methodLink "FrameSharerModel" 83 ⟨"FrameSharerModel", "spaces", "()I"⟩) := gh_521
theorem lmL_115 : gH (.methodLink "FrameSharerLaw" 115 ⟨"FrameSharerModel", "drop", "(I)I"⟩) := gh_525
theorem lmL_118 : gH (.methodLink "FrameSharerLaw" 118 ⟨"FrameSharerModel", "holders", "(II)I"⟩) := gh_529
theorem lmL_121 : gH (.methodLink "FrameSharerLaw" 121 ⟨"FrameSharerModel", "changed", "(I)I"⟩) := gh_533
theorem lmL_125 : gH (.methodLink "FrameSharerLaw" 125 ⟨"FrameSharerModel", "count", "(I)I"⟩) := gh_537
theorem lmL_130 : gH (.methodLink "FrameSharerLaw" 130 ⟨"FrameSharerModel", "isThere", "(I)Z"⟩) := gh_541
theorem it_NoSuchElementException : gH (.instantiable "java/util/NoSuchElementException" 6) := gh_164
theorem in_NoSuchElementException : gH (.initialized "java/util/NoSuchElementException") := gh_43
def nm_NoSuchElementException : List String := ["java/lang/RuntimeException", "java/lang/Exception"]
theorem it_IndexOutOfBoundsException : gH (.instantiable "java/lang/IndexOutOfBoundsException" 6) := gh_252
theorem in_IndexOutOfBoundsException : gH (.initialized "java/lang/IndexOutOfBoundsException") := gh_44
def nm_IndexOutOfBoundsException : List String := ["java/lang/RuntimeException", "java/lang/Exception"]
theorem it_IllegalStateException : gH (.instantiable "java/lang/IllegalStateException" 6) := gh_272
theorem in_IllegalStateException : gH (.initialized "java/lang/IllegalStateException") := gh_45
def nm_IllegalStateException : List String := ["java/lang/RuntimeException", "java/lang/Exception"]
theorem naS : gH (.native arraycopyName) := gh_327
theorem stS : gH (.static arraycopyName) := gh_326
theorem inS : gH (.initialized "java/lang/System") := gh_46
theorem ob_in : gH (.instanceMethod Lib.objectInit) := gh_53
theorem ob_co : gH (.code Lib.objectInit ⟨#[0xb1]⟩ 1 none) := gh_54
theorem mmin_s : gH (.static Lib.Math.min.name) := gh_56
theorem mmin_c : gH (.code Lib.Math.min.name Lib.Math.min.code 2 (some .int)) := gh_57
theorem mmax_s : gH (.static Lib.Math.max.name) := gh_59
theorem mmax_c : gH (.code Lib.Math.max.name Lib.Math.max.code 2 (some .int)) := gh_60
theorem ma_in : gH (.initialized "java/lang/Math") := gh_37
theorem ar_int : gH (.arrayClass (newarray.typeOf .int)) := gh_83
theorem ar_boolean : gH (.arrayClass (newarray.typeOf .boolean)) := gh_84
theorem ar_long : gH (.arrayClass (newarray.typeOf .long)) := gh_545
theorem in_X : gH (.initialized "FrameSharer") := gh_36
theorem it_X : gH (.instantiable "FrameSharer" 6) := gh_48
theorem ic_X : gH (.instanceMethod ⟨"FrameSharer", "<init>", "(I)V"⟩) := gh_50
theorem cc_X : gH (.code ⟨"FrameSharer", "<init>", "(I)V"⟩ prog_1_method_1_code 2 none) := gh_51
theorem in_Y : gH (.initialized "FrameSharerModel") := gh_39
theorem it_Y : gH (.instantiable "FrameSharerModel" 7) := gh_392
theorem ic_Y : gH (.instanceMethod ⟨"FrameSharerModel", "<init>", "(I)V"⟩) := gh_394
theorem cc_Y : gH (.code ⟨"FrameSharerModel", "<init>", "(I)V"⟩ prog_3_method_1_code 2 none) := gh_395
theorem af_s : gH (.static ⟨"java/util/Arrays", "fill", "([II)V"⟩) := gh_62
theorem af_i : gH (.initialized "java/util/Arrays") := gh_38
theorem af_c : gH (.code ⟨"java/util/Arrays", "fill", "([II)V"⟩ prog_12_method_103_code 4 none) := gh_63
abbrev mJ_fill : gM := (⟨"java/util/Arrays", "fill", "([II)V"⟩, prog_12_method_103_code, 4, none, [])
end
section
theorem eJ_fill_0 : decode mJ_fill.2.1 0 = .ok (.iconst 0, 1) := by decide +kernel
theorem eJ_fill_1 : decode mJ_fill.2.1 1 = .ok (.istore_n 2, 1) := by decide +kernel
theorem eJ_fill_2 : decode mJ_fill.2.1 2 = .ok (.aload_n 0, 1) := by decide +kernel
theorem eJ_fill_3 : decode mJ_fill.2.1 3 = .ok (.arraylength, 1) := by decide +kernel
theorem eJ_fill_4 : decode mJ_fill.2.1 4 = .ok (.istore_n 3, 1) := by decide +kernel
theorem eJ_fill_5 : decode mJ_fill.2.1 5 = .ok (.iload_n 2, 1) := by decide +kernel
theorem eJ_fill_6 : decode mJ_fill.2.1 6 = .ok (.iload_n 3, 1) := by decide +kernel
theorem eJ_fill_7 : decode mJ_fill.2.1 7 = .ok (.if_icmp .ge 13, 3) := by decide +kernel
theorem eJ_fill_10 : decode mJ_fill.2.1 10 = .ok (.aload_n 0, 1) := by decide +kernel
theorem eJ_fill_11 : decode mJ_fill.2.1 11 = .ok (.iload_n 2, 1) := by decide +kernel
theorem eJ_fill_12 : decode mJ_fill.2.1 12 = .ok (.iload_n 1, 1) := by decide +kernel
theorem eJ_fill_13 : decode mJ_fill.2.1 13 = .ok (.iastore, 1) := by decide +kernel
theorem eJ_fill_14 : decode mJ_fill.2.1 14 = .ok (.iinc 2 1, 3) := by decide +kernel
theorem eJ_fill_17 : decode mJ_fill.2.1 17 = .ok (.goto (-12), 3) := by decide +kernel
theorem eJ_fill_20 : decode mJ_fill.2.1 20 = .ok (.return_, 1) := by decide +kernel
end
section
theorem eX_open_0 : decode mX_open.2.1 0 = .ok (.aload_n 0, 1) := by decide +kernel
theorem eX_open_1 : decode mX_open.2.1 1 = .ok (.invokevirtual 45, 3) := by decide +kernel
theorem eX_open_4 : decode mX_open.2.1 4 = .ok (.istore_n 1, 1) := by decide +kernel
theorem eX_open_5 : decode mX_open.2.1 5 = .ok (.iload_n 1, 1) := by decide +kernel
theorem eX_open_6 : decode mX_open.2.1 6 = .ok (.iconst (-1), 1) := by decide +kernel
theorem eX_open_7 : decode mX_open.2.1 7 = .ok (.if_icmp .eq 15, 3) := by decide +kernel
theorem eX_open_10 : decode mX_open.2.1 10 = .ok (.aload_n 0, 1) := by decide +kernel
theorem eX_open_11 : decode mX_open.2.1 11 = .ok (.getfield 38, 3) := by decide +kernel
theorem eX_open_14 : decode mX_open.2.1 14 = .ok (.bipush 8, 2) := by decide +kernel
theorem eX_open_16 : decode mX_open.2.1 16 = .ok (.iload_n 1, 1) := by decide +kernel
theorem eX_open_17 : decode mX_open.2.1 17 = .ok (.invokestatic 49, 3) := by decide +kernel
theorem eX_open_20 : decode mX_open.2.1 20 = .ok (.iconst 1, 1) := by decide +kernel
theorem eX_open_21 : decode mX_open.2.1 21 = .ok (.bastore, 1) := by decide +kernel
theorem eX_open_22 : decode mX_open.2.1 22 = .ok (.iload_n 1, 1) := by decide +kernel
theorem eX_open_23 : decode mX_open.2.1 23 = .ok (.ireturn, 1) := by decide +kernel
theorem eX_fork_0 : decode mX_fork.2.1 0 = .ok (.aload_n 0, 1) := by decide +kernel
theorem eX_fork_1 : decode mX_fork.2.1 1 = .ok (.iload_n 1, 1) := by decide +kernel
theorem eX_fork_2 : decode mX_fork.2.1 2 = .ok (.invokevirtual 52, 3) := by decide +kernel
theorem eX_fork_5 : decode mX_fork.2.1 5 = .ok (.aload_n 0, 1) := by decide +kernel
theorem eX_fork_6 : decode mX_fork.2.1 6 = .ok (.invokevirtual 45, 3) := by decide +kernel
theorem eX_fork_9 : decode mX_fork.2.1 9 = .ok (.istore_n 2, 1) := by decide +kernel
theorem eX_fork_10 : decode mX_fork.2.1 10 = .ok (.iload_n 2, 1) := by decide +kernel
theorem eX_fork_11 : decode mX_fork.2.1 11 = .ok (.iconst (-1), 1) := by decide +kernel
theorem eX_fork_12 : decode mX_fork.2.1 12 = .ok (.if_icmp .ne 5, 3) := by decide +kernel
theorem eX_fork_15 : decode mX_fork.2.1 15 = .ok (.iconst (-1), 1) := by decide +kernel
theorem eX_fork_16 : decode mX_fork.2.1 16 = .ok (.ireturn, 1) := by decide +kernel
theorem eX_fork_17 : decode mX_fork.2.1 17 = .ok (.aload_n 0, 1) := by decide +kernel
theorem eX_fork_18 : decode mX_fork.2.1 18 = .ok (.getfield 38, 3) := by decide +kernel
theorem eX_fork_21 : decode mX_fork.2.1 21 = .ok (.bipush 8, 2) := by decide +kernel
theorem eX_fork_23 : decode mX_fork.2.1 23 = .ok (.iload_n 2, 1) := by decide +kernel
theorem eX_fork_24 : decode mX_fork.2.1 24 = .ok (.invokestatic 49, 3) := by decide +kernel
theorem eX_fork_27 : decode mX_fork.2.1 27 = .ok (.iconst 1, 1) := by decide +kernel
theorem eX_fork_28 : decode mX_fork.2.1 28 = .ok (.bastore, 1) := by decide +kernel
theorem eX_fork_29 : decode mX_fork.2.1 29 = .ok (.iconst 0, 1) := by decide +kernel
theorem eX_fork_30 : decode mX_fork.2.1 30 = .ok (.istore_n 3, 1) := by decide +kernel
theorem eX_fork_31 : decode mX_fork.2.1 31 = .ok (.iload_n 3, 1) := by decide +kernel
theorem eX_fork_32 : decode mX_fork.2.1 32 = .ok (.bipush 8, 2) := by decide +kernel
theorem eX_fork_34 : decode mX_fork.2.1 34 = .ok (.if_icmp .ge 28, 3) := by decide +kernel
theorem eX_fork_37 : decode mX_fork.2.1 37 = .ok (.aload_n 0, 1) := by decide +kernel
theorem eX_fork_38 : decode mX_fork.2.1 38 = .ok (.iload_n 2, 1) := by decide +kernel
theorem eX_fork_39 : decode mX_fork.2.1 39 = .ok (.iload_n 3, 1) := by decide +kernel
theorem eX_fork_40 : decode mX_fork.2.1 40 = .ok (.invokestatic 56, 3) := by decide +kernel
theorem eX_fork_43 : decode mX_fork.2.1 43 = .ok (.aload_n 0, 1) := by decide +kernel
theorem eX_fork_44 : decode mX_fork.2.1 44 = .ok (.getfield 29, 3) := by decide +kernel
theorem eX_fork_47 : decode mX_fork.2.1 47 = .ok (.iload_n 1, 1) := by decide +kernel
theorem eX_fork_48 : decode mX_fork.2.1 48 = .ok (.iload_n 3, 1) := by decide +kernel
theorem eX_fork_49 : decode mX_fork.2.1 49 = .ok (.invokestatic 56, 3) := by decide +kernel
theorem eX_fork_52 : decode mX_fork.2.1 52 = .ok (.iaload, 1) := by decide +kernel
theorem eX_fork_53 : decode mX_fork.2.1 53 = .ok (.invokevirtual 59, 3) := by decide +kernel
theorem eX_fork_56 : decode mX_fork.2.1 56 = .ok (.iinc 3 1, 3) := by decide +kernel
theorem eX_fork_59 : decode mX_fork.2.1 59 = .ok (.goto (-28), 3) := by decide +kernel
theorem eX_fork_62 : decode mX_fork.2.1 62 = .ok (.iload_n 2, 1) := by decide +kernel
theorem eX_fork_63 : decode mX_fork.2.1 63 = .ok (.ireturn, 1) := by decide +kernel
theorem eX_close_0 : decode mX_close.2.1 0 = .ok (.aload_n 0, 1) := by decide +kernel
theorem eX_close_1 : decode mX_close.2.1 1 = .ok (.iload_n 1, 1) := by decide +kernel
theorem eX_close_2 : decode mX_close.2.1 2 = .ok (.invokevirtual 52, 3) := by decide +kernel
theorem eX_close_5 : decode mX_close.2.1 5 = .ok (.aload_n 0, 1) := by decide +kernel
theorem eX_close_6 : decode mX_close.2.1 6 = .ok (.iload_n 1, 1) := by decide +kernel
theorem eX_close_7 : decode mX_close.2.1 7 = .ok (.invokevirtual 63, 3) := by decide +kernel
theorem eX_close_10 : decode mX_close.2.1 10 = .ok (.istore_n 2, 1) := by decide +kernel
theorem eX_close_11 : decode mX_close.2.1 11 = .ok (.iconst 0, 1) := by decide +kernel
theorem eX_close_12 : decode mX_close.2.1 12 = .ok (.istore_n 3, 1) := by decide +kernel
theorem eX_close_13 : decode mX_close.2.1 13 = .ok (.iload_n 3, 1) := by decide +kernel
theorem eX_close_14 : decode mX_close.2.1 14 = .ok (.bipush 8, 2) := by decide +kernel
theorem eX_close_16 : decode mX_close.2.1 16 = .ok (.if_icmp .ge 19, 3) := by decide +kernel
theorem eX_close_19 : decode mX_close.2.1 19 = .ok (.aload_n 0, 1) := by decide +kernel
theorem eX_close_20 : decode mX_close.2.1 20 = .ok (.iload_n 1, 1) := by decide +kernel
theorem eX_close_21 : decode mX_close.2.1 21 = .ok (.iload_n 3, 1) := by decide +kernel
theorem eX_close_22 : decode mX_close.2.1 22 = .ok (.invokestatic 56, 3) := by decide +kernel
theorem eX_close_25 : decode mX_close.2.1 25 = .ok (.iconst (-1), 1) := by decide +kernel
theorem eX_close_26 : decode mX_close.2.1 26 = .ok (.invokevirtual 59, 3) := by decide +kernel
theorem eX_close_29 : decode mX_close.2.1 29 = .ok (.iinc 3 1, 3) := by decide +kernel
theorem eX_close_32 : decode mX_close.2.1 32 = .ok (.goto (-19), 3) := by decide +kernel
theorem eX_close_35 : decode mX_close.2.1 35 = .ok (.aload_n 0, 1) := by decide +kernel
theorem eX_close_36 : decode mX_close.2.1 36 = .ok (.getfield 38, 3) := by decide +kernel
theorem eX_close_39 : decode mX_close.2.1 39 = .ok (.bipush 8, 2) := by decide +kernel
theorem eX_close_41 : decode mX_close.2.1 41 = .ok (.iload_n 1, 1) := by decide +kernel
theorem eX_close_42 : decode mX_close.2.1 42 = .ok (.invokestatic 49, 3) := by decide +kernel
theorem eX_close_45 : decode mX_close.2.1 45 = .ok (.iconst 0, 1) := by decide +kernel
theorem eX_close_46 : decode mX_close.2.1 46 = .ok (.bastore, 1) := by decide +kernel
theorem eX_close_47 : decode mX_close.2.1 47 = .ok (.iload_n 2, 1) := by decide +kernel
theorem eX_close_48 : decode mX_close.2.1 48 = .ok (.ireturn, 1) := by decide +kernel
theorem eX_map_0 : decode mX_map.2.1 0 = .ok (.aload_n 0, 1) := by decide +kernel
theorem eX_map_1 : decode mX_map.2.1 1 = .ok (.iload_n 1, 1) := by decide +kernel
theorem eX_map_2 : decode mX_map.2.1 2 = .ok (.invokevirtual 52, 3) := by decide +kernel
theorem eX_map_5 : decode mX_map.2.1 5 = .ok (.aload_n 0, 1) := by decide +kernel
theorem eX_map_6 : decode mX_map.2.1 6 = .ok (.iload_n 2, 1) := by decide +kernel
theorem eX_map_7 : decode mX_map.2.1 7 = .ok (.invokevirtual 67, 3) := by decide +kernel
theorem eX_map_10 : decode mX_map.2.1 10 = .ok (.iload_n 1, 1) := by decide +kernel
theorem eX_map_11 : decode mX_map.2.1 11 = .ok (.iload_n 2, 1) := by decide +kernel
theorem eX_map_12 : decode mX_map.2.1 12 = .ok (.invokestatic 56, 3) := by decide +kernel
theorem eX_map_15 : decode mX_map.2.1 15 = .ok (.istore 4, 2) := by decide +kernel
theorem eX_map_17 : decode mX_map.2.1 17 = .ok (.aload_n 0, 1) := by decide +kernel
theorem eX_map_18 : decode mX_map.2.1 18 = .ok (.aload_n 0, 1) := by decide +kernel
theorem eX_map_19 : decode mX_map.2.1 19 = .ok (.getfield 29, 3) := by decide +kernel
theorem eX_map_22 : decode mX_map.2.1 22 = .ok (.iload 4, 2) := by decide +kernel
theorem eX_map_24 : decode mX_map.2.1 24 = .ok (.iaload, 1) := by decide +kernel
theorem eX_map_25 : decode mX_map.2.1 25 = .ok (.invokevirtual 70, 3) := by decide +kernel
theorem eX_map_28 : decode mX_map.2.1 28 = .ok (.ifCond .eq 5, 3) := by decide +kernel
theorem eX_map_31 : decode mX_map.2.1 31 = .ok (.iconst 0, 1) := by decide +kernel
theorem eX_map_32 : decode mX_map.2.1 32 = .ok (.ireturn, 1) := by decide +kernel
theorem eX_map_33 : decode mX_map.2.1 33 = .ok (.aload_n 0, 1) := by decide +kernel
theorem eX_map_34 : decode mX_map.2.1 34 = .ok (.invokevirtual 74, 3) := by decide +kernel
theorem eX_map_37 : decode mX_map.2.1 37 = .ok (.istore 5, 2) := by decide +kernel
theorem eX_map_39 : decode mX_map.2.1 39 = .ok (.aload_n 0, 1) := by decide +kernel
theorem eX_map_40 : decode mX_map.2.1 40 = .ok (.iload 5, 2) := by decide +kernel
theorem eX_map_42 : decode mX_map.2.1 42 = .ok (.iload_n 3, 1) := by decide +kernel
theorem eX_map_43 : decode mX_map.2.1 43 = .ok (.invokevirtual 77, 3) := by decide +kernel
theorem eX_map_46 : decode mX_map.2.1 46 = .ok (.aload_n 0, 1) := by decide +kernel
theorem eX_map_47 : decode mX_map.2.1 47 = .ok (.iload 4, 2) := by decide +kernel
theorem eX_map_49 : decode mX_map.2.1 49 = .ok (.iload 5, 2) := by decide +kernel
theorem eX_map_51 : decode mX_map.2.1 51 = .ok (.invokevirtual 59, 3) := by decide +kernel
theorem eX_map_54 : decode mX_map.2.1 54 = .ok (.iconst 1, 1) := by decide +kernel
theorem eX_map_55 : decode mX_map.2.1 55 = .ok (.ireturn, 1) := by decide +kernel
theorem eX_unmap_0 : decode mX_unmap.2.1 0 = .ok (.aload_n 0, 1) := by decide +kernel
theorem eX_unmap_1 : decode mX_unmap.2.1 1 = .ok (.iload_n 1, 1) := by decide +kernel
theorem eX_unmap_2 : decode mX_unmap.2.1 2 = .ok (.invokevirtual 52, 3) := by decide +kernel
theorem eX_unmap_5 : decode mX_unmap.2.1 5 = .ok (.aload_n 0, 1) := by decide +kernel
theorem eX_unmap_6 : decode mX_unmap.2.1 6 = .ok (.iload_n 2, 1) := by decide +kernel
theorem eX_unmap_7 : decode mX_unmap.2.1 7 = .ok (.invokevirtual 67, 3) := by decide +kernel
theorem eX_unmap_10 : decode mX_unmap.2.1 10 = .ok (.iload_n 1, 1) := by decide +kernel
theorem eX_unmap_11 : decode mX_unmap.2.1 11 = .ok (.iload_n 2, 1) := by decide +kernel
theorem eX_unmap_12 : decode mX_unmap.2.1 12 = .ok (.invokestatic 56, 3) := by decide +kernel
theorem eX_unmap_15 : decode mX_unmap.2.1 15 = .ok (.istore_n 3, 1) := by decide +kernel
theorem eX_unmap_16 : decode mX_unmap.2.1 16 = .ok (.aload_n 0, 1) := by decide +kernel
theorem eX_unmap_17 : decode mX_unmap.2.1 17 = .ok (.aload_n 0, 1) := by decide +kernel
theorem eX_unmap_18 : decode mX_unmap.2.1 18 = .ok (.getfield 29, 3) := by decide +kernel
theorem eX_unmap_21 : decode mX_unmap.2.1 21 = .ok (.iload_n 3, 1) := by decide +kernel
theorem eX_unmap_22 : decode mX_unmap.2.1 22 = .ok (.iaload, 1) := by decide +kernel
theorem eX_unmap_23 : decode mX_unmap.2.1 23 = .ok (.invokevirtual 70, 3) := by decide +kernel
theorem eX_unmap_26 : decode mX_unmap.2.1 26 = .ok (.istore 4, 2) := by decide +kernel
theorem eX_unmap_28 : decode mX_unmap.2.1 28 = .ok (.aload_n 0, 1) := by decide +kernel
theorem eX_unmap_29 : decode mX_unmap.2.1 29 = .ok (.iload_n 3, 1) := by decide +kernel
theorem eX_unmap_30 : decode mX_unmap.2.1 30 = .ok (.iconst (-1), 1) := by decide +kernel
theorem eX_unmap_31 : decode mX_unmap.2.1 31 = .ok (.invokevirtual 59, 3) := by decide +kernel
theorem eX_unmap_34 : decode mX_unmap.2.1 34 = .ok (.iload 4, 2) := by decide +kernel
theorem eX_unmap_36 : decode mX_unmap.2.1 36 = .ok (.ireturn, 1) := by decide +kernel
theorem eX_read_0 : decode mX_read.2.1 0 = .ok (.aload_n 0, 1) := by decide +kernel
theorem eX_read_1 : decode mX_read.2.1 1 = .ok (.getfield 29, 3) := by decide +kernel
theorem eX_read_4 : decode mX_read.2.1 4 = .ok (.aload_n 0, 1) := by decide +kernel
theorem eX_read_5 : decode mX_read.2.1 5 = .ok (.iload_n 1, 1) := by decide +kernel
theorem eX_read_6 : decode mX_read.2.1 6 = .ok (.iload_n 2, 1) := by decide +kernel
theorem eX_read_7 : decode mX_read.2.1 7 = .ok (.invokevirtual 80, 3) := by decide +kernel
theorem eX_read_10 : decode mX_read.2.1 10 = .ok (.iaload, 1) := by decide +kernel
theorem eX_read_11 : decode mX_read.2.1 11 = .ok (.istore_n 3, 1) := by decide +kernel
theorem eX_read_12 : decode mX_read.2.1 12 = .ok (.aload_n 0, 1) := by decide +kernel
theorem eX_read_13 : decode mX_read.2.1 13 = .ok (.getfield 22, 3) := by decide +kernel
theorem eX_read_16 : decode mX_read.2.1 16 = .ok (.iload_n 3, 1) := by decide +kernel
theorem eX_read_17 : decode mX_read.2.1 17 = .ok (.iload_n 2, 1) := by decide +kernel
theorem eX_read_18 : decode mX_read.2.1 18 = .ok (.invokestatic 83, 3) := by decide +kernel
theorem eX_read_21 : decode mX_read.2.1 21 = .ok (.iaload, 1) := by decide +kernel
theorem eX_read_22 : decode mX_read.2.1 22 = .ok (.ireturn, 1) := by decide +kernel
theorem eX_write_0 : decode mX_write.2.1 0 = .ok (.aload_n 0, 1) := by decide +kernel
theorem eX_write_1 : decode mX_write.2.1 1 = .ok (.aload_n 0, 1) := by decide +kernel
theorem eX_write_2 : decode mX_write.2.1 2 = .ok (.iload_n 1, 1) := by decide +kernel
theorem eX_write_3 : decode mX_write.2.1 3 = .ok (.iload_n 2, 1) := by decide +kernel
theorem eX_write_4 : decode mX_write.2.1 4 = .ok (.invokevirtual 80, 3) := by decide +kernel
theorem eX_write_7 : decode mX_write.2.1 7 = .ok (.invokevirtual 86, 3) := by decide +kernel
theorem eX_write_10 : decode mX_write.2.1 10 = .ok (.istore 4, 2) := by decide +kernel
theorem eX_write_12 : decode mX_write.2.1 12 = .ok (.iload 4, 2) := by decide +kernel
theorem eX_write_14 : decode mX_write.2.1 14 = .ok (.iload_n 2, 1) := by decide +kernel
theorem eX_write_15 : decode mX_write.2.1 15 = .ok (.invokestatic 83, 3) := by decide +kernel
theorem eX_write_18 : decode mX_write.2.1 18 = .ok (.istore 5, 2) := by decide +kernel
theorem eX_write_20 : decode mX_write.2.1 20 = .ok (.aload_n 0, 1) := by decide +kernel
theorem eX_write_21 : decode mX_write.2.1 21 = .ok (.getfield 22, 3) := by decide +kernel
theorem eX_write_24 : decode mX_write.2.1 24 = .ok (.iload 5, 2) := by decide +kernel
theorem eX_write_26 : decode mX_write.2.1 26 = .ok (.iaload, 1) := by decide +kernel
theorem eX_write_27 : decode mX_write.2.1 27 = .ok (.istore 6, 2) := by decide +kernel
theorem eX_write_29 : decode mX_write.2.1 29 = .ok (.aload_n 0, 1) := by decide +kernel
theorem eX_write_30 : decode mX_write.2.1 30 = .ok (.getfield 22, 3) := by decide +kernel
theorem eX_write_33 : decode mX_write.2.1 33 = .ok (.iload 5, 2) := by decide +kernel
theorem eX_write_35 : decode mX_write.2.1 35 = .ok (.iload_n 3, 1) := by decide +kernel
theorem eX_write_36 : decode mX_write.2.1 36 = .ok (.iastore, 1) := by decide +kernel
theorem eX_write_37 : decode mX_write.2.1 37 = .ok (.iload 6, 2) := by decide +kernel
theorem eX_write_39 : decode mX_write.2.1 39 = .ok (.ireturn, 1) := by decide +kernel
theorem eX_lend_0 : decode mX_lend.2.1 0 = .ok (.aload_n 0, 1) := by decide +kernel
theorem eX_lend_1 : decode mX_lend.2.1 1 = .ok (.iload_n 1, 1) := by decide +kernel
theorem eX_lend_2 : decode mX_lend.2.1 2 = .ok (.iload_n 2, 1) := by decide +kernel
theorem eX_lend_3 : decode mX_lend.2.1 3 = .ok (.iload_n 3, 1) := by decide +kernel
theorem eX_lend_4 : decode mX_lend.2.1 4 = .ok (.iload 4, 2) := by decide +kernel
theorem eX_lend_6 : decode mX_lend.2.1 6 = .ok (.invokevirtual 89, 3) := by decide +kernel
theorem eX_lend_9 : decode mX_lend.2.1 9 = .ok (.aload_n 0, 1) := by decide +kernel
theorem eX_lend_10 : decode mX_lend.2.1 10 = .ok (.getfield 29, 3) := by decide +kernel
theorem eX_lend_13 : decode mX_lend.2.1 13 = .ok (.iload_n 1, 1) := by decide +kernel
theorem eX_lend_14 : decode mX_lend.2.1 14 = .ok (.iload_n 2, 1) := by decide +kernel
theorem eX_lend_15 : decode mX_lend.2.1 15 = .ok (.invokestatic 56, 3) := by decide +kernel
theorem eX_lend_18 : decode mX_lend.2.1 18 = .ok (.iaload, 1) := by decide +kernel
theorem eX_lend_19 : decode mX_lend.2.1 19 = .ok (.istore 5, 2) := by decide +kernel
theorem eX_lend_21 : decode mX_lend.2.1 21 = .ok (.iload_n 3, 1) := by decide +kernel
theorem eX_lend_22 : decode mX_lend.2.1 22 = .ok (.iload 4, 2) := by decide +kernel
theorem eX_lend_24 : decode mX_lend.2.1 24 = .ok (.invokestatic 56, 3) := by decide +kernel
theorem eX_lend_27 : decode mX_lend.2.1 27 = .ok (.istore 6, 2) := by decide +kernel
theorem eX_lend_29 : decode mX_lend.2.1 29 = .ok (.aload_n 0, 1) := by decide +kernel
theorem eX_lend_30 : decode mX_lend.2.1 30 = .ok (.getfield 29, 3) := by decide +kernel
theorem eX_lend_33 : decode mX_lend.2.1 33 = .ok (.iload 6, 2) := by decide +kernel
theorem eX_lend_35 : decode mX_lend.2.1 35 = .ok (.iaload, 1) := by decide +kernel
theorem eX_lend_36 : decode mX_lend.2.1 36 = .ok (.iload 5, 2) := by decide +kernel
theorem eX_lend_38 : decode mX_lend.2.1 38 = .ok (.if_icmp .eq 7, 3) := by decide +kernel
theorem eX_lend_41 : decode mX_lend.2.1 41 = .ok (.iconst 1, 1) := by decide +kernel
theorem eX_lend_42 : decode mX_lend.2.1 42 = .ok (.goto 4, 3) := by decide +kernel
theorem eX_lend_45 : decode mX_lend.2.1 45 = .ok (.iconst 0, 1) := by decide +kernel
theorem eX_lend_46 : decode mX_lend.2.1 46 = .ok (.istore 7, 2) := by decide +kernel
theorem eX_lend_48 : decode mX_lend.2.1 48 = .ok (.aload_n 0, 1) := by decide +kernel
theorem eX_lend_49 : decode mX_lend.2.1 49 = .ok (.iload 6, 2) := by decide +kernel
theorem eX_lend_51 : decode mX_lend.2.1 51 = .ok (.iload 5, 2) := by decide +kernel
theorem eX_lend_53 : decode mX_lend.2.1 53 = .ok (.invokevirtual 59, 3) := by decide +kernel
theorem eX_lend_56 : decode mX_lend.2.1 56 = .ok (.iload 7, 2) := by decide +kernel
theorem eX_lend_58 : decode mX_lend.2.1 58 = .ok (.ireturn, 1) := by decide +kernel
theorem eX_join_0 : decode mX_join.2.1 0 = .ok (.aload_n 0, 1) := by decide +kernel
theorem eX_join_1 : decode mX_join.2.1 1 = .ok (.iload_n 1, 1) := by decide +kernel
theorem eX_join_2 : decode mX_join.2.1 2 = .ok (.iload_n 2, 1) := by decide +kernel
theorem eX_join_3 : decode mX_join.2.1 3 = .ok (.iload_n 3, 1) := by decide +kernel
theorem eX_join_4 : decode mX_join.2.1 4 = .ok (.iload 4, 2) := by decide +kernel
theorem eX_join_6 : decode mX_join.2.1 6 = .ok (.invokevirtual 89, 3) := by decide +kernel
theorem eX_join_9 : decode mX_join.2.1 9 = .ok (.aload_n 0, 1) := by decide +kernel
theorem eX_join_10 : decode mX_join.2.1 10 = .ok (.getfield 29, 3) := by decide +kernel
theorem eX_join_13 : decode mX_join.2.1 13 = .ok (.iload_n 1, 1) := by decide +kernel
theorem eX_join_14 : decode mX_join.2.1 14 = .ok (.iload_n 2, 1) := by decide +kernel
theorem eX_join_15 : decode mX_join.2.1 15 = .ok (.invokestatic 56, 3) := by decide +kernel
theorem eX_join_18 : decode mX_join.2.1 18 = .ok (.iaload, 1) := by decide +kernel
theorem eX_join_19 : decode mX_join.2.1 19 = .ok (.istore 5, 2) := by decide +kernel
theorem eX_join_21 : decode mX_join.2.1 21 = .ok (.aload_n 0, 1) := by decide +kernel
theorem eX_join_22 : decode mX_join.2.1 22 = .ok (.getfield 29, 3) := by decide +kernel
theorem eX_join_25 : decode mX_join.2.1 25 = .ok (.iload_n 3, 1) := by decide +kernel
theorem eX_join_26 : decode mX_join.2.1 26 = .ok (.iload 4, 2) := by decide +kernel
theorem eX_join_28 : decode mX_join.2.1 28 = .ok (.invokestatic 56, 3) := by decide +kernel
theorem eX_join_31 : decode mX_join.2.1 31 = .ok (.iaload, 1) := by decide +kernel
theorem eX_join_32 : decode mX_join.2.1 32 = .ok (.istore 6, 2) := by decide +kernel
theorem eX_join_34 : decode mX_join.2.1 34 = .ok (.iload 5, 2) := by decide +kernel
theorem eX_join_36 : decode mX_join.2.1 36 = .ok (.iload 6, 2) := by decide +kernel
theorem eX_join_38 : decode mX_join.2.1 38 = .ok (.if_icmp .eq 32, 3) := by decide +kernel
theorem eX_join_41 : decode mX_join.2.1 41 = .ok (.aload_n 0, 1) := by decide +kernel
theorem eX_join_42 : decode mX_join.2.1 42 = .ok (.iload 5, 2) := by decide +kernel
theorem eX_join_44 : decode mX_join.2.1 44 = .ok (.invokevirtual 70, 3) := by decide +kernel
theorem eX_join_47 : decode mX_join.2.1 47 = .ok (.ifCond .eq 23, 3) := by decide +kernel
theorem eX_join_50 : decode mX_join.2.1 50 = .ok (.aload_n 0, 1) := by decide +kernel
theorem eX_join_51 : decode mX_join.2.1 51 = .ok (.iload 6, 2) := by decide +kernel
theorem eX_join_53 : decode mX_join.2.1 53 = .ok (.invokevirtual 70, 3) := by decide +kernel
theorem eX_join_56 : decode mX_join.2.1 56 = .ok (.ifCond .eq 14, 3) := by decide +kernel
theorem eX_join_59 : decode mX_join.2.1 59 = .ok (.aload_n 0, 1) := by decide +kernel
theorem eX_join_60 : decode mX_join.2.1 60 = .ok (.iload 5, 2) := by decide +kernel
theorem eX_join_62 : decode mX_join.2.1 62 = .ok (.iload 6, 2) := by decide +kernel
theorem eX_join_64 : decode mX_join.2.1 64 = .ok (.invokevirtual 93, 3) := by decide +kernel
theorem eX_join_67 : decode mX_join.2.1 67 = .ok (.ifCond .ne 5, 3) := by decide +kernel
theorem eX_join_70 : decode mX_join.2.1 70 = .ok (.iconst 0, 1) := by decide +kernel
theorem eX_join_71 : decode mX_join.2.1 71 = .ok (.ireturn, 1) := by decide +kernel
theorem eX_join_72 : decode mX_join.2.1 72 = .ok (.aload_n 0, 1) := by decide +kernel
theorem eX_join_73 : decode mX_join.2.1 73 = .ok (.getfield 26, 3) := by decide +kernel
theorem eX_join_76 : decode mX_join.2.1 76 = .ok (.iload 6, 2) := by decide +kernel
theorem eX_join_78 : decode mX_join.2.1 78 = .ok (.iaload, 1) := by decide +kernel
theorem eX_join_79 : decode mX_join.2.1 79 = .ok (.istore 7, 2) := by decide +kernel
theorem eX_join_81 : decode mX_join.2.1 81 = .ok (.aload_n 0, 1) := by decide +kernel
theorem eX_join_82 : decode mX_join.2.1 82 = .ok (.iload 6, 2) := by decide +kernel
theorem eX_join_84 : decode mX_join.2.1 84 = .ok (.iload 5, 2) := by decide +kernel
theorem eX_join_86 : decode mX_join.2.1 86 = .ok (.invokevirtual 97, 3) := by decide +kernel
theorem eX_join_89 : decode mX_join.2.1 89 = .ok (.iload 7, 2) := by decide +kernel
theorem eX_join_91 : decode mX_join.2.1 91 = .ok (.ireturn, 1) := by decide +kernel
theorem eX_take_0 : decode mX_take.2.1 0 = .ok (.aload_n 0, 1) := by decide +kernel
theorem eX_take_1 : decode mX_take.2.1 1 = .ok (.invokevirtual 100, 3) := by decide +kernel
theorem eX_take_4 : decode mX_take.2.1 4 = .ok (.istore_n 1, 1) := by decide +kernel
theorem eX_take_5 : decode mX_take.2.1 5 = .ok (.iload_n 1, 1) := by decide +kernel
theorem eX_take_6 : decode mX_take.2.1 6 = .ok (.iconst (-1), 1) := by decide +kernel
theorem eX_take_7 : decode mX_take.2.1 7 = .ok (.if_icmp .eq 17, 3) := by decide +kernel
theorem eX_take_10 : decode mX_take.2.1 10 = .ok (.aload_n 0, 1) := by decide +kernel
theorem eX_take_11 : decode mX_take.2.1 11 = .ok (.getfield 42, 3) := by decide +kernel
theorem eX_take_14 : decode mX_take.2.1 14 = .ok (.iload_n 1, 1) := by decide +kernel
theorem eX_take_15 : decode mX_take.2.1 15 = .ok (.iconst 1, 1) := by decide +kernel
theorem eX_take_16 : decode mX_take.2.1 16 = .ok (.bastore, 1) := by decide +kernel
theorem eX_take_17 : decode mX_take.2.1 17 = .ok (.aload_n 0, 1) := by decide +kernel
theorem eX_take_18 : decode mX_take.2.1 18 = .ok (.bipush 8, 2) := by decide +kernel
theorem eX_take_20 : decode mX_take.2.1 20 = .ok (.iload_n 1, 1) := by decide +kernel
theorem eX_take_21 : decode mX_take.2.1 21 = .ok (.invokevirtual 103, 3) := by decide +kernel
theorem eX_take_24 : decode mX_take.2.1 24 = .ok (.iload_n 1, 1) := by decide +kernel
theorem eX_take_25 : decode mX_take.2.1 25 = .ok (.ireturn, 1) := by decide +kernel
theorem eX_back_0 : decode mX_back.2.1 0 = .ok (.aload_n 0, 1) := by decide +kernel
theorem eX_back_1 : decode mX_back.2.1 1 = .ok (.iload_n 1, 1) := by decide +kernel
theorem eX_back_2 : decode mX_back.2.1 2 = .ok (.invokevirtual 106, 3) := by decide +kernel
theorem eX_back_5 : decode mX_back.2.1 5 = .ok (.aload_n 0, 1) := by decide +kernel
theorem eX_back_6 : decode mX_back.2.1 6 = .ok (.iload_n 1, 1) := by decide +kernel
theorem eX_back_7 : decode mX_back.2.1 7 = .ok (.bipush 8, 2) := by decide +kernel
theorem eX_back_9 : decode mX_back.2.1 9 = .ok (.invokevirtual 103, 3) := by decide +kernel
theorem eX_back_12 : decode mX_back.2.1 12 = .ok (.aload_n 0, 1) := by decide +kernel
theorem eX_back_13 : decode mX_back.2.1 13 = .ok (.invokevirtual 109, 3) := by decide +kernel
theorem eX_back_16 : decode mX_back.2.1 16 = .ok (.ireturn, 1) := by decide +kernel
theorem eX_drop_0 : decode mX_drop.2.1 0 = .ok (.aload_n 0, 1) := by decide +kernel
theorem eX_drop_1 : decode mX_drop.2.1 1 = .ok (.iload_n 1, 1) := by decide +kernel
theorem eX_drop_2 : decode mX_drop.2.1 2 = .ok (.invokevirtual 106, 3) := by decide +kernel
theorem eX_drop_5 : decode mX_drop.2.1 5 = .ok (.aload_n 0, 1) := by decide +kernel
theorem eX_drop_6 : decode mX_drop.2.1 6 = .ok (.invokevirtual 112, 3) := by decide +kernel
theorem eX_drop_9 : decode mX_drop.2.1 9 = .ok (.istore_n 2, 1) := by decide +kernel
theorem eX_drop_10 : decode mX_drop.2.1 10 = .ok (.aload_n 0, 1) := by decide +kernel
theorem eX_drop_11 : decode mX_drop.2.1 11 = .ok (.iload_n 1, 1) := by decide +kernel
theorem eX_drop_12 : decode mX_drop.2.1 12 = .ok (.invokevirtual 115, 3) := by decide +kernel
theorem eX_drop_15 : decode mX_drop.2.1 15 = .ok (.aload_n 0, 1) := by decide +kernel
theorem eX_drop_16 : decode mX_drop.2.1 16 = .ok (.getfield 42, 3) := by decide +kernel
theorem eX_drop_19 : decode mX_drop.2.1 19 = .ok (.iload_n 1, 1) := by decide +kernel
theorem eX_drop_20 : decode mX_drop.2.1 20 = .ok (.iconst 0, 1) := by decide +kernel
theorem eX_drop_21 : decode mX_drop.2.1 21 = .ok (.bastore, 1) := by decide +kernel
theorem eX_drop_22 : decode mX_drop.2.1 22 = .ok (.iload_n 2, 1) := by decide +kernel
theorem eX_drop_23 : decode mX_drop.2.1 23 = .ok (.aload_n 0, 1) := by decide +kernel
theorem eX_drop_24 : decode mX_drop.2.1 24 = .ok (.invokevirtual 112, 3) := by decide +kernel
theorem eX_drop_27 : decode mX_drop.2.1 27 = .ok (.isub, 1) := by decide +kernel
theorem eX_drop_28 : decode mX_drop.2.1 28 = .ok (.ireturn, 1) := by decide +kernel
theorem eX_holders_0 : decode mX_holders.2.1 0 = .ok (.aload_n 0, 1) := by decide +kernel
theorem eX_holders_1 : decode mX_holders.2.1 1 = .ok (.iload_n 1, 1) := by decide +kernel
theorem eX_holders_2 : decode mX_holders.2.1 2 = .ok (.invokevirtual 52, 3) := by decide +kernel
theorem eX_holders_5 : decode mX_holders.2.1 5 = .ok (.aload_n 0, 1) := by decide +kernel
theorem eX_holders_6 : decode mX_holders.2.1 6 = .ok (.iload_n 2, 1) := by decide +kernel
theorem eX_holders_7 : decode mX_holders.2.1 7 = .ok (.invokevirtual 67, 3) := by decide +kernel
theorem eX_holders_10 : decode mX_holders.2.1 10 = .ok (.aload_n 0, 1) := by decide +kernel
theorem eX_holders_11 : decode mX_holders.2.1 11 = .ok (.getfield 29, 3) := by decide +kernel
theorem eX_holders_14 : decode mX_holders.2.1 14 = .ok (.iload_n 1, 1) := by decide +kernel
theorem eX_holders_15 : decode mX_holders.2.1 15 = .ok (.iload_n 2, 1) := by decide +kernel
theorem eX_holders_16 : decode mX_holders.2.1 16 = .ok (.invokestatic 56, 3) := by decide +kernel
theorem eX_holders_19 : decode mX_holders.2.1 19 = .ok (.iaload, 1) := by decide +kernel
theorem eX_holders_20 : decode mX_holders.2.1 20 = .ok (.istore_n 3, 1) := by decide +kernel
theorem eX_holders_21 : decode mX_holders.2.1 21 = .ok (.aload_n 0, 1) := by decide +kernel
theorem eX_holders_22 : decode mX_holders.2.1 22 = .ok (.iload_n 3, 1) := by decide +kernel
theorem eX_holders_23 : decode mX_holders.2.1 23 = .ok (.invokevirtual 70, 3) := by decide +kernel
theorem eX_holders_26 : decode mX_holders.2.1 26 = .ok (.ifCond .eq 12, 3) := by decide +kernel
theorem eX_holders_29 : decode mX_holders.2.1 29 = .ok (.aload_n 0, 1) := by decide +kernel
theorem eX_holders_30 : decode mX_holders.2.1 30 = .ok (.getfield 26, 3) := by decide +kernel
theorem eX_holders_33 : decode mX_holders.2.1 33 = .ok (.iload_n 3, 1) := by decide +kernel
theorem eX_holders_34 : decode mX_holders.2.1 34 = .ok (.iaload, 1) := by decide +kernel
theorem eX_holders_35 : decode mX_holders.2.1 35 = .ok (.goto 4, 3) := by decide +kernel
theorem eX_holders_38 : decode mX_holders.2.1 38 = .ok (.iconst 0, 1) := by decide +kernel
theorem eX_holders_39 : decode mX_holders.2.1 39 = .ok (.ireturn, 1) := by decide +kernel
theorem eX_changed_0 : decode mX_changed.2.1 0 = .ok (.aload_n 0, 1) := by decide +kernel
theorem eX_changed_1 : decode mX_changed.2.1 1 = .ok (.iload_n 1, 1) := by decide +kernel
theorem eX_changed_2 : decode mX_changed.2.1 2 = .ok (.invokevirtual 106, 3) := by decide +kernel
theorem eX_changed_5 : decode mX_changed.2.1 5 = .ok (.iconst 0, 1) := by decide +kernel
theorem eX_changed_6 : decode mX_changed.2.1 6 = .ok (.istore_n 2, 1) := by decide +kernel
theorem eX_changed_7 : decode mX_changed.2.1 7 = .ok (.iconst 0, 1) := by decide +kernel
theorem eX_changed_8 : decode mX_changed.2.1 8 = .ok (.istore_n 3, 1) := by decide +kernel
theorem eX_changed_9 : decode mX_changed.2.1 9 = .ok (.iload_n 3, 1) := by decide +kernel
theorem eX_changed_10 : decode mX_changed.2.1 10 = .ok (.bipush 48, 2) := by decide +kernel
theorem eX_changed_12 : decode mX_changed.2.1 12 = .ok (.if_icmp .ge 36, 3) := by decide +kernel
theorem eX_changed_15 : decode mX_changed.2.1 15 = .ok (.aload_n 0, 1) := by decide +kernel
theorem eX_changed_16 : decode mX_changed.2.1 16 = .ok (.getfield 29, 3) := by decide +kernel
theorem eX_changed_19 : decode mX_changed.2.1 19 = .ok (.sipush 384, 3) := by decide +kernel
theorem eX_changed_22 : decode mX_changed.2.1 22 = .ok (.iload_n 3, 1) := by decide +kernel
theorem eX_changed_23 : decode mX_changed.2.1 23 = .ok (.iadd, 1) := by decide +kernel
theorem eX_changed_24 : decode mX_changed.2.1 24 = .ok (.iaload, 1) := by decide +kernel
theorem eX_changed_25 : decode mX_changed.2.1 25 = .ok (.aload_n 0, 1) := by decide +kernel
theorem eX_changed_26 : decode mX_changed.2.1 26 = .ok (.getfield 29, 3) := by decide +kernel
theorem eX_changed_29 : decode mX_changed.2.1 29 = .ok (.iload_n 1, 1) := by decide +kernel
theorem eX_changed_30 : decode mX_changed.2.1 30 = .ok (.bipush 48, 2) := by decide +kernel
theorem eX_changed_32 : decode mX_changed.2.1 32 = .ok (.imul, 1) := by decide +kernel
theorem eX_changed_33 : decode mX_changed.2.1 33 = .ok (.iload_n 3, 1) := by decide +kernel
theorem eX_changed_34 : decode mX_changed.2.1 34 = .ok (.iadd, 1) := by decide +kernel
theorem eX_changed_35 : decode mX_changed.2.1 35 = .ok (.iaload, 1) := by decide +kernel
theorem eX_changed_36 : decode mX_changed.2.1 36 = .ok (.if_icmp .eq 6, 3) := by decide +kernel
theorem eX_changed_39 : decode mX_changed.2.1 39 = .ok (.iinc 2 1, 3) := by decide +kernel
theorem eX_changed_42 : decode mX_changed.2.1 42 = .ok (.iinc 3 1, 3) := by decide +kernel
theorem eX_changed_45 : decode mX_changed.2.1 45 = .ok (.goto (-36), 3) := by decide +kernel
theorem eX_changed_48 : decode mX_changed.2.1 48 = .ok (.iload_n 2, 1) := by decide +kernel
theorem eX_changed_49 : decode mX_changed.2.1 49 = .ok (.ireturn, 1) := by decide +kernel
theorem eX_count_0 : decode mX_count.2.1 0 = .ok (.iload_n 1, 1) := by decide +kernel
theorem eX_count_1 : decode mX_count.2.1 1 = .ok (.tableswitch 60 0 4 #[35, 40, 45, 50, 55], 35) := by decide +kernel
theorem eX_count_36 : decode mX_count.2.1 36 = .ok (.aload_n 0, 1) := by decide +kernel
theorem eX_count_37 : decode mX_count.2.1 37 = .ok (.invokevirtual 112, 3) := by decide +kernel
theorem eX_count_40 : decode mX_count.2.1 40 = .ok (.ireturn, 1) := by decide +kernel
theorem eX_count_41 : decode mX_count.2.1 41 = .ok (.aload_n 0, 1) := by decide +kernel
theorem eX_count_42 : decode mX_count.2.1 42 = .ok (.getfield 18, 3) := by decide +kernel
theorem eX_count_45 : decode mX_count.2.1 45 = .ok (.ireturn, 1) := by decide +kernel
theorem eX_count_46 : decode mX_count.2.1 46 = .ok (.aload_n 0, 1) := by decide +kernel
theorem eX_count_47 : decode mX_count.2.1 47 = .ok (.invokevirtual 109, 3) := by decide +kernel
theorem eX_count_50 : decode mX_count.2.1 50 = .ok (.ireturn, 1) := by decide +kernel
theorem eX_count_51 : decode mX_count.2.1 51 = .ok (.aload_n 0, 1) := by decide +kernel
theorem eX_count_52 : decode mX_count.2.1 52 = .ok (.invokevirtual 118, 3) := by decide +kernel
theorem eX_count_55 : decode mX_count.2.1 55 = .ok (.ireturn, 1) := by decide +kernel
theorem eX_count_56 : decode mX_count.2.1 56 = .ok (.aload_n 0, 1) := by decide +kernel
theorem eX_count_57 : decode mX_count.2.1 57 = .ok (.invokevirtual 121, 3) := by decide +kernel
theorem eX_count_60 : decode mX_count.2.1 60 = .ok (.ireturn, 1) := by decide +kernel
theorem eX_count_61 : decode mX_count.2.1 61 = .ok (.iconst (-1), 1) := by decide +kernel
theorem eX_count_62 : decode mX_count.2.1 62 = .ok (.ireturn, 1) := by decide +kernel
theorem eX_isThere_0 : decode mX_isThere.2.1 0 = .ok (.iload_n 1, 1) := by decide +kernel
theorem eX_isThere_1 : decode mX_isThere.2.1 1 = .ok (.ifCond .lt 27, 3) := by decide +kernel
theorem eX_isThere_4 : decode mX_isThere.2.1 4 = .ok (.iload_n 1, 1) := by decide +kernel
theorem eX_isThere_5 : decode mX_isThere.2.1 5 = .ok (.bipush 6, 2) := by decide +kernel
theorem eX_isThere_7 : decode mX_isThere.2.1 7 = .ok (.if_icmp .ge 21, 3) := by decide +kernel
theorem eX_isThere_10 : decode mX_isThere.2.1 10 = .ok (.aload_n 0, 1) := by decide +kernel
theorem eX_isThere_11 : decode mX_isThere.2.1 11 = .ok (.getfield 38, 3) := by decide +kernel
theorem eX_isThere_14 : decode mX_isThere.2.1 14 = .ok (.bipush 8, 2) := by decide +kernel
theorem eX_isThere_16 : decode mX_isThere.2.1 16 = .ok (.iload_n 1, 1) := by decide +kernel
theorem eX_isThere_17 : decode mX_isThere.2.1 17 = .ok (.invokestatic 49, 3) := by decide +kernel
theorem eX_isThere_20 : decode mX_isThere.2.1 20 = .ok (.baload, 1) := by decide +kernel
theorem eX_isThere_21 : decode mX_isThere.2.1 21 = .ok (.ifCond .eq 7, 3) := by decide +kernel
theorem eX_isThere_24 : decode mX_isThere.2.1 24 = .ok (.iconst 1, 1) := by decide +kernel
theorem eX_isThere_25 : decode mX_isThere.2.1 25 = .ok (.goto 4, 3) := by decide +kernel
theorem eX_isThere_28 : decode mX_isThere.2.1 28 = .ok (.iconst 0, 1) := by decide +kernel
theorem eX_isThere_29 : decode mX_isThere.2.1 29 = .ok (.ireturn, 1) := by decide +kernel
theorem eX_needSpace_0 : decode mX_needSpace.2.1 0 = .ok (.aload_n 0, 1) := by decide +kernel
theorem eX_needSpace_1 : decode mX_needSpace.2.1 1 = .ok (.iload_n 1, 1) := by decide +kernel
theorem eX_needSpace_2 : decode mX_needSpace.2.1 2 = .ok (.invokevirtual 124, 3) := by decide +kernel
theorem eX_needSpace_5 : decode mX_needSpace.2.1 5 = .ok (.ifCond .ne 13, 3) := by decide +kernel
theorem eX_needSpace_8 : decode mX_needSpace.2.1 8 = .ok (.new 127, 3) := by decide +kernel
theorem eX_needSpace_11 : decode mX_needSpace.2.1 11 = .ok (.dup, 1) := by decide +kernel
theorem eX_needSpace_12 : decode mX_needSpace.2.1 12 = .ok (.ldc 129, 2) := by decide +kernel
theorem eX_needSpace_14 : decode mX_needSpace.2.1 14 = .ok (.invokespecial 131, 3) := by decide +kernel
theorem eX_needSpace_17 : decode mX_needSpace.2.1 17 = .ok (.athrow, 1) := by decide +kernel
theorem eX_needSpace_18 : decode mX_needSpace.2.1 18 = .ok (.return_, 1) := by decide +kernel
theorem eX_needPage_0 : decode mX_needPage.2.1 0 = .ok (.iload_n 1, 1) := by decide +kernel
theorem eX_needPage_1 : decode mX_needPage.2.1 1 = .ok (.ifCond .lt 9, 3) := by decide +kernel
theorem eX_needPage_4 : decode mX_needPage.2.1 4 = .ok (.iload_n 1, 1) := by decide +kernel
theorem eX_needPage_5 : decode mX_needPage.2.1 5 = .ok (.bipush 8, 2) := by decide +kernel
theorem eX_needPage_7 : decode mX_needPage.2.1 7 = .ok (.if_icmp .lt 13, 3) := by decide +kernel
theorem eX_needPage_10 : decode mX_needPage.2.1 10 = .ok (.new 134, 3) := by decide +kernel
theorem eX_needPage_13 : decode mX_needPage.2.1 13 = .ok (.dup, 1) := by decide +kernel
theorem eX_needPage_14 : decode mX_needPage.2.1 14 = .ok (.ldc 136, 2) := by decide +kernel
theorem eX_needPage_16 : decode mX_needPage.2.1 16 = .ok (.invokespecial 138, 3) := by decide +kernel
theorem eX_needPage_19 : decode mX_needPage.2.1 19 = .ok (.athrow, 1) := by decide +kernel
theorem eX_needPage_20 : decode mX_needPage.2.1 20 = .ok (.return_, 1) := by decide +kernel
theorem eX_needTwoPages_0 : decode mX_needTwoPages.2.1 0 = .ok (.aload_n 0, 1) := by decide +kernel
theorem eX_needTwoPages_1 : decode mX_needTwoPages.2.1 1 = .ok (.iload_n 1, 1) := by decide +kernel
theorem eX_needTwoPages_2 : decode mX_needTwoPages.2.1 2 = .ok (.invokevirtual 52, 3) := by decide +kernel
theorem eX_needTwoPages_5 : decode mX_needTwoPages.2.1 5 = .ok (.aload_n 0, 1) := by decide +kernel
theorem eX_needTwoPages_6 : decode mX_needTwoPages.2.1 6 = .ok (.iload_n 3, 1) := by decide +kernel
theorem eX_needTwoPages_7 : decode mX_needTwoPages.2.1 7 = .ok (.invokevirtual 52, 3) := by decide +kernel
theorem eX_needTwoPages_10 : decode mX_needTwoPages.2.1 10 = .ok (.aload_n 0, 1) := by decide +kernel
theorem eX_needTwoPages_11 : decode mX_needTwoPages.2.1 11 = .ok (.iload_n 2, 1) := by decide +kernel
theorem eX_needTwoPages_12 : decode mX_needTwoPages.2.1 12 = .ok (.invokevirtual 67, 3) := by decide +kernel
theorem eX_needTwoPages_15 : decode mX_needTwoPages.2.1 15 = .ok (.aload_n 0, 1) := by decide +kernel
theorem eX_needTwoPages_16 : decode mX_needTwoPages.2.1 16 = .ok (.iload 4, 2) := by decide +kernel
theorem eX_needTwoPages_18 : decode mX_needTwoPages.2.1 18 = .ok (.invokevirtual 67, 3) := by decide +kernel
theorem eX_needTwoPages_21 : decode mX_needTwoPages.2.1 21 = .ok (.return_, 1) := by decide +kernel
theorem eX_needPicture_0 : decode mX_needPicture.2.1 0 = .ok (.iload_n 1, 1) := by decide +kernel
theorem eX_needPicture_1 : decode mX_needPicture.2.1 1 = .ok (.ifCond .lt 18, 3) := by decide +kernel
theorem eX_needPicture_4 : decode mX_needPicture.2.1 4 = .ok (.iload_n 1, 1) := by decide +kernel
theorem eX_needPicture_5 : decode mX_needPicture.2.1 5 = .ok (.bipush 8, 2) := by decide +kernel
theorem eX_needPicture_7 : decode mX_needPicture.2.1 7 = .ok (.if_icmp .ge 12, 3) := by decide +kernel
theorem eX_needPicture_10 : decode mX_needPicture.2.1 10 = .ok (.aload_n 0, 1) := by decide +kernel
theorem eX_needPicture_11 : decode mX_needPicture.2.1 11 = .ok (.getfield 42, 3) := by decide +kernel
theorem eX_needPicture_14 : decode mX_needPicture.2.1 14 = .ok (.iload_n 1, 1) := by decide +kernel
theorem eX_needPicture_15 : decode mX_needPicture.2.1 15 = .ok (.baload, 1) := by decide +kernel
theorem eX_needPicture_16 : decode mX_needPicture.2.1 16 = .ok (.ifCond .ne 13, 3) := by decide +kernel
theorem eX_needPicture_19 : decode mX_needPicture.2.1 19 = .ok (.new 127, 3) := by decide +kernel
theorem eX_needPicture_22 : decode mX_needPicture.2.1 22 = .ok (.dup, 1) := by decide +kernel
theorem eX_needPicture_23 : decode mX_needPicture.2.1 23 = .ok (.ldc 139, 2) := by decide +kernel
theorem eX_needPicture_25 : decode mX_needPicture.2.1 25 = .ok (.invokespecial 131, 3) := by decide +kernel
theorem eX_needPicture_28 : decode mX_needPicture.2.1 28 = .ok (.athrow, 1) := by decide +kernel
theorem eX_needPicture_29 : decode mX_needPicture.2.1 29 = .ok (.return_, 1) := by decide +kernel
theorem eX_needHolderAt_0 : decode mX_needHolderAt.2.1 0 = .ok (.iload_n 2, 1) := by decide +kernel
theorem eX_needHolderAt_1 : decode mX_needHolderAt.2.1 1 = .ok (.ifCond .lt 10, 3) := by decide +kernel
theorem eX_needHolderAt_4 : decode mX_needHolderAt.2.1 4 = .ok (.iload_n 2, 1) := by decide +kernel
theorem eX_needHolderAt_5 : decode mX_needHolderAt.2.1 5 = .ok (.sipush 128, 3) := by decide +kernel
theorem eX_needHolderAt_8 : decode mX_needHolderAt.2.1 8 = .ok (.if_icmp .lt 13, 3) := by decide +kernel
theorem eX_needHolderAt_11 : decode mX_needHolderAt.2.1 11 = .ok (.new 134, 3) := by decide +kernel
theorem eX_needHolderAt_14 : decode mX_needHolderAt.2.1 14 = .ok (.dup, 1) := by decide +kernel
theorem eX_needHolderAt_15 : decode mX_needHolderAt.2.1 15 = .ok (.ldc 141, 2) := by decide +kernel
theorem eX_needHolderAt_17 : decode mX_needHolderAt.2.1 17 = .ok (.invokespecial 138, 3) := by decide +kernel
theorem eX_needHolderAt_20 : decode mX_needHolderAt.2.1 20 = .ok (.athrow, 1) := by decide +kernel
theorem eX_needHolderAt_21 : decode mX_needHolderAt.2.1 21 = .ok (.aload_n 0, 1) := by decide +kernel
theorem eX_needHolderAt_22 : decode mX_needHolderAt.2.1 22 = .ok (.iload_n 1, 1) := by decide +kernel
theorem eX_needHolderAt_23 : decode mX_needHolderAt.2.1 23 = .ok (.invokevirtual 52, 3) := by decide +kernel
theorem eX_needHolderAt_26 : decode mX_needHolderAt.2.1 26 = .ok (.iload_n 1, 1) := by decide +kernel
theorem eX_needHolderAt_27 : decode mX_needHolderAt.2.1 27 = .ok (.iload_n 2, 1) := by decide +kernel
theorem eX_needHolderAt_28 : decode mX_needHolderAt.2.1 28 = .ok (.bipush 16, 2) := by decide +kernel
theorem eX_needHolderAt_30 : decode mX_needHolderAt.2.1 30 = .ok (.idiv, 1) := by decide +kernel
theorem eX_needHolderAt_31 : decode mX_needHolderAt.2.1 31 = .ok (.invokestatic 56, 3) := by decide +kernel
theorem eX_needHolderAt_34 : decode mX_needHolderAt.2.1 34 = .ok (.istore_n 3, 1) := by decide +kernel
theorem eX_needHolderAt_35 : decode mX_needHolderAt.2.1 35 = .ok (.aload_n 0, 1) := by decide +kernel
theorem eX_needHolderAt_36 : decode mX_needHolderAt.2.1 36 = .ok (.aload_n 0, 1) := by decide +kernel
theorem eX_needHolderAt_37 : decode mX_needHolderAt.2.1 37 = .ok (.getfield 29, 3) := by decide +kernel
theorem eX_needHolderAt_40 : decode mX_needHolderAt.2.1 40 = .ok (.iload_n 3, 1) := by decide +kernel
theorem eX_needHolderAt_41 : decode mX_needHolderAt.2.1 41 = .ok (.iaload, 1) := by decide +kernel
theorem eX_needHolderAt_42 : decode mX_needHolderAt.2.1 42 = .ok (.invokevirtual 70, 3) := by decide +kernel
theorem eX_needHolderAt_45 : decode mX_needHolderAt.2.1 45 = .ok (.ifCond .ne 13, 3) := by decide +kernel
theorem eX_needHolderAt_48 : decode mX_needHolderAt.2.1 48 = .ok (.new 127, 3) := by decide +kernel
theorem eX_needHolderAt_51 : decode mX_needHolderAt.2.1 51 = .ok (.dup, 1) := by decide +kernel
theorem eX_needHolderAt_52 : decode mX_needHolderAt.2.1 52 = .ok (.ldc 143, 2) := by decide +kernel
theorem eX_needHolderAt_54 : decode mX_needHolderAt.2.1 54 = .ok (.invokespecial 131, 3) := by decide +kernel
theorem eX_needHolderAt_57 : decode mX_needHolderAt.2.1 57 = .ok (.athrow, 1) := by decide +kernel
theorem eX_needHolderAt_58 : decode mX_needHolderAt.2.1 58 = .ok (.iload_n 3, 1) := by decide +kernel
theorem eX_needHolderAt_59 : decode mX_needHolderAt.2.1 59 = .ok (.ireturn, 1) := by decide +kernel
theorem eX_needFreeFrame_0 : decode mX_needFreeFrame.2.1 0 = .ok (.iconst 0, 1) := by decide +kernel
theorem eX_needFreeFrame_1 : decode mX_needFreeFrame.2.1 1 = .ok (.istore_n 1, 1) := by decide +kernel
theorem eX_needFreeFrame_2 : decode mX_needFreeFrame.2.1 2 = .ok (.iload_n 1, 1) := by decide +kernel
theorem eX_needFreeFrame_3 : decode mX_needFreeFrame.2.1 3 = .ok (.aload_n 0, 1) := by decide +kernel
theorem eX_needFreeFrame_4 : decode mX_needFreeFrame.2.1 4 = .ok (.getfield 18, 3) := by decide +kernel
theorem eX_needFreeFrame_7 : decode mX_needFreeFrame.2.1 7 = .ok (.if_icmp .ge 20, 3) := by decide +kernel
theorem eX_needFreeFrame_10 : decode mX_needFreeFrame.2.1 10 = .ok (.aload_n 0, 1) := by decide +kernel
theorem eX_needFreeFrame_11 : decode mX_needFreeFrame.2.1 11 = .ok (.getfield 26, 3) := by decide +kernel
theorem eX_needFreeFrame_14 : decode mX_needFreeFrame.2.1 14 = .ok (.iload_n 1, 1) := by decide +kernel
theorem eX_needFreeFrame_15 : decode mX_needFreeFrame.2.1 15 = .ok (.iaload, 1) := by decide +kernel
theorem eX_needFreeFrame_16 : decode mX_needFreeFrame.2.1 16 = .ok (.ifCond .ne 5, 3) := by decide +kernel
theorem eX_needFreeFrame_19 : decode mX_needFreeFrame.2.1 19 = .ok (.iload_n 1, 1) := by decide +kernel
theorem eX_needFreeFrame_20 : decode mX_needFreeFrame.2.1 20 = .ok (.ireturn, 1) := by decide +kernel
theorem eX_needFreeFrame_21 : decode mX_needFreeFrame.2.1 21 = .ok (.iinc 1 1, 3) := by decide +kernel
theorem eX_needFreeFrame_24 : decode mX_needFreeFrame.2.1 24 = .ok (.goto (-22), 3) := by decide +kernel
theorem eX_needFreeFrame_27 : decode mX_needFreeFrame.2.1 27 = .ok (.new 145, 3) := by decide +kernel
theorem eX_needFreeFrame_30 : decode mX_needFreeFrame.2.1 30 = .ok (.dup, 1) := by decide +kernel
theorem eX_needFreeFrame_31 : decode mX_needFreeFrame.2.1 31 = .ok (.ldc 147, 2) := by decide +kernel
theorem eX_needFreeFrame_33 : decode mX_needFreeFrame.2.1 33 = .ok (.invokespecial 149, 3) := by decide +kernel
theorem eX_needFreeFrame_36 : decode mX_needFreeFrame.2.1 36 = .ok (.athrow, 1) := by decide +kernel
theorem eX_needOwnFrame_0 : decode mX_needOwnFrame.2.1 0 = .ok (.aload_n 0, 1) := by decide +kernel
theorem eX_needOwnFrame_1 : decode mX_needOwnFrame.2.1 1 = .ok (.getfield 29, 3) := by decide +kernel
theorem eX_needOwnFrame_4 : decode mX_needOwnFrame.2.1 4 = .ok (.iload_n 1, 1) := by decide +kernel
theorem eX_needOwnFrame_5 : decode mX_needOwnFrame.2.1 5 = .ok (.iaload, 1) := by decide +kernel
theorem eX_needOwnFrame_6 : decode mX_needOwnFrame.2.1 6 = .ok (.istore_n 2, 1) := by decide +kernel
end
section
theorem eX_needOwnFrame_7 : decode mX_needOwnFrame.2.1 7 = .ok (.aload_n 0, 1) := by decide +kernel
theorem eX_needOwnFrame_8 : decode mX_needOwnFrame.2.1 8 = .ok (.getfield 26, 3) := by decide +kernel
theorem eX_needOwnFrame_11 : decode mX_needOwnFrame.2.1 11 = .ok (.iload_n 2, 1) := by decide +kernel
theorem eX_needOwnFrame_12 : decode mX_needOwnFrame.2.1 12 = .ok (.iaload, 1) := by decide +kernel
theorem eX_needOwnFrame_13 : decode mX_needOwnFrame.2.1 13 = .ok (.iconst 1, 1) := by decide +kernel
theorem eX_needOwnFrame_14 : decode mX_needOwnFrame.2.1 14 = .ok (.if_icmp .ne 5, 3) := by decide +kernel
theorem eX_needOwnFrame_17 : decode mX_needOwnFrame.2.1 17 = .ok (.iload_n 2, 1) := by decide +kernel
theorem eX_needOwnFrame_18 : decode mX_needOwnFrame.2.1 18 = .ok (.ireturn, 1) := by decide +kernel
theorem eX_needOwnFrame_19 : decode mX_needOwnFrame.2.1 19 = .ok (.aload_n 0, 1) := by decide +kernel
theorem eX_needOwnFrame_20 : decode mX_needOwnFrame.2.1 20 = .ok (.invokevirtual 74, 3) := by decide +kernel
theorem eX_needOwnFrame_23 : decode mX_needOwnFrame.2.1 23 = .ok (.istore_n 3, 1) := by decide +kernel
theorem eX_needOwnFrame_24 : decode mX_needOwnFrame.2.1 24 = .ok (.aload_n 0, 1) := by decide +kernel
theorem eX_needOwnFrame_25 : decode mX_needOwnFrame.2.1 25 = .ok (.getfield 22, 3) := by decide +kernel
theorem eX_needOwnFrame_28 : decode mX_needOwnFrame.2.1 28 = .ok (.iload_n 2, 1) := by decide +kernel
theorem eX_needOwnFrame_29 : decode mX_needOwnFrame.2.1 29 = .ok (.bipush 16, 2) := by decide +kernel
theorem eX_needOwnFrame_31 : decode mX_needOwnFrame.2.1 31 = .ok (.imul, 1) := by decide +kernel
theorem eX_needOwnFrame_32 : decode mX_needOwnFrame.2.1 32 = .ok (.aload_n 0, 1) := by decide +kernel
theorem eX_needOwnFrame_33 : decode mX_needOwnFrame.2.1 33 = .ok (.getfield 22, 3) := by decide +kernel
theorem eX_needOwnFrame_36 : decode mX_needOwnFrame.2.1 36 = .ok (.iload_n 3, 1) := by decide +kernel
theorem eX_needOwnFrame_37 : decode mX_needOwnFrame.2.1 37 = .ok (.bipush 16, 2) := by decide +kernel
theorem eX_needOwnFrame_39 : decode mX_needOwnFrame.2.1 39 = .ok (.imul, 1) := by decide +kernel
theorem eX_needOwnFrame_40 : decode mX_needOwnFrame.2.1 40 = .ok (.bipush 16, 2) := by decide +kernel
theorem eX_needOwnFrame_42 : decode mX_needOwnFrame.2.1 42 = .ok (.invokestatic 150, 3) := by decide +kernel
theorem eX_needOwnFrame_45 : decode mX_needOwnFrame.2.1 45 = .ok (.aload_n 0, 1) := by decide +kernel
theorem eX_needOwnFrame_46 : decode mX_needOwnFrame.2.1 46 = .ok (.iload_n 1, 1) := by decide +kernel
theorem eX_needOwnFrame_47 : decode mX_needOwnFrame.2.1 47 = .ok (.iload_n 3, 1) := by decide +kernel
theorem eX_needOwnFrame_48 : decode mX_needOwnFrame.2.1 48 = .ok (.invokevirtual 59, 3) := by decide +kernel
theorem eX_needOwnFrame_51 : decode mX_needOwnFrame.2.1 51 = .ok (.iload_n 3, 1) := by decide +kernel
theorem eX_needOwnFrame_52 : decode mX_needOwnFrame.2.1 52 = .ok (.ireturn, 1) := by decide +kernel
theorem eX_standIn_0 : decode mX_standIn.2.1 0 = .ok (.aload_n 0, 1) := by decide +kernel
theorem eX_standIn_1 : decode mX_standIn.2.1 1 = .ok (.getfield 29, 3) := by decide +kernel
theorem eX_standIn_4 : decode mX_standIn.2.1 4 = .ok (.iload_n 1, 1) := by decide +kernel
theorem eX_standIn_5 : decode mX_standIn.2.1 5 = .ok (.iaload, 1) := by decide +kernel
theorem eX_standIn_6 : decode mX_standIn.2.1 6 = .ok (.istore_n 3, 1) := by decide +kernel
theorem eX_standIn_7 : decode mX_standIn.2.1 7 = .ok (.aload_n 0, 1) := by decide +kernel
theorem eX_standIn_8 : decode mX_standIn.2.1 8 = .ok (.iload_n 3, 1) := by decide +kernel
theorem eX_standIn_9 : decode mX_standIn.2.1 9 = .ok (.invokevirtual 70, 3) := by decide +kernel
theorem eX_standIn_12 : decode mX_standIn.2.1 12 = .ok (.ifCond .eq 13, 3) := by decide +kernel
theorem eX_standIn_15 : decode mX_standIn.2.1 15 = .ok (.aload_n 0, 1) := by decide +kernel
theorem eX_standIn_16 : decode mX_standIn.2.1 16 = .ok (.getfield 26, 3) := by decide +kernel
theorem eX_standIn_19 : decode mX_standIn.2.1 19 = .ok (.iload_n 3, 1) := by decide +kernel
theorem eX_standIn_20 : decode mX_standIn.2.1 20 = .ok (.dup2, 1) := by decide +kernel
theorem eX_standIn_21 : decode mX_standIn.2.1 21 = .ok (.iaload, 1) := by decide +kernel
theorem eX_standIn_22 : decode mX_standIn.2.1 22 = .ok (.iconst 1, 1) := by decide +kernel
theorem eX_standIn_23 : decode mX_standIn.2.1 23 = .ok (.isub, 1) := by decide +kernel
theorem eX_standIn_24 : decode mX_standIn.2.1 24 = .ok (.iastore, 1) := by decide +kernel
theorem eX_standIn_25 : decode mX_standIn.2.1 25 = .ok (.aload_n 0, 1) := by decide +kernel
theorem eX_standIn_26 : decode mX_standIn.2.1 26 = .ok (.iload_n 2, 1) := by decide +kernel
theorem eX_standIn_27 : decode mX_standIn.2.1 27 = .ok (.invokevirtual 70, 3) := by decide +kernel
theorem eX_standIn_30 : decode mX_standIn.2.1 30 = .ok (.ifCond .eq 13, 3) := by decide +kernel
theorem eX_standIn_33 : decode mX_standIn.2.1 33 = .ok (.aload_n 0, 1) := by decide +kernel
theorem eX_standIn_34 : decode mX_standIn.2.1 34 = .ok (.getfield 26, 3) := by decide +kernel
theorem eX_standIn_37 : decode mX_standIn.2.1 37 = .ok (.iload_n 2, 1) := by decide +kernel
theorem eX_standIn_38 : decode mX_standIn.2.1 38 = .ok (.dup2, 1) := by decide +kernel
theorem eX_standIn_39 : decode mX_standIn.2.1 39 = .ok (.iaload, 1) := by decide +kernel
theorem eX_standIn_40 : decode mX_standIn.2.1 40 = .ok (.iconst 1, 1) := by decide +kernel
theorem eX_standIn_41 : decode mX_standIn.2.1 41 = .ok (.iadd, 1) := by decide +kernel
theorem eX_standIn_42 : decode mX_standIn.2.1 42 = .ok (.iastore, 1) := by decide +kernel
theorem eX_standIn_43 : decode mX_standIn.2.1 43 = .ok (.aload_n 0, 1) := by decide +kernel
theorem eX_standIn_44 : decode mX_standIn.2.1 44 = .ok (.getfield 29, 3) := by decide +kernel
theorem eX_standIn_47 : decode mX_standIn.2.1 47 = .ok (.iload_n 1, 1) := by decide +kernel
theorem eX_standIn_48 : decode mX_standIn.2.1 48 = .ok (.iload_n 2, 1) := by decide +kernel
theorem eX_standIn_49 : decode mX_standIn.2.1 49 = .ok (.iastore, 1) := by decide +kernel
theorem eX_standIn_50 : decode mX_standIn.2.1 50 = .ok (.return_, 1) := by decide +kernel
theorem eX_moveHolders_0 : decode mX_moveHolders.2.1 0 = .ok (.iconst 0, 1) := by decide +kernel
theorem eX_moveHolders_1 : decode mX_moveHolders.2.1 1 = .ok (.istore_n 3, 1) := by decide +kernel
theorem eX_moveHolders_2 : decode mX_moveHolders.2.1 2 = .ok (.iload_n 3, 1) := by decide +kernel
theorem eX_moveHolders_3 : decode mX_moveHolders.2.1 3 = .ok (.sipush 432, 3) := by decide +kernel
theorem eX_moveHolders_6 : decode mX_moveHolders.2.1 6 = .ok (.if_icmp .ge 25, 3) := by decide +kernel
theorem eX_moveHolders_9 : decode mX_moveHolders.2.1 9 = .ok (.aload_n 0, 1) := by decide +kernel
theorem eX_moveHolders_10 : decode mX_moveHolders.2.1 10 = .ok (.getfield 29, 3) := by decide +kernel
theorem eX_moveHolders_13 : decode mX_moveHolders.2.1 13 = .ok (.iload_n 3, 1) := by decide +kernel
theorem eX_moveHolders_14 : decode mX_moveHolders.2.1 14 = .ok (.iaload, 1) := by decide +kernel
theorem eX_moveHolders_15 : decode mX_moveHolders.2.1 15 = .ok (.iload_n 1, 1) := by decide +kernel
theorem eX_moveHolders_16 : decode mX_moveHolders.2.1 16 = .ok (.if_icmp .ne 9, 3) := by decide +kernel
theorem eX_moveHolders_19 : decode mX_moveHolders.2.1 19 = .ok (.aload_n 0, 1) := by decide +kernel
theorem eX_moveHolders_20 : decode mX_moveHolders.2.1 20 = .ok (.iload_n 3, 1) := by decide +kernel
theorem eX_moveHolders_21 : decode mX_moveHolders.2.1 21 = .ok (.iload_n 2, 1) := by decide +kernel
theorem eX_moveHolders_22 : decode mX_moveHolders.2.1 22 = .ok (.invokevirtual 59, 3) := by decide +kernel
theorem eX_moveHolders_25 : decode mX_moveHolders.2.1 25 = .ok (.iinc 3 1, 3) := by decide +kernel
theorem eX_moveHolders_28 : decode mX_moveHolders.2.1 28 = .ok (.goto (-26), 3) := by decide +kernel
theorem eX_moveHolders_31 : decode mX_moveHolders.2.1 31 = .ok (.return_, 1) := by decide +kernel
theorem eX_copyRow_0 : decode mX_copyRow.2.1 0 = .ok (.iconst 0, 1) := by decide +kernel
theorem eX_copyRow_1 : decode mX_copyRow.2.1 1 = .ok (.istore_n 3, 1) := by decide +kernel
theorem eX_copyRow_2 : decode mX_copyRow.2.1 2 = .ok (.iload_n 3, 1) := by decide +kernel
theorem eX_copyRow_3 : decode mX_copyRow.2.1 3 = .ok (.bipush 6, 2) := by decide +kernel
theorem eX_copyRow_5 : decode mX_copyRow.2.1 5 = .ok (.if_icmp .ge 29, 3) := by decide +kernel
theorem eX_copyRow_8 : decode mX_copyRow.2.1 8 = .ok (.aload_n 0, 1) := by decide +kernel
theorem eX_copyRow_9 : decode mX_copyRow.2.1 9 = .ok (.getfield 38, 3) := by decide +kernel
theorem eX_copyRow_12 : decode mX_copyRow.2.1 12 = .ok (.iload_n 2, 1) := by decide +kernel
theorem eX_copyRow_13 : decode mX_copyRow.2.1 13 = .ok (.iload_n 3, 1) := by decide +kernel
theorem eX_copyRow_14 : decode mX_copyRow.2.1 14 = .ok (.invokestatic 49, 3) := by decide +kernel
theorem eX_copyRow_17 : decode mX_copyRow.2.1 17 = .ok (.aload_n 0, 1) := by decide +kernel
theorem eX_copyRow_18 : decode mX_copyRow.2.1 18 = .ok (.getfield 38, 3) := by decide +kernel
theorem eX_copyRow_21 : decode mX_copyRow.2.1 21 = .ok (.iload_n 1, 1) := by decide +kernel
theorem eX_copyRow_22 : decode mX_copyRow.2.1 22 = .ok (.iload_n 3, 1) := by decide +kernel
theorem eX_copyRow_23 : decode mX_copyRow.2.1 23 = .ok (.invokestatic 49, 3) := by decide +kernel
theorem eX_copyRow_26 : decode mX_copyRow.2.1 26 = .ok (.baload, 1) := by decide +kernel
theorem eX_copyRow_27 : decode mX_copyRow.2.1 27 = .ok (.bastore, 1) := by decide +kernel
theorem eX_copyRow_28 : decode mX_copyRow.2.1 28 = .ok (.iinc 3 1, 3) := by decide +kernel
theorem eX_copyRow_31 : decode mX_copyRow.2.1 31 = .ok (.goto (-29), 3) := by decide +kernel
theorem eX_copyRow_34 : decode mX_copyRow.2.1 34 = .ok (.iconst 0, 1) := by decide +kernel
theorem eX_copyRow_35 : decode mX_copyRow.2.1 35 = .ok (.istore_n 3, 1) := by decide +kernel
theorem eX_copyRow_36 : decode mX_copyRow.2.1 36 = .ok (.iload_n 3, 1) := by decide +kernel
theorem eX_copyRow_37 : decode mX_copyRow.2.1 37 = .ok (.bipush 48, 2) := by decide +kernel
theorem eX_copyRow_39 : decode mX_copyRow.2.1 39 = .ok (.if_icmp .ge 30, 3) := by decide +kernel
theorem eX_copyRow_42 : decode mX_copyRow.2.1 42 = .ok (.aload_n 0, 1) := by decide +kernel
theorem eX_copyRow_43 : decode mX_copyRow.2.1 43 = .ok (.iload_n 2, 1) := by decide +kernel
theorem eX_copyRow_44 : decode mX_copyRow.2.1 44 = .ok (.bipush 48, 2) := by decide +kernel
theorem eX_copyRow_46 : decode mX_copyRow.2.1 46 = .ok (.imul, 1) := by decide +kernel
theorem eX_copyRow_47 : decode mX_copyRow.2.1 47 = .ok (.iload_n 3, 1) := by decide +kernel
theorem eX_copyRow_48 : decode mX_copyRow.2.1 48 = .ok (.iadd, 1) := by decide +kernel
theorem eX_copyRow_49 : decode mX_copyRow.2.1 49 = .ok (.aload_n 0, 1) := by decide +kernel
theorem eX_copyRow_50 : decode mX_copyRow.2.1 50 = .ok (.getfield 29, 3) := by decide +kernel
theorem eX_copyRow_53 : decode mX_copyRow.2.1 53 = .ok (.iload_n 1, 1) := by decide +kernel
theorem eX_copyRow_54 : decode mX_copyRow.2.1 54 = .ok (.bipush 48, 2) := by decide +kernel
theorem eX_copyRow_56 : decode mX_copyRow.2.1 56 = .ok (.imul, 1) := by decide +kernel
theorem eX_copyRow_57 : decode mX_copyRow.2.1 57 = .ok (.iload_n 3, 1) := by decide +kernel
theorem eX_copyRow_58 : decode mX_copyRow.2.1 58 = .ok (.iadd, 1) := by decide +kernel
theorem eX_copyRow_59 : decode mX_copyRow.2.1 59 = .ok (.iaload, 1) := by decide +kernel
theorem eX_copyRow_60 : decode mX_copyRow.2.1 60 = .ok (.invokevirtual 59, 3) := by decide +kernel
theorem eX_copyRow_63 : decode mX_copyRow.2.1 63 = .ok (.iinc 3 1, 3) := by decide +kernel
theorem eX_copyRow_66 : decode mX_copyRow.2.1 66 = .ok (.goto (-30), 3) := by decide +kernel
theorem eX_copyRow_69 : decode mX_copyRow.2.1 69 = .ok (.return_, 1) := by decide +kernel
theorem eX_clearRow_0 : decode mX_clearRow.2.1 0 = .ok (.iconst 0, 1) := by decide +kernel
theorem eX_clearRow_1 : decode mX_clearRow.2.1 1 = .ok (.istore_n 2, 1) := by decide +kernel
theorem eX_clearRow_2 : decode mX_clearRow.2.1 2 = .ok (.iload_n 2, 1) := by decide +kernel
theorem eX_clearRow_3 : decode mX_clearRow.2.1 3 = .ok (.bipush 48, 2) := by decide +kernel
theorem eX_clearRow_5 : decode mX_clearRow.2.1 5 = .ok (.if_icmp .ge 20, 3) := by decide +kernel
theorem eX_clearRow_8 : decode mX_clearRow.2.1 8 = .ok (.aload_n 0, 1) := by decide +kernel
theorem eX_clearRow_9 : decode mX_clearRow.2.1 9 = .ok (.iload_n 1, 1) := by decide +kernel
theorem eX_clearRow_10 : decode mX_clearRow.2.1 10 = .ok (.bipush 48, 2) := by decide +kernel
theorem eX_clearRow_12 : decode mX_clearRow.2.1 12 = .ok (.imul, 1) := by decide +kernel
theorem eX_clearRow_13 : decode mX_clearRow.2.1 13 = .ok (.iload_n 2, 1) := by decide +kernel
theorem eX_clearRow_14 : decode mX_clearRow.2.1 14 = .ok (.iadd, 1) := by decide +kernel
theorem eX_clearRow_15 : decode mX_clearRow.2.1 15 = .ok (.iconst (-1), 1) := by decide +kernel
theorem eX_clearRow_16 : decode mX_clearRow.2.1 16 = .ok (.invokevirtual 59, 3) := by decide +kernel
theorem eX_clearRow_19 : decode mX_clearRow.2.1 19 = .ok (.iinc 2 1, 3) := by decide +kernel
theorem eX_clearRow_22 : decode mX_clearRow.2.1 22 = .ok (.goto (-20), 3) := by decide +kernel
theorem eX_clearRow_25 : decode mX_clearRow.2.1 25 = .ok (.return_, 1) := by decide +kernel
theorem eX_fillFrame_0 : decode mX_fillFrame.2.1 0 = .ok (.iconst 0, 1) := by decide +kernel
theorem eX_fillFrame_1 : decode mX_fillFrame.2.1 1 = .ok (.istore_n 3, 1) := by decide +kernel
theorem eX_fillFrame_2 : decode mX_fillFrame.2.1 2 = .ok (.iload_n 3, 1) := by decide +kernel
theorem eX_fillFrame_3 : decode mX_fillFrame.2.1 3 = .ok (.bipush 16, 2) := by decide +kernel
theorem eX_fillFrame_5 : decode mX_fillFrame.2.1 5 = .ok (.if_icmp .ge 21, 3) := by decide +kernel
theorem eX_fillFrame_8 : decode mX_fillFrame.2.1 8 = .ok (.aload_n 0, 1) := by decide +kernel
theorem eX_fillFrame_9 : decode mX_fillFrame.2.1 9 = .ok (.getfield 22, 3) := by decide +kernel
theorem eX_fillFrame_12 : decode mX_fillFrame.2.1 12 = .ok (.iload_n 1, 1) := by decide +kernel
theorem eX_fillFrame_13 : decode mX_fillFrame.2.1 13 = .ok (.bipush 16, 2) := by decide +kernel
theorem eX_fillFrame_15 : decode mX_fillFrame.2.1 15 = .ok (.imul, 1) := by decide +kernel
theorem eX_fillFrame_16 : decode mX_fillFrame.2.1 16 = .ok (.iload_n 3, 1) := by decide +kernel
theorem eX_fillFrame_17 : decode mX_fillFrame.2.1 17 = .ok (.iadd, 1) := by decide +kernel
theorem eX_fillFrame_18 : decode mX_fillFrame.2.1 18 = .ok (.iload_n 2, 1) := by decide +kernel
theorem eX_fillFrame_19 : decode mX_fillFrame.2.1 19 = .ok (.iastore, 1) := by decide +kernel
theorem eX_fillFrame_20 : decode mX_fillFrame.2.1 20 = .ok (.iinc 3 1, 3) := by decide +kernel
theorem eX_fillFrame_23 : decode mX_fillFrame.2.1 23 = .ok (.goto (-21), 3) := by decide +kernel
theorem eX_fillFrame_26 : decode mX_fillFrame.2.1 26 = .ok (.return_, 1) := by decide +kernel
theorem eX_haveSameCells_0 : decode mX_haveSameCells.2.1 0 = .ok (.iconst 0, 1) := by decide +kernel
theorem eX_haveSameCells_1 : decode mX_haveSameCells.2.1 1 = .ok (.istore_n 3, 1) := by decide +kernel
theorem eX_haveSameCells_2 : decode mX_haveSameCells.2.1 2 = .ok (.iload_n 3, 1) := by decide +kernel
theorem eX_haveSameCells_3 : decode mX_haveSameCells.2.1 3 = .ok (.bipush 16, 2) := by decide +kernel
theorem eX_haveSameCells_5 : decode mX_haveSameCells.2.1 5 = .ok (.if_icmp .ge 36, 3) := by decide +kernel
theorem eX_haveSameCells_8 : decode mX_haveSameCells.2.1 8 = .ok (.aload_n 0, 1) := by decide +kernel
theorem eX_haveSameCells_9 : decode mX_haveSameCells.2.1 9 = .ok (.getfield 22, 3) := by decide +kernel
theorem eX_haveSameCells_12 : decode mX_haveSameCells.2.1 12 = .ok (.iload_n 1, 1) := by decide +kernel
theorem eX_haveSameCells_13 : decode mX_haveSameCells.2.1 13 = .ok (.bipush 16, 2) := by decide +kernel
theorem eX_haveSameCells_15 : decode mX_haveSameCells.2.1 15 = .ok (.imul, 1) := by decide +kernel
theorem eX_haveSameCells_16 : decode mX_haveSameCells.2.1 16 = .ok (.iload_n 3, 1) := by decide +kernel
theorem eX_haveSameCells_17 : decode mX_haveSameCells.2.1 17 = .ok (.iadd, 1) := by decide +kernel
theorem eX_haveSameCells_18 : decode mX_haveSameCells.2.1 18 = .ok (.iaload, 1) := by decide +kernel
theorem eX_haveSameCells_19 : decode mX_haveSameCells.2.1 19 = .ok (.aload_n 0, 1) := by decide +kernel
theorem eX_haveSameCells_20 : decode mX_haveSameCells.2.1 20 = .ok (.getfield 22, 3) := by decide +kernel
theorem eX_haveSameCells_23 : decode mX_haveSameCells.2.1 23 = .ok (.iload_n 2, 1) := by decide +kernel
theorem eX_haveSameCells_24 : decode mX_haveSameCells.2.1 24 = .ok (.bipush 16, 2) := by decide +kernel
theorem eX_haveSameCells_26 : decode mX_haveSameCells.2.1 26 = .ok (.imul, 1) := by decide +kernel
theorem eX_haveSameCells_27 : decode mX_haveSameCells.2.1 27 = .ok (.iload_n 3, 1) := by decide +kernel
theorem eX_haveSameCells_28 : decode mX_haveSameCells.2.1 28 = .ok (.iadd, 1) := by decide +kernel
theorem eX_haveSameCells_29 : decode mX_haveSameCells.2.1 29 = .ok (.iaload, 1) := by decide +kernel
theorem eX_haveSameCells_30 : decode mX_haveSameCells.2.1 30 = .ok (.if_icmp .eq 5, 3) := by decide +kernel
theorem eX_haveSameCells_33 : decode mX_haveSameCells.2.1 33 = .ok (.iconst 0, 1) := by decide +kernel
theorem eX_haveSameCells_34 : decode mX_haveSameCells.2.1 34 = .ok (.ireturn, 1) := by decide +kernel
theorem eX_haveSameCells_35 : decode mX_haveSameCells.2.1 35 = .ok (.iinc 3 1, 3) := by decide +kernel
theorem eX_haveSameCells_38 : decode mX_haveSameCells.2.1 38 = .ok (.goto (-36), 3) := by decide +kernel
theorem eX_haveSameCells_41 : decode mX_haveSameCells.2.1 41 = .ok (.iconst 1, 1) := by decide +kernel
theorem eX_haveSameCells_42 : decode mX_haveSameCells.2.1 42 = .ok (.ireturn, 1) := by decide +kernel
theorem eX_leastMissingSpace_0 : decode mX_leastMissingSpace.2.1 0 = .ok (.iconst 0, 1) := by decide +kernel
theorem eX_leastMissingSpace_1 : decode mX_leastMissingSpace.2.1 1 = .ok (.istore_n 1, 1) := by decide +kernel
theorem eX_leastMissingSpace_2 : decode mX_leastMissingSpace.2.1 2 = .ok (.iload_n 1, 1) := by decide +kernel
theorem eX_leastMissingSpace_3 : decode mX_leastMissingSpace.2.1 3 = .ok (.bipush 6, 2) := by decide +kernel
theorem eX_leastMissingSpace_5 : decode mX_leastMissingSpace.2.1 5 = .ok (.if_icmp .ge 25, 3) := by decide +kernel
theorem eX_leastMissingSpace_8 : decode mX_leastMissingSpace.2.1 8 = .ok (.aload_n 0, 1) := by decide +kernel
theorem eX_leastMissingSpace_9 : decode mX_leastMissingSpace.2.1 9 = .ok (.getfield 38, 3) := by decide +kernel
theorem eX_leastMissingSpace_12 : decode mX_leastMissingSpace.2.1 12 = .ok (.bipush 8, 2) := by decide +kernel
theorem eX_leastMissingSpace_14 : decode mX_leastMissingSpace.2.1 14 = .ok (.iload_n 1, 1) := by decide +kernel
theorem eX_leastMissingSpace_15 : decode mX_leastMissingSpace.2.1 15 = .ok (.invokestatic 49, 3) := by decide +kernel
theorem eX_leastMissingSpace_18 : decode mX_leastMissingSpace.2.1 18 = .ok (.baload, 1) := by decide +kernel
theorem eX_leastMissingSpace_19 : decode mX_leastMissingSpace.2.1 19 = .ok (.ifCond .ne 5, 3) := by decide +kernel
theorem eX_leastMissingSpace_22 : decode mX_leastMissingSpace.2.1 22 = .ok (.iload_n 1, 1) := by decide +kernel
theorem eX_leastMissingSpace_23 : decode mX_leastMissingSpace.2.1 23 = .ok (.ireturn, 1) := by decide +kernel
theorem eX_leastMissingSpace_24 : decode mX_leastMissingSpace.2.1 24 = .ok (.iinc 1 1, 3) := by decide +kernel
theorem eX_leastMissingSpace_27 : decode mX_leastMissingSpace.2.1 27 = .ok (.goto (-25), 3) := by decide +kernel
theorem eX_leastMissingSpace_30 : decode mX_leastMissingSpace.2.1 30 = .ok (.iconst (-1), 1) := by decide +kernel
theorem eX_leastMissingSpace_31 : decode mX_leastMissingSpace.2.1 31 = .ok (.ireturn, 1) := by decide +kernel
theorem eX_leastMissingPicture_0 : decode mX_leastMissingPicture.2.1 0 = .ok (.iconst 0, 1) := by decide +kernel
theorem eX_leastMissingPicture_1 : decode mX_leastMissingPicture.2.1 1 = .ok (.istore_n 1, 1) := by decide +kernel
theorem eX_leastMissingPicture_2 : decode mX_leastMissingPicture.2.1 2 = .ok (.iload_n 1, 1) := by decide +kernel
theorem eX_leastMissingPicture_3 : decode mX_leastMissingPicture.2.1 3 = .ok (.bipush 8, 2) := by decide +kernel
theorem eX_leastMissingPicture_5 : decode mX_leastMissingPicture.2.1 5 = .ok (.if_icmp .ge 20, 3) := by decide +kernel
theorem eX_leastMissingPicture_8 : decode mX_leastMissingPicture.2.1 8 = .ok (.aload_n 0, 1) := by decide +kernel
theorem eX_leastMissingPicture_9 : decode mX_leastMissingPicture.2.1 9 = .ok (.getfield 42, 3) := by decide +kernel
theorem eX_leastMissingPicture_12 : decode mX_leastMissingPicture.2.1 12 = .ok (.iload_n 1, 1) := by decide +kernel
theorem eX_leastMissingPicture_13 : decode mX_leastMissingPicture.2.1 13 = .ok (.baload, 1) := by decide +kernel
theorem eX_leastMissingPicture_14 : decode mX_leastMissingPicture.2.1 14 = .ok (.ifCond .ne 5, 3) := by decide +kernel
theorem eX_leastMissingPicture_17 : decode mX_leastMissingPicture.2.1 17 = .ok (.iload_n 1, 1) := by decide +kernel
theorem eX_leastMissingPicture_18 : decode mX_leastMissingPicture.2.1 18 = .ok (.ireturn, 1) := by decide +kernel
theorem eX_leastMissingPicture_19 : decode mX_leastMissingPicture.2.1 19 = .ok (.iinc 1 1, 3) := by decide +kernel
theorem eX_leastMissingPicture_22 : decode mX_leastMissingPicture.2.1 22 = .ok (.goto (-20), 3) := by decide +kernel
theorem eX_leastMissingPicture_25 : decode mX_leastMissingPicture.2.1 25 = .ok (.iconst (-1), 1) := by decide +kernel
theorem eX_leastMissingPicture_26 : decode mX_leastMissingPicture.2.1 26 = .ok (.ireturn, 1) := by decide +kernel
theorem eX_framesInUse_0 : decode mX_framesInUse.2.1 0 = .ok (.iconst 0, 1) := by decide +kernel
theorem eX_framesInUse_1 : decode mX_framesInUse.2.1 1 = .ok (.istore_n 1, 1) := by decide +kernel
theorem eX_framesInUse_2 : decode mX_framesInUse.2.1 2 = .ok (.iconst 0, 1) := by decide +kernel
theorem eX_framesInUse_3 : decode mX_framesInUse.2.1 3 = .ok (.istore_n 2, 1) := by decide +kernel
theorem eX_framesInUse_4 : decode mX_framesInUse.2.1 4 = .ok (.iload_n 2, 1) := by decide +kernel
theorem eX_framesInUse_5 : decode mX_framesInUse.2.1 5 = .ok (.aload_n 0, 1) := by decide +kernel
theorem eX_framesInUse_6 : decode mX_framesInUse.2.1 6 = .ok (.getfield 18, 3) := by decide +kernel
theorem eX_framesInUse_9 : decode mX_framesInUse.2.1 9 = .ok (.if_icmp .ge 21, 3) := by decide +kernel
theorem eX_framesInUse_12 : decode mX_framesInUse.2.1 12 = .ok (.aload_n 0, 1) := by decide +kernel
theorem eX_framesInUse_13 : decode mX_framesInUse.2.1 13 = .ok (.getfield 26, 3) := by decide +kernel
theorem eX_framesInUse_16 : decode mX_framesInUse.2.1 16 = .ok (.iload_n 2, 1) := by decide +kernel
theorem eX_framesInUse_17 : decode mX_framesInUse.2.1 17 = .ok (.iaload, 1) := by decide +kernel
theorem eX_framesInUse_18 : decode mX_framesInUse.2.1 18 = .ok (.ifCond .le 6, 3) := by decide +kernel
theorem eX_framesInUse_21 : decode mX_framesInUse.2.1 21 = .ok (.iinc 1 1, 3) := by decide +kernel
theorem eX_framesInUse_24 : decode mX_framesInUse.2.1 24 = .ok (.iinc 2 1, 3) := by decide +kernel
theorem eX_framesInUse_27 : decode mX_framesInUse.2.1 27 = .ok (.goto (-23), 3) := by decide +kernel
theorem eX_framesInUse_30 : decode mX_framesInUse.2.1 30 = .ok (.iload_n 1, 1) := by decide +kernel
theorem eX_framesInUse_31 : decode mX_framesInUse.2.1 31 = .ok (.ireturn, 1) := by decide +kernel
theorem eX_spacesNow_0 : decode mX_spacesNow.2.1 0 = .ok (.iconst 0, 1) := by decide +kernel
theorem eX_spacesNow_1 : decode mX_spacesNow.2.1 1 = .ok (.istore_n 1, 1) := by decide +kernel
theorem eX_spacesNow_2 : decode mX_spacesNow.2.1 2 = .ok (.iconst 0, 1) := by decide +kernel
theorem eX_spacesNow_3 : decode mX_spacesNow.2.1 3 = .ok (.istore_n 2, 1) := by decide +kernel
theorem eX_spacesNow_4 : decode mX_spacesNow.2.1 4 = .ok (.iload_n 2, 1) := by decide +kernel
theorem eX_spacesNow_5 : decode mX_spacesNow.2.1 5 = .ok (.bipush 6, 2) := by decide +kernel
theorem eX_spacesNow_7 : decode mX_spacesNow.2.1 7 = .ok (.if_icmp .ge 26, 3) := by decide +kernel
theorem eX_spacesNow_10 : decode mX_spacesNow.2.1 10 = .ok (.aload_n 0, 1) := by decide +kernel
theorem eX_spacesNow_11 : decode mX_spacesNow.2.1 11 = .ok (.getfield 38, 3) := by decide +kernel
theorem eX_spacesNow_14 : decode mX_spacesNow.2.1 14 = .ok (.bipush 8, 2) := by decide +kernel
theorem eX_spacesNow_16 : decode mX_spacesNow.2.1 16 = .ok (.iload_n 2, 1) := by decide +kernel
theorem eX_spacesNow_17 : decode mX_spacesNow.2.1 17 = .ok (.invokestatic 49, 3) := by decide +kernel
theorem eX_spacesNow_20 : decode mX_spacesNow.2.1 20 = .ok (.baload, 1) := by decide +kernel
theorem eX_spacesNow_21 : decode mX_spacesNow.2.1 21 = .ok (.ifCond .eq 6, 3) := by decide +kernel
theorem eX_spacesNow_24 : decode mX_spacesNow.2.1 24 = .ok (.iinc 1 1, 3) := by decide +kernel
theorem eX_spacesNow_27 : decode mX_spacesNow.2.1 27 = .ok (.iinc 2 1, 3) := by decide +kernel
theorem eX_spacesNow_30 : decode mX_spacesNow.2.1 30 = .ok (.goto (-26), 3) := by decide +kernel
theorem eX_spacesNow_33 : decode mX_spacesNow.2.1 33 = .ok (.iload_n 1, 1) := by decide +kernel
theorem eX_spacesNow_34 : decode mX_spacesNow.2.1 34 = .ok (.ireturn, 1) := by decide +kernel
theorem eX_picturesNow_0 : decode mX_picturesNow.2.1 0 = .ok (.iconst 0, 1) := by decide +kernel
theorem eX_picturesNow_1 : decode mX_picturesNow.2.1 1 = .ok (.istore_n 1, 1) := by decide +kernel
theorem eX_picturesNow_2 : decode mX_picturesNow.2.1 2 = .ok (.iconst 0, 1) := by decide +kernel
theorem eX_picturesNow_3 : decode mX_picturesNow.2.1 3 = .ok (.istore_n 2, 1) := by decide +kernel
theorem eX_picturesNow_4 : decode mX_picturesNow.2.1 4 = .ok (.iload_n 2, 1) := by decide +kernel
theorem eX_picturesNow_5 : decode mX_picturesNow.2.1 5 = .ok (.bipush 8, 2) := by decide +kernel
theorem eX_picturesNow_7 : decode mX_picturesNow.2.1 7 = .ok (.if_icmp .ge 21, 3) := by decide +kernel
theorem eX_picturesNow_10 : decode mX_picturesNow.2.1 10 = .ok (.aload_n 0, 1) := by decide +kernel
theorem eX_picturesNow_11 : decode mX_picturesNow.2.1 11 = .ok (.getfield 42, 3) := by decide +kernel
theorem eX_picturesNow_14 : decode mX_picturesNow.2.1 14 = .ok (.iload_n 2, 1) := by decide +kernel
theorem eX_picturesNow_15 : decode mX_picturesNow.2.1 15 = .ok (.baload, 1) := by decide +kernel
theorem eX_picturesNow_16 : decode mX_picturesNow.2.1 16 = .ok (.ifCond .eq 6, 3) := by decide +kernel
theorem eX_picturesNow_19 : decode mX_picturesNow.2.1 19 = .ok (.iinc 1 1, 3) := by decide +kernel
theorem eX_picturesNow_22 : decode mX_picturesNow.2.1 22 = .ok (.iinc 2 1, 3) := by decide +kernel
theorem eX_picturesNow_25 : decode mX_picturesNow.2.1 25 = .ok (.goto (-21), 3) := by decide +kernel
theorem eX_picturesNow_28 : decode mX_picturesNow.2.1 28 = .ok (.iload_n 1, 1) := by decide +kernel
theorem eX_picturesNow_29 : decode mX_picturesNow.2.1 29 = .ok (.ireturn, 1) := by decide +kernel
theorem eX_pagesNow_0 : decode mX_pagesNow.2.1 0 = .ok (.iconst 0, 1) := by decide +kernel
theorem eX_pagesNow_1 : decode mX_pagesNow.2.1 1 = .ok (.istore_n 1, 1) := by decide +kernel
theorem eX_pagesNow_2 : decode mX_pagesNow.2.1 2 = .ok (.iconst 0, 1) := by decide +kernel
theorem eX_pagesNow_3 : decode mX_pagesNow.2.1 3 = .ok (.istore_n 2, 1) := by decide +kernel
theorem eX_pagesNow_4 : decode mX_pagesNow.2.1 4 = .ok (.iload_n 2, 1) := by decide +kernel
theorem eX_pagesNow_5 : decode mX_pagesNow.2.1 5 = .ok (.bipush 6, 2) := by decide +kernel
theorem eX_pagesNow_7 : decode mX_pagesNow.2.1 7 = .ok (.if_icmp .ge 17, 3) := by decide +kernel
theorem eX_pagesNow_10 : decode mX_pagesNow.2.1 10 = .ok (.iload_n 1, 1) := by decide +kernel
theorem eX_pagesNow_11 : decode mX_pagesNow.2.1 11 = .ok (.aload_n 0, 1) := by decide +kernel
theorem eX_pagesNow_12 : decode mX_pagesNow.2.1 12 = .ok (.iload_n 2, 1) := by decide +kernel
theorem eX_pagesNow_13 : decode mX_pagesNow.2.1 13 = .ok (.invokevirtual 63, 3) := by decide +kernel
theorem eX_pagesNow_16 : decode mX_pagesNow.2.1 16 = .ok (.iadd, 1) := by decide +kernel
theorem eX_pagesNow_17 : decode mX_pagesNow.2.1 17 = .ok (.istore_n 1, 1) := by decide +kernel
theorem eX_pagesNow_18 : decode mX_pagesNow.2.1 18 = .ok (.iinc 2 1, 3) := by decide +kernel
theorem eX_pagesNow_21 : decode mX_pagesNow.2.1 21 = .ok (.goto (-17), 3) := by decide +kernel
theorem eX_pagesNow_24 : decode mX_pagesNow.2.1 24 = .ok (.iload_n 1, 1) := by decide +kernel
theorem eX_pagesNow_25 : decode mX_pagesNow.2.1 25 = .ok (.ireturn, 1) := by decide +kernel
theorem eX_pagesOfSpace_0 : decode mX_pagesOfSpace.2.1 0 = .ok (.iconst 0, 1) := by decide +kernel
theorem eX_pagesOfSpace_1 : decode mX_pagesOfSpace.2.1 1 = .ok (.istore_n 2, 1) := by decide +kernel
theorem eX_pagesOfSpace_2 : decode mX_pagesOfSpace.2.1 2 = .ok (.iconst 0, 1) := by decide +kernel
theorem eX_pagesOfSpace_3 : decode mX_pagesOfSpace.2.1 3 = .ok (.istore_n 3, 1) := by decide +kernel
theorem eX_pagesOfSpace_4 : decode mX_pagesOfSpace.2.1 4 = .ok (.iload_n 3, 1) := by decide +kernel
theorem eX_pagesOfSpace_5 : decode mX_pagesOfSpace.2.1 5 = .ok (.bipush 8, 2) := by decide +kernel
theorem eX_pagesOfSpace_7 : decode mX_pagesOfSpace.2.1 7 = .ok (.if_icmp .ge 29, 3) := by decide +kernel
theorem eX_pagesOfSpace_10 : decode mX_pagesOfSpace.2.1 10 = .ok (.aload_n 0, 1) := by decide +kernel
theorem eX_pagesOfSpace_11 : decode mX_pagesOfSpace.2.1 11 = .ok (.aload_n 0, 1) := by decide +kernel
theorem eX_pagesOfSpace_12 : decode mX_pagesOfSpace.2.1 12 = .ok (.getfield 29, 3) := by decide +kernel
theorem eX_pagesOfSpace_15 : decode mX_pagesOfSpace.2.1 15 = .ok (.iload_n 1, 1) := by decide +kernel
theorem eX_pagesOfSpace_16 : decode mX_pagesOfSpace.2.1 16 = .ok (.iload_n 3, 1) := by decide +kernel
theorem eX_pagesOfSpace_17 : decode mX_pagesOfSpace.2.1 17 = .ok (.invokestatic 56, 3) := by decide +kernel
theorem eX_pagesOfSpace_20 : decode mX_pagesOfSpace.2.1 20 = .ok (.iaload, 1) := by decide +kernel
theorem eX_pagesOfSpace_21 : decode mX_pagesOfSpace.2.1 21 = .ok (.invokevirtual 70, 3) := by decide +kernel
theorem eX_pagesOfSpace_24 : decode mX_pagesOfSpace.2.1 24 = .ok (.ifCond .eq 6, 3) := by decide +kernel
theorem eX_pagesOfSpace_27 : decode mX_pagesOfSpace.2.1 27 = .ok (.iinc 2 1, 3) := by decide +kernel
theorem eX_pagesOfSpace_30 : decode mX_pagesOfSpace.2.1 30 = .ok (.iinc 3 1, 3) := by decide +kernel
theorem eX_pagesOfSpace_33 : decode mX_pagesOfSpace.2.1 33 = .ok (.goto (-29), 3) := by decide +kernel
theorem eX_pagesOfSpace_36 : decode mX_pagesOfSpace.2.1 36 = .ok (.iload_n 2, 1) := by decide +kernel
theorem eX_pagesOfSpace_37 : decode mX_pagesOfSpace.2.1 37 = .ok (.ireturn, 1) := by decide +kernel
theorem eX_isFrame_0 : decode mX_isFrame.2.1 0 = .ok (.iload_n 1, 1) := by decide +kernel
theorem eX_isFrame_1 : decode mX_isFrame.2.1 1 = .ok (.ifCond .lt 15, 3) := by decide +kernel
theorem eX_isFrame_4 : decode mX_isFrame.2.1 4 = .ok (.iload_n 1, 1) := by decide +kernel
theorem eX_isFrame_5 : decode mX_isFrame.2.1 5 = .ok (.aload_n 0, 1) := by decide +kernel
theorem eX_isFrame_6 : decode mX_isFrame.2.1 6 = .ok (.getfield 18, 3) := by decide +kernel
theorem eX_isFrame_9 : decode mX_isFrame.2.1 9 = .ok (.if_icmp .ge 7, 3) := by decide +kernel
theorem eX_isFrame_12 : decode mX_isFrame.2.1 12 = .ok (.iconst 1, 1) := by decide +kernel
theorem eX_isFrame_13 : decode mX_isFrame.2.1 13 = .ok (.goto 4, 3) := by decide +kernel
theorem eX_isFrame_16 : decode mX_isFrame.2.1 16 = .ok (.iconst 0, 1) := by decide +kernel
theorem eX_isFrame_17 : decode mX_isFrame.2.1 17 = .ok (.ireturn, 1) := by decide +kernel
theorem eX_spaceIndex_0 : decode mX_spaceIndex.2.1 0 = .ok (.iload_n 0, 1) := by decide +kernel
theorem eX_spaceIndex_1 : decode mX_spaceIndex.2.1 1 = .ok (.bipush 6, 2) := by decide +kernel
theorem eX_spaceIndex_3 : decode mX_spaceIndex.2.1 3 = .ok (.imul, 1) := by decide +kernel
theorem eX_spaceIndex_4 : decode mX_spaceIndex.2.1 4 = .ok (.iload_n 1, 1) := by decide +kernel
theorem eX_spaceIndex_5 : decode mX_spaceIndex.2.1 5 = .ok (.iadd, 1) := by decide +kernel
theorem eX_spaceIndex_6 : decode mX_spaceIndex.2.1 6 = .ok (.ireturn, 1) := by decide +kernel
theorem eX_pageNow_0 : decode mX_pageNow.2.1 0 = .ok (.sipush 384, 3) := by decide +kernel
theorem eX_pageNow_3 : decode mX_pageNow.2.1 3 = .ok (.iload_n 0, 1) := by decide +kernel
theorem eX_pageNow_4 : decode mX_pageNow.2.1 4 = .ok (.bipush 8, 2) := by decide +kernel
theorem eX_pageNow_6 : decode mX_pageNow.2.1 6 = .ok (.imul, 1) := by decide +kernel
theorem eX_pageNow_7 : decode mX_pageNow.2.1 7 = .ok (.iadd, 1) := by decide +kernel
theorem eX_pageNow_8 : decode mX_pageNow.2.1 8 = .ok (.iload_n 1, 1) := by decide +kernel
theorem eX_pageNow_9 : decode mX_pageNow.2.1 9 = .ok (.iadd, 1) := by decide +kernel
theorem eX_pageNow_10 : decode mX_pageNow.2.1 10 = .ok (.ireturn, 1) := by decide +kernel
theorem eX_cellIndex_0 : decode mX_cellIndex.2.1 0 = .ok (.iload_n 0, 1) := by decide +kernel
theorem eX_cellIndex_1 : decode mX_cellIndex.2.1 1 = .ok (.bipush 16, 2) := by decide +kernel
theorem eX_cellIndex_3 : decode mX_cellIndex.2.1 3 = .ok (.imul, 1) := by decide +kernel
theorem eX_cellIndex_4 : decode mX_cellIndex.2.1 4 = .ok (.iload_n 1, 1) := by decide +kernel
theorem eX_cellIndex_5 : decode mX_cellIndex.2.1 5 = .ok (.bipush 16, 2) := by decide +kernel
theorem eX_cellIndex_7 : decode mX_cellIndex.2.1 7 = .ok (.irem, 1) := by decide +kernel
theorem eX_cellIndex_8 : decode mX_cellIndex.2.1 8 = .ok (.iadd, 1) := by decide +kernel
theorem eX_cellIndex_9 : decode mX_cellIndex.2.1 9 = .ok (.ireturn, 1) := by decide +kernel
theorem eX_init_0 : decode mX_init.2.1 0 = .ok (.aload_n 0, 1) := by decide +kernel
theorem eX_init_1 : decode mX_init.2.1 1 = .ok (.invokespecial 3, 3) := by decide +kernel
theorem eX_init_4 : decode mX_init.2.1 4 = .ok (.aload_n 0, 1) := by decide +kernel
theorem eX_init_5 : decode mX_init.2.1 5 = .ok (.iconst 1, 1) := by decide +kernel
theorem eX_init_6 : decode mX_init.2.1 6 = .ok (.bipush 60, 2) := by decide +kernel
theorem eX_init_8 : decode mX_init.2.1 8 = .ok (.iload_n 1, 1) := by decide +kernel
theorem eX_init_9 : decode mX_init.2.1 9 = .ok (.invokestatic 9, 3) := by decide +kernel
theorem eX_init_12 : decode mX_init.2.1 12 = .ok (.invokestatic 15, 3) := by decide +kernel
theorem eX_init_15 : decode mX_init.2.1 15 = .ok (.putfield 18, 3) := by decide +kernel
theorem eX_init_18 : decode mX_init.2.1 18 = .ok (.aload_n 0, 1) := by decide +kernel
theorem eX_init_19 : decode mX_init.2.1 19 = .ok (.aload_n 0, 1) := by decide +kernel
theorem eX_init_20 : decode mX_init.2.1 20 = .ok (.getfield 18, 3) := by decide +kernel
theorem eX_init_23 : decode mX_init.2.1 23 = .ok (.bipush 16, 2) := by decide +kernel
theorem eX_init_25 : decode mX_init.2.1 25 = .ok (.imul, 1) := by decide +kernel
theorem eX_init_26 : decode mX_init.2.1 26 = .ok (.newarray .int, 2) := by decide +kernel
theorem eX_init_28 : decode mX_init.2.1 28 = .ok (.putfield 22, 3) := by decide +kernel
theorem eX_init_31 : decode mX_init.2.1 31 = .ok (.aload_n 0, 1) := by decide +kernel
theorem eX_init_32 : decode mX_init.2.1 32 = .ok (.aload_n 0, 1) := by decide +kernel
theorem eX_init_33 : decode mX_init.2.1 33 = .ok (.getfield 18, 3) := by decide +kernel
theorem eX_init_36 : decode mX_init.2.1 36 = .ok (.newarray .int, 2) := by decide +kernel
theorem eX_init_38 : decode mX_init.2.1 38 = .ok (.putfield 26, 3) := by decide +kernel
theorem eX_init_41 : decode mX_init.2.1 41 = .ok (.aload_n 0, 1) := by decide +kernel
theorem eX_init_42 : decode mX_init.2.1 42 = .ok (.sipush 432, 3) := by decide +kernel
theorem eX_init_45 : decode mX_init.2.1 45 = .ok (.newarray .int, 2) := by decide +kernel
theorem eX_init_47 : decode mX_init.2.1 47 = .ok (.putfield 29, 3) := by decide +kernel
theorem eX_init_50 : decode mX_init.2.1 50 = .ok (.aload_n 0, 1) := by decide +kernel
theorem eX_init_51 : decode mX_init.2.1 51 = .ok (.getfield 29, 3) := by decide +kernel
theorem eX_init_54 : decode mX_init.2.1 54 = .ok (.iconst (-1), 1) := by decide +kernel
theorem eX_init_55 : decode mX_init.2.1 55 = .ok (.invokestatic 32, 3) := by decide +kernel
theorem eX_init_58 : decode mX_init.2.1 58 = .ok (.aload_n 0, 1) := by decide +kernel
theorem eX_init_59 : decode mX_init.2.1 59 = .ok (.bipush 54, 2) := by decide +kernel
theorem eX_init_61 : decode mX_init.2.1 61 = .ok (.newarray .boolean, 2) := by decide +kernel
theorem eX_init_63 : decode mX_init.2.1 63 = .ok (.putfield 38, 3) := by decide +kernel
theorem eX_init_66 : decode mX_init.2.1 66 = .ok (.aload_n 0, 1) := by decide +kernel
theorem eX_init_67 : decode mX_init.2.1 67 = .ok (.bipush 8, 2) := by decide +kernel
theorem eX_init_69 : decode mX_init.2.1 69 = .ok (.newarray .boolean, 2) := by decide +kernel
theorem eX_init_71 : decode mX_init.2.1 71 = .ok (.putfield 42, 3) := by decide +kernel
theorem eX_init_74 : decode mX_init.2.1 74 = .ok (.return_, 1) := by decide +kernel
end
section
theorem eY_thrown_0 : decode mY_thrown.2.1 0 = .ok (.aload_n 0, 1) := by decide +kernel
theorem eY_thrown_1 : decode mY_thrown.2.1 1 = .ok (.getfield 27, 3) := by decide +kernel
theorem eY_thrown_4 : decode mY_thrown.2.1 4 = .ok (.ireturn, 1) := by decide +kernel
theorem eY_page_0 : decode mY_page.2.1 0 = .ok (.bipush 8, 2) := by decide +kernel
theorem eY_page_2 : decode mY_page.2.1 2 = .ok (.bipush 6, 2) := by decide +kernel
theorem eY_page_4 : decode mY_page.2.1 4 = .ok (.iload_n 0, 1) := by decide +kernel
theorem eY_page_5 : decode mY_page.2.1 5 = .ok (.imul, 1) := by decide +kernel
theorem eY_page_6 : decode mY_page.2.1 6 = .ok (.iload_n 1, 1) := by decide +kernel
theorem eY_page_7 : decode mY_page.2.1 7 = .ok (.iadd, 1) := by decide +kernel
theorem eY_page_8 : decode mY_page.2.1 8 = .ok (.imul, 1) := by decide +kernel
theorem eY_page_9 : decode mY_page.2.1 9 = .ok (.iload_n 2, 1) := by decide +kernel
theorem eY_page_10 : decode mY_page.2.1 10 = .ok (.iadd, 1) := by decide +kernel
theorem eY_page_11 : decode mY_page.2.1 11 = .ok (.ireturn, 1) := by decide +kernel
theorem eY_isSpace_0 : decode mY_isSpace.2.1 0 = .ok (.iload_n 1, 1) := by decide +kernel
theorem eY_isSpace_1 : decode mY_isSpace.2.1 1 = .ok (.ifCond .lt 22, 3) := by decide +kernel
theorem eY_isSpace_4 : decode mY_isSpace.2.1 4 = .ok (.iload_n 1, 1) := by decide +kernel
theorem eY_isSpace_5 : decode mY_isSpace.2.1 5 = .ok (.bipush 6, 2) := by decide +kernel
theorem eY_isSpace_7 : decode mY_isSpace.2.1 7 = .ok (.if_icmp .ge 16, 3) := by decide +kernel
theorem eY_isSpace_10 : decode mY_isSpace.2.1 10 = .ok (.aload_n 0, 1) := by decide +kernel
theorem eY_isSpace_11 : decode mY_isSpace.2.1 11 = .ok (.getfield 13, 3) := by decide +kernel
theorem eY_isSpace_14 : decode mY_isSpace.2.1 14 = .ok (.iload_n 1, 1) := by decide +kernel
theorem eY_isSpace_15 : decode mY_isSpace.2.1 15 = .ok (.baload, 1) := by decide +kernel
theorem eY_isSpace_16 : decode mY_isSpace.2.1 16 = .ok (.ifCond .eq 7, 3) := by decide +kernel
theorem eY_isSpace_19 : decode mY_isSpace.2.1 19 = .ok (.iconst 1, 1) := by decide +kernel
theorem eY_isSpace_20 : decode mY_isSpace.2.1 20 = .ok (.goto 4, 3) := by decide +kernel
theorem eY_isSpace_23 : decode mY_isSpace.2.1 23 = .ok (.iconst 0, 1) := by decide +kernel
theorem eY_isSpace_24 : decode mY_isSpace.2.1 24 = .ok (.ireturn, 1) := by decide +kernel
theorem eY_isPage_0 : decode mY_isPage.2.1 0 = .ok (.iload_n 0, 1) := by decide +kernel
theorem eY_isPage_1 : decode mY_isPage.2.1 1 = .ok (.ifCond .lt 13, 3) := by decide +kernel
theorem eY_isPage_4 : decode mY_isPage.2.1 4 = .ok (.iload_n 0, 1) := by decide +kernel
theorem eY_isPage_5 : decode mY_isPage.2.1 5 = .ok (.bipush 8, 2) := by decide +kernel
theorem eY_isPage_7 : decode mY_isPage.2.1 7 = .ok (.if_icmp .ge 7, 3) := by decide +kernel
theorem eY_isPage_10 : decode mY_isPage.2.1 10 = .ok (.iconst 1, 1) := by decide +kernel
theorem eY_isPage_11 : decode mY_isPage.2.1 11 = .ok (.goto 4, 3) := by decide +kernel
theorem eY_isPage_14 : decode mY_isPage.2.1 14 = .ok (.iconst 0, 1) := by decide +kernel
theorem eY_isPage_15 : decode mY_isPage.2.1 15 = .ok (.ireturn, 1) := by decide +kernel
theorem eY_fails_0 : decode mY_fails.2.1 0 = .ok (.aload_n 0, 1) := by decide +kernel
theorem eY_fails_1 : decode mY_fails.2.1 1 = .ok (.iload_n 1, 1) := by decide +kernel
theorem eY_fails_2 : decode mY_fails.2.1 2 = .ok (.ifCond .eq 7, 3) := by decide +kernel
theorem eY_fails_5 : decode mY_fails.2.1 5 = .ok (.iconst 1, 1) := by decide +kernel
theorem eY_fails_6 : decode mY_fails.2.1 6 = .ok (.goto 20, 3) := by decide +kernel
theorem eY_fails_9 : decode mY_fails.2.1 9 = .ok (.iload_n 2, 1) := by decide +kernel
theorem eY_fails_10 : decode mY_fails.2.1 10 = .ok (.ifCond .eq 7, 3) := by decide +kernel
theorem eY_fails_13 : decode mY_fails.2.1 13 = .ok (.iconst 2, 1) := by decide +kernel
theorem eY_fails_14 : decode mY_fails.2.1 14 = .ok (.goto 12, 3) := by decide +kernel
theorem eY_fails_17 : decode mY_fails.2.1 17 = .ok (.iload_n 3, 1) := by decide +kernel
theorem eY_fails_18 : decode mY_fails.2.1 18 = .ok (.ifCond .eq 7, 3) := by decide +kernel
theorem eY_fails_21 : decode mY_fails.2.1 21 = .ok (.iconst 3, 1) := by decide +kernel
theorem eY_fails_22 : decode mY_fails.2.1 22 = .ok (.goto 4, 3) := by decide +kernel
theorem eY_fails_25 : decode mY_fails.2.1 25 = .ok (.iconst 0, 1) := by decide +kernel
theorem eY_fails_26 : decode mY_fails.2.1 26 = .ok (.putfield 27, 3) := by decide +kernel
theorem eY_fails_29 : decode mY_fails.2.1 29 = .ok (.aload_n 0, 1) := by decide +kernel
theorem eY_fails_30 : decode mY_fails.2.1 30 = .ok (.getfield 27, 3) := by decide +kernel
theorem eY_fails_33 : decode mY_fails.2.1 33 = .ok (.ifCond .le 7, 3) := by decide +kernel
theorem eY_fails_36 : decode mY_fails.2.1 36 = .ok (.iconst 1, 1) := by decide +kernel
theorem eY_fails_37 : decode mY_fails.2.1 37 = .ok (.goto 4, 3) := by decide +kernel
theorem eY_fails_40 : decode mY_fails.2.1 40 = .ok (.iconst 0, 1) := by decide +kernel
theorem eY_fails_41 : decode mY_fails.2.1 41 = .ok (.ireturn, 1) := by decide +kernel
theorem eY_holdersOf_0 : decode mY_holdersOf.2.1 0 = .ok (.iconst 0, 1) := by decide +kernel
theorem eY_holdersOf_1 : decode mY_holdersOf.2.1 1 = .ok (.istore_n 2, 1) := by decide +kernel
theorem eY_holdersOf_2 : decode mY_holdersOf.2.1 2 = .ok (.iconst 0, 1) := by decide +kernel
theorem eY_holdersOf_3 : decode mY_holdersOf.2.1 3 = .ok (.istore_n 3, 1) := by decide +kernel
theorem eY_holdersOf_4 : decode mY_holdersOf.2.1 4 = .ok (.iload_n 3, 1) := by decide +kernel
theorem eY_holdersOf_5 : decode mY_holdersOf.2.1 5 = .ok (.sipush 432, 3) := by decide +kernel
theorem eY_holdersOf_8 : decode mY_holdersOf.2.1 8 = .ok (.if_icmp .ge 27, 3) := by decide +kernel
theorem eY_holdersOf_11 : decode mY_holdersOf.2.1 11 = .ok (.aload_n 0, 1) := by decide +kernel
theorem eY_holdersOf_12 : decode mY_holdersOf.2.1 12 = .ok (.getfield 16, 3) := by decide +kernel
theorem eY_holdersOf_15 : decode mY_holdersOf.2.1 15 = .ok (.iload_n 3, 1) := by decide +kernel
theorem eY_holdersOf_16 : decode mY_holdersOf.2.1 16 = .ok (.iaload, 1) := by decide +kernel
theorem eY_holdersOf_17 : decode mY_holdersOf.2.1 17 = .ok (.iload_n 1, 1) := by decide +kernel
theorem eY_holdersOf_18 : decode mY_holdersOf.2.1 18 = .ok (.if_icmp .ne 9, 3) := by decide +kernel
theorem eY_holdersOf_21 : decode mY_holdersOf.2.1 21 = .ok (.iload_n 2, 1) := by decide +kernel
theorem eY_holdersOf_22 : decode mY_holdersOf.2.1 22 = .ok (.iconst 1, 1) := by decide +kernel
theorem eY_holdersOf_23 : decode mY_holdersOf.2.1 23 = .ok (.iadd, 1) := by decide +kernel
theorem eY_holdersOf_24 : decode mY_holdersOf.2.1 24 = .ok (.goto 4, 3) := by decide +kernel
theorem eY_holdersOf_27 : decode mY_holdersOf.2.1 27 = .ok (.iload_n 2, 1) := by decide +kernel
theorem eY_holdersOf_28 : decode mY_holdersOf.2.1 28 = .ok (.istore_n 2, 1) := by decide +kernel
theorem eY_holdersOf_29 : decode mY_holdersOf.2.1 29 = .ok (.iinc 3 1, 3) := by decide +kernel
theorem eY_holdersOf_32 : decode mY_holdersOf.2.1 32 = .ok (.goto (-28), 3) := by decide +kernel
theorem eY_holdersOf_35 : decode mY_holdersOf.2.1 35 = .ok (.iload_n 1, 1) := by decide +kernel
theorem eY_holdersOf_36 : decode mY_holdersOf.2.1 36 = .ok (.ifCond .ne 7, 3) := by decide +kernel
theorem eY_holdersOf_39 : decode mY_holdersOf.2.1 39 = .ok (.iconst 0, 1) := by decide +kernel
theorem eY_holdersOf_40 : decode mY_holdersOf.2.1 40 = .ok (.goto 4, 3) := by decide +kernel
theorem eY_holdersOf_43 : decode mY_holdersOf.2.1 43 = .ok (.iload_n 2, 1) := by decide +kernel
theorem eY_holdersOf_44 : decode mY_holdersOf.2.1 44 = .ok (.ireturn, 1) := by decide +kernel
theorem eY_used_0 : decode mY_used.2.1 0 = .ok (.iconst 0, 1) := by decide +kernel
theorem eY_used_1 : decode mY_used.2.1 1 = .ok (.istore_n 1, 1) := by decide +kernel
theorem eY_used_2 : decode mY_used.2.1 2 = .ok (.iconst 0, 1) := by decide +kernel
theorem eY_used_3 : decode mY_used.2.1 3 = .ok (.istore_n 2, 1) := by decide +kernel
theorem eY_used_4 : decode mY_used.2.1 4 = .ok (.iload_n 2, 1) := by decide +kernel
theorem eY_used_5 : decode mY_used.2.1 5 = .ok (.sipush 432, 3) := by decide +kernel
theorem eY_used_8 : decode mY_used.2.1 8 = .ok (.if_icmp .ge 76, 3) := by decide +kernel
theorem eY_used_11 : decode mY_used.2.1 11 = .ok (.aload_n 0, 1) := by decide +kernel
theorem eY_used_12 : decode mY_used.2.1 12 = .ok (.getfield 16, 3) := by decide +kernel
theorem eY_used_15 : decode mY_used.2.1 15 = .ok (.iload_n 2, 1) := by decide +kernel
theorem eY_used_16 : decode mY_used.2.1 16 = .ok (.iaload, 1) := by decide +kernel
theorem eY_used_17 : decode mY_used.2.1 17 = .ok (.ifCond .ne 6, 3) := by decide +kernel
theorem eY_used_20 : decode mY_used.2.1 20 = .ok (.goto 58, 3) := by decide +kernel
theorem eY_used_23 : decode mY_used.2.1 23 = .ok (.iconst 1, 1) := by decide +kernel
theorem eY_used_24 : decode mY_used.2.1 24 = .ok (.istore_n 3, 1) := by decide +kernel
theorem eY_used_25 : decode mY_used.2.1 25 = .ok (.iconst 0, 1) := by decide +kernel
theorem eY_used_26 : decode mY_used.2.1 26 = .ok (.istore 4, 2) := by decide +kernel
theorem eY_used_28 : decode mY_used.2.1 28 = .ok (.iload 4, 2) := by decide +kernel
theorem eY_used_30 : decode mY_used.2.1 30 = .ok (.iload_n 2, 1) := by decide +kernel
theorem eY_used_31 : decode mY_used.2.1 31 = .ok (.if_icmp .ge 35, 3) := by decide +kernel
theorem eY_used_34 : decode mY_used.2.1 34 = .ok (.iload_n 3, 1) := by decide +kernel
theorem eY_used_35 : decode mY_used.2.1 35 = .ok (.ifCond .eq 31, 3) := by decide +kernel
theorem eY_used_38 : decode mY_used.2.1 38 = .ok (.aload_n 0, 1) := by decide +kernel
theorem eY_used_39 : decode mY_used.2.1 39 = .ok (.getfield 16, 3) := by decide +kernel
theorem eY_used_42 : decode mY_used.2.1 42 = .ok (.iload 4, 2) := by decide +kernel
theorem eY_used_44 : decode mY_used.2.1 44 = .ok (.iaload, 1) := by decide +kernel
theorem eY_used_45 : decode mY_used.2.1 45 = .ok (.aload_n 0, 1) := by decide +kernel
theorem eY_used_46 : decode mY_used.2.1 46 = .ok (.getfield 16, 3) := by decide +kernel
theorem eY_used_49 : decode mY_used.2.1 49 = .ok (.iload_n 2, 1) := by decide +kernel
theorem eY_used_50 : decode mY_used.2.1 50 = .ok (.iaload, 1) := by decide +kernel
theorem eY_used_51 : decode mY_used.2.1 51 = .ok (.if_icmp .eq 7, 3) := by decide +kernel
theorem eY_used_54 : decode mY_used.2.1 54 = .ok (.iconst 1, 1) := by decide +kernel
theorem eY_used_55 : decode mY_used.2.1 55 = .ok (.goto 4, 3) := by decide +kernel
theorem eY_used_58 : decode mY_used.2.1 58 = .ok (.iconst 0, 1) := by decide +kernel
theorem eY_used_59 : decode mY_used.2.1 59 = .ok (.istore_n 3, 1) := by decide +kernel
theorem eY_used_60 : decode mY_used.2.1 60 = .ok (.iinc 4 1, 3) := by decide +kernel
theorem eY_used_63 : decode mY_used.2.1 63 = .ok (.goto (-35), 3) := by decide +kernel
theorem eY_used_66 : decode mY_used.2.1 66 = .ok (.iload_n 3, 1) := by decide +kernel
theorem eY_used_67 : decode mY_used.2.1 67 = .ok (.ifCond .eq 9, 3) := by decide +kernel
theorem eY_used_70 : decode mY_used.2.1 70 = .ok (.iload_n 1, 1) := by decide +kernel
theorem eY_used_71 : decode mY_used.2.1 71 = .ok (.iconst 1, 1) := by decide +kernel
theorem eY_used_72 : decode mY_used.2.1 72 = .ok (.iadd, 1) := by decide +kernel
theorem eY_used_73 : decode mY_used.2.1 73 = .ok (.goto 4, 3) := by decide +kernel
theorem eY_used_76 : decode mY_used.2.1 76 = .ok (.iload_n 1, 1) := by decide +kernel
theorem eY_used_77 : decode mY_used.2.1 77 = .ok (.istore_n 1, 1) := by decide +kernel
theorem eY_used_78 : decode mY_used.2.1 78 = .ok (.iinc 2 1, 3) := by decide +kernel
theorem eY_used_81 : decode mY_used.2.1 81 = .ok (.goto (-77), 3) := by decide +kernel
theorem eY_used_84 : decode mY_used.2.1 84 = .ok (.iload_n 1, 1) := by decide +kernel
theorem eY_used_85 : decode mY_used.2.1 85 = .ok (.ireturn, 1) := by decide +kernel
theorem eY_copyPage_0 : decode mY_copyPage.2.1 0 = .ok (.aload_n 0, 1) := by decide +kernel
theorem eY_copyPage_1 : decode mY_copyPage.2.1 1 = .ok (.getfield 16, 3) := by decide +kernel
theorem eY_copyPage_4 : decode mY_copyPage.2.1 4 = .ok (.iload_n 2, 1) := by decide +kernel
theorem eY_copyPage_5 : decode mY_copyPage.2.1 5 = .ok (.aload_n 0, 1) := by decide +kernel
theorem eY_copyPage_6 : decode mY_copyPage.2.1 6 = .ok (.getfield 16, 3) := by decide +kernel
theorem eY_copyPage_9 : decode mY_copyPage.2.1 9 = .ok (.iload_n 1, 1) := by decide +kernel
theorem eY_copyPage_10 : decode mY_copyPage.2.1 10 = .ok (.iaload, 1) := by decide +kernel
theorem eY_copyPage_11 : decode mY_copyPage.2.1 11 = .ok (.iastore, 1) := by decide +kernel
theorem eY_copyPage_12 : decode mY_copyPage.2.1 12 = .ok (.iconst 0, 1) := by decide +kernel
theorem eY_copyPage_13 : decode mY_copyPage.2.1 13 = .ok (.istore_n 3, 1) := by decide +kernel
theorem eY_copyPage_14 : decode mY_copyPage.2.1 14 = .ok (.iload_n 3, 1) := by decide +kernel
theorem eY_copyPage_15 : decode mY_copyPage.2.1 15 = .ok (.bipush 16, 2) := by decide +kernel
theorem eY_copyPage_17 : decode mY_copyPage.2.1 17 = .ok (.if_icmp .ge 31, 3) := by decide +kernel
theorem eY_copyPage_20 : decode mY_copyPage.2.1 20 = .ok (.aload_n 0, 1) := by decide +kernel
theorem eY_copyPage_21 : decode mY_copyPage.2.1 21 = .ok (.getfield 20, 3) := by decide +kernel
theorem eY_copyPage_24 : decode mY_copyPage.2.1 24 = .ok (.bipush 16, 2) := by decide +kernel
theorem eY_copyPage_26 : decode mY_copyPage.2.1 26 = .ok (.iload_n 2, 1) := by decide +kernel
theorem eY_copyPage_27 : decode mY_copyPage.2.1 27 = .ok (.imul, 1) := by decide +kernel
theorem eY_copyPage_28 : decode mY_copyPage.2.1 28 = .ok (.iload_n 3, 1) := by decide +kernel
theorem eY_copyPage_29 : decode mY_copyPage.2.1 29 = .ok (.iadd, 1) := by decide +kernel
theorem eY_copyPage_30 : decode mY_copyPage.2.1 30 = .ok (.aload_n 0, 1) := by decide +kernel
theorem eY_copyPage_31 : decode mY_copyPage.2.1 31 = .ok (.getfield 20, 3) := by decide +kernel
theorem eY_copyPage_34 : decode mY_copyPage.2.1 34 = .ok (.bipush 16, 2) := by decide +kernel
theorem eY_copyPage_36 : decode mY_copyPage.2.1 36 = .ok (.iload_n 1, 1) := by decide +kernel
theorem eY_copyPage_37 : decode mY_copyPage.2.1 37 = .ok (.imul, 1) := by decide +kernel
theorem eY_copyPage_38 : decode mY_copyPage.2.1 38 = .ok (.iload_n 3, 1) := by decide +kernel
theorem eY_copyPage_39 : decode mY_copyPage.2.1 39 = .ok (.iadd, 1) := by decide +kernel
theorem eY_copyPage_40 : decode mY_copyPage.2.1 40 = .ok (.iaload, 1) := by decide +kernel
theorem eY_copyPage_41 : decode mY_copyPage.2.1 41 = .ok (.iastore, 1) := by decide +kernel
theorem eY_copyPage_42 : decode mY_copyPage.2.1 42 = .ok (.iinc 3 1, 3) := by decide +kernel
theorem eY_copyPage_45 : decode mY_copyPage.2.1 45 = .ok (.goto (-31), 3) := by decide +kernel
theorem eY_copyPage_48 : decode mY_copyPage.2.1 48 = .ok (.return_, 1) := by decide +kernel
theorem eY_copyRow_0 : decode mY_copyRow.2.1 0 = .ok (.iconst 0, 1) := by decide +kernel
theorem eY_copyRow_1 : decode mY_copyRow.2.1 1 = .ok (.istore_n 3, 1) := by decide +kernel
theorem eY_copyRow_2 : decode mY_copyRow.2.1 2 = .ok (.iload_n 3, 1) := by decide +kernel
theorem eY_copyRow_3 : decode mY_copyRow.2.1 3 = .ok (.bipush 6, 2) := by decide +kernel
theorem eY_copyRow_5 : decode mY_copyRow.2.1 5 = .ok (.if_icmp .ge 31, 3) := by decide +kernel
theorem eY_copyRow_8 : decode mY_copyRow.2.1 8 = .ok (.aload_n 0, 1) := by decide +kernel
theorem eY_copyRow_9 : decode mY_copyRow.2.1 9 = .ok (.getfield 13, 3) := by decide +kernel
theorem eY_copyRow_12 : decode mY_copyRow.2.1 12 = .ok (.bipush 6, 2) := by decide +kernel
theorem eY_copyRow_14 : decode mY_copyRow.2.1 14 = .ok (.iload_n 2, 1) := by decide +kernel
theorem eY_copyRow_15 : decode mY_copyRow.2.1 15 = .ok (.imul, 1) := by decide +kernel
theorem eY_copyRow_16 : decode mY_copyRow.2.1 16 = .ok (.iload_n 3, 1) := by decide +kernel
theorem eY_copyRow_17 : decode mY_copyRow.2.1 17 = .ok (.iadd, 1) := by decide +kernel
theorem eY_copyRow_18 : decode mY_copyRow.2.1 18 = .ok (.aload_n 0, 1) := by decide +kernel
theorem eY_copyRow_19 : decode mY_copyRow.2.1 19 = .ok (.getfield 13, 3) := by decide +kernel
theorem eY_copyRow_22 : decode mY_copyRow.2.1 22 = .ok (.bipush 6, 2) := by decide +kernel
theorem eY_copyRow_24 : decode mY_copyRow.2.1 24 = .ok (.iload_n 1, 1) := by decide +kernel
theorem eY_copyRow_25 : decode mY_copyRow.2.1 25 = .ok (.imul, 1) := by decide +kernel
theorem eY_copyRow_26 : decode mY_copyRow.2.1 26 = .ok (.iload_n 3, 1) := by decide +kernel
theorem eY_copyRow_27 : decode mY_copyRow.2.1 27 = .ok (.iadd, 1) := by decide +kernel
theorem eY_copyRow_28 : decode mY_copyRow.2.1 28 = .ok (.baload, 1) := by decide +kernel
theorem eY_copyRow_29 : decode mY_copyRow.2.1 29 = .ok (.bastore, 1) := by decide +kernel
theorem eY_copyRow_30 : decode mY_copyRow.2.1 30 = .ok (.iinc 3 1, 3) := by decide +kernel
theorem eY_copyRow_33 : decode mY_copyRow.2.1 33 = .ok (.goto (-31), 3) := by decide +kernel
theorem eY_copyRow_36 : decode mY_copyRow.2.1 36 = .ok (.iconst 0, 1) := by decide +kernel
theorem eY_copyRow_37 : decode mY_copyRow.2.1 37 = .ok (.istore_n 3, 1) := by decide +kernel
theorem eY_copyRow_38 : decode mY_copyRow.2.1 38 = .ok (.iload_n 3, 1) := by decide +kernel
theorem eY_copyRow_39 : decode mY_copyRow.2.1 39 = .ok (.bipush 48, 2) := by decide +kernel
theorem eY_copyRow_41 : decode mY_copyRow.2.1 41 = .ok (.if_icmp .ge 25, 3) := by decide +kernel
theorem eY_copyRow_44 : decode mY_copyRow.2.1 44 = .ok (.aload_n 0, 1) := by decide +kernel
theorem eY_copyRow_45 : decode mY_copyRow.2.1 45 = .ok (.bipush 48, 2) := by decide +kernel
theorem eY_copyRow_47 : decode mY_copyRow.2.1 47 = .ok (.iload_n 1, 1) := by decide +kernel
theorem eY_copyRow_48 : decode mY_copyRow.2.1 48 = .ok (.imul, 1) := by decide +kernel
theorem eY_copyRow_49 : decode mY_copyRow.2.1 49 = .ok (.iload_n 3, 1) := by decide +kernel
theorem eY_copyRow_50 : decode mY_copyRow.2.1 50 = .ok (.iadd, 1) := by decide +kernel
theorem eY_copyRow_51 : decode mY_copyRow.2.1 51 = .ok (.bipush 48, 2) := by decide +kernel
theorem eY_copyRow_53 : decode mY_copyRow.2.1 53 = .ok (.iload_n 2, 1) := by decide +kernel
theorem eY_copyRow_54 : decode mY_copyRow.2.1 54 = .ok (.imul, 1) := by decide +kernel
theorem eY_copyRow_55 : decode mY_copyRow.2.1 55 = .ok (.iload_n 3, 1) := by decide +kernel
theorem eY_copyRow_56 : decode mY_copyRow.2.1 56 = .ok (.iadd, 1) := by decide +kernel
theorem eY_copyRow_57 : decode mY_copyRow.2.1 57 = .ok (.invokevirtual 30, 3) := by decide +kernel
theorem eY_copyRow_60 : decode mY_copyRow.2.1 60 = .ok (.iinc 3 1, 3) := by decide +kernel
theorem eY_copyRow_63 : decode mY_copyRow.2.1 63 = .ok (.goto (-25), 3) := by decide +kernel
theorem eY_copyRow_66 : decode mY_copyRow.2.1 66 = .ok (.return_, 1) := by decide +kernel
theorem eY_empty_0 : decode mY_empty.2.1 0 = .ok (.aload_n 0, 1) := by decide +kernel
theorem eY_empty_1 : decode mY_empty.2.1 1 = .ok (.getfield 13, 3) := by decide +kernel
theorem eY_empty_4 : decode mY_empty.2.1 4 = .ok (.bipush 6, 2) := by decide +kernel
theorem eY_empty_6 : decode mY_empty.2.1 6 = .ok (.iload_n 1, 1) := by decide +kernel
theorem eY_empty_7 : decode mY_empty.2.1 7 = .ok (.imul, 1) := by decide +kernel
theorem eY_empty_8 : decode mY_empty.2.1 8 = .ok (.iload_n 2, 1) := by decide +kernel
theorem eY_empty_9 : decode mY_empty.2.1 9 = .ok (.iadd, 1) := by decide +kernel
theorem eY_empty_10 : decode mY_empty.2.1 10 = .ok (.iconst 0, 1) := by decide +kernel
theorem eY_empty_11 : decode mY_empty.2.1 11 = .ok (.bastore, 1) := by decide +kernel
theorem eY_empty_12 : decode mY_empty.2.1 12 = .ok (.iconst 0, 1) := by decide +kernel
theorem eY_empty_13 : decode mY_empty.2.1 13 = .ok (.istore_n 3, 1) := by decide +kernel
theorem eY_empty_14 : decode mY_empty.2.1 14 = .ok (.iload_n 3, 1) := by decide +kernel
theorem eY_empty_15 : decode mY_empty.2.1 15 = .ok (.bipush 8, 2) := by decide +kernel
theorem eY_empty_17 : decode mY_empty.2.1 17 = .ok (.if_icmp .ge 21, 3) := by decide +kernel
theorem eY_empty_20 : decode mY_empty.2.1 20 = .ok (.aload_n 0, 1) := by decide +kernel
theorem eY_empty_21 : decode mY_empty.2.1 21 = .ok (.getfield 16, 3) := by decide +kernel
theorem eY_empty_24 : decode mY_empty.2.1 24 = .ok (.iload_n 1, 1) := by decide +kernel
theorem eY_empty_25 : decode mY_empty.2.1 25 = .ok (.iload_n 2, 1) := by decide +kernel
theorem eY_empty_26 : decode mY_empty.2.1 26 = .ok (.iload_n 3, 1) := by decide +kernel
theorem eY_empty_27 : decode mY_empty.2.1 27 = .ok (.invokestatic 34, 3) := by decide +kernel
theorem eY_empty_30 : decode mY_empty.2.1 30 = .ok (.iconst 0, 1) := by decide +kernel
theorem eY_empty_31 : decode mY_empty.2.1 31 = .ok (.iastore, 1) := by decide +kernel
theorem eY_empty_32 : decode mY_empty.2.1 32 = .ok (.iinc 3 1, 3) := by decide +kernel
theorem eY_empty_35 : decode mY_empty.2.1 35 = .ok (.goto (-21), 3) := by decide +kernel
theorem eY_empty_38 : decode mY_empty.2.1 38 = .ok (.return_, 1) := by decide +kernel
theorem eY_free_0 : decode mY_free.2.1 0 = .ok (.iconst 0, 1) := by decide +kernel
theorem eY_free_1 : decode mY_free.2.1 1 = .ok (.istore_n 1, 1) := by decide +kernel
theorem eY_free_2 : decode mY_free.2.1 2 = .ok (.iload_n 1, 1) := by decide +kernel
theorem eY_free_3 : decode mY_free.2.1 3 = .ok (.bipush 6, 2) := by decide +kernel
theorem eY_free_5 : decode mY_free.2.1 5 = .ok (.if_icmp .ge 18, 3) := by decide +kernel
theorem eY_free_8 : decode mY_free.2.1 8 = .ok (.aload_n 0, 1) := by decide +kernel
theorem eY_free_9 : decode mY_free.2.1 9 = .ok (.getfield 13, 3) := by decide +kernel
theorem eY_free_12 : decode mY_free.2.1 12 = .ok (.iload_n 1, 1) := by decide +kernel
theorem eY_free_13 : decode mY_free.2.1 13 = .ok (.baload, 1) := by decide +kernel
theorem eY_free_14 : decode mY_free.2.1 14 = .ok (.ifCond .eq 9, 3) := by decide +kernel
theorem eY_free_17 : decode mY_free.2.1 17 = .ok (.iinc 1 1, 3) := by decide +kernel
theorem eY_free_20 : decode mY_free.2.1 20 = .ok (.goto (-18), 3) := by decide +kernel
theorem eY_free_23 : decode mY_free.2.1 23 = .ok (.iload_n 1, 1) := by decide +kernel
theorem eY_free_24 : decode mY_free.2.1 24 = .ok (.bipush 6, 2) := by decide +kernel
theorem eY_free_26 : decode mY_free.2.1 26 = .ok (.if_icmp .ge 7, 3) := by decide +kernel
theorem eY_free_29 : decode mY_free.2.1 29 = .ok (.iload_n 1, 1) := by decide +kernel
theorem eY_free_30 : decode mY_free.2.1 30 = .ok (.goto 4, 3) := by decide +kernel
theorem eY_free_33 : decode mY_free.2.1 33 = .ok (.iconst (-1), 1) := by decide +kernel
theorem eY_free_34 : decode mY_free.2.1 34 = .ok (.ireturn, 1) := by decide +kernel
theorem eY_pagesOf_0 : decode mY_pagesOf.2.1 0 = .ok (.iconst 0, 1) := by decide +kernel
theorem eY_pagesOf_1 : decode mY_pagesOf.2.1 1 = .ok (.istore_n 2, 1) := by decide +kernel
theorem eY_pagesOf_2 : decode mY_pagesOf.2.1 2 = .ok (.iconst 0, 1) := by decide +kernel
theorem eY_pagesOf_3 : decode mY_pagesOf.2.1 3 = .ok (.istore_n 3, 1) := by decide +kernel
theorem eY_pagesOf_4 : decode mY_pagesOf.2.1 4 = .ok (.iload_n 3, 1) := by decide +kernel
theorem eY_pagesOf_5 : decode mY_pagesOf.2.1 5 = .ok (.bipush 8, 2) := by decide +kernel
theorem eY_pagesOf_7 : decode mY_pagesOf.2.1 7 = .ok (.if_icmp .ge 31, 3) := by decide +kernel
theorem eY_pagesOf_10 : decode mY_pagesOf.2.1 10 = .ok (.aload_n 0, 1) := by decide +kernel
theorem eY_pagesOf_11 : decode mY_pagesOf.2.1 11 = .ok (.getfield 16, 3) := by decide +kernel
theorem eY_pagesOf_14 : decode mY_pagesOf.2.1 14 = .ok (.iconst 0, 1) := by decide +kernel
theorem eY_pagesOf_15 : decode mY_pagesOf.2.1 15 = .ok (.iload_n 1, 1) := by decide +kernel
theorem eY_pagesOf_16 : decode mY_pagesOf.2.1 16 = .ok (.iload_n 3, 1) := by decide +kernel
theorem eY_pagesOf_17 : decode mY_pagesOf.2.1 17 = .ok (.invokestatic 34, 3) := by decide +kernel
theorem eY_pagesOf_20 : decode mY_pagesOf.2.1 20 = .ok (.iaload, 1) := by decide +kernel
theorem eY_pagesOf_21 : decode mY_pagesOf.2.1 21 = .ok (.ifCond .le 9, 3) := by decide +kernel
theorem eY_pagesOf_24 : decode mY_pagesOf.2.1 24 = .ok (.iload_n 2, 1) := by decide +kernel
theorem eY_pagesOf_25 : decode mY_pagesOf.2.1 25 = .ok (.iconst 1, 1) := by decide +kernel
theorem eY_pagesOf_26 : decode mY_pagesOf.2.1 26 = .ok (.iadd, 1) := by decide +kernel
theorem eY_pagesOf_27 : decode mY_pagesOf.2.1 27 = .ok (.goto 4, 3) := by decide +kernel
theorem eY_pagesOf_30 : decode mY_pagesOf.2.1 30 = .ok (.iload_n 2, 1) := by decide +kernel
theorem eY_pagesOf_31 : decode mY_pagesOf.2.1 31 = .ok (.istore_n 2, 1) := by decide +kernel
theorem eY_pagesOf_32 : decode mY_pagesOf.2.1 32 = .ok (.iinc 3 1, 3) := by decide +kernel
theorem eY_pagesOf_35 : decode mY_pagesOf.2.1 35 = .ok (.goto (-31), 3) := by decide +kernel
theorem eY_pagesOf_38 : decode mY_pagesOf.2.1 38 = .ok (.iload_n 2, 1) := by decide +kernel
theorem eY_pagesOf_39 : decode mY_pagesOf.2.1 39 = .ok (.ireturn, 1) := by decide +kernel
theorem eY_open_0 : decode mY_open.2.1 0 = .ok (.aload_n 0, 1) := by decide +kernel
theorem eY_open_1 : decode mY_open.2.1 1 = .ok (.iconst 0, 1) := by decide +kernel
theorem eY_open_2 : decode mY_open.2.1 2 = .ok (.putfield 27, 3) := by decide +kernel
theorem eY_open_5 : decode mY_open.2.1 5 = .ok (.aload_n 0, 1) := by decide +kernel
theorem eY_open_6 : decode mY_open.2.1 6 = .ok (.invokevirtual 38, 3) := by decide +kernel
theorem eY_open_9 : decode mY_open.2.1 9 = .ok (.istore_n 1, 1) := by decide +kernel
theorem eY_open_10 : decode mY_open.2.1 10 = .ok (.iload_n 1, 1) := by decide +kernel
theorem eY_open_11 : decode mY_open.2.1 11 = .ok (.ifCond .lt 10, 3) := by decide +kernel
theorem eY_open_14 : decode mY_open.2.1 14 = .ok (.aload_n 0, 1) := by decide +kernel
theorem eY_open_15 : decode mY_open.2.1 15 = .ok (.getfield 13, 3) := by decide +kernel
theorem eY_open_18 : decode mY_open.2.1 18 = .ok (.iload_n 1, 1) := by decide +kernel
theorem eY_open_19 : decode mY_open.2.1 19 = .ok (.iconst 1, 1) := by decide +kernel
theorem eY_open_20 : decode mY_open.2.1 20 = .ok (.bastore, 1) := by decide +kernel
theorem eY_open_21 : decode mY_open.2.1 21 = .ok (.iload_n 1, 1) := by decide +kernel
theorem eY_open_22 : decode mY_open.2.1 22 = .ok (.ireturn, 1) := by decide +kernel
theorem eY_fork_0 : decode mY_fork.2.1 0 = .ok (.aload_n 0, 1) := by decide +kernel
theorem eY_fork_1 : decode mY_fork.2.1 1 = .ok (.aload_n 0, 1) := by decide +kernel
theorem eY_fork_2 : decode mY_fork.2.1 2 = .ok (.iload_n 1, 1) := by decide +kernel
theorem eY_fork_3 : decode mY_fork.2.1 3 = .ok (.invokevirtual 42, 3) := by decide +kernel
theorem eY_fork_6 : decode mY_fork.2.1 6 = .ok (.ifCond .ne 7, 3) := by decide +kernel
theorem eY_fork_9 : decode mY_fork.2.1 9 = .ok (.iconst 1, 1) := by decide +kernel
theorem eY_fork_10 : decode mY_fork.2.1 10 = .ok (.goto 4, 3) := by decide +kernel
theorem eY_fork_13 : decode mY_fork.2.1 13 = .ok (.iconst 0, 1) := by decide +kernel
theorem eY_fork_14 : decode mY_fork.2.1 14 = .ok (.iconst 0, 1) := by decide +kernel
theorem eY_fork_15 : decode mY_fork.2.1 15 = .ok (.iconst 0, 1) := by decide +kernel
theorem eY_fork_16 : decode mY_fork.2.1 16 = .ok (.invokevirtual 46, 3) := by decide +kernel
theorem eY_fork_19 : decode mY_fork.2.1 19 = .ok (.ifCond .eq 5, 3) := by decide +kernel
theorem eY_fork_22 : decode mY_fork.2.1 22 = .ok (.iconst 0, 1) := by decide +kernel
theorem eY_fork_23 : decode mY_fork.2.1 23 = .ok (.ireturn, 1) := by decide +kernel
theorem eY_fork_24 : decode mY_fork.2.1 24 = .ok (.aload_n 0, 1) := by decide +kernel
theorem eY_fork_25 : decode mY_fork.2.1 25 = .ok (.invokevirtual 38, 3) := by decide +kernel
theorem eY_fork_28 : decode mY_fork.2.1 28 = .ok (.istore_n 2, 1) := by decide +kernel
theorem eY_fork_29 : decode mY_fork.2.1 29 = .ok (.iload_n 2, 1) := by decide +kernel
theorem eY_fork_30 : decode mY_fork.2.1 30 = .ok (.ifCond .ge 5, 3) := by decide +kernel
theorem eY_fork_33 : decode mY_fork.2.1 33 = .ok (.iconst (-1), 1) := by decide +kernel
theorem eY_fork_34 : decode mY_fork.2.1 34 = .ok (.ireturn, 1) := by decide +kernel
theorem eY_fork_35 : decode mY_fork.2.1 35 = .ok (.aload_n 0, 1) := by decide +kernel
theorem eY_fork_36 : decode mY_fork.2.1 36 = .ok (.getfield 13, 3) := by decide +kernel
theorem eY_fork_39 : decode mY_fork.2.1 39 = .ok (.iload_n 2, 1) := by decide +kernel
theorem eY_fork_40 : decode mY_fork.2.1 40 = .ok (.iconst 1, 1) := by decide +kernel
theorem eY_fork_41 : decode mY_fork.2.1 41 = .ok (.bastore, 1) := by decide +kernel
theorem eY_fork_42 : decode mY_fork.2.1 42 = .ok (.iconst 0, 1) := by decide +kernel
theorem eY_fork_43 : decode mY_fork.2.1 43 = .ok (.istore_n 3, 1) := by decide +kernel
theorem eY_fork_44 : decode mY_fork.2.1 44 = .ok (.iload_n 3, 1) := by decide +kernel
theorem eY_fork_45 : decode mY_fork.2.1 45 = .ok (.bipush 8, 2) := by decide +kernel
theorem eY_fork_47 : decode mY_fork.2.1 47 = .ok (.if_icmp .ge 25, 3) := by decide +kernel
theorem eY_fork_50 : decode mY_fork.2.1 50 = .ok (.aload_n 0, 1) := by decide +kernel
theorem eY_fork_51 : decode mY_fork.2.1 51 = .ok (.iconst 0, 1) := by decide +kernel
theorem eY_fork_52 : decode mY_fork.2.1 52 = .ok (.iload_n 1, 1) := by decide +kernel
theorem eY_fork_53 : decode mY_fork.2.1 53 = .ok (.iload_n 3, 1) := by decide +kernel
theorem eY_fork_54 : decode mY_fork.2.1 54 = .ok (.invokestatic 34, 3) := by decide +kernel
theorem eY_fork_57 : decode mY_fork.2.1 57 = .ok (.iconst 0, 1) := by decide +kernel
theorem eY_fork_58 : decode mY_fork.2.1 58 = .ok (.iload_n 2, 1) := by decide +kernel
theorem eY_fork_59 : decode mY_fork.2.1 59 = .ok (.iload_n 3, 1) := by decide +kernel
theorem eY_fork_60 : decode mY_fork.2.1 60 = .ok (.invokestatic 34, 3) := by decide +kernel
theorem eY_fork_63 : decode mY_fork.2.1 63 = .ok (.invokevirtual 30, 3) := by decide +kernel
theorem eY_fork_66 : decode mY_fork.2.1 66 = .ok (.iinc 3 1, 3) := by decide +kernel
theorem eY_fork_69 : decode mY_fork.2.1 69 = .ok (.goto (-25), 3) := by decide +kernel
theorem eY_fork_72 : decode mY_fork.2.1 72 = .ok (.iload_n 2, 1) := by decide +kernel
theorem eY_fork_73 : decode mY_fork.2.1 73 = .ok (.ireturn, 1) := by decide +kernel
theorem eY_close_0 : decode mY_close.2.1 0 = .ok (.aload_n 0, 1) := by decide +kernel
theorem eY_close_1 : decode mY_close.2.1 1 = .ok (.aload_n 0, 1) := by decide +kernel
theorem eY_close_2 : decode mY_close.2.1 2 = .ok (.iload_n 1, 1) := by decide +kernel
theorem eY_close_3 : decode mY_close.2.1 3 = .ok (.invokevirtual 42, 3) := by decide +kernel
theorem eY_close_6 : decode mY_close.2.1 6 = .ok (.ifCond .ne 7, 3) := by decide +kernel
theorem eY_close_9 : decode mY_close.2.1 9 = .ok (.iconst 1, 1) := by decide +kernel
theorem eY_close_10 : decode mY_close.2.1 10 = .ok (.goto 4, 3) := by decide +kernel
theorem eY_close_13 : decode mY_close.2.1 13 = .ok (.iconst 0, 1) := by decide +kernel
theorem eY_close_14 : decode mY_close.2.1 14 = .ok (.iconst 0, 1) := by decide +kernel
theorem eY_close_15 : decode mY_close.2.1 15 = .ok (.iconst 0, 1) := by decide +kernel
theorem eY_close_16 : decode mY_close.2.1 16 = .ok (.invokevirtual 46, 3) := by decide +kernel
theorem eY_close_19 : decode mY_close.2.1 19 = .ok (.ifCond .eq 5, 3) := by decide +kernel
theorem eY_close_22 : decode mY_close.2.1 22 = .ok (.iconst 0, 1) := by decide +kernel
theorem eY_close_23 : decode mY_close.2.1 23 = .ok (.ireturn, 1) := by decide +kernel
theorem eY_close_24 : decode mY_close.2.1 24 = .ok (.aload_n 0, 1) := by decide +kernel
theorem eY_close_25 : decode mY_close.2.1 25 = .ok (.iload_n 1, 1) := by decide +kernel
theorem eY_close_26 : decode mY_close.2.1 26 = .ok (.invokevirtual 50, 3) := by decide +kernel
theorem eY_close_29 : decode mY_close.2.1 29 = .ok (.istore_n 2, 1) := by decide +kernel
theorem eY_close_30 : decode mY_close.2.1 30 = .ok (.aload_n 0, 1) := by decide +kernel
theorem eY_close_31 : decode mY_close.2.1 31 = .ok (.iconst 0, 1) := by decide +kernel
theorem eY_close_32 : decode mY_close.2.1 32 = .ok (.iload_n 1, 1) := by decide +kernel
theorem eY_close_33 : decode mY_close.2.1 33 = .ok (.invokevirtual 54, 3) := by decide +kernel
theorem eY_close_36 : decode mY_close.2.1 36 = .ok (.iload_n 2, 1) := by decide +kernel
theorem eY_close_37 : decode mY_close.2.1 37 = .ok (.ireturn, 1) := by decide +kernel
theorem eY_map_0 : decode mY_map.2.1 0 = .ok (.aload_n 0, 1) := by decide +kernel
theorem eY_map_1 : decode mY_map.2.1 1 = .ok (.iload_n 1, 1) := by decide +kernel
theorem eY_map_2 : decode mY_map.2.1 2 = .ok (.invokevirtual 42, 3) := by decide +kernel
theorem eY_map_5 : decode mY_map.2.1 5 = .ok (.ifCond .eq 14, 3) := by decide +kernel
theorem eY_map_8 : decode mY_map.2.1 8 = .ok (.iload_n 2, 1) := by decide +kernel
theorem eY_map_9 : decode mY_map.2.1 9 = .ok (.invokestatic 57, 3) := by decide +kernel
theorem eY_map_12 : decode mY_map.2.1 12 = .ok (.ifCond .eq 7, 3) := by decide +kernel
theorem eY_map_15 : decode mY_map.2.1 15 = .ok (.iconst 1, 1) := by decide +kernel
theorem eY_map_16 : decode mY_map.2.1 16 = .ok (.goto 4, 3) := by decide +kernel
theorem eY_map_19 : decode mY_map.2.1 19 = .ok (.iconst 0, 1) := by decide +kernel
theorem eY_map_20 : decode mY_map.2.1 20 = .ok (.istore 4, 2) := by decide +kernel
theorem eY_map_22 : decode mY_map.2.1 22 = .ok (.aload_n 0, 1) := by decide +kernel
theorem eY_map_23 : decode mY_map.2.1 23 = .ok (.aload_n 0, 1) := by decide +kernel
theorem eY_map_24 : decode mY_map.2.1 24 = .ok (.iload_n 1, 1) := by decide +kernel
theorem eY_map_25 : decode mY_map.2.1 25 = .ok (.invokevirtual 42, 3) := by decide +kernel
theorem eY_map_28 : decode mY_map.2.1 28 = .ok (.ifCond .ne 7, 3) := by decide +kernel
theorem eY_map_31 : decode mY_map.2.1 31 = .ok (.iconst 1, 1) := by decide +kernel
theorem eY_map_32 : decode mY_map.2.1 32 = .ok (.goto 4, 3) := by decide +kernel
theorem eY_map_35 : decode mY_map.2.1 35 = .ok (.iconst 0, 1) := by decide +kernel
theorem eY_map_36 : decode mY_map.2.1 36 = .ok (.iload_n 2, 1) := by decide +kernel
theorem eY_map_37 : decode mY_map.2.1 37 = .ok (.invokestatic 57, 3) := by decide +kernel
theorem eY_map_40 : decode mY_map.2.1 40 = .ok (.ifCond .ne 7, 3) := by decide +kernel
theorem eY_map_43 : decode mY_map.2.1 43 = .ok (.iconst 1, 1) := by decide +kernel
theorem eY_map_44 : decode mY_map.2.1 44 = .ok (.goto 4, 3) := by decide +kernel
theorem eY_map_47 : decode mY_map.2.1 47 = .ok (.iconst 0, 1) := by decide +kernel
theorem eY_map_48 : decode mY_map.2.1 48 = .ok (.iload 4, 2) := by decide +kernel
theorem eY_map_50 : decode mY_map.2.1 50 = .ok (.ifCond .eq 41, 3) := by decide +kernel
theorem eY_map_53 : decode mY_map.2.1 53 = .ok (.aload_n 0, 1) := by decide +kernel
theorem eY_map_54 : decode mY_map.2.1 54 = .ok (.getfield 16, 3) := by decide +kernel
theorem eY_map_57 : decode mY_map.2.1 57 = .ok (.iconst 0, 1) := by decide +kernel
theorem eY_map_58 : decode mY_map.2.1 58 = .ok (.iload_n 1, 1) := by decide +kernel
theorem eY_map_59 : decode mY_map.2.1 59 = .ok (.iload 4, 2) := by decide +kernel
theorem eY_map_61 : decode mY_map.2.1 61 = .ok (.ifCond .eq 7, 3) := by decide +kernel
theorem eY_map_64 : decode mY_map.2.1 64 = .ok (.iload_n 2, 1) := by decide +kernel
theorem eY_map_65 : decode mY_map.2.1 65 = .ok (.goto 4, 3) := by decide +kernel
theorem eY_map_68 : decode mY_map.2.1 68 = .ok (.iconst 0, 1) := by decide +kernel
theorem eY_map_69 : decode mY_map.2.1 69 = .ok (.invokestatic 34, 3) := by decide +kernel
theorem eY_map_72 : decode mY_map.2.1 72 = .ok (.iaload, 1) := by decide +kernel
theorem eY_map_73 : decode mY_map.2.1 73 = .ok (.ifCond .ne 18, 3) := by decide +kernel
theorem eY_map_76 : decode mY_map.2.1 76 = .ok (.aload_n 0, 1) := by decide +kernel
theorem eY_map_77 : decode mY_map.2.1 77 = .ok (.invokevirtual 60, 3) := by decide +kernel
theorem eY_map_80 : decode mY_map.2.1 80 = .ok (.aload_n 0, 1) := by decide +kernel
theorem eY_map_81 : decode mY_map.2.1 81 = .ok (.getfield 23, 3) := by decide +kernel
theorem eY_map_84 : decode mY_map.2.1 84 = .ok (.if_icmp .ne 7, 3) := by decide +kernel
theorem eY_map_87 : decode mY_map.2.1 87 = .ok (.iconst 1, 1) := by decide +kernel
theorem eY_map_88 : decode mY_map.2.1 88 = .ok (.goto 4, 3) := by decide +kernel
theorem eY_map_91 : decode mY_map.2.1 91 = .ok (.iconst 0, 1) := by decide +kernel
theorem eY_map_92 : decode mY_map.2.1 92 = .ok (.invokevirtual 46, 3) := by decide +kernel
theorem eY_map_95 : decode mY_map.2.1 95 = .ok (.ifCond .eq 5, 3) := by decide +kernel
theorem eY_map_98 : decode mY_map.2.1 98 = .ok (.iconst 0, 1) := by decide +kernel
theorem eY_map_99 : decode mY_map.2.1 99 = .ok (.ireturn, 1) := by decide +kernel
theorem eY_map_100 : decode mY_map.2.1 100 = .ok (.iconst 0, 1) := by decide +kernel
theorem eY_map_101 : decode mY_map.2.1 101 = .ok (.iload_n 1, 1) := by decide +kernel
theorem eY_map_102 : decode mY_map.2.1 102 = .ok (.iload_n 2, 1) := by decide +kernel
theorem eY_map_103 : decode mY_map.2.1 103 = .ok (.invokestatic 34, 3) := by decide +kernel
theorem eY_map_106 : decode mY_map.2.1 106 = .ok (.istore 5, 2) := by decide +kernel
theorem eY_map_108 : decode mY_map.2.1 108 = .ok (.aload_n 0, 1) := by decide +kernel
theorem eY_map_109 : decode mY_map.2.1 109 = .ok (.getfield 16, 3) := by decide +kernel
theorem eY_map_112 : decode mY_map.2.1 112 = .ok (.iload 5, 2) := by decide +kernel
theorem eY_map_114 : decode mY_map.2.1 114 = .ok (.iaload, 1) := by decide +kernel
theorem eY_map_115 : decode mY_map.2.1 115 = .ok (.ifCond .le 5, 3) := by decide +kernel
theorem eY_map_118 : decode mY_map.2.1 118 = .ok (.iconst 0, 1) := by decide +kernel
theorem eY_map_119 : decode mY_map.2.1 119 = .ok (.ireturn, 1) := by decide +kernel
theorem eY_map_120 : decode mY_map.2.1 120 = .ok (.aload_n 0, 1) := by decide +kernel
theorem eY_map_121 : decode mY_map.2.1 121 = .ok (.dup, 1) := by decide +kernel
theorem eY_map_122 : decode mY_map.2.1 122 = .ok (.getfield 63, 3) := by decide +kernel
theorem eY_map_125 : decode mY_map.2.1 125 = .ok (.iconst 1, 1) := by decide +kernel
theorem eY_map_126 : decode mY_map.2.1 126 = .ok (.iadd, 1) := by decide +kernel
theorem eY_map_127 : decode mY_map.2.1 127 = .ok (.putfield 63, 3) := by decide +kernel
theorem eY_map_130 : decode mY_map.2.1 130 = .ok (.aload_n 0, 1) := by decide +kernel
theorem eY_map_131 : decode mY_map.2.1 131 = .ok (.getfield 16, 3) := by decide +kernel
theorem eY_map_134 : decode mY_map.2.1 134 = .ok (.iload 5, 2) := by decide +kernel
theorem eY_map_136 : decode mY_map.2.1 136 = .ok (.aload_n 0, 1) := by decide +kernel
theorem eY_map_137 : decode mY_map.2.1 137 = .ok (.getfield 63, 3) := by decide +kernel
theorem eY_map_140 : decode mY_map.2.1 140 = .ok (.iastore, 1) := by decide +kernel
theorem eY_map_141 : decode mY_map.2.1 141 = .ok (.iconst 0, 1) := by decide +kernel
theorem eY_map_142 : decode mY_map.2.1 142 = .ok (.istore 6, 2) := by decide +kernel
theorem eY_map_144 : decode mY_map.2.1 144 = .ok (.iload 6, 2) := by decide +kernel
theorem eY_map_146 : decode mY_map.2.1 146 = .ok (.bipush 16, 2) := by decide +kernel
theorem eY_map_148 : decode mY_map.2.1 148 = .ok (.if_icmp .ge 23, 3) := by decide +kernel
theorem eY_map_151 : decode mY_map.2.1 151 = .ok (.aload_n 0, 1) := by decide +kernel
theorem eY_map_152 : decode mY_map.2.1 152 = .ok (.getfield 20, 3) := by decide +kernel
theorem eY_map_155 : decode mY_map.2.1 155 = .ok (.bipush 16, 2) := by decide +kernel
theorem eY_map_157 : decode mY_map.2.1 157 = .ok (.iload 5, 2) := by decide +kernel
theorem eY_map_159 : decode mY_map.2.1 159 = .ok (.imul, 1) := by decide +kernel
theorem eY_map_160 : decode mY_map.2.1 160 = .ok (.iload 6, 2) := by decide +kernel
theorem eY_map_162 : decode mY_map.2.1 162 = .ok (.iadd, 1) := by decide +kernel
theorem eY_map_163 : decode mY_map.2.1 163 = .ok (.iload_n 3, 1) := by decide +kernel
theorem eY_map_164 : decode mY_map.2.1 164 = .ok (.iastore, 1) := by decide +kernel
theorem eY_map_165 : decode mY_map.2.1 165 = .ok (.iinc 6 1, 3) := by decide +kernel
theorem eY_map_168 : decode mY_map.2.1 168 = .ok (.goto (-24), 3) := by decide +kernel
theorem eY_map_171 : decode mY_map.2.1 171 = .ok (.iconst 1, 1) := by decide +kernel
theorem eY_map_172 : decode mY_map.2.1 172 = .ok (.ireturn, 1) := by decide +kernel
theorem eY_unmap_0 : decode mY_unmap.2.1 0 = .ok (.aload_n 0, 1) := by decide +kernel
theorem eY_unmap_1 : decode mY_unmap.2.1 1 = .ok (.aload_n 0, 1) := by decide +kernel
theorem eY_unmap_2 : decode mY_unmap.2.1 2 = .ok (.iload_n 1, 1) := by decide +kernel
theorem eY_unmap_3 : decode mY_unmap.2.1 3 = .ok (.invokevirtual 42, 3) := by decide +kernel
theorem eY_unmap_6 : decode mY_unmap.2.1 6 = .ok (.ifCond .ne 7, 3) := by decide +kernel
theorem eY_unmap_9 : decode mY_unmap.2.1 9 = .ok (.iconst 1, 1) := by decide +kernel
theorem eY_unmap_10 : decode mY_unmap.2.1 10 = .ok (.goto 4, 3) := by decide +kernel
theorem eY_unmap_13 : decode mY_unmap.2.1 13 = .ok (.iconst 0, 1) := by decide +kernel
theorem eY_unmap_14 : decode mY_unmap.2.1 14 = .ok (.iload_n 2, 1) := by decide +kernel
theorem eY_unmap_15 : decode mY_unmap.2.1 15 = .ok (.invokestatic 57, 3) := by decide +kernel
theorem eY_unmap_18 : decode mY_unmap.2.1 18 = .ok (.ifCond .ne 7, 3) := by decide +kernel
theorem eY_unmap_21 : decode mY_unmap.2.1 21 = .ok (.iconst 1, 1) := by decide +kernel
theorem eY_unmap_22 : decode mY_unmap.2.1 22 = .ok (.goto 4, 3) := by decide +kernel
theorem eY_unmap_25 : decode mY_unmap.2.1 25 = .ok (.iconst 0, 1) := by decide +kernel
theorem eY_unmap_26 : decode mY_unmap.2.1 26 = .ok (.iconst 0, 1) := by decide +kernel
theorem eY_unmap_27 : decode mY_unmap.2.1 27 = .ok (.invokevirtual 46, 3) := by decide +kernel
theorem eY_unmap_30 : decode mY_unmap.2.1 30 = .ok (.ifCond .eq 5, 3) := by decide +kernel
theorem eY_unmap_33 : decode mY_unmap.2.1 33 = .ok (.iconst 0, 1) := by decide +kernel
theorem eY_unmap_34 : decode mY_unmap.2.1 34 = .ok (.ireturn, 1) := by decide +kernel
theorem eY_unmap_35 : decode mY_unmap.2.1 35 = .ok (.iconst 0, 1) := by decide +kernel
theorem eY_unmap_36 : decode mY_unmap.2.1 36 = .ok (.iload_n 1, 1) := by decide +kernel
theorem eY_unmap_37 : decode mY_unmap.2.1 37 = .ok (.iload_n 2, 1) := by decide +kernel
theorem eY_unmap_38 : decode mY_unmap.2.1 38 = .ok (.invokestatic 34, 3) := by decide +kernel
theorem eY_unmap_41 : decode mY_unmap.2.1 41 = .ok (.istore_n 3, 1) := by decide +kernel
theorem eY_unmap_42 : decode mY_unmap.2.1 42 = .ok (.aload_n 0, 1) := by decide +kernel
theorem eY_unmap_43 : decode mY_unmap.2.1 43 = .ok (.getfield 16, 3) := by decide +kernel
theorem eY_unmap_46 : decode mY_unmap.2.1 46 = .ok (.iload_n 3, 1) := by decide +kernel
theorem eY_unmap_47 : decode mY_unmap.2.1 47 = .ok (.iaload, 1) := by decide +kernel
theorem eY_unmap_48 : decode mY_unmap.2.1 48 = .ok (.ifCond .le 7, 3) := by decide +kernel
theorem eY_unmap_51 : decode mY_unmap.2.1 51 = .ok (.iconst 1, 1) := by decide +kernel
theorem eY_unmap_52 : decode mY_unmap.2.1 52 = .ok (.goto 4, 3) := by decide +kernel
theorem eY_unmap_55 : decode mY_unmap.2.1 55 = .ok (.iconst 0, 1) := by decide +kernel
theorem eY_unmap_56 : decode mY_unmap.2.1 56 = .ok (.istore 4, 2) := by decide +kernel
theorem eY_unmap_58 : decode mY_unmap.2.1 58 = .ok (.aload_n 0, 1) := by decide +kernel
theorem eY_unmap_59 : decode mY_unmap.2.1 59 = .ok (.getfield 16, 3) := by decide +kernel
theorem eY_unmap_62 : decode mY_unmap.2.1 62 = .ok (.iload_n 3, 1) := by decide +kernel
theorem eY_unmap_63 : decode mY_unmap.2.1 63 = .ok (.iconst 0, 1) := by decide +kernel
theorem eY_unmap_64 : decode mY_unmap.2.1 64 = .ok (.iastore, 1) := by decide +kernel
theorem eY_unmap_65 : decode mY_unmap.2.1 65 = .ok (.iload 4, 2) := by decide +kernel
theorem eY_unmap_67 : decode mY_unmap.2.1 67 = .ok (.ireturn, 1) := by decide +kernel
theorem eY_cell_0 : decode mY_cell.2.1 0 = .ok (.iload_n 2, 1) := by decide +kernel
theorem eY_cell_1 : decode mY_cell.2.1 1 = .ok (.ifCond .lt 14, 3) := by decide +kernel
theorem eY_cell_4 : decode mY_cell.2.1 4 = .ok (.iload_n 2, 1) := by decide +kernel
theorem eY_cell_5 : decode mY_cell.2.1 5 = .ok (.sipush 128, 3) := by decide +kernel
theorem eY_cell_8 : decode mY_cell.2.1 8 = .ok (.if_icmp .ge 7, 3) := by decide +kernel
end
section
theorem eY_cell_11 : decode mY_cell.2.1 11 = .ok (.iconst 1, 1) := by decide +kernel
theorem eY_cell_12 : decode mY_cell.2.1 12 = .ok (.goto 4, 3) := by decide +kernel
theorem eY_cell_15 : decode mY_cell.2.1 15 = .ok (.iconst 0, 1) := by decide +kernel
theorem eY_cell_16 : decode mY_cell.2.1 16 = .ok (.istore_n 3, 1) := by decide +kernel
theorem eY_cell_17 : decode mY_cell.2.1 17 = .ok (.iload_n 3, 1) := by decide +kernel
theorem eY_cell_18 : decode mY_cell.2.1 18 = .ok (.ifCond .eq 23, 3) := by decide +kernel
theorem eY_cell_21 : decode mY_cell.2.1 21 = .ok (.aload_n 0, 1) := by decide +kernel
theorem eY_cell_22 : decode mY_cell.2.1 22 = .ok (.iload_n 1, 1) := by decide +kernel
theorem eY_cell_23 : decode mY_cell.2.1 23 = .ok (.invokevirtual 42, 3) := by decide +kernel
theorem eY_cell_26 : decode mY_cell.2.1 26 = .ok (.ifCond .eq 15, 3) := by decide +kernel
theorem eY_cell_29 : decode mY_cell.2.1 29 = .ok (.iconst 0, 1) := by decide +kernel
theorem eY_cell_30 : decode mY_cell.2.1 30 = .ok (.iload_n 1, 1) := by decide +kernel
theorem eY_cell_31 : decode mY_cell.2.1 31 = .ok (.iload_n 2, 1) := by decide +kernel
theorem eY_cell_32 : decode mY_cell.2.1 32 = .ok (.bipush 16, 2) := by decide +kernel
theorem eY_cell_34 : decode mY_cell.2.1 34 = .ok (.idiv, 1) := by decide +kernel
theorem eY_cell_35 : decode mY_cell.2.1 35 = .ok (.invokestatic 34, 3) := by decide +kernel
theorem eY_cell_38 : decode mY_cell.2.1 38 = .ok (.goto 4, 3) := by decide +kernel
theorem eY_cell_41 : decode mY_cell.2.1 41 = .ok (.iconst (-1), 1) := by decide +kernel
theorem eY_cell_42 : decode mY_cell.2.1 42 = .ok (.istore 4, 2) := by decide +kernel
theorem eY_cell_44 : decode mY_cell.2.1 44 = .ok (.iload 4, 2) := by decide +kernel
theorem eY_cell_46 : decode mY_cell.2.1 46 = .ok (.ifCond .lt 26, 3) := by decide +kernel
theorem eY_cell_49 : decode mY_cell.2.1 49 = .ok (.aload_n 0, 1) := by decide +kernel
theorem eY_cell_50 : decode mY_cell.2.1 50 = .ok (.getfield 16, 3) := by decide +kernel
theorem eY_cell_53 : decode mY_cell.2.1 53 = .ok (.iload 4, 2) := by decide +kernel
theorem eY_cell_55 : decode mY_cell.2.1 55 = .ok (.ifCond .ge 7, 3) := by decide +kernel
theorem eY_cell_58 : decode mY_cell.2.1 58 = .ok (.iconst 0, 1) := by decide +kernel
theorem eY_cell_59 : decode mY_cell.2.1 59 = .ok (.goto 5, 3) := by decide +kernel
theorem eY_cell_62 : decode mY_cell.2.1 62 = .ok (.iload 4, 2) := by decide +kernel
theorem eY_cell_64 : decode mY_cell.2.1 64 = .ok (.iaload, 1) := by decide +kernel
theorem eY_cell_65 : decode mY_cell.2.1 65 = .ok (.ifCond .le 7, 3) := by decide +kernel
theorem eY_cell_68 : decode mY_cell.2.1 68 = .ok (.iconst 1, 1) := by decide +kernel
theorem eY_cell_69 : decode mY_cell.2.1 69 = .ok (.goto 4, 3) := by decide +kernel
theorem eY_cell_72 : decode mY_cell.2.1 72 = .ok (.iconst 0, 1) := by decide +kernel
theorem eY_cell_73 : decode mY_cell.2.1 73 = .ok (.istore 5, 2) := by decide +kernel
theorem eY_cell_75 : decode mY_cell.2.1 75 = .ok (.aload_n 0, 1) := by decide +kernel
theorem eY_cell_76 : decode mY_cell.2.1 76 = .ok (.iload_n 3, 1) := by decide +kernel
theorem eY_cell_77 : decode mY_cell.2.1 77 = .ok (.ifCond .ne 7, 3) := by decide +kernel
theorem eY_cell_80 : decode mY_cell.2.1 80 = .ok (.iconst 1, 1) := by decide +kernel
theorem eY_cell_81 : decode mY_cell.2.1 81 = .ok (.goto 4, 3) := by decide +kernel
theorem eY_cell_84 : decode mY_cell.2.1 84 = .ok (.iconst 0, 1) := by decide +kernel
theorem eY_cell_85 : decode mY_cell.2.1 85 = .ok (.iload 5, 2) := by decide +kernel
theorem eY_cell_87 : decode mY_cell.2.1 87 = .ok (.ifCond .ne 7, 3) := by decide +kernel
theorem eY_cell_90 : decode mY_cell.2.1 90 = .ok (.iconst 1, 1) := by decide +kernel
theorem eY_cell_91 : decode mY_cell.2.1 91 = .ok (.goto 4, 3) := by decide +kernel
theorem eY_cell_94 : decode mY_cell.2.1 94 = .ok (.iconst 0, 1) := by decide +kernel
theorem eY_cell_95 : decode mY_cell.2.1 95 = .ok (.iconst 0, 1) := by decide +kernel
theorem eY_cell_96 : decode mY_cell.2.1 96 = .ok (.invokevirtual 46, 3) := by decide +kernel
theorem eY_cell_99 : decode mY_cell.2.1 99 = .ok (.pop, 1) := by decide +kernel
theorem eY_cell_100 : decode mY_cell.2.1 100 = .ok (.iload 5, 2) := by decide +kernel
theorem eY_cell_102 : decode mY_cell.2.1 102 = .ok (.ifCond .eq 16, 3) := by decide +kernel
theorem eY_cell_105 : decode mY_cell.2.1 105 = .ok (.bipush 16, 2) := by decide +kernel
theorem eY_cell_107 : decode mY_cell.2.1 107 = .ok (.iload 4, 2) := by decide +kernel
theorem eY_cell_109 : decode mY_cell.2.1 109 = .ok (.imul, 1) := by decide +kernel
theorem eY_cell_110 : decode mY_cell.2.1 110 = .ok (.iload_n 2, 1) := by decide +kernel
theorem eY_cell_111 : decode mY_cell.2.1 111 = .ok (.bipush 16, 2) := by decide +kernel
theorem eY_cell_113 : decode mY_cell.2.1 113 = .ok (.irem, 1) := by decide +kernel
theorem eY_cell_114 : decode mY_cell.2.1 114 = .ok (.iadd, 1) := by decide +kernel
theorem eY_cell_115 : decode mY_cell.2.1 115 = .ok (.goto 4, 3) := by decide +kernel
theorem eY_cell_118 : decode mY_cell.2.1 118 = .ok (.iconst (-1), 1) := by decide +kernel
theorem eY_cell_119 : decode mY_cell.2.1 119 = .ok (.ireturn, 1) := by decide +kernel
theorem eY_read_0 : decode mY_read.2.1 0 = .ok (.aload_n 0, 1) := by decide +kernel
theorem eY_read_1 : decode mY_read.2.1 1 = .ok (.iload_n 1, 1) := by decide +kernel
theorem eY_read_2 : decode mY_read.2.1 2 = .ok (.iload_n 2, 1) := by decide +kernel
theorem eY_read_3 : decode mY_read.2.1 3 = .ok (.invokevirtual 66, 3) := by decide +kernel
theorem eY_read_6 : decode mY_read.2.1 6 = .ok (.istore_n 3, 1) := by decide +kernel
theorem eY_read_7 : decode mY_read.2.1 7 = .ok (.iload_n 3, 1) := by decide +kernel
theorem eY_read_8 : decode mY_read.2.1 8 = .ok (.ifCond .ge 7, 3) := by decide +kernel
theorem eY_read_11 : decode mY_read.2.1 11 = .ok (.iconst 0, 1) := by decide +kernel
theorem eY_read_12 : decode mY_read.2.1 12 = .ok (.goto 9, 3) := by decide +kernel
theorem eY_read_15 : decode mY_read.2.1 15 = .ok (.aload_n 0, 1) := by decide +kernel
theorem eY_read_16 : decode mY_read.2.1 16 = .ok (.getfield 20, 3) := by decide +kernel
theorem eY_read_19 : decode mY_read.2.1 19 = .ok (.iload_n 3, 1) := by decide +kernel
theorem eY_read_20 : decode mY_read.2.1 20 = .ok (.iaload, 1) := by decide +kernel
theorem eY_read_21 : decode mY_read.2.1 21 = .ok (.ireturn, 1) := by decide +kernel
theorem eY_write_0 : decode mY_write.2.1 0 = .ok (.aload_n 0, 1) := by decide +kernel
theorem eY_write_1 : decode mY_write.2.1 1 = .ok (.iload_n 1, 1) := by decide +kernel
theorem eY_write_2 : decode mY_write.2.1 2 = .ok (.iload_n 2, 1) := by decide +kernel
theorem eY_write_3 : decode mY_write.2.1 3 = .ok (.invokevirtual 66, 3) := by decide +kernel
theorem eY_write_6 : decode mY_write.2.1 6 = .ok (.istore 4, 2) := by decide +kernel
theorem eY_write_8 : decode mY_write.2.1 8 = .ok (.iload 4, 2) := by decide +kernel
theorem eY_write_10 : decode mY_write.2.1 10 = .ok (.ifCond .ge 5, 3) := by decide +kernel
theorem eY_write_13 : decode mY_write.2.1 13 = .ok (.iconst 0, 1) := by decide +kernel
theorem eY_write_14 : decode mY_write.2.1 14 = .ok (.ireturn, 1) := by decide +kernel
theorem eY_write_15 : decode mY_write.2.1 15 = .ok (.iload 4, 2) := by decide +kernel
theorem eY_write_17 : decode mY_write.2.1 17 = .ok (.bipush 16, 2) := by decide +kernel
theorem eY_write_19 : decode mY_write.2.1 19 = .ok (.idiv, 1) := by decide +kernel
theorem eY_write_20 : decode mY_write.2.1 20 = .ok (.istore 5, 2) := by decide +kernel
theorem eY_write_22 : decode mY_write.2.1 22 = .ok (.aload_n 0, 1) := by decide +kernel
theorem eY_write_23 : decode mY_write.2.1 23 = .ok (.aload_n 0, 1) := by decide +kernel
theorem eY_write_24 : decode mY_write.2.1 24 = .ok (.getfield 16, 3) := by decide +kernel
theorem eY_write_27 : decode mY_write.2.1 27 = .ok (.iload 5, 2) := by decide +kernel
theorem eY_write_29 : decode mY_write.2.1 29 = .ok (.iaload, 1) := by decide +kernel
theorem eY_write_30 : decode mY_write.2.1 30 = .ok (.invokevirtual 70, 3) := by decide +kernel
theorem eY_write_33 : decode mY_write.2.1 33 = .ok (.iconst 1, 1) := by decide +kernel
theorem eY_write_34 : decode mY_write.2.1 34 = .ok (.if_icmp .le 7, 3) := by decide +kernel
theorem eY_write_37 : decode mY_write.2.1 37 = .ok (.iconst 1, 1) := by decide +kernel
theorem eY_write_38 : decode mY_write.2.1 38 = .ok (.goto 4, 3) := by decide +kernel
theorem eY_write_41 : decode mY_write.2.1 41 = .ok (.iconst 0, 1) := by decide +kernel
theorem eY_write_42 : decode mY_write.2.1 42 = .ok (.istore 6, 2) := by decide +kernel
theorem eY_write_44 : decode mY_write.2.1 44 = .ok (.aload_n 0, 1) := by decide +kernel
theorem eY_write_45 : decode mY_write.2.1 45 = .ok (.iconst 0, 1) := by decide +kernel
theorem eY_write_46 : decode mY_write.2.1 46 = .ok (.iconst 0, 1) := by decide +kernel
theorem eY_write_47 : decode mY_write.2.1 47 = .ok (.iload 6, 2) := by decide +kernel
theorem eY_write_49 : decode mY_write.2.1 49 = .ok (.ifCond .eq 18, 3) := by decide +kernel
theorem eY_write_52 : decode mY_write.2.1 52 = .ok (.aload_n 0, 1) := by decide +kernel
theorem eY_write_53 : decode mY_write.2.1 53 = .ok (.invokevirtual 60, 3) := by decide +kernel
theorem eY_write_56 : decode mY_write.2.1 56 = .ok (.aload_n 0, 1) := by decide +kernel
theorem eY_write_57 : decode mY_write.2.1 57 = .ok (.getfield 23, 3) := by decide +kernel
theorem eY_write_60 : decode mY_write.2.1 60 = .ok (.if_icmp .ne 7, 3) := by decide +kernel
theorem eY_write_63 : decode mY_write.2.1 63 = .ok (.iconst 1, 1) := by decide +kernel
theorem eY_write_64 : decode mY_write.2.1 64 = .ok (.goto 4, 3) := by decide +kernel
theorem eY_write_67 : decode mY_write.2.1 67 = .ok (.iconst 0, 1) := by decide +kernel
theorem eY_write_68 : decode mY_write.2.1 68 = .ok (.invokevirtual 46, 3) := by decide +kernel
theorem eY_write_71 : decode mY_write.2.1 71 = .ok (.ifCond .eq 5, 3) := by decide +kernel
theorem eY_write_74 : decode mY_write.2.1 74 = .ok (.iconst 0, 1) := by decide +kernel
theorem eY_write_75 : decode mY_write.2.1 75 = .ok (.ireturn, 1) := by decide +kernel
theorem eY_write_76 : decode mY_write.2.1 76 = .ok (.iload 6, 2) := by decide +kernel
theorem eY_write_78 : decode mY_write.2.1 78 = .ok (.ifCond .eq 24, 3) := by decide +kernel
theorem eY_write_81 : decode mY_write.2.1 81 = .ok (.aload_n 0, 1) := by decide +kernel
theorem eY_write_82 : decode mY_write.2.1 82 = .ok (.dup, 1) := by decide +kernel
theorem eY_write_83 : decode mY_write.2.1 83 = .ok (.getfield 63, 3) := by decide +kernel
theorem eY_write_86 : decode mY_write.2.1 86 = .ok (.iconst 1, 1) := by decide +kernel
theorem eY_write_87 : decode mY_write.2.1 87 = .ok (.iadd, 1) := by decide +kernel
theorem eY_write_88 : decode mY_write.2.1 88 = .ok (.putfield 63, 3) := by decide +kernel
theorem eY_write_91 : decode mY_write.2.1 91 = .ok (.aload_n 0, 1) := by decide +kernel
theorem eY_write_92 : decode mY_write.2.1 92 = .ok (.getfield 16, 3) := by decide +kernel
theorem eY_write_95 : decode mY_write.2.1 95 = .ok (.iload 5, 2) := by decide +kernel
theorem eY_write_97 : decode mY_write.2.1 97 = .ok (.aload_n 0, 1) := by decide +kernel
theorem eY_write_98 : decode mY_write.2.1 98 = .ok (.getfield 63, 3) := by decide +kernel
theorem eY_write_101 : decode mY_write.2.1 101 = .ok (.iastore, 1) := by decide +kernel
theorem eY_write_102 : decode mY_write.2.1 102 = .ok (.aload_n 0, 1) := by decide +kernel
theorem eY_write_103 : decode mY_write.2.1 103 = .ok (.getfield 20, 3) := by decide +kernel
theorem eY_write_106 : decode mY_write.2.1 106 = .ok (.iload 4, 2) := by decide +kernel
theorem eY_write_108 : decode mY_write.2.1 108 = .ok (.iaload, 1) := by decide +kernel
theorem eY_write_109 : decode mY_write.2.1 109 = .ok (.istore 7, 2) := by decide +kernel
theorem eY_write_111 : decode mY_write.2.1 111 = .ok (.aload_n 0, 1) := by decide +kernel
theorem eY_write_112 : decode mY_write.2.1 112 = .ok (.getfield 20, 3) := by decide +kernel
theorem eY_write_115 : decode mY_write.2.1 115 = .ok (.iload 4, 2) := by decide +kernel
theorem eY_write_117 : decode mY_write.2.1 117 = .ok (.iload_n 3, 1) := by decide +kernel
theorem eY_write_118 : decode mY_write.2.1 118 = .ok (.iastore, 1) := by decide +kernel
theorem eY_write_119 : decode mY_write.2.1 119 = .ok (.iload 7, 2) := by decide +kernel
theorem eY_write_121 : decode mY_write.2.1 121 = .ok (.ireturn, 1) := by decide +kernel
theorem eY_areFaulty_0 : decode mY_areFaulty.2.1 0 = .ok (.aload_n 0, 1) := by decide +kernel
theorem eY_areFaulty_1 : decode mY_areFaulty.2.1 1 = .ok (.aload_n 0, 1) := by decide +kernel
theorem eY_areFaulty_2 : decode mY_areFaulty.2.1 2 = .ok (.iload_n 1, 1) := by decide +kernel
theorem eY_areFaulty_3 : decode mY_areFaulty.2.1 3 = .ok (.invokevirtual 42, 3) := by decide +kernel
theorem eY_areFaulty_6 : decode mY_areFaulty.2.1 6 = .ok (.ifCond .eq 11, 3) := by decide +kernel
theorem eY_areFaulty_9 : decode mY_areFaulty.2.1 9 = .ok (.aload_n 0, 1) := by decide +kernel
theorem eY_areFaulty_10 : decode mY_areFaulty.2.1 10 = .ok (.iload_n 3, 1) := by decide +kernel
theorem eY_areFaulty_11 : decode mY_areFaulty.2.1 11 = .ok (.invokevirtual 42, 3) := by decide +kernel
theorem eY_areFaulty_14 : decode mY_areFaulty.2.1 14 = .ok (.ifCond .ne 7, 3) := by decide +kernel
theorem eY_areFaulty_17 : decode mY_areFaulty.2.1 17 = .ok (.iconst 1, 1) := by decide +kernel
theorem eY_areFaulty_18 : decode mY_areFaulty.2.1 18 = .ok (.goto 4, 3) := by decide +kernel
theorem eY_areFaulty_21 : decode mY_areFaulty.2.1 21 = .ok (.iconst 0, 1) := by decide +kernel
theorem eY_areFaulty_22 : decode mY_areFaulty.2.1 22 = .ok (.iload_n 2, 1) := by decide +kernel
theorem eY_areFaulty_23 : decode mY_areFaulty.2.1 23 = .ok (.invokestatic 57, 3) := by decide +kernel
theorem eY_areFaulty_26 : decode mY_areFaulty.2.1 26 = .ok (.ifCond .eq 11, 3) := by decide +kernel
theorem eY_areFaulty_29 : decode mY_areFaulty.2.1 29 = .ok (.iload 4, 2) := by decide +kernel
theorem eY_areFaulty_31 : decode mY_areFaulty.2.1 31 = .ok (.invokestatic 57, 3) := by decide +kernel
theorem eY_areFaulty_34 : decode mY_areFaulty.2.1 34 = .ok (.ifCond .ne 7, 3) := by decide +kernel
theorem eY_areFaulty_37 : decode mY_areFaulty.2.1 37 = .ok (.iconst 1, 1) := by decide +kernel
theorem eY_areFaulty_38 : decode mY_areFaulty.2.1 38 = .ok (.goto 4, 3) := by decide +kernel
theorem eY_areFaulty_41 : decode mY_areFaulty.2.1 41 = .ok (.iconst 0, 1) := by decide +kernel
theorem eY_areFaulty_42 : decode mY_areFaulty.2.1 42 = .ok (.iconst 0, 1) := by decide +kernel
theorem eY_areFaulty_43 : decode mY_areFaulty.2.1 43 = .ok (.invokevirtual 46, 3) := by decide +kernel
theorem eY_areFaulty_46 : decode mY_areFaulty.2.1 46 = .ok (.ireturn, 1) := by decide +kernel
theorem eY_lend_0 : decode mY_lend.2.1 0 = .ok (.aload_n 0, 1) := by decide +kernel
theorem eY_lend_1 : decode mY_lend.2.1 1 = .ok (.iload_n 1, 1) := by decide +kernel
theorem eY_lend_2 : decode mY_lend.2.1 2 = .ok (.iload_n 2, 1) := by decide +kernel
theorem eY_lend_3 : decode mY_lend.2.1 3 = .ok (.iload_n 3, 1) := by decide +kernel
theorem eY_lend_4 : decode mY_lend.2.1 4 = .ok (.iload 4, 2) := by decide +kernel
theorem eY_lend_6 : decode mY_lend.2.1 6 = .ok (.invokevirtual 73, 3) := by decide +kernel
theorem eY_lend_9 : decode mY_lend.2.1 9 = .ok (.ifCond .eq 5, 3) := by decide +kernel
theorem eY_lend_12 : decode mY_lend.2.1 12 = .ok (.iconst 0, 1) := by decide +kernel
theorem eY_lend_13 : decode mY_lend.2.1 13 = .ok (.ireturn, 1) := by decide +kernel
theorem eY_lend_14 : decode mY_lend.2.1 14 = .ok (.iconst 0, 1) := by decide +kernel
theorem eY_lend_15 : decode mY_lend.2.1 15 = .ok (.iload_n 3, 1) := by decide +kernel
theorem eY_lend_16 : decode mY_lend.2.1 16 = .ok (.iload 4, 2) := by decide +kernel
theorem eY_lend_18 : decode mY_lend.2.1 18 = .ok (.invokestatic 34, 3) := by decide +kernel
theorem eY_lend_21 : decode mY_lend.2.1 21 = .ok (.istore 5, 2) := by decide +kernel
theorem eY_lend_23 : decode mY_lend.2.1 23 = .ok (.aload_n 0, 1) := by decide +kernel
theorem eY_lend_24 : decode mY_lend.2.1 24 = .ok (.getfield 16, 3) := by decide +kernel
theorem eY_lend_27 : decode mY_lend.2.1 27 = .ok (.iload 5, 2) := by decide +kernel
theorem eY_lend_29 : decode mY_lend.2.1 29 = .ok (.iaload, 1) := by decide +kernel
theorem eY_lend_30 : decode mY_lend.2.1 30 = .ok (.istore 6, 2) := by decide +kernel
theorem eY_lend_32 : decode mY_lend.2.1 32 = .ok (.aload_n 0, 1) := by decide +kernel
theorem eY_lend_33 : decode mY_lend.2.1 33 = .ok (.iconst 0, 1) := by decide +kernel
theorem eY_lend_34 : decode mY_lend.2.1 34 = .ok (.iload_n 1, 1) := by decide +kernel
theorem eY_lend_35 : decode mY_lend.2.1 35 = .ok (.iload_n 2, 1) := by decide +kernel
theorem eY_lend_36 : decode mY_lend.2.1 36 = .ok (.invokestatic 34, 3) := by decide +kernel
theorem eY_lend_39 : decode mY_lend.2.1 39 = .ok (.iload 5, 2) := by decide +kernel
theorem eY_lend_41 : decode mY_lend.2.1 41 = .ok (.invokevirtual 30, 3) := by decide +kernel
theorem eY_lend_44 : decode mY_lend.2.1 44 = .ok (.aload_n 0, 1) := by decide +kernel
theorem eY_lend_45 : decode mY_lend.2.1 45 = .ok (.getfield 16, 3) := by decide +kernel
theorem eY_lend_48 : decode mY_lend.2.1 48 = .ok (.iload 5, 2) := by decide +kernel
theorem eY_lend_50 : decode mY_lend.2.1 50 = .ok (.iaload, 1) := by decide +kernel
theorem eY_lend_51 : decode mY_lend.2.1 51 = .ok (.iload 6, 2) := by decide +kernel
theorem eY_lend_53 : decode mY_lend.2.1 53 = .ok (.if_icmp .eq 7, 3) := by decide +kernel
theorem eY_lend_56 : decode mY_lend.2.1 56 = .ok (.iconst 1, 1) := by decide +kernel
theorem eY_lend_57 : decode mY_lend.2.1 57 = .ok (.goto 4, 3) := by decide +kernel
theorem eY_lend_60 : decode mY_lend.2.1 60 = .ok (.iconst 0, 1) := by decide +kernel
theorem eY_lend_61 : decode mY_lend.2.1 61 = .ok (.ireturn, 1) := by decide +kernel
theorem eY_join_0 : decode mY_join.2.1 0 = .ok (.aload_n 0, 1) := by decide +kernel
theorem eY_join_1 : decode mY_join.2.1 1 = .ok (.iload_n 1, 1) := by decide +kernel
theorem eY_join_2 : decode mY_join.2.1 2 = .ok (.iload_n 2, 1) := by decide +kernel
theorem eY_join_3 : decode mY_join.2.1 3 = .ok (.iload_n 3, 1) := by decide +kernel
theorem eY_join_4 : decode mY_join.2.1 4 = .ok (.iload 4, 2) := by decide +kernel
theorem eY_join_6 : decode mY_join.2.1 6 = .ok (.invokevirtual 73, 3) := by decide +kernel
theorem eY_join_9 : decode mY_join.2.1 9 = .ok (.ifCond .eq 5, 3) := by decide +kernel
theorem eY_join_12 : decode mY_join.2.1 12 = .ok (.iconst 0, 1) := by decide +kernel
theorem eY_join_13 : decode mY_join.2.1 13 = .ok (.ireturn, 1) := by decide +kernel
theorem eY_join_14 : decode mY_join.2.1 14 = .ok (.iconst 0, 1) := by decide +kernel
theorem eY_join_15 : decode mY_join.2.1 15 = .ok (.iload_n 1, 1) := by decide +kernel
theorem eY_join_16 : decode mY_join.2.1 16 = .ok (.iload_n 2, 1) := by decide +kernel
theorem eY_join_17 : decode mY_join.2.1 17 = .ok (.invokestatic 34, 3) := by decide +kernel
theorem eY_join_20 : decode mY_join.2.1 20 = .ok (.istore 5, 2) := by decide +kernel
theorem eY_join_22 : decode mY_join.2.1 22 = .ok (.iconst 0, 1) := by decide +kernel
theorem eY_join_23 : decode mY_join.2.1 23 = .ok (.iload_n 3, 1) := by decide +kernel
theorem eY_join_24 : decode mY_join.2.1 24 = .ok (.iload 4, 2) := by decide +kernel
theorem eY_join_26 : decode mY_join.2.1 26 = .ok (.invokestatic 34, 3) := by decide +kernel
theorem eY_join_29 : decode mY_join.2.1 29 = .ok (.istore 6, 2) := by decide +kernel
theorem eY_join_31 : decode mY_join.2.1 31 = .ok (.aload_n 0, 1) := by decide +kernel
theorem eY_join_32 : decode mY_join.2.1 32 = .ok (.getfield 16, 3) := by decide +kernel
theorem eY_join_35 : decode mY_join.2.1 35 = .ok (.iload 6, 2) := by decide +kernel
theorem eY_join_37 : decode mY_join.2.1 37 = .ok (.iaload, 1) := by decide +kernel
theorem eY_join_38 : decode mY_join.2.1 38 = .ok (.istore 7, 2) := by decide +kernel
theorem eY_join_40 : decode mY_join.2.1 40 = .ok (.aload_n 0, 1) := by decide +kernel
theorem eY_join_41 : decode mY_join.2.1 41 = .ok (.getfield 16, 3) := by decide +kernel
theorem eY_join_44 : decode mY_join.2.1 44 = .ok (.iload 5, 2) := by decide +kernel
theorem eY_join_46 : decode mY_join.2.1 46 = .ok (.iaload, 1) := by decide +kernel
theorem eY_join_47 : decode mY_join.2.1 47 = .ok (.ifCond .le 24, 3) := by decide +kernel
theorem eY_join_50 : decode mY_join.2.1 50 = .ok (.iload 7, 2) := by decide +kernel
theorem eY_join_52 : decode mY_join.2.1 52 = .ok (.ifCond .le 19, 3) := by decide +kernel
theorem eY_join_55 : decode mY_join.2.1 55 = .ok (.aload_n 0, 1) := by decide +kernel
theorem eY_join_56 : decode mY_join.2.1 56 = .ok (.getfield 16, 3) := by decide +kernel
theorem eY_join_59 : decode mY_join.2.1 59 = .ok (.iload 5, 2) := by decide +kernel
theorem eY_join_61 : decode mY_join.2.1 61 = .ok (.iaload, 1) := by decide +kernel
theorem eY_join_62 : decode mY_join.2.1 62 = .ok (.iload 7, 2) := by decide +kernel
theorem eY_join_64 : decode mY_join.2.1 64 = .ok (.if_icmp .eq 7, 3) := by decide +kernel
theorem eY_join_67 : decode mY_join.2.1 67 = .ok (.iconst 1, 1) := by decide +kernel
theorem eY_join_68 : decode mY_join.2.1 68 = .ok (.goto 4, 3) := by decide +kernel
theorem eY_join_71 : decode mY_join.2.1 71 = .ok (.iconst 0, 1) := by decide +kernel
theorem eY_join_72 : decode mY_join.2.1 72 = .ok (.istore 8, 2) := by decide +kernel
theorem eY_join_74 : decode mY_join.2.1 74 = .ok (.iconst 0, 1) := by decide +kernel
theorem eY_join_75 : decode mY_join.2.1 75 = .ok (.istore 9, 2) := by decide +kernel
theorem eY_join_77 : decode mY_join.2.1 77 = .ok (.iload 9, 2) := by decide +kernel
theorem eY_join_79 : decode mY_join.2.1 79 = .ok (.bipush 16, 2) := by decide +kernel
theorem eY_join_81 : decode mY_join.2.1 81 = .ok (.if_icmp .ge 50, 3) := by decide +kernel
theorem eY_join_84 : decode mY_join.2.1 84 = .ok (.iload 8, 2) := by decide +kernel
theorem eY_join_86 : decode mY_join.2.1 86 = .ok (.ifCond .eq 36, 3) := by decide +kernel
theorem eY_join_89 : decode mY_join.2.1 89 = .ok (.aload_n 0, 1) := by decide +kernel
theorem eY_join_90 : decode mY_join.2.1 90 = .ok (.getfield 20, 3) := by decide +kernel
theorem eY_join_93 : decode mY_join.2.1 93 = .ok (.bipush 16, 2) := by decide +kernel
theorem eY_join_95 : decode mY_join.2.1 95 = .ok (.iload 5, 2) := by decide +kernel
theorem eY_join_97 : decode mY_join.2.1 97 = .ok (.imul, 1) := by decide +kernel
theorem eY_join_98 : decode mY_join.2.1 98 = .ok (.iload 9, 2) := by decide +kernel
theorem eY_join_100 : decode mY_join.2.1 100 = .ok (.iadd, 1) := by decide +kernel
theorem eY_join_101 : decode mY_join.2.1 101 = .ok (.iaload, 1) := by decide +kernel
theorem eY_join_102 : decode mY_join.2.1 102 = .ok (.aload_n 0, 1) := by decide +kernel
theorem eY_join_103 : decode mY_join.2.1 103 = .ok (.getfield 20, 3) := by decide +kernel
theorem eY_join_106 : decode mY_join.2.1 106 = .ok (.bipush 16, 2) := by decide +kernel
theorem eY_join_108 : decode mY_join.2.1 108 = .ok (.iload 6, 2) := by decide +kernel
theorem eY_join_110 : decode mY_join.2.1 110 = .ok (.imul, 1) := by decide +kernel
theorem eY_join_111 : decode mY_join.2.1 111 = .ok (.iload 9, 2) := by decide +kernel
theorem eY_join_113 : decode mY_join.2.1 113 = .ok (.iadd, 1) := by decide +kernel
theorem eY_join_114 : decode mY_join.2.1 114 = .ok (.iaload, 1) := by decide +kernel
theorem eY_join_115 : decode mY_join.2.1 115 = .ok (.if_icmp .ne 7, 3) := by decide +kernel
theorem eY_join_118 : decode mY_join.2.1 118 = .ok (.iconst 1, 1) := by decide +kernel
theorem eY_join_119 : decode mY_join.2.1 119 = .ok (.goto 4, 3) := by decide +kernel
theorem eY_join_122 : decode mY_join.2.1 122 = .ok (.iconst 0, 1) := by decide +kernel
theorem eY_join_123 : decode mY_join.2.1 123 = .ok (.istore 8, 2) := by decide +kernel
theorem eY_join_125 : decode mY_join.2.1 125 = .ok (.iinc 9 1, 3) := by decide +kernel
theorem eY_join_128 : decode mY_join.2.1 128 = .ok (.goto (-51), 3) := by decide +kernel
theorem eY_join_131 : decode mY_join.2.1 131 = .ok (.iconst 0, 1) := by decide +kernel
theorem eY_join_132 : decode mY_join.2.1 132 = .ok (.istore 9, 2) := by decide +kernel
theorem eY_join_134 : decode mY_join.2.1 134 = .ok (.iconst 0, 1) := by decide +kernel
theorem eY_join_135 : decode mY_join.2.1 135 = .ok (.istore 10, 2) := by decide +kernel
theorem eY_join_137 : decode mY_join.2.1 137 = .ok (.iload 10, 2) := by decide +kernel
theorem eY_join_139 : decode mY_join.2.1 139 = .ok (.sipush 432, 3) := by decide +kernel
theorem eY_join_142 : decode mY_join.2.1 142 = .ok (.if_icmp .ge 73, 3) := by decide +kernel
theorem eY_join_145 : decode mY_join.2.1 145 = .ok (.iload 8, 2) := by decide +kernel
theorem eY_join_147 : decode mY_join.2.1 147 = .ok (.ifCond .eq 68, 3) := by decide +kernel
theorem eY_join_150 : decode mY_join.2.1 150 = .ok (.aload_n 0, 1) := by decide +kernel
theorem eY_join_151 : decode mY_join.2.1 151 = .ok (.getfield 16, 3) := by decide +kernel
theorem eY_join_154 : decode mY_join.2.1 154 = .ok (.iload 10, 2) := by decide +kernel
theorem eY_join_156 : decode mY_join.2.1 156 = .ok (.iaload, 1) := by decide +kernel
theorem eY_join_157 : decode mY_join.2.1 157 = .ok (.iload 7, 2) := by decide +kernel
theorem eY_join_159 : decode mY_join.2.1 159 = .ok (.if_icmp .ne 10, 3) := by decide +kernel
theorem eY_join_162 : decode mY_join.2.1 162 = .ok (.iload 9, 2) := by decide +kernel
theorem eY_join_164 : decode mY_join.2.1 164 = .ok (.iconst 1, 1) := by decide +kernel
theorem eY_join_165 : decode mY_join.2.1 165 = .ok (.iadd, 1) := by decide +kernel
theorem eY_join_166 : decode mY_join.2.1 166 = .ok (.goto 5, 3) := by decide +kernel
theorem eY_join_169 : decode mY_join.2.1 169 = .ok (.iload 9, 2) := by decide +kernel
theorem eY_join_171 : decode mY_join.2.1 171 = .ok (.istore 9, 2) := by decide +kernel
theorem eY_join_173 : decode mY_join.2.1 173 = .ok (.aload_n 0, 1) := by decide +kernel
theorem eY_join_174 : decode mY_join.2.1 174 = .ok (.getfield 16, 3) := by decide +kernel
theorem eY_join_177 : decode mY_join.2.1 177 = .ok (.iload 10, 2) := by decide +kernel
theorem eY_join_179 : decode mY_join.2.1 179 = .ok (.aload_n 0, 1) := by decide +kernel
theorem eY_join_180 : decode mY_join.2.1 180 = .ok (.getfield 16, 3) := by decide +kernel
theorem eY_join_183 : decode mY_join.2.1 183 = .ok (.iload 10, 2) := by decide +kernel
theorem eY_join_185 : decode mY_join.2.1 185 = .ok (.iaload, 1) := by decide +kernel
theorem eY_join_186 : decode mY_join.2.1 186 = .ok (.iload 7, 2) := by decide +kernel
theorem eY_join_188 : decode mY_join.2.1 188 = .ok (.if_icmp .ne 13, 3) := by decide +kernel
theorem eY_join_191 : decode mY_join.2.1 191 = .ok (.aload_n 0, 1) := by decide +kernel
theorem eY_join_192 : decode mY_join.2.1 192 = .ok (.getfield 16, 3) := by decide +kernel
theorem eY_join_195 : decode mY_join.2.1 195 = .ok (.iload 5, 2) := by decide +kernel
theorem eY_join_197 : decode mY_join.2.1 197 = .ok (.iaload, 1) := by decide +kernel
theorem eY_join_198 : decode mY_join.2.1 198 = .ok (.goto 10, 3) := by decide +kernel
theorem eY_join_201 : decode mY_join.2.1 201 = .ok (.aload_n 0, 1) := by decide +kernel
theorem eY_join_202 : decode mY_join.2.1 202 = .ok (.getfield 16, 3) := by decide +kernel
theorem eY_join_205 : decode mY_join.2.1 205 = .ok (.iload 10, 2) := by decide +kernel
theorem eY_join_207 : decode mY_join.2.1 207 = .ok (.iaload, 1) := by decide +kernel
theorem eY_join_208 : decode mY_join.2.1 208 = .ok (.iastore, 1) := by decide +kernel
theorem eY_join_209 : decode mY_join.2.1 209 = .ok (.iinc 10 1, 3) := by decide +kernel
theorem eY_join_212 : decode mY_join.2.1 212 = .ok (.goto (-75), 3) := by decide +kernel
theorem eY_join_215 : decode mY_join.2.1 215 = .ok (.iload 9, 2) := by decide +kernel
theorem eY_join_217 : decode mY_join.2.1 217 = .ok (.ireturn, 1) := by decide +kernel
theorem eY_take_0 : decode mY_take.2.1 0 = .ok (.aload_n 0, 1) := by decide +kernel
theorem eY_take_1 : decode mY_take.2.1 1 = .ok (.iconst 0, 1) := by decide +kernel
theorem eY_take_2 : decode mY_take.2.1 2 = .ok (.putfield 27, 3) := by decide +kernel
theorem eY_take_5 : decode mY_take.2.1 5 = .ok (.iconst 0, 1) := by decide +kernel
theorem eY_take_6 : decode mY_take.2.1 6 = .ok (.istore_n 1, 1) := by decide +kernel
theorem eY_take_7 : decode mY_take.2.1 7 = .ok (.iload_n 1, 1) := by decide +kernel
theorem eY_take_8 : decode mY_take.2.1 8 = .ok (.bipush 8, 2) := by decide +kernel
theorem eY_take_10 : decode mY_take.2.1 10 = .ok (.if_icmp .ge 20, 3) := by decide +kernel
theorem eY_take_13 : decode mY_take.2.1 13 = .ok (.aload_n 0, 1) := by decide +kernel
theorem eY_take_14 : decode mY_take.2.1 14 = .ok (.getfield 7, 3) := by decide +kernel
theorem eY_take_17 : decode mY_take.2.1 17 = .ok (.iconst 1, 1) := by decide +kernel
theorem eY_take_18 : decode mY_take.2.1 18 = .ok (.iload_n 1, 1) := by decide +kernel
theorem eY_take_19 : decode mY_take.2.1 19 = .ok (.iadd, 1) := by decide +kernel
theorem eY_take_20 : decode mY_take.2.1 20 = .ok (.baload, 1) := by decide +kernel
theorem eY_take_21 : decode mY_take.2.1 21 = .ok (.ifCond .eq 9, 3) := by decide +kernel
theorem eY_take_24 : decode mY_take.2.1 24 = .ok (.iinc 1 1, 3) := by decide +kernel
theorem eY_take_27 : decode mY_take.2.1 27 = .ok (.goto (-20), 3) := by decide +kernel
theorem eY_take_30 : decode mY_take.2.1 30 = .ok (.iload_n 1, 1) := by decide +kernel
theorem eY_take_31 : decode mY_take.2.1 31 = .ok (.bipush 8, 2) := by decide +kernel
theorem eY_take_33 : decode mY_take.2.1 33 = .ok (.if_icmp .ne 5, 3) := by decide +kernel
theorem eY_take_36 : decode mY_take.2.1 36 = .ok (.iconst (-1), 1) := by decide +kernel
theorem eY_take_37 : decode mY_take.2.1 37 = .ok (.ireturn, 1) := by decide +kernel
theorem eY_take_38 : decode mY_take.2.1 38 = .ok (.aload_n 0, 1) := by decide +kernel
theorem eY_take_39 : decode mY_take.2.1 39 = .ok (.getfield 7, 3) := by decide +kernel
theorem eY_take_42 : decode mY_take.2.1 42 = .ok (.iconst 1, 1) := by decide +kernel
theorem eY_take_43 : decode mY_take.2.1 43 = .ok (.iload_n 1, 1) := by decide +kernel
theorem eY_take_44 : decode mY_take.2.1 44 = .ok (.iadd, 1) := by decide +kernel
theorem eY_take_45 : decode mY_take.2.1 45 = .ok (.iconst 1, 1) := by decide +kernel
theorem eY_take_46 : decode mY_take.2.1 46 = .ok (.bastore, 1) := by decide +kernel
theorem eY_take_47 : decode mY_take.2.1 47 = .ok (.aload_n 0, 1) := by decide +kernel
theorem eY_take_48 : decode mY_take.2.1 48 = .ok (.iconst 0, 1) := by decide +kernel
theorem eY_take_49 : decode mY_take.2.1 49 = .ok (.iconst 1, 1) := by decide +kernel
theorem eY_take_50 : decode mY_take.2.1 50 = .ok (.iload_n 1, 1) := by decide +kernel
theorem eY_take_51 : decode mY_take.2.1 51 = .ok (.iadd, 1) := by decide +kernel
theorem eY_take_52 : decode mY_take.2.1 52 = .ok (.invokevirtual 77, 3) := by decide +kernel
theorem eY_take_55 : decode mY_take.2.1 55 = .ok (.iload_n 1, 1) := by decide +kernel
theorem eY_take_56 : decode mY_take.2.1 56 = .ok (.ireturn, 1) := by decide +kernel
theorem eY_isPicture_0 : decode mY_isPicture.2.1 0 = .ok (.iload_n 1, 1) := by decide +kernel
theorem eY_isPicture_1 : decode mY_isPicture.2.1 1 = .ok (.ifCond .lt 24, 3) := by decide +kernel
theorem eY_isPicture_4 : decode mY_isPicture.2.1 4 = .ok (.iload_n 1, 1) := by decide +kernel
theorem eY_isPicture_5 : decode mY_isPicture.2.1 5 = .ok (.bipush 8, 2) := by decide +kernel
theorem eY_isPicture_7 : decode mY_isPicture.2.1 7 = .ok (.if_icmp .ge 18, 3) := by decide +kernel
theorem eY_isPicture_10 : decode mY_isPicture.2.1 10 = .ok (.aload_n 0, 1) := by decide +kernel
theorem eY_isPicture_11 : decode mY_isPicture.2.1 11 = .ok (.getfield 7, 3) := by decide +kernel
theorem eY_isPicture_14 : decode mY_isPicture.2.1 14 = .ok (.iconst 1, 1) := by decide +kernel
theorem eY_isPicture_15 : decode mY_isPicture.2.1 15 = .ok (.iload_n 1, 1) := by decide +kernel
theorem eY_isPicture_16 : decode mY_isPicture.2.1 16 = .ok (.iadd, 1) := by decide +kernel
theorem eY_isPicture_17 : decode mY_isPicture.2.1 17 = .ok (.baload, 1) := by decide +kernel
theorem eY_isPicture_18 : decode mY_isPicture.2.1 18 = .ok (.ifCond .eq 7, 3) := by decide +kernel
theorem eY_isPicture_21 : decode mY_isPicture.2.1 21 = .ok (.iconst 1, 1) := by decide +kernel
theorem eY_isPicture_22 : decode mY_isPicture.2.1 22 = .ok (.goto 4, 3) := by decide +kernel
theorem eY_isPicture_25 : decode mY_isPicture.2.1 25 = .ok (.iconst 0, 1) := by decide +kernel
theorem eY_isPicture_26 : decode mY_isPicture.2.1 26 = .ok (.ireturn, 1) := by decide +kernel
theorem eY_spaces_0 : decode mY_spaces.2.1 0 = .ok (.iconst 0, 1) := by decide +kernel
theorem eY_spaces_1 : decode mY_spaces.2.1 1 = .ok (.istore_n 1, 1) := by decide +kernel
theorem eY_spaces_2 : decode mY_spaces.2.1 2 = .ok (.iconst 0, 1) := by decide +kernel
theorem eY_spaces_3 : decode mY_spaces.2.1 3 = .ok (.istore_n 2, 1) := by decide +kernel
theorem eY_spaces_4 : decode mY_spaces.2.1 4 = .ok (.iload_n 2, 1) := by decide +kernel
theorem eY_spaces_5 : decode mY_spaces.2.1 5 = .ok (.bipush 6, 2) := by decide +kernel
theorem eY_spaces_7 : decode mY_spaces.2.1 7 = .ok (.if_icmp .ge 26, 3) := by decide +kernel
theorem eY_spaces_10 : decode mY_spaces.2.1 10 = .ok (.aload_n 0, 1) := by decide +kernel
theorem eY_spaces_11 : decode mY_spaces.2.1 11 = .ok (.getfield 13, 3) := by decide +kernel
theorem eY_spaces_14 : decode mY_spaces.2.1 14 = .ok (.iload_n 2, 1) := by decide +kernel
theorem eY_spaces_15 : decode mY_spaces.2.1 15 = .ok (.baload, 1) := by decide +kernel
theorem eY_spaces_16 : decode mY_spaces.2.1 16 = .ok (.ifCond .eq 9, 3) := by decide +kernel
theorem eY_spaces_19 : decode mY_spaces.2.1 19 = .ok (.iload_n 1, 1) := by decide +kernel
theorem eY_spaces_20 : decode mY_spaces.2.1 20 = .ok (.iconst 1, 1) := by decide +kernel
theorem eY_spaces_21 : decode mY_spaces.2.1 21 = .ok (.iadd, 1) := by decide +kernel
theorem eY_spaces_22 : decode mY_spaces.2.1 22 = .ok (.goto 4, 3) := by decide +kernel
theorem eY_spaces_25 : decode mY_spaces.2.1 25 = .ok (.iload_n 1, 1) := by decide +kernel
theorem eY_spaces_26 : decode mY_spaces.2.1 26 = .ok (.istore_n 1, 1) := by decide +kernel
theorem eY_spaces_27 : decode mY_spaces.2.1 27 = .ok (.iinc 2 1, 3) := by decide +kernel
theorem eY_spaces_30 : decode mY_spaces.2.1 30 = .ok (.goto (-26), 3) := by decide +kernel
theorem eY_spaces_33 : decode mY_spaces.2.1 33 = .ok (.iload_n 1, 1) := by decide +kernel
theorem eY_spaces_34 : decode mY_spaces.2.1 34 = .ok (.ireturn, 1) := by decide +kernel
theorem eY_back_0 : decode mY_back.2.1 0 = .ok (.aload_n 0, 1) := by decide +kernel
theorem eY_back_1 : decode mY_back.2.1 1 = .ok (.aload_n 0, 1) := by decide +kernel
theorem eY_back_2 : decode mY_back.2.1 2 = .ok (.iload_n 1, 1) := by decide +kernel
theorem eY_back_3 : decode mY_back.2.1 3 = .ok (.invokevirtual 80, 3) := by decide +kernel
theorem eY_back_6 : decode mY_back.2.1 6 = .ok (.ifCond .ne 7, 3) := by decide +kernel
theorem eY_back_9 : decode mY_back.2.1 9 = .ok (.iconst 1, 1) := by decide +kernel
theorem eY_back_10 : decode mY_back.2.1 10 = .ok (.goto 4, 3) := by decide +kernel
theorem eY_back_13 : decode mY_back.2.1 13 = .ok (.iconst 0, 1) := by decide +kernel
theorem eY_back_14 : decode mY_back.2.1 14 = .ok (.iconst 0, 1) := by decide +kernel
theorem eY_back_15 : decode mY_back.2.1 15 = .ok (.iconst 0, 1) := by decide +kernel
theorem eY_back_16 : decode mY_back.2.1 16 = .ok (.invokevirtual 46, 3) := by decide +kernel
theorem eY_back_19 : decode mY_back.2.1 19 = .ok (.ifCond .eq 5, 3) := by decide +kernel
theorem eY_back_22 : decode mY_back.2.1 22 = .ok (.iconst 0, 1) := by decide +kernel
theorem eY_back_23 : decode mY_back.2.1 23 = .ok (.ireturn, 1) := by decide +kernel
theorem eY_back_24 : decode mY_back.2.1 24 = .ok (.aload_n 0, 1) := by decide +kernel
theorem eY_back_25 : decode mY_back.2.1 25 = .ok (.iconst 1, 1) := by decide +kernel
theorem eY_back_26 : decode mY_back.2.1 26 = .ok (.iload_n 1, 1) := by decide +kernel
theorem eY_back_27 : decode mY_back.2.1 27 = .ok (.iadd, 1) := by decide +kernel
theorem eY_back_28 : decode mY_back.2.1 28 = .ok (.iconst 0, 1) := by decide +kernel
theorem eY_back_29 : decode mY_back.2.1 29 = .ok (.invokevirtual 77, 3) := by decide +kernel
theorem eY_back_32 : decode mY_back.2.1 32 = .ok (.aload_n 0, 1) := by decide +kernel
theorem eY_back_33 : decode mY_back.2.1 33 = .ok (.invokevirtual 83, 3) := by decide +kernel
theorem eY_back_36 : decode mY_back.2.1 36 = .ok (.ireturn, 1) := by decide +kernel
theorem eY_drop_0 : decode mY_drop.2.1 0 = .ok (.aload_n 0, 1) := by decide +kernel
theorem eY_drop_1 : decode mY_drop.2.1 1 = .ok (.aload_n 0, 1) := by decide +kernel
theorem eY_drop_2 : decode mY_drop.2.1 2 = .ok (.iload_n 1, 1) := by decide +kernel
theorem eY_drop_3 : decode mY_drop.2.1 3 = .ok (.invokevirtual 80, 3) := by decide +kernel
theorem eY_drop_6 : decode mY_drop.2.1 6 = .ok (.ifCond .ne 7, 3) := by decide +kernel
theorem eY_drop_9 : decode mY_drop.2.1 9 = .ok (.iconst 1, 1) := by decide +kernel
theorem eY_drop_10 : decode mY_drop.2.1 10 = .ok (.goto 4, 3) := by decide +kernel
theorem eY_drop_13 : decode mY_drop.2.1 13 = .ok (.iconst 0, 1) := by decide +kernel
theorem eY_drop_14 : decode mY_drop.2.1 14 = .ok (.iconst 0, 1) := by decide +kernel
theorem eY_drop_15 : decode mY_drop.2.1 15 = .ok (.iconst 0, 1) := by decide +kernel
theorem eY_drop_16 : decode mY_drop.2.1 16 = .ok (.invokevirtual 46, 3) := by decide +kernel
theorem eY_drop_19 : decode mY_drop.2.1 19 = .ok (.ifCond .eq 5, 3) := by decide +kernel
theorem eY_drop_22 : decode mY_drop.2.1 22 = .ok (.iconst 0, 1) := by decide +kernel
theorem eY_drop_23 : decode mY_drop.2.1 23 = .ok (.ireturn, 1) := by decide +kernel
theorem eY_drop_24 : decode mY_drop.2.1 24 = .ok (.aload_n 0, 1) := by decide +kernel
theorem eY_drop_25 : decode mY_drop.2.1 25 = .ok (.invokevirtual 60, 3) := by decide +kernel
theorem eY_drop_28 : decode mY_drop.2.1 28 = .ok (.istore_n 2, 1) := by decide +kernel
theorem eY_drop_29 : decode mY_drop.2.1 29 = .ok (.aload_n 0, 1) := by decide +kernel
theorem eY_drop_30 : decode mY_drop.2.1 30 = .ok (.getfield 7, 3) := by decide +kernel
theorem eY_drop_33 : decode mY_drop.2.1 33 = .ok (.iconst 1, 1) := by decide +kernel
theorem eY_drop_34 : decode mY_drop.2.1 34 = .ok (.iload_n 1, 1) := by decide +kernel
theorem eY_drop_35 : decode mY_drop.2.1 35 = .ok (.iadd, 1) := by decide +kernel
theorem eY_drop_36 : decode mY_drop.2.1 36 = .ok (.iconst 0, 1) := by decide +kernel
theorem eY_drop_37 : decode mY_drop.2.1 37 = .ok (.bastore, 1) := by decide +kernel
theorem eY_drop_38 : decode mY_drop.2.1 38 = .ok (.iconst 0, 1) := by decide +kernel
theorem eY_drop_39 : decode mY_drop.2.1 39 = .ok (.istore_n 3, 1) := by decide +kernel
theorem eY_drop_40 : decode mY_drop.2.1 40 = .ok (.iload_n 3, 1) := by decide +kernel
theorem eY_drop_41 : decode mY_drop.2.1 41 = .ok (.bipush 6, 2) := by decide +kernel
theorem eY_drop_43 : decode mY_drop.2.1 43 = .ok (.if_icmp .ge 17, 3) := by decide +kernel
theorem eY_drop_46 : decode mY_drop.2.1 46 = .ok (.aload_n 0, 1) := by decide +kernel
theorem eY_drop_47 : decode mY_drop.2.1 47 = .ok (.iconst 1, 1) := by decide +kernel
theorem eY_drop_48 : decode mY_drop.2.1 48 = .ok (.iload_n 1, 1) := by decide +kernel
theorem eY_drop_49 : decode mY_drop.2.1 49 = .ok (.iadd, 1) := by decide +kernel
theorem eY_drop_50 : decode mY_drop.2.1 50 = .ok (.iload_n 3, 1) := by decide +kernel
theorem eY_drop_51 : decode mY_drop.2.1 51 = .ok (.invokevirtual 54, 3) := by decide +kernel
theorem eY_drop_54 : decode mY_drop.2.1 54 = .ok (.iinc 3 1, 3) := by decide +kernel
theorem eY_drop_57 : decode mY_drop.2.1 57 = .ok (.goto (-17), 3) := by decide +kernel
theorem eY_drop_60 : decode mY_drop.2.1 60 = .ok (.iload_n 2, 1) := by decide +kernel
theorem eY_drop_61 : decode mY_drop.2.1 61 = .ok (.aload_n 0, 1) := by decide +kernel
theorem eY_drop_62 : decode mY_drop.2.1 62 = .ok (.invokevirtual 60, 3) := by decide +kernel
theorem eY_drop_65 : decode mY_drop.2.1 65 = .ok (.isub, 1) := by decide +kernel
theorem eY_drop_66 : decode mY_drop.2.1 66 = .ok (.ireturn, 1) := by decide +kernel
theorem eY_holders_0 : decode mY_holders.2.1 0 = .ok (.aload_n 0, 1) := by decide +kernel
theorem eY_holders_1 : decode mY_holders.2.1 1 = .ok (.aload_n 0, 1) := by decide +kernel
theorem eY_holders_2 : decode mY_holders.2.1 2 = .ok (.iload_n 1, 1) := by decide +kernel
theorem eY_holders_3 : decode mY_holders.2.1 3 = .ok (.invokevirtual 42, 3) := by decide +kernel
theorem eY_holders_6 : decode mY_holders.2.1 6 = .ok (.ifCond .ne 7, 3) := by decide +kernel
theorem eY_holders_9 : decode mY_holders.2.1 9 = .ok (.iconst 1, 1) := by decide +kernel
theorem eY_holders_10 : decode mY_holders.2.1 10 = .ok (.goto 4, 3) := by decide +kernel
theorem eY_holders_13 : decode mY_holders.2.1 13 = .ok (.iconst 0, 1) := by decide +kernel
theorem eY_holders_14 : decode mY_holders.2.1 14 = .ok (.iload_n 2, 1) := by decide +kernel
theorem eY_holders_15 : decode mY_holders.2.1 15 = .ok (.invokestatic 57, 3) := by decide +kernel
theorem eY_holders_18 : decode mY_holders.2.1 18 = .ok (.ifCond .ne 7, 3) := by decide +kernel
theorem eY_holders_21 : decode mY_holders.2.1 21 = .ok (.iconst 1, 1) := by decide +kernel
theorem eY_holders_22 : decode mY_holders.2.1 22 = .ok (.goto 4, 3) := by decide +kernel
theorem eY_holders_25 : decode mY_holders.2.1 25 = .ok (.iconst 0, 1) := by decide +kernel
theorem eY_holders_26 : decode mY_holders.2.1 26 = .ok (.iconst 0, 1) := by decide +kernel
theorem eY_holders_27 : decode mY_holders.2.1 27 = .ok (.invokevirtual 46, 3) := by decide +kernel
theorem eY_holders_30 : decode mY_holders.2.1 30 = .ok (.ifCond .eq 5, 3) := by decide +kernel
theorem eY_holders_33 : decode mY_holders.2.1 33 = .ok (.iconst 0, 1) := by decide +kernel
theorem eY_holders_34 : decode mY_holders.2.1 34 = .ok (.ireturn, 1) := by decide +kernel
theorem eY_holders_35 : decode mY_holders.2.1 35 = .ok (.aload_n 0, 1) := by decide +kernel
theorem eY_holders_36 : decode mY_holders.2.1 36 = .ok (.aload_n 0, 1) := by decide +kernel
theorem eY_holders_37 : decode mY_holders.2.1 37 = .ok (.getfield 16, 3) := by decide +kernel
theorem eY_holders_40 : decode mY_holders.2.1 40 = .ok (.iconst 0, 1) := by decide +kernel
theorem eY_holders_41 : decode mY_holders.2.1 41 = .ok (.iload_n 1, 1) := by decide +kernel
theorem eY_holders_42 : decode mY_holders.2.1 42 = .ok (.iload_n 2, 1) := by decide +kernel
theorem eY_holders_43 : decode mY_holders.2.1 43 = .ok (.invokestatic 34, 3) := by decide +kernel
theorem eY_holders_46 : decode mY_holders.2.1 46 = .ok (.iaload, 1) := by decide +kernel
theorem eY_holders_47 : decode mY_holders.2.1 47 = .ok (.invokevirtual 70, 3) := by decide +kernel
theorem eY_holders_50 : decode mY_holders.2.1 50 = .ok (.ireturn, 1) := by decide +kernel
theorem eY_changed_0 : decode mY_changed.2.1 0 = .ok (.aload_n 0, 1) := by decide +kernel
theorem eY_changed_1 : decode mY_changed.2.1 1 = .ok (.aload_n 0, 1) := by decide +kernel
theorem eY_changed_2 : decode mY_changed.2.1 2 = .ok (.iload_n 1, 1) := by decide +kernel
theorem eY_changed_3 : decode mY_changed.2.1 3 = .ok (.invokevirtual 80, 3) := by decide +kernel
theorem eY_changed_6 : decode mY_changed.2.1 6 = .ok (.ifCond .ne 7, 3) := by decide +kernel
theorem eY_changed_9 : decode mY_changed.2.1 9 = .ok (.iconst 1, 1) := by decide +kernel
theorem eY_changed_10 : decode mY_changed.2.1 10 = .ok (.goto 4, 3) := by decide +kernel
theorem eY_changed_13 : decode mY_changed.2.1 13 = .ok (.iconst 0, 1) := by decide +kernel
theorem eY_changed_14 : decode mY_changed.2.1 14 = .ok (.iconst 0, 1) := by decide +kernel
theorem eY_changed_15 : decode mY_changed.2.1 15 = .ok (.iconst 0, 1) := by decide +kernel
theorem eY_changed_16 : decode mY_changed.2.1 16 = .ok (.invokevirtual 46, 3) := by decide +kernel
theorem eY_changed_19 : decode mY_changed.2.1 19 = .ok (.ifCond .eq 5, 3) := by decide +kernel
theorem eY_changed_22 : decode mY_changed.2.1 22 = .ok (.iconst 0, 1) := by decide +kernel
theorem eY_changed_23 : decode mY_changed.2.1 23 = .ok (.ireturn, 1) := by decide +kernel
end
section
theorem eY_changed_24 : decode mY_changed.2.1 24 = .ok (.iconst 0, 1) := by decide +kernel
theorem eY_changed_25 : decode mY_changed.2.1 25 = .ok (.istore_n 2, 1) := by decide +kernel
theorem eY_changed_26 : decode mY_changed.2.1 26 = .ok (.iconst 0, 1) := by decide +kernel
theorem eY_changed_27 : decode mY_changed.2.1 27 = .ok (.istore_n 3, 1) := by decide +kernel
theorem eY_changed_28 : decode mY_changed.2.1 28 = .ok (.iload_n 3, 1) := by decide +kernel
theorem eY_changed_29 : decode mY_changed.2.1 29 = .ok (.bipush 48, 2) := by decide +kernel
theorem eY_changed_31 : decode mY_changed.2.1 31 = .ok (.if_icmp .ge 39, 3) := by decide +kernel
theorem eY_changed_34 : decode mY_changed.2.1 34 = .ok (.aload_n 0, 1) := by decide +kernel
theorem eY_changed_35 : decode mY_changed.2.1 35 = .ok (.getfield 16, 3) := by decide +kernel
theorem eY_changed_38 : decode mY_changed.2.1 38 = .ok (.iload_n 3, 1) := by decide +kernel
theorem eY_changed_39 : decode mY_changed.2.1 39 = .ok (.iaload, 1) := by decide +kernel
theorem eY_changed_40 : decode mY_changed.2.1 40 = .ok (.aload_n 0, 1) := by decide +kernel
theorem eY_changed_41 : decode mY_changed.2.1 41 = .ok (.getfield 16, 3) := by decide +kernel
theorem eY_changed_44 : decode mY_changed.2.1 44 = .ok (.bipush 48, 2) := by decide +kernel
theorem eY_changed_46 : decode mY_changed.2.1 46 = .ok (.iconst 1, 1) := by decide +kernel
theorem eY_changed_47 : decode mY_changed.2.1 47 = .ok (.iload_n 1, 1) := by decide +kernel
theorem eY_changed_48 : decode mY_changed.2.1 48 = .ok (.iadd, 1) := by decide +kernel
theorem eY_changed_49 : decode mY_changed.2.1 49 = .ok (.imul, 1) := by decide +kernel
theorem eY_changed_50 : decode mY_changed.2.1 50 = .ok (.iload_n 3, 1) := by decide +kernel
theorem eY_changed_51 : decode mY_changed.2.1 51 = .ok (.iadd, 1) := by decide +kernel
theorem eY_changed_52 : decode mY_changed.2.1 52 = .ok (.iaload, 1) := by decide +kernel
theorem eY_changed_53 : decode mY_changed.2.1 53 = .ok (.if_icmp .ne 7, 3) := by decide +kernel
theorem eY_changed_56 : decode mY_changed.2.1 56 = .ok (.iload_n 2, 1) := by decide +kernel
theorem eY_changed_57 : decode mY_changed.2.1 57 = .ok (.goto 6, 3) := by decide +kernel
theorem eY_changed_60 : decode mY_changed.2.1 60 = .ok (.iload_n 2, 1) := by decide +kernel
theorem eY_changed_61 : decode mY_changed.2.1 61 = .ok (.iconst 1, 1) := by decide +kernel
theorem eY_changed_62 : decode mY_changed.2.1 62 = .ok (.iadd, 1) := by decide +kernel
theorem eY_changed_63 : decode mY_changed.2.1 63 = .ok (.istore_n 2, 1) := by decide +kernel
theorem eY_changed_64 : decode mY_changed.2.1 64 = .ok (.iinc 3 1, 3) := by decide +kernel
theorem eY_changed_67 : decode mY_changed.2.1 67 = .ok (.goto (-39), 3) := by decide +kernel
theorem eY_changed_70 : decode mY_changed.2.1 70 = .ok (.iload_n 2, 1) := by decide +kernel
theorem eY_changed_71 : decode mY_changed.2.1 71 = .ok (.ireturn, 1) := by decide +kernel
theorem eY_count_0 : decode mY_count.2.1 0 = .ok (.aload_n 0, 1) := by decide +kernel
theorem eY_count_1 : decode mY_count.2.1 1 = .ok (.iconst 0, 1) := by decide +kernel
theorem eY_count_2 : decode mY_count.2.1 2 = .ok (.putfield 27, 3) := by decide +kernel
theorem eY_count_5 : decode mY_count.2.1 5 = .ok (.iconst 0, 1) := by decide +kernel
theorem eY_count_6 : decode mY_count.2.1 6 = .ok (.istore_n 2, 1) := by decide +kernel
theorem eY_count_7 : decode mY_count.2.1 7 = .ok (.iconst 1, 1) := by decide +kernel
theorem eY_count_8 : decode mY_count.2.1 8 = .ok (.istore_n 3, 1) := by decide +kernel
theorem eY_count_9 : decode mY_count.2.1 9 = .ok (.iload_n 3, 1) := by decide +kernel
theorem eY_count_10 : decode mY_count.2.1 10 = .ok (.bipush 8, 2) := by decide +kernel
theorem eY_count_12 : decode mY_count.2.1 12 = .ok (.if_icmp .gt 31, 3) := by decide +kernel
theorem eY_count_15 : decode mY_count.2.1 15 = .ok (.iload_n 1, 1) := by decide +kernel
theorem eY_count_16 : decode mY_count.2.1 16 = .ok (.iconst 3, 1) := by decide +kernel
theorem eY_count_17 : decode mY_count.2.1 17 = .ok (.if_icmp .ne 26, 3) := by decide +kernel
theorem eY_count_20 : decode mY_count.2.1 20 = .ok (.aload_n 0, 1) := by decide +kernel
theorem eY_count_21 : decode mY_count.2.1 21 = .ok (.getfield 7, 3) := by decide +kernel
theorem eY_count_24 : decode mY_count.2.1 24 = .ok (.iload_n 3, 1) := by decide +kernel
theorem eY_count_25 : decode mY_count.2.1 25 = .ok (.baload, 1) := by decide +kernel
theorem eY_count_26 : decode mY_count.2.1 26 = .ok (.ifCond .eq 9, 3) := by decide +kernel
theorem eY_count_29 : decode mY_count.2.1 29 = .ok (.iload_n 2, 1) := by decide +kernel
theorem eY_count_30 : decode mY_count.2.1 30 = .ok (.iconst 1, 1) := by decide +kernel
theorem eY_count_31 : decode mY_count.2.1 31 = .ok (.iadd, 1) := by decide +kernel
theorem eY_count_32 : decode mY_count.2.1 32 = .ok (.goto 4, 3) := by decide +kernel
theorem eY_count_35 : decode mY_count.2.1 35 = .ok (.iload_n 2, 1) := by decide +kernel
theorem eY_count_36 : decode mY_count.2.1 36 = .ok (.istore_n 2, 1) := by decide +kernel
theorem eY_count_37 : decode mY_count.2.1 37 = .ok (.iinc 3 1, 3) := by decide +kernel
theorem eY_count_40 : decode mY_count.2.1 40 = .ok (.goto (-31), 3) := by decide +kernel
theorem eY_count_43 : decode mY_count.2.1 43 = .ok (.iconst 0, 1) := by decide +kernel
theorem eY_count_44 : decode mY_count.2.1 44 = .ok (.istore_n 3, 1) := by decide +kernel
theorem eY_count_45 : decode mY_count.2.1 45 = .ok (.iload_n 3, 1) := by decide +kernel
theorem eY_count_46 : decode mY_count.2.1 46 = .ok (.bipush 6, 2) := by decide +kernel
theorem eY_count_48 : decode mY_count.2.1 48 = .ok (.if_icmp .ge 22, 3) := by decide +kernel
theorem eY_count_51 : decode mY_count.2.1 51 = .ok (.iload_n 1, 1) := by decide +kernel
theorem eY_count_52 : decode mY_count.2.1 52 = .ok (.iconst 4, 1) := by decide +kernel
theorem eY_count_53 : decode mY_count.2.1 53 = .ok (.if_icmp .ne 17, 3) := by decide +kernel
theorem eY_count_56 : decode mY_count.2.1 56 = .ok (.iload_n 2, 1) := by decide +kernel
theorem eY_count_57 : decode mY_count.2.1 57 = .ok (.aload_n 0, 1) := by decide +kernel
theorem eY_count_58 : decode mY_count.2.1 58 = .ok (.iload_n 3, 1) := by decide +kernel
theorem eY_count_59 : decode mY_count.2.1 59 = .ok (.invokevirtual 50, 3) := by decide +kernel
theorem eY_count_62 : decode mY_count.2.1 62 = .ok (.iadd, 1) := by decide +kernel
theorem eY_count_63 : decode mY_count.2.1 63 = .ok (.istore_n 2, 1) := by decide +kernel
theorem eY_count_64 : decode mY_count.2.1 64 = .ok (.iinc 3 1, 3) := by decide +kernel
theorem eY_count_67 : decode mY_count.2.1 67 = .ok (.goto (-22), 3) := by decide +kernel
theorem eY_count_70 : decode mY_count.2.1 70 = .ok (.iload_n 1, 1) := by decide +kernel
theorem eY_count_71 : decode mY_count.2.1 71 = .ok (.tableswitch 50 0 4 #[33, 38, 43, 48, 48], 33) := by decide +kernel
theorem eY_count_104 : decode mY_count.2.1 104 = .ok (.aload_n 0, 1) := by decide +kernel
theorem eY_count_105 : decode mY_count.2.1 105 = .ok (.invokevirtual 60, 3) := by decide +kernel
theorem eY_count_108 : decode mY_count.2.1 108 = .ok (.ireturn, 1) := by decide +kernel
theorem eY_count_109 : decode mY_count.2.1 109 = .ok (.aload_n 0, 1) := by decide +kernel
theorem eY_count_110 : decode mY_count.2.1 110 = .ok (.getfield 23, 3) := by decide +kernel
theorem eY_count_113 : decode mY_count.2.1 113 = .ok (.ireturn, 1) := by decide +kernel
theorem eY_count_114 : decode mY_count.2.1 114 = .ok (.aload_n 0, 1) := by decide +kernel
theorem eY_count_115 : decode mY_count.2.1 115 = .ok (.invokevirtual 83, 3) := by decide +kernel
theorem eY_count_118 : decode mY_count.2.1 118 = .ok (.ireturn, 1) := by decide +kernel
theorem eY_count_119 : decode mY_count.2.1 119 = .ok (.iload_n 2, 1) := by decide +kernel
theorem eY_count_120 : decode mY_count.2.1 120 = .ok (.ireturn, 1) := by decide +kernel
theorem eY_count_121 : decode mY_count.2.1 121 = .ok (.iconst (-1), 1) := by decide +kernel
theorem eY_count_122 : decode mY_count.2.1 122 = .ok (.ireturn, 1) := by decide +kernel
theorem eY_isThere_0 : decode mY_isThere.2.1 0 = .ok (.aload_n 0, 1) := by decide +kernel
theorem eY_isThere_1 : decode mY_isThere.2.1 1 = .ok (.iconst 0, 1) := by decide +kernel
theorem eY_isThere_2 : decode mY_isThere.2.1 2 = .ok (.putfield 27, 3) := by decide +kernel
theorem eY_isThere_5 : decode mY_isThere.2.1 5 = .ok (.aload_n 0, 1) := by decide +kernel
theorem eY_isThere_6 : decode mY_isThere.2.1 6 = .ok (.iload_n 1, 1) := by decide +kernel
theorem eY_isThere_7 : decode mY_isThere.2.1 7 = .ok (.invokevirtual 42, 3) := by decide +kernel
theorem eY_isThere_10 : decode mY_isThere.2.1 10 = .ok (.ireturn, 1) := by decide +kernel
theorem eY_init_0 : decode mY_init.2.1 0 = .ok (.aload_n 0, 1) := by decide +kernel
theorem eY_init_1 : decode mY_init.2.1 1 = .ok (.invokespecial 1, 3) := by decide +kernel
theorem eY_init_4 : decode mY_init.2.1 4 = .ok (.aload_n 0, 1) := by decide +kernel
theorem eY_init_5 : decode mY_init.2.1 5 = .ok (.bipush 9, 2) := by decide +kernel
theorem eY_init_7 : decode mY_init.2.1 7 = .ok (.newarray .boolean, 2) := by decide +kernel
theorem eY_init_9 : decode mY_init.2.1 9 = .ok (.putfield 7, 3) := by decide +kernel
theorem eY_init_12 : decode mY_init.2.1 12 = .ok (.aload_n 0, 1) := by decide +kernel
theorem eY_init_13 : decode mY_init.2.1 13 = .ok (.bipush 54, 2) := by decide +kernel
theorem eY_init_15 : decode mY_init.2.1 15 = .ok (.newarray .boolean, 2) := by decide +kernel
theorem eY_init_17 : decode mY_init.2.1 17 = .ok (.putfield 13, 3) := by decide +kernel
theorem eY_init_20 : decode mY_init.2.1 20 = .ok (.aload_n 0, 1) := by decide +kernel
theorem eY_init_21 : decode mY_init.2.1 21 = .ok (.sipush 432, 3) := by decide +kernel
theorem eY_init_24 : decode mY_init.2.1 24 = .ok (.newarray .int, 2) := by decide +kernel
theorem eY_init_26 : decode mY_init.2.1 26 = .ok (.putfield 16, 3) := by decide +kernel
theorem eY_init_29 : decode mY_init.2.1 29 = .ok (.aload_n 0, 1) := by decide +kernel
theorem eY_init_30 : decode mY_init.2.1 30 = .ok (.sipush 6912, 3) := by decide +kernel
theorem eY_init_33 : decode mY_init.2.1 33 = .ok (.newarray .int, 2) := by decide +kernel
theorem eY_init_35 : decode mY_init.2.1 35 = .ok (.putfield 20, 3) := by decide +kernel
theorem eY_init_38 : decode mY_init.2.1 38 = .ok (.aload_n 0, 1) := by decide +kernel
theorem eY_init_39 : decode mY_init.2.1 39 = .ok (.iload_n 1, 1) := by decide +kernel
theorem eY_init_40 : decode mY_init.2.1 40 = .ok (.iconst 1, 1) := by decide +kernel
theorem eY_init_41 : decode mY_init.2.1 41 = .ok (.if_icmp .ge 7, 3) := by decide +kernel
theorem eY_init_44 : decode mY_init.2.1 44 = .ok (.iconst 1, 1) := by decide +kernel
theorem eY_init_45 : decode mY_init.2.1 45 = .ok (.goto 15, 3) := by decide +kernel
theorem eY_init_48 : decode mY_init.2.1 48 = .ok (.iload_n 1, 1) := by decide +kernel
theorem eY_init_49 : decode mY_init.2.1 49 = .ok (.bipush 60, 2) := by decide +kernel
theorem eY_init_51 : decode mY_init.2.1 51 = .ok (.if_icmp .le 8, 3) := by decide +kernel
theorem eY_init_54 : decode mY_init.2.1 54 = .ok (.bipush 60, 2) := by decide +kernel
theorem eY_init_56 : decode mY_init.2.1 56 = .ok (.goto 4, 3) := by decide +kernel
theorem eY_init_59 : decode mY_init.2.1 59 = .ok (.iload_n 1, 1) := by decide +kernel
theorem eY_init_60 : decode mY_init.2.1 60 = .ok (.putfield 23, 3) := by decide +kernel
theorem eY_init_63 : decode mY_init.2.1 63 = .ok (.aload_n 0, 1) := by decide +kernel
theorem eY_init_64 : decode mY_init.2.1 64 = .ok (.getfield 7, 3) := by decide +kernel
theorem eY_init_67 : decode mY_init.2.1 67 = .ok (.iconst 0, 1) := by decide +kernel
theorem eY_init_68 : decode mY_init.2.1 68 = .ok (.iconst 1, 1) := by decide +kernel
theorem eY_init_69 : decode mY_init.2.1 69 = .ok (.bastore, 1) := by decide +kernel
theorem eY_init_70 : decode mY_init.2.1 70 = .ok (.return_, 1) := by decide +kernel
end
section
/-! A plain logic over W: Go says that the method M, at pc with locals ls, operand stack st and the world es, comes to its end with Phi. Own work; every rule stands on a row of the kit. -/
/-- what is fixed through a run: class numbers and slots, array classes, the script (address, length, ints) -/
abbrev gG : Type := va_G × List (ClassId × FieldType) × Nat × Nat × (Nat → Int32)
def gX (E : String) (a : Nat) (s t : State) : Prop := ∃ cell : Cell, t.heap[a]? = some cell ∧ s.vm.findClass E = some cell.cls ∧ cell.vm.isStatics = false
def gEnd (g : gG) (A : Nat → Prop) (s : State) (below : List Frame) (mc ms : Nat) (Phi : gR → va_W → Prop) (t : State) : Prop :=
  ∃ (o : Outcome) (L : List Loc) (es : va_W), t.status = .running ∧ Ended t below o ∧ s.WarmedH t.vm ∧ s.sameButNew ({ t with vm := s.vm } : State) L mc ms ∧ (∀ q ∈ L, A q.base) ∧ va_F A s t ∧ va_P g.1 vwCl es t.heap ∧ va_D A es ∧
    ((∃ v : Option Value, o = .returned v ∧ Phi (.inl v) es) ∨ ∃ (a : Addr) (E : String), o = .threw a ∧ gX E a s t ∧ Phi (.inr E) es)
/-- the frame's own facts -/
def gF (M : gM) (p : Program) (s : State) (m : MethodId) (meth : Method) (c : Code) : Prop :=
  p.tables.exec = Jvm.exec ∧ c.code = M.2.1 ∧ c.maxLocals = M.2.2.1 ∧ meth.sig.returnType = M.2.2.2.1 ∧ meth.locks = false ∧ meth.name = M.1.name ∧
    c.exceptionTable.toList.map (fun h => (h.startPc, h.endPc, h.handlerPc, h.catchType)) = M.2.2.2.2 ∧ s.vm.findClass M.1.cls = some m.cls
/-- a static of a class: where it lies, and that it holds a reference or null -/
def gLs (C nm d : String) (A : Nat → Prop) (U : State) (H : Heap) : Prop := ∃ (c : ClassId) (k : Class) (i : Nat) (f : Field) (a : Nat) (cell : Cell), (U.vm.findClass C = some c ∧ U.fieldFound? C nm d = some (c, k, i, f) ∧ f.isStatic = true ∧ k.statics = some a ∧ k.staticTypes[f.slot]? = some f.type) ∧ H[a]? = some cell ∧ (cell.vm.isStatics = true ∧ cell.cls = c ∧ f.slot < cell.slots.size) ∧ ¬ A a
def gZs (C nm d : String) (A : Nat → Prop) (U : State) (H : Heap) : Prop := va_Zq C nm d A U H ∧ gLs C nm d A U H
theorem gZs.go {C nm d : String} {A B : Nat → Prop} {u U : State} {H H1 : Heap} (h : gZs C nm d A u H) (hvm : u.vm.Alike U.vm) (hq : ∀ a : Nat, a < H.size → ¬ A a → H1[a]? = H[a]?) (hAB : ∀ q, B q → A q) : gZs C nm d B U H1 := by
  refine ⟨va_Zq.moved hvm ((h.1.kept hq).narrow hAB), ?_⟩
  obtain ⟨c, k, i, f, a, cell, ⟨q1, q2, q3, q4, q5⟩, q6, q7, q8⟩ := h.2
  obtain ⟨k', hi', he⟩ := State.fieldFound?_setVm hvm q2
  exact ⟨c, k', i, f, a, cell, ⟨by rw [hvm.findClass]; exact q1, hi', q3, by rw [he]; exact q4, by rw [he]; exact q5⟩, by rw [hq a (Array.getElem?_eq_some_iff.mp q6).1 q8]; exact q6, q7, fun z => q8 (hAB _ z)⟩
theorem gZs.lay {C nm d : String} {A : Nat → Prop} {s : State} {args : Array Value} (h : gZs C nm d A s s.heap) : (Cond.laysStatic C nm d).before args s = true := by
  obtain ⟨c, k, i, f, a, cell, ⟨q1, q2, q3, q4, q5⟩, q6, ⟨q7, q8, q9⟩, -⟩ := h.2
  show (Cond.laysStatic C nm d).holds args s none s [] = true
  exact Cond.laysStatic_of q1 q2 q3 q4 q6 q7 q8 q9 q5
theorem gZs.of {args : Array Value} {s : State} {C nm d : String} {A : Nat → Prop} (hl : (Cond.laysStatic C nm d).before args s = true) (hini : (Cond.initialized C).before args s = true) (h : (Cond.isRef (.static C nm d)).before args s = true) (hA : ∀ a : Nat, a < s.heap.size → ¬ A a) : gZs C nm d A s s.heap := by
  refine ⟨va_Zqof hl hini h hA, ?_⟩
  obtain ⟨c, k, i, f, a, cell, q1, q2, q3, q4, q5, q6, q7, q8, q9⟩ := Cond.laysStatic_spec hl
  exact ⟨c, k, i, f, a, cell, ⟨q1, q2, q3, q4, q9⟩, q5, ⟨q6, q7, q8⟩, hA a (Array.getElem?_eq_some_iff.mp q5).1⟩
/-- what stands around it: the tables' words, the classes, which cells are free, the script, Throwable's two statics, no stack traces, the texts -/
def gE (g : gG) (e : Env) (s : State) (args : Array Value) (A : Nat → Prop) : Prop :=
  (∀ w ∈ lw_tbl, gGood w = true → w.before args s = true) ∧ va_K g.1 vwCl g.2.1 s ∧ (∀ q, s.heap.size ≤ q → A q) ∧ (∀ q cell, A q → s.heap[q]? = some cell → cell.vm.isStatics = false) ∧
    va_X g.2.2.1 g.2.2.2.1 g.2.2.2.2 s s.heap ∧ g.2.2.1 < s.heap.size ∧ ¬ A g.2.2.1 ∧
    gZs Jvm.Bundle.tN "UNASSIGNED_STACK" Jvm.Bundle.steD A s s.heap ∧ gZs Jvm.Bundle.tN "SUPPRESSED_SENTINEL" Jvm.Bundle.listD A s s.heap ∧ e.platform.stackTraces = false ∧
    (∀ q ∈ gStr, ∃ a : Nat, vk_R q.1 q.2.1 q.2.2 a s) ∧ ∀ q ∈ gNc, va_Nc q.1 q.2 s
def gK (g : gG) (M : gM) (n : Nat) (p : Program) (e : Env) (R : Room) (s : State) (m : MethodId) (args : Array Value) (meth : Method) (c : Code) (A : Nat → Prop) : Prop :=
  gF M p s m meth c ∧ gE g e s args A ∧ n + 5 ≤ R.frames ∧ 32 * n + 200 ≤ R.locals
section GKA
variable {g : gG} {M : gM} {n : Nat} {p : Program} {e : Env} {R : Room} {s : State} {m : MethodId} {args : Array Value} {meth : Method} {c : Code} {A : Nat → Prop}
theorem gK.hx (C : gK g M n p e R s m args meth c A) : p.tables.exec = Jvm.exec := C.1.1
theorem gK.hb (C : gK g M n p e R s m args meth c A) : c.code = M.2.1 := C.1.2.1
theorem gK.hml (C : gK g M n p e R s m args meth c A) : c.maxLocals = M.2.2.1 := C.1.2.2.1
theorem gK.hr (C : gK g M n p e R s m args meth c A) : meth.sig.returnType = M.2.2.2.1 := C.1.2.2.2.1
theorem gK.hlk (C : gK g M n p e R s m args meth c A) : meth.locks = false := C.1.2.2.2.2.1
theorem gK.hnm (C : gK g M n p e R s m args meth c A) : meth.name = M.1.name := C.1.2.2.2.2.2.1
theorem gK.hh (C : gK g M n p e R s m args meth c A) : c.exceptionTable.toList.map (fun h => (h.startPc, h.endPc, h.handlerPc, h.catchType)) = M.2.2.2.2 := C.1.2.2.2.2.2.2.1
theorem gK.hown (C : gK g M n p e R s m args meth c A) : s.vm.findClass M.1.cls = some m.cls := C.1.2.2.2.2.2.2.2
theorem gK.hts (C : gK g M n p e R s m args meth c A) : ∀ w ∈ lw_tbl, gGood w = true → w.before args s = true := C.2.1.1
theorem gK.hk (C : gK g M n p e R s m args meth c A) : va_K g.1 vwCl g.2.1 s := C.2.1.2.1
theorem gK.hA (C : gK g M n p e R s m args meth c A) : ∀ q, s.heap.size ≤ q → A q := C.2.1.2.2.1
theorem gK.hX (C : gK g M n p e R s m args meth c A) : va_X g.2.2.1 g.2.2.2.1 g.2.2.2.2 s s.heap := C.2.1.2.2.2.2.1
theorem gK.hXl (C : gK g M n p e R s m args meth c A) : g.2.2.1 < s.heap.size := C.2.1.2.2.2.2.2.1
theorem gK.hXA (C : gK g M n p e R s m args meth c A) : ¬ A g.2.2.1 := C.2.1.2.2.2.2.2.2.1
theorem gK.hfr (C : gK g M n p e R s m args meth c A) : n + 5 ≤ R.frames := C.2.2.1
theorem gK.hlo (C : gK g M n p e R s m args meth c A) : 32 * n + 200 ≤ R.locals := C.2.2.2
theorem gA_stat {es : va_W} {H : Heap} (hP : va_P g.1 vwCl es H) : ∀ (q : Nat) (cell : Cell), va_A es H.size q → H[q]? = some cell → cell.vm.isStatics = false := by
  intro q cell h hc
  rcases h with ⟨k, x, hk⟩ | h
  · have h1 := hP k (q, x) hk
    cases x with
    | inl a =>
      have h2 : H[q]? = some (vp_cell a.1 a.2) := h1
      rw [hc] at h2
      cases h2
      obtain ⟨a1, a2, a3⟩ := a
      rcases a3 with f | f | f | f | f <;> rfl
    | inr o =>
      obtain ⟨r, -, c2, h2, -, h4, -⟩ := h1
      have h2' : H[q]? = some c2 := h2
      rw [hc] at h2'
      cases h2'
      rw [h4]; rfl
  · rw [Array.getElem?_eq_none h] at hc; cases hc
theorem gA_sub {es : va_W} {H : Heap} {locs : List Loc} (hA : ∀ q, s.heap.size ≤ q → A q) (hD : va_D A es) (hS : va_S A s.heap H locs) : ∀ q, va_A es H.size q → A q := by
  intro q h
  rcases h with ⟨k, x, hk⟩ | h
  · exact hD.2 k (q, x) hk
  · exact hA q (Nat.le_trans hS.1 h)
/-- what stands around a frame stands around the next one, whose cells are the world's and the new ones -/
theorem gE.move {T s2 : State} {args2 : Array Value} {es : va_W} {locs : List Loc} (E : gE g e s args A) (hW : s.WarmedH T.vm) (hv : s2.vm = T.vm) (hh : s2.heap = T.heap) (hP : va_P g.1 vwCl es T.heap) (hD : va_D A es) (hS : va_S A s.heap T.heap locs) : gE g e s2 args2 (va_A es T.heap.size) := by
  obtain ⟨d2, d3, e1, e2, e3, e4, e5, f1, f2, f3, f4, f5⟩ := E
  have hW2 : s.WarmedH s2.vm := by rw [hv]; exact hW
  have hal : s.vm.Alike s2.vm := hW2.alike
  have hAB := gA_sub e1 hD hS
  refine ⟨?_, va_K.moved hal d3, ?_, ?_, ?_, ?_, fun h => e5 (hAB _ h), ?_, ?_, f3, ?_, fun q hq => va_Nc.moved hal (f5 q hq)⟩
  · intro w hw hg
    exact gWord_at (s := s) (U := s2) hW2 hg (d2 w hw hg)
  · intro q h; rw [hh] at h; exact Or.inr h
  · rw [hh]; exact gA_stat hP
  · rw [hh]; exact va_X.moved hal (e3.kept (H1 := T.heap) (hS.2.1 _ e4 e5))
  · rw [hh]; exact Nat.lt_of_lt_of_le e4 hS.1
  · rw [hh]; exact f1.go hal hS.2.1 hAB
  · rw [hh]; exact f2.go hal hS.2.1 hAB
  · intro q hq
    obtain ⟨a, ha⟩ := f4 q hq
    exact ⟨a, vk_R.warm hW2 ha⟩
end GKA
def Go (g : gG) (M : gM) (n mc ms pc : Nat) (ls : List (Nat × Value)) (st : List Value) (es : va_W) (Phi : gR → va_W → Prop) : Prop :=
  ∀ (p : Program) (l : Launch) (e : Env) (R : Room) (s : State) (m : MethodId) (args : Array Value) (below : List Frame) (meth : Method) (c : Code) (A : Nat → Prop) (tc ts : Nat), gK g M n p e R s m args meth c A → tc ≤ R.cells → ts ≤ R.slots →
    ∀ (H : Heap) (locs : List Loc) (cells slots : Nat) (arr : Array Slot), va_P g.1 vwCl es H → va_D A es → va_S A s.heap H locs → lv_has arr M.2.2.1 ls → cells + mc ≤ tc → slots + ms ≤ ts →
      W p l e R s m args below meth c H locs cells slots (gEnd g A s below tc ts Phi) (F0 m pc arr st)
section GO
variable {g : gG} {M : gM} {n mc ms pc : Nat} {ls : List (Nat × Value)} {st : List Value} {es : va_W} {Phi : gR → va_W → Prop}
/-- a step that changes pc and stack alone -/
theorem go_lift {pc' : Nat} {st' : List Value}
    (h : ∀ (p : Program) (l : Launch) (e : Env) (R : Room) (s : State) (m : MethodId) (args : Array Value) (below : List Frame) (meth : Method) (c : Code) (H : Heap) (locs : List Loc) (cells slots : Nat) (Q : State → Prop) (arr : Array Slot), p.tables.exec = Jvm.exec → c.code = M.2.1 → lv_has arr M.2.2.1 ls →
      W p l e R s m args below meth c H locs cells slots Q (F0 m pc' arr st') → W p l e R s m args below meth c H locs cells slots Q (F0 m pc arr st))
    (k : Go g M n mc ms pc' ls st' es Phi) : Go g M n mc ms pc ls st es Phi := by
  intro p l e R s m args below meth c A tc ts C h1 h2 H locs cells slots arr hP hD hS hl h3 h4
  exact h p l e R s m args below meth c H locs cells slots _ arr C.hx C.hb hl (k p l e R s m args below meth c A tc ts C h1 h2 H locs cells slots arr hP hD hS hl h3 h4)
/-- two ways on -/
theorem go_lift2 {pa pb : Nat} {sa : List Value} {P : Prop}
    (h : ∀ (p : Program) (l : Launch) (e : Env) (R : Room) (s : State) (m : MethodId) (args : Array Value) (below : List Frame) (meth : Method) (c : Code) (H : Heap) (locs : List Loc) (cells slots : Nat) (Q : State → Prop) (arr : Array Slot), p.tables.exec = Jvm.exec → c.code = M.2.1 → lv_has arr M.2.2.1 ls →
      (P → W p l e R s m args below meth c H locs cells slots Q (F0 m pa arr sa)) → (¬ P → W p l e R s m args below meth c H locs cells slots Q (F0 m pb arr sa)) → W p l e R s m args below meth c H locs cells slots Q (F0 m pc arr st))
    (ka : P → Go g M n mc ms pa ls sa es Phi) (kb : ¬ P → Go g M n mc ms pb ls sa es Phi) : Go g M n mc ms pc ls st es Phi := by
  intro p l e R s m args below meth c A tc ts C h1 h2 H locs cells slots arr hP hD hS hl h3 h4
  exact h p l e R s m args below meth c H locs cells slots _ arr C.hx C.hb hl (fun q => ka q p l e R s m args below meth c A tc ts C h1 h2 H locs cells slots arr hP hD hS hl h3 h4) (fun q => kb q p l e R s m args below meth c A tc ts C h1 h2 H locs cells slots arr hP hD hS hl h3 h4)
/-- a step that stores into a local -/
theorem go_lift3 {pc' : Nat} {st' : List Value} {ls' : List (Nat × Value)}
    (h : ∀ (p : Program) (l : Launch) (e : Env) (R : Room) (s : State) (m : MethodId) (args : Array Value) (below : List Frame) (meth : Method) (c : Code) (H : Heap) (locs : List Loc) (cells slots : Nat) (Q : State → Prop) (arr : Array Slot), p.tables.exec = Jvm.exec → c.code = M.2.1 → lv_has arr M.2.2.1 ls →
      (∀ arr' : Array Slot, lv_has arr' M.2.2.1 ls' → W p l e R s m args below meth c H locs cells slots Q (F0 m pc' arr' st')) → W p l e R s m args below meth c H locs cells slots Q (F0 m pc arr st))
    (k : Go g M n mc ms pc' ls' st' es Phi) : Go g M n mc ms pc ls st es Phi := by
  intro p l e R s m args below meth c A tc ts C h1 h2 H locs cells slots arr hP hD hS hl h3 h4
  exact h p l e R s m args below meth c H locs cells slots _ arr C.hx C.hb hl (fun arr' hl' => k p l e R s m args below meth c A tc ts C h1 h2 H locs cells slots arr' hP hD hS hl' h3 h4)
/-- fewer locals, in another order -/
theorem go_ls {ls' : List (Nat × Value)} (ks : List Nat) (hl : lv_pick ls ks = ls') (k : Go g M n mc ms pc ls' st es Phi) : Go g M n mc ms pc ls st es Phi := by
  intro p l e R s m args below meth c A tc ts C h1 h2 H locs cells slots arr hP hD hS hl' h3 h4
  exact k p l e R s m args below meth c A tc ts C h1 h2 H locs cells slots arr hP hD hS (lv_sub hl' ks hl) h3 h4
theorem go_es {es' : va_W} (h : es = es') (k : Go g M n mc ms pc ls st es' Phi) : Go g M n mc ms pc ls st es Phi := h ▸ k
theorem go_pc {pc' : Nat} (h : pc = pc') (k : Go g M n mc ms pc' ls st es Phi) : Go g M n mc ms pc ls st es Phi := h ▸ k
theorem go_st {st' : List Value} (h : st = st') (k : Go g M n mc ms pc ls st' es Phi) : Go g M n mc ms pc ls st es Phi := h ▸ k
theorem go_less {mc' ms' : Nat} (h1 : mc' ≤ mc) (h2 : ms' ≤ ms) (k : Go g M n mc' ms' pc ls st es Phi) : Go g M n mc ms pc ls st es Phi := by
  intro p l e R s m args below meth c A tc ts C q1 q2 H locs cells slots arr hP hD hS hl h3 h4
  exact k p l e R s m args below meth c A tc ts C q1 q2 H locs cells slots arr hP hD hS hl (by omega) (by omega)
theorem go_deep {n' : Nat} (h : n' ≤ n) (k : Go g M n' mc ms pc ls st es Phi) : Go g M n mc ms pc ls st es Phi := by
  intro p l e R s m args below meth c A tc ts C q1 q2 H locs cells slots arr hP hD hS hl h3 h4
  obtain ⟨c1, c2, c3, c4⟩ := C
  exact k p l e R s m args below meth c A tc ts ⟨c1, c2, by omega, by omega⟩ q1 q2 H locs cells slots arr hP hD hS hl h3 h4
theorem go_imp {Psi : gR → va_W → Prop} (h : ∀ r w, Psi r w → Phi r w) (k : Go g M n mc ms pc ls st es Psi) : Go g M n mc ms pc ls st es Phi := by
  intro p l e R s m args below meth c A tc ts C h1 h2 H locs cells slots arr hP hD hS hl h3 h4 T hT X
  obtain ⟨t, a, o, L, es', b1, b2, b3, b4, b5, b6, b7, b8, b9⟩ := k p l e R s m args below meth c A tc ts C h1 h2 H locs cells slots arr hP hD hS hl h3 h4 T hT X
  refine ⟨t, a, o, L, es', b1, b2, b3, b4, b5, b6, b7, b8, ?_⟩
  rcases b9 with ⟨v, q1, q2⟩ | ⟨x, E, q1, q2, q3⟩
  · exact Or.inl ⟨v, q1, h _ _ q2⟩
  · exact Or.inr ⟨x, E, q1, q2, h _ _ q3⟩
theorem go_iconst {z : Int} {v : Int32} (hv : Int32.ofInt z = v) (hd : decode M.2.1 pc = .ok (.iconst z, 1)) (k : Go g M n mc ms (pc + 1) ls (.int v :: st) es Phi) : Go g M n mc ms pc ls (st) es Phi := go_lift (fun _ _ _ _ _ _ _ _ _ _ _ _ _ _ _ _ hx hb hl k => lv_iconst hx hb hd hv k) k
theorem go_bipush {z : Int} {v : Int32} (hv : (Int8.ofInt z).toInt32 = v) (hd : decode M.2.1 pc = .ok (.bipush z, 2)) (k : Go g M n mc ms (pc + 2) ls (.int v :: st) es Phi) : Go g M n mc ms pc ls (st) es Phi := go_lift (fun _ _ _ _ _ _ _ _ _ _ _ _ _ _ _ _ hx hb hl k => lv_bipush hx hb hd hv k) k
theorem go_sipush {z : Int} {v : Int32} (hv : (Int16.ofInt z).toInt32 = v) (hd : decode M.2.1 pc = .ok (.sipush z, 3)) (k : Go g M n mc ms (pc + 3) ls (.int v :: st) es Phi) : Go g M n mc ms pc ls (st) es Phi := go_lift (fun _ _ _ _ _ _ _ _ _ _ _ _ _ _ _ _ hx hb hl k => lv_sipush hx hb hd hv k) k
theorem go_lconst {z : Fin 2} {v : Int64} (hv : Int64.ofNat (z : Nat) = v) (hd : decode M.2.1 pc = .ok (.lconst z, 1)) (k : Go g M n mc ms (pc + 1) ls (.long v :: st) es Phi) : Go g M n mc ms pc ls (st) es Phi := go_lift (fun _ _ _ _ _ _ _ _ _ _ _ _ _ _ _ _ hx hb hl k => lv_lconst hx hb hd hv k) k
theorem go_iload_n {k0 : Fin 4} {x : Int32} (i q : Nat) (hi : (k0 : Nat) = i) (hq : ls[q]? = some (i, .int x)) (hd : decode M.2.1 pc = .ok (.iload_n k0, 1)) (k : Go g M n mc ms (pc + 1) ls (.int x :: st) es Phi) : Go g M n mc ms pc ls (st) es Phi := go_lift (fun _ _ _ _ _ _ _ _ _ _ _ _ _ _ _ _ hx hb hl k => lv_iload_n hx hb hd hi (lv_at hl q hq) k) k
theorem go_iload {x : Int32} (i q : Nat) (hq : ls[q]? = some (i, .int x)) (hd : decode M.2.1 pc = .ok (.iload i, 2)) (k : Go g M n mc ms (pc + 2) ls (.int x :: st) es Phi) : Go g M n mc ms pc ls (st) es Phi := go_lift (fun _ _ _ _ _ _ _ _ _ _ _ _ _ _ _ _ hx hb hl k => lv_iload hx hb hd (lv_at hl q hq) k) k
theorem go_aload_n {k0 : Fin 4} {x : Nat} (i q : Nat) (hi : (k0 : Nat) = i) (hq : ls[q]? = some (i, .ref x)) (hd : decode M.2.1 pc = .ok (.aload_n k0, 1)) (k : Go g M n mc ms (pc + 1) ls (.ref x :: st) es Phi) : Go g M n mc ms pc ls (st) es Phi := go_lift (fun _ _ _ _ _ _ _ _ _ _ _ _ _ _ _ _ hx hb hl k => lv_aload_n hx hb hd hi (lv_at hl q hq) k) k
theorem go_aload {x : Nat} (i q : Nat) (hq : ls[q]? = some (i, .ref x)) (hd : decode M.2.1 pc = .ok (.aload i, 2)) (k : Go g M n mc ms (pc + 2) ls (.ref x :: st) es Phi) : Go g M n mc ms pc ls (st) es Phi := go_lift (fun _ _ _ _ _ _ _ _ _ _ _ _ _ _ _ _ hx hb hl k => lv_aload hx hb hd (lv_at hl q hq) k) k
theorem go_iadd {x y : Int32} (hd : decode M.2.1 pc = .ok (.iadd, 1)) (k : Go g M n mc ms (pc + 1) ls (.int (x + y) :: st) es Phi) : Go g M n mc ms pc ls (.int y :: .int x :: st) es Phi := go_lift (fun _ _ _ _ _ _ _ _ _ _ _ _ _ _ _ _ hx hb hl k => lv_iadd hx hb hd k) k
theorem go_isub {x y : Int32} (hd : decode M.2.1 pc = .ok (.isub, 1)) (k : Go g M n mc ms (pc + 1) ls (.int (x - y) :: st) es Phi) : Go g M n mc ms pc ls (.int y :: .int x :: st) es Phi := go_lift (fun _ _ _ _ _ _ _ _ _ _ _ _ _ _ _ _ hx hb hl k => lv_isub hx hb hd k) k
theorem go_imul {x y : Int32} (hd : decode M.2.1 pc = .ok (.imul, 1)) (k : Go g M n mc ms (pc + 1) ls (.int (x * y) :: st) es Phi) : Go g M n mc ms pc ls (.int y :: .int x :: st) es Phi := go_lift (fun _ _ _ _ _ _ _ _ _ _ _ _ _ _ _ _ hx hb hl k => lv_imul hx hb hd k) k
theorem go_iand {x y : Int32} (hd : decode M.2.1 pc = .ok (.iand, 1)) (k : Go g M n mc ms (pc + 1) ls (.int (x &&& y) :: st) es Phi) : Go g M n mc ms pc ls (.int y :: .int x :: st) es Phi := go_lift (fun _ _ _ _ _ _ _ _ _ _ _ _ _ _ _ _ hx hb hl k => lv_iand hx hb hd k) k
theorem go_idiv {x y : Int32} (hne : ¬ y = 0) (hd : decode M.2.1 pc = .ok (.idiv, 1)) (k : Go g M n mc ms (pc + 1) ls (.int (x / y) :: st) es Phi) : Go g M n mc ms pc ls (.int y :: .int x :: st) es Phi := go_lift (fun _ _ _ _ _ _ _ _ _ _ _ _ _ _ _ _ hx hb hl k => lv_idiv hx hb hd hne k) k
theorem go_irem {x y : Int32} (hne : ¬ y = 0) (hd : decode M.2.1 pc = .ok (.irem, 1)) (k : Go g M n mc ms (pc + 1) ls (.int (x - x / y * y) :: st) es Phi) : Go g M n mc ms pc ls (.int y :: .int x :: st) es Phi := go_lift (fun _ _ _ _ _ _ _ _ _ _ _ _ _ _ _ _ hx hb hl k => lv_irem hx hb hd hne k) k
theorem go_i2l {x : Int32} (hd : decode M.2.1 pc = .ok (.i2l, 1)) (k : Go g M n mc ms (pc + 1) ls (.long x.toInt64 :: st) es Phi) : Go g M n mc ms pc ls (.int x :: st) es Phi := go_lift (fun _ _ _ _ _ _ _ _ _ _ _ _ _ _ _ _ hx hb hl k => lv_i2l hx hb hd rfl k) k
theorem go_lcmp {x y : Int64} (hd : decode M.2.1 pc = .ok (.lcmp, 1)) (k : Go g M n mc ms (pc + 1) ls (.int (lg_cmp x y) :: st) es Phi) : Go g M n mc ms pc ls (.long y :: .long x :: st) es Phi := go_lift (fun _ _ _ _ _ _ _ _ _ _ _ _ _ _ _ _ hx hb hl k => W.lcmp hx hb hd k) k
theorem go_dup {va : Value} (hva : va.category = 1) (hd : decode M.2.1 pc = .ok (.dup, 1)) (k : Go g M n mc ms (pc + 1) ls (va :: va :: st) es Phi) : Go g M n mc ms pc ls (va :: st) es Phi := go_lift (fun _ _ _ _ _ _ _ _ _ _ _ _ _ _ _ _ hx hb hl k => lv_dup hx hb hd hva k) k
theorem go_pop {va : Value} (hva : va.category = 1) (hd : decode M.2.1 pc = .ok (.pop, 1)) (k : Go g M n mc ms (pc + 1) ls (st) es Phi) : Go g M n mc ms pc ls (va :: st) es Phi := go_lift (fun _ _ _ _ _ _ _ _ _ _ _ _ _ _ _ _ hx hb hl k => lv_pop hx hb hd hva k) k
theorem go_dup2 {va vb : Value} (hva : va.category = 1) (hvb : vb.category = 1) (hd : decode M.2.1 pc = .ok (.dup2, 1)) (k : Go g M n mc ms (pc + 1) ls (va :: vb :: va :: vb :: st) es Phi) : Go g M n mc ms pc ls (va :: vb :: st) es Phi := go_lift (fun _ _ _ _ _ _ _ _ _ _ _ _ _ _ _ _ hx hb hl k => lv_dup2_11 hx hb hd hva hvb k) k
theorem go_goto {off : Int} (tgt : Nat) (ht : (pc : Int) + off = (tgt : Int)) (hd : decode M.2.1 pc = .ok (.goto off, 3)) (k : Go g M n mc ms tgt ls st es Phi) : Go g M n mc ms pc ls st es Phi := go_lift (fun _ _ _ _ _ _ _ _ _ _ _ _ _ _ _ _ hx hb hl k => lv_goto hx hb hd ht k) k
theorem go_if_eq {x : Int32} {off : Int} (tgt : Nat) (ht : (pc : Int) + off = (tgt : Int)) (hd : decode M.2.1 pc = .ok (.ifCond .eq off, 3)) (ka : x = 0 → Go g M n mc ms tgt ls st es Phi) (kb : ¬ x = 0 → Go g M n mc ms (pc + 3) ls st es Phi) : Go g M n mc ms pc ls (.int x :: st) es Phi := go_lift2 (P := x = 0) (fun _ _ _ _ _ _ _ _ _ _ _ _ _ _ _ _ hx hb hl ka kb => lv_if_eq hx hb hd ht ka kb) ka kb
theorem go_icmp_eq {x y : Int32} {off : Int} (tgt : Nat) (ht : (pc : Int) + off = (tgt : Int)) (hd : decode M.2.1 pc = .ok (.if_icmp .eq off, 3)) (ka : x = y → Go g M n mc ms tgt ls st es Phi) (kb : ¬ x = y → Go g M n mc ms (pc + 3) ls st es Phi) : Go g M n mc ms pc ls (.int y :: .int x :: st) es Phi := go_lift2 (P := x = y) (fun _ _ _ _ _ _ _ _ _ _ _ _ _ _ _ _ hx hb hl ka kb => lv_icmp_eq hx hb hd ht ka kb) ka kb
theorem go_if_ne {x : Int32} {off : Int} (tgt : Nat) (ht : (pc : Int) + off = (tgt : Int)) (hd : decode M.2.1 pc = .ok (.ifCond .ne off, 3)) (ka : ¬ x = 0 → Go g M n mc ms tgt ls st es Phi) (kb : x = 0 → Go g M n mc ms (pc + 3) ls st es Phi) : Go g M n mc ms pc ls (.int x :: st) es Phi := go_lift2 (P := ¬ x = 0) (fun _ _ _ _ _ _ _ _ _ _ _ _ _ _ _ _ hx hb hl ka kb => lv_if_ne hx hb hd ht ka (fun h => kb (fun q => q h))) ka (fun h => kb (Classical.not_not.mp h))
theorem go_icmp_ne {x y : Int32} {off : Int} (tgt : Nat) (ht : (pc : Int) + off = (tgt : Int)) (hd : decode M.2.1 pc = .ok (.if_icmp .ne off, 3)) (ka : ¬ x = y → Go g M n mc ms tgt ls st es Phi) (kb : x = y → Go g M n mc ms (pc + 3) ls st es Phi) : Go g M n mc ms pc ls (.int y :: .int x :: st) es Phi := go_lift2 (P := ¬ x = y) (fun _ _ _ _ _ _ _ _ _ _ _ _ _ _ _ _ hx hb hl ka kb => lv_icmp_ne hx hb hd ht ka (fun h => kb (fun q => q h))) ka (fun h => kb (Classical.not_not.mp h))
theorem go_if_lt {x : Int32} {off : Int} (tgt : Nat) (ht : (pc : Int) + off = (tgt : Int)) (hd : decode M.2.1 pc = .ok (.ifCond .lt off, 3)) (ka : x < 0 → Go g M n mc ms tgt ls st es Phi) (kb : ¬ x < 0 → Go g M n mc ms (pc + 3) ls st es Phi) : Go g M n mc ms pc ls (.int x :: st) es Phi := go_lift2 (P := x < 0) (fun _ _ _ _ _ _ _ _ _ _ _ _ _ _ _ _ hx hb hl ka kb => lv_if_lt hx hb hd ht ka kb) ka kb
theorem go_icmp_lt {x y : Int32} {off : Int} (tgt : Nat) (ht : (pc : Int) + off = (tgt : Int)) (hd : decode M.2.1 pc = .ok (.if_icmp .lt off, 3)) (ka : x < y → Go g M n mc ms tgt ls st es Phi) (kb : ¬ x < y → Go g M n mc ms (pc + 3) ls st es Phi) : Go g M n mc ms pc ls (.int y :: .int x :: st) es Phi := go_lift2 (P := x < y) (fun _ _ _ _ _ _ _ _ _ _ _ _ _ _ _ _ hx hb hl ka kb => lv_icmp_lt hx hb hd ht ka kb) ka kb
theorem go_if_ge {x : Int32} {off : Int} (tgt : Nat) (ht : (pc : Int) + off = (tgt : Int)) (hd : decode M.2.1 pc = .ok (.ifCond .ge off, 3)) (ka : 0 ≤ x → Go g M n mc ms tgt ls st es Phi) (kb : ¬ 0 ≤ x → Go g M n mc ms (pc + 3) ls st es Phi) : Go g M n mc ms pc ls (.int x :: st) es Phi := go_lift2 (P := 0 ≤ x) (fun _ _ _ _ _ _ _ _ _ _ _ _ _ _ _ _ hx hb hl ka kb => lv_if_ge hx hb hd ht ka kb) ka kb
theorem go_icmp_ge {x y : Int32} {off : Int} (tgt : Nat) (ht : (pc : Int) + off = (tgt : Int)) (hd : decode M.2.1 pc = .ok (.if_icmp .ge off, 3)) (ka : y ≤ x → Go g M n mc ms tgt ls st es Phi) (kb : ¬ y ≤ x → Go g M n mc ms (pc + 3) ls st es Phi) : Go g M n mc ms pc ls (.int y :: .int x :: st) es Phi := go_lift2 (P := y ≤ x) (fun _ _ _ _ _ _ _ _ _ _ _ _ _ _ _ _ hx hb hl ka kb => lv_icmp_ge hx hb hd ht ka kb) ka kb
theorem go_if_gt {x : Int32} {off : Int} (tgt : Nat) (ht : (pc : Int) + off = (tgt : Int)) (hd : decode M.2.1 pc = .ok (.ifCond .gt off, 3)) (ka : 0 < x → Go g M n mc ms tgt ls st es Phi) (kb : ¬ 0 < x → Go g M n mc ms (pc + 3) ls st es Phi) : Go g M n mc ms pc ls (.int x :: st) es Phi := go_lift2 (P := 0 < x) (fun _ _ _ _ _ _ _ _ _ _ _ _ _ _ _ _ hx hb hl ka kb => lv_if_gt hx hb hd ht ka kb) ka kb
theorem go_icmp_gt {x y : Int32} {off : Int} (tgt : Nat) (ht : (pc : Int) + off = (tgt : Int)) (hd : decode M.2.1 pc = .ok (.if_icmp .gt off, 3)) (ka : y < x → Go g M n mc ms tgt ls st es Phi) (kb : ¬ y < x → Go g M n mc ms (pc + 3) ls st es Phi) : Go g M n mc ms pc ls (.int y :: .int x :: st) es Phi := go_lift2 (P := y < x) (fun _ _ _ _ _ _ _ _ _ _ _ _ _ _ _ _ hx hb hl ka kb => lv_icmp_gt hx hb hd ht ka kb) ka kb
theorem go_if_le {x : Int32} {off : Int} (tgt : Nat) (ht : (pc : Int) + off = (tgt : Int)) (hd : decode M.2.1 pc = .ok (.ifCond .le off, 3)) (ka : x ≤ 0 → Go g M n mc ms tgt ls st es Phi) (kb : ¬ x ≤ 0 → Go g M n mc ms (pc + 3) ls st es Phi) : Go g M n mc ms pc ls (.int x :: st) es Phi := go_lift2 (P := x ≤ 0) (fun _ _ _ _ _ _ _ _ _ _ _ _ _ _ _ _ hx hb hl ka kb => lv_if_le hx hb hd ht ka kb) ka kb
theorem go_icmp_le {x y : Int32} {off : Int} (tgt : Nat) (ht : (pc : Int) + off = (tgt : Int)) (hd : decode M.2.1 pc = .ok (.if_icmp .le off, 3)) (ka : x ≤ y → Go g M n mc ms tgt ls st es Phi) (kb : ¬ x ≤ y → Go g M n mc ms (pc + 3) ls st es Phi) : Go g M n mc ms pc ls (.int y :: .int x :: st) es Phi := go_lift2 (P := x ≤ y) (fun _ _ _ _ _ _ _ _ _ _ _ _ _ _ _ _ hx hb hl ka kb => lv_icmp_le hx hb hd ht ka kb) ka kb
theorem go_istore_n {k0 : Fin 4} {x : Int32} {ls' : List (Nat × Value)} (i : Nat) (hi : (k0 : Nat) = i) (hn : i < M.2.2.1) (hd : decode M.2.1 pc = .ok (.istore_n k0, 1)) (hl' : (i, Value.int x) :: ls.filter (fun q => !(q.1 == i) && !(q.1 + 1 == i && q.2.category == 2)) = ls') (k : Go g M n mc ms (pc + 1) ls' st es Phi) : Go g M n mc ms pc ls (.int x :: st) es Phi := go_lift3 (fun _ _ _ _ _ _ _ _ _ _ _ _ _ _ _ _ hx hb hl kk => lv_istore_n hx hb hd hi hl hn hl' kk) k
theorem go_istore {x : Int32} {ls' : List (Nat × Value)} (i : Nat) (hn : i < M.2.2.1) (hd : decode M.2.1 pc = .ok (.istore i, 2)) (hl' : (i, Value.int x) :: ls.filter (fun q => !(q.1 == i) && !(q.1 + 1 == i && q.2.category == 2)) = ls') (k : Go g M n mc ms (pc + 2) ls' st es Phi) : Go g M n mc ms pc ls (.int x :: st) es Phi := go_lift3 (fun _ _ _ _ _ _ _ _ _ _ _ _ _ _ _ _ hx hb hl kk => lv_istore hx hb hd hl hn hl' kk) k
theorem go_astore_n {k0 : Fin 4} {x : Nat} {ls' : List (Nat × Value)} (i : Nat) (hi : (k0 : Nat) = i) (hn : i < M.2.2.1) (hd : decode M.2.1 pc = .ok (.astore_n k0, 1)) (hl' : (i, Value.ref x) :: ls.filter (fun q => !(q.1 == i) && !(q.1 + 1 == i && q.2.category == 2)) = ls') (k : Go g M n mc ms (pc + 1) ls' st es Phi) : Go g M n mc ms pc ls (.ref x :: st) es Phi := go_lift3 (fun _ _ _ _ _ _ _ _ _ _ _ _ _ _ _ _ hx hb hl kk => lv_astore_n hx hb hd hi hl hn hl' kk) k
theorem go_astore {x : Nat} {ls' : List (Nat × Value)} (i : Nat) (hn : i < M.2.2.1) (hd : decode M.2.1 pc = .ok (.astore i, 2)) (hl' : (i, Value.ref x) :: ls.filter (fun q => !(q.1 == i) && !(q.1 + 1 == i && q.2.category == 2)) = ls') (k : Go g M n mc ms (pc + 2) ls' st es Phi) : Go g M n mc ms pc ls (.ref x :: st) es Phi := go_lift3 (fun _ _ _ _ _ _ _ _ _ _ _ _ _ _ _ _ hx hb hl kk => lv_astore hx hb hd hl hn hl' kk) k
theorem go_iinc {x v : Int32} {z : Int} {ls' : List (Nat × Value)} (i q : Nat) (hq : ls[q]? = some (i, .int x)) (hv : x + Int32.ofInt z = v) (hn : i < M.2.2.1) (hd : decode M.2.1 pc = .ok (.iinc i z, 3)) (hl' : (i, Value.int v) :: ls.filter (fun q => !(q.1 == i) && !(q.1 + 1 == i && q.2.category == 2)) = ls') (k : Go g M n mc ms (pc + 3) ls' st es Phi) : Go g M n mc ms pc ls st es Phi := go_lift3 (fun _ _ _ _ _ _ _ _ _ _ _ _ _ _ _ _ hx hb hl kk => lv_iinc hx hb hd hl hq hv hn hl' kk) k
theorem go_tin {dflt lo hi : Int} {offs : Array Int} {len : Nat} {x : Int32} {off : Int} (tgt : Nat) (h1 : ¬ x.toInt < lo) (h2 : ¬ hi < x.toInt) (ho : offs[(x.toInt - lo).toNat]? = some off) (ht : (pc : Int) + off = (tgt : Int)) (hd : decode M.2.1 pc = .ok (.tableswitch dflt lo hi offs, len)) (k : Go g M n mc ms tgt ls st es Phi) : Go g M n mc ms pc ls (.int x :: st) es Phi := go_lift (fun _ _ _ _ _ _ _ _ _ _ _ _ _ _ _ _ hx hb hl k => lv_tableIn hx hb hd h1 h2 ho ht k) k
theorem go_tout {dflt lo hi : Int} {offs : Array Int} {len : Nat} {x : Int32} (tgt : Nat) (h : x.toInt < lo ∨ hi < x.toInt) (ht : (pc : Int) + dflt = (tgt : Int)) (hd : decode M.2.1 pc = .ok (.tableswitch dflt lo hi offs, len)) (k : Go g M n mc ms tgt ls st es Phi) : Go g M n mc ms pc ls (.int x :: st) es Phi := go_lift (fun _ _ _ _ _ _ _ _ _ _ _ _ _ _ _ _ hx hb hl k => lv_tableOut hx hb hd h ht k) k
theorem go_iald {cA : ClassId} {len : Nat} {f : Nat → Int32} {i : Int32} {a : Nat} (q0 t0 : Nat) (ha : es[q0]? = some (a, .inl (cA, len, .inl f))) (ht : g.2.1[t0]? = some (cA, .int)) (hin : vp_in i len) (hd : decode M.2.1 pc = .ok (.iaload, 1)) (k : Go g M n mc ms (pc + 1) ls (.int (f i.toNatClampNeg) :: st) es Phi) : Go g M n mc ms pc ls (.int i :: .ref a :: st) es Phi := by
  intro p l e R s m args below meth c A tc ts C h1 h2 H locs cells slots arr hP hD hS hl h3 h4
  exact va_iald C.hx C.hb C.hk hP q0 t0 ha ht hin hd (k p l e R s m args below meth c A tc ts C h1 h2 H locs cells slots arr hP hD hS hl h3 h4)
theorem go_zald {cA : ClassId} {len : Nat} {f : Nat → Int32} {i : Int32} {a : Nat} (q0 t0 : Nat) (ha : es[q0]? = some (a, .inl (cA, len, .inl f))) (ht : g.2.1[t0]? = some (cA, .boolean)) (hin : vp_in i len) (hd : decode M.2.1 pc = .ok (.baload, 1)) (k : Go g M n mc ms (pc + 1) ls (.int (f i.toNatClampNeg) :: st) es Phi) : Go g M n mc ms pc ls (.int i :: .ref a :: st) es Phi := by
  intro p l e R s m args below meth c A tc ts C h1 h2 H locs cells slots arr hP hD hS hl h3 h4
  exact va_zald C.hx C.hb C.hk hP q0 t0 ha ht hin hd (k p l e R s m args below meth c A tc ts C h1 h2 H locs cells slots arr hP hD hS hl h3 h4)
theorem go_lald {cA : ClassId} {len : Nat} {f : Nat → Int64} {i : Int32} {a : Nat} (q0 t0 : Nat) (ha : es[q0]? = some (a, .inl (cA, len, .inr (.inl f)))) (ht : g.2.1[t0]? = some (cA, .long)) (hin : vp_in i len) (hd : decode M.2.1 pc = .ok (.laload, 1)) (k : Go g M n mc ms (pc + 1) ls (.long (f i.toNatClampNeg) :: st) es Phi) : Go g M n mc ms pc ls (.int i :: .ref a :: st) es Phi := by
  intro p l e R s m args below meth c A tc ts C h1 h2 H locs cells slots arr hP hD hS hl h3 h4
  exact va_lald C.hx C.hb C.hk hP q0 t0 ha ht hin hd (k p l e R s m args below meth c A tc ts C h1 h2 H locs cells slots arr hP hD hS hl h3 h4)
theorem go_iast {es' : va_W} {cA : ClassId} {len : Nat} {f : Nat → Int32} {i : Int32} {x : Int32} {a : Nat} (q0 t0 : Nat) (ha : es[q0]? = some (a, .inl (cA, len, .inl f))) (ht : g.2.1[t0]? = some (cA, .int)) (hin : vp_in i len) (hd : decode M.2.1 pc = .ok (.iastore, 1)) (he : es.set q0 (a, .inl (cA, len, .inl (upd f i.toNatClampNeg x))) = es') (k : Go g M n mc ms (pc + 1) ls st es' Phi) : Go g M n mc ms pc ls (.int x :: .int i :: .ref a :: st) es Phi := by
  intro p l e R s m args below meth c A tc ts C h1 h2 H locs cells slots arr hP hD hS hl h3 h4
  subst he
  exact va_iast C.hx C.hb C.hk hP hD hS q0 t0 ha ht hin hd (fun H1 locs1 hP1 hD1 hS1 => k p l e R s m args below meth c A tc ts C h1 h2 H1 locs1 cells slots arr hP1 hD1 hS1 hl h3 h4)
theorem go_zast {es' : va_W} {cA : ClassId} {len : Nat} {f : Nat → Int32} {i : Int32} {x : Int32} {a : Nat} (q0 t0 : Nat) (ha : es[q0]? = some (a, .inl (cA, len, .inl f))) (ht : g.2.1[t0]? = some (cA, .boolean)) (hin : vp_in i len) (hd : decode M.2.1 pc = .ok (.bastore, 1)) (he : es.set q0 (a, .inl (cA, len, .inl (upd f i.toNatClampNeg (vp_nar .boolean x)))) = es') (k : Go g M n mc ms (pc + 1) ls st es' Phi) : Go g M n mc ms pc ls (.int x :: .int i :: .ref a :: st) es Phi := by
  intro p l e R s m args below meth c A tc ts C h1 h2 H locs cells slots arr hP hD hS hl h3 h4
  subst he
  exact va_zast C.hx C.hb C.hk hP hD hS q0 t0 ha ht hin hd (fun H1 locs1 hP1 hD1 hS1 => k p l e R s m args below meth c A tc ts C h1 h2 H1 locs1 cells slots arr hP1 hD1 hS1 hl h3 h4)
theorem go_last {es' : va_W} {cA : ClassId} {len : Nat} {f : Nat → Int64} {i : Int32} {x : Int64} {a : Nat} (q0 t0 : Nat) (ha : es[q0]? = some (a, .inl (cA, len, .inr (.inl f)))) (ht : g.2.1[t0]? = some (cA, .long)) (hin : vp_in i len) (hd : decode M.2.1 pc = .ok (.lastore, 1)) (he : es.set q0 (a, .inl (cA, len, .inr (.inl (vp_updL f i.toNatClampNeg x)))) = es') (k : Go g M n mc ms (pc + 1) ls st es' Phi) : Go g M n mc ms pc ls (.long x :: .int i :: .ref a :: st) es Phi := by
  intro p l e R s m args below meth c A tc ts C h1 h2 H locs cells slots arr hP hD hS hl h3 h4
  subst he
  exact va_last C.hx C.hb C.hk hP hD hS q0 t0 ha ht hin hd (fun H1 locs1 hP1 hD1 hS1 => k p l e R s m args below meth c A tc ts C h1 h2 H1 locs1 cells slots arr hP1 hD1 hS1 hl h3 h4)
theorem go_sld {i : Int32} (hin : vp_in i g.2.2.2.1) (hd : decode M.2.1 pc = .ok (.iaload, 1)) (k : Go g M n mc ms (pc + 1) ls (.int (g.2.2.2.2 i.toNatClampNeg) :: st) es Phi) : Go g M n mc ms pc ls (.int i :: .ref g.2.2.1 :: st) es Phi := by
  intro p l e R s m args below meth c A tc ts C h1 h2 H locs cells slots arr hP hD hS hl h3 h4
  exact va_sld C.hx C.hb C.hX C.hXl C.hXA hS hin hd (k p l e R s m args below meth c A tc ts C h1 h2 H locs cells slots arr hP hD hS hl h3 h4)
theorem go_slen (hd : decode M.2.1 pc = .ok (.arraylength, 1)) (k : Go g M n mc ms (pc + 1) ls (.int (Int32.ofNat g.2.2.2.1) :: st) es Phi) : Go g M n mc ms pc ls (.ref g.2.2.1 :: st) es Phi := by
  intro p l e R s m args below meth c A tc ts C h1 h2 H locs cells slots arr hP hD hS hl h3 h4
  exact va_slen C.hx C.hb C.hX C.hXl C.hXA hS hd (k p l e R s m args below meth c A tc ts C h1 h2 H locs cells slots arr hP hD hS hl h3 h4)
theorem gw {Cl : String} {T : u_T} {N : Nat} {args : Array Value} {s : State} (hts : ∀ w ∈ lw_tbl, gGood w = true → w.before args s = true) (hw : ∀ w ∈ u_ws Cl T N, w ∈ lw_tbl ∧ gGood w = true) : ∀ w ∈ u_ws Cl T N, w.before args s = true := fun w h => hts w (hw w h).1 (hw w h).2
theorem go_get {Cl : String} {T : u_T} {N ci index a : Nat} {fs : List Value} {v : Value} (hw : ∀ w ∈ u_ws Cl T N, w ∈ lw_tbl ∧ gGood w = true) (q0 : Nat) (he : es[q0]? = some (a, .inr (ci, fs))) (hc : vwCl[ci]? = some (Cl, T, N)) (k0 : Nat) (hk : k0 < N) (hlk : Cond.fieldLink M.1.cls index (T k0).1 (T k0).2.1 (T k0).2.2.1 ∈ lw_tbl ∧ gGood (Cond.fieldLink M.1.cls index (T k0).1 (T k0).2.1 (T k0).2.2.1) = true) (hv : fs[k0]? = some v) (hd : decode M.2.1 pc = .ok (.getfield index, 3)) (k : Go g M n mc ms (pc + 3) ls (v :: st) es Phi) : Go g M n mc ms pc ls (.ref a :: st) es Phi := by
  intro p l e R s m args below meth c A tc ts C h1 h2 H locs cells slots arr hP hD hS hl h3 h4
  exact va_get C.hx C.hb (gw C.hts hw) (fun _ h => h) C.hown C.hk hP q0 he hc k0 hk (C.hts _ hlk.1 hlk.2) (fun _ h9 => h9) hv hd (k p l e R s m args below meth c A tc ts C h1 h2 H locs cells slots arr hP hD hS hl h3 h4)
theorem go_put {es' : va_W} {Cl : String} {T : u_T} {N ci index a : Nat} {fs : List Value} {v : Value} {ty : FieldType} (hw : ∀ w ∈ u_ws Cl T N, w ∈ lw_tbl ∧ gGood w = true) (ty0 : Nat → FieldType) (hty : ∀ k, k < N → parseFieldDescriptor (T k).2.2.1 = some (ty0 k)) (hnm : ∀ a, a < N → ∀ b, b < N → a ≠ b → (T a).2.1 ≠ (T b).2.1) (q0 : Nat) (he : es[q0]? = some (a, .inr (ci, fs))) (hc : vwCl[ci]? = some (Cl, T, N)) (k0 : Nat) (hk : k0 < N) (hlk : Cond.fieldLink M.1.cls index (T k0).1 (T k0).2.1 (T k0).2.2.1 ∈ lw_tbl ∧ gGood (Cond.fieldLink M.1.cls index (T k0).1 (T k0).2.1 (T k0).2.2.1) = true) (hfin : (T k0).2.2.2 = false) (hdp : parseFieldDescriptor (T k0).2.2.1 = some ty) (hnr : narrow ty v = v) (hfit : fits ty v = true) (hlen : k0 < fs.length) (hd : decode M.2.1 pc = .ok (.putfield index, 3)) (hes : es.set q0 (a, .inr (ci, fs.set k0 v)) = es') (k : Go g M n mc ms (pc + 3) ls st es' Phi) : Go g M n mc ms pc ls (v :: .ref a :: st) es Phi := by
  intro p l e R s m args below meth c A tc ts C h1 h2 H locs cells slots arr hP hD hS hl h3 h4
  subst hes
  exact va_put C.hx C.hb (gw C.hts hw) (fun _ h => h) ty0 hty hnm C.hown C.hk hP hD hS q0 he hc k0 hk (C.hts _ hlk.1 hlk.2) (fun _ h9 => h9) hfin hdp hnr hfit hlen hd (fun H1 locs1 hP1 hD1 hS1 => k p l e R s m args below meth c A tc ts C h1 h2 H1 locs1 cells slots arr hP1 hD1 hS1 hl h3 h4)
theorem go_putF {es' : va_W} {Cl : String} {T : u_T} {N ci index a : Nat} {fs : List Value} {v : Value} {ty : FieldType} (hw : ∀ w ∈ u_ws Cl T N, w ∈ lw_tbl ∧ gGood w = true) (ty0 : Nat → FieldType) (hty : ∀ k, k < N → parseFieldDescriptor (T k).2.2.1 = some (ty0 k)) (hnm : ∀ a, a < N → ∀ b, b < N → a ≠ b → (T a).2.1 ≠ (T b).2.1) (q0 : Nat) (he : es[q0]? = some (a, .inr (ci, fs))) (hc : vwCl[ci]? = some (Cl, T, N)) (k0 : Nat) (hk : k0 < N) (hlk : Cond.fieldLink M.1.cls index (T k0).1 (T k0).2.1 (T k0).2.2.1 ∈ lw_tbl ∧ gGood (Cond.fieldLink M.1.cls index (T k0).1 (T k0).2.1 (T k0).2.2.1) = true) (hfin : (T k0).2.2.2 = true) (hini : M.1.name = "<init>") (hdecl : (T k0).1 = M.1.cls) (hdp : parseFieldDescriptor (T k0).2.2.1 = some ty) (hnr : narrow ty v = v) (hfit : fits ty v = true) (hlen : k0 < fs.length) (hd : decode M.2.1 pc = .ok (.putfield index, 3)) (hes : es.set q0 (a, .inr (ci, fs.set k0 v)) = es') (k : Go g M n mc ms (pc + 3) ls st es' Phi) : Go g M n mc ms pc ls (v :: .ref a :: st) es Phi := by
  intro p l e R s m args below meth c A tc ts C h1 h2 H locs cells slots arr hP hD hS hl h3 h4
  subst hes
  exact va_putF C.hx C.hb (gw C.hts hw) (fun _ h => h) ty0 hty hnm C.hown C.hk hP hD hS q0 he hc k0 hk (C.hts _ hlk.1 hlk.2) (fun _ h9 => h9) hfin (C.hnm.trans hini) hdecl hdp hnr hfit hlen hd (fun H1 locs1 hP1 hD1 hS1 => k p l e R s m args below meth c A tc ts C h1 h2 H1 locs1 cells slots arr hP1 hD1 hS1 hl h3 h4)
end GO
end
section
section GC
variable {g : gG} {M : gM} {n mc ms pc : Nat} {ls : List (Nat × Value)} {st : List Value} {es : va_W} {Phi : gR → va_W → Prop}
theorem gw_imp {p : Program} {l : Launch} {e : Env} {R : Room} {s : State} {m : MethodId} {args : Array Value} {below : List Frame} {meth : Method} {c : Code} {H : Heap} {locs : List Loc} {cells slots : Nat} {Q Q' : State → Prop} {f : JFrame}
    (h : W p l e R s m args below meth c H locs cells slots Q f) (i : ∀ t, Q t → Q' t) : W p l e R s m args below meth c H locs cells slots Q' f := by
  intro T hT X
  obtain ⟨t, a, b⟩ := h T hT X
  exact ⟨t, a, i t b⟩
theorem gEnd_of {s : State} {args : Array Value} {below : List Frame} {A : Nat → Prop} {H : Heap} {locs : List Loc} {cells slots tc ts : Nat} {v : Option Value} (hP : va_P g.1 vwCl es H) (hD : va_D A es) (hS : va_S A s.heap H locs) (h1 : cells ≤ tc) (h2 : slots ≤ ts) (hf : Phi (.inl v) es) :
    ∀ t, MQ below (fun _ _ o t => o = .returned v ∧ t.heap = H) args s cells slots A t → gEnd g A s below tc ts Phi t := by
  rintro t ⟨o, b1, b2, ⟨rfl, ht⟩, L, ⟨-, hW, hsame⟩, hL⟩
  exact ⟨_, L, es, b1, b2, hW, hsame.mono h1 h2, hL, hS.F ht, by rw [ht]; exact hP, hD, Or.inl ⟨v, rfl, hf⟩⟩
theorem go_iret {ty : FieldType} {v : Int32} (hr : M.2.2.2.1 = some ty) (hn : narrow ty (.int v) = .int v) (hd : decode M.2.1 pc = .ok (.ireturn, 1)) (hf : Phi (.inl (some (.int v))) es) : Go g M n mc ms pc ls [.int v] es Phi := by
  intro p l e R s m args below meth c A tc ts C h1 h2 H locs cells slots arr hP hD hS hl h3 h4
  exact gw_imp (W.zret (ty := ty) (Qc := fun _ _ o t => o = .returned (some (.int v)) ∧ t.heap = H) (free := A) C.hx C.hb (C.hr.trans hr) hn (fun t ht _ => ⟨rfl, ht⟩) hS.2.2 hd C.hlk) (gEnd_of hP hD hS (by omega) (by omega) hf)
theorem go_vret (hr : M.2.2.2.1 = none) (hd : decode M.2.1 pc = .ok (.return_, 1)) (hf : Phi (.inl none) es) : Go g M n mc ms pc ls [] es Phi := by
  intro p l e R s m args below meth c A tc ts C h1 h2 H locs cells slots arr hP hD hS hl h3 h4
  exact gw_imp (W.vret (Qc := fun _ _ o t => o = .returned none ∧ t.heap = H) (free := A) C.hx C.hb (C.hr.trans hr) (fun t ht _ => ⟨rfl, ht⟩) hS.2.2 hd C.hlk) (gEnd_of hP hD hS (by omega) (by omega) hf)
/-- the callee's code, as the tables have it -/
def gCode (M : gM) (s : State) (mk : MethodId) : Prop := ∃ (methk : Method) (ck : Code), s.vm.method? mk = some methk ∧ methk.code = some ck ∧ ck.code = M.2.1 ∧ ck.maxLocals = M.2.2.1 ∧ methk.sig.returnType = M.2.2.2.1 ∧ methk.locks = false ∧
  ck.exceptionTable.toList.map (fun h => (h.startPc, h.endPc, h.handlerPc, h.catchType)) = M.2.2.2.2 ∧ parseMethodDescriptor M.1.desc = some methk.sig
theorem gCode_c {M : gM} {args : Array Value} {s : State} {mk : MethodId} (hn : s.methodNamed? M.1 = some mk) (h : (Cond.code M.1 M.2.1 M.2.2.1 M.2.2.2.1).before args s = true) (h0 : M.2.2.2.2 = []) : gCode M s mk := by
  obtain ⟨meth, c, q1, q2, q3, q4, q5, q6, q7, q8⟩ := Cond.code_spec hn h
  refine ⟨meth, c, q1, q2, q3, q4, q5, q6, ?_, q8⟩
  have e0 : c.exceptionTable.size = 0 := by simpa [Array.isEmpty] using q7
  have e1 : c.exceptionTable.toList = [] := List.eq_nil_of_length_eq_zero (by simpa using e0)
  rw [e1, h0]; rfl
theorem gCode_w {M : gM} {args : Array Value} {s : State} {mk : MethodId} (hn : s.methodNamed? M.1 = some mk) (h : (Cond.codeWith M.1 M.2.1 M.2.2.1 M.2.2.2.1 M.2.2.2.2).before args s = true) : gCode M s mk := by
  obtain ⟨m9, meth, c, hn9, q1, q2, q3, q4, q5, q6, q7, q8⟩ := Cond.codeWith_spec h
  cases hn.symm.trans hn9
  exact ⟨meth, c, q1, q2, q3, q4, q6, q7, q5, q8⟩
/-- what a call comes back with -/
def gBack (g : gG) (p : Program) (l : Launch) (e : Env) (R : Room) (s : State) (m : MethodId) (args : Array Value) (below : List Frame) (meth : Method) (c : Code) (A : Nat → Prop) (cells slots len : Nat) (f : JFrame) (Psi : gR → va_W → Prop) (t : State) : Prop :=
  ∃ (T' : State) (locs' : List Loc) (es' : va_W), Stand p l e R s m args below meth c T' locs' cells slots ∧ va_P g.1 vwCl es' T'.heap ∧ va_D A es' ∧ va_S A s.heap T'.heap locs' ∧
    ((∃ v : Option Value, t = T'.setTop { f with pc := f.pc + len, stack := v.toList ++ f.stack } ∧ Psi (.inl v) es') ∨
      ∃ (a : Addr) (E : String), t = (T'.setTop f).pushFrame (.throwing a) ∧ gX E a s T' ∧ Psi (.inr E) es')
set_option maxHeartbeats 1000000 in
theorem go_back {M' : gM} {mc' ms' : Nat} {av : List Value} {Psi : gR → va_W → Prop} {p : Program} {l : Launch} {e : Env} {R : Room} {s : State} {m : MethodId} {args : Array Value} {below : List Frame} {meth : Method} {c : Code} {A : Nat → Prop} {T : State} {locs : List Loc} {cells slots : Nat}
    (C : gK g M (n + 1) p e R s m args meth c A) (hc : Go g M' n mc' ms' 0 (lv_args 0 av) [] es Psi)
    (X : Stand p l e R s m args below meth c T locs cells slots) (hP : va_P g.1 vwCl es T.heap) (hD : va_D A es) (hS : va_S A s.heap T.heap locs)
    {f : JFrame} (hf : f.method = m) (hsize : f.locals.size = c.maxLocals) {ig : Instr} {len : Nat} (hdg : decode c.code f.pc = .ok (ig, len)) (h8 : 2 * f.monitorRoom + (f.stack.map fun v => v.category).sum ≤ 8)
    {mk : MethodId} (hn : s.methodNamed? M'.1 = some mk) (hpl : plainName M'.1.cls = true) (hcd : gCode M' s mk)
    (h13 : M'.2.2.1 ≤ 13) (hav : (lg_sl av).length ≤ M'.2.2.1) (hrc : cells + mc' ≤ R.cells) (hrs : slots + ms' ≤ R.slots) :
    ∃ t, (∀ acts, Steps p.tables e below (doInvoke e (T.setTop f) acts mk av.toArray).1 t) ∧ gBack g p l e R s m args below meth c A (cells + mc') (slots + ms') len f Psi t := by
  obtain ⟨methk, ck, k1, k2, k3, k4, k5, k6, k7, -⟩ := hcd
  have r1 := C.hfr
  have r2 := C.hlo
  have hal := X.warmed.alike
  have hmk : T.vm.method? mk = some methk := by rw [hal.method?]; exact k1
  have hpk : T.plainMethod mk := by
    refine State.plainMethod.of_name ?_
    intro k hk
    obtain ⟨k', hk', hn'⟩ := className_of_methodNamed hn
    obtain ⟨k'', hk'', he⟩ := hal.2.2 _ _ hk'
    cases hk.symm.trans hk''
    rw [he]
    show plainName k'.name = true
    rw [hn']; exact hpl
  obtain ⟨Y, hin⟩ := X.into hf hsize hdg av.toArray (R' := { frames := n + 5, cells := mc', slots := ms', locals := 32 * n + 200 }) hmk k2 k6 hpk (by show n + 5 + 1 ≤ R.frames; omega) (by show _ + _ + (ck.maxLocals + 11) + (32 * n + 200) ≤ R.locals; omega) hrc hrs
  generalize hT1 : (T.setTop f).pushFrame (.java (entryFrame mk av.toArray ck.maxLocals)) = T1 at Y hin
  have hh : T1.heap = T.heap := by rw [← hT1]; rfl
  have hAB := gA_sub C.hA hD hS
  have C' : gK g M' n p e { frames := n + 5, cells := mc', slots := ms', locals := 32 * n + 200 } (T.calling f mk av.toArray) mk av.toArray methk ck (va_A es T.heap.size) := by
    refine ⟨⟨C.hx, k3, k4, k5, k6, (name_of_methodNamed hn k1).1, k7, ?_⟩, C.2.1.move (s2 := T.calling f mk av.toArray) X.warmed rfl rfl hP hD hS, Nat.le_refl _, Nat.le_refl _⟩
    show T.vm.findClass _ = _
    rw [hal.findClass]; exact findClass_of_methodNamed hn
  have hl := lv_entry av (n := M'.2.2.1) hav
  obtain ⟨t, hst, o, L, es', b1, b2, b3, b4, b5, b6, b7, b8, b9⟩ := hc p l e _ (T.calling f mk av.toArray) mk av.toArray (.java f :: below) methk ck (va_A es T.heap.size) mc' ms' C' (Nat.le_refl _) (Nat.le_refl _) T.heap [] 0 0 _ hP (hD.self (sz := T.heap.size)) va_S.rf hl (by omega) (by omega) T1 hh Y
  have hgo : ∀ acts, Steps p.tables e below (doInvoke e (T.setTop f) acts mk av.toArray).1 t := by
    intro acts
    rw [hin acts, k4, lg_entry_eq]
    exact Steps.weaken (mid := [.java f]) hst
  have hF : T.heap.size ≤ t.heap.size ∧ ∀ q : Nat, q < T.heap.size → ¬ va_A es T.heap.size q → t.heap[q]? = T.heap[q]? := b6
  have hS' : va_S A s.heap t.heap (locs ++ L) := by
    refine ⟨Nat.le_trans hS.1 hF.1, fun q h1 h2 => ?_, fun x hx => ?_⟩
    · rw [hF.2 q (Nat.lt_of_lt_of_le h1 hS.1) (fun h => h2 (hAB q h))]; exact hS.2.1 q h1 h2
    · rcases List.mem_append.mp hx with h | h
      · exact hS.2.2 x h
      · exact hAB _ (b5 x h)
  have hD' : va_D A es' := b8.weaken (fun _ _ _ h => hAB _ h)
  rcases b9 with ⟨v, rfl, hpsi⟩ | ⟨a, E, rfl, hx, hpsi⟩
  · obtain ⟨T', X', -, -, ht⟩ := X.outOf hf hdg b2 b3 b4
    have hh' : T'.heap = t.heap := by
      have h1 := congrArg State.heap ht
      simpa using h1.symm
    exact ⟨t, hgo, T', _, es', X', by rw [hh']; exact b7, hD', by rw [hh']; exact hS', Or.inl ⟨v, ht, hpsi⟩⟩
  · obtain ⟨T', X', -, -, ht⟩ := X.outOfThrown hf b2 b3 b4
    have hh' : T'.heap = t.heap := by
      have h1 := congrArg State.heap ht
      simpa [State.pushFrame, State.setFrames] using h1.symm
    obtain ⟨cell, x1, x2, x3⟩ := hx
    refine ⟨t, hgo, T', _, es', X', by rw [hh']; exact b7, hD', by rw [hh']; exact hS', Or.inr ⟨a, E, ht, ⟨cell, by rw [hh']; exact x1, ?_, x3⟩, hpsi⟩⟩
    have x2' : T.vm.findClass E = some cell.cls := x2
    rw [← hal.findClass]; exact x2'
/-- a call has come back to a frame without handlers -/
theorem go_on {mc' ms' mc'' ms'' len : Nat} {Psi : gR → va_W → Prop} {p : Program} {l : Launch} {e : Env} {R : Room} {s : State} {m : MethodId} {args : Array Value} {below : List Frame} {meth : Method} {c : Code} {A : Nat → Prop} {cells slots tc ts : Nat} {arr : Array Slot} {t : State}
    (C : gK g M n p e R s m args meth c A) (h1 : tc ≤ R.cells) (h2 : ts ≤ R.slots) (hl : lv_has arr M.2.2.1 ls) (h3 : cells + mc' + mc'' ≤ tc) (h4 : slots + ms' + ms'' ≤ ts) (h0 : M.2.2.2.2 = [])
    (hk : ∀ (v : Option Value) (es' : va_W), Psi (.inl v) es' → Go g M n mc'' ms'' (pc + len) ls (v.toList ++ st) es' Phi) (kt : ∀ (E : String) (es' : va_W), Psi (.inr E) es' → Phi (.inr E) es')
    (hB : gBack g p l e R s m args below meth c A (cells + mc') (slots + ms') len (F0 m pc arr st) Psi t) : ∃ t', Steps p.tables e below t t' ∧ gEnd g A s below tc ts Phi t' := by
  obtain ⟨T', locs', es', X', hP, hD, hS, ⟨v, rfl, hpsi⟩ | ⟨a, E, rfl, hx, hpsi⟩⟩ := hB
  · obtain ⟨t', q1, q2⟩ := hk v es' hpsi p l e R s m args below meth c A tc ts C h1 h2 T'.heap locs' _ _ arr hP hD hS hl h3 h4 T' rfl X'
    exact ⟨t', q1, q2⟩
  · have hout : ∀ x ∈ c.exceptionTable.toList, covers x (F0 m pc arr st).pc = false := by
      have h5 := C.hh
      rw [h0] at h5
      have h6 : c.exceptionTable.toList = [] := List.map_eq_nil_iff.mp h5
      intro x hx; rw [h6] at hx; cases hx
    obtain ⟨q1, q2, q3, q4, q5⟩ := X'.leaveThrown a (g := F0 m pc arr st) rfl rfl rfl hout C.hlk
    refine ⟨_, q1, .threw a, locs', es', q2, q3, q4, q5.mono (by omega) (by omega), hS.2.2, ?_, hP, hD, Or.inr ⟨a, E, rfl, hx, kt E es' hpsi⟩⟩
    exact ⟨hS.1, hS.2.1⟩
/-- a virtual call of a method of the receiver's own class -/
theorem go_callV {M' : gM} {mc' ms' mc'' ms'' : Nat} {As stk : List Value} {Psi : gR → va_W → Prop} {index b ci : Nat} {fs : List Value} {vc : vw_C} (q0 : Nat) (hst : stk = As.reverse ++ .ref b :: st) (he : es[q0]? = some (b, .inr (ci, fs))) (hvc : vwCl[ci]? = some vc) (hcl : vc.1 = M'.1.cls)
    (hlk : gH (.methodLink M.1.cls index M'.1)) (hin : gH (.instanceMethod M'.1)) (hse : gH (.selects M'.1.cls M'.1 M'.1)) (hco : gH (.code M'.1 M'.2.1 M'.2.2.1 M'.2.2.2.1)) (h0 : M'.2.2.2.2 = []) (h00 : M.2.2.2.2 = [])
    (hy : M'.1.cls ≠ "java/lang/invoke/MethodHandle" ∧ M'.1.cls ≠ "java/lang/invoke/VarHandle") (hpl : plainName M'.1.cls = true) (hlen : (parseMethodDescriptor M'.1.desc).map (fun d => d.parameters.length) = some As.length)
    (h13 : M'.2.2.1 ≤ 13) (hav : (lg_sl (.ref b :: As)).length ≤ M'.2.2.1) (h8 : (st.map fun v => v.category).sum ≤ 8) (hmc : mc' + mc'' ≤ mc) (hms : ms' + ms'' ≤ ms)
    (hd : decode M.2.1 pc = .ok (.invokevirtual index, 3)) (hc : Go g M' n mc' ms' 0 (lv_args 0 (.ref b :: As)) [] es Psi)
    (k : ∀ (v : Option Value) (es' : va_W), Psi (.inl v) es' → Go g M (n + 1) mc'' ms'' (pc + 3) ls (v.toList ++ st) es' Phi) (kt : ∀ (E : String) (es' : va_W), Psi (.inr E) es' → Phi (.inr E) es') : Go g M (n + 1) mc ms pc ls stk es Phi := by
  intro p l e R s m args below meth c A tc ts C h1 h2 H locs cells slots arr hP hD hS hl h3 h4 T hT X
  subst hst; subst hT
  have d2 := C.hts
  obtain ⟨mk, methM, hnamed, hmethM, hstM, habM⟩ := Cond.instanceMethod_spec (d2 _ hin.1 hin.2)
  have hcd := gCode_c hnamed (d2 _ hco.1 hco.2) h0
  obtain ⟨c2, r2, m2, q1, q2, q3, q4, kP, hkP, hkPi⟩ := Cond.selects_spec (d2 _ hse.1 hse.2)
  obtain ⟨cellB, w1, w2, w3⟩ := va_recv C.hk hP hvc he
  rw [hcl] at w3
  cases w3.symm.trans q1
  cases (State.methodFound?_of_named hnamed hy).symm.trans q2
  cases hnamed.symm.trans q3
  have hselP : selectMethod e.platform s.vm cellB.cls mk = .method mk := by rw [Launch.admits_selectMethod X.admits]; exact q4
  have hsig : As.length = methM.sig.parameters.length := by
    obtain ⟨methk, ck, k1, -, -, -, -, -, -, k8⟩ := id hcd
    cases hmethM.symm.trans k1
    rw [k8] at hlen
    exact (Option.some.inj hlen).symm
  obtain ⟨vm₁, X₁, hstep₁⟩ := X.invokevirtual C.hx C.hown (d2 _ hlk.1 hlk.2) hnamed hmethM hstM hkP hkPi hy (a := b) (cell := cellB) w1
    (fun z h => by rw [h] at w2; cases w2) hselP hmethM habM hkP hkPi (g := F0 m pc arr (As.reverse ++ .ref b :: st)) rfl (argsL := As) (rest := st) hsig rfl (by rw [C.hb]; exact hd)
  obtain ⟨t, hgo, hB⟩ := go_back (M' := M') (av := .ref b :: As) (f := F0 m pc arr st) C hc X₁ hP hD hS rfl (hl.1.trans C.hml.symm) (by rw [C.hb]; exact hd) (by show 2 * 0 + (st.map fun v => v.category).sum ≤ 8; omega) hnamed hpl hcd h13 hav (by omega) (by omega)
  obtain ⟨t', q1', q2'⟩ := go_on (mc'' := mc'') (ms'' := ms'') C h1 h2 hl (by omega) (by omega) h00 k kt hB
  exact ⟨t', hstep₁ _ (fun acts => (hgo acts).trans q1'), q2'⟩
/-- a static call -/
theorem go_callS {M' : gM} {mc' ms' mc'' ms'' : Nat} {As stk : List Value} {Psi : gR → va_W → Prop} {index : Nat} (hst : stk = As.reverse ++ st)
    (hlk : gH (.methodLink M.1.cls index M'.1)) (hsta : gH (.static M'.1)) (hini : gH (.initialized M'.1.cls)) (hco : gH (.code M'.1 M'.2.1 M'.2.2.1 M'.2.2.2.1)) (h0 : M'.2.2.2.2 = []) (h00 : M.2.2.2.2 = [])
    (hy : M'.1.cls ≠ "java/lang/invoke/MethodHandle" ∧ M'.1.cls ≠ "java/lang/invoke/VarHandle") (hpl : plainName M'.1.cls = true) (hlen : (parseMethodDescriptor M'.1.desc).map (fun d => d.parameters.length) = some As.length)
    (h13 : M'.2.2.1 ≤ 13) (hav : (lg_sl As).length ≤ M'.2.2.1) (h8 : (st.map fun v => v.category).sum ≤ 8) (hmc : mc' + mc'' ≤ mc) (hms : ms' + ms'' ≤ ms)
    (hd : decode M.2.1 pc = .ok (.invokestatic index, 3)) (hc : Go g M' n mc' ms' 0 (lv_args 0 As) [] es Psi)
    (k : ∀ (v : Option Value) (es' : va_W), Psi (.inl v) es' → Go g M (n + 1) mc'' ms'' (pc + 3) ls (v.toList ++ st) es' Phi) (kt : ∀ (E : String) (es' : va_W), Psi (.inr E) es' → Phi (.inr E) es') : Go g M (n + 1) mc ms pc ls stk es Phi := by
  intro p l e R s m args below meth c A tc ts C h1 h2 H locs cells slots arr hP hD hS hl h3 h4 T hT X
  subst hst; subst hT
  have d2 := C.hts
  obtain ⟨mk, hnamed⟩ := Cond.code_named (d2 _ hco.1 hco.2)
  have hcd := gCode_c hnamed (d2 _ hco.1 hco.2) h0
  obtain ⟨methM, ck, hmethM, -, -, -, -, -, -, k8⟩ := id hcd
  have hstatic : methM.isStatic = true := Cond.static_spec hnamed hmethM (d2 _ hsta.1 hsta.2)
  obtain ⟨kP, hkP, -⟩ := className_of_methodNamed hnamed
  have hinitP : kP.init = .initialized := Cond.initialized_spec (findClass_of_methodNamed hnamed) hkP (d2 _ hini.1 hini.2)
  have hsig : As.length = methM.sig.parameters.length := by
    rw [k8] at hlen
    exact (Option.some.inj hlen).symm
  obtain ⟨vm₁, X₁, hstep₁⟩ := X.invokestatic C.hx C.hown (d2 _ hlk.1 hlk.2) hnamed hmethM hstatic hkP hinitP hy (g := F0 m pc arr (As.reverse ++ st)) rfl (argsL := As) (rest := st) hsig rfl (by rw [C.hb]; exact hd)
  obtain ⟨t, hgo, hB⟩ := go_back (M' := M') (av := As) (f := F0 m pc arr st) C hc X₁ hP hD hS rfl (hl.1.trans C.hml.symm) (by rw [C.hb]; exact hd) (by show 2 * 0 + (st.map fun v => v.category).sum ≤ 8; omega) hnamed hpl hcd h13 hav (by omega) (by omega)
  obtain ⟨t', q1', q2'⟩ := go_on (mc'' := mc'') (ms'' := ms'') C h1 h2 hl (by omega) (by omega) h00 k kt hB
  exact ⟨t', hstep₁ _ (fun acts => (hgo acts).trans q1'), q2'⟩
end GC
end
section
section GT
variable {g : gG} {M : gM} {n mc ms pc : Nat} {ls : List (Nat × Value)} {st : List Value} {es : va_W} {Phi : gR → va_W → Prop}
/-- a walk that stands in the middle of a method stands at its beginning, of a method that begins here -/
theorem gRebase {p : Program} {l : Launch} {e : Env} {R : Room} {s : State} {m : MethodId} {args : Array Value} {below : List Frame} {meth : Method} {c : Code} {T : State} {locs : List Loc} {cells slots : Nat} (X : Stand p l e R s m args below meth c T locs cells slots) (hc0 : cells ≤ R.cells) (hs0 : slots ≤ R.slots) :
    Stand p l e { frames := R.frames, cells := R.cells - cells, slots := R.slots - slots, locals := R.locals } (T.setFrames (.invoking m args :: below)) m args below meth c T [] 0 0 := by
  obtain ⟨g₀, hfr⟩ := X.frames_eq
  have hcur : T.cur < T.threads.size := State.cur_lt_of_frames hfr
  have hF : (T.setFrames (.invoking m args :: below)).frames = .invoking m args :: below := State.frames_setFrames _ hcur
  obtain ⟨th, hth, -⟩ := State.frames_cons hF
  obtain ⟨th0, hth0, -⟩ := State.frames_cons hfr
  have hal := X.warmed.alike
  refine ⟨X.admits, X.cas, X.clock, hF, ?_, ?_, X.method', X.code, X.here, X.tail, State.WarmedH.refl (T.setFrames (.invoking m args :: below)), (State.stackLimits_setFrames _ _ _).symm, (State.stackBytes_setFrames _ _).symm, ?_⟩
  · obtain ⟨r1, r2, r3, r4⟩ := State.hasRoom_stack X.room
    have r5 := State.hasRoom_real X.room
    have h := X.room
    simp only [State.hasRoom, Bool.and_eq_true, decide_eq_true_eq] at h
    rw [State.localsInUse_invoking X.frames X.method X.code] at r3 r4 r5
    rw [X.frames, List.length_cons] at r1 r2
    have hU : (T.setFrames (.invoking m args :: below)).localsInUse = stackWeight below + vmFrameWords + (c.maxLocals + 11) := State.localsInUse_invoking hF X.method' X.code
    have z1 := X.heapSize
    have z2 := X.used
    simp only [State.hasRoom, Bool.and_eq_true, decide_eq_true_eq, hF, hU, List.length_cons, State.stackLimits_setFrames, State.stackBytes_setFrames, X.limits, X.bytes]
    refine ⟨⟨⟨⟨by omega, by omega, by omega, by omega, by omega, h.1.1.1.2.2.2.2.2⟩, ?_⟩, ?_⟩, X.book⟩
    · have h9 := h.1.1.2
      show T.heap.size + (R.cells - cells) ≤ e.platform.maxCells
      omega
    · have h9 := h.1.2
      show T.slotsUsed + (R.slots - slots) ≤ e.platform.maxSlots
      omega
  · have h := X.hears
    cases below with
    | nil =>
      have h' : (s.vm.method? m).any (·.sig.returnType.isNone) = true := h
      show (T.vm.method? m).any (·.sig.returnType.isNone) = true
      rw [hal.method?]; exact h'
    | cons f r =>
      cases f with
      | java f0 =>
        have h' : ((s.code? f0.method).bind fun c => (decode c.code f0.pc).toOption).isSome = true := h
        show (((T.setFrames (.invoking m args :: .java f0 :: r)).code? f0.method).bind fun c => (decode c.code f0.pc).toOption).isSome = true
        have e1 : (T.setFrames (.invoking m args :: .java f0 :: r)).code? f0.method = s.code? f0.method := by
          rw [State.code?_eq, State.code?_eq]
          show (T.vm.method? f0.method).bind _ = _
          rw [hal.method?]
        rw [e1]; exact h'
      | native f0 => exact h
      | proc f0 => exact h
      | _ =>
        have h' : (s.vm.method? m).any (·.sig.returnType.isNone) = true := h
        show (T.vm.method? m).any (·.sig.returnType.isNone) = true
        rw [hal.method?]; exact h'
  · have h := (State.sameButNew.refl (T.setFrames (.invoking m args :: below)) hth).setFrames T.frames (State.cur_lt_of_frames hF)
    rw [State.setFrames_setFrames, State.setFrames_self hth0] at h
    exact h
theorem gZq {args : Array Value} {s : State} {C nm d : String} {A : Nat → Prop} (h : va_Zq C nm d A s s.heap) : (Cond.isRef (.static C nm d)).before args s = true := by
  rcases h with h | ⟨t, h⟩
  · obtain ⟨cf, kf, fi, f, a, cell, q1, q2, q3, q4, q5, q6, q7, q8⟩ := h
    have hv : (Term.static C nm d).eval args s none [] s = some .null := by
      simp [Term.eval, State.fieldNamed?, q1, q2, q4, q5, q6, q7]
    simp [Cond.before, Cond.holds, Cond.value, hv]
  · obtain ⟨cf, kf, fi, f, a, cell, q1, q2, q3, q4, q5, q6, q7, q8⟩ := h
    have hv : (Term.static C nm d).eval args s none [] s = some (.ref t) := by
      simp [Term.eval, State.fieldNamed?, q1, q2, q4, q5, q6, q7]
    simp [Cond.before, Cond.holds, Cond.value, hv]
/-- the four words of a throw that speak of the heap -/
def gTh : List Cond := [.isRef (.static Jvm.Bundle.tN "UNASSIGNED_STACK" Jvm.Bundle.steD), .isRef (.static Jvm.Bundle.tN "SUPPRESSED_SENTINEL" Jvm.Bundle.listD), .laysStatic Jvm.Bundle.tN "UNASSIGNED_STACK" Jvm.Bundle.steD, .laysStatic Jvm.Bundle.tN "SUPPRESSED_SENTINEL" Jvm.Bundle.listD]
theorem gTh_at {p : Program} {e : Env} {R : Room} {s : State} {m : MethodId} {args : Array Value} {meth : Method} {c : Code} {A : Nat → Prop} (C : gK g M n p e R s m args meth c A) : ∀ w ∈ gTh, w.before args s = true := by
  have z1 := C.2.1.2.2.2.2.2.2.2.1
  have z2 := C.2.1.2.2.2.2.2.2.2.2.1
  intro w hw
  simp only [gTh, List.mem_cons, List.not_mem_nil, or_false] at hw
  rcases hw with rfl | rfl | rfl | rfl
  · exact gZq z1.1
  · exact gZq z2.1
  · exact z1.lay
  · exact z2.lay
/-- the words of 'throw new X("text")' where X's constructor calls Y's by the entry k of its pool, and Y's go on as the library's chain has it -/
def gOwn (own : String) (ic : Nat) (X Y : String) (k : Nat) (bytes : ByteArray) (names : List String) : List Cond :=
  Jvm.Bundle.throwableAtoms ++ (Jvm.Bundle.throwableSAtoms ++ (Jvm.Bundle.passSAtoms X Y k bytes ++ (Jvm.Bundle.chainSAtoms Y names ++
  [.methodLink own ic (Jvm.Bundle.initS X), .instantiable X 6, .selects X Jvm.Bundle.tFill0 Jvm.Bundle.tFill0, .selects X Jvm.Bundle.tFill Jvm.Bundle.tFill,
   .lays X Jvm.Bundle.tN "cause" "Ljava/lang/Throwable;", .lays X Jvm.Bundle.tN "stackTrace" Jvm.Bundle.steD, .lays X Jvm.Bundle.tN "suppressedExceptions" Jvm.Bundle.listD, .lays X Jvm.Bundle.tN "detailMessage" "Ljava/lang/String;",
   .isRef (.static Jvm.Bundle.tN "UNASSIGNED_STACK" Jvm.Bundle.steD), .isRef (.static Jvm.Bundle.tN "SUPPRESSED_SENTINEL" Jvm.Bundle.listD),
   .fieldLink Jvm.Bundle.tN 198 Jvm.Bundle.tN "backtrace" "Ljava/lang/Object;", .lays Jvm.Bundle.tN Jvm.Bundle.tN "backtrace" "Ljava/lang/Object;", .lays X Jvm.Bundle.tN "backtrace" "Ljava/lang/Object;"])))
set_option maxHeartbeats 2000000 in
/-- from the constructor's call to the throw's end; the way is the library's own (ctorMessageOffV), with one link more ahead of the chain -/
theorem gCtor {p : Program} {l : Launch} {e : Env} {R : Room} {s : State} {m₀ : MethodId} {args : Array Value} {below : List Frame} {meth : Method} {c : Code} {W0 : State} {locs : List Loc} {cells slots : Nat}
    (X : Stand p l e R s m₀ args below meth c W0 locs cells slots) (hexec : p.tables.exec = Jvm.exec) (htr : e.platform.stackTraces = false) {own cls Y0 : String} {names : List String} {ic k0 : Nat} {bytes : ByteArray}
    (hown : s.vm.findClass own = some m₀.cls) (hcls : Jvm.Bundle.fit cls = true) (hY0 : Jvm.Bundle.fit Y0 = true) (hnames : ∀ n ∈ names, Jvm.Bundle.fit n = true)
    (b0 : decode bytes 0 = .ok (.aload_n 0, 1)) (b1 : decode bytes 1 = .ok (.aload_n 1, 1)) (b2 : decode bytes 2 = .ok (.invokespecial k0, 3)) (b5 : decode bytes 5 = .ok (.return_, 1))
    (h : ∀ a ∈ gOwn own ic cls Y0 k0 bytes names, a.before args s = true)
    (hlocs : ∀ x ∈ locs, ∀ cell, s.heap[x.base]? = some cell → cell.vm.isStatics = false)
    {a : Addr} {cX : ClassId} {kX : Class} (hfoundX : s.vm.findClass cls = some cX) (hkX : s.vm.classes[cX]? = some kX) (hcell : W0.heap[a]? = some (freshCell cX kX)) (hnew : s.heap.size ≤ a)
    {msg : Value} (hmsg : msg.isRef = true)
    {f : JFrame} (hg : f.method = m₀) (hsize : f.locals.size = c.maxLocals) (hlocked : f.locked = none) (hentered : f.entered = []) {rest : List Value} (hstack : f.stack = msg :: .ref a :: .ref a :: rest)
    (hd6 : decode c.code f.pc = .ok (.invokespecial ic, 3)) (hd9 : decode c.code (f.pc + 3) = .ok (.athrow, 1)) (hout : ∀ x ∈ c.exceptionTable.toList, covers x (f.pc + 3) = false)
    (hRframes : names.length + 4 < R.frames) (hRlocals : 2 * f.monitorRoom + ((Value.ref a :: rest).map fun v => v.category).sum + (13 * (names.length + 2) + 42) ≤ R.locals) (hlocks : meth.locks = false) :
    ∃ U : State, Steps p.tables e below (W0.setTop f) U ∧ U.status = .running ∧ Ended U below (.threw a) ∧ s.WarmedH U.vm ∧ s.sameButNew ({ U with vm := s.vm } : State) locs cells slots ∧
      ∃ ce : Cell, U.heap[a]? = some ce ∧ s.vm.findClass cls = some ce.cls ∧ ce.vm.isStatics = false := by
  have howns : e.platform.frameOwnsMonitors = true := by rw [X.admits.platform]
  have hfin : e.platform.finalization = false := by rw [X.admits.platform]
  have hpl : e.platform.magicAccessors = ({} : Platform).magicAccessors := by rw [X.admits.platform]
  have a' : ∀ x, x ∈ gOwn own ic cls Y0 k0 bytes names → x.holds args s none s [] = true := fun x hx => h x hx
  obtain ⟨T, Z0, L, -, Y⟩ := ThrowableC.of_atoms (args := args) howns hfin hpl (fun x hx => h x (by simp [gOwn, hx]))
  obtain ⟨Z, Mg, LZ, LM, hnZ⟩ := Init0T.ofS_atoms (args := args) hpl L Y (fun x hx => h x (by simp [gOwn, hx]))
  obtain ⟨P0, L0, hP0m, hP0s⟩ := PassC.ofS_atoms (args := args) (s := s) hpl (X := cls) (Y := Y0) (Jvm.Bundle.fit_spec hcls).1 (Jvm.Bundle.fit_spec hY0).2 b0 b1 b2 b5 (fun x hx => h x (by simp [gOwn, hx]))
  obtain ⟨P1, Ps, hlen, L1, hL, hP1m, hlink1, hlink⟩ := Jvm.Bundle.chainS (args := args) hpl hnZ names Y0 hY0 hnames (fun x hx => h x (by simp [gOwn, hx]))
  have hsup0 : P0.sup = P1.m := Option.some.inj (hP0s.symm.trans hP1m)
  have hfound : s.vm.findClass cls = some P0.m.cls := findClass_of_methodNamed hP0m
  cases Option.some.inj (hfoundX.symm.trans hfound)
  obtain ⟨c1, kX', hc1, hk, hord, -, -, hn6⟩ := Cond.instantiable_spec (a' (.instantiable cls 6) (by simp [gOwn]))
  cases Option.some.inj (hc1.symm.trans hfound)
  cases Option.some.inj (hkX.symm.trans hk)
  have hsel0 : selectMethod e.platform s.vm P0.m.cls T.fill0 = .method T.fill0 := by
    obtain ⟨c2, r2, m2, q1, q2, q3, q4, -⟩ := Cond.selects_spec (a' (.selects cls Jvm.Bundle.tFill0 Jvm.Bundle.tFill0) (by simp [gOwn]))
    cases Option.some.inj (q1.symm.trans hfound)
    cases Option.some.inj (q2.symm.trans (State.methodFound?_of_named Y.fill0 (by decide)))
    cases Option.some.inj (q3.symm.trans Y.fill0)
    rw [Launch.admits_selectMethod X.admits]; exact q4
  have hselF : selectMethod e.platform s.vm P0.m.cls T.fill = .method T.fill := by
    obtain ⟨c2, r2, m2, q1, q2, q3, q4, -⟩ := Cond.selects_spec (a' (.selects cls Jvm.Bundle.tFill Jvm.Bundle.tFill) (by simp [gOwn]))
    cases Option.some.inj (q1.symm.trans hfound)
    cases Option.some.inj (q2.symm.trans (State.methodFound?_of_named Y.fill (by decide)))
    cases Option.some.inj (q3.symm.trans Y.fill)
    rw [Launch.admits_selectMethod X.admits]; exact q4
  obtain ⟨cellS0, hcS0, hiss⟩ := Y.statics
  obtain ⟨u0, hu0⟩ := Cond.staticRefV Y.unassigned L.unassignedStatic L.statics hcS0 hiss (a' (.isRef (.static Jvm.Bundle.tN "UNASSIGNED_STACK" Jvm.Bundle.steD)) (by simp [gOwn]))
  obtain ⟨sen, hsen⟩ := Cond.staticRefV Y.sentinel L.sentinelStatic L.statics hcS0 hiss (a' (.isRef (.static Jvm.Bundle.tN "SUPPRESSED_SENTINEL" Jvm.Bundle.listD)) (by simp [gOwn]))
  obtain ⟨ci198, i198, fB, hk198, hg198, ha198, hsB, -, hnB, htB, hffB⟩ := Cond.ownField (t := .object "java/lang/Object") Y.found L.cls (by decide +kernel) (a' (.fieldLink Jvm.Bundle.tN 198 Jvm.Bundle.tN "backtrace" "Ljava/lang/Object;") (by simp [gOwn])) (a' (.lays Jvm.Bundle.tN Jvm.Bundle.tN "backtrace" "Ljava/lang/Object;") (by simp [gOwn])) e.platform hpl
  obtain ⟨cellS, hcS', heS, -, hkeep⟩ := X.same.2.2.2.2.2 T.aS cellS0 hcS0
  have hcellS : W0.heap[T.aS]? = some cellS := hcS'
  have hout' : ∀ i, (⟨T.aS, i⟩ : Loc) ∉ locs := fun i hmem => by
    have := hlocs _ hmem cellS0 hcS0
    rw [hiss] at this; cases this
  have hknownS : cellS.vm ≠ .unknown := by
    rw [heS]; intro hu
    rw [show cellS0.vm = .unknown from hu] at hiss
    cases hiss
  have hneS : T.aS ≠ a := Nat.ne_of_lt (Nat.lt_of_lt_of_le (Array.getElem?_eq_some_iff.mp hcS0).1 hnew)
  obtain ⟨iM, hffM⟩ := Y.msg
  obtain ⟨tyC, dC, hdC, hdnC⟩ := Cond.laysAt hfound hk Y.cause (a' (.lays cls Jvm.Bundle.tN "cause" "Ljava/lang/Throwable;") (by simp [gOwn]))
  obtain ⟨tyS, dS, hdS, hdnS⟩ := Cond.laysAt hfound hk Y.stack (a' (.lays cls Jvm.Bundle.tN "stackTrace" Jvm.Bundle.steD) (by simp [gOwn]))
  obtain ⟨tyP, dP, hdP, hdnP⟩ := Cond.laysAt hfound hk Y.supp (a' (.lays cls Jvm.Bundle.tN "suppressedExceptions" Jvm.Bundle.listD) (by simp [gOwn]))
  obtain ⟨tyM, dM, hdM, hdnM⟩ := Cond.laysAt hfound hk hffM (a' (.lays cls Jvm.Bundle.tN "detailMessage" "Ljava/lang/String;") (by simp [gOwn]))
  obtain ⟨tyB, dB, hdB, hdnB⟩ := Cond.laysAt hfound hk hffB (a' (.lays cls Jvm.Bundle.tN "backtrace" "Ljava/lang/Object;") (by simp [gOwn]))
  have bC := Cond.laysApart hdB hdC hdnB hdnC (by rw [hnB, Y.causeName]; decide)
  have bS := Cond.laysApart hdB hdS hdnB hdnS (by rw [hnB, Y.stackName]; decide)
  have bP := Cond.laysApart hdB hdP hdnB hdnP (by rw [hnB, Y.suppName]; decide)
  have hskip : SkipFacts T e.platform s (fun u => u) u0 ((preparedCellV T.toThrowableT (freshCell P0.m.cls kX) a u0 sen).withEntry W0.cur) :=
    ⟨{ ci198 := ci198, i198 := i198, fBack := fB }, ⟨hk198, hg198, ha198, hsB⟩, by
      have := fresh_default (c := P0.m.cls) tyB
      rw [htB] at this
      simpa [preparedCellV, Cell.setSlot, Cell.withEntry, Array.getElem?_setIfInBounds, bC, bS, bP, bC.symm, bS.symm, bP.symm, defaultValue] using this, fun _ _ => rfl⟩
  obtain ⟨tm, methC, cdC, kC, vm₁, hnC, -, -, -, -, -, -, -, hW₁, st1⟩ := Steps.initColdS (tb := p.tables) (e := e) (below := below) (s := s) (U := W0) X.here hexec X.warmed hpl hown (t := Jvm.Bundle.initS cls) rfl rfl (Jvm.Bundle.fit_spec hcls).2
    (a' (.methodLink own ic (Jvm.Bundle.initS cls)) (by simp [gOwn])) (h (.instanceMethod (Jvm.Bundle.initS cls)) (by simp [gOwn, Jvm.Bundle.passSAtoms])) (bytes := bytes) (maxL := 2) (h (.code (Jvm.Bundle.initS cls) bytes 2 none) (by simp [gOwn, Jvm.Bundle.passSAtoms]))
    (f := f) hg (a := a) (msg := msg) (rest := .ref a :: rest) hstack hd6
  cases Option.some.inj (hnC.symm.trans hP0m)
  have X₁ := X.noted hW₁
  obtain ⟨vm₂, X₂, st2⟩ := X₁.ctorMessageOffV hexec (g := { f with stack := .ref a :: rest }) hg hsize T L Z LZ Mg LM (P0 :: P1 :: Ps)
    (fun P hP => by
      rcases List.mem_cons.mp hP with rfl | hP
      · exact L0
      · rcases List.mem_cons.mp hP with rfl | hP
        · exact L1
        · exact hL P hP) ⟨hsup0, hlink1, hlink⟩ (u0 := u0) (sen := sen) (self := a) hmsg (cell := freshCell P0.m.cls kX) (cellS := cellS)
    hcell (fun _ => by simp) (by simp) rfl rfl hsel0 hselF hcellS hneS hknownS (by rw [hkeep _ (hout' _)]; exact hu0) (by rw [hkeep _ (hout' _)]; exact hsen)
    (Takes.of_laid hk hord tyC (by rw [Y.causeType]; rfl)) (Takes.of_laid hk hord tyS (by rw [Y.stackType]; exact fits_refV_array _ u0)) (Takes.of_laid hk hord tyP (by rw [Y.suppType]; exact fits_refV_object _ sen))
    (Takes.of_laid hk hord tyM (by rw [Y.msgType]; exact fits_refV_object _ ⟨msg, hmsg⟩)) Y.objLocals hskip htr [] hd6
    (by simp only [List.length_cons, hlen]; omega) (by simp only [List.length_cons, hlen]; exact hRlocals)
  obtain ⟨hwalk, hrun, hended, hWU, hsame⟩ := X₂.athrowLeaves hexec (g := { f with stack := .ref a :: rest, pc := f.pc + 3 }) hg hlocked hentered hout (a := a) (rest := rest) rfl hd9
  have hlt : a < ((W0.setVm vm₁).setVm vm₂).heap.size := (Array.getElem?_eq_some_iff.mp hcell).1
  have hU := heapAt_setCell_self (s := (W0.setVm vm₁).setVm vm₂) (plainBareV T.toThrowableT (freshCell P0.m.cls kX) a u0 sen msg) hlt
  refine ⟨_, st1 _ (fun acts => ?_), hrun, hended, hWU, hsame.weaken (fun y hy hlt' => ?_) (Nat.le_refl _) (Nat.le_refl _), _, hU, hfound, rfl⟩
  · rw [doInvoke_state]
    exact st2 _ hwalk
  · rcases List.mem_append.mp hy with h1 | h1
    · exact h1
    · exfalso
      have hb : y.base = a := by
        simp only [List.mem_cons, List.not_mem_nil, or_false] at h1
        rcases h1 with rfl | rfl | rfl | rfl | rfl <;> rfl
      rw [hb] at hlt'
      exact Nat.not_lt.mpr hnew hlt'
/-- all that a throw of an E out of the class own needs of the tables -/
def gExc (own : String) (ic : Nat) (E : String) : Prop := ∃ (Y0 : String) (k0 : Nat) (bytes : ByteArray) (names : List String), Jvm.Bundle.fit E = true ∧ Jvm.Bundle.fit Y0 = true ∧ (∀ x ∈ names, Jvm.Bundle.fit x = true) ∧ names.length ≤ 1 ∧
  decode bytes 0 = .ok (.aload_n 0, 1) ∧ decode bytes 1 = .ok (.aload_n 1, 1) ∧ decode bytes 2 = .ok (.invokespecial k0, 3) ∧ decode bytes 5 = .ok (.return_, 1) ∧ ∀ a ∈ gOwn own ic E Y0 k0 bytes names, gH a ∨ a ∈ gTh
/-- throw new E("text"), from a state that has just begun -/
theorem gThrow0 {E tx : String} {ik is ic : Nat} {p : Program} {l : Launch} {e : Env} {R : Room} {s : State} {m : MethodId} {args : Array Value} {below : List Frame} {meth : Method} {c : Code} {A : Nat → Prop} {arr : Array Slot}
    (C : gK g M (n + 1) p e R s m args meth c A) (hl : lv_has arr M.2.2.1 ls) (hstr : (M.1.cls, is, tx) ∈ gStr) (hcl : gH (.classLink M.1.cls ik E)) (hit : gH (.instantiable E 6)) (hini : gH (.initialized E)) (hex : gExc M.1.cls ic E) (h00 : M.2.2.2.2 = [])
    (h1 : 1 ≤ R.cells) (h2 : 6 ≤ R.slots) (h8 : (st.map fun v => v.category).sum ≤ 8)
    (d0 : decode M.2.1 pc = .ok (.new ik, 3)) (d1 : decode M.2.1 (pc + 3) = .ok (.dup, 1)) (d2 : decode M.2.1 (pc + 4) = .ok (.ldc is, 2)) (d3 : decode M.2.1 (pc + 6) = .ok (.invokespecial ic, 3)) (d4 : decode M.2.1 (pc + 9) = .ok (.athrow, 1)) :
    W p l e R s m args below meth c s.heap [] 0 0 (fun t => ∃ a : Addr, t.status = .running ∧ Ended t below (.threw a) ∧ s.WarmedH t.vm ∧ s.sameButNew ({ t with vm := s.vm } : State) [] 1 6 ∧ gX E a s t) (F0 m pc arr st) := by
  have hout : ∀ pc0, ∀ x ∈ c.exceptionTable.toList, covers x pc0 = false := by
    have h5 := C.hh
    rw [h00] at h5
    have h6 : c.exceptionTable.toList = [] := List.map_eq_nil_iff.mp h5
    intro pc0 x hx; rw [h6] at hx; cases hx
  obtain ⟨Y0, k0, bytes, names, x1, x2, x3, x4, b0, b1, b2, b5, hat⟩ := hex
  refine W.newc (n := 6) C.hx C.hb C.hown (C.hts _ hcl.1 hcl.2) (C.hts _ hit.1 hit.2) (C.hts _ hini.1 hini.2) (g := F0 m pc arr st) rfl d0 (by omega) (by omega) (fun cC kC hC hk hord hn6 => ?_)
  refine W.eq (g2 := F0 m (pc + 3) arr (.ref s.heap.size :: st)) rfl ?_
  refine lv_dup C.hx C.hb d1 rfl ?_
  obtain ⟨a, hR⟩ := C.2.1.2.2.2.2.2.2.2.2.2.2.1 _ hstr
  refine va_ldcS (tx := tx) (q := a) C.hx C.hb C.hown hR d2 ?_
  intro T hT X
  obtain ⟨U, u1, u2, u3, u4, u5, ce, u6, u7, u8⟩ := gCtor X C.hx C.2.1.2.2.2.2.2.2.2.2.2.1 (own := M.1.cls) (cls := E) (Y0 := Y0) (names := names) (ic := ic) (k0 := k0) (bytes := bytes) C.hown x1 x2 x3 b0 b1 b2 b5
    (fun w hw => by
      rcases hat w hw with h | h
      · exact C.hts _ h.1 h.2
      · exact gTh_at C w h)
    (fun x hx => by cases hx) (a := s.heap.size) (cX := cC) (kX := kC) hC hk (by rw [hT, Array.getElem?_push_size]) (Nat.le_refl _) (msg := .ref a) rfl (f := F0 m (pc + 6) arr (.ref a :: .ref s.heap.size :: .ref s.heap.size :: st)) rfl (hl.1.trans C.hml.symm) rfl rfl (rest := st) rfl (by rw [C.hb]; exact d3) (by rw [C.hb]; exact d4) (hout _)
    (by have := C.hfr; omega) (by have := C.hlo; show 2 * 0 + (1 + (st.map fun v => v.category).sum) + (13 * (names.length + 2) + 42) ≤ R.locals; omega) C.hlk
  exact ⟨U, u1, s.heap.size, u2, u3, u4, u5, ce, u6, u7, u8⟩
theorem gSame_keep {s t : State} {cells slots : Nat} (h : s.sameButNew ({ t with vm := s.vm } : State) [] cells slots) : s.heap.size ≤ t.heap.size ∧ ∀ q : Nat, q < s.heap.size → t.heap[q]? = s.heap[q]? := by
  obtain ⟨-, h2, -, -, -, h6⟩ := h
  refine ⟨h2, fun q hq => ?_⟩
  have hc : s.heap[q]? = some s.heap[q] := Array.getElem?_eq_getElem hq
  obtain ⟨c', h7, h8, h9, h10⟩ := h6 q _ hc
  have h7' : t.heap[q]? = some c' := h7
  rw [h7', hc]
  congr 1
  rw [h8]
  have : c'.slots = s.heap[q].slots := by
    apply Array.ext_getElem?
    intro i
    exact h10 i (by simp)
  rw [this]
/-- throw new E("text") -/
theorem go_throw {E tx : String} {ik is ic : Nat} (hstr : (M.1.cls, is, tx) ∈ gStr) (hcl : gH (.classLink M.1.cls ik E)) (hit : gH (.instantiable E 6)) (hini : gH (.initialized E)) (hex : gExc M.1.cls ic E) (h00 : M.2.2.2.2 = [])
    (hmc : 1 ≤ mc) (hms : 6 ≤ ms) (h8 : (st.map fun v => v.category).sum ≤ 8)
    (d0 : decode M.2.1 pc = .ok (.new ik, 3)) (d1 : decode M.2.1 (pc + 3) = .ok (.dup, 1)) (d2 : decode M.2.1 (pc + 4) = .ok (.ldc is, 2)) (d3 : decode M.2.1 (pc + 6) = .ok (.invokespecial ic, 3)) (d4 : decode M.2.1 (pc + 9) = .ok (.athrow, 1))
    (hf : Phi (.inr E) es) : Go g M (n + 1) mc ms pc ls st es Phi := by
  intro p l e R s m args below meth c A tc ts C h1 h2 H locs cells slots arr hP hD hS hl h3 h4 T hT X
  subst hT
  have Xb := gRebase X (by omega) (by omega)
  have hal := X.warmed.alike
  have C' : gK g M (n + 1) p e { frames := R.frames, cells := R.cells - cells, slots := R.slots - slots, locals := R.locals } (T.setFrames (.invoking m args :: below)) m args meth c (va_A es T.heap.size) := by
    refine ⟨⟨C.hx, C.hb, C.hml, C.hr, C.hlk, C.hnm, C.hh, ?_⟩, C.2.1.move (s2 := T.setFrames (.invoking m args :: below)) X.warmed rfl rfl hP hD hS, C.hfr, C.hlo⟩
    show T.vm.findClass _ = _
    rw [hal.findClass]; exact C.hown
  obtain ⟨t, q0, a, q1, q2, q3, q4, q5⟩ := gThrow0 (l := l) (below := below) C' hl hstr hcl hit hini hex h00 (by show 1 ≤ R.cells - cells; omega) (by show 6 ≤ R.slots - slots; omega) h8 d0 d1 d2 d3 d4 T rfl Xb
  obtain ⟨k1, k2⟩ := gSame_keep q4
  have k1' : T.heap.size ≤ t.heap.size := k1
  have k2' : ∀ q : Nat, q < T.heap.size → t.heap[q]? = T.heap[q]? := k2
  have hW : s.WarmedH t.vm := State.WarmedH.trans (t := T.setFrames (.invoking m args :: below)) X.warmed q3
  have hsame : s.sameButNew ({ t with vm := s.vm } : State) (locs ++ []) (cells + 1) (slots + 6) := by
    have z : (T.setVm s.vm).sameButNew ({ t with vm := s.vm } : State) [] 1 6 := by
      obtain ⟨y1, y2, y3, y4, y5, y6⟩ := q4
      refine ⟨?_, y2, y3, y4, y5, y6⟩
      have y0 : ({ t with vm := T.vm } : State) = { (T.setFrames (.invoking m args :: below)).setFrames t.frames with heap := t.heap, slotsUsed := t.slotsUsed } := y1
      rw [State.setFrames_setFrames] at y0
      exact congrArg (fun u : State => u.setVm s.vm) y0
    exact X.same.trans z
  rw [List.append_nil] at hsame
  have hP' : va_P g.1 vwCl es t.heap := fun k q hk => (hP k q hk).kept (k2' _ (hP k q hk).lt)
  obtain ⟨cell, x1, x2, x3⟩ := q5
  refine ⟨t, q0, .threw a, locs, es, q1, q2, hW, hsame.mono (by omega) (by omega), hS.2.2, ⟨Nat.le_trans hS.1 k1', fun q z1 z2 => ?_⟩, hP', hD, Or.inr ⟨a, E, rfl, ⟨cell, x1, ?_, x3⟩, hf⟩⟩
  · rw [k2' q (Nat.lt_of_lt_of_le z1 hS.1)]; exact hS.2.1 q z1 z2
  · have x2' : T.vm.findClass E = some cell.cls := x2
    rw [← hal.findClass]; exact x2'
end GT
end
section
section GU
theorem gAt {own : String} {ic : Nat} {E Y0 : String} {k0 : Nat} {bytes : ByteArray} {names : List String} (h : (gOwn own ic E Y0 k0 bytes names).all (fun w => decide (w ∈ gTh) || (decide (w ∈ lw_tbl) && gGood w)) = true) : ∀ a ∈ gOwn own ic E Y0 k0 bytes names, gH a ∨ a ∈ gTh := by
  intro a ha
  have h1 := List.all_eq_true.mp h a ha
  simp only [Bool.or_eq_true, Bool.and_eq_true, decide_eq_true_eq] at h1
  rcases h1 with h1 | h1
  · exact Or.inr h1
  · exact Or.inl h1
variable {g : gG} {M : gM} {n mc ms pc : Nat} {ls : List (Nat × Value)} {st : List Value} {es : va_W} {Phi : gR → va_W → Prop}
/-- which row of the handler table takes an object of class E that comes out of pc: every row before it covers pc and names a class that E is not of -/
def gN (E C : String) : Prop := (E, C) ∈ gNc
def gRows (own E : String) (pc hpc : Nat) : List (Nat × Nat × Nat × Nat) → Prop
  | [] => False
  | (a, b, h, k) :: r => a ≤ pc ∧ pc < b ∧ k ≠ 0 ∧ ∃ C : String, gH (.classLink own k C) ∧ ((gH (.castable E C) ∧ h = hpc) ∨ (gN E C ∧ gRows own E pc hpc r))
theorem gFind {e : Env} {s : State} {args : Array Value} {own E : String} {f : JFrame} {a : Addr} {cell : Cell} {hpc : Nat} (hpl : e.platform.magicAccessors = ({} : Platform).magicAccessors) (hown : s.vm.findClass own = some f.method.cls) (hts : ∀ w ∈ lw_tbl, gGood w = true → w.before args s = true)
    (hE : s.vm.findClass E = some cell.cls) (hst : cell.vm.isStatics = false) (hit : gH (.instantiable E 6)) (hnc : ∀ q ∈ gNc, va_Nc q.1 q.2 s) :
    ∀ (xs : List ExceptionTableEntry) (u : State), s.WarmedH u.vm → u.heap[a]? = some cell → gRows own E f.pc hpc (xs.map (fun h => (h.startPc, h.endPc, h.handlerPc, h.catchType))) →
      ∃ vm', s.WarmedH vm' ∧ ∀ (Q : Handler → Pre) (E' : CtlPost) (d : Bool) (acts : List Action), wp (findHandler.go f a xs) Q E' e d acts u ↔ Q (.found hpc) d acts (u.setVm vm') := by
  intro xs
  induction xs with
  | nil => intro u _ _ h; exact h.elim
  | cons x t ih =>
    intro u hW hcell h
    obtain ⟨h1, h2, h3, C, hlk, h4⟩ := h
    obtain ⟨cT, hcT, hcl⟩ := Cond.classLink_spec hown (hts _ hlk.1 hlk.2) e.platform hpl
    obtain ⟨dk, _, _, kt, hd, _, _, _, _, hkt, _, hop⟩ := hcl.here
    have hclu := hW.classLinks hcl
    have hW' : s.WarmedH (u.vm.noted f.method.cls x.catchType (.cls cT)) := hW.noted hd hop (State.rightAt_cls hcl)
    have hal : s.vm.Alike (u.vm.noted f.method.cls x.catchType (.cls cT)) := hW'.alike
    obtain ⟨kt', hkt', -⟩ := hal.2.2 _ _ hkt
    obtain ⟨ha, ht⟩ := (resolveClass_links e.toSetting hclu).op (op := VmOp.resolveClass f.method.cls x.catchType) rfl
    have hobj := VmData.ne_statics_of hst
    rcases h4 with ⟨hcast, h5⟩ | ⟨hno, h5⟩
    · obtain ⟨c3, c4, hc3, hc4, hasg⟩ := Cond.castable_spec (hts _ hcast.1 hcast.2)
      cases hE.symm.trans hc3
      cases hcT.symm.trans hc4
      have hfit : (u.vm.noted f.method.cls x.catchType (.cls cT)).assignable cell.cls cT = true := by rw [hal.assignable]; exact hasg
      obtain ⟨k1, hk1⟩ := Vm.classAt_of_assignable hfit ⟨kt', hkt'⟩
      refine ⟨_, hW', fun Q E' d acts => ?_⟩
      have h5' : x.handlerPc = hpc := h5
      have h1' : x.startPc ≤ f.pc := h1
      have h2' : f.pc < x.endPc := h2
      have h3' : x.catchType ≠ 0 := h3
      simp [findHandler.go, h1', h2', h3', ha, ht, hcell, hobj, hk1, hkt', hfit, h5', VmOp.dirties, VmOp.acts]
    · obtain ⟨c3, c4, hc3, hc4, hasg⟩ := hnc _ hno
      have hc3 : s.vm.findClass E = some c3 := hc3
      have hc4 : s.vm.findClass C = some c4 := hc4
      cases hE.symm.trans hc3
      cases hcT.symm.trans hc4
      have hfit : (u.vm.noted f.method.cls x.catchType (.cls cT)).assignable cell.cls cT = false := by rw [hal.assignable]; exact hasg
      obtain ⟨c5, k5, hc5, hk5, -⟩ := Cond.instantiable_spec (hts _ hit.1 hit.2)
      cases hE.symm.trans hc5
      obtain ⟨kc, hkc, -⟩ := hal.2.2 _ _ hk5
      obtain ⟨vm', hW2, hrest⟩ := ih (u.setVm (u.vm.noted f.method.cls x.catchType (.cls cT))) hW' hcell h5
      refine ⟨vm', hW2, fun Q E' d acts => ?_⟩
      have h1' : x.startPc ≤ f.pc := h1
      have h2' : f.pc < x.endPc := h2
      have h3' : x.catchType ≠ 0 := h3
      have e2 : (u.setVm (u.vm.noted f.method.cls x.catchType (.cls cT))).setVm vm' = u.setVm vm' := rfl
      rw [← e2, ← hrest Q E' d acts]
      simp [findHandler.go, h1', h2', h3', ha, ht, hcell, hobj, hkc, hkt', hfit, VmOp.dirties, VmOp.acts]
/-- an exception comes into a frame whose table takes it -/
theorem gCaught {p : Program} {l : Launch} {e : Env} {R : Room} {s : State} {m : MethodId} {args : Array Value} {below : List Frame} {meth : Method} {c : Code} {A : Nat → Prop} {T : State} {locs : List Loc} {cells slots hpc : Nat} {E : String} {a : Addr} {f : JFrame}
    (C : gK g M n p e R s m args meth c A) (X : Stand p l e R s m args below meth c T locs cells slots) (hf : f.method = m) (hE : gX E a s T) (hit : gH (.instantiable E 6)) (hr : gRows M.1.cls E f.pc hpc M.2.2.2.2) :
    ∃ vm', Stand p l e R s m args below meth c (T.setVm vm') locs cells slots ∧ ∀ target, Steps p.tables e below ((T.setVm vm').setTop { f with pc := hpc, stack := [.ref a] }) target → Steps p.tables e below ((T.setTop f).pushFrame (.throwing a)) target := by
  subst hf
  obtain ⟨cell, x1, x2, x3⟩ := hE
  have hpl : e.platform.magicAccessors = ({} : Platform).magicAccessors := by rw [X.admits.platform]
  have hr' : gRows M.1.cls E f.pc hpc (c.exceptionTable.toList.map (fun h => (h.startPc, h.endPc, h.handlerPc, h.catchType))) := by rw [C.hh]; exact hr
  obtain ⟨vm', hW', hw⟩ := gFind (a := a) (f := f) hpl C.hown C.hts x2 x3 hit C.2.1.2.2.2.2.2.2.2.2.2.2.2 c.exceptionTable.toList ((T.setTop f).pushFrame (.throwing a)) X.warmed (by show ((T.setTop f).pushFrame (.throwing a)).heap[a]? = _; simpa [State.pushFrame, State.setFrames] using x1) hr'
  refine ⟨vm', X.noted hW', fun target hrest => ?_⟩
  obtain ⟨hgo, hwi⟩ := X.here.throwing a (g := f)
  refine Steps.head hgo hwi ?_
  obtain ⟨g₀, hg⟩ := Option.isSome_iff_exists.mp X.here.top
  obtain ⟨r, hrr⟩ := State.topJava?_eq_some.mp hg
  have hfin : (stepThrowing e ((T.setTop f).pushFrame (.throwing a)) a (.java f :: T.frames.tail)).1 = ((((T.setTop f).pushFrame (.throwing a)).setVm vm').setFrames (.java { f with pc := hpc, stack := [.ref a] } :: T.frames.tail)) := by
    simp only [stepThrowing, searchFrame, vmDo]
    generalize hrz : Sem.go _ e false [] ((T.setTop f).pushFrame (.throwing a)) = res
    obtain ⟨as, rfl, ha⟩ := Sem.eq_ok_of hrz (a := Handler.found hpc) (s' := ((T.setTop f).pushFrame (.throwing a)).setVm vm') (acts' := []) (by simp [W.findHandler_eq (meth := meth) (code := c) (s := (T.setTop f).pushFrame (.throwing a)) X.method' X.code, hw _ _ _ _])
    rfl
  rw [stepThread_throwing (frames_entered X.here.top _), hfin]
  have hr2 : (T.setVm vm').frames = .java g₀ :: r := hrr
  have e9 : (((T.setTop f).pushFrame (.throwing a)).setVm vm').setFrames (.java { f with pc := hpc, stack := [.ref a] } :: T.frames.tail) = (T.setVm vm').setTop { f with pc := hpc, stack := [.ref a] } := by
    rw [State.setTop_of_frames _ hr2, hrr, List.tail_cons, State.pushFrame, State.setTop_of_frames _ hrr]
    have e1 : ∀ (F G : List Frame), ((T.setFrames F).setVm vm').setFrames G = (T.setVm vm').setFrames G := fun F G => State.setFrames_setFrames (T.setVm vm') F G
    rw [State.setFrames_setFrames, e1]
  rw [e9]
  exact hrest
/-- a virtual call out of a frame with handlers -/
theorem go_callVX {M' : gM} {mc' ms' mc'' ms'' : Nat} {As stk : List Value} {Psi : gR → va_W → Prop} {index b ci : Nat} {fs : List Value} {vc : vw_C} (q0 : Nat) (hst : stk = As.reverse ++ .ref b :: st) (he : es[q0]? = some (b, .inr (ci, fs))) (hvc : vwCl[ci]? = some vc) (hcl : vc.1 = M'.1.cls)
    (hlk : gH (.methodLink M.1.cls index M'.1)) (hin : gH (.instanceMethod M'.1)) (hse : gH (.selects M'.1.cls M'.1 M'.1)) (hco : gH (.code M'.1 M'.2.1 M'.2.2.1 M'.2.2.2.1)) (h0 : M'.2.2.2.2 = [])
    (hy : M'.1.cls ≠ "java/lang/invoke/MethodHandle" ∧ M'.1.cls ≠ "java/lang/invoke/VarHandle") (hpl : plainName M'.1.cls = true) (hlen : (parseMethodDescriptor M'.1.desc).map (fun d => d.parameters.length) = some As.length)
    (h13 : M'.2.2.1 ≤ 13) (hav : (lg_sl (.ref b :: As)).length ≤ M'.2.2.1) (h8 : (st.map fun v => v.category).sum ≤ 8) (hmc : mc' + mc'' ≤ mc) (hms : ms' + ms'' ≤ ms)
    (hd : decode M.2.1 pc = .ok (.invokevirtual index, 3)) (hc : Go g M' n mc' ms' 0 (lv_args 0 (.ref b :: As)) [] es Psi)
    (k : ∀ (v : Option Value) (es' : va_W), Psi (.inl v) es' → Go g M (n + 1) mc'' ms'' (pc + 3) ls (v.toList ++ st) es' Phi)
    (kt : ∀ (E : String) (es' : va_W), Psi (.inr E) es' → ∃ hpc, gH (.instantiable E 6) ∧ gRows M.1.cls E pc hpc M.2.2.2.2 ∧ ∀ a : Nat, Go g M (n + 1) mc'' ms'' hpc ls [.ref a] es' Phi) : Go g M (n + 1) mc ms pc ls stk es Phi := by
  intro p l e R s m args below meth c A tc ts C h1 h2 H locs cells slots arr hP hD hS hl h3 h4 T hT X
  subst hst; subst hT
  have d2 := C.hts
  obtain ⟨mk, methM, hnamed, hmethM, hstM, habM⟩ := Cond.instanceMethod_spec (d2 _ hin.1 hin.2)
  have hcd := gCode_c hnamed (d2 _ hco.1 hco.2) h0
  obtain ⟨c2, r2, m2, q1, q2, q3, q4, kP, hkP, hkPi⟩ := Cond.selects_spec (d2 _ hse.1 hse.2)
  obtain ⟨cellB, w1, w2, w3⟩ := va_recv C.hk hP hvc he
  rw [hcl] at w3
  cases w3.symm.trans q1
  cases (State.methodFound?_of_named hnamed hy).symm.trans q2
  cases hnamed.symm.trans q3
  have hselP : selectMethod e.platform s.vm cellB.cls mk = .method mk := by rw [Launch.admits_selectMethod X.admits]; exact q4
  have hsig : As.length = methM.sig.parameters.length := by
    obtain ⟨methk, ck, k1, -, -, -, -, -, -, k8⟩ := id hcd
    cases hmethM.symm.trans k1
    rw [k8] at hlen
    exact (Option.some.inj hlen).symm
  obtain ⟨vm₁, X₁, hstep₁⟩ := X.invokevirtual C.hx C.hown (d2 _ hlk.1 hlk.2) hnamed hmethM hstM hkP hkPi hy (a := b) (cell := cellB) w1
    (fun z h => by rw [h] at w2; cases w2) hselP hmethM habM hkP hkPi (g := F0 m pc arr (As.reverse ++ .ref b :: st)) rfl (argsL := As) (rest := st) hsig rfl (by rw [C.hb]; exact hd)
  obtain ⟨t, hgo, hB⟩ := go_back (M' := M') (av := .ref b :: As) (f := F0 m pc arr st) C hc X₁ hP hD hS rfl (hl.1.trans C.hml.symm) (by rw [C.hb]; exact hd) (by show 2 * 0 + (st.map fun v => v.category).sum ≤ 8; omega) hnamed hpl hcd h13 hav (by omega) (by omega)
  obtain ⟨T', locs', es', X', hP', hD', hS', ⟨v, rfl, hpsi⟩ | ⟨a, E, rfl, hx, hpsi⟩⟩ := hB
  · obtain ⟨t', z1, z2⟩ := k v es' hpsi p l e R s m args below meth c A tc ts C h1 h2 T'.heap locs' _ _ arr hP' hD' hS' hl (by omega) (by omega) T' rfl X'
    exact ⟨t', hstep₁ _ (fun acts => (hgo acts).trans z1), z2⟩
  · obtain ⟨hpc, hit, hrow, hk⟩ := kt E es' hpsi
    obtain ⟨vm', X2, st2⟩ := gCaught (f := F0 m pc arr st) C X' rfl hx hit hrow
    obtain ⟨t', z1, z2⟩ := hk a p l e R s m args below meth c A tc ts C h1 h2 T'.heap locs' _ _ arr hP' hD' hS' hl (by omega) (by omega) (T'.setVm vm') rfl X2
    exact ⟨t', hstep₁ _ (fun acts => (hgo acts).trans (st2 _ z1)), z2⟩
/-- a static call of a method with handlers -/
theorem go_callSW {M' : gM} {mc' ms' mc'' ms'' : Nat} {As stk : List Value} {Psi : gR → va_W → Prop} {index : Nat} (hst : stk = As.reverse ++ st)
    (hlk : gH (.methodLink M.1.cls index M'.1)) (hsta : gH (.static M'.1)) (hini : gH (.initialized M'.1.cls)) (hco : gH (.codeWith M'.1 M'.2.1 M'.2.2.1 M'.2.2.2.1 M'.2.2.2.2)) (h00 : M.2.2.2.2 = [])
    (hy : M'.1.cls ≠ "java/lang/invoke/MethodHandle" ∧ M'.1.cls ≠ "java/lang/invoke/VarHandle") (hpl : plainName M'.1.cls = true) (hlen : (parseMethodDescriptor M'.1.desc).map (fun d => d.parameters.length) = some As.length)
    (h13 : M'.2.2.1 ≤ 13) (hav : (lg_sl As).length ≤ M'.2.2.1) (h8 : (st.map fun v => v.category).sum ≤ 8) (hmc : mc' + mc'' ≤ mc) (hms : ms' + ms'' ≤ ms)
    (hd : decode M.2.1 pc = .ok (.invokestatic index, 3)) (hc : Go g M' n mc' ms' 0 (lv_args 0 As) [] es Psi)
    (k : ∀ (v : Option Value) (es' : va_W), Psi (.inl v) es' → Go g M (n + 1) mc'' ms'' (pc + 3) ls (v.toList ++ st) es' Phi) (kt : ∀ (E : String) (es' : va_W), Psi (.inr E) es' → Phi (.inr E) es') : Go g M (n + 1) mc ms pc ls stk es Phi := by
  intro p l e R s m args below meth c A tc ts C h1 h2 H locs cells slots arr hP hD hS hl h3 h4 T hT X
  subst hst; subst hT
  have d2 := C.hts
  obtain ⟨mk, meth0, c0, hnamed, -⟩ := Cond.codeWith_spec (d2 _ hco.1 hco.2)
  have hcd := gCode_w hnamed (d2 _ hco.1 hco.2)
  obtain ⟨methM, ck, hmethM, -, -, -, -, -, -, k8⟩ := id hcd
  have hstatic : methM.isStatic = true := Cond.static_spec hnamed hmethM (d2 _ hsta.1 hsta.2)
  obtain ⟨kP, hkP, -⟩ := className_of_methodNamed hnamed
  have hinitP : kP.init = .initialized := Cond.initialized_spec (findClass_of_methodNamed hnamed) hkP (d2 _ hini.1 hini.2)
  have hsig : As.length = methM.sig.parameters.length := by
    rw [k8] at hlen
    exact (Option.some.inj hlen).symm
  obtain ⟨vm₁, X₁, hstep₁⟩ := X.invokestatic C.hx C.hown (d2 _ hlk.1 hlk.2) hnamed hmethM hstatic hkP hinitP hy (g := F0 m pc arr (As.reverse ++ st)) rfl (argsL := As) (rest := st) hsig rfl (by rw [C.hb]; exact hd)
  obtain ⟨t, hgo, hB⟩ := go_back (M' := M') (av := As) (f := F0 m pc arr st) C hc X₁ hP hD hS rfl (hl.1.trans C.hml.symm) (by rw [C.hb]; exact hd) (by show 2 * 0 + (st.map fun v => v.category).sum ≤ 8; omega) hnamed hpl hcd h13 hav (by omega) (by omega)
  obtain ⟨t', q1', q2'⟩ := go_on (mc'' := mc'') (ms'' := ms'') C h1 h2 hl (by omega) (by omega) h00 k kt hB
  exact ⟨t', hstep₁ _ (fun acts => (hgo acts).trans q1'), q2'⟩
/-- a constructor -/
theorem go_callI {M' : gM} {mc' ms' mc'' ms'' : Nat} {As stk : List Value} {Psi : gR → va_W → Prop} {index b : Nat} (hst : stk = As.reverse ++ .ref b :: st)
    (hlk : gH (.methodLink M.1.cls index M'.1)) (hin : gH (.instanceMethod M'.1)) (hco : gH (.code M'.1 M'.2.1 M'.2.2.1 none)) (hr0 : M'.2.2.2.1 = none) (hy1 : M'.1.name = "<init>") (h0 : M'.2.2.2.2 = []) (h00 : M.2.2.2.2 = [])
    (hy : M'.1.cls ≠ "java/lang/invoke/MethodHandle" ∧ M'.1.cls ≠ "java/lang/invoke/VarHandle") (hpl : plainName M'.1.cls = true) (hlen : (parseMethodDescriptor M'.1.desc).map (fun d => d.parameters.length) = some As.length)
    (h13 : M'.2.2.1 ≤ 13) (hav : (lg_sl (.ref b :: As)).length ≤ M'.2.2.1) (h8 : (st.map fun v => v.category).sum ≤ 8) (hmc : mc' + mc'' ≤ mc) (hms : ms' + ms'' ≤ ms)
    (hd : decode M.2.1 pc = .ok (.invokespecial index, 3)) (hc : Go g M' n mc' ms' 0 (lv_args 0 (.ref b :: As)) [] es Psi)
    (k : ∀ (v : Option Value) (es' : va_W), Psi (.inl v) es' → Go g M (n + 1) mc'' ms'' (pc + 3) ls (v.toList ++ st) es' Phi) (kt : ∀ (E : String) (es' : va_W), Psi (.inr E) es' → Phi (.inr E) es') : Go g M (n + 1) mc ms pc ls stk es Phi := by
  intro p l e R s m args below meth c A tc ts C h1 h2 H locs cells slots arr hP hD hS hl h3 h4 T hT X
  subst hst; subst hT
  have d2 := C.hts
  have hpl0 : e.platform.magicAccessors = ({} : Platform).magicAccessors := by rw [X.admits.platform]
  have hlen' : ∀ sig, parseMethodDescriptor M'.1.desc = some sig → As.length = sig.parameters.length := by
    intro sig h
    rw [h] at hlen
    exact (Option.some.inj hlen).symm
  have X0 := X
  obtain ⟨g9, hfr9⟩ := X.frames_eq
  obtain ⟨mk, methM, cM, kP, vm₁, hnamed, hmethM, hcodeM, -, hlocalsM, -, hkP, -, hW₁, hstep₁⟩ := Steps.initColdArgs (e := e) (f := F0 m pc arr (As.reverse ++ .ref b :: st)) X.here C.hx X.warmed hpl0 C.hown hy1 hy (d2 _ hlk.1 hlk.2) (d2 _ hin.1 hin.2) (d2 _ hco.1 hco.2) rfl hlen' rfl (by rw [C.hb]; exact hd)
  have hcd := gCode_c hnamed (by rw [hr0]; exact d2 _ hco.1 hco.2) h0
  have X₁ := X.noted hW₁
  obtain ⟨t, hgo, hB⟩ := go_back (M' := M') (av := .ref b :: As) (f := F0 m pc arr st) C hc X₁ hP hD hS rfl (hl.1.trans C.hml.symm) (by rw [C.hb]; exact hd) (by show 2 * 0 + (st.map fun v => v.category).sum ≤ 8; omega) hnamed hpl hcd h13 hav (by omega) (by omega)
  obtain ⟨t', q1', q2'⟩ := go_on (mc'' := mc'') (ms'' := ms'') C h1 h2 hl (by omega) (by omega) h00 k kt hB
  exact ⟨t', hstep₁ _ (fun acts => (hgo acts).trans q1'), q2'⟩
/-- Object's own constructor -/
theorem go_obj {idx a : Nat} (hlk : gH (.methodLink M.1.cls idx Lib.objectInit)) (hin : gH (.instanceMethod Lib.objectInit)) (hco : gH (.code Lib.objectInit ⟨#[0xb1]⟩ 1 none)) (h8 : (st.map fun v => v.category).sum ≤ 8) (hd : decode M.2.1 pc = .ok (.invokespecial idx, 3)) (k : Go g M n mc ms (pc + 3) ls st es Phi) : Go g M n mc ms pc ls (.ref a :: st) es Phi := by
  intro p l e R s m args below meth c A tc ts C h1 h2 H locs cells slots arr hP hD hS hl h3 h4
  refine W.objInit C.hx C.hb C.hown (C.hts _ hlk.1 hlk.2) (C.hts _ hin.1 hin.2) (C.hts _ hco.1 hco.2) rfl (hl.1.trans C.hml.symm) rfl hd (by have := C.hfr; omega) (by have := C.hlo; show 2 * 0 + (st.map fun v => v.category).sum + 12 ≤ R.locals; omega) ?_
  exact k p l e R s m args below meth c A tc ts C h1 h2 H locs cells slots arr hP hD hS hl h3 h4
theorem gRA {U : State} {a b : ClassId} {ty : FieldType} (h1 : va_RA U a ty) (h2 : va_RA U b ty) : a = b := by
  cases ty with
  | object C =>
    obtain ⟨_, _, _, _, _, q1⟩ := h1
    obtain ⟨_, _, _, _, _, q2⟩ := h2
    exact Option.some.inj (q1.symm.trans q2)
  | _ => exact Option.some.inj ((show U.vm.findClass _ = some a from h1).symm.trans (show U.vm.findClass _ = some b from h2))
/-- a new array of a small type -/
theorem go_newa {mc' ms' : Nat} {atype : ArrayType} {ty : FieldType} {cA : ClassId} {z : Int32} {N : Nat} (a0 : vp_A) (t0 : Nat) (ht : g.2.1[t0]? = some (cA, ty)) (hty : newarray.typeOf atype = ty) (harr : gH (.arrayClass (newarray.typeOf atype))) (ha : ∀ cA : ClassId, vp_cell cA a0 = arrV cA N (fun _ => defaultValue ty))
    (hn : ¬ z < 0) (hN : z.toNatClampNeg = N) (hby : N * componentBytes ty ≤ 536870912) (hmc : mc' + 1 ≤ mc) (hms : ms' + N ≤ ms) (hd : decode M.2.1 pc = .ok (.newarray atype, 2))
    (k : ∀ q : Nat, Go g M n mc' ms' (pc + 2) ls (.ref q :: st) (es ++ [(q, .inl (cA, a0))]) Phi) : Go g M n mc ms pc ls (.int z :: st) es Phi := by
  intro p l e R s m args below meth c A tc ts C h1 h2 H locs cells slots arr hP hD hS hl h3 h4
  refine va_newa C.hx C.hb (C.hts _ harr.1 harr.2) hty C.hk hP hD hS C.hA ha hn hN hby (by omega) (by omega) hd (fun q cA' H1 hK1 hP1 hD1 hS1 => ?_)
  have e1 : cA' = cA := by
    have y1 := (C.hk.2 t0 _ ht).2
    have y2 := (hK1.2 g.2.1.length (cA', ty) (by simp)).2
    exact gRA y2 y1
  subst e1
  exact k q p l e R s m args below meth c A tc ts C h1 h2 H1 locs (cells + 1) (slots + N) arr hP1 hD1 hS1 hl (by omega) (by omega)
/-- a new object -/
theorem go_new {mc' ms' : Nat} {Cl : String} {T : u_T} {N ci index : Nat} (fs : List Value) (hw : ∀ w ∈ u_ws Cl T N, w ∈ lw_tbl ∧ gGood w = true) (ty : Nat → FieldType) (hty : ∀ k, k < N → parseFieldDescriptor (T k).2.2.1 = some (ty k)) (hcl : gH (.classLink M.1.cls index Cl)) (hit : gH (.instantiable Cl N)) (hini : gH (.initialized Cl))
    (hc : vwCl[ci]? = some (Cl, T, N)) (hfs : ∀ j, j < N → defaultValue (ty j) = vp_V fs j) (hmc : mc' + 1 ≤ mc) (hms : ms' + N ≤ ms) (hd : decode M.2.1 pc = .ok (.new index, 3))
    (k : ∀ q : Nat, Go g M n mc' ms' (pc + 3) ls (.ref q :: st) (es ++ [(q, .inr (ci, fs))]) Phi) : Go g M n mc ms pc ls st es Phi := by
  intro p l e R s m args below meth c A tc ts C h1 h2 H locs cells slots arr hP hD hS hl h3 h4
  refine va_new C.hx C.hb (gw C.hts hw) (fun _ h => h) ty hty C.hown (C.hts _ hcl.1 hcl.2) (C.hts _ hit.1 hit.2) (C.hts _ hini.1 hini.2) C.hk hP hD hS C.hA hc hfs (by omega) (by omega) hd (fun q H1 hP1 hD1 hS1 => ?_)
  exact k q p l e R s m args below meth c A tc ts C h1 h2 H1 locs (cells + 1) (slots + N) arr hP1 hD1 hS1 hl (by omega) (by omega)
theorem go_max {x y : Int32} {index : Nat} (hlk : gH (.methodLink M.1.cls index Lib.Math.max.name)) (hsta : gH (.static Lib.Math.max.name)) (hini : gH (.initialized "java/lang/Math")) (hco : gH (.code Lib.Math.max.name Lib.Math.max.code 2 (some .int))) (h8 : (st.map fun v => v.category).sum ≤ 8) (hd : decode M.2.1 pc = .ok (.invokestatic index, 3)) (k : Go g M n mc ms (pc + 3) ls (.int (if x < y then y else x) :: st) es Phi) : Go g M n mc ms pc ls (.int y :: .int x :: st) es Phi := by
  intro p l e R s m args below meth c A tc ts C h1 h2 H locs cells slots arr hP hD hS hl h3 h4
  exact va_mmax C.hx C.hb (C.hml.trans hl.1.symm) C.hown (C.hts _ hlk.1 hlk.2) (C.hts _ hsta.1 hsta.2) (C.hts _ hini.1 hini.2) (C.hts _ hco.1 hco.2) (by have := C.hfr; omega) (by have := C.hlo; omega) (by omega) (by omega) hd (k p l e R s m args below meth c A tc ts C h1 h2 H locs cells slots arr hP hD hS hl h3 h4)
theorem go_min {x y : Int32} {index : Nat} (hlk : gH (.methodLink M.1.cls index Lib.Math.min.name)) (hsta : gH (.static Lib.Math.min.name)) (hini : gH (.initialized "java/lang/Math")) (hco : gH (.code Lib.Math.min.name Lib.Math.min.code 2 (some .int))) (h8 : (st.map fun v => v.category).sum ≤ 8) (hd : decode M.2.1 pc = .ok (.invokestatic index, 3)) (k : Go g M n mc ms (pc + 3) ls (.int (if y < x then y else x) :: st) es Phi) : Go g M n mc ms pc ls (.int y :: .int x :: st) es Phi := by
  intro p l e R s m args below meth c A tc ts C h1 h2 H locs cells slots arr hP hD hS hl h3 h4
  exact va_mmin C.hx C.hb (C.hml.trans hl.1.symm) C.hown (C.hts _ hlk.1 hlk.2) (C.hts _ hsta.1 hsta.2) (C.hts _ hini.1 hini.2) (C.hts _ hco.1 hco.2) (by have := C.hfr; omega) (by have := C.hlo; omega) (by omega) (by omega) hd (k p l e R s m args below meth c A tc ts C h1 h2 H locs cells slots arr hP hD hS hl h3 h4)
theorem go_copyi {es' : va_W} {a0 a : Nat} {c0 c1 : ClassId} {n0 n1 : Nat} {f f' : Nat → Int32} {ty : FieldType} {sp dp z : Int32} {index : Nat} (hlk : gH (.methodLink M.1.cls index arraycopyName)) (hna : gH (.native arraycopyName)) (hsta : gH (.static arraycopyName)) (hini : gH (.initialized "java/lang/System"))
    (q0 q1 t0 t1 : Nat) (ha0 : es[q0]? = some (a0, .inl (c0, n0, .inl f))) (ha1 : es[q1]? = some (a, .inl (c1, n1, .inl f'))) (ht0 : g.2.1[t0]? = some (c0, ty)) (ht1 : g.2.1[t1]? = some (c1, ty)) (hprim : refKind ty = false)
    (h1 : ¬ sp < 0) (h2 : ¬ dp < 0) (h3 : ¬ z < 0) (h4 : sp.toNatClampNeg + z.toNatClampNeg ≤ n0) (h5 : dp.toNatClampNeg + z.toNatClampNeg ≤ n1) (hfit : ∀ i, i < z.toNatClampNeg → fits ty (.int (f (sp.toNatClampNeg + i))) = true)
    (h8 : (st.map fun v => v.category).sum ≤ 8) (hd : decode M.2.1 pc = .ok (.invokestatic index, 3)) (he : es.set q1 (a, .inl (c1, n1, .inl (va_cpy f f' sp.toNatClampNeg dp.toNatClampNeg z.toNatClampNeg))) = es') (k : Go g M n mc ms (pc + 3) ls st es' Phi) : Go g M n mc ms pc ls (.int z :: .int dp :: .ref a :: .int sp :: .ref a0 :: st) es Phi := by
  intro p l e R s m args below meth c A tc ts C y1 y2 H locs cells slots arr hP hD hS hl y3 y4
  subst he
  have hw : nativeFrameWords "java/lang/System" "arraycopy" 5 + 11 ≤ 150 := by decide +kernel
  exact va_copyi C.hx C.hb (C.hml.trans hl.1.symm) C.hown (C.hts _ hlk.1 hlk.2) (C.hts _ hna.1 hna.2) (C.hts _ hsta.1 hsta.2) (C.hts _ hini.1 hini.2) C.hk hP hD hS q0 q1 t0 t1 ha0 ha1 ht0 ht1 hprim h1 h2 h3 h4 h5 hfit (by have := C.hfr; omega) (by have := C.hlo; omega) hd (fun H1 locs1 hP1 hD1 hS1 => k p l e R s m args below meth c A tc ts C y1 y2 H1 locs1 cells slots arr hP1 hD1 hS1 hl y3 y4)
end GU
theorem at0X_131 : (gOwn "FrameSharer" 131 "java/util/NoSuchElementException" "java/lang/RuntimeException" 13 prog_13_method_4_code ["java/lang/Exception"]).all (fun w => decide (w ∈ gTh) || (decide (w ∈ lw_tbl) && gGood w)) = true := by decide +kernel
theorem atX_131 : gExc "FrameSharer" 131 "java/util/NoSuchElementException" := ⟨"java/lang/RuntimeException", 13, prog_13_method_4_code, ["java/lang/Exception"], by decide +kernel, by decide +kernel, by decide +kernel, by decide, by decide +kernel, by decide +kernel, by decide +kernel, by decide +kernel, gAt at0X_131⟩
theorem at0X_138 : (gOwn "FrameSharer" 138 "java/lang/IndexOutOfBoundsException" "java/lang/RuntimeException" 7 prog_6_method_2_code ["java/lang/Exception"]).all (fun w => decide (w ∈ gTh) || (decide (w ∈ lw_tbl) && gGood w)) = true := by decide +kernel
theorem atX_138 : gExc "FrameSharer" 138 "java/lang/IndexOutOfBoundsException" := ⟨"java/lang/RuntimeException", 7, prog_6_method_2_code, ["java/lang/Exception"], by decide +kernel, by decide +kernel, by decide +kernel, by decide, by decide +kernel, by decide +kernel, by decide +kernel, by decide +kernel, gAt at0X_138⟩
theorem at0X_149 : (gOwn "FrameSharer" 149 "java/lang/IllegalStateException" "java/lang/RuntimeException" 7 prog_5_method_2_code ["java/lang/Exception"]).all (fun w => decide (w ∈ gTh) || (decide (w ∈ lw_tbl) && gGood w)) = true := by decide +kernel
theorem atX_149 : gExc "FrameSharer" 149 "java/lang/IllegalStateException" := ⟨"java/lang/RuntimeException", 7, prog_5_method_2_code, ["java/lang/Exception"], by decide +kernel, by decide +kernel, by decide +kernel, by decide, by decide +kernel, by decide +kernel, by decide +kernel, by decide +kernel, gAt at0X_149⟩
end
section
section GD
variable {g : gG} {M M' : gM} {n mc ms pc : Nat} {ls : List (Nat × Value)} {st : List Value} {es es' : va_W} {Phi : gR → va_W → Prop} {av As stk : List Value} {v : Option Value} {E : String}
/-- the method, called with av in the world es, returns v, and the world is es' -/
def Ret (g : gG) (M : gM) (n mc ms : Nat) (av : List Value) (es : va_W) (v : Option Value) (es' : va_W) : Prop := ∀ Psi : gR → va_W → Prop, Psi (.inl v) es' → Go g M n mc ms 0 (lv_args 0 av) [] es Psi
/-- it throws an E, and the world is as it was -/
def Thr (g : gG) (M : gM) (n mc ms : Nat) (av : List Value) (es : va_W) (E : String) : Prop := ∀ Psi : gR → va_W → Prop, Psi (.inr E) es → Go g M n mc ms 0 (lv_args 0 av) [] es Psi
def gOkV (M : gM) (k : Nat) : Prop := gH (.instanceMethod M.1) ∧ gH (.selects M.1.cls M.1 M.1) ∧ gH (.code M.1 M.2.1 M.2.2.1 M.2.2.2.1) ∧ M.2.2.2.2 = [] ∧ (M.1.cls ≠ "java/lang/invoke/MethodHandle" ∧ M.1.cls ≠ "java/lang/invoke/VarHandle") ∧ plainName M.1.cls = true ∧ (parseMethodDescriptor M.1.desc).map (fun d => d.parameters.length) = some k ∧ M.2.2.1 ≤ 13
def gOkS (M : gM) (k : Nat) : Prop := gH (.static M.1) ∧ gH (.initialized M.1.cls) ∧ gH (.code M.1 M.2.1 M.2.2.1 M.2.2.2.1) ∧ M.2.2.2.2 = [] ∧ (M.1.cls ≠ "java/lang/invoke/MethodHandle" ∧ M.1.cls ≠ "java/lang/invoke/VarHandle") ∧ plainName M.1.cls = true ∧ (parseMethodDescriptor M.1.desc).map (fun d => d.parameters.length) = some k ∧ M.2.2.1 ≤ 13
def gOkW (M : gM) (k : Nat) : Prop := gH (.static M.1) ∧ gH (.initialized M.1.cls) ∧ gH (.codeWith M.1 M.2.1 M.2.2.1 M.2.2.2.1 M.2.2.2.2) ∧ (M.1.cls ≠ "java/lang/invoke/MethodHandle" ∧ M.1.cls ≠ "java/lang/invoke/VarHandle") ∧ plainName M.1.cls = true ∧ (parseMethodDescriptor M.1.desc).map (fun d => d.parameters.length) = some k ∧ M.2.2.1 ≤ 13
theorem go_rV {x : Value} {index b ci : Nat} {fs : List Value} {vc : vw_C} (q0 : Nat) (hc : Ret g M' n 0 0 (.ref b :: As) es (some x) es') (ok : gOkV M' As.length) (hlk : gH (.methodLink M.1.cls index M'.1)) (hd : decode M.2.1 pc = .ok (.invokevirtual index, 3)) (hst : stk = As.reverse ++ .ref b :: st) (he : es[q0]? = some (b, .inr (ci, fs))) (hvc : vwCl[ci]? = some vc) (hcl : vc.1 = M'.1.cls)
    (h00 : M.2.2.2.2 = []) (hav : (lg_sl (.ref b :: As)).length ≤ M'.2.2.1) (h8 : (st.map fun v => v.category).sum ≤ 8) (k : Go g M (n + 1) mc ms (pc + 3) ls (x :: st) es' Phi) : Go g M (n + 1) mc ms pc ls stk es Phi := by
  obtain ⟨o1, o2, o3, o4, o5, o6, o7, o8⟩ := ok
  refine go_callV (mc' := 0) (ms' := 0) (mc'' := mc) (ms'' := ms) (Psi := fun r w => r = .inl (some x) ∧ w = es') q0 hst he hvc hcl hlk o1 o2 o3 o4 h00 o5 o6 o7 o8 hav h8 (by omega) (by omega) hd (hc _ ⟨rfl, rfl⟩) ?_ ?_
  · rintro v' w ⟨h1, h2⟩
    cases h1
    subst h2
    exact k
  · rintro E w ⟨h1, -⟩
    cases h1
theorem go_rV0 {index b ci : Nat} {fs : List Value} {vc : vw_C} (q0 : Nat) (hc : Ret g M' n 0 0 (.ref b :: As) es none es') (ok : gOkV M' As.length) (hlk : gH (.methodLink M.1.cls index M'.1)) (hd : decode M.2.1 pc = .ok (.invokevirtual index, 3)) (hst : stk = As.reverse ++ .ref b :: st) (he : es[q0]? = some (b, .inr (ci, fs))) (hvc : vwCl[ci]? = some vc) (hcl : vc.1 = M'.1.cls)
    (h00 : M.2.2.2.2 = []) (hav : (lg_sl (.ref b :: As)).length ≤ M'.2.2.1) (h8 : (st.map fun v => v.category).sum ≤ 8) (k : Go g M (n + 1) mc ms (pc + 3) ls st es' Phi) : Go g M (n + 1) mc ms pc ls stk es Phi := by
  obtain ⟨o1, o2, o3, o4, o5, o6, o7, o8⟩ := ok
  refine go_callV (mc' := 0) (ms' := 0) (mc'' := mc) (ms'' := ms) (Psi := fun r w => r = .inl none ∧ w = es') q0 hst he hvc hcl hlk o1 o2 o3 o4 h00 o5 o6 o7 o8 hav h8 (by omega) (by omega) hd (hc _ ⟨rfl, rfl⟩) ?_ ?_
  · rintro v' w ⟨h1, h2⟩
    cases h1
    subst h2
    exact k
  · rintro E w ⟨h1, -⟩
    cases h1
theorem go_tV {index b ci : Nat} {fs : List Value} {vc : vw_C} (q0 : Nat) (hc : Thr g M' n 1 6 (.ref b :: As) es E) (ok : gOkV M' As.length) (hlk : gH (.methodLink M.1.cls index M'.1)) (hd : decode M.2.1 pc = .ok (.invokevirtual index, 3)) (hst : stk = As.reverse ++ .ref b :: st) (he : es[q0]? = some (b, .inr (ci, fs))) (hvc : vwCl[ci]? = some vc) (hcl : vc.1 = M'.1.cls)
    (h00 : M.2.2.2.2 = []) (hav : (lg_sl (.ref b :: As)).length ≤ M'.2.2.1) (h8 : (st.map fun v => v.category).sum ≤ 8) (hmc : 1 ≤ mc) (hms : 6 ≤ ms) (k : Phi (.inr E) es) : Go g M (n + 1) mc ms pc ls stk es Phi := by
  obtain ⟨o1, o2, o3, o4, o5, o6, o7, o8⟩ := ok
  refine go_callV (mc' := 1) (ms' := 6) (mc'' := 0) (ms'' := 0) (Psi := fun r w => r = .inr E ∧ w = es) q0 hst he hvc hcl hlk o1 o2 o3 o4 h00 o5 o6 o7 o8 hav h8 (by omega) (by omega) hd (hc _ ⟨rfl, rfl⟩) ?_ ?_
  · rintro v' w ⟨h1, h2⟩
    cases h1
  · rintro E' w ⟨h1, h2⟩
    cases h1
    subst h2
    exact k
theorem go_rS {x : Value} {index : Nat} (hc : Ret g M' n 0 0 As es (some x) es') (ok : gOkS M' As.length) (hlk : gH (.methodLink M.1.cls index M'.1)) (hd : decode M.2.1 pc = .ok (.invokestatic index, 3)) (hst : stk = As.reverse ++ st)
    (h00 : M.2.2.2.2 = []) (hav : (lg_sl As).length ≤ M'.2.2.1) (h8 : (st.map fun v => v.category).sum ≤ 8) (k : Go g M (n + 1) mc ms (pc + 3) ls (x :: st) es' Phi) : Go g M (n + 1) mc ms pc ls stk es Phi := by
  obtain ⟨o1, o2, o3, o4, o5, o6, o7, o8⟩ := ok
  refine go_callS (mc' := 0) (ms' := 0) (mc'' := mc) (ms'' := ms) (Psi := fun r w => r = .inl (some x) ∧ w = es') hst hlk o1 o2 o3 o4 h00 o5 o6 o7 o8 hav h8 (by omega) (by omega) hd (hc _ ⟨rfl, rfl⟩) ?_ ?_
  · rintro v' w ⟨h1, h2⟩
    cases h1
    subst h2
    exact k
  · rintro E w ⟨h1, -⟩
    cases h1
theorem go_rS0 {index : Nat} (hc : Ret g M' n 0 0 As es none es') (ok : gOkS M' As.length) (hlk : gH (.methodLink M.1.cls index M'.1)) (hd : decode M.2.1 pc = .ok (.invokestatic index, 3)) (hst : stk = As.reverse ++ st)
    (h00 : M.2.2.2.2 = []) (hav : (lg_sl As).length ≤ M'.2.2.1) (h8 : (st.map fun v => v.category).sum ≤ 8) (k : Go g M (n + 1) mc ms (pc + 3) ls st es' Phi) : Go g M (n + 1) mc ms pc ls stk es Phi := by
  obtain ⟨o1, o2, o3, o4, o5, o6, o7, o8⟩ := ok
  refine go_callS (mc' := 0) (ms' := 0) (mc'' := mc) (ms'' := ms) (Psi := fun r w => r = .inl none ∧ w = es') hst hlk o1 o2 o3 o4 h00 o5 o6 o7 o8 hav h8 (by omega) (by omega) hd (hc _ ⟨rfl, rfl⟩) ?_ ?_
  · rintro v' w ⟨h1, h2⟩
    cases h1
    subst h2
    exact k
  · rintro E w ⟨h1, -⟩
    cases h1
/-- a static call of a method with handlers, which returns v after at most mc' new cells of ms' slots -/
theorem go_rW {x : Value} {index mc' ms' mc'' ms'' : Nat} (hc : Ret g M' n mc' ms' As es (some x) es') (ok : gOkW M' As.length) (hlk : gH (.methodLink M.1.cls index M'.1)) (hd : decode M.2.1 pc = .ok (.invokestatic index, 3)) (hst : stk = As.reverse ++ st)
    (h00 : M.2.2.2.2 = []) (hav : (lg_sl As).length ≤ M'.2.2.1) (h8 : (st.map fun v => v.category).sum ≤ 8) (hmc : mc' + mc'' ≤ mc) (hms : ms' + ms'' ≤ ms) (k : Go g M (n + 1) mc'' ms'' (pc + 3) ls (x :: st) es' Phi) : Go g M (n + 1) mc ms pc ls stk es Phi := by
  obtain ⟨o1, o2, o3, o5, o6, o7, o8⟩ := ok
  refine go_callSW (mc' := mc') (ms' := ms') (mc'' := mc'') (ms'' := ms'') (Psi := fun r w => r = .inl (some x) ∧ w = es') hst hlk o1 o2 o3 h00 o5 o6 o7 o8 hav h8 hmc hms hd (hc _ ⟨rfl, rfl⟩) ?_ ?_
  · rintro v' w ⟨h1, h2⟩
    cases h1
    subst h2
    exact k
  · rintro E w ⟨h1, -⟩
    cases h1
theorem go_rW0 {index mc' ms' mc'' ms'' : Nat} (hc : Ret g M' n mc' ms' As es none es') (ok : gOkW M' As.length) (hlk : gH (.methodLink M.1.cls index M'.1)) (hd : decode M.2.1 pc = .ok (.invokestatic index, 3)) (hst : stk = As.reverse ++ st)
    (h00 : M.2.2.2.2 = []) (hav : (lg_sl As).length ≤ M'.2.2.1) (h8 : (st.map fun v => v.category).sum ≤ 8) (hmc : mc' + mc'' ≤ mc) (hms : ms' + ms'' ≤ ms) (k : Go g M (n + 1) mc'' ms'' (pc + 3) ls st es' Phi) : Go g M (n + 1) mc ms pc ls stk es Phi := by
  obtain ⟨o1, o2, o3, o5, o6, o7, o8⟩ := ok
  refine go_callSW (mc' := mc') (ms' := ms') (mc'' := mc'') (ms'' := ms'') (Psi := fun r w => r = .inl none ∧ w = es') hst hlk o1 o2 o3 h00 o5 o6 o7 o8 hav h8 hmc hms hd (hc _ ⟨rfl, rfl⟩) ?_ ?_
  · rintro v' w ⟨h1, h2⟩
    cases h1
    subst h2
    exact k
  · rintro E w ⟨h1, -⟩
    cases h1
theorem go_rVX {x : Value} {index b ci : Nat} {fs : List Value} {vc : vw_C} (q0 : Nat) (hc : Ret g M' n 0 0 (.ref b :: As) es (some x) es') (ok : gOkV M' As.length) (hlk : gH (.methodLink M.1.cls index M'.1)) (hd : decode M.2.1 pc = .ok (.invokevirtual index, 3)) (hst : stk = As.reverse ++ .ref b :: st) (he : es[q0]? = some (b, .inr (ci, fs))) (hvc : vwCl[ci]? = some vc) (hcl : vc.1 = M'.1.cls)
    (hav : (lg_sl (.ref b :: As)).length ≤ M'.2.2.1) (h8 : (st.map fun v => v.category).sum ≤ 8) (k : Go g M (n + 1) mc ms (pc + 3) ls (x :: st) es' Phi) : Go g M (n + 1) mc ms pc ls stk es Phi := by
  obtain ⟨o1, o2, o3, o4, o5, o6, o7, o8⟩ := ok
  refine go_callVX (mc' := 0) (ms' := 0) (mc'' := mc) (ms'' := ms) (Psi := fun r w => r = .inl (some x) ∧ w = es') q0 hst he hvc hcl hlk o1 o2 o3 o4 o5 o6 o7 o8 hav h8 (by omega) (by omega) hd (hc _ ⟨rfl, rfl⟩) ?_ ?_
  · rintro v' w ⟨h1, h2⟩
    cases h1
    subst h2
    exact k
  · rintro E w ⟨h1, -⟩
    cases h1
theorem go_rVX0 {index b ci : Nat} {fs : List Value} {vc : vw_C} (q0 : Nat) (hc : Ret g M' n 0 0 (.ref b :: As) es none es') (ok : gOkV M' As.length) (hlk : gH (.methodLink M.1.cls index M'.1)) (hd : decode M.2.1 pc = .ok (.invokevirtual index, 3)) (hst : stk = As.reverse ++ .ref b :: st) (he : es[q0]? = some (b, .inr (ci, fs))) (hvc : vwCl[ci]? = some vc) (hcl : vc.1 = M'.1.cls)
    (hav : (lg_sl (.ref b :: As)).length ≤ M'.2.2.1) (h8 : (st.map fun v => v.category).sum ≤ 8) (k : Go g M (n + 1) mc ms (pc + 3) ls st es' Phi) : Go g M (n + 1) mc ms pc ls stk es Phi := by
  obtain ⟨o1, o2, o3, o4, o5, o6, o7, o8⟩ := ok
  refine go_callVX (mc' := 0) (ms' := 0) (mc'' := mc) (ms'' := ms) (Psi := fun r w => r = .inl none ∧ w = es') q0 hst he hvc hcl hlk o1 o2 o3 o4 o5 o6 o7 o8 hav h8 (by omega) (by omega) hd (hc _ ⟨rfl, rfl⟩) ?_ ?_
  · rintro v' w ⟨h1, h2⟩
    cases h1
    subst h2
    exact k
  · rintro E w ⟨h1, -⟩
    cases h1
theorem go_tVX {index b ci : Nat} {fs : List Value} {vc : vw_C} (q0 hpc : Nat) (hc : Thr g M' n 1 6 (.ref b :: As) es E) (ok : gOkV M' As.length) (hlk : gH (.methodLink M.1.cls index M'.1)) (hd : decode M.2.1 pc = .ok (.invokevirtual index, 3)) (hit : gH (.instantiable E 6)) (hrow : gRows M.1.cls E pc hpc M.2.2.2.2) (hst : stk = As.reverse ++ .ref b :: st) (he : es[q0]? = some (b, .inr (ci, fs))) (hvc : vwCl[ci]? = some vc) (hcl : vc.1 = M'.1.cls)
    (hav : (lg_sl (.ref b :: As)).length ≤ M'.2.2.1) (h8 : (st.map fun v => v.category).sum ≤ 8) (hmc : 1 ≤ mc) (hms : 6 ≤ ms) (k : ∀ a : Nat, Go g M (n + 1) 0 0 hpc ls [.ref a] es Phi) : Go g M (n + 1) mc ms pc ls stk es Phi := by
  obtain ⟨o1, o2, o3, o4, o5, o6, o7, o8⟩ := ok
  refine go_callVX (mc' := 1) (ms' := 6) (mc'' := 0) (ms'' := 0) (Psi := fun r w => r = .inr E ∧ w = es) q0 hst he hvc hcl hlk o1 o2 o3 o4 o5 o6 o7 o8 hav h8 (by omega) (by omega) hd (hc _ ⟨rfl, rfl⟩) ?_ ?_
  · rintro v' w ⟨h1, h2⟩
    cases h1
  · rintro E' w ⟨h1, h2⟩
    cases h1
    subst h2
    exact ⟨hpc, hit, hrow, k⟩
/-- array places by a number -/
theorem go_ialdN {cA : ClassId} {len : Nat} {f : Nat → Int32} {i : Int32} {a : Nat} (q0 t0 j : Nat) (hd : decode M.2.1 pc = .ok (.iaload, 1)) (ha : es[q0]? = some (a, .inl (cA, len, .inl f))) (ht : g.2.1[t0]? = some (cA, .int)) (hi : i = nI j) (hj : j < len) (hlen : len < 2 ^ 31) (k : Go g M n mc ms (pc + 1) ls (.int (f j) :: st) es Phi) : Go g M n mc ms pc ls (.int i :: .ref a :: st) es Phi := by
  subst hi
  refine go_iald q0 t0 ha ht (vp_in_nI hj hlen) hd ?_
  rw [nI_clamp (by omega)]; exact k
theorem go_zaldN {cA : ClassId} {len : Nat} {f : Nat → Int32} {i : Int32} {a : Nat} (q0 t0 j : Nat) (hd : decode M.2.1 pc = .ok (.baload, 1)) (ha : es[q0]? = some (a, .inl (cA, len, .inl f))) (ht : g.2.1[t0]? = some (cA, .boolean)) (hi : i = nI j) (hj : j < len) (hlen : len < 2 ^ 31) (k : Go g M n mc ms (pc + 1) ls (.int (f j) :: st) es Phi) : Go g M n mc ms pc ls (.int i :: .ref a :: st) es Phi := by
  subst hi
  refine go_zald q0 t0 ha ht (vp_in_nI hj hlen) hd ?_
  rw [nI_clamp (by omega)]; exact k
theorem go_iastN {cA : ClassId} {len : Nat} {f : Nat → Int32} {i x : Int32} {a : Nat} (q0 t0 j : Nat) (hd : decode M.2.1 pc = .ok (.iastore, 1)) (ha : es[q0]? = some (a, .inl (cA, len, .inl f))) (ht : g.2.1[t0]? = some (cA, .int)) (hi : i = nI j) (hj : j < len) (hlen : len < 2 ^ 31) (he : es.set q0 (a, .inl (cA, len, .inl (upd f j x))) = es') (k : Go g M n mc ms (pc + 1) ls st es' Phi) : Go g M n mc ms pc ls (.int x :: .int i :: .ref a :: st) es Phi := by
  subst hi
  refine go_iast q0 t0 ha ht (vp_in_nI hj hlen) hd ?_ k
  rw [nI_clamp (by omega)]; exact he
theorem go_zastN {cA : ClassId} {len : Nat} {f : Nat → Int32} {i x : Int32} {a : Nat} (q0 t0 j : Nat) (hd : decode M.2.1 pc = .ok (.bastore, 1)) (ha : es[q0]? = some (a, .inl (cA, len, .inl f))) (ht : g.2.1[t0]? = some (cA, .boolean)) (hi : i = nI j) (hj : j < len) (hlen : len < 2 ^ 31) (he : es.set q0 (a, .inl (cA, len, .inl (upd f j (vp_nar .boolean x)))) = es') (k : Go g M n mc ms (pc + 1) ls st es' Phi) : Go g M n mc ms pc ls (.int x :: .int i :: .ref a :: st) es Phi := by
  subst hi
  refine go_zast q0 t0 ha ht (vp_in_nI hj hlen) hd ?_ k
  rw [nI_clamp (by omega)]; exact he
end GD
theorem okX_open : gOkV mX_open 0 := ⟨gh_86, gh_87, gh_88, rfl, ⟨by decide, by decide⟩, by decide +kernel, by decide +kernel, by decide⟩
theorem okX_leastMissingSpace : gOkV mX_leastMissingSpace 0 := ⟨gh_91, gh_0, gh_92, rfl, ⟨by decide, by decide⟩, by decide +kernel, by decide +kernel, by decide⟩
theorem okX_spaceIndex : gOkS mX_spaceIndex 2 := ⟨gh_94, gh_36, gh_95, rfl, ⟨by decide, by decide⟩, by decide +kernel, by decide +kernel, by decide⟩
theorem okX_take : gOkV mX_take 0 := ⟨gh_97, gh_98, gh_99, rfl, ⟨by decide, by decide⟩, by decide +kernel, by decide +kernel, by decide⟩
theorem okX_leastMissingPicture : gOkV mX_leastMissingPicture 0 := ⟨gh_102, gh_1, gh_103, rfl, ⟨by decide, by decide⟩, by decide +kernel, by decide +kernel, by decide⟩
theorem okX_copyRow : gOkV mX_copyRow 2 := ⟨gh_106, gh_2, gh_107, rfl, ⟨by decide, by decide⟩, by decide +kernel, by decide +kernel, by decide⟩
theorem okX_standIn : gOkV mX_standIn 2 := ⟨gh_110, gh_3, gh_111, rfl, ⟨by decide, by decide⟩, by decide +kernel, by decide +kernel, by decide⟩
theorem okX_isFrame : gOkV mX_isFrame 1 := ⟨gh_114, gh_4, gh_115, rfl, ⟨by decide, by decide⟩, by decide +kernel, by decide +kernel, by decide⟩
theorem okX_count : gOkV mX_count 1 := ⟨gh_117, gh_118, gh_119, rfl, ⟨by decide, by decide⟩, by decide +kernel, by decide +kernel, by decide⟩
theorem okX_framesInUse : gOkV mX_framesInUse 0 := ⟨gh_122, gh_5, gh_123, rfl, ⟨by decide, by decide⟩, by decide +kernel, by decide +kernel, by decide⟩
theorem okX_spacesNow : gOkV mX_spacesNow 0 := ⟨gh_126, gh_6, gh_127, rfl, ⟨by decide, by decide⟩, by decide +kernel, by decide +kernel, by decide⟩
theorem okX_picturesNow : gOkV mX_picturesNow 0 := ⟨gh_130, gh_7, gh_131, rfl, ⟨by decide, by decide⟩, by decide +kernel, by decide +kernel, by decide⟩
theorem okX_pagesNow : gOkV mX_pagesNow 0 := ⟨gh_134, gh_8, gh_135, rfl, ⟨by decide, by decide⟩, by decide +kernel, by decide +kernel, by decide⟩
theorem okX_pagesOfSpace : gOkV mX_pagesOfSpace 1 := ⟨gh_138, gh_9, gh_139, rfl, ⟨by decide, by decide⟩, by decide +kernel, by decide +kernel, by decide⟩
theorem okX_pageNow : gOkS mX_pageNow 2 := ⟨gh_141, gh_36, gh_142, rfl, ⟨by decide, by decide⟩, by decide +kernel, by decide +kernel, by decide⟩
theorem okX_isThere : gOkV mX_isThere 1 := ⟨gh_144, gh_145, gh_146, rfl, ⟨by decide, by decide⟩, by decide +kernel, by decide +kernel, by decide⟩
theorem okL_cell : gOkS mL_cell 2 := ⟨gh_148, gh_35, gh_149, rfl, ⟨by decide, by decide⟩, by decide +kernel, by decide +kernel, by decide⟩
theorem okL_fork : gOkW mL_fork 3 := ⟨gh_151, gh_35, gh_152, ⟨by decide, by decide⟩, by decide +kernel, by decide +kernel, by decide⟩
theorem okX_fork : gOkV mX_fork 1 := ⟨gh_155, gh_156, gh_157, rfl, ⟨by decide, by decide⟩, by decide +kernel, by decide +kernel, by decide⟩
theorem okX_needSpace : gOkV mX_needSpace 1 := ⟨gh_160, gh_10, gh_161, rfl, ⟨by decide, by decide⟩, by decide +kernel, by decide +kernel, by decide⟩
theorem okL_close : gOkW mL_close 3 := ⟨gh_232, gh_35, gh_233, ⟨by decide, by decide⟩, by decide +kernel, by decide +kernel, by decide⟩
theorem okX_close : gOkV mX_close 1 := ⟨gh_235, gh_236, gh_237, rfl, ⟨by decide, by decide⟩, by decide +kernel, by decide +kernel, by decide⟩
theorem okL_map : gOkW mL_map 5 := ⟨gh_239, gh_35, gh_240, ⟨by decide, by decide⟩, by decide +kernel, by decide +kernel, by decide⟩
theorem okX_map : gOkV mX_map 3 := ⟨gh_244, gh_245, gh_246, rfl, ⟨by decide, by decide⟩, by decide +kernel, by decide +kernel, by decide⟩
theorem okX_needPage : gOkV mX_needPage 1 := ⟨gh_249, gh_12, gh_250, rfl, ⟨by decide, by decide⟩, by decide +kernel, by decide +kernel, by decide⟩
theorem okX_needFreeFrame : gOkV mX_needFreeFrame 0 := ⟨gh_269, gh_13, gh_270, rfl, ⟨by decide, by decide⟩, by decide +kernel, by decide +kernel, by decide⟩
theorem okX_fillFrame : gOkV mX_fillFrame 2 := ⟨gh_289, gh_14, gh_290, rfl, ⟨by decide, by decide⟩, by decide +kernel, by decide +kernel, by decide⟩
theorem okL_unmap : gOkW mL_unmap 4 := ⟨gh_292, gh_35, gh_293, ⟨by decide, by decide⟩, by decide +kernel, by decide +kernel, by decide⟩
theorem okX_unmap : gOkV mX_unmap 2 := ⟨gh_295, gh_296, gh_297, rfl, ⟨by decide, by decide⟩, by decide +kernel, by decide +kernel, by decide⟩
theorem okL_read : gOkW mL_read 4 := ⟨gh_299, gh_35, gh_300, ⟨by decide, by decide⟩, by decide +kernel, by decide +kernel, by decide⟩
theorem okX_read : gOkV mX_read 2 := ⟨gh_302, gh_303, gh_304, rfl, ⟨by decide, by decide⟩, by decide +kernel, by decide +kernel, by decide⟩
theorem okX_needHolderAt : gOkV mX_needHolderAt 2 := ⟨gh_307, gh_15, gh_308, rfl, ⟨by decide, by decide⟩, by decide +kernel, by decide +kernel, by decide⟩
theorem okX_cellIndex : gOkS mX_cellIndex 2 := ⟨gh_312, gh_36, gh_313, rfl, ⟨by decide, by decide⟩, by decide +kernel, by decide +kernel, by decide⟩
theorem okL_write : gOkW mL_write 5 := ⟨gh_315, gh_35, gh_316, ⟨by decide, by decide⟩, by decide +kernel, by decide +kernel, by decide⟩
theorem okX_write : gOkV mX_write 3 := ⟨gh_318, gh_319, gh_320, rfl, ⟨by decide, by decide⟩, by decide +kernel, by decide +kernel, by decide⟩
theorem okX_needOwnFrame : gOkV mX_needOwnFrame 1 := ⟨gh_323, gh_16, gh_324, rfl, ⟨by decide, by decide⟩, by decide +kernel, by decide +kernel, by decide⟩
theorem okL_lend : gOkW mL_lend 6 := ⟨gh_329, gh_35, gh_330, ⟨by decide, by decide⟩, by decide +kernel, by decide +kernel, by decide⟩
theorem okX_lend : gOkV mX_lend 4 := ⟨gh_332, gh_333, gh_334, rfl, ⟨by decide, by decide⟩, by decide +kernel, by decide +kernel, by decide⟩
theorem okX_needTwoPages : gOkV mX_needTwoPages 4 := ⟨gh_337, gh_17, gh_338, rfl, ⟨by decide, by decide⟩, by decide +kernel, by decide +kernel, by decide⟩
theorem okL_join : gOkW mL_join 6 := ⟨gh_340, gh_35, gh_341, ⟨by decide, by decide⟩, by decide +kernel, by decide +kernel, by decide⟩
theorem okX_join : gOkV mX_join 4 := ⟨gh_343, gh_344, gh_345, rfl, ⟨by decide, by decide⟩, by decide +kernel, by decide +kernel, by decide⟩
theorem okX_haveSameCells : gOkV mX_haveSameCells 2 := ⟨gh_348, gh_18, gh_349, rfl, ⟨by decide, by decide⟩, by decide +kernel, by decide +kernel, by decide⟩
theorem okX_moveHolders : gOkV mX_moveHolders 2 := ⟨gh_352, gh_19, gh_353, rfl, ⟨by decide, by decide⟩, by decide +kernel, by decide +kernel, by decide⟩
theorem okL_back : gOkW mL_back 3 := ⟨gh_355, gh_35, gh_356, ⟨by decide, by decide⟩, by decide +kernel, by decide +kernel, by decide⟩
theorem okX_back : gOkV mX_back 1 := ⟨gh_358, gh_359, gh_360, rfl, ⟨by decide, by decide⟩, by decide +kernel, by decide +kernel, by decide⟩
theorem okX_needPicture : gOkV mX_needPicture 1 := ⟨gh_363, gh_20, gh_364, rfl, ⟨by decide, by decide⟩, by decide +kernel, by decide +kernel, by decide⟩
theorem okL_drop : gOkW mL_drop 3 := ⟨gh_367, gh_35, gh_368, ⟨by decide, by decide⟩, by decide +kernel, by decide +kernel, by decide⟩
theorem okX_drop : gOkV mX_drop 1 := ⟨gh_370, gh_371, gh_372, rfl, ⟨by decide, by decide⟩, by decide +kernel, by decide +kernel, by decide⟩
theorem okX_clearRow : gOkV mX_clearRow 1 := ⟨gh_375, gh_21, gh_376, rfl, ⟨by decide, by decide⟩, by decide +kernel, by decide +kernel, by decide⟩
theorem okL_holders : gOkW mL_holders 4 := ⟨gh_378, gh_35, gh_379, ⟨by decide, by decide⟩, by decide +kernel, by decide +kernel, by decide⟩
theorem okX_holders : gOkV mX_holders 2 := ⟨gh_381, gh_382, gh_383, rfl, ⟨by decide, by decide⟩, by decide +kernel, by decide +kernel, by decide⟩
theorem okL_changed : gOkW mL_changed 3 := ⟨gh_385, gh_35, gh_386, ⟨by decide, by decide⟩, by decide +kernel, by decide +kernel, by decide⟩
theorem okX_changed : gOkV mX_changed 1 := ⟨gh_388, gh_389, gh_390, rfl, ⟨by decide, by decide⟩, by decide +kernel, by decide +kernel, by decide⟩
theorem okY_thrown : gOkV mY_thrown 0 := ⟨gh_420, gh_421, gh_422, rfl, ⟨by decide, by decide⟩, by decide +kernel, by decide +kernel, by decide⟩
theorem okY_open : gOkV mY_open 0 := ⟨gh_424, gh_425, gh_426, rfl, ⟨by decide, by decide⟩, by decide +kernel, by decide +kernel, by decide⟩
theorem okY_free : gOkV mY_free 0 := ⟨gh_429, gh_22, gh_430, rfl, ⟨by decide, by decide⟩, by decide +kernel, by decide +kernel, by decide⟩
theorem okY_fork : gOkV mY_fork 1 := ⟨gh_432, gh_433, gh_434, rfl, ⟨by decide, by decide⟩, by decide +kernel, by decide +kernel, by decide⟩
theorem okY_isSpace : gOkV mY_isSpace 1 := ⟨gh_437, gh_23, gh_438, rfl, ⟨by decide, by decide⟩, by decide +kernel, by decide +kernel, by decide⟩
theorem okY_fails : gOkV mY_fails 3 := ⟨gh_441, gh_24, gh_442, rfl, ⟨by decide, by decide⟩, by decide +kernel, by decide +kernel, by decide⟩
theorem okY_page : gOkS mY_page 3 := ⟨gh_444, gh_39, gh_445, rfl, ⟨by decide, by decide⟩, by decide +kernel, by decide +kernel, by decide⟩
theorem okY_copyPage : gOkV mY_copyPage 2 := ⟨gh_448, gh_25, gh_449, rfl, ⟨by decide, by decide⟩, by decide +kernel, by decide +kernel, by decide⟩
theorem okY_close : gOkV mY_close 1 := ⟨gh_451, gh_452, gh_453, rfl, ⟨by decide, by decide⟩, by decide +kernel, by decide +kernel, by decide⟩
theorem okY_pagesOf : gOkV mY_pagesOf 1 := ⟨gh_456, gh_26, gh_457, rfl, ⟨by decide, by decide⟩, by decide +kernel, by decide +kernel, by decide⟩
theorem okY_empty : gOkV mY_empty 2 := ⟨gh_460, gh_27, gh_461, rfl, ⟨by decide, by decide⟩, by decide +kernel, by decide +kernel, by decide⟩
theorem okY_map : gOkV mY_map 3 := ⟨gh_463, gh_464, gh_465, rfl, ⟨by decide, by decide⟩, by decide +kernel, by decide +kernel, by decide⟩
theorem okY_isPage : gOkS mY_isPage 1 := ⟨gh_467, gh_39, gh_468, rfl, ⟨by decide, by decide⟩, by decide +kernel, by decide +kernel, by decide⟩
theorem okY_used : gOkV mY_used 0 := ⟨gh_471, gh_28, gh_472, rfl, ⟨by decide, by decide⟩, by decide +kernel, by decide +kernel, by decide⟩
theorem okY_unmap : gOkV mY_unmap 2 := ⟨gh_474, gh_475, gh_476, rfl, ⟨by decide, by decide⟩, by decide +kernel, by decide +kernel, by decide⟩
theorem okY_read : gOkV mY_read 2 := ⟨gh_478, gh_479, gh_480, rfl, ⟨by decide, by decide⟩, by decide +kernel, by decide +kernel, by decide⟩
theorem okY_cell : gOkV mY_cell 2 := ⟨gh_483, gh_29, gh_484, rfl, ⟨by decide, by decide⟩, by decide +kernel, by decide +kernel, by decide⟩
theorem okY_write : gOkV mY_write 3 := ⟨gh_486, gh_487, gh_488, rfl, ⟨by decide, by decide⟩, by decide +kernel, by decide +kernel, by decide⟩
theorem okY_holdersOf : gOkV mY_holdersOf 1 := ⟨gh_491, gh_30, gh_492, rfl, ⟨by decide, by decide⟩, by decide +kernel, by decide +kernel, by decide⟩
theorem okY_lend : gOkV mY_lend 4 := ⟨gh_494, gh_495, gh_496, rfl, ⟨by decide, by decide⟩, by decide +kernel, by decide +kernel, by decide⟩
theorem okY_areFaulty : gOkV mY_areFaulty 4 := ⟨gh_499, gh_31, gh_500, rfl, ⟨by decide, by decide⟩, by decide +kernel, by decide +kernel, by decide⟩
theorem okY_join : gOkV mY_join 4 := ⟨gh_502, gh_503, gh_504, rfl, ⟨by decide, by decide⟩, by decide +kernel, by decide +kernel, by decide⟩
theorem okY_take : gOkV mY_take 0 := ⟨gh_506, gh_507, gh_508, rfl, ⟨by decide, by decide⟩, by decide +kernel, by decide +kernel, by decide⟩
theorem okY_copyRow : gOkV mY_copyRow 2 := ⟨gh_511, gh_32, gh_512, rfl, ⟨by decide, by decide⟩, by decide +kernel, by decide +kernel, by decide⟩
theorem okY_back : gOkV mY_back 1 := ⟨gh_514, gh_515, gh_516, rfl, ⟨by decide, by decide⟩, by decide +kernel, by decide +kernel, by decide⟩
theorem okY_isPicture : gOkV mY_isPicture 1 := ⟨gh_519, gh_33, gh_520, rfl, ⟨by decide, by decide⟩, by decide +kernel, by decide +kernel, by decide⟩
theorem okY_spaces : gOkV mY_spaces 0 := ⟨gh_523, gh_34, gh_524, rfl, ⟨by decide, by decide⟩, by decide +kernel, by decide +kernel, by decide⟩
theorem okY_drop : gOkV mY_drop 1 := ⟨gh_526, gh_527, gh_528, rfl, ⟨by decide, by decide⟩, by decide +kernel, by decide +kernel, by decide⟩
theorem okY_holders : gOkV mY_holders 2 := ⟨gh_530, gh_531, gh_532, rfl, ⟨by decide, by decide⟩, by decide +kernel, by decide +kernel, by decide⟩
theorem okY_changed : gOkV mY_changed 1 := ⟨gh_534, gh_535, gh_536, rfl, ⟨by decide, by decide⟩, by decide +kernel, by decide +kernel, by decide⟩
theorem okY_count : gOkV mY_count 1 := ⟨gh_538, gh_539, gh_540, rfl, ⟨by decide, by decide⟩, by decide +kernel, by decide +kernel, by decide⟩
theorem okY_isThere : gOkV mY_isThere 1 := ⟨gh_542, gh_543, gh_544, rfl, ⟨by decide, by decide⟩, by decide +kernel, by decide +kernel, by decide⟩
theorem okJ_fill : gOkS mJ_fill 2 := ⟨af_s, af_i, af_c, rfl, ⟨by decide, by decide⟩, by decide +kernel, by decide +kernel, by decide⟩
end
section
/-! What a state of the class is. -/
def bI (b : Bool) : Int32 := if b then 1 else 0
def oI (o : Option Nat) : Int32 := match o with
  | none => -1
  | some j => nI j
/-- how many of the first n hold -/
def gcnt (p : Nat → Bool) : Nat → Nat
  | 0 => 0
  | n + 1 => gcnt p n + (if p n then 1 else 0)
/-- the holders of frame j -/
def hcnt (fo : Nat → Option Nat) (j : Nat) : Nat := gcnt (fun k => fo k == some j) 432
theorem gcnt_le (p : Nat → Bool) (n : Nat) : gcnt p n ≤ n := by
  induction n with
  | zero => exact Nat.le_refl 0
  | succ n ih =>
    show gcnt p n + (if p n then 1 else 0) ≤ n + 1
    split <;> omega
theorem gcnt_congr {p q : Nat → Bool} {n : Nat} (h : ∀ k, k < n → p k = q k) : gcnt p n = gcnt q n := by
  induction n with
  | zero => rfl
  | succ n ih =>
    show gcnt p n + (if p n then 1 else 0) = gcnt q n + (if q n then 1 else 0)
    rw [ih (fun k hk => h k (by omega)), h n (by omega)]
theorem gcnt_up {p q : Nat → Bool} {k n : Nat} (hk : k < n) (h : ∀ j, j ≠ k → q j = p j) : gcnt q n + (if p k then 1 else 0) = gcnt p n + (if q k then 1 else 0) := by
  induction n with
  | zero => omega
  | succ n ih =>
    show gcnt q n + (if q n then 1 else 0) + (if p k then 1 else 0) = gcnt p n + (if p n then 1 else 0) + (if q k then 1 else 0)
    by_cases e : k = n
    · subst e
      rw [gcnt_congr (p := q) (q := p) (n := k) (fun j hj => h j (by omega))]
      omega
    · have := ih (by omega)
      rw [h n (fun x => e x.symm)]
      omega
theorem gcnt_pos {p : Nat → Bool} {k n : Nat} (hk : k < n) (hp : p k = true) : 1 ≤ gcnt p n := by
  induction n with
  | zero => omega
  | succ n ih =>
    show 1 ≤ gcnt p n + (if p n then 1 else 0)
    by_cases e : k = n
    · subst e; rw [hp]; simp
    · have := ih (by omega); omega
theorem gcnt_zero {p : Nat → Bool} {n : Nat} (h : ∀ k, k < n → p k = false) : gcnt p n = 0 := by
  induction n with
  | zero => rfl
  | succ n ih =>
    show gcnt p n + (if p n then 1 else 0) = 0
    rw [ih (fun k hk => h k (by omega)), h n (by omega)]; rfl
theorem gcnt_ex {p : Nat → Bool} {n : Nat} (h : gcnt p n ≠ 0) : ∃ k, k < n ∧ p k = true := by
  apply Classical.byContradiction
  intro hn
  apply h
  apply gcnt_zero
  intro k hk
  cases e : p k with
  | false => rfl
  | true => exact absurd ⟨k, hk, e⟩ hn
theorem hcnt_up {fo : Nat → Option Nat} {k : Nat} {o : Option Nat} (hk : k < 432) (j : Nat) : hcnt (va_up fo k o) j + (if fo k == some j then 1 else 0) = hcnt fo j + (if o == some j then 1 else 0) := by
  have h := gcnt_up (p := fun q => fo q == some j) (q := fun q => va_up fo k o q == some j) hk (fun q hq => by simp [va_up, hq])
  simp only [va_up, if_true] at h
  exact h
theorem hcnt_pos {fo : Nat → Option Nat} {k j : Nat} (hk : k < 432) (h : fo k = some j) : 1 ≤ hcnt fo j := gcnt_pos hk (by simp [h])
theorem hcnt_le (fo : Nat → Option Nat) (j : Nat) : hcnt fo j ≤ 432 := gcnt_le _ _
/-- the world of the class's object; five arrays behind it -/
abbrev xV (cI cB : ClassId) (h a1 a2 a3 a4 a5 F : Nat) (f1 f2 f3 f4 f5 : Nat → Int32) (rest : va_W) : va_W :=
  (h, .inr (0, [.int (nI F), .ref a1, .ref a2, .ref a3, .ref a4, .ref a5])) :: (a1, .inl (cI, F * 16, .inl f1)) :: (a2, .inl (cI, F, .inl f2)) :: (a3, .inl (cI, 432, .inl f3)) :: (a4, .inl (cB, 54, .inl f4)) :: (a5, .inl (cB, 8, .inl f5)) :: rest
abbrev xW (cI cB : ClassId) (h a1 a2 a3 a4 a5 F : Nat) (c : Nat → Int32) (fo : Nat → Option Nat) (sp pi : Nat → Bool) (rest : va_W) : va_W :=
  xV cI cB h a1 a2 a3 a4 a5 F c (fun j => nI (hcnt fo j)) (fun k => oI (fo k)) (fun k => bI (sp k)) (fun k => bI (pi k)) rest
abbrev gg (D : va_G) (cI cB cL : ClassId) (b L : Nat) (xs : Nat → Int32) : gG := (D, [(cI, .int), (cB, .boolean), (cL, .long)], b, L, xs)
theorem oI_nonneg {o : Option Nat} {F : Nat} (hF : F < 2 ^ 31) (h : ∀ j, o = some j → j < F) : (0 ≤ oI o ↔ o.isSome = true) := by
  cases o with
  | none => simp [oI]
  | some j => simp [oI]; exact nI_pos' (by have := h j rfl; omega)
theorem upd_b {sp : Nat → Bool} {j : Nat} {b : Bool} {x : Int32} (hx : x = bI b) : upd (fun k => bI (sp k)) j (vp_nar .boolean x) = fun k => bI (va_up sp j b k) := by
  funext k
  subst hx
  by_cases e : k = j
  · subst e
    simp [upd, va_up]
    cases b <;> decide
  · simp [upd, va_up, e]
theorem upd_o {fo : Nat → Option Nat} {j : Nat} {o : Option Nat} : upd (fun k => oI (fo k)) j (oI o) = fun k => oI (va_up fo j o k) := by
  funext k
  by_cases e : k = j
  · subst e; simp [upd, va_up]
  · simp [upd, va_up, e]
theorem oI_inj {a b : Option Nat} (ha : ∀ j, a = some j → j < 2 ^ 31) (hb : ∀ j, b = some j → j < 2 ^ 31) : oI a = oI b ↔ a = b := by
  cases a with
  | none =>
    cases b with
    | none => simp
    | some j =>
      simp only [oI, reduceCtorEq, iff_false]
      intro h
      have := nI_pos (hb j rfl)
      rw [← h] at this
      exact this (by decide)
  | some i =>
    cases b with
    | none =>
      simp only [oI, reduceCtorEq, iff_false]
      intro h
      have := nI_pos (ha i rfl)
      rw [h] at this
      exact this (by decide)
    | some j =>
      simp only [oI, Option.some.injEq]
      exact nI_eq (ha i rfl) (hb j rfl)
end
section
section Sxa
variable {D : va_G} {cI cB cL : ClassId} {bb L : Nat} {xs : Nat → Int32} {n h a1 a2 a3 a4 a5 F : Nat} {c : Nat → Int32} {fo : Nat → Option Nat} {sp pi : Nat → Bool} {rest es : va_W} {f1 f2 f3 f4 f5 : Nat → Int32}
set_option maxRecDepth 100000 in
set_option maxHeartbeats 1000000 in
theorem c_spaceIndex (r s : Nat) : Ret (gg D cI cB cL bb L xs) mX_spaceIndex n 0 0 [.int (nI r), .int (nI s)] es (some (.int (nI (r * 6 + s)))) es := by
  intro Psi hf
  show Go _ _ _ _ _ 0 [(0, .int (nI r)), (1, .int (nI s))] [] _ Psi
  refine go_iload_n (pc := 0) 0 0 rfl rfl eX_spaceIndex_0 ?_
  refine go_bipush (pc := 1) (v := 6) (by decide) eX_spaceIndex_1 ?_
  refine go_imul (pc := 3) eX_spaceIndex_3 ?_
  refine go_iload_n (pc := 4) 1 1 rfl rfl eX_spaceIndex_4 ?_
  refine go_iadd (pc := 5) eX_spaceIndex_5 ?_
  exact go_iret (pc := 6) rfl rfl eX_spaceIndex_6 (by rw [← nI_add, ← pk_mul] at hf; exact hf)
set_option maxRecDepth 100000 in
set_option maxHeartbeats 1000000 in
theorem c_pageNow (s p : Nat) : Ret (gg D cI cB cL bb L xs) mX_pageNow n 0 0 [.int (nI s), .int (nI p)] es (some (.int (nI (384 + s * 8 + p)))) es := by
  intro Psi hf
  show Go _ _ _ _ _ 0 [(0, .int (nI s)), (1, .int (nI p))] [] _ Psi
  refine go_sipush (pc := 0) (v := 384) (by decide) eX_pageNow_0 ?_
  refine go_iload_n (pc := 3) 0 0 rfl rfl eX_pageNow_3 ?_
  refine go_bipush (pc := 4) (v := 8) (by decide) eX_pageNow_4 ?_
  refine go_imul (pc := 6) eX_pageNow_6 ?_
  refine go_iadd (pc := 7) eX_pageNow_7 ?_
  refine go_iload_n (pc := 8) 1 1 rfl rfl eX_pageNow_8 ?_
  refine go_iadd (pc := 9) eX_pageNow_9 ?_
  exact go_iret (pc := 10) rfl rfl eX_pageNow_10 (by rw [← nI_add, ← nI_add, ← pk_mul] at hf; exact hf)
set_option maxRecDepth 100000 in
set_option maxHeartbeats 1000000 in
theorem c_cellIndex (f a : Nat) (ha : a < 128) : Ret (gg D cI cB cL bb L xs) mX_cellIndex n 0 0 [.int (nI f), .int (nI a)] es (some (.int (nI (f * 16 + a % 16)))) es := by
  intro Psi hf
  show Go _ _ _ _ _ 0 [(0, .int (nI f)), (1, .int (nI a))] [] _ Psi
  refine go_iload_n (pc := 0) 0 0 rfl rfl eX_cellIndex_0 ?_
  refine go_bipush (pc := 1) (v := 16) (by decide) eX_cellIndex_1 ?_
  refine go_imul (pc := 3) eX_cellIndex_3 ?_
  refine go_iload_n (pc := 4) 1 1 rfl rfl eX_cellIndex_4 ?_
  refine go_bipush (pc := 5) (v := 16) (by decide) eX_cellIndex_5 ?_
  refine go_irem (pc := 7) (by decide) eX_cellIndex_7 ?_
  refine go_iadd (pc := 8) eX_cellIndex_8 ?_
  exact go_iret (pc := 9) rfl rfl eX_cellIndex_9 (by rw [← nI_add, ← pk_mul, ← pk_rem (a := a) (d := 16) (by omega) (by omega) (by omega)] at hf; exact hf)
set_option maxRecDepth 100000 in
set_option maxHeartbeats 1000000 in
theorem c_isFrame0  : Ret (gg D cI cB cL bb L xs) mX_isFrame n 0 0 [.ref h, .int (oI none)] (xV cI cB h a1 a2 a3 a4 a5 F f1 f2 f3 f4 f5 rest) (some (.int (bI false))) (xV cI cB h a1 a2 a3 a4 a5 F f1 f2 f3 f4 f5 rest) := by
  intro Psi hf
  show Go _ _ _ _ _ 0 [(0, .ref h), (1, .int (oI none))] [] _ Psi
  refine go_iload_n (pc := 0) 1 1 rfl rfl eX_isFrame_0 ?_
  refine go_if_lt (pc := 1) 16 (by decide) eX_isFrame_1 (fun c1 => ?_) (fun c1 => ?_)
  · refine go_iconst (pc := 16) (v := 0) (by decide) eX_isFrame_16 ?_
    exact go_iret (pc := 17) rfl rfl eX_isFrame_17 (hf)
  · exact absurd (show oI none < 0 by decide) c1
set_option maxRecDepth 100000 in
set_option maxHeartbeats 1000000 in
theorem c_isFrame1 (hF : F ≤ 60) (j : Nat) (hj : j < F) : Ret (gg D cI cB cL bb L xs) mX_isFrame n 0 0 [.ref h, .int (oI (some j))] (xV cI cB h a1 a2 a3 a4 a5 F f1 f2 f3 f4 f5 rest) (some (.int (bI true))) (xV cI cB h a1 a2 a3 a4 a5 F f1 f2 f3 f4 f5 rest) := by
  intro Psi hf
  show Go _ _ _ _ _ 0 [(0, .ref h), (1, .int (oI (some j)))] [] _ Psi
  refine go_iload_n (pc := 0) 1 1 rfl rfl eX_isFrame_0 ?_
  refine go_if_lt (pc := 1) 16 (by decide) eX_isFrame_1 (fun c1 => ?_) (fun c1 => ?_)
  · exact absurd c1 (nI_pos (by omega))
  · refine go_iload_n (pc := 4) 1 1 rfl rfl eX_isFrame_4 ?_
    refine go_aload_n (pc := 5) 0 0 rfl rfl eX_isFrame_5 ?_
    refine go_get (pc := 6) hwX 0 rfl rfl 0 (by decide) lkX_18 rfl eX_isFrame_6 ?_
    refine go_icmp_ge (pc := 9) 16 (by decide) eX_isFrame_9 (fun c9 => ?_) (fun c9 => ?_)
    · exact absurd c9 (nI_ge hj (by omega))
    · refine go_iconst (pc := 12) (v := 1) (by decide) eX_isFrame_12 ?_
      refine go_goto (pc := 13) 17 (by decide) eX_isFrame_13 ?_
      exact go_iret (pc := 17) rfl rfl eX_isFrame_17 (hf)
theorem c_isFrame (hF : F ≤ 60) (o : Option Nat) (ho : ∀ j, o = some j → j < F) : Ret (gg D cI cB cL bb L xs) mX_isFrame n 0 0 [.ref h, .int (oI o)] (xV cI cB h a1 a2 a3 a4 a5 F f1 f2 f3 f4 f5 rest) (some (.int (bI o.isSome))) (xV cI cB h a1 a2 a3 a4 a5 F f1 f2 f3 f4 f5 rest) := by
  cases o with
  | none => exact c_isFrame0
  | some j => exact c_isFrame1 hF j (ho j rfl)
theorem xs1 {z z' : Nat → Int32} (e : z = z') : (xV cI cB h a1 a2 a3 a4 a5 F f1 f2 f3 f4 f5 rest).set 1 (a1, .inl (cI, F * 16, .inl z)) = xV cI cB h a1 a2 a3 a4 a5 F z' f2 f3 f4 f5 rest := by subst e; rfl
theorem xs2 {z z' : Nat → Int32} (e : z = z') : (xV cI cB h a1 a2 a3 a4 a5 F f1 f2 f3 f4 f5 rest).set 2 (a2, .inl (cI, F, .inl z)) = xV cI cB h a1 a2 a3 a4 a5 F f1 z' f3 f4 f5 rest := by subst e; rfl
theorem xs3 {z z' : Nat → Int32} (e : z = z') : (xV cI cB h a1 a2 a3 a4 a5 F f1 f2 f3 f4 f5 rest).set 3 (a3, .inl (cI, 432, .inl z)) = xV cI cB h a1 a2 a3 a4 a5 F f1 f2 z' f4 f5 rest := by subst e; rfl
theorem xs4 {z z' : Nat → Int32} (e : z = z') : (xV cI cB h a1 a2 a3 a4 a5 F f1 f2 f3 f4 f5 rest).set 4 (a4, .inl (cB, 54, .inl z)) = xV cI cB h a1 a2 a3 a4 a5 F f1 f2 f3 z' f5 rest := by subst e; rfl
theorem xs5 {z z' : Nat → Int32} (e : z = z') : (xV cI cB h a1 a2 a3 a4 a5 F f1 f2 f3 f4 f5 rest).set 5 (a5, .inl (cB, 8, .inl z)) = xV cI cB h a1 a2 a3 a4 a5 F f1 f2 f3 f4 z' rest := by subst e; rfl
theorem nI_sub1 {a : Nat} (h : 1 ≤ a) : nI a - 1 = nI (a - 1) := by
  obtain ⟨b, rfl⟩ : ∃ b, a = b + 1 := ⟨a - 1, by omega⟩
  exact nI_pred b
theorem hc_dec {fo : Nat → Option Nat} {k b : Nat} (hk : k < 432) (hb : fo k = some b) : upd (fun j => nI (hcnt fo j)) b (nI (hcnt fo b) - 1) = fun j => nI (hcnt (va_up fo k none) j) := by
  funext j
  have h1 := hcnt_up (fo := fo) (o := none) hk j
  rw [hb] at h1
  by_cases e : j = b
  · subst e
    simp only [upd, if_true]
    rw [nI_sub1 (hcnt_pos hk hb)]
    refine congrArg nI ?_
    simp at h1
    omega
  · simp only [upd, if_neg e]
    refine congrArg nI ?_
    have : ¬ b = j := fun x => e x.symm
    simp [this] at h1
    omega
theorem hc_same {fo : Nat → Option Nat} {k : Nat} (hb : fo k = none) : va_up fo k none = fo := by
  funext j
  by_cases e : j = k
  · subst e; simp [va_up, hb]
  · simp [va_up, e]
theorem hc_inc {fo : Nat → Option Nat} {k b : Nat} (hk : k < 432) (hn : fo k = none) : upd (fun j => nI (hcnt fo j)) b (nI (hcnt fo b) + 1) = fun j => nI (hcnt (va_up fo k (some b)) j) := by
  funext j
  have h1 := hcnt_up (fo := fo) (o := some b) hk j
  rw [hn] at h1
  by_cases e : j = b
  · subst e
    simp only [upd, if_true]
    rw [nI_1]
    refine congrArg nI ?_
    simp at h1
    omega
  · simp only [upd, if_neg e]
    refine congrArg nI ?_
    have : ¬ b = j := fun x => e x.symm
    simp [this] at h1
    omega
theorem va_upup {α : Type} {f : Nat → α} {k : Nat} {a b : α} : va_up (va_up f k a) k b = va_up f k b := by
  funext j
  by_cases e : j = k <;> simp [va_up, e]
theorem va_upat {α : Type} {f : Nat → α} {k : Nat} {a : α} : va_up f k a k = a := by simp [va_up]
theorem va_upne {α : Type} {f : Nat → α} {k j : Nat} {a : α} (h : j ≠ k) : va_up f k a j = f j := by simp [va_up, h]
set_option maxRecDepth 100000 in
set_option maxHeartbeats 1000000 in
theorem c_standIn00 (hF : F ≤ 60) (hfo : ∀ k j, fo k = some j → j < F) (k : Nat) (hk : k < 432) (hb : fo k = none)  : Ret (gg D cI cB cL bb L xs) mX_standIn (n + 1) 0 0 [.ref h, .int (nI k), .int (oI (none))] (xW cI cB h a1 a2 a3 a4 a5 F c fo sp pi rest) none (xW cI cB h a1 a2 a3 a4 a5 F c (va_up fo k (none)) sp pi rest) := by
  intro Psi hf
  show Go _ _ _ _ _ 0 [(0, .ref h), (1, .int (nI k)), (2, .int (oI (none)))] [] _ Psi
  refine go_aload_n (pc := 0) 0 0 rfl rfl eX_standIn_0 ?_
  refine go_get (pc := 1) hwX 0 rfl rfl 3 (by decide) lkX_29 rfl eX_standIn_1 ?_
  refine go_iload_n (pc := 4) 1 1 rfl rfl eX_standIn_4 ?_
  refine go_ialdN (pc := 5) 3 0 (k) eX_standIn_5 rfl rfl (rfl) (hk) (by omega) ?_
  refine go_istore_n (pc := 6) (ls' := [(3, _), (0, _), (1, _), (2, _)]) 3 rfl (by decide) eX_standIn_6 rfl ?_
  rw [hb]
  refine go_aload_n (pc := 7) 0 1 rfl rfl eX_standIn_7 ?_
  refine go_iload_n (pc := 8) 3 0 rfl rfl eX_standIn_8 ?_
  refine go_rV (pc := 9) 0 (c_isFrame0) okX_isFrame lmX_70 eX_standIn_9 rfl rfl rfl rfl rfl (Nat.le_of_ble_eq_true rfl) (Nat.le_of_ble_eq_true rfl) ?_
  refine go_if_eq (pc := 12) 25 (by decide) eX_standIn_12 (fun c12 => ?_) (fun c12 => ?_)
  · refine go_es (es' := (xV cI cB h a1 a2 a3 a4 a5 F c (fun j => nI (hcnt (va_up fo k none) j)) (fun q => oI (fo q)) (fun q => bI (sp q)) (fun q => bI (pi q)) rest)) (by rw [hc_same hb]) ?_
    refine go_aload_n (pc := 25) 0 1 rfl rfl eX_standIn_25 ?_
    refine go_iload_n (pc := 26) 2 3 rfl rfl eX_standIn_26 ?_
    refine go_rV (pc := 27) 0 (c_isFrame0) okX_isFrame lmX_70 eX_standIn_27 rfl rfl rfl rfl rfl (Nat.le_of_ble_eq_true rfl) (Nat.le_of_ble_eq_true rfl) ?_
    refine go_if_eq (pc := 30) 43 (by decide) eX_standIn_30 (fun c30 => ?_) (fun c30 => ?_)
    · refine go_aload_n (pc := 43) 0 1 rfl rfl eX_standIn_43 ?_
      refine go_get (pc := 44) hwX 0 rfl rfl 3 (by decide) lkX_29 rfl eX_standIn_44 ?_
      refine go_iload_n (pc := 47) 1 2 rfl rfl eX_standIn_47 ?_
      refine go_iload_n (pc := 48) 2 3 rfl rfl eX_standIn_48 ?_
      refine go_iastN (pc := 49) (es' := (xW cI cB h a1 a2 a3 a4 a5 F c (va_up fo k (none)) sp pi rest)) 3 0 k eX_standIn_49 rfl rfl rfl hk (by omega) (xs3 upd_o) ?_
      exact go_vret (pc := 50) rfl eX_standIn_50 (hf)
    · exact absurd rfl c30
  · exact absurd rfl c12
set_option maxRecDepth 100000 in
set_option maxHeartbeats 1000000 in
theorem c_standIn01 (hF : F ≤ 60) (hfo : ∀ k j, fo k = some j → j < F) (k : Nat) (hk : k < 432) (hb : fo k = none) (e : Nat) (he : e < F) : Ret (gg D cI cB cL bb L xs) mX_standIn (n + 1) 0 0 [.ref h, .int (nI k), .int (oI (some e))] (xW cI cB h a1 a2 a3 a4 a5 F c fo sp pi rest) none (xW cI cB h a1 a2 a3 a4 a5 F c (va_up fo k (some e)) sp pi rest) := by
  intro Psi hf
  show Go _ _ _ _ _ 0 [(0, .ref h), (1, .int (nI k)), (2, .int (oI (some e)))] [] _ Psi
  refine go_aload_n (pc := 0) 0 0 rfl rfl eX_standIn_0 ?_
  refine go_get (pc := 1) hwX 0 rfl rfl 3 (by decide) lkX_29 rfl eX_standIn_1 ?_
  refine go_iload_n (pc := 4) 1 1 rfl rfl eX_standIn_4 ?_
  refine go_ialdN (pc := 5) 3 0 (k) eX_standIn_5 rfl rfl (rfl) (hk) (by omega) ?_
  refine go_istore_n (pc := 6) (ls' := [(3, _), (0, _), (1, _), (2, _)]) 3 rfl (by decide) eX_standIn_6 rfl ?_
  rw [hb]
  refine go_aload_n (pc := 7) 0 1 rfl rfl eX_standIn_7 ?_
  refine go_iload_n (pc := 8) 3 0 rfl rfl eX_standIn_8 ?_
  refine go_rV (pc := 9) 0 (c_isFrame0) okX_isFrame lmX_70 eX_standIn_9 rfl rfl rfl rfl rfl (Nat.le_of_ble_eq_true rfl) (Nat.le_of_ble_eq_true rfl) ?_
  refine go_if_eq (pc := 12) 25 (by decide) eX_standIn_12 (fun c12 => ?_) (fun c12 => ?_)
  · refine go_es (es' := (xV cI cB h a1 a2 a3 a4 a5 F c (fun j => nI (hcnt (va_up fo k none) j)) (fun q => oI (fo q)) (fun q => bI (sp q)) (fun q => bI (pi q)) rest)) (by rw [hc_same hb]) ?_
    refine go_aload_n (pc := 25) 0 1 rfl rfl eX_standIn_25 ?_
    refine go_iload_n (pc := 26) 2 3 rfl rfl eX_standIn_26 ?_
    refine go_rV (pc := 27) 0 (c_isFrame1 hF e he) okX_isFrame lmX_70 eX_standIn_27 rfl rfl rfl rfl rfl (Nat.le_of_ble_eq_true rfl) (Nat.le_of_ble_eq_true rfl) ?_
    refine go_if_eq (pc := 30) 43 (by decide) eX_standIn_30 (fun c30 => ?_) (fun c30 => ?_)
    · exact absurd c30 (by decide)
    · refine go_aload_n (pc := 33) 0 1 rfl rfl eX_standIn_33 ?_
      refine go_get (pc := 34) hwX 0 rfl rfl 2 (by decide) lkX_26 rfl eX_standIn_34 ?_
      refine go_iload_n (pc := 37) 2 3 rfl rfl eX_standIn_37 ?_
      refine go_dup2 (pc := 38) rfl rfl eX_standIn_38 ?_
      refine go_ialdN (pc := 39) 2 0 (e) eX_standIn_39 rfl rfl (rfl) (he) (by omega) ?_
      refine go_iconst (pc := 40) (v := 1) (by decide) eX_standIn_40 ?_
      refine go_iadd (pc := 41) eX_standIn_41 ?_
      refine go_iastN (pc := 42) (es' := (xV cI cB h a1 a2 a3 a4 a5 F c (fun j => nI (hcnt (va_up fo k (some e)) j)) (fun q => oI (fo q)) (fun q => bI (sp q)) (fun q => bI (pi q)) rest)) 2 0 e eX_standIn_42 rfl rfl rfl he (by omega) (xs2 ((hc_inc hk va_upat).trans (by rw [va_upup]))) ?_
      refine go_aload_n (pc := 43) 0 1 rfl rfl eX_standIn_43 ?_
      refine go_get (pc := 44) hwX 0 rfl rfl 3 (by decide) lkX_29 rfl eX_standIn_44 ?_
      refine go_iload_n (pc := 47) 1 2 rfl rfl eX_standIn_47 ?_
      refine go_iload_n (pc := 48) 2 3 rfl rfl eX_standIn_48 ?_
      refine go_iastN (pc := 49) (es' := (xW cI cB h a1 a2 a3 a4 a5 F c (va_up fo k (some e)) sp pi rest)) 3 0 k eX_standIn_49 rfl rfl rfl hk (by omega) (xs3 upd_o) ?_
      exact go_vret (pc := 50) rfl eX_standIn_50 (hf)
  · exact absurd rfl c12
set_option maxRecDepth 100000 in
set_option maxHeartbeats 1000000 in
theorem c_standIn10 (hF : F ≤ 60) (hfo : ∀ k j, fo k = some j → j < F) (k : Nat) (hk : k < 432) (b : Nat) (hb : fo k = some b)  : Ret (gg D cI cB cL bb L xs) mX_standIn (n + 1) 0 0 [.ref h, .int (nI k), .int (oI (none))] (xW cI cB h a1 a2 a3 a4 a5 F c fo sp pi rest) none (xW cI cB h a1 a2 a3 a4 a5 F c (va_up fo k (none)) sp pi rest) := by
  intro Psi hf
  show Go _ _ _ _ _ 0 [(0, .ref h), (1, .int (nI k)), (2, .int (oI (none)))] [] _ Psi
  refine go_aload_n (pc := 0) 0 0 rfl rfl eX_standIn_0 ?_
  refine go_get (pc := 1) hwX 0 rfl rfl 3 (by decide) lkX_29 rfl eX_standIn_1 ?_
  refine go_iload_n (pc := 4) 1 1 rfl rfl eX_standIn_4 ?_
  refine go_ialdN (pc := 5) 3 0 (k) eX_standIn_5 rfl rfl (rfl) (hk) (by omega) ?_
  refine go_istore_n (pc := 6) (ls' := [(3, _), (0, _), (1, _), (2, _)]) 3 rfl (by decide) eX_standIn_6 rfl ?_
  rw [hb]
  refine go_aload_n (pc := 7) 0 1 rfl rfl eX_standIn_7 ?_
  refine go_iload_n (pc := 8) 3 0 rfl rfl eX_standIn_8 ?_
  refine go_rV (pc := 9) 0 (c_isFrame1 hF b (hfo k b hb)) okX_isFrame lmX_70 eX_standIn_9 rfl rfl rfl rfl rfl (Nat.le_of_ble_eq_true rfl) (Nat.le_of_ble_eq_true rfl) ?_
  refine go_if_eq (pc := 12) 25 (by decide) eX_standIn_12 (fun c12 => ?_) (fun c12 => ?_)
  · exact absurd c12 (by decide)
  · refine go_aload_n (pc := 15) 0 1 rfl rfl eX_standIn_15 ?_
    refine go_get (pc := 16) hwX 0 rfl rfl 2 (by decide) lkX_26 rfl eX_standIn_16 ?_
    refine go_iload_n (pc := 19) 3 0 rfl rfl eX_standIn_19 ?_
    refine go_dup2 (pc := 20) rfl rfl eX_standIn_20 ?_
    refine go_ialdN (pc := 21) 2 0 (b) eX_standIn_21 rfl rfl (rfl) (hfo k b hb) (by omega) ?_
    refine go_iconst (pc := 22) (v := 1) (by decide) eX_standIn_22 ?_
    refine go_isub (pc := 23) eX_standIn_23 ?_
    refine go_iastN (pc := 24) (es' := (xV cI cB h a1 a2 a3 a4 a5 F c (fun j => nI (hcnt (va_up fo k none) j)) (fun q => oI (fo q)) (fun q => bI (sp q)) (fun q => bI (pi q)) rest)) 2 0 b eX_standIn_24 rfl rfl rfl (hfo k b hb) (by omega) (xs2 (hc_dec hk hb)) ?_
    refine go_aload_n (pc := 25) 0 1 rfl rfl eX_standIn_25 ?_
    refine go_iload_n (pc := 26) 2 3 rfl rfl eX_standIn_26 ?_
    refine go_rV (pc := 27) 0 (c_isFrame0) okX_isFrame lmX_70 eX_standIn_27 rfl rfl rfl rfl rfl (Nat.le_of_ble_eq_true rfl) (Nat.le_of_ble_eq_true rfl) ?_
    refine go_if_eq (pc := 30) 43 (by decide) eX_standIn_30 (fun c30 => ?_) (fun c30 => ?_)
    · refine go_aload_n (pc := 43) 0 1 rfl rfl eX_standIn_43 ?_
      refine go_get (pc := 44) hwX 0 rfl rfl 3 (by decide) lkX_29 rfl eX_standIn_44 ?_
      refine go_iload_n (pc := 47) 1 2 rfl rfl eX_standIn_47 ?_
      refine go_iload_n (pc := 48) 2 3 rfl rfl eX_standIn_48 ?_
      refine go_iastN (pc := 49) (es' := (xW cI cB h a1 a2 a3 a4 a5 F c (va_up fo k (none)) sp pi rest)) 3 0 k eX_standIn_49 rfl rfl rfl hk (by omega) (xs3 upd_o) ?_
      exact go_vret (pc := 50) rfl eX_standIn_50 (hf)
    · exact absurd rfl c30
set_option maxRecDepth 100000 in
set_option maxHeartbeats 1000000 in
theorem c_standIn11 (hF : F ≤ 60) (hfo : ∀ k j, fo k = some j → j < F) (k : Nat) (hk : k < 432) (b : Nat) (hb : fo k = some b) (e : Nat) (he : e < F) : Ret (gg D cI cB cL bb L xs) mX_standIn (n + 1) 0 0 [.ref h, .int (nI k), .int (oI (some e))] (xW cI cB h a1 a2 a3 a4 a5 F c fo sp pi rest) none (xW cI cB h a1 a2 a3 a4 a5 F c (va_up fo k (some e)) sp pi rest) := by
  intro Psi hf
  show Go _ _ _ _ _ 0 [(0, .ref h), (1, .int (nI k)), (2, .int (oI (some e)))] [] _ Psi
  refine go_aload_n (pc := 0) 0 0 rfl rfl eX_standIn_0 ?_
  refine go_get (pc := 1) hwX 0 rfl rfl 3 (by decide) lkX_29 rfl eX_standIn_1 ?_
  refine go_iload_n (pc := 4) 1 1 rfl rfl eX_standIn_4 ?_
  refine go_ialdN (pc := 5) 3 0 (k) eX_standIn_5 rfl rfl (rfl) (hk) (by omega) ?_
  refine go_istore_n (pc := 6) (ls' := [(3, _), (0, _), (1, _), (2, _)]) 3 rfl (by decide) eX_standIn_6 rfl ?_
  rw [hb]
  refine go_aload_n (pc := 7) 0 1 rfl rfl eX_standIn_7 ?_
  refine go_iload_n (pc := 8) 3 0 rfl rfl eX_standIn_8 ?_
  refine go_rV (pc := 9) 0 (c_isFrame1 hF b (hfo k b hb)) okX_isFrame lmX_70 eX_standIn_9 rfl rfl rfl rfl rfl (Nat.le_of_ble_eq_true rfl) (Nat.le_of_ble_eq_true rfl) ?_
  refine go_if_eq (pc := 12) 25 (by decide) eX_standIn_12 (fun c12 => ?_) (fun c12 => ?_)
  · exact absurd c12 (by decide)
  · refine go_aload_n (pc := 15) 0 1 rfl rfl eX_standIn_15 ?_
    refine go_get (pc := 16) hwX 0 rfl rfl 2 (by decide) lkX_26 rfl eX_standIn_16 ?_
    refine go_iload_n (pc := 19) 3 0 rfl rfl eX_standIn_19 ?_
    refine go_dup2 (pc := 20) rfl rfl eX_standIn_20 ?_
    refine go_ialdN (pc := 21) 2 0 (b) eX_standIn_21 rfl rfl (rfl) (hfo k b hb) (by omega) ?_
    refine go_iconst (pc := 22) (v := 1) (by decide) eX_standIn_22 ?_
    refine go_isub (pc := 23) eX_standIn_23 ?_
    refine go_iastN (pc := 24) (es' := (xV cI cB h a1 a2 a3 a4 a5 F c (fun j => nI (hcnt (va_up fo k none) j)) (fun q => oI (fo q)) (fun q => bI (sp q)) (fun q => bI (pi q)) rest)) 2 0 b eX_standIn_24 rfl rfl rfl (hfo k b hb) (by omega) (xs2 (hc_dec hk hb)) ?_
    refine go_aload_n (pc := 25) 0 1 rfl rfl eX_standIn_25 ?_
    refine go_iload_n (pc := 26) 2 3 rfl rfl eX_standIn_26 ?_
    refine go_rV (pc := 27) 0 (c_isFrame1 hF e he) okX_isFrame lmX_70 eX_standIn_27 rfl rfl rfl rfl rfl (Nat.le_of_ble_eq_true rfl) (Nat.le_of_ble_eq_true rfl) ?_
    refine go_if_eq (pc := 30) 43 (by decide) eX_standIn_30 (fun c30 => ?_) (fun c30 => ?_)
    · exact absurd c30 (by decide)
    · refine go_aload_n (pc := 33) 0 1 rfl rfl eX_standIn_33 ?_
      refine go_get (pc := 34) hwX 0 rfl rfl 2 (by decide) lkX_26 rfl eX_standIn_34 ?_
      refine go_iload_n (pc := 37) 2 3 rfl rfl eX_standIn_37 ?_
      refine go_dup2 (pc := 38) rfl rfl eX_standIn_38 ?_
      refine go_ialdN (pc := 39) 2 0 (e) eX_standIn_39 rfl rfl (rfl) (he) (by omega) ?_
      refine go_iconst (pc := 40) (v := 1) (by decide) eX_standIn_40 ?_
      refine go_iadd (pc := 41) eX_standIn_41 ?_
      refine go_iastN (pc := 42) (es' := (xV cI cB h a1 a2 a3 a4 a5 F c (fun j => nI (hcnt (va_up fo k (some e)) j)) (fun q => oI (fo q)) (fun q => bI (sp q)) (fun q => bI (pi q)) rest)) 2 0 e eX_standIn_42 rfl rfl rfl he (by omega) (xs2 ((hc_inc hk va_upat).trans (by rw [va_upup]))) ?_
      refine go_aload_n (pc := 43) 0 1 rfl rfl eX_standIn_43 ?_
      refine go_get (pc := 44) hwX 0 rfl rfl 3 (by decide) lkX_29 rfl eX_standIn_44 ?_
      refine go_iload_n (pc := 47) 1 2 rfl rfl eX_standIn_47 ?_
      refine go_iload_n (pc := 48) 2 3 rfl rfl eX_standIn_48 ?_
      refine go_iastN (pc := 49) (es' := (xW cI cB h a1 a2 a3 a4 a5 F c (va_up fo k (some e)) sp pi rest)) 3 0 k eX_standIn_49 rfl rfl rfl hk (by omega) (xs3 upd_o) ?_
      exact go_vret (pc := 50) rfl eX_standIn_50 (hf)
theorem c_standIn (hF : F ≤ 60) (hfo : ∀ k j, fo k = some j → j < F) (k : Nat) (hk : k < 432) (o : Option Nat) (ho : ∀ j, o = some j → j < F) : Ret (gg D cI cB cL bb L xs) mX_standIn (n + 1) 0 0 [.ref h, .int (nI k), .int (oI o)] (xW cI cB h a1 a2 a3 a4 a5 F c fo sp pi rest) none (xW cI cB h a1 a2 a3 a4 a5 F c (va_up fo k o) sp pi rest) := by
  cases hb : fo k with
  | none =>
    cases o with
    | none => exact c_standIn00 hF hfo k hk hb
    | some e => exact c_standIn01 hF hfo k hk hb e (ho e rfl)
  | some b =>
    cases o with
    | none => exact c_standIn10 hF hfo k hk b hb
    | some e => exact c_standIn11 hF hfo k hk b hb e (ho e rfl)
end Sxa
end
section
section Sxb
variable {D : va_G} {cI cB cL : ClassId} {bb L : Nat} {xs : Nat → Int32} {n h a1 a2 a3 a4 a5 F : Nat} {c : Nat → Int32} {fo : Nat → Option Nat} {sp pi : Nat → Bool} {rest es : va_W} {f1 f2 f3 f4 f5 : Nat → Int32}
theorem bI0 {b : Bool} : bI b = 0 ↔ b = false := by cases b <;> decide
theorem bI1 {b : Bool} (h : ¬ bI b = 0) : b = true := by cases b with
  | true => rfl
  | false => exact absurd rfl h
theorem nI_z {a : Nat} (h : a < 2 ^ 31) : nI a = 0 ↔ a = 0 := by
  rw [← nI_0]; exact nI_eq h (by omega)
theorem nI_z1 {a : Nat} (h : a < 2 ^ 31) : nI a = 1 ↔ a = 1 := by
  rw [show (1 : Int32) = nI 1 from rfl]; exact nI_eq h (by omega)
theorem nI_lz {a : Nat} (h : a < 2 ^ 31) : nI a ≤ 0 ↔ a = 0 := by
  rw [← nI_0, nI_leI h (by omega)]; omega
theorem hc31 (fo : Nat → Option Nat) (j : Nat) : hcnt fo j < 2 ^ 31 := Nat.lt_of_le_of_lt (hcnt_le fo j) (by decide)
theorem gcnt_s {p : Nat → Bool} {i : Nat} (h : p i = true) : gcnt p (i + 1) = gcnt p i + 1 := by
  show gcnt p i + (if p i then 1 else 0) = _
  rw [h]; rfl
theorem gcnt_n {p : Nat → Bool} {i : Nat} (h : p i = false) : gcnt p (i + 1) = gcnt p i := by
  show gcnt p i + (if p i then 1 else 0) = _
  rw [h]; rfl
set_option maxRecDepth 100000 in
set_option maxHeartbeats 1000000 in
theorem l_lmsA (j : Nat) (hj : j < 6) (hj0 : sp (48 + j) = false) (hlt : ∀ q, q < j → sp (48 + q) = true) {Psi : gR → va_W → Prop} (hf : Psi (.inl (some (.int (nI j)))) (xW cI cB h a1 a2 a3 a4 a5 F c fo sp pi rest)) : ∀ (m i : Nat), i + m = j → Go (gg D cI cB cL bb L xs) mX_leastMissingSpace (n + 1) 0 0 2 [(1, .int (nI i)), (0, .ref h)] [] (xW cI cB h a1 a2 a3 a4 a5 F c fo sp pi rest) Psi := by
  intro m
  induction m with
  | zero =>
    intro i hi
    obtain rfl : i = j := by omega
    refine go_iload_n (pc := 2) 1 0 rfl rfl eX_leastMissingSpace_2 ?_
    refine go_bipush (pc := 3) (v := 6) (by decide) eX_leastMissingSpace_3 ?_
    refine go_icmp_ge (pc := 5) 30 (by decide) eX_leastMissingSpace_5 (fun c5 => ?_) (fun c5 => ?_)
    · exact absurd c5 (nI_ge (b := 6) (by omega) (by omega))
    · refine go_aload_n (pc := 8) 0 1 rfl rfl eX_leastMissingSpace_8 ?_
      refine go_get (pc := 9) hwX 0 rfl rfl 4 (by decide) lkX_38 rfl eX_leastMissingSpace_9 ?_
      refine go_bipush (pc := 12) (v := 8) (by decide) eX_leastMissingSpace_12 ?_
      refine go_iload_n (pc := 14) 1 0 rfl rfl eX_leastMissingSpace_14 ?_
      refine go_rS (pc := 15) (c_spaceIndex 8 i) okX_spaceIndex lmX_49 eX_leastMissingSpace_15 rfl rfl (Nat.le_of_ble_eq_true rfl) (Nat.le_of_ble_eq_true rfl) ?_
      refine go_zaldN (pc := 18) 4 1 (48 + i) eX_leastMissingSpace_18 rfl rfl (rfl) (by omega) (by omega) ?_
      refine go_if_ne (pc := 19) 24 (by decide) eX_leastMissingSpace_19 (fun c19 => ?_) (fun c19 => ?_)
      · exact absurd (bI0.mpr hj0) c19
      · refine go_iload_n (pc := 22) 1 0 rfl rfl eX_leastMissingSpace_22 ?_
        exact go_iret (pc := 23) rfl rfl eX_leastMissingSpace_23 (hf)
  | succ m ih =>
    intro i hi
    refine go_iload_n (pc := 2) 1 0 rfl rfl eX_leastMissingSpace_2 ?_
    refine go_bipush (pc := 3) (v := 6) (by decide) eX_leastMissingSpace_3 ?_
    refine go_icmp_ge (pc := 5) 30 (by decide) eX_leastMissingSpace_5 (fun c5 => ?_) (fun c5 => ?_)
    · exact absurd c5 (nI_ge (b := 6) (by omega) (by omega))
    · refine go_aload_n (pc := 8) 0 1 rfl rfl eX_leastMissingSpace_8 ?_
      refine go_get (pc := 9) hwX 0 rfl rfl 4 (by decide) lkX_38 rfl eX_leastMissingSpace_9 ?_
      refine go_bipush (pc := 12) (v := 8) (by decide) eX_leastMissingSpace_12 ?_
      refine go_iload_n (pc := 14) 1 0 rfl rfl eX_leastMissingSpace_14 ?_
      refine go_rS (pc := 15) (c_spaceIndex 8 i) okX_spaceIndex lmX_49 eX_leastMissingSpace_15 rfl rfl (Nat.le_of_ble_eq_true rfl) (Nat.le_of_ble_eq_true rfl) ?_
      refine go_zaldN (pc := 18) 4 1 (48 + i) eX_leastMissingSpace_18 rfl rfl (rfl) (by omega) (by omega) ?_
      refine go_if_ne (pc := 19) 24 (by decide) eX_leastMissingSpace_19 (fun c19 => ?_) (fun c19 => ?_)
      · refine go_iinc (pc := 24) (z := 1) (v := nI (i + 1)) (ls' := [(1, _), (0, _)]) 1 0 rfl (nI_1 i) (by decide) eX_leastMissingSpace_24 rfl ?_
        refine go_goto (pc := 27) 2 (by decide) eX_leastMissingSpace_27 ?_
        exact ih (i + 1) (by omega)
      · exact absurd (bI0.mp c19) (by rw [hlt i (by omega)]; decide)
set_option maxRecDepth 100000 in
set_option maxHeartbeats 1000000 in
theorem c_lmsA (j : Nat) (hj : j < 6) (hj0 : sp (48 + j) = false) (hlt : ∀ q, q < j → sp (48 + q) = true) : Ret (gg D cI cB cL bb L xs) mX_leastMissingSpace (n + 1) 0 0 [.ref h] (xW cI cB h a1 a2 a3 a4 a5 F c fo sp pi rest) (some (.int (nI j))) (xW cI cB h a1 a2 a3 a4 a5 F c fo sp pi rest) := by
  intro Psi hf
  show Go _ _ _ _ _ 0 [(0, .ref h)] [] _ Psi
  refine go_iconst (pc := 0) (v := 0) (by decide) eX_leastMissingSpace_0 ?_
  refine go_istore_n (pc := 1) (ls' := [(1, _), (0, _)]) 1 rfl (by decide) eX_leastMissingSpace_1 rfl ?_
  exact l_lmsA j hj hj0 hlt hf j 0 (by omega)
set_option maxRecDepth 100000 in
set_option maxHeartbeats 1000000 in
theorem l_lmsB (hlt : ∀ q, q < 6 → sp (48 + q) = true) {Psi : gR → va_W → Prop} (hf : Psi (.inl (some (.int (-1)))) (xW cI cB h a1 a2 a3 a4 a5 F c fo sp pi rest)) : ∀ (m i : Nat), i + m = 6 → Go (gg D cI cB cL bb L xs) mX_leastMissingSpace (n + 1) 0 0 2 [(1, .int (nI i)), (0, .ref h)] [] (xW cI cB h a1 a2 a3 a4 a5 F c fo sp pi rest) Psi := by
  intro m
  induction m with
  | zero =>
    intro i hi
    obtain rfl : i = 6 := by omega
    refine go_iload_n (pc := 2) 1 0 rfl rfl eX_leastMissingSpace_2 ?_
    refine go_bipush (pc := 3) (v := 6) (by decide) eX_leastMissingSpace_3 ?_
    refine go_icmp_ge (pc := 5) 30 (by decide) eX_leastMissingSpace_5 (fun c5 => ?_) (fun c5 => ?_)
    · refine go_iconst (pc := 30) (v := (-1)) (by decide) eX_leastMissingSpace_30 ?_
      exact go_iret (pc := 31) rfl rfl eX_leastMissingSpace_31 (hf)
    · exact absurd (show (6 : Int32) ≤ nI 6 by decide) c5
  | succ m ih =>
    intro i hi
    refine go_iload_n (pc := 2) 1 0 rfl rfl eX_leastMissingSpace_2 ?_
    refine go_bipush (pc := 3) (v := 6) (by decide) eX_leastMissingSpace_3 ?_
    refine go_icmp_ge (pc := 5) 30 (by decide) eX_leastMissingSpace_5 (fun c5 => ?_) (fun c5 => ?_)
    · exact absurd c5 (nI_ge (b := 6) (by omega) (by omega))
    · refine go_aload_n (pc := 8) 0 1 rfl rfl eX_leastMissingSpace_8 ?_
      refine go_get (pc := 9) hwX 0 rfl rfl 4 (by decide) lkX_38 rfl eX_leastMissingSpace_9 ?_
      refine go_bipush (pc := 12) (v := 8) (by decide) eX_leastMissingSpace_12 ?_
      refine go_iload_n (pc := 14) 1 0 rfl rfl eX_leastMissingSpace_14 ?_
      refine go_rS (pc := 15) (c_spaceIndex 8 i) okX_spaceIndex lmX_49 eX_leastMissingSpace_15 rfl rfl (Nat.le_of_ble_eq_true rfl) (Nat.le_of_ble_eq_true rfl) ?_
      refine go_zaldN (pc := 18) 4 1 (48 + i) eX_leastMissingSpace_18 rfl rfl (rfl) (by omega) (by omega) ?_
      refine go_if_ne (pc := 19) 24 (by decide) eX_leastMissingSpace_19 (fun c19 => ?_) (fun c19 => ?_)
      · refine go_iinc (pc := 24) (z := 1) (v := nI (i + 1)) (ls' := [(1, _), (0, _)]) 1 0 rfl (nI_1 i) (by decide) eX_leastMissingSpace_24 rfl ?_
        refine go_goto (pc := 27) 2 (by decide) eX_leastMissingSpace_27 ?_
        exact ih (i + 1) (by omega)
      · exact absurd (bI0.mp c19) (by rw [hlt i (by omega)]; decide)
set_option maxRecDepth 100000 in
set_option maxHeartbeats 1000000 in
theorem c_lmsB (hlt : ∀ q, q < 6 → sp (48 + q) = true) : Ret (gg D cI cB cL bb L xs) mX_leastMissingSpace (n + 1) 0 0 [.ref h] (xW cI cB h a1 a2 a3 a4 a5 F c fo sp pi rest) (some (.int (-1))) (xW cI cB h a1 a2 a3 a4 a5 F c fo sp pi rest) := by
  intro Psi hf
  show Go _ _ _ _ _ 0 [(0, .ref h)] [] _ Psi
  refine go_iconst (pc := 0) (v := 0) (by decide) eX_leastMissingSpace_0 ?_
  refine go_istore_n (pc := 1) (ls' := [(1, _), (0, _)]) 1 rfl (by decide) eX_leastMissingSpace_1 rfl ?_
  exact l_lmsB hlt hf 6 0 (by omega)
set_option maxRecDepth 100000 in
set_option maxHeartbeats 1000000 in
theorem l_lmpA (j : Nat) (hj : j < 8) (hj0 : pi j = false) (hlt : ∀ q, q < j → pi q = true) {Psi : gR → va_W → Prop} (hf : Psi (.inl (some (.int (nI j)))) (xW cI cB h a1 a2 a3 a4 a5 F c fo sp pi rest)) : ∀ (m i : Nat), i + m = j → Go (gg D cI cB cL bb L xs) mX_leastMissingPicture n 0 0 2 [(1, .int (nI i)), (0, .ref h)] [] (xW cI cB h a1 a2 a3 a4 a5 F c fo sp pi rest) Psi := by
  intro m
  induction m with
  | zero =>
    intro i hi
    obtain rfl : i = j := by omega
    refine go_iload_n (pc := 2) 1 0 rfl rfl eX_leastMissingPicture_2 ?_
    refine go_bipush (pc := 3) (v := 8) (by decide) eX_leastMissingPicture_3 ?_
    refine go_icmp_ge (pc := 5) 25 (by decide) eX_leastMissingPicture_5 (fun c5 => ?_) (fun c5 => ?_)
    · exact absurd c5 (nI_ge (b := 8) (by omega) (by omega))
    · refine go_aload_n (pc := 8) 0 1 rfl rfl eX_leastMissingPicture_8 ?_
      refine go_get (pc := 9) hwX 0 rfl rfl 5 (by decide) lkX_42 rfl eX_leastMissingPicture_9 ?_
      refine go_iload_n (pc := 12) 1 0 rfl rfl eX_leastMissingPicture_12 ?_
      refine go_zaldN (pc := 13) 5 1 (i) eX_leastMissingPicture_13 rfl rfl (rfl) (by omega) (by omega) ?_
      refine go_if_ne (pc := 14) 19 (by decide) eX_leastMissingPicture_14 (fun c14 => ?_) (fun c14 => ?_)
      · exact absurd (bI0.mpr hj0) c14
      · refine go_iload_n (pc := 17) 1 0 rfl rfl eX_leastMissingPicture_17 ?_
        exact go_iret (pc := 18) rfl rfl eX_leastMissingPicture_18 (hf)
  | succ m ih =>
    intro i hi
    refine go_iload_n (pc := 2) 1 0 rfl rfl eX_leastMissingPicture_2 ?_
    refine go_bipush (pc := 3) (v := 8) (by decide) eX_leastMissingPicture_3 ?_
    refine go_icmp_ge (pc := 5) 25 (by decide) eX_leastMissingPicture_5 (fun c5 => ?_) (fun c5 => ?_)
    · exact absurd c5 (nI_ge (b := 8) (by omega) (by omega))
    · refine go_aload_n (pc := 8) 0 1 rfl rfl eX_leastMissingPicture_8 ?_
      refine go_get (pc := 9) hwX 0 rfl rfl 5 (by decide) lkX_42 rfl eX_leastMissingPicture_9 ?_
      refine go_iload_n (pc := 12) 1 0 rfl rfl eX_leastMissingPicture_12 ?_
      refine go_zaldN (pc := 13) 5 1 (i) eX_leastMissingPicture_13 rfl rfl (rfl) (by omega) (by omega) ?_
      refine go_if_ne (pc := 14) 19 (by decide) eX_leastMissingPicture_14 (fun c14 => ?_) (fun c14 => ?_)
      · refine go_iinc (pc := 19) (z := 1) (v := nI (i + 1)) (ls' := [(1, _), (0, _)]) 1 0 rfl (nI_1 i) (by decide) eX_leastMissingPicture_19 rfl ?_
        refine go_goto (pc := 22) 2 (by decide) eX_leastMissingPicture_22 ?_
        exact ih (i + 1) (by omega)
      · exact absurd (bI0.mp c14) (by rw [hlt i (by omega)]; decide)
set_option maxRecDepth 100000 in
set_option maxHeartbeats 1000000 in
theorem c_lmpA (j : Nat) (hj : j < 8) (hj0 : pi j = false) (hlt : ∀ q, q < j → pi q = true) : Ret (gg D cI cB cL bb L xs) mX_leastMissingPicture n 0 0 [.ref h] (xW cI cB h a1 a2 a3 a4 a5 F c fo sp pi rest) (some (.int (nI j))) (xW cI cB h a1 a2 a3 a4 a5 F c fo sp pi rest) := by
  intro Psi hf
  show Go _ _ _ _ _ 0 [(0, .ref h)] [] _ Psi
  refine go_iconst (pc := 0) (v := 0) (by decide) eX_leastMissingPicture_0 ?_
  refine go_istore_n (pc := 1) (ls' := [(1, _), (0, _)]) 1 rfl (by decide) eX_leastMissingPicture_1 rfl ?_
  exact l_lmpA j hj hj0 hlt hf j 0 (by omega)
set_option maxRecDepth 100000 in
set_option maxHeartbeats 1000000 in
theorem l_lmpB (hlt : ∀ q, q < 8 → pi q = true) {Psi : gR → va_W → Prop} (hf : Psi (.inl (some (.int (-1)))) (xW cI cB h a1 a2 a3 a4 a5 F c fo sp pi rest)) : ∀ (m i : Nat), i + m = 8 → Go (gg D cI cB cL bb L xs) mX_leastMissingPicture n 0 0 2 [(1, .int (nI i)), (0, .ref h)] [] (xW cI cB h a1 a2 a3 a4 a5 F c fo sp pi rest) Psi := by
  intro m
  induction m with
  | zero =>
    intro i hi
    obtain rfl : i = 8 := by omega
    refine go_iload_n (pc := 2) 1 0 rfl rfl eX_leastMissingPicture_2 ?_
    refine go_bipush (pc := 3) (v := 8) (by decide) eX_leastMissingPicture_3 ?_
    refine go_icmp_ge (pc := 5) 25 (by decide) eX_leastMissingPicture_5 (fun c5 => ?_) (fun c5 => ?_)
    · refine go_iconst (pc := 25) (v := (-1)) (by decide) eX_leastMissingPicture_25 ?_
      exact go_iret (pc := 26) rfl rfl eX_leastMissingPicture_26 (hf)
    · exact absurd (show (8 : Int32) ≤ nI 8 by decide) c5
  | succ m ih =>
    intro i hi
    refine go_iload_n (pc := 2) 1 0 rfl rfl eX_leastMissingPicture_2 ?_
    refine go_bipush (pc := 3) (v := 8) (by decide) eX_leastMissingPicture_3 ?_
    refine go_icmp_ge (pc := 5) 25 (by decide) eX_leastMissingPicture_5 (fun c5 => ?_) (fun c5 => ?_)
    · exact absurd c5 (nI_ge (b := 8) (by omega) (by omega))
    · refine go_aload_n (pc := 8) 0 1 rfl rfl eX_leastMissingPicture_8 ?_
      refine go_get (pc := 9) hwX 0 rfl rfl 5 (by decide) lkX_42 rfl eX_leastMissingPicture_9 ?_
      refine go_iload_n (pc := 12) 1 0 rfl rfl eX_leastMissingPicture_12 ?_
      refine go_zaldN (pc := 13) 5 1 (i) eX_leastMissingPicture_13 rfl rfl (rfl) (by omega) (by omega) ?_
      refine go_if_ne (pc := 14) 19 (by decide) eX_leastMissingPicture_14 (fun c14 => ?_) (fun c14 => ?_)
      · refine go_iinc (pc := 19) (z := 1) (v := nI (i + 1)) (ls' := [(1, _), (0, _)]) 1 0 rfl (nI_1 i) (by decide) eX_leastMissingPicture_19 rfl ?_
        refine go_goto (pc := 22) 2 (by decide) eX_leastMissingPicture_22 ?_
        exact ih (i + 1) (by omega)
      · exact absurd (bI0.mp c14) (by rw [hlt i (by omega)]; decide)
set_option maxRecDepth 100000 in
set_option maxHeartbeats 1000000 in
theorem c_lmpB (hlt : ∀ q, q < 8 → pi q = true) : Ret (gg D cI cB cL bb L xs) mX_leastMissingPicture n 0 0 [.ref h] (xW cI cB h a1 a2 a3 a4 a5 F c fo sp pi rest) (some (.int (-1))) (xW cI cB h a1 a2 a3 a4 a5 F c fo sp pi rest) := by
  intro Psi hf
  show Go _ _ _ _ _ 0 [(0, .ref h)] [] _ Psi
  refine go_iconst (pc := 0) (v := 0) (by decide) eX_leastMissingPicture_0 ?_
  refine go_istore_n (pc := 1) (ls' := [(1, _), (0, _)]) 1 rfl (by decide) eX_leastMissingPicture_1 rfl ?_
  exact l_lmpB hlt hf 8 0 (by omega)
set_option maxRecDepth 100000 in
set_option maxHeartbeats 1000000 in
theorem l_nffA (hF : F ≤ 60) (j : Nat) (hj : j < F) (hj0 : hcnt fo j = 0) (hlt : ∀ q, q < j → hcnt fo q ≠ 0) {Psi : gR → va_W → Prop} (hf : Psi (.inl (some (.int (nI j)))) (xW cI cB h a1 a2 a3 a4 a5 F c fo sp pi rest)) : ∀ (m i : Nat), i + m = j → Go (gg D cI cB cL bb L xs) mX_needFreeFrame n 0 0 2 [(1, .int (nI i)), (0, .ref h)] [] (xW cI cB h a1 a2 a3 a4 a5 F c fo sp pi rest) Psi := by
  intro m
  induction m with
  | zero =>
    intro i hi
    obtain rfl : i = j := by omega
    refine go_iload_n (pc := 2) 1 0 rfl rfl eX_needFreeFrame_2 ?_
    refine go_aload_n (pc := 3) 0 1 rfl rfl eX_needFreeFrame_3 ?_
    refine go_get (pc := 4) hwX 0 rfl rfl 0 (by decide) lkX_18 rfl eX_needFreeFrame_4 ?_
    refine go_icmp_ge (pc := 7) 27 (by decide) eX_needFreeFrame_7 (fun c7 => ?_) (fun c7 => ?_)
    · exact absurd c7 (nI_ge (by omega) (by omega))
    · refine go_aload_n (pc := 10) 0 1 rfl rfl eX_needFreeFrame_10 ?_
      refine go_get (pc := 11) hwX 0 rfl rfl 2 (by decide) lkX_26 rfl eX_needFreeFrame_11 ?_
      refine go_iload_n (pc := 14) 1 0 rfl rfl eX_needFreeFrame_14 ?_
      refine go_ialdN (pc := 15) 2 0 (i) eX_needFreeFrame_15 rfl rfl (rfl) (by omega) (by omega) ?_
      refine go_if_ne (pc := 16) 21 (by decide) eX_needFreeFrame_16 (fun c16 => ?_) (fun c16 => ?_)
      · exact absurd ((nI_z (hc31 fo i)).mpr hj0) c16
      · refine go_iload_n (pc := 19) 1 0 rfl rfl eX_needFreeFrame_19 ?_
        exact go_iret (pc := 20) rfl rfl eX_needFreeFrame_20 (hf)
  | succ m ih =>
    intro i hi
    refine go_iload_n (pc := 2) 1 0 rfl rfl eX_needFreeFrame_2 ?_
    refine go_aload_n (pc := 3) 0 1 rfl rfl eX_needFreeFrame_3 ?_
    refine go_get (pc := 4) hwX 0 rfl rfl 0 (by decide) lkX_18 rfl eX_needFreeFrame_4 ?_
    refine go_icmp_ge (pc := 7) 27 (by decide) eX_needFreeFrame_7 (fun c7 => ?_) (fun c7 => ?_)
    · exact absurd c7 (nI_ge (by omega) (by omega))
    · refine go_aload_n (pc := 10) 0 1 rfl rfl eX_needFreeFrame_10 ?_
      refine go_get (pc := 11) hwX 0 rfl rfl 2 (by decide) lkX_26 rfl eX_needFreeFrame_11 ?_
      refine go_iload_n (pc := 14) 1 0 rfl rfl eX_needFreeFrame_14 ?_
      refine go_ialdN (pc := 15) 2 0 (i) eX_needFreeFrame_15 rfl rfl (rfl) (by omega) (by omega) ?_
      refine go_if_ne (pc := 16) 21 (by decide) eX_needFreeFrame_16 (fun c16 => ?_) (fun c16 => ?_)
      · refine go_iinc (pc := 21) (z := 1) (v := nI (i + 1)) (ls' := [(1, _), (0, _)]) 1 0 rfl (nI_1 i) (by decide) eX_needFreeFrame_21 rfl ?_
        refine go_goto (pc := 24) 2 (by decide) eX_needFreeFrame_24 ?_
        exact ih (i + 1) (by omega)
      · exact absurd ((nI_z (hc31 fo i)).mp c16) (hlt i (by omega))
set_option maxRecDepth 100000 in
set_option maxHeartbeats 1000000 in
theorem c_nffA (hF : F ≤ 60) (j : Nat) (hj : j < F) (hj0 : hcnt fo j = 0) (hlt : ∀ q, q < j → hcnt fo q ≠ 0) : Ret (gg D cI cB cL bb L xs) mX_needFreeFrame n 0 0 [.ref h] (xW cI cB h a1 a2 a3 a4 a5 F c fo sp pi rest) (some (.int (nI j))) (xW cI cB h a1 a2 a3 a4 a5 F c fo sp pi rest) := by
  intro Psi hf
  show Go _ _ _ _ _ 0 [(0, .ref h)] [] _ Psi
  refine go_iconst (pc := 0) (v := 0) (by decide) eX_needFreeFrame_0 ?_
  refine go_istore_n (pc := 1) (ls' := [(1, _), (0, _)]) 1 rfl (by decide) eX_needFreeFrame_1 rfl ?_
  exact l_nffA hF j hj hj0 hlt hf j 0 (by omega)
set_option maxRecDepth 100000 in
set_option maxHeartbeats 1000000 in
theorem l_nffB (hF : F ≤ 60) (hlt : ∀ q, q < F → hcnt fo q ≠ 0) {Psi : gR → va_W → Prop} (hf : Psi (.inr "java/lang/IllegalStateException") (xW cI cB h a1 a2 a3 a4 a5 F c fo sp pi rest)) : ∀ (m i : Nat), i + m = F → Go (gg D cI cB cL bb L xs) mX_needFreeFrame (n + 1) 1 6 2 [(1, .int (nI i)), (0, .ref h)] [] (xW cI cB h a1 a2 a3 a4 a5 F c fo sp pi rest) Psi := by
  intro m
  induction m with
  | zero =>
    intro i hi
    obtain rfl : i = F := by omega
    refine go_iload_n (pc := 2) 1 0 rfl rfl eX_needFreeFrame_2 ?_
    refine go_aload_n (pc := 3) 0 1 rfl rfl eX_needFreeFrame_3 ?_
    refine go_get (pc := 4) hwX 0 rfl rfl 0 (by decide) lkX_18 rfl eX_needFreeFrame_4 ?_
    refine go_icmp_ge (pc := 7) 27 (by decide) eX_needFreeFrame_7 (fun c7 => ?_) (fun c7 => ?_)
    · exact go_throw (pc := 27) (E := "java/lang/IllegalStateException") (tx := "all frames are in use") (by decide) clX_145 it_IllegalStateException in_IllegalStateException atX_149 rfl (by omega) (by omega) (Nat.le_of_ble_eq_true rfl) eX_needFreeFrame_27 eX_needFreeFrame_30 eX_needFreeFrame_31 eX_needFreeFrame_33 eX_needFreeFrame_36 hf
    · exact absurd (nI_le (Nat.le_refl i) (by omega)) c7
  | succ m ih =>
    intro i hi
    refine go_iload_n (pc := 2) 1 0 rfl rfl eX_needFreeFrame_2 ?_
    refine go_aload_n (pc := 3) 0 1 rfl rfl eX_needFreeFrame_3 ?_
    refine go_get (pc := 4) hwX 0 rfl rfl 0 (by decide) lkX_18 rfl eX_needFreeFrame_4 ?_
    refine go_icmp_ge (pc := 7) 27 (by decide) eX_needFreeFrame_7 (fun c7 => ?_) (fun c7 => ?_)
    · exact absurd c7 (nI_ge (by omega) (by omega))
    · refine go_aload_n (pc := 10) 0 1 rfl rfl eX_needFreeFrame_10 ?_
      refine go_get (pc := 11) hwX 0 rfl rfl 2 (by decide) lkX_26 rfl eX_needFreeFrame_11 ?_
      refine go_iload_n (pc := 14) 1 0 rfl rfl eX_needFreeFrame_14 ?_
      refine go_ialdN (pc := 15) 2 0 (i) eX_needFreeFrame_15 rfl rfl (rfl) (by omega) (by omega) ?_
      refine go_if_ne (pc := 16) 21 (by decide) eX_needFreeFrame_16 (fun c16 => ?_) (fun c16 => ?_)
      · refine go_iinc (pc := 21) (z := 1) (v := nI (i + 1)) (ls' := [(1, _), (0, _)]) 1 0 rfl (nI_1 i) (by decide) eX_needFreeFrame_21 rfl ?_
        refine go_goto (pc := 24) 2 (by decide) eX_needFreeFrame_24 ?_
        exact ih (i + 1) (by omega)
      · exact absurd ((nI_z (hc31 fo i)).mp c16) (hlt i (by omega))
set_option maxRecDepth 100000 in
set_option maxHeartbeats 1000000 in
theorem t_nff (hF : F ≤ 60) (hlt : ∀ q, q < F → hcnt fo q ≠ 0) : Thr (gg D cI cB cL bb L xs) mX_needFreeFrame (n + 1) 1 6 [.ref h] (xW cI cB h a1 a2 a3 a4 a5 F c fo sp pi rest) "java/lang/IllegalStateException" := by
  intro Psi hf
  show Go _ _ _ _ _ 0 [(0, .ref h)] [] _ Psi
  refine go_iconst (pc := 0) (v := 0) (by decide) eX_needFreeFrame_0 ?_
  refine go_istore_n (pc := 1) (ls' := [(1, _), (0, _)]) 1 rfl (by decide) eX_needFreeFrame_1 rfl ?_
  exact l_nffB hF hlt hf F 0 (by omega)
set_option maxRecDepth 100000 in
set_option maxHeartbeats 1000000 in
theorem l_fiu (hF : F ≤ 60) {Psi : gR → va_W → Prop} (hf : Psi (.inl (some (.int (nI (gcnt (fun j => decide (0 < hcnt fo j)) F))))) (xW cI cB h a1 a2 a3 a4 a5 F c fo sp pi rest)) : ∀ (m i : Nat), i + m = F → Go (gg D cI cB cL bb L xs) mX_framesInUse n 0 0 4 [(2, .int (nI i)), (1, .int (nI (gcnt (fun j => decide (0 < hcnt fo j)) i))), (0, .ref h)] [] (xW cI cB h a1 a2 a3 a4 a5 F c fo sp pi rest) Psi := by
  intro m
  induction m with
  | zero =>
    intro i hi
    obtain rfl : i = F := by omega
    refine go_iload_n (pc := 4) 2 0 rfl rfl eX_framesInUse_4 ?_
    refine go_aload_n (pc := 5) 0 2 rfl rfl eX_framesInUse_5 ?_
    refine go_get (pc := 6) hwX 0 rfl rfl 0 (by decide) lkX_18 rfl eX_framesInUse_6 ?_
    refine go_icmp_ge (pc := 9) 30 (by decide) eX_framesInUse_9 (fun c9 => ?_) (fun c9 => ?_)
    · refine go_iload_n (pc := 30) 1 1 rfl rfl eX_framesInUse_30 ?_
      exact go_iret (pc := 31) rfl rfl eX_framesInUse_31 (hf)
    · exact absurd (nI_le (Nat.le_refl i) (by omega)) c9
  | succ m ih =>
    intro i hi
    refine go_iload_n (pc := 4) 2 0 rfl rfl eX_framesInUse_4 ?_
    refine go_aload_n (pc := 5) 0 2 rfl rfl eX_framesInUse_5 ?_
    refine go_get (pc := 6) hwX 0 rfl rfl 0 (by decide) lkX_18 rfl eX_framesInUse_6 ?_
    refine go_icmp_ge (pc := 9) 30 (by decide) eX_framesInUse_9 (fun c9 => ?_) (fun c9 => ?_)
    · exact absurd c9 (nI_ge (by omega) (by omega))
    · refine go_aload_n (pc := 12) 0 2 rfl rfl eX_framesInUse_12 ?_
      refine go_get (pc := 13) hwX 0 rfl rfl 2 (by decide) lkX_26 rfl eX_framesInUse_13 ?_
      refine go_iload_n (pc := 16) 2 0 rfl rfl eX_framesInUse_16 ?_
      refine go_ialdN (pc := 17) 2 0 (i) eX_framesInUse_17 rfl rfl (rfl) (by omega) (by omega) ?_
      refine go_if_le (pc := 18) 24 (by decide) eX_framesInUse_18 (fun c18 => ?_) (fun c18 => ?_)
      · have e9 : gcnt (fun j => decide (0 < hcnt fo j)) (i + 1) = gcnt (fun j => decide (0 < hcnt fo j)) i := gcnt_n (by have := (nI_lz (hc31 fo i)).mp c18; simp [this])
        refine go_iinc (pc := 24) (z := 1) (v := nI (i + 1)) (ls' := [(2, _), (1, _), (0, _)]) 2 0 rfl (nI_1 i) (by decide) eX_framesInUse_24 rfl ?_
        refine go_goto (pc := 27) 4 (by decide) eX_framesInUse_27 ?_
        rw [← e9]
        exact ih (i + 1) (by omega)
      · have e9 : gcnt (fun j => decide (0 < hcnt fo j)) (i + 1) = gcnt (fun j => decide (0 < hcnt fo j)) i + 1 := gcnt_s (by have h0 : ¬ hcnt fo i = 0 := fun z => c18 ((nI_lz (hc31 fo i)).mpr z); simp; omega)
        refine go_iinc (pc := 21) (z := 1) (v := nI (gcnt (fun j => decide (0 < hcnt fo j)) i + 1)) (ls' := [(1, _), (2, _), (0, _)]) 1 1 rfl (nI_1 _) (by decide) eX_framesInUse_21 rfl ?_
        refine go_iinc (pc := 24) (z := 1) (v := nI (i + 1)) (ls' := [(2, _), (1, _), (0, _)]) 2 1 rfl (nI_1 i) (by decide) eX_framesInUse_24 rfl ?_
        refine go_goto (pc := 27) 4 (by decide) eX_framesInUse_27 ?_
        rw [← e9]
        exact ih (i + 1) (by omega)
set_option maxRecDepth 100000 in
set_option maxHeartbeats 1000000 in
theorem c_fiu (hF : F ≤ 60) : Ret (gg D cI cB cL bb L xs) mX_framesInUse n 0 0 [.ref h] (xW cI cB h a1 a2 a3 a4 a5 F c fo sp pi rest) (some (.int (nI (gcnt (fun j => decide (0 < hcnt fo j)) F)))) (xW cI cB h a1 a2 a3 a4 a5 F c fo sp pi rest) := by
  intro Psi hf
  show Go _ _ _ _ _ 0 [(0, .ref h)] [] _ Psi
  refine go_iconst (pc := 0) (v := 0) (by decide) eX_framesInUse_0 ?_
  refine go_istore_n (pc := 1) (ls' := [(1, _), (0, _)]) 1 rfl (by decide) eX_framesInUse_1 rfl ?_
  refine go_iconst (pc := 2) (v := 0) (by decide) eX_framesInUse_2 ?_
  refine go_istore_n (pc := 3) (ls' := [(2, _), (1, _), (0, _)]) 2 rfl (by decide) eX_framesInUse_3 rfl ?_
  refine go_ls [0, 1, 2] rfl ?_
  exact l_fiu hF hf F 0 (by omega)
set_option maxRecDepth 100000 in
set_option maxHeartbeats 1000000 in
theorem l_spn  {Psi : gR → va_W → Prop} (hf : Psi (.inl (some (.int (nI (gcnt (fun s => sp (48 + s)) 6))))) (xW cI cB h a1 a2 a3 a4 a5 F c fo sp pi rest)) : ∀ (m i : Nat), i + m = 6 → Go (gg D cI cB cL bb L xs) mX_spacesNow (n + 1) 0 0 4 [(2, .int (nI i)), (1, .int (nI (gcnt (fun s => sp (48 + s)) i))), (0, .ref h)] [] (xW cI cB h a1 a2 a3 a4 a5 F c fo sp pi rest) Psi := by
  intro m
  induction m with
  | zero =>
    intro i hi
    obtain rfl : i = 6 := by omega
    refine go_iload_n (pc := 4) 2 0 rfl rfl eX_spacesNow_4 ?_
    refine go_bipush (pc := 5) (v := 6) (by decide) eX_spacesNow_5 ?_
    refine go_icmp_ge (pc := 7) 33 (by decide) eX_spacesNow_7 (fun c7 => ?_) (fun c7 => ?_)
    · refine go_iload_n (pc := 33) 1 1 rfl rfl eX_spacesNow_33 ?_
      exact go_iret (pc := 34) rfl rfl eX_spacesNow_34 (hf)
    · exact absurd (nI_le (Nat.le_refl 6) (by omega)) c7
  | succ m ih =>
    intro i hi
    refine go_iload_n (pc := 4) 2 0 rfl rfl eX_spacesNow_4 ?_
    refine go_bipush (pc := 5) (v := 6) (by decide) eX_spacesNow_5 ?_
    refine go_icmp_ge (pc := 7) 33 (by decide) eX_spacesNow_7 (fun c7 => ?_) (fun c7 => ?_)
    · exact absurd c7 (nI_ge (b := 6) (by omega) (by omega))
    · refine go_aload_n (pc := 10) 0 2 rfl rfl eX_spacesNow_10 ?_
      refine go_get (pc := 11) hwX 0 rfl rfl 4 (by decide) lkX_38 rfl eX_spacesNow_11 ?_
      refine go_bipush (pc := 14) (v := 8) (by decide) eX_spacesNow_14 ?_
      refine go_iload_n (pc := 16) 2 0 rfl rfl eX_spacesNow_16 ?_
      refine go_rS (pc := 17) (c_spaceIndex 8 i) okX_spaceIndex lmX_49 eX_spacesNow_17 rfl rfl (Nat.le_of_ble_eq_true rfl) (Nat.le_of_ble_eq_true rfl) ?_
      refine go_zaldN (pc := 20) 4 1 (48 + i) eX_spacesNow_20 rfl rfl (rfl) (by omega) (by omega) ?_
      refine go_if_eq (pc := 21) 27 (by decide) eX_spacesNow_21 (fun c21 => ?_) (fun c21 => ?_)
      · have e9 : gcnt (fun s => sp (48 + s)) (i + 1) = gcnt (fun s => sp (48 + s)) i := gcnt_n (bI0.mp c21)
        refine go_iinc (pc := 27) (z := 1) (v := nI (i + 1)) (ls' := [(2, _), (1, _), (0, _)]) 2 0 rfl (nI_1 i) (by decide) eX_spacesNow_27 rfl ?_
        refine go_goto (pc := 30) 4 (by decide) eX_spacesNow_30 ?_
        rw [← e9]
        exact ih (i + 1) (by omega)
      · have e9 : gcnt (fun s => sp (48 + s)) (i + 1) = gcnt (fun s => sp (48 + s)) i + 1 := gcnt_s (bI1 c21)
        refine go_iinc (pc := 24) (z := 1) (v := nI (gcnt (fun s => sp (48 + s)) i + 1)) (ls' := [(1, _), (2, _), (0, _)]) 1 1 rfl (nI_1 _) (by decide) eX_spacesNow_24 rfl ?_
        refine go_iinc (pc := 27) (z := 1) (v := nI (i + 1)) (ls' := [(2, _), (1, _), (0, _)]) 2 1 rfl (nI_1 i) (by decide) eX_spacesNow_27 rfl ?_
        refine go_goto (pc := 30) 4 (by decide) eX_spacesNow_30 ?_
        rw [← e9]
        exact ih (i + 1) (by omega)
set_option maxRecDepth 100000 in
set_option maxHeartbeats 1000000 in
theorem c_spn  : Ret (gg D cI cB cL bb L xs) mX_spacesNow (n + 1) 0 0 [.ref h] (xW cI cB h a1 a2 a3 a4 a5 F c fo sp pi rest) (some (.int (nI (gcnt (fun s => sp (48 + s)) 6)))) (xW cI cB h a1 a2 a3 a4 a5 F c fo sp pi rest) := by
  intro Psi hf
  show Go _ _ _ _ _ 0 [(0, .ref h)] [] _ Psi
  refine go_iconst (pc := 0) (v := 0) (by decide) eX_spacesNow_0 ?_
  refine go_istore_n (pc := 1) (ls' := [(1, _), (0, _)]) 1 rfl (by decide) eX_spacesNow_1 rfl ?_
  refine go_iconst (pc := 2) (v := 0) (by decide) eX_spacesNow_2 ?_
  refine go_istore_n (pc := 3) (ls' := [(2, _), (1, _), (0, _)]) 2 rfl (by decide) eX_spacesNow_3 rfl ?_
  refine go_ls [0, 1, 2] rfl ?_
  exact l_spn  hf 6 0 (by omega)
set_option maxRecDepth 100000 in
set_option maxHeartbeats 1000000 in
theorem l_pcn  {Psi : gR → va_W → Prop} (hf : Psi (.inl (some (.int (nI (gcnt pi 8))))) (xW cI cB h a1 a2 a3 a4 a5 F c fo sp pi rest)) : ∀ (m i : Nat), i + m = 8 → Go (gg D cI cB cL bb L xs) mX_picturesNow n 0 0 4 [(2, .int (nI i)), (1, .int (nI (gcnt pi i))), (0, .ref h)] [] (xW cI cB h a1 a2 a3 a4 a5 F c fo sp pi rest) Psi := by
  intro m
  induction m with
  | zero =>
    intro i hi
    obtain rfl : i = 8 := by omega
    refine go_iload_n (pc := 4) 2 0 rfl rfl eX_picturesNow_4 ?_
    refine go_bipush (pc := 5) (v := 8) (by decide) eX_picturesNow_5 ?_
    refine go_icmp_ge (pc := 7) 28 (by decide) eX_picturesNow_7 (fun c7 => ?_) (fun c7 => ?_)
    · refine go_iload_n (pc := 28) 1 1 rfl rfl eX_picturesNow_28 ?_
      exact go_iret (pc := 29) rfl rfl eX_picturesNow_29 (hf)
    · exact absurd (nI_le (Nat.le_refl 8) (by omega)) c7
  | succ m ih =>
    intro i hi
    refine go_iload_n (pc := 4) 2 0 rfl rfl eX_picturesNow_4 ?_
    refine go_bipush (pc := 5) (v := 8) (by decide) eX_picturesNow_5 ?_
    refine go_icmp_ge (pc := 7) 28 (by decide) eX_picturesNow_7 (fun c7 => ?_) (fun c7 => ?_)
    · exact absurd c7 (nI_ge (b := 8) (by omega) (by omega))
    · refine go_aload_n (pc := 10) 0 2 rfl rfl eX_picturesNow_10 ?_
      refine go_get (pc := 11) hwX 0 rfl rfl 5 (by decide) lkX_42 rfl eX_picturesNow_11 ?_
      refine go_iload_n (pc := 14) 2 0 rfl rfl eX_picturesNow_14 ?_
      refine go_zaldN (pc := 15) 5 1 (i) eX_picturesNow_15 rfl rfl (rfl) (by omega) (by omega) ?_
      refine go_if_eq (pc := 16) 22 (by decide) eX_picturesNow_16 (fun c16 => ?_) (fun c16 => ?_)
      · have e9 : gcnt pi (i + 1) = gcnt pi i := gcnt_n (bI0.mp c16)
        refine go_iinc (pc := 22) (z := 1) (v := nI (i + 1)) (ls' := [(2, _), (1, _), (0, _)]) 2 0 rfl (nI_1 i) (by decide) eX_picturesNow_22 rfl ?_
        refine go_goto (pc := 25) 4 (by decide) eX_picturesNow_25 ?_
        rw [← e9]
        exact ih (i + 1) (by omega)
      · have e9 : gcnt pi (i + 1) = gcnt pi i + 1 := gcnt_s (bI1 c16)
        refine go_iinc (pc := 19) (z := 1) (v := nI (gcnt pi i + 1)) (ls' := [(1, _), (2, _), (0, _)]) 1 1 rfl (nI_1 _) (by decide) eX_picturesNow_19 rfl ?_
        refine go_iinc (pc := 22) (z := 1) (v := nI (i + 1)) (ls' := [(2, _), (1, _), (0, _)]) 2 1 rfl (nI_1 i) (by decide) eX_picturesNow_22 rfl ?_
        refine go_goto (pc := 25) 4 (by decide) eX_picturesNow_25 ?_
        rw [← e9]
        exact ih (i + 1) (by omega)
set_option maxRecDepth 100000 in
set_option maxHeartbeats 1000000 in
theorem c_pcn  : Ret (gg D cI cB cL bb L xs) mX_picturesNow n 0 0 [.ref h] (xW cI cB h a1 a2 a3 a4 a5 F c fo sp pi rest) (some (.int (nI (gcnt pi 8)))) (xW cI cB h a1 a2 a3 a4 a5 F c fo sp pi rest) := by
  intro Psi hf
  show Go _ _ _ _ _ 0 [(0, .ref h)] [] _ Psi
  refine go_iconst (pc := 0) (v := 0) (by decide) eX_picturesNow_0 ?_
  refine go_istore_n (pc := 1) (ls' := [(1, _), (0, _)]) 1 rfl (by decide) eX_picturesNow_1 rfl ?_
  refine go_iconst (pc := 2) (v := 0) (by decide) eX_picturesNow_2 ?_
  refine go_istore_n (pc := 3) (ls' := [(2, _), (1, _), (0, _)]) 2 rfl (by decide) eX_picturesNow_3 rfl ?_
  refine go_ls [0, 1, 2] rfl ?_
  exact l_pcn  hf 8 0 (by omega)
set_option maxRecDepth 100000 in
set_option maxHeartbeats 1000000 in
theorem l_pgs (hF : F ≤ 60) (hfo : ∀ k j, fo k = some j → j < F) (s : Nat) (hs : s < 6) {Psi : gR → va_W → Prop} (hf : Psi (.inl (some (.int (nI (gcnt (fun p => (fo (384 + s * 8 + p)).isSome) 8))))) (xW cI cB h a1 a2 a3 a4 a5 F c fo sp pi rest)) : ∀ (m i : Nat), i + m = 8 → Go (gg D cI cB cL bb L xs) mX_pagesOfSpace (n + 1) 0 0 4 [(3, .int (nI i)), (2, .int (nI (gcnt (fun p => (fo (384 + s * 8 + p)).isSome) i))), (0, .ref h), (1, .int (nI s))] [] (xW cI cB h a1 a2 a3 a4 a5 F c fo sp pi rest) Psi := by
  intro m
  induction m with
  | zero =>
    intro i hi
    obtain rfl : i = 8 := by omega
    refine go_iload_n (pc := 4) 3 0 rfl rfl eX_pagesOfSpace_4 ?_
    refine go_bipush (pc := 5) (v := 8) (by decide) eX_pagesOfSpace_5 ?_
    refine go_icmp_ge (pc := 7) 36 (by decide) eX_pagesOfSpace_7 (fun c7 => ?_) (fun c7 => ?_)
    · refine go_iload_n (pc := 36) 2 1 rfl rfl eX_pagesOfSpace_36 ?_
      exact go_iret (pc := 37) rfl rfl eX_pagesOfSpace_37 (hf)
    · exact absurd (nI_le (Nat.le_refl 8) (by omega)) c7
  | succ m ih =>
    intro i hi
    refine go_iload_n (pc := 4) 3 0 rfl rfl eX_pagesOfSpace_4 ?_
    refine go_bipush (pc := 5) (v := 8) (by decide) eX_pagesOfSpace_5 ?_
    refine go_icmp_ge (pc := 7) 36 (by decide) eX_pagesOfSpace_7 (fun c7 => ?_) (fun c7 => ?_)
    · exact absurd c7 (nI_ge (b := 8) (by omega) (by omega))
    · refine go_aload_n (pc := 10) 0 2 rfl rfl eX_pagesOfSpace_10 ?_
      refine go_aload_n (pc := 11) 0 2 rfl rfl eX_pagesOfSpace_11 ?_
      refine go_get (pc := 12) hwX 0 rfl rfl 3 (by decide) lkX_29 rfl eX_pagesOfSpace_12 ?_
      refine go_iload_n (pc := 15) 1 3 rfl rfl eX_pagesOfSpace_15 ?_
      refine go_iload_n (pc := 16) 3 0 rfl rfl eX_pagesOfSpace_16 ?_
      refine go_rS (pc := 17) (c_pageNow s i) okX_pageNow lmX_56 eX_pagesOfSpace_17 rfl rfl (Nat.le_of_ble_eq_true rfl) (Nat.le_of_ble_eq_true rfl) ?_
      refine go_ialdN (pc := 20) 3 0 (384 + s * 8 + i) eX_pagesOfSpace_20 rfl rfl (rfl) (by omega) (by omega) ?_
      refine go_rV (pc := 21) 0 (c_isFrame hF _ (hfo _)) okX_isFrame lmX_70 eX_pagesOfSpace_21 rfl rfl rfl rfl rfl (Nat.le_of_ble_eq_true rfl) (Nat.le_of_ble_eq_true rfl) ?_
      refine go_if_eq (pc := 24) 30 (by decide) eX_pagesOfSpace_24 (fun c24 => ?_) (fun c24 => ?_)
      · have e9 : gcnt (fun p => (fo (384 + s * 8 + p)).isSome) (i + 1) = gcnt (fun p => (fo (384 + s * 8 + p)).isSome) i := gcnt_n (bI0.mp c24)
        refine go_iinc (pc := 30) (z := 1) (v := nI (i + 1)) (ls' := [(3, _), (2, _), (0, _), (1, _)]) 3 0 rfl (nI_1 i) (by decide) eX_pagesOfSpace_30 rfl ?_
        refine go_goto (pc := 33) 4 (by decide) eX_pagesOfSpace_33 ?_
        rw [← e9]
        exact ih (i + 1) (by omega)
      · have e9 : gcnt (fun p => (fo (384 + s * 8 + p)).isSome) (i + 1) = gcnt (fun p => (fo (384 + s * 8 + p)).isSome) i + 1 := gcnt_s (bI1 c24)
        refine go_iinc (pc := 27) (z := 1) (v := nI (gcnt (fun p => (fo (384 + s * 8 + p)).isSome) i + 1)) (ls' := [(2, _), (3, _), (0, _), (1, _)]) 2 1 rfl (nI_1 _) (by decide) eX_pagesOfSpace_27 rfl ?_
        refine go_iinc (pc := 30) (z := 1) (v := nI (i + 1)) (ls' := [(3, _), (2, _), (0, _), (1, _)]) 3 1 rfl (nI_1 i) (by decide) eX_pagesOfSpace_30 rfl ?_
        refine go_goto (pc := 33) 4 (by decide) eX_pagesOfSpace_33 ?_
        rw [← e9]
        exact ih (i + 1) (by omega)
set_option maxRecDepth 100000 in
set_option maxHeartbeats 1000000 in
theorem c_pgs (hF : F ≤ 60) (hfo : ∀ k j, fo k = some j → j < F) (s : Nat) (hs : s < 6) : Ret (gg D cI cB cL bb L xs) mX_pagesOfSpace (n + 1) 0 0 [.ref h, .int (nI s)] (xW cI cB h a1 a2 a3 a4 a5 F c fo sp pi rest) (some (.int (nI (gcnt (fun p => (fo (384 + s * 8 + p)).isSome) 8)))) (xW cI cB h a1 a2 a3 a4 a5 F c fo sp pi rest) := by
  intro Psi hf
  show Go _ _ _ _ _ 0 [(0, .ref h), (1, .int (nI s))] [] _ Psi
  refine go_iconst (pc := 0) (v := 0) (by decide) eX_pagesOfSpace_0 ?_
  refine go_istore_n (pc := 1) (ls' := [(2, _), (0, _), (1, _)]) 2 rfl (by decide) eX_pagesOfSpace_1 rfl ?_
  refine go_iconst (pc := 2) (v := 0) (by decide) eX_pagesOfSpace_2 ?_
  refine go_istore_n (pc := 3) (ls' := [(3, _), (2, _), (0, _), (1, _)]) 3 rfl (by decide) eX_pagesOfSpace_3 rfl ?_
  refine go_ls [0, 1, 2, 3] rfl ?_
  exact l_pgs hF hfo s hs hf 8 0 (by omega)
/-- the pages of the first spaces -/
def pgsum (fo : Nat → Option Nat) : Nat → Nat
  | 0 => 0
  | s + 1 => pgsum fo s + gcnt (fun p => (fo (384 + s * 8 + p)).isSome) 8
set_option maxRecDepth 100000 in
set_option maxHeartbeats 1000000 in
theorem l_pgn (hF : F ≤ 60) (hfo : ∀ k j, fo k = some j → j < F) {Psi : gR → va_W → Prop} (hf : Psi (.inl (some (.int (nI (pgsum fo 6))))) (xW cI cB h a1 a2 a3 a4 a5 F c fo sp pi rest)) : ∀ (m i : Nat), i + m = 6 → Go (gg D cI cB cL bb L xs) mX_pagesNow (n + 2) 0 0 4 [(2, .int (nI i)), (1, .int (nI (pgsum fo i))), (0, .ref h)] [] (xW cI cB h a1 a2 a3 a4 a5 F c fo sp pi rest) Psi := by
  intro m
  induction m with
  | zero =>
    intro i hi
    obtain rfl : i = 6 := by omega
    refine go_iload_n (pc := 4) 2 0 rfl rfl eX_pagesNow_4 ?_
    refine go_bipush (pc := 5) (v := 6) (by decide) eX_pagesNow_5 ?_
    refine go_icmp_ge (pc := 7) 24 (by decide) eX_pagesNow_7 (fun c7 => ?_) (fun c7 => ?_)
    · refine go_iload_n (pc := 24) 1 1 rfl rfl eX_pagesNow_24 ?_
      exact go_iret (pc := 25) rfl rfl eX_pagesNow_25 (hf)
    · exact absurd (show (6 : Int32) ≤ nI 6 by decide) c7
  | succ m ih =>
    intro i hi
    refine go_iload_n (pc := 4) 2 0 rfl rfl eX_pagesNow_4 ?_
    refine go_bipush (pc := 5) (v := 6) (by decide) eX_pagesNow_5 ?_
    refine go_icmp_ge (pc := 7) 24 (by decide) eX_pagesNow_7 (fun c7 => ?_) (fun c7 => ?_)
    · exact absurd c7 (nI_ge (b := 6) (by omega) (by omega))
    · refine go_iload_n (pc := 10) 1 1 rfl rfl eX_pagesNow_10 ?_
      refine go_aload_n (pc := 11) 0 2 rfl rfl eX_pagesNow_11 ?_
      refine go_iload_n (pc := 12) 2 0 rfl rfl eX_pagesNow_12 ?_
      refine go_rV (pc := 13) 0 (c_pgs hF hfo i (by omega)) okX_pagesOfSpace lmX_63 eX_pagesNow_13 rfl rfl rfl rfl rfl (Nat.le_of_ble_eq_true rfl) (Nat.le_of_ble_eq_true rfl) ?_
      refine go_iadd (pc := 16) eX_pagesNow_16 ?_
      rw [nI_add]
      refine go_istore_n (pc := 17) (ls' := [(1, _), (2, _), (0, _)]) 1 rfl (by decide) eX_pagesNow_17 rfl ?_
      refine go_iinc (pc := 18) (z := 1) (v := nI (i + 1)) (ls' := [(2, _), (1, _), (0, _)]) 2 1 rfl (nI_1 i) (by decide) eX_pagesNow_18 rfl ?_
      refine go_goto (pc := 21) 4 (by decide) eX_pagesNow_21 ?_
      exact ih (i + 1) (by omega)
set_option maxRecDepth 100000 in
set_option maxHeartbeats 1000000 in
theorem c_pgn (hF : F ≤ 60) (hfo : ∀ k j, fo k = some j → j < F) : Ret (gg D cI cB cL bb L xs) mX_pagesNow (n + 2) 0 0 [.ref h] (xW cI cB h a1 a2 a3 a4 a5 F c fo sp pi rest) (some (.int (nI (pgsum fo 6)))) (xW cI cB h a1 a2 a3 a4 a5 F c fo sp pi rest) := by
  intro Psi hf
  show Go _ _ _ _ _ 0 [(0, .ref h)] [] _ Psi
  refine go_iconst (pc := 0) (v := 0) (by decide) eX_pagesNow_0 ?_
  refine go_istore_n (pc := 1) (ls' := [(1, _), (0, _)]) 1 rfl (by decide) eX_pagesNow_1 rfl ?_
  refine go_iconst (pc := 2) (v := 0) (by decide) eX_pagesNow_2 ?_
  refine go_istore_n (pc := 3) (ls' := [(2, _), (1, _), (0, _)]) 2 rfl (by decide) eX_pagesNow_3 rfl ?_
  exact l_pgn hF hfo hf 6 0 (by omega)
end Sxb
end
section
section Sxc
variable {D : va_G} {cI cB cL : ClassId} {bb L : Nat} {xs : Nat → Int32} {n h a1 a2 a3 a4 a5 F : Nat} {c : Nat → Int32} {fo : Nat → Option Nat} {sp pi : Nat → Bool} {rest es : va_W} {f1 f2 f3 f4 f5 : Nat → Int32}
set_option maxRecDepth 100000 in
set_option maxHeartbeats 1000000 in
theorem c_isThereA (s : Nat) (hs : s < 6) : Ret (gg D cI cB cL bb L xs) mX_isThere (n + 1) 0 0 [.ref h, .int (nI s)] (xW cI cB h a1 a2 a3 a4 a5 F c fo sp pi rest) (some (.int (bI (sp (48 + s))))) (xW cI cB h a1 a2 a3 a4 a5 F c fo sp pi rest) := by
  intro Psi hf
  show Go _ _ _ _ _ 0 [(0, .ref h), (1, .int (nI s))] [] _ Psi
  refine go_iload_n (pc := 0) 1 1 rfl rfl eX_isThere_0 ?_
  refine go_if_lt (pc := 1) 28 (by decide) eX_isThere_1 (fun c1 => ?_) (fun c1 => ?_)
  · exact absurd c1 (nI_pos (by omega))
  · refine go_iload_n (pc := 4) 1 1 rfl rfl eX_isThere_4 ?_
    refine go_bipush (pc := 5) (v := 6) (by decide) eX_isThere_5 ?_
    refine go_icmp_ge (pc := 7) 28 (by decide) eX_isThere_7 (fun c7 => ?_) (fun c7 => ?_)
    · exact absurd c7 (nI_ge (b := 6) (by omega) (by omega))
    · refine go_aload_n (pc := 10) 0 0 rfl rfl eX_isThere_10 ?_
      refine go_get (pc := 11) hwX 0 rfl rfl 4 (by decide) lkX_38 rfl eX_isThere_11 ?_
      refine go_bipush (pc := 14) (v := 8) (by decide) eX_isThere_14 ?_
      refine go_iload_n (pc := 16) 1 1 rfl rfl eX_isThere_16 ?_
      refine go_rS (pc := 17) (c_spaceIndex 8 s) okX_spaceIndex lmX_49 eX_isThere_17 rfl rfl (Nat.le_of_ble_eq_true rfl) (Nat.le_of_ble_eq_true rfl) ?_
      refine go_zaldN (pc := 20) 4 1 (48 + s) eX_isThere_20 rfl rfl (rfl) (by omega) (by omega) ?_
      refine go_if_eq (pc := 21) 28 (by decide) eX_isThere_21 (fun c21 => ?_) (fun c21 => ?_)
      · rw [bI0.mp c21] at hf
        refine go_iconst (pc := 28) (v := 0) (by decide) eX_isThere_28 ?_
        exact go_iret (pc := 29) rfl rfl eX_isThere_29 (hf)
      · rw [bI1 c21] at hf
        refine go_iconst (pc := 24) (v := 1) (by decide) eX_isThere_24 ?_
        refine go_goto (pc := 25) 29 (by decide) eX_isThere_25 ?_
        exact go_iret (pc := 29) rfl rfl eX_isThere_29 (hf)
set_option maxRecDepth 100000 in
set_option maxHeartbeats 1000000 in
theorem c_isThereB (x : Int32) (hx : ∀ j, j < 6 → x = nI j → sp (48 + j) = false) : Ret (gg D cI cB cL bb L xs) mX_isThere (n + 1) 0 0 [.ref h, .int (x)] (xW cI cB h a1 a2 a3 a4 a5 F c fo sp pi rest) (some (.int (bI false))) (xW cI cB h a1 a2 a3 a4 a5 F c fo sp pi rest) := by
  intro Psi hf
  show Go _ _ _ _ _ 0 [(0, .ref h), (1, .int (x))] [] _ Psi
  refine go_iload_n (pc := 0) 1 1 rfl rfl eX_isThere_0 ?_
  refine go_if_lt (pc := 1) 28 (by decide) eX_isThere_1 (fun c1 => ?_) (fun c1 => ?_)
  · refine go_iconst (pc := 28) (v := 0) (by decide) eX_isThere_28 ?_
    exact go_iret (pc := 29) rfl rfl eX_isThere_29 (hf)
  · refine go_iload_n (pc := 4) 1 1 rfl rfl eX_isThere_4 ?_
    refine go_bipush (pc := 5) (v := 6) (by decide) eX_isThere_5 ?_
    refine go_icmp_ge (pc := 7) 28 (by decide) eX_isThere_7 (fun c7 => ?_) (fun c7 => ?_)
    · refine go_iconst (pc := 28) (v := 0) (by decide) eX_isThere_28 ?_
      exact go_iret (pc := 29) rfl rfl eX_isThere_29 (hf)
    · obtain ⟨j, hj, rfl⟩ : ∃ j, j < 6 ∧ x = nI j := by
        rcases pk_ix x (n := 6) (by omega) with q | q | q
        · exact absurd q c1
        · exact absurd q c7
        · exact q
      refine go_aload_n (pc := 10) 0 0 rfl rfl eX_isThere_10 ?_
      refine go_get (pc := 11) hwX 0 rfl rfl 4 (by decide) lkX_38 rfl eX_isThere_11 ?_
      refine go_bipush (pc := 14) (v := 8) (by decide) eX_isThere_14 ?_
      refine go_iload_n (pc := 16) 1 1 rfl rfl eX_isThere_16 ?_
      refine go_rS (pc := 17) (c_spaceIndex 8 j) okX_spaceIndex lmX_49 eX_isThere_17 rfl rfl (Nat.le_of_ble_eq_true rfl) (Nat.le_of_ble_eq_true rfl) ?_
      refine go_zaldN (pc := 20) 4 1 (48 + j) eX_isThere_20 rfl rfl (rfl) (by omega) (by omega) ?_
      refine go_if_eq (pc := 21) 28 (by decide) eX_isThere_21 (fun c21 => ?_) (fun c21 => ?_)
      · refine go_iconst (pc := 28) (v := 0) (by decide) eX_isThere_28 ?_
        exact go_iret (pc := 29) rfl rfl eX_isThere_29 (hf)
      · exact absurd (bI0.mpr (hx j hj rfl)) c21
set_option maxRecDepth 100000 in
set_option maxHeartbeats 1000000 in
theorem c_needSpace (s : Nat) (hs : s < 6) (hsp : sp (48 + s) = true) : Ret (gg D cI cB cL bb L xs) mX_needSpace (n + 2) 0 0 [.ref h, .int (nI s)] (xW cI cB h a1 a2 a3 a4 a5 F c fo sp pi rest) none (xW cI cB h a1 a2 a3 a4 a5 F c fo sp pi rest) := by
  intro Psi hf
  show Go _ _ _ _ _ 0 [(0, .ref h), (1, .int (nI s))] [] _ Psi
  refine go_aload_n (pc := 0) 0 0 rfl rfl eX_needSpace_0 ?_
  refine go_iload_n (pc := 1) 1 1 rfl rfl eX_needSpace_1 ?_
  refine go_rV (pc := 2) 0 (c_isThereA s hs) okX_isThere lmX_124 eX_needSpace_2 rfl rfl rfl rfl rfl (Nat.le_of_ble_eq_true rfl) (Nat.le_of_ble_eq_true rfl) ?_
  rw [hsp]
  refine go_if_ne (pc := 5) 18 (by decide) eX_needSpace_5 (fun c5 => ?_) (fun c5 => ?_)
  · exact go_vret (pc := 18) rfl eX_needSpace_18 (hf)
  · exact absurd c5 (by decide)
set_option maxRecDepth 100000 in
set_option maxHeartbeats 1000000 in
theorem t_needSpace (x : Int32) (hx : ∀ j, j < 6 → x = nI j → sp (48 + j) = false) : Thr (gg D cI cB cL bb L xs) mX_needSpace (n + 2) 1 6 [.ref h, .int (x)] (xW cI cB h a1 a2 a3 a4 a5 F c fo sp pi rest) "java/util/NoSuchElementException" := by
  intro Psi hf
  show Go _ _ _ _ _ 0 [(0, .ref h), (1, .int (x))] [] _ Psi
  refine go_aload_n (pc := 0) 0 0 rfl rfl eX_needSpace_0 ?_
  refine go_iload_n (pc := 1) 1 1 rfl rfl eX_needSpace_1 ?_
  refine go_rV (pc := 2) 0 (c_isThereB x hx) okX_isThere lmX_124 eX_needSpace_2 rfl rfl rfl rfl rfl (Nat.le_of_ble_eq_true rfl) (Nat.le_of_ble_eq_true rfl) ?_
  refine go_if_ne (pc := 5) 18 (by decide) eX_needSpace_5 (fun c5 => ?_) (fun c5 => ?_)
  · exact absurd rfl c5
  · exact go_throw (pc := 8) (E := "java/util/NoSuchElementException") (tx := "this space is not there") (by decide) clX_127 it_NoSuchElementException in_NoSuchElementException atX_131 rfl (by omega) (by omega) (Nat.le_of_ble_eq_true rfl) eX_needSpace_8 eX_needSpace_11 eX_needSpace_12 eX_needSpace_14 eX_needSpace_17 hf
set_option maxRecDepth 100000 in
set_option maxHeartbeats 1000000 in
theorem c_needPage (p : Nat) (hp : p < 8) : Ret (gg D cI cB cL bb L xs) mX_needPage n 0 0 [.ref h, .int (nI p)] (xW cI cB h a1 a2 a3 a4 a5 F c fo sp pi rest) none (xW cI cB h a1 a2 a3 a4 a5 F c fo sp pi rest) := by
  intro Psi hf
  show Go _ _ _ _ _ 0 [(0, .ref h), (1, .int (nI p))] [] _ Psi
  refine go_iload_n (pc := 0) 1 1 rfl rfl eX_needPage_0 ?_
  refine go_if_lt (pc := 1) 10 (by decide) eX_needPage_1 (fun c1 => ?_) (fun c1 => ?_)
  · exact absurd c1 (nI_pos (by omega))
  · refine go_iload_n (pc := 4) 1 1 rfl rfl eX_needPage_4 ?_
    refine go_bipush (pc := 5) (v := 8) (by decide) eX_needPage_5 ?_
    refine go_icmp_lt (pc := 7) 20 (by decide) eX_needPage_7 (fun c7 => ?_) (fun c7 => ?_)
    · exact go_vret (pc := 20) rfl eX_needPage_20 (hf)
    · exact absurd (nI_lt (b := 8) hp (by omega)) c7
set_option maxRecDepth 100000 in
set_option maxHeartbeats 1000000 in
theorem t_needPage (x : Int32) (hx : ∀ j, j < 8 → x ≠ nI j) : Thr (gg D cI cB cL bb L xs) mX_needPage (n + 1) 1 6 [.ref h, .int (x)] (xW cI cB h a1 a2 a3 a4 a5 F c fo sp pi rest) "java/lang/IndexOutOfBoundsException" := by
  intro Psi hf
  show Go _ _ _ _ _ 0 [(0, .ref h), (1, .int (x))] [] _ Psi
  refine go_iload_n (pc := 0) 1 1 rfl rfl eX_needPage_0 ?_
  refine go_if_lt (pc := 1) 10 (by decide) eX_needPage_1 (fun c1 => ?_) (fun c1 => ?_)
  · exact go_throw (pc := 10) (E := "java/lang/IndexOutOfBoundsException") (tx := "a page is 0 to 7") (by decide) clX_134 it_IndexOutOfBoundsException in_IndexOutOfBoundsException atX_138 rfl (by omega) (by omega) (Nat.le_of_ble_eq_true rfl) eX_needPage_10 eX_needPage_13 eX_needPage_14 eX_needPage_16 eX_needPage_19 hf
  · refine go_iload_n (pc := 4) 1 1 rfl rfl eX_needPage_4 ?_
    refine go_bipush (pc := 5) (v := 8) (by decide) eX_needPage_5 ?_
    refine go_icmp_lt (pc := 7) 20 (by decide) eX_needPage_7 (fun c7 => ?_) (fun c7 => ?_)
    · rcases pk_ix x (n := 8) (by omega) with q | q | ⟨j, hj, q⟩
      · exact absurd q c1
      · exact absurd c7 (Int32.not_lt.mpr q)
      · exact absurd q (hx j hj)
    · exact go_throw (pc := 10) (E := "java/lang/IndexOutOfBoundsException") (tx := "a page is 0 to 7") (by decide) clX_134 it_IndexOutOfBoundsException in_IndexOutOfBoundsException atX_138 rfl (by omega) (by omega) (Nat.le_of_ble_eq_true rfl) eX_needPage_10 eX_needPage_13 eX_needPage_14 eX_needPage_16 eX_needPage_19 hf
set_option maxRecDepth 100000 in
set_option maxHeartbeats 1000000 in
theorem c_needPicture (p : Nat) (hp : p < 8) (hpi : pi p = true) : Ret (gg D cI cB cL bb L xs) mX_needPicture n 0 0 [.ref h, .int (nI p)] (xW cI cB h a1 a2 a3 a4 a5 F c fo sp pi rest) none (xW cI cB h a1 a2 a3 a4 a5 F c fo sp pi rest) := by
  intro Psi hf
  show Go _ _ _ _ _ 0 [(0, .ref h), (1, .int (nI p))] [] _ Psi
  refine go_iload_n (pc := 0) 1 1 rfl rfl eX_needPicture_0 ?_
  refine go_if_lt (pc := 1) 19 (by decide) eX_needPicture_1 (fun c1 => ?_) (fun c1 => ?_)
  · exact absurd c1 (nI_pos (by omega))
  · refine go_iload_n (pc := 4) 1 1 rfl rfl eX_needPicture_4 ?_
    refine go_bipush (pc := 5) (v := 8) (by decide) eX_needPicture_5 ?_
    refine go_icmp_ge (pc := 7) 19 (by decide) eX_needPicture_7 (fun c7 => ?_) (fun c7 => ?_)
    · exact absurd c7 (nI_ge (b := 8) (by omega) (by omega))
    · refine go_aload_n (pc := 10) 0 0 rfl rfl eX_needPicture_10 ?_
      refine go_get (pc := 11) hwX 0 rfl rfl 5 (by decide) lkX_42 rfl eX_needPicture_11 ?_
      refine go_iload_n (pc := 14) 1 1 rfl rfl eX_needPicture_14 ?_
      refine go_zaldN (pc := 15) 5 1 (p) eX_needPicture_15 rfl rfl (rfl) (hp) (by omega) ?_
      refine go_if_ne (pc := 16) 29 (by decide) eX_needPicture_16 (fun c16 => ?_) (fun c16 => ?_)
      · exact go_vret (pc := 29) rfl eX_needPicture_29 (hf)
      · exact absurd (bI0.mp c16) (by rw [hpi]; decide)
set_option maxRecDepth 100000 in
set_option maxHeartbeats 1000000 in
theorem t_needPicture (x : Int32) (hx : ∀ j, j < 8 → x = nI j → pi j = false) : Thr (gg D cI cB cL bb L xs) mX_needPicture (n + 1) 1 6 [.ref h, .int (x)] (xW cI cB h a1 a2 a3 a4 a5 F c fo sp pi rest) "java/util/NoSuchElementException" := by
  intro Psi hf
  show Go _ _ _ _ _ 0 [(0, .ref h), (1, .int (x))] [] _ Psi
  refine go_iload_n (pc := 0) 1 1 rfl rfl eX_needPicture_0 ?_
  refine go_if_lt (pc := 1) 19 (by decide) eX_needPicture_1 (fun c1 => ?_) (fun c1 => ?_)
  · exact go_throw (pc := 19) (E := "java/util/NoSuchElementException") (tx := "this picture is not there") (by decide) clX_127 it_NoSuchElementException in_NoSuchElementException atX_131 rfl (by omega) (by omega) (Nat.le_of_ble_eq_true rfl) eX_needPicture_19 eX_needPicture_22 eX_needPicture_23 eX_needPicture_25 eX_needPicture_28 hf
  · refine go_iload_n (pc := 4) 1 1 rfl rfl eX_needPicture_4 ?_
    refine go_bipush (pc := 5) (v := 8) (by decide) eX_needPicture_5 ?_
    refine go_icmp_ge (pc := 7) 19 (by decide) eX_needPicture_7 (fun c7 => ?_) (fun c7 => ?_)
    · exact go_throw (pc := 19) (E := "java/util/NoSuchElementException") (tx := "this picture is not there") (by decide) clX_127 it_NoSuchElementException in_NoSuchElementException atX_131 rfl (by omega) (by omega) (Nat.le_of_ble_eq_true rfl) eX_needPicture_19 eX_needPicture_22 eX_needPicture_23 eX_needPicture_25 eX_needPicture_28 hf
    · obtain ⟨j, hj, rfl⟩ : ∃ j, j < 8 ∧ x = nI j := by
        rcases pk_ix x (n := 8) (by omega) with q | q | q
        · exact absurd q c1
        · exact absurd q c7
        · exact q
      refine go_aload_n (pc := 10) 0 0 rfl rfl eX_needPicture_10 ?_
      refine go_get (pc := 11) hwX 0 rfl rfl 5 (by decide) lkX_42 rfl eX_needPicture_11 ?_
      refine go_iload_n (pc := 14) 1 1 rfl rfl eX_needPicture_14 ?_
      refine go_zaldN (pc := 15) 5 1 (j) eX_needPicture_15 rfl rfl (rfl) (hj) (by omega) ?_
      refine go_if_ne (pc := 16) 29 (by decide) eX_needPicture_16 (fun c16 => ?_) (fun c16 => ?_)
      · exact absurd (bI0.mpr (hx j hj rfl)) c16
      · exact go_throw (pc := 19) (E := "java/util/NoSuchElementException") (tx := "this picture is not there") (by decide) clX_127 it_NoSuchElementException in_NoSuchElementException atX_131 rfl (by omega) (by omega) (Nat.le_of_ble_eq_true rfl) eX_needPicture_19 eX_needPicture_22 eX_needPicture_23 eX_needPicture_25 eX_needPicture_28 hf
set_option maxRecDepth 100000 in
set_option maxHeartbeats 1000000 in
theorem c_needTwo (s : Nat) (hs : s < 6) (hsp : sp (48 + s) = true) (t : Nat) (ht : t < 6) (htp : sp (48 + t) = true) (p q : Nat) (hp : p < 8) (hq : q < 8) : Ret (gg D cI cB cL bb L xs) mX_needTwoPages (n + 3) 0 0 [.ref h, .int (nI s), .int (nI p), .int (nI t), .int (nI q)] (xW cI cB h a1 a2 a3 a4 a5 F c fo sp pi rest) none (xW cI cB h a1 a2 a3 a4 a5 F c fo sp pi rest) := by
  intro Psi hf
  show Go _ _ _ _ _ 0 [(0, .ref h), (1, .int (nI s)), (2, .int (nI p)), (3, .int (nI t)), (4, .int (nI q))] [] _ Psi
  refine go_aload_n (pc := 0) 0 0 rfl rfl eX_needTwoPages_0 ?_
  refine go_iload_n (pc := 1) 1 1 rfl rfl eX_needTwoPages_1 ?_
  refine go_rV0 (pc := 2) 0 (c_needSpace s hs hsp) okX_needSpace lmX_52 eX_needTwoPages_2 rfl rfl rfl rfl rfl (Nat.le_of_ble_eq_true rfl) (Nat.le_of_ble_eq_true rfl) ?_
  refine go_aload_n (pc := 5) 0 0 rfl rfl eX_needTwoPages_5 ?_
  refine go_iload_n (pc := 6) 3 3 rfl rfl eX_needTwoPages_6 ?_
  refine go_rV0 (pc := 7) 0 (c_needSpace t ht htp) okX_needSpace lmX_52 eX_needTwoPages_7 rfl rfl rfl rfl rfl (Nat.le_of_ble_eq_true rfl) (Nat.le_of_ble_eq_true rfl) ?_
  refine go_aload_n (pc := 10) 0 0 rfl rfl eX_needTwoPages_10 ?_
  refine go_iload_n (pc := 11) 2 2 rfl rfl eX_needTwoPages_11 ?_
  refine go_rV0 (pc := 12) 0 (c_needPage p hp) okX_needPage lmX_67 eX_needTwoPages_12 rfl rfl rfl rfl rfl (Nat.le_of_ble_eq_true rfl) (Nat.le_of_ble_eq_true rfl) ?_
  refine go_aload_n (pc := 15) 0 0 rfl rfl eX_needTwoPages_15 ?_
  refine go_iload (pc := 16) 4 4 rfl eX_needTwoPages_16 ?_
  refine go_rV0 (pc := 18) 0 (c_needPage q hq) okX_needPage lmX_67 eX_needTwoPages_18 rfl rfl rfl rfl rfl (Nat.le_of_ble_eq_true rfl) (Nat.le_of_ble_eq_true rfl) ?_
  exact go_vret (pc := 21) rfl eX_needTwoPages_21 (hf)
set_option maxRecDepth 100000 in
set_option maxHeartbeats 1000000 in
theorem t_needTwo1 (x : Int32) (hx : ∀ j, j < 6 → x = nI j → sp (48 + j) = false) (y u v : Int32) : Thr (gg D cI cB cL bb L xs) mX_needTwoPages (n + 3) 1 6 [.ref h, .int (x), .int (u), .int (y), .int (v)] (xW cI cB h a1 a2 a3 a4 a5 F c fo sp pi rest) "java/util/NoSuchElementException" := by
  intro Psi hf
  show Go _ _ _ _ _ 0 [(0, .ref h), (1, .int (x)), (2, .int (u)), (3, .int (y)), (4, .int (v))] [] _ Psi
  refine go_aload_n (pc := 0) 0 0 rfl rfl eX_needTwoPages_0 ?_
  refine go_iload_n (pc := 1) 1 1 rfl rfl eX_needTwoPages_1 ?_
  exact go_tV (pc := 2) 0 (t_needSpace x hx) okX_needSpace lmX_52 eX_needTwoPages_2 rfl rfl rfl rfl rfl (Nat.le_of_ble_eq_true rfl) (Nat.le_of_ble_eq_true rfl) (by omega) (by omega) hf
set_option maxRecDepth 100000 in
set_option maxHeartbeats 1000000 in
theorem t_needTwo2 (s : Nat) (hs : s < 6) (hsp : sp (48 + s) = true) (x : Int32) (hx : ∀ j, j < 6 → x = nI j → sp (48 + j) = false) (u v : Int32) : Thr (gg D cI cB cL bb L xs) mX_needTwoPages (n + 3) 1 6 [.ref h, .int (nI s), .int (u), .int (x), .int (v)] (xW cI cB h a1 a2 a3 a4 a5 F c fo sp pi rest) "java/util/NoSuchElementException" := by
  intro Psi hf
  show Go _ _ _ _ _ 0 [(0, .ref h), (1, .int (nI s)), (2, .int (u)), (3, .int (x)), (4, .int (v))] [] _ Psi
  refine go_aload_n (pc := 0) 0 0 rfl rfl eX_needTwoPages_0 ?_
  refine go_iload_n (pc := 1) 1 1 rfl rfl eX_needTwoPages_1 ?_
  refine go_rV0 (pc := 2) 0 (c_needSpace s hs hsp) okX_needSpace lmX_52 eX_needTwoPages_2 rfl rfl rfl rfl rfl (Nat.le_of_ble_eq_true rfl) (Nat.le_of_ble_eq_true rfl) ?_
  refine go_aload_n (pc := 5) 0 0 rfl rfl eX_needTwoPages_5 ?_
  refine go_iload_n (pc := 6) 3 3 rfl rfl eX_needTwoPages_6 ?_
  exact go_tV (pc := 7) 0 (t_needSpace x hx) okX_needSpace lmX_52 eX_needTwoPages_7 rfl rfl rfl rfl rfl (Nat.le_of_ble_eq_true rfl) (Nat.le_of_ble_eq_true rfl) (by omega) (by omega) hf
set_option maxRecDepth 100000 in
set_option maxHeartbeats 1000000 in
theorem t_needTwo3 (s : Nat) (hs : s < 6) (hsp : sp (48 + s) = true) (t : Nat) (ht : t < 6) (htp : sp (48 + t) = true) (x : Int32) (hx : ∀ j, j < 8 → x ≠ nI j) (v : Int32) : Thr (gg D cI cB cL bb L xs) mX_needTwoPages (n + 3) 1 6 [.ref h, .int (nI s), .int (x), .int (nI t), .int (v)] (xW cI cB h a1 a2 a3 a4 a5 F c fo sp pi rest) "java/lang/IndexOutOfBoundsException" := by
  intro Psi hf
  show Go _ _ _ _ _ 0 [(0, .ref h), (1, .int (nI s)), (2, .int (x)), (3, .int (nI t)), (4, .int (v))] [] _ Psi
  refine go_aload_n (pc := 0) 0 0 rfl rfl eX_needTwoPages_0 ?_
  refine go_iload_n (pc := 1) 1 1 rfl rfl eX_needTwoPages_1 ?_
  refine go_rV0 (pc := 2) 0 (c_needSpace s hs hsp) okX_needSpace lmX_52 eX_needTwoPages_2 rfl rfl rfl rfl rfl (Nat.le_of_ble_eq_true rfl) (Nat.le_of_ble_eq_true rfl) ?_
  refine go_aload_n (pc := 5) 0 0 rfl rfl eX_needTwoPages_5 ?_
  refine go_iload_n (pc := 6) 3 3 rfl rfl eX_needTwoPages_6 ?_
  refine go_rV0 (pc := 7) 0 (c_needSpace t ht htp) okX_needSpace lmX_52 eX_needTwoPages_7 rfl rfl rfl rfl rfl (Nat.le_of_ble_eq_true rfl) (Nat.le_of_ble_eq_true rfl) ?_
  refine go_aload_n (pc := 10) 0 0 rfl rfl eX_needTwoPages_10 ?_
  refine go_iload_n (pc := 11) 2 2 rfl rfl eX_needTwoPages_11 ?_
  exact go_tV (pc := 12) 0 (t_needPage x hx) okX_needPage lmX_67 eX_needTwoPages_12 rfl rfl rfl rfl rfl (Nat.le_of_ble_eq_true rfl) (Nat.le_of_ble_eq_true rfl) (by omega) (by omega) hf
set_option maxRecDepth 100000 in
set_option maxHeartbeats 1000000 in
theorem t_needTwo4 (s : Nat) (hs : s < 6) (hsp : sp (48 + s) = true) (t : Nat) (ht : t < 6) (htp : sp (48 + t) = true) (p : Nat) (hp : p < 8) (x : Int32) (hx : ∀ j, j < 8 → x ≠ nI j) : Thr (gg D cI cB cL bb L xs) mX_needTwoPages (n + 3) 1 6 [.ref h, .int (nI s), .int (nI p), .int (nI t), .int (x)] (xW cI cB h a1 a2 a3 a4 a5 F c fo sp pi rest) "java/lang/IndexOutOfBoundsException" := by
  intro Psi hf
  show Go _ _ _ _ _ 0 [(0, .ref h), (1, .int (nI s)), (2, .int (nI p)), (3, .int (nI t)), (4, .int (x))] [] _ Psi
  refine go_aload_n (pc := 0) 0 0 rfl rfl eX_needTwoPages_0 ?_
  refine go_iload_n (pc := 1) 1 1 rfl rfl eX_needTwoPages_1 ?_
  refine go_rV0 (pc := 2) 0 (c_needSpace s hs hsp) okX_needSpace lmX_52 eX_needTwoPages_2 rfl rfl rfl rfl rfl (Nat.le_of_ble_eq_true rfl) (Nat.le_of_ble_eq_true rfl) ?_
  refine go_aload_n (pc := 5) 0 0 rfl rfl eX_needTwoPages_5 ?_
  refine go_iload_n (pc := 6) 3 3 rfl rfl eX_needTwoPages_6 ?_
  refine go_rV0 (pc := 7) 0 (c_needSpace t ht htp) okX_needSpace lmX_52 eX_needTwoPages_7 rfl rfl rfl rfl rfl (Nat.le_of_ble_eq_true rfl) (Nat.le_of_ble_eq_true rfl) ?_
  refine go_aload_n (pc := 10) 0 0 rfl rfl eX_needTwoPages_10 ?_
  refine go_iload_n (pc := 11) 2 2 rfl rfl eX_needTwoPages_11 ?_
  refine go_rV0 (pc := 12) 0 (c_needPage p hp) okX_needPage lmX_67 eX_needTwoPages_12 rfl rfl rfl rfl rfl (Nat.le_of_ble_eq_true rfl) (Nat.le_of_ble_eq_true rfl) ?_
  refine go_aload_n (pc := 15) 0 0 rfl rfl eX_needTwoPages_15 ?_
  refine go_iload (pc := 16) 4 4 rfl eX_needTwoPages_16 ?_
  exact go_tV (pc := 18) 0 (t_needPage x hx) okX_needPage lmX_67 eX_needTwoPages_18 rfl rfl rfl rfl rfl (Nat.le_of_ble_eq_true rfl) (Nat.le_of_ble_eq_true rfl) (by omega) (by omega) hf
set_option maxRecDepth 100000 in
set_option maxHeartbeats 1000000 in
theorem c_nha (hF : F ≤ 60) (hfo : ∀ k j, fo k = some j → j < F) (s : Nat) (hs : s < 6) (hsp : sp (48 + s) = true) (a : Nat) (ha : a < 128) (hfr : (fo (384 + s * 8 + a / 16)).isSome = true) : Ret (gg D cI cB cL bb L xs) mX_needHolderAt (n + 3) 0 0 [.ref h, .int (nI s), .int (nI a)] (xW cI cB h a1 a2 a3 a4 a5 F c fo sp pi rest) (some (.int (nI (384 + s * 8 + a / 16)))) (xW cI cB h a1 a2 a3 a4 a5 F c fo sp pi rest) := by
  intro Psi hf
  show Go _ _ _ _ _ 0 [(0, .ref h), (1, .int (nI s)), (2, .int (nI a))] [] _ Psi
  refine go_iload_n (pc := 0) 2 2 rfl rfl eX_needHolderAt_0 ?_
  refine go_if_lt (pc := 1) 11 (by decide) eX_needHolderAt_1 (fun c1 => ?_) (fun c1 => ?_)
  · exact absurd c1 (nI_pos (by omega))
  · refine go_iload_n (pc := 4) 2 2 rfl rfl eX_needHolderAt_4 ?_
    refine go_sipush (pc := 5) (v := 128) (by decide) eX_needHolderAt_5 ?_
    refine go_icmp_lt (pc := 8) 21 (by decide) eX_needHolderAt_8 (fun c8 => ?_) (fun c8 => ?_)
    · refine go_aload_n (pc := 21) 0 0 rfl rfl eX_needHolderAt_21 ?_
      refine go_iload_n (pc := 22) 1 1 rfl rfl eX_needHolderAt_22 ?_
      refine go_rV0 (pc := 23) 0 (c_needSpace s hs hsp) okX_needSpace lmX_52 eX_needHolderAt_23 rfl rfl rfl rfl rfl (Nat.le_of_ble_eq_true rfl) (Nat.le_of_ble_eq_true rfl) ?_
      refine go_iload_n (pc := 26) 1 1 rfl rfl eX_needHolderAt_26 ?_
      refine go_iload_n (pc := 27) 2 2 rfl rfl eX_needHolderAt_27 ?_
      refine go_bipush (pc := 28) (v := 16) (by decide) eX_needHolderAt_28 ?_
      refine go_idiv (pc := 30) (by decide) eX_needHolderAt_30 ?_
      rw [show (16 : Int32) = nI 16 from rfl, pk_div (a := a) (d := 16) (by omega) (by omega) (by omega)]
      refine go_rS (pc := 31) (c_pageNow s (a / 16)) okX_pageNow lmX_56 eX_needHolderAt_31 rfl rfl (Nat.le_of_ble_eq_true rfl) (Nat.le_of_ble_eq_true rfl) ?_
      refine go_istore_n (pc := 34) (ls' := [(3, _), (0, _), (1, _), (2, _)]) 3 rfl (by decide) eX_needHolderAt_34 rfl ?_
      refine go_aload_n (pc := 35) 0 1 rfl rfl eX_needHolderAt_35 ?_
      refine go_aload_n (pc := 36) 0 1 rfl rfl eX_needHolderAt_36 ?_
      refine go_get (pc := 37) hwX 0 rfl rfl 3 (by decide) lkX_29 rfl eX_needHolderAt_37 ?_
      refine go_iload_n (pc := 40) 3 0 rfl rfl eX_needHolderAt_40 ?_
      refine go_ialdN (pc := 41) 3 0 (384 + s * 8 + a / 16) eX_needHolderAt_41 rfl rfl (rfl) (by omega) (by omega) ?_
      refine go_rV (pc := 42) 0 (c_isFrame hF _ (hfo _)) okX_isFrame lmX_70 eX_needHolderAt_42 rfl rfl rfl rfl rfl (Nat.le_of_ble_eq_true rfl) (Nat.le_of_ble_eq_true rfl) ?_
      refine go_if_ne (pc := 45) 58 (by decide) eX_needHolderAt_45 (fun c45 => ?_) (fun c45 => ?_)
      · refine go_iload_n (pc := 58) 3 0 rfl rfl eX_needHolderAt_58 ?_
        exact go_iret (pc := 59) rfl rfl eX_needHolderAt_59 (hf)
      · exact absurd (bI0.mp c45) (by rw [hfr]; decide)
    · exact absurd (nI_lt (b := 128) ha (by omega)) c8
set_option maxRecDepth 100000 in
set_option maxHeartbeats 1000000 in
theorem t_nha3 (hF : F ≤ 60) (hfo : ∀ k j, fo k = some j → j < F) (s : Nat) (hs : s < 6) (hsp : sp (48 + s) = true) (a : Nat) (ha : a < 128) (hfr : (fo (384 + s * 8 + a / 16)).isSome = false) : Thr (gg D cI cB cL bb L xs) mX_needHolderAt (n + 3) 1 6 [.ref h, .int (nI s), .int (nI a)] (xW cI cB h a1 a2 a3 a4 a5 F c fo sp pi rest) "java/util/NoSuchElementException" := by
  intro Psi hf
  show Go _ _ _ _ _ 0 [(0, .ref h), (1, .int (nI s)), (2, .int (nI a))] [] _ Psi
  refine go_iload_n (pc := 0) 2 2 rfl rfl eX_needHolderAt_0 ?_
  refine go_if_lt (pc := 1) 11 (by decide) eX_needHolderAt_1 (fun c1 => ?_) (fun c1 => ?_)
  · exact absurd c1 (nI_pos (by omega))
  · refine go_iload_n (pc := 4) 2 2 rfl rfl eX_needHolderAt_4 ?_
    refine go_sipush (pc := 5) (v := 128) (by decide) eX_needHolderAt_5 ?_
    refine go_icmp_lt (pc := 8) 21 (by decide) eX_needHolderAt_8 (fun c8 => ?_) (fun c8 => ?_)
    · refine go_aload_n (pc := 21) 0 0 rfl rfl eX_needHolderAt_21 ?_
      refine go_iload_n (pc := 22) 1 1 rfl rfl eX_needHolderAt_22 ?_
      refine go_rV0 (pc := 23) 0 (c_needSpace s hs hsp) okX_needSpace lmX_52 eX_needHolderAt_23 rfl rfl rfl rfl rfl (Nat.le_of_ble_eq_true rfl) (Nat.le_of_ble_eq_true rfl) ?_
      refine go_iload_n (pc := 26) 1 1 rfl rfl eX_needHolderAt_26 ?_
      refine go_iload_n (pc := 27) 2 2 rfl rfl eX_needHolderAt_27 ?_
      refine go_bipush (pc := 28) (v := 16) (by decide) eX_needHolderAt_28 ?_
      refine go_idiv (pc := 30) (by decide) eX_needHolderAt_30 ?_
      rw [show (16 : Int32) = nI 16 from rfl, pk_div (a := a) (d := 16) (by omega) (by omega) (by omega)]
      refine go_rS (pc := 31) (c_pageNow s (a / 16)) okX_pageNow lmX_56 eX_needHolderAt_31 rfl rfl (Nat.le_of_ble_eq_true rfl) (Nat.le_of_ble_eq_true rfl) ?_
      refine go_istore_n (pc := 34) (ls' := [(3, _), (0, _), (1, _), (2, _)]) 3 rfl (by decide) eX_needHolderAt_34 rfl ?_
      refine go_aload_n (pc := 35) 0 1 rfl rfl eX_needHolderAt_35 ?_
      refine go_aload_n (pc := 36) 0 1 rfl rfl eX_needHolderAt_36 ?_
      refine go_get (pc := 37) hwX 0 rfl rfl 3 (by decide) lkX_29 rfl eX_needHolderAt_37 ?_
      refine go_iload_n (pc := 40) 3 0 rfl rfl eX_needHolderAt_40 ?_
      refine go_ialdN (pc := 41) 3 0 (384 + s * 8 + a / 16) eX_needHolderAt_41 rfl rfl (rfl) (by omega) (by omega) ?_
      refine go_rV (pc := 42) 0 (c_isFrame hF _ (hfo _)) okX_isFrame lmX_70 eX_needHolderAt_42 rfl rfl rfl rfl rfl (Nat.le_of_ble_eq_true rfl) (Nat.le_of_ble_eq_true rfl) ?_
      refine go_if_ne (pc := 45) 58 (by decide) eX_needHolderAt_45 (fun c45 => ?_) (fun c45 => ?_)
      · exact absurd (bI0.mpr hfr) c45
      · exact go_throw (pc := 48) (E := "java/util/NoSuchElementException") (tx := "this page is absent") (by decide) clX_127 it_NoSuchElementException in_NoSuchElementException atX_131 rfl (by omega) (by omega) (Nat.le_of_ble_eq_true rfl) eX_needHolderAt_48 eX_needHolderAt_51 eX_needHolderAt_52 eX_needHolderAt_54 eX_needHolderAt_57 hf
    · exact absurd (nI_lt (b := 128) ha (by omega)) c8
set_option maxRecDepth 100000 in
set_option maxHeartbeats 1000000 in
theorem t_nha2 (x : Int32) (hx : ∀ j, j < 6 → x = nI j → sp (48 + j) = false) (a : Nat) (ha : a < 128) : Thr (gg D cI cB cL bb L xs) mX_needHolderAt (n + 3) 1 6 [.ref h, .int (x), .int (nI a)] (xW cI cB h a1 a2 a3 a4 a5 F c fo sp pi rest) "java/util/NoSuchElementException" := by
  intro Psi hf
  show Go _ _ _ _ _ 0 [(0, .ref h), (1, .int (x)), (2, .int (nI a))] [] _ Psi
  refine go_iload_n (pc := 0) 2 2 rfl rfl eX_needHolderAt_0 ?_
  refine go_if_lt (pc := 1) 11 (by decide) eX_needHolderAt_1 (fun c1 => ?_) (fun c1 => ?_)
  · exact absurd c1 (nI_pos (by omega))
  · refine go_iload_n (pc := 4) 2 2 rfl rfl eX_needHolderAt_4 ?_
    refine go_sipush (pc := 5) (v := 128) (by decide) eX_needHolderAt_5 ?_
    refine go_icmp_lt (pc := 8) 21 (by decide) eX_needHolderAt_8 (fun c8 => ?_) (fun c8 => ?_)
    · refine go_aload_n (pc := 21) 0 0 rfl rfl eX_needHolderAt_21 ?_
      refine go_iload_n (pc := 22) 1 1 rfl rfl eX_needHolderAt_22 ?_
      exact go_tV (pc := 23) 0 (t_needSpace x hx) okX_needSpace lmX_52 eX_needHolderAt_23 rfl rfl rfl rfl rfl (Nat.le_of_ble_eq_true rfl) (Nat.le_of_ble_eq_true rfl) (by omega) (by omega) hf
    · exact absurd (nI_lt (b := 128) ha (by omega)) c8
set_option maxRecDepth 100000 in
set_option maxHeartbeats 1000000 in
theorem t_nha1 (y x : Int32) (hx : ∀ j, j < 128 → x ≠ nI j) : Thr (gg D cI cB cL bb L xs) mX_needHolderAt (n + 3) 1 6 [.ref h, .int (y), .int (x)] (xW cI cB h a1 a2 a3 a4 a5 F c fo sp pi rest) "java/lang/IndexOutOfBoundsException" := by
  intro Psi hf
  show Go _ _ _ _ _ 0 [(0, .ref h), (1, .int (y)), (2, .int (x))] [] _ Psi
  refine go_iload_n (pc := 0) 2 2 rfl rfl eX_needHolderAt_0 ?_
  refine go_if_lt (pc := 1) 11 (by decide) eX_needHolderAt_1 (fun c1 => ?_) (fun c1 => ?_)
  · exact go_throw (pc := 11) (E := "java/lang/IndexOutOfBoundsException") (tx := "an address is 0 to 127") (by decide) clX_134 it_IndexOutOfBoundsException in_IndexOutOfBoundsException atX_138 rfl (by omega) (by omega) (Nat.le_of_ble_eq_true rfl) eX_needHolderAt_11 eX_needHolderAt_14 eX_needHolderAt_15 eX_needHolderAt_17 eX_needHolderAt_20 hf
  · refine go_iload_n (pc := 4) 2 2 rfl rfl eX_needHolderAt_4 ?_
    refine go_sipush (pc := 5) (v := 128) (by decide) eX_needHolderAt_5 ?_
    refine go_icmp_lt (pc := 8) 21 (by decide) eX_needHolderAt_8 (fun c8 => ?_) (fun c8 => ?_)
    · rcases pk_ix x (n := 128) (by omega) with q | q | ⟨j, hj, q⟩
      · exact absurd q c1
      · exact absurd c8 (Int32.not_lt.mpr q)
      · exact absurd q (hx j hj)
    · exact go_throw (pc := 11) (E := "java/lang/IndexOutOfBoundsException") (tx := "an address is 0 to 127") (by decide) clX_134 it_IndexOutOfBoundsException in_IndexOutOfBoundsException atX_138 rfl (by omega) (by omega) (Nat.le_of_ble_eq_true rfl) eX_needHolderAt_11 eX_needHolderAt_14 eX_needHolderAt_15 eX_needHolderAt_17 eX_needHolderAt_20 hf
end Sxc
end
section
section Sxd
variable {D : va_G} {cI cB cL : ClassId} {bb L : Nat} {xs : Nat → Int32} {n h a1 a2 a3 a4 a5 F : Nat} {c : Nat → Int32} {fo : Nat → Option Nat} {sp pi : Nat → Bool} {rest es : va_W} {f1 f2 f3 f4 f5 : Nat → Int32}
theorem cpy_up {α : Type} {f g : Nat → α} {s d i : Nat} : va_up (va_cpy f g s d i) (d + i) (f (s + i)) = va_cpy f g s d (i + 1) := by
  funext q
  by_cases e : q = d + i
  · subst e
    simp only [va_up, va_cpy, if_true]
    rw [if_pos (by omega)]
    congr 1
    omega
  · simp only [va_up, va_cpy, if_neg e]
    by_cases h : d ≤ q ∧ q < d + i
    · rw [if_pos h, if_pos (by omega)]
    · rw [if_neg h, if_neg (by omega)]
theorem cpy_0 {α : Type} {f g : Nat → α} {s d : Nat} : va_cpy f g s d 0 = g := by
  funext q
  simp only [va_cpy]
  rw [if_neg (by omega)]
theorem upd_up (f : Nat → Int32) (k : Nat) (x : Int32) : upd f k x = va_up f k x := rfl
theorem hfo_cpy {fo f : Nat → Option Nat} {F s d i : Nat} (hfo : ∀ k j, fo k = some j → j < F) (hf : ∀ k j, f k = some j → j < F) : ∀ k j, va_cpy f fo s d i k = some j → j < F := by
  intro k j h
  simp only [va_cpy] at h
  split at h
  · exact hf _ _ h
  · exact hfo _ _ h
theorem hfo_up {fo : Nat → Option Nat} {F k : Nat} {o : Option Nat} (hfo : ∀ k j, fo k = some j → j < F) (ho : ∀ j, o = some j → j < F) : ∀ q j, va_up fo k o q = some j → j < F := by
  intro q j h
  simp only [va_up] at h
  split at h
  · exact ho _ h
  · exact hfo _ _ h
/-- every holder of frame b among the first i comes into frame e -/
def mvf (fo : Nat → Option Nat) (b e i : Nat) : Nat → Option Nat := fun q => if q < i ∧ fo q = some b then some e else fo q
theorem mvf_0 {fo : Nat → Option Nat} {b e : Nat} : mvf fo b e 0 = fo := by
  funext q; simp [mvf]
theorem mvf_at {fo : Nat → Option Nat} {b e i : Nat} : mvf fo b e i i = fo i := by simp [mvf]
theorem mvf_n {fo : Nat → Option Nat} {b e i : Nat} (h : ¬ fo i = some b) : mvf fo b e (i + 1) = mvf fo b e i := by
  funext q
  simp only [mvf]
  by_cases z : q = i
  · subst z; simp [h]
  · have : (q < i + 1) = (q < i) := by apply propext; omega
    simp only [this]
theorem mvf_s {fo : Nat → Option Nat} {b e i : Nat} (h : fo i = some b) : va_up (mvf fo b e i) i (some e) = mvf fo b e (i + 1) := by
  funext q
  simp only [mvf, va_up]
  by_cases z : q = i
  · subst z; simp [h]
  · have : (q < i + 1) = (q < i) := by apply propext; omega
    simp only [this, if_neg z]
theorem hfo_mvf {fo : Nat → Option Nat} {F b e i : Nat} (hfo : ∀ k j, fo k = some j → j < F) (he : e < F) : ∀ q j, mvf fo b e i q = some j → j < F := by
  intro q j h
  simp only [mvf] at h
  split at h
  · cases h; exact he
  · exact hfo _ _ h
theorem m16 (a i : Nat) : nI a * 16 + nI i = nI (a * 16 + i) := by rw [show (16 : Int32) = nI 16 from rfl, pk_mul, nI_add]
theorem m48 (a i : Nat) : nI a * 48 + nI i = nI (a * 48 + i) := by rw [show (48 : Int32) = nI 48 from rfl, pk_mul, nI_add]
set_option maxRecDepth 100000 in
set_option maxHeartbeats 1000000 in
theorem l_fill (hF : F ≤ 60) (j : Nat) (hj : j < F) (v : Int32) {Psi : gR → va_W → Prop} (hf : Psi (.inl none) (xW cI cB h a1 a2 a3 a4 a5 F (va_cpy (fun _ => v) c 0 (j * 16) 16) fo sp pi rest)) : ∀ (m i : Nat), i + m = 16 → Go (gg D cI cB cL bb L xs) mX_fillFrame n 0 0 2 [(3, .int (nI i)), (0, .ref h), (1, .int (nI j)), (2, .int (v))] [] (xW cI cB h a1 a2 a3 a4 a5 F (va_cpy (fun _ => v) c 0 (j * 16) i) fo sp pi rest) Psi := by
  intro m
  induction m with
  | zero =>
    intro i hi
    obtain rfl : i = 16 := by omega
    refine go_iload_n (pc := 2) 3 0 rfl rfl eX_fillFrame_2 ?_
    refine go_bipush (pc := 3) (v := 16) (by decide) eX_fillFrame_3 ?_
    refine go_icmp_ge (pc := 5) 26 (by decide) eX_fillFrame_5 (fun c5 => ?_) (fun c5 => ?_)
    · exact go_vret (pc := 26) rfl eX_fillFrame_26 (hf)
    · exact absurd (show (16 : Int32) ≤ nI 16 by decide) c5
  | succ m ih =>
    intro i hi
    refine go_iload_n (pc := 2) 3 0 rfl rfl eX_fillFrame_2 ?_
    refine go_bipush (pc := 3) (v := 16) (by decide) eX_fillFrame_3 ?_
    refine go_icmp_ge (pc := 5) 26 (by decide) eX_fillFrame_5 (fun c5 => ?_) (fun c5 => ?_)
    · exact absurd c5 (nI_ge (b := 16) (by omega) (by omega))
    · refine go_aload_n (pc := 8) 0 1 rfl rfl eX_fillFrame_8 ?_
      refine go_get (pc := 9) hwX 0 rfl rfl 1 (by decide) lkX_22 rfl eX_fillFrame_9 ?_
      refine go_iload_n (pc := 12) 1 2 rfl rfl eX_fillFrame_12 ?_
      refine go_bipush (pc := 13) (v := 16) (by decide) eX_fillFrame_13 ?_
      refine go_imul (pc := 15) eX_fillFrame_15 ?_
      refine go_iload_n (pc := 16) 3 0 rfl rfl eX_fillFrame_16 ?_
      refine go_iadd (pc := 17) eX_fillFrame_17 ?_
      refine go_iload_n (pc := 18) 2 3 rfl rfl eX_fillFrame_18 ?_
      refine go_iastN (pc := 19) (es' := (xW cI cB h a1 a2 a3 a4 a5 F (va_cpy (fun _ => v) c 0 (j * 16) (i + 1)) fo sp pi rest)) 1 0 (j * 16 + i) eX_fillFrame_19 rfl rfl (m16 j i) (by omega) (by omega) (xs1 cpy_up) ?_
      refine go_iinc (pc := 20) (z := 1) (v := nI (i + 1)) (ls' := [(3, _), (0, _), (1, _), (2, _)]) 3 0 rfl (nI_1 i) (by decide) eX_fillFrame_20 rfl ?_
      refine go_goto (pc := 23) 2 (by decide) eX_fillFrame_23 ?_
      exact ih (i + 1) (by omega)
set_option maxRecDepth 100000 in
set_option maxHeartbeats 1000000 in
theorem c_fill (hF : F ≤ 60) (j : Nat) (hj : j < F) (v : Int32) : Ret (gg D cI cB cL bb L xs) mX_fillFrame n 0 0 [.ref h, .int (nI j), .int (v)] (xW cI cB h a1 a2 a3 a4 a5 F c fo sp pi rest) none (xW cI cB h a1 a2 a3 a4 a5 F (va_cpy (fun _ => v) c 0 (j * 16) 16) fo sp pi rest) := by
  intro Psi hf
  show Go _ _ _ _ _ 0 [(0, .ref h), (1, .int (nI j)), (2, .int (v))] [] _ Psi
  refine go_iconst (pc := 0) (v := 0) (by decide) eX_fillFrame_0 ?_
  refine go_istore_n (pc := 1) (ls' := [(3, _), (0, _), (1, _), (2, _)]) 3 rfl (by decide) eX_fillFrame_1 rfl ?_
  refine go_es (es' := (xW cI cB h a1 a2 a3 a4 a5 F (va_cpy (fun _ => v) c 0 (j * 16) 0) fo sp pi rest)) (by rw [cpy_0]) ?_
  exact l_fill hF j hj v hf 16 0 (by omega)
set_option maxRecDepth 100000 in
set_option maxHeartbeats 1000000 in
theorem l_same (hF : F ≤ 60) (f e : Nat) (hff : f < F) (he : e < F) {Psi : gR → va_W → Prop} (hf : Psi (.inl (some (.int (bI (decide (gcnt (fun q => decide (¬ c (f * 16 + q) = c (e * 16 + q))) 16 = 0)))))) (xW cI cB h a1 a2 a3 a4 a5 F c fo sp pi rest)) : ∀ (m i : Nat) (hq : ∀ q, q < i → c (f * 16 + q) = c (e * 16 + q)), i + m = 16 → Go (gg D cI cB cL bb L xs) mX_haveSameCells n 0 0 2 [(3, .int (nI i)), (0, .ref h), (1, .int (nI f)), (2, .int (nI e))] [] (xW cI cB h a1 a2 a3 a4 a5 F c fo sp pi rest) Psi := by
  intro m
  induction m with
  | zero =>
    intro i hq hi
    obtain rfl : i = 16 := by omega
    refine go_iload_n (pc := 2) 3 0 rfl rfl eX_haveSameCells_2 ?_
    refine go_bipush (pc := 3) (v := 16) (by decide) eX_haveSameCells_3 ?_
    refine go_icmp_ge (pc := 5) 41 (by decide) eX_haveSameCells_5 (fun c5 => ?_) (fun c5 => ?_)
    · rw [show decide (gcnt (fun q => decide (¬ c (f * 16 + q) = c (e * 16 + q))) 16 = 0) = true from decide_eq_true (gcnt_zero (fun q z => decide_eq_false (fun y => y (hq q z))))] at hf
      refine go_iconst (pc := 41) (v := 1) (by decide) eX_haveSameCells_41 ?_
      exact go_iret (pc := 42) rfl rfl eX_haveSameCells_42 (hf)
    · exact absurd (show (16 : Int32) ≤ nI 16 by decide) c5
  | succ m ih =>
    intro i hq hi
    refine go_iload_n (pc := 2) 3 0 rfl rfl eX_haveSameCells_2 ?_
    refine go_bipush (pc := 3) (v := 16) (by decide) eX_haveSameCells_3 ?_
    refine go_icmp_ge (pc := 5) 41 (by decide) eX_haveSameCells_5 (fun c5 => ?_) (fun c5 => ?_)
    · exact absurd c5 (nI_ge (b := 16) (by omega) (by omega))
    · refine go_aload_n (pc := 8) 0 1 rfl rfl eX_haveSameCells_8 ?_
      refine go_get (pc := 9) hwX 0 rfl rfl 1 (by decide) lkX_22 rfl eX_haveSameCells_9 ?_
      refine go_iload_n (pc := 12) 1 2 rfl rfl eX_haveSameCells_12 ?_
      refine go_bipush (pc := 13) (v := 16) (by decide) eX_haveSameCells_13 ?_
      refine go_imul (pc := 15) eX_haveSameCells_15 ?_
      refine go_iload_n (pc := 16) 3 0 rfl rfl eX_haveSameCells_16 ?_
      refine go_iadd (pc := 17) eX_haveSameCells_17 ?_
      refine go_ialdN (pc := 18) 1 0 (f * 16 + i) eX_haveSameCells_18 rfl rfl (m16 f i) (by omega) (by omega) ?_
      refine go_aload_n (pc := 19) 0 1 rfl rfl eX_haveSameCells_19 ?_
      refine go_get (pc := 20) hwX 0 rfl rfl 1 (by decide) lkX_22 rfl eX_haveSameCells_20 ?_
      refine go_iload_n (pc := 23) 2 3 rfl rfl eX_haveSameCells_23 ?_
      refine go_bipush (pc := 24) (v := 16) (by decide) eX_haveSameCells_24 ?_
      refine go_imul (pc := 26) eX_haveSameCells_26 ?_
      refine go_iload_n (pc := 27) 3 0 rfl rfl eX_haveSameCells_27 ?_
      refine go_iadd (pc := 28) eX_haveSameCells_28 ?_
      refine go_ialdN (pc := 29) 1 0 (e * 16 + i) eX_haveSameCells_29 rfl rfl (m16 e i) (by omega) (by omega) ?_
      refine go_icmp_eq (pc := 30) 35 (by decide) eX_haveSameCells_30 (fun c30 => ?_) (fun c30 => ?_)
      · refine go_iinc (pc := 35) (z := 1) (v := nI (i + 1)) (ls' := [(3, _), (0, _), (1, _), (2, _)]) 3 0 rfl (nI_1 i) (by decide) eX_haveSameCells_35 rfl ?_
        refine go_goto (pc := 38) 2 (by decide) eX_haveSameCells_38 ?_
        exact ih (i + 1) (fun q z => by
          by_cases y : q = i
          · rw [y]; exact c30
          · exact hq q (by omega)) (by omega)
      · rw [show decide (gcnt (fun q => decide (¬ c (f * 16 + q) = c (e * 16 + q))) 16 = 0) = false from decide_eq_false (by have := gcnt_pos (p := (fun q => decide (¬ c (f * 16 + q) = c (e * 16 + q)))) (k := i) (n := 16) (by omega) (decide_eq_true c30); omega)] at hf
        refine go_iconst (pc := 33) (v := 0) (by decide) eX_haveSameCells_33 ?_
        exact go_iret (pc := 34) rfl rfl eX_haveSameCells_34 (hf)
set_option maxRecDepth 100000 in
set_option maxHeartbeats 1000000 in
theorem c_same (hF : F ≤ 60) (f e : Nat) (hff : f < F) (he : e < F) : Ret (gg D cI cB cL bb L xs) mX_haveSameCells n 0 0 [.ref h, .int (nI f), .int (nI e)] (xW cI cB h a1 a2 a3 a4 a5 F c fo sp pi rest) (some (.int (bI (decide (gcnt (fun q => decide (¬ c (f * 16 + q) = c (e * 16 + q))) 16 = 0))))) (xW cI cB h a1 a2 a3 a4 a5 F c fo sp pi rest) := by
  intro Psi hf
  show Go _ _ _ _ _ 0 [(0, .ref h), (1, .int (nI f)), (2, .int (nI e))] [] _ Psi
  refine go_iconst (pc := 0) (v := 0) (by decide) eX_haveSameCells_0 ?_
  refine go_istore_n (pc := 1) (ls' := [(3, _), (0, _), (1, _), (2, _)]) 3 rfl (by decide) eX_haveSameCells_1 rfl ?_
  exact l_same hF f e hff he hf 16 0 (fun q z => absurd z (Nat.not_lt_zero q)) (by omega)
set_option maxRecDepth 100000 in
set_option maxHeartbeats 1000000 in
theorem l_mv (hF : F ≤ 60) (hfo : ∀ k j, fo k = some j → j < F) (b e : Nat) (hb : b < F) (he : e < F) {Psi : gR → va_W → Prop} (hf : Psi (.inl none) (xW cI cB h a1 a2 a3 a4 a5 F c (mvf fo b e 432) sp pi rest)) : ∀ (m i : Nat), i + m = 432 → Go (gg D cI cB cL bb L xs) mX_moveHolders (n + 2) 0 0 2 [(3, .int (nI i)), (0, .ref h), (1, .int (nI b)), (2, .int (nI e))] [] (xW cI cB h a1 a2 a3 a4 a5 F c (mvf fo b e i) sp pi rest) Psi := by
  intro m
  induction m with
  | zero =>
    intro i hi
    obtain rfl : i = 432 := by omega
    refine go_iload_n (pc := 2) 3 0 rfl rfl eX_moveHolders_2 ?_
    refine go_sipush (pc := 3) (v := 432) (by decide) eX_moveHolders_3 ?_
    refine go_icmp_ge (pc := 6) 31 (by decide) eX_moveHolders_6 (fun c6 => ?_) (fun c6 => ?_)
    · exact go_vret (pc := 31) rfl eX_moveHolders_31 (hf)
    · exact absurd (show (432 : Int32) ≤ nI 432 by decide) c6
  | succ m ih =>
    intro i hi
    refine go_iload_n (pc := 2) 3 0 rfl rfl eX_moveHolders_2 ?_
    refine go_sipush (pc := 3) (v := 432) (by decide) eX_moveHolders_3 ?_
    refine go_icmp_ge (pc := 6) 31 (by decide) eX_moveHolders_6 (fun c6 => ?_) (fun c6 => ?_)
    · exact absurd c6 (nI_ge (b := 432) (by omega) (by omega))
    · refine go_aload_n (pc := 9) 0 1 rfl rfl eX_moveHolders_9 ?_
      refine go_get (pc := 10) hwX 0 rfl rfl 3 (by decide) lkX_29 rfl eX_moveHolders_10 ?_
      refine go_iload_n (pc := 13) 3 0 rfl rfl eX_moveHolders_13 ?_
      refine go_ialdN (pc := 14) 3 0 (i) eX_moveHolders_14 rfl rfl (rfl) (by omega) (by omega) ?_
      rw [mvf_at]
      refine go_iload_n (pc := 15) 1 2 rfl rfl eX_moveHolders_15 ?_
      refine go_icmp_ne (pc := 16) 25 (by decide) eX_moveHolders_16 (fun c16 => ?_) (fun c16 => ?_)
      · have hne : ¬ fo i = some b := fun z => c16 (by rw [z]; rfl)
        rw [← mvf_n (e := e) hne]
        try rw [mvf_s heq]
        refine go_iinc (pc := 25) (z := 1) (v := nI (i + 1)) (ls' := [(3, _), (0, _), (1, _), (2, _)]) 3 0 rfl (nI_1 i) (by decide) eX_moveHolders_25 rfl ?_
        refine go_goto (pc := 28) 2 (by decide) eX_moveHolders_28 ?_
        exact ih (i + 1) (by omega)
      · have heq : fo i = some b := (oI_inj (fun j z => by have := hfo i j z; omega) (fun j z => by cases z; omega)).mp c16
        refine go_aload_n (pc := 19) 0 1 rfl rfl eX_moveHolders_19 ?_
        refine go_iload_n (pc := 20) 3 0 rfl rfl eX_moveHolders_20 ?_
        refine go_iload_n (pc := 21) 2 3 rfl rfl eX_moveHolders_21 ?_
        refine go_rV0 (pc := 22) 0 (c_standIn hF (hfo_mvf hfo he) i (by omega) (some e) (fun j z => by cases z; exact he)) okX_standIn lmX_59 eX_moveHolders_22 rfl rfl rfl rfl rfl (Nat.le_of_ble_eq_true rfl) (Nat.le_of_ble_eq_true rfl) ?_
        try rw [mvf_s heq]
        refine go_iinc (pc := 25) (z := 1) (v := nI (i + 1)) (ls' := [(3, _), (0, _), (1, _), (2, _)]) 3 0 rfl (nI_1 i) (by decide) eX_moveHolders_25 rfl ?_
        refine go_goto (pc := 28) 2 (by decide) eX_moveHolders_28 ?_
        exact ih (i + 1) (by omega)
set_option maxRecDepth 100000 in
set_option maxHeartbeats 1000000 in
theorem c_mv (hF : F ≤ 60) (hfo : ∀ k j, fo k = some j → j < F) (b e : Nat) (hb : b < F) (he : e < F) : Ret (gg D cI cB cL bb L xs) mX_moveHolders (n + 2) 0 0 [.ref h, .int (nI b), .int (nI e)] (xW cI cB h a1 a2 a3 a4 a5 F c fo sp pi rest) none (xW cI cB h a1 a2 a3 a4 a5 F c (mvf fo b e 432) sp pi rest) := by
  intro Psi hf
  show Go _ _ _ _ _ 0 [(0, .ref h), (1, .int (nI b)), (2, .int (nI e))] [] _ Psi
  refine go_iconst (pc := 0) (v := 0) (by decide) eX_moveHolders_0 ?_
  refine go_istore_n (pc := 1) (ls' := [(3, _), (0, _), (1, _), (2, _)]) 3 rfl (by decide) eX_moveHolders_1 rfl ?_
  refine go_es (es' := (xW cI cB h a1 a2 a3 a4 a5 F c (mvf fo b e 0) sp pi rest)) (by rw [mvf_0]) ?_
  exact l_mv hF hfo b e hb he hf 432 0 (by omega)
set_option maxRecDepth 100000 in
set_option maxHeartbeats 1000000 in
theorem l_cr2 (hF : F ≤ 60) (hfo : ∀ k j, fo k = some j → j < F) (r w : Nat) (hr : r < 9) (hw : w < 9) (hrw : r ≠ w) {sp' : Nat → Bool} {Psi : gR → va_W → Prop} (hf : Psi (.inl none) (xW cI cB h a1 a2 a3 a4 a5 F c (va_cpy fo fo (r * 48) (w * 48) 48) sp' pi rest)) : ∀ (m i : Nat), i + m = 48 → Go (gg D cI cB cL bb L xs) mX_copyRow (n + 2) 0 0 36 [(3, .int (nI i)), (0, .ref h), (1, .int (nI r)), (2, .int (nI w))] [] (xW cI cB h a1 a2 a3 a4 a5 F c (va_cpy fo fo (r * 48) (w * 48) i) sp' pi rest) Psi := by
  intro m
  induction m with
  | zero =>
    intro i hi
    obtain rfl : i = 48 := by omega
    refine go_iload_n (pc := 36) 3 0 rfl rfl eX_copyRow_36 ?_
    refine go_bipush (pc := 37) (v := 48) (by decide) eX_copyRow_37 ?_
    refine go_icmp_ge (pc := 39) 69 (by decide) eX_copyRow_39 (fun c39 => ?_) (fun c39 => ?_)
    · exact go_vret (pc := 69) rfl eX_copyRow_69 (hf)
    · exact absurd (show (48 : Int32) ≤ nI 48 by decide) c39
  | succ m ih =>
    intro i hi
    refine go_iload_n (pc := 36) 3 0 rfl rfl eX_copyRow_36 ?_
    refine go_bipush (pc := 37) (v := 48) (by decide) eX_copyRow_37 ?_
    refine go_icmp_ge (pc := 39) 69 (by decide) eX_copyRow_39 (fun c39 => ?_) (fun c39 => ?_)
    · exact absurd c39 (nI_ge (b := 48) (by omega) (by omega))
    · refine go_aload_n (pc := 42) 0 1 rfl rfl eX_copyRow_42 ?_
      refine go_iload_n (pc := 43) 2 3 rfl rfl eX_copyRow_43 ?_
      refine go_bipush (pc := 44) (v := 48) (by decide) eX_copyRow_44 ?_
      refine go_imul (pc := 46) eX_copyRow_46 ?_
      refine go_iload_n (pc := 47) 3 0 rfl rfl eX_copyRow_47 ?_
      refine go_iadd (pc := 48) eX_copyRow_48 ?_
      rw [m48]
      refine go_aload_n (pc := 49) 0 1 rfl rfl eX_copyRow_49 ?_
      refine go_get (pc := 50) hwX 0 rfl rfl 3 (by decide) lkX_29 rfl eX_copyRow_50 ?_
      refine go_iload_n (pc := 53) 1 2 rfl rfl eX_copyRow_53 ?_
      refine go_bipush (pc := 54) (v := 48) (by decide) eX_copyRow_54 ?_
      refine go_imul (pc := 56) eX_copyRow_56 ?_
      refine go_iload_n (pc := 57) 3 0 rfl rfl eX_copyRow_57 ?_
      refine go_iadd (pc := 58) eX_copyRow_58 ?_
      refine go_ialdN (pc := 59) 3 0 (r * 48 + i) eX_copyRow_59 rfl rfl (m48 r i) (by omega) (by omega) ?_
      rw [pk_cpy_out (by omega)]
      refine go_rV0 (pc := 60) 0 (c_standIn hF (hfo_cpy hfo hfo) (w * 48 + i) (by omega) (fo (r * 48 + i)) (hfo _)) okX_standIn lmX_59 eX_copyRow_60 rfl rfl rfl rfl rfl (Nat.le_of_ble_eq_true rfl) (Nat.le_of_ble_eq_true rfl) ?_
      rw [cpy_up]
      refine go_iinc (pc := 63) (z := 1) (v := nI (i + 1)) (ls' := [(3, _), (0, _), (1, _), (2, _)]) 3 0 rfl (nI_1 i) (by decide) eX_copyRow_63 rfl ?_
      refine go_goto (pc := 66) 36 (by decide) eX_copyRow_66 ?_
      exact ih (i + 1) (by omega)
set_option maxRecDepth 100000 in
set_option maxHeartbeats 1000000 in
theorem l_cr1 (hF : F ≤ 60) (hfo : ∀ k j, fo k = some j → j < F) (r w : Nat) (hr : r < 9) (hw : w < 9) (hrw : r ≠ w) {Psi : gR → va_W → Prop} (hf : Psi (.inl none) (xW cI cB h a1 a2 a3 a4 a5 F c (va_cpy fo fo (r * 48) (w * 48) 48) (va_cpy sp sp (r * 6) (w * 6) 6) pi rest)) : ∀ (m i : Nat), i + m = 6 → Go (gg D cI cB cL bb L xs) mX_copyRow (n + 2) 0 0 2 [(3, .int (nI i)), (0, .ref h), (1, .int (nI r)), (2, .int (nI w))] [] (xW cI cB h a1 a2 a3 a4 a5 F c fo (va_cpy sp sp (r * 6) (w * 6) i) pi rest) Psi := by
  intro m
  induction m with
  | zero =>
    intro i hi
    obtain rfl : i = 6 := by omega
    refine go_iload_n (pc := 2) 3 0 rfl rfl eX_copyRow_2 ?_
    refine go_bipush (pc := 3) (v := 6) (by decide) eX_copyRow_3 ?_
    refine go_icmp_ge (pc := 5) 34 (by decide) eX_copyRow_5 (fun c5 => ?_) (fun c5 => ?_)
    · refine go_iconst (pc := 34) (v := 0) (by decide) eX_copyRow_34 ?_
      refine go_istore_n (pc := 35) (ls' := [(3, _), (0, _), (1, _), (2, _)]) 3 rfl (by decide) eX_copyRow_35 rfl ?_
      refine go_es (es' := (xW cI cB h a1 a2 a3 a4 a5 F c (va_cpy fo fo (r * 48) (w * 48) 0) (va_cpy sp sp (r * 6) (w * 6) 6) pi rest)) (by rw [cpy_0]) ?_
      exact l_cr2 hF hfo r w hr hw hrw hf 48 0 (by omega)
    · exact absurd (show (6 : Int32) ≤ nI 6 by decide) c5
  | succ m ih =>
    intro i hi
    refine go_iload_n (pc := 2) 3 0 rfl rfl eX_copyRow_2 ?_
    refine go_bipush (pc := 3) (v := 6) (by decide) eX_copyRow_3 ?_
    refine go_icmp_ge (pc := 5) 34 (by decide) eX_copyRow_5 (fun c5 => ?_) (fun c5 => ?_)
    · exact absurd c5 (nI_ge (b := 6) (by omega) (by omega))
    · refine go_aload_n (pc := 8) 0 1 rfl rfl eX_copyRow_8 ?_
      refine go_get (pc := 9) hwX 0 rfl rfl 4 (by decide) lkX_38 rfl eX_copyRow_9 ?_
      refine go_iload_n (pc := 12) 2 3 rfl rfl eX_copyRow_12 ?_
      refine go_iload_n (pc := 13) 3 0 rfl rfl eX_copyRow_13 ?_
      refine go_rS (pc := 14) (c_spaceIndex w i) okX_spaceIndex lmX_49 eX_copyRow_14 rfl rfl (Nat.le_of_ble_eq_true rfl) (Nat.le_of_ble_eq_true rfl) ?_
      refine go_aload_n (pc := 17) 0 1 rfl rfl eX_copyRow_17 ?_
      refine go_get (pc := 18) hwX 0 rfl rfl 4 (by decide) lkX_38 rfl eX_copyRow_18 ?_
      refine go_iload_n (pc := 21) 1 2 rfl rfl eX_copyRow_21 ?_
      refine go_iload_n (pc := 22) 3 0 rfl rfl eX_copyRow_22 ?_
      refine go_rS (pc := 23) (c_spaceIndex r i) okX_spaceIndex lmX_49 eX_copyRow_23 rfl rfl (Nat.le_of_ble_eq_true rfl) (Nat.le_of_ble_eq_true rfl) ?_
      refine go_zaldN (pc := 26) 4 1 (r * 6 + i) eX_copyRow_26 rfl rfl (rfl) (by omega) (by omega) ?_
      rw [pk_cpy_out (by omega)]
      refine go_zastN (pc := 27) (es' := (xW cI cB h a1 a2 a3 a4 a5 F c fo (va_cpy sp sp (r * 6) (w * 6) (i + 1)) pi rest)) 4 1 (w * 6 + i) eX_copyRow_27 rfl rfl rfl (by omega) (by omega) (xs4 ((upd_b rfl).trans (by rw [cpy_up]))) ?_
      refine go_iinc (pc := 28) (z := 1) (v := nI (i + 1)) (ls' := [(3, _), (0, _), (1, _), (2, _)]) 3 0 rfl (nI_1 i) (by decide) eX_copyRow_28 rfl ?_
      refine go_goto (pc := 31) 2 (by decide) eX_copyRow_31 ?_
      exact ih (i + 1) (by omega)
set_option maxRecDepth 100000 in
set_option maxHeartbeats 1000000 in
theorem c_cr (hF : F ≤ 60) (hfo : ∀ k j, fo k = some j → j < F) (r w : Nat) (hr : r < 9) (hw : w < 9) (hrw : r ≠ w) : Ret (gg D cI cB cL bb L xs) mX_copyRow (n + 2) 0 0 [.ref h, .int (nI r), .int (nI w)] (xW cI cB h a1 a2 a3 a4 a5 F c fo sp pi rest) none (xW cI cB h a1 a2 a3 a4 a5 F c (va_cpy fo fo (r * 48) (w * 48) 48) (va_cpy sp sp (r * 6) (w * 6) 6) pi rest) := by
  intro Psi hf
  show Go _ _ _ _ _ 0 [(0, .ref h), (1, .int (nI r)), (2, .int (nI w))] [] _ Psi
  refine go_iconst (pc := 0) (v := 0) (by decide) eX_copyRow_0 ?_
  refine go_istore_n (pc := 1) (ls' := [(3, _), (0, _), (1, _), (2, _)]) 3 rfl (by decide) eX_copyRow_1 rfl ?_
  refine go_es (es' := (xW cI cB h a1 a2 a3 a4 a5 F c fo (va_cpy sp sp (r * 6) (w * 6) 0) pi rest)) (by rw [cpy_0]) ?_
  exact l_cr1 hF hfo r w hr hw hrw hf 6 0 (by omega)
set_option maxRecDepth 100000 in
set_option maxHeartbeats 1000000 in
theorem l_cl (hF : F ≤ 60) (hfo : ∀ k j, fo k = some j → j < F) (r : Nat) (hr : r < 9) {Psi : gR → va_W → Prop} (hf : Psi (.inl none) (xW cI cB h a1 a2 a3 a4 a5 F c (va_cpy (fun _ => none) fo 0 (r * 48) 48) sp pi rest)) : ∀ (m i : Nat), i + m = 48 → Go (gg D cI cB cL bb L xs) mX_clearRow (n + 2) 0 0 2 [(2, .int (nI i)), (0, .ref h), (1, .int (nI r))] [] (xW cI cB h a1 a2 a3 a4 a5 F c (va_cpy (fun _ => none) fo 0 (r * 48) i) sp pi rest) Psi := by
  intro m
  induction m with
  | zero =>
    intro i hi
    obtain rfl : i = 48 := by omega
    refine go_iload_n (pc := 2) 2 0 rfl rfl eX_clearRow_2 ?_
    refine go_bipush (pc := 3) (v := 48) (by decide) eX_clearRow_3 ?_
    refine go_icmp_ge (pc := 5) 25 (by decide) eX_clearRow_5 (fun c5 => ?_) (fun c5 => ?_)
    · exact go_vret (pc := 25) rfl eX_clearRow_25 (hf)
    · exact absurd (show (48 : Int32) ≤ nI 48 by decide) c5
  | succ m ih =>
    intro i hi
    refine go_iload_n (pc := 2) 2 0 rfl rfl eX_clearRow_2 ?_
    refine go_bipush (pc := 3) (v := 48) (by decide) eX_clearRow_3 ?_
    refine go_icmp_ge (pc := 5) 25 (by decide) eX_clearRow_5 (fun c5 => ?_) (fun c5 => ?_)
    · exact absurd c5 (nI_ge (b := 48) (by omega) (by omega))
    · refine go_aload_n (pc := 8) 0 1 rfl rfl eX_clearRow_8 ?_
      refine go_iload_n (pc := 9) 1 2 rfl rfl eX_clearRow_9 ?_
      refine go_bipush (pc := 10) (v := 48) (by decide) eX_clearRow_10 ?_
      refine go_imul (pc := 12) eX_clearRow_12 ?_
      refine go_iload_n (pc := 13) 2 0 rfl rfl eX_clearRow_13 ?_
      refine go_iadd (pc := 14) eX_clearRow_14 ?_
      rw [m48]
      refine go_iconst (pc := 15) (v := (-1)) (by decide) eX_clearRow_15 ?_
      refine go_rV0 (pc := 16) 0 (c_standIn hF (hfo_cpy hfo (fun _ _ z => by cases z)) (r * 48 + i) (by omega) none (fun _ z => by cases z)) okX_standIn lmX_59 eX_clearRow_16 rfl rfl rfl rfl rfl (Nat.le_of_ble_eq_true rfl) (Nat.le_of_ble_eq_true rfl) ?_
      rw [cpy_up (f := fun _ => none) (s := 0)]
      refine go_iinc (pc := 19) (z := 1) (v := nI (i + 1)) (ls' := [(2, _), (0, _), (1, _)]) 2 0 rfl (nI_1 i) (by decide) eX_clearRow_19 rfl ?_
      refine go_goto (pc := 22) 2 (by decide) eX_clearRow_22 ?_
      exact ih (i + 1) (by omega)
set_option maxRecDepth 100000 in
set_option maxHeartbeats 1000000 in
theorem c_cl (hF : F ≤ 60) (hfo : ∀ k j, fo k = some j → j < F) (r : Nat) (hr : r < 9) : Ret (gg D cI cB cL bb L xs) mX_clearRow (n + 2) 0 0 [.ref h, .int (nI r)] (xW cI cB h a1 a2 a3 a4 a5 F c fo sp pi rest) none (xW cI cB h a1 a2 a3 a4 a5 F c (va_cpy (fun _ => none) fo 0 (r * 48) 48) sp pi rest) := by
  intro Psi hf
  show Go _ _ _ _ _ 0 [(0, .ref h), (1, .int (nI r))] [] _ Psi
  refine go_iconst (pc := 0) (v := 0) (by decide) eX_clearRow_0 ?_
  refine go_istore_n (pc := 1) (ls' := [(2, _), (0, _), (1, _)]) 2 rfl (by decide) eX_clearRow_1 rfl ?_
  refine go_es (es' := (xW cI cB h a1 a2 a3 a4 a5 F c (va_cpy (fun _ => none) fo 0 (r * 48) 0) sp pi rest)) (by rw [cpy_0]) ?_
  exact l_cl hF hfo r hr hf 48 0 (by omega)
set_option maxRecDepth 100000 in
set_option maxHeartbeats 1000000 in
theorem c_own1 (hF : F ≤ 60) (hfo : ∀ k j, fo k = some j → j < F) (k b : Nat) (hk : k < 432) (hb : fo k = some b) (h1 : hcnt fo b = 1) : Ret (gg D cI cB cL bb L xs) mX_needOwnFrame (n + 2) 0 0 [.ref h, .int (nI k)] (xW cI cB h a1 a2 a3 a4 a5 F c fo sp pi rest) (some (.int (nI b))) (xW cI cB h a1 a2 a3 a4 a5 F c fo sp pi rest) := by
  intro Psi hf
  show Go _ _ _ _ _ 0 [(0, .ref h), (1, .int (nI k))] [] _ Psi
  refine go_aload_n (pc := 0) 0 0 rfl rfl eX_needOwnFrame_0 ?_
  refine go_get (pc := 1) hwX 0 rfl rfl 3 (by decide) lkX_29 rfl eX_needOwnFrame_1 ?_
  refine go_iload_n (pc := 4) 1 1 rfl rfl eX_needOwnFrame_4 ?_
  refine go_ialdN (pc := 5) 3 0 (k) eX_needOwnFrame_5 rfl rfl (rfl) (hk) (by omega) ?_
  rw [hb]
  refine go_istore_n (pc := 6) (ls' := [(2, _), (0, _), (1, _)]) 2 rfl (by decide) eX_needOwnFrame_6 rfl ?_
  refine go_aload_n (pc := 7) 0 1 rfl rfl eX_needOwnFrame_7 ?_
  refine go_get (pc := 8) hwX 0 rfl rfl 2 (by decide) lkX_26 rfl eX_needOwnFrame_8 ?_
  refine go_iload_n (pc := 11) 2 0 rfl rfl eX_needOwnFrame_11 ?_
  refine go_ialdN (pc := 12) 2 0 (b) eX_needOwnFrame_12 rfl rfl (rfl) (hfo k b hb) (by omega) ?_
  refine go_iconst (pc := 13) (v := 1) (by decide) eX_needOwnFrame_13 ?_
  refine go_icmp_ne (pc := 14) 19 (by decide) eX_needOwnFrame_14 (fun c14 => ?_) (fun c14 => ?_)
  · exact absurd ((nI_z1 (hc31 fo b)).mpr h1) c14
  · refine go_iload_n (pc := 17) 2 0 rfl rfl eX_needOwnFrame_17 ?_
    exact go_iret (pc := 18) rfl rfl eX_needOwnFrame_18 (hf)
set_option maxRecDepth 100000 in
set_option maxHeartbeats 1000000 in
theorem c_own2 (hF : F ≤ 60) (hfo : ∀ k j, fo k = some j → j < F) (k b : Nat) (hk : k < 432) (hb : fo k = some b) (h1 : hcnt fo b ≠ 1) (j : Nat) (hj : j < F) (hj0 : hcnt fo j = 0) (hlt : ∀ q, q < j → hcnt fo q ≠ 0) : Ret (gg D cI cB cL bb L xs) mX_needOwnFrame (n + 2) 0 0 [.ref h, .int (nI k)] (xW cI cB h a1 a2 a3 a4 a5 F c fo sp pi rest) (some (.int (nI j))) (xW cI cB h a1 a2 a3 a4 a5 F (va_cpy c c (b * 16) (j * 16) 16) (va_up fo k (some j)) sp pi rest) := by
  intro Psi hf
  show Go _ _ _ _ _ 0 [(0, .ref h), (1, .int (nI k))] [] _ Psi
  refine go_aload_n (pc := 0) 0 0 rfl rfl eX_needOwnFrame_0 ?_
  refine go_get (pc := 1) hwX 0 rfl rfl 3 (by decide) lkX_29 rfl eX_needOwnFrame_1 ?_
  refine go_iload_n (pc := 4) 1 1 rfl rfl eX_needOwnFrame_4 ?_
  refine go_ialdN (pc := 5) 3 0 (k) eX_needOwnFrame_5 rfl rfl (rfl) (hk) (by omega) ?_
  rw [hb]
  refine go_istore_n (pc := 6) (ls' := [(2, _), (0, _), (1, _)]) 2 rfl (by decide) eX_needOwnFrame_6 rfl ?_
  refine go_aload_n (pc := 7) 0 1 rfl rfl eX_needOwnFrame_7 ?_
  refine go_get (pc := 8) hwX 0 rfl rfl 2 (by decide) lkX_26 rfl eX_needOwnFrame_8 ?_
  refine go_iload_n (pc := 11) 2 0 rfl rfl eX_needOwnFrame_11 ?_
  refine go_ialdN (pc := 12) 2 0 (b) eX_needOwnFrame_12 rfl rfl (rfl) (hfo k b hb) (by omega) ?_
  refine go_iconst (pc := 13) (v := 1) (by decide) eX_needOwnFrame_13 ?_
  refine go_icmp_ne (pc := 14) 19 (by decide) eX_needOwnFrame_14 (fun c14 => ?_) (fun c14 => ?_)
  · refine go_aload_n (pc := 19) 0 1 rfl rfl eX_needOwnFrame_19 ?_
    refine go_rV (pc := 20) 0 (c_nffA hF j hj hj0 hlt) okX_needFreeFrame lmX_74 eX_needOwnFrame_20 rfl rfl rfl rfl rfl (Nat.le_of_ble_eq_true rfl) (Nat.le_of_ble_eq_true rfl) ?_
    refine go_istore_n (pc := 23) (ls' := [(3, _), (2, _), (0, _), (1, _)]) 3 rfl (by decide) eX_needOwnFrame_23 rfl ?_
    refine go_aload_n (pc := 24) 0 2 rfl rfl eX_needOwnFrame_24 ?_
    refine go_get (pc := 25) hwX 0 rfl rfl 1 (by decide) lkX_22 rfl eX_needOwnFrame_25 ?_
    refine go_iload_n (pc := 28) 2 1 rfl rfl eX_needOwnFrame_28 ?_
    refine go_bipush (pc := 29) (v := 16) (by decide) eX_needOwnFrame_29 ?_
    refine go_imul (pc := 31) eX_needOwnFrame_31 ?_
    rw [show oI (some b) * 16 = nI (b * 16) from by show nI b * 16 = _; rw [show (16 : Int32) = nI 16 from rfl, pk_mul]]
    refine go_aload_n (pc := 32) 0 2 rfl rfl eX_needOwnFrame_32 ?_
    refine go_get (pc := 33) hwX 0 rfl rfl 1 (by decide) lkX_22 rfl eX_needOwnFrame_33 ?_
    refine go_iload_n (pc := 36) 3 0 rfl rfl eX_needOwnFrame_36 ?_
    refine go_bipush (pc := 37) (v := 16) (by decide) eX_needOwnFrame_37 ?_
    refine go_imul (pc := 39) eX_needOwnFrame_39 ?_
    rw [show nI j * 16 = nI (j * 16) from by rw [show (16 : Int32) = nI 16 from rfl, pk_mul]]
    refine go_bipush (pc := 40) (v := 16) (by decide) eX_needOwnFrame_40 ?_
    have hbF := hfo k b hb
    refine go_copyi (pc := 42) (es' := (xW cI cB h a1 a2 a3 a4 a5 F (va_cpy c c (b * 16) (j * 16) 16) fo sp pi rest)) lmX_150 naS stS inS 1 1 0 0 rfl rfl rfl rfl rfl (nI_pos (by omega)) (nI_pos (by omega)) (by decide) ?_ ?_ (fun _ _ => rfl) (Nat.le_of_ble_eq_true rfl) eX_needOwnFrame_42 ?_ ?_
    · rw [nI_clamp (by omega)]; show b * 16 + 16 ≤ F * 16; omega
    · rw [nI_clamp (by omega)]; show j * 16 + 16 ≤ F * 16; omega
    · rw [nI_clamp (by omega), nI_clamp (by omega)]; rfl
    refine go_aload_n (pc := 45) 0 2 rfl rfl eX_needOwnFrame_45 ?_
    refine go_iload_n (pc := 46) 1 3 rfl rfl eX_needOwnFrame_46 ?_
    refine go_iload_n (pc := 47) 3 0 rfl rfl eX_needOwnFrame_47 ?_
    refine go_rV0 (pc := 48) 0 (c_standIn hF hfo k hk (some j) (fun q z => by cases z; exact hj)) okX_standIn lmX_59 eX_needOwnFrame_48 rfl rfl rfl rfl rfl (Nat.le_of_ble_eq_true rfl) (Nat.le_of_ble_eq_true rfl) ?_
    refine go_iload_n (pc := 51) 3 0 rfl rfl eX_needOwnFrame_51 ?_
    exact go_iret (pc := 52) rfl rfl eX_needOwnFrame_52 (hf)
  · exact absurd ((nI_z1 (hc31 fo b)).mp c14) h1
set_option maxRecDepth 100000 in
set_option maxHeartbeats 1000000 in
theorem t_own (hF : F ≤ 60) (hfo : ∀ k j, fo k = some j → j < F) (k b : Nat) (hk : k < 432) (hb : fo k = some b) (h1 : hcnt fo b ≠ 1) (hlt : ∀ q, q < F → hcnt fo q ≠ 0) : Thr (gg D cI cB cL bb L xs) mX_needOwnFrame (n + 2) 1 6 [.ref h, .int (nI k)] (xW cI cB h a1 a2 a3 a4 a5 F c fo sp pi rest) "java/lang/IllegalStateException" := by
  intro Psi hf
  show Go _ _ _ _ _ 0 [(0, .ref h), (1, .int (nI k))] [] _ Psi
  refine go_aload_n (pc := 0) 0 0 rfl rfl eX_needOwnFrame_0 ?_
  refine go_get (pc := 1) hwX 0 rfl rfl 3 (by decide) lkX_29 rfl eX_needOwnFrame_1 ?_
  refine go_iload_n (pc := 4) 1 1 rfl rfl eX_needOwnFrame_4 ?_
  refine go_ialdN (pc := 5) 3 0 (k) eX_needOwnFrame_5 rfl rfl (rfl) (hk) (by omega) ?_
  rw [hb]
  refine go_istore_n (pc := 6) (ls' := [(2, _), (0, _), (1, _)]) 2 rfl (by decide) eX_needOwnFrame_6 rfl ?_
  refine go_aload_n (pc := 7) 0 1 rfl rfl eX_needOwnFrame_7 ?_
  refine go_get (pc := 8) hwX 0 rfl rfl 2 (by decide) lkX_26 rfl eX_needOwnFrame_8 ?_
  refine go_iload_n (pc := 11) 2 0 rfl rfl eX_needOwnFrame_11 ?_
  refine go_ialdN (pc := 12) 2 0 (b) eX_needOwnFrame_12 rfl rfl (rfl) (hfo k b hb) (by omega) ?_
  refine go_iconst (pc := 13) (v := 1) (by decide) eX_needOwnFrame_13 ?_
  refine go_icmp_ne (pc := 14) 19 (by decide) eX_needOwnFrame_14 (fun c14 => ?_) (fun c14 => ?_)
  · refine go_aload_n (pc := 19) 0 1 rfl rfl eX_needOwnFrame_19 ?_
    exact go_tV (pc := 20) 0 (t_nff hF hlt) okX_needFreeFrame lmX_74 eX_needOwnFrame_20 rfl rfl rfl rfl rfl (Nat.le_of_ble_eq_true rfl) (Nat.le_of_ble_eq_true rfl) (by omega) (by omega) hf
  · exact absurd ((nI_z1 (hc31 fo b)).mp c14) h1
theorem nI_nm1 {a : Nat} (h : a < 2 ^ 31) : ¬ nI a = -1 := fun z => nI_pos h (by rw [z]; decide)
end Sxd
end
section
section Sxe
variable {D : va_G} {cI cB cL : ClassId} {bb L : Nat} {xs : Nat → Int32} {n h a1 a2 a3 a4 a5 F : Nat} {c : Nat → Int32} {fo : Nat → Option Nat} {sp pi : Nat → Bool} {rest es : va_W} {f1 f2 f3 f4 f5 : Nat → Int32}
set_option maxRecDepth 100000 in
set_option maxHeartbeats 1000000 in
theorem c_open1 (j : Nat) (hj : j < 6) (hj0 : sp (48 + j) = false) (hlt : ∀ q, q < j → sp (48 + q) = true) : Ret (gg D cI cB cL bb L xs) mX_open (n + 2) 0 0 [.ref h] (xW cI cB h a1 a2 a3 a4 a5 F c fo sp pi rest) (some (.int (nI j))) (xW cI cB h a1 a2 a3 a4 a5 F c fo (va_up sp (48 + j) true) pi rest) := by
  intro Psi hf
  show Go _ _ _ _ _ 0 [(0, .ref h)] [] _ Psi
  refine go_aload_n (pc := 0) 0 0 rfl rfl eX_open_0 ?_
  refine go_rV (pc := 1) 0 (c_lmsA j hj hj0 hlt) okX_leastMissingSpace lmX_45 eX_open_1 rfl rfl rfl rfl rfl (Nat.le_of_ble_eq_true rfl) (Nat.le_of_ble_eq_true rfl) ?_
  refine go_istore_n (pc := 4) (ls' := [(1, _), (0, _)]) 1 rfl (by decide) eX_open_4 rfl ?_
  refine go_iload_n (pc := 5) 1 0 rfl rfl eX_open_5 ?_
  refine go_iconst (pc := 6) (v := (-1)) (by decide) eX_open_6 ?_
  refine go_icmp_eq (pc := 7) 22 (by decide) eX_open_7 (fun c7 => ?_) (fun c7 => ?_)
  · exact absurd c7 (nI_nm1 (by omega))
  · refine go_aload_n (pc := 10) 0 1 rfl rfl eX_open_10 ?_
    refine go_get (pc := 11) hwX 0 rfl rfl 4 (by decide) lkX_38 rfl eX_open_11 ?_
    refine go_bipush (pc := 14) (v := 8) (by decide) eX_open_14 ?_
    refine go_iload_n (pc := 16) 1 0 rfl rfl eX_open_16 ?_
    refine go_rS (pc := 17) (c_spaceIndex 8 j) okX_spaceIndex lmX_49 eX_open_17 rfl rfl (Nat.le_of_ble_eq_true rfl) (Nat.le_of_ble_eq_true rfl) ?_
    refine go_iconst (pc := 20) (v := 1) (by decide) eX_open_20 ?_
    refine go_zastN (pc := 21) (es' := (xW cI cB h a1 a2 a3 a4 a5 F c fo (va_up sp (48 + j) true) pi rest)) 4 1 (48 + j) eX_open_21 rfl rfl rfl (by omega) (by omega) (xs4 (upd_b (b := true) rfl)) ?_
    refine go_iload_n (pc := 22) 1 0 rfl rfl eX_open_22 ?_
    exact go_iret (pc := 23) rfl rfl eX_open_23 (hf)
set_option maxRecDepth 100000 in
set_option maxHeartbeats 1000000 in
theorem c_open0 (hlt : ∀ q, q < 6 → sp (48 + q) = true) : Ret (gg D cI cB cL bb L xs) mX_open (n + 2) 0 0 [.ref h] (xW cI cB h a1 a2 a3 a4 a5 F c fo sp pi rest) (some (.int (-1))) (xW cI cB h a1 a2 a3 a4 a5 F c fo sp pi rest) := by
  intro Psi hf
  show Go _ _ _ _ _ 0 [(0, .ref h)] [] _ Psi
  refine go_aload_n (pc := 0) 0 0 rfl rfl eX_open_0 ?_
  refine go_rV (pc := 1) 0 (c_lmsB hlt) okX_leastMissingSpace lmX_45 eX_open_1 rfl rfl rfl rfl rfl (Nat.le_of_ble_eq_true rfl) (Nat.le_of_ble_eq_true rfl) ?_
  refine go_istore_n (pc := 4) (ls' := [(1, _), (0, _)]) 1 rfl (by decide) eX_open_4 rfl ?_
  refine go_iload_n (pc := 5) 1 0 rfl rfl eX_open_5 ?_
  refine go_iconst (pc := 6) (v := (-1)) (by decide) eX_open_6 ?_
  refine go_icmp_eq (pc := 7) 22 (by decide) eX_open_7 (fun c7 => ?_) (fun c7 => ?_)
  · refine go_iload_n (pc := 22) 1 0 rfl rfl eX_open_22 ?_
    exact go_iret (pc := 23) rfl rfl eX_open_23 (hf)
  · exact absurd rfl c7
set_option maxRecDepth 100000 in
set_option maxHeartbeats 1000000 in
theorem l_fork (hF : F ≤ 60) (hfo : ∀ k j, fo k = some j → j < F) (s j : Nat) (hs : s < 6) (hj : j < 6) (hsj : s ≠ j) {Psi : gR → va_W → Prop} (hf : Psi (.inl (some (.int (nI j)))) (xW cI cB h a1 a2 a3 a4 a5 F c (va_cpy fo fo (384 + s * 8) (384 + j * 8) 8) sp pi rest)) : ∀ (m i : Nat), i + m = 8 → Go (gg D cI cB cL bb L xs) mX_fork (n + 3) 0 0 31 [(3, .int (nI i)), (2, .int (nI j)), (0, .ref h), (1, .int (nI s))] [] (xW cI cB h a1 a2 a3 a4 a5 F c (va_cpy fo fo (384 + s * 8) (384 + j * 8) i) sp pi rest) Psi := by
  intro m
  induction m with
  | zero =>
    intro i hi
    obtain rfl : i = 8 := by omega
    refine go_iload_n (pc := 31) 3 0 rfl rfl eX_fork_31 ?_
    refine go_bipush (pc := 32) (v := 8) (by decide) eX_fork_32 ?_
    refine go_icmp_ge (pc := 34) 62 (by decide) eX_fork_34 (fun c34 => ?_) (fun c34 => ?_)
    · refine go_iload_n (pc := 62) 2 1 rfl rfl eX_fork_62 ?_
      exact go_iret (pc := 63) rfl rfl eX_fork_63 (hf)
    · exact absurd (show (8 : Int32) ≤ nI 8 by decide) c34
  | succ m ih =>
    intro i hi
    refine go_iload_n (pc := 31) 3 0 rfl rfl eX_fork_31 ?_
    refine go_bipush (pc := 32) (v := 8) (by decide) eX_fork_32 ?_
    refine go_icmp_ge (pc := 34) 62 (by decide) eX_fork_34 (fun c34 => ?_) (fun c34 => ?_)
    · exact absurd c34 (nI_ge (b := 8) (by omega) (by omega))
    · refine go_aload_n (pc := 37) 0 2 rfl rfl eX_fork_37 ?_
      refine go_iload_n (pc := 38) 2 1 rfl rfl eX_fork_38 ?_
      refine go_iload_n (pc := 39) 3 0 rfl rfl eX_fork_39 ?_
      refine go_rS (pc := 40) (c_pageNow j i) okX_pageNow lmX_56 eX_fork_40 rfl rfl (Nat.le_of_ble_eq_true rfl) (Nat.le_of_ble_eq_true rfl) ?_
      refine go_aload_n (pc := 43) 0 2 rfl rfl eX_fork_43 ?_
      refine go_get (pc := 44) hwX 0 rfl rfl 3 (by decide) lkX_29 rfl eX_fork_44 ?_
      refine go_iload_n (pc := 47) 1 3 rfl rfl eX_fork_47 ?_
      refine go_iload_n (pc := 48) 3 0 rfl rfl eX_fork_48 ?_
      refine go_rS (pc := 49) (c_pageNow s i) okX_pageNow lmX_56 eX_fork_49 rfl rfl (Nat.le_of_ble_eq_true rfl) (Nat.le_of_ble_eq_true rfl) ?_
      refine go_ialdN (pc := 52) 3 0 (384 + s * 8 + i) eX_fork_52 rfl rfl (rfl) (by omega) (by omega) ?_
      rw [pk_cpy_out (by omega)]
      refine go_rV0 (pc := 53) 0 (c_standIn hF (hfo_cpy hfo hfo) (384 + j * 8 + i) (by omega) (fo (384 + s * 8 + i)) (hfo _)) okX_standIn lmX_59 eX_fork_53 rfl rfl rfl rfl rfl (Nat.le_of_ble_eq_true rfl) (Nat.le_of_ble_eq_true rfl) ?_
      rw [cpy_up]
      refine go_iinc (pc := 56) (z := 1) (v := nI (i + 1)) (ls' := [(3, _), (2, _), (0, _), (1, _)]) 3 0 rfl (nI_1 i) (by decide) eX_fork_56 rfl ?_
      refine go_goto (pc := 59) 31 (by decide) eX_fork_59 ?_
      exact ih (i + 1) (by omega)
set_option maxRecDepth 100000 in
set_option maxHeartbeats 1000000 in
theorem c_fork1 (hF : F ≤ 60) (hfo : ∀ k j, fo k = some j → j < F) (s : Nat) (hs : s < 6) (hsp : sp (48 + s) = true) (j : Nat) (hj : j < 6) (hj0 : sp (48 + j) = false) (hlt : ∀ q, q < j → sp (48 + q) = true) : Ret (gg D cI cB cL bb L xs) mX_fork (n + 3) 0 0 [.ref h, .int (nI s)] (xW cI cB h a1 a2 a3 a4 a5 F c fo sp pi rest) (some (.int (nI j))) (xW cI cB h a1 a2 a3 a4 a5 F c (va_cpy fo fo (384 + s * 8) (384 + j * 8) 8) (va_up sp (48 + j) true) pi rest) := by
  intro Psi hf
  show Go _ _ _ _ _ 0 [(0, .ref h), (1, .int (nI s))] [] _ Psi
  refine go_aload_n (pc := 0) 0 0 rfl rfl eX_fork_0 ?_
  refine go_iload_n (pc := 1) 1 1 rfl rfl eX_fork_1 ?_
  refine go_rV0 (pc := 2) 0 (c_needSpace s hs hsp) okX_needSpace lmX_52 eX_fork_2 rfl rfl rfl rfl rfl (Nat.le_of_ble_eq_true rfl) (Nat.le_of_ble_eq_true rfl) ?_
  refine go_aload_n (pc := 5) 0 0 rfl rfl eX_fork_5 ?_
  refine go_rV (pc := 6) 0 (c_lmsA j hj hj0 hlt) okX_leastMissingSpace lmX_45 eX_fork_6 rfl rfl rfl rfl rfl (Nat.le_of_ble_eq_true rfl) (Nat.le_of_ble_eq_true rfl) ?_
  refine go_istore_n (pc := 9) (ls' := [(2, _), (0, _), (1, _)]) 2 rfl (by decide) eX_fork_9 rfl ?_
  refine go_iload_n (pc := 10) 2 0 rfl rfl eX_fork_10 ?_
  refine go_iconst (pc := 11) (v := (-1)) (by decide) eX_fork_11 ?_
  refine go_icmp_ne (pc := 12) 17 (by decide) eX_fork_12 (fun c12 => ?_) (fun c12 => ?_)
  · refine go_aload_n (pc := 17) 0 1 rfl rfl eX_fork_17 ?_
    refine go_get (pc := 18) hwX 0 rfl rfl 4 (by decide) lkX_38 rfl eX_fork_18 ?_
    refine go_bipush (pc := 21) (v := 8) (by decide) eX_fork_21 ?_
    refine go_iload_n (pc := 23) 2 0 rfl rfl eX_fork_23 ?_
    refine go_rS (pc := 24) (c_spaceIndex 8 j) okX_spaceIndex lmX_49 eX_fork_24 rfl rfl (Nat.le_of_ble_eq_true rfl) (Nat.le_of_ble_eq_true rfl) ?_
    refine go_iconst (pc := 27) (v := 1) (by decide) eX_fork_27 ?_
    refine go_zastN (pc := 28) (es' := (xW cI cB h a1 a2 a3 a4 a5 F c fo (va_up sp (48 + j) true) pi rest)) 4 1 (48 + j) eX_fork_28 rfl rfl rfl (by omega) (by omega) (xs4 (upd_b (b := true) rfl)) ?_
    refine go_iconst (pc := 29) (v := 0) (by decide) eX_fork_29 ?_
    refine go_istore_n (pc := 30) (ls' := [(3, _), (2, _), (0, _), (1, _)]) 3 rfl (by decide) eX_fork_30 rfl ?_
    have hsj : s ≠ j := fun z => by rw [z, hj0] at hsp; cases hsp
    refine go_es (es' := (xW cI cB h a1 a2 a3 a4 a5 F c (va_cpy fo fo (384 + s * 8) (384 + j * 8) 0) (va_up sp (48 + j) true) pi rest)) (by rw [cpy_0]) ?_
    exact l_fork hF hfo s j hs hj hsj hf 8 0 (by omega)
  · exact absurd c12 (nI_nm1 (by omega))
set_option maxRecDepth 100000 in
set_option maxHeartbeats 1000000 in
theorem c_fork0 (s : Nat) (hs : s < 6) (hsp : sp (48 + s) = true) (hlt : ∀ q, q < 6 → sp (48 + q) = true) : Ret (gg D cI cB cL bb L xs) mX_fork (n + 3) 0 0 [.ref h, .int (nI s)] (xW cI cB h a1 a2 a3 a4 a5 F c fo sp pi rest) (some (.int (-1))) (xW cI cB h a1 a2 a3 a4 a5 F c fo sp pi rest) := by
  intro Psi hf
  show Go _ _ _ _ _ 0 [(0, .ref h), (1, .int (nI s))] [] _ Psi
  refine go_aload_n (pc := 0) 0 0 rfl rfl eX_fork_0 ?_
  refine go_iload_n (pc := 1) 1 1 rfl rfl eX_fork_1 ?_
  refine go_rV0 (pc := 2) 0 (c_needSpace s hs hsp) okX_needSpace lmX_52 eX_fork_2 rfl rfl rfl rfl rfl (Nat.le_of_ble_eq_true rfl) (Nat.le_of_ble_eq_true rfl) ?_
  refine go_aload_n (pc := 5) 0 0 rfl rfl eX_fork_5 ?_
  refine go_rV (pc := 6) 0 (c_lmsB hlt) okX_leastMissingSpace lmX_45 eX_fork_6 rfl rfl rfl rfl rfl (Nat.le_of_ble_eq_true rfl) (Nat.le_of_ble_eq_true rfl) ?_
  refine go_istore_n (pc := 9) (ls' := [(2, _), (0, _), (1, _)]) 2 rfl (by decide) eX_fork_9 rfl ?_
  refine go_iload_n (pc := 10) 2 0 rfl rfl eX_fork_10 ?_
  refine go_iconst (pc := 11) (v := (-1)) (by decide) eX_fork_11 ?_
  refine go_icmp_ne (pc := 12) 17 (by decide) eX_fork_12 (fun c12 => ?_) (fun c12 => ?_)
  · exact absurd rfl c12
  · refine go_iconst (pc := 15) (v := (-1)) (by decide) eX_fork_15 ?_
    exact go_iret (pc := 16) rfl rfl eX_fork_16 (hf)
set_option maxRecDepth 100000 in
set_option maxHeartbeats 1000000 in
theorem t_fork (x : Int32) (hx : ∀ j, j < 6 → x = nI j → sp (48 + j) = false) : Thr (gg D cI cB cL bb L xs) mX_fork (n + 3) 1 6 [.ref h, .int (x)] (xW cI cB h a1 a2 a3 a4 a5 F c fo sp pi rest) "java/util/NoSuchElementException" := by
  intro Psi hf
  show Go _ _ _ _ _ 0 [(0, .ref h), (1, .int (x))] [] _ Psi
  refine go_aload_n (pc := 0) 0 0 rfl rfl eX_fork_0 ?_
  refine go_iload_n (pc := 1) 1 1 rfl rfl eX_fork_1 ?_
  exact go_tV (pc := 2) 0 (t_needSpace x hx) okX_needSpace lmX_52 eX_fork_2 rfl rfl rfl rfl rfl (Nat.le_of_ble_eq_true rfl) (Nat.le_of_ble_eq_true rfl) (by omega) (by omega) hf
set_option maxRecDepth 100000 in
set_option maxHeartbeats 1000000 in
theorem l_close (hF : F ≤ 60) (hfo : ∀ k j, fo k = some j → j < F) (s : Nat) (hs : s < 6) (v : Int32) {Psi : gR → va_W → Prop} (hf : Psi (.inl (some (.int v))) (xW cI cB h a1 a2 a3 a4 a5 F c (va_cpy (fun _ => none) fo 0 (384 + s * 8) 8) (va_up sp (48 + s) false) pi rest)) : ∀ (m i : Nat), i + m = 8 → Go (gg D cI cB cL bb L xs) mX_close (n + 3) 0 0 13 [(3, .int (nI i)), (2, .int (v)), (0, .ref h), (1, .int (nI s))] [] (xW cI cB h a1 a2 a3 a4 a5 F c (va_cpy (fun _ => none) fo 0 (384 + s * 8) i) sp pi rest) Psi := by
  intro m
  induction m with
  | zero =>
    intro i hi
    obtain rfl : i = 8 := by omega
    refine go_iload_n (pc := 13) 3 0 rfl rfl eX_close_13 ?_
    refine go_bipush (pc := 14) (v := 8) (by decide) eX_close_14 ?_
    refine go_icmp_ge (pc := 16) 35 (by decide) eX_close_16 (fun c16 => ?_) (fun c16 => ?_)
    · refine go_aload_n (pc := 35) 0 2 rfl rfl eX_close_35 ?_
      refine go_get (pc := 36) hwX 0 rfl rfl 4 (by decide) lkX_38 rfl eX_close_36 ?_
      refine go_bipush (pc := 39) (v := 8) (by decide) eX_close_39 ?_
      refine go_iload_n (pc := 41) 1 3 rfl rfl eX_close_41 ?_
      refine go_rS (pc := 42) (c_spaceIndex 8 s) okX_spaceIndex lmX_49 eX_close_42 rfl rfl (Nat.le_of_ble_eq_true rfl) (Nat.le_of_ble_eq_true rfl) ?_
      refine go_iconst (pc := 45) (v := 0) (by decide) eX_close_45 ?_
      refine go_zastN (pc := 46) (es' := (xW cI cB h a1 a2 a3 a4 a5 F c (va_cpy (fun _ => none) fo 0 (384 + s * 8) 8) (va_up sp (48 + s) false) pi rest)) 4 1 (48 + s) eX_close_46 rfl rfl rfl (by omega) (by omega) (xs4 (upd_b (b := false) rfl)) ?_
      refine go_iload_n (pc := 47) 2 1 rfl rfl eX_close_47 ?_
      exact go_iret (pc := 48) rfl rfl eX_close_48 (hf)
    · exact absurd (show (8 : Int32) ≤ nI 8 by decide) c16
  | succ m ih =>
    intro i hi
    refine go_iload_n (pc := 13) 3 0 rfl rfl eX_close_13 ?_
    refine go_bipush (pc := 14) (v := 8) (by decide) eX_close_14 ?_
    refine go_icmp_ge (pc := 16) 35 (by decide) eX_close_16 (fun c16 => ?_) (fun c16 => ?_)
    · exact absurd c16 (nI_ge (b := 8) (by omega) (by omega))
    · refine go_aload_n (pc := 19) 0 2 rfl rfl eX_close_19 ?_
      refine go_iload_n (pc := 20) 1 3 rfl rfl eX_close_20 ?_
      refine go_iload_n (pc := 21) 3 0 rfl rfl eX_close_21 ?_
      refine go_rS (pc := 22) (c_pageNow s i) okX_pageNow lmX_56 eX_close_22 rfl rfl (Nat.le_of_ble_eq_true rfl) (Nat.le_of_ble_eq_true rfl) ?_
      refine go_iconst (pc := 25) (v := (-1)) (by decide) eX_close_25 ?_
      refine go_rV0 (pc := 26) 0 (c_standIn hF (hfo_cpy hfo (fun _ _ z => by cases z)) (384 + s * 8 + i) (by omega) none (fun _ z => by cases z)) okX_standIn lmX_59 eX_close_26 rfl rfl rfl rfl rfl (Nat.le_of_ble_eq_true rfl) (Nat.le_of_ble_eq_true rfl) ?_
      rw [cpy_up (f := fun _ => none) (s := 0)]
      refine go_iinc (pc := 29) (z := 1) (v := nI (i + 1)) (ls' := [(3, _), (2, _), (0, _), (1, _)]) 3 0 rfl (nI_1 i) (by decide) eX_close_29 rfl ?_
      refine go_goto (pc := 32) 13 (by decide) eX_close_32 ?_
      exact ih (i + 1) (by omega)
set_option maxRecDepth 100000 in
set_option maxHeartbeats 1000000 in
theorem c_close (hF : F ≤ 60) (hfo : ∀ k j, fo k = some j → j < F) (s : Nat) (hs : s < 6) (hsp : sp (48 + s) = true) : Ret (gg D cI cB cL bb L xs) mX_close (n + 3) 0 0 [.ref h, .int (nI s)] (xW cI cB h a1 a2 a3 a4 a5 F c fo sp pi rest) (some (.int (nI (gcnt (fun p => (fo (384 + s * 8 + p)).isSome) 8)))) (xW cI cB h a1 a2 a3 a4 a5 F c (va_cpy (fun _ => none) fo 0 (384 + s * 8) 8) (va_up sp (48 + s) false) pi rest) := by
  intro Psi hf
  show Go _ _ _ _ _ 0 [(0, .ref h), (1, .int (nI s))] [] _ Psi
  refine go_aload_n (pc := 0) 0 0 rfl rfl eX_close_0 ?_
  refine go_iload_n (pc := 1) 1 1 rfl rfl eX_close_1 ?_
  refine go_rV0 (pc := 2) 0 (c_needSpace s hs hsp) okX_needSpace lmX_52 eX_close_2 rfl rfl rfl rfl rfl (Nat.le_of_ble_eq_true rfl) (Nat.le_of_ble_eq_true rfl) ?_
  refine go_aload_n (pc := 5) 0 0 rfl rfl eX_close_5 ?_
  refine go_iload_n (pc := 6) 1 1 rfl rfl eX_close_6 ?_
  refine go_rV (pc := 7) 0 (c_pgs hF hfo s hs) okX_pagesOfSpace lmX_63 eX_close_7 rfl rfl rfl rfl rfl (Nat.le_of_ble_eq_true rfl) (Nat.le_of_ble_eq_true rfl) ?_
  refine go_istore_n (pc := 10) (ls' := [(2, _), (0, _), (1, _)]) 2 rfl (by decide) eX_close_10 rfl ?_
  refine go_iconst (pc := 11) (v := 0) (by decide) eX_close_11 ?_
  refine go_istore_n (pc := 12) (ls' := [(3, _), (2, _), (0, _), (1, _)]) 3 rfl (by decide) eX_close_12 rfl ?_
  refine go_es (es' := (xW cI cB h a1 a2 a3 a4 a5 F c (va_cpy (fun _ => none) fo 0 (384 + s * 8) 0) sp pi rest)) (by rw [cpy_0]) ?_
  exact l_close hF hfo s hs _ hf 8 0 (by omega)
set_option maxRecDepth 100000 in
set_option maxHeartbeats 1000000 in
theorem t_close (x : Int32) (hx : ∀ j, j < 6 → x = nI j → sp (48 + j) = false) : Thr (gg D cI cB cL bb L xs) mX_close (n + 3) 1 6 [.ref h, .int (x)] (xW cI cB h a1 a2 a3 a4 a5 F c fo sp pi rest) "java/util/NoSuchElementException" := by
  intro Psi hf
  show Go _ _ _ _ _ 0 [(0, .ref h), (1, .int (x))] [] _ Psi
  refine go_aload_n (pc := 0) 0 0 rfl rfl eX_close_0 ?_
  refine go_iload_n (pc := 1) 1 1 rfl rfl eX_close_1 ?_
  exact go_tV (pc := 2) 0 (t_needSpace x hx) okX_needSpace lmX_52 eX_close_2 rfl rfl rfl rfl rfl (Nat.le_of_ble_eq_true rfl) (Nat.le_of_ble_eq_true rfl) (by omega) (by omega) hf
set_option maxRecDepth 100000 in
set_option maxHeartbeats 1000000 in
theorem c_map0 (hF : F ≤ 60) (hfo : ∀ k j, fo k = some j → j < F) (s : Nat) (hs : s < 6) (hsp : sp (48 + s) = true) (p : Nat) (hp : p < 8) (v : Int32) (hfr : (fo (384 + s * 8 + p)).isSome = true) : Ret (gg D cI cB cL bb L xs) mX_map (n + 3) 0 0 [.ref h, .int (nI s), .int (nI p), .int (v)] (xW cI cB h a1 a2 a3 a4 a5 F c fo sp pi rest) (some (.int (0))) (xW cI cB h a1 a2 a3 a4 a5 F c fo sp pi rest) := by
  intro Psi hf
  show Go _ _ _ _ _ 0 [(0, .ref h), (1, .int (nI s)), (2, .int (nI p)), (3, .int (v))] [] _ Psi
  refine go_aload_n (pc := 0) 0 0 rfl rfl eX_map_0 ?_
  refine go_iload_n (pc := 1) 1 1 rfl rfl eX_map_1 ?_
  refine go_rV0 (pc := 2) 0 (c_needSpace s hs hsp) okX_needSpace lmX_52 eX_map_2 rfl rfl rfl rfl rfl (Nat.le_of_ble_eq_true rfl) (Nat.le_of_ble_eq_true rfl) ?_
  refine go_aload_n (pc := 5) 0 0 rfl rfl eX_map_5 ?_
  refine go_iload_n (pc := 6) 2 2 rfl rfl eX_map_6 ?_
  refine go_rV0 (pc := 7) 0 (c_needPage p hp) okX_needPage lmX_67 eX_map_7 rfl rfl rfl rfl rfl (Nat.le_of_ble_eq_true rfl) (Nat.le_of_ble_eq_true rfl) ?_
  refine go_iload_n (pc := 10) 1 1 rfl rfl eX_map_10 ?_
  refine go_iload_n (pc := 11) 2 2 rfl rfl eX_map_11 ?_
  refine go_rS (pc := 12) (c_pageNow s p) okX_pageNow lmX_56 eX_map_12 rfl rfl (Nat.le_of_ble_eq_true rfl) (Nat.le_of_ble_eq_true rfl) ?_
  refine go_istore (pc := 15) (ls' := [(4, _), (0, _), (1, _), (2, _), (3, _)]) 4 (by decide) eX_map_15 rfl ?_
  refine go_aload_n (pc := 17) 0 1 rfl rfl eX_map_17 ?_
  refine go_aload_n (pc := 18) 0 1 rfl rfl eX_map_18 ?_
  refine go_get (pc := 19) hwX 0 rfl rfl 3 (by decide) lkX_29 rfl eX_map_19 ?_
  refine go_iload (pc := 22) 4 0 rfl eX_map_22 ?_
  refine go_ialdN (pc := 24) 3 0 (384 + s * 8 + p) eX_map_24 rfl rfl (rfl) (by omega) (by omega) ?_
  refine go_rV (pc := 25) 0 (c_isFrame hF _ (hfo _)) okX_isFrame lmX_70 eX_map_25 rfl rfl rfl rfl rfl (Nat.le_of_ble_eq_true rfl) (Nat.le_of_ble_eq_true rfl) ?_
  refine go_if_eq (pc := 28) 33 (by decide) eX_map_28 (fun c28 => ?_) (fun c28 => ?_)
  · exact absurd (bI0.mp c28) (by rw [hfr]; decide)
  · refine go_iconst (pc := 31) (v := 0) (by decide) eX_map_31 ?_
    exact go_iret (pc := 32) rfl rfl eX_map_32 (hf)
set_option maxRecDepth 100000 in
set_option maxHeartbeats 1000000 in
theorem c_map1 (hF : F ≤ 60) (hfo : ∀ k j, fo k = some j → j < F) (s : Nat) (hs : s < 6) (hsp : sp (48 + s) = true) (p : Nat) (hp : p < 8) (v : Int32) (hfr : (fo (384 + s * 8 + p)).isSome = false) (j : Nat) (hj : j < F) (hj0 : hcnt fo j = 0) (hlt : ∀ q, q < j → hcnt fo q ≠ 0) : Ret (gg D cI cB cL bb L xs) mX_map (n + 3) 0 0 [.ref h, .int (nI s), .int (nI p), .int (v)] (xW cI cB h a1 a2 a3 a4 a5 F c fo sp pi rest) (some (.int (1))) (xW cI cB h a1 a2 a3 a4 a5 F (va_cpy (fun _ => v) c 0 (j * 16) 16) (va_up fo (384 + s * 8 + p) (some j)) sp pi rest) := by
  intro Psi hf
  show Go _ _ _ _ _ 0 [(0, .ref h), (1, .int (nI s)), (2, .int (nI p)), (3, .int (v))] [] _ Psi
  refine go_aload_n (pc := 0) 0 0 rfl rfl eX_map_0 ?_
  refine go_iload_n (pc := 1) 1 1 rfl rfl eX_map_1 ?_
  refine go_rV0 (pc := 2) 0 (c_needSpace s hs hsp) okX_needSpace lmX_52 eX_map_2 rfl rfl rfl rfl rfl (Nat.le_of_ble_eq_true rfl) (Nat.le_of_ble_eq_true rfl) ?_
  refine go_aload_n (pc := 5) 0 0 rfl rfl eX_map_5 ?_
  refine go_iload_n (pc := 6) 2 2 rfl rfl eX_map_6 ?_
  refine go_rV0 (pc := 7) 0 (c_needPage p hp) okX_needPage lmX_67 eX_map_7 rfl rfl rfl rfl rfl (Nat.le_of_ble_eq_true rfl) (Nat.le_of_ble_eq_true rfl) ?_
  refine go_iload_n (pc := 10) 1 1 rfl rfl eX_map_10 ?_
  refine go_iload_n (pc := 11) 2 2 rfl rfl eX_map_11 ?_
  refine go_rS (pc := 12) (c_pageNow s p) okX_pageNow lmX_56 eX_map_12 rfl rfl (Nat.le_of_ble_eq_true rfl) (Nat.le_of_ble_eq_true rfl) ?_
  refine go_istore (pc := 15) (ls' := [(4, _), (0, _), (1, _), (2, _), (3, _)]) 4 (by decide) eX_map_15 rfl ?_
  refine go_aload_n (pc := 17) 0 1 rfl rfl eX_map_17 ?_
  refine go_aload_n (pc := 18) 0 1 rfl rfl eX_map_18 ?_
  refine go_get (pc := 19) hwX 0 rfl rfl 3 (by decide) lkX_29 rfl eX_map_19 ?_
  refine go_iload (pc := 22) 4 0 rfl eX_map_22 ?_
  refine go_ialdN (pc := 24) 3 0 (384 + s * 8 + p) eX_map_24 rfl rfl (rfl) (by omega) (by omega) ?_
  refine go_rV (pc := 25) 0 (c_isFrame hF _ (hfo _)) okX_isFrame lmX_70 eX_map_25 rfl rfl rfl rfl rfl (Nat.le_of_ble_eq_true rfl) (Nat.le_of_ble_eq_true rfl) ?_
  refine go_if_eq (pc := 28) 33 (by decide) eX_map_28 (fun c28 => ?_) (fun c28 => ?_)
  · refine go_aload_n (pc := 33) 0 1 rfl rfl eX_map_33 ?_
    refine go_rV (pc := 34) 0 (c_nffA hF j hj hj0 hlt) okX_needFreeFrame lmX_74 eX_map_34 rfl rfl rfl rfl rfl (Nat.le_of_ble_eq_true rfl) (Nat.le_of_ble_eq_true rfl) ?_
    refine go_istore (pc := 37) (ls' := [(5, _), (4, _), (0, _), (1, _), (2, _), (3, _)]) 5 (by decide) eX_map_37 rfl ?_
    refine go_aload_n (pc := 39) 0 2 rfl rfl eX_map_39 ?_
    refine go_iload (pc := 40) 5 0 rfl eX_map_40 ?_
    refine go_iload_n (pc := 42) 3 5 rfl rfl eX_map_42 ?_
    refine go_rV0 (pc := 43) 0 (c_fill hF j hj v) okX_fillFrame lmX_77 eX_map_43 rfl rfl rfl rfl rfl (Nat.le_of_ble_eq_true rfl) (Nat.le_of_ble_eq_true rfl) ?_
    refine go_aload_n (pc := 46) 0 2 rfl rfl eX_map_46 ?_
    refine go_iload (pc := 47) 4 1 rfl eX_map_47 ?_
    refine go_iload (pc := 49) 5 0 rfl eX_map_49 ?_
    refine go_rV0 (pc := 51) 0 (c_standIn hF hfo (384 + s * 8 + p) (by omega) (some j) (fun q z => by cases z; exact hj)) okX_standIn lmX_59 eX_map_51 rfl rfl rfl rfl rfl (Nat.le_of_ble_eq_true rfl) (Nat.le_of_ble_eq_true rfl) ?_
    refine go_iconst (pc := 54) (v := 1) (by decide) eX_map_54 ?_
    exact go_iret (pc := 55) rfl rfl eX_map_55 (hf)
  · exact absurd (bI0.mpr hfr) c28
set_option maxRecDepth 100000 in
set_option maxHeartbeats 1000000 in
theorem t_map3 (hF : F ≤ 60) (hfo : ∀ k j, fo k = some j → j < F) (s : Nat) (hs : s < 6) (hsp : sp (48 + s) = true) (p : Nat) (hp : p < 8) (v : Int32) (hfr : (fo (384 + s * 8 + p)).isSome = false) (hlt : ∀ q, q < F → hcnt fo q ≠ 0) : Thr (gg D cI cB cL bb L xs) mX_map (n + 3) 1 6 [.ref h, .int (nI s), .int (nI p), .int (v)] (xW cI cB h a1 a2 a3 a4 a5 F c fo sp pi rest) "java/lang/IllegalStateException" := by
  intro Psi hf
  show Go _ _ _ _ _ 0 [(0, .ref h), (1, .int (nI s)), (2, .int (nI p)), (3, .int (v))] [] _ Psi
  refine go_aload_n (pc := 0) 0 0 rfl rfl eX_map_0 ?_
  refine go_iload_n (pc := 1) 1 1 rfl rfl eX_map_1 ?_
  refine go_rV0 (pc := 2) 0 (c_needSpace s hs hsp) okX_needSpace lmX_52 eX_map_2 rfl rfl rfl rfl rfl (Nat.le_of_ble_eq_true rfl) (Nat.le_of_ble_eq_true rfl) ?_
  refine go_aload_n (pc := 5) 0 0 rfl rfl eX_map_5 ?_
  refine go_iload_n (pc := 6) 2 2 rfl rfl eX_map_6 ?_
  refine go_rV0 (pc := 7) 0 (c_needPage p hp) okX_needPage lmX_67 eX_map_7 rfl rfl rfl rfl rfl (Nat.le_of_ble_eq_true rfl) (Nat.le_of_ble_eq_true rfl) ?_
  refine go_iload_n (pc := 10) 1 1 rfl rfl eX_map_10 ?_
  refine go_iload_n (pc := 11) 2 2 rfl rfl eX_map_11 ?_
  refine go_rS (pc := 12) (c_pageNow s p) okX_pageNow lmX_56 eX_map_12 rfl rfl (Nat.le_of_ble_eq_true rfl) (Nat.le_of_ble_eq_true rfl) ?_
  refine go_istore (pc := 15) (ls' := [(4, _), (0, _), (1, _), (2, _), (3, _)]) 4 (by decide) eX_map_15 rfl ?_
  refine go_aload_n (pc := 17) 0 1 rfl rfl eX_map_17 ?_
  refine go_aload_n (pc := 18) 0 1 rfl rfl eX_map_18 ?_
  refine go_get (pc := 19) hwX 0 rfl rfl 3 (by decide) lkX_29 rfl eX_map_19 ?_
  refine go_iload (pc := 22) 4 0 rfl eX_map_22 ?_
  refine go_ialdN (pc := 24) 3 0 (384 + s * 8 + p) eX_map_24 rfl rfl (rfl) (by omega) (by omega) ?_
  refine go_rV (pc := 25) 0 (c_isFrame hF _ (hfo _)) okX_isFrame lmX_70 eX_map_25 rfl rfl rfl rfl rfl (Nat.le_of_ble_eq_true rfl) (Nat.le_of_ble_eq_true rfl) ?_
  refine go_if_eq (pc := 28) 33 (by decide) eX_map_28 (fun c28 => ?_) (fun c28 => ?_)
  · refine go_aload_n (pc := 33) 0 1 rfl rfl eX_map_33 ?_
    exact go_tV (pc := 34) 0 (t_nff hF hlt) okX_needFreeFrame lmX_74 eX_map_34 rfl rfl rfl rfl rfl (Nat.le_of_ble_eq_true rfl) (Nat.le_of_ble_eq_true rfl) (by omega) (by omega) hf
  · exact absurd (bI0.mpr hfr) c28
set_option maxRecDepth 100000 in
set_option maxHeartbeats 1000000 in
theorem t_map1 (x : Int32) (hx : ∀ j, j < 6 → x = nI j → sp (48 + j) = false) (u v : Int32) : Thr (gg D cI cB cL bb L xs) mX_map (n + 3) 1 6 [.ref h, .int (x), .int (u), .int (v)] (xW cI cB h a1 a2 a3 a4 a5 F c fo sp pi rest) "java/util/NoSuchElementException" := by
  intro Psi hf
  show Go _ _ _ _ _ 0 [(0, .ref h), (1, .int (x)), (2, .int (u)), (3, .int (v))] [] _ Psi
  refine go_aload_n (pc := 0) 0 0 rfl rfl eX_map_0 ?_
  refine go_iload_n (pc := 1) 1 1 rfl rfl eX_map_1 ?_
  exact go_tV (pc := 2) 0 (t_needSpace x hx) okX_needSpace lmX_52 eX_map_2 rfl rfl rfl rfl rfl (Nat.le_of_ble_eq_true rfl) (Nat.le_of_ble_eq_true rfl) (by omega) (by omega) hf
set_option maxRecDepth 100000 in
set_option maxHeartbeats 1000000 in
theorem t_map2 (s : Nat) (hs : s < 6) (hsp : sp (48 + s) = true) (x : Int32) (hx : ∀ j, j < 8 → x ≠ nI j) (v : Int32) : Thr (gg D cI cB cL bb L xs) mX_map (n + 3) 1 6 [.ref h, .int (nI s), .int (x), .int (v)] (xW cI cB h a1 a2 a3 a4 a5 F c fo sp pi rest) "java/lang/IndexOutOfBoundsException" := by
  intro Psi hf
  show Go _ _ _ _ _ 0 [(0, .ref h), (1, .int (nI s)), (2, .int (x)), (3, .int (v))] [] _ Psi
  refine go_aload_n (pc := 0) 0 0 rfl rfl eX_map_0 ?_
  refine go_iload_n (pc := 1) 1 1 rfl rfl eX_map_1 ?_
  refine go_rV0 (pc := 2) 0 (c_needSpace s hs hsp) okX_needSpace lmX_52 eX_map_2 rfl rfl rfl rfl rfl (Nat.le_of_ble_eq_true rfl) (Nat.le_of_ble_eq_true rfl) ?_
  refine go_aload_n (pc := 5) 0 0 rfl rfl eX_map_5 ?_
  refine go_iload_n (pc := 6) 2 2 rfl rfl eX_map_6 ?_
  exact go_tV (pc := 7) 0 (t_needPage x hx) okX_needPage lmX_67 eX_map_7 rfl rfl rfl rfl rfl (Nat.le_of_ble_eq_true rfl) (Nat.le_of_ble_eq_true rfl) (by omega) (by omega) hf
theorem narB (b : Bool) : narrow .boolean (.int (bI b)) = .int (bI b) := by cases b <;> rfl
set_option maxRecDepth 100000 in
set_option maxHeartbeats 1000000 in
theorem c_unmap (hF : F ≤ 60) (hfo : ∀ k j, fo k = some j → j < F) (s : Nat) (hs : s < 6) (hsp : sp (48 + s) = true) (p : Nat) (hp : p < 8) : Ret (gg D cI cB cL bb L xs) mX_unmap (n + 3) 0 0 [.ref h, .int (nI s), .int (nI p)] (xW cI cB h a1 a2 a3 a4 a5 F c fo sp pi rest) (some (.int (bI (fo (384 + s * 8 + p)).isSome))) (xW cI cB h a1 a2 a3 a4 a5 F c (va_up fo (384 + s * 8 + p) none) sp pi rest) := by
  intro Psi hf
  show Go _ _ _ _ _ 0 [(0, .ref h), (1, .int (nI s)), (2, .int (nI p))] [] _ Psi
  refine go_aload_n (pc := 0) 0 0 rfl rfl eX_unmap_0 ?_
  refine go_iload_n (pc := 1) 1 1 rfl rfl eX_unmap_1 ?_
  refine go_rV0 (pc := 2) 0 (c_needSpace s hs hsp) okX_needSpace lmX_52 eX_unmap_2 rfl rfl rfl rfl rfl (Nat.le_of_ble_eq_true rfl) (Nat.le_of_ble_eq_true rfl) ?_
  refine go_aload_n (pc := 5) 0 0 rfl rfl eX_unmap_5 ?_
  refine go_iload_n (pc := 6) 2 2 rfl rfl eX_unmap_6 ?_
  refine go_rV0 (pc := 7) 0 (c_needPage p hp) okX_needPage lmX_67 eX_unmap_7 rfl rfl rfl rfl rfl (Nat.le_of_ble_eq_true rfl) (Nat.le_of_ble_eq_true rfl) ?_
  refine go_iload_n (pc := 10) 1 1 rfl rfl eX_unmap_10 ?_
  refine go_iload_n (pc := 11) 2 2 rfl rfl eX_unmap_11 ?_
  refine go_rS (pc := 12) (c_pageNow s p) okX_pageNow lmX_56 eX_unmap_12 rfl rfl (Nat.le_of_ble_eq_true rfl) (Nat.le_of_ble_eq_true rfl) ?_
  refine go_istore_n (pc := 15) (ls' := [(3, _), (0, _), (1, _), (2, _)]) 3 rfl (by decide) eX_unmap_15 rfl ?_
  refine go_aload_n (pc := 16) 0 1 rfl rfl eX_unmap_16 ?_
  refine go_aload_n (pc := 17) 0 1 rfl rfl eX_unmap_17 ?_
  refine go_get (pc := 18) hwX 0 rfl rfl 3 (by decide) lkX_29 rfl eX_unmap_18 ?_
  refine go_iload_n (pc := 21) 3 0 rfl rfl eX_unmap_21 ?_
  refine go_ialdN (pc := 22) 3 0 (384 + s * 8 + p) eX_unmap_22 rfl rfl (rfl) (by omega) (by omega) ?_
  refine go_rV (pc := 23) 0 (c_isFrame hF _ (hfo _)) okX_isFrame lmX_70 eX_unmap_23 rfl rfl rfl rfl rfl (Nat.le_of_ble_eq_true rfl) (Nat.le_of_ble_eq_true rfl) ?_
  refine go_istore (pc := 26) (ls' := [(4, _), (3, _), (0, _), (1, _), (2, _)]) 4 (by decide) eX_unmap_26 rfl ?_
  refine go_aload_n (pc := 28) 0 2 rfl rfl eX_unmap_28 ?_
  refine go_iload_n (pc := 29) 3 1 rfl rfl eX_unmap_29 ?_
  refine go_iconst (pc := 30) (v := (-1)) (by decide) eX_unmap_30 ?_
  refine go_rV0 (pc := 31) 0 (c_standIn hF hfo (384 + s * 8 + p) (by omega) none (fun _ z => by cases z)) okX_standIn lmX_59 eX_unmap_31 rfl rfl rfl rfl rfl (Nat.le_of_ble_eq_true rfl) (Nat.le_of_ble_eq_true rfl) ?_
  refine go_iload (pc := 34) 4 0 rfl eX_unmap_34 ?_
  exact go_iret (pc := 36) rfl (narB _) eX_unmap_36 hf
set_option maxRecDepth 100000 in
set_option maxHeartbeats 1000000 in
theorem t_unmap1 (x : Int32) (hx : ∀ j, j < 6 → x = nI j → sp (48 + j) = false) (u : Int32) : Thr (gg D cI cB cL bb L xs) mX_unmap (n + 3) 1 6 [.ref h, .int (x), .int (u)] (xW cI cB h a1 a2 a3 a4 a5 F c fo sp pi rest) "java/util/NoSuchElementException" := by
  intro Psi hf
  show Go _ _ _ _ _ 0 [(0, .ref h), (1, .int (x)), (2, .int (u))] [] _ Psi
  refine go_aload_n (pc := 0) 0 0 rfl rfl eX_unmap_0 ?_
  refine go_iload_n (pc := 1) 1 1 rfl rfl eX_unmap_1 ?_
  exact go_tV (pc := 2) 0 (t_needSpace x hx) okX_needSpace lmX_52 eX_unmap_2 rfl rfl rfl rfl rfl (Nat.le_of_ble_eq_true rfl) (Nat.le_of_ble_eq_true rfl) (by omega) (by omega) hf
set_option maxRecDepth 100000 in
set_option maxHeartbeats 1000000 in
theorem t_unmap2 (s : Nat) (hs : s < 6) (hsp : sp (48 + s) = true) (x : Int32) (hx : ∀ j, j < 8 → x ≠ nI j) : Thr (gg D cI cB cL bb L xs) mX_unmap (n + 3) 1 6 [.ref h, .int (nI s), .int (x)] (xW cI cB h a1 a2 a3 a4 a5 F c fo sp pi rest) "java/lang/IndexOutOfBoundsException" := by
  intro Psi hf
  show Go _ _ _ _ _ 0 [(0, .ref h), (1, .int (nI s)), (2, .int (x))] [] _ Psi
  refine go_aload_n (pc := 0) 0 0 rfl rfl eX_unmap_0 ?_
  refine go_iload_n (pc := 1) 1 1 rfl rfl eX_unmap_1 ?_
  refine go_rV0 (pc := 2) 0 (c_needSpace s hs hsp) okX_needSpace lmX_52 eX_unmap_2 rfl rfl rfl rfl rfl (Nat.le_of_ble_eq_true rfl) (Nat.le_of_ble_eq_true rfl) ?_
  refine go_aload_n (pc := 5) 0 0 rfl rfl eX_unmap_5 ?_
  refine go_iload_n (pc := 6) 2 2 rfl rfl eX_unmap_6 ?_
  exact go_tV (pc := 7) 0 (t_needPage x hx) okX_needPage lmX_67 eX_unmap_7 rfl rfl rfl rfl rfl (Nat.le_of_ble_eq_true rfl) (Nat.le_of_ble_eq_true rfl) (by omega) (by omega) hf
set_option maxRecDepth 100000 in
set_option maxHeartbeats 1000000 in
theorem c_read (hF : F ≤ 60) (hfo : ∀ k j, fo k = some j → j < F) (s : Nat) (hs : s < 6) (hsp : sp (48 + s) = true) (a : Nat) (ha : a < 128) (b : Nat) (hb : fo (384 + s * 8 + a / 16) = some b) : Ret (gg D cI cB cL bb L xs) mX_read (n + 4) 0 0 [.ref h, .int (nI s), .int (nI a)] (xW cI cB h a1 a2 a3 a4 a5 F c fo sp pi rest) (some (.int (c (b * 16 + a % 16)))) (xW cI cB h a1 a2 a3 a4 a5 F c fo sp pi rest) := by
  intro Psi hf
  show Go _ _ _ _ _ 0 [(0, .ref h), (1, .int (nI s)), (2, .int (nI a))] [] _ Psi
  refine go_aload_n (pc := 0) 0 0 rfl rfl eX_read_0 ?_
  refine go_get (pc := 1) hwX 0 rfl rfl 3 (by decide) lkX_29 rfl eX_read_1 ?_
  refine go_aload_n (pc := 4) 0 0 rfl rfl eX_read_4 ?_
  refine go_iload_n (pc := 5) 1 1 rfl rfl eX_read_5 ?_
  refine go_iload_n (pc := 6) 2 2 rfl rfl eX_read_6 ?_
  refine go_rV (pc := 7) 0 (c_nha hF hfo s hs hsp a ha (by rw [hb]; rfl)) okX_needHolderAt lmX_80 eX_read_7 rfl rfl rfl rfl rfl (Nat.le_of_ble_eq_true rfl) (Nat.le_of_ble_eq_true rfl) ?_
  refine go_ialdN (pc := 10) 3 0 (384 + s * 8 + a / 16) eX_read_10 rfl rfl (rfl) (by omega) (by omega) ?_
  rw [hb]
  have hbF := hfo _ _ hb
  refine go_istore_n (pc := 11) (ls' := [(3, _), (0, _), (1, _), (2, _)]) 3 rfl (by decide) eX_read_11 rfl ?_
  refine go_aload_n (pc := 12) 0 1 rfl rfl eX_read_12 ?_
  refine go_get (pc := 13) hwX 0 rfl rfl 1 (by decide) lkX_22 rfl eX_read_13 ?_
  refine go_iload_n (pc := 16) 3 0 rfl rfl eX_read_16 ?_
  refine go_iload_n (pc := 17) 2 3 rfl rfl eX_read_17 ?_
  refine go_rS (pc := 18) (c_cellIndex b a ha) okX_cellIndex lmX_83 eX_read_18 rfl rfl (Nat.le_of_ble_eq_true rfl) (Nat.le_of_ble_eq_true rfl) ?_
  refine go_ialdN (pc := 21) 1 0 (b * 16 + a % 16) eX_read_21 rfl rfl (rfl) (by omega) (by omega) ?_
  exact go_iret (pc := 22) rfl rfl eX_read_22 (hf)
set_option maxRecDepth 100000 in
set_option maxHeartbeats 1000000 in
theorem t_read1 (y x : Int32) (hx : ∀ j, j < 128 → x ≠ nI j) : Thr (gg D cI cB cL bb L xs) mX_read (n + 4) 1 6 [.ref h, .int (y), .int (x)] (xW cI cB h a1 a2 a3 a4 a5 F c fo sp pi rest) "java/lang/IndexOutOfBoundsException" := by
  intro Psi hf
  show Go _ _ _ _ _ 0 [(0, .ref h), (1, .int (y)), (2, .int (x))] [] _ Psi
  refine go_aload_n (pc := 0) 0 0 rfl rfl eX_read_0 ?_
  refine go_get (pc := 1) hwX 0 rfl rfl 3 (by decide) lkX_29 rfl eX_read_1 ?_
  refine go_aload_n (pc := 4) 0 0 rfl rfl eX_read_4 ?_
  refine go_iload_n (pc := 5) 1 1 rfl rfl eX_read_5 ?_
  refine go_iload_n (pc := 6) 2 2 rfl rfl eX_read_6 ?_
  exact go_tV (pc := 7) 0 (t_nha1 y x hx) okX_needHolderAt lmX_80 eX_read_7 rfl rfl rfl rfl rfl (Nat.le_of_ble_eq_true rfl) (Nat.le_of_ble_eq_true rfl) (by omega) (by omega) hf
set_option maxRecDepth 100000 in
set_option maxHeartbeats 1000000 in
theorem t_write1 (y x : Int32) (hx : ∀ j, j < 128 → x ≠ nI j) (v : Int32) : Thr (gg D cI cB cL bb L xs) mX_write (n + 4) 1 6 [.ref h, .int (y), .int (x), .int (v)] (xW cI cB h a1 a2 a3 a4 a5 F c fo sp pi rest) "java/lang/IndexOutOfBoundsException" := by
  intro Psi hf
  show Go _ _ _ _ _ 0 [(0, .ref h), (1, .int (y)), (2, .int (x)), (3, .int (v))] [] _ Psi
  refine go_aload_n (pc := 0) 0 0 rfl rfl eX_write_0 ?_
  refine go_aload_n (pc := 1) 0 0 rfl rfl eX_write_1 ?_
  refine go_iload_n (pc := 2) 1 1 rfl rfl eX_write_2 ?_
  refine go_iload_n (pc := 3) 2 2 rfl rfl eX_write_3 ?_
  exact go_tV (pc := 4) 0 (t_nha1 y x hx) okX_needHolderAt lmX_80 eX_write_4 rfl rfl rfl rfl rfl (Nat.le_of_ble_eq_true rfl) (Nat.le_of_ble_eq_true rfl) (by omega) (by omega) hf
set_option maxRecDepth 100000 in
set_option maxHeartbeats 1000000 in
theorem t_read2 (x : Int32) (hx : ∀ j, j < 6 → x = nI j → sp (48 + j) = false) (a : Nat) (ha : a < 128) : Thr (gg D cI cB cL bb L xs) mX_read (n + 4) 1 6 [.ref h, .int (x), .int (nI a)] (xW cI cB h a1 a2 a3 a4 a5 F c fo sp pi rest) "java/util/NoSuchElementException" := by
  intro Psi hf
  show Go _ _ _ _ _ 0 [(0, .ref h), (1, .int (x)), (2, .int (nI a))] [] _ Psi
  refine go_aload_n (pc := 0) 0 0 rfl rfl eX_read_0 ?_
  refine go_get (pc := 1) hwX 0 rfl rfl 3 (by decide) lkX_29 rfl eX_read_1 ?_
  refine go_aload_n (pc := 4) 0 0 rfl rfl eX_read_4 ?_
  refine go_iload_n (pc := 5) 1 1 rfl rfl eX_read_5 ?_
  refine go_iload_n (pc := 6) 2 2 rfl rfl eX_read_6 ?_
  exact go_tV (pc := 7) 0 (t_nha2 x hx a ha) okX_needHolderAt lmX_80 eX_read_7 rfl rfl rfl rfl rfl (Nat.le_of_ble_eq_true rfl) (Nat.le_of_ble_eq_true rfl) (by omega) (by omega) hf
set_option maxRecDepth 100000 in
set_option maxHeartbeats 1000000 in
theorem t_write2 (x : Int32) (hx : ∀ j, j < 6 → x = nI j → sp (48 + j) = false) (a : Nat) (ha : a < 128) (v : Int32) : Thr (gg D cI cB cL bb L xs) mX_write (n + 4) 1 6 [.ref h, .int (x), .int (nI a), .int (v)] (xW cI cB h a1 a2 a3 a4 a5 F c fo sp pi rest) "java/util/NoSuchElementException" := by
  intro Psi hf
  show Go _ _ _ _ _ 0 [(0, .ref h), (1, .int (x)), (2, .int (nI a)), (3, .int (v))] [] _ Psi
  refine go_aload_n (pc := 0) 0 0 rfl rfl eX_write_0 ?_
  refine go_aload_n (pc := 1) 0 0 rfl rfl eX_write_1 ?_
  refine go_iload_n (pc := 2) 1 1 rfl rfl eX_write_2 ?_
  refine go_iload_n (pc := 3) 2 2 rfl rfl eX_write_3 ?_
  exact go_tV (pc := 4) 0 (t_nha2 x hx a ha) okX_needHolderAt lmX_80 eX_write_4 rfl rfl rfl rfl rfl (Nat.le_of_ble_eq_true rfl) (Nat.le_of_ble_eq_true rfl) (by omega) (by omega) hf
set_option maxRecDepth 100000 in
set_option maxHeartbeats 1000000 in
theorem t_read3 (hF : F ≤ 60) (hfo : ∀ k j, fo k = some j → j < F) (s : Nat) (hs : s < 6) (hsp : sp (48 + s) = true) (a : Nat) (ha : a < 128) (hfr : (fo (384 + s * 8 + a / 16)).isSome = false) : Thr (gg D cI cB cL bb L xs) mX_read (n + 4) 1 6 [.ref h, .int (nI s), .int (nI a)] (xW cI cB h a1 a2 a3 a4 a5 F c fo sp pi rest) "java/util/NoSuchElementException" := by
  intro Psi hf
  show Go _ _ _ _ _ 0 [(0, .ref h), (1, .int (nI s)), (2, .int (nI a))] [] _ Psi
  refine go_aload_n (pc := 0) 0 0 rfl rfl eX_read_0 ?_
  refine go_get (pc := 1) hwX 0 rfl rfl 3 (by decide) lkX_29 rfl eX_read_1 ?_
  refine go_aload_n (pc := 4) 0 0 rfl rfl eX_read_4 ?_
  refine go_iload_n (pc := 5) 1 1 rfl rfl eX_read_5 ?_
  refine go_iload_n (pc := 6) 2 2 rfl rfl eX_read_6 ?_
  exact go_tV (pc := 7) 0 (t_nha3 hF hfo s hs hsp a ha hfr) okX_needHolderAt lmX_80 eX_read_7 rfl rfl rfl rfl rfl (Nat.le_of_ble_eq_true rfl) (Nat.le_of_ble_eq_true rfl) (by omega) (by omega) hf
set_option maxRecDepth 100000 in
set_option maxHeartbeats 1000000 in
theorem t_write3 (hF : F ≤ 60) (hfo : ∀ k j, fo k = some j → j < F) (s : Nat) (hs : s < 6) (hsp : sp (48 + s) = true) (a : Nat) (ha : a < 128) (hfr : (fo (384 + s * 8 + a / 16)).isSome = false) (v : Int32) : Thr (gg D cI cB cL bb L xs) mX_write (n + 4) 1 6 [.ref h, .int (nI s), .int (nI a), .int (v)] (xW cI cB h a1 a2 a3 a4 a5 F c fo sp pi rest) "java/util/NoSuchElementException" := by
  intro Psi hf
  show Go _ _ _ _ _ 0 [(0, .ref h), (1, .int (nI s)), (2, .int (nI a)), (3, .int (v))] [] _ Psi
  refine go_aload_n (pc := 0) 0 0 rfl rfl eX_write_0 ?_
  refine go_aload_n (pc := 1) 0 0 rfl rfl eX_write_1 ?_
  refine go_iload_n (pc := 2) 1 1 rfl rfl eX_write_2 ?_
  refine go_iload_n (pc := 3) 2 2 rfl rfl eX_write_3 ?_
  exact go_tV (pc := 4) 0 (t_nha3 hF hfo s hs hsp a ha hfr) okX_needHolderAt lmX_80 eX_write_4 rfl rfl rfl rfl rfl (Nat.le_of_ble_eq_true rfl) (Nat.le_of_ble_eq_true rfl) (by omega) (by omega) hf
set_option maxRecDepth 100000 in
set_option maxHeartbeats 1000000 in
theorem c_write1 (hF : F ≤ 60) (hfo : ∀ k j, fo k = some j → j < F) (s : Nat) (hs : s < 6) (hsp : sp (48 + s) = true) (a : Nat) (ha : a < 128) (b : Nat) (hb : fo (384 + s * 8 + a / 16) = some b) (v : Int32) (h1 : hcnt fo b = 1) : Ret (gg D cI cB cL bb L xs) mX_write (n + 4) 0 0 [.ref h, .int (nI s), .int (nI a), .int (v)] (xW cI cB h a1 a2 a3 a4 a5 F c fo sp pi rest) (some (.int (c (b * 16 + a % 16)))) (xW cI cB h a1 a2 a3 a4 a5 F (va_up c (b * 16 + a % 16) v) fo sp pi rest) := by
  intro Psi hf
  show Go _ _ _ _ _ 0 [(0, .ref h), (1, .int (nI s)), (2, .int (nI a)), (3, .int (v))] [] _ Psi
  refine go_aload_n (pc := 0) 0 0 rfl rfl eX_write_0 ?_
  refine go_aload_n (pc := 1) 0 0 rfl rfl eX_write_1 ?_
  refine go_iload_n (pc := 2) 1 1 rfl rfl eX_write_2 ?_
  refine go_iload_n (pc := 3) 2 2 rfl rfl eX_write_3 ?_
  refine go_rV (pc := 4) 0 (c_nha hF hfo s hs hsp a ha (by rw [hb]; rfl)) okX_needHolderAt lmX_80 eX_write_4 rfl rfl rfl rfl rfl (Nat.le_of_ble_eq_true rfl) (Nat.le_of_ble_eq_true rfl) ?_
  refine go_rV (pc := 7) 0 (c_own1 hF hfo (384 + s * 8 + a / 16) b (by omega) hb h1) okX_needOwnFrame lmX_86 eX_write_7 rfl rfl rfl rfl rfl (Nat.le_of_ble_eq_true rfl) (Nat.le_of_ble_eq_true rfl) ?_
  have hbF := hfo _ _ hb
  refine go_istore (pc := 10) (ls' := [(4, _), (0, _), (1, _), (2, _), (3, _)]) 4 (by decide) eX_write_10 rfl ?_
  refine go_iload (pc := 12) 4 0 rfl eX_write_12 ?_
  refine go_iload_n (pc := 14) 2 3 rfl rfl eX_write_14 ?_
  refine go_rS (pc := 15) (c_cellIndex b a ha) okX_cellIndex lmX_83 eX_write_15 rfl rfl (Nat.le_of_ble_eq_true rfl) (Nat.le_of_ble_eq_true rfl) ?_
  refine go_istore (pc := 18) (ls' := [(5, _), (4, _), (0, _), (1, _), (2, _), (3, _)]) 5 (by decide) eX_write_18 rfl ?_
  refine go_aload_n (pc := 20) 0 2 rfl rfl eX_write_20 ?_
  refine go_get (pc := 21) hwX 0 rfl rfl 1 (by decide) lkX_22 rfl eX_write_21 ?_
  refine go_iload (pc := 24) 5 0 rfl eX_write_24 ?_
  refine go_ialdN (pc := 26) 1 0 (b * 16 + a % 16) eX_write_26 rfl rfl (rfl) (by omega) (by omega) ?_
  refine go_istore (pc := 27) (ls' := [(6, _), (5, _), (4, _), (0, _), (1, _), (2, _), (3, _)]) 6 (by decide) eX_write_27 rfl ?_
  refine go_aload_n (pc := 29) 0 3 rfl rfl eX_write_29 ?_
  refine go_get (pc := 30) hwX 0 rfl rfl 1 (by decide) lkX_22 rfl eX_write_30 ?_
  refine go_iload (pc := 33) 5 1 rfl eX_write_33 ?_
  refine go_iload_n (pc := 35) 3 6 rfl rfl eX_write_35 ?_
  refine go_iastN (pc := 36) (es' := (xW cI cB h a1 a2 a3 a4 a5 F (va_up c (b * 16 + a % 16) v) fo sp pi rest)) 1 0 (b * 16 + a % 16) eX_write_36 rfl rfl rfl (by omega) (by omega) (xs1 (upd_up _ _ _)) ?_
  refine go_iload (pc := 37) 6 0 rfl eX_write_37 ?_
  exact go_iret (pc := 39) rfl rfl eX_write_39 (hf)
set_option maxRecDepth 100000 in
set_option maxHeartbeats 1000000 in
theorem c_write2 (hF : F ≤ 60) (hfo : ∀ k j, fo k = some j → j < F) (s : Nat) (hs : s < 6) (hsp : sp (48 + s) = true) (a : Nat) (ha : a < 128) (b : Nat) (hb : fo (384 + s * 8 + a / 16) = some b) (v : Int32) (h1 : hcnt fo b ≠ 1) (j : Nat) (hj : j < F) (hj0 : hcnt fo j = 0) (hlt : ∀ q, q < j → hcnt fo q ≠ 0) : Ret (gg D cI cB cL bb L xs) mX_write (n + 4) 0 0 [.ref h, .int (nI s), .int (nI a), .int (v)] (xW cI cB h a1 a2 a3 a4 a5 F c fo sp pi rest) (some (.int ((va_cpy c c (b * 16) (j * 16) 16) (j * 16 + a % 16)))) (xW cI cB h a1 a2 a3 a4 a5 F (va_up (va_cpy c c (b * 16) (j * 16) 16) (j * 16 + a % 16) v) (va_up fo (384 + s * 8 + a / 16) (some j)) sp pi rest) := by
  intro Psi hf
  show Go _ _ _ _ _ 0 [(0, .ref h), (1, .int (nI s)), (2, .int (nI a)), (3, .int (v))] [] _ Psi
  refine go_aload_n (pc := 0) 0 0 rfl rfl eX_write_0 ?_
  refine go_aload_n (pc := 1) 0 0 rfl rfl eX_write_1 ?_
  refine go_iload_n (pc := 2) 1 1 rfl rfl eX_write_2 ?_
  refine go_iload_n (pc := 3) 2 2 rfl rfl eX_write_3 ?_
  refine go_rV (pc := 4) 0 (c_nha hF hfo s hs hsp a ha (by rw [hb]; rfl)) okX_needHolderAt lmX_80 eX_write_4 rfl rfl rfl rfl rfl (Nat.le_of_ble_eq_true rfl) (Nat.le_of_ble_eq_true rfl) ?_
  refine go_rV (pc := 7) 0 (c_own2 hF hfo (384 + s * 8 + a / 16) b (by omega) hb h1 j hj hj0 hlt) okX_needOwnFrame lmX_86 eX_write_7 rfl rfl rfl rfl rfl (Nat.le_of_ble_eq_true rfl) (Nat.le_of_ble_eq_true rfl) ?_
  refine go_istore (pc := 10) (ls' := [(4, _), (0, _), (1, _), (2, _), (3, _)]) 4 (by decide) eX_write_10 rfl ?_
  refine go_iload (pc := 12) 4 0 rfl eX_write_12 ?_
  refine go_iload_n (pc := 14) 2 3 rfl rfl eX_write_14 ?_
  refine go_rS (pc := 15) (c_cellIndex j a ha) okX_cellIndex lmX_83 eX_write_15 rfl rfl (Nat.le_of_ble_eq_true rfl) (Nat.le_of_ble_eq_true rfl) ?_
  refine go_istore (pc := 18) (ls' := [(5, _), (4, _), (0, _), (1, _), (2, _), (3, _)]) 5 (by decide) eX_write_18 rfl ?_
  refine go_aload_n (pc := 20) 0 2 rfl rfl eX_write_20 ?_
  refine go_get (pc := 21) hwX 0 rfl rfl 1 (by decide) lkX_22 rfl eX_write_21 ?_
  refine go_iload (pc := 24) 5 0 rfl eX_write_24 ?_
  refine go_ialdN (pc := 26) 1 0 (j * 16 + a % 16) eX_write_26 rfl rfl (rfl) (by omega) (by omega) ?_
  refine go_istore (pc := 27) (ls' := [(6, _), (5, _), (4, _), (0, _), (1, _), (2, _), (3, _)]) 6 (by decide) eX_write_27 rfl ?_
  refine go_aload_n (pc := 29) 0 3 rfl rfl eX_write_29 ?_
  refine go_get (pc := 30) hwX 0 rfl rfl 1 (by decide) lkX_22 rfl eX_write_30 ?_
  refine go_iload (pc := 33) 5 1 rfl eX_write_33 ?_
  refine go_iload_n (pc := 35) 3 6 rfl rfl eX_write_35 ?_
  refine go_iastN (pc := 36) (es' := (xW cI cB h a1 a2 a3 a4 a5 F (va_up (va_cpy c c (b * 16) (j * 16) 16) (j * 16 + a % 16) v) (va_up fo (384 + s * 8 + a / 16) (some j)) sp pi rest)) 1 0 (j * 16 + a % 16) eX_write_36 rfl rfl rfl (by omega) (by omega) (xs1 (upd_up _ _ _)) ?_
  refine go_iload (pc := 37) 6 0 rfl eX_write_37 ?_
  exact go_iret (pc := 39) rfl rfl eX_write_39 (hf)
set_option maxRecDepth 100000 in
set_option maxHeartbeats 1000000 in
theorem t_write4 (hF : F ≤ 60) (hfo : ∀ k j, fo k = some j → j < F) (s : Nat) (hs : s < 6) (hsp : sp (48 + s) = true) (a : Nat) (ha : a < 128) (b : Nat) (hb : fo (384 + s * 8 + a / 16) = some b) (v : Int32) (h1 : hcnt fo b ≠ 1) (hlt : ∀ q, q < F → hcnt fo q ≠ 0) : Thr (gg D cI cB cL bb L xs) mX_write (n + 4) 1 6 [.ref h, .int (nI s), .int (nI a), .int (v)] (xW cI cB h a1 a2 a3 a4 a5 F c fo sp pi rest) "java/lang/IllegalStateException" := by
  intro Psi hf
  show Go _ _ _ _ _ 0 [(0, .ref h), (1, .int (nI s)), (2, .int (nI a)), (3, .int (v))] [] _ Psi
  refine go_aload_n (pc := 0) 0 0 rfl rfl eX_write_0 ?_
  refine go_aload_n (pc := 1) 0 0 rfl rfl eX_write_1 ?_
  refine go_iload_n (pc := 2) 1 1 rfl rfl eX_write_2 ?_
  refine go_iload_n (pc := 3) 2 2 rfl rfl eX_write_3 ?_
  refine go_rV (pc := 4) 0 (c_nha hF hfo s hs hsp a ha (by rw [hb]; rfl)) okX_needHolderAt lmX_80 eX_write_4 rfl rfl rfl rfl rfl (Nat.le_of_ble_eq_true rfl) (Nat.le_of_ble_eq_true rfl) ?_
  exact go_tV (pc := 7) 0 (t_own hF hfo (384 + s * 8 + a / 16) b (by omega) hb h1 hlt) okX_needOwnFrame lmX_86 eX_write_7 rfl rfl rfl rfl rfl (Nat.le_of_ble_eq_true rfl) (Nat.le_of_ble_eq_true rfl) (by omega) (by omega) hf
set_option maxRecDepth 100000 in
set_option maxHeartbeats 1000000 in
theorem c_lend (hF : F ≤ 60) (hfo : ∀ k j, fo k = some j → j < F) (s : Nat) (hs : s < 6) (hsp : sp (48 + s) = true) (t : Nat) (ht : t < 6) (htp : sp (48 + t) = true) (p q : Nat) (hp : p < 8) (hq : q < 8) : Ret (gg D cI cB cL bb L xs) mX_lend (n + 4) 0 0 [.ref h, .int (nI s), .int (nI p), .int (nI t), .int (nI q)] (xW cI cB h a1 a2 a3 a4 a5 F c fo sp pi rest) (some (.int (bI (decide (fo (384 + t * 8 + q) ≠ fo (384 + s * 8 + p)))))) (xW cI cB h a1 a2 a3 a4 a5 F c (va_up fo (384 + t * 8 + q) (fo (384 + s * 8 + p))) sp pi rest) := by
  intro Psi hf
  show Go _ _ _ _ _ 0 [(0, .ref h), (1, .int (nI s)), (2, .int (nI p)), (3, .int (nI t)), (4, .int (nI q))] [] _ Psi
  refine go_aload_n (pc := 0) 0 0 rfl rfl eX_lend_0 ?_
  refine go_iload_n (pc := 1) 1 1 rfl rfl eX_lend_1 ?_
  refine go_iload_n (pc := 2) 2 2 rfl rfl eX_lend_2 ?_
  refine go_iload_n (pc := 3) 3 3 rfl rfl eX_lend_3 ?_
  refine go_iload (pc := 4) 4 4 rfl eX_lend_4 ?_
  refine go_rV0 (pc := 6) 0 (c_needTwo s hs hsp t ht htp p q hp hq) okX_needTwoPages lmX_89 eX_lend_6 rfl rfl rfl rfl rfl (Nat.le_of_ble_eq_true rfl) (Nat.le_of_ble_eq_true rfl) ?_
  refine go_aload_n (pc := 9) 0 0 rfl rfl eX_lend_9 ?_
  refine go_get (pc := 10) hwX 0 rfl rfl 3 (by decide) lkX_29 rfl eX_lend_10 ?_
  refine go_iload_n (pc := 13) 1 1 rfl rfl eX_lend_13 ?_
  refine go_iload_n (pc := 14) 2 2 rfl rfl eX_lend_14 ?_
  refine go_rS (pc := 15) (c_pageNow s p) okX_pageNow lmX_56 eX_lend_15 rfl rfl (Nat.le_of_ble_eq_true rfl) (Nat.le_of_ble_eq_true rfl) ?_
  refine go_ialdN (pc := 18) 3 0 (384 + s * 8 + p) eX_lend_18 rfl rfl (rfl) (by omega) (by omega) ?_
  refine go_istore (pc := 19) (ls' := [(5, _), (0, _), (1, _), (2, _), (3, _), (4, _)]) 5 (by decide) eX_lend_19 rfl ?_
  refine go_iload_n (pc := 21) 3 4 rfl rfl eX_lend_21 ?_
  refine go_iload (pc := 22) 4 5 rfl eX_lend_22 ?_
  refine go_rS (pc := 24) (c_pageNow t q) okX_pageNow lmX_56 eX_lend_24 rfl rfl (Nat.le_of_ble_eq_true rfl) (Nat.le_of_ble_eq_true rfl) ?_
  refine go_istore (pc := 27) (ls' := [(6, _), (5, _), (0, _), (1, _), (2, _), (3, _), (4, _)]) 6 (by decide) eX_lend_27 rfl ?_
  refine go_aload_n (pc := 29) 0 2 rfl rfl eX_lend_29 ?_
  refine go_get (pc := 30) hwX 0 rfl rfl 3 (by decide) lkX_29 rfl eX_lend_30 ?_
  refine go_iload (pc := 33) 6 0 rfl eX_lend_33 ?_
  refine go_ialdN (pc := 35) 3 0 (384 + t * 8 + q) eX_lend_35 rfl rfl (rfl) (by omega) (by omega) ?_
  refine go_iload (pc := 36) 5 1 rfl eX_lend_36 ?_
  refine go_icmp_eq (pc := 38) 45 (by decide) eX_lend_38 (fun c38 => ?_) (fun c38 => ?_)
  · have hd : decide (fo (384 + t * 8 + q) ≠ fo (384 + s * 8 + p)) = false := decide_eq_false (fun z => z ((oI_inj (fun j y => by have := hfo _ _ y; omega) (fun j y => by have := hfo _ _ y; omega)).mp c38))
    rw [hd] at hf
    refine go_iconst (pc := 45) (v := 0) (by decide) eX_lend_45 ?_
    refine go_istore (pc := 46) (ls' := [(7, _), (6, _), (5, _), (0, _), (1, _), (2, _), (3, _), (4, _)]) 7 (by decide) eX_lend_46 rfl ?_
    refine go_aload_n (pc := 48) 0 3 rfl rfl eX_lend_48 ?_
    refine go_iload (pc := 49) 6 1 rfl eX_lend_49 ?_
    refine go_iload (pc := 51) 5 2 rfl eX_lend_51 ?_
    refine go_rV0 (pc := 53) 0 (c_standIn hF hfo (384 + t * 8 + q) (by omega) (fo (384 + s * 8 + p)) (hfo _)) okX_standIn lmX_59 eX_lend_53 rfl rfl rfl rfl rfl (Nat.le_of_ble_eq_true rfl) (Nat.le_of_ble_eq_true rfl) ?_
    refine go_iload (pc := 56) 7 0 rfl eX_lend_56 ?_
    exact go_iret (pc := 58) rfl rfl eX_lend_58 (hf)
  · have hd : decide (fo (384 + t * 8 + q) ≠ fo (384 + s * 8 + p)) = true := decide_eq_true (fun z => c38 (by rw [z]))
    rw [hd] at hf
    refine go_iconst (pc := 41) (v := 1) (by decide) eX_lend_41 ?_
    refine go_goto (pc := 42) 46 (by decide) eX_lend_42 ?_
    refine go_istore (pc := 46) (ls' := [(7, _), (6, _), (5, _), (0, _), (1, _), (2, _), (3, _), (4, _)]) 7 (by decide) eX_lend_46 rfl ?_
    refine go_aload_n (pc := 48) 0 3 rfl rfl eX_lend_48 ?_
    refine go_iload (pc := 49) 6 1 rfl eX_lend_49 ?_
    refine go_iload (pc := 51) 5 2 rfl eX_lend_51 ?_
    refine go_rV0 (pc := 53) 0 (c_standIn hF hfo (384 + t * 8 + q) (by omega) (fo (384 + s * 8 + p)) (hfo _)) okX_standIn lmX_59 eX_lend_53 rfl rfl rfl rfl rfl (Nat.le_of_ble_eq_true rfl) (Nat.le_of_ble_eq_true rfl) ?_
    refine go_iload (pc := 56) 7 0 rfl eX_lend_56 ?_
    exact go_iret (pc := 58) rfl rfl eX_lend_58 (hf)
set_option maxRecDepth 100000 in
set_option maxHeartbeats 1000000 in
theorem t_lend1 (x : Int32) (hx : ∀ j, j < 6 → x = nI j → sp (48 + j) = false) (y u v : Int32) : Thr (gg D cI cB cL bb L xs) mX_lend (n + 4) 1 6 [.ref h, .int (x), .int (u), .int (y), .int (v)] (xW cI cB h a1 a2 a3 a4 a5 F c fo sp pi rest) "java/util/NoSuchElementException" := by
  intro Psi hf
  show Go _ _ _ _ _ 0 [(0, .ref h), (1, .int (x)), (2, .int (u)), (3, .int (y)), (4, .int (v))] [] _ Psi
  refine go_aload_n (pc := 0) 0 0 rfl rfl eX_lend_0 ?_
  refine go_iload_n (pc := 1) 1 1 rfl rfl eX_lend_1 ?_
  refine go_iload_n (pc := 2) 2 2 rfl rfl eX_lend_2 ?_
  refine go_iload_n (pc := 3) 3 3 rfl rfl eX_lend_3 ?_
  refine go_iload (pc := 4) 4 4 rfl eX_lend_4 ?_
  exact go_tV (pc := 6) 0 (t_needTwo1 x hx y u v) okX_needTwoPages lmX_89 eX_lend_6 rfl rfl rfl rfl rfl (Nat.le_of_ble_eq_true rfl) (Nat.le_of_ble_eq_true rfl) (by omega) (by omega) hf
set_option maxRecDepth 100000 in
set_option maxHeartbeats 1000000 in
theorem t_lend2 (s : Nat) (hs : s < 6) (hsp : sp (48 + s) = true) (x : Int32) (hx : ∀ j, j < 6 → x = nI j → sp (48 + j) = false) (u v : Int32) : Thr (gg D cI cB cL bb L xs) mX_lend (n + 4) 1 6 [.ref h, .int (nI s), .int (u), .int (x), .int (v)] (xW cI cB h a1 a2 a3 a4 a5 F c fo sp pi rest) "java/util/NoSuchElementException" := by
  intro Psi hf
  show Go _ _ _ _ _ 0 [(0, .ref h), (1, .int (nI s)), (2, .int (u)), (3, .int (x)), (4, .int (v))] [] _ Psi
  refine go_aload_n (pc := 0) 0 0 rfl rfl eX_lend_0 ?_
  refine go_iload_n (pc := 1) 1 1 rfl rfl eX_lend_1 ?_
  refine go_iload_n (pc := 2) 2 2 rfl rfl eX_lend_2 ?_
  refine go_iload_n (pc := 3) 3 3 rfl rfl eX_lend_3 ?_
  refine go_iload (pc := 4) 4 4 rfl eX_lend_4 ?_
  exact go_tV (pc := 6) 0 (t_needTwo2 s hs hsp x hx u v) okX_needTwoPages lmX_89 eX_lend_6 rfl rfl rfl rfl rfl (Nat.le_of_ble_eq_true rfl) (Nat.le_of_ble_eq_true rfl) (by omega) (by omega) hf
set_option maxRecDepth 100000 in
set_option maxHeartbeats 1000000 in
theorem t_lend3 (s : Nat) (hs : s < 6) (hsp : sp (48 + s) = true) (t : Nat) (ht : t < 6) (htp : sp (48 + t) = true) (x : Int32) (hx : ∀ j, j < 8 → x ≠ nI j) (v : Int32) : Thr (gg D cI cB cL bb L xs) mX_lend (n + 4) 1 6 [.ref h, .int (nI s), .int (x), .int (nI t), .int (v)] (xW cI cB h a1 a2 a3 a4 a5 F c fo sp pi rest) "java/lang/IndexOutOfBoundsException" := by
  intro Psi hf
  show Go _ _ _ _ _ 0 [(0, .ref h), (1, .int (nI s)), (2, .int (x)), (3, .int (nI t)), (4, .int (v))] [] _ Psi
  refine go_aload_n (pc := 0) 0 0 rfl rfl eX_lend_0 ?_
  refine go_iload_n (pc := 1) 1 1 rfl rfl eX_lend_1 ?_
  refine go_iload_n (pc := 2) 2 2 rfl rfl eX_lend_2 ?_
  refine go_iload_n (pc := 3) 3 3 rfl rfl eX_lend_3 ?_
  refine go_iload (pc := 4) 4 4 rfl eX_lend_4 ?_
  exact go_tV (pc := 6) 0 (t_needTwo3 s hs hsp t ht htp x hx v) okX_needTwoPages lmX_89 eX_lend_6 rfl rfl rfl rfl rfl (Nat.le_of_ble_eq_true rfl) (Nat.le_of_ble_eq_true rfl) (by omega) (by omega) hf
set_option maxRecDepth 100000 in
set_option maxHeartbeats 1000000 in
theorem t_lend4 (s : Nat) (hs : s < 6) (hsp : sp (48 + s) = true) (t : Nat) (ht : t < 6) (htp : sp (48 + t) = true) (p : Nat) (hp : p < 8) (x : Int32) (hx : ∀ j, j < 8 → x ≠ nI j) : Thr (gg D cI cB cL bb L xs) mX_lend (n + 4) 1 6 [.ref h, .int (nI s), .int (nI p), .int (nI t), .int (x)] (xW cI cB h a1 a2 a3 a4 a5 F c fo sp pi rest) "java/lang/IndexOutOfBoundsException" := by
  intro Psi hf
  show Go _ _ _ _ _ 0 [(0, .ref h), (1, .int (nI s)), (2, .int (nI p)), (3, .int (nI t)), (4, .int (x))] [] _ Psi
  refine go_aload_n (pc := 0) 0 0 rfl rfl eX_lend_0 ?_
  refine go_iload_n (pc := 1) 1 1 rfl rfl eX_lend_1 ?_
  refine go_iload_n (pc := 2) 2 2 rfl rfl eX_lend_2 ?_
  refine go_iload_n (pc := 3) 3 3 rfl rfl eX_lend_3 ?_
  refine go_iload (pc := 4) 4 4 rfl eX_lend_4 ?_
  exact go_tV (pc := 6) 0 (t_needTwo4 s hs hsp t ht htp p hp x hx) okX_needTwoPages lmX_89 eX_lend_6 rfl rfl rfl rfl rfl (Nat.le_of_ble_eq_true rfl) (Nat.le_of_ble_eq_true rfl) (by omega) (by omega) hf
set_option maxRecDepth 100000 in
set_option maxHeartbeats 1000000 in
theorem t_join1 (x : Int32) (hx : ∀ j, j < 6 → x = nI j → sp (48 + j) = false) (y u v : Int32) : Thr (gg D cI cB cL bb L xs) mX_join (n + 4) 1 6 [.ref h, .int (x), .int (u), .int (y), .int (v)] (xW cI cB h a1 a2 a3 a4 a5 F c fo sp pi rest) "java/util/NoSuchElementException" := by
  intro Psi hf
  show Go _ _ _ _ _ 0 [(0, .ref h), (1, .int (x)), (2, .int (u)), (3, .int (y)), (4, .int (v))] [] _ Psi
  refine go_aload_n (pc := 0) 0 0 rfl rfl eX_join_0 ?_
  refine go_iload_n (pc := 1) 1 1 rfl rfl eX_join_1 ?_
  refine go_iload_n (pc := 2) 2 2 rfl rfl eX_join_2 ?_
  refine go_iload_n (pc := 3) 3 3 rfl rfl eX_join_3 ?_
  refine go_iload (pc := 4) 4 4 rfl eX_join_4 ?_
  exact go_tV (pc := 6) 0 (t_needTwo1 x hx y u v) okX_needTwoPages lmX_89 eX_join_6 rfl rfl rfl rfl rfl (Nat.le_of_ble_eq_true rfl) (Nat.le_of_ble_eq_true rfl) (by omega) (by omega) hf
set_option maxRecDepth 100000 in
set_option maxHeartbeats 1000000 in
theorem t_join2 (s : Nat) (hs : s < 6) (hsp : sp (48 + s) = true) (x : Int32) (hx : ∀ j, j < 6 → x = nI j → sp (48 + j) = false) (u v : Int32) : Thr (gg D cI cB cL bb L xs) mX_join (n + 4) 1 6 [.ref h, .int (nI s), .int (u), .int (x), .int (v)] (xW cI cB h a1 a2 a3 a4 a5 F c fo sp pi rest) "java/util/NoSuchElementException" := by
  intro Psi hf
  show Go _ _ _ _ _ 0 [(0, .ref h), (1, .int (nI s)), (2, .int (u)), (3, .int (x)), (4, .int (v))] [] _ Psi
  refine go_aload_n (pc := 0) 0 0 rfl rfl eX_join_0 ?_
  refine go_iload_n (pc := 1) 1 1 rfl rfl eX_join_1 ?_
  refine go_iload_n (pc := 2) 2 2 rfl rfl eX_join_2 ?_
  refine go_iload_n (pc := 3) 3 3 rfl rfl eX_join_3 ?_
  refine go_iload (pc := 4) 4 4 rfl eX_join_4 ?_
  exact go_tV (pc := 6) 0 (t_needTwo2 s hs hsp x hx u v) okX_needTwoPages lmX_89 eX_join_6 rfl rfl rfl rfl rfl (Nat.le_of_ble_eq_true rfl) (Nat.le_of_ble_eq_true rfl) (by omega) (by omega) hf
set_option maxRecDepth 100000 in
set_option maxHeartbeats 1000000 in
theorem t_join3 (s : Nat) (hs : s < 6) (hsp : sp (48 + s) = true) (t : Nat) (ht : t < 6) (htp : sp (48 + t) = true) (x : Int32) (hx : ∀ j, j < 8 → x ≠ nI j) (v : Int32) : Thr (gg D cI cB cL bb L xs) mX_join (n + 4) 1 6 [.ref h, .int (nI s), .int (x), .int (nI t), .int (v)] (xW cI cB h a1 a2 a3 a4 a5 F c fo sp pi rest) "java/lang/IndexOutOfBoundsException" := by
  intro Psi hf
  show Go _ _ _ _ _ 0 [(0, .ref h), (1, .int (nI s)), (2, .int (x)), (3, .int (nI t)), (4, .int (v))] [] _ Psi
  refine go_aload_n (pc := 0) 0 0 rfl rfl eX_join_0 ?_
  refine go_iload_n (pc := 1) 1 1 rfl rfl eX_join_1 ?_
  refine go_iload_n (pc := 2) 2 2 rfl rfl eX_join_2 ?_
  refine go_iload_n (pc := 3) 3 3 rfl rfl eX_join_3 ?_
  refine go_iload (pc := 4) 4 4 rfl eX_join_4 ?_
  exact go_tV (pc := 6) 0 (t_needTwo3 s hs hsp t ht htp x hx v) okX_needTwoPages lmX_89 eX_join_6 rfl rfl rfl rfl rfl (Nat.le_of_ble_eq_true rfl) (Nat.le_of_ble_eq_true rfl) (by omega) (by omega) hf
set_option maxRecDepth 100000 in
set_option maxHeartbeats 1000000 in
theorem t_join4 (s : Nat) (hs : s < 6) (hsp : sp (48 + s) = true) (t : Nat) (ht : t < 6) (htp : sp (48 + t) = true) (p : Nat) (hp : p < 8) (x : Int32) (hx : ∀ j, j < 8 → x ≠ nI j) : Thr (gg D cI cB cL bb L xs) mX_join (n + 4) 1 6 [.ref h, .int (nI s), .int (nI p), .int (nI t), .int (x)] (xW cI cB h a1 a2 a3 a4 a5 F c fo sp pi rest) "java/lang/IndexOutOfBoundsException" := by
  intro Psi hf
  show Go _ _ _ _ _ 0 [(0, .ref h), (1, .int (nI s)), (2, .int (nI p)), (3, .int (nI t)), (4, .int (x))] [] _ Psi
  refine go_aload_n (pc := 0) 0 0 rfl rfl eX_join_0 ?_
  refine go_iload_n (pc := 1) 1 1 rfl rfl eX_join_1 ?_
  refine go_iload_n (pc := 2) 2 2 rfl rfl eX_join_2 ?_
  refine go_iload_n (pc := 3) 3 3 rfl rfl eX_join_3 ?_
  refine go_iload (pc := 4) 4 4 rfl eX_join_4 ?_
  exact go_tV (pc := 6) 0 (t_needTwo4 s hs hsp t ht htp p hp x hx) okX_needTwoPages lmX_89 eX_join_6 rfl rfl rfl rfl rfl (Nat.le_of_ble_eq_true rfl) (Nat.le_of_ble_eq_true rfl) (by omega) (by omega) hf
set_option maxRecDepth 100000 in
set_option maxHeartbeats 1000000 in
theorem c_join0a (hF : F ≤ 60) (hfo : ∀ k j, fo k = some j → j < F) (s : Nat) (hs : s < 6) (hsp : sp (48 + s) = true) (t : Nat) (ht : t < 6) (htp : sp (48 + t) = true) (p q : Nat) (hp : p < 8) (hq : q < 8) (h0 : fo (384 + s * 8 + p) = fo (384 + t * 8 + q)) : Ret (gg D cI cB cL bb L xs) mX_join (n + 4) 0 0 [.ref h, .int (nI s), .int (nI p), .int (nI t), .int (nI q)] (xW cI cB h a1 a2 a3 a4 a5 F c fo sp pi rest) (some (.int (0))) (xW cI cB h a1 a2 a3 a4 a5 F c fo sp pi rest) := by
  intro Psi hf
  show Go _ _ _ _ _ 0 [(0, .ref h), (1, .int (nI s)), (2, .int (nI p)), (3, .int (nI t)), (4, .int (nI q))] [] _ Psi
  refine go_aload_n (pc := 0) 0 0 rfl rfl eX_join_0 ?_
  refine go_iload_n (pc := 1) 1 1 rfl rfl eX_join_1 ?_
  refine go_iload_n (pc := 2) 2 2 rfl rfl eX_join_2 ?_
  refine go_iload_n (pc := 3) 3 3 rfl rfl eX_join_3 ?_
  refine go_iload (pc := 4) 4 4 rfl eX_join_4 ?_
  refine go_rV0 (pc := 6) 0 (c_needTwo s hs hsp t ht htp p q hp hq) okX_needTwoPages lmX_89 eX_join_6 rfl rfl rfl rfl rfl (Nat.le_of_ble_eq_true rfl) (Nat.le_of_ble_eq_true rfl) ?_
  refine go_aload_n (pc := 9) 0 0 rfl rfl eX_join_9 ?_
  refine go_get (pc := 10) hwX 0 rfl rfl 3 (by decide) lkX_29 rfl eX_join_10 ?_
  refine go_iload_n (pc := 13) 1 1 rfl rfl eX_join_13 ?_
  refine go_iload_n (pc := 14) 2 2 rfl rfl eX_join_14 ?_
  refine go_rS (pc := 15) (c_pageNow s p) okX_pageNow lmX_56 eX_join_15 rfl rfl (Nat.le_of_ble_eq_true rfl) (Nat.le_of_ble_eq_true rfl) ?_
  refine go_ialdN (pc := 18) 3 0 (384 + s * 8 + p) eX_join_18 rfl rfl (rfl) (by omega) (by omega) ?_
  refine go_istore (pc := 19) (ls' := [(5, _), (0, _), (1, _), (2, _), (3, _), (4, _)]) 5 (by decide) eX_join_19 rfl ?_
  refine go_aload_n (pc := 21) 0 1 rfl rfl eX_join_21 ?_
  refine go_get (pc := 22) hwX 0 rfl rfl 3 (by decide) lkX_29 rfl eX_join_22 ?_
  refine go_iload_n (pc := 25) 3 4 rfl rfl eX_join_25 ?_
  refine go_iload (pc := 26) 4 5 rfl eX_join_26 ?_
  refine go_rS (pc := 28) (c_pageNow t q) okX_pageNow lmX_56 eX_join_28 rfl rfl (Nat.le_of_ble_eq_true rfl) (Nat.le_of_ble_eq_true rfl) ?_
  refine go_ialdN (pc := 31) 3 0 (384 + t * 8 + q) eX_join_31 rfl rfl (rfl) (by omega) (by omega) ?_
  refine go_istore (pc := 32) (ls' := [(6, _), (5, _), (0, _), (1, _), (2, _), (3, _), (4, _)]) 6 (by decide) eX_join_32 rfl ?_
  refine go_iload (pc := 34) 5 1 rfl eX_join_34 ?_
  refine go_iload (pc := 36) 6 0 rfl eX_join_36 ?_
  refine go_icmp_eq (pc := 38) 70 (by decide) eX_join_38 (fun c38 => ?_) (fun c38 => ?_)
  · refine go_iconst (pc := 70) (v := 0) (by decide) eX_join_70 ?_
    exact go_iret (pc := 71) rfl rfl eX_join_71 (hf)
  · exact absurd (by rw [h0]) c38
set_option maxRecDepth 100000 in
set_option maxHeartbeats 1000000 in
theorem c_join0b (hF : F ≤ 60) (hfo : ∀ k j, fo k = some j → j < F) (s : Nat) (hs : s < 6) (hsp : sp (48 + s) = true) (t : Nat) (ht : t < 6) (htp : sp (48 + t) = true) (p q : Nat) (hp : p < 8) (hq : q < 8) (h0 : (fo (384 + s * 8 + p)).isSome = false) : Ret (gg D cI cB cL bb L xs) mX_join (n + 4) 0 0 [.ref h, .int (nI s), .int (nI p), .int (nI t), .int (nI q)] (xW cI cB h a1 a2 a3 a4 a5 F c fo sp pi rest) (some (.int (0))) (xW cI cB h a1 a2 a3 a4 a5 F c fo sp pi rest) := by
  intro Psi hf
  show Go _ _ _ _ _ 0 [(0, .ref h), (1, .int (nI s)), (2, .int (nI p)), (3, .int (nI t)), (4, .int (nI q))] [] _ Psi
  refine go_aload_n (pc := 0) 0 0 rfl rfl eX_join_0 ?_
  refine go_iload_n (pc := 1) 1 1 rfl rfl eX_join_1 ?_
  refine go_iload_n (pc := 2) 2 2 rfl rfl eX_join_2 ?_
  refine go_iload_n (pc := 3) 3 3 rfl rfl eX_join_3 ?_
  refine go_iload (pc := 4) 4 4 rfl eX_join_4 ?_
  refine go_rV0 (pc := 6) 0 (c_needTwo s hs hsp t ht htp p q hp hq) okX_needTwoPages lmX_89 eX_join_6 rfl rfl rfl rfl rfl (Nat.le_of_ble_eq_true rfl) (Nat.le_of_ble_eq_true rfl) ?_
  refine go_aload_n (pc := 9) 0 0 rfl rfl eX_join_9 ?_
  refine go_get (pc := 10) hwX 0 rfl rfl 3 (by decide) lkX_29 rfl eX_join_10 ?_
  refine go_iload_n (pc := 13) 1 1 rfl rfl eX_join_13 ?_
  refine go_iload_n (pc := 14) 2 2 rfl rfl eX_join_14 ?_
  refine go_rS (pc := 15) (c_pageNow s p) okX_pageNow lmX_56 eX_join_15 rfl rfl (Nat.le_of_ble_eq_true rfl) (Nat.le_of_ble_eq_true rfl) ?_
  refine go_ialdN (pc := 18) 3 0 (384 + s * 8 + p) eX_join_18 rfl rfl (rfl) (by omega) (by omega) ?_
  refine go_istore (pc := 19) (ls' := [(5, _), (0, _), (1, _), (2, _), (3, _), (4, _)]) 5 (by decide) eX_join_19 rfl ?_
  refine go_aload_n (pc := 21) 0 1 rfl rfl eX_join_21 ?_
  refine go_get (pc := 22) hwX 0 rfl rfl 3 (by decide) lkX_29 rfl eX_join_22 ?_
  refine go_iload_n (pc := 25) 3 4 rfl rfl eX_join_25 ?_
  refine go_iload (pc := 26) 4 5 rfl eX_join_26 ?_
  refine go_rS (pc := 28) (c_pageNow t q) okX_pageNow lmX_56 eX_join_28 rfl rfl (Nat.le_of_ble_eq_true rfl) (Nat.le_of_ble_eq_true rfl) ?_
  refine go_ialdN (pc := 31) 3 0 (384 + t * 8 + q) eX_join_31 rfl rfl (rfl) (by omega) (by omega) ?_
  refine go_istore (pc := 32) (ls' := [(6, _), (5, _), (0, _), (1, _), (2, _), (3, _), (4, _)]) 6 (by decide) eX_join_32 rfl ?_
  refine go_iload (pc := 34) 5 1 rfl eX_join_34 ?_
  refine go_iload (pc := 36) 6 0 rfl eX_join_36 ?_
  refine go_icmp_eq (pc := 38) 70 (by decide) eX_join_38 (fun c38 => ?_) (fun c38 => ?_)
  · refine go_iconst (pc := 70) (v := 0) (by decide) eX_join_70 ?_
    exact go_iret (pc := 71) rfl rfl eX_join_71 (hf)
  · refine go_aload_n (pc := 41) 0 2 rfl rfl eX_join_41 ?_
    refine go_iload (pc := 42) 5 1 rfl eX_join_42 ?_
    refine go_rV (pc := 44) 0 (c_isFrame hF _ (hfo _)) okX_isFrame lmX_70 eX_join_44 rfl rfl rfl rfl rfl (Nat.le_of_ble_eq_true rfl) (Nat.le_of_ble_eq_true rfl) ?_
    refine go_if_eq (pc := 47) 70 (by decide) eX_join_47 (fun c47 => ?_) (fun c47 => ?_)
    · refine go_iconst (pc := 70) (v := 0) (by decide) eX_join_70 ?_
      exact go_iret (pc := 71) rfl rfl eX_join_71 (hf)
    · exact absurd (bI0.mpr h0) c47
set_option maxRecDepth 100000 in
set_option maxHeartbeats 1000000 in
theorem c_join0c (hF : F ≤ 60) (hfo : ∀ k j, fo k = some j → j < F) (s : Nat) (hs : s < 6) (hsp : sp (48 + s) = true) (t : Nat) (ht : t < 6) (htp : sp (48 + t) = true) (p q : Nat) (hp : p < 8) (hq : q < 8) (h1 : (fo (384 + s * 8 + p)).isSome = true) (h0 : (fo (384 + t * 8 + q)).isSome = false) : Ret (gg D cI cB cL bb L xs) mX_join (n + 4) 0 0 [.ref h, .int (nI s), .int (nI p), .int (nI t), .int (nI q)] (xW cI cB h a1 a2 a3 a4 a5 F c fo sp pi rest) (some (.int (0))) (xW cI cB h a1 a2 a3 a4 a5 F c fo sp pi rest) := by
  intro Psi hf
  show Go _ _ _ _ _ 0 [(0, .ref h), (1, .int (nI s)), (2, .int (nI p)), (3, .int (nI t)), (4, .int (nI q))] [] _ Psi
  refine go_aload_n (pc := 0) 0 0 rfl rfl eX_join_0 ?_
  refine go_iload_n (pc := 1) 1 1 rfl rfl eX_join_1 ?_
  refine go_iload_n (pc := 2) 2 2 rfl rfl eX_join_2 ?_
  refine go_iload_n (pc := 3) 3 3 rfl rfl eX_join_3 ?_
  refine go_iload (pc := 4) 4 4 rfl eX_join_4 ?_
  refine go_rV0 (pc := 6) 0 (c_needTwo s hs hsp t ht htp p q hp hq) okX_needTwoPages lmX_89 eX_join_6 rfl rfl rfl rfl rfl (Nat.le_of_ble_eq_true rfl) (Nat.le_of_ble_eq_true rfl) ?_
  refine go_aload_n (pc := 9) 0 0 rfl rfl eX_join_9 ?_
  refine go_get (pc := 10) hwX 0 rfl rfl 3 (by decide) lkX_29 rfl eX_join_10 ?_
  refine go_iload_n (pc := 13) 1 1 rfl rfl eX_join_13 ?_
  refine go_iload_n (pc := 14) 2 2 rfl rfl eX_join_14 ?_
  refine go_rS (pc := 15) (c_pageNow s p) okX_pageNow lmX_56 eX_join_15 rfl rfl (Nat.le_of_ble_eq_true rfl) (Nat.le_of_ble_eq_true rfl) ?_
  refine go_ialdN (pc := 18) 3 0 (384 + s * 8 + p) eX_join_18 rfl rfl (rfl) (by omega) (by omega) ?_
  refine go_istore (pc := 19) (ls' := [(5, _), (0, _), (1, _), (2, _), (3, _), (4, _)]) 5 (by decide) eX_join_19 rfl ?_
  refine go_aload_n (pc := 21) 0 1 rfl rfl eX_join_21 ?_
  refine go_get (pc := 22) hwX 0 rfl rfl 3 (by decide) lkX_29 rfl eX_join_22 ?_
  refine go_iload_n (pc := 25) 3 4 rfl rfl eX_join_25 ?_
  refine go_iload (pc := 26) 4 5 rfl eX_join_26 ?_
  refine go_rS (pc := 28) (c_pageNow t q) okX_pageNow lmX_56 eX_join_28 rfl rfl (Nat.le_of_ble_eq_true rfl) (Nat.le_of_ble_eq_true rfl) ?_
  refine go_ialdN (pc := 31) 3 0 (384 + t * 8 + q) eX_join_31 rfl rfl (rfl) (by omega) (by omega) ?_
  refine go_istore (pc := 32) (ls' := [(6, _), (5, _), (0, _), (1, _), (2, _), (3, _), (4, _)]) 6 (by decide) eX_join_32 rfl ?_
  refine go_iload (pc := 34) 5 1 rfl eX_join_34 ?_
  refine go_iload (pc := 36) 6 0 rfl eX_join_36 ?_
  refine go_icmp_eq (pc := 38) 70 (by decide) eX_join_38 (fun c38 => ?_) (fun c38 => ?_)
  · refine go_iconst (pc := 70) (v := 0) (by decide) eX_join_70 ?_
    exact go_iret (pc := 71) rfl rfl eX_join_71 (hf)
  · refine go_aload_n (pc := 41) 0 2 rfl rfl eX_join_41 ?_
    refine go_iload (pc := 42) 5 1 rfl eX_join_42 ?_
    refine go_rV (pc := 44) 0 (c_isFrame hF _ (hfo _)) okX_isFrame lmX_70 eX_join_44 rfl rfl rfl rfl rfl (Nat.le_of_ble_eq_true rfl) (Nat.le_of_ble_eq_true rfl) ?_
    refine go_if_eq (pc := 47) 70 (by decide) eX_join_47 (fun c47 => ?_) (fun c47 => ?_)
    · exact absurd (bI0.mp c47) (by rw [h1]; decide)
    · refine go_aload_n (pc := 50) 0 2 rfl rfl eX_join_50 ?_
      refine go_iload (pc := 51) 6 0 rfl eX_join_51 ?_
      refine go_rV (pc := 53) 0 (c_isFrame hF _ (hfo _)) okX_isFrame lmX_70 eX_join_53 rfl rfl rfl rfl rfl (Nat.le_of_ble_eq_true rfl) (Nat.le_of_ble_eq_true rfl) ?_
      refine go_if_eq (pc := 56) 70 (by decide) eX_join_56 (fun c56 => ?_) (fun c56 => ?_)
      · refine go_iconst (pc := 70) (v := 0) (by decide) eX_join_70 ?_
        exact go_iret (pc := 71) rfl rfl eX_join_71 (hf)
      · exact absurd (bI0.mpr h0) c56
set_option maxRecDepth 100000 in
set_option maxHeartbeats 1000000 in
theorem c_join0d (hF : F ≤ 60) (hfo : ∀ k j, fo k = some j → j < F) (s : Nat) (hs : s < 6) (hsp : sp (48 + s) = true) (t : Nat) (ht : t < 6) (htp : sp (48 + t) = true) (p q : Nat) (hp : p < 8) (hq : q < 8) (b e : Nat) (hb : fo (384 + s * 8 + p) = some b) (he : fo (384 + t * 8 + q) = some e) (hbe : b ≠ e) (hne : ¬ (gcnt (fun q => decide (¬ c (b * 16 + q) = c (e * 16 + q))) 16 = 0)) : Ret (gg D cI cB cL bb L xs) mX_join (n + 4) 0 0 [.ref h, .int (nI s), .int (nI p), .int (nI t), .int (nI q)] (xW cI cB h a1 a2 a3 a4 a5 F c fo sp pi rest) (some (.int (0))) (xW cI cB h a1 a2 a3 a4 a5 F c fo sp pi rest) := by
  intro Psi hf
  show Go _ _ _ _ _ 0 [(0, .ref h), (1, .int (nI s)), (2, .int (nI p)), (3, .int (nI t)), (4, .int (nI q))] [] _ Psi
  refine go_aload_n (pc := 0) 0 0 rfl rfl eX_join_0 ?_
  refine go_iload_n (pc := 1) 1 1 rfl rfl eX_join_1 ?_
  refine go_iload_n (pc := 2) 2 2 rfl rfl eX_join_2 ?_
  refine go_iload_n (pc := 3) 3 3 rfl rfl eX_join_3 ?_
  refine go_iload (pc := 4) 4 4 rfl eX_join_4 ?_
  refine go_rV0 (pc := 6) 0 (c_needTwo s hs hsp t ht htp p q hp hq) okX_needTwoPages lmX_89 eX_join_6 rfl rfl rfl rfl rfl (Nat.le_of_ble_eq_true rfl) (Nat.le_of_ble_eq_true rfl) ?_
  refine go_aload_n (pc := 9) 0 0 rfl rfl eX_join_9 ?_
  refine go_get (pc := 10) hwX 0 rfl rfl 3 (by decide) lkX_29 rfl eX_join_10 ?_
  refine go_iload_n (pc := 13) 1 1 rfl rfl eX_join_13 ?_
  refine go_iload_n (pc := 14) 2 2 rfl rfl eX_join_14 ?_
  refine go_rS (pc := 15) (c_pageNow s p) okX_pageNow lmX_56 eX_join_15 rfl rfl (Nat.le_of_ble_eq_true rfl) (Nat.le_of_ble_eq_true rfl) ?_
  refine go_ialdN (pc := 18) 3 0 (384 + s * 8 + p) eX_join_18 rfl rfl (rfl) (by omega) (by omega) ?_
  refine go_istore (pc := 19) (ls' := [(5, _), (0, _), (1, _), (2, _), (3, _), (4, _)]) 5 (by decide) eX_join_19 rfl ?_
  refine go_aload_n (pc := 21) 0 1 rfl rfl eX_join_21 ?_
  refine go_get (pc := 22) hwX 0 rfl rfl 3 (by decide) lkX_29 rfl eX_join_22 ?_
  refine go_iload_n (pc := 25) 3 4 rfl rfl eX_join_25 ?_
  refine go_iload (pc := 26) 4 5 rfl eX_join_26 ?_
  refine go_rS (pc := 28) (c_pageNow t q) okX_pageNow lmX_56 eX_join_28 rfl rfl (Nat.le_of_ble_eq_true rfl) (Nat.le_of_ble_eq_true rfl) ?_
  refine go_ialdN (pc := 31) 3 0 (384 + t * 8 + q) eX_join_31 rfl rfl (rfl) (by omega) (by omega) ?_
  refine go_istore (pc := 32) (ls' := [(6, _), (5, _), (0, _), (1, _), (2, _), (3, _), (4, _)]) 6 (by decide) eX_join_32 rfl ?_
  rw [hb, he]
  refine go_iload (pc := 34) 5 1 rfl eX_join_34 ?_
  refine go_iload (pc := 36) 6 0 rfl eX_join_36 ?_
  refine go_icmp_eq (pc := 38) 70 (by decide) eX_join_38 (fun c38 => ?_) (fun c38 => ?_)
  · exact absurd ((nI_eq (by have := hfo _ _ hb; omega) (by have := hfo _ _ he; omega)).mp c38) hbe
  · refine go_aload_n (pc := 41) 0 2 rfl rfl eX_join_41 ?_
    refine go_iload (pc := 42) 5 1 rfl eX_join_42 ?_
    refine go_rV (pc := 44) 0 (c_isFrame1 hF b (hfo _ _ hb)) okX_isFrame lmX_70 eX_join_44 rfl rfl rfl rfl rfl (Nat.le_of_ble_eq_true rfl) (Nat.le_of_ble_eq_true rfl) ?_
    refine go_if_eq (pc := 47) 70 (by decide) eX_join_47 (fun c47 => ?_) (fun c47 => ?_)
    · exact absurd c47 (by decide)
    · refine go_aload_n (pc := 50) 0 2 rfl rfl eX_join_50 ?_
      refine go_iload (pc := 51) 6 0 rfl eX_join_51 ?_
      refine go_rV (pc := 53) 0 (c_isFrame1 hF e (hfo _ _ he)) okX_isFrame lmX_70 eX_join_53 rfl rfl rfl rfl rfl (Nat.le_of_ble_eq_true rfl) (Nat.le_of_ble_eq_true rfl) ?_
      refine go_if_eq (pc := 56) 70 (by decide) eX_join_56 (fun c56 => ?_) (fun c56 => ?_)
      · exact absurd c56 (by decide)
      · refine go_aload_n (pc := 59) 0 2 rfl rfl eX_join_59 ?_
        refine go_iload (pc := 60) 5 1 rfl eX_join_60 ?_
        refine go_iload (pc := 62) 6 0 rfl eX_join_62 ?_
        refine go_rV (pc := 64) 0 (c_same hF b e (hfo _ _ hb) (hfo _ _ he)) okX_haveSameCells lmX_93 eX_join_64 rfl rfl rfl rfl rfl (Nat.le_of_ble_eq_true rfl) (Nat.le_of_ble_eq_true rfl) ?_
        refine go_if_ne (pc := 67) 72 (by decide) eX_join_67 (fun c67 => ?_) (fun c67 => ?_)
        · exact absurd (bI0.mpr (decide_eq_false hne)) c67
        · refine go_iconst (pc := 70) (v := 0) (by decide) eX_join_70 ?_
          exact go_iret (pc := 71) rfl rfl eX_join_71 (hf)
set_option maxRecDepth 100000 in
set_option maxHeartbeats 1000000 in
theorem c_join1 (hF : F ≤ 60) (hfo : ∀ k j, fo k = some j → j < F) (s : Nat) (hs : s < 6) (hsp : sp (48 + s) = true) (t : Nat) (ht : t < 6) (htp : sp (48 + t) = true) (p q : Nat) (hp : p < 8) (hq : q < 8) (b e : Nat) (hb : fo (384 + s * 8 + p) = some b) (he : fo (384 + t * 8 + q) = some e) (hbe : b ≠ e) (heq : (gcnt (fun q => decide (¬ c (b * 16 + q) = c (e * 16 + q))) 16 = 0)) : Ret (gg D cI cB cL bb L xs) mX_join (n + 4) 0 0 [.ref h, .int (nI s), .int (nI p), .int (nI t), .int (nI q)] (xW cI cB h a1 a2 a3 a4 a5 F c fo sp pi rest) (some (.int (nI (hcnt fo e)))) (xW cI cB h a1 a2 a3 a4 a5 F c (mvf fo e b 432) sp pi rest) := by
  intro Psi hf
  show Go _ _ _ _ _ 0 [(0, .ref h), (1, .int (nI s)), (2, .int (nI p)), (3, .int (nI t)), (4, .int (nI q))] [] _ Psi
  refine go_aload_n (pc := 0) 0 0 rfl rfl eX_join_0 ?_
  refine go_iload_n (pc := 1) 1 1 rfl rfl eX_join_1 ?_
  refine go_iload_n (pc := 2) 2 2 rfl rfl eX_join_2 ?_
  refine go_iload_n (pc := 3) 3 3 rfl rfl eX_join_3 ?_
  refine go_iload (pc := 4) 4 4 rfl eX_join_4 ?_
  refine go_rV0 (pc := 6) 0 (c_needTwo s hs hsp t ht htp p q hp hq) okX_needTwoPages lmX_89 eX_join_6 rfl rfl rfl rfl rfl (Nat.le_of_ble_eq_true rfl) (Nat.le_of_ble_eq_true rfl) ?_
  refine go_aload_n (pc := 9) 0 0 rfl rfl eX_join_9 ?_
  refine go_get (pc := 10) hwX 0 rfl rfl 3 (by decide) lkX_29 rfl eX_join_10 ?_
  refine go_iload_n (pc := 13) 1 1 rfl rfl eX_join_13 ?_
  refine go_iload_n (pc := 14) 2 2 rfl rfl eX_join_14 ?_
  refine go_rS (pc := 15) (c_pageNow s p) okX_pageNow lmX_56 eX_join_15 rfl rfl (Nat.le_of_ble_eq_true rfl) (Nat.le_of_ble_eq_true rfl) ?_
  refine go_ialdN (pc := 18) 3 0 (384 + s * 8 + p) eX_join_18 rfl rfl (rfl) (by omega) (by omega) ?_
  refine go_istore (pc := 19) (ls' := [(5, _), (0, _), (1, _), (2, _), (3, _), (4, _)]) 5 (by decide) eX_join_19 rfl ?_
  refine go_aload_n (pc := 21) 0 1 rfl rfl eX_join_21 ?_
  refine go_get (pc := 22) hwX 0 rfl rfl 3 (by decide) lkX_29 rfl eX_join_22 ?_
  refine go_iload_n (pc := 25) 3 4 rfl rfl eX_join_25 ?_
  refine go_iload (pc := 26) 4 5 rfl eX_join_26 ?_
  refine go_rS (pc := 28) (c_pageNow t q) okX_pageNow lmX_56 eX_join_28 rfl rfl (Nat.le_of_ble_eq_true rfl) (Nat.le_of_ble_eq_true rfl) ?_
  refine go_ialdN (pc := 31) 3 0 (384 + t * 8 + q) eX_join_31 rfl rfl (rfl) (by omega) (by omega) ?_
  refine go_istore (pc := 32) (ls' := [(6, _), (5, _), (0, _), (1, _), (2, _), (3, _), (4, _)]) 6 (by decide) eX_join_32 rfl ?_
  rw [hb, he]
  refine go_iload (pc := 34) 5 1 rfl eX_join_34 ?_
  refine go_iload (pc := 36) 6 0 rfl eX_join_36 ?_
  refine go_icmp_eq (pc := 38) 70 (by decide) eX_join_38 (fun c38 => ?_) (fun c38 => ?_)
  · exact absurd ((nI_eq (by have := hfo _ _ hb; omega) (by have := hfo _ _ he; omega)).mp c38) hbe
  · refine go_aload_n (pc := 41) 0 2 rfl rfl eX_join_41 ?_
    refine go_iload (pc := 42) 5 1 rfl eX_join_42 ?_
    refine go_rV (pc := 44) 0 (c_isFrame1 hF b (hfo _ _ hb)) okX_isFrame lmX_70 eX_join_44 rfl rfl rfl rfl rfl (Nat.le_of_ble_eq_true rfl) (Nat.le_of_ble_eq_true rfl) ?_
    refine go_if_eq (pc := 47) 70 (by decide) eX_join_47 (fun c47 => ?_) (fun c47 => ?_)
    · exact absurd c47 (by decide)
    · refine go_aload_n (pc := 50) 0 2 rfl rfl eX_join_50 ?_
      refine go_iload (pc := 51) 6 0 rfl eX_join_51 ?_
      refine go_rV (pc := 53) 0 (c_isFrame1 hF e (hfo _ _ he)) okX_isFrame lmX_70 eX_join_53 rfl rfl rfl rfl rfl (Nat.le_of_ble_eq_true rfl) (Nat.le_of_ble_eq_true rfl) ?_
      refine go_if_eq (pc := 56) 70 (by decide) eX_join_56 (fun c56 => ?_) (fun c56 => ?_)
      · exact absurd c56 (by decide)
      · refine go_aload_n (pc := 59) 0 2 rfl rfl eX_join_59 ?_
        refine go_iload (pc := 60) 5 1 rfl eX_join_60 ?_
        refine go_iload (pc := 62) 6 0 rfl eX_join_62 ?_
        refine go_rV (pc := 64) 0 (c_same hF b e (hfo _ _ hb) (hfo _ _ he)) okX_haveSameCells lmX_93 eX_join_64 rfl rfl rfl rfl rfl (Nat.le_of_ble_eq_true rfl) (Nat.le_of_ble_eq_true rfl) ?_
        refine go_if_ne (pc := 67) 72 (by decide) eX_join_67 (fun c67 => ?_) (fun c67 => ?_)
        · refine go_aload_n (pc := 72) 0 2 rfl rfl eX_join_72 ?_
          refine go_get (pc := 73) hwX 0 rfl rfl 2 (by decide) lkX_26 rfl eX_join_73 ?_
          refine go_iload (pc := 76) 6 0 rfl eX_join_76 ?_
          refine go_ialdN (pc := 78) 2 0 (e) eX_join_78 rfl rfl (rfl) (hfo _ _ he) (by omega) ?_
          refine go_istore (pc := 79) (ls' := [(7, _), (6, _), (5, _), (0, _), (1, _), (2, _), (3, _), (4, _)]) 7 (by decide) eX_join_79 rfl ?_
          refine go_aload_n (pc := 81) 0 3 rfl rfl eX_join_81 ?_
          refine go_iload (pc := 82) 6 1 rfl eX_join_82 ?_
          refine go_iload (pc := 84) 5 2 rfl eX_join_84 ?_
          refine go_rV0 (pc := 86) 0 (c_mv hF hfo e b (hfo _ _ he) (hfo _ _ hb)) okX_moveHolders lmX_97 eX_join_86 rfl rfl rfl rfl rfl (Nat.le_of_ble_eq_true rfl) (Nat.le_of_ble_eq_true rfl) ?_
          refine go_iload (pc := 89) 7 0 rfl eX_join_89 ?_
          exact go_iret (pc := 91) rfl rfl eX_join_91 (hf)
        · exact absurd (bI0.mp c67) (by rw [decide_eq_true heq]; decide)
set_option maxRecDepth 100000 in
set_option maxHeartbeats 1000000 in
theorem c_take1 (hF : F ≤ 60) (hfo : ∀ k j, fo k = some j → j < F) (j : Nat) (hj : j < 8) (hj0 : pi j = false) (hlt : ∀ q, q < j → pi q = true) : Ret (gg D cI cB cL bb L xs) mX_take (n + 3) 0 0 [.ref h] (xW cI cB h a1 a2 a3 a4 a5 F c fo sp pi rest) (some (.int (nI j))) (xW cI cB h a1 a2 a3 a4 a5 F c (va_cpy fo fo (8 * 48) (j * 48) 48) (va_cpy sp sp (8 * 6) (j * 6) 6) (va_up pi j true) rest) := by
  intro Psi hf
  show Go _ _ _ _ _ 0 [(0, .ref h)] [] _ Psi
  refine go_aload_n (pc := 0) 0 0 rfl rfl eX_take_0 ?_
  refine go_rV (pc := 1) 0 (c_lmpA j hj hj0 hlt) okX_leastMissingPicture lmX_100 eX_take_1 rfl rfl rfl rfl rfl (Nat.le_of_ble_eq_true rfl) (Nat.le_of_ble_eq_true rfl) ?_
  refine go_istore_n (pc := 4) (ls' := [(1, _), (0, _)]) 1 rfl (by decide) eX_take_4 rfl ?_
  refine go_iload_n (pc := 5) 1 0 rfl rfl eX_take_5 ?_
  refine go_iconst (pc := 6) (v := (-1)) (by decide) eX_take_6 ?_
  refine go_icmp_eq (pc := 7) 24 (by decide) eX_take_7 (fun c7 => ?_) (fun c7 => ?_)
  · exact absurd c7 (nI_nm1 (by omega))
  · refine go_aload_n (pc := 10) 0 1 rfl rfl eX_take_10 ?_
    refine go_get (pc := 11) hwX 0 rfl rfl 5 (by decide) lkX_42 rfl eX_take_11 ?_
    refine go_iload_n (pc := 14) 1 0 rfl rfl eX_take_14 ?_
    refine go_iconst (pc := 15) (v := 1) (by decide) eX_take_15 ?_
    refine go_zastN (pc := 16) (es' := (xW cI cB h a1 a2 a3 a4 a5 F c fo sp (va_up pi j true) rest)) 5 1 j eX_take_16 rfl rfl rfl hj (by omega) (xs5 (upd_b (b := true) rfl)) ?_
    refine go_aload_n (pc := 17) 0 1 rfl rfl eX_take_17 ?_
    refine go_bipush (pc := 18) (v := 8) (by decide) eX_take_18 ?_
    refine go_iload_n (pc := 20) 1 0 rfl rfl eX_take_20 ?_
    refine go_rV0 (pc := 21) 0 (c_cr hF hfo 8 j (by omega) (by omega) (by omega)) okX_copyRow lmX_103 eX_take_21 rfl rfl rfl rfl rfl (Nat.le_of_ble_eq_true rfl) (Nat.le_of_ble_eq_true rfl) ?_
    refine go_iload_n (pc := 24) 1 0 rfl rfl eX_take_24 ?_
    exact go_iret (pc := 25) rfl rfl eX_take_25 (hf)
set_option maxRecDepth 100000 in
set_option maxHeartbeats 1000000 in
theorem c_take0 (hlt : ∀ q, q < 8 → pi q = true) : Ret (gg D cI cB cL bb L xs) mX_take (n + 3) 0 0 [.ref h] (xW cI cB h a1 a2 a3 a4 a5 F c fo sp pi rest) (some (.int (-1))) (xW cI cB h a1 a2 a3 a4 a5 F c fo sp pi rest) := by
  intro Psi hf
  show Go _ _ _ _ _ 0 [(0, .ref h)] [] _ Psi
  refine go_aload_n (pc := 0) 0 0 rfl rfl eX_take_0 ?_
  refine go_rV (pc := 1) 0 (c_lmpB hlt) okX_leastMissingPicture lmX_100 eX_take_1 rfl rfl rfl rfl rfl (Nat.le_of_ble_eq_true rfl) (Nat.le_of_ble_eq_true rfl) ?_
  refine go_istore_n (pc := 4) (ls' := [(1, _), (0, _)]) 1 rfl (by decide) eX_take_4 rfl ?_
  refine go_iload_n (pc := 5) 1 0 rfl rfl eX_take_5 ?_
  refine go_iconst (pc := 6) (v := (-1)) (by decide) eX_take_6 ?_
  refine go_icmp_eq (pc := 7) 24 (by decide) eX_take_7 (fun c7 => ?_) (fun c7 => ?_)
  · refine go_iload_n (pc := 24) 1 0 rfl rfl eX_take_24 ?_
    exact go_iret (pc := 25) rfl rfl eX_take_25 (hf)
  · exact absurd rfl c7
set_option maxRecDepth 100000 in
set_option maxHeartbeats 1000000 in
theorem c_back (hF : F ≤ 60) (hfo : ∀ k j, fo k = some j → j < F) (p : Nat) (hp : p < 8) (hpi : pi p = true) : Ret (gg D cI cB cL bb L xs) mX_back (n + 3) 0 0 [.ref h, .int (nI p)] (xW cI cB h a1 a2 a3 a4 a5 F c fo sp pi rest) (some (.int (nI (gcnt (fun s => (va_cpy sp sp (p * 6) (8 * 6) 6) (48 + s)) 6)))) (xW cI cB h a1 a2 a3 a4 a5 F c (va_cpy fo fo (p * 48) (8 * 48) 48) (va_cpy sp sp (p * 6) (8 * 6) 6) pi rest) := by
  intro Psi hf
  show Go _ _ _ _ _ 0 [(0, .ref h), (1, .int (nI p))] [] _ Psi
  refine go_aload_n (pc := 0) 0 0 rfl rfl eX_back_0 ?_
  refine go_iload_n (pc := 1) 1 1 rfl rfl eX_back_1 ?_
  refine go_rV0 (pc := 2) 0 (c_needPicture p hp hpi) okX_needPicture lmX_106 eX_back_2 rfl rfl rfl rfl rfl (Nat.le_of_ble_eq_true rfl) (Nat.le_of_ble_eq_true rfl) ?_
  refine go_aload_n (pc := 5) 0 0 rfl rfl eX_back_5 ?_
  refine go_iload_n (pc := 6) 1 1 rfl rfl eX_back_6 ?_
  refine go_bipush (pc := 7) (v := 8) (by decide) eX_back_7 ?_
  refine go_rV0 (pc := 9) 0 (c_cr hF hfo p 8 (by omega) (by omega) (by omega)) okX_copyRow lmX_103 eX_back_9 rfl rfl rfl rfl rfl (Nat.le_of_ble_eq_true rfl) (Nat.le_of_ble_eq_true rfl) ?_
  refine go_aload_n (pc := 12) 0 0 rfl rfl eX_back_12 ?_
  refine go_rV (pc := 13) 0 (c_spn) okX_spacesNow lmX_109 eX_back_13 rfl rfl rfl rfl rfl (Nat.le_of_ble_eq_true rfl) (Nat.le_of_ble_eq_true rfl) ?_
  exact go_iret (pc := 16) rfl rfl eX_back_16 (hf)
set_option maxRecDepth 100000 in
set_option maxHeartbeats 1000000 in
theorem t_back (x : Int32) (hx : ∀ j, j < 8 → x = nI j → pi j = false) : Thr (gg D cI cB cL bb L xs) mX_back (n + 3) 1 6 [.ref h, .int (x)] (xW cI cB h a1 a2 a3 a4 a5 F c fo sp pi rest) "java/util/NoSuchElementException" := by
  intro Psi hf
  show Go _ _ _ _ _ 0 [(0, .ref h), (1, .int (x))] [] _ Psi
  refine go_aload_n (pc := 0) 0 0 rfl rfl eX_back_0 ?_
  refine go_iload_n (pc := 1) 1 1 rfl rfl eX_back_1 ?_
  exact go_tV (pc := 2) 0 (t_needPicture x hx) okX_needPicture lmX_106 eX_back_2 rfl rfl rfl rfl rfl (Nat.le_of_ble_eq_true rfl) (Nat.le_of_ble_eq_true rfl) (by omega) (by omega) hf
set_option maxRecDepth 100000 in
set_option maxHeartbeats 1000000 in
theorem c_drop (hF : F ≤ 60) (hfo : ∀ k j, fo k = some j → j < F) (p : Nat) (hp : p < 8) (hpi : pi p = true) : Ret (gg D cI cB cL bb L xs) mX_drop (n + 3) 0 0 [.ref h, .int (nI p)] (xW cI cB h a1 a2 a3 a4 a5 F c fo sp pi rest) (some (.int (nI (gcnt (fun j => decide (0 < hcnt fo j)) F) - nI (gcnt (fun j => decide (0 < hcnt (va_cpy (fun _ => none) fo 0 (p * 48) 48) j)) F)))) (xW cI cB h a1 a2 a3 a4 a5 F c (va_cpy (fun _ => none) fo 0 (p * 48) 48) sp (va_up pi p false) rest) := by
  intro Psi hf
  show Go _ _ _ _ _ 0 [(0, .ref h), (1, .int (nI p))] [] _ Psi
  refine go_aload_n (pc := 0) 0 0 rfl rfl eX_drop_0 ?_
  refine go_iload_n (pc := 1) 1 1 rfl rfl eX_drop_1 ?_
  refine go_rV0 (pc := 2) 0 (c_needPicture p hp hpi) okX_needPicture lmX_106 eX_drop_2 rfl rfl rfl rfl rfl (Nat.le_of_ble_eq_true rfl) (Nat.le_of_ble_eq_true rfl) ?_
  refine go_aload_n (pc := 5) 0 0 rfl rfl eX_drop_5 ?_
  refine go_rV (pc := 6) 0 (c_fiu hF) okX_framesInUse lmX_112 eX_drop_6 rfl rfl rfl rfl rfl (Nat.le_of_ble_eq_true rfl) (Nat.le_of_ble_eq_true rfl) ?_
  refine go_istore_n (pc := 9) (ls' := [(2, _), (0, _), (1, _)]) 2 rfl (by decide) eX_drop_9 rfl ?_
  refine go_aload_n (pc := 10) 0 1 rfl rfl eX_drop_10 ?_
  refine go_iload_n (pc := 11) 1 2 rfl rfl eX_drop_11 ?_
  refine go_rV0 (pc := 12) 0 (c_cl hF hfo p (by omega)) okX_clearRow lmX_115 eX_drop_12 rfl rfl rfl rfl rfl (Nat.le_of_ble_eq_true rfl) (Nat.le_of_ble_eq_true rfl) ?_
  refine go_aload_n (pc := 15) 0 1 rfl rfl eX_drop_15 ?_
  refine go_get (pc := 16) hwX 0 rfl rfl 5 (by decide) lkX_42 rfl eX_drop_16 ?_
  refine go_iload_n (pc := 19) 1 2 rfl rfl eX_drop_19 ?_
  refine go_iconst (pc := 20) (v := 0) (by decide) eX_drop_20 ?_
  refine go_zastN (pc := 21) (es' := (xW cI cB h a1 a2 a3 a4 a5 F c (va_cpy (fun _ => none) fo 0 (p * 48) 48) sp (va_up pi p false) rest)) 5 1 p eX_drop_21 rfl rfl rfl hp (by omega) (xs5 (upd_b (b := false) rfl)) ?_
  refine go_iload_n (pc := 22) 2 0 rfl rfl eX_drop_22 ?_
  refine go_aload_n (pc := 23) 0 1 rfl rfl eX_drop_23 ?_
  refine go_rV (pc := 24) 0 (c_fiu hF) okX_framesInUse lmX_112 eX_drop_24 rfl rfl rfl rfl rfl (Nat.le_of_ble_eq_true rfl) (Nat.le_of_ble_eq_true rfl) ?_
  refine go_isub (pc := 27) eX_drop_27 ?_
  exact go_iret (pc := 28) rfl rfl eX_drop_28 (hf)
set_option maxRecDepth 100000 in
set_option maxHeartbeats 1000000 in
theorem t_drop (x : Int32) (hx : ∀ j, j < 8 → x = nI j → pi j = false) : Thr (gg D cI cB cL bb L xs) mX_drop (n + 3) 1 6 [.ref h, .int (x)] (xW cI cB h a1 a2 a3 a4 a5 F c fo sp pi rest) "java/util/NoSuchElementException" := by
  intro Psi hf
  show Go _ _ _ _ _ 0 [(0, .ref h), (1, .int (x))] [] _ Psi
  refine go_aload_n (pc := 0) 0 0 rfl rfl eX_drop_0 ?_
  refine go_iload_n (pc := 1) 1 1 rfl rfl eX_drop_1 ?_
  exact go_tV (pc := 2) 0 (t_needPicture x hx) okX_needPicture lmX_106 eX_drop_2 rfl rfl rfl rfl rfl (Nat.le_of_ble_eq_true rfl) (Nat.le_of_ble_eq_true rfl) (by omega) (by omega) hf
set_option maxRecDepth 100000 in
set_option maxHeartbeats 1000000 in
theorem c_holders0 (hF : F ≤ 60) (hfo : ∀ k j, fo k = some j → j < F) (s : Nat) (hs : s < 6) (hsp : sp (48 + s) = true) (p : Nat) (hp : p < 8) (hb : fo (384 + s * 8 + p) = none) : Ret (gg D cI cB cL bb L xs) mX_holders (n + 3) 0 0 [.ref h, .int (nI s), .int (nI p)] (xW cI cB h a1 a2 a3 a4 a5 F c fo sp pi rest) (some (.int (0))) (xW cI cB h a1 a2 a3 a4 a5 F c fo sp pi rest) := by
  intro Psi hf
  show Go _ _ _ _ _ 0 [(0, .ref h), (1, .int (nI s)), (2, .int (nI p))] [] _ Psi
  refine go_aload_n (pc := 0) 0 0 rfl rfl eX_holders_0 ?_
  refine go_iload_n (pc := 1) 1 1 rfl rfl eX_holders_1 ?_
  refine go_rV0 (pc := 2) 0 (c_needSpace s hs hsp) okX_needSpace lmX_52 eX_holders_2 rfl rfl rfl rfl rfl (Nat.le_of_ble_eq_true rfl) (Nat.le_of_ble_eq_true rfl) ?_
  refine go_aload_n (pc := 5) 0 0 rfl rfl eX_holders_5 ?_
  refine go_iload_n (pc := 6) 2 2 rfl rfl eX_holders_6 ?_
  refine go_rV0 (pc := 7) 0 (c_needPage p hp) okX_needPage lmX_67 eX_holders_7 rfl rfl rfl rfl rfl (Nat.le_of_ble_eq_true rfl) (Nat.le_of_ble_eq_true rfl) ?_
  refine go_aload_n (pc := 10) 0 0 rfl rfl eX_holders_10 ?_
  refine go_get (pc := 11) hwX 0 rfl rfl 3 (by decide) lkX_29 rfl eX_holders_11 ?_
  refine go_iload_n (pc := 14) 1 1 rfl rfl eX_holders_14 ?_
  refine go_iload_n (pc := 15) 2 2 rfl rfl eX_holders_15 ?_
  refine go_rS (pc := 16) (c_pageNow s p) okX_pageNow lmX_56 eX_holders_16 rfl rfl (Nat.le_of_ble_eq_true rfl) (Nat.le_of_ble_eq_true rfl) ?_
  refine go_ialdN (pc := 19) 3 0 (384 + s * 8 + p) eX_holders_19 rfl rfl (rfl) (by omega) (by omega) ?_
  rw [hb]
  refine go_istore_n (pc := 20) (ls' := [(3, _), (0, _), (1, _), (2, _)]) 3 rfl (by decide) eX_holders_20 rfl ?_
  refine go_aload_n (pc := 21) 0 1 rfl rfl eX_holders_21 ?_
  refine go_iload_n (pc := 22) 3 0 rfl rfl eX_holders_22 ?_
  refine go_rV (pc := 23) 0 (c_isFrame0) okX_isFrame lmX_70 eX_holders_23 rfl rfl rfl rfl rfl (Nat.le_of_ble_eq_true rfl) (Nat.le_of_ble_eq_true rfl) ?_
  refine go_if_eq (pc := 26) 38 (by decide) eX_holders_26 (fun c26 => ?_) (fun c26 => ?_)
  · refine go_iconst (pc := 38) (v := 0) (by decide) eX_holders_38 ?_
    exact go_iret (pc := 39) rfl rfl eX_holders_39 (hf)
  · exact absurd rfl c26
set_option maxRecDepth 100000 in
set_option maxHeartbeats 1000000 in
theorem c_holders1 (hF : F ≤ 60) (hfo : ∀ k j, fo k = some j → j < F) (s : Nat) (hs : s < 6) (hsp : sp (48 + s) = true) (p : Nat) (hp : p < 8) (b : Nat) (hb : fo (384 + s * 8 + p) = some b) : Ret (gg D cI cB cL bb L xs) mX_holders (n + 3) 0 0 [.ref h, .int (nI s), .int (nI p)] (xW cI cB h a1 a2 a3 a4 a5 F c fo sp pi rest) (some (.int (nI (hcnt fo b)))) (xW cI cB h a1 a2 a3 a4 a5 F c fo sp pi rest) := by
  intro Psi hf
  show Go _ _ _ _ _ 0 [(0, .ref h), (1, .int (nI s)), (2, .int (nI p))] [] _ Psi
  refine go_aload_n (pc := 0) 0 0 rfl rfl eX_holders_0 ?_
  refine go_iload_n (pc := 1) 1 1 rfl rfl eX_holders_1 ?_
  refine go_rV0 (pc := 2) 0 (c_needSpace s hs hsp) okX_needSpace lmX_52 eX_holders_2 rfl rfl rfl rfl rfl (Nat.le_of_ble_eq_true rfl) (Nat.le_of_ble_eq_true rfl) ?_
  refine go_aload_n (pc := 5) 0 0 rfl rfl eX_holders_5 ?_
  refine go_iload_n (pc := 6) 2 2 rfl rfl eX_holders_6 ?_
  refine go_rV0 (pc := 7) 0 (c_needPage p hp) okX_needPage lmX_67 eX_holders_7 rfl rfl rfl rfl rfl (Nat.le_of_ble_eq_true rfl) (Nat.le_of_ble_eq_true rfl) ?_
  refine go_aload_n (pc := 10) 0 0 rfl rfl eX_holders_10 ?_
  refine go_get (pc := 11) hwX 0 rfl rfl 3 (by decide) lkX_29 rfl eX_holders_11 ?_
  refine go_iload_n (pc := 14) 1 1 rfl rfl eX_holders_14 ?_
  refine go_iload_n (pc := 15) 2 2 rfl rfl eX_holders_15 ?_
  refine go_rS (pc := 16) (c_pageNow s p) okX_pageNow lmX_56 eX_holders_16 rfl rfl (Nat.le_of_ble_eq_true rfl) (Nat.le_of_ble_eq_true rfl) ?_
  refine go_ialdN (pc := 19) 3 0 (384 + s * 8 + p) eX_holders_19 rfl rfl (rfl) (by omega) (by omega) ?_
  rw [hb]
  refine go_istore_n (pc := 20) (ls' := [(3, _), (0, _), (1, _), (2, _)]) 3 rfl (by decide) eX_holders_20 rfl ?_
  refine go_aload_n (pc := 21) 0 1 rfl rfl eX_holders_21 ?_
  refine go_iload_n (pc := 22) 3 0 rfl rfl eX_holders_22 ?_
  refine go_rV (pc := 23) 0 (c_isFrame1 hF b (hfo _ _ hb)) okX_isFrame lmX_70 eX_holders_23 rfl rfl rfl rfl rfl (Nat.le_of_ble_eq_true rfl) (Nat.le_of_ble_eq_true rfl) ?_
  refine go_if_eq (pc := 26) 38 (by decide) eX_holders_26 (fun c26 => ?_) (fun c26 => ?_)
  · exact absurd c26 (by decide)
  · refine go_aload_n (pc := 29) 0 1 rfl rfl eX_holders_29 ?_
    refine go_get (pc := 30) hwX 0 rfl rfl 2 (by decide) lkX_26 rfl eX_holders_30 ?_
    refine go_iload_n (pc := 33) 3 0 rfl rfl eX_holders_33 ?_
    refine go_ialdN (pc := 34) 2 0 (b) eX_holders_34 rfl rfl (rfl) (hfo _ _ hb) (by omega) ?_
    refine go_goto (pc := 35) 39 (by decide) eX_holders_35 ?_
    exact go_iret (pc := 39) rfl rfl eX_holders_39 (hf)
set_option maxRecDepth 100000 in
set_option maxHeartbeats 1000000 in
theorem t_holders1 (x : Int32) (hx : ∀ j, j < 6 → x = nI j → sp (48 + j) = false) (u : Int32) : Thr (gg D cI cB cL bb L xs) mX_holders (n + 3) 1 6 [.ref h, .int (x), .int (u)] (xW cI cB h a1 a2 a3 a4 a5 F c fo sp pi rest) "java/util/NoSuchElementException" := by
  intro Psi hf
  show Go _ _ _ _ _ 0 [(0, .ref h), (1, .int (x)), (2, .int (u))] [] _ Psi
  refine go_aload_n (pc := 0) 0 0 rfl rfl eX_holders_0 ?_
  refine go_iload_n (pc := 1) 1 1 rfl rfl eX_holders_1 ?_
  exact go_tV (pc := 2) 0 (t_needSpace x hx) okX_needSpace lmX_52 eX_holders_2 rfl rfl rfl rfl rfl (Nat.le_of_ble_eq_true rfl) (Nat.le_of_ble_eq_true rfl) (by omega) (by omega) hf
set_option maxRecDepth 100000 in
set_option maxHeartbeats 1000000 in
theorem t_holders2 (s : Nat) (hs : s < 6) (hsp : sp (48 + s) = true) (x : Int32) (hx : ∀ j, j < 8 → x ≠ nI j) : Thr (gg D cI cB cL bb L xs) mX_holders (n + 3) 1 6 [.ref h, .int (nI s), .int (x)] (xW cI cB h a1 a2 a3 a4 a5 F c fo sp pi rest) "java/lang/IndexOutOfBoundsException" := by
  intro Psi hf
  show Go _ _ _ _ _ 0 [(0, .ref h), (1, .int (nI s)), (2, .int (x))] [] _ Psi
  refine go_aload_n (pc := 0) 0 0 rfl rfl eX_holders_0 ?_
  refine go_iload_n (pc := 1) 1 1 rfl rfl eX_holders_1 ?_
  refine go_rV0 (pc := 2) 0 (c_needSpace s hs hsp) okX_needSpace lmX_52 eX_holders_2 rfl rfl rfl rfl rfl (Nat.le_of_ble_eq_true rfl) (Nat.le_of_ble_eq_true rfl) ?_
  refine go_aload_n (pc := 5) 0 0 rfl rfl eX_holders_5 ?_
  refine go_iload_n (pc := 6) 2 2 rfl rfl eX_holders_6 ?_
  exact go_tV (pc := 7) 0 (t_needPage x hx) okX_needPage lmX_67 eX_holders_7 rfl rfl rfl rfl rfl (Nat.le_of_ble_eq_true rfl) (Nat.le_of_ble_eq_true rfl) (by omega) (by omega) hf
set_option maxRecDepth 100000 in
set_option maxHeartbeats 1000000 in
theorem l_chg (hF : F ≤ 60) (hfo : ∀ k j, fo k = some j → j < F) (p : Nat) (hp : p < 8) {Psi : gR → va_W → Prop} (hf : Psi (.inl (some (.int (nI (gcnt (fun i => decide (fo (384 + i) ≠ fo (p * 48 + i))) 48))))) (xW cI cB h a1 a2 a3 a4 a5 F c fo sp pi rest)) : ∀ (m i : Nat), i + m = 48 → Go (gg D cI cB cL bb L xs) mX_changed (n + 1) 0 0 9 [(3, .int (nI i)), (2, .int (nI (gcnt (fun i => decide (fo (384 + i) ≠ fo (p * 48 + i))) i))), (0, .ref h), (1, .int (nI p))] [] (xW cI cB h a1 a2 a3 a4 a5 F c fo sp pi rest) Psi := by
  intro m
  induction m with
  | zero =>
    intro i hi
    obtain rfl : i = 48 := by omega
    refine go_iload_n (pc := 9) 3 0 rfl rfl eX_changed_9 ?_
    refine go_bipush (pc := 10) (v := 48) (by decide) eX_changed_10 ?_
    refine go_icmp_ge (pc := 12) 48 (by decide) eX_changed_12 (fun c12 => ?_) (fun c12 => ?_)
    · refine go_iload_n (pc := 48) 2 1 rfl rfl eX_changed_48 ?_
      exact go_iret (pc := 49) rfl rfl eX_changed_49 (hf)
    · exact absurd (show (48 : Int32) ≤ nI 48 by decide) c12
  | succ m ih =>
    intro i hi
    refine go_iload_n (pc := 9) 3 0 rfl rfl eX_changed_9 ?_
    refine go_bipush (pc := 10) (v := 48) (by decide) eX_changed_10 ?_
    refine go_icmp_ge (pc := 12) 48 (by decide) eX_changed_12 (fun c12 => ?_) (fun c12 => ?_)
    · exact absurd c12 (nI_ge (b := 48) (by omega) (by omega))
    · refine go_aload_n (pc := 15) 0 2 rfl rfl eX_changed_15 ?_
      refine go_get (pc := 16) hwX 0 rfl rfl 3 (by decide) lkX_29 rfl eX_changed_16 ?_
      refine go_sipush (pc := 19) (v := 384) (by decide) eX_changed_19 ?_
      refine go_iload_n (pc := 22) 3 0 rfl rfl eX_changed_22 ?_
      refine go_iadd (pc := 23) eX_changed_23 ?_
      refine go_ialdN (pc := 24) 3 0 (384 + i) eX_changed_24 rfl rfl (nI_add 384 i) (by omega) (by omega) ?_
      refine go_aload_n (pc := 25) 0 2 rfl rfl eX_changed_25 ?_
      refine go_get (pc := 26) hwX 0 rfl rfl 3 (by decide) lkX_29 rfl eX_changed_26 ?_
      refine go_iload_n (pc := 29) 1 3 rfl rfl eX_changed_29 ?_
      refine go_bipush (pc := 30) (v := 48) (by decide) eX_changed_30 ?_
      refine go_imul (pc := 32) eX_changed_32 ?_
      refine go_iload_n (pc := 33) 3 0 rfl rfl eX_changed_33 ?_
      refine go_iadd (pc := 34) eX_changed_34 ?_
      refine go_ialdN (pc := 35) 3 0 (p * 48 + i) eX_changed_35 rfl rfl (m48 p i) (by omega) (by omega) ?_
      refine go_icmp_eq (pc := 36) 42 (by decide) eX_changed_36 (fun c36 => ?_) (fun c36 => ?_)
      · have e9 : gcnt (fun i => decide (fo (384 + i) ≠ fo (p * 48 + i))) (i + 1) = gcnt (fun i => decide (fo (384 + i) ≠ fo (p * 48 + i))) i := gcnt_n (decide_eq_false (fun z => z ((oI_inj (fun j y => by have := hfo _ _ y; omega) (fun j y => by have := hfo _ _ y; omega)).mp c36)))
        refine go_iinc (pc := 42) (z := 1) (v := nI (i + 1)) (ls' := [(3, _), (2, _), (0, _), (1, _)]) 3 0 rfl (nI_1 i) (by decide) eX_changed_42 rfl ?_
        refine go_goto (pc := 45) 9 (by decide) eX_changed_45 ?_
        rw [← e9]
        exact ih (i + 1) (by omega)
      · have e9 : gcnt (fun i => decide (fo (384 + i) ≠ fo (p * 48 + i))) (i + 1) = gcnt (fun i => decide (fo (384 + i) ≠ fo (p * 48 + i))) i + 1 := gcnt_s (decide_eq_true (fun z => c36 (by rw [z])))
        refine go_iinc (pc := 39) (z := 1) (v := nI (gcnt (fun i => decide (fo (384 + i) ≠ fo (p * 48 + i))) i + 1)) (ls' := [(2, _), (3, _), (0, _), (1, _)]) 2 1 rfl (nI_1 _) (by decide) eX_changed_39 rfl ?_
        refine go_iinc (pc := 42) (z := 1) (v := nI (i + 1)) (ls' := [(3, _), (2, _), (0, _), (1, _)]) 3 1 rfl (nI_1 i) (by decide) eX_changed_42 rfl ?_
        refine go_goto (pc := 45) 9 (by decide) eX_changed_45 ?_
        rw [← e9]
        exact ih (i + 1) (by omega)
set_option maxRecDepth 100000 in
set_option maxHeartbeats 1000000 in
theorem c_chg (hF : F ≤ 60) (hfo : ∀ k j, fo k = some j → j < F) (p : Nat) (hp : p < 8) (hpi : pi p = true) : Ret (gg D cI cB cL bb L xs) mX_changed (n + 1) 0 0 [.ref h, .int (nI p)] (xW cI cB h a1 a2 a3 a4 a5 F c fo sp pi rest) (some (.int (nI (gcnt (fun i => decide (fo (384 + i) ≠ fo (p * 48 + i))) 48)))) (xW cI cB h a1 a2 a3 a4 a5 F c fo sp pi rest) := by
  intro Psi hf
  show Go _ _ _ _ _ 0 [(0, .ref h), (1, .int (nI p))] [] _ Psi
  refine go_aload_n (pc := 0) 0 0 rfl rfl eX_changed_0 ?_
  refine go_iload_n (pc := 1) 1 1 rfl rfl eX_changed_1 ?_
  refine go_rV0 (pc := 2) 0 (c_needPicture p hp hpi) okX_needPicture lmX_106 eX_changed_2 rfl rfl rfl rfl rfl (Nat.le_of_ble_eq_true rfl) (Nat.le_of_ble_eq_true rfl) ?_
  refine go_iconst (pc := 5) (v := 0) (by decide) eX_changed_5 ?_
  refine go_istore_n (pc := 6) (ls' := [(2, _), (0, _), (1, _)]) 2 rfl (by decide) eX_changed_6 rfl ?_
  refine go_iconst (pc := 7) (v := 0) (by decide) eX_changed_7 ?_
  refine go_istore_n (pc := 8) (ls' := [(3, _), (2, _), (0, _), (1, _)]) 3 rfl (by decide) eX_changed_8 rfl ?_
  exact l_chg hF hfo p hp hf 48 0 (by omega)
set_option maxRecDepth 100000 in
set_option maxHeartbeats 1000000 in
theorem t_chg (x : Int32) (hx : ∀ j, j < 8 → x = nI j → pi j = false) : Thr (gg D cI cB cL bb L xs) mX_changed (n + 2) 1 6 [.ref h, .int (x)] (xW cI cB h a1 a2 a3 a4 a5 F c fo sp pi rest) "java/util/NoSuchElementException" := by
  intro Psi hf
  show Go _ _ _ _ _ 0 [(0, .ref h), (1, .int (x))] [] _ Psi
  refine go_aload_n (pc := 0) 0 0 rfl rfl eX_changed_0 ?_
  refine go_iload_n (pc := 1) 1 1 rfl rfl eX_changed_1 ?_
  exact go_tV (pc := 2) 0 (t_needPicture x hx) okX_needPicture lmX_106 eX_changed_2 rfl rfl rfl rfl rfl (Nat.le_of_ble_eq_true rfl) (Nat.le_of_ble_eq_true rfl) (by omega) (by omega) hf
end Sxe
end
section
/-! What a state of the reference is. Its cells stand behind the six of the class. -/
abbrev zV (z0 z1 z2 z3 z4 z5 : Nat × va_E) (cI cB : ClassId) (hm b1 b2 b3 b4 : Nat) (cd : Int32) (F sx : Nat) (g7 g8 g9 g10 : Nat → Int32) (rest : va_W) : va_W :=
  z0 :: z1 :: z2 :: z3 :: z4 :: z5 :: (hm, .inr (1, [.int cd, .int (nI F), .int (nI sx), .ref b1, .ref b2, .ref b3, .ref b4])) :: (b1, .inl (cB, 9, .inl g7)) :: (b2, .inl (cB, 54, .inl g8)) :: (b3, .inl (cI, 432, .inl g9)) :: (b4, .inl (cI, 6912, .inl g10)) :: rest
abbrev zW (z0 z1 z2 z3 z4 z5 : Nat × va_E) (cI cB : ClassId) (hm b1 b2 b3 b4 : Nat) (cd : Int32) (F sx : Nat) (pd th : Nat → Bool) (sm : Nat → Nat) (u : Nat → Int32) (rest : va_W) : va_W :=
  zV z0 z1 z2 z3 z4 z5 cI cB hm b1 b2 b3 b4 cd F sx (fun k => bI (pd k)) (fun k => bI (th k)) (fun k => nI (sm k)) u rest
theorem ys7 {z0 z1 z2 z3 z4 z5 : Nat × va_E} {cI cB : ClassId} {hm b1 b2 b3 b4 : Nat} {cd : Int32} {F sx : Nat} {g7 g8 g9 g10 : Nat → Int32} {rest : va_W} {z z' : Nat → Int32} (e : z = z') : (zV z0 z1 z2 z3 z4 z5 cI cB hm b1 b2 b3 b4 cd F sx g7 g8 g9 g10 rest).set 7 (b1, .inl (cB, 9, .inl z)) = zV z0 z1 z2 z3 z4 z5 cI cB hm b1 b2 b3 b4 cd F sx z' g8 g9 g10 rest := by subst e; rfl
theorem ys8 {z0 z1 z2 z3 z4 z5 : Nat × va_E} {cI cB : ClassId} {hm b1 b2 b3 b4 : Nat} {cd : Int32} {F sx : Nat} {g7 g8 g9 g10 : Nat → Int32} {rest : va_W} {z z' : Nat → Int32} (e : z = z') : (zV z0 z1 z2 z3 z4 z5 cI cB hm b1 b2 b3 b4 cd F sx g7 g8 g9 g10 rest).set 8 (b2, .inl (cB, 54, .inl z)) = zV z0 z1 z2 z3 z4 z5 cI cB hm b1 b2 b3 b4 cd F sx g7 z' g9 g10 rest := by subst e; rfl
theorem ys9 {z0 z1 z2 z3 z4 z5 : Nat × va_E} {cI cB : ClassId} {hm b1 b2 b3 b4 : Nat} {cd : Int32} {F sx : Nat} {g7 g8 g9 g10 : Nat → Int32} {rest : va_W} {z z' : Nat → Int32} (e : z = z') : (zV z0 z1 z2 z3 z4 z5 cI cB hm b1 b2 b3 b4 cd F sx g7 g8 g9 g10 rest).set 9 (b3, .inl (cI, 432, .inl z)) = zV z0 z1 z2 z3 z4 z5 cI cB hm b1 b2 b3 b4 cd F sx g7 g8 z' g10 rest := by subst e; rfl
theorem ys10 {z0 z1 z2 z3 z4 z5 : Nat × va_E} {cI cB : ClassId} {hm b1 b2 b3 b4 : Nat} {cd : Int32} {F sx : Nat} {g7 g8 g9 g10 : Nat → Int32} {rest : va_W} {z z' : Nat → Int32} (e : z = z') : (zV z0 z1 z2 z3 z4 z5 cI cB hm b1 b2 b3 b4 cd F sx g7 g8 g9 g10 rest).set 10 (b4, .inl (cI, 6912, .inl z)) = zV z0 z1 z2 z3 z4 z5 cI cB hm b1 b2 b3 b4 cd F sx g7 g8 g9 z' rest := by subst e; rfl
theorem upd_n {sm : Nat → Nat} {j x : Nat} : upd (fun k => nI (sm k)) j (nI x) = fun k => nI (va_up sm j x k) := by
  funext k
  by_cases e : k = j
  · subst e; simp [upd, va_up]
  · simp [upd, va_up, e]
theorem n16 (a i : Nat) : (16 : Int32) * nI a + nI i = nI (16 * a + i) := by rw [show (16 : Int32) = nI 16 from rfl, pk_mul, nI_add]
theorem n48 (a i : Nat) : (48 : Int32) * nI a + nI i = nI (48 * a + i) := by rw [show (48 : Int32) = nI 48 from rfl, pk_mul, nI_add]
theorem n6 (a i : Nat) : (6 : Int32) * nI a + nI i = nI (6 * a + i) := by rw [show (6 : Int32) = nI 6 from rfl, pk_mul, nI_add]
/-- no page before k bears k's stamp -/
def fstn (sm : Nat → Nat) (k : Nat) : Bool := decide (gcnt (fun j => decide (sm j = sm k)) k = 0)
def usf (sm : Nat → Nat) : Nat → Bool := fun k => decide (¬ sm k = 0) && fstn sm k
/-- every page with stamp b among the first i gets stamp e -/
def mvs (sm : Nat → Nat) (b e i : Nat) : Nat → Nat := fun q => if q < i ∧ sm q = b then e else sm q
theorem mvs_0 {sm : Nat → Nat} {b e : Nat} : mvs sm b e 0 = sm := by funext q; simp [mvs]
theorem mvs_at {sm : Nat → Nat} {b e i : Nat} : mvs sm b e i i = sm i := by simp [mvs]
theorem mvs_n {sm : Nat → Nat} {b e i : Nat} (h : ¬ sm i = b) : va_up (mvs sm b e i) i (sm i) = mvs sm b e (i + 1) := by
  funext q
  simp only [mvs, va_up]
  by_cases z : q = i
  · subst z; simp [h]
  · have : (q < i + 1) = (q < i) := by apply propext; omega
    simp only [this, if_neg z]
theorem mvs_s {sm : Nat → Nat} {b e i : Nat} (h : sm i = b) : va_up (mvs sm b e i) i e = mvs sm b e (i + 1) := by
  funext q
  simp only [mvs, va_up]
  by_cases z : q = i
  · subst z; simp [h]
  · have : (q < i + 1) = (q < i) := by apply propext; omega
    simp only [this, if_neg z]
theorem mvs_one {sm : Nat → Nat} {b i k : Nat} (h : ¬ sm k = b) : mvs sm b (sm k) i k = sm k := by simp [mvs, h]
theorem cpy_blk {α : Type} {f : Nat → α} {s d w i : Nat} (h : s + w * 48 ≤ d ∨ d + w * 48 ≤ s) (hi : i < 48) : va_cpy (va_cpy f f s d (w * i)) (va_cpy f f s d (w * i)) (s + w * i) (d + w * i) w = va_cpy f f s d (w * (i + 1)) := by
  have h2 : w * i + w ≤ w * 48 := by
    have : w * i + w = w * (i + 1) := rfl
    rw [this]; exact Nat.mul_le_mul_left w (by omega)
  have h3 : w * (i + 1) = w * i + w := rfl
  have h4 : w * 48 = 48 * w := Nat.mul_comm _ _
  rw [h3]
  generalize w * i = v at *
  rw [Nat.mul_comm w 48] at h2
  funext q
  simp only [va_cpy]
  by_cases y : d + v ≤ q ∧ q < d + v + w
  · rw [if_pos y, if_neg (by omega), if_pos (by omega)]
    congr 1
    omega
  · rw [if_neg y]
    by_cases z : d ≤ q ∧ q < d + v
    · rw [if_pos z, if_pos (by omega)]
    · rw [if_neg z, if_neg (by omega)]
end
section
section Sya
variable {D : va_G} {cI cB cL : ClassId} {bb L : Nat} {xs : Nat → Int32} {n hm b1 b2 b3 b4 F sx : Nat} {cd : Int32} {pd th : Nat → Bool} {sm : Nat → Nat} {u : Nat → Int32} {z0 z1 z2 z3 z4 z5 : Nat × va_E} {rest es : va_W}
set_option maxRecDepth 100000 in
set_option maxHeartbeats 1000000 in
theorem d_thrown  : Ret (gg D cI cB cL bb L xs) mY_thrown n 0 0 [.ref hm] (zW z0 z1 z2 z3 z4 z5 cI cB hm b1 b2 b3 b4 cd F sx pd th sm u rest) (some (.int (cd))) (zW z0 z1 z2 z3 z4 z5 cI cB hm b1 b2 b3 b4 cd F sx pd th sm u rest) := by
  intro Psi hf
  show Go _ _ _ _ _ 0 [(0, .ref hm)] [] _ Psi
  refine go_aload_n (pc := 0) 0 0 rfl rfl eY_thrown_0 ?_
  refine go_get (pc := 1) hwY 6 rfl rfl 0 (by decide) lkY_27 rfl eY_thrown_1 ?_
  exact go_iret (pc := 4) rfl rfl eY_thrown_4 (hf)
set_option maxRecDepth 100000 in
set_option maxHeartbeats 1000000 in
theorem d_page (r s p : Nat) : Ret (gg D cI cB cL bb L xs) mY_page n 0 0 [.int (nI r), .int (nI s), .int (nI p)] es (some (.int (nI (8 * (6 * r + s) + p)))) es := by
  intro Psi hf
  show Go _ _ _ _ _ 0 [(0, .int (nI r)), (1, .int (nI s)), (2, .int (nI p))] [] _ Psi
  refine go_bipush (pc := 0) (v := 8) (by decide) eY_page_0 ?_
  refine go_bipush (pc := 2) (v := 6) (by decide) eY_page_2 ?_
  refine go_iload_n (pc := 4) 0 0 rfl rfl eY_page_4 ?_
  refine go_imul (pc := 5) eY_page_5 ?_
  refine go_iload_n (pc := 6) 1 1 rfl rfl eY_page_6 ?_
  refine go_iadd (pc := 7) eY_page_7 ?_
  refine go_imul (pc := 8) eY_page_8 ?_
  refine go_iload_n (pc := 9) 2 2 rfl rfl eY_page_9 ?_
  refine go_iadd (pc := 10) eY_page_10 ?_
  exact go_iret (pc := 11) rfl rfl eY_page_11 (by rw [← nI_add, ← pk_mul, ← nI_add, ← pk_mul] at hf; exact hf)
theorem d_page0 (s p : Nat) : Ret (gg D cI cB cL bb L xs) mY_page n 0 0 [.int 0, .int (nI s), .int (nI p)] es (some (.int (nI (8 * s + p)))) es := by
  have h := d_page (D := D) (cI := cI) (cB := cB) (cL := cL) (bb := bb) (L := L) (xs := xs) (n := n) (es := es) 0 s p
  rw [show 8 * (6 * 0 + s) + p = 8 * s + p from by omega] at h
  exact h
set_option maxRecDepth 100000 in
set_option maxHeartbeats 1000000 in
theorem d_isSpaceA (s : Nat) (hs : s < 6) : Ret (gg D cI cB cL bb L xs) mY_isSpace n 0 0 [.ref hm, .int (nI s)] (zW z0 z1 z2 z3 z4 z5 cI cB hm b1 b2 b3 b4 cd F sx pd th sm u rest) (some (.int (bI (th s)))) (zW z0 z1 z2 z3 z4 z5 cI cB hm b1 b2 b3 b4 cd F sx pd th sm u rest) := by
  intro Psi hf
  show Go _ _ _ _ _ 0 [(0, .ref hm), (1, .int (nI s))] [] _ Psi
  refine go_iload_n (pc := 0) 1 1 rfl rfl eY_isSpace_0 ?_
  refine go_if_lt (pc := 1) 23 (by decide) eY_isSpace_1 (fun c1 => ?_) (fun c1 => ?_)
  · exact absurd c1 (nI_pos (by omega))
  · refine go_iload_n (pc := 4) 1 1 rfl rfl eY_isSpace_4 ?_
    refine go_bipush (pc := 5) (v := 6) (by decide) eY_isSpace_5 ?_
    refine go_icmp_ge (pc := 7) 23 (by decide) eY_isSpace_7 (fun c7 => ?_) (fun c7 => ?_)
    · exact absurd c7 (nI_ge (b := 6) (by omega) (by omega))
    · refine go_aload_n (pc := 10) 0 0 rfl rfl eY_isSpace_10 ?_
      refine go_get (pc := 11) hwY 6 rfl rfl 4 (by decide) lkY_13 rfl eY_isSpace_11 ?_
      refine go_iload_n (pc := 14) 1 1 rfl rfl eY_isSpace_14 ?_
      refine go_zaldN (pc := 15) 8 1 (s) eY_isSpace_15 rfl rfl (rfl) (by omega) (by omega) ?_
      refine go_if_eq (pc := 16) 23 (by decide) eY_isSpace_16 (fun c16 => ?_) (fun c16 => ?_)
      · rw [bI0.mp c16] at hf
        refine go_iconst (pc := 23) (v := 0) (by decide) eY_isSpace_23 ?_
        exact go_iret (pc := 24) rfl rfl eY_isSpace_24 (hf)
      · rw [bI1 c16] at hf
        refine go_iconst (pc := 19) (v := 1) (by decide) eY_isSpace_19 ?_
        refine go_goto (pc := 20) 24 (by decide) eY_isSpace_20 ?_
        exact go_iret (pc := 24) rfl rfl eY_isSpace_24 (hf)
theorem d_isSpaceT (s : Nat) (hs : s < 6) (hth : th s = true) : Ret (gg D cI cB cL bb L xs) mY_isSpace n 0 0 [.ref hm, .int (nI s)] (zW z0 z1 z2 z3 z4 z5 cI cB hm b1 b2 b3 b4 cd F sx pd th sm u rest) (some (.int 1)) (zW z0 z1 z2 z3 z4 z5 cI cB hm b1 b2 b3 b4 cd F sx pd th sm u rest) := by
  have h := d_isSpaceA (D := D) (cI := cI) (cB := cB) (cL := cL) (bb := bb) (L := L) (xs := xs) (n := n) (hm := hm) (b1 := b1) (b2 := b2) (b3 := b3) (b4 := b4) (F := F) (sx := sx) (cd := cd) (pd := pd) (th := th) (sm := sm) (u := u) (z0 := z0) (z1 := z1) (z2 := z2) (z3 := z3) (z4 := z4) (z5 := z5) (rest := rest) s hs
  rw [hth] at h
  exact h
set_option maxRecDepth 100000 in
set_option maxHeartbeats 1000000 in
theorem d_isSpaceF (x : Int32) (hx : ∀ j, j < 6 → x = nI j → th j = false) : Ret (gg D cI cB cL bb L xs) mY_isSpace n 0 0 [.ref hm, .int (x)] (zW z0 z1 z2 z3 z4 z5 cI cB hm b1 b2 b3 b4 cd F sx pd th sm u rest) (some (.int (0))) (zW z0 z1 z2 z3 z4 z5 cI cB hm b1 b2 b3 b4 cd F sx pd th sm u rest) := by
  intro Psi hf
  show Go _ _ _ _ _ 0 [(0, .ref hm), (1, .int (x))] [] _ Psi
  refine go_iload_n (pc := 0) 1 1 rfl rfl eY_isSpace_0 ?_
  refine go_if_lt (pc := 1) 23 (by decide) eY_isSpace_1 (fun c1 => ?_) (fun c1 => ?_)
  · refine go_iconst (pc := 23) (v := 0) (by decide) eY_isSpace_23 ?_
    exact go_iret (pc := 24) rfl rfl eY_isSpace_24 (hf)
  · refine go_iload_n (pc := 4) 1 1 rfl rfl eY_isSpace_4 ?_
    refine go_bipush (pc := 5) (v := 6) (by decide) eY_isSpace_5 ?_
    refine go_icmp_ge (pc := 7) 23 (by decide) eY_isSpace_7 (fun c7 => ?_) (fun c7 => ?_)
    · refine go_iconst (pc := 23) (v := 0) (by decide) eY_isSpace_23 ?_
      exact go_iret (pc := 24) rfl rfl eY_isSpace_24 (hf)
    · obtain ⟨j, hj, rfl⟩ : ∃ j, j < 6 ∧ x = nI j := by
        rcases pk_ix x (n := 6) (by omega) with q | q | q
        · exact absurd q c1
        · exact absurd q c7
        · exact q
      refine go_aload_n (pc := 10) 0 0 rfl rfl eY_isSpace_10 ?_
      refine go_get (pc := 11) hwY 6 rfl rfl 4 (by decide) lkY_13 rfl eY_isSpace_11 ?_
      refine go_iload_n (pc := 14) 1 1 rfl rfl eY_isSpace_14 ?_
      refine go_zaldN (pc := 15) 8 1 (j) eY_isSpace_15 rfl rfl (rfl) (by omega) (by omega) ?_
      refine go_if_eq (pc := 16) 23 (by decide) eY_isSpace_16 (fun c16 => ?_) (fun c16 => ?_)
      · refine go_iconst (pc := 23) (v := 0) (by decide) eY_isSpace_23 ?_
        exact go_iret (pc := 24) rfl rfl eY_isSpace_24 (hf)
      · exact absurd (bI0.mpr (hx j hj rfl)) c16
set_option maxRecDepth 100000 in
set_option maxHeartbeats 1000000 in
theorem d_isPageT (p : Nat) (hp : p < 8) : Ret (gg D cI cB cL bb L xs) mY_isPage n 0 0 [.int (nI p)] es (some (.int (1))) es := by
  intro Psi hf
  show Go _ _ _ _ _ 0 [(0, .int (nI p))] [] _ Psi
  refine go_iload_n (pc := 0) 0 0 rfl rfl eY_isPage_0 ?_
  refine go_if_lt (pc := 1) 14 (by decide) eY_isPage_1 (fun c1 => ?_) (fun c1 => ?_)
  · exact absurd c1 (nI_pos (by omega))
  · refine go_iload_n (pc := 4) 0 0 rfl rfl eY_isPage_4 ?_
    refine go_bipush (pc := 5) (v := 8) (by decide) eY_isPage_5 ?_
    refine go_icmp_ge (pc := 7) 14 (by decide) eY_isPage_7 (fun c7 => ?_) (fun c7 => ?_)
    · exact absurd c7 (nI_ge (b := 8) (by omega) (by omega))
    · refine go_iconst (pc := 10) (v := 1) (by decide) eY_isPage_10 ?_
      refine go_goto (pc := 11) 15 (by decide) eY_isPage_11 ?_
      exact go_iret (pc := 15) rfl rfl eY_isPage_15 (hf)
set_option maxRecDepth 100000 in
set_option maxHeartbeats 1000000 in
theorem d_isPageF (y : Int32) (hy : ∀ j, j < 8 → y ≠ nI j) : Ret (gg D cI cB cL bb L xs) mY_isPage n 0 0 [.int (y)] es (some (.int (0))) es := by
  intro Psi hf
  show Go _ _ _ _ _ 0 [(0, .int (y))] [] _ Psi
  refine go_iload_n (pc := 0) 0 0 rfl rfl eY_isPage_0 ?_
  refine go_if_lt (pc := 1) 14 (by decide) eY_isPage_1 (fun c1 => ?_) (fun c1 => ?_)
  · refine go_iconst (pc := 14) (v := 0) (by decide) eY_isPage_14 ?_
    exact go_iret (pc := 15) rfl rfl eY_isPage_15 (hf)
  · refine go_iload_n (pc := 4) 0 0 rfl rfl eY_isPage_4 ?_
    refine go_bipush (pc := 5) (v := 8) (by decide) eY_isPage_5 ?_
    refine go_icmp_ge (pc := 7) 14 (by decide) eY_isPage_7 (fun c7 => ?_) (fun c7 => ?_)
    · refine go_iconst (pc := 14) (v := 0) (by decide) eY_isPage_14 ?_
      exact go_iret (pc := 15) rfl rfl eY_isPage_15 (hf)
    · rcases pk_ix y (n := 8) (by omega) with q | q | ⟨j, hj, q⟩
      · exact absurd q c1
      · exact absurd q c7
      · exact absurd q (hy j hj)
theorem d_isPage (y : Int32) : ∃ b : Int32, (b = 0 ∨ b = 1) ∧ ∀ (n : Nat) (es : va_W), Ret (gg D cI cB cL bb L xs) mY_isPage n 0 0 [.int y] es (some (.int b)) es := by
  rcases pk_ix y (n := 8) (by omega) with q | q | ⟨j, hj, q⟩
  · exact ⟨0, Or.inl rfl, fun n es => d_isPageF y (fun j hj e => nI_pos (n := j) (by omega) (e ▸ q))⟩
  · exact ⟨0, Or.inl rfl, fun n es => d_isPageF y (fun j hj e => nI_ge (a := j) (b := 8) hj (by omega) (e ▸ q))⟩
  · exact ⟨1, Or.inr rfl, fun n es => by rw [q]; exact d_isPageT j hj⟩
set_option maxRecDepth 100000 in
set_option maxHeartbeats 1000000 in
theorem d_fails1 (y z : Int32) : Ret (gg D cI cB cL bb L xs) mY_fails n 0 0 [.ref hm, .int (1), .int (y), .int (z)] (zW z0 z1 z2 z3 z4 z5 cI cB hm b1 b2 b3 b4 cd F sx pd th sm u rest) (some (.int (1))) (zW z0 z1 z2 z3 z4 z5 cI cB hm b1 b2 b3 b4 1 F sx pd th sm u rest) := by
  intro Psi hf
  show Go _ _ _ _ _ 0 [(0, .ref hm), (1, .int (1)), (2, .int (y)), (3, .int (z))] [] _ Psi
  refine go_aload_n (pc := 0) 0 0 rfl rfl eY_fails_0 ?_
  refine go_iload_n (pc := 1) 1 1 rfl rfl eY_fails_1 ?_
  refine go_if_eq (pc := 2) 9 (by decide) eY_fails_2 (fun c2 => ?_) (fun c2 => ?_)
  · exact absurd c2 (by decide)
  · refine go_iconst (pc := 5) (v := 1) (by decide) eY_fails_5 ?_
    refine go_goto (pc := 6) 26 (by decide) eY_fails_6 ?_
    refine go_put (pc := 26) (ty := .int) (es' := (zW z0 z1 z2 z3 z4 z5 cI cB hm b1 b2 b3 b4 1 F sx pd th sm u rest)) hwY tyY tyY_ok nmY 6 rfl rfl 0 (by decide) lkY_27 rfl (by decide +kernel) rfl rfl (Nat.le_of_ble_eq_true rfl) eY_fails_26 rfl ?_
    refine go_aload_n (pc := 29) 0 0 rfl rfl eY_fails_29 ?_
    refine go_get (pc := 30) hwY 6 rfl rfl 0 (by decide) lkY_27 rfl eY_fails_30 ?_
    refine go_if_le (pc := 33) 40 (by decide) eY_fails_33 (fun c33 => ?_) (fun c33 => ?_)
    · exact absurd c33 (by decide)
    · refine go_iconst (pc := 36) (v := 1) (by decide) eY_fails_36 ?_
      refine go_goto (pc := 37) 41 (by decide) eY_fails_37 ?_
      exact go_iret (pc := 41) rfl rfl eY_fails_41 (hf)
set_option maxRecDepth 100000 in
set_option maxHeartbeats 1000000 in
theorem d_fails2 (z : Int32) : Ret (gg D cI cB cL bb L xs) mY_fails n 0 0 [.ref hm, .int (0), .int (1), .int (z)] (zW z0 z1 z2 z3 z4 z5 cI cB hm b1 b2 b3 b4 cd F sx pd th sm u rest) (some (.int (1))) (zW z0 z1 z2 z3 z4 z5 cI cB hm b1 b2 b3 b4 2 F sx pd th sm u rest) := by
  intro Psi hf
  show Go _ _ _ _ _ 0 [(0, .ref hm), (1, .int (0)), (2, .int (1)), (3, .int (z))] [] _ Psi
  refine go_aload_n (pc := 0) 0 0 rfl rfl eY_fails_0 ?_
  refine go_iload_n (pc := 1) 1 1 rfl rfl eY_fails_1 ?_
  refine go_if_eq (pc := 2) 9 (by decide) eY_fails_2 (fun c2 => ?_) (fun c2 => ?_)
  · refine go_iload_n (pc := 9) 2 2 rfl rfl eY_fails_9 ?_
    refine go_if_eq (pc := 10) 17 (by decide) eY_fails_10 (fun c10 => ?_) (fun c10 => ?_)
    · exact absurd c10 (by decide)
    · refine go_iconst (pc := 13) (v := 2) (by decide) eY_fails_13 ?_
      refine go_goto (pc := 14) 26 (by decide) eY_fails_14 ?_
      refine go_put (pc := 26) (ty := .int) (es' := (zW z0 z1 z2 z3 z4 z5 cI cB hm b1 b2 b3 b4 2 F sx pd th sm u rest)) hwY tyY tyY_ok nmY 6 rfl rfl 0 (by decide) lkY_27 rfl (by decide +kernel) rfl rfl (Nat.le_of_ble_eq_true rfl) eY_fails_26 rfl ?_
      refine go_aload_n (pc := 29) 0 0 rfl rfl eY_fails_29 ?_
      refine go_get (pc := 30) hwY 6 rfl rfl 0 (by decide) lkY_27 rfl eY_fails_30 ?_
      refine go_if_le (pc := 33) 40 (by decide) eY_fails_33 (fun c33 => ?_) (fun c33 => ?_)
      · exact absurd c33 (by decide)
      · refine go_iconst (pc := 36) (v := 1) (by decide) eY_fails_36 ?_
        refine go_goto (pc := 37) 41 (by decide) eY_fails_37 ?_
        exact go_iret (pc := 41) rfl rfl eY_fails_41 (hf)
  · exact absurd rfl c2
set_option maxRecDepth 100000 in
set_option maxHeartbeats 1000000 in
theorem d_fails3  : Ret (gg D cI cB cL bb L xs) mY_fails n 0 0 [.ref hm, .int (0), .int (0), .int (1)] (zW z0 z1 z2 z3 z4 z5 cI cB hm b1 b2 b3 b4 cd F sx pd th sm u rest) (some (.int (1))) (zW z0 z1 z2 z3 z4 z5 cI cB hm b1 b2 b3 b4 3 F sx pd th sm u rest) := by
  intro Psi hf
  show Go _ _ _ _ _ 0 [(0, .ref hm), (1, .int (0)), (2, .int (0)), (3, .int (1))] [] _ Psi
  refine go_aload_n (pc := 0) 0 0 rfl rfl eY_fails_0 ?_
  refine go_iload_n (pc := 1) 1 1 rfl rfl eY_fails_1 ?_
  refine go_if_eq (pc := 2) 9 (by decide) eY_fails_2 (fun c2 => ?_) (fun c2 => ?_)
  · refine go_iload_n (pc := 9) 2 2 rfl rfl eY_fails_9 ?_
    refine go_if_eq (pc := 10) 17 (by decide) eY_fails_10 (fun c10 => ?_) (fun c10 => ?_)
    · refine go_iload_n (pc := 17) 3 3 rfl rfl eY_fails_17 ?_
      refine go_if_eq (pc := 18) 25 (by decide) eY_fails_18 (fun c18 => ?_) (fun c18 => ?_)
      · exact absurd c18 (by decide)
      · refine go_iconst (pc := 21) (v := 3) (by decide) eY_fails_21 ?_
        refine go_goto (pc := 22) 26 (by decide) eY_fails_22 ?_
        refine go_put (pc := 26) (ty := .int) (es' := (zW z0 z1 z2 z3 z4 z5 cI cB hm b1 b2 b3 b4 3 F sx pd th sm u rest)) hwY tyY tyY_ok nmY 6 rfl rfl 0 (by decide) lkY_27 rfl (by decide +kernel) rfl rfl (Nat.le_of_ble_eq_true rfl) eY_fails_26 rfl ?_
        refine go_aload_n (pc := 29) 0 0 rfl rfl eY_fails_29 ?_
        refine go_get (pc := 30) hwY 6 rfl rfl 0 (by decide) lkY_27 rfl eY_fails_30 ?_
        refine go_if_le (pc := 33) 40 (by decide) eY_fails_33 (fun c33 => ?_) (fun c33 => ?_)
        · exact absurd c33 (by decide)
        · refine go_iconst (pc := 36) (v := 1) (by decide) eY_fails_36 ?_
          refine go_goto (pc := 37) 41 (by decide) eY_fails_37 ?_
          exact go_iret (pc := 41) rfl rfl eY_fails_41 (hf)
    · exact absurd rfl c10
  · exact absurd rfl c2
set_option maxRecDepth 100000 in
set_option maxHeartbeats 1000000 in
theorem d_fails0  : Ret (gg D cI cB cL bb L xs) mY_fails n 0 0 [.ref hm, .int (0), .int (0), .int (0)] (zW z0 z1 z2 z3 z4 z5 cI cB hm b1 b2 b3 b4 cd F sx pd th sm u rest) (some (.int (0))) (zW z0 z1 z2 z3 z4 z5 cI cB hm b1 b2 b3 b4 0 F sx pd th sm u rest) := by
  intro Psi hf
  show Go _ _ _ _ _ 0 [(0, .ref hm), (1, .int (0)), (2, .int (0)), (3, .int (0))] [] _ Psi
  refine go_aload_n (pc := 0) 0 0 rfl rfl eY_fails_0 ?_
  refine go_iload_n (pc := 1) 1 1 rfl rfl eY_fails_1 ?_
  refine go_if_eq (pc := 2) 9 (by decide) eY_fails_2 (fun c2 => ?_) (fun c2 => ?_)
  · refine go_iload_n (pc := 9) 2 2 rfl rfl eY_fails_9 ?_
    refine go_if_eq (pc := 10) 17 (by decide) eY_fails_10 (fun c10 => ?_) (fun c10 => ?_)
    · refine go_iload_n (pc := 17) 3 3 rfl rfl eY_fails_17 ?_
      refine go_if_eq (pc := 18) 25 (by decide) eY_fails_18 (fun c18 => ?_) (fun c18 => ?_)
      · refine go_iconst (pc := 25) (v := 0) (by decide) eY_fails_25 ?_
        refine go_put (pc := 26) (ty := .int) (es' := (zW z0 z1 z2 z3 z4 z5 cI cB hm b1 b2 b3 b4 0 F sx pd th sm u rest)) hwY tyY tyY_ok nmY 6 rfl rfl 0 (by decide) lkY_27 rfl (by decide +kernel) rfl rfl (Nat.le_of_ble_eq_true rfl) eY_fails_26 rfl ?_
        refine go_aload_n (pc := 29) 0 0 rfl rfl eY_fails_29 ?_
        refine go_get (pc := 30) hwY 6 rfl rfl 0 (by decide) lkY_27 rfl eY_fails_30 ?_
        refine go_if_le (pc := 33) 40 (by decide) eY_fails_33 (fun c33 => ?_) (fun c33 => ?_)
        · refine go_iconst (pc := 40) (v := 0) (by decide) eY_fails_40 ?_
          exact go_iret (pc := 41) rfl rfl eY_fails_41 (hf)
        · exact absurd c33 (by decide)
      · exact absurd rfl c18
    · exact absurd rfl c10
  · exact absurd rfl c2
set_option maxRecDepth 100000 in
set_option maxHeartbeats 1000000 in
theorem k_holdersOf (hsm : ∀ k, sm k < 2 ^ 30) (v : Nat) (hv : v < 2 ^ 30) (h0 : v ≠ 0) {Psi : gR → va_W → Prop} (hf : Psi (.inl (some (.int (nI (gcnt (fun k => decide (sm k = v)) 432))))) (zW z0 z1 z2 z3 z4 z5 cI cB hm b1 b2 b3 b4 cd F sx pd th sm u rest)) : ∀ (m i : Nat), i + m = 432 → Go (gg D cI cB cL bb L xs) mY_holdersOf n 0 0 4 [(3, .int (nI i)), (2, .int (nI (gcnt (fun k => decide (sm k = v)) i))), (0, .ref hm), (1, .int (nI v))] [] (zW z0 z1 z2 z3 z4 z5 cI cB hm b1 b2 b3 b4 cd F sx pd th sm u rest) Psi := by
  intro m
  induction m with
  | zero =>
    intro i hi
    obtain rfl : i = 432 := by omega
    refine go_iload_n (pc := 4) 3 0 rfl rfl eY_holdersOf_4 ?_
    refine go_sipush (pc := 5) (v := 432) (by decide) eY_holdersOf_5 ?_
    refine go_icmp_ge (pc := 8) 35 (by decide) eY_holdersOf_8 (fun c8 => ?_) (fun c8 => ?_)
    · refine go_iload_n (pc := 35) 1 3 rfl rfl eY_holdersOf_35 ?_
      refine go_if_ne (pc := 36) 43 (by decide) eY_holdersOf_36 (fun c36 => ?_) (fun c36 => ?_)
      · refine go_iload_n (pc := 43) 2 1 rfl rfl eY_holdersOf_43 ?_
        exact go_iret (pc := 44) rfl rfl eY_holdersOf_44 (hf)
      · exact absurd ((nI_z (by omega)).mp c36) h0
    · exact absurd (show (432 : Int32) ≤ nI 432 by decide) c8
  | succ m ih =>
    intro i hi
    refine go_iload_n (pc := 4) 3 0 rfl rfl eY_holdersOf_4 ?_
    refine go_sipush (pc := 5) (v := 432) (by decide) eY_holdersOf_5 ?_
    refine go_icmp_ge (pc := 8) 35 (by decide) eY_holdersOf_8 (fun c8 => ?_) (fun c8 => ?_)
    · exact absurd c8 (nI_ge (b := 432) (by omega) (by omega))
    · refine go_aload_n (pc := 11) 0 2 rfl rfl eY_holdersOf_11 ?_
      refine go_get (pc := 12) hwY 6 rfl rfl 5 (by decide) lkY_16 rfl eY_holdersOf_12 ?_
      refine go_iload_n (pc := 15) 3 0 rfl rfl eY_holdersOf_15 ?_
      refine go_ialdN (pc := 16) 9 0 (i) eY_holdersOf_16 rfl rfl (rfl) (by omega) (by omega) ?_
      refine go_iload_n (pc := 17) 1 3 rfl rfl eY_holdersOf_17 ?_
      refine go_icmp_ne (pc := 18) 27 (by decide) eY_holdersOf_18 (fun c18 => ?_) (fun c18 => ?_)
      · have e9 : gcnt (fun k => decide (sm k = v)) (i + 1) = gcnt (fun k => decide (sm k = v)) i := gcnt_n (decide_eq_false (fun z => c18 (by rw [z])))
        rw [← e9]
        refine go_iload_n (pc := 27) 2 1 rfl rfl eY_holdersOf_27 ?_
        refine go_istore_n (pc := 28) (ls' := [(2, _), (3, _), (0, _), (1, _)]) 2 rfl (by decide) eY_holdersOf_28 rfl ?_
        refine go_iinc (pc := 29) (z := 1) (v := nI (i + 1)) (ls' := [(3, _), (2, _), (0, _), (1, _)]) 3 1 rfl (nI_1 i) (by decide) eY_holdersOf_29 rfl ?_
        refine go_goto (pc := 32) 4 (by decide) eY_holdersOf_32 ?_
        exact ih (i + 1) (by omega)
      · have e9 : gcnt (fun k => decide (sm k = v)) (i + 1) = gcnt (fun k => decide (sm k = v)) i + 1 := gcnt_s (decide_eq_true ((nI_eq (by have := hsm i; omega) (by omega)).mp c18))
        refine go_iload_n (pc := 21) 2 1 rfl rfl eY_holdersOf_21 ?_
        refine go_iconst (pc := 22) (v := 1) (by decide) eY_holdersOf_22 ?_
        refine go_iadd (pc := 23) eY_holdersOf_23 ?_
        rw [nI_1, ← e9]
        refine go_goto (pc := 24) 28 (by decide) eY_holdersOf_24 ?_
        refine go_istore_n (pc := 28) (ls' := [(2, _), (3, _), (0, _), (1, _)]) 2 rfl (by decide) eY_holdersOf_28 rfl ?_
        refine go_iinc (pc := 29) (z := 1) (v := nI (i + 1)) (ls' := [(3, _), (2, _), (0, _), (1, _)]) 3 1 rfl (nI_1 i) (by decide) eY_holdersOf_29 rfl ?_
        refine go_goto (pc := 32) 4 (by decide) eY_holdersOf_32 ?_
        exact ih (i + 1) (by omega)
set_option maxRecDepth 100000 in
set_option maxHeartbeats 1000000 in
theorem d_holdersOf (hsm : ∀ k, sm k < 2 ^ 30) (v : Nat) (hv : v < 2 ^ 30) (h0 : v ≠ 0) : Ret (gg D cI cB cL bb L xs) mY_holdersOf n 0 0 [.ref hm, .int (nI v)] (zW z0 z1 z2 z3 z4 z5 cI cB hm b1 b2 b3 b4 cd F sx pd th sm u rest) (some (.int (nI (gcnt (fun k => decide (sm k = v)) 432)))) (zW z0 z1 z2 z3 z4 z5 cI cB hm b1 b2 b3 b4 cd F sx pd th sm u rest) := by
  intro Psi hf
  show Go _ _ _ _ _ 0 [(0, .ref hm), (1, .int (nI v))] [] _ Psi
  refine go_iconst (pc := 0) (v := 0) (by decide) eY_holdersOf_0 ?_
  refine go_istore_n (pc := 1) (ls' := [(2, _), (0, _), (1, _)]) 2 rfl (by decide) eY_holdersOf_1 rfl ?_
  refine go_iconst (pc := 2) (v := 0) (by decide) eY_holdersOf_2 ?_
  refine go_istore_n (pc := 3) (ls' := [(3, _), (2, _), (0, _), (1, _)]) 3 rfl (by decide) eY_holdersOf_3 rfl ?_
  refine go_ls [0, 1, 2, 3] rfl ?_
  exact k_holdersOf hsm v hv h0 hf 432 0 (by omega)
set_option maxRecDepth 100000 in
set_option maxHeartbeats 1000000 in
theorem k_holders0 (hsm : ∀ k, sm k < 2 ^ 30) {Psi : gR → va_W → Prop} (hf : Psi (.inl (some (.int 0))) (zW z0 z1 z2 z3 z4 z5 cI cB hm b1 b2 b3 b4 cd F sx pd th sm u rest)) : ∀ (m i : Nat) (w : Int32), i + m = 432 → Go (gg D cI cB cL bb L xs) mY_holdersOf n 0 0 4 [(3, .int (nI i)), (2, .int (w)), (0, .ref hm), (1, .int (0))] [] (zW z0 z1 z2 z3 z4 z5 cI cB hm b1 b2 b3 b4 cd F sx pd th sm u rest) Psi := by
  intro m
  induction m with
  | zero =>
    intro i w hi
    obtain rfl : i = 432 := by omega
    refine go_iload_n (pc := 4) 3 0 rfl rfl eY_holdersOf_4 ?_
    refine go_sipush (pc := 5) (v := 432) (by decide) eY_holdersOf_5 ?_
    refine go_icmp_ge (pc := 8) 35 (by decide) eY_holdersOf_8 (fun c8 => ?_) (fun c8 => ?_)
    · refine go_iload_n (pc := 35) 1 3 rfl rfl eY_holdersOf_35 ?_
      refine go_if_ne (pc := 36) 43 (by decide) eY_holdersOf_36 (fun c36 => ?_) (fun c36 => ?_)
      · exact absurd rfl c36
      · refine go_iconst (pc := 39) (v := 0) (by decide) eY_holdersOf_39 ?_
        refine go_goto (pc := 40) 44 (by decide) eY_holdersOf_40 ?_
        exact go_iret (pc := 44) rfl rfl eY_holdersOf_44 (hf)
    · exact absurd (show (432 : Int32) ≤ nI 432 by decide) c8
  | succ m ih =>
    intro i w hi
    refine go_iload_n (pc := 4) 3 0 rfl rfl eY_holdersOf_4 ?_
    refine go_sipush (pc := 5) (v := 432) (by decide) eY_holdersOf_5 ?_
    refine go_icmp_ge (pc := 8) 35 (by decide) eY_holdersOf_8 (fun c8 => ?_) (fun c8 => ?_)
    · exact absurd c8 (nI_ge (b := 432) (by omega) (by omega))
    · refine go_aload_n (pc := 11) 0 2 rfl rfl eY_holdersOf_11 ?_
      refine go_get (pc := 12) hwY 6 rfl rfl 5 (by decide) lkY_16 rfl eY_holdersOf_12 ?_
      refine go_iload_n (pc := 15) 3 0 rfl rfl eY_holdersOf_15 ?_
      refine go_ialdN (pc := 16) 9 0 (i) eY_holdersOf_16 rfl rfl (rfl) (by omega) (by omega) ?_
      refine go_iload_n (pc := 17) 1 3 rfl rfl eY_holdersOf_17 ?_
      refine go_icmp_ne (pc := 18) 27 (by decide) eY_holdersOf_18 (fun c18 => ?_) (fun c18 => ?_)
      · refine go_iload_n (pc := 27) 2 1 rfl rfl eY_holdersOf_27 ?_
        refine go_istore_n (pc := 28) (ls' := [(2, _), (3, _), (0, _), (1, _)]) 2 rfl (by decide) eY_holdersOf_28 rfl ?_
        refine go_iinc (pc := 29) (z := 1) (v := nI (i + 1)) (ls' := [(3, _), (2, _), (0, _), (1, _)]) 3 1 rfl (nI_1 i) (by decide) eY_holdersOf_29 rfl ?_
        refine go_goto (pc := 32) 4 (by decide) eY_holdersOf_32 ?_
        exact ih (i + 1) _ (by omega)
      · refine go_iload_n (pc := 21) 2 1 rfl rfl eY_holdersOf_21 ?_
        refine go_iconst (pc := 22) (v := 1) (by decide) eY_holdersOf_22 ?_
        refine go_iadd (pc := 23) eY_holdersOf_23 ?_
        refine go_goto (pc := 24) 28 (by decide) eY_holdersOf_24 ?_
        refine go_istore_n (pc := 28) (ls' := [(2, _), (3, _), (0, _), (1, _)]) 2 rfl (by decide) eY_holdersOf_28 rfl ?_
        refine go_iinc (pc := 29) (z := 1) (v := nI (i + 1)) (ls' := [(3, _), (2, _), (0, _), (1, _)]) 3 1 rfl (nI_1 i) (by decide) eY_holdersOf_29 rfl ?_
        refine go_goto (pc := 32) 4 (by decide) eY_holdersOf_32 ?_
        exact ih (i + 1) _ (by omega)
set_option maxRecDepth 100000 in
set_option maxHeartbeats 1000000 in
theorem d_holders0 (hsm : ∀ k, sm k < 2 ^ 30) : Ret (gg D cI cB cL bb L xs) mY_holdersOf n 0 0 [.ref hm, .int (0)] (zW z0 z1 z2 z3 z4 z5 cI cB hm b1 b2 b3 b4 cd F sx pd th sm u rest) (some (.int (0))) (zW z0 z1 z2 z3 z4 z5 cI cB hm b1 b2 b3 b4 cd F sx pd th sm u rest) := by
  intro Psi hf
  show Go _ _ _ _ _ 0 [(0, .ref hm), (1, .int (0))] [] _ Psi
  refine go_iconst (pc := 0) (v := 0) (by decide) eY_holdersOf_0 ?_
  refine go_istore_n (pc := 1) (ls' := [(2, _), (0, _), (1, _)]) 2 rfl (by decide) eY_holdersOf_1 rfl ?_
  refine go_iconst (pc := 2) (v := 0) (by decide) eY_holdersOf_2 ?_
  refine go_istore_n (pc := 3) (ls' := [(3, _), (2, _), (0, _), (1, _)]) 3 rfl (by decide) eY_holdersOf_3 rfl ?_
  exact k_holders0 hsm hf 432 0 _ (by omega)
set_option maxRecDepth 100000 in
set_option maxHeartbeats 1000000 in
theorem k_us2 (hsm : ∀ k, sm k < 2 ^ 30) (k w : Nat) (hk0 : k < 432) {Psi : gR → va_W → Prop} (hk : Go (gg D cI cB cL bb L xs) mY_used n 0 0 66 [(3, .int (bI (fstn sm k))), (2, .int (nI k)), (1, .int (nI w)), (0, .ref hm)] [] (zW z0 z1 z2 z3 z4 z5 cI cB hm b1 b2 b3 b4 cd F sx pd th sm u rest) Psi) : ∀ (m i : Nat) (hq : gcnt (fun j => decide (sm j = sm k)) i = 0), i + m = k → Go (gg D cI cB cL bb L xs) mY_used n 0 0 28 [(4, .int (nI i)), (3, .int (1)), (2, .int (nI k)), (1, .int (nI w)), (0, .ref hm)] [] (zW z0 z1 z2 z3 z4 z5 cI cB hm b1 b2 b3 b4 cd F sx pd th sm u rest) Psi := by
  intro m
  induction m with
  | zero =>
    intro i hq hi
    obtain rfl : i = k := by omega
    refine go_iload (pc := 28) 4 0 rfl eY_used_28 ?_
    refine go_iload_n (pc := 30) 2 2 rfl rfl eY_used_30 ?_
    refine go_icmp_ge (pc := 31) 66 (by decide) eY_used_31 (fun c31 => ?_) (fun c31 => ?_)
    · refine go_ls [1, 2, 3, 4] rfl ?_
      rw [show fstn sm i = true from decide_eq_true hq] at hk
      exact hk
    · exact absurd (nI_le (Nat.le_refl i) (by omega)) c31
  | succ m ih =>
    intro i hq hi
    refine go_iload (pc := 28) 4 0 rfl eY_used_28 ?_
    refine go_iload_n (pc := 30) 2 2 rfl rfl eY_used_30 ?_
    refine go_icmp_ge (pc := 31) 66 (by decide) eY_used_31 (fun c31 => ?_) (fun c31 => ?_)
    · exact absurd c31 (nI_ge (by omega) (by omega))
    · refine go_iload_n (pc := 34) 3 1 rfl rfl eY_used_34 ?_
      refine go_if_eq (pc := 35) 66 (by decide) eY_used_35 (fun c35 => ?_) (fun c35 => ?_)
      · exact absurd c35 (by decide)
      · refine go_aload_n (pc := 38) 0 4 rfl rfl eY_used_38 ?_
        refine go_get (pc := 39) hwY 6 rfl rfl 5 (by decide) lkY_16 rfl eY_used_39 ?_
        refine go_iload (pc := 42) 4 0 rfl eY_used_42 ?_
        refine go_ialdN (pc := 44) 9 0 (i) eY_used_44 rfl rfl (rfl) (by omega) (by omega) ?_
        refine go_aload_n (pc := 45) 0 4 rfl rfl eY_used_45 ?_
        refine go_get (pc := 46) hwY 6 rfl rfl 5 (by decide) lkY_16 rfl eY_used_46 ?_
        refine go_iload_n (pc := 49) 2 2 rfl rfl eY_used_49 ?_
        refine go_ialdN (pc := 50) 9 0 (k) eY_used_50 rfl rfl (rfl) (hk0) (by omega) ?_
        refine go_icmp_eq (pc := 51) 58 (by decide) eY_used_51 (fun c51 => ?_) (fun c51 => ?_)
        · have hfz : fstn sm k = false := decide_eq_false (by have := gcnt_pos (p := (fun j => decide (sm j = sm k))) (k := i) (n := k) (by omega) (decide_eq_true ((nI_eq (by have := hsm i; omega) (by have := hsm k; omega)).mp c51)); omega)
          refine go_iconst (pc := 58) (v := 0) (by decide) eY_used_58 ?_
          refine go_istore_n (pc := 59) (ls' := [(3, _), (4, _), (2, _), (1, _), (0, _)]) 3 rfl (by decide) eY_used_59 rfl ?_
          refine go_iinc (pc := 60) (z := 1) (v := nI (i + 1)) (ls' := [(4, _), (3, _), (2, _), (1, _), (0, _)]) 4 1 rfl (nI_1 i) (by decide) eY_used_60 rfl ?_
          refine go_goto (pc := 63) 28 (by decide) eY_used_63 ?_
          refine go_iload (pc := 28) 4 0 rfl eY_used_28 ?_
          refine go_iload_n (pc := 30) 2 2 rfl rfl eY_used_30 ?_
          refine go_icmp_ge (pc := 31) 66 (by decide) eY_used_31 (fun c31 => ?_) (fun c31 => ?_)
          · refine go_ls [1, 2, 3, 4] rfl ?_
            rw [hfz] at hk
            exact hk
          · refine go_iload_n (pc := 34) 3 1 rfl rfl eY_used_34 ?_
            refine go_if_eq (pc := 35) 66 (by decide) eY_used_35 (fun c35 => ?_) (fun c35 => ?_)
            · refine go_ls [1, 2, 3, 4] rfl ?_
              rw [hfz] at hk
              exact hk
            · exact absurd c35 (by decide)
        · have e9 : gcnt (fun j => decide (sm j = sm k)) (i + 1) = 0 := by rw [gcnt_n (decide_eq_false (fun z => c51 (by rw [z])))]; exact hq
          refine go_iconst (pc := 54) (v := 1) (by decide) eY_used_54 ?_
          refine go_goto (pc := 55) 59 (by decide) eY_used_55 ?_
          refine go_istore_n (pc := 59) (ls' := [(3, _), (4, _), (2, _), (1, _), (0, _)]) 3 rfl (by decide) eY_used_59 rfl ?_
          refine go_iinc (pc := 60) (z := 1) (v := nI (i + 1)) (ls' := [(4, _), (3, _), (2, _), (1, _), (0, _)]) 4 1 rfl (nI_1 i) (by decide) eY_used_60 rfl ?_
          refine go_goto (pc := 63) 28 (by decide) eY_used_63 ?_
          exact ih (i + 1) e9 (by omega)
set_option maxRecDepth 100000 in
set_option maxHeartbeats 1000000 in
theorem k_used (hsm : ∀ k, sm k < 2 ^ 30) {Psi : gR → va_W → Prop} (hf : Psi (.inl (some (.int (nI (gcnt (usf sm) 432))))) (zW z0 z1 z2 z3 z4 z5 cI cB hm b1 b2 b3 b4 cd F sx pd th sm u rest)) : ∀ (m i : Nat), i + m = 432 → Go (gg D cI cB cL bb L xs) mY_used n 0 0 4 [(2, .int (nI i)), (1, .int (nI (gcnt (usf sm) i))), (0, .ref hm)] [] (zW z0 z1 z2 z3 z4 z5 cI cB hm b1 b2 b3 b4 cd F sx pd th sm u rest) Psi := by
  intro m
  induction m with
  | zero =>
    intro i hi
    obtain rfl : i = 432 := by omega
    refine go_iload_n (pc := 4) 2 0 rfl rfl eY_used_4 ?_
    refine go_sipush (pc := 5) (v := 432) (by decide) eY_used_5 ?_
    refine go_icmp_ge (pc := 8) 84 (by decide) eY_used_8 (fun c8 => ?_) (fun c8 => ?_)
    · refine go_iload_n (pc := 84) 1 1 rfl rfl eY_used_84 ?_
      exact go_iret (pc := 85) rfl rfl eY_used_85 (hf)
    · exact absurd (show (432 : Int32) ≤ nI 432 by decide) c8
  | succ m ih =>
    intro i hi
    refine go_iload_n (pc := 4) 2 0 rfl rfl eY_used_4 ?_
    refine go_sipush (pc := 5) (v := 432) (by decide) eY_used_5 ?_
    refine go_icmp_ge (pc := 8) 84 (by decide) eY_used_8 (fun c8 => ?_) (fun c8 => ?_)
    · exact absurd c8 (nI_ge (b := 432) (by omega) (by omega))
    · refine go_aload_n (pc := 11) 0 2 rfl rfl eY_used_11 ?_
      refine go_get (pc := 12) hwY 6 rfl rfl 5 (by decide) lkY_16 rfl eY_used_12 ?_
      refine go_iload_n (pc := 15) 2 0 rfl rfl eY_used_15 ?_
      refine go_ialdN (pc := 16) 9 0 (i) eY_used_16 rfl rfl (rfl) (by omega) (by omega) ?_
      refine go_if_ne (pc := 17) 23 (by decide) eY_used_17 (fun c17 => ?_) (fun c17 => ?_)
      · have hne : ¬ sm i = 0 := fun z => c17 (by rw [z]; rfl)
        refine go_iconst (pc := 23) (v := 1) (by decide) eY_used_23 ?_
        refine go_istore_n (pc := 24) (ls' := [(3, _), (2, _), (1, _), (0, _)]) 3 rfl (by decide) eY_used_24 rfl ?_
        refine go_iconst (pc := 25) (v := 0) (by decide) eY_used_25 ?_
        refine go_istore (pc := 26) (ls' := [(4, _), (3, _), (2, _), (1, _), (0, _)]) 4 (by decide) eY_used_26 rfl ?_
        refine go_ls (ls' := [(4, _), (3, _), (2, _), (1, _), (0, _)]) [0, 1, 2, 3, 4] rfl ?_
        refine k_us2 hsm i (gcnt (usf sm) i) (by omega) ?_ i 0 rfl (by omega)
        refine go_iload_n (pc := 66) 3 0 rfl rfl eY_used_66 ?_
        refine go_if_eq (pc := 67) 76 (by decide) eY_used_67 (fun c67 => ?_) (fun c67 => ?_)
        · have e9 : gcnt (usf sm) (i + 1) = gcnt (usf sm) i := gcnt_n (by simp only [usf, bI0.mp c67, Bool.and_false])
          rw [← e9]
          refine go_iload_n (pc := 76) 1 2 rfl rfl eY_used_76 ?_
          refine go_istore_n (pc := 77) (ls' := [(1, _), (3, _), (2, _), (0, _)]) 1 rfl (by decide) eY_used_77 rfl ?_
          refine go_iinc (pc := 78) (z := 1) (v := nI (i + 1)) (ls' := [(2, _), (1, _), (3, _), (0, _)]) 2 2 rfl (nI_1 i) (by decide) eY_used_78 rfl ?_
          refine go_goto (pc := 81) 4 (by decide) eY_used_81 ?_
          refine go_ls [0, 1, 3] rfl ?_
          exact ih (i + 1) (by omega)
        · have e9 : gcnt (usf sm) (i + 1) = gcnt (usf sm) i + 1 := gcnt_s (by simp only [usf, bI1 c67, Bool.and_true]; exact decide_eq_true hne)
          refine go_iload_n (pc := 70) 1 2 rfl rfl eY_used_70 ?_
          refine go_iconst (pc := 71) (v := 1) (by decide) eY_used_71 ?_
          refine go_iadd (pc := 72) eY_used_72 ?_
          rw [nI_1, ← e9]
          refine go_goto (pc := 73) 77 (by decide) eY_used_73 ?_
          refine go_istore_n (pc := 77) (ls' := [(1, _), (3, _), (2, _), (0, _)]) 1 rfl (by decide) eY_used_77 rfl ?_
          refine go_iinc (pc := 78) (z := 1) (v := nI (i + 1)) (ls' := [(2, _), (1, _), (3, _), (0, _)]) 2 2 rfl (nI_1 i) (by decide) eY_used_78 rfl ?_
          refine go_goto (pc := 81) 4 (by decide) eY_used_81 ?_
          refine go_ls [0, 1, 3] rfl ?_
          exact ih (i + 1) (by omega)
      · have e9 : gcnt (usf sm) (i + 1) = gcnt (usf sm) i := gcnt_n (by simp only [usf, (nI_z (by have := hsm i; omega)).mp c17]; rfl)
        rw [← e9]
        refine go_goto (pc := 20) 78 (by decide) eY_used_20 ?_
        refine go_iinc (pc := 78) (z := 1) (v := nI (i + 1)) (ls' := [(2, _), (1, _), (0, _)]) 2 0 rfl (nI_1 i) (by decide) eY_used_78 rfl ?_
        refine go_goto (pc := 81) 4 (by decide) eY_used_81 ?_
        exact ih (i + 1) (by omega)
set_option maxRecDepth 100000 in
set_option maxHeartbeats 1000000 in
theorem d_used (hsm : ∀ k, sm k < 2 ^ 30) : Ret (gg D cI cB cL bb L xs) mY_used n 0 0 [.ref hm] (zW z0 z1 z2 z3 z4 z5 cI cB hm b1 b2 b3 b4 cd F sx pd th sm u rest) (some (.int (nI (gcnt (usf sm) 432)))) (zW z0 z1 z2 z3 z4 z5 cI cB hm b1 b2 b3 b4 cd F sx pd th sm u rest) := by
  intro Psi hf
  show Go _ _ _ _ _ 0 [(0, .ref hm)] [] _ Psi
  refine go_iconst (pc := 0) (v := 0) (by decide) eY_used_0 ?_
  refine go_istore_n (pc := 1) (ls' := [(1, _), (0, _)]) 1 rfl (by decide) eY_used_1 rfl ?_
  refine go_iconst (pc := 2) (v := 0) (by decide) eY_used_2 ?_
  refine go_istore_n (pc := 3) (ls' := [(2, _), (1, _), (0, _)]) 2 rfl (by decide) eY_used_3 rfl ?_
  exact k_used hsm hf 432 0 (by omega)
set_option maxRecDepth 100000 in
set_option maxHeartbeats 1000000 in
theorem k_spaces  {Psi : gR → va_W → Prop} (hf : Psi (.inl (some (.int (nI (gcnt th 6))))) (zW z0 z1 z2 z3 z4 z5 cI cB hm b1 b2 b3 b4 cd F sx pd th sm u rest)) : ∀ (m i : Nat), i + m = 6 → Go (gg D cI cB cL bb L xs) mY_spaces n 0 0 4 [(2, .int (nI i)), (1, .int (nI (gcnt th i))), (0, .ref hm)] [] (zW z0 z1 z2 z3 z4 z5 cI cB hm b1 b2 b3 b4 cd F sx pd th sm u rest) Psi := by
  intro m
  induction m with
  | zero =>
    intro i hi
    obtain rfl : i = 6 := by omega
    refine go_iload_n (pc := 4) 2 0 rfl rfl eY_spaces_4 ?_
    refine go_bipush (pc := 5) (v := 6) (by decide) eY_spaces_5 ?_
    refine go_icmp_ge (pc := 7) 33 (by decide) eY_spaces_7 (fun c7 => ?_) (fun c7 => ?_)
    · refine go_iload_n (pc := 33) 1 1 rfl rfl eY_spaces_33 ?_
      exact go_iret (pc := 34) rfl rfl eY_spaces_34 (hf)
    · exact absurd (show (6 : Int32) ≤ nI 6 by decide) c7
  | succ m ih =>
    intro i hi
    refine go_iload_n (pc := 4) 2 0 rfl rfl eY_spaces_4 ?_
    refine go_bipush (pc := 5) (v := 6) (by decide) eY_spaces_5 ?_
    refine go_icmp_ge (pc := 7) 33 (by decide) eY_spaces_7 (fun c7 => ?_) (fun c7 => ?_)
    · exact absurd c7 (nI_ge (b := 6) (by omega) (by omega))
    · refine go_aload_n (pc := 10) 0 2 rfl rfl eY_spaces_10 ?_
      refine go_get (pc := 11) hwY 6 rfl rfl 4 (by decide) lkY_13 rfl eY_spaces_11 ?_
      refine go_iload_n (pc := 14) 2 0 rfl rfl eY_spaces_14 ?_
      refine go_zaldN (pc := 15) 8 1 (i) eY_spaces_15 rfl rfl (rfl) (by omega) (by omega) ?_
      refine go_if_eq (pc := 16) 25 (by decide) eY_spaces_16 (fun c16 => ?_) (fun c16 => ?_)
      · have e9 : gcnt th (i + 1) = gcnt th i := gcnt_n (bI0.mp c16)
        rw [← e9]
        refine go_iload_n (pc := 25) 1 1 rfl rfl eY_spaces_25 ?_
        refine go_istore_n (pc := 26) (ls' := [(1, _), (2, _), (0, _)]) 1 rfl (by decide) eY_spaces_26 rfl ?_
        refine go_iinc (pc := 27) (z := 1) (v := nI (i + 1)) (ls' := [(2, _), (1, _), (0, _)]) 2 1 rfl (nI_1 i) (by decide) eY_spaces_27 rfl ?_
        refine go_goto (pc := 30) 4 (by decide) eY_spaces_30 ?_
        exact ih (i + 1) (by omega)
      · have e9 : gcnt th (i + 1) = gcnt th i + 1 := gcnt_s (bI1 c16)
        refine go_iload_n (pc := 19) 1 1 rfl rfl eY_spaces_19 ?_
        refine go_iconst (pc := 20) (v := 1) (by decide) eY_spaces_20 ?_
        refine go_iadd (pc := 21) eY_spaces_21 ?_
        rw [nI_1, ← e9]
        refine go_goto (pc := 22) 26 (by decide) eY_spaces_22 ?_
        refine go_istore_n (pc := 26) (ls' := [(1, _), (2, _), (0, _)]) 1 rfl (by decide) eY_spaces_26 rfl ?_
        refine go_iinc (pc := 27) (z := 1) (v := nI (i + 1)) (ls' := [(2, _), (1, _), (0, _)]) 2 1 rfl (nI_1 i) (by decide) eY_spaces_27 rfl ?_
        refine go_goto (pc := 30) 4 (by decide) eY_spaces_30 ?_
        exact ih (i + 1) (by omega)
set_option maxRecDepth 100000 in
set_option maxHeartbeats 1000000 in
theorem d_spaces  : Ret (gg D cI cB cL bb L xs) mY_spaces n 0 0 [.ref hm] (zW z0 z1 z2 z3 z4 z5 cI cB hm b1 b2 b3 b4 cd F sx pd th sm u rest) (some (.int (nI (gcnt th 6)))) (zW z0 z1 z2 z3 z4 z5 cI cB hm b1 b2 b3 b4 cd F sx pd th sm u rest) := by
  intro Psi hf
  show Go _ _ _ _ _ 0 [(0, .ref hm)] [] _ Psi
  refine go_iconst (pc := 0) (v := 0) (by decide) eY_spaces_0 ?_
  refine go_istore_n (pc := 1) (ls' := [(1, _), (0, _)]) 1 rfl (by decide) eY_spaces_1 rfl ?_
  refine go_iconst (pc := 2) (v := 0) (by decide) eY_spaces_2 ?_
  refine go_istore_n (pc := 3) (ls' := [(2, _), (1, _), (0, _)]) 2 rfl (by decide) eY_spaces_3 rfl ?_
  refine go_ls [0, 1, 2] rfl ?_
  exact k_spaces  hf 6 0 (by omega)
set_option maxRecDepth 100000 in
set_option maxHeartbeats 1000000 in
theorem k_pagesOf (hsm : ∀ k, sm k < 2 ^ 30) (s : Nat) (hs : s < 6) {Psi : gR → va_W → Prop} (hf : Psi (.inl (some (.int (nI (gcnt (fun p => decide (¬ sm (8 * s + p) = 0)) 8))))) (zW z0 z1 z2 z3 z4 z5 cI cB hm b1 b2 b3 b4 cd F sx pd th sm u rest)) : ∀ (m i : Nat), i + m = 8 → Go (gg D cI cB cL bb L xs) mY_pagesOf (n + 1) 0 0 4 [(3, .int (nI i)), (2, .int (nI (gcnt (fun p => decide (¬ sm (8 * s + p) = 0)) i))), (0, .ref hm), (1, .int (nI s))] [] (zW z0 z1 z2 z3 z4 z5 cI cB hm b1 b2 b3 b4 cd F sx pd th sm u rest) Psi := by
  intro m
  induction m with
  | zero =>
    intro i hi
    obtain rfl : i = 8 := by omega
    refine go_iload_n (pc := 4) 3 0 rfl rfl eY_pagesOf_4 ?_
    refine go_bipush (pc := 5) (v := 8) (by decide) eY_pagesOf_5 ?_
    refine go_icmp_ge (pc := 7) 38 (by decide) eY_pagesOf_7 (fun c7 => ?_) (fun c7 => ?_)
    · refine go_iload_n (pc := 38) 2 1 rfl rfl eY_pagesOf_38 ?_
      exact go_iret (pc := 39) rfl rfl eY_pagesOf_39 (hf)
    · exact absurd (show (8 : Int32) ≤ nI 8 by decide) c7
  | succ m ih =>
    intro i hi
    refine go_iload_n (pc := 4) 3 0 rfl rfl eY_pagesOf_4 ?_
    refine go_bipush (pc := 5) (v := 8) (by decide) eY_pagesOf_5 ?_
    refine go_icmp_ge (pc := 7) 38 (by decide) eY_pagesOf_7 (fun c7 => ?_) (fun c7 => ?_)
    · exact absurd c7 (nI_ge (b := 8) (by omega) (by omega))
    · refine go_aload_n (pc := 10) 0 2 rfl rfl eY_pagesOf_10 ?_
      refine go_get (pc := 11) hwY 6 rfl rfl 5 (by decide) lkY_16 rfl eY_pagesOf_11 ?_
      refine go_iconst (pc := 14) (v := 0) (by decide) eY_pagesOf_14 ?_
      refine go_iload_n (pc := 15) 1 3 rfl rfl eY_pagesOf_15 ?_
      refine go_iload_n (pc := 16) 3 0 rfl rfl eY_pagesOf_16 ?_
      refine go_rS (pc := 17) (d_page0 s i) okY_page lmY_34 eY_pagesOf_17 rfl rfl (Nat.le_of_ble_eq_true rfl) (Nat.le_of_ble_eq_true rfl) ?_
      refine go_ialdN (pc := 20) 9 0 (8 * s + i) eY_pagesOf_20 rfl rfl (rfl) (by omega) (by omega) ?_
      refine go_if_le (pc := 21) 30 (by decide) eY_pagesOf_21 (fun c21 => ?_) (fun c21 => ?_)
      · have e9 : gcnt (fun p => decide (¬ sm (8 * s + p) = 0)) (i + 1) = gcnt (fun p => decide (¬ sm (8 * s + p) = 0)) i := gcnt_n (decide_eq_false (fun z => z ((nI_lz (by have := hsm (8 * s + i); omega)).mp c21)))
        rw [← e9]
        refine go_iload_n (pc := 30) 2 1 rfl rfl eY_pagesOf_30 ?_
        refine go_istore_n (pc := 31) (ls' := [(2, _), (3, _), (0, _), (1, _)]) 2 rfl (by decide) eY_pagesOf_31 rfl ?_
        refine go_iinc (pc := 32) (z := 1) (v := nI (i + 1)) (ls' := [(3, _), (2, _), (0, _), (1, _)]) 3 1 rfl (nI_1 i) (by decide) eY_pagesOf_32 rfl ?_
        refine go_goto (pc := 35) 4 (by decide) eY_pagesOf_35 ?_
        exact ih (i + 1) (by omega)
      · have e9 : gcnt (fun p => decide (¬ sm (8 * s + p) = 0)) (i + 1) = gcnt (fun p => decide (¬ sm (8 * s + p) = 0)) i + 1 := gcnt_s (decide_eq_true (fun z => c21 ((nI_lz (by have := hsm (8 * s + i); omega)).mpr z)))
        refine go_iload_n (pc := 24) 2 1 rfl rfl eY_pagesOf_24 ?_
        refine go_iconst (pc := 25) (v := 1) (by decide) eY_pagesOf_25 ?_
        refine go_iadd (pc := 26) eY_pagesOf_26 ?_
        rw [nI_1, ← e9]
        refine go_goto (pc := 27) 31 (by decide) eY_pagesOf_27 ?_
        refine go_istore_n (pc := 31) (ls' := [(2, _), (3, _), (0, _), (1, _)]) 2 rfl (by decide) eY_pagesOf_31 rfl ?_
        refine go_iinc (pc := 32) (z := 1) (v := nI (i + 1)) (ls' := [(3, _), (2, _), (0, _), (1, _)]) 3 1 rfl (nI_1 i) (by decide) eY_pagesOf_32 rfl ?_
        refine go_goto (pc := 35) 4 (by decide) eY_pagesOf_35 ?_
        exact ih (i + 1) (by omega)
set_option maxRecDepth 100000 in
set_option maxHeartbeats 1000000 in
theorem d_pagesOf (hsm : ∀ k, sm k < 2 ^ 30) (s : Nat) (hs : s < 6) : Ret (gg D cI cB cL bb L xs) mY_pagesOf (n + 1) 0 0 [.ref hm, .int (nI s)] (zW z0 z1 z2 z3 z4 z5 cI cB hm b1 b2 b3 b4 cd F sx pd th sm u rest) (some (.int (nI (gcnt (fun p => decide (¬ sm (8 * s + p) = 0)) 8)))) (zW z0 z1 z2 z3 z4 z5 cI cB hm b1 b2 b3 b4 cd F sx pd th sm u rest) := by
  intro Psi hf
  show Go _ _ _ _ _ 0 [(0, .ref hm), (1, .int (nI s))] [] _ Psi
  refine go_iconst (pc := 0) (v := 0) (by decide) eY_pagesOf_0 ?_
  refine go_istore_n (pc := 1) (ls' := [(2, _), (0, _), (1, _)]) 2 rfl (by decide) eY_pagesOf_1 rfl ?_
  refine go_iconst (pc := 2) (v := 0) (by decide) eY_pagesOf_2 ?_
  refine go_istore_n (pc := 3) (ls' := [(3, _), (2, _), (0, _), (1, _)]) 3 rfl (by decide) eY_pagesOf_3 rfl ?_
  refine go_ls [0, 1, 2, 3] rfl ?_
  exact k_pagesOf hsm s hs hf 8 0 (by omega)
set_option maxRecDepth 100000 in
set_option maxHeartbeats 1000000 in
theorem k_freeA (j : Nat) (hj : j < 6) (hj0 : th j = false) (hlt : ∀ q, q < j → th q = true) {Psi : gR → va_W → Prop} (hf : Psi (.inl (some (.int (nI j)))) (zW z0 z1 z2 z3 z4 z5 cI cB hm b1 b2 b3 b4 cd F sx pd th sm u rest)) : ∀ (m i : Nat), i + m = j → Go (gg D cI cB cL bb L xs) mY_free n 0 0 2 [(1, .int (nI i)), (0, .ref hm)] [] (zW z0 z1 z2 z3 z4 z5 cI cB hm b1 b2 b3 b4 cd F sx pd th sm u rest) Psi := by
  intro m
  induction m with
  | zero =>
    intro i hi
    obtain rfl : i = j := by omega
    refine go_iload_n (pc := 2) 1 0 rfl rfl eY_free_2 ?_
    refine go_bipush (pc := 3) (v := 6) (by decide) eY_free_3 ?_
    refine go_icmp_ge (pc := 5) 23 (by decide) eY_free_5 (fun c5 => ?_) (fun c5 => ?_)
    · exact absurd c5 (nI_ge (b := 6) (by omega) (by omega))
    · refine go_aload_n (pc := 8) 0 1 rfl rfl eY_free_8 ?_
      refine go_get (pc := 9) hwY 6 rfl rfl 4 (by decide) lkY_13 rfl eY_free_9 ?_
      refine go_iload_n (pc := 12) 1 0 rfl rfl eY_free_12 ?_
      refine go_zaldN (pc := 13) 8 1 (i) eY_free_13 rfl rfl (rfl) (by omega) (by omega) ?_
      refine go_if_eq (pc := 14) 23 (by decide) eY_free_14 (fun c14 => ?_) (fun c14 => ?_)
      · refine go_iload_n (pc := 23) 1 0 rfl rfl eY_free_23 ?_
        refine go_bipush (pc := 24) (v := 6) (by decide) eY_free_24 ?_
        refine go_icmp_ge (pc := 26) 33 (by decide) eY_free_26 (fun c26 => ?_) (fun c26 => ?_)
        · exact absurd c26 (nI_ge (b := 6) (by omega) (by omega))
        · refine go_iload_n (pc := 29) 1 0 rfl rfl eY_free_29 ?_
          refine go_goto (pc := 30) 34 (by decide) eY_free_30 ?_
          exact go_iret (pc := 34) rfl rfl eY_free_34 (hf)
      · exact absurd (bI0.mpr hj0) c14
  | succ m ih =>
    intro i hi
    refine go_iload_n (pc := 2) 1 0 rfl rfl eY_free_2 ?_
    refine go_bipush (pc := 3) (v := 6) (by decide) eY_free_3 ?_
    refine go_icmp_ge (pc := 5) 23 (by decide) eY_free_5 (fun c5 => ?_) (fun c5 => ?_)
    · exact absurd c5 (nI_ge (b := 6) (by omega) (by omega))
    · refine go_aload_n (pc := 8) 0 1 rfl rfl eY_free_8 ?_
      refine go_get (pc := 9) hwY 6 rfl rfl 4 (by decide) lkY_13 rfl eY_free_9 ?_
      refine go_iload_n (pc := 12) 1 0 rfl rfl eY_free_12 ?_
      refine go_zaldN (pc := 13) 8 1 (i) eY_free_13 rfl rfl (rfl) (by omega) (by omega) ?_
      refine go_if_eq (pc := 14) 23 (by decide) eY_free_14 (fun c14 => ?_) (fun c14 => ?_)
      · exact absurd (bI0.mp c14) (by rw [hlt i (by omega)]; decide)
      · refine go_iinc (pc := 17) (z := 1) (v := nI (i + 1)) (ls' := [(1, _), (0, _)]) 1 0 rfl (nI_1 i) (by decide) eY_free_17 rfl ?_
        refine go_goto (pc := 20) 2 (by decide) eY_free_20 ?_
        exact ih (i + 1) (by omega)
set_option maxRecDepth 100000 in
set_option maxHeartbeats 1000000 in
theorem d_freeA (j : Nat) (hj : j < 6) (hj0 : th j = false) (hlt : ∀ q, q < j → th q = true) : Ret (gg D cI cB cL bb L xs) mY_free n 0 0 [.ref hm] (zW z0 z1 z2 z3 z4 z5 cI cB hm b1 b2 b3 b4 cd F sx pd th sm u rest) (some (.int (nI j))) (zW z0 z1 z2 z3 z4 z5 cI cB hm b1 b2 b3 b4 cd F sx pd th sm u rest) := by
  intro Psi hf
  show Go _ _ _ _ _ 0 [(0, .ref hm)] [] _ Psi
  refine go_iconst (pc := 0) (v := 0) (by decide) eY_free_0 ?_
  refine go_istore_n (pc := 1) (ls' := [(1, _), (0, _)]) 1 rfl (by decide) eY_free_1 rfl ?_
  exact k_freeA j hj hj0 hlt hf j 0 (by omega)
set_option maxRecDepth 100000 in
set_option maxHeartbeats 1000000 in
theorem k_freeB (hlt : ∀ q, q < 6 → th q = true) {Psi : gR → va_W → Prop} (hf : Psi (.inl (some (.int (-1)))) (zW z0 z1 z2 z3 z4 z5 cI cB hm b1 b2 b3 b4 cd F sx pd th sm u rest)) : ∀ (m i : Nat), i + m = 6 → Go (gg D cI cB cL bb L xs) mY_free n 0 0 2 [(1, .int (nI i)), (0, .ref hm)] [] (zW z0 z1 z2 z3 z4 z5 cI cB hm b1 b2 b3 b4 cd F sx pd th sm u rest) Psi := by
  intro m
  induction m with
  | zero =>
    intro i hi
    obtain rfl : i = 6 := by omega
    refine go_iload_n (pc := 2) 1 0 rfl rfl eY_free_2 ?_
    refine go_bipush (pc := 3) (v := 6) (by decide) eY_free_3 ?_
    refine go_icmp_ge (pc := 5) 23 (by decide) eY_free_5 (fun c5 => ?_) (fun c5 => ?_)
    · refine go_iload_n (pc := 23) 1 0 rfl rfl eY_free_23 ?_
      refine go_bipush (pc := 24) (v := 6) (by decide) eY_free_24 ?_
      refine go_icmp_ge (pc := 26) 33 (by decide) eY_free_26 (fun c26 => ?_) (fun c26 => ?_)
      · refine go_iconst (pc := 33) (v := (-1)) (by decide) eY_free_33 ?_
        exact go_iret (pc := 34) rfl rfl eY_free_34 (hf)
      · exact absurd (show (6 : Int32) ≤ nI 6 by decide) c26
    · exact absurd (show (6 : Int32) ≤ nI 6 by decide) c5
  | succ m ih =>
    intro i hi
    refine go_iload_n (pc := 2) 1 0 rfl rfl eY_free_2 ?_
    refine go_bipush (pc := 3) (v := 6) (by decide) eY_free_3 ?_
    refine go_icmp_ge (pc := 5) 23 (by decide) eY_free_5 (fun c5 => ?_) (fun c5 => ?_)
    · exact absurd c5 (nI_ge (b := 6) (by omega) (by omega))
    · refine go_aload_n (pc := 8) 0 1 rfl rfl eY_free_8 ?_
      refine go_get (pc := 9) hwY 6 rfl rfl 4 (by decide) lkY_13 rfl eY_free_9 ?_
      refine go_iload_n (pc := 12) 1 0 rfl rfl eY_free_12 ?_
      refine go_zaldN (pc := 13) 8 1 (i) eY_free_13 rfl rfl (rfl) (by omega) (by omega) ?_
      refine go_if_eq (pc := 14) 23 (by decide) eY_free_14 (fun c14 => ?_) (fun c14 => ?_)
      · exact absurd (bI0.mp c14) (by rw [hlt i (by omega)]; decide)
      · refine go_iinc (pc := 17) (z := 1) (v := nI (i + 1)) (ls' := [(1, _), (0, _)]) 1 0 rfl (nI_1 i) (by decide) eY_free_17 rfl ?_
        refine go_goto (pc := 20) 2 (by decide) eY_free_20 ?_
        exact ih (i + 1) (by omega)
set_option maxRecDepth 100000 in
set_option maxHeartbeats 1000000 in
theorem d_freeB (hlt : ∀ q, q < 6 → th q = true) : Ret (gg D cI cB cL bb L xs) mY_free n 0 0 [.ref hm] (zW z0 z1 z2 z3 z4 z5 cI cB hm b1 b2 b3 b4 cd F sx pd th sm u rest) (some (.int (-1))) (zW z0 z1 z2 z3 z4 z5 cI cB hm b1 b2 b3 b4 cd F sx pd th sm u rest) := by
  intro Psi hf
  show Go _ _ _ _ _ 0 [(0, .ref hm)] [] _ Psi
  refine go_iconst (pc := 0) (v := 0) (by decide) eY_free_0 ?_
  refine go_istore_n (pc := 1) (ls' := [(1, _), (0, _)]) 1 rfl (by decide) eY_free_1 rfl ?_
  exact k_freeB hlt hf 6 0 (by omega)
set_option maxRecDepth 100000 in
set_option maxHeartbeats 1000000 in
theorem k_cp (f t : Nat) (hf0 : f < 432) (ht0 : t < 432) {Psi : gR → va_W → Prop} (hf : Psi (.inl none) (zW z0 z1 z2 z3 z4 z5 cI cB hm b1 b2 b3 b4 cd F sx pd th sm (va_cpy u u (16 * f) (16 * t) 16) rest)) : ∀ (m i : Nat), i + m = 16 → Go (gg D cI cB cL bb L xs) mY_copyPage n 0 0 14 [(3, .int (nI i)), (0, .ref hm), (1, .int (nI f)), (2, .int (nI t))] [] (zW z0 z1 z2 z3 z4 z5 cI cB hm b1 b2 b3 b4 cd F sx pd th sm (va_cpy u u (16 * f) (16 * t) i) rest) Psi := by
  intro m
  induction m with
  | zero =>
    intro i hi
    obtain rfl : i = 16 := by omega
    refine go_iload_n (pc := 14) 3 0 rfl rfl eY_copyPage_14 ?_
    refine go_bipush (pc := 15) (v := 16) (by decide) eY_copyPage_15 ?_
    refine go_icmp_ge (pc := 17) 48 (by decide) eY_copyPage_17 (fun c17 => ?_) (fun c17 => ?_)
    · exact go_vret (pc := 48) rfl eY_copyPage_48 (hf)
    · exact absurd (show (16 : Int32) ≤ nI 16 by decide) c17
  | succ m ih =>
    intro i hi
    refine go_iload_n (pc := 14) 3 0 rfl rfl eY_copyPage_14 ?_
    refine go_bipush (pc := 15) (v := 16) (by decide) eY_copyPage_15 ?_
    refine go_icmp_ge (pc := 17) 48 (by decide) eY_copyPage_17 (fun c17 => ?_) (fun c17 => ?_)
    · exact absurd c17 (nI_ge (b := 16) (by omega) (by omega))
    · refine go_aload_n (pc := 20) 0 1 rfl rfl eY_copyPage_20 ?_
      refine go_get (pc := 21) hwY 6 rfl rfl 6 (by decide) lkY_20 rfl eY_copyPage_21 ?_
      refine go_bipush (pc := 24) (v := 16) (by decide) eY_copyPage_24 ?_
      refine go_iload_n (pc := 26) 2 3 rfl rfl eY_copyPage_26 ?_
      refine go_imul (pc := 27) eY_copyPage_27 ?_
      refine go_iload_n (pc := 28) 3 0 rfl rfl eY_copyPage_28 ?_
      refine go_iadd (pc := 29) eY_copyPage_29 ?_
      refine go_aload_n (pc := 30) 0 1 rfl rfl eY_copyPage_30 ?_
      refine go_get (pc := 31) hwY 6 rfl rfl 6 (by decide) lkY_20 rfl eY_copyPage_31 ?_
      refine go_bipush (pc := 34) (v := 16) (by decide) eY_copyPage_34 ?_
      refine go_iload_n (pc := 36) 1 2 rfl rfl eY_copyPage_36 ?_
      refine go_imul (pc := 37) eY_copyPage_37 ?_
      refine go_iload_n (pc := 38) 3 0 rfl rfl eY_copyPage_38 ?_
      refine go_iadd (pc := 39) eY_copyPage_39 ?_
      refine go_ialdN (pc := 40) 10 0 (16 * f + i) eY_copyPage_40 rfl rfl (n16 f i) (by omega) (by omega) ?_
      rw [pk_cpy_out (by omega)]
      refine go_iastN (pc := 41) (es' := (zW z0 z1 z2 z3 z4 z5 cI cB hm b1 b2 b3 b4 cd F sx pd th sm (va_cpy u u (16 * f) (16 * t) (i + 1)) rest)) 10 0 (16 * t + i) eY_copyPage_41 rfl rfl (n16 t i) (by omega) (by omega) (ys10 cpy_up) ?_
      refine go_iinc (pc := 42) (z := 1) (v := nI (i + 1)) (ls' := [(3, _), (0, _), (1, _), (2, _)]) 3 0 rfl (nI_1 i) (by decide) eY_copyPage_42 rfl ?_
      refine go_goto (pc := 45) 14 (by decide) eY_copyPage_45 ?_
      exact ih (i + 1) (by omega)
set_option maxRecDepth 100000 in
set_option maxHeartbeats 1000000 in
theorem d_cp (f t : Nat) (hf0 : f < 432) (ht0 : t < 432) : Ret (gg D cI cB cL bb L xs) mY_copyPage n 0 0 [.ref hm, .int (nI f), .int (nI t)] (zW z0 z1 z2 z3 z4 z5 cI cB hm b1 b2 b3 b4 cd F sx pd th sm u rest) none (zW z0 z1 z2 z3 z4 z5 cI cB hm b1 b2 b3 b4 cd F sx pd th (va_up sm t (sm f)) (va_cpy u u (16 * f) (16 * t) 16) rest) := by
  intro Psi hf
  show Go _ _ _ _ _ 0 [(0, .ref hm), (1, .int (nI f)), (2, .int (nI t))] [] _ Psi
  refine go_aload_n (pc := 0) 0 0 rfl rfl eY_copyPage_0 ?_
  refine go_get (pc := 1) hwY 6 rfl rfl 5 (by decide) lkY_16 rfl eY_copyPage_1 ?_
  refine go_iload_n (pc := 4) 2 2 rfl rfl eY_copyPage_4 ?_
  refine go_aload_n (pc := 5) 0 0 rfl rfl eY_copyPage_5 ?_
  refine go_get (pc := 6) hwY 6 rfl rfl 5 (by decide) lkY_16 rfl eY_copyPage_6 ?_
  refine go_iload_n (pc := 9) 1 1 rfl rfl eY_copyPage_9 ?_
  refine go_ialdN (pc := 10) 9 0 (f) eY_copyPage_10 rfl rfl (rfl) (hf0) (by omega) ?_
  refine go_iastN (pc := 11) (es' := (zW z0 z1 z2 z3 z4 z5 cI cB hm b1 b2 b3 b4 cd F sx pd th (va_up sm t (sm f)) u rest)) 9 0 t eY_copyPage_11 rfl rfl rfl ht0 (by omega) (ys9 upd_n) ?_
  refine go_iconst (pc := 12) (v := 0) (by decide) eY_copyPage_12 ?_
  refine go_istore_n (pc := 13) (ls' := [(3, _), (0, _), (1, _), (2, _)]) 3 rfl (by decide) eY_copyPage_13 rfl ?_
  refine go_es (es' := (zW z0 z1 z2 z3 z4 z5 cI cB hm b1 b2 b3 b4 cd F sx pd th (va_up sm t (sm f)) (va_cpy u u (16 * f) (16 * t) 0) rest)) (by rw [cpy_0]) ?_
  exact k_cp f t hf0 ht0 hf 16 0 (by omega)
set_option maxRecDepth 100000 in
set_option maxHeartbeats 1000000 in
theorem k_cr2 (f t : Nat) (hf0 : f < 9) (ht0 : t < 9) (hft : f ≠ t) {th' : Nat → Bool} {Psi : gR → va_W → Prop} (hf : Psi (.inl none) (zW z0 z1 z2 z3 z4 z5 cI cB hm b1 b2 b3 b4 cd F sx pd th' (va_cpy sm sm (48 * f) (48 * t) 48) (va_cpy u u (768 * f) (768 * t) (16 * 48)) rest)) : ∀ (m i : Nat), i + m = 48 → Go (gg D cI cB cL bb L xs) mY_copyRow (n + 1) 0 0 38 [(3, .int (nI i)), (0, .ref hm), (1, .int (nI f)), (2, .int (nI t))] [] (zW z0 z1 z2 z3 z4 z5 cI cB hm b1 b2 b3 b4 cd F sx pd th' (va_cpy sm sm (48 * f) (48 * t) i) (va_cpy u u (768 * f) (768 * t) (16 * i)) rest) Psi := by
  intro m
  induction m with
  | zero =>
    intro i hi
    obtain rfl : i = 48 := by omega
    refine go_iload_n (pc := 38) 3 0 rfl rfl eY_copyRow_38 ?_
    refine go_bipush (pc := 39) (v := 48) (by decide) eY_copyRow_39 ?_
    refine go_icmp_ge (pc := 41) 66 (by decide) eY_copyRow_41 (fun c41 => ?_) (fun c41 => ?_)
    · exact go_vret (pc := 66) rfl eY_copyRow_66 (hf)
    · exact absurd (show (48 : Int32) ≤ nI 48 by decide) c41
  | succ m ih =>
    intro i hi
    refine go_iload_n (pc := 38) 3 0 rfl rfl eY_copyRow_38 ?_
    refine go_bipush (pc := 39) (v := 48) (by decide) eY_copyRow_39 ?_
    refine go_icmp_ge (pc := 41) 66 (by decide) eY_copyRow_41 (fun c41 => ?_) (fun c41 => ?_)
    · exact absurd c41 (nI_ge (b := 48) (by omega) (by omega))
    · refine go_aload_n (pc := 44) 0 1 rfl rfl eY_copyRow_44 ?_
      refine go_bipush (pc := 45) (v := 48) (by decide) eY_copyRow_45 ?_
      refine go_iload_n (pc := 47) 1 2 rfl rfl eY_copyRow_47 ?_
      refine go_imul (pc := 48) eY_copyRow_48 ?_
      refine go_iload_n (pc := 49) 3 0 rfl rfl eY_copyRow_49 ?_
      refine go_iadd (pc := 50) eY_copyRow_50 ?_
      rw [n48]
      refine go_bipush (pc := 51) (v := 48) (by decide) eY_copyRow_51 ?_
      refine go_iload_n (pc := 53) 2 3 rfl rfl eY_copyRow_53 ?_
      refine go_imul (pc := 54) eY_copyRow_54 ?_
      refine go_iload_n (pc := 55) 3 0 rfl rfl eY_copyRow_55 ?_
      refine go_iadd (pc := 56) eY_copyRow_56 ?_
      rw [n48]
      refine go_rV0 (pc := 57) 6 (d_cp (48 * f + i) (48 * t + i) (by omega) (by omega)) okY_copyPage lmY_30 eY_copyRow_57 rfl rfl rfl rfl rfl (Nat.le_of_ble_eq_true rfl) (Nat.le_of_ble_eq_true rfl) ?_
      rw [pk_cpy_out (show _ from by omega), cpy_up, show 16 * (48 * f + i) = 768 * f + 16 * i from by omega, show 16 * (48 * t + i) = 768 * t + 16 * i from by omega, cpy_blk (by omega) (by omega)]
      refine go_iinc (pc := 60) (z := 1) (v := nI (i + 1)) (ls' := [(3, _), (0, _), (1, _), (2, _)]) 3 0 rfl (nI_1 i) (by decide) eY_copyRow_60 rfl ?_
      refine go_goto (pc := 63) 38 (by decide) eY_copyRow_63 ?_
      exact ih (i + 1) (by omega)
set_option maxRecDepth 100000 in
set_option maxHeartbeats 1000000 in
theorem k_cr1 (f t : Nat) (hf0 : f < 9) (ht0 : t < 9) (hft : f ≠ t) {Psi : gR → va_W → Prop} (hf : Psi (.inl none) (zW z0 z1 z2 z3 z4 z5 cI cB hm b1 b2 b3 b4 cd F sx pd (va_cpy th th (6 * f) (6 * t) 6) (va_cpy sm sm (48 * f) (48 * t) 48) (va_cpy u u (768 * f) (768 * t) (16 * 48)) rest)) : ∀ (m i : Nat), i + m = 6 → Go (gg D cI cB cL bb L xs) mY_copyRow (n + 1) 0 0 2 [(3, .int (nI i)), (0, .ref hm), (1, .int (nI f)), (2, .int (nI t))] [] (zW z0 z1 z2 z3 z4 z5 cI cB hm b1 b2 b3 b4 cd F sx pd (va_cpy th th (6 * f) (6 * t) i) sm u rest) Psi := by
  intro m
  induction m with
  | zero =>
    intro i hi
    obtain rfl : i = 6 := by omega
    refine go_iload_n (pc := 2) 3 0 rfl rfl eY_copyRow_2 ?_
    refine go_bipush (pc := 3) (v := 6) (by decide) eY_copyRow_3 ?_
    refine go_icmp_ge (pc := 5) 36 (by decide) eY_copyRow_5 (fun c5 => ?_) (fun c5 => ?_)
    · refine go_iconst (pc := 36) (v := 0) (by decide) eY_copyRow_36 ?_
      refine go_istore_n (pc := 37) (ls' := [(3, _), (0, _), (1, _), (2, _)]) 3 rfl (by decide) eY_copyRow_37 rfl ?_
      refine go_es (es' := (zW z0 z1 z2 z3 z4 z5 cI cB hm b1 b2 b3 b4 cd F sx pd (va_cpy th th (6 * f) (6 * t) 6) (va_cpy sm sm (48 * f) (48 * t) 0) (va_cpy u u (768 * f) (768 * t) (16 * 0)) rest)) (by rw [cpy_0, show 16 * 0 = 0 from rfl, cpy_0]) ?_
      exact k_cr2 f t hf0 ht0 hft hf 48 0 (by omega)
    · exact absurd (show (6 : Int32) ≤ nI 6 by decide) c5
  | succ m ih =>
    intro i hi
    refine go_iload_n (pc := 2) 3 0 rfl rfl eY_copyRow_2 ?_
    refine go_bipush (pc := 3) (v := 6) (by decide) eY_copyRow_3 ?_
    refine go_icmp_ge (pc := 5) 36 (by decide) eY_copyRow_5 (fun c5 => ?_) (fun c5 => ?_)
    · exact absurd c5 (nI_ge (b := 6) (by omega) (by omega))
    · refine go_aload_n (pc := 8) 0 1 rfl rfl eY_copyRow_8 ?_
      refine go_get (pc := 9) hwY 6 rfl rfl 4 (by decide) lkY_13 rfl eY_copyRow_9 ?_
      refine go_bipush (pc := 12) (v := 6) (by decide) eY_copyRow_12 ?_
      refine go_iload_n (pc := 14) 2 3 rfl rfl eY_copyRow_14 ?_
      refine go_imul (pc := 15) eY_copyRow_15 ?_
      refine go_iload_n (pc := 16) 3 0 rfl rfl eY_copyRow_16 ?_
      refine go_iadd (pc := 17) eY_copyRow_17 ?_
      rw [n6]
      refine go_aload_n (pc := 18) 0 1 rfl rfl eY_copyRow_18 ?_
      refine go_get (pc := 19) hwY 6 rfl rfl 4 (by decide) lkY_13 rfl eY_copyRow_19 ?_
      refine go_bipush (pc := 22) (v := 6) (by decide) eY_copyRow_22 ?_
      refine go_iload_n (pc := 24) 1 2 rfl rfl eY_copyRow_24 ?_
      refine go_imul (pc := 25) eY_copyRow_25 ?_
      refine go_iload_n (pc := 26) 3 0 rfl rfl eY_copyRow_26 ?_
      refine go_iadd (pc := 27) eY_copyRow_27 ?_
      refine go_zaldN (pc := 28) 8 1 (6 * f + i) eY_copyRow_28 rfl rfl (n6 f i) (by omega) (by omega) ?_
      rw [pk_cpy_out (by omega)]
      refine go_zastN (pc := 29) (es' := (zW z0 z1 z2 z3 z4 z5 cI cB hm b1 b2 b3 b4 cd F sx pd (va_cpy th th (6 * f) (6 * t) (i + 1)) sm u rest)) 8 1 (6 * t + i) eY_copyRow_29 rfl rfl rfl (by omega) (by omega) (ys8 ((upd_b rfl).trans (by rw [cpy_up]))) ?_
      refine go_iinc (pc := 30) (z := 1) (v := nI (i + 1)) (ls' := [(3, _), (0, _), (1, _), (2, _)]) 3 0 rfl (nI_1 i) (by decide) eY_copyRow_30 rfl ?_
      refine go_goto (pc := 33) 2 (by decide) eY_copyRow_33 ?_
      exact ih (i + 1) (by omega)
set_option maxRecDepth 100000 in
set_option maxHeartbeats 1000000 in
theorem d_cr (f t : Nat) (hf0 : f < 9) (ht0 : t < 9) (hft : f ≠ t) : Ret (gg D cI cB cL bb L xs) mY_copyRow (n + 1) 0 0 [.ref hm, .int (nI f), .int (nI t)] (zW z0 z1 z2 z3 z4 z5 cI cB hm b1 b2 b3 b4 cd F sx pd th sm u rest) none (zW z0 z1 z2 z3 z4 z5 cI cB hm b1 b2 b3 b4 cd F sx pd (va_cpy th th (6 * f) (6 * t) 6) (va_cpy sm sm (48 * f) (48 * t) 48) (va_cpy u u (768 * f) (768 * t) (16 * 48)) rest) := by
  intro Psi hf
  show Go _ _ _ _ _ 0 [(0, .ref hm), (1, .int (nI f)), (2, .int (nI t))] [] _ Psi
  refine go_iconst (pc := 0) (v := 0) (by decide) eY_copyRow_0 ?_
  refine go_istore_n (pc := 1) (ls' := [(3, _), (0, _), (1, _), (2, _)]) 3 rfl (by decide) eY_copyRow_1 rfl ?_
  refine go_es (es' := (zW z0 z1 z2 z3 z4 z5 cI cB hm b1 b2 b3 b4 cd F sx pd (va_cpy th th (6 * f) (6 * t) 0) sm u rest)) (by rw [cpy_0]) ?_
  exact k_cr1 f t hf0 ht0 hft hf 6 0 (by omega)
set_option maxRecDepth 100000 in
set_option maxHeartbeats 1000000 in
theorem k_em (r s : Nat) (hr : r < 9) (hs : s < 6) {Psi : gR → va_W → Prop} (hf : Psi (.inl none) (zW z0 z1 z2 z3 z4 z5 cI cB hm b1 b2 b3 b4 cd F sx pd th (va_cpy (fun _ => 0) sm 0 (8 * (6 * r + s)) 8) u rest)) : ∀ (m i : Nat), i + m = 8 → Go (gg D cI cB cL bb L xs) mY_empty (n + 1) 0 0 14 [(3, .int (nI i)), (0, .ref hm), (1, .int (nI r)), (2, .int (nI s))] [] (zW z0 z1 z2 z3 z4 z5 cI cB hm b1 b2 b3 b4 cd F sx pd th (va_cpy (fun _ => 0) sm 0 (8 * (6 * r + s)) i) u rest) Psi := by
  intro m
  induction m with
  | zero =>
    intro i hi
    obtain rfl : i = 8 := by omega
    refine go_iload_n (pc := 14) 3 0 rfl rfl eY_empty_14 ?_
    refine go_bipush (pc := 15) (v := 8) (by decide) eY_empty_15 ?_
    refine go_icmp_ge (pc := 17) 38 (by decide) eY_empty_17 (fun c17 => ?_) (fun c17 => ?_)
    · exact go_vret (pc := 38) rfl eY_empty_38 (hf)
    · exact absurd (show (8 : Int32) ≤ nI 8 by decide) c17
  | succ m ih =>
    intro i hi
    refine go_iload_n (pc := 14) 3 0 rfl rfl eY_empty_14 ?_
    refine go_bipush (pc := 15) (v := 8) (by decide) eY_empty_15 ?_
    refine go_icmp_ge (pc := 17) 38 (by decide) eY_empty_17 (fun c17 => ?_) (fun c17 => ?_)
    · exact absurd c17 (nI_ge (b := 8) (by omega) (by omega))
    · refine go_aload_n (pc := 20) 0 1 rfl rfl eY_empty_20 ?_
      refine go_get (pc := 21) hwY 6 rfl rfl 5 (by decide) lkY_16 rfl eY_empty_21 ?_
      refine go_iload_n (pc := 24) 1 2 rfl rfl eY_empty_24 ?_
      refine go_iload_n (pc := 25) 2 3 rfl rfl eY_empty_25 ?_
      refine go_iload_n (pc := 26) 3 0 rfl rfl eY_empty_26 ?_
      refine go_rS (pc := 27) (d_page r s i) okY_page lmY_34 eY_empty_27 rfl rfl (Nat.le_of_ble_eq_true rfl) (Nat.le_of_ble_eq_true rfl) ?_
      refine go_iconst (pc := 30) (v := 0) (by decide) eY_empty_30 ?_
      refine go_iastN (pc := 31) (es' := (zW z0 z1 z2 z3 z4 z5 cI cB hm b1 b2 b3 b4 cd F sx pd th (va_cpy (fun _ => 0) sm 0 (8 * (6 * r + s)) (i + 1)) u rest)) 9 0 (8 * (6 * r + s) + i) eY_empty_31 rfl rfl rfl (by omega) (by omega) (ys9 ((upd_n (x := 0)).trans (by rw [← cpy_up]))) ?_
      refine go_iinc (pc := 32) (z := 1) (v := nI (i + 1)) (ls' := [(3, _), (0, _), (1, _), (2, _)]) 3 0 rfl (nI_1 i) (by decide) eY_empty_32 rfl ?_
      refine go_goto (pc := 35) 14 (by decide) eY_empty_35 ?_
      exact ih (i + 1) (by omega)
set_option maxRecDepth 100000 in
set_option maxHeartbeats 1000000 in
theorem d_em (r s : Nat) (hr : r < 9) (hs : s < 6) : Ret (gg D cI cB cL bb L xs) mY_empty (n + 1) 0 0 [.ref hm, .int (nI r), .int (nI s)] (zW z0 z1 z2 z3 z4 z5 cI cB hm b1 b2 b3 b4 cd F sx pd th sm u rest) none (zW z0 z1 z2 z3 z4 z5 cI cB hm b1 b2 b3 b4 cd F sx pd (va_up th (6 * r + s) false) (va_cpy (fun _ => 0) sm 0 (8 * (6 * r + s)) 8) u rest) := by
  intro Psi hf
  show Go _ _ _ _ _ 0 [(0, .ref hm), (1, .int (nI r)), (2, .int (nI s))] [] _ Psi
  refine go_aload_n (pc := 0) 0 0 rfl rfl eY_empty_0 ?_
  refine go_get (pc := 1) hwY 6 rfl rfl 4 (by decide) lkY_13 rfl eY_empty_1 ?_
  refine go_bipush (pc := 4) (v := 6) (by decide) eY_empty_4 ?_
  refine go_iload_n (pc := 6) 1 1 rfl rfl eY_empty_6 ?_
  refine go_imul (pc := 7) eY_empty_7 ?_
  refine go_iload_n (pc := 8) 2 2 rfl rfl eY_empty_8 ?_
  refine go_iadd (pc := 9) eY_empty_9 ?_
  rw [n6]
  refine go_iconst (pc := 10) (v := 0) (by decide) eY_empty_10 ?_
  refine go_zastN (pc := 11) (es' := (zW z0 z1 z2 z3 z4 z5 cI cB hm b1 b2 b3 b4 cd F sx pd (va_up th (6 * r + s) false) sm u rest)) 8 1 (6 * r + s) eY_empty_11 rfl rfl rfl (by omega) (by omega) (ys8 (upd_b (b := false) rfl)) ?_
  refine go_iconst (pc := 12) (v := 0) (by decide) eY_empty_12 ?_
  refine go_istore_n (pc := 13) (ls' := [(3, _), (0, _), (1, _), (2, _)]) 3 rfl (by decide) eY_empty_13 rfl ?_
  refine go_es (es' := (zW z0 z1 z2 z3 z4 z5 cI cB hm b1 b2 b3 b4 cd F sx pd (va_up th (6 * r + s) false) (va_cpy (fun _ => 0) sm 0 (8 * (6 * r + s)) 0) u rest)) (by rw [cpy_0]) ?_
  exact k_em r s hr hs hf 8 0 (by omega)
end Sya
end
section
section Syb
variable {D : va_G} {cI cB cL : ClassId} {bb L : Nat} {xs : Nat → Int32} {n hm b1 b2 b3 b4 F sx : Nat} {cd : Int32} {pd th : Nat → Bool} {sm : Nat → Nat} {u : Nat → Int32} {z0 z1 z2 z3 z4 z5 : Nat × va_E} {rest es : va_W}
set_option maxRecDepth 100000 in
set_option maxHeartbeats 1000000 in
theorem d_open1 (j : Nat) (hj : j < 6) (hj0 : th j = false) (hlt : ∀ q, q < j → th q = true) : Ret (gg D cI cB cL bb L xs) mY_open (n + 1) 0 0 [.ref hm] (zW z0 z1 z2 z3 z4 z5 cI cB hm b1 b2 b3 b4 cd F sx pd th sm u rest) (some (.int (nI j))) (zW z0 z1 z2 z3 z4 z5 cI cB hm b1 b2 b3 b4 0 F sx pd (va_up th j true) sm u rest) := by
  intro Psi hf
  show Go _ _ _ _ _ 0 [(0, .ref hm)] [] _ Psi
  refine go_aload_n (pc := 0) 0 0 rfl rfl eY_open_0 ?_
  refine go_iconst (pc := 1) (v := 0) (by decide) eY_open_1 ?_
  refine go_put (pc := 2) (ty := .int) (es' := (zW z0 z1 z2 z3 z4 z5 cI cB hm b1 b2 b3 b4 0 F sx pd th sm u rest)) hwY tyY tyY_ok nmY 6 rfl rfl 0 (by decide) lkY_27 rfl (by decide +kernel) rfl rfl (Nat.le_of_ble_eq_true rfl) eY_open_2 rfl ?_
  refine go_aload_n (pc := 5) 0 0 rfl rfl eY_open_5 ?_
  refine go_rV (pc := 6) 6 (d_freeA j hj hj0 hlt) okY_free lmY_38 eY_open_6 rfl rfl rfl rfl rfl (Nat.le_of_ble_eq_true rfl) (Nat.le_of_ble_eq_true rfl) ?_
  refine go_istore_n (pc := 9) (ls' := [(1, _), (0, _)]) 1 rfl (by decide) eY_open_9 rfl ?_
  refine go_iload_n (pc := 10) 1 0 rfl rfl eY_open_10 ?_
  refine go_if_lt (pc := 11) 21 (by decide) eY_open_11 (fun c11 => ?_) (fun c11 => ?_)
  · exact absurd c11 (nI_pos (by omega))
  · refine go_aload_n (pc := 14) 0 1 rfl rfl eY_open_14 ?_
    refine go_get (pc := 15) hwY 6 rfl rfl 4 (by decide) lkY_13 rfl eY_open_15 ?_
    refine go_iload_n (pc := 18) 1 0 rfl rfl eY_open_18 ?_
    refine go_iconst (pc := 19) (v := 1) (by decide) eY_open_19 ?_
    refine go_zastN (pc := 20) (es' := (zW z0 z1 z2 z3 z4 z5 cI cB hm b1 b2 b3 b4 0 F sx pd (va_up th j true) sm u rest)) 8 1 j eY_open_20 rfl rfl rfl (by omega) (by omega) (ys8 (upd_b (b := true) rfl)) ?_
    refine go_iload_n (pc := 21) 1 0 rfl rfl eY_open_21 ?_
    exact go_iret (pc := 22) rfl rfl eY_open_22 (hf)
set_option maxRecDepth 100000 in
set_option maxHeartbeats 1000000 in
theorem d_open0 (hlt : ∀ q, q < 6 → th q = true) : Ret (gg D cI cB cL bb L xs) mY_open (n + 1) 0 0 [.ref hm] (zW z0 z1 z2 z3 z4 z5 cI cB hm b1 b2 b3 b4 cd F sx pd th sm u rest) (some (.int (-1))) (zW z0 z1 z2 z3 z4 z5 cI cB hm b1 b2 b3 b4 0 F sx pd th sm u rest) := by
  intro Psi hf
  show Go _ _ _ _ _ 0 [(0, .ref hm)] [] _ Psi
  refine go_aload_n (pc := 0) 0 0 rfl rfl eY_open_0 ?_
  refine go_iconst (pc := 1) (v := 0) (by decide) eY_open_1 ?_
  refine go_put (pc := 2) (ty := .int) (es' := (zW z0 z1 z2 z3 z4 z5 cI cB hm b1 b2 b3 b4 0 F sx pd th sm u rest)) hwY tyY tyY_ok nmY 6 rfl rfl 0 (by decide) lkY_27 rfl (by decide +kernel) rfl rfl (Nat.le_of_ble_eq_true rfl) eY_open_2 rfl ?_
  refine go_aload_n (pc := 5) 0 0 rfl rfl eY_open_5 ?_
  refine go_rV (pc := 6) 6 (d_freeB hlt) okY_free lmY_38 eY_open_6 rfl rfl rfl rfl rfl (Nat.le_of_ble_eq_true rfl) (Nat.le_of_ble_eq_true rfl) ?_
  refine go_istore_n (pc := 9) (ls' := [(1, _), (0, _)]) 1 rfl (by decide) eY_open_9 rfl ?_
  refine go_iload_n (pc := 10) 1 0 rfl rfl eY_open_10 ?_
  refine go_if_lt (pc := 11) 21 (by decide) eY_open_11 (fun c11 => ?_) (fun c11 => ?_)
  · refine go_iload_n (pc := 21) 1 0 rfl rfl eY_open_21 ?_
    exact go_iret (pc := 22) rfl rfl eY_open_22 (hf)
  · exact absurd c11 (by decide)
theorem cpy_blk8 {α : Type} {f : Nat → α} {s d w i : Nat} (h : s + w * 8 ≤ d ∨ d + w * 8 ≤ s) (hi : i < 8) : va_cpy (va_cpy f f s d (w * i)) (va_cpy f f s d (w * i)) (s + w * i) (d + w * i) w = va_cpy f f s d (w * (i + 1)) := by
  have h2 : w * i + w ≤ w * 8 := by
    have : w * i + w = w * (i + 1) := rfl
    rw [this]; exact Nat.mul_le_mul_left w (by omega)
  have h3 : w * (i + 1) = w * i + w := rfl
  rw [h3]
  generalize w * i = v at *
  generalize w * 8 = w8 at *
  funext q
  simp only [va_cpy]
  by_cases y : d + v ≤ q ∧ q < d + v + w
  · rw [if_pos y, if_neg (by omega), if_pos (by omega)]
    congr 1
    omega
  · rw [if_neg y]
    by_cases z : d ≤ q ∧ q < d + v
    · rw [if_pos z, if_pos (by omega)]
    · rw [if_neg z, if_neg (by omega)]
set_option maxRecDepth 100000 in
set_option maxHeartbeats 1000000 in
theorem k_fork (s j : Nat) (hs : s < 6) (hj : j < 6) (hsj : s ≠ j) {Psi : gR → va_W → Prop} (hf : Psi (.inl (some (.int (nI j)))) (zW z0 z1 z2 z3 z4 z5 cI cB hm b1 b2 b3 b4 cd F sx pd th (va_cpy sm sm (8 * s) (8 * j) 8) (va_cpy u u (128 * s) (128 * j) (16 * 8)) rest)) : ∀ (m i : Nat), i + m = 8 → Go (gg D cI cB cL bb L xs) mY_fork (n + 1) 0 0 44 [(3, .int (nI i)), (2, .int (nI j)), (0, .ref hm), (1, .int (nI s))] [] (zW z0 z1 z2 z3 z4 z5 cI cB hm b1 b2 b3 b4 cd F sx pd th (va_cpy sm sm (8 * s) (8 * j) i) (va_cpy u u (128 * s) (128 * j) (16 * i)) rest) Psi := by
  intro m
  induction m with
  | zero =>
    intro i hi
    obtain rfl : i = 8 := by omega
    refine go_iload_n (pc := 44) 3 0 rfl rfl eY_fork_44 ?_
    refine go_bipush (pc := 45) (v := 8) (by decide) eY_fork_45 ?_
    refine go_icmp_ge (pc := 47) 72 (by decide) eY_fork_47 (fun c47 => ?_) (fun c47 => ?_)
    · refine go_iload_n (pc := 72) 2 1 rfl rfl eY_fork_72 ?_
      exact go_iret (pc := 73) rfl rfl eY_fork_73 (hf)
    · exact absurd (show (8 : Int32) ≤ nI 8 by decide) c47
  | succ m ih =>
    intro i hi
    refine go_iload_n (pc := 44) 3 0 rfl rfl eY_fork_44 ?_
    refine go_bipush (pc := 45) (v := 8) (by decide) eY_fork_45 ?_
    refine go_icmp_ge (pc := 47) 72 (by decide) eY_fork_47 (fun c47 => ?_) (fun c47 => ?_)
    · exact absurd c47 (nI_ge (b := 8) (by omega) (by omega))
    · refine go_aload_n (pc := 50) 0 2 rfl rfl eY_fork_50 ?_
      refine go_iconst (pc := 51) (v := 0) (by decide) eY_fork_51 ?_
      refine go_iload_n (pc := 52) 1 3 rfl rfl eY_fork_52 ?_
      refine go_iload_n (pc := 53) 3 0 rfl rfl eY_fork_53 ?_
      refine go_rS (pc := 54) (d_page0 s i) okY_page lmY_34 eY_fork_54 rfl rfl (Nat.le_of_ble_eq_true rfl) (Nat.le_of_ble_eq_true rfl) ?_
      refine go_iconst (pc := 57) (v := 0) (by decide) eY_fork_57 ?_
      refine go_iload_n (pc := 58) 2 1 rfl rfl eY_fork_58 ?_
      refine go_iload_n (pc := 59) 3 0 rfl rfl eY_fork_59 ?_
      refine go_rS (pc := 60) (d_page0 j i) okY_page lmY_34 eY_fork_60 rfl rfl (Nat.le_of_ble_eq_true rfl) (Nat.le_of_ble_eq_true rfl) ?_
      refine go_rV0 (pc := 63) 6 (d_cp (8 * s + i) (8 * j + i) (by omega) (by omega)) okY_copyPage lmY_30 eY_fork_63 rfl rfl rfl rfl rfl (Nat.le_of_ble_eq_true rfl) (Nat.le_of_ble_eq_true rfl) ?_
      rw [pk_cpy_out (show _ from by omega), cpy_up, show 16 * (8 * s + i) = 128 * s + 16 * i from by omega, show 16 * (8 * j + i) = 128 * j + 16 * i from by omega, cpy_blk8 (by omega) (by omega)]
      refine go_iinc (pc := 66) (z := 1) (v := nI (i + 1)) (ls' := [(3, _), (2, _), (0, _), (1, _)]) 3 0 rfl (nI_1 i) (by decide) eY_fork_66 rfl ?_
      refine go_goto (pc := 69) 44 (by decide) eY_fork_69 ?_
      exact ih (i + 1) (by omega)
set_option maxRecDepth 100000 in
set_option maxHeartbeats 1000000 in
theorem d_fork1 (s : Nat) (hs : s < 6) (hth : th s = true) (j : Nat) (hj : j < 6) (hj0 : th j = false) (hlt : ∀ q, q < j → th q = true) : Ret (gg D cI cB cL bb L xs) mY_fork (n + 1) 0 0 [.ref hm, .int (nI s)] (zW z0 z1 z2 z3 z4 z5 cI cB hm b1 b2 b3 b4 cd F sx pd th sm u rest) (some (.int (nI j))) (zW z0 z1 z2 z3 z4 z5 cI cB hm b1 b2 b3 b4 0 F sx pd (va_up th j true) (va_cpy sm sm (8 * s) (8 * j) 8) (va_cpy u u (128 * s) (128 * j) (16 * 8)) rest) := by
  intro Psi hf
  show Go _ _ _ _ _ 0 [(0, .ref hm), (1, .int (nI s))] [] _ Psi
  refine go_aload_n (pc := 0) 0 0 rfl rfl eY_fork_0 ?_
  refine go_aload_n (pc := 1) 0 0 rfl rfl eY_fork_1 ?_
  refine go_iload_n (pc := 2) 1 1 rfl rfl eY_fork_2 ?_
  refine go_rV (pc := 3) 6 (d_isSpaceT s hs hth) okY_isSpace lmY_42 eY_fork_3 rfl rfl rfl rfl rfl (Nat.le_of_ble_eq_true rfl) (Nat.le_of_ble_eq_true rfl) ?_
  refine go_if_ne (pc := 6) 13 (by decide) eY_fork_6 (fun c6 => ?_) (fun c6 => ?_)
  · refine go_iconst (pc := 13) (v := 0) (by decide) eY_fork_13 ?_
    refine go_iconst (pc := 14) (v := 0) (by decide) eY_fork_14 ?_
    refine go_iconst (pc := 15) (v := 0) (by decide) eY_fork_15 ?_
    refine go_rV (pc := 16) 6 (d_fails0) okY_fails lmY_46 eY_fork_16 rfl rfl rfl rfl rfl (Nat.le_of_ble_eq_true rfl) (Nat.le_of_ble_eq_true rfl) ?_
    refine go_if_eq (pc := 19) 24 (by decide) eY_fork_19 (fun c19 => ?_) (fun c19 => ?_)
    · refine go_aload_n (pc := 24) 0 0 rfl rfl eY_fork_24 ?_
      refine go_rV (pc := 25) 6 (d_freeA j hj hj0 hlt) okY_free lmY_38 eY_fork_25 rfl rfl rfl rfl rfl (Nat.le_of_ble_eq_true rfl) (Nat.le_of_ble_eq_true rfl) ?_
      refine go_istore_n (pc := 28) (ls' := [(2, _), (0, _), (1, _)]) 2 rfl (by decide) eY_fork_28 rfl ?_
      refine go_iload_n (pc := 29) 2 0 rfl rfl eY_fork_29 ?_
      refine go_if_ge (pc := 30) 35 (by decide) eY_fork_30 (fun c30 => ?_) (fun c30 => ?_)
      · refine go_aload_n (pc := 35) 0 1 rfl rfl eY_fork_35 ?_
        refine go_get (pc := 36) hwY 6 rfl rfl 4 (by decide) lkY_13 rfl eY_fork_36 ?_
        refine go_iload_n (pc := 39) 2 0 rfl rfl eY_fork_39 ?_
        refine go_iconst (pc := 40) (v := 1) (by decide) eY_fork_40 ?_
        refine go_zastN (pc := 41) (es' := (zW z0 z1 z2 z3 z4 z5 cI cB hm b1 b2 b3 b4 0 F sx pd (va_up th j true) sm u rest)) 8 1 j eY_fork_41 rfl rfl rfl (by omega) (by omega) (ys8 (upd_b (b := true) rfl)) ?_
        refine go_iconst (pc := 42) (v := 0) (by decide) eY_fork_42 ?_
        refine go_istore_n (pc := 43) (ls' := [(3, _), (2, _), (0, _), (1, _)]) 3 rfl (by decide) eY_fork_43 rfl ?_
        have hsj : s ≠ j := fun z => by rw [z, hj0] at hth; cases hth
        refine go_es (es' := (zW z0 z1 z2 z3 z4 z5 cI cB hm b1 b2 b3 b4 0 F sx pd (va_up th j true) (va_cpy sm sm (8 * s) (8 * j) 0) (va_cpy u u (128 * s) (128 * j) (16 * 0)) rest)) (by rw [cpy_0, show 16 * 0 = 0 from rfl, cpy_0]) ?_
        exact k_fork s j hs hj hsj hf 8 0 (by omega)
      · exact absurd (nI_pos' (by omega)) c30
    · exact absurd c19 (by decide)
  · exact absurd c6 (by decide)
set_option maxRecDepth 100000 in
set_option maxHeartbeats 1000000 in
theorem d_fork0 (s : Nat) (hs : s < 6) (hth : th s = true) (hlt : ∀ q, q < 6 → th q = true) : Ret (gg D cI cB cL bb L xs) mY_fork (n + 1) 0 0 [.ref hm, .int (nI s)] (zW z0 z1 z2 z3 z4 z5 cI cB hm b1 b2 b3 b4 cd F sx pd th sm u rest) (some (.int (-1))) (zW z0 z1 z2 z3 z4 z5 cI cB hm b1 b2 b3 b4 0 F sx pd th sm u rest) := by
  intro Psi hf
  show Go _ _ _ _ _ 0 [(0, .ref hm), (1, .int (nI s))] [] _ Psi
  refine go_aload_n (pc := 0) 0 0 rfl rfl eY_fork_0 ?_
  refine go_aload_n (pc := 1) 0 0 rfl rfl eY_fork_1 ?_
  refine go_iload_n (pc := 2) 1 1 rfl rfl eY_fork_2 ?_
  refine go_rV (pc := 3) 6 (d_isSpaceT s hs hth) okY_isSpace lmY_42 eY_fork_3 rfl rfl rfl rfl rfl (Nat.le_of_ble_eq_true rfl) (Nat.le_of_ble_eq_true rfl) ?_
  refine go_if_ne (pc := 6) 13 (by decide) eY_fork_6 (fun c6 => ?_) (fun c6 => ?_)
  · refine go_iconst (pc := 13) (v := 0) (by decide) eY_fork_13 ?_
    refine go_iconst (pc := 14) (v := 0) (by decide) eY_fork_14 ?_
    refine go_iconst (pc := 15) (v := 0) (by decide) eY_fork_15 ?_
    refine go_rV (pc := 16) 6 (d_fails0) okY_fails lmY_46 eY_fork_16 rfl rfl rfl rfl rfl (Nat.le_of_ble_eq_true rfl) (Nat.le_of_ble_eq_true rfl) ?_
    refine go_if_eq (pc := 19) 24 (by decide) eY_fork_19 (fun c19 => ?_) (fun c19 => ?_)
    · refine go_aload_n (pc := 24) 0 0 rfl rfl eY_fork_24 ?_
      refine go_rV (pc := 25) 6 (d_freeB hlt) okY_free lmY_38 eY_fork_25 rfl rfl rfl rfl rfl (Nat.le_of_ble_eq_true rfl) (Nat.le_of_ble_eq_true rfl) ?_
      refine go_istore_n (pc := 28) (ls' := [(2, _), (0, _), (1, _)]) 2 rfl (by decide) eY_fork_28 rfl ?_
      refine go_iload_n (pc := 29) 2 0 rfl rfl eY_fork_29 ?_
      refine go_if_ge (pc := 30) 35 (by decide) eY_fork_30 (fun c30 => ?_) (fun c30 => ?_)
      · exact absurd c30 (by decide)
      · refine go_iconst (pc := 33) (v := (-1)) (by decide) eY_fork_33 ?_
        exact go_iret (pc := 34) rfl rfl eY_fork_34 (hf)
    · exact absurd c19 (by decide)
  · exact absurd c6 (by decide)
set_option maxRecDepth 100000 in
set_option maxHeartbeats 1000000 in
theorem e_fork (x : Int32) (hx : ∀ j, j < 6 → x = nI j → th j = false) : Ret (gg D cI cB cL bb L xs) mY_fork (n + 1) 0 0 [.ref hm, .int (x)] (zW z0 z1 z2 z3 z4 z5 cI cB hm b1 b2 b3 b4 cd F sx pd th sm u rest) (some (.int (0))) (zW z0 z1 z2 z3 z4 z5 cI cB hm b1 b2 b3 b4 1 F sx pd th sm u rest) := by
  intro Psi hf
  show Go _ _ _ _ _ 0 [(0, .ref hm), (1, .int (x))] [] _ Psi
  refine go_aload_n (pc := 0) 0 0 rfl rfl eY_fork_0 ?_
  refine go_aload_n (pc := 1) 0 0 rfl rfl eY_fork_1 ?_
  refine go_iload_n (pc := 2) 1 1 rfl rfl eY_fork_2 ?_
  refine go_rV (pc := 3) 6 (d_isSpaceF x hx) okY_isSpace lmY_42 eY_fork_3 rfl rfl rfl rfl rfl (Nat.le_of_ble_eq_true rfl) (Nat.le_of_ble_eq_true rfl) ?_
  refine go_if_ne (pc := 6) 13 (by decide) eY_fork_6 (fun c6 => ?_) (fun c6 => ?_)
  · exact absurd rfl c6
  · refine go_iconst (pc := 9) (v := 1) (by decide) eY_fork_9 ?_
    refine go_goto (pc := 10) 14 (by decide) eY_fork_10 ?_
    refine go_iconst (pc := 14) (v := 0) (by decide) eY_fork_14 ?_
    refine go_iconst (pc := 15) (v := 0) (by decide) eY_fork_15 ?_
    refine go_rV (pc := 16) 6 (d_fails1 0 0) okY_fails lmY_46 eY_fork_16 rfl rfl rfl rfl rfl (Nat.le_of_ble_eq_true rfl) (Nat.le_of_ble_eq_true rfl) ?_
    refine go_if_eq (pc := 19) 24 (by decide) eY_fork_19 (fun c19 => ?_) (fun c19 => ?_)
    · exact absurd c19 (by decide)
    · refine go_iconst (pc := 22) (v := 0) (by decide) eY_fork_22 ?_
      exact go_iret (pc := 23) rfl rfl eY_fork_23 (hf)
theorem d_em0 (s : Nat) (hs : s < 6) : Ret (gg D cI cB cL bb L xs) mY_empty (n + 1) 0 0 [.ref hm, .int 0, .int (nI s)] (zW z0 z1 z2 z3 z4 z5 cI cB hm b1 b2 b3 b4 cd F sx pd th sm u rest) none (zW z0 z1 z2 z3 z4 z5 cI cB hm b1 b2 b3 b4 cd F sx pd (va_up th s false) (va_cpy (fun _ => 0) sm 0 (8 * s) 8) u rest) := by
  have h := d_em (D := D) (cI := cI) (cB := cB) (cL := cL) (bb := bb) (L := L) (xs := xs) (n := n) (hm := hm) (b1 := b1) (b2 := b2) (b3 := b3) (b4 := b4) (F := F) (sx := sx) (cd := cd) (pd := pd) (th := th) (sm := sm) (u := u) (z0 := z0) (z1 := z1) (z2 := z2) (z3 := z3) (z4 := z4) (z5 := z5) (rest := rest) 0 s (by omega) hs
  rw [show 6 * 0 + s = s from by omega] at h
  exact h
set_option maxRecDepth 100000 in
set_option maxHeartbeats 1000000 in
theorem d_close (hsm : ∀ k, sm k < 2 ^ 30) (s : Nat) (hs : s < 6) (hth : th s = true) : Ret (gg D cI cB cL bb L xs) mY_close (n + 2) 0 0 [.ref hm, .int (nI s)] (zW z0 z1 z2 z3 z4 z5 cI cB hm b1 b2 b3 b4 cd F sx pd th sm u rest) (some (.int (nI (gcnt (fun p => decide (¬ sm (8 * s + p) = 0)) 8)))) (zW z0 z1 z2 z3 z4 z5 cI cB hm b1 b2 b3 b4 0 F sx pd (va_up th s false) (va_cpy (fun _ => 0) sm 0 (8 * s) 8) u rest) := by
  intro Psi hf
  show Go _ _ _ _ _ 0 [(0, .ref hm), (1, .int (nI s))] [] _ Psi
  refine go_aload_n (pc := 0) 0 0 rfl rfl eY_close_0 ?_
  refine go_aload_n (pc := 1) 0 0 rfl rfl eY_close_1 ?_
  refine go_iload_n (pc := 2) 1 1 rfl rfl eY_close_2 ?_
  refine go_rV (pc := 3) 6 (d_isSpaceT s hs hth) okY_isSpace lmY_42 eY_close_3 rfl rfl rfl rfl rfl (Nat.le_of_ble_eq_true rfl) (Nat.le_of_ble_eq_true rfl) ?_
  refine go_if_ne (pc := 6) 13 (by decide) eY_close_6 (fun c6 => ?_) (fun c6 => ?_)
  · refine go_iconst (pc := 13) (v := 0) (by decide) eY_close_13 ?_
    refine go_iconst (pc := 14) (v := 0) (by decide) eY_close_14 ?_
    refine go_iconst (pc := 15) (v := 0) (by decide) eY_close_15 ?_
    refine go_rV (pc := 16) 6 (d_fails0) okY_fails lmY_46 eY_close_16 rfl rfl rfl rfl rfl (Nat.le_of_ble_eq_true rfl) (Nat.le_of_ble_eq_true rfl) ?_
    refine go_if_eq (pc := 19) 24 (by decide) eY_close_19 (fun c19 => ?_) (fun c19 => ?_)
    · refine go_aload_n (pc := 24) 0 0 rfl rfl eY_close_24 ?_
      refine go_iload_n (pc := 25) 1 1 rfl rfl eY_close_25 ?_
      refine go_rV (pc := 26) 6 (d_pagesOf hsm s hs) okY_pagesOf lmY_50 eY_close_26 rfl rfl rfl rfl rfl (Nat.le_of_ble_eq_true rfl) (Nat.le_of_ble_eq_true rfl) ?_
      refine go_istore_n (pc := 29) (ls' := [(2, _), (0, _), (1, _)]) 2 rfl (by decide) eY_close_29 rfl ?_
      refine go_aload_n (pc := 30) 0 1 rfl rfl eY_close_30 ?_
      refine go_iconst (pc := 31) (v := 0) (by decide) eY_close_31 ?_
      refine go_iload_n (pc := 32) 1 2 rfl rfl eY_close_32 ?_
      refine go_rV0 (pc := 33) 6 (d_em0 s hs) okY_empty lmY_54 eY_close_33 rfl rfl rfl rfl rfl (Nat.le_of_ble_eq_true rfl) (Nat.le_of_ble_eq_true rfl) ?_
      refine go_iload_n (pc := 36) 2 0 rfl rfl eY_close_36 ?_
      exact go_iret (pc := 37) rfl rfl eY_close_37 (hf)
    · exact absurd c19 (by decide)
  · exact absurd c6 (by decide)
set_option maxRecDepth 100000 in
set_option maxHeartbeats 1000000 in
theorem e_close (x : Int32) (hx : ∀ j, j < 6 → x = nI j → th j = false) : Ret (gg D cI cB cL bb L xs) mY_close (n + 2) 0 0 [.ref hm, .int (x)] (zW z0 z1 z2 z3 z4 z5 cI cB hm b1 b2 b3 b4 cd F sx pd th sm u rest) (some (.int (0))) (zW z0 z1 z2 z3 z4 z5 cI cB hm b1 b2 b3 b4 1 F sx pd th sm u rest) := by
  intro Psi hf
  show Go _ _ _ _ _ 0 [(0, .ref hm), (1, .int (x))] [] _ Psi
  refine go_aload_n (pc := 0) 0 0 rfl rfl eY_close_0 ?_
  refine go_aload_n (pc := 1) 0 0 rfl rfl eY_close_1 ?_
  refine go_iload_n (pc := 2) 1 1 rfl rfl eY_close_2 ?_
  refine go_rV (pc := 3) 6 (d_isSpaceF x hx) okY_isSpace lmY_42 eY_close_3 rfl rfl rfl rfl rfl (Nat.le_of_ble_eq_true rfl) (Nat.le_of_ble_eq_true rfl) ?_
  refine go_if_ne (pc := 6) 13 (by decide) eY_close_6 (fun c6 => ?_) (fun c6 => ?_)
  · exact absurd rfl c6
  · refine go_iconst (pc := 9) (v := 1) (by decide) eY_close_9 ?_
    refine go_goto (pc := 10) 14 (by decide) eY_close_10 ?_
    refine go_iconst (pc := 14) (v := 0) (by decide) eY_close_14 ?_
    refine go_iconst (pc := 15) (v := 0) (by decide) eY_close_15 ?_
    refine go_rV (pc := 16) 6 (d_fails1 0 0) okY_fails lmY_46 eY_close_16 rfl rfl rfl rfl rfl (Nat.le_of_ble_eq_true rfl) (Nat.le_of_ble_eq_true rfl) ?_
    refine go_if_eq (pc := 19) 24 (by decide) eY_close_19 (fun c19 => ?_) (fun c19 => ?_)
    · exact absurd c19 (by decide)
    · refine go_iconst (pc := 22) (v := 0) (by decide) eY_close_22 ?_
      exact go_iret (pc := 23) rfl rfl eY_close_23 (hf)
set_option maxRecDepth 100000 in
set_option maxHeartbeats 1000000 in
theorem d_unmap (hsm : ∀ k, sm k < 2 ^ 30) (s : Nat) (hs : s < 6) (hth : th s = true) (p : Nat) (hp : p < 8) : Ret (gg D cI cB cL bb L xs) mY_unmap (n + 1) 0 0 [.ref hm, .int (nI s), .int (nI p)] (zW z0 z1 z2 z3 z4 z5 cI cB hm b1 b2 b3 b4 cd F sx pd th sm u rest) (some (.int (bI (decide (¬ sm (8 * s + p) = 0))))) (zW z0 z1 z2 z3 z4 z5 cI cB hm b1 b2 b3 b4 0 F sx pd th (va_up sm (8 * s + p) 0) u rest) := by
  intro Psi hf
  show Go _ _ _ _ _ 0 [(0, .ref hm), (1, .int (nI s)), (2, .int (nI p))] [] _ Psi
  refine go_aload_n (pc := 0) 0 0 rfl rfl eY_unmap_0 ?_
  refine go_aload_n (pc := 1) 0 0 rfl rfl eY_unmap_1 ?_
  refine go_iload_n (pc := 2) 1 1 rfl rfl eY_unmap_2 ?_
  refine go_rV (pc := 3) 6 (d_isSpaceT s hs hth) okY_isSpace lmY_42 eY_unmap_3 rfl rfl rfl rfl rfl (Nat.le_of_ble_eq_true rfl) (Nat.le_of_ble_eq_true rfl) ?_
  refine go_if_ne (pc := 6) 13 (by decide) eY_unmap_6 (fun c6 => ?_) (fun c6 => ?_)
  · refine go_iconst (pc := 13) (v := 0) (by decide) eY_unmap_13 ?_
    refine go_iload_n (pc := 14) 2 2 rfl rfl eY_unmap_14 ?_
    refine go_rS (pc := 15) (d_isPageT p hp) okY_isPage lmY_57 eY_unmap_15 rfl rfl (Nat.le_of_ble_eq_true rfl) (Nat.le_of_ble_eq_true rfl) ?_
    refine go_if_ne (pc := 18) 25 (by decide) eY_unmap_18 (fun c18 => ?_) (fun c18 => ?_)
    · refine go_iconst (pc := 25) (v := 0) (by decide) eY_unmap_25 ?_
      refine go_iconst (pc := 26) (v := 0) (by decide) eY_unmap_26 ?_
      refine go_rV (pc := 27) 6 (d_fails0) okY_fails lmY_46 eY_unmap_27 rfl rfl rfl rfl rfl (Nat.le_of_ble_eq_true rfl) (Nat.le_of_ble_eq_true rfl) ?_
      refine go_if_eq (pc := 30) 35 (by decide) eY_unmap_30 (fun c30 => ?_) (fun c30 => ?_)
      · refine go_iconst (pc := 35) (v := 0) (by decide) eY_unmap_35 ?_
        refine go_iload_n (pc := 36) 1 1 rfl rfl eY_unmap_36 ?_
        refine go_iload_n (pc := 37) 2 2 rfl rfl eY_unmap_37 ?_
        refine go_rS (pc := 38) (d_page0 s p) okY_page lmY_34 eY_unmap_38 rfl rfl (Nat.le_of_ble_eq_true rfl) (Nat.le_of_ble_eq_true rfl) ?_
        refine go_istore_n (pc := 41) (ls' := [(3, _), (0, _), (1, _), (2, _)]) 3 rfl (by decide) eY_unmap_41 rfl ?_
        refine go_aload_n (pc := 42) 0 1 rfl rfl eY_unmap_42 ?_
        refine go_get (pc := 43) hwY 6 rfl rfl 5 (by decide) lkY_16 rfl eY_unmap_43 ?_
        refine go_iload_n (pc := 46) 3 0 rfl rfl eY_unmap_46 ?_
        refine go_ialdN (pc := 47) 9 0 (8 * s + p) eY_unmap_47 rfl rfl (rfl) (by omega) (by omega) ?_
        refine go_if_le (pc := 48) 55 (by decide) eY_unmap_48 (fun c48 => ?_) (fun c48 => ?_)
        · rw [show decide (¬ sm (8 * s + p) = 0) = false from decide_eq_false (fun z => z ((nI_lz (by have := hsm (8 * s + p); omega)).mp c48))] at hf
          refine go_iconst (pc := 55) (v := 0) (by decide) eY_unmap_55 ?_
          refine go_istore (pc := 56) (ls' := [(4, _), (3, _), (0, _), (1, _), (2, _)]) 4 (by decide) eY_unmap_56 rfl ?_
          refine go_aload_n (pc := 58) 0 2 rfl rfl eY_unmap_58 ?_
          refine go_get (pc := 59) hwY 6 rfl rfl 5 (by decide) lkY_16 rfl eY_unmap_59 ?_
          refine go_iload_n (pc := 62) 3 1 rfl rfl eY_unmap_62 ?_
          refine go_iconst (pc := 63) (v := 0) (by decide) eY_unmap_63 ?_
          refine go_iastN (pc := 64) (es' := (zW z0 z1 z2 z3 z4 z5 cI cB hm b1 b2 b3 b4 0 F sx pd th (va_up sm (8 * s + p) 0) u rest)) 9 0 (8 * s + p) eY_unmap_64 rfl rfl rfl (by omega) (by omega) (ys9 (upd_n (x := 0))) ?_
          refine go_iload (pc := 65) 4 0 rfl eY_unmap_65 ?_
          exact go_iret (pc := 67) rfl rfl eY_unmap_67 (hf)
        · rw [show decide (¬ sm (8 * s + p) = 0) = true from decide_eq_true (fun z => c48 ((nI_lz (by have := hsm (8 * s + p); omega)).mpr z))] at hf
          refine go_iconst (pc := 51) (v := 1) (by decide) eY_unmap_51 ?_
          refine go_goto (pc := 52) 56 (by decide) eY_unmap_52 ?_
          refine go_istore (pc := 56) (ls' := [(4, _), (3, _), (0, _), (1, _), (2, _)]) 4 (by decide) eY_unmap_56 rfl ?_
          refine go_aload_n (pc := 58) 0 2 rfl rfl eY_unmap_58 ?_
          refine go_get (pc := 59) hwY 6 rfl rfl 5 (by decide) lkY_16 rfl eY_unmap_59 ?_
          refine go_iload_n (pc := 62) 3 1 rfl rfl eY_unmap_62 ?_
          refine go_iconst (pc := 63) (v := 0) (by decide) eY_unmap_63 ?_
          refine go_iastN (pc := 64) (es' := (zW z0 z1 z2 z3 z4 z5 cI cB hm b1 b2 b3 b4 0 F sx pd th (va_up sm (8 * s + p) 0) u rest)) 9 0 (8 * s + p) eY_unmap_64 rfl rfl rfl (by omega) (by omega) (ys9 (upd_n (x := 0))) ?_
          refine go_iload (pc := 65) 4 0 rfl eY_unmap_65 ?_
          exact go_iret (pc := 67) rfl rfl eY_unmap_67 (hf)
      · exact absurd c30 (by decide)
    · exact absurd c18 (by decide)
  · exact absurd c6 (by decide)
set_option maxRecDepth 100000 in
set_option maxHeartbeats 1000000 in
theorem d_holdersA (hsm : ∀ k, sm k < 2 ^ 30) (s : Nat) (hs : s < 6) (hth : th s = true) (p : Nat) (hp : p < 8) (h0 : sm (8 * s + p) ≠ 0) : Ret (gg D cI cB cL bb L xs) mY_holders (n + 1) 0 0 [.ref hm, .int (nI s), .int (nI p)] (zW z0 z1 z2 z3 z4 z5 cI cB hm b1 b2 b3 b4 cd F sx pd th sm u rest) (some (.int (nI (gcnt (fun k => decide (sm k = sm (8 * s + p))) 432)))) (zW z0 z1 z2 z3 z4 z5 cI cB hm b1 b2 b3 b4 0 F sx pd th sm u rest) := by
  intro Psi hf
  show Go _ _ _ _ _ 0 [(0, .ref hm), (1, .int (nI s)), (2, .int (nI p))] [] _ Psi
  refine go_aload_n (pc := 0) 0 0 rfl rfl eY_holders_0 ?_
  refine go_aload_n (pc := 1) 0 0 rfl rfl eY_holders_1 ?_
  refine go_iload_n (pc := 2) 1 1 rfl rfl eY_holders_2 ?_
  refine go_rV (pc := 3) 6 (d_isSpaceT s hs hth) okY_isSpace lmY_42 eY_holders_3 rfl rfl rfl rfl rfl (Nat.le_of_ble_eq_true rfl) (Nat.le_of_ble_eq_true rfl) ?_
  refine go_if_ne (pc := 6) 13 (by decide) eY_holders_6 (fun c6 => ?_) (fun c6 => ?_)
  · refine go_iconst (pc := 13) (v := 0) (by decide) eY_holders_13 ?_
    refine go_iload_n (pc := 14) 2 2 rfl rfl eY_holders_14 ?_
    refine go_rS (pc := 15) (d_isPageT p hp) okY_isPage lmY_57 eY_holders_15 rfl rfl (Nat.le_of_ble_eq_true rfl) (Nat.le_of_ble_eq_true rfl) ?_
    refine go_if_ne (pc := 18) 25 (by decide) eY_holders_18 (fun c18 => ?_) (fun c18 => ?_)
    · refine go_iconst (pc := 25) (v := 0) (by decide) eY_holders_25 ?_
      refine go_iconst (pc := 26) (v := 0) (by decide) eY_holders_26 ?_
      refine go_rV (pc := 27) 6 (d_fails0) okY_fails lmY_46 eY_holders_27 rfl rfl rfl rfl rfl (Nat.le_of_ble_eq_true rfl) (Nat.le_of_ble_eq_true rfl) ?_
      refine go_if_eq (pc := 30) 35 (by decide) eY_holders_30 (fun c30 => ?_) (fun c30 => ?_)
      · refine go_aload_n (pc := 35) 0 0 rfl rfl eY_holders_35 ?_
        refine go_aload_n (pc := 36) 0 0 rfl rfl eY_holders_36 ?_
        refine go_get (pc := 37) hwY 6 rfl rfl 5 (by decide) lkY_16 rfl eY_holders_37 ?_
        refine go_iconst (pc := 40) (v := 0) (by decide) eY_holders_40 ?_
        refine go_iload_n (pc := 41) 1 1 rfl rfl eY_holders_41 ?_
        refine go_iload_n (pc := 42) 2 2 rfl rfl eY_holders_42 ?_
        refine go_rS (pc := 43) (d_page0 s p) okY_page lmY_34 eY_holders_43 rfl rfl (Nat.le_of_ble_eq_true rfl) (Nat.le_of_ble_eq_true rfl) ?_
        refine go_ialdN (pc := 46) 9 0 (8 * s + p) eY_holders_46 rfl rfl (rfl) (by omega) (by omega) ?_
        refine go_rV (pc := 47) 6 (d_holdersOf hsm (sm (8 * s + p)) (hsm _) h0) okY_holdersOf lmY_70 eY_holders_47 rfl rfl rfl rfl rfl (Nat.le_of_ble_eq_true rfl) (Nat.le_of_ble_eq_true rfl) ?_
        exact go_iret (pc := 50) rfl rfl eY_holders_50 (hf)
      · exact absurd c30 (by decide)
    · exact absurd c18 (by decide)
  · exact absurd c6 (by decide)
set_option maxRecDepth 100000 in
set_option maxHeartbeats 1000000 in
theorem d_holdersB (hsm : ∀ k, sm k < 2 ^ 30) (s : Nat) (hs : s < 6) (hth : th s = true) (p : Nat) (hp : p < 8) (h0 : sm (8 * s + p) = 0) : Ret (gg D cI cB cL bb L xs) mY_holders (n + 1) 0 0 [.ref hm, .int (nI s), .int (nI p)] (zW z0 z1 z2 z3 z4 z5 cI cB hm b1 b2 b3 b4 cd F sx pd th sm u rest) (some (.int (0))) (zW z0 z1 z2 z3 z4 z5 cI cB hm b1 b2 b3 b4 0 F sx pd th sm u rest) := by
  intro Psi hf
  show Go _ _ _ _ _ 0 [(0, .ref hm), (1, .int (nI s)), (2, .int (nI p))] [] _ Psi
  refine go_aload_n (pc := 0) 0 0 rfl rfl eY_holders_0 ?_
  refine go_aload_n (pc := 1) 0 0 rfl rfl eY_holders_1 ?_
  refine go_iload_n (pc := 2) 1 1 rfl rfl eY_holders_2 ?_
  refine go_rV (pc := 3) 6 (d_isSpaceT s hs hth) okY_isSpace lmY_42 eY_holders_3 rfl rfl rfl rfl rfl (Nat.le_of_ble_eq_true rfl) (Nat.le_of_ble_eq_true rfl) ?_
  refine go_if_ne (pc := 6) 13 (by decide) eY_holders_6 (fun c6 => ?_) (fun c6 => ?_)
  · refine go_iconst (pc := 13) (v := 0) (by decide) eY_holders_13 ?_
    refine go_iload_n (pc := 14) 2 2 rfl rfl eY_holders_14 ?_
    refine go_rS (pc := 15) (d_isPageT p hp) okY_isPage lmY_57 eY_holders_15 rfl rfl (Nat.le_of_ble_eq_true rfl) (Nat.le_of_ble_eq_true rfl) ?_
    refine go_if_ne (pc := 18) 25 (by decide) eY_holders_18 (fun c18 => ?_) (fun c18 => ?_)
    · refine go_iconst (pc := 25) (v := 0) (by decide) eY_holders_25 ?_
      refine go_iconst (pc := 26) (v := 0) (by decide) eY_holders_26 ?_
      refine go_rV (pc := 27) 6 (d_fails0) okY_fails lmY_46 eY_holders_27 rfl rfl rfl rfl rfl (Nat.le_of_ble_eq_true rfl) (Nat.le_of_ble_eq_true rfl) ?_
      refine go_if_eq (pc := 30) 35 (by decide) eY_holders_30 (fun c30 => ?_) (fun c30 => ?_)
      · refine go_aload_n (pc := 35) 0 0 rfl rfl eY_holders_35 ?_
        refine go_aload_n (pc := 36) 0 0 rfl rfl eY_holders_36 ?_
        refine go_get (pc := 37) hwY 6 rfl rfl 5 (by decide) lkY_16 rfl eY_holders_37 ?_
        refine go_iconst (pc := 40) (v := 0) (by decide) eY_holders_40 ?_
        refine go_iload_n (pc := 41) 1 1 rfl rfl eY_holders_41 ?_
        refine go_iload_n (pc := 42) 2 2 rfl rfl eY_holders_42 ?_
        refine go_rS (pc := 43) (d_page0 s p) okY_page lmY_34 eY_holders_43 rfl rfl (Nat.le_of_ble_eq_true rfl) (Nat.le_of_ble_eq_true rfl) ?_
        refine go_ialdN (pc := 46) 9 0 (8 * s + p) eY_holders_46 rfl rfl (rfl) (by omega) (by omega) ?_
        rw [h0]
        refine go_rV (pc := 47) 6 (d_holders0 hsm) okY_holdersOf lmY_70 eY_holders_47 rfl rfl rfl rfl rfl (Nat.le_of_ble_eq_true rfl) (Nat.le_of_ble_eq_true rfl) ?_
        exact go_iret (pc := 50) rfl rfl eY_holders_50 (hf)
      · exact absurd c30 (by decide)
    · exact absurd c18 (by decide)
  · exact absurd c6 (by decide)
set_option maxRecDepth 100000 in
set_option maxHeartbeats 1000000 in
theorem e_unmap1 (x : Int32) (hx : ∀ j, j < 6 → x = nI j → th j = false) (y : Int32) : Ret (gg D cI cB cL bb L xs) mY_unmap (n + 1) 0 0 [.ref hm, .int (x), .int (y)] (zW z0 z1 z2 z3 z4 z5 cI cB hm b1 b2 b3 b4 cd F sx pd th sm u rest) (some (.int (0))) (zW z0 z1 z2 z3 z4 z5 cI cB hm b1 b2 b3 b4 1 F sx pd th sm u rest) := by
  intro Psi hf
  show Go _ _ _ _ _ 0 [(0, .ref hm), (1, .int (x)), (2, .int (y))] [] _ Psi
  refine go_aload_n (pc := 0) 0 0 rfl rfl eY_unmap_0 ?_
  refine go_aload_n (pc := 1) 0 0 rfl rfl eY_unmap_1 ?_
  refine go_iload_n (pc := 2) 1 1 rfl rfl eY_unmap_2 ?_
  refine go_rV (pc := 3) 6 (d_isSpaceF x hx) okY_isSpace lmY_42 eY_unmap_3 rfl rfl rfl rfl rfl (Nat.le_of_ble_eq_true rfl) (Nat.le_of_ble_eq_true rfl) ?_
  refine go_if_ne (pc := 6) 13 (by decide) eY_unmap_6 (fun c6 => ?_) (fun c6 => ?_)
  · exact absurd rfl c6
  · refine go_iconst (pc := 9) (v := 1) (by decide) eY_unmap_9 ?_
    refine go_goto (pc := 10) 14 (by decide) eY_unmap_10 ?_
    obtain ⟨b, -, hpg⟩ := d_isPage (D := D) (cI := cI) (cB := cB) (cL := cL) (bb := bb) (L := L) (xs := xs) y
    refine go_iload_n (pc := 14) 2 2 rfl rfl eY_unmap_14 ?_
    refine go_rS (pc := 15) (hpg _ _) okY_isPage lmY_57 eY_unmap_15 rfl rfl (Nat.le_of_ble_eq_true rfl) (Nat.le_of_ble_eq_true rfl) ?_
    refine go_if_ne (pc := 18) 25 (by decide) eY_unmap_18 (fun c18 => ?_) (fun c18 => ?_)
    · refine go_iconst (pc := 25) (v := 0) (by decide) eY_unmap_25 ?_
      refine go_iconst (pc := 26) (v := 0) (by decide) eY_unmap_26 ?_
      refine go_rV (pc := 27) 6 (d_fails1 _ 0) okY_fails lmY_46 eY_unmap_27 rfl rfl rfl rfl rfl (Nat.le_of_ble_eq_true rfl) (Nat.le_of_ble_eq_true rfl) ?_
      refine go_if_eq (pc := 30) 35 (by decide) eY_unmap_30 (fun c30 => ?_) (fun c30 => ?_)
      · exact absurd c30 (by decide)
      · refine go_iconst (pc := 33) (v := 0) (by decide) eY_unmap_33 ?_
        exact go_iret (pc := 34) rfl rfl eY_unmap_34 (hf)
    · refine go_iconst (pc := 21) (v := 1) (by decide) eY_unmap_21 ?_
      refine go_goto (pc := 22) 26 (by decide) eY_unmap_22 ?_
      refine go_iconst (pc := 26) (v := 0) (by decide) eY_unmap_26 ?_
      refine go_rV (pc := 27) 6 (d_fails1 _ 0) okY_fails lmY_46 eY_unmap_27 rfl rfl rfl rfl rfl (Nat.le_of_ble_eq_true rfl) (Nat.le_of_ble_eq_true rfl) ?_
      refine go_if_eq (pc := 30) 35 (by decide) eY_unmap_30 (fun c30 => ?_) (fun c30 => ?_)
      · exact absurd c30 (by decide)
      · refine go_iconst (pc := 33) (v := 0) (by decide) eY_unmap_33 ?_
        exact go_iret (pc := 34) rfl rfl eY_unmap_34 (hf)
set_option maxRecDepth 100000 in
set_option maxHeartbeats 1000000 in
theorem e_unmap2 (s : Nat) (hs : s < 6) (hth : th s = true) (y : Int32) (hy : ∀ j, j < 8 → y ≠ nI j) : Ret (gg D cI cB cL bb L xs) mY_unmap (n + 1) 0 0 [.ref hm, .int (nI s), .int (y)] (zW z0 z1 z2 z3 z4 z5 cI cB hm b1 b2 b3 b4 cd F sx pd th sm u rest) (some (.int (0))) (zW z0 z1 z2 z3 z4 z5 cI cB hm b1 b2 b3 b4 2 F sx pd th sm u rest) := by
  intro Psi hf
  show Go _ _ _ _ _ 0 [(0, .ref hm), (1, .int (nI s)), (2, .int (y))] [] _ Psi
  refine go_aload_n (pc := 0) 0 0 rfl rfl eY_unmap_0 ?_
  refine go_aload_n (pc := 1) 0 0 rfl rfl eY_unmap_1 ?_
  refine go_iload_n (pc := 2) 1 1 rfl rfl eY_unmap_2 ?_
  refine go_rV (pc := 3) 6 (d_isSpaceT s hs hth) okY_isSpace lmY_42 eY_unmap_3 rfl rfl rfl rfl rfl (Nat.le_of_ble_eq_true rfl) (Nat.le_of_ble_eq_true rfl) ?_
  refine go_if_ne (pc := 6) 13 (by decide) eY_unmap_6 (fun c6 => ?_) (fun c6 => ?_)
  · refine go_iconst (pc := 13) (v := 0) (by decide) eY_unmap_13 ?_
    refine go_iload_n (pc := 14) 2 2 rfl rfl eY_unmap_14 ?_
    refine go_rS (pc := 15) (d_isPageF y hy) okY_isPage lmY_57 eY_unmap_15 rfl rfl (Nat.le_of_ble_eq_true rfl) (Nat.le_of_ble_eq_true rfl) ?_
    refine go_if_ne (pc := 18) 25 (by decide) eY_unmap_18 (fun c18 => ?_) (fun c18 => ?_)
    · exact absurd rfl c18
    · refine go_iconst (pc := 21) (v := 1) (by decide) eY_unmap_21 ?_
      refine go_goto (pc := 22) 26 (by decide) eY_unmap_22 ?_
      refine go_iconst (pc := 26) (v := 0) (by decide) eY_unmap_26 ?_
      refine go_rV (pc := 27) 6 (d_fails2 0) okY_fails lmY_46 eY_unmap_27 rfl rfl rfl rfl rfl (Nat.le_of_ble_eq_true rfl) (Nat.le_of_ble_eq_true rfl) ?_
      refine go_if_eq (pc := 30) 35 (by decide) eY_unmap_30 (fun c30 => ?_) (fun c30 => ?_)
      · exact absurd c30 (by decide)
      · refine go_iconst (pc := 33) (v := 0) (by decide) eY_unmap_33 ?_
        exact go_iret (pc := 34) rfl rfl eY_unmap_34 (hf)
  · exact absurd c6 (by decide)
set_option maxRecDepth 100000 in
set_option maxHeartbeats 1000000 in
theorem e_holders1 (x : Int32) (hx : ∀ j, j < 6 → x = nI j → th j = false) (y : Int32) : Ret (gg D cI cB cL bb L xs) mY_holders (n + 1) 0 0 [.ref hm, .int (x), .int (y)] (zW z0 z1 z2 z3 z4 z5 cI cB hm b1 b2 b3 b4 cd F sx pd th sm u rest) (some (.int (0))) (zW z0 z1 z2 z3 z4 z5 cI cB hm b1 b2 b3 b4 1 F sx pd th sm u rest) := by
  intro Psi hf
  show Go _ _ _ _ _ 0 [(0, .ref hm), (1, .int (x)), (2, .int (y))] [] _ Psi
  refine go_aload_n (pc := 0) 0 0 rfl rfl eY_holders_0 ?_
  refine go_aload_n (pc := 1) 0 0 rfl rfl eY_holders_1 ?_
  refine go_iload_n (pc := 2) 1 1 rfl rfl eY_holders_2 ?_
  refine go_rV (pc := 3) 6 (d_isSpaceF x hx) okY_isSpace lmY_42 eY_holders_3 rfl rfl rfl rfl rfl (Nat.le_of_ble_eq_true rfl) (Nat.le_of_ble_eq_true rfl) ?_
  refine go_if_ne (pc := 6) 13 (by decide) eY_holders_6 (fun c6 => ?_) (fun c6 => ?_)
  · exact absurd rfl c6
  · refine go_iconst (pc := 9) (v := 1) (by decide) eY_holders_9 ?_
    refine go_goto (pc := 10) 14 (by decide) eY_holders_10 ?_
    obtain ⟨b, -, hpg⟩ := d_isPage (D := D) (cI := cI) (cB := cB) (cL := cL) (bb := bb) (L := L) (xs := xs) y
    refine go_iload_n (pc := 14) 2 2 rfl rfl eY_holders_14 ?_
    refine go_rS (pc := 15) (hpg _ _) okY_isPage lmY_57 eY_holders_15 rfl rfl (Nat.le_of_ble_eq_true rfl) (Nat.le_of_ble_eq_true rfl) ?_
    refine go_if_ne (pc := 18) 25 (by decide) eY_holders_18 (fun c18 => ?_) (fun c18 => ?_)
    · refine go_iconst (pc := 25) (v := 0) (by decide) eY_holders_25 ?_
      refine go_iconst (pc := 26) (v := 0) (by decide) eY_holders_26 ?_
      refine go_rV (pc := 27) 6 (d_fails1 _ 0) okY_fails lmY_46 eY_holders_27 rfl rfl rfl rfl rfl (Nat.le_of_ble_eq_true rfl) (Nat.le_of_ble_eq_true rfl) ?_
      refine go_if_eq (pc := 30) 35 (by decide) eY_holders_30 (fun c30 => ?_) (fun c30 => ?_)
      · exact absurd c30 (by decide)
      · refine go_iconst (pc := 33) (v := 0) (by decide) eY_holders_33 ?_
        exact go_iret (pc := 34) rfl rfl eY_holders_34 (hf)
    · refine go_iconst (pc := 21) (v := 1) (by decide) eY_holders_21 ?_
      refine go_goto (pc := 22) 26 (by decide) eY_holders_22 ?_
      refine go_iconst (pc := 26) (v := 0) (by decide) eY_holders_26 ?_
      refine go_rV (pc := 27) 6 (d_fails1 _ 0) okY_fails lmY_46 eY_holders_27 rfl rfl rfl rfl rfl (Nat.le_of_ble_eq_true rfl) (Nat.le_of_ble_eq_true rfl) ?_
      refine go_if_eq (pc := 30) 35 (by decide) eY_holders_30 (fun c30 => ?_) (fun c30 => ?_)
      · exact absurd c30 (by decide)
      · refine go_iconst (pc := 33) (v := 0) (by decide) eY_holders_33 ?_
        exact go_iret (pc := 34) rfl rfl eY_holders_34 (hf)
set_option maxRecDepth 100000 in
set_option maxHeartbeats 1000000 in
theorem e_holders2 (s : Nat) (hs : s < 6) (hth : th s = true) (y : Int32) (hy : ∀ j, j < 8 → y ≠ nI j) : Ret (gg D cI cB cL bb L xs) mY_holders (n + 1) 0 0 [.ref hm, .int (nI s), .int (y)] (zW z0 z1 z2 z3 z4 z5 cI cB hm b1 b2 b3 b4 cd F sx pd th sm u rest) (some (.int (0))) (zW z0 z1 z2 z3 z4 z5 cI cB hm b1 b2 b3 b4 2 F sx pd th sm u rest) := by
  intro Psi hf
  show Go _ _ _ _ _ 0 [(0, .ref hm), (1, .int (nI s)), (2, .int (y))] [] _ Psi
  refine go_aload_n (pc := 0) 0 0 rfl rfl eY_holders_0 ?_
  refine go_aload_n (pc := 1) 0 0 rfl rfl eY_holders_1 ?_
  refine go_iload_n (pc := 2) 1 1 rfl rfl eY_holders_2 ?_
  refine go_rV (pc := 3) 6 (d_isSpaceT s hs hth) okY_isSpace lmY_42 eY_holders_3 rfl rfl rfl rfl rfl (Nat.le_of_ble_eq_true rfl) (Nat.le_of_ble_eq_true rfl) ?_
  refine go_if_ne (pc := 6) 13 (by decide) eY_holders_6 (fun c6 => ?_) (fun c6 => ?_)
  · refine go_iconst (pc := 13) (v := 0) (by decide) eY_holders_13 ?_
    refine go_iload_n (pc := 14) 2 2 rfl rfl eY_holders_14 ?_
    refine go_rS (pc := 15) (d_isPageF y hy) okY_isPage lmY_57 eY_holders_15 rfl rfl (Nat.le_of_ble_eq_true rfl) (Nat.le_of_ble_eq_true rfl) ?_
    refine go_if_ne (pc := 18) 25 (by decide) eY_holders_18 (fun c18 => ?_) (fun c18 => ?_)
    · exact absurd rfl c18
    · refine go_iconst (pc := 21) (v := 1) (by decide) eY_holders_21 ?_
      refine go_goto (pc := 22) 26 (by decide) eY_holders_22 ?_
      refine go_iconst (pc := 26) (v := 0) (by decide) eY_holders_26 ?_
      refine go_rV (pc := 27) 6 (d_fails2 0) okY_fails lmY_46 eY_holders_27 rfl rfl rfl rfl rfl (Nat.le_of_ble_eq_true rfl) (Nat.le_of_ble_eq_true rfl) ?_
      refine go_if_eq (pc := 30) 35 (by decide) eY_holders_30 (fun c30 => ?_) (fun c30 => ?_)
      · exact absurd c30 (by decide)
      · refine go_iconst (pc := 33) (v := 0) (by decide) eY_holders_33 ?_
        exact go_iret (pc := 34) rfl rfl eY_holders_34 (hf)
  · exact absurd c6 (by decide)
theorem us31 (sm : Nat → Nat) : gcnt (usf sm) 432 < 2 ^ 31 := Nat.lt_of_le_of_lt (gcnt_le _ _) (by decide)
set_option maxRecDepth 100000 in
set_option maxHeartbeats 1000000 in
theorem d_map0 (hsm : ∀ k, sm k < 2 ^ 30) (s : Nat) (hs : s < 6) (hth : th s = true) (p : Nat) (hp : p < 8) (v : Int32) (h0 : sm (8 * s + p) ≠ 0) : Ret (gg D cI cB cL bb L xs) mY_map (n + 1) 0 0 [.ref hm, .int (nI s), .int (nI p), .int (v)] (zW z0 z1 z2 z3 z4 z5 cI cB hm b1 b2 b3 b4 cd F sx pd th sm u rest) (some (.int (0))) (zW z0 z1 z2 z3 z4 z5 cI cB hm b1 b2 b3 b4 0 F sx pd th sm u rest) := by
  intro Psi hf
  show Go _ _ _ _ _ 0 [(0, .ref hm), (1, .int (nI s)), (2, .int (nI p)), (3, .int (v))] [] _ Psi
  refine go_aload_n (pc := 0) 0 0 rfl rfl eY_map_0 ?_
  refine go_iload_n (pc := 1) 1 1 rfl rfl eY_map_1 ?_
  refine go_rV (pc := 2) 6 (d_isSpaceT s hs hth) okY_isSpace lmY_42 eY_map_2 rfl rfl rfl rfl rfl (Nat.le_of_ble_eq_true rfl) (Nat.le_of_ble_eq_true rfl) ?_
  refine go_if_eq (pc := 5) 19 (by decide) eY_map_5 (fun c5 => ?_) (fun c5 => ?_)
  · exact absurd c5 (by decide)
  · refine go_iload_n (pc := 8) 2 2 rfl rfl eY_map_8 ?_
    refine go_rS (pc := 9) (d_isPageT p hp) okY_isPage lmY_57 eY_map_9 rfl rfl (Nat.le_of_ble_eq_true rfl) (Nat.le_of_ble_eq_true rfl) ?_
    refine go_if_eq (pc := 12) 19 (by decide) eY_map_12 (fun c12 => ?_) (fun c12 => ?_)
    · exact absurd c12 (by decide)
    · refine go_iconst (pc := 15) (v := 1) (by decide) eY_map_15 ?_
      refine go_goto (pc := 16) 20 (by decide) eY_map_16 ?_
      refine go_istore (pc := 20) (ls' := [(4, _), (0, _), (1, _), (2, _), (3, _)]) 4 (by decide) eY_map_20 rfl ?_
      refine go_aload_n (pc := 22) 0 1 rfl rfl eY_map_22 ?_
      refine go_aload_n (pc := 23) 0 1 rfl rfl eY_map_23 ?_
      refine go_iload_n (pc := 24) 1 2 rfl rfl eY_map_24 ?_
      refine go_rV (pc := 25) 6 (d_isSpaceT s hs hth) okY_isSpace lmY_42 eY_map_25 rfl rfl rfl rfl rfl (Nat.le_of_ble_eq_true rfl) (Nat.le_of_ble_eq_true rfl) ?_
      refine go_if_ne (pc := 28) 35 (by decide) eY_map_28 (fun c28 => ?_) (fun c28 => ?_)
      · refine go_iconst (pc := 35) (v := 0) (by decide) eY_map_35 ?_
        refine go_iload_n (pc := 36) 2 3 rfl rfl eY_map_36 ?_
        refine go_rS (pc := 37) (d_isPageT p hp) okY_isPage lmY_57 eY_map_37 rfl rfl (Nat.le_of_ble_eq_true rfl) (Nat.le_of_ble_eq_true rfl) ?_
        refine go_if_ne (pc := 40) 47 (by decide) eY_map_40 (fun c40 => ?_) (fun c40 => ?_)
        · refine go_iconst (pc := 47) (v := 0) (by decide) eY_map_47 ?_
          refine go_iload (pc := 48) 4 0 rfl eY_map_48 ?_
          refine go_if_eq (pc := 50) 91 (by decide) eY_map_50 (fun c50 => ?_) (fun c50 => ?_)
          · exact absurd c50 (by decide)
          · refine go_aload_n (pc := 53) 0 1 rfl rfl eY_map_53 ?_
            refine go_get (pc := 54) hwY 6 rfl rfl 5 (by decide) lkY_16 rfl eY_map_54 ?_
            refine go_iconst (pc := 57) (v := 0) (by decide) eY_map_57 ?_
            refine go_iload_n (pc := 58) 1 2 rfl rfl eY_map_58 ?_
            refine go_iload (pc := 59) 4 0 rfl eY_map_59 ?_
            refine go_if_eq (pc := 61) 68 (by decide) eY_map_61 (fun c61 => ?_) (fun c61 => ?_)
            · exact absurd c61 (by decide)
            · refine go_iload_n (pc := 64) 2 3 rfl rfl eY_map_64 ?_
              refine go_goto (pc := 65) 69 (by decide) eY_map_65 ?_
              refine go_rS (pc := 69) (d_page0 s p) okY_page lmY_34 eY_map_69 rfl rfl (Nat.le_of_ble_eq_true rfl) (Nat.le_of_ble_eq_true rfl) ?_
              refine go_ialdN (pc := 72) 9 0 (8 * s + p) eY_map_72 rfl rfl (rfl) (by omega) (by omega) ?_
              refine go_if_ne (pc := 73) 91 (by decide) eY_map_73 (fun c73 => ?_) (fun c73 => ?_)
              · refine go_iconst (pc := 91) (v := 0) (by decide) eY_map_91 ?_
                refine go_rV (pc := 92) 6 (d_fails0) okY_fails lmY_46 eY_map_92 rfl rfl rfl rfl rfl (Nat.le_of_ble_eq_true rfl) (Nat.le_of_ble_eq_true rfl) ?_
                refine go_if_eq (pc := 95) 100 (by decide) eY_map_95 (fun c95 => ?_) (fun c95 => ?_)
                · refine go_iconst (pc := 100) (v := 0) (by decide) eY_map_100 ?_
                  refine go_iload_n (pc := 101) 1 2 rfl rfl eY_map_101 ?_
                  refine go_iload_n (pc := 102) 2 3 rfl rfl eY_map_102 ?_
                  refine go_rS (pc := 103) (d_page0 s p) okY_page lmY_34 eY_map_103 rfl rfl (Nat.le_of_ble_eq_true rfl) (Nat.le_of_ble_eq_true rfl) ?_
                  refine go_istore (pc := 106) (ls' := [(5, _), (4, _), (0, _), (1, _), (2, _), (3, _)]) 5 (by decide) eY_map_106 rfl ?_
                  refine go_aload_n (pc := 108) 0 2 rfl rfl eY_map_108 ?_
                  refine go_get (pc := 109) hwY 6 rfl rfl 5 (by decide) lkY_16 rfl eY_map_109 ?_
                  refine go_iload (pc := 112) 5 0 rfl eY_map_112 ?_
                  refine go_ialdN (pc := 114) 9 0 (8 * s + p) eY_map_114 rfl rfl (rfl) (by omega) (by omega) ?_
                  refine go_if_le (pc := 115) 120 (by decide) eY_map_115 (fun c115 => ?_) (fun c115 => ?_)
                  · exact absurd ((nI_lz (by have := hsm (8 * s + p); omega)).mp c115) h0
                  · refine go_iconst (pc := 118) (v := 0) (by decide) eY_map_118 ?_
                    exact go_iret (pc := 119) rfl rfl eY_map_119 (hf)
                · exact absurd c95 (by decide)
              · exact absurd ((nI_z (by have := hsm (8 * s + p); omega)).mp c73) h0
        · exact absurd c40 (by decide)
      · exact absurd c28 (by decide)
set_option maxRecDepth 100000 in
set_option maxHeartbeats 1000000 in
theorem e_map3 (hsm : ∀ k, sm k < 2 ^ 30) (s : Nat) (hs : s < 6) (hth : th s = true) (p : Nat) (hp : p < 8) (v : Int32) (hF : F ≤ 60) (h0 : sm (8 * s + p) = 0) (hu : gcnt (usf sm) 432 = F) : Ret (gg D cI cB cL bb L xs) mY_map (n + 1) 0 0 [.ref hm, .int (nI s), .int (nI p), .int (v)] (zW z0 z1 z2 z3 z4 z5 cI cB hm b1 b2 b3 b4 cd F sx pd th sm u rest) (some (.int (0))) (zW z0 z1 z2 z3 z4 z5 cI cB hm b1 b2 b3 b4 3 F sx pd th sm u rest) := by
  intro Psi hf
  show Go _ _ _ _ _ 0 [(0, .ref hm), (1, .int (nI s)), (2, .int (nI p)), (3, .int (v))] [] _ Psi
  refine go_aload_n (pc := 0) 0 0 rfl rfl eY_map_0 ?_
  refine go_iload_n (pc := 1) 1 1 rfl rfl eY_map_1 ?_
  refine go_rV (pc := 2) 6 (d_isSpaceT s hs hth) okY_isSpace lmY_42 eY_map_2 rfl rfl rfl rfl rfl (Nat.le_of_ble_eq_true rfl) (Nat.le_of_ble_eq_true rfl) ?_
  refine go_if_eq (pc := 5) 19 (by decide) eY_map_5 (fun c5 => ?_) (fun c5 => ?_)
  · exact absurd c5 (by decide)
  · refine go_iload_n (pc := 8) 2 2 rfl rfl eY_map_8 ?_
    refine go_rS (pc := 9) (d_isPageT p hp) okY_isPage lmY_57 eY_map_9 rfl rfl (Nat.le_of_ble_eq_true rfl) (Nat.le_of_ble_eq_true rfl) ?_
    refine go_if_eq (pc := 12) 19 (by decide) eY_map_12 (fun c12 => ?_) (fun c12 => ?_)
    · exact absurd c12 (by decide)
    · refine go_iconst (pc := 15) (v := 1) (by decide) eY_map_15 ?_
      refine go_goto (pc := 16) 20 (by decide) eY_map_16 ?_
      refine go_istore (pc := 20) (ls' := [(4, _), (0, _), (1, _), (2, _), (3, _)]) 4 (by decide) eY_map_20 rfl ?_
      refine go_aload_n (pc := 22) 0 1 rfl rfl eY_map_22 ?_
      refine go_aload_n (pc := 23) 0 1 rfl rfl eY_map_23 ?_
      refine go_iload_n (pc := 24) 1 2 rfl rfl eY_map_24 ?_
      refine go_rV (pc := 25) 6 (d_isSpaceT s hs hth) okY_isSpace lmY_42 eY_map_25 rfl rfl rfl rfl rfl (Nat.le_of_ble_eq_true rfl) (Nat.le_of_ble_eq_true rfl) ?_
      refine go_if_ne (pc := 28) 35 (by decide) eY_map_28 (fun c28 => ?_) (fun c28 => ?_)
      · refine go_iconst (pc := 35) (v := 0) (by decide) eY_map_35 ?_
        refine go_iload_n (pc := 36) 2 3 rfl rfl eY_map_36 ?_
        refine go_rS (pc := 37) (d_isPageT p hp) okY_isPage lmY_57 eY_map_37 rfl rfl (Nat.le_of_ble_eq_true rfl) (Nat.le_of_ble_eq_true rfl) ?_
        refine go_if_ne (pc := 40) 47 (by decide) eY_map_40 (fun c40 => ?_) (fun c40 => ?_)
        · refine go_iconst (pc := 47) (v := 0) (by decide) eY_map_47 ?_
          refine go_iload (pc := 48) 4 0 rfl eY_map_48 ?_
          refine go_if_eq (pc := 50) 91 (by decide) eY_map_50 (fun c50 => ?_) (fun c50 => ?_)
          · exact absurd c50 (by decide)
          · refine go_aload_n (pc := 53) 0 1 rfl rfl eY_map_53 ?_
            refine go_get (pc := 54) hwY 6 rfl rfl 5 (by decide) lkY_16 rfl eY_map_54 ?_
            refine go_iconst (pc := 57) (v := 0) (by decide) eY_map_57 ?_
            refine go_iload_n (pc := 58) 1 2 rfl rfl eY_map_58 ?_
            refine go_iload (pc := 59) 4 0 rfl eY_map_59 ?_
            refine go_if_eq (pc := 61) 68 (by decide) eY_map_61 (fun c61 => ?_) (fun c61 => ?_)
            · exact absurd c61 (by decide)
            · refine go_iload_n (pc := 64) 2 3 rfl rfl eY_map_64 ?_
              refine go_goto (pc := 65) 69 (by decide) eY_map_65 ?_
              refine go_rS (pc := 69) (d_page0 s p) okY_page lmY_34 eY_map_69 rfl rfl (Nat.le_of_ble_eq_true rfl) (Nat.le_of_ble_eq_true rfl) ?_
              refine go_ialdN (pc := 72) 9 0 (8 * s + p) eY_map_72 rfl rfl (rfl) (by omega) (by omega) ?_
              refine go_if_ne (pc := 73) 91 (by decide) eY_map_73 (fun c73 => ?_) (fun c73 => ?_)
              · exact absurd ((nI_z (by have := hsm (8 * s + p); omega)).mpr h0) c73
              · refine go_aload_n (pc := 76) 0 1 rfl rfl eY_map_76 ?_
                refine go_rV (pc := 77) 6 (d_used hsm) okY_used lmY_60 eY_map_77 rfl rfl rfl rfl rfl (Nat.le_of_ble_eq_true rfl) (Nat.le_of_ble_eq_true rfl) ?_
                refine go_aload_n (pc := 80) 0 1 rfl rfl eY_map_80 ?_
                refine go_get (pc := 81) hwY 6 rfl rfl 1 (by decide) lkY_23 rfl eY_map_81 ?_
                rw [hu]
                refine go_icmp_ne (pc := 84) 91 (by decide) eY_map_84 (fun c84 => ?_) (fun c84 => ?_)
                · exact absurd rfl c84
                · refine go_iconst (pc := 87) (v := 1) (by decide) eY_map_87 ?_
                  refine go_goto (pc := 88) 92 (by decide) eY_map_88 ?_
                  refine go_rV (pc := 92) 6 (d_fails3) okY_fails lmY_46 eY_map_92 rfl rfl rfl rfl rfl (Nat.le_of_ble_eq_true rfl) (Nat.le_of_ble_eq_true rfl) ?_
                  refine go_if_eq (pc := 95) 100 (by decide) eY_map_95 (fun c95 => ?_) (fun c95 => ?_)
                  · exact absurd c95 (by decide)
                  · refine go_iconst (pc := 98) (v := 0) (by decide) eY_map_98 ?_
                    exact go_iret (pc := 99) rfl rfl eY_map_99 (hf)
        · exact absurd c40 (by decide)
      · exact absurd c28 (by decide)
set_option maxRecDepth 100000 in
set_option maxHeartbeats 1000000 in
theorem k_map (s : Nat) (hs : s < 6) (p : Nat) (hp : p < 8) (v : Int32) {Psi : gR → va_W → Prop} (hf : Psi (.inl (some (.int 1))) (zW z0 z1 z2 z3 z4 z5 cI cB hm b1 b2 b3 b4 cd F sx pd th sm (va_cpy (fun _ => v) u 0 (16 * (8 * s + p)) 16) rest)) : ∀ (m i : Nat), i + m = 16 → Go (gg D cI cB cL bb L xs) mY_map (n + 1) 0 0 144 [(6, .int (nI i)), (5, .int (nI (8 * s + p))), (0, .ref hm), (3, .int (v))] [] (zW z0 z1 z2 z3 z4 z5 cI cB hm b1 b2 b3 b4 cd F sx pd th sm (va_cpy (fun _ => v) u 0 (16 * (8 * s + p)) i) rest) Psi := by
  intro m
  induction m with
  | zero =>
    intro i hi
    obtain rfl : i = 16 := by omega
    refine go_iload (pc := 144) 6 0 rfl eY_map_144 ?_
    refine go_bipush (pc := 146) (v := 16) (by decide) eY_map_146 ?_
    refine go_icmp_ge (pc := 148) 171 (by decide) eY_map_148 (fun c148 => ?_) (fun c148 => ?_)
    · refine go_iconst (pc := 171) (v := 1) (by decide) eY_map_171 ?_
      exact go_iret (pc := 172) rfl rfl eY_map_172 (hf)
    · exact absurd (show (16 : Int32) ≤ nI 16 by decide) c148
  | succ m ih =>
    intro i hi
    refine go_iload (pc := 144) 6 0 rfl eY_map_144 ?_
    refine go_bipush (pc := 146) (v := 16) (by decide) eY_map_146 ?_
    refine go_icmp_ge (pc := 148) 171 (by decide) eY_map_148 (fun c148 => ?_) (fun c148 => ?_)
    · exact absurd c148 (nI_ge (b := 16) (by omega) (by omega))
    · refine go_aload_n (pc := 151) 0 2 rfl rfl eY_map_151 ?_
      refine go_get (pc := 152) hwY 6 rfl rfl 6 (by decide) lkY_20 rfl eY_map_152 ?_
      refine go_bipush (pc := 155) (v := 16) (by decide) eY_map_155 ?_
      refine go_iload (pc := 157) 5 1 rfl eY_map_157 ?_
      refine go_imul (pc := 159) eY_map_159 ?_
      refine go_iload (pc := 160) 6 0 rfl eY_map_160 ?_
      refine go_iadd (pc := 162) eY_map_162 ?_
      refine go_iload_n (pc := 163) 3 3 rfl rfl eY_map_163 ?_
      refine go_iastN (pc := 164) (es' := (zW z0 z1 z2 z3 z4 z5 cI cB hm b1 b2 b3 b4 cd F sx pd th sm (va_cpy (fun _ => v) u 0 (16 * (8 * s + p)) (i + 1)) rest)) 10 0 (16 * (8 * s + p) + i) eY_map_164 rfl rfl (n16 (8 * s + p) i) (by omega) (by omega) (ys10 cpy_up) ?_
      refine go_iinc (pc := 165) (z := 1) (v := nI (i + 1)) (ls' := [(6, _), (5, _), (0, _), (3, _)]) 6 0 rfl (nI_1 i) (by decide) eY_map_165 rfl ?_
      refine go_goto (pc := 168) 144 (by decide) eY_map_168 ?_
      exact ih (i + 1) (by omega)
set_option maxRecDepth 100000 in
set_option maxHeartbeats 1000000 in
theorem d_map1 (hsm : ∀ k, sm k < 2 ^ 30) (s : Nat) (hs : s < 6) (hth : th s = true) (p : Nat) (hp : p < 8) (v : Int32) (hF : F ≤ 60) (h0 : sm (8 * s + p) = 0) (hu : gcnt (usf sm) 432 ≠ F) : Ret (gg D cI cB cL bb L xs) mY_map (n + 1) 0 0 [.ref hm, .int (nI s), .int (nI p), .int (v)] (zW z0 z1 z2 z3 z4 z5 cI cB hm b1 b2 b3 b4 cd F sx pd th sm u rest) (some (.int (1))) (zW z0 z1 z2 z3 z4 z5 cI cB hm b1 b2 b3 b4 0 F (sx + 1) pd th (va_up sm (8 * s + p) (sx + 1)) (va_cpy (fun _ => v) u 0 (16 * (8 * s + p)) 16) rest) := by
  intro Psi hf
  show Go _ _ _ _ _ 0 [(0, .ref hm), (1, .int (nI s)), (2, .int (nI p)), (3, .int (v))] [] _ Psi
  refine go_aload_n (pc := 0) 0 0 rfl rfl eY_map_0 ?_
  refine go_iload_n (pc := 1) 1 1 rfl rfl eY_map_1 ?_
  refine go_rV (pc := 2) 6 (d_isSpaceT s hs hth) okY_isSpace lmY_42 eY_map_2 rfl rfl rfl rfl rfl (Nat.le_of_ble_eq_true rfl) (Nat.le_of_ble_eq_true rfl) ?_
  refine go_if_eq (pc := 5) 19 (by decide) eY_map_5 (fun c5 => ?_) (fun c5 => ?_)
  · exact absurd c5 (by decide)
  · refine go_iload_n (pc := 8) 2 2 rfl rfl eY_map_8 ?_
    refine go_rS (pc := 9) (d_isPageT p hp) okY_isPage lmY_57 eY_map_9 rfl rfl (Nat.le_of_ble_eq_true rfl) (Nat.le_of_ble_eq_true rfl) ?_
    refine go_if_eq (pc := 12) 19 (by decide) eY_map_12 (fun c12 => ?_) (fun c12 => ?_)
    · exact absurd c12 (by decide)
    · refine go_iconst (pc := 15) (v := 1) (by decide) eY_map_15 ?_
      refine go_goto (pc := 16) 20 (by decide) eY_map_16 ?_
      refine go_istore (pc := 20) (ls' := [(4, _), (0, _), (1, _), (2, _), (3, _)]) 4 (by decide) eY_map_20 rfl ?_
      refine go_aload_n (pc := 22) 0 1 rfl rfl eY_map_22 ?_
      refine go_aload_n (pc := 23) 0 1 rfl rfl eY_map_23 ?_
      refine go_iload_n (pc := 24) 1 2 rfl rfl eY_map_24 ?_
      refine go_rV (pc := 25) 6 (d_isSpaceT s hs hth) okY_isSpace lmY_42 eY_map_25 rfl rfl rfl rfl rfl (Nat.le_of_ble_eq_true rfl) (Nat.le_of_ble_eq_true rfl) ?_
      refine go_if_ne (pc := 28) 35 (by decide) eY_map_28 (fun c28 => ?_) (fun c28 => ?_)
      · refine go_iconst (pc := 35) (v := 0) (by decide) eY_map_35 ?_
        refine go_iload_n (pc := 36) 2 3 rfl rfl eY_map_36 ?_
        refine go_rS (pc := 37) (d_isPageT p hp) okY_isPage lmY_57 eY_map_37 rfl rfl (Nat.le_of_ble_eq_true rfl) (Nat.le_of_ble_eq_true rfl) ?_
        refine go_if_ne (pc := 40) 47 (by decide) eY_map_40 (fun c40 => ?_) (fun c40 => ?_)
        · refine go_iconst (pc := 47) (v := 0) (by decide) eY_map_47 ?_
          refine go_iload (pc := 48) 4 0 rfl eY_map_48 ?_
          refine go_if_eq (pc := 50) 91 (by decide) eY_map_50 (fun c50 => ?_) (fun c50 => ?_)
          · exact absurd c50 (by decide)
          · refine go_aload_n (pc := 53) 0 1 rfl rfl eY_map_53 ?_
            refine go_get (pc := 54) hwY 6 rfl rfl 5 (by decide) lkY_16 rfl eY_map_54 ?_
            refine go_iconst (pc := 57) (v := 0) (by decide) eY_map_57 ?_
            refine go_iload_n (pc := 58) 1 2 rfl rfl eY_map_58 ?_
            refine go_iload (pc := 59) 4 0 rfl eY_map_59 ?_
            refine go_if_eq (pc := 61) 68 (by decide) eY_map_61 (fun c61 => ?_) (fun c61 => ?_)
            · exact absurd c61 (by decide)
            · refine go_iload_n (pc := 64) 2 3 rfl rfl eY_map_64 ?_
              refine go_goto (pc := 65) 69 (by decide) eY_map_65 ?_
              refine go_rS (pc := 69) (d_page0 s p) okY_page lmY_34 eY_map_69 rfl rfl (Nat.le_of_ble_eq_true rfl) (Nat.le_of_ble_eq_true rfl) ?_
              refine go_ialdN (pc := 72) 9 0 (8 * s + p) eY_map_72 rfl rfl (rfl) (by omega) (by omega) ?_
              refine go_if_ne (pc := 73) 91 (by decide) eY_map_73 (fun c73 => ?_) (fun c73 => ?_)
              · exact absurd ((nI_z (by have := hsm (8 * s + p); omega)).mpr h0) c73
              · refine go_aload_n (pc := 76) 0 1 rfl rfl eY_map_76 ?_
                refine go_rV (pc := 77) 6 (d_used hsm) okY_used lmY_60 eY_map_77 rfl rfl rfl rfl rfl (Nat.le_of_ble_eq_true rfl) (Nat.le_of_ble_eq_true rfl) ?_
                refine go_aload_n (pc := 80) 0 1 rfl rfl eY_map_80 ?_
                refine go_get (pc := 81) hwY 6 rfl rfl 1 (by decide) lkY_23 rfl eY_map_81 ?_
                refine go_icmp_ne (pc := 84) 91 (by decide) eY_map_84 (fun c84 => ?_) (fun c84 => ?_)
                · refine go_iconst (pc := 91) (v := 0) (by decide) eY_map_91 ?_
                  refine go_rV (pc := 92) 6 (d_fails0) okY_fails lmY_46 eY_map_92 rfl rfl rfl rfl rfl (Nat.le_of_ble_eq_true rfl) (Nat.le_of_ble_eq_true rfl) ?_
                  refine go_if_eq (pc := 95) 100 (by decide) eY_map_95 (fun c95 => ?_) (fun c95 => ?_)
                  · refine go_iconst (pc := 100) (v := 0) (by decide) eY_map_100 ?_
                    refine go_iload_n (pc := 101) 1 2 rfl rfl eY_map_101 ?_
                    refine go_iload_n (pc := 102) 2 3 rfl rfl eY_map_102 ?_
                    refine go_rS (pc := 103) (d_page0 s p) okY_page lmY_34 eY_map_103 rfl rfl (Nat.le_of_ble_eq_true rfl) (Nat.le_of_ble_eq_true rfl) ?_
                    refine go_istore (pc := 106) (ls' := [(5, _), (4, _), (0, _), (1, _), (2, _), (3, _)]) 5 (by decide) eY_map_106 rfl ?_
                    refine go_aload_n (pc := 108) 0 2 rfl rfl eY_map_108 ?_
                    refine go_get (pc := 109) hwY 6 rfl rfl 5 (by decide) lkY_16 rfl eY_map_109 ?_
                    refine go_iload (pc := 112) 5 0 rfl eY_map_112 ?_
                    refine go_ialdN (pc := 114) 9 0 (8 * s + p) eY_map_114 rfl rfl (rfl) (by omega) (by omega) ?_
                    refine go_if_le (pc := 115) 120 (by decide) eY_map_115 (fun c115 => ?_) (fun c115 => ?_)
                    · refine go_aload_n (pc := 120) 0 2 rfl rfl eY_map_120 ?_
                      refine go_dup (pc := 121) rfl eY_map_121 ?_
                      refine go_get (pc := 122) hwY 6 rfl rfl 2 (by decide) lkY_63 rfl eY_map_122 ?_
                      refine go_iconst (pc := 125) (v := 1) (by decide) eY_map_125 ?_
                      refine go_iadd (pc := 126) eY_map_126 ?_
                      rw [nI_1]
                      refine go_put (pc := 127) (ty := .int) (es' := (zW z0 z1 z2 z3 z4 z5 cI cB hm b1 b2 b3 b4 0 F (sx + 1) pd th sm u rest)) hwY tyY tyY_ok nmY 6 rfl rfl 2 (by decide) lkY_63 rfl (by decide +kernel) rfl rfl (Nat.le_of_ble_eq_true rfl) eY_map_127 rfl ?_
                      refine go_aload_n (pc := 130) 0 2 rfl rfl eY_map_130 ?_
                      refine go_get (pc := 131) hwY 6 rfl rfl 5 (by decide) lkY_16 rfl eY_map_131 ?_
                      refine go_iload (pc := 134) 5 0 rfl eY_map_134 ?_
                      refine go_aload_n (pc := 136) 0 2 rfl rfl eY_map_136 ?_
                      refine go_get (pc := 137) hwY 6 rfl rfl 2 (by decide) lkY_63 rfl eY_map_137 ?_
                      refine go_iastN (pc := 140) (es' := (zW z0 z1 z2 z3 z4 z5 cI cB hm b1 b2 b3 b4 0 F (sx + 1) pd th (va_up sm (8 * s + p) (sx + 1)) u rest)) 9 0 (8 * s + p) eY_map_140 rfl rfl rfl (by omega) (by omega) (ys9 upd_n) ?_
                      refine go_iconst (pc := 141) (v := 0) (by decide) eY_map_141 ?_
                      refine go_istore (pc := 142) (ls' := [(6, _), (5, _), (4, _), (0, _), (1, _), (2, _), (3, _)]) 6 (by decide) eY_map_142 rfl ?_
                      refine go_ls (ls' := [(6, _), (5, _), (0, _), (3, _)]) [0, 1, 3, 6] rfl ?_
                      refine go_es (es' := (zW z0 z1 z2 z3 z4 z5 cI cB hm b1 b2 b3 b4 0 F (sx + 1) pd th (va_up sm (8 * s + p) (sx + 1)) (va_cpy (fun _ => v) u 0 (16 * (8 * s + p)) 0) rest)) (by rw [cpy_0]) ?_
                      exact k_map s hs p hp v hf 16 0 (by omega)
                    · exact absurd ((nI_lz (by have := hsm (8 * s + p); omega)).mpr h0) c115
                  · exact absurd c95 (by decide)
                · exact absurd ((nI_eq (us31 sm) (by omega)).mp c84) hu
        · exact absurd c40 (by decide)
      · exact absurd c28 (by decide)
set_option maxRecDepth 100000 in
set_option maxHeartbeats 1000000 in
theorem e_map1 (x : Int32) (hx : ∀ j, j < 6 → x = nI j → th j = false) (y v : Int32) : Ret (gg D cI cB cL bb L xs) mY_map (n + 1) 0 0 [.ref hm, .int (x), .int (y), .int (v)] (zW z0 z1 z2 z3 z4 z5 cI cB hm b1 b2 b3 b4 cd F sx pd th sm u rest) (some (.int (0))) (zW z0 z1 z2 z3 z4 z5 cI cB hm b1 b2 b3 b4 1 F sx pd th sm u rest) := by
  intro Psi hf
  show Go _ _ _ _ _ 0 [(0, .ref hm), (1, .int (x)), (2, .int (y)), (3, .int (v))] [] _ Psi
  refine go_aload_n (pc := 0) 0 0 rfl rfl eY_map_0 ?_
  refine go_iload_n (pc := 1) 1 1 rfl rfl eY_map_1 ?_
  refine go_rV (pc := 2) 6 (d_isSpaceF x hx) okY_isSpace lmY_42 eY_map_2 rfl rfl rfl rfl rfl (Nat.le_of_ble_eq_true rfl) (Nat.le_of_ble_eq_true rfl) ?_
  refine go_if_eq (pc := 5) 19 (by decide) eY_map_5 (fun c5 => ?_) (fun c5 => ?_)
  · refine go_iconst (pc := 19) (v := 0) (by decide) eY_map_19 ?_
    refine go_istore (pc := 20) (ls' := [(4, _), (0, _), (1, _), (2, _), (3, _)]) 4 (by decide) eY_map_20 rfl ?_
    refine go_aload_n (pc := 22) 0 1 rfl rfl eY_map_22 ?_
    refine go_aload_n (pc := 23) 0 1 rfl rfl eY_map_23 ?_
    refine go_iload_n (pc := 24) 1 2 rfl rfl eY_map_24 ?_
    refine go_rV (pc := 25) 6 (d_isSpaceF x hx) okY_isSpace lmY_42 eY_map_25 rfl rfl rfl rfl rfl (Nat.le_of_ble_eq_true rfl) (Nat.le_of_ble_eq_true rfl) ?_
    refine go_if_ne (pc := 28) 35 (by decide) eY_map_28 (fun c28 => ?_) (fun c28 => ?_)
    · exact absurd rfl c28
    · refine go_iconst (pc := 31) (v := 1) (by decide) eY_map_31 ?_
      refine go_goto (pc := 32) 36 (by decide) eY_map_32 ?_
      obtain ⟨b, hb01, hpg⟩ := d_isPage (D := D) (cI := cI) (cB := cB) (cL := cL) (bb := bb) (L := L) (xs := xs) y
      refine go_iload_n (pc := 36) 2 3 rfl rfl eY_map_36 ?_
      refine go_rS (pc := 37) (hpg _ _) okY_isPage lmY_57 eY_map_37 rfl rfl (Nat.le_of_ble_eq_true rfl) (Nat.le_of_ble_eq_true rfl) ?_
      refine go_if_ne (pc := 40) 47 (by decide) eY_map_40 (fun c40 => ?_) (fun c40 => ?_)
      · refine go_iconst (pc := 47) (v := 0) (by decide) eY_map_47 ?_
        refine go_iload (pc := 48) 4 0 rfl eY_map_48 ?_
        refine go_if_eq (pc := 50) 91 (by decide) eY_map_50 (fun c50 => ?_) (fun c50 => ?_)
        · refine go_iconst (pc := 91) (v := 0) (by decide) eY_map_91 ?_
          refine go_rV (pc := 92) 6 (d_fails1 _ 0) okY_fails lmY_46 eY_map_92 rfl rfl rfl rfl rfl (Nat.le_of_ble_eq_true rfl) (Nat.le_of_ble_eq_true rfl) ?_
          refine go_if_eq (pc := 95) 100 (by decide) eY_map_95 (fun c95 => ?_) (fun c95 => ?_)
          · exact absurd c95 (by decide)
          · refine go_iconst (pc := 98) (v := 0) (by decide) eY_map_98 ?_
            exact go_iret (pc := 99) rfl rfl eY_map_99 (hf)
        · exact absurd rfl c50
      · refine go_iconst (pc := 43) (v := 1) (by decide) eY_map_43 ?_
        refine go_goto (pc := 44) 48 (by decide) eY_map_44 ?_
        refine go_iload (pc := 48) 4 0 rfl eY_map_48 ?_
        refine go_if_eq (pc := 50) 91 (by decide) eY_map_50 (fun c50 => ?_) (fun c50 => ?_)
        · refine go_iconst (pc := 91) (v := 0) (by decide) eY_map_91 ?_
          refine go_rV (pc := 92) 6 (d_fails1 _ 0) okY_fails lmY_46 eY_map_92 rfl rfl rfl rfl rfl (Nat.le_of_ble_eq_true rfl) (Nat.le_of_ble_eq_true rfl) ?_
          refine go_if_eq (pc := 95) 100 (by decide) eY_map_95 (fun c95 => ?_) (fun c95 => ?_)
          · exact absurd c95 (by decide)
          · refine go_iconst (pc := 98) (v := 0) (by decide) eY_map_98 ?_
            exact go_iret (pc := 99) rfl rfl eY_map_99 (hf)
        · exact absurd rfl c50
  · exact absurd rfl c5
set_option maxRecDepth 100000 in
set_option maxHeartbeats 1000000 in
theorem e_map2 (s : Nat) (hs : s < 6) (hth : th s = true) (y : Int32) (hy : ∀ j, j < 8 → y ≠ nI j) (v : Int32) : Ret (gg D cI cB cL bb L xs) mY_map (n + 1) 0 0 [.ref hm, .int (nI s), .int (y), .int (v)] (zW z0 z1 z2 z3 z4 z5 cI cB hm b1 b2 b3 b4 cd F sx pd th sm u rest) (some (.int (0))) (zW z0 z1 z2 z3 z4 z5 cI cB hm b1 b2 b3 b4 2 F sx pd th sm u rest) := by
  intro Psi hf
  show Go _ _ _ _ _ 0 [(0, .ref hm), (1, .int (nI s)), (2, .int (y)), (3, .int (v))] [] _ Psi
  refine go_aload_n (pc := 0) 0 0 rfl rfl eY_map_0 ?_
  refine go_iload_n (pc := 1) 1 1 rfl rfl eY_map_1 ?_
  refine go_rV (pc := 2) 6 (d_isSpaceT s hs hth) okY_isSpace lmY_42 eY_map_2 rfl rfl rfl rfl rfl (Nat.le_of_ble_eq_true rfl) (Nat.le_of_ble_eq_true rfl) ?_
  refine go_if_eq (pc := 5) 19 (by decide) eY_map_5 (fun c5 => ?_) (fun c5 => ?_)
  · exact absurd c5 (by decide)
  · refine go_iload_n (pc := 8) 2 2 rfl rfl eY_map_8 ?_
    refine go_rS (pc := 9) (d_isPageF y hy) okY_isPage lmY_57 eY_map_9 rfl rfl (Nat.le_of_ble_eq_true rfl) (Nat.le_of_ble_eq_true rfl) ?_
    refine go_if_eq (pc := 12) 19 (by decide) eY_map_12 (fun c12 => ?_) (fun c12 => ?_)
    · refine go_iconst (pc := 19) (v := 0) (by decide) eY_map_19 ?_
      refine go_istore (pc := 20) (ls' := [(4, _), (0, _), (1, _), (2, _), (3, _)]) 4 (by decide) eY_map_20 rfl ?_
      refine go_aload_n (pc := 22) 0 1 rfl rfl eY_map_22 ?_
      refine go_aload_n (pc := 23) 0 1 rfl rfl eY_map_23 ?_
      refine go_iload_n (pc := 24) 1 2 rfl rfl eY_map_24 ?_
      refine go_rV (pc := 25) 6 (d_isSpaceT s hs hth) okY_isSpace lmY_42 eY_map_25 rfl rfl rfl rfl rfl (Nat.le_of_ble_eq_true rfl) (Nat.le_of_ble_eq_true rfl) ?_
      refine go_if_ne (pc := 28) 35 (by decide) eY_map_28 (fun c28 => ?_) (fun c28 => ?_)
      · refine go_iconst (pc := 35) (v := 0) (by decide) eY_map_35 ?_
        refine go_iload_n (pc := 36) 2 3 rfl rfl eY_map_36 ?_
        refine go_rS (pc := 37) (d_isPageF y hy) okY_isPage lmY_57 eY_map_37 rfl rfl (Nat.le_of_ble_eq_true rfl) (Nat.le_of_ble_eq_true rfl) ?_
        refine go_if_ne (pc := 40) 47 (by decide) eY_map_40 (fun c40 => ?_) (fun c40 => ?_)
        · exact absurd rfl c40
        · refine go_iconst (pc := 43) (v := 1) (by decide) eY_map_43 ?_
          refine go_goto (pc := 44) 48 (by decide) eY_map_44 ?_
          refine go_iload (pc := 48) 4 0 rfl eY_map_48 ?_
          refine go_if_eq (pc := 50) 91 (by decide) eY_map_50 (fun c50 => ?_) (fun c50 => ?_)
          · refine go_iconst (pc := 91) (v := 0) (by decide) eY_map_91 ?_
            refine go_rV (pc := 92) 6 (d_fails2 0) okY_fails lmY_46 eY_map_92 rfl rfl rfl rfl rfl (Nat.le_of_ble_eq_true rfl) (Nat.le_of_ble_eq_true rfl) ?_
            refine go_if_eq (pc := 95) 100 (by decide) eY_map_95 (fun c95 => ?_) (fun c95 => ?_)
            · exact absurd c95 (by decide)
            · refine go_iconst (pc := 98) (v := 0) (by decide) eY_map_98 ?_
              exact go_iret (pc := 99) rfl rfl eY_map_99 (hf)
          · exact absurd rfl c50
      · exact absurd c28 (by decide)
    · exact absurd rfl c12
set_option maxRecDepth 100000 in
set_option maxHeartbeats 1000000 in
theorem d_cell (hsm : ∀ k, sm k < 2 ^ 30) (s : Nat) (hs : s < 6) (hth : th s = true) (a : Nat) (ha : a < 128) (h0 : sm (8 * s + a / 16) ≠ 0) : Ret (gg D cI cB cL bb L xs) mY_cell (n + 1) 0 0 [.ref hm, .int (nI s), .int (nI a)] (zW z0 z1 z2 z3 z4 z5 cI cB hm b1 b2 b3 b4 cd F sx pd th sm u rest) (some (.int (nI (16 * (8 * s + a / 16) + a % 16)))) (zW z0 z1 z2 z3 z4 z5 cI cB hm b1 b2 b3 b4 0 F sx pd th sm u rest) := by
  intro Psi hf
  show Go _ _ _ _ _ 0 [(0, .ref hm), (1, .int (nI s)), (2, .int (nI a))] [] _ Psi
  refine go_iload_n (pc := 0) 2 2 rfl rfl eY_cell_0 ?_
  refine go_if_lt (pc := 1) 15 (by decide) eY_cell_1 (fun c1 => ?_) (fun c1 => ?_)
  · exact absurd c1 (nI_pos (by omega))
  · refine go_iload_n (pc := 4) 2 2 rfl rfl eY_cell_4 ?_
    refine go_sipush (pc := 5) (v := 128) (by decide) eY_cell_5 ?_
    refine go_icmp_ge (pc := 8) 15 (by decide) eY_cell_8 (fun c8 => ?_) (fun c8 => ?_)
    · exact absurd c8 (nI_ge (b := 128) (by omega) (by omega))
    · refine go_iconst (pc := 11) (v := 1) (by decide) eY_cell_11 ?_
      refine go_goto (pc := 12) 16 (by decide) eY_cell_12 ?_
      refine go_istore_n (pc := 16) (ls' := [(3, _), (0, _), (1, _), (2, _)]) 3 rfl (by decide) eY_cell_16 rfl ?_
      refine go_iload_n (pc := 17) 3 0 rfl rfl eY_cell_17 ?_
      refine go_if_eq (pc := 18) 41 (by decide) eY_cell_18 (fun c18 => ?_) (fun c18 => ?_)
      · exact absurd c18 (by decide)
      · refine go_aload_n (pc := 21) 0 1 rfl rfl eY_cell_21 ?_
        refine go_iload_n (pc := 22) 1 2 rfl rfl eY_cell_22 ?_
        refine go_rV (pc := 23) 6 (d_isSpaceT s hs hth) okY_isSpace lmY_42 eY_cell_23 rfl rfl rfl rfl rfl (Nat.le_of_ble_eq_true rfl) (Nat.le_of_ble_eq_true rfl) ?_
        refine go_if_eq (pc := 26) 41 (by decide) eY_cell_26 (fun c26 => ?_) (fun c26 => ?_)
        · exact absurd c26 (by decide)
        · refine go_iconst (pc := 29) (v := 0) (by decide) eY_cell_29 ?_
          refine go_iload_n (pc := 30) 1 2 rfl rfl eY_cell_30 ?_
          refine go_iload_n (pc := 31) 2 3 rfl rfl eY_cell_31 ?_
          refine go_bipush (pc := 32) (v := 16) (by decide) eY_cell_32 ?_
          refine go_idiv (pc := 34) (by decide) eY_cell_34 ?_
          rw [show (16 : Int32) = nI 16 from rfl, pk_div (a := a) (d := 16) (by omega) (by omega) (by omega)]
          refine go_rS (pc := 35) (d_page0 s (a / 16)) okY_page lmY_34 eY_cell_35 rfl rfl (Nat.le_of_ble_eq_true rfl) (Nat.le_of_ble_eq_true rfl) ?_
          refine go_goto (pc := 38) 42 (by decide) eY_cell_38 ?_
          refine go_istore (pc := 42) (ls' := [(4, _), (3, _), (0, _), (1, _), (2, _)]) 4 (by decide) eY_cell_42 rfl ?_
          refine go_iload (pc := 44) 4 0 rfl eY_cell_44 ?_
          refine go_if_lt (pc := 46) 72 (by decide) eY_cell_46 (fun c46 => ?_) (fun c46 => ?_)
          · exact absurd c46 (nI_pos (by omega))
          · refine go_aload_n (pc := 49) 0 2 rfl rfl eY_cell_49 ?_
            refine go_get (pc := 50) hwY 6 rfl rfl 5 (by decide) lkY_16 rfl eY_cell_50 ?_
            refine go_iload (pc := 53) 4 0 rfl eY_cell_53 ?_
            refine go_if_ge (pc := 55) 62 (by decide) eY_cell_55 (fun c55 => ?_) (fun c55 => ?_)
            · refine go_iload (pc := 62) 4 0 rfl eY_cell_62 ?_
              refine go_ialdN (pc := 64) 9 0 (8 * s + a / 16) eY_cell_64 rfl rfl (rfl) (by omega) (by omega) ?_
              refine go_if_le (pc := 65) 72 (by decide) eY_cell_65 (fun c65 => ?_) (fun c65 => ?_)
              · exact absurd ((nI_lz (by have := hsm (8 * s + a / 16); omega)).mp c65) h0
              · refine go_iconst (pc := 68) (v := 1) (by decide) eY_cell_68 ?_
                refine go_goto (pc := 69) 73 (by decide) eY_cell_69 ?_
                refine go_istore (pc := 73) (ls' := [(5, _), (4, _), (3, _), (0, _), (1, _), (2, _)]) 5 (by decide) eY_cell_73 rfl ?_
                refine go_aload_n (pc := 75) 0 3 rfl rfl eY_cell_75 ?_
                refine go_iload_n (pc := 76) 3 2 rfl rfl eY_cell_76 ?_
                refine go_if_ne (pc := 77) 84 (by decide) eY_cell_77 (fun c77 => ?_) (fun c77 => ?_)
                · refine go_iconst (pc := 84) (v := 0) (by decide) eY_cell_84 ?_
                  refine go_iload (pc := 85) 5 0 rfl eY_cell_85 ?_
                  refine go_if_ne (pc := 87) 94 (by decide) eY_cell_87 (fun c87 => ?_) (fun c87 => ?_)
                  · refine go_iconst (pc := 94) (v := 0) (by decide) eY_cell_94 ?_
                    refine go_iconst (pc := 95) (v := 0) (by decide) eY_cell_95 ?_
                    refine go_rV (pc := 96) 6 (d_fails0) okY_fails lmY_46 eY_cell_96 rfl rfl rfl rfl rfl (Nat.le_of_ble_eq_true rfl) (Nat.le_of_ble_eq_true rfl) ?_
                    refine go_pop (pc := 99) rfl eY_cell_99 ?_
                    refine go_iload (pc := 100) 5 0 rfl eY_cell_100 ?_
                    refine go_if_eq (pc := 102) 118 (by decide) eY_cell_102 (fun c102 => ?_) (fun c102 => ?_)
                    · exact absurd c102 (by decide)
                    · refine go_bipush (pc := 105) (v := 16) (by decide) eY_cell_105 ?_
                      refine go_iload (pc := 107) 4 1 rfl eY_cell_107 ?_
                      refine go_imul (pc := 109) eY_cell_109 ?_
                      refine go_iload_n (pc := 110) 2 5 rfl rfl eY_cell_110 ?_
                      refine go_bipush (pc := 111) (v := 16) (by decide) eY_cell_111 ?_
                      refine go_irem (pc := 113) (by decide) eY_cell_113 ?_
                      refine go_iadd (pc := 114) eY_cell_114 ?_
                      rw [show (16 : Int32) = nI 16 from rfl, pk_rem (a := a) (d := 16) (by omega) (by omega) (by omega), pk_mul, nI_add]
                      refine go_goto (pc := 115) 119 (by decide) eY_cell_115 ?_
                      exact go_iret (pc := 119) rfl rfl eY_cell_119 (hf)
                  · exact absurd c87 (by decide)
                · exact absurd c77 (by decide)
            · exact absurd (nI_pos' (by omega)) c55
set_option maxRecDepth 100000 in
set_option maxHeartbeats 1000000 in
theorem e_cell3 (hsm : ∀ k, sm k < 2 ^ 30) (s : Nat) (hs : s < 6) (hth : th s = true) (a : Nat) (ha : a < 128) (h0 : sm (8 * s + a / 16) = 0) : Ret (gg D cI cB cL bb L xs) mY_cell (n + 1) 0 0 [.ref hm, .int (nI s), .int (nI a)] (zW z0 z1 z2 z3 z4 z5 cI cB hm b1 b2 b3 b4 cd F sx pd th sm u rest) (some (.int (-1))) (zW z0 z1 z2 z3 z4 z5 cI cB hm b1 b2 b3 b4 2 F sx pd th sm u rest) := by
  intro Psi hf
  show Go _ _ _ _ _ 0 [(0, .ref hm), (1, .int (nI s)), (2, .int (nI a))] [] _ Psi
  refine go_iload_n (pc := 0) 2 2 rfl rfl eY_cell_0 ?_
  refine go_if_lt (pc := 1) 15 (by decide) eY_cell_1 (fun c1 => ?_) (fun c1 => ?_)
  · exact absurd c1 (nI_pos (by omega))
  · refine go_iload_n (pc := 4) 2 2 rfl rfl eY_cell_4 ?_
    refine go_sipush (pc := 5) (v := 128) (by decide) eY_cell_5 ?_
    refine go_icmp_ge (pc := 8) 15 (by decide) eY_cell_8 (fun c8 => ?_) (fun c8 => ?_)
    · exact absurd c8 (nI_ge (b := 128) (by omega) (by omega))
    · refine go_iconst (pc := 11) (v := 1) (by decide) eY_cell_11 ?_
      refine go_goto (pc := 12) 16 (by decide) eY_cell_12 ?_
      refine go_istore_n (pc := 16) (ls' := [(3, _), (0, _), (1, _), (2, _)]) 3 rfl (by decide) eY_cell_16 rfl ?_
      refine go_iload_n (pc := 17) 3 0 rfl rfl eY_cell_17 ?_
      refine go_if_eq (pc := 18) 41 (by decide) eY_cell_18 (fun c18 => ?_) (fun c18 => ?_)
      · exact absurd c18 (by decide)
      · refine go_aload_n (pc := 21) 0 1 rfl rfl eY_cell_21 ?_
        refine go_iload_n (pc := 22) 1 2 rfl rfl eY_cell_22 ?_
        refine go_rV (pc := 23) 6 (d_isSpaceT s hs hth) okY_isSpace lmY_42 eY_cell_23 rfl rfl rfl rfl rfl (Nat.le_of_ble_eq_true rfl) (Nat.le_of_ble_eq_true rfl) ?_
        refine go_if_eq (pc := 26) 41 (by decide) eY_cell_26 (fun c26 => ?_) (fun c26 => ?_)
        · exact absurd c26 (by decide)
        · refine go_iconst (pc := 29) (v := 0) (by decide) eY_cell_29 ?_
          refine go_iload_n (pc := 30) 1 2 rfl rfl eY_cell_30 ?_
          refine go_iload_n (pc := 31) 2 3 rfl rfl eY_cell_31 ?_
          refine go_bipush (pc := 32) (v := 16) (by decide) eY_cell_32 ?_
          refine go_idiv (pc := 34) (by decide) eY_cell_34 ?_
          rw [show (16 : Int32) = nI 16 from rfl, pk_div (a := a) (d := 16) (by omega) (by omega) (by omega)]
          refine go_rS (pc := 35) (d_page0 s (a / 16)) okY_page lmY_34 eY_cell_35 rfl rfl (Nat.le_of_ble_eq_true rfl) (Nat.le_of_ble_eq_true rfl) ?_
          refine go_goto (pc := 38) 42 (by decide) eY_cell_38 ?_
          refine go_istore (pc := 42) (ls' := [(4, _), (3, _), (0, _), (1, _), (2, _)]) 4 (by decide) eY_cell_42 rfl ?_
          refine go_iload (pc := 44) 4 0 rfl eY_cell_44 ?_
          refine go_if_lt (pc := 46) 72 (by decide) eY_cell_46 (fun c46 => ?_) (fun c46 => ?_)
          · exact absurd c46 (nI_pos (by omega))
          · refine go_aload_n (pc := 49) 0 2 rfl rfl eY_cell_49 ?_
            refine go_get (pc := 50) hwY 6 rfl rfl 5 (by decide) lkY_16 rfl eY_cell_50 ?_
            refine go_iload (pc := 53) 4 0 rfl eY_cell_53 ?_
            refine go_if_ge (pc := 55) 62 (by decide) eY_cell_55 (fun c55 => ?_) (fun c55 => ?_)
            · refine go_iload (pc := 62) 4 0 rfl eY_cell_62 ?_
              refine go_ialdN (pc := 64) 9 0 (8 * s + a / 16) eY_cell_64 rfl rfl (rfl) (by omega) (by omega) ?_
              refine go_if_le (pc := 65) 72 (by decide) eY_cell_65 (fun c65 => ?_) (fun c65 => ?_)
              · refine go_iconst (pc := 72) (v := 0) (by decide) eY_cell_72 ?_
                refine go_istore (pc := 73) (ls' := [(5, _), (4, _), (3, _), (0, _), (1, _), (2, _)]) 5 (by decide) eY_cell_73 rfl ?_
                refine go_aload_n (pc := 75) 0 3 rfl rfl eY_cell_75 ?_
                refine go_iload_n (pc := 76) 3 2 rfl rfl eY_cell_76 ?_
                refine go_if_ne (pc := 77) 84 (by decide) eY_cell_77 (fun c77 => ?_) (fun c77 => ?_)
                · refine go_iconst (pc := 84) (v := 0) (by decide) eY_cell_84 ?_
                  refine go_iload (pc := 85) 5 0 rfl eY_cell_85 ?_
                  refine go_if_ne (pc := 87) 94 (by decide) eY_cell_87 (fun c87 => ?_) (fun c87 => ?_)
                  · exact absurd rfl c87
                  · refine go_iconst (pc := 90) (v := 1) (by decide) eY_cell_90 ?_
                    refine go_goto (pc := 91) 95 (by decide) eY_cell_91 ?_
                    refine go_iconst (pc := 95) (v := 0) (by decide) eY_cell_95 ?_
                    refine go_rV (pc := 96) 6 (d_fails2 0) okY_fails lmY_46 eY_cell_96 rfl rfl rfl rfl rfl (Nat.le_of_ble_eq_true rfl) (Nat.le_of_ble_eq_true rfl) ?_
                    refine go_pop (pc := 99) rfl eY_cell_99 ?_
                    refine go_iload (pc := 100) 5 0 rfl eY_cell_100 ?_
                    refine go_if_eq (pc := 102) 118 (by decide) eY_cell_102 (fun c102 => ?_) (fun c102 => ?_)
                    · refine go_iconst (pc := 118) (v := (-1)) (by decide) eY_cell_118 ?_
                      exact go_iret (pc := 119) rfl rfl eY_cell_119 (hf)
                    · exact absurd rfl c102
                · exact absurd c77 (by decide)
              · exact absurd ((nI_lz (by have := hsm (8 * s + a / 16); omega)).mpr h0) c65
            · exact absurd (nI_pos' (by omega)) c55
set_option maxRecDepth 100000 in
set_option maxHeartbeats 1000000 in
theorem e_cell2 (x : Int32) (hx : ∀ j, j < 6 → x = nI j → th j = false) (a : Nat) (ha : a < 128) : Ret (gg D cI cB cL bb L xs) mY_cell (n + 1) 0 0 [.ref hm, .int (x), .int (nI a)] (zW z0 z1 z2 z3 z4 z5 cI cB hm b1 b2 b3 b4 cd F sx pd th sm u rest) (some (.int (-1))) (zW z0 z1 z2 z3 z4 z5 cI cB hm b1 b2 b3 b4 2 F sx pd th sm u rest) := by
  intro Psi hf
  show Go _ _ _ _ _ 0 [(0, .ref hm), (1, .int (x)), (2, .int (nI a))] [] _ Psi
  refine go_iload_n (pc := 0) 2 2 rfl rfl eY_cell_0 ?_
  refine go_if_lt (pc := 1) 15 (by decide) eY_cell_1 (fun c1 => ?_) (fun c1 => ?_)
  · exact absurd c1 (nI_pos (by omega))
  · refine go_iload_n (pc := 4) 2 2 rfl rfl eY_cell_4 ?_
    refine go_sipush (pc := 5) (v := 128) (by decide) eY_cell_5 ?_
    refine go_icmp_ge (pc := 8) 15 (by decide) eY_cell_8 (fun c8 => ?_) (fun c8 => ?_)
    · exact absurd c8 (nI_ge (b := 128) (by omega) (by omega))
    · refine go_iconst (pc := 11) (v := 1) (by decide) eY_cell_11 ?_
      refine go_goto (pc := 12) 16 (by decide) eY_cell_12 ?_
      refine go_istore_n (pc := 16) (ls' := [(3, _), (0, _), (1, _), (2, _)]) 3 rfl (by decide) eY_cell_16 rfl ?_
      refine go_iload_n (pc := 17) 3 0 rfl rfl eY_cell_17 ?_
      refine go_if_eq (pc := 18) 41 (by decide) eY_cell_18 (fun c18 => ?_) (fun c18 => ?_)
      · exact absurd c18 (by decide)
      · refine go_aload_n (pc := 21) 0 1 rfl rfl eY_cell_21 ?_
        refine go_iload_n (pc := 22) 1 2 rfl rfl eY_cell_22 ?_
        refine go_rV (pc := 23) 6 (d_isSpaceF x hx) okY_isSpace lmY_42 eY_cell_23 rfl rfl rfl rfl rfl (Nat.le_of_ble_eq_true rfl) (Nat.le_of_ble_eq_true rfl) ?_
        refine go_if_eq (pc := 26) 41 (by decide) eY_cell_26 (fun c26 => ?_) (fun c26 => ?_)
        · refine go_iconst (pc := 41) (v := (-1)) (by decide) eY_cell_41 ?_
          refine go_istore (pc := 42) (ls' := [(4, _), (3, _), (0, _), (1, _), (2, _)]) 4 (by decide) eY_cell_42 rfl ?_
          refine go_iload (pc := 44) 4 0 rfl eY_cell_44 ?_
          refine go_if_lt (pc := 46) 72 (by decide) eY_cell_46 (fun c46 => ?_) (fun c46 => ?_)
          · refine go_iconst (pc := 72) (v := 0) (by decide) eY_cell_72 ?_
            refine go_istore (pc := 73) (ls' := [(5, _), (4, _), (3, _), (0, _), (1, _), (2, _)]) 5 (by decide) eY_cell_73 rfl ?_
            refine go_aload_n (pc := 75) 0 3 rfl rfl eY_cell_75 ?_
            refine go_iload_n (pc := 76) 3 2 rfl rfl eY_cell_76 ?_
            refine go_if_ne (pc := 77) 84 (by decide) eY_cell_77 (fun c77 => ?_) (fun c77 => ?_)
            · refine go_iconst (pc := 84) (v := 0) (by decide) eY_cell_84 ?_
              refine go_iload (pc := 85) 5 0 rfl eY_cell_85 ?_
              refine go_if_ne (pc := 87) 94 (by decide) eY_cell_87 (fun c87 => ?_) (fun c87 => ?_)
              · exact absurd rfl c87
              · refine go_iconst (pc := 90) (v := 1) (by decide) eY_cell_90 ?_
                refine go_goto (pc := 91) 95 (by decide) eY_cell_91 ?_
                refine go_iconst (pc := 95) (v := 0) (by decide) eY_cell_95 ?_
                refine go_rV (pc := 96) 6 (d_fails2 0) okY_fails lmY_46 eY_cell_96 rfl rfl rfl rfl rfl (Nat.le_of_ble_eq_true rfl) (Nat.le_of_ble_eq_true rfl) ?_
                refine go_pop (pc := 99) rfl eY_cell_99 ?_
                refine go_iload (pc := 100) 5 0 rfl eY_cell_100 ?_
                refine go_if_eq (pc := 102) 118 (by decide) eY_cell_102 (fun c102 => ?_) (fun c102 => ?_)
                · refine go_iconst (pc := 118) (v := (-1)) (by decide) eY_cell_118 ?_
                  exact go_iret (pc := 119) rfl rfl eY_cell_119 (hf)
                · exact absurd rfl c102
            · exact absurd c77 (by decide)
          · exact absurd c46 (by decide)
        · exact absurd rfl c26
set_option maxRecDepth 100000 in
set_option maxHeartbeats 1000000 in
theorem e_cell1 (x y : Int32) (hy : ∀ j, j < 128 → y ≠ nI j) : Ret (gg D cI cB cL bb L xs) mY_cell (n + 1) 0 0 [.ref hm, .int (x), .int (y)] (zW z0 z1 z2 z3 z4 z5 cI cB hm b1 b2 b3 b4 cd F sx pd th sm u rest) (some (.int (-1))) (zW z0 z1 z2 z3 z4 z5 cI cB hm b1 b2 b3 b4 1 F sx pd th sm u rest) := by
  intro Psi hf
  show Go _ _ _ _ _ 0 [(0, .ref hm), (1, .int (x)), (2, .int (y))] [] _ Psi
  refine go_iload_n (pc := 0) 2 2 rfl rfl eY_cell_0 ?_
  refine go_if_lt (pc := 1) 15 (by decide) eY_cell_1 (fun c1 => ?_) (fun c1 => ?_)
  · refine go_iconst (pc := 15) (v := 0) (by decide) eY_cell_15 ?_
    refine go_istore_n (pc := 16) (ls' := [(3, _), (0, _), (1, _), (2, _)]) 3 rfl (by decide) eY_cell_16 rfl ?_
    refine go_iload_n (pc := 17) 3 0 rfl rfl eY_cell_17 ?_
    refine go_if_eq (pc := 18) 41 (by decide) eY_cell_18 (fun c18 => ?_) (fun c18 => ?_)
    · refine go_iconst (pc := 41) (v := (-1)) (by decide) eY_cell_41 ?_
      refine go_istore (pc := 42) (ls' := [(4, _), (3, _), (0, _), (1, _), (2, _)]) 4 (by decide) eY_cell_42 rfl ?_
      refine go_iload (pc := 44) 4 0 rfl eY_cell_44 ?_
      refine go_if_lt (pc := 46) 72 (by decide) eY_cell_46 (fun c46 => ?_) (fun c46 => ?_)
      · refine go_iconst (pc := 72) (v := 0) (by decide) eY_cell_72 ?_
        refine go_istore (pc := 73) (ls' := [(5, _), (4, _), (3, _), (0, _), (1, _), (2, _)]) 5 (by decide) eY_cell_73 rfl ?_
        refine go_aload_n (pc := 75) 0 3 rfl rfl eY_cell_75 ?_
        refine go_iload_n (pc := 76) 3 2 rfl rfl eY_cell_76 ?_
        refine go_if_ne (pc := 77) 84 (by decide) eY_cell_77 (fun c77 => ?_) (fun c77 => ?_)
        · exact absurd rfl c77
        · refine go_iconst (pc := 80) (v := 1) (by decide) eY_cell_80 ?_
          refine go_goto (pc := 81) 85 (by decide) eY_cell_81 ?_
          refine go_iload (pc := 85) 5 0 rfl eY_cell_85 ?_
          refine go_if_ne (pc := 87) 94 (by decide) eY_cell_87 (fun c87 => ?_) (fun c87 => ?_)
          · exact absurd rfl c87
          · refine go_iconst (pc := 90) (v := 1) (by decide) eY_cell_90 ?_
            refine go_goto (pc := 91) 95 (by decide) eY_cell_91 ?_
            refine go_iconst (pc := 95) (v := 0) (by decide) eY_cell_95 ?_
            refine go_rV (pc := 96) 6 (d_fails1 1 0) okY_fails lmY_46 eY_cell_96 rfl rfl rfl rfl rfl (Nat.le_of_ble_eq_true rfl) (Nat.le_of_ble_eq_true rfl) ?_
            refine go_pop (pc := 99) rfl eY_cell_99 ?_
            refine go_iload (pc := 100) 5 0 rfl eY_cell_100 ?_
            refine go_if_eq (pc := 102) 118 (by decide) eY_cell_102 (fun c102 => ?_) (fun c102 => ?_)
            · refine go_iconst (pc := 118) (v := (-1)) (by decide) eY_cell_118 ?_
              exact go_iret (pc := 119) rfl rfl eY_cell_119 (hf)
            · exact absurd rfl c102
      · exact absurd c46 (by decide)
    · exact absurd rfl c18
  · refine go_iload_n (pc := 4) 2 2 rfl rfl eY_cell_4 ?_
    refine go_sipush (pc := 5) (v := 128) (by decide) eY_cell_5 ?_
    refine go_icmp_ge (pc := 8) 15 (by decide) eY_cell_8 (fun c8 => ?_) (fun c8 => ?_)
    · refine go_iconst (pc := 15) (v := 0) (by decide) eY_cell_15 ?_
      refine go_istore_n (pc := 16) (ls' := [(3, _), (0, _), (1, _), (2, _)]) 3 rfl (by decide) eY_cell_16 rfl ?_
      refine go_iload_n (pc := 17) 3 0 rfl rfl eY_cell_17 ?_
      refine go_if_eq (pc := 18) 41 (by decide) eY_cell_18 (fun c18 => ?_) (fun c18 => ?_)
      · refine go_iconst (pc := 41) (v := (-1)) (by decide) eY_cell_41 ?_
        refine go_istore (pc := 42) (ls' := [(4, _), (3, _), (0, _), (1, _), (2, _)]) 4 (by decide) eY_cell_42 rfl ?_
        refine go_iload (pc := 44) 4 0 rfl eY_cell_44 ?_
        refine go_if_lt (pc := 46) 72 (by decide) eY_cell_46 (fun c46 => ?_) (fun c46 => ?_)
        · refine go_iconst (pc := 72) (v := 0) (by decide) eY_cell_72 ?_
          refine go_istore (pc := 73) (ls' := [(5, _), (4, _), (3, _), (0, _), (1, _), (2, _)]) 5 (by decide) eY_cell_73 rfl ?_
          refine go_aload_n (pc := 75) 0 3 rfl rfl eY_cell_75 ?_
          refine go_iload_n (pc := 76) 3 2 rfl rfl eY_cell_76 ?_
          refine go_if_ne (pc := 77) 84 (by decide) eY_cell_77 (fun c77 => ?_) (fun c77 => ?_)
          · exact absurd rfl c77
          · refine go_iconst (pc := 80) (v := 1) (by decide) eY_cell_80 ?_
            refine go_goto (pc := 81) 85 (by decide) eY_cell_81 ?_
            refine go_iload (pc := 85) 5 0 rfl eY_cell_85 ?_
            refine go_if_ne (pc := 87) 94 (by decide) eY_cell_87 (fun c87 => ?_) (fun c87 => ?_)
            · exact absurd rfl c87
            · refine go_iconst (pc := 90) (v := 1) (by decide) eY_cell_90 ?_
              refine go_goto (pc := 91) 95 (by decide) eY_cell_91 ?_
              refine go_iconst (pc := 95) (v := 0) (by decide) eY_cell_95 ?_
              refine go_rV (pc := 96) 6 (d_fails1 1 0) okY_fails lmY_46 eY_cell_96 rfl rfl rfl rfl rfl (Nat.le_of_ble_eq_true rfl) (Nat.le_of_ble_eq_true rfl) ?_
              refine go_pop (pc := 99) rfl eY_cell_99 ?_
              refine go_iload (pc := 100) 5 0 rfl eY_cell_100 ?_
              refine go_if_eq (pc := 102) 118 (by decide) eY_cell_102 (fun c102 => ?_) (fun c102 => ?_)
              · refine go_iconst (pc := 118) (v := (-1)) (by decide) eY_cell_118 ?_
                exact go_iret (pc := 119) rfl rfl eY_cell_119 (hf)
              · exact absurd rfl c102
        · exact absurd c46 (by decide)
      · exact absurd rfl c18
    · rcases pk_ix y (n := 128) (by omega) with q | q | ⟨j, hj, q⟩
      · exact absurd q c1
      · exact absurd q c8
      · exact absurd q (hy j hj)
set_option maxRecDepth 100000 in
set_option maxHeartbeats 1000000 in
theorem d_read (hsm : ∀ k, sm k < 2 ^ 30) (s : Nat) (hs : s < 6) (hth : th s = true) (a : Nat) (ha : a < 128) (h0 : sm (8 * s + a / 16) ≠ 0) : Ret (gg D cI cB cL bb L xs) mY_read (n + 2) 0 0 [.ref hm, .int (nI s), .int (nI a)] (zW z0 z1 z2 z3 z4 z5 cI cB hm b1 b2 b3 b4 cd F sx pd th sm u rest) (some (.int (u (16 * (8 * s + a / 16) + a % 16)))) (zW z0 z1 z2 z3 z4 z5 cI cB hm b1 b2 b3 b4 0 F sx pd th sm u rest) := by
  intro Psi hf
  show Go _ _ _ _ _ 0 [(0, .ref hm), (1, .int (nI s)), (2, .int (nI a))] [] _ Psi
  refine go_aload_n (pc := 0) 0 0 rfl rfl eY_read_0 ?_
  refine go_iload_n (pc := 1) 1 1 rfl rfl eY_read_1 ?_
  refine go_iload_n (pc := 2) 2 2 rfl rfl eY_read_2 ?_
  refine go_rV (pc := 3) 6 (d_cell hsm s hs hth a ha h0) okY_cell lmY_66 eY_read_3 rfl rfl rfl rfl rfl (Nat.le_of_ble_eq_true rfl) (Nat.le_of_ble_eq_true rfl) ?_
  refine go_istore_n (pc := 6) (ls' := [(3, _), (0, _), (1, _), (2, _)]) 3 rfl (by decide) eY_read_6 rfl ?_
  refine go_iload_n (pc := 7) 3 0 rfl rfl eY_read_7 ?_
  refine go_if_ge (pc := 8) 15 (by decide) eY_read_8 (fun c8 => ?_) (fun c8 => ?_)
  · refine go_aload_n (pc := 15) 0 1 rfl rfl eY_read_15 ?_
    refine go_get (pc := 16) hwY 6 rfl rfl 6 (by decide) lkY_20 rfl eY_read_16 ?_
    refine go_iload_n (pc := 19) 3 0 rfl rfl eY_read_19 ?_
    refine go_ialdN (pc := 20) 10 0 (16 * (8 * s + a / 16) + a % 16) eY_read_20 rfl rfl (rfl) (by omega) (by omega) ?_
    exact go_iret (pc := 21) rfl rfl eY_read_21 (hf)
  · exact absurd (nI_pos' (by omega)) c8
set_option maxRecDepth 100000 in
set_option maxHeartbeats 1000000 in
theorem e_read1 (x y : Int32) (hy : ∀ j, j < 128 → y ≠ nI j) : Ret (gg D cI cB cL bb L xs) mY_read (n + 2) 0 0 [.ref hm, .int (x), .int (y)] (zW z0 z1 z2 z3 z4 z5 cI cB hm b1 b2 b3 b4 cd F sx pd th sm u rest) (some (.int (0))) (zW z0 z1 z2 z3 z4 z5 cI cB hm b1 b2 b3 b4 1 F sx pd th sm u rest) := by
  intro Psi hf
  show Go _ _ _ _ _ 0 [(0, .ref hm), (1, .int (x)), (2, .int (y))] [] _ Psi
  refine go_aload_n (pc := 0) 0 0 rfl rfl eY_read_0 ?_
  refine go_iload_n (pc := 1) 1 1 rfl rfl eY_read_1 ?_
  refine go_iload_n (pc := 2) 2 2 rfl rfl eY_read_2 ?_
  refine go_rV (pc := 3) 6 (e_cell1 x y hy) okY_cell lmY_66 eY_read_3 rfl rfl rfl rfl rfl (Nat.le_of_ble_eq_true rfl) (Nat.le_of_ble_eq_true rfl) ?_
  refine go_istore_n (pc := 6) (ls' := [(3, _), (0, _), (1, _), (2, _)]) 3 rfl (by decide) eY_read_6 rfl ?_
  refine go_iload_n (pc := 7) 3 0 rfl rfl eY_read_7 ?_
  refine go_if_ge (pc := 8) 15 (by decide) eY_read_8 (fun c8 => ?_) (fun c8 => ?_)
  · exact absurd c8 (by decide)
  · refine go_iconst (pc := 11) (v := 0) (by decide) eY_read_11 ?_
    refine go_goto (pc := 12) 21 (by decide) eY_read_12 ?_
    exact go_iret (pc := 21) rfl rfl eY_read_21 (hf)
set_option maxRecDepth 100000 in
set_option maxHeartbeats 1000000 in
theorem e_write1 (x y : Int32) (hy : ∀ j, j < 128 → y ≠ nI j) (v : Int32) : Ret (gg D cI cB cL bb L xs) mY_write (n + 2) 0 0 [.ref hm, .int (x), .int (y), .int (v)] (zW z0 z1 z2 z3 z4 z5 cI cB hm b1 b2 b3 b4 cd F sx pd th sm u rest) (some (.int (0))) (zW z0 z1 z2 z3 z4 z5 cI cB hm b1 b2 b3 b4 1 F sx pd th sm u rest) := by
  intro Psi hf
  show Go _ _ _ _ _ 0 [(0, .ref hm), (1, .int (x)), (2, .int (y)), (3, .int (v))] [] _ Psi
  refine go_aload_n (pc := 0) 0 0 rfl rfl eY_write_0 ?_
  refine go_iload_n (pc := 1) 1 1 rfl rfl eY_write_1 ?_
  refine go_iload_n (pc := 2) 2 2 rfl rfl eY_write_2 ?_
  refine go_rV (pc := 3) 6 (e_cell1 x y hy) okY_cell lmY_66 eY_write_3 rfl rfl rfl rfl rfl (Nat.le_of_ble_eq_true rfl) (Nat.le_of_ble_eq_true rfl) ?_
  refine go_istore (pc := 6) (ls' := [(4, _), (0, _), (1, _), (2, _), (3, _)]) 4 (by decide) eY_write_6 rfl ?_
  refine go_iload (pc := 8) 4 0 rfl eY_write_8 ?_
  refine go_if_ge (pc := 10) 15 (by decide) eY_write_10 (fun c10 => ?_) (fun c10 => ?_)
  · exact absurd c10 (by decide)
  · refine go_iconst (pc := 13) (v := 0) (by decide) eY_write_13 ?_
    exact go_iret (pc := 14) rfl rfl eY_write_14 (hf)
set_option maxRecDepth 100000 in
set_option maxHeartbeats 1000000 in
theorem e_read2 (x : Int32) (hx : ∀ j, j < 6 → x = nI j → th j = false) (a : Nat) (ha : a < 128) : Ret (gg D cI cB cL bb L xs) mY_read (n + 2) 0 0 [.ref hm, .int (x), .int (nI a)] (zW z0 z1 z2 z3 z4 z5 cI cB hm b1 b2 b3 b4 cd F sx pd th sm u rest) (some (.int (0))) (zW z0 z1 z2 z3 z4 z5 cI cB hm b1 b2 b3 b4 2 F sx pd th sm u rest) := by
  intro Psi hf
  show Go _ _ _ _ _ 0 [(0, .ref hm), (1, .int (x)), (2, .int (nI a))] [] _ Psi
  refine go_aload_n (pc := 0) 0 0 rfl rfl eY_read_0 ?_
  refine go_iload_n (pc := 1) 1 1 rfl rfl eY_read_1 ?_
  refine go_iload_n (pc := 2) 2 2 rfl rfl eY_read_2 ?_
  refine go_rV (pc := 3) 6 (e_cell2 x hx a ha) okY_cell lmY_66 eY_read_3 rfl rfl rfl rfl rfl (Nat.le_of_ble_eq_true rfl) (Nat.le_of_ble_eq_true rfl) ?_
  refine go_istore_n (pc := 6) (ls' := [(3, _), (0, _), (1, _), (2, _)]) 3 rfl (by decide) eY_read_6 rfl ?_
  refine go_iload_n (pc := 7) 3 0 rfl rfl eY_read_7 ?_
  refine go_if_ge (pc := 8) 15 (by decide) eY_read_8 (fun c8 => ?_) (fun c8 => ?_)
  · exact absurd c8 (by decide)
  · refine go_iconst (pc := 11) (v := 0) (by decide) eY_read_11 ?_
    refine go_goto (pc := 12) 21 (by decide) eY_read_12 ?_
    exact go_iret (pc := 21) rfl rfl eY_read_21 (hf)
set_option maxRecDepth 100000 in
set_option maxHeartbeats 1000000 in
theorem e_write2 (x : Int32) (hx : ∀ j, j < 6 → x = nI j → th j = false) (a : Nat) (ha : a < 128) (v : Int32) : Ret (gg D cI cB cL bb L xs) mY_write (n + 2) 0 0 [.ref hm, .int (x), .int (nI a), .int (v)] (zW z0 z1 z2 z3 z4 z5 cI cB hm b1 b2 b3 b4 cd F sx pd th sm u rest) (some (.int (0))) (zW z0 z1 z2 z3 z4 z5 cI cB hm b1 b2 b3 b4 2 F sx pd th sm u rest) := by
  intro Psi hf
  show Go _ _ _ _ _ 0 [(0, .ref hm), (1, .int (x)), (2, .int (nI a)), (3, .int (v))] [] _ Psi
  refine go_aload_n (pc := 0) 0 0 rfl rfl eY_write_0 ?_
  refine go_iload_n (pc := 1) 1 1 rfl rfl eY_write_1 ?_
  refine go_iload_n (pc := 2) 2 2 rfl rfl eY_write_2 ?_
  refine go_rV (pc := 3) 6 (e_cell2 x hx a ha) okY_cell lmY_66 eY_write_3 rfl rfl rfl rfl rfl (Nat.le_of_ble_eq_true rfl) (Nat.le_of_ble_eq_true rfl) ?_
  refine go_istore (pc := 6) (ls' := [(4, _), (0, _), (1, _), (2, _), (3, _)]) 4 (by decide) eY_write_6 rfl ?_
  refine go_iload (pc := 8) 4 0 rfl eY_write_8 ?_
  refine go_if_ge (pc := 10) 15 (by decide) eY_write_10 (fun c10 => ?_) (fun c10 => ?_)
  · exact absurd c10 (by decide)
  · refine go_iconst (pc := 13) (v := 0) (by decide) eY_write_13 ?_
    exact go_iret (pc := 14) rfl rfl eY_write_14 (hf)
set_option maxRecDepth 100000 in
set_option maxHeartbeats 1000000 in
theorem e_read3 (hsm : ∀ k, sm k < 2 ^ 30) (s : Nat) (hs : s < 6) (hth : th s = true) (a : Nat) (ha : a < 128) (h0 : sm (8 * s + a / 16) = 0) : Ret (gg D cI cB cL bb L xs) mY_read (n + 2) 0 0 [.ref hm, .int (nI s), .int (nI a)] (zW z0 z1 z2 z3 z4 z5 cI cB hm b1 b2 b3 b4 cd F sx pd th sm u rest) (some (.int (0))) (zW z0 z1 z2 z3 z4 z5 cI cB hm b1 b2 b3 b4 2 F sx pd th sm u rest) := by
  intro Psi hf
  show Go _ _ _ _ _ 0 [(0, .ref hm), (1, .int (nI s)), (2, .int (nI a))] [] _ Psi
  refine go_aload_n (pc := 0) 0 0 rfl rfl eY_read_0 ?_
  refine go_iload_n (pc := 1) 1 1 rfl rfl eY_read_1 ?_
  refine go_iload_n (pc := 2) 2 2 rfl rfl eY_read_2 ?_
  refine go_rV (pc := 3) 6 (e_cell3 hsm s hs hth a ha h0) okY_cell lmY_66 eY_read_3 rfl rfl rfl rfl rfl (Nat.le_of_ble_eq_true rfl) (Nat.le_of_ble_eq_true rfl) ?_
  refine go_istore_n (pc := 6) (ls' := [(3, _), (0, _), (1, _), (2, _)]) 3 rfl (by decide) eY_read_6 rfl ?_
  refine go_iload_n (pc := 7) 3 0 rfl rfl eY_read_7 ?_
  refine go_if_ge (pc := 8) 15 (by decide) eY_read_8 (fun c8 => ?_) (fun c8 => ?_)
  · exact absurd c8 (by decide)
  · refine go_iconst (pc := 11) (v := 0) (by decide) eY_read_11 ?_
    refine go_goto (pc := 12) 21 (by decide) eY_read_12 ?_
    exact go_iret (pc := 21) rfl rfl eY_read_21 (hf)
set_option maxRecDepth 100000 in
set_option maxHeartbeats 1000000 in
theorem e_write3 (hsm : ∀ k, sm k < 2 ^ 30) (s : Nat) (hs : s < 6) (hth : th s = true) (a : Nat) (ha : a < 128) (h0 : sm (8 * s + a / 16) = 0) (v : Int32) : Ret (gg D cI cB cL bb L xs) mY_write (n + 2) 0 0 [.ref hm, .int (nI s), .int (nI a), .int (v)] (zW z0 z1 z2 z3 z4 z5 cI cB hm b1 b2 b3 b4 cd F sx pd th sm u rest) (some (.int (0))) (zW z0 z1 z2 z3 z4 z5 cI cB hm b1 b2 b3 b4 2 F sx pd th sm u rest) := by
  intro Psi hf
  show Go _ _ _ _ _ 0 [(0, .ref hm), (1, .int (nI s)), (2, .int (nI a)), (3, .int (v))] [] _ Psi
  refine go_aload_n (pc := 0) 0 0 rfl rfl eY_write_0 ?_
  refine go_iload_n (pc := 1) 1 1 rfl rfl eY_write_1 ?_
  refine go_iload_n (pc := 2) 2 2 rfl rfl eY_write_2 ?_
  refine go_rV (pc := 3) 6 (e_cell3 hsm s hs hth a ha h0) okY_cell lmY_66 eY_write_3 rfl rfl rfl rfl rfl (Nat.le_of_ble_eq_true rfl) (Nat.le_of_ble_eq_true rfl) ?_
  refine go_istore (pc := 6) (ls' := [(4, _), (0, _), (1, _), (2, _), (3, _)]) 4 (by decide) eY_write_6 rfl ?_
  refine go_iload (pc := 8) 4 0 rfl eY_write_8 ?_
  refine go_if_ge (pc := 10) 15 (by decide) eY_write_10 (fun c10 => ?_) (fun c10 => ?_)
  · exact absurd c10 (by decide)
  · refine go_iconst (pc := 13) (v := 0) (by decide) eY_write_13 ?_
    exact go_iret (pc := 14) rfl rfl eY_write_14 (hf)
theorem gc31 (p : Nat → Bool) : gcnt p 432 < 2 ^ 31 := Nat.lt_of_le_of_lt (gcnt_le _ _) (by decide)
set_option maxRecDepth 100000 in
set_option maxHeartbeats 1000000 in
theorem d_write1 (hsm : ∀ k, sm k < 2 ^ 30) (hF : F ≤ 60) (s : Nat) (hs : s < 6) (hth : th s = true) (a : Nat) (ha : a < 128) (v : Int32) (h0 : sm (8 * s + a / 16) ≠ 0) (h1 : gcnt (fun k => decide (sm k = sm (8 * s + a / 16))) 432 ≤ 1) : Ret (gg D cI cB cL bb L xs) mY_write (n + 2) 0 0 [.ref hm, .int (nI s), .int (nI a), .int (v)] (zW z0 z1 z2 z3 z4 z5 cI cB hm b1 b2 b3 b4 cd F sx pd th sm u rest) (some (.int (u (16 * (8 * s + a / 16) + a % 16)))) (zW z0 z1 z2 z3 z4 z5 cI cB hm b1 b2 b3 b4 0 F sx pd th sm (va_up u (16 * (8 * s + a / 16) + a % 16) v) rest) := by
  intro Psi hf
  show Go _ _ _ _ _ 0 [(0, .ref hm), (1, .int (nI s)), (2, .int (nI a)), (3, .int (v))] [] _ Psi
  refine go_aload_n (pc := 0) 0 0 rfl rfl eY_write_0 ?_
  refine go_iload_n (pc := 1) 1 1 rfl rfl eY_write_1 ?_
  refine go_iload_n (pc := 2) 2 2 rfl rfl eY_write_2 ?_
  refine go_rV (pc := 3) 6 (d_cell hsm s hs hth a ha h0) okY_cell lmY_66 eY_write_3 rfl rfl rfl rfl rfl (Nat.le_of_ble_eq_true rfl) (Nat.le_of_ble_eq_true rfl) ?_
  refine go_istore (pc := 6) (ls' := [(4, _), (0, _), (1, _), (2, _), (3, _)]) 4 (by decide) eY_write_6 rfl ?_
  refine go_iload (pc := 8) 4 0 rfl eY_write_8 ?_
  refine go_if_ge (pc := 10) 15 (by decide) eY_write_10 (fun c10 => ?_) (fun c10 => ?_)
  · refine go_iload (pc := 15) 4 0 rfl eY_write_15 ?_
    refine go_bipush (pc := 17) (v := 16) (by decide) eY_write_17 ?_
    refine go_idiv (pc := 19) (by decide) eY_write_19 ?_
    rw [show (16 : Int32) = nI 16 from rfl, pk_div (by omega) (by omega) (by omega), show (16 * (8 * s + a / 16) + a % 16) / 16 = 8 * s + a / 16 from by omega]
    refine go_istore (pc := 20) (ls' := [(5, _), (4, _), (0, _), (1, _), (2, _), (3, _)]) 5 (by decide) eY_write_20 rfl ?_
    refine go_aload_n (pc := 22) 0 2 rfl rfl eY_write_22 ?_
    refine go_aload_n (pc := 23) 0 2 rfl rfl eY_write_23 ?_
    refine go_get (pc := 24) hwY 6 rfl rfl 5 (by decide) lkY_16 rfl eY_write_24 ?_
    refine go_iload (pc := 27) 5 0 rfl eY_write_27 ?_
    refine go_ialdN (pc := 29) 9 0 (8 * s + a / 16) eY_write_29 rfl rfl (rfl) (by omega) (by omega) ?_
    refine go_rV (pc := 30) 6 (d_holdersOf hsm (sm (8 * s + a / 16)) (hsm _) h0) okY_holdersOf lmY_70 eY_write_30 rfl rfl rfl rfl rfl (Nat.le_of_ble_eq_true rfl) (Nat.le_of_ble_eq_true rfl) ?_
    refine go_iconst (pc := 33) (v := 1) (by decide) eY_write_33 ?_
    refine go_icmp_le (pc := 34) 41 (by decide) eY_write_34 (fun c34 => ?_) (fun c34 => ?_)
    · refine go_iconst (pc := 41) (v := 0) (by decide) eY_write_41 ?_
      refine go_istore (pc := 42) (ls' := [(6, _), (5, _), (4, _), (0, _), (1, _), (2, _), (3, _)]) 6 (by decide) eY_write_42 rfl ?_
      refine go_aload_n (pc := 44) 0 3 rfl rfl eY_write_44 ?_
      refine go_iconst (pc := 45) (v := 0) (by decide) eY_write_45 ?_
      refine go_iconst (pc := 46) (v := 0) (by decide) eY_write_46 ?_
      refine go_iload (pc := 47) 6 0 rfl eY_write_47 ?_
      refine go_if_eq (pc := 49) 67 (by decide) eY_write_49 (fun c49 => ?_) (fun c49 => ?_)
      · refine go_iconst (pc := 67) (v := 0) (by decide) eY_write_67 ?_
        refine go_rV (pc := 68) 6 (d_fails0) okY_fails lmY_46 eY_write_68 rfl rfl rfl rfl rfl (Nat.le_of_ble_eq_true rfl) (Nat.le_of_ble_eq_true rfl) ?_
        refine go_if_eq (pc := 71) 76 (by decide) eY_write_71 (fun c71 => ?_) (fun c71 => ?_)
        · refine go_iload (pc := 76) 6 0 rfl eY_write_76 ?_
          refine go_if_eq (pc := 78) 102 (by decide) eY_write_78 (fun c78 => ?_) (fun c78 => ?_)
          · refine go_aload_n (pc := 102) 0 3 rfl rfl eY_write_102 ?_
            refine go_get (pc := 103) hwY 6 rfl rfl 6 (by decide) lkY_20 rfl eY_write_103 ?_
            refine go_iload (pc := 106) 4 2 rfl eY_write_106 ?_
            refine go_ialdN (pc := 108) 10 0 (16 * (8 * s + a / 16) + a % 16) eY_write_108 rfl rfl (rfl) (by omega) (by omega) ?_
            refine go_istore (pc := 109) (ls' := [(7, _), (6, _), (5, _), (4, _), (0, _), (1, _), (2, _), (3, _)]) 7 (by decide) eY_write_109 rfl ?_
            refine go_aload_n (pc := 111) 0 4 rfl rfl eY_write_111 ?_
            refine go_get (pc := 112) hwY 6 rfl rfl 6 (by decide) lkY_20 rfl eY_write_112 ?_
            refine go_iload (pc := 115) 4 3 rfl eY_write_115 ?_
            refine go_iload_n (pc := 117) 3 7 rfl rfl eY_write_117 ?_
            refine go_iastN (pc := 118) (es' := (zW z0 z1 z2 z3 z4 z5 cI cB hm b1 b2 b3 b4 0 F sx pd th sm (va_up u (16 * (8 * s + a / 16) + a % 16) v) rest)) 10 0 (16 * (8 * s + a / 16) + a % 16) eY_write_118 rfl rfl rfl (by omega) (by omega) (ys10 (upd_up _ _ _)) ?_
            refine go_iload (pc := 119) 7 0 rfl eY_write_119 ?_
            exact go_iret (pc := 121) rfl rfl eY_write_121 (hf)
          · exact absurd rfl c78
        · exact absurd c71 (by decide)
      · exact absurd rfl c49
    · exact absurd ((nI_leI (b := 1) (gc31 _) (by omega)).mpr h1) c34
  · exact absurd (nI_pos' (by omega)) c10
set_option maxRecDepth 100000 in
set_option maxHeartbeats 1000000 in
theorem d_write2 (hsm : ∀ k, sm k < 2 ^ 30) (hF : F ≤ 60) (s : Nat) (hs : s < 6) (hth : th s = true) (a : Nat) (ha : a < 128) (v : Int32) (h0 : sm (8 * s + a / 16) ≠ 0) (h1 : ¬ gcnt (fun k => decide (sm k = sm (8 * s + a / 16))) 432 ≤ 1) (hu : gcnt (usf sm) 432 ≠ F) : Ret (gg D cI cB cL bb L xs) mY_write (n + 2) 0 0 [.ref hm, .int (nI s), .int (nI a), .int (v)] (zW z0 z1 z2 z3 z4 z5 cI cB hm b1 b2 b3 b4 cd F sx pd th sm u rest) (some (.int (u (16 * (8 * s + a / 16) + a % 16)))) (zW z0 z1 z2 z3 z4 z5 cI cB hm b1 b2 b3 b4 0 F (sx + 1) pd th (va_up sm (8 * s + a / 16) (sx + 1)) (va_up u (16 * (8 * s + a / 16) + a % 16) v) rest) := by
  intro Psi hf
  show Go _ _ _ _ _ 0 [(0, .ref hm), (1, .int (nI s)), (2, .int (nI a)), (3, .int (v))] [] _ Psi
  refine go_aload_n (pc := 0) 0 0 rfl rfl eY_write_0 ?_
  refine go_iload_n (pc := 1) 1 1 rfl rfl eY_write_1 ?_
  refine go_iload_n (pc := 2) 2 2 rfl rfl eY_write_2 ?_
  refine go_rV (pc := 3) 6 (d_cell hsm s hs hth a ha h0) okY_cell lmY_66 eY_write_3 rfl rfl rfl rfl rfl (Nat.le_of_ble_eq_true rfl) (Nat.le_of_ble_eq_true rfl) ?_
  refine go_istore (pc := 6) (ls' := [(4, _), (0, _), (1, _), (2, _), (3, _)]) 4 (by decide) eY_write_6 rfl ?_
  refine go_iload (pc := 8) 4 0 rfl eY_write_8 ?_
  refine go_if_ge (pc := 10) 15 (by decide) eY_write_10 (fun c10 => ?_) (fun c10 => ?_)
  · refine go_iload (pc := 15) 4 0 rfl eY_write_15 ?_
    refine go_bipush (pc := 17) (v := 16) (by decide) eY_write_17 ?_
    refine go_idiv (pc := 19) (by decide) eY_write_19 ?_
    rw [show (16 : Int32) = nI 16 from rfl, pk_div (by omega) (by omega) (by omega), show (16 * (8 * s + a / 16) + a % 16) / 16 = 8 * s + a / 16 from by omega]
    refine go_istore (pc := 20) (ls' := [(5, _), (4, _), (0, _), (1, _), (2, _), (3, _)]) 5 (by decide) eY_write_20 rfl ?_
    refine go_aload_n (pc := 22) 0 2 rfl rfl eY_write_22 ?_
    refine go_aload_n (pc := 23) 0 2 rfl rfl eY_write_23 ?_
    refine go_get (pc := 24) hwY 6 rfl rfl 5 (by decide) lkY_16 rfl eY_write_24 ?_
    refine go_iload (pc := 27) 5 0 rfl eY_write_27 ?_
    refine go_ialdN (pc := 29) 9 0 (8 * s + a / 16) eY_write_29 rfl rfl (rfl) (by omega) (by omega) ?_
    refine go_rV (pc := 30) 6 (d_holdersOf hsm (sm (8 * s + a / 16)) (hsm _) h0) okY_holdersOf lmY_70 eY_write_30 rfl rfl rfl rfl rfl (Nat.le_of_ble_eq_true rfl) (Nat.le_of_ble_eq_true rfl) ?_
    refine go_iconst (pc := 33) (v := 1) (by decide) eY_write_33 ?_
    refine go_icmp_le (pc := 34) 41 (by decide) eY_write_34 (fun c34 => ?_) (fun c34 => ?_)
    · exact absurd ((nI_leI (b := 1) (gc31 _) (by omega)).mp c34) h1
    · refine go_iconst (pc := 37) (v := 1) (by decide) eY_write_37 ?_
      refine go_goto (pc := 38) 42 (by decide) eY_write_38 ?_
      refine go_istore (pc := 42) (ls' := [(6, _), (5, _), (4, _), (0, _), (1, _), (2, _), (3, _)]) 6 (by decide) eY_write_42 rfl ?_
      refine go_aload_n (pc := 44) 0 3 rfl rfl eY_write_44 ?_
      refine go_iconst (pc := 45) (v := 0) (by decide) eY_write_45 ?_
      refine go_iconst (pc := 46) (v := 0) (by decide) eY_write_46 ?_
      refine go_iload (pc := 47) 6 0 rfl eY_write_47 ?_
      refine go_if_eq (pc := 49) 67 (by decide) eY_write_49 (fun c49 => ?_) (fun c49 => ?_)
      · exact absurd c49 (by decide)
      · refine go_aload_n (pc := 52) 0 3 rfl rfl eY_write_52 ?_
        refine go_rV (pc := 53) 6 (d_used hsm) okY_used lmY_60 eY_write_53 rfl rfl rfl rfl rfl (Nat.le_of_ble_eq_true rfl) (Nat.le_of_ble_eq_true rfl) ?_
        refine go_aload_n (pc := 56) 0 3 rfl rfl eY_write_56 ?_
        refine go_get (pc := 57) hwY 6 rfl rfl 1 (by decide) lkY_23 rfl eY_write_57 ?_
        refine go_icmp_ne (pc := 60) 67 (by decide) eY_write_60 (fun c60 => ?_) (fun c60 => ?_)
        · refine go_iconst (pc := 67) (v := 0) (by decide) eY_write_67 ?_
          refine go_rV (pc := 68) 6 (d_fails0) okY_fails lmY_46 eY_write_68 rfl rfl rfl rfl rfl (Nat.le_of_ble_eq_true rfl) (Nat.le_of_ble_eq_true rfl) ?_
          refine go_if_eq (pc := 71) 76 (by decide) eY_write_71 (fun c71 => ?_) (fun c71 => ?_)
          · refine go_iload (pc := 76) 6 0 rfl eY_write_76 ?_
            refine go_if_eq (pc := 78) 102 (by decide) eY_write_78 (fun c78 => ?_) (fun c78 => ?_)
            · exact absurd c78 (by decide)
            · refine go_aload_n (pc := 81) 0 3 rfl rfl eY_write_81 ?_
              refine go_dup (pc := 82) rfl eY_write_82 ?_
              refine go_get (pc := 83) hwY 6 rfl rfl 2 (by decide) lkY_63 rfl eY_write_83 ?_
              refine go_iconst (pc := 86) (v := 1) (by decide) eY_write_86 ?_
              refine go_iadd (pc := 87) eY_write_87 ?_
              rw [nI_1]
              refine go_put (pc := 88) (ty := .int) (es' := (zW z0 z1 z2 z3 z4 z5 cI cB hm b1 b2 b3 b4 0 F (sx + 1) pd th sm u rest)) hwY tyY tyY_ok nmY 6 rfl rfl 2 (by decide) lkY_63 rfl (by decide +kernel) rfl rfl (Nat.le_of_ble_eq_true rfl) eY_write_88 rfl ?_
              refine go_aload_n (pc := 91) 0 3 rfl rfl eY_write_91 ?_
              refine go_get (pc := 92) hwY 6 rfl rfl 5 (by decide) lkY_16 rfl eY_write_92 ?_
              refine go_iload (pc := 95) 5 1 rfl eY_write_95 ?_
              refine go_aload_n (pc := 97) 0 3 rfl rfl eY_write_97 ?_
              refine go_get (pc := 98) hwY 6 rfl rfl 2 (by decide) lkY_63 rfl eY_write_98 ?_
              refine go_iastN (pc := 101) (es' := (zW z0 z1 z2 z3 z4 z5 cI cB hm b1 b2 b3 b4 0 F (sx + 1) pd th (va_up sm (8 * s + a / 16) (sx + 1)) u rest)) 9 0 (8 * s + a / 16) eY_write_101 rfl rfl rfl (by omega) (by omega) (ys9 upd_n) ?_
              refine go_aload_n (pc := 102) 0 3 rfl rfl eY_write_102 ?_
              refine go_get (pc := 103) hwY 6 rfl rfl 6 (by decide) lkY_20 rfl eY_write_103 ?_
              refine go_iload (pc := 106) 4 2 rfl eY_write_106 ?_
              refine go_ialdN (pc := 108) 10 0 (16 * (8 * s + a / 16) + a % 16) eY_write_108 rfl rfl (rfl) (by omega) (by omega) ?_
              refine go_istore (pc := 109) (ls' := [(7, _), (6, _), (5, _), (4, _), (0, _), (1, _), (2, _), (3, _)]) 7 (by decide) eY_write_109 rfl ?_
              refine go_aload_n (pc := 111) 0 4 rfl rfl eY_write_111 ?_
              refine go_get (pc := 112) hwY 6 rfl rfl 6 (by decide) lkY_20 rfl eY_write_112 ?_
              refine go_iload (pc := 115) 4 3 rfl eY_write_115 ?_
              refine go_iload_n (pc := 117) 3 7 rfl rfl eY_write_117 ?_
              refine go_iastN (pc := 118) (es' := (zW z0 z1 z2 z3 z4 z5 cI cB hm b1 b2 b3 b4 0 F (sx + 1) pd th (va_up sm (8 * s + a / 16) (sx + 1)) (va_up u (16 * (8 * s + a / 16) + a % 16) v) rest)) 10 0 (16 * (8 * s + a / 16) + a % 16) eY_write_118 rfl rfl rfl (by omega) (by omega) (ys10 (upd_up _ _ _)) ?_
              refine go_iload (pc := 119) 7 0 rfl eY_write_119 ?_
              exact go_iret (pc := 121) rfl rfl eY_write_121 (hf)
          · exact absurd c71 (by decide)
        · exact absurd ((nI_eq (us31 sm) (by omega)).mp c60) hu
  · exact absurd (nI_pos' (by omega)) c10
set_option maxRecDepth 100000 in
set_option maxHeartbeats 1000000 in
theorem e_write4 (hsm : ∀ k, sm k < 2 ^ 30) (hF : F ≤ 60) (s : Nat) (hs : s < 6) (hth : th s = true) (a : Nat) (ha : a < 128) (v : Int32) (h0 : sm (8 * s + a / 16) ≠ 0) (h1 : ¬ gcnt (fun k => decide (sm k = sm (8 * s + a / 16))) 432 ≤ 1) (hu : gcnt (usf sm) 432 = F) : Ret (gg D cI cB cL bb L xs) mY_write (n + 2) 0 0 [.ref hm, .int (nI s), .int (nI a), .int (v)] (zW z0 z1 z2 z3 z4 z5 cI cB hm b1 b2 b3 b4 cd F sx pd th sm u rest) (some (.int (0))) (zW z0 z1 z2 z3 z4 z5 cI cB hm b1 b2 b3 b4 3 F sx pd th sm u rest) := by
  intro Psi hf
  show Go _ _ _ _ _ 0 [(0, .ref hm), (1, .int (nI s)), (2, .int (nI a)), (3, .int (v))] [] _ Psi
  refine go_aload_n (pc := 0) 0 0 rfl rfl eY_write_0 ?_
  refine go_iload_n (pc := 1) 1 1 rfl rfl eY_write_1 ?_
  refine go_iload_n (pc := 2) 2 2 rfl rfl eY_write_2 ?_
  refine go_rV (pc := 3) 6 (d_cell hsm s hs hth a ha h0) okY_cell lmY_66 eY_write_3 rfl rfl rfl rfl rfl (Nat.le_of_ble_eq_true rfl) (Nat.le_of_ble_eq_true rfl) ?_
  refine go_istore (pc := 6) (ls' := [(4, _), (0, _), (1, _), (2, _), (3, _)]) 4 (by decide) eY_write_6 rfl ?_
  refine go_iload (pc := 8) 4 0 rfl eY_write_8 ?_
  refine go_if_ge (pc := 10) 15 (by decide) eY_write_10 (fun c10 => ?_) (fun c10 => ?_)
  · refine go_iload (pc := 15) 4 0 rfl eY_write_15 ?_
    refine go_bipush (pc := 17) (v := 16) (by decide) eY_write_17 ?_
    refine go_idiv (pc := 19) (by decide) eY_write_19 ?_
    rw [show (16 : Int32) = nI 16 from rfl, pk_div (by omega) (by omega) (by omega), show (16 * (8 * s + a / 16) + a % 16) / 16 = 8 * s + a / 16 from by omega]
    refine go_istore (pc := 20) (ls' := [(5, _), (4, _), (0, _), (1, _), (2, _), (3, _)]) 5 (by decide) eY_write_20 rfl ?_
    refine go_aload_n (pc := 22) 0 2 rfl rfl eY_write_22 ?_
    refine go_aload_n (pc := 23) 0 2 rfl rfl eY_write_23 ?_
    refine go_get (pc := 24) hwY 6 rfl rfl 5 (by decide) lkY_16 rfl eY_write_24 ?_
    refine go_iload (pc := 27) 5 0 rfl eY_write_27 ?_
    refine go_ialdN (pc := 29) 9 0 (8 * s + a / 16) eY_write_29 rfl rfl (rfl) (by omega) (by omega) ?_
    refine go_rV (pc := 30) 6 (d_holdersOf hsm (sm (8 * s + a / 16)) (hsm _) h0) okY_holdersOf lmY_70 eY_write_30 rfl rfl rfl rfl rfl (Nat.le_of_ble_eq_true rfl) (Nat.le_of_ble_eq_true rfl) ?_
    refine go_iconst (pc := 33) (v := 1) (by decide) eY_write_33 ?_
    refine go_icmp_le (pc := 34) 41 (by decide) eY_write_34 (fun c34 => ?_) (fun c34 => ?_)
    · exact absurd ((nI_leI (b := 1) (gc31 _) (by omega)).mp c34) h1
    · refine go_iconst (pc := 37) (v := 1) (by decide) eY_write_37 ?_
      refine go_goto (pc := 38) 42 (by decide) eY_write_38 ?_
      refine go_istore (pc := 42) (ls' := [(6, _), (5, _), (4, _), (0, _), (1, _), (2, _), (3, _)]) 6 (by decide) eY_write_42 rfl ?_
      refine go_aload_n (pc := 44) 0 3 rfl rfl eY_write_44 ?_
      refine go_iconst (pc := 45) (v := 0) (by decide) eY_write_45 ?_
      refine go_iconst (pc := 46) (v := 0) (by decide) eY_write_46 ?_
      refine go_iload (pc := 47) 6 0 rfl eY_write_47 ?_
      refine go_if_eq (pc := 49) 67 (by decide) eY_write_49 (fun c49 => ?_) (fun c49 => ?_)
      · exact absurd c49 (by decide)
      · refine go_aload_n (pc := 52) 0 3 rfl rfl eY_write_52 ?_
        refine go_rV (pc := 53) 6 (d_used hsm) okY_used lmY_60 eY_write_53 rfl rfl rfl rfl rfl (Nat.le_of_ble_eq_true rfl) (Nat.le_of_ble_eq_true rfl) ?_
        refine go_aload_n (pc := 56) 0 3 rfl rfl eY_write_56 ?_
        refine go_get (pc := 57) hwY 6 rfl rfl 1 (by decide) lkY_23 rfl eY_write_57 ?_
        rw [hu]
        refine go_icmp_ne (pc := 60) 67 (by decide) eY_write_60 (fun c60 => ?_) (fun c60 => ?_)
        · exact absurd rfl c60
        · refine go_iconst (pc := 63) (v := 1) (by decide) eY_write_63 ?_
          refine go_goto (pc := 64) 68 (by decide) eY_write_64 ?_
          refine go_rV (pc := 68) 6 (d_fails3) okY_fails lmY_46 eY_write_68 rfl rfl rfl rfl rfl (Nat.le_of_ble_eq_true rfl) (Nat.le_of_ble_eq_true rfl) ?_
          refine go_if_eq (pc := 71) 76 (by decide) eY_write_71 (fun c71 => ?_) (fun c71 => ?_)
          · exact absurd c71 (by decide)
          · refine go_iconst (pc := 74) (v := 0) (by decide) eY_write_74 ?_
            exact go_iret (pc := 75) rfl rfl eY_write_75 (hf)
  · exact absurd (nI_pos' (by omega)) c10
set_option maxRecDepth 100000 in
set_option maxHeartbeats 1000000 in
theorem d_af0 (s : Nat) (hs : s < 6) (hth : th s = true) (t : Nat) (ht : t < 6) (htt : th t = true) (p q : Nat) (hp : p < 8) (hq : q < 8) : Ret (gg D cI cB cL bb L xs) mY_areFaulty (n + 1) 0 0 [.ref hm, .int (nI s), .int (nI p), .int (nI t), .int (nI q)] (zW z0 z1 z2 z3 z4 z5 cI cB hm b1 b2 b3 b4 cd F sx pd th sm u rest) (some (.int (0))) (zW z0 z1 z2 z3 z4 z5 cI cB hm b1 b2 b3 b4 0 F sx pd th sm u rest) := by
  intro Psi hf
  show Go _ _ _ _ _ 0 [(0, .ref hm), (1, .int (nI s)), (2, .int (nI p)), (3, .int (nI t)), (4, .int (nI q))] [] _ Psi
  refine go_aload_n (pc := 0) 0 0 rfl rfl eY_areFaulty_0 ?_
  refine go_aload_n (pc := 1) 0 0 rfl rfl eY_areFaulty_1 ?_
  refine go_iload_n (pc := 2) 1 1 rfl rfl eY_areFaulty_2 ?_
  refine go_rV (pc := 3) 6 (d_isSpaceT s hs hth) okY_isSpace lmY_42 eY_areFaulty_3 rfl rfl rfl rfl rfl (Nat.le_of_ble_eq_true rfl) (Nat.le_of_ble_eq_true rfl) ?_
  refine go_if_eq (pc := 6) 17 (by decide) eY_areFaulty_6 (fun c6 => ?_) (fun c6 => ?_)
  · exact absurd c6 (by decide)
  · refine go_aload_n (pc := 9) 0 0 rfl rfl eY_areFaulty_9 ?_
    refine go_iload_n (pc := 10) 3 3 rfl rfl eY_areFaulty_10 ?_
    refine go_rV (pc := 11) 6 (d_isSpaceT t ht htt) okY_isSpace lmY_42 eY_areFaulty_11 rfl rfl rfl rfl rfl (Nat.le_of_ble_eq_true rfl) (Nat.le_of_ble_eq_true rfl) ?_
    refine go_if_ne (pc := 14) 21 (by decide) eY_areFaulty_14 (fun c14 => ?_) (fun c14 => ?_)
    · refine go_iconst (pc := 21) (v := 0) (by decide) eY_areFaulty_21 ?_
      refine go_iload_n (pc := 22) 2 2 rfl rfl eY_areFaulty_22 ?_
      refine go_rS (pc := 23) (d_isPageT p hp) okY_isPage lmY_57 eY_areFaulty_23 rfl rfl (Nat.le_of_ble_eq_true rfl) (Nat.le_of_ble_eq_true rfl) ?_
      refine go_if_eq (pc := 26) 37 (by decide) eY_areFaulty_26 (fun c26 => ?_) (fun c26 => ?_)
      · exact absurd c26 (by decide)
      · refine go_iload (pc := 29) 4 4 rfl eY_areFaulty_29 ?_
        refine go_rS (pc := 31) (d_isPageT q hq) okY_isPage lmY_57 eY_areFaulty_31 rfl rfl (Nat.le_of_ble_eq_true rfl) (Nat.le_of_ble_eq_true rfl) ?_
        refine go_if_ne (pc := 34) 41 (by decide) eY_areFaulty_34 (fun c34 => ?_) (fun c34 => ?_)
        · refine go_iconst (pc := 41) (v := 0) (by decide) eY_areFaulty_41 ?_
          refine go_iconst (pc := 42) (v := 0) (by decide) eY_areFaulty_42 ?_
          refine go_rV (pc := 43) 6 (d_fails0) okY_fails lmY_46 eY_areFaulty_43 rfl rfl rfl rfl rfl (Nat.le_of_ble_eq_true rfl) (Nat.le_of_ble_eq_true rfl) ?_
          exact go_iret (pc := 46) rfl rfl eY_areFaulty_46 (hf)
        · exact absurd c34 (by decide)
    · exact absurd c14 (by decide)
set_option maxRecDepth 100000 in
set_option maxHeartbeats 1000000 in
theorem d_af1 (x : Int32) (hx : ∀ j, j < 6 → x = nI j → th j = false) (y z w : Int32) : Ret (gg D cI cB cL bb L xs) mY_areFaulty (n + 1) 0 0 [.ref hm, .int (x), .int (y), .int (z), .int (w)] (zW z0 z1 z2 z3 z4 z5 cI cB hm b1 b2 b3 b4 cd F sx pd th sm u rest) (some (.int (1))) (zW z0 z1 z2 z3 z4 z5 cI cB hm b1 b2 b3 b4 1 F sx pd th sm u rest) := by
  intro Psi hf
  show Go _ _ _ _ _ 0 [(0, .ref hm), (1, .int (x)), (2, .int (y)), (3, .int (z)), (4, .int (w))] [] _ Psi
  refine go_aload_n (pc := 0) 0 0 rfl rfl eY_areFaulty_0 ?_
  refine go_aload_n (pc := 1) 0 0 rfl rfl eY_areFaulty_1 ?_
  refine go_iload_n (pc := 2) 1 1 rfl rfl eY_areFaulty_2 ?_
  refine go_rV (pc := 3) 6 (d_isSpaceF x hx) okY_isSpace lmY_42 eY_areFaulty_3 rfl rfl rfl rfl rfl (Nat.le_of_ble_eq_true rfl) (Nat.le_of_ble_eq_true rfl) ?_
  refine go_if_eq (pc := 6) 17 (by decide) eY_areFaulty_6 (fun c6 => ?_) (fun c6 => ?_)
  · refine go_iconst (pc := 17) (v := 1) (by decide) eY_areFaulty_17 ?_
    refine go_goto (pc := 18) 22 (by decide) eY_areFaulty_18 ?_
    obtain ⟨b, -, hpg⟩ := d_isPage (D := D) (cI := cI) (cB := cB) (cL := cL) (bb := bb) (L := L) (xs := xs) y
    refine go_iload_n (pc := 22) 2 2 rfl rfl eY_areFaulty_22 ?_
    refine go_rS (pc := 23) (hpg _ _) okY_isPage lmY_57 eY_areFaulty_23 rfl rfl (Nat.le_of_ble_eq_true rfl) (Nat.le_of_ble_eq_true rfl) ?_
    refine go_if_eq (pc := 26) 37 (by decide) eY_areFaulty_26 (fun c26 => ?_) (fun c26 => ?_)
    · refine go_iconst (pc := 37) (v := 1) (by decide) eY_areFaulty_37 ?_
      refine go_goto (pc := 38) 42 (by decide) eY_areFaulty_38 ?_
      refine go_iconst (pc := 42) (v := 0) (by decide) eY_areFaulty_42 ?_
      refine go_rV (pc := 43) 6 (d_fails1 _ 0) okY_fails lmY_46 eY_areFaulty_43 rfl rfl rfl rfl rfl (Nat.le_of_ble_eq_true rfl) (Nat.le_of_ble_eq_true rfl) ?_
      exact go_iret (pc := 46) rfl rfl eY_areFaulty_46 (hf)
    · obtain ⟨b', -, hpg'⟩ := d_isPage (D := D) (cI := cI) (cB := cB) (cL := cL) (bb := bb) (L := L) (xs := xs) w
      refine go_iload (pc := 29) 4 4 rfl eY_areFaulty_29 ?_
      refine go_rS (pc := 31) (hpg' _ _) okY_isPage lmY_57 eY_areFaulty_31 rfl rfl (Nat.le_of_ble_eq_true rfl) (Nat.le_of_ble_eq_true rfl) ?_
      refine go_if_ne (pc := 34) 41 (by decide) eY_areFaulty_34 (fun c34 => ?_) (fun c34 => ?_)
      · refine go_iconst (pc := 41) (v := 0) (by decide) eY_areFaulty_41 ?_
        refine go_iconst (pc := 42) (v := 0) (by decide) eY_areFaulty_42 ?_
        refine go_rV (pc := 43) 6 (d_fails1 _ 0) okY_fails lmY_46 eY_areFaulty_43 rfl rfl rfl rfl rfl (Nat.le_of_ble_eq_true rfl) (Nat.le_of_ble_eq_true rfl) ?_
        exact go_iret (pc := 46) rfl rfl eY_areFaulty_46 (hf)
      · refine go_iconst (pc := 37) (v := 1) (by decide) eY_areFaulty_37 ?_
        refine go_goto (pc := 38) 42 (by decide) eY_areFaulty_38 ?_
        refine go_iconst (pc := 42) (v := 0) (by decide) eY_areFaulty_42 ?_
        refine go_rV (pc := 43) 6 (d_fails1 _ 0) okY_fails lmY_46 eY_areFaulty_43 rfl rfl rfl rfl rfl (Nat.le_of_ble_eq_true rfl) (Nat.le_of_ble_eq_true rfl) ?_
        exact go_iret (pc := 46) rfl rfl eY_areFaulty_46 (hf)
  · exact absurd rfl c6
set_option maxRecDepth 100000 in
set_option maxHeartbeats 1000000 in
theorem d_af2 (s : Nat) (hs : s < 6) (hth : th s = true) (x : Int32) (hx : ∀ j, j < 6 → x = nI j → th j = false) (y w : Int32) : Ret (gg D cI cB cL bb L xs) mY_areFaulty (n + 1) 0 0 [.ref hm, .int (nI s), .int (y), .int (x), .int (w)] (zW z0 z1 z2 z3 z4 z5 cI cB hm b1 b2 b3 b4 cd F sx pd th sm u rest) (some (.int (1))) (zW z0 z1 z2 z3 z4 z5 cI cB hm b1 b2 b3 b4 1 F sx pd th sm u rest) := by
  intro Psi hf
  show Go _ _ _ _ _ 0 [(0, .ref hm), (1, .int (nI s)), (2, .int (y)), (3, .int (x)), (4, .int (w))] [] _ Psi
  refine go_aload_n (pc := 0) 0 0 rfl rfl eY_areFaulty_0 ?_
  refine go_aload_n (pc := 1) 0 0 rfl rfl eY_areFaulty_1 ?_
  refine go_iload_n (pc := 2) 1 1 rfl rfl eY_areFaulty_2 ?_
  refine go_rV (pc := 3) 6 (d_isSpaceT s hs hth) okY_isSpace lmY_42 eY_areFaulty_3 rfl rfl rfl rfl rfl (Nat.le_of_ble_eq_true rfl) (Nat.le_of_ble_eq_true rfl) ?_
  refine go_if_eq (pc := 6) 17 (by decide) eY_areFaulty_6 (fun c6 => ?_) (fun c6 => ?_)
  · exact absurd c6 (by decide)
  · refine go_aload_n (pc := 9) 0 0 rfl rfl eY_areFaulty_9 ?_
    refine go_iload_n (pc := 10) 3 3 rfl rfl eY_areFaulty_10 ?_
    refine go_rV (pc := 11) 6 (d_isSpaceF x hx) okY_isSpace lmY_42 eY_areFaulty_11 rfl rfl rfl rfl rfl (Nat.le_of_ble_eq_true rfl) (Nat.le_of_ble_eq_true rfl) ?_
    refine go_if_ne (pc := 14) 21 (by decide) eY_areFaulty_14 (fun c14 => ?_) (fun c14 => ?_)
    · exact absurd rfl c14
    · refine go_iconst (pc := 17) (v := 1) (by decide) eY_areFaulty_17 ?_
      refine go_goto (pc := 18) 22 (by decide) eY_areFaulty_18 ?_
      obtain ⟨b, -, hpg⟩ := d_isPage (D := D) (cI := cI) (cB := cB) (cL := cL) (bb := bb) (L := L) (xs := xs) y
      refine go_iload_n (pc := 22) 2 2 rfl rfl eY_areFaulty_22 ?_
      refine go_rS (pc := 23) (hpg _ _) okY_isPage lmY_57 eY_areFaulty_23 rfl rfl (Nat.le_of_ble_eq_true rfl) (Nat.le_of_ble_eq_true rfl) ?_
      refine go_if_eq (pc := 26) 37 (by decide) eY_areFaulty_26 (fun c26 => ?_) (fun c26 => ?_)
      · refine go_iconst (pc := 37) (v := 1) (by decide) eY_areFaulty_37 ?_
        refine go_goto (pc := 38) 42 (by decide) eY_areFaulty_38 ?_
        refine go_iconst (pc := 42) (v := 0) (by decide) eY_areFaulty_42 ?_
        refine go_rV (pc := 43) 6 (d_fails1 _ 0) okY_fails lmY_46 eY_areFaulty_43 rfl rfl rfl rfl rfl (Nat.le_of_ble_eq_true rfl) (Nat.le_of_ble_eq_true rfl) ?_
        exact go_iret (pc := 46) rfl rfl eY_areFaulty_46 (hf)
      · obtain ⟨b', -, hpg'⟩ := d_isPage (D := D) (cI := cI) (cB := cB) (cL := cL) (bb := bb) (L := L) (xs := xs) w
        refine go_iload (pc := 29) 4 4 rfl eY_areFaulty_29 ?_
        refine go_rS (pc := 31) (hpg' _ _) okY_isPage lmY_57 eY_areFaulty_31 rfl rfl (Nat.le_of_ble_eq_true rfl) (Nat.le_of_ble_eq_true rfl) ?_
        refine go_if_ne (pc := 34) 41 (by decide) eY_areFaulty_34 (fun c34 => ?_) (fun c34 => ?_)
        · refine go_iconst (pc := 41) (v := 0) (by decide) eY_areFaulty_41 ?_
          refine go_iconst (pc := 42) (v := 0) (by decide) eY_areFaulty_42 ?_
          refine go_rV (pc := 43) 6 (d_fails1 _ 0) okY_fails lmY_46 eY_areFaulty_43 rfl rfl rfl rfl rfl (Nat.le_of_ble_eq_true rfl) (Nat.le_of_ble_eq_true rfl) ?_
          exact go_iret (pc := 46) rfl rfl eY_areFaulty_46 (hf)
        · refine go_iconst (pc := 37) (v := 1) (by decide) eY_areFaulty_37 ?_
          refine go_goto (pc := 38) 42 (by decide) eY_areFaulty_38 ?_
          refine go_iconst (pc := 42) (v := 0) (by decide) eY_areFaulty_42 ?_
          refine go_rV (pc := 43) 6 (d_fails1 _ 0) okY_fails lmY_46 eY_areFaulty_43 rfl rfl rfl rfl rfl (Nat.le_of_ble_eq_true rfl) (Nat.le_of_ble_eq_true rfl) ?_
          exact go_iret (pc := 46) rfl rfl eY_areFaulty_46 (hf)
set_option maxRecDepth 100000 in
set_option maxHeartbeats 1000000 in
theorem d_af3 (s : Nat) (hs : s < 6) (hth : th s = true) (t : Nat) (ht : t < 6) (htt : th t = true) (y : Int32) (hy : ∀ j, j < 8 → y ≠ nI j) (w : Int32) : Ret (gg D cI cB cL bb L xs) mY_areFaulty (n + 1) 0 0 [.ref hm, .int (nI s), .int (y), .int (nI t), .int (w)] (zW z0 z1 z2 z3 z4 z5 cI cB hm b1 b2 b3 b4 cd F sx pd th sm u rest) (some (.int (1))) (zW z0 z1 z2 z3 z4 z5 cI cB hm b1 b2 b3 b4 2 F sx pd th sm u rest) := by
  intro Psi hf
  show Go _ _ _ _ _ 0 [(0, .ref hm), (1, .int (nI s)), (2, .int (y)), (3, .int (nI t)), (4, .int (w))] [] _ Psi
  refine go_aload_n (pc := 0) 0 0 rfl rfl eY_areFaulty_0 ?_
  refine go_aload_n (pc := 1) 0 0 rfl rfl eY_areFaulty_1 ?_
  refine go_iload_n (pc := 2) 1 1 rfl rfl eY_areFaulty_2 ?_
  refine go_rV (pc := 3) 6 (d_isSpaceT s hs hth) okY_isSpace lmY_42 eY_areFaulty_3 rfl rfl rfl rfl rfl (Nat.le_of_ble_eq_true rfl) (Nat.le_of_ble_eq_true rfl) ?_
  refine go_if_eq (pc := 6) 17 (by decide) eY_areFaulty_6 (fun c6 => ?_) (fun c6 => ?_)
  · exact absurd c6 (by decide)
  · refine go_aload_n (pc := 9) 0 0 rfl rfl eY_areFaulty_9 ?_
    refine go_iload_n (pc := 10) 3 3 rfl rfl eY_areFaulty_10 ?_
    refine go_rV (pc := 11) 6 (d_isSpaceT t ht htt) okY_isSpace lmY_42 eY_areFaulty_11 rfl rfl rfl rfl rfl (Nat.le_of_ble_eq_true rfl) (Nat.le_of_ble_eq_true rfl) ?_
    refine go_if_ne (pc := 14) 21 (by decide) eY_areFaulty_14 (fun c14 => ?_) (fun c14 => ?_)
    · refine go_iconst (pc := 21) (v := 0) (by decide) eY_areFaulty_21 ?_
      refine go_iload_n (pc := 22) 2 2 rfl rfl eY_areFaulty_22 ?_
      refine go_rS (pc := 23) (d_isPageF y hy) okY_isPage lmY_57 eY_areFaulty_23 rfl rfl (Nat.le_of_ble_eq_true rfl) (Nat.le_of_ble_eq_true rfl) ?_
      refine go_if_eq (pc := 26) 37 (by decide) eY_areFaulty_26 (fun c26 => ?_) (fun c26 => ?_)
      · refine go_iconst (pc := 37) (v := 1) (by decide) eY_areFaulty_37 ?_
        refine go_goto (pc := 38) 42 (by decide) eY_areFaulty_38 ?_
        refine go_iconst (pc := 42) (v := 0) (by decide) eY_areFaulty_42 ?_
        refine go_rV (pc := 43) 6 (d_fails2 0) okY_fails lmY_46 eY_areFaulty_43 rfl rfl rfl rfl rfl (Nat.le_of_ble_eq_true rfl) (Nat.le_of_ble_eq_true rfl) ?_
        exact go_iret (pc := 46) rfl rfl eY_areFaulty_46 (hf)
      · exact absurd rfl c26
    · exact absurd c14 (by decide)
set_option maxRecDepth 100000 in
set_option maxHeartbeats 1000000 in
theorem d_af4 (s : Nat) (hs : s < 6) (hth : th s = true) (t : Nat) (ht : t < 6) (htt : th t = true) (p : Nat) (hp : p < 8) (y : Int32) (hy : ∀ j, j < 8 → y ≠ nI j) : Ret (gg D cI cB cL bb L xs) mY_areFaulty (n + 1) 0 0 [.ref hm, .int (nI s), .int (nI p), .int (nI t), .int (y)] (zW z0 z1 z2 z3 z4 z5 cI cB hm b1 b2 b3 b4 cd F sx pd th sm u rest) (some (.int (1))) (zW z0 z1 z2 z3 z4 z5 cI cB hm b1 b2 b3 b4 2 F sx pd th sm u rest) := by
  intro Psi hf
  show Go _ _ _ _ _ 0 [(0, .ref hm), (1, .int (nI s)), (2, .int (nI p)), (3, .int (nI t)), (4, .int (y))] [] _ Psi
  refine go_aload_n (pc := 0) 0 0 rfl rfl eY_areFaulty_0 ?_
  refine go_aload_n (pc := 1) 0 0 rfl rfl eY_areFaulty_1 ?_
  refine go_iload_n (pc := 2) 1 1 rfl rfl eY_areFaulty_2 ?_
  refine go_rV (pc := 3) 6 (d_isSpaceT s hs hth) okY_isSpace lmY_42 eY_areFaulty_3 rfl rfl rfl rfl rfl (Nat.le_of_ble_eq_true rfl) (Nat.le_of_ble_eq_true rfl) ?_
  refine go_if_eq (pc := 6) 17 (by decide) eY_areFaulty_6 (fun c6 => ?_) (fun c6 => ?_)
  · exact absurd c6 (by decide)
  · refine go_aload_n (pc := 9) 0 0 rfl rfl eY_areFaulty_9 ?_
    refine go_iload_n (pc := 10) 3 3 rfl rfl eY_areFaulty_10 ?_
    refine go_rV (pc := 11) 6 (d_isSpaceT t ht htt) okY_isSpace lmY_42 eY_areFaulty_11 rfl rfl rfl rfl rfl (Nat.le_of_ble_eq_true rfl) (Nat.le_of_ble_eq_true rfl) ?_
    refine go_if_ne (pc := 14) 21 (by decide) eY_areFaulty_14 (fun c14 => ?_) (fun c14 => ?_)
    · refine go_iconst (pc := 21) (v := 0) (by decide) eY_areFaulty_21 ?_
      refine go_iload_n (pc := 22) 2 2 rfl rfl eY_areFaulty_22 ?_
      refine go_rS (pc := 23) (d_isPageT p hp) okY_isPage lmY_57 eY_areFaulty_23 rfl rfl (Nat.le_of_ble_eq_true rfl) (Nat.le_of_ble_eq_true rfl) ?_
      refine go_if_eq (pc := 26) 37 (by decide) eY_areFaulty_26 (fun c26 => ?_) (fun c26 => ?_)
      · exact absurd c26 (by decide)
      · refine go_iload (pc := 29) 4 4 rfl eY_areFaulty_29 ?_
        refine go_rS (pc := 31) (d_isPageF y hy) okY_isPage lmY_57 eY_areFaulty_31 rfl rfl (Nat.le_of_ble_eq_true rfl) (Nat.le_of_ble_eq_true rfl) ?_
        refine go_if_ne (pc := 34) 41 (by decide) eY_areFaulty_34 (fun c34 => ?_) (fun c34 => ?_)
        · exact absurd rfl c34
        · refine go_iconst (pc := 37) (v := 1) (by decide) eY_areFaulty_37 ?_
          refine go_goto (pc := 38) 42 (by decide) eY_areFaulty_38 ?_
          refine go_iconst (pc := 42) (v := 0) (by decide) eY_areFaulty_42 ?_
          refine go_rV (pc := 43) 6 (d_fails2 0) okY_fails lmY_46 eY_areFaulty_43 rfl rfl rfl rfl rfl (Nat.le_of_ble_eq_true rfl) (Nat.le_of_ble_eq_true rfl) ?_
          exact go_iret (pc := 46) rfl rfl eY_areFaulty_46 (hf)
    · exact absurd c14 (by decide)
set_option maxRecDepth 100000 in
set_option maxHeartbeats 1000000 in
theorem e_lend1 (x : Int32) (hx : ∀ j, j < 6 → x = nI j → th j = false) (y z w : Int32) : Ret (gg D cI cB cL bb L xs) mY_lend (n + 2) 0 0 [.ref hm, .int (x), .int (y), .int (z), .int (w)] (zW z0 z1 z2 z3 z4 z5 cI cB hm b1 b2 b3 b4 cd F sx pd th sm u rest) (some (.int (0))) (zW z0 z1 z2 z3 z4 z5 cI cB hm b1 b2 b3 b4 1 F sx pd th sm u rest) := by
  intro Psi hf
  show Go _ _ _ _ _ 0 [(0, .ref hm), (1, .int (x)), (2, .int (y)), (3, .int (z)), (4, .int (w))] [] _ Psi
  refine go_aload_n (pc := 0) 0 0 rfl rfl eY_lend_0 ?_
  refine go_iload_n (pc := 1) 1 1 rfl rfl eY_lend_1 ?_
  refine go_iload_n (pc := 2) 2 2 rfl rfl eY_lend_2 ?_
  refine go_iload_n (pc := 3) 3 3 rfl rfl eY_lend_3 ?_
  refine go_iload (pc := 4) 4 4 rfl eY_lend_4 ?_
  refine go_rV (pc := 6) 6 (d_af1 x hx y z w) okY_areFaulty lmY_73 eY_lend_6 rfl rfl rfl rfl rfl (Nat.le_of_ble_eq_true rfl) (Nat.le_of_ble_eq_true rfl) ?_
  refine go_if_eq (pc := 9) 14 (by decide) eY_lend_9 (fun c9 => ?_) (fun c9 => ?_)
  · exact absurd c9 (by decide)
  · refine go_iconst (pc := 12) (v := 0) (by decide) eY_lend_12 ?_
    exact go_iret (pc := 13) rfl rfl eY_lend_13 (hf)
set_option maxRecDepth 100000 in
set_option maxHeartbeats 1000000 in
theorem e_lend2 (s : Nat) (hs : s < 6) (hth : th s = true) (x : Int32) (hx : ∀ j, j < 6 → x = nI j → th j = false) (y w : Int32) : Ret (gg D cI cB cL bb L xs) mY_lend (n + 2) 0 0 [.ref hm, .int (nI s), .int (y), .int (x), .int (w)] (zW z0 z1 z2 z3 z4 z5 cI cB hm b1 b2 b3 b4 cd F sx pd th sm u rest) (some (.int (0))) (zW z0 z1 z2 z3 z4 z5 cI cB hm b1 b2 b3 b4 1 F sx pd th sm u rest) := by
  intro Psi hf
  show Go _ _ _ _ _ 0 [(0, .ref hm), (1, .int (nI s)), (2, .int (y)), (3, .int (x)), (4, .int (w))] [] _ Psi
  refine go_aload_n (pc := 0) 0 0 rfl rfl eY_lend_0 ?_
  refine go_iload_n (pc := 1) 1 1 rfl rfl eY_lend_1 ?_
  refine go_iload_n (pc := 2) 2 2 rfl rfl eY_lend_2 ?_
  refine go_iload_n (pc := 3) 3 3 rfl rfl eY_lend_3 ?_
  refine go_iload (pc := 4) 4 4 rfl eY_lend_4 ?_
  refine go_rV (pc := 6) 6 (d_af2 s hs hth x hx y w) okY_areFaulty lmY_73 eY_lend_6 rfl rfl rfl rfl rfl (Nat.le_of_ble_eq_true rfl) (Nat.le_of_ble_eq_true rfl) ?_
  refine go_if_eq (pc := 9) 14 (by decide) eY_lend_9 (fun c9 => ?_) (fun c9 => ?_)
  · exact absurd c9 (by decide)
  · refine go_iconst (pc := 12) (v := 0) (by decide) eY_lend_12 ?_
    exact go_iret (pc := 13) rfl rfl eY_lend_13 (hf)
set_option maxRecDepth 100000 in
set_option maxHeartbeats 1000000 in
theorem e_lend3 (s : Nat) (hs : s < 6) (hth : th s = true) (t : Nat) (ht : t < 6) (htt : th t = true) (y : Int32) (hy : ∀ j, j < 8 → y ≠ nI j) (w : Int32) : Ret (gg D cI cB cL bb L xs) mY_lend (n + 2) 0 0 [.ref hm, .int (nI s), .int (y), .int (nI t), .int (w)] (zW z0 z1 z2 z3 z4 z5 cI cB hm b1 b2 b3 b4 cd F sx pd th sm u rest) (some (.int (0))) (zW z0 z1 z2 z3 z4 z5 cI cB hm b1 b2 b3 b4 2 F sx pd th sm u rest) := by
  intro Psi hf
  show Go _ _ _ _ _ 0 [(0, .ref hm), (1, .int (nI s)), (2, .int (y)), (3, .int (nI t)), (4, .int (w))] [] _ Psi
  refine go_aload_n (pc := 0) 0 0 rfl rfl eY_lend_0 ?_
  refine go_iload_n (pc := 1) 1 1 rfl rfl eY_lend_1 ?_
  refine go_iload_n (pc := 2) 2 2 rfl rfl eY_lend_2 ?_
  refine go_iload_n (pc := 3) 3 3 rfl rfl eY_lend_3 ?_
  refine go_iload (pc := 4) 4 4 rfl eY_lend_4 ?_
  refine go_rV (pc := 6) 6 (d_af3 s hs hth t ht htt y hy w) okY_areFaulty lmY_73 eY_lend_6 rfl rfl rfl rfl rfl (Nat.le_of_ble_eq_true rfl) (Nat.le_of_ble_eq_true rfl) ?_
  refine go_if_eq (pc := 9) 14 (by decide) eY_lend_9 (fun c9 => ?_) (fun c9 => ?_)
  · exact absurd c9 (by decide)
  · refine go_iconst (pc := 12) (v := 0) (by decide) eY_lend_12 ?_
    exact go_iret (pc := 13) rfl rfl eY_lend_13 (hf)
set_option maxRecDepth 100000 in
set_option maxHeartbeats 1000000 in
theorem e_lend4 (s : Nat) (hs : s < 6) (hth : th s = true) (t : Nat) (ht : t < 6) (htt : th t = true) (p : Nat) (hp : p < 8) (y : Int32) (hy : ∀ j, j < 8 → y ≠ nI j) : Ret (gg D cI cB cL bb L xs) mY_lend (n + 2) 0 0 [.ref hm, .int (nI s), .int (nI p), .int (nI t), .int (y)] (zW z0 z1 z2 z3 z4 z5 cI cB hm b1 b2 b3 b4 cd F sx pd th sm u rest) (some (.int (0))) (zW z0 z1 z2 z3 z4 z5 cI cB hm b1 b2 b3 b4 2 F sx pd th sm u rest) := by
  intro Psi hf
  show Go _ _ _ _ _ 0 [(0, .ref hm), (1, .int (nI s)), (2, .int (nI p)), (3, .int (nI t)), (4, .int (y))] [] _ Psi
  refine go_aload_n (pc := 0) 0 0 rfl rfl eY_lend_0 ?_
  refine go_iload_n (pc := 1) 1 1 rfl rfl eY_lend_1 ?_
  refine go_iload_n (pc := 2) 2 2 rfl rfl eY_lend_2 ?_
  refine go_iload_n (pc := 3) 3 3 rfl rfl eY_lend_3 ?_
  refine go_iload (pc := 4) 4 4 rfl eY_lend_4 ?_
  refine go_rV (pc := 6) 6 (d_af4 s hs hth t ht htt p hp y hy) okY_areFaulty lmY_73 eY_lend_6 rfl rfl rfl rfl rfl (Nat.le_of_ble_eq_true rfl) (Nat.le_of_ble_eq_true rfl) ?_
  refine go_if_eq (pc := 9) 14 (by decide) eY_lend_9 (fun c9 => ?_) (fun c9 => ?_)
  · exact absurd c9 (by decide)
  · refine go_iconst (pc := 12) (v := 0) (by decide) eY_lend_12 ?_
    exact go_iret (pc := 13) rfl rfl eY_lend_13 (hf)
set_option maxRecDepth 100000 in
set_option maxHeartbeats 1000000 in
theorem e_join1 (x : Int32) (hx : ∀ j, j < 6 → x = nI j → th j = false) (y z w : Int32) : Ret (gg D cI cB cL bb L xs) mY_join (n + 2) 0 0 [.ref hm, .int (x), .int (y), .int (z), .int (w)] (zW z0 z1 z2 z3 z4 z5 cI cB hm b1 b2 b3 b4 cd F sx pd th sm u rest) (some (.int (0))) (zW z0 z1 z2 z3 z4 z5 cI cB hm b1 b2 b3 b4 1 F sx pd th sm u rest) := by
  intro Psi hf
  show Go _ _ _ _ _ 0 [(0, .ref hm), (1, .int (x)), (2, .int (y)), (3, .int (z)), (4, .int (w))] [] _ Psi
  refine go_aload_n (pc := 0) 0 0 rfl rfl eY_join_0 ?_
  refine go_iload_n (pc := 1) 1 1 rfl rfl eY_join_1 ?_
  refine go_iload_n (pc := 2) 2 2 rfl rfl eY_join_2 ?_
  refine go_iload_n (pc := 3) 3 3 rfl rfl eY_join_3 ?_
  refine go_iload (pc := 4) 4 4 rfl eY_join_4 ?_
  refine go_rV (pc := 6) 6 (d_af1 x hx y z w) okY_areFaulty lmY_73 eY_join_6 rfl rfl rfl rfl rfl (Nat.le_of_ble_eq_true rfl) (Nat.le_of_ble_eq_true rfl) ?_
  refine go_if_eq (pc := 9) 14 (by decide) eY_join_9 (fun c9 => ?_) (fun c9 => ?_)
  · exact absurd c9 (by decide)
  · refine go_iconst (pc := 12) (v := 0) (by decide) eY_join_12 ?_
    exact go_iret (pc := 13) rfl rfl eY_join_13 (hf)
set_option maxRecDepth 100000 in
set_option maxHeartbeats 1000000 in
theorem e_join2 (s : Nat) (hs : s < 6) (hth : th s = true) (x : Int32) (hx : ∀ j, j < 6 → x = nI j → th j = false) (y w : Int32) : Ret (gg D cI cB cL bb L xs) mY_join (n + 2) 0 0 [.ref hm, .int (nI s), .int (y), .int (x), .int (w)] (zW z0 z1 z2 z3 z4 z5 cI cB hm b1 b2 b3 b4 cd F sx pd th sm u rest) (some (.int (0))) (zW z0 z1 z2 z3 z4 z5 cI cB hm b1 b2 b3 b4 1 F sx pd th sm u rest) := by
  intro Psi hf
  show Go _ _ _ _ _ 0 [(0, .ref hm), (1, .int (nI s)), (2, .int (y)), (3, .int (x)), (4, .int (w))] [] _ Psi
  refine go_aload_n (pc := 0) 0 0 rfl rfl eY_join_0 ?_
  refine go_iload_n (pc := 1) 1 1 rfl rfl eY_join_1 ?_
  refine go_iload_n (pc := 2) 2 2 rfl rfl eY_join_2 ?_
  refine go_iload_n (pc := 3) 3 3 rfl rfl eY_join_3 ?_
  refine go_iload (pc := 4) 4 4 rfl eY_join_4 ?_
  refine go_rV (pc := 6) 6 (d_af2 s hs hth x hx y w) okY_areFaulty lmY_73 eY_join_6 rfl rfl rfl rfl rfl (Nat.le_of_ble_eq_true rfl) (Nat.le_of_ble_eq_true rfl) ?_
  refine go_if_eq (pc := 9) 14 (by decide) eY_join_9 (fun c9 => ?_) (fun c9 => ?_)
  · exact absurd c9 (by decide)
  · refine go_iconst (pc := 12) (v := 0) (by decide) eY_join_12 ?_
    exact go_iret (pc := 13) rfl rfl eY_join_13 (hf)
set_option maxRecDepth 100000 in
set_option maxHeartbeats 1000000 in
theorem e_join3 (s : Nat) (hs : s < 6) (hth : th s = true) (t : Nat) (ht : t < 6) (htt : th t = true) (y : Int32) (hy : ∀ j, j < 8 → y ≠ nI j) (w : Int32) : Ret (gg D cI cB cL bb L xs) mY_join (n + 2) 0 0 [.ref hm, .int (nI s), .int (y), .int (nI t), .int (w)] (zW z0 z1 z2 z3 z4 z5 cI cB hm b1 b2 b3 b4 cd F sx pd th sm u rest) (some (.int (0))) (zW z0 z1 z2 z3 z4 z5 cI cB hm b1 b2 b3 b4 2 F sx pd th sm u rest) := by
  intro Psi hf
  show Go _ _ _ _ _ 0 [(0, .ref hm), (1, .int (nI s)), (2, .int (y)), (3, .int (nI t)), (4, .int (w))] [] _ Psi
  refine go_aload_n (pc := 0) 0 0 rfl rfl eY_join_0 ?_
  refine go_iload_n (pc := 1) 1 1 rfl rfl eY_join_1 ?_
  refine go_iload_n (pc := 2) 2 2 rfl rfl eY_join_2 ?_
  refine go_iload_n (pc := 3) 3 3 rfl rfl eY_join_3 ?_
  refine go_iload (pc := 4) 4 4 rfl eY_join_4 ?_
  refine go_rV (pc := 6) 6 (d_af3 s hs hth t ht htt y hy w) okY_areFaulty lmY_73 eY_join_6 rfl rfl rfl rfl rfl (Nat.le_of_ble_eq_true rfl) (Nat.le_of_ble_eq_true rfl) ?_
  refine go_if_eq (pc := 9) 14 (by decide) eY_join_9 (fun c9 => ?_) (fun c9 => ?_)
  · exact absurd c9 (by decide)
  · refine go_iconst (pc := 12) (v := 0) (by decide) eY_join_12 ?_
    exact go_iret (pc := 13) rfl rfl eY_join_13 (hf)
set_option maxRecDepth 100000 in
set_option maxHeartbeats 1000000 in
theorem e_join4 (s : Nat) (hs : s < 6) (hth : th s = true) (t : Nat) (ht : t < 6) (htt : th t = true) (p : Nat) (hp : p < 8) (y : Int32) (hy : ∀ j, j < 8 → y ≠ nI j) : Ret (gg D cI cB cL bb L xs) mY_join (n + 2) 0 0 [.ref hm, .int (nI s), .int (nI p), .int (nI t), .int (y)] (zW z0 z1 z2 z3 z4 z5 cI cB hm b1 b2 b3 b4 cd F sx pd th sm u rest) (some (.int (0))) (zW z0 z1 z2 z3 z4 z5 cI cB hm b1 b2 b3 b4 2 F sx pd th sm u rest) := by
  intro Psi hf
  show Go _ _ _ _ _ 0 [(0, .ref hm), (1, .int (nI s)), (2, .int (nI p)), (3, .int (nI t)), (4, .int (y))] [] _ Psi
  refine go_aload_n (pc := 0) 0 0 rfl rfl eY_join_0 ?_
  refine go_iload_n (pc := 1) 1 1 rfl rfl eY_join_1 ?_
  refine go_iload_n (pc := 2) 2 2 rfl rfl eY_join_2 ?_
  refine go_iload_n (pc := 3) 3 3 rfl rfl eY_join_3 ?_
  refine go_iload (pc := 4) 4 4 rfl eY_join_4 ?_
  refine go_rV (pc := 6) 6 (d_af4 s hs hth t ht htt p hp y hy) okY_areFaulty lmY_73 eY_join_6 rfl rfl rfl rfl rfl (Nat.le_of_ble_eq_true rfl) (Nat.le_of_ble_eq_true rfl) ?_
  refine go_if_eq (pc := 9) 14 (by decide) eY_join_9 (fun c9 => ?_) (fun c9 => ?_)
  · exact absurd c9 (by decide)
  · refine go_iconst (pc := 12) (v := 0) (by decide) eY_join_12 ?_
    exact go_iret (pc := 13) rfl rfl eY_join_13 (hf)
set_option maxRecDepth 100000 in
set_option maxHeartbeats 1000000 in
theorem d_lend (hsm : ∀ k, sm k < 2 ^ 30) (s : Nat) (hs : s < 6) (hth : th s = true) (t : Nat) (ht : t < 6) (htt : th t = true) (p q : Nat) (hp : p < 8) (hq : q < 8) : Ret (gg D cI cB cL bb L xs) mY_lend (n + 2) 0 0 [.ref hm, .int (nI s), .int (nI p), .int (nI t), .int (nI q)] (zW z0 z1 z2 z3 z4 z5 cI cB hm b1 b2 b3 b4 cd F sx pd th sm u rest) (some (.int (bI (decide (¬ sm (8 * s + p) = sm (8 * t + q)))))) (zW z0 z1 z2 z3 z4 z5 cI cB hm b1 b2 b3 b4 0 F sx pd th (va_up sm (8 * t + q) (sm (8 * s + p))) (va_cpy u u (16 * (8 * s + p)) (16 * (8 * t + q)) 16) rest) := by
  intro Psi hf
  show Go _ _ _ _ _ 0 [(0, .ref hm), (1, .int (nI s)), (2, .int (nI p)), (3, .int (nI t)), (4, .int (nI q))] [] _ Psi
  refine go_aload_n (pc := 0) 0 0 rfl rfl eY_lend_0 ?_
  refine go_iload_n (pc := 1) 1 1 rfl rfl eY_lend_1 ?_
  refine go_iload_n (pc := 2) 2 2 rfl rfl eY_lend_2 ?_
  refine go_iload_n (pc := 3) 3 3 rfl rfl eY_lend_3 ?_
  refine go_iload (pc := 4) 4 4 rfl eY_lend_4 ?_
  refine go_rV (pc := 6) 6 (d_af0 s hs hth t ht htt p q hp hq) okY_areFaulty lmY_73 eY_lend_6 rfl rfl rfl rfl rfl (Nat.le_of_ble_eq_true rfl) (Nat.le_of_ble_eq_true rfl) ?_
  refine go_if_eq (pc := 9) 14 (by decide) eY_lend_9 (fun c9 => ?_) (fun c9 => ?_)
  · refine go_iconst (pc := 14) (v := 0) (by decide) eY_lend_14 ?_
    refine go_iload_n (pc := 15) 3 3 rfl rfl eY_lend_15 ?_
    refine go_iload (pc := 16) 4 4 rfl eY_lend_16 ?_
    refine go_rS (pc := 18) (d_page0 t q) okY_page lmY_34 eY_lend_18 rfl rfl (Nat.le_of_ble_eq_true rfl) (Nat.le_of_ble_eq_true rfl) ?_
    refine go_istore (pc := 21) (ls' := [(5, _), (0, _), (1, _), (2, _), (3, _), (4, _)]) 5 (by decide) eY_lend_21 rfl ?_
    refine go_aload_n (pc := 23) 0 1 rfl rfl eY_lend_23 ?_
    refine go_get (pc := 24) hwY 6 rfl rfl 5 (by decide) lkY_16 rfl eY_lend_24 ?_
    refine go_iload (pc := 27) 5 0 rfl eY_lend_27 ?_
    refine go_ialdN (pc := 29) 9 0 (8 * t + q) eY_lend_29 rfl rfl (rfl) (by omega) (by omega) ?_
    refine go_istore (pc := 30) (ls' := [(6, _), (5, _), (0, _), (1, _), (2, _), (3, _), (4, _)]) 6 (by decide) eY_lend_30 rfl ?_
    refine go_aload_n (pc := 32) 0 2 rfl rfl eY_lend_32 ?_
    refine go_iconst (pc := 33) (v := 0) (by decide) eY_lend_33 ?_
    refine go_iload_n (pc := 34) 1 3 rfl rfl eY_lend_34 ?_
    refine go_iload_n (pc := 35) 2 4 rfl rfl eY_lend_35 ?_
    refine go_rS (pc := 36) (d_page0 s p) okY_page lmY_34 eY_lend_36 rfl rfl (Nat.le_of_ble_eq_true rfl) (Nat.le_of_ble_eq_true rfl) ?_
    refine go_iload (pc := 39) 5 1 rfl eY_lend_39 ?_
    refine go_rV0 (pc := 41) 6 (d_cp (8 * s + p) (8 * t + q) (by omega) (by omega)) okY_copyPage lmY_30 eY_lend_41 rfl rfl rfl rfl rfl (Nat.le_of_ble_eq_true rfl) (Nat.le_of_ble_eq_true rfl) ?_
    refine go_aload_n (pc := 44) 0 2 rfl rfl eY_lend_44 ?_
    refine go_get (pc := 45) hwY 6 rfl rfl 5 (by decide) lkY_16 rfl eY_lend_45 ?_
    refine go_iload (pc := 48) 5 1 rfl eY_lend_48 ?_
    refine go_ialdN (pc := 50) 9 0 (8 * t + q) eY_lend_50 rfl rfl (rfl) (by omega) (by omega) ?_
    rw [va_upat]
    refine go_iload (pc := 51) 6 0 rfl eY_lend_51 ?_
    refine go_icmp_eq (pc := 53) 60 (by decide) eY_lend_53 (fun c53 => ?_) (fun c53 => ?_)
    · rw [show decide (¬ sm (8 * s + p) = sm (8 * t + q)) = false from decide_eq_false (fun z => z ((nI_eq (by have := hsm (8 * s + p); omega) (by have := hsm (8 * t + q); omega)).mp c53))] at hf
      refine go_iconst (pc := 60) (v := 0) (by decide) eY_lend_60 ?_
      exact go_iret (pc := 61) rfl rfl eY_lend_61 (hf)
    · rw [show decide (¬ sm (8 * s + p) = sm (8 * t + q)) = true from decide_eq_true (fun z => c53 (by rw [z]))] at hf
      refine go_iconst (pc := 56) (v := 1) (by decide) eY_lend_56 ?_
      refine go_goto (pc := 57) 61 (by decide) eY_lend_57 ?_
      exact go_iret (pc := 61) rfl rfl eY_lend_61 (hf)
  · exact absurd rfl c9
end Syb
end
section
section Syc
variable {D : va_G} {cI cB cL : ClassId} {bb L : Nat} {xs : Nat → Int32} {n hm b1 b2 b3 b4 F sx : Nat} {cd : Int32} {pd th : Nat → Bool} {sm : Nat → Nat} {u : Nat → Int32} {z0 z1 z2 z3 z4 z5 : Nat × va_E} {rest es : va_W}
set_option maxRecDepth 100000 in
set_option maxHeartbeats 1000000 in
theorem k_j1 (s t p q : Nat) (hs : s < 6) (ht : t < 6) (hp : p < 8) (hq : q < 8) (b0 : Bool) (gn : Nat) {Psi : gR → va_W → Prop} (hk : Go (gg D cI cB cL bb L xs) mY_join (n + 2) 0 0 131 [(8, .int (bI (b0 && decide (gcnt (fun k => decide (¬ u (16 * (8 * s + p) + k) = u (16 * (8 * t + q) + k))) 16 = 0)))), (7, .int (nI gn)), (6, .int (nI (8 * t + q))), (5, .int (nI (8 * s + p))), (0, .ref hm)] [] (zW z0 z1 z2 z3 z4 z5 cI cB hm b1 b2 b3 b4 cd F sx pd th sm u rest) Psi) : ∀ (m i : Nat), i + m = 16 → Go (gg D cI cB cL bb L xs) mY_join (n + 2) 0 0 77 [(9, .int (nI i)), (8, .int (bI (b0 && decide (gcnt (fun k => decide (¬ u (16 * (8 * s + p) + k) = u (16 * (8 * t + q) + k))) i = 0)))), (7, .int (nI gn)), (6, .int (nI (8 * t + q))), (5, .int (nI (8 * s + p))), (0, .ref hm)] [] (zW z0 z1 z2 z3 z4 z5 cI cB hm b1 b2 b3 b4 cd F sx pd th sm u rest) Psi := by
  intro m
  induction m with
  | zero =>
    intro i hi
    obtain rfl : i = 16 := by omega
    refine go_iload (pc := 77) 9 0 rfl eY_join_77 ?_
    refine go_bipush (pc := 79) (v := 16) (by decide) eY_join_79 ?_
    refine go_icmp_ge (pc := 81) 131 (by decide) eY_join_81 (fun c81 => ?_) (fun c81 => ?_)
    · refine go_ls [1, 2, 3, 4, 5] rfl ?_
      exact hk
    · exact absurd (show (16 : Int32) ≤ nI 16 by decide) c81
  | succ m ih =>
    intro i hi
    refine go_iload (pc := 77) 9 0 rfl eY_join_77 ?_
    refine go_bipush (pc := 79) (v := 16) (by decide) eY_join_79 ?_
    refine go_icmp_ge (pc := 81) 131 (by decide) eY_join_81 (fun c81 => ?_) (fun c81 => ?_)
    · exact absurd c81 (nI_ge (b := 16) (by omega) (by omega))
    · refine go_iload (pc := 84) 8 1 rfl eY_join_84 ?_
      refine go_if_eq (pc := 86) 122 (by decide) eY_join_86 (fun c86 => ?_) (fun c86 => ?_)
      · have e9 : (b0 && decide (gcnt (fun k => decide (¬ u (16 * (8 * s + p) + k) = u (16 * (8 * t + q) + k))) (i + 1) = 0)) = false := by
          have h1 := bI0.mp c86
          cases b0 with
          | false => rfl
          | true => exact decide_eq_false (fun z => by
              have h2 : gcnt (fun k => decide (¬ u (16 * (8 * s + p) + k) = u (16 * (8 * t + q) + k))) i ≠ 0 := fun y => by rw [y] at h1; cases h1
              have h3 : gcnt (fun k => decide (¬ u (16 * (8 * s + p) + k) = u (16 * (8 * t + q) + k))) (i + 1) = gcnt (fun k => decide (¬ u (16 * (8 * s + p) + k) = u (16 * (8 * t + q) + k))) i + (if (fun k => decide (¬ u (16 * (8 * s + p) + k) = u (16 * (8 * t + q) + k))) i then 1 else 0) := rfl
              omega)
        refine go_iconst (pc := 122) (v := 0) (by decide) eY_join_122 ?_
        refine go_istore (pc := 123) (ls' := [(8, _), (9, _), (7, _), (6, _), (5, _), (0, _)]) 8 (by decide) eY_join_123 rfl ?_
        refine go_iinc (pc := 125) (z := 1) (v := nI (i + 1)) (ls' := [(9, _), (8, _), (7, _), (6, _), (5, _), (0, _)]) 9 1 rfl (nI_1 i) (by decide) eY_join_125 rfl ?_
        refine go_goto (pc := 128) 77 (by decide) eY_join_128 ?_
        have h9 := ih (i + 1) (by omega)
        rw [e9] at h9
        exact h9
      · have h1 := bI1 c86
        rw [Bool.and_eq_true] at h1
        have h2 := of_decide_eq_true h1.2
        refine go_aload_n (pc := 89) 0 5 rfl rfl eY_join_89 ?_
        refine go_get (pc := 90) hwY 6 rfl rfl 6 (by decide) lkY_20 rfl eY_join_90 ?_
        refine go_bipush (pc := 93) (v := 16) (by decide) eY_join_93 ?_
        refine go_iload (pc := 95) 5 4 rfl eY_join_95 ?_
        refine go_imul (pc := 97) eY_join_97 ?_
        refine go_iload (pc := 98) 9 0 rfl eY_join_98 ?_
        refine go_iadd (pc := 100) eY_join_100 ?_
        refine go_ialdN (pc := 101) 10 0 (16 * (8 * s + p) + i) eY_join_101 rfl rfl (n16 (8 * s + p) i) (by omega) (by omega) ?_
        refine go_aload_n (pc := 102) 0 5 rfl rfl eY_join_102 ?_
        refine go_get (pc := 103) hwY 6 rfl rfl 6 (by decide) lkY_20 rfl eY_join_103 ?_
        refine go_bipush (pc := 106) (v := 16) (by decide) eY_join_106 ?_
        refine go_iload (pc := 108) 6 3 rfl eY_join_108 ?_
        refine go_imul (pc := 110) eY_join_110 ?_
        refine go_iload (pc := 111) 9 0 rfl eY_join_111 ?_
        refine go_iadd (pc := 113) eY_join_113 ?_
        refine go_ialdN (pc := 114) 10 0 (16 * (8 * t + q) + i) eY_join_114 rfl rfl (n16 (8 * t + q) i) (by omega) (by omega) ?_
        refine go_icmp_ne (pc := 115) 122 (by decide) eY_join_115 (fun c115 => ?_) (fun c115 => ?_)
        · have e9 : (b0 && decide (gcnt (fun k => decide (¬ u (16 * (8 * s + p) + k) = u (16 * (8 * t + q) + k))) (i + 1) = 0)) = false := by
            have h4 : gcnt (fun k => decide (¬ u (16 * (8 * s + p) + k) = u (16 * (8 * t + q) + k))) (i + 1) = gcnt (fun k => decide (¬ u (16 * (8 * s + p) + k) = u (16 * (8 * t + q) + k))) i + 1 := gcnt_s (decide_eq_true c115)
            rw [decide_eq_false (show ¬ gcnt (fun k => decide (¬ u (16 * (8 * s + p) + k) = u (16 * (8 * t + q) + k))) (i + 1) = 0 from by omega), Bool.and_false]
          refine go_iconst (pc := 122) (v := 0) (by decide) eY_join_122 ?_
          refine go_istore (pc := 123) (ls' := [(8, _), (9, _), (7, _), (6, _), (5, _), (0, _)]) 8 (by decide) eY_join_123 rfl ?_
          refine go_iinc (pc := 125) (z := 1) (v := nI (i + 1)) (ls' := [(9, _), (8, _), (7, _), (6, _), (5, _), (0, _)]) 9 1 rfl (nI_1 i) (by decide) eY_join_125 rfl ?_
          refine go_goto (pc := 128) 77 (by decide) eY_join_128 ?_
          have h9 := ih (i + 1) (by omega)
          rw [e9] at h9
          exact h9
        · have e9 : (b0 && decide (gcnt (fun k => decide (¬ u (16 * (8 * s + p) + k) = u (16 * (8 * t + q) + k))) (i + 1) = 0)) = true := by
            have h4 : gcnt (fun k => decide (¬ u (16 * (8 * s + p) + k) = u (16 * (8 * t + q) + k))) (i + 1) = gcnt (fun k => decide (¬ u (16 * (8 * s + p) + k) = u (16 * (8 * t + q) + k))) i := gcnt_n (decide_eq_false (fun z => z c115))
            rw [decide_eq_true (show gcnt (fun k => decide (¬ u (16 * (8 * s + p) + k) = u (16 * (8 * t + q) + k))) (i + 1) = 0 from by omega), Bool.and_true]; exact h1.1
          refine go_iconst (pc := 118) (v := 1) (by decide) eY_join_118 ?_
          refine go_goto (pc := 119) 123 (by decide) eY_join_119 ?_
          refine go_istore (pc := 123) (ls' := [(8, _), (9, _), (7, _), (6, _), (5, _), (0, _)]) 8 (by decide) eY_join_123 rfl ?_
          refine go_iinc (pc := 125) (z := 1) (v := nI (i + 1)) (ls' := [(9, _), (8, _), (7, _), (6, _), (5, _), (0, _)]) 9 1 rfl (nI_1 i) (by decide) eY_join_125 rfl ?_
          refine go_goto (pc := 128) 77 (by decide) eY_join_128 ?_
          have h9 := ih (i + 1) (by omega)
          rw [e9] at h9
          exact h9
set_option maxRecDepth 100000 in
set_option maxHeartbeats 1000000 in
theorem k_j2 (hsm : ∀ k, sm k < 2 ^ 30) (s t p q : Nat) (hs : s < 6) (ht : t < 6) (hp : p < 8) (hq : q < 8) (gn : Nat) (hgn : gn < 2 ^ 30) (hne : ¬ sm (8 * s + p) = gn) {Psi : gR → va_W → Prop} (hf : Psi (.inl (some (.int (nI (gcnt (fun k => decide (sm k = gn)) 432))))) (zW z0 z1 z2 z3 z4 z5 cI cB hm b1 b2 b3 b4 cd F sx pd th (mvs sm gn (sm (8 * s + p)) 432) u rest)) : ∀ (m i : Nat), i + m = 432 → Go (gg D cI cB cL bb L xs) mY_join (n + 2) 0 0 137 [(10, .int (nI i)), (9, .int (nI (gcnt (fun k => decide (sm k = gn)) i))), (8, .int (1)), (7, .int (nI gn)), (6, .int (nI (8 * t + q))), (5, .int (nI (8 * s + p))), (0, .ref hm)] [] (zW z0 z1 z2 z3 z4 z5 cI cB hm b1 b2 b3 b4 cd F sx pd th (mvs sm gn (sm (8 * s + p)) i) u rest) Psi := by
  intro m
  induction m with
  | zero =>
    intro i hi
    obtain rfl : i = 432 := by omega
    refine go_iload (pc := 137) 10 0 rfl eY_join_137 ?_
    refine go_sipush (pc := 139) (v := 432) (by decide) eY_join_139 ?_
    refine go_icmp_ge (pc := 142) 215 (by decide) eY_join_142 (fun c142 => ?_) (fun c142 => ?_)
    · refine go_iload (pc := 215) 9 1 rfl eY_join_215 ?_
      exact go_iret (pc := 217) rfl rfl eY_join_217 (hf)
    · exact absurd (show (432 : Int32) ≤ nI 432 by decide) c142
  | succ m ih =>
    intro i hi
    refine go_iload (pc := 137) 10 0 rfl eY_join_137 ?_
    refine go_sipush (pc := 139) (v := 432) (by decide) eY_join_139 ?_
    refine go_icmp_ge (pc := 142) 215 (by decide) eY_join_142 (fun c142 => ?_) (fun c142 => ?_)
    · exact absurd c142 (nI_ge (b := 432) (by omega) (by omega))
    · refine go_iload (pc := 145) 8 2 rfl eY_join_145 ?_
      refine go_if_eq (pc := 147) 215 (by decide) eY_join_147 (fun c147 => ?_) (fun c147 => ?_)
      · exact absurd c147 (by decide)
      · refine go_aload_n (pc := 150) 0 6 rfl rfl eY_join_150 ?_
        refine go_get (pc := 151) hwY 6 rfl rfl 5 (by decide) lkY_16 rfl eY_join_151 ?_
        refine go_iload (pc := 154) 10 0 rfl eY_join_154 ?_
        refine go_ialdN (pc := 156) 9 0 (i) eY_join_156 rfl rfl (rfl) (by omega) (by omega) ?_
        rw [mvs_at]
        refine go_iload (pc := 157) 7 3 rfl eY_join_157 ?_
        refine go_icmp_ne (pc := 159) 169 (by decide) eY_join_159 (fun c159 => ?_) (fun c159 => ?_)
        · have h1 : ¬ sm i = gn := fun z => c159 (by rw [z])
          have e9 : gcnt (fun k => decide (sm k = gn)) (i + 1) = gcnt (fun k => decide (sm k = gn)) i := gcnt_n (decide_eq_false h1)
          rw [← e9]
          refine go_iload (pc := 169) 9 1 rfl eY_join_169 ?_
          refine go_istore (pc := 171) (ls' := [(9, _), (10, _), (8, _), (7, _), (6, _), (5, _), (0, _)]) 9 (by decide) eY_join_171 rfl ?_
          refine go_aload_n (pc := 173) 0 6 rfl rfl eY_join_173 ?_
          refine go_get (pc := 174) hwY 6 rfl rfl 5 (by decide) lkY_16 rfl eY_join_174 ?_
          refine go_iload (pc := 177) 10 1 rfl eY_join_177 ?_
          refine go_aload_n (pc := 179) 0 6 rfl rfl eY_join_179 ?_
          refine go_get (pc := 180) hwY 6 rfl rfl 5 (by decide) lkY_16 rfl eY_join_180 ?_
          refine go_iload (pc := 183) 10 1 rfl eY_join_183 ?_
          refine go_ialdN (pc := 185) 9 0 (i) eY_join_185 rfl rfl (rfl) (by omega) (by omega) ?_
          rw [mvs_at]
          refine go_iload (pc := 186) 7 3 rfl eY_join_186 ?_
          refine go_icmp_ne (pc := 188) 201 (by decide) eY_join_188 (fun c188 => ?_) (fun c188 => ?_)
          · have h2 : ¬ sm i = gn := fun z => c188 (by rw [z])
            refine go_aload_n (pc := 201) 0 6 rfl rfl eY_join_201 ?_
            refine go_get (pc := 202) hwY 6 rfl rfl 5 (by decide) lkY_16 rfl eY_join_202 ?_
            refine go_iload (pc := 205) 10 1 rfl eY_join_205 ?_
            refine go_ialdN (pc := 207) 9 0 (i) eY_join_207 rfl rfl (rfl) (by omega) (by omega) ?_
            try rw [mvs_at]
            refine go_iastN (pc := 208) (es' := (zW z0 z1 z2 z3 z4 z5 cI cB hm b1 b2 b3 b4 cd F sx pd th (mvs sm gn (sm (8 * s + p)) (i + 1)) u rest)) 9 0 i eY_join_208 rfl rfl rfl (by omega) (by omega) (ys9 (upd_n.trans (by first | rw [mvs_s h2] | rw [mvs_n h2]))) ?_
            refine go_iinc (pc := 209) (z := 1) (v := nI (i + 1)) (ls' := [(10, _), (9, _), (8, _), (7, _), (6, _), (5, _), (0, _)]) 10 1 rfl (nI_1 i) (by decide) eY_join_209 rfl ?_
            refine go_goto (pc := 212) 137 (by decide) eY_join_212 ?_
            exact ih (i + 1) (by omega)
          · have h2 : sm i = gn := (nI_eq (by have := hsm i; omega) (by omega)).mp c188
            refine go_aload_n (pc := 191) 0 6 rfl rfl eY_join_191 ?_
            refine go_get (pc := 192) hwY 6 rfl rfl 5 (by decide) lkY_16 rfl eY_join_192 ?_
            refine go_iload (pc := 195) 5 5 rfl eY_join_195 ?_
            refine go_ialdN (pc := 197) 9 0 ((8 * s + p)) eY_join_197 rfl rfl (rfl) (by omega) (by omega) ?_
            rw [mvs_one hne]
            refine go_goto (pc := 198) 208 (by decide) eY_join_198 ?_
            try rw [mvs_at]
            refine go_iastN (pc := 208) (es' := (zW z0 z1 z2 z3 z4 z5 cI cB hm b1 b2 b3 b4 cd F sx pd th (mvs sm gn (sm (8 * s + p)) (i + 1)) u rest)) 9 0 i eY_join_208 rfl rfl rfl (by omega) (by omega) (ys9 (upd_n.trans (by first | rw [mvs_s h2] | rw [mvs_n h2]))) ?_
            refine go_iinc (pc := 209) (z := 1) (v := nI (i + 1)) (ls' := [(10, _), (9, _), (8, _), (7, _), (6, _), (5, _), (0, _)]) 10 1 rfl (nI_1 i) (by decide) eY_join_209 rfl ?_
            refine go_goto (pc := 212) 137 (by decide) eY_join_212 ?_
            exact ih (i + 1) (by omega)
        · have h1 : sm i = gn := (nI_eq (by have := hsm i; omega) (by omega)).mp c159
          have e9 : gcnt (fun k => decide (sm k = gn)) (i + 1) = gcnt (fun k => decide (sm k = gn)) i + 1 := gcnt_s (decide_eq_true h1)
          refine go_iload (pc := 162) 9 1 rfl eY_join_162 ?_
          refine go_iconst (pc := 164) (v := 1) (by decide) eY_join_164 ?_
          refine go_iadd (pc := 165) eY_join_165 ?_
          rw [nI_1, ← e9]
          refine go_goto (pc := 166) 171 (by decide) eY_join_166 ?_
          refine go_istore (pc := 171) (ls' := [(9, _), (10, _), (8, _), (7, _), (6, _), (5, _), (0, _)]) 9 (by decide) eY_join_171 rfl ?_
          refine go_aload_n (pc := 173) 0 6 rfl rfl eY_join_173 ?_
          refine go_get (pc := 174) hwY 6 rfl rfl 5 (by decide) lkY_16 rfl eY_join_174 ?_
          refine go_iload (pc := 177) 10 1 rfl eY_join_177 ?_
          refine go_aload_n (pc := 179) 0 6 rfl rfl eY_join_179 ?_
          refine go_get (pc := 180) hwY 6 rfl rfl 5 (by decide) lkY_16 rfl eY_join_180 ?_
          refine go_iload (pc := 183) 10 1 rfl eY_join_183 ?_
          refine go_ialdN (pc := 185) 9 0 (i) eY_join_185 rfl rfl (rfl) (by omega) (by omega) ?_
          rw [mvs_at]
          refine go_iload (pc := 186) 7 3 rfl eY_join_186 ?_
          refine go_icmp_ne (pc := 188) 201 (by decide) eY_join_188 (fun c188 => ?_) (fun c188 => ?_)
          · have h2 : ¬ sm i = gn := fun z => c188 (by rw [z])
            refine go_aload_n (pc := 201) 0 6 rfl rfl eY_join_201 ?_
            refine go_get (pc := 202) hwY 6 rfl rfl 5 (by decide) lkY_16 rfl eY_join_202 ?_
            refine go_iload (pc := 205) 10 1 rfl eY_join_205 ?_
            refine go_ialdN (pc := 207) 9 0 (i) eY_join_207 rfl rfl (rfl) (by omega) (by omega) ?_
            try rw [mvs_at]
            refine go_iastN (pc := 208) (es' := (zW z0 z1 z2 z3 z4 z5 cI cB hm b1 b2 b3 b4 cd F sx pd th (mvs sm gn (sm (8 * s + p)) (i + 1)) u rest)) 9 0 i eY_join_208 rfl rfl rfl (by omega) (by omega) (ys9 (upd_n.trans (by first | rw [mvs_s h2] | rw [mvs_n h2]))) ?_
            refine go_iinc (pc := 209) (z := 1) (v := nI (i + 1)) (ls' := [(10, _), (9, _), (8, _), (7, _), (6, _), (5, _), (0, _)]) 10 1 rfl (nI_1 i) (by decide) eY_join_209 rfl ?_
            refine go_goto (pc := 212) 137 (by decide) eY_join_212 ?_
            exact ih (i + 1) (by omega)
          · have h2 : sm i = gn := (nI_eq (by have := hsm i; omega) (by omega)).mp c188
            refine go_aload_n (pc := 191) 0 6 rfl rfl eY_join_191 ?_
            refine go_get (pc := 192) hwY 6 rfl rfl 5 (by decide) lkY_16 rfl eY_join_192 ?_
            refine go_iload (pc := 195) 5 5 rfl eY_join_195 ?_
            refine go_ialdN (pc := 197) 9 0 ((8 * s + p)) eY_join_197 rfl rfl (rfl) (by omega) (by omega) ?_
            rw [mvs_one hne]
            refine go_goto (pc := 198) 208 (by decide) eY_join_198 ?_
            try rw [mvs_at]
            refine go_iastN (pc := 208) (es' := (zW z0 z1 z2 z3 z4 z5 cI cB hm b1 b2 b3 b4 cd F sx pd th (mvs sm gn (sm (8 * s + p)) (i + 1)) u rest)) 9 0 i eY_join_208 rfl rfl rfl (by omega) (by omega) (ys9 (upd_n.trans (by first | rw [mvs_s h2] | rw [mvs_n h2]))) ?_
            refine go_iinc (pc := 209) (z := 1) (v := nI (i + 1)) (ls' := [(10, _), (9, _), (8, _), (7, _), (6, _), (5, _), (0, _)]) 10 1 rfl (nI_1 i) (by decide) eY_join_209 rfl ?_
            refine go_goto (pc := 212) 137 (by decide) eY_join_212 ?_
            exact ih (i + 1) (by omega)
set_option maxRecDepth 100000 in
set_option maxHeartbeats 1000000 in
theorem d_join0a (hsm : ∀ k, sm k < 2 ^ 30) (s : Nat) (hs : s < 6) (hth : th s = true) (t : Nat) (ht : t < 6) (htt : th t = true) (p q : Nat) (hp : p < 8) (hq : q < 8) (h0 : sm (8 * s + p) = 0) : Ret (gg D cI cB cL bb L xs) mY_join (n + 2) 0 0 [.ref hm, .int (nI s), .int (nI p), .int (nI t), .int (nI q)] (zW z0 z1 z2 z3 z4 z5 cI cB hm b1 b2 b3 b4 cd F sx pd th sm u rest) (some (.int (0))) (zW z0 z1 z2 z3 z4 z5 cI cB hm b1 b2 b3 b4 0 F sx pd th sm u rest) := by
  intro Psi hf
  show Go _ _ _ _ _ 0 [(0, .ref hm), (1, .int (nI s)), (2, .int (nI p)), (3, .int (nI t)), (4, .int (nI q))] [] _ Psi
  refine go_aload_n (pc := 0) 0 0 rfl rfl eY_join_0 ?_
  refine go_iload_n (pc := 1) 1 1 rfl rfl eY_join_1 ?_
  refine go_iload_n (pc := 2) 2 2 rfl rfl eY_join_2 ?_
  refine go_iload_n (pc := 3) 3 3 rfl rfl eY_join_3 ?_
  refine go_iload (pc := 4) 4 4 rfl eY_join_4 ?_
  refine go_rV (pc := 6) 6 (d_af0 s hs hth t ht htt p q hp hq) okY_areFaulty lmY_73 eY_join_6 rfl rfl rfl rfl rfl (Nat.le_of_ble_eq_true rfl) (Nat.le_of_ble_eq_true rfl) ?_
  refine go_if_eq (pc := 9) 14 (by decide) eY_join_9 (fun c9 => ?_) (fun c9 => ?_)
  · refine go_iconst (pc := 14) (v := 0) (by decide) eY_join_14 ?_
    refine go_iload_n (pc := 15) 1 1 rfl rfl eY_join_15 ?_
    refine go_iload_n (pc := 16) 2 2 rfl rfl eY_join_16 ?_
    refine go_rS (pc := 17) (d_page0 s p) okY_page lmY_34 eY_join_17 rfl rfl (Nat.le_of_ble_eq_true rfl) (Nat.le_of_ble_eq_true rfl) ?_
    refine go_istore (pc := 20) (ls' := [(5, _), (0, _), (1, _), (2, _), (3, _), (4, _)]) 5 (by decide) eY_join_20 rfl ?_
    refine go_iconst (pc := 22) (v := 0) (by decide) eY_join_22 ?_
    refine go_iload_n (pc := 23) 3 4 rfl rfl eY_join_23 ?_
    refine go_iload (pc := 24) 4 5 rfl eY_join_24 ?_
    refine go_rS (pc := 26) (d_page0 t q) okY_page lmY_34 eY_join_26 rfl rfl (Nat.le_of_ble_eq_true rfl) (Nat.le_of_ble_eq_true rfl) ?_
    refine go_istore (pc := 29) (ls' := [(6, _), (5, _), (0, _), (1, _), (2, _), (3, _), (4, _)]) 6 (by decide) eY_join_29 rfl ?_
    refine go_aload_n (pc := 31) 0 2 rfl rfl eY_join_31 ?_
    refine go_get (pc := 32) hwY 6 rfl rfl 5 (by decide) lkY_16 rfl eY_join_32 ?_
    refine go_iload (pc := 35) 6 0 rfl eY_join_35 ?_
    refine go_ialdN (pc := 37) 9 0 (8 * t + q) eY_join_37 rfl rfl (rfl) (by omega) (by omega) ?_
    refine go_istore (pc := 38) (ls' := [(7, _), (6, _), (5, _), (0, _), (1, _), (2, _), (3, _), (4, _)]) 7 (by decide) eY_join_38 rfl ?_
    refine go_aload_n (pc := 40) 0 3 rfl rfl eY_join_40 ?_
    refine go_get (pc := 41) hwY 6 rfl rfl 5 (by decide) lkY_16 rfl eY_join_41 ?_
    refine go_iload (pc := 44) 5 2 rfl eY_join_44 ?_
    refine go_ialdN (pc := 46) 9 0 (8 * s + p) eY_join_46 rfl rfl (rfl) (by omega) (by omega) ?_
    refine go_if_le (pc := 47) 71 (by decide) eY_join_47 (fun c47 => ?_) (fun c47 => ?_)
    · refine go_iconst (pc := 71) (v := 0) (by decide) eY_join_71 ?_
      refine go_istore (pc := 72) (ls' := [(8, _), (7, _), (6, _), (5, _), (0, _), (1, _), (2, _), (3, _), (4, _)]) 8 (by decide) eY_join_72 rfl ?_
      refine go_iconst (pc := 74) (v := 0) (by decide) eY_join_74 ?_
      refine go_istore (pc := 75) (ls' := [(9, _), (8, _), (7, _), (6, _), (5, _), (0, _), (1, _), (2, _), (3, _), (4, _)]) 9 (by decide) eY_join_75 rfl ?_
      refine go_ls (ls' := [(9, _), (8, _), (7, _), (6, _), (5, _), (0, _)]) [0, 1, 2, 3, 4, 5] rfl ?_
      refine k_j1 s t p q hs ht hp hq false (sm (8 * t + q)) ?_ 16 0 (by omega)
      show Go _ _ _ _ _ 131 [(8, .int 0), (7, _), (6, _), (5, _), (0, _)] [] _ _
      refine go_iconst (pc := 131) (v := 0) (by decide) eY_join_131 ?_
      refine go_istore (pc := 132) (ls' := [(9, _), (8, _), (7, _), (6, _), (5, _), (0, _)]) 9 (by decide) eY_join_132 rfl ?_
      refine go_iconst (pc := 134) (v := 0) (by decide) eY_join_134 ?_
      refine go_istore (pc := 135) (ls' := [(10, _), (9, _), (8, _), (7, _), (6, _), (5, _), (0, _)]) 10 (by decide) eY_join_135 rfl ?_
      refine go_iload (pc := 137) 10 0 rfl eY_join_137 ?_
      refine go_sipush (pc := 139) (v := 432) (by decide) eY_join_139 ?_
      refine go_icmp_ge (pc := 142) 215 (by decide) eY_join_142 (fun c142 => ?_) (fun c142 => ?_)
      · exact absurd c142 (nI_ge (a := 0) (b := 432) (by omega) (by omega))
      · refine go_iload (pc := 145) 8 2 rfl eY_join_145 ?_
        refine go_if_eq (pc := 147) 215 (by decide) eY_join_147 (fun c147 => ?_) (fun c147 => ?_)
        · refine go_iload (pc := 215) 9 1 rfl eY_join_215 ?_
          exact go_iret (pc := 217) rfl rfl eY_join_217 (hf)
        · exact absurd rfl c147
    · exact absurd ((nI_lz (by have := hsm (8 * s + p); omega)).mpr h0) c47
  · exact absurd rfl c9
set_option maxRecDepth 100000 in
set_option maxHeartbeats 1000000 in
theorem d_join0b (hsm : ∀ k, sm k < 2 ^ 30) (s : Nat) (hs : s < 6) (hth : th s = true) (t : Nat) (ht : t < 6) (htt : th t = true) (p q : Nat) (hp : p < 8) (hq : q < 8) (h1 : sm (8 * s + p) ≠ 0) (h0 : sm (8 * t + q) = 0) : Ret (gg D cI cB cL bb L xs) mY_join (n + 2) 0 0 [.ref hm, .int (nI s), .int (nI p), .int (nI t), .int (nI q)] (zW z0 z1 z2 z3 z4 z5 cI cB hm b1 b2 b3 b4 cd F sx pd th sm u rest) (some (.int (0))) (zW z0 z1 z2 z3 z4 z5 cI cB hm b1 b2 b3 b4 0 F sx pd th sm u rest) := by
  intro Psi hf
  show Go _ _ _ _ _ 0 [(0, .ref hm), (1, .int (nI s)), (2, .int (nI p)), (3, .int (nI t)), (4, .int (nI q))] [] _ Psi
  refine go_aload_n (pc := 0) 0 0 rfl rfl eY_join_0 ?_
  refine go_iload_n (pc := 1) 1 1 rfl rfl eY_join_1 ?_
  refine go_iload_n (pc := 2) 2 2 rfl rfl eY_join_2 ?_
  refine go_iload_n (pc := 3) 3 3 rfl rfl eY_join_3 ?_
  refine go_iload (pc := 4) 4 4 rfl eY_join_4 ?_
  refine go_rV (pc := 6) 6 (d_af0 s hs hth t ht htt p q hp hq) okY_areFaulty lmY_73 eY_join_6 rfl rfl rfl rfl rfl (Nat.le_of_ble_eq_true rfl) (Nat.le_of_ble_eq_true rfl) ?_
  refine go_if_eq (pc := 9) 14 (by decide) eY_join_9 (fun c9 => ?_) (fun c9 => ?_)
  · refine go_iconst (pc := 14) (v := 0) (by decide) eY_join_14 ?_
    refine go_iload_n (pc := 15) 1 1 rfl rfl eY_join_15 ?_
    refine go_iload_n (pc := 16) 2 2 rfl rfl eY_join_16 ?_
    refine go_rS (pc := 17) (d_page0 s p) okY_page lmY_34 eY_join_17 rfl rfl (Nat.le_of_ble_eq_true rfl) (Nat.le_of_ble_eq_true rfl) ?_
    refine go_istore (pc := 20) (ls' := [(5, _), (0, _), (1, _), (2, _), (3, _), (4, _)]) 5 (by decide) eY_join_20 rfl ?_
    refine go_iconst (pc := 22) (v := 0) (by decide) eY_join_22 ?_
    refine go_iload_n (pc := 23) 3 4 rfl rfl eY_join_23 ?_
    refine go_iload (pc := 24) 4 5 rfl eY_join_24 ?_
    refine go_rS (pc := 26) (d_page0 t q) okY_page lmY_34 eY_join_26 rfl rfl (Nat.le_of_ble_eq_true rfl) (Nat.le_of_ble_eq_true rfl) ?_
    refine go_istore (pc := 29) (ls' := [(6, _), (5, _), (0, _), (1, _), (2, _), (3, _), (4, _)]) 6 (by decide) eY_join_29 rfl ?_
    refine go_aload_n (pc := 31) 0 2 rfl rfl eY_join_31 ?_
    refine go_get (pc := 32) hwY 6 rfl rfl 5 (by decide) lkY_16 rfl eY_join_32 ?_
    refine go_iload (pc := 35) 6 0 rfl eY_join_35 ?_
    refine go_ialdN (pc := 37) 9 0 (8 * t + q) eY_join_37 rfl rfl (rfl) (by omega) (by omega) ?_
    refine go_istore (pc := 38) (ls' := [(7, _), (6, _), (5, _), (0, _), (1, _), (2, _), (3, _), (4, _)]) 7 (by decide) eY_join_38 rfl ?_
    refine go_aload_n (pc := 40) 0 3 rfl rfl eY_join_40 ?_
    refine go_get (pc := 41) hwY 6 rfl rfl 5 (by decide) lkY_16 rfl eY_join_41 ?_
    refine go_iload (pc := 44) 5 2 rfl eY_join_44 ?_
    refine go_ialdN (pc := 46) 9 0 (8 * s + p) eY_join_46 rfl rfl (rfl) (by omega) (by omega) ?_
    refine go_if_le (pc := 47) 71 (by decide) eY_join_47 (fun c47 => ?_) (fun c47 => ?_)
    · exact absurd ((nI_lz (by have := hsm (8 * s + p); omega)).mp c47) h1
    · refine go_iload (pc := 50) 7 0 rfl eY_join_50 ?_
      refine go_if_le (pc := 52) 71 (by decide) eY_join_52 (fun c52 => ?_) (fun c52 => ?_)
      · refine go_iconst (pc := 71) (v := 0) (by decide) eY_join_71 ?_
        refine go_istore (pc := 72) (ls' := [(8, _), (7, _), (6, _), (5, _), (0, _), (1, _), (2, _), (3, _), (4, _)]) 8 (by decide) eY_join_72 rfl ?_
        refine go_iconst (pc := 74) (v := 0) (by decide) eY_join_74 ?_
        refine go_istore (pc := 75) (ls' := [(9, _), (8, _), (7, _), (6, _), (5, _), (0, _), (1, _), (2, _), (3, _), (4, _)]) 9 (by decide) eY_join_75 rfl ?_
        refine go_ls (ls' := [(9, _), (8, _), (7, _), (6, _), (5, _), (0, _)]) [0, 1, 2, 3, 4, 5] rfl ?_
        refine k_j1 s t p q hs ht hp hq false (sm (8 * t + q)) ?_ 16 0 (by omega)
        show Go _ _ _ _ _ 131 [(8, .int 0), (7, _), (6, _), (5, _), (0, _)] [] _ _
        refine go_iconst (pc := 131) (v := 0) (by decide) eY_join_131 ?_
        refine go_istore (pc := 132) (ls' := [(9, _), (8, _), (7, _), (6, _), (5, _), (0, _)]) 9 (by decide) eY_join_132 rfl ?_
        refine go_iconst (pc := 134) (v := 0) (by decide) eY_join_134 ?_
        refine go_istore (pc := 135) (ls' := [(10, _), (9, _), (8, _), (7, _), (6, _), (5, _), (0, _)]) 10 (by decide) eY_join_135 rfl ?_
        refine go_iload (pc := 137) 10 0 rfl eY_join_137 ?_
        refine go_sipush (pc := 139) (v := 432) (by decide) eY_join_139 ?_
        refine go_icmp_ge (pc := 142) 215 (by decide) eY_join_142 (fun c142 => ?_) (fun c142 => ?_)
        · exact absurd c142 (nI_ge (a := 0) (b := 432) (by omega) (by omega))
        · refine go_iload (pc := 145) 8 2 rfl eY_join_145 ?_
          refine go_if_eq (pc := 147) 215 (by decide) eY_join_147 (fun c147 => ?_) (fun c147 => ?_)
          · refine go_iload (pc := 215) 9 1 rfl eY_join_215 ?_
            exact go_iret (pc := 217) rfl rfl eY_join_217 (hf)
          · exact absurd rfl c147
      · exact absurd ((nI_lz (by have := hsm (8 * t + q); omega)).mpr h0) c52
  · exact absurd rfl c9
set_option maxRecDepth 100000 in
set_option maxHeartbeats 1000000 in
theorem d_join0c (hsm : ∀ k, sm k < 2 ^ 30) (s : Nat) (hs : s < 6) (hth : th s = true) (t : Nat) (ht : t < 6) (htt : th t = true) (p q : Nat) (hp : p < 8) (hq : q < 8) (h1 : sm (8 * s + p) ≠ 0) (h2 : sm (8 * t + q) ≠ 0) (h0 : sm (8 * s + p) = sm (8 * t + q)) : Ret (gg D cI cB cL bb L xs) mY_join (n + 2) 0 0 [.ref hm, .int (nI s), .int (nI p), .int (nI t), .int (nI q)] (zW z0 z1 z2 z3 z4 z5 cI cB hm b1 b2 b3 b4 cd F sx pd th sm u rest) (some (.int (0))) (zW z0 z1 z2 z3 z4 z5 cI cB hm b1 b2 b3 b4 0 F sx pd th sm u rest) := by
  intro Psi hf
  show Go _ _ _ _ _ 0 [(0, .ref hm), (1, .int (nI s)), (2, .int (nI p)), (3, .int (nI t)), (4, .int (nI q))] [] _ Psi
  refine go_aload_n (pc := 0) 0 0 rfl rfl eY_join_0 ?_
  refine go_iload_n (pc := 1) 1 1 rfl rfl eY_join_1 ?_
  refine go_iload_n (pc := 2) 2 2 rfl rfl eY_join_2 ?_
  refine go_iload_n (pc := 3) 3 3 rfl rfl eY_join_3 ?_
  refine go_iload (pc := 4) 4 4 rfl eY_join_4 ?_
  refine go_rV (pc := 6) 6 (d_af0 s hs hth t ht htt p q hp hq) okY_areFaulty lmY_73 eY_join_6 rfl rfl rfl rfl rfl (Nat.le_of_ble_eq_true rfl) (Nat.le_of_ble_eq_true rfl) ?_
  refine go_if_eq (pc := 9) 14 (by decide) eY_join_9 (fun c9 => ?_) (fun c9 => ?_)
  · refine go_iconst (pc := 14) (v := 0) (by decide) eY_join_14 ?_
    refine go_iload_n (pc := 15) 1 1 rfl rfl eY_join_15 ?_
    refine go_iload_n (pc := 16) 2 2 rfl rfl eY_join_16 ?_
    refine go_rS (pc := 17) (d_page0 s p) okY_page lmY_34 eY_join_17 rfl rfl (Nat.le_of_ble_eq_true rfl) (Nat.le_of_ble_eq_true rfl) ?_
    refine go_istore (pc := 20) (ls' := [(5, _), (0, _), (1, _), (2, _), (3, _), (4, _)]) 5 (by decide) eY_join_20 rfl ?_
    refine go_iconst (pc := 22) (v := 0) (by decide) eY_join_22 ?_
    refine go_iload_n (pc := 23) 3 4 rfl rfl eY_join_23 ?_
    refine go_iload (pc := 24) 4 5 rfl eY_join_24 ?_
    refine go_rS (pc := 26) (d_page0 t q) okY_page lmY_34 eY_join_26 rfl rfl (Nat.le_of_ble_eq_true rfl) (Nat.le_of_ble_eq_true rfl) ?_
    refine go_istore (pc := 29) (ls' := [(6, _), (5, _), (0, _), (1, _), (2, _), (3, _), (4, _)]) 6 (by decide) eY_join_29 rfl ?_
    refine go_aload_n (pc := 31) 0 2 rfl rfl eY_join_31 ?_
    refine go_get (pc := 32) hwY 6 rfl rfl 5 (by decide) lkY_16 rfl eY_join_32 ?_
    refine go_iload (pc := 35) 6 0 rfl eY_join_35 ?_
    refine go_ialdN (pc := 37) 9 0 (8 * t + q) eY_join_37 rfl rfl (rfl) (by omega) (by omega) ?_
    refine go_istore (pc := 38) (ls' := [(7, _), (6, _), (5, _), (0, _), (1, _), (2, _), (3, _), (4, _)]) 7 (by decide) eY_join_38 rfl ?_
    refine go_aload_n (pc := 40) 0 3 rfl rfl eY_join_40 ?_
    refine go_get (pc := 41) hwY 6 rfl rfl 5 (by decide) lkY_16 rfl eY_join_41 ?_
    refine go_iload (pc := 44) 5 2 rfl eY_join_44 ?_
    refine go_ialdN (pc := 46) 9 0 (8 * s + p) eY_join_46 rfl rfl (rfl) (by omega) (by omega) ?_
    refine go_if_le (pc := 47) 71 (by decide) eY_join_47 (fun c47 => ?_) (fun c47 => ?_)
    · exact absurd ((nI_lz (by have := hsm (8 * s + p); omega)).mp c47) h1
    · refine go_iload (pc := 50) 7 0 rfl eY_join_50 ?_
      refine go_if_le (pc := 52) 71 (by decide) eY_join_52 (fun c52 => ?_) (fun c52 => ?_)
      · exact absurd ((nI_lz (by have := hsm (8 * t + q); omega)).mp c52) h2
      · refine go_aload_n (pc := 55) 0 3 rfl rfl eY_join_55 ?_
        refine go_get (pc := 56) hwY 6 rfl rfl 5 (by decide) lkY_16 rfl eY_join_56 ?_
        refine go_iload (pc := 59) 5 2 rfl eY_join_59 ?_
        refine go_ialdN (pc := 61) 9 0 (8 * s + p) eY_join_61 rfl rfl (rfl) (by omega) (by omega) ?_
        refine go_iload (pc := 62) 7 0 rfl eY_join_62 ?_
        refine go_icmp_eq (pc := 64) 71 (by decide) eY_join_64 (fun c64 => ?_) (fun c64 => ?_)
        · refine go_iconst (pc := 71) (v := 0) (by decide) eY_join_71 ?_
          refine go_istore (pc := 72) (ls' := [(8, _), (7, _), (6, _), (5, _), (0, _), (1, _), (2, _), (3, _), (4, _)]) 8 (by decide) eY_join_72 rfl ?_
          refine go_iconst (pc := 74) (v := 0) (by decide) eY_join_74 ?_
          refine go_istore (pc := 75) (ls' := [(9, _), (8, _), (7, _), (6, _), (5, _), (0, _), (1, _), (2, _), (3, _), (4, _)]) 9 (by decide) eY_join_75 rfl ?_
          refine go_ls (ls' := [(9, _), (8, _), (7, _), (6, _), (5, _), (0, _)]) [0, 1, 2, 3, 4, 5] rfl ?_
          refine k_j1 s t p q hs ht hp hq false (sm (8 * t + q)) ?_ 16 0 (by omega)
          show Go _ _ _ _ _ 131 [(8, .int 0), (7, _), (6, _), (5, _), (0, _)] [] _ _
          refine go_iconst (pc := 131) (v := 0) (by decide) eY_join_131 ?_
          refine go_istore (pc := 132) (ls' := [(9, _), (8, _), (7, _), (6, _), (5, _), (0, _)]) 9 (by decide) eY_join_132 rfl ?_
          refine go_iconst (pc := 134) (v := 0) (by decide) eY_join_134 ?_
          refine go_istore (pc := 135) (ls' := [(10, _), (9, _), (8, _), (7, _), (6, _), (5, _), (0, _)]) 10 (by decide) eY_join_135 rfl ?_
          refine go_iload (pc := 137) 10 0 rfl eY_join_137 ?_
          refine go_sipush (pc := 139) (v := 432) (by decide) eY_join_139 ?_
          refine go_icmp_ge (pc := 142) 215 (by decide) eY_join_142 (fun c142 => ?_) (fun c142 => ?_)
          · exact absurd c142 (nI_ge (a := 0) (b := 432) (by omega) (by omega))
          · refine go_iload (pc := 145) 8 2 rfl eY_join_145 ?_
            refine go_if_eq (pc := 147) 215 (by decide) eY_join_147 (fun c147 => ?_) (fun c147 => ?_)
            · refine go_iload (pc := 215) 9 1 rfl eY_join_215 ?_
              exact go_iret (pc := 217) rfl rfl eY_join_217 (hf)
            · exact absurd rfl c147
        · exact absurd (by rw [h0]) c64
  · exact absurd rfl c9
set_option maxRecDepth 100000 in
set_option maxHeartbeats 1000000 in
theorem d_join0d (hsm : ∀ k, sm k < 2 ^ 30) (s : Nat) (hs : s < 6) (hth : th s = true) (t : Nat) (ht : t < 6) (htt : th t = true) (p q : Nat) (hp : p < 8) (hq : q < 8) (h1 : sm (8 * s + p) ≠ 0) (h2 : sm (8 * t + q) ≠ 0) (h3 : ¬ sm (8 * s + p) = sm (8 * t + q)) (hd : gcnt (fun k => decide (¬ u (16 * (8 * s + p) + k) = u (16 * (8 * t + q) + k))) 16 ≠ 0) : Ret (gg D cI cB cL bb L xs) mY_join (n + 2) 0 0 [.ref hm, .int (nI s), .int (nI p), .int (nI t), .int (nI q)] (zW z0 z1 z2 z3 z4 z5 cI cB hm b1 b2 b3 b4 cd F sx pd th sm u rest) (some (.int (0))) (zW z0 z1 z2 z3 z4 z5 cI cB hm b1 b2 b3 b4 0 F sx pd th sm u rest) := by
  intro Psi hf
  show Go _ _ _ _ _ 0 [(0, .ref hm), (1, .int (nI s)), (2, .int (nI p)), (3, .int (nI t)), (4, .int (nI q))] [] _ Psi
  refine go_aload_n (pc := 0) 0 0 rfl rfl eY_join_0 ?_
  refine go_iload_n (pc := 1) 1 1 rfl rfl eY_join_1 ?_
  refine go_iload_n (pc := 2) 2 2 rfl rfl eY_join_2 ?_
  refine go_iload_n (pc := 3) 3 3 rfl rfl eY_join_3 ?_
  refine go_iload (pc := 4) 4 4 rfl eY_join_4 ?_
  refine go_rV (pc := 6) 6 (d_af0 s hs hth t ht htt p q hp hq) okY_areFaulty lmY_73 eY_join_6 rfl rfl rfl rfl rfl (Nat.le_of_ble_eq_true rfl) (Nat.le_of_ble_eq_true rfl) ?_
  refine go_if_eq (pc := 9) 14 (by decide) eY_join_9 (fun c9 => ?_) (fun c9 => ?_)
  · refine go_iconst (pc := 14) (v := 0) (by decide) eY_join_14 ?_
    refine go_iload_n (pc := 15) 1 1 rfl rfl eY_join_15 ?_
    refine go_iload_n (pc := 16) 2 2 rfl rfl eY_join_16 ?_
    refine go_rS (pc := 17) (d_page0 s p) okY_page lmY_34 eY_join_17 rfl rfl (Nat.le_of_ble_eq_true rfl) (Nat.le_of_ble_eq_true rfl) ?_
    refine go_istore (pc := 20) (ls' := [(5, _), (0, _), (1, _), (2, _), (3, _), (4, _)]) 5 (by decide) eY_join_20 rfl ?_
    refine go_iconst (pc := 22) (v := 0) (by decide) eY_join_22 ?_
    refine go_iload_n (pc := 23) 3 4 rfl rfl eY_join_23 ?_
    refine go_iload (pc := 24) 4 5 rfl eY_join_24 ?_
    refine go_rS (pc := 26) (d_page0 t q) okY_page lmY_34 eY_join_26 rfl rfl (Nat.le_of_ble_eq_true rfl) (Nat.le_of_ble_eq_true rfl) ?_
    refine go_istore (pc := 29) (ls' := [(6, _), (5, _), (0, _), (1, _), (2, _), (3, _), (4, _)]) 6 (by decide) eY_join_29 rfl ?_
    refine go_aload_n (pc := 31) 0 2 rfl rfl eY_join_31 ?_
    refine go_get (pc := 32) hwY 6 rfl rfl 5 (by decide) lkY_16 rfl eY_join_32 ?_
    refine go_iload (pc := 35) 6 0 rfl eY_join_35 ?_
    refine go_ialdN (pc := 37) 9 0 (8 * t + q) eY_join_37 rfl rfl (rfl) (by omega) (by omega) ?_
    refine go_istore (pc := 38) (ls' := [(7, _), (6, _), (5, _), (0, _), (1, _), (2, _), (3, _), (4, _)]) 7 (by decide) eY_join_38 rfl ?_
    refine go_aload_n (pc := 40) 0 3 rfl rfl eY_join_40 ?_
    refine go_get (pc := 41) hwY 6 rfl rfl 5 (by decide) lkY_16 rfl eY_join_41 ?_
    refine go_iload (pc := 44) 5 2 rfl eY_join_44 ?_
    refine go_ialdN (pc := 46) 9 0 (8 * s + p) eY_join_46 rfl rfl (rfl) (by omega) (by omega) ?_
    refine go_if_le (pc := 47) 71 (by decide) eY_join_47 (fun c47 => ?_) (fun c47 => ?_)
    · exact absurd ((nI_lz (by have := hsm (8 * s + p); omega)).mp c47) h1
    · refine go_iload (pc := 50) 7 0 rfl eY_join_50 ?_
      refine go_if_le (pc := 52) 71 (by decide) eY_join_52 (fun c52 => ?_) (fun c52 => ?_)
      · exact absurd ((nI_lz (by have := hsm (8 * t + q); omega)).mp c52) h2
      · refine go_aload_n (pc := 55) 0 3 rfl rfl eY_join_55 ?_
        refine go_get (pc := 56) hwY 6 rfl rfl 5 (by decide) lkY_16 rfl eY_join_56 ?_
        refine go_iload (pc := 59) 5 2 rfl eY_join_59 ?_
        refine go_ialdN (pc := 61) 9 0 (8 * s + p) eY_join_61 rfl rfl (rfl) (by omega) (by omega) ?_
        refine go_iload (pc := 62) 7 0 rfl eY_join_62 ?_
        refine go_icmp_eq (pc := 64) 71 (by decide) eY_join_64 (fun c64 => ?_) (fun c64 => ?_)
        · exact absurd ((nI_eq (by have := hsm (8 * s + p); omega) (by have := hsm (8 * t + q); omega)).mp c64) h3
        · refine go_iconst (pc := 67) (v := 1) (by decide) eY_join_67 ?_
          refine go_goto (pc := 68) 72 (by decide) eY_join_68 ?_
          refine go_istore (pc := 72) (ls' := [(8, _), (7, _), (6, _), (5, _), (0, _), (1, _), (2, _), (3, _), (4, _)]) 8 (by decide) eY_join_72 rfl ?_
          refine go_iconst (pc := 74) (v := 0) (by decide) eY_join_74 ?_
          refine go_istore (pc := 75) (ls' := [(9, _), (8, _), (7, _), (6, _), (5, _), (0, _), (1, _), (2, _), (3, _), (4, _)]) 9 (by decide) eY_join_75 rfl ?_
          refine go_ls (ls' := [(9, _), (8, _), (7, _), (6, _), (5, _), (0, _)]) [0, 1, 2, 3, 4, 5] rfl ?_
          refine k_j1 s t p q hs ht hp hq true (sm (8 * t + q)) ?_ 16 0 (by omega)
          rw [show (true && decide (gcnt (fun k => decide (¬ u (16 * (8 * s + p) + k) = u (16 * (8 * t + q) + k))) 16 = 0)) = false from by rw [decide_eq_false hd]; rfl]
          show Go _ _ _ _ _ 131 [(8, .int 0), (7, _), (6, _), (5, _), (0, _)] [] _ _
          refine go_iconst (pc := 131) (v := 0) (by decide) eY_join_131 ?_
          refine go_istore (pc := 132) (ls' := [(9, _), (8, _), (7, _), (6, _), (5, _), (0, _)]) 9 (by decide) eY_join_132 rfl ?_
          refine go_iconst (pc := 134) (v := 0) (by decide) eY_join_134 ?_
          refine go_istore (pc := 135) (ls' := [(10, _), (9, _), (8, _), (7, _), (6, _), (5, _), (0, _)]) 10 (by decide) eY_join_135 rfl ?_
          refine go_iload (pc := 137) 10 0 rfl eY_join_137 ?_
          refine go_sipush (pc := 139) (v := 432) (by decide) eY_join_139 ?_
          refine go_icmp_ge (pc := 142) 215 (by decide) eY_join_142 (fun c142 => ?_) (fun c142 => ?_)
          · exact absurd c142 (nI_ge (a := 0) (b := 432) (by omega) (by omega))
          · refine go_iload (pc := 145) 8 2 rfl eY_join_145 ?_
            refine go_if_eq (pc := 147) 215 (by decide) eY_join_147 (fun c147 => ?_) (fun c147 => ?_)
            · refine go_iload (pc := 215) 9 1 rfl eY_join_215 ?_
              exact go_iret (pc := 217) rfl rfl eY_join_217 (hf)
            · exact absurd rfl c147
  · exact absurd rfl c9
set_option maxRecDepth 100000 in
set_option maxHeartbeats 1000000 in
theorem d_join1 (hsm : ∀ k, sm k < 2 ^ 30) (s : Nat) (hs : s < 6) (hth : th s = true) (t : Nat) (ht : t < 6) (htt : th t = true) (p q : Nat) (hp : p < 8) (hq : q < 8) (h1 : sm (8 * s + p) ≠ 0) (h2 : sm (8 * t + q) ≠ 0) (h3 : ¬ sm (8 * s + p) = sm (8 * t + q)) (hd : gcnt (fun k => decide (¬ u (16 * (8 * s + p) + k) = u (16 * (8 * t + q) + k))) 16 = 0) : Ret (gg D cI cB cL bb L xs) mY_join (n + 2) 0 0 [.ref hm, .int (nI s), .int (nI p), .int (nI t), .int (nI q)] (zW z0 z1 z2 z3 z4 z5 cI cB hm b1 b2 b3 b4 cd F sx pd th sm u rest) (some (.int (nI (gcnt (fun k => decide (sm k = sm (8 * t + q))) 432)))) (zW z0 z1 z2 z3 z4 z5 cI cB hm b1 b2 b3 b4 0 F sx pd th (mvs sm (sm (8 * t + q)) (sm (8 * s + p)) 432) u rest) := by
  intro Psi hf
  show Go _ _ _ _ _ 0 [(0, .ref hm), (1, .int (nI s)), (2, .int (nI p)), (3, .int (nI t)), (4, .int (nI q))] [] _ Psi
  refine go_aload_n (pc := 0) 0 0 rfl rfl eY_join_0 ?_
  refine go_iload_n (pc := 1) 1 1 rfl rfl eY_join_1 ?_
  refine go_iload_n (pc := 2) 2 2 rfl rfl eY_join_2 ?_
  refine go_iload_n (pc := 3) 3 3 rfl rfl eY_join_3 ?_
  refine go_iload (pc := 4) 4 4 rfl eY_join_4 ?_
  refine go_rV (pc := 6) 6 (d_af0 s hs hth t ht htt p q hp hq) okY_areFaulty lmY_73 eY_join_6 rfl rfl rfl rfl rfl (Nat.le_of_ble_eq_true rfl) (Nat.le_of_ble_eq_true rfl) ?_
  refine go_if_eq (pc := 9) 14 (by decide) eY_join_9 (fun c9 => ?_) (fun c9 => ?_)
  · refine go_iconst (pc := 14) (v := 0) (by decide) eY_join_14 ?_
    refine go_iload_n (pc := 15) 1 1 rfl rfl eY_join_15 ?_
    refine go_iload_n (pc := 16) 2 2 rfl rfl eY_join_16 ?_
    refine go_rS (pc := 17) (d_page0 s p) okY_page lmY_34 eY_join_17 rfl rfl (Nat.le_of_ble_eq_true rfl) (Nat.le_of_ble_eq_true rfl) ?_
    refine go_istore (pc := 20) (ls' := [(5, _), (0, _), (1, _), (2, _), (3, _), (4, _)]) 5 (by decide) eY_join_20 rfl ?_
    refine go_iconst (pc := 22) (v := 0) (by decide) eY_join_22 ?_
    refine go_iload_n (pc := 23) 3 4 rfl rfl eY_join_23 ?_
    refine go_iload (pc := 24) 4 5 rfl eY_join_24 ?_
    refine go_rS (pc := 26) (d_page0 t q) okY_page lmY_34 eY_join_26 rfl rfl (Nat.le_of_ble_eq_true rfl) (Nat.le_of_ble_eq_true rfl) ?_
    refine go_istore (pc := 29) (ls' := [(6, _), (5, _), (0, _), (1, _), (2, _), (3, _), (4, _)]) 6 (by decide) eY_join_29 rfl ?_
    refine go_aload_n (pc := 31) 0 2 rfl rfl eY_join_31 ?_
    refine go_get (pc := 32) hwY 6 rfl rfl 5 (by decide) lkY_16 rfl eY_join_32 ?_
    refine go_iload (pc := 35) 6 0 rfl eY_join_35 ?_
    refine go_ialdN (pc := 37) 9 0 (8 * t + q) eY_join_37 rfl rfl (rfl) (by omega) (by omega) ?_
    refine go_istore (pc := 38) (ls' := [(7, _), (6, _), (5, _), (0, _), (1, _), (2, _), (3, _), (4, _)]) 7 (by decide) eY_join_38 rfl ?_
    refine go_aload_n (pc := 40) 0 3 rfl rfl eY_join_40 ?_
    refine go_get (pc := 41) hwY 6 rfl rfl 5 (by decide) lkY_16 rfl eY_join_41 ?_
    refine go_iload (pc := 44) 5 2 rfl eY_join_44 ?_
    refine go_ialdN (pc := 46) 9 0 (8 * s + p) eY_join_46 rfl rfl (rfl) (by omega) (by omega) ?_
    refine go_if_le (pc := 47) 71 (by decide) eY_join_47 (fun c47 => ?_) (fun c47 => ?_)
    · exact absurd ((nI_lz (by have := hsm (8 * s + p); omega)).mp c47) h1
    · refine go_iload (pc := 50) 7 0 rfl eY_join_50 ?_
      refine go_if_le (pc := 52) 71 (by decide) eY_join_52 (fun c52 => ?_) (fun c52 => ?_)
      · exact absurd ((nI_lz (by have := hsm (8 * t + q); omega)).mp c52) h2
      · refine go_aload_n (pc := 55) 0 3 rfl rfl eY_join_55 ?_
        refine go_get (pc := 56) hwY 6 rfl rfl 5 (by decide) lkY_16 rfl eY_join_56 ?_
        refine go_iload (pc := 59) 5 2 rfl eY_join_59 ?_
        refine go_ialdN (pc := 61) 9 0 (8 * s + p) eY_join_61 rfl rfl (rfl) (by omega) (by omega) ?_
        refine go_iload (pc := 62) 7 0 rfl eY_join_62 ?_
        refine go_icmp_eq (pc := 64) 71 (by decide) eY_join_64 (fun c64 => ?_) (fun c64 => ?_)
        · exact absurd ((nI_eq (by have := hsm (8 * s + p); omega) (by have := hsm (8 * t + q); omega)).mp c64) h3
        · refine go_iconst (pc := 67) (v := 1) (by decide) eY_join_67 ?_
          refine go_goto (pc := 68) 72 (by decide) eY_join_68 ?_
          refine go_istore (pc := 72) (ls' := [(8, _), (7, _), (6, _), (5, _), (0, _), (1, _), (2, _), (3, _), (4, _)]) 8 (by decide) eY_join_72 rfl ?_
          refine go_iconst (pc := 74) (v := 0) (by decide) eY_join_74 ?_
          refine go_istore (pc := 75) (ls' := [(9, _), (8, _), (7, _), (6, _), (5, _), (0, _), (1, _), (2, _), (3, _), (4, _)]) 9 (by decide) eY_join_75 rfl ?_
          refine go_ls (ls' := [(9, _), (8, _), (7, _), (6, _), (5, _), (0, _)]) [0, 1, 2, 3, 4, 5] rfl ?_
          refine k_j1 s t p q hs ht hp hq true (sm (8 * t + q)) ?_ 16 0 (by omega)
          rw [show (true && decide (gcnt (fun k => decide (¬ u (16 * (8 * s + p) + k) = u (16 * (8 * t + q) + k))) 16 = 0)) = true from by rw [decide_eq_true hd]; rfl]
          show Go _ _ _ _ _ 131 [(8, .int 1), (7, _), (6, _), (5, _), (0, _)] [] _ _
          refine go_iconst (pc := 131) (v := 0) (by decide) eY_join_131 ?_
          refine go_istore (pc := 132) (ls' := [(9, _), (8, _), (7, _), (6, _), (5, _), (0, _)]) 9 (by decide) eY_join_132 rfl ?_
          refine go_iconst (pc := 134) (v := 0) (by decide) eY_join_134 ?_
          refine go_istore (pc := 135) (ls' := [(10, _), (9, _), (8, _), (7, _), (6, _), (5, _), (0, _)]) 10 (by decide) eY_join_135 rfl ?_
          refine go_ls (ls' := [(10, _), (9, _), (8, _), (7, _), (6, _), (5, _), (0, _)]) [0, 1, 2, 3, 4, 5, 6] rfl ?_
          refine go_es (es' := (zW z0 z1 z2 z3 z4 z5 cI cB hm b1 b2 b3 b4 0 F sx pd th (mvs sm (sm (8 * t + q)) (sm (8 * s + p)) 0) u rest)) (by rw [mvs_0]) ?_
          exact k_j2 hsm s t p q hs ht hp hq (sm (8 * t + q)) (hsm _) h3 hf 432 0 (by omega)
  · exact absurd rfl c9
set_option maxRecDepth 100000 in
set_option maxHeartbeats 1000000 in
theorem k_takeA (j : Nat) (hj : j < 8) (hj0 : pd (1 + j) = false) (hlt : ∀ q, q < j → pd (1 + q) = true) {Psi : gR → va_W → Prop} (hf : Psi (.inl (some (.int (nI j)))) (zW z0 z1 z2 z3 z4 z5 cI cB hm b1 b2 b3 b4 cd F sx (va_up pd (1 + j) true) (va_cpy th th (6 * 0) (6 * (1 + j)) 6) (va_cpy sm sm (48 * 0) (48 * (1 + j)) 48) (va_cpy u u (768 * 0) (768 * (1 + j)) (16 * 48)) rest)) : ∀ (m i : Nat), i + m = j → Go (gg D cI cB cL bb L xs) mY_take (n + 2) 0 0 7 [(1, .int (nI i)), (0, .ref hm)] [] (zW z0 z1 z2 z3 z4 z5 cI cB hm b1 b2 b3 b4 cd F sx pd th sm u rest) Psi := by
  intro m
  induction m with
  | zero =>
    intro i hi
    obtain rfl : i = j := by omega
    refine go_iload_n (pc := 7) 1 0 rfl rfl eY_take_7 ?_
    refine go_bipush (pc := 8) (v := 8) (by decide) eY_take_8 ?_
    refine go_icmp_ge (pc := 10) 30 (by decide) eY_take_10 (fun c10 => ?_) (fun c10 => ?_)
    · exact absurd c10 (nI_ge (b := 8) (by omega) (by omega))
    · refine go_aload_n (pc := 13) 0 1 rfl rfl eY_take_13 ?_
      refine go_get (pc := 14) hwY 6 rfl rfl 3 (by decide) lkY_7 rfl eY_take_14 ?_
      refine go_iconst (pc := 17) (v := 1) (by decide) eY_take_17 ?_
      refine go_iload_n (pc := 18) 1 0 rfl rfl eY_take_18 ?_
      refine go_iadd (pc := 19) eY_take_19 ?_
      refine go_zaldN (pc := 20) 7 1 (1 + i) eY_take_20 rfl rfl (nI_add 1 i) (by omega) (by omega) ?_
      refine go_if_eq (pc := 21) 30 (by decide) eY_take_21 (fun c21 => ?_) (fun c21 => ?_)
      · refine go_iload_n (pc := 30) 1 0 rfl rfl eY_take_30 ?_
        refine go_bipush (pc := 31) (v := 8) (by decide) eY_take_31 ?_
        refine go_icmp_ne (pc := 33) 38 (by decide) eY_take_33 (fun c33 => ?_) (fun c33 => ?_)
        · refine go_aload_n (pc := 38) 0 1 rfl rfl eY_take_38 ?_
          refine go_get (pc := 39) hwY 6 rfl rfl 3 (by decide) lkY_7 rfl eY_take_39 ?_
          refine go_iconst (pc := 42) (v := 1) (by decide) eY_take_42 ?_
          refine go_iload_n (pc := 43) 1 0 rfl rfl eY_take_43 ?_
          refine go_iadd (pc := 44) eY_take_44 ?_
          refine go_iconst (pc := 45) (v := 1) (by decide) eY_take_45 ?_
          refine go_zastN (pc := 46) (es' := (zW z0 z1 z2 z3 z4 z5 cI cB hm b1 b2 b3 b4 cd F sx (va_up pd (1 + i) true) th sm u rest)) 7 1 (1 + i) eY_take_46 rfl rfl (nI_add 1 i) (by omega) (by omega) (ys7 (upd_b (b := true) rfl)) ?_
          refine go_aload_n (pc := 47) 0 1 rfl rfl eY_take_47 ?_
          refine go_iconst (pc := 48) (v := 0) (by decide) eY_take_48 ?_
          refine go_iconst (pc := 49) (v := 1) (by decide) eY_take_49 ?_
          refine go_iload_n (pc := 50) 1 0 rfl rfl eY_take_50 ?_
          refine go_iadd (pc := 51) eY_take_51 ?_
          rw [show (1 : Int32) + nI i = nI (1 + i) from nI_add 1 i]
          refine go_rV0 (pc := 52) 6 (d_cr 0 (1 + i) (by omega) (by omega) (by omega)) okY_copyRow lmY_77 eY_take_52 rfl rfl rfl rfl rfl (Nat.le_of_ble_eq_true rfl) (Nat.le_of_ble_eq_true rfl) ?_
          refine go_iload_n (pc := 55) 1 0 rfl rfl eY_take_55 ?_
          exact go_iret (pc := 56) rfl rfl eY_take_56 (hf)
        · exact absurd ((nI_eq (b := 8) (by omega) (by omega)).mp c33) (by omega)
      · exact absurd (bI0.mpr hj0) c21
  | succ m ih =>
    intro i hi
    refine go_iload_n (pc := 7) 1 0 rfl rfl eY_take_7 ?_
    refine go_bipush (pc := 8) (v := 8) (by decide) eY_take_8 ?_
    refine go_icmp_ge (pc := 10) 30 (by decide) eY_take_10 (fun c10 => ?_) (fun c10 => ?_)
    · exact absurd c10 (nI_ge (b := 8) (by omega) (by omega))
    · refine go_aload_n (pc := 13) 0 1 rfl rfl eY_take_13 ?_
      refine go_get (pc := 14) hwY 6 rfl rfl 3 (by decide) lkY_7 rfl eY_take_14 ?_
      refine go_iconst (pc := 17) (v := 1) (by decide) eY_take_17 ?_
      refine go_iload_n (pc := 18) 1 0 rfl rfl eY_take_18 ?_
      refine go_iadd (pc := 19) eY_take_19 ?_
      refine go_zaldN (pc := 20) 7 1 (1 + i) eY_take_20 rfl rfl (nI_add 1 i) (by omega) (by omega) ?_
      refine go_if_eq (pc := 21) 30 (by decide) eY_take_21 (fun c21 => ?_) (fun c21 => ?_)
      · exact absurd (bI0.mp c21) (by rw [hlt i (by omega)]; decide)
      · refine go_iinc (pc := 24) (z := 1) (v := nI (i + 1)) (ls' := [(1, _), (0, _)]) 1 0 rfl (nI_1 i) (by decide) eY_take_24 rfl ?_
        refine go_goto (pc := 27) 7 (by decide) eY_take_27 ?_
        exact ih (i + 1) (by omega)
set_option maxRecDepth 100000 in
set_option maxHeartbeats 1000000 in
theorem d_take1 (j : Nat) (hj : j < 8) (hj0 : pd (1 + j) = false) (hlt : ∀ q, q < j → pd (1 + q) = true) : Ret (gg D cI cB cL bb L xs) mY_take (n + 2) 0 0 [.ref hm] (zW z0 z1 z2 z3 z4 z5 cI cB hm b1 b2 b3 b4 cd F sx pd th sm u rest) (some (.int (nI j))) (zW z0 z1 z2 z3 z4 z5 cI cB hm b1 b2 b3 b4 0 F sx (va_up pd (1 + j) true) (va_cpy th th (6 * 0) (6 * (1 + j)) 6) (va_cpy sm sm (48 * 0) (48 * (1 + j)) 48) (va_cpy u u (768 * 0) (768 * (1 + j)) (16 * 48)) rest) := by
  intro Psi hf
  show Go _ _ _ _ _ 0 [(0, .ref hm)] [] _ Psi
  refine go_aload_n (pc := 0) 0 0 rfl rfl eY_take_0 ?_
  refine go_iconst (pc := 1) (v := 0) (by decide) eY_take_1 ?_
  refine go_put (pc := 2) (ty := .int) (es' := (zW z0 z1 z2 z3 z4 z5 cI cB hm b1 b2 b3 b4 0 F sx pd th sm u rest)) hwY tyY tyY_ok nmY 6 rfl rfl 0 (by decide) lkY_27 rfl (by decide +kernel) rfl rfl (Nat.le_of_ble_eq_true rfl) eY_take_2 rfl ?_
  refine go_iconst (pc := 5) (v := 0) (by decide) eY_take_5 ?_
  refine go_istore_n (pc := 6) (ls' := [(1, _), (0, _)]) 1 rfl (by decide) eY_take_6 rfl ?_
  exact k_takeA j hj hj0 hlt hf j 0 (by omega)
set_option maxRecDepth 100000 in
set_option maxHeartbeats 1000000 in
theorem k_takeB (hlt : ∀ q, q < 8 → pd (1 + q) = true) {Psi : gR → va_W → Prop} (hf : Psi (.inl (some (.int (-1)))) (zW z0 z1 z2 z3 z4 z5 cI cB hm b1 b2 b3 b4 cd F sx pd th sm u rest)) : ∀ (m i : Nat), i + m = 8 → Go (gg D cI cB cL bb L xs) mY_take (n + 2) 0 0 7 [(1, .int (nI i)), (0, .ref hm)] [] (zW z0 z1 z2 z3 z4 z5 cI cB hm b1 b2 b3 b4 cd F sx pd th sm u rest) Psi := by
  intro m
  induction m with
  | zero =>
    intro i hi
    obtain rfl : i = 8 := by omega
    refine go_iload_n (pc := 7) 1 0 rfl rfl eY_take_7 ?_
    refine go_bipush (pc := 8) (v := 8) (by decide) eY_take_8 ?_
    refine go_icmp_ge (pc := 10) 30 (by decide) eY_take_10 (fun c10 => ?_) (fun c10 => ?_)
    · refine go_iload_n (pc := 30) 1 0 rfl rfl eY_take_30 ?_
      refine go_bipush (pc := 31) (v := 8) (by decide) eY_take_31 ?_
      refine go_icmp_ne (pc := 33) 38 (by decide) eY_take_33 (fun c33 => ?_) (fun c33 => ?_)
      · exact absurd rfl c33
      · refine go_iconst (pc := 36) (v := (-1)) (by decide) eY_take_36 ?_
        exact go_iret (pc := 37) rfl rfl eY_take_37 (hf)
    · exact absurd (show (8 : Int32) ≤ nI 8 by decide) c10
  | succ m ih =>
    intro i hi
    refine go_iload_n (pc := 7) 1 0 rfl rfl eY_take_7 ?_
    refine go_bipush (pc := 8) (v := 8) (by decide) eY_take_8 ?_
    refine go_icmp_ge (pc := 10) 30 (by decide) eY_take_10 (fun c10 => ?_) (fun c10 => ?_)
    · exact absurd c10 (nI_ge (b := 8) (by omega) (by omega))
    · refine go_aload_n (pc := 13) 0 1 rfl rfl eY_take_13 ?_
      refine go_get (pc := 14) hwY 6 rfl rfl 3 (by decide) lkY_7 rfl eY_take_14 ?_
      refine go_iconst (pc := 17) (v := 1) (by decide) eY_take_17 ?_
      refine go_iload_n (pc := 18) 1 0 rfl rfl eY_take_18 ?_
      refine go_iadd (pc := 19) eY_take_19 ?_
      refine go_zaldN (pc := 20) 7 1 (1 + i) eY_take_20 rfl rfl (nI_add 1 i) (by omega) (by omega) ?_
      refine go_if_eq (pc := 21) 30 (by decide) eY_take_21 (fun c21 => ?_) (fun c21 => ?_)
      · exact absurd (bI0.mp c21) (by rw [hlt i (by omega)]; decide)
      · refine go_iinc (pc := 24) (z := 1) (v := nI (i + 1)) (ls' := [(1, _), (0, _)]) 1 0 rfl (nI_1 i) (by decide) eY_take_24 rfl ?_
        refine go_goto (pc := 27) 7 (by decide) eY_take_27 ?_
        exact ih (i + 1) (by omega)
set_option maxRecDepth 100000 in
set_option maxHeartbeats 1000000 in
theorem d_take0 (hlt : ∀ q, q < 8 → pd (1 + q) = true) : Ret (gg D cI cB cL bb L xs) mY_take (n + 2) 0 0 [.ref hm] (zW z0 z1 z2 z3 z4 z5 cI cB hm b1 b2 b3 b4 cd F sx pd th sm u rest) (some (.int (-1))) (zW z0 z1 z2 z3 z4 z5 cI cB hm b1 b2 b3 b4 0 F sx pd th sm u rest) := by
  intro Psi hf
  show Go _ _ _ _ _ 0 [(0, .ref hm)] [] _ Psi
  refine go_aload_n (pc := 0) 0 0 rfl rfl eY_take_0 ?_
  refine go_iconst (pc := 1) (v := 0) (by decide) eY_take_1 ?_
  refine go_put (pc := 2) (ty := .int) (es' := (zW z0 z1 z2 z3 z4 z5 cI cB hm b1 b2 b3 b4 0 F sx pd th sm u rest)) hwY tyY tyY_ok nmY 6 rfl rfl 0 (by decide) lkY_27 rfl (by decide +kernel) rfl rfl (Nat.le_of_ble_eq_true rfl) eY_take_2 rfl ?_
  refine go_iconst (pc := 5) (v := 0) (by decide) eY_take_5 ?_
  refine go_istore_n (pc := 6) (ls' := [(1, _), (0, _)]) 1 rfl (by decide) eY_take_6 rfl ?_
  exact k_takeB hlt hf 8 0 (by omega)
set_option maxRecDepth 100000 in
set_option maxHeartbeats 1000000 in
theorem d_isPicT (p : Nat) (hp : p < 8) (hpd : pd (1 + p) = true) : Ret (gg D cI cB cL bb L xs) mY_isPicture n 0 0 [.ref hm, .int (nI p)] (zW z0 z1 z2 z3 z4 z5 cI cB hm b1 b2 b3 b4 cd F sx pd th sm u rest) (some (.int (1))) (zW z0 z1 z2 z3 z4 z5 cI cB hm b1 b2 b3 b4 cd F sx pd th sm u rest) := by
  intro Psi hf
  show Go _ _ _ _ _ 0 [(0, .ref hm), (1, .int (nI p))] [] _ Psi
  refine go_iload_n (pc := 0) 1 1 rfl rfl eY_isPicture_0 ?_
  refine go_if_lt (pc := 1) 25 (by decide) eY_isPicture_1 (fun c1 => ?_) (fun c1 => ?_)
  · exact absurd c1 (nI_pos (by omega))
  · refine go_iload_n (pc := 4) 1 1 rfl rfl eY_isPicture_4 ?_
    refine go_bipush (pc := 5) (v := 8) (by decide) eY_isPicture_5 ?_
    refine go_icmp_ge (pc := 7) 25 (by decide) eY_isPicture_7 (fun c7 => ?_) (fun c7 => ?_)
    · exact absurd c7 (nI_ge (b := 8) (by omega) (by omega))
    · refine go_aload_n (pc := 10) 0 0 rfl rfl eY_isPicture_10 ?_
      refine go_get (pc := 11) hwY 6 rfl rfl 3 (by decide) lkY_7 rfl eY_isPicture_11 ?_
      refine go_iconst (pc := 14) (v := 1) (by decide) eY_isPicture_14 ?_
      refine go_iload_n (pc := 15) 1 1 rfl rfl eY_isPicture_15 ?_
      refine go_iadd (pc := 16) eY_isPicture_16 ?_
      refine go_zaldN (pc := 17) 7 1 (1 + p) eY_isPicture_17 rfl rfl (nI_add 1 p) (by omega) (by omega) ?_
      refine go_if_eq (pc := 18) 25 (by decide) eY_isPicture_18 (fun c18 => ?_) (fun c18 => ?_)
      · exact absurd (bI0.mp c18) (by rw [hpd]; decide)
      · refine go_iconst (pc := 21) (v := 1) (by decide) eY_isPicture_21 ?_
        refine go_goto (pc := 22) 26 (by decide) eY_isPicture_22 ?_
        exact go_iret (pc := 26) rfl rfl eY_isPicture_26 (hf)
set_option maxRecDepth 100000 in
set_option maxHeartbeats 1000000 in
theorem d_isPicF (x : Int32) (hx : ∀ j, j < 8 → x = nI j → pd (1 + j) = false) : Ret (gg D cI cB cL bb L xs) mY_isPicture n 0 0 [.ref hm, .int (x)] (zW z0 z1 z2 z3 z4 z5 cI cB hm b1 b2 b3 b4 cd F sx pd th sm u rest) (some (.int (0))) (zW z0 z1 z2 z3 z4 z5 cI cB hm b1 b2 b3 b4 cd F sx pd th sm u rest) := by
  intro Psi hf
  show Go _ _ _ _ _ 0 [(0, .ref hm), (1, .int (x))] [] _ Psi
  refine go_iload_n (pc := 0) 1 1 rfl rfl eY_isPicture_0 ?_
  refine go_if_lt (pc := 1) 25 (by decide) eY_isPicture_1 (fun c1 => ?_) (fun c1 => ?_)
  · refine go_iconst (pc := 25) (v := 0) (by decide) eY_isPicture_25 ?_
    exact go_iret (pc := 26) rfl rfl eY_isPicture_26 (hf)
  · refine go_iload_n (pc := 4) 1 1 rfl rfl eY_isPicture_4 ?_
    refine go_bipush (pc := 5) (v := 8) (by decide) eY_isPicture_5 ?_
    refine go_icmp_ge (pc := 7) 25 (by decide) eY_isPicture_7 (fun c7 => ?_) (fun c7 => ?_)
    · refine go_iconst (pc := 25) (v := 0) (by decide) eY_isPicture_25 ?_
      exact go_iret (pc := 26) rfl rfl eY_isPicture_26 (hf)
    · obtain ⟨j, hj, rfl⟩ : ∃ j, j < 8 ∧ x = nI j := by
        rcases pk_ix x (n := 8) (by omega) with q | q | q
        · exact absurd q c1
        · exact absurd q c7
        · exact q
      refine go_aload_n (pc := 10) 0 0 rfl rfl eY_isPicture_10 ?_
      refine go_get (pc := 11) hwY 6 rfl rfl 3 (by decide) lkY_7 rfl eY_isPicture_11 ?_
      refine go_iconst (pc := 14) (v := 1) (by decide) eY_isPicture_14 ?_
      refine go_iload_n (pc := 15) 1 1 rfl rfl eY_isPicture_15 ?_
      refine go_iadd (pc := 16) eY_isPicture_16 ?_
      refine go_zaldN (pc := 17) 7 1 (1 + j) eY_isPicture_17 rfl rfl (nI_add 1 j) (by omega) (by omega) ?_
      refine go_if_eq (pc := 18) 25 (by decide) eY_isPicture_18 (fun c18 => ?_) (fun c18 => ?_)
      · refine go_iconst (pc := 25) (v := 0) (by decide) eY_isPicture_25 ?_
        exact go_iret (pc := 26) rfl rfl eY_isPicture_26 (hf)
      · exact absurd (bI0.mpr (hx j hj rfl)) c18
set_option maxRecDepth 100000 in
set_option maxHeartbeats 1000000 in
theorem d_back (p : Nat) (hp : p < 8) (hpd : pd (1 + p) = true) : Ret (gg D cI cB cL bb L xs) mY_back (n + 2) 0 0 [.ref hm, .int (nI p)] (zW z0 z1 z2 z3 z4 z5 cI cB hm b1 b2 b3 b4 cd F sx pd th sm u rest) (some (.int (nI (gcnt (va_cpy th th (6 * (1 + p)) (6 * 0) 6) 6)))) (zW z0 z1 z2 z3 z4 z5 cI cB hm b1 b2 b3 b4 0 F sx pd (va_cpy th th (6 * (1 + p)) (6 * 0) 6) (va_cpy sm sm (48 * (1 + p)) (48 * 0) 48) (va_cpy u u (768 * (1 + p)) (768 * 0) (16 * 48)) rest) := by
  intro Psi hf
  show Go _ _ _ _ _ 0 [(0, .ref hm), (1, .int (nI p))] [] _ Psi
  refine go_aload_n (pc := 0) 0 0 rfl rfl eY_back_0 ?_
  refine go_aload_n (pc := 1) 0 0 rfl rfl eY_back_1 ?_
  refine go_iload_n (pc := 2) 1 1 rfl rfl eY_back_2 ?_
  refine go_rV (pc := 3) 6 (d_isPicT p hp hpd) okY_isPicture lmY_80 eY_back_3 rfl rfl rfl rfl rfl (Nat.le_of_ble_eq_true rfl) (Nat.le_of_ble_eq_true rfl) ?_
  refine go_if_ne (pc := 6) 13 (by decide) eY_back_6 (fun c6 => ?_) (fun c6 => ?_)
  · refine go_iconst (pc := 13) (v := 0) (by decide) eY_back_13 ?_
    refine go_iconst (pc := 14) (v := 0) (by decide) eY_back_14 ?_
    refine go_iconst (pc := 15) (v := 0) (by decide) eY_back_15 ?_
    refine go_rV (pc := 16) 6 (d_fails0) okY_fails lmY_46 eY_back_16 rfl rfl rfl rfl rfl (Nat.le_of_ble_eq_true rfl) (Nat.le_of_ble_eq_true rfl) ?_
    refine go_if_eq (pc := 19) 24 (by decide) eY_back_19 (fun c19 => ?_) (fun c19 => ?_)
    · refine go_aload_n (pc := 24) 0 0 rfl rfl eY_back_24 ?_
      refine go_iconst (pc := 25) (v := 1) (by decide) eY_back_25 ?_
      refine go_iload_n (pc := 26) 1 1 rfl rfl eY_back_26 ?_
      refine go_iadd (pc := 27) eY_back_27 ?_
      rw [show (1 : Int32) + nI p = nI (1 + p) from nI_add 1 p]
      refine go_iconst (pc := 28) (v := 0) (by decide) eY_back_28 ?_
      refine go_rV0 (pc := 29) 6 (d_cr (1 + p) 0 (by omega) (by omega) (by omega)) okY_copyRow lmY_77 eY_back_29 rfl rfl rfl rfl rfl (Nat.le_of_ble_eq_true rfl) (Nat.le_of_ble_eq_true rfl) ?_
      refine go_aload_n (pc := 32) 0 0 rfl rfl eY_back_32 ?_
      refine go_rV (pc := 33) 6 (d_spaces) okY_spaces lmY_83 eY_back_33 rfl rfl rfl rfl rfl (Nat.le_of_ble_eq_true rfl) (Nat.le_of_ble_eq_true rfl) ?_
      exact go_iret (pc := 36) rfl rfl eY_back_36 (hf)
    · exact absurd c19 (by decide)
  · exact absurd c6 (by decide)
set_option maxRecDepth 100000 in
set_option maxHeartbeats 1000000 in
theorem e_back (x : Int32) (hx : ∀ j, j < 8 → x = nI j → pd (1 + j) = false) : Ret (gg D cI cB cL bb L xs) mY_back (n + 2) 0 0 [.ref hm, .int (x)] (zW z0 z1 z2 z3 z4 z5 cI cB hm b1 b2 b3 b4 cd F sx pd th sm u rest) (some (.int (0))) (zW z0 z1 z2 z3 z4 z5 cI cB hm b1 b2 b3 b4 1 F sx pd th sm u rest) := by
  intro Psi hf
  show Go _ _ _ _ _ 0 [(0, .ref hm), (1, .int (x))] [] _ Psi
  refine go_aload_n (pc := 0) 0 0 rfl rfl eY_back_0 ?_
  refine go_aload_n (pc := 1) 0 0 rfl rfl eY_back_1 ?_
  refine go_iload_n (pc := 2) 1 1 rfl rfl eY_back_2 ?_
  refine go_rV (pc := 3) 6 (d_isPicF x hx) okY_isPicture lmY_80 eY_back_3 rfl rfl rfl rfl rfl (Nat.le_of_ble_eq_true rfl) (Nat.le_of_ble_eq_true rfl) ?_
  refine go_if_ne (pc := 6) 13 (by decide) eY_back_6 (fun c6 => ?_) (fun c6 => ?_)
  · exact absurd rfl c6
  · refine go_iconst (pc := 9) (v := 1) (by decide) eY_back_9 ?_
    refine go_goto (pc := 10) 14 (by decide) eY_back_10 ?_
    refine go_iconst (pc := 14) (v := 0) (by decide) eY_back_14 ?_
    refine go_iconst (pc := 15) (v := 0) (by decide) eY_back_15 ?_
    refine go_rV (pc := 16) 6 (d_fails1 0 0) okY_fails lmY_46 eY_back_16 rfl rfl rfl rfl rfl (Nat.le_of_ble_eq_true rfl) (Nat.le_of_ble_eq_true rfl) ?_
    refine go_if_eq (pc := 19) 24 (by decide) eY_back_19 (fun c19 => ?_) (fun c19 => ?_)
    · exact absurd c19 (by decide)
    · refine go_iconst (pc := 22) (v := 0) (by decide) eY_back_22 ?_
      exact go_iret (pc := 23) rfl rfl eY_back_23 (hf)
/-- the spaces of row r that have been emptied, i of them -/
def emt (th : Nat → Bool) (r : Nat) : Nat → Nat → Bool
  | 0 => th
  | i + 1 => va_up (emt th r i) (6 * r + i) false
def ems (sm : Nat → Nat) (r : Nat) : Nat → Nat → Nat
  | 0 => sm
  | i + 1 => va_cpy (fun _ => 0) (ems sm r i) 0 (8 * (6 * r + i)) 8
theorem ems_lt {sm : Nat → Nat} {r : Nat} (hsm : ∀ k, sm k < 2 ^ 30) : ∀ i k, ems sm r i k < 2 ^ 30 := by
  intro i
  induction i with
  | zero => exact hsm
  | succ i ih =>
    intro k
    show va_cpy (fun _ => 0) (ems sm r i) 0 (8 * (6 * r + i)) 8 k < 2 ^ 30
    simp only [va_cpy]
    split
    · decide
    · exact ih k
set_option maxRecDepth 100000 in
set_option maxHeartbeats 1000000 in
theorem k_drop (hsm : ∀ k, sm k < 2 ^ 30) (p w : Nat) (hp : p < 8) {Psi : gR → va_W → Prop} (hf : Psi (.inl (some (.int (nI w - nI (gcnt (usf (ems sm (1 + p) 6)) 432))))) (zW z0 z1 z2 z3 z4 z5 cI cB hm b1 b2 b3 b4 cd F sx pd (emt th (1 + p) 6) (ems sm (1 + p) 6) u rest)) : ∀ (m i : Nat), i + m = 6 → Go (gg D cI cB cL bb L xs) mY_drop (n + 2) 0 0 40 [(3, .int (nI i)), (2, .int (nI w)), (0, .ref hm), (1, .int (nI p))] [] (zW z0 z1 z2 z3 z4 z5 cI cB hm b1 b2 b3 b4 cd F sx pd (emt th (1 + p) i) (ems sm (1 + p) i) u rest) Psi := by
  intro m
  induction m with
  | zero =>
    intro i hi
    obtain rfl : i = 6 := by omega
    refine go_iload_n (pc := 40) 3 0 rfl rfl eY_drop_40 ?_
    refine go_bipush (pc := 41) (v := 6) (by decide) eY_drop_41 ?_
    refine go_icmp_ge (pc := 43) 60 (by decide) eY_drop_43 (fun c43 => ?_) (fun c43 => ?_)
    · refine go_iload_n (pc := 60) 2 1 rfl rfl eY_drop_60 ?_
      refine go_aload_n (pc := 61) 0 2 rfl rfl eY_drop_61 ?_
      refine go_rV (pc := 62) 6 (d_used (ems_lt hsm 6)) okY_used lmY_60 eY_drop_62 rfl rfl rfl rfl rfl (Nat.le_of_ble_eq_true rfl) (Nat.le_of_ble_eq_true rfl) ?_
      refine go_isub (pc := 65) eY_drop_65 ?_
      exact go_iret (pc := 66) rfl rfl eY_drop_66 (hf)
    · exact absurd (show (6 : Int32) ≤ nI 6 by decide) c43
  | succ m ih =>
    intro i hi
    refine go_iload_n (pc := 40) 3 0 rfl rfl eY_drop_40 ?_
    refine go_bipush (pc := 41) (v := 6) (by decide) eY_drop_41 ?_
    refine go_icmp_ge (pc := 43) 60 (by decide) eY_drop_43 (fun c43 => ?_) (fun c43 => ?_)
    · exact absurd c43 (nI_ge (b := 6) (by omega) (by omega))
    · refine go_aload_n (pc := 46) 0 2 rfl rfl eY_drop_46 ?_
      refine go_iconst (pc := 47) (v := 1) (by decide) eY_drop_47 ?_
      refine go_iload_n (pc := 48) 1 3 rfl rfl eY_drop_48 ?_
      refine go_iadd (pc := 49) eY_drop_49 ?_
      rw [show (1 : Int32) + nI p = nI (1 + p) from nI_add 1 p]
      refine go_iload_n (pc := 50) 3 0 rfl rfl eY_drop_50 ?_
      refine go_rV0 (pc := 51) 6 (d_em (1 + p) i (by omega) (by omega)) okY_empty lmY_54 eY_drop_51 rfl rfl rfl rfl rfl (Nat.le_of_ble_eq_true rfl) (Nat.le_of_ble_eq_true rfl) ?_
      refine go_iinc (pc := 54) (z := 1) (v := nI (i + 1)) (ls' := [(3, _), (2, _), (0, _), (1, _)]) 3 0 rfl (nI_1 i) (by decide) eY_drop_54 rfl ?_
      refine go_goto (pc := 57) 40 (by decide) eY_drop_57 ?_
      exact ih (i + 1) (by omega)
set_option maxRecDepth 100000 in
set_option maxHeartbeats 1000000 in
theorem d_drop (hsm : ∀ k, sm k < 2 ^ 30) (p : Nat) (hp : p < 8) (hpd : pd (1 + p) = true) : Ret (gg D cI cB cL bb L xs) mY_drop (n + 2) 0 0 [.ref hm, .int (nI p)] (zW z0 z1 z2 z3 z4 z5 cI cB hm b1 b2 b3 b4 cd F sx pd th sm u rest) (some (.int (nI (gcnt (usf sm) 432) - nI (gcnt (usf (ems sm (1 + p) 6)) 432)))) (zW z0 z1 z2 z3 z4 z5 cI cB hm b1 b2 b3 b4 0 F sx (va_up pd (1 + p) false) (emt th (1 + p) 6) (ems sm (1 + p) 6) u rest) := by
  intro Psi hf
  show Go _ _ _ _ _ 0 [(0, .ref hm), (1, .int (nI p))] [] _ Psi
  refine go_aload_n (pc := 0) 0 0 rfl rfl eY_drop_0 ?_
  refine go_aload_n (pc := 1) 0 0 rfl rfl eY_drop_1 ?_
  refine go_iload_n (pc := 2) 1 1 rfl rfl eY_drop_2 ?_
  refine go_rV (pc := 3) 6 (d_isPicT p hp hpd) okY_isPicture lmY_80 eY_drop_3 rfl rfl rfl rfl rfl (Nat.le_of_ble_eq_true rfl) (Nat.le_of_ble_eq_true rfl) ?_
  refine go_if_ne (pc := 6) 13 (by decide) eY_drop_6 (fun c6 => ?_) (fun c6 => ?_)
  · refine go_iconst (pc := 13) (v := 0) (by decide) eY_drop_13 ?_
    refine go_iconst (pc := 14) (v := 0) (by decide) eY_drop_14 ?_
    refine go_iconst (pc := 15) (v := 0) (by decide) eY_drop_15 ?_
    refine go_rV (pc := 16) 6 (d_fails0) okY_fails lmY_46 eY_drop_16 rfl rfl rfl rfl rfl (Nat.le_of_ble_eq_true rfl) (Nat.le_of_ble_eq_true rfl) ?_
    refine go_if_eq (pc := 19) 24 (by decide) eY_drop_19 (fun c19 => ?_) (fun c19 => ?_)
    · refine go_aload_n (pc := 24) 0 0 rfl rfl eY_drop_24 ?_
      refine go_rV (pc := 25) 6 (d_used hsm) okY_used lmY_60 eY_drop_25 rfl rfl rfl rfl rfl (Nat.le_of_ble_eq_true rfl) (Nat.le_of_ble_eq_true rfl) ?_
      refine go_istore_n (pc := 28) (ls' := [(2, _), (0, _), (1, _)]) 2 rfl (by decide) eY_drop_28 rfl ?_
      refine go_aload_n (pc := 29) 0 1 rfl rfl eY_drop_29 ?_
      refine go_get (pc := 30) hwY 6 rfl rfl 3 (by decide) lkY_7 rfl eY_drop_30 ?_
      refine go_iconst (pc := 33) (v := 1) (by decide) eY_drop_33 ?_
      refine go_iload_n (pc := 34) 1 2 rfl rfl eY_drop_34 ?_
      refine go_iadd (pc := 35) eY_drop_35 ?_
      refine go_iconst (pc := 36) (v := 0) (by decide) eY_drop_36 ?_
      refine go_zastN (pc := 37) (es' := (zW z0 z1 z2 z3 z4 z5 cI cB hm b1 b2 b3 b4 0 F sx (va_up pd (1 + p) false) th sm u rest)) 7 1 (1 + p) eY_drop_37 rfl rfl (nI_add 1 p) (by omega) (by omega) (ys7 (upd_b (b := false) rfl)) ?_
      refine go_iconst (pc := 38) (v := 0) (by decide) eY_drop_38 ?_
      refine go_istore_n (pc := 39) (ls' := [(3, _), (2, _), (0, _), (1, _)]) 3 rfl (by decide) eY_drop_39 rfl ?_
      exact k_drop hsm p _ hp hf 6 0 (by omega)
    · exact absurd c19 (by decide)
  · exact absurd c6 (by decide)
set_option maxRecDepth 100000 in
set_option maxHeartbeats 1000000 in
theorem e_drop (x : Int32) (hx : ∀ j, j < 8 → x = nI j → pd (1 + j) = false) : Ret (gg D cI cB cL bb L xs) mY_drop (n + 2) 0 0 [.ref hm, .int (x)] (zW z0 z1 z2 z3 z4 z5 cI cB hm b1 b2 b3 b4 cd F sx pd th sm u rest) (some (.int (0))) (zW z0 z1 z2 z3 z4 z5 cI cB hm b1 b2 b3 b4 1 F sx pd th sm u rest) := by
  intro Psi hf
  show Go _ _ _ _ _ 0 [(0, .ref hm), (1, .int (x))] [] _ Psi
  refine go_aload_n (pc := 0) 0 0 rfl rfl eY_drop_0 ?_
  refine go_aload_n (pc := 1) 0 0 rfl rfl eY_drop_1 ?_
  refine go_iload_n (pc := 2) 1 1 rfl rfl eY_drop_2 ?_
  refine go_rV (pc := 3) 6 (d_isPicF x hx) okY_isPicture lmY_80 eY_drop_3 rfl rfl rfl rfl rfl (Nat.le_of_ble_eq_true rfl) (Nat.le_of_ble_eq_true rfl) ?_
  refine go_if_ne (pc := 6) 13 (by decide) eY_drop_6 (fun c6 => ?_) (fun c6 => ?_)
  · exact absurd rfl c6
  · refine go_iconst (pc := 9) (v := 1) (by decide) eY_drop_9 ?_
    refine go_goto (pc := 10) 14 (by decide) eY_drop_10 ?_
    refine go_iconst (pc := 14) (v := 0) (by decide) eY_drop_14 ?_
    refine go_iconst (pc := 15) (v := 0) (by decide) eY_drop_15 ?_
    refine go_rV (pc := 16) 6 (d_fails1 0 0) okY_fails lmY_46 eY_drop_16 rfl rfl rfl rfl rfl (Nat.le_of_ble_eq_true rfl) (Nat.le_of_ble_eq_true rfl) ?_
    refine go_if_eq (pc := 19) 24 (by decide) eY_drop_19 (fun c19 => ?_) (fun c19 => ?_)
    · exact absurd c19 (by decide)
    · refine go_iconst (pc := 22) (v := 0) (by decide) eY_drop_22 ?_
      exact go_iret (pc := 23) rfl rfl eY_drop_23 (hf)
set_option maxRecDepth 100000 in
set_option maxHeartbeats 1000000 in
theorem k_chg (hsm : ∀ k, sm k < 2 ^ 30) (p : Nat) (hp : p < 8) {Psi : gR → va_W → Prop} (hf : Psi (.inl (some (.int (nI (gcnt (fun i => decide (¬ sm i = sm (48 * (1 + p) + i))) 48))))) (zW z0 z1 z2 z3 z4 z5 cI cB hm b1 b2 b3 b4 cd F sx pd th sm u rest)) : ∀ (m i : Nat), i + m = 48 → Go (gg D cI cB cL bb L xs) mY_changed (n + 1) 0 0 28 [(3, .int (nI i)), (2, .int (nI (gcnt (fun i => decide (¬ sm i = sm (48 * (1 + p) + i))) i))), (0, .ref hm), (1, .int (nI p))] [] (zW z0 z1 z2 z3 z4 z5 cI cB hm b1 b2 b3 b4 cd F sx pd th sm u rest) Psi := by
  intro m
  induction m with
  | zero =>
    intro i hi
    obtain rfl : i = 48 := by omega
    refine go_iload_n (pc := 28) 3 0 rfl rfl eY_changed_28 ?_
    refine go_bipush (pc := 29) (v := 48) (by decide) eY_changed_29 ?_
    refine go_icmp_ge (pc := 31) 70 (by decide) eY_changed_31 (fun c31 => ?_) (fun c31 => ?_)
    · refine go_iload_n (pc := 70) 2 1 rfl rfl eY_changed_70 ?_
      exact go_iret (pc := 71) rfl rfl eY_changed_71 (hf)
    · exact absurd (show (48 : Int32) ≤ nI 48 by decide) c31
  | succ m ih =>
    intro i hi
    refine go_iload_n (pc := 28) 3 0 rfl rfl eY_changed_28 ?_
    refine go_bipush (pc := 29) (v := 48) (by decide) eY_changed_29 ?_
    refine go_icmp_ge (pc := 31) 70 (by decide) eY_changed_31 (fun c31 => ?_) (fun c31 => ?_)
    · exact absurd c31 (nI_ge (b := 48) (by omega) (by omega))
    · refine go_aload_n (pc := 34) 0 2 rfl rfl eY_changed_34 ?_
      refine go_get (pc := 35) hwY 6 rfl rfl 5 (by decide) lkY_16 rfl eY_changed_35 ?_
      refine go_iload_n (pc := 38) 3 0 rfl rfl eY_changed_38 ?_
      refine go_ialdN (pc := 39) 9 0 (i) eY_changed_39 rfl rfl (rfl) (by omega) (by omega) ?_
      refine go_aload_n (pc := 40) 0 2 rfl rfl eY_changed_40 ?_
      refine go_get (pc := 41) hwY 6 rfl rfl 5 (by decide) lkY_16 rfl eY_changed_41 ?_
      refine go_bipush (pc := 44) (v := 48) (by decide) eY_changed_44 ?_
      refine go_iconst (pc := 46) (v := 1) (by decide) eY_changed_46 ?_
      refine go_iload_n (pc := 47) 1 3 rfl rfl eY_changed_47 ?_
      refine go_iadd (pc := 48) eY_changed_48 ?_
      rw [show (1 : Int32) + nI p = nI (1 + p) from nI_add 1 p]
      refine go_imul (pc := 49) eY_changed_49 ?_
      refine go_iload_n (pc := 50) 3 0 rfl rfl eY_changed_50 ?_
      refine go_iadd (pc := 51) eY_changed_51 ?_
      refine go_ialdN (pc := 52) 9 0 (48 * (1 + p) + i) eY_changed_52 rfl rfl (n48 (1 + p) i) (by omega) (by omega) ?_
      refine go_icmp_ne (pc := 53) 60 (by decide) eY_changed_53 (fun c53 => ?_) (fun c53 => ?_)
      · have e9 : gcnt (fun i => decide (¬ sm i = sm (48 * (1 + p) + i))) (i + 1) = gcnt (fun i => decide (¬ sm i = sm (48 * (1 + p) + i))) i + 1 := gcnt_s (decide_eq_true (fun z => c53 (by rw [z])))
        refine go_iload_n (pc := 60) 2 1 rfl rfl eY_changed_60 ?_
        refine go_iconst (pc := 61) (v := 1) (by decide) eY_changed_61 ?_
        refine go_iadd (pc := 62) eY_changed_62 ?_
        try rw [nI_1, ← e9]
        refine go_istore_n (pc := 63) (ls' := [(2, _), (3, _), (0, _), (1, _)]) 2 rfl (by decide) eY_changed_63 rfl ?_
        refine go_iinc (pc := 64) (z := 1) (v := nI (i + 1)) (ls' := [(3, _), (2, _), (0, _), (1, _)]) 3 1 rfl (nI_1 i) (by decide) eY_changed_64 rfl ?_
        refine go_goto (pc := 67) 28 (by decide) eY_changed_67 ?_
        exact ih (i + 1) (by omega)
      · have e9 : gcnt (fun i => decide (¬ sm i = sm (48 * (1 + p) + i))) (i + 1) = gcnt (fun i => decide (¬ sm i = sm (48 * (1 + p) + i))) i := gcnt_n (decide_eq_false (fun z => z ((nI_eq (by have := hsm i; omega) (by have := hsm (48 * (1 + p) + i); omega)).mp c53)))
        rw [← e9]
        refine go_iload_n (pc := 56) 2 1 rfl rfl eY_changed_56 ?_
        refine go_goto (pc := 57) 63 (by decide) eY_changed_57 ?_
        try rw [nI_1, ← e9]
        refine go_istore_n (pc := 63) (ls' := [(2, _), (3, _), (0, _), (1, _)]) 2 rfl (by decide) eY_changed_63 rfl ?_
        refine go_iinc (pc := 64) (z := 1) (v := nI (i + 1)) (ls' := [(3, _), (2, _), (0, _), (1, _)]) 3 1 rfl (nI_1 i) (by decide) eY_changed_64 rfl ?_
        refine go_goto (pc := 67) 28 (by decide) eY_changed_67 ?_
        exact ih (i + 1) (by omega)
set_option maxRecDepth 100000 in
set_option maxHeartbeats 1000000 in
theorem d_chg (hsm : ∀ k, sm k < 2 ^ 30) (p : Nat) (hp : p < 8) (hpd : pd (1 + p) = true) : Ret (gg D cI cB cL bb L xs) mY_changed (n + 1) 0 0 [.ref hm, .int (nI p)] (zW z0 z1 z2 z3 z4 z5 cI cB hm b1 b2 b3 b4 cd F sx pd th sm u rest) (some (.int (nI (gcnt (fun i => decide (¬ sm i = sm (48 * (1 + p) + i))) 48)))) (zW z0 z1 z2 z3 z4 z5 cI cB hm b1 b2 b3 b4 0 F sx pd th sm u rest) := by
  intro Psi hf
  show Go _ _ _ _ _ 0 [(0, .ref hm), (1, .int (nI p))] [] _ Psi
  refine go_aload_n (pc := 0) 0 0 rfl rfl eY_changed_0 ?_
  refine go_aload_n (pc := 1) 0 0 rfl rfl eY_changed_1 ?_
  refine go_iload_n (pc := 2) 1 1 rfl rfl eY_changed_2 ?_
  refine go_rV (pc := 3) 6 (d_isPicT p hp hpd) okY_isPicture lmY_80 eY_changed_3 rfl rfl rfl rfl rfl (Nat.le_of_ble_eq_true rfl) (Nat.le_of_ble_eq_true rfl) ?_
  refine go_if_ne (pc := 6) 13 (by decide) eY_changed_6 (fun c6 => ?_) (fun c6 => ?_)
  · refine go_iconst (pc := 13) (v := 0) (by decide) eY_changed_13 ?_
    refine go_iconst (pc := 14) (v := 0) (by decide) eY_changed_14 ?_
    refine go_iconst (pc := 15) (v := 0) (by decide) eY_changed_15 ?_
    refine go_rV (pc := 16) 6 (d_fails0) okY_fails lmY_46 eY_changed_16 rfl rfl rfl rfl rfl (Nat.le_of_ble_eq_true rfl) (Nat.le_of_ble_eq_true rfl) ?_
    refine go_if_eq (pc := 19) 24 (by decide) eY_changed_19 (fun c19 => ?_) (fun c19 => ?_)
    · refine go_iconst (pc := 24) (v := 0) (by decide) eY_changed_24 ?_
      refine go_istore_n (pc := 25) (ls' := [(2, _), (0, _), (1, _)]) 2 rfl (by decide) eY_changed_25 rfl ?_
      refine go_iconst (pc := 26) (v := 0) (by decide) eY_changed_26 ?_
      refine go_istore_n (pc := 27) (ls' := [(3, _), (2, _), (0, _), (1, _)]) 3 rfl (by decide) eY_changed_27 rfl ?_
      exact k_chg hsm p hp hf 48 0 (by omega)
    · exact absurd c19 (by decide)
  · exact absurd c6 (by decide)
set_option maxRecDepth 100000 in
set_option maxHeartbeats 1000000 in
theorem e_chg (x : Int32) (hx : ∀ j, j < 8 → x = nI j → pd (1 + j) = false) : Ret (gg D cI cB cL bb L xs) mY_changed (n + 1) 0 0 [.ref hm, .int (x)] (zW z0 z1 z2 z3 z4 z5 cI cB hm b1 b2 b3 b4 cd F sx pd th sm u rest) (some (.int (0))) (zW z0 z1 z2 z3 z4 z5 cI cB hm b1 b2 b3 b4 1 F sx pd th sm u rest) := by
  intro Psi hf
  show Go _ _ _ _ _ 0 [(0, .ref hm), (1, .int (x))] [] _ Psi
  refine go_aload_n (pc := 0) 0 0 rfl rfl eY_changed_0 ?_
  refine go_aload_n (pc := 1) 0 0 rfl rfl eY_changed_1 ?_
  refine go_iload_n (pc := 2) 1 1 rfl rfl eY_changed_2 ?_
  refine go_rV (pc := 3) 6 (d_isPicF x hx) okY_isPicture lmY_80 eY_changed_3 rfl rfl rfl rfl rfl (Nat.le_of_ble_eq_true rfl) (Nat.le_of_ble_eq_true rfl) ?_
  refine go_if_ne (pc := 6) 13 (by decide) eY_changed_6 (fun c6 => ?_) (fun c6 => ?_)
  · exact absurd rfl c6
  · refine go_iconst (pc := 9) (v := 1) (by decide) eY_changed_9 ?_
    refine go_goto (pc := 10) 14 (by decide) eY_changed_10 ?_
    refine go_iconst (pc := 14) (v := 0) (by decide) eY_changed_14 ?_
    refine go_iconst (pc := 15) (v := 0) (by decide) eY_changed_15 ?_
    refine go_rV (pc := 16) 6 (d_fails1 0 0) okY_fails lmY_46 eY_changed_16 rfl rfl rfl rfl rfl (Nat.le_of_ble_eq_true rfl) (Nat.le_of_ble_eq_true rfl) ?_
    refine go_if_eq (pc := 19) 24 (by decide) eY_changed_19 (fun c19 => ?_) (fun c19 => ?_)
    · exact absurd c19 (by decide)
    · refine go_iconst (pc := 22) (v := 0) (by decide) eY_changed_22 ?_
      exact go_iret (pc := 23) rfl rfl eY_changed_23 (hf)
set_option maxRecDepth 100000 in
set_option maxHeartbeats 1000000 in
theorem d_isThereA (s : Nat) (hs : s < 6) : Ret (gg D cI cB cL bb L xs) mY_isThere (n + 1) 0 0 [.ref hm, .int (nI s)] (zW z0 z1 z2 z3 z4 z5 cI cB hm b1 b2 b3 b4 cd F sx pd th sm u rest) (some (.int (bI (th s)))) (zW z0 z1 z2 z3 z4 z5 cI cB hm b1 b2 b3 b4 0 F sx pd th sm u rest) := by
  intro Psi hf
  show Go _ _ _ _ _ 0 [(0, .ref hm), (1, .int (nI s))] [] _ Psi
  refine go_aload_n (pc := 0) 0 0 rfl rfl eY_isThere_0 ?_
  refine go_iconst (pc := 1) (v := 0) (by decide) eY_isThere_1 ?_
  refine go_put (pc := 2) (ty := .int) (es' := (zW z0 z1 z2 z3 z4 z5 cI cB hm b1 b2 b3 b4 0 F sx pd th sm u rest)) hwY tyY tyY_ok nmY 6 rfl rfl 0 (by decide) lkY_27 rfl (by decide +kernel) rfl rfl (Nat.le_of_ble_eq_true rfl) eY_isThere_2 rfl ?_
  refine go_aload_n (pc := 5) 0 0 rfl rfl eY_isThere_5 ?_
  refine go_iload_n (pc := 6) 1 1 rfl rfl eY_isThere_6 ?_
  refine go_rV (pc := 7) 6 (d_isSpaceA s hs) okY_isSpace lmY_42 eY_isThere_7 rfl rfl rfl rfl rfl (Nat.le_of_ble_eq_true rfl) (Nat.le_of_ble_eq_true rfl) ?_
  exact go_iret (pc := 10) rfl (narB _) eY_isThere_10 hf
set_option maxRecDepth 100000 in
set_option maxHeartbeats 1000000 in
theorem d_isThereB (x : Int32) (hx : ∀ j, j < 6 → x = nI j → th j = false) : Ret (gg D cI cB cL bb L xs) mY_isThere (n + 1) 0 0 [.ref hm, .int (x)] (zW z0 z1 z2 z3 z4 z5 cI cB hm b1 b2 b3 b4 cd F sx pd th sm u rest) (some (.int (0))) (zW z0 z1 z2 z3 z4 z5 cI cB hm b1 b2 b3 b4 0 F sx pd th sm u rest) := by
  intro Psi hf
  show Go _ _ _ _ _ 0 [(0, .ref hm), (1, .int (x))] [] _ Psi
  refine go_aload_n (pc := 0) 0 0 rfl rfl eY_isThere_0 ?_
  refine go_iconst (pc := 1) (v := 0) (by decide) eY_isThere_1 ?_
  refine go_put (pc := 2) (ty := .int) (es' := (zW z0 z1 z2 z3 z4 z5 cI cB hm b1 b2 b3 b4 0 F sx pd th sm u rest)) hwY tyY tyY_ok nmY 6 rfl rfl 0 (by decide) lkY_27 rfl (by decide +kernel) rfl rfl (Nat.le_of_ble_eq_true rfl) eY_isThere_2 rfl ?_
  refine go_aload_n (pc := 5) 0 0 rfl rfl eY_isThere_5 ?_
  refine go_iload_n (pc := 6) 1 1 rfl rfl eY_isThere_6 ?_
  refine go_rV (pc := 7) 6 (d_isSpaceF x hx) okY_isSpace lmY_42 eY_isThere_7 rfl rfl rfl rfl rfl (Nat.le_of_ble_eq_true rfl) (Nat.le_of_ble_eq_true rfl) ?_
  exact go_iret (pc := 10) rfl rfl eY_isThere_10 (hf)
end Syc
end
section
section GX14
variable {g : gG} {M : gM} {n mc ms pc : Nat} {ls : List (Nat × Value)} {st : List Value} {es es' : va_W} {Phi : gR → va_W → Prop}
theorem go_alen {cA : ClassId} {x : vp_A} {a : Nat} {ty : FieldType} {v : Int32} (q0 t0 : Nat) (hd : decode M.2.1 pc = .ok (.arraylength, 1)) (ha : es[q0]? = some (a, .inl (cA, x))) (ht : g.2.1[t0]? = some (cA, ty)) (hv : Int32.ofNat x.1 = v) (k : Go g M n mc ms (pc + 1) ls (.int v :: st) es Phi) : Go g M n mc ms pc ls (.ref a :: st) es Phi := by
  intro p l e R s m args below meth c A tc ts C h1 h2 H locs cells slots arr hP hD hS hl h3 h4
  exact va_alen C.hx C.hb C.hk hP q0 t0 ha ht hv hd (k p l e R s m args below meth c A tc ts C h1 h2 H locs cells slots arr hP hD hS hl h3 h4)
/-- an array is what its places hold -/
theorem go_ext {cA : ClassId} {len : Nat} {f f' : Nat → Int32} {a : Nat} (q0 : Nat) (ha : es[q0]? = some (a, .inl (cA, len, .inl f))) (hff : ∀ j, j < len → f j = f' j) (he : es.set q0 (a, .inl (cA, len, .inl f')) = es') (k : Go g M n mc ms pc ls st es' Phi) : Go g M n mc ms pc ls st es Phi := by
  intro p l e R s m args below meth c A tc ts C h1 h2 H locs cells slots arr hP hD hS hl h3 h4
  subst he
  have hc : vp_cell cA (len, .inl f) = vp_cell cA (len, .inl f') := by
    show arrV cA len (fun j => .int (f j)) = arrV cA len (fun j => .int (f' j))
    unfold arrV
    congr 2
    funext j
    show Value.int (f j.val) = Value.int (f' j.val)
    rw [hff j.val j.isLt]
  have hq : q0 < es.length := (List.getElem?_eq_some_iff.mp ha).1
  have hget : ∀ (k : Nat) (q : Nat × va_E), (es.set q0 (a, .inl (cA, len, .inl f')))[k]? = some q → ∃ q', es[k]? = some q' ∧ q'.1 = q.1 ∧ (k ≠ q0 → q' = q) ∧ (k = q0 → q = (a, .inl (cA, len, .inl f'))) := by
    intro k q hk
    rw [List.getElem?_set] at hk
    by_cases e : q0 = k
    · rw [if_pos e, if_pos hq] at hk
      cases hk
      subst e
      exact ⟨_, ha, rfl, fun z => absurd rfl z, fun _ => rfl⟩
    · rw [if_neg e] at hk
      exact ⟨q, hk, rfl, fun _ => rfl, fun z => absurd z.symm e⟩
  refine k p l e R s m args below meth c A tc ts C h1 h2 H locs cells slots arr ?_ ?_ hS hl h3 h4
  · intro k q hk
    obtain ⟨q', r1, r2, r3, r4⟩ := hget k q hk
    by_cases e : k = q0
    · rw [r4 e]
      have h9 : H[a]? = some (vp_cell cA (len, .inl f)) := hP q0 _ ha
      show H[a]? = some (vp_cell cA (len, .inl f'))
      rw [h9, hc]
    · rw [← r3 e]; exact hP k q' r1
  · refine ⟨fun i j p0 q hi hj hpq => ?_, fun k q hk => ?_⟩
    · obtain ⟨p', r1, r2, -, -⟩ := hget i p0 hi
      obtain ⟨q', t1, t2, -, -⟩ := hget j q hj
      exact hD.1 i j p' q' r1 t1 (by rw [r2, t2]; exact hpq)
    · obtain ⟨q', r1, r2, -, -⟩ := hget k q hk
      rw [← r2]; exact hD.2 k q' r1
end GX14
section S14
variable {D : va_G} {cI cB cL : ClassId} {bb L : Nat} {xs : Nat → Int32} {n h a1 a2 a3 a4 a5 F : Nat} {c : Nat → Int32} {fo : Nat → Option Nat} {sp pi : Nat → Bool} {rest es : va_W}
variable {hm b1 b2 b3 b4 sx : Nat} {cd : Int32} {pd th : Nat → Bool} {sm : Nat → Nat} {u : Nat → Int32} {z0 z1 z2 z3 z4 z5 : Nat × va_E}
set_option maxRecDepth 100000 in
set_option maxHeartbeats 1000000 in
theorem c_count0 (hF : F ≤ 60) : Ret (gg D cI cB cL bb L xs) mX_count (n + 1) 0 0 [.ref h, .int (nI 0)] (xW cI cB h a1 a2 a3 a4 a5 F c fo sp pi rest) (some (.int (nI (gcnt (fun j => decide (0 < hcnt fo j)) F)))) (xW cI cB h a1 a2 a3 a4 a5 F c fo sp pi rest) := by
  intro Psi hf
  show Go _ _ _ _ _ 0 [(0, .ref h), (1, .int (nI 0))] [] _ Psi
  refine go_iload_n (pc := 0) 1 1 rfl rfl eX_count_0 ?_
  refine go_tin (pc := 1) (off := 35) 36 (by decide) (by decide) (by decide) (by decide) eX_count_1 ?_
  refine go_aload_n (pc := 36) 0 0 rfl rfl eX_count_36 ?_
  refine go_rV (pc := 37) 0 (c_fiu hF) okX_framesInUse lmX_112 eX_count_37 rfl rfl rfl rfl rfl (Nat.le_of_ble_eq_true rfl) (Nat.le_of_ble_eq_true rfl) ?_
  exact go_iret (pc := 40) rfl rfl eX_count_40 (hf)
set_option maxRecDepth 100000 in
set_option maxHeartbeats 1000000 in
theorem c_count1  : Ret (gg D cI cB cL bb L xs) mX_count n 0 0 [.ref h, .int (nI 1)] (xW cI cB h a1 a2 a3 a4 a5 F c fo sp pi rest) (some (.int (nI F))) (xW cI cB h a1 a2 a3 a4 a5 F c fo sp pi rest) := by
  intro Psi hf
  show Go _ _ _ _ _ 0 [(0, .ref h), (1, .int (nI 1))] [] _ Psi
  refine go_iload_n (pc := 0) 1 1 rfl rfl eX_count_0 ?_
  refine go_tin (pc := 1) (off := 40) 41 (by decide) (by decide) (by decide) (by decide) eX_count_1 ?_
  refine go_aload_n (pc := 41) 0 0 rfl rfl eX_count_41 ?_
  refine go_get (pc := 42) hwX 0 rfl rfl 0 (by decide) lkX_18 rfl eX_count_42 ?_
  exact go_iret (pc := 45) rfl rfl eX_count_45 (hf)
set_option maxRecDepth 100000 in
set_option maxHeartbeats 1000000 in
theorem c_count2  : Ret (gg D cI cB cL bb L xs) mX_count (n + 2) 0 0 [.ref h, .int (nI 2)] (xW cI cB h a1 a2 a3 a4 a5 F c fo sp pi rest) (some (.int (nI (gcnt (fun s => sp (48 + s)) 6)))) (xW cI cB h a1 a2 a3 a4 a5 F c fo sp pi rest) := by
  intro Psi hf
  show Go _ _ _ _ _ 0 [(0, .ref h), (1, .int (nI 2))] [] _ Psi
  refine go_iload_n (pc := 0) 1 1 rfl rfl eX_count_0 ?_
  refine go_tin (pc := 1) (off := 45) 46 (by decide) (by decide) (by decide) (by decide) eX_count_1 ?_
  refine go_aload_n (pc := 46) 0 0 rfl rfl eX_count_46 ?_
  refine go_rV (pc := 47) 0 (c_spn) okX_spacesNow lmX_109 eX_count_47 rfl rfl rfl rfl rfl (Nat.le_of_ble_eq_true rfl) (Nat.le_of_ble_eq_true rfl) ?_
  exact go_iret (pc := 50) rfl rfl eX_count_50 (hf)
set_option maxRecDepth 100000 in
set_option maxHeartbeats 1000000 in
theorem c_count3  : Ret (gg D cI cB cL bb L xs) mX_count (n + 1) 0 0 [.ref h, .int (nI 3)] (xW cI cB h a1 a2 a3 a4 a5 F c fo sp pi rest) (some (.int (nI (gcnt pi 8)))) (xW cI cB h a1 a2 a3 a4 a5 F c fo sp pi rest) := by
  intro Psi hf
  show Go _ _ _ _ _ 0 [(0, .ref h), (1, .int (nI 3))] [] _ Psi
  refine go_iload_n (pc := 0) 1 1 rfl rfl eX_count_0 ?_
  refine go_tin (pc := 1) (off := 50) 51 (by decide) (by decide) (by decide) (by decide) eX_count_1 ?_
  refine go_aload_n (pc := 51) 0 0 rfl rfl eX_count_51 ?_
  refine go_rV (pc := 52) 0 (c_pcn) okX_picturesNow lmX_118 eX_count_52 rfl rfl rfl rfl rfl (Nat.le_of_ble_eq_true rfl) (Nat.le_of_ble_eq_true rfl) ?_
  exact go_iret (pc := 55) rfl rfl eX_count_55 (hf)
set_option maxRecDepth 100000 in
set_option maxHeartbeats 1000000 in
theorem c_count4 (hF : F ≤ 60) (hfo : ∀ k j, fo k = some j → j < F) : Ret (gg D cI cB cL bb L xs) mX_count (n + 3) 0 0 [.ref h, .int (nI 4)] (xW cI cB h a1 a2 a3 a4 a5 F c fo sp pi rest) (some (.int (nI (pgsum fo 6)))) (xW cI cB h a1 a2 a3 a4 a5 F c fo sp pi rest) := by
  intro Psi hf
  show Go _ _ _ _ _ 0 [(0, .ref h), (1, .int (nI 4))] [] _ Psi
  refine go_iload_n (pc := 0) 1 1 rfl rfl eX_count_0 ?_
  refine go_tin (pc := 1) (off := 55) 56 (by decide) (by decide) (by decide) (by decide) eX_count_1 ?_
  refine go_aload_n (pc := 56) 0 0 rfl rfl eX_count_56 ?_
  refine go_rV (pc := 57) 0 (c_pgn hF hfo) okX_pagesNow lmX_121 eX_count_57 rfl rfl rfl rfl rfl (Nat.le_of_ble_eq_true rfl) (Nat.le_of_ble_eq_true rfl) ?_
  exact go_iret (pc := 60) rfl rfl eX_count_60 (hf)
theorem tsw_out {x : Int32} (hx : ∀ j, j < 5 → x ≠ nI j) : x.toInt < 0 ∨ 4 < x.toInt := by
  rcases pk_ix x (n := 5) (by omega) with q | q | ⟨j, hj, q⟩
  · left
    have := Int32.lt_iff_toInt_lt.mp q
    simpa using this
  · right
    have h1 := Int32.le_iff_toInt_le.mp q
    rw [nI_toInt (by omega)] at h1
    omega
  · exact absurd q (hx j hj)
set_option maxRecDepth 100000 in
set_option maxHeartbeats 1000000 in
theorem c_count5 (x : Int32) (hx : ∀ j, j < 5 → x ≠ nI j) : Ret (gg D cI cB cL bb L xs) mX_count n 0 0 [.ref h, .int x] (xW cI cB h a1 a2 a3 a4 a5 F c fo sp pi rest) (some (.int (-1))) (xW cI cB h a1 a2 a3 a4 a5 F c fo sp pi rest) := by
  intro Psi hf
  show Go _ _ _ _ _ 0 [(0, .ref h), (1, .int x)] [] _ Psi
  refine go_iload_n (pc := 0) 1 1 rfl rfl eX_count_0 ?_
  refine go_tout (pc := 1) 61 (tsw_out hx) (by decide) eX_count_1 ?_
  refine go_iconst (pc := 61) (v := (-1)) (by decide) eX_count_61 ?_
  exact go_iret (pc := 62) rfl rfl eX_count_62 (hf)
/-- the pages of the first spaces, by their stamps -/
def ypg (sm : Nat → Nat) : Nat → Nat
  | 0 => 0
  | s + 1 => ypg sm s + gcnt (fun p => decide (¬ sm (8 * s + p) = 0)) 8
set_option maxRecDepth 100000 in
set_option maxHeartbeats 1000000 in
theorem d_count0 (hsm : ∀ k, sm k < 2 ^ 30) : Ret (gg D cI cB cL bb L xs) mY_count (n + 1) 0 0 [.ref hm, .int (nI 0)] (zW z0 z1 z2 z3 z4 z5 cI cB hm b1 b2 b3 b4 cd F sx pd th sm u rest) (some (.int (nI (gcnt (usf sm) 432)))) (zW z0 z1 z2 z3 z4 z5 cI cB hm b1 b2 b3 b4 0 F sx pd th sm u rest) := by
  intro Psi hf
  show Go _ _ _ _ _ 0 [(0, .ref hm), (1, .int (nI 0))] [] _ Psi
  refine go_aload_n (pc := 0) 0 0 rfl rfl eY_count_0 ?_
  refine go_iconst (pc := 1) (v := 0) (by decide) eY_count_1 ?_
  refine go_put (pc := 2) (ty := .int) (es' := (zW z0 z1 z2 z3 z4 z5 cI cB hm b1 b2 b3 b4 0 F sx pd th sm u rest)) hwY tyY tyY_ok nmY 6 rfl rfl 0 (by decide) lkY_27 rfl (by decide +kernel) rfl rfl (Nat.le_of_ble_eq_true rfl) eY_count_2 rfl ?_
  refine go_iconst (pc := 5) (v := 0) (by decide) eY_count_5 ?_
  refine go_istore_n (pc := 6) (ls' := [(2, _), (0, _), (1, _)]) 2 rfl (by decide) eY_count_6 rfl ?_
  refine go_iconst (pc := 7) (v := 1) (by decide) eY_count_7 ?_
  refine go_istore_n (pc := 8) (ls' := [(3, _), (2, _), (0, _), (1, _)]) 3 rfl (by decide) eY_count_8 rfl ?_
  refine go_iload_n (pc := 9) 3 0 rfl rfl eY_count_9 ?_
  refine go_bipush (pc := 10) (v := 8) (by decide) eY_count_10 ?_
  refine go_icmp_gt (pc := 12) 43 (by decide) eY_count_12 (fun c12 => ?_) (fun c12 => ?_)
  · exact absurd c12 (by decide)
  · refine go_iload_n (pc := 15) 1 3 rfl rfl eY_count_15 ?_
    refine go_iconst (pc := 16) (v := 3) (by decide) eY_count_16 ?_
    refine go_icmp_ne (pc := 17) 43 (by decide) eY_count_17 (fun c17 => ?_) (fun c17 => ?_)
    · refine go_iconst (pc := 43) (v := 0) (by decide) eY_count_43 ?_
      refine go_istore_n (pc := 44) (ls' := [(3, _), (2, _), (0, _), (1, _)]) 3 rfl (by decide) eY_count_44 rfl ?_
      refine go_iload_n (pc := 45) 3 0 rfl rfl eY_count_45 ?_
      refine go_bipush (pc := 46) (v := 6) (by decide) eY_count_46 ?_
      refine go_icmp_ge (pc := 48) 70 (by decide) eY_count_48 (fun c48 => ?_) (fun c48 => ?_)
      · exact absurd c48 (by decide)
      · refine go_iload_n (pc := 51) 1 3 rfl rfl eY_count_51 ?_
        refine go_iconst (pc := 52) (v := 4) (by decide) eY_count_52 ?_
        refine go_icmp_ne (pc := 53) 70 (by decide) eY_count_53 (fun c53 => ?_) (fun c53 => ?_)
        · refine go_iload_n (pc := 70) 1 3 rfl rfl eY_count_70 ?_
          refine go_tin (pc := 71) (off := 33) 104 (by decide) (by decide) (by decide) (by decide) eY_count_71 ?_
          refine go_aload_n (pc := 104) 0 2 rfl rfl eY_count_104 ?_
          refine go_rV (pc := 105) 6 (d_used hsm) okY_used lmY_60 eY_count_105 rfl rfl rfl rfl rfl (Nat.le_of_ble_eq_true rfl) (Nat.le_of_ble_eq_true rfl) ?_
          exact go_iret (pc := 108) rfl rfl eY_count_108 (hf)
        · exact absurd c53 (by decide)
    · exact absurd c17 (by decide)
set_option maxRecDepth 100000 in
set_option maxHeartbeats 1000000 in
theorem d_count1  : Ret (gg D cI cB cL bb L xs) mY_count n 0 0 [.ref hm, .int (nI 1)] (zW z0 z1 z2 z3 z4 z5 cI cB hm b1 b2 b3 b4 cd F sx pd th sm u rest) (some (.int (nI F))) (zW z0 z1 z2 z3 z4 z5 cI cB hm b1 b2 b3 b4 0 F sx pd th sm u rest) := by
  intro Psi hf
  show Go _ _ _ _ _ 0 [(0, .ref hm), (1, .int (nI 1))] [] _ Psi
  refine go_aload_n (pc := 0) 0 0 rfl rfl eY_count_0 ?_
  refine go_iconst (pc := 1) (v := 0) (by decide) eY_count_1 ?_
  refine go_put (pc := 2) (ty := .int) (es' := (zW z0 z1 z2 z3 z4 z5 cI cB hm b1 b2 b3 b4 0 F sx pd th sm u rest)) hwY tyY tyY_ok nmY 6 rfl rfl 0 (by decide) lkY_27 rfl (by decide +kernel) rfl rfl (Nat.le_of_ble_eq_true rfl) eY_count_2 rfl ?_
  refine go_iconst (pc := 5) (v := 0) (by decide) eY_count_5 ?_
  refine go_istore_n (pc := 6) (ls' := [(2, _), (0, _), (1, _)]) 2 rfl (by decide) eY_count_6 rfl ?_
  refine go_iconst (pc := 7) (v := 1) (by decide) eY_count_7 ?_
  refine go_istore_n (pc := 8) (ls' := [(3, _), (2, _), (0, _), (1, _)]) 3 rfl (by decide) eY_count_8 rfl ?_
  refine go_iload_n (pc := 9) 3 0 rfl rfl eY_count_9 ?_
  refine go_bipush (pc := 10) (v := 8) (by decide) eY_count_10 ?_
  refine go_icmp_gt (pc := 12) 43 (by decide) eY_count_12 (fun c12 => ?_) (fun c12 => ?_)
  · exact absurd c12 (by decide)
  · refine go_iload_n (pc := 15) 1 3 rfl rfl eY_count_15 ?_
    refine go_iconst (pc := 16) (v := 3) (by decide) eY_count_16 ?_
    refine go_icmp_ne (pc := 17) 43 (by decide) eY_count_17 (fun c17 => ?_) (fun c17 => ?_)
    · refine go_iconst (pc := 43) (v := 0) (by decide) eY_count_43 ?_
      refine go_istore_n (pc := 44) (ls' := [(3, _), (2, _), (0, _), (1, _)]) 3 rfl (by decide) eY_count_44 rfl ?_
      refine go_iload_n (pc := 45) 3 0 rfl rfl eY_count_45 ?_
      refine go_bipush (pc := 46) (v := 6) (by decide) eY_count_46 ?_
      refine go_icmp_ge (pc := 48) 70 (by decide) eY_count_48 (fun c48 => ?_) (fun c48 => ?_)
      · exact absurd c48 (by decide)
      · refine go_iload_n (pc := 51) 1 3 rfl rfl eY_count_51 ?_
        refine go_iconst (pc := 52) (v := 4) (by decide) eY_count_52 ?_
        refine go_icmp_ne (pc := 53) 70 (by decide) eY_count_53 (fun c53 => ?_) (fun c53 => ?_)
        · refine go_iload_n (pc := 70) 1 3 rfl rfl eY_count_70 ?_
          refine go_tin (pc := 71) (off := 38) 109 (by decide) (by decide) (by decide) (by decide) eY_count_71 ?_
          refine go_aload_n (pc := 109) 0 2 rfl rfl eY_count_109 ?_
          refine go_get (pc := 110) hwY 6 rfl rfl 1 (by decide) lkY_23 rfl eY_count_110 ?_
          exact go_iret (pc := 113) rfl rfl eY_count_113 (hf)
        · exact absurd c53 (by decide)
    · exact absurd c17 (by decide)
set_option maxRecDepth 100000 in
set_option maxHeartbeats 1000000 in
theorem d_count2  : Ret (gg D cI cB cL bb L xs) mY_count (n + 1) 0 0 [.ref hm, .int (nI 2)] (zW z0 z1 z2 z3 z4 z5 cI cB hm b1 b2 b3 b4 cd F sx pd th sm u rest) (some (.int (nI (gcnt th 6)))) (zW z0 z1 z2 z3 z4 z5 cI cB hm b1 b2 b3 b4 0 F sx pd th sm u rest) := by
  intro Psi hf
  show Go _ _ _ _ _ 0 [(0, .ref hm), (1, .int (nI 2))] [] _ Psi
  refine go_aload_n (pc := 0) 0 0 rfl rfl eY_count_0 ?_
  refine go_iconst (pc := 1) (v := 0) (by decide) eY_count_1 ?_
  refine go_put (pc := 2) (ty := .int) (es' := (zW z0 z1 z2 z3 z4 z5 cI cB hm b1 b2 b3 b4 0 F sx pd th sm u rest)) hwY tyY tyY_ok nmY 6 rfl rfl 0 (by decide) lkY_27 rfl (by decide +kernel) rfl rfl (Nat.le_of_ble_eq_true rfl) eY_count_2 rfl ?_
  refine go_iconst (pc := 5) (v := 0) (by decide) eY_count_5 ?_
  refine go_istore_n (pc := 6) (ls' := [(2, _), (0, _), (1, _)]) 2 rfl (by decide) eY_count_6 rfl ?_
  refine go_iconst (pc := 7) (v := 1) (by decide) eY_count_7 ?_
  refine go_istore_n (pc := 8) (ls' := [(3, _), (2, _), (0, _), (1, _)]) 3 rfl (by decide) eY_count_8 rfl ?_
  refine go_iload_n (pc := 9) 3 0 rfl rfl eY_count_9 ?_
  refine go_bipush (pc := 10) (v := 8) (by decide) eY_count_10 ?_
  refine go_icmp_gt (pc := 12) 43 (by decide) eY_count_12 (fun c12 => ?_) (fun c12 => ?_)
  · exact absurd c12 (by decide)
  · refine go_iload_n (pc := 15) 1 3 rfl rfl eY_count_15 ?_
    refine go_iconst (pc := 16) (v := 3) (by decide) eY_count_16 ?_
    refine go_icmp_ne (pc := 17) 43 (by decide) eY_count_17 (fun c17 => ?_) (fun c17 => ?_)
    · refine go_iconst (pc := 43) (v := 0) (by decide) eY_count_43 ?_
      refine go_istore_n (pc := 44) (ls' := [(3, _), (2, _), (0, _), (1, _)]) 3 rfl (by decide) eY_count_44 rfl ?_
      refine go_iload_n (pc := 45) 3 0 rfl rfl eY_count_45 ?_
      refine go_bipush (pc := 46) (v := 6) (by decide) eY_count_46 ?_
      refine go_icmp_ge (pc := 48) 70 (by decide) eY_count_48 (fun c48 => ?_) (fun c48 => ?_)
      · exact absurd c48 (by decide)
      · refine go_iload_n (pc := 51) 1 3 rfl rfl eY_count_51 ?_
        refine go_iconst (pc := 52) (v := 4) (by decide) eY_count_52 ?_
        refine go_icmp_ne (pc := 53) 70 (by decide) eY_count_53 (fun c53 => ?_) (fun c53 => ?_)
        · refine go_iload_n (pc := 70) 1 3 rfl rfl eY_count_70 ?_
          refine go_tin (pc := 71) (off := 43) 114 (by decide) (by decide) (by decide) (by decide) eY_count_71 ?_
          refine go_aload_n (pc := 114) 0 2 rfl rfl eY_count_114 ?_
          refine go_rV (pc := 115) 6 (d_spaces) okY_spaces lmY_83 eY_count_115 rfl rfl rfl rfl rfl (Nat.le_of_ble_eq_true rfl) (Nat.le_of_ble_eq_true rfl) ?_
          exact go_iret (pc := 118) rfl rfl eY_count_118 (hf)
        · exact absurd c53 (by decide)
    · exact absurd c17 (by decide)
set_option maxRecDepth 100000 in
set_option maxHeartbeats 1000000 in
theorem k_cnt3 {Psi : gR → va_W → Prop} (hf : Psi (.inl (some (.int (nI (gcnt (fun i => pd (1 + i)) 8))))) (zW z0 z1 z2 z3 z4 z5 cI cB hm b1 b2 b3 b4 cd F sx pd th sm u rest)) : ∀ (m i : Nat), i + m = 8 → Go (gg D cI cB cL bb L xs) mY_count n 0 0 9 [(3, .int (nI (1 + i))), (2, .int (nI (gcnt (fun i => pd (1 + i)) i))), (0, .ref hm), (1, .int (nI 3))] [] (zW z0 z1 z2 z3 z4 z5 cI cB hm b1 b2 b3 b4 cd F sx pd th sm u rest) Psi := by
  intro m
  induction m with
  | zero =>
    intro i hi
    obtain rfl : i = 8 := by omega
    refine go_iload_n (pc := 9) 3 0 rfl rfl eY_count_9 ?_
    refine go_bipush (pc := 10) (v := 8) (by decide) eY_count_10 ?_
    refine go_icmp_gt (pc := 12) 43 (by decide) eY_count_12 (fun c12 => ?_) (fun c12 => ?_)
    · refine go_iconst (pc := 43) (v := 0) (by decide) eY_count_43 ?_
      refine go_istore_n (pc := 44) (ls' := [(3, _), (2, _), (0, _), (1, _)]) 3 rfl (by decide) eY_count_44 rfl ?_
      refine go_iload_n (pc := 45) 3 0 rfl rfl eY_count_45 ?_
      refine go_bipush (pc := 46) (v := 6) (by decide) eY_count_46 ?_
      refine go_icmp_ge (pc := 48) 70 (by decide) eY_count_48 (fun c48 => ?_) (fun c48 => ?_)
      · exact absurd c48 (by decide)
      · refine go_iload_n (pc := 51) 1 3 rfl rfl eY_count_51 ?_
        refine go_iconst (pc := 52) (v := 4) (by decide) eY_count_52 ?_
        refine go_icmp_ne (pc := 53) 70 (by decide) eY_count_53 (fun c53 => ?_) (fun c53 => ?_)
        · refine go_iload_n (pc := 70) 1 3 rfl rfl eY_count_70 ?_
          refine go_tin (pc := 71) (off := 48) 119 (by decide) (by decide) (by decide) (by decide) eY_count_71 ?_
          refine go_iload_n (pc := 119) 2 1 rfl rfl eY_count_119 ?_
          exact go_iret (pc := 120) rfl rfl eY_count_120 (hf)
        · exact absurd c53 (by decide)
    · exact absurd (show (8 : Int32) < nI (1 + 8) by decide) c12
  | succ m ih =>
    intro i hi
    refine go_iload_n (pc := 9) 3 0 rfl rfl eY_count_9 ?_
    refine go_bipush (pc := 10) (v := 8) (by decide) eY_count_10 ?_
    refine go_icmp_gt (pc := 12) 43 (by decide) eY_count_12 (fun c12 => ?_) (fun c12 => ?_)
    · exact absurd c12 (nI_nlt (a := 8) (b := 1 + i) (by omega) (by omega))
    · refine go_iload_n (pc := 15) 1 3 rfl rfl eY_count_15 ?_
      refine go_iconst (pc := 16) (v := 3) (by decide) eY_count_16 ?_
      refine go_icmp_ne (pc := 17) 43 (by decide) eY_count_17 (fun c17 => ?_) (fun c17 => ?_)
      · exact absurd rfl c17
      · refine go_aload_n (pc := 20) 0 2 rfl rfl eY_count_20 ?_
        refine go_get (pc := 21) hwY 6 rfl rfl 3 (by decide) lkY_7 rfl eY_count_21 ?_
        refine go_iload_n (pc := 24) 3 0 rfl rfl eY_count_24 ?_
        refine go_zaldN (pc := 25) 7 1 (1 + i) eY_count_25 rfl rfl (rfl) (by omega) (by omega) ?_
        refine go_if_eq (pc := 26) 35 (by decide) eY_count_26 (fun c26 => ?_) (fun c26 => ?_)
        · have e9 : gcnt (fun i => pd (1 + i)) (i + 1) = gcnt (fun i => pd (1 + i)) i := gcnt_n (bI0.mp c26)
          rw [← e9]
          refine go_iload_n (pc := 35) 2 1 rfl rfl eY_count_35 ?_
          refine go_istore_n (pc := 36) (ls' := [(2, _), (3, _), (0, _), (1, _)]) 2 rfl (by decide) eY_count_36 rfl ?_
          refine go_iinc (pc := 37) (z := 1) (v := nI (1 + (i + 1))) (ls' := [(3, _), (2, _), (0, _), (1, _)]) 3 1 rfl (by rw [show 1 + (i + 1) = (1 + i) + 1 from by omega]; exact nI_1 (1 + i)) (by decide) eY_count_37 rfl ?_
          refine go_goto (pc := 40) 9 (by decide) eY_count_40 ?_
          exact ih (i + 1) (by omega)
        · have e9 : gcnt (fun i => pd (1 + i)) (i + 1) = gcnt (fun i => pd (1 + i)) i + 1 := gcnt_s (bI1 c26)
          refine go_iload_n (pc := 29) 2 1 rfl rfl eY_count_29 ?_
          refine go_iconst (pc := 30) (v := 1) (by decide) eY_count_30 ?_
          refine go_iadd (pc := 31) eY_count_31 ?_
          rw [nI_1, ← e9]
          refine go_goto (pc := 32) 36 (by decide) eY_count_32 ?_
          refine go_istore_n (pc := 36) (ls' := [(2, _), (3, _), (0, _), (1, _)]) 2 rfl (by decide) eY_count_36 rfl ?_
          refine go_iinc (pc := 37) (z := 1) (v := nI (1 + (i + 1))) (ls' := [(3, _), (2, _), (0, _), (1, _)]) 3 1 rfl (by rw [show 1 + (i + 1) = (1 + i) + 1 from by omega]; exact nI_1 (1 + i)) (by decide) eY_count_37 rfl ?_
          refine go_goto (pc := 40) 9 (by decide) eY_count_40 ?_
          exact ih (i + 1) (by omega)
set_option maxRecDepth 100000 in
set_option maxHeartbeats 1000000 in
theorem d_count3  : Ret (gg D cI cB cL bb L xs) mY_count n 0 0 [.ref hm, .int (nI 3)] (zW z0 z1 z2 z3 z4 z5 cI cB hm b1 b2 b3 b4 cd F sx pd th sm u rest) (some (.int (nI (gcnt (fun i => pd (1 + i)) 8)))) (zW z0 z1 z2 z3 z4 z5 cI cB hm b1 b2 b3 b4 0 F sx pd th sm u rest) := by
  intro Psi hf
  show Go _ _ _ _ _ 0 [(0, .ref hm), (1, .int (nI 3))] [] _ Psi
  refine go_aload_n (pc := 0) 0 0 rfl rfl eY_count_0 ?_
  refine go_iconst (pc := 1) (v := 0) (by decide) eY_count_1 ?_
  refine go_put (pc := 2) (ty := .int) (es' := (zW z0 z1 z2 z3 z4 z5 cI cB hm b1 b2 b3 b4 0 F sx pd th sm u rest)) hwY tyY tyY_ok nmY 6 rfl rfl 0 (by decide) lkY_27 rfl (by decide +kernel) rfl rfl (Nat.le_of_ble_eq_true rfl) eY_count_2 rfl ?_
  refine go_iconst (pc := 5) (v := 0) (by decide) eY_count_5 ?_
  refine go_istore_n (pc := 6) (ls' := [(2, _), (0, _), (1, _)]) 2 rfl (by decide) eY_count_6 rfl ?_
  refine go_iconst (pc := 7) (v := 1) (by decide) eY_count_7 ?_
  refine go_istore_n (pc := 8) (ls' := [(3, _), (2, _), (0, _), (1, _)]) 3 rfl (by decide) eY_count_8 rfl ?_
  exact k_cnt3 hf 8 0 (by omega)
set_option maxRecDepth 100000 in
set_option maxHeartbeats 1000000 in
theorem k_cnt4 (hsm : ∀ k, sm k < 2 ^ 30) {Psi : gR → va_W → Prop} (hf : Psi (.inl (some (.int (nI (ypg sm 6))))) (zW z0 z1 z2 z3 z4 z5 cI cB hm b1 b2 b3 b4 cd F sx pd th sm u rest)) : ∀ (m i : Nat), i + m = 6 → Go (gg D cI cB cL bb L xs) mY_count (n + 2) 0 0 45 [(3, .int (nI i)), (2, .int (nI (ypg sm i))), (0, .ref hm), (1, .int (nI 4))] [] (zW z0 z1 z2 z3 z4 z5 cI cB hm b1 b2 b3 b4 cd F sx pd th sm u rest) Psi := by
  intro m
  induction m with
  | zero =>
    intro i hi
    obtain rfl : i = 6 := by omega
    refine go_iload_n (pc := 45) 3 0 rfl rfl eY_count_45 ?_
    refine go_bipush (pc := 46) (v := 6) (by decide) eY_count_46 ?_
    refine go_icmp_ge (pc := 48) 70 (by decide) eY_count_48 (fun c48 => ?_) (fun c48 => ?_)
    · refine go_iload_n (pc := 70) 1 3 rfl rfl eY_count_70 ?_
      refine go_tin (pc := 71) (off := 48) 119 (by decide) (by decide) (by decide) (by decide) eY_count_71 ?_
      refine go_iload_n (pc := 119) 2 1 rfl rfl eY_count_119 ?_
      exact go_iret (pc := 120) rfl rfl eY_count_120 (hf)
    · exact absurd (show (6 : Int32) ≤ nI 6 by decide) c48
  | succ m ih =>
    intro i hi
    refine go_iload_n (pc := 45) 3 0 rfl rfl eY_count_45 ?_
    refine go_bipush (pc := 46) (v := 6) (by decide) eY_count_46 ?_
    refine go_icmp_ge (pc := 48) 70 (by decide) eY_count_48 (fun c48 => ?_) (fun c48 => ?_)
    · exact absurd c48 (nI_ge (b := 6) (by omega) (by omega))
    · refine go_iload_n (pc := 51) 1 3 rfl rfl eY_count_51 ?_
      refine go_iconst (pc := 52) (v := 4) (by decide) eY_count_52 ?_
      refine go_icmp_ne (pc := 53) 70 (by decide) eY_count_53 (fun c53 => ?_) (fun c53 => ?_)
      · exact absurd rfl c53
      · refine go_iload_n (pc := 56) 2 1 rfl rfl eY_count_56 ?_
        refine go_aload_n (pc := 57) 0 2 rfl rfl eY_count_57 ?_
        refine go_iload_n (pc := 58) 3 0 rfl rfl eY_count_58 ?_
        refine go_rV (pc := 59) 6 (d_pagesOf hsm i (by omega)) okY_pagesOf lmY_50 eY_count_59 rfl rfl rfl rfl rfl (Nat.le_of_ble_eq_true rfl) (Nat.le_of_ble_eq_true rfl) ?_
        refine go_iadd (pc := 62) eY_count_62 ?_
        rw [nI_add]
        refine go_istore_n (pc := 63) (ls' := [(2, _), (3, _), (0, _), (1, _)]) 2 rfl (by decide) eY_count_63 rfl ?_
        refine go_iinc (pc := 64) (z := 1) (v := nI (i + 1)) (ls' := [(3, _), (2, _), (0, _), (1, _)]) 3 1 rfl (nI_1 i) (by decide) eY_count_64 rfl ?_
        refine go_goto (pc := 67) 45 (by decide) eY_count_67 ?_
        exact ih (i + 1) (by omega)
set_option maxRecDepth 100000 in
set_option maxHeartbeats 1000000 in
theorem d_count4 (hsm : ∀ k, sm k < 2 ^ 30) : Ret (gg D cI cB cL bb L xs) mY_count (n + 2) 0 0 [.ref hm, .int (nI 4)] (zW z0 z1 z2 z3 z4 z5 cI cB hm b1 b2 b3 b4 cd F sx pd th sm u rest) (some (.int (nI (ypg sm 6)))) (zW z0 z1 z2 z3 z4 z5 cI cB hm b1 b2 b3 b4 0 F sx pd th sm u rest) := by
  intro Psi hf
  show Go _ _ _ _ _ 0 [(0, .ref hm), (1, .int (nI 4))] [] _ Psi
  refine go_aload_n (pc := 0) 0 0 rfl rfl eY_count_0 ?_
  refine go_iconst (pc := 1) (v := 0) (by decide) eY_count_1 ?_
  refine go_put (pc := 2) (ty := .int) (es' := (zW z0 z1 z2 z3 z4 z5 cI cB hm b1 b2 b3 b4 0 F sx pd th sm u rest)) hwY tyY tyY_ok nmY 6 rfl rfl 0 (by decide) lkY_27 rfl (by decide +kernel) rfl rfl (Nat.le_of_ble_eq_true rfl) eY_count_2 rfl ?_
  refine go_iconst (pc := 5) (v := 0) (by decide) eY_count_5 ?_
  refine go_istore_n (pc := 6) (ls' := [(2, _), (0, _), (1, _)]) 2 rfl (by decide) eY_count_6 rfl ?_
  refine go_iconst (pc := 7) (v := 1) (by decide) eY_count_7 ?_
  refine go_istore_n (pc := 8) (ls' := [(3, _), (2, _), (0, _), (1, _)]) 3 rfl (by decide) eY_count_8 rfl ?_
  refine go_iload_n (pc := 9) 3 0 rfl rfl eY_count_9 ?_
  refine go_bipush (pc := 10) (v := 8) (by decide) eY_count_10 ?_
  refine go_icmp_gt (pc := 12) 43 (by decide) eY_count_12 (fun c12 => ?_) (fun c12 => ?_)
  · exact absurd c12 (by decide)
  · refine go_iload_n (pc := 15) 1 3 rfl rfl eY_count_15 ?_
    refine go_iconst (pc := 16) (v := 3) (by decide) eY_count_16 ?_
    refine go_icmp_ne (pc := 17) 43 (by decide) eY_count_17 (fun c17 => ?_) (fun c17 => ?_)
    · refine go_iconst (pc := 43) (v := 0) (by decide) eY_count_43 ?_
      refine go_istore_n (pc := 44) (ls' := [(3, _), (2, _), (0, _), (1, _)]) 3 rfl (by decide) eY_count_44 rfl ?_
      exact k_cnt4 hsm hf 6 0 (by omega)
    · exact absurd c17 (by decide)
set_option maxRecDepth 100000 in
set_option maxHeartbeats 1000000 in
theorem d_count5 (x : Int32) (hx : ∀ j, j < 5 → x ≠ nI j) : Ret (gg D cI cB cL bb L xs) mY_count n 0 0 [.ref hm, .int (x)] (zW z0 z1 z2 z3 z4 z5 cI cB hm b1 b2 b3 b4 cd F sx pd th sm u rest) (some (.int (-1))) (zW z0 z1 z2 z3 z4 z5 cI cB hm b1 b2 b3 b4 0 F sx pd th sm u rest) := by
  intro Psi hf
  show Go _ _ _ _ _ 0 [(0, .ref hm), (1, .int (x))] [] _ Psi
  refine go_aload_n (pc := 0) 0 0 rfl rfl eY_count_0 ?_
  refine go_iconst (pc := 1) (v := 0) (by decide) eY_count_1 ?_
  refine go_put (pc := 2) (ty := .int) (es' := (zW z0 z1 z2 z3 z4 z5 cI cB hm b1 b2 b3 b4 0 F sx pd th sm u rest)) hwY tyY tyY_ok nmY 6 rfl rfl 0 (by decide) lkY_27 rfl (by decide +kernel) rfl rfl (Nat.le_of_ble_eq_true rfl) eY_count_2 rfl ?_
  refine go_iconst (pc := 5) (v := 0) (by decide) eY_count_5 ?_
  refine go_istore_n (pc := 6) (ls' := [(2, _), (0, _), (1, _)]) 2 rfl (by decide) eY_count_6 rfl ?_
  refine go_iconst (pc := 7) (v := 1) (by decide) eY_count_7 ?_
  refine go_istore_n (pc := 8) (ls' := [(3, _), (2, _), (0, _), (1, _)]) 3 rfl (by decide) eY_count_8 rfl ?_
  refine go_iload_n (pc := 9) 3 0 rfl rfl eY_count_9 ?_
  refine go_bipush (pc := 10) (v := 8) (by decide) eY_count_10 ?_
  refine go_icmp_gt (pc := 12) 43 (by decide) eY_count_12 (fun c12 => ?_) (fun c12 => ?_)
  · exact absurd c12 (by decide)
  · refine go_iload_n (pc := 15) 1 3 rfl rfl eY_count_15 ?_
    refine go_iconst (pc := 16) (v := 3) (by decide) eY_count_16 ?_
    refine go_icmp_ne (pc := 17) 43 (by decide) eY_count_17 (fun c17 => ?_) (fun c17 => ?_)
    · refine go_iconst (pc := 43) (v := 0) (by decide) eY_count_43 ?_
      refine go_istore_n (pc := 44) (ls' := [(3, _), (2, _), (0, _), (1, _)]) 3 rfl (by decide) eY_count_44 rfl ?_
      refine go_iload_n (pc := 45) 3 0 rfl rfl eY_count_45 ?_
      refine go_bipush (pc := 46) (v := 6) (by decide) eY_count_46 ?_
      refine go_icmp_ge (pc := 48) 70 (by decide) eY_count_48 (fun c48 => ?_) (fun c48 => ?_)
      · exact absurd c48 (by decide)
      · refine go_iload_n (pc := 51) 1 3 rfl rfl eY_count_51 ?_
        refine go_iconst (pc := 52) (v := 4) (by decide) eY_count_52 ?_
        refine go_icmp_ne (pc := 53) 70 (by decide) eY_count_53 (fun c53 => ?_) (fun c53 => ?_)
        · refine go_iload_n (pc := 70) 1 3 rfl rfl eY_count_70 ?_
          refine go_tout (pc := 71) 121 (tsw_out hx) (by decide) eY_count_71 ?_
          refine go_iconst (pc := 121) (v := (-1)) (by decide) eY_count_121 ?_
          exact go_iret (pc := 122) rfl rfl eY_count_122 (hf)
        · exact absurd c53 (hx 4 (by omega))
    · exact absurd c17 (hx 3 (by omega))
set_option maxRecDepth 100000 in
set_option maxHeartbeats 1000000 in
theorem k_af {f : Nat → Int32} (v : Int32) {Psi : gR → va_W → Prop} (hf : Psi (.inl none) (z0 :: z1 :: z2 :: (a3, .inl (cI, 432, .inl (va_cpy (fun _ => v) f 0 0 432))) :: rest)) : ∀ (m i : Nat), i + m = 432 → Go (gg D cI cB cL bb L xs) mJ_fill n 0 0 5 [(3, .int (nI 432)), (2, .int (nI i)), (0, .ref a3), (1, .int v)] [] (z0 :: z1 :: z2 :: (a3, .inl (cI, 432, .inl (va_cpy (fun _ => v) f 0 0 i))) :: rest) Psi := by
  intro m
  induction m with
  | zero =>
    intro i hi
    obtain rfl : i = 432 := by omega
    refine go_iload_n (pc := 5) 2 1 rfl rfl eJ_fill_5 ?_
    refine go_iload_n (pc := 6) 3 0 rfl rfl eJ_fill_6 ?_
    refine go_icmp_ge (pc := 7) 20 (by decide) eJ_fill_7 (fun c7 => ?_) (fun c7 => ?_)
    · exact go_vret (pc := 20) rfl eJ_fill_20 (hf)
    · exact absurd (nI_le (Nat.le_refl 432) (by omega)) c7
  | succ m ih =>
    intro i hi
    refine go_iload_n (pc := 5) 2 1 rfl rfl eJ_fill_5 ?_
    refine go_iload_n (pc := 6) 3 0 rfl rfl eJ_fill_6 ?_
    refine go_icmp_ge (pc := 7) 20 (by decide) eJ_fill_7 (fun c7 => ?_) (fun c7 => ?_)
    · exact absurd c7 (nI_ge (by omega) (by omega))
    · refine go_aload_n (pc := 10) 0 2 rfl rfl eJ_fill_10 ?_
      refine go_iload_n (pc := 11) 2 1 rfl rfl eJ_fill_11 ?_
      refine go_iload_n (pc := 12) 1 3 rfl rfl eJ_fill_12 ?_
      refine go_iastN (pc := 13) (es' := (z0 :: z1 :: z2 :: (a3, .inl (cI, 432, .inl (va_cpy (fun _ => v) f 0 0 (i + 1)))) :: rest)) 3 0 i eJ_fill_13 rfl rfl rfl (by omega) (by omega) (by rw [← cpy_up (f := fun _ => v) (d := 0), show 0 + i = i from by omega]; rfl) ?_
      refine go_iinc (pc := 14) (z := 1) (v := nI (i + 1)) (ls' := [(2, _), (3, _), (0, _), (1, _)]) 2 1 rfl (nI_1 i) (by decide) eJ_fill_14 rfl ?_
      refine go_goto (pc := 17) 5 (by decide) eJ_fill_17 ?_
      refine go_ls [1, 0, 2, 3] rfl ?_
      exact ih (i + 1) (by omega)
set_option maxRecDepth 100000 in
set_option maxHeartbeats 1000000 in
theorem c_af {f : Nat → Int32} (v : Int32) : Ret (gg D cI cB cL bb L xs) mJ_fill n 0 0 [.ref a3, .int v] (z0 :: z1 :: z2 :: (a3, .inl (cI, 432, .inl f)) :: rest) none (z0 :: z1 :: z2 :: (a3, .inl (cI, 432, .inl (va_cpy (fun _ => v) f 0 0 432))) :: rest) := by
  intro Psi hf
  show Go _ _ _ _ _ 0 [(0, .ref a3), (1, .int v)] [] _ Psi
  refine go_iconst (pc := 0) (v := 0) (by decide) eJ_fill_0 ?_
  refine go_istore_n (pc := 1) (ls' := [(2, _), (0, _), (1, _)]) 2 rfl (by decide) eJ_fill_1 rfl ?_
  refine go_aload_n (pc := 2) 0 1 rfl rfl eJ_fill_2 ?_
  refine go_alen (pc := 3) 3 0 eJ_fill_3 rfl rfl (v := nI 432) rfl ?_
  refine go_istore_n (pc := 4) (ls' := [(3, _), (2, _), (0, _), (1, _)]) 3 rfl (by decide) eJ_fill_4 rfl ?_
  refine go_es (es' := (z0 :: z1 :: z2 :: (a3, .inl (cI, 432, .inl (va_cpy (fun _ => v) f 0 0 0))) :: rest)) (by rw [cpy_0]) ?_
  exact k_af v hf 432 0 (by omega)
/-- both keep the same number of frames -/
theorem clampF (x : Int32) : ∃ F : Nat, 1 ≤ F ∧ F ≤ 60 ∧ (if (1 : Int32) < (if x < 60 then x else 60) then (if x < 60 then x else 60) else 1) = nI F ∧ ((x < 1 ∧ F = 1) ∨ (¬ x < 1 ∧ 60 < x ∧ F = 60) ∨ (¬ x < 1 ∧ ¬ 60 < x ∧ x = nI F)) := by
  rcases pk_ix x (n := 61) (by omega) with q | q | ⟨j, hj, q⟩
  · have h1 : x < 60 := Int32.lt_trans q (by decide)
    have h2 : ¬ (1 : Int32) < x := fun z => absurd (Int32.lt_trans q (by decide : (0 : Int32) < 1)) (Int32.lt_asymm z)
    exact ⟨1, by omega, by omega, by rw [if_pos h1, if_neg h2]; rfl, Or.inl ⟨Int32.lt_trans q (by decide), rfl⟩⟩
  · have h0 : (60 : Int32) < x := Int32.lt_of_lt_of_le (by decide : (60 : Int32) < nI 61) q
    have h1 : ¬ x < 60 := Int32.lt_asymm h0
    exact ⟨60, by omega, by omega, by rw [if_neg h1, if_pos (by decide)]; rfl, Or.inr (Or.inl ⟨fun z => h1 (Int32.lt_trans z (by decide)), h0, rfl⟩)⟩
  · subst q
    by_cases h1 : j = 0
    · subst h1
      exact ⟨1, by omega, by omega, by decide, Or.inl ⟨by decide, rfl⟩⟩
    · have e1 : ¬ nI j < 1 := fun z => by have := (nI_ltI (b := 1) (by omega) (by omega)).mp z; omega
      by_cases h2 : j = 60
      · subst h2
        exact ⟨60, by omega, by omega, by decide, Or.inr (Or.inr ⟨e1, by decide, rfl⟩)⟩
      · have h3 : nI j < 60 := (nI_ltI (b := 60) (by omega) (by omega)).mpr (by omega)
        have h4 : ¬ (60 : Int32) < nI j := Int32.lt_asymm h3
        refine ⟨j, by omega, by omega, ?_, Or.inr (Or.inr ⟨e1, h4, rfl⟩)⟩
        rw [if_pos h3]
        by_cases h5 : j = 1
        · subst h5; decide
        · rw [if_pos (show (1 : Int32) < nI j from (nI_ltI (a := 1) (b := j) (by omega) (by omega)).mpr (by omega))]
theorem hcnt_none (j : Nat) : hcnt (fun _ => none) j = 0 := gcnt_zero (fun k _ => rfl)
set_option maxRecDepth 100000 in
set_option maxHeartbeats 1000000 in
theorem c_init (x : Int32) (h1 : 1 ≤ F) (hF : F ≤ 60) (hx : (if (1 : Int32) < (if x < 60 then x else 60) then (if x < 60 then x else 60) else 1) = nI F) {Psi : gR → va_W → Prop} (hf : ∀ q1 q2 q3 q4 q5 : Nat, Psi (.inl none) (xW cI cB h q1 q2 q3 q4 q5 F (fun _ => 0) (fun _ => none) (fun _ => false) (fun _ => false) [])) : Go (gg D cI cB cL bb L xs) mX_init (n + 1) 5 1514 0 [(0, .ref h), (1, .int x)] [] [(h, .inr (0, [.int 0, .null, .null, .null, .null, .null]))] Psi := by
  refine go_aload_n (pc := 0) 0 0 rfl rfl eX_init_0 ?_
  refine go_obj (pc := 1) lmX_3 ob_in ob_co (Nat.le_of_ble_eq_true rfl) eX_init_1 ?_
  refine go_aload_n (pc := 4) 0 0 rfl rfl eX_init_4 ?_
  refine go_iconst (pc := 5) (v := 1) (by decide) eX_init_5 ?_
  refine go_bipush (pc := 6) (v := 60) (by decide) eX_init_6 ?_
  refine go_iload_n (pc := 8) 1 1 rfl rfl eX_init_8 ?_
  refine go_min (pc := 9) lmX_9 mmin_s ma_in mmin_c (Nat.le_of_ble_eq_true rfl) eX_init_9 ?_
  refine go_max (pc := 12) lmX_15 mmax_s ma_in mmax_c (Nat.le_of_ble_eq_true rfl) eX_init_12 ?_
  rw [hx]
  refine go_putF (pc := 15) (ty := .int) (es' := [(h, .inr (0, [.int (nI F), .null, .null, .null, .null, .null]))]) hwX tyX tyX_ok nmX 0 rfl rfl 0 (by decide) lkX_18 rfl rfl rfl (by decide +kernel) rfl rfl (Nat.le_of_ble_eq_true rfl) eX_init_15 rfl ?_
  refine go_aload_n (pc := 18) 0 0 rfl rfl eX_init_18 ?_
  refine go_aload_n (pc := 19) 0 0 rfl rfl eX_init_19 ?_
  refine go_get (pc := 20) hwX 0 rfl rfl 0 (by decide) lkX_18 rfl eX_init_20 ?_
  refine go_bipush (pc := 23) (v := 16) (by decide) eX_init_23 ?_
  refine go_imul (pc := 25) eX_init_25 ?_
  rw [show nI F * 16 = nI (F * 16) from by rw [show (16 : Int32) = nI 16 from rfl, pk_mul]]
  refine go_newa (pc := 26) (mc' := 4) (ms' := 554) (N := F * 16) (F * 16, .inl (fun _ => 0)) 0 rfl rfl ar_int (fun _ => rfl) (nI_pos (by omega)) (nI_clamp (by omega)) (by show F * 16 * _ ≤ _; simp only [componentBytes]; omega) (by omega) (by omega) eX_init_26 (fun q1 => ?_)
  refine go_putF (pc := 28) (ty := .array .int) (es' := [(h, .inr (0, [.int (nI F), .ref q1, .null, .null, .null, .null])), (q1, .inl (cI, F * 16, .inl (fun _ => 0)))]) hwX tyX tyX_ok nmX 0 rfl rfl 1 (by decide) lkX_22 rfl rfl rfl (by decide +kernel) rfl rfl (Nat.le_of_ble_eq_true rfl) eX_init_28 rfl ?_
  refine go_aload_n (pc := 31) 0 0 rfl rfl eX_init_31 ?_
  refine go_aload_n (pc := 32) 0 0 rfl rfl eX_init_32 ?_
  refine go_get (pc := 33) hwX 0 rfl rfl 0 (by decide) lkX_18 rfl eX_init_33 ?_
  refine go_newa (pc := 36) (mc' := 3) (ms' := 494) (N := F) (F, .inl (fun _ => 0)) 0 rfl rfl ar_int (fun _ => rfl) (nI_pos (by omega)) (nI_clamp (by omega)) (by show F * _ ≤ _; simp only [componentBytes]; omega) (by omega) (by omega) eX_init_36 (fun q2 => ?_)
  refine go_putF (pc := 38) (ty := .array .int) (es' := [(h, .inr (0, [.int (nI F), .ref q1, .ref q2, .null, .null, .null])), (q1, .inl (cI, F * 16, .inl (fun _ => 0))), (q2, .inl (cI, F, .inl (fun _ => 0)))]) hwX tyX tyX_ok nmX 0 rfl rfl 2 (by decide) lkX_26 rfl rfl rfl (by decide +kernel) rfl rfl (Nat.le_of_ble_eq_true rfl) eX_init_38 rfl ?_
  refine go_aload_n (pc := 41) 0 0 rfl rfl eX_init_41 ?_
  refine go_sipush (pc := 42) (v := 432) (by decide) eX_init_42 ?_
  refine go_newa (pc := 45) (mc' := 2) (ms' := 62) (N := 432) (432, .inl (fun _ => 0)) 0 rfl rfl ar_int (fun _ => rfl) (by decide) (by decide) (by show 432 * _ ≤ _; simp only [componentBytes]; omega) (by omega) (by omega) eX_init_45 (fun q3 => ?_)
  refine go_putF (pc := 47) (ty := .array .int) (es' := [(h, .inr (0, [.int (nI F), .ref q1, .ref q2, .ref q3, .null, .null])), (q1, .inl (cI, F * 16, .inl (fun _ => 0))), (q2, .inl (cI, F, .inl (fun _ => 0))), (q3, .inl (cI, 432, .inl (fun _ => 0)))]) hwX tyX tyX_ok nmX 0 rfl rfl 3 (by decide) lkX_29 rfl rfl rfl (by decide +kernel) rfl rfl (Nat.le_of_ble_eq_true rfl) eX_init_47 rfl ?_
  refine go_aload_n (pc := 50) 0 0 rfl rfl eX_init_50 ?_
  refine go_get (pc := 51) hwX 0 rfl rfl 3 (by decide) lkX_29 rfl eX_init_51 ?_
  refine go_iconst (pc := 54) (v := (-1)) (by decide) eX_init_54 ?_
  refine go_rS0 (pc := 55) (c_af (-1)) okJ_fill lmX_32 eX_init_55 rfl rfl (Nat.le_of_ble_eq_true rfl) (Nat.le_of_ble_eq_true rfl) ?_
  refine go_less (mc' := 2) (ms' := 62) (by omega) (by omega) ?_
  refine go_aload_n (pc := 58) 0 0 rfl rfl eX_init_58 ?_
  refine go_bipush (pc := 59) (v := 54) (by decide) eX_init_59 ?_
  refine go_newa (pc := 61) (mc' := 1) (ms' := 8) (N := 54) (54, .inl (fun _ => 0)) 1 rfl rfl ar_boolean (fun _ => rfl) (by decide) (by decide) (by show 54 * _ ≤ _; simp only [componentBytes]; omega) (by omega) (by omega) eX_init_61 (fun q4 => ?_)
  refine go_putF (pc := 63) (ty := .array .boolean) (es' := [(h, .inr (0, [.int (nI F), .ref q1, .ref q2, .ref q3, .ref q4, .null])), (q1, .inl (cI, F * 16, .inl (fun _ => 0))), (q2, .inl (cI, F, .inl (fun _ => 0))), (q3, .inl (cI, 432, .inl (va_cpy (fun _ => -1) (fun _ => 0) 0 0 432))), (q4, .inl (cB, 54, .inl (fun _ => 0)))]) hwX tyX tyX_ok nmX 0 rfl rfl 4 (by decide) lkX_38 rfl rfl rfl (by decide +kernel) rfl rfl (Nat.le_of_ble_eq_true rfl) eX_init_63 rfl ?_
  refine go_aload_n (pc := 66) 0 0 rfl rfl eX_init_66 ?_
  refine go_bipush (pc := 67) (v := 8) (by decide) eX_init_67 ?_
  refine go_newa (pc := 69) (mc' := 0) (ms' := 0) (N := 8) (8, .inl (fun _ => 0)) 1 rfl rfl ar_boolean (fun _ => rfl) (by decide) (by decide) (by show 8 * _ ≤ _; simp only [componentBytes]; omega) (by omega) (by omega) eX_init_69 (fun q5 => ?_)
  refine go_putF (pc := 71) (ty := .array .boolean) (es' := [(h, .inr (0, [.int (nI F), .ref q1, .ref q2, .ref q3, .ref q4, .ref q5])), (q1, .inl (cI, F * 16, .inl (fun _ => 0))), (q2, .inl (cI, F, .inl (fun _ => 0))), (q3, .inl (cI, 432, .inl (va_cpy (fun _ => -1) (fun _ => 0) 0 0 432))), (q4, .inl (cB, 54, .inl (fun _ => 0))), (q5, .inl (cB, 8, .inl (fun _ => 0)))]) hwX tyX tyX_ok nmX 0 rfl rfl 5 (by decide) lkX_42 rfl rfl rfl (by decide +kernel) rfl rfl (Nat.le_of_ble_eq_true rfl) eX_init_71 rfl ?_
  refine go_ext (f' := fun k => oI ((fun _ => none : Nat → Option Nat) k)) 3 rfl (fun j hj => by simp only [va_cpy]; rw [if_pos (by omega)]; rfl) rfl ?_
  refine go_ext (f' := fun j => nI (hcnt (fun _ => none) j)) 2 rfl (fun j hj => by rw [hcnt_none]; rfl) rfl ?_
  exact go_vret (pc := 74) rfl eX_init_74 (hf q1 q2 q3 q4 q5)
set_option maxRecDepth 100000 in
set_option maxHeartbeats 1000000 in
theorem d_init (x : Int32) (h1 : 1 ≤ F) (hF : F ≤ 60) (hx : (x < 1 ∧ F = 1) ∨ (¬ x < 1 ∧ 60 < x ∧ F = 60) ∨ (¬ x < 1 ∧ ¬ 60 < x ∧ x = nI F)) {Psi : gR → va_W → Prop} (hf : ∀ q1 q2 q3 q4 : Nat, Psi (.inl none) (zW z0 z1 z2 z3 z4 z5 cI cB hm q1 q2 q3 q4 0 F 0 (va_up (fun _ => false) 0 true) (fun _ => false) (fun _ => 0) (fun _ => 0) [])) : Go (gg D cI cB cL bb L xs) mY_init (n + 1) 4 7407 0 [(0, .ref hm), (1, .int x)] [] (z0 :: z1 :: z2 :: z3 :: z4 :: z5 :: [(hm, .inr (1, [.int 0, .int 0, .int 0, .null, .null, .null, .null]))]) Psi := by
  refine go_aload_n (pc := 0) 0 0 rfl rfl eY_init_0 ?_
  refine go_obj (pc := 1) lmY_1 ob_in ob_co (Nat.le_of_ble_eq_true rfl) eY_init_1 ?_
  refine go_aload_n (pc := 4) 0 0 rfl rfl eY_init_4 ?_
  refine go_bipush (pc := 5) (v := 9) (by decide) eY_init_5 ?_
  refine go_newa (pc := 7) (mc' := 3) (ms' := 7398) (N := 9) (9, .inl (fun _ => 0)) 1 rfl rfl ar_boolean (fun _ => rfl) (by decide) (by decide) (by show 9 * _ ≤ _; simp only [componentBytes]; omega) (by omega) (by omega) eY_init_7 (fun q1 => ?_)
  refine go_putF (pc := 9) (ty := .array .boolean) (es' := (z0 :: z1 :: z2 :: z3 :: z4 :: z5 :: [(hm, .inr (1, [.int 0, .int 0, .int 0, .ref q1, .null, .null, .null])), (q1, .inl (cB, 9, .inl (fun _ => 0)))])) hwY tyY tyY_ok nmY 6 rfl rfl 3 (by decide) lkY_7 rfl rfl rfl (by decide +kernel) rfl rfl (Nat.le_of_ble_eq_true rfl) eY_init_9 rfl ?_
  refine go_aload_n (pc := 12) 0 0 rfl rfl eY_init_12 ?_
  refine go_bipush (pc := 13) (v := 54) (by decide) eY_init_13 ?_
  refine go_newa (pc := 15) (mc' := 2) (ms' := 7344) (N := 54) (54, .inl (fun _ => 0)) 1 rfl rfl ar_boolean (fun _ => rfl) (by decide) (by decide) (by show 54 * _ ≤ _; simp only [componentBytes]; omega) (by omega) (by omega) eY_init_15 (fun q2 => ?_)
  refine go_putF (pc := 17) (ty := .array .boolean) (es' := (z0 :: z1 :: z2 :: z3 :: z4 :: z5 :: [(hm, .inr (1, [.int 0, .int 0, .int 0, .ref q1, .ref q2, .null, .null])), (q1, .inl (cB, 9, .inl (fun _ => 0))), (q2, .inl (cB, 54, .inl (fun _ => 0)))])) hwY tyY tyY_ok nmY 6 rfl rfl 4 (by decide) lkY_13 rfl rfl rfl (by decide +kernel) rfl rfl (Nat.le_of_ble_eq_true rfl) eY_init_17 rfl ?_
  refine go_aload_n (pc := 20) 0 0 rfl rfl eY_init_20 ?_
  refine go_sipush (pc := 21) (v := 432) (by decide) eY_init_21 ?_
  refine go_newa (pc := 24) (mc' := 1) (ms' := 6912) (N := 432) (432, .inl (fun _ => 0)) 0 rfl rfl ar_int (fun _ => rfl) (by decide) (by decide) (by show 432 * _ ≤ _; simp only [componentBytes]; omega) (by omega) (by omega) eY_init_24 (fun q3 => ?_)
  refine go_putF (pc := 26) (ty := .array .int) (es' := (z0 :: z1 :: z2 :: z3 :: z4 :: z5 :: [(hm, .inr (1, [.int 0, .int 0, .int 0, .ref q1, .ref q2, .ref q3, .null])), (q1, .inl (cB, 9, .inl (fun _ => 0))), (q2, .inl (cB, 54, .inl (fun _ => 0))), (q3, .inl (cI, 432, .inl (fun _ => 0)))])) hwY tyY tyY_ok nmY 6 rfl rfl 5 (by decide) lkY_16 rfl rfl rfl (by decide +kernel) rfl rfl (Nat.le_of_ble_eq_true rfl) eY_init_26 rfl ?_
  refine go_aload_n (pc := 29) 0 0 rfl rfl eY_init_29 ?_
  refine go_sipush (pc := 30) (v := 6912) (by decide) eY_init_30 ?_
  refine go_newa (pc := 33) (mc' := 0) (ms' := 0) (N := 6912) (6912, .inl (fun _ => 0)) 0 rfl rfl ar_int (fun _ => rfl) (by decide) (by decide) (by show 6912 * _ ≤ _; simp only [componentBytes]; omega) (by omega) (by omega) eY_init_33 (fun q4 => ?_)
  refine go_putF (pc := 35) (ty := .array .int) (es' := (z0 :: z1 :: z2 :: z3 :: z4 :: z5 :: [(hm, .inr (1, [.int 0, .int 0, .int 0, .ref q1, .ref q2, .ref q3, .ref q4])), (q1, .inl (cB, 9, .inl (fun _ => 0))), (q2, .inl (cB, 54, .inl (fun _ => 0))), (q3, .inl (cI, 432, .inl (fun _ => 0))), (q4, .inl (cI, 6912, .inl (fun _ => 0)))])) hwY tyY tyY_ok nmY 6 rfl rfl 6 (by decide) lkY_20 rfl rfl rfl (by decide +kernel) rfl rfl (Nat.le_of_ble_eq_true rfl) eY_init_35 rfl ?_
  refine go_aload_n (pc := 38) 0 0 rfl rfl eY_init_38 ?_
  refine go_iload_n (pc := 39) 1 1 rfl rfl eY_init_39 ?_
  refine go_iconst (pc := 40) (v := 1) (by decide) eY_init_40 ?_
  refine go_icmp_ge (pc := 41) 48 (by decide) eY_init_41 (fun c41 => ?_) (fun c41 => ?_)
  · refine go_iload_n (pc := 48) 1 1 rfl rfl eY_init_48 ?_
    refine go_bipush (pc := 49) (v := 60) (by decide) eY_init_49 ?_
    refine go_icmp_le (pc := 51) 59 (by decide) eY_init_51 (fun c51 => ?_) (fun c51 => ?_)
    · refine go_iload_n (pc := 59) 1 1 rfl rfl eY_init_59 ?_
      rw [show x = nI F from by rcases hx with ⟨q, -⟩ | ⟨-, q, -⟩ | ⟨-, -, q⟩; exact absurd q (Int32.not_lt.mpr c41); exact absurd q (Int32.not_lt.mpr c51); exact q]
      refine go_putF (pc := 60) (ty := .int) (es' := (z0 :: z1 :: z2 :: z3 :: z4 :: z5 :: [(hm, .inr (1, [.int 0, .int (nI F), .int 0, .ref q1, .ref q2, .ref q3, .ref q4])), (q1, .inl (cB, 9, .inl (fun _ => 0))), (q2, .inl (cB, 54, .inl (fun _ => 0))), (q3, .inl (cI, 432, .inl (fun _ => 0))), (q4, .inl (cI, 6912, .inl (fun _ => 0)))])) hwY tyY tyY_ok nmY 6 rfl rfl 1 (by decide) lkY_23 rfl rfl rfl (by decide +kernel) rfl rfl (Nat.le_of_ble_eq_true rfl) eY_init_60 rfl ?_
      refine go_aload_n (pc := 63) 0 0 rfl rfl eY_init_63 ?_
      refine go_get (pc := 64) hwY 6 rfl rfl 3 (by decide) lkY_7 rfl eY_init_64 ?_
      refine go_iconst (pc := 67) (v := 0) (by decide) eY_init_67 ?_
      refine go_iconst (pc := 68) (v := 1) (by decide) eY_init_68 ?_
      refine go_zastN (pc := 69) (es' := zW z0 z1 z2 z3 z4 z5 cI cB hm q1 q2 q3 q4 0 F 0 (va_up (fun _ => false) 0 true) (fun _ => false) (fun _ => 0) (fun _ => 0) []) 7 1 0 eY_init_69 rfl rfl rfl (by omega) (by omega) (ys7 (upd_b (sp := fun _ => false) (b := true) rfl)) ?_
      exact go_vret (pc := 70) rfl eY_init_70 (hf q1 q2 q3 q4)
    · refine go_bipush (pc := 54) (v := 60) (by decide) eY_init_54 ?_
      refine go_goto (pc := 56) 60 (by decide) eY_init_56 ?_
      rw [show (60 : Int32) = nI F from by rcases hx with ⟨q, -⟩ | ⟨-, -, q⟩ | ⟨-, q, -⟩; exact absurd q (Int32.not_lt.mpr c41); rw [q]; rfl; exact absurd (Int32.not_le.mp c51) q]
      refine go_putF (pc := 60) (ty := .int) (es' := (z0 :: z1 :: z2 :: z3 :: z4 :: z5 :: [(hm, .inr (1, [.int 0, .int (nI F), .int 0, .ref q1, .ref q2, .ref q3, .ref q4])), (q1, .inl (cB, 9, .inl (fun _ => 0))), (q2, .inl (cB, 54, .inl (fun _ => 0))), (q3, .inl (cI, 432, .inl (fun _ => 0))), (q4, .inl (cI, 6912, .inl (fun _ => 0)))])) hwY tyY tyY_ok nmY 6 rfl rfl 1 (by decide) lkY_23 rfl rfl rfl (by decide +kernel) rfl rfl (Nat.le_of_ble_eq_true rfl) eY_init_60 rfl ?_
      refine go_aload_n (pc := 63) 0 0 rfl rfl eY_init_63 ?_
      refine go_get (pc := 64) hwY 6 rfl rfl 3 (by decide) lkY_7 rfl eY_init_64 ?_
      refine go_iconst (pc := 67) (v := 0) (by decide) eY_init_67 ?_
      refine go_iconst (pc := 68) (v := 1) (by decide) eY_init_68 ?_
      refine go_zastN (pc := 69) (es' := zW z0 z1 z2 z3 z4 z5 cI cB hm q1 q2 q3 q4 0 F 0 (va_up (fun _ => false) 0 true) (fun _ => false) (fun _ => 0) (fun _ => 0) []) 7 1 0 eY_init_69 rfl rfl rfl (by omega) (by omega) (ys7 (upd_b (sp := fun _ => false) (b := true) rfl)) ?_
      exact go_vret (pc := 70) rfl eY_init_70 (hf q1 q2 q3 q4)
  · refine go_iconst (pc := 44) (v := 1) (by decide) eY_init_44 ?_
    refine go_goto (pc := 45) 60 (by decide) eY_init_45 ?_
    rw [show (1 : Int32) = nI F from by rcases hx with ⟨-, q⟩ | ⟨q, -⟩ | ⟨q, -⟩; rw [q]; rfl; exact absurd (Int32.not_le.mp c41) q; exact absurd (Int32.not_le.mp c41) q]
    refine go_putF (pc := 60) (ty := .int) (es' := (z0 :: z1 :: z2 :: z3 :: z4 :: z5 :: [(hm, .inr (1, [.int 0, .int (nI F), .int 0, .ref q1, .ref q2, .ref q3, .ref q4])), (q1, .inl (cB, 9, .inl (fun _ => 0))), (q2, .inl (cB, 54, .inl (fun _ => 0))), (q3, .inl (cI, 432, .inl (fun _ => 0))), (q4, .inl (cI, 6912, .inl (fun _ => 0)))])) hwY tyY tyY_ok nmY 6 rfl rfl 1 (by decide) lkY_23 rfl rfl rfl (by decide +kernel) rfl rfl (Nat.le_of_ble_eq_true rfl) eY_init_60 rfl ?_
    refine go_aload_n (pc := 63) 0 0 rfl rfl eY_init_63 ?_
    refine go_get (pc := 64) hwY 6 rfl rfl 3 (by decide) lkY_7 rfl eY_init_64 ?_
    refine go_iconst (pc := 67) (v := 0) (by decide) eY_init_67 ?_
    refine go_iconst (pc := 68) (v := 1) (by decide) eY_init_68 ?_
    refine go_zastN (pc := 69) (es' := zW z0 z1 z2 z3 z4 z5 cI cB hm q1 q2 q3 q4 0 F 0 (va_up (fun _ => false) 0 true) (fun _ => false) (fun _ => 0) (fun _ => 0) []) 7 1 0 eY_init_69 rfl rfl rfl (by omega) (by omega) (ys7 (upd_b (sp := fun _ => false) (b := true) rfl)) ?_
    exact go_vret (pc := 70) rfl eY_init_70 (hf q1 q2 q3 q4)
end S14
end
