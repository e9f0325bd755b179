abbrev gR : Type := Option Value ⊕ String
abbrev gM : Type := MethodName × ByteArray × Nat × Option FieldType × List (Nat × Nat × Nat × Nat)
def TX : u_T := fun k => match k with
  | 0 => ("FrameSharer", "frameTotal", "I", true)
  | 1 => ("FrameSharer", "cells", "[I", true)
  | 2 => ("FrameSharer", "holdersOfFrame", "[I", true)
  | 3 => ("FrameSharer", "frameOfHolder", "[I", true)
  | 4 => ("FrameSharer", "spaceInRow", "[Z", true)
  | _ => ("FrameSharer", "pictureThere", "[Z", true)
def tyX : Nat → FieldType := fun k => match k with
  | 0 => .int
  | 1 => .array .int
  | 2 => .array .int
  | 3 => .array .int
  | 4 => .array .boolean
  | _ => .array .boolean
theorem nmX : ∀ a, a < 6 → ∀ b, b < 6 → a ≠ b → (TX a).2.1 ≠ (TX b).2.1 := by decide +kernel
theorem tyX_ok : ∀ k, k < 6 → parseFieldDescriptor (TX k).2.2.1 = some (tyX k) := by decide +kernel
def TY : u_T := fun k => match k with
  | 0 => ("FrameSharerModel", "code", "I", false)
  | 1 => ("FrameSharerModel", "frames", "I", true)
  | 2 => ("FrameSharerModel", "stamps", "I", false)
  | 3 => ("FrameSharerModel", "pictured", "[Z", true)
  | 4 => ("FrameSharerModel", "there", "[Z", true)
  | 5 => ("FrameSharerModel", "stamp", "[I", true)
  | _ => ("FrameSharerModel", "cells", "[I", true)
def tyY : Nat → FieldType := fun k => match k with
  | 0 => .int
  | 1 => .int
  | 2 => .int
  | 3 => .array .boolean
  | 4 => .array .boolean
  | 5 => .array .int
  | _ => .array .int
theorem nmY : ∀ a, a < 7 → ∀ b, b < 7 → a ≠ b → (TY a).2.1 ≠ (TY b).2.1 := by decide +kernel
theorem tyY_ok : ∀ k, k < 7 → parseFieldDescriptor (TY k).2.2.1 = some (tyY k) := by decide +kernel
abbrev vwCl : List vw_C := [("FrameSharer", TX, 6), ("FrameSharerModel", TY, 7)]
def gStr : List (String × Nat × String) := [("FrameSharer", 129, "this space is not there"), ("FrameSharer", 136, "a page is 0 to 7"), ("FrameSharer", 147, "all frames are in use"), ("FrameSharer", 141, "an address is 0 to 127"), ("FrameSharer", 143, "this page is absent"), ("FrameSharer", 139, "this picture is not there")]
def gNc : List (String × String) := [("java/lang/IllegalStateException", "java/lang/IndexOutOfBoundsException"), ("java/lang/IllegalStateException", "java/util/NoSuchElementException"), ("java/lang/IndexOutOfBoundsException", "java/lang/IllegalStateException"), ("java/lang/IndexOutOfBoundsException", "java/util/NoSuchElementException"), ("java/util/NoSuchElementException", "java/lang/IllegalStateException"), ("java/util/NoSuchElementException", "java/lang/IndexOutOfBoundsException")]
/-- a word that stays: good, or one of two more kinds -/
def gGood : Cond → Bool
  | .declares _ => true
  | .castable _ _ => true
  | w => goodWord w
theorem gWord_at {args a' : Array Value} {s U : State} {w : Cond} (hW : s.WarmedH U.vm) (hg : gGood w = true) (h : w.before args s = true) : w.before a' U = true := by
  have tr : ∀ {c : Cond}, c.onTables = true → c.before args (s.setVm U.vm) = true → c.before a' U = true := by
    intro c hc h
    have e := Cond.onTables_vm (A := args) (A' := a') (U := s) (U' := U) U.vm c hc
    have hU : U.setVm U.vm = U := rfl
    rw [hU] at e
    rw [← e]
    exact h
  cases w with
  | declares x => exact tr rfl (by rw [Cond.declares_setVm hW.alike]; exact h)
  | castable a b => exact tr rfl (by rw [Cond.castable_setVm hW.alike]; exact h)
  | _ => exact word_at hW (good_of_word hg) h
/-- a word that stands in the tables and stays -/
def gH (w : Cond) : Prop := w ∈ lw_tbl ∧ gGood w = true
abbrev mX_init : gM := (⟨"FrameSharer", "<init>", "(I)V"⟩, prog_1_method_1_code, 2, none, [])
abbrev mX_open : gM := (⟨"FrameSharer", "open", "()I"⟩, prog_1_method_2_code, 2, (some .int), [])
abbrev mX_leastMissingSpace : gM := (⟨"FrameSharer", "leastMissingSpace", "()I"⟩, prog_1_method_31_code, 2, (some .int), [])
abbrev mX_spaceIndex : gM := (⟨"FrameSharer", "spaceIndex", "(II)I"⟩, prog_1_method_39_code, 2, (some .int), [])
abbrev mX_take : gM := (⟨"FrameSharer", "take", "()I"⟩, prog_1_method_11_code, 2, (some .int), [])
abbrev mX_leastMissingPicture : gM := (⟨"FrameSharer", "leastMissingPicture", "()I"⟩, prog_1_method_32_code, 2, (some .int), [])
abbrev mX_copyRow : gM := (⟨"FrameSharer", "copyRow", "(II)V"⟩, prog_1_method_27_code, 4, none, [])
abbrev mX_standIn : gM := (⟨"FrameSharer", "standIn", "(II)V"⟩, prog_1_method_25_code, 4, none, [])
abbrev mX_isFrame : gM := (⟨"FrameSharer", "isFrame", "(I)Z"⟩, prog_1_method_38_code, 2, (some .boolean), [])
abbrev mX_count : gM := (⟨"FrameSharer", "count", "(I)I"⟩, prog_1_method_16_code, 2, (some .int), [])
abbrev mX_framesInUse : gM := (⟨"FrameSharer", "framesInUse", "()I"⟩, prog_1_method_33_code, 3, (some .int), [])
abbrev mX_spacesNow : gM := (⟨"FrameSharer", "spacesNow", "()I"⟩, prog_1_method_34_code, 3, (some .int), [])
abbrev mX_picturesNow : gM := (⟨"FrameSharer", "picturesNow", "()I"⟩, prog_1_method_35_code, 3, (some .int), [])
abbrev mX_pagesNow : gM := (⟨"FrameSharer", "pagesNow", "()I"⟩, prog_1_method_36_code, 3, (some .int), [])
abbrev mX_pagesOfSpace : gM := (⟨"FrameSharer", "pagesOfSpace", "(I)I"⟩, prog_1_method_37_code, 4, (some .int), [])
abbrev mX_pageNow : gM := (⟨"FrameSharer", "pageNow", "(II)I"⟩, prog_1_method_40_code, 2, (some .int), [])
abbrev mX_isThere : gM := (⟨"FrameSharer", "isThere", "(I)Z"⟩, prog_1_method_17_code, 2, (some .boolean), [])
abbrev mL_cell : gM := (⟨"FrameSharerLaw", "cell", "([II)I"⟩, method_2_code, 2, (some .int), [])
abbrev mL_fork : gM := (⟨"FrameSharerLaw", "fork", "(LFrameSharer;I[J)I"⟩, method_3_code, 4, (some .int), [(0, 9, 12, 13)])
abbrev mX_fork : gM := (⟨"FrameSharer", "fork", "(I)I"⟩, prog_1_method_3_code, 4, (some .int), [])
abbrev mX_needSpace : gM := (⟨"FrameSharer", "needSpace", "(I)V"⟩, prog_1_method_18_code, 2, none, [])
abbrev mL_close : gM := (⟨"FrameSharerLaw", "close", "(LFrameSharer;I[J)I"⟩, method_4_code, 4, (some .int), [(0, 9, 12, 13)])
abbrev mX_close : gM := (⟨"FrameSharer", "close", "(I)I"⟩, prog_1_method_4_code, 4, (some .int), [])
abbrev mL_map : gM := (⟨"FrameSharerLaw", "map", "(LFrameSharer;III[J)I"⟩, method_5_code, 6, (some .int), [(0, 19, 22, 13), (0, 19, 26, 22), (0, 19, 30, 24)])
abbrev mX_map : gM := (⟨"FrameSharer", "map", "(III)Z"⟩, prog_1_method_5_code, 6, (some .boolean), [])
abbrev mX_needPage : gM := (⟨"FrameSharer", "needPage", "(I)V"⟩, prog_1_method_19_code, 2, none, [])
abbrev mX_needFreeFrame : gM := (⟨"FrameSharer", "needFreeFrame", "()I"⟩, prog_1_method_23_code, 2, (some .int), [])
abbrev mX_fillFrame : gM := (⟨"FrameSharer", "fillFrame", "(II)V"⟩, prog_1_method_29_code, 4, none, [])
abbrev mL_unmap : gM := (⟨"FrameSharerLaw", "unmap", "(LFrameSharer;II[J)I"⟩, method_6_code, 5, (some .int), [(0, 17, 20, 13), (0, 17, 24, 22)])
abbrev mX_unmap : gM := (⟨"FrameSharer", "unmap", "(II)Z"⟩, prog_1_method_6_code, 5, (some .boolean), [])
abbrev mL_read : gM := (⟨"FrameSharerLaw", "read", "(LFrameSharer;II[J)I"⟩, method_7_code, 5, (some .int), [(0, 10, 13, 22), (0, 10, 17, 13)])
abbrev mX_read : gM := (⟨"FrameSharer", "read", "(II)I"⟩, prog_1_method_7_code, 4, (some .int), [])
abbrev mX_needHolderAt : gM := (⟨"FrameSharer", "needHolderAt", "(II)I"⟩, prog_1_method_22_code, 4, (some .int), [])
abbrev mX_cellIndex : gM := (⟨"FrameSharer", "cellIndex", "(II)I"⟩, prog_1_method_41_code, 2, (some .int), [])
abbrev mL_write : gM := (⟨"FrameSharerLaw", "write", "(LFrameSharer;III[J)I"⟩, method_8_code, 6, (some .int), [(0, 12, 15, 22), (0, 12, 19, 13), (0, 12, 23, 24)])
abbrev mX_write : gM := (⟨"FrameSharer", "write", "(III)I"⟩, prog_1_method_8_code, 7, (some .int), [])
abbrev mX_needOwnFrame : gM := (⟨"FrameSharer", "needOwnFrame", "(I)I"⟩, prog_1_method_24_code, 4, (some .int), [])
abbrev mL_lend : gM := (⟨"FrameSharerLaw", "lend", "(LFrameSharer;IIII[J)I"⟩, method_9_code, 7, (some .int), [(0, 21, 24, 13), (0, 21, 28, 22)])
abbrev mX_lend : gM := (⟨"FrameSharer", "lend", "(IIII)Z"⟩, prog_1_method_9_code, 8, (some .boolean), [])
abbrev mX_needTwoPages : gM := (⟨"FrameSharer", "needTwoPages", "(IIII)V"⟩, prog_1_method_20_code, 5, none, [])
abbrev mL_join : gM := (⟨"FrameSharerLaw", "join", "(LFrameSharer;IIII[J)I"⟩, method_10_code, 7, (some .int), [(0, 14, 17, 13), (0, 14, 21, 22)])
abbrev mX_join : gM := (⟨"FrameSharer", "join", "(IIII)I"⟩, prog_1_method_10_code, 8, (some .int), [])
abbrev mX_haveSameCells : gM := (⟨"FrameSharer", "haveSameCells", "(II)Z"⟩, prog_1_method_30_code, 4, (some .boolean), [])
abbrev mX_moveHolders : gM := (⟨"FrameSharer", "moveHolders", "(II)V"⟩, prog_1_method_26_code, 4, none, [])
abbrev mL_back : gM := (⟨"FrameSharerLaw", "back", "(LFrameSharer;I[J)I"⟩, method_11_code, 4, (some .int), [(0, 9, 12, 13)])
abbrev mX_back : gM := (⟨"FrameSharer", "back", "(I)I"⟩, prog_1_method_12_code, 2, (some .int), [])
abbrev mX_needPicture : gM := (⟨"FrameSharer", "needPicture", "(I)V"⟩, prog_1_method_21_code, 2, none, [])
abbrev mL_drop : gM := (⟨"FrameSharerLaw", "drop", "(LFrameSharer;I[J)I"⟩, method_12_code, 4, (some .int), [(0, 9, 12, 13)])
abbrev mX_drop : gM := (⟨"FrameSharer", "drop", "(I)I"⟩, prog_1_method_13_code, 3, (some .int), [])
abbrev mX_clearRow : gM := (⟨"FrameSharer", "clearRow", "(I)V"⟩, prog_1_method_28_code, 3, none, [])
abbrev mL_holders : gM := (⟨"FrameSharerLaw", "holders", "(LFrameSharer;II[J)I"⟩, method_13_code, 5, (some .int), [(0, 10, 13, 13), (0, 10, 17, 22)])
abbrev mX_holders : gM := (⟨"FrameSharer", "holders", "(II)I"⟩, prog_1_method_14_code, 4, (some .int), [])
abbrev mL_changed : gM := (⟨"FrameSharerLaw", "changed", "(LFrameSharer;I[J)I"⟩, method_14_code, 4, (some .int), [(0, 9, 12, 13)])
abbrev mX_changed : gM := (⟨"FrameSharer", "changed", "(I)I"⟩, prog_1_method_15_code, 4, (some .int), [])
abbrev mY_init : gM := (⟨"FrameSharerModel", "<init>", "(I)V"⟩, prog_3_method_1_code, 2, none, [])
abbrev mY_thrown : gM := (⟨"FrameSharerModel", "thrown", "()I"⟩, prog_3_method_2_code, 1, (some .int), [])
abbrev mY_open : gM := (⟨"FrameSharerModel", "open", "()I"⟩, prog_3_method_14_code, 2, (some .int), [])
abbrev mY_free : gM := (⟨"FrameSharerModel", "free", "()I"⟩, prog_3_method_12_code, 2, (some .int), [])
abbrev mY_fork : gM := (⟨"FrameSharerModel", "fork", "(I)I"⟩, prog_3_method_15_code, 4, (some .int), [])
abbrev mY_isSpace : gM := (⟨"FrameSharerModel", "isSpace", "(I)Z"⟩, prog_3_method_4_code, 2, (some .boolean), [])
abbrev mY_fails : gM := (⟨"FrameSharerModel", "fails", "(ZZZ)Z"⟩, prog_3_method_6_code, 4, (some .boolean), [])
abbrev mY_page : gM := (⟨"FrameSharerModel", "page", "(III)I"⟩, prog_3_method_3_code, 3, (some .int), [])
abbrev mY_copyPage : gM := (⟨"FrameSharerModel", "copyPage", "(II)V"⟩, prog_3_method_9_code, 4, none, [])
abbrev mY_close : gM := (⟨"FrameSharerModel", "close", "(I)I"⟩, prog_3_method_16_code, 3, (some .int), [])
abbrev mY_pagesOf : gM := (⟨"FrameSharerModel", "pagesOf", "(I)I"⟩, prog_3_method_13_code, 4, (some .int), [])
abbrev mY_empty : gM := (⟨"FrameSharerModel", "empty", "(II)V"⟩, prog_3_method_11_code, 4, none, [])
abbrev mY_map : gM := (⟨"FrameSharerModel", "map", "(III)Z"⟩, prog_3_method_17_code, 7, (some .boolean), [])
abbrev mY_isPage : gM := (⟨"FrameSharerModel", "isPage", "(I)Z"⟩, prog_3_method_5_code, 1, (some .boolean), [])
abbrev mY_used : gM := (⟨"FrameSharerModel", "used", "()I"⟩, prog_3_method_8_code, 5, (some .int), [])
abbrev mY_unmap : gM := (⟨"FrameSharerModel", "unmap", "(II)Z"⟩, prog_3_method_18_code, 5, (some .boolean), [])
abbrev mY_read : gM := (⟨"FrameSharerModel", "read", "(II)I"⟩, prog_3_method_20_code, 4, (some .int), [])
abbrev mY_cell : gM := (⟨"FrameSharerModel", "cell", "(II)I"⟩, prog_3_method_19_code, 6, (some .int), [])
abbrev mY_write : gM := (⟨"FrameSharerModel", "write", "(III)I"⟩, prog_3_method_21_code, 8, (some .int), [])
abbrev mY_holdersOf : gM := (⟨"FrameSharerModel", "holdersOf", "(I)I"⟩, prog_3_method_7_code, 4, (some .int), [])
abbrev mY_lend : gM := (⟨"FrameSharerModel", "lend", "(IIII)Z"⟩, prog_3_method_23_code, 7, (some .boolean), [])
abbrev mY_areFaulty : gM := (⟨"FrameSharerModel", "areFaulty", "(IIII)Z"⟩, prog_3_method_22_code, 5, (some .boolean), [])
abbrev mY_join : gM := (⟨"FrameSharerModel", "join", "(IIII)I"⟩, prog_3_method_24_code, 11, (some .int), [])
abbrev mY_take : gM := (⟨"FrameSharerModel", "take", "()I"⟩, prog_3_method_25_code, 2, (some .int), [])
abbrev mY_copyRow : gM := (⟨"FrameSharerModel", "copyRow", "(II)V"⟩, prog_3_method_10_code, 4, none, [])
abbrev mY_back : gM := (⟨"FrameSharerModel", "back", "(I)I"⟩, prog_3_method_28_code, 2, (some .int), [])
abbrev mY_isPicture : gM := (⟨"FrameSharerModel", "isPicture", "(I)Z"⟩, prog_3_method_26_code, 2, (some .boolean), [])
abbrev mY_spaces : gM := (⟨"FrameSharerModel", "spaces", "()I"⟩, prog_3_method_27_code, 3, (some .int), [])
abbrev mY_drop : gM := (⟨"FrameSharerModel", "drop", "(I)I"⟩, prog_3_method_29_code, 4, (some .int), [])
abbrev mY_holders : gM := (⟨"FrameSharerModel", "holders", "(II)I"⟩, prog_3_method_30_code, 3, (some .int), [])
abbrev mY_changed : gM := (⟨"FrameSharerModel", "changed", "(I)I"⟩, prog_3_method_31_code, 4, (some .int), [])
abbrev mY_count : gM := (⟨"FrameSharerModel", "count", "(I)I"⟩, prog_3_method_32_code, 4, (some .int), [])
abbrev mY_isThere : gM := (⟨"FrameSharerModel", "isThere", "(I)Z"⟩, prog_3_method_33_code, 2, (some .boolean), [])
abbrev mL_law : gM := (⟨"FrameSharerLaw", "law", "([I)Z"⟩, code, 7, ret, [])
