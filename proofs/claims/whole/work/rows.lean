section
-- ===== PART A: goes FIRST, ahead of the names: the tables' words, and 'selects' of the private methods out of them =====
/-- a private method of a class that the tables say can be made, by its rows of tables_1 -/
def lw_okq (q : MethodName × Nat) : Prop := (q.1.cls ≠ "java/lang/invoke/MethodHandle" ∧ q.1.cls ≠ "java/lang/invoke/VarHandle") ∧ Cond.instantiable q.1.cls q.2 ∈ tables_1 ∧ Cond.privateMethod q.1 ∈ tables_1 ∧ Cond.instanceMethod q.1 ∈ tables_1
theorem lw_p0 : lw_okq (⟨"KeptPages", "inMemory", "(II)Z"⟩, 9) := ⟨⟨by decide +kernel, by decide +kernel⟩, List.mem_of_getElem? (i := 5) (by decide +kernel), List.mem_of_getElem? (i := 50) (by decide +kernel), List.mem_of_getElem? (i := 51) (by decide +kernel)⟩
theorem lw_p1 : lw_okq (⟨"KeptPages", "entryAt", "(I)I"⟩, 9) := ⟨⟨by decide +kernel, by decide +kernel⟩, List.mem_of_getElem? (i := 5) (by decide +kernel), List.mem_of_getElem? (i := 62) (by decide +kernel), List.mem_of_getElem? (i := 63) (by decide +kernel)⟩
theorem lw_p2 : lw_okq (⟨"KeptPages", "byteAt", "(I)I"⟩, 9) := ⟨⟨by decide +kernel, by decide +kernel⟩, List.mem_of_getElem? (i := 5) (by decide +kernel), List.mem_of_getElem? (i := 66) (by decide +kernel), List.mem_of_getElem? (i := 67) (by decide +kernel)⟩
theorem lw_p3 : lw_okq (⟨"KeptPages", "forget", "(I)V"⟩, 9) := ⟨⟨by decide +kernel, by decide +kernel⟩, List.mem_of_getElem? (i := 5) (by decide +kernel), List.mem_of_getElem? (i := 77) (by decide +kernel), List.mem_of_getElem? (i := 78) (by decide +kernel)⟩
theorem lw_p4 : lw_okq (⟨"KeptPages", "counts", "(II)Z"⟩, 9) := ⟨⟨by decide +kernel, by decide +kernel⟩, List.mem_of_getElem? (i := 5) (by decide +kernel), List.mem_of_getElem? (i := 98) (by decide +kernel), List.mem_of_getElem? (i := 99) (by decide +kernel)⟩
theorem lw_p5 : lw_okq (⟨"KeptPages", "findPlaces", "(IIIZ)I"⟩, 9) := ⟨⟨by decide +kernel, by decide +kernel⟩, List.mem_of_getElem? (i := 5) (by decide +kernel), List.mem_of_getElem? (i := 110) (by decide +kernel), List.mem_of_getElem? (i := 111) (by decide +kernel)⟩
theorem lw_p6 : lw_okq (⟨"KeptPages", "translate", "(IIZZ)I"⟩, 9) := ⟨⟨by decide +kernel, by decide +kernel⟩, List.mem_of_getElem? (i := 5) (by decide +kernel), List.mem_of_getElem? (i := 117) (by decide +kernel), List.mem_of_getElem? (i := 118) (by decide +kernel)⟩
theorem lw_p7 : lw_okq (⟨"KeptPages", "placeOfEntry", "(IZZ)I"⟩, 9) := ⟨⟨by decide +kernel, by decide +kernel⟩, List.mem_of_getElem? (i := 5) (by decide +kernel), List.mem_of_getElem? (i := 121) (by decide +kernel), List.mem_of_getElem? (i := 122) (by decide +kernel)⟩
theorem lw_p8 : lw_okq (⟨"KeptPages", "inside", "(II)Z"⟩, 9) := ⟨⟨by decide +kernel, by decide +kernel⟩, List.mem_of_getElem? (i := 5) (by decide +kernel), List.mem_of_getElem? (i := 125) (by decide +kernel), List.mem_of_getElem? (i := 126) (by decide +kernel)⟩
theorem lw_p9 : lw_okq (⟨"KeptPages", "placeThroughS", "(IZZ)I"⟩, 9) := ⟨⟨by decide +kernel, by decide +kernel⟩, List.mem_of_getElem? (i := 5) (by decide +kernel), List.mem_of_getElem? (i := 132) (by decide +kernel), List.mem_of_getElem? (i := 133) (by decide +kernel)⟩
theorem lw_p10 : lw_okq (⟨"KeptPages", "keepEntry", "(IIII)V"⟩, 9) := ⟨⟨by decide +kernel, by decide +kernel⟩, List.mem_of_getElem? (i := 5) (by decide +kernel), List.mem_of_getElem? (i := 146) (by decide +kernel), List.mem_of_getElem? (i := 147) (by decide +kernel)⟩
theorem lw_p11 : lw_okq (⟨"KeptPages", "markWritten", "(I)V"⟩, 9) := ⟨⟨by decide +kernel, by decide +kernel⟩, List.mem_of_getElem? (i := 5) (by decide +kernel), List.mem_of_getElem? (i := 157) (by decide +kernel), List.mem_of_getElem? (i := 158) (by decide +kernel)⟩
theorem lw_p12 : lw_okq (⟨"KeptPages", "noteFault", "(II)V"⟩, 9) := ⟨⟨by decide +kernel, by decide +kernel⟩, List.mem_of_getElem? (i := 5) (by decide +kernel), List.mem_of_getElem? (i := 162) (by decide +kernel), List.mem_of_getElem? (i := 163) (by decide +kernel)⟩
theorem lw_p13 : lw_okq (⟨"KeptPagesModel", "code", "(III)V"⟩, 14) := ⟨⟨by decide +kernel, by decide +kernel⟩, List.mem_of_getElem? (i := 192) (by decide +kernel), List.mem_of_getElem? (i := 198) (by decide +kernel), List.mem_of_getElem? (i := 199) (by decide +kernel)⟩
theorem lw_p14 : lw_okq (⟨"KeptPagesModel", "isThere", "(I)Z"⟩, 14) := ⟨⟨by decide +kernel, by decide +kernel⟩, List.mem_of_getElem? (i := 192) (by decide +kernel), List.mem_of_getElem? (i := 249) (by decide +kernel), List.mem_of_getElem? (i := 250) (by decide +kernel)⟩
theorem lw_p15 : lw_okq (⟨"KeptPagesModel", "areFour", "(I)Z"⟩, 14) := ⟨⟨by decide +kernel, by decide +kernel⟩, List.mem_of_getElem? (i := 192) (by decide +kernel), List.mem_of_getElem? (i := 257) (by decide +kernel), List.mem_of_getElem? (i := 258) (by decide +kernel)⟩
def lw_privs_1 : List (MethodName × Nat) := [(⟨"KeptPages", "inMemory", "(II)Z"⟩, 9), (⟨"KeptPages", "entryAt", "(I)I"⟩, 9), (⟨"KeptPages", "byteAt", "(I)I"⟩, 9), (⟨"KeptPages", "forget", "(I)V"⟩, 9), (⟨"KeptPages", "counts", "(II)Z"⟩, 9), (⟨"KeptPages", "findPlaces", "(IIIZ)I"⟩, 9), (⟨"KeptPages", "translate", "(IIZZ)I"⟩, 9), (⟨"KeptPages", "placeOfEntry", "(IZZ)I"⟩, 9), (⟨"KeptPages", "inside", "(II)Z"⟩, 9), (⟨"KeptPages", "placeThroughS", "(IZZ)I"⟩, 9), (⟨"KeptPages", "keepEntry", "(IIII)V"⟩, 9), (⟨"KeptPages", "markWritten", "(I)V"⟩, 9), (⟨"KeptPages", "noteFault", "(II)V"⟩, 9), (⟨"KeptPagesModel", "code", "(III)V"⟩, 14), (⟨"KeptPagesModel", "isThere", "(I)Z"⟩, 14), (⟨"KeptPagesModel", "areFour", "(I)Z"⟩, 14)]
theorem lw_r1 : ∀ q ∈ lw_privs_1, lw_okq q := List.forall_mem_cons.mpr ⟨lw_p0, List.forall_mem_cons.mpr ⟨lw_p1, List.forall_mem_cons.mpr ⟨lw_p2, List.forall_mem_cons.mpr ⟨lw_p3, List.forall_mem_cons.mpr ⟨lw_p4, List.forall_mem_cons.mpr ⟨lw_p5, List.forall_mem_cons.mpr ⟨lw_p6, List.forall_mem_cons.mpr ⟨lw_p7, List.forall_mem_cons.mpr ⟨lw_p8, List.forall_mem_cons.mpr ⟨lw_p9, List.forall_mem_cons.mpr ⟨lw_p10, List.forall_mem_cons.mpr ⟨lw_p11, List.forall_mem_cons.mpr ⟨lw_p12, List.forall_mem_cons.mpr ⟨lw_p13, List.forall_mem_cons.mpr ⟨lw_p14, List.forall_mem_cons.mpr ⟨lw_p15, fun _ h => absurd h List.not_mem_nil⟩⟩⟩⟩⟩⟩⟩⟩⟩⟩⟩⟩⟩⟩⟩⟩
theorem lw_p16 : lw_okq (⟨"KeptPagesModel", "putFour", "(II)V"⟩, 14) := ⟨⟨by decide +kernel, by decide +kernel⟩, List.mem_of_getElem? (i := 192) (by decide +kernel), List.mem_of_getElem? (i := 261) (by decide +kernel), List.mem_of_getElem? (i := 262) (by decide +kernel)⟩
theorem lw_p17 : lw_okq (⟨"KeptPagesModel", "four", "(I)I"⟩, 14) := ⟨⟨by decide +kernel, by decide +kernel⟩, List.mem_of_getElem? (i := 192) (by decide +kernel), List.mem_of_getElem? (i := 269) (by decide +kernel), List.mem_of_getElem? (i := 270) (by decide +kernel)⟩
theorem lw_p18 : lw_okq (⟨"KeptPagesModel", "forget", "(II)V"⟩, 14) := ⟨⟨by decide +kernel, by decide +kernel⟩, List.mem_of_getElem? (i := 192) (by decide +kernel), List.mem_of_getElem? (i := 280) (by decide +kernel), List.mem_of_getElem? (i := 281) (by decide +kernel)⟩
theorem lw_p19 : lw_okq (⟨"KeptPagesModel", "isKept", "(I)Z"⟩, 14) := ⟨⟨by decide +kernel, by decide +kernel⟩, List.mem_of_getElem? (i := 192) (by decide +kernel), List.mem_of_getElem? (i := 292) (by decide +kernel), List.mem_of_getElem? (i := 293) (by decide +kernel)⟩
theorem lw_p20 : lw_okq (⟨"KeptPagesModel", "reach", "(IIIZ)I"⟩, 14) := ⟨⟨by decide +kernel, by decide +kernel⟩, List.mem_of_getElem? (i := 192) (by decide +kernel), List.mem_of_getElem? (i := 314) (by decide +kernel), List.mem_of_getElem? (i := 315) (by decide +kernel)⟩
theorem lw_p21 : lw_okq (⟨"KeptPagesModel", "translate", "(IIZZ)I"⟩, 14) := ⟨⟨by decide +kernel, by decide +kernel⟩, List.mem_of_getElem? (i := 192) (by decide +kernel), List.mem_of_getElem? (i := 318) (by decide +kernel), List.mem_of_getElem? (i := 319) (by decide +kernel)⟩
theorem lw_p22 : lw_okq (⟨"KeptPagesModel", "look", "(IZ)I"⟩, 14) := ⟨⟨by decide +kernel, by decide +kernel⟩, List.mem_of_getElem? (i := 192) (by decide +kernel), List.mem_of_getElem? (i := 322) (by decide +kernel), List.mem_of_getElem? (i := 323) (by decide +kernel)⟩
theorem lw_p23 : lw_okq (⟨"KeptPagesModel", "isInside", "(I)Z"⟩, 14) := ⟨⟨by decide +kernel, by decide +kernel⟩, List.mem_of_getElem? (i := 192) (by decide +kernel), List.mem_of_getElem? (i := 326) (by decide +kernel), List.mem_of_getElem? (i := 327) (by decide +kernel)⟩
theorem lw_p24 : lw_okq (⟨"KeptPagesModel", "keeps", "(III)V"⟩, 14) := ⟨⟨by decide +kernel, by decide +kernel⟩, List.mem_of_getElem? (i := 192) (by decide +kernel), List.mem_of_getElem? (i := 330) (by decide +kernel), List.mem_of_getElem? (i := 331) (by decide +kernel)⟩
theorem lw_p25 : lw_okq (⟨"KeptPagesModel", "isRight", "(IZ)Z"⟩, 14) := ⟨⟨by decide +kernel, by decide +kernel⟩, List.mem_of_getElem? (i := 192) (by decide +kernel), List.mem_of_getElem? (i := 334) (by decide +kernel), List.mem_of_getElem? (i := 335) (by decide +kernel)⟩
def lw_privs_2 : List (MethodName × Nat) := [(⟨"KeptPagesModel", "putFour", "(II)V"⟩, 14), (⟨"KeptPagesModel", "four", "(I)I"⟩, 14), (⟨"KeptPagesModel", "forget", "(II)V"⟩, 14), (⟨"KeptPagesModel", "isKept", "(I)Z"⟩, 14), (⟨"KeptPagesModel", "reach", "(IIIZ)I"⟩, 14), (⟨"KeptPagesModel", "translate", "(IIZZ)I"⟩, 14), (⟨"KeptPagesModel", "look", "(IZ)I"⟩, 14), (⟨"KeptPagesModel", "isInside", "(I)Z"⟩, 14), (⟨"KeptPagesModel", "keeps", "(III)V"⟩, 14), (⟨"KeptPagesModel", "isRight", "(IZ)Z"⟩, 14)]
theorem lw_r2 : ∀ q ∈ lw_privs_2, lw_okq q := List.forall_mem_cons.mpr ⟨lw_p16, List.forall_mem_cons.mpr ⟨lw_p17, List.forall_mem_cons.mpr ⟨lw_p18, List.forall_mem_cons.mpr ⟨lw_p19, List.forall_mem_cons.mpr ⟨lw_p20, List.forall_mem_cons.mpr ⟨lw_p21, List.forall_mem_cons.mpr ⟨lw_p22, List.forall_mem_cons.mpr ⟨lw_p23, List.forall_mem_cons.mpr ⟨lw_p24, List.forall_mem_cons.mpr ⟨lw_p25, fun _ h => absurd h List.not_mem_nil⟩⟩⟩⟩⟩⟩⟩⟩⟩⟩
def lw_privs : List (MethodName × Nat) := lw_privs_1 ++ (lw_privs_2)
def lw_tbl : List Cond := k2_sels lw_privs ++ tables_1
theorem lw_privs_ok : ∀ q ∈ lw_privs, lw_okq q := by
  show ∀ q ∈ lw_privs_1 ++ (lw_privs_2), lw_okq q
  exact List.forall_mem_append.mpr ⟨lw_r1, lw_r2⟩
theorem bg_V {big : List Cond} {own C : String} {idx n : Nat} {y : MethodName} {cc : ByteArray} {r : Option FieldType} {rest : List Cond} (hg : ∀ w ∈ rest, goodWord w = true) (hr : ∀ w ∈ rest, w ∈ big) (h1 : Cond.methodLink own idx y ∈ big) (h2 : Cond.instanceMethod y ∈ big) (h3 : Cond.selects C y y ∈ big) (h4 : Cond.initialized C ∈ big) (h5 : Cond.code y cc n r ∈ big) : GoodIn big (wsV own idx C y (.code y cc n r :: rest)) := by
  intro w hw
  rcases List.mem_append.mp hw with hw | hw
  · rcases List.mem_cons.mp hw with rfl | hw
    · exact ⟨h1, Or.inl rfl⟩
    · rcases List.mem_cons.mp hw with rfl | hw
      · exact ⟨h2, Or.inl rfl⟩
      · rcases List.mem_cons.mp hw with rfl | hw
        · exact ⟨h3, Or.inl rfl⟩
        · rcases List.mem_cons.mp hw with rfl | hw
          · exact ⟨h4, Or.inl rfl⟩
          · cases hw
  · rcases List.mem_cons.mp hw with rfl | hw
    · exact ⟨h5, Or.inl rfl⟩
    · exact ⟨hr w hw, good_of_word (hg w hw)⟩
theorem bg_S {big : List Cond} {own : String} {idx n : Nat} {y : MethodName} {cc : ByteArray} {r : Option FieldType} {rest : List Cond} (hg : ∀ w ∈ rest, goodWord w = true) (hr : ∀ w ∈ rest, w ∈ big) (h1 : Cond.methodLink own idx y ∈ big) (h2 : Cond.static y ∈ big) (h4 : Cond.initialized y.cls ∈ big) (h5 : Cond.code y cc n r ∈ big) : GoodIn big (va_wsS own idx y (.code y cc n r :: rest)) := by
  intro w hw
  rcases List.mem_append.mp hw with hw | hw
  · rcases List.mem_cons.mp hw with rfl | hw
    · exact ⟨h1, Or.inl rfl⟩
    · rcases List.mem_cons.mp hw with rfl | hw
      · exact ⟨h2, Or.inl rfl⟩
      · rcases List.mem_cons.mp hw with rfl | hw
        · exact ⟨h4, Or.inl rfl⟩
        · cases hw
  · rcases List.mem_cons.mp hw with rfl | hw
    · exact ⟨h5, Or.inl rfl⟩
    · exact ⟨hr w hw, good_of_word (hg w hw)⟩
theorem bg_I {big : List Cond} {n : Nat} {y : MethodName} {cc : ByteArray} {rest : List Cond} (hg : ∀ w ∈ rest, goodWord w = true) (hr : ∀ w ∈ rest, w ∈ big) (h5 : Cond.code y cc n none ∈ big) : GoodIn big (.code y cc n none :: rest) := by
  intro w hw
  rcases List.mem_cons.mp hw with rfl | hw
  · exact ⟨h5, Or.inl rfl⟩
  · exact ⟨hr w hw, good_of_word (hg w hw)⟩
def RX0 : String := "KeptPages"
def RX1 : String := "KeptPagesModel"
def RL : String := "KeptPagesLaw"
def RJ : String := "java/util/Arrays"
def TX0 : u_T := fun k => match k with
  | 0 => ("KeptPages", "memory", "[B", true)
  | 1 => ("KeptPages", "bases", "[I", true)
  | 2 => ("KeptPages", "lengths", "[I", true)
  | 3 => ("KeptPages", "mapped", "Z", false)
  | 4 => ("KeptPages", "failedAt", "I", false)
  | 5 => ("KeptPages", "keptPages", "[I", true)
  | 6 => ("KeptPages", "keptEntries", "[I", true)
  | 7 => ("KeptPages", "keptPlaces", "[I", true)
  | _ => ("KeptPages", "places", "[I", true)
def tyX0 : Nat → FieldType := fun k => match k with
  | 0 => .array .byte
  | 1 => .array .int
  | 2 => .array .int
  | 3 => .boolean
  | 4 => .int
  | 5 => .array .int
  | 6 => .array .int
  | 7 => .array .int
  | _ => .array .int
abbrev wsX00 : List Cond := u_ws RX0 TX0 9
theorem nmX0 : ∀ a, a < 9 → ∀ b, b < 9 → a ≠ b → (TX0 a).2.1 ≠ (TX0 b).2.1 := by decide +kernel
theorem tyX0_ok : ∀ k, k < 9 → parseFieldDescriptor (TX0 k).2.2.1 = some (tyX0 k) := by decide +kernel
def TX1 : u_T := fun k => match k with
  | 0 => ("KeptPagesModel", "memory", "[I", true)
  | 1 => ("KeptPagesModel", "bytes", "I", true)
  | 2 => ("KeptPagesModel", "base", "[I", true)
  | 3 => ("KeptPagesModel", "length", "[I", true)
  | 4 => ("KeptPagesModel", "isOn", "Z", false)
  | 5 => ("KeptPagesModel", "page", "[I", true)
  | 6 => ("KeptPagesModel", "entry", "[I", true)
  | 7 => ("KeptPagesModel", "place", "[I", true)
  | 8 => ("KeptPagesModel", "writes", "[I", true)
  | 9 => ("KeptPagesModel", "reads", "[I", true)
  | 10 => ("KeptPagesModel", "lies", "[I", true)
  | 11 => ("KeptPagesModel", "fails", "I", false)
  | 12 => ("KeptPagesModel", "looked", "I", false)
  | _ => ("KeptPagesModel", "at", "I", false)
def tyX1 : Nat → FieldType := fun k => match k with
  | 0 => .array .int
  | 1 => .int
  | 2 => .array .int
  | 3 => .array .int
  | 4 => .boolean
  | 5 => .array .int
  | 6 => .array .int
  | 7 => .array .int
  | 8 => .array .int
  | 9 => .array .int
  | 10 => .array .int
  | 11 => .int
  | 12 => .int
  | _ => .int
abbrev wsX10 : List Cond := u_ws RX1 TX1 14
theorem nmX1 : ∀ a, a < 14 → ∀ b, b < 14 → a ≠ b → (TX1 a).2.1 ≠ (TX1 b).2.1 := by decide +kernel
theorem tyX1_ok : ∀ k, k < 14 → parseFieldDescriptor (TX1 k).2.2.1 = some (tyX1 k) := by decide +kernel
abbrev cX0_init : ByteArray := prog_1_method_1_code
def yX0_init : MethodName := ⟨RX0, "<init>", "(I)V"⟩
abbrev cJ_fill : ByteArray := prog_4_method_103_code
def yJ_fill : MethodName := ⟨RJ, "fill", "([II)V"⟩
abbrev cX0_put : ByteArray := prog_1_method_2_code
def yX0_put : MethodName := ⟨RX0, "put", "(II)Z"⟩
abbrev cX0_inMemory : ByteArray := prog_1_method_25_code
def yX0_inMemory : MethodName := ⟨RX0, "inMemory", "(II)Z"⟩
abbrev cX0_entry : ByteArray := prog_1_method_3_code
def yX0_entry : MethodName := ⟨RX0, "entry", "(II)Z"⟩
abbrev cX0_entryOf : ByteArray := prog_1_method_4_code
def yX0_entryOf : MethodName := ⟨RX0, "entryOf", "(I)J"⟩
abbrev cX0_entryAt : ByteArray := prog_1_method_27_code
def yX0_entryAt : MethodName := ⟨RX0, "entryAt", "(I)I"⟩
abbrev cX0_byteAt : ByteArray := prog_1_method_26_code
def yX0_byteAt : MethodName := ⟨RX0, "byteAt", "(I)I"⟩
abbrev cX0_region : ByteArray := prog_1_method_5_code
def yX0_region : MethodName := ⟨RX0, "region", "(III)Z"⟩
abbrev cX0_forget : ByteArray := prog_1_method_21_code
def yX0_forget : MethodName := ⟨RX0, "forget", "(I)V"⟩
abbrev cX0_map : ByteArray := prog_1_method_6_code
def yX0_map : MethodName := ⟨RX0, "map", "(Z)V"⟩
abbrev cX0_drop : ByteArray := prog_1_method_7_code
def yX0_drop : MethodName := ⟨RX0, "drop", "(I)Z"⟩
abbrev cX0_slotOf : ByteArray := prog_1_method_22_code
def yX0_slotOf : MethodName := ⟨RX0, "slotOf", "(I)I"⟩
abbrev cX0_pageOf : ByteArray := prog_1_method_32_code
def yX0_pageOf : MethodName := ⟨RX0, "pageOf", "(I)I"⟩
abbrev cX0_regionOf : ByteArray := prog_1_method_31_code
def yX0_regionOf : MethodName := ⟨RX0, "regionOf", "(I)I"⟩
abbrev cX0_counts : ByteArray := prog_1_method_23_code
def yX0_counts : MethodName := ⟨RX0, "counts", "(II)Z"⟩
abbrev cX0_read : ByteArray := prog_1_method_8_code
def yX0_read : MethodName := ⟨RX0, "read", "(III)J"⟩
abbrev cX0_isCount : ByteArray := prog_1_method_34_code
def yX0_isCount : MethodName := ⟨RX0, "isCount", "(I)Z"⟩
abbrev cX0_findPlaces : ByteArray := prog_1_method_14_code
def yX0_findPlaces : MethodName := ⟨RX0, "findPlaces", "(IIIZ)I"⟩
abbrev cX0_placeInPage : ByteArray := prog_1_method_33_code
def yX0_placeInPage : MethodName := ⟨RX0, "placeInPage", "(I)I"⟩
abbrev cX0_translate : ByteArray := prog_1_method_16_code
def yX0_translate : MethodName := ⟨RX0, "translate", "(IIZZ)I"⟩
abbrev cX0_placeOfEntry : ByteArray := prog_1_method_17_code
def yX0_placeOfEntry : MethodName := ⟨RX0, "placeOfEntry", "(IZZ)I"⟩
abbrev cX0_inside : ByteArray := prog_1_method_24_code
def yX0_inside : MethodName := ⟨RX0, "inside", "(II)Z"⟩
abbrev cX0_access : ByteArray := prog_1_method_35_code
def yX0_access : MethodName := ⟨RX0, "access", "(IZ)I"⟩
abbrev cX0_placeThroughS : ByteArray := prog_1_method_18_code
def yX0_placeThroughS : MethodName := ⟨RX0, "placeThroughS", "(IZZ)I"⟩
abbrev cX0_physical : ByteArray := prog_1_method_30_code
def yX0_physical : MethodName := ⟨RX0, "physical", "(II)I"⟩
abbrev cX0_isValid : ByteArray := prog_1_method_29_code
def yX0_isValid : MethodName := ⟨RX0, "isValid", "(I)Z"⟩
abbrev cX0_missing : ByteArray := prog_1_method_36_code
def yX0_missing : MethodName := ⟨RX0, "missing", "(IZ)I"⟩
abbrev cX0_keepEntry : ByteArray := prog_1_method_19_code
def yX0_keepEntry : MethodName := ⟨RX0, "keepEntry", "(IIII)V"⟩
abbrev cX0_gives : ByteArray := prog_1_method_28_code
def yX0_gives : MethodName := ⟨RX0, "gives", "(IIZ)Z"⟩
abbrev cX0_markWritten : ByteArray := prog_1_method_20_code
def yX0_markWritten : MethodName := ⟨RX0, "markWritten", "(I)V"⟩
abbrev cX0_noteFault : ByteArray := prog_1_method_15_code
def yX0_noteFault : MethodName := ⟨RX0, "noteFault", "(II)V"⟩
abbrev cX0_write : ByteArray := prog_1_method_9_code
def yX0_write : MethodName := ⟨RX0, "write", "(IIII)I"⟩
abbrev cX0_where : ByteArray := prog_1_method_10_code
def yX0_where : MethodName := ⟨RX0, "where", "(IIZ)I"⟩
abbrev cX0_may : ByteArray := prog_1_method_11_code
def yX0_may : MethodName := ⟨RX0, "may", "(IIZ)I"⟩
abbrev cX0_isAccess : ByteArray := prog_1_method_37_code
def yX0_isAccess : MethodName := ⟨RX0, "isAccess", "(I)Z"⟩
abbrev cX0_kept : ByteArray := prog_1_method_12_code
def yX0_kept : MethodName := ⟨RX0, "kept", "(II)J"⟩
abbrev cX0_failed : ByteArray := prog_1_method_13_code
def yX0_failed : MethodName := ⟨RX0, "failed", "()I"⟩
abbrev cL_cell : ByteArray := method_2_code
def yL_cell : MethodName := ⟨RL, "cell", "([II)I"⟩
abbrev cX1_init : ByteArray := prog_3_method_1_code
def yX1_init : MethodName := ⟨RX1, "<init>", "(I)V"⟩
abbrev cX1_code : ByteArray := prog_3_method_2_code
def yX1_code : MethodName := ⟨RX1, "code", "(III)V"⟩
abbrev cX1_put : ByteArray := prog_3_method_7_code
def yX1_put : MethodName := ⟨RX1, "put", "(II)Z"⟩
abbrev cX1_isThere : ByteArray := prog_3_method_3_code
def yX1_isThere : MethodName := ⟨RX1, "isThere", "(I)Z"⟩
abbrev cX1_entry : ByteArray := prog_3_method_8_code
def yX1_entry : MethodName := ⟨RX1, "entry", "(II)Z"⟩
abbrev cX1_areFour : ByteArray := prog_3_method_4_code
def yX1_areFour : MethodName := ⟨RX1, "areFour", "(I)Z"⟩
abbrev cX1_putFour : ByteArray := prog_3_method_6_code
def yX1_putFour : MethodName := ⟨RX1, "putFour", "(II)V"⟩
abbrev cX1_entryOf : ByteArray := prog_3_method_9_code
def yX1_entryOf : MethodName := ⟨RX1, "entryOf", "(I)J"⟩
abbrev cX1_four : ByteArray := prog_3_method_5_code
def yX1_four : MethodName := ⟨RX1, "four", "(I)I"⟩
abbrev cX1_region : ByteArray := prog_3_method_11_code
def yX1_region : MethodName := ⟨RX1, "region", "(III)Z"⟩
abbrev cX1_forget : ByteArray := prog_3_method_10_code
def yX1_forget : MethodName := ⟨RX1, "forget", "(II)V"⟩
abbrev cX1_map : ByteArray := prog_3_method_12_code
def yX1_map : MethodName := ⟨RX1, "map", "(Z)V"⟩
abbrev cX1_drop : ByteArray := prog_3_method_19_code
def yX1_drop : MethodName := ⟨RX1, "drop", "(I)Z"⟩
abbrev cX1_isKept : ByteArray := prog_3_method_16_code
def yX1_isKept : MethodName := ⟨RX1, "isKept", "(I)Z"⟩
abbrev cX1_slot : ByteArray := prog_3_method_15_code
def yX1_slot : MethodName := ⟨RX1, "slot", "(I)I"⟩
abbrev cX1_regionOf : ByteArray := prog_3_method_13_code
def yX1_regionOf : MethodName := ⟨RX1, "regionOf", "(I)I"⟩
abbrev cX1_pageOf : ByteArray := prog_3_method_14_code
def yX1_pageOf : MethodName := ⟨RX1, "pageOf", "(I)I"⟩
abbrev cX1_read : ByteArray := prog_3_method_25_code
def yX1_read : MethodName := ⟨RX1, "read", "(III)J"⟩
abbrev cX1_isSize : ByteArray := prog_3_method_24_code
def yX1_isSize : MethodName := ⟨RX1, "isSize", "(I)Z"⟩
abbrev cX1_reach : ByteArray := prog_3_method_23_code
def yX1_reach : MethodName := ⟨RX1, "reach", "(IIIZ)I"⟩
abbrev cX1_translate : ByteArray := prog_3_method_22_code
def yX1_translate : MethodName := ⟨RX1, "translate", "(IIZZ)I"⟩
abbrev cX1_look : ByteArray := prog_3_method_20_code
def yX1_look : MethodName := ⟨RX1, "look", "(IZ)I"⟩
abbrev cX1_isInside : ByteArray := prog_3_method_18_code
def yX1_isInside : MethodName := ⟨RX1, "isInside", "(I)Z"⟩
abbrev cX1_keeps : ByteArray := prog_3_method_17_code
def yX1_keeps : MethodName := ⟨RX1, "keeps", "(III)V"⟩
abbrev cX1_isRight : ByteArray := prog_3_method_21_code
def yX1_isRight : MethodName := ⟨RX1, "isRight", "(IZ)Z"⟩
abbrev cX1_write : ByteArray := prog_3_method_26_code
def yX1_write : MethodName := ⟨RX1, "write", "(IIII)I"⟩
abbrev cX1_where : ByteArray := prog_3_method_27_code
def yX1_where : MethodName := ⟨RX1, "where", "(IIZ)I"⟩
abbrev cX1_may : ByteArray := prog_3_method_28_code
def yX1_may : MethodName := ⟨RX1, "may", "(IIZ)I"⟩
abbrev cX1_kept : ByteArray := prog_3_method_29_code
def yX1_kept : MethodName := ⟨RX1, "kept", "(II)J"⟩
abbrev cX1_failed : ByteArray := prog_3_method_30_code
def yX1_failed : MethodName := ⟨RX1, "failed", "()I"⟩
abbrev cL_law : ByteArray := code
abbrev vwCl : List vw_C := [(RX0, TX0, 9), (RX1, TX1, 14)]
def bX0_q0 : List Cond := [Cond.fieldLink RX0 9 "KeptPages" "memory" "[B", Cond.fieldLink RX0 13 "KeptPages" "bases" "[I", Cond.fieldLink RX0 17 "KeptPages" "lengths" "[I", Cond.fieldLink RX0 20 "KeptPages" "mapped" "Z", Cond.fieldLink RX0 24 "KeptPages" "failedAt" "I", Cond.fieldLink RX0 28 "KeptPages" "keptPages" "[I", Cond.fieldLink RX0 37 "KeptPages" "keptEntries" "[I", Cond.fieldLink RX0 40 "KeptPages" "keptPlaces" "[I", Cond.fieldLink RX0 43 "KeptPages" "places" "[I", Cond.constantLong RX0 54 4294967295, Cond.constantLong RX0 56 (-1), Cond.constant RX0 58 65535, Cond.constantLong RX0 73 (-101), Cond.constant RX0 144 (-2147483648), Cond.fieldLink RX0 138 "KeptPages" "MAY_WRITE" "[I", Cond.fieldLink RX0 141 "KeptPages" "MAY_READ" "[I", Cond.constant RX0 137 67108864, Cond.initialized RX0, Cond.arrayClass .byte, Cond.arrayClass .int, Cond.methodLink RX0 1 objectInit, Cond.methodLink RX0 31 yJ_fill, Cond.methodLink RX0 46 yX0_inMemory, Cond.methodLink RX0 50 yX0_entryAt, Cond.methodLink RX0 79 yX0_byteAt, Cond.methodLink RX0 59 yX0_forget, Cond.methodLink RX0 63 yX0_slotOf, Cond.methodLink RX0 128 yX0_pageOf, Cond.methodLink RX0 125 yX0_regionOf, Cond.methodLink RX0 66 yX0_counts, Cond.methodLink RX0 69 yX0_isCount, Cond.methodLink RX0 75 yX0_findPlaces, Cond.methodLink RX0 97 yX0_placeInPage, Cond.methodLink RX0 82 yX0_translate, Cond.methodLink RX0 90 yX0_placeOfEntry, Cond.methodLink RX0 131 yX0_inside, Cond.methodLink RX0 104 yX0_access, Cond.methodLink RX0 134 yX0_placeThroughS, Cond.methodLink RX0 121 yX0_physical, Cond.methodLink RX0 108 yX0_isValid]
def bX0_q1 : List Cond := [Cond.methodLink RX0 111 yX0_missing, Cond.methodLink RX0 114 yX0_keepEntry, Cond.methodLink RX0 86 yX0_gives, Cond.methodLink RX0 118 yX0_markWritten, Cond.methodLink RX0 100 yX0_noteFault, Cond.methodLink RX0 94 yX0_isAccess, Cond.initialized RJ, Cond.instanceMethod yX0_init, Cond.instanceMethod objectInit, Cond.static yJ_fill, Cond.instanceMethod yX0_put, Cond.instanceMethod yX0_inMemory, Cond.instanceMethod yX0_entry, Cond.instanceMethod yX0_entryOf, Cond.instanceMethod yX0_entryAt, Cond.instanceMethod yX0_byteAt, Cond.instanceMethod yX0_region, Cond.instanceMethod yX0_forget, Cond.instanceMethod yX0_map, Cond.instanceMethod yX0_drop, Cond.static yX0_slotOf, Cond.static yX0_pageOf, Cond.static yX0_regionOf, Cond.instanceMethod yX0_counts, Cond.instanceMethod yX0_read, Cond.static yX0_isCount, Cond.instanceMethod yX0_findPlaces, Cond.static yX0_placeInPage, Cond.instanceMethod yX0_translate, Cond.instanceMethod yX0_placeOfEntry, Cond.instanceMethod yX0_inside, Cond.static yX0_access, Cond.instanceMethod yX0_placeThroughS, Cond.static yX0_physical, Cond.static yX0_isValid, Cond.static yX0_missing, Cond.instanceMethod yX0_keepEntry, Cond.static yX0_gives, Cond.instanceMethod yX0_markWritten, Cond.instanceMethod yX0_noteFault]
def bX0_q2 : List Cond := [Cond.instanceMethod yX0_write, Cond.instanceMethod yX0_where, Cond.instanceMethod yX0_may, Cond.static yX0_isAccess, Cond.instanceMethod yX0_kept, Cond.instanceMethod yX0_failed, Cond.selects RX0 yX0_put yX0_put, Cond.selects RX0 yX0_entry yX0_entry, Cond.selects RX0 yX0_entryOf yX0_entryOf, Cond.selects RX0 yX0_region yX0_region, Cond.selects RX0 yX0_map yX0_map, Cond.selects RX0 yX0_drop yX0_drop, Cond.selects RX0 yX0_read yX0_read, Cond.selects RX0 yX0_write yX0_write, Cond.selects RX0 yX0_where yX0_where, Cond.selects RX0 yX0_may yX0_may, Cond.selects RX0 yX0_kept yX0_kept, Cond.selects RX0 yX0_failed yX0_failed, Cond.selects RX0 yX0_inMemory yX0_inMemory, Cond.selects RX0 yX0_entryAt yX0_entryAt, Cond.selects RX0 yX0_byteAt yX0_byteAt, Cond.selects RX0 yX0_forget yX0_forget, Cond.selects RX0 yX0_counts yX0_counts, Cond.selects RX0 yX0_findPlaces yX0_findPlaces, Cond.selects RX0 yX0_translate yX0_translate, Cond.selects RX0 yX0_placeOfEntry yX0_placeOfEntry, Cond.selects RX0 yX0_inside yX0_inside, Cond.selects RX0 yX0_placeThroughS yX0_placeThroughS, Cond.selects RX0 yX0_keepEntry yX0_keepEntry, Cond.selects RX0 yX0_markWritten yX0_markWritten, Cond.selects RX0 yX0_noteFault yX0_noteFault, Cond.code yX0_init cX0_init 3 none, Cond.code objectInit ⟨#[0xb1]⟩ 1 none, Cond.code yJ_fill cJ_fill 4 none, Cond.code yX0_put cX0_put 3 (some .boolean), Cond.code yX0_inMemory cX0_inMemory 3 (some .boolean), Cond.code yX0_entry cX0_entry 4 (some .boolean), Cond.code yX0_entryOf cX0_entryOf 2 (some .long), Cond.code yX0_entryAt cX0_entryAt 2 (some .int), Cond.code yX0_byteAt cX0_byteAt 2 (some .int)]
def bX0_q3 : List Cond := [Cond.code yX0_region cX0_region 4 (some .boolean), Cond.code yX0_forget cX0_forget 3 none, Cond.code yX0_map cX0_map 2 none, Cond.code yX0_drop cX0_drop 4 (some .boolean), Cond.code yX0_slotOf cX0_slotOf 2 (some .int), Cond.code yX0_pageOf cX0_pageOf 1 (some .int), Cond.code yX0_regionOf cX0_regionOf 1 (some .int), Cond.code yX0_counts cX0_counts 3 (some .boolean), Cond.code yX0_read cX0_read 8 (some .long), Cond.code yX0_isCount cX0_isCount 1 (some .boolean), Cond.code yX0_findPlaces cX0_findPlaces 8 (some .int), Cond.code yX0_placeInPage cX0_placeInPage 1 (some .int), Cond.code yX0_translate cX0_translate 9 (some .int), Cond.code yX0_placeOfEntry cX0_placeOfEntry 8 (some .int), Cond.code yX0_inside cX0_inside 3 (some .boolean), Cond.code yX0_access cX0_access 2 (some .int), Cond.code yX0_placeThroughS cX0_placeThroughS 7 (some .int), Cond.code yX0_physical cX0_physical 2 (some .int), Cond.code yX0_isValid cX0_isValid 1 (some .boolean), Cond.code yX0_missing cX0_missing 2 (some .int), Cond.code yX0_keepEntry cX0_keepEntry 5 none, Cond.code yX0_gives cX0_gives 5 (some .boolean), Cond.code yX0_markWritten cX0_markWritten 2 none, Cond.code yX0_noteFault cX0_noteFault 3 none, Cond.code yX0_write cX0_write 7 (some .int), Cond.code yX0_where cX0_where 5 (some .int), Cond.code yX0_may cX0_may 7 (some .int), Cond.code yX0_isAccess cX0_isAccess 1 (some .boolean), Cond.code yX0_kept cX0_kept 4 (some .long), Cond.code yX0_failed cX0_failed 1 (some .int)]
def bX0 : List Cond := (bX0_q0 ++ (bX0_q1 ++ (bX0_q2 ++ (bX0_q3 ++ wsX00))))
theorem bX0_i0 : ∀ w ∈ bX0_q0, w ∈ bX0 := fun _ h => List.mem_append_left _ h
theorem bX0_i1 : ∀ w ∈ bX0_q1, w ∈ bX0 := fun _ h => List.mem_append_right _ (List.mem_append_left _ h)
theorem bX0_i2 : ∀ w ∈ bX0_q2, w ∈ bX0 := fun _ h => List.mem_append_right _ (List.mem_append_right _ (List.mem_append_left _ h))
theorem bX0_i3 : ∀ w ∈ bX0_q3, w ∈ bX0 := fun _ h => List.mem_append_right _ (List.mem_append_right _ (List.mem_append_right _ (List.mem_append_left _ h)))
theorem inbX0 : ∀ w ∈ wsX00, w ∈ bX0 := fun _ h => List.mem_append_right _ (List.mem_append_right _ (List.mem_append_right _ (List.mem_append_right _ (h))))
theorem bX0_0 : Cond.fieldLink RX0 9 "KeptPages" "memory" "[B" ∈ bX0 := bX0_i0 _ (List.mem_of_getElem? (i := 0) rfl)
theorem bX0_1 : Cond.fieldLink RX0 13 "KeptPages" "bases" "[I" ∈ bX0 := bX0_i0 _ (List.mem_of_getElem? (i := 1) rfl)
theorem bX0_2 : Cond.fieldLink RX0 17 "KeptPages" "lengths" "[I" ∈ bX0 := bX0_i0 _ (List.mem_of_getElem? (i := 2) rfl)
theorem bX0_3 : Cond.fieldLink RX0 20 "KeptPages" "mapped" "Z" ∈ bX0 := bX0_i0 _ (List.mem_of_getElem? (i := 3) rfl)
theorem bX0_4 : Cond.fieldLink RX0 24 "KeptPages" "failedAt" "I" ∈ bX0 := bX0_i0 _ (List.mem_of_getElem? (i := 4) rfl)
theorem bX0_5 : Cond.fieldLink RX0 28 "KeptPages" "keptPages" "[I" ∈ bX0 := bX0_i0 _ (List.mem_of_getElem? (i := 5) rfl)
theorem bX0_6 : Cond.fieldLink RX0 37 "KeptPages" "keptEntries" "[I" ∈ bX0 := bX0_i0 _ (List.mem_of_getElem? (i := 6) rfl)
theorem bX0_7 : Cond.fieldLink RX0 40 "KeptPages" "keptPlaces" "[I" ∈ bX0 := bX0_i0 _ (List.mem_of_getElem? (i := 7) rfl)
theorem bX0_8 : Cond.fieldLink RX0 43 "KeptPages" "places" "[I" ∈ bX0 := bX0_i0 _ (List.mem_of_getElem? (i := 8) rfl)
theorem bX0_9 : Cond.constantLong RX0 54 4294967295 ∈ bX0 := bX0_i0 _ (List.mem_of_getElem? (i := 9) rfl)
theorem bX0_10 : Cond.constantLong RX0 56 (-1) ∈ bX0 := bX0_i0 _ (List.mem_of_getElem? (i := 10) rfl)
theorem bX0_11 : Cond.constant RX0 58 65535 ∈ bX0 := bX0_i0 _ (List.mem_of_getElem? (i := 11) rfl)
theorem bX0_12 : Cond.constantLong RX0 73 (-101) ∈ bX0 := bX0_i0 _ (List.mem_of_getElem? (i := 12) rfl)
theorem bX0_13 : Cond.constant RX0 144 (-2147483648) ∈ bX0 := bX0_i0 _ (List.mem_of_getElem? (i := 13) rfl)
theorem bX0_14 : Cond.fieldLink RX0 138 "KeptPages" "MAY_WRITE" "[I" ∈ bX0 := bX0_i0 _ (List.mem_of_getElem? (i := 14) rfl)
theorem bX0_15 : Cond.fieldLink RX0 141 "KeptPages" "MAY_READ" "[I" ∈ bX0 := bX0_i0 _ (List.mem_of_getElem? (i := 15) rfl)
theorem bX0_16 : Cond.constant RX0 137 67108864 ∈ bX0 := bX0_i0 _ (List.mem_of_getElem? (i := 16) rfl)
theorem bX0_17 : Cond.initialized RX0 ∈ bX0 := bX0_i0 _ (List.mem_of_getElem? (i := 17) rfl)
theorem bX0_18 : Cond.arrayClass .byte ∈ bX0 := bX0_i0 _ (List.mem_of_getElem? (i := 18) rfl)
theorem bX0_19 : Cond.arrayClass .int ∈ bX0 := bX0_i0 _ (List.mem_of_getElem? (i := 19) rfl)
theorem bX0_20 : Cond.methodLink RX0 1 objectInit ∈ bX0 := bX0_i0 _ (List.mem_of_getElem? (i := 20) rfl)
theorem bX0_21 : Cond.methodLink RX0 31 yJ_fill ∈ bX0 := bX0_i0 _ (List.mem_of_getElem? (i := 21) rfl)
theorem bX0_22 : Cond.methodLink RX0 46 yX0_inMemory ∈ bX0 := bX0_i0 _ (List.mem_of_getElem? (i := 22) rfl)
theorem bX0_23 : Cond.methodLink RX0 50 yX0_entryAt ∈ bX0 := bX0_i0 _ (List.mem_of_getElem? (i := 23) rfl)
theorem bX0_24 : Cond.methodLink RX0 79 yX0_byteAt ∈ bX0 := bX0_i0 _ (List.mem_of_getElem? (i := 24) rfl)
theorem bX0_25 : Cond.methodLink RX0 59 yX0_forget ∈ bX0 := bX0_i0 _ (List.mem_of_getElem? (i := 25) rfl)
theorem bX0_26 : Cond.methodLink RX0 63 yX0_slotOf ∈ bX0 := bX0_i0 _ (List.mem_of_getElem? (i := 26) rfl)
theorem bX0_27 : Cond.methodLink RX0 128 yX0_pageOf ∈ bX0 := bX0_i0 _ (List.mem_of_getElem? (i := 27) rfl)
theorem bX0_28 : Cond.methodLink RX0 125 yX0_regionOf ∈ bX0 := bX0_i0 _ (List.mem_of_getElem? (i := 28) rfl)
theorem bX0_29 : Cond.methodLink RX0 66 yX0_counts ∈ bX0 := bX0_i0 _ (List.mem_of_getElem? (i := 29) rfl)
theorem bX0_30 : Cond.methodLink RX0 69 yX0_isCount ∈ bX0 := bX0_i0 _ (List.mem_of_getElem? (i := 30) rfl)
theorem bX0_31 : Cond.methodLink RX0 75 yX0_findPlaces ∈ bX0 := bX0_i0 _ (List.mem_of_getElem? (i := 31) rfl)
theorem bX0_32 : Cond.methodLink RX0 97 yX0_placeInPage ∈ bX0 := bX0_i0 _ (List.mem_of_getElem? (i := 32) rfl)
theorem bX0_33 : Cond.methodLink RX0 82 yX0_translate ∈ bX0 := bX0_i0 _ (List.mem_of_getElem? (i := 33) rfl)
theorem bX0_34 : Cond.methodLink RX0 90 yX0_placeOfEntry ∈ bX0 := bX0_i0 _ (List.mem_of_getElem? (i := 34) rfl)
theorem bX0_35 : Cond.methodLink RX0 131 yX0_inside ∈ bX0 := bX0_i0 _ (List.mem_of_getElem? (i := 35) rfl)
theorem bX0_36 : Cond.methodLink RX0 104 yX0_access ∈ bX0 := bX0_i0 _ (List.mem_of_getElem? (i := 36) rfl)
theorem bX0_37 : Cond.methodLink RX0 134 yX0_placeThroughS ∈ bX0 := bX0_i0 _ (List.mem_of_getElem? (i := 37) rfl)
theorem bX0_38 : Cond.methodLink RX0 121 yX0_physical ∈ bX0 := bX0_i0 _ (List.mem_of_getElem? (i := 38) rfl)
theorem bX0_39 : Cond.methodLink RX0 108 yX0_isValid ∈ bX0 := bX0_i0 _ (List.mem_of_getElem? (i := 39) rfl)
theorem bX0_40 : Cond.methodLink RX0 111 yX0_missing ∈ bX0 := bX0_i1 _ (List.mem_of_getElem? (i := 0) rfl)
theorem bX0_41 : Cond.methodLink RX0 114 yX0_keepEntry ∈ bX0 := bX0_i1 _ (List.mem_of_getElem? (i := 1) rfl)
theorem bX0_42 : Cond.methodLink RX0 86 yX0_gives ∈ bX0 := bX0_i1 _ (List.mem_of_getElem? (i := 2) rfl)
theorem bX0_43 : Cond.methodLink RX0 118 yX0_markWritten ∈ bX0 := bX0_i1 _ (List.mem_of_getElem? (i := 3) rfl)
theorem bX0_44 : Cond.methodLink RX0 100 yX0_noteFault ∈ bX0 := bX0_i1 _ (List.mem_of_getElem? (i := 4) rfl)
theorem bX0_45 : Cond.methodLink RX0 94 yX0_isAccess ∈ bX0 := bX0_i1 _ (List.mem_of_getElem? (i := 5) rfl)
theorem bX0_46 : Cond.initialized RJ ∈ bX0 := bX0_i1 _ (List.mem_of_getElem? (i := 6) rfl)
theorem bX0_47 : Cond.instanceMethod yX0_init ∈ bX0 := bX0_i1 _ (List.mem_of_getElem? (i := 7) rfl)
theorem bX0_48 : Cond.instanceMethod objectInit ∈ bX0 := bX0_i1 _ (List.mem_of_getElem? (i := 8) rfl)
theorem bX0_49 : Cond.static yJ_fill ∈ bX0 := bX0_i1 _ (List.mem_of_getElem? (i := 9) rfl)
theorem bX0_50 : Cond.instanceMethod yX0_put ∈ bX0 := bX0_i1 _ (List.mem_of_getElem? (i := 10) rfl)
theorem bX0_51 : Cond.instanceMethod yX0_inMemory ∈ bX0 := bX0_i1 _ (List.mem_of_getElem? (i := 11) rfl)
theorem bX0_52 : Cond.instanceMethod yX0_entry ∈ bX0 := bX0_i1 _ (List.mem_of_getElem? (i := 12) rfl)
theorem bX0_53 : Cond.instanceMethod yX0_entryOf ∈ bX0 := bX0_i1 _ (List.mem_of_getElem? (i := 13) rfl)
theorem bX0_54 : Cond.instanceMethod yX0_entryAt ∈ bX0 := bX0_i1 _ (List.mem_of_getElem? (i := 14) rfl)
theorem bX0_55 : Cond.instanceMethod yX0_byteAt ∈ bX0 := bX0_i1 _ (List.mem_of_getElem? (i := 15) rfl)
theorem bX0_56 : Cond.instanceMethod yX0_region ∈ bX0 := bX0_i1 _ (List.mem_of_getElem? (i := 16) rfl)
theorem bX0_57 : Cond.instanceMethod yX0_forget ∈ bX0 := bX0_i1 _ (List.mem_of_getElem? (i := 17) rfl)
theorem bX0_58 : Cond.instanceMethod yX0_map ∈ bX0 := bX0_i1 _ (List.mem_of_getElem? (i := 18) rfl)
theorem bX0_59 : Cond.instanceMethod yX0_drop ∈ bX0 := bX0_i1 _ (List.mem_of_getElem? (i := 19) rfl)
theorem bX0_60 : Cond.static yX0_slotOf ∈ bX0 := bX0_i1 _ (List.mem_of_getElem? (i := 20) rfl)
theorem bX0_61 : Cond.static yX0_pageOf ∈ bX0 := bX0_i1 _ (List.mem_of_getElem? (i := 21) rfl)
theorem bX0_62 : Cond.static yX0_regionOf ∈ bX0 := bX0_i1 _ (List.mem_of_getElem? (i := 22) rfl)
theorem bX0_63 : Cond.instanceMethod yX0_counts ∈ bX0 := bX0_i1 _ (List.mem_of_getElem? (i := 23) rfl)
theorem bX0_64 : Cond.instanceMethod yX0_read ∈ bX0 := bX0_i1 _ (List.mem_of_getElem? (i := 24) rfl)
theorem bX0_65 : Cond.static yX0_isCount ∈ bX0 := bX0_i1 _ (List.mem_of_getElem? (i := 25) rfl)
theorem bX0_66 : Cond.instanceMethod yX0_findPlaces ∈ bX0 := bX0_i1 _ (List.mem_of_getElem? (i := 26) rfl)
theorem bX0_67 : Cond.static yX0_placeInPage ∈ bX0 := bX0_i1 _ (List.mem_of_getElem? (i := 27) rfl)
theorem bX0_68 : Cond.instanceMethod yX0_translate ∈ bX0 := bX0_i1 _ (List.mem_of_getElem? (i := 28) rfl)
theorem bX0_69 : Cond.instanceMethod yX0_placeOfEntry ∈ bX0 := bX0_i1 _ (List.mem_of_getElem? (i := 29) rfl)
theorem bX0_70 : Cond.instanceMethod yX0_inside ∈ bX0 := bX0_i1 _ (List.mem_of_getElem? (i := 30) rfl)
theorem bX0_71 : Cond.static yX0_access ∈ bX0 := bX0_i1 _ (List.mem_of_getElem? (i := 31) rfl)
theorem bX0_72 : Cond.instanceMethod yX0_placeThroughS ∈ bX0 := bX0_i1 _ (List.mem_of_getElem? (i := 32) rfl)
theorem bX0_73 : Cond.static yX0_physical ∈ bX0 := bX0_i1 _ (List.mem_of_getElem? (i := 33) rfl)
theorem bX0_74 : Cond.static yX0_isValid ∈ bX0 := bX0_i1 _ (List.mem_of_getElem? (i := 34) rfl)
theorem bX0_75 : Cond.static yX0_missing ∈ bX0 := bX0_i1 _ (List.mem_of_getElem? (i := 35) rfl)
theorem bX0_76 : Cond.instanceMethod yX0_keepEntry ∈ bX0 := bX0_i1 _ (List.mem_of_getElem? (i := 36) rfl)
theorem bX0_77 : Cond.static yX0_gives ∈ bX0 := bX0_i1 _ (List.mem_of_getElem? (i := 37) rfl)
theorem bX0_78 : Cond.instanceMethod yX0_markWritten ∈ bX0 := bX0_i1 _ (List.mem_of_getElem? (i := 38) rfl)
theorem bX0_79 : Cond.instanceMethod yX0_noteFault ∈ bX0 := bX0_i1 _ (List.mem_of_getElem? (i := 39) rfl)
theorem bX0_80 : Cond.instanceMethod yX0_write ∈ bX0 := bX0_i2 _ (List.mem_of_getElem? (i := 0) rfl)
theorem bX0_81 : Cond.instanceMethod yX0_where ∈ bX0 := bX0_i2 _ (List.mem_of_getElem? (i := 1) rfl)
theorem bX0_82 : Cond.instanceMethod yX0_may ∈ bX0 := bX0_i2 _ (List.mem_of_getElem? (i := 2) rfl)
theorem bX0_83 : Cond.static yX0_isAccess ∈ bX0 := bX0_i2 _ (List.mem_of_getElem? (i := 3) rfl)
theorem bX0_84 : Cond.instanceMethod yX0_kept ∈ bX0 := bX0_i2 _ (List.mem_of_getElem? (i := 4) rfl)
theorem bX0_85 : Cond.instanceMethod yX0_failed ∈ bX0 := bX0_i2 _ (List.mem_of_getElem? (i := 5) rfl)
theorem bX0_86 : Cond.selects RX0 yX0_put yX0_put ∈ bX0 := bX0_i2 _ (List.mem_of_getElem? (i := 6) rfl)
theorem bX0_87 : Cond.selects RX0 yX0_entry yX0_entry ∈ bX0 := bX0_i2 _ (List.mem_of_getElem? (i := 7) rfl)
theorem bX0_88 : Cond.selects RX0 yX0_entryOf yX0_entryOf ∈ bX0 := bX0_i2 _ (List.mem_of_getElem? (i := 8) rfl)
theorem bX0_89 : Cond.selects RX0 yX0_region yX0_region ∈ bX0 := bX0_i2 _ (List.mem_of_getElem? (i := 9) rfl)
theorem bX0_90 : Cond.selects RX0 yX0_map yX0_map ∈ bX0 := bX0_i2 _ (List.mem_of_getElem? (i := 10) rfl)
theorem bX0_91 : Cond.selects RX0 yX0_drop yX0_drop ∈ bX0 := bX0_i2 _ (List.mem_of_getElem? (i := 11) rfl)
theorem bX0_92 : Cond.selects RX0 yX0_read yX0_read ∈ bX0 := bX0_i2 _ (List.mem_of_getElem? (i := 12) rfl)
theorem bX0_93 : Cond.selects RX0 yX0_write yX0_write ∈ bX0 := bX0_i2 _ (List.mem_of_getElem? (i := 13) rfl)
theorem bX0_94 : Cond.selects RX0 yX0_where yX0_where ∈ bX0 := bX0_i2 _ (List.mem_of_getElem? (i := 14) rfl)
theorem bX0_95 : Cond.selects RX0 yX0_may yX0_may ∈ bX0 := bX0_i2 _ (List.mem_of_getElem? (i := 15) rfl)
theorem bX0_96 : Cond.selects RX0 yX0_kept yX0_kept ∈ bX0 := bX0_i2 _ (List.mem_of_getElem? (i := 16) rfl)
theorem bX0_97 : Cond.selects RX0 yX0_failed yX0_failed ∈ bX0 := bX0_i2 _ (List.mem_of_getElem? (i := 17) rfl)
theorem bX0_98 : Cond.selects RX0 yX0_inMemory yX0_inMemory ∈ bX0 := bX0_i2 _ (List.mem_of_getElem? (i := 18) rfl)
theorem bX0_99 : Cond.selects RX0 yX0_entryAt yX0_entryAt ∈ bX0 := bX0_i2 _ (List.mem_of_getElem? (i := 19) rfl)
theorem bX0_100 : Cond.selects RX0 yX0_byteAt yX0_byteAt ∈ bX0 := bX0_i2 _ (List.mem_of_getElem? (i := 20) rfl)
theorem bX0_101 : Cond.selects RX0 yX0_forget yX0_forget ∈ bX0 := bX0_i2 _ (List.mem_of_getElem? (i := 21) rfl)
theorem bX0_102 : Cond.selects RX0 yX0_counts yX0_counts ∈ bX0 := bX0_i2 _ (List.mem_of_getElem? (i := 22) rfl)
theorem bX0_103 : Cond.selects RX0 yX0_findPlaces yX0_findPlaces ∈ bX0 := bX0_i2 _ (List.mem_of_getElem? (i := 23) rfl)
theorem bX0_104 : Cond.selects RX0 yX0_translate yX0_translate ∈ bX0 := bX0_i2 _ (List.mem_of_getElem? (i := 24) rfl)
theorem bX0_105 : Cond.selects RX0 yX0_placeOfEntry yX0_placeOfEntry ∈ bX0 := bX0_i2 _ (List.mem_of_getElem? (i := 25) rfl)
theorem bX0_106 : Cond.selects RX0 yX0_inside yX0_inside ∈ bX0 := bX0_i2 _ (List.mem_of_getElem? (i := 26) rfl)
theorem bX0_107 : Cond.selects RX0 yX0_placeThroughS yX0_placeThroughS ∈ bX0 := bX0_i2 _ (List.mem_of_getElem? (i := 27) rfl)
theorem bX0_108 : Cond.selects RX0 yX0_keepEntry yX0_keepEntry ∈ bX0 := bX0_i2 _ (List.mem_of_getElem? (i := 28) rfl)
theorem bX0_109 : Cond.selects RX0 yX0_markWritten yX0_markWritten ∈ bX0 := bX0_i2 _ (List.mem_of_getElem? (i := 29) rfl)
theorem bX0_110 : Cond.selects RX0 yX0_noteFault yX0_noteFault ∈ bX0 := bX0_i2 _ (List.mem_of_getElem? (i := 30) rfl)
theorem bX0_111 : Cond.code yX0_init cX0_init 3 none ∈ bX0 := bX0_i2 _ (List.mem_of_getElem? (i := 31) rfl)
theorem bX0_112 : Cond.code objectInit ⟨#[0xb1]⟩ 1 none ∈ bX0 := bX0_i2 _ (List.mem_of_getElem? (i := 32) rfl)
theorem bX0_113 : Cond.code yJ_fill cJ_fill 4 none ∈ bX0 := bX0_i2 _ (List.mem_of_getElem? (i := 33) rfl)
theorem bX0_114 : Cond.code yX0_put cX0_put 3 (some .boolean) ∈ bX0 := bX0_i2 _ (List.mem_of_getElem? (i := 34) rfl)
theorem bX0_115 : Cond.code yX0_inMemory cX0_inMemory 3 (some .boolean) ∈ bX0 := bX0_i2 _ (List.mem_of_getElem? (i := 35) rfl)
theorem bX0_116 : Cond.code yX0_entry cX0_entry 4 (some .boolean) ∈ bX0 := bX0_i2 _ (List.mem_of_getElem? (i := 36) rfl)
theorem bX0_117 : Cond.code yX0_entryOf cX0_entryOf 2 (some .long) ∈ bX0 := bX0_i2 _ (List.mem_of_getElem? (i := 37) rfl)
theorem bX0_118 : Cond.code yX0_entryAt cX0_entryAt 2 (some .int) ∈ bX0 := bX0_i2 _ (List.mem_of_getElem? (i := 38) rfl)
theorem bX0_119 : Cond.code yX0_byteAt cX0_byteAt 2 (some .int) ∈ bX0 := bX0_i2 _ (List.mem_of_getElem? (i := 39) rfl)
theorem bX0_120 : Cond.code yX0_region cX0_region 4 (some .boolean) ∈ bX0 := bX0_i3 _ (List.mem_of_getElem? (i := 0) rfl)
theorem bX0_121 : Cond.code yX0_forget cX0_forget 3 none ∈ bX0 := bX0_i3 _ (List.mem_of_getElem? (i := 1) rfl)
theorem bX0_122 : Cond.code yX0_map cX0_map 2 none ∈ bX0 := bX0_i3 _ (List.mem_of_getElem? (i := 2) rfl)
theorem bX0_123 : Cond.code yX0_drop cX0_drop 4 (some .boolean) ∈ bX0 := bX0_i3 _ (List.mem_of_getElem? (i := 3) rfl)
theorem bX0_124 : Cond.code yX0_slotOf cX0_slotOf 2 (some .int) ∈ bX0 := bX0_i3 _ (List.mem_of_getElem? (i := 4) rfl)
theorem bX0_125 : Cond.code yX0_pageOf cX0_pageOf 1 (some .int) ∈ bX0 := bX0_i3 _ (List.mem_of_getElem? (i := 5) rfl)
theorem bX0_126 : Cond.code yX0_regionOf cX0_regionOf 1 (some .int) ∈ bX0 := bX0_i3 _ (List.mem_of_getElem? (i := 6) rfl)
theorem bX0_127 : Cond.code yX0_counts cX0_counts 3 (some .boolean) ∈ bX0 := bX0_i3 _ (List.mem_of_getElem? (i := 7) rfl)
theorem bX0_128 : Cond.code yX0_read cX0_read 8 (some .long) ∈ bX0 := bX0_i3 _ (List.mem_of_getElem? (i := 8) rfl)
theorem bX0_129 : Cond.code yX0_isCount cX0_isCount 1 (some .boolean) ∈ bX0 := bX0_i3 _ (List.mem_of_getElem? (i := 9) rfl)
theorem bX0_130 : Cond.code yX0_findPlaces cX0_findPlaces 8 (some .int) ∈ bX0 := bX0_i3 _ (List.mem_of_getElem? (i := 10) rfl)
theorem bX0_131 : Cond.code yX0_placeInPage cX0_placeInPage 1 (some .int) ∈ bX0 := bX0_i3 _ (List.mem_of_getElem? (i := 11) rfl)
theorem bX0_132 : Cond.code yX0_translate cX0_translate 9 (some .int) ∈ bX0 := bX0_i3 _ (List.mem_of_getElem? (i := 12) rfl)
theorem bX0_133 : Cond.code yX0_placeOfEntry cX0_placeOfEntry 8 (some .int) ∈ bX0 := bX0_i3 _ (List.mem_of_getElem? (i := 13) rfl)
theorem bX0_134 : Cond.code yX0_inside cX0_inside 3 (some .boolean) ∈ bX0 := bX0_i3 _ (List.mem_of_getElem? (i := 14) rfl)
theorem bX0_135 : Cond.code yX0_access cX0_access 2 (some .int) ∈ bX0 := bX0_i3 _ (List.mem_of_getElem? (i := 15) rfl)
theorem bX0_136 : Cond.code yX0_placeThroughS cX0_placeThroughS 7 (some .int) ∈ bX0 := bX0_i3 _ (List.mem_of_getElem? (i := 16) rfl)
theorem bX0_137 : Cond.code yX0_physical cX0_physical 2 (some .int) ∈ bX0 := bX0_i3 _ (List.mem_of_getElem? (i := 17) rfl)
theorem bX0_138 : Cond.code yX0_isValid cX0_isValid 1 (some .boolean) ∈ bX0 := bX0_i3 _ (List.mem_of_getElem? (i := 18) rfl)
theorem bX0_139 : Cond.code yX0_missing cX0_missing 2 (some .int) ∈ bX0 := bX0_i3 _ (List.mem_of_getElem? (i := 19) rfl)
theorem bX0_140 : Cond.code yX0_keepEntry cX0_keepEntry 5 none ∈ bX0 := bX0_i3 _ (List.mem_of_getElem? (i := 20) rfl)
theorem bX0_141 : Cond.code yX0_gives cX0_gives 5 (some .boolean) ∈ bX0 := bX0_i3 _ (List.mem_of_getElem? (i := 21) rfl)
theorem bX0_142 : Cond.code yX0_markWritten cX0_markWritten 2 none ∈ bX0 := bX0_i3 _ (List.mem_of_getElem? (i := 22) rfl)
theorem bX0_143 : Cond.code yX0_noteFault cX0_noteFault 3 none ∈ bX0 := bX0_i3 _ (List.mem_of_getElem? (i := 23) rfl)
theorem bX0_144 : Cond.code yX0_write cX0_write 7 (some .int) ∈ bX0 := bX0_i3 _ (List.mem_of_getElem? (i := 24) rfl)
theorem bX0_145 : Cond.code yX0_where cX0_where 5 (some .int) ∈ bX0 := bX0_i3 _ (List.mem_of_getElem? (i := 25) rfl)
theorem bX0_146 : Cond.code yX0_may cX0_may 7 (some .int) ∈ bX0 := bX0_i3 _ (List.mem_of_getElem? (i := 26) rfl)
theorem bX0_147 : Cond.code yX0_isAccess cX0_isAccess 1 (some .boolean) ∈ bX0 := bX0_i3 _ (List.mem_of_getElem? (i := 27) rfl)
theorem bX0_148 : Cond.code yX0_kept cX0_kept 4 (some .long) ∈ bX0 := bX0_i3 _ (List.mem_of_getElem? (i := 28) rfl)
theorem bX0_149 : Cond.code yX0_failed cX0_failed 1 (some .int) ∈ bX0 := bX0_i3 _ (List.mem_of_getElem? (i := 29) rfl)
theorem bX0_g0 : bX0_q0.all goodWord = true := by decide +kernel
theorem bX0_g1 : bX0_q1.all goodWord = true := by decide +kernel
theorem bX0_g2 : bX0_q2.all goodWord = true := by decide +kernel
theorem bX0_g3 : bX0_q3.all goodWord = true := by decide +kernel
theorem bX0_gw : wsX00.all goodWord = true := by decide +kernel
theorem bX0_good : ∀ w ∈ bX0, goodWord w = true := fun w h => (List.mem_append.mp h).elim (List.all_eq_true.mp bX0_g0 w) (fun h => (List.mem_append.mp h).elim (List.all_eq_true.mp bX0_g1 w) (fun h => (List.mem_append.mp h).elim (List.all_eq_true.mp bX0_g2 w) (fun h => (List.mem_append.mp h).elim (List.all_eq_true.mp bX0_g3 w) (fun h => List.all_eq_true.mp bX0_gw w h))))
set_option maxRecDepth 20000 in
theorem bX0_t0 : GoodIn lw_tbl bX0_q0 := goodIn_p bX0_q0 [] rfl (by decide +kernel)
set_option maxRecDepth 20000 in
theorem bX0_t1 : GoodIn lw_tbl bX0_q1 := goodIn_p bX0_q1 [] rfl (by decide +kernel)
set_option maxRecDepth 20000 in
theorem bX0_t2 : GoodIn lw_tbl bX0_q2 := goodIn_p bX0_q2 [34, 37, 40, 74, 78, 82, 86, 90, 94] rfl (by decide +kernel)
set_option maxRecDepth 20000 in
theorem bX0_t3 : GoodIn lw_tbl bX0_q3 := goodIn_p bX0_q3 [100, 105, 109, 113, 116, 119, 122, 126, 130, 133, 138, 141, 145, 149, 153, 156, 160, 163, 166, 170, 174, 177, 185, 190, 194, 198, 202, 205, 209, 213] rfl (by decide +kernel)
set_option maxRecDepth 20000 in
theorem bX0_tw : GoodIn lw_tbl wsX00 := goodIn_of _ (by decide +kernel)
theorem bX0_in : ∀ w ∈ bX0, w ∈ lw_tbl := fun w h => (List.mem_append.mp h).elim (fun h => (bX0_t0 w h).1) (fun h => (List.mem_append.mp h).elim (fun h => (bX0_t1 w h).1) (fun h => (List.mem_append.mp h).elim (fun h => (bX0_t2 w h).1) (fun h => (List.mem_append.mp h).elim (fun h => (bX0_t3 w h).1) (fun h => (bX0_tw w h).1))))
def wsX0_init : List Cond := .code yX0_init cX0_init 3 none :: bX0
def wsX0_put : List Cond := .code yX0_put cX0_put 3 (some .boolean) :: bX0
def wsX0_inMemory : List Cond := .code yX0_inMemory cX0_inMemory 3 (some .boolean) :: bX0
def wsX0_entry : List Cond := .code yX0_entry cX0_entry 4 (some .boolean) :: bX0
def wsX0_entryOf : List Cond := .code yX0_entryOf cX0_entryOf 2 (some .long) :: bX0
def wsX0_entryAt : List Cond := .code yX0_entryAt cX0_entryAt 2 (some .int) :: bX0
def wsX0_byteAt : List Cond := .code yX0_byteAt cX0_byteAt 2 (some .int) :: bX0
def wsX0_region : List Cond := .code yX0_region cX0_region 4 (some .boolean) :: bX0
def wsX0_forget : List Cond := .code yX0_forget cX0_forget 3 none :: bX0
def wsX0_map : List Cond := .code yX0_map cX0_map 2 none :: bX0
def wsX0_drop : List Cond := .code yX0_drop cX0_drop 4 (some .boolean) :: bX0
def wsX0_slotOf : List Cond := .code yX0_slotOf cX0_slotOf 2 (some .int) :: bX0
def wsX0_pageOf : List Cond := .code yX0_pageOf cX0_pageOf 1 (some .int) :: bX0
def wsX0_regionOf : List Cond := .code yX0_regionOf cX0_regionOf 1 (some .int) :: bX0
def wsX0_counts : List Cond := .code yX0_counts cX0_counts 3 (some .boolean) :: bX0
def wsX0_read : List Cond := .code yX0_read cX0_read 8 (some .long) :: bX0
def wsX0_isCount : List Cond := .code yX0_isCount cX0_isCount 1 (some .boolean) :: bX0
def wsX0_findPlaces : List Cond := .code yX0_findPlaces cX0_findPlaces 8 (some .int) :: bX0
def wsX0_placeInPage : List Cond := .code yX0_placeInPage cX0_placeInPage 1 (some .int) :: bX0
def wsX0_translate : List Cond := .code yX0_translate cX0_translate 9 (some .int) :: bX0
def wsX0_placeOfEntry : List Cond := .code yX0_placeOfEntry cX0_placeOfEntry 8 (some .int) :: bX0
def wsX0_inside : List Cond := .code yX0_inside cX0_inside 3 (some .boolean) :: bX0
def wsX0_access : List Cond := .code yX0_access cX0_access 2 (some .int) :: bX0
def wsX0_placeThroughS : List Cond := .code yX0_placeThroughS cX0_placeThroughS 7 (some .int) :: bX0
def wsX0_physical : List Cond := .code yX0_physical cX0_physical 2 (some .int) :: bX0
def wsX0_isValid : List Cond := .code yX0_isValid cX0_isValid 1 (some .boolean) :: bX0
def wsX0_missing : List Cond := .code yX0_missing cX0_missing 2 (some .int) :: bX0
def wsX0_keepEntry : List Cond := .code yX0_keepEntry cX0_keepEntry 5 none :: bX0
def wsX0_gives : List Cond := .code yX0_gives cX0_gives 5 (some .boolean) :: bX0
def wsX0_markWritten : List Cond := .code yX0_markWritten cX0_markWritten 2 none :: bX0
def wsX0_noteFault : List Cond := .code yX0_noteFault cX0_noteFault 3 none :: bX0
def wsX0_write : List Cond := .code yX0_write cX0_write 7 (some .int) :: bX0
def wsX0_where : List Cond := .code yX0_where cX0_where 5 (some .int) :: bX0
def wsX0_may : List Cond := .code yX0_may cX0_may 7 (some .int) :: bX0
def wsX0_isAccess : List Cond := .code yX0_isAccess cX0_isAccess 1 (some .boolean) :: bX0
def wsX0_kept : List Cond := .code yX0_kept cX0_kept 4 (some .long) :: bX0
def wsX0_failed : List Cond := .code yX0_failed cX0_failed 1 (some .int) :: bX0
def bX1_q0 : List Cond := [Cond.fieldLink RX1 7 "KeptPagesModel" "memory" "[I", Cond.fieldLink RX1 41 "KeptPagesModel" "bytes" "I", Cond.fieldLink RX1 13 "KeptPagesModel" "base" "[I", Cond.fieldLink RX1 16 "KeptPagesModel" "length" "[I", Cond.fieldLink RX1 71 "KeptPagesModel" "isOn" "Z", Cond.fieldLink RX1 19 "KeptPagesModel" "page" "[I", Cond.fieldLink RX1 22 "KeptPagesModel" "entry" "[I", Cond.fieldLink RX1 25 "KeptPagesModel" "place" "[I", Cond.fieldLink RX1 28 "KeptPagesModel" "writes" "[I", Cond.fieldLink RX1 31 "KeptPagesModel" "reads" "[I", Cond.fieldLink RX1 34 "KeptPagesModel" "lies" "[I", Cond.fieldLink RX1 37 "KeptPagesModel" "fails" "I", Cond.fieldLink RX1 88 "KeptPagesModel" "looked" "I", Cond.fieldLink RX1 91 "KeptPagesModel" "at" "I", Cond.constantLong RX1 63 4294967295, Cond.constantLong RX1 65 (-1), Cond.constant RX1 67 65535, Cond.constant RX1 84 65520, Cond.constantLong RX1 116 (-101), Cond.constant RX1 108 67108864, Cond.constantLong RX1 122 256, Cond.initialized RX1, Cond.arrayClass .byte, Cond.arrayClass .int, Cond.methodLink RX1 1 objectInit, Cond.methodLink RX1 44 yX1_code, Cond.methodLink RX1 48 yX1_isThere, Cond.methodLink RX1 52 yX1_areFour, Cond.methodLink RX1 55 yX1_putFour, Cond.methodLink RX1 59 yX1_four, Cond.methodLink RX1 68 yX1_forget, Cond.methodLink RX1 85 yX1_isKept, Cond.methodLink RX1 81 yX1_slot, Cond.methodLink RX1 75 yX1_regionOf, Cond.methodLink RX1 78 yX1_pageOf, Cond.methodLink RX1 113 yX1_isSize, Cond.methodLink RX1 118 yX1_reach, Cond.methodLink RX1 109 yX1_translate, Cond.methodLink RX1 100 yX1_look, Cond.methodLink RX1 94 yX1_isInside]
def bX1_q1 : List Cond := [Cond.methodLink RX1 97 yX1_keeps, Cond.methodLink RX1 104 yX1_isRight, Cond.instanceMethod objectInit, Cond.instanceMethod yX1_init, Cond.instanceMethod yX1_code, Cond.instanceMethod yX1_put, Cond.instanceMethod yX1_isThere, Cond.instanceMethod yX1_entry, Cond.instanceMethod yX1_areFour, Cond.instanceMethod yX1_putFour, Cond.instanceMethod yX1_entryOf, Cond.instanceMethod yX1_four, Cond.instanceMethod yX1_region, Cond.instanceMethod yX1_forget, Cond.instanceMethod yX1_map, Cond.instanceMethod yX1_drop, Cond.instanceMethod yX1_isKept, Cond.static yX1_slot, Cond.static yX1_regionOf, Cond.static yX1_pageOf, Cond.instanceMethod yX1_read, Cond.static yX1_isSize, Cond.instanceMethod yX1_reach, Cond.instanceMethod yX1_translate, Cond.instanceMethod yX1_look, Cond.instanceMethod yX1_isInside, Cond.instanceMethod yX1_keeps, Cond.instanceMethod yX1_isRight, Cond.instanceMethod yX1_write, Cond.instanceMethod yX1_where, Cond.instanceMethod yX1_may, Cond.instanceMethod yX1_kept, Cond.instanceMethod yX1_failed, Cond.selects RX1 yX1_put yX1_put, Cond.selects RX1 yX1_entry yX1_entry, Cond.selects RX1 yX1_entryOf yX1_entryOf, Cond.selects RX1 yX1_region yX1_region, Cond.selects RX1 yX1_map yX1_map, Cond.selects RX1 yX1_drop yX1_drop, Cond.selects RX1 yX1_read yX1_read]
def bX1_q2 : List Cond := [Cond.selects RX1 yX1_write yX1_write, Cond.selects RX1 yX1_where yX1_where, Cond.selects RX1 yX1_may yX1_may, Cond.selects RX1 yX1_kept yX1_kept, Cond.selects RX1 yX1_failed yX1_failed, Cond.selects RX1 yX1_code yX1_code, Cond.selects RX1 yX1_isThere yX1_isThere, Cond.selects RX1 yX1_areFour yX1_areFour, Cond.selects RX1 yX1_putFour yX1_putFour, Cond.selects RX1 yX1_four yX1_four, Cond.selects RX1 yX1_forget yX1_forget, Cond.selects RX1 yX1_isKept yX1_isKept, Cond.selects RX1 yX1_reach yX1_reach, Cond.selects RX1 yX1_translate yX1_translate, Cond.selects RX1 yX1_look yX1_look, Cond.selects RX1 yX1_isInside yX1_isInside, Cond.selects RX1 yX1_keeps yX1_keeps, Cond.selects RX1 yX1_isRight yX1_isRight, Cond.code objectInit ⟨#[0xb1]⟩ 1 none, Cond.code yX1_init cX1_init 3 none, Cond.code yX1_code cX1_code 4 none, Cond.code yX1_put cX1_put 3 (some .boolean), Cond.code yX1_isThere cX1_isThere 2 (some .boolean), Cond.code yX1_entry cX1_entry 3 (some .boolean), Cond.code yX1_areFour cX1_areFour 2 (some .boolean), Cond.code yX1_putFour cX1_putFour 4 none, Cond.code yX1_entryOf cX1_entryOf 2 (some .long), Cond.code yX1_four cX1_four 2 (some .int), Cond.code yX1_region cX1_region 4 (some .boolean), Cond.code yX1_forget cX1_forget 4 none, Cond.code yX1_map cX1_map 2 none, Cond.code yX1_drop cX1_drop 3 (some .boolean), Cond.code yX1_isKept cX1_isKept 2 (some .boolean), Cond.code yX1_slot cX1_slot 1 (some .int), Cond.code yX1_regionOf cX1_regionOf 1 (some .int), Cond.code yX1_pageOf cX1_pageOf 1 (some .int), Cond.code yX1_read cX1_read 8 (some .long), Cond.code yX1_isSize cX1_isSize 1 (some .boolean), Cond.code yX1_reach cX1_reach 8 (some .int), Cond.code yX1_translate cX1_translate 7 (some .int)]
def bX1_q3 : List Cond := [Cond.code yX1_look cX1_look 7 (some .int), Cond.code yX1_isInside cX1_isInside 3 (some .boolean), Cond.code yX1_keeps cX1_keeps 4 none, Cond.code yX1_isRight cX1_isRight 4 (some .boolean), Cond.code yX1_write cX1_write 7 (some .int), Cond.code yX1_where cX1_where 5 (some .int), Cond.code yX1_may cX1_may 5 (some .int), Cond.code yX1_kept cX1_kept 4 (some .long), Cond.code yX1_failed cX1_failed 1 (some .int)]
def bX1 : List Cond := (bX1_q0 ++ (bX1_q1 ++ (bX1_q2 ++ (bX1_q3 ++ wsX10))))
theorem bX1_i0 : ∀ w ∈ bX1_q0, w ∈ bX1 := fun _ h => List.mem_append_left _ h
theorem bX1_i1 : ∀ w ∈ bX1_q1, w ∈ bX1 := fun _ h => List.mem_append_right _ (List.mem_append_left _ h)
theorem bX1_i2 : ∀ w ∈ bX1_q2, w ∈ bX1 := fun _ h => List.mem_append_right _ (List.mem_append_right _ (List.mem_append_left _ h))
theorem bX1_i3 : ∀ w ∈ bX1_q3, w ∈ bX1 := fun _ h => List.mem_append_right _ (List.mem_append_right _ (List.mem_append_right _ (List.mem_append_left _ h)))
theorem inbX1 : ∀ w ∈ wsX10, w ∈ bX1 := fun _ h => List.mem_append_right _ (List.mem_append_right _ (List.mem_append_right _ (List.mem_append_right _ (h))))
theorem bX1_0 : Cond.fieldLink RX1 7 "KeptPagesModel" "memory" "[I" ∈ bX1 := bX1_i0 _ (List.mem_of_getElem? (i := 0) rfl)
theorem bX1_1 : Cond.fieldLink RX1 41 "KeptPagesModel" "bytes" "I" ∈ bX1 := bX1_i0 _ (List.mem_of_getElem? (i := 1) rfl)
theorem bX1_2 : Cond.fieldLink RX1 13 "KeptPagesModel" "base" "[I" ∈ bX1 := bX1_i0 _ (List.mem_of_getElem? (i := 2) rfl)
theorem bX1_3 : Cond.fieldLink RX1 16 "KeptPagesModel" "length" "[I" ∈ bX1 := bX1_i0 _ (List.mem_of_getElem? (i := 3) rfl)
theorem bX1_4 : Cond.fieldLink RX1 71 "KeptPagesModel" "isOn" "Z" ∈ bX1 := bX1_i0 _ (List.mem_of_getElem? (i := 4) rfl)
theorem bX1_5 : Cond.fieldLink RX1 19 "KeptPagesModel" "page" "[I" ∈ bX1 := bX1_i0 _ (List.mem_of_getElem? (i := 5) rfl)
theorem bX1_6 : Cond.fieldLink RX1 22 "KeptPagesModel" "entry" "[I" ∈ bX1 := bX1_i0 _ (List.mem_of_getElem? (i := 6) rfl)
theorem bX1_7 : Cond.fieldLink RX1 25 "KeptPagesModel" "place" "[I" ∈ bX1 := bX1_i0 _ (List.mem_of_getElem? (i := 7) rfl)
theorem bX1_8 : Cond.fieldLink RX1 28 "KeptPagesModel" "writes" "[I" ∈ bX1 := bX1_i0 _ (List.mem_of_getElem? (i := 8) rfl)
theorem bX1_9 : Cond.fieldLink RX1 31 "KeptPagesModel" "reads" "[I" ∈ bX1 := bX1_i0 _ (List.mem_of_getElem? (i := 9) rfl)
theorem bX1_10 : Cond.fieldLink RX1 34 "KeptPagesModel" "lies" "[I" ∈ bX1 := bX1_i0 _ (List.mem_of_getElem? (i := 10) rfl)
theorem bX1_11 : Cond.fieldLink RX1 37 "KeptPagesModel" "fails" "I" ∈ bX1 := bX1_i0 _ (List.mem_of_getElem? (i := 11) rfl)
theorem bX1_12 : Cond.fieldLink RX1 88 "KeptPagesModel" "looked" "I" ∈ bX1 := bX1_i0 _ (List.mem_of_getElem? (i := 12) rfl)
theorem bX1_13 : Cond.fieldLink RX1 91 "KeptPagesModel" "at" "I" ∈ bX1 := bX1_i0 _ (List.mem_of_getElem? (i := 13) rfl)
theorem bX1_14 : Cond.constantLong RX1 63 4294967295 ∈ bX1 := bX1_i0 _ (List.mem_of_getElem? (i := 14) rfl)
theorem bX1_15 : Cond.constantLong RX1 65 (-1) ∈ bX1 := bX1_i0 _ (List.mem_of_getElem? (i := 15) rfl)
theorem bX1_16 : Cond.constant RX1 67 65535 ∈ bX1 := bX1_i0 _ (List.mem_of_getElem? (i := 16) rfl)
theorem bX1_17 : Cond.constant RX1 84 65520 ∈ bX1 := bX1_i0 _ (List.mem_of_getElem? (i := 17) rfl)
theorem bX1_18 : Cond.constantLong RX1 116 (-101) ∈ bX1 := bX1_i0 _ (List.mem_of_getElem? (i := 18) rfl)
theorem bX1_19 : Cond.constant RX1 108 67108864 ∈ bX1 := bX1_i0 _ (List.mem_of_getElem? (i := 19) rfl)
theorem bX1_20 : Cond.constantLong RX1 122 256 ∈ bX1 := bX1_i0 _ (List.mem_of_getElem? (i := 20) rfl)
theorem bX1_21 : Cond.initialized RX1 ∈ bX1 := bX1_i0 _ (List.mem_of_getElem? (i := 21) rfl)
theorem bX1_22 : Cond.arrayClass .byte ∈ bX1 := bX1_i0 _ (List.mem_of_getElem? (i := 22) rfl)
theorem bX1_23 : Cond.arrayClass .int ∈ bX1 := bX1_i0 _ (List.mem_of_getElem? (i := 23) rfl)
theorem bX1_24 : Cond.methodLink RX1 1 objectInit ∈ bX1 := bX1_i0 _ (List.mem_of_getElem? (i := 24) rfl)
theorem bX1_25 : Cond.methodLink RX1 44 yX1_code ∈ bX1 := bX1_i0 _ (List.mem_of_getElem? (i := 25) rfl)
theorem bX1_26 : Cond.methodLink RX1 48 yX1_isThere ∈ bX1 := bX1_i0 _ (List.mem_of_getElem? (i := 26) rfl)
theorem bX1_27 : Cond.methodLink RX1 52 yX1_areFour ∈ bX1 := bX1_i0 _ (List.mem_of_getElem? (i := 27) rfl)
theorem bX1_28 : Cond.methodLink RX1 55 yX1_putFour ∈ bX1 := bX1_i0 _ (List.mem_of_getElem? (i := 28) rfl)
theorem bX1_29 : Cond.methodLink RX1 59 yX1_four ∈ bX1 := bX1_i0 _ (List.mem_of_getElem? (i := 29) rfl)
theorem bX1_30 : Cond.methodLink RX1 68 yX1_forget ∈ bX1 := bX1_i0 _ (List.mem_of_getElem? (i := 30) rfl)
theorem bX1_31 : Cond.methodLink RX1 85 yX1_isKept ∈ bX1 := bX1_i0 _ (List.mem_of_getElem? (i := 31) rfl)
theorem bX1_32 : Cond.methodLink RX1 81 yX1_slot ∈ bX1 := bX1_i0 _ (List.mem_of_getElem? (i := 32) rfl)
theorem bX1_33 : Cond.methodLink RX1 75 yX1_regionOf ∈ bX1 := bX1_i0 _ (List.mem_of_getElem? (i := 33) rfl)
theorem bX1_34 : Cond.methodLink RX1 78 yX1_pageOf ∈ bX1 := bX1_i0 _ (List.mem_of_getElem? (i := 34) rfl)
theorem bX1_35 : Cond.methodLink RX1 113 yX1_isSize ∈ bX1 := bX1_i0 _ (List.mem_of_getElem? (i := 35) rfl)
theorem bX1_36 : Cond.methodLink RX1 118 yX1_reach ∈ bX1 := bX1_i0 _ (List.mem_of_getElem? (i := 36) rfl)
theorem bX1_37 : Cond.methodLink RX1 109 yX1_translate ∈ bX1 := bX1_i0 _ (List.mem_of_getElem? (i := 37) rfl)
theorem bX1_38 : Cond.methodLink RX1 100 yX1_look ∈ bX1 := bX1_i0 _ (List.mem_of_getElem? (i := 38) rfl)
theorem bX1_39 : Cond.methodLink RX1 94 yX1_isInside ∈ bX1 := bX1_i0 _ (List.mem_of_getElem? (i := 39) rfl)
theorem bX1_40 : Cond.methodLink RX1 97 yX1_keeps ∈ bX1 := bX1_i1 _ (List.mem_of_getElem? (i := 0) rfl)
theorem bX1_41 : Cond.methodLink RX1 104 yX1_isRight ∈ bX1 := bX1_i1 _ (List.mem_of_getElem? (i := 1) rfl)
theorem bX1_42 : Cond.instanceMethod objectInit ∈ bX1 := bX1_i1 _ (List.mem_of_getElem? (i := 2) rfl)
theorem bX1_43 : Cond.instanceMethod yX1_init ∈ bX1 := bX1_i1 _ (List.mem_of_getElem? (i := 3) rfl)
theorem bX1_44 : Cond.instanceMethod yX1_code ∈ bX1 := bX1_i1 _ (List.mem_of_getElem? (i := 4) rfl)
theorem bX1_45 : Cond.instanceMethod yX1_put ∈ bX1 := bX1_i1 _ (List.mem_of_getElem? (i := 5) rfl)
theorem bX1_46 : Cond.instanceMethod yX1_isThere ∈ bX1 := bX1_i1 _ (List.mem_of_getElem? (i := 6) rfl)
theorem bX1_47 : Cond.instanceMethod yX1_entry ∈ bX1 := bX1_i1 _ (List.mem_of_getElem? (i := 7) rfl)
theorem bX1_48 : Cond.instanceMethod yX1_areFour ∈ bX1 := bX1_i1 _ (List.mem_of_getElem? (i := 8) rfl)
theorem bX1_49 : Cond.instanceMethod yX1_putFour ∈ bX1 := bX1_i1 _ (List.mem_of_getElem? (i := 9) rfl)
theorem bX1_50 : Cond.instanceMethod yX1_entryOf ∈ bX1 := bX1_i1 _ (List.mem_of_getElem? (i := 10) rfl)
theorem bX1_51 : Cond.instanceMethod yX1_four ∈ bX1 := bX1_i1 _ (List.mem_of_getElem? (i := 11) rfl)
theorem bX1_52 : Cond.instanceMethod yX1_region ∈ bX1 := bX1_i1 _ (List.mem_of_getElem? (i := 12) rfl)
theorem bX1_53 : Cond.instanceMethod yX1_forget ∈ bX1 := bX1_i1 _ (List.mem_of_getElem? (i := 13) rfl)
theorem bX1_54 : Cond.instanceMethod yX1_map ∈ bX1 := bX1_i1 _ (List.mem_of_getElem? (i := 14) rfl)
theorem bX1_55 : Cond.instanceMethod yX1_drop ∈ bX1 := bX1_i1 _ (List.mem_of_getElem? (i := 15) rfl)
theorem bX1_56 : Cond.instanceMethod yX1_isKept ∈ bX1 := bX1_i1 _ (List.mem_of_getElem? (i := 16) rfl)
theorem bX1_57 : Cond.static yX1_slot ∈ bX1 := bX1_i1 _ (List.mem_of_getElem? (i := 17) rfl)
theorem bX1_58 : Cond.static yX1_regionOf ∈ bX1 := bX1_i1 _ (List.mem_of_getElem? (i := 18) rfl)
theorem bX1_59 : Cond.static yX1_pageOf ∈ bX1 := bX1_i1 _ (List.mem_of_getElem? (i := 19) rfl)
theorem bX1_60 : Cond.instanceMethod yX1_read ∈ bX1 := bX1_i1 _ (List.mem_of_getElem? (i := 20) rfl)
theorem bX1_61 : Cond.static yX1_isSize ∈ bX1 := bX1_i1 _ (List.mem_of_getElem? (i := 21) rfl)
theorem bX1_62 : Cond.instanceMethod yX1_reach ∈ bX1 := bX1_i1 _ (List.mem_of_getElem? (i := 22) rfl)
theorem bX1_63 : Cond.instanceMethod yX1_translate ∈ bX1 := bX1_i1 _ (List.mem_of_getElem? (i := 23) rfl)
theorem bX1_64 : Cond.instanceMethod yX1_look ∈ bX1 := bX1_i1 _ (List.mem_of_getElem? (i := 24) rfl)
theorem bX1_65 : Cond.instanceMethod yX1_isInside ∈ bX1 := bX1_i1 _ (List.mem_of_getElem? (i := 25) rfl)
theorem bX1_66 : Cond.instanceMethod yX1_keeps ∈ bX1 := bX1_i1 _ (List.mem_of_getElem? (i := 26) rfl)
theorem bX1_67 : Cond.instanceMethod yX1_isRight ∈ bX1 := bX1_i1 _ (List.mem_of_getElem? (i := 27) rfl)
theorem bX1_68 : Cond.instanceMethod yX1_write ∈ bX1 := bX1_i1 _ (List.mem_of_getElem? (i := 28) rfl)
theorem bX1_69 : Cond.instanceMethod yX1_where ∈ bX1 := bX1_i1 _ (List.mem_of_getElem? (i := 29) rfl)
theorem bX1_70 : Cond.instanceMethod yX1_may ∈ bX1 := bX1_i1 _ (List.mem_of_getElem? (i := 30) rfl)
theorem bX1_71 : Cond.instanceMethod yX1_kept ∈ bX1 := bX1_i1 _ (List.mem_of_getElem? (i := 31) rfl)
theorem bX1_72 : Cond.instanceMethod yX1_failed ∈ bX1 := bX1_i1 _ (List.mem_of_getElem? (i := 32) rfl)
theorem bX1_73 : Cond.selects RX1 yX1_put yX1_put ∈ bX1 := bX1_i1 _ (List.mem_of_getElem? (i := 33) rfl)
theorem bX1_74 : Cond.selects RX1 yX1_entry yX1_entry ∈ bX1 := bX1_i1 _ (List.mem_of_getElem? (i := 34) rfl)
theorem bX1_75 : Cond.selects RX1 yX1_entryOf yX1_entryOf ∈ bX1 := bX1_i1 _ (List.mem_of_getElem? (i := 35) rfl)
theorem bX1_76 : Cond.selects RX1 yX1_region yX1_region ∈ bX1 := bX1_i1 _ (List.mem_of_getElem? (i := 36) rfl)
theorem bX1_77 : Cond.selects RX1 yX1_map yX1_map ∈ bX1 := bX1_i1 _ (List.mem_of_getElem? (i := 37) rfl)
theorem bX1_78 : Cond.selects RX1 yX1_drop yX1_drop ∈ bX1 := bX1_i1 _ (List.mem_of_getElem? (i := 38) rfl)
theorem bX1_79 : Cond.selects RX1 yX1_read yX1_read ∈ bX1 := bX1_i1 _ (List.mem_of_getElem? (i := 39) rfl)
theorem bX1_80 : Cond.selects RX1 yX1_write yX1_write ∈ bX1 := bX1_i2 _ (List.mem_of_getElem? (i := 0) rfl)
theorem bX1_81 : Cond.selects RX1 yX1_where yX1_where ∈ bX1 := bX1_i2 _ (List.mem_of_getElem? (i := 1) rfl)
theorem bX1_82 : Cond.selects RX1 yX1_may yX1_may ∈ bX1 := bX1_i2 _ (List.mem_of_getElem? (i := 2) rfl)
theorem bX1_83 : Cond.selects RX1 yX1_kept yX1_kept ∈ bX1 := bX1_i2 _ (List.mem_of_getElem? (i := 3) rfl)
theorem bX1_84 : Cond.selects RX1 yX1_failed yX1_failed ∈ bX1 := bX1_i2 _ (List.mem_of_getElem? (i := 4) rfl)
theorem bX1_85 : Cond.selects RX1 yX1_code yX1_code ∈ bX1 := bX1_i2 _ (List.mem_of_getElem? (i := 5) rfl)
theorem bX1_86 : Cond.selects RX1 yX1_isThere yX1_isThere ∈ bX1 := bX1_i2 _ (List.mem_of_getElem? (i := 6) rfl)
theorem bX1_87 : Cond.selects RX1 yX1_areFour yX1_areFour ∈ bX1 := bX1_i2 _ (List.mem_of_getElem? (i := 7) rfl)
theorem bX1_88 : Cond.selects RX1 yX1_putFour yX1_putFour ∈ bX1 := bX1_i2 _ (List.mem_of_getElem? (i := 8) rfl)
theorem bX1_89 : Cond.selects RX1 yX1_four yX1_four ∈ bX1 := bX1_i2 _ (List.mem_of_getElem? (i := 9) rfl)
theorem bX1_90 : Cond.selects RX1 yX1_forget yX1_forget ∈ bX1 := bX1_i2 _ (List.mem_of_getElem? (i := 10) rfl)
theorem bX1_91 : Cond.selects RX1 yX1_isKept yX1_isKept ∈ bX1 := bX1_i2 _ (List.mem_of_getElem? (i := 11) rfl)
theorem bX1_92 : Cond.selects RX1 yX1_reach yX1_reach ∈ bX1 := bX1_i2 _ (List.mem_of_getElem? (i := 12) rfl)
theorem bX1_93 : Cond.selects RX1 yX1_translate yX1_translate ∈ bX1 := bX1_i2 _ (List.mem_of_getElem? (i := 13) rfl)
theorem bX1_94 : Cond.selects RX1 yX1_look yX1_look ∈ bX1 := bX1_i2 _ (List.mem_of_getElem? (i := 14) rfl)
theorem bX1_95 : Cond.selects RX1 yX1_isInside yX1_isInside ∈ bX1 := bX1_i2 _ (List.mem_of_getElem? (i := 15) rfl)
theorem bX1_96 : Cond.selects RX1 yX1_keeps yX1_keeps ∈ bX1 := bX1_i2 _ (List.mem_of_getElem? (i := 16) rfl)
theorem bX1_97 : Cond.selects RX1 yX1_isRight yX1_isRight ∈ bX1 := bX1_i2 _ (List.mem_of_getElem? (i := 17) rfl)
theorem bX1_98 : Cond.code objectInit ⟨#[0xb1]⟩ 1 none ∈ bX1 := bX1_i2 _ (List.mem_of_getElem? (i := 18) rfl)
theorem bX1_99 : Cond.code yX1_init cX1_init 3 none ∈ bX1 := bX1_i2 _ (List.mem_of_getElem? (i := 19) rfl)
theorem bX1_100 : Cond.code yX1_code cX1_code 4 none ∈ bX1 := bX1_i2 _ (List.mem_of_getElem? (i := 20) rfl)
theorem bX1_101 : Cond.code yX1_put cX1_put 3 (some .boolean) ∈ bX1 := bX1_i2 _ (List.mem_of_getElem? (i := 21) rfl)
theorem bX1_102 : Cond.code yX1_isThere cX1_isThere 2 (some .boolean) ∈ bX1 := bX1_i2 _ (List.mem_of_getElem? (i := 22) rfl)
theorem bX1_103 : Cond.code yX1_entry cX1_entry 3 (some .boolean) ∈ bX1 := bX1_i2 _ (List.mem_of_getElem? (i := 23) rfl)
theorem bX1_104 : Cond.code yX1_areFour cX1_areFour 2 (some .boolean) ∈ bX1 := bX1_i2 _ (List.mem_of_getElem? (i := 24) rfl)
theorem bX1_105 : Cond.code yX1_putFour cX1_putFour 4 none ∈ bX1 := bX1_i2 _ (List.mem_of_getElem? (i := 25) rfl)
theorem bX1_106 : Cond.code yX1_entryOf cX1_entryOf 2 (some .long) ∈ bX1 := bX1_i2 _ (List.mem_of_getElem? (i := 26) rfl)
theorem bX1_107 : Cond.code yX1_four cX1_four 2 (some .int) ∈ bX1 := bX1_i2 _ (List.mem_of_getElem? (i := 27) rfl)
theorem bX1_108 : Cond.code yX1_region cX1_region 4 (some .boolean) ∈ bX1 := bX1_i2 _ (List.mem_of_getElem? (i := 28) rfl)
theorem bX1_109 : Cond.code yX1_forget cX1_forget 4 none ∈ bX1 := bX1_i2 _ (List.mem_of_getElem? (i := 29) rfl)
theorem bX1_110 : Cond.code yX1_map cX1_map 2 none ∈ bX1 := bX1_i2 _ (List.mem_of_getElem? (i := 30) rfl)
theorem bX1_111 : Cond.code yX1_drop cX1_drop 3 (some .boolean) ∈ bX1 := bX1_i2 _ (List.mem_of_getElem? (i := 31) rfl)
theorem bX1_112 : Cond.code yX1_isKept cX1_isKept 2 (some .boolean) ∈ bX1 := bX1_i2 _ (List.mem_of_getElem? (i := 32) rfl)
theorem bX1_113 : Cond.code yX1_slot cX1_slot 1 (some .int) ∈ bX1 := bX1_i2 _ (List.mem_of_getElem? (i := 33) rfl)
theorem bX1_114 : Cond.code yX1_regionOf cX1_regionOf 1 (some .int) ∈ bX1 := bX1_i2 _ (List.mem_of_getElem? (i := 34) rfl)
theorem bX1_115 : Cond.code yX1_pageOf cX1_pageOf 1 (some .int) ∈ bX1 := bX1_i2 _ (List.mem_of_getElem? (i := 35) rfl)
theorem bX1_116 : Cond.code yX1_read cX1_read 8 (some .long) ∈ bX1 := bX1_i2 _ (List.mem_of_getElem? (i := 36) rfl)
theorem bX1_117 : Cond.code yX1_isSize cX1_isSize 1 (some .boolean) ∈ bX1 := bX1_i2 _ (List.mem_of_getElem? (i := 37) rfl)
theorem bX1_118 : Cond.code yX1_reach cX1_reach 8 (some .int) ∈ bX1 := bX1_i2 _ (List.mem_of_getElem? (i := 38) rfl)
theorem bX1_119 : Cond.code yX1_translate cX1_translate 7 (some .int) ∈ bX1 := bX1_i2 _ (List.mem_of_getElem? (i := 39) rfl)
theorem bX1_120 : Cond.code yX1_look cX1_look 7 (some .int) ∈ bX1 := bX1_i3 _ (List.mem_of_getElem? (i := 0) rfl)
theorem bX1_121 : Cond.code yX1_isInside cX1_isInside 3 (some .boolean) ∈ bX1 := bX1_i3 _ (List.mem_of_getElem? (i := 1) rfl)
theorem bX1_122 : Cond.code yX1_keeps cX1_keeps 4 none ∈ bX1 := bX1_i3 _ (List.mem_of_getElem? (i := 2) rfl)
theorem bX1_123 : Cond.code yX1_isRight cX1_isRight 4 (some .boolean) ∈ bX1 := bX1_i3 _ (List.mem_of_getElem? (i := 3) rfl)
theorem bX1_124 : Cond.code yX1_write cX1_write 7 (some .int) ∈ bX1 := bX1_i3 _ (List.mem_of_getElem? (i := 4) rfl)
theorem bX1_125 : Cond.code yX1_where cX1_where 5 (some .int) ∈ bX1 := bX1_i3 _ (List.mem_of_getElem? (i := 5) rfl)
theorem bX1_126 : Cond.code yX1_may cX1_may 5 (some .int) ∈ bX1 := bX1_i3 _ (List.mem_of_getElem? (i := 6) rfl)
theorem bX1_127 : Cond.code yX1_kept cX1_kept 4 (some .long) ∈ bX1 := bX1_i3 _ (List.mem_of_getElem? (i := 7) rfl)
theorem bX1_128 : Cond.code yX1_failed cX1_failed 1 (some .int) ∈ bX1 := bX1_i3 _ (List.mem_of_getElem? (i := 8) rfl)
theorem bX1_g0 : bX1_q0.all goodWord = true := by decide +kernel
theorem bX1_g1 : bX1_q1.all goodWord = true := by decide +kernel
theorem bX1_g2 : bX1_q2.all goodWord = true := by decide +kernel
theorem bX1_g3 : bX1_q3.all goodWord = true := by decide +kernel
theorem bX1_gw : wsX10.all goodWord = true := by decide +kernel
theorem bX1_good : ∀ w ∈ bX1, goodWord w = true := fun w h => (List.mem_append.mp h).elim (List.all_eq_true.mp bX1_g0 w) (fun h => (List.mem_append.mp h).elim (List.all_eq_true.mp bX1_g1 w) (fun h => (List.mem_append.mp h).elim (List.all_eq_true.mp bX1_g2 w) (fun h => (List.mem_append.mp h).elim (List.all_eq_true.mp bX1_g3 w) (fun h => List.all_eq_true.mp bX1_gw w h))))
set_option maxRecDepth 20000 in
theorem bX1_t0 : GoodIn lw_tbl bX1_q0 := goodIn_p bX1_q0 [] rfl (by decide +kernel)
set_option maxRecDepth 20000 in
theorem bX1_t1 : GoodIn lw_tbl bX1_q1 := goodIn_p bX1_q1 [] rfl (by decide +kernel)
set_option maxRecDepth 20000 in
theorem bX1_t2 : GoodIn lw_tbl bX1_q2 := goodIn_p bX1_q2 [37, 221, 226, 273, 277, 281, 285, 289, 293, 297, 303, 308, 312, 316, 320, 323, 326, 329, 334, 337, 342, 346] rfl (by decide +kernel)
set_option maxRecDepth 20000 in
theorem bX1_t3 : GoodIn lw_tbl bX1_q3 := goodIn_p bX1_q3 [350, 354, 358, 362, 368, 372, 376, 380, 384] rfl (by decide +kernel)
set_option maxRecDepth 20000 in
theorem bX1_tw : GoodIn lw_tbl wsX10 := goodIn_of _ (by decide +kernel)
theorem bX1_in : ∀ w ∈ bX1, w ∈ lw_tbl := fun w h => (List.mem_append.mp h).elim (fun h => (bX1_t0 w h).1) (fun h => (List.mem_append.mp h).elim (fun h => (bX1_t1 w h).1) (fun h => (List.mem_append.mp h).elim (fun h => (bX1_t2 w h).1) (fun h => (List.mem_append.mp h).elim (fun h => (bX1_t3 w h).1) (fun h => (bX1_tw w h).1))))
def wsX1_init : List Cond := .code yX1_init cX1_init 3 none :: bX1
def wsX1_code : List Cond := .code yX1_code cX1_code 4 none :: bX1
def wsX1_put : List Cond := .code yX1_put cX1_put 3 (some .boolean) :: bX1
def wsX1_isThere : List Cond := .code yX1_isThere cX1_isThere 2 (some .boolean) :: bX1
def wsX1_entry : List Cond := .code yX1_entry cX1_entry 3 (some .boolean) :: bX1
def wsX1_areFour : List Cond := .code yX1_areFour cX1_areFour 2 (some .boolean) :: bX1
def wsX1_putFour : List Cond := .code yX1_putFour cX1_putFour 4 none :: bX1
def wsX1_entryOf : List Cond := .code yX1_entryOf cX1_entryOf 2 (some .long) :: bX1
def wsX1_four : List Cond := .code yX1_four cX1_four 2 (some .int) :: bX1
def wsX1_region : List Cond := .code yX1_region cX1_region 4 (some .boolean) :: bX1
def wsX1_forget : List Cond := .code yX1_forget cX1_forget 4 none :: bX1
def wsX1_map : List Cond := .code yX1_map cX1_map 2 none :: bX1
def wsX1_drop : List Cond := .code yX1_drop cX1_drop 3 (some .boolean) :: bX1
def wsX1_isKept : List Cond := .code yX1_isKept cX1_isKept 2 (some .boolean) :: bX1
def wsX1_slot : List Cond := .code yX1_slot cX1_slot 1 (some .int) :: bX1
def wsX1_regionOf : List Cond := .code yX1_regionOf cX1_regionOf 1 (some .int) :: bX1
def wsX1_pageOf : List Cond := .code yX1_pageOf cX1_pageOf 1 (some .int) :: bX1
def wsX1_read : List Cond := .code yX1_read cX1_read 8 (some .long) :: bX1
def wsX1_isSize : List Cond := .code yX1_isSize cX1_isSize 1 (some .boolean) :: bX1
def wsX1_reach : List Cond := .code yX1_reach cX1_reach 8 (some .int) :: bX1
def wsX1_translate : List Cond := .code yX1_translate cX1_translate 7 (some .int) :: bX1
def wsX1_look : List Cond := .code yX1_look cX1_look 7 (some .int) :: bX1
def wsX1_isInside : List Cond := .code yX1_isInside cX1_isInside 3 (some .boolean) :: bX1
def wsX1_keeps : List Cond := .code yX1_keeps cX1_keeps 4 none :: bX1
def wsX1_isRight : List Cond := .code yX1_isRight cX1_isRight 4 (some .boolean) :: bX1
def wsX1_write : List Cond := .code yX1_write cX1_write 7 (some .int) :: bX1
def wsX1_where : List Cond := .code yX1_where cX1_where 5 (some .int) :: bX1
def wsX1_may : List Cond := .code yX1_may cX1_may 5 (some .int) :: bX1
def wsX1_kept : List Cond := .code yX1_kept cX1_kept 4 (some .long) :: bX1
def wsX1_failed : List Cond := .code yX1_failed cX1_failed 1 (some .int) :: bX1
def wsJ_fill : List Cond := .code yJ_fill cJ_fill 4 none :: []
def wsL_cell : List Cond := .code yL_cell cL_cell 2 (some .int) :: []
theorem gX0_J_fill : GoodIn bX0 (va_wsS RX0 31 yJ_fill wsJ_fill) := bg_S (fun _ h => absurd h List.not_mem_nil) (fun _ h => absurd h List.not_mem_nil) bX0_21 bX0_49 bX0_46 bX0_113
theorem gX0_X0_inMemory : GoodIn bX0 (wsV RX0 46 RX0 yX0_inMemory wsX0_inMemory) := bg_V bX0_good (fun _ h => h) bX0_22 bX0_51 bX0_98 bX0_17 bX0_115
theorem gX0_X0_entryAt : GoodIn bX0 (wsV RX0 50 RX0 yX0_entryAt wsX0_entryAt) := bg_V bX0_good (fun _ h => h) bX0_23 bX0_54 bX0_99 bX0_17 bX0_118
theorem gX0_X0_byteAt : GoodIn bX0 (wsV RX0 79 RX0 yX0_byteAt wsX0_byteAt) := bg_V bX0_good (fun _ h => h) bX0_24 bX0_55 bX0_100 bX0_17 bX0_119
theorem gX0_X0_forget : GoodIn bX0 (wsV RX0 59 RX0 yX0_forget wsX0_forget) := bg_V bX0_good (fun _ h => h) bX0_25 bX0_57 bX0_101 bX0_17 bX0_121
theorem gX0_X0_slotOf : GoodIn bX0 (va_wsS RX0 63 yX0_slotOf wsX0_slotOf) := bg_S bX0_good (fun _ h => h) bX0_26 bX0_60 bX0_17 bX0_124
theorem gX0_X0_pageOf : GoodIn bX0 (va_wsS RX0 128 yX0_pageOf wsX0_pageOf) := bg_S bX0_good (fun _ h => h) bX0_27 bX0_61 bX0_17 bX0_125
theorem gX0_X0_regionOf : GoodIn bX0 (va_wsS RX0 125 yX0_regionOf wsX0_regionOf) := bg_S bX0_good (fun _ h => h) bX0_28 bX0_62 bX0_17 bX0_126
theorem gX0_X0_counts : GoodIn bX0 (wsV RX0 66 RX0 yX0_counts wsX0_counts) := bg_V bX0_good (fun _ h => h) bX0_29 bX0_63 bX0_102 bX0_17 bX0_127
theorem gX0_X0_isCount : GoodIn bX0 (va_wsS RX0 69 yX0_isCount wsX0_isCount) := bg_S bX0_good (fun _ h => h) bX0_30 bX0_65 bX0_17 bX0_129
theorem gX0_X0_findPlaces : GoodIn bX0 (wsV RX0 75 RX0 yX0_findPlaces wsX0_findPlaces) := bg_V bX0_good (fun _ h => h) bX0_31 bX0_66 bX0_103 bX0_17 bX0_130
theorem gX0_X0_placeInPage : GoodIn bX0 (va_wsS RX0 97 yX0_placeInPage wsX0_placeInPage) := bg_S bX0_good (fun _ h => h) bX0_32 bX0_67 bX0_17 bX0_131
theorem gX0_X0_translate : GoodIn bX0 (wsV RX0 82 RX0 yX0_translate wsX0_translate) := bg_V bX0_good (fun _ h => h) bX0_33 bX0_68 bX0_104 bX0_17 bX0_132
theorem gX0_X0_placeOfEntry : GoodIn bX0 (wsV RX0 90 RX0 yX0_placeOfEntry wsX0_placeOfEntry) := bg_V bX0_good (fun _ h => h) bX0_34 bX0_69 bX0_105 bX0_17 bX0_133
theorem gX0_X0_inside : GoodIn bX0 (wsV RX0 131 RX0 yX0_inside wsX0_inside) := bg_V bX0_good (fun _ h => h) bX0_35 bX0_70 bX0_106 bX0_17 bX0_134
theorem gX0_X0_access : GoodIn bX0 (va_wsS RX0 104 yX0_access wsX0_access) := bg_S bX0_good (fun _ h => h) bX0_36 bX0_71 bX0_17 bX0_135
theorem gX0_X0_placeThroughS : GoodIn bX0 (wsV RX0 134 RX0 yX0_placeThroughS wsX0_placeThroughS) := bg_V bX0_good (fun _ h => h) bX0_37 bX0_72 bX0_107 bX0_17 bX0_136
theorem gX0_X0_physical : GoodIn bX0 (va_wsS RX0 121 yX0_physical wsX0_physical) := bg_S bX0_good (fun _ h => h) bX0_38 bX0_73 bX0_17 bX0_137
theorem gX0_X0_isValid : GoodIn bX0 (va_wsS RX0 108 yX0_isValid wsX0_isValid) := bg_S bX0_good (fun _ h => h) bX0_39 bX0_74 bX0_17 bX0_138
theorem gX0_X0_missing : GoodIn bX0 (va_wsS RX0 111 yX0_missing wsX0_missing) := bg_S bX0_good (fun _ h => h) bX0_40 bX0_75 bX0_17 bX0_139
theorem gX0_X0_keepEntry : GoodIn bX0 (wsV RX0 114 RX0 yX0_keepEntry wsX0_keepEntry) := bg_V bX0_good (fun _ h => h) bX0_41 bX0_76 bX0_108 bX0_17 bX0_140
theorem gX0_X0_gives : GoodIn bX0 (va_wsS RX0 86 yX0_gives wsX0_gives) := bg_S bX0_good (fun _ h => h) bX0_42 bX0_77 bX0_17 bX0_141
theorem gX0_X0_markWritten : GoodIn bX0 (wsV RX0 118 RX0 yX0_markWritten wsX0_markWritten) := bg_V bX0_good (fun _ h => h) bX0_43 bX0_78 bX0_109 bX0_17 bX0_142
theorem gX0_X0_noteFault : GoodIn bX0 (wsV RX0 100 RX0 yX0_noteFault wsX0_noteFault) := bg_V bX0_good (fun _ h => h) bX0_44 bX0_79 bX0_110 bX0_17 bX0_143
theorem gX0_X0_isAccess : GoodIn bX0 (va_wsS RX0 94 yX0_isAccess wsX0_isAccess) := bg_S bX0_good (fun _ h => h) bX0_45 bX0_83 bX0_17 bX0_147
theorem gX1_X1_code : GoodIn bX1 (wsV RX1 44 RX1 yX1_code wsX1_code) := bg_V bX1_good (fun _ h => h) bX1_25 bX1_44 bX1_85 bX1_21 bX1_100
theorem gX1_X1_isThere : GoodIn bX1 (wsV RX1 48 RX1 yX1_isThere wsX1_isThere) := bg_V bX1_good (fun _ h => h) bX1_26 bX1_46 bX1_86 bX1_21 bX1_102
theorem gX1_X1_areFour : GoodIn bX1 (wsV RX1 52 RX1 yX1_areFour wsX1_areFour) := bg_V bX1_good (fun _ h => h) bX1_27 bX1_48 bX1_87 bX1_21 bX1_104
theorem gX1_X1_putFour : GoodIn bX1 (wsV RX1 55 RX1 yX1_putFour wsX1_putFour) := bg_V bX1_good (fun _ h => h) bX1_28 bX1_49 bX1_88 bX1_21 bX1_105
theorem gX1_X1_four : GoodIn bX1 (wsV RX1 59 RX1 yX1_four wsX1_four) := bg_V bX1_good (fun _ h => h) bX1_29 bX1_51 bX1_89 bX1_21 bX1_107
theorem gX1_X1_forget : GoodIn bX1 (wsV RX1 68 RX1 yX1_forget wsX1_forget) := bg_V bX1_good (fun _ h => h) bX1_30 bX1_53 bX1_90 bX1_21 bX1_109
theorem gX1_X1_isKept : GoodIn bX1 (wsV RX1 85 RX1 yX1_isKept wsX1_isKept) := bg_V bX1_good (fun _ h => h) bX1_31 bX1_56 bX1_91 bX1_21 bX1_112
theorem gX1_X1_slot : GoodIn bX1 (va_wsS RX1 81 yX1_slot wsX1_slot) := bg_S bX1_good (fun _ h => h) bX1_32 bX1_57 bX1_21 bX1_113
theorem gX1_X1_regionOf : GoodIn bX1 (va_wsS RX1 75 yX1_regionOf wsX1_regionOf) := bg_S bX1_good (fun _ h => h) bX1_33 bX1_58 bX1_21 bX1_114
theorem gX1_X1_pageOf : GoodIn bX1 (va_wsS RX1 78 yX1_pageOf wsX1_pageOf) := bg_S bX1_good (fun _ h => h) bX1_34 bX1_59 bX1_21 bX1_115
theorem gX1_X1_isSize : GoodIn bX1 (va_wsS RX1 113 yX1_isSize wsX1_isSize) := bg_S bX1_good (fun _ h => h) bX1_35 bX1_61 bX1_21 bX1_117
theorem gX1_X1_reach : GoodIn bX1 (wsV RX1 118 RX1 yX1_reach wsX1_reach) := bg_V bX1_good (fun _ h => h) bX1_36 bX1_62 bX1_92 bX1_21 bX1_118
theorem gX1_X1_translate : GoodIn bX1 (wsV RX1 109 RX1 yX1_translate wsX1_translate) := bg_V bX1_good (fun _ h => h) bX1_37 bX1_63 bX1_93 bX1_21 bX1_119
theorem gX1_X1_look : GoodIn bX1 (wsV RX1 100 RX1 yX1_look wsX1_look) := bg_V bX1_good (fun _ h => h) bX1_38 bX1_64 bX1_94 bX1_21 bX1_120
theorem gX1_X1_isInside : GoodIn bX1 (wsV RX1 94 RX1 yX1_isInside wsX1_isInside) := bg_V bX1_good (fun _ h => h) bX1_39 bX1_65 bX1_95 bX1_21 bX1_121
theorem gX1_X1_keeps : GoodIn bX1 (wsV RX1 97 RX1 yX1_keeps wsX1_keeps) := bg_V bX1_good (fun _ h => h) bX1_40 bX1_66 bX1_96 bX1_21 bX1_122
theorem gX1_X1_isRight : GoodIn bX1 (wsV RX1 104 RX1 yX1_isRight wsX1_isRight) := bg_V bX1_good (fun _ h => h) bX1_41 bX1_67 bX1_97 bX1_21 bX1_123
set_option maxRecDepth 20000 in
theorem lwt_0 : Cond.initialized RL ∈ lw_tbl := List.mem_append_right _ (List.mem_of_getElem? (i := 0) (by decide +kernel))
set_option maxRecDepth 20000 in
theorem lwt_1 : Cond.initialized RX0 ∈ lw_tbl := List.mem_append_right _ (List.mem_of_getElem? (i := 1) (by decide +kernel))
set_option maxRecDepth 20000 in
theorem lwt_2 : Cond.initialized RJ ∈ lw_tbl := List.mem_append_right _ (List.mem_of_getElem? (i := 2) (by decide +kernel))
set_option maxRecDepth 20000 in
theorem lwt_3 : Cond.initialized RX1 ∈ lw_tbl := List.mem_append_right _ (List.mem_of_getElem? (i := 3) (by decide +kernel))
set_option maxRecDepth 20000 in
theorem lwt_4 : Cond.classLink RL 7 RX0 ∈ lw_tbl := List.mem_append_right _ (List.mem_of_getElem? (i := 4) (by decide +kernel))
set_option maxRecDepth 20000 in
theorem lwt_5 : Cond.instantiable RX0 9 ∈ lw_tbl := List.mem_append_right _ (List.mem_of_getElem? (i := 5) (by decide +kernel))
set_option maxRecDepth 20000 in
theorem lwt_6 : Cond.methodLink RL 15 yX0_init ∈ lw_tbl := List.mem_append_right _ (List.mem_of_getElem? (i := 6) (by decide +kernel))
set_option maxRecDepth 20000 in
theorem lwt_7 : Cond.instanceMethod yX0_init ∈ lw_tbl := List.mem_append_right _ (List.mem_of_getElem? (i := 7) (by decide +kernel))
set_option maxRecDepth 20000 in
theorem lwt_8 : Cond.code yX0_init cX0_init 3 none ∈ lw_tbl := List.mem_append_right _ (List.mem_of_getElem? (i := 8) rfl)
set_option maxRecDepth 20000 in
theorem lwt_45 : Cond.methodLink RL 21 yX0_put ∈ lw_tbl := List.mem_append_right _ (List.mem_of_getElem? (i := 45) (by decide +kernel))
set_option maxRecDepth 20000 in
theorem lwt_46 : Cond.instanceMethod yX0_put ∈ lw_tbl := List.mem_append_right _ (List.mem_of_getElem? (i := 46) (by decide +kernel))
set_option maxRecDepth 20000 in
theorem lwt_47 : Cond.selects RX0 yX0_put yX0_put ∈ lw_tbl := List.mem_append_right _ (List.mem_of_getElem? (i := 47) (by decide +kernel))
set_option maxRecDepth 20000 in
theorem lwt_48 : Cond.code yX0_put cX0_put 3 (some .boolean) ∈ lw_tbl := List.mem_append_right _ (List.mem_of_getElem? (i := 48) rfl)
set_option maxRecDepth 20000 in
theorem lwt_53 : Cond.methodLink RL 26 yX0_entry ∈ lw_tbl := List.mem_append_right _ (List.mem_of_getElem? (i := 53) (by decide +kernel))
set_option maxRecDepth 20000 in
theorem lwt_54 : Cond.instanceMethod yX0_entry ∈ lw_tbl := List.mem_append_right _ (List.mem_of_getElem? (i := 54) (by decide +kernel))
set_option maxRecDepth 20000 in
theorem lwt_55 : Cond.selects RX0 yX0_entry yX0_entry ∈ lw_tbl := List.mem_append_right _ (List.mem_of_getElem? (i := 55) (by decide +kernel))
set_option maxRecDepth 20000 in
theorem lwt_56 : Cond.code yX0_entry cX0_entry 4 (some .boolean) ∈ lw_tbl := List.mem_append_right _ (List.mem_of_getElem? (i := 56) rfl)
set_option maxRecDepth 20000 in
theorem lwt_57 : Cond.methodLink RL 30 yX0_entryOf ∈ lw_tbl := List.mem_append_right _ (List.mem_of_getElem? (i := 57) (by decide +kernel))
set_option maxRecDepth 20000 in
theorem lwt_58 : Cond.instanceMethod yX0_entryOf ∈ lw_tbl := List.mem_append_right _ (List.mem_of_getElem? (i := 58) (by decide +kernel))
set_option maxRecDepth 20000 in
theorem lwt_59 : Cond.selects RX0 yX0_entryOf yX0_entryOf ∈ lw_tbl := List.mem_append_right _ (List.mem_of_getElem? (i := 59) (by decide +kernel))
set_option maxRecDepth 20000 in
theorem lwt_60 : Cond.code yX0_entryOf cX0_entryOf 2 (some .long) ∈ lw_tbl := List.mem_append_right _ (List.mem_of_getElem? (i := 60) rfl)
set_option maxRecDepth 20000 in
theorem lwt_71 : Cond.methodLink RL 35 yX0_region ∈ lw_tbl := List.mem_append_right _ (List.mem_of_getElem? (i := 71) (by decide +kernel))
set_option maxRecDepth 20000 in
theorem lwt_72 : Cond.instanceMethod yX0_region ∈ lw_tbl := List.mem_append_right _ (List.mem_of_getElem? (i := 72) (by decide +kernel))
set_option maxRecDepth 20000 in
theorem lwt_73 : Cond.selects RX0 yX0_region yX0_region ∈ lw_tbl := List.mem_append_right _ (List.mem_of_getElem? (i := 73) (by decide +kernel))
set_option maxRecDepth 20000 in
theorem lwt_74 : Cond.code yX0_region cX0_region 4 (some .boolean) ∈ lw_tbl := List.mem_append_right _ (List.mem_of_getElem? (i := 74) rfl)
set_option maxRecDepth 20000 in
theorem lwt_80 : Cond.methodLink RL 40 yX0_map ∈ lw_tbl := List.mem_append_right _ (List.mem_of_getElem? (i := 80) (by decide +kernel))
set_option maxRecDepth 20000 in
theorem lwt_81 : Cond.instanceMethod yX0_map ∈ lw_tbl := List.mem_append_right _ (List.mem_of_getElem? (i := 81) (by decide +kernel))
set_option maxRecDepth 20000 in
theorem lwt_82 : Cond.selects RX0 yX0_map yX0_map ∈ lw_tbl := List.mem_append_right _ (List.mem_of_getElem? (i := 82) (by decide +kernel))
set_option maxRecDepth 20000 in
theorem lwt_83 : Cond.code yX0_map cX0_map 2 none ∈ lw_tbl := List.mem_append_right _ (List.mem_of_getElem? (i := 83) rfl)
set_option maxRecDepth 20000 in
theorem lwt_84 : Cond.methodLink RL 45 yX0_drop ∈ lw_tbl := List.mem_append_right _ (List.mem_of_getElem? (i := 84) (by decide +kernel))
set_option maxRecDepth 20000 in
theorem lwt_85 : Cond.instanceMethod yX0_drop ∈ lw_tbl := List.mem_append_right _ (List.mem_of_getElem? (i := 85) (by decide +kernel))
set_option maxRecDepth 20000 in
theorem lwt_86 : Cond.selects RX0 yX0_drop yX0_drop ∈ lw_tbl := List.mem_append_right _ (List.mem_of_getElem? (i := 86) (by decide +kernel))
set_option maxRecDepth 20000 in
theorem lwt_87 : Cond.code yX0_drop cX0_drop 4 (some .boolean) ∈ lw_tbl := List.mem_append_right _ (List.mem_of_getElem? (i := 87) rfl)
set_option maxRecDepth 20000 in
theorem lwt_101 : Cond.methodLink RL 50 yX0_read ∈ lw_tbl := List.mem_append_right _ (List.mem_of_getElem? (i := 101) (by decide +kernel))
set_option maxRecDepth 20000 in
theorem lwt_102 : Cond.instanceMethod yX0_read ∈ lw_tbl := List.mem_append_right _ (List.mem_of_getElem? (i := 102) (by decide +kernel))
set_option maxRecDepth 20000 in
theorem lwt_103 : Cond.selects RX0 yX0_read yX0_read ∈ lw_tbl := List.mem_append_right _ (List.mem_of_getElem? (i := 103) (by decide +kernel))
set_option maxRecDepth 20000 in
theorem lwt_104 : Cond.code yX0_read cX0_read 8 (some .long) ∈ lw_tbl := List.mem_append_right _ (List.mem_of_getElem? (i := 104) rfl)
set_option maxRecDepth 20000 in
theorem lwt_165 : Cond.methodLink RL 55 yX0_write ∈ lw_tbl := List.mem_append_right _ (List.mem_of_getElem? (i := 165) (by decide +kernel))
set_option maxRecDepth 20000 in
theorem lwt_166 : Cond.instanceMethod yX0_write ∈ lw_tbl := List.mem_append_right _ (List.mem_of_getElem? (i := 166) (by decide +kernel))
set_option maxRecDepth 20000 in
theorem lwt_167 : Cond.selects RX0 yX0_write yX0_write ∈ lw_tbl := List.mem_append_right _ (List.mem_of_getElem? (i := 167) (by decide +kernel))
set_option maxRecDepth 20000 in
theorem lwt_168 : Cond.code yX0_write cX0_write 7 (some .int) ∈ lw_tbl := List.mem_append_right _ (List.mem_of_getElem? (i := 168) rfl)
set_option maxRecDepth 20000 in
theorem lwt_169 : Cond.methodLink RL 60 yX0_where ∈ lw_tbl := List.mem_append_right _ (List.mem_of_getElem? (i := 169) (by decide +kernel))
set_option maxRecDepth 20000 in
theorem lwt_170 : Cond.instanceMethod yX0_where ∈ lw_tbl := List.mem_append_right _ (List.mem_of_getElem? (i := 170) (by decide +kernel))
set_option maxRecDepth 20000 in
theorem lwt_171 : Cond.selects RX0 yX0_where yX0_where ∈ lw_tbl := List.mem_append_right _ (List.mem_of_getElem? (i := 171) (by decide +kernel))
set_option maxRecDepth 20000 in
theorem lwt_172 : Cond.code yX0_where cX0_where 5 (some .int) ∈ lw_tbl := List.mem_append_right _ (List.mem_of_getElem? (i := 172) rfl)
set_option maxRecDepth 20000 in
theorem lwt_173 : Cond.methodLink RL 65 yX0_may ∈ lw_tbl := List.mem_append_right _ (List.mem_of_getElem? (i := 173) (by decide +kernel))
set_option maxRecDepth 20000 in
theorem lwt_174 : Cond.instanceMethod yX0_may ∈ lw_tbl := List.mem_append_right _ (List.mem_of_getElem? (i := 174) (by decide +kernel))
set_option maxRecDepth 20000 in
theorem lwt_175 : Cond.selects RX0 yX0_may yX0_may ∈ lw_tbl := List.mem_append_right _ (List.mem_of_getElem? (i := 175) (by decide +kernel))
set_option maxRecDepth 20000 in
theorem lwt_176 : Cond.code yX0_may cX0_may 7 (some .int) ∈ lw_tbl := List.mem_append_right _ (List.mem_of_getElem? (i := 176) rfl)
set_option maxRecDepth 20000 in
theorem lwt_180 : Cond.methodLink RL 69 yX0_kept ∈ lw_tbl := List.mem_append_right _ (List.mem_of_getElem? (i := 180) (by decide +kernel))
set_option maxRecDepth 20000 in
theorem lwt_181 : Cond.instanceMethod yX0_kept ∈ lw_tbl := List.mem_append_right _ (List.mem_of_getElem? (i := 181) (by decide +kernel))
set_option maxRecDepth 20000 in
theorem lwt_182 : Cond.selects RX0 yX0_kept yX0_kept ∈ lw_tbl := List.mem_append_right _ (List.mem_of_getElem? (i := 182) (by decide +kernel))
set_option maxRecDepth 20000 in
theorem lwt_183 : Cond.code yX0_kept cX0_kept 4 (some .long) ∈ lw_tbl := List.mem_append_right _ (List.mem_of_getElem? (i := 183) rfl)
set_option maxRecDepth 20000 in
theorem lwt_184 : Cond.methodLink RL 74 yX0_failed ∈ lw_tbl := List.mem_append_right _ (List.mem_of_getElem? (i := 184) (by decide +kernel))
set_option maxRecDepth 20000 in
theorem lwt_185 : Cond.instanceMethod yX0_failed ∈ lw_tbl := List.mem_append_right _ (List.mem_of_getElem? (i := 185) (by decide +kernel))
set_option maxRecDepth 20000 in
theorem lwt_186 : Cond.selects RX0 yX0_failed yX0_failed ∈ lw_tbl := List.mem_append_right _ (List.mem_of_getElem? (i := 186) (by decide +kernel))
set_option maxRecDepth 20000 in
theorem lwt_187 : Cond.code yX0_failed cX0_failed 1 (some .int) ∈ lw_tbl := List.mem_append_right _ (List.mem_of_getElem? (i := 187) rfl)
set_option maxRecDepth 20000 in
theorem lwt_188 : Cond.methodLink RL 9 yL_cell ∈ lw_tbl := List.mem_append_right _ (List.mem_of_getElem? (i := 188) (by decide +kernel))
set_option maxRecDepth 20000 in
theorem lwt_189 : Cond.static yL_cell ∈ lw_tbl := List.mem_append_right _ (List.mem_of_getElem? (i := 189) (by decide +kernel))
set_option maxRecDepth 20000 in
theorem lwt_190 : Cond.code yL_cell cL_cell 2 (some .int) ∈ lw_tbl := List.mem_append_right _ (List.mem_of_getElem? (i := 190) rfl)
set_option maxRecDepth 20000 in
theorem lwt_191 : Cond.classLink RL 18 RX1 ∈ lw_tbl := List.mem_append_right _ (List.mem_of_getElem? (i := 191) (by decide +kernel))
set_option maxRecDepth 20000 in
theorem lwt_192 : Cond.instantiable RX1 14 ∈ lw_tbl := List.mem_append_right _ (List.mem_of_getElem? (i := 192) (by decide +kernel))
set_option maxRecDepth 20000 in
theorem lwt_193 : Cond.methodLink RL 20 yX1_init ∈ lw_tbl := List.mem_append_right _ (List.mem_of_getElem? (i := 193) (by decide +kernel))
set_option maxRecDepth 20000 in
theorem lwt_194 : Cond.instanceMethod yX1_init ∈ lw_tbl := List.mem_append_right _ (List.mem_of_getElem? (i := 194) (by decide +kernel))
set_option maxRecDepth 20000 in
theorem lwt_195 : Cond.code yX1_init cX1_init 3 none ∈ lw_tbl := List.mem_append_right _ (List.mem_of_getElem? (i := 195) rfl)
set_option maxRecDepth 20000 in
theorem lwt_244 : Cond.methodLink RL 25 yX1_put ∈ lw_tbl := List.mem_append_right _ (List.mem_of_getElem? (i := 244) (by decide +kernel))
set_option maxRecDepth 20000 in
theorem lwt_245 : Cond.instanceMethod yX1_put ∈ lw_tbl := List.mem_append_right _ (List.mem_of_getElem? (i := 245) (by decide +kernel))
set_option maxRecDepth 20000 in
theorem lwt_246 : Cond.selects RX1 yX1_put yX1_put ∈ lw_tbl := List.mem_append_right _ (List.mem_of_getElem? (i := 246) (by decide +kernel))
set_option maxRecDepth 20000 in
theorem lwt_247 : Cond.code yX1_put cX1_put 3 (some .boolean) ∈ lw_tbl := List.mem_append_right _ (List.mem_of_getElem? (i := 247) rfl)
set_option maxRecDepth 20000 in
theorem lwt_252 : Cond.methodLink RL 29 yX1_entry ∈ lw_tbl := List.mem_append_right _ (List.mem_of_getElem? (i := 252) (by decide +kernel))
set_option maxRecDepth 20000 in
theorem lwt_253 : Cond.instanceMethod yX1_entry ∈ lw_tbl := List.mem_append_right _ (List.mem_of_getElem? (i := 253) (by decide +kernel))
set_option maxRecDepth 20000 in
theorem lwt_254 : Cond.selects RX1 yX1_entry yX1_entry ∈ lw_tbl := List.mem_append_right _ (List.mem_of_getElem? (i := 254) (by decide +kernel))
set_option maxRecDepth 20000 in
theorem lwt_255 : Cond.code yX1_entry cX1_entry 3 (some .boolean) ∈ lw_tbl := List.mem_append_right _ (List.mem_of_getElem? (i := 255) rfl)
set_option maxRecDepth 20000 in
theorem lwt_264 : Cond.methodLink RL 34 yX1_entryOf ∈ lw_tbl := List.mem_append_right _ (List.mem_of_getElem? (i := 264) (by decide +kernel))
set_option maxRecDepth 20000 in
theorem lwt_265 : Cond.instanceMethod yX1_entryOf ∈ lw_tbl := List.mem_append_right _ (List.mem_of_getElem? (i := 265) (by decide +kernel))
set_option maxRecDepth 20000 in
theorem lwt_266 : Cond.selects RX1 yX1_entryOf yX1_entryOf ∈ lw_tbl := List.mem_append_right _ (List.mem_of_getElem? (i := 266) (by decide +kernel))
set_option maxRecDepth 20000 in
theorem lwt_267 : Cond.code yX1_entryOf cX1_entryOf 2 (some .long) ∈ lw_tbl := List.mem_append_right _ (List.mem_of_getElem? (i := 267) rfl)
set_option maxRecDepth 20000 in
theorem lwt_274 : Cond.methodLink RL 39 yX1_region ∈ lw_tbl := List.mem_append_right _ (List.mem_of_getElem? (i := 274) (by decide +kernel))
set_option maxRecDepth 20000 in
theorem lwt_275 : Cond.instanceMethod yX1_region ∈ lw_tbl := List.mem_append_right _ (List.mem_of_getElem? (i := 275) (by decide +kernel))
set_option maxRecDepth 20000 in
theorem lwt_276 : Cond.selects RX1 yX1_region yX1_region ∈ lw_tbl := List.mem_append_right _ (List.mem_of_getElem? (i := 276) (by decide +kernel))
set_option maxRecDepth 20000 in
theorem lwt_277 : Cond.code yX1_region cX1_region 4 (some .boolean) ∈ lw_tbl := List.mem_append_right _ (List.mem_of_getElem? (i := 277) rfl)
set_option maxRecDepth 20000 in
theorem lwt_283 : Cond.methodLink RL 44 yX1_map ∈ lw_tbl := List.mem_append_right _ (List.mem_of_getElem? (i := 283) (by decide +kernel))
set_option maxRecDepth 20000 in
theorem lwt_284 : Cond.instanceMethod yX1_map ∈ lw_tbl := List.mem_append_right _ (List.mem_of_getElem? (i := 284) (by decide +kernel))
set_option maxRecDepth 20000 in
theorem lwt_285 : Cond.selects RX1 yX1_map yX1_map ∈ lw_tbl := List.mem_append_right _ (List.mem_of_getElem? (i := 285) (by decide +kernel))
set_option maxRecDepth 20000 in
theorem lwt_286 : Cond.code yX1_map cX1_map 2 none ∈ lw_tbl := List.mem_append_right _ (List.mem_of_getElem? (i := 286) rfl)
set_option maxRecDepth 20000 in
theorem lwt_287 : Cond.methodLink RL 49 yX1_drop ∈ lw_tbl := List.mem_append_right _ (List.mem_of_getElem? (i := 287) (by decide +kernel))
set_option maxRecDepth 20000 in
theorem lwt_288 : Cond.instanceMethod yX1_drop ∈ lw_tbl := List.mem_append_right _ (List.mem_of_getElem? (i := 288) (by decide +kernel))
set_option maxRecDepth 20000 in
theorem lwt_289 : Cond.selects RX1 yX1_drop yX1_drop ∈ lw_tbl := List.mem_append_right _ (List.mem_of_getElem? (i := 289) (by decide +kernel))
set_option maxRecDepth 20000 in
theorem lwt_290 : Cond.code yX1_drop cX1_drop 3 (some .boolean) ∈ lw_tbl := List.mem_append_right _ (List.mem_of_getElem? (i := 290) rfl)
set_option maxRecDepth 20000 in
theorem lwt_305 : Cond.methodLink RL 54 yX1_read ∈ lw_tbl := List.mem_append_right _ (List.mem_of_getElem? (i := 305) (by decide +kernel))
set_option maxRecDepth 20000 in
theorem lwt_306 : Cond.instanceMethod yX1_read ∈ lw_tbl := List.mem_append_right _ (List.mem_of_getElem? (i := 306) (by decide +kernel))
set_option maxRecDepth 20000 in
theorem lwt_307 : Cond.selects RX1 yX1_read yX1_read ∈ lw_tbl := List.mem_append_right _ (List.mem_of_getElem? (i := 307) (by decide +kernel))
set_option maxRecDepth 20000 in
theorem lwt_308 : Cond.code yX1_read cX1_read 8 (some .long) ∈ lw_tbl := List.mem_append_right _ (List.mem_of_getElem? (i := 308) rfl)
set_option maxRecDepth 20000 in
theorem lwt_339 : Cond.methodLink RL 59 yX1_write ∈ lw_tbl := List.mem_append_right _ (List.mem_of_getElem? (i := 339) (by decide +kernel))
set_option maxRecDepth 20000 in
theorem lwt_340 : Cond.instanceMethod yX1_write ∈ lw_tbl := List.mem_append_right _ (List.mem_of_getElem? (i := 340) (by decide +kernel))
set_option maxRecDepth 20000 in
theorem lwt_341 : Cond.selects RX1 yX1_write yX1_write ∈ lw_tbl := List.mem_append_right _ (List.mem_of_getElem? (i := 341) (by decide +kernel))
set_option maxRecDepth 20000 in
theorem lwt_342 : Cond.code yX1_write cX1_write 7 (some .int) ∈ lw_tbl := List.mem_append_right _ (List.mem_of_getElem? (i := 342) rfl)
set_option maxRecDepth 20000 in
theorem lwt_343 : Cond.methodLink RL 64 yX1_where ∈ lw_tbl := List.mem_append_right _ (List.mem_of_getElem? (i := 343) (by decide +kernel))
set_option maxRecDepth 20000 in
theorem lwt_344 : Cond.instanceMethod yX1_where ∈ lw_tbl := List.mem_append_right _ (List.mem_of_getElem? (i := 344) (by decide +kernel))
set_option maxRecDepth 20000 in
theorem lwt_345 : Cond.selects RX1 yX1_where yX1_where ∈ lw_tbl := List.mem_append_right _ (List.mem_of_getElem? (i := 345) (by decide +kernel))
set_option maxRecDepth 20000 in
theorem lwt_346 : Cond.code yX1_where cX1_where 5 (some .int) ∈ lw_tbl := List.mem_append_right _ (List.mem_of_getElem? (i := 346) rfl)
set_option maxRecDepth 20000 in
theorem lwt_347 : Cond.methodLink RL 68 yX1_may ∈ lw_tbl := List.mem_append_right _ (List.mem_of_getElem? (i := 347) (by decide +kernel))
set_option maxRecDepth 20000 in
theorem lwt_348 : Cond.instanceMethod yX1_may ∈ lw_tbl := List.mem_append_right _ (List.mem_of_getElem? (i := 348) (by decide +kernel))
set_option maxRecDepth 20000 in
theorem lwt_349 : Cond.selects RX1 yX1_may yX1_may ∈ lw_tbl := List.mem_append_right _ (List.mem_of_getElem? (i := 349) (by decide +kernel))
set_option maxRecDepth 20000 in
theorem lwt_350 : Cond.code yX1_may cX1_may 5 (some .int) ∈ lw_tbl := List.mem_append_right _ (List.mem_of_getElem? (i := 350) rfl)
set_option maxRecDepth 20000 in
theorem lwt_351 : Cond.methodLink RL 73 yX1_kept ∈ lw_tbl := List.mem_append_right _ (List.mem_of_getElem? (i := 351) (by decide +kernel))
set_option maxRecDepth 20000 in
theorem lwt_352 : Cond.instanceMethod yX1_kept ∈ lw_tbl := List.mem_append_right _ (List.mem_of_getElem? (i := 352) (by decide +kernel))
set_option maxRecDepth 20000 in
theorem lwt_353 : Cond.selects RX1 yX1_kept yX1_kept ∈ lw_tbl := List.mem_append_right _ (List.mem_of_getElem? (i := 353) (by decide +kernel))
set_option maxRecDepth 20000 in
theorem lwt_354 : Cond.code yX1_kept cX1_kept 4 (some .long) ∈ lw_tbl := List.mem_append_right _ (List.mem_of_getElem? (i := 354) rfl)
set_option maxRecDepth 20000 in
theorem lwt_355 : Cond.methodLink RL 78 yX1_failed ∈ lw_tbl := List.mem_append_right _ (List.mem_of_getElem? (i := 355) (by decide +kernel))
set_option maxRecDepth 20000 in
theorem lwt_356 : Cond.instanceMethod yX1_failed ∈ lw_tbl := List.mem_append_right _ (List.mem_of_getElem? (i := 356) (by decide +kernel))
set_option maxRecDepth 20000 in
theorem lwt_357 : Cond.selects RX1 yX1_failed yX1_failed ∈ lw_tbl := List.mem_append_right _ (List.mem_of_getElem? (i := 357) (by decide +kernel))
set_option maxRecDepth 20000 in
theorem lwt_358 : Cond.code yX1_failed cX1_failed 1 (some .int) ∈ lw_tbl := List.mem_append_right _ (List.mem_of_getElem? (i := 358) rfl)
theorem gL_X0_init : GoodIn lw_tbl wsX0_init := bg_I bX0_good bX0_in lwt_8
theorem gL_X0_put : GoodIn lw_tbl (wsV RL 21 RX0 yX0_put wsX0_put) := bg_V bX0_good bX0_in lwt_45 lwt_46 lwt_47 lwt_1 lwt_48
theorem gL_X0_entry : GoodIn lw_tbl (wsV RL 26 RX0 yX0_entry wsX0_entry) := bg_V bX0_good bX0_in lwt_53 lwt_54 lwt_55 lwt_1 lwt_56
theorem gL_X0_entryOf : GoodIn lw_tbl (wsV RL 30 RX0 yX0_entryOf wsX0_entryOf) := bg_V bX0_good bX0_in lwt_57 lwt_58 lwt_59 lwt_1 lwt_60
theorem gL_X0_region : GoodIn lw_tbl (wsV RL 35 RX0 yX0_region wsX0_region) := bg_V bX0_good bX0_in lwt_71 lwt_72 lwt_73 lwt_1 lwt_74
theorem gL_X0_map : GoodIn lw_tbl (wsV RL 40 RX0 yX0_map wsX0_map) := bg_V bX0_good bX0_in lwt_80 lwt_81 lwt_82 lwt_1 lwt_83
theorem gL_X0_drop : GoodIn lw_tbl (wsV RL 45 RX0 yX0_drop wsX0_drop) := bg_V bX0_good bX0_in lwt_84 lwt_85 lwt_86 lwt_1 lwt_87
theorem gL_X0_read : GoodIn lw_tbl (wsV RL 50 RX0 yX0_read wsX0_read) := bg_V bX0_good bX0_in lwt_101 lwt_102 lwt_103 lwt_1 lwt_104
theorem gL_X0_write : GoodIn lw_tbl (wsV RL 55 RX0 yX0_write wsX0_write) := bg_V bX0_good bX0_in lwt_165 lwt_166 lwt_167 lwt_1 lwt_168
theorem gL_X0_where : GoodIn lw_tbl (wsV RL 60 RX0 yX0_where wsX0_where) := bg_V bX0_good bX0_in lwt_169 lwt_170 lwt_171 lwt_1 lwt_172
theorem gL_X0_may : GoodIn lw_tbl (wsV RL 65 RX0 yX0_may wsX0_may) := bg_V bX0_good bX0_in lwt_173 lwt_174 lwt_175 lwt_1 lwt_176
theorem gL_X0_kept : GoodIn lw_tbl (wsV RL 69 RX0 yX0_kept wsX0_kept) := bg_V bX0_good bX0_in lwt_180 lwt_181 lwt_182 lwt_1 lwt_183
theorem gL_X0_failed : GoodIn lw_tbl (wsV RL 74 RX0 yX0_failed wsX0_failed) := bg_V bX0_good bX0_in lwt_184 lwt_185 lwt_186 lwt_1 lwt_187
theorem gL_L_cell : GoodIn lw_tbl (va_wsS RL 9 yL_cell wsL_cell) := bg_S (fun _ h => absurd h List.not_mem_nil) (fun _ h => absurd h List.not_mem_nil) lwt_188 lwt_189 lwt_0 lwt_190
theorem gL_X1_init : GoodIn lw_tbl wsX1_init := bg_I bX1_good bX1_in lwt_195
theorem gL_X1_put : GoodIn lw_tbl (wsV RL 25 RX1 yX1_put wsX1_put) := bg_V bX1_good bX1_in lwt_244 lwt_245 lwt_246 lwt_3 lwt_247
theorem gL_X1_entry : GoodIn lw_tbl (wsV RL 29 RX1 yX1_entry wsX1_entry) := bg_V bX1_good bX1_in lwt_252 lwt_253 lwt_254 lwt_3 lwt_255
theorem gL_X1_entryOf : GoodIn lw_tbl (wsV RL 34 RX1 yX1_entryOf wsX1_entryOf) := bg_V bX1_good bX1_in lwt_264 lwt_265 lwt_266 lwt_3 lwt_267
theorem gL_X1_region : GoodIn lw_tbl (wsV RL 39 RX1 yX1_region wsX1_region) := bg_V bX1_good bX1_in lwt_274 lwt_275 lwt_276 lwt_3 lwt_277
theorem gL_X1_map : GoodIn lw_tbl (wsV RL 44 RX1 yX1_map wsX1_map) := bg_V bX1_good bX1_in lwt_283 lwt_284 lwt_285 lwt_3 lwt_286
theorem gL_X1_drop : GoodIn lw_tbl (wsV RL 49 RX1 yX1_drop wsX1_drop) := bg_V bX1_good bX1_in lwt_287 lwt_288 lwt_289 lwt_3 lwt_290
theorem gL_X1_read : GoodIn lw_tbl (wsV RL 54 RX1 yX1_read wsX1_read) := bg_V bX1_good bX1_in lwt_305 lwt_306 lwt_307 lwt_3 lwt_308
theorem gL_X1_write : GoodIn lw_tbl (wsV RL 59 RX1 yX1_write wsX1_write) := bg_V bX1_good bX1_in lwt_339 lwt_340 lwt_341 lwt_3 lwt_342
theorem gL_X1_where : GoodIn lw_tbl (wsV RL 64 RX1 yX1_where wsX1_where) := bg_V bX1_good bX1_in lwt_343 lwt_344 lwt_345 lwt_3 lwt_346
theorem gL_X1_may : GoodIn lw_tbl (wsV RL 68 RX1 yX1_may wsX1_may) := bg_V bX1_good bX1_in lwt_347 lwt_348 lwt_349 lwt_3 lwt_350
theorem gL_X1_kept : GoodIn lw_tbl (wsV RL 73 RX1 yX1_kept wsX1_kept) := bg_V bX1_good bX1_in lwt_351 lwt_352 lwt_353 lwt_3 lwt_354
theorem gL_X1_failed : GoodIn lw_tbl (wsV RL 78 RX1 yX1_failed wsX1_failed) := bg_V bX1_good bX1_in lwt_355 lwt_356 lwt_357 lwt_3 lwt_358
end
section
theorem dJ_fill_0 : decode cJ_fill 0 = .ok (.iconst 0, 1) := by decide +kernel
theorem dJ_fill_1 : decode cJ_fill 1 = .ok (.istore_n 2, 1) := by decide +kernel
theorem dJ_fill_2 : decode cJ_fill 2 = .ok (.aload_n 0, 1) := by decide +kernel
theorem dJ_fill_3 : decode cJ_fill 3 = .ok (.arraylength, 1) := by decide +kernel
theorem dJ_fill_4 : decode cJ_fill 4 = .ok (.istore_n 3, 1) := by decide +kernel
theorem dJ_fill_5 : decode cJ_fill 5 = .ok (.iload_n 2, 1) := by decide +kernel
theorem dJ_fill_6 : decode cJ_fill 6 = .ok (.iload_n 3, 1) := by decide +kernel
theorem dJ_fill_7 : decode cJ_fill 7 = .ok (.if_icmp .ge 13, 3) := by decide +kernel
theorem dJ_fill_10 : decode cJ_fill 10 = .ok (.aload_n 0, 1) := by decide +kernel
theorem dJ_fill_11 : decode cJ_fill 11 = .ok (.iload_n 2, 1) := by decide +kernel
theorem dJ_fill_12 : decode cJ_fill 12 = .ok (.iload_n 1, 1) := by decide +kernel
theorem dJ_fill_13 : decode cJ_fill 13 = .ok (.iastore, 1) := by decide +kernel
theorem dJ_fill_14 : decode cJ_fill 14 = .ok (.iinc 2 1, 3) := by decide +kernel
theorem dJ_fill_17 : decode cJ_fill 17 = .ok (.goto (-12), 3) := by decide +kernel
theorem dJ_fill_20 : decode cJ_fill 20 = .ok (.return_, 1) := by decide +kernel
end
section
theorem dX0_init_0 : decode cX0_init 0 = .ok (.aload_n 0, 1) := by decide +kernel
theorem dX0_init_1 : decode cX0_init 1 = .ok (.invokespecial 1, 3) := by decide +kernel
theorem dX0_init_4 : decode cX0_init 4 = .ok (.iload_n 1, 1) := by decide +kernel
theorem dX0_init_5 : decode cX0_init 5 = .ok (.iconst 4, 1) := by decide +kernel
theorem dX0_init_6 : decode cX0_init 6 = .ok (.if_icmp .lt 14, 3) := by decide +kernel
theorem dX0_init_9 : decode cX0_init 9 = .ok (.iload_n 1, 1) := by decide +kernel
theorem dX0_init_10 : decode cX0_init 10 = .ok (.sipush 128, 3) := by decide +kernel
theorem dX0_init_13 : decode cX0_init 13 = .ok (.if_icmp .gt 7, 3) := by decide +kernel
theorem dX0_init_16 : decode cX0_init 16 = .ok (.iload_n 1, 1) := by decide +kernel
theorem dX0_init_17 : decode cX0_init 17 = .ok (.goto 5, 3) := by decide +kernel
theorem dX0_init_20 : decode cX0_init 20 = .ok (.bipush 32, 2) := by decide +kernel
theorem dX0_init_22 : decode cX0_init 22 = .ok (.istore_n 2, 1) := by decide +kernel
theorem dX0_init_23 : decode cX0_init 23 = .ok (.aload_n 0, 1) := by decide +kernel
theorem dX0_init_24 : decode cX0_init 24 = .ok (.iload_n 2, 1) := by decide +kernel
theorem dX0_init_25 : decode cX0_init 25 = .ok (.bipush 16, 2) := by decide +kernel
theorem dX0_init_27 : decode cX0_init 27 = .ok (.imul, 1) := by decide +kernel
theorem dX0_init_28 : decode cX0_init 28 = .ok (.newarray .byte, 2) := by decide +kernel
theorem dX0_init_30 : decode cX0_init 30 = .ok (.putfield 9, 3) := by decide +kernel
theorem dX0_init_33 : decode cX0_init 33 = .ok (.aload_n 0, 1) := by decide +kernel
theorem dX0_init_34 : decode cX0_init 34 = .ok (.iconst 3, 1) := by decide +kernel
theorem dX0_init_35 : decode cX0_init 35 = .ok (.newarray .int, 2) := by decide +kernel
theorem dX0_init_37 : decode cX0_init 37 = .ok (.putfield 13, 3) := by decide +kernel
theorem dX0_init_40 : decode cX0_init 40 = .ok (.aload_n 0, 1) := by decide +kernel
theorem dX0_init_41 : decode cX0_init 41 = .ok (.iconst 3, 1) := by decide +kernel
theorem dX0_init_42 : decode cX0_init 42 = .ok (.newarray .int, 2) := by decide +kernel
theorem dX0_init_44 : decode cX0_init 44 = .ok (.putfield 17, 3) := by decide +kernel
theorem dX0_init_47 : decode cX0_init 47 = .ok (.aload_n 0, 1) := by decide +kernel
theorem dX0_init_48 : decode cX0_init 48 = .ok (.iconst 0, 1) := by decide +kernel
theorem dX0_init_49 : decode cX0_init 49 = .ok (.putfield 20, 3) := by decide +kernel
theorem dX0_init_52 : decode cX0_init 52 = .ok (.aload_n 0, 1) := by decide +kernel
theorem dX0_init_53 : decode cX0_init 53 = .ok (.iconst (-1), 1) := by decide +kernel
theorem dX0_init_54 : decode cX0_init 54 = .ok (.putfield 24, 3) := by decide +kernel
theorem dX0_init_57 : decode cX0_init 57 = .ok (.aload_n 0, 1) := by decide +kernel
theorem dX0_init_58 : decode cX0_init 58 = .ok (.bipush 16, 2) := by decide +kernel
theorem dX0_init_60 : decode cX0_init 60 = .ok (.newarray .int, 2) := by decide +kernel
theorem dX0_init_62 : decode cX0_init 62 = .ok (.putfield 28, 3) := by decide +kernel
theorem dX0_init_65 : decode cX0_init 65 = .ok (.aload_n 0, 1) := by decide +kernel
theorem dX0_init_66 : decode cX0_init 66 = .ok (.getfield 28, 3) := by decide +kernel
theorem dX0_init_69 : decode cX0_init 69 = .ok (.iconst (-1), 1) := by decide +kernel
theorem dX0_init_70 : decode cX0_init 70 = .ok (.invokestatic 31, 3) := by decide +kernel
theorem dX0_init_73 : decode cX0_init 73 = .ok (.aload_n 0, 1) := by decide +kernel
theorem dX0_init_74 : decode cX0_init 74 = .ok (.bipush 16, 2) := by decide +kernel
theorem dX0_init_76 : decode cX0_init 76 = .ok (.newarray .int, 2) := by decide +kernel
theorem dX0_init_78 : decode cX0_init 78 = .ok (.putfield 37, 3) := by decide +kernel
theorem dX0_init_81 : decode cX0_init 81 = .ok (.aload_n 0, 1) := by decide +kernel
theorem dX0_init_82 : decode cX0_init 82 = .ok (.bipush 16, 2) := by decide +kernel
theorem dX0_init_84 : decode cX0_init 84 = .ok (.newarray .int, 2) := by decide +kernel
theorem dX0_init_86 : decode cX0_init 86 = .ok (.putfield 40, 3) := by decide +kernel
theorem dX0_init_89 : decode cX0_init 89 = .ok (.aload_n 0, 1) := by decide +kernel
theorem dX0_init_90 : decode cX0_init 90 = .ok (.iconst 4, 1) := by decide +kernel
theorem dX0_init_91 : decode cX0_init 91 = .ok (.newarray .int, 2) := by decide +kernel
theorem dX0_init_93 : decode cX0_init 93 = .ok (.putfield 43, 3) := by decide +kernel
theorem dX0_init_96 : decode cX0_init 96 = .ok (.return_, 1) := by decide +kernel
theorem dX0_put_0 : decode cX0_put 0 = .ok (.aload_n 0, 1) := by decide +kernel
theorem dX0_put_1 : decode cX0_put 1 = .ok (.iload_n 1, 1) := by decide +kernel
theorem dX0_put_2 : decode cX0_put 2 = .ok (.iconst 1, 1) := by decide +kernel
theorem dX0_put_3 : decode cX0_put 3 = .ok (.invokevirtual 46, 3) := by decide +kernel
theorem dX0_put_6 : decode cX0_put 6 = .ok (.ifCond .ne 5, 3) := by decide +kernel
theorem dX0_put_9 : decode cX0_put 9 = .ok (.iconst 0, 1) := by decide +kernel
theorem dX0_put_10 : decode cX0_put 10 = .ok (.ireturn, 1) := by decide +kernel
theorem dX0_put_11 : decode cX0_put 11 = .ok (.aload_n 0, 1) := by decide +kernel
theorem dX0_put_12 : decode cX0_put 12 = .ok (.getfield 9, 3) := by decide +kernel
theorem dX0_put_15 : decode cX0_put 15 = .ok (.iload_n 1, 1) := by decide +kernel
theorem dX0_put_16 : decode cX0_put 16 = .ok (.iload_n 2, 1) := by decide +kernel
theorem dX0_put_17 : decode cX0_put 17 = .ok (.i2b, 1) := by decide +kernel
theorem dX0_put_18 : decode cX0_put 18 = .ok (.bastore, 1) := by decide +kernel
theorem dX0_put_19 : decode cX0_put 19 = .ok (.iconst 1, 1) := by decide +kernel
theorem dX0_put_20 : decode cX0_put 20 = .ok (.ireturn, 1) := by decide +kernel
theorem dX0_entry_0 : decode cX0_entry 0 = .ok (.aload_n 0, 1) := by decide +kernel
theorem dX0_entry_1 : decode cX0_entry 1 = .ok (.iload_n 1, 1) := by decide +kernel
theorem dX0_entry_2 : decode cX0_entry 2 = .ok (.iconst 4, 1) := by decide +kernel
theorem dX0_entry_3 : decode cX0_entry 3 = .ok (.invokevirtual 46, 3) := by decide +kernel
theorem dX0_entry_6 : decode cX0_entry 6 = .ok (.ifCond .ne 5, 3) := by decide +kernel
theorem dX0_entry_9 : decode cX0_entry 9 = .ok (.iconst 0, 1) := by decide +kernel
theorem dX0_entry_10 : decode cX0_entry 10 = .ok (.ireturn, 1) := by decide +kernel
theorem dX0_entry_11 : decode cX0_entry 11 = .ok (.iconst 0, 1) := by decide +kernel
theorem dX0_entry_12 : decode cX0_entry 12 = .ok (.istore_n 3, 1) := by decide +kernel
theorem dX0_entry_13 : decode cX0_entry 13 = .ok (.iload_n 3, 1) := by decide +kernel
theorem dX0_entry_14 : decode cX0_entry 14 = .ok (.iconst 4, 1) := by decide +kernel
theorem dX0_entry_15 : decode cX0_entry 15 = .ok (.if_icmp .ge 24, 3) := by decide +kernel
theorem dX0_entry_18 : decode cX0_entry 18 = .ok (.aload_n 0, 1) := by decide +kernel
theorem dX0_entry_19 : decode cX0_entry 19 = .ok (.getfield 9, 3) := by decide +kernel
theorem dX0_entry_22 : decode cX0_entry 22 = .ok (.iload_n 1, 1) := by decide +kernel
theorem dX0_entry_23 : decode cX0_entry 23 = .ok (.iload_n 3, 1) := by decide +kernel
theorem dX0_entry_24 : decode cX0_entry 24 = .ok (.iadd, 1) := by decide +kernel
theorem dX0_entry_25 : decode cX0_entry 25 = .ok (.iload_n 2, 1) := by decide +kernel
theorem dX0_entry_26 : decode cX0_entry 26 = .ok (.bipush 8, 2) := by decide +kernel
theorem dX0_entry_28 : decode cX0_entry 28 = .ok (.iload_n 3, 1) := by decide +kernel
theorem dX0_entry_29 : decode cX0_entry 29 = .ok (.imul, 1) := by decide +kernel
theorem dX0_entry_30 : decode cX0_entry 30 = .ok (.iushr, 1) := by decide +kernel
theorem dX0_entry_31 : decode cX0_entry 31 = .ok (.i2b, 1) := by decide +kernel
theorem dX0_entry_32 : decode cX0_entry 32 = .ok (.bastore, 1) := by decide +kernel
theorem dX0_entry_33 : decode cX0_entry 33 = .ok (.iinc 3 1, 3) := by decide +kernel
theorem dX0_entry_36 : decode cX0_entry 36 = .ok (.goto (-23), 3) := by decide +kernel
theorem dX0_entry_39 : decode cX0_entry 39 = .ok (.iconst 1, 1) := by decide +kernel
theorem dX0_entry_40 : decode cX0_entry 40 = .ok (.ireturn, 1) := by decide +kernel
theorem dX0_entryOf_0 : decode cX0_entryOf 0 = .ok (.aload_n 0, 1) := by decide +kernel
theorem dX0_entryOf_1 : decode cX0_entryOf 1 = .ok (.iload_n 1, 1) := by decide +kernel
theorem dX0_entryOf_2 : decode cX0_entryOf 2 = .ok (.iconst 4, 1) := by decide +kernel
theorem dX0_entryOf_3 : decode cX0_entryOf 3 = .ok (.invokevirtual 46, 3) := by decide +kernel
theorem dX0_entryOf_6 : decode cX0_entryOf 6 = .ok (.ifCond .eq 16, 3) := by decide +kernel
theorem dX0_entryOf_9 : decode cX0_entryOf 9 = .ok (.aload_n 0, 1) := by decide +kernel
theorem dX0_entryOf_10 : decode cX0_entryOf 10 = .ok (.iload_n 1, 1) := by decide +kernel
theorem dX0_entryOf_11 : decode cX0_entryOf 11 = .ok (.invokevirtual 50, 3) := by decide +kernel
theorem dX0_entryOf_14 : decode cX0_entryOf 14 = .ok (.i2l, 1) := by decide +kernel
theorem dX0_entryOf_15 : decode cX0_entryOf 15 = .ok (.ldc2_w 54, 3) := by decide +kernel
theorem dX0_entryOf_18 : decode cX0_entryOf 18 = .ok (.land, 1) := by decide +kernel
theorem dX0_entryOf_19 : decode cX0_entryOf 19 = .ok (.goto 6, 3) := by decide +kernel
theorem dX0_entryOf_22 : decode cX0_entryOf 22 = .ok (.ldc2_w 56, 3) := by decide +kernel
theorem dX0_entryOf_25 : decode cX0_entryOf 25 = .ok (.lreturn, 1) := by decide +kernel
theorem dX0_region_0 : decode cX0_region 0 = .ok (.iload_n 1, 1) := by decide +kernel
theorem dX0_region_1 : decode cX0_region 1 = .ok (.ifCond .lt 8, 3) := by decide +kernel
theorem dX0_region_4 : decode cX0_region 4 = .ok (.iload_n 1, 1) := by decide +kernel
theorem dX0_region_5 : decode cX0_region 5 = .ok (.iconst 3, 1) := by decide +kernel
theorem dX0_region_6 : decode cX0_region 6 = .ok (.if_icmp .lt 5, 3) := by decide +kernel
theorem dX0_region_9 : decode cX0_region 9 = .ok (.iconst 0, 1) := by decide +kernel
theorem dX0_region_10 : decode cX0_region 10 = .ok (.ireturn, 1) := by decide +kernel
theorem dX0_region_11 : decode cX0_region 11 = .ok (.aload_n 0, 1) := by decide +kernel
theorem dX0_region_12 : decode cX0_region 12 = .ok (.getfield 13, 3) := by decide +kernel
theorem dX0_region_15 : decode cX0_region 15 = .ok (.iload_n 1, 1) := by decide +kernel
theorem dX0_region_16 : decode cX0_region 16 = .ok (.iload_n 2, 1) := by decide +kernel
theorem dX0_region_17 : decode cX0_region 17 = .ok (.ldc 58, 2) := by decide +kernel
theorem dX0_region_19 : decode cX0_region 19 = .ok (.iand, 1) := by decide +kernel
theorem dX0_region_20 : decode cX0_region 20 = .ok (.iastore, 1) := by decide +kernel
theorem dX0_region_21 : decode cX0_region 21 = .ok (.aload_n 0, 1) := by decide +kernel
theorem dX0_region_22 : decode cX0_region 22 = .ok (.getfield 17, 3) := by decide +kernel
theorem dX0_region_25 : decode cX0_region 25 = .ok (.iload_n 1, 1) := by decide +kernel
theorem dX0_region_26 : decode cX0_region 26 = .ok (.iload_n 3, 1) := by decide +kernel
theorem dX0_region_27 : decode cX0_region 27 = .ok (.ldc 58, 2) := by decide +kernel
theorem dX0_region_29 : decode cX0_region 29 = .ok (.iand, 1) := by decide +kernel
theorem dX0_region_30 : decode cX0_region 30 = .ok (.iastore, 1) := by decide +kernel
theorem dX0_region_31 : decode cX0_region 31 = .ok (.aload_n 0, 1) := by decide +kernel
theorem dX0_region_32 : decode cX0_region 32 = .ok (.iload_n 1, 1) := by decide +kernel
theorem dX0_region_33 : decode cX0_region 33 = .ok (.iconst 2, 1) := by decide +kernel
theorem dX0_region_34 : decode cX0_region 34 = .ok (.if_icmp .ne 8, 3) := by decide +kernel
theorem dX0_region_37 : decode cX0_region 37 = .ok (.bipush 16, 2) := by decide +kernel
theorem dX0_region_39 : decode cX0_region 39 = .ok (.goto 5, 3) := by decide +kernel
theorem dX0_region_42 : decode cX0_region 42 = .ok (.bipush 8, 2) := by decide +kernel
theorem dX0_region_44 : decode cX0_region 44 = .ok (.invokevirtual 59, 3) := by decide +kernel
theorem dX0_region_47 : decode cX0_region 47 = .ok (.iconst 1, 1) := by decide +kernel
theorem dX0_region_48 : decode cX0_region 48 = .ok (.ireturn, 1) := by decide +kernel
theorem dX0_map_0 : decode cX0_map 0 = .ok (.aload_n 0, 1) := by decide +kernel
theorem dX0_map_1 : decode cX0_map 1 = .ok (.iload_n 1, 1) := by decide +kernel
theorem dX0_map_2 : decode cX0_map 2 = .ok (.putfield 20, 3) := by decide +kernel
theorem dX0_map_5 : decode cX0_map 5 = .ok (.aload_n 0, 1) := by decide +kernel
theorem dX0_map_6 : decode cX0_map 6 = .ok (.bipush 16, 2) := by decide +kernel
theorem dX0_map_8 : decode cX0_map 8 = .ok (.invokevirtual 59, 3) := by decide +kernel
theorem dX0_map_11 : decode cX0_map 11 = .ok (.return_, 1) := by decide +kernel
theorem dX0_drop_0 : decode cX0_drop 0 = .ok (.iload_n 1, 1) := by decide +kernel
theorem dX0_drop_1 : decode cX0_drop 1 = .ok (.ldc 58, 2) := by decide +kernel
theorem dX0_drop_3 : decode cX0_drop 3 = .ok (.iand, 1) := by decide +kernel
theorem dX0_drop_4 : decode cX0_drop 4 = .ok (.istore_n 2, 1) := by decide +kernel
theorem dX0_drop_5 : decode cX0_drop 5 = .ok (.iload_n 2, 1) := by decide +kernel
theorem dX0_drop_6 : decode cX0_drop 6 = .ok (.invokestatic 63, 3) := by decide +kernel
theorem dX0_drop_9 : decode cX0_drop 9 = .ok (.istore_n 3, 1) := by decide +kernel
theorem dX0_drop_10 : decode cX0_drop 10 = .ok (.aload_n 0, 1) := by decide +kernel
theorem dX0_drop_11 : decode cX0_drop 11 = .ok (.iload_n 3, 1) := by decide +kernel
theorem dX0_drop_12 : decode cX0_drop 12 = .ok (.iload_n 2, 1) := by decide +kernel
theorem dX0_drop_13 : decode cX0_drop 13 = .ok (.invokevirtual 66, 3) := by decide +kernel
theorem dX0_drop_16 : decode cX0_drop 16 = .ok (.ifCond .ne 5, 3) := by decide +kernel
theorem dX0_drop_19 : decode cX0_drop 19 = .ok (.iconst 0, 1) := by decide +kernel
theorem dX0_drop_20 : decode cX0_drop 20 = .ok (.ireturn, 1) := by decide +kernel
theorem dX0_drop_21 : decode cX0_drop 21 = .ok (.aload_n 0, 1) := by decide +kernel
theorem dX0_drop_22 : decode cX0_drop 22 = .ok (.getfield 28, 3) := by decide +kernel
theorem dX0_drop_25 : decode cX0_drop 25 = .ok (.iload_n 3, 1) := by decide +kernel
theorem dX0_drop_26 : decode cX0_drop 26 = .ok (.iconst (-1), 1) := by decide +kernel
theorem dX0_drop_27 : decode cX0_drop 27 = .ok (.iastore, 1) := by decide +kernel
theorem dX0_drop_28 : decode cX0_drop 28 = .ok (.iconst 1, 1) := by decide +kernel
theorem dX0_drop_29 : decode cX0_drop 29 = .ok (.ireturn, 1) := by decide +kernel
theorem dX0_read_0 : decode cX0_read 0 = .ok (.iload_n 2, 1) := by decide +kernel
theorem dX0_read_1 : decode cX0_read 1 = .ok (.invokestatic 69, 3) := by decide +kernel
theorem dX0_read_4 : decode cX0_read 4 = .ok (.ifCond .ne 7, 3) := by decide +kernel
theorem dX0_read_7 : decode cX0_read 7 = .ok (.ldc2_w 73, 3) := by decide +kernel
theorem dX0_read_10 : decode cX0_read 10 = .ok (.lreturn, 1) := by decide +kernel
theorem dX0_read_11 : decode cX0_read 11 = .ok (.aload_n 0, 1) := by decide +kernel
theorem dX0_read_12 : decode cX0_read 12 = .ok (.iload_n 1, 1) := by decide +kernel
theorem dX0_read_13 : decode cX0_read 13 = .ok (.iload_n 2, 1) := by decide +kernel
theorem dX0_read_14 : decode cX0_read 14 = .ok (.iload_n 3, 1) := by decide +kernel
theorem dX0_read_15 : decode cX0_read 15 = .ok (.iconst 0, 1) := by decide +kernel
theorem dX0_read_16 : decode cX0_read 16 = .ok (.invokevirtual 75, 3) := by decide +kernel
theorem dX0_read_19 : decode cX0_read 19 = .ok (.istore 4, 2) := by decide +kernel
theorem dX0_read_21 : decode cX0_read 21 = .ok (.iload 4, 2) := by decide +kernel
theorem dX0_read_23 : decode cX0_read 23 = .ok (.ifCond .eq 7, 3) := by decide +kernel
theorem dX0_read_26 : decode cX0_read 26 = .ok (.iload 4, 2) := by decide +kernel
theorem dX0_read_28 : decode cX0_read 28 = .ok (.i2l, 1) := by decide +kernel
theorem dX0_read_29 : decode cX0_read 29 = .ok (.lreturn, 1) := by decide +kernel
theorem dX0_read_30 : decode cX0_read 30 = .ok (.lconst 0, 1) := by decide +kernel
theorem dX0_read_31 : decode cX0_read 31 = .ok (.lstore 5, 2) := by decide +kernel
theorem dX0_read_33 : decode cX0_read 33 = .ok (.iconst 0, 1) := by decide +kernel
theorem dX0_read_34 : decode cX0_read 34 = .ok (.istore 7, 2) := by decide +kernel
theorem dX0_read_36 : decode cX0_read 36 = .ok (.iload 7, 2) := by decide +kernel
theorem dX0_read_38 : decode cX0_read 38 = .ok (.iload_n 2, 1) := by decide +kernel
theorem dX0_read_39 : decode cX0_read 39 = .ok (.if_icmp .ge 32, 3) := by decide +kernel
theorem dX0_read_42 : decode cX0_read 42 = .ok (.lload 5, 2) := by decide +kernel
theorem dX0_read_44 : decode cX0_read 44 = .ok (.aload_n 0, 1) := by decide +kernel
theorem dX0_read_45 : decode cX0_read 45 = .ok (.aload_n 0, 1) := by decide +kernel
theorem dX0_read_46 : decode cX0_read 46 = .ok (.getfield 43, 3) := by decide +kernel
theorem dX0_read_49 : decode cX0_read 49 = .ok (.iload 7, 2) := by decide +kernel
theorem dX0_read_51 : decode cX0_read 51 = .ok (.iaload, 1) := by decide +kernel
theorem dX0_read_52 : decode cX0_read 52 = .ok (.invokevirtual 79, 3) := by decide +kernel
theorem dX0_read_55 : decode cX0_read 55 = .ok (.i2l, 1) := by decide +kernel
theorem dX0_read_56 : decode cX0_read 56 = .ok (.bipush 8, 2) := by decide +kernel
theorem dX0_read_58 : decode cX0_read 58 = .ok (.iload 7, 2) := by decide +kernel
theorem dX0_read_60 : decode cX0_read 60 = .ok (.imul, 1) := by decide +kernel
theorem dX0_read_61 : decode cX0_read 61 = .ok (.lshl, 1) := by decide +kernel
theorem dX0_read_62 : decode cX0_read 62 = .ok (.lor, 1) := by decide +kernel
theorem dX0_read_63 : decode cX0_read 63 = .ok (.lstore 5, 2) := by decide +kernel
theorem dX0_read_65 : decode cX0_read 65 = .ok (.iinc 7 1, 3) := by decide +kernel
theorem dX0_read_68 : decode cX0_read 68 = .ok (.goto (-32), 3) := by decide +kernel
theorem dX0_read_71 : decode cX0_read 71 = .ok (.lload 5, 2) := by decide +kernel
theorem dX0_read_73 : decode cX0_read 73 = .ok (.lreturn, 1) := by decide +kernel
theorem dX0_write_0 : decode cX0_write 0 = .ok (.iload_n 2, 1) := by decide +kernel
theorem dX0_write_1 : decode cX0_write 1 = .ok (.invokestatic 69, 3) := by decide +kernel
theorem dX0_write_4 : decode cX0_write 4 = .ok (.ifCond .ne 6, 3) := by decide +kernel
theorem dX0_write_7 : decode cX0_write 7 = .ok (.bipush (-101), 2) := by decide +kernel
theorem dX0_write_9 : decode cX0_write 9 = .ok (.ireturn, 1) := by decide +kernel
theorem dX0_write_10 : decode cX0_write 10 = .ok (.aload_n 0, 1) := by decide +kernel
theorem dX0_write_11 : decode cX0_write 11 = .ok (.iload_n 1, 1) := by decide +kernel
theorem dX0_write_12 : decode cX0_write 12 = .ok (.iload_n 2, 1) := by decide +kernel
theorem dX0_write_13 : decode cX0_write 13 = .ok (.iload 4, 2) := by decide +kernel
theorem dX0_write_15 : decode cX0_write 15 = .ok (.iconst 1, 1) := by decide +kernel
theorem dX0_write_16 : decode cX0_write 16 = .ok (.invokevirtual 75, 3) := by decide +kernel
theorem dX0_write_19 : decode cX0_write 19 = .ok (.istore 5, 2) := by decide +kernel
theorem dX0_write_21 : decode cX0_write 21 = .ok (.iload 5, 2) := by decide +kernel
theorem dX0_write_23 : decode cX0_write 23 = .ok (.ifCond .eq 6, 3) := by decide +kernel
theorem dX0_write_26 : decode cX0_write 26 = .ok (.iload 5, 2) := by decide +kernel
theorem dX0_write_28 : decode cX0_write 28 = .ok (.ireturn, 1) := by decide +kernel
theorem dX0_write_29 : decode cX0_write 29 = .ok (.iconst 0, 1) := by decide +kernel
theorem dX0_write_30 : decode cX0_write 30 = .ok (.istore 6, 2) := by decide +kernel
theorem dX0_write_32 : decode cX0_write 32 = .ok (.iload 6, 2) := by decide +kernel
theorem dX0_write_34 : decode cX0_write 34 = .ok (.iload_n 2, 1) := by decide +kernel
theorem dX0_write_35 : decode cX0_write 35 = .ok (.if_icmp .ge 29, 3) := by decide +kernel
theorem dX0_write_38 : decode cX0_write 38 = .ok (.aload_n 0, 1) := by decide +kernel
theorem dX0_write_39 : decode cX0_write 39 = .ok (.getfield 9, 3) := by decide +kernel
theorem dX0_write_42 : decode cX0_write 42 = .ok (.aload_n 0, 1) := by decide +kernel
theorem dX0_write_43 : decode cX0_write 43 = .ok (.getfield 43, 3) := by decide +kernel
theorem dX0_write_46 : decode cX0_write 46 = .ok (.iload 6, 2) := by decide +kernel
theorem dX0_write_48 : decode cX0_write 48 = .ok (.iaload, 1) := by decide +kernel
theorem dX0_write_49 : decode cX0_write 49 = .ok (.iload_n 3, 1) := by decide +kernel
theorem dX0_write_50 : decode cX0_write 50 = .ok (.bipush 8, 2) := by decide +kernel
theorem dX0_write_52 : decode cX0_write 52 = .ok (.iload 6, 2) := by decide +kernel
theorem dX0_write_54 : decode cX0_write 54 = .ok (.imul, 1) := by decide +kernel
theorem dX0_write_55 : decode cX0_write 55 = .ok (.iushr, 1) := by decide +kernel
theorem dX0_write_56 : decode cX0_write 56 = .ok (.i2b, 1) := by decide +kernel
theorem dX0_write_57 : decode cX0_write 57 = .ok (.bastore, 1) := by decide +kernel
theorem dX0_write_58 : decode cX0_write 58 = .ok (.iinc 6 1, 3) := by decide +kernel
theorem dX0_write_61 : decode cX0_write 61 = .ok (.goto (-29), 3) := by decide +kernel
theorem dX0_write_64 : decode cX0_write 64 = .ok (.iconst 0, 1) := by decide +kernel
theorem dX0_write_65 : decode cX0_write 65 = .ok (.ireturn, 1) := by decide +kernel
theorem dX0_where_0 : decode cX0_where 0 = .ok (.aload_n 0, 1) := by decide +kernel
theorem dX0_where_1 : decode cX0_where 1 = .ok (.iload_n 1, 1) := by decide +kernel
theorem dX0_where_2 : decode cX0_where 2 = .ok (.ldc 58, 2) := by decide +kernel
theorem dX0_where_4 : decode cX0_where 4 = .ok (.iand, 1) := by decide +kernel
theorem dX0_where_5 : decode cX0_where 5 = .ok (.iload_n 2, 1) := by decide +kernel
theorem dX0_where_6 : decode cX0_where 6 = .ok (.iload_n 3, 1) := by decide +kernel
theorem dX0_where_7 : decode cX0_where 7 = .ok (.iconst 0, 1) := by decide +kernel
theorem dX0_where_8 : decode cX0_where 8 = .ok (.invokevirtual 82, 3) := by decide +kernel
theorem dX0_where_11 : decode cX0_where 11 = .ok (.istore 4, 2) := by decide +kernel
theorem dX0_where_13 : decode cX0_where 13 = .ok (.iload 4, 2) := by decide +kernel
theorem dX0_where_15 : decode cX0_where 15 = .ok (.ifCond .ge 6, 3) := by decide +kernel
theorem dX0_where_18 : decode cX0_where 18 = .ok (.iload 4, 2) := by decide +kernel
theorem dX0_where_20 : decode cX0_where 20 = .ok (.ireturn, 1) := by decide +kernel
theorem dX0_where_21 : decode cX0_where 21 = .ok (.aload_n 0, 1) := by decide +kernel
theorem dX0_where_22 : decode cX0_where 22 = .ok (.iload 4, 2) := by decide +kernel
theorem dX0_where_24 : decode cX0_where 24 = .ok (.iconst 1, 1) := by decide +kernel
theorem dX0_where_25 : decode cX0_where 25 = .ok (.invokevirtual 46, 3) := by decide +kernel
theorem dX0_where_28 : decode cX0_where 28 = .ok (.ifCond .eq 8, 3) := by decide +kernel
theorem dX0_where_31 : decode cX0_where 31 = .ok (.iload 4, 2) := by decide +kernel
theorem dX0_where_33 : decode cX0_where 33 = .ok (.goto 5, 3) := by decide +kernel
theorem dX0_where_36 : decode cX0_where 36 = .ok (.bipush (-100), 2) := by decide +kernel
theorem dX0_where_38 : decode cX0_where 38 = .ok (.ireturn, 1) := by decide +kernel
theorem dX0_may_0 : decode cX0_may 0 = .ok (.aload_n 0, 1) := by decide +kernel
theorem dX0_may_1 : decode cX0_may 1 = .ok (.getfield 20, 3) := by decide +kernel
theorem dX0_may_4 : decode cX0_may 4 = .ok (.ifCond .ne 5, 3) := by decide +kernel
theorem dX0_may_7 : decode cX0_may 7 = .ok (.iconst 1, 1) := by decide +kernel
theorem dX0_may_8 : decode cX0_may 8 = .ok (.ireturn, 1) := by decide +kernel
theorem dX0_may_9 : decode cX0_may 9 = .ok (.iload_n 1, 1) := by decide +kernel
theorem dX0_may_10 : decode cX0_may 10 = .ok (.ldc 58, 2) := by decide +kernel
theorem dX0_may_12 : decode cX0_may 12 = .ok (.iand, 1) := by decide +kernel
theorem dX0_may_13 : decode cX0_may 13 = .ok (.istore 4, 2) := by decide +kernel
theorem dX0_may_15 : decode cX0_may 15 = .ok (.iload 4, 2) := by decide +kernel
theorem dX0_may_17 : decode cX0_may 17 = .ok (.invokestatic 63, 3) := by decide +kernel
theorem dX0_may_20 : decode cX0_may 20 = .ok (.istore 5, 2) := by decide +kernel
theorem dX0_may_22 : decode cX0_may 22 = .ok (.aload_n 0, 1) := by decide +kernel
theorem dX0_may_23 : decode cX0_may 23 = .ok (.iload 5, 2) := by decide +kernel
theorem dX0_may_25 : decode cX0_may 25 = .ok (.iload 4, 2) := by decide +kernel
theorem dX0_may_27 : decode cX0_may 27 = .ok (.invokevirtual 66, 3) := by decide +kernel
theorem dX0_may_30 : decode cX0_may 30 = .ok (.ifCond .eq 24, 3) := by decide +kernel
theorem dX0_may_33 : decode cX0_may 33 = .ok (.aload_n 0, 1) := by decide +kernel
theorem dX0_may_34 : decode cX0_may 34 = .ok (.getfield 37, 3) := by decide +kernel
theorem dX0_may_37 : decode cX0_may 37 = .ok (.iload 5, 2) := by decide +kernel
theorem dX0_may_39 : decode cX0_may 39 = .ok (.iaload, 1) := by decide +kernel
theorem dX0_may_40 : decode cX0_may 40 = .ok (.iload_n 2, 1) := by decide +kernel
theorem dX0_may_41 : decode cX0_may 41 = .ok (.iload_n 3, 1) := by decide +kernel
theorem dX0_may_42 : decode cX0_may 42 = .ok (.invokestatic 86, 3) := by decide +kernel
theorem dX0_may_45 : decode cX0_may 45 = .ok (.ifCond .eq 7, 3) := by decide +kernel
theorem dX0_may_48 : decode cX0_may 48 = .ok (.iconst 1, 1) := by decide +kernel
theorem dX0_may_49 : decode cX0_may 49 = .ok (.goto 4, 3) := by decide +kernel
theorem dX0_may_52 : decode cX0_may 52 = .ok (.iconst 0, 1) := by decide +kernel
theorem dX0_may_53 : decode cX0_may 53 = .ok (.ireturn, 1) := by decide +kernel
theorem dX0_may_54 : decode cX0_may 54 = .ok (.aload_n 0, 1) := by decide +kernel
theorem dX0_may_55 : decode cX0_may 55 = .ok (.iload 4, 2) := by decide +kernel
theorem dX0_may_57 : decode cX0_may 57 = .ok (.iload_n 3, 1) := by decide +kernel
theorem dX0_may_58 : decode cX0_may 58 = .ok (.iconst 0, 1) := by decide +kernel
theorem dX0_may_59 : decode cX0_may 59 = .ok (.invokevirtual 90, 3) := by decide +kernel
theorem dX0_may_62 : decode cX0_may 62 = .ok (.istore 6, 2) := by decide +kernel
theorem dX0_may_64 : decode cX0_may 64 = .ok (.iload 6, 2) := by decide +kernel
theorem dX0_may_66 : decode cX0_may 66 = .ok (.ifCond .ge 18, 3) := by decide +kernel
theorem dX0_may_69 : decode cX0_may 69 = .ok (.iload 6, 2) := by decide +kernel
theorem dX0_may_71 : decode cX0_may 71 = .ok (.invokestatic 94, 3) := by decide +kernel
end
section
theorem dX0_may_74 : decode cX0_may 74 = .ok (.ifCond .eq 7, 3) := by decide +kernel
theorem dX0_may_77 : decode cX0_may 77 = .ok (.iconst 0, 1) := by decide +kernel
theorem dX0_may_78 : decode cX0_may 78 = .ok (.goto 5, 3) := by decide +kernel
theorem dX0_may_81 : decode cX0_may 81 = .ok (.iload 6, 2) := by decide +kernel
theorem dX0_may_83 : decode cX0_may 83 = .ok (.ireturn, 1) := by decide +kernel
theorem dX0_may_84 : decode cX0_may 84 = .ok (.aload_n 0, 1) := by decide +kernel
theorem dX0_may_85 : decode cX0_may 85 = .ok (.iload 6, 2) := by decide +kernel
theorem dX0_may_87 : decode cX0_may 87 = .ok (.invokevirtual 50, 3) := by decide +kernel
theorem dX0_may_90 : decode cX0_may 90 = .ok (.iload_n 2, 1) := by decide +kernel
theorem dX0_may_91 : decode cX0_may 91 = .ok (.iload_n 3, 1) := by decide +kernel
theorem dX0_may_92 : decode cX0_may 92 = .ok (.invokestatic 86, 3) := by decide +kernel
theorem dX0_may_95 : decode cX0_may 95 = .ok (.ifCond .eq 7, 3) := by decide +kernel
theorem dX0_may_98 : decode cX0_may 98 = .ok (.iconst 1, 1) := by decide +kernel
theorem dX0_may_99 : decode cX0_may 99 = .ok (.goto 4, 3) := by decide +kernel
theorem dX0_may_102 : decode cX0_may 102 = .ok (.iconst 0, 1) := by decide +kernel
theorem dX0_may_103 : decode cX0_may 103 = .ok (.ireturn, 1) := by decide +kernel
theorem dX0_kept_0 : decode cX0_kept 0 = .ok (.iload_n 1, 1) := by decide +kernel
theorem dX0_kept_1 : decode cX0_kept 1 = .ok (.ifCond .lt 18, 3) := by decide +kernel
theorem dX0_kept_4 : decode cX0_kept 4 = .ok (.iload_n 1, 1) := by decide +kernel
theorem dX0_kept_5 : decode cX0_kept 5 = .ok (.bipush 16, 2) := by decide +kernel
theorem dX0_kept_7 : decode cX0_kept 7 = .ok (.if_icmp .ge 12, 3) := by decide +kernel
theorem dX0_kept_10 : decode cX0_kept 10 = .ok (.iload_n 2, 1) := by decide +kernel
theorem dX0_kept_11 : decode cX0_kept 11 = .ok (.ifCond .lt 8, 3) := by decide +kernel
theorem dX0_kept_14 : decode cX0_kept 14 = .ok (.iload_n 2, 1) := by decide +kernel
theorem dX0_kept_15 : decode cX0_kept 15 = .ok (.iconst 2, 1) := by decide +kernel
theorem dX0_kept_16 : decode cX0_kept 16 = .ok (.if_icmp .le 7, 3) := by decide +kernel
theorem dX0_kept_19 : decode cX0_kept 19 = .ok (.ldc2_w 56, 3) := by decide +kernel
theorem dX0_kept_22 : decode cX0_kept 22 = .ok (.lreturn, 1) := by decide +kernel
theorem dX0_kept_23 : decode cX0_kept 23 = .ok (.aload_n 0, 1) := by decide +kernel
theorem dX0_kept_24 : decode cX0_kept 24 = .ok (.getfield 28, 3) := by decide +kernel
theorem dX0_kept_27 : decode cX0_kept 27 = .ok (.iload_n 1, 1) := by decide +kernel
theorem dX0_kept_28 : decode cX0_kept 28 = .ok (.iaload, 1) := by decide +kernel
theorem dX0_kept_29 : decode cX0_kept 29 = .ok (.iconst (-1), 1) := by decide +kernel
theorem dX0_kept_30 : decode cX0_kept 30 = .ok (.if_icmp .eq 7, 3) := by decide +kernel
theorem dX0_kept_33 : decode cX0_kept 33 = .ok (.iconst 1, 1) := by decide +kernel
theorem dX0_kept_34 : decode cX0_kept 34 = .ok (.goto 4, 3) := by decide +kernel
theorem dX0_kept_37 : decode cX0_kept 37 = .ok (.iconst 0, 1) := by decide +kernel
theorem dX0_kept_38 : decode cX0_kept 38 = .ok (.istore_n 3, 1) := by decide +kernel
theorem dX0_kept_39 : decode cX0_kept 39 = .ok (.iload_n 2, 1) := by decide +kernel
theorem dX0_kept_40 : decode cX0_kept 40 = .ok (.ifCond .ne 13, 3) := by decide +kernel
theorem dX0_kept_43 : decode cX0_kept 43 = .ok (.iload_n 3, 1) := by decide +kernel
theorem dX0_kept_44 : decode cX0_kept 44 = .ok (.ifCond .eq 7, 3) := by decide +kernel
theorem dX0_kept_47 : decode cX0_kept 47 = .ok (.lconst 1, 1) := by decide +kernel
theorem dX0_kept_48 : decode cX0_kept 48 = .ok (.goto 4, 3) := by decide +kernel
theorem dX0_kept_51 : decode cX0_kept 51 = .ok (.lconst 0, 1) := by decide +kernel
theorem dX0_kept_52 : decode cX0_kept 52 = .ok (.lreturn, 1) := by decide +kernel
theorem dX0_kept_53 : decode cX0_kept 53 = .ok (.iload_n 3, 1) := by decide +kernel
theorem dX0_kept_54 : decode cX0_kept 54 = .ok (.ifCond .ne 7, 3) := by decide +kernel
theorem dX0_kept_57 : decode cX0_kept 57 = .ok (.ldc2_w 56, 3) := by decide +kernel
theorem dX0_kept_60 : decode cX0_kept 60 = .ok (.lreturn, 1) := by decide +kernel
theorem dX0_kept_61 : decode cX0_kept 61 = .ok (.iload_n 2, 1) := by decide +kernel
theorem dX0_kept_62 : decode cX0_kept 62 = .ok (.iconst 1, 1) := by decide +kernel
theorem dX0_kept_63 : decode cX0_kept 63 = .ok (.if_icmp .ne 16, 3) := by decide +kernel
theorem dX0_kept_66 : decode cX0_kept 66 = .ok (.aload_n 0, 1) := by decide +kernel
theorem dX0_kept_67 : decode cX0_kept 67 = .ok (.getfield 28, 3) := by decide +kernel
theorem dX0_kept_70 : decode cX0_kept 70 = .ok (.iload_n 1, 1) := by decide +kernel
theorem dX0_kept_71 : decode cX0_kept 71 = .ok (.iaload, 1) := by decide +kernel
theorem dX0_kept_72 : decode cX0_kept 72 = .ok (.bipush 16, 2) := by decide +kernel
theorem dX0_kept_74 : decode cX0_kept 74 = .ok (.imul, 1) := by decide +kernel
theorem dX0_kept_75 : decode cX0_kept 75 = .ok (.i2l, 1) := by decide +kernel
theorem dX0_kept_76 : decode cX0_kept 76 = .ok (.goto 14, 3) := by decide +kernel
theorem dX0_kept_79 : decode cX0_kept 79 = .ok (.aload_n 0, 1) := by decide +kernel
theorem dX0_kept_80 : decode cX0_kept 80 = .ok (.getfield 37, 3) := by decide +kernel
theorem dX0_kept_83 : decode cX0_kept 83 = .ok (.iload_n 1, 1) := by decide +kernel
theorem dX0_kept_84 : decode cX0_kept 84 = .ok (.iaload, 1) := by decide +kernel
theorem dX0_kept_85 : decode cX0_kept 85 = .ok (.i2l, 1) := by decide +kernel
theorem dX0_kept_86 : decode cX0_kept 86 = .ok (.ldc2_w 54, 3) := by decide +kernel
theorem dX0_kept_89 : decode cX0_kept 89 = .ok (.land, 1) := by decide +kernel
theorem dX0_kept_90 : decode cX0_kept 90 = .ok (.lreturn, 1) := by decide +kernel
theorem dX0_failed_0 : decode cX0_failed 0 = .ok (.aload_n 0, 1) := by decide +kernel
theorem dX0_failed_1 : decode cX0_failed 1 = .ok (.getfield 24, 3) := by decide +kernel
theorem dX0_failed_4 : decode cX0_failed 4 = .ok (.ireturn, 1) := by decide +kernel
theorem dX0_findPlaces_0 : decode cX0_findPlaces 0 = .ok (.iconst 0, 1) := by decide +kernel
theorem dX0_findPlaces_1 : decode cX0_findPlaces 1 = .ok (.istore 5, 2) := by decide +kernel
theorem dX0_findPlaces_3 : decode cX0_findPlaces 3 = .ok (.iload 5, 2) := by decide +kernel
theorem dX0_findPlaces_5 : decode cX0_findPlaces 5 = .ok (.iload_n 2, 1) := by decide +kernel
theorem dX0_findPlaces_6 : decode cX0_findPlaces 6 = .ok (.if_icmp .ge 89, 3) := by decide +kernel
theorem dX0_findPlaces_9 : decode cX0_findPlaces 9 = .ok (.iload_n 1, 1) := by decide +kernel
theorem dX0_findPlaces_10 : decode cX0_findPlaces 10 = .ok (.iload 5, 2) := by decide +kernel
theorem dX0_findPlaces_12 : decode cX0_findPlaces 12 = .ok (.iadd, 1) := by decide +kernel
theorem dX0_findPlaces_13 : decode cX0_findPlaces 13 = .ok (.ldc 58, 2) := by decide +kernel
theorem dX0_findPlaces_15 : decode cX0_findPlaces 15 = .ok (.iand, 1) := by decide +kernel
theorem dX0_findPlaces_16 : decode cX0_findPlaces 16 = .ok (.istore 6, 2) := by decide +kernel
theorem dX0_findPlaces_18 : decode cX0_findPlaces 18 = .ok (.iload 5, 2) := by decide +kernel
theorem dX0_findPlaces_20 : decode cX0_findPlaces 20 = .ok (.ifCond .le 32, 3) := by decide +kernel
theorem dX0_findPlaces_23 : decode cX0_findPlaces 23 = .ok (.iload 6, 2) := by decide +kernel
theorem dX0_findPlaces_25 : decode cX0_findPlaces 25 = .ok (.invokestatic 97, 3) := by decide +kernel
theorem dX0_findPlaces_28 : decode cX0_findPlaces 28 = .ok (.ifCond .eq 24, 3) := by decide +kernel
theorem dX0_findPlaces_31 : decode cX0_findPlaces 31 = .ok (.aload_n 0, 1) := by decide +kernel
theorem dX0_findPlaces_32 : decode cX0_findPlaces 32 = .ok (.getfield 43, 3) := by decide +kernel
theorem dX0_findPlaces_35 : decode cX0_findPlaces 35 = .ok (.iload 5, 2) := by decide +kernel
theorem dX0_findPlaces_37 : decode cX0_findPlaces 37 = .ok (.aload_n 0, 1) := by decide +kernel
theorem dX0_findPlaces_38 : decode cX0_findPlaces 38 = .ok (.getfield 43, 3) := by decide +kernel
theorem dX0_findPlaces_41 : decode cX0_findPlaces 41 = .ok (.iload 5, 2) := by decide +kernel
theorem dX0_findPlaces_43 : decode cX0_findPlaces 43 = .ok (.iconst 1, 1) := by decide +kernel
theorem dX0_findPlaces_44 : decode cX0_findPlaces 44 = .ok (.isub, 1) := by decide +kernel
theorem dX0_findPlaces_45 : decode cX0_findPlaces 45 = .ok (.iaload, 1) := by decide +kernel
theorem dX0_findPlaces_46 : decode cX0_findPlaces 46 = .ok (.iconst 1, 1) := by decide +kernel
theorem dX0_findPlaces_47 : decode cX0_findPlaces 47 = .ok (.iadd, 1) := by decide +kernel
theorem dX0_findPlaces_48 : decode cX0_findPlaces 48 = .ok (.iastore, 1) := by decide +kernel
theorem dX0_findPlaces_49 : decode cX0_findPlaces 49 = .ok (.goto 40, 3) := by decide +kernel
theorem dX0_findPlaces_52 : decode cX0_findPlaces 52 = .ok (.aload_n 0, 1) := by decide +kernel
theorem dX0_findPlaces_53 : decode cX0_findPlaces 53 = .ok (.iload 6, 2) := by decide +kernel
theorem dX0_findPlaces_55 : decode cX0_findPlaces 55 = .ok (.iload_n 3, 1) := by decide +kernel
theorem dX0_findPlaces_56 : decode cX0_findPlaces 56 = .ok (.iload 4, 2) := by decide +kernel
theorem dX0_findPlaces_58 : decode cX0_findPlaces 58 = .ok (.iconst 1, 1) := by decide +kernel
theorem dX0_findPlaces_59 : decode cX0_findPlaces 59 = .ok (.invokevirtual 82, 3) := by decide +kernel
theorem dX0_findPlaces_62 : decode cX0_findPlaces 62 = .ok (.istore 7, 2) := by decide +kernel
theorem dX0_findPlaces_64 : decode cX0_findPlaces 64 = .ok (.iload 7, 2) := by decide +kernel
theorem dX0_findPlaces_66 : decode cX0_findPlaces 66 = .ok (.ifCond .ge 14, 3) := by decide +kernel
theorem dX0_findPlaces_69 : decode cX0_findPlaces 69 = .ok (.aload_n 0, 1) := by decide +kernel
theorem dX0_findPlaces_70 : decode cX0_findPlaces 70 = .ok (.iload 7, 2) := by decide +kernel
theorem dX0_findPlaces_72 : decode cX0_findPlaces 72 = .ok (.iload 6, 2) := by decide +kernel
theorem dX0_findPlaces_74 : decode cX0_findPlaces 74 = .ok (.invokevirtual 100, 3) := by decide +kernel
theorem dX0_findPlaces_77 : decode cX0_findPlaces 77 = .ok (.iload 7, 2) := by decide +kernel
theorem dX0_findPlaces_79 : decode cX0_findPlaces 79 = .ok (.ireturn, 1) := by decide +kernel
theorem dX0_findPlaces_80 : decode cX0_findPlaces 80 = .ok (.aload_n 0, 1) := by decide +kernel
theorem dX0_findPlaces_81 : decode cX0_findPlaces 81 = .ok (.getfield 43, 3) := by decide +kernel
theorem dX0_findPlaces_84 : decode cX0_findPlaces 84 = .ok (.iload 5, 2) := by decide +kernel
theorem dX0_findPlaces_86 : decode cX0_findPlaces 86 = .ok (.iload 7, 2) := by decide +kernel
theorem dX0_findPlaces_88 : decode cX0_findPlaces 88 = .ok (.iastore, 1) := by decide +kernel
theorem dX0_findPlaces_89 : decode cX0_findPlaces 89 = .ok (.iinc 5 1, 3) := by decide +kernel
theorem dX0_findPlaces_92 : decode cX0_findPlaces 92 = .ok (.goto (-89), 3) := by decide +kernel
theorem dX0_findPlaces_95 : decode cX0_findPlaces 95 = .ok (.iconst 0, 1) := by decide +kernel
theorem dX0_findPlaces_96 : decode cX0_findPlaces 96 = .ok (.istore 5, 2) := by decide +kernel
theorem dX0_findPlaces_98 : decode cX0_findPlaces 98 = .ok (.iload 5, 2) := by decide +kernel
theorem dX0_findPlaces_100 : decode cX0_findPlaces 100 = .ok (.iload_n 2, 1) := by decide +kernel
theorem dX0_findPlaces_101 : decode cX0_findPlaces 101 = .ok (.if_icmp .ge 27, 3) := by decide +kernel
theorem dX0_findPlaces_104 : decode cX0_findPlaces 104 = .ok (.aload_n 0, 1) := by decide +kernel
theorem dX0_findPlaces_105 : decode cX0_findPlaces 105 = .ok (.aload_n 0, 1) := by decide +kernel
theorem dX0_findPlaces_106 : decode cX0_findPlaces 106 = .ok (.getfield 43, 3) := by decide +kernel
theorem dX0_findPlaces_109 : decode cX0_findPlaces 109 = .ok (.iload 5, 2) := by decide +kernel
theorem dX0_findPlaces_111 : decode cX0_findPlaces 111 = .ok (.iaload, 1) := by decide +kernel
theorem dX0_findPlaces_112 : decode cX0_findPlaces 112 = .ok (.iconst 1, 1) := by decide +kernel
theorem dX0_findPlaces_113 : decode cX0_findPlaces 113 = .ok (.invokevirtual 46, 3) := by decide +kernel
theorem dX0_findPlaces_116 : decode cX0_findPlaces 116 = .ok (.ifCond .ne 6, 3) := by decide +kernel
theorem dX0_findPlaces_119 : decode cX0_findPlaces 119 = .ok (.bipush (-100), 2) := by decide +kernel
theorem dX0_findPlaces_121 : decode cX0_findPlaces 121 = .ok (.ireturn, 1) := by decide +kernel
theorem dX0_findPlaces_122 : decode cX0_findPlaces 122 = .ok (.iinc 5 1, 3) := by decide +kernel
theorem dX0_findPlaces_125 : decode cX0_findPlaces 125 = .ok (.goto (-27), 3) := by decide +kernel
theorem dX0_findPlaces_128 : decode cX0_findPlaces 128 = .ok (.iconst 0, 1) := by decide +kernel
theorem dX0_findPlaces_129 : decode cX0_findPlaces 129 = .ok (.ireturn, 1) := by decide +kernel
theorem dX0_noteFault_0 : decode cX0_noteFault 0 = .ok (.iload_n 1, 1) := by decide +kernel
theorem dX0_noteFault_1 : decode cX0_noteFault 1 = .ok (.bipush (-100), 2) := by decide +kernel
theorem dX0_noteFault_3 : decode cX0_noteFault 3 = .ok (.if_icmp .eq 8, 3) := by decide +kernel
theorem dX0_noteFault_6 : decode cX0_noteFault 6 = .ok (.aload_n 0, 1) := by decide +kernel
theorem dX0_noteFault_7 : decode cX0_noteFault 7 = .ok (.iload_n 2, 1) := by decide +kernel
theorem dX0_noteFault_8 : decode cX0_noteFault 8 = .ok (.putfield 24, 3) := by decide +kernel
theorem dX0_noteFault_11 : decode cX0_noteFault 11 = .ok (.return_, 1) := by decide +kernel
theorem dX0_translate_0 : decode cX0_translate 0 = .ok (.aload_n 0, 1) := by decide +kernel
theorem dX0_translate_1 : decode cX0_translate 1 = .ok (.getfield 20, 3) := by decide +kernel
theorem dX0_translate_4 : decode cX0_translate 4 = .ok (.ifCond .ne 5, 3) := by decide +kernel
theorem dX0_translate_7 : decode cX0_translate 7 = .ok (.iload_n 1, 1) := by decide +kernel
theorem dX0_translate_8 : decode cX0_translate 8 = .ok (.ireturn, 1) := by decide +kernel
theorem dX0_translate_9 : decode cX0_translate 9 = .ok (.iload_n 1, 1) := by decide +kernel
theorem dX0_translate_10 : decode cX0_translate 10 = .ok (.invokestatic 63, 3) := by decide +kernel
theorem dX0_translate_13 : decode cX0_translate 13 = .ok (.istore 5, 2) := by decide +kernel
theorem dX0_translate_15 : decode cX0_translate 15 = .ok (.aload_n 0, 1) := by decide +kernel
theorem dX0_translate_16 : decode cX0_translate 16 = .ok (.iload 5, 2) := by decide +kernel
theorem dX0_translate_18 : decode cX0_translate 18 = .ok (.iload_n 1, 1) := by decide +kernel
theorem dX0_translate_19 : decode cX0_translate 19 = .ok (.invokevirtual 66, 3) := by decide +kernel
theorem dX0_translate_22 : decode cX0_translate 22 = .ok (.istore 6, 2) := by decide +kernel
theorem dX0_translate_24 : decode cX0_translate 24 = .ok (.iload 6, 2) := by decide +kernel
theorem dX0_translate_26 : decode cX0_translate 26 = .ok (.ifCond .eq 13, 3) := by decide +kernel
theorem dX0_translate_29 : decode cX0_translate 29 = .ok (.aload_n 0, 1) := by decide +kernel
theorem dX0_translate_30 : decode cX0_translate 30 = .ok (.getfield 40, 3) := by decide +kernel
theorem dX0_translate_33 : decode cX0_translate 33 = .ok (.iload 5, 2) := by decide +kernel
theorem dX0_translate_35 : decode cX0_translate 35 = .ok (.iaload, 1) := by decide +kernel
theorem dX0_translate_36 : decode cX0_translate 36 = .ok (.goto 11, 3) := by decide +kernel
theorem dX0_translate_39 : decode cX0_translate 39 = .ok (.aload_n 0, 1) := by decide +kernel
theorem dX0_translate_40 : decode cX0_translate 40 = .ok (.iload_n 1, 1) := by decide +kernel
theorem dX0_translate_41 : decode cX0_translate 41 = .ok (.iload_n 3, 1) := by decide +kernel
theorem dX0_translate_42 : decode cX0_translate 42 = .ok (.iload 4, 2) := by decide +kernel
theorem dX0_translate_44 : decode cX0_translate 44 = .ok (.invokevirtual 90, 3) := by decide +kernel
theorem dX0_translate_47 : decode cX0_translate 47 = .ok (.istore 7, 2) := by decide +kernel
theorem dX0_translate_49 : decode cX0_translate 49 = .ok (.iload 7, 2) := by decide +kernel
theorem dX0_translate_51 : decode cX0_translate 51 = .ok (.ifCond .ge 6, 3) := by decide +kernel
theorem dX0_translate_54 : decode cX0_translate 54 = .ok (.iload 7, 2) := by decide +kernel
theorem dX0_translate_56 : decode cX0_translate 56 = .ok (.ireturn, 1) := by decide +kernel
theorem dX0_translate_57 : decode cX0_translate 57 = .ok (.iload 6, 2) := by decide +kernel
theorem dX0_translate_59 : decode cX0_translate 59 = .ok (.ifCond .eq 13, 3) := by decide +kernel
theorem dX0_translate_62 : decode cX0_translate 62 = .ok (.aload_n 0, 1) := by decide +kernel
theorem dX0_translate_63 : decode cX0_translate 63 = .ok (.getfield 37, 3) := by decide +kernel
theorem dX0_translate_66 : decode cX0_translate 66 = .ok (.iload 5, 2) := by decide +kernel
theorem dX0_translate_68 : decode cX0_translate 68 = .ok (.iaload, 1) := by decide +kernel
theorem dX0_translate_69 : decode cX0_translate 69 = .ok (.goto 9, 3) := by decide +kernel
theorem dX0_translate_72 : decode cX0_translate 72 = .ok (.aload_n 0, 1) := by decide +kernel
theorem dX0_translate_73 : decode cX0_translate 73 = .ok (.iload 7, 2) := by decide +kernel
theorem dX0_translate_75 : decode cX0_translate 75 = .ok (.invokevirtual 50, 3) := by decide +kernel
theorem dX0_translate_78 : decode cX0_translate 78 = .ok (.istore 8, 2) := by decide +kernel
theorem dX0_translate_80 : decode cX0_translate 80 = .ok (.iload 8, 2) := by decide +kernel
theorem dX0_translate_82 : decode cX0_translate 82 = .ok (.iload_n 2, 1) := by decide +kernel
theorem dX0_translate_83 : decode cX0_translate 83 = .ok (.iload_n 3, 1) := by decide +kernel
theorem dX0_translate_84 : decode cX0_translate 84 = .ok (.invokestatic 86, 3) := by decide +kernel
theorem dX0_translate_87 : decode cX0_translate 87 = .ok (.ifCond .ne 9, 3) := by decide +kernel
theorem dX0_translate_90 : decode cX0_translate 90 = .ok (.iconst 0, 1) := by decide +kernel
theorem dX0_translate_91 : decode cX0_translate 91 = .ok (.iload_n 3, 1) := by decide +kernel
theorem dX0_translate_92 : decode cX0_translate 92 = .ok (.invokestatic 104, 3) := by decide +kernel
theorem dX0_translate_95 : decode cX0_translate 95 = .ok (.ireturn, 1) := by decide +kernel
theorem dX0_translate_96 : decode cX0_translate 96 = .ok (.iload 8, 2) := by decide +kernel
theorem dX0_translate_98 : decode cX0_translate 98 = .ok (.invokestatic 108, 3) := by decide +kernel
theorem dX0_translate_101 : decode cX0_translate 101 = .ok (.ifCond .ne 9, 3) := by decide +kernel
theorem dX0_translate_104 : decode cX0_translate 104 = .ok (.iconst 0, 1) := by decide +kernel
theorem dX0_translate_105 : decode cX0_translate 105 = .ok (.iload_n 3, 1) := by decide +kernel
theorem dX0_translate_106 : decode cX0_translate 106 = .ok (.invokestatic 111, 3) := by decide +kernel
theorem dX0_translate_109 : decode cX0_translate 109 = .ok (.ireturn, 1) := by decide +kernel
theorem dX0_translate_110 : decode cX0_translate 110 = .ok (.iload 4, 2) := by decide +kernel
theorem dX0_translate_112 : decode cX0_translate 112 = .ok (.ifCond .eq 24, 3) := by decide +kernel
theorem dX0_translate_115 : decode cX0_translate 115 = .ok (.aload_n 0, 1) := by decide +kernel
theorem dX0_translate_116 : decode cX0_translate 116 = .ok (.iload 5, 2) := by decide +kernel
theorem dX0_translate_118 : decode cX0_translate 118 = .ok (.iload_n 1, 1) := by decide +kernel
theorem dX0_translate_119 : decode cX0_translate 119 = .ok (.iload 8, 2) := by decide +kernel
theorem dX0_translate_121 : decode cX0_translate 121 = .ok (.iload 7, 2) := by decide +kernel
theorem dX0_translate_123 : decode cX0_translate 123 = .ok (.invokevirtual 114, 3) := by decide +kernel
theorem dX0_translate_126 : decode cX0_translate 126 = .ok (.iload_n 3, 1) := by decide +kernel
theorem dX0_translate_127 : decode cX0_translate 127 = .ok (.ifCond .eq 9, 3) := by decide +kernel
theorem dX0_translate_130 : decode cX0_translate 130 = .ok (.aload_n 0, 1) := by decide +kernel
theorem dX0_translate_131 : decode cX0_translate 131 = .ok (.iload 5, 2) := by decide +kernel
theorem dX0_translate_133 : decode cX0_translate 133 = .ok (.invokevirtual 118, 3) := by decide +kernel
theorem dX0_translate_136 : decode cX0_translate 136 = .ok (.iload 8, 2) := by decide +kernel
theorem dX0_translate_138 : decode cX0_translate 138 = .ok (.iload_n 1, 1) := by decide +kernel
theorem dX0_translate_139 : decode cX0_translate 139 = .ok (.invokestatic 121, 3) := by decide +kernel
theorem dX0_translate_142 : decode cX0_translate 142 = .ok (.ireturn, 1) := by decide +kernel
theorem dX0_placeOfEntry_0 : decode cX0_placeOfEntry 0 = .ok (.iload_n 1, 1) := by decide +kernel
theorem dX0_placeOfEntry_1 : decode cX0_placeOfEntry 1 = .ok (.invokestatic 125, 3) := by decide +kernel
theorem dX0_placeOfEntry_4 : decode cX0_placeOfEntry 4 = .ok (.istore 4, 2) := by decide +kernel
theorem dX0_placeOfEntry_6 : decode cX0_placeOfEntry 6 = .ok (.iload_n 1, 1) := by decide +kernel
theorem dX0_placeOfEntry_7 : decode cX0_placeOfEntry 7 = .ok (.invokestatic 128, 3) := by decide +kernel
theorem dX0_placeOfEntry_10 : decode cX0_placeOfEntry 10 = .ok (.istore 5, 2) := by decide +kernel
theorem dX0_placeOfEntry_12 : decode cX0_placeOfEntry 12 = .ok (.aload_n 0, 1) := by decide +kernel
theorem dX0_placeOfEntry_13 : decode cX0_placeOfEntry 13 = .ok (.iload 4, 2) := by decide +kernel
theorem dX0_placeOfEntry_15 : decode cX0_placeOfEntry 15 = .ok (.iload 5, 2) := by decide +kernel
theorem dX0_placeOfEntry_17 : decode cX0_placeOfEntry 17 = .ok (.invokevirtual 131, 3) := by decide +kernel
theorem dX0_placeOfEntry_20 : decode cX0_placeOfEntry 20 = .ok (.ifCond .ne 9, 3) := by decide +kernel
theorem dX0_placeOfEntry_23 : decode cX0_placeOfEntry 23 = .ok (.iconst 1, 1) := by decide +kernel
theorem dX0_placeOfEntry_24 : decode cX0_placeOfEntry 24 = .ok (.iload_n 2, 1) := by decide +kernel
theorem dX0_placeOfEntry_25 : decode cX0_placeOfEntry 25 = .ok (.invokestatic 104, 3) := by decide +kernel
theorem dX0_placeOfEntry_28 : decode cX0_placeOfEntry 28 = .ok (.ireturn, 1) := by decide +kernel
theorem dX0_placeOfEntry_29 : decode cX0_placeOfEntry 29 = .ok (.aload_n 0, 1) := by decide +kernel
theorem dX0_placeOfEntry_30 : decode cX0_placeOfEntry 30 = .ok (.getfield 13, 3) := by decide +kernel
theorem dX0_placeOfEntry_33 : decode cX0_placeOfEntry 33 = .ok (.iload 4, 2) := by decide +kernel
theorem dX0_placeOfEntry_35 : decode cX0_placeOfEntry 35 = .ok (.iaload, 1) := by decide +kernel
theorem dX0_placeOfEntry_36 : decode cX0_placeOfEntry 36 = .ok (.iconst 4, 1) := by decide +kernel
theorem dX0_placeOfEntry_37 : decode cX0_placeOfEntry 37 = .ok (.iload 5, 2) := by decide +kernel
theorem dX0_placeOfEntry_39 : decode cX0_placeOfEntry 39 = .ok (.imul, 1) := by decide +kernel
theorem dX0_placeOfEntry_40 : decode cX0_placeOfEntry 40 = .ok (.iadd, 1) := by decide +kernel
theorem dX0_placeOfEntry_41 : decode cX0_placeOfEntry 41 = .ok (.istore 6, 2) := by decide +kernel
theorem dX0_placeOfEntry_43 : decode cX0_placeOfEntry 43 = .ok (.iload 4, 2) := by decide +kernel
theorem dX0_placeOfEntry_45 : decode cX0_placeOfEntry 45 = .ok (.iconst 2, 1) := by decide +kernel
theorem dX0_placeOfEntry_46 : decode cX0_placeOfEntry 46 = .ok (.if_icmp .ne 8, 3) := by decide +kernel
theorem dX0_placeOfEntry_49 : decode cX0_placeOfEntry 49 = .ok (.iload 6, 2) := by decide +kernel
theorem dX0_placeOfEntry_51 : decode cX0_placeOfEntry 51 = .ok (.goto 14, 3) := by decide +kernel
theorem dX0_placeOfEntry_54 : decode cX0_placeOfEntry 54 = .ok (.aload_n 0, 1) := by decide +kernel
theorem dX0_placeOfEntry_55 : decode cX0_placeOfEntry 55 = .ok (.iload 6, 2) := by decide +kernel
theorem dX0_placeOfEntry_57 : decode cX0_placeOfEntry 57 = .ok (.ldc 58, 2) := by decide +kernel
theorem dX0_placeOfEntry_59 : decode cX0_placeOfEntry 59 = .ok (.iand, 1) := by decide +kernel
theorem dX0_placeOfEntry_60 : decode cX0_placeOfEntry 60 = .ok (.iload_n 2, 1) := by decide +kernel
theorem dX0_placeOfEntry_61 : decode cX0_placeOfEntry 61 = .ok (.iload_n 3, 1) := by decide +kernel
theorem dX0_placeOfEntry_62 : decode cX0_placeOfEntry 62 = .ok (.invokevirtual 134, 3) := by decide +kernel
theorem dX0_placeOfEntry_65 : decode cX0_placeOfEntry 65 = .ok (.istore 7, 2) := by decide +kernel
theorem dX0_placeOfEntry_67 : decode cX0_placeOfEntry 67 = .ok (.iload 7, 2) := by decide +kernel
theorem dX0_placeOfEntry_69 : decode cX0_placeOfEntry 69 = .ok (.ifCond .ge 6, 3) := by decide +kernel
theorem dX0_placeOfEntry_72 : decode cX0_placeOfEntry 72 = .ok (.iload 7, 2) := by decide +kernel
theorem dX0_placeOfEntry_74 : decode cX0_placeOfEntry 74 = .ok (.ireturn, 1) := by decide +kernel
theorem dX0_placeOfEntry_75 : decode cX0_placeOfEntry 75 = .ok (.aload_n 0, 1) := by decide +kernel
theorem dX0_placeOfEntry_76 : decode cX0_placeOfEntry 76 = .ok (.iload 7, 2) := by decide +kernel
theorem dX0_placeOfEntry_78 : decode cX0_placeOfEntry 78 = .ok (.iconst 4, 1) := by decide +kernel
theorem dX0_placeOfEntry_79 : decode cX0_placeOfEntry 79 = .ok (.invokevirtual 46, 3) := by decide +kernel
theorem dX0_placeOfEntry_82 : decode cX0_placeOfEntry 82 = .ok (.ifCond .eq 8, 3) := by decide +kernel
theorem dX0_placeOfEntry_85 : decode cX0_placeOfEntry 85 = .ok (.iload 7, 2) := by decide +kernel
theorem dX0_placeOfEntry_87 : decode cX0_placeOfEntry 87 = .ok (.goto 5, 3) := by decide +kernel
theorem dX0_placeOfEntry_90 : decode cX0_placeOfEntry 90 = .ok (.bipush (-100), 2) := by decide +kernel
theorem dX0_placeOfEntry_92 : decode cX0_placeOfEntry 92 = .ok (.ireturn, 1) := by decide +kernel
theorem dX0_placeThroughS_0 : decode cX0_placeThroughS 0 = .ok (.iload_n 1, 1) := by decide +kernel
theorem dX0_placeThroughS_1 : decode cX0_placeThroughS 1 = .ok (.invokestatic 125, 3) := by decide +kernel
theorem dX0_placeThroughS_4 : decode cX0_placeThroughS 4 = .ok (.iconst 2, 1) := by decide +kernel
theorem dX0_placeThroughS_5 : decode cX0_placeThroughS 5 = .ok (.if_icmp .ne 15, 3) := by decide +kernel
theorem dX0_placeThroughS_8 : decode cX0_placeThroughS 8 = .ok (.aload_n 0, 1) := by decide +kernel
theorem dX0_placeThroughS_9 : decode cX0_placeThroughS 9 = .ok (.iconst 2, 1) := by decide +kernel
theorem dX0_placeThroughS_10 : decode cX0_placeThroughS 10 = .ok (.iload_n 1, 1) := by decide +kernel
theorem dX0_placeThroughS_11 : decode cX0_placeThroughS 11 = .ok (.invokestatic 128, 3) := by decide +kernel
theorem dX0_placeThroughS_14 : decode cX0_placeThroughS 14 = .ok (.invokevirtual 131, 3) := by decide +kernel
theorem dX0_placeThroughS_17 : decode cX0_placeThroughS 17 = .ok (.ifCond .ne 9, 3) := by decide +kernel
theorem dX0_placeThroughS_20 : decode cX0_placeThroughS 20 = .ok (.iconst 3, 1) := by decide +kernel
theorem dX0_placeThroughS_21 : decode cX0_placeThroughS 21 = .ok (.iload_n 2, 1) := by decide +kernel
theorem dX0_placeThroughS_22 : decode cX0_placeThroughS 22 = .ok (.invokestatic 104, 3) := by decide +kernel
theorem dX0_placeThroughS_25 : decode cX0_placeThroughS 25 = .ok (.ireturn, 1) := by decide +kernel
theorem dX0_placeThroughS_26 : decode cX0_placeThroughS 26 = .ok (.iload_n 1, 1) := by decide +kernel
theorem dX0_placeThroughS_27 : decode cX0_placeThroughS 27 = .ok (.invokestatic 63, 3) := by decide +kernel
theorem dX0_placeThroughS_30 : decode cX0_placeThroughS 30 = .ok (.istore 4, 2) := by decide +kernel
theorem dX0_placeThroughS_32 : decode cX0_placeThroughS 32 = .ok (.aload_n 0, 1) := by decide +kernel
theorem dX0_placeThroughS_33 : decode cX0_placeThroughS 33 = .ok (.iload 4, 2) := by decide +kernel
theorem dX0_placeThroughS_35 : decode cX0_placeThroughS 35 = .ok (.iload_n 1, 1) := by decide +kernel
theorem dX0_placeThroughS_36 : decode cX0_placeThroughS 36 = .ok (.invokevirtual 66, 3) := by decide +kernel
theorem dX0_placeThroughS_39 : decode cX0_placeThroughS 39 = .ok (.ifCond .eq 15, 3) := by decide +kernel
theorem dX0_placeThroughS_42 : decode cX0_placeThroughS 42 = .ok (.aload_n 0, 1) := by decide +kernel
theorem dX0_placeThroughS_43 : decode cX0_placeThroughS 43 = .ok (.getfield 37, 3) := by decide +kernel
theorem dX0_placeThroughS_46 : decode cX0_placeThroughS 46 = .ok (.iload 4, 2) := by decide +kernel
theorem dX0_placeThroughS_48 : decode cX0_placeThroughS 48 = .ok (.iaload, 1) := by decide +kernel
theorem dX0_placeThroughS_49 : decode cX0_placeThroughS 49 = .ok (.iload_n 1, 1) := by decide +kernel
theorem dX0_placeThroughS_50 : decode cX0_placeThroughS 50 = .ok (.invokestatic 121, 3) := by decide +kernel
theorem dX0_placeThroughS_53 : decode cX0_placeThroughS 53 = .ok (.ireturn, 1) := by decide +kernel
theorem dX0_placeThroughS_54 : decode cX0_placeThroughS 54 = .ok (.aload_n 0, 1) := by decide +kernel
theorem dX0_placeThroughS_55 : decode cX0_placeThroughS 55 = .ok (.getfield 13, 3) := by decide +kernel
theorem dX0_placeThroughS_58 : decode cX0_placeThroughS 58 = .ok (.iconst 2, 1) := by decide +kernel
theorem dX0_placeThroughS_59 : decode cX0_placeThroughS 59 = .ok (.iaload, 1) := by decide +kernel
theorem dX0_placeThroughS_60 : decode cX0_placeThroughS 60 = .ok (.iconst 4, 1) := by decide +kernel
theorem dX0_placeThroughS_61 : decode cX0_placeThroughS 61 = .ok (.iload_n 1, 1) := by decide +kernel
theorem dX0_placeThroughS_62 : decode cX0_placeThroughS 62 = .ok (.invokestatic 128, 3) := by decide +kernel
theorem dX0_placeThroughS_65 : decode cX0_placeThroughS 65 = .ok (.imul, 1) := by decide +kernel
end
section
theorem dX0_placeThroughS_66 : decode cX0_placeThroughS 66 = .ok (.iadd, 1) := by decide +kernel
theorem dX0_placeThroughS_67 : decode cX0_placeThroughS 67 = .ok (.istore 5, 2) := by decide +kernel
theorem dX0_placeThroughS_69 : decode cX0_placeThroughS 69 = .ok (.aload_n 0, 1) := by decide +kernel
theorem dX0_placeThroughS_70 : decode cX0_placeThroughS 70 = .ok (.iload 5, 2) := by decide +kernel
theorem dX0_placeThroughS_72 : decode cX0_placeThroughS 72 = .ok (.iconst 4, 1) := by decide +kernel
theorem dX0_placeThroughS_73 : decode cX0_placeThroughS 73 = .ok (.invokevirtual 46, 3) := by decide +kernel
theorem dX0_placeThroughS_76 : decode cX0_placeThroughS 76 = .ok (.ifCond .ne 6, 3) := by decide +kernel
theorem dX0_placeThroughS_79 : decode cX0_placeThroughS 79 = .ok (.bipush (-100), 2) := by decide +kernel
theorem dX0_placeThroughS_81 : decode cX0_placeThroughS 81 = .ok (.ireturn, 1) := by decide +kernel
theorem dX0_placeThroughS_82 : decode cX0_placeThroughS 82 = .ok (.aload_n 0, 1) := by decide +kernel
theorem dX0_placeThroughS_83 : decode cX0_placeThroughS 83 = .ok (.iload 5, 2) := by decide +kernel
theorem dX0_placeThroughS_85 : decode cX0_placeThroughS 85 = .ok (.invokevirtual 50, 3) := by decide +kernel
theorem dX0_placeThroughS_88 : decode cX0_placeThroughS 88 = .ok (.istore 6, 2) := by decide +kernel
theorem dX0_placeThroughS_90 : decode cX0_placeThroughS 90 = .ok (.iload 6, 2) := by decide +kernel
theorem dX0_placeThroughS_92 : decode cX0_placeThroughS 92 = .ok (.invokestatic 108, 3) := by decide +kernel
theorem dX0_placeThroughS_95 : decode cX0_placeThroughS 95 = .ok (.ifCond .ne 9, 3) := by decide +kernel
theorem dX0_placeThroughS_98 : decode cX0_placeThroughS 98 = .ok (.iconst 2, 1) := by decide +kernel
theorem dX0_placeThroughS_99 : decode cX0_placeThroughS 99 = .ok (.iload_n 2, 1) := by decide +kernel
theorem dX0_placeThroughS_100 : decode cX0_placeThroughS 100 = .ok (.invokestatic 111, 3) := by decide +kernel
theorem dX0_placeThroughS_103 : decode cX0_placeThroughS 103 = .ok (.ireturn, 1) := by decide +kernel
theorem dX0_placeThroughS_104 : decode cX0_placeThroughS 104 = .ok (.iload_n 3, 1) := by decide +kernel
theorem dX0_placeThroughS_105 : decode cX0_placeThroughS 105 = .ok (.ifCond .eq 14, 3) := by decide +kernel
theorem dX0_placeThroughS_108 : decode cX0_placeThroughS 108 = .ok (.aload_n 0, 1) := by decide +kernel
theorem dX0_placeThroughS_109 : decode cX0_placeThroughS 109 = .ok (.iload 4, 2) := by decide +kernel
theorem dX0_placeThroughS_111 : decode cX0_placeThroughS 111 = .ok (.iload_n 1, 1) := by decide +kernel
theorem dX0_placeThroughS_112 : decode cX0_placeThroughS 112 = .ok (.iload 6, 2) := by decide +kernel
theorem dX0_placeThroughS_114 : decode cX0_placeThroughS 114 = .ok (.iload 5, 2) := by decide +kernel
theorem dX0_placeThroughS_116 : decode cX0_placeThroughS 116 = .ok (.invokevirtual 114, 3) := by decide +kernel
theorem dX0_placeThroughS_119 : decode cX0_placeThroughS 119 = .ok (.iload 6, 2) := by decide +kernel
theorem dX0_placeThroughS_121 : decode cX0_placeThroughS 121 = .ok (.iload_n 1, 1) := by decide +kernel
theorem dX0_placeThroughS_122 : decode cX0_placeThroughS 122 = .ok (.invokestatic 121, 3) := by decide +kernel
theorem dX0_placeThroughS_125 : decode cX0_placeThroughS 125 = .ok (.ireturn, 1) := by decide +kernel
theorem dX0_keepEntry_0 : decode cX0_keepEntry 0 = .ok (.aload_n 0, 1) := by decide +kernel
theorem dX0_keepEntry_1 : decode cX0_keepEntry 1 = .ok (.getfield 28, 3) := by decide +kernel
theorem dX0_keepEntry_4 : decode cX0_keepEntry 4 = .ok (.iload_n 1, 1) := by decide +kernel
theorem dX0_keepEntry_5 : decode cX0_keepEntry 5 = .ok (.iload_n 2, 1) := by decide +kernel
theorem dX0_keepEntry_6 : decode cX0_keepEntry 6 = .ok (.bipush 16, 2) := by decide +kernel
theorem dX0_keepEntry_8 : decode cX0_keepEntry 8 = .ok (.idiv, 1) := by decide +kernel
theorem dX0_keepEntry_9 : decode cX0_keepEntry 9 = .ok (.iastore, 1) := by decide +kernel
theorem dX0_keepEntry_10 : decode cX0_keepEntry 10 = .ok (.aload_n 0, 1) := by decide +kernel
theorem dX0_keepEntry_11 : decode cX0_keepEntry 11 = .ok (.getfield 37, 3) := by decide +kernel
theorem dX0_keepEntry_14 : decode cX0_keepEntry 14 = .ok (.iload_n 1, 1) := by decide +kernel
theorem dX0_keepEntry_15 : decode cX0_keepEntry 15 = .ok (.iload_n 3, 1) := by decide +kernel
theorem dX0_keepEntry_16 : decode cX0_keepEntry 16 = .ok (.iastore, 1) := by decide +kernel
theorem dX0_keepEntry_17 : decode cX0_keepEntry 17 = .ok (.aload_n 0, 1) := by decide +kernel
theorem dX0_keepEntry_18 : decode cX0_keepEntry 18 = .ok (.getfield 40, 3) := by decide +kernel
theorem dX0_keepEntry_21 : decode cX0_keepEntry 21 = .ok (.iload_n 1, 1) := by decide +kernel
theorem dX0_keepEntry_22 : decode cX0_keepEntry 22 = .ok (.iload 4, 2) := by decide +kernel
theorem dX0_keepEntry_24 : decode cX0_keepEntry 24 = .ok (.iastore, 1) := by decide +kernel
theorem dX0_keepEntry_25 : decode cX0_keepEntry 25 = .ok (.return_, 1) := by decide +kernel
theorem dX0_markWritten_0 : decode cX0_markWritten 0 = .ok (.aload_n 0, 1) := by decide +kernel
theorem dX0_markWritten_1 : decode cX0_markWritten 1 = .ok (.getfield 37, 3) := by decide +kernel
theorem dX0_markWritten_4 : decode cX0_markWritten 4 = .ok (.iload_n 1, 1) := by decide +kernel
theorem dX0_markWritten_5 : decode cX0_markWritten 5 = .ok (.iaload, 1) := by decide +kernel
theorem dX0_markWritten_6 : decode cX0_markWritten 6 = .ok (.ldc 137, 2) := by decide +kernel
theorem dX0_markWritten_8 : decode cX0_markWritten 8 = .ok (.iand, 1) := by decide +kernel
theorem dX0_markWritten_9 : decode cX0_markWritten 9 = .ok (.ifCond .eq 4, 3) := by decide +kernel
theorem dX0_markWritten_12 : decode cX0_markWritten 12 = .ok (.return_, 1) := by decide +kernel
theorem dX0_markWritten_13 : decode cX0_markWritten 13 = .ok (.aload_n 0, 1) := by decide +kernel
theorem dX0_markWritten_14 : decode cX0_markWritten 14 = .ok (.getfield 37, 3) := by decide +kernel
theorem dX0_markWritten_17 : decode cX0_markWritten 17 = .ok (.iload_n 1, 1) := by decide +kernel
theorem dX0_markWritten_18 : decode cX0_markWritten 18 = .ok (.dup2, 1) := by decide +kernel
theorem dX0_markWritten_19 : decode cX0_markWritten 19 = .ok (.iaload, 1) := by decide +kernel
theorem dX0_markWritten_20 : decode cX0_markWritten 20 = .ok (.ldc 137, 2) := by decide +kernel
theorem dX0_markWritten_22 : decode cX0_markWritten 22 = .ok (.ior, 1) := by decide +kernel
theorem dX0_markWritten_23 : decode cX0_markWritten 23 = .ok (.iastore, 1) := by decide +kernel
theorem dX0_markWritten_24 : decode cX0_markWritten 24 = .ok (.aload_n 0, 1) := by decide +kernel
theorem dX0_markWritten_25 : decode cX0_markWritten 25 = .ok (.getfield 9, 3) := by decide +kernel
theorem dX0_markWritten_28 : decode cX0_markWritten 28 = .ok (.aload_n 0, 1) := by decide +kernel
theorem dX0_markWritten_29 : decode cX0_markWritten 29 = .ok (.getfield 40, 3) := by decide +kernel
theorem dX0_markWritten_32 : decode cX0_markWritten 32 = .ok (.iload_n 1, 1) := by decide +kernel
theorem dX0_markWritten_33 : decode cX0_markWritten 33 = .ok (.iaload, 1) := by decide +kernel
theorem dX0_markWritten_34 : decode cX0_markWritten 34 = .ok (.iconst 4, 1) := by decide +kernel
theorem dX0_markWritten_35 : decode cX0_markWritten 35 = .ok (.iadd, 1) := by decide +kernel
theorem dX0_markWritten_36 : decode cX0_markWritten 36 = .ok (.iconst 1, 1) := by decide +kernel
theorem dX0_markWritten_37 : decode cX0_markWritten 37 = .ok (.isub, 1) := by decide +kernel
theorem dX0_markWritten_38 : decode cX0_markWritten 38 = .ok (.dup2, 1) := by decide +kernel
theorem dX0_markWritten_39 : decode cX0_markWritten 39 = .ok (.baload, 1) := by decide +kernel
theorem dX0_markWritten_40 : decode cX0_markWritten 40 = .ok (.iconst 4, 1) := by decide +kernel
theorem dX0_markWritten_41 : decode cX0_markWritten 41 = .ok (.ior, 1) := by decide +kernel
theorem dX0_markWritten_42 : decode cX0_markWritten 42 = .ok (.i2b, 1) := by decide +kernel
theorem dX0_markWritten_43 : decode cX0_markWritten 43 = .ok (.bastore, 1) := by decide +kernel
theorem dX0_markWritten_44 : decode cX0_markWritten 44 = .ok (.return_, 1) := by decide +kernel
theorem dX0_forget_0 : decode cX0_forget 0 = .ok (.iconst 0, 1) := by decide +kernel
theorem dX0_forget_1 : decode cX0_forget 1 = .ok (.istore_n 2, 1) := by decide +kernel
theorem dX0_forget_2 : decode cX0_forget 2 = .ok (.iload_n 2, 1) := by decide +kernel
theorem dX0_forget_3 : decode cX0_forget 3 = .ok (.iload_n 1, 1) := by decide +kernel
theorem dX0_forget_4 : decode cX0_forget 4 = .ok (.if_icmp .ge 16, 3) := by decide +kernel
theorem dX0_forget_7 : decode cX0_forget 7 = .ok (.aload_n 0, 1) := by decide +kernel
theorem dX0_forget_8 : decode cX0_forget 8 = .ok (.getfield 28, 3) := by decide +kernel
theorem dX0_forget_11 : decode cX0_forget 11 = .ok (.iload_n 2, 1) := by decide +kernel
theorem dX0_forget_12 : decode cX0_forget 12 = .ok (.iconst (-1), 1) := by decide +kernel
theorem dX0_forget_13 : decode cX0_forget 13 = .ok (.iastore, 1) := by decide +kernel
theorem dX0_forget_14 : decode cX0_forget 14 = .ok (.iinc 2 1, 3) := by decide +kernel
theorem dX0_forget_17 : decode cX0_forget 17 = .ok (.goto (-15), 3) := by decide +kernel
theorem dX0_forget_20 : decode cX0_forget 20 = .ok (.return_, 1) := by decide +kernel
theorem dX0_slotOf_0 : decode cX0_slotOf 0 = .ok (.iload_n 0, 1) := by decide +kernel
theorem dX0_slotOf_1 : decode cX0_slotOf 1 = .ok (.invokestatic 128, 3) := by decide +kernel
theorem dX0_slotOf_4 : decode cX0_slotOf 4 = .ok (.bipush 8, 2) := by decide +kernel
theorem dX0_slotOf_6 : decode cX0_slotOf 6 = .ok (.irem, 1) := by decide +kernel
theorem dX0_slotOf_7 : decode cX0_slotOf 7 = .ok (.istore_n 1, 1) := by decide +kernel
theorem dX0_slotOf_8 : decode cX0_slotOf 8 = .ok (.iload_n 0, 1) := by decide +kernel
theorem dX0_slotOf_9 : decode cX0_slotOf 9 = .ok (.invokestatic 125, 3) := by decide +kernel
theorem dX0_slotOf_12 : decode cX0_slotOf 12 = .ok (.iconst 2, 1) := by decide +kernel
theorem dX0_slotOf_13 : decode cX0_slotOf 13 = .ok (.if_icmp .lt 10, 3) := by decide +kernel
theorem dX0_slotOf_16 : decode cX0_slotOf 16 = .ok (.bipush 8, 2) := by decide +kernel
theorem dX0_slotOf_18 : decode cX0_slotOf 18 = .ok (.iload_n 1, 1) := by decide +kernel
theorem dX0_slotOf_19 : decode cX0_slotOf 19 = .ok (.iadd, 1) := by decide +kernel
theorem dX0_slotOf_20 : decode cX0_slotOf 20 = .ok (.goto 4, 3) := by decide +kernel
theorem dX0_slotOf_23 : decode cX0_slotOf 23 = .ok (.iload_n 1, 1) := by decide +kernel
theorem dX0_slotOf_24 : decode cX0_slotOf 24 = .ok (.ireturn, 1) := by decide +kernel
theorem dX0_counts_0 : decode cX0_counts 0 = .ok (.aload_n 0, 1) := by decide +kernel
theorem dX0_counts_1 : decode cX0_counts 1 = .ok (.getfield 28, 3) := by decide +kernel
theorem dX0_counts_4 : decode cX0_counts 4 = .ok (.iload_n 1, 1) := by decide +kernel
theorem dX0_counts_5 : decode cX0_counts 5 = .ok (.iaload, 1) := by decide +kernel
theorem dX0_counts_6 : decode cX0_counts 6 = .ok (.iload_n 2, 1) := by decide +kernel
theorem dX0_counts_7 : decode cX0_counts 7 = .ok (.bipush 16, 2) := by decide +kernel
theorem dX0_counts_9 : decode cX0_counts 9 = .ok (.idiv, 1) := by decide +kernel
theorem dX0_counts_10 : decode cX0_counts 10 = .ok (.if_icmp .ne 7, 3) := by decide +kernel
theorem dX0_counts_13 : decode cX0_counts 13 = .ok (.iconst 1, 1) := by decide +kernel
theorem dX0_counts_14 : decode cX0_counts 14 = .ok (.goto 4, 3) := by decide +kernel
theorem dX0_counts_17 : decode cX0_counts 17 = .ok (.iconst 0, 1) := by decide +kernel
theorem dX0_counts_18 : decode cX0_counts 18 = .ok (.ireturn, 1) := by decide +kernel
theorem dX0_inside_0 : decode cX0_inside 0 = .ok (.iload_n 1, 1) := by decide +kernel
theorem dX0_inside_1 : decode cX0_inside 1 = .ok (.iconst 3, 1) := by decide +kernel
theorem dX0_inside_2 : decode cX0_inside 2 = .ok (.if_icmp .lt 5, 3) := by decide +kernel
theorem dX0_inside_5 : decode cX0_inside 5 = .ok (.iconst 0, 1) := by decide +kernel
theorem dX0_inside_6 : decode cX0_inside 6 = .ok (.ireturn, 1) := by decide +kernel
theorem dX0_inside_7 : decode cX0_inside 7 = .ok (.iload_n 1, 1) := by decide +kernel
theorem dX0_inside_8 : decode cX0_inside 8 = .ok (.iconst 1, 1) := by decide +kernel
theorem dX0_inside_9 : decode cX0_inside 9 = .ok (.if_icmp .ne 21, 3) := by decide +kernel
theorem dX0_inside_12 : decode cX0_inside 12 = .ok (.iload_n 2, 1) := by decide +kernel
theorem dX0_inside_13 : decode cX0_inside 13 = .ok (.aload_n 0, 1) := by decide +kernel
theorem dX0_inside_14 : decode cX0_inside 14 = .ok (.getfield 17, 3) := by decide +kernel
theorem dX0_inside_17 : decode cX0_inside 17 = .ok (.iload_n 1, 1) := by decide +kernel
theorem dX0_inside_18 : decode cX0_inside 18 = .ok (.iaload, 1) := by decide +kernel
theorem dX0_inside_19 : decode cX0_inside 19 = .ok (.if_icmp .lt 7, 3) := by decide +kernel
theorem dX0_inside_22 : decode cX0_inside 22 = .ok (.iconst 1, 1) := by decide +kernel
theorem dX0_inside_23 : decode cX0_inside 23 = .ok (.goto 22, 3) := by decide +kernel
theorem dX0_inside_26 : decode cX0_inside 26 = .ok (.iconst 0, 1) := by decide +kernel
theorem dX0_inside_27 : decode cX0_inside 27 = .ok (.goto 18, 3) := by decide +kernel
theorem dX0_inside_30 : decode cX0_inside 30 = .ok (.iload_n 2, 1) := by decide +kernel
theorem dX0_inside_31 : decode cX0_inside 31 = .ok (.aload_n 0, 1) := by decide +kernel
theorem dX0_inside_32 : decode cX0_inside 32 = .ok (.getfield 17, 3) := by decide +kernel
theorem dX0_inside_35 : decode cX0_inside 35 = .ok (.iload_n 1, 1) := by decide +kernel
theorem dX0_inside_36 : decode cX0_inside 36 = .ok (.iaload, 1) := by decide +kernel
theorem dX0_inside_37 : decode cX0_inside 37 = .ok (.if_icmp .ge 7, 3) := by decide +kernel
theorem dX0_inside_40 : decode cX0_inside 40 = .ok (.iconst 1, 1) := by decide +kernel
theorem dX0_inside_41 : decode cX0_inside 41 = .ok (.goto 4, 3) := by decide +kernel
theorem dX0_inside_44 : decode cX0_inside 44 = .ok (.iconst 0, 1) := by decide +kernel
theorem dX0_inside_45 : decode cX0_inside 45 = .ok (.ireturn, 1) := by decide +kernel
theorem dX0_inMemory_0 : decode cX0_inMemory 0 = .ok (.iload_n 1, 1) := by decide +kernel
theorem dX0_inMemory_1 : decode cX0_inMemory 1 = .ok (.ifCond .lt 18, 3) := by decide +kernel
theorem dX0_inMemory_4 : decode cX0_inMemory 4 = .ok (.iload_n 1, 1) := by decide +kernel
theorem dX0_inMemory_5 : decode cX0_inMemory 5 = .ok (.aload_n 0, 1) := by decide +kernel
theorem dX0_inMemory_6 : decode cX0_inMemory 6 = .ok (.getfield 9, 3) := by decide +kernel
theorem dX0_inMemory_9 : decode cX0_inMemory 9 = .ok (.arraylength, 1) := by decide +kernel
theorem dX0_inMemory_10 : decode cX0_inMemory 10 = .ok (.iload_n 2, 1) := by decide +kernel
theorem dX0_inMemory_11 : decode cX0_inMemory 11 = .ok (.isub, 1) := by decide +kernel
theorem dX0_inMemory_12 : decode cX0_inMemory 12 = .ok (.if_icmp .gt 7, 3) := by decide +kernel
theorem dX0_inMemory_15 : decode cX0_inMemory 15 = .ok (.iconst 1, 1) := by decide +kernel
theorem dX0_inMemory_16 : decode cX0_inMemory 16 = .ok (.goto 4, 3) := by decide +kernel
theorem dX0_inMemory_19 : decode cX0_inMemory 19 = .ok (.iconst 0, 1) := by decide +kernel
theorem dX0_inMemory_20 : decode cX0_inMemory 20 = .ok (.ireturn, 1) := by decide +kernel
theorem dX0_byteAt_0 : decode cX0_byteAt 0 = .ok (.aload_n 0, 1) := by decide +kernel
theorem dX0_byteAt_1 : decode cX0_byteAt 1 = .ok (.getfield 9, 3) := by decide +kernel
theorem dX0_byteAt_4 : decode cX0_byteAt 4 = .ok (.iload_n 1, 1) := by decide +kernel
theorem dX0_byteAt_5 : decode cX0_byteAt 5 = .ok (.baload, 1) := by decide +kernel
theorem dX0_byteAt_6 : decode cX0_byteAt 6 = .ok (.sipush 255, 3) := by decide +kernel
theorem dX0_byteAt_9 : decode cX0_byteAt 9 = .ok (.iand, 1) := by decide +kernel
theorem dX0_byteAt_10 : decode cX0_byteAt 10 = .ok (.ireturn, 1) := by decide +kernel
theorem dX0_entryAt_0 : decode cX0_entryAt 0 = .ok (.aload_n 0, 1) := by decide +kernel
theorem dX0_entryAt_1 : decode cX0_entryAt 1 = .ok (.iload_n 1, 1) := by decide +kernel
theorem dX0_entryAt_2 : decode cX0_entryAt 2 = .ok (.invokevirtual 79, 3) := by decide +kernel
theorem dX0_entryAt_5 : decode cX0_entryAt 5 = .ok (.aload_n 0, 1) := by decide +kernel
theorem dX0_entryAt_6 : decode cX0_entryAt 6 = .ok (.iload_n 1, 1) := by decide +kernel
theorem dX0_entryAt_7 : decode cX0_entryAt 7 = .ok (.iconst 1, 1) := by decide +kernel
theorem dX0_entryAt_8 : decode cX0_entryAt 8 = .ok (.iadd, 1) := by decide +kernel
theorem dX0_entryAt_9 : decode cX0_entryAt 9 = .ok (.invokevirtual 79, 3) := by decide +kernel
theorem dX0_entryAt_12 : decode cX0_entryAt 12 = .ok (.bipush 8, 2) := by decide +kernel
theorem dX0_entryAt_14 : decode cX0_entryAt 14 = .ok (.ishl, 1) := by decide +kernel
theorem dX0_entryAt_15 : decode cX0_entryAt 15 = .ok (.ior, 1) := by decide +kernel
theorem dX0_entryAt_16 : decode cX0_entryAt 16 = .ok (.aload_n 0, 1) := by decide +kernel
theorem dX0_entryAt_17 : decode cX0_entryAt 17 = .ok (.iload_n 1, 1) := by decide +kernel
theorem dX0_entryAt_18 : decode cX0_entryAt 18 = .ok (.iconst 2, 1) := by decide +kernel
theorem dX0_entryAt_19 : decode cX0_entryAt 19 = .ok (.iadd, 1) := by decide +kernel
theorem dX0_entryAt_20 : decode cX0_entryAt 20 = .ok (.invokevirtual 79, 3) := by decide +kernel
theorem dX0_entryAt_23 : decode cX0_entryAt 23 = .ok (.bipush 16, 2) := by decide +kernel
theorem dX0_entryAt_25 : decode cX0_entryAt 25 = .ok (.ishl, 1) := by decide +kernel
theorem dX0_entryAt_26 : decode cX0_entryAt 26 = .ok (.ior, 1) := by decide +kernel
theorem dX0_entryAt_27 : decode cX0_entryAt 27 = .ok (.aload_n 0, 1) := by decide +kernel
theorem dX0_entryAt_28 : decode cX0_entryAt 28 = .ok (.iload_n 1, 1) := by decide +kernel
theorem dX0_entryAt_29 : decode cX0_entryAt 29 = .ok (.iconst 3, 1) := by decide +kernel
theorem dX0_entryAt_30 : decode cX0_entryAt 30 = .ok (.iadd, 1) := by decide +kernel
theorem dX0_entryAt_31 : decode cX0_entryAt 31 = .ok (.invokevirtual 79, 3) := by decide +kernel
theorem dX0_entryAt_34 : decode cX0_entryAt 34 = .ok (.bipush 24, 2) := by decide +kernel
theorem dX0_entryAt_36 : decode cX0_entryAt 36 = .ok (.ishl, 1) := by decide +kernel
theorem dX0_entryAt_37 : decode cX0_entryAt 37 = .ok (.ior, 1) := by decide +kernel
theorem dX0_entryAt_38 : decode cX0_entryAt 38 = .ok (.ireturn, 1) := by decide +kernel
theorem dX0_gives_0 : decode cX0_gives 0 = .ok (.iload_n 0, 1) := by decide +kernel
theorem dX0_gives_1 : decode cX0_gives 1 = .ok (.bipush 27, 2) := by decide +kernel
theorem dX0_gives_3 : decode cX0_gives 3 = .ok (.iushr, 1) := by decide +kernel
theorem dX0_gives_4 : decode cX0_gives 4 = .ok (.bipush 15, 2) := by decide +kernel
theorem dX0_gives_6 : decode cX0_gives 6 = .ok (.iand, 1) := by decide +kernel
theorem dX0_gives_7 : decode cX0_gives 7 = .ok (.istore_n 3, 1) := by decide +kernel
theorem dX0_gives_8 : decode cX0_gives 8 = .ok (.iload_n 2, 1) := by decide +kernel
theorem dX0_gives_9 : decode cX0_gives 9 = .ok (.ifCond .eq 11, 3) := by decide +kernel
theorem dX0_gives_12 : decode cX0_gives 12 = .ok (.getstatic 138, 3) := by decide +kernel
theorem dX0_gives_15 : decode cX0_gives 15 = .ok (.iload_n 3, 1) := by decide +kernel
theorem dX0_gives_16 : decode cX0_gives 16 = .ok (.iaload, 1) := by decide +kernel
theorem dX0_gives_17 : decode cX0_gives 17 = .ok (.goto 8, 3) := by decide +kernel
theorem dX0_gives_20 : decode cX0_gives 20 = .ok (.getstatic 141, 3) := by decide +kernel
theorem dX0_gives_23 : decode cX0_gives 23 = .ok (.iload_n 3, 1) := by decide +kernel
theorem dX0_gives_24 : decode cX0_gives 24 = .ok (.iaload, 1) := by decide +kernel
theorem dX0_gives_25 : decode cX0_gives 25 = .ok (.istore 4, 2) := by decide +kernel
theorem dX0_gives_27 : decode cX0_gives 27 = .ok (.iload_n 1, 1) := by decide +kernel
theorem dX0_gives_28 : decode cX0_gives 28 = .ok (.iconst 3, 1) := by decide +kernel
theorem dX0_gives_29 : decode cX0_gives 29 = .ok (.iand, 1) := by decide +kernel
theorem dX0_gives_30 : decode cX0_gives 30 = .ok (.iload 4, 2) := by decide +kernel
theorem dX0_gives_32 : decode cX0_gives 32 = .ok (.if_icmp .gt 7, 3) := by decide +kernel
theorem dX0_gives_35 : decode cX0_gives 35 = .ok (.iconst 1, 1) := by decide +kernel
theorem dX0_gives_36 : decode cX0_gives 36 = .ok (.goto 4, 3) := by decide +kernel
theorem dX0_gives_39 : decode cX0_gives 39 = .ok (.iconst 0, 1) := by decide +kernel
theorem dX0_gives_40 : decode cX0_gives 40 = .ok (.ireturn, 1) := by decide +kernel
theorem dX0_isValid_0 : decode cX0_isValid 0 = .ok (.iload_n 0, 1) := by decide +kernel
theorem dX0_isValid_1 : decode cX0_isValid 1 = .ok (.ldc 144, 2) := by decide +kernel
theorem dX0_isValid_3 : decode cX0_isValid 3 = .ok (.iand, 1) := by decide +kernel
theorem dX0_isValid_4 : decode cX0_isValid 4 = .ok (.ifCond .eq 7, 3) := by decide +kernel
theorem dX0_isValid_7 : decode cX0_isValid 7 = .ok (.iconst 1, 1) := by decide +kernel
theorem dX0_isValid_8 : decode cX0_isValid 8 = .ok (.goto 4, 3) := by decide +kernel
theorem dX0_isValid_11 : decode cX0_isValid 11 = .ok (.iconst 0, 1) := by decide +kernel
theorem dX0_isValid_12 : decode cX0_isValid 12 = .ok (.ireturn, 1) := by decide +kernel
theorem dX0_physical_0 : decode cX0_physical 0 = .ok (.iload_n 0, 1) := by decide +kernel
theorem dX0_physical_1 : decode cX0_physical 1 = .ok (.sipush 4095, 3) := by decide +kernel
theorem dX0_physical_4 : decode cX0_physical 4 = .ok (.iand, 1) := by decide +kernel
theorem dX0_physical_5 : decode cX0_physical 5 = .ok (.bipush 16, 2) := by decide +kernel
theorem dX0_physical_7 : decode cX0_physical 7 = .ok (.imul, 1) := by decide +kernel
theorem dX0_physical_8 : decode cX0_physical 8 = .ok (.iload_n 1, 1) := by decide +kernel
theorem dX0_physical_9 : decode cX0_physical 9 = .ok (.invokestatic 97, 3) := by decide +kernel
theorem dX0_physical_12 : decode cX0_physical 12 = .ok (.iadd, 1) := by decide +kernel
theorem dX0_physical_13 : decode cX0_physical 13 = .ok (.ireturn, 1) := by decide +kernel
theorem dX0_regionOf_0 : decode cX0_regionOf 0 = .ok (.iload_n 0, 1) := by decide +kernel
theorem dX0_regionOf_1 : decode cX0_regionOf 1 = .ok (.bipush 14, 2) := by decide +kernel
theorem dX0_regionOf_3 : decode cX0_regionOf 3 = .ok (.iushr, 1) := by decide +kernel
theorem dX0_regionOf_4 : decode cX0_regionOf 4 = .ok (.iconst 3, 1) := by decide +kernel
theorem dX0_regionOf_5 : decode cX0_regionOf 5 = .ok (.iand, 1) := by decide +kernel
theorem dX0_regionOf_6 : decode cX0_regionOf 6 = .ok (.ireturn, 1) := by decide +kernel
theorem dX0_pageOf_0 : decode cX0_pageOf 0 = .ok (.iload_n 0, 1) := by decide +kernel
theorem dX0_pageOf_1 : decode cX0_pageOf 1 = .ok (.iconst 4, 1) := by decide +kernel
theorem dX0_pageOf_2 : decode cX0_pageOf 2 = .ok (.iushr, 1) := by decide +kernel
theorem dX0_pageOf_3 : decode cX0_pageOf 3 = .ok (.sipush 1023, 3) := by decide +kernel
theorem dX0_pageOf_6 : decode cX0_pageOf 6 = .ok (.iand, 1) := by decide +kernel
theorem dX0_pageOf_7 : decode cX0_pageOf 7 = .ok (.ireturn, 1) := by decide +kernel
theorem dX0_placeInPage_0 : decode cX0_placeInPage 0 = .ok (.iload_n 0, 1) := by decide +kernel
theorem dX0_placeInPage_1 : decode cX0_placeInPage 1 = .ok (.bipush 15, 2) := by decide +kernel
theorem dX0_placeInPage_3 : decode cX0_placeInPage 3 = .ok (.iand, 1) := by decide +kernel
theorem dX0_placeInPage_4 : decode cX0_placeInPage 4 = .ok (.ireturn, 1) := by decide +kernel
theorem dX0_isCount_0 : decode cX0_isCount 0 = .ok (.iload_n 0, 1) := by decide +kernel
theorem dX0_isCount_1 : decode cX0_isCount 1 = .ok (.iconst 1, 1) := by decide +kernel
theorem dX0_isCount_2 : decode cX0_isCount 2 = .ok (.if_icmp .eq 13, 3) := by decide +kernel
theorem dX0_isCount_5 : decode cX0_isCount 5 = .ok (.iload_n 0, 1) := by decide +kernel
theorem dX0_isCount_6 : decode cX0_isCount 6 = .ok (.iconst 2, 1) := by decide +kernel
theorem dX0_isCount_7 : decode cX0_isCount 7 = .ok (.if_icmp .eq 8, 3) := by decide +kernel
theorem dX0_isCount_10 : decode cX0_isCount 10 = .ok (.iload_n 0, 1) := by decide +kernel
theorem dX0_isCount_11 : decode cX0_isCount 11 = .ok (.iconst 4, 1) := by decide +kernel
theorem dX0_isCount_12 : decode cX0_isCount 12 = .ok (.if_icmp .ne 7, 3) := by decide +kernel
theorem dX0_isCount_15 : decode cX0_isCount 15 = .ok (.iconst 1, 1) := by decide +kernel
theorem dX0_isCount_16 : decode cX0_isCount 16 = .ok (.goto 4, 3) := by decide +kernel
theorem dX0_isCount_19 : decode cX0_isCount 19 = .ok (.iconst 0, 1) := by decide +kernel
theorem dX0_isCount_20 : decode cX0_isCount 20 = .ok (.ireturn, 1) := by decide +kernel
theorem dX0_access_0 : decode cX0_access 0 = .ok (.iconst (-1), 1) := by decide +kernel
theorem dX0_access_1 : decode cX0_access 1 = .ok (.iload_n 0, 1) := by decide +kernel
theorem dX0_access_2 : decode cX0_access 2 = .ok (.isub, 1) := by decide +kernel
theorem dX0_access_3 : decode cX0_access 3 = .ok (.iload_n 1, 1) := by decide +kernel
theorem dX0_access_4 : decode cX0_access 4 = .ok (.ifCond .eq 7, 3) := by decide +kernel
theorem dX0_access_7 : decode cX0_access 7 = .ok (.iconst 4, 1) := by decide +kernel
theorem dX0_access_8 : decode cX0_access 8 = .ok (.goto 4, 3) := by decide +kernel
theorem dX0_access_11 : decode cX0_access 11 = .ok (.iconst 0, 1) := by decide +kernel
theorem dX0_access_12 : decode cX0_access 12 = .ok (.isub, 1) := by decide +kernel
theorem dX0_access_13 : decode cX0_access 13 = .ok (.ireturn, 1) := by decide +kernel
theorem dX0_missing_0 : decode cX0_missing 0 = .ok (.bipush (-11), 2) := by decide +kernel
theorem dX0_missing_2 : decode cX0_missing 2 = .ok (.iload_n 0, 1) := by decide +kernel
theorem dX0_missing_3 : decode cX0_missing 3 = .ok (.isub, 1) := by decide +kernel
theorem dX0_missing_4 : decode cX0_missing 4 = .ok (.iload_n 1, 1) := by decide +kernel
theorem dX0_missing_5 : decode cX0_missing 5 = .ok (.ifCond .eq 7, 3) := by decide +kernel
theorem dX0_missing_8 : decode cX0_missing 8 = .ok (.iconst 4, 1) := by decide +kernel
theorem dX0_missing_9 : decode cX0_missing 9 = .ok (.goto 4, 3) := by decide +kernel
theorem dX0_missing_12 : decode cX0_missing 12 = .ok (.iconst 0, 1) := by decide +kernel
theorem dX0_missing_13 : decode cX0_missing 13 = .ok (.isub, 1) := by decide +kernel
theorem dX0_missing_14 : decode cX0_missing 14 = .ok (.ireturn, 1) := by decide +kernel
theorem dX0_isAccess_0 : decode cX0_isAccess 0 = .ok (.iload_n 0, 1) := by decide +kernel
theorem dX0_isAccess_1 : decode cX0_isAccess 1 = .ok (.iconst (-1), 1) := by decide +kernel
theorem dX0_isAccess_2 : decode cX0_isAccess 2 = .ok (.if_icmp .gt 13, 3) := by decide +kernel
theorem dX0_isAccess_5 : decode cX0_isAccess 5 = .ok (.iload_n 0, 1) := by decide +kernel
theorem dX0_isAccess_6 : decode cX0_isAccess 6 = .ok (.bipush (-11), 2) := by decide +kernel
theorem dX0_isAccess_8 : decode cX0_isAccess 8 = .ok (.if_icmp .le 7, 3) := by decide +kernel
theorem dX0_isAccess_11 : decode cX0_isAccess 11 = .ok (.iconst 1, 1) := by decide +kernel
theorem dX0_isAccess_12 : decode cX0_isAccess 12 = .ok (.goto 4, 3) := by decide +kernel
theorem dX0_isAccess_15 : decode cX0_isAccess 15 = .ok (.iconst 0, 1) := by decide +kernel
theorem dX0_isAccess_16 : decode cX0_isAccess 16 = .ok (.ireturn, 1) := by decide +kernel
end
section
-- words for the state of KeptPages, and how its methods are called
def jushr (x y : Int32) : Int32 := (x.toUInt32 >>> (y.toUInt32 &&& Int32.toUInt32 31)).toInt32
def jlshl (x : Int64) (y : Int32) : Int64 := x <<< (y.toInt64 &&& 63)
def kb {α β γ : Type} (x : α × β) (k : α → β → γ) : γ := k x.1 x.2
theorem kb_eq {α β γ : Type} {x : α × β} {k : α → β → γ} {a : α} {b : β} (e : x = (a, b)) : kb x k = k a b := by subst e; rfl
def kv {β γ : Type} (x : β) (k : β → γ) : γ := k x
theorem kv_eq {β γ : Type} {x : β} {k : β → γ} {b : β} (e : x = b) : kv x k = k b := by subst e; rfl
abbrev XS : Type := (Nat → Int32) × (Nat → Int32) × (Nat → Int32) × (Nat → Int32) × (Nat → Int32) × (Nat → Int32) × (Nat → Int32) × Int32 × Int32
def x_mem (σ : XS) : Nat → Int32 := σ.1
def x_bas (σ : XS) : Nat → Int32 := σ.2.1
def x_len (σ : XS) : Nat → Int32 := σ.2.2.1
def x_kp (σ : XS) : Nat → Int32 := σ.2.2.2.1
def x_ke (σ : XS) : Nat → Int32 := σ.2.2.2.2.1
def x_kpl (σ : XS) : Nat → Int32 := σ.2.2.2.2.2.1
def x_pl (σ : XS) : Nat → Int32 := σ.2.2.2.2.2.2.1
def x_mp (σ : XS) : Int32 := σ.2.2.2.2.2.2.2.1
def x_fa (σ : XS) : Int32 := σ.2.2.2.2.2.2.2.2
def x_sMem (σ : XS) (f : Nat → Int32) : XS := (f, x_bas σ, x_len σ, x_kp σ, x_ke σ, x_kpl σ, x_pl σ, x_mp σ, x_fa σ)
def x_sBas (σ : XS) (f : Nat → Int32) : XS := (x_mem σ, f, x_len σ, x_kp σ, x_ke σ, x_kpl σ, x_pl σ, x_mp σ, x_fa σ)
def x_sLen (σ : XS) (f : Nat → Int32) : XS := (x_mem σ, x_bas σ, f, x_kp σ, x_ke σ, x_kpl σ, x_pl σ, x_mp σ, x_fa σ)
def x_sKp (σ : XS) (f : Nat → Int32) : XS := (x_mem σ, x_bas σ, x_len σ, f, x_ke σ, x_kpl σ, x_pl σ, x_mp σ, x_fa σ)
def x_sKe (σ : XS) (f : Nat → Int32) : XS := (x_mem σ, x_bas σ, x_len σ, x_kp σ, f, x_kpl σ, x_pl σ, x_mp σ, x_fa σ)
def x_sKpl (σ : XS) (f : Nat → Int32) : XS := (x_mem σ, x_bas σ, x_len σ, x_kp σ, x_ke σ, f, x_pl σ, x_mp σ, x_fa σ)
def x_sPl (σ : XS) (f : Nat → Int32) : XS := (x_mem σ, x_bas σ, x_len σ, x_kp σ, x_ke σ, x_kpl σ, f, x_mp σ, x_fa σ)
def x_sMp (σ : XS) (v : Int32) : XS := (x_mem σ, x_bas σ, x_len σ, x_kp σ, x_ke σ, x_kpl σ, x_pl σ, v, x_fa σ)
def x_sFa (σ : XS) (v : Int32) : XS := (x_mem σ, x_bas σ, x_len σ, x_kp σ, x_ke σ, x_kpl σ, x_pl σ, x_mp σ, v)
-- the cells of an object: h 0 the object, h 1 .. h 7 its arrays
abbrev x_ws (h : Nat → Nat) (cB cI : ClassId) (n : Nat) (σ : XS) : va_W := [(h 0, .inr (0, [.ref (h 1), .ref (h 2), .ref (h 3), .int (x_mp σ), .int (x_fa σ), .ref (h 4), .ref (h 5), .ref (h 6), .ref (h 7)])), (h 1, .inl (cB, n, .inl (x_mem σ))), (h 2, .inl (cI, 3, .inl (x_bas σ))), (h 3, .inl (cI, 3, .inl (x_len σ))), (h 4, .inl (cI, 16, .inl (x_kp σ))), (h 5, .inl (cI, 16, .inl (x_ke σ))), (h 6, .inl (cI, 16, .inl (x_kpl σ))), (h 7, .inl (cI, 4, .inl (x_pl σ)))]
abbrev x_tys (cB cI : ClassId) : List (ClassId × FieldType) := [(cB, .byte), (cI, .int)]
-- the class's two written-out tables
def x_mw (j : Nat) : Int32 := ([-1, -1, 0, -1, 3, 1, 0, -1, 2, 1, 0, -1, 2, 1, 0, -1] : List Int32).getD j 0
def x_mr (j : Nat) : Int32 := ([-1, -1, 0, 0, 3, 1, 1, 1, 2, 2, 2, 2, 3, 3, 3, 3] : List Int32).getD j 0
def x_ST (tw tr : Nat) (A : Nat → Prop) (U : State) (H : Heap) : Prop := va_Z RX0 "MAY_WRITE" "[I" (.ref tw) A U H ∧ va_T .int tw 16 (fun j => .int (x_mw j)) A U H ∧ va_Z RX0 "MAY_READ" "[I" (.ref tr) A U H ∧ va_T .int tr 16 (fun j => .int (x_mr j)) A U H
theorem x_ST.moved {tw tr : Nat} {A : Nat → Prop} {u U : State} {H : Heap} (hvm : u.vm.Alike U.vm) (h : x_ST tw tr A u H) : x_ST tw tr A U H := ⟨va_Z.moved hvm h.1, va_T.moved hvm h.2.1, va_Z.moved hvm h.2.2.1, va_T.moved hvm h.2.2.2⟩
theorem x_ST.use {tw tr : Nat} {A B : Nat → Prop} {s U : State} {H : Heap} {locs : List Loc} (h : x_ST tw tr A s s.heap) (hS : va_S A s.heap H locs) (hU : U.heap = H) (hW : s.WarmedH U.vm) (hB : ∀ q, B q → A q) : x_ST tw tr B U U.heap := by
  rw [hU]
  exact x_ST.moved hW.alike ⟨(h.1.kept hS.2.1).narrow hB, (h.2.1.kept hS.2.1).narrow hB, (h.2.2.1.kept hS.2.1).narrow hB, (h.2.2.2.kept hS.2.1).narrow hB⟩
-- starts and ends
abbrev x_BS (tw tr : Nat) : State → Prop := fun U => x_ST tw tr (fun _ => False) U U.heap
abbrev x_BP (dC : Nat → ClassId) (dI : Nat → Nat → Nat) (h : Nat → Nat) (cB cI : ClassId) (n : Nat) (σ : XS) : State → Prop := fun U => va_P (dC, dI) vwCl (x_ws h cB cI n σ) U.heap ∧ va_K (dC, dI) vwCl (x_tys cB cI) U
abbrev x_BM (dC : Nat → ClassId) (dI : Nat → Nat → Nat) (h : Nat → Nat) (cB cI : ClassId) (n : Nat) (sz : Nat) (σ : XS) : State → Prop := fun U => U.heap.size = sz ∧ va_P (dC, dI) vwCl (x_ws h cB cI n σ) U.heap ∧ va_K (dC, dI) vwCl (x_tys cB cI) U ∧ va_D (fun _ => True) (x_ws h cB cI n σ)
abbrev x_BMt (dC : Nat → ClassId) (dI : Nat → Nat → Nat) (h : Nat → Nat) (cB cI : ClassId) (n : Nat) (tw tr : Nat) (sz : Nat) (σ : XS) : State → Prop := fun U => U.heap.size = sz ∧ va_P (dC, dI) vwCl (x_ws h cB cI n σ) U.heap ∧ va_K (dC, dI) vwCl (x_tys cB cI) U ∧ va_D (fun _ => True) (x_ws h cB cI n σ) ∧ x_ST tw tr (va_A (x_ws h cB cI n σ) sz) U U.heap
abbrev x_at (dC : Nat → ClassId) (dI : Nat → Nat → Nat) (h : Nat → Nat) (cB cI : ClassId) (n : Nat) (A : Nat → Prop) (σ : XS) (t : State) : Prop := va_P (dC, dI) vwCl (x_ws h cB cI n σ) t.heap ∧ va_K (dC, dI) vwCl (x_tys cB cI) t ∧ va_D A (x_ws h cB cI n σ)
theorem fs_pre {s : State} {H : Heap} {As : List Value} : PreS s H (va_Pc As (fun _ => True)) As := ⟨fun _ _ _ _ q => ⟨q.1, trivial⟩, fun _ _ _ => ⟨rfl, trivial⟩⟩
theorem x_preS {s : State} {H : Heap} {As : List Value} {tw tr : Nat} {A : Nat → Prop} {locs : List Loc} (h : x_ST tw tr A s s.heap) (hS : va_S A s.heap H locs) : PreS s H (va_Pc As (x_BS tw tr)) As := ⟨fun a U g mk q => ⟨q.1, x_ST.moved (u := U) (U := U.calling g mk a) (Vm.Alike.refl U.vm) q.2⟩, fun U hU hW => ⟨rfl, h.use hS hU hW (fun _ z => z.elim)⟩⟩
section XW
variable {dC : Nat → ClassId} {dI : Nat → Nat → Nat} {h : Nat → Nat} {cB cI : ClassId} {n : Nat} {σ : XS} {s : State} {H : Heap} {As : List Value} {A : Nat → Prop} {locs : List Loc} {tw tr : Nat}
theorem x_preP (hK : va_K (dC, dI) vwCl (x_tys cB cI) s) (hP : va_P (dC, dI) vwCl (x_ws h cB cI n σ) H) : PreV s H RX0 (h 0) (va_Pc (.ref (h 0) :: As) (x_BP dC dI h cB cI n σ)) As := ⟨fun a U g mk q => ⟨q.1, q.2.1, va_K.moved (u := U) (U := U.calling g mk a) (Vm.Alike.refl U.vm) q.2.2⟩, va_recv hK hP (ci := 0) (q0 := 0) rfl rfl, fun U hU hW => ⟨rfl, by rw [hU]; exact hP, va_K.moved hW.alike hK⟩⟩
theorem x_preM (hK : va_K (dC, dI) vwCl (x_tys cB cI) s) (hP : va_P (dC, dI) vwCl (x_ws h cB cI n σ) H) (hD : va_D A (x_ws h cB cI n σ)) : PreV s H RX0 (h 0) (va_Pc (.ref (h 0) :: As) (x_BM dC dI h cB cI n H.size σ)) As := ⟨fun a U g mk q => ⟨q.1, q.2.1, q.2.2.1, va_K.moved (u := U) (U := U.calling g mk a) (Vm.Alike.refl U.vm) q.2.2.2.1, q.2.2.2.2⟩, va_recv hK hP (ci := 0) (q0 := 0) rfl rfl, fun U hU hW => ⟨rfl, by rw [hU], by rw [hU]; exact hP, va_K.moved hW.alike hK, hD.weaken (fun _ _ _ _ => trivial)⟩⟩
theorem x_preMt (hK : va_K (dC, dI) vwCl (x_tys cB cI) s) (hP : va_P (dC, dI) vwCl (x_ws h cB cI n σ) H) (hD : va_D A (x_ws h cB cI n σ)) (hST : x_ST tw tr A s s.heap) (hS : va_S A s.heap H locs) (hA : ∀ q : Nat, s.heap.size ≤ q → A q) : PreV s H RX0 (h 0) (va_Pc (.ref (h 0) :: As) (x_BMt dC dI h cB cI n tw tr H.size σ)) As := ⟨fun a U g mk q => ⟨q.1, q.2.1, q.2.2.1, va_K.moved (u := U) (U := U.calling g mk a) (Vm.Alike.refl U.vm) q.2.2.2.1, q.2.2.2.2.1, x_ST.moved (u := U) (U := U.calling g mk a) (Vm.Alike.refl U.vm) q.2.2.2.2.2⟩, va_recv hK hP (ci := 0) (q0 := 0) rfl rfl, fun U hU hW => ⟨rfl, by rw [hU], by rw [hU]; exact hP, va_K.moved hW.alike hK, hD.weaken (fun _ _ _ _ => trivial), hST.use hS hU hW (va_free (wc := x_ws h cB cI n σ) hD hS hA [0, 1, 2, 3, 4, 5, 6, 7] rfl)⟩⟩
variable {p : Program} {l : Launch} {e : Env} {R : Room} {m : MethodId} {args : Array Value} {below : List Frame} {meth : Method} {c : Code} {cells slots : Nat} {Q : State → Prop} {pc : Nat} {ls : Array Slot} {rest st0 : List Value} {a : Array Value}
theorem x_calli {f : Int32 × XS} (hr : va_Run p l e R s m args below meth c H locs cells slots 0 0 (F0 m pc ls st0) rest (va_Qi (fun (r : Int32) (u : XS) => f = (r, u)) (x_at dC dI h cB cI n (va_A (x_ws h cB cI n σ) H.size)) (va_A (x_ws h cB cI n σ) H.size) a) (va_A (x_ws h cB cI n σ) H.size)) (hP : va_P (dC, dI) vwCl (x_ws h cB cI n σ) H) (hD : va_D A (x_ws h cB cI n σ)) (hS : va_S A s.heap H locs) (hA : ∀ q : Nat, s.heap.size ≤ q → A q)
    (kk : ∀ (r : Int32) (u : XS) (H1 : Heap) (locs1 : List Loc), f = (r, u) → va_P (dC, dI) vwCl (x_ws h cB cI n u) H1 → va_D A (x_ws h cB cI n u) → va_S A s.heap H1 locs1 → W p l e R s m args below meth c H1 locs1 cells slots Q (F0 m (pc + 3) ls (.int r :: rest))) : W p l e R s m args below meth c H locs cells slots Q (F0 m pc ls st0) := by
  have hF := va_free (wc := x_ws h cB cI n σ) hD hS hA [0, 1, 2, 3, 4, 5, 6, 7] rfl
  refine va_calli hr hS (fun q _ z => hF q z) hF (fun r u t H1 locs ht hvm hw hB hz1 hk1 hS => ?_)
  obtain ⟨hP1, hK1, hD1⟩ := hB
  rw [ht] at hP1
  obtain ⟨hP2, hD2⟩ := va_join (wr := []) (w1 := x_ws h cB cI n u) hP hD [0, 1, 2, 3, 4, 5, 6, 7] [] rfl rfl (by decide) (by decide) hk1 hF hP1 hD1
  exact kk r u H1 locs hw hP2 hD2 hS
theorem x_calll {f : Int64 × XS} (hr : va_Run p l e R s m args below meth c H locs cells slots 0 0 (F0 m pc ls st0) rest (va_Ql (fun (r : Int64) (u : XS) => f = (r, u)) (x_at dC dI h cB cI n (va_A (x_ws h cB cI n σ) H.size)) (va_A (x_ws h cB cI n σ) H.size) a) (va_A (x_ws h cB cI n σ) H.size)) (hP : va_P (dC, dI) vwCl (x_ws h cB cI n σ) H) (hD : va_D A (x_ws h cB cI n σ)) (hS : va_S A s.heap H locs) (hA : ∀ q : Nat, s.heap.size ≤ q → A q)
    (kk : ∀ (r : Int64) (u : XS) (H1 : Heap) (locs1 : List Loc), f = (r, u) → va_P (dC, dI) vwCl (x_ws h cB cI n u) H1 → va_D A (x_ws h cB cI n u) → va_S A s.heap H1 locs1 → W p l e R s m args below meth c H1 locs1 cells slots Q (F0 m (pc + 3) ls (.long r :: rest))) : W p l e R s m args below meth c H locs cells slots Q (F0 m pc ls st0) := by
  have hF := va_free (wc := x_ws h cB cI n σ) hD hS hA [0, 1, 2, 3, 4, 5, 6, 7] rfl
  refine va_calll hr hS (fun q _ z => hF q z) hF (fun r u t H1 locs ht hvm hw hB hz1 hk1 hS => ?_)
  obtain ⟨hP1, hK1, hD1⟩ := hB
  rw [ht] at hP1
  obtain ⟨hP2, hD2⟩ := va_join (wr := []) (w1 := x_ws h cB cI n u) hP hD [0, 1, 2, 3, 4, 5, 6, 7] [] rfl rfl (by decide) (by decide) hk1 hF hP1 hD1
  exact kk r u H1 locs hw hP2 hD2 hS
theorem x_callv {f : XS} (hr : va_Run p l e R s m args below meth c H locs cells slots 0 0 (F0 m pc ls st0) rest (va_Qv (fun u : XS => f = u) (x_at dC dI h cB cI n (va_A (x_ws h cB cI n σ) H.size)) (va_A (x_ws h cB cI n σ) H.size) a) (va_A (x_ws h cB cI n σ) H.size)) (hP : va_P (dC, dI) vwCl (x_ws h cB cI n σ) H) (hD : va_D A (x_ws h cB cI n σ)) (hS : va_S A s.heap H locs) (hA : ∀ q : Nat, s.heap.size ≤ q → A q)
    (kk : ∀ (u : XS) (H1 : Heap) (locs1 : List Loc), f = u → va_P (dC, dI) vwCl (x_ws h cB cI n u) H1 → va_D A (x_ws h cB cI n u) → va_S A s.heap H1 locs1 → W p l e R s m args below meth c H1 locs1 cells slots Q (F0 m (pc + 3) ls rest)) : W p l e R s m args below meth c H locs cells slots Q (F0 m pc ls st0) := by
  have hF := va_free (wc := x_ws h cB cI n σ) hD hS hA [0, 1, 2, 3, 4, 5, 6, 7] rfl
  refine va_callv hr hS (fun q _ z => hF q z) hF (fun u t H1 locs ht hvm hw hB hz1 hk1 hS => ?_)
  obtain ⟨hP1, hK1, hD1⟩ := hB
  rw [ht] at hP1
  obtain ⟨hP2, hD2⟩ := va_join (wr := []) (w1 := x_ws h cB cI n u) hP hD [0, 1, 2, 3, 4, 5, 6, 7] [] rfl rfl (by decide) (by decide) hk1 hF hP1 hD1
  exact kk u H1 locs hw hP2 hD2 hS
end XW
-- Arrays.fill: its one array
def j_a (σ : Nat → Int32) : Nat → Int32 := σ
def j_sA (_ : Nat → Int32) (f : Nat → Int32) : Nat → Int32 := f
abbrev j_ws (h : Nat → Nat) (cI : ClassId) (N : Nat) (σ : Nat → Int32) : va_W := [(h 0, .inl (cI, N, .inl (j_a σ)))]
abbrev j_tys (cI : ClassId) : List (ClassId × FieldType) := [(cI, .int)]
abbrev j_BM (dC : Nat → ClassId) (dI : Nat → Nat → Nat) (h : Nat → Nat) (cI : ClassId) (N : Nat) (sz : Nat) (σ : Nat → Int32) : State → Prop := fun U => U.heap.size = sz ∧ va_P (dC, dI) vwCl (j_ws h cI N σ) U.heap ∧ va_K (dC, dI) vwCl (j_tys cI) U ∧ va_D (fun _ => True) (j_ws h cI N σ)
abbrev j_at (dC : Nat → ClassId) (dI : Nat → Nat → Nat) (h : Nat → Nat) (cI : ClassId) (N : Nat) (A : Nat → Prop) (σ : Nat → Int32) (t : State) : Prop := va_P (dC, dI) vwCl (j_ws h cI N σ) t.heap ∧ va_K (dC, dI) vwCl (j_tys cI) t ∧ va_D A (j_ws h cI N σ)
end
section
def j_fill_l1 (N : Nat) (v : Int32) : Nat → Int32 → Int32 → (Nat → Int32) → (Nat → Int32)
  | 0, _, _, τ => τ
  | f + 1, i, ln, τ =>
    if ln ≤ i then
      τ
    else
      j_fill_l1 N v f (i + 1) ln (j_sA τ (upd (j_a τ) ((i).toNatClampNeg) v))
def j_fill (N : Nat) (σ : (Nat → Int32)) (v : Int32) : (Nat → Int32) :=
  j_fill_l1 N v 1000 0 (nI N) σ
abbrev q_j_fill (dC : Nat → ClassId) (dI : Nat → Nat → Nat) (h : Nat → Nat) (cI : ClassId) (N : Nat) (σ : (Nat → Int32)) (v : Int32) (A : Nat → Prop) : Array Value → State → Outcome → State → Prop := va_Qv (fun u : (Nat → Int32) => j_fill N σ v = u) (j_at dC dI h cI N A) A
def x_regionOf (a : Int32) : Int32 :=
  ((jushr a 14) &&& 3)
def x_pageOf (a : Int32) : Int32 :=
  ((jushr a 4) &&& 1023)
def x_placeInPage (a : Int32) : Int32 :=
  (a &&& 15)
def x_slotOf (a : Int32) : Int32 :=
  if (x_regionOf a) < 2 then
    ((x_pageOf a) - (x_pageOf a) / 8 * 8)
  else
    ((8 : Int32) + ((x_pageOf a) - (x_pageOf a) / 8 * 8))
def x_isValid (v : Int32) : Int32 :=
  if (v &&& (-2147483648)) = 0 then
    0
  else
    1
def x_physical (v : Int32) (a : Int32) : Int32 :=
  (((v &&& 4095) * 16) + (x_placeInPage a))
def x_isCount (k : Int32) : Int32 :=
  if k = 1 then
    1
  else
    if k = 2 then
      1
    else
      if k = 4 then
        1
      else
        0
def x_access (k : Int32) (b : Int32) : Int32 :=
  if b = 0 then
    ((((-1) : Int32) - k) - 0)
  else
    ((((-1) : Int32) - k) - 4)
def x_missing (k : Int32) (b : Int32) : Int32 :=
  if b = 0 then
    ((((-11) : Int32) - k) - 0)
  else
    ((((-11) : Int32) - k) - 4)
def x_isAccess (k : Int32) : Int32 :=
  if ((-1) : Int32) < k then
    0
  else
    if k ≤ (-11) then
      0
    else
      1
def x_gives (v : Int32) (md : Int32) (b : Int32) : Int32 :=
  if b = 0 then
    if (x_mr (((jushr v 27) &&& 15)).toNatClampNeg) < (md &&& 3) then
      0
    else
      1
  else
    if (x_mw (((jushr v 27) &&& 15)).toNatClampNeg) < (md &&& 3) then
      0
    else
      1
def x_counts (n : Nat) (σ : XS) (k : Int32) (a : Int32) : Int32 :=
  if (x_kp σ (k).toNatClampNeg) = (a / 16) then
    1
  else
    0
def x_inside (n : Nat) (σ : XS) (rg : Int32) (g : Int32) : Int32 :=
  if rg < 3 then
    if rg = 1 then
      if g < (x_len σ (rg).toNatClampNeg) then
        0
      else
        1
    else
      if (x_len σ (rg).toNatClampNeg) ≤ g then
        0
      else
        1
  else
    0
def x_inMemory (n : Nat) (σ : XS) (a : Int32) (k : Int32) : Int32 :=
  if a < 0 then
    0
  else
    if ((nI n) - k) < a then
      0
    else
      1
def x_byteAt (n : Nat) (σ : XS) (a : Int32) : Int32 :=
  ((x_mem σ (a).toNatClampNeg) &&& 255)
def x_entryAt (n : Nat) (σ : XS) (a : Int32) : Int32 :=
  ((((x_byteAt n σ a) ||| ((x_byteAt n σ (a + 1)) <<< (8 &&& 31))) ||| ((x_byteAt n σ (a + 2)) <<< (16 &&& 31))) ||| ((x_byteAt n σ (a + 3)) <<< (24 &&& 31)))
def x_entryOf (n : Nat) (σ : XS) (a : Int32) : Int64 :=
  if (x_inMemory n σ a 4) = 0 then
    (-1)
  else
    ((((x_entryAt n σ a)).toInt64) &&& 4294967295)
def x_kept (n : Nat) (σ : XS) (i : Int32) (k : Int32) : Int64 :=
  if i < 0 then
    (-1)
  else
    if (16 : Int32) ≤ i then
      (-1)
    else
      if k < 0 then
        (-1)
      else
        if k ≤ 2 then
          if (x_kp σ (i).toNatClampNeg) = (-1) then
            if k = 0 then
              0
            else
              (-1)
          else
            if k = 0 then
              1
            else
              if k = 1 then
                ((((x_kp σ (i).toNatClampNeg) * 16)).toInt64)
              else
                ((((x_ke σ (i).toNatClampNeg)).toInt64) &&& 4294967295)
        else
          (-1)
def x_failed (n : Nat) (σ : XS)  : Int32 :=
  (x_fa σ)
def x_keepEntry (n : Nat) (σ : XS) (k : Int32) (a : Int32) (v : Int32) (q : Int32) : XS :=
  (x_sKpl (x_sKe (x_sKp σ (upd (x_kp σ) ((k).toNatClampNeg) (a / 16))) (upd (x_ke (x_sKp σ (upd (x_kp σ) ((k).toNatClampNeg) (a / 16)))) ((k).toNatClampNeg) v)) (upd (x_kpl (x_sKe (x_sKp σ (upd (x_kp σ) ((k).toNatClampNeg) (a / 16))) (upd (x_ke (x_sKp σ (upd (x_kp σ) ((k).toNatClampNeg) (a / 16)))) ((k).toNatClampNeg) v))) ((k).toNatClampNeg) q))
abbrev q_x_keepEntry (dC : Nat → ClassId) (dI : Nat → Nat → Nat) (h : Nat → Nat) (cB cI : ClassId) (n : Nat) (σ : XS) (k : Int32) (a : Int32) (v : Int32) (q : Int32) (A : Nat → Prop) : Array Value → State → Outcome → State → Prop := va_Qv (fun u : XS => x_keepEntry n σ k a v q = u) (x_at dC dI h cB cI n A) A
def x_markWritten (n : Nat) (σ : XS) (k : Int32) : XS :=
  if ((x_ke σ (k).toNatClampNeg) &&& 67108864) = 0 then
    (x_sMem (x_sKe σ (upd (x_ke σ) ((k).toNatClampNeg) ((x_ke σ (k).toNatClampNeg) ||| 67108864))) (upd (x_mem (x_sKe σ (upd (x_ke σ) ((k).toNatClampNeg) ((x_ke σ (k).toNatClampNeg) ||| 67108864)))) (((((x_kpl (x_sKe σ (upd (x_ke σ) ((k).toNatClampNeg) ((x_ke σ (k).toNatClampNeg) ||| 67108864))) (k).toNatClampNeg) + 4) - 1)).toNatClampNeg) (vp_nar .byte ((((x_mem (x_sKe σ (upd (x_ke σ) ((k).toNatClampNeg) ((x_ke σ (k).toNatClampNeg) ||| 67108864))) ((((x_kpl (x_sKe σ (upd (x_ke σ) ((k).toNatClampNeg) ((x_ke σ (k).toNatClampNeg) ||| 67108864))) (k).toNatClampNeg) + 4) - 1)).toNatClampNeg) ||| 4)).toInt8.toInt32))))
  else
    σ
abbrev q_x_markWritten (dC : Nat → ClassId) (dI : Nat → Nat → Nat) (h : Nat → Nat) (cB cI : ClassId) (n : Nat) (σ : XS) (k : Int32) (A : Nat → Prop) : Array Value → State → Outcome → State → Prop := va_Qv (fun u : XS => x_markWritten n σ k = u) (x_at dC dI h cB cI n A) A
def x_noteFault (n : Nat) (σ : XS) (k : Int32) (a : Int32) : XS :=
  if k = (-100) then
    σ
  else
    (x_sFa σ a)
abbrev q_x_noteFault (dC : Nat → ClassId) (dI : Nat → Nat → Nat) (h : Nat → Nat) (cB cI : ClassId) (n : Nat) (σ : XS) (k : Int32) (a : Int32) (A : Nat → Prop) : Array Value → State → Outcome → State → Prop := va_Qv (fun u : XS => x_noteFault n σ k a = u) (x_at dC dI h cB cI n A) A
def x_forget_l1 (n : Nat) (k : Int32) : Nat → Int32 → XS → XS
  | 0, _, τ => τ
  | f + 1, i, τ =>
    if k ≤ i then
      τ
    else
      x_forget_l1 n k f (i + 1) (x_sKp τ (upd (x_kp τ) ((i).toNatClampNeg) (-1)))
def x_forget (n : Nat) (σ : XS) (k : Int32) : XS :=
  x_forget_l1 n k 17 0 σ
abbrev q_x_forget (dC : Nat → ClassId) (dI : Nat → Nat → Nat) (h : Nat → Nat) (cB cI : ClassId) (n : Nat) (σ : XS) (k : Int32) (A : Nat → Prop) : Array Value → State → Outcome → State → Prop := va_Qv (fun u : XS => x_forget n σ k = u) (x_at dC dI h cB cI n A) A
def x_placeThroughS (n : Nat) (σ : XS) (a : Int32) (b : Int32) (kp : Int32) : Int32 × XS :=
  if (x_regionOf a) = 2 then
    if (x_inside n σ 2 (x_pageOf a)) = 0 then
      ((x_access 3 b), σ)
    else
      if (x_counts n σ (x_slotOf a) a) = 0 then
        if (x_inMemory n σ ((x_bas σ (2 : Int32).toNatClampNeg) + ((4 : Int32) * (x_pageOf a))) 4) = 0 then
          ((-100), σ)
        else
          if (x_isValid (x_entryAt n σ ((x_bas σ (2 : Int32).toNatClampNeg) + ((4 : Int32) * (x_pageOf a))))) = 0 then
            ((x_missing 2 b), σ)
          else
            if kp = 0 then
              ((x_physical (x_entryAt n σ ((x_bas σ (2 : Int32).toNatClampNeg) + ((4 : Int32) * (x_pageOf a)))) a), σ)
            else
              kv (x_keepEntry n σ (x_slotOf a) a (x_entryAt n σ ((x_bas σ (2 : Int32).toNatClampNeg) + ((4 : Int32) * (x_pageOf a)))) ((x_bas σ (2 : Int32).toNatClampNeg) + ((4 : Int32) * (x_pageOf a)))) (fun t_7 =>
              ((x_physical (x_entryAt n σ ((x_bas σ (2 : Int32).toNatClampNeg) + ((4 : Int32) * (x_pageOf a)))) a), t_7))
      else
        ((x_physical (x_ke σ ((x_slotOf a)).toNatClampNeg) a), σ)
  else
    ((x_access 3 b), σ)
abbrev q_x_placeThroughS (dC : Nat → ClassId) (dI : Nat → Nat → Nat) (h : Nat → Nat) (cB cI : ClassId) (n : Nat) (σ : XS) (a : Int32) (b : Int32) (kp : Int32) (A : Nat → Prop) : Array Value → State → Outcome → State → Prop := va_Qi (fun (r : Int32) (u : XS) => x_placeThroughS n σ a b kp = (r, u)) (x_at dC dI h cB cI n A) A
def x_placeOfEntry (n : Nat) (σ : XS) (a : Int32) (b : Int32) (kp : Int32) : Int32 × XS :=
  if (x_inside n σ (x_regionOf a) (x_pageOf a)) = 0 then
    ((x_access 1 b), σ)
  else
    if (x_regionOf a) = 2 then
      if (0 : Int32) ≤ ((x_bas σ ((x_regionOf a)).toNatClampNeg) + ((4 : Int32) * (x_pageOf a))) then
        if (x_inMemory n σ ((x_bas σ ((x_regionOf a)).toNatClampNeg) + ((4 : Int32) * (x_pageOf a))) 4) = 0 then
          ((-100), σ)
        else
          (((x_bas σ ((x_regionOf a)).toNatClampNeg) + ((4 : Int32) * (x_pageOf a))), σ)
      else
        (((x_bas σ ((x_regionOf a)).toNatClampNeg) + ((4 : Int32) * (x_pageOf a))), σ)
    else
      kb (x_placeThroughS n σ (((x_bas σ ((x_regionOf a)).toNatClampNeg) + ((4 : Int32) * (x_pageOf a))) &&& 65535) b kp) (fun r_5 t_3 =>
      if (0 : Int32) ≤ r_5 then
        if (x_inMemory n t_3 r_5 4) = 0 then
          ((-100), t_3)
        else
          (r_5, t_3)
      else
        (r_5, t_3))
abbrev q_x_placeOfEntry (dC : Nat → ClassId) (dI : Nat → Nat → Nat) (h : Nat → Nat) (cB cI : ClassId) (n : Nat) (σ : XS) (a : Int32) (b : Int32) (kp : Int32) (A : Nat → Prop) : Array Value → State → Outcome → State → Prop := va_Qi (fun (r : Int32) (u : XS) => x_placeOfEntry n σ a b kp = (r, u)) (x_at dC dI h cB cI n A) A
def x_translate (n : Nat) (σ : XS) (a : Int32) (md : Int32) (b : Int32) (kp : Int32) : Int32 × XS :=
  if (x_mp σ) = 0 then
    (a, σ)
  else
    if (x_counts n σ (x_slotOf a) a) = 0 then
      kb (x_placeOfEntry n σ a b kp) (fun r_5 t_3 =>
      if (0 : Int32) ≤ r_5 then
        if (x_gives (x_entryAt n t_3 r_5) md b) = 0 then
          ((x_access 0 b), t_3)
        else
          if (x_isValid (x_entryAt n t_3 r_5)) = 0 then
            ((x_missing 0 b), t_3)
          else
            if kp = 0 then
              ((x_physical (x_entryAt n t_3 r_5) a), t_3)
            else
              kv (x_keepEntry n t_3 (x_slotOf a) a (x_entryAt n t_3 r_5) r_5) (fun t_11 =>
              if b = 0 then
                ((x_physical (x_entryAt n t_3 r_5) a), t_11)
              else
                kv (x_markWritten n t_11 (x_slotOf a)) (fun t_14 =>
                ((x_physical (x_entryAt n t_3 r_5) a), t_14)))
      else
        (r_5, t_3))
    else
      if (0 : Int32) ≤ (x_kpl σ ((x_slotOf a)).toNatClampNeg) then
        if (x_gives (x_ke σ ((x_slotOf a)).toNatClampNeg) md b) = 0 then
          ((x_access 0 b), σ)
        else
          if (x_isValid (x_ke σ ((x_slotOf a)).toNatClampNeg)) = 0 then
            ((x_missing 0 b), σ)
          else
            if kp = 0 then
              ((x_physical (x_ke σ ((x_slotOf a)).toNatClampNeg) a), σ)
            else
              kv (x_keepEntry n σ (x_slotOf a) a (x_ke σ ((x_slotOf a)).toNatClampNeg) (x_kpl σ ((x_slotOf a)).toNatClampNeg)) (fun t_21 =>
              if b = 0 then
                ((x_physical (x_ke σ ((x_slotOf a)).toNatClampNeg) a), t_21)
              else
                kv (x_markWritten n t_21 (x_slotOf a)) (fun t_24 =>
                ((x_physical (x_ke σ ((x_slotOf a)).toNatClampNeg) a), t_24)))
      else
        ((x_kpl σ ((x_slotOf a)).toNatClampNeg), σ)
abbrev q_x_translate (dC : Nat → ClassId) (dI : Nat → Nat → Nat) (h : Nat → Nat) (cB cI : ClassId) (n : Nat) (σ : XS) (a : Int32) (md : Int32) (b : Int32) (kp : Int32) (A : Nat → Prop) : Array Value → State → Outcome → State → Prop := va_Qi (fun (r : Int32) (u : XS) => x_translate n σ a md b kp = (r, u)) (x_at dC dI h cB cI n A) A
def x_findPlaces_l2 (n : Nat) (a : Int32) (ct : Int32) (md : Int32) (b : Int32) : Nat → Int32 → XS → Int32 × XS
  | 0, _, τ => (0, τ)
  | f + 1, i, τ =>
    if ct ≤ i then
      (0, τ)
    else
      if (x_inMemory n τ (x_pl τ (i).toNatClampNeg) 1) = 0 then
        ((-100), τ)
      else
        x_findPlaces_l2 n a ct md b f (i + 1) τ
def x_findPlaces_l1 (n : Nat) (a : Int32) (ct : Int32) (md : Int32) (b : Int32) : Nat → Int32 → XS → Int32 × XS
  | 0, _, τ => (0, τ)
  | f + 1, i, τ =>
    if ct ≤ i then
      x_findPlaces_l2 n a ct md b 5 0 τ
    else
      if i ≤ 0 then
        kb (x_translate n τ ((a + i) &&& 65535) md b 1) (fun r_205 t_203 =>
        if (0 : Int32) ≤ r_205 then
          x_findPlaces_l1 n a ct md b f (i + 1) (x_sPl t_203 (upd (x_pl t_203) ((i).toNatClampNeg) r_205))
        else
          kv (x_noteFault n t_203 r_205 ((a + i) &&& 65535)) (fun t_207 =>
          (r_205, t_207)))
      else
        if (x_placeInPage ((a + i) &&& 65535)) = 0 then
          kb (x_translate n τ ((a + i) &&& 65535) md b 1) (fun r_212 t_210 =>
          if (0 : Int32) ≤ r_212 then
            x_findPlaces_l1 n a ct md b f (i + 1) (x_sPl t_210 (upd (x_pl t_210) ((i).toNatClampNeg) r_212))
          else
            kv (x_noteFault n t_210 r_212 ((a + i) &&& 65535)) (fun t_214 =>
            (r_212, t_214)))
        else
          x_findPlaces_l1 n a ct md b f (i + 1) (x_sPl τ (upd (x_pl τ) ((i).toNatClampNeg) ((x_pl τ ((i - 1)).toNatClampNeg) + 1)))
def x_findPlaces (n : Nat) (σ : XS) (a : Int32) (ct : Int32) (md : Int32) (b : Int32) : Int32 × XS :=
  x_findPlaces_l1 n a ct md b 5 0 σ
abbrev q_x_findPlaces (dC : Nat → ClassId) (dI : Nat → Nat → Nat) (h : Nat → Nat) (cB cI : ClassId) (n : Nat) (σ : XS) (a : Int32) (ct : Int32) (md : Int32) (b : Int32) (A : Nat → Prop) : Array Value → State → Outcome → State → Prop := va_Qi (fun (r : Int32) (u : XS) => x_findPlaces n σ a ct md b = (r, u)) (x_at dC dI h cB cI n A) A
def x_put (n : Nat) (σ : XS) (a : Int32) (v : Int32) : Int32 × XS :=
  if (x_inMemory n σ a 1) = 0 then
    (0, σ)
  else
    (1, (x_sMem σ (upd (x_mem σ) ((a).toNatClampNeg) (vp_nar .byte ((v).toInt8.toInt32)))))
abbrev q_x_put (dC : Nat → ClassId) (dI : Nat → Nat → Nat) (h : Nat → Nat) (cB cI : ClassId) (n : Nat) (σ : XS) (a : Int32) (v : Int32) (A : Nat → Prop) : Array Value → State → Outcome → State → Prop := va_Qi (fun (r : Int32) (u : XS) => x_put n σ a v = (r, u)) (x_at dC dI h cB cI n A) A
def x_entry_l1 (n : Nat) (a : Int32) (v : Int32) : Nat → Int32 → XS → Int32 × XS
  | 0, _, τ => (0, τ)
  | f + 1, i, τ =>
    if (4 : Int32) ≤ i then
      (1, τ)
    else
      x_entry_l1 n a v f (i + 1) (x_sMem τ (upd (x_mem τ) (((a + i)).toNatClampNeg) (vp_nar .byte (((jushr v ((8 : Int32) * i))).toInt8.toInt32))))
def x_entry (n : Nat) (σ : XS) (a : Int32) (v : Int32) : Int32 × XS :=
  if (x_inMemory n σ a 4) = 0 then
    (0, σ)
  else
    x_entry_l1 n a v 5 0 σ
abbrev q_x_entry (dC : Nat → ClassId) (dI : Nat → Nat → Nat) (h : Nat → Nat) (cB cI : ClassId) (n : Nat) (σ : XS) (a : Int32) (v : Int32) (A : Nat → Prop) : Array Value → State → Outcome → State → Prop := va_Qi (fun (r : Int32) (u : XS) => x_entry n σ a v = (r, u)) (x_at dC dI h cB cI n A) A
def x_region (n : Nat) (σ : XS) (rg : Int32) (ba : Int32) (le : Int32) : Int32 × XS :=
  if rg < 0 then
    (0, σ)
  else
    if rg < 3 then
      if rg = 2 then
        kv (x_forget n (x_sLen (x_sBas σ (upd (x_bas σ) ((rg).toNatClampNeg) (ba &&& 65535))) (upd (x_len (x_sBas σ (upd (x_bas σ) ((rg).toNatClampNeg) (ba &&& 65535)))) ((rg).toNatClampNeg) (le &&& 65535))) 16) (fun t_6 =>
        (1, t_6))
      else
        kv (x_forget n (x_sLen (x_sBas σ (upd (x_bas σ) ((rg).toNatClampNeg) (ba &&& 65535))) (upd (x_len (x_sBas σ (upd (x_bas σ) ((rg).toNatClampNeg) (ba &&& 65535)))) ((rg).toNatClampNeg) (le &&& 65535))) 8) (fun t_4 =>
        (1, t_4))
    else
      (0, σ)
abbrev q_x_region (dC : Nat → ClassId) (dI : Nat → Nat → Nat) (h : Nat → Nat) (cB cI : ClassId) (n : Nat) (σ : XS) (rg : Int32) (ba : Int32) (le : Int32) (A : Nat → Prop) : Array Value → State → Outcome → State → Prop := va_Qi (fun (r : Int32) (u : XS) => x_region n σ rg ba le = (r, u)) (x_at dC dI h cB cI n A) A
def x_map (n : Nat) (σ : XS) (b : Int32) : XS :=
  kv (x_forget n (x_sMp σ b) 16) (fun t_1 =>
  t_1)
abbrev q_x_map (dC : Nat → ClassId) (dI : Nat → Nat → Nat) (h : Nat → Nat) (cB cI : ClassId) (n : Nat) (σ : XS) (b : Int32) (A : Nat → Prop) : Array Value → State → Outcome → State → Prop := va_Qv (fun u : XS => x_map n σ b = u) (x_at dC dI h cB cI n A) A
def x_drop (n : Nat) (σ : XS) (a : Int32) : Int32 × XS :=
  if (x_counts n σ (x_slotOf (a &&& 65535)) (a &&& 65535)) = 0 then
    (0, σ)
  else
    (1, (x_sKp σ (upd (x_kp σ) (((x_slotOf (a &&& 65535))).toNatClampNeg) (-1))))
abbrev q_x_drop (dC : Nat → ClassId) (dI : Nat → Nat → Nat) (h : Nat → Nat) (cB cI : ClassId) (n : Nat) (σ : XS) (a : Int32) (A : Nat → Prop) : Array Value → State → Outcome → State → Prop := va_Qi (fun (r : Int32) (u : XS) => x_drop n σ a = (r, u)) (x_at dC dI h cB cI n A) A
def x_read_l1 (n : Nat) (a : Int32) (ct : Int32) (md : Int32) : Nat → Int64 → Int32 → XS → Int64 × XS
  | 0, _, _, τ => (0, τ)
  | f + 1, v, i, τ =>
    if ct ≤ i then
      (v, τ)
    else
      x_read_l1 n a ct md f (v ||| (jlshl (((x_byteAt n τ (x_pl τ (i).toNatClampNeg))).toInt64) ((8 : Int32) * i))) (i + 1) τ
def x_read (n : Nat) (σ : XS) (a : Int32) (ct : Int32) (md : Int32) : Int64 × XS :=
  if (x_isCount ct) = 0 then
    ((-101), σ)
  else
    kb (x_findPlaces n σ a ct md 0) (fun r_4 t_2 =>
    if r_4 = 0 then
      x_read_l1 n a ct md 5 0 0 t_2
    else
      (((r_4).toInt64), t_2))
abbrev q_x_read (dC : Nat → ClassId) (dI : Nat → Nat → Nat) (h : Nat → Nat) (cB cI : ClassId) (n : Nat) (σ : XS) (a : Int32) (ct : Int32) (md : Int32) (A : Nat → Prop) : Array Value → State → Outcome → State → Prop := va_Ql (fun (r : Int64) (u : XS) => x_read n σ a ct md = (r, u)) (x_at dC dI h cB cI n A) A
def x_write_l1 (n : Nat) (a : Int32) (ct : Int32) (v : Int32) (md : Int32) : Nat → Int32 → XS → Int32 × XS
  | 0, _, τ => (0, τ)
  | f + 1, i, τ =>
    if ct ≤ i then
      (0, τ)
    else
      x_write_l1 n a ct v md f (i + 1) (x_sMem τ (upd (x_mem τ) (((x_pl τ (i).toNatClampNeg)).toNatClampNeg) (vp_nar .byte (((jushr v ((8 : Int32) * i))).toInt8.toInt32))))
def x_write (n : Nat) (σ : XS) (a : Int32) (ct : Int32) (v : Int32) (md : Int32) : Int32 × XS :=
  if (x_isCount ct) = 0 then
    ((-101), σ)
  else
    kb (x_findPlaces n σ a ct md 1) (fun r_4 t_2 =>
    if r_4 = 0 then
      x_write_l1 n a ct v md 5 0 t_2
    else
      (r_4, t_2))
abbrev q_x_write (dC : Nat → ClassId) (dI : Nat → Nat → Nat) (h : Nat → Nat) (cB cI : ClassId) (n : Nat) (σ : XS) (a : Int32) (ct : Int32) (v : Int32) (md : Int32) (A : Nat → Prop) : Array Value → State → Outcome → State → Prop := va_Qi (fun (r : Int32) (u : XS) => x_write n σ a ct v md = (r, u)) (x_at dC dI h cB cI n A) A
def x_where (n : Nat) (σ : XS) (a : Int32) (md : Int32) (b : Int32) : Int32 × XS :=
  kb (x_translate n σ (a &&& 65535) md b 0) (fun r_3 t_1 =>
  if (0 : Int32) ≤ r_3 then
    if (x_inMemory n t_1 r_3 1) = 0 then
      ((-100), t_1)
    else
      (r_3, t_1)
  else
    (r_3, t_1))
abbrev q_x_where (dC : Nat → ClassId) (dI : Nat → Nat → Nat) (h : Nat → Nat) (cB cI : ClassId) (n : Nat) (σ : XS) (a : Int32) (md : Int32) (b : Int32) (A : Nat → Prop) : Array Value → State → Outcome → State → Prop := va_Qi (fun (r : Int32) (u : XS) => x_where n σ a md b = (r, u)) (x_at dC dI h cB cI n A) A
def x_may (n : Nat) (σ : XS) (a : Int32) (md : Int32) (b : Int32) : Int32 × XS :=
  if (x_mp σ) = 0 then
    (1, σ)
  else
    if (x_counts n σ (x_slotOf (a &&& 65535)) (a &&& 65535)) = 0 then
      kb (x_placeOfEntry n σ (a &&& 65535) b 0) (fun r_5 t_3 =>
      if (0 : Int32) ≤ r_5 then
        if (x_gives (x_entryAt n t_3 r_5) md b) = 0 then
          (0, t_3)
        else
          (1, t_3)
      else
        if (x_isAccess r_5) = 0 then
          (r_5, t_3)
        else
          (0, t_3))
    else
      if (x_gives (x_ke σ ((x_slotOf (a &&& 65535))).toNatClampNeg) md b) = 0 then
        (0, σ)
      else
        (1, σ)
abbrev q_x_may (dC : Nat → ClassId) (dI : Nat → Nat → Nat) (h : Nat → Nat) (cB cI : ClassId) (n : Nat) (σ : XS) (a : Int32) (md : Int32) (b : Int32) (A : Nat → Prop) : Array Value → State → Outcome → State → Prop := va_Qi (fun (r : Int32) (u : XS) => x_may n σ a md b = (r, u)) (x_at dC dI h cB cI n A) A
end
section
-- numbers: what the class's own small methods answer
theorem x_c2 : (2 : Int32) = nI 2 := rfl
theorem x_inj {α β : Type} {a c : α} {b d : β} (e : (a, b) = (c, d)) : a = c ∧ b = d := ⟨congrArg Prod.fst e, congrArg Prod.snd e⟩
theorem x_code_in (v : Int32) : vp_in ((jushr v 27) &&& 15) 16 := pk_andIn (jushr v 27) (m := 15) 4 (by decide) (by decide)
theorem x_region_in (a : Int32) : vp_in (x_regionOf a) 4 := pk_andIn (jushr a 14) (m := 3) 2 (by decide) (by decide)
theorem x_page_nI (a : Int32) : ∃ j : Nat, j < 1024 ∧ x_pageOf a = nI j := pk_andE (jushr a 4) (m := 1023) 10 (by decide)
theorem x_mask16 (v : Int32) : ∃ K : Nat, K < 65536 ∧ v &&& 65535 = nI K := pk_andE v (m := 65535) 16 (by decide)
theorem x_slot_in (a : Int32) : vp_in (x_slotOf a) 16 := by
  obtain ⟨j, hj, e⟩ := x_page_nI a
  have h8 : nI j - nI j / 8 * 8 = nI (j % 8) := pk_rem (a := j) (d := 8) (by omega) (by decide) (by decide)
  unfold x_slotOf
  rw [e, h8]
  split
  · exact vp_in_nI (by omega) (by omega)
  · rw [show (8 : Int32) = nI 8 from rfl, nI_add]; exact vp_in_nI (by omega) (by omega)
def x_in4 (n : Nat) (a : Int32) : Prop := vp_in a n ∧ vp_in (a + 1) n ∧ vp_in (a + 2) n ∧ vp_in (a + 3) n
theorem x_in4_of {n j : Nat} (hn : n ≤ 2048) (h : j + 4 ≤ n) : x_in4 n (nI j) := by
  refine ⟨vp_in_nI (by omega) (by omega), ?_, ?_, ?_⟩
  · rw [nI_1]; exact vp_in_nI (by omega) (by omega)
  · rw [show (2 : Int32) = nI 2 from rfl, nI_add]; exact vp_in_nI (by omega) (by omega)
  · rw [show (3 : Int32) = nI 3 from rfl, nI_add]; exact vp_in_nI (by omega) (by omega)
theorem x_inM {n k : Nat} {σ : XS} {a : Int32} (hn : n ≤ 2048) (hk : k ≤ 4) (h : ¬ x_inMemory n σ a (nI k) = 0) : ∃ j : Nat, a = nI j ∧ j + k ≤ n := by
  unfold x_inMemory at h
  split at h
  · exact absurd rfl h
  · rename_i h1
    split at h
    · exact absurd rfl h
    · rename_i h2
      obtain ⟨j, hj, rfl⟩ := nI_of h1
      refine ⟨j, rfl, ?_⟩
      rw [Int32.lt_iff_toInt_lt, pk_sub_toInt (by omega) (by omega), nI_toInt hj] at h2
      omega
theorem x_inM1 {n : Nat} {σ : XS} {a : Int32} (hn : n ≤ 2048) (h : ¬ x_inMemory n σ a 1 = 0) : vp_in a n := by
  obtain ⟨j, rfl, hj⟩ := x_inM (k := 1) hn (by decide) h
  exact vp_in_nI (by omega) (by omega)
theorem x_inM4 {n : Nat} {σ : XS} {a : Int32} (hn : n ≤ 2048) (h : ¬ x_inMemory n σ a 4 = 0) : x_in4 n a := by
  obtain ⟨j, rfl, hj⟩ := x_inM (k := 4) hn (by decide) h
  exact x_in4_of hn hj
theorem x_r3 {r : Int32} (hk : vp_in r 4) (c : r < 3) : vp_in r 3 := by
  obtain ⟨j, hj, rfl⟩ := vp_in_of hk (by decide)
  exact vp_in_nI ((nI_ltI (b := 3) (by omega) (by decide)).mp c) (by decide)
theorem x_i16 {i : Int32} (h1 : ¬ i < 0) (h2 : ¬ 16 ≤ i) : vp_in i 16 := by
  obtain ⟨j, hj, rfl⟩ := nI_of h1
  refine vp_in_nI ?_ (by decide)
  rcases Nat.lt_or_ge j 16 with q | q
  · exact q
  · exact absurd (nI_le q hj) h2
theorem x_r3b {r : Int32} (h1 : ¬ r < 0) (h2 : r < 3) : vp_in r 3 := by
  obtain ⟨j, hj, rfl⟩ := nI_of h1
  exact vp_in_nI ((nI_ltI (b := 3) hj (by decide)).mp h2) (by decide)
theorem x_ltK {k i : Int32} {M j : Nat} (hk : ∃ K : Nat, K ≤ M ∧ k = nI K) (hj : j ≤ M) (ej : i = nI j) (hM : M < 2 ^ 31) (c : ¬ k ≤ i) : j < M := by
  obtain ⟨K, hK, rfl⟩ := hk
  subst ej
  rcases Nat.lt_or_ge j K with q | q
  · omega
  · exact absurd (nI_le q (by omega)) c
theorem x_inside_lt {n : Nat} {σ : XS} {r g : Int32} (hk : vp_in r 4) (c : ¬ x_inside n σ r g = 0) : vp_in r 3 := by
  unfold x_inside at c
  split at c
  · rename_i h; exact x_r3 hk h
  · exact absurd rfl c
theorem x_acc1 (b : Int32) : ¬ (0 : Int32) ≤ x_access 1 b := by unfold x_access; split <;> decide
theorem x_acc3 (b : Int32) : ¬ (0 : Int32) ≤ x_access 3 b := by unfold x_access; split <;> decide
theorem x_poe_in {n : Nat} {σ τ : XS} {a b k r : Int32} (hn : n ≤ 2048) (e : x_placeOfEntry n σ a b k = (r, τ)) (c : 0 ≤ r) : x_in4 n r := by
  unfold x_placeOfEntry kb at e
  dsimp only at e
  split at e
  · obtain ⟨rfl, rfl⟩ := x_inj e; exact absurd c (x_acc1 b)
  · split at e
    · split at e
      · split at e
        · obtain ⟨rfl, rfl⟩ := x_inj e; exact absurd c (by decide)
        · rename_i h; obtain ⟨rfl, rfl⟩ := x_inj e; exact x_inM4 hn h
      · rename_i h; obtain ⟨rfl, rfl⟩ := x_inj e; exact absurd c h
    · split at e
      · split at e
        · obtain ⟨rfl, rfl⟩ := x_inj e; exact absurd c (by decide)
        · rename_i h; obtain ⟨rfl, rfl⟩ := x_inj e; exact x_inM4 hn h
      · rename_i h; obtain ⟨rfl, rfl⟩ := x_inj e; exact absurd c h
-- every kept entry's place lies in memory
def x_Inv (n : Nat) (σ : XS) : Prop := ∀ j, j < 16 → x_kp σ j = -1 ∨ x_in4 n (x_kpl σ j)
theorem x_nm1 {m : Nat} (h : m < 2 ^ 31) : ¬ nI m = -1 := fun e => by
  have := congrArg Int32.toInt e
  rw [nI_toInt h] at this
  have h2 : (-1 : Int32).toInt = -1 := by decide
  omega
theorem x_inv_at {n : Nat} {σ : XS} {a : Int32} (hI : x_Inv n σ) (ha : ∃ K : Nat, K < 65536 ∧ a = nI K) (c : ¬ x_counts n σ (x_slotOf a) a = 0) : x_in4 n (x_kpl σ (x_slotOf a).toNatClampNeg) := by
  obtain ⟨j, hj, e⟩ := vp_in_of (x_slot_in a) (by decide)
  rw [e] at c ⊢
  obtain ⟨K, hK, rfl⟩ := ha
  unfold x_counts at c
  split at c
  · rename_i h
    rw [nI_clamp (by omega)] at h ⊢
    rcases hI j hj with q | q
    · rw [q, show (16 : Int32) = nI 16 from rfl, pk_div (by omega) (by decide) (by decide)] at h
      exact absurd h.symm (x_nm1 (by omega))
    · exact q
  · exact absurd rfl c
theorem x_keep_kpl {n : Nat} {σ τ : XS} {k a v q : Int32} (e : x_keepEntry n σ k a v q = τ) : x_kpl τ k.toNatClampNeg = q := by
  subst e
  show upd _ _ _ _ = q
  simp [upd]
theorem x_q3 (q : Int32) : q + 4 - 1 = q + 3 := by
  rw [Int32.sub_eq_add_neg, Int32.add_assoc]; rfl
theorem x_mark_in {n : Nat} {σ τ : XS} {k a v q : Int32} (hk : vp_in k 16) (hq : x_in4 n q) (e : x_keepEntry n σ k a v q = τ) : vp_in (x_kpl τ k.toNatClampNeg + 4 - 1) n := by
  rw [x_keep_kpl e, x_q3]
  exact hq.2.2.2
theorem x_keep_inv {n : Nat} {σ τ : XS} {k a v q : Int32} (hI : x_Inv n σ) (hq : x_in4 n q) (e : x_keepEntry n σ k a v q = τ) : x_Inv n τ := by
  subst e
  intro j hj
  show upd (x_kp σ) _ _ j = -1 ∨ x_in4 n (upd (x_kpl σ) _ _ j)
  by_cases h : j = k.toNatClampNeg
  · right; simp [upd, h]; exact hq
  · rcases hI j hj with z | z
    · left; simp [upd, h]; exact z
    · right; simp [upd, h]; exact z
theorem x_mark_inv {n : Nat} {σ τ : XS} {k : Int32} (hI : x_Inv n σ) (e : x_markWritten n σ k = τ) : x_Inv n τ := by
  unfold x_markWritten at e
  split at e
  · subst e; exact hI
  · subst e; exact hI
theorem x_pts_inv {n : Nat} {σ τ : XS} {a b k r : Int32} (hn : n ≤ 2048) (hI : x_Inv n σ) (e : x_placeThroughS n σ a b k = (r, τ)) : x_Inv n τ := by
  unfold x_placeThroughS kv at e
  dsimp only at e
  split at e
  · split at e
    · obtain ⟨-, rfl⟩ := x_inj e; exact hI
    · split at e
      · split at e
        · obtain ⟨-, rfl⟩ := x_inj e; exact hI
        · rename_i h
          split at e
          · obtain ⟨-, rfl⟩ := x_inj e; exact hI
          · split at e
            · obtain ⟨-, rfl⟩ := x_inj e; exact hI
            · obtain ⟨-, rfl⟩ := x_inj e; exact x_keep_inv hI (x_inM4 hn h) rfl
      · obtain ⟨-, rfl⟩ := x_inj e; exact hI
  · obtain ⟨-, rfl⟩ := x_inj e; exact hI
theorem x_poe_inv {n : Nat} {σ τ : XS} {a b k r : Int32} (hn : n ≤ 2048) (hI : x_Inv n σ) (e : x_placeOfEntry n σ a b k = (r, τ)) : x_Inv n τ := by
  unfold x_placeOfEntry kb at e
  dsimp only at e
  split at e
  · obtain ⟨-, rfl⟩ := x_inj e; exact hI
  · split at e
    · split at e
      · split at e
        · obtain ⟨-, rfl⟩ := x_inj e; exact hI
        · obtain ⟨-, rfl⟩ := x_inj e; exact hI
      · obtain ⟨-, rfl⟩ := x_inj e; exact hI
    · split at e
      · split at e
        · obtain ⟨-, rfl⟩ := x_inj e; exact x_pts_inv hn hI rfl
        · obtain ⟨-, rfl⟩ := x_inj e; exact x_pts_inv hn hI rfl
      · obtain ⟨-, rfl⟩ := x_inj e; exact x_pts_inv hn hI rfl
theorem x_tr_inv {n : Nat} {σ τ : XS} {a md b k r : Int32} (hn : n ≤ 2048) (hI : x_Inv n σ) (ha : ∃ K : Nat, K < 65536 ∧ a = nI K) (e : x_translate n σ a md b k = (r, τ)) : x_Inv n τ := by
  unfold x_translate kb kv at e
  dsimp only at e
  split at e
  · obtain ⟨-, rfl⟩ := x_inj e; exact hI
  · split at e
    · have hI2 : x_Inv n (x_placeOfEntry n σ a b k).2 := x_poe_inv hn hI rfl
      split at e
      · rename_i h
        have h4 : x_in4 n (x_placeOfEntry n σ a b k).1 := x_poe_in hn rfl h
        split at e
        · obtain ⟨-, rfl⟩ := x_inj e; exact hI2
        · split at e
          · obtain ⟨-, rfl⟩ := x_inj e; exact hI2
          · split at e
            · obtain ⟨-, rfl⟩ := x_inj e; exact hI2
            · split at e
              · obtain ⟨-, rfl⟩ := x_inj e; exact x_keep_inv hI2 h4 rfl
              · obtain ⟨-, rfl⟩ := x_inj e; exact x_mark_inv (x_keep_inv hI2 h4 rfl) rfl
      · obtain ⟨-, rfl⟩ := x_inj e; exact hI2
    · rename_i hc
      have h4 := x_inv_at hI ha hc
      split at e
      · split at e
        · obtain ⟨-, rfl⟩ := x_inj e; exact hI
        · split at e
          · obtain ⟨-, rfl⟩ := x_inj e; exact hI
          · split at e
            · obtain ⟨-, rfl⟩ := x_inj e; exact hI
            · split at e
              · obtain ⟨-, rfl⟩ := x_inj e; exact x_keep_inv hI h4 rfl
              · obtain ⟨-, rfl⟩ := x_inj e; exact x_mark_inv (x_keep_inv hI h4 rfl) rfl
      · obtain ⟨-, rfl⟩ := x_inj e; exact hI
theorem x_cnt4 {k : Int32} (c : ¬ x_isCount k = 0) : ∃ K : Nat, K ≤ 4 ∧ k = nI K := by
  unfold x_isCount at c
  split at c
  · exact ⟨1, by omega, by assumption⟩
  · split at c
    · exact ⟨2, by omega, by assumption⟩
    · split at c
      · exact ⟨4, by omega, by assumption⟩
      · exact absurd rfl c
theorem x_im1 {i : Int32} {j : Nat} (ej : i = nI j) (hlt : j < 4) (c : ¬ i ≤ 0) : vp_in (i - 1) 4 := by
  subst ej
  have h0 : 0 < j := by
    rcases Nat.eq_zero_or_pos j with q | q
    · subst q; exact absurd (by decide) c
    · exact q
  rw [show (1 : Int32) = nI 1 from rfl, pk_sub (by omega)]
  exact vp_in_nI (by omega) (by decide)
theorem x_in4_at {n j : Nat} {a i : Int32} (h4 : x_in4 n a) (ej : i = nI j) (hlt : j < 4) : vp_in (a + i) n := by
  subst ej
  obtain ⟨h0, h1, h2, h3⟩ := h4
  rcases (show j = 0 ∨ j = 1 ∨ j = 2 ∨ j = 3 by omega) with rfl | rfl | rfl | rfl
  · rw [nI_0, Int32.add_zero]; exact h0
  · exact h1
  · exact h2
  · exact h3
theorem x_nb {b : Int32} (h : b = 0 ∨ b = 1) : narrow .boolean (.int b) = .int b := by rcases h with rfl | rfl <;> rfl
theorem x_fb {b : Int32} (h : b = 0 ∨ b = 1) : fits .boolean (.int b) = true := by rcases h with rfl | rfl <;> rfl
theorem x_plat {n j : Nat} {i ct : Int32} {f : Nat → Int32} (ej : i = nI j) (hlt : j < 4) (hq : ∀ q : Nat, q < 4 → nI q < ct → vp_in (f q) n) (c : ¬ ct ≤ i) : vp_in (f i.toNatClampNeg) n := by
  subst ej
  rw [nI_clamp (by omega)]
  exact hq j hlt (Int32.not_le.mp c)
theorem x_fp2 {n : Nat} {a ct md b : Int32} (hn : n ≤ 2048) : ∀ (f j : Nat) (τ τ2 : XS), j ≤ 4 → 5 ≤ j + f → x_findPlaces_l2 n a ct md b f (nI j) τ = (0, τ2) → τ2 = τ ∧ ∀ q : Nat, j ≤ q → q < 4 → nI q < ct → vp_in (x_pl τ q) n := by
  intro f
  induction f with
  | zero => intro j τ τ2 h1 h2; omega
  | succ f ih =>
    intro j τ τ2 h1 h2 e
    unfold x_findPlaces_l2 at e
    split at e
    · rename_i h
      obtain ⟨-, rfl⟩ := x_inj e
      refine ⟨rfl, fun q hq hq4 hc => ?_⟩
      exact absurd (Int32.le_trans h (nI_le hq (by omega))) (Int32.not_le.mpr hc)
    · rename_i h
      split at e
      · exact absurd (x_inj e).1 (by decide)
      · rename_i hm
        have hj4 : j < 4 ∨ j = 4 := by omega
        rw [nI_1] at e
        rcases hj4 with hj | hj
        · obtain ⟨e1, e2⟩ := ih (j + 1) τ τ2 (by omega) (by omega) e
          refine ⟨e1, fun q hq hq4 hc => ?_⟩
          rcases (show q = j ∨ j + 1 ≤ q by omega) with rfl | hq
          · rw [nI_clamp (by omega)] at hm
            exact x_inM1 hn hm
          · exact e2 q hq hq4 hc
        · subst hj
          have hf0 : ∀ (f : Nat) (i : Int32) (τ τ2 : XS), x_findPlaces_l2 n a ct md b f i τ = (0, τ2) → τ2 = τ := by
            intro f
            induction f with
            | zero => intro i τ τ2 e; exact (x_inj e).2.symm
            | succ f ih =>
              intro i τ τ2 e
              unfold x_findPlaces_l2 at e
              split at e
              · exact (x_inj e).2.symm
              · split at e
                · exact absurd (x_inj e).1 (by decide)
                · exact ih _ _ _ e
          exact ⟨hf0 _ _ _ _ e, fun q hq hq4 => by omega⟩
theorem x_fp1 {n : Nat} {a ct md b : Int32} (hn : n ≤ 2048) (hc : ∃ K : Nat, K ≤ 4 ∧ ct = nI K) : ∀ (f j : Nat) (τ τ2 : XS), j ≤ 4 → 5 ≤ j + f → x_findPlaces_l1 n a ct md b f (nI j) τ = (0, τ2) → ∀ q : Nat, q < 4 → nI q < ct → vp_in (x_pl τ2 q) n := by
  intro f
  induction f with
  | zero => intro j τ τ2 h1 h2; omega
  | succ f ih =>
    intro j τ τ2 h1 h2 e
    unfold x_findPlaces_l1 kb kv at e
    dsimp only at e
    split at e
    · obtain ⟨rfl, e2⟩ := x_fp2 hn 5 0 τ τ2 (by omega) (by omega) e
      exact fun q hq => e2 q (Nat.zero_le _) hq
    · rename_i h
      have hlt := x_ltK hc h1 rfl (by omega) h
      rw [nI_1] at e
      split at e
      · split at e
        · exact ih (j + 1) _ τ2 (by omega) (by omega) e
        · rename_i h3
          exact absurd (by rw [(x_inj e).1]; decide) h3
      · split at e
        · split at e
          · exact ih (j + 1) _ τ2 (by omega) (by omega) e
          · rename_i h3
            exact absurd (by rw [(x_inj e).1]; decide) h3
        · exact ih (j + 1) _ τ2 (by omega) (by omega) e
theorem x_fp_in {n : Nat} {σ τ : XS} {a ct md b r : Int32} (hn : n ≤ 2048) (hI : x_Inv n σ) (c : ¬ x_isCount ct = 0) (e : x_findPlaces n σ a ct md b = (r, τ)) (c0 : r = 0) : ∀ q : Nat, q < 4 → nI q < ct → vp_in (x_pl τ q) n := by
  subst c0
  exact x_fp1 hn (x_cnt4 c) 5 0 σ τ (by omega) (by omega) e
end
section
set_option maxHeartbeats 4000000 in
set_option maxRecDepth 100000 in
theorem c_j_fill (l : Launch) (dC : Nat → ClassId) (dI : Nat → Nat → Nat) (h : Nat → Nat) (cI : ClassId) (N : Nat) (sz : Nat) (σ : (Nat → Int32)) (v : Int32) (hN : N < 1000) : Met l yJ_fill wsJ_fill ({ frames := 0, cells := 0, slots := 0, locals := 0 }) (va_Pc [.ref (h 0), .int v] (j_BM dC dI h cI N sz σ)) (q_j_fill dC dI h cI N σ v (va_A (j_ws h cI N σ) sz)) 0 0 (va_A (j_ws h cI N σ) sz) := by
  refine Met.ofW (cc := cJ_fill) (maxL := 4) (ret := none) (by decide) rfl ?_
  intro p e s m args below meth c s₁ B hml hv
  obtain ⟨rfl, hsz, hP, hK, hD0⟩ := hv
  have hx := B.exec
  have hb := B.bytes
  have hr := B.returns
  have hts : ∀ w ∈ ([] : List Cond), w.before _ s = true := fun w h => atoms_spec (ws := wsJ_fill) B.pre w (List.mem_cons_of_mem _ h)
  have hown : s.vm.findClass RJ = some m.cls := findClass_of_methodNamed B.named
  have hlocks := B.notSynchronized
  subst hsz
  have hD := hD0.self (sz := s.heap.size)
  generalize hAe : va_A (j_ws h cI N σ) s.heap.size = A at hD ⊢
  have hA : ∀ q : Nat, s.heap.size ≤ q → A q := fun q h => by rw [← hAe]; exact Or.inr h
  have hS : va_S A s.heap s.heap [] := va_S.rf
  have hP : va_P (dC, dI) vwCl (j_ws h cI N σ) s.heap := hP
  have hl := lv_entry ([.ref (h 0), .int v]) (n := 4) (Nat.le_of_ble_eq_true rfl)
  rw [lg_entry_eq]
  generalize (lg_sl ([.ref (h 0), .int v]) ++ List.replicate (4 - (lg_sl ([.ref (h 0), .int v])).length) Slot.unset).toArray = ls at hl ⊢
  have hl : lv_has ls 4 [(0, .ref (h 0)), (1, .int v)] := hl
  have key_l1 : ∀ (f j : Nat) (i : Int32) (ln : Int32) (τ : (Nat → Int32)) (H : Heap) (locs : List Loc) (ls : Array Slot), (i = nI j) → (ln = nI N) → (j ≤ N) → (1000 ≤ j + f) → j_fill N σ v = j_fill_l1 N v f i ln τ → va_P (dC, dI) vwCl (j_ws h cI N τ) H → va_D A (j_ws h cI N τ) → va_S A s.heap H locs → lv_has ls 4 [(2, .int i), (3, .int ln), (0, .ref (h 0)), (1, .int v)] → W p l e (headSpec wsJ_fill ({ frames := 0, cells := 0, slots := 0, locals := 0 })).room s m ([.ref (h 0), .int v] : List Value).toArray below meth c H locs 0 0 (MQ below (q_j_fill dC dI h cI N σ v A) ([.ref (h 0), .int v] : List Value).toArray s 0 0 A) (F0 m 5 ls []) := by
    intro f
    induction f with
    | zero => intro j i ln τ H locs ls ej el hj hf; exact absurd hf (by omega)
    | succ f ih =>
      intro j i ln τ H locs ls ej el hj hf hm hP hD hS hl
      refine lv_iload_n hx hb dJ_fill_5 rfl (lv_at hl 0 rfl) ?_
      refine lv_iload_n hx hb dJ_fill_6 rfl (lv_at hl 1 rfl) ?_
      refine lv_icmp_ge (tgt := 20) hx hb dJ_fill_7 (by decide) (fun c_101 => ?_) (fun c_101 => ?_)
      · exact W.vret hx hb hr (fun t ht hW => ⟨⟨τ, rfl, hm.trans ((if_pos c_101).trans rfl), by rw [ht]; exact hP, va_K.moved hW.alike hK, hD⟩, hS.F ht⟩) hS.2.2 dJ_fill_20
      · have hlt : j < N := x_ltK ⟨N, Nat.le_refl N, el⟩ hj ej (by omega) c_101
        refine lv_aload_n hx hb dJ_fill_10 rfl (lv_at hl 2 rfl) ?_
        refine lv_iload_n hx hb dJ_fill_11 rfl (lv_at hl 0 rfl) ?_
        refine lv_iload_n hx hb dJ_fill_12 rfl (lv_at hl 3 rfl) ?_
        refine va_iast hx hb hK hP hD hS 0 0 rfl rfl (by rw [ej]; exact vp_in_nI hlt (by omega)) dJ_fill_13 (fun H locs hP hD hS => ?_)
        have hP : va_P (dC, dI) vwCl (j_ws h cI N (j_sA τ (upd (j_a τ) ((i).toNatClampNeg) v))) H := hP
        have hD : va_D A (j_ws h cI N (j_sA τ (upd (j_a τ) ((i).toNatClampNeg) v))) := hD
        refine lv_iinc (v := (i + 1)) (lv' := [(2, .int (i + 1)), (3, .int ln), (0, .ref (h 0)), (1, .int v)]) hx hb dJ_fill_14 hl (k := 0) rfl rfl (by decide) rfl (fun ls hl => ?_)
        refine lv_goto (tgt := 5) hx hb dJ_fill_17 (by decide) ?_
        exact ih (j + 1) (i + 1) ln (j_sA τ (upd (j_a τ) ((i).toNatClampNeg) v)) _ _ _ (by rw [ej]; exact nI_1 j) el (by omega) (by omega) (hm.trans ((if_neg c_101).trans rfl)) hP hD hS (lv_sub hl [0, 1, 2, 3] rfl)
  refine lv_iconst (v := 0) hx hb dJ_fill_0 (by decide) ?_
  refine lv_istore_n (lv' := [(2, .int 0), (0, .ref (h 0)), (1, .int v)]) hx hb dJ_fill_1 rfl hl (by decide) rfl (fun ls hl => ?_)
  refine lv_aload_n hx hb dJ_fill_2 rfl (lv_at hl 1 rfl) ?_
  refine va_alen (v := (nI N)) hx hb hK hP 0 0 rfl rfl rfl dJ_fill_3 ?_
  refine lv_istore_n (lv' := [(3, .int (nI N)), (2, .int 0), (0, .ref (h 0)), (1, .int v)]) hx hb dJ_fill_4 rfl hl (by decide) rfl (fun ls hl => ?_)
  exact key_l1 1000 0 0 (nI N) σ _ _ _ nI_0.symm rfl (by omega) (by omega) (rfl) hP hD hS (lv_sub hl [1, 0, 2, 3] rfl)
end
section
theorem x_pages {v : Int32} (h1 : ¬ v < 4) (h2 : ¬ (128 : Int32) < v) : ∃ K : Nat, v = nI K ∧ 4 ≤ K ∧ K ≤ 128 := by
  have h0 : ¬ v < 0 := fun h => h1 (Int32.lt_trans h (by decide))
  obtain ⟨K, hK, rfl⟩ := nI_of h0
  refine ⟨K, rfl, ?_, ?_⟩
  · rcases Nat.lt_or_ge K 4 with q | q
    · exact absurd (nI_lt q (by decide)) h1
    · exact q
  · rcases Nat.lt_or_ge 128 K with q | q
    · exact absurd (nI_lt q hK) h2
    · exact q
def x_n (v : Int32) : Nat := (if v < 4 then (32 : Int32) else if (128 : Int32) < v then 32 else v).toNatClampNeg * 16
def x_kp0 : Nat → Int32 := j_fill 16 (fun _ => 0) (-1)
def x_init : XS := (fun _ => 0, fun _ => 0, fun _ => 0, x_kp0, fun _ => 0, fun _ => 0, fun _ => 0, 0, -1)
theorem x_n_of {v : Int32} {K : Nat} (h : (if v < 4 then (32 : Int32) else if (128 : Int32) < v then 32 else v) = nI K) (hK : K ≤ 128) : x_n v = K * 16 := by unfold x_n; rw [h, nI_clamp (by omega)]
abbrev x_w0 (h0 : Nat) : va_W := [(h0, .inr (0, [.null, .null, .null, .int 0, .int 0, .null, .null, .null, .null]))]
abbrev x_atI (dC : Nat → ClassId) (dI : Nat → Nat → Nat) (n : Nat) (A : Nat → Prop) (u : (Nat → Nat) × ClassId × ClassId) (t : State) : Prop := va_P (dC, dI) vwCl (x_ws u.1 u.2.1 u.2.2 n x_init) t.heap ∧ va_K (dC, dI) vwCl (x_tys u.2.1 u.2.2) t ∧ va_D A (x_ws u.1 u.2.1 u.2.2 n x_init)
set_option maxHeartbeats 8000000 in
set_option maxRecDepth 100000 in
theorem c_x_init (l : Launch) (dC : Nat → ClassId) (dI : Nat → Nat → Nat) (h0 : Nat) (sz : Nat) (p0 : Int32) : Met l yX0_init wsX0_init ({ frames := 1, cells := 7, slots := 2106, locals := 23 }) (va_Pc [.ref h0, .int p0] (fun U => U.heap.size = sz ∧ va_P (dC, dI) vwCl (x_w0 h0) U.heap ∧ va_K (dC, dI) vwCl [] U ∧ va_D (fun _ => True) (x_w0 h0))) (va_Qv (fun u : (Nat → Nat) × ClassId × ClassId => u.1 0 = h0) (x_atI dC dI (x_n p0) (va_A (x_w0 h0) sz)) (va_A (x_w0 h0) sz)) 7 2106 (va_A (x_w0 h0) sz) := by
  refine Met.ofW (cc := cX0_init) (maxL := 3) (ret := none) (by decide) rfl ?_
  intro p e s m args below meth c s₁ B hml hv
  obtain ⟨rfl, hsz, hP, hK, hD0⟩ := hv
  have hx := B.exec
  have hb := B.bytes
  have hr := B.returns
  have hts : ∀ w ∈ bX0, w.before _ s = true := fun w h => atoms_spec (ws := wsX0_init) B.pre w (List.mem_cons_of_mem _ h)
  have hown : s.vm.findClass RX0 = some m.cls := findClass_of_methodNamed B.named
  have hlocks := B.notSynchronized
  have hin : meth.name = "<init>" := (name_of_methodNamed B.named B.method).1
  subst hsz
  have hD := hD0.self (sz := s.heap.size)
  generalize hAe : va_A (x_w0 h0) s.heap.size = A at hD ⊢
  have hA : ∀ q : Nat, s.heap.size ≤ q → A q := fun q h => by rw [← hAe]; exact Or.inr h
  have hS : va_S A s.heap s.heap [] := va_S.rf
  have hP : va_P (dC, dI) vwCl (x_w0 h0) s.heap := hP
  have tail : ∀ (K : Nat) (v : Int32) (ls : Array Slot), v = nI K → 4 ≤ K → K ≤ 128 → x_n p0 = K * 16 → lv_has ls 3 [(2, .int v), (0, .ref h0), (1, .int p0)] → W p l e (headSpec wsX0_init ({ frames := 1, cells := 7, slots := 2106, locals := 23 })).room s m ([.ref h0, .int p0] : List Value).toArray below meth c s.heap [] 0 0 (MQ below (va_Qv (fun u : (Nat → Nat) × ClassId × ClassId => u.1 0 = h0) (x_atI dC dI (x_n p0) A) A) ([.ref h0, .int p0] : List Value).toArray s 7 2106 A) (F0 m 23 ls []) := by
    intro K v ls ev hK4 hK8 en hl
    refine lv_aload_n hx hb dX0_init_23 rfl (lv_at hl 1 rfl) ?_
    refine lv_iload_n hx hb dX0_init_24 rfl (lv_at hl 0 rfl) ?_
    refine lv_bipush (v := 16) hx hb dX0_init_25 (by decide) ?_
    refine lv_imul hx hb dX0_init_27 ?_
    have ek : v * 16 = nI (K * 16) := by rw [ev, show (16 : Int32) = nI 16 from rfl, pk_mul]
    rw [ek]
    have hn0 : ¬ nI (K * 16) < 0 := nI_pos (by omega)
    have hnN : (nI (K * 16)).toNatClampNeg = K * 16 := nI_clamp (by omega)
    have hc_1 : 0 + 1 ≤ 7 := by decide
    have hs_1 : 0 + K * 16 ≤ 2106 := by omega
    refine va_newa (atype := .byte) (ty := .byte) (a0 := ((K * 16), .inl (fun _ => 0))) hx hb (hts _ bX0_18) rfl hK hP hD hS hA (fun cA => rfl) hn0 hnN (by show K * 16 * 1 ≤ 536870912; omega) hc_1 hs_1 dX0_init_28 (fun q1 a1 H hK hP hD hS => ?_)
    have hK : va_K (dC, dI) vwCl [(a1, .byte)] s := hK
    have hP : va_P (dC, dI) vwCl [(h0, .inr (0, [.null, .null, .null, .int 0, .int 0, .null, .null, .null, .null])), (q1, .inl (a1, (K * 16), .inl (fun _ => 0)))] H := hP
    have hD : va_D A [(h0, .inr (0, [.null, .null, .null, .int 0, .int 0, .null, .null, .null, .null])), (q1, .inl (a1, (K * 16), .inl (fun _ => 0)))] := hD
    refine W.widen (k := 1) (n := 2048) (by omega) (by omega) ?_
    refine va_putF (D := (dC, dI)) (ci := 0) (v := .ref q1) (ty := .array .byte) (C := RX0) (T := TX0) (N := 9) hx hb hts inbX0 tyX0 tyX0_ok nmX0 hown hK hP hD hS 0 rfl rfl 0 (by decide) (hts _ bX0_0) (fun _ h9 => h9) rfl hin rfl (by decide +kernel) rfl rfl (Nat.le_of_ble_eq_true rfl) dX0_init_30 (fun H locs hP hD hS => ?_)
    have hP : va_P (dC, dI) vwCl [(h0, .inr (0, [.ref q1, .null, .null, .int 0, .int 0, .null, .null, .null, .null])), (q1, .inl (a1, (K * 16), .inl (fun _ => 0)))] H := hP
    have hD : va_D A [(h0, .inr (0, [.ref q1, .null, .null, .int 0, .int 0, .null, .null, .null, .null])), (q1, .inl (a1, (K * 16), .inl (fun _ => 0)))] := hD
    refine lv_aload_n hx hb dX0_init_33 rfl (lv_at hl 1 rfl) ?_
    refine lv_iconst (v := 3) hx hb dX0_init_34 (by decide) ?_
    have hc_2 : 1 + 1 ≤ 7 := by decide
    have hs_2 : 2048 + 3 ≤ 2106 := by decide
    refine va_newa (atype := .int) (ty := .int) (a0 := (3, .inl (fun _ => 0))) hx hb (hts _ bX0_19) rfl hK hP hD hS hA (fun cA => rfl) (by decide) rfl (by decide) hc_2 hs_2 dX0_init_35 (fun q2 a2 H hK hP hD hS => ?_)
    have hK : va_K (dC, dI) vwCl [(a1, .byte), (a2, .int)] s := hK
    have hP : va_P (dC, dI) vwCl [(h0, .inr (0, [.ref q1, .null, .null, .int 0, .int 0, .null, .null, .null, .null])), (q1, .inl (a1, (K * 16), .inl (fun _ => 0))), (q2, .inl (a2, 3, .inl (fun _ => 0)))] H := hP
    have hD : va_D A [(h0, .inr (0, [.ref q1, .null, .null, .int 0, .int 0, .null, .null, .null, .null])), (q1, .inl (a1, (K * 16), .inl (fun _ => 0))), (q2, .inl (a2, 3, .inl (fun _ => 0)))] := hD
    refine W.widen (k := 2) (n := 2051) (by omega) (by omega) ?_
    refine va_putF (D := (dC, dI)) (ci := 0) (v := .ref q2) (ty := .array .int) (C := RX0) (T := TX0) (N := 9) hx hb hts inbX0 tyX0 tyX0_ok nmX0 hown hK hP hD hS 0 rfl rfl 1 (by decide) (hts _ bX0_1) (fun _ h9 => h9) rfl hin rfl (by decide +kernel) rfl rfl (Nat.le_of_ble_eq_true rfl) dX0_init_37 (fun H locs hP hD hS => ?_)
    have hP : va_P (dC, dI) vwCl [(h0, .inr (0, [.ref q1, .ref q2, .null, .int 0, .int 0, .null, .null, .null, .null])), (q1, .inl (a1, (K * 16), .inl (fun _ => 0))), (q2, .inl (a2, 3, .inl (fun _ => 0)))] H := hP
    have hD : va_D A [(h0, .inr (0, [.ref q1, .ref q2, .null, .int 0, .int 0, .null, .null, .null, .null])), (q1, .inl (a1, (K * 16), .inl (fun _ => 0))), (q2, .inl (a2, 3, .inl (fun _ => 0)))] := hD
    refine lv_aload_n hx hb dX0_init_40 rfl (lv_at hl 1 rfl) ?_
    refine lv_iconst (v := 3) hx hb dX0_init_41 (by decide) ?_
    have hc_3 : 2 + 1 ≤ 7 := by decide
    have hs_3 : 2051 + 3 ≤ 2106 := by decide
    refine va_newa (atype := .int) (ty := .int) (a0 := (3, .inl (fun _ => 0))) hx hb (hts _ bX0_19) rfl hK hP hD hS hA (fun cA => rfl) (by decide) rfl (by decide) hc_3 hs_3 dX0_init_42 (fun q3 a3 H hK hP hD hS => ?_)
    have hK : va_K (dC, dI) vwCl [(a1, .byte), (a2, .int), (a3, .int)] s := hK
    obtain rfl : a2 = a3 := Option.some.inj ((hK.2 1 _ rfl).2.symm.trans (hK.2 2 _ rfl).2)
    have hK : va_K (dC, dI) vwCl [(a1, .byte), (a2, .int)] s := hK.sub [0, 1] rfl
    have hP : va_P (dC, dI) vwCl [(h0, .inr (0, [.ref q1, .ref q2, .null, .int 0, .int 0, .null, .null, .null, .null])), (q1, .inl (a1, (K * 16), .inl (fun _ => 0))), (q2, .inl (a2, 3, .inl (fun _ => 0))), (q3, .inl (a2, 3, .inl (fun _ => 0)))] H := hP
    have hD : va_D A [(h0, .inr (0, [.ref q1, .ref q2, .null, .int 0, .int 0, .null, .null, .null, .null])), (q1, .inl (a1, (K * 16), .inl (fun _ => 0))), (q2, .inl (a2, 3, .inl (fun _ => 0))), (q3, .inl (a2, 3, .inl (fun _ => 0)))] := hD
    refine W.widen (k := 3) (n := 2054) (by omega) (by omega) ?_
    refine va_putF (D := (dC, dI)) (ci := 0) (v := .ref q3) (ty := .array .int) (C := RX0) (T := TX0) (N := 9) hx hb hts inbX0 tyX0 tyX0_ok nmX0 hown hK hP hD hS 0 rfl rfl 2 (by decide) (hts _ bX0_2) (fun _ h9 => h9) rfl hin rfl (by decide +kernel) rfl rfl (Nat.le_of_ble_eq_true rfl) dX0_init_44 (fun H locs hP hD hS => ?_)
    have hP : va_P (dC, dI) vwCl [(h0, .inr (0, [.ref q1, .ref q2, .ref q3, .int 0, .int 0, .null, .null, .null, .null])), (q1, .inl (a1, (K * 16), .inl (fun _ => 0))), (q2, .inl (a2, 3, .inl (fun _ => 0))), (q3, .inl (a2, 3, .inl (fun _ => 0)))] H := hP
    have hD : va_D A [(h0, .inr (0, [.ref q1, .ref q2, .ref q3, .int 0, .int 0, .null, .null, .null, .null])), (q1, .inl (a1, (K * 16), .inl (fun _ => 0))), (q2, .inl (a2, 3, .inl (fun _ => 0))), (q3, .inl (a2, 3, .inl (fun _ => 0)))] := hD
    refine lv_aload_n hx hb dX0_init_47 rfl (lv_at hl 1 rfl) ?_
    refine lv_iconst (v := 0) hx hb dX0_init_48 (by decide) ?_
    refine va_put (D := (dC, dI)) (ci := 0) (v := .int 0) (ty := .boolean) (C := RX0) (T := TX0) (N := 9) hx hb hts inbX0 tyX0 tyX0_ok nmX0 hown hK hP hD hS 0 rfl rfl 3 (by decide) (hts _ bX0_3) (fun _ h9 => h9) rfl (by decide +kernel) rfl rfl (Nat.le_of_ble_eq_true rfl) dX0_init_49 (fun H locs hP hD hS => ?_)
    have hP : va_P (dC, dI) vwCl [(h0, .inr (0, [.ref q1, .ref q2, .ref q3, .int 0, .int 0, .null, .null, .null, .null])), (q1, .inl (a1, (K * 16), .inl (fun _ => 0))), (q2, .inl (a2, 3, .inl (fun _ => 0))), (q3, .inl (a2, 3, .inl (fun _ => 0)))] H := hP
    have hD : va_D A [(h0, .inr (0, [.ref q1, .ref q2, .ref q3, .int 0, .int 0, .null, .null, .null, .null])), (q1, .inl (a1, (K * 16), .inl (fun _ => 0))), (q2, .inl (a2, 3, .inl (fun _ => 0))), (q3, .inl (a2, 3, .inl (fun _ => 0)))] := hD
    refine lv_aload_n hx hb dX0_init_52 rfl (lv_at hl 1 rfl) ?_
    refine lv_iconst (v := (-1)) hx hb dX0_init_53 (by decide) ?_
    refine va_put (D := (dC, dI)) (ci := 0) (v := .int (-1)) (ty := .int) (C := RX0) (T := TX0) (N := 9) hx hb hts inbX0 tyX0 tyX0_ok nmX0 hown hK hP hD hS 0 rfl rfl 4 (by decide) (hts _ bX0_4) (fun _ h9 => h9) rfl (by decide +kernel) rfl rfl (Nat.le_of_ble_eq_true rfl) dX0_init_54 (fun H locs hP hD hS => ?_)
    have hP : va_P (dC, dI) vwCl [(h0, .inr (0, [.ref q1, .ref q2, .ref q3, .int 0, .int (-1), .null, .null, .null, .null])), (q1, .inl (a1, (K * 16), .inl (fun _ => 0))), (q2, .inl (a2, 3, .inl (fun _ => 0))), (q3, .inl (a2, 3, .inl (fun _ => 0)))] H := hP
    have hD : va_D A [(h0, .inr (0, [.ref q1, .ref q2, .ref q3, .int 0, .int (-1), .null, .null, .null, .null])), (q1, .inl (a1, (K * 16), .inl (fun _ => 0))), (q2, .inl (a2, 3, .inl (fun _ => 0))), (q3, .inl (a2, 3, .inl (fun _ => 0)))] := hD
    refine lv_aload_n hx hb dX0_init_57 rfl (lv_at hl 1 rfl) ?_
    refine lv_bipush (v := 16) hx hb dX0_init_58 (by decide) ?_
    have hc_4 : 3 + 1 ≤ 7 := by decide
    have hs_4 : 2054 + 16 ≤ 2106 := by decide
    refine va_newa (atype := .int) (ty := .int) (a0 := (16, .inl (fun _ => 0))) hx hb (hts _ bX0_19) rfl hK hP hD hS hA (fun cA => rfl) (by decide) rfl (by decide) hc_4 hs_4 dX0_init_60 (fun q4 a4 H hK hP hD hS => ?_)
    have hK : va_K (dC, dI) vwCl [(a1, .byte), (a2, .int), (a4, .int)] s := hK
    obtain rfl : a2 = a4 := Option.some.inj ((hK.2 1 _ rfl).2.symm.trans (hK.2 2 _ rfl).2)
    have hK : va_K (dC, dI) vwCl [(a1, .byte), (a2, .int)] s := hK.sub [0, 1] rfl
    have hP : va_P (dC, dI) vwCl [(h0, .inr (0, [.ref q1, .ref q2, .ref q3, .int 0, .int (-1), .null, .null, .null, .null])), (q1, .inl (a1, (K * 16), .inl (fun _ => 0))), (q2, .inl (a2, 3, .inl (fun _ => 0))), (q3, .inl (a2, 3, .inl (fun _ => 0))), (q4, .inl (a2, 16, .inl (fun _ => 0)))] H := hP
    have hD : va_D A [(h0, .inr (0, [.ref q1, .ref q2, .ref q3, .int 0, .int (-1), .null, .null, .null, .null])), (q1, .inl (a1, (K * 16), .inl (fun _ => 0))), (q2, .inl (a2, 3, .inl (fun _ => 0))), (q3, .inl (a2, 3, .inl (fun _ => 0))), (q4, .inl (a2, 16, .inl (fun _ => 0)))] := hD
    refine W.widen (k := 4) (n := 2070) (by omega) (by omega) ?_
    refine va_putF (D := (dC, dI)) (ci := 0) (v := .ref q4) (ty := .array .int) (C := RX0) (T := TX0) (N := 9) hx hb hts inbX0 tyX0 tyX0_ok nmX0 hown hK hP hD hS 0 rfl rfl 5 (by decide) (hts _ bX0_5) (fun _ h9 => h9) rfl hin rfl (by decide +kernel) rfl rfl (Nat.le_of_ble_eq_true rfl) dX0_init_62 (fun H locs hP hD hS => ?_)
    have hP : va_P (dC, dI) vwCl [(h0, .inr (0, [.ref q1, .ref q2, .ref q3, .int 0, .int (-1), .ref q4, .null, .null, .null])), (q1, .inl (a1, (K * 16), .inl (fun _ => 0))), (q2, .inl (a2, 3, .inl (fun _ => 0))), (q3, .inl (a2, 3, .inl (fun _ => 0))), (q4, .inl (a2, 16, .inl (fun _ => 0)))] H := hP
    have hD : va_D A [(h0, .inr (0, [.ref q1, .ref q2, .ref q3, .int 0, .int (-1), .ref q4, .null, .null, .null])), (q1, .inl (a1, (K * 16), .inl (fun _ => 0))), (q2, .inl (a2, 3, .inl (fun _ => 0))), (q3, .inl (a2, 3, .inl (fun _ => 0))), (q4, .inl (a2, 16, .inl (fun _ => 0)))] := hD
    refine lv_aload_n hx hb dX0_init_65 rfl (lv_at hl 1 rfl) ?_
    refine va_get (D := (dC, dI)) (ci := 0) (v := .ref q4) (C := RX0) (T := TX0) (N := 9) hx hb hts inbX0 hown hK hP 0 rfl rfl 5 (by decide) (hts _ bX0_5) (fun _ h9 => h9) rfl dX0_init_66 ?_
    refine lv_iconst (v := (-1)) hx hb dX0_init_69 (by decide) ?_
    have hPc : va_P (dC, dI) vwCl (j_ws (fun _ => q4) a2 16 (fun _ => 0)) H := hP.sub [4] rfl
    have hDc : va_D A (j_ws (fun _ => q4) a2 16 (fun _ => 0)) := hD.sub [4] (by decide) rfl
    have hKc : va_K (dC, dI) vwCl (j_tys a2) s := hK.sub [1] rfl
    have hFc := va_free (wc := j_ws (fun _ => q4) a2 16 (fun _ => 0)) hD hS hA [4] rfl
    refine va_callv (va_runS (As := [.ref q4, .int (-1)]) (rest := []) ⟨hx, hb, hml, hown, hts⟩ (c_j_fill l dC dI (fun _ => q4) a2 16 H.size (fun _ => 0) (-1) (by decide)) (va_cwS 2 hts gX0_J_fill rfl rfl rfl (by decide +kernel) ⟨Nat.le_of_ble_eq_true rfl, Nat.le_of_ble_eq_true rfl⟩) ⟨fun a U g mk q => ⟨q.1, q.2.1, q.2.2.1, va_K.moved (u := U) (U := U.calling g mk a) (Vm.Alike.refl U.vm) q.2.2.2.1, q.2.2.2.2⟩, fun U hU hW => ⟨rfl, by rw [hU], by rw [hU]; exact hPc, va_K.moved hW.alike hKc, hDc.weaken (fun _ _ _ _ => trivial)⟩⟩ rfl rfl hl.1 rfl (lv_room (Nat.le_of_ble_eq_true rfl)) dX0_init_70 ⟨Nat.le_of_ble_eq_true rfl, Nat.le_of_ble_eq_true rfl⟩) hS (fun q _ z => hFc q z) hFc (fun u t H1 locs ht hvm hw hB hz1 hk1 hS => ?_)
    obtain ⟨hP1, hK1, hD1⟩ := hB
    rw [ht] at hP1
    subst hw
    obtain ⟨hP, hD⟩ := va_join (wr := [(h0, .inr (0, [.ref q1, .ref q2, .ref q3, .int 0, .int (-1), .ref q4, .null, .null, .null])), (q1, .inl (a1, (K * 16), .inl (fun _ => 0))), (q2, .inl (a2, 3, .inl (fun _ => 0))), (q3, .inl (a2, 3, .inl (fun _ => 0)))]) (w1 := j_ws (fun _ => q4) a2 16 (j_fill 16 (fun _ => 0) (-1))) hP hD [4] [0, 1, 2, 3] rfl rfl (by decide) (by decide) hk1 hFc hP1 hD1
    generalize H1 = H at hP hS ⊢
    have hP : va_P (dC, dI) vwCl [(h0, .inr (0, [.ref q1, .ref q2, .ref q3, .int 0, .int (-1), .ref q4, .null, .null, .null])), (q1, .inl (a1, (K * 16), .inl (fun _ => 0))), (q2, .inl (a2, 3, .inl (fun _ => 0))), (q3, .inl (a2, 3, .inl (fun _ => 0))), (q4, .inl (a2, 16, .inl x_kp0))] H := hP
    have hD : va_D A [(h0, .inr (0, [.ref q1, .ref q2, .ref q3, .int 0, .int (-1), .ref q4, .null, .null, .null])), (q1, .inl (a1, (K * 16), .inl (fun _ => 0))), (q2, .inl (a2, 3, .inl (fun _ => 0))), (q3, .inl (a2, 3, .inl (fun _ => 0))), (q4, .inl (a2, 16, .inl x_kp0))] := hD
    refine lv_aload_n hx hb dX0_init_73 rfl (lv_at hl 1 rfl) ?_
    refine lv_bipush (v := 16) hx hb dX0_init_74 (by decide) ?_
    have hc_5 : 4 + 1 ≤ 7 := by decide
    have hs_5 : 2070 + 16 ≤ 2106 := by decide
    refine va_newa (atype := .int) (ty := .int) (a0 := (16, .inl (fun _ => 0))) hx hb (hts _ bX0_19) rfl hK hP hD hS hA (fun cA => rfl) (by decide) rfl (by decide) hc_5 hs_5 dX0_init_76 (fun q5 a5 H hK hP hD hS => ?_)
    have hK : va_K (dC, dI) vwCl [(a1, .byte), (a2, .int), (a5, .int)] s := hK
    obtain rfl : a2 = a5 := Option.some.inj ((hK.2 1 _ rfl).2.symm.trans (hK.2 2 _ rfl).2)
    have hK : va_K (dC, dI) vwCl [(a1, .byte), (a2, .int)] s := hK.sub [0, 1] rfl
    have hP : va_P (dC, dI) vwCl [(h0, .inr (0, [.ref q1, .ref q2, .ref q3, .int 0, .int (-1), .ref q4, .null, .null, .null])), (q1, .inl (a1, (K * 16), .inl (fun _ => 0))), (q2, .inl (a2, 3, .inl (fun _ => 0))), (q3, .inl (a2, 3, .inl (fun _ => 0))), (q4, .inl (a2, 16, .inl x_kp0)), (q5, .inl (a2, 16, .inl (fun _ => 0)))] H := hP
    have hD : va_D A [(h0, .inr (0, [.ref q1, .ref q2, .ref q3, .int 0, .int (-1), .ref q4, .null, .null, .null])), (q1, .inl (a1, (K * 16), .inl (fun _ => 0))), (q2, .inl (a2, 3, .inl (fun _ => 0))), (q3, .inl (a2, 3, .inl (fun _ => 0))), (q4, .inl (a2, 16, .inl x_kp0)), (q5, .inl (a2, 16, .inl (fun _ => 0)))] := hD
    refine W.widen (k := 5) (n := 2086) (by omega) (by omega) ?_
    refine va_putF (D := (dC, dI)) (ci := 0) (v := .ref q5) (ty := .array .int) (C := RX0) (T := TX0) (N := 9) hx hb hts inbX0 tyX0 tyX0_ok nmX0 hown hK hP hD hS 0 rfl rfl 6 (by decide) (hts _ bX0_6) (fun _ h9 => h9) rfl hin rfl (by decide +kernel) rfl rfl (Nat.le_of_ble_eq_true rfl) dX0_init_78 (fun H locs hP hD hS => ?_)
    have hP : va_P (dC, dI) vwCl [(h0, .inr (0, [.ref q1, .ref q2, .ref q3, .int 0, .int (-1), .ref q4, .ref q5, .null, .null])), (q1, .inl (a1, (K * 16), .inl (fun _ => 0))), (q2, .inl (a2, 3, .inl (fun _ => 0))), (q3, .inl (a2, 3, .inl (fun _ => 0))), (q4, .inl (a2, 16, .inl x_kp0)), (q5, .inl (a2, 16, .inl (fun _ => 0)))] H := hP
    have hD : va_D A [(h0, .inr (0, [.ref q1, .ref q2, .ref q3, .int 0, .int (-1), .ref q4, .ref q5, .null, .null])), (q1, .inl (a1, (K * 16), .inl (fun _ => 0))), (q2, .inl (a2, 3, .inl (fun _ => 0))), (q3, .inl (a2, 3, .inl (fun _ => 0))), (q4, .inl (a2, 16, .inl x_kp0)), (q5, .inl (a2, 16, .inl (fun _ => 0)))] := hD
    refine lv_aload_n hx hb dX0_init_81 rfl (lv_at hl 1 rfl) ?_
    refine lv_bipush (v := 16) hx hb dX0_init_82 (by decide) ?_
    have hc_6 : 5 + 1 ≤ 7 := by decide
    have hs_6 : 2086 + 16 ≤ 2106 := by decide
    refine va_newa (atype := .int) (ty := .int) (a0 := (16, .inl (fun _ => 0))) hx hb (hts _ bX0_19) rfl hK hP hD hS hA (fun cA => rfl) (by decide) rfl (by decide) hc_6 hs_6 dX0_init_84 (fun q6 a6 H hK hP hD hS => ?_)
    have hK : va_K (dC, dI) vwCl [(a1, .byte), (a2, .int), (a6, .int)] s := hK
    obtain rfl : a2 = a6 := Option.some.inj ((hK.2 1 _ rfl).2.symm.trans (hK.2 2 _ rfl).2)
    have hK : va_K (dC, dI) vwCl [(a1, .byte), (a2, .int)] s := hK.sub [0, 1] rfl
    have hP : va_P (dC, dI) vwCl [(h0, .inr (0, [.ref q1, .ref q2, .ref q3, .int 0, .int (-1), .ref q4, .ref q5, .null, .null])), (q1, .inl (a1, (K * 16), .inl (fun _ => 0))), (q2, .inl (a2, 3, .inl (fun _ => 0))), (q3, .inl (a2, 3, .inl (fun _ => 0))), (q4, .inl (a2, 16, .inl x_kp0)), (q5, .inl (a2, 16, .inl (fun _ => 0))), (q6, .inl (a2, 16, .inl (fun _ => 0)))] H := hP
    have hD : va_D A [(h0, .inr (0, [.ref q1, .ref q2, .ref q3, .int 0, .int (-1), .ref q4, .ref q5, .null, .null])), (q1, .inl (a1, (K * 16), .inl (fun _ => 0))), (q2, .inl (a2, 3, .inl (fun _ => 0))), (q3, .inl (a2, 3, .inl (fun _ => 0))), (q4, .inl (a2, 16, .inl x_kp0)), (q5, .inl (a2, 16, .inl (fun _ => 0))), (q6, .inl (a2, 16, .inl (fun _ => 0)))] := hD
    refine W.widen (k := 6) (n := 2102) (by omega) (by omega) ?_
    refine va_putF (D := (dC, dI)) (ci := 0) (v := .ref q6) (ty := .array .int) (C := RX0) (T := TX0) (N := 9) hx hb hts inbX0 tyX0 tyX0_ok nmX0 hown hK hP hD hS 0 rfl rfl 7 (by decide) (hts _ bX0_7) (fun _ h9 => h9) rfl hin rfl (by decide +kernel) rfl rfl (Nat.le_of_ble_eq_true rfl) dX0_init_86 (fun H locs hP hD hS => ?_)
    have hP : va_P (dC, dI) vwCl [(h0, .inr (0, [.ref q1, .ref q2, .ref q3, .int 0, .int (-1), .ref q4, .ref q5, .ref q6, .null])), (q1, .inl (a1, (K * 16), .inl (fun _ => 0))), (q2, .inl (a2, 3, .inl (fun _ => 0))), (q3, .inl (a2, 3, .inl (fun _ => 0))), (q4, .inl (a2, 16, .inl x_kp0)), (q5, .inl (a2, 16, .inl (fun _ => 0))), (q6, .inl (a2, 16, .inl (fun _ => 0)))] H := hP
    have hD : va_D A [(h0, .inr (0, [.ref q1, .ref q2, .ref q3, .int 0, .int (-1), .ref q4, .ref q5, .ref q6, .null])), (q1, .inl (a1, (K * 16), .inl (fun _ => 0))), (q2, .inl (a2, 3, .inl (fun _ => 0))), (q3, .inl (a2, 3, .inl (fun _ => 0))), (q4, .inl (a2, 16, .inl x_kp0)), (q5, .inl (a2, 16, .inl (fun _ => 0))), (q6, .inl (a2, 16, .inl (fun _ => 0)))] := hD
    refine lv_aload_n hx hb dX0_init_89 rfl (lv_at hl 1 rfl) ?_
    refine lv_iconst (v := 4) hx hb dX0_init_90 (by decide) ?_
    have hc_7 : 6 + 1 ≤ 7 := by decide
    have hs_7 : 2102 + 4 ≤ 2106 := by decide
    refine va_newa (atype := .int) (ty := .int) (a0 := (4, .inl (fun _ => 0))) hx hb (hts _ bX0_19) rfl hK hP hD hS hA (fun cA => rfl) (by decide) rfl (by decide) hc_7 hs_7 dX0_init_91 (fun q7 a7 H hK hP hD hS => ?_)
    have hK : va_K (dC, dI) vwCl [(a1, .byte), (a2, .int), (a7, .int)] s := hK
    obtain rfl : a2 = a7 := Option.some.inj ((hK.2 1 _ rfl).2.symm.trans (hK.2 2 _ rfl).2)
    have hK : va_K (dC, dI) vwCl [(a1, .byte), (a2, .int)] s := hK.sub [0, 1] rfl
    have hP : va_P (dC, dI) vwCl [(h0, .inr (0, [.ref q1, .ref q2, .ref q3, .int 0, .int (-1), .ref q4, .ref q5, .ref q6, .null])), (q1, .inl (a1, (K * 16), .inl (fun _ => 0))), (q2, .inl (a2, 3, .inl (fun _ => 0))), (q3, .inl (a2, 3, .inl (fun _ => 0))), (q4, .inl (a2, 16, .inl x_kp0)), (q5, .inl (a2, 16, .inl (fun _ => 0))), (q6, .inl (a2, 16, .inl (fun _ => 0))), (q7, .inl (a2, 4, .inl (fun _ => 0)))] H := hP
    have hD : va_D A [(h0, .inr (0, [.ref q1, .ref q2, .ref q3, .int 0, .int (-1), .ref q4, .ref q5, .ref q6, .null])), (q1, .inl (a1, (K * 16), .inl (fun _ => 0))), (q2, .inl (a2, 3, .inl (fun _ => 0))), (q3, .inl (a2, 3, .inl (fun _ => 0))), (q4, .inl (a2, 16, .inl x_kp0)), (q5, .inl (a2, 16, .inl (fun _ => 0))), (q6, .inl (a2, 16, .inl (fun _ => 0))), (q7, .inl (a2, 4, .inl (fun _ => 0)))] := hD
    refine W.widen (k := 7) (n := 2106) (by omega) (by omega) ?_
    refine va_putF (D := (dC, dI)) (ci := 0) (v := .ref q7) (ty := .array .int) (C := RX0) (T := TX0) (N := 9) hx hb hts inbX0 tyX0 tyX0_ok nmX0 hown hK hP hD hS 0 rfl rfl 8 (by decide) (hts _ bX0_8) (fun _ h9 => h9) rfl hin rfl (by decide +kernel) rfl rfl (Nat.le_of_ble_eq_true rfl) dX0_init_93 (fun H locs hP hD hS => ?_)
    have hP : va_P (dC, dI) vwCl [(h0, .inr (0, [.ref q1, .ref q2, .ref q3, .int 0, .int (-1), .ref q4, .ref q5, .ref q6, .ref q7])), (q1, .inl (a1, (K * 16), .inl (fun _ => 0))), (q2, .inl (a2, 3, .inl (fun _ => 0))), (q3, .inl (a2, 3, .inl (fun _ => 0))), (q4, .inl (a2, 16, .inl x_kp0)), (q5, .inl (a2, 16, .inl (fun _ => 0))), (q6, .inl (a2, 16, .inl (fun _ => 0))), (q7, .inl (a2, 4, .inl (fun _ => 0)))] H := hP
    have hD : va_D A [(h0, .inr (0, [.ref q1, .ref q2, .ref q3, .int 0, .int (-1), .ref q4, .ref q5, .ref q6, .ref q7])), (q1, .inl (a1, (K * 16), .inl (fun _ => 0))), (q2, .inl (a2, 3, .inl (fun _ => 0))), (q3, .inl (a2, 3, .inl (fun _ => 0))), (q4, .inl (a2, 16, .inl x_kp0)), (q5, .inl (a2, 16, .inl (fun _ => 0))), (q6, .inl (a2, 16, .inl (fun _ => 0))), (q7, .inl (a2, 4, .inl (fun _ => 0)))] := hD
    refine W.widen (k := 7) (n := 2106) (by omega) (by omega) ?_
    exact W.vret hx hb hr (fun t ht hW => ⟨⟨(fun k => ([h0, q1, q2, q3, q4, q5, q6, q7] : List Nat).getD k 0, a1, a2), rfl, rfl, by rw [ht, en]; exact hP, va_K.moved hW.alike hK, by rw [en]; exact hD⟩, hS.F ht⟩) hS.2.2 dX0_init_96
  have hl := lv_entry ([.ref h0, .int p0]) (n := 3) (Nat.le_of_ble_eq_true rfl)
  rw [lg_entry_eq]
  generalize (lg_sl ([.ref h0, .int p0]) ++ List.replicate (3 - (lg_sl ([.ref h0, .int p0])).length) Slot.unset).toArray = ls at hl ⊢
  have hl : lv_has ls 3 [(0, .ref h0), (1, .int p0)] := hl
  refine lv_aload_n hx hb dX0_init_0 rfl (lv_at hl 0 rfl) ?_
  refine W.objInit hx hb hown (hts _ bX0_20) (hts _ bX0_48) (hts _ bX0_112) rfl (by rw [hml]; exact hl.1) rfl dX0_init_1 (Nat.le_of_ble_eq_true rfl) (Nat.le_of_ble_eq_true rfl) ?_
  refine W.eq (g2 := F0 m 4 ls []) rfl ?_
  refine lv_iload_n hx hb dX0_init_4 rfl (lv_at hl 1 rfl) ?_
  refine lv_iconst (v := 4) hx hb dX0_init_5 (by decide) ?_
  refine lv_icmp_lt (tgt := 20) hx hb dX0_init_6 (by decide) (fun c_1 => ?_) (fun c_1 => ?_)
  · refine lv_bipush (v := 32) hx hb dX0_init_20 (by decide) ?_
    refine lv_istore_n (lv' := [(2, .int 32), (0, .ref h0), (1, .int p0)]) hx hb dX0_init_22 rfl hl (by decide) rfl (fun ls hl => ?_)
    exact tail 32 32 ls rfl (by omega) (by omega) (x_n_of (K := 32) (if_pos c_1) (by omega)) hl
  · refine lv_iload_n hx hb dX0_init_9 rfl (lv_at hl 1 rfl) ?_
    refine lv_sipush (v := 128) hx hb dX0_init_10 (by decide) ?_
    refine lv_icmp_gt (tgt := 20) hx hb dX0_init_13 (by decide) (fun c_2 => ?_) (fun c_2 => ?_)
    · refine lv_bipush (v := 32) hx hb dX0_init_20 (by decide) ?_
      refine lv_istore_n (lv' := [(2, .int 32), (0, .ref h0), (1, .int p0)]) hx hb dX0_init_22 rfl hl (by decide) rfl (fun ls hl => ?_)
      exact tail 32 32 ls rfl (by omega) (by omega) (x_n_of (K := 32) ((if_neg c_1).trans (if_pos c_2)) (by omega)) hl
    · refine lv_iload_n hx hb dX0_init_16 rfl (lv_at hl 1 rfl) ?_
      refine lv_goto (tgt := 22) hx hb dX0_init_17 (by decide) ?_
      refine lv_istore_n (lv' := [(2, .int p0), (0, .ref h0), (1, .int p0)]) hx hb dX0_init_22 rfl hl (by decide) rfl (fun ls hl => ?_)
      obtain ⟨K, ek, hk4, hk8⟩ := x_pages c_1 c_2
      exact tail K p0 ls ek hk4 hk8 (x_n_of ((if_neg c_1).trans ((if_neg c_2).trans ek)) hk8) hl
end
section
set_option maxHeartbeats 4000000 in
set_option maxRecDepth 100000 in
theorem c_x_regionOf (l : Launch) (a : Int32) : Met l yX0_regionOf wsX0_regionOf ({ frames := 0, cells := 0, slots := 0, locals := 0 }) (va_Pc [.int a] (fun _ => True)) (vp_Si (fun r => x_regionOf a = r)) 0 0 (fun _ => False) := by
  refine Met.ofW (cc := cX0_regionOf) (maxL := 1) (ret := (some .int)) (by decide) rfl ?_
  intro p e s m args below meth c s₁ B hml hv
  obtain ⟨rfl, -⟩ := hv
  have hx := B.exec
  have hb := B.bytes
  have hr := B.returns
  have hts : ∀ w ∈ bX0, w.before _ s = true := fun w h => atoms_spec (ws := wsX0_regionOf) B.pre w (List.mem_cons_of_mem _ h)
  have hown : s.vm.findClass RX0 = some m.cls := findClass_of_methodNamed B.named
  have hlocks := B.notSynchronized
  have hl := lv_entry ([.int a]) (n := 1) (Nat.le_of_ble_eq_true rfl)
  rw [lg_entry_eq]
  generalize (lg_sl ([.int a]) ++ List.replicate (1 - (lg_sl ([.int a])).length) Slot.unset).toArray = ls at hl ⊢
  have hl : lv_has ls 1 [(0, .int a)] := hl
  refine lv_iload_n hx hb dX0_regionOf_0 rfl (lv_at hl 0 rfl) ?_
  refine lv_bipush (v := 14) hx hb dX0_regionOf_1 (by decide) ?_
  refine lv_iushr (v := (jushr a 14)) hx hb dX0_regionOf_3 rfl ?_
  refine lv_iconst (v := 3) hx hb dX0_regionOf_4 (by decide) ?_
  refine lv_iand hx hb dX0_regionOf_5 ?_
  exact W.iret (v := ((jushr a 14) &&& 3)) hx hb hr (fun t ht _ => ⟨((jushr a 14) &&& 3), rfl, rfl, ht⟩) t_nil dX0_regionOf_6
set_option maxHeartbeats 4000000 in
set_option maxRecDepth 100000 in
theorem c_x_pageOf (l : Launch) (a : Int32) : Met l yX0_pageOf wsX0_pageOf ({ frames := 0, cells := 0, slots := 0, locals := 0 }) (va_Pc [.int a] (fun _ => True)) (vp_Si (fun r => x_pageOf a = r)) 0 0 (fun _ => False) := by
  refine Met.ofW (cc := cX0_pageOf) (maxL := 1) (ret := (some .int)) (by decide) rfl ?_
  intro p e s m args below meth c s₁ B hml hv
  obtain ⟨rfl, -⟩ := hv
  have hx := B.exec
  have hb := B.bytes
  have hr := B.returns
  have hts : ∀ w ∈ bX0, w.before _ s = true := fun w h => atoms_spec (ws := wsX0_pageOf) B.pre w (List.mem_cons_of_mem _ h)
  have hown : s.vm.findClass RX0 = some m.cls := findClass_of_methodNamed B.named
  have hlocks := B.notSynchronized
  have hl := lv_entry ([.int a]) (n := 1) (Nat.le_of_ble_eq_true rfl)
  rw [lg_entry_eq]
  generalize (lg_sl ([.int a]) ++ List.replicate (1 - (lg_sl ([.int a])).length) Slot.unset).toArray = ls at hl ⊢
  have hl : lv_has ls 1 [(0, .int a)] := hl
  refine lv_iload_n hx hb dX0_pageOf_0 rfl (lv_at hl 0 rfl) ?_
  refine lv_iconst (v := 4) hx hb dX0_pageOf_1 (by decide) ?_
  refine lv_iushr (v := (jushr a 4)) hx hb dX0_pageOf_2 rfl ?_
  refine lv_sipush (v := 1023) hx hb dX0_pageOf_3 (by decide) ?_
  refine lv_iand hx hb dX0_pageOf_6 ?_
  exact W.iret (v := ((jushr a 4) &&& 1023)) hx hb hr (fun t ht _ => ⟨((jushr a 4) &&& 1023), rfl, rfl, ht⟩) t_nil dX0_pageOf_7
set_option maxHeartbeats 4000000 in
set_option maxRecDepth 100000 in
theorem c_x_placeInPage (l : Launch) (a : Int32) : Met l yX0_placeInPage wsX0_placeInPage ({ frames := 0, cells := 0, slots := 0, locals := 0 }) (va_Pc [.int a] (fun _ => True)) (vp_Si (fun r => x_placeInPage a = r)) 0 0 (fun _ => False) := by
  refine Met.ofW (cc := cX0_placeInPage) (maxL := 1) (ret := (some .int)) (by decide) rfl ?_
  intro p e s m args below meth c s₁ B hml hv
  obtain ⟨rfl, -⟩ := hv
  have hx := B.exec
  have hb := B.bytes
  have hr := B.returns
  have hts : ∀ w ∈ bX0, w.before _ s = true := fun w h => atoms_spec (ws := wsX0_placeInPage) B.pre w (List.mem_cons_of_mem _ h)
  have hown : s.vm.findClass RX0 = some m.cls := findClass_of_methodNamed B.named
  have hlocks := B.notSynchronized
  have hl := lv_entry ([.int a]) (n := 1) (Nat.le_of_ble_eq_true rfl)
  rw [lg_entry_eq]
  generalize (lg_sl ([.int a]) ++ List.replicate (1 - (lg_sl ([.int a])).length) Slot.unset).toArray = ls at hl ⊢
  have hl : lv_has ls 1 [(0, .int a)] := hl
  refine lv_iload_n hx hb dX0_placeInPage_0 rfl (lv_at hl 0 rfl) ?_
  refine lv_bipush (v := 15) hx hb dX0_placeInPage_1 (by decide) ?_
  refine lv_iand hx hb dX0_placeInPage_3 ?_
  exact W.iret (v := (a &&& 15)) hx hb hr (fun t ht _ => ⟨(a &&& 15), rfl, rfl, ht⟩) t_nil dX0_placeInPage_4
set_option maxHeartbeats 4000000 in
set_option maxRecDepth 100000 in
theorem c_x_slotOf (l : Launch) (a : Int32) : Met l yX0_slotOf wsX0_slotOf ({ frames := 1, cells := 0, slots := 0, locals := 20 }) (va_Pc [.int a] (fun _ => True)) (vp_Si (fun r => x_slotOf a = r)) 0 0 (fun _ => False) := by
  refine Met.ofW (cc := cX0_slotOf) (maxL := 2) (ret := (some .int)) (by decide) rfl ?_
  intro p e s m args below meth c s₁ B hml hv
  obtain ⟨rfl, -⟩ := hv
  have hx := B.exec
  have hb := B.bytes
  have hr := B.returns
  have hts : ∀ w ∈ bX0, w.before _ s = true := fun w h => atoms_spec (ws := wsX0_slotOf) B.pre w (List.mem_cons_of_mem _ h)
  have hown : s.vm.findClass RX0 = some m.cls := findClass_of_methodNamed B.named
  have hlocks := B.notSynchronized
  have hl := lv_entry ([.int a]) (n := 2) (Nat.le_of_ble_eq_true rfl)
  rw [lg_entry_eq]
  generalize (lg_sl ([.int a]) ++ List.replicate (2 - (lg_sl ([.int a])).length) Slot.unset).toArray = ls at hl ⊢
  have hl : lv_has ls 2 [(0, .int a)] := hl
  refine lv_iload_n hx hb dX0_slotOf_0 rfl (lv_at hl 0 rfl) ?_
  refine vp_callSi (W.runS (As := [.int a]) (rest := []) ⟨hx, hb, hml, hown, hts⟩ (c_x_pageOf l a ) (va_cwS 1 hts gX0_X0_pageOf rfl rfl rfl (by decide +kernel) ⟨Nat.le_of_ble_eq_true rfl, Nat.le_of_ble_eq_true rfl⟩) (fs_pre) rfl rfl hl.1 rfl (lv_room (Nat.le_of_ble_eq_true rfl)) dX0_slotOf_1 ⟨Nat.zero_le _, Nat.zero_le _⟩) (fun r er => ?_)
  subst er
  refine lv_bipush (v := 8) hx hb dX0_slotOf_4 (by decide) ?_
  refine lv_irem hx hb dX0_slotOf_6 (by decide) ?_
  refine lv_istore_n (lv' := [(1, .int ((x_pageOf a) - (x_pageOf a) / 8 * 8)), (0, .int a)]) hx hb dX0_slotOf_7 rfl hl (by decide) rfl (fun ls hl => ?_)
  refine lv_iload_n hx hb dX0_slotOf_8 rfl (lv_at hl 1 rfl) ?_
  refine vp_callSi (W.runS (As := [.int a]) (rest := []) ⟨hx, hb, hml, hown, hts⟩ (c_x_regionOf l a ) (va_cwS 1 hts gX0_X0_regionOf rfl rfl rfl (by decide +kernel) ⟨Nat.le_of_ble_eq_true rfl, Nat.le_of_ble_eq_true rfl⟩) (fs_pre) rfl rfl hl.1 rfl (lv_room (Nat.le_of_ble_eq_true rfl)) dX0_slotOf_9 ⟨Nat.zero_le _, Nat.zero_le _⟩) (fun r er => ?_)
  subst er
  refine lv_iconst (v := 2) hx hb dX0_slotOf_12 (by decide) ?_
  refine lv_icmp_lt (tgt := 23) hx hb dX0_slotOf_13 (by decide) (fun c_1 => ?_) (fun c_1 => ?_)
  · refine lv_iload_n hx hb dX0_slotOf_23 rfl (lv_at hl 0 rfl) ?_
    exact W.iret (v := ((x_pageOf a) - (x_pageOf a) / 8 * 8)) hx hb hr (fun t ht _ => ⟨((x_pageOf a) - (x_pageOf a) / 8 * 8), rfl, (if_pos c_1).trans rfl, ht⟩) t_nil dX0_slotOf_24
  · refine lv_bipush (v := 8) hx hb dX0_slotOf_16 (by decide) ?_
    refine lv_iload_n hx hb dX0_slotOf_18 rfl (lv_at hl 0 rfl) ?_
    refine lv_iadd hx hb dX0_slotOf_19 ?_
    refine lv_goto (tgt := 24) hx hb dX0_slotOf_20 (by decide) ?_
    exact W.iret (v := ((8 : Int32) + ((x_pageOf a) - (x_pageOf a) / 8 * 8))) hx hb hr (fun t ht _ => ⟨((8 : Int32) + ((x_pageOf a) - (x_pageOf a) / 8 * 8)), rfl, (if_neg c_1).trans rfl, ht⟩) t_nil dX0_slotOf_24
set_option maxHeartbeats 4000000 in
set_option maxRecDepth 100000 in
theorem c_x_isValid (l : Launch) (v : Int32) : Met l yX0_isValid wsX0_isValid ({ frames := 0, cells := 0, slots := 0, locals := 0 }) (va_Pc [.int v] (fun _ => True)) (vp_Si (fun r => x_isValid v = r)) 0 0 (fun _ => False) := by
  refine Met.ofW (cc := cX0_isValid) (maxL := 1) (ret := (some .boolean)) (by decide) rfl ?_
  intro p e s m args below meth c s₁ B hml hv
  obtain ⟨rfl, -⟩ := hv
  have hx := B.exec
  have hb := B.bytes
  have hr := B.returns
  have hts : ∀ w ∈ bX0, w.before _ s = true := fun w h => atoms_spec (ws := wsX0_isValid) B.pre w (List.mem_cons_of_mem _ h)
  have hown : s.vm.findClass RX0 = some m.cls := findClass_of_methodNamed B.named
  have hlocks := B.notSynchronized
  have hl := lv_entry ([.int v]) (n := 1) (Nat.le_of_ble_eq_true rfl)
  rw [lg_entry_eq]
  generalize (lg_sl ([.int v]) ++ List.replicate (1 - (lg_sl ([.int v])).length) Slot.unset).toArray = ls at hl ⊢
  have hl : lv_has ls 1 [(0, .int v)] := hl
  refine lv_iload_n hx hb dX0_isValid_0 rfl (lv_at hl 0 rfl) ?_
  refine lv_ldc (v := (-2147483648)) hx hb hown (hts _ bX0_13) dX0_isValid_1 ?_
  refine lv_iand hx hb dX0_isValid_3 ?_
  refine lv_if_eq (tgt := 11) hx hb dX0_isValid_4 (by decide) (fun c_1 => ?_) (fun c_1 => ?_)
  · refine lv_iconst (v := 0) hx hb dX0_isValid_11 (by decide) ?_
    exact W.zret (ty := .boolean) (v := 0) hx hb hr rfl (fun t ht _ => ⟨0, rfl, (if_pos c_1).trans rfl, ht⟩) t_nil dX0_isValid_12
  · refine lv_iconst (v := 1) hx hb dX0_isValid_7 (by decide) ?_
    refine lv_goto (tgt := 12) hx hb dX0_isValid_8 (by decide) ?_
    exact W.zret (ty := .boolean) (v := 1) hx hb hr rfl (fun t ht _ => ⟨1, rfl, (if_neg c_1).trans rfl, ht⟩) t_nil dX0_isValid_12
set_option maxHeartbeats 4000000 in
set_option maxRecDepth 100000 in
theorem c_x_physical (l : Launch) (v : Int32) (a : Int32) : Met l yX0_physical wsX0_physical ({ frames := 1, cells := 0, slots := 0, locals := 20 }) (va_Pc [.int v, .int a] (fun _ => True)) (vp_Si (fun r => x_physical v a = r)) 0 0 (fun _ => False) := by
  refine Met.ofW (cc := cX0_physical) (maxL := 2) (ret := (some .int)) (by decide) rfl ?_
  intro p e s m args below meth c s₁ B hml hv
  obtain ⟨rfl, -⟩ := hv
  have hx := B.exec
  have hb := B.bytes
  have hr := B.returns
  have hts : ∀ w ∈ bX0, w.before _ s = true := fun w h => atoms_spec (ws := wsX0_physical) B.pre w (List.mem_cons_of_mem _ h)
  have hown : s.vm.findClass RX0 = some m.cls := findClass_of_methodNamed B.named
  have hlocks := B.notSynchronized
  have hl := lv_entry ([.int v, .int a]) (n := 2) (Nat.le_of_ble_eq_true rfl)
  rw [lg_entry_eq]
  generalize (lg_sl ([.int v, .int a]) ++ List.replicate (2 - (lg_sl ([.int v, .int a])).length) Slot.unset).toArray = ls at hl ⊢
  have hl : lv_has ls 2 [(0, .int v), (1, .int a)] := hl
  refine lv_iload_n hx hb dX0_physical_0 rfl (lv_at hl 0 rfl) ?_
  refine lv_sipush (v := 4095) hx hb dX0_physical_1 (by decide) ?_
  refine lv_iand hx hb dX0_physical_4 ?_
  refine lv_bipush (v := 16) hx hb dX0_physical_5 (by decide) ?_
  refine lv_imul hx hb dX0_physical_7 ?_
  refine lv_iload_n hx hb dX0_physical_8 rfl (lv_at hl 1 rfl) ?_
  refine vp_callSi (W.runS (As := [.int a]) (rest := [.int ((v &&& 4095) * 16)]) ⟨hx, hb, hml, hown, hts⟩ (c_x_placeInPage l a ) (va_cwS 1 hts gX0_X0_placeInPage rfl rfl rfl (by decide +kernel) ⟨Nat.le_of_ble_eq_true rfl, Nat.le_of_ble_eq_true rfl⟩) (fs_pre) rfl rfl hl.1 rfl (lv_room (Nat.le_of_ble_eq_true rfl)) dX0_physical_9 ⟨Nat.zero_le _, Nat.zero_le _⟩) (fun r er => ?_)
  subst er
  refine lv_iadd hx hb dX0_physical_12 ?_
  exact W.iret (v := (((v &&& 4095) * 16) + (x_placeInPage a))) hx hb hr (fun t ht _ => ⟨(((v &&& 4095) * 16) + (x_placeInPage a)), rfl, rfl, ht⟩) t_nil dX0_physical_13
set_option maxHeartbeats 4000000 in
set_option maxRecDepth 100000 in
theorem c_x_isCount (l : Launch) (k : Int32) : Met l yX0_isCount wsX0_isCount ({ frames := 0, cells := 0, slots := 0, locals := 0 }) (va_Pc [.int k] (fun _ => True)) (vp_Si (fun r => x_isCount k = r)) 0 0 (fun _ => False) := by
  refine Met.ofW (cc := cX0_isCount) (maxL := 1) (ret := (some .boolean)) (by decide) rfl ?_
  intro p e s m args below meth c s₁ B hml hv
  obtain ⟨rfl, -⟩ := hv
  have hx := B.exec
  have hb := B.bytes
  have hr := B.returns
  have hts : ∀ w ∈ bX0, w.before _ s = true := fun w h => atoms_spec (ws := wsX0_isCount) B.pre w (List.mem_cons_of_mem _ h)
  have hown : s.vm.findClass RX0 = some m.cls := findClass_of_methodNamed B.named
  have hlocks := B.notSynchronized
  have hl := lv_entry ([.int k]) (n := 1) (Nat.le_of_ble_eq_true rfl)
  rw [lg_entry_eq]
  generalize (lg_sl ([.int k]) ++ List.replicate (1 - (lg_sl ([.int k])).length) Slot.unset).toArray = ls at hl ⊢
  have hl : lv_has ls 1 [(0, .int k)] := hl
  refine lv_iload_n hx hb dX0_isCount_0 rfl (lv_at hl 0 rfl) ?_
  refine lv_iconst (v := 1) hx hb dX0_isCount_1 (by decide) ?_
  refine lv_icmp_eq (tgt := 15) hx hb dX0_isCount_2 (by decide) (fun c_1 => ?_) (fun c_1 => ?_)
  · refine lv_iconst (v := 1) hx hb dX0_isCount_15 (by decide) ?_
    refine lv_goto (tgt := 20) hx hb dX0_isCount_16 (by decide) ?_
    exact W.zret (ty := .boolean) (v := 1) hx hb hr rfl (fun t ht _ => ⟨1, rfl, (if_pos c_1).trans rfl, ht⟩) t_nil dX0_isCount_20
  · refine lv_iload_n hx hb dX0_isCount_5 rfl (lv_at hl 0 rfl) ?_
    refine lv_iconst (v := 2) hx hb dX0_isCount_6 (by decide) ?_
    refine lv_icmp_eq (tgt := 15) hx hb dX0_isCount_7 (by decide) (fun c_2 => ?_) (fun c_2 => ?_)
    · refine lv_iconst (v := 1) hx hb dX0_isCount_15 (by decide) ?_
      refine lv_goto (tgt := 20) hx hb dX0_isCount_16 (by decide) ?_
      exact W.zret (ty := .boolean) (v := 1) hx hb hr rfl (fun t ht _ => ⟨1, rfl, (if_neg c_1).trans ((if_pos c_2).trans rfl), ht⟩) t_nil dX0_isCount_20
    · refine lv_iload_n hx hb dX0_isCount_10 rfl (lv_at hl 0 rfl) ?_
      refine lv_iconst (v := 4) hx hb dX0_isCount_11 (by decide) ?_
      refine lv_icmp_ne (tgt := 19) hx hb dX0_isCount_12 (by decide) (fun c_3 => ?_) (fun c_3 => ?_)
      · refine lv_iconst (v := 0) hx hb dX0_isCount_19 (by decide) ?_
        exact W.zret (ty := .boolean) (v := 0) hx hb hr rfl (fun t ht _ => ⟨0, rfl, (if_neg c_1).trans ((if_neg c_2).trans ((if_neg c_3).trans rfl)), ht⟩) t_nil dX0_isCount_20
      · refine lv_iconst (v := 1) hx hb dX0_isCount_15 (by decide) ?_
        refine lv_goto (tgt := 20) hx hb dX0_isCount_16 (by decide) ?_
        exact W.zret (ty := .boolean) (v := 1) hx hb hr rfl (fun t ht _ => ⟨1, rfl, (if_neg c_1).trans ((if_neg c_2).trans ((if_pos c_3).trans rfl)), ht⟩) t_nil dX0_isCount_20
set_option maxHeartbeats 4000000 in
set_option maxRecDepth 100000 in
theorem c_x_access (l : Launch) (k : Int32) (b : Int32) : Met l yX0_access wsX0_access ({ frames := 0, cells := 0, slots := 0, locals := 0 }) (va_Pc [.int k, .int b] (fun _ => True)) (vp_Si (fun r => x_access k b = r)) 0 0 (fun _ => False) := by
  refine Met.ofW (cc := cX0_access) (maxL := 2) (ret := (some .int)) (by decide) rfl ?_
  intro p e s m args below meth c s₁ B hml hv
  obtain ⟨rfl, -⟩ := hv
  have hx := B.exec
  have hb := B.bytes
  have hr := B.returns
  have hts : ∀ w ∈ bX0, w.before _ s = true := fun w h => atoms_spec (ws := wsX0_access) B.pre w (List.mem_cons_of_mem _ h)
  have hown : s.vm.findClass RX0 = some m.cls := findClass_of_methodNamed B.named
  have hlocks := B.notSynchronized
  have hl := lv_entry ([.int k, .int b]) (n := 2) (Nat.le_of_ble_eq_true rfl)
  rw [lg_entry_eq]
  generalize (lg_sl ([.int k, .int b]) ++ List.replicate (2 - (lg_sl ([.int k, .int b])).length) Slot.unset).toArray = ls at hl ⊢
  have hl : lv_has ls 2 [(0, .int k), (1, .int b)] := hl
  refine lv_iconst (v := (-1)) hx hb dX0_access_0 (by decide) ?_
  refine lv_iload_n hx hb dX0_access_1 rfl (lv_at hl 0 rfl) ?_
  refine lv_isub hx hb dX0_access_2 ?_
  refine lv_iload_n hx hb dX0_access_3 rfl (lv_at hl 1 rfl) ?_
  refine lv_if_eq (tgt := 11) hx hb dX0_access_4 (by decide) (fun c_1 => ?_) (fun c_1 => ?_)
  · refine lv_iconst (v := 0) hx hb dX0_access_11 (by decide) ?_
    refine lv_isub hx hb dX0_access_12 ?_
    exact W.iret (v := ((((-1) : Int32) - k) - 0)) hx hb hr (fun t ht _ => ⟨((((-1) : Int32) - k) - 0), rfl, (if_pos c_1).trans rfl, ht⟩) t_nil dX0_access_13
  · refine lv_iconst (v := 4) hx hb dX0_access_7 (by decide) ?_
    refine lv_goto (tgt := 12) hx hb dX0_access_8 (by decide) ?_
    refine lv_isub hx hb dX0_access_12 ?_
    exact W.iret (v := ((((-1) : Int32) - k) - 4)) hx hb hr (fun t ht _ => ⟨((((-1) : Int32) - k) - 4), rfl, (if_neg c_1).trans rfl, ht⟩) t_nil dX0_access_13
set_option maxHeartbeats 4000000 in
set_option maxRecDepth 100000 in
theorem c_x_missing (l : Launch) (k : Int32) (b : Int32) : Met l yX0_missing wsX0_missing ({ frames := 0, cells := 0, slots := 0, locals := 0 }) (va_Pc [.int k, .int b] (fun _ => True)) (vp_Si (fun r => x_missing k b = r)) 0 0 (fun _ => False) := by
  refine Met.ofW (cc := cX0_missing) (maxL := 2) (ret := (some .int)) (by decide) rfl ?_
  intro p e s m args below meth c s₁ B hml hv
  obtain ⟨rfl, -⟩ := hv
  have hx := B.exec
  have hb := B.bytes
  have hr := B.returns
  have hts : ∀ w ∈ bX0, w.before _ s = true := fun w h => atoms_spec (ws := wsX0_missing) B.pre w (List.mem_cons_of_mem _ h)
  have hown : s.vm.findClass RX0 = some m.cls := findClass_of_methodNamed B.named
  have hlocks := B.notSynchronized
  have hl := lv_entry ([.int k, .int b]) (n := 2) (Nat.le_of_ble_eq_true rfl)
  rw [lg_entry_eq]
  generalize (lg_sl ([.int k, .int b]) ++ List.replicate (2 - (lg_sl ([.int k, .int b])).length) Slot.unset).toArray = ls at hl ⊢
  have hl : lv_has ls 2 [(0, .int k), (1, .int b)] := hl
  refine lv_bipush (v := (-11)) hx hb dX0_missing_0 (by decide) ?_
  refine lv_iload_n hx hb dX0_missing_2 rfl (lv_at hl 0 rfl) ?_
  refine lv_isub hx hb dX0_missing_3 ?_
  refine lv_iload_n hx hb dX0_missing_4 rfl (lv_at hl 1 rfl) ?_
  refine lv_if_eq (tgt := 12) hx hb dX0_missing_5 (by decide) (fun c_1 => ?_) (fun c_1 => ?_)
  · refine lv_iconst (v := 0) hx hb dX0_missing_12 (by decide) ?_
    refine lv_isub hx hb dX0_missing_13 ?_
    exact W.iret (v := ((((-11) : Int32) - k) - 0)) hx hb hr (fun t ht _ => ⟨((((-11) : Int32) - k) - 0), rfl, (if_pos c_1).trans rfl, ht⟩) t_nil dX0_missing_14
  · refine lv_iconst (v := 4) hx hb dX0_missing_8 (by decide) ?_
    refine lv_goto (tgt := 13) hx hb dX0_missing_9 (by decide) ?_
    refine lv_isub hx hb dX0_missing_13 ?_
    exact W.iret (v := ((((-11) : Int32) - k) - 4)) hx hb hr (fun t ht _ => ⟨((((-11) : Int32) - k) - 4), rfl, (if_neg c_1).trans rfl, ht⟩) t_nil dX0_missing_14
set_option maxHeartbeats 4000000 in
set_option maxRecDepth 100000 in
theorem c_x_isAccess (l : Launch) (k : Int32) : Met l yX0_isAccess wsX0_isAccess ({ frames := 0, cells := 0, slots := 0, locals := 0 }) (va_Pc [.int k] (fun _ => True)) (vp_Si (fun r => x_isAccess k = r)) 0 0 (fun _ => False) := by
  refine Met.ofW (cc := cX0_isAccess) (maxL := 1) (ret := (some .boolean)) (by decide) rfl ?_
  intro p e s m args below meth c s₁ B hml hv
  obtain ⟨rfl, -⟩ := hv
  have hx := B.exec
  have hb := B.bytes
  have hr := B.returns
  have hts : ∀ w ∈ bX0, w.before _ s = true := fun w h => atoms_spec (ws := wsX0_isAccess) B.pre w (List.mem_cons_of_mem _ h)
  have hown : s.vm.findClass RX0 = some m.cls := findClass_of_methodNamed B.named
  have hlocks := B.notSynchronized
  have hl := lv_entry ([.int k]) (n := 1) (Nat.le_of_ble_eq_true rfl)
  rw [lg_entry_eq]
  generalize (lg_sl ([.int k]) ++ List.replicate (1 - (lg_sl ([.int k])).length) Slot.unset).toArray = ls at hl ⊢
  have hl : lv_has ls 1 [(0, .int k)] := hl
  refine lv_iload_n hx hb dX0_isAccess_0 rfl (lv_at hl 0 rfl) ?_
  refine lv_iconst (v := (-1)) hx hb dX0_isAccess_1 (by decide) ?_
  refine lv_icmp_gt (tgt := 15) hx hb dX0_isAccess_2 (by decide) (fun c_1 => ?_) (fun c_1 => ?_)
  · refine lv_iconst (v := 0) hx hb dX0_isAccess_15 (by decide) ?_
    exact W.zret (ty := .boolean) (v := 0) hx hb hr rfl (fun t ht _ => ⟨0, rfl, (if_pos c_1).trans rfl, ht⟩) t_nil dX0_isAccess_16
  · refine lv_iload_n hx hb dX0_isAccess_5 rfl (lv_at hl 0 rfl) ?_
    refine lv_bipush (v := (-11)) hx hb dX0_isAccess_6 (by decide) ?_
    refine lv_icmp_le (tgt := 15) hx hb dX0_isAccess_8 (by decide) (fun c_2 => ?_) (fun c_2 => ?_)
    · refine lv_iconst (v := 0) hx hb dX0_isAccess_15 (by decide) ?_
      exact W.zret (ty := .boolean) (v := 0) hx hb hr rfl (fun t ht _ => ⟨0, rfl, (if_neg c_1).trans ((if_pos c_2).trans rfl), ht⟩) t_nil dX0_isAccess_16
    · refine lv_iconst (v := 1) hx hb dX0_isAccess_11 (by decide) ?_
      refine lv_goto (tgt := 16) hx hb dX0_isAccess_12 (by decide) ?_
      exact W.zret (ty := .boolean) (v := 1) hx hb hr rfl (fun t ht _ => ⟨1, rfl, (if_neg c_1).trans ((if_neg c_2).trans rfl), ht⟩) t_nil dX0_isAccess_16
set_option maxHeartbeats 4000000 in
set_option maxRecDepth 100000 in
theorem c_x_gives (l : Launch) (tw tr : Nat) (v : Int32) (md : Int32) (b : Int32) : Met l yX0_gives wsX0_gives ({ frames := 0, cells := 0, slots := 0, locals := 0 }) (va_Pc [.int v, .int md, .int b] (x_BS tw tr)) (vp_Si (fun r => x_gives v md b = r)) 0 0 (fun _ => False) := by
  refine Met.ofW (cc := cX0_gives) (maxL := 5) (ret := (some .boolean)) (by decide) rfl ?_
  intro p e s m args below meth c s₁ B hml hv
  obtain ⟨rfl, hST⟩ := hv
  have hx := B.exec
  have hb := B.bytes
  have hr := B.returns
  have hts : ∀ w ∈ bX0, w.before _ s = true := fun w h => atoms_spec (ws := wsX0_gives) B.pre w (List.mem_cons_of_mem _ h)
  have hown : s.vm.findClass RX0 = some m.cls := findClass_of_methodNamed B.named
  have hlocks := B.notSynchronized
  have hS : va_S (fun _ => False) s.heap s.heap [] := va_S.rf
  have hl := lv_entry ([.int v, .int md, .int b]) (n := 5) (Nat.le_of_ble_eq_true rfl)
  rw [lg_entry_eq]
  generalize (lg_sl ([.int v, .int md, .int b]) ++ List.replicate (5 - (lg_sl ([.int v, .int md, .int b])).length) Slot.unset).toArray = ls at hl ⊢
  have hl : lv_has ls 5 [(0, .int v), (1, .int md), (2, .int b)] := hl
  refine lv_iload_n hx hb dX0_gives_0 rfl (lv_at hl 0 rfl) ?_
  refine lv_bipush (v := 27) hx hb dX0_gives_1 (by decide) ?_
  refine lv_iushr (v := (jushr v 27)) hx hb dX0_gives_3 rfl ?_
  refine lv_bipush (v := 15) hx hb dX0_gives_4 (by decide) ?_
  refine lv_iand hx hb dX0_gives_6 ?_
  refine lv_istore_n (lv' := [(3, .int ((jushr v 27) &&& 15)), (0, .int v), (1, .int md), (2, .int b)]) hx hb dX0_gives_7 rfl hl (by decide) rfl (fun ls hl => ?_)
  refine lv_iload_n hx hb dX0_gives_8 rfl (lv_at hl 3 rfl) ?_
  refine lv_if_eq (tgt := 20) hx hb dX0_gives_9 (by decide) (fun c_1 => ?_) (fun c_1 => ?_)
  · refine va_gets hx hb hST.2.2.1 hS hown (hts _ bX0_15) (fun _ h9 => h9) dX0_gives_20 ?_
    refine lv_iload_n hx hb dX0_gives_23 rfl (lv_at hl 0 rfl) ?_
    refine va_ti (v := .int (x_mr (((jushr v 27) &&& 15)).toNatClampNeg)) hx hb hST.2.2.2 hS (x_code_in v) rfl dX0_gives_24 ?_
    refine lv_istore (lv' := [(4, .int (x_mr (((jushr v 27) &&& 15)).toNatClampNeg)), (3, .int ((jushr v 27) &&& 15)), (0, .int v), (1, .int md), (2, .int b)]) hx hb dX0_gives_25 hl (by decide) rfl (fun ls hl => ?_)
    refine lv_iload_n hx hb dX0_gives_27 rfl (lv_at hl 3 rfl) ?_
    refine lv_iconst (v := 3) hx hb dX0_gives_28 (by decide) ?_
    refine lv_iand hx hb dX0_gives_29 ?_
    refine lv_iload hx hb dX0_gives_30 (lv_at hl 0 rfl) ?_
    refine lv_icmp_gt (tgt := 39) hx hb dX0_gives_32 (by decide) (fun c_2 => ?_) (fun c_2 => ?_)
    · refine lv_iconst (v := 0) hx hb dX0_gives_39 (by decide) ?_
      exact W.zret (ty := .boolean) (v := 0) hx hb hr rfl (fun t ht _ => ⟨0, rfl, (if_pos c_1).trans ((if_pos c_2).trans rfl), ht⟩) t_nil dX0_gives_40
    · refine lv_iconst (v := 1) hx hb dX0_gives_35 (by decide) ?_
      refine lv_goto (tgt := 40) hx hb dX0_gives_36 (by decide) ?_
      exact W.zret (ty := .boolean) (v := 1) hx hb hr rfl (fun t ht _ => ⟨1, rfl, (if_pos c_1).trans ((if_neg c_2).trans rfl), ht⟩) t_nil dX0_gives_40
  · refine va_gets hx hb hST.1 hS hown (hts _ bX0_14) (fun _ h9 => h9) dX0_gives_12 ?_
    refine lv_iload_n hx hb dX0_gives_15 rfl (lv_at hl 0 rfl) ?_
    refine va_ti (v := .int (x_mw (((jushr v 27) &&& 15)).toNatClampNeg)) hx hb hST.2.1 hS (x_code_in v) rfl dX0_gives_16 ?_
    refine lv_goto (tgt := 25) hx hb dX0_gives_17 (by decide) ?_
    refine lv_istore (lv' := [(4, .int (x_mw (((jushr v 27) &&& 15)).toNatClampNeg)), (3, .int ((jushr v 27) &&& 15)), (0, .int v), (1, .int md), (2, .int b)]) hx hb dX0_gives_25 hl (by decide) rfl (fun ls hl => ?_)
    refine lv_iload_n hx hb dX0_gives_27 rfl (lv_at hl 3 rfl) ?_
    refine lv_iconst (v := 3) hx hb dX0_gives_28 (by decide) ?_
    refine lv_iand hx hb dX0_gives_29 ?_
    refine lv_iload hx hb dX0_gives_30 (lv_at hl 0 rfl) ?_
    refine lv_icmp_gt (tgt := 39) hx hb dX0_gives_32 (by decide) (fun c_3 => ?_) (fun c_3 => ?_)
    · refine lv_iconst (v := 0) hx hb dX0_gives_39 (by decide) ?_
      exact W.zret (ty := .boolean) (v := 0) hx hb hr rfl (fun t ht _ => ⟨0, rfl, (if_neg c_1).trans ((if_pos c_3).trans rfl), ht⟩) t_nil dX0_gives_40
    · refine lv_iconst (v := 1) hx hb dX0_gives_35 (by decide) ?_
      refine lv_goto (tgt := 40) hx hb dX0_gives_36 (by decide) ?_
      exact W.zret (ty := .boolean) (v := 1) hx hb hr rfl (fun t ht _ => ⟨1, rfl, (if_neg c_1).trans ((if_neg c_3).trans rfl), ht⟩) t_nil dX0_gives_40
set_option maxHeartbeats 4000000 in
set_option maxRecDepth 100000 in
theorem c_x_counts (l : Launch) (dC : Nat → ClassId) (dI : Nat → Nat → Nat) (h : Nat → Nat) (cB cI : ClassId) (n : Nat) (σ : XS) (k : Int32) (a : Int32) (hk : vp_in k 16) : Met l yX0_counts wsX0_counts ({ frames := 0, cells := 0, slots := 0, locals := 0 }) (va_Pc [.ref (h 0), .int k, .int a] (x_BP dC dI h cB cI n σ)) (vp_Si (fun r => x_counts n σ k a = r)) 0 0 (fun _ => False) := by
  refine Met.ofW (cc := cX0_counts) (maxL := 3) (ret := (some .boolean)) (by decide) rfl ?_
  intro p e s m args below meth c s₁ B hml hv
  obtain ⟨rfl, hP, hK⟩ := hv
  have hx := B.exec
  have hb := B.bytes
  have hr := B.returns
  have hts : ∀ w ∈ bX0, w.before _ s = true := fun w h => atoms_spec (ws := wsX0_counts) B.pre w (List.mem_cons_of_mem _ h)
  have hown : s.vm.findClass RX0 = some m.cls := findClass_of_methodNamed B.named
  have hlocks := B.notSynchronized
  have hl := lv_entry ([.ref (h 0), .int k, .int a]) (n := 3) (Nat.le_of_ble_eq_true rfl)
  rw [lg_entry_eq]
  generalize (lg_sl ([.ref (h 0), .int k, .int a]) ++ List.replicate (3 - (lg_sl ([.ref (h 0), .int k, .int a])).length) Slot.unset).toArray = ls at hl ⊢
  have hl : lv_has ls 3 [(0, .ref (h 0)), (1, .int k), (2, .int a)] := hl
  refine lv_aload_n hx hb dX0_counts_0 rfl (lv_at hl 0 rfl) ?_
  refine va_get (D := (dC, dI)) (ci := 0) (v := .ref (h 4)) (C := RX0) (T := TX0) (N := 9) hx hb hts inbX0 hown hK hP 0 rfl rfl 5 (by decide) (hts _ bX0_5) (fun _ h9 => h9) rfl dX0_counts_1 ?_
  refine lv_iload_n hx hb dX0_counts_4 rfl (lv_at hl 1 rfl) ?_
  refine va_iald hx hb hK hP 4 1 rfl rfl hk dX0_counts_5 ?_
  refine lv_iload_n hx hb dX0_counts_6 rfl (lv_at hl 2 rfl) ?_
  refine lv_bipush (v := 16) hx hb dX0_counts_7 (by decide) ?_
  refine lv_idiv hx hb dX0_counts_9 (by decide) ?_
  refine lv_icmp_ne (tgt := 17) hx hb dX0_counts_10 (by decide) (fun c_1 => ?_) (fun c_1 => ?_)
  · refine lv_iconst (v := 0) hx hb dX0_counts_17 (by decide) ?_
    exact W.zret (ty := .boolean) (v := 0) hx hb hr rfl (fun t ht _ => ⟨0, rfl, (if_neg c_1).trans rfl, ht⟩) t_nil dX0_counts_18
  · refine lv_iconst (v := 1) hx hb dX0_counts_13 (by decide) ?_
    refine lv_goto (tgt := 18) hx hb dX0_counts_14 (by decide) ?_
    exact W.zret (ty := .boolean) (v := 1) hx hb hr rfl (fun t ht _ => ⟨1, rfl, (if_pos c_1).trans rfl, ht⟩) t_nil dX0_counts_18
set_option maxHeartbeats 4000000 in
set_option maxRecDepth 100000 in
theorem c_x_inside (l : Launch) (dC : Nat → ClassId) (dI : Nat → Nat → Nat) (h : Nat → Nat) (cB cI : ClassId) (n : Nat) (σ : XS) (rg : Int32) (g : Int32) (hk : vp_in rg 4) : Met l yX0_inside wsX0_inside ({ frames := 0, cells := 0, slots := 0, locals := 0 }) (va_Pc [.ref (h 0), .int rg, .int g] (x_BP dC dI h cB cI n σ)) (vp_Si (fun r => x_inside n σ rg g = r)) 0 0 (fun _ => False) := by
  refine Met.ofW (cc := cX0_inside) (maxL := 3) (ret := (some .boolean)) (by decide) rfl ?_
  intro p e s m args below meth c s₁ B hml hv
  obtain ⟨rfl, hP, hK⟩ := hv
  have hx := B.exec
  have hb := B.bytes
  have hr := B.returns
  have hts : ∀ w ∈ bX0, w.before _ s = true := fun w h => atoms_spec (ws := wsX0_inside) B.pre w (List.mem_cons_of_mem _ h)
  have hown : s.vm.findClass RX0 = some m.cls := findClass_of_methodNamed B.named
  have hlocks := B.notSynchronized
  have hl := lv_entry ([.ref (h 0), .int rg, .int g]) (n := 3) (Nat.le_of_ble_eq_true rfl)
  rw [lg_entry_eq]
  generalize (lg_sl ([.ref (h 0), .int rg, .int g]) ++ List.replicate (3 - (lg_sl ([.ref (h 0), .int rg, .int g])).length) Slot.unset).toArray = ls at hl ⊢
  have hl : lv_has ls 3 [(0, .ref (h 0)), (1, .int rg), (2, .int g)] := hl
  refine lv_iload_n hx hb dX0_inside_0 rfl (lv_at hl 1 rfl) ?_
  refine lv_iconst (v := 3) hx hb dX0_inside_1 (by decide) ?_
  refine lv_icmp_lt (tgt := 7) hx hb dX0_inside_2 (by decide) (fun c_1 => ?_) (fun c_1 => ?_)
  · refine lv_iload_n hx hb dX0_inside_7 rfl (lv_at hl 1 rfl) ?_
    refine lv_iconst (v := 1) hx hb dX0_inside_8 (by decide) ?_
    refine lv_icmp_ne (tgt := 30) hx hb dX0_inside_9 (by decide) (fun c_2 => ?_) (fun c_2 => ?_)
    · refine lv_iload_n hx hb dX0_inside_30 rfl (lv_at hl 2 rfl) ?_
      refine lv_aload_n hx hb dX0_inside_31 rfl (lv_at hl 0 rfl) ?_
      refine va_get (D := (dC, dI)) (ci := 0) (v := .ref (h 3)) (C := RX0) (T := TX0) (N := 9) hx hb hts inbX0 hown hK hP 0 rfl rfl 2 (by decide) (hts _ bX0_2) (fun _ h9 => h9) rfl dX0_inside_32 ?_
      refine lv_iload_n hx hb dX0_inside_35 rfl (lv_at hl 1 rfl) ?_
      refine va_iald hx hb hK hP 3 1 rfl rfl (x_r3 hk c_1) dX0_inside_36 ?_
      refine lv_icmp_ge (tgt := 44) hx hb dX0_inside_37 (by decide) (fun c_3 => ?_) (fun c_3 => ?_)
      · refine lv_iconst (v := 0) hx hb dX0_inside_44 (by decide) ?_
        exact W.zret (ty := .boolean) (v := 0) hx hb hr rfl (fun t ht _ => ⟨0, rfl, (if_pos c_1).trans ((if_neg c_2).trans ((if_pos c_3).trans rfl)), ht⟩) t_nil dX0_inside_45
      · refine lv_iconst (v := 1) hx hb dX0_inside_40 (by decide) ?_
        refine lv_goto (tgt := 45) hx hb dX0_inside_41 (by decide) ?_
        exact W.zret (ty := .boolean) (v := 1) hx hb hr rfl (fun t ht _ => ⟨1, rfl, (if_pos c_1).trans ((if_neg c_2).trans ((if_neg c_3).trans rfl)), ht⟩) t_nil dX0_inside_45
    · refine lv_iload_n hx hb dX0_inside_12 rfl (lv_at hl 2 rfl) ?_
      refine lv_aload_n hx hb dX0_inside_13 rfl (lv_at hl 0 rfl) ?_
      refine va_get (D := (dC, dI)) (ci := 0) (v := .ref (h 3)) (C := RX0) (T := TX0) (N := 9) hx hb hts inbX0 hown hK hP 0 rfl rfl 2 (by decide) (hts _ bX0_2) (fun _ h9 => h9) rfl dX0_inside_14 ?_
      refine lv_iload_n hx hb dX0_inside_17 rfl (lv_at hl 1 rfl) ?_
      refine va_iald hx hb hK hP 3 1 rfl rfl (x_r3 hk c_1) dX0_inside_18 ?_
      refine lv_icmp_lt (tgt := 26) hx hb dX0_inside_19 (by decide) (fun c_4 => ?_) (fun c_4 => ?_)
      · refine lv_iconst (v := 0) hx hb dX0_inside_26 (by decide) ?_
        refine lv_goto (tgt := 45) hx hb dX0_inside_27 (by decide) ?_
        exact W.zret (ty := .boolean) (v := 0) hx hb hr rfl (fun t ht _ => ⟨0, rfl, (if_pos c_1).trans ((if_pos c_2).trans ((if_pos c_4).trans rfl)), ht⟩) t_nil dX0_inside_45
      · refine lv_iconst (v := 1) hx hb dX0_inside_22 (by decide) ?_
        refine lv_goto (tgt := 45) hx hb dX0_inside_23 (by decide) ?_
        exact W.zret (ty := .boolean) (v := 1) hx hb hr rfl (fun t ht _ => ⟨1, rfl, (if_pos c_1).trans ((if_pos c_2).trans ((if_neg c_4).trans rfl)), ht⟩) t_nil dX0_inside_45
  · refine lv_iconst (v := 0) hx hb dX0_inside_5 (by decide) ?_
    exact W.zret (ty := .boolean) (v := 0) hx hb hr rfl (fun t ht _ => ⟨0, rfl, (if_neg c_1).trans rfl, ht⟩) t_nil dX0_inside_6
set_option maxHeartbeats 4000000 in
set_option maxRecDepth 100000 in
theorem c_x_inMemory (l : Launch) (dC : Nat → ClassId) (dI : Nat → Nat → Nat) (h : Nat → Nat) (cB cI : ClassId) (n : Nat) (σ : XS) (a : Int32) (k : Int32) : Met l yX0_inMemory wsX0_inMemory ({ frames := 0, cells := 0, slots := 0, locals := 0 }) (va_Pc [.ref (h 0), .int a, .int k] (x_BP dC dI h cB cI n σ)) (vp_Si (fun r => x_inMemory n σ a k = r)) 0 0 (fun _ => False) := by
  refine Met.ofW (cc := cX0_inMemory) (maxL := 3) (ret := (some .boolean)) (by decide) rfl ?_
  intro p e s m args below meth c s₁ B hml hv
  obtain ⟨rfl, hP, hK⟩ := hv
  have hx := B.exec
  have hb := B.bytes
  have hr := B.returns
  have hts : ∀ w ∈ bX0, w.before _ s = true := fun w h => atoms_spec (ws := wsX0_inMemory) B.pre w (List.mem_cons_of_mem _ h)
  have hown : s.vm.findClass RX0 = some m.cls := findClass_of_methodNamed B.named
  have hlocks := B.notSynchronized
  have hl := lv_entry ([.ref (h 0), .int a, .int k]) (n := 3) (Nat.le_of_ble_eq_true rfl)
  rw [lg_entry_eq]
  generalize (lg_sl ([.ref (h 0), .int a, .int k]) ++ List.replicate (3 - (lg_sl ([.ref (h 0), .int a, .int k])).length) Slot.unset).toArray = ls at hl ⊢
  have hl : lv_has ls 3 [(0, .ref (h 0)), (1, .int a), (2, .int k)] := hl
  refine lv_iload_n hx hb dX0_inMemory_0 rfl (lv_at hl 1 rfl) ?_
  refine lv_if_lt (tgt := 19) hx hb dX0_inMemory_1 (by decide) (fun c_1 => ?_) (fun c_1 => ?_)
  · refine lv_iconst (v := 0) hx hb dX0_inMemory_19 (by decide) ?_
    exact W.zret (ty := .boolean) (v := 0) hx hb hr rfl (fun t ht _ => ⟨0, rfl, (if_pos c_1).trans rfl, ht⟩) t_nil dX0_inMemory_20
  · refine lv_iload_n hx hb dX0_inMemory_4 rfl (lv_at hl 1 rfl) ?_
    refine lv_aload_n hx hb dX0_inMemory_5 rfl (lv_at hl 0 rfl) ?_
    refine va_get (D := (dC, dI)) (ci := 0) (v := .ref (h 1)) (C := RX0) (T := TX0) (N := 9) hx hb hts inbX0 hown hK hP 0 rfl rfl 0 (by decide) (hts _ bX0_0) (fun _ h9 => h9) rfl dX0_inMemory_6 ?_
    refine va_alen (v := (nI n)) hx hb hK hP 1 0 rfl rfl rfl dX0_inMemory_9 ?_
    refine lv_iload_n hx hb dX0_inMemory_10 rfl (lv_at hl 2 rfl) ?_
    refine lv_isub hx hb dX0_inMemory_11 ?_
    refine lv_icmp_gt (tgt := 19) hx hb dX0_inMemory_12 (by decide) (fun c_2 => ?_) (fun c_2 => ?_)
    · refine lv_iconst (v := 0) hx hb dX0_inMemory_19 (by decide) ?_
      exact W.zret (ty := .boolean) (v := 0) hx hb hr rfl (fun t ht _ => ⟨0, rfl, (if_neg c_1).trans ((if_pos c_2).trans rfl), ht⟩) t_nil dX0_inMemory_20
    · refine lv_iconst (v := 1) hx hb dX0_inMemory_15 (by decide) ?_
      refine lv_goto (tgt := 20) hx hb dX0_inMemory_16 (by decide) ?_
      exact W.zret (ty := .boolean) (v := 1) hx hb hr rfl (fun t ht _ => ⟨1, rfl, (if_neg c_1).trans ((if_neg c_2).trans rfl), ht⟩) t_nil dX0_inMemory_20
set_option maxHeartbeats 4000000 in
set_option maxRecDepth 100000 in
theorem c_x_byteAt (l : Launch) (dC : Nat → ClassId) (dI : Nat → Nat → Nat) (h : Nat → Nat) (cB cI : ClassId) (n : Nat) (σ : XS) (a : Int32) (hk : vp_in a n) : Met l yX0_byteAt wsX0_byteAt ({ frames := 0, cells := 0, slots := 0, locals := 0 }) (va_Pc [.ref (h 0), .int a] (x_BP dC dI h cB cI n σ)) (vp_Si (fun r => x_byteAt n σ a = r)) 0 0 (fun _ => False) := by
  refine Met.ofW (cc := cX0_byteAt) (maxL := 2) (ret := (some .int)) (by decide) rfl ?_
  intro p e s m args below meth c s₁ B hml hv
  obtain ⟨rfl, hP, hK⟩ := hv
  have hx := B.exec
  have hb := B.bytes
  have hr := B.returns
  have hts : ∀ w ∈ bX0, w.before _ s = true := fun w h => atoms_spec (ws := wsX0_byteAt) B.pre w (List.mem_cons_of_mem _ h)
  have hown : s.vm.findClass RX0 = some m.cls := findClass_of_methodNamed B.named
  have hlocks := B.notSynchronized
  have hl := lv_entry ([.ref (h 0), .int a]) (n := 2) (Nat.le_of_ble_eq_true rfl)
  rw [lg_entry_eq]
  generalize (lg_sl ([.ref (h 0), .int a]) ++ List.replicate (2 - (lg_sl ([.ref (h 0), .int a])).length) Slot.unset).toArray = ls at hl ⊢
  have hl : lv_has ls 2 [(0, .ref (h 0)), (1, .int a)] := hl
  refine lv_aload_n hx hb dX0_byteAt_0 rfl (lv_at hl 0 rfl) ?_
  refine va_get (D := (dC, dI)) (ci := 0) (v := .ref (h 1)) (C := RX0) (T := TX0) (N := 9) hx hb hts inbX0 hown hK hP 0 rfl rfl 0 (by decide) (hts _ bX0_0) (fun _ h9 => h9) rfl dX0_byteAt_1 ?_
  refine lv_iload_n hx hb dX0_byteAt_4 rfl (lv_at hl 1 rfl) ?_
  refine va_bald hx hb hK hP 1 0 rfl rfl hk dX0_byteAt_5 ?_
  refine lv_sipush (v := 255) hx hb dX0_byteAt_6 (by decide) ?_
  refine lv_iand hx hb dX0_byteAt_9 ?_
  exact W.iret (v := ((x_mem σ (a).toNatClampNeg) &&& 255)) hx hb hr (fun t ht _ => ⟨((x_mem σ (a).toNatClampNeg) &&& 255), rfl, rfl, ht⟩) t_nil dX0_byteAt_10
set_option maxHeartbeats 4000000 in
set_option maxRecDepth 100000 in
theorem c_x_entryAt (l : Launch) (dC : Nat → ClassId) (dI : Nat → Nat → Nat) (h : Nat → Nat) (cB cI : ClassId) (n : Nat) (σ : XS) (a : Int32) (hk : x_in4 n a) : Met l yX0_entryAt wsX0_entryAt ({ frames := 1, cells := 0, slots := 0, locals := 21 }) (va_Pc [.ref (h 0), .int a] (x_BP dC dI h cB cI n σ)) (vp_Si (fun r => x_entryAt n σ a = r)) 0 0 (fun _ => False) := by
  refine Met.ofW (cc := cX0_entryAt) (maxL := 2) (ret := (some .int)) (by decide) rfl ?_
  intro p e s m args below meth c s₁ B hml hv
  obtain ⟨rfl, hP, hK⟩ := hv
  have hx := B.exec
  have hb := B.bytes
  have hr := B.returns
  have hts : ∀ w ∈ bX0, w.before _ s = true := fun w h => atoms_spec (ws := wsX0_entryAt) B.pre w (List.mem_cons_of_mem _ h)
  have hown : s.vm.findClass RX0 = some m.cls := findClass_of_methodNamed B.named
  have hlocks := B.notSynchronized
  have hl := lv_entry ([.ref (h 0), .int a]) (n := 2) (Nat.le_of_ble_eq_true rfl)
  rw [lg_entry_eq]
  generalize (lg_sl ([.ref (h 0), .int a]) ++ List.replicate (2 - (lg_sl ([.ref (h 0), .int a])).length) Slot.unset).toArray = ls at hl ⊢
  have hl : lv_has ls 2 [(0, .ref (h 0)), (1, .int a)] := hl
  refine lv_aload_n hx hb dX0_entryAt_0 rfl (lv_at hl 0 rfl) ?_
  refine lv_iload_n hx hb dX0_entryAt_1 rfl (lv_at hl 1 rfl) ?_
  refine vp_callSi (W.runV (C := RX0) (As := [.int a]) (rest := []) ⟨hx, hb, hml, hown, hts⟩ (c_x_byteAt l dC dI h cB cI n σ a hk.1) (cwV 1 hts gX0_X0_byteAt rfl rfl rfl (by decide +kernel) ⟨Nat.le_of_ble_eq_true rfl, Nat.le_of_ble_eq_true rfl⟩) (x_preP hK hP) rfl rfl hl.1 rfl (lv_room (Nat.le_of_ble_eq_true rfl)) dX0_entryAt_2 ⟨Nat.zero_le _, Nat.zero_le _⟩) (fun r er => ?_)
  subst er
  refine lv_aload_n hx hb dX0_entryAt_5 rfl (lv_at hl 0 rfl) ?_
  refine lv_iload_n hx hb dX0_entryAt_6 rfl (lv_at hl 1 rfl) ?_
  refine lv_iconst (v := 1) hx hb dX0_entryAt_7 (by decide) ?_
  refine lv_iadd hx hb dX0_entryAt_8 ?_
  refine vp_callSi (W.runV (C := RX0) (As := [.int (a + 1)]) (rest := [.int (x_byteAt n σ a)]) ⟨hx, hb, hml, hown, hts⟩ (c_x_byteAt l dC dI h cB cI n σ (a + 1) hk.2.1) (cwV 1 hts gX0_X0_byteAt rfl rfl rfl (by decide +kernel) ⟨Nat.le_of_ble_eq_true rfl, Nat.le_of_ble_eq_true rfl⟩) (x_preP hK hP) rfl rfl hl.1 rfl (lv_room (Nat.le_of_ble_eq_true rfl)) dX0_entryAt_9 ⟨Nat.zero_le _, Nat.zero_le _⟩) (fun r er => ?_)
  subst er
  refine lv_bipush (v := 8) hx hb dX0_entryAt_12 (by decide) ?_
  refine lv_ishl hx hb dX0_entryAt_14 ?_
  refine lv_ior hx hb dX0_entryAt_15 ?_
  refine lv_aload_n hx hb dX0_entryAt_16 rfl (lv_at hl 0 rfl) ?_
  refine lv_iload_n hx hb dX0_entryAt_17 rfl (lv_at hl 1 rfl) ?_
  refine lv_iconst (v := 2) hx hb dX0_entryAt_18 (by decide) ?_
  refine lv_iadd hx hb dX0_entryAt_19 ?_
  refine vp_callSi (W.runV (C := RX0) (As := [.int (a + 2)]) (rest := [.int ((x_byteAt n σ a) ||| ((x_byteAt n σ (a + 1)) <<< (8 &&& 31)))]) ⟨hx, hb, hml, hown, hts⟩ (c_x_byteAt l dC dI h cB cI n σ (a + 2) hk.2.2.1) (cwV 1 hts gX0_X0_byteAt rfl rfl rfl (by decide +kernel) ⟨Nat.le_of_ble_eq_true rfl, Nat.le_of_ble_eq_true rfl⟩) (x_preP hK hP) rfl rfl hl.1 rfl (lv_room (Nat.le_of_ble_eq_true rfl)) dX0_entryAt_20 ⟨Nat.zero_le _, Nat.zero_le _⟩) (fun r er => ?_)
  subst er
  refine lv_bipush (v := 16) hx hb dX0_entryAt_23 (by decide) ?_
  refine lv_ishl hx hb dX0_entryAt_25 ?_
  refine lv_ior hx hb dX0_entryAt_26 ?_
  refine lv_aload_n hx hb dX0_entryAt_27 rfl (lv_at hl 0 rfl) ?_
  refine lv_iload_n hx hb dX0_entryAt_28 rfl (lv_at hl 1 rfl) ?_
  refine lv_iconst (v := 3) hx hb dX0_entryAt_29 (by decide) ?_
  refine lv_iadd hx hb dX0_entryAt_30 ?_
  refine vp_callSi (W.runV (C := RX0) (As := [.int (a + 3)]) (rest := [.int (((x_byteAt n σ a) ||| ((x_byteAt n σ (a + 1)) <<< (8 &&& 31))) ||| ((x_byteAt n σ (a + 2)) <<< (16 &&& 31)))]) ⟨hx, hb, hml, hown, hts⟩ (c_x_byteAt l dC dI h cB cI n σ (a + 3) hk.2.2.2) (cwV 1 hts gX0_X0_byteAt rfl rfl rfl (by decide +kernel) ⟨Nat.le_of_ble_eq_true rfl, Nat.le_of_ble_eq_true rfl⟩) (x_preP hK hP) rfl rfl hl.1 rfl (lv_room (Nat.le_of_ble_eq_true rfl)) dX0_entryAt_31 ⟨Nat.zero_le _, Nat.zero_le _⟩) (fun r er => ?_)
  subst er
  refine lv_bipush (v := 24) hx hb dX0_entryAt_34 (by decide) ?_
  refine lv_ishl hx hb dX0_entryAt_36 ?_
  refine lv_ior hx hb dX0_entryAt_37 ?_
  exact W.iret (v := ((((x_byteAt n σ a) ||| ((x_byteAt n σ (a + 1)) <<< (8 &&& 31))) ||| ((x_byteAt n σ (a + 2)) <<< (16 &&& 31))) ||| ((x_byteAt n σ (a + 3)) <<< (24 &&& 31)))) hx hb hr (fun t ht _ => ⟨((((x_byteAt n σ a) ||| ((x_byteAt n σ (a + 1)) <<< (8 &&& 31))) ||| ((x_byteAt n σ (a + 2)) <<< (16 &&& 31))) ||| ((x_byteAt n σ (a + 3)) <<< (24 &&& 31))), rfl, rfl, ht⟩) t_nil dX0_entryAt_38
set_option maxHeartbeats 4000000 in
set_option maxRecDepth 100000 in
theorem c_x_entryOf (l : Launch) (dC : Nat → ClassId) (dI : Nat → Nat → Nat) (h : Nat → Nat) (cB cI : ClassId) (n : Nat) (σ : XS) (a : Int32) (hn : n ≤ 2048) : Met l yX0_entryOf wsX0_entryOf ({ frames := 2, cells := 0, slots := 0, locals := 42 }) (va_Pc [.ref (h 0), .int a] (x_BP dC dI h cB cI n σ)) (vp_Sl (fun r => x_entryOf n σ a = r)) 0 0 (fun _ => False) := by
  refine Met.ofW (cc := cX0_entryOf) (maxL := 2) (ret := (some .long)) (by decide) rfl ?_
  intro p e s m args below meth c s₁ B hml hv
  obtain ⟨rfl, hP, hK⟩ := hv
  have hx := B.exec
  have hb := B.bytes
  have hr := B.returns
  have hts : ∀ w ∈ bX0, w.before _ s = true := fun w h => atoms_spec (ws := wsX0_entryOf) B.pre w (List.mem_cons_of_mem _ h)
  have hown : s.vm.findClass RX0 = some m.cls := findClass_of_methodNamed B.named
  have hlocks := B.notSynchronized
  have hl := lv_entry ([.ref (h 0), .int a]) (n := 2) (Nat.le_of_ble_eq_true rfl)
  rw [lg_entry_eq]
  generalize (lg_sl ([.ref (h 0), .int a]) ++ List.replicate (2 - (lg_sl ([.ref (h 0), .int a])).length) Slot.unset).toArray = ls at hl ⊢
  have hl : lv_has ls 2 [(0, .ref (h 0)), (1, .int a)] := hl
  refine lv_aload_n hx hb dX0_entryOf_0 rfl (lv_at hl 0 rfl) ?_
  refine lv_iload_n hx hb dX0_entryOf_1 rfl (lv_at hl 1 rfl) ?_
  refine lv_iconst (v := 4) hx hb dX0_entryOf_2 (by decide) ?_
  refine vp_callSi (W.runV (C := RX0) (As := [.int a, .int 4]) (rest := []) ⟨hx, hb, hml, hown, hts⟩ (c_x_inMemory l dC dI h cB cI n σ a 4 ) (cwV 2 hts gX0_X0_inMemory rfl rfl rfl (by decide +kernel) ⟨Nat.le_of_ble_eq_true rfl, Nat.le_of_ble_eq_true rfl⟩) (x_preP hK hP) rfl rfl hl.1 rfl (lv_room (Nat.le_of_ble_eq_true rfl)) dX0_entryOf_3 ⟨Nat.zero_le _, Nat.zero_le _⟩) (fun r er => ?_)
  subst er
  refine lv_if_eq (tgt := 22) hx hb dX0_entryOf_6 (by decide) (fun c_1 => ?_) (fun c_1 => ?_)
  · refine lv_ldc2 (v := (-1)) hx hb hown (hts _ bX0_10) dX0_entryOf_22 ?_
    exact W.lret (v := (-1)) hx hb hr (fun t ht _ => ⟨(-1), rfl, (if_pos c_1).trans rfl, ht⟩) t_nil dX0_entryOf_25
  · refine lv_aload_n hx hb dX0_entryOf_9 rfl (lv_at hl 0 rfl) ?_
    refine lv_iload_n hx hb dX0_entryOf_10 rfl (lv_at hl 1 rfl) ?_
    refine vp_callSi (W.runV (C := RX0) (As := [.int a]) (rest := []) ⟨hx, hb, hml, hown, hts⟩ (c_x_entryAt l dC dI h cB cI n σ a (x_inM4 hn c_1)) (cwV 1 hts gX0_X0_entryAt rfl rfl rfl (by decide +kernel) ⟨Nat.le_of_ble_eq_true rfl, Nat.le_of_ble_eq_true rfl⟩) (x_preP hK hP) rfl rfl hl.1 rfl (lv_room (Nat.le_of_ble_eq_true rfl)) dX0_entryOf_11 ⟨Nat.zero_le _, Nat.zero_le _⟩) (fun r er => ?_)
    subst er
    refine lv_i2l (v := (((x_entryAt n σ a)).toInt64)) hx hb dX0_entryOf_14 rfl ?_
    refine lv_ldc2 (v := 4294967295) hx hb hown (hts _ bX0_9) dX0_entryOf_15 ?_
    refine lv_land hx hb dX0_entryOf_18 ?_
    refine lv_goto (tgt := 25) hx hb dX0_entryOf_19 (by decide) ?_
    exact W.lret (v := ((((x_entryAt n σ a)).toInt64) &&& 4294967295)) hx hb hr (fun t ht _ => ⟨((((x_entryAt n σ a)).toInt64) &&& 4294967295), rfl, (if_neg c_1).trans rfl, ht⟩) t_nil dX0_entryOf_25
set_option maxHeartbeats 4000000 in
set_option maxRecDepth 100000 in
theorem c_x_kept (l : Launch) (dC : Nat → ClassId) (dI : Nat → Nat → Nat) (h : Nat → Nat) (cB cI : ClassId) (n : Nat) (σ : XS) (i : Int32) (k : Int32) : Met l yX0_kept wsX0_kept ({ frames := 0, cells := 0, slots := 0, locals := 0 }) (va_Pc [.ref (h 0), .int i, .int k] (x_BP dC dI h cB cI n σ)) (vp_Sl (fun r => x_kept n σ i k = r)) 0 0 (fun _ => False) := by
  refine Met.ofW (cc := cX0_kept) (maxL := 4) (ret := (some .long)) (by decide) rfl ?_
  intro p e s m args below meth c s₁ B hml hv
  obtain ⟨rfl, hP, hK⟩ := hv
  have hx := B.exec
  have hb := B.bytes
  have hr := B.returns
  have hts : ∀ w ∈ bX0, w.before _ s = true := fun w h => atoms_spec (ws := wsX0_kept) B.pre w (List.mem_cons_of_mem _ h)
  have hown : s.vm.findClass RX0 = some m.cls := findClass_of_methodNamed B.named
  have hlocks := B.notSynchronized
  have hl := lv_entry ([.ref (h 0), .int i, .int k]) (n := 4) (Nat.le_of_ble_eq_true rfl)
  rw [lg_entry_eq]
  generalize (lg_sl ([.ref (h 0), .int i, .int k]) ++ List.replicate (4 - (lg_sl ([.ref (h 0), .int i, .int k])).length) Slot.unset).toArray = ls at hl ⊢
  have hl : lv_has ls 4 [(0, .ref (h 0)), (1, .int i), (2, .int k)] := hl
  refine lv_iload_n hx hb dX0_kept_0 rfl (lv_at hl 1 rfl) ?_
  refine lv_if_lt (tgt := 19) hx hb dX0_kept_1 (by decide) (fun c_1 => ?_) (fun c_1 => ?_)
  · refine lv_ldc2 (v := (-1)) hx hb hown (hts _ bX0_10) dX0_kept_19 ?_
    exact W.lret (v := (-1)) hx hb hr (fun t ht _ => ⟨(-1), rfl, (if_pos c_1).trans rfl, ht⟩) t_nil dX0_kept_22
  · refine lv_iload_n hx hb dX0_kept_4 rfl (lv_at hl 1 rfl) ?_
    refine lv_bipush (v := 16) hx hb dX0_kept_5 (by decide) ?_
    refine lv_icmp_ge (tgt := 19) hx hb dX0_kept_7 (by decide) (fun c_2 => ?_) (fun c_2 => ?_)
    · refine lv_ldc2 (v := (-1)) hx hb hown (hts _ bX0_10) dX0_kept_19 ?_
      exact W.lret (v := (-1)) hx hb hr (fun t ht _ => ⟨(-1), rfl, (if_neg c_1).trans ((if_pos c_2).trans rfl), ht⟩) t_nil dX0_kept_22
    · refine lv_iload_n hx hb dX0_kept_10 rfl (lv_at hl 2 rfl) ?_
      refine lv_if_lt (tgt := 19) hx hb dX0_kept_11 (by decide) (fun c_3 => ?_) (fun c_3 => ?_)
      · refine lv_ldc2 (v := (-1)) hx hb hown (hts _ bX0_10) dX0_kept_19 ?_
        exact W.lret (v := (-1)) hx hb hr (fun t ht _ => ⟨(-1), rfl, (if_neg c_1).trans ((if_neg c_2).trans ((if_pos c_3).trans rfl)), ht⟩) t_nil dX0_kept_22
      · refine lv_iload_n hx hb dX0_kept_14 rfl (lv_at hl 2 rfl) ?_
        refine lv_iconst (v := 2) hx hb dX0_kept_15 (by decide) ?_
        refine lv_icmp_le (tgt := 23) hx hb dX0_kept_16 (by decide) (fun c_4 => ?_) (fun c_4 => ?_)
        · refine lv_aload_n hx hb dX0_kept_23 rfl (lv_at hl 0 rfl) ?_
          refine va_get (D := (dC, dI)) (ci := 0) (v := .ref (h 4)) (C := RX0) (T := TX0) (N := 9) hx hb hts inbX0 hown hK hP 0 rfl rfl 5 (by decide) (hts _ bX0_5) (fun _ h9 => h9) rfl dX0_kept_24 ?_
          refine lv_iload_n hx hb dX0_kept_27 rfl (lv_at hl 1 rfl) ?_
          refine va_iald hx hb hK hP 4 1 rfl rfl (x_i16 c_1 c_2) dX0_kept_28 ?_
          refine lv_iconst (v := (-1)) hx hb dX0_kept_29 (by decide) ?_
          refine lv_icmp_eq (tgt := 37) hx hb dX0_kept_30 (by decide) (fun c_5 => ?_) (fun c_5 => ?_)
          · refine lv_iconst (v := 0) hx hb dX0_kept_37 (by decide) ?_
            refine lv_istore_n (lv' := [(3, .int 0), (0, .ref (h 0)), (1, .int i), (2, .int k)]) hx hb dX0_kept_38 rfl hl (by decide) rfl (fun ls hl => ?_)
            refine lv_iload_n hx hb dX0_kept_39 rfl (lv_at hl 3 rfl) ?_
            refine lv_if_ne (tgt := 53) hx hb dX0_kept_40 (by decide) (fun c_6 => ?_) (fun c_6 => ?_)
            · refine lv_iload_n hx hb dX0_kept_53 rfl (lv_at hl 0 rfl) ?_
              refine lv_if_ne (tgt := 61) hx hb dX0_kept_54 (by decide) (fun c_7 => absurd (by decide) c_7) (fun _ => ?_)
              refine lv_ldc2 (v := (-1)) hx hb hown (hts _ bX0_10) dX0_kept_57 ?_
              exact W.lret (v := (-1)) hx hb hr (fun t ht _ => ⟨(-1), rfl, (if_neg c_1).trans ((if_neg c_2).trans ((if_neg c_3).trans ((if_pos c_4).trans ((if_pos c_5).trans ((if_neg c_6).trans rfl))))), ht⟩) t_nil dX0_kept_60
            · refine lv_iload_n hx hb dX0_kept_43 rfl (lv_at hl 0 rfl) ?_
              refine lv_if_eq (tgt := 51) hx hb dX0_kept_44 (by decide) (fun _ => ?_) (fun c_8 => absurd (by decide) c_8)
              refine lv_lconst (v := 0) hx hb dX0_kept_51 (by decide) ?_
              exact W.lret (v := 0) hx hb hr (fun t ht _ => ⟨0, rfl, (if_neg c_1).trans ((if_neg c_2).trans ((if_neg c_3).trans ((if_pos c_4).trans ((if_pos c_5).trans ((if_pos c_6).trans rfl))))), ht⟩) t_nil dX0_kept_52
          · refine lv_iconst (v := 1) hx hb dX0_kept_33 (by decide) ?_
            refine lv_goto (tgt := 38) hx hb dX0_kept_34 (by decide) ?_
            refine lv_istore_n (lv' := [(3, .int 1), (0, .ref (h 0)), (1, .int i), (2, .int k)]) hx hb dX0_kept_38 rfl hl (by decide) rfl (fun ls hl => ?_)
            refine lv_iload_n hx hb dX0_kept_39 rfl (lv_at hl 3 rfl) ?_
            refine lv_if_ne (tgt := 53) hx hb dX0_kept_40 (by decide) (fun c_9 => ?_) (fun c_9 => ?_)
            · refine lv_iload_n hx hb dX0_kept_53 rfl (lv_at hl 0 rfl) ?_
              refine lv_if_ne (tgt := 61) hx hb dX0_kept_54 (by decide) (fun _ => ?_) (fun c_10 => absurd c_10 (by decide))
              refine lv_iload_n hx hb dX0_kept_61 rfl (lv_at hl 3 rfl) ?_
              refine lv_iconst (v := 1) hx hb dX0_kept_62 (by decide) ?_
              refine lv_icmp_ne (tgt := 79) hx hb dX0_kept_63 (by decide) (fun c_11 => ?_) (fun c_11 => ?_)
              · refine lv_aload_n hx hb dX0_kept_79 rfl (lv_at hl 1 rfl) ?_
                refine va_get (D := (dC, dI)) (ci := 0) (v := .ref (h 5)) (C := RX0) (T := TX0) (N := 9) hx hb hts inbX0 hown hK hP 0 rfl rfl 6 (by decide) (hts _ bX0_6) (fun _ h9 => h9) rfl dX0_kept_80 ?_
                refine lv_iload_n hx hb dX0_kept_83 rfl (lv_at hl 2 rfl) ?_
                refine va_iald hx hb hK hP 5 1 rfl rfl (x_i16 c_1 c_2) dX0_kept_84 ?_
                refine lv_i2l (v := (((x_ke σ (i).toNatClampNeg)).toInt64)) hx hb dX0_kept_85 rfl ?_
                refine lv_ldc2 (v := 4294967295) hx hb hown (hts _ bX0_9) dX0_kept_86 ?_
                refine lv_land hx hb dX0_kept_89 ?_
                exact W.lret (v := ((((x_ke σ (i).toNatClampNeg)).toInt64) &&& 4294967295)) hx hb hr (fun t ht _ => ⟨((((x_ke σ (i).toNatClampNeg)).toInt64) &&& 4294967295), rfl, (if_neg c_1).trans ((if_neg c_2).trans ((if_neg c_3).trans ((if_pos c_4).trans ((if_neg c_5).trans ((if_neg c_9).trans ((if_neg c_11).trans rfl)))))), ht⟩) t_nil dX0_kept_90
              · refine lv_aload_n hx hb dX0_kept_66 rfl (lv_at hl 1 rfl) ?_
                refine va_get (D := (dC, dI)) (ci := 0) (v := .ref (h 4)) (C := RX0) (T := TX0) (N := 9) hx hb hts inbX0 hown hK hP 0 rfl rfl 5 (by decide) (hts _ bX0_5) (fun _ h9 => h9) rfl dX0_kept_67 ?_
                refine lv_iload_n hx hb dX0_kept_70 rfl (lv_at hl 2 rfl) ?_
                refine va_iald hx hb hK hP 4 1 rfl rfl (x_i16 c_1 c_2) dX0_kept_71 ?_
                refine lv_bipush (v := 16) hx hb dX0_kept_72 (by decide) ?_
                refine lv_imul hx hb dX0_kept_74 ?_
                refine lv_i2l (v := ((((x_kp σ (i).toNatClampNeg) * 16)).toInt64)) hx hb dX0_kept_75 rfl ?_
                refine lv_goto (tgt := 90) hx hb dX0_kept_76 (by decide) ?_
                exact W.lret (v := ((((x_kp σ (i).toNatClampNeg) * 16)).toInt64)) hx hb hr (fun t ht _ => ⟨((((x_kp σ (i).toNatClampNeg) * 16)).toInt64), rfl, (if_neg c_1).trans ((if_neg c_2).trans ((if_neg c_3).trans ((if_pos c_4).trans ((if_neg c_5).trans ((if_neg c_9).trans ((if_pos c_11).trans rfl)))))), ht⟩) t_nil dX0_kept_90
            · refine lv_iload_n hx hb dX0_kept_43 rfl (lv_at hl 0 rfl) ?_
              refine lv_if_eq (tgt := 51) hx hb dX0_kept_44 (by decide) (fun c_12 => absurd c_12 (by decide)) (fun _ => ?_)
              refine lv_lconst (v := 1) hx hb dX0_kept_47 (by decide) ?_
              refine lv_goto (tgt := 52) hx hb dX0_kept_48 (by decide) ?_
              exact W.lret (v := 1) hx hb hr (fun t ht _ => ⟨1, rfl, (if_neg c_1).trans ((if_neg c_2).trans ((if_neg c_3).trans ((if_pos c_4).trans ((if_neg c_5).trans ((if_pos c_9).trans rfl))))), ht⟩) t_nil dX0_kept_52
        · refine lv_ldc2 (v := (-1)) hx hb hown (hts _ bX0_10) dX0_kept_19 ?_
          exact W.lret (v := (-1)) hx hb hr (fun t ht _ => ⟨(-1), rfl, (if_neg c_1).trans ((if_neg c_2).trans ((if_neg c_3).trans ((if_neg c_4).trans rfl))), ht⟩) t_nil dX0_kept_22
set_option maxHeartbeats 4000000 in
set_option maxRecDepth 100000 in
theorem c_x_failed (l : Launch) (dC : Nat → ClassId) (dI : Nat → Nat → Nat) (h : Nat → Nat) (cB cI : ClassId) (n : Nat) (σ : XS)  : Met l yX0_failed wsX0_failed ({ frames := 0, cells := 0, slots := 0, locals := 0 }) (va_Pc [.ref (h 0)] (x_BP dC dI h cB cI n σ)) (vp_Si (fun r => x_failed n σ = r)) 0 0 (fun _ => False) := by
  refine Met.ofW (cc := cX0_failed) (maxL := 1) (ret := (some .int)) (by decide) rfl ?_
  intro p e s m args below meth c s₁ B hml hv
  obtain ⟨rfl, hP, hK⟩ := hv
  have hx := B.exec
  have hb := B.bytes
  have hr := B.returns
  have hts : ∀ w ∈ bX0, w.before _ s = true := fun w h => atoms_spec (ws := wsX0_failed) B.pre w (List.mem_cons_of_mem _ h)
  have hown : s.vm.findClass RX0 = some m.cls := findClass_of_methodNamed B.named
  have hlocks := B.notSynchronized
  have hl := lv_entry ([.ref (h 0)]) (n := 1) (Nat.le_of_ble_eq_true rfl)
  rw [lg_entry_eq]
  generalize (lg_sl ([.ref (h 0)]) ++ List.replicate (1 - (lg_sl ([.ref (h 0)])).length) Slot.unset).toArray = ls at hl ⊢
  have hl : lv_has ls 1 [(0, .ref (h 0))] := hl
  refine lv_aload_n hx hb dX0_failed_0 rfl (lv_at hl 0 rfl) ?_
  refine va_get (D := (dC, dI)) (ci := 0) (v := .int (x_fa σ)) (C := RX0) (T := TX0) (N := 9) hx hb hts inbX0 hown hK hP 0 rfl rfl 4 (by decide) (hts _ bX0_4) (fun _ h9 => h9) rfl dX0_failed_1 ?_
  exact W.iret (v := (x_fa σ)) hx hb hr (fun t ht _ => ⟨(x_fa σ), rfl, rfl, ht⟩) t_nil dX0_failed_4
end
section
set_option maxHeartbeats 4000000 in
set_option maxRecDepth 100000 in
theorem c_x_keepEntry (l : Launch) (dC : Nat → ClassId) (dI : Nat → Nat → Nat) (h : Nat → Nat) (cB cI : ClassId) (n : Nat) (sz : Nat) (σ : XS) (k : Int32) (a : Int32) (v : Int32) (q : Int32) (hk : vp_in k 16) : Met l yX0_keepEntry wsX0_keepEntry ({ frames := 0, cells := 0, slots := 0, locals := 0 }) (va_Pc [.ref (h 0), .int k, .int a, .int v, .int q] (x_BM dC dI h cB cI n sz σ)) (q_x_keepEntry dC dI h cB cI n σ k a v q (va_A (x_ws h cB cI n σ) sz)) 0 0 (va_A (x_ws h cB cI n σ) sz) := by
  refine Met.ofW (cc := cX0_keepEntry) (maxL := 5) (ret := none) (by decide) rfl ?_
  intro p e s m args below meth c s₁ B hml hv
  obtain ⟨rfl, hsz, hP, hK, hD0⟩ := hv
  have hx := B.exec
  have hb := B.bytes
  have hr := B.returns
  have hts : ∀ w ∈ bX0, w.before _ s = true := fun w h => atoms_spec (ws := wsX0_keepEntry) B.pre w (List.mem_cons_of_mem _ h)
  have hown : s.vm.findClass RX0 = some m.cls := findClass_of_methodNamed B.named
  have hlocks := B.notSynchronized
  subst hsz
  have hD := hD0.self (sz := s.heap.size)
  generalize hAe : va_A (x_ws h cB cI n σ) s.heap.size = A at hD ⊢
  have hA : ∀ q : Nat, s.heap.size ≤ q → A q := fun q h => by rw [← hAe]; exact Or.inr h
  have hS : va_S A s.heap s.heap [] := va_S.rf
  have hP : va_P (dC, dI) vwCl (x_ws h cB cI n σ) s.heap := hP
  have hl := lv_entry ([.ref (h 0), .int k, .int a, .int v, .int q]) (n := 5) (Nat.le_of_ble_eq_true rfl)
  rw [lg_entry_eq]
  generalize (lg_sl ([.ref (h 0), .int k, .int a, .int v, .int q]) ++ List.replicate (5 - (lg_sl ([.ref (h 0), .int k, .int a, .int v, .int q])).length) Slot.unset).toArray = ls at hl ⊢
  have hl : lv_has ls 5 [(0, .ref (h 0)), (1, .int k), (2, .int a), (3, .int v), (4, .int q)] := hl
  refine lv_aload_n hx hb dX0_keepEntry_0 rfl (lv_at hl 0 rfl) ?_
  refine va_get (D := (dC, dI)) (ci := 0) (v := .ref (h 4)) (C := RX0) (T := TX0) (N := 9) hx hb hts inbX0 hown hK hP 0 rfl rfl 5 (by decide) (hts _ bX0_5) (fun _ h9 => h9) rfl dX0_keepEntry_1 ?_
  refine lv_iload_n hx hb dX0_keepEntry_4 rfl (lv_at hl 1 rfl) ?_
  refine lv_iload_n hx hb dX0_keepEntry_5 rfl (lv_at hl 2 rfl) ?_
  refine lv_bipush (v := 16) hx hb dX0_keepEntry_6 (by decide) ?_
  refine lv_idiv hx hb dX0_keepEntry_8 (by decide) ?_
  refine va_iast hx hb hK hP hD hS 4 1 rfl rfl hk dX0_keepEntry_9 (fun H locs hP hD hS => ?_)
  have hP : va_P (dC, dI) vwCl (x_ws h cB cI n (x_sKp σ (upd (x_kp σ) ((k).toNatClampNeg) (a / 16)))) H := hP
  have hD : va_D A (x_ws h cB cI n (x_sKp σ (upd (x_kp σ) ((k).toNatClampNeg) (a / 16)))) := hD
  refine lv_aload_n hx hb dX0_keepEntry_10 rfl (lv_at hl 0 rfl) ?_
  refine va_get (D := (dC, dI)) (ci := 0) (v := .ref (h 5)) (C := RX0) (T := TX0) (N := 9) hx hb hts inbX0 hown hK hP 0 rfl rfl 6 (by decide) (hts _ bX0_6) (fun _ h9 => h9) rfl dX0_keepEntry_11 ?_
  refine lv_iload_n hx hb dX0_keepEntry_14 rfl (lv_at hl 1 rfl) ?_
  refine lv_iload_n hx hb dX0_keepEntry_15 rfl (lv_at hl 3 rfl) ?_
  refine va_iast hx hb hK hP hD hS 5 1 rfl rfl hk dX0_keepEntry_16 (fun H locs hP hD hS => ?_)
  have hP : va_P (dC, dI) vwCl (x_ws h cB cI n (x_sKe (x_sKp σ (upd (x_kp σ) ((k).toNatClampNeg) (a / 16))) (upd (x_ke (x_sKp σ (upd (x_kp σ) ((k).toNatClampNeg) (a / 16)))) ((k).toNatClampNeg) v))) H := hP
  have hD : va_D A (x_ws h cB cI n (x_sKe (x_sKp σ (upd (x_kp σ) ((k).toNatClampNeg) (a / 16))) (upd (x_ke (x_sKp σ (upd (x_kp σ) ((k).toNatClampNeg) (a / 16)))) ((k).toNatClampNeg) v))) := hD
  refine lv_aload_n hx hb dX0_keepEntry_17 rfl (lv_at hl 0 rfl) ?_
  refine va_get (D := (dC, dI)) (ci := 0) (v := .ref (h 6)) (C := RX0) (T := TX0) (N := 9) hx hb hts inbX0 hown hK hP 0 rfl rfl 7 (by decide) (hts _ bX0_7) (fun _ h9 => h9) rfl dX0_keepEntry_18 ?_
  refine lv_iload_n hx hb dX0_keepEntry_21 rfl (lv_at hl 1 rfl) ?_
  refine lv_iload hx hb dX0_keepEntry_22 (lv_at hl 4 rfl) ?_
  refine va_iast hx hb hK hP hD hS 6 1 rfl rfl hk dX0_keepEntry_24 (fun H locs hP hD hS => ?_)
  have hP : va_P (dC, dI) vwCl (x_ws h cB cI n (x_sKpl (x_sKe (x_sKp σ (upd (x_kp σ) ((k).toNatClampNeg) (a / 16))) (upd (x_ke (x_sKp σ (upd (x_kp σ) ((k).toNatClampNeg) (a / 16)))) ((k).toNatClampNeg) v)) (upd (x_kpl (x_sKe (x_sKp σ (upd (x_kp σ) ((k).toNatClampNeg) (a / 16))) (upd (x_ke (x_sKp σ (upd (x_kp σ) ((k).toNatClampNeg) (a / 16)))) ((k).toNatClampNeg) v))) ((k).toNatClampNeg) q))) H := hP
  have hD : va_D A (x_ws h cB cI n (x_sKpl (x_sKe (x_sKp σ (upd (x_kp σ) ((k).toNatClampNeg) (a / 16))) (upd (x_ke (x_sKp σ (upd (x_kp σ) ((k).toNatClampNeg) (a / 16)))) ((k).toNatClampNeg) v)) (upd (x_kpl (x_sKe (x_sKp σ (upd (x_kp σ) ((k).toNatClampNeg) (a / 16))) (upd (x_ke (x_sKp σ (upd (x_kp σ) ((k).toNatClampNeg) (a / 16)))) ((k).toNatClampNeg) v))) ((k).toNatClampNeg) q))) := hD
  exact W.vret hx hb hr (fun t ht hW => ⟨⟨(x_sKpl (x_sKe (x_sKp σ (upd (x_kp σ) ((k).toNatClampNeg) (a / 16))) (upd (x_ke (x_sKp σ (upd (x_kp σ) ((k).toNatClampNeg) (a / 16)))) ((k).toNatClampNeg) v)) (upd (x_kpl (x_sKe (x_sKp σ (upd (x_kp σ) ((k).toNatClampNeg) (a / 16))) (upd (x_ke (x_sKp σ (upd (x_kp σ) ((k).toNatClampNeg) (a / 16)))) ((k).toNatClampNeg) v))) ((k).toNatClampNeg) q)), rfl, rfl, by rw [ht]; exact hP, va_K.moved hW.alike hK, hD⟩, hS.F ht⟩) hS.2.2 dX0_keepEntry_25
set_option maxHeartbeats 4000000 in
set_option maxRecDepth 100000 in
theorem c_x_markWritten (l : Launch) (dC : Nat → ClassId) (dI : Nat → Nat → Nat) (h : Nat → Nat) (cB cI : ClassId) (n : Nat) (sz : Nat) (σ : XS) (k : Int32) (hk : vp_in k 16) (hq : vp_in (x_kpl σ k.toNatClampNeg + 4 - 1) n) : Met l yX0_markWritten wsX0_markWritten ({ frames := 0, cells := 0, slots := 0, locals := 0 }) (va_Pc [.ref (h 0), .int k] (x_BM dC dI h cB cI n sz σ)) (q_x_markWritten dC dI h cB cI n σ k (va_A (x_ws h cB cI n σ) sz)) 0 0 (va_A (x_ws h cB cI n σ) sz) := by
  refine Met.ofW (cc := cX0_markWritten) (maxL := 2) (ret := none) (by decide) rfl ?_
  intro p e s m args below meth c s₁ B hml hv
  obtain ⟨rfl, hsz, hP, hK, hD0⟩ := hv
  have hx := B.exec
  have hb := B.bytes
  have hr := B.returns
  have hts : ∀ w ∈ bX0, w.before _ s = true := fun w h => atoms_spec (ws := wsX0_markWritten) B.pre w (List.mem_cons_of_mem _ h)
  have hown : s.vm.findClass RX0 = some m.cls := findClass_of_methodNamed B.named
  have hlocks := B.notSynchronized
  subst hsz
  have hD := hD0.self (sz := s.heap.size)
  generalize hAe : va_A (x_ws h cB cI n σ) s.heap.size = A at hD ⊢
  have hA : ∀ q : Nat, s.heap.size ≤ q → A q := fun q h => by rw [← hAe]; exact Or.inr h
  have hS : va_S A s.heap s.heap [] := va_S.rf
  have hP : va_P (dC, dI) vwCl (x_ws h cB cI n σ) s.heap := hP
  have hl := lv_entry ([.ref (h 0), .int k]) (n := 2) (Nat.le_of_ble_eq_true rfl)
  rw [lg_entry_eq]
  generalize (lg_sl ([.ref (h 0), .int k]) ++ List.replicate (2 - (lg_sl ([.ref (h 0), .int k])).length) Slot.unset).toArray = ls at hl ⊢
  have hl : lv_has ls 2 [(0, .ref (h 0)), (1, .int k)] := hl
  refine lv_aload_n hx hb dX0_markWritten_0 rfl (lv_at hl 0 rfl) ?_
  refine va_get (D := (dC, dI)) (ci := 0) (v := .ref (h 5)) (C := RX0) (T := TX0) (N := 9) hx hb hts inbX0 hown hK hP 0 rfl rfl 6 (by decide) (hts _ bX0_6) (fun _ h9 => h9) rfl dX0_markWritten_1 ?_
  refine lv_iload_n hx hb dX0_markWritten_4 rfl (lv_at hl 1 rfl) ?_
  refine va_iald hx hb hK hP 5 1 rfl rfl hk dX0_markWritten_5 ?_
  refine lv_ldc (v := 67108864) hx hb hown (hts _ bX0_16) dX0_markWritten_6 ?_
  refine lv_iand hx hb dX0_markWritten_8 ?_
  refine lv_if_eq (tgt := 13) hx hb dX0_markWritten_9 (by decide) (fun c_1 => ?_) (fun c_1 => ?_)
  · refine lv_aload_n hx hb dX0_markWritten_13 rfl (lv_at hl 0 rfl) ?_
    refine va_get (D := (dC, dI)) (ci := 0) (v := .ref (h 5)) (C := RX0) (T := TX0) (N := 9) hx hb hts inbX0 hown hK hP 0 rfl rfl 6 (by decide) (hts _ bX0_6) (fun _ h9 => h9) rfl dX0_markWritten_14 ?_
    refine lv_iload_n hx hb dX0_markWritten_17 rfl (lv_at hl 1 rfl) ?_
    refine lv_dup2_11 hx hb dX0_markWritten_18 rfl rfl ?_
    refine va_iald hx hb hK hP 5 1 rfl rfl hk dX0_markWritten_19 ?_
    refine lv_ldc (v := 67108864) hx hb hown (hts _ bX0_16) dX0_markWritten_20 ?_
    refine lv_ior hx hb dX0_markWritten_22 ?_
    refine va_iast hx hb hK hP hD hS 5 1 rfl rfl hk dX0_markWritten_23 (fun H locs hP hD hS => ?_)
    have hP : va_P (dC, dI) vwCl (x_ws h cB cI n (x_sKe σ (upd (x_ke σ) ((k).toNatClampNeg) ((x_ke σ (k).toNatClampNeg) ||| 67108864)))) H := hP
    have hD : va_D A (x_ws h cB cI n (x_sKe σ (upd (x_ke σ) ((k).toNatClampNeg) ((x_ke σ (k).toNatClampNeg) ||| 67108864)))) := hD
    refine lv_aload_n hx hb dX0_markWritten_24 rfl (lv_at hl 0 rfl) ?_
    refine va_get (D := (dC, dI)) (ci := 0) (v := .ref (h 1)) (C := RX0) (T := TX0) (N := 9) hx hb hts inbX0 hown hK hP 0 rfl rfl 0 (by decide) (hts _ bX0_0) (fun _ h9 => h9) rfl dX0_markWritten_25 ?_
    refine lv_aload_n hx hb dX0_markWritten_28 rfl (lv_at hl 0 rfl) ?_
    refine va_get (D := (dC, dI)) (ci := 0) (v := .ref (h 6)) (C := RX0) (T := TX0) (N := 9) hx hb hts inbX0 hown hK hP 0 rfl rfl 7 (by decide) (hts _ bX0_7) (fun _ h9 => h9) rfl dX0_markWritten_29 ?_
    refine lv_iload_n hx hb dX0_markWritten_32 rfl (lv_at hl 1 rfl) ?_
    refine va_iald hx hb hK hP 6 1 rfl rfl hk dX0_markWritten_33 ?_
    refine lv_iconst (v := 4) hx hb dX0_markWritten_34 (by decide) ?_
    refine lv_iadd hx hb dX0_markWritten_35 ?_
    refine lv_iconst (v := 1) hx hb dX0_markWritten_36 (by decide) ?_
    refine lv_isub hx hb dX0_markWritten_37 ?_
    refine lv_dup2_11 hx hb dX0_markWritten_38 rfl rfl ?_
    refine va_bald hx hb hK hP 1 0 rfl rfl hq dX0_markWritten_39 ?_
    refine lv_iconst (v := 4) hx hb dX0_markWritten_40 (by decide) ?_
    refine lv_ior hx hb dX0_markWritten_41 ?_
    refine lv_i2b (v := ((((x_mem (x_sKe σ (upd (x_ke σ) ((k).toNatClampNeg) ((x_ke σ (k).toNatClampNeg) ||| 67108864))) ((((x_kpl (x_sKe σ (upd (x_ke σ) ((k).toNatClampNeg) ((x_ke σ (k).toNatClampNeg) ||| 67108864))) (k).toNatClampNeg) + 4) - 1)).toNatClampNeg) ||| 4)).toInt8.toInt32)) hx hb dX0_markWritten_42 rfl ?_
    refine va_bast hx hb hK hP hD hS 1 0 rfl rfl hq dX0_markWritten_43 (fun H locs hP hD hS => ?_)
    have hP : va_P (dC, dI) vwCl (x_ws h cB cI n (x_sMem (x_sKe σ (upd (x_ke σ) ((k).toNatClampNeg) ((x_ke σ (k).toNatClampNeg) ||| 67108864))) (upd (x_mem (x_sKe σ (upd (x_ke σ) ((k).toNatClampNeg) ((x_ke σ (k).toNatClampNeg) ||| 67108864)))) (((((x_kpl (x_sKe σ (upd (x_ke σ) ((k).toNatClampNeg) ((x_ke σ (k).toNatClampNeg) ||| 67108864))) (k).toNatClampNeg) + 4) - 1)).toNatClampNeg) (vp_nar .byte ((((x_mem (x_sKe σ (upd (x_ke σ) ((k).toNatClampNeg) ((x_ke σ (k).toNatClampNeg) ||| 67108864))) ((((x_kpl (x_sKe σ (upd (x_ke σ) ((k).toNatClampNeg) ((x_ke σ (k).toNatClampNeg) ||| 67108864))) (k).toNatClampNeg) + 4) - 1)).toNatClampNeg) ||| 4)).toInt8.toInt32))))) H := hP
    have hD : va_D A (x_ws h cB cI n (x_sMem (x_sKe σ (upd (x_ke σ) ((k).toNatClampNeg) ((x_ke σ (k).toNatClampNeg) ||| 67108864))) (upd (x_mem (x_sKe σ (upd (x_ke σ) ((k).toNatClampNeg) ((x_ke σ (k).toNatClampNeg) ||| 67108864)))) (((((x_kpl (x_sKe σ (upd (x_ke σ) ((k).toNatClampNeg) ((x_ke σ (k).toNatClampNeg) ||| 67108864))) (k).toNatClampNeg) + 4) - 1)).toNatClampNeg) (vp_nar .byte ((((x_mem (x_sKe σ (upd (x_ke σ) ((k).toNatClampNeg) ((x_ke σ (k).toNatClampNeg) ||| 67108864))) ((((x_kpl (x_sKe σ (upd (x_ke σ) ((k).toNatClampNeg) ((x_ke σ (k).toNatClampNeg) ||| 67108864))) (k).toNatClampNeg) + 4) - 1)).toNatClampNeg) ||| 4)).toInt8.toInt32))))) := hD
    exact W.vret hx hb hr (fun t ht hW => ⟨⟨(x_sMem (x_sKe σ (upd (x_ke σ) ((k).toNatClampNeg) ((x_ke σ (k).toNatClampNeg) ||| 67108864))) (upd (x_mem (x_sKe σ (upd (x_ke σ) ((k).toNatClampNeg) ((x_ke σ (k).toNatClampNeg) ||| 67108864)))) (((((x_kpl (x_sKe σ (upd (x_ke σ) ((k).toNatClampNeg) ((x_ke σ (k).toNatClampNeg) ||| 67108864))) (k).toNatClampNeg) + 4) - 1)).toNatClampNeg) (vp_nar .byte ((((x_mem (x_sKe σ (upd (x_ke σ) ((k).toNatClampNeg) ((x_ke σ (k).toNatClampNeg) ||| 67108864))) ((((x_kpl (x_sKe σ (upd (x_ke σ) ((k).toNatClampNeg) ((x_ke σ (k).toNatClampNeg) ||| 67108864))) (k).toNatClampNeg) + 4) - 1)).toNatClampNeg) ||| 4)).toInt8.toInt32)))), rfl, (if_pos c_1).trans rfl, by rw [ht]; exact hP, va_K.moved hW.alike hK, hD⟩, hS.F ht⟩) hS.2.2 dX0_markWritten_44
  · exact W.vret hx hb hr (fun t ht hW => ⟨⟨σ, rfl, (if_neg c_1).trans rfl, by rw [ht]; exact hP, va_K.moved hW.alike hK, hD⟩, hS.F ht⟩) hS.2.2 dX0_markWritten_12
set_option maxHeartbeats 4000000 in
set_option maxRecDepth 100000 in
theorem c_x_noteFault (l : Launch) (dC : Nat → ClassId) (dI : Nat → Nat → Nat) (h : Nat → Nat) (cB cI : ClassId) (n : Nat) (sz : Nat) (σ : XS) (k : Int32) (a : Int32) : Met l yX0_noteFault wsX0_noteFault ({ frames := 0, cells := 0, slots := 0, locals := 0 }) (va_Pc [.ref (h 0), .int k, .int a] (x_BM dC dI h cB cI n sz σ)) (q_x_noteFault dC dI h cB cI n σ k a (va_A (x_ws h cB cI n σ) sz)) 0 0 (va_A (x_ws h cB cI n σ) sz) := by
  refine Met.ofW (cc := cX0_noteFault) (maxL := 3) (ret := none) (by decide) rfl ?_
  intro p e s m args below meth c s₁ B hml hv
  obtain ⟨rfl, hsz, hP, hK, hD0⟩ := hv
  have hx := B.exec
  have hb := B.bytes
  have hr := B.returns
  have hts : ∀ w ∈ bX0, w.before _ s = true := fun w h => atoms_spec (ws := wsX0_noteFault) B.pre w (List.mem_cons_of_mem _ h)
  have hown : s.vm.findClass RX0 = some m.cls := findClass_of_methodNamed B.named
  have hlocks := B.notSynchronized
  subst hsz
  have hD := hD0.self (sz := s.heap.size)
  generalize hAe : va_A (x_ws h cB cI n σ) s.heap.size = A at hD ⊢
  have hA : ∀ q : Nat, s.heap.size ≤ q → A q := fun q h => by rw [← hAe]; exact Or.inr h
  have hS : va_S A s.heap s.heap [] := va_S.rf
  have hP : va_P (dC, dI) vwCl (x_ws h cB cI n σ) s.heap := hP
  have hl := lv_entry ([.ref (h 0), .int k, .int a]) (n := 3) (Nat.le_of_ble_eq_true rfl)
  rw [lg_entry_eq]
  generalize (lg_sl ([.ref (h 0), .int k, .int a]) ++ List.replicate (3 - (lg_sl ([.ref (h 0), .int k, .int a])).length) Slot.unset).toArray = ls at hl ⊢
  have hl : lv_has ls 3 [(0, .ref (h 0)), (1, .int k), (2, .int a)] := hl
  refine lv_iload_n hx hb dX0_noteFault_0 rfl (lv_at hl 1 rfl) ?_
  refine lv_bipush (v := (-100)) hx hb dX0_noteFault_1 (by decide) ?_
  refine lv_icmp_eq (tgt := 11) hx hb dX0_noteFault_3 (by decide) (fun c_1 => ?_) (fun c_1 => ?_)
  · exact W.vret hx hb hr (fun t ht hW => ⟨⟨σ, rfl, (if_pos c_1).trans rfl, by rw [ht]; exact hP, va_K.moved hW.alike hK, hD⟩, hS.F ht⟩) hS.2.2 dX0_noteFault_11
  · refine lv_aload_n hx hb dX0_noteFault_6 rfl (lv_at hl 0 rfl) ?_
    refine lv_iload_n hx hb dX0_noteFault_7 rfl (lv_at hl 2 rfl) ?_
    refine va_put (D := (dC, dI)) (ci := 0) (v := .int a) (ty := .int) (C := RX0) (T := TX0) (N := 9) hx hb hts inbX0 tyX0 tyX0_ok nmX0 hown hK hP hD hS 0 rfl rfl 4 (by decide) (hts _ bX0_4) (fun _ h9 => h9) rfl (by decide +kernel) rfl rfl (Nat.le_of_ble_eq_true rfl) dX0_noteFault_8 (fun H locs hP hD hS => ?_)
    have hP : va_P (dC, dI) vwCl (x_ws h cB cI n (x_sFa σ a)) H := hP
    have hD : va_D A (x_ws h cB cI n (x_sFa σ a)) := hD
    exact W.vret hx hb hr (fun t ht hW => ⟨⟨(x_sFa σ a), rfl, (if_neg c_1).trans rfl, by rw [ht]; exact hP, va_K.moved hW.alike hK, hD⟩, hS.F ht⟩) hS.2.2 dX0_noteFault_11
set_option maxHeartbeats 4000000 in
set_option maxRecDepth 100000 in
theorem c_x_forget (l : Launch) (dC : Nat → ClassId) (dI : Nat → Nat → Nat) (h : Nat → Nat) (cB cI : ClassId) (n : Nat) (sz : Nat) (σ : XS) (k : Int32) (hk : ∃ K : Nat, K ≤ 16 ∧ k = nI K) : Met l yX0_forget wsX0_forget ({ frames := 0, cells := 0, slots := 0, locals := 0 }) (va_Pc [.ref (h 0), .int k] (x_BM dC dI h cB cI n sz σ)) (q_x_forget dC dI h cB cI n σ k (va_A (x_ws h cB cI n σ) sz)) 0 0 (va_A (x_ws h cB cI n σ) sz) := by
  refine Met.ofW (cc := cX0_forget) (maxL := 3) (ret := none) (by decide) rfl ?_
  intro p e s m args below meth c s₁ B hml hv
  obtain ⟨rfl, hsz, hP, hK, hD0⟩ := hv
  have hx := B.exec
  have hb := B.bytes
  have hr := B.returns
  have hts : ∀ w ∈ bX0, w.before _ s = true := fun w h => atoms_spec (ws := wsX0_forget) B.pre w (List.mem_cons_of_mem _ h)
  have hown : s.vm.findClass RX0 = some m.cls := findClass_of_methodNamed B.named
  have hlocks := B.notSynchronized
  subst hsz
  have hD := hD0.self (sz := s.heap.size)
  generalize hAe : va_A (x_ws h cB cI n σ) s.heap.size = A at hD ⊢
  have hA : ∀ q : Nat, s.heap.size ≤ q → A q := fun q h => by rw [← hAe]; exact Or.inr h
  have hS : va_S A s.heap s.heap [] := va_S.rf
  have hP : va_P (dC, dI) vwCl (x_ws h cB cI n σ) s.heap := hP
  have hl := lv_entry ([.ref (h 0), .int k]) (n := 3) (Nat.le_of_ble_eq_true rfl)
  rw [lg_entry_eq]
  generalize (lg_sl ([.ref (h 0), .int k]) ++ List.replicate (3 - (lg_sl ([.ref (h 0), .int k])).length) Slot.unset).toArray = ls at hl ⊢
  have hl : lv_has ls 3 [(0, .ref (h 0)), (1, .int k)] := hl
  have key_l1 : ∀ (f j : Nat) (i : Int32) (τ : XS) (H : Heap) (locs : List Loc) (ls : Array Slot), (i = nI j) → (j ≤ 16) → (17 ≤ j + f) → x_forget n σ k = x_forget_l1 n k f i τ → va_P (dC, dI) vwCl (x_ws h cB cI n τ) H → va_D A (x_ws h cB cI n τ) → va_S A s.heap H locs → lv_has ls 3 [(2, .int i), (0, .ref (h 0)), (1, .int k)] → W p l e (headSpec wsX0_forget ({ frames := 0, cells := 0, slots := 0, locals := 0 })).room s m ([.ref (h 0), .int k] : List Value).toArray below meth c H locs 0 0 (MQ below (q_x_forget dC dI h cB cI n σ k A) ([.ref (h 0), .int k] : List Value).toArray s 0 0 A) (F0 m 2 ls []) := by
    intro f
    induction f with
    | zero => intro j i τ H locs ls ej hj hf; exact absurd hf (by omega)
    | succ f ih =>
      intro j i τ H locs ls ej hj hf hm hP hD hS hl
      refine lv_iload_n hx hb dX0_forget_2 rfl (lv_at hl 0 rfl) ?_
      refine lv_iload_n hx hb dX0_forget_3 rfl (lv_at hl 2 rfl) ?_
      refine lv_icmp_ge (tgt := 20) hx hb dX0_forget_4 (by decide) (fun c_101 => ?_) (fun c_101 => ?_)
      · exact W.vret hx hb hr (fun t ht hW => ⟨⟨τ, rfl, hm.trans ((if_pos c_101).trans rfl), by rw [ht]; exact hP, va_K.moved hW.alike hK, hD⟩, hS.F ht⟩) hS.2.2 dX0_forget_20
      · have hlt : j < 16 := x_ltK hk hj ej (by omega) c_101
        refine lv_aload_n hx hb dX0_forget_7 rfl (lv_at hl 1 rfl) ?_
        refine va_get (D := (dC, dI)) (ci := 0) (v := .ref (h 4)) (C := RX0) (T := TX0) (N := 9) hx hb hts inbX0 hown hK hP 0 rfl rfl 5 (by decide) (hts _ bX0_5) (fun _ h9 => h9) rfl dX0_forget_8 ?_
        refine lv_iload_n hx hb dX0_forget_11 rfl (lv_at hl 0 rfl) ?_
        refine lv_iconst (v := (-1)) hx hb dX0_forget_12 (by decide) ?_
        refine va_iast hx hb hK hP hD hS 4 1 rfl rfl (by rw [ej]; exact vp_in_nI hlt (by omega)) dX0_forget_13 (fun H locs hP hD hS => ?_)
        have hP : va_P (dC, dI) vwCl (x_ws h cB cI n (x_sKp τ (upd (x_kp τ) ((i).toNatClampNeg) (-1)))) H := hP
        have hD : va_D A (x_ws h cB cI n (x_sKp τ (upd (x_kp τ) ((i).toNatClampNeg) (-1)))) := hD
        refine lv_iinc (v := (i + 1)) (lv' := [(2, .int (i + 1)), (0, .ref (h 0)), (1, .int k)]) hx hb dX0_forget_14 hl (k := 0) rfl rfl (by decide) rfl (fun ls hl => ?_)
        refine lv_goto (tgt := 2) hx hb dX0_forget_17 (by decide) ?_
        exact ih (j + 1) (i + 1) (x_sKp τ (upd (x_kp τ) ((i).toNatClampNeg) (-1))) _ _ _ (by rw [ej]; exact nI_1 j) (by omega) (by omega) (hm.trans ((if_neg c_101).trans rfl)) hP hD hS (lv_sub hl [0, 1, 2] rfl)
  refine lv_iconst (v := 0) hx hb dX0_forget_0 (by decide) ?_
  refine lv_istore_n (lv' := [(2, .int 0), (0, .ref (h 0)), (1, .int k)]) hx hb dX0_forget_1 rfl hl (by decide) rfl (fun ls hl => ?_)
  exact key_l1 17 0 0 σ _ _ _ nI_0.symm (by omega) (by omega) (rfl) hP hD hS (lv_sub hl [0, 1, 2] rfl)
set_option maxHeartbeats 4000000 in
set_option maxRecDepth 100000 in
theorem c_x_put (l : Launch) (dC : Nat → ClassId) (dI : Nat → Nat → Nat) (h : Nat → Nat) (cB cI : ClassId) (n : Nat) (sz : Nat) (σ : XS) (a : Int32) (v : Int32) (hn : n ≤ 2048) : Met l yX0_put wsX0_put ({ frames := 1, cells := 0, slots := 0, locals := 22 }) (va_Pc [.ref (h 0), .int a, .int v] (x_BM dC dI h cB cI n sz σ)) (q_x_put dC dI h cB cI n σ a v (va_A (x_ws h cB cI n σ) sz)) 0 0 (va_A (x_ws h cB cI n σ) sz) := by
  refine Met.ofW (cc := cX0_put) (maxL := 3) (ret := (some .boolean)) (by decide) rfl ?_
  intro p e s m args below meth c s₁ B hml hv
  obtain ⟨rfl, hsz, hP, hK, hD0⟩ := hv
  have hx := B.exec
  have hb := B.bytes
  have hr := B.returns
  have hts : ∀ w ∈ bX0, w.before _ s = true := fun w h => atoms_spec (ws := wsX0_put) B.pre w (List.mem_cons_of_mem _ h)
  have hown : s.vm.findClass RX0 = some m.cls := findClass_of_methodNamed B.named
  have hlocks := B.notSynchronized
  subst hsz
  have hD := hD0.self (sz := s.heap.size)
  generalize hAe : va_A (x_ws h cB cI n σ) s.heap.size = A at hD ⊢
  have hA : ∀ q : Nat, s.heap.size ≤ q → A q := fun q h => by rw [← hAe]; exact Or.inr h
  have hS : va_S A s.heap s.heap [] := va_S.rf
  have hP : va_P (dC, dI) vwCl (x_ws h cB cI n σ) s.heap := hP
  have hl := lv_entry ([.ref (h 0), .int a, .int v]) (n := 3) (Nat.le_of_ble_eq_true rfl)
  rw [lg_entry_eq]
  generalize (lg_sl ([.ref (h 0), .int a, .int v]) ++ List.replicate (3 - (lg_sl ([.ref (h 0), .int a, .int v])).length) Slot.unset).toArray = ls at hl ⊢
  have hl : lv_has ls 3 [(0, .ref (h 0)), (1, .int a), (2, .int v)] := hl
  refine lv_aload_n hx hb dX0_put_0 rfl (lv_at hl 0 rfl) ?_
  refine lv_iload_n hx hb dX0_put_1 rfl (lv_at hl 1 rfl) ?_
  refine lv_iconst (v := 1) hx hb dX0_put_2 (by decide) ?_
  refine vp_callSi (W.runV (C := RX0) (As := [.int a, .int 1]) (rest := []) ⟨hx, hb, hml, hown, hts⟩ (c_x_inMemory l dC dI h cB cI n σ a 1 ) (cwV 2 hts gX0_X0_inMemory rfl rfl rfl (by decide +kernel) ⟨Nat.le_of_ble_eq_true rfl, Nat.le_of_ble_eq_true rfl⟩) (x_preP hK hP) rfl rfl hl.1 rfl (lv_room (Nat.le_of_ble_eq_true rfl)) dX0_put_3 ⟨Nat.zero_le _, Nat.zero_le _⟩) (fun r er => ?_)
  subst er
  refine lv_if_ne (tgt := 11) hx hb dX0_put_6 (by decide) (fun c_1 => ?_) (fun c_1 => ?_)
  · refine lv_aload_n hx hb dX0_put_11 rfl (lv_at hl 0 rfl) ?_
    refine va_get (D := (dC, dI)) (ci := 0) (v := .ref (h 1)) (C := RX0) (T := TX0) (N := 9) hx hb hts inbX0 hown hK hP 0 rfl rfl 0 (by decide) (hts _ bX0_0) (fun _ h9 => h9) rfl dX0_put_12 ?_
    refine lv_iload_n hx hb dX0_put_15 rfl (lv_at hl 1 rfl) ?_
    refine lv_iload_n hx hb dX0_put_16 rfl (lv_at hl 2 rfl) ?_
    refine lv_i2b (v := ((v).toInt8.toInt32)) hx hb dX0_put_17 rfl ?_
    refine va_bast hx hb hK hP hD hS 1 0 rfl rfl (x_inM1 hn c_1) dX0_put_18 (fun H locs hP hD hS => ?_)
    have hP : va_P (dC, dI) vwCl (x_ws h cB cI n (x_sMem σ (upd (x_mem σ) ((a).toNatClampNeg) (vp_nar .byte ((v).toInt8.toInt32))))) H := hP
    have hD : va_D A (x_ws h cB cI n (x_sMem σ (upd (x_mem σ) ((a).toNatClampNeg) (vp_nar .byte ((v).toInt8.toInt32))))) := hD
    refine lv_iconst (v := 1) hx hb dX0_put_19 (by decide) ?_
    exact W.zret (ty := .boolean) (v := 1) hx hb hr rfl (fun t ht hW => ⟨⟨1, (x_sMem σ (upd (x_mem σ) ((a).toNatClampNeg) (vp_nar .byte ((v).toInt8.toInt32)))), rfl, (if_neg c_1).trans rfl, by rw [ht]; exact hP, va_K.moved hW.alike hK, hD⟩, hS.F ht⟩) hS.2.2 dX0_put_20
  · refine lv_iconst (v := 0) hx hb dX0_put_9 (by decide) ?_
    exact W.zret (ty := .boolean) (v := 0) hx hb hr rfl (fun t ht hW => ⟨⟨0, σ, rfl, (if_pos c_1).trans rfl, by rw [ht]; exact hP, va_K.moved hW.alike hK, hD⟩, hS.F ht⟩) hS.2.2 dX0_put_10
set_option maxHeartbeats 4000000 in
set_option maxRecDepth 100000 in
theorem c_x_entry (l : Launch) (dC : Nat → ClassId) (dI : Nat → Nat → Nat) (h : Nat → Nat) (cB cI : ClassId) (n : Nat) (sz : Nat) (σ : XS) (a : Int32) (v : Int32) (hn : n ≤ 2048) : Met l yX0_entry wsX0_entry ({ frames := 1, cells := 0, slots := 0, locals := 22 }) (va_Pc [.ref (h 0), .int a, .int v] (x_BM dC dI h cB cI n sz σ)) (q_x_entry dC dI h cB cI n σ a v (va_A (x_ws h cB cI n σ) sz)) 0 0 (va_A (x_ws h cB cI n σ) sz) := by
  refine Met.ofW (cc := cX0_entry) (maxL := 4) (ret := (some .boolean)) (by decide) rfl ?_
  intro p e s m args below meth c s₁ B hml hv
  obtain ⟨rfl, hsz, hP, hK, hD0⟩ := hv
  have hx := B.exec
  have hb := B.bytes
  have hr := B.returns
  have hts : ∀ w ∈ bX0, w.before _ s = true := fun w h => atoms_spec (ws := wsX0_entry) B.pre w (List.mem_cons_of_mem _ h)
  have hown : s.vm.findClass RX0 = some m.cls := findClass_of_methodNamed B.named
  have hlocks := B.notSynchronized
  subst hsz
  have hD := hD0.self (sz := s.heap.size)
  generalize hAe : va_A (x_ws h cB cI n σ) s.heap.size = A at hD ⊢
  have hA : ∀ q : Nat, s.heap.size ≤ q → A q := fun q h => by rw [← hAe]; exact Or.inr h
  have hS : va_S A s.heap s.heap [] := va_S.rf
  have hP : va_P (dC, dI) vwCl (x_ws h cB cI n σ) s.heap := hP
  have hl := lv_entry ([.ref (h 0), .int a, .int v]) (n := 4) (Nat.le_of_ble_eq_true rfl)
  rw [lg_entry_eq]
  generalize (lg_sl ([.ref (h 0), .int a, .int v]) ++ List.replicate (4 - (lg_sl ([.ref (h 0), .int a, .int v])).length) Slot.unset).toArray = ls at hl ⊢
  have hl : lv_has ls 4 [(0, .ref (h 0)), (1, .int a), (2, .int v)] := hl
  have key_l1 : ∀ (f j : Nat) (i : Int32) (τ : XS) (H : Heap) (locs : List Loc) (ls : Array Slot), (i = nI j) → (j ≤ 4) → (5 ≤ j + f) → (x_in4 n a) → x_entry n σ a v = x_entry_l1 n a v f i τ → va_P (dC, dI) vwCl (x_ws h cB cI n τ) H → va_D A (x_ws h cB cI n τ) → va_S A s.heap H locs → lv_has ls 4 [(3, .int i), (0, .ref (h 0)), (1, .int a), (2, .int v)] → W p l e (headSpec wsX0_entry ({ frames := 1, cells := 0, slots := 0, locals := 22 })).room s m ([.ref (h 0), .int a, .int v] : List Value).toArray below meth c H locs 0 0 (MQ below (q_x_entry dC dI h cB cI n σ a v A) ([.ref (h 0), .int a, .int v] : List Value).toArray s 0 0 A) (F0 m 13 ls []) := by
    intro f
    induction f with
    | zero => intro j i τ H locs ls ej hj hf h4; exact absurd hf (by omega)
    | succ f ih =>
      intro j i τ H locs ls ej hj hf h4 hm hP hD hS hl
      refine lv_iload_n hx hb dX0_entry_13 rfl (lv_at hl 0 rfl) ?_
      refine lv_iconst (v := 4) hx hb dX0_entry_14 (by decide) ?_
      refine lv_icmp_ge (tgt := 39) hx hb dX0_entry_15 (by decide) (fun c_101 => ?_) (fun c_101 => ?_)
      · refine lv_iconst (v := 1) hx hb dX0_entry_39 (by decide) ?_
        exact W.zret (ty := .boolean) (v := 1) hx hb hr rfl (fun t ht hW => ⟨⟨1, τ, rfl, hm.trans ((if_pos c_101).trans rfl), by rw [ht]; exact hP, va_K.moved hW.alike hK, hD⟩, hS.F ht⟩) hS.2.2 dX0_entry_40
      · have hlt : j < 4 := x_ltK ⟨4, by omega, rfl⟩ hj ej (by omega) c_101
        refine lv_aload_n hx hb dX0_entry_18 rfl (lv_at hl 1 rfl) ?_
        refine va_get (D := (dC, dI)) (ci := 0) (v := .ref (h 1)) (C := RX0) (T := TX0) (N := 9) hx hb hts inbX0 hown hK hP 0 rfl rfl 0 (by decide) (hts _ bX0_0) (fun _ h9 => h9) rfl dX0_entry_19 ?_
        refine lv_iload_n hx hb dX0_entry_22 rfl (lv_at hl 2 rfl) ?_
        refine lv_iload_n hx hb dX0_entry_23 rfl (lv_at hl 0 rfl) ?_
        refine lv_iadd hx hb dX0_entry_24 ?_
        refine lv_iload_n hx hb dX0_entry_25 rfl (lv_at hl 3 rfl) ?_
        refine lv_bipush (v := 8) hx hb dX0_entry_26 (by decide) ?_
        refine lv_iload_n hx hb dX0_entry_28 rfl (lv_at hl 0 rfl) ?_
        refine lv_imul hx hb dX0_entry_29 ?_
        refine lv_iushr (v := (jushr v ((8 : Int32) * i))) hx hb dX0_entry_30 rfl ?_
        refine lv_i2b (v := (((jushr v ((8 : Int32) * i))).toInt8.toInt32)) hx hb dX0_entry_31 rfl ?_
        refine va_bast hx hb hK hP hD hS 1 0 rfl rfl (x_in4_at h4 ej hlt) dX0_entry_32 (fun H locs hP hD hS => ?_)
        have hP : va_P (dC, dI) vwCl (x_ws h cB cI n (x_sMem τ (upd (x_mem τ) (((a + i)).toNatClampNeg) (vp_nar .byte (((jushr v ((8 : Int32) * i))).toInt8.toInt32))))) H := hP
        have hD : va_D A (x_ws h cB cI n (x_sMem τ (upd (x_mem τ) (((a + i)).toNatClampNeg) (vp_nar .byte (((jushr v ((8 : Int32) * i))).toInt8.toInt32))))) := hD
        refine lv_iinc (v := (i + 1)) (lv' := [(3, .int (i + 1)), (0, .ref (h 0)), (1, .int a), (2, .int v)]) hx hb dX0_entry_33 hl (k := 0) rfl rfl (by decide) rfl (fun ls hl => ?_)
        refine lv_goto (tgt := 13) hx hb dX0_entry_36 (by decide) ?_
        exact ih (j + 1) (i + 1) (x_sMem τ (upd (x_mem τ) (((a + i)).toNatClampNeg) (vp_nar .byte (((jushr v ((8 : Int32) * i))).toInt8.toInt32)))) _ _ _ (by rw [ej]; exact nI_1 j) (by omega) (by omega) h4 (hm.trans ((if_neg c_101).trans rfl)) hP hD hS (lv_sub hl [0, 1, 2, 3] rfl)
  refine lv_aload_n hx hb dX0_entry_0 rfl (lv_at hl 0 rfl) ?_
  refine lv_iload_n hx hb dX0_entry_1 rfl (lv_at hl 1 rfl) ?_
  refine lv_iconst (v := 4) hx hb dX0_entry_2 (by decide) ?_
  refine vp_callSi (W.runV (C := RX0) (As := [.int a, .int 4]) (rest := []) ⟨hx, hb, hml, hown, hts⟩ (c_x_inMemory l dC dI h cB cI n σ a 4 ) (cwV 2 hts gX0_X0_inMemory rfl rfl rfl (by decide +kernel) ⟨Nat.le_of_ble_eq_true rfl, Nat.le_of_ble_eq_true rfl⟩) (x_preP hK hP) rfl rfl hl.1 rfl (lv_room (Nat.le_of_ble_eq_true rfl)) dX0_entry_3 ⟨Nat.zero_le _, Nat.zero_le _⟩) (fun r er => ?_)
  subst er
  refine lv_if_ne (tgt := 11) hx hb dX0_entry_6 (by decide) (fun c_1 => ?_) (fun c_1 => ?_)
  · refine lv_iconst (v := 0) hx hb dX0_entry_11 (by decide) ?_
    refine lv_istore_n (lv' := [(3, .int 0), (0, .ref (h 0)), (1, .int a), (2, .int v)]) hx hb dX0_entry_12 rfl hl (by decide) rfl (fun ls hl => ?_)
    exact key_l1 5 0 0 σ _ _ _ nI_0.symm (by omega) (by omega) (x_inM4 hn c_1) ((if_neg c_1).trans rfl) hP hD hS (lv_sub hl [0, 1, 2, 3] rfl)
  · refine lv_iconst (v := 0) hx hb dX0_entry_9 (by decide) ?_
    exact W.zret (ty := .boolean) (v := 0) hx hb hr rfl (fun t ht hW => ⟨⟨0, σ, rfl, (if_pos c_1).trans rfl, by rw [ht]; exact hP, va_K.moved hW.alike hK, hD⟩, hS.F ht⟩) hS.2.2 dX0_entry_10
set_option maxHeartbeats 4000000 in
set_option maxRecDepth 100000 in
theorem c_x_region (l : Launch) (dC : Nat → ClassId) (dI : Nat → Nat → Nat) (h : Nat → Nat) (cB cI : ClassId) (n : Nat) (sz : Nat) (σ : XS) (rg : Int32) (ba : Int32) (le : Int32) : Met l yX0_region wsX0_region ({ frames := 1, cells := 0, slots := 0, locals := 22 }) (va_Pc [.ref (h 0), .int rg, .int ba, .int le] (x_BM dC dI h cB cI n sz σ)) (q_x_region dC dI h cB cI n σ rg ba le (va_A (x_ws h cB cI n σ) sz)) 0 0 (va_A (x_ws h cB cI n σ) sz) := by
  refine Met.ofW (cc := cX0_region) (maxL := 4) (ret := (some .boolean)) (by decide) rfl ?_
  intro p e s m args below meth c s₁ B hml hv
  obtain ⟨rfl, hsz, hP, hK, hD0⟩ := hv
  have hx := B.exec
  have hb := B.bytes
  have hr := B.returns
  have hts : ∀ w ∈ bX0, w.before _ s = true := fun w h => atoms_spec (ws := wsX0_region) B.pre w (List.mem_cons_of_mem _ h)
  have hown : s.vm.findClass RX0 = some m.cls := findClass_of_methodNamed B.named
  have hlocks := B.notSynchronized
  subst hsz
  have hD := hD0.self (sz := s.heap.size)
  generalize hAe : va_A (x_ws h cB cI n σ) s.heap.size = A at hD ⊢
  have hA : ∀ q : Nat, s.heap.size ≤ q → A q := fun q h => by rw [← hAe]; exact Or.inr h
  have hS : va_S A s.heap s.heap [] := va_S.rf
  have hP : va_P (dC, dI) vwCl (x_ws h cB cI n σ) s.heap := hP
  have hl := lv_entry ([.ref (h 0), .int rg, .int ba, .int le]) (n := 4) (Nat.le_of_ble_eq_true rfl)
  rw [lg_entry_eq]
  generalize (lg_sl ([.ref (h 0), .int rg, .int ba, .int le]) ++ List.replicate (4 - (lg_sl ([.ref (h 0), .int rg, .int ba, .int le])).length) Slot.unset).toArray = ls at hl ⊢
  have hl : lv_has ls 4 [(0, .ref (h 0)), (1, .int rg), (2, .int ba), (3, .int le)] := hl
  refine lv_iload_n hx hb dX0_region_0 rfl (lv_at hl 1 rfl) ?_
  refine lv_if_lt (tgt := 9) hx hb dX0_region_1 (by decide) (fun c_1 => ?_) (fun c_1 => ?_)
  · refine lv_iconst (v := 0) hx hb dX0_region_9 (by decide) ?_
    exact W.zret (ty := .boolean) (v := 0) hx hb hr rfl (fun t ht hW => ⟨⟨0, σ, rfl, (if_pos c_1).trans rfl, by rw [ht]; exact hP, va_K.moved hW.alike hK, hD⟩, hS.F ht⟩) hS.2.2 dX0_region_10
  · refine lv_iload_n hx hb dX0_region_4 rfl (lv_at hl 1 rfl) ?_
    refine lv_iconst (v := 3) hx hb dX0_region_5 (by decide) ?_
    refine lv_icmp_lt (tgt := 11) hx hb dX0_region_6 (by decide) (fun c_2 => ?_) (fun c_2 => ?_)
    · refine lv_aload_n hx hb dX0_region_11 rfl (lv_at hl 0 rfl) ?_
      refine va_get (D := (dC, dI)) (ci := 0) (v := .ref (h 2)) (C := RX0) (T := TX0) (N := 9) hx hb hts inbX0 hown hK hP 0 rfl rfl 1 (by decide) (hts _ bX0_1) (fun _ h9 => h9) rfl dX0_region_12 ?_
      refine lv_iload_n hx hb dX0_region_15 rfl (lv_at hl 1 rfl) ?_
      refine lv_iload_n hx hb dX0_region_16 rfl (lv_at hl 2 rfl) ?_
      refine lv_ldc (v := 65535) hx hb hown (hts _ bX0_11) dX0_region_17 ?_
      refine lv_iand hx hb dX0_region_19 ?_
      refine va_iast hx hb hK hP hD hS 2 1 rfl rfl (x_r3b c_1 c_2) dX0_region_20 (fun H locs hP hD hS => ?_)
      have hP : va_P (dC, dI) vwCl (x_ws h cB cI n (x_sBas σ (upd (x_bas σ) ((rg).toNatClampNeg) (ba &&& 65535)))) H := hP
      have hD : va_D A (x_ws h cB cI n (x_sBas σ (upd (x_bas σ) ((rg).toNatClampNeg) (ba &&& 65535)))) := hD
      refine lv_aload_n hx hb dX0_region_21 rfl (lv_at hl 0 rfl) ?_
      refine va_get (D := (dC, dI)) (ci := 0) (v := .ref (h 3)) (C := RX0) (T := TX0) (N := 9) hx hb hts inbX0 hown hK hP 0 rfl rfl 2 (by decide) (hts _ bX0_2) (fun _ h9 => h9) rfl dX0_region_22 ?_
      refine lv_iload_n hx hb dX0_region_25 rfl (lv_at hl 1 rfl) ?_
      refine lv_iload_n hx hb dX0_region_26 rfl (lv_at hl 3 rfl) ?_
      refine lv_ldc (v := 65535) hx hb hown (hts _ bX0_11) dX0_region_27 ?_
      refine lv_iand hx hb dX0_region_29 ?_
      refine va_iast hx hb hK hP hD hS 3 1 rfl rfl (x_r3b c_1 c_2) dX0_region_30 (fun H locs hP hD hS => ?_)
      have hP : va_P (dC, dI) vwCl (x_ws h cB cI n (x_sLen (x_sBas σ (upd (x_bas σ) ((rg).toNatClampNeg) (ba &&& 65535))) (upd (x_len (x_sBas σ (upd (x_bas σ) ((rg).toNatClampNeg) (ba &&& 65535)))) ((rg).toNatClampNeg) (le &&& 65535)))) H := hP
      have hD : va_D A (x_ws h cB cI n (x_sLen (x_sBas σ (upd (x_bas σ) ((rg).toNatClampNeg) (ba &&& 65535))) (upd (x_len (x_sBas σ (upd (x_bas σ) ((rg).toNatClampNeg) (ba &&& 65535)))) ((rg).toNatClampNeg) (le &&& 65535)))) := hD
      refine lv_aload_n hx hb dX0_region_31 rfl (lv_at hl 0 rfl) ?_
      refine lv_iload_n hx hb dX0_region_32 rfl (lv_at hl 1 rfl) ?_
      refine lv_iconst (v := 2) hx hb dX0_region_33 (by decide) ?_
      refine lv_icmp_ne (tgt := 42) hx hb dX0_region_34 (by decide) (fun c_3 => ?_) (fun c_3 => ?_)
      · refine lv_bipush (v := 8) hx hb dX0_region_42 (by decide) ?_
        refine x_callv (f := (x_forget n (x_sLen (x_sBas σ (upd (x_bas σ) ((rg).toNatClampNeg) (ba &&& 65535))) (upd (x_len (x_sBas σ (upd (x_bas σ) ((rg).toNatClampNeg) (ba &&& 65535)))) ((rg).toNatClampNeg) (le &&& 65535))) 8)) (va_runV (C := RX0) (As := [.int 8]) (rest := []) ⟨hx, hb, hml, hown, hts⟩ (c_x_forget l dC dI h cB cI n _ (x_sLen (x_sBas σ (upd (x_bas σ) ((rg).toNatClampNeg) (ba &&& 65535))) (upd (x_len (x_sBas σ (upd (x_bas σ) ((rg).toNatClampNeg) (ba &&& 65535)))) ((rg).toNatClampNeg) (le &&& 65535))) 8 ⟨8, by omega, rfl⟩) (cwV 1 hts gX0_X0_forget rfl rfl rfl (by decide +kernel) ⟨Nat.le_of_ble_eq_true rfl, Nat.le_of_ble_eq_true rfl⟩) (x_preM hK hP hD) rfl rfl hl.1 rfl (lv_room (Nat.le_of_ble_eq_true rfl)) dX0_region_44 ⟨Nat.zero_le _, Nat.zero_le _⟩) hP hD hS hA (fun t_4 H locs e_5 hP hD hS => ?_)
        refine lv_iconst (v := 1) hx hb dX0_region_47 (by decide) ?_
        exact W.zret (ty := .boolean) (v := 1) hx hb hr rfl (fun t ht hW => ⟨⟨1, t_4, rfl, (if_neg c_1).trans ((if_pos c_2).trans ((if_neg c_3).trans ((kv_eq e_5).trans rfl))), by rw [ht]; exact hP, va_K.moved hW.alike hK, hD⟩, hS.F ht⟩) hS.2.2 dX0_region_48
      · refine lv_bipush (v := 16) hx hb dX0_region_37 (by decide) ?_
        refine lv_goto (tgt := 44) hx hb dX0_region_39 (by decide) ?_
        refine x_callv (f := (x_forget n (x_sLen (x_sBas σ (upd (x_bas σ) ((rg).toNatClampNeg) (ba &&& 65535))) (upd (x_len (x_sBas σ (upd (x_bas σ) ((rg).toNatClampNeg) (ba &&& 65535)))) ((rg).toNatClampNeg) (le &&& 65535))) 16)) (va_runV (C := RX0) (As := [.int 16]) (rest := []) ⟨hx, hb, hml, hown, hts⟩ (c_x_forget l dC dI h cB cI n _ (x_sLen (x_sBas σ (upd (x_bas σ) ((rg).toNatClampNeg) (ba &&& 65535))) (upd (x_len (x_sBas σ (upd (x_bas σ) ((rg).toNatClampNeg) (ba &&& 65535)))) ((rg).toNatClampNeg) (le &&& 65535))) 16 ⟨16, by omega, rfl⟩) (cwV 1 hts gX0_X0_forget rfl rfl rfl (by decide +kernel) ⟨Nat.le_of_ble_eq_true rfl, Nat.le_of_ble_eq_true rfl⟩) (x_preM hK hP hD) rfl rfl hl.1 rfl (lv_room (Nat.le_of_ble_eq_true rfl)) dX0_region_44 ⟨Nat.zero_le _, Nat.zero_le _⟩) hP hD hS hA (fun t_6 H locs e_7 hP hD hS => ?_)
        refine lv_iconst (v := 1) hx hb dX0_region_47 (by decide) ?_
        exact W.zret (ty := .boolean) (v := 1) hx hb hr rfl (fun t ht hW => ⟨⟨1, t_6, rfl, (if_neg c_1).trans ((if_pos c_2).trans ((if_pos c_3).trans ((kv_eq e_7).trans rfl))), by rw [ht]; exact hP, va_K.moved hW.alike hK, hD⟩, hS.F ht⟩) hS.2.2 dX0_region_48
    · refine lv_iconst (v := 0) hx hb dX0_region_9 (by decide) ?_
      exact W.zret (ty := .boolean) (v := 0) hx hb hr rfl (fun t ht hW => ⟨⟨0, σ, rfl, (if_neg c_1).trans ((if_neg c_2).trans rfl), by rw [ht]; exact hP, va_K.moved hW.alike hK, hD⟩, hS.F ht⟩) hS.2.2 dX0_region_10
set_option maxHeartbeats 4000000 in
set_option maxRecDepth 100000 in
theorem c_x_map (l : Launch) (dC : Nat → ClassId) (dI : Nat → Nat → Nat) (h : Nat → Nat) (cB cI : ClassId) (n : Nat) (sz : Nat) (σ : XS) (b : Int32) (hb01 : b = 0 ∨ b = 1) : Met l yX0_map wsX0_map ({ frames := 1, cells := 0, slots := 0, locals := 22 }) (va_Pc [.ref (h 0), .int b] (x_BM dC dI h cB cI n sz σ)) (q_x_map dC dI h cB cI n σ b (va_A (x_ws h cB cI n σ) sz)) 0 0 (va_A (x_ws h cB cI n σ) sz) := by
  refine Met.ofW (cc := cX0_map) (maxL := 2) (ret := none) (by decide) rfl ?_
  intro p e s m args below meth c s₁ B hml hv
  obtain ⟨rfl, hsz, hP, hK, hD0⟩ := hv
  have hx := B.exec
  have hb := B.bytes
  have hr := B.returns
  have hts : ∀ w ∈ bX0, w.before _ s = true := fun w h => atoms_spec (ws := wsX0_map) B.pre w (List.mem_cons_of_mem _ h)
  have hown : s.vm.findClass RX0 = some m.cls := findClass_of_methodNamed B.named
  have hlocks := B.notSynchronized
  subst hsz
  have hD := hD0.self (sz := s.heap.size)
  generalize hAe : va_A (x_ws h cB cI n σ) s.heap.size = A at hD ⊢
  have hA : ∀ q : Nat, s.heap.size ≤ q → A q := fun q h => by rw [← hAe]; exact Or.inr h
  have hS : va_S A s.heap s.heap [] := va_S.rf
  have hP : va_P (dC, dI) vwCl (x_ws h cB cI n σ) s.heap := hP
  have hl := lv_entry ([.ref (h 0), .int b]) (n := 2) (Nat.le_of_ble_eq_true rfl)
  rw [lg_entry_eq]
  generalize (lg_sl ([.ref (h 0), .int b]) ++ List.replicate (2 - (lg_sl ([.ref (h 0), .int b])).length) Slot.unset).toArray = ls at hl ⊢
  have hl : lv_has ls 2 [(0, .ref (h 0)), (1, .int b)] := hl
  refine lv_aload_n hx hb dX0_map_0 rfl (lv_at hl 0 rfl) ?_
  refine lv_iload_n hx hb dX0_map_1 rfl (lv_at hl 1 rfl) ?_
  refine va_put (D := (dC, dI)) (ci := 0) (v := .int b) (ty := .boolean) (C := RX0) (T := TX0) (N := 9) hx hb hts inbX0 tyX0 tyX0_ok nmX0 hown hK hP hD hS 0 rfl rfl 3 (by decide) (hts _ bX0_3) (fun _ h9 => h9) rfl (by decide +kernel) (x_nb hb01) (x_fb hb01) (Nat.le_of_ble_eq_true rfl) dX0_map_2 (fun H locs hP hD hS => ?_)
  have hP : va_P (dC, dI) vwCl (x_ws h cB cI n (x_sMp σ b)) H := hP
  have hD : va_D A (x_ws h cB cI n (x_sMp σ b)) := hD
  refine lv_aload_n hx hb dX0_map_5 rfl (lv_at hl 0 rfl) ?_
  refine lv_bipush (v := 16) hx hb dX0_map_6 (by decide) ?_
  refine x_callv (f := (x_forget n (x_sMp σ b) 16)) (va_runV (C := RX0) (As := [.int 16]) (rest := []) ⟨hx, hb, hml, hown, hts⟩ (c_x_forget l dC dI h cB cI n _ (x_sMp σ b) 16 ⟨16, by omega, rfl⟩) (cwV 1 hts gX0_X0_forget rfl rfl rfl (by decide +kernel) ⟨Nat.le_of_ble_eq_true rfl, Nat.le_of_ble_eq_true rfl⟩) (x_preM hK hP hD) rfl rfl hl.1 rfl (lv_room (Nat.le_of_ble_eq_true rfl)) dX0_map_8 ⟨Nat.zero_le _, Nat.zero_le _⟩) hP hD hS hA (fun t_1 H locs e_2 hP hD hS => ?_)
  exact W.vret hx hb hr (fun t ht hW => ⟨⟨t_1, rfl, (kv_eq e_2).trans rfl, by rw [ht]; exact hP, va_K.moved hW.alike hK, hD⟩, hS.F ht⟩) hS.2.2 dX0_map_11
set_option maxHeartbeats 4000000 in
set_option maxRecDepth 100000 in
theorem c_x_drop (l : Launch) (dC : Nat → ClassId) (dI : Nat → Nat → Nat) (h : Nat → Nat) (cB cI : ClassId) (n : Nat) (sz : Nat) (σ : XS) (a : Int32) : Met l yX0_drop wsX0_drop ({ frames := 2, cells := 0, slots := 0, locals := 41 }) (va_Pc [.ref (h 0), .int a] (x_BM dC dI h cB cI n sz σ)) (q_x_drop dC dI h cB cI n σ a (va_A (x_ws h cB cI n σ) sz)) 0 0 (va_A (x_ws h cB cI n σ) sz) := by
  refine Met.ofW (cc := cX0_drop) (maxL := 4) (ret := (some .boolean)) (by decide) rfl ?_
  intro p e s m args below meth c s₁ B hml hv
  obtain ⟨rfl, hsz, hP, hK, hD0⟩ := hv
  have hx := B.exec
  have hb := B.bytes
  have hr := B.returns
  have hts : ∀ w ∈ bX0, w.before _ s = true := fun w h => atoms_spec (ws := wsX0_drop) B.pre w (List.mem_cons_of_mem _ h)
  have hown : s.vm.findClass RX0 = some m.cls := findClass_of_methodNamed B.named
  have hlocks := B.notSynchronized
  subst hsz
  have hD := hD0.self (sz := s.heap.size)
  generalize hAe : va_A (x_ws h cB cI n σ) s.heap.size = A at hD ⊢
  have hA : ∀ q : Nat, s.heap.size ≤ q → A q := fun q h => by rw [← hAe]; exact Or.inr h
  have hS : va_S A s.heap s.heap [] := va_S.rf
  have hP : va_P (dC, dI) vwCl (x_ws h cB cI n σ) s.heap := hP
  have hl := lv_entry ([.ref (h 0), .int a]) (n := 4) (Nat.le_of_ble_eq_true rfl)
  rw [lg_entry_eq]
  generalize (lg_sl ([.ref (h 0), .int a]) ++ List.replicate (4 - (lg_sl ([.ref (h 0), .int a])).length) Slot.unset).toArray = ls at hl ⊢
  have hl : lv_has ls 4 [(0, .ref (h 0)), (1, .int a)] := hl
  refine lv_iload_n hx hb dX0_drop_0 rfl (lv_at hl 1 rfl) ?_
  refine lv_ldc (v := 65535) hx hb hown (hts _ bX0_11) dX0_drop_1 ?_
  refine lv_iand hx hb dX0_drop_3 ?_
  refine lv_istore_n (lv' := [(2, .int (a &&& 65535)), (0, .ref (h 0)), (1, .int a)]) hx hb dX0_drop_4 rfl hl (by decide) rfl (fun ls hl => ?_)
  refine lv_iload_n hx hb dX0_drop_5 rfl (lv_at hl 0 rfl) ?_
  refine vp_callSi (W.runS (As := [.int (a &&& 65535)]) (rest := []) ⟨hx, hb, hml, hown, hts⟩ (c_x_slotOf l (a &&& 65535) ) (va_cwS 1 hts gX0_X0_slotOf rfl rfl rfl (by decide +kernel) ⟨Nat.le_of_ble_eq_true rfl, Nat.le_of_ble_eq_true rfl⟩) (fs_pre) rfl rfl hl.1 rfl (lv_room (Nat.le_of_ble_eq_true rfl)) dX0_drop_6 ⟨Nat.zero_le _, Nat.zero_le _⟩) (fun r er => ?_)
  subst er
  refine lv_istore_n (lv' := [(3, .int (x_slotOf (a &&& 65535))), (2, .int (a &&& 65535)), (0, .ref (h 0)), (1, .int a)]) hx hb dX0_drop_9 rfl hl (by decide) rfl (fun ls hl => ?_)
  refine lv_aload_n hx hb dX0_drop_10 rfl (lv_at hl 2 rfl) ?_
  refine lv_iload_n hx hb dX0_drop_11 rfl (lv_at hl 0 rfl) ?_
  refine lv_iload_n hx hb dX0_drop_12 rfl (lv_at hl 1 rfl) ?_
  refine vp_callSi (W.runV (C := RX0) (As := [.int (x_slotOf (a &&& 65535)), .int (a &&& 65535)]) (rest := []) ⟨hx, hb, hml, hown, hts⟩ (c_x_counts l dC dI h cB cI n σ (x_slotOf (a &&& 65535)) (a &&& 65535) (x_slot_in _)) (cwV 2 hts gX0_X0_counts rfl rfl rfl (by decide +kernel) ⟨Nat.le_of_ble_eq_true rfl, Nat.le_of_ble_eq_true rfl⟩) (x_preP hK hP) rfl rfl hl.1 rfl (lv_room (Nat.le_of_ble_eq_true rfl)) dX0_drop_13 ⟨Nat.zero_le _, Nat.zero_le _⟩) (fun r er => ?_)
  subst er
  refine lv_if_ne (tgt := 21) hx hb dX0_drop_16 (by decide) (fun c_1 => ?_) (fun c_1 => ?_)
  · refine lv_aload_n hx hb dX0_drop_21 rfl (lv_at hl 2 rfl) ?_
    refine va_get (D := (dC, dI)) (ci := 0) (v := .ref (h 4)) (C := RX0) (T := TX0) (N := 9) hx hb hts inbX0 hown hK hP 0 rfl rfl 5 (by decide) (hts _ bX0_5) (fun _ h9 => h9) rfl dX0_drop_22 ?_
    refine lv_iload_n hx hb dX0_drop_25 rfl (lv_at hl 0 rfl) ?_
    refine lv_iconst (v := (-1)) hx hb dX0_drop_26 (by decide) ?_
    refine va_iast hx hb hK hP hD hS 4 1 rfl rfl (x_slot_in _) dX0_drop_27 (fun H locs hP hD hS => ?_)
    have hP : va_P (dC, dI) vwCl (x_ws h cB cI n (x_sKp σ (upd (x_kp σ) (((x_slotOf (a &&& 65535))).toNatClampNeg) (-1)))) H := hP
    have hD : va_D A (x_ws h cB cI n (x_sKp σ (upd (x_kp σ) (((x_slotOf (a &&& 65535))).toNatClampNeg) (-1)))) := hD
    refine lv_iconst (v := 1) hx hb dX0_drop_28 (by decide) ?_
    exact W.zret (ty := .boolean) (v := 1) hx hb hr rfl (fun t ht hW => ⟨⟨1, (x_sKp σ (upd (x_kp σ) (((x_slotOf (a &&& 65535))).toNatClampNeg) (-1))), rfl, (if_neg c_1).trans rfl, by rw [ht]; exact hP, va_K.moved hW.alike hK, hD⟩, hS.F ht⟩) hS.2.2 dX0_drop_29
  · refine lv_iconst (v := 0) hx hb dX0_drop_19 (by decide) ?_
    exact W.zret (ty := .boolean) (v := 0) hx hb hr rfl (fun t ht hW => ⟨⟨0, σ, rfl, (if_pos c_1).trans rfl, by rw [ht]; exact hP, va_K.moved hW.alike hK, hD⟩, hS.F ht⟩) hS.2.2 dX0_drop_20
end
section
set_option maxHeartbeats 4000000 in
set_option maxRecDepth 100000 in
theorem c_x_placeThroughS (l : Launch) (dC : Nat → ClassId) (dI : Nat → Nat → Nat) (h : Nat → Nat) (cB cI : ClassId) (n : Nat) (sz : Nat) (σ : XS) (a : Int32) (b : Int32) (kp : Int32) (hn : n ≤ 2048) : Met l yX0_placeThroughS wsX0_placeThroughS ({ frames := 2, cells := 0, slots := 0, locals := 42 }) (va_Pc [.ref (h 0), .int a, .int b, .int kp] (x_BM dC dI h cB cI n sz σ)) (q_x_placeThroughS dC dI h cB cI n σ a b kp (va_A (x_ws h cB cI n σ) sz)) 0 0 (va_A (x_ws h cB cI n σ) sz) := by
  refine Met.ofW (cc := cX0_placeThroughS) (maxL := 7) (ret := (some .int)) (by decide) rfl ?_
  intro p e s m args below meth c s₁ B hml hv
  obtain ⟨rfl, hsz, hP, hK, hD0⟩ := hv
  have hx := B.exec
  have hb := B.bytes
  have hr := B.returns
  have hts : ∀ w ∈ bX0, w.before _ s = true := fun w h => atoms_spec (ws := wsX0_placeThroughS) B.pre w (List.mem_cons_of_mem _ h)
  have hown : s.vm.findClass RX0 = some m.cls := findClass_of_methodNamed B.named
  have hlocks := B.notSynchronized
  subst hsz
  have hD := hD0.self (sz := s.heap.size)
  generalize hAe : va_A (x_ws h cB cI n σ) s.heap.size = A at hD ⊢
  have hA : ∀ q : Nat, s.heap.size ≤ q → A q := fun q h => by rw [← hAe]; exact Or.inr h
  have hS : va_S A s.heap s.heap [] := va_S.rf
  have hP : va_P (dC, dI) vwCl (x_ws h cB cI n σ) s.heap := hP
  have hl := lv_entry ([.ref (h 0), .int a, .int b, .int kp]) (n := 7) (Nat.le_of_ble_eq_true rfl)
  rw [lg_entry_eq]
  generalize (lg_sl ([.ref (h 0), .int a, .int b, .int kp]) ++ List.replicate (7 - (lg_sl ([.ref (h 0), .int a, .int b, .int kp])).length) Slot.unset).toArray = ls at hl ⊢
  have hl : lv_has ls 7 [(0, .ref (h 0)), (1, .int a), (2, .int b), (3, .int kp)] := hl
  refine lv_iload_n hx hb dX0_placeThroughS_0 rfl (lv_at hl 1 rfl) ?_
  refine vp_callSi (W.runS (As := [.int a]) (rest := []) ⟨hx, hb, hml, hown, hts⟩ (c_x_regionOf l a ) (va_cwS 1 hts gX0_X0_regionOf rfl rfl rfl (by decide +kernel) ⟨Nat.le_of_ble_eq_true rfl, Nat.le_of_ble_eq_true rfl⟩) (fs_pre) rfl rfl hl.1 rfl (lv_room (Nat.le_of_ble_eq_true rfl)) dX0_placeThroughS_1 ⟨Nat.zero_le _, Nat.zero_le _⟩) (fun r er => ?_)
  subst er
  refine lv_iconst (v := 2) hx hb dX0_placeThroughS_4 (by decide) ?_
  refine lv_icmp_ne (tgt := 20) hx hb dX0_placeThroughS_5 (by decide) (fun c_1 => ?_) (fun c_1 => ?_)
  · refine lv_iconst (v := 3) hx hb dX0_placeThroughS_20 (by decide) ?_
    refine lv_iload_n hx hb dX0_placeThroughS_21 rfl (lv_at hl 2 rfl) ?_
    refine vp_callSi (W.runS (As := [.int 3, .int b]) (rest := []) ⟨hx, hb, hml, hown, hts⟩ (c_x_access l 3 b ) (va_cwS 2 hts gX0_X0_access rfl rfl rfl (by decide +kernel) ⟨Nat.le_of_ble_eq_true rfl, Nat.le_of_ble_eq_true rfl⟩) (fs_pre) rfl rfl hl.1 rfl (lv_room (Nat.le_of_ble_eq_true rfl)) dX0_placeThroughS_22 ⟨Nat.zero_le _, Nat.zero_le _⟩) (fun r er => ?_)
    subst er
    exact W.iret (v := (x_access 3 b)) hx hb hr (fun t ht hW => ⟨⟨(x_access 3 b), σ, rfl, (if_neg c_1).trans rfl, by rw [ht]; exact hP, va_K.moved hW.alike hK, hD⟩, hS.F ht⟩) hS.2.2 dX0_placeThroughS_25
  · refine lv_aload_n hx hb dX0_placeThroughS_8 rfl (lv_at hl 0 rfl) ?_
    refine lv_iconst (v := 2) hx hb dX0_placeThroughS_9 (by decide) ?_
    refine lv_iload_n hx hb dX0_placeThroughS_10 rfl (lv_at hl 1 rfl) ?_
    refine vp_callSi (W.runS (As := [.int a]) (rest := [.int 2, .ref (h 0)]) ⟨hx, hb, hml, hown, hts⟩ (c_x_pageOf l a ) (va_cwS 1 hts gX0_X0_pageOf rfl rfl rfl (by decide +kernel) ⟨Nat.le_of_ble_eq_true rfl, Nat.le_of_ble_eq_true rfl⟩) (fs_pre) rfl rfl hl.1 rfl (lv_room (Nat.le_of_ble_eq_true rfl)) dX0_placeThroughS_11 ⟨Nat.zero_le _, Nat.zero_le _⟩) (fun r er => ?_)
    subst er
    refine vp_callSi (W.runV (C := RX0) (As := [.int 2, .int (x_pageOf a)]) (rest := []) ⟨hx, hb, hml, hown, hts⟩ (c_x_inside l dC dI h cB cI n σ 2 (x_pageOf a) (vp_in_nI (n := 2) (by decide) (by decide))) (cwV 2 hts gX0_X0_inside rfl rfl rfl (by decide +kernel) ⟨Nat.le_of_ble_eq_true rfl, Nat.le_of_ble_eq_true rfl⟩) (x_preP hK hP) rfl rfl hl.1 rfl (lv_room (Nat.le_of_ble_eq_true rfl)) dX0_placeThroughS_14 ⟨Nat.zero_le _, Nat.zero_le _⟩) (fun r er => ?_)
    subst er
    refine lv_if_ne (tgt := 26) hx hb dX0_placeThroughS_17 (by decide) (fun c_2 => ?_) (fun c_2 => ?_)
    · refine lv_iload_n hx hb dX0_placeThroughS_26 rfl (lv_at hl 1 rfl) ?_
      refine vp_callSi (W.runS (As := [.int a]) (rest := []) ⟨hx, hb, hml, hown, hts⟩ (c_x_slotOf l a ) (va_cwS 1 hts gX0_X0_slotOf rfl rfl rfl (by decide +kernel) ⟨Nat.le_of_ble_eq_true rfl, Nat.le_of_ble_eq_true rfl⟩) (fs_pre) rfl rfl hl.1 rfl (lv_room (Nat.le_of_ble_eq_true rfl)) dX0_placeThroughS_27 ⟨Nat.zero_le _, Nat.zero_le _⟩) (fun r er => ?_)
      subst er
      refine lv_istore (lv' := [(4, .int (x_slotOf a)), (0, .ref (h 0)), (1, .int a), (2, .int b), (3, .int kp)]) hx hb dX0_placeThroughS_30 hl (by decide) rfl (fun ls hl => ?_)
      refine lv_aload_n hx hb dX0_placeThroughS_32 rfl (lv_at hl 1 rfl) ?_
      refine lv_iload hx hb dX0_placeThroughS_33 (lv_at hl 0 rfl) ?_
      refine lv_iload_n hx hb dX0_placeThroughS_35 rfl (lv_at hl 2 rfl) ?_
      refine vp_callSi (W.runV (C := RX0) (As := [.int (x_slotOf a), .int a]) (rest := []) ⟨hx, hb, hml, hown, hts⟩ (c_x_counts l dC dI h cB cI n σ (x_slotOf a) a (x_slot_in a)) (cwV 2 hts gX0_X0_counts rfl rfl rfl (by decide +kernel) ⟨Nat.le_of_ble_eq_true rfl, Nat.le_of_ble_eq_true rfl⟩) (x_preP hK hP) rfl rfl hl.1 rfl (lv_room (Nat.le_of_ble_eq_true rfl)) dX0_placeThroughS_36 ⟨Nat.zero_le _, Nat.zero_le _⟩) (fun r er => ?_)
      subst er
      refine lv_if_eq (tgt := 54) hx hb dX0_placeThroughS_39 (by decide) (fun c_3 => ?_) (fun c_3 => ?_)
      · refine lv_aload_n hx hb dX0_placeThroughS_54 rfl (lv_at hl 1 rfl) ?_
        refine va_get (D := (dC, dI)) (ci := 0) (v := .ref (h 2)) (C := RX0) (T := TX0) (N := 9) hx hb hts inbX0 hown hK hP 0 rfl rfl 1 (by decide) (hts _ bX0_1) (fun _ h9 => h9) rfl dX0_placeThroughS_55 ?_
        refine lv_iconst (v := 2) hx hb dX0_placeThroughS_58 (by decide) ?_
        refine va_iald hx hb hK hP 2 1 rfl rfl (vp_in_nI (n := 2) (by decide) (by decide)) dX0_placeThroughS_59 ?_
        refine lv_iconst (v := 4) hx hb dX0_placeThroughS_60 (by decide) ?_
        refine lv_iload_n hx hb dX0_placeThroughS_61 rfl (lv_at hl 2 rfl) ?_
        refine vp_callSi (W.runS (As := [.int a]) (rest := [.int 4, .int (x_bas σ (2 : Int32).toNatClampNeg)]) ⟨hx, hb, hml, hown, hts⟩ (c_x_pageOf l a ) (va_cwS 1 hts gX0_X0_pageOf rfl rfl rfl (by decide +kernel) ⟨Nat.le_of_ble_eq_true rfl, Nat.le_of_ble_eq_true rfl⟩) (fs_pre) rfl rfl hl.1 rfl (lv_room (Nat.le_of_ble_eq_true rfl)) dX0_placeThroughS_62 ⟨Nat.zero_le _, Nat.zero_le _⟩) (fun r er => ?_)
        subst er
        refine lv_imul hx hb dX0_placeThroughS_65 ?_
        refine lv_iadd hx hb dX0_placeThroughS_66 ?_
        refine lv_istore (lv' := [(5, .int ((x_bas σ (2 : Int32).toNatClampNeg) + ((4 : Int32) * (x_pageOf a)))), (4, .int (x_slotOf a)), (0, .ref (h 0)), (1, .int a), (2, .int b), (3, .int kp)]) hx hb dX0_placeThroughS_67 hl (by decide) rfl (fun ls hl => ?_)
        refine lv_aload_n hx hb dX0_placeThroughS_69 rfl (lv_at hl 2 rfl) ?_
        refine lv_iload hx hb dX0_placeThroughS_70 (lv_at hl 0 rfl) ?_
        refine lv_iconst (v := 4) hx hb dX0_placeThroughS_72 (by decide) ?_
        refine vp_callSi (W.runV (C := RX0) (As := [.int ((x_bas σ (2 : Int32).toNatClampNeg) + ((4 : Int32) * (x_pageOf a))), .int 4]) (rest := []) ⟨hx, hb, hml, hown, hts⟩ (c_x_inMemory l dC dI h cB cI n σ ((x_bas σ (2 : Int32).toNatClampNeg) + ((4 : Int32) * (x_pageOf a))) 4 ) (cwV 2 hts gX0_X0_inMemory rfl rfl rfl (by decide +kernel) ⟨Nat.le_of_ble_eq_true rfl, Nat.le_of_ble_eq_true rfl⟩) (x_preP hK hP) rfl rfl hl.1 rfl (lv_room (Nat.le_of_ble_eq_true rfl)) dX0_placeThroughS_73 ⟨Nat.zero_le _, Nat.zero_le _⟩) (fun r er => ?_)
        subst er
        refine lv_if_ne (tgt := 82) hx hb dX0_placeThroughS_76 (by decide) (fun c_4 => ?_) (fun c_4 => ?_)
        · refine lv_aload_n hx hb dX0_placeThroughS_82 rfl (lv_at hl 2 rfl) ?_
          refine lv_iload hx hb dX0_placeThroughS_83 (lv_at hl 0 rfl) ?_
          refine vp_callSi (W.runV (C := RX0) (As := [.int ((x_bas σ (2 : Int32).toNatClampNeg) + ((4 : Int32) * (x_pageOf a)))]) (rest := []) ⟨hx, hb, hml, hown, hts⟩ (c_x_entryAt l dC dI h cB cI n σ ((x_bas σ (2 : Int32).toNatClampNeg) + ((4 : Int32) * (x_pageOf a))) (x_inM4 hn c_4)) (cwV 1 hts gX0_X0_entryAt rfl rfl rfl (by decide +kernel) ⟨Nat.le_of_ble_eq_true rfl, Nat.le_of_ble_eq_true rfl⟩) (x_preP hK hP) rfl rfl hl.1 rfl (lv_room (Nat.le_of_ble_eq_true rfl)) dX0_placeThroughS_85 ⟨Nat.zero_le _, Nat.zero_le _⟩) (fun r er => ?_)
          subst er
          refine lv_istore (lv' := [(6, .int (x_entryAt n σ ((x_bas σ (2 : Int32).toNatClampNeg) + ((4 : Int32) * (x_pageOf a))))), (5, .int ((x_bas σ (2 : Int32).toNatClampNeg) + ((4 : Int32) * (x_pageOf a)))), (4, .int (x_slotOf a)), (0, .ref (h 0)), (1, .int a), (2, .int b), (3, .int kp)]) hx hb dX0_placeThroughS_88 hl (by decide) rfl (fun ls hl => ?_)
          refine lv_iload hx hb dX0_placeThroughS_90 (lv_at hl 0 rfl) ?_
          refine vp_callSi (W.runS (As := [.int (x_entryAt n σ ((x_bas σ (2 : Int32).toNatClampNeg) + ((4 : Int32) * (x_pageOf a))))]) (rest := []) ⟨hx, hb, hml, hown, hts⟩ (c_x_isValid l (x_entryAt n σ ((x_bas σ (2 : Int32).toNatClampNeg) + ((4 : Int32) * (x_pageOf a)))) ) (va_cwS 1 hts gX0_X0_isValid rfl rfl rfl (by decide +kernel) ⟨Nat.le_of_ble_eq_true rfl, Nat.le_of_ble_eq_true rfl⟩) (fs_pre) rfl rfl hl.1 rfl (lv_room (Nat.le_of_ble_eq_true rfl)) dX0_placeThroughS_92 ⟨Nat.zero_le _, Nat.zero_le _⟩) (fun r er => ?_)
          subst er
          refine lv_if_ne (tgt := 104) hx hb dX0_placeThroughS_95 (by decide) (fun c_5 => ?_) (fun c_5 => ?_)
          · refine lv_iload_n hx hb dX0_placeThroughS_104 rfl (lv_at hl 6 rfl) ?_
            refine lv_if_eq (tgt := 119) hx hb dX0_placeThroughS_105 (by decide) (fun c_6 => ?_) (fun c_6 => ?_)
            · refine lv_iload hx hb dX0_placeThroughS_119 (lv_at hl 0 rfl) ?_
              refine lv_iload_n hx hb dX0_placeThroughS_121 rfl (lv_at hl 4 rfl) ?_
              refine vp_callSi (W.runS (As := [.int (x_entryAt n σ ((x_bas σ (2 : Int32).toNatClampNeg) + ((4 : Int32) * (x_pageOf a)))), .int a]) (rest := []) ⟨hx, hb, hml, hown, hts⟩ (c_x_physical l (x_entryAt n σ ((x_bas σ (2 : Int32).toNatClampNeg) + ((4 : Int32) * (x_pageOf a)))) a ) (va_cwS 2 hts gX0_X0_physical rfl rfl rfl (by decide +kernel) ⟨Nat.le_of_ble_eq_true rfl, Nat.le_of_ble_eq_true rfl⟩) (fs_pre) rfl rfl hl.1 rfl (lv_room (Nat.le_of_ble_eq_true rfl)) dX0_placeThroughS_122 ⟨Nat.zero_le _, Nat.zero_le _⟩) (fun r er => ?_)
              subst er
              exact W.iret (v := (x_physical (x_entryAt n σ ((x_bas σ (2 : Int32).toNatClampNeg) + ((4 : Int32) * (x_pageOf a)))) a)) hx hb hr (fun t ht hW => ⟨⟨(x_physical (x_entryAt n σ ((x_bas σ (2 : Int32).toNatClampNeg) + ((4 : Int32) * (x_pageOf a)))) a), σ, rfl, (if_pos c_1).trans ((if_neg c_2).trans ((if_pos c_3).trans ((if_neg c_4).trans ((if_neg c_5).trans ((if_pos c_6).trans rfl))))), by rw [ht]; exact hP, va_K.moved hW.alike hK, hD⟩, hS.F ht⟩) hS.2.2 dX0_placeThroughS_125
            · refine lv_aload_n hx hb dX0_placeThroughS_108 rfl (lv_at hl 3 rfl) ?_
              refine lv_iload hx hb dX0_placeThroughS_109 (lv_at hl 2 rfl) ?_
              refine lv_iload_n hx hb dX0_placeThroughS_111 rfl (lv_at hl 4 rfl) ?_
              refine lv_iload hx hb dX0_placeThroughS_112 (lv_at hl 0 rfl) ?_
              refine lv_iload hx hb dX0_placeThroughS_114 (lv_at hl 1 rfl) ?_
              refine x_callv (f := (x_keepEntry n σ (x_slotOf a) a (x_entryAt n σ ((x_bas σ (2 : Int32).toNatClampNeg) + ((4 : Int32) * (x_pageOf a)))) ((x_bas σ (2 : Int32).toNatClampNeg) + ((4 : Int32) * (x_pageOf a))))) (va_runV (C := RX0) (As := [.int (x_slotOf a), .int a, .int (x_entryAt n σ ((x_bas σ (2 : Int32).toNatClampNeg) + ((4 : Int32) * (x_pageOf a)))), .int ((x_bas σ (2 : Int32).toNatClampNeg) + ((4 : Int32) * (x_pageOf a)))]) (rest := []) ⟨hx, hb, hml, hown, hts⟩ (c_x_keepEntry l dC dI h cB cI n _ σ (x_slotOf a) a (x_entryAt n σ ((x_bas σ (2 : Int32).toNatClampNeg) + ((4 : Int32) * (x_pageOf a)))) ((x_bas σ (2 : Int32).toNatClampNeg) + ((4 : Int32) * (x_pageOf a))) (x_slot_in a)) (cwV 4 hts gX0_X0_keepEntry rfl rfl rfl (by decide +kernel) ⟨Nat.le_of_ble_eq_true rfl, Nat.le_of_ble_eq_true rfl⟩) (x_preM hK hP hD) rfl rfl hl.1 rfl (lv_room (Nat.le_of_ble_eq_true rfl)) dX0_placeThroughS_116 ⟨Nat.zero_le _, Nat.zero_le _⟩) hP hD hS hA (fun t_7 H locs e_8 hP hD hS => ?_)
              refine lv_iload hx hb dX0_placeThroughS_119 (lv_at hl 0 rfl) ?_
              refine lv_iload_n hx hb dX0_placeThroughS_121 rfl (lv_at hl 4 rfl) ?_
              refine vp_callSi (W.runS (As := [.int (x_entryAt n σ ((x_bas σ (2 : Int32).toNatClampNeg) + ((4 : Int32) * (x_pageOf a)))), .int a]) (rest := []) ⟨hx, hb, hml, hown, hts⟩ (c_x_physical l (x_entryAt n σ ((x_bas σ (2 : Int32).toNatClampNeg) + ((4 : Int32) * (x_pageOf a)))) a ) (va_cwS 2 hts gX0_X0_physical rfl rfl rfl (by decide +kernel) ⟨Nat.le_of_ble_eq_true rfl, Nat.le_of_ble_eq_true rfl⟩) (fs_pre) rfl rfl hl.1 rfl (lv_room (Nat.le_of_ble_eq_true rfl)) dX0_placeThroughS_122 ⟨Nat.zero_le _, Nat.zero_le _⟩) (fun r er => ?_)
              subst er
              exact W.iret (v := (x_physical (x_entryAt n σ ((x_bas σ (2 : Int32).toNatClampNeg) + ((4 : Int32) * (x_pageOf a)))) a)) hx hb hr (fun t ht hW => ⟨⟨(x_physical (x_entryAt n σ ((x_bas σ (2 : Int32).toNatClampNeg) + ((4 : Int32) * (x_pageOf a)))) a), t_7, rfl, (if_pos c_1).trans ((if_neg c_2).trans ((if_pos c_3).trans ((if_neg c_4).trans ((if_neg c_5).trans ((if_neg c_6).trans ((kv_eq e_8).trans rfl)))))), by rw [ht]; exact hP, va_K.moved hW.alike hK, hD⟩, hS.F ht⟩) hS.2.2 dX0_placeThroughS_125
          · refine lv_iconst (v := 2) hx hb dX0_placeThroughS_98 (by decide) ?_
            refine lv_iload_n hx hb dX0_placeThroughS_99 rfl (lv_at hl 5 rfl) ?_
            refine vp_callSi (W.runS (As := [.int 2, .int b]) (rest := []) ⟨hx, hb, hml, hown, hts⟩ (c_x_missing l 2 b ) (va_cwS 2 hts gX0_X0_missing rfl rfl rfl (by decide +kernel) ⟨Nat.le_of_ble_eq_true rfl, Nat.le_of_ble_eq_true rfl⟩) (fs_pre) rfl rfl hl.1 rfl (lv_room (Nat.le_of_ble_eq_true rfl)) dX0_placeThroughS_100 ⟨Nat.zero_le _, Nat.zero_le _⟩) (fun r er => ?_)
            subst er
            exact W.iret (v := (x_missing 2 b)) hx hb hr (fun t ht hW => ⟨⟨(x_missing 2 b), σ, rfl, (if_pos c_1).trans ((if_neg c_2).trans ((if_pos c_3).trans ((if_neg c_4).trans ((if_pos c_5).trans rfl)))), by rw [ht]; exact hP, va_K.moved hW.alike hK, hD⟩, hS.F ht⟩) hS.2.2 dX0_placeThroughS_103
        · refine lv_bipush (v := (-100)) hx hb dX0_placeThroughS_79 (by decide) ?_
          exact W.iret (v := (-100)) hx hb hr (fun t ht hW => ⟨⟨(-100), σ, rfl, (if_pos c_1).trans ((if_neg c_2).trans ((if_pos c_3).trans ((if_pos c_4).trans rfl))), by rw [ht]; exact hP, va_K.moved hW.alike hK, hD⟩, hS.F ht⟩) hS.2.2 dX0_placeThroughS_81
      · refine lv_aload_n hx hb dX0_placeThroughS_42 rfl (lv_at hl 1 rfl) ?_
        refine va_get (D := (dC, dI)) (ci := 0) (v := .ref (h 5)) (C := RX0) (T := TX0) (N := 9) hx hb hts inbX0 hown hK hP 0 rfl rfl 6 (by decide) (hts _ bX0_6) (fun _ h9 => h9) rfl dX0_placeThroughS_43 ?_
        refine lv_iload hx hb dX0_placeThroughS_46 (lv_at hl 0 rfl) ?_
        refine va_iald hx hb hK hP 5 1 rfl rfl (x_slot_in a) dX0_placeThroughS_48 ?_
        refine lv_iload_n hx hb dX0_placeThroughS_49 rfl (lv_at hl 2 rfl) ?_
        refine vp_callSi (W.runS (As := [.int (x_ke σ ((x_slotOf a)).toNatClampNeg), .int a]) (rest := []) ⟨hx, hb, hml, hown, hts⟩ (c_x_physical l (x_ke σ ((x_slotOf a)).toNatClampNeg) a ) (va_cwS 2 hts gX0_X0_physical rfl rfl rfl (by decide +kernel) ⟨Nat.le_of_ble_eq_true rfl, Nat.le_of_ble_eq_true rfl⟩) (fs_pre) rfl rfl hl.1 rfl (lv_room (Nat.le_of_ble_eq_true rfl)) dX0_placeThroughS_50 ⟨Nat.zero_le _, Nat.zero_le _⟩) (fun r er => ?_)
        subst er
        exact W.iret (v := (x_physical (x_ke σ ((x_slotOf a)).toNatClampNeg) a)) hx hb hr (fun t ht hW => ⟨⟨(x_physical (x_ke σ ((x_slotOf a)).toNatClampNeg) a), σ, rfl, (if_pos c_1).trans ((if_neg c_2).trans ((if_neg c_3).trans rfl)), by rw [ht]; exact hP, va_K.moved hW.alike hK, hD⟩, hS.F ht⟩) hS.2.2 dX0_placeThroughS_53
    · refine lv_iconst (v := 3) hx hb dX0_placeThroughS_20 (by decide) ?_
      refine lv_iload_n hx hb dX0_placeThroughS_21 rfl (lv_at hl 2 rfl) ?_
      refine vp_callSi (W.runS (As := [.int 3, .int b]) (rest := []) ⟨hx, hb, hml, hown, hts⟩ (c_x_access l 3 b ) (va_cwS 2 hts gX0_X0_access rfl rfl rfl (by decide +kernel) ⟨Nat.le_of_ble_eq_true rfl, Nat.le_of_ble_eq_true rfl⟩) (fs_pre) rfl rfl hl.1 rfl (lv_room (Nat.le_of_ble_eq_true rfl)) dX0_placeThroughS_22 ⟨Nat.zero_le _, Nat.zero_le _⟩) (fun r er => ?_)
      subst er
      exact W.iret (v := (x_access 3 b)) hx hb hr (fun t ht hW => ⟨⟨(x_access 3 b), σ, rfl, (if_pos c_1).trans ((if_pos c_2).trans rfl), by rw [ht]; exact hP, va_K.moved hW.alike hK, hD⟩, hS.F ht⟩) hS.2.2 dX0_placeThroughS_25
set_option maxHeartbeats 4000000 in
set_option maxRecDepth 100000 in
theorem c_x_placeOfEntry (l : Launch) (dC : Nat → ClassId) (dI : Nat → Nat → Nat) (h : Nat → Nat) (cB cI : ClassId) (n : Nat) (sz : Nat) (σ : XS) (a : Int32) (b : Int32) (kp : Int32) (hn : n ≤ 2048) : Met l yX0_placeOfEntry wsX0_placeOfEntry ({ frames := 3, cells := 0, slots := 0, locals := 68 }) (va_Pc [.ref (h 0), .int a, .int b, .int kp] (x_BM dC dI h cB cI n sz σ)) (q_x_placeOfEntry dC dI h cB cI n σ a b kp (va_A (x_ws h cB cI n σ) sz)) 0 0 (va_A (x_ws h cB cI n σ) sz) := by
  refine Met.ofW (cc := cX0_placeOfEntry) (maxL := 8) (ret := (some .int)) (by decide) rfl ?_
  intro p e s m args below meth c s₁ B hml hv
  obtain ⟨rfl, hsz, hP, hK, hD0⟩ := hv
  have hx := B.exec
  have hb := B.bytes
  have hr := B.returns
  have hts : ∀ w ∈ bX0, w.before _ s = true := fun w h => atoms_spec (ws := wsX0_placeOfEntry) B.pre w (List.mem_cons_of_mem _ h)
  have hown : s.vm.findClass RX0 = some m.cls := findClass_of_methodNamed B.named
  have hlocks := B.notSynchronized
  subst hsz
  have hD := hD0.self (sz := s.heap.size)
  generalize hAe : va_A (x_ws h cB cI n σ) s.heap.size = A at hD ⊢
  have hA : ∀ q : Nat, s.heap.size ≤ q → A q := fun q h => by rw [← hAe]; exact Or.inr h
  have hS : va_S A s.heap s.heap [] := va_S.rf
  have hP : va_P (dC, dI) vwCl (x_ws h cB cI n σ) s.heap := hP
  have hl := lv_entry ([.ref (h 0), .int a, .int b, .int kp]) (n := 8) (Nat.le_of_ble_eq_true rfl)
  rw [lg_entry_eq]
  generalize (lg_sl ([.ref (h 0), .int a, .int b, .int kp]) ++ List.replicate (8 - (lg_sl ([.ref (h 0), .int a, .int b, .int kp])).length) Slot.unset).toArray = ls at hl ⊢
  have hl : lv_has ls 8 [(0, .ref (h 0)), (1, .int a), (2, .int b), (3, .int kp)] := hl
  refine lv_iload_n hx hb dX0_placeOfEntry_0 rfl (lv_at hl 1 rfl) ?_
  refine vp_callSi (W.runS (As := [.int a]) (rest := []) ⟨hx, hb, hml, hown, hts⟩ (c_x_regionOf l a ) (va_cwS 1 hts gX0_X0_regionOf rfl rfl rfl (by decide +kernel) ⟨Nat.le_of_ble_eq_true rfl, Nat.le_of_ble_eq_true rfl⟩) (fs_pre) rfl rfl hl.1 rfl (lv_room (Nat.le_of_ble_eq_true rfl)) dX0_placeOfEntry_1 ⟨Nat.zero_le _, Nat.zero_le _⟩) (fun r er => ?_)
  subst er
  refine lv_istore (lv' := [(4, .int (x_regionOf a)), (0, .ref (h 0)), (1, .int a), (2, .int b), (3, .int kp)]) hx hb dX0_placeOfEntry_4 hl (by decide) rfl (fun ls hl => ?_)
  refine lv_iload_n hx hb dX0_placeOfEntry_6 rfl (lv_at hl 2 rfl) ?_
  refine vp_callSi (W.runS (As := [.int a]) (rest := []) ⟨hx, hb, hml, hown, hts⟩ (c_x_pageOf l a ) (va_cwS 1 hts gX0_X0_pageOf rfl rfl rfl (by decide +kernel) ⟨Nat.le_of_ble_eq_true rfl, Nat.le_of_ble_eq_true rfl⟩) (fs_pre) rfl rfl hl.1 rfl (lv_room (Nat.le_of_ble_eq_true rfl)) dX0_placeOfEntry_7 ⟨Nat.zero_le _, Nat.zero_le _⟩) (fun r er => ?_)
  subst er
  refine lv_istore (lv' := [(5, .int (x_pageOf a)), (4, .int (x_regionOf a)), (0, .ref (h 0)), (1, .int a), (2, .int b), (3, .int kp)]) hx hb dX0_placeOfEntry_10 hl (by decide) rfl (fun ls hl => ?_)
  refine lv_aload_n hx hb dX0_placeOfEntry_12 rfl (lv_at hl 2 rfl) ?_
  refine lv_iload hx hb dX0_placeOfEntry_13 (lv_at hl 1 rfl) ?_
  refine lv_iload hx hb dX0_placeOfEntry_15 (lv_at hl 0 rfl) ?_
  refine vp_callSi (W.runV (C := RX0) (As := [.int (x_regionOf a), .int (x_pageOf a)]) (rest := []) ⟨hx, hb, hml, hown, hts⟩ (c_x_inside l dC dI h cB cI n σ (x_regionOf a) (x_pageOf a) (x_region_in a)) (cwV 2 hts gX0_X0_inside rfl rfl rfl (by decide +kernel) ⟨Nat.le_of_ble_eq_true rfl, Nat.le_of_ble_eq_true rfl⟩) (x_preP hK hP) rfl rfl hl.1 rfl (lv_room (Nat.le_of_ble_eq_true rfl)) dX0_placeOfEntry_17 ⟨Nat.zero_le _, Nat.zero_le _⟩) (fun r er => ?_)
  subst er
  refine lv_if_ne (tgt := 29) hx hb dX0_placeOfEntry_20 (by decide) (fun c_1 => ?_) (fun c_1 => ?_)
  · refine lv_aload_n hx hb dX0_placeOfEntry_29 rfl (lv_at hl 2 rfl) ?_
    refine va_get (D := (dC, dI)) (ci := 0) (v := .ref (h 2)) (C := RX0) (T := TX0) (N := 9) hx hb hts inbX0 hown hK hP 0 rfl rfl 1 (by decide) (hts _ bX0_1) (fun _ h9 => h9) rfl dX0_placeOfEntry_30 ?_
    refine lv_iload hx hb dX0_placeOfEntry_33 (lv_at hl 1 rfl) ?_
    refine va_iald hx hb hK hP 2 1 rfl rfl (x_inside_lt (x_region_in a) c_1) dX0_placeOfEntry_35 ?_
    refine lv_iconst (v := 4) hx hb dX0_placeOfEntry_36 (by decide) ?_
    refine lv_iload hx hb dX0_placeOfEntry_37 (lv_at hl 0 rfl) ?_
    refine lv_imul hx hb dX0_placeOfEntry_39 ?_
    refine lv_iadd hx hb dX0_placeOfEntry_40 ?_
    refine lv_istore (lv' := [(6, .int ((x_bas σ ((x_regionOf a)).toNatClampNeg) + ((4 : Int32) * (x_pageOf a)))), (5, .int (x_pageOf a)), (4, .int (x_regionOf a)), (0, .ref (h 0)), (1, .int a), (2, .int b), (3, .int kp)]) hx hb dX0_placeOfEntry_41 hl (by decide) rfl (fun ls hl => ?_)
    refine lv_iload hx hb dX0_placeOfEntry_43 (lv_at hl 2 rfl) ?_
    refine lv_iconst (v := 2) hx hb dX0_placeOfEntry_45 (by decide) ?_
    refine lv_icmp_ne (tgt := 54) hx hb dX0_placeOfEntry_46 (by decide) (fun c_2 => ?_) (fun c_2 => ?_)
    · refine lv_aload_n hx hb dX0_placeOfEntry_54 rfl (lv_at hl 3 rfl) ?_
      refine lv_iload hx hb dX0_placeOfEntry_55 (lv_at hl 0 rfl) ?_
      refine lv_ldc (v := 65535) hx hb hown (hts _ bX0_11) dX0_placeOfEntry_57 ?_
      refine lv_iand hx hb dX0_placeOfEntry_59 ?_
      refine lv_iload_n hx hb dX0_placeOfEntry_60 rfl (lv_at hl 5 rfl) ?_
      refine lv_iload_n hx hb dX0_placeOfEntry_61 rfl (lv_at hl 6 rfl) ?_
      refine x_calli (f := (x_placeThroughS n σ (((x_bas σ ((x_regionOf a)).toNatClampNeg) + ((4 : Int32) * (x_pageOf a))) &&& 65535) b kp)) (va_runV (C := RX0) (As := [.int (((x_bas σ ((x_regionOf a)).toNatClampNeg) + ((4 : Int32) * (x_pageOf a))) &&& 65535), .int b, .int kp]) (rest := []) ⟨hx, hb, hml, hown, hts⟩ (c_x_placeThroughS l dC dI h cB cI n _ σ (((x_bas σ ((x_regionOf a)).toNatClampNeg) + ((4 : Int32) * (x_pageOf a))) &&& 65535) b kp hn) (cwV 3 hts gX0_X0_placeThroughS rfl rfl rfl (by decide +kernel) ⟨Nat.le_of_ble_eq_true rfl, Nat.le_of_ble_eq_true rfl⟩) (x_preM hK hP hD) rfl rfl hl.1 rfl (lv_room (Nat.le_of_ble_eq_true rfl)) dX0_placeOfEntry_62 ⟨Nat.zero_le _, Nat.zero_le _⟩) hP hD hS hA (fun r_5 t_3 H locs e_4 hP hD hS => ?_)
      refine lv_istore (lv' := [(7, .int r_5), (6, .int ((x_bas σ ((x_regionOf a)).toNatClampNeg) + ((4 : Int32) * (x_pageOf a)))), (5, .int (x_pageOf a)), (4, .int (x_regionOf a)), (0, .ref (h 0)), (1, .int a), (2, .int b), (3, .int kp)]) hx hb dX0_placeOfEntry_65 hl (by decide) rfl (fun ls hl => ?_)
      refine lv_iload hx hb dX0_placeOfEntry_67 (lv_at hl 0 rfl) ?_
      refine lv_if_ge (tgt := 75) hx hb dX0_placeOfEntry_69 (by decide) (fun c_6 => ?_) (fun c_6 => ?_)
      · refine lv_aload_n hx hb dX0_placeOfEntry_75 rfl (lv_at hl 4 rfl) ?_
        refine lv_iload hx hb dX0_placeOfEntry_76 (lv_at hl 0 rfl) ?_
        refine lv_iconst (v := 4) hx hb dX0_placeOfEntry_78 (by decide) ?_
        refine vp_callSi (W.runV (C := RX0) (As := [.int r_5, .int 4]) (rest := []) ⟨hx, hb, hml, hown, hts⟩ (c_x_inMemory l dC dI h cB cI n t_3 r_5 4 ) (cwV 2 hts gX0_X0_inMemory rfl rfl rfl (by decide +kernel) ⟨Nat.le_of_ble_eq_true rfl, Nat.le_of_ble_eq_true rfl⟩) (x_preP hK hP) rfl rfl hl.1 rfl (lv_room (Nat.le_of_ble_eq_true rfl)) dX0_placeOfEntry_79 ⟨Nat.zero_le _, Nat.zero_le _⟩) (fun r er => ?_)
        subst er
        refine lv_if_eq (tgt := 90) hx hb dX0_placeOfEntry_82 (by decide) (fun c_7 => ?_) (fun c_7 => ?_)
        · refine lv_bipush (v := (-100)) hx hb dX0_placeOfEntry_90 (by decide) ?_
          exact W.iret (v := (-100)) hx hb hr (fun t ht hW => ⟨⟨(-100), t_3, rfl, (if_neg c_1).trans ((if_neg c_2).trans ((kb_eq e_4).trans ((if_pos c_6).trans ((if_pos c_7).trans rfl)))), by rw [ht]; exact hP, va_K.moved hW.alike hK, hD⟩, hS.F ht⟩) hS.2.2 dX0_placeOfEntry_92
        · refine lv_iload hx hb dX0_placeOfEntry_85 (lv_at hl 0 rfl) ?_
          refine lv_goto (tgt := 92) hx hb dX0_placeOfEntry_87 (by decide) ?_
          exact W.iret (v := r_5) hx hb hr (fun t ht hW => ⟨⟨r_5, t_3, rfl, (if_neg c_1).trans ((if_neg c_2).trans ((kb_eq e_4).trans ((if_pos c_6).trans ((if_neg c_7).trans rfl)))), by rw [ht]; exact hP, va_K.moved hW.alike hK, hD⟩, hS.F ht⟩) hS.2.2 dX0_placeOfEntry_92
      · refine lv_iload hx hb dX0_placeOfEntry_72 (lv_at hl 0 rfl) ?_
        exact W.iret (v := r_5) hx hb hr (fun t ht hW => ⟨⟨r_5, t_3, rfl, (if_neg c_1).trans ((if_neg c_2).trans ((kb_eq e_4).trans ((if_neg c_6).trans rfl))), by rw [ht]; exact hP, va_K.moved hW.alike hK, hD⟩, hS.F ht⟩) hS.2.2 dX0_placeOfEntry_74
    · refine lv_iload hx hb dX0_placeOfEntry_49 (lv_at hl 0 rfl) ?_
      refine lv_goto (tgt := 65) hx hb dX0_placeOfEntry_51 (by decide) ?_
      refine lv_istore (lv' := [(7, .int ((x_bas σ ((x_regionOf a)).toNatClampNeg) + ((4 : Int32) * (x_pageOf a)))), (6, .int ((x_bas σ ((x_regionOf a)).toNatClampNeg) + ((4 : Int32) * (x_pageOf a)))), (5, .int (x_pageOf a)), (4, .int (x_regionOf a)), (0, .ref (h 0)), (1, .int a), (2, .int b), (3, .int kp)]) hx hb dX0_placeOfEntry_65 hl (by decide) rfl (fun ls hl => ?_)
      refine lv_iload hx hb dX0_placeOfEntry_67 (lv_at hl 0 rfl) ?_
      refine lv_if_ge (tgt := 75) hx hb dX0_placeOfEntry_69 (by decide) (fun c_8 => ?_) (fun c_8 => ?_)
      · refine lv_aload_n hx hb dX0_placeOfEntry_75 rfl (lv_at hl 4 rfl) ?_
        refine lv_iload hx hb dX0_placeOfEntry_76 (lv_at hl 0 rfl) ?_
        refine lv_iconst (v := 4) hx hb dX0_placeOfEntry_78 (by decide) ?_
        refine vp_callSi (W.runV (C := RX0) (As := [.int ((x_bas σ ((x_regionOf a)).toNatClampNeg) + ((4 : Int32) * (x_pageOf a))), .int 4]) (rest := []) ⟨hx, hb, hml, hown, hts⟩ (c_x_inMemory l dC dI h cB cI n σ ((x_bas σ ((x_regionOf a)).toNatClampNeg) + ((4 : Int32) * (x_pageOf a))) 4 ) (cwV 2 hts gX0_X0_inMemory rfl rfl rfl (by decide +kernel) ⟨Nat.le_of_ble_eq_true rfl, Nat.le_of_ble_eq_true rfl⟩) (x_preP hK hP) rfl rfl hl.1 rfl (lv_room (Nat.le_of_ble_eq_true rfl)) dX0_placeOfEntry_79 ⟨Nat.zero_le _, Nat.zero_le _⟩) (fun r er => ?_)
        subst er
        refine lv_if_eq (tgt := 90) hx hb dX0_placeOfEntry_82 (by decide) (fun c_9 => ?_) (fun c_9 => ?_)
        · refine lv_bipush (v := (-100)) hx hb dX0_placeOfEntry_90 (by decide) ?_
          exact W.iret (v := (-100)) hx hb hr (fun t ht hW => ⟨⟨(-100), σ, rfl, (if_neg c_1).trans ((if_pos c_2).trans ((if_pos c_8).trans ((if_pos c_9).trans rfl))), by rw [ht]; exact hP, va_K.moved hW.alike hK, hD⟩, hS.F ht⟩) hS.2.2 dX0_placeOfEntry_92
        · refine lv_iload hx hb dX0_placeOfEntry_85 (lv_at hl 0 rfl) ?_
          refine lv_goto (tgt := 92) hx hb dX0_placeOfEntry_87 (by decide) ?_
          exact W.iret (v := ((x_bas σ ((x_regionOf a)).toNatClampNeg) + ((4 : Int32) * (x_pageOf a)))) hx hb hr (fun t ht hW => ⟨⟨((x_bas σ ((x_regionOf a)).toNatClampNeg) + ((4 : Int32) * (x_pageOf a))), σ, rfl, (if_neg c_1).trans ((if_pos c_2).trans ((if_pos c_8).trans ((if_neg c_9).trans rfl))), by rw [ht]; exact hP, va_K.moved hW.alike hK, hD⟩, hS.F ht⟩) hS.2.2 dX0_placeOfEntry_92
      · refine lv_iload hx hb dX0_placeOfEntry_72 (lv_at hl 0 rfl) ?_
        exact W.iret (v := ((x_bas σ ((x_regionOf a)).toNatClampNeg) + ((4 : Int32) * (x_pageOf a)))) hx hb hr (fun t ht hW => ⟨⟨((x_bas σ ((x_regionOf a)).toNatClampNeg) + ((4 : Int32) * (x_pageOf a))), σ, rfl, (if_neg c_1).trans ((if_pos c_2).trans ((if_neg c_8).trans rfl)), by rw [ht]; exact hP, va_K.moved hW.alike hK, hD⟩, hS.F ht⟩) hS.2.2 dX0_placeOfEntry_74
  · refine lv_iconst (v := 1) hx hb dX0_placeOfEntry_23 (by decide) ?_
    refine lv_iload_n hx hb dX0_placeOfEntry_24 rfl (lv_at hl 4 rfl) ?_
    refine vp_callSi (W.runS (As := [.int 1, .int b]) (rest := []) ⟨hx, hb, hml, hown, hts⟩ (c_x_access l 1 b ) (va_cwS 2 hts gX0_X0_access rfl rfl rfl (by decide +kernel) ⟨Nat.le_of_ble_eq_true rfl, Nat.le_of_ble_eq_true rfl⟩) (fs_pre) rfl rfl hl.1 rfl (lv_room (Nat.le_of_ble_eq_true rfl)) dX0_placeOfEntry_25 ⟨Nat.zero_le _, Nat.zero_le _⟩) (fun r er => ?_)
    subst er
    exact W.iret (v := (x_access 1 b)) hx hb hr (fun t ht hW => ⟨⟨(x_access 1 b), σ, rfl, (if_pos c_1).trans rfl, by rw [ht]; exact hP, va_K.moved hW.alike hK, hD⟩, hS.F ht⟩) hS.2.2 dX0_placeOfEntry_28
end
section
set_option maxHeartbeats 4000000 in
set_option maxRecDepth 100000 in
theorem c_x_translate (l : Launch) (dC : Nat → ClassId) (dI : Nat → Nat → Nat) (h : Nat → Nat) (cB cI : ClassId) (n : Nat) (tw tr : Nat) (sz : Nat) (σ : XS) (a : Int32) (md : Int32) (b : Int32) (kp : Int32) (hn : n ≤ 2048) (hI : x_Inv n σ) (ha : ∃ K : Nat, K < 65536 ∧ a = nI K) : Met l yX0_translate wsX0_translate ({ frames := 4, cells := 0, slots := 0, locals := 95 }) (va_Pc [.ref (h 0), .int a, .int md, .int b, .int kp] (x_BMt dC dI h cB cI n tw tr sz σ)) (q_x_translate dC dI h cB cI n σ a md b kp (va_A (x_ws h cB cI n σ) sz)) 0 0 (va_A (x_ws h cB cI n σ) sz) := by
  refine Met.ofW (cc := cX0_translate) (maxL := 9) (ret := (some .int)) (by decide) rfl ?_
  intro p e s m args below meth c s₁ B hml hv
  obtain ⟨rfl, hsz, hP, hK, hD0, hST⟩ := hv
  have hx := B.exec
  have hb := B.bytes
  have hr := B.returns
  have hts : ∀ w ∈ bX0, w.before _ s = true := fun w h => atoms_spec (ws := wsX0_translate) B.pre w (List.mem_cons_of_mem _ h)
  have hown : s.vm.findClass RX0 = some m.cls := findClass_of_methodNamed B.named
  have hlocks := B.notSynchronized
  subst hsz
  have hD := hD0.self (sz := s.heap.size)
  generalize hAe : va_A (x_ws h cB cI n σ) s.heap.size = A at hD hST ⊢
  have hA : ∀ q : Nat, s.heap.size ≤ q → A q := fun q h => by rw [← hAe]; exact Or.inr h
  have hS : va_S A s.heap s.heap [] := va_S.rf
  have hP : va_P (dC, dI) vwCl (x_ws h cB cI n σ) s.heap := hP
  have hl := lv_entry ([.ref (h 0), .int a, .int md, .int b, .int kp]) (n := 9) (Nat.le_of_ble_eq_true rfl)
  rw [lg_entry_eq]
  generalize (lg_sl ([.ref (h 0), .int a, .int md, .int b, .int kp]) ++ List.replicate (9 - (lg_sl ([.ref (h 0), .int a, .int md, .int b, .int kp])).length) Slot.unset).toArray = ls at hl ⊢
  have hl : lv_has ls 9 [(0, .ref (h 0)), (1, .int a), (2, .int md), (3, .int b), (4, .int kp)] := hl
  refine lv_aload_n hx hb dX0_translate_0 rfl (lv_at hl 0 rfl) ?_
  refine va_get (D := (dC, dI)) (ci := 0) (v := .int (x_mp σ)) (C := RX0) (T := TX0) (N := 9) hx hb hts inbX0 hown hK hP 0 rfl rfl 3 (by decide) (hts _ bX0_3) (fun _ h9 => h9) rfl dX0_translate_1 ?_
  refine lv_if_ne (tgt := 9) hx hb dX0_translate_4 (by decide) (fun c_1 => ?_) (fun c_1 => ?_)
  · refine lv_iload_n hx hb dX0_translate_9 rfl (lv_at hl 1 rfl) ?_
    refine vp_callSi (W.runS (As := [.int a]) (rest := []) ⟨hx, hb, hml, hown, hts⟩ (c_x_slotOf l a ) (va_cwS 1 hts gX0_X0_slotOf rfl rfl rfl (by decide +kernel) ⟨Nat.le_of_ble_eq_true rfl, Nat.le_of_ble_eq_true rfl⟩) (fs_pre) rfl rfl hl.1 rfl (lv_room (Nat.le_of_ble_eq_true rfl)) dX0_translate_10 ⟨Nat.zero_le _, Nat.zero_le _⟩) (fun r er => ?_)
    subst er
    refine lv_istore (lv' := [(5, .int (x_slotOf a)), (0, .ref (h 0)), (1, .int a), (2, .int md), (3, .int b), (4, .int kp)]) hx hb dX0_translate_13 hl (by decide) rfl (fun ls hl => ?_)
    refine lv_aload_n hx hb dX0_translate_15 rfl (lv_at hl 1 rfl) ?_
    refine lv_iload hx hb dX0_translate_16 (lv_at hl 0 rfl) ?_
    refine lv_iload_n hx hb dX0_translate_18 rfl (lv_at hl 2 rfl) ?_
    refine vp_callSi (W.runV (C := RX0) (As := [.int (x_slotOf a), .int a]) (rest := []) ⟨hx, hb, hml, hown, hts⟩ (c_x_counts l dC dI h cB cI n σ (x_slotOf a) a (x_slot_in a)) (cwV 2 hts gX0_X0_counts rfl rfl rfl (by decide +kernel) ⟨Nat.le_of_ble_eq_true rfl, Nat.le_of_ble_eq_true rfl⟩) (x_preP hK hP) rfl rfl hl.1 rfl (lv_room (Nat.le_of_ble_eq_true rfl)) dX0_translate_19 ⟨Nat.zero_le _, Nat.zero_le _⟩) (fun r er => ?_)
    subst er
    refine lv_istore (lv' := [(6, .int (x_counts n σ (x_slotOf a) a)), (5, .int (x_slotOf a)), (0, .ref (h 0)), (1, .int a), (2, .int md), (3, .int b), (4, .int kp)]) hx hb dX0_translate_22 hl (by decide) rfl (fun ls hl => ?_)
    refine lv_iload hx hb dX0_translate_24 (lv_at hl 0 rfl) ?_
    refine lv_if_eq (tgt := 39) hx hb dX0_translate_26 (by decide) (fun c_2 => ?_) (fun c_2 => ?_)
    · refine lv_aload_n hx hb dX0_translate_39 rfl (lv_at hl 2 rfl) ?_
      refine lv_iload_n hx hb dX0_translate_40 rfl (lv_at hl 3 rfl) ?_
      refine lv_iload_n hx hb dX0_translate_41 rfl (lv_at hl 5 rfl) ?_
      refine lv_iload hx hb dX0_translate_42 (lv_at hl 6 rfl) ?_
      refine x_calli (f := (x_placeOfEntry n σ a b kp)) (va_runV (C := RX0) (As := [.int a, .int b, .int kp]) (rest := []) ⟨hx, hb, hml, hown, hts⟩ (c_x_placeOfEntry l dC dI h cB cI n _ σ a b kp hn) (cwV 3 hts gX0_X0_placeOfEntry rfl rfl rfl (by decide +kernel) ⟨Nat.le_of_ble_eq_true rfl, Nat.le_of_ble_eq_true rfl⟩) (x_preM hK hP hD) rfl rfl hl.1 rfl (lv_room (Nat.le_of_ble_eq_true rfl)) dX0_translate_44 ⟨Nat.zero_le _, Nat.zero_le _⟩) hP hD hS hA (fun r_5 t_3 H locs e_4 hP hD hS => ?_)
      refine lv_istore (lv' := [(7, .int r_5), (6, .int (x_counts n σ (x_slotOf a) a)), (5, .int (x_slotOf a)), (0, .ref (h 0)), (1, .int a), (2, .int md), (3, .int b), (4, .int kp)]) hx hb dX0_translate_47 hl (by decide) rfl (fun ls hl => ?_)
      refine lv_iload hx hb dX0_translate_49 (lv_at hl 0 rfl) ?_
      refine lv_if_ge (tgt := 57) hx hb dX0_translate_51 (by decide) (fun c_6 => ?_) (fun c_6 => ?_)
      · refine lv_iload hx hb dX0_translate_57 (lv_at hl 1 rfl) ?_
        refine lv_if_eq (tgt := 72) hx hb dX0_translate_59 (by decide) (fun _ => ?_) (fun c_7 => absurd c_2 c_7)
        refine lv_aload_n hx hb dX0_translate_72 rfl (lv_at hl 3 rfl) ?_
        refine lv_iload hx hb dX0_translate_73 (lv_at hl 0 rfl) ?_
        refine vp_callSi (W.runV (C := RX0) (As := [.int r_5]) (rest := []) ⟨hx, hb, hml, hown, hts⟩ (c_x_entryAt l dC dI h cB cI n t_3 r_5 (x_poe_in hn e_4 c_6)) (cwV 1 hts gX0_X0_entryAt rfl rfl rfl (by decide +kernel) ⟨Nat.le_of_ble_eq_true rfl, Nat.le_of_ble_eq_true rfl⟩) (x_preP hK hP) rfl rfl hl.1 rfl (lv_room (Nat.le_of_ble_eq_true rfl)) dX0_translate_75 ⟨Nat.zero_le _, Nat.zero_le _⟩) (fun r er => ?_)
        subst er
        refine lv_istore (lv' := [(8, .int (x_entryAt n t_3 r_5)), (7, .int r_5), (6, .int (x_counts n σ (x_slotOf a) a)), (5, .int (x_slotOf a)), (0, .ref (h 0)), (1, .int a), (2, .int md), (3, .int b), (4, .int kp)]) hx hb dX0_translate_78 hl (by decide) rfl (fun ls hl => ?_)
        refine lv_iload hx hb dX0_translate_80 (lv_at hl 0 rfl) ?_
        refine lv_iload_n hx hb dX0_translate_82 rfl (lv_at hl 6 rfl) ?_
        refine lv_iload_n hx hb dX0_translate_83 rfl (lv_at hl 7 rfl) ?_
        refine vp_callSi (W.runS (As := [.int (x_entryAt n t_3 r_5), .int md, .int b]) (rest := []) ⟨hx, hb, hml, hown, hts⟩ (c_x_gives l tw tr (x_entryAt n t_3 r_5) md b ) (va_cwS 3 hts gX0_X0_gives rfl rfl rfl (by decide +kernel) ⟨Nat.le_of_ble_eq_true rfl, Nat.le_of_ble_eq_true rfl⟩) (x_preS hST hS) rfl rfl hl.1 rfl (lv_room (Nat.le_of_ble_eq_true rfl)) dX0_translate_84 ⟨Nat.zero_le _, Nat.zero_le _⟩) (fun r er => ?_)
        subst er
        refine lv_if_ne (tgt := 96) hx hb dX0_translate_87 (by decide) (fun c_8 => ?_) (fun c_8 => ?_)
        · refine lv_iload hx hb dX0_translate_96 (lv_at hl 0 rfl) ?_
          refine vp_callSi (W.runS (As := [.int (x_entryAt n t_3 r_5)]) (rest := []) ⟨hx, hb, hml, hown, hts⟩ (c_x_isValid l (x_entryAt n t_3 r_5) ) (va_cwS 1 hts gX0_X0_isValid rfl rfl rfl (by decide +kernel) ⟨Nat.le_of_ble_eq_true rfl, Nat.le_of_ble_eq_true rfl⟩) (fs_pre) rfl rfl hl.1 rfl (lv_room (Nat.le_of_ble_eq_true rfl)) dX0_translate_98 ⟨Nat.zero_le _, Nat.zero_le _⟩) (fun r er => ?_)
          subst er
          refine lv_if_ne (tgt := 110) hx hb dX0_translate_101 (by decide) (fun c_9 => ?_) (fun c_9 => ?_)
          · refine lv_iload hx hb dX0_translate_110 (lv_at hl 8 rfl) ?_
            refine lv_if_eq (tgt := 136) hx hb dX0_translate_112 (by decide) (fun c_10 => ?_) (fun c_10 => ?_)
            · refine lv_iload hx hb dX0_translate_136 (lv_at hl 0 rfl) ?_
              refine lv_iload_n hx hb dX0_translate_138 rfl (lv_at hl 5 rfl) ?_
              refine vp_callSi (W.runS (As := [.int (x_entryAt n t_3 r_5), .int a]) (rest := []) ⟨hx, hb, hml, hown, hts⟩ (c_x_physical l (x_entryAt n t_3 r_5) a ) (va_cwS 2 hts gX0_X0_physical rfl rfl rfl (by decide +kernel) ⟨Nat.le_of_ble_eq_true rfl, Nat.le_of_ble_eq_true rfl⟩) (fs_pre) rfl rfl hl.1 rfl (lv_room (Nat.le_of_ble_eq_true rfl)) dX0_translate_139 ⟨Nat.zero_le _, Nat.zero_le _⟩) (fun r er => ?_)
              subst er
              exact W.iret (v := (x_physical (x_entryAt n t_3 r_5) a)) hx hb hr (fun t ht hW => ⟨⟨(x_physical (x_entryAt n t_3 r_5) a), t_3, rfl, (if_neg c_1).trans ((if_pos c_2).trans ((kb_eq e_4).trans ((if_pos c_6).trans ((if_neg c_8).trans ((if_neg c_9).trans ((if_pos c_10).trans rfl)))))), by rw [ht]; exact hP, va_K.moved hW.alike hK, hD⟩, hS.F ht⟩) hS.2.2 dX0_translate_142
            · refine lv_aload_n hx hb dX0_translate_115 rfl (lv_at hl 4 rfl) ?_
              refine lv_iload hx hb dX0_translate_116 (lv_at hl 3 rfl) ?_
              refine lv_iload_n hx hb dX0_translate_118 rfl (lv_at hl 5 rfl) ?_
              refine lv_iload hx hb dX0_translate_119 (lv_at hl 0 rfl) ?_
              refine lv_iload hx hb dX0_translate_121 (lv_at hl 1 rfl) ?_
              refine x_callv (f := (x_keepEntry n t_3 (x_slotOf a) a (x_entryAt n t_3 r_5) r_5)) (va_runV (C := RX0) (As := [.int (x_slotOf a), .int a, .int (x_entryAt n t_3 r_5), .int r_5]) (rest := []) ⟨hx, hb, hml, hown, hts⟩ (c_x_keepEntry l dC dI h cB cI n _ t_3 (x_slotOf a) a (x_entryAt n t_3 r_5) r_5 (x_slot_in a)) (cwV 4 hts gX0_X0_keepEntry rfl rfl rfl (by decide +kernel) ⟨Nat.le_of_ble_eq_true rfl, Nat.le_of_ble_eq_true rfl⟩) (x_preM hK hP hD) rfl rfl hl.1 rfl (lv_room (Nat.le_of_ble_eq_true rfl)) dX0_translate_123 ⟨Nat.zero_le _, Nat.zero_le _⟩) hP hD hS hA (fun t_11 H locs e_12 hP hD hS => ?_)
              refine lv_iload_n hx hb dX0_translate_126 rfl (lv_at hl 7 rfl) ?_
              refine lv_if_eq (tgt := 136) hx hb dX0_translate_127 (by decide) (fun c_13 => ?_) (fun c_13 => ?_)
              · refine lv_iload hx hb dX0_translate_136 (lv_at hl 0 rfl) ?_
                refine lv_iload_n hx hb dX0_translate_138 rfl (lv_at hl 5 rfl) ?_
                refine vp_callSi (W.runS (As := [.int (x_entryAt n t_3 r_5), .int a]) (rest := []) ⟨hx, hb, hml, hown, hts⟩ (c_x_physical l (x_entryAt n t_3 r_5) a ) (va_cwS 2 hts gX0_X0_physical rfl rfl rfl (by decide +kernel) ⟨Nat.le_of_ble_eq_true rfl, Nat.le_of_ble_eq_true rfl⟩) (fs_pre) rfl rfl hl.1 rfl (lv_room (Nat.le_of_ble_eq_true rfl)) dX0_translate_139 ⟨Nat.zero_le _, Nat.zero_le _⟩) (fun r er => ?_)
                subst er
                exact W.iret (v := (x_physical (x_entryAt n t_3 r_5) a)) hx hb hr (fun t ht hW => ⟨⟨(x_physical (x_entryAt n t_3 r_5) a), t_11, rfl, (if_neg c_1).trans ((if_pos c_2).trans ((kb_eq e_4).trans ((if_pos c_6).trans ((if_neg c_8).trans ((if_neg c_9).trans ((if_neg c_10).trans ((kv_eq e_12).trans ((if_pos c_13).trans rfl)))))))), by rw [ht]; exact hP, va_K.moved hW.alike hK, hD⟩, hS.F ht⟩) hS.2.2 dX0_translate_142
              · refine lv_aload_n hx hb dX0_translate_130 rfl (lv_at hl 4 rfl) ?_
                refine lv_iload hx hb dX0_translate_131 (lv_at hl 3 rfl) ?_
                refine x_callv (f := (x_markWritten n t_11 (x_slotOf a))) (va_runV (C := RX0) (As := [.int (x_slotOf a)]) (rest := []) ⟨hx, hb, hml, hown, hts⟩ (c_x_markWritten l dC dI h cB cI n _ t_11 (x_slotOf a) (x_slot_in a) (x_mark_in (x_slot_in a) (x_poe_in hn e_4 c_6) e_12)) (cwV 1 hts gX0_X0_markWritten rfl rfl rfl (by decide +kernel) ⟨Nat.le_of_ble_eq_true rfl, Nat.le_of_ble_eq_true rfl⟩) (x_preM hK hP hD) rfl rfl hl.1 rfl (lv_room (Nat.le_of_ble_eq_true rfl)) dX0_translate_133 ⟨Nat.zero_le _, Nat.zero_le _⟩) hP hD hS hA (fun t_14 H locs e_15 hP hD hS => ?_)
                refine lv_iload hx hb dX0_translate_136 (lv_at hl 0 rfl) ?_
                refine lv_iload_n hx hb dX0_translate_138 rfl (lv_at hl 5 rfl) ?_
                refine vp_callSi (W.runS (As := [.int (x_entryAt n t_3 r_5), .int a]) (rest := []) ⟨hx, hb, hml, hown, hts⟩ (c_x_physical l (x_entryAt n t_3 r_5) a ) (va_cwS 2 hts gX0_X0_physical rfl rfl rfl (by decide +kernel) ⟨Nat.le_of_ble_eq_true rfl, Nat.le_of_ble_eq_true rfl⟩) (fs_pre) rfl rfl hl.1 rfl (lv_room (Nat.le_of_ble_eq_true rfl)) dX0_translate_139 ⟨Nat.zero_le _, Nat.zero_le _⟩) (fun r er => ?_)
                subst er
                exact W.iret (v := (x_physical (x_entryAt n t_3 r_5) a)) hx hb hr (fun t ht hW => ⟨⟨(x_physical (x_entryAt n t_3 r_5) a), t_14, rfl, (if_neg c_1).trans ((if_pos c_2).trans ((kb_eq e_4).trans ((if_pos c_6).trans ((if_neg c_8).trans ((if_neg c_9).trans ((if_neg c_10).trans ((kv_eq e_12).trans ((if_neg c_13).trans ((kv_eq e_15).trans rfl))))))))), by rw [ht]; exact hP, va_K.moved hW.alike hK, hD⟩, hS.F ht⟩) hS.2.2 dX0_translate_142
          · refine lv_iconst (v := 0) hx hb dX0_translate_104 (by decide) ?_
            refine lv_iload_n hx hb dX0_translate_105 rfl (lv_at hl 7 rfl) ?_
            refine vp_callSi (W.runS (As := [.int 0, .int b]) (rest := []) ⟨hx, hb, hml, hown, hts⟩ (c_x_missing l 0 b ) (va_cwS 2 hts gX0_X0_missing rfl rfl rfl (by decide +kernel) ⟨Nat.le_of_ble_eq_true rfl, Nat.le_of_ble_eq_true rfl⟩) (fs_pre) rfl rfl hl.1 rfl (lv_room (Nat.le_of_ble_eq_true rfl)) dX0_translate_106 ⟨Nat.zero_le _, Nat.zero_le _⟩) (fun r er => ?_)
            subst er
            exact W.iret (v := (x_missing 0 b)) hx hb hr (fun t ht hW => ⟨⟨(x_missing 0 b), t_3, rfl, (if_neg c_1).trans ((if_pos c_2).trans ((kb_eq e_4).trans ((if_pos c_6).trans ((if_neg c_8).trans ((if_pos c_9).trans rfl))))), by rw [ht]; exact hP, va_K.moved hW.alike hK, hD⟩, hS.F ht⟩) hS.2.2 dX0_translate_109
        · refine lv_iconst (v := 0) hx hb dX0_translate_90 (by decide) ?_
          refine lv_iload_n hx hb dX0_translate_91 rfl (lv_at hl 7 rfl) ?_
          refine vp_callSi (W.runS (As := [.int 0, .int b]) (rest := []) ⟨hx, hb, hml, hown, hts⟩ (c_x_access l 0 b ) (va_cwS 2 hts gX0_X0_access rfl rfl rfl (by decide +kernel) ⟨Nat.le_of_ble_eq_true rfl, Nat.le_of_ble_eq_true rfl⟩) (fs_pre) rfl rfl hl.1 rfl (lv_room (Nat.le_of_ble_eq_true rfl)) dX0_translate_92 ⟨Nat.zero_le _, Nat.zero_le _⟩) (fun r er => ?_)
          subst er
          exact W.iret (v := (x_access 0 b)) hx hb hr (fun t ht hW => ⟨⟨(x_access 0 b), t_3, rfl, (if_neg c_1).trans ((if_pos c_2).trans ((kb_eq e_4).trans ((if_pos c_6).trans ((if_pos c_8).trans rfl)))), by rw [ht]; exact hP, va_K.moved hW.alike hK, hD⟩, hS.F ht⟩) hS.2.2 dX0_translate_95
      · refine lv_iload hx hb dX0_translate_54 (lv_at hl 0 rfl) ?_
        exact W.iret (v := r_5) hx hb hr (fun t ht hW => ⟨⟨r_5, t_3, rfl, (if_neg c_1).trans ((if_pos c_2).trans ((kb_eq e_4).trans ((if_neg c_6).trans rfl))), by rw [ht]; exact hP, va_K.moved hW.alike hK, hD⟩, hS.F ht⟩) hS.2.2 dX0_translate_56
    · refine lv_aload_n hx hb dX0_translate_29 rfl (lv_at hl 2 rfl) ?_
      refine va_get (D := (dC, dI)) (ci := 0) (v := .ref (h 6)) (C := RX0) (T := TX0) (N := 9) hx hb hts inbX0 hown hK hP 0 rfl rfl 7 (by decide) (hts _ bX0_7) (fun _ h9 => h9) rfl dX0_translate_30 ?_
      refine lv_iload hx hb dX0_translate_33 (lv_at hl 1 rfl) ?_
      refine va_iald hx hb hK hP 6 1 rfl rfl (x_slot_in a) dX0_translate_35 ?_
      refine lv_goto (tgt := 47) hx hb dX0_translate_36 (by decide) ?_
      refine lv_istore (lv' := [(7, .int (x_kpl σ ((x_slotOf a)).toNatClampNeg)), (6, .int (x_counts n σ (x_slotOf a) a)), (5, .int (x_slotOf a)), (0, .ref (h 0)), (1, .int a), (2, .int md), (3, .int b), (4, .int kp)]) hx hb dX0_translate_47 hl (by decide) rfl (fun ls hl => ?_)
      refine lv_iload hx hb dX0_translate_49 (lv_at hl 0 rfl) ?_
      refine lv_if_ge (tgt := 57) hx hb dX0_translate_51 (by decide) (fun c_16 => ?_) (fun c_16 => ?_)
      · refine lv_iload hx hb dX0_translate_57 (lv_at hl 1 rfl) ?_
        refine lv_if_eq (tgt := 72) hx hb dX0_translate_59 (by decide) (fun c_17 => absurd c_17 c_2) (fun _ => ?_)
        refine lv_aload_n hx hb dX0_translate_62 rfl (lv_at hl 3 rfl) ?_
        refine va_get (D := (dC, dI)) (ci := 0) (v := .ref (h 5)) (C := RX0) (T := TX0) (N := 9) hx hb hts inbX0 hown hK hP 0 rfl rfl 6 (by decide) (hts _ bX0_6) (fun _ h9 => h9) rfl dX0_translate_63 ?_
        refine lv_iload hx hb dX0_translate_66 (lv_at hl 2 rfl) ?_
        refine va_iald hx hb hK hP 5 1 rfl rfl (x_slot_in a) dX0_translate_68 ?_
        refine lv_goto (tgt := 78) hx hb dX0_translate_69 (by decide) ?_
        refine lv_istore (lv' := [(8, .int (x_ke σ ((x_slotOf a)).toNatClampNeg)), (7, .int (x_kpl σ ((x_slotOf a)).toNatClampNeg)), (6, .int (x_counts n σ (x_slotOf a) a)), (5, .int (x_slotOf a)), (0, .ref (h 0)), (1, .int a), (2, .int md), (3, .int b), (4, .int kp)]) hx hb dX0_translate_78 hl (by decide) rfl (fun ls hl => ?_)
        refine lv_iload hx hb dX0_translate_80 (lv_at hl 0 rfl) ?_
        refine lv_iload_n hx hb dX0_translate_82 rfl (lv_at hl 6 rfl) ?_
        refine lv_iload_n hx hb dX0_translate_83 rfl (lv_at hl 7 rfl) ?_
        refine vp_callSi (W.runS (As := [.int (x_ke σ ((x_slotOf a)).toNatClampNeg), .int md, .int b]) (rest := []) ⟨hx, hb, hml, hown, hts⟩ (c_x_gives l tw tr (x_ke σ ((x_slotOf a)).toNatClampNeg) md b ) (va_cwS 3 hts gX0_X0_gives rfl rfl rfl (by decide +kernel) ⟨Nat.le_of_ble_eq_true rfl, Nat.le_of_ble_eq_true rfl⟩) (x_preS hST hS) rfl rfl hl.1 rfl (lv_room (Nat.le_of_ble_eq_true rfl)) dX0_translate_84 ⟨Nat.zero_le _, Nat.zero_le _⟩) (fun r er => ?_)
        subst er
        refine lv_if_ne (tgt := 96) hx hb dX0_translate_87 (by decide) (fun c_18 => ?_) (fun c_18 => ?_)
        · refine lv_iload hx hb dX0_translate_96 (lv_at hl 0 rfl) ?_
          refine vp_callSi (W.runS (As := [.int (x_ke σ ((x_slotOf a)).toNatClampNeg)]) (rest := []) ⟨hx, hb, hml, hown, hts⟩ (c_x_isValid l (x_ke σ ((x_slotOf a)).toNatClampNeg) ) (va_cwS 1 hts gX0_X0_isValid rfl rfl rfl (by decide +kernel) ⟨Nat.le_of_ble_eq_true rfl, Nat.le_of_ble_eq_true rfl⟩) (fs_pre) rfl rfl hl.1 rfl (lv_room (Nat.le_of_ble_eq_true rfl)) dX0_translate_98 ⟨Nat.zero_le _, Nat.zero_le _⟩) (fun r er => ?_)
          subst er
          refine lv_if_ne (tgt := 110) hx hb dX0_translate_101 (by decide) (fun c_19 => ?_) (fun c_19 => ?_)
          · refine lv_iload hx hb dX0_translate_110 (lv_at hl 8 rfl) ?_
            refine lv_if_eq (tgt := 136) hx hb dX0_translate_112 (by decide) (fun c_20 => ?_) (fun c_20 => ?_)
            · refine lv_iload hx hb dX0_translate_136 (lv_at hl 0 rfl) ?_
              refine lv_iload_n hx hb dX0_translate_138 rfl (lv_at hl 5 rfl) ?_
              refine vp_callSi (W.runS (As := [.int (x_ke σ ((x_slotOf a)).toNatClampNeg), .int a]) (rest := []) ⟨hx, hb, hml, hown, hts⟩ (c_x_physical l (x_ke σ ((x_slotOf a)).toNatClampNeg) a ) (va_cwS 2 hts gX0_X0_physical rfl rfl rfl (by decide +kernel) ⟨Nat.le_of_ble_eq_true rfl, Nat.le_of_ble_eq_true rfl⟩) (fs_pre) rfl rfl hl.1 rfl (lv_room (Nat.le_of_ble_eq_true rfl)) dX0_translate_139 ⟨Nat.zero_le _, Nat.zero_le _⟩) (fun r er => ?_)
              subst er
              exact W.iret (v := (x_physical (x_ke σ ((x_slotOf a)).toNatClampNeg) a)) hx hb hr (fun t ht hW => ⟨⟨(x_physical (x_ke σ ((x_slotOf a)).toNatClampNeg) a), σ, rfl, (if_neg c_1).trans ((if_neg c_2).trans ((if_pos c_16).trans ((if_neg c_18).trans ((if_neg c_19).trans ((if_pos c_20).trans rfl))))), by rw [ht]; exact hP, va_K.moved hW.alike hK, hD⟩, hS.F ht⟩) hS.2.2 dX0_translate_142
            · refine lv_aload_n hx hb dX0_translate_115 rfl (lv_at hl 4 rfl) ?_
              refine lv_iload hx hb dX0_translate_116 (lv_at hl 3 rfl) ?_
              refine lv_iload_n hx hb dX0_translate_118 rfl (lv_at hl 5 rfl) ?_
              refine lv_iload hx hb dX0_translate_119 (lv_at hl 0 rfl) ?_
              refine lv_iload hx hb dX0_translate_121 (lv_at hl 1 rfl) ?_
              refine x_callv (f := (x_keepEntry n σ (x_slotOf a) a (x_ke σ ((x_slotOf a)).toNatClampNeg) (x_kpl σ ((x_slotOf a)).toNatClampNeg))) (va_runV (C := RX0) (As := [.int (x_slotOf a), .int a, .int (x_ke σ ((x_slotOf a)).toNatClampNeg), .int (x_kpl σ ((x_slotOf a)).toNatClampNeg)]) (rest := []) ⟨hx, hb, hml, hown, hts⟩ (c_x_keepEntry l dC dI h cB cI n _ σ (x_slotOf a) a (x_ke σ ((x_slotOf a)).toNatClampNeg) (x_kpl σ ((x_slotOf a)).toNatClampNeg) (x_slot_in a)) (cwV 4 hts gX0_X0_keepEntry rfl rfl rfl (by decide +kernel) ⟨Nat.le_of_ble_eq_true rfl, Nat.le_of_ble_eq_true rfl⟩) (x_preM hK hP hD) rfl rfl hl.1 rfl (lv_room (Nat.le_of_ble_eq_true rfl)) dX0_translate_123 ⟨Nat.zero_le _, Nat.zero_le _⟩) hP hD hS hA (fun t_21 H locs e_22 hP hD hS => ?_)
              refine lv_iload_n hx hb dX0_translate_126 rfl (lv_at hl 7 rfl) ?_
              refine lv_if_eq (tgt := 136) hx hb dX0_translate_127 (by decide) (fun c_23 => ?_) (fun c_23 => ?_)
              · refine lv_iload hx hb dX0_translate_136 (lv_at hl 0 rfl) ?_
                refine lv_iload_n hx hb dX0_translate_138 rfl (lv_at hl 5 rfl) ?_
                refine vp_callSi (W.runS (As := [.int (x_ke σ ((x_slotOf a)).toNatClampNeg), .int a]) (rest := []) ⟨hx, hb, hml, hown, hts⟩ (c_x_physical l (x_ke σ ((x_slotOf a)).toNatClampNeg) a ) (va_cwS 2 hts gX0_X0_physical rfl rfl rfl (by decide +kernel) ⟨Nat.le_of_ble_eq_true rfl, Nat.le_of_ble_eq_true rfl⟩) (fs_pre) rfl rfl hl.1 rfl (lv_room (Nat.le_of_ble_eq_true rfl)) dX0_translate_139 ⟨Nat.zero_le _, Nat.zero_le _⟩) (fun r er => ?_)
                subst er
                exact W.iret (v := (x_physical (x_ke σ ((x_slotOf a)).toNatClampNeg) a)) hx hb hr (fun t ht hW => ⟨⟨(x_physical (x_ke σ ((x_slotOf a)).toNatClampNeg) a), t_21, rfl, (if_neg c_1).trans ((if_neg c_2).trans ((if_pos c_16).trans ((if_neg c_18).trans ((if_neg c_19).trans ((if_neg c_20).trans ((kv_eq e_22).trans ((if_pos c_23).trans rfl))))))), by rw [ht]; exact hP, va_K.moved hW.alike hK, hD⟩, hS.F ht⟩) hS.2.2 dX0_translate_142
              · refine lv_aload_n hx hb dX0_translate_130 rfl (lv_at hl 4 rfl) ?_
                refine lv_iload hx hb dX0_translate_131 (lv_at hl 3 rfl) ?_
                refine x_callv (f := (x_markWritten n t_21 (x_slotOf a))) (va_runV (C := RX0) (As := [.int (x_slotOf a)]) (rest := []) ⟨hx, hb, hml, hown, hts⟩ (c_x_markWritten l dC dI h cB cI n _ t_21 (x_slotOf a) (x_slot_in a) (x_mark_in (x_slot_in a) (x_inv_at hI ha c_2) e_22)) (cwV 1 hts gX0_X0_markWritten rfl rfl rfl (by decide +kernel) ⟨Nat.le_of_ble_eq_true rfl, Nat.le_of_ble_eq_true rfl⟩) (x_preM hK hP hD) rfl rfl hl.1 rfl (lv_room (Nat.le_of_ble_eq_true rfl)) dX0_translate_133 ⟨Nat.zero_le _, Nat.zero_le _⟩) hP hD hS hA (fun t_24 H locs e_25 hP hD hS => ?_)
                refine lv_iload hx hb dX0_translate_136 (lv_at hl 0 rfl) ?_
                refine lv_iload_n hx hb dX0_translate_138 rfl (lv_at hl 5 rfl) ?_
                refine vp_callSi (W.runS (As := [.int (x_ke σ ((x_slotOf a)).toNatClampNeg), .int a]) (rest := []) ⟨hx, hb, hml, hown, hts⟩ (c_x_physical l (x_ke σ ((x_slotOf a)).toNatClampNeg) a ) (va_cwS 2 hts gX0_X0_physical rfl rfl rfl (by decide +kernel) ⟨Nat.le_of_ble_eq_true rfl, Nat.le_of_ble_eq_true rfl⟩) (fs_pre) rfl rfl hl.1 rfl (lv_room (Nat.le_of_ble_eq_true rfl)) dX0_translate_139 ⟨Nat.zero_le _, Nat.zero_le _⟩) (fun r er => ?_)
                subst er
                exact W.iret (v := (x_physical (x_ke σ ((x_slotOf a)).toNatClampNeg) a)) hx hb hr (fun t ht hW => ⟨⟨(x_physical (x_ke σ ((x_slotOf a)).toNatClampNeg) a), t_24, rfl, (if_neg c_1).trans ((if_neg c_2).trans ((if_pos c_16).trans ((if_neg c_18).trans ((if_neg c_19).trans ((if_neg c_20).trans ((kv_eq e_22).trans ((if_neg c_23).trans ((kv_eq e_25).trans rfl)))))))), by rw [ht]; exact hP, va_K.moved hW.alike hK, hD⟩, hS.F ht⟩) hS.2.2 dX0_translate_142
          · refine lv_iconst (v := 0) hx hb dX0_translate_104 (by decide) ?_
            refine lv_iload_n hx hb dX0_translate_105 rfl (lv_at hl 7 rfl) ?_
            refine vp_callSi (W.runS (As := [.int 0, .int b]) (rest := []) ⟨hx, hb, hml, hown, hts⟩ (c_x_missing l 0 b ) (va_cwS 2 hts gX0_X0_missing rfl rfl rfl (by decide +kernel) ⟨Nat.le_of_ble_eq_true rfl, Nat.le_of_ble_eq_true rfl⟩) (fs_pre) rfl rfl hl.1 rfl (lv_room (Nat.le_of_ble_eq_true rfl)) dX0_translate_106 ⟨Nat.zero_le _, Nat.zero_le _⟩) (fun r er => ?_)
            subst er
            exact W.iret (v := (x_missing 0 b)) hx hb hr (fun t ht hW => ⟨⟨(x_missing 0 b), σ, rfl, (if_neg c_1).trans ((if_neg c_2).trans ((if_pos c_16).trans ((if_neg c_18).trans ((if_pos c_19).trans rfl)))), by rw [ht]; exact hP, va_K.moved hW.alike hK, hD⟩, hS.F ht⟩) hS.2.2 dX0_translate_109
        · refine lv_iconst (v := 0) hx hb dX0_translate_90 (by decide) ?_
          refine lv_iload_n hx hb dX0_translate_91 rfl (lv_at hl 7 rfl) ?_
          refine vp_callSi (W.runS (As := [.int 0, .int b]) (rest := []) ⟨hx, hb, hml, hown, hts⟩ (c_x_access l 0 b ) (va_cwS 2 hts gX0_X0_access rfl rfl rfl (by decide +kernel) ⟨Nat.le_of_ble_eq_true rfl, Nat.le_of_ble_eq_true rfl⟩) (fs_pre) rfl rfl hl.1 rfl (lv_room (Nat.le_of_ble_eq_true rfl)) dX0_translate_92 ⟨Nat.zero_le _, Nat.zero_le _⟩) (fun r er => ?_)
          subst er
          exact W.iret (v := (x_access 0 b)) hx hb hr (fun t ht hW => ⟨⟨(x_access 0 b), σ, rfl, (if_neg c_1).trans ((if_neg c_2).trans ((if_pos c_16).trans ((if_pos c_18).trans rfl))), by rw [ht]; exact hP, va_K.moved hW.alike hK, hD⟩, hS.F ht⟩) hS.2.2 dX0_translate_95
      · refine lv_iload hx hb dX0_translate_54 (lv_at hl 0 rfl) ?_
        exact W.iret (v := (x_kpl σ ((x_slotOf a)).toNatClampNeg)) hx hb hr (fun t ht hW => ⟨⟨(x_kpl σ ((x_slotOf a)).toNatClampNeg), σ, rfl, (if_neg c_1).trans ((if_neg c_2).trans ((if_neg c_16).trans rfl)), by rw [ht]; exact hP, va_K.moved hW.alike hK, hD⟩, hS.F ht⟩) hS.2.2 dX0_translate_56
  · refine lv_iload_n hx hb dX0_translate_7 rfl (lv_at hl 1 rfl) ?_
    exact W.iret (v := a) hx hb hr (fun t ht hW => ⟨⟨a, σ, rfl, (if_pos c_1).trans rfl, by rw [ht]; exact hP, va_K.moved hW.alike hK, hD⟩, hS.F ht⟩) hS.2.2 dX0_translate_8
end
section
set_option maxHeartbeats 4000000 in
set_option maxRecDepth 100000 in
theorem c_x_findPlaces (l : Launch) (dC : Nat → ClassId) (dI : Nat → Nat → Nat) (h : Nat → Nat) (cB cI : ClassId) (n : Nat) (tw tr : Nat) (sz : Nat) (σ : XS) (a : Int32) (ct : Int32) (md : Int32) (b : Int32) (hn : n ≤ 2048) (hI : x_Inv n σ) (hc : ∃ K : Nat, K ≤ 4 ∧ ct = nI K) : Met l yX0_findPlaces wsX0_findPlaces ({ frames := 5, cells := 0, slots := 0, locals := 123 }) (va_Pc [.ref (h 0), .int a, .int ct, .int md, .int b] (x_BMt dC dI h cB cI n tw tr sz σ)) (q_x_findPlaces dC dI h cB cI n σ a ct md b (va_A (x_ws h cB cI n σ) sz)) 0 0 (va_A (x_ws h cB cI n σ) sz) := by
  refine Met.ofW (cc := cX0_findPlaces) (maxL := 8) (ret := (some .int)) (by decide) rfl ?_
  intro p e s m args below meth c s₁ B hml hv
  obtain ⟨rfl, hsz, hP, hK, hD0, hST⟩ := hv
  have hx := B.exec
  have hb := B.bytes
  have hr := B.returns
  have hts : ∀ w ∈ bX0, w.before _ s = true := fun w h => atoms_spec (ws := wsX0_findPlaces) B.pre w (List.mem_cons_of_mem _ h)
  have hown : s.vm.findClass RX0 = some m.cls := findClass_of_methodNamed B.named
  have hlocks := B.notSynchronized
  subst hsz
  have hD := hD0.self (sz := s.heap.size)
  generalize hAe : va_A (x_ws h cB cI n σ) s.heap.size = A at hD hST ⊢
  have hA : ∀ q : Nat, s.heap.size ≤ q → A q := fun q h => by rw [← hAe]; exact Or.inr h
  have hS : va_S A s.heap s.heap [] := va_S.rf
  have hP : va_P (dC, dI) vwCl (x_ws h cB cI n σ) s.heap := hP
  have hl := lv_entry ([.ref (h 0), .int a, .int ct, .int md, .int b]) (n := 8) (Nat.le_of_ble_eq_true rfl)
  rw [lg_entry_eq]
  generalize (lg_sl ([.ref (h 0), .int a, .int ct, .int md, .int b]) ++ List.replicate (8 - (lg_sl ([.ref (h 0), .int a, .int ct, .int md, .int b])).length) Slot.unset).toArray = ls at hl ⊢
  have hl : lv_has ls 8 [(0, .ref (h 0)), (1, .int a), (2, .int ct), (3, .int md), (4, .int b)] := hl
  have key_l2 : ∀ (f j : Nat) (i : Int32) (τ : XS) (H : Heap) (locs : List Loc) (ls : Array Slot), (i = nI j) → (j ≤ 4) → (5 ≤ j + f) → x_findPlaces n σ a ct md b = x_findPlaces_l2 n a ct md b f i τ → va_P (dC, dI) vwCl (x_ws h cB cI n τ) H → va_D A (x_ws h cB cI n τ) → va_S A s.heap H locs → lv_has ls 8 [(5, .int i), (0, .ref (h 0)), (1, .int a), (2, .int ct), (3, .int md), (4, .int b)] → W p l e (headSpec wsX0_findPlaces ({ frames := 5, cells := 0, slots := 0, locals := 123 })).room s m ([.ref (h 0), .int a, .int ct, .int md, .int b] : List Value).toArray below meth c H locs 0 0 (MQ below (q_x_findPlaces dC dI h cB cI n σ a ct md b A) ([.ref (h 0), .int a, .int ct, .int md, .int b] : List Value).toArray s 0 0 A) (F0 m 98 ls []) := by
    intro f
    induction f with
    | zero => intro j i τ H locs ls ej hj hf; exact absurd hf (by omega)
    | succ f ih =>
      intro j i τ H locs ls ej hj hf hm hP hD hS hl
      refine lv_iload hx hb dX0_findPlaces_98 (lv_at hl 0 rfl) ?_
      refine lv_iload_n hx hb dX0_findPlaces_100 rfl (lv_at hl 3 rfl) ?_
      refine lv_icmp_ge (tgt := 128) hx hb dX0_findPlaces_101 (by decide) (fun c_101 => ?_) (fun c_101 => ?_)
      · refine lv_iconst (v := 0) hx hb dX0_findPlaces_128 (by decide) ?_
        exact W.iret (v := 0) hx hb hr (fun t ht hW => ⟨⟨0, τ, rfl, hm.trans ((if_pos c_101).trans rfl), by rw [ht]; exact hP, va_K.moved hW.alike hK, hD⟩, hS.F ht⟩) hS.2.2 dX0_findPlaces_129
      · have hlt : j < 4 := x_ltK hc hj ej (by omega) c_101
        refine lv_aload_n hx hb dX0_findPlaces_104 rfl (lv_at hl 1 rfl) ?_
        refine lv_aload_n hx hb dX0_findPlaces_105 rfl (lv_at hl 1 rfl) ?_
        refine va_get (D := (dC, dI)) (ci := 0) (v := .ref (h 7)) (C := RX0) (T := TX0) (N := 9) hx hb hts inbX0 hown hK hP 0 rfl rfl 8 (by decide) (hts _ bX0_8) (fun _ h9 => h9) rfl dX0_findPlaces_106 ?_
        refine lv_iload hx hb dX0_findPlaces_109 (lv_at hl 0 rfl) ?_
        refine va_iald hx hb hK hP 7 1 rfl rfl (by rw [ej]; exact vp_in_nI hlt (by omega)) dX0_findPlaces_111 ?_
        refine lv_iconst (v := 1) hx hb dX0_findPlaces_112 (by decide) ?_
        refine vp_callSi (W.runV (C := RX0) (As := [.int (x_pl τ (i).toNatClampNeg), .int 1]) (rest := []) ⟨hx, hb, hml, hown, hts⟩ (c_x_inMemory l dC dI h cB cI n τ (x_pl τ (i).toNatClampNeg) 1 ) (cwV 2 hts gX0_X0_inMemory rfl rfl rfl (by decide +kernel) ⟨Nat.le_of_ble_eq_true rfl, Nat.le_of_ble_eq_true rfl⟩) (x_preP hK hP) rfl rfl hl.1 rfl (lv_room (Nat.le_of_ble_eq_true rfl)) dX0_findPlaces_113 ⟨Nat.zero_le _, Nat.zero_le _⟩) (fun r er => ?_)
        subst er
        refine lv_if_ne (tgt := 122) hx hb dX0_findPlaces_116 (by decide) (fun c_102 => ?_) (fun c_102 => ?_)
        · refine lv_iinc (v := (i + 1)) (lv' := [(5, .int (i + 1)), (0, .ref (h 0)), (1, .int a), (2, .int ct), (3, .int md), (4, .int b)]) hx hb dX0_findPlaces_122 hl (k := 0) rfl rfl (by decide) rfl (fun ls hl => ?_)
          refine lv_goto (tgt := 98) hx hb dX0_findPlaces_125 (by decide) ?_
          exact ih (j + 1) (i + 1) τ _ _ _ (by rw [ej]; exact nI_1 j) (by omega) (by omega) (hm.trans ((if_neg c_101).trans ((if_neg c_102).trans rfl))) hP hD hS (lv_sub hl [0, 1, 2, 3, 4, 5] rfl)
        · refine lv_bipush (v := (-100)) hx hb dX0_findPlaces_119 (by decide) ?_
          exact W.iret (v := (-100)) hx hb hr (fun t ht hW => ⟨⟨(-100), τ, rfl, hm.trans ((if_neg c_101).trans ((if_pos c_102).trans rfl)), by rw [ht]; exact hP, va_K.moved hW.alike hK, hD⟩, hS.F ht⟩) hS.2.2 dX0_findPlaces_121
  have key_l1 : ∀ (f j : Nat) (i : Int32) (τ : XS) (H : Heap) (locs : List Loc) (ls : Array Slot), (i = nI j) → (j ≤ 4) → (5 ≤ j + f) → (x_Inv n τ) → x_findPlaces n σ a ct md b = x_findPlaces_l1 n a ct md b f i τ → va_P (dC, dI) vwCl (x_ws h cB cI n τ) H → va_D A (x_ws h cB cI n τ) → va_S A s.heap H locs → lv_has ls 8 [(5, .int i), (0, .ref (h 0)), (1, .int a), (2, .int ct), (3, .int md), (4, .int b)] → W p l e (headSpec wsX0_findPlaces ({ frames := 5, cells := 0, slots := 0, locals := 123 })).room s m ([.ref (h 0), .int a, .int ct, .int md, .int b] : List Value).toArray below meth c H locs 0 0 (MQ below (q_x_findPlaces dC dI h cB cI n σ a ct md b A) ([.ref (h 0), .int a, .int ct, .int md, .int b] : List Value).toArray s 0 0 A) (F0 m 3 ls []) := by
    intro f
    induction f with
    | zero => intro j i τ H locs ls ej hj hf hI; exact absurd hf (by omega)
    | succ f ih =>
      intro j i τ H locs ls ej hj hf hI hm hP hD hS hl
      refine lv_iload hx hb dX0_findPlaces_3 (lv_at hl 0 rfl) ?_
      refine lv_iload_n hx hb dX0_findPlaces_5 rfl (lv_at hl 3 rfl) ?_
      refine lv_icmp_ge (tgt := 95) hx hb dX0_findPlaces_6 (by decide) (fun c_201 => ?_) (fun c_201 => ?_)
      · refine lv_iconst (v := 0) hx hb dX0_findPlaces_95 (by decide) ?_
        refine lv_istore (lv' := [(5, .int 0), (0, .ref (h 0)), (1, .int a), (2, .int ct), (3, .int md), (4, .int b)]) hx hb dX0_findPlaces_96 hl (by decide) rfl (fun ls hl => ?_)
        exact key_l2 5 0 0 τ _ _ _ nI_0.symm (by omega) (by omega) (hm.trans ((if_pos c_201).trans rfl)) hP hD hS (lv_sub hl [0, 1, 2, 3, 4, 5] rfl)
      · have hlt : j < 4 := x_ltK hc hj ej (by omega) c_201
        refine lv_iload_n hx hb dX0_findPlaces_9 rfl (lv_at hl 2 rfl) ?_
        refine lv_iload hx hb dX0_findPlaces_10 (lv_at hl 0 rfl) ?_
        refine lv_iadd hx hb dX0_findPlaces_12 ?_
        refine lv_ldc (v := 65535) hx hb hown (hts _ bX0_11) dX0_findPlaces_13 ?_
        refine lv_iand hx hb dX0_findPlaces_15 ?_
        refine lv_istore (lv' := [(6, .int ((a + i) &&& 65535)), (5, .int i), (0, .ref (h 0)), (1, .int a), (2, .int ct), (3, .int md), (4, .int b)]) hx hb dX0_findPlaces_16 hl (by decide) rfl (fun ls hl => ?_)
        refine lv_iload hx hb dX0_findPlaces_18 (lv_at hl 1 rfl) ?_
        refine lv_if_le (tgt := 52) hx hb dX0_findPlaces_20 (by decide) (fun c_202 => ?_) (fun c_202 => ?_)
        · refine lv_aload_n hx hb dX0_findPlaces_52 rfl (lv_at hl 2 rfl) ?_
          refine lv_iload hx hb dX0_findPlaces_53 (lv_at hl 0 rfl) ?_
          refine lv_iload_n hx hb dX0_findPlaces_55 rfl (lv_at hl 5 rfl) ?_
          refine lv_iload hx hb dX0_findPlaces_56 (lv_at hl 6 rfl) ?_
          refine lv_iconst (v := 1) hx hb dX0_findPlaces_58 (by decide) ?_
          refine x_calli (f := (x_translate n τ ((a + i) &&& 65535) md b 1)) (va_runV (C := RX0) (As := [.int ((a + i) &&& 65535), .int md, .int b, .int 1]) (rest := []) ⟨hx, hb, hml, hown, hts⟩ (c_x_translate l dC dI h cB cI n tw tr _ τ ((a + i) &&& 65535) md b 1 hn hI (x_mask16 _)) (cwV 4 hts gX0_X0_translate rfl rfl rfl (by decide +kernel) ⟨Nat.le_of_ble_eq_true rfl, Nat.le_of_ble_eq_true rfl⟩) (x_preMt hK hP hD hST hS hA) rfl rfl hl.1 rfl (lv_room (Nat.le_of_ble_eq_true rfl)) dX0_findPlaces_59 ⟨Nat.zero_le _, Nat.zero_le _⟩) hP hD hS hA (fun r_205 t_203 H locs e_204 hP hD hS => ?_)
          have hI := x_tr_inv hn hI (x_mask16 _) e_204
          refine lv_istore (lv' := [(7, .int r_205), (6, .int ((a + i) &&& 65535)), (5, .int i), (0, .ref (h 0)), (1, .int a), (2, .int ct), (3, .int md), (4, .int b)]) hx hb dX0_findPlaces_62 hl (by decide) rfl (fun ls hl => ?_)
          refine lv_iload hx hb dX0_findPlaces_64 (lv_at hl 0 rfl) ?_
          refine lv_if_ge (tgt := 80) hx hb dX0_findPlaces_66 (by decide) (fun c_206 => ?_) (fun c_206 => ?_)
          · refine lv_aload_n hx hb dX0_findPlaces_80 rfl (lv_at hl 3 rfl) ?_
            refine va_get (D := (dC, dI)) (ci := 0) (v := .ref (h 7)) (C := RX0) (T := TX0) (N := 9) hx hb hts inbX0 hown hK hP 0 rfl rfl 8 (by decide) (hts _ bX0_8) (fun _ h9 => h9) rfl dX0_findPlaces_81 ?_
            refine lv_iload hx hb dX0_findPlaces_84 (lv_at hl 2 rfl) ?_
            refine lv_iload hx hb dX0_findPlaces_86 (lv_at hl 0 rfl) ?_
            refine va_iast hx hb hK hP hD hS 7 1 rfl rfl (by rw [ej]; exact vp_in_nI hlt (by omega)) dX0_findPlaces_88 (fun H locs hP hD hS => ?_)
            have hP : va_P (dC, dI) vwCl (x_ws h cB cI n (x_sPl t_203 (upd (x_pl t_203) ((i).toNatClampNeg) r_205))) H := hP
            have hD : va_D A (x_ws h cB cI n (x_sPl t_203 (upd (x_pl t_203) ((i).toNatClampNeg) r_205))) := hD
            refine lv_iinc (v := (i + 1)) (lv' := [(5, .int (i + 1)), (7, .int r_205), (6, .int ((a + i) &&& 65535)), (0, .ref (h 0)), (1, .int a), (2, .int ct), (3, .int md), (4, .int b)]) hx hb dX0_findPlaces_89 hl (k := 2) rfl rfl (by decide) rfl (fun ls hl => ?_)
            refine lv_goto (tgt := 3) hx hb dX0_findPlaces_92 (by decide) ?_
            exact ih (j + 1) (i + 1) (x_sPl t_203 (upd (x_pl t_203) ((i).toNatClampNeg) r_205)) _ _ _ (by rw [ej]; exact nI_1 j) (by omega) (by omega) hI (hm.trans ((if_neg c_201).trans ((if_pos c_202).trans ((kb_eq e_204).trans ((if_pos c_206).trans rfl))))) hP hD hS (lv_sub hl [0, 3, 4, 5, 6, 7] rfl)
          · refine lv_aload_n hx hb dX0_findPlaces_69 rfl (lv_at hl 3 rfl) ?_
            refine lv_iload hx hb dX0_findPlaces_70 (lv_at hl 0 rfl) ?_
            refine lv_iload hx hb dX0_findPlaces_72 (lv_at hl 1 rfl) ?_
            refine x_callv (f := (x_noteFault n t_203 r_205 ((a + i) &&& 65535))) (va_runV (C := RX0) (As := [.int r_205, .int ((a + i) &&& 65535)]) (rest := []) ⟨hx, hb, hml, hown, hts⟩ (c_x_noteFault l dC dI h cB cI n _ t_203 r_205 ((a + i) &&& 65535) ) (cwV 2 hts gX0_X0_noteFault rfl rfl rfl (by decide +kernel) ⟨Nat.le_of_ble_eq_true rfl, Nat.le_of_ble_eq_true rfl⟩) (x_preM hK hP hD) rfl rfl hl.1 rfl (lv_room (Nat.le_of_ble_eq_true rfl)) dX0_findPlaces_74 ⟨Nat.zero_le _, Nat.zero_le _⟩) hP hD hS hA (fun t_207 H locs e_208 hP hD hS => ?_)
            refine lv_iload hx hb dX0_findPlaces_77 (lv_at hl 0 rfl) ?_
            exact W.iret (v := r_205) hx hb hr (fun t ht hW => ⟨⟨r_205, t_207, rfl, hm.trans ((if_neg c_201).trans ((if_pos c_202).trans ((kb_eq e_204).trans ((if_neg c_206).trans ((kv_eq e_208).trans rfl))))), by rw [ht]; exact hP, va_K.moved hW.alike hK, hD⟩, hS.F ht⟩) hS.2.2 dX0_findPlaces_79
        · refine lv_iload hx hb dX0_findPlaces_23 (lv_at hl 0 rfl) ?_
          refine vp_callSi (W.runS (As := [.int ((a + i) &&& 65535)]) (rest := []) ⟨hx, hb, hml, hown, hts⟩ (c_x_placeInPage l ((a + i) &&& 65535) ) (va_cwS 1 hts gX0_X0_placeInPage rfl rfl rfl (by decide +kernel) ⟨Nat.le_of_ble_eq_true rfl, Nat.le_of_ble_eq_true rfl⟩) (fs_pre) rfl rfl hl.1 rfl (lv_room (Nat.le_of_ble_eq_true rfl)) dX0_findPlaces_25 ⟨Nat.zero_le _, Nat.zero_le _⟩) (fun r er => ?_)
          subst er
          refine lv_if_eq (tgt := 52) hx hb dX0_findPlaces_28 (by decide) (fun c_209 => ?_) (fun c_209 => ?_)
          · refine lv_aload_n hx hb dX0_findPlaces_52 rfl (lv_at hl 2 rfl) ?_
            refine lv_iload hx hb dX0_findPlaces_53 (lv_at hl 0 rfl) ?_
            refine lv_iload_n hx hb dX0_findPlaces_55 rfl (lv_at hl 5 rfl) ?_
            refine lv_iload hx hb dX0_findPlaces_56 (lv_at hl 6 rfl) ?_
            refine lv_iconst (v := 1) hx hb dX0_findPlaces_58 (by decide) ?_
            refine x_calli (f := (x_translate n τ ((a + i) &&& 65535) md b 1)) (va_runV (C := RX0) (As := [.int ((a + i) &&& 65535), .int md, .int b, .int 1]) (rest := []) ⟨hx, hb, hml, hown, hts⟩ (c_x_translate l dC dI h cB cI n tw tr _ τ ((a + i) &&& 65535) md b 1 hn hI (x_mask16 _)) (cwV 4 hts gX0_X0_translate rfl rfl rfl (by decide +kernel) ⟨Nat.le_of_ble_eq_true rfl, Nat.le_of_ble_eq_true rfl⟩) (x_preMt hK hP hD hST hS hA) rfl rfl hl.1 rfl (lv_room (Nat.le_of_ble_eq_true rfl)) dX0_findPlaces_59 ⟨Nat.zero_le _, Nat.zero_le _⟩) hP hD hS hA (fun r_212 t_210 H locs e_211 hP hD hS => ?_)
            have hI := x_tr_inv hn hI (x_mask16 _) e_211
            refine lv_istore (lv' := [(7, .int r_212), (6, .int ((a + i) &&& 65535)), (5, .int i), (0, .ref (h 0)), (1, .int a), (2, .int ct), (3, .int md), (4, .int b)]) hx hb dX0_findPlaces_62 hl (by decide) rfl (fun ls hl => ?_)
            refine lv_iload hx hb dX0_findPlaces_64 (lv_at hl 0 rfl) ?_
            refine lv_if_ge (tgt := 80) hx hb dX0_findPlaces_66 (by decide) (fun c_213 => ?_) (fun c_213 => ?_)
            · refine lv_aload_n hx hb dX0_findPlaces_80 rfl (lv_at hl 3 rfl) ?_
              refine va_get (D := (dC, dI)) (ci := 0) (v := .ref (h 7)) (C := RX0) (T := TX0) (N := 9) hx hb hts inbX0 hown hK hP 0 rfl rfl 8 (by decide) (hts _ bX0_8) (fun _ h9 => h9) rfl dX0_findPlaces_81 ?_
              refine lv_iload hx hb dX0_findPlaces_84 (lv_at hl 2 rfl) ?_
              refine lv_iload hx hb dX0_findPlaces_86 (lv_at hl 0 rfl) ?_
              refine va_iast hx hb hK hP hD hS 7 1 rfl rfl (by rw [ej]; exact vp_in_nI hlt (by omega)) dX0_findPlaces_88 (fun H locs hP hD hS => ?_)
              have hP : va_P (dC, dI) vwCl (x_ws h cB cI n (x_sPl t_210 (upd (x_pl t_210) ((i).toNatClampNeg) r_212))) H := hP
              have hD : va_D A (x_ws h cB cI n (x_sPl t_210 (upd (x_pl t_210) ((i).toNatClampNeg) r_212))) := hD
              refine lv_iinc (v := (i + 1)) (lv' := [(5, .int (i + 1)), (7, .int r_212), (6, .int ((a + i) &&& 65535)), (0, .ref (h 0)), (1, .int a), (2, .int ct), (3, .int md), (4, .int b)]) hx hb dX0_findPlaces_89 hl (k := 2) rfl rfl (by decide) rfl (fun ls hl => ?_)
              refine lv_goto (tgt := 3) hx hb dX0_findPlaces_92 (by decide) ?_
              exact ih (j + 1) (i + 1) (x_sPl t_210 (upd (x_pl t_210) ((i).toNatClampNeg) r_212)) _ _ _ (by rw [ej]; exact nI_1 j) (by omega) (by omega) hI (hm.trans ((if_neg c_201).trans ((if_neg c_202).trans ((if_pos c_209).trans ((kb_eq e_211).trans ((if_pos c_213).trans rfl)))))) hP hD hS (lv_sub hl [0, 3, 4, 5, 6, 7] rfl)
            · refine lv_aload_n hx hb dX0_findPlaces_69 rfl (lv_at hl 3 rfl) ?_
              refine lv_iload hx hb dX0_findPlaces_70 (lv_at hl 0 rfl) ?_
              refine lv_iload hx hb dX0_findPlaces_72 (lv_at hl 1 rfl) ?_
              refine x_callv (f := (x_noteFault n t_210 r_212 ((a + i) &&& 65535))) (va_runV (C := RX0) (As := [.int r_212, .int ((a + i) &&& 65535)]) (rest := []) ⟨hx, hb, hml, hown, hts⟩ (c_x_noteFault l dC dI h cB cI n _ t_210 r_212 ((a + i) &&& 65535) ) (cwV 2 hts gX0_X0_noteFault rfl rfl rfl (by decide +kernel) ⟨Nat.le_of_ble_eq_true rfl, Nat.le_of_ble_eq_true rfl⟩) (x_preM hK hP hD) rfl rfl hl.1 rfl (lv_room (Nat.le_of_ble_eq_true rfl)) dX0_findPlaces_74 ⟨Nat.zero_le _, Nat.zero_le _⟩) hP hD hS hA (fun t_214 H locs e_215 hP hD hS => ?_)
              refine lv_iload hx hb dX0_findPlaces_77 (lv_at hl 0 rfl) ?_
              exact W.iret (v := r_212) hx hb hr (fun t ht hW => ⟨⟨r_212, t_214, rfl, hm.trans ((if_neg c_201).trans ((if_neg c_202).trans ((if_pos c_209).trans ((kb_eq e_211).trans ((if_neg c_213).trans ((kv_eq e_215).trans rfl)))))), by rw [ht]; exact hP, va_K.moved hW.alike hK, hD⟩, hS.F ht⟩) hS.2.2 dX0_findPlaces_79
          · refine lv_aload_n hx hb dX0_findPlaces_31 rfl (lv_at hl 2 rfl) ?_
            refine va_get (D := (dC, dI)) (ci := 0) (v := .ref (h 7)) (C := RX0) (T := TX0) (N := 9) hx hb hts inbX0 hown hK hP 0 rfl rfl 8 (by decide) (hts _ bX0_8) (fun _ h9 => h9) rfl dX0_findPlaces_32 ?_
            refine lv_iload hx hb dX0_findPlaces_35 (lv_at hl 1 rfl) ?_
            refine lv_aload_n hx hb dX0_findPlaces_37 rfl (lv_at hl 2 rfl) ?_
            refine va_get (D := (dC, dI)) (ci := 0) (v := .ref (h 7)) (C := RX0) (T := TX0) (N := 9) hx hb hts inbX0 hown hK hP 0 rfl rfl 8 (by decide) (hts _ bX0_8) (fun _ h9 => h9) rfl dX0_findPlaces_38 ?_
            refine lv_iload hx hb dX0_findPlaces_41 (lv_at hl 1 rfl) ?_
            refine lv_iconst (v := 1) hx hb dX0_findPlaces_43 (by decide) ?_
            refine lv_isub hx hb dX0_findPlaces_44 ?_
            refine va_iald hx hb hK hP 7 1 rfl rfl (x_im1 ej hlt c_202) dX0_findPlaces_45 ?_
            refine lv_iconst (v := 1) hx hb dX0_findPlaces_46 (by decide) ?_
            refine lv_iadd hx hb dX0_findPlaces_47 ?_
            refine va_iast hx hb hK hP hD hS 7 1 rfl rfl (by rw [ej]; exact vp_in_nI hlt (by omega)) dX0_findPlaces_48 (fun H locs hP hD hS => ?_)
            have hP : va_P (dC, dI) vwCl (x_ws h cB cI n (x_sPl τ (upd (x_pl τ) ((i).toNatClampNeg) ((x_pl τ ((i - 1)).toNatClampNeg) + 1)))) H := hP
            have hD : va_D A (x_ws h cB cI n (x_sPl τ (upd (x_pl τ) ((i).toNatClampNeg) ((x_pl τ ((i - 1)).toNatClampNeg) + 1)))) := hD
            refine lv_goto (tgt := 89) hx hb dX0_findPlaces_49 (by decide) ?_
            refine lv_iinc (v := (i + 1)) (lv' := [(5, .int (i + 1)), (6, .int ((a + i) &&& 65535)), (0, .ref (h 0)), (1, .int a), (2, .int ct), (3, .int md), (4, .int b)]) hx hb dX0_findPlaces_89 hl (k := 1) rfl rfl (by decide) rfl (fun ls hl => ?_)
            refine lv_goto (tgt := 3) hx hb dX0_findPlaces_92 (by decide) ?_
            exact ih (j + 1) (i + 1) (x_sPl τ (upd (x_pl τ) ((i).toNatClampNeg) ((x_pl τ ((i - 1)).toNatClampNeg) + 1))) _ _ _ (by rw [ej]; exact nI_1 j) (by omega) (by omega) hI (hm.trans ((if_neg c_201).trans ((if_neg c_202).trans ((if_neg c_209).trans rfl)))) hP hD hS (lv_sub hl [0, 2, 3, 4, 5, 6] rfl)
  refine lv_iconst (v := 0) hx hb dX0_findPlaces_0 (by decide) ?_
  refine lv_istore (lv' := [(5, .int 0), (0, .ref (h 0)), (1, .int a), (2, .int ct), (3, .int md), (4, .int b)]) hx hb dX0_findPlaces_1 hl (by decide) rfl (fun ls hl => ?_)
  exact key_l1 5 0 0 σ _ _ _ nI_0.symm (by omega) (by omega) hI (rfl) hP hD hS (lv_sub hl [0, 1, 2, 3, 4, 5] rfl)
end
section
set_option maxHeartbeats 4000000 in
set_option maxRecDepth 100000 in
theorem c_x_read (l : Launch) (dC : Nat → ClassId) (dI : Nat → Nat → Nat) (h : Nat → Nat) (cB cI : ClassId) (n : Nat) (tw tr : Nat) (sz : Nat) (σ : XS) (a : Int32) (ct : Int32) (md : Int32) (hn : n ≤ 2048) (hI : x_Inv n σ) : Met l yX0_read wsX0_read ({ frames := 6, cells := 0, slots := 0, locals := 150 }) (va_Pc [.ref (h 0), .int a, .int ct, .int md] (x_BMt dC dI h cB cI n tw tr sz σ)) (q_x_read dC dI h cB cI n σ a ct md (va_A (x_ws h cB cI n σ) sz)) 0 0 (va_A (x_ws h cB cI n σ) sz) := by
  refine Met.ofW (cc := cX0_read) (maxL := 8) (ret := (some .long)) (by decide) rfl ?_
  intro p e s m args below meth c s₁ B hml hv
  obtain ⟨rfl, hsz, hP, hK, hD0, hST⟩ := hv
  have hx := B.exec
  have hb := B.bytes
  have hr := B.returns
  have hts : ∀ w ∈ bX0, w.before _ s = true := fun w h => atoms_spec (ws := wsX0_read) B.pre w (List.mem_cons_of_mem _ h)
  have hown : s.vm.findClass RX0 = some m.cls := findClass_of_methodNamed B.named
  have hlocks := B.notSynchronized
  subst hsz
  have hD := hD0.self (sz := s.heap.size)
  generalize hAe : va_A (x_ws h cB cI n σ) s.heap.size = A at hD hST ⊢
  have hA : ∀ q : Nat, s.heap.size ≤ q → A q := fun q h => by rw [← hAe]; exact Or.inr h
  have hS : va_S A s.heap s.heap [] := va_S.rf
  have hP : va_P (dC, dI) vwCl (x_ws h cB cI n σ) s.heap := hP
  have hl := lv_entry ([.ref (h 0), .int a, .int ct, .int md]) (n := 8) (Nat.le_of_ble_eq_true rfl)
  rw [lg_entry_eq]
  generalize (lg_sl ([.ref (h 0), .int a, .int ct, .int md]) ++ List.replicate (8 - (lg_sl ([.ref (h 0), .int a, .int ct, .int md])).length) Slot.unset).toArray = ls at hl ⊢
  have hl : lv_has ls 8 [(0, .ref (h 0)), (1, .int a), (2, .int ct), (3, .int md)] := hl
  have key_l1 : ∀ (f j : Nat) (v : Int64) (i : Int32) (τ : XS) (H : Heap) (locs : List Loc) (ls : Array Slot), (i = nI j) → (j ≤ 4) → (5 ≤ j + f) → (∃ K : Nat, K ≤ 4 ∧ ct = nI K) → (∀ q : Nat, q < 4 → nI q < ct → vp_in (x_pl τ q) n) → x_read n σ a ct md = x_read_l1 n a ct md f v i τ → va_P (dC, dI) vwCl (x_ws h cB cI n τ) H → va_D A (x_ws h cB cI n τ) → va_S A s.heap H locs → lv_has ls 8 [(7, .int i), (5, .long v), (0, .ref (h 0)), (1, .int a), (2, .int ct), (3, .int md)] → W p l e (headSpec wsX0_read ({ frames := 6, cells := 0, slots := 0, locals := 150 })).room s m ([.ref (h 0), .int a, .int ct, .int md] : List Value).toArray below meth c H locs 0 0 (MQ below (q_x_read dC dI h cB cI n σ a ct md A) ([.ref (h 0), .int a, .int ct, .int md] : List Value).toArray s 0 0 A) (F0 m 36 ls []) := by
    intro f
    induction f with
    | zero => intro j v i τ H locs ls ej hj hf hc hq; exact absurd hf (by omega)
    | succ f ih =>
      intro j v i τ H locs ls ej hj hf hc hq hm hP hD hS hl
      refine lv_iload hx hb dX0_read_36 (lv_at hl 0 rfl) ?_
      refine lv_iload_n hx hb dX0_read_38 rfl (lv_at hl 4 rfl) ?_
      refine lv_icmp_ge (tgt := 71) hx hb dX0_read_39 (by decide) (fun c_101 => ?_) (fun c_101 => ?_)
      · refine lv_lload hx hb dX0_read_71 (lv_at hl 1 rfl) ?_
        exact W.lret (v := v) hx hb hr (fun t ht hW => ⟨⟨v, τ, rfl, hm.trans ((if_pos c_101).trans rfl), by rw [ht]; exact hP, va_K.moved hW.alike hK, hD⟩, hS.F ht⟩) hS.2.2 dX0_read_73
      · have hlt : j < 4 := x_ltK hc hj ej (by omega) c_101
        refine lv_lload hx hb dX0_read_42 (lv_at hl 1 rfl) ?_
        refine lv_aload_n hx hb dX0_read_44 rfl (lv_at hl 2 rfl) ?_
        refine lv_aload_n hx hb dX0_read_45 rfl (lv_at hl 2 rfl) ?_
        refine va_get (D := (dC, dI)) (ci := 0) (v := .ref (h 7)) (C := RX0) (T := TX0) (N := 9) hx hb hts inbX0 hown hK hP 0 rfl rfl 8 (by decide) (hts _ bX0_8) (fun _ h9 => h9) rfl dX0_read_46 ?_
        refine lv_iload hx hb dX0_read_49 (lv_at hl 0 rfl) ?_
        refine va_iald hx hb hK hP 7 1 rfl rfl (by rw [ej]; exact vp_in_nI hlt (by omega)) dX0_read_51 ?_
        refine vp_callSi (W.runV (C := RX0) (As := [.int (x_pl τ (i).toNatClampNeg)]) (rest := [.long v]) ⟨hx, hb, hml, hown, hts⟩ (c_x_byteAt l dC dI h cB cI n τ (x_pl τ (i).toNatClampNeg) (x_plat ej hlt hq c_101)) (cwV 1 hts gX0_X0_byteAt rfl rfl rfl (by decide +kernel) ⟨Nat.le_of_ble_eq_true rfl, Nat.le_of_ble_eq_true rfl⟩) (x_preP hK hP) rfl rfl hl.1 rfl (lv_room (Nat.le_of_ble_eq_true rfl)) dX0_read_52 ⟨Nat.zero_le _, Nat.zero_le _⟩) (fun r er => ?_)
        subst er
        refine lv_i2l (v := (((x_byteAt n τ (x_pl τ (i).toNatClampNeg))).toInt64)) hx hb dX0_read_55 rfl ?_
        refine lv_bipush (v := 8) hx hb dX0_read_56 (by decide) ?_
        refine lv_iload hx hb dX0_read_58 (lv_at hl 0 rfl) ?_
        refine lv_imul hx hb dX0_read_60 ?_
        refine lv_lshl (v := (jlshl (((x_byteAt n τ (x_pl τ (i).toNatClampNeg))).toInt64) ((8 : Int32) * i))) hx hb dX0_read_61 rfl ?_
        refine lv_lor hx hb dX0_read_62 ?_
        refine lv_lstore (lv' := [(5, .long (v ||| (jlshl (((x_byteAt n τ (x_pl τ (i).toNatClampNeg))).toInt64) ((8 : Int32) * i)))), (7, .int i), (0, .ref (h 0)), (1, .int a), (2, .int ct), (3, .int md)]) hx hb dX0_read_63 hl (by decide) rfl (fun ls hl => ?_)
        refine lv_iinc (v := (i + 1)) (lv' := [(7, .int (i + 1)), (5, .long (v ||| (jlshl (((x_byteAt n τ (x_pl τ (i).toNatClampNeg))).toInt64) ((8 : Int32) * i)))), (0, .ref (h 0)), (1, .int a), (2, .int ct), (3, .int md)]) hx hb dX0_read_65 hl (k := 1) rfl rfl (by decide) rfl (fun ls hl => ?_)
        refine lv_goto (tgt := 36) hx hb dX0_read_68 (by decide) ?_
        exact ih (j + 1) (v ||| (jlshl (((x_byteAt n τ (x_pl τ (i).toNatClampNeg))).toInt64) ((8 : Int32) * i))) (i + 1) τ _ _ _ (by rw [ej]; exact nI_1 j) (by omega) (by omega) hc hq (hm.trans ((if_neg c_101).trans rfl)) hP hD hS (lv_sub hl [0, 1, 2, 3, 4, 5] rfl)
  refine lv_iload_n hx hb dX0_read_0 rfl (lv_at hl 2 rfl) ?_
  refine vp_callSi (W.runS (As := [.int ct]) (rest := []) ⟨hx, hb, hml, hown, hts⟩ (c_x_isCount l ct ) (va_cwS 1 hts gX0_X0_isCount rfl rfl rfl (by decide +kernel) ⟨Nat.le_of_ble_eq_true rfl, Nat.le_of_ble_eq_true rfl⟩) (fs_pre) rfl rfl hl.1 rfl (lv_room (Nat.le_of_ble_eq_true rfl)) dX0_read_1 ⟨Nat.zero_le _, Nat.zero_le _⟩) (fun r er => ?_)
  subst er
  refine lv_if_ne (tgt := 11) hx hb dX0_read_4 (by decide) (fun c_1 => ?_) (fun c_1 => ?_)
  · refine lv_aload_n hx hb dX0_read_11 rfl (lv_at hl 0 rfl) ?_
    refine lv_iload_n hx hb dX0_read_12 rfl (lv_at hl 1 rfl) ?_
    refine lv_iload_n hx hb dX0_read_13 rfl (lv_at hl 2 rfl) ?_
    refine lv_iload_n hx hb dX0_read_14 rfl (lv_at hl 3 rfl) ?_
    refine lv_iconst (v := 0) hx hb dX0_read_15 (by decide) ?_
    refine x_calli (f := (x_findPlaces n σ a ct md 0)) (va_runV (C := RX0) (As := [.int a, .int ct, .int md, .int 0]) (rest := []) ⟨hx, hb, hml, hown, hts⟩ (c_x_findPlaces l dC dI h cB cI n tw tr _ σ a ct md 0 hn hI (x_cnt4 c_1)) (cwV 4 hts gX0_X0_findPlaces rfl rfl rfl (by decide +kernel) ⟨Nat.le_of_ble_eq_true rfl, Nat.le_of_ble_eq_true rfl⟩) (x_preMt hK hP hD hST hS hA) rfl rfl hl.1 rfl (lv_room (Nat.le_of_ble_eq_true rfl)) dX0_read_16 ⟨Nat.zero_le _, Nat.zero_le _⟩) hP hD hS hA (fun r_4 t_2 H locs e_3 hP hD hS => ?_)
    refine lv_istore (lv' := [(4, .int r_4), (0, .ref (h 0)), (1, .int a), (2, .int ct), (3, .int md)]) hx hb dX0_read_19 hl (by decide) rfl (fun ls hl => ?_)
    refine lv_iload hx hb dX0_read_21 (lv_at hl 0 rfl) ?_
    refine lv_if_eq (tgt := 30) hx hb dX0_read_23 (by decide) (fun c_5 => ?_) (fun c_5 => ?_)
    · refine lv_lconst (v := 0) hx hb dX0_read_30 (by decide) ?_
      refine lv_lstore (lv' := [(5, .long 0), (4, .int r_4), (0, .ref (h 0)), (1, .int a), (2, .int ct), (3, .int md)]) hx hb dX0_read_31 hl (by decide) rfl (fun ls hl => ?_)
      refine lv_iconst (v := 0) hx hb dX0_read_33 (by decide) ?_
      refine lv_istore (lv' := [(7, .int 0), (5, .long 0), (4, .int r_4), (0, .ref (h 0)), (1, .int a), (2, .int ct), (3, .int md)]) hx hb dX0_read_34 hl (by decide) rfl (fun ls hl => ?_)
      exact key_l1 5 0 0 0 t_2 _ _ _ nI_0.symm (by omega) (by omega) (x_cnt4 c_1) (x_fp_in hn hI c_1 e_3 c_5) ((if_neg c_1).trans ((kb_eq e_3).trans ((if_pos c_5).trans rfl))) hP hD hS (lv_sub hl [0, 1, 3, 4, 5, 6] rfl)
    · refine lv_iload hx hb dX0_read_26 (lv_at hl 0 rfl) ?_
      refine lv_i2l (v := ((r_4).toInt64)) hx hb dX0_read_28 rfl ?_
      exact W.lret (v := ((r_4).toInt64)) hx hb hr (fun t ht hW => ⟨⟨((r_4).toInt64), t_2, rfl, (if_neg c_1).trans ((kb_eq e_3).trans ((if_neg c_5).trans rfl)), by rw [ht]; exact hP, va_K.moved hW.alike hK, hD⟩, hS.F ht⟩) hS.2.2 dX0_read_29
  · refine lv_ldc2 (v := (-101)) hx hb hown (hts _ bX0_12) dX0_read_7 ?_
    exact W.lret (v := (-101)) hx hb hr (fun t ht hW => ⟨⟨(-101), σ, rfl, (if_pos c_1).trans rfl, by rw [ht]; exact hP, va_K.moved hW.alike hK, hD⟩, hS.F ht⟩) hS.2.2 dX0_read_10
set_option maxHeartbeats 4000000 in
set_option maxRecDepth 100000 in
theorem c_x_write (l : Launch) (dC : Nat → ClassId) (dI : Nat → Nat → Nat) (h : Nat → Nat) (cB cI : ClassId) (n : Nat) (tw tr : Nat) (sz : Nat) (σ : XS) (a : Int32) (ct : Int32) (v : Int32) (md : Int32) (hn : n ≤ 2048) (hI : x_Inv n σ) : Met l yX0_write wsX0_write ({ frames := 6, cells := 0, slots := 0, locals := 150 }) (va_Pc [.ref (h 0), .int a, .int ct, .int v, .int md] (x_BMt dC dI h cB cI n tw tr sz σ)) (q_x_write dC dI h cB cI n σ a ct v md (va_A (x_ws h cB cI n σ) sz)) 0 0 (va_A (x_ws h cB cI n σ) sz) := by
  refine Met.ofW (cc := cX0_write) (maxL := 7) (ret := (some .int)) (by decide) rfl ?_
  intro p e s m args below meth c s₁ B hml hv
  obtain ⟨rfl, hsz, hP, hK, hD0, hST⟩ := hv
  have hx := B.exec
  have hb := B.bytes
  have hr := B.returns
  have hts : ∀ w ∈ bX0, w.before _ s = true := fun w h => atoms_spec (ws := wsX0_write) B.pre w (List.mem_cons_of_mem _ h)
  have hown : s.vm.findClass RX0 = some m.cls := findClass_of_methodNamed B.named
  have hlocks := B.notSynchronized
  subst hsz
  have hD := hD0.self (sz := s.heap.size)
  generalize hAe : va_A (x_ws h cB cI n σ) s.heap.size = A at hD hST ⊢
  have hA : ∀ q : Nat, s.heap.size ≤ q → A q := fun q h => by rw [← hAe]; exact Or.inr h
  have hS : va_S A s.heap s.heap [] := va_S.rf
  have hP : va_P (dC, dI) vwCl (x_ws h cB cI n σ) s.heap := hP
  have hl := lv_entry ([.ref (h 0), .int a, .int ct, .int v, .int md]) (n := 7) (Nat.le_of_ble_eq_true rfl)
  rw [lg_entry_eq]
  generalize (lg_sl ([.ref (h 0), .int a, .int ct, .int v, .int md]) ++ List.replicate (7 - (lg_sl ([.ref (h 0), .int a, .int ct, .int v, .int md])).length) Slot.unset).toArray = ls at hl ⊢
  have hl : lv_has ls 7 [(0, .ref (h 0)), (1, .int a), (2, .int ct), (3, .int v), (4, .int md)] := hl
  have key_l1 : ∀ (f j : Nat) (i : Int32) (τ : XS) (H : Heap) (locs : List Loc) (ls : Array Slot), (i = nI j) → (j ≤ 4) → (5 ≤ j + f) → (∃ K : Nat, K ≤ 4 ∧ ct = nI K) → (∀ q : Nat, q < 4 → nI q < ct → vp_in (x_pl τ q) n) → x_write n σ a ct v md = x_write_l1 n a ct v md f i τ → va_P (dC, dI) vwCl (x_ws h cB cI n τ) H → va_D A (x_ws h cB cI n τ) → va_S A s.heap H locs → lv_has ls 7 [(6, .int i), (0, .ref (h 0)), (1, .int a), (2, .int ct), (3, .int v), (4, .int md)] → W p l e (headSpec wsX0_write ({ frames := 6, cells := 0, slots := 0, locals := 150 })).room s m ([.ref (h 0), .int a, .int ct, .int v, .int md] : List Value).toArray below meth c H locs 0 0 (MQ below (q_x_write dC dI h cB cI n σ a ct v md A) ([.ref (h 0), .int a, .int ct, .int v, .int md] : List Value).toArray s 0 0 A) (F0 m 32 ls []) := by
    intro f
    induction f with
    | zero => intro j i τ H locs ls ej hj hf hc hq; exact absurd hf (by omega)
    | succ f ih =>
      intro j i τ H locs ls ej hj hf hc hq hm hP hD hS hl
      refine lv_iload hx hb dX0_write_32 (lv_at hl 0 rfl) ?_
      refine lv_iload_n hx hb dX0_write_34 rfl (lv_at hl 3 rfl) ?_
      refine lv_icmp_ge (tgt := 64) hx hb dX0_write_35 (by decide) (fun c_101 => ?_) (fun c_101 => ?_)
      · refine lv_iconst (v := 0) hx hb dX0_write_64 (by decide) ?_
        exact W.iret (v := 0) hx hb hr (fun t ht hW => ⟨⟨0, τ, rfl, hm.trans ((if_pos c_101).trans rfl), by rw [ht]; exact hP, va_K.moved hW.alike hK, hD⟩, hS.F ht⟩) hS.2.2 dX0_write_65
      · have hlt : j < 4 := x_ltK hc hj ej (by omega) c_101
        refine lv_aload_n hx hb dX0_write_38 rfl (lv_at hl 1 rfl) ?_
        refine va_get (D := (dC, dI)) (ci := 0) (v := .ref (h 1)) (C := RX0) (T := TX0) (N := 9) hx hb hts inbX0 hown hK hP 0 rfl rfl 0 (by decide) (hts _ bX0_0) (fun _ h9 => h9) rfl dX0_write_39 ?_
        refine lv_aload_n hx hb dX0_write_42 rfl (lv_at hl 1 rfl) ?_
        refine va_get (D := (dC, dI)) (ci := 0) (v := .ref (h 7)) (C := RX0) (T := TX0) (N := 9) hx hb hts inbX0 hown hK hP 0 rfl rfl 8 (by decide) (hts _ bX0_8) (fun _ h9 => h9) rfl dX0_write_43 ?_
        refine lv_iload hx hb dX0_write_46 (lv_at hl 0 rfl) ?_
        refine va_iald hx hb hK hP 7 1 rfl rfl (by rw [ej]; exact vp_in_nI hlt (by omega)) dX0_write_48 ?_
        refine lv_iload_n hx hb dX0_write_49 rfl (lv_at hl 4 rfl) ?_
        refine lv_bipush (v := 8) hx hb dX0_write_50 (by decide) ?_
        refine lv_iload hx hb dX0_write_52 (lv_at hl 0 rfl) ?_
        refine lv_imul hx hb dX0_write_54 ?_
        refine lv_iushr (v := (jushr v ((8 : Int32) * i))) hx hb dX0_write_55 rfl ?_
        refine lv_i2b (v := (((jushr v ((8 : Int32) * i))).toInt8.toInt32)) hx hb dX0_write_56 rfl ?_
        refine va_bast hx hb hK hP hD hS 1 0 rfl rfl (x_plat ej hlt hq c_101) dX0_write_57 (fun H locs hP hD hS => ?_)
        have hP : va_P (dC, dI) vwCl (x_ws h cB cI n (x_sMem τ (upd (x_mem τ) (((x_pl τ (i).toNatClampNeg)).toNatClampNeg) (vp_nar .byte (((jushr v ((8 : Int32) * i))).toInt8.toInt32))))) H := hP
        have hD : va_D A (x_ws h cB cI n (x_sMem τ (upd (x_mem τ) (((x_pl τ (i).toNatClampNeg)).toNatClampNeg) (vp_nar .byte (((jushr v ((8 : Int32) * i))).toInt8.toInt32))))) := hD
        refine lv_iinc (v := (i + 1)) (lv' := [(6, .int (i + 1)), (0, .ref (h 0)), (1, .int a), (2, .int ct), (3, .int v), (4, .int md)]) hx hb dX0_write_58 hl (k := 0) rfl rfl (by decide) rfl (fun ls hl => ?_)
        refine lv_goto (tgt := 32) hx hb dX0_write_61 (by decide) ?_
        exact ih (j + 1) (i + 1) (x_sMem τ (upd (x_mem τ) (((x_pl τ (i).toNatClampNeg)).toNatClampNeg) (vp_nar .byte (((jushr v ((8 : Int32) * i))).toInt8.toInt32)))) _ _ _ (by rw [ej]; exact nI_1 j) (by omega) (by omega) hc hq (hm.trans ((if_neg c_101).trans rfl)) hP hD hS (lv_sub hl [0, 1, 2, 3, 4, 5] rfl)
  refine lv_iload_n hx hb dX0_write_0 rfl (lv_at hl 2 rfl) ?_
  refine vp_callSi (W.runS (As := [.int ct]) (rest := []) ⟨hx, hb, hml, hown, hts⟩ (c_x_isCount l ct ) (va_cwS 1 hts gX0_X0_isCount rfl rfl rfl (by decide +kernel) ⟨Nat.le_of_ble_eq_true rfl, Nat.le_of_ble_eq_true rfl⟩) (fs_pre) rfl rfl hl.1 rfl (lv_room (Nat.le_of_ble_eq_true rfl)) dX0_write_1 ⟨Nat.zero_le _, Nat.zero_le _⟩) (fun r er => ?_)
  subst er
  refine lv_if_ne (tgt := 10) hx hb dX0_write_4 (by decide) (fun c_1 => ?_) (fun c_1 => ?_)
  · refine lv_aload_n hx hb dX0_write_10 rfl (lv_at hl 0 rfl) ?_
    refine lv_iload_n hx hb dX0_write_11 rfl (lv_at hl 1 rfl) ?_
    refine lv_iload_n hx hb dX0_write_12 rfl (lv_at hl 2 rfl) ?_
    refine lv_iload hx hb dX0_write_13 (lv_at hl 4 rfl) ?_
    refine lv_iconst (v := 1) hx hb dX0_write_15 (by decide) ?_
    refine x_calli (f := (x_findPlaces n σ a ct md 1)) (va_runV (C := RX0) (As := [.int a, .int ct, .int md, .int 1]) (rest := []) ⟨hx, hb, hml, hown, hts⟩ (c_x_findPlaces l dC dI h cB cI n tw tr _ σ a ct md 1 hn hI (x_cnt4 c_1)) (cwV 4 hts gX0_X0_findPlaces rfl rfl rfl (by decide +kernel) ⟨Nat.le_of_ble_eq_true rfl, Nat.le_of_ble_eq_true rfl⟩) (x_preMt hK hP hD hST hS hA) rfl rfl hl.1 rfl (lv_room (Nat.le_of_ble_eq_true rfl)) dX0_write_16 ⟨Nat.zero_le _, Nat.zero_le _⟩) hP hD hS hA (fun r_4 t_2 H locs e_3 hP hD hS => ?_)
    refine lv_istore (lv' := [(5, .int r_4), (0, .ref (h 0)), (1, .int a), (2, .int ct), (3, .int v), (4, .int md)]) hx hb dX0_write_19 hl (by decide) rfl (fun ls hl => ?_)
    refine lv_iload hx hb dX0_write_21 (lv_at hl 0 rfl) ?_
    refine lv_if_eq (tgt := 29) hx hb dX0_write_23 (by decide) (fun c_5 => ?_) (fun c_5 => ?_)
    · refine lv_iconst (v := 0) hx hb dX0_write_29 (by decide) ?_
      refine lv_istore (lv' := [(6, .int 0), (5, .int r_4), (0, .ref (h 0)), (1, .int a), (2, .int ct), (3, .int v), (4, .int md)]) hx hb dX0_write_30 hl (by decide) rfl (fun ls hl => ?_)
      exact key_l1 5 0 0 t_2 _ _ _ nI_0.symm (by omega) (by omega) (x_cnt4 c_1) (x_fp_in hn hI c_1 e_3 c_5) ((if_neg c_1).trans ((kb_eq e_3).trans ((if_pos c_5).trans rfl))) hP hD hS (lv_sub hl [0, 2, 3, 4, 5, 6] rfl)
    · refine lv_iload hx hb dX0_write_26 (lv_at hl 0 rfl) ?_
      exact W.iret (v := r_4) hx hb hr (fun t ht hW => ⟨⟨r_4, t_2, rfl, (if_neg c_1).trans ((kb_eq e_3).trans ((if_neg c_5).trans rfl)), by rw [ht]; exact hP, va_K.moved hW.alike hK, hD⟩, hS.F ht⟩) hS.2.2 dX0_write_28
  · refine lv_bipush (v := (-101)) hx hb dX0_write_7 (by decide) ?_
    exact W.iret (v := (-101)) hx hb hr (fun t ht hW => ⟨⟨(-101), σ, rfl, (if_pos c_1).trans rfl, by rw [ht]; exact hP, va_K.moved hW.alike hK, hD⟩, hS.F ht⟩) hS.2.2 dX0_write_9
set_option maxHeartbeats 4000000 in
set_option maxRecDepth 100000 in
theorem c_x_where (l : Launch) (dC : Nat → ClassId) (dI : Nat → Nat → Nat) (h : Nat → Nat) (cB cI : ClassId) (n : Nat) (tw tr : Nat) (sz : Nat) (σ : XS) (a : Int32) (md : Int32) (b : Int32) (hn : n ≤ 2048) (hI : x_Inv n σ) : Met l yX0_where wsX0_where ({ frames := 5, cells := 0, slots := 0, locals := 123 }) (va_Pc [.ref (h 0), .int a, .int md, .int b] (x_BMt dC dI h cB cI n tw tr sz σ)) (q_x_where dC dI h cB cI n σ a md b (va_A (x_ws h cB cI n σ) sz)) 0 0 (va_A (x_ws h cB cI n σ) sz) := by
  refine Met.ofW (cc := cX0_where) (maxL := 5) (ret := (some .int)) (by decide) rfl ?_
  intro p e s m args below meth c s₁ B hml hv
  obtain ⟨rfl, hsz, hP, hK, hD0, hST⟩ := hv
  have hx := B.exec
  have hb := B.bytes
  have hr := B.returns
  have hts : ∀ w ∈ bX0, w.before _ s = true := fun w h => atoms_spec (ws := wsX0_where) B.pre w (List.mem_cons_of_mem _ h)
  have hown : s.vm.findClass RX0 = some m.cls := findClass_of_methodNamed B.named
  have hlocks := B.notSynchronized
  subst hsz
  have hD := hD0.self (sz := s.heap.size)
  generalize hAe : va_A (x_ws h cB cI n σ) s.heap.size = A at hD hST ⊢
  have hA : ∀ q : Nat, s.heap.size ≤ q → A q := fun q h => by rw [← hAe]; exact Or.inr h
  have hS : va_S A s.heap s.heap [] := va_S.rf
  have hP : va_P (dC, dI) vwCl (x_ws h cB cI n σ) s.heap := hP
  have hl := lv_entry ([.ref (h 0), .int a, .int md, .int b]) (n := 5) (Nat.le_of_ble_eq_true rfl)
  rw [lg_entry_eq]
  generalize (lg_sl ([.ref (h 0), .int a, .int md, .int b]) ++ List.replicate (5 - (lg_sl ([.ref (h 0), .int a, .int md, .int b])).length) Slot.unset).toArray = ls at hl ⊢
  have hl : lv_has ls 5 [(0, .ref (h 0)), (1, .int a), (2, .int md), (3, .int b)] := hl
  refine lv_aload_n hx hb dX0_where_0 rfl (lv_at hl 0 rfl) ?_
  refine lv_iload_n hx hb dX0_where_1 rfl (lv_at hl 1 rfl) ?_
  refine lv_ldc (v := 65535) hx hb hown (hts _ bX0_11) dX0_where_2 ?_
  refine lv_iand hx hb dX0_where_4 ?_
  refine lv_iload_n hx hb dX0_where_5 rfl (lv_at hl 2 rfl) ?_
  refine lv_iload_n hx hb dX0_where_6 rfl (lv_at hl 3 rfl) ?_
  refine lv_iconst (v := 0) hx hb dX0_where_7 (by decide) ?_
  refine x_calli (f := (x_translate n σ (a &&& 65535) md b 0)) (va_runV (C := RX0) (As := [.int (a &&& 65535), .int md, .int b, .int 0]) (rest := []) ⟨hx, hb, hml, hown, hts⟩ (c_x_translate l dC dI h cB cI n tw tr _ σ (a &&& 65535) md b 0 hn hI (x_mask16 _)) (cwV 4 hts gX0_X0_translate rfl rfl rfl (by decide +kernel) ⟨Nat.le_of_ble_eq_true rfl, Nat.le_of_ble_eq_true rfl⟩) (x_preMt hK hP hD hST hS hA) rfl rfl hl.1 rfl (lv_room (Nat.le_of_ble_eq_true rfl)) dX0_where_8 ⟨Nat.zero_le _, Nat.zero_le _⟩) hP hD hS hA (fun r_3 t_1 H locs e_2 hP hD hS => ?_)
  refine lv_istore (lv' := [(4, .int r_3), (0, .ref (h 0)), (1, .int a), (2, .int md), (3, .int b)]) hx hb dX0_where_11 hl (by decide) rfl (fun ls hl => ?_)
  refine lv_iload hx hb dX0_where_13 (lv_at hl 0 rfl) ?_
  refine lv_if_ge (tgt := 21) hx hb dX0_where_15 (by decide) (fun c_4 => ?_) (fun c_4 => ?_)
  · refine lv_aload_n hx hb dX0_where_21 rfl (lv_at hl 1 rfl) ?_
    refine lv_iload hx hb dX0_where_22 (lv_at hl 0 rfl) ?_
    refine lv_iconst (v := 1) hx hb dX0_where_24 (by decide) ?_
    refine vp_callSi (W.runV (C := RX0) (As := [.int r_3, .int 1]) (rest := []) ⟨hx, hb, hml, hown, hts⟩ (c_x_inMemory l dC dI h cB cI n t_1 r_3 1 ) (cwV 2 hts gX0_X0_inMemory rfl rfl rfl (by decide +kernel) ⟨Nat.le_of_ble_eq_true rfl, Nat.le_of_ble_eq_true rfl⟩) (x_preP hK hP) rfl rfl hl.1 rfl (lv_room (Nat.le_of_ble_eq_true rfl)) dX0_where_25 ⟨Nat.zero_le _, Nat.zero_le _⟩) (fun r er => ?_)
    subst er
    refine lv_if_eq (tgt := 36) hx hb dX0_where_28 (by decide) (fun c_5 => ?_) (fun c_5 => ?_)
    · refine lv_bipush (v := (-100)) hx hb dX0_where_36 (by decide) ?_
      exact W.iret (v := (-100)) hx hb hr (fun t ht hW => ⟨⟨(-100), t_1, rfl, (kb_eq e_2).trans ((if_pos c_4).trans ((if_pos c_5).trans rfl)), by rw [ht]; exact hP, va_K.moved hW.alike hK, hD⟩, hS.F ht⟩) hS.2.2 dX0_where_38
    · refine lv_iload hx hb dX0_where_31 (lv_at hl 0 rfl) ?_
      refine lv_goto (tgt := 38) hx hb dX0_where_33 (by decide) ?_
      exact W.iret (v := r_3) hx hb hr (fun t ht hW => ⟨⟨r_3, t_1, rfl, (kb_eq e_2).trans ((if_pos c_4).trans ((if_neg c_5).trans rfl)), by rw [ht]; exact hP, va_K.moved hW.alike hK, hD⟩, hS.F ht⟩) hS.2.2 dX0_where_38
  · refine lv_iload hx hb dX0_where_18 (lv_at hl 0 rfl) ?_
    exact W.iret (v := r_3) hx hb hr (fun t ht hW => ⟨⟨r_3, t_1, rfl, (kb_eq e_2).trans ((if_neg c_4).trans rfl), by rw [ht]; exact hP, va_K.moved hW.alike hK, hD⟩, hS.F ht⟩) hS.2.2 dX0_where_20
set_option maxHeartbeats 4000000 in
set_option maxRecDepth 100000 in
theorem c_x_may (l : Launch) (dC : Nat → ClassId) (dI : Nat → Nat → Nat) (h : Nat → Nat) (cB cI : ClassId) (n : Nat) (tw tr : Nat) (sz : Nat) (σ : XS) (a : Int32) (md : Int32) (b : Int32) (hn : n ≤ 2048) : Met l yX0_may wsX0_may ({ frames := 4, cells := 0, slots := 0, locals := 95 }) (va_Pc [.ref (h 0), .int a, .int md, .int b] (x_BMt dC dI h cB cI n tw tr sz σ)) (q_x_may dC dI h cB cI n σ a md b (va_A (x_ws h cB cI n σ) sz)) 0 0 (va_A (x_ws h cB cI n σ) sz) := by
  refine Met.ofW (cc := cX0_may) (maxL := 7) (ret := (some .int)) (by decide) rfl ?_
  intro p e s m args below meth c s₁ B hml hv
  obtain ⟨rfl, hsz, hP, hK, hD0, hST⟩ := hv
  have hx := B.exec
  have hb := B.bytes
  have hr := B.returns
  have hts : ∀ w ∈ bX0, w.before _ s = true := fun w h => atoms_spec (ws := wsX0_may) B.pre w (List.mem_cons_of_mem _ h)
  have hown : s.vm.findClass RX0 = some m.cls := findClass_of_methodNamed B.named
  have hlocks := B.notSynchronized
  subst hsz
  have hD := hD0.self (sz := s.heap.size)
  generalize hAe : va_A (x_ws h cB cI n σ) s.heap.size = A at hD hST ⊢
  have hA : ∀ q : Nat, s.heap.size ≤ q → A q := fun q h => by rw [← hAe]; exact Or.inr h
  have hS : va_S A s.heap s.heap [] := va_S.rf
  have hP : va_P (dC, dI) vwCl (x_ws h cB cI n σ) s.heap := hP
  have hl := lv_entry ([.ref (h 0), .int a, .int md, .int b]) (n := 7) (Nat.le_of_ble_eq_true rfl)
  rw [lg_entry_eq]
  generalize (lg_sl ([.ref (h 0), .int a, .int md, .int b]) ++ List.replicate (7 - (lg_sl ([.ref (h 0), .int a, .int md, .int b])).length) Slot.unset).toArray = ls at hl ⊢
  have hl : lv_has ls 7 [(0, .ref (h 0)), (1, .int a), (2, .int md), (3, .int b)] := hl
  refine lv_aload_n hx hb dX0_may_0 rfl (lv_at hl 0 rfl) ?_
  refine va_get (D := (dC, dI)) (ci := 0) (v := .int (x_mp σ)) (C := RX0) (T := TX0) (N := 9) hx hb hts inbX0 hown hK hP 0 rfl rfl 3 (by decide) (hts _ bX0_3) (fun _ h9 => h9) rfl dX0_may_1 ?_
  refine lv_if_ne (tgt := 9) hx hb dX0_may_4 (by decide) (fun c_1 => ?_) (fun c_1 => ?_)
  · refine lv_iload_n hx hb dX0_may_9 rfl (lv_at hl 1 rfl) ?_
    refine lv_ldc (v := 65535) hx hb hown (hts _ bX0_11) dX0_may_10 ?_
    refine lv_iand hx hb dX0_may_12 ?_
    refine lv_istore (lv' := [(4, .int (a &&& 65535)), (0, .ref (h 0)), (1, .int a), (2, .int md), (3, .int b)]) hx hb dX0_may_13 hl (by decide) rfl (fun ls hl => ?_)
    refine lv_iload hx hb dX0_may_15 (lv_at hl 0 rfl) ?_
    refine vp_callSi (W.runS (As := [.int (a &&& 65535)]) (rest := []) ⟨hx, hb, hml, hown, hts⟩ (c_x_slotOf l (a &&& 65535) ) (va_cwS 1 hts gX0_X0_slotOf rfl rfl rfl (by decide +kernel) ⟨Nat.le_of_ble_eq_true rfl, Nat.le_of_ble_eq_true rfl⟩) (fs_pre) rfl rfl hl.1 rfl (lv_room (Nat.le_of_ble_eq_true rfl)) dX0_may_17 ⟨Nat.zero_le _, Nat.zero_le _⟩) (fun r er => ?_)
    subst er
    refine lv_istore (lv' := [(5, .int (x_slotOf (a &&& 65535))), (4, .int (a &&& 65535)), (0, .ref (h 0)), (1, .int a), (2, .int md), (3, .int b)]) hx hb dX0_may_20 hl (by decide) rfl (fun ls hl => ?_)
    refine lv_aload_n hx hb dX0_may_22 rfl (lv_at hl 2 rfl) ?_
    refine lv_iload hx hb dX0_may_23 (lv_at hl 0 rfl) ?_
    refine lv_iload hx hb dX0_may_25 (lv_at hl 1 rfl) ?_
    refine vp_callSi (W.runV (C := RX0) (As := [.int (x_slotOf (a &&& 65535)), .int (a &&& 65535)]) (rest := []) ⟨hx, hb, hml, hown, hts⟩ (c_x_counts l dC dI h cB cI n σ (x_slotOf (a &&& 65535)) (a &&& 65535) (x_slot_in _)) (cwV 2 hts gX0_X0_counts rfl rfl rfl (by decide +kernel) ⟨Nat.le_of_ble_eq_true rfl, Nat.le_of_ble_eq_true rfl⟩) (x_preP hK hP) rfl rfl hl.1 rfl (lv_room (Nat.le_of_ble_eq_true rfl)) dX0_may_27 ⟨Nat.zero_le _, Nat.zero_le _⟩) (fun r er => ?_)
    subst er
    refine lv_if_eq (tgt := 54) hx hb dX0_may_30 (by decide) (fun c_2 => ?_) (fun c_2 => ?_)
    · refine lv_aload_n hx hb dX0_may_54 rfl (lv_at hl 2 rfl) ?_
      refine lv_iload hx hb dX0_may_55 (lv_at hl 1 rfl) ?_
      refine lv_iload_n hx hb dX0_may_57 rfl (lv_at hl 5 rfl) ?_
      refine lv_iconst (v := 0) hx hb dX0_may_58 (by decide) ?_
      refine x_calli (f := (x_placeOfEntry n σ (a &&& 65535) b 0)) (va_runV (C := RX0) (As := [.int (a &&& 65535), .int b, .int 0]) (rest := []) ⟨hx, hb, hml, hown, hts⟩ (c_x_placeOfEntry l dC dI h cB cI n _ σ (a &&& 65535) b 0 hn) (cwV 3 hts gX0_X0_placeOfEntry rfl rfl rfl (by decide +kernel) ⟨Nat.le_of_ble_eq_true rfl, Nat.le_of_ble_eq_true rfl⟩) (x_preM hK hP hD) rfl rfl hl.1 rfl (lv_room (Nat.le_of_ble_eq_true rfl)) dX0_may_59 ⟨Nat.zero_le _, Nat.zero_le _⟩) hP hD hS hA (fun r_5 t_3 H locs e_4 hP hD hS => ?_)
      refine lv_istore (lv' := [(6, .int r_5), (5, .int (x_slotOf (a &&& 65535))), (4, .int (a &&& 65535)), (0, .ref (h 0)), (1, .int a), (2, .int md), (3, .int b)]) hx hb dX0_may_62 hl (by decide) rfl (fun ls hl => ?_)
      refine lv_iload hx hb dX0_may_64 (lv_at hl 0 rfl) ?_
      refine lv_if_ge (tgt := 84) hx hb dX0_may_66 (by decide) (fun c_6 => ?_) (fun c_6 => ?_)
      · refine lv_aload_n hx hb dX0_may_84 rfl (lv_at hl 3 rfl) ?_
        refine lv_iload hx hb dX0_may_85 (lv_at hl 0 rfl) ?_
        refine vp_callSi (W.runV (C := RX0) (As := [.int r_5]) (rest := []) ⟨hx, hb, hml, hown, hts⟩ (c_x_entryAt l dC dI h cB cI n t_3 r_5 (x_poe_in hn e_4 c_6)) (cwV 1 hts gX0_X0_entryAt rfl rfl rfl (by decide +kernel) ⟨Nat.le_of_ble_eq_true rfl, Nat.le_of_ble_eq_true rfl⟩) (x_preP hK hP) rfl rfl hl.1 rfl (lv_room (Nat.le_of_ble_eq_true rfl)) dX0_may_87 ⟨Nat.zero_le _, Nat.zero_le _⟩) (fun r er => ?_)
        subst er
        refine lv_iload_n hx hb dX0_may_90 rfl (lv_at hl 5 rfl) ?_
        refine lv_iload_n hx hb dX0_may_91 rfl (lv_at hl 6 rfl) ?_
        refine vp_callSi (W.runS (As := [.int (x_entryAt n t_3 r_5), .int md, .int b]) (rest := []) ⟨hx, hb, hml, hown, hts⟩ (c_x_gives l tw tr (x_entryAt n t_3 r_5) md b ) (va_cwS 3 hts gX0_X0_gives rfl rfl rfl (by decide +kernel) ⟨Nat.le_of_ble_eq_true rfl, Nat.le_of_ble_eq_true rfl⟩) (x_preS hST hS) rfl rfl hl.1 rfl (lv_room (Nat.le_of_ble_eq_true rfl)) dX0_may_92 ⟨Nat.zero_le _, Nat.zero_le _⟩) (fun r er => ?_)
        subst er
        refine lv_if_eq (tgt := 102) hx hb dX0_may_95 (by decide) (fun c_7 => ?_) (fun c_7 => ?_)
        · refine lv_iconst (v := 0) hx hb dX0_may_102 (by decide) ?_
          exact W.iret (v := 0) hx hb hr (fun t ht hW => ⟨⟨0, t_3, rfl, (if_neg c_1).trans ((if_pos c_2).trans ((kb_eq e_4).trans ((if_pos c_6).trans ((if_pos c_7).trans rfl)))), by rw [ht]; exact hP, va_K.moved hW.alike hK, hD⟩, hS.F ht⟩) hS.2.2 dX0_may_103
        · refine lv_iconst (v := 1) hx hb dX0_may_98 (by decide) ?_
          refine lv_goto (tgt := 103) hx hb dX0_may_99 (by decide) ?_
          exact W.iret (v := 1) hx hb hr (fun t ht hW => ⟨⟨1, t_3, rfl, (if_neg c_1).trans ((if_pos c_2).trans ((kb_eq e_4).trans ((if_pos c_6).trans ((if_neg c_7).trans rfl)))), by rw [ht]; exact hP, va_K.moved hW.alike hK, hD⟩, hS.F ht⟩) hS.2.2 dX0_may_103
      · refine lv_iload hx hb dX0_may_69 (lv_at hl 0 rfl) ?_
        refine vp_callSi (W.runS (As := [.int r_5]) (rest := []) ⟨hx, hb, hml, hown, hts⟩ (c_x_isAccess l r_5 ) (va_cwS 1 hts gX0_X0_isAccess rfl rfl rfl (by decide +kernel) ⟨Nat.le_of_ble_eq_true rfl, Nat.le_of_ble_eq_true rfl⟩) (fs_pre) rfl rfl hl.1 rfl (lv_room (Nat.le_of_ble_eq_true rfl)) dX0_may_71 ⟨Nat.zero_le _, Nat.zero_le _⟩) (fun r er => ?_)
        subst er
        refine lv_if_eq (tgt := 81) hx hb dX0_may_74 (by decide) (fun c_8 => ?_) (fun c_8 => ?_)
        · refine lv_iload hx hb dX0_may_81 (lv_at hl 0 rfl) ?_
          exact W.iret (v := r_5) hx hb hr (fun t ht hW => ⟨⟨r_5, t_3, rfl, (if_neg c_1).trans ((if_pos c_2).trans ((kb_eq e_4).trans ((if_neg c_6).trans ((if_pos c_8).trans rfl)))), by rw [ht]; exact hP, va_K.moved hW.alike hK, hD⟩, hS.F ht⟩) hS.2.2 dX0_may_83
        · refine lv_iconst (v := 0) hx hb dX0_may_77 (by decide) ?_
          refine lv_goto (tgt := 83) hx hb dX0_may_78 (by decide) ?_
          exact W.iret (v := 0) hx hb hr (fun t ht hW => ⟨⟨0, t_3, rfl, (if_neg c_1).trans ((if_pos c_2).trans ((kb_eq e_4).trans ((if_neg c_6).trans ((if_neg c_8).trans rfl)))), by rw [ht]; exact hP, va_K.moved hW.alike hK, hD⟩, hS.F ht⟩) hS.2.2 dX0_may_83
    · refine lv_aload_n hx hb dX0_may_33 rfl (lv_at hl 2 rfl) ?_
      refine va_get (D := (dC, dI)) (ci := 0) (v := .ref (h 5)) (C := RX0) (T := TX0) (N := 9) hx hb hts inbX0 hown hK hP 0 rfl rfl 6 (by decide) (hts _ bX0_6) (fun _ h9 => h9) rfl dX0_may_34 ?_
      refine lv_iload hx hb dX0_may_37 (lv_at hl 0 rfl) ?_
      refine va_iald hx hb hK hP 5 1 rfl rfl (x_slot_in _) dX0_may_39 ?_
      refine lv_iload_n hx hb dX0_may_40 rfl (lv_at hl 4 rfl) ?_
      refine lv_iload_n hx hb dX0_may_41 rfl (lv_at hl 5 rfl) ?_
      refine vp_callSi (W.runS (As := [.int (x_ke σ ((x_slotOf (a &&& 65535))).toNatClampNeg), .int md, .int b]) (rest := []) ⟨hx, hb, hml, hown, hts⟩ (c_x_gives l tw tr (x_ke σ ((x_slotOf (a &&& 65535))).toNatClampNeg) md b ) (va_cwS 3 hts gX0_X0_gives rfl rfl rfl (by decide +kernel) ⟨Nat.le_of_ble_eq_true rfl, Nat.le_of_ble_eq_true rfl⟩) (x_preS hST hS) rfl rfl hl.1 rfl (lv_room (Nat.le_of_ble_eq_true rfl)) dX0_may_42 ⟨Nat.zero_le _, Nat.zero_le _⟩) (fun r er => ?_)
      subst er
      refine lv_if_eq (tgt := 52) hx hb dX0_may_45 (by decide) (fun c_9 => ?_) (fun c_9 => ?_)
      · refine lv_iconst (v := 0) hx hb dX0_may_52 (by decide) ?_
        exact W.iret (v := 0) hx hb hr (fun t ht hW => ⟨⟨0, σ, rfl, (if_neg c_1).trans ((if_neg c_2).trans ((if_pos c_9).trans rfl)), by rw [ht]; exact hP, va_K.moved hW.alike hK, hD⟩, hS.F ht⟩) hS.2.2 dX0_may_53
      · refine lv_iconst (v := 1) hx hb dX0_may_48 (by decide) ?_
        refine lv_goto (tgt := 53) hx hb dX0_may_49 (by decide) ?_
        exact W.iret (v := 1) hx hb hr (fun t ht hW => ⟨⟨1, σ, rfl, (if_neg c_1).trans ((if_neg c_2).trans ((if_neg c_9).trans rfl)), by rw [ht]; exact hP, va_K.moved hW.alike hK, hD⟩, hS.F ht⟩) hS.2.2 dX0_may_53
  · refine lv_iconst (v := 1) hx hb dX0_may_7 (by decide) ?_
    exact W.iret (v := 1) hx hb hr (fun t ht hW => ⟨⟨1, σ, rfl, (if_pos c_1).trans rfl, by rw [ht]; exact hP, va_K.moved hW.alike hK, hD⟩, hS.F ht⟩) hS.2.2 dX0_may_8
end
section
theorem dX1_init_0 : decode cX1_init 0 = .ok (.aload_n 0, 1) := by decide +kernel
theorem dX1_init_1 : decode cX1_init 1 = .ok (.invokespecial 1, 3) := by decide +kernel
theorem dX1_init_4 : decode cX1_init 4 = .ok (.aload_n 0, 1) := by decide +kernel
theorem dX1_init_5 : decode cX1_init 5 = .ok (.sipush 2048, 3) := by decide +kernel
theorem dX1_init_8 : decode cX1_init 8 = .ok (.newarray .int, 2) := by decide +kernel
theorem dX1_init_10 : decode cX1_init 10 = .ok (.putfield 7, 3) := by decide +kernel
theorem dX1_init_13 : decode cX1_init 13 = .ok (.aload_n 0, 1) := by decide +kernel
theorem dX1_init_14 : decode cX1_init 14 = .ok (.iconst 3, 1) := by decide +kernel
theorem dX1_init_15 : decode cX1_init 15 = .ok (.newarray .int, 2) := by decide +kernel
theorem dX1_init_17 : decode cX1_init 17 = .ok (.putfield 13, 3) := by decide +kernel
theorem dX1_init_20 : decode cX1_init 20 = .ok (.aload_n 0, 1) := by decide +kernel
theorem dX1_init_21 : decode cX1_init 21 = .ok (.iconst 3, 1) := by decide +kernel
theorem dX1_init_22 : decode cX1_init 22 = .ok (.newarray .int, 2) := by decide +kernel
theorem dX1_init_24 : decode cX1_init 24 = .ok (.putfield 16, 3) := by decide +kernel
theorem dX1_init_27 : decode cX1_init 27 = .ok (.aload_n 0, 1) := by decide +kernel
theorem dX1_init_28 : decode cX1_init 28 = .ok (.bipush 16, 2) := by decide +kernel
theorem dX1_init_30 : decode cX1_init 30 = .ok (.newarray .int, 2) := by decide +kernel
theorem dX1_init_32 : decode cX1_init 32 = .ok (.putfield 19, 3) := by decide +kernel
theorem dX1_init_35 : decode cX1_init 35 = .ok (.aload_n 0, 1) := by decide +kernel
theorem dX1_init_36 : decode cX1_init 36 = .ok (.bipush 16, 2) := by decide +kernel
theorem dX1_init_38 : decode cX1_init 38 = .ok (.newarray .int, 2) := by decide +kernel
theorem dX1_init_40 : decode cX1_init 40 = .ok (.putfield 22, 3) := by decide +kernel
theorem dX1_init_43 : decode cX1_init 43 = .ok (.aload_n 0, 1) := by decide +kernel
theorem dX1_init_44 : decode cX1_init 44 = .ok (.bipush 16, 2) := by decide +kernel
theorem dX1_init_46 : decode cX1_init 46 = .ok (.newarray .int, 2) := by decide +kernel
theorem dX1_init_48 : decode cX1_init 48 = .ok (.putfield 25, 3) := by decide +kernel
theorem dX1_init_51 : decode cX1_init 51 = .ok (.aload_n 0, 1) := by decide +kernel
theorem dX1_init_52 : decode cX1_init 52 = .ok (.bipush 16, 2) := by decide +kernel
theorem dX1_init_54 : decode cX1_init 54 = .ok (.newarray .int, 2) := by decide +kernel
theorem dX1_init_56 : decode cX1_init 56 = .ok (.putfield 28, 3) := by decide +kernel
theorem dX1_init_59 : decode cX1_init 59 = .ok (.aload_n 0, 1) := by decide +kernel
theorem dX1_init_60 : decode cX1_init 60 = .ok (.bipush 16, 2) := by decide +kernel
theorem dX1_init_62 : decode cX1_init 62 = .ok (.newarray .int, 2) := by decide +kernel
theorem dX1_init_64 : decode cX1_init 64 = .ok (.putfield 31, 3) := by decide +kernel
theorem dX1_init_67 : decode cX1_init 67 = .ok (.aload_n 0, 1) := by decide +kernel
theorem dX1_init_68 : decode cX1_init 68 = .ok (.iconst 4, 1) := by decide +kernel
theorem dX1_init_69 : decode cX1_init 69 = .ok (.newarray .int, 2) := by decide +kernel
theorem dX1_init_71 : decode cX1_init 71 = .ok (.putfield 34, 3) := by decide +kernel
theorem dX1_init_74 : decode cX1_init 74 = .ok (.aload_n 0, 1) := by decide +kernel
theorem dX1_init_75 : decode cX1_init 75 = .ok (.iconst (-1), 1) := by decide +kernel
theorem dX1_init_76 : decode cX1_init 76 = .ok (.putfield 37, 3) := by decide +kernel
theorem dX1_init_79 : decode cX1_init 79 = .ok (.aload_n 0, 1) := by decide +kernel
theorem dX1_init_80 : decode cX1_init 80 = .ok (.bipush 16, 2) := by decide +kernel
theorem dX1_init_82 : decode cX1_init 82 = .ok (.iload_n 1, 1) := by decide +kernel
theorem dX1_init_83 : decode cX1_init 83 = .ok (.iconst 4, 1) := by decide +kernel
theorem dX1_init_84 : decode cX1_init 84 = .ok (.if_icmp .lt 14, 3) := by decide +kernel
theorem dX1_init_87 : decode cX1_init 87 = .ok (.iload_n 1, 1) := by decide +kernel
theorem dX1_init_88 : decode cX1_init 88 = .ok (.sipush 128, 3) := by decide +kernel
theorem dX1_init_91 : decode cX1_init 91 = .ok (.if_icmp .gt 7, 3) := by decide +kernel
theorem dX1_init_94 : decode cX1_init 94 = .ok (.iload_n 1, 1) := by decide +kernel
theorem dX1_init_95 : decode cX1_init 95 = .ok (.goto 5, 3) := by decide +kernel
theorem dX1_init_98 : decode cX1_init 98 = .ok (.bipush 32, 2) := by decide +kernel
theorem dX1_init_100 : decode cX1_init 100 = .ok (.imul, 1) := by decide +kernel
theorem dX1_init_101 : decode cX1_init 101 = .ok (.putfield 41, 3) := by decide +kernel
theorem dX1_init_104 : decode cX1_init 104 = .ok (.iconst 0, 1) := by decide +kernel
theorem dX1_init_105 : decode cX1_init 105 = .ok (.istore_n 2, 1) := by decide +kernel
theorem dX1_init_106 : decode cX1_init 106 = .ok (.iload_n 2, 1) := by decide +kernel
theorem dX1_init_107 : decode cX1_init 107 = .ok (.bipush 16, 2) := by decide +kernel
theorem dX1_init_109 : decode cX1_init 109 = .ok (.if_icmp .ge 16, 3) := by decide +kernel
theorem dX1_init_112 : decode cX1_init 112 = .ok (.aload_n 0, 1) := by decide +kernel
theorem dX1_init_113 : decode cX1_init 113 = .ok (.getfield 19, 3) := by decide +kernel
theorem dX1_init_116 : decode cX1_init 116 = .ok (.iload_n 2, 1) := by decide +kernel
theorem dX1_init_117 : decode cX1_init 117 = .ok (.iconst (-1), 1) := by decide +kernel
theorem dX1_init_118 : decode cX1_init 118 = .ok (.iastore, 1) := by decide +kernel
theorem dX1_init_119 : decode cX1_init 119 = .ok (.iinc 2 1, 3) := by decide +kernel
theorem dX1_init_122 : decode cX1_init 122 = .ok (.goto (-16), 3) := by decide +kernel
theorem dX1_init_125 : decode cX1_init 125 = .ok (.aload_n 0, 1) := by decide +kernel
theorem dX1_init_126 : decode cX1_init 126 = .ok (.iconst 2, 1) := by decide +kernel
theorem dX1_init_127 : decode cX1_init 127 = .ok (.iconst 1, 1) := by decide +kernel
theorem dX1_init_128 : decode cX1_init 128 = .ok (.iconst 1, 1) := by decide +kernel
theorem dX1_init_129 : decode cX1_init 129 = .ok (.invokevirtual 44, 3) := by decide +kernel
theorem dX1_init_132 : decode cX1_init 132 = .ok (.aload_n 0, 1) := by decide +kernel
theorem dX1_init_133 : decode cX1_init 133 = .ok (.iconst 3, 1) := by decide +kernel
theorem dX1_init_134 : decode cX1_init 134 = .ok (.iconst 0, 1) := by decide +kernel
theorem dX1_init_135 : decode cX1_init 135 = .ok (.iconst 1, 1) := by decide +kernel
theorem dX1_init_136 : decode cX1_init 136 = .ok (.invokevirtual 44, 3) := by decide +kernel
theorem dX1_init_139 : decode cX1_init 139 = .ok (.aload_n 0, 1) := by decide +kernel
theorem dX1_init_140 : decode cX1_init 140 = .ok (.iconst 4, 1) := by decide +kernel
theorem dX1_init_141 : decode cX1_init 141 = .ok (.iconst 4, 1) := by decide +kernel
theorem dX1_init_142 : decode cX1_init 142 = .ok (.iconst 4, 1) := by decide +kernel
theorem dX1_init_143 : decode cX1_init 143 = .ok (.invokevirtual 44, 3) := by decide +kernel
theorem dX1_init_146 : decode cX1_init 146 = .ok (.aload_n 0, 1) := by decide +kernel
theorem dX1_init_147 : decode cX1_init 147 = .ok (.iconst 5, 1) := by decide +kernel
theorem dX1_init_148 : decode cX1_init 148 = .ok (.iconst 2, 1) := by decide +kernel
theorem dX1_init_149 : decode cX1_init 149 = .ok (.iconst 2, 1) := by decide +kernel
theorem dX1_init_150 : decode cX1_init 150 = .ok (.invokevirtual 44, 3) := by decide +kernel
theorem dX1_init_153 : decode cX1_init 153 = .ok (.aload_n 0, 1) := by decide +kernel
theorem dX1_init_154 : decode cX1_init 154 = .ok (.bipush 6, 2) := by decide +kernel
theorem dX1_init_156 : decode cX1_init 156 = .ok (.iconst 1, 1) := by decide +kernel
theorem dX1_init_157 : decode cX1_init 157 = .ok (.iconst 2, 1) := by decide +kernel
theorem dX1_init_158 : decode cX1_init 158 = .ok (.invokevirtual 44, 3) := by decide +kernel
theorem dX1_init_161 : decode cX1_init 161 = .ok (.aload_n 0, 1) := by decide +kernel
theorem dX1_init_162 : decode cX1_init 162 = .ok (.bipush 7, 2) := by decide +kernel
theorem dX1_init_164 : decode cX1_init 164 = .ok (.iconst 0, 1) := by decide +kernel
theorem dX1_init_165 : decode cX1_init 165 = .ok (.iconst 2, 1) := by decide +kernel
theorem dX1_init_166 : decode cX1_init 166 = .ok (.invokevirtual 44, 3) := by decide +kernel
theorem dX1_init_169 : decode cX1_init 169 = .ok (.aload_n 0, 1) := by decide +kernel
theorem dX1_init_170 : decode cX1_init 170 = .ok (.bipush 8, 2) := by decide +kernel
theorem dX1_init_172 : decode cX1_init 172 = .ok (.iconst 3, 1) := by decide +kernel
theorem dX1_init_173 : decode cX1_init 173 = .ok (.iconst 3, 1) := by decide +kernel
theorem dX1_init_174 : decode cX1_init 174 = .ok (.invokevirtual 44, 3) := by decide +kernel
theorem dX1_init_177 : decode cX1_init 177 = .ok (.aload_n 0, 1) := by decide +kernel
theorem dX1_init_178 : decode cX1_init 178 = .ok (.bipush 9, 2) := by decide +kernel
theorem dX1_init_180 : decode cX1_init 180 = .ok (.iconst 2, 1) := by decide +kernel
theorem dX1_init_181 : decode cX1_init 181 = .ok (.iconst 3, 1) := by decide +kernel
theorem dX1_init_182 : decode cX1_init 182 = .ok (.invokevirtual 44, 3) := by decide +kernel
theorem dX1_init_185 : decode cX1_init 185 = .ok (.aload_n 0, 1) := by decide +kernel
theorem dX1_init_186 : decode cX1_init 186 = .ok (.bipush 10, 2) := by decide +kernel
theorem dX1_init_188 : decode cX1_init 188 = .ok (.iconst 1, 1) := by decide +kernel
theorem dX1_init_189 : decode cX1_init 189 = .ok (.iconst 3, 1) := by decide +kernel
theorem dX1_init_190 : decode cX1_init 190 = .ok (.invokevirtual 44, 3) := by decide +kernel
theorem dX1_init_193 : decode cX1_init 193 = .ok (.aload_n 0, 1) := by decide +kernel
theorem dX1_init_194 : decode cX1_init 194 = .ok (.bipush 11, 2) := by decide +kernel
theorem dX1_init_196 : decode cX1_init 196 = .ok (.iconst 0, 1) := by decide +kernel
theorem dX1_init_197 : decode cX1_init 197 = .ok (.iconst 3, 1) := by decide +kernel
theorem dX1_init_198 : decode cX1_init 198 = .ok (.invokevirtual 44, 3) := by decide +kernel
theorem dX1_init_201 : decode cX1_init 201 = .ok (.aload_n 0, 1) := by decide +kernel
theorem dX1_init_202 : decode cX1_init 202 = .ok (.bipush 12, 2) := by decide +kernel
theorem dX1_init_204 : decode cX1_init 204 = .ok (.iconst 3, 1) := by decide +kernel
theorem dX1_init_205 : decode cX1_init 205 = .ok (.iconst 4, 1) := by decide +kernel
theorem dX1_init_206 : decode cX1_init 206 = .ok (.invokevirtual 44, 3) := by decide +kernel
theorem dX1_init_209 : decode cX1_init 209 = .ok (.aload_n 0, 1) := by decide +kernel
theorem dX1_init_210 : decode cX1_init 210 = .ok (.bipush 13, 2) := by decide +kernel
theorem dX1_init_212 : decode cX1_init 212 = .ok (.iconst 2, 1) := by decide +kernel
theorem dX1_init_213 : decode cX1_init 213 = .ok (.iconst 4, 1) := by decide +kernel
theorem dX1_init_214 : decode cX1_init 214 = .ok (.invokevirtual 44, 3) := by decide +kernel
theorem dX1_init_217 : decode cX1_init 217 = .ok (.aload_n 0, 1) := by decide +kernel
theorem dX1_init_218 : decode cX1_init 218 = .ok (.bipush 14, 2) := by decide +kernel
theorem dX1_init_220 : decode cX1_init 220 = .ok (.iconst 1, 1) := by decide +kernel
theorem dX1_init_221 : decode cX1_init 221 = .ok (.iconst 4, 1) := by decide +kernel
theorem dX1_init_222 : decode cX1_init 222 = .ok (.invokevirtual 44, 3) := by decide +kernel
theorem dX1_init_225 : decode cX1_init 225 = .ok (.aload_n 0, 1) := by decide +kernel
theorem dX1_init_226 : decode cX1_init 226 = .ok (.bipush 15, 2) := by decide +kernel
theorem dX1_init_228 : decode cX1_init 228 = .ok (.iconst 0, 1) := by decide +kernel
theorem dX1_init_229 : decode cX1_init 229 = .ok (.iconst 4, 1) := by decide +kernel
theorem dX1_init_230 : decode cX1_init 230 = .ok (.invokevirtual 44, 3) := by decide +kernel
theorem dX1_init_233 : decode cX1_init 233 = .ok (.return_, 1) := by decide +kernel
theorem dX1_code_0 : decode cX1_code 0 = .ok (.aload_n 0, 1) := by decide +kernel
theorem dX1_code_1 : decode cX1_code 1 = .ok (.getfield 28, 3) := by decide +kernel
theorem dX1_code_4 : decode cX1_code 4 = .ok (.iload_n 1, 1) := by decide +kernel
theorem dX1_code_5 : decode cX1_code 5 = .ok (.iload_n 2, 1) := by decide +kernel
theorem dX1_code_6 : decode cX1_code 6 = .ok (.iastore, 1) := by decide +kernel
theorem dX1_code_7 : decode cX1_code 7 = .ok (.aload_n 0, 1) := by decide +kernel
theorem dX1_code_8 : decode cX1_code 8 = .ok (.getfield 31, 3) := by decide +kernel
theorem dX1_code_11 : decode cX1_code 11 = .ok (.iload_n 1, 1) := by decide +kernel
theorem dX1_code_12 : decode cX1_code 12 = .ok (.iload_n 3, 1) := by decide +kernel
theorem dX1_code_13 : decode cX1_code 13 = .ok (.iastore, 1) := by decide +kernel
theorem dX1_code_14 : decode cX1_code 14 = .ok (.return_, 1) := by decide +kernel
theorem dX1_isThere_0 : decode cX1_isThere 0 = .ok (.iload_n 1, 1) := by decide +kernel
theorem dX1_isThere_1 : decode cX1_isThere 1 = .ok (.ifCond .lt 15, 3) := by decide +kernel
theorem dX1_isThere_4 : decode cX1_isThere 4 = .ok (.iload_n 1, 1) := by decide +kernel
theorem dX1_isThere_5 : decode cX1_isThere 5 = .ok (.aload_n 0, 1) := by decide +kernel
theorem dX1_isThere_6 : decode cX1_isThere 6 = .ok (.getfield 41, 3) := by decide +kernel
theorem dX1_isThere_9 : decode cX1_isThere 9 = .ok (.if_icmp .ge 7, 3) := by decide +kernel
theorem dX1_isThere_12 : decode cX1_isThere 12 = .ok (.iconst 1, 1) := by decide +kernel
theorem dX1_isThere_13 : decode cX1_isThere 13 = .ok (.goto 4, 3) := by decide +kernel
theorem dX1_isThere_16 : decode cX1_isThere 16 = .ok (.iconst 0, 1) := by decide +kernel
theorem dX1_isThere_17 : decode cX1_isThere 17 = .ok (.ireturn, 1) := by decide +kernel
theorem dX1_areFour_0 : decode cX1_areFour 0 = .ok (.iload_n 1, 1) := by decide +kernel
theorem dX1_areFour_1 : decode cX1_areFour 1 = .ok (.ifCond .lt 17, 3) := by decide +kernel
theorem dX1_areFour_4 : decode cX1_areFour 4 = .ok (.iload_n 1, 1) := by decide +kernel
theorem dX1_areFour_5 : decode cX1_areFour 5 = .ok (.aload_n 0, 1) := by decide +kernel
theorem dX1_areFour_6 : decode cX1_areFour 6 = .ok (.getfield 41, 3) := by decide +kernel
theorem dX1_areFour_9 : decode cX1_areFour 9 = .ok (.iconst 4, 1) := by decide +kernel
theorem dX1_areFour_10 : decode cX1_areFour 10 = .ok (.isub, 1) := by decide +kernel
theorem dX1_areFour_11 : decode cX1_areFour 11 = .ok (.if_icmp .gt 7, 3) := by decide +kernel
theorem dX1_areFour_14 : decode cX1_areFour 14 = .ok (.iconst 1, 1) := by decide +kernel
theorem dX1_areFour_15 : decode cX1_areFour 15 = .ok (.goto 4, 3) := by decide +kernel
theorem dX1_areFour_18 : decode cX1_areFour 18 = .ok (.iconst 0, 1) := by decide +kernel
theorem dX1_areFour_19 : decode cX1_areFour 19 = .ok (.ireturn, 1) := by decide +kernel
theorem dX1_four_0 : decode cX1_four 0 = .ok (.aload_n 0, 1) := by decide +kernel
theorem dX1_four_1 : decode cX1_four 1 = .ok (.getfield 7, 3) := by decide +kernel
theorem dX1_four_4 : decode cX1_four 4 = .ok (.iload_n 1, 1) := by decide +kernel
theorem dX1_four_5 : decode cX1_four 5 = .ok (.iaload, 1) := by decide +kernel
theorem dX1_four_6 : decode cX1_four 6 = .ok (.aload_n 0, 1) := by decide +kernel
theorem dX1_four_7 : decode cX1_four 7 = .ok (.getfield 7, 3) := by decide +kernel
theorem dX1_four_10 : decode cX1_four 10 = .ok (.iload_n 1, 1) := by decide +kernel
theorem dX1_four_11 : decode cX1_four 11 = .ok (.iconst 1, 1) := by decide +kernel
theorem dX1_four_12 : decode cX1_four 12 = .ok (.iadd, 1) := by decide +kernel
theorem dX1_four_13 : decode cX1_four 13 = .ok (.iaload, 1) := by decide +kernel
theorem dX1_four_14 : decode cX1_four 14 = .ok (.bipush 8, 2) := by decide +kernel
theorem dX1_four_16 : decode cX1_four 16 = .ok (.ishl, 1) := by decide +kernel
theorem dX1_four_17 : decode cX1_four 17 = .ok (.ior, 1) := by decide +kernel
theorem dX1_four_18 : decode cX1_four 18 = .ok (.aload_n 0, 1) := by decide +kernel
theorem dX1_four_19 : decode cX1_four 19 = .ok (.getfield 7, 3) := by decide +kernel
theorem dX1_four_22 : decode cX1_four 22 = .ok (.iload_n 1, 1) := by decide +kernel
theorem dX1_four_23 : decode cX1_four 23 = .ok (.iconst 2, 1) := by decide +kernel
theorem dX1_four_24 : decode cX1_four 24 = .ok (.iadd, 1) := by decide +kernel
theorem dX1_four_25 : decode cX1_four 25 = .ok (.iaload, 1) := by decide +kernel
theorem dX1_four_26 : decode cX1_four 26 = .ok (.bipush 16, 2) := by decide +kernel
theorem dX1_four_28 : decode cX1_four 28 = .ok (.ishl, 1) := by decide +kernel
theorem dX1_four_29 : decode cX1_four 29 = .ok (.ior, 1) := by decide +kernel
theorem dX1_four_30 : decode cX1_four 30 = .ok (.aload_n 0, 1) := by decide +kernel
theorem dX1_four_31 : decode cX1_four 31 = .ok (.getfield 7, 3) := by decide +kernel
theorem dX1_four_34 : decode cX1_four 34 = .ok (.iload_n 1, 1) := by decide +kernel
theorem dX1_four_35 : decode cX1_four 35 = .ok (.iconst 3, 1) := by decide +kernel
theorem dX1_four_36 : decode cX1_four 36 = .ok (.iadd, 1) := by decide +kernel
theorem dX1_four_37 : decode cX1_four 37 = .ok (.iaload, 1) := by decide +kernel
theorem dX1_four_38 : decode cX1_four 38 = .ok (.bipush 24, 2) := by decide +kernel
theorem dX1_four_40 : decode cX1_four 40 = .ok (.ishl, 1) := by decide +kernel
theorem dX1_four_41 : decode cX1_four 41 = .ok (.ior, 1) := by decide +kernel
theorem dX1_four_42 : decode cX1_four 42 = .ok (.ireturn, 1) := by decide +kernel
theorem dX1_putFour_0 : decode cX1_putFour 0 = .ok (.iconst 0, 1) := by decide +kernel
theorem dX1_putFour_1 : decode cX1_putFour 1 = .ok (.istore_n 3, 1) := by decide +kernel
theorem dX1_putFour_2 : decode cX1_putFour 2 = .ok (.iload_n 3, 1) := by decide +kernel
theorem dX1_putFour_3 : decode cX1_putFour 3 = .ok (.iconst 4, 1) := by decide +kernel
theorem dX1_putFour_4 : decode cX1_putFour 4 = .ok (.if_icmp .ge 27, 3) := by decide +kernel
theorem dX1_putFour_7 : decode cX1_putFour 7 = .ok (.aload_n 0, 1) := by decide +kernel
theorem dX1_putFour_8 : decode cX1_putFour 8 = .ok (.getfield 7, 3) := by decide +kernel
theorem dX1_putFour_11 : decode cX1_putFour 11 = .ok (.iload_n 1, 1) := by decide +kernel
theorem dX1_putFour_12 : decode cX1_putFour 12 = .ok (.iload_n 3, 1) := by decide +kernel
theorem dX1_putFour_13 : decode cX1_putFour 13 = .ok (.iadd, 1) := by decide +kernel
theorem dX1_putFour_14 : decode cX1_putFour 14 = .ok (.iload_n 2, 1) := by decide +kernel
theorem dX1_putFour_15 : decode cX1_putFour 15 = .ok (.bipush 8, 2) := by decide +kernel
theorem dX1_putFour_17 : decode cX1_putFour 17 = .ok (.iload_n 3, 1) := by decide +kernel
theorem dX1_putFour_18 : decode cX1_putFour 18 = .ok (.imul, 1) := by decide +kernel
theorem dX1_putFour_19 : decode cX1_putFour 19 = .ok (.ishr, 1) := by decide +kernel
theorem dX1_putFour_20 : decode cX1_putFour 20 = .ok (.sipush 255, 3) := by decide +kernel
theorem dX1_putFour_23 : decode cX1_putFour 23 = .ok (.iand, 1) := by decide +kernel
theorem dX1_putFour_24 : decode cX1_putFour 24 = .ok (.iastore, 1) := by decide +kernel
theorem dX1_putFour_25 : decode cX1_putFour 25 = .ok (.iinc 3 1, 3) := by decide +kernel
theorem dX1_putFour_28 : decode cX1_putFour 28 = .ok (.goto (-26), 3) := by decide +kernel
theorem dX1_putFour_31 : decode cX1_putFour 31 = .ok (.return_, 1) := by decide +kernel
theorem dX1_put_0 : decode cX1_put 0 = .ok (.aload_n 0, 1) := by decide +kernel
theorem dX1_put_1 : decode cX1_put 1 = .ok (.iload_n 1, 1) := by decide +kernel
theorem dX1_put_2 : decode cX1_put 2 = .ok (.invokevirtual 48, 3) := by decide +kernel
theorem dX1_put_5 : decode cX1_put 5 = .ok (.ifCond .ne 5, 3) := by decide +kernel
theorem dX1_put_8 : decode cX1_put 8 = .ok (.iconst 0, 1) := by decide +kernel
theorem dX1_put_9 : decode cX1_put 9 = .ok (.ireturn, 1) := by decide +kernel
theorem dX1_put_10 : decode cX1_put 10 = .ok (.aload_n 0, 1) := by decide +kernel
theorem dX1_put_11 : decode cX1_put 11 = .ok (.getfield 7, 3) := by decide +kernel
theorem dX1_put_14 : decode cX1_put 14 = .ok (.iload_n 1, 1) := by decide +kernel
theorem dX1_put_15 : decode cX1_put 15 = .ok (.iload_n 2, 1) := by decide +kernel
theorem dX1_put_16 : decode cX1_put 16 = .ok (.sipush 255, 3) := by decide +kernel
theorem dX1_put_19 : decode cX1_put 19 = .ok (.iand, 1) := by decide +kernel
theorem dX1_put_20 : decode cX1_put 20 = .ok (.iastore, 1) := by decide +kernel
theorem dX1_put_21 : decode cX1_put 21 = .ok (.iconst 1, 1) := by decide +kernel
theorem dX1_put_22 : decode cX1_put 22 = .ok (.ireturn, 1) := by decide +kernel
theorem dX1_entry_0 : decode cX1_entry 0 = .ok (.aload_n 0, 1) := by decide +kernel
theorem dX1_entry_1 : decode cX1_entry 1 = .ok (.iload_n 1, 1) := by decide +kernel
theorem dX1_entry_2 : decode cX1_entry 2 = .ok (.invokevirtual 52, 3) := by decide +kernel
theorem dX1_entry_5 : decode cX1_entry 5 = .ok (.ifCond .ne 5, 3) := by decide +kernel
theorem dX1_entry_8 : decode cX1_entry 8 = .ok (.iconst 0, 1) := by decide +kernel
theorem dX1_entry_9 : decode cX1_entry 9 = .ok (.ireturn, 1) := by decide +kernel
theorem dX1_entry_10 : decode cX1_entry 10 = .ok (.aload_n 0, 1) := by decide +kernel
theorem dX1_entry_11 : decode cX1_entry 11 = .ok (.iload_n 1, 1) := by decide +kernel
theorem dX1_entry_12 : decode cX1_entry 12 = .ok (.iload_n 2, 1) := by decide +kernel
theorem dX1_entry_13 : decode cX1_entry 13 = .ok (.invokevirtual 55, 3) := by decide +kernel
theorem dX1_entry_16 : decode cX1_entry 16 = .ok (.iconst 1, 1) := by decide +kernel
theorem dX1_entry_17 : decode cX1_entry 17 = .ok (.ireturn, 1) := by decide +kernel
theorem dX1_entryOf_0 : decode cX1_entryOf 0 = .ok (.aload_n 0, 1) := by decide +kernel
theorem dX1_entryOf_1 : decode cX1_entryOf 1 = .ok (.iload_n 1, 1) := by decide +kernel
theorem dX1_entryOf_2 : decode cX1_entryOf 2 = .ok (.invokevirtual 52, 3) := by decide +kernel
theorem dX1_entryOf_5 : decode cX1_entryOf 5 = .ok (.ifCond .eq 16, 3) := by decide +kernel
theorem dX1_entryOf_8 : decode cX1_entryOf 8 = .ok (.aload_n 0, 1) := by decide +kernel
theorem dX1_entryOf_9 : decode cX1_entryOf 9 = .ok (.iload_n 1, 1) := by decide +kernel
theorem dX1_entryOf_10 : decode cX1_entryOf 10 = .ok (.invokevirtual 59, 3) := by decide +kernel
theorem dX1_entryOf_13 : decode cX1_entryOf 13 = .ok (.i2l, 1) := by decide +kernel
theorem dX1_entryOf_14 : decode cX1_entryOf 14 = .ok (.ldc2_w 63, 3) := by decide +kernel
theorem dX1_entryOf_17 : decode cX1_entryOf 17 = .ok (.land, 1) := by decide +kernel
theorem dX1_entryOf_18 : decode cX1_entryOf 18 = .ok (.goto 6, 3) := by decide +kernel
theorem dX1_entryOf_21 : decode cX1_entryOf 21 = .ok (.ldc2_w 65, 3) := by decide +kernel
theorem dX1_entryOf_24 : decode cX1_entryOf 24 = .ok (.lreturn, 1) := by decide +kernel
theorem dX1_forget_0 : decode cX1_forget 0 = .ok (.iload_n 1, 1) := by decide +kernel
theorem dX1_forget_1 : decode cX1_forget 1 = .ok (.istore_n 3, 1) := by decide +kernel
theorem dX1_forget_2 : decode cX1_forget 2 = .ok (.iload_n 3, 1) := by decide +kernel
theorem dX1_forget_3 : decode cX1_forget 3 = .ok (.iload_n 2, 1) := by decide +kernel
theorem dX1_forget_4 : decode cX1_forget 4 = .ok (.if_icmp .ge 16, 3) := by decide +kernel
theorem dX1_forget_7 : decode cX1_forget 7 = .ok (.aload_n 0, 1) := by decide +kernel
theorem dX1_forget_8 : decode cX1_forget 8 = .ok (.getfield 19, 3) := by decide +kernel
theorem dX1_forget_11 : decode cX1_forget 11 = .ok (.iload_n 3, 1) := by decide +kernel
theorem dX1_forget_12 : decode cX1_forget 12 = .ok (.iconst (-1), 1) := by decide +kernel
theorem dX1_forget_13 : decode cX1_forget 13 = .ok (.iastore, 1) := by decide +kernel
theorem dX1_forget_14 : decode cX1_forget 14 = .ok (.iinc 3 1, 3) := by decide +kernel
theorem dX1_forget_17 : decode cX1_forget 17 = .ok (.goto (-15), 3) := by decide +kernel
theorem dX1_forget_20 : decode cX1_forget 20 = .ok (.return_, 1) := by decide +kernel
theorem dX1_region_0 : decode cX1_region 0 = .ok (.iload_n 1, 1) := by decide +kernel
theorem dX1_region_1 : decode cX1_region 1 = .ok (.ifCond .lt 8, 3) := by decide +kernel
theorem dX1_region_4 : decode cX1_region 4 = .ok (.iload_n 1, 1) := by decide +kernel
theorem dX1_region_5 : decode cX1_region 5 = .ok (.iconst 3, 1) := by decide +kernel
theorem dX1_region_6 : decode cX1_region 6 = .ok (.if_icmp .lt 5, 3) := by decide +kernel
theorem dX1_region_9 : decode cX1_region 9 = .ok (.iconst 0, 1) := by decide +kernel
theorem dX1_region_10 : decode cX1_region 10 = .ok (.ireturn, 1) := by decide +kernel
theorem dX1_region_11 : decode cX1_region 11 = .ok (.aload_n 0, 1) := by decide +kernel
theorem dX1_region_12 : decode cX1_region 12 = .ok (.getfield 13, 3) := by decide +kernel
theorem dX1_region_15 : decode cX1_region 15 = .ok (.iload_n 1, 1) := by decide +kernel
theorem dX1_region_16 : decode cX1_region 16 = .ok (.iload_n 2, 1) := by decide +kernel
theorem dX1_region_17 : decode cX1_region 17 = .ok (.ldc 67, 2) := by decide +kernel
theorem dX1_region_19 : decode cX1_region 19 = .ok (.iand, 1) := by decide +kernel
theorem dX1_region_20 : decode cX1_region 20 = .ok (.iastore, 1) := by decide +kernel
theorem dX1_region_21 : decode cX1_region 21 = .ok (.aload_n 0, 1) := by decide +kernel
theorem dX1_region_22 : decode cX1_region 22 = .ok (.getfield 16, 3) := by decide +kernel
theorem dX1_region_25 : decode cX1_region 25 = .ok (.iload_n 1, 1) := by decide +kernel
theorem dX1_region_26 : decode cX1_region 26 = .ok (.iload_n 3, 1) := by decide +kernel
theorem dX1_region_27 : decode cX1_region 27 = .ok (.ldc 67, 2) := by decide +kernel
theorem dX1_region_29 : decode cX1_region 29 = .ok (.iand, 1) := by decide +kernel
theorem dX1_region_30 : decode cX1_region 30 = .ok (.iastore, 1) := by decide +kernel
theorem dX1_region_31 : decode cX1_region 31 = .ok (.aload_n 0, 1) := by decide +kernel
theorem dX1_region_32 : decode cX1_region 32 = .ok (.iconst 0, 1) := by decide +kernel
theorem dX1_region_33 : decode cX1_region 33 = .ok (.iload_n 1, 1) := by decide +kernel
theorem dX1_region_34 : decode cX1_region 34 = .ok (.iconst 2, 1) := by decide +kernel
theorem dX1_region_35 : decode cX1_region 35 = .ok (.if_icmp .ne 8, 3) := by decide +kernel
theorem dX1_region_38 : decode cX1_region 38 = .ok (.bipush 16, 2) := by decide +kernel
theorem dX1_region_40 : decode cX1_region 40 = .ok (.goto 5, 3) := by decide +kernel
theorem dX1_region_43 : decode cX1_region 43 = .ok (.bipush 8, 2) := by decide +kernel
theorem dX1_region_45 : decode cX1_region 45 = .ok (.invokevirtual 68, 3) := by decide +kernel
theorem dX1_region_48 : decode cX1_region 48 = .ok (.iconst 1, 1) := by decide +kernel
theorem dX1_region_49 : decode cX1_region 49 = .ok (.ireturn, 1) := by decide +kernel
theorem dX1_map_0 : decode cX1_map 0 = .ok (.aload_n 0, 1) := by decide +kernel
theorem dX1_map_1 : decode cX1_map 1 = .ok (.iload_n 1, 1) := by decide +kernel
theorem dX1_map_2 : decode cX1_map 2 = .ok (.putfield 71, 3) := by decide +kernel
theorem dX1_map_5 : decode cX1_map 5 = .ok (.aload_n 0, 1) := by decide +kernel
theorem dX1_map_6 : decode cX1_map 6 = .ok (.iconst 0, 1) := by decide +kernel
theorem dX1_map_7 : decode cX1_map 7 = .ok (.bipush 16, 2) := by decide +kernel
theorem dX1_map_9 : decode cX1_map 9 = .ok (.invokevirtual 68, 3) := by decide +kernel
theorem dX1_map_12 : decode cX1_map 12 = .ok (.return_, 1) := by decide +kernel
theorem dX1_regionOf_0 : decode cX1_regionOf 0 = .ok (.iload_n 0, 1) := by decide +kernel
theorem dX1_regionOf_1 : decode cX1_regionOf 1 = .ok (.bipush 14, 2) := by decide +kernel
theorem dX1_regionOf_3 : decode cX1_regionOf 3 = .ok (.ishr, 1) := by decide +kernel
theorem dX1_regionOf_4 : decode cX1_regionOf 4 = .ok (.iconst 3, 1) := by decide +kernel
theorem dX1_regionOf_5 : decode cX1_regionOf 5 = .ok (.iand, 1) := by decide +kernel
theorem dX1_regionOf_6 : decode cX1_regionOf 6 = .ok (.ireturn, 1) := by decide +kernel
theorem dX1_pageOf_0 : decode cX1_pageOf 0 = .ok (.iload_n 0, 1) := by decide +kernel
theorem dX1_pageOf_1 : decode cX1_pageOf 1 = .ok (.iconst 4, 1) := by decide +kernel
theorem dX1_pageOf_2 : decode cX1_pageOf 2 = .ok (.ishr, 1) := by decide +kernel
theorem dX1_pageOf_3 : decode cX1_pageOf 3 = .ok (.sipush 1023, 3) := by decide +kernel
theorem dX1_pageOf_6 : decode cX1_pageOf 6 = .ok (.iand, 1) := by decide +kernel
theorem dX1_pageOf_7 : decode cX1_pageOf 7 = .ok (.ireturn, 1) := by decide +kernel
theorem dX1_slot_0 : decode cX1_slot 0 = .ok (.iload_n 0, 1) := by decide +kernel
theorem dX1_slot_1 : decode cX1_slot 1 = .ok (.invokestatic 75, 3) := by decide +kernel
end
section
theorem dX1_slot_4 : decode cX1_slot 4 = .ok (.iconst 2, 1) := by decide +kernel
theorem dX1_slot_5 : decode cX1_slot 5 = .ok (.if_icmp .ne 8, 3) := by decide +kernel
theorem dX1_slot_8 : decode cX1_slot 8 = .ok (.bipush 8, 2) := by decide +kernel
theorem dX1_slot_10 : decode cX1_slot 10 = .ok (.goto 4, 3) := by decide +kernel
theorem dX1_slot_13 : decode cX1_slot 13 = .ok (.iconst 0, 1) := by decide +kernel
theorem dX1_slot_14 : decode cX1_slot 14 = .ok (.iload_n 0, 1) := by decide +kernel
theorem dX1_slot_15 : decode cX1_slot 15 = .ok (.invokestatic 78, 3) := by decide +kernel
theorem dX1_slot_18 : decode cX1_slot 18 = .ok (.bipush 8, 2) := by decide +kernel
theorem dX1_slot_20 : decode cX1_slot 20 = .ok (.irem, 1) := by decide +kernel
theorem dX1_slot_21 : decode cX1_slot 21 = .ok (.iadd, 1) := by decide +kernel
theorem dX1_slot_22 : decode cX1_slot 22 = .ok (.ireturn, 1) := by decide +kernel
theorem dX1_isKept_0 : decode cX1_isKept 0 = .ok (.aload_n 0, 1) := by decide +kernel
theorem dX1_isKept_1 : decode cX1_isKept 1 = .ok (.getfield 19, 3) := by decide +kernel
theorem dX1_isKept_4 : decode cX1_isKept 4 = .ok (.iload_n 1, 1) := by decide +kernel
theorem dX1_isKept_5 : decode cX1_isKept 5 = .ok (.invokestatic 81, 3) := by decide +kernel
theorem dX1_isKept_8 : decode cX1_isKept 8 = .ok (.iaload, 1) := by decide +kernel
theorem dX1_isKept_9 : decode cX1_isKept 9 = .ok (.iload_n 1, 1) := by decide +kernel
theorem dX1_isKept_10 : decode cX1_isKept 10 = .ok (.ldc 84, 2) := by decide +kernel
theorem dX1_isKept_12 : decode cX1_isKept 12 = .ok (.iand, 1) := by decide +kernel
theorem dX1_isKept_13 : decode cX1_isKept 13 = .ok (.if_icmp .ne 7, 3) := by decide +kernel
theorem dX1_isKept_16 : decode cX1_isKept 16 = .ok (.iconst 1, 1) := by decide +kernel
theorem dX1_isKept_17 : decode cX1_isKept 17 = .ok (.goto 4, 3) := by decide +kernel
theorem dX1_isKept_20 : decode cX1_isKept 20 = .ok (.iconst 0, 1) := by decide +kernel
theorem dX1_isKept_21 : decode cX1_isKept 21 = .ok (.ireturn, 1) := by decide +kernel
theorem dX1_keeps_0 : decode cX1_keeps 0 = .ok (.aload_n 0, 1) := by decide +kernel
theorem dX1_keeps_1 : decode cX1_keeps 1 = .ok (.getfield 19, 3) := by decide +kernel
theorem dX1_keeps_4 : decode cX1_keeps 4 = .ok (.iload_n 1, 1) := by decide +kernel
theorem dX1_keeps_5 : decode cX1_keeps 5 = .ok (.invokestatic 81, 3) := by decide +kernel
theorem dX1_keeps_8 : decode cX1_keeps 8 = .ok (.iload_n 1, 1) := by decide +kernel
theorem dX1_keeps_9 : decode cX1_keeps 9 = .ok (.ldc 84, 2) := by decide +kernel
theorem dX1_keeps_11 : decode cX1_keeps 11 = .ok (.iand, 1) := by decide +kernel
theorem dX1_keeps_12 : decode cX1_keeps 12 = .ok (.iastore, 1) := by decide +kernel
theorem dX1_keeps_13 : decode cX1_keeps 13 = .ok (.aload_n 0, 1) := by decide +kernel
theorem dX1_keeps_14 : decode cX1_keeps 14 = .ok (.getfield 22, 3) := by decide +kernel
theorem dX1_keeps_17 : decode cX1_keeps 17 = .ok (.iload_n 1, 1) := by decide +kernel
theorem dX1_keeps_18 : decode cX1_keeps 18 = .ok (.invokestatic 81, 3) := by decide +kernel
theorem dX1_keeps_21 : decode cX1_keeps 21 = .ok (.iload_n 2, 1) := by decide +kernel
theorem dX1_keeps_22 : decode cX1_keeps 22 = .ok (.iastore, 1) := by decide +kernel
theorem dX1_keeps_23 : decode cX1_keeps 23 = .ok (.aload_n 0, 1) := by decide +kernel
theorem dX1_keeps_24 : decode cX1_keeps 24 = .ok (.getfield 25, 3) := by decide +kernel
theorem dX1_keeps_27 : decode cX1_keeps 27 = .ok (.iload_n 1, 1) := by decide +kernel
theorem dX1_keeps_28 : decode cX1_keeps 28 = .ok (.invokestatic 81, 3) := by decide +kernel
theorem dX1_keeps_31 : decode cX1_keeps 31 = .ok (.iload_n 3, 1) := by decide +kernel
theorem dX1_keeps_32 : decode cX1_keeps 32 = .ok (.iastore, 1) := by decide +kernel
theorem dX1_keeps_33 : decode cX1_keeps 33 = .ok (.return_, 1) := by decide +kernel
theorem dX1_isInside_0 : decode cX1_isInside 0 = .ok (.iload_n 1, 1) := by decide +kernel
theorem dX1_isInside_1 : decode cX1_isInside 1 = .ok (.invokestatic 75, 3) := by decide +kernel
theorem dX1_isInside_4 : decode cX1_isInside 4 = .ok (.istore_n 2, 1) := by decide +kernel
theorem dX1_isInside_5 : decode cX1_isInside 5 = .ok (.iload_n 2, 1) := by decide +kernel
theorem dX1_isInside_6 : decode cX1_isInside 6 = .ok (.iconst 1, 1) := by decide +kernel
theorem dX1_isInside_7 : decode cX1_isInside 7 = .ok (.if_icmp .ne 22, 3) := by decide +kernel
theorem dX1_isInside_10 : decode cX1_isInside 10 = .ok (.iload_n 1, 1) := by decide +kernel
theorem dX1_isInside_11 : decode cX1_isInside 11 = .ok (.invokestatic 78, 3) := by decide +kernel
theorem dX1_isInside_14 : decode cX1_isInside 14 = .ok (.aload_n 0, 1) := by decide +kernel
theorem dX1_isInside_15 : decode cX1_isInside 15 = .ok (.getfield 16, 3) := by decide +kernel
theorem dX1_isInside_18 : decode cX1_isInside 18 = .ok (.iconst 1, 1) := by decide +kernel
theorem dX1_isInside_19 : decode cX1_isInside 19 = .ok (.iaload, 1) := by decide +kernel
theorem dX1_isInside_20 : decode cX1_isInside 20 = .ok (.if_icmp .lt 7, 3) := by decide +kernel
theorem dX1_isInside_23 : decode cX1_isInside 23 = .ok (.iconst 1, 1) := by decide +kernel
theorem dX1_isInside_24 : decode cX1_isInside 24 = .ok (.goto 4, 3) := by decide +kernel
theorem dX1_isInside_27 : decode cX1_isInside 27 = .ok (.iconst 0, 1) := by decide +kernel
theorem dX1_isInside_28 : decode cX1_isInside 28 = .ok (.ireturn, 1) := by decide +kernel
theorem dX1_isInside_29 : decode cX1_isInside 29 = .ok (.iload_n 2, 1) := by decide +kernel
theorem dX1_isInside_30 : decode cX1_isInside 30 = .ok (.iconst 3, 1) := by decide +kernel
theorem dX1_isInside_31 : decode cX1_isInside 31 = .ok (.if_icmp .eq 20, 3) := by decide +kernel
theorem dX1_isInside_34 : decode cX1_isInside 34 = .ok (.iload_n 1, 1) := by decide +kernel
theorem dX1_isInside_35 : decode cX1_isInside 35 = .ok (.invokestatic 78, 3) := by decide +kernel
theorem dX1_isInside_38 : decode cX1_isInside 38 = .ok (.aload_n 0, 1) := by decide +kernel
theorem dX1_isInside_39 : decode cX1_isInside 39 = .ok (.getfield 16, 3) := by decide +kernel
theorem dX1_isInside_42 : decode cX1_isInside 42 = .ok (.iload_n 2, 1) := by decide +kernel
theorem dX1_isInside_43 : decode cX1_isInside 43 = .ok (.iaload, 1) := by decide +kernel
theorem dX1_isInside_44 : decode cX1_isInside 44 = .ok (.if_icmp .ge 7, 3) := by decide +kernel
theorem dX1_isInside_47 : decode cX1_isInside 47 = .ok (.iconst 1, 1) := by decide +kernel
theorem dX1_isInside_48 : decode cX1_isInside 48 = .ok (.goto 4, 3) := by decide +kernel
theorem dX1_isInside_51 : decode cX1_isInside 51 = .ok (.iconst 0, 1) := by decide +kernel
theorem dX1_isInside_52 : decode cX1_isInside 52 = .ok (.ireturn, 1) := by decide +kernel
theorem dX1_drop_0 : decode cX1_drop 0 = .ok (.iload_n 1, 1) := by decide +kernel
theorem dX1_drop_1 : decode cX1_drop 1 = .ok (.ldc 67, 2) := by decide +kernel
theorem dX1_drop_3 : decode cX1_drop 3 = .ok (.iand, 1) := by decide +kernel
theorem dX1_drop_4 : decode cX1_drop 4 = .ok (.istore_n 2, 1) := by decide +kernel
theorem dX1_drop_5 : decode cX1_drop 5 = .ok (.aload_n 0, 1) := by decide +kernel
theorem dX1_drop_6 : decode cX1_drop 6 = .ok (.iload_n 2, 1) := by decide +kernel
theorem dX1_drop_7 : decode cX1_drop 7 = .ok (.invokevirtual 85, 3) := by decide +kernel
theorem dX1_drop_10 : decode cX1_drop 10 = .ok (.ifCond .ne 5, 3) := by decide +kernel
theorem dX1_drop_13 : decode cX1_drop 13 = .ok (.iconst 0, 1) := by decide +kernel
theorem dX1_drop_14 : decode cX1_drop 14 = .ok (.ireturn, 1) := by decide +kernel
theorem dX1_drop_15 : decode cX1_drop 15 = .ok (.aload_n 0, 1) := by decide +kernel
theorem dX1_drop_16 : decode cX1_drop 16 = .ok (.getfield 19, 3) := by decide +kernel
theorem dX1_drop_19 : decode cX1_drop 19 = .ok (.iload_n 2, 1) := by decide +kernel
theorem dX1_drop_20 : decode cX1_drop 20 = .ok (.invokestatic 81, 3) := by decide +kernel
theorem dX1_drop_23 : decode cX1_drop 23 = .ok (.iconst (-1), 1) := by decide +kernel
theorem dX1_drop_24 : decode cX1_drop 24 = .ok (.iastore, 1) := by decide +kernel
theorem dX1_drop_25 : decode cX1_drop 25 = .ok (.iconst 1, 1) := by decide +kernel
theorem dX1_drop_26 : decode cX1_drop 26 = .ok (.ireturn, 1) := by decide +kernel
theorem dX1_look_0 : decode cX1_look 0 = .ok (.aload_n 0, 1) := by decide +kernel
theorem dX1_look_1 : decode cX1_look 1 = .ok (.iload_n 1, 1) := by decide +kernel
theorem dX1_look_2 : decode cX1_look 2 = .ok (.invokevirtual 85, 3) := by decide +kernel
theorem dX1_look_5 : decode cX1_look 5 = .ok (.ifCond .eq 31, 3) := by decide +kernel
theorem dX1_look_8 : decode cX1_look 8 = .ok (.aload_n 0, 1) := by decide +kernel
theorem dX1_look_9 : decode cX1_look 9 = .ok (.aload_n 0, 1) := by decide +kernel
theorem dX1_look_10 : decode cX1_look 10 = .ok (.getfield 22, 3) := by decide +kernel
theorem dX1_look_13 : decode cX1_look 13 = .ok (.iload_n 1, 1) := by decide +kernel
theorem dX1_look_14 : decode cX1_look 14 = .ok (.invokestatic 81, 3) := by decide +kernel
theorem dX1_look_17 : decode cX1_look 17 = .ok (.iaload, 1) := by decide +kernel
theorem dX1_look_18 : decode cX1_look 18 = .ok (.putfield 88, 3) := by decide +kernel
theorem dX1_look_21 : decode cX1_look 21 = .ok (.aload_n 0, 1) := by decide +kernel
theorem dX1_look_22 : decode cX1_look 22 = .ok (.aload_n 0, 1) := by decide +kernel
theorem dX1_look_23 : decode cX1_look 23 = .ok (.getfield 25, 3) := by decide +kernel
theorem dX1_look_26 : decode cX1_look 26 = .ok (.iload_n 1, 1) := by decide +kernel
theorem dX1_look_27 : decode cX1_look 27 = .ok (.invokestatic 81, 3) := by decide +kernel
theorem dX1_look_30 : decode cX1_look 30 = .ok (.iaload, 1) := by decide +kernel
theorem dX1_look_31 : decode cX1_look 31 = .ok (.putfield 91, 3) := by decide +kernel
theorem dX1_look_34 : decode cX1_look 34 = .ok (.iconst 0, 1) := by decide +kernel
theorem dX1_look_35 : decode cX1_look 35 = .ok (.ireturn, 1) := by decide +kernel
theorem dX1_look_36 : decode cX1_look 36 = .ok (.aload_n 0, 1) := by decide +kernel
theorem dX1_look_37 : decode cX1_look 37 = .ok (.iload_n 1, 1) := by decide +kernel
theorem dX1_look_38 : decode cX1_look 38 = .ok (.invokevirtual 94, 3) := by decide +kernel
theorem dX1_look_41 : decode cX1_look 41 = .ok (.ifCond .ne 6, 3) := by decide +kernel
theorem dX1_look_44 : decode cX1_look 44 = .ok (.bipush (-2), 2) := by decide +kernel
theorem dX1_look_46 : decode cX1_look 46 = .ok (.ireturn, 1) := by decide +kernel
theorem dX1_look_47 : decode cX1_look 47 = .ok (.iload_n 1, 1) := by decide +kernel
theorem dX1_look_48 : decode cX1_look 48 = .ok (.invokestatic 75, 3) := by decide +kernel
theorem dX1_look_51 : decode cX1_look 51 = .ok (.istore_n 3, 1) := by decide +kernel
theorem dX1_look_52 : decode cX1_look 52 = .ok (.iload_n 3, 1) := by decide +kernel
theorem dX1_look_53 : decode cX1_look 53 = .ok (.iconst 2, 1) := by decide +kernel
theorem dX1_look_54 : decode cX1_look 54 = .ok (.if_icmp .ne 23, 3) := by decide +kernel
theorem dX1_look_57 : decode cX1_look 57 = .ok (.aload_n 0, 1) := by decide +kernel
theorem dX1_look_58 : decode cX1_look 58 = .ok (.aload_n 0, 1) := by decide +kernel
theorem dX1_look_59 : decode cX1_look 59 = .ok (.getfield 13, 3) := by decide +kernel
theorem dX1_look_62 : decode cX1_look 62 = .ok (.iconst 2, 1) := by decide +kernel
theorem dX1_look_63 : decode cX1_look 63 = .ok (.iaload, 1) := by decide +kernel
theorem dX1_look_64 : decode cX1_look 64 = .ok (.iconst 4, 1) := by decide +kernel
theorem dX1_look_65 : decode cX1_look 65 = .ok (.iload_n 1, 1) := by decide +kernel
theorem dX1_look_66 : decode cX1_look 66 = .ok (.invokestatic 78, 3) := by decide +kernel
theorem dX1_look_69 : decode cX1_look 69 = .ok (.imul, 1) := by decide +kernel
theorem dX1_look_70 : decode cX1_look 70 = .ok (.iadd, 1) := by decide +kernel
theorem dX1_look_71 : decode cX1_look 71 = .ok (.putfield 91, 3) := by decide +kernel
theorem dX1_look_74 : decode cX1_look 74 = .ok (.goto 143, 3) := by decide +kernel
theorem dX1_look_77 : decode cX1_look 77 = .ok (.aload_n 0, 1) := by decide +kernel
theorem dX1_look_78 : decode cX1_look 78 = .ok (.getfield 13, 3) := by decide +kernel
theorem dX1_look_81 : decode cX1_look 81 = .ok (.iload_n 3, 1) := by decide +kernel
theorem dX1_look_82 : decode cX1_look 82 = .ok (.iaload, 1) := by decide +kernel
theorem dX1_look_83 : decode cX1_look 83 = .ok (.iconst 4, 1) := by decide +kernel
theorem dX1_look_84 : decode cX1_look 84 = .ok (.iload_n 1, 1) := by decide +kernel
theorem dX1_look_85 : decode cX1_look 85 = .ok (.invokestatic 78, 3) := by decide +kernel
theorem dX1_look_88 : decode cX1_look 88 = .ok (.imul, 1) := by decide +kernel
theorem dX1_look_89 : decode cX1_look 89 = .ok (.iadd, 1) := by decide +kernel
theorem dX1_look_90 : decode cX1_look 90 = .ok (.ldc 67, 2) := by decide +kernel
theorem dX1_look_92 : decode cX1_look 92 = .ok (.iand, 1) := by decide +kernel
theorem dX1_look_93 : decode cX1_look 93 = .ok (.istore 4, 2) := by decide +kernel
theorem dX1_look_95 : decode cX1_look 95 = .ok (.iload 4, 2) := by decide +kernel
theorem dX1_look_97 : decode cX1_look 97 = .ok (.invokestatic 75, 3) := by decide +kernel
theorem dX1_look_100 : decode cX1_look 100 = .ok (.iconst 2, 1) := by decide +kernel
theorem dX1_look_101 : decode cX1_look 101 = .ok (.if_icmp .ne 12, 3) := by decide +kernel
theorem dX1_look_104 : decode cX1_look 104 = .ok (.aload_n 0, 1) := by decide +kernel
theorem dX1_look_105 : decode cX1_look 105 = .ok (.iload 4, 2) := by decide +kernel
theorem dX1_look_107 : decode cX1_look 107 = .ok (.invokevirtual 94, 3) := by decide +kernel
theorem dX1_look_110 : decode cX1_look 110 = .ok (.ifCond .ne 6, 3) := by decide +kernel
theorem dX1_look_113 : decode cX1_look 113 = .ok (.bipush (-4), 2) := by decide +kernel
theorem dX1_look_115 : decode cX1_look 115 = .ok (.ireturn, 1) := by decide +kernel
theorem dX1_look_116 : decode cX1_look 116 = .ok (.aload_n 0, 1) := by decide +kernel
theorem dX1_look_117 : decode cX1_look 117 = .ok (.iload 4, 2) := by decide +kernel
theorem dX1_look_119 : decode cX1_look 119 = .ok (.invokevirtual 85, 3) := by decide +kernel
theorem dX1_look_122 : decode cX1_look 122 = .ok (.ifCond .eq 18, 3) := by decide +kernel
theorem dX1_look_125 : decode cX1_look 125 = .ok (.aload_n 0, 1) := by decide +kernel
theorem dX1_look_126 : decode cX1_look 126 = .ok (.getfield 22, 3) := by decide +kernel
theorem dX1_look_129 : decode cX1_look 129 = .ok (.iload 4, 2) := by decide +kernel
theorem dX1_look_131 : decode cX1_look 131 = .ok (.invokestatic 81, 3) := by decide +kernel
theorem dX1_look_134 : decode cX1_look 134 = .ok (.iaload, 1) := by decide +kernel
theorem dX1_look_135 : decode cX1_look 135 = .ok (.istore 5, 2) := by decide +kernel
theorem dX1_look_137 : decode cX1_look 137 = .ok (.goto 61, 3) := by decide +kernel
theorem dX1_look_140 : decode cX1_look 140 = .ok (.aload_n 0, 1) := by decide +kernel
theorem dX1_look_141 : decode cX1_look 141 = .ok (.getfield 13, 3) := by decide +kernel
theorem dX1_look_144 : decode cX1_look 144 = .ok (.iconst 2, 1) := by decide +kernel
theorem dX1_look_145 : decode cX1_look 145 = .ok (.iaload, 1) := by decide +kernel
theorem dX1_look_146 : decode cX1_look 146 = .ok (.iconst 4, 1) := by decide +kernel
theorem dX1_look_147 : decode cX1_look 147 = .ok (.iload 4, 2) := by decide +kernel
theorem dX1_look_149 : decode cX1_look 149 = .ok (.invokestatic 78, 3) := by decide +kernel
theorem dX1_look_152 : decode cX1_look 152 = .ok (.imul, 1) := by decide +kernel
theorem dX1_look_153 : decode cX1_look 153 = .ok (.iadd, 1) := by decide +kernel
theorem dX1_look_154 : decode cX1_look 154 = .ok (.istore 6, 2) := by decide +kernel
theorem dX1_look_156 : decode cX1_look 156 = .ok (.aload_n 0, 1) := by decide +kernel
theorem dX1_look_157 : decode cX1_look 157 = .ok (.iload 6, 2) := by decide +kernel
theorem dX1_look_159 : decode cX1_look 159 = .ok (.invokevirtual 52, 3) := by decide +kernel
theorem dX1_look_162 : decode cX1_look 162 = .ok (.ifCond .ne 6, 3) := by decide +kernel
theorem dX1_look_165 : decode cX1_look 165 = .ok (.bipush (-100), 2) := by decide +kernel
theorem dX1_look_167 : decode cX1_look 167 = .ok (.ireturn, 1) := by decide +kernel
theorem dX1_look_168 : decode cX1_look 168 = .ok (.aload_n 0, 1) := by decide +kernel
theorem dX1_look_169 : decode cX1_look 169 = .ok (.iload 6, 2) := by decide +kernel
theorem dX1_look_171 : decode cX1_look 171 = .ok (.invokevirtual 59, 3) := by decide +kernel
theorem dX1_look_174 : decode cX1_look 174 = .ok (.istore 5, 2) := by decide +kernel
theorem dX1_look_176 : decode cX1_look 176 = .ok (.iload 5, 2) := by decide +kernel
theorem dX1_look_178 : decode cX1_look 178 = .ok (.ifCond .lt 6, 3) := by decide +kernel
theorem dX1_look_181 : decode cX1_look 181 = .ok (.bipush (-13), 2) := by decide +kernel
theorem dX1_look_183 : decode cX1_look 183 = .ok (.ireturn, 1) := by decide +kernel
theorem dX1_look_184 : decode cX1_look 184 = .ok (.iload_n 2, 1) := by decide +kernel
theorem dX1_look_185 : decode cX1_look 185 = .ok (.ifCond .eq 13, 3) := by decide +kernel
theorem dX1_look_188 : decode cX1_look 188 = .ok (.aload_n 0, 1) := by decide +kernel
theorem dX1_look_189 : decode cX1_look 189 = .ok (.iload 4, 2) := by decide +kernel
theorem dX1_look_191 : decode cX1_look 191 = .ok (.iload 5, 2) := by decide +kernel
theorem dX1_look_193 : decode cX1_look 193 = .ok (.iload 6, 2) := by decide +kernel
theorem dX1_look_195 : decode cX1_look 195 = .ok (.invokevirtual 97, 3) := by decide +kernel
theorem dX1_look_198 : decode cX1_look 198 = .ok (.aload_n 0, 1) := by decide +kernel
theorem dX1_look_199 : decode cX1_look 199 = .ok (.bipush 16, 2) := by decide +kernel
theorem dX1_look_201 : decode cX1_look 201 = .ok (.iload 5, 2) := by decide +kernel
theorem dX1_look_203 : decode cX1_look 203 = .ok (.sipush 4095, 3) := by decide +kernel
theorem dX1_look_206 : decode cX1_look 206 = .ok (.iand, 1) := by decide +kernel
theorem dX1_look_207 : decode cX1_look 207 = .ok (.imul, 1) := by decide +kernel
theorem dX1_look_208 : decode cX1_look 208 = .ok (.iload 4, 2) := by decide +kernel
theorem dX1_look_210 : decode cX1_look 210 = .ok (.bipush 16, 2) := by decide +kernel
theorem dX1_look_212 : decode cX1_look 212 = .ok (.irem, 1) := by decide +kernel
theorem dX1_look_213 : decode cX1_look 213 = .ok (.iadd, 1) := by decide +kernel
theorem dX1_look_214 : decode cX1_look 214 = .ok (.putfield 91, 3) := by decide +kernel
theorem dX1_look_217 : decode cX1_look 217 = .ok (.aload_n 0, 1) := by decide +kernel
theorem dX1_look_218 : decode cX1_look 218 = .ok (.aload_n 0, 1) := by decide +kernel
theorem dX1_look_219 : decode cX1_look 219 = .ok (.getfield 91, 3) := by decide +kernel
theorem dX1_look_222 : decode cX1_look 222 = .ok (.invokevirtual 52, 3) := by decide +kernel
theorem dX1_look_225 : decode cX1_look 225 = .ok (.ifCond .ne 6, 3) := by decide +kernel
theorem dX1_look_228 : decode cX1_look 228 = .ok (.bipush (-100), 2) := by decide +kernel
theorem dX1_look_230 : decode cX1_look 230 = .ok (.ireturn, 1) := by decide +kernel
theorem dX1_look_231 : decode cX1_look 231 = .ok (.aload_n 0, 1) := by decide +kernel
theorem dX1_look_232 : decode cX1_look 232 = .ok (.aload_n 0, 1) := by decide +kernel
theorem dX1_look_233 : decode cX1_look 233 = .ok (.aload_n 0, 1) := by decide +kernel
theorem dX1_look_234 : decode cX1_look 234 = .ok (.getfield 91, 3) := by decide +kernel
theorem dX1_look_237 : decode cX1_look 237 = .ok (.invokevirtual 59, 3) := by decide +kernel
theorem dX1_look_240 : decode cX1_look 240 = .ok (.putfield 88, 3) := by decide +kernel
theorem dX1_look_243 : decode cX1_look 243 = .ok (.iconst 0, 1) := by decide +kernel
theorem dX1_look_244 : decode cX1_look 244 = .ok (.ireturn, 1) := by decide +kernel
theorem dX1_isRight_0 : decode cX1_isRight 0 = .ok (.aload_n 0, 1) := by decide +kernel
theorem dX1_isRight_1 : decode cX1_isRight 1 = .ok (.getfield 88, 3) := by decide +kernel
theorem dX1_isRight_4 : decode cX1_isRight 4 = .ok (.bipush 27, 2) := by decide +kernel
theorem dX1_isRight_6 : decode cX1_isRight 6 = .ok (.ishr, 1) := by decide +kernel
theorem dX1_isRight_7 : decode cX1_isRight 7 = .ok (.bipush 15, 2) := by decide +kernel
theorem dX1_isRight_9 : decode cX1_isRight 9 = .ok (.iand, 1) := by decide +kernel
theorem dX1_isRight_10 : decode cX1_isRight 10 = .ok (.istore_n 3, 1) := by decide +kernel
theorem dX1_isRight_11 : decode cX1_isRight 11 = .ok (.iload_n 1, 1) := by decide +kernel
theorem dX1_isRight_12 : decode cX1_isRight 12 = .ok (.iload_n 2, 1) := by decide +kernel
theorem dX1_isRight_13 : decode cX1_isRight 13 = .ok (.ifCond .eq 12, 3) := by decide +kernel
theorem dX1_isRight_16 : decode cX1_isRight 16 = .ok (.aload_n 0, 1) := by decide +kernel
theorem dX1_isRight_17 : decode cX1_isRight 17 = .ok (.getfield 28, 3) := by decide +kernel
theorem dX1_isRight_20 : decode cX1_isRight 20 = .ok (.iload_n 3, 1) := by decide +kernel
theorem dX1_isRight_21 : decode cX1_isRight 21 = .ok (.iaload, 1) := by decide +kernel
theorem dX1_isRight_22 : decode cX1_isRight 22 = .ok (.goto 9, 3) := by decide +kernel
theorem dX1_isRight_25 : decode cX1_isRight 25 = .ok (.aload_n 0, 1) := by decide +kernel
theorem dX1_isRight_26 : decode cX1_isRight 26 = .ok (.getfield 31, 3) := by decide +kernel
theorem dX1_isRight_29 : decode cX1_isRight 29 = .ok (.iload_n 3, 1) := by decide +kernel
theorem dX1_isRight_30 : decode cX1_isRight 30 = .ok (.iaload, 1) := by decide +kernel
theorem dX1_isRight_31 : decode cX1_isRight 31 = .ok (.if_icmp .ge 7, 3) := by decide +kernel
theorem dX1_isRight_34 : decode cX1_isRight 34 = .ok (.iconst 1, 1) := by decide +kernel
theorem dX1_isRight_35 : decode cX1_isRight 35 = .ok (.goto 4, 3) := by decide +kernel
theorem dX1_isRight_38 : decode cX1_isRight 38 = .ok (.iconst 0, 1) := by decide +kernel
theorem dX1_isRight_39 : decode cX1_isRight 39 = .ok (.ireturn, 1) := by decide +kernel
theorem dX1_translate_0 : decode cX1_translate 0 = .ok (.aload_n 0, 1) := by decide +kernel
theorem dX1_translate_1 : decode cX1_translate 1 = .ok (.getfield 71, 3) := by decide +kernel
theorem dX1_translate_4 : decode cX1_translate 4 = .ok (.ifCond .ne 5, 3) := by decide +kernel
theorem dX1_translate_7 : decode cX1_translate 7 = .ok (.iload_n 1, 1) := by decide +kernel
theorem dX1_translate_8 : decode cX1_translate 8 = .ok (.ireturn, 1) := by decide +kernel
theorem dX1_translate_9 : decode cX1_translate 9 = .ok (.iload_n 3, 1) := by decide +kernel
theorem dX1_translate_10 : decode cX1_translate 10 = .ok (.ifCond .eq 7, 3) := by decide +kernel
theorem dX1_translate_13 : decode cX1_translate 13 = .ok (.iconst 4, 1) := by decide +kernel
theorem dX1_translate_14 : decode cX1_translate 14 = .ok (.goto 4, 3) := by decide +kernel
theorem dX1_translate_17 : decode cX1_translate 17 = .ok (.iconst 0, 1) := by decide +kernel
theorem dX1_translate_18 : decode cX1_translate 18 = .ok (.istore 5, 2) := by decide +kernel
theorem dX1_translate_20 : decode cX1_translate 20 = .ok (.aload_n 0, 1) := by decide +kernel
theorem dX1_translate_21 : decode cX1_translate 21 = .ok (.iload_n 1, 1) := by decide +kernel
theorem dX1_translate_22 : decode cX1_translate 22 = .ok (.iload 4, 2) := by decide +kernel
theorem dX1_translate_24 : decode cX1_translate 24 = .ok (.invokevirtual 100, 3) := by decide +kernel
theorem dX1_translate_27 : decode cX1_translate 27 = .ok (.istore 6, 2) := by decide +kernel
theorem dX1_translate_29 : decode cX1_translate 29 = .ok (.iload 6, 2) := by decide +kernel
theorem dX1_translate_31 : decode cX1_translate 31 = .ok (.ifCond .ge 21, 3) := by decide +kernel
theorem dX1_translate_34 : decode cX1_translate 34 = .ok (.iload 6, 2) := by decide +kernel
theorem dX1_translate_36 : decode cX1_translate 36 = .ok (.bipush (-100), 2) := by decide +kernel
theorem dX1_translate_38 : decode cX1_translate 38 = .ok (.if_icmp .ne 8, 3) := by decide +kernel
theorem dX1_translate_41 : decode cX1_translate 41 = .ok (.bipush (-100), 2) := by decide +kernel
theorem dX1_translate_43 : decode cX1_translate 43 = .ok (.goto 8, 3) := by decide +kernel
theorem dX1_translate_46 : decode cX1_translate 46 = .ok (.iload 6, 2) := by decide +kernel
theorem dX1_translate_48 : decode cX1_translate 48 = .ok (.iload 5, 2) := by decide +kernel
theorem dX1_translate_50 : decode cX1_translate 50 = .ok (.isub, 1) := by decide +kernel
theorem dX1_translate_51 : decode cX1_translate 51 = .ok (.ireturn, 1) := by decide +kernel
theorem dX1_translate_52 : decode cX1_translate 52 = .ok (.aload_n 0, 1) := by decide +kernel
theorem dX1_translate_53 : decode cX1_translate 53 = .ok (.iload_n 2, 1) := by decide +kernel
theorem dX1_translate_54 : decode cX1_translate 54 = .ok (.iload_n 3, 1) := by decide +kernel
theorem dX1_translate_55 : decode cX1_translate 55 = .ok (.invokevirtual 104, 3) := by decide +kernel
theorem dX1_translate_58 : decode cX1_translate 58 = .ok (.ifCond .ne 8, 3) := by decide +kernel
theorem dX1_translate_61 : decode cX1_translate 61 = .ok (.iconst (-1), 1) := by decide +kernel
theorem dX1_translate_62 : decode cX1_translate 62 = .ok (.iload 5, 2) := by decide +kernel
theorem dX1_translate_64 : decode cX1_translate 64 = .ok (.isub, 1) := by decide +kernel
theorem dX1_translate_65 : decode cX1_translate 65 = .ok (.ireturn, 1) := by decide +kernel
theorem dX1_translate_66 : decode cX1_translate 66 = .ok (.aload_n 0, 1) := by decide +kernel
theorem dX1_translate_67 : decode cX1_translate 67 = .ok (.getfield 88, 3) := by decide +kernel
theorem dX1_translate_70 : decode cX1_translate 70 = .ok (.ifCond .lt 9, 3) := by decide +kernel
theorem dX1_translate_73 : decode cX1_translate 73 = .ok (.bipush (-11), 2) := by decide +kernel
theorem dX1_translate_75 : decode cX1_translate 75 = .ok (.iload 5, 2) := by decide +kernel
theorem dX1_translate_77 : decode cX1_translate 77 = .ok (.isub, 1) := by decide +kernel
theorem dX1_translate_78 : decode cX1_translate 78 = .ok (.ireturn, 1) := by decide +kernel
theorem dX1_translate_79 : decode cX1_translate 79 = .ok (.iload 4, 2) := by decide +kernel
theorem dX1_translate_81 : decode cX1_translate 81 = .ok (.ifCond .eq 49, 3) := by decide +kernel
theorem dX1_translate_84 : decode cX1_translate 84 = .ok (.iload_n 3, 1) := by decide +kernel
theorem dX1_translate_85 : decode cX1_translate 85 = .ok (.ifCond .eq 45, 3) := by decide +kernel
theorem dX1_translate_88 : decode cX1_translate 88 = .ok (.aload_n 0, 1) := by decide +kernel
theorem dX1_translate_89 : decode cX1_translate 89 = .ok (.getfield 88, 3) := by decide +kernel
theorem dX1_translate_92 : decode cX1_translate 92 = .ok (.bipush 26, 2) := by decide +kernel
theorem dX1_translate_94 : decode cX1_translate 94 = .ok (.ishr, 1) := by decide +kernel
theorem dX1_translate_95 : decode cX1_translate 95 = .ok (.iconst 1, 1) := by decide +kernel
theorem dX1_translate_96 : decode cX1_translate 96 = .ok (.iand, 1) := by decide +kernel
theorem dX1_translate_97 : decode cX1_translate 97 = .ok (.ifCond .ne 33, 3) := by decide +kernel
theorem dX1_translate_100 : decode cX1_translate 100 = .ok (.aload_n 0, 1) := by decide +kernel
theorem dX1_translate_101 : decode cX1_translate 101 = .ok (.aload_n 0, 1) := by decide +kernel
theorem dX1_translate_102 : decode cX1_translate 102 = .ok (.getfield 88, 3) := by decide +kernel
theorem dX1_translate_105 : decode cX1_translate 105 = .ok (.ldc 108, 2) := by decide +kernel
theorem dX1_translate_107 : decode cX1_translate 107 = .ok (.ior, 1) := by decide +kernel
theorem dX1_translate_108 : decode cX1_translate 108 = .ok (.putfield 88, 3) := by decide +kernel
theorem dX1_translate_111 : decode cX1_translate 111 = .ok (.aload_n 0, 1) := by decide +kernel
theorem dX1_translate_112 : decode cX1_translate 112 = .ok (.aload_n 0, 1) := by decide +kernel
theorem dX1_translate_113 : decode cX1_translate 113 = .ok (.getfield 91, 3) := by decide +kernel
theorem dX1_translate_116 : decode cX1_translate 116 = .ok (.aload_n 0, 1) := by decide +kernel
theorem dX1_translate_117 : decode cX1_translate 117 = .ok (.aload_n 0, 1) := by decide +kernel
theorem dX1_translate_118 : decode cX1_translate 118 = .ok (.getfield 91, 3) := by decide +kernel
theorem dX1_translate_121 : decode cX1_translate 121 = .ok (.invokevirtual 59, 3) := by decide +kernel
theorem dX1_translate_124 : decode cX1_translate 124 = .ok (.ldc 108, 2) := by decide +kernel
theorem dX1_translate_126 : decode cX1_translate 126 = .ok (.ior, 1) := by decide +kernel
theorem dX1_translate_127 : decode cX1_translate 127 = .ok (.invokevirtual 55, 3) := by decide +kernel
theorem dX1_translate_130 : decode cX1_translate 130 = .ok (.iload 4, 2) := by decide +kernel
theorem dX1_translate_132 : decode cX1_translate 132 = .ok (.ifCond .eq 16, 3) := by decide +kernel
theorem dX1_translate_135 : decode cX1_translate 135 = .ok (.aload_n 0, 1) := by decide +kernel
theorem dX1_translate_136 : decode cX1_translate 136 = .ok (.iload_n 1, 1) := by decide +kernel
theorem dX1_translate_137 : decode cX1_translate 137 = .ok (.aload_n 0, 1) := by decide +kernel
theorem dX1_translate_138 : decode cX1_translate 138 = .ok (.getfield 88, 3) := by decide +kernel
theorem dX1_translate_141 : decode cX1_translate 141 = .ok (.aload_n 0, 1) := by decide +kernel
theorem dX1_translate_142 : decode cX1_translate 142 = .ok (.getfield 91, 3) := by decide +kernel
end
section
theorem dX1_translate_145 : decode cX1_translate 145 = .ok (.invokevirtual 97, 3) := by decide +kernel
theorem dX1_translate_148 : decode cX1_translate 148 = .ok (.bipush 16, 2) := by decide +kernel
theorem dX1_translate_150 : decode cX1_translate 150 = .ok (.aload_n 0, 1) := by decide +kernel
theorem dX1_translate_151 : decode cX1_translate 151 = .ok (.getfield 88, 3) := by decide +kernel
theorem dX1_translate_154 : decode cX1_translate 154 = .ok (.sipush 4095, 3) := by decide +kernel
theorem dX1_translate_157 : decode cX1_translate 157 = .ok (.iand, 1) := by decide +kernel
theorem dX1_translate_158 : decode cX1_translate 158 = .ok (.imul, 1) := by decide +kernel
theorem dX1_translate_159 : decode cX1_translate 159 = .ok (.iload_n 1, 1) := by decide +kernel
theorem dX1_translate_160 : decode cX1_translate 160 = .ok (.bipush 16, 2) := by decide +kernel
theorem dX1_translate_162 : decode cX1_translate 162 = .ok (.irem, 1) := by decide +kernel
theorem dX1_translate_163 : decode cX1_translate 163 = .ok (.iadd, 1) := by decide +kernel
theorem dX1_translate_164 : decode cX1_translate 164 = .ok (.ireturn, 1) := by decide +kernel
theorem dX1_reach_0 : decode cX1_reach 0 = .ok (.iconst 0, 1) := by decide +kernel
theorem dX1_reach_1 : decode cX1_reach 1 = .ok (.istore 5, 2) := by decide +kernel
theorem dX1_reach_3 : decode cX1_reach 3 = .ok (.iload 5, 2) := by decide +kernel
theorem dX1_reach_5 : decode cX1_reach 5 = .ok (.iload_n 2, 1) := by decide +kernel
theorem dX1_reach_6 : decode cX1_reach 6 = .ok (.if_icmp .ge 96, 3) := by decide +kernel
theorem dX1_reach_9 : decode cX1_reach 9 = .ok (.iload_n 1, 1) := by decide +kernel
theorem dX1_reach_10 : decode cX1_reach 10 = .ok (.iload 5, 2) := by decide +kernel
theorem dX1_reach_12 : decode cX1_reach 12 = .ok (.iadd, 1) := by decide +kernel
theorem dX1_reach_13 : decode cX1_reach 13 = .ok (.ldc 67, 2) := by decide +kernel
theorem dX1_reach_15 : decode cX1_reach 15 = .ok (.iand, 1) := by decide +kernel
theorem dX1_reach_16 : decode cX1_reach 16 = .ok (.istore 6, 2) := by decide +kernel
theorem dX1_reach_18 : decode cX1_reach 18 = .ok (.iload 5, 2) := by decide +kernel
theorem dX1_reach_20 : decode cX1_reach 20 = .ok (.ifCond .eq 11, 3) := by decide +kernel
theorem dX1_reach_23 : decode cX1_reach 23 = .ok (.iload 6, 2) := by decide +kernel
theorem dX1_reach_25 : decode cX1_reach 25 = .ok (.bipush 16, 2) := by decide +kernel
theorem dX1_reach_27 : decode cX1_reach 27 = .ok (.irem, 1) := by decide +kernel
theorem dX1_reach_28 : decode cX1_reach 28 = .ok (.ifCond .ne 50, 3) := by decide +kernel
theorem dX1_reach_31 : decode cX1_reach 31 = .ok (.aload_n 0, 1) := by decide +kernel
theorem dX1_reach_32 : decode cX1_reach 32 = .ok (.iload 6, 2) := by decide +kernel
theorem dX1_reach_34 : decode cX1_reach 34 = .ok (.iload_n 3, 1) := by decide +kernel
theorem dX1_reach_35 : decode cX1_reach 35 = .ok (.iconst 3, 1) := by decide +kernel
theorem dX1_reach_36 : decode cX1_reach 36 = .ok (.iand, 1) := by decide +kernel
theorem dX1_reach_37 : decode cX1_reach 37 = .ok (.iload 4, 2) := by decide +kernel
theorem dX1_reach_39 : decode cX1_reach 39 = .ok (.iconst 1, 1) := by decide +kernel
theorem dX1_reach_40 : decode cX1_reach 40 = .ok (.invokevirtual 109, 3) := by decide +kernel
theorem dX1_reach_43 : decode cX1_reach 43 = .ok (.istore 7, 2) := by decide +kernel
theorem dX1_reach_45 : decode cX1_reach 45 = .ok (.iload 7, 2) := by decide +kernel
theorem dX1_reach_47 : decode cX1_reach 47 = .ok (.ifCond .ge 19, 3) := by decide +kernel
theorem dX1_reach_50 : decode cX1_reach 50 = .ok (.iload 7, 2) := by decide +kernel
theorem dX1_reach_52 : decode cX1_reach 52 = .ok (.bipush (-100), 2) := by decide +kernel
theorem dX1_reach_54 : decode cX1_reach 54 = .ok (.if_icmp .eq 9, 3) := by decide +kernel
theorem dX1_reach_57 : decode cX1_reach 57 = .ok (.aload_n 0, 1) := by decide +kernel
theorem dX1_reach_58 : decode cX1_reach 58 = .ok (.iload 6, 2) := by decide +kernel
theorem dX1_reach_60 : decode cX1_reach 60 = .ok (.putfield 37, 3) := by decide +kernel
theorem dX1_reach_63 : decode cX1_reach 63 = .ok (.iload 7, 2) := by decide +kernel
theorem dX1_reach_65 : decode cX1_reach 65 = .ok (.ireturn, 1) := by decide +kernel
theorem dX1_reach_66 : decode cX1_reach 66 = .ok (.aload_n 0, 1) := by decide +kernel
theorem dX1_reach_67 : decode cX1_reach 67 = .ok (.getfield 34, 3) := by decide +kernel
theorem dX1_reach_70 : decode cX1_reach 70 = .ok (.iload 5, 2) := by decide +kernel
theorem dX1_reach_72 : decode cX1_reach 72 = .ok (.iload 7, 2) := by decide +kernel
theorem dX1_reach_74 : decode cX1_reach 74 = .ok (.iastore, 1) := by decide +kernel
theorem dX1_reach_75 : decode cX1_reach 75 = .ok (.goto 21, 3) := by decide +kernel
theorem dX1_reach_78 : decode cX1_reach 78 = .ok (.aload_n 0, 1) := by decide +kernel
theorem dX1_reach_79 : decode cX1_reach 79 = .ok (.getfield 34, 3) := by decide +kernel
theorem dX1_reach_82 : decode cX1_reach 82 = .ok (.iload 5, 2) := by decide +kernel
theorem dX1_reach_84 : decode cX1_reach 84 = .ok (.aload_n 0, 1) := by decide +kernel
theorem dX1_reach_85 : decode cX1_reach 85 = .ok (.getfield 34, 3) := by decide +kernel
theorem dX1_reach_88 : decode cX1_reach 88 = .ok (.iload 5, 2) := by decide +kernel
theorem dX1_reach_90 : decode cX1_reach 90 = .ok (.iconst 1, 1) := by decide +kernel
theorem dX1_reach_91 : decode cX1_reach 91 = .ok (.isub, 1) := by decide +kernel
theorem dX1_reach_92 : decode cX1_reach 92 = .ok (.iaload, 1) := by decide +kernel
theorem dX1_reach_93 : decode cX1_reach 93 = .ok (.iconst 1, 1) := by decide +kernel
theorem dX1_reach_94 : decode cX1_reach 94 = .ok (.iadd, 1) := by decide +kernel
theorem dX1_reach_95 : decode cX1_reach 95 = .ok (.iastore, 1) := by decide +kernel
theorem dX1_reach_96 : decode cX1_reach 96 = .ok (.iinc 5 1, 3) := by decide +kernel
theorem dX1_reach_99 : decode cX1_reach 99 = .ok (.goto (-96), 3) := by decide +kernel
theorem dX1_reach_102 : decode cX1_reach 102 = .ok (.iconst 0, 1) := by decide +kernel
theorem dX1_reach_103 : decode cX1_reach 103 = .ok (.istore 5, 2) := by decide +kernel
theorem dX1_reach_105 : decode cX1_reach 105 = .ok (.iload 5, 2) := by decide +kernel
theorem dX1_reach_107 : decode cX1_reach 107 = .ok (.iload_n 2, 1) := by decide +kernel
theorem dX1_reach_108 : decode cX1_reach 108 = .ok (.if_icmp .ge 26, 3) := by decide +kernel
theorem dX1_reach_111 : decode cX1_reach 111 = .ok (.aload_n 0, 1) := by decide +kernel
theorem dX1_reach_112 : decode cX1_reach 112 = .ok (.aload_n 0, 1) := by decide +kernel
theorem dX1_reach_113 : decode cX1_reach 113 = .ok (.getfield 34, 3) := by decide +kernel
theorem dX1_reach_116 : decode cX1_reach 116 = .ok (.iload 5, 2) := by decide +kernel
theorem dX1_reach_118 : decode cX1_reach 118 = .ok (.iaload, 1) := by decide +kernel
theorem dX1_reach_119 : decode cX1_reach 119 = .ok (.invokevirtual 48, 3) := by decide +kernel
theorem dX1_reach_122 : decode cX1_reach 122 = .ok (.ifCond .ne 6, 3) := by decide +kernel
theorem dX1_reach_125 : decode cX1_reach 125 = .ok (.bipush (-100), 2) := by decide +kernel
theorem dX1_reach_127 : decode cX1_reach 127 = .ok (.ireturn, 1) := by decide +kernel
theorem dX1_reach_128 : decode cX1_reach 128 = .ok (.iinc 5 1, 3) := by decide +kernel
theorem dX1_reach_131 : decode cX1_reach 131 = .ok (.goto (-26), 3) := by decide +kernel
theorem dX1_reach_134 : decode cX1_reach 134 = .ok (.iconst 0, 1) := by decide +kernel
theorem dX1_reach_135 : decode cX1_reach 135 = .ok (.ireturn, 1) := by decide +kernel
theorem dX1_isSize_0 : decode cX1_isSize 0 = .ok (.iload_n 0, 1) := by decide +kernel
theorem dX1_isSize_1 : decode cX1_isSize 1 = .ok (.iconst 1, 1) := by decide +kernel
theorem dX1_isSize_2 : decode cX1_isSize 2 = .ok (.if_icmp .eq 13, 3) := by decide +kernel
theorem dX1_isSize_5 : decode cX1_isSize 5 = .ok (.iload_n 0, 1) := by decide +kernel
theorem dX1_isSize_6 : decode cX1_isSize 6 = .ok (.iconst 2, 1) := by decide +kernel
theorem dX1_isSize_7 : decode cX1_isSize 7 = .ok (.if_icmp .eq 8, 3) := by decide +kernel
theorem dX1_isSize_10 : decode cX1_isSize 10 = .ok (.iload_n 0, 1) := by decide +kernel
theorem dX1_isSize_11 : decode cX1_isSize 11 = .ok (.iconst 4, 1) := by decide +kernel
theorem dX1_isSize_12 : decode cX1_isSize 12 = .ok (.if_icmp .ne 7, 3) := by decide +kernel
theorem dX1_isSize_15 : decode cX1_isSize 15 = .ok (.iconst 1, 1) := by decide +kernel
theorem dX1_isSize_16 : decode cX1_isSize 16 = .ok (.goto 4, 3) := by decide +kernel
theorem dX1_isSize_19 : decode cX1_isSize 19 = .ok (.iconst 0, 1) := by decide +kernel
theorem dX1_isSize_20 : decode cX1_isSize 20 = .ok (.ireturn, 1) := by decide +kernel
theorem dX1_read_0 : decode cX1_read 0 = .ok (.iload_n 2, 1) := by decide +kernel
theorem dX1_read_1 : decode cX1_read 1 = .ok (.invokestatic 113, 3) := by decide +kernel
theorem dX1_read_4 : decode cX1_read 4 = .ok (.ifCond .ne 7, 3) := by decide +kernel
theorem dX1_read_7 : decode cX1_read 7 = .ok (.ldc2_w 116, 3) := by decide +kernel
theorem dX1_read_10 : decode cX1_read 10 = .ok (.lreturn, 1) := by decide +kernel
theorem dX1_read_11 : decode cX1_read 11 = .ok (.aload_n 0, 1) := by decide +kernel
theorem dX1_read_12 : decode cX1_read 12 = .ok (.iload_n 1, 1) := by decide +kernel
theorem dX1_read_13 : decode cX1_read 13 = .ok (.ldc 67, 2) := by decide +kernel
theorem dX1_read_15 : decode cX1_read 15 = .ok (.iand, 1) := by decide +kernel
theorem dX1_read_16 : decode cX1_read 16 = .ok (.iload_n 2, 1) := by decide +kernel
theorem dX1_read_17 : decode cX1_read 17 = .ok (.iload_n 3, 1) := by decide +kernel
theorem dX1_read_18 : decode cX1_read 18 = .ok (.iconst 0, 1) := by decide +kernel
theorem dX1_read_19 : decode cX1_read 19 = .ok (.invokevirtual 118, 3) := by decide +kernel
theorem dX1_read_22 : decode cX1_read 22 = .ok (.istore 4, 2) := by decide +kernel
theorem dX1_read_24 : decode cX1_read 24 = .ok (.iload 4, 2) := by decide +kernel
theorem dX1_read_26 : decode cX1_read 26 = .ok (.ifCond .ge 7, 3) := by decide +kernel
theorem dX1_read_29 : decode cX1_read 29 = .ok (.iload 4, 2) := by decide +kernel
theorem dX1_read_31 : decode cX1_read 31 = .ok (.i2l, 1) := by decide +kernel
theorem dX1_read_32 : decode cX1_read 32 = .ok (.lreturn, 1) := by decide +kernel
theorem dX1_read_33 : decode cX1_read 33 = .ok (.lconst 0, 1) := by decide +kernel
theorem dX1_read_34 : decode cX1_read 34 = .ok (.lstore 5, 2) := by decide +kernel
theorem dX1_read_36 : decode cX1_read 36 = .ok (.iload_n 2, 1) := by decide +kernel
theorem dX1_read_37 : decode cX1_read 37 = .ok (.iconst 1, 1) := by decide +kernel
theorem dX1_read_38 : decode cX1_read 38 = .ok (.isub, 1) := by decide +kernel
theorem dX1_read_39 : decode cX1_read 39 = .ok (.istore 7, 2) := by decide +kernel
theorem dX1_read_41 : decode cX1_read 41 = .ok (.iload 7, 2) := by decide +kernel
theorem dX1_read_43 : decode cX1_read 43 = .ok (.ifCond .lt 31, 3) := by decide +kernel
theorem dX1_read_46 : decode cX1_read 46 = .ok (.lload 5, 2) := by decide +kernel
theorem dX1_read_48 : decode cX1_read 48 = .ok (.ldc2_w 122, 3) := by decide +kernel
theorem dX1_read_51 : decode cX1_read 51 = .ok (.lmul, 1) := by decide +kernel
theorem dX1_read_52 : decode cX1_read 52 = .ok (.aload_n 0, 1) := by decide +kernel
theorem dX1_read_53 : decode cX1_read 53 = .ok (.getfield 7, 3) := by decide +kernel
theorem dX1_read_56 : decode cX1_read 56 = .ok (.aload_n 0, 1) := by decide +kernel
theorem dX1_read_57 : decode cX1_read 57 = .ok (.getfield 34, 3) := by decide +kernel
theorem dX1_read_60 : decode cX1_read 60 = .ok (.iload 7, 2) := by decide +kernel
theorem dX1_read_62 : decode cX1_read 62 = .ok (.iaload, 1) := by decide +kernel
theorem dX1_read_63 : decode cX1_read 63 = .ok (.iaload, 1) := by decide +kernel
theorem dX1_read_64 : decode cX1_read 64 = .ok (.i2l, 1) := by decide +kernel
theorem dX1_read_65 : decode cX1_read 65 = .ok (.ladd, 1) := by decide +kernel
theorem dX1_read_66 : decode cX1_read 66 = .ok (.lstore 5, 2) := by decide +kernel
theorem dX1_read_68 : decode cX1_read 68 = .ok (.iinc 7 (-1), 3) := by decide +kernel
theorem dX1_read_71 : decode cX1_read 71 = .ok (.goto (-30), 3) := by decide +kernel
theorem dX1_read_74 : decode cX1_read 74 = .ok (.lload 5, 2) := by decide +kernel
theorem dX1_read_76 : decode cX1_read 76 = .ok (.lreturn, 1) := by decide +kernel
theorem dX1_write_0 : decode cX1_write 0 = .ok (.iload_n 2, 1) := by decide +kernel
theorem dX1_write_1 : decode cX1_write 1 = .ok (.invokestatic 113, 3) := by decide +kernel
theorem dX1_write_4 : decode cX1_write 4 = .ok (.ifCond .ne 6, 3) := by decide +kernel
theorem dX1_write_7 : decode cX1_write 7 = .ok (.bipush (-101), 2) := by decide +kernel
theorem dX1_write_9 : decode cX1_write 9 = .ok (.ireturn, 1) := by decide +kernel
theorem dX1_write_10 : decode cX1_write 10 = .ok (.aload_n 0, 1) := by decide +kernel
theorem dX1_write_11 : decode cX1_write 11 = .ok (.iload_n 1, 1) := by decide +kernel
theorem dX1_write_12 : decode cX1_write 12 = .ok (.ldc 67, 2) := by decide +kernel
theorem dX1_write_14 : decode cX1_write 14 = .ok (.iand, 1) := by decide +kernel
theorem dX1_write_15 : decode cX1_write 15 = .ok (.iload_n 2, 1) := by decide +kernel
theorem dX1_write_16 : decode cX1_write 16 = .ok (.iload 4, 2) := by decide +kernel
theorem dX1_write_18 : decode cX1_write 18 = .ok (.iconst 1, 1) := by decide +kernel
theorem dX1_write_19 : decode cX1_write 19 = .ok (.invokevirtual 118, 3) := by decide +kernel
theorem dX1_write_22 : decode cX1_write 22 = .ok (.istore 5, 2) := by decide +kernel
theorem dX1_write_24 : decode cX1_write 24 = .ok (.iload 5, 2) := by decide +kernel
theorem dX1_write_26 : decode cX1_write 26 = .ok (.ifCond .ge 6, 3) := by decide +kernel
theorem dX1_write_29 : decode cX1_write 29 = .ok (.iload 5, 2) := by decide +kernel
theorem dX1_write_31 : decode cX1_write 31 = .ok (.ireturn, 1) := by decide +kernel
theorem dX1_write_32 : decode cX1_write 32 = .ok (.iconst 0, 1) := by decide +kernel
theorem dX1_write_33 : decode cX1_write 33 = .ok (.istore 6, 2) := by decide +kernel
theorem dX1_write_35 : decode cX1_write 35 = .ok (.iload 6, 2) := by decide +kernel
theorem dX1_write_37 : decode cX1_write 37 = .ok (.iload_n 2, 1) := by decide +kernel
theorem dX1_write_38 : decode cX1_write 38 = .ok (.if_icmp .ge 32, 3) := by decide +kernel
theorem dX1_write_41 : decode cX1_write 41 = .ok (.aload_n 0, 1) := by decide +kernel
theorem dX1_write_42 : decode cX1_write 42 = .ok (.getfield 7, 3) := by decide +kernel
theorem dX1_write_45 : decode cX1_write 45 = .ok (.aload_n 0, 1) := by decide +kernel
theorem dX1_write_46 : decode cX1_write 46 = .ok (.getfield 34, 3) := by decide +kernel
theorem dX1_write_49 : decode cX1_write 49 = .ok (.iload 6, 2) := by decide +kernel
theorem dX1_write_51 : decode cX1_write 51 = .ok (.iaload, 1) := by decide +kernel
theorem dX1_write_52 : decode cX1_write 52 = .ok (.iload_n 3, 1) := by decide +kernel
theorem dX1_write_53 : decode cX1_write 53 = .ok (.bipush 8, 2) := by decide +kernel
theorem dX1_write_55 : decode cX1_write 55 = .ok (.iload 6, 2) := by decide +kernel
theorem dX1_write_57 : decode cX1_write 57 = .ok (.imul, 1) := by decide +kernel
theorem dX1_write_58 : decode cX1_write 58 = .ok (.ishr, 1) := by decide +kernel
theorem dX1_write_59 : decode cX1_write 59 = .ok (.sipush 255, 3) := by decide +kernel
theorem dX1_write_62 : decode cX1_write 62 = .ok (.iand, 1) := by decide +kernel
theorem dX1_write_63 : decode cX1_write 63 = .ok (.iastore, 1) := by decide +kernel
theorem dX1_write_64 : decode cX1_write 64 = .ok (.iinc 6 1, 3) := by decide +kernel
theorem dX1_write_67 : decode cX1_write 67 = .ok (.goto (-32), 3) := by decide +kernel
theorem dX1_write_70 : decode cX1_write 70 = .ok (.iconst 0, 1) := by decide +kernel
theorem dX1_write_71 : decode cX1_write 71 = .ok (.ireturn, 1) := by decide +kernel
theorem dX1_where_0 : decode cX1_where 0 = .ok (.aload_n 0, 1) := by decide +kernel
theorem dX1_where_1 : decode cX1_where 1 = .ok (.iload_n 1, 1) := by decide +kernel
theorem dX1_where_2 : decode cX1_where 2 = .ok (.ldc 67, 2) := by decide +kernel
theorem dX1_where_4 : decode cX1_where 4 = .ok (.iand, 1) := by decide +kernel
theorem dX1_where_5 : decode cX1_where 5 = .ok (.iload_n 2, 1) := by decide +kernel
theorem dX1_where_6 : decode cX1_where 6 = .ok (.iconst 3, 1) := by decide +kernel
theorem dX1_where_7 : decode cX1_where 7 = .ok (.iand, 1) := by decide +kernel
theorem dX1_where_8 : decode cX1_where 8 = .ok (.iload_n 3, 1) := by decide +kernel
theorem dX1_where_9 : decode cX1_where 9 = .ok (.iconst 0, 1) := by decide +kernel
theorem dX1_where_10 : decode cX1_where 10 = .ok (.invokevirtual 109, 3) := by decide +kernel
theorem dX1_where_13 : decode cX1_where 13 = .ok (.istore 4, 2) := by decide +kernel
theorem dX1_where_15 : decode cX1_where 15 = .ok (.iload 4, 2) := by decide +kernel
theorem dX1_where_17 : decode cX1_where 17 = .ok (.ifCond .lt 17, 3) := by decide +kernel
theorem dX1_where_20 : decode cX1_where 20 = .ok (.aload_n 0, 1) := by decide +kernel
theorem dX1_where_21 : decode cX1_where 21 = .ok (.iload 4, 2) := by decide +kernel
theorem dX1_where_23 : decode cX1_where 23 = .ok (.invokevirtual 48, 3) := by decide +kernel
theorem dX1_where_26 : decode cX1_where 26 = .ok (.ifCond .ne 8, 3) := by decide +kernel
theorem dX1_where_29 : decode cX1_where 29 = .ok (.bipush (-100), 2) := by decide +kernel
theorem dX1_where_31 : decode cX1_where 31 = .ok (.goto 5, 3) := by decide +kernel
theorem dX1_where_34 : decode cX1_where 34 = .ok (.iload 4, 2) := by decide +kernel
theorem dX1_where_36 : decode cX1_where 36 = .ok (.ireturn, 1) := by decide +kernel
theorem dX1_may_0 : decode cX1_may 0 = .ok (.aload_n 0, 1) := by decide +kernel
theorem dX1_may_1 : decode cX1_may 1 = .ok (.getfield 71, 3) := by decide +kernel
theorem dX1_may_4 : decode cX1_may 4 = .ok (.ifCond .ne 5, 3) := by decide +kernel
theorem dX1_may_7 : decode cX1_may 7 = .ok (.iconst 1, 1) := by decide +kernel
theorem dX1_may_8 : decode cX1_may 8 = .ok (.ireturn, 1) := by decide +kernel
theorem dX1_may_9 : decode cX1_may 9 = .ok (.aload_n 0, 1) := by decide +kernel
theorem dX1_may_10 : decode cX1_may 10 = .ok (.iload_n 1, 1) := by decide +kernel
theorem dX1_may_11 : decode cX1_may 11 = .ok (.ldc 67, 2) := by decide +kernel
theorem dX1_may_13 : decode cX1_may 13 = .ok (.iand, 1) := by decide +kernel
theorem dX1_may_14 : decode cX1_may 14 = .ok (.iconst 0, 1) := by decide +kernel
theorem dX1_may_15 : decode cX1_may 15 = .ok (.invokevirtual 100, 3) := by decide +kernel
theorem dX1_may_18 : decode cX1_may 18 = .ok (.istore 4, 2) := by decide +kernel
theorem dX1_may_20 : decode cX1_may 20 = .ok (.iload 4, 2) := by decide +kernel
theorem dX1_may_22 : decode cX1_may 22 = .ok (.bipush (-100), 2) := by decide +kernel
theorem dX1_may_24 : decode cX1_may 24 = .ok (.if_icmp .ne 6, 3) := by decide +kernel
theorem dX1_may_27 : decode cX1_may 27 = .ok (.bipush (-100), 2) := by decide +kernel
theorem dX1_may_29 : decode cX1_may 29 = .ok (.ireturn, 1) := by decide +kernel
theorem dX1_may_30 : decode cX1_may 30 = .ok (.iload 4, 2) := by decide +kernel
theorem dX1_may_32 : decode cX1_may 32 = .ok (.bipush (-13), 2) := by decide +kernel
theorem dX1_may_34 : decode cX1_may 34 = .ok (.if_icmp .ne 17, 3) := by decide +kernel
theorem dX1_may_37 : decode cX1_may 37 = .ok (.iload_n 3, 1) := by decide +kernel
theorem dX1_may_38 : decode cX1_may 38 = .ok (.ifCond .eq 10, 3) := by decide +kernel
theorem dX1_may_41 : decode cX1_may 41 = .ok (.iload 4, 2) := by decide +kernel
theorem dX1_may_43 : decode cX1_may 43 = .ok (.iconst 4, 1) := by decide +kernel
theorem dX1_may_44 : decode cX1_may 44 = .ok (.isub, 1) := by decide +kernel
theorem dX1_may_45 : decode cX1_may 45 = .ok (.goto 5, 3) := by decide +kernel
theorem dX1_may_48 : decode cX1_may 48 = .ok (.iload 4, 2) := by decide +kernel
theorem dX1_may_50 : decode cX1_may 50 = .ok (.ireturn, 1) := by decide +kernel
theorem dX1_may_51 : decode cX1_may 51 = .ok (.iload 4, 2) := by decide +kernel
theorem dX1_may_53 : decode cX1_may 53 = .ok (.ifCond .ne 18, 3) := by decide +kernel
theorem dX1_may_56 : decode cX1_may 56 = .ok (.aload_n 0, 1) := by decide +kernel
theorem dX1_may_57 : decode cX1_may 57 = .ok (.iload_n 2, 1) := by decide +kernel
theorem dX1_may_58 : decode cX1_may 58 = .ok (.iconst 3, 1) := by decide +kernel
theorem dX1_may_59 : decode cX1_may 59 = .ok (.iand, 1) := by decide +kernel
theorem dX1_may_60 : decode cX1_may 60 = .ok (.iload_n 3, 1) := by decide +kernel
theorem dX1_may_61 : decode cX1_may 61 = .ok (.invokevirtual 104, 3) := by decide +kernel
theorem dX1_may_64 : decode cX1_may 64 = .ok (.ifCond .eq 7, 3) := by decide +kernel
theorem dX1_may_67 : decode cX1_may 67 = .ok (.iconst 1, 1) := by decide +kernel
theorem dX1_may_68 : decode cX1_may 68 = .ok (.goto 4, 3) := by decide +kernel
theorem dX1_may_71 : decode cX1_may 71 = .ok (.iconst 0, 1) := by decide +kernel
theorem dX1_may_72 : decode cX1_may 72 = .ok (.ireturn, 1) := by decide +kernel
theorem dX1_kept_0 : decode cX1_kept 0 = .ok (.iload_n 1, 1) := by decide +kernel
theorem dX1_kept_1 : decode cX1_kept 1 = .ok (.ifCond .lt 18, 3) := by decide +kernel
theorem dX1_kept_4 : decode cX1_kept 4 = .ok (.iload_n 1, 1) := by decide +kernel
theorem dX1_kept_5 : decode cX1_kept 5 = .ok (.bipush 16, 2) := by decide +kernel
theorem dX1_kept_7 : decode cX1_kept 7 = .ok (.if_icmp .ge 12, 3) := by decide +kernel
theorem dX1_kept_10 : decode cX1_kept 10 = .ok (.iload_n 2, 1) := by decide +kernel
theorem dX1_kept_11 : decode cX1_kept 11 = .ok (.ifCond .lt 8, 3) := by decide +kernel
theorem dX1_kept_14 : decode cX1_kept 14 = .ok (.iload_n 2, 1) := by decide +kernel
theorem dX1_kept_15 : decode cX1_kept 15 = .ok (.iconst 2, 1) := by decide +kernel
theorem dX1_kept_16 : decode cX1_kept 16 = .ok (.if_icmp .le 7, 3) := by decide +kernel
theorem dX1_kept_19 : decode cX1_kept 19 = .ok (.ldc2_w 65, 3) := by decide +kernel
theorem dX1_kept_22 : decode cX1_kept 22 = .ok (.lreturn, 1) := by decide +kernel
theorem dX1_kept_23 : decode cX1_kept 23 = .ok (.aload_n 0, 1) := by decide +kernel
theorem dX1_kept_24 : decode cX1_kept 24 = .ok (.getfield 19, 3) := by decide +kernel
theorem dX1_kept_27 : decode cX1_kept 27 = .ok (.iload_n 1, 1) := by decide +kernel
theorem dX1_kept_28 : decode cX1_kept 28 = .ok (.iaload, 1) := by decide +kernel
theorem dX1_kept_29 : decode cX1_kept 29 = .ok (.ifCond .lt 7, 3) := by decide +kernel
theorem dX1_kept_32 : decode cX1_kept 32 = .ok (.iconst 1, 1) := by decide +kernel
theorem dX1_kept_33 : decode cX1_kept 33 = .ok (.goto 4, 3) := by decide +kernel
theorem dX1_kept_36 : decode cX1_kept 36 = .ok (.iconst 0, 1) := by decide +kernel
theorem dX1_kept_37 : decode cX1_kept 37 = .ok (.istore_n 3, 1) := by decide +kernel
theorem dX1_kept_38 : decode cX1_kept 38 = .ok (.iload_n 2, 1) := by decide +kernel
theorem dX1_kept_39 : decode cX1_kept 39 = .ok (.ifCond .ne 13, 3) := by decide +kernel
theorem dX1_kept_42 : decode cX1_kept 42 = .ok (.iload_n 3, 1) := by decide +kernel
theorem dX1_kept_43 : decode cX1_kept 43 = .ok (.ifCond .eq 7, 3) := by decide +kernel
theorem dX1_kept_46 : decode cX1_kept 46 = .ok (.lconst 1, 1) := by decide +kernel
theorem dX1_kept_47 : decode cX1_kept 47 = .ok (.goto 4, 3) := by decide +kernel
theorem dX1_kept_50 : decode cX1_kept 50 = .ok (.lconst 0, 1) := by decide +kernel
theorem dX1_kept_51 : decode cX1_kept 51 = .ok (.lreturn, 1) := by decide +kernel
theorem dX1_kept_52 : decode cX1_kept 52 = .ok (.iload_n 3, 1) := by decide +kernel
theorem dX1_kept_53 : decode cX1_kept 53 = .ok (.ifCond .ne 7, 3) := by decide +kernel
theorem dX1_kept_56 : decode cX1_kept 56 = .ok (.ldc2_w 65, 3) := by decide +kernel
theorem dX1_kept_59 : decode cX1_kept 59 = .ok (.lreturn, 1) := by decide +kernel
theorem dX1_kept_60 : decode cX1_kept 60 = .ok (.iload_n 2, 1) := by decide +kernel
theorem dX1_kept_61 : decode cX1_kept 61 = .ok (.iconst 1, 1) := by decide +kernel
theorem dX1_kept_62 : decode cX1_kept 62 = .ok (.if_icmp .ne 13, 3) := by decide +kernel
theorem dX1_kept_65 : decode cX1_kept 65 = .ok (.aload_n 0, 1) := by decide +kernel
theorem dX1_kept_66 : decode cX1_kept 66 = .ok (.getfield 19, 3) := by decide +kernel
theorem dX1_kept_69 : decode cX1_kept 69 = .ok (.iload_n 1, 1) := by decide +kernel
theorem dX1_kept_70 : decode cX1_kept 70 = .ok (.iaload, 1) := by decide +kernel
theorem dX1_kept_71 : decode cX1_kept 71 = .ok (.i2l, 1) := by decide +kernel
theorem dX1_kept_72 : decode cX1_kept 72 = .ok (.goto 14, 3) := by decide +kernel
theorem dX1_kept_75 : decode cX1_kept 75 = .ok (.aload_n 0, 1) := by decide +kernel
theorem dX1_kept_76 : decode cX1_kept 76 = .ok (.getfield 22, 3) := by decide +kernel
theorem dX1_kept_79 : decode cX1_kept 79 = .ok (.iload_n 1, 1) := by decide +kernel
theorem dX1_kept_80 : decode cX1_kept 80 = .ok (.iaload, 1) := by decide +kernel
theorem dX1_kept_81 : decode cX1_kept 81 = .ok (.i2l, 1) := by decide +kernel
theorem dX1_kept_82 : decode cX1_kept 82 = .ok (.ldc2_w 63, 3) := by decide +kernel
theorem dX1_kept_85 : decode cX1_kept 85 = .ok (.land, 1) := by decide +kernel
theorem dX1_kept_86 : decode cX1_kept 86 = .ok (.lreturn, 1) := by decide +kernel
theorem dX1_failed_0 : decode cX1_failed 0 = .ok (.aload_n 0, 1) := by decide +kernel
theorem dX1_failed_1 : decode cX1_failed 1 = .ok (.getfield 37, 3) := by decide +kernel
theorem dX1_failed_4 : decode cX1_failed 4 = .ok (.ireturn, 1) := by decide +kernel
end
section
theorem it_c {α : Type} {c : Prop} [Decidable c] {a b x : α} (e : (if c then a else b) = x) : (c ∧ a = x) ∨ (¬ c ∧ b = x) := by
  by_cases h : c
  · rw [if_pos h] at e; exact Or.inl ⟨h, e⟩
  · rw [if_neg h] at e; exact Or.inr ⟨h, e⟩
theorem kv_c {β γ : Type} {t : β} {k : β → γ} {x : γ} (e : kv t k = x) : ∃ w, t = w ∧ k w = x := ⟨t, rfl, e⟩
theorem kb_c {α β γ : Type} {t : α × β} {k : α → β → γ} {x : γ} (e : kb t k = x) : ∃ r w, t = (r, w) ∧ k r w = x := ⟨t.1, t.2, rfl, e⟩
-- words for the state of the reference
abbrev MS : Type := (Nat → Int32) × (Nat → Int32) × (Nat → Int32) × (Nat → Int32) × (Nat → Int32) × (Nat → Int32) × (Nat → Int32) × (Nat → Int32) × (Nat → Int32) × Int32 × Int32 × Int32 × Int32
def m_mem (σ : MS) : Nat → Int32 := σ.1
def m_bas (σ : MS) : Nat → Int32 := σ.2.1
def m_len (σ : MS) : Nat → Int32 := σ.2.2.1
def m_pg (σ : MS) : Nat → Int32 := σ.2.2.2.1
def m_en (σ : MS) : Nat → Int32 := σ.2.2.2.2.1
def m_pc (σ : MS) : Nat → Int32 := σ.2.2.2.2.2.1
def m_wr (σ : MS) : Nat → Int32 := σ.2.2.2.2.2.2.1
def m_rd (σ : MS) : Nat → Int32 := σ.2.2.2.2.2.2.2.1
def m_li (σ : MS) : Nat → Int32 := σ.2.2.2.2.2.2.2.2.1
def m_on (σ : MS) : Int32 := σ.2.2.2.2.2.2.2.2.2.1
def m_fa (σ : MS) : Int32 := σ.2.2.2.2.2.2.2.2.2.2.1
def m_lk (σ : MS) : Int32 := σ.2.2.2.2.2.2.2.2.2.2.2.1
def m_ad (σ : MS) : Int32 := σ.2.2.2.2.2.2.2.2.2.2.2.2
def m_sMem (σ : MS) (f : Nat → Int32) : MS := (f, m_bas σ, m_len σ, m_pg σ, m_en σ, m_pc σ, m_wr σ, m_rd σ, m_li σ, m_on σ, m_fa σ, m_lk σ, m_ad σ)
def m_sBas (σ : MS) (f : Nat → Int32) : MS := (m_mem σ, f, m_len σ, m_pg σ, m_en σ, m_pc σ, m_wr σ, m_rd σ, m_li σ, m_on σ, m_fa σ, m_lk σ, m_ad σ)
def m_sLen (σ : MS) (f : Nat → Int32) : MS := (m_mem σ, m_bas σ, f, m_pg σ, m_en σ, m_pc σ, m_wr σ, m_rd σ, m_li σ, m_on σ, m_fa σ, m_lk σ, m_ad σ)
def m_sPg (σ : MS) (f : Nat → Int32) : MS := (m_mem σ, m_bas σ, m_len σ, f, m_en σ, m_pc σ, m_wr σ, m_rd σ, m_li σ, m_on σ, m_fa σ, m_lk σ, m_ad σ)
def m_sEn (σ : MS) (f : Nat → Int32) : MS := (m_mem σ, m_bas σ, m_len σ, m_pg σ, f, m_pc σ, m_wr σ, m_rd σ, m_li σ, m_on σ, m_fa σ, m_lk σ, m_ad σ)
def m_sPc (σ : MS) (f : Nat → Int32) : MS := (m_mem σ, m_bas σ, m_len σ, m_pg σ, m_en σ, f, m_wr σ, m_rd σ, m_li σ, m_on σ, m_fa σ, m_lk σ, m_ad σ)
def m_sWr (σ : MS) (f : Nat → Int32) : MS := (m_mem σ, m_bas σ, m_len σ, m_pg σ, m_en σ, m_pc σ, f, m_rd σ, m_li σ, m_on σ, m_fa σ, m_lk σ, m_ad σ)
def m_sRd (σ : MS) (f : Nat → Int32) : MS := (m_mem σ, m_bas σ, m_len σ, m_pg σ, m_en σ, m_pc σ, m_wr σ, f, m_li σ, m_on σ, m_fa σ, m_lk σ, m_ad σ)
def m_sLi (σ : MS) (f : Nat → Int32) : MS := (m_mem σ, m_bas σ, m_len σ, m_pg σ, m_en σ, m_pc σ, m_wr σ, m_rd σ, f, m_on σ, m_fa σ, m_lk σ, m_ad σ)
def m_sOn (σ : MS) (f : Int32) : MS := (m_mem σ, m_bas σ, m_len σ, m_pg σ, m_en σ, m_pc σ, m_wr σ, m_rd σ, m_li σ, f, m_fa σ, m_lk σ, m_ad σ)
def m_sFa (σ : MS) (f : Int32) : MS := (m_mem σ, m_bas σ, m_len σ, m_pg σ, m_en σ, m_pc σ, m_wr σ, m_rd σ, m_li σ, m_on σ, f, m_lk σ, m_ad σ)
def m_sLk (σ : MS) (f : Int32) : MS := (m_mem σ, m_bas σ, m_len σ, m_pg σ, m_en σ, m_pc σ, m_wr σ, m_rd σ, m_li σ, m_on σ, m_fa σ, f, m_ad σ)
def m_sAd (σ : MS) (f : Int32) : MS := (m_mem σ, m_bas σ, m_len σ, m_pg σ, m_en σ, m_pc σ, m_wr σ, m_rd σ, m_li σ, m_on σ, m_fa σ, m_lk σ, f)
abbrev m_ws (h : Nat → Nat) (cI : ClassId) (n : Nat) (σ : MS) : va_W := [(h 0, .inr (1, [.ref (h 1), .int (nI n), .ref (h 2), .ref (h 3), .int (m_on σ), .ref (h 4), .ref (h 5), .ref (h 6), .ref (h 7), .ref (h 8), .ref (h 9), .int (m_fa σ), .int (m_lk σ), .int (m_ad σ)])), (h 1, .inl (cI, 2048, .inl (m_mem σ))), (h 2, .inl (cI, 3, .inl (m_bas σ))), (h 3, .inl (cI, 3, .inl (m_len σ))), (h 4, .inl (cI, 16, .inl (m_pg σ))), (h 5, .inl (cI, 16, .inl (m_en σ))), (h 6, .inl (cI, 16, .inl (m_pc σ))), (h 7, .inl (cI, 16, .inl (m_wr σ))), (h 8, .inl (cI, 16, .inl (m_rd σ))), (h 9, .inl (cI, 4, .inl (m_li σ)))]
abbrev m_tys (cI : ClassId) : List (ClassId × FieldType) := [(cI, .int)]
abbrev m_BP (dC : Nat → ClassId) (dI : Nat → Nat → Nat) (h : Nat → Nat) (cI : ClassId) (n : Nat) (σ : MS) : State → Prop := fun U => va_P (dC, dI) vwCl (m_ws h cI n σ) U.heap ∧ va_K (dC, dI) vwCl (m_tys cI) U
abbrev m_BM (dC : Nat → ClassId) (dI : Nat → Nat → Nat) (h : Nat → Nat) (cI : ClassId) (n : Nat) (sz : Nat) (σ : MS) : State → Prop := fun U => U.heap.size = sz ∧ va_P (dC, dI) vwCl (m_ws h cI n σ) U.heap ∧ va_K (dC, dI) vwCl (m_tys cI) U ∧ va_D (fun _ => True) (m_ws h cI n σ)
abbrev m_at (dC : Nat → ClassId) (dI : Nat → Nat → Nat) (h : Nat → Nat) (cI : ClassId) (n : Nat) (A : Nat → Prop) (σ : MS) (t : State) : Prop := va_P (dC, dI) vwCl (m_ws h cI n σ) t.heap ∧ va_K (dC, dI) vwCl (m_tys cI) t ∧ va_D A (m_ws h cI n σ)
section MW
variable {dC : Nat → ClassId} {dI : Nat → Nat → Nat} {h : Nat → Nat} {cI : ClassId} {n : Nat} {σ : MS} {s : State} {H : Heap} {As : List Value} {A : Nat → Prop} {locs : List Loc} 
theorem m_preP (hK : va_K (dC, dI) vwCl (m_tys cI) s) (hP : va_P (dC, dI) vwCl (m_ws h cI n σ) H) : PreV s H RX1 (h 0) (va_Pc (.ref (h 0) :: As) (m_BP dC dI h cI n σ)) As := ⟨fun a U g mk q => ⟨q.1, q.2.1, va_K.moved (u := U) (U := U.calling g mk a) (Vm.Alike.refl U.vm) q.2.2⟩, va_recv hK hP (ci := 1) (q0 := 0) rfl rfl, fun U hU hW => ⟨rfl, by rw [hU]; exact hP, va_K.moved hW.alike hK⟩⟩
theorem m_preM (hK : va_K (dC, dI) vwCl (m_tys cI) s) (hP : va_P (dC, dI) vwCl (m_ws h cI n σ) H) (hD : va_D A (m_ws h cI n σ)) : PreV s H RX1 (h 0) (va_Pc (.ref (h 0) :: As) (m_BM dC dI h cI n H.size σ)) As := ⟨fun a U g mk q => ⟨q.1, q.2.1, q.2.2.1, va_K.moved (u := U) (U := U.calling g mk a) (Vm.Alike.refl U.vm) q.2.2.2.1, q.2.2.2.2⟩, va_recv hK hP (ci := 1) (q0 := 0) rfl rfl, fun U hU hW => ⟨rfl, by rw [hU], by rw [hU]; exact hP, va_K.moved hW.alike hK, hD.weaken (fun _ _ _ _ => trivial)⟩⟩
variable {p : Program} {l : Launch} {e : Env} {R : Room} {m : MethodId} {args : Array Value} {below : List Frame} {meth : Method} {c : Code} {cells slots : Nat} {Q : State → Prop} {pc : Nat} {ls : Array Slot} {rest st0 : List Value} {a : Array Value}
theorem m_calli {f : Int32 × MS} (hr : va_Run p l e R s m args below meth c H locs cells slots 0 0 (F0 m pc ls st0) rest (va_Qi (fun (r : Int32) (u : MS) => f = (r, u)) (m_at dC dI h cI n (va_A (m_ws h cI n σ) H.size)) (va_A (m_ws h cI n σ) H.size) a) (va_A (m_ws h cI n σ) H.size)) (hP : va_P (dC, dI) vwCl (m_ws h cI n σ) H) (hD : va_D A (m_ws h cI n σ)) (hS : va_S A s.heap H locs) (hA : ∀ q : Nat, s.heap.size ≤ q → A q)
    (kk : ∀ (r : Int32) (u : MS) (H1 : Heap) (locs1 : List Loc), f = (r, u) → va_P (dC, dI) vwCl (m_ws h cI n u) H1 → va_D A (m_ws h cI n u) → va_S A s.heap H1 locs1 → W p l e R s m args below meth c H1 locs1 cells slots Q (F0 m (pc + 3) ls (.int r :: rest))) : W p l e R s m args below meth c H locs cells slots Q (F0 m pc ls st0) := by
  have hF := va_free (wc := m_ws h cI n σ) hD hS hA [0, 1, 2, 3, 4, 5, 6, 7, 8, 9] rfl
  refine va_calli hr hS (fun q _ z => hF q z) hF (fun r u t H1 locs ht hvm hw hB hz1 hk1 hS => ?_)
  obtain ⟨hP1, hK1, hD1⟩ := hB
  rw [ht] at hP1
  obtain ⟨hP2, hD2⟩ := va_join (wr := []) (w1 := m_ws h cI n u) hP hD [0, 1, 2, 3, 4, 5, 6, 7, 8, 9] [] rfl rfl (by decide) (by decide) hk1 hF hP1 hD1
  exact kk r u H1 locs hw hP2 hD2 hS
theorem m_calll {f : Int64 × MS} (hr : va_Run p l e R s m args below meth c H locs cells slots 0 0 (F0 m pc ls st0) rest (va_Ql (fun (r : Int64) (u : MS) => f = (r, u)) (m_at dC dI h cI n (va_A (m_ws h cI n σ) H.size)) (va_A (m_ws h cI n σ) H.size) a) (va_A (m_ws h cI n σ) H.size)) (hP : va_P (dC, dI) vwCl (m_ws h cI n σ) H) (hD : va_D A (m_ws h cI n σ)) (hS : va_S A s.heap H locs) (hA : ∀ q : Nat, s.heap.size ≤ q → A q)
    (kk : ∀ (r : Int64) (u : MS) (H1 : Heap) (locs1 : List Loc), f = (r, u) → va_P (dC, dI) vwCl (m_ws h cI n u) H1 → va_D A (m_ws h cI n u) → va_S A s.heap H1 locs1 → W p l e R s m args below meth c H1 locs1 cells slots Q (F0 m (pc + 3) ls (.long r :: rest))) : W p l e R s m args below meth c H locs cells slots Q (F0 m pc ls st0) := by
  have hF := va_free (wc := m_ws h cI n σ) hD hS hA [0, 1, 2, 3, 4, 5, 6, 7, 8, 9] rfl
  refine va_calll hr hS (fun q _ z => hF q z) hF (fun r u t H1 locs ht hvm hw hB hz1 hk1 hS => ?_)
  obtain ⟨hP1, hK1, hD1⟩ := hB
  rw [ht] at hP1
  obtain ⟨hP2, hD2⟩ := va_join (wr := []) (w1 := m_ws h cI n u) hP hD [0, 1, 2, 3, 4, 5, 6, 7, 8, 9] [] rfl rfl (by decide) (by decide) hk1 hF hP1 hD1
  exact kk r u H1 locs hw hP2 hD2 hS
theorem m_callv {f : MS} (hr : va_Run p l e R s m args below meth c H locs cells slots 0 0 (F0 m pc ls st0) rest (va_Qv (fun u : MS => f = u) (m_at dC dI h cI n (va_A (m_ws h cI n σ) H.size)) (va_A (m_ws h cI n σ) H.size) a) (va_A (m_ws h cI n σ) H.size)) (hP : va_P (dC, dI) vwCl (m_ws h cI n σ) H) (hD : va_D A (m_ws h cI n σ)) (hS : va_S A s.heap H locs) (hA : ∀ q : Nat, s.heap.size ≤ q → A q)
    (kk : ∀ (u : MS) (H1 : Heap) (locs1 : List Loc), f = u → va_P (dC, dI) vwCl (m_ws h cI n u) H1 → va_D A (m_ws h cI n u) → va_S A s.heap H1 locs1 → W p l e R s m args below meth c H1 locs1 cells slots Q (F0 m (pc + 3) ls rest)) : W p l e R s m args below meth c H locs cells slots Q (F0 m pc ls st0) := by
  have hF := va_free (wc := m_ws h cI n σ) hD hS hA [0, 1, 2, 3, 4, 5, 6, 7, 8, 9] rfl
  refine va_callv hr hS (fun q _ z => hF q z) hF (fun u t H1 locs ht hvm hw hB hz1 hk1 hS => ?_)
  obtain ⟨hP1, hK1, hD1⟩ := hB
  rw [ht] at hP1
  obtain ⟨hP2, hD2⟩ := va_join (wr := []) (w1 := m_ws h cI n u) hP hD [0, 1, 2, 3, 4, 5, 6, 7, 8, 9] [] rfl rfl (by decide) (by decide) hk1 hF hP1 hD1
  exact kk u H1 locs hw hP2 hD2 hS
end MW
section MR
variable {D : va_G} {h : Nat → Nat} {cI : ClassId} {n : Nat} {σ : MS} {H : Heap} {A : Nat → Prop}
theorem m_pMem {f : Nat → Int32} (hP : va_P D vwCl ((m_ws h cI n σ).set 1 (h 1, .inl (cI, 2048, .inl f))) H) : va_P D vwCl (m_ws h cI n (m_sMem σ f)) H := hP
theorem m_dMem {f : Nat → Int32} (hD : va_D A ((m_ws h cI n σ).set 1 (h 1, .inl (cI, 2048, .inl f)))) : va_D A (m_ws h cI n (m_sMem σ f)) := hD
theorem m_pBas {f : Nat → Int32} (hP : va_P D vwCl ((m_ws h cI n σ).set 2 (h 2, .inl (cI, 3, .inl f))) H) : va_P D vwCl (m_ws h cI n (m_sBas σ f)) H := hP
theorem m_dBas {f : Nat → Int32} (hD : va_D A ((m_ws h cI n σ).set 2 (h 2, .inl (cI, 3, .inl f)))) : va_D A (m_ws h cI n (m_sBas σ f)) := hD
theorem m_pLen {f : Nat → Int32} (hP : va_P D vwCl ((m_ws h cI n σ).set 3 (h 3, .inl (cI, 3, .inl f))) H) : va_P D vwCl (m_ws h cI n (m_sLen σ f)) H := hP
theorem m_dLen {f : Nat → Int32} (hD : va_D A ((m_ws h cI n σ).set 3 (h 3, .inl (cI, 3, .inl f)))) : va_D A (m_ws h cI n (m_sLen σ f)) := hD
theorem m_pPg {f : Nat → Int32} (hP : va_P D vwCl ((m_ws h cI n σ).set 4 (h 4, .inl (cI, 16, .inl f))) H) : va_P D vwCl (m_ws h cI n (m_sPg σ f)) H := hP
theorem m_dPg {f : Nat → Int32} (hD : va_D A ((m_ws h cI n σ).set 4 (h 4, .inl (cI, 16, .inl f)))) : va_D A (m_ws h cI n (m_sPg σ f)) := hD
theorem m_pEn {f : Nat → Int32} (hP : va_P D vwCl ((m_ws h cI n σ).set 5 (h 5, .inl (cI, 16, .inl f))) H) : va_P D vwCl (m_ws h cI n (m_sEn σ f)) H := hP
theorem m_dEn {f : Nat → Int32} (hD : va_D A ((m_ws h cI n σ).set 5 (h 5, .inl (cI, 16, .inl f)))) : va_D A (m_ws h cI n (m_sEn σ f)) := hD
theorem m_pPc {f : Nat → Int32} (hP : va_P D vwCl ((m_ws h cI n σ).set 6 (h 6, .inl (cI, 16, .inl f))) H) : va_P D vwCl (m_ws h cI n (m_sPc σ f)) H := hP
theorem m_dPc {f : Nat → Int32} (hD : va_D A ((m_ws h cI n σ).set 6 (h 6, .inl (cI, 16, .inl f)))) : va_D A (m_ws h cI n (m_sPc σ f)) := hD
theorem m_pWr {f : Nat → Int32} (hP : va_P D vwCl ((m_ws h cI n σ).set 7 (h 7, .inl (cI, 16, .inl f))) H) : va_P D vwCl (m_ws h cI n (m_sWr σ f)) H := hP
theorem m_dWr {f : Nat → Int32} (hD : va_D A ((m_ws h cI n σ).set 7 (h 7, .inl (cI, 16, .inl f)))) : va_D A (m_ws h cI n (m_sWr σ f)) := hD
theorem m_pRd {f : Nat → Int32} (hP : va_P D vwCl ((m_ws h cI n σ).set 8 (h 8, .inl (cI, 16, .inl f))) H) : va_P D vwCl (m_ws h cI n (m_sRd σ f)) H := hP
theorem m_dRd {f : Nat → Int32} (hD : va_D A ((m_ws h cI n σ).set 8 (h 8, .inl (cI, 16, .inl f)))) : va_D A (m_ws h cI n (m_sRd σ f)) := hD
theorem m_pLi {f : Nat → Int32} (hP : va_P D vwCl ((m_ws h cI n σ).set 9 (h 9, .inl (cI, 4, .inl f))) H) : va_P D vwCl (m_ws h cI n (m_sLi σ f)) H := hP
theorem m_dLi {f : Nat → Int32} (hD : va_D A ((m_ws h cI n σ).set 9 (h 9, .inl (cI, 4, .inl f)))) : va_D A (m_ws h cI n (m_sLi σ f)) := hD
theorem m_pOn {f : Int32} (hP : va_P D vwCl ((m_ws h cI n σ).set 0 (h 0, .inr (1, ([.ref (h 1), .int (nI n), .ref (h 2), .ref (h 3), .int (m_on σ), .ref (h 4), .ref (h 5), .ref (h 6), .ref (h 7), .ref (h 8), .ref (h 9), .int (m_fa σ), .int (m_lk σ), .int (m_ad σ)] : List Value).set 4 (.int f)))) H) : va_P D vwCl (m_ws h cI n (m_sOn σ f)) H := hP
theorem m_dOn {f : Int32} (hD : va_D A ((m_ws h cI n σ).set 0 (h 0, .inr (1, ([.ref (h 1), .int (nI n), .ref (h 2), .ref (h 3), .int (m_on σ), .ref (h 4), .ref (h 5), .ref (h 6), .ref (h 7), .ref (h 8), .ref (h 9), .int (m_fa σ), .int (m_lk σ), .int (m_ad σ)] : List Value).set 4 (.int f))))) : va_D A (m_ws h cI n (m_sOn σ f)) := hD
theorem m_pFa {f : Int32} (hP : va_P D vwCl ((m_ws h cI n σ).set 0 (h 0, .inr (1, ([.ref (h 1), .int (nI n), .ref (h 2), .ref (h 3), .int (m_on σ), .ref (h 4), .ref (h 5), .ref (h 6), .ref (h 7), .ref (h 8), .ref (h 9), .int (m_fa σ), .int (m_lk σ), .int (m_ad σ)] : List Value).set 11 (.int f)))) H) : va_P D vwCl (m_ws h cI n (m_sFa σ f)) H := hP
theorem m_dFa {f : Int32} (hD : va_D A ((m_ws h cI n σ).set 0 (h 0, .inr (1, ([.ref (h 1), .int (nI n), .ref (h 2), .ref (h 3), .int (m_on σ), .ref (h 4), .ref (h 5), .ref (h 6), .ref (h 7), .ref (h 8), .ref (h 9), .int (m_fa σ), .int (m_lk σ), .int (m_ad σ)] : List Value).set 11 (.int f))))) : va_D A (m_ws h cI n (m_sFa σ f)) := hD
theorem m_pLk {f : Int32} (hP : va_P D vwCl ((m_ws h cI n σ).set 0 (h 0, .inr (1, ([.ref (h 1), .int (nI n), .ref (h 2), .ref (h 3), .int (m_on σ), .ref (h 4), .ref (h 5), .ref (h 6), .ref (h 7), .ref (h 8), .ref (h 9), .int (m_fa σ), .int (m_lk σ), .int (m_ad σ)] : List Value).set 12 (.int f)))) H) : va_P D vwCl (m_ws h cI n (m_sLk σ f)) H := hP
theorem m_dLk {f : Int32} (hD : va_D A ((m_ws h cI n σ).set 0 (h 0, .inr (1, ([.ref (h 1), .int (nI n), .ref (h 2), .ref (h 3), .int (m_on σ), .ref (h 4), .ref (h 5), .ref (h 6), .ref (h 7), .ref (h 8), .ref (h 9), .int (m_fa σ), .int (m_lk σ), .int (m_ad σ)] : List Value).set 12 (.int f))))) : va_D A (m_ws h cI n (m_sLk σ f)) := hD
theorem m_pAd {f : Int32} (hP : va_P D vwCl ((m_ws h cI n σ).set 0 (h 0, .inr (1, ([.ref (h 1), .int (nI n), .ref (h 2), .ref (h 3), .int (m_on σ), .ref (h 4), .ref (h 5), .ref (h 6), .ref (h 7), .ref (h 8), .ref (h 9), .int (m_fa σ), .int (m_lk σ), .int (m_ad σ)] : List Value).set 13 (.int f)))) H) : va_P D vwCl (m_ws h cI n (m_sAd σ f)) H := hP
theorem m_dAd {f : Int32} (hD : va_D A ((m_ws h cI n σ).set 0 (h 0, .inr (1, ([.ref (h 1), .int (nI n), .ref (h 2), .ref (h 3), .int (m_on σ), .ref (h 4), .ref (h 5), .ref (h 6), .ref (h 7), .ref (h 8), .ref (h 9), .int (m_fa σ), .int (m_lk σ), .int (m_ad σ)] : List Value).set 13 (.int f))))) : va_D A (m_ws h cI n (m_sAd σ f)) := hD
end MR
end
section
def m_regionOf (a : Int32) : Int32 :=
  ((a >>> (14 &&& 31)) &&& 3)
def m_pageOf (a : Int32) : Int32 :=
  ((a >>> (4 &&& 31)) &&& 1023)
def m_slot (a : Int32) : Int32 :=
  if (m_regionOf a) = 2 then
    ((8 : Int32) + ((m_pageOf a) - (m_pageOf a) / 8 * 8))
  else
    ((0 : Int32) + ((m_pageOf a) - (m_pageOf a) / 8 * 8))
def m_isSize (k : Int32) : Int32 :=
  if k = 1 then
    1
  else
    if k = 2 then
      1
    else
      if k = 4 then
        1
      else
        0
def m_isThere (n : Nat) (σ : MS) (a : Int32) : Int32 :=
  if a < 0 then
    0
  else
    if (nI n) ≤ a then
      0
    else
      1
def m_areFour (n : Nat) (σ : MS) (a : Int32) : Int32 :=
  if a < 0 then
    0
  else
    if ((nI n) - 4) < a then
      0
    else
      1
def m_four (n : Nat) (σ : MS) (a : Int32) : Int32 :=
  ((((m_mem σ (a).toNatClampNeg) ||| ((m_mem σ ((a + 1)).toNatClampNeg) <<< (8 &&& 31))) ||| ((m_mem σ ((a + 2)).toNatClampNeg) <<< (16 &&& 31))) ||| ((m_mem σ ((a + 3)).toNatClampNeg) <<< (24 &&& 31)))
def m_isKept (n : Nat) (σ : MS) (a : Int32) : Int32 :=
  if (m_pg σ ((m_slot a)).toNatClampNeg) = (a &&& 65520) then
    1
  else
    0
def m_isInside (n : Nat) (σ : MS) (a : Int32) : Int32 :=
  if (m_regionOf a) = 1 then
    if (m_pageOf a) < (m_len σ (1 : Int32).toNatClampNeg) then
      0
    else
      1
  else
    if (m_regionOf a) = 3 then
      0
    else
      if (m_len σ ((m_regionOf a)).toNatClampNeg) ≤ (m_pageOf a) then
        0
      else
        1
def m_isRight (n : Nat) (σ : MS) (md : Int32) (b : Int32) : Int32 :=
  if b = 0 then
    if (m_rd σ ((((m_lk σ) >>> (27 &&& 31)) &&& 15)).toNatClampNeg) ≤ md then
      0
    else
      1
  else
    if (m_wr σ ((((m_lk σ) >>> (27 &&& 31)) &&& 15)).toNatClampNeg) ≤ md then
      0
    else
      1
def m_entryOf (n : Nat) (σ : MS) (a : Int32) : Int64 :=
  if (m_areFour n σ a) = 0 then
    (-1)
  else
    ((((m_four n σ a)).toInt64) &&& 4294967295)
def m_kept (n : Nat) (σ : MS) (i : Int32) (k : Int32) : Int64 :=
  if i < 0 then
    (-1)
  else
    if (16 : Int32) ≤ i then
      (-1)
    else
      if k < 0 then
        (-1)
      else
        if k ≤ 2 then
          if (m_pg σ (i).toNatClampNeg) < 0 then
            if k = 0 then
              0
            else
              (-1)
          else
            if k = 0 then
              1
            else
              if k = 1 then
                (((m_pg σ (i).toNatClampNeg)).toInt64)
              else
                ((((m_en σ (i).toNatClampNeg)).toInt64) &&& 4294967295)
        else
          (-1)
def m_failed (n : Nat) (σ : MS)  : Int32 :=
  (m_fa σ)
def m_code (n : Nat) (σ : MS) (k : Int32) (w0 : Int32) (r0 : Int32) : MS :=
  (m_sRd (m_sWr σ (upd (m_wr σ) ((k).toNatClampNeg) w0)) (upd (m_rd (m_sWr σ (upd (m_wr σ) ((k).toNatClampNeg) w0))) ((k).toNatClampNeg) r0))
abbrev q_m_code (dC : Nat → ClassId) (dI : Nat → Nat → Nat) (h : Nat → Nat) (cI : ClassId) (n : Nat) (σ : MS) (k : Int32) (w0 : Int32) (r0 : Int32) (A : Nat → Prop) : Array Value → State → Outcome → State → Prop := va_Qv (fun u : MS => m_code n σ k w0 r0 = u) (m_at dC dI h cI n A) A
def m_putFour_l1 (n : Nat) (a : Int32) (v : Int32) : Nat → Int32 → MS → MS
  | 0, _, τ => τ
  | f + 1, i, τ =>
    if (4 : Int32) ≤ i then
      τ
    else
      m_putFour_l1 n a v f (i + 1) (m_sMem τ (upd (m_mem τ) (((a + i)).toNatClampNeg) ((v >>> (((8 : Int32) * i) &&& 31)) &&& 255)))
def m_putFour (n : Nat) (σ : MS) (a : Int32) (v : Int32) : MS :=
  m_putFour_l1 n a v 5 0 σ
abbrev q_m_putFour (dC : Nat → ClassId) (dI : Nat → Nat → Nat) (h : Nat → Nat) (cI : ClassId) (n : Nat) (σ : MS) (a : Int32) (v : Int32) (A : Nat → Prop) : Array Value → State → Outcome → State → Prop := va_Qv (fun u : MS => m_putFour n σ a v = u) (m_at dC dI h cI n A) A
def m_put (n : Nat) (σ : MS) (a : Int32) (v : Int32) : Int32 × MS :=
  if (m_isThere n σ a) = 0 then
    (0, σ)
  else
    (1, (m_sMem σ (upd (m_mem σ) ((a).toNatClampNeg) (v &&& 255))))
abbrev q_m_put (dC : Nat → ClassId) (dI : Nat → Nat → Nat) (h : Nat → Nat) (cI : ClassId) (n : Nat) (σ : MS) (a : Int32) (v : Int32) (A : Nat → Prop) : Array Value → State → Outcome → State → Prop := va_Qi (fun (r : Int32) (u : MS) => m_put n σ a v = (r, u)) (m_at dC dI h cI n A) A
def m_entry (n : Nat) (σ : MS) (a : Int32) (v : Int32) : Int32 × MS :=
  if (m_areFour n σ a) = 0 then
    (0, σ)
  else
    kv (m_putFour n σ a v) (fun t_2 =>
    (1, t_2))
abbrev q_m_entry (dC : Nat → ClassId) (dI : Nat → Nat → Nat) (h : Nat → Nat) (cI : ClassId) (n : Nat) (σ : MS) (a : Int32) (v : Int32) (A : Nat → Prop) : Array Value → State → Outcome → State → Prop := va_Qi (fun (r : Int32) (u : MS) => m_entry n σ a v = (r, u)) (m_at dC dI h cI n A) A
def m_forget_l1 (n : Nat) (fr : Int32) (k : Int32) : Nat → Int32 → MS → MS
  | 0, _, τ => τ
  | f + 1, i, τ =>
    if k ≤ i then
      τ
    else
      m_forget_l1 n fr k f (i + 1) (m_sPg τ (upd (m_pg τ) ((i).toNatClampNeg) (-1)))
def m_forget (n : Nat) (σ : MS) (fr : Int32) (k : Int32) : MS :=
  m_forget_l1 n fr k 17 fr σ
abbrev q_m_forget (dC : Nat → ClassId) (dI : Nat → Nat → Nat) (h : Nat → Nat) (cI : ClassId) (n : Nat) (σ : MS) (fr : Int32) (k : Int32) (A : Nat → Prop) : Array Value → State → Outcome → State → Prop := va_Qv (fun u : MS => m_forget n σ fr k = u) (m_at dC dI h cI n A) A
def m_region (n : Nat) (σ : MS) (rg : Int32) (ba : Int32) (le : Int32) : Int32 × MS :=
  if rg < 0 then
    (0, σ)
  else
    if rg < 3 then
      if rg = 2 then
        kv (m_forget n (m_sLen (m_sBas σ (upd (m_bas σ) ((rg).toNatClampNeg) (ba &&& 65535))) (upd (m_len (m_sBas σ (upd (m_bas σ) ((rg).toNatClampNeg) (ba &&& 65535)))) ((rg).toNatClampNeg) (le &&& 65535))) 0 16) (fun t_6 =>
        (1, t_6))
      else
        kv (m_forget n (m_sLen (m_sBas σ (upd (m_bas σ) ((rg).toNatClampNeg) (ba &&& 65535))) (upd (m_len (m_sBas σ (upd (m_bas σ) ((rg).toNatClampNeg) (ba &&& 65535)))) ((rg).toNatClampNeg) (le &&& 65535))) 0 8) (fun t_4 =>
        (1, t_4))
    else
      (0, σ)
abbrev q_m_region (dC : Nat → ClassId) (dI : Nat → Nat → Nat) (h : Nat → Nat) (cI : ClassId) (n : Nat) (σ : MS) (rg : Int32) (ba : Int32) (le : Int32) (A : Nat → Prop) : Array Value → State → Outcome → State → Prop := va_Qi (fun (r : Int32) (u : MS) => m_region n σ rg ba le = (r, u)) (m_at dC dI h cI n A) A
def m_map (n : Nat) (σ : MS) (b : Int32) : MS :=
  kv (m_forget n (m_sOn σ b) 0 16) (fun t_1 =>
  t_1)
abbrev q_m_map (dC : Nat → ClassId) (dI : Nat → Nat → Nat) (h : Nat → Nat) (cI : ClassId) (n : Nat) (σ : MS) (b : Int32) (A : Nat → Prop) : Array Value → State → Outcome → State → Prop := va_Qv (fun u : MS => m_map n σ b = u) (m_at dC dI h cI n A) A
def m_keeps (n : Nat) (σ : MS) (a : Int32) (v : Int32) (q : Int32) : MS :=
  (m_sPc (m_sEn (m_sPg σ (upd (m_pg σ) (((m_slot a)).toNatClampNeg) (a &&& 65520))) (upd (m_en (m_sPg σ (upd (m_pg σ) (((m_slot a)).toNatClampNeg) (a &&& 65520)))) (((m_slot a)).toNatClampNeg) v)) (upd (m_pc (m_sEn (m_sPg σ (upd (m_pg σ) (((m_slot a)).toNatClampNeg) (a &&& 65520))) (upd (m_en (m_sPg σ (upd (m_pg σ) (((m_slot a)).toNatClampNeg) (a &&& 65520)))) (((m_slot a)).toNatClampNeg) v))) (((m_slot a)).toNatClampNeg) q))
abbrev q_m_keeps (dC : Nat → ClassId) (dI : Nat → Nat → Nat) (h : Nat → Nat) (cI : ClassId) (n : Nat) (σ : MS) (a : Int32) (v : Int32) (q : Int32) (A : Nat → Prop) : Array Value → State → Outcome → State → Prop := va_Qv (fun u : MS => m_keeps n σ a v q = u) (m_at dC dI h cI n A) A
def m_drop (n : Nat) (σ : MS) (a : Int32) : Int32 × MS :=
  if (m_isKept n σ (a &&& 65535)) = 0 then
    (0, σ)
  else
    (1, (m_sPg σ (upd (m_pg σ) (((m_slot (a &&& 65535))).toNatClampNeg) (-1))))
abbrev q_m_drop (dC : Nat → ClassId) (dI : Nat → Nat → Nat) (h : Nat → Nat) (cI : ClassId) (n : Nat) (σ : MS) (a : Int32) (A : Nat → Prop) : Array Value → State → Outcome → State → Prop := va_Qi (fun (r : Int32) (u : MS) => m_drop n σ a = (r, u)) (m_at dC dI h cI n A) A
def m_look (n : Nat) (σ : MS) (a : Int32) (kp : Int32) : Int32 × MS :=
  if (m_isKept n σ a) = 0 then
    if (m_isInside n σ a) = 0 then
      ((-2), σ)
    else
      if (m_regionOf a) = 2 then
        if (m_areFour n (m_sAd σ ((m_bas σ (2 : Int32).toNatClampNeg) + ((4 : Int32) * (m_pageOf a)))) (m_ad (m_sAd σ ((m_bas σ (2 : Int32).toNatClampNeg) + ((4 : Int32) * (m_pageOf a)))))) = 0 then
          ((-100), (m_sAd σ ((m_bas σ (2 : Int32).toNatClampNeg) + ((4 : Int32) * (m_pageOf a)))))
        else
          (0, (m_sLk (m_sAd σ ((m_bas σ (2 : Int32).toNatClampNeg) + ((4 : Int32) * (m_pageOf a)))) (m_four n (m_sAd σ ((m_bas σ (2 : Int32).toNatClampNeg) + ((4 : Int32) * (m_pageOf a)))) (m_ad (m_sAd σ ((m_bas σ (2 : Int32).toNatClampNeg) + ((4 : Int32) * (m_pageOf a))))))))
      else
        kv (((m_bas σ ((m_regionOf a)).toNatClampNeg) + ((4 : Int32) * (m_pageOf a))) &&& 65535) (fun wh_4 =>
        if (m_regionOf wh_4) = 2 then
          if (m_isInside n σ wh_4) = 0 then
            ((-4), σ)
          else
            if (m_isKept n σ wh_4) = 0 then
              kv ((m_bas σ (2 : Int32).toNatClampNeg) + ((4 : Int32) * (m_pageOf wh_4))) (fun oo_8 =>
              if (m_areFour n σ oo_8) = 0 then
                ((-100), σ)
              else
                kv (m_four n σ oo_8) (fun tb_10 =>
                if tb_10 < 0 then
                  if kp = 0 then
                    if (m_areFour n (m_sAd σ (((16 : Int32) * (tb_10 &&& 4095)) + (wh_4 - wh_4 / 16 * 16))) (m_ad (m_sAd σ (((16 : Int32) * (tb_10 &&& 4095)) + (wh_4 - wh_4 / 16 * 16))))) = 0 then
                      ((-100), (m_sAd σ (((16 : Int32) * (tb_10 &&& 4095)) + (wh_4 - wh_4 / 16 * 16))))
                    else
                      (0, (m_sLk (m_sAd σ (((16 : Int32) * (tb_10 &&& 4095)) + (wh_4 - wh_4 / 16 * 16))) (m_four n (m_sAd σ (((16 : Int32) * (tb_10 &&& 4095)) + (wh_4 - wh_4 / 16 * 16))) (m_ad (m_sAd σ (((16 : Int32) * (tb_10 &&& 4095)) + (wh_4 - wh_4 / 16 * 16)))))))
                  else
                    kv (m_keeps n σ wh_4 tb_10 oo_8) (fun t_14 =>
                    if (m_areFour n (m_sAd t_14 (((16 : Int32) * (tb_10 &&& 4095)) + (wh_4 - wh_4 / 16 * 16))) (m_ad (m_sAd t_14 (((16 : Int32) * (tb_10 &&& 4095)) + (wh_4 - wh_4 / 16 * 16))))) = 0 then
                      ((-100), (m_sAd t_14 (((16 : Int32) * (tb_10 &&& 4095)) + (wh_4 - wh_4 / 16 * 16))))
                    else
                      (0, (m_sLk (m_sAd t_14 (((16 : Int32) * (tb_10 &&& 4095)) + (wh_4 - wh_4 / 16 * 16))) (m_four n (m_sAd t_14 (((16 : Int32) * (tb_10 &&& 4095)) + (wh_4 - wh_4 / 16 * 16))) (m_ad (m_sAd t_14 (((16 : Int32) * (tb_10 &&& 4095)) + (wh_4 - wh_4 / 16 * 16))))))))
                else
                  ((-13), σ)))
            else
              kv (m_en σ ((m_slot wh_4)).toNatClampNeg) (fun tb_17 =>
              if (m_areFour n (m_sAd σ (((16 : Int32) * (tb_17 &&& 4095)) + (wh_4 - wh_4 / 16 * 16))) (m_ad (m_sAd σ (((16 : Int32) * (tb_17 &&& 4095)) + (wh_4 - wh_4 / 16 * 16))))) = 0 then
                ((-100), (m_sAd σ (((16 : Int32) * (tb_17 &&& 4095)) + (wh_4 - wh_4 / 16 * 16))))
              else
                (0, (m_sLk (m_sAd σ (((16 : Int32) * (tb_17 &&& 4095)) + (wh_4 - wh_4 / 16 * 16))) (m_four n (m_sAd σ (((16 : Int32) * (tb_17 &&& 4095)) + (wh_4 - wh_4 / 16 * 16))) (m_ad (m_sAd σ (((16 : Int32) * (tb_17 &&& 4095)) + (wh_4 - wh_4 / 16 * 16))))))))
        else
          ((-4), σ))
  else
    (0, (m_sAd (m_sLk σ (m_en σ ((m_slot a)).toNatClampNeg)) (m_pc (m_sLk σ (m_en σ ((m_slot a)).toNatClampNeg)) ((m_slot a)).toNatClampNeg)))
abbrev q_m_look (dC : Nat → ClassId) (dI : Nat → Nat → Nat) (h : Nat → Nat) (cI : ClassId) (n : Nat) (σ : MS) (a : Int32) (kp : Int32) (A : Nat → Prop) : Array Value → State → Outcome → State → Prop := va_Qi (fun (r : Int32) (u : MS) => m_look n σ a kp = (r, u)) (m_at dC dI h cI n A) A
def m_translate (n : Nat) (σ : MS) (a : Int32) (md : Int32) (b : Int32) (kp : Int32) : Int32 × MS :=
  if (m_on σ) = 0 then
    (a, σ)
  else
    if b = 0 then
      kb (m_look n σ a kp) (fun r_5 t_3 =>
      if (0 : Int32) ≤ r_5 then
        if (m_isRight n t_3 md b) = 0 then
          ((((-1) : Int32) - 0), t_3)
        else
          if (m_lk t_3) < 0 then
            if kp = 0 then
              ((((16 : Int32) * ((m_lk t_3) &&& 4095)) + (a - a / 16 * 16)), t_3)
            else
              kv (m_keeps n t_3 a (m_lk t_3) (m_ad t_3)) (fun t_13 =>
              ((((16 : Int32) * ((m_lk t_13) &&& 4095)) + (a - a / 16 * 16)), t_13))
          else
            ((((-11) : Int32) - 0), t_3)
      else
        if r_5 = (-100) then
          ((-100), t_3)
        else
          ((r_5 - 0), t_3))
    else
      kb (m_look n σ a kp) (fun r_18 t_16 =>
      if (0 : Int32) ≤ r_18 then
        if (m_isRight n t_16 md b) = 0 then
          ((((-1) : Int32) - 4), t_16)
        else
          if (m_lk t_16) < 0 then
            if kp = 0 then
              ((((16 : Int32) * ((m_lk t_16) &&& 4095)) + (a - a / 16 * 16)), t_16)
            else
              if (((m_lk t_16) >>> (26 &&& 31)) &&& 1) = 0 then
                kv (m_putFour n (m_sLk t_16 ((m_lk t_16) ||| 67108864)) (m_ad (m_sLk t_16 ((m_lk t_16) ||| 67108864))) ((m_four n (m_sLk t_16 ((m_lk t_16) ||| 67108864)) (m_ad (m_sLk t_16 ((m_lk t_16) ||| 67108864)))) ||| 67108864)) (fun t_29 =>
                kv (m_keeps n t_29 a (m_lk t_29) (m_ad t_29)) (fun t_32 =>
                ((((16 : Int32) * ((m_lk t_32) &&& 4095)) + (a - a / 16 * 16)), t_32)))
              else
                kv (m_keeps n t_16 a (m_lk t_16) (m_ad t_16)) (fun t_27 =>
                ((((16 : Int32) * ((m_lk t_27) &&& 4095)) + (a - a / 16 * 16)), t_27))
          else
            ((((-11) : Int32) - 4), t_16)
      else
        if r_18 = (-100) then
          ((-100), t_16)
        else
          ((r_18 - 4), t_16))
abbrev q_m_translate (dC : Nat → ClassId) (dI : Nat → Nat → Nat) (h : Nat → Nat) (cI : ClassId) (n : Nat) (σ : MS) (a : Int32) (md : Int32) (b : Int32) (kp : Int32) (A : Nat → Prop) : Array Value → State → Outcome → State → Prop := va_Qi (fun (r : Int32) (u : MS) => m_translate n σ a md b kp = (r, u)) (m_at dC dI h cI n A) A
def m_reach_l2 (n : Nat) (a : Int32) (ct : Int32) (md : Int32) (b : Int32) : Nat → Int32 → MS → Int32 × MS
  | 0, _, τ => (0, τ)
  | f + 1, i, τ =>
    if ct ≤ i then
      (0, τ)
    else
      if (m_isThere n τ (m_li τ (i).toNatClampNeg)) = 0 then
        ((-100), τ)
      else
        m_reach_l2 n a ct md b f (i + 1) τ
def m_reach_l1 (n : Nat) (a : Int32) (ct : Int32) (md : Int32) (b : Int32) : Nat → Int32 → MS → Int32 × MS
  | 0, _, τ => (0, τ)
  | f + 1, i, τ =>
    if ct ≤ i then
      m_reach_l2 n a ct md b 5 0 τ
    else
      if i = 0 then
        kb (m_translate n τ ((a + i) &&& 65535) (md &&& 3) b 1) (fun r_205 t_203 =>
        if (0 : Int32) ≤ r_205 then
          m_reach_l1 n a ct md b f (i + 1) (m_sLi t_203 (upd (m_li t_203) ((i).toNatClampNeg) r_205))
        else
          if r_205 = (-100) then
            (r_205, t_203)
          else
            (r_205, (m_sFa t_203 ((a + i) &&& 65535))))
      else
        if (((a + i) &&& 65535) - ((a + i) &&& 65535) / 16 * 16) = 0 then
          kb (m_translate n τ ((a + i) &&& 65535) (md &&& 3) b 1) (fun r_211 t_209 =>
          if (0 : Int32) ≤ r_211 then
            m_reach_l1 n a ct md b f (i + 1) (m_sLi t_209 (upd (m_li t_209) ((i).toNatClampNeg) r_211))
          else
            if r_211 = (-100) then
              (r_211, t_209)
            else
              (r_211, (m_sFa t_209 ((a + i) &&& 65535))))
        else
          m_reach_l1 n a ct md b f (i + 1) (m_sLi τ (upd (m_li τ) ((i).toNatClampNeg) ((m_li τ ((i - 1)).toNatClampNeg) + 1)))
def m_reach (n : Nat) (σ : MS) (a : Int32) (ct : Int32) (md : Int32) (b : Int32) : Int32 × MS :=
  m_reach_l1 n a ct md b 5 0 σ
abbrev q_m_reach (dC : Nat → ClassId) (dI : Nat → Nat → Nat) (h : Nat → Nat) (cI : ClassId) (n : Nat) (σ : MS) (a : Int32) (ct : Int32) (md : Int32) (b : Int32) (A : Nat → Prop) : Array Value → State → Outcome → State → Prop := va_Qi (fun (r : Int32) (u : MS) => m_reach n σ a ct md b = (r, u)) (m_at dC dI h cI n A) A
def m_read_l1 (n : Nat) (a : Int32) (ct : Int32) (md : Int32) : Nat → Int64 → Int32 → MS → Int64 × MS
  | 0, _, _, τ => (0, τ)
  | f + 1, v, i, τ =>
    if i < 0 then
      (v, τ)
    else
      m_read_l1 n a ct md f ((v * 256) + (((m_mem τ ((m_li τ (i).toNatClampNeg)).toNatClampNeg)).toInt64)) (i + (-1)) τ
def m_read (n : Nat) (σ : MS) (a : Int32) (ct : Int32) (md : Int32) : Int64 × MS :=
  if (m_isSize ct) = 0 then
    ((-101), σ)
  else
    kb (m_reach n σ (a &&& 65535) ct md 0) (fun r_4 t_2 =>
    if (0 : Int32) ≤ r_4 then
      m_read_l1 n a ct md 5 0 (ct - 1) t_2
    else
      (((r_4).toInt64), t_2))
abbrev q_m_read (dC : Nat → ClassId) (dI : Nat → Nat → Nat) (h : Nat → Nat) (cI : ClassId) (n : Nat) (σ : MS) (a : Int32) (ct : Int32) (md : Int32) (A : Nat → Prop) : Array Value → State → Outcome → State → Prop := va_Ql (fun (r : Int64) (u : MS) => m_read n σ a ct md = (r, u)) (m_at dC dI h cI n A) A
def m_write_l1 (n : Nat) (a : Int32) (ct : Int32) (v : Int32) (md : Int32) : Nat → Int32 → MS → Int32 × MS
  | 0, _, τ => (0, τ)
  | f + 1, i, τ =>
    if ct ≤ i then
      (0, τ)
    else
      m_write_l1 n a ct v md f (i + 1) (m_sMem τ (upd (m_mem τ) (((m_li τ (i).toNatClampNeg)).toNatClampNeg) ((v >>> (((8 : Int32) * i) &&& 31)) &&& 255)))
def m_write (n : Nat) (σ : MS) (a : Int32) (ct : Int32) (v : Int32) (md : Int32) : Int32 × MS :=
  if (m_isSize ct) = 0 then
    ((-101), σ)
  else
    kb (m_reach n σ (a &&& 65535) ct md 1) (fun r_4 t_2 =>
    if (0 : Int32) ≤ r_4 then
      m_write_l1 n a ct v md 5 0 t_2
    else
      (r_4, t_2))
abbrev q_m_write (dC : Nat → ClassId) (dI : Nat → Nat → Nat) (h : Nat → Nat) (cI : ClassId) (n : Nat) (σ : MS) (a : Int32) (ct : Int32) (v : Int32) (md : Int32) (A : Nat → Prop) : Array Value → State → Outcome → State → Prop := va_Qi (fun (r : Int32) (u : MS) => m_write n σ a ct v md = (r, u)) (m_at dC dI h cI n A) A
def m_where (n : Nat) (σ : MS) (a : Int32) (md : Int32) (b : Int32) : Int32 × MS :=
  kb (m_translate n σ (a &&& 65535) (md &&& 3) b 0) (fun r_3 t_1 =>
  if r_3 < 0 then
    (r_3, t_1)
  else
    if (m_isThere n t_1 r_3) = 0 then
      ((-100), t_1)
    else
      (r_3, t_1))
abbrev q_m_where (dC : Nat → ClassId) (dI : Nat → Nat → Nat) (h : Nat → Nat) (cI : ClassId) (n : Nat) (σ : MS) (a : Int32) (md : Int32) (b : Int32) (A : Nat → Prop) : Array Value → State → Outcome → State → Prop := va_Qi (fun (r : Int32) (u : MS) => m_where n σ a md b = (r, u)) (m_at dC dI h cI n A) A
def m_may (n : Nat) (σ : MS) (a : Int32) (md : Int32) (b : Int32) : Int32 × MS :=
  if (m_on σ) = 0 then
    (1, σ)
  else
    kb (m_look n σ (a &&& 65535) 0) (fun r_4 t_2 =>
    if r_4 = (-100) then
      ((-100), t_2)
    else
      if r_4 = (-13) then
        if b = 0 then
          (r_4, t_2)
        else
          ((r_4 - 4), t_2)
      else
        if r_4 = 0 then
          if (m_isRight n t_2 (md &&& 3) b) = 0 then
            (0, t_2)
          else
            (1, t_2)
        else
          (0, t_2))
abbrev q_m_may (dC : Nat → ClassId) (dI : Nat → Nat → Nat) (h : Nat → Nat) (cI : ClassId) (n : Nat) (σ : MS) (a : Int32) (md : Int32) (b : Int32) (A : Nat → Prop) : Array Value → State → Outcome → State → Prop := va_Qi (fun (r : Int32) (u : MS) => m_may n σ a md b = (r, u)) (m_at dC dI h cI n A) A
end
section
theorem m_region_in (a : Int32) : vp_in (m_regionOf a) 4 := pk_andIn (a >>> (14 &&& 31)) (m := 3) 2 (by decide) (by decide)
theorem m_code_in (v : Int32) : vp_in ((v >>> (27 &&& 31)) &&& 15) 16 := pk_andIn (v >>> (27 &&& 31)) (m := 15) 4 (by decide) (by decide)
theorem m_page_nI (a : Int32) : ∃ j : Nat, j < 1024 ∧ m_pageOf a = nI j := pk_andE (a >>> (4 &&& 31)) (m := 1023) 10 (by decide)
theorem m_slot_in (a : Int32) : vp_in (m_slot a) 16 := by
  obtain ⟨j, hj, e⟩ := m_page_nI a
  have h8 : nI j - nI j / 8 * 8 = nI (j % 8) := pk_rem (a := j) (d := 8) (by omega) (by decide) (by decide)
  unfold m_slot
  rw [e, h8]
  split
  · rw [show (8 : Int32) = nI 8 from rfl, nI_add]; exact vp_in_nI (by omega) (by omega)
  · rw [Int32.zero_add]; exact vp_in_nI (by omega) (by omega)
theorem m_r3 {r : Int32} (hk : vp_in r 4) (c : ¬ r = 3) : vp_in r 3 := by
  obtain ⟨j, hj, rfl⟩ := vp_in_of hk (by decide)
  refine vp_in_nI ?_ (by decide)
  rcases (show j < 3 ∨ j = 3 by omega) with q | q
  · exact q
  · subst q; exact absurd rfl c
theorem m_in_r {n : Nat} {σ : MS} {a : Int32} (c : ¬ m_isInside n σ a = 0) : vp_in (m_regionOf a) 3 := by
  unfold m_isInside at c
  split at c
  · rename_i h; rw [h]; exact vp_in_nI (n := 1) (by decide) (by decide)
  · split at c
    · exact absurd rfl c
    · rename_i h; exact m_r3 (m_region_in a) h
theorem m_thn {n : Nat} {σ : MS} {a : Int32} (hn : n ≤ 2048) (h : ¬ m_isThere n σ a = 0) : vp_in a n := by
  unfold m_isThere at h
  split at h
  · exact absurd rfl h
  · rename_i h1
    split at h
    · exact absurd rfl h
    · rename_i h2
      obtain ⟨j, hj, rfl⟩ := nI_of h1
      refine vp_in_nI ?_ (by omega)
      rcases Nat.lt_or_ge j n with q | q
      · exact q
      · exact absurd (nI_le q hj) h2
theorem m_up {n : Nat} {a : Int32} (hn : n ≤ 2048) (h : vp_in a n) : vp_in a 2048 := by
  obtain ⟨j, hj, rfl⟩ := vp_in_of h (by omega)
  exact vp_in_nI (by omega) (by omega)
theorem m_th {n : Nat} {σ : MS} {a : Int32} (hn : n ≤ 2048) (h : ¬ m_isThere n σ a = 0) : vp_in a 2048 := m_up hn (m_thn hn h)
theorem m_in48 {n : Nat} {a : Int32} (hn : n ≤ 2048) (h : x_in4 n a) : x_in4 2048 a := ⟨m_up hn h.1, m_up hn h.2.1, m_up hn h.2.2.1, m_up hn h.2.2.2⟩
theorem m_afn {n : Nat} {σ : MS} {a : Int32} (hn : n ≤ 2048) (h : ¬ m_areFour n σ a = 0) : x_in4 n a := by
  unfold m_areFour at h
  split at h
  · exact absurd rfl h
  · rename_i h1
    split at h
    · exact absurd rfl h
    · rename_i h2
      obtain ⟨j, hj, rfl⟩ := nI_of h1
      refine x_in4_of hn ?_
      rw [show (4 : Int32) = nI 4 from rfl, Int32.lt_iff_toInt_lt, pk_sub_toInt (by omega) (by omega), nI_toInt hj] at h2
      omega
theorem m_af {n : Nat} {σ : MS} {a : Int32} (hn : n ≤ 2048) (h : ¬ m_areFour n σ a = 0) : x_in4 2048 a := m_in48 hn (m_afn hn h)
def m_Inv (n : Nat) (σ : MS) : Prop := ∀ j, j < 16 → m_pg σ j = -1 ∨ x_in4 n (m_pc σ j)
theorem m_mask0 {K : Nat} (hK : K < 65536) : ∃ q : Nat, q < 65536 ∧ nI K &&& 65520 = nI q := by
  refine ⟨K &&& 65520, Nat.lt_of_le_of_lt Nat.and_le_left hK, ?_⟩
  show nI K &&& nI 65520 = _
  apply Int32.toBitVec_inj.mp
  show (nI K).toBitVec &&& (nI 65520).toBitVec = (nI (K &&& 65520)).toBitVec
  apply BitVec.eq_of_toNat_eq
  rw [BitVec.toNat_and, pk_tn (by omega), pk_tn (by decide), pk_tn (Nat.lt_of_le_of_lt Nat.and_le_left (by omega))]
theorem m_kept_at {n : Nat} {σ : MS} {a : Int32} (hI : m_Inv n σ) (ha : ∃ K : Nat, K < 65536 ∧ a = nI K) (c : ¬ m_isKept n σ a = 0) : x_in4 n (m_pc σ (m_slot a).toNatClampNeg) := by
  obtain ⟨j, hj, e⟩ := vp_in_of (m_slot_in a) (by decide)
  unfold m_isKept at c
  rw [e] at c ⊢
  obtain ⟨K, hK, rfl⟩ := ha
  split at c
  · rename_i h
    rw [nI_clamp (by omega)] at h ⊢
    rcases hI j hj with q | q
    · obtain ⟨z, hz, ez⟩ := m_mask0 hK
      rw [q, ez] at h
      exact absurd h.symm (x_nm1 (by omega))
    · exact q
  · exact absurd rfl c
theorem m_keeps_inv {n : Nat} {σ τ : MS} {a v q : Int32} (hI : m_Inv n σ) (hq : x_in4 n q) (e : m_keeps n σ a v q = τ) : m_Inv n τ := by
  subst e
  intro j hj
  show upd (m_pg σ) _ _ j = -1 ∨ x_in4 n (upd (m_pc σ) _ _ j)
  by_cases h : j = (m_slot a).toNatClampNeg
  · right; simp [upd, h]; exact hq
  · rcases hI j hj with z | z
    · left; simp [upd, h]; exact z
    · right; simp [upd, h]; exact z
theorem m_putFour_l {n : Nat} {a v : Int32} : ∀ (f : Nat) (i : Int32) (τ : MS), m_pg (m_putFour_l1 n a v f i τ) = m_pg τ ∧ m_pc (m_putFour_l1 n a v f i τ) = m_pc τ := by
  intro f
  induction f with
  | zero => intro i τ; exact ⟨rfl, rfl⟩
  | succ f ih =>
    intro i τ
    unfold m_putFour_l1
    split
    · exact ⟨rfl, rfl⟩
    · exact ih _ _
theorem m_putFour_inv {n : Nat} {σ τ : MS} {a v : Int32} (hI : m_Inv n σ) (e : m_putFour n σ a v = τ) : m_Inv n τ := by
  subst e
  intro j hj
  have h := m_putFour_l (n := n) (a := a) (v := v) 5 0 σ
  unfold m_putFour
  rw [h.1, h.2]
  exact hI j hj
theorem m_putFour_ad {n : Nat} {a v : Int32} : ∀ (f : Nat) (i : Int32) (τ : MS), m_ad (m_putFour_l1 n a v f i τ) = m_ad τ ∧ m_lk (m_putFour_l1 n a v f i τ) = m_lk τ := by
  intro f
  induction f with
  | zero => intro i τ; exact ⟨rfl, rfl⟩
  | succ f ih =>
    intro i τ
    unfold m_putFour_l1
    split
    · exact ⟨rfl, rfl⟩
    · exact ih _ _
theorem m_cnt4 {k : Int32} (c : ¬ m_isSize k = 0) : ∃ K : Nat, K ≤ 4 ∧ k = nI K := x_cnt4 c
theorem m_im1 {i : Int32} {j : Nat} (ej : i = nI j) (hlt : j < 4) (c : ¬ i = 0) : vp_in (i - 1) 4 := by
  subst ej
  have h0 : 0 < j := by
    rcases Nat.eq_zero_or_pos j with q | q
    · subst q; exact absurd rfl c
    · exact q
  rw [show (1 : Int32) = nI 1 from rfl, pk_sub (by omega)]
  exact vp_in_nI (by omega) (by decide)
theorem m_jpos {i : Int32} {j : Nat} (ei : i = nI j - 1) (c : ¬ i < 0) : 0 < j := by
  rcases Nat.eq_zero_or_pos j with q | q
  · subst q; subst ei; exact absurd (by decide) c
  · exact q
theorem m_j1 {i : Int32} {j : Nat} (ei : i = nI j - 1) (hj1 : 0 < j) : i = nI (j - 1) := by
  rw [ei, show (1 : Int32) = nI 1 from rfl, pk_sub (by omega)]
theorem m_jix {i : Int32} {j : Nat} (ei : i = nI j - 1) (hj1 : 0 < j) (hj : j ≤ 4) : vp_in i 4 := by
  rw [m_j1 ei hj1]; exact vp_in_nI (by omega) (by omega)
theorem m_jat {i ct : Int32} {j N : Nat} {g : Nat → Int32} (ei : i = nI j - 1) (hj1 : 0 < j) (hj : j ≤ 4) (hc : ∃ K : Nat, K ≤ 4 ∧ j ≤ K ∧ ct = nI K) (hq : ∀ q : Nat, q < 4 → nI q < ct → vp_in (g q) N) : vp_in (g i.toNatClampNeg) N := by
  rw [m_j1 ei hj1, nI_clamp (by omega)]
  obtain ⟨K, hK, hjK, rfl⟩ := hc
  exact hq (j - 1) (by omega) (nI_lt (by omega) (by omega))
theorem m_dec {i : Int32} {j : Nat} (ei : i = nI j - 1) (hj1 : 0 < j) : i + (-1) = nI (j - 1) - 1 := by
  rw [m_j1 ei hj1, Int32.sub_eq_add_neg]
theorem m_decK {ct : Int32} {j : Nat} (hc : ∃ K : Nat, K ≤ 4 ∧ j ≤ K ∧ ct = nI K) : ∃ K : Nat, K ≤ 4 ∧ j - 1 ≤ K ∧ ct = nI K := by
  obtain ⟨K, h1, h2, h3⟩ := hc; exact ⟨K, h1, by omega, h3⟩
theorem m_K_e {ct : Int32} (c : ¬ m_isSize ct = 0) : ct - 1 = nI ct.toNatClampNeg - 1 := by
  obtain ⟨K, hK, rfl⟩ := m_cnt4 c; rw [nI_clamp (by omega)]
theorem m_K_4 {ct : Int32} (c : ¬ m_isSize ct = 0) : ct.toNatClampNeg ≤ 4 := by
  obtain ⟨K, hK, rfl⟩ := m_cnt4 c; rw [nI_clamp (by omega)]; exact hK
theorem m_K_c {ct : Int32} (c : ¬ m_isSize ct = 0) : ∃ K : Nat, K ≤ 4 ∧ ct.toNatClampNeg ≤ K ∧ ct = nI K := by
  obtain ⟨K, hK, rfl⟩ := m_cnt4 c; exact ⟨K, hK, by rw [nI_clamp (by omega)]; omega, rfl⟩
theorem m_re2 {n : Nat} {a ct md b : Int32} (hn : n ≤ 2048) (hc : ∃ K : Nat, K ≤ 4 ∧ ct = nI K) : ∀ (f j : Nat) (τ τ2 : MS) (r : Int32), j ≤ 4 → 5 ≤ j + f → m_reach_l2 n a ct md b f (nI j) τ = (r, τ2) → 0 ≤ r → τ2 = τ ∧ ∀ q : Nat, j ≤ q → q < 4 → nI q < ct → vp_in (m_li τ q) n := by
  intro f
  induction f with
  | zero => intro j τ τ2 r h1 h2; omega
  | succ f ih =>
    intro j τ τ2 r h1 h2 e c
    unfold m_reach_l2 at e
    split at e
    · rename_i h
      obtain ⟨-, rfl⟩ := x_inj e
      refine ⟨rfl, fun q hq hq4 hc => ?_⟩
      exact absurd (Int32.le_trans h (nI_le hq (by omega))) (Int32.not_le.mpr hc)
    · rename_i h
      have hlt := x_ltK hc h1 rfl (by omega) h
      split at e
      · obtain ⟨rfl, -⟩ := x_inj e; exact absurd c (by decide)
      · rename_i hm
        rw [nI_1] at e
        obtain ⟨e1, e2⟩ := ih (j + 1) τ τ2 r (by omega) (by omega) e c
        refine ⟨e1, fun q hq hq4 hc => ?_⟩
        rcases (show q = j ∨ j + 1 ≤ q by omega) with rfl | hq
        · rw [nI_clamp (by omega)] at hm
          exact m_thn hn hm
        · exact e2 q hq hq4 hc
theorem m_re1 {n : Nat} {a ct md b : Int32} (hn : n ≤ 2048) (hc : ∃ K : Nat, K ≤ 4 ∧ ct = nI K) : ∀ (f j : Nat) (τ τ2 : MS) (r : Int32), j ≤ 4 → 5 ≤ j + f → m_reach_l1 n a ct md b f (nI j) τ = (r, τ2) → 0 ≤ r → ∀ q : Nat, q < 4 → nI q < ct → vp_in (m_li τ2 q) n := by
  intro f
  induction f with
  | zero => intro j τ τ2 r h1 h2; omega
  | succ f ih =>
    intro j τ τ2 r h1 h2 e c
    unfold m_reach_l1 kb at e
    dsimp only at e
    split at e
    · obtain ⟨rfl, e2⟩ := m_re2 hn hc 5 0 τ τ2 r (by omega) (by omega) e c
      exact fun q hq => e2 q (Nat.zero_le _) hq
    · rename_i h
      have hlt := x_ltK hc h1 rfl (by omega) h
      rw [nI_1] at e
      split at e
      · split at e
        · exact ih (j + 1) _ τ2 r (by omega) (by omega) e c
        · rename_i h3
          split at e
          · obtain ⟨rfl, -⟩ := x_inj e; exact absurd c h3
          · obtain ⟨rfl, -⟩ := x_inj e; exact absurd c h3
      · split at e
        · split at e
          · exact ih (j + 1) _ τ2 r (by omega) (by omega) e c
          · rename_i h3
            split at e
            · obtain ⟨rfl, -⟩ := x_inj e; exact absurd c h3
            · obtain ⟨rfl, -⟩ := x_inj e; exact absurd c h3
        · exact ih (j + 1) _ τ2 r (by omega) (by omega) e c
theorem m_re_in {n : Nat} {σ τ : MS} {a ct md b r : Int32} (hn : n ≤ 2048) (c : ¬ m_isSize ct = 0) (e : m_reach n σ a ct md b = (r, τ)) (c0 : 0 ≤ r) : ∀ q : Nat, q < 4 → nI q < ct → vp_in (m_li τ q) 2048 := fun q h1 h2 => m_up hn (m_re1 hn (m_cnt4 c) 5 0 σ τ r (by omega) (by omega) e c0 q h1 h2)
end
section
theorem m_look_in {n : Nat} {σ τ : MS} {a kp r : Int32} (hn : n ≤ 2048) (hI : m_Inv n σ) (ha : ∃ K : Nat, K < 65536 ∧ a = nI K) (e : m_look n σ a kp = (r, τ)) (c : 0 ≤ r) : x_in4 n (m_ad τ) := by
  rcases it_c e with ⟨c_1, e⟩ | ⟨c_1, e⟩
  · rcases it_c e with ⟨c_2, e⟩ | ⟨c_2, e⟩
    · obtain ⟨rfl, rfl⟩ := x_inj e
      exact absurd c (by decide)
    · rcases it_c e with ⟨c_3, e⟩ | ⟨c_3, e⟩
      · rcases it_c e with ⟨c_4, e⟩ | ⟨c_4, e⟩
        · obtain ⟨rfl, rfl⟩ := x_inj e
          exact absurd c (by decide)
        · obtain ⟨rfl, rfl⟩ := x_inj e
          exact m_afn hn c_4
      · obtain ⟨wh_4, w_5, e⟩ := kv_c e
        rcases it_c e with ⟨c_6, e⟩ | ⟨c_6, e⟩
        · rcases it_c e with ⟨c_7, e⟩ | ⟨c_7, e⟩
          · obtain ⟨rfl, rfl⟩ := x_inj e
            exact absurd c (by decide)
          · rcases it_c e with ⟨c_8, e⟩ | ⟨c_8, e⟩
            · obtain ⟨oo_8, w_9, e⟩ := kv_c e
              rcases it_c e with ⟨c_10, e⟩ | ⟨c_10, e⟩
              · obtain ⟨rfl, rfl⟩ := x_inj e
                exact absurd c (by decide)
              · obtain ⟨tb_10, w_11, e⟩ := kv_c e
                rcases it_c e with ⟨c_12, e⟩ | ⟨c_12, e⟩
                · rcases it_c e with ⟨c_13, e⟩ | ⟨c_13, e⟩
                  · rcases it_c e with ⟨c_14, e⟩ | ⟨c_14, e⟩
                    · obtain ⟨rfl, rfl⟩ := x_inj e
                      exact absurd c (by decide)
                    · obtain ⟨rfl, rfl⟩ := x_inj e
                      exact m_afn hn c_14
                  · obtain ⟨t_14, w_15, e⟩ := kv_c e
                    rcases it_c e with ⟨c_16, e⟩ | ⟨c_16, e⟩
                    · obtain ⟨rfl, rfl⟩ := x_inj e
                      exact absurd c (by decide)
                    · obtain ⟨rfl, rfl⟩ := x_inj e
                      exact m_afn hn c_16
                · obtain ⟨rfl, rfl⟩ := x_inj e
                  exact absurd c (by decide)
            · obtain ⟨tb_17, w_17, e⟩ := kv_c e
              rcases it_c e with ⟨c_18, e⟩ | ⟨c_18, e⟩
              · obtain ⟨rfl, rfl⟩ := x_inj e
                exact absurd c (by decide)
              · obtain ⟨rfl, rfl⟩ := x_inj e
                exact m_afn hn c_18
        · obtain ⟨rfl, rfl⟩ := x_inj e
          exact absurd c (by decide)
  · obtain ⟨rfl, rfl⟩ := x_inj e
    exact m_kept_at hI ha c_1
theorem m_look_inv {n : Nat} {σ τ : MS} {a kp r : Int32} (hn : n ≤ 2048) (hI : m_Inv n σ) (e : m_look n σ a kp = (r, τ)) : m_Inv n τ := by
  rcases it_c e with ⟨c_1, e⟩ | ⟨c_1, e⟩
  · rcases it_c e with ⟨c_2, e⟩ | ⟨c_2, e⟩
    · obtain ⟨-, rfl⟩ := x_inj e
      exact hI
    · rcases it_c e with ⟨c_3, e⟩ | ⟨c_3, e⟩
      · rcases it_c e with ⟨c_4, e⟩ | ⟨c_4, e⟩
        · obtain ⟨-, rfl⟩ := x_inj e
          exact hI
        · obtain ⟨-, rfl⟩ := x_inj e
          exact hI
      · obtain ⟨wh_4, w_5, e⟩ := kv_c e
        rcases it_c e with ⟨c_6, e⟩ | ⟨c_6, e⟩
        · rcases it_c e with ⟨c_7, e⟩ | ⟨c_7, e⟩
          · obtain ⟨-, rfl⟩ := x_inj e
            exact hI
          · rcases it_c e with ⟨c_8, e⟩ | ⟨c_8, e⟩
            · obtain ⟨oo_8, w_9, e⟩ := kv_c e
              rcases it_c e with ⟨c_10, e⟩ | ⟨c_10, e⟩
              · obtain ⟨-, rfl⟩ := x_inj e
                exact hI
              · obtain ⟨tb_10, w_11, e⟩ := kv_c e
                rcases it_c e with ⟨c_12, e⟩ | ⟨c_12, e⟩
                · rcases it_c e with ⟨c_13, e⟩ | ⟨c_13, e⟩
                  · rcases it_c e with ⟨c_14, e⟩ | ⟨c_14, e⟩
                    · obtain ⟨-, rfl⟩ := x_inj e
                      exact hI
                    · obtain ⟨-, rfl⟩ := x_inj e
                      exact hI
                  · obtain ⟨t_14, w_15, e⟩ := kv_c e
                    rcases it_c e with ⟨c_16, e⟩ | ⟨c_16, e⟩
                    · obtain ⟨-, rfl⟩ := x_inj e
                      exact m_keeps_inv (τ := t_14) hI (m_afn hn c_10) w_15
                    · obtain ⟨-, rfl⟩ := x_inj e
                      exact m_keeps_inv (τ := t_14) hI (m_afn hn c_10) w_15
                · obtain ⟨-, rfl⟩ := x_inj e
                  exact hI
            · obtain ⟨tb_17, w_17, e⟩ := kv_c e
              rcases it_c e with ⟨c_18, e⟩ | ⟨c_18, e⟩
              · obtain ⟨-, rfl⟩ := x_inj e
                exact hI
              · obtain ⟨-, rfl⟩ := x_inj e
                exact hI
        · obtain ⟨-, rfl⟩ := x_inj e
          exact hI
  · obtain ⟨-, rfl⟩ := x_inj e
    exact hI
theorem m_tr_inv {n : Nat} {σ τ : MS} {a md b kp r : Int32} (hn : n ≤ 2048) (hI : m_Inv n σ) (ha : ∃ K : Nat, K < 65536 ∧ a = nI K) (e : m_translate n σ a md b kp = (r, τ)) : m_Inv n τ := by
  rcases it_c e with ⟨c_1, e⟩ | ⟨c_1, e⟩
  · obtain ⟨-, rfl⟩ := x_inj e
    exact hI
  · rcases it_c e with ⟨c_2, e⟩ | ⟨c_2, e⟩
    · obtain ⟨r_5, t_3, w_3, e⟩ := kb_c e
      rcases it_c e with ⟨c_4, e⟩ | ⟨c_4, e⟩
      · rcases it_c e with ⟨c_5, e⟩ | ⟨c_5, e⟩
        · obtain ⟨-, rfl⟩ := x_inj e
          have hI2 := m_look_inv hn hI w_3
          exact hI2
        · rcases it_c e with ⟨c_6, e⟩ | ⟨c_6, e⟩
          · rcases it_c e with ⟨c_7, e⟩ | ⟨c_7, e⟩
            · obtain ⟨-, rfl⟩ := x_inj e
              have hI2 := m_look_inv hn hI w_3
              exact hI2
            · obtain ⟨t_13, w_8, e⟩ := kv_c e
              obtain ⟨-, rfl⟩ := x_inj e
              have hI2 := m_look_inv hn hI w_3
              have h4 := m_look_in hn hI ha w_3 c_4
              exact m_keeps_inv hI2 h4 w_8
          · obtain ⟨-, rfl⟩ := x_inj e
            have hI2 := m_look_inv hn hI w_3
            exact hI2
      · rcases it_c e with ⟨c_9, e⟩ | ⟨c_9, e⟩
        · obtain ⟨-, rfl⟩ := x_inj e
          have hI2 := m_look_inv hn hI w_3
          exact hI2
        · obtain ⟨-, rfl⟩ := x_inj e
          have hI2 := m_look_inv hn hI w_3
          exact hI2
    · obtain ⟨r_18, t_16, w_10, e⟩ := kb_c e
      rcases it_c e with ⟨c_11, e⟩ | ⟨c_11, e⟩
      · rcases it_c e with ⟨c_12, e⟩ | ⟨c_12, e⟩
        · obtain ⟨-, rfl⟩ := x_inj e
          have hI2 := m_look_inv hn hI w_10
          exact hI2
        · rcases it_c e with ⟨c_13, e⟩ | ⟨c_13, e⟩
          · rcases it_c e with ⟨c_14, e⟩ | ⟨c_14, e⟩
            · obtain ⟨-, rfl⟩ := x_inj e
              have hI2 := m_look_inv hn hI w_10
              exact hI2
            · rcases it_c e with ⟨c_15, e⟩ | ⟨c_15, e⟩
              · obtain ⟨t_29, w_16, e⟩ := kv_c e
                obtain ⟨t_32, w_17, e⟩ := kv_c e
                obtain ⟨-, rfl⟩ := x_inj e
                have hI2 := m_look_inv hn hI w_10
                have h4 := m_look_in hn hI ha w_10 c_11
                have hI3 := m_putFour_inv (σ := m_sLk t_16 (m_lk t_16 ||| 67108864)) hI2 w_16
                refine m_keeps_inv hI3 ?_ w_17
                have h5 : m_ad t_29 = m_ad t_16 := by rw [← w_16]; exact (m_putFour_ad 5 0 _).1
                rw [h5]; exact h4
              · obtain ⟨t_27, w_18, e⟩ := kv_c e
                obtain ⟨-, rfl⟩ := x_inj e
                have hI2 := m_look_inv hn hI w_10
                have h4 := m_look_in hn hI ha w_10 c_11
                exact m_keeps_inv hI2 h4 w_18
          · obtain ⟨-, rfl⟩ := x_inj e
            have hI2 := m_look_inv hn hI w_10
            exact hI2
      · rcases it_c e with ⟨c_19, e⟩ | ⟨c_19, e⟩
        · obtain ⟨-, rfl⟩ := x_inj e
          have hI2 := m_look_inv hn hI w_10
          exact hI2
        · obtain ⟨-, rfl⟩ := x_inj e
          have hI2 := m_look_inv hn hI w_10
          exact hI2
end
section
set_option maxHeartbeats 4000000 in
set_option maxRecDepth 100000 in
theorem c_m_regionOf (l : Launch) (a : Int32) : Met l yX1_regionOf wsX1_regionOf ({ frames := 0, cells := 0, slots := 0, locals := 0 }) (va_Pc [.int a] (fun _ => True)) (vp_Si (fun r => m_regionOf a = r)) 0 0 (fun _ => False) := by
  refine Met.ofW (cc := cX1_regionOf) (maxL := 1) (ret := (some .int)) (by decide) rfl ?_
  intro p e s m args below meth c s₁ B hml hv
  obtain ⟨rfl, -⟩ := hv
  have hx := B.exec
  have hb := B.bytes
  have hr := B.returns
  have hts : ∀ w ∈ bX1, w.before _ s = true := fun w h => atoms_spec (ws := wsX1_regionOf) B.pre w (List.mem_cons_of_mem _ h)
  have hown : s.vm.findClass RX1 = some m.cls := findClass_of_methodNamed B.named
  have hlocks := B.notSynchronized
  have hl := lv_entry ([.int a]) (n := 1) (Nat.le_of_ble_eq_true rfl)
  rw [lg_entry_eq]
  generalize (lg_sl ([.int a]) ++ List.replicate (1 - (lg_sl ([.int a])).length) Slot.unset).toArray = ls at hl ⊢
  have hl : lv_has ls 1 [(0, .int a)] := hl
  refine lv_iload_n hx hb dX1_regionOf_0 rfl (lv_at hl 0 rfl) ?_
  refine lv_bipush (v := 14) hx hb dX1_regionOf_1 (by decide) ?_
  refine lv_ishr hx hb dX1_regionOf_3 ?_
  refine lv_iconst (v := 3) hx hb dX1_regionOf_4 (by decide) ?_
  refine lv_iand hx hb dX1_regionOf_5 ?_
  exact W.iret (v := ((a >>> (14 &&& 31)) &&& 3)) hx hb hr (fun t ht _ => ⟨((a >>> (14 &&& 31)) &&& 3), rfl, rfl, ht⟩) t_nil dX1_regionOf_6
set_option maxHeartbeats 4000000 in
set_option maxRecDepth 100000 in
theorem c_m_pageOf (l : Launch) (a : Int32) : Met l yX1_pageOf wsX1_pageOf ({ frames := 0, cells := 0, slots := 0, locals := 0 }) (va_Pc [.int a] (fun _ => True)) (vp_Si (fun r => m_pageOf a = r)) 0 0 (fun _ => False) := by
  refine Met.ofW (cc := cX1_pageOf) (maxL := 1) (ret := (some .int)) (by decide) rfl ?_
  intro p e s m args below meth c s₁ B hml hv
  obtain ⟨rfl, -⟩ := hv
  have hx := B.exec
  have hb := B.bytes
  have hr := B.returns
  have hts : ∀ w ∈ bX1, w.before _ s = true := fun w h => atoms_spec (ws := wsX1_pageOf) B.pre w (List.mem_cons_of_mem _ h)
  have hown : s.vm.findClass RX1 = some m.cls := findClass_of_methodNamed B.named
  have hlocks := B.notSynchronized
  have hl := lv_entry ([.int a]) (n := 1) (Nat.le_of_ble_eq_true rfl)
  rw [lg_entry_eq]
  generalize (lg_sl ([.int a]) ++ List.replicate (1 - (lg_sl ([.int a])).length) Slot.unset).toArray = ls at hl ⊢
  have hl : lv_has ls 1 [(0, .int a)] := hl
  refine lv_iload_n hx hb dX1_pageOf_0 rfl (lv_at hl 0 rfl) ?_
  refine lv_iconst (v := 4) hx hb dX1_pageOf_1 (by decide) ?_
  refine lv_ishr hx hb dX1_pageOf_2 ?_
  refine lv_sipush (v := 1023) hx hb dX1_pageOf_3 (by decide) ?_
  refine lv_iand hx hb dX1_pageOf_6 ?_
  exact W.iret (v := ((a >>> (4 &&& 31)) &&& 1023)) hx hb hr (fun t ht _ => ⟨((a >>> (4 &&& 31)) &&& 1023), rfl, rfl, ht⟩) t_nil dX1_pageOf_7
set_option maxHeartbeats 4000000 in
set_option maxRecDepth 100000 in
theorem c_m_slot (l : Launch) (a : Int32) : Met l yX1_slot wsX1_slot ({ frames := 1, cells := 0, slots := 0, locals := 20 }) (va_Pc [.int a] (fun _ => True)) (vp_Si (fun r => m_slot a = r)) 0 0 (fun _ => False) := by
  refine Met.ofW (cc := cX1_slot) (maxL := 1) (ret := (some .int)) (by decide) rfl ?_
  intro p e s m args below meth c s₁ B hml hv
  obtain ⟨rfl, -⟩ := hv
  have hx := B.exec
  have hb := B.bytes
  have hr := B.returns
  have hts : ∀ w ∈ bX1, w.before _ s = true := fun w h => atoms_spec (ws := wsX1_slot) B.pre w (List.mem_cons_of_mem _ h)
  have hown : s.vm.findClass RX1 = some m.cls := findClass_of_methodNamed B.named
  have hlocks := B.notSynchronized
  have hl := lv_entry ([.int a]) (n := 1) (Nat.le_of_ble_eq_true rfl)
  rw [lg_entry_eq]
  generalize (lg_sl ([.int a]) ++ List.replicate (1 - (lg_sl ([.int a])).length) Slot.unset).toArray = ls at hl ⊢
  have hl : lv_has ls 1 [(0, .int a)] := hl
  refine lv_iload_n hx hb dX1_slot_0 rfl (lv_at hl 0 rfl) ?_
  refine vp_callSi (W.runS (As := [.int a]) (rest := []) ⟨hx, hb, hml, hown, hts⟩ (c_m_regionOf l a ) (va_cwS 1 hts gX1_X1_regionOf rfl rfl rfl (by decide +kernel) ⟨Nat.le_of_ble_eq_true rfl, Nat.le_of_ble_eq_true rfl⟩) (fs_pre) rfl rfl hl.1 rfl (lv_room (Nat.le_of_ble_eq_true rfl)) dX1_slot_1 ⟨Nat.zero_le _, Nat.zero_le _⟩) (fun r er => ?_)
  subst er
  refine lv_iconst (v := 2) hx hb dX1_slot_4 (by decide) ?_
  refine lv_icmp_ne (tgt := 13) hx hb dX1_slot_5 (by decide) (fun c_1 => ?_) (fun c_1 => ?_)
  · refine lv_iconst (v := 0) hx hb dX1_slot_13 (by decide) ?_
    refine lv_iload_n hx hb dX1_slot_14 rfl (lv_at hl 0 rfl) ?_
    refine vp_callSi (W.runS (As := [.int a]) (rest := [.int 0]) ⟨hx, hb, hml, hown, hts⟩ (c_m_pageOf l a ) (va_cwS 1 hts gX1_X1_pageOf rfl rfl rfl (by decide +kernel) ⟨Nat.le_of_ble_eq_true rfl, Nat.le_of_ble_eq_true rfl⟩) (fs_pre) rfl rfl hl.1 rfl (lv_room (Nat.le_of_ble_eq_true rfl)) dX1_slot_15 ⟨Nat.zero_le _, Nat.zero_le _⟩) (fun r er => ?_)
    subst er
    refine lv_bipush (v := 8) hx hb dX1_slot_18 (by decide) ?_
    refine lv_irem hx hb dX1_slot_20 (by decide) ?_
    refine lv_iadd hx hb dX1_slot_21 ?_
    exact W.iret (v := ((0 : Int32) + ((m_pageOf a) - (m_pageOf a) / 8 * 8))) hx hb hr (fun t ht _ => ⟨((0 : Int32) + ((m_pageOf a) - (m_pageOf a) / 8 * 8)), rfl, (if_neg c_1).trans rfl, ht⟩) t_nil dX1_slot_22
  · refine lv_bipush (v := 8) hx hb dX1_slot_8 (by decide) ?_
    refine lv_goto (tgt := 14) hx hb dX1_slot_10 (by decide) ?_
    refine lv_iload_n hx hb dX1_slot_14 rfl (lv_at hl 0 rfl) ?_
    refine vp_callSi (W.runS (As := [.int a]) (rest := [.int 8]) ⟨hx, hb, hml, hown, hts⟩ (c_m_pageOf l a ) (va_cwS 1 hts gX1_X1_pageOf rfl rfl rfl (by decide +kernel) ⟨Nat.le_of_ble_eq_true rfl, Nat.le_of_ble_eq_true rfl⟩) (fs_pre) rfl rfl hl.1 rfl (lv_room (Nat.le_of_ble_eq_true rfl)) dX1_slot_15 ⟨Nat.zero_le _, Nat.zero_le _⟩) (fun r er => ?_)
    subst er
    refine lv_bipush (v := 8) hx hb dX1_slot_18 (by decide) ?_
    refine lv_irem hx hb dX1_slot_20 (by decide) ?_
    refine lv_iadd hx hb dX1_slot_21 ?_
    exact W.iret (v := ((8 : Int32) + ((m_pageOf a) - (m_pageOf a) / 8 * 8))) hx hb hr (fun t ht _ => ⟨((8 : Int32) + ((m_pageOf a) - (m_pageOf a) / 8 * 8)), rfl, (if_pos c_1).trans rfl, ht⟩) t_nil dX1_slot_22
set_option maxHeartbeats 4000000 in
set_option maxRecDepth 100000 in
theorem c_m_isSize (l : Launch) (k : Int32) : Met l yX1_isSize wsX1_isSize ({ frames := 0, cells := 0, slots := 0, locals := 0 }) (va_Pc [.int k] (fun _ => True)) (vp_Si (fun r => m_isSize k = r)) 0 0 (fun _ => False) := by
  refine Met.ofW (cc := cX1_isSize) (maxL := 1) (ret := (some .boolean)) (by decide) rfl ?_
  intro p e s m args below meth c s₁ B hml hv
  obtain ⟨rfl, -⟩ := hv
  have hx := B.exec
  have hb := B.bytes
  have hr := B.returns
  have hts : ∀ w ∈ bX1, w.before _ s = true := fun w h => atoms_spec (ws := wsX1_isSize) B.pre w (List.mem_cons_of_mem _ h)
  have hown : s.vm.findClass RX1 = some m.cls := findClass_of_methodNamed B.named
  have hlocks := B.notSynchronized
  have hl := lv_entry ([.int k]) (n := 1) (Nat.le_of_ble_eq_true rfl)
  rw [lg_entry_eq]
  generalize (lg_sl ([.int k]) ++ List.replicate (1 - (lg_sl ([.int k])).length) Slot.unset).toArray = ls at hl ⊢
  have hl : lv_has ls 1 [(0, .int k)] := hl
  refine lv_iload_n hx hb dX1_isSize_0 rfl (lv_at hl 0 rfl) ?_
  refine lv_iconst (v := 1) hx hb dX1_isSize_1 (by decide) ?_
  refine lv_icmp_eq (tgt := 15) hx hb dX1_isSize_2 (by decide) (fun c_1 => ?_) (fun c_1 => ?_)
  · refine lv_iconst (v := 1) hx hb dX1_isSize_15 (by decide) ?_
    refine lv_goto (tgt := 20) hx hb dX1_isSize_16 (by decide) ?_
    exact W.zret (ty := .boolean) (v := 1) hx hb hr rfl (fun t ht _ => ⟨1, rfl, (if_pos c_1).trans rfl, ht⟩) t_nil dX1_isSize_20
  · refine lv_iload_n hx hb dX1_isSize_5 rfl (lv_at hl 0 rfl) ?_
    refine lv_iconst (v := 2) hx hb dX1_isSize_6 (by decide) ?_
    refine lv_icmp_eq (tgt := 15) hx hb dX1_isSize_7 (by decide) (fun c_2 => ?_) (fun c_2 => ?_)
    · refine lv_iconst (v := 1) hx hb dX1_isSize_15 (by decide) ?_
      refine lv_goto (tgt := 20) hx hb dX1_isSize_16 (by decide) ?_
      exact W.zret (ty := .boolean) (v := 1) hx hb hr rfl (fun t ht _ => ⟨1, rfl, (if_neg c_1).trans ((if_pos c_2).trans rfl), ht⟩) t_nil dX1_isSize_20
    · refine lv_iload_n hx hb dX1_isSize_10 rfl (lv_at hl 0 rfl) ?_
      refine lv_iconst (v := 4) hx hb dX1_isSize_11 (by decide) ?_
      refine lv_icmp_ne (tgt := 19) hx hb dX1_isSize_12 (by decide) (fun c_3 => ?_) (fun c_3 => ?_)
      · refine lv_iconst (v := 0) hx hb dX1_isSize_19 (by decide) ?_
        exact W.zret (ty := .boolean) (v := 0) hx hb hr rfl (fun t ht _ => ⟨0, rfl, (if_neg c_1).trans ((if_neg c_2).trans ((if_neg c_3).trans rfl)), ht⟩) t_nil dX1_isSize_20
      · refine lv_iconst (v := 1) hx hb dX1_isSize_15 (by decide) ?_
        refine lv_goto (tgt := 20) hx hb dX1_isSize_16 (by decide) ?_
        exact W.zret (ty := .boolean) (v := 1) hx hb hr rfl (fun t ht _ => ⟨1, rfl, (if_neg c_1).trans ((if_neg c_2).trans ((if_pos c_3).trans rfl)), ht⟩) t_nil dX1_isSize_20
set_option maxHeartbeats 4000000 in
set_option maxRecDepth 100000 in
theorem c_m_isThere (l : Launch) (dC : Nat → ClassId) (dI : Nat → Nat → Nat) (h : Nat → Nat) (cI : ClassId) (n : Nat) (σ : MS) (a : Int32) : Met l yX1_isThere wsX1_isThere ({ frames := 0, cells := 0, slots := 0, locals := 0 }) (va_Pc [.ref (h 0), .int a] (m_BP dC dI h cI n σ)) (vp_Si (fun r => m_isThere n σ a = r)) 0 0 (fun _ => False) := by
  refine Met.ofW (cc := cX1_isThere) (maxL := 2) (ret := (some .boolean)) (by decide) rfl ?_
  intro p e s m args below meth c s₁ B hml hv
  obtain ⟨rfl, hP, hK⟩ := hv
  have hx := B.exec
  have hb := B.bytes
  have hr := B.returns
  have hts : ∀ w ∈ bX1, w.before _ s = true := fun w h => atoms_spec (ws := wsX1_isThere) B.pre w (List.mem_cons_of_mem _ h)
  have hown : s.vm.findClass RX1 = some m.cls := findClass_of_methodNamed B.named
  have hlocks := B.notSynchronized
  have hl := lv_entry ([.ref (h 0), .int a]) (n := 2) (Nat.le_of_ble_eq_true rfl)
  rw [lg_entry_eq]
  generalize (lg_sl ([.ref (h 0), .int a]) ++ List.replicate (2 - (lg_sl ([.ref (h 0), .int a])).length) Slot.unset).toArray = ls at hl ⊢
  have hl : lv_has ls 2 [(0, .ref (h 0)), (1, .int a)] := hl
  refine lv_iload_n hx hb dX1_isThere_0 rfl (lv_at hl 1 rfl) ?_
  refine lv_if_lt (tgt := 16) hx hb dX1_isThere_1 (by decide) (fun c_1 => ?_) (fun c_1 => ?_)
  · refine lv_iconst (v := 0) hx hb dX1_isThere_16 (by decide) ?_
    exact W.zret (ty := .boolean) (v := 0) hx hb hr rfl (fun t ht _ => ⟨0, rfl, (if_pos c_1).trans rfl, ht⟩) t_nil dX1_isThere_17
  · refine lv_iload_n hx hb dX1_isThere_4 rfl (lv_at hl 1 rfl) ?_
    refine lv_aload_n hx hb dX1_isThere_5 rfl (lv_at hl 0 rfl) ?_
    refine va_get (D := (dC, dI)) (ci := 1) (v := .int (nI n)) (C := RX1) (T := TX1) (N := 14) hx hb hts inbX1 hown hK hP 0 rfl rfl 1 (by decide) (hts _ bX1_1) (fun _ h9 => h9) rfl dX1_isThere_6 ?_
    refine lv_icmp_ge (tgt := 16) hx hb dX1_isThere_9 (by decide) (fun c_2 => ?_) (fun c_2 => ?_)
    · refine lv_iconst (v := 0) hx hb dX1_isThere_16 (by decide) ?_
      exact W.zret (ty := .boolean) (v := 0) hx hb hr rfl (fun t ht _ => ⟨0, rfl, (if_neg c_1).trans ((if_pos c_2).trans rfl), ht⟩) t_nil dX1_isThere_17
    · refine lv_iconst (v := 1) hx hb dX1_isThere_12 (by decide) ?_
      refine lv_goto (tgt := 17) hx hb dX1_isThere_13 (by decide) ?_
      exact W.zret (ty := .boolean) (v := 1) hx hb hr rfl (fun t ht _ => ⟨1, rfl, (if_neg c_1).trans ((if_neg c_2).trans rfl), ht⟩) t_nil dX1_isThere_17
set_option maxHeartbeats 4000000 in
set_option maxRecDepth 100000 in
theorem c_m_areFour (l : Launch) (dC : Nat → ClassId) (dI : Nat → Nat → Nat) (h : Nat → Nat) (cI : ClassId) (n : Nat) (σ : MS) (a : Int32) : Met l yX1_areFour wsX1_areFour ({ frames := 0, cells := 0, slots := 0, locals := 0 }) (va_Pc [.ref (h 0), .int a] (m_BP dC dI h cI n σ)) (vp_Si (fun r => m_areFour n σ a = r)) 0 0 (fun _ => False) := by
  refine Met.ofW (cc := cX1_areFour) (maxL := 2) (ret := (some .boolean)) (by decide) rfl ?_
  intro p e s m args below meth c s₁ B hml hv
  obtain ⟨rfl, hP, hK⟩ := hv
  have hx := B.exec
  have hb := B.bytes
  have hr := B.returns
  have hts : ∀ w ∈ bX1, w.before _ s = true := fun w h => atoms_spec (ws := wsX1_areFour) B.pre w (List.mem_cons_of_mem _ h)
  have hown : s.vm.findClass RX1 = some m.cls := findClass_of_methodNamed B.named
  have hlocks := B.notSynchronized
  have hl := lv_entry ([.ref (h 0), .int a]) (n := 2) (Nat.le_of_ble_eq_true rfl)
  rw [lg_entry_eq]
  generalize (lg_sl ([.ref (h 0), .int a]) ++ List.replicate (2 - (lg_sl ([.ref (h 0), .int a])).length) Slot.unset).toArray = ls at hl ⊢
  have hl : lv_has ls 2 [(0, .ref (h 0)), (1, .int a)] := hl
  refine lv_iload_n hx hb dX1_areFour_0 rfl (lv_at hl 1 rfl) ?_
  refine lv_if_lt (tgt := 18) hx hb dX1_areFour_1 (by decide) (fun c_1 => ?_) (fun c_1 => ?_)
  · refine lv_iconst (v := 0) hx hb dX1_areFour_18 (by decide) ?_
    exact W.zret (ty := .boolean) (v := 0) hx hb hr rfl (fun t ht _ => ⟨0, rfl, (if_pos c_1).trans rfl, ht⟩) t_nil dX1_areFour_19
  · refine lv_iload_n hx hb dX1_areFour_4 rfl (lv_at hl 1 rfl) ?_
    refine lv_aload_n hx hb dX1_areFour_5 rfl (lv_at hl 0 rfl) ?_
    refine va_get (D := (dC, dI)) (ci := 1) (v := .int (nI n)) (C := RX1) (T := TX1) (N := 14) hx hb hts inbX1 hown hK hP 0 rfl rfl 1 (by decide) (hts _ bX1_1) (fun _ h9 => h9) rfl dX1_areFour_6 ?_
    refine lv_iconst (v := 4) hx hb dX1_areFour_9 (by decide) ?_
    refine lv_isub hx hb dX1_areFour_10 ?_
    refine lv_icmp_gt (tgt := 18) hx hb dX1_areFour_11 (by decide) (fun c_2 => ?_) (fun c_2 => ?_)
    · refine lv_iconst (v := 0) hx hb dX1_areFour_18 (by decide) ?_
      exact W.zret (ty := .boolean) (v := 0) hx hb hr rfl (fun t ht _ => ⟨0, rfl, (if_neg c_1).trans ((if_pos c_2).trans rfl), ht⟩) t_nil dX1_areFour_19
    · refine lv_iconst (v := 1) hx hb dX1_areFour_14 (by decide) ?_
      refine lv_goto (tgt := 19) hx hb dX1_areFour_15 (by decide) ?_
      exact W.zret (ty := .boolean) (v := 1) hx hb hr rfl (fun t ht _ => ⟨1, rfl, (if_neg c_1).trans ((if_neg c_2).trans rfl), ht⟩) t_nil dX1_areFour_19
set_option maxHeartbeats 4000000 in
set_option maxRecDepth 100000 in
theorem c_m_four (l : Launch) (dC : Nat → ClassId) (dI : Nat → Nat → Nat) (h : Nat → Nat) (cI : ClassId) (n : Nat) (σ : MS) (a : Int32) (hk : x_in4 2048 a) : Met l yX1_four wsX1_four ({ frames := 0, cells := 0, slots := 0, locals := 0 }) (va_Pc [.ref (h 0), .int a] (m_BP dC dI h cI n σ)) (vp_Si (fun r => m_four n σ a = r)) 0 0 (fun _ => False) := by
  refine Met.ofW (cc := cX1_four) (maxL := 2) (ret := (some .int)) (by decide) rfl ?_
  intro p e s m args below meth c s₁ B hml hv
  obtain ⟨rfl, hP, hK⟩ := hv
  have hx := B.exec
  have hb := B.bytes
  have hr := B.returns
  have hts : ∀ w ∈ bX1, w.before _ s = true := fun w h => atoms_spec (ws := wsX1_four) B.pre w (List.mem_cons_of_mem _ h)
  have hown : s.vm.findClass RX1 = some m.cls := findClass_of_methodNamed B.named
  have hlocks := B.notSynchronized
  have hl := lv_entry ([.ref (h 0), .int a]) (n := 2) (Nat.le_of_ble_eq_true rfl)
  rw [lg_entry_eq]
  generalize (lg_sl ([.ref (h 0), .int a]) ++ List.replicate (2 - (lg_sl ([.ref (h 0), .int a])).length) Slot.unset).toArray = ls at hl ⊢
  have hl : lv_has ls 2 [(0, .ref (h 0)), (1, .int a)] := hl
  refine lv_aload_n hx hb dX1_four_0 rfl (lv_at hl 0 rfl) ?_
  refine va_get (D := (dC, dI)) (ci := 1) (v := .ref (h 1)) (C := RX1) (T := TX1) (N := 14) hx hb hts inbX1 hown hK hP 0 rfl rfl 0 (by decide) (hts _ bX1_0) (fun _ h9 => h9) rfl dX1_four_1 ?_
  refine lv_iload_n hx hb dX1_four_4 rfl (lv_at hl 1 rfl) ?_
  refine va_iald hx hb hK hP 1 0 rfl rfl hk.1 dX1_four_5 ?_
  refine lv_aload_n hx hb dX1_four_6 rfl (lv_at hl 0 rfl) ?_
  refine va_get (D := (dC, dI)) (ci := 1) (v := .ref (h 1)) (C := RX1) (T := TX1) (N := 14) hx hb hts inbX1 hown hK hP 0 rfl rfl 0 (by decide) (hts _ bX1_0) (fun _ h9 => h9) rfl dX1_four_7 ?_
  refine lv_iload_n hx hb dX1_four_10 rfl (lv_at hl 1 rfl) ?_
  refine lv_iconst (v := 1) hx hb dX1_four_11 (by decide) ?_
  refine lv_iadd hx hb dX1_four_12 ?_
  refine va_iald hx hb hK hP 1 0 rfl rfl hk.2.1 dX1_four_13 ?_
  refine lv_bipush (v := 8) hx hb dX1_four_14 (by decide) ?_
  refine lv_ishl hx hb dX1_four_16 ?_
  refine lv_ior hx hb dX1_four_17 ?_
  refine lv_aload_n hx hb dX1_four_18 rfl (lv_at hl 0 rfl) ?_
  refine va_get (D := (dC, dI)) (ci := 1) (v := .ref (h 1)) (C := RX1) (T := TX1) (N := 14) hx hb hts inbX1 hown hK hP 0 rfl rfl 0 (by decide) (hts _ bX1_0) (fun _ h9 => h9) rfl dX1_four_19 ?_
  refine lv_iload_n hx hb dX1_four_22 rfl (lv_at hl 1 rfl) ?_
  refine lv_iconst (v := 2) hx hb dX1_four_23 (by decide) ?_
  refine lv_iadd hx hb dX1_four_24 ?_
  refine va_iald hx hb hK hP 1 0 rfl rfl hk.2.2.1 dX1_four_25 ?_
  refine lv_bipush (v := 16) hx hb dX1_four_26 (by decide) ?_
  refine lv_ishl hx hb dX1_four_28 ?_
  refine lv_ior hx hb dX1_four_29 ?_
  refine lv_aload_n hx hb dX1_four_30 rfl (lv_at hl 0 rfl) ?_
  refine va_get (D := (dC, dI)) (ci := 1) (v := .ref (h 1)) (C := RX1) (T := TX1) (N := 14) hx hb hts inbX1 hown hK hP 0 rfl rfl 0 (by decide) (hts _ bX1_0) (fun _ h9 => h9) rfl dX1_four_31 ?_
  refine lv_iload_n hx hb dX1_four_34 rfl (lv_at hl 1 rfl) ?_
  refine lv_iconst (v := 3) hx hb dX1_four_35 (by decide) ?_
  refine lv_iadd hx hb dX1_four_36 ?_
  refine va_iald hx hb hK hP 1 0 rfl rfl hk.2.2.2 dX1_four_37 ?_
  refine lv_bipush (v := 24) hx hb dX1_four_38 (by decide) ?_
  refine lv_ishl hx hb dX1_four_40 ?_
  refine lv_ior hx hb dX1_four_41 ?_
  exact W.iret (v := ((((m_mem σ (a).toNatClampNeg) ||| ((m_mem σ ((a + 1)).toNatClampNeg) <<< (8 &&& 31))) ||| ((m_mem σ ((a + 2)).toNatClampNeg) <<< (16 &&& 31))) ||| ((m_mem σ ((a + 3)).toNatClampNeg) <<< (24 &&& 31)))) hx hb hr (fun t ht _ => ⟨((((m_mem σ (a).toNatClampNeg) ||| ((m_mem σ ((a + 1)).toNatClampNeg) <<< (8 &&& 31))) ||| ((m_mem σ ((a + 2)).toNatClampNeg) <<< (16 &&& 31))) ||| ((m_mem σ ((a + 3)).toNatClampNeg) <<< (24 &&& 31))), rfl, rfl, ht⟩) t_nil dX1_four_42
set_option maxHeartbeats 4000000 in
set_option maxRecDepth 100000 in
theorem c_m_isKept (l : Launch) (dC : Nat → ClassId) (dI : Nat → Nat → Nat) (h : Nat → Nat) (cI : ClassId) (n : Nat) (σ : MS) (a : Int32) : Met l yX1_isKept wsX1_isKept ({ frames := 2, cells := 0, slots := 0, locals := 40 }) (va_Pc [.ref (h 0), .int a] (m_BP dC dI h cI n σ)) (vp_Si (fun r => m_isKept n σ a = r)) 0 0 (fun _ => False) := by
  refine Met.ofW (cc := cX1_isKept) (maxL := 2) (ret := (some .boolean)) (by decide) rfl ?_
  intro p e s m args below meth c s₁ B hml hv
  obtain ⟨rfl, hP, hK⟩ := hv
  have hx := B.exec
  have hb := B.bytes
  have hr := B.returns
  have hts : ∀ w ∈ bX1, w.before _ s = true := fun w h => atoms_spec (ws := wsX1_isKept) B.pre w (List.mem_cons_of_mem _ h)
  have hown : s.vm.findClass RX1 = some m.cls := findClass_of_methodNamed B.named
  have hlocks := B.notSynchronized
  have hl := lv_entry ([.ref (h 0), .int a]) (n := 2) (Nat.le_of_ble_eq_true rfl)
  rw [lg_entry_eq]
  generalize (lg_sl ([.ref (h 0), .int a]) ++ List.replicate (2 - (lg_sl ([.ref (h 0), .int a])).length) Slot.unset).toArray = ls at hl ⊢
  have hl : lv_has ls 2 [(0, .ref (h 0)), (1, .int a)] := hl
  refine lv_aload_n hx hb dX1_isKept_0 rfl (lv_at hl 0 rfl) ?_
  refine va_get (D := (dC, dI)) (ci := 1) (v := .ref (h 4)) (C := RX1) (T := TX1) (N := 14) hx hb hts inbX1 hown hK hP 0 rfl rfl 5 (by decide) (hts _ bX1_5) (fun _ h9 => h9) rfl dX1_isKept_1 ?_
  refine lv_iload_n hx hb dX1_isKept_4 rfl (lv_at hl 1 rfl) ?_
  refine vp_callSi (W.runS (As := [.int a]) (rest := [.ref (h 4)]) ⟨hx, hb, hml, hown, hts⟩ (c_m_slot l a ) (va_cwS 1 hts gX1_X1_slot rfl rfl rfl (by decide +kernel) ⟨Nat.le_of_ble_eq_true rfl, Nat.le_of_ble_eq_true rfl⟩) (fs_pre) rfl rfl hl.1 rfl (lv_room (Nat.le_of_ble_eq_true rfl)) dX1_isKept_5 ⟨Nat.zero_le _, Nat.zero_le _⟩) (fun r er => ?_)
  subst er
  refine va_iald hx hb hK hP 4 0 rfl rfl (m_slot_in a) dX1_isKept_8 ?_
  refine lv_iload_n hx hb dX1_isKept_9 rfl (lv_at hl 1 rfl) ?_
  refine lv_ldc (v := 65520) hx hb hown (hts _ bX1_17) dX1_isKept_10 ?_
  refine lv_iand hx hb dX1_isKept_12 ?_
  refine lv_icmp_ne (tgt := 20) hx hb dX1_isKept_13 (by decide) (fun c_1 => ?_) (fun c_1 => ?_)
  · refine lv_iconst (v := 0) hx hb dX1_isKept_20 (by decide) ?_
    exact W.zret (ty := .boolean) (v := 0) hx hb hr rfl (fun t ht _ => ⟨0, rfl, (if_neg c_1).trans rfl, ht⟩) t_nil dX1_isKept_21
  · refine lv_iconst (v := 1) hx hb dX1_isKept_16 (by decide) ?_
    refine lv_goto (tgt := 21) hx hb dX1_isKept_17 (by decide) ?_
    exact W.zret (ty := .boolean) (v := 1) hx hb hr rfl (fun t ht _ => ⟨1, rfl, (if_pos c_1).trans rfl, ht⟩) t_nil dX1_isKept_21
set_option maxHeartbeats 4000000 in
set_option maxRecDepth 100000 in
theorem c_m_isInside (l : Launch) (dC : Nat → ClassId) (dI : Nat → Nat → Nat) (h : Nat → Nat) (cI : ClassId) (n : Nat) (σ : MS) (a : Int32) : Met l yX1_isInside wsX1_isInside ({ frames := 1, cells := 0, slots := 0, locals := 20 }) (va_Pc [.ref (h 0), .int a] (m_BP dC dI h cI n σ)) (vp_Si (fun r => m_isInside n σ a = r)) 0 0 (fun _ => False) := by
  refine Met.ofW (cc := cX1_isInside) (maxL := 3) (ret := (some .boolean)) (by decide) rfl ?_
  intro p e s m args below meth c s₁ B hml hv
  obtain ⟨rfl, hP, hK⟩ := hv
  have hx := B.exec
  have hb := B.bytes
  have hr := B.returns
  have hts : ∀ w ∈ bX1, w.before _ s = true := fun w h => atoms_spec (ws := wsX1_isInside) B.pre w (List.mem_cons_of_mem _ h)
  have hown : s.vm.findClass RX1 = some m.cls := findClass_of_methodNamed B.named
  have hlocks := B.notSynchronized
  have hl := lv_entry ([.ref (h 0), .int a]) (n := 3) (Nat.le_of_ble_eq_true rfl)
  rw [lg_entry_eq]
  generalize (lg_sl ([.ref (h 0), .int a]) ++ List.replicate (3 - (lg_sl ([.ref (h 0), .int a])).length) Slot.unset).toArray = ls at hl ⊢
  have hl : lv_has ls 3 [(0, .ref (h 0)), (1, .int a)] := hl
  refine lv_iload_n hx hb dX1_isInside_0 rfl (lv_at hl 1 rfl) ?_
  refine vp_callSi (W.runS (As := [.int a]) (rest := []) ⟨hx, hb, hml, hown, hts⟩ (c_m_regionOf l a ) (va_cwS 1 hts gX1_X1_regionOf rfl rfl rfl (by decide +kernel) ⟨Nat.le_of_ble_eq_true rfl, Nat.le_of_ble_eq_true rfl⟩) (fs_pre) rfl rfl hl.1 rfl (lv_room (Nat.le_of_ble_eq_true rfl)) dX1_isInside_1 ⟨Nat.zero_le _, Nat.zero_le _⟩) (fun r er => ?_)
  subst er
  refine lv_istore_n (lv' := [(2, .int (m_regionOf a)), (0, .ref (h 0)), (1, .int a)]) hx hb dX1_isInside_4 rfl hl (by decide) rfl (fun ls hl => ?_)
  refine lv_iload_n hx hb dX1_isInside_5 rfl (lv_at hl 0 rfl) ?_
  refine lv_iconst (v := 1) hx hb dX1_isInside_6 (by decide) ?_
  refine lv_icmp_ne (tgt := 29) hx hb dX1_isInside_7 (by decide) (fun c_1 => ?_) (fun c_1 => ?_)
  · refine lv_iload_n hx hb dX1_isInside_29 rfl (lv_at hl 0 rfl) ?_
    refine lv_iconst (v := 3) hx hb dX1_isInside_30 (by decide) ?_
    refine lv_icmp_eq (tgt := 51) hx hb dX1_isInside_31 (by decide) (fun c_2 => ?_) (fun c_2 => ?_)
    · refine lv_iconst (v := 0) hx hb dX1_isInside_51 (by decide) ?_
      exact W.zret (ty := .boolean) (v := 0) hx hb hr rfl (fun t ht _ => ⟨0, rfl, (if_neg c_1).trans ((if_pos c_2).trans rfl), ht⟩) t_nil dX1_isInside_52
    · refine lv_iload_n hx hb dX1_isInside_34 rfl (lv_at hl 2 rfl) ?_
      refine vp_callSi (W.runS (As := [.int a]) (rest := []) ⟨hx, hb, hml, hown, hts⟩ (c_m_pageOf l a ) (va_cwS 1 hts gX1_X1_pageOf rfl rfl rfl (by decide +kernel) ⟨Nat.le_of_ble_eq_true rfl, Nat.le_of_ble_eq_true rfl⟩) (fs_pre) rfl rfl hl.1 rfl (lv_room (Nat.le_of_ble_eq_true rfl)) dX1_isInside_35 ⟨Nat.zero_le _, Nat.zero_le _⟩) (fun r er => ?_)
      subst er
      refine lv_aload_n hx hb dX1_isInside_38 rfl (lv_at hl 1 rfl) ?_
      refine va_get (D := (dC, dI)) (ci := 1) (v := .ref (h 3)) (C := RX1) (T := TX1) (N := 14) hx hb hts inbX1 hown hK hP 0 rfl rfl 3 (by decide) (hts _ bX1_3) (fun _ h9 => h9) rfl dX1_isInside_39 ?_
      refine lv_iload_n hx hb dX1_isInside_42 rfl (lv_at hl 0 rfl) ?_
      refine va_iald hx hb hK hP 3 0 rfl rfl (m_r3 (m_region_in a) c_2) dX1_isInside_43 ?_
      refine lv_icmp_ge (tgt := 51) hx hb dX1_isInside_44 (by decide) (fun c_3 => ?_) (fun c_3 => ?_)
      · refine lv_iconst (v := 0) hx hb dX1_isInside_51 (by decide) ?_
        exact W.zret (ty := .boolean) (v := 0) hx hb hr rfl (fun t ht _ => ⟨0, rfl, (if_neg c_1).trans ((if_neg c_2).trans ((if_pos c_3).trans rfl)), ht⟩) t_nil dX1_isInside_52
      · refine lv_iconst (v := 1) hx hb dX1_isInside_47 (by decide) ?_
        refine lv_goto (tgt := 52) hx hb dX1_isInside_48 (by decide) ?_
        exact W.zret (ty := .boolean) (v := 1) hx hb hr rfl (fun t ht _ => ⟨1, rfl, (if_neg c_1).trans ((if_neg c_2).trans ((if_neg c_3).trans rfl)), ht⟩) t_nil dX1_isInside_52
  · refine lv_iload_n hx hb dX1_isInside_10 rfl (lv_at hl 2 rfl) ?_
    refine vp_callSi (W.runS (As := [.int a]) (rest := []) ⟨hx, hb, hml, hown, hts⟩ (c_m_pageOf l a ) (va_cwS 1 hts gX1_X1_pageOf rfl rfl rfl (by decide +kernel) ⟨Nat.le_of_ble_eq_true rfl, Nat.le_of_ble_eq_true rfl⟩) (fs_pre) rfl rfl hl.1 rfl (lv_room (Nat.le_of_ble_eq_true rfl)) dX1_isInside_11 ⟨Nat.zero_le _, Nat.zero_le _⟩) (fun r er => ?_)
    subst er
    refine lv_aload_n hx hb dX1_isInside_14 rfl (lv_at hl 1 rfl) ?_
    refine va_get (D := (dC, dI)) (ci := 1) (v := .ref (h 3)) (C := RX1) (T := TX1) (N := 14) hx hb hts inbX1 hown hK hP 0 rfl rfl 3 (by decide) (hts _ bX1_3) (fun _ h9 => h9) rfl dX1_isInside_15 ?_
    refine lv_iconst (v := 1) hx hb dX1_isInside_18 (by decide) ?_
    refine va_iald hx hb hK hP 3 0 rfl rfl (vp_in_nI (n := 1) (by decide) (by decide)) dX1_isInside_19 ?_
    refine lv_icmp_lt (tgt := 27) hx hb dX1_isInside_20 (by decide) (fun c_4 => ?_) (fun c_4 => ?_)
    · refine lv_iconst (v := 0) hx hb dX1_isInside_27 (by decide) ?_
      exact W.zret (ty := .boolean) (v := 0) hx hb hr rfl (fun t ht _ => ⟨0, rfl, (if_pos c_1).trans ((if_pos c_4).trans rfl), ht⟩) t_nil dX1_isInside_28
    · refine lv_iconst (v := 1) hx hb dX1_isInside_23 (by decide) ?_
      refine lv_goto (tgt := 28) hx hb dX1_isInside_24 (by decide) ?_
      exact W.zret (ty := .boolean) (v := 1) hx hb hr rfl (fun t ht _ => ⟨1, rfl, (if_pos c_1).trans ((if_neg c_4).trans rfl), ht⟩) t_nil dX1_isInside_28
set_option maxHeartbeats 4000000 in
set_option maxRecDepth 100000 in
theorem c_m_isRight (l : Launch) (dC : Nat → ClassId) (dI : Nat → Nat → Nat) (h : Nat → Nat) (cI : ClassId) (n : Nat) (σ : MS) (md : Int32) (b : Int32) : Met l yX1_isRight wsX1_isRight ({ frames := 0, cells := 0, slots := 0, locals := 0 }) (va_Pc [.ref (h 0), .int md, .int b] (m_BP dC dI h cI n σ)) (vp_Si (fun r => m_isRight n σ md b = r)) 0 0 (fun _ => False) := by
  refine Met.ofW (cc := cX1_isRight) (maxL := 4) (ret := (some .boolean)) (by decide) rfl ?_
  intro p e s m args below meth c s₁ B hml hv
  obtain ⟨rfl, hP, hK⟩ := hv
  have hx := B.exec
  have hb := B.bytes
  have hr := B.returns
  have hts : ∀ w ∈ bX1, w.before _ s = true := fun w h => atoms_spec (ws := wsX1_isRight) B.pre w (List.mem_cons_of_mem _ h)
  have hown : s.vm.findClass RX1 = some m.cls := findClass_of_methodNamed B.named
  have hlocks := B.notSynchronized
  have hl := lv_entry ([.ref (h 0), .int md, .int b]) (n := 4) (Nat.le_of_ble_eq_true rfl)
  rw [lg_entry_eq]
  generalize (lg_sl ([.ref (h 0), .int md, .int b]) ++ List.replicate (4 - (lg_sl ([.ref (h 0), .int md, .int b])).length) Slot.unset).toArray = ls at hl ⊢
  have hl : lv_has ls 4 [(0, .ref (h 0)), (1, .int md), (2, .int b)] := hl
  refine lv_aload_n hx hb dX1_isRight_0 rfl (lv_at hl 0 rfl) ?_
  refine va_get (D := (dC, dI)) (ci := 1) (v := .int (m_lk σ)) (C := RX1) (T := TX1) (N := 14) hx hb hts inbX1 hown hK hP 0 rfl rfl 12 (by decide) (hts _ bX1_12) (fun _ h9 => h9) rfl dX1_isRight_1 ?_
  refine lv_bipush (v := 27) hx hb dX1_isRight_4 (by decide) ?_
  refine lv_ishr hx hb dX1_isRight_6 ?_
  refine lv_bipush (v := 15) hx hb dX1_isRight_7 (by decide) ?_
  refine lv_iand hx hb dX1_isRight_9 ?_
  refine lv_istore_n (lv' := [(3, .int (((m_lk σ) >>> (27 &&& 31)) &&& 15)), (0, .ref (h 0)), (1, .int md), (2, .int b)]) hx hb dX1_isRight_10 rfl hl (by decide) rfl (fun ls hl => ?_)
  refine lv_iload_n hx hb dX1_isRight_11 rfl (lv_at hl 2 rfl) ?_
  refine lv_iload_n hx hb dX1_isRight_12 rfl (lv_at hl 3 rfl) ?_
  refine lv_if_eq (tgt := 25) hx hb dX1_isRight_13 (by decide) (fun c_1 => ?_) (fun c_1 => ?_)
  · refine lv_aload_n hx hb dX1_isRight_25 rfl (lv_at hl 1 rfl) ?_
    refine va_get (D := (dC, dI)) (ci := 1) (v := .ref (h 8)) (C := RX1) (T := TX1) (N := 14) hx hb hts inbX1 hown hK hP 0 rfl rfl 9 (by decide) (hts _ bX1_9) (fun _ h9 => h9) rfl dX1_isRight_26 ?_
    refine lv_iload_n hx hb dX1_isRight_29 rfl (lv_at hl 0 rfl) ?_
    refine va_iald hx hb hK hP 8 0 rfl rfl (m_code_in _) dX1_isRight_30 ?_
    refine lv_icmp_ge (tgt := 38) hx hb dX1_isRight_31 (by decide) (fun c_2 => ?_) (fun c_2 => ?_)
    · refine lv_iconst (v := 0) hx hb dX1_isRight_38 (by decide) ?_
      exact W.zret (ty := .boolean) (v := 0) hx hb hr rfl (fun t ht _ => ⟨0, rfl, (if_pos c_1).trans ((if_pos c_2).trans rfl), ht⟩) t_nil dX1_isRight_39
    · refine lv_iconst (v := 1) hx hb dX1_isRight_34 (by decide) ?_
      refine lv_goto (tgt := 39) hx hb dX1_isRight_35 (by decide) ?_
      exact W.zret (ty := .boolean) (v := 1) hx hb hr rfl (fun t ht _ => ⟨1, rfl, (if_pos c_1).trans ((if_neg c_2).trans rfl), ht⟩) t_nil dX1_isRight_39
  · refine lv_aload_n hx hb dX1_isRight_16 rfl (lv_at hl 1 rfl) ?_
    refine va_get (D := (dC, dI)) (ci := 1) (v := .ref (h 7)) (C := RX1) (T := TX1) (N := 14) hx hb hts inbX1 hown hK hP 0 rfl rfl 8 (by decide) (hts _ bX1_8) (fun _ h9 => h9) rfl dX1_isRight_17 ?_
    refine lv_iload_n hx hb dX1_isRight_20 rfl (lv_at hl 0 rfl) ?_
    refine va_iald hx hb hK hP 7 0 rfl rfl (m_code_in _) dX1_isRight_21 ?_
    refine lv_goto (tgt := 31) hx hb dX1_isRight_22 (by decide) ?_
    refine lv_icmp_ge (tgt := 38) hx hb dX1_isRight_31 (by decide) (fun c_3 => ?_) (fun c_3 => ?_)
    · refine lv_iconst (v := 0) hx hb dX1_isRight_38 (by decide) ?_
      exact W.zret (ty := .boolean) (v := 0) hx hb hr rfl (fun t ht _ => ⟨0, rfl, (if_neg c_1).trans ((if_pos c_3).trans rfl), ht⟩) t_nil dX1_isRight_39
    · refine lv_iconst (v := 1) hx hb dX1_isRight_34 (by decide) ?_
      refine lv_goto (tgt := 39) hx hb dX1_isRight_35 (by decide) ?_
      exact W.zret (ty := .boolean) (v := 1) hx hb hr rfl (fun t ht _ => ⟨1, rfl, (if_neg c_1).trans ((if_neg c_3).trans rfl), ht⟩) t_nil dX1_isRight_39
set_option maxHeartbeats 4000000 in
set_option maxRecDepth 100000 in
theorem c_m_entryOf (l : Launch) (dC : Nat → ClassId) (dI : Nat → Nat → Nat) (h : Nat → Nat) (cI : ClassId) (n : Nat) (σ : MS) (a : Int32) (hn : n ≤ 2048) : Met l yX1_entryOf wsX1_entryOf ({ frames := 1, cells := 0, slots := 0, locals := 21 }) (va_Pc [.ref (h 0), .int a] (m_BP dC dI h cI n σ)) (vp_Sl (fun r => m_entryOf n σ a = r)) 0 0 (fun _ => False) := by
  refine Met.ofW (cc := cX1_entryOf) (maxL := 2) (ret := (some .long)) (by decide) rfl ?_
  intro p e s m args below meth c s₁ B hml hv
  obtain ⟨rfl, hP, hK⟩ := hv
  have hx := B.exec
  have hb := B.bytes
  have hr := B.returns
  have hts : ∀ w ∈ bX1, w.before _ s = true := fun w h => atoms_spec (ws := wsX1_entryOf) B.pre w (List.mem_cons_of_mem _ h)
  have hown : s.vm.findClass RX1 = some m.cls := findClass_of_methodNamed B.named
  have hlocks := B.notSynchronized
  have hl := lv_entry ([.ref (h 0), .int a]) (n := 2) (Nat.le_of_ble_eq_true rfl)
  rw [lg_entry_eq]
  generalize (lg_sl ([.ref (h 0), .int a]) ++ List.replicate (2 - (lg_sl ([.ref (h 0), .int a])).length) Slot.unset).toArray = ls at hl ⊢
  have hl : lv_has ls 2 [(0, .ref (h 0)), (1, .int a)] := hl
  refine lv_aload_n hx hb dX1_entryOf_0 rfl (lv_at hl 0 rfl) ?_
  refine lv_iload_n hx hb dX1_entryOf_1 rfl (lv_at hl 1 rfl) ?_
  refine vp_callSi (W.runV (C := RX1) (As := [.int a]) (rest := []) ⟨hx, hb, hml, hown, hts⟩ (c_m_areFour l dC dI h cI n σ a ) (cwV 1 hts gX1_X1_areFour rfl rfl rfl (by decide +kernel) ⟨Nat.le_of_ble_eq_true rfl, Nat.le_of_ble_eq_true rfl⟩) (m_preP hK hP) rfl rfl hl.1 rfl (lv_room (Nat.le_of_ble_eq_true rfl)) dX1_entryOf_2 ⟨Nat.zero_le _, Nat.zero_le _⟩) (fun r er => ?_)
  subst er
  refine lv_if_eq (tgt := 21) hx hb dX1_entryOf_5 (by decide) (fun c_1 => ?_) (fun c_1 => ?_)
  · refine lv_ldc2 (v := (-1)) hx hb hown (hts _ bX1_15) dX1_entryOf_21 ?_
    exact W.lret (v := (-1)) hx hb hr (fun t ht _ => ⟨(-1), rfl, (if_pos c_1).trans rfl, ht⟩) t_nil dX1_entryOf_24
  · refine lv_aload_n hx hb dX1_entryOf_8 rfl (lv_at hl 0 rfl) ?_
    refine lv_iload_n hx hb dX1_entryOf_9 rfl (lv_at hl 1 rfl) ?_
    refine vp_callSi (W.runV (C := RX1) (As := [.int a]) (rest := []) ⟨hx, hb, hml, hown, hts⟩ (c_m_four l dC dI h cI n σ a (m_af hn c_1)) (cwV 1 hts gX1_X1_four rfl rfl rfl (by decide +kernel) ⟨Nat.le_of_ble_eq_true rfl, Nat.le_of_ble_eq_true rfl⟩) (m_preP hK hP) rfl rfl hl.1 rfl (lv_room (Nat.le_of_ble_eq_true rfl)) dX1_entryOf_10 ⟨Nat.zero_le _, Nat.zero_le _⟩) (fun r er => ?_)
    subst er
    refine lv_i2l (v := (((m_four n σ a)).toInt64)) hx hb dX1_entryOf_13 rfl ?_
    refine lv_ldc2 (v := 4294967295) hx hb hown (hts _ bX1_14) dX1_entryOf_14 ?_
    refine lv_land hx hb dX1_entryOf_17 ?_
    refine lv_goto (tgt := 24) hx hb dX1_entryOf_18 (by decide) ?_
    exact W.lret (v := ((((m_four n σ a)).toInt64) &&& 4294967295)) hx hb hr (fun t ht _ => ⟨((((m_four n σ a)).toInt64) &&& 4294967295), rfl, (if_neg c_1).trans rfl, ht⟩) t_nil dX1_entryOf_24
set_option maxHeartbeats 4000000 in
set_option maxRecDepth 100000 in
theorem c_m_kept (l : Launch) (dC : Nat → ClassId) (dI : Nat → Nat → Nat) (h : Nat → Nat) (cI : ClassId) (n : Nat) (σ : MS) (i : Int32) (k : Int32) : Met l yX1_kept wsX1_kept ({ frames := 0, cells := 0, slots := 0, locals := 0 }) (va_Pc [.ref (h 0), .int i, .int k] (m_BP dC dI h cI n σ)) (vp_Sl (fun r => m_kept n σ i k = r)) 0 0 (fun _ => False) := by
  refine Met.ofW (cc := cX1_kept) (maxL := 4) (ret := (some .long)) (by decide) rfl ?_
  intro p e s m args below meth c s₁ B hml hv
  obtain ⟨rfl, hP, hK⟩ := hv
  have hx := B.exec
  have hb := B.bytes
  have hr := B.returns
  have hts : ∀ w ∈ bX1, w.before _ s = true := fun w h => atoms_spec (ws := wsX1_kept) B.pre w (List.mem_cons_of_mem _ h)
  have hown : s.vm.findClass RX1 = some m.cls := findClass_of_methodNamed B.named
  have hlocks := B.notSynchronized
  have hl := lv_entry ([.ref (h 0), .int i, .int k]) (n := 4) (Nat.le_of_ble_eq_true rfl)
  rw [lg_entry_eq]
  generalize (lg_sl ([.ref (h 0), .int i, .int k]) ++ List.replicate (4 - (lg_sl ([.ref (h 0), .int i, .int k])).length) Slot.unset).toArray = ls at hl ⊢
  have hl : lv_has ls 4 [(0, .ref (h 0)), (1, .int i), (2, .int k)] := hl
  refine lv_iload_n hx hb dX1_kept_0 rfl (lv_at hl 1 rfl) ?_
  refine lv_if_lt (tgt := 19) hx hb dX1_kept_1 (by decide) (fun c_1 => ?_) (fun c_1 => ?_)
  · refine lv_ldc2 (v := (-1)) hx hb hown (hts _ bX1_15) dX1_kept_19 ?_
    exact W.lret (v := (-1)) hx hb hr (fun t ht _ => ⟨(-1), rfl, (if_pos c_1).trans rfl, ht⟩) t_nil dX1_kept_22
  · refine lv_iload_n hx hb dX1_kept_4 rfl (lv_at hl 1 rfl) ?_
    refine lv_bipush (v := 16) hx hb dX1_kept_5 (by decide) ?_
    refine lv_icmp_ge (tgt := 19) hx hb dX1_kept_7 (by decide) (fun c_2 => ?_) (fun c_2 => ?_)
    · refine lv_ldc2 (v := (-1)) hx hb hown (hts _ bX1_15) dX1_kept_19 ?_
      exact W.lret (v := (-1)) hx hb hr (fun t ht _ => ⟨(-1), rfl, (if_neg c_1).trans ((if_pos c_2).trans rfl), ht⟩) t_nil dX1_kept_22
    · refine lv_iload_n hx hb dX1_kept_10 rfl (lv_at hl 2 rfl) ?_
      refine lv_if_lt (tgt := 19) hx hb dX1_kept_11 (by decide) (fun c_3 => ?_) (fun c_3 => ?_)
      · refine lv_ldc2 (v := (-1)) hx hb hown (hts _ bX1_15) dX1_kept_19 ?_
        exact W.lret (v := (-1)) hx hb hr (fun t ht _ => ⟨(-1), rfl, (if_neg c_1).trans ((if_neg c_2).trans ((if_pos c_3).trans rfl)), ht⟩) t_nil dX1_kept_22
      · refine lv_iload_n hx hb dX1_kept_14 rfl (lv_at hl 2 rfl) ?_
        refine lv_iconst (v := 2) hx hb dX1_kept_15 (by decide) ?_
        refine lv_icmp_le (tgt := 23) hx hb dX1_kept_16 (by decide) (fun c_4 => ?_) (fun c_4 => ?_)
        · refine lv_aload_n hx hb dX1_kept_23 rfl (lv_at hl 0 rfl) ?_
          refine va_get (D := (dC, dI)) (ci := 1) (v := .ref (h 4)) (C := RX1) (T := TX1) (N := 14) hx hb hts inbX1 hown hK hP 0 rfl rfl 5 (by decide) (hts _ bX1_5) (fun _ h9 => h9) rfl dX1_kept_24 ?_
          refine lv_iload_n hx hb dX1_kept_27 rfl (lv_at hl 1 rfl) ?_
          refine va_iald hx hb hK hP 4 0 rfl rfl (x_i16 c_1 c_2) dX1_kept_28 ?_
          refine lv_if_lt (tgt := 36) hx hb dX1_kept_29 (by decide) (fun c_5 => ?_) (fun c_5 => ?_)
          · refine lv_iconst (v := 0) hx hb dX1_kept_36 (by decide) ?_
            refine lv_istore_n (lv' := [(3, .int 0), (0, .ref (h 0)), (1, .int i), (2, .int k)]) hx hb dX1_kept_37 rfl hl (by decide) rfl (fun ls hl => ?_)
            refine lv_iload_n hx hb dX1_kept_38 rfl (lv_at hl 3 rfl) ?_
            refine lv_if_ne (tgt := 52) hx hb dX1_kept_39 (by decide) (fun c_6 => ?_) (fun c_6 => ?_)
            · refine lv_iload_n hx hb dX1_kept_52 rfl (lv_at hl 0 rfl) ?_
              refine lv_if_ne (tgt := 60) hx hb dX1_kept_53 (by decide) (fun c_7 => absurd (by decide) c_7) (fun _ => ?_)
              refine lv_ldc2 (v := (-1)) hx hb hown (hts _ bX1_15) dX1_kept_56 ?_
              exact W.lret (v := (-1)) hx hb hr (fun t ht _ => ⟨(-1), rfl, (if_neg c_1).trans ((if_neg c_2).trans ((if_neg c_3).trans ((if_pos c_4).trans ((if_pos c_5).trans ((if_neg c_6).trans rfl))))), ht⟩) t_nil dX1_kept_59
            · refine lv_iload_n hx hb dX1_kept_42 rfl (lv_at hl 0 rfl) ?_
              refine lv_if_eq (tgt := 50) hx hb dX1_kept_43 (by decide) (fun _ => ?_) (fun c_8 => absurd (by decide) c_8)
              refine lv_lconst (v := 0) hx hb dX1_kept_50 (by decide) ?_
              exact W.lret (v := 0) hx hb hr (fun t ht _ => ⟨0, rfl, (if_neg c_1).trans ((if_neg c_2).trans ((if_neg c_3).trans ((if_pos c_4).trans ((if_pos c_5).trans ((if_pos c_6).trans rfl))))), ht⟩) t_nil dX1_kept_51
          · refine lv_iconst (v := 1) hx hb dX1_kept_32 (by decide) ?_
            refine lv_goto (tgt := 37) hx hb dX1_kept_33 (by decide) ?_
            refine lv_istore_n (lv' := [(3, .int 1), (0, .ref (h 0)), (1, .int i), (2, .int k)]) hx hb dX1_kept_37 rfl hl (by decide) rfl (fun ls hl => ?_)
            refine lv_iload_n hx hb dX1_kept_38 rfl (lv_at hl 3 rfl) ?_
            refine lv_if_ne (tgt := 52) hx hb dX1_kept_39 (by decide) (fun c_9 => ?_) (fun c_9 => ?_)
            · refine lv_iload_n hx hb dX1_kept_52 rfl (lv_at hl 0 rfl) ?_
              refine lv_if_ne (tgt := 60) hx hb dX1_kept_53 (by decide) (fun _ => ?_) (fun c_10 => absurd c_10 (by decide))
              refine lv_iload_n hx hb dX1_kept_60 rfl (lv_at hl 3 rfl) ?_
              refine lv_iconst (v := 1) hx hb dX1_kept_61 (by decide) ?_
              refine lv_icmp_ne (tgt := 75) hx hb dX1_kept_62 (by decide) (fun c_11 => ?_) (fun c_11 => ?_)
              · refine lv_aload_n hx hb dX1_kept_75 rfl (lv_at hl 1 rfl) ?_
                refine va_get (D := (dC, dI)) (ci := 1) (v := .ref (h 5)) (C := RX1) (T := TX1) (N := 14) hx hb hts inbX1 hown hK hP 0 rfl rfl 6 (by decide) (hts _ bX1_6) (fun _ h9 => h9) rfl dX1_kept_76 ?_
                refine lv_iload_n hx hb dX1_kept_79 rfl (lv_at hl 2 rfl) ?_
                refine va_iald hx hb hK hP 5 0 rfl rfl (x_i16 c_1 c_2) dX1_kept_80 ?_
                refine lv_i2l (v := (((m_en σ (i).toNatClampNeg)).toInt64)) hx hb dX1_kept_81 rfl ?_
                refine lv_ldc2 (v := 4294967295) hx hb hown (hts _ bX1_14) dX1_kept_82 ?_
                refine lv_land hx hb dX1_kept_85 ?_
                exact W.lret (v := ((((m_en σ (i).toNatClampNeg)).toInt64) &&& 4294967295)) hx hb hr (fun t ht _ => ⟨((((m_en σ (i).toNatClampNeg)).toInt64) &&& 4294967295), rfl, (if_neg c_1).trans ((if_neg c_2).trans ((if_neg c_3).trans ((if_pos c_4).trans ((if_neg c_5).trans ((if_neg c_9).trans ((if_neg c_11).trans rfl)))))), ht⟩) t_nil dX1_kept_86
              · refine lv_aload_n hx hb dX1_kept_65 rfl (lv_at hl 1 rfl) ?_
                refine va_get (D := (dC, dI)) (ci := 1) (v := .ref (h 4)) (C := RX1) (T := TX1) (N := 14) hx hb hts inbX1 hown hK hP 0 rfl rfl 5 (by decide) (hts _ bX1_5) (fun _ h9 => h9) rfl dX1_kept_66 ?_
                refine lv_iload_n hx hb dX1_kept_69 rfl (lv_at hl 2 rfl) ?_
                refine va_iald hx hb hK hP 4 0 rfl rfl (x_i16 c_1 c_2) dX1_kept_70 ?_
                refine lv_i2l (v := (((m_pg σ (i).toNatClampNeg)).toInt64)) hx hb dX1_kept_71 rfl ?_
                refine lv_goto (tgt := 86) hx hb dX1_kept_72 (by decide) ?_
                exact W.lret (v := (((m_pg σ (i).toNatClampNeg)).toInt64)) hx hb hr (fun t ht _ => ⟨(((m_pg σ (i).toNatClampNeg)).toInt64), rfl, (if_neg c_1).trans ((if_neg c_2).trans ((if_neg c_3).trans ((if_pos c_4).trans ((if_neg c_5).trans ((if_neg c_9).trans ((if_pos c_11).trans rfl)))))), ht⟩) t_nil dX1_kept_86
            · refine lv_iload_n hx hb dX1_kept_42 rfl (lv_at hl 0 rfl) ?_
              refine lv_if_eq (tgt := 50) hx hb dX1_kept_43 (by decide) (fun c_12 => absurd c_12 (by decide)) (fun _ => ?_)
              refine lv_lconst (v := 1) hx hb dX1_kept_46 (by decide) ?_
              refine lv_goto (tgt := 51) hx hb dX1_kept_47 (by decide) ?_
              exact W.lret (v := 1) hx hb hr (fun t ht _ => ⟨1, rfl, (if_neg c_1).trans ((if_neg c_2).trans ((if_neg c_3).trans ((if_pos c_4).trans ((if_neg c_5).trans ((if_pos c_9).trans rfl))))), ht⟩) t_nil dX1_kept_51
        · refine lv_ldc2 (v := (-1)) hx hb hown (hts _ bX1_15) dX1_kept_19 ?_
          exact W.lret (v := (-1)) hx hb hr (fun t ht _ => ⟨(-1), rfl, (if_neg c_1).trans ((if_neg c_2).trans ((if_neg c_3).trans ((if_neg c_4).trans rfl))), ht⟩) t_nil dX1_kept_22
set_option maxHeartbeats 4000000 in
set_option maxRecDepth 100000 in
theorem c_m_failed (l : Launch) (dC : Nat → ClassId) (dI : Nat → Nat → Nat) (h : Nat → Nat) (cI : ClassId) (n : Nat) (σ : MS)  : Met l yX1_failed wsX1_failed ({ frames := 0, cells := 0, slots := 0, locals := 0 }) (va_Pc [.ref (h 0)] (m_BP dC dI h cI n σ)) (vp_Si (fun r => m_failed n σ = r)) 0 0 (fun _ => False) := by
  refine Met.ofW (cc := cX1_failed) (maxL := 1) (ret := (some .int)) (by decide) rfl ?_
  intro p e s m args below meth c s₁ B hml hv
  obtain ⟨rfl, hP, hK⟩ := hv
  have hx := B.exec
  have hb := B.bytes
  have hr := B.returns
  have hts : ∀ w ∈ bX1, w.before _ s = true := fun w h => atoms_spec (ws := wsX1_failed) B.pre w (List.mem_cons_of_mem _ h)
  have hown : s.vm.findClass RX1 = some m.cls := findClass_of_methodNamed B.named
  have hlocks := B.notSynchronized
  have hl := lv_entry ([.ref (h 0)]) (n := 1) (Nat.le_of_ble_eq_true rfl)
  rw [lg_entry_eq]
  generalize (lg_sl ([.ref (h 0)]) ++ List.replicate (1 - (lg_sl ([.ref (h 0)])).length) Slot.unset).toArray = ls at hl ⊢
  have hl : lv_has ls 1 [(0, .ref (h 0))] := hl
  refine lv_aload_n hx hb dX1_failed_0 rfl (lv_at hl 0 rfl) ?_
  refine va_get (D := (dC, dI)) (ci := 1) (v := .int (m_fa σ)) (C := RX1) (T := TX1) (N := 14) hx hb hts inbX1 hown hK hP 0 rfl rfl 11 (by decide) (hts _ bX1_11) (fun _ h9 => h9) rfl dX1_failed_1 ?_
  exact W.iret (v := (m_fa σ)) hx hb hr (fun t ht _ => ⟨(m_fa σ), rfl, rfl, ht⟩) t_nil dX1_failed_4
end
section
set_option maxHeartbeats 4000000 in
set_option maxRecDepth 100000 in
theorem c_m_code (l : Launch) (dC : Nat → ClassId) (dI : Nat → Nat → Nat) (h : Nat → Nat) (cI : ClassId) (n : Nat) (sz : Nat) (σ : MS) (k : Int32) (w0 : Int32) (r0 : Int32) (hk : vp_in k 16) : Met l yX1_code wsX1_code ({ frames := 0, cells := 0, slots := 0, locals := 0 }) (va_Pc [.ref (h 0), .int k, .int w0, .int r0] (m_BM dC dI h cI n sz σ)) (q_m_code dC dI h cI n σ k w0 r0 (va_A (m_ws h cI n σ) sz)) 0 0 (va_A (m_ws h cI n σ) sz) := by
  refine Met.ofW (cc := cX1_code) (maxL := 4) (ret := none) (by decide) rfl ?_
  intro p e s m args below meth c s₁ B hml hv
  obtain ⟨rfl, hsz, hP, hK, hD0⟩ := hv
  have hx := B.exec
  have hb := B.bytes
  have hr := B.returns
  have hts : ∀ w ∈ bX1, w.before _ s = true := fun w h => atoms_spec (ws := wsX1_code) B.pre w (List.mem_cons_of_mem _ h)
  have hown : s.vm.findClass RX1 = some m.cls := findClass_of_methodNamed B.named
  have hlocks := B.notSynchronized
  subst hsz
  have hD := hD0.self (sz := s.heap.size)
  generalize hAe : va_A (m_ws h cI n σ) s.heap.size = A at hD ⊢
  have hA : ∀ q : Nat, s.heap.size ≤ q → A q := fun q h => by rw [← hAe]; exact Or.inr h
  have hS : va_S A s.heap s.heap [] := va_S.rf
  have hP : va_P (dC, dI) vwCl (m_ws h cI n σ) s.heap := hP
  have hl := lv_entry ([.ref (h 0), .int k, .int w0, .int r0]) (n := 4) (Nat.le_of_ble_eq_true rfl)
  rw [lg_entry_eq]
  generalize (lg_sl ([.ref (h 0), .int k, .int w0, .int r0]) ++ List.replicate (4 - (lg_sl ([.ref (h 0), .int k, .int w0, .int r0])).length) Slot.unset).toArray = ls at hl ⊢
  have hl : lv_has ls 4 [(0, .ref (h 0)), (1, .int k), (2, .int w0), (3, .int r0)] := hl
  refine lv_aload_n hx hb dX1_code_0 rfl (lv_at hl 0 rfl) ?_
  refine va_get (D := (dC, dI)) (ci := 1) (v := .ref (h 7)) (C := RX1) (T := TX1) (N := 14) hx hb hts inbX1 hown hK hP 0 rfl rfl 8 (by decide) (hts _ bX1_8) (fun _ h9 => h9) rfl dX1_code_1 ?_
  refine lv_iload_n hx hb dX1_code_4 rfl (lv_at hl 1 rfl) ?_
  refine lv_iload_n hx hb dX1_code_5 rfl (lv_at hl 2 rfl) ?_
  refine va_iast hx hb hK hP hD hS 7 0 rfl rfl hk dX1_code_6 (fun H locs hP hD hS => ?_)
  have hP := m_pWr hP
  have hD := m_dWr hD
  refine lv_aload_n hx hb dX1_code_7 rfl (lv_at hl 0 rfl) ?_
  refine va_get (D := (dC, dI)) (ci := 1) (v := .ref (h 8)) (C := RX1) (T := TX1) (N := 14) hx hb hts inbX1 hown hK hP 0 rfl rfl 9 (by decide) (hts _ bX1_9) (fun _ h9 => h9) rfl dX1_code_8 ?_
  refine lv_iload_n hx hb dX1_code_11 rfl (lv_at hl 1 rfl) ?_
  refine lv_iload_n hx hb dX1_code_12 rfl (lv_at hl 3 rfl) ?_
  refine va_iast hx hb hK hP hD hS 8 0 rfl rfl hk dX1_code_13 (fun H locs hP hD hS => ?_)
  have hP := m_pRd hP
  have hD := m_dRd hD
  exact W.vret hx hb hr (fun t ht hW => ⟨⟨(m_sRd (m_sWr σ (upd (m_wr σ) ((k).toNatClampNeg) w0)) (upd (m_rd (m_sWr σ (upd (m_wr σ) ((k).toNatClampNeg) w0))) ((k).toNatClampNeg) r0)), rfl, rfl, by rw [ht]; exact hP, va_K.moved hW.alike hK, hD⟩, hS.F ht⟩) hS.2.2 dX1_code_14
set_option maxHeartbeats 4000000 in
set_option maxRecDepth 100000 in
theorem c_m_putFour (l : Launch) (dC : Nat → ClassId) (dI : Nat → Nat → Nat) (h : Nat → Nat) (cI : ClassId) (n : Nat) (sz : Nat) (σ : MS) (a : Int32) (v : Int32) (hk : x_in4 2048 a) : Met l yX1_putFour wsX1_putFour ({ frames := 0, cells := 0, slots := 0, locals := 0 }) (va_Pc [.ref (h 0), .int a, .int v] (m_BM dC dI h cI n sz σ)) (q_m_putFour dC dI h cI n σ a v (va_A (m_ws h cI n σ) sz)) 0 0 (va_A (m_ws h cI n σ) sz) := by
  refine Met.ofW (cc := cX1_putFour) (maxL := 4) (ret := none) (by decide) rfl ?_
  intro p e s m args below meth c s₁ B hml hv
  obtain ⟨rfl, hsz, hP, hK, hD0⟩ := hv
  have hx := B.exec
  have hb := B.bytes
  have hr := B.returns
  have hts : ∀ w ∈ bX1, w.before _ s = true := fun w h => atoms_spec (ws := wsX1_putFour) B.pre w (List.mem_cons_of_mem _ h)
  have hown : s.vm.findClass RX1 = some m.cls := findClass_of_methodNamed B.named
  have hlocks := B.notSynchronized
  subst hsz
  have hD := hD0.self (sz := s.heap.size)
  generalize hAe : va_A (m_ws h cI n σ) s.heap.size = A at hD ⊢
  have hA : ∀ q : Nat, s.heap.size ≤ q → A q := fun q h => by rw [← hAe]; exact Or.inr h
  have hS : va_S A s.heap s.heap [] := va_S.rf
  have hP : va_P (dC, dI) vwCl (m_ws h cI n σ) s.heap := hP
  have hl := lv_entry ([.ref (h 0), .int a, .int v]) (n := 4) (Nat.le_of_ble_eq_true rfl)
  rw [lg_entry_eq]
  generalize (lg_sl ([.ref (h 0), .int a, .int v]) ++ List.replicate (4 - (lg_sl ([.ref (h 0), .int a, .int v])).length) Slot.unset).toArray = ls at hl ⊢
  have hl : lv_has ls 4 [(0, .ref (h 0)), (1, .int a), (2, .int v)] := hl
  have key_l1 : ∀ (f j : Nat) (i : Int32) (τ : MS) (H : Heap) (locs : List Loc) (ls : Array Slot), (i = nI j) → (j ≤ 4) → (5 ≤ j + f) → m_putFour n σ a v = m_putFour_l1 n a v f i τ → va_P (dC, dI) vwCl (m_ws h cI n τ) H → va_D A (m_ws h cI n τ) → va_S A s.heap H locs → lv_has ls 4 [(3, .int i), (0, .ref (h 0)), (1, .int a), (2, .int v)] → W p l e (headSpec wsX1_putFour ({ frames := 0, cells := 0, slots := 0, locals := 0 })).room s m ([.ref (h 0), .int a, .int v] : List Value).toArray below meth c H locs 0 0 (MQ below (q_m_putFour dC dI h cI n σ a v A) ([.ref (h 0), .int a, .int v] : List Value).toArray s 0 0 A) (F0 m 2 ls []) := by
    intro f
    induction f with
    | zero => intro j i τ H locs ls ej hj hf; exact absurd hf (by omega)
    | succ f ih =>
      intro j i τ H locs ls ej hj hf hm hP hD hS hl
      refine lv_iload_n hx hb dX1_putFour_2 rfl (lv_at hl 0 rfl) ?_
      refine lv_iconst (v := 4) hx hb dX1_putFour_3 (by decide) ?_
      refine lv_icmp_ge (tgt := 31) hx hb dX1_putFour_4 (by decide) (fun c_101 => ?_) (fun c_101 => ?_)
      · exact W.vret hx hb hr (fun t ht hW => ⟨⟨τ, rfl, hm.trans ((if_pos c_101).trans rfl), by rw [ht]; exact hP, va_K.moved hW.alike hK, hD⟩, hS.F ht⟩) hS.2.2 dX1_putFour_31
      · have hlt : j < 4 := x_ltK ⟨4, by omega, rfl⟩ hj ej (by omega) c_101
        refine lv_aload_n hx hb dX1_putFour_7 rfl (lv_at hl 1 rfl) ?_
        refine va_get (D := (dC, dI)) (ci := 1) (v := .ref (h 1)) (C := RX1) (T := TX1) (N := 14) hx hb hts inbX1 hown hK hP 0 rfl rfl 0 (by decide) (hts _ bX1_0) (fun _ h9 => h9) rfl dX1_putFour_8 ?_
        refine lv_iload_n hx hb dX1_putFour_11 rfl (lv_at hl 2 rfl) ?_
        refine lv_iload_n hx hb dX1_putFour_12 rfl (lv_at hl 0 rfl) ?_
        refine lv_iadd hx hb dX1_putFour_13 ?_
        refine lv_iload_n hx hb dX1_putFour_14 rfl (lv_at hl 3 rfl) ?_
        refine lv_bipush (v := 8) hx hb dX1_putFour_15 (by decide) ?_
        refine lv_iload_n hx hb dX1_putFour_17 rfl (lv_at hl 0 rfl) ?_
        refine lv_imul hx hb dX1_putFour_18 ?_
        refine lv_ishr hx hb dX1_putFour_19 ?_
        refine lv_sipush (v := 255) hx hb dX1_putFour_20 (by decide) ?_
        refine lv_iand hx hb dX1_putFour_23 ?_
        refine va_iast hx hb hK hP hD hS 1 0 rfl rfl (x_in4_at hk ej hlt) dX1_putFour_24 (fun H locs hP hD hS => ?_)
        have hP := m_pMem hP
        have hD := m_dMem hD
        refine lv_iinc (v := (i + 1)) (lv' := [(3, .int (i + 1)), (0, .ref (h 0)), (1, .int a), (2, .int v)]) hx hb dX1_putFour_25 hl (k := 0) rfl rfl (by decide) rfl (fun ls hl => ?_)
        refine lv_goto (tgt := 2) hx hb dX1_putFour_28 (by decide) ?_
        exact ih (j + 1) (i + 1) (m_sMem τ (upd (m_mem τ) (((a + i)).toNatClampNeg) ((v >>> (((8 : Int32) * i) &&& 31)) &&& 255))) _ _ _ (by rw [ej]; exact nI_1 j) (by omega) (by omega) (hm.trans ((if_neg c_101).trans rfl)) hP hD hS (lv_sub hl [0, 1, 2, 3] rfl)
  refine lv_iconst (v := 0) hx hb dX1_putFour_0 (by decide) ?_
  refine lv_istore_n (lv' := [(3, .int 0), (0, .ref (h 0)), (1, .int a), (2, .int v)]) hx hb dX1_putFour_1 rfl hl (by decide) rfl (fun ls hl => ?_)
  exact key_l1 5 0 0 σ _ _ _ nI_0.symm (by omega) (by omega) (rfl) hP hD hS (lv_sub hl [0, 1, 2, 3] rfl)
set_option maxHeartbeats 4000000 in
set_option maxRecDepth 100000 in
theorem c_m_put (l : Launch) (dC : Nat → ClassId) (dI : Nat → Nat → Nat) (h : Nat → Nat) (cI : ClassId) (n : Nat) (sz : Nat) (σ : MS) (a : Int32) (v : Int32) (hn : n ≤ 2048) : Met l yX1_put wsX1_put ({ frames := 1, cells := 0, slots := 0, locals := 21 }) (va_Pc [.ref (h 0), .int a, .int v] (m_BM dC dI h cI n sz σ)) (q_m_put dC dI h cI n σ a v (va_A (m_ws h cI n σ) sz)) 0 0 (va_A (m_ws h cI n σ) sz) := by
  refine Met.ofW (cc := cX1_put) (maxL := 3) (ret := (some .boolean)) (by decide) rfl ?_
  intro p e s m args below meth c s₁ B hml hv
  obtain ⟨rfl, hsz, hP, hK, hD0⟩ := hv
  have hx := B.exec
  have hb := B.bytes
  have hr := B.returns
  have hts : ∀ w ∈ bX1, w.before _ s = true := fun w h => atoms_spec (ws := wsX1_put) B.pre w (List.mem_cons_of_mem _ h)
  have hown : s.vm.findClass RX1 = some m.cls := findClass_of_methodNamed B.named
  have hlocks := B.notSynchronized
  subst hsz
  have hD := hD0.self (sz := s.heap.size)
  generalize hAe : va_A (m_ws h cI n σ) s.heap.size = A at hD ⊢
  have hA : ∀ q : Nat, s.heap.size ≤ q → A q := fun q h => by rw [← hAe]; exact Or.inr h
  have hS : va_S A s.heap s.heap [] := va_S.rf
  have hP : va_P (dC, dI) vwCl (m_ws h cI n σ) s.heap := hP
  have hl := lv_entry ([.ref (h 0), .int a, .int v]) (n := 3) (Nat.le_of_ble_eq_true rfl)
  rw [lg_entry_eq]
  generalize (lg_sl ([.ref (h 0), .int a, .int v]) ++ List.replicate (3 - (lg_sl ([.ref (h 0), .int a, .int v])).length) Slot.unset).toArray = ls at hl ⊢
  have hl : lv_has ls 3 [(0, .ref (h 0)), (1, .int a), (2, .int v)] := hl
  refine lv_aload_n hx hb dX1_put_0 rfl (lv_at hl 0 rfl) ?_
  refine lv_iload_n hx hb dX1_put_1 rfl (lv_at hl 1 rfl) ?_
  refine vp_callSi (W.runV (C := RX1) (As := [.int a]) (rest := []) ⟨hx, hb, hml, hown, hts⟩ (c_m_isThere l dC dI h cI n σ a ) (cwV 1 hts gX1_X1_isThere rfl rfl rfl (by decide +kernel) ⟨Nat.le_of_ble_eq_true rfl, Nat.le_of_ble_eq_true rfl⟩) (m_preP hK hP) rfl rfl hl.1 rfl (lv_room (Nat.le_of_ble_eq_true rfl)) dX1_put_2 ⟨Nat.zero_le _, Nat.zero_le _⟩) (fun r er => ?_)
  subst er
  refine lv_if_ne (tgt := 10) hx hb dX1_put_5 (by decide) (fun c_1 => ?_) (fun c_1 => ?_)
  · refine lv_aload_n hx hb dX1_put_10 rfl (lv_at hl 0 rfl) ?_
    refine va_get (D := (dC, dI)) (ci := 1) (v := .ref (h 1)) (C := RX1) (T := TX1) (N := 14) hx hb hts inbX1 hown hK hP 0 rfl rfl 0 (by decide) (hts _ bX1_0) (fun _ h9 => h9) rfl dX1_put_11 ?_
    refine lv_iload_n hx hb dX1_put_14 rfl (lv_at hl 1 rfl) ?_
    refine lv_iload_n hx hb dX1_put_15 rfl (lv_at hl 2 rfl) ?_
    refine lv_sipush (v := 255) hx hb dX1_put_16 (by decide) ?_
    refine lv_iand hx hb dX1_put_19 ?_
    refine va_iast hx hb hK hP hD hS 1 0 rfl rfl (m_th hn c_1) dX1_put_20 (fun H locs hP hD hS => ?_)
    have hP := m_pMem hP
    have hD := m_dMem hD
    refine lv_iconst (v := 1) hx hb dX1_put_21 (by decide) ?_
    exact W.zret (ty := .boolean) (v := 1) hx hb hr rfl (fun t ht hW => ⟨⟨1, (m_sMem σ (upd (m_mem σ) ((a).toNatClampNeg) (v &&& 255))), rfl, (if_neg c_1).trans rfl, by rw [ht]; exact hP, va_K.moved hW.alike hK, hD⟩, hS.F ht⟩) hS.2.2 dX1_put_22
  · refine lv_iconst (v := 0) hx hb dX1_put_8 (by decide) ?_
    exact W.zret (ty := .boolean) (v := 0) hx hb hr rfl (fun t ht hW => ⟨⟨0, σ, rfl, (if_pos c_1).trans rfl, by rw [ht]; exact hP, va_K.moved hW.alike hK, hD⟩, hS.F ht⟩) hS.2.2 dX1_put_9
set_option maxHeartbeats 4000000 in
set_option maxRecDepth 100000 in
theorem c_m_entry (l : Launch) (dC : Nat → ClassId) (dI : Nat → Nat → Nat) (h : Nat → Nat) (cI : ClassId) (n : Nat) (sz : Nat) (σ : MS) (a : Int32) (v : Int32) (hn : n ≤ 2048) : Met l yX1_entry wsX1_entry ({ frames := 1, cells := 0, slots := 0, locals := 23 }) (va_Pc [.ref (h 0), .int a, .int v] (m_BM dC dI h cI n sz σ)) (q_m_entry dC dI h cI n σ a v (va_A (m_ws h cI n σ) sz)) 0 0 (va_A (m_ws h cI n σ) sz) := by
  refine Met.ofW (cc := cX1_entry) (maxL := 3) (ret := (some .boolean)) (by decide) rfl ?_
  intro p e s m args below meth c s₁ B hml hv
  obtain ⟨rfl, hsz, hP, hK, hD0⟩ := hv
  have hx := B.exec
  have hb := B.bytes
  have hr := B.returns
  have hts : ∀ w ∈ bX1, w.before _ s = true := fun w h => atoms_spec (ws := wsX1_entry) B.pre w (List.mem_cons_of_mem _ h)
  have hown : s.vm.findClass RX1 = some m.cls := findClass_of_methodNamed B.named
  have hlocks := B.notSynchronized
  subst hsz
  have hD := hD0.self (sz := s.heap.size)
  generalize hAe : va_A (m_ws h cI n σ) s.heap.size = A at hD ⊢
  have hA : ∀ q : Nat, s.heap.size ≤ q → A q := fun q h => by rw [← hAe]; exact Or.inr h
  have hS : va_S A s.heap s.heap [] := va_S.rf
  have hP : va_P (dC, dI) vwCl (m_ws h cI n σ) s.heap := hP
  have hl := lv_entry ([.ref (h 0), .int a, .int v]) (n := 3) (Nat.le_of_ble_eq_true rfl)
  rw [lg_entry_eq]
  generalize (lg_sl ([.ref (h 0), .int a, .int v]) ++ List.replicate (3 - (lg_sl ([.ref (h 0), .int a, .int v])).length) Slot.unset).toArray = ls at hl ⊢
  have hl : lv_has ls 3 [(0, .ref (h 0)), (1, .int a), (2, .int v)] := hl
  refine lv_aload_n hx hb dX1_entry_0 rfl (lv_at hl 0 rfl) ?_
  refine lv_iload_n hx hb dX1_entry_1 rfl (lv_at hl 1 rfl) ?_
  refine vp_callSi (W.runV (C := RX1) (As := [.int a]) (rest := []) ⟨hx, hb, hml, hown, hts⟩ (c_m_areFour l dC dI h cI n σ a ) (cwV 1 hts gX1_X1_areFour rfl rfl rfl (by decide +kernel) ⟨Nat.le_of_ble_eq_true rfl, Nat.le_of_ble_eq_true rfl⟩) (m_preP hK hP) rfl rfl hl.1 rfl (lv_room (Nat.le_of_ble_eq_true rfl)) dX1_entry_2 ⟨Nat.zero_le _, Nat.zero_le _⟩) (fun r er => ?_)
  subst er
  refine lv_if_ne (tgt := 10) hx hb dX1_entry_5 (by decide) (fun c_1 => ?_) (fun c_1 => ?_)
  · refine lv_aload_n hx hb dX1_entry_10 rfl (lv_at hl 0 rfl) ?_
    refine lv_iload_n hx hb dX1_entry_11 rfl (lv_at hl 1 rfl) ?_
    refine lv_iload_n hx hb dX1_entry_12 rfl (lv_at hl 2 rfl) ?_
    refine m_callv (f := (m_putFour n σ a v)) (va_runV (C := RX1) (As := [.int a, .int v]) (rest := []) ⟨hx, hb, hml, hown, hts⟩ (c_m_putFour l dC dI h cI n _ σ a v (m_af hn c_1)) (cwV 2 hts gX1_X1_putFour rfl rfl rfl (by decide +kernel) ⟨Nat.le_of_ble_eq_true rfl, Nat.le_of_ble_eq_true rfl⟩) (m_preM hK hP hD) rfl rfl hl.1 rfl (lv_room (Nat.le_of_ble_eq_true rfl)) dX1_entry_13 ⟨Nat.zero_le _, Nat.zero_le _⟩) hP hD hS hA (fun t_2 H locs e_3 hP hD hS => ?_)
    refine lv_iconst (v := 1) hx hb dX1_entry_16 (by decide) ?_
    exact W.zret (ty := .boolean) (v := 1) hx hb hr rfl (fun t ht hW => ⟨⟨1, t_2, rfl, (if_neg c_1).trans ((kv_eq e_3).trans rfl), by rw [ht]; exact hP, va_K.moved hW.alike hK, hD⟩, hS.F ht⟩) hS.2.2 dX1_entry_17
  · refine lv_iconst (v := 0) hx hb dX1_entry_8 (by decide) ?_
    exact W.zret (ty := .boolean) (v := 0) hx hb hr rfl (fun t ht hW => ⟨⟨0, σ, rfl, (if_pos c_1).trans rfl, by rw [ht]; exact hP, va_K.moved hW.alike hK, hD⟩, hS.F ht⟩) hS.2.2 dX1_entry_9
set_option maxHeartbeats 4000000 in
set_option maxRecDepth 100000 in
theorem c_m_forget (l : Launch) (dC : Nat → ClassId) (dI : Nat → Nat → Nat) (h : Nat → Nat) (cI : ClassId) (n : Nat) (sz : Nat) (σ : MS) (fr : Int32) (k : Int32) (hfr : fr = 0) (hk : ∃ K : Nat, K ≤ 16 ∧ k = nI K) : Met l yX1_forget wsX1_forget ({ frames := 0, cells := 0, slots := 0, locals := 0 }) (va_Pc [.ref (h 0), .int fr, .int k] (m_BM dC dI h cI n sz σ)) (q_m_forget dC dI h cI n σ fr k (va_A (m_ws h cI n σ) sz)) 0 0 (va_A (m_ws h cI n σ) sz) := by
  refine Met.ofW (cc := cX1_forget) (maxL := 4) (ret := none) (by decide) rfl ?_
  intro p e s m args below meth c s₁ B hml hv
  obtain ⟨rfl, hsz, hP, hK, hD0⟩ := hv
  have hx := B.exec
  have hb := B.bytes
  have hr := B.returns
  have hts : ∀ w ∈ bX1, w.before _ s = true := fun w h => atoms_spec (ws := wsX1_forget) B.pre w (List.mem_cons_of_mem _ h)
  have hown : s.vm.findClass RX1 = some m.cls := findClass_of_methodNamed B.named
  have hlocks := B.notSynchronized
  subst hsz
  have hD := hD0.self (sz := s.heap.size)
  generalize hAe : va_A (m_ws h cI n σ) s.heap.size = A at hD ⊢
  have hA : ∀ q : Nat, s.heap.size ≤ q → A q := fun q h => by rw [← hAe]; exact Or.inr h
  have hS : va_S A s.heap s.heap [] := va_S.rf
  have hP : va_P (dC, dI) vwCl (m_ws h cI n σ) s.heap := hP
  have hl := lv_entry ([.ref (h 0), .int fr, .int k]) (n := 4) (Nat.le_of_ble_eq_true rfl)
  rw [lg_entry_eq]
  generalize (lg_sl ([.ref (h 0), .int fr, .int k]) ++ List.replicate (4 - (lg_sl ([.ref (h 0), .int fr, .int k])).length) Slot.unset).toArray = ls at hl ⊢
  have hl : lv_has ls 4 [(0, .ref (h 0)), (1, .int fr), (2, .int k)] := hl
  have key_l1 : ∀ (f j : Nat) (i : Int32) (τ : MS) (H : Heap) (locs : List Loc) (ls : Array Slot), (i = nI j) → (j ≤ 16) → (17 ≤ j + f) → m_forget n σ fr k = m_forget_l1 n fr k f i τ → va_P (dC, dI) vwCl (m_ws h cI n τ) H → va_D A (m_ws h cI n τ) → va_S A s.heap H locs → lv_has ls 4 [(3, .int i), (0, .ref (h 0)), (1, .int fr), (2, .int k)] → W p l e (headSpec wsX1_forget ({ frames := 0, cells := 0, slots := 0, locals := 0 })).room s m ([.ref (h 0), .int fr, .int k] : List Value).toArray below meth c H locs 0 0 (MQ below (q_m_forget dC dI h cI n σ fr k A) ([.ref (h 0), .int fr, .int k] : List Value).toArray s 0 0 A) (F0 m 2 ls []) := by
    intro f
    induction f with
    | zero => intro j i τ H locs ls ej hj hf; exact absurd hf (by omega)
    | succ f ih =>
      intro j i τ H locs ls ej hj hf hm hP hD hS hl
      refine lv_iload_n hx hb dX1_forget_2 rfl (lv_at hl 0 rfl) ?_
      refine lv_iload_n hx hb dX1_forget_3 rfl (lv_at hl 3 rfl) ?_
      refine lv_icmp_ge (tgt := 20) hx hb dX1_forget_4 (by decide) (fun c_101 => ?_) (fun c_101 => ?_)
      · exact W.vret hx hb hr (fun t ht hW => ⟨⟨τ, rfl, hm.trans ((if_pos c_101).trans rfl), by rw [ht]; exact hP, va_K.moved hW.alike hK, hD⟩, hS.F ht⟩) hS.2.2 dX1_forget_20
      · have hlt : j < 16 := x_ltK hk hj ej (by omega) c_101
        refine lv_aload_n hx hb dX1_forget_7 rfl (lv_at hl 1 rfl) ?_
        refine va_get (D := (dC, dI)) (ci := 1) (v := .ref (h 4)) (C := RX1) (T := TX1) (N := 14) hx hb hts inbX1 hown hK hP 0 rfl rfl 5 (by decide) (hts _ bX1_5) (fun _ h9 => h9) rfl dX1_forget_8 ?_
        refine lv_iload_n hx hb dX1_forget_11 rfl (lv_at hl 0 rfl) ?_
        refine lv_iconst (v := (-1)) hx hb dX1_forget_12 (by decide) ?_
        refine va_iast hx hb hK hP hD hS 4 0 rfl rfl (by rw [ej]; exact vp_in_nI hlt (by omega)) dX1_forget_13 (fun H locs hP hD hS => ?_)
        have hP := m_pPg hP
        have hD := m_dPg hD
        refine lv_iinc (v := (i + 1)) (lv' := [(3, .int (i + 1)), (0, .ref (h 0)), (1, .int fr), (2, .int k)]) hx hb dX1_forget_14 hl (k := 0) rfl rfl (by decide) rfl (fun ls hl => ?_)
        refine lv_goto (tgt := 2) hx hb dX1_forget_17 (by decide) ?_
        exact ih (j + 1) (i + 1) (m_sPg τ (upd (m_pg τ) ((i).toNatClampNeg) (-1))) _ _ _ (by rw [ej]; exact nI_1 j) (by omega) (by omega) (hm.trans ((if_neg c_101).trans rfl)) hP hD hS (lv_sub hl [0, 1, 2, 3] rfl)
  refine lv_iload_n hx hb dX1_forget_0 rfl (lv_at hl 1 rfl) ?_
  refine lv_istore_n (lv' := [(3, .int fr), (0, .ref (h 0)), (1, .int fr), (2, .int k)]) hx hb dX1_forget_1 rfl hl (by decide) rfl (fun ls hl => ?_)
  exact key_l1 17 0 fr σ _ _ _ hfr (by omega) (by omega) (rfl) hP hD hS (lv_sub hl [0, 1, 2, 3] rfl)
set_option maxHeartbeats 4000000 in
set_option maxRecDepth 100000 in
theorem c_m_region (l : Launch) (dC : Nat → ClassId) (dI : Nat → Nat → Nat) (h : Nat → Nat) (cI : ClassId) (n : Nat) (sz : Nat) (σ : MS) (rg : Int32) (ba : Int32) (le : Int32) : Met l yX1_region wsX1_region ({ frames := 1, cells := 0, slots := 0, locals := 23 }) (va_Pc [.ref (h 0), .int rg, .int ba, .int le] (m_BM dC dI h cI n sz σ)) (q_m_region dC dI h cI n σ rg ba le (va_A (m_ws h cI n σ) sz)) 0 0 (va_A (m_ws h cI n σ) sz) := by
  refine Met.ofW (cc := cX1_region) (maxL := 4) (ret := (some .boolean)) (by decide) rfl ?_
  intro p e s m args below meth c s₁ B hml hv
  obtain ⟨rfl, hsz, hP, hK, hD0⟩ := hv
  have hx := B.exec
  have hb := B.bytes
  have hr := B.returns
  have hts : ∀ w ∈ bX1, w.before _ s = true := fun w h => atoms_spec (ws := wsX1_region) B.pre w (List.mem_cons_of_mem _ h)
  have hown : s.vm.findClass RX1 = some m.cls := findClass_of_methodNamed B.named
  have hlocks := B.notSynchronized
  subst hsz
  have hD := hD0.self (sz := s.heap.size)
  generalize hAe : va_A (m_ws h cI n σ) s.heap.size = A at hD ⊢
  have hA : ∀ q : Nat, s.heap.size ≤ q → A q := fun q h => by rw [← hAe]; exact Or.inr h
  have hS : va_S A s.heap s.heap [] := va_S.rf
  have hP : va_P (dC, dI) vwCl (m_ws h cI n σ) s.heap := hP
  have hl := lv_entry ([.ref (h 0), .int rg, .int ba, .int le]) (n := 4) (Nat.le_of_ble_eq_true rfl)
  rw [lg_entry_eq]
  generalize (lg_sl ([.ref (h 0), .int rg, .int ba, .int le]) ++ List.replicate (4 - (lg_sl ([.ref (h 0), .int rg, .int ba, .int le])).length) Slot.unset).toArray = ls at hl ⊢
  have hl : lv_has ls 4 [(0, .ref (h 0)), (1, .int rg), (2, .int ba), (3, .int le)] := hl
  refine lv_iload_n hx hb dX1_region_0 rfl (lv_at hl 1 rfl) ?_
  refine lv_if_lt (tgt := 9) hx hb dX1_region_1 (by decide) (fun c_1 => ?_) (fun c_1 => ?_)
  · refine lv_iconst (v := 0) hx hb dX1_region_9 (by decide) ?_
    exact W.zret (ty := .boolean) (v := 0) hx hb hr rfl (fun t ht hW => ⟨⟨0, σ, rfl, (if_pos c_1).trans rfl, by rw [ht]; exact hP, va_K.moved hW.alike hK, hD⟩, hS.F ht⟩) hS.2.2 dX1_region_10
  · refine lv_iload_n hx hb dX1_region_4 rfl (lv_at hl 1 rfl) ?_
    refine lv_iconst (v := 3) hx hb dX1_region_5 (by decide) ?_
    refine lv_icmp_lt (tgt := 11) hx hb dX1_region_6 (by decide) (fun c_2 => ?_) (fun c_2 => ?_)
    · refine lv_aload_n hx hb dX1_region_11 rfl (lv_at hl 0 rfl) ?_
      refine va_get (D := (dC, dI)) (ci := 1) (v := .ref (h 2)) (C := RX1) (T := TX1) (N := 14) hx hb hts inbX1 hown hK hP 0 rfl rfl 2 (by decide) (hts _ bX1_2) (fun _ h9 => h9) rfl dX1_region_12 ?_
      refine lv_iload_n hx hb dX1_region_15 rfl (lv_at hl 1 rfl) ?_
      refine lv_iload_n hx hb dX1_region_16 rfl (lv_at hl 2 rfl) ?_
      refine lv_ldc (v := 65535) hx hb hown (hts _ bX1_16) dX1_region_17 ?_
      refine lv_iand hx hb dX1_region_19 ?_
      refine va_iast hx hb hK hP hD hS 2 0 rfl rfl (x_r3b c_1 c_2) dX1_region_20 (fun H locs hP hD hS => ?_)
      have hP := m_pBas hP
      have hD := m_dBas hD
      refine lv_aload_n hx hb dX1_region_21 rfl (lv_at hl 0 rfl) ?_
      refine va_get (D := (dC, dI)) (ci := 1) (v := .ref (h 3)) (C := RX1) (T := TX1) (N := 14) hx hb hts inbX1 hown hK hP 0 rfl rfl 3 (by decide) (hts _ bX1_3) (fun _ h9 => h9) rfl dX1_region_22 ?_
      refine lv_iload_n hx hb dX1_region_25 rfl (lv_at hl 1 rfl) ?_
      refine lv_iload_n hx hb dX1_region_26 rfl (lv_at hl 3 rfl) ?_
      refine lv_ldc (v := 65535) hx hb hown (hts _ bX1_16) dX1_region_27 ?_
      refine lv_iand hx hb dX1_region_29 ?_
      refine va_iast hx hb hK hP hD hS 3 0 rfl rfl (x_r3b c_1 c_2) dX1_region_30 (fun H locs hP hD hS => ?_)
      have hP := m_pLen hP
      have hD := m_dLen hD
      refine lv_aload_n hx hb dX1_region_31 rfl (lv_at hl 0 rfl) ?_
      refine lv_iconst (v := 0) hx hb dX1_region_32 (by decide) ?_
      refine lv_iload_n hx hb dX1_region_33 rfl (lv_at hl 1 rfl) ?_
      refine lv_iconst (v := 2) hx hb dX1_region_34 (by decide) ?_
      refine lv_icmp_ne (tgt := 43) hx hb dX1_region_35 (by decide) (fun c_3 => ?_) (fun c_3 => ?_)
      · refine lv_bipush (v := 8) hx hb dX1_region_43 (by decide) ?_
        refine m_callv (f := (m_forget n (m_sLen (m_sBas σ (upd (m_bas σ) ((rg).toNatClampNeg) (ba &&& 65535))) (upd (m_len (m_sBas σ (upd (m_bas σ) ((rg).toNatClampNeg) (ba &&& 65535)))) ((rg).toNatClampNeg) (le &&& 65535))) 0 8)) (va_runV (C := RX1) (As := [.int 0, .int 8]) (rest := []) ⟨hx, hb, hml, hown, hts⟩ (c_m_forget l dC dI h cI n _ (m_sLen (m_sBas σ (upd (m_bas σ) ((rg).toNatClampNeg) (ba &&& 65535))) (upd (m_len (m_sBas σ (upd (m_bas σ) ((rg).toNatClampNeg) (ba &&& 65535)))) ((rg).toNatClampNeg) (le &&& 65535))) 0 8 rfl ⟨8, by omega, rfl⟩) (cwV 2 hts gX1_X1_forget rfl rfl rfl (by decide +kernel) ⟨Nat.le_of_ble_eq_true rfl, Nat.le_of_ble_eq_true rfl⟩) (m_preM hK hP hD) rfl rfl hl.1 rfl (lv_room (Nat.le_of_ble_eq_true rfl)) dX1_region_45 ⟨Nat.zero_le _, Nat.zero_le _⟩) hP hD hS hA (fun t_4 H locs e_5 hP hD hS => ?_)
        refine lv_iconst (v := 1) hx hb dX1_region_48 (by decide) ?_
        exact W.zret (ty := .boolean) (v := 1) hx hb hr rfl (fun t ht hW => ⟨⟨1, t_4, rfl, (if_neg c_1).trans ((if_pos c_2).trans ((if_neg c_3).trans ((kv_eq e_5).trans rfl))), by rw [ht]; exact hP, va_K.moved hW.alike hK, hD⟩, hS.F ht⟩) hS.2.2 dX1_region_49
      · refine lv_bipush (v := 16) hx hb dX1_region_38 (by decide) ?_
        refine lv_goto (tgt := 45) hx hb dX1_region_40 (by decide) ?_
        refine m_callv (f := (m_forget n (m_sLen (m_sBas σ (upd (m_bas σ) ((rg).toNatClampNeg) (ba &&& 65535))) (upd (m_len (m_sBas σ (upd (m_bas σ) ((rg).toNatClampNeg) (ba &&& 65535)))) ((rg).toNatClampNeg) (le &&& 65535))) 0 16)) (va_runV (C := RX1) (As := [.int 0, .int 16]) (rest := []) ⟨hx, hb, hml, hown, hts⟩ (c_m_forget l dC dI h cI n _ (m_sLen (m_sBas σ (upd (m_bas σ) ((rg).toNatClampNeg) (ba &&& 65535))) (upd (m_len (m_sBas σ (upd (m_bas σ) ((rg).toNatClampNeg) (ba &&& 65535)))) ((rg).toNatClampNeg) (le &&& 65535))) 0 16 rfl ⟨16, by omega, rfl⟩) (cwV 2 hts gX1_X1_forget rfl rfl rfl (by decide +kernel) ⟨Nat.le_of_ble_eq_true rfl, Nat.le_of_ble_eq_true rfl⟩) (m_preM hK hP hD) rfl rfl hl.1 rfl (lv_room (Nat.le_of_ble_eq_true rfl)) dX1_region_45 ⟨Nat.zero_le _, Nat.zero_le _⟩) hP hD hS hA (fun t_6 H locs e_7 hP hD hS => ?_)
        refine lv_iconst (v := 1) hx hb dX1_region_48 (by decide) ?_
        exact W.zret (ty := .boolean) (v := 1) hx hb hr rfl (fun t ht hW => ⟨⟨1, t_6, rfl, (if_neg c_1).trans ((if_pos c_2).trans ((if_pos c_3).trans ((kv_eq e_7).trans rfl))), by rw [ht]; exact hP, va_K.moved hW.alike hK, hD⟩, hS.F ht⟩) hS.2.2 dX1_region_49
    · refine lv_iconst (v := 0) hx hb dX1_region_9 (by decide) ?_
      exact W.zret (ty := .boolean) (v := 0) hx hb hr rfl (fun t ht hW => ⟨⟨0, σ, rfl, (if_neg c_1).trans ((if_neg c_2).trans rfl), by rw [ht]; exact hP, va_K.moved hW.alike hK, hD⟩, hS.F ht⟩) hS.2.2 dX1_region_10
set_option maxHeartbeats 4000000 in
set_option maxRecDepth 100000 in
theorem c_m_map (l : Launch) (dC : Nat → ClassId) (dI : Nat → Nat → Nat) (h : Nat → Nat) (cI : ClassId) (n : Nat) (sz : Nat) (σ : MS) (b : Int32) (hb01 : b = 0 ∨ b = 1) : Met l yX1_map wsX1_map ({ frames := 1, cells := 0, slots := 0, locals := 23 }) (va_Pc [.ref (h 0), .int b] (m_BM dC dI h cI n sz σ)) (q_m_map dC dI h cI n σ b (va_A (m_ws h cI n σ) sz)) 0 0 (va_A (m_ws h cI n σ) sz) := by
  refine Met.ofW (cc := cX1_map) (maxL := 2) (ret := none) (by decide) rfl ?_
  intro p e s m args below meth c s₁ B hml hv
  obtain ⟨rfl, hsz, hP, hK, hD0⟩ := hv
  have hx := B.exec
  have hb := B.bytes
  have hr := B.returns
  have hts : ∀ w ∈ bX1, w.before _ s = true := fun w h => atoms_spec (ws := wsX1_map) B.pre w (List.mem_cons_of_mem _ h)
  have hown : s.vm.findClass RX1 = some m.cls := findClass_of_methodNamed B.named
  have hlocks := B.notSynchronized
  subst hsz
  have hD := hD0.self (sz := s.heap.size)
  generalize hAe : va_A (m_ws h cI n σ) s.heap.size = A at hD ⊢
  have hA : ∀ q : Nat, s.heap.size ≤ q → A q := fun q h => by rw [← hAe]; exact Or.inr h
  have hS : va_S A s.heap s.heap [] := va_S.rf
  have hP : va_P (dC, dI) vwCl (m_ws h cI n σ) s.heap := hP
  have hl := lv_entry ([.ref (h 0), .int b]) (n := 2) (Nat.le_of_ble_eq_true rfl)
  rw [lg_entry_eq]
  generalize (lg_sl ([.ref (h 0), .int b]) ++ List.replicate (2 - (lg_sl ([.ref (h 0), .int b])).length) Slot.unset).toArray = ls at hl ⊢
  have hl : lv_has ls 2 [(0, .ref (h 0)), (1, .int b)] := hl
  refine lv_aload_n hx hb dX1_map_0 rfl (lv_at hl 0 rfl) ?_
  refine lv_iload_n hx hb dX1_map_1 rfl (lv_at hl 1 rfl) ?_
  refine va_put (D := (dC, dI)) (ci := 1) (v := .int b) (ty := .boolean) (C := RX1) (T := TX1) (N := 14) hx hb hts inbX1 tyX1 tyX1_ok nmX1 hown hK hP hD hS 0 rfl rfl 4 (by decide) (hts _ bX1_4) (fun _ h9 => h9) rfl (by decide +kernel) (x_nb hb01) (x_fb hb01) (Nat.le_of_ble_eq_true rfl) dX1_map_2 (fun H locs hP hD hS => ?_)
  have hP := m_pOn hP
  have hD := m_dOn hD
  refine lv_aload_n hx hb dX1_map_5 rfl (lv_at hl 0 rfl) ?_
  refine lv_iconst (v := 0) hx hb dX1_map_6 (by decide) ?_
  refine lv_bipush (v := 16) hx hb dX1_map_7 (by decide) ?_
  refine m_callv (f := (m_forget n (m_sOn σ b) 0 16)) (va_runV (C := RX1) (As := [.int 0, .int 16]) (rest := []) ⟨hx, hb, hml, hown, hts⟩ (c_m_forget l dC dI h cI n _ (m_sOn σ b) 0 16 rfl ⟨16, by omega, rfl⟩) (cwV 2 hts gX1_X1_forget rfl rfl rfl (by decide +kernel) ⟨Nat.le_of_ble_eq_true rfl, Nat.le_of_ble_eq_true rfl⟩) (m_preM hK hP hD) rfl rfl hl.1 rfl (lv_room (Nat.le_of_ble_eq_true rfl)) dX1_map_9 ⟨Nat.zero_le _, Nat.zero_le _⟩) hP hD hS hA (fun t_1 H locs e_2 hP hD hS => ?_)
  exact W.vret hx hb hr (fun t ht hW => ⟨⟨t_1, rfl, (kv_eq e_2).trans rfl, by rw [ht]; exact hP, va_K.moved hW.alike hK, hD⟩, hS.F ht⟩) hS.2.2 dX1_map_12
set_option maxHeartbeats 4000000 in
set_option maxRecDepth 100000 in
theorem c_m_keeps (l : Launch) (dC : Nat → ClassId) (dI : Nat → Nat → Nat) (h : Nat → Nat) (cI : ClassId) (n : Nat) (sz : Nat) (σ : MS) (a : Int32) (v : Int32) (q : Int32) : Met l yX1_keeps wsX1_keeps ({ frames := 2, cells := 0, slots := 0, locals := 40 }) (va_Pc [.ref (h 0), .int a, .int v, .int q] (m_BM dC dI h cI n sz σ)) (q_m_keeps dC dI h cI n σ a v q (va_A (m_ws h cI n σ) sz)) 0 0 (va_A (m_ws h cI n σ) sz) := by
  refine Met.ofW (cc := cX1_keeps) (maxL := 4) (ret := none) (by decide) rfl ?_
  intro p e s m args below meth c s₁ B hml hv
  obtain ⟨rfl, hsz, hP, hK, hD0⟩ := hv
  have hx := B.exec
  have hb := B.bytes
  have hr := B.returns
  have hts : ∀ w ∈ bX1, w.before _ s = true := fun w h => atoms_spec (ws := wsX1_keeps) B.pre w (List.mem_cons_of_mem _ h)
  have hown : s.vm.findClass RX1 = some m.cls := findClass_of_methodNamed B.named
  have hlocks := B.notSynchronized
  subst hsz
  have hD := hD0.self (sz := s.heap.size)
  generalize hAe : va_A (m_ws h cI n σ) s.heap.size = A at hD ⊢
  have hA : ∀ q : Nat, s.heap.size ≤ q → A q := fun q h => by rw [← hAe]; exact Or.inr h
  have hS : va_S A s.heap s.heap [] := va_S.rf
  have hP : va_P (dC, dI) vwCl (m_ws h cI n σ) s.heap := hP
  have hl := lv_entry ([.ref (h 0), .int a, .int v, .int q]) (n := 4) (Nat.le_of_ble_eq_true rfl)
  rw [lg_entry_eq]
  generalize (lg_sl ([.ref (h 0), .int a, .int v, .int q]) ++ List.replicate (4 - (lg_sl ([.ref (h 0), .int a, .int v, .int q])).length) Slot.unset).toArray = ls at hl ⊢
  have hl : lv_has ls 4 [(0, .ref (h 0)), (1, .int a), (2, .int v), (3, .int q)] := hl
  refine lv_aload_n hx hb dX1_keeps_0 rfl (lv_at hl 0 rfl) ?_
  refine va_get (D := (dC, dI)) (ci := 1) (v := .ref (h 4)) (C := RX1) (T := TX1) (N := 14) hx hb hts inbX1 hown hK hP 0 rfl rfl 5 (by decide) (hts _ bX1_5) (fun _ h9 => h9) rfl dX1_keeps_1 ?_
  refine lv_iload_n hx hb dX1_keeps_4 rfl (lv_at hl 1 rfl) ?_
  refine vp_callSi (W.runS (As := [.int a]) (rest := [.ref (h 4)]) ⟨hx, hb, hml, hown, hts⟩ (c_m_slot l a ) (va_cwS 1 hts gX1_X1_slot rfl rfl rfl (by decide +kernel) ⟨Nat.le_of_ble_eq_true rfl, Nat.le_of_ble_eq_true rfl⟩) (fs_pre) rfl rfl hl.1 rfl (lv_room (Nat.le_of_ble_eq_true rfl)) dX1_keeps_5 ⟨Nat.zero_le _, Nat.zero_le _⟩) (fun r er => ?_)
  subst er
  refine lv_iload_n hx hb dX1_keeps_8 rfl (lv_at hl 1 rfl) ?_
  refine lv_ldc (v := 65520) hx hb hown (hts _ bX1_17) dX1_keeps_9 ?_
  refine lv_iand hx hb dX1_keeps_11 ?_
  refine va_iast hx hb hK hP hD hS 4 0 rfl rfl (m_slot_in a) dX1_keeps_12 (fun H locs hP hD hS => ?_)
  have hP := m_pPg hP
  have hD := m_dPg hD
  refine lv_aload_n hx hb dX1_keeps_13 rfl (lv_at hl 0 rfl) ?_
  refine va_get (D := (dC, dI)) (ci := 1) (v := .ref (h 5)) (C := RX1) (T := TX1) (N := 14) hx hb hts inbX1 hown hK hP 0 rfl rfl 6 (by decide) (hts _ bX1_6) (fun _ h9 => h9) rfl dX1_keeps_14 ?_
  refine lv_iload_n hx hb dX1_keeps_17 rfl (lv_at hl 1 rfl) ?_
  refine vp_callSi (W.runS (As := [.int a]) (rest := [.ref (h 5)]) ⟨hx, hb, hml, hown, hts⟩ (c_m_slot l a ) (va_cwS 1 hts gX1_X1_slot rfl rfl rfl (by decide +kernel) ⟨Nat.le_of_ble_eq_true rfl, Nat.le_of_ble_eq_true rfl⟩) (fs_pre) rfl rfl hl.1 rfl (lv_room (Nat.le_of_ble_eq_true rfl)) dX1_keeps_18 ⟨Nat.zero_le _, Nat.zero_le _⟩) (fun r er => ?_)
  subst er
  refine lv_iload_n hx hb dX1_keeps_21 rfl (lv_at hl 2 rfl) ?_
  refine va_iast hx hb hK hP hD hS 5 0 rfl rfl (m_slot_in a) dX1_keeps_22 (fun H locs hP hD hS => ?_)
  have hP := m_pEn hP
  have hD := m_dEn hD
  refine lv_aload_n hx hb dX1_keeps_23 rfl (lv_at hl 0 rfl) ?_
  refine va_get (D := (dC, dI)) (ci := 1) (v := .ref (h 6)) (C := RX1) (T := TX1) (N := 14) hx hb hts inbX1 hown hK hP 0 rfl rfl 7 (by decide) (hts _ bX1_7) (fun _ h9 => h9) rfl dX1_keeps_24 ?_
  refine lv_iload_n hx hb dX1_keeps_27 rfl (lv_at hl 1 rfl) ?_
  refine vp_callSi (W.runS (As := [.int a]) (rest := [.ref (h 6)]) ⟨hx, hb, hml, hown, hts⟩ (c_m_slot l a ) (va_cwS 1 hts gX1_X1_slot rfl rfl rfl (by decide +kernel) ⟨Nat.le_of_ble_eq_true rfl, Nat.le_of_ble_eq_true rfl⟩) (fs_pre) rfl rfl hl.1 rfl (lv_room (Nat.le_of_ble_eq_true rfl)) dX1_keeps_28 ⟨Nat.zero_le _, Nat.zero_le _⟩) (fun r er => ?_)
  subst er
  refine lv_iload_n hx hb dX1_keeps_31 rfl (lv_at hl 3 rfl) ?_
  refine va_iast hx hb hK hP hD hS 6 0 rfl rfl (m_slot_in a) dX1_keeps_32 (fun H locs hP hD hS => ?_)
  have hP := m_pPc hP
  have hD := m_dPc hD
  exact W.vret hx hb hr (fun t ht hW => ⟨⟨(m_sPc (m_sEn (m_sPg σ (upd (m_pg σ) (((m_slot a)).toNatClampNeg) (a &&& 65520))) (upd (m_en (m_sPg σ (upd (m_pg σ) (((m_slot a)).toNatClampNeg) (a &&& 65520)))) (((m_slot a)).toNatClampNeg) v)) (upd (m_pc (m_sEn (m_sPg σ (upd (m_pg σ) (((m_slot a)).toNatClampNeg) (a &&& 65520))) (upd (m_en (m_sPg σ (upd (m_pg σ) (((m_slot a)).toNatClampNeg) (a &&& 65520)))) (((m_slot a)).toNatClampNeg) v))) (((m_slot a)).toNatClampNeg) q)), rfl, rfl, by rw [ht]; exact hP, va_K.moved hW.alike hK, hD⟩, hS.F ht⟩) hS.2.2 dX1_keeps_33
set_option maxHeartbeats 4000000 in
set_option maxRecDepth 100000 in
theorem c_m_drop (l : Launch) (dC : Nat → ClassId) (dI : Nat → Nat → Nat) (h : Nat → Nat) (cI : ClassId) (n : Nat) (sz : Nat) (σ : MS) (a : Int32) : Met l yX1_drop wsX1_drop ({ frames := 3, cells := 0, slots := 0, locals := 61 }) (va_Pc [.ref (h 0), .int a] (m_BM dC dI h cI n sz σ)) (q_m_drop dC dI h cI n σ a (va_A (m_ws h cI n σ) sz)) 0 0 (va_A (m_ws h cI n σ) sz) := by
  refine Met.ofW (cc := cX1_drop) (maxL := 3) (ret := (some .boolean)) (by decide) rfl ?_
  intro p e s m args below meth c s₁ B hml hv
  obtain ⟨rfl, hsz, hP, hK, hD0⟩ := hv
  have hx := B.exec
  have hb := B.bytes
  have hr := B.returns
  have hts : ∀ w ∈ bX1, w.before _ s = true := fun w h => atoms_spec (ws := wsX1_drop) B.pre w (List.mem_cons_of_mem _ h)
  have hown : s.vm.findClass RX1 = some m.cls := findClass_of_methodNamed B.named
  have hlocks := B.notSynchronized
  subst hsz
  have hD := hD0.self (sz := s.heap.size)
  generalize hAe : va_A (m_ws h cI n σ) s.heap.size = A at hD ⊢
  have hA : ∀ q : Nat, s.heap.size ≤ q → A q := fun q h => by rw [← hAe]; exact Or.inr h
  have hS : va_S A s.heap s.heap [] := va_S.rf
  have hP : va_P (dC, dI) vwCl (m_ws h cI n σ) s.heap := hP
  have hl := lv_entry ([.ref (h 0), .int a]) (n := 3) (Nat.le_of_ble_eq_true rfl)
  rw [lg_entry_eq]
  generalize (lg_sl ([.ref (h 0), .int a]) ++ List.replicate (3 - (lg_sl ([.ref (h 0), .int a])).length) Slot.unset).toArray = ls at hl ⊢
  have hl : lv_has ls 3 [(0, .ref (h 0)), (1, .int a)] := hl
  refine lv_iload_n hx hb dX1_drop_0 rfl (lv_at hl 1 rfl) ?_
  refine lv_ldc (v := 65535) hx hb hown (hts _ bX1_16) dX1_drop_1 ?_
  refine lv_iand hx hb dX1_drop_3 ?_
  refine lv_istore_n (lv' := [(2, .int (a &&& 65535)), (0, .ref (h 0)), (1, .int a)]) hx hb dX1_drop_4 rfl hl (by decide) rfl (fun ls hl => ?_)
  refine lv_aload_n hx hb dX1_drop_5 rfl (lv_at hl 1 rfl) ?_
  refine lv_iload_n hx hb dX1_drop_6 rfl (lv_at hl 0 rfl) ?_
  refine vp_callSi (W.runV (C := RX1) (As := [.int (a &&& 65535)]) (rest := []) ⟨hx, hb, hml, hown, hts⟩ (c_m_isKept l dC dI h cI n σ (a &&& 65535) ) (cwV 1 hts gX1_X1_isKept rfl rfl rfl (by decide +kernel) ⟨Nat.le_of_ble_eq_true rfl, Nat.le_of_ble_eq_true rfl⟩) (m_preP hK hP) rfl rfl hl.1 rfl (lv_room (Nat.le_of_ble_eq_true rfl)) dX1_drop_7 ⟨Nat.zero_le _, Nat.zero_le _⟩) (fun r er => ?_)
  subst er
  refine lv_if_ne (tgt := 15) hx hb dX1_drop_10 (by decide) (fun c_1 => ?_) (fun c_1 => ?_)
  · refine lv_aload_n hx hb dX1_drop_15 rfl (lv_at hl 1 rfl) ?_
    refine va_get (D := (dC, dI)) (ci := 1) (v := .ref (h 4)) (C := RX1) (T := TX1) (N := 14) hx hb hts inbX1 hown hK hP 0 rfl rfl 5 (by decide) (hts _ bX1_5) (fun _ h9 => h9) rfl dX1_drop_16 ?_
    refine lv_iload_n hx hb dX1_drop_19 rfl (lv_at hl 0 rfl) ?_
    refine vp_callSi (W.runS (As := [.int (a &&& 65535)]) (rest := [.ref (h 4)]) ⟨hx, hb, hml, hown, hts⟩ (c_m_slot l (a &&& 65535) ) (va_cwS 1 hts gX1_X1_slot rfl rfl rfl (by decide +kernel) ⟨Nat.le_of_ble_eq_true rfl, Nat.le_of_ble_eq_true rfl⟩) (fs_pre) rfl rfl hl.1 rfl (lv_room (Nat.le_of_ble_eq_true rfl)) dX1_drop_20 ⟨Nat.zero_le _, Nat.zero_le _⟩) (fun r er => ?_)
    subst er
    refine lv_iconst (v := (-1)) hx hb dX1_drop_23 (by decide) ?_
    refine va_iast hx hb hK hP hD hS 4 0 rfl rfl (m_slot_in _) dX1_drop_24 (fun H locs hP hD hS => ?_)
    have hP := m_pPg hP
    have hD := m_dPg hD
    refine lv_iconst (v := 1) hx hb dX1_drop_25 (by decide) ?_
    exact W.zret (ty := .boolean) (v := 1) hx hb hr rfl (fun t ht hW => ⟨⟨1, (m_sPg σ (upd (m_pg σ) (((m_slot (a &&& 65535))).toNatClampNeg) (-1))), rfl, (if_neg c_1).trans rfl, by rw [ht]; exact hP, va_K.moved hW.alike hK, hD⟩, hS.F ht⟩) hS.2.2 dX1_drop_26
  · refine lv_iconst (v := 0) hx hb dX1_drop_13 (by decide) ?_
    exact W.zret (ty := .boolean) (v := 0) hx hb hr rfl (fun t ht hW => ⟨⟨0, σ, rfl, (if_pos c_1).trans rfl, by rw [ht]; exact hP, va_K.moved hW.alike hK, hD⟩, hS.F ht⟩) hS.2.2 dX1_drop_14
end
section
set_option maxHeartbeats 4000000 in
set_option maxRecDepth 100000 in
theorem c_m_look (l : Launch) (dC : Nat → ClassId) (dI : Nat → Nat → Nat) (h : Nat → Nat) (cI : ClassId) (n : Nat) (sz : Nat) (σ : MS) (a : Int32) (kp : Int32) (hn : n ≤ 2048) : Met l yX1_look wsX1_look ({ frames := 3, cells := 0, slots := 0, locals := 63 }) (va_Pc [.ref (h 0), .int a, .int kp] (m_BM dC dI h cI n sz σ)) (q_m_look dC dI h cI n σ a kp (va_A (m_ws h cI n σ) sz)) 0 0 (va_A (m_ws h cI n σ) sz) := by
  refine Met.ofW (cc := cX1_look) (maxL := 7) (ret := (some .int)) (by decide) rfl ?_
  intro p e s m args below meth c s₁ B hml hv
  obtain ⟨rfl, hsz, hP, hK, hD0⟩ := hv
  have hx := B.exec
  have hb := B.bytes
  have hr := B.returns
  have hts : ∀ w ∈ bX1, w.before _ s = true := fun w h => atoms_spec (ws := wsX1_look) B.pre w (List.mem_cons_of_mem _ h)
  have hown : s.vm.findClass RX1 = some m.cls := findClass_of_methodNamed B.named
  have hlocks := B.notSynchronized
  subst hsz
  have hD := hD0.self (sz := s.heap.size)
  generalize hAe : va_A (m_ws h cI n σ) s.heap.size = A at hD ⊢
  have hA : ∀ q : Nat, s.heap.size ≤ q → A q := fun q h => by rw [← hAe]; exact Or.inr h
  have hS : va_S A s.heap s.heap [] := va_S.rf
  have hP : va_P (dC, dI) vwCl (m_ws h cI n σ) s.heap := hP
  have hl := lv_entry ([.ref (h 0), .int a, .int kp]) (n := 7) (Nat.le_of_ble_eq_true rfl)
  rw [lg_entry_eq]
  generalize (lg_sl ([.ref (h 0), .int a, .int kp]) ++ List.replicate (7 - (lg_sl ([.ref (h 0), .int a, .int kp])).length) Slot.unset).toArray = ls at hl ⊢
  have hl : lv_has ls 7 [(0, .ref (h 0)), (1, .int a), (2, .int kp)] := hl
  refine lv_aload_n hx hb dX1_look_0 rfl (lv_at hl 0 rfl) ?_
  refine lv_iload_n hx hb dX1_look_1 rfl (lv_at hl 1 rfl) ?_
  refine vp_callSi (W.runV (C := RX1) (As := [.int a]) (rest := []) ⟨hx, hb, hml, hown, hts⟩ (c_m_isKept l dC dI h cI n σ a ) (cwV 1 hts gX1_X1_isKept rfl rfl rfl (by decide +kernel) ⟨Nat.le_of_ble_eq_true rfl, Nat.le_of_ble_eq_true rfl⟩) (m_preP hK hP) rfl rfl hl.1 rfl (lv_room (Nat.le_of_ble_eq_true rfl)) dX1_look_2 ⟨Nat.zero_le _, Nat.zero_le _⟩) (fun r er => ?_)
  subst er
  refine lv_if_eq (tgt := 36) hx hb dX1_look_5 (by decide) (fun c_1 => ?_) (fun c_1 => ?_)
  · refine lv_aload_n hx hb dX1_look_36 rfl (lv_at hl 0 rfl) ?_
    refine lv_iload_n hx hb dX1_look_37 rfl (lv_at hl 1 rfl) ?_
    refine vp_callSi (W.runV (C := RX1) (As := [.int a]) (rest := []) ⟨hx, hb, hml, hown, hts⟩ (c_m_isInside l dC dI h cI n σ a ) (cwV 1 hts gX1_X1_isInside rfl rfl rfl (by decide +kernel) ⟨Nat.le_of_ble_eq_true rfl, Nat.le_of_ble_eq_true rfl⟩) (m_preP hK hP) rfl rfl hl.1 rfl (lv_room (Nat.le_of_ble_eq_true rfl)) dX1_look_38 ⟨Nat.zero_le _, Nat.zero_le _⟩) (fun r er => ?_)
    subst er
    refine lv_if_ne (tgt := 47) hx hb dX1_look_41 (by decide) (fun c_2 => ?_) (fun c_2 => ?_)
    · refine lv_iload_n hx hb dX1_look_47 rfl (lv_at hl 1 rfl) ?_
      refine vp_callSi (W.runS (As := [.int a]) (rest := []) ⟨hx, hb, hml, hown, hts⟩ (c_m_regionOf l a ) (va_cwS 1 hts gX1_X1_regionOf rfl rfl rfl (by decide +kernel) ⟨Nat.le_of_ble_eq_true rfl, Nat.le_of_ble_eq_true rfl⟩) (fs_pre) rfl rfl hl.1 rfl (lv_room (Nat.le_of_ble_eq_true rfl)) dX1_look_48 ⟨Nat.zero_le _, Nat.zero_le _⟩) (fun r er => ?_)
      subst er
      refine lv_istore_n (lv' := [(3, .int (m_regionOf a)), (0, .ref (h 0)), (1, .int a), (2, .int kp)]) hx hb dX1_look_51 rfl hl (by decide) rfl (fun ls hl => ?_)
      refine lv_iload_n hx hb dX1_look_52 rfl (lv_at hl 0 rfl) ?_
      refine lv_iconst (v := 2) hx hb dX1_look_53 (by decide) ?_
      refine lv_icmp_ne (tgt := 77) hx hb dX1_look_54 (by decide) (fun c_3 => ?_) (fun c_3 => ?_)
      · refine lv_aload_n hx hb dX1_look_77 rfl (lv_at hl 1 rfl) ?_
        refine va_get (D := (dC, dI)) (ci := 1) (v := .ref (h 2)) (C := RX1) (T := TX1) (N := 14) hx hb hts inbX1 hown hK hP 0 rfl rfl 2 (by decide) (hts _ bX1_2) (fun _ h9 => h9) rfl dX1_look_78 ?_
        refine lv_iload_n hx hb dX1_look_81 rfl (lv_at hl 0 rfl) ?_
        refine va_iald hx hb hK hP 2 0 rfl rfl (m_in_r c_2) dX1_look_82 ?_
        refine lv_iconst (v := 4) hx hb dX1_look_83 (by decide) ?_
        refine lv_iload_n hx hb dX1_look_84 rfl (lv_at hl 2 rfl) ?_
        refine vp_callSi (W.runS (As := [.int a]) (rest := [.int 4, .int (m_bas σ ((m_regionOf a)).toNatClampNeg)]) ⟨hx, hb, hml, hown, hts⟩ (c_m_pageOf l a ) (va_cwS 1 hts gX1_X1_pageOf rfl rfl rfl (by decide +kernel) ⟨Nat.le_of_ble_eq_true rfl, Nat.le_of_ble_eq_true rfl⟩) (fs_pre) rfl rfl hl.1 rfl (lv_room (Nat.le_of_ble_eq_true rfl)) dX1_look_85 ⟨Nat.zero_le _, Nat.zero_le _⟩) (fun r er => ?_)
        subst er
        refine lv_imul hx hb dX1_look_88 ?_
        refine lv_iadd hx hb dX1_look_89 ?_
        refine lv_ldc (v := 65535) hx hb hown (hts _ bX1_16) dX1_look_90 ?_
        refine lv_iand hx hb dX1_look_92 ?_
        refine lv_topi (fun wh_4 ewh_4 => ?_)
        refine lv_istore (lv' := [(4, .int wh_4), (3, .int (m_regionOf a)), (0, .ref (h 0)), (1, .int a), (2, .int kp)]) hx hb dX1_look_93 hl (by decide) rfl (fun ls hl => ?_)
        refine lv_iload hx hb dX1_look_95 (lv_at hl 0 rfl) ?_
        refine vp_callSi (W.runS (As := [.int wh_4]) (rest := []) ⟨hx, hb, hml, hown, hts⟩ (c_m_regionOf l wh_4 ) (va_cwS 1 hts gX1_X1_regionOf rfl rfl rfl (by decide +kernel) ⟨Nat.le_of_ble_eq_true rfl, Nat.le_of_ble_eq_true rfl⟩) (fs_pre) rfl rfl hl.1 rfl (lv_room (Nat.le_of_ble_eq_true rfl)) dX1_look_97 ⟨Nat.zero_le _, Nat.zero_le _⟩) (fun r er => ?_)
        subst er
        refine lv_iconst (v := 2) hx hb dX1_look_100 (by decide) ?_
        refine lv_icmp_ne (tgt := 113) hx hb dX1_look_101 (by decide) (fun c_5 => ?_) (fun c_5 => ?_)
        · refine lv_bipush (v := (-4)) hx hb dX1_look_113 (by decide) ?_
          exact W.iret (v := (-4)) hx hb hr (fun t ht hW => ⟨⟨(-4), σ, rfl, (if_pos c_1).trans ((if_neg c_2).trans ((if_neg c_3).trans ((kv_eq ewh_4.symm).trans ((if_neg c_5).trans rfl)))), by rw [ht]; exact hP, va_K.moved hW.alike hK, hD⟩, hS.F ht⟩) hS.2.2 dX1_look_115
        · refine lv_aload_n hx hb dX1_look_104 rfl (lv_at hl 2 rfl) ?_
          refine lv_iload hx hb dX1_look_105 (lv_at hl 0 rfl) ?_
          refine vp_callSi (W.runV (C := RX1) (As := [.int wh_4]) (rest := []) ⟨hx, hb, hml, hown, hts⟩ (c_m_isInside l dC dI h cI n σ wh_4 ) (cwV 1 hts gX1_X1_isInside rfl rfl rfl (by decide +kernel) ⟨Nat.le_of_ble_eq_true rfl, Nat.le_of_ble_eq_true rfl⟩) (m_preP hK hP) rfl rfl hl.1 rfl (lv_room (Nat.le_of_ble_eq_true rfl)) dX1_look_107 ⟨Nat.zero_le _, Nat.zero_le _⟩) (fun r er => ?_)
          subst er
          refine lv_if_ne (tgt := 116) hx hb dX1_look_110 (by decide) (fun c_6 => ?_) (fun c_6 => ?_)
          · refine lv_aload_n hx hb dX1_look_116 rfl (lv_at hl 2 rfl) ?_
            refine lv_iload hx hb dX1_look_117 (lv_at hl 0 rfl) ?_
            refine vp_callSi (W.runV (C := RX1) (As := [.int wh_4]) (rest := []) ⟨hx, hb, hml, hown, hts⟩ (c_m_isKept l dC dI h cI n σ wh_4 ) (cwV 1 hts gX1_X1_isKept rfl rfl rfl (by decide +kernel) ⟨Nat.le_of_ble_eq_true rfl, Nat.le_of_ble_eq_true rfl⟩) (m_preP hK hP) rfl rfl hl.1 rfl (lv_room (Nat.le_of_ble_eq_true rfl)) dX1_look_119 ⟨Nat.zero_le _, Nat.zero_le _⟩) (fun r er => ?_)
            subst er
            refine lv_if_eq (tgt := 140) hx hb dX1_look_122 (by decide) (fun c_7 => ?_) (fun c_7 => ?_)
            · refine lv_aload_n hx hb dX1_look_140 rfl (lv_at hl 2 rfl) ?_
              refine va_get (D := (dC, dI)) (ci := 1) (v := .ref (h 2)) (C := RX1) (T := TX1) (N := 14) hx hb hts inbX1 hown hK hP 0 rfl rfl 2 (by decide) (hts _ bX1_2) (fun _ h9 => h9) rfl dX1_look_141 ?_
              refine lv_iconst (v := 2) hx hb dX1_look_144 (by decide) ?_
              refine va_iald hx hb hK hP 2 0 rfl rfl (vp_in_nI (n := 2) (by decide) (by decide)) dX1_look_145 ?_
              refine lv_iconst (v := 4) hx hb dX1_look_146 (by decide) ?_
              refine lv_iload hx hb dX1_look_147 (lv_at hl 0 rfl) ?_
              refine vp_callSi (W.runS (As := [.int wh_4]) (rest := [.int 4, .int (m_bas σ (2 : Int32).toNatClampNeg)]) ⟨hx, hb, hml, hown, hts⟩ (c_m_pageOf l wh_4 ) (va_cwS 1 hts gX1_X1_pageOf rfl rfl rfl (by decide +kernel) ⟨Nat.le_of_ble_eq_true rfl, Nat.le_of_ble_eq_true rfl⟩) (fs_pre) rfl rfl hl.1 rfl (lv_room (Nat.le_of_ble_eq_true rfl)) dX1_look_149 ⟨Nat.zero_le _, Nat.zero_le _⟩) (fun r er => ?_)
              subst er
              refine lv_imul hx hb dX1_look_152 ?_
              refine lv_iadd hx hb dX1_look_153 ?_
              refine lv_topi (fun oo_8 eoo_8 => ?_)
              refine lv_istore (lv' := [(6, .int oo_8), (4, .int wh_4), (3, .int (m_regionOf a)), (0, .ref (h 0)), (1, .int a), (2, .int kp)]) hx hb dX1_look_154 hl (by decide) rfl (fun ls hl => ?_)
              refine lv_aload_n hx hb dX1_look_156 rfl (lv_at hl 3 rfl) ?_
              refine lv_iload hx hb dX1_look_157 (lv_at hl 0 rfl) ?_
              refine vp_callSi (W.runV (C := RX1) (As := [.int oo_8]) (rest := []) ⟨hx, hb, hml, hown, hts⟩ (c_m_areFour l dC dI h cI n σ oo_8 ) (cwV 1 hts gX1_X1_areFour rfl rfl rfl (by decide +kernel) ⟨Nat.le_of_ble_eq_true rfl, Nat.le_of_ble_eq_true rfl⟩) (m_preP hK hP) rfl rfl hl.1 rfl (lv_room (Nat.le_of_ble_eq_true rfl)) dX1_look_159 ⟨Nat.zero_le _, Nat.zero_le _⟩) (fun r er => ?_)
              subst er
              refine lv_if_ne (tgt := 168) hx hb dX1_look_162 (by decide) (fun c_9 => ?_) (fun c_9 => ?_)
              · refine lv_aload_n hx hb dX1_look_168 rfl (lv_at hl 3 rfl) ?_
                refine lv_iload hx hb dX1_look_169 (lv_at hl 0 rfl) ?_
                refine vp_callSi (W.runV (C := RX1) (As := [.int oo_8]) (rest := []) ⟨hx, hb, hml, hown, hts⟩ (c_m_four l dC dI h cI n σ oo_8 (m_af hn c_9)) (cwV 1 hts gX1_X1_four rfl rfl rfl (by decide +kernel) ⟨Nat.le_of_ble_eq_true rfl, Nat.le_of_ble_eq_true rfl⟩) (m_preP hK hP) rfl rfl hl.1 rfl (lv_room (Nat.le_of_ble_eq_true rfl)) dX1_look_171 ⟨Nat.zero_le _, Nat.zero_le _⟩) (fun r er => ?_)
                subst er
                refine lv_topi (fun tb_10 etb_10 => ?_)
                refine lv_istore (lv' := [(5, .int tb_10), (6, .int oo_8), (4, .int wh_4), (3, .int (m_regionOf a)), (0, .ref (h 0)), (1, .int a), (2, .int kp)]) hx hb dX1_look_174 hl (by decide) rfl (fun ls hl => ?_)
                refine lv_iload hx hb dX1_look_176 (lv_at hl 0 rfl) ?_
                refine lv_if_lt (tgt := 184) hx hb dX1_look_178 (by decide) (fun c_11 => ?_) (fun c_11 => ?_)
                · refine lv_iload_n hx hb dX1_look_184 rfl (lv_at hl 6 rfl) ?_
                  refine lv_if_eq (tgt := 198) hx hb dX1_look_185 (by decide) (fun c_12 => ?_) (fun c_12 => ?_)
                  · refine lv_aload_n hx hb dX1_look_198 rfl (lv_at hl 4 rfl) ?_
                    refine lv_bipush (v := 16) hx hb dX1_look_199 (by decide) ?_
                    refine lv_iload hx hb dX1_look_201 (lv_at hl 0 rfl) ?_
                    refine lv_sipush (v := 4095) hx hb dX1_look_203 (by decide) ?_
                    refine lv_iand hx hb dX1_look_206 ?_
                    refine lv_imul hx hb dX1_look_207 ?_
                    refine lv_iload hx hb dX1_look_208 (lv_at hl 2 rfl) ?_
                    refine lv_bipush (v := 16) hx hb dX1_look_210 (by decide) ?_
                    refine lv_irem hx hb dX1_look_212 (by decide) ?_
                    refine lv_iadd hx hb dX1_look_213 ?_
                    refine va_put (D := (dC, dI)) (ci := 1) (v := .int (((16 : Int32) * (tb_10 &&& 4095)) + (wh_4 - wh_4 / 16 * 16))) (ty := .int) (C := RX1) (T := TX1) (N := 14) hx hb hts inbX1 tyX1 tyX1_ok nmX1 hown hK hP hD hS 0 rfl rfl 13 (by decide) (hts _ bX1_13) (fun _ h9 => h9) rfl (by decide +kernel) rfl rfl (Nat.le_of_ble_eq_true rfl) dX1_look_214 (fun H locs hP hD hS => ?_)
                    have hP := m_pAd hP
                    have hD := m_dAd hD
                    refine lv_aload_n hx hb dX1_look_217 rfl (lv_at hl 4 rfl) ?_
                    refine lv_aload_n hx hb dX1_look_218 rfl (lv_at hl 4 rfl) ?_
                    refine va_get (D := (dC, dI)) (ci := 1) (v := .int (m_ad (m_sAd σ (((16 : Int32) * (tb_10 &&& 4095)) + (wh_4 - wh_4 / 16 * 16))))) (C := RX1) (T := TX1) (N := 14) hx hb hts inbX1 hown hK hP 0 rfl rfl 13 (by decide) (hts _ bX1_13) (fun _ h9 => h9) rfl dX1_look_219 ?_
                    refine vp_callSi (W.runV (C := RX1) (As := [.int (m_ad (m_sAd σ (((16 : Int32) * (tb_10 &&& 4095)) + (wh_4 - wh_4 / 16 * 16))))]) (rest := []) ⟨hx, hb, hml, hown, hts⟩ (c_m_areFour l dC dI h cI n (m_sAd σ (((16 : Int32) * (tb_10 &&& 4095)) + (wh_4 - wh_4 / 16 * 16))) (m_ad (m_sAd σ (((16 : Int32) * (tb_10 &&& 4095)) + (wh_4 - wh_4 / 16 * 16)))) ) (cwV 1 hts gX1_X1_areFour rfl rfl rfl (by decide +kernel) ⟨Nat.le_of_ble_eq_true rfl, Nat.le_of_ble_eq_true rfl⟩) (m_preP hK hP) rfl rfl hl.1 rfl (lv_room (Nat.le_of_ble_eq_true rfl)) dX1_look_222 ⟨Nat.zero_le _, Nat.zero_le _⟩) (fun r er => ?_)
                    subst er
                    refine lv_if_ne (tgt := 231) hx hb dX1_look_225 (by decide) (fun c_13 => ?_) (fun c_13 => ?_)
                    · refine lv_aload_n hx hb dX1_look_231 rfl (lv_at hl 4 rfl) ?_
                      refine lv_aload_n hx hb dX1_look_232 rfl (lv_at hl 4 rfl) ?_
                      refine lv_aload_n hx hb dX1_look_233 rfl (lv_at hl 4 rfl) ?_
                      refine va_get (D := (dC, dI)) (ci := 1) (v := .int (m_ad (m_sAd σ (((16 : Int32) * (tb_10 &&& 4095)) + (wh_4 - wh_4 / 16 * 16))))) (C := RX1) (T := TX1) (N := 14) hx hb hts inbX1 hown hK hP 0 rfl rfl 13 (by decide) (hts _ bX1_13) (fun _ h9 => h9) rfl dX1_look_234 ?_
                      refine vp_callSi (W.runV (C := RX1) (As := [.int (m_ad (m_sAd σ (((16 : Int32) * (tb_10 &&& 4095)) + (wh_4 - wh_4 / 16 * 16))))]) (rest := [.ref (h 0)]) ⟨hx, hb, hml, hown, hts⟩ (c_m_four l dC dI h cI n (m_sAd σ (((16 : Int32) * (tb_10 &&& 4095)) + (wh_4 - wh_4 / 16 * 16))) (m_ad (m_sAd σ (((16 : Int32) * (tb_10 &&& 4095)) + (wh_4 - wh_4 / 16 * 16)))) (m_af hn c_13)) (cwV 1 hts gX1_X1_four rfl rfl rfl (by decide +kernel) ⟨Nat.le_of_ble_eq_true rfl, Nat.le_of_ble_eq_true rfl⟩) (m_preP hK hP) rfl rfl hl.1 rfl (lv_room (Nat.le_of_ble_eq_true rfl)) dX1_look_237 ⟨Nat.zero_le _, Nat.zero_le _⟩) (fun r er => ?_)
                      subst er
                      refine va_put (D := (dC, dI)) (ci := 1) (v := .int (m_four n (m_sAd σ (((16 : Int32) * (tb_10 &&& 4095)) + (wh_4 - wh_4 / 16 * 16))) (m_ad (m_sAd σ (((16 : Int32) * (tb_10 &&& 4095)) + (wh_4 - wh_4 / 16 * 16)))))) (ty := .int) (C := RX1) (T := TX1) (N := 14) hx hb hts inbX1 tyX1 tyX1_ok nmX1 hown hK hP hD hS 0 rfl rfl 12 (by decide) (hts _ bX1_12) (fun _ h9 => h9) rfl (by decide +kernel) rfl rfl (Nat.le_of_ble_eq_true rfl) dX1_look_240 (fun H locs hP hD hS => ?_)
                      have hP := m_pLk hP
                      have hD := m_dLk hD
                      refine lv_iconst (v := 0) hx hb dX1_look_243 (by decide) ?_
                      exact W.iret (v := 0) hx hb hr (fun t ht hW => ⟨⟨0, (m_sLk (m_sAd σ (((16 : Int32) * (tb_10 &&& 4095)) + (wh_4 - wh_4 / 16 * 16))) (m_four n (m_sAd σ (((16 : Int32) * (tb_10 &&& 4095)) + (wh_4 - wh_4 / 16 * 16))) (m_ad (m_sAd σ (((16 : Int32) * (tb_10 &&& 4095)) + (wh_4 - wh_4 / 16 * 16)))))), rfl, (if_pos c_1).trans ((if_neg c_2).trans ((if_neg c_3).trans ((kv_eq ewh_4.symm).trans ((if_pos c_5).trans ((if_neg c_6).trans ((if_pos c_7).trans ((kv_eq eoo_8.symm).trans ((if_neg c_9).trans ((kv_eq etb_10.symm).trans ((if_pos c_11).trans ((if_pos c_12).trans ((if_neg c_13).trans rfl)))))))))))), by rw [ht]; exact hP, va_K.moved hW.alike hK, hD⟩, hS.F ht⟩) hS.2.2 dX1_look_244
                    · refine lv_bipush (v := (-100)) hx hb dX1_look_228 (by decide) ?_
                      exact W.iret (v := (-100)) hx hb hr (fun t ht hW => ⟨⟨(-100), (m_sAd σ (((16 : Int32) * (tb_10 &&& 4095)) + (wh_4 - wh_4 / 16 * 16))), rfl, (if_pos c_1).trans ((if_neg c_2).trans ((if_neg c_3).trans ((kv_eq ewh_4.symm).trans ((if_pos c_5).trans ((if_neg c_6).trans ((if_pos c_7).trans ((kv_eq eoo_8.symm).trans ((if_neg c_9).trans ((kv_eq etb_10.symm).trans ((if_pos c_11).trans ((if_pos c_12).trans ((if_pos c_13).trans rfl)))))))))))), by rw [ht]; exact hP, va_K.moved hW.alike hK, hD⟩, hS.F ht⟩) hS.2.2 dX1_look_230
                  · refine lv_aload_n hx hb dX1_look_188 rfl (lv_at hl 4 rfl) ?_
                    refine lv_iload hx hb dX1_look_189 (lv_at hl 2 rfl) ?_
                    refine lv_iload hx hb dX1_look_191 (lv_at hl 0 rfl) ?_
                    refine lv_iload hx hb dX1_look_193 (lv_at hl 1 rfl) ?_
                    refine m_callv (f := (m_keeps n σ wh_4 tb_10 oo_8)) (va_runV (C := RX1) (As := [.int wh_4, .int tb_10, .int oo_8]) (rest := []) ⟨hx, hb, hml, hown, hts⟩ (c_m_keeps l dC dI h cI n _ σ wh_4 tb_10 oo_8 ) (cwV 3 hts gX1_X1_keeps rfl rfl rfl (by decide +kernel) ⟨Nat.le_of_ble_eq_true rfl, Nat.le_of_ble_eq_true rfl⟩) (m_preM hK hP hD) rfl rfl hl.1 rfl (lv_room (Nat.le_of_ble_eq_true rfl)) dX1_look_195 ⟨Nat.zero_le _, Nat.zero_le _⟩) hP hD hS hA (fun t_14 H locs e_15 hP hD hS => ?_)
                    refine lv_aload_n hx hb dX1_look_198 rfl (lv_at hl 4 rfl) ?_
                    refine lv_bipush (v := 16) hx hb dX1_look_199 (by decide) ?_
                    refine lv_iload hx hb dX1_look_201 (lv_at hl 0 rfl) ?_
                    refine lv_sipush (v := 4095) hx hb dX1_look_203 (by decide) ?_
                    refine lv_iand hx hb dX1_look_206 ?_
                    refine lv_imul hx hb dX1_look_207 ?_
                    refine lv_iload hx hb dX1_look_208 (lv_at hl 2 rfl) ?_
                    refine lv_bipush (v := 16) hx hb dX1_look_210 (by decide) ?_
                    refine lv_irem hx hb dX1_look_212 (by decide) ?_
                    refine lv_iadd hx hb dX1_look_213 ?_
                    refine va_put (D := (dC, dI)) (ci := 1) (v := .int (((16 : Int32) * (tb_10 &&& 4095)) + (wh_4 - wh_4 / 16 * 16))) (ty := .int) (C := RX1) (T := TX1) (N := 14) hx hb hts inbX1 tyX1 tyX1_ok nmX1 hown hK hP hD hS 0 rfl rfl 13 (by decide) (hts _ bX1_13) (fun _ h9 => h9) rfl (by decide +kernel) rfl rfl (Nat.le_of_ble_eq_true rfl) dX1_look_214 (fun H locs hP hD hS => ?_)
                    have hP := m_pAd hP
                    have hD := m_dAd hD
                    refine lv_aload_n hx hb dX1_look_217 rfl (lv_at hl 4 rfl) ?_
                    refine lv_aload_n hx hb dX1_look_218 rfl (lv_at hl 4 rfl) ?_
                    refine va_get (D := (dC, dI)) (ci := 1) (v := .int (m_ad (m_sAd t_14 (((16 : Int32) * (tb_10 &&& 4095)) + (wh_4 - wh_4 / 16 * 16))))) (C := RX1) (T := TX1) (N := 14) hx hb hts inbX1 hown hK hP 0 rfl rfl 13 (by decide) (hts _ bX1_13) (fun _ h9 => h9) rfl dX1_look_219 ?_
                    refine vp_callSi (W.runV (C := RX1) (As := [.int (m_ad (m_sAd t_14 (((16 : Int32) * (tb_10 &&& 4095)) + (wh_4 - wh_4 / 16 * 16))))]) (rest := []) ⟨hx, hb, hml, hown, hts⟩ (c_m_areFour l dC dI h cI n (m_sAd t_14 (((16 : Int32) * (tb_10 &&& 4095)) + (wh_4 - wh_4 / 16 * 16))) (m_ad (m_sAd t_14 (((16 : Int32) * (tb_10 &&& 4095)) + (wh_4 - wh_4 / 16 * 16)))) ) (cwV 1 hts gX1_X1_areFour rfl rfl rfl (by decide +kernel) ⟨Nat.le_of_ble_eq_true rfl, Nat.le_of_ble_eq_true rfl⟩) (m_preP hK hP) rfl rfl hl.1 rfl (lv_room (Nat.le_of_ble_eq_true rfl)) dX1_look_222 ⟨Nat.zero_le _, Nat.zero_le _⟩) (fun r er => ?_)
                    subst er
                    refine lv_if_ne (tgt := 231) hx hb dX1_look_225 (by decide) (fun c_16 => ?_) (fun c_16 => ?_)
                    · refine lv_aload_n hx hb dX1_look_231 rfl (lv_at hl 4 rfl) ?_
                      refine lv_aload_n hx hb dX1_look_232 rfl (lv_at hl 4 rfl) ?_
                      refine lv_aload_n hx hb dX1_look_233 rfl (lv_at hl 4 rfl) ?_
                      refine va_get (D := (dC, dI)) (ci := 1) (v := .int (m_ad (m_sAd t_14 (((16 : Int32) * (tb_10 &&& 4095)) + (wh_4 - wh_4 / 16 * 16))))) (C := RX1) (T := TX1) (N := 14) hx hb hts inbX1 hown hK hP 0 rfl rfl 13 (by decide) (hts _ bX1_13) (fun _ h9 => h9) rfl dX1_look_234 ?_
                      refine vp_callSi (W.runV (C := RX1) (As := [.int (m_ad (m_sAd t_14 (((16 : Int32) * (tb_10 &&& 4095)) + (wh_4 - wh_4 / 16 * 16))))]) (rest := [.ref (h 0)]) ⟨hx, hb, hml, hown, hts⟩ (c_m_four l dC dI h cI n (m_sAd t_14 (((16 : Int32) * (tb_10 &&& 4095)) + (wh_4 - wh_4 / 16 * 16))) (m_ad (m_sAd t_14 (((16 : Int32) * (tb_10 &&& 4095)) + (wh_4 - wh_4 / 16 * 16)))) (m_af hn c_16)) (cwV 1 hts gX1_X1_four rfl rfl rfl (by decide +kernel) ⟨Nat.le_of_ble_eq_true rfl, Nat.le_of_ble_eq_true rfl⟩) (m_preP hK hP) rfl rfl hl.1 rfl (lv_room (Nat.le_of_ble_eq_true rfl)) dX1_look_237 ⟨Nat.zero_le _, Nat.zero_le _⟩) (fun r er => ?_)
                      subst er
                      refine va_put (D := (dC, dI)) (ci := 1) (v := .int (m_four n (m_sAd t_14 (((16 : Int32) * (tb_10 &&& 4095)) + (wh_4 - wh_4 / 16 * 16))) (m_ad (m_sAd t_14 (((16 : Int32) * (tb_10 &&& 4095)) + (wh_4 - wh_4 / 16 * 16)))))) (ty := .int) (C := RX1) (T := TX1) (N := 14) hx hb hts inbX1 tyX1 tyX1_ok nmX1 hown hK hP hD hS 0 rfl rfl 12 (by decide) (hts _ bX1_12) (fun _ h9 => h9) rfl (by decide +kernel) rfl rfl (Nat.le_of_ble_eq_true rfl) dX1_look_240 (fun H locs hP hD hS => ?_)
                      have hP := m_pLk hP
                      have hD := m_dLk hD
                      refine lv_iconst (v := 0) hx hb dX1_look_243 (by decide) ?_
                      exact W.iret (v := 0) hx hb hr (fun t ht hW => ⟨⟨0, (m_sLk (m_sAd t_14 (((16 : Int32) * (tb_10 &&& 4095)) + (wh_4 - wh_4 / 16 * 16))) (m_four n (m_sAd t_14 (((16 : Int32) * (tb_10 &&& 4095)) + (wh_4 - wh_4 / 16 * 16))) (m_ad (m_sAd t_14 (((16 : Int32) * (tb_10 &&& 4095)) + (wh_4 - wh_4 / 16 * 16)))))), rfl, (if_pos c_1).trans ((if_neg c_2).trans ((if_neg c_3).trans ((kv_eq ewh_4.symm).trans ((if_pos c_5).trans ((if_neg c_6).trans ((if_pos c_7).trans ((kv_eq eoo_8.symm).trans ((if_neg c_9).trans ((kv_eq etb_10.symm).trans ((if_pos c_11).trans ((if_neg c_12).trans ((kv_eq e_15).trans ((if_neg c_16).trans rfl))))))))))))), by rw [ht]; exact hP, va_K.moved hW.alike hK, hD⟩, hS.F ht⟩) hS.2.2 dX1_look_244
                    · refine lv_bipush (v := (-100)) hx hb dX1_look_228 (by decide) ?_
                      exact W.iret (v := (-100)) hx hb hr (fun t ht hW => ⟨⟨(-100), (m_sAd t_14 (((16 : Int32) * (tb_10 &&& 4095)) + (wh_4 - wh_4 / 16 * 16))), rfl, (if_pos c_1).trans ((if_neg c_2).trans ((if_neg c_3).trans ((kv_eq ewh_4.symm).trans ((if_pos c_5).trans ((if_neg c_6).trans ((if_pos c_7).trans ((kv_eq eoo_8.symm).trans ((if_neg c_9).trans ((kv_eq etb_10.symm).trans ((if_pos c_11).trans ((if_neg c_12).trans ((kv_eq e_15).trans ((if_pos c_16).trans rfl))))))))))))), by rw [ht]; exact hP, va_K.moved hW.alike hK, hD⟩, hS.F ht⟩) hS.2.2 dX1_look_230
                · refine lv_bipush (v := (-13)) hx hb dX1_look_181 (by decide) ?_
                  exact W.iret (v := (-13)) hx hb hr (fun t ht hW => ⟨⟨(-13), σ, rfl, (if_pos c_1).trans ((if_neg c_2).trans ((if_neg c_3).trans ((kv_eq ewh_4.symm).trans ((if_pos c_5).trans ((if_neg c_6).trans ((if_pos c_7).trans ((kv_eq eoo_8.symm).trans ((if_neg c_9).trans ((kv_eq etb_10.symm).trans ((if_neg c_11).trans rfl)))))))))), by rw [ht]; exact hP, va_K.moved hW.alike hK, hD⟩, hS.F ht⟩) hS.2.2 dX1_look_183
              · refine lv_bipush (v := (-100)) hx hb dX1_look_165 (by decide) ?_
                exact W.iret (v := (-100)) hx hb hr (fun t ht hW => ⟨⟨(-100), σ, rfl, (if_pos c_1).trans ((if_neg c_2).trans ((if_neg c_3).trans ((kv_eq ewh_4.symm).trans ((if_pos c_5).trans ((if_neg c_6).trans ((if_pos c_7).trans ((kv_eq eoo_8.symm).trans ((if_pos c_9).trans rfl)))))))), by rw [ht]; exact hP, va_K.moved hW.alike hK, hD⟩, hS.F ht⟩) hS.2.2 dX1_look_167
            · refine lv_aload_n hx hb dX1_look_125 rfl (lv_at hl 2 rfl) ?_
              refine va_get (D := (dC, dI)) (ci := 1) (v := .ref (h 5)) (C := RX1) (T := TX1) (N := 14) hx hb hts inbX1 hown hK hP 0 rfl rfl 6 (by decide) (hts _ bX1_6) (fun _ h9 => h9) rfl dX1_look_126 ?_
              refine lv_iload hx hb dX1_look_129 (lv_at hl 0 rfl) ?_
              refine vp_callSi (W.runS (As := [.int wh_4]) (rest := [.ref (h 5)]) ⟨hx, hb, hml, hown, hts⟩ (c_m_slot l wh_4 ) (va_cwS 1 hts gX1_X1_slot rfl rfl rfl (by decide +kernel) ⟨Nat.le_of_ble_eq_true rfl, Nat.le_of_ble_eq_true rfl⟩) (fs_pre) rfl rfl hl.1 rfl (lv_room (Nat.le_of_ble_eq_true rfl)) dX1_look_131 ⟨Nat.zero_le _, Nat.zero_le _⟩) (fun r er => ?_)
              subst er
              refine va_iald hx hb hK hP 5 0 rfl rfl (m_slot_in _) dX1_look_134 ?_
              refine lv_topi (fun tb_17 etb_17 => ?_)
              refine lv_istore (lv' := [(5, .int tb_17), (4, .int wh_4), (3, .int (m_regionOf a)), (0, .ref (h 0)), (1, .int a), (2, .int kp)]) hx hb dX1_look_135 hl (by decide) rfl (fun ls hl => ?_)
              refine lv_goto (tgt := 198) hx hb dX1_look_137 (by decide) ?_
              refine lv_aload_n hx hb dX1_look_198 rfl (lv_at hl 3 rfl) ?_
              refine lv_bipush (v := 16) hx hb dX1_look_199 (by decide) ?_
              refine lv_iload hx hb dX1_look_201 (lv_at hl 0 rfl) ?_
              refine lv_sipush (v := 4095) hx hb dX1_look_203 (by decide) ?_
              refine lv_iand hx hb dX1_look_206 ?_
              refine lv_imul hx hb dX1_look_207 ?_
              refine lv_iload hx hb dX1_look_208 (lv_at hl 1 rfl) ?_
              refine lv_bipush (v := 16) hx hb dX1_look_210 (by decide) ?_
              refine lv_irem hx hb dX1_look_212 (by decide) ?_
              refine lv_iadd hx hb dX1_look_213 ?_
              refine va_put (D := (dC, dI)) (ci := 1) (v := .int (((16 : Int32) * (tb_17 &&& 4095)) + (wh_4 - wh_4 / 16 * 16))) (ty := .int) (C := RX1) (T := TX1) (N := 14) hx hb hts inbX1 tyX1 tyX1_ok nmX1 hown hK hP hD hS 0 rfl rfl 13 (by decide) (hts _ bX1_13) (fun _ h9 => h9) rfl (by decide +kernel) rfl rfl (Nat.le_of_ble_eq_true rfl) dX1_look_214 (fun H locs hP hD hS => ?_)
              have hP := m_pAd hP
              have hD := m_dAd hD
              refine lv_aload_n hx hb dX1_look_217 rfl (lv_at hl 3 rfl) ?_
              refine lv_aload_n hx hb dX1_look_218 rfl (lv_at hl 3 rfl) ?_
              refine va_get (D := (dC, dI)) (ci := 1) (v := .int (m_ad (m_sAd σ (((16 : Int32) * (tb_17 &&& 4095)) + (wh_4 - wh_4 / 16 * 16))))) (C := RX1) (T := TX1) (N := 14) hx hb hts inbX1 hown hK hP 0 rfl rfl 13 (by decide) (hts _ bX1_13) (fun _ h9 => h9) rfl dX1_look_219 ?_
              refine vp_callSi (W.runV (C := RX1) (As := [.int (m_ad (m_sAd σ (((16 : Int32) * (tb_17 &&& 4095)) + (wh_4 - wh_4 / 16 * 16))))]) (rest := []) ⟨hx, hb, hml, hown, hts⟩ (c_m_areFour l dC dI h cI n (m_sAd σ (((16 : Int32) * (tb_17 &&& 4095)) + (wh_4 - wh_4 / 16 * 16))) (m_ad (m_sAd σ (((16 : Int32) * (tb_17 &&& 4095)) + (wh_4 - wh_4 / 16 * 16)))) ) (cwV 1 hts gX1_X1_areFour rfl rfl rfl (by decide +kernel) ⟨Nat.le_of_ble_eq_true rfl, Nat.le_of_ble_eq_true rfl⟩) (m_preP hK hP) rfl rfl hl.1 rfl (lv_room (Nat.le_of_ble_eq_true rfl)) dX1_look_222 ⟨Nat.zero_le _, Nat.zero_le _⟩) (fun r er => ?_)
              subst er
              refine lv_if_ne (tgt := 231) hx hb dX1_look_225 (by decide) (fun c_18 => ?_) (fun c_18 => ?_)
              · refine lv_aload_n hx hb dX1_look_231 rfl (lv_at hl 3 rfl) ?_
                refine lv_aload_n hx hb dX1_look_232 rfl (lv_at hl 3 rfl) ?_
                refine lv_aload_n hx hb dX1_look_233 rfl (lv_at hl 3 rfl) ?_
                refine va_get (D := (dC, dI)) (ci := 1) (v := .int (m_ad (m_sAd σ (((16 : Int32) * (tb_17 &&& 4095)) + (wh_4 - wh_4 / 16 * 16))))) (C := RX1) (T := TX1) (N := 14) hx hb hts inbX1 hown hK hP 0 rfl rfl 13 (by decide) (hts _ bX1_13) (fun _ h9 => h9) rfl dX1_look_234 ?_
                refine vp_callSi (W.runV (C := RX1) (As := [.int (m_ad (m_sAd σ (((16 : Int32) * (tb_17 &&& 4095)) + (wh_4 - wh_4 / 16 * 16))))]) (rest := [.ref (h 0)]) ⟨hx, hb, hml, hown, hts⟩ (c_m_four l dC dI h cI n (m_sAd σ (((16 : Int32) * (tb_17 &&& 4095)) + (wh_4 - wh_4 / 16 * 16))) (m_ad (m_sAd σ (((16 : Int32) * (tb_17 &&& 4095)) + (wh_4 - wh_4 / 16 * 16)))) (m_af hn c_18)) (cwV 1 hts gX1_X1_four rfl rfl rfl (by decide +kernel) ⟨Nat.le_of_ble_eq_true rfl, Nat.le_of_ble_eq_true rfl⟩) (m_preP hK hP) rfl rfl hl.1 rfl (lv_room (Nat.le_of_ble_eq_true rfl)) dX1_look_237 ⟨Nat.zero_le _, Nat.zero_le _⟩) (fun r er => ?_)
                subst er
                refine va_put (D := (dC, dI)) (ci := 1) (v := .int (m_four n (m_sAd σ (((16 : Int32) * (tb_17 &&& 4095)) + (wh_4 - wh_4 / 16 * 16))) (m_ad (m_sAd σ (((16 : Int32) * (tb_17 &&& 4095)) + (wh_4 - wh_4 / 16 * 16)))))) (ty := .int) (C := RX1) (T := TX1) (N := 14) hx hb hts inbX1 tyX1 tyX1_ok nmX1 hown hK hP hD hS 0 rfl rfl 12 (by decide) (hts _ bX1_12) (fun _ h9 => h9) rfl (by decide +kernel) rfl rfl (Nat.le_of_ble_eq_true rfl) dX1_look_240 (fun H locs hP hD hS => ?_)
                have hP := m_pLk hP
                have hD := m_dLk hD
                refine lv_iconst (v := 0) hx hb dX1_look_243 (by decide) ?_
                exact W.iret (v := 0) hx hb hr (fun t ht hW => ⟨⟨0, (m_sLk (m_sAd σ (((16 : Int32) * (tb_17 &&& 4095)) + (wh_4 - wh_4 / 16 * 16))) (m_four n (m_sAd σ (((16 : Int32) * (tb_17 &&& 4095)) + (wh_4 - wh_4 / 16 * 16))) (m_ad (m_sAd σ (((16 : Int32) * (tb_17 &&& 4095)) + (wh_4 - wh_4 / 16 * 16)))))), rfl, (if_pos c_1).trans ((if_neg c_2).trans ((if_neg c_3).trans ((kv_eq ewh_4.symm).trans ((if_pos c_5).trans ((if_neg c_6).trans ((if_neg c_7).trans ((kv_eq etb_17.symm).trans ((if_neg c_18).trans rfl)))))))), by rw [ht]; exact hP, va_K.moved hW.alike hK, hD⟩, hS.F ht⟩) hS.2.2 dX1_look_244
              · refine lv_bipush (v := (-100)) hx hb dX1_look_228 (by decide) ?_
                exact W.iret (v := (-100)) hx hb hr (fun t ht hW => ⟨⟨(-100), (m_sAd σ (((16 : Int32) * (tb_17 &&& 4095)) + (wh_4 - wh_4 / 16 * 16))), rfl, (if_pos c_1).trans ((if_neg c_2).trans ((if_neg c_3).trans ((kv_eq ewh_4.symm).trans ((if_pos c_5).trans ((if_neg c_6).trans ((if_neg c_7).trans ((kv_eq etb_17.symm).trans ((if_pos c_18).trans rfl)))))))), by rw [ht]; exact hP, va_K.moved hW.alike hK, hD⟩, hS.F ht⟩) hS.2.2 dX1_look_230
          · refine lv_bipush (v := (-4)) hx hb dX1_look_113 (by decide) ?_
            exact W.iret (v := (-4)) hx hb hr (fun t ht hW => ⟨⟨(-4), σ, rfl, (if_pos c_1).trans ((if_neg c_2).trans ((if_neg c_3).trans ((kv_eq ewh_4.symm).trans ((if_pos c_5).trans ((if_pos c_6).trans rfl))))), by rw [ht]; exact hP, va_K.moved hW.alike hK, hD⟩, hS.F ht⟩) hS.2.2 dX1_look_115
      · refine lv_aload_n hx hb dX1_look_57 rfl (lv_at hl 1 rfl) ?_
        refine lv_aload_n hx hb dX1_look_58 rfl (lv_at hl 1 rfl) ?_
        refine va_get (D := (dC, dI)) (ci := 1) (v := .ref (h 2)) (C := RX1) (T := TX1) (N := 14) hx hb hts inbX1 hown hK hP 0 rfl rfl 2 (by decide) (hts _ bX1_2) (fun _ h9 => h9) rfl dX1_look_59 ?_
        refine lv_iconst (v := 2) hx hb dX1_look_62 (by decide) ?_
        refine va_iald hx hb hK hP 2 0 rfl rfl (vp_in_nI (n := 2) (by decide) (by decide)) dX1_look_63 ?_
        refine lv_iconst (v := 4) hx hb dX1_look_64 (by decide) ?_
        refine lv_iload_n hx hb dX1_look_65 rfl (lv_at hl 2 rfl) ?_
        refine vp_callSi (W.runS (As := [.int a]) (rest := [.int 4, .int (m_bas σ (2 : Int32).toNatClampNeg), .ref (h 0)]) ⟨hx, hb, hml, hown, hts⟩ (c_m_pageOf l a ) (va_cwS 1 hts gX1_X1_pageOf rfl rfl rfl (by decide +kernel) ⟨Nat.le_of_ble_eq_true rfl, Nat.le_of_ble_eq_true rfl⟩) (fs_pre) rfl rfl hl.1 rfl (lv_room (Nat.le_of_ble_eq_true rfl)) dX1_look_66 ⟨Nat.zero_le _, Nat.zero_le _⟩) (fun r er => ?_)
        subst er
        refine lv_imul hx hb dX1_look_69 ?_
        refine lv_iadd hx hb dX1_look_70 ?_
        refine va_put (D := (dC, dI)) (ci := 1) (v := .int ((m_bas σ (2 : Int32).toNatClampNeg) + ((4 : Int32) * (m_pageOf a)))) (ty := .int) (C := RX1) (T := TX1) (N := 14) hx hb hts inbX1 tyX1 tyX1_ok nmX1 hown hK hP hD hS 0 rfl rfl 13 (by decide) (hts _ bX1_13) (fun _ h9 => h9) rfl (by decide +kernel) rfl rfl (Nat.le_of_ble_eq_true rfl) dX1_look_71 (fun H locs hP hD hS => ?_)
        have hP := m_pAd hP
        have hD := m_dAd hD
        refine lv_goto (tgt := 217) hx hb dX1_look_74 (by decide) ?_
        refine lv_aload_n hx hb dX1_look_217 rfl (lv_at hl 1 rfl) ?_
        refine lv_aload_n hx hb dX1_look_218 rfl (lv_at hl 1 rfl) ?_
        refine va_get (D := (dC, dI)) (ci := 1) (v := .int (m_ad (m_sAd σ ((m_bas σ (2 : Int32).toNatClampNeg) + ((4 : Int32) * (m_pageOf a)))))) (C := RX1) (T := TX1) (N := 14) hx hb hts inbX1 hown hK hP 0 rfl rfl 13 (by decide) (hts _ bX1_13) (fun _ h9 => h9) rfl dX1_look_219 ?_
        refine vp_callSi (W.runV (C := RX1) (As := [.int (m_ad (m_sAd σ ((m_bas σ (2 : Int32).toNatClampNeg) + ((4 : Int32) * (m_pageOf a)))))]) (rest := []) ⟨hx, hb, hml, hown, hts⟩ (c_m_areFour l dC dI h cI n (m_sAd σ ((m_bas σ (2 : Int32).toNatClampNeg) + ((4 : Int32) * (m_pageOf a)))) (m_ad (m_sAd σ ((m_bas σ (2 : Int32).toNatClampNeg) + ((4 : Int32) * (m_pageOf a))))) ) (cwV 1 hts gX1_X1_areFour rfl rfl rfl (by decide +kernel) ⟨Nat.le_of_ble_eq_true rfl, Nat.le_of_ble_eq_true rfl⟩) (m_preP hK hP) rfl rfl hl.1 rfl (lv_room (Nat.le_of_ble_eq_true rfl)) dX1_look_222 ⟨Nat.zero_le _, Nat.zero_le _⟩) (fun r er => ?_)
        subst er
        refine lv_if_ne (tgt := 231) hx hb dX1_look_225 (by decide) (fun c_19 => ?_) (fun c_19 => ?_)
        · refine lv_aload_n hx hb dX1_look_231 rfl (lv_at hl 1 rfl) ?_
          refine lv_aload_n hx hb dX1_look_232 rfl (lv_at hl 1 rfl) ?_
          refine lv_aload_n hx hb dX1_look_233 rfl (lv_at hl 1 rfl) ?_
          refine va_get (D := (dC, dI)) (ci := 1) (v := .int (m_ad (m_sAd σ ((m_bas σ (2 : Int32).toNatClampNeg) + ((4 : Int32) * (m_pageOf a)))))) (C := RX1) (T := TX1) (N := 14) hx hb hts inbX1 hown hK hP 0 rfl rfl 13 (by decide) (hts _ bX1_13) (fun _ h9 => h9) rfl dX1_look_234 ?_
          refine vp_callSi (W.runV (C := RX1) (As := [.int (m_ad (m_sAd σ ((m_bas σ (2 : Int32).toNatClampNeg) + ((4 : Int32) * (m_pageOf a)))))]) (rest := [.ref (h 0)]) ⟨hx, hb, hml, hown, hts⟩ (c_m_four l dC dI h cI n (m_sAd σ ((m_bas σ (2 : Int32).toNatClampNeg) + ((4 : Int32) * (m_pageOf a)))) (m_ad (m_sAd σ ((m_bas σ (2 : Int32).toNatClampNeg) + ((4 : Int32) * (m_pageOf a))))) (m_af hn c_19)) (cwV 1 hts gX1_X1_four rfl rfl rfl (by decide +kernel) ⟨Nat.le_of_ble_eq_true rfl, Nat.le_of_ble_eq_true rfl⟩) (m_preP hK hP) rfl rfl hl.1 rfl (lv_room (Nat.le_of_ble_eq_true rfl)) dX1_look_237 ⟨Nat.zero_le _, Nat.zero_le _⟩) (fun r er => ?_)
          subst er
          refine va_put (D := (dC, dI)) (ci := 1) (v := .int (m_four n (m_sAd σ ((m_bas σ (2 : Int32).toNatClampNeg) + ((4 : Int32) * (m_pageOf a)))) (m_ad (m_sAd σ ((m_bas σ (2 : Int32).toNatClampNeg) + ((4 : Int32) * (m_pageOf a))))))) (ty := .int) (C := RX1) (T := TX1) (N := 14) hx hb hts inbX1 tyX1 tyX1_ok nmX1 hown hK hP hD hS 0 rfl rfl 12 (by decide) (hts _ bX1_12) (fun _ h9 => h9) rfl (by decide +kernel) rfl rfl (Nat.le_of_ble_eq_true rfl) dX1_look_240 (fun H locs hP hD hS => ?_)
          have hP := m_pLk hP
          have hD := m_dLk hD
          refine lv_iconst (v := 0) hx hb dX1_look_243 (by decide) ?_
          exact W.iret (v := 0) hx hb hr (fun t ht hW => ⟨⟨0, (m_sLk (m_sAd σ ((m_bas σ (2 : Int32).toNatClampNeg) + ((4 : Int32) * (m_pageOf a)))) (m_four n (m_sAd σ ((m_bas σ (2 : Int32).toNatClampNeg) + ((4 : Int32) * (m_pageOf a)))) (m_ad (m_sAd σ ((m_bas σ (2 : Int32).toNatClampNeg) + ((4 : Int32) * (m_pageOf a))))))), rfl, (if_pos c_1).trans ((if_neg c_2).trans ((if_pos c_3).trans ((if_neg c_19).trans rfl))), by rw [ht]; exact hP, va_K.moved hW.alike hK, hD⟩, hS.F ht⟩) hS.2.2 dX1_look_244
        · refine lv_bipush (v := (-100)) hx hb dX1_look_228 (by decide) ?_
          exact W.iret (v := (-100)) hx hb hr (fun t ht hW => ⟨⟨(-100), (m_sAd σ ((m_bas σ (2 : Int32).toNatClampNeg) + ((4 : Int32) * (m_pageOf a)))), rfl, (if_pos c_1).trans ((if_neg c_2).trans ((if_pos c_3).trans ((if_pos c_19).trans rfl))), by rw [ht]; exact hP, va_K.moved hW.alike hK, hD⟩, hS.F ht⟩) hS.2.2 dX1_look_230
    · refine lv_bipush (v := (-2)) hx hb dX1_look_44 (by decide) ?_
      exact W.iret (v := (-2)) hx hb hr (fun t ht hW => ⟨⟨(-2), σ, rfl, (if_pos c_1).trans ((if_pos c_2).trans rfl), by rw [ht]; exact hP, va_K.moved hW.alike hK, hD⟩, hS.F ht⟩) hS.2.2 dX1_look_46
  · refine lv_aload_n hx hb dX1_look_8 rfl (lv_at hl 0 rfl) ?_
    refine lv_aload_n hx hb dX1_look_9 rfl (lv_at hl 0 rfl) ?_
    refine va_get (D := (dC, dI)) (ci := 1) (v := .ref (h 5)) (C := RX1) (T := TX1) (N := 14) hx hb hts inbX1 hown hK hP 0 rfl rfl 6 (by decide) (hts _ bX1_6) (fun _ h9 => h9) rfl dX1_look_10 ?_
    refine lv_iload_n hx hb dX1_look_13 rfl (lv_at hl 1 rfl) ?_
    refine vp_callSi (W.runS (As := [.int a]) (rest := [.ref (h 5), .ref (h 0)]) ⟨hx, hb, hml, hown, hts⟩ (c_m_slot l a ) (va_cwS 1 hts gX1_X1_slot rfl rfl rfl (by decide +kernel) ⟨Nat.le_of_ble_eq_true rfl, Nat.le_of_ble_eq_true rfl⟩) (fs_pre) rfl rfl hl.1 rfl (lv_room (Nat.le_of_ble_eq_true rfl)) dX1_look_14 ⟨Nat.zero_le _, Nat.zero_le _⟩) (fun r er => ?_)
    subst er
    refine va_iald hx hb hK hP 5 0 rfl rfl (m_slot_in _) dX1_look_17 ?_
    refine va_put (D := (dC, dI)) (ci := 1) (v := .int (m_en σ ((m_slot a)).toNatClampNeg)) (ty := .int) (C := RX1) (T := TX1) (N := 14) hx hb hts inbX1 tyX1 tyX1_ok nmX1 hown hK hP hD hS 0 rfl rfl 12 (by decide) (hts _ bX1_12) (fun _ h9 => h9) rfl (by decide +kernel) rfl rfl (Nat.le_of_ble_eq_true rfl) dX1_look_18 (fun H locs hP hD hS => ?_)
    have hP := m_pLk hP
    have hD := m_dLk hD
    refine lv_aload_n hx hb dX1_look_21 rfl (lv_at hl 0 rfl) ?_
    refine lv_aload_n hx hb dX1_look_22 rfl (lv_at hl 0 rfl) ?_
    refine va_get (D := (dC, dI)) (ci := 1) (v := .ref (h 6)) (C := RX1) (T := TX1) (N := 14) hx hb hts inbX1 hown hK hP 0 rfl rfl 7 (by decide) (hts _ bX1_7) (fun _ h9 => h9) rfl dX1_look_23 ?_
    refine lv_iload_n hx hb dX1_look_26 rfl (lv_at hl 1 rfl) ?_
    refine vp_callSi (W.runS (As := [.int a]) (rest := [.ref (h 6), .ref (h 0)]) ⟨hx, hb, hml, hown, hts⟩ (c_m_slot l a ) (va_cwS 1 hts gX1_X1_slot rfl rfl rfl (by decide +kernel) ⟨Nat.le_of_ble_eq_true rfl, Nat.le_of_ble_eq_true rfl⟩) (fs_pre) rfl rfl hl.1 rfl (lv_room (Nat.le_of_ble_eq_true rfl)) dX1_look_27 ⟨Nat.zero_le _, Nat.zero_le _⟩) (fun r er => ?_)
    subst er
    refine va_iald hx hb hK hP 6 0 rfl rfl (m_slot_in _) dX1_look_30 ?_
    refine va_put (D := (dC, dI)) (ci := 1) (v := .int (m_pc (m_sLk σ (m_en σ ((m_slot a)).toNatClampNeg)) ((m_slot a)).toNatClampNeg)) (ty := .int) (C := RX1) (T := TX1) (N := 14) hx hb hts inbX1 tyX1 tyX1_ok nmX1 hown hK hP hD hS 0 rfl rfl 13 (by decide) (hts _ bX1_13) (fun _ h9 => h9) rfl (by decide +kernel) rfl rfl (Nat.le_of_ble_eq_true rfl) dX1_look_31 (fun H locs hP hD hS => ?_)
    have hP := m_pAd hP
    have hD := m_dAd hD
    refine lv_iconst (v := 0) hx hb dX1_look_34 (by decide) ?_
    exact W.iret (v := 0) hx hb hr (fun t ht hW => ⟨⟨0, (m_sAd (m_sLk σ (m_en σ ((m_slot a)).toNatClampNeg)) (m_pc (m_sLk σ (m_en σ ((m_slot a)).toNatClampNeg)) ((m_slot a)).toNatClampNeg)), rfl, (if_neg c_1).trans rfl, by rw [ht]; exact hP, va_K.moved hW.alike hK, hD⟩, hS.F ht⟩) hS.2.2 dX1_look_35
end
section
set_option maxHeartbeats 4000000 in
set_option maxRecDepth 100000 in
theorem c_m_translate (l : Launch) (dC : Nat → ClassId) (dI : Nat → Nat → Nat) (h : Nat → Nat) (cI : ClassId) (n : Nat) (sz : Nat) (σ : MS) (a : Int32) (md : Int32) (b : Int32) (kp : Int32) (hn : n ≤ 2048) (hI : m_Inv n σ) (ha : ∃ K : Nat, K < 65536 ∧ a = nI K) : Met l yX1_translate wsX1_translate ({ frames := 4, cells := 0, slots := 0, locals := 89 }) (va_Pc [.ref (h 0), .int a, .int md, .int b, .int kp] (m_BM dC dI h cI n sz σ)) (q_m_translate dC dI h cI n σ a md b kp (va_A (m_ws h cI n σ) sz)) 0 0 (va_A (m_ws h cI n σ) sz) := by
  refine Met.ofW (cc := cX1_translate) (maxL := 7) (ret := (some .int)) (by decide) rfl ?_
  intro p e s m args below meth c s₁ B hml hv
  obtain ⟨rfl, hsz, hP, hK, hD0⟩ := hv
  have hx := B.exec
  have hb := B.bytes
  have hr := B.returns
  have hts : ∀ w ∈ bX1, w.before _ s = true := fun w h => atoms_spec (ws := wsX1_translate) B.pre w (List.mem_cons_of_mem _ h)
  have hown : s.vm.findClass RX1 = some m.cls := findClass_of_methodNamed B.named
  have hlocks := B.notSynchronized
  subst hsz
  have hD := hD0.self (sz := s.heap.size)
  generalize hAe : va_A (m_ws h cI n σ) s.heap.size = A at hD ⊢
  have hA : ∀ q : Nat, s.heap.size ≤ q → A q := fun q h => by rw [← hAe]; exact Or.inr h
  have hS : va_S A s.heap s.heap [] := va_S.rf
  have hP : va_P (dC, dI) vwCl (m_ws h cI n σ) s.heap := hP
  have hl := lv_entry ([.ref (h 0), .int a, .int md, .int b, .int kp]) (n := 7) (Nat.le_of_ble_eq_true rfl)
  rw [lg_entry_eq]
  generalize (lg_sl ([.ref (h 0), .int a, .int md, .int b, .int kp]) ++ List.replicate (7 - (lg_sl ([.ref (h 0), .int a, .int md, .int b, .int kp])).length) Slot.unset).toArray = ls at hl ⊢
  have hl : lv_has ls 7 [(0, .ref (h 0)), (1, .int a), (2, .int md), (3, .int b), (4, .int kp)] := hl
  refine lv_aload_n hx hb dX1_translate_0 rfl (lv_at hl 0 rfl) ?_
  refine va_get (D := (dC, dI)) (ci := 1) (v := .int (m_on σ)) (C := RX1) (T := TX1) (N := 14) hx hb hts inbX1 hown hK hP 0 rfl rfl 4 (by decide) (hts _ bX1_4) (fun _ h9 => h9) rfl dX1_translate_1 ?_
  refine lv_if_ne (tgt := 9) hx hb dX1_translate_4 (by decide) (fun c_1 => ?_) (fun c_1 => ?_)
  · refine lv_iload_n hx hb dX1_translate_9 rfl (lv_at hl 3 rfl) ?_
    refine lv_if_eq (tgt := 17) hx hb dX1_translate_10 (by decide) (fun c_2 => ?_) (fun c_2 => ?_)
    · refine lv_iconst (v := 0) hx hb dX1_translate_17 (by decide) ?_
      refine lv_istore (lv' := [(5, .int 0), (0, .ref (h 0)), (1, .int a), (2, .int md), (3, .int b), (4, .int kp)]) hx hb dX1_translate_18 hl (by decide) rfl (fun ls hl => ?_)
      refine lv_aload_n hx hb dX1_translate_20 rfl (lv_at hl 1 rfl) ?_
      refine lv_iload_n hx hb dX1_translate_21 rfl (lv_at hl 2 rfl) ?_
      refine lv_iload hx hb dX1_translate_22 (lv_at hl 5 rfl) ?_
      refine m_calli (f := (m_look n σ a kp)) (va_runV (C := RX1) (As := [.int a, .int kp]) (rest := []) ⟨hx, hb, hml, hown, hts⟩ (c_m_look l dC dI h cI n _ σ a kp hn) (cwV 2 hts gX1_X1_look rfl rfl rfl (by decide +kernel) ⟨Nat.le_of_ble_eq_true rfl, Nat.le_of_ble_eq_true rfl⟩) (m_preM hK hP hD) rfl rfl hl.1 rfl (lv_room (Nat.le_of_ble_eq_true rfl)) dX1_translate_24 ⟨Nat.zero_le _, Nat.zero_le _⟩) hP hD hS hA (fun r_5 t_3 H locs e_4 hP hD hS => ?_)
      refine lv_istore (lv' := [(6, .int r_5), (5, .int 0), (0, .ref (h 0)), (1, .int a), (2, .int md), (3, .int b), (4, .int kp)]) hx hb dX1_translate_27 hl (by decide) rfl (fun ls hl => ?_)
      refine lv_iload hx hb dX1_translate_29 (lv_at hl 0 rfl) ?_
      refine lv_if_ge (tgt := 52) hx hb dX1_translate_31 (by decide) (fun c_6 => ?_) (fun c_6 => ?_)
      · refine lv_aload_n hx hb dX1_translate_52 rfl (lv_at hl 2 rfl) ?_
        refine lv_iload_n hx hb dX1_translate_53 rfl (lv_at hl 4 rfl) ?_
        refine lv_iload_n hx hb dX1_translate_54 rfl (lv_at hl 5 rfl) ?_
        refine vp_callSi (W.runV (C := RX1) (As := [.int md, .int b]) (rest := []) ⟨hx, hb, hml, hown, hts⟩ (c_m_isRight l dC dI h cI n t_3 md b ) (cwV 2 hts gX1_X1_isRight rfl rfl rfl (by decide +kernel) ⟨Nat.le_of_ble_eq_true rfl, Nat.le_of_ble_eq_true rfl⟩) (m_preP hK hP) rfl rfl hl.1 rfl (lv_room (Nat.le_of_ble_eq_true rfl)) dX1_translate_55 ⟨Nat.zero_le _, Nat.zero_le _⟩) (fun r er => ?_)
        subst er
        refine lv_if_ne (tgt := 66) hx hb dX1_translate_58 (by decide) (fun c_7 => ?_) (fun c_7 => ?_)
        · refine lv_aload_n hx hb dX1_translate_66 rfl (lv_at hl 2 rfl) ?_
          refine va_get (D := (dC, dI)) (ci := 1) (v := .int (m_lk t_3)) (C := RX1) (T := TX1) (N := 14) hx hb hts inbX1 hown hK hP 0 rfl rfl 12 (by decide) (hts _ bX1_12) (fun _ h9 => h9) rfl dX1_translate_67 ?_
          refine lv_if_lt (tgt := 79) hx hb dX1_translate_70 (by decide) (fun c_8 => ?_) (fun c_8 => ?_)
          · refine lv_iload hx hb dX1_translate_79 (lv_at hl 6 rfl) ?_
            refine lv_if_eq (tgt := 130) hx hb dX1_translate_81 (by decide) (fun c_9 => ?_) (fun c_9 => ?_)
            · refine lv_iload hx hb dX1_translate_130 (lv_at hl 6 rfl) ?_
              refine lv_if_eq (tgt := 148) hx hb dX1_translate_132 (by decide) (fun _ => ?_) (fun c_10 => absurd c_9 c_10)
              refine lv_bipush (v := 16) hx hb dX1_translate_148 (by decide) ?_
              refine lv_aload_n hx hb dX1_translate_150 rfl (lv_at hl 2 rfl) ?_
              refine va_get (D := (dC, dI)) (ci := 1) (v := .int (m_lk t_3)) (C := RX1) (T := TX1) (N := 14) hx hb hts inbX1 hown hK hP 0 rfl rfl 12 (by decide) (hts _ bX1_12) (fun _ h9 => h9) rfl dX1_translate_151 ?_
              refine lv_sipush (v := 4095) hx hb dX1_translate_154 (by decide) ?_
              refine lv_iand hx hb dX1_translate_157 ?_
              refine lv_imul hx hb dX1_translate_158 ?_
              refine lv_iload_n hx hb dX1_translate_159 rfl (lv_at hl 3 rfl) ?_
              refine lv_bipush (v := 16) hx hb dX1_translate_160 (by decide) ?_
              refine lv_irem hx hb dX1_translate_162 (by decide) ?_
              refine lv_iadd hx hb dX1_translate_163 ?_
              exact W.iret (v := (((16 : Int32) * ((m_lk t_3) &&& 4095)) + (a - a / 16 * 16))) hx hb hr (fun t ht hW => ⟨⟨(((16 : Int32) * ((m_lk t_3) &&& 4095)) + (a - a / 16 * 16)), t_3, rfl, (if_neg c_1).trans ((if_pos c_2).trans ((kb_eq e_4).trans ((if_pos c_6).trans ((if_neg c_7).trans ((if_pos c_8).trans ((if_pos c_9).trans rfl)))))), by rw [ht]; exact hP, va_K.moved hW.alike hK, hD⟩, hS.F ht⟩) hS.2.2 dX1_translate_164
            · refine lv_iload_n hx hb dX1_translate_84 rfl (lv_at hl 5 rfl) ?_
              refine lv_if_eq (tgt := 130) hx hb dX1_translate_85 (by decide) (fun _ => ?_) (fun c_11 => absurd c_2 c_11)
              refine lv_iload hx hb dX1_translate_130 (lv_at hl 6 rfl) ?_
              refine lv_if_eq (tgt := 148) hx hb dX1_translate_132 (by decide) (fun c_12 => absurd c_12 c_9) (fun _ => ?_)
              refine lv_aload_n hx hb dX1_translate_135 rfl (lv_at hl 2 rfl) ?_
              refine lv_iload_n hx hb dX1_translate_136 rfl (lv_at hl 3 rfl) ?_
              refine lv_aload_n hx hb dX1_translate_137 rfl (lv_at hl 2 rfl) ?_
              refine va_get (D := (dC, dI)) (ci := 1) (v := .int (m_lk t_3)) (C := RX1) (T := TX1) (N := 14) hx hb hts inbX1 hown hK hP 0 rfl rfl 12 (by decide) (hts _ bX1_12) (fun _ h9 => h9) rfl dX1_translate_138 ?_
              refine lv_aload_n hx hb dX1_translate_141 rfl (lv_at hl 2 rfl) ?_
              refine va_get (D := (dC, dI)) (ci := 1) (v := .int (m_ad t_3)) (C := RX1) (T := TX1) (N := 14) hx hb hts inbX1 hown hK hP 0 rfl rfl 13 (by decide) (hts _ bX1_13) (fun _ h9 => h9) rfl dX1_translate_142 ?_
              refine m_callv (f := (m_keeps n t_3 a (m_lk t_3) (m_ad t_3))) (va_runV (C := RX1) (As := [.int a, .int (m_lk t_3), .int (m_ad t_3)]) (rest := []) ⟨hx, hb, hml, hown, hts⟩ (c_m_keeps l dC dI h cI n _ t_3 a (m_lk t_3) (m_ad t_3) ) (cwV 3 hts gX1_X1_keeps rfl rfl rfl (by decide +kernel) ⟨Nat.le_of_ble_eq_true rfl, Nat.le_of_ble_eq_true rfl⟩) (m_preM hK hP hD) rfl rfl hl.1 rfl (lv_room (Nat.le_of_ble_eq_true rfl)) dX1_translate_145 ⟨Nat.zero_le _, Nat.zero_le _⟩) hP hD hS hA (fun t_13 H locs e_14 hP hD hS => ?_)
              refine lv_bipush (v := 16) hx hb dX1_translate_148 (by decide) ?_
              refine lv_aload_n hx hb dX1_translate_150 rfl (lv_at hl 2 rfl) ?_
              refine va_get (D := (dC, dI)) (ci := 1) (v := .int (m_lk t_13)) (C := RX1) (T := TX1) (N := 14) hx hb hts inbX1 hown hK hP 0 rfl rfl 12 (by decide) (hts _ bX1_12) (fun _ h9 => h9) rfl dX1_translate_151 ?_
              refine lv_sipush (v := 4095) hx hb dX1_translate_154 (by decide) ?_
              refine lv_iand hx hb dX1_translate_157 ?_
              refine lv_imul hx hb dX1_translate_158 ?_
              refine lv_iload_n hx hb dX1_translate_159 rfl (lv_at hl 3 rfl) ?_
              refine lv_bipush (v := 16) hx hb dX1_translate_160 (by decide) ?_
              refine lv_irem hx hb dX1_translate_162 (by decide) ?_
              refine lv_iadd hx hb dX1_translate_163 ?_
              exact W.iret (v := (((16 : Int32) * ((m_lk t_13) &&& 4095)) + (a - a / 16 * 16))) hx hb hr (fun t ht hW => ⟨⟨(((16 : Int32) * ((m_lk t_13) &&& 4095)) + (a - a / 16 * 16)), t_13, rfl, (if_neg c_1).trans ((if_pos c_2).trans ((kb_eq e_4).trans ((if_pos c_6).trans ((if_neg c_7).trans ((if_pos c_8).trans ((if_neg c_9).trans ((kv_eq e_14).trans rfl))))))), by rw [ht]; exact hP, va_K.moved hW.alike hK, hD⟩, hS.F ht⟩) hS.2.2 dX1_translate_164
          · refine lv_bipush (v := (-11)) hx hb dX1_translate_73 (by decide) ?_
            refine lv_iload hx hb dX1_translate_75 (lv_at hl 1 rfl) ?_
            refine lv_isub hx hb dX1_translate_77 ?_
            exact W.iret (v := (((-11) : Int32) - 0)) hx hb hr (fun t ht hW => ⟨⟨(((-11) : Int32) - 0), t_3, rfl, (if_neg c_1).trans ((if_pos c_2).trans ((kb_eq e_4).trans ((if_pos c_6).trans ((if_neg c_7).trans ((if_neg c_8).trans rfl))))), by rw [ht]; exact hP, va_K.moved hW.alike hK, hD⟩, hS.F ht⟩) hS.2.2 dX1_translate_78
        · refine lv_iconst (v := (-1)) hx hb dX1_translate_61 (by decide) ?_
          refine lv_iload hx hb dX1_translate_62 (lv_at hl 1 rfl) ?_
          refine lv_isub hx hb dX1_translate_64 ?_
          exact W.iret (v := (((-1) : Int32) - 0)) hx hb hr (fun t ht hW => ⟨⟨(((-1) : Int32) - 0), t_3, rfl, (if_neg c_1).trans ((if_pos c_2).trans ((kb_eq e_4).trans ((if_pos c_6).trans ((if_pos c_7).trans rfl)))), by rw [ht]; exact hP, va_K.moved hW.alike hK, hD⟩, hS.F ht⟩) hS.2.2 dX1_translate_65
      · refine lv_iload hx hb dX1_translate_34 (lv_at hl 0 rfl) ?_
        refine lv_bipush (v := (-100)) hx hb dX1_translate_36 (by decide) ?_
        refine lv_icmp_ne (tgt := 46) hx hb dX1_translate_38 (by decide) (fun c_15 => ?_) (fun c_15 => ?_)
        · refine lv_iload hx hb dX1_translate_46 (lv_at hl 0 rfl) ?_
          refine lv_iload hx hb dX1_translate_48 (lv_at hl 1 rfl) ?_
          refine lv_isub hx hb dX1_translate_50 ?_
          exact W.iret (v := (r_5 - 0)) hx hb hr (fun t ht hW => ⟨⟨(r_5 - 0), t_3, rfl, (if_neg c_1).trans ((if_pos c_2).trans ((kb_eq e_4).trans ((if_neg c_6).trans ((if_neg c_15).trans rfl)))), by rw [ht]; exact hP, va_K.moved hW.alike hK, hD⟩, hS.F ht⟩) hS.2.2 dX1_translate_51
        · refine lv_bipush (v := (-100)) hx hb dX1_translate_41 (by decide) ?_
          refine lv_goto (tgt := 51) hx hb dX1_translate_43 (by decide) ?_
          exact W.iret (v := (-100)) hx hb hr (fun t ht hW => ⟨⟨(-100), t_3, rfl, (if_neg c_1).trans ((if_pos c_2).trans ((kb_eq e_4).trans ((if_neg c_6).trans ((if_pos c_15).trans rfl)))), by rw [ht]; exact hP, va_K.moved hW.alike hK, hD⟩, hS.F ht⟩) hS.2.2 dX1_translate_51
    · refine lv_iconst (v := 4) hx hb dX1_translate_13 (by decide) ?_
      refine lv_goto (tgt := 18) hx hb dX1_translate_14 (by decide) ?_
      refine lv_istore (lv' := [(5, .int 4), (0, .ref (h 0)), (1, .int a), (2, .int md), (3, .int b), (4, .int kp)]) hx hb dX1_translate_18 hl (by decide) rfl (fun ls hl => ?_)
      refine lv_aload_n hx hb dX1_translate_20 rfl (lv_at hl 1 rfl) ?_
      refine lv_iload_n hx hb dX1_translate_21 rfl (lv_at hl 2 rfl) ?_
      refine lv_iload hx hb dX1_translate_22 (lv_at hl 5 rfl) ?_
      refine m_calli (f := (m_look n σ a kp)) (va_runV (C := RX1) (As := [.int a, .int kp]) (rest := []) ⟨hx, hb, hml, hown, hts⟩ (c_m_look l dC dI h cI n _ σ a kp hn) (cwV 2 hts gX1_X1_look rfl rfl rfl (by decide +kernel) ⟨Nat.le_of_ble_eq_true rfl, Nat.le_of_ble_eq_true rfl⟩) (m_preM hK hP hD) rfl rfl hl.1 rfl (lv_room (Nat.le_of_ble_eq_true rfl)) dX1_translate_24 ⟨Nat.zero_le _, Nat.zero_le _⟩) hP hD hS hA (fun r_18 t_16 H locs e_17 hP hD hS => ?_)
      refine lv_istore (lv' := [(6, .int r_18), (5, .int 4), (0, .ref (h 0)), (1, .int a), (2, .int md), (3, .int b), (4, .int kp)]) hx hb dX1_translate_27 hl (by decide) rfl (fun ls hl => ?_)
      refine lv_iload hx hb dX1_translate_29 (lv_at hl 0 rfl) ?_
      refine lv_if_ge (tgt := 52) hx hb dX1_translate_31 (by decide) (fun c_19 => ?_) (fun c_19 => ?_)
      · refine lv_aload_n hx hb dX1_translate_52 rfl (lv_at hl 2 rfl) ?_
        refine lv_iload_n hx hb dX1_translate_53 rfl (lv_at hl 4 rfl) ?_
        refine lv_iload_n hx hb dX1_translate_54 rfl (lv_at hl 5 rfl) ?_
        refine vp_callSi (W.runV (C := RX1) (As := [.int md, .int b]) (rest := []) ⟨hx, hb, hml, hown, hts⟩ (c_m_isRight l dC dI h cI n t_16 md b ) (cwV 2 hts gX1_X1_isRight rfl rfl rfl (by decide +kernel) ⟨Nat.le_of_ble_eq_true rfl, Nat.le_of_ble_eq_true rfl⟩) (m_preP hK hP) rfl rfl hl.1 rfl (lv_room (Nat.le_of_ble_eq_true rfl)) dX1_translate_55 ⟨Nat.zero_le _, Nat.zero_le _⟩) (fun r er => ?_)
        subst er
        refine lv_if_ne (tgt := 66) hx hb dX1_translate_58 (by decide) (fun c_20 => ?_) (fun c_20 => ?_)
        · refine lv_aload_n hx hb dX1_translate_66 rfl (lv_at hl 2 rfl) ?_
          refine va_get (D := (dC, dI)) (ci := 1) (v := .int (m_lk t_16)) (C := RX1) (T := TX1) (N := 14) hx hb hts inbX1 hown hK hP 0 rfl rfl 12 (by decide) (hts _ bX1_12) (fun _ h9 => h9) rfl dX1_translate_67 ?_
          refine lv_if_lt (tgt := 79) hx hb dX1_translate_70 (by decide) (fun c_21 => ?_) (fun c_21 => ?_)
          · refine lv_iload hx hb dX1_translate_79 (lv_at hl 6 rfl) ?_
            refine lv_if_eq (tgt := 130) hx hb dX1_translate_81 (by decide) (fun c_22 => ?_) (fun c_22 => ?_)
            · refine lv_iload hx hb dX1_translate_130 (lv_at hl 6 rfl) ?_
              refine lv_if_eq (tgt := 148) hx hb dX1_translate_132 (by decide) (fun _ => ?_) (fun c_23 => absurd c_22 c_23)
              refine lv_bipush (v := 16) hx hb dX1_translate_148 (by decide) ?_
              refine lv_aload_n hx hb dX1_translate_150 rfl (lv_at hl 2 rfl) ?_
              refine va_get (D := (dC, dI)) (ci := 1) (v := .int (m_lk t_16)) (C := RX1) (T := TX1) (N := 14) hx hb hts inbX1 hown hK hP 0 rfl rfl 12 (by decide) (hts _ bX1_12) (fun _ h9 => h9) rfl dX1_translate_151 ?_
              refine lv_sipush (v := 4095) hx hb dX1_translate_154 (by decide) ?_
              refine lv_iand hx hb dX1_translate_157 ?_
              refine lv_imul hx hb dX1_translate_158 ?_
              refine lv_iload_n hx hb dX1_translate_159 rfl (lv_at hl 3 rfl) ?_
              refine lv_bipush (v := 16) hx hb dX1_translate_160 (by decide) ?_
              refine lv_irem hx hb dX1_translate_162 (by decide) ?_
              refine lv_iadd hx hb dX1_translate_163 ?_
              exact W.iret (v := (((16 : Int32) * ((m_lk t_16) &&& 4095)) + (a - a / 16 * 16))) hx hb hr (fun t ht hW => ⟨⟨(((16 : Int32) * ((m_lk t_16) &&& 4095)) + (a - a / 16 * 16)), t_16, rfl, (if_neg c_1).trans ((if_neg c_2).trans ((kb_eq e_17).trans ((if_pos c_19).trans ((if_neg c_20).trans ((if_pos c_21).trans ((if_pos c_22).trans rfl)))))), by rw [ht]; exact hP, va_K.moved hW.alike hK, hD⟩, hS.F ht⟩) hS.2.2 dX1_translate_164
            · refine lv_iload_n hx hb dX1_translate_84 rfl (lv_at hl 5 rfl) ?_
              refine lv_if_eq (tgt := 130) hx hb dX1_translate_85 (by decide) (fun c_24 => absurd c_24 c_2) (fun _ => ?_)
              refine lv_aload_n hx hb dX1_translate_88 rfl (lv_at hl 2 rfl) ?_
              refine va_get (D := (dC, dI)) (ci := 1) (v := .int (m_lk t_16)) (C := RX1) (T := TX1) (N := 14) hx hb hts inbX1 hown hK hP 0 rfl rfl 12 (by decide) (hts _ bX1_12) (fun _ h9 => h9) rfl dX1_translate_89 ?_
              refine lv_bipush (v := 26) hx hb dX1_translate_92 (by decide) ?_
              refine lv_ishr hx hb dX1_translate_94 ?_
              refine lv_iconst (v := 1) hx hb dX1_translate_95 (by decide) ?_
              refine lv_iand hx hb dX1_translate_96 ?_
              refine lv_if_ne (tgt := 130) hx hb dX1_translate_97 (by decide) (fun c_25 => ?_) (fun c_25 => ?_)
              · refine lv_iload hx hb dX1_translate_130 (lv_at hl 6 rfl) ?_
                refine lv_if_eq (tgt := 148) hx hb dX1_translate_132 (by decide) (fun c_26 => absurd c_26 c_22) (fun _ => ?_)
                refine lv_aload_n hx hb dX1_translate_135 rfl (lv_at hl 2 rfl) ?_
                refine lv_iload_n hx hb dX1_translate_136 rfl (lv_at hl 3 rfl) ?_
                refine lv_aload_n hx hb dX1_translate_137 rfl (lv_at hl 2 rfl) ?_
                refine va_get (D := (dC, dI)) (ci := 1) (v := .int (m_lk t_16)) (C := RX1) (T := TX1) (N := 14) hx hb hts inbX1 hown hK hP 0 rfl rfl 12 (by decide) (hts _ bX1_12) (fun _ h9 => h9) rfl dX1_translate_138 ?_
                refine lv_aload_n hx hb dX1_translate_141 rfl (lv_at hl 2 rfl) ?_
                refine va_get (D := (dC, dI)) (ci := 1) (v := .int (m_ad t_16)) (C := RX1) (T := TX1) (N := 14) hx hb hts inbX1 hown hK hP 0 rfl rfl 13 (by decide) (hts _ bX1_13) (fun _ h9 => h9) rfl dX1_translate_142 ?_
                refine m_callv (f := (m_keeps n t_16 a (m_lk t_16) (m_ad t_16))) (va_runV (C := RX1) (As := [.int a, .int (m_lk t_16), .int (m_ad t_16)]) (rest := []) ⟨hx, hb, hml, hown, hts⟩ (c_m_keeps l dC dI h cI n _ t_16 a (m_lk t_16) (m_ad t_16) ) (cwV 3 hts gX1_X1_keeps rfl rfl rfl (by decide +kernel) ⟨Nat.le_of_ble_eq_true rfl, Nat.le_of_ble_eq_true rfl⟩) (m_preM hK hP hD) rfl rfl hl.1 rfl (lv_room (Nat.le_of_ble_eq_true rfl)) dX1_translate_145 ⟨Nat.zero_le _, Nat.zero_le _⟩) hP hD hS hA (fun t_27 H locs e_28 hP hD hS => ?_)
                refine lv_bipush (v := 16) hx hb dX1_translate_148 (by decide) ?_
                refine lv_aload_n hx hb dX1_translate_150 rfl (lv_at hl 2 rfl) ?_
                refine va_get (D := (dC, dI)) (ci := 1) (v := .int (m_lk t_27)) (C := RX1) (T := TX1) (N := 14) hx hb hts inbX1 hown hK hP 0 rfl rfl 12 (by decide) (hts _ bX1_12) (fun _ h9 => h9) rfl dX1_translate_151 ?_
                refine lv_sipush (v := 4095) hx hb dX1_translate_154 (by decide) ?_
                refine lv_iand hx hb dX1_translate_157 ?_
                refine lv_imul hx hb dX1_translate_158 ?_
                refine lv_iload_n hx hb dX1_translate_159 rfl (lv_at hl 3 rfl) ?_
                refine lv_bipush (v := 16) hx hb dX1_translate_160 (by decide) ?_
                refine lv_irem hx hb dX1_translate_162 (by decide) ?_
                refine lv_iadd hx hb dX1_translate_163 ?_
                exact W.iret (v := (((16 : Int32) * ((m_lk t_27) &&& 4095)) + (a - a / 16 * 16))) hx hb hr (fun t ht hW => ⟨⟨(((16 : Int32) * ((m_lk t_27) &&& 4095)) + (a - a / 16 * 16)), t_27, rfl, (if_neg c_1).trans ((if_neg c_2).trans ((kb_eq e_17).trans ((if_pos c_19).trans ((if_neg c_20).trans ((if_pos c_21).trans ((if_neg c_22).trans ((if_neg c_25).trans ((kv_eq e_28).trans rfl)))))))), by rw [ht]; exact hP, va_K.moved hW.alike hK, hD⟩, hS.F ht⟩) hS.2.2 dX1_translate_164
              · refine lv_aload_n hx hb dX1_translate_100 rfl (lv_at hl 2 rfl) ?_
                refine lv_aload_n hx hb dX1_translate_101 rfl (lv_at hl 2 rfl) ?_
                refine va_get (D := (dC, dI)) (ci := 1) (v := .int (m_lk t_16)) (C := RX1) (T := TX1) (N := 14) hx hb hts inbX1 hown hK hP 0 rfl rfl 12 (by decide) (hts _ bX1_12) (fun _ h9 => h9) rfl dX1_translate_102 ?_
                refine lv_ldc (v := 67108864) hx hb hown (hts _ bX1_19) dX1_translate_105 ?_
                refine lv_ior hx hb dX1_translate_107 ?_
                refine va_put (D := (dC, dI)) (ci := 1) (v := .int ((m_lk t_16) ||| 67108864)) (ty := .int) (C := RX1) (T := TX1) (N := 14) hx hb hts inbX1 tyX1 tyX1_ok nmX1 hown hK hP hD hS 0 rfl rfl 12 (by decide) (hts _ bX1_12) (fun _ h9 => h9) rfl (by decide +kernel) rfl rfl (Nat.le_of_ble_eq_true rfl) dX1_translate_108 (fun H locs hP hD hS => ?_)
                have hP := m_pLk hP
                have hD := m_dLk hD
                refine lv_aload_n hx hb dX1_translate_111 rfl (lv_at hl 2 rfl) ?_
                refine lv_aload_n hx hb dX1_translate_112 rfl (lv_at hl 2 rfl) ?_
                refine va_get (D := (dC, dI)) (ci := 1) (v := .int (m_ad (m_sLk t_16 ((m_lk t_16) ||| 67108864)))) (C := RX1) (T := TX1) (N := 14) hx hb hts inbX1 hown hK hP 0 rfl rfl 13 (by decide) (hts _ bX1_13) (fun _ h9 => h9) rfl dX1_translate_113 ?_
                refine lv_aload_n hx hb dX1_translate_116 rfl (lv_at hl 2 rfl) ?_
                refine lv_aload_n hx hb dX1_translate_117 rfl (lv_at hl 2 rfl) ?_
                refine va_get (D := (dC, dI)) (ci := 1) (v := .int (m_ad (m_sLk t_16 ((m_lk t_16) ||| 67108864)))) (C := RX1) (T := TX1) (N := 14) hx hb hts inbX1 hown hK hP 0 rfl rfl 13 (by decide) (hts _ bX1_13) (fun _ h9 => h9) rfl dX1_translate_118 ?_
                refine vp_callSi (W.runV (C := RX1) (As := [.int (m_ad (m_sLk t_16 ((m_lk t_16) ||| 67108864)))]) (rest := [.int (m_ad (m_sLk t_16 ((m_lk t_16) ||| 67108864))), .ref (h 0)]) ⟨hx, hb, hml, hown, hts⟩ (c_m_four l dC dI h cI n (m_sLk t_16 ((m_lk t_16) ||| 67108864)) (m_ad (m_sLk t_16 ((m_lk t_16) ||| 67108864))) (m_in48 (a := m_ad t_16) hn (m_look_in hn hI ha e_17 c_19))) (cwV 1 hts gX1_X1_four rfl rfl rfl (by decide +kernel) ⟨Nat.le_of_ble_eq_true rfl, Nat.le_of_ble_eq_true rfl⟩) (m_preP hK hP) rfl rfl hl.1 rfl (lv_room (Nat.le_of_ble_eq_true rfl)) dX1_translate_121 ⟨Nat.zero_le _, Nat.zero_le _⟩) (fun r er => ?_)
                subst er
                refine lv_ldc (v := 67108864) hx hb hown (hts _ bX1_19) dX1_translate_124 ?_
                refine lv_ior hx hb dX1_translate_126 ?_
                refine m_callv (f := (m_putFour n (m_sLk t_16 ((m_lk t_16) ||| 67108864)) (m_ad (m_sLk t_16 ((m_lk t_16) ||| 67108864))) ((m_four n (m_sLk t_16 ((m_lk t_16) ||| 67108864)) (m_ad (m_sLk t_16 ((m_lk t_16) ||| 67108864)))) ||| 67108864))) (va_runV (C := RX1) (As := [.int (m_ad (m_sLk t_16 ((m_lk t_16) ||| 67108864))), .int ((m_four n (m_sLk t_16 ((m_lk t_16) ||| 67108864)) (m_ad (m_sLk t_16 ((m_lk t_16) ||| 67108864)))) ||| 67108864)]) (rest := []) ⟨hx, hb, hml, hown, hts⟩ (c_m_putFour l dC dI h cI n _ (m_sLk t_16 ((m_lk t_16) ||| 67108864)) (m_ad (m_sLk t_16 ((m_lk t_16) ||| 67108864))) ((m_four n (m_sLk t_16 ((m_lk t_16) ||| 67108864)) (m_ad (m_sLk t_16 ((m_lk t_16) ||| 67108864)))) ||| 67108864) (m_in48 (a := m_ad t_16) hn (m_look_in hn hI ha e_17 c_19))) (cwV 2 hts gX1_X1_putFour rfl rfl rfl (by decide +kernel) ⟨Nat.le_of_ble_eq_true rfl, Nat.le_of_ble_eq_true rfl⟩) (m_preM hK hP hD) rfl rfl hl.1 rfl (lv_room (Nat.le_of_ble_eq_true rfl)) dX1_translate_127 ⟨Nat.zero_le _, Nat.zero_le _⟩) hP hD hS hA (fun t_29 H locs e_30 hP hD hS => ?_)
                refine lv_iload hx hb dX1_translate_130 (lv_at hl 6 rfl) ?_
                refine lv_if_eq (tgt := 148) hx hb dX1_translate_132 (by decide) (fun c_31 => absurd c_31 c_22) (fun _ => ?_)
                refine lv_aload_n hx hb dX1_translate_135 rfl (lv_at hl 2 rfl) ?_
                refine lv_iload_n hx hb dX1_translate_136 rfl (lv_at hl 3 rfl) ?_
                refine lv_aload_n hx hb dX1_translate_137 rfl (lv_at hl 2 rfl) ?_
                refine va_get (D := (dC, dI)) (ci := 1) (v := .int (m_lk t_29)) (C := RX1) (T := TX1) (N := 14) hx hb hts inbX1 hown hK hP 0 rfl rfl 12 (by decide) (hts _ bX1_12) (fun _ h9 => h9) rfl dX1_translate_138 ?_
                refine lv_aload_n hx hb dX1_translate_141 rfl (lv_at hl 2 rfl) ?_
                refine va_get (D := (dC, dI)) (ci := 1) (v := .int (m_ad t_29)) (C := RX1) (T := TX1) (N := 14) hx hb hts inbX1 hown hK hP 0 rfl rfl 13 (by decide) (hts _ bX1_13) (fun _ h9 => h9) rfl dX1_translate_142 ?_
                refine m_callv (f := (m_keeps n t_29 a (m_lk t_29) (m_ad t_29))) (va_runV (C := RX1) (As := [.int a, .int (m_lk t_29), .int (m_ad t_29)]) (rest := []) ⟨hx, hb, hml, hown, hts⟩ (c_m_keeps l dC dI h cI n _ t_29 a (m_lk t_29) (m_ad t_29) ) (cwV 3 hts gX1_X1_keeps rfl rfl rfl (by decide +kernel) ⟨Nat.le_of_ble_eq_true rfl, Nat.le_of_ble_eq_true rfl⟩) (m_preM hK hP hD) rfl rfl hl.1 rfl (lv_room (Nat.le_of_ble_eq_true rfl)) dX1_translate_145 ⟨Nat.zero_le _, Nat.zero_le _⟩) hP hD hS hA (fun t_32 H locs e_33 hP hD hS => ?_)
                refine lv_bipush (v := 16) hx hb dX1_translate_148 (by decide) ?_
                refine lv_aload_n hx hb dX1_translate_150 rfl (lv_at hl 2 rfl) ?_
                refine va_get (D := (dC, dI)) (ci := 1) (v := .int (m_lk t_32)) (C := RX1) (T := TX1) (N := 14) hx hb hts inbX1 hown hK hP 0 rfl rfl 12 (by decide) (hts _ bX1_12) (fun _ h9 => h9) rfl dX1_translate_151 ?_
                refine lv_sipush (v := 4095) hx hb dX1_translate_154 (by decide) ?_
                refine lv_iand hx hb dX1_translate_157 ?_
                refine lv_imul hx hb dX1_translate_158 ?_
                refine lv_iload_n hx hb dX1_translate_159 rfl (lv_at hl 3 rfl) ?_
                refine lv_bipush (v := 16) hx hb dX1_translate_160 (by decide) ?_
                refine lv_irem hx hb dX1_translate_162 (by decide) ?_
                refine lv_iadd hx hb dX1_translate_163 ?_
                exact W.iret (v := (((16 : Int32) * ((m_lk t_32) &&& 4095)) + (a - a / 16 * 16))) hx hb hr (fun t ht hW => ⟨⟨(((16 : Int32) * ((m_lk t_32) &&& 4095)) + (a - a / 16 * 16)), t_32, rfl, (if_neg c_1).trans ((if_neg c_2).trans ((kb_eq e_17).trans ((if_pos c_19).trans ((if_neg c_20).trans ((if_pos c_21).trans ((if_neg c_22).trans ((if_pos c_25).trans ((kv_eq e_30).trans ((kv_eq e_33).trans rfl))))))))), by rw [ht]; exact hP, va_K.moved hW.alike hK, hD⟩, hS.F ht⟩) hS.2.2 dX1_translate_164
          · refine lv_bipush (v := (-11)) hx hb dX1_translate_73 (by decide) ?_
            refine lv_iload hx hb dX1_translate_75 (lv_at hl 1 rfl) ?_
            refine lv_isub hx hb dX1_translate_77 ?_
            exact W.iret (v := (((-11) : Int32) - 4)) hx hb hr (fun t ht hW => ⟨⟨(((-11) : Int32) - 4), t_16, rfl, (if_neg c_1).trans ((if_neg c_2).trans ((kb_eq e_17).trans ((if_pos c_19).trans ((if_neg c_20).trans ((if_neg c_21).trans rfl))))), by rw [ht]; exact hP, va_K.moved hW.alike hK, hD⟩, hS.F ht⟩) hS.2.2 dX1_translate_78
        · refine lv_iconst (v := (-1)) hx hb dX1_translate_61 (by decide) ?_
          refine lv_iload hx hb dX1_translate_62 (lv_at hl 1 rfl) ?_
          refine lv_isub hx hb dX1_translate_64 ?_
          exact W.iret (v := (((-1) : Int32) - 4)) hx hb hr (fun t ht hW => ⟨⟨(((-1) : Int32) - 4), t_16, rfl, (if_neg c_1).trans ((if_neg c_2).trans ((kb_eq e_17).trans ((if_pos c_19).trans ((if_pos c_20).trans rfl)))), by rw [ht]; exact hP, va_K.moved hW.alike hK, hD⟩, hS.F ht⟩) hS.2.2 dX1_translate_65
      · refine lv_iload hx hb dX1_translate_34 (lv_at hl 0 rfl) ?_
        refine lv_bipush (v := (-100)) hx hb dX1_translate_36 (by decide) ?_
        refine lv_icmp_ne (tgt := 46) hx hb dX1_translate_38 (by decide) (fun c_34 => ?_) (fun c_34 => ?_)
        · refine lv_iload hx hb dX1_translate_46 (lv_at hl 0 rfl) ?_
          refine lv_iload hx hb dX1_translate_48 (lv_at hl 1 rfl) ?_
          refine lv_isub hx hb dX1_translate_50 ?_
          exact W.iret (v := (r_18 - 4)) hx hb hr (fun t ht hW => ⟨⟨(r_18 - 4), t_16, rfl, (if_neg c_1).trans ((if_neg c_2).trans ((kb_eq e_17).trans ((if_neg c_19).trans ((if_neg c_34).trans rfl)))), by rw [ht]; exact hP, va_K.moved hW.alike hK, hD⟩, hS.F ht⟩) hS.2.2 dX1_translate_51
        · refine lv_bipush (v := (-100)) hx hb dX1_translate_41 (by decide) ?_
          refine lv_goto (tgt := 51) hx hb dX1_translate_43 (by decide) ?_
          exact W.iret (v := (-100)) hx hb hr (fun t ht hW => ⟨⟨(-100), t_16, rfl, (if_neg c_1).trans ((if_neg c_2).trans ((kb_eq e_17).trans ((if_neg c_19).trans ((if_pos c_34).trans rfl)))), by rw [ht]; exact hP, va_K.moved hW.alike hK, hD⟩, hS.F ht⟩) hS.2.2 dX1_translate_51
  · refine lv_iload_n hx hb dX1_translate_7 rfl (lv_at hl 1 rfl) ?_
    exact W.iret (v := a) hx hb hr (fun t ht hW => ⟨⟨a, σ, rfl, (if_pos c_1).trans rfl, by rw [ht]; exact hP, va_K.moved hW.alike hK, hD⟩, hS.F ht⟩) hS.2.2 dX1_translate_8
end
section
set_option maxHeartbeats 4000000 in
set_option maxRecDepth 100000 in
theorem c_m_reach (l : Launch) (dC : Nat → ClassId) (dI : Nat → Nat → Nat) (h : Nat → Nat) (cI : ClassId) (n : Nat) (sz : Nat) (σ : MS) (a : Int32) (ct : Int32) (md : Int32) (b : Int32) (hn : n ≤ 2048) (hI : m_Inv n σ) (hc : ∃ K : Nat, K ≤ 4 ∧ ct = nI K) : Met l yX1_reach wsX1_reach ({ frames := 5, cells := 0, slots := 0, locals := 115 }) (va_Pc [.ref (h 0), .int a, .int ct, .int md, .int b] (m_BM dC dI h cI n sz σ)) (q_m_reach dC dI h cI n σ a ct md b (va_A (m_ws h cI n σ) sz)) 0 0 (va_A (m_ws h cI n σ) sz) := by
  refine Met.ofW (cc := cX1_reach) (maxL := 8) (ret := (some .int)) (by decide) rfl ?_
  intro p e s m args below meth c s₁ B hml hv
  obtain ⟨rfl, hsz, hP, hK, hD0⟩ := hv
  have hx := B.exec
  have hb := B.bytes
  have hr := B.returns
  have hts : ∀ w ∈ bX1, w.before _ s = true := fun w h => atoms_spec (ws := wsX1_reach) B.pre w (List.mem_cons_of_mem _ h)
  have hown : s.vm.findClass RX1 = some m.cls := findClass_of_methodNamed B.named
  have hlocks := B.notSynchronized
  subst hsz
  have hD := hD0.self (sz := s.heap.size)
  generalize hAe : va_A (m_ws h cI n σ) s.heap.size = A at hD ⊢
  have hA : ∀ q : Nat, s.heap.size ≤ q → A q := fun q h => by rw [← hAe]; exact Or.inr h
  have hS : va_S A s.heap s.heap [] := va_S.rf
  have hP : va_P (dC, dI) vwCl (m_ws h cI n σ) s.heap := hP
  have hl := lv_entry ([.ref (h 0), .int a, .int ct, .int md, .int b]) (n := 8) (Nat.le_of_ble_eq_true rfl)
  rw [lg_entry_eq]
  generalize (lg_sl ([.ref (h 0), .int a, .int ct, .int md, .int b]) ++ List.replicate (8 - (lg_sl ([.ref (h 0), .int a, .int ct, .int md, .int b])).length) Slot.unset).toArray = ls at hl ⊢
  have hl : lv_has ls 8 [(0, .ref (h 0)), (1, .int a), (2, .int ct), (3, .int md), (4, .int b)] := hl
  have key_l2 : ∀ (f j : Nat) (i : Int32) (τ : MS) (H : Heap) (locs : List Loc) (ls : Array Slot), (i = nI j) → (j ≤ 4) → (5 ≤ j + f) → m_reach n σ a ct md b = m_reach_l2 n a ct md b f i τ → va_P (dC, dI) vwCl (m_ws h cI n τ) H → va_D A (m_ws h cI n τ) → va_S A s.heap H locs → lv_has ls 8 [(5, .int i), (0, .ref (h 0)), (1, .int a), (2, .int ct), (3, .int md), (4, .int b)] → W p l e (headSpec wsX1_reach ({ frames := 5, cells := 0, slots := 0, locals := 115 })).room s m ([.ref (h 0), .int a, .int ct, .int md, .int b] : List Value).toArray below meth c H locs 0 0 (MQ below (q_m_reach dC dI h cI n σ a ct md b A) ([.ref (h 0), .int a, .int ct, .int md, .int b] : List Value).toArray s 0 0 A) (F0 m 105 ls []) := by
    intro f
    induction f with
    | zero => intro j i τ H locs ls ej hj hf; exact absurd hf (by omega)
    | succ f ih =>
      intro j i τ H locs ls ej hj hf hm hP hD hS hl
      refine lv_iload hx hb dX1_reach_105 (lv_at hl 0 rfl) ?_
      refine lv_iload_n hx hb dX1_reach_107 rfl (lv_at hl 3 rfl) ?_
      refine lv_icmp_ge (tgt := 134) hx hb dX1_reach_108 (by decide) (fun c_101 => ?_) (fun c_101 => ?_)
      · refine lv_iconst (v := 0) hx hb dX1_reach_134 (by decide) ?_
        exact W.iret (v := 0) hx hb hr (fun t ht hW => ⟨⟨0, τ, rfl, hm.trans ((if_pos c_101).trans rfl), by rw [ht]; exact hP, va_K.moved hW.alike hK, hD⟩, hS.F ht⟩) hS.2.2 dX1_reach_135
      · have hlt : j < 4 := x_ltK hc hj ej (by omega) c_101
        refine lv_aload_n hx hb dX1_reach_111 rfl (lv_at hl 1 rfl) ?_
        refine lv_aload_n hx hb dX1_reach_112 rfl (lv_at hl 1 rfl) ?_
        refine va_get (D := (dC, dI)) (ci := 1) (v := .ref (h 9)) (C := RX1) (T := TX1) (N := 14) hx hb hts inbX1 hown hK hP 0 rfl rfl 10 (by decide) (hts _ bX1_10) (fun _ h9 => h9) rfl dX1_reach_113 ?_
        refine lv_iload hx hb dX1_reach_116 (lv_at hl 0 rfl) ?_
        refine va_iald hx hb hK hP 9 0 rfl rfl (by rw [ej]; exact vp_in_nI hlt (by omega)) dX1_reach_118 ?_
        refine vp_callSi (W.runV (C := RX1) (As := [.int (m_li τ (i).toNatClampNeg)]) (rest := []) ⟨hx, hb, hml, hown, hts⟩ (c_m_isThere l dC dI h cI n τ (m_li τ (i).toNatClampNeg) ) (cwV 1 hts gX1_X1_isThere rfl rfl rfl (by decide +kernel) ⟨Nat.le_of_ble_eq_true rfl, Nat.le_of_ble_eq_true rfl⟩) (m_preP hK hP) rfl rfl hl.1 rfl (lv_room (Nat.le_of_ble_eq_true rfl)) dX1_reach_119 ⟨Nat.zero_le _, Nat.zero_le _⟩) (fun r er => ?_)
        subst er
        refine lv_if_ne (tgt := 128) hx hb dX1_reach_122 (by decide) (fun c_102 => ?_) (fun c_102 => ?_)
        · refine lv_iinc (v := (i + 1)) (lv' := [(5, .int (i + 1)), (0, .ref (h 0)), (1, .int a), (2, .int ct), (3, .int md), (4, .int b)]) hx hb dX1_reach_128 hl (k := 0) rfl rfl (by decide) rfl (fun ls hl => ?_)
          refine lv_goto (tgt := 105) hx hb dX1_reach_131 (by decide) ?_
          exact ih (j + 1) (i + 1) τ _ _ _ (by rw [ej]; exact nI_1 j) (by omega) (by omega) (hm.trans ((if_neg c_101).trans ((if_neg c_102).trans rfl))) hP hD hS (lv_sub hl [0, 1, 2, 3, 4, 5] rfl)
        · refine lv_bipush (v := (-100)) hx hb dX1_reach_125 (by decide) ?_
          exact W.iret (v := (-100)) hx hb hr (fun t ht hW => ⟨⟨(-100), τ, rfl, hm.trans ((if_neg c_101).trans ((if_pos c_102).trans rfl)), by rw [ht]; exact hP, va_K.moved hW.alike hK, hD⟩, hS.F ht⟩) hS.2.2 dX1_reach_127
  have key_l1 : ∀ (f j : Nat) (i : Int32) (τ : MS) (H : Heap) (locs : List Loc) (ls : Array Slot), (i = nI j) → (j ≤ 4) → (5 ≤ j + f) → (m_Inv n τ) → m_reach n σ a ct md b = m_reach_l1 n a ct md b f i τ → va_P (dC, dI) vwCl (m_ws h cI n τ) H → va_D A (m_ws h cI n τ) → va_S A s.heap H locs → lv_has ls 8 [(5, .int i), (0, .ref (h 0)), (1, .int a), (2, .int ct), (3, .int md), (4, .int b)] → W p l e (headSpec wsX1_reach ({ frames := 5, cells := 0, slots := 0, locals := 115 })).room s m ([.ref (h 0), .int a, .int ct, .int md, .int b] : List Value).toArray below meth c H locs 0 0 (MQ below (q_m_reach dC dI h cI n σ a ct md b A) ([.ref (h 0), .int a, .int ct, .int md, .int b] : List Value).toArray s 0 0 A) (F0 m 3 ls []) := by
    intro f
    induction f with
    | zero => intro j i τ H locs ls ej hj hf hI; exact absurd hf (by omega)
    | succ f ih =>
      intro j i τ H locs ls ej hj hf hI hm hP hD hS hl
      refine lv_iload hx hb dX1_reach_3 (lv_at hl 0 rfl) ?_
      refine lv_iload_n hx hb dX1_reach_5 rfl (lv_at hl 3 rfl) ?_
      refine lv_icmp_ge (tgt := 102) hx hb dX1_reach_6 (by decide) (fun c_201 => ?_) (fun c_201 => ?_)
      · refine lv_iconst (v := 0) hx hb dX1_reach_102 (by decide) ?_
        refine lv_istore (lv' := [(5, .int 0), (0, .ref (h 0)), (1, .int a), (2, .int ct), (3, .int md), (4, .int b)]) hx hb dX1_reach_103 hl (by decide) rfl (fun ls hl => ?_)
        exact key_l2 5 0 0 τ _ _ _ nI_0.symm (by omega) (by omega) (hm.trans ((if_pos c_201).trans rfl)) hP hD hS (lv_sub hl [0, 1, 2, 3, 4, 5] rfl)
      · have hlt : j < 4 := x_ltK hc hj ej (by omega) c_201
        refine lv_iload_n hx hb dX1_reach_9 rfl (lv_at hl 2 rfl) ?_
        refine lv_iload hx hb dX1_reach_10 (lv_at hl 0 rfl) ?_
        refine lv_iadd hx hb dX1_reach_12 ?_
        refine lv_ldc (v := 65535) hx hb hown (hts _ bX1_16) dX1_reach_13 ?_
        refine lv_iand hx hb dX1_reach_15 ?_
        refine lv_istore (lv' := [(6, .int ((a + i) &&& 65535)), (5, .int i), (0, .ref (h 0)), (1, .int a), (2, .int ct), (3, .int md), (4, .int b)]) hx hb dX1_reach_16 hl (by decide) rfl (fun ls hl => ?_)
        refine lv_iload hx hb dX1_reach_18 (lv_at hl 1 rfl) ?_
        refine lv_if_eq (tgt := 31) hx hb dX1_reach_20 (by decide) (fun c_202 => ?_) (fun c_202 => ?_)
        · refine lv_aload_n hx hb dX1_reach_31 rfl (lv_at hl 2 rfl) ?_
          refine lv_iload hx hb dX1_reach_32 (lv_at hl 0 rfl) ?_
          refine lv_iload_n hx hb dX1_reach_34 rfl (lv_at hl 5 rfl) ?_
          refine lv_iconst (v := 3) hx hb dX1_reach_35 (by decide) ?_
          refine lv_iand hx hb dX1_reach_36 ?_
          refine lv_iload hx hb dX1_reach_37 (lv_at hl 6 rfl) ?_
          refine lv_iconst (v := 1) hx hb dX1_reach_39 (by decide) ?_
          refine m_calli (f := (m_translate n τ ((a + i) &&& 65535) (md &&& 3) b 1)) (va_runV (C := RX1) (As := [.int ((a + i) &&& 65535), .int (md &&& 3), .int b, .int 1]) (rest := []) ⟨hx, hb, hml, hown, hts⟩ (c_m_translate l dC dI h cI n _ τ ((a + i) &&& 65535) (md &&& 3) b 1 hn hI (x_mask16 _)) (cwV 4 hts gX1_X1_translate rfl rfl rfl (by decide +kernel) ⟨Nat.le_of_ble_eq_true rfl, Nat.le_of_ble_eq_true rfl⟩) (m_preM hK hP hD) rfl rfl hl.1 rfl (lv_room (Nat.le_of_ble_eq_true rfl)) dX1_reach_40 ⟨Nat.zero_le _, Nat.zero_le _⟩) hP hD hS hA (fun r_205 t_203 H locs e_204 hP hD hS => ?_)
          have hI := m_tr_inv hn hI (x_mask16 _) e_204
          refine lv_istore (lv' := [(7, .int r_205), (6, .int ((a + i) &&& 65535)), (5, .int i), (0, .ref (h 0)), (1, .int a), (2, .int ct), (3, .int md), (4, .int b)]) hx hb dX1_reach_43 hl (by decide) rfl (fun ls hl => ?_)
          refine lv_iload hx hb dX1_reach_45 (lv_at hl 0 rfl) ?_
          refine lv_if_ge (tgt := 66) hx hb dX1_reach_47 (by decide) (fun c_206 => ?_) (fun c_206 => ?_)
          · refine lv_aload_n hx hb dX1_reach_66 rfl (lv_at hl 3 rfl) ?_
            refine va_get (D := (dC, dI)) (ci := 1) (v := .ref (h 9)) (C := RX1) (T := TX1) (N := 14) hx hb hts inbX1 hown hK hP 0 rfl rfl 10 (by decide) (hts _ bX1_10) (fun _ h9 => h9) rfl dX1_reach_67 ?_
            refine lv_iload hx hb dX1_reach_70 (lv_at hl 2 rfl) ?_
            refine lv_iload hx hb dX1_reach_72 (lv_at hl 0 rfl) ?_
            refine va_iast hx hb hK hP hD hS 9 0 rfl rfl (by rw [ej]; exact vp_in_nI hlt (by omega)) dX1_reach_74 (fun H locs hP hD hS => ?_)
            have hP := m_pLi hP
            have hD := m_dLi hD
            refine lv_goto (tgt := 96) hx hb dX1_reach_75 (by decide) ?_
            refine lv_iinc (v := (i + 1)) (lv' := [(5, .int (i + 1)), (7, .int r_205), (6, .int ((a + i) &&& 65535)), (0, .ref (h 0)), (1, .int a), (2, .int ct), (3, .int md), (4, .int b)]) hx hb dX1_reach_96 hl (k := 2) rfl rfl (by decide) rfl (fun ls hl => ?_)
            refine lv_goto (tgt := 3) hx hb dX1_reach_99 (by decide) ?_
            exact ih (j + 1) (i + 1) (m_sLi t_203 (upd (m_li t_203) ((i).toNatClampNeg) r_205)) _ _ _ (by rw [ej]; exact nI_1 j) (by omega) (by omega) hI (hm.trans ((if_neg c_201).trans ((if_pos c_202).trans ((kb_eq e_204).trans ((if_pos c_206).trans rfl))))) hP hD hS (lv_sub hl [0, 3, 4, 5, 6, 7] rfl)
          · refine lv_iload hx hb dX1_reach_50 (lv_at hl 0 rfl) ?_
            refine lv_bipush (v := (-100)) hx hb dX1_reach_52 (by decide) ?_
            refine lv_icmp_eq (tgt := 63) hx hb dX1_reach_54 (by decide) (fun c_207 => ?_) (fun c_207 => ?_)
            · refine lv_iload hx hb dX1_reach_63 (lv_at hl 0 rfl) ?_
              exact W.iret (v := r_205) hx hb hr (fun t ht hW => ⟨⟨r_205, t_203, rfl, hm.trans ((if_neg c_201).trans ((if_pos c_202).trans ((kb_eq e_204).trans ((if_neg c_206).trans ((if_pos c_207).trans rfl))))), by rw [ht]; exact hP, va_K.moved hW.alike hK, hD⟩, hS.F ht⟩) hS.2.2 dX1_reach_65
            · refine lv_aload_n hx hb dX1_reach_57 rfl (lv_at hl 3 rfl) ?_
              refine lv_iload hx hb dX1_reach_58 (lv_at hl 1 rfl) ?_
              refine va_put (D := (dC, dI)) (ci := 1) (v := .int ((a + i) &&& 65535)) (ty := .int) (C := RX1) (T := TX1) (N := 14) hx hb hts inbX1 tyX1 tyX1_ok nmX1 hown hK hP hD hS 0 rfl rfl 11 (by decide) (hts _ bX1_11) (fun _ h9 => h9) rfl (by decide +kernel) rfl rfl (Nat.le_of_ble_eq_true rfl) dX1_reach_60 (fun H locs hP hD hS => ?_)
              have hP := m_pFa hP
              have hD := m_dFa hD
              refine lv_iload hx hb dX1_reach_63 (lv_at hl 0 rfl) ?_
              exact W.iret (v := r_205) hx hb hr (fun t ht hW => ⟨⟨r_205, (m_sFa t_203 ((a + i) &&& 65535)), rfl, hm.trans ((if_neg c_201).trans ((if_pos c_202).trans ((kb_eq e_204).trans ((if_neg c_206).trans ((if_neg c_207).trans rfl))))), by rw [ht]; exact hP, va_K.moved hW.alike hK, hD⟩, hS.F ht⟩) hS.2.2 dX1_reach_65
        · refine lv_iload hx hb dX1_reach_23 (lv_at hl 0 rfl) ?_
          refine lv_bipush (v := 16) hx hb dX1_reach_25 (by decide) ?_
          refine lv_irem hx hb dX1_reach_27 (by decide) ?_
          refine lv_if_ne (tgt := 78) hx hb dX1_reach_28 (by decide) (fun c_208 => ?_) (fun c_208 => ?_)
          · refine lv_aload_n hx hb dX1_reach_78 rfl (lv_at hl 2 rfl) ?_
            refine va_get (D := (dC, dI)) (ci := 1) (v := .ref (h 9)) (C := RX1) (T := TX1) (N := 14) hx hb hts inbX1 hown hK hP 0 rfl rfl 10 (by decide) (hts _ bX1_10) (fun _ h9 => h9) rfl dX1_reach_79 ?_
            refine lv_iload hx hb dX1_reach_82 (lv_at hl 1 rfl) ?_
            refine lv_aload_n hx hb dX1_reach_84 rfl (lv_at hl 2 rfl) ?_
            refine va_get (D := (dC, dI)) (ci := 1) (v := .ref (h 9)) (C := RX1) (T := TX1) (N := 14) hx hb hts inbX1 hown hK hP 0 rfl rfl 10 (by decide) (hts _ bX1_10) (fun _ h9 => h9) rfl dX1_reach_85 ?_
            refine lv_iload hx hb dX1_reach_88 (lv_at hl 1 rfl) ?_
            refine lv_iconst (v := 1) hx hb dX1_reach_90 (by decide) ?_
            refine lv_isub hx hb dX1_reach_91 ?_
            refine va_iald hx hb hK hP 9 0 rfl rfl (m_im1 ej hlt c_202) dX1_reach_92 ?_
            refine lv_iconst (v := 1) hx hb dX1_reach_93 (by decide) ?_
            refine lv_iadd hx hb dX1_reach_94 ?_
            refine va_iast hx hb hK hP hD hS 9 0 rfl rfl (by rw [ej]; exact vp_in_nI hlt (by omega)) dX1_reach_95 (fun H locs hP hD hS => ?_)
            have hP := m_pLi hP
            have hD := m_dLi hD
            refine lv_iinc (v := (i + 1)) (lv' := [(5, .int (i + 1)), (6, .int ((a + i) &&& 65535)), (0, .ref (h 0)), (1, .int a), (2, .int ct), (3, .int md), (4, .int b)]) hx hb dX1_reach_96 hl (k := 1) rfl rfl (by decide) rfl (fun ls hl => ?_)
            refine lv_goto (tgt := 3) hx hb dX1_reach_99 (by decide) ?_
            exact ih (j + 1) (i + 1) (m_sLi τ (upd (m_li τ) ((i).toNatClampNeg) ((m_li τ ((i - 1)).toNatClampNeg) + 1))) _ _ _ (by rw [ej]; exact nI_1 j) (by omega) (by omega) hI (hm.trans ((if_neg c_201).trans ((if_neg c_202).trans ((if_neg c_208).trans rfl)))) hP hD hS (lv_sub hl [0, 2, 3, 4, 5, 6] rfl)
          · refine lv_aload_n hx hb dX1_reach_31 rfl (lv_at hl 2 rfl) ?_
            refine lv_iload hx hb dX1_reach_32 (lv_at hl 0 rfl) ?_
            refine lv_iload_n hx hb dX1_reach_34 rfl (lv_at hl 5 rfl) ?_
            refine lv_iconst (v := 3) hx hb dX1_reach_35 (by decide) ?_
            refine lv_iand hx hb dX1_reach_36 ?_
            refine lv_iload hx hb dX1_reach_37 (lv_at hl 6 rfl) ?_
            refine lv_iconst (v := 1) hx hb dX1_reach_39 (by decide) ?_
            refine m_calli (f := (m_translate n τ ((a + i) &&& 65535) (md &&& 3) b 1)) (va_runV (C := RX1) (As := [.int ((a + i) &&& 65535), .int (md &&& 3), .int b, .int 1]) (rest := []) ⟨hx, hb, hml, hown, hts⟩ (c_m_translate l dC dI h cI n _ τ ((a + i) &&& 65535) (md &&& 3) b 1 hn hI (x_mask16 _)) (cwV 4 hts gX1_X1_translate rfl rfl rfl (by decide +kernel) ⟨Nat.le_of_ble_eq_true rfl, Nat.le_of_ble_eq_true rfl⟩) (m_preM hK hP hD) rfl rfl hl.1 rfl (lv_room (Nat.le_of_ble_eq_true rfl)) dX1_reach_40 ⟨Nat.zero_le _, Nat.zero_le _⟩) hP hD hS hA (fun r_211 t_209 H locs e_210 hP hD hS => ?_)
            have hI := m_tr_inv hn hI (x_mask16 _) e_210
            refine lv_istore (lv' := [(7, .int r_211), (6, .int ((a + i) &&& 65535)), (5, .int i), (0, .ref (h 0)), (1, .int a), (2, .int ct), (3, .int md), (4, .int b)]) hx hb dX1_reach_43 hl (by decide) rfl (fun ls hl => ?_)
            refine lv_iload hx hb dX1_reach_45 (lv_at hl 0 rfl) ?_
            refine lv_if_ge (tgt := 66) hx hb dX1_reach_47 (by decide) (fun c_212 => ?_) (fun c_212 => ?_)
            · refine lv_aload_n hx hb dX1_reach_66 rfl (lv_at hl 3 rfl) ?_
              refine va_get (D := (dC, dI)) (ci := 1) (v := .ref (h 9)) (C := RX1) (T := TX1) (N := 14) hx hb hts inbX1 hown hK hP 0 rfl rfl 10 (by decide) (hts _ bX1_10) (fun _ h9 => h9) rfl dX1_reach_67 ?_
              refine lv_iload hx hb dX1_reach_70 (lv_at hl 2 rfl) ?_
              refine lv_iload hx hb dX1_reach_72 (lv_at hl 0 rfl) ?_
              refine va_iast hx hb hK hP hD hS 9 0 rfl rfl (by rw [ej]; exact vp_in_nI hlt (by omega)) dX1_reach_74 (fun H locs hP hD hS => ?_)
              have hP := m_pLi hP
              have hD := m_dLi hD
              refine lv_goto (tgt := 96) hx hb dX1_reach_75 (by decide) ?_
              refine lv_iinc (v := (i + 1)) (lv' := [(5, .int (i + 1)), (7, .int r_211), (6, .int ((a + i) &&& 65535)), (0, .ref (h 0)), (1, .int a), (2, .int ct), (3, .int md), (4, .int b)]) hx hb dX1_reach_96 hl (k := 2) rfl rfl (by decide) rfl (fun ls hl => ?_)
              refine lv_goto (tgt := 3) hx hb dX1_reach_99 (by decide) ?_
              exact ih (j + 1) (i + 1) (m_sLi t_209 (upd (m_li t_209) ((i).toNatClampNeg) r_211)) _ _ _ (by rw [ej]; exact nI_1 j) (by omega) (by omega) hI (hm.trans ((if_neg c_201).trans ((if_neg c_202).trans ((if_pos c_208).trans ((kb_eq e_210).trans ((if_pos c_212).trans rfl)))))) hP hD hS (lv_sub hl [0, 3, 4, 5, 6, 7] rfl)
            · refine lv_iload hx hb dX1_reach_50 (lv_at hl 0 rfl) ?_
              refine lv_bipush (v := (-100)) hx hb dX1_reach_52 (by decide) ?_
              refine lv_icmp_eq (tgt := 63) hx hb dX1_reach_54 (by decide) (fun c_213 => ?_) (fun c_213 => ?_)
              · refine lv_iload hx hb dX1_reach_63 (lv_at hl 0 rfl) ?_
                exact W.iret (v := r_211) hx hb hr (fun t ht hW => ⟨⟨r_211, t_209, rfl, hm.trans ((if_neg c_201).trans ((if_neg c_202).trans ((if_pos c_208).trans ((kb_eq e_210).trans ((if_neg c_212).trans ((if_pos c_213).trans rfl)))))), by rw [ht]; exact hP, va_K.moved hW.alike hK, hD⟩, hS.F ht⟩) hS.2.2 dX1_reach_65
              · refine lv_aload_n hx hb dX1_reach_57 rfl (lv_at hl 3 rfl) ?_
                refine lv_iload hx hb dX1_reach_58 (lv_at hl 1 rfl) ?_
                refine va_put (D := (dC, dI)) (ci := 1) (v := .int ((a + i) &&& 65535)) (ty := .int) (C := RX1) (T := TX1) (N := 14) hx hb hts inbX1 tyX1 tyX1_ok nmX1 hown hK hP hD hS 0 rfl rfl 11 (by decide) (hts _ bX1_11) (fun _ h9 => h9) rfl (by decide +kernel) rfl rfl (Nat.le_of_ble_eq_true rfl) dX1_reach_60 (fun H locs hP hD hS => ?_)
                have hP := m_pFa hP
                have hD := m_dFa hD
                refine lv_iload hx hb dX1_reach_63 (lv_at hl 0 rfl) ?_
                exact W.iret (v := r_211) hx hb hr (fun t ht hW => ⟨⟨r_211, (m_sFa t_209 ((a + i) &&& 65535)), rfl, hm.trans ((if_neg c_201).trans ((if_neg c_202).trans ((if_pos c_208).trans ((kb_eq e_210).trans ((if_neg c_212).trans ((if_neg c_213).trans rfl)))))), by rw [ht]; exact hP, va_K.moved hW.alike hK, hD⟩, hS.F ht⟩) hS.2.2 dX1_reach_65
  refine lv_iconst (v := 0) hx hb dX1_reach_0 (by decide) ?_
  refine lv_istore (lv' := [(5, .int 0), (0, .ref (h 0)), (1, .int a), (2, .int ct), (3, .int md), (4, .int b)]) hx hb dX1_reach_1 hl (by decide) rfl (fun ls hl => ?_)
  exact key_l1 5 0 0 σ _ _ _ nI_0.symm (by omega) (by omega) hI (rfl) hP hD hS (lv_sub hl [0, 1, 2, 3, 4, 5] rfl)
end
section
set_option maxHeartbeats 4000000 in
set_option maxRecDepth 100000 in
theorem c_m_read (l : Launch) (dC : Nat → ClassId) (dI : Nat → Nat → Nat) (h : Nat → Nat) (cI : ClassId) (n : Nat) (sz : Nat) (σ : MS) (a : Int32) (ct : Int32) (md : Int32) (hn : n ≤ 2048) (hI : m_Inv n σ) : Met l yX1_read wsX1_read ({ frames := 6, cells := 0, slots := 0, locals := 142 }) (va_Pc [.ref (h 0), .int a, .int ct, .int md] (m_BM dC dI h cI n sz σ)) (q_m_read dC dI h cI n σ a ct md (va_A (m_ws h cI n σ) sz)) 0 0 (va_A (m_ws h cI n σ) sz) := by
  refine Met.ofW (cc := cX1_read) (maxL := 8) (ret := (some .long)) (by decide) rfl ?_
  intro p e s m args below meth c s₁ B hml hv
  obtain ⟨rfl, hsz, hP, hK, hD0⟩ := hv
  have hx := B.exec
  have hb := B.bytes
  have hr := B.returns
  have hts : ∀ w ∈ bX1, w.before _ s = true := fun w h => atoms_spec (ws := wsX1_read) B.pre w (List.mem_cons_of_mem _ h)
  have hown : s.vm.findClass RX1 = some m.cls := findClass_of_methodNamed B.named
  have hlocks := B.notSynchronized
  subst hsz
  have hD := hD0.self (sz := s.heap.size)
  generalize hAe : va_A (m_ws h cI n σ) s.heap.size = A at hD ⊢
  have hA : ∀ q : Nat, s.heap.size ≤ q → A q := fun q h => by rw [← hAe]; exact Or.inr h
  have hS : va_S A s.heap s.heap [] := va_S.rf
  have hP : va_P (dC, dI) vwCl (m_ws h cI n σ) s.heap := hP
  have hl := lv_entry ([.ref (h 0), .int a, .int ct, .int md]) (n := 8) (Nat.le_of_ble_eq_true rfl)
  rw [lg_entry_eq]
  generalize (lg_sl ([.ref (h 0), .int a, .int ct, .int md]) ++ List.replicate (8 - (lg_sl ([.ref (h 0), .int a, .int ct, .int md])).length) Slot.unset).toArray = ls at hl ⊢
  have hl : lv_has ls 8 [(0, .ref (h 0)), (1, .int a), (2, .int ct), (3, .int md)] := hl
  have key_l1 : ∀ (f j : Nat) (v : Int64) (i : Int32) (τ : MS) (H : Heap) (locs : List Loc) (ls : Array Slot), (i = nI j - 1) → (j ≤ 4) → (j + 1 ≤ f) → (∃ K : Nat, K ≤ 4 ∧ j ≤ K ∧ ct = nI K) → (∀ q : Nat, q < 4 → nI q < ct → vp_in (m_li τ q) 2048) → m_read n σ a ct md = m_read_l1 n a ct md f v i τ → va_P (dC, dI) vwCl (m_ws h cI n τ) H → va_D A (m_ws h cI n τ) → va_S A s.heap H locs → lv_has ls 8 [(7, .int i), (5, .long v), (0, .ref (h 0)), (1, .int a), (2, .int ct), (3, .int md)] → W p l e (headSpec wsX1_read ({ frames := 6, cells := 0, slots := 0, locals := 142 })).room s m ([.ref (h 0), .int a, .int ct, .int md] : List Value).toArray below meth c H locs 0 0 (MQ below (q_m_read dC dI h cI n σ a ct md A) ([.ref (h 0), .int a, .int ct, .int md] : List Value).toArray s 0 0 A) (F0 m 41 ls []) := by
    intro f
    induction f with
    | zero => intro j v i τ H locs ls ei hj hf hc hq; exact absurd hf (by omega)
    | succ f ih =>
      intro j v i τ H locs ls ei hj hf hc hq hm hP hD hS hl
      refine lv_iload hx hb dX1_read_41 (lv_at hl 0 rfl) ?_
      refine lv_if_lt (tgt := 74) hx hb dX1_read_43 (by decide) (fun c_101 => ?_) (fun c_101 => ?_)
      · refine lv_lload hx hb dX1_read_74 (lv_at hl 1 rfl) ?_
        exact W.lret (v := v) hx hb hr (fun t ht hW => ⟨⟨v, τ, rfl, hm.trans ((if_pos c_101).trans rfl), by rw [ht]; exact hP, va_K.moved hW.alike hK, hD⟩, hS.F ht⟩) hS.2.2 dX1_read_76
      · have hj1 : 0 < j := m_jpos ei c_101
        refine lv_lload hx hb dX1_read_46 (lv_at hl 1 rfl) ?_
        refine lv_ldc2 (v := 256) hx hb hown (hts _ bX1_20) dX1_read_48 ?_
        refine lv_lmul hx hb dX1_read_51 ?_
        refine lv_aload_n hx hb dX1_read_52 rfl (lv_at hl 2 rfl) ?_
        refine va_get (D := (dC, dI)) (ci := 1) (v := .ref (h 1)) (C := RX1) (T := TX1) (N := 14) hx hb hts inbX1 hown hK hP 0 rfl rfl 0 (by decide) (hts _ bX1_0) (fun _ h9 => h9) rfl dX1_read_53 ?_
        refine lv_aload_n hx hb dX1_read_56 rfl (lv_at hl 2 rfl) ?_
        refine va_get (D := (dC, dI)) (ci := 1) (v := .ref (h 9)) (C := RX1) (T := TX1) (N := 14) hx hb hts inbX1 hown hK hP 0 rfl rfl 10 (by decide) (hts _ bX1_10) (fun _ h9 => h9) rfl dX1_read_57 ?_
        refine lv_iload hx hb dX1_read_60 (lv_at hl 0 rfl) ?_
        refine va_iald hx hb hK hP 9 0 rfl rfl (m_jix ei hj1 hj) dX1_read_62 ?_
        refine va_iald hx hb hK hP 1 0 rfl rfl (m_jat ei hj1 hj hc hq) dX1_read_63 ?_
        refine lv_i2l (v := (((m_mem τ ((m_li τ (i).toNatClampNeg)).toNatClampNeg)).toInt64)) hx hb dX1_read_64 rfl ?_
        refine lv_ladd hx hb dX1_read_65 ?_
        refine lv_lstore (lv' := [(5, .long ((v * 256) + (((m_mem τ ((m_li τ (i).toNatClampNeg)).toNatClampNeg)).toInt64))), (7, .int i), (0, .ref (h 0)), (1, .int a), (2, .int ct), (3, .int md)]) hx hb dX1_read_66 hl (by decide) rfl (fun ls hl => ?_)
        refine lv_iinc (v := (i + (-1))) (lv' := [(7, .int (i + (-1))), (5, .long ((v * 256) + (((m_mem τ ((m_li τ (i).toNatClampNeg)).toNatClampNeg)).toInt64))), (0, .ref (h 0)), (1, .int a), (2, .int ct), (3, .int md)]) hx hb dX1_read_68 hl (k := 1) rfl rfl (by decide) rfl (fun ls hl => ?_)
        refine lv_goto (tgt := 41) hx hb dX1_read_71 (by decide) ?_
        exact ih (j - 1) ((v * 256) + (((m_mem τ ((m_li τ (i).toNatClampNeg)).toNatClampNeg)).toInt64)) (i + (-1)) τ _ _ _ (m_dec ei hj1) (by omega) (by omega) (m_decK hc) hq (hm.trans ((if_neg c_101).trans rfl)) hP hD hS (lv_sub hl [0, 1, 2, 3, 4, 5] rfl)
  refine lv_iload_n hx hb dX1_read_0 rfl (lv_at hl 2 rfl) ?_
  refine vp_callSi (W.runS (As := [.int ct]) (rest := []) ⟨hx, hb, hml, hown, hts⟩ (c_m_isSize l ct ) (va_cwS 1 hts gX1_X1_isSize rfl rfl rfl (by decide +kernel) ⟨Nat.le_of_ble_eq_true rfl, Nat.le_of_ble_eq_true rfl⟩) (fs_pre) rfl rfl hl.1 rfl (lv_room (Nat.le_of_ble_eq_true rfl)) dX1_read_1 ⟨Nat.zero_le _, Nat.zero_le _⟩) (fun r er => ?_)
  subst er
  refine lv_if_ne (tgt := 11) hx hb dX1_read_4 (by decide) (fun c_1 => ?_) (fun c_1 => ?_)
  · refine lv_aload_n hx hb dX1_read_11 rfl (lv_at hl 0 rfl) ?_
    refine lv_iload_n hx hb dX1_read_12 rfl (lv_at hl 1 rfl) ?_
    refine lv_ldc (v := 65535) hx hb hown (hts _ bX1_16) dX1_read_13 ?_
    refine lv_iand hx hb dX1_read_15 ?_
    refine lv_iload_n hx hb dX1_read_16 rfl (lv_at hl 2 rfl) ?_
    refine lv_iload_n hx hb dX1_read_17 rfl (lv_at hl 3 rfl) ?_
    refine lv_iconst (v := 0) hx hb dX1_read_18 (by decide) ?_
    refine m_calli (f := (m_reach n σ (a &&& 65535) ct md 0)) (va_runV (C := RX1) (As := [.int (a &&& 65535), .int ct, .int md, .int 0]) (rest := []) ⟨hx, hb, hml, hown, hts⟩ (c_m_reach l dC dI h cI n _ σ (a &&& 65535) ct md 0 hn hI (m_cnt4 c_1)) (cwV 4 hts gX1_X1_reach rfl rfl rfl (by decide +kernel) ⟨Nat.le_of_ble_eq_true rfl, Nat.le_of_ble_eq_true rfl⟩) (m_preM hK hP hD) rfl rfl hl.1 rfl (lv_room (Nat.le_of_ble_eq_true rfl)) dX1_read_19 ⟨Nat.zero_le _, Nat.zero_le _⟩) hP hD hS hA (fun r_4 t_2 H locs e_3 hP hD hS => ?_)
    refine lv_istore (lv' := [(4, .int r_4), (0, .ref (h 0)), (1, .int a), (2, .int ct), (3, .int md)]) hx hb dX1_read_22 hl (by decide) rfl (fun ls hl => ?_)
    refine lv_iload hx hb dX1_read_24 (lv_at hl 0 rfl) ?_
    refine lv_if_ge (tgt := 33) hx hb dX1_read_26 (by decide) (fun c_5 => ?_) (fun c_5 => ?_)
    · refine lv_lconst (v := 0) hx hb dX1_read_33 (by decide) ?_
      refine lv_lstore (lv' := [(5, .long 0), (4, .int r_4), (0, .ref (h 0)), (1, .int a), (2, .int ct), (3, .int md)]) hx hb dX1_read_34 hl (by decide) rfl (fun ls hl => ?_)
      refine lv_iload_n hx hb dX1_read_36 rfl (lv_at hl 4 rfl) ?_
      refine lv_iconst (v := 1) hx hb dX1_read_37 (by decide) ?_
      refine lv_isub hx hb dX1_read_38 ?_
      refine lv_istore (lv' := [(7, .int (ct - 1)), (5, .long 0), (4, .int r_4), (0, .ref (h 0)), (1, .int a), (2, .int ct), (3, .int md)]) hx hb dX1_read_39 hl (by decide) rfl (fun ls hl => ?_)
      exact key_l1 5 ct.toNatClampNeg 0 (ct - 1) t_2 _ _ _ (m_K_e c_1) (m_K_4 c_1) (by have := m_K_4 c_1; omega) (m_K_c c_1) (m_re_in hn c_1 e_3 c_5) ((if_neg c_1).trans ((kb_eq e_3).trans ((if_pos c_5).trans rfl))) hP hD hS (lv_sub hl [0, 1, 3, 4, 5, 6] rfl)
    · refine lv_iload hx hb dX1_read_29 (lv_at hl 0 rfl) ?_
      refine lv_i2l (v := ((r_4).toInt64)) hx hb dX1_read_31 rfl ?_
      exact W.lret (v := ((r_4).toInt64)) hx hb hr (fun t ht hW => ⟨⟨((r_4).toInt64), t_2, rfl, (if_neg c_1).trans ((kb_eq e_3).trans ((if_neg c_5).trans rfl)), by rw [ht]; exact hP, va_K.moved hW.alike hK, hD⟩, hS.F ht⟩) hS.2.2 dX1_read_32
  · refine lv_ldc2 (v := (-101)) hx hb hown (hts _ bX1_18) dX1_read_7 ?_
    exact W.lret (v := (-101)) hx hb hr (fun t ht hW => ⟨⟨(-101), σ, rfl, (if_pos c_1).trans rfl, by rw [ht]; exact hP, va_K.moved hW.alike hK, hD⟩, hS.F ht⟩) hS.2.2 dX1_read_10
set_option maxHeartbeats 4000000 in
set_option maxRecDepth 100000 in
theorem c_m_write (l : Launch) (dC : Nat → ClassId) (dI : Nat → Nat → Nat) (h : Nat → Nat) (cI : ClassId) (n : Nat) (sz : Nat) (σ : MS) (a : Int32) (ct : Int32) (v : Int32) (md : Int32) (hn : n ≤ 2048) (hI : m_Inv n σ) : Met l yX1_write wsX1_write ({ frames := 6, cells := 0, slots := 0, locals := 142 }) (va_Pc [.ref (h 0), .int a, .int ct, .int v, .int md] (m_BM dC dI h cI n sz σ)) (q_m_write dC dI h cI n σ a ct v md (va_A (m_ws h cI n σ) sz)) 0 0 (va_A (m_ws h cI n σ) sz) := by
  refine Met.ofW (cc := cX1_write) (maxL := 7) (ret := (some .int)) (by decide) rfl ?_
  intro p e s m args below meth c s₁ B hml hv
  obtain ⟨rfl, hsz, hP, hK, hD0⟩ := hv
  have hx := B.exec
  have hb := B.bytes
  have hr := B.returns
  have hts : ∀ w ∈ bX1, w.before _ s = true := fun w h => atoms_spec (ws := wsX1_write) B.pre w (List.mem_cons_of_mem _ h)
  have hown : s.vm.findClass RX1 = some m.cls := findClass_of_methodNamed B.named
  have hlocks := B.notSynchronized
  subst hsz
  have hD := hD0.self (sz := s.heap.size)
  generalize hAe : va_A (m_ws h cI n σ) s.heap.size = A at hD ⊢
  have hA : ∀ q : Nat, s.heap.size ≤ q → A q := fun q h => by rw [← hAe]; exact Or.inr h
  have hS : va_S A s.heap s.heap [] := va_S.rf
  have hP : va_P (dC, dI) vwCl (m_ws h cI n σ) s.heap := hP
  have hl := lv_entry ([.ref (h 0), .int a, .int ct, .int v, .int md]) (n := 7) (Nat.le_of_ble_eq_true rfl)
  rw [lg_entry_eq]
  generalize (lg_sl ([.ref (h 0), .int a, .int ct, .int v, .int md]) ++ List.replicate (7 - (lg_sl ([.ref (h 0), .int a, .int ct, .int v, .int md])).length) Slot.unset).toArray = ls at hl ⊢
  have hl : lv_has ls 7 [(0, .ref (h 0)), (1, .int a), (2, .int ct), (3, .int v), (4, .int md)] := hl
  have key_l1 : ∀ (f j : Nat) (i : Int32) (τ : MS) (H : Heap) (locs : List Loc) (ls : Array Slot), (i = nI j) → (j ≤ 4) → (5 ≤ j + f) → (∃ K : Nat, K ≤ 4 ∧ ct = nI K) → (∀ q : Nat, q < 4 → nI q < ct → vp_in (m_li τ q) 2048) → m_write n σ a ct v md = m_write_l1 n a ct v md f i τ → va_P (dC, dI) vwCl (m_ws h cI n τ) H → va_D A (m_ws h cI n τ) → va_S A s.heap H locs → lv_has ls 7 [(6, .int i), (0, .ref (h 0)), (1, .int a), (2, .int ct), (3, .int v), (4, .int md)] → W p l e (headSpec wsX1_write ({ frames := 6, cells := 0, slots := 0, locals := 142 })).room s m ([.ref (h 0), .int a, .int ct, .int v, .int md] : List Value).toArray below meth c H locs 0 0 (MQ below (q_m_write dC dI h cI n σ a ct v md A) ([.ref (h 0), .int a, .int ct, .int v, .int md] : List Value).toArray s 0 0 A) (F0 m 35 ls []) := by
    intro f
    induction f with
    | zero => intro j i τ H locs ls ej hj hf hc hq; exact absurd hf (by omega)
    | succ f ih =>
      intro j i τ H locs ls ej hj hf hc hq hm hP hD hS hl
      refine lv_iload hx hb dX1_write_35 (lv_at hl 0 rfl) ?_
      refine lv_iload_n hx hb dX1_write_37 rfl (lv_at hl 3 rfl) ?_
      refine lv_icmp_ge (tgt := 70) hx hb dX1_write_38 (by decide) (fun c_101 => ?_) (fun c_101 => ?_)
      · refine lv_iconst (v := 0) hx hb dX1_write_70 (by decide) ?_
        exact W.iret (v := 0) hx hb hr (fun t ht hW => ⟨⟨0, τ, rfl, hm.trans ((if_pos c_101).trans rfl), by rw [ht]; exact hP, va_K.moved hW.alike hK, hD⟩, hS.F ht⟩) hS.2.2 dX1_write_71
      · have hlt : j < 4 := x_ltK hc hj ej (by omega) c_101
        refine lv_aload_n hx hb dX1_write_41 rfl (lv_at hl 1 rfl) ?_
        refine va_get (D := (dC, dI)) (ci := 1) (v := .ref (h 1)) (C := RX1) (T := TX1) (N := 14) hx hb hts inbX1 hown hK hP 0 rfl rfl 0 (by decide) (hts _ bX1_0) (fun _ h9 => h9) rfl dX1_write_42 ?_
        refine lv_aload_n hx hb dX1_write_45 rfl (lv_at hl 1 rfl) ?_
        refine va_get (D := (dC, dI)) (ci := 1) (v := .ref (h 9)) (C := RX1) (T := TX1) (N := 14) hx hb hts inbX1 hown hK hP 0 rfl rfl 10 (by decide) (hts _ bX1_10) (fun _ h9 => h9) rfl dX1_write_46 ?_
        refine lv_iload hx hb dX1_write_49 (lv_at hl 0 rfl) ?_
        refine va_iald hx hb hK hP 9 0 rfl rfl (by rw [ej]; exact vp_in_nI hlt (by omega)) dX1_write_51 ?_
        refine lv_iload_n hx hb dX1_write_52 rfl (lv_at hl 4 rfl) ?_
        refine lv_bipush (v := 8) hx hb dX1_write_53 (by decide) ?_
        refine lv_iload hx hb dX1_write_55 (lv_at hl 0 rfl) ?_
        refine lv_imul hx hb dX1_write_57 ?_
        refine lv_ishr hx hb dX1_write_58 ?_
        refine lv_sipush (v := 255) hx hb dX1_write_59 (by decide) ?_
        refine lv_iand hx hb dX1_write_62 ?_
        refine va_iast hx hb hK hP hD hS 1 0 rfl rfl (x_plat ej hlt hq c_101) dX1_write_63 (fun H locs hP hD hS => ?_)
        have hP := m_pMem hP
        have hD := m_dMem hD
        refine lv_iinc (v := (i + 1)) (lv' := [(6, .int (i + 1)), (0, .ref (h 0)), (1, .int a), (2, .int ct), (3, .int v), (4, .int md)]) hx hb dX1_write_64 hl (k := 0) rfl rfl (by decide) rfl (fun ls hl => ?_)
        refine lv_goto (tgt := 35) hx hb dX1_write_67 (by decide) ?_
        exact ih (j + 1) (i + 1) (m_sMem τ (upd (m_mem τ) (((m_li τ (i).toNatClampNeg)).toNatClampNeg) ((v >>> (((8 : Int32) * i) &&& 31)) &&& 255))) _ _ _ (by rw [ej]; exact nI_1 j) (by omega) (by omega) hc hq (hm.trans ((if_neg c_101).trans rfl)) hP hD hS (lv_sub hl [0, 1, 2, 3, 4, 5] rfl)
  refine lv_iload_n hx hb dX1_write_0 rfl (lv_at hl 2 rfl) ?_
  refine vp_callSi (W.runS (As := [.int ct]) (rest := []) ⟨hx, hb, hml, hown, hts⟩ (c_m_isSize l ct ) (va_cwS 1 hts gX1_X1_isSize rfl rfl rfl (by decide +kernel) ⟨Nat.le_of_ble_eq_true rfl, Nat.le_of_ble_eq_true rfl⟩) (fs_pre) rfl rfl hl.1 rfl (lv_room (Nat.le_of_ble_eq_true rfl)) dX1_write_1 ⟨Nat.zero_le _, Nat.zero_le _⟩) (fun r er => ?_)
  subst er
  refine lv_if_ne (tgt := 10) hx hb dX1_write_4 (by decide) (fun c_1 => ?_) (fun c_1 => ?_)
  · refine lv_aload_n hx hb dX1_write_10 rfl (lv_at hl 0 rfl) ?_
    refine lv_iload_n hx hb dX1_write_11 rfl (lv_at hl 1 rfl) ?_
    refine lv_ldc (v := 65535) hx hb hown (hts _ bX1_16) dX1_write_12 ?_
    refine lv_iand hx hb dX1_write_14 ?_
    refine lv_iload_n hx hb dX1_write_15 rfl (lv_at hl 2 rfl) ?_
    refine lv_iload hx hb dX1_write_16 (lv_at hl 4 rfl) ?_
    refine lv_iconst (v := 1) hx hb dX1_write_18 (by decide) ?_
    refine m_calli (f := (m_reach n σ (a &&& 65535) ct md 1)) (va_runV (C := RX1) (As := [.int (a &&& 65535), .int ct, .int md, .int 1]) (rest := []) ⟨hx, hb, hml, hown, hts⟩ (c_m_reach l dC dI h cI n _ σ (a &&& 65535) ct md 1 hn hI (m_cnt4 c_1)) (cwV 4 hts gX1_X1_reach rfl rfl rfl (by decide +kernel) ⟨Nat.le_of_ble_eq_true rfl, Nat.le_of_ble_eq_true rfl⟩) (m_preM hK hP hD) rfl rfl hl.1 rfl (lv_room (Nat.le_of_ble_eq_true rfl)) dX1_write_19 ⟨Nat.zero_le _, Nat.zero_le _⟩) hP hD hS hA (fun r_4 t_2 H locs e_3 hP hD hS => ?_)
    refine lv_istore (lv' := [(5, .int r_4), (0, .ref (h 0)), (1, .int a), (2, .int ct), (3, .int v), (4, .int md)]) hx hb dX1_write_22 hl (by decide) rfl (fun ls hl => ?_)
    refine lv_iload hx hb dX1_write_24 (lv_at hl 0 rfl) ?_
    refine lv_if_ge (tgt := 32) hx hb dX1_write_26 (by decide) (fun c_5 => ?_) (fun c_5 => ?_)
    · refine lv_iconst (v := 0) hx hb dX1_write_32 (by decide) ?_
      refine lv_istore (lv' := [(6, .int 0), (5, .int r_4), (0, .ref (h 0)), (1, .int a), (2, .int ct), (3, .int v), (4, .int md)]) hx hb dX1_write_33 hl (by decide) rfl (fun ls hl => ?_)
      exact key_l1 5 0 0 t_2 _ _ _ nI_0.symm (by omega) (by omega) (m_cnt4 c_1) (m_re_in hn c_1 e_3 c_5) ((if_neg c_1).trans ((kb_eq e_3).trans ((if_pos c_5).trans rfl))) hP hD hS (lv_sub hl [0, 2, 3, 4, 5, 6] rfl)
    · refine lv_iload hx hb dX1_write_29 (lv_at hl 0 rfl) ?_
      exact W.iret (v := r_4) hx hb hr (fun t ht hW => ⟨⟨r_4, t_2, rfl, (if_neg c_1).trans ((kb_eq e_3).trans ((if_neg c_5).trans rfl)), by rw [ht]; exact hP, va_K.moved hW.alike hK, hD⟩, hS.F ht⟩) hS.2.2 dX1_write_31
  · refine lv_bipush (v := (-101)) hx hb dX1_write_7 (by decide) ?_
    exact W.iret (v := (-101)) hx hb hr (fun t ht hW => ⟨⟨(-101), σ, rfl, (if_pos c_1).trans rfl, by rw [ht]; exact hP, va_K.moved hW.alike hK, hD⟩, hS.F ht⟩) hS.2.2 dX1_write_9
set_option maxHeartbeats 4000000 in
set_option maxRecDepth 100000 in
theorem c_m_where (l : Launch) (dC : Nat → ClassId) (dI : Nat → Nat → Nat) (h : Nat → Nat) (cI : ClassId) (n : Nat) (sz : Nat) (σ : MS) (a : Int32) (md : Int32) (b : Int32) (hn : n ≤ 2048) (hI : m_Inv n σ) : Met l yX1_where wsX1_where ({ frames := 5, cells := 0, slots := 0, locals := 115 }) (va_Pc [.ref (h 0), .int a, .int md, .int b] (m_BM dC dI h cI n sz σ)) (q_m_where dC dI h cI n σ a md b (va_A (m_ws h cI n σ) sz)) 0 0 (va_A (m_ws h cI n σ) sz) := by
  refine Met.ofW (cc := cX1_where) (maxL := 5) (ret := (some .int)) (by decide) rfl ?_
  intro p e s m args below meth c s₁ B hml hv
  obtain ⟨rfl, hsz, hP, hK, hD0⟩ := hv
  have hx := B.exec
  have hb := B.bytes
  have hr := B.returns
  have hts : ∀ w ∈ bX1, w.before _ s = true := fun w h => atoms_spec (ws := wsX1_where) B.pre w (List.mem_cons_of_mem _ h)
  have hown : s.vm.findClass RX1 = some m.cls := findClass_of_methodNamed B.named
  have hlocks := B.notSynchronized
  subst hsz
  have hD := hD0.self (sz := s.heap.size)
  generalize hAe : va_A (m_ws h cI n σ) s.heap.size = A at hD ⊢
  have hA : ∀ q : Nat, s.heap.size ≤ q → A q := fun q h => by rw [← hAe]; exact Or.inr h
  have hS : va_S A s.heap s.heap [] := va_S.rf
  have hP : va_P (dC, dI) vwCl (m_ws h cI n σ) s.heap := hP
  have hl := lv_entry ([.ref (h 0), .int a, .int md, .int b]) (n := 5) (Nat.le_of_ble_eq_true rfl)
  rw [lg_entry_eq]
  generalize (lg_sl ([.ref (h 0), .int a, .int md, .int b]) ++ List.replicate (5 - (lg_sl ([.ref (h 0), .int a, .int md, .int b])).length) Slot.unset).toArray = ls at hl ⊢
  have hl : lv_has ls 5 [(0, .ref (h 0)), (1, .int a), (2, .int md), (3, .int b)] := hl
  refine lv_aload_n hx hb dX1_where_0 rfl (lv_at hl 0 rfl) ?_
  refine lv_iload_n hx hb dX1_where_1 rfl (lv_at hl 1 rfl) ?_
  refine lv_ldc (v := 65535) hx hb hown (hts _ bX1_16) dX1_where_2 ?_
  refine lv_iand hx hb dX1_where_4 ?_
  refine lv_iload_n hx hb dX1_where_5 rfl (lv_at hl 2 rfl) ?_
  refine lv_iconst (v := 3) hx hb dX1_where_6 (by decide) ?_
  refine lv_iand hx hb dX1_where_7 ?_
  refine lv_iload_n hx hb dX1_where_8 rfl (lv_at hl 3 rfl) ?_
  refine lv_iconst (v := 0) hx hb dX1_where_9 (by decide) ?_
  refine m_calli (f := (m_translate n σ (a &&& 65535) (md &&& 3) b 0)) (va_runV (C := RX1) (As := [.int (a &&& 65535), .int (md &&& 3), .int b, .int 0]) (rest := []) ⟨hx, hb, hml, hown, hts⟩ (c_m_translate l dC dI h cI n _ σ (a &&& 65535) (md &&& 3) b 0 hn hI (x_mask16 _)) (cwV 4 hts gX1_X1_translate rfl rfl rfl (by decide +kernel) ⟨Nat.le_of_ble_eq_true rfl, Nat.le_of_ble_eq_true rfl⟩) (m_preM hK hP hD) rfl rfl hl.1 rfl (lv_room (Nat.le_of_ble_eq_true rfl)) dX1_where_10 ⟨Nat.zero_le _, Nat.zero_le _⟩) hP hD hS hA (fun r_3 t_1 H locs e_2 hP hD hS => ?_)
  refine lv_istore (lv' := [(4, .int r_3), (0, .ref (h 0)), (1, .int a), (2, .int md), (3, .int b)]) hx hb dX1_where_13 hl (by decide) rfl (fun ls hl => ?_)
  refine lv_iload hx hb dX1_where_15 (lv_at hl 0 rfl) ?_
  refine lv_if_lt (tgt := 34) hx hb dX1_where_17 (by decide) (fun c_4 => ?_) (fun c_4 => ?_)
  · refine lv_iload hx hb dX1_where_34 (lv_at hl 0 rfl) ?_
    exact W.iret (v := r_3) hx hb hr (fun t ht hW => ⟨⟨r_3, t_1, rfl, (kb_eq e_2).trans ((if_pos c_4).trans rfl), by rw [ht]; exact hP, va_K.moved hW.alike hK, hD⟩, hS.F ht⟩) hS.2.2 dX1_where_36
  · refine lv_aload_n hx hb dX1_where_20 rfl (lv_at hl 1 rfl) ?_
    refine lv_iload hx hb dX1_where_21 (lv_at hl 0 rfl) ?_
    refine vp_callSi (W.runV (C := RX1) (As := [.int r_3]) (rest := []) ⟨hx, hb, hml, hown, hts⟩ (c_m_isThere l dC dI h cI n t_1 r_3 ) (cwV 1 hts gX1_X1_isThere rfl rfl rfl (by decide +kernel) ⟨Nat.le_of_ble_eq_true rfl, Nat.le_of_ble_eq_true rfl⟩) (m_preP hK hP) rfl rfl hl.1 rfl (lv_room (Nat.le_of_ble_eq_true rfl)) dX1_where_23 ⟨Nat.zero_le _, Nat.zero_le _⟩) (fun r er => ?_)
    subst er
    refine lv_if_ne (tgt := 34) hx hb dX1_where_26 (by decide) (fun c_5 => ?_) (fun c_5 => ?_)
    · refine lv_iload hx hb dX1_where_34 (lv_at hl 0 rfl) ?_
      exact W.iret (v := r_3) hx hb hr (fun t ht hW => ⟨⟨r_3, t_1, rfl, (kb_eq e_2).trans ((if_neg c_4).trans ((if_neg c_5).trans rfl)), by rw [ht]; exact hP, va_K.moved hW.alike hK, hD⟩, hS.F ht⟩) hS.2.2 dX1_where_36
    · refine lv_bipush (v := (-100)) hx hb dX1_where_29 (by decide) ?_
      refine lv_goto (tgt := 36) hx hb dX1_where_31 (by decide) ?_
      exact W.iret (v := (-100)) hx hb hr (fun t ht hW => ⟨⟨(-100), t_1, rfl, (kb_eq e_2).trans ((if_neg c_4).trans ((if_pos c_5).trans rfl)), by rw [ht]; exact hP, va_K.moved hW.alike hK, hD⟩, hS.F ht⟩) hS.2.2 dX1_where_36
set_option maxHeartbeats 4000000 in
set_option maxRecDepth 100000 in
theorem c_m_may (l : Launch) (dC : Nat → ClassId) (dI : Nat → Nat → Nat) (h : Nat → Nat) (cI : ClassId) (n : Nat) (sz : Nat) (σ : MS) (a : Int32) (md : Int32) (b : Int32) (hn : n ≤ 2048) : Met l yX1_may wsX1_may ({ frames := 4, cells := 0, slots := 0, locals := 89 }) (va_Pc [.ref (h 0), .int a, .int md, .int b] (m_BM dC dI h cI n sz σ)) (q_m_may dC dI h cI n σ a md b (va_A (m_ws h cI n σ) sz)) 0 0 (va_A (m_ws h cI n σ) sz) := by
  refine Met.ofW (cc := cX1_may) (maxL := 5) (ret := (some .int)) (by decide) rfl ?_
  intro p e s m args below meth c s₁ B hml hv
  obtain ⟨rfl, hsz, hP, hK, hD0⟩ := hv
  have hx := B.exec
  have hb := B.bytes
  have hr := B.returns
  have hts : ∀ w ∈ bX1, w.before _ s = true := fun w h => atoms_spec (ws := wsX1_may) B.pre w (List.mem_cons_of_mem _ h)
  have hown : s.vm.findClass RX1 = some m.cls := findClass_of_methodNamed B.named
  have hlocks := B.notSynchronized
  subst hsz
  have hD := hD0.self (sz := s.heap.size)
  generalize hAe : va_A (m_ws h cI n σ) s.heap.size = A at hD ⊢
  have hA : ∀ q : Nat, s.heap.size ≤ q → A q := fun q h => by rw [← hAe]; exact Or.inr h
  have hS : va_S A s.heap s.heap [] := va_S.rf
  have hP : va_P (dC, dI) vwCl (m_ws h cI n σ) s.heap := hP
  have hl := lv_entry ([.ref (h 0), .int a, .int md, .int b]) (n := 5) (Nat.le_of_ble_eq_true rfl)
  rw [lg_entry_eq]
  generalize (lg_sl ([.ref (h 0), .int a, .int md, .int b]) ++ List.replicate (5 - (lg_sl ([.ref (h 0), .int a, .int md, .int b])).length) Slot.unset).toArray = ls at hl ⊢
  have hl : lv_has ls 5 [(0, .ref (h 0)), (1, .int a), (2, .int md), (3, .int b)] := hl
  refine lv_aload_n hx hb dX1_may_0 rfl (lv_at hl 0 rfl) ?_
  refine va_get (D := (dC, dI)) (ci := 1) (v := .int (m_on σ)) (C := RX1) (T := TX1) (N := 14) hx hb hts inbX1 hown hK hP 0 rfl rfl 4 (by decide) (hts _ bX1_4) (fun _ h9 => h9) rfl dX1_may_1 ?_
  refine lv_if_ne (tgt := 9) hx hb dX1_may_4 (by decide) (fun c_1 => ?_) (fun c_1 => ?_)
  · refine lv_aload_n hx hb dX1_may_9 rfl (lv_at hl 0 rfl) ?_
    refine lv_iload_n hx hb dX1_may_10 rfl (lv_at hl 1 rfl) ?_
    refine lv_ldc (v := 65535) hx hb hown (hts _ bX1_16) dX1_may_11 ?_
    refine lv_iand hx hb dX1_may_13 ?_
    refine lv_iconst (v := 0) hx hb dX1_may_14 (by decide) ?_
    refine m_calli (f := (m_look n σ (a &&& 65535) 0)) (va_runV (C := RX1) (As := [.int (a &&& 65535), .int 0]) (rest := []) ⟨hx, hb, hml, hown, hts⟩ (c_m_look l dC dI h cI n _ σ (a &&& 65535) 0 hn) (cwV 2 hts gX1_X1_look rfl rfl rfl (by decide +kernel) ⟨Nat.le_of_ble_eq_true rfl, Nat.le_of_ble_eq_true rfl⟩) (m_preM hK hP hD) rfl rfl hl.1 rfl (lv_room (Nat.le_of_ble_eq_true rfl)) dX1_may_15 ⟨Nat.zero_le _, Nat.zero_le _⟩) hP hD hS hA (fun r_4 t_2 H locs e_3 hP hD hS => ?_)
    refine lv_istore (lv' := [(4, .int r_4), (0, .ref (h 0)), (1, .int a), (2, .int md), (3, .int b)]) hx hb dX1_may_18 hl (by decide) rfl (fun ls hl => ?_)
    refine lv_iload hx hb dX1_may_20 (lv_at hl 0 rfl) ?_
    refine lv_bipush (v := (-100)) hx hb dX1_may_22 (by decide) ?_
    refine lv_icmp_ne (tgt := 30) hx hb dX1_may_24 (by decide) (fun c_5 => ?_) (fun c_5 => ?_)
    · refine lv_iload hx hb dX1_may_30 (lv_at hl 0 rfl) ?_
      refine lv_bipush (v := (-13)) hx hb dX1_may_32 (by decide) ?_
      refine lv_icmp_ne (tgt := 51) hx hb dX1_may_34 (by decide) (fun c_6 => ?_) (fun c_6 => ?_)
      · refine lv_iload hx hb dX1_may_51 (lv_at hl 0 rfl) ?_
        refine lv_if_ne (tgt := 71) hx hb dX1_may_53 (by decide) (fun c_7 => ?_) (fun c_7 => ?_)
        · refine lv_iconst (v := 0) hx hb dX1_may_71 (by decide) ?_
          exact W.iret (v := 0) hx hb hr (fun t ht hW => ⟨⟨0, t_2, rfl, (if_neg c_1).trans ((kb_eq e_3).trans ((if_neg c_5).trans ((if_neg c_6).trans ((if_neg c_7).trans rfl)))), by rw [ht]; exact hP, va_K.moved hW.alike hK, hD⟩, hS.F ht⟩) hS.2.2 dX1_may_72
        · refine lv_aload_n hx hb dX1_may_56 rfl (lv_at hl 1 rfl) ?_
          refine lv_iload_n hx hb dX1_may_57 rfl (lv_at hl 3 rfl) ?_
          refine lv_iconst (v := 3) hx hb dX1_may_58 (by decide) ?_
          refine lv_iand hx hb dX1_may_59 ?_
          refine lv_iload_n hx hb dX1_may_60 rfl (lv_at hl 4 rfl) ?_
          refine vp_callSi (W.runV (C := RX1) (As := [.int (md &&& 3), .int b]) (rest := []) ⟨hx, hb, hml, hown, hts⟩ (c_m_isRight l dC dI h cI n t_2 (md &&& 3) b ) (cwV 2 hts gX1_X1_isRight rfl rfl rfl (by decide +kernel) ⟨Nat.le_of_ble_eq_true rfl, Nat.le_of_ble_eq_true rfl⟩) (m_preP hK hP) rfl rfl hl.1 rfl (lv_room (Nat.le_of_ble_eq_true rfl)) dX1_may_61 ⟨Nat.zero_le _, Nat.zero_le _⟩) (fun r er => ?_)
          subst er
          refine lv_if_eq (tgt := 71) hx hb dX1_may_64 (by decide) (fun c_8 => ?_) (fun c_8 => ?_)
          · refine lv_iconst (v := 0) hx hb dX1_may_71 (by decide) ?_
            exact W.iret (v := 0) hx hb hr (fun t ht hW => ⟨⟨0, t_2, rfl, (if_neg c_1).trans ((kb_eq e_3).trans ((if_neg c_5).trans ((if_neg c_6).trans ((if_pos c_7).trans ((if_pos c_8).trans rfl))))), by rw [ht]; exact hP, va_K.moved hW.alike hK, hD⟩, hS.F ht⟩) hS.2.2 dX1_may_72
          · refine lv_iconst (v := 1) hx hb dX1_may_67 (by decide) ?_
            refine lv_goto (tgt := 72) hx hb dX1_may_68 (by decide) ?_
            exact W.iret (v := 1) hx hb hr (fun t ht hW => ⟨⟨1, t_2, rfl, (if_neg c_1).trans ((kb_eq e_3).trans ((if_neg c_5).trans ((if_neg c_6).trans ((if_pos c_7).trans ((if_neg c_8).trans rfl))))), by rw [ht]; exact hP, va_K.moved hW.alike hK, hD⟩, hS.F ht⟩) hS.2.2 dX1_may_72
      · refine lv_iload_n hx hb dX1_may_37 rfl (lv_at hl 4 rfl) ?_
        refine lv_if_eq (tgt := 48) hx hb dX1_may_38 (by decide) (fun c_9 => ?_) (fun c_9 => ?_)
        · refine lv_iload hx hb dX1_may_48 (lv_at hl 0 rfl) ?_
          exact W.iret (v := r_4) hx hb hr (fun t ht hW => ⟨⟨r_4, t_2, rfl, (if_neg c_1).trans ((kb_eq e_3).trans ((if_neg c_5).trans ((if_pos c_6).trans ((if_pos c_9).trans rfl)))), by rw [ht]; exact hP, va_K.moved hW.alike hK, hD⟩, hS.F ht⟩) hS.2.2 dX1_may_50
        · refine lv_iload hx hb dX1_may_41 (lv_at hl 0 rfl) ?_
          refine lv_iconst (v := 4) hx hb dX1_may_43 (by decide) ?_
          refine lv_isub hx hb dX1_may_44 ?_
          refine lv_goto (tgt := 50) hx hb dX1_may_45 (by decide) ?_
          exact W.iret (v := (r_4 - 4)) hx hb hr (fun t ht hW => ⟨⟨(r_4 - 4), t_2, rfl, (if_neg c_1).trans ((kb_eq e_3).trans ((if_neg c_5).trans ((if_pos c_6).trans ((if_neg c_9).trans rfl)))), by rw [ht]; exact hP, va_K.moved hW.alike hK, hD⟩, hS.F ht⟩) hS.2.2 dX1_may_50
    · refine lv_bipush (v := (-100)) hx hb dX1_may_27 (by decide) ?_
      exact W.iret (v := (-100)) hx hb hr (fun t ht hW => ⟨⟨(-100), t_2, rfl, (if_neg c_1).trans ((kb_eq e_3).trans ((if_pos c_5).trans rfl)), by rw [ht]; exact hP, va_K.moved hW.alike hK, hD⟩, hS.F ht⟩) hS.2.2 dX1_may_29
  · refine lv_iconst (v := 1) hx hb dX1_may_7 (by decide) ?_
    exact W.iret (v := 1) hx hb hr (fun t ht hW => ⟨⟨1, σ, rfl, (if_pos c_1).trans rfl, by rw [ht]; exact hP, va_K.moved hW.alike hK, hD⟩, hS.F ht⟩) hS.2.2 dX1_may_8
end
section
def m_mu0 : MS := (fun _ => 0, fun _ => 0, fun _ => 0, fun _ => 0, fun _ => 0, fun _ => 0, fun _ => 0, fun _ => 0, fun _ => 0, 0, -1, 0, 0)
def m_ini_l1 (n : Nat) (p0 : Int32) : Nat → Int32 → MS → MS
  | 0, _, τ => τ
  | f + 1, i, τ =>
    if (16 : Int32) ≤ i then
      kv (m_code n τ 2 1 1) (fun t_102 =>
      kv (m_code n t_102 3 0 1) (fun t_104 =>
      kv (m_code n t_104 4 4 4) (fun t_106 =>
      kv (m_code n t_106 5 2 2) (fun t_108 =>
      kv (m_code n t_108 6 1 2) (fun t_110 =>
      kv (m_code n t_110 7 0 2) (fun t_112 =>
      kv (m_code n t_112 8 3 3) (fun t_114 =>
      kv (m_code n t_114 9 2 3) (fun t_116 =>
      kv (m_code n t_116 10 1 3) (fun t_118 =>
      kv (m_code n t_118 11 0 3) (fun t_120 =>
      kv (m_code n t_120 12 3 4) (fun t_122 =>
      kv (m_code n t_122 13 2 4) (fun t_124 =>
      kv (m_code n t_124 14 1 4) (fun t_126 =>
      kv (m_code n t_126 15 0 4) (fun t_128 =>
      t_128))))))))))))))
    else
      m_ini_l1 n p0 f (i + 1) (m_sPg τ (upd (m_pg τ) ((i).toNatClampNeg) (-1)))
def m_ini (n : Nat) (m_mu : MS) (p0 : Int32) : MS :=
  m_ini_l1 n p0 17 0 m_mu
abbrev m_w0 (h0 : Nat) : va_W := [(h0, .inr (1, [.null, .int 0, .null, .null, .int 0, .null, .null, .null, .null, .null, .null, .int 0, .int 0, .int 0]))]
abbrev m_atI (dC : Nat → ClassId) (dI : Nat → Nat → Nat) (n : Nat) (A : Nat → Prop) (u : (Nat → Nat) × ClassId) (t : State) : Prop := va_P (dC, dI) vwCl (m_ws u.1 u.2 n (m_ini n m_mu0 0)) t.heap ∧ va_K (dC, dI) vwCl (m_tys u.2) t ∧ va_D A (m_ws u.1 u.2 n (m_ini n m_mu0 0))
theorem m_ini_p {n : Nat} {μ : MS} (p q : Int32) : m_ini n μ p = m_ini n μ q := by
  have h : ∀ (f : Nat) (i : Int32) (τ : MS), m_ini_l1 n p f i τ = m_ini_l1 n q f i τ := by
    intro f
    induction f with
    | zero => intro i τ; rfl
    | succ f ih =>
      intro i τ
      show (if _ then _ else _) = (if _ then _ else _)
      rw [ih]
  exact h _ _ _
set_option maxHeartbeats 8000000 in
set_option maxRecDepth 100000 in
theorem c_m_init (l : Launch) (dC : Nat → ClassId) (dI : Nat → Nat → Nat) (h0 : Nat) (sz : Nat) (p0 : Int32) : Met l yX1_init wsX1_init ({ frames := 1, cells := 9, slots := 2138, locals := 23 }) (va_Pc [.ref h0, .int p0] (fun U => U.heap.size = sz ∧ va_P (dC, dI) vwCl (m_w0 h0) U.heap ∧ va_K (dC, dI) vwCl [] U ∧ va_D (fun _ => True) (m_w0 h0))) (va_Qv (fun u : (Nat → Nat) × ClassId => u.1 0 = h0) (m_atI dC dI (x_n p0) (va_A (m_w0 h0) sz)) (va_A (m_w0 h0) sz)) 9 2138 (va_A (m_w0 h0) sz) := by
  refine Met.ofW (cc := cX1_init) (maxL := 3) (ret := none) (by decide) rfl ?_
  intro p e s m args below meth c s₁ B hml hv
  obtain ⟨rfl, hsz, hP, hK, hD0⟩ := hv
  have hx := B.exec
  have hb := B.bytes
  have hr := B.returns
  have hts : ∀ w ∈ bX1, w.before _ s = true := fun w h => atoms_spec (ws := wsX1_init) B.pre w (List.mem_cons_of_mem _ h)
  have hown : s.vm.findClass RX1 = some m.cls := findClass_of_methodNamed B.named
  have hlocks := B.notSynchronized
  have hin : meth.name = "<init>" := (name_of_methodNamed B.named B.method).1
  subst hsz
  have hD := hD0.self (sz := s.heap.size)
  generalize hAe : va_A (m_w0 h0) s.heap.size = A at hD ⊢
  have hA : ∀ q : Nat, s.heap.size ≤ q → A q := fun q h => by rw [← hAe]; exact Or.inr h
  have hS : va_S A s.heap s.heap [] := va_S.rf
  have hP : va_P (dC, dI) vwCl (m_w0 h0) s.heap := hP
  have tail : ∀ (h : Nat → Nat) (cI : ClassId) (n : Nat) (H : Heap) (locs : List Loc) (ls : Array Slot), h 0 = h0 → n = x_n p0 → va_K (dC, dI) vwCl (m_tys cI) s → va_P (dC, dI) vwCl (m_ws h cI n m_mu0) H → va_D A (m_ws h cI n m_mu0) → va_S A s.heap H locs → lv_has ls 3 [(0, .ref (h 0)), (1, .int p0)] → W p l e (headSpec wsX1_init ({ frames := 1, cells := 9, slots := 2138, locals := 23 })).room s m ([.ref h0, .int p0] : List Value).toArray below meth c H locs 9 2138 (MQ below (va_Qv (fun u : (Nat → Nat) × ClassId => u.1 0 = h0) (m_atI dC dI (x_n p0) A) A) ([.ref h0, .int p0] : List Value).toArray s 9 2138 A) (F0 m 104 ls []) := by
    intro h cI n H locs ls eh en hK hP hD hS hl
    have key : ∀ (f j : Nat) (i : Int32) (τ : MS) (H : Heap) (locs : List Loc) (ls : Array Slot), i = nI j → j ≤ 16 → 17 ≤ j + f → m_ini n m_mu0 p0 = m_ini_l1 n p0 f i τ → va_P (dC, dI) vwCl (m_ws h cI n τ) H → va_D A (m_ws h cI n τ) → va_S A s.heap H locs → lv_has ls 3 [(2, .int i), (0, .ref (h 0)), (1, .int p0)] → W p l e (headSpec wsX1_init ({ frames := 1, cells := 9, slots := 2138, locals := 23 })).room s m ([.ref h0, .int p0] : List Value).toArray below meth c H locs 9 2138 (MQ below (va_Qv (fun u : (Nat → Nat) × ClassId => u.1 0 = h0) (m_atI dC dI (x_n p0) A) A) ([.ref h0, .int p0] : List Value).toArray s 9 2138 A) (F0 m 106 ls []) := by
      intro f
      induction f with
      | zero => intro j i τ H locs ls ej hj hf; exact absurd hf (by omega)
      | succ f ih =>
        intro j i τ H locs ls ej hj hf hm hP hD hS hl
        refine lv_iload_n hx hb dX1_init_106 rfl (lv_at hl 0 rfl) ?_
        refine lv_bipush (v := 16) hx hb dX1_init_107 (by decide) ?_
        refine lv_icmp_ge (tgt := 125) hx hb dX1_init_109 (by decide) (fun c_101 => ?_) (fun c_101 => ?_)
        · refine lv_aload_n hx hb dX1_init_125 rfl (lv_at hl 1 rfl) ?_
          refine lv_iconst (v := 2) hx hb dX1_init_126 (by decide) ?_
          refine lv_iconst (v := 1) hx hb dX1_init_127 (by decide) ?_
          refine lv_iconst (v := 1) hx hb dX1_init_128 (by decide) ?_
          refine m_callv (f := (m_code n τ 2 1 1)) (va_runV (C := RX1) (As := [.int 2, .int 1, .int 1]) (rest := []) ⟨hx, hb, hml, hown, hts⟩ (c_m_code l dC dI h cI n _ τ 2 1 1 (vp_in_nI (n := 2) (by decide) (by decide))) (cwV 3 hts gX1_X1_code rfl rfl rfl (by decide +kernel) ⟨Nat.le_of_ble_eq_true rfl, Nat.le_of_ble_eq_true rfl⟩) (m_preM hK hP hD) rfl rfl hl.1 rfl (lv_room (Nat.le_of_ble_eq_true rfl)) dX1_init_129 ⟨Nat.le_of_ble_eq_true rfl, Nat.le_of_ble_eq_true rfl⟩) hP hD hS hA (fun t_102 H locs e_103 hP hD hS => ?_)
          refine lv_aload_n hx hb dX1_init_132 rfl (lv_at hl 1 rfl) ?_
          refine lv_iconst (v := 3) hx hb dX1_init_133 (by decide) ?_
          refine lv_iconst (v := 0) hx hb dX1_init_134 (by decide) ?_
          refine lv_iconst (v := 1) hx hb dX1_init_135 (by decide) ?_
          refine m_callv (f := (m_code n t_102 3 0 1)) (va_runV (C := RX1) (As := [.int 3, .int 0, .int 1]) (rest := []) ⟨hx, hb, hml, hown, hts⟩ (c_m_code l dC dI h cI n _ t_102 3 0 1 (vp_in_nI (n := 3) (by decide) (by decide))) (cwV 3 hts gX1_X1_code rfl rfl rfl (by decide +kernel) ⟨Nat.le_of_ble_eq_true rfl, Nat.le_of_ble_eq_true rfl⟩) (m_preM hK hP hD) rfl rfl hl.1 rfl (lv_room (Nat.le_of_ble_eq_true rfl)) dX1_init_136 ⟨Nat.le_of_ble_eq_true rfl, Nat.le_of_ble_eq_true rfl⟩) hP hD hS hA (fun t_104 H locs e_105 hP hD hS => ?_)
          refine lv_aload_n hx hb dX1_init_139 rfl (lv_at hl 1 rfl) ?_
          refine lv_iconst (v := 4) hx hb dX1_init_140 (by decide) ?_
          refine lv_iconst (v := 4) hx hb dX1_init_141 (by decide) ?_
          refine lv_iconst (v := 4) hx hb dX1_init_142 (by decide) ?_
          refine m_callv (f := (m_code n t_104 4 4 4)) (va_runV (C := RX1) (As := [.int 4, .int 4, .int 4]) (rest := []) ⟨hx, hb, hml, hown, hts⟩ (c_m_code l dC dI h cI n _ t_104 4 4 4 (vp_in_nI (n := 4) (by decide) (by decide))) (cwV 3 hts gX1_X1_code rfl rfl rfl (by decide +kernel) ⟨Nat.le_of_ble_eq_true rfl, Nat.le_of_ble_eq_true rfl⟩) (m_preM hK hP hD) rfl rfl hl.1 rfl (lv_room (Nat.le_of_ble_eq_true rfl)) dX1_init_143 ⟨Nat.le_of_ble_eq_true rfl, Nat.le_of_ble_eq_true rfl⟩) hP hD hS hA (fun t_106 H locs e_107 hP hD hS => ?_)
          refine lv_aload_n hx hb dX1_init_146 rfl (lv_at hl 1 rfl) ?_
          refine lv_iconst (v := 5) hx hb dX1_init_147 (by decide) ?_
          refine lv_iconst (v := 2) hx hb dX1_init_148 (by decide) ?_
          refine lv_iconst (v := 2) hx hb dX1_init_149 (by decide) ?_
          refine m_callv (f := (m_code n t_106 5 2 2)) (va_runV (C := RX1) (As := [.int 5, .int 2, .int 2]) (rest := []) ⟨hx, hb, hml, hown, hts⟩ (c_m_code l dC dI h cI n _ t_106 5 2 2 (vp_in_nI (n := 5) (by decide) (by decide))) (cwV 3 hts gX1_X1_code rfl rfl rfl (by decide +kernel) ⟨Nat.le_of_ble_eq_true rfl, Nat.le_of_ble_eq_true rfl⟩) (m_preM hK hP hD) rfl rfl hl.1 rfl (lv_room (Nat.le_of_ble_eq_true rfl)) dX1_init_150 ⟨Nat.le_of_ble_eq_true rfl, Nat.le_of_ble_eq_true rfl⟩) hP hD hS hA (fun t_108 H locs e_109 hP hD hS => ?_)
          refine lv_aload_n hx hb dX1_init_153 rfl (lv_at hl 1 rfl) ?_
          refine lv_bipush (v := 6) hx hb dX1_init_154 (by decide) ?_
          refine lv_iconst (v := 1) hx hb dX1_init_156 (by decide) ?_
          refine lv_iconst (v := 2) hx hb dX1_init_157 (by decide) ?_
          refine m_callv (f := (m_code n t_108 6 1 2)) (va_runV (C := RX1) (As := [.int 6, .int 1, .int 2]) (rest := []) ⟨hx, hb, hml, hown, hts⟩ (c_m_code l dC dI h cI n _ t_108 6 1 2 (vp_in_nI (n := 6) (by decide) (by decide))) (cwV 3 hts gX1_X1_code rfl rfl rfl (by decide +kernel) ⟨Nat.le_of_ble_eq_true rfl, Nat.le_of_ble_eq_true rfl⟩) (m_preM hK hP hD) rfl rfl hl.1 rfl (lv_room (Nat.le_of_ble_eq_true rfl)) dX1_init_158 ⟨Nat.le_of_ble_eq_true rfl, Nat.le_of_ble_eq_true rfl⟩) hP hD hS hA (fun t_110 H locs e_111 hP hD hS => ?_)
          refine lv_aload_n hx hb dX1_init_161 rfl (lv_at hl 1 rfl) ?_
          refine lv_bipush (v := 7) hx hb dX1_init_162 (by decide) ?_
          refine lv_iconst (v := 0) hx hb dX1_init_164 (by decide) ?_
          refine lv_iconst (v := 2) hx hb dX1_init_165 (by decide) ?_
          refine m_callv (f := (m_code n t_110 7 0 2)) (va_runV (C := RX1) (As := [.int 7, .int 0, .int 2]) (rest := []) ⟨hx, hb, hml, hown, hts⟩ (c_m_code l dC dI h cI n _ t_110 7 0 2 (vp_in_nI (n := 7) (by decide) (by decide))) (cwV 3 hts gX1_X1_code rfl rfl rfl (by decide +kernel) ⟨Nat.le_of_ble_eq_true rfl, Nat.le_of_ble_eq_true rfl⟩) (m_preM hK hP hD) rfl rfl hl.1 rfl (lv_room (Nat.le_of_ble_eq_true rfl)) dX1_init_166 ⟨Nat.le_of_ble_eq_true rfl, Nat.le_of_ble_eq_true rfl⟩) hP hD hS hA (fun t_112 H locs e_113 hP hD hS => ?_)
          refine lv_aload_n hx hb dX1_init_169 rfl (lv_at hl 1 rfl) ?_
          refine lv_bipush (v := 8) hx hb dX1_init_170 (by decide) ?_
          refine lv_iconst (v := 3) hx hb dX1_init_172 (by decide) ?_
          refine lv_iconst (v := 3) hx hb dX1_init_173 (by decide) ?_
          refine m_callv (f := (m_code n t_112 8 3 3)) (va_runV (C := RX1) (As := [.int 8, .int 3, .int 3]) (rest := []) ⟨hx, hb, hml, hown, hts⟩ (c_m_code l dC dI h cI n _ t_112 8 3 3 (vp_in_nI (n := 8) (by decide) (by decide))) (cwV 3 hts gX1_X1_code rfl rfl rfl (by decide +kernel) ⟨Nat.le_of_ble_eq_true rfl, Nat.le_of_ble_eq_true rfl⟩) (m_preM hK hP hD) rfl rfl hl.1 rfl (lv_room (Nat.le_of_ble_eq_true rfl)) dX1_init_174 ⟨Nat.le_of_ble_eq_true rfl, Nat.le_of_ble_eq_true rfl⟩) hP hD hS hA (fun t_114 H locs e_115 hP hD hS => ?_)
          refine lv_aload_n hx hb dX1_init_177 rfl (lv_at hl 1 rfl) ?_
          refine lv_bipush (v := 9) hx hb dX1_init_178 (by decide) ?_
          refine lv_iconst (v := 2) hx hb dX1_init_180 (by decide) ?_
          refine lv_iconst (v := 3) hx hb dX1_init_181 (by decide) ?_
          refine m_callv (f := (m_code n t_114 9 2 3)) (va_runV (C := RX1) (As := [.int 9, .int 2, .int 3]) (rest := []) ⟨hx, hb, hml, hown, hts⟩ (c_m_code l dC dI h cI n _ t_114 9 2 3 (vp_in_nI (n := 9) (by decide) (by decide))) (cwV 3 hts gX1_X1_code rfl rfl rfl (by decide +kernel) ⟨Nat.le_of_ble_eq_true rfl, Nat.le_of_ble_eq_true rfl⟩) (m_preM hK hP hD) rfl rfl hl.1 rfl (lv_room (Nat.le_of_ble_eq_true rfl)) dX1_init_182 ⟨Nat.le_of_ble_eq_true rfl, Nat.le_of_ble_eq_true rfl⟩) hP hD hS hA (fun t_116 H locs e_117 hP hD hS => ?_)
          refine lv_aload_n hx hb dX1_init_185 rfl (lv_at hl 1 rfl) ?_
          refine lv_bipush (v := 10) hx hb dX1_init_186 (by decide) ?_
          refine lv_iconst (v := 1) hx hb dX1_init_188 (by decide) ?_
          refine lv_iconst (v := 3) hx hb dX1_init_189 (by decide) ?_
          refine m_callv (f := (m_code n t_116 10 1 3)) (va_runV (C := RX1) (As := [.int 10, .int 1, .int 3]) (rest := []) ⟨hx, hb, hml, hown, hts⟩ (c_m_code l dC dI h cI n _ t_116 10 1 3 (vp_in_nI (n := 10) (by decide) (by decide))) (cwV 3 hts gX1_X1_code rfl rfl rfl (by decide +kernel) ⟨Nat.le_of_ble_eq_true rfl, Nat.le_of_ble_eq_true rfl⟩) (m_preM hK hP hD) rfl rfl hl.1 rfl (lv_room (Nat.le_of_ble_eq_true rfl)) dX1_init_190 ⟨Nat.le_of_ble_eq_true rfl, Nat.le_of_ble_eq_true rfl⟩) hP hD hS hA (fun t_118 H locs e_119 hP hD hS => ?_)
          refine lv_aload_n hx hb dX1_init_193 rfl (lv_at hl 1 rfl) ?_
          refine lv_bipush (v := 11) hx hb dX1_init_194 (by decide) ?_
          refine lv_iconst (v := 0) hx hb dX1_init_196 (by decide) ?_
          refine lv_iconst (v := 3) hx hb dX1_init_197 (by decide) ?_
          refine m_callv (f := (m_code n t_118 11 0 3)) (va_runV (C := RX1) (As := [.int 11, .int 0, .int 3]) (rest := []) ⟨hx, hb, hml, hown, hts⟩ (c_m_code l dC dI h cI n _ t_118 11 0 3 (vp_in_nI (n := 11) (by decide) (by decide))) (cwV 3 hts gX1_X1_code rfl rfl rfl (by decide +kernel) ⟨Nat.le_of_ble_eq_true rfl, Nat.le_of_ble_eq_true rfl⟩) (m_preM hK hP hD) rfl rfl hl.1 rfl (lv_room (Nat.le_of_ble_eq_true rfl)) dX1_init_198 ⟨Nat.le_of_ble_eq_true rfl, Nat.le_of_ble_eq_true rfl⟩) hP hD hS hA (fun t_120 H locs e_121 hP hD hS => ?_)
          refine lv_aload_n hx hb dX1_init_201 rfl (lv_at hl 1 rfl) ?_
          refine lv_bipush (v := 12) hx hb dX1_init_202 (by decide) ?_
          refine lv_iconst (v := 3) hx hb dX1_init_204 (by decide) ?_
          refine lv_iconst (v := 4) hx hb dX1_init_205 (by decide) ?_
          refine m_callv (f := (m_code n t_120 12 3 4)) (va_runV (C := RX1) (As := [.int 12, .int 3, .int 4]) (rest := []) ⟨hx, hb, hml, hown, hts⟩ (c_m_code l dC dI h cI n _ t_120 12 3 4 (vp_in_nI (n := 12) (by decide) (by decide))) (cwV 3 hts gX1_X1_code rfl rfl rfl (by decide +kernel) ⟨Nat.le_of_ble_eq_true rfl, Nat.le_of_ble_eq_true rfl⟩) (m_preM hK hP hD) rfl rfl hl.1 rfl (lv_room (Nat.le_of_ble_eq_true rfl)) dX1_init_206 ⟨Nat.le_of_ble_eq_true rfl, Nat.le_of_ble_eq_true rfl⟩) hP hD hS hA (fun t_122 H locs e_123 hP hD hS => ?_)
          refine lv_aload_n hx hb dX1_init_209 rfl (lv_at hl 1 rfl) ?_
          refine lv_bipush (v := 13) hx hb dX1_init_210 (by decide) ?_
          refine lv_iconst (v := 2) hx hb dX1_init_212 (by decide) ?_
          refine lv_iconst (v := 4) hx hb dX1_init_213 (by decide) ?_
          refine m_callv (f := (m_code n t_122 13 2 4)) (va_runV (C := RX1) (As := [.int 13, .int 2, .int 4]) (rest := []) ⟨hx, hb, hml, hown, hts⟩ (c_m_code l dC dI h cI n _ t_122 13 2 4 (vp_in_nI (n := 13) (by decide) (by decide))) (cwV 3 hts gX1_X1_code rfl rfl rfl (by decide +kernel) ⟨Nat.le_of_ble_eq_true rfl, Nat.le_of_ble_eq_true rfl⟩) (m_preM hK hP hD) rfl rfl hl.1 rfl (lv_room (Nat.le_of_ble_eq_true rfl)) dX1_init_214 ⟨Nat.le_of_ble_eq_true rfl, Nat.le_of_ble_eq_true rfl⟩) hP hD hS hA (fun t_124 H locs e_125 hP hD hS => ?_)
          refine lv_aload_n hx hb dX1_init_217 rfl (lv_at hl 1 rfl) ?_
          refine lv_bipush (v := 14) hx hb dX1_init_218 (by decide) ?_
          refine lv_iconst (v := 1) hx hb dX1_init_220 (by decide) ?_
          refine lv_iconst (v := 4) hx hb dX1_init_221 (by decide) ?_
          refine m_callv (f := (m_code n t_124 14 1 4)) (va_runV (C := RX1) (As := [.int 14, .int 1, .int 4]) (rest := []) ⟨hx, hb, hml, hown, hts⟩ (c_m_code l dC dI h cI n _ t_124 14 1 4 (vp_in_nI (n := 14) (by decide) (by decide))) (cwV 3 hts gX1_X1_code rfl rfl rfl (by decide +kernel) ⟨Nat.le_of_ble_eq_true rfl, Nat.le_of_ble_eq_true rfl⟩) (m_preM hK hP hD) rfl rfl hl.1 rfl (lv_room (Nat.le_of_ble_eq_true rfl)) dX1_init_222 ⟨Nat.le_of_ble_eq_true rfl, Nat.le_of_ble_eq_true rfl⟩) hP hD hS hA (fun t_126 H locs e_127 hP hD hS => ?_)
          refine lv_aload_n hx hb dX1_init_225 rfl (lv_at hl 1 rfl) ?_
          refine lv_bipush (v := 15) hx hb dX1_init_226 (by decide) ?_
          refine lv_iconst (v := 0) hx hb dX1_init_228 (by decide) ?_
          refine lv_iconst (v := 4) hx hb dX1_init_229 (by decide) ?_
          refine m_callv (f := (m_code n t_126 15 0 4)) (va_runV (C := RX1) (As := [.int 15, .int 0, .int 4]) (rest := []) ⟨hx, hb, hml, hown, hts⟩ (c_m_code l dC dI h cI n _ t_126 15 0 4 (vp_in_nI (n := 15) (by decide) (by decide))) (cwV 3 hts gX1_X1_code rfl rfl rfl (by decide +kernel) ⟨Nat.le_of_ble_eq_true rfl, Nat.le_of_ble_eq_true rfl⟩) (m_preM hK hP hD) rfl rfl hl.1 rfl (lv_room (Nat.le_of_ble_eq_true rfl)) dX1_init_230 ⟨Nat.le_of_ble_eq_true rfl, Nat.le_of_ble_eq_true rfl⟩) hP hD hS hA (fun t_128 H locs e_129 hP hD hS => ?_)
          have ef : m_ini n m_mu0 p0 = t_128 := hm.trans ((if_pos c_101).trans ((kv_eq e_103).trans ((kv_eq e_105).trans ((kv_eq e_107).trans ((kv_eq e_109).trans ((kv_eq e_111).trans ((kv_eq e_113).trans ((kv_eq e_115).trans ((kv_eq e_117).trans ((kv_eq e_119).trans ((kv_eq e_121).trans ((kv_eq e_123).trans ((kv_eq e_125).trans ((kv_eq e_127).trans ((kv_eq e_129).trans rfl)))))))))))))))
          rw [← ef, m_ini_p p0 0] at hP hD
          exact W.vret hx hb hr (fun t ht hW => ⟨⟨(h, cI), rfl, eh, by rw [ht, ← en]; exact hP, va_K.moved hW.alike hK, by rw [← en]; exact hD⟩, hS.F ht⟩) hS.2.2 dX1_init_233
        · have hlt : j < 16 := x_ltK ⟨16, by omega, rfl⟩ hj ej (by omega) c_101
          refine lv_aload_n hx hb dX1_init_112 rfl (lv_at hl 1 rfl) ?_
          refine va_get (D := (dC, dI)) (ci := 1) (v := .ref (h 4)) (C := RX1) (T := TX1) (N := 14) hx hb hts inbX1 hown hK hP 0 rfl rfl 5 (by decide) (hts _ bX1_5) (fun _ h9 => h9) rfl dX1_init_113 ?_
          refine lv_iload_n hx hb dX1_init_116 rfl (lv_at hl 0 rfl) ?_
          refine lv_iconst (v := (-1)) hx hb dX1_init_117 (by decide) ?_
          refine va_iast hx hb hK hP hD hS 4 0 rfl rfl (by rw [ej]; exact vp_in_nI hlt (by omega)) dX1_init_118 (fun H locs hP hD hS => ?_)
          have hP := m_pPg hP
          have hD := m_dPg hD
          refine lv_iinc (v := (i + 1)) (lv' := [(2, .int (i + 1)), (0, .ref (h 0)), (1, .int p0)]) hx hb dX1_init_119 hl (k := 0) rfl rfl (by decide) rfl (fun ls hl => ?_)
          refine lv_goto (tgt := 106) hx hb dX1_init_122 (by decide) ?_
          exact ih (j + 1) (i + 1) (m_sPg τ (upd (m_pg τ) ((i).toNatClampNeg) (-1))) _ _ _ (by rw [ej]; exact nI_1 j) (by omega) (by omega) (hm.trans ((if_neg c_101).trans rfl)) hP hD hS (lv_sub hl [0, 1, 2] rfl)
    refine lv_iconst (v := 0) hx hb dX1_init_104 (by decide) ?_
    refine lv_istore_n (lv' := [(2, .int 0), (0, .ref (h 0)), (1, .int p0)]) hx hb dX1_init_105 rfl hl (by decide) rfl (fun ls hl => ?_)
    exact key 17 0 0 m_mu0 _ _ _ nI_0.symm (by omega) (by omega) (rfl) hP hD hS (lv_sub hl [0, 1, 2] rfl)
  have hl := lv_entry ([.ref h0, .int p0]) (n := 3) (Nat.le_of_ble_eq_true rfl)
  rw [lg_entry_eq]
  generalize (lg_sl ([.ref h0, .int p0]) ++ List.replicate (3 - (lg_sl ([.ref h0, .int p0])).length) Slot.unset).toArray = ls at hl ⊢
  have hl : lv_has ls 3 [(0, .ref h0), (1, .int p0)] := hl
  refine lv_aload_n hx hb dX1_init_0 rfl (lv_at hl 0 rfl) ?_
  refine W.objInit hx hb hown (hts _ bX1_24) (hts _ bX1_42) (hts _ bX1_98) rfl (by rw [hml]; exact hl.1) rfl dX1_init_1 (Nat.le_of_ble_eq_true rfl) (Nat.le_of_ble_eq_true rfl) ?_
  refine W.eq (g2 := F0 m 4 ls []) rfl ?_
  refine lv_aload_n hx hb dX1_init_4 rfl (lv_at hl 0 rfl) ?_
  refine lv_sipush (v := 2048) hx hb dX1_init_5 (by decide) ?_
  have hc_1 : 0 + 1 ≤ 9 := by decide
  have hs_1 : 0 + 2048 ≤ 2138 := by decide
  refine va_newa (atype := .int) (ty := .int) (a0 := (2048, .inl (fun _ => 0))) hx hb (hts _ bX1_23) rfl hK hP hD hS hA (fun cA => rfl) (by decide) rfl (by decide) hc_1 hs_1 dX1_init_8 (fun q1 a1 H hK hP hD hS => ?_)
  have hK : va_K (dC, dI) vwCl [(a1, .int)] s := hK
  have hP : va_P (dC, dI) vwCl [(h0, .inr (1, [.null, .int 0, .null, .null, .int 0, .null, .null, .null, .null, .null, .null, .int 0, .int 0, .int 0])), (q1, .inl (a1, 2048, .inl (fun _ => 0)))] H := hP
  have hD : va_D A [(h0, .inr (1, [.null, .int 0, .null, .null, .int 0, .null, .null, .null, .null, .null, .null, .int 0, .int 0, .int 0])), (q1, .inl (a1, 2048, .inl (fun _ => 0)))] := hD
  refine W.widen (k := 1) (n := 2048) (by omega) (by omega) ?_
  refine va_putF (D := (dC, dI)) (ci := 1) (v := .ref q1) (ty := .array .int) (C := RX1) (T := TX1) (N := 14) hx hb hts inbX1 tyX1 tyX1_ok nmX1 hown hK hP hD hS 0 rfl rfl 0 (by decide) (hts _ bX1_0) (fun _ h9 => h9) rfl hin rfl (by decide +kernel) rfl rfl (Nat.le_of_ble_eq_true rfl) dX1_init_10 (fun H locs hP hD hS => ?_)
  have hP : va_P (dC, dI) vwCl [(h0, .inr (1, [.ref q1, .int 0, .null, .null, .int 0, .null, .null, .null, .null, .null, .null, .int 0, .int 0, .int 0])), (q1, .inl (a1, 2048, .inl (fun _ => 0)))] H := hP
  have hD : va_D A [(h0, .inr (1, [.ref q1, .int 0, .null, .null, .int 0, .null, .null, .null, .null, .null, .null, .int 0, .int 0, .int 0])), (q1, .inl (a1, 2048, .inl (fun _ => 0)))] := hD
  refine lv_aload_n hx hb dX1_init_13 rfl (lv_at hl 0 rfl) ?_
  refine lv_iconst (v := 3) hx hb dX1_init_14 (by decide) ?_
  have hc_2 : 1 + 1 ≤ 9 := by decide
  have hs_2 : 2048 + 3 ≤ 2138 := by decide
  refine va_newa (atype := .int) (ty := .int) (a0 := (3, .inl (fun _ => 0))) hx hb (hts _ bX1_23) rfl hK hP hD hS hA (fun cA => rfl) (by decide) rfl (by decide) hc_2 hs_2 dX1_init_15 (fun q2 a2 H hK hP hD hS => ?_)
  have hK : va_K (dC, dI) vwCl [(a1, .int), (a2, .int)] s := hK
  obtain rfl : a1 = a2 := Option.some.inj ((hK.2 0 _ rfl).2.symm.trans (hK.2 1 _ rfl).2)
  have hK : va_K (dC, dI) vwCl [(a1, .int)] s := hK.sub [0] rfl
  have hP : va_P (dC, dI) vwCl [(h0, .inr (1, [.ref q1, .int 0, .null, .null, .int 0, .null, .null, .null, .null, .null, .null, .int 0, .int 0, .int 0])), (q1, .inl (a1, 2048, .inl (fun _ => 0))), (q2, .inl (a1, 3, .inl (fun _ => 0)))] H := hP
  have hD : va_D A [(h0, .inr (1, [.ref q1, .int 0, .null, .null, .int 0, .null, .null, .null, .null, .null, .null, .int 0, .int 0, .int 0])), (q1, .inl (a1, 2048, .inl (fun _ => 0))), (q2, .inl (a1, 3, .inl (fun _ => 0)))] := hD
  refine W.widen (k := 2) (n := 2051) (by omega) (by omega) ?_
  refine va_putF (D := (dC, dI)) (ci := 1) (v := .ref q2) (ty := .array .int) (C := RX1) (T := TX1) (N := 14) hx hb hts inbX1 tyX1 tyX1_ok nmX1 hown hK hP hD hS 0 rfl rfl 2 (by decide) (hts _ bX1_2) (fun _ h9 => h9) rfl hin rfl (by decide +kernel) rfl rfl (Nat.le_of_ble_eq_true rfl) dX1_init_17 (fun H locs hP hD hS => ?_)
  have hP : va_P (dC, dI) vwCl [(h0, .inr (1, [.ref q1, .int 0, .ref q2, .null, .int 0, .null, .null, .null, .null, .null, .null, .int 0, .int 0, .int 0])), (q1, .inl (a1, 2048, .inl (fun _ => 0))), (q2, .inl (a1, 3, .inl (fun _ => 0)))] H := hP
  have hD : va_D A [(h0, .inr (1, [.ref q1, .int 0, .ref q2, .null, .int 0, .null, .null, .null, .null, .null, .null, .int 0, .int 0, .int 0])), (q1, .inl (a1, 2048, .inl (fun _ => 0))), (q2, .inl (a1, 3, .inl (fun _ => 0)))] := hD
  refine lv_aload_n hx hb dX1_init_20 rfl (lv_at hl 0 rfl) ?_
  refine lv_iconst (v := 3) hx hb dX1_init_21 (by decide) ?_
  have hc_3 : 2 + 1 ≤ 9 := by decide
  have hs_3 : 2051 + 3 ≤ 2138 := by decide
  refine va_newa (atype := .int) (ty := .int) (a0 := (3, .inl (fun _ => 0))) hx hb (hts _ bX1_23) rfl hK hP hD hS hA (fun cA => rfl) (by decide) rfl (by decide) hc_3 hs_3 dX1_init_22 (fun q3 a3 H hK hP hD hS => ?_)
  have hK : va_K (dC, dI) vwCl [(a1, .int), (a3, .int)] s := hK
  obtain rfl : a1 = a3 := Option.some.inj ((hK.2 0 _ rfl).2.symm.trans (hK.2 1 _ rfl).2)
  have hK : va_K (dC, dI) vwCl [(a1, .int)] s := hK.sub [0] rfl
  have hP : va_P (dC, dI) vwCl [(h0, .inr (1, [.ref q1, .int 0, .ref q2, .null, .int 0, .null, .null, .null, .null, .null, .null, .int 0, .int 0, .int 0])), (q1, .inl (a1, 2048, .inl (fun _ => 0))), (q2, .inl (a1, 3, .inl (fun _ => 0))), (q3, .inl (a1, 3, .inl (fun _ => 0)))] H := hP
  have hD : va_D A [(h0, .inr (1, [.ref q1, .int 0, .ref q2, .null, .int 0, .null, .null, .null, .null, .null, .null, .int 0, .int 0, .int 0])), (q1, .inl (a1, 2048, .inl (fun _ => 0))), (q2, .inl (a1, 3, .inl (fun _ => 0))), (q3, .inl (a1, 3, .inl (fun _ => 0)))] := hD
  refine W.widen (k := 3) (n := 2054) (by omega) (by omega) ?_
  refine va_putF (D := (dC, dI)) (ci := 1) (v := .ref q3) (ty := .array .int) (C := RX1) (T := TX1) (N := 14) hx hb hts inbX1 tyX1 tyX1_ok nmX1 hown hK hP hD hS 0 rfl rfl 3 (by decide) (hts _ bX1_3) (fun _ h9 => h9) rfl hin rfl (by decide +kernel) rfl rfl (Nat.le_of_ble_eq_true rfl) dX1_init_24 (fun H locs hP hD hS => ?_)
  have hP : va_P (dC, dI) vwCl [(h0, .inr (1, [.ref q1, .int 0, .ref q2, .ref q3, .int 0, .null, .null, .null, .null, .null, .null, .int 0, .int 0, .int 0])), (q1, .inl (a1, 2048, .inl (fun _ => 0))), (q2, .inl (a1, 3, .inl (fun _ => 0))), (q3, .inl (a1, 3, .inl (fun _ => 0)))] H := hP
  have hD : va_D A [(h0, .inr (1, [.ref q1, .int 0, .ref q2, .ref q3, .int 0, .null, .null, .null, .null, .null, .null, .int 0, .int 0, .int 0])), (q1, .inl (a1, 2048, .inl (fun _ => 0))), (q2, .inl (a1, 3, .inl (fun _ => 0))), (q3, .inl (a1, 3, .inl (fun _ => 0)))] := hD
  refine lv_aload_n hx hb dX1_init_27 rfl (lv_at hl 0 rfl) ?_
  refine lv_bipush (v := 16) hx hb dX1_init_28 (by decide) ?_
  have hc_4 : 3 + 1 ≤ 9 := by decide
  have hs_4 : 2054 + 16 ≤ 2138 := by decide
  refine va_newa (atype := .int) (ty := .int) (a0 := (16, .inl (fun _ => 0))) hx hb (hts _ bX1_23) rfl hK hP hD hS hA (fun cA => rfl) (by decide) rfl (by decide) hc_4 hs_4 dX1_init_30 (fun q4 a4 H hK hP hD hS => ?_)
  have hK : va_K (dC, dI) vwCl [(a1, .int), (a4, .int)] s := hK
  obtain rfl : a1 = a4 := Option.some.inj ((hK.2 0 _ rfl).2.symm.trans (hK.2 1 _ rfl).2)
  have hK : va_K (dC, dI) vwCl [(a1, .int)] s := hK.sub [0] rfl
  have hP : va_P (dC, dI) vwCl [(h0, .inr (1, [.ref q1, .int 0, .ref q2, .ref q3, .int 0, .null, .null, .null, .null, .null, .null, .int 0, .int 0, .int 0])), (q1, .inl (a1, 2048, .inl (fun _ => 0))), (q2, .inl (a1, 3, .inl (fun _ => 0))), (q3, .inl (a1, 3, .inl (fun _ => 0))), (q4, .inl (a1, 16, .inl (fun _ => 0)))] H := hP
  have hD : va_D A [(h0, .inr (1, [.ref q1, .int 0, .ref q2, .ref q3, .int 0, .null, .null, .null, .null, .null, .null, .int 0, .int 0, .int 0])), (q1, .inl (a1, 2048, .inl (fun _ => 0))), (q2, .inl (a1, 3, .inl (fun _ => 0))), (q3, .inl (a1, 3, .inl (fun _ => 0))), (q4, .inl (a1, 16, .inl (fun _ => 0)))] := hD
  refine W.widen (k := 4) (n := 2070) (by omega) (by omega) ?_
  refine va_putF (D := (dC, dI)) (ci := 1) (v := .ref q4) (ty := .array .int) (C := RX1) (T := TX1) (N := 14) hx hb hts inbX1 tyX1 tyX1_ok nmX1 hown hK hP hD hS 0 rfl rfl 5 (by decide) (hts _ bX1_5) (fun _ h9 => h9) rfl hin rfl (by decide +kernel) rfl rfl (Nat.le_of_ble_eq_true rfl) dX1_init_32 (fun H locs hP hD hS => ?_)
  have hP : va_P (dC, dI) vwCl [(h0, .inr (1, [.ref q1, .int 0, .ref q2, .ref q3, .int 0, .ref q4, .null, .null, .null, .null, .null, .int 0, .int 0, .int 0])), (q1, .inl (a1, 2048, .inl (fun _ => 0))), (q2, .inl (a1, 3, .inl (fun _ => 0))), (q3, .inl (a1, 3, .inl (fun _ => 0))), (q4, .inl (a1, 16, .inl (fun _ => 0)))] H := hP
  have hD : va_D A [(h0, .inr (1, [.ref q1, .int 0, .ref q2, .ref q3, .int 0, .ref q4, .null, .null, .null, .null, .null, .int 0, .int 0, .int 0])), (q1, .inl (a1, 2048, .inl (fun _ => 0))), (q2, .inl (a1, 3, .inl (fun _ => 0))), (q3, .inl (a1, 3, .inl (fun _ => 0))), (q4, .inl (a1, 16, .inl (fun _ => 0)))] := hD
  refine lv_aload_n hx hb dX1_init_35 rfl (lv_at hl 0 rfl) ?_
  refine lv_bipush (v := 16) hx hb dX1_init_36 (by decide) ?_
  have hc_5 : 4 + 1 ≤ 9 := by decide
  have hs_5 : 2070 + 16 ≤ 2138 := by decide
  refine va_newa (atype := .int) (ty := .int) (a0 := (16, .inl (fun _ => 0))) hx hb (hts _ bX1_23) rfl hK hP hD hS hA (fun cA => rfl) (by decide) rfl (by decide) hc_5 hs_5 dX1_init_38 (fun q5 a5 H hK hP hD hS => ?_)
  have hK : va_K (dC, dI) vwCl [(a1, .int), (a5, .int)] s := hK
  obtain rfl : a1 = a5 := Option.some.inj ((hK.2 0 _ rfl).2.symm.trans (hK.2 1 _ rfl).2)
  have hK : va_K (dC, dI) vwCl [(a1, .int)] s := hK.sub [0] rfl
  have hP : va_P (dC, dI) vwCl [(h0, .inr (1, [.ref q1, .int 0, .ref q2, .ref q3, .int 0, .ref q4, .null, .null, .null, .null, .null, .int 0, .int 0, .int 0])), (q1, .inl (a1, 2048, .inl (fun _ => 0))), (q2, .inl (a1, 3, .inl (fun _ => 0))), (q3, .inl (a1, 3, .inl (fun _ => 0))), (q4, .inl (a1, 16, .inl (fun _ => 0))), (q5, .inl (a1, 16, .inl (fun _ => 0)))] H := hP
  have hD : va_D A [(h0, .inr (1, [.ref q1, .int 0, .ref q2, .ref q3, .int 0, .ref q4, .null, .null, .null, .null, .null, .int 0, .int 0, .int 0])), (q1, .inl (a1, 2048, .inl (fun _ => 0))), (q2, .inl (a1, 3, .inl (fun _ => 0))), (q3, .inl (a1, 3, .inl (fun _ => 0))), (q4, .inl (a1, 16, .inl (fun _ => 0))), (q5, .inl (a1, 16, .inl (fun _ => 0)))] := hD
  refine W.widen (k := 5) (n := 2086) (by omega) (by omega) ?_
  refine va_putF (D := (dC, dI)) (ci := 1) (v := .ref q5) (ty := .array .int) (C := RX1) (T := TX1) (N := 14) hx hb hts inbX1 tyX1 tyX1_ok nmX1 hown hK hP hD hS 0 rfl rfl 6 (by decide) (hts _ bX1_6) (fun _ h9 => h9) rfl hin rfl (by decide +kernel) rfl rfl (Nat.le_of_ble_eq_true rfl) dX1_init_40 (fun H locs hP hD hS => ?_)
  have hP : va_P (dC, dI) vwCl [(h0, .inr (1, [.ref q1, .int 0, .ref q2, .ref q3, .int 0, .ref q4, .ref q5, .null, .null, .null, .null, .int 0, .int 0, .int 0])), (q1, .inl (a1, 2048, .inl (fun _ => 0))), (q2, .inl (a1, 3, .inl (fun _ => 0))), (q3, .inl (a1, 3, .inl (fun _ => 0))), (q4, .inl (a1, 16, .inl (fun _ => 0))), (q5, .inl (a1, 16, .inl (fun _ => 0)))] H := hP
  have hD : va_D A [(h0, .inr (1, [.ref q1, .int 0, .ref q2, .ref q3, .int 0, .ref q4, .ref q5, .null, .null, .null, .null, .int 0, .int 0, .int 0])), (q1, .inl (a1, 2048, .inl (fun _ => 0))), (q2, .inl (a1, 3, .inl (fun _ => 0))), (q3, .inl (a1, 3, .inl (fun _ => 0))), (q4, .inl (a1, 16, .inl (fun _ => 0))), (q5, .inl (a1, 16, .inl (fun _ => 0)))] := hD
  refine lv_aload_n hx hb dX1_init_43 rfl (lv_at hl 0 rfl) ?_
  refine lv_bipush (v := 16) hx hb dX1_init_44 (by decide) ?_
  have hc_6 : 5 + 1 ≤ 9 := by decide
  have hs_6 : 2086 + 16 ≤ 2138 := by decide
  refine va_newa (atype := .int) (ty := .int) (a0 := (16, .inl (fun _ => 0))) hx hb (hts _ bX1_23) rfl hK hP hD hS hA (fun cA => rfl) (by decide) rfl (by decide) hc_6 hs_6 dX1_init_46 (fun q6 a6 H hK hP hD hS => ?_)
  have hK : va_K (dC, dI) vwCl [(a1, .int), (a6, .int)] s := hK
  obtain rfl : a1 = a6 := Option.some.inj ((hK.2 0 _ rfl).2.symm.trans (hK.2 1 _ rfl).2)
  have hK : va_K (dC, dI) vwCl [(a1, .int)] s := hK.sub [0] rfl
  have hP : va_P (dC, dI) vwCl [(h0, .inr (1, [.ref q1, .int 0, .ref q2, .ref q3, .int 0, .ref q4, .ref q5, .null, .null, .null, .null, .int 0, .int 0, .int 0])), (q1, .inl (a1, 2048, .inl (fun _ => 0))), (q2, .inl (a1, 3, .inl (fun _ => 0))), (q3, .inl (a1, 3, .inl (fun _ => 0))), (q4, .inl (a1, 16, .inl (fun _ => 0))), (q5, .inl (a1, 16, .inl (fun _ => 0))), (q6, .inl (a1, 16, .inl (fun _ => 0)))] H := hP
  have hD : va_D A [(h0, .inr (1, [.ref q1, .int 0, .ref q2, .ref q3, .int 0, .ref q4, .ref q5, .null, .null, .null, .null, .int 0, .int 0, .int 0])), (q1, .inl (a1, 2048, .inl (fun _ => 0))), (q2, .inl (a1, 3, .inl (fun _ => 0))), (q3, .inl (a1, 3, .inl (fun _ => 0))), (q4, .inl (a1, 16, .inl (fun _ => 0))), (q5, .inl (a1, 16, .inl (fun _ => 0))), (q6, .inl (a1, 16, .inl (fun _ => 0)))] := hD
  refine W.widen (k := 6) (n := 2102) (by omega) (by omega) ?_
  refine va_putF (D := (dC, dI)) (ci := 1) (v := .ref q6) (ty := .array .int) (C := RX1) (T := TX1) (N := 14) hx hb hts inbX1 tyX1 tyX1_ok nmX1 hown hK hP hD hS 0 rfl rfl 7 (by decide) (hts _ bX1_7) (fun _ h9 => h9) rfl hin rfl (by decide +kernel) rfl rfl (Nat.le_of_ble_eq_true rfl) dX1_init_48 (fun H locs hP hD hS => ?_)
  have hP : va_P (dC, dI) vwCl [(h0, .inr (1, [.ref q1, .int 0, .ref q2, .ref q3, .int 0, .ref q4, .ref q5, .ref q6, .null, .null, .null, .int 0, .int 0, .int 0])), (q1, .inl (a1, 2048, .inl (fun _ => 0))), (q2, .inl (a1, 3, .inl (fun _ => 0))), (q3, .inl (a1, 3, .inl (fun _ => 0))), (q4, .inl (a1, 16, .inl (fun _ => 0))), (q5, .inl (a1, 16, .inl (fun _ => 0))), (q6, .inl (a1, 16, .inl (fun _ => 0)))] H := hP
  have hD : va_D A [(h0, .inr (1, [.ref q1, .int 0, .ref q2, .ref q3, .int 0, .ref q4, .ref q5, .ref q6, .null, .null, .null, .int 0, .int 0, .int 0])), (q1, .inl (a1, 2048, .inl (fun _ => 0))), (q2, .inl (a1, 3, .inl (fun _ => 0))), (q3, .inl (a1, 3, .inl (fun _ => 0))), (q4, .inl (a1, 16, .inl (fun _ => 0))), (q5, .inl (a1, 16, .inl (fun _ => 0))), (q6, .inl (a1, 16, .inl (fun _ => 0)))] := hD
  refine lv_aload_n hx hb dX1_init_51 rfl (lv_at hl 0 rfl) ?_
  refine lv_bipush (v := 16) hx hb dX1_init_52 (by decide) ?_
  have hc_7 : 6 + 1 ≤ 9 := by decide
  have hs_7 : 2102 + 16 ≤ 2138 := by decide
  refine va_newa (atype := .int) (ty := .int) (a0 := (16, .inl (fun _ => 0))) hx hb (hts _ bX1_23) rfl hK hP hD hS hA (fun cA => rfl) (by decide) rfl (by decide) hc_7 hs_7 dX1_init_54 (fun q7 a7 H hK hP hD hS => ?_)
  have hK : va_K (dC, dI) vwCl [(a1, .int), (a7, .int)] s := hK
  obtain rfl : a1 = a7 := Option.some.inj ((hK.2 0 _ rfl).2.symm.trans (hK.2 1 _ rfl).2)
  have hK : va_K (dC, dI) vwCl [(a1, .int)] s := hK.sub [0] rfl
  have hP : va_P (dC, dI) vwCl [(h0, .inr (1, [.ref q1, .int 0, .ref q2, .ref q3, .int 0, .ref q4, .ref q5, .ref q6, .null, .null, .null, .int 0, .int 0, .int 0])), (q1, .inl (a1, 2048, .inl (fun _ => 0))), (q2, .inl (a1, 3, .inl (fun _ => 0))), (q3, .inl (a1, 3, .inl (fun _ => 0))), (q4, .inl (a1, 16, .inl (fun _ => 0))), (q5, .inl (a1, 16, .inl (fun _ => 0))), (q6, .inl (a1, 16, .inl (fun _ => 0))), (q7, .inl (a1, 16, .inl (fun _ => 0)))] H := hP
  have hD : va_D A [(h0, .inr (1, [.ref q1, .int 0, .ref q2, .ref q3, .int 0, .ref q4, .ref q5, .ref q6, .null, .null, .null, .int 0, .int 0, .int 0])), (q1, .inl (a1, 2048, .inl (fun _ => 0))), (q2, .inl (a1, 3, .inl (fun _ => 0))), (q3, .inl (a1, 3, .inl (fun _ => 0))), (q4, .inl (a1, 16, .inl (fun _ => 0))), (q5, .inl (a1, 16, .inl (fun _ => 0))), (q6, .inl (a1, 16, .inl (fun _ => 0))), (q7, .inl (a1, 16, .inl (fun _ => 0)))] := hD
  refine W.widen (k := 7) (n := 2118) (by omega) (by omega) ?_
  refine va_putF (D := (dC, dI)) (ci := 1) (v := .ref q7) (ty := .array .int) (C := RX1) (T := TX1) (N := 14) hx hb hts inbX1 tyX1 tyX1_ok nmX1 hown hK hP hD hS 0 rfl rfl 8 (by decide) (hts _ bX1_8) (fun _ h9 => h9) rfl hin rfl (by decide +kernel) rfl rfl (Nat.le_of_ble_eq_true rfl) dX1_init_56 (fun H locs hP hD hS => ?_)
  have hP : va_P (dC, dI) vwCl [(h0, .inr (1, [.ref q1, .int 0, .ref q2, .ref q3, .int 0, .ref q4, .ref q5, .ref q6, .ref q7, .null, .null, .int 0, .int 0, .int 0])), (q1, .inl (a1, 2048, .inl (fun _ => 0))), (q2, .inl (a1, 3, .inl (fun _ => 0))), (q3, .inl (a1, 3, .inl (fun _ => 0))), (q4, .inl (a1, 16, .inl (fun _ => 0))), (q5, .inl (a1, 16, .inl (fun _ => 0))), (q6, .inl (a1, 16, .inl (fun _ => 0))), (q7, .inl (a1, 16, .inl (fun _ => 0)))] H := hP
  have hD : va_D A [(h0, .inr (1, [.ref q1, .int 0, .ref q2, .ref q3, .int 0, .ref q4, .ref q5, .ref q6, .ref q7, .null, .null, .int 0, .int 0, .int 0])), (q1, .inl (a1, 2048, .inl (fun _ => 0))), (q2, .inl (a1, 3, .inl (fun _ => 0))), (q3, .inl (a1, 3, .inl (fun _ => 0))), (q4, .inl (a1, 16, .inl (fun _ => 0))), (q5, .inl (a1, 16, .inl (fun _ => 0))), (q6, .inl (a1, 16, .inl (fun _ => 0))), (q7, .inl (a1, 16, .inl (fun _ => 0)))] := hD
  refine lv_aload_n hx hb dX1_init_59 rfl (lv_at hl 0 rfl) ?_
  refine lv_bipush (v := 16) hx hb dX1_init_60 (by decide) ?_
  have hc_8 : 7 + 1 ≤ 9 := by decide
  have hs_8 : 2118 + 16 ≤ 2138 := by decide
  refine va_newa (atype := .int) (ty := .int) (a0 := (16, .inl (fun _ => 0))) hx hb (hts _ bX1_23) rfl hK hP hD hS hA (fun cA => rfl) (by decide) rfl (by decide) hc_8 hs_8 dX1_init_62 (fun q8 a8 H hK hP hD hS => ?_)
  have hK : va_K (dC, dI) vwCl [(a1, .int), (a8, .int)] s := hK
  obtain rfl : a1 = a8 := Option.some.inj ((hK.2 0 _ rfl).2.symm.trans (hK.2 1 _ rfl).2)
  have hK : va_K (dC, dI) vwCl [(a1, .int)] s := hK.sub [0] rfl
  have hP : va_P (dC, dI) vwCl [(h0, .inr (1, [.ref q1, .int 0, .ref q2, .ref q3, .int 0, .ref q4, .ref q5, .ref q6, .ref q7, .null, .null, .int 0, .int 0, .int 0])), (q1, .inl (a1, 2048, .inl (fun _ => 0))), (q2, .inl (a1, 3, .inl (fun _ => 0))), (q3, .inl (a1, 3, .inl (fun _ => 0))), (q4, .inl (a1, 16, .inl (fun _ => 0))), (q5, .inl (a1, 16, .inl (fun _ => 0))), (q6, .inl (a1, 16, .inl (fun _ => 0))), (q7, .inl (a1, 16, .inl (fun _ => 0))), (q8, .inl (a1, 16, .inl (fun _ => 0)))] H := hP
  have hD : va_D A [(h0, .inr (1, [.ref q1, .int 0, .ref q2, .ref q3, .int 0, .ref q4, .ref q5, .ref q6, .ref q7, .null, .null, .int 0, .int 0, .int 0])), (q1, .inl (a1, 2048, .inl (fun _ => 0))), (q2, .inl (a1, 3, .inl (fun _ => 0))), (q3, .inl (a1, 3, .inl (fun _ => 0))), (q4, .inl (a1, 16, .inl (fun _ => 0))), (q5, .inl (a1, 16, .inl (fun _ => 0))), (q6, .inl (a1, 16, .inl (fun _ => 0))), (q7, .inl (a1, 16, .inl (fun _ => 0))), (q8, .inl (a1, 16, .inl (fun _ => 0)))] := hD
  refine W.widen (k := 8) (n := 2134) (by omega) (by omega) ?_
  refine va_putF (D := (dC, dI)) (ci := 1) (v := .ref q8) (ty := .array .int) (C := RX1) (T := TX1) (N := 14) hx hb hts inbX1 tyX1 tyX1_ok nmX1 hown hK hP hD hS 0 rfl rfl 9 (by decide) (hts _ bX1_9) (fun _ h9 => h9) rfl hin rfl (by decide +kernel) rfl rfl (Nat.le_of_ble_eq_true rfl) dX1_init_64 (fun H locs hP hD hS => ?_)
  have hP : va_P (dC, dI) vwCl [(h0, .inr (1, [.ref q1, .int 0, .ref q2, .ref q3, .int 0, .ref q4, .ref q5, .ref q6, .ref q7, .ref q8, .null, .int 0, .int 0, .int 0])), (q1, .inl (a1, 2048, .inl (fun _ => 0))), (q2, .inl (a1, 3, .inl (fun _ => 0))), (q3, .inl (a1, 3, .inl (fun _ => 0))), (q4, .inl (a1, 16, .inl (fun _ => 0))), (q5, .inl (a1, 16, .inl (fun _ => 0))), (q6, .inl (a1, 16, .inl (fun _ => 0))), (q7, .inl (a1, 16, .inl (fun _ => 0))), (q8, .inl (a1, 16, .inl (fun _ => 0)))] H := hP
  have hD : va_D A [(h0, .inr (1, [.ref q1, .int 0, .ref q2, .ref q3, .int 0, .ref q4, .ref q5, .ref q6, .ref q7, .ref q8, .null, .int 0, .int 0, .int 0])), (q1, .inl (a1, 2048, .inl (fun _ => 0))), (q2, .inl (a1, 3, .inl (fun _ => 0))), (q3, .inl (a1, 3, .inl (fun _ => 0))), (q4, .inl (a1, 16, .inl (fun _ => 0))), (q5, .inl (a1, 16, .inl (fun _ => 0))), (q6, .inl (a1, 16, .inl (fun _ => 0))), (q7, .inl (a1, 16, .inl (fun _ => 0))), (q8, .inl (a1, 16, .inl (fun _ => 0)))] := hD
  refine lv_aload_n hx hb dX1_init_67 rfl (lv_at hl 0 rfl) ?_
  refine lv_iconst (v := 4) hx hb dX1_init_68 (by decide) ?_
  have hc_9 : 8 + 1 ≤ 9 := by decide
  have hs_9 : 2134 + 4 ≤ 2138 := by decide
  refine va_newa (atype := .int) (ty := .int) (a0 := (4, .inl (fun _ => 0))) hx hb (hts _ bX1_23) rfl hK hP hD hS hA (fun cA => rfl) (by decide) rfl (by decide) hc_9 hs_9 dX1_init_69 (fun q9 a9 H hK hP hD hS => ?_)
  have hK : va_K (dC, dI) vwCl [(a1, .int), (a9, .int)] s := hK
  obtain rfl : a1 = a9 := Option.some.inj ((hK.2 0 _ rfl).2.symm.trans (hK.2 1 _ rfl).2)
  have hK : va_K (dC, dI) vwCl [(a1, .int)] s := hK.sub [0] rfl
  have hP : va_P (dC, dI) vwCl [(h0, .inr (1, [.ref q1, .int 0, .ref q2, .ref q3, .int 0, .ref q4, .ref q5, .ref q6, .ref q7, .ref q8, .null, .int 0, .int 0, .int 0])), (q1, .inl (a1, 2048, .inl (fun _ => 0))), (q2, .inl (a1, 3, .inl (fun _ => 0))), (q3, .inl (a1, 3, .inl (fun _ => 0))), (q4, .inl (a1, 16, .inl (fun _ => 0))), (q5, .inl (a1, 16, .inl (fun _ => 0))), (q6, .inl (a1, 16, .inl (fun _ => 0))), (q7, .inl (a1, 16, .inl (fun _ => 0))), (q8, .inl (a1, 16, .inl (fun _ => 0))), (q9, .inl (a1, 4, .inl (fun _ => 0)))] H := hP
  have hD : va_D A [(h0, .inr (1, [.ref q1, .int 0, .ref q2, .ref q3, .int 0, .ref q4, .ref q5, .ref q6, .ref q7, .ref q8, .null, .int 0, .int 0, .int 0])), (q1, .inl (a1, 2048, .inl (fun _ => 0))), (q2, .inl (a1, 3, .inl (fun _ => 0))), (q3, .inl (a1, 3, .inl (fun _ => 0))), (q4, .inl (a1, 16, .inl (fun _ => 0))), (q5, .inl (a1, 16, .inl (fun _ => 0))), (q6, .inl (a1, 16, .inl (fun _ => 0))), (q7, .inl (a1, 16, .inl (fun _ => 0))), (q8, .inl (a1, 16, .inl (fun _ => 0))), (q9, .inl (a1, 4, .inl (fun _ => 0)))] := hD
  refine W.widen (k := 9) (n := 2138) (by omega) (by omega) ?_
  refine va_putF (D := (dC, dI)) (ci := 1) (v := .ref q9) (ty := .array .int) (C := RX1) (T := TX1) (N := 14) hx hb hts inbX1 tyX1 tyX1_ok nmX1 hown hK hP hD hS 0 rfl rfl 10 (by decide) (hts _ bX1_10) (fun _ h9 => h9) rfl hin rfl (by decide +kernel) rfl rfl (Nat.le_of_ble_eq_true rfl) dX1_init_71 (fun H locs hP hD hS => ?_)
  have hP : va_P (dC, dI) vwCl [(h0, .inr (1, [.ref q1, .int 0, .ref q2, .ref q3, .int 0, .ref q4, .ref q5, .ref q6, .ref q7, .ref q8, .ref q9, .int 0, .int 0, .int 0])), (q1, .inl (a1, 2048, .inl (fun _ => 0))), (q2, .inl (a1, 3, .inl (fun _ => 0))), (q3, .inl (a1, 3, .inl (fun _ => 0))), (q4, .inl (a1, 16, .inl (fun _ => 0))), (q5, .inl (a1, 16, .inl (fun _ => 0))), (q6, .inl (a1, 16, .inl (fun _ => 0))), (q7, .inl (a1, 16, .inl (fun _ => 0))), (q8, .inl (a1, 16, .inl (fun _ => 0))), (q9, .inl (a1, 4, .inl (fun _ => 0)))] H := hP
  have hD : va_D A [(h0, .inr (1, [.ref q1, .int 0, .ref q2, .ref q3, .int 0, .ref q4, .ref q5, .ref q6, .ref q7, .ref q8, .ref q9, .int 0, .int 0, .int 0])), (q1, .inl (a1, 2048, .inl (fun _ => 0))), (q2, .inl (a1, 3, .inl (fun _ => 0))), (q3, .inl (a1, 3, .inl (fun _ => 0))), (q4, .inl (a1, 16, .inl (fun _ => 0))), (q5, .inl (a1, 16, .inl (fun _ => 0))), (q6, .inl (a1, 16, .inl (fun _ => 0))), (q7, .inl (a1, 16, .inl (fun _ => 0))), (q8, .inl (a1, 16, .inl (fun _ => 0))), (q9, .inl (a1, 4, .inl (fun _ => 0)))] := hD
  refine lv_aload_n hx hb dX1_init_74 rfl (lv_at hl 0 rfl) ?_
  refine lv_iconst (v := (-1)) hx hb dX1_init_75 (by decide) ?_
  refine va_put (D := (dC, dI)) (ci := 1) (v := .int (-1)) (ty := .int) (C := RX1) (T := TX1) (N := 14) hx hb hts inbX1 tyX1 tyX1_ok nmX1 hown hK hP hD hS 0 rfl rfl 11 (by decide) (hts _ bX1_11) (fun _ h9 => h9) rfl (by decide +kernel) rfl rfl (Nat.le_of_ble_eq_true rfl) dX1_init_76 (fun H locs hP hD hS => ?_)
  have hP : va_P (dC, dI) vwCl [(h0, .inr (1, [.ref q1, .int 0, .ref q2, .ref q3, .int 0, .ref q4, .ref q5, .ref q6, .ref q7, .ref q8, .ref q9, .int (-1), .int 0, .int 0])), (q1, .inl (a1, 2048, .inl (fun _ => 0))), (q2, .inl (a1, 3, .inl (fun _ => 0))), (q3, .inl (a1, 3, .inl (fun _ => 0))), (q4, .inl (a1, 16, .inl (fun _ => 0))), (q5, .inl (a1, 16, .inl (fun _ => 0))), (q6, .inl (a1, 16, .inl (fun _ => 0))), (q7, .inl (a1, 16, .inl (fun _ => 0))), (q8, .inl (a1, 16, .inl (fun _ => 0))), (q9, .inl (a1, 4, .inl (fun _ => 0)))] H := hP
  have hD : va_D A [(h0, .inr (1, [.ref q1, .int 0, .ref q2, .ref q3, .int 0, .ref q4, .ref q5, .ref q6, .ref q7, .ref q8, .ref q9, .int (-1), .int 0, .int 0])), (q1, .inl (a1, 2048, .inl (fun _ => 0))), (q2, .inl (a1, 3, .inl (fun _ => 0))), (q3, .inl (a1, 3, .inl (fun _ => 0))), (q4, .inl (a1, 16, .inl (fun _ => 0))), (q5, .inl (a1, 16, .inl (fun _ => 0))), (q6, .inl (a1, 16, .inl (fun _ => 0))), (q7, .inl (a1, 16, .inl (fun _ => 0))), (q8, .inl (a1, 16, .inl (fun _ => 0))), (q9, .inl (a1, 4, .inl (fun _ => 0)))] := hD
  have mid : ∀ (K : Nat) (v : Int32), v = nI K → 4 ≤ K → K ≤ 128 → x_n p0 = K * 16 → W p l e (headSpec wsX1_init ({ frames := 1, cells := 9, slots := 2138, locals := 23 })).room s m ([.ref h0, .int p0] : List Value).toArray below meth c H locs 9 2138 (MQ below (va_Qv (fun u : (Nat → Nat) × ClassId => u.1 0 = h0) (m_atI dC dI (x_n p0) A) A) ([.ref h0, .int p0] : List Value).toArray s 9 2138 A) (F0 m 100 ls [.int v, .int 16, .ref h0]) := by
    intro K v ev hK4 hK8 en
    refine lv_imul hx hb dX1_init_100 ?_
    rw [show (16 : Int32) * v = nI (x_n p0) by rw [ev, en, show (16 : Int32) = nI 16 from rfl, pk_mul, Nat.mul_comm]]
    refine va_putF (D := (dC, dI)) (ci := 1) (v := .int (nI (x_n p0))) (ty := .int) (C := RX1) (T := TX1) (N := 14) hx hb hts inbX1 tyX1 tyX1_ok nmX1 hown hK hP hD hS 0 rfl rfl 1 (by decide) (hts _ bX1_1) (fun _ h9 => h9) rfl hin rfl (by decide +kernel) rfl rfl (Nat.le_of_ble_eq_true rfl) dX1_init_101 (fun H locs hP hD hS => ?_)
    have hP : va_P (dC, dI) vwCl [(h0, .inr (1, [.ref q1, .int (nI (x_n p0)), .ref q2, .ref q3, .int 0, .ref q4, .ref q5, .ref q6, .ref q7, .ref q8, .ref q9, .int (-1), .int 0, .int 0])), (q1, .inl (a1, 2048, .inl (fun _ => 0))), (q2, .inl (a1, 3, .inl (fun _ => 0))), (q3, .inl (a1, 3, .inl (fun _ => 0))), (q4, .inl (a1, 16, .inl (fun _ => 0))), (q5, .inl (a1, 16, .inl (fun _ => 0))), (q6, .inl (a1, 16, .inl (fun _ => 0))), (q7, .inl (a1, 16, .inl (fun _ => 0))), (q8, .inl (a1, 16, .inl (fun _ => 0))), (q9, .inl (a1, 4, .inl (fun _ => 0)))] H := hP
    have hD : va_D A [(h0, .inr (1, [.ref q1, .int (nI (x_n p0)), .ref q2, .ref q3, .int 0, .ref q4, .ref q5, .ref q6, .ref q7, .ref q8, .ref q9, .int (-1), .int 0, .int 0])), (q1, .inl (a1, 2048, .inl (fun _ => 0))), (q2, .inl (a1, 3, .inl (fun _ => 0))), (q3, .inl (a1, 3, .inl (fun _ => 0))), (q4, .inl (a1, 16, .inl (fun _ => 0))), (q5, .inl (a1, 16, .inl (fun _ => 0))), (q6, .inl (a1, 16, .inl (fun _ => 0))), (q7, .inl (a1, 16, .inl (fun _ => 0))), (q8, .inl (a1, 16, .inl (fun _ => 0))), (q9, .inl (a1, 4, .inl (fun _ => 0)))] := hD
    exact tail (fun k => ([h0, q1, q2, q3, q4, q5, q6, q7, q8, q9] : List Nat).getD k 0) a1 (x_n p0) H locs ls rfl rfl hK hP hD hS hl
  refine lv_aload_n hx hb dX1_init_79 rfl (lv_at hl 0 rfl) ?_
  refine lv_bipush (v := 16) hx hb dX1_init_80 (by decide) ?_
  refine lv_iload_n hx hb dX1_init_82 rfl (lv_at hl 1 rfl) ?_
  refine lv_iconst (v := 4) hx hb dX1_init_83 (by decide) ?_
  refine lv_icmp_lt (tgt := 98) hx hb dX1_init_84 (by decide) (fun c_1 => ?_) (fun c_1 => ?_)
  · refine lv_bipush (v := 32) hx hb dX1_init_98 (by decide) ?_
    exact mid 32 32 rfl (by omega) (by omega) (x_n_of (K := 32) (if_pos c_1) (by omega))
  · refine lv_iload_n hx hb dX1_init_87 rfl (lv_at hl 1 rfl) ?_
    refine lv_sipush (v := 128) hx hb dX1_init_88 (by decide) ?_
    refine lv_icmp_gt (tgt := 98) hx hb dX1_init_91 (by decide) (fun c_2 => ?_) (fun c_2 => ?_)
    · refine lv_bipush (v := 32) hx hb dX1_init_98 (by decide) ?_
      exact mid 32 32 rfl (by omega) (by omega) (x_n_of (K := 32) ((if_neg c_1).trans (if_pos c_2)) (by omega))
    · refine lv_iload_n hx hb dX1_init_94 rfl (lv_at hl 1 rfl) ?_
      refine lv_goto (tgt := 100) hx hb dX1_init_95 (by decide) ?_
      obtain ⟨K, ek, hk4, hk8⟩ := x_pages c_1 c_2
      exact mid K p0 ek hk4 hk8 (x_n_of ((if_neg c_1).trans ((if_neg c_2).trans ek)) hk8)
end
section
theorem dL_cell_0 : decode cL_cell 0 = .ok (.iload_n 1, 1) := by decide +kernel
theorem dL_cell_1 : decode cL_cell 1 = .ok (.aload_n 0, 1) := by decide +kernel
theorem dL_cell_2 : decode cL_cell 2 = .ok (.arraylength, 1) := by decide +kernel
theorem dL_cell_3 : decode cL_cell 3 = .ok (.if_icmp .ge 9, 3) := by decide +kernel
theorem dL_cell_6 : decode cL_cell 6 = .ok (.aload_n 0, 1) := by decide +kernel
theorem dL_cell_7 : decode cL_cell 7 = .ok (.iload_n 1, 1) := by decide +kernel
theorem dL_cell_8 : decode cL_cell 8 = .ok (.iaload, 1) := by decide +kernel
theorem dL_cell_9 : decode cL_cell 9 = .ok (.goto 4, 3) := by decide +kernel
theorem dL_cell_12 : decode cL_cell 12 = .ok (.iconst 0, 1) := by decide +kernel
theorem dL_cell_13 : decode cL_cell 13 = .ok (.ireturn, 1) := by decide +kernel
theorem dL_law_0 : decode cL_law 0 = .ok (.new 7, 3) := by decide +kernel
theorem dL_law_3 : decode cL_law 3 = .ok (.dup, 1) := by decide +kernel
theorem dL_law_4 : decode cL_law 4 = .ok (.aload_n 0, 1) := by decide +kernel
theorem dL_law_5 : decode cL_law 5 = .ok (.iconst 0, 1) := by decide +kernel
theorem dL_law_6 : decode cL_law 6 = .ok (.invokestatic 9, 3) := by decide +kernel
theorem dL_law_9 : decode cL_law 9 = .ok (.invokespecial 15, 3) := by decide +kernel
theorem dL_law_12 : decode cL_law 12 = .ok (.astore_n 1, 1) := by decide +kernel
theorem dL_law_13 : decode cL_law 13 = .ok (.new 18, 3) := by decide +kernel
theorem dL_law_16 : decode cL_law 16 = .ok (.dup, 1) := by decide +kernel
theorem dL_law_17 : decode cL_law 17 = .ok (.aload_n 0, 1) := by decide +kernel
theorem dL_law_18 : decode cL_law 18 = .ok (.iconst 0, 1) := by decide +kernel
theorem dL_law_19 : decode cL_law 19 = .ok (.invokestatic 9, 3) := by decide +kernel
theorem dL_law_22 : decode cL_law 22 = .ok (.invokespecial 20, 3) := by decide +kernel
theorem dL_law_25 : decode cL_law 25 = .ok (.astore_n 2, 1) := by decide +kernel
theorem dL_law_26 : decode cL_law 26 = .ok (.iconst 1, 1) := by decide +kernel
theorem dL_law_27 : decode cL_law 27 = .ok (.istore_n 3, 1) := by decide +kernel
theorem dL_law_28 : decode cL_law 28 = .ok (.iload_n 3, 1) := by decide +kernel
theorem dL_law_29 : decode cL_law 29 = .ok (.aload_n 0, 1) := by decide +kernel
theorem dL_law_30 : decode cL_law 30 = .ok (.arraylength, 1) := by decide +kernel
theorem dL_law_31 : decode cL_law 31 = .ok (.iconst 5, 1) := by decide +kernel
theorem dL_law_32 : decode cL_law 32 = .ok (.isub, 1) := by decide +kernel
theorem dL_law_33 : decode cL_law 33 = .ok (.if_icmp .gt 532, 3) := by decide +kernel
theorem dL_law_36 : decode cL_law 36 = .ok (.aload_n 0, 1) := by decide +kernel
theorem dL_law_37 : decode cL_law 37 = .ok (.iload_n 3, 1) := by decide +kernel
theorem dL_law_38 : decode cL_law 38 = .ok (.iaload, 1) := by decide +kernel
theorem dL_law_39 : decode cL_law 39 = .ok (.bipush 15, 2) := by decide +kernel
theorem dL_law_41 : decode cL_law 41 = .ok (.iand, 1) := by decide +kernel
theorem dL_law_42 : decode cL_law 42 = .ok (.tableswitch 517 0 11 #[62, 95, 128, 152, 195, 232, 255, 299, 352, 411, 470, 504], 62) := by decide +kernel
theorem dL_law_104 : decode cL_law 104 = .ok (.aload_n 1, 1) := by decide +kernel
theorem dL_law_105 : decode cL_law 105 = .ok (.aload_n 0, 1) := by decide +kernel
theorem dL_law_106 : decode cL_law 106 = .ok (.iload_n 3, 1) := by decide +kernel
theorem dL_law_107 : decode cL_law 107 = .ok (.iconst 1, 1) := by decide +kernel
theorem dL_law_108 : decode cL_law 108 = .ok (.iadd, 1) := by decide +kernel
theorem dL_law_109 : decode cL_law 109 = .ok (.iaload, 1) := by decide +kernel
theorem dL_law_110 : decode cL_law 110 = .ok (.aload_n 0, 1) := by decide +kernel
theorem dL_law_111 : decode cL_law 111 = .ok (.iload_n 3, 1) := by decide +kernel
theorem dL_law_112 : decode cL_law 112 = .ok (.iconst 2, 1) := by decide +kernel
theorem dL_law_113 : decode cL_law 113 = .ok (.iadd, 1) := by decide +kernel
theorem dL_law_114 : decode cL_law 114 = .ok (.iaload, 1) := by decide +kernel
theorem dL_law_115 : decode cL_law 115 = .ok (.invokevirtual 21, 3) := by decide +kernel
theorem dL_law_118 : decode cL_law 118 = .ok (.aload_n 2, 1) := by decide +kernel
theorem dL_law_119 : decode cL_law 119 = .ok (.aload_n 0, 1) := by decide +kernel
theorem dL_law_120 : decode cL_law 120 = .ok (.iload_n 3, 1) := by decide +kernel
theorem dL_law_121 : decode cL_law 121 = .ok (.iconst 1, 1) := by decide +kernel
theorem dL_law_122 : decode cL_law 122 = .ok (.iadd, 1) := by decide +kernel
theorem dL_law_123 : decode cL_law 123 = .ok (.iaload, 1) := by decide +kernel
theorem dL_law_124 : decode cL_law 124 = .ok (.aload_n 0, 1) := by decide +kernel
theorem dL_law_125 : decode cL_law 125 = .ok (.iload_n 3, 1) := by decide +kernel
theorem dL_law_126 : decode cL_law 126 = .ok (.iconst 2, 1) := by decide +kernel
theorem dL_law_127 : decode cL_law 127 = .ok (.iadd, 1) := by decide +kernel
theorem dL_law_128 : decode cL_law 128 = .ok (.iaload, 1) := by decide +kernel
theorem dL_law_129 : decode cL_law 129 = .ok (.invokevirtual 25, 3) := by decide +kernel
theorem dL_law_132 : decode cL_law 132 = .ok (.if_icmp .eq 427, 3) := by decide +kernel
theorem dL_law_135 : decode cL_law 135 = .ok (.iconst 0, 1) := by decide +kernel
theorem dL_law_136 : decode cL_law 136 = .ok (.ireturn, 1) := by decide +kernel
theorem dL_law_137 : decode cL_law 137 = .ok (.aload_n 1, 1) := by decide +kernel
theorem dL_law_138 : decode cL_law 138 = .ok (.aload_n 0, 1) := by decide +kernel
theorem dL_law_139 : decode cL_law 139 = .ok (.iload_n 3, 1) := by decide +kernel
theorem dL_law_140 : decode cL_law 140 = .ok (.iconst 1, 1) := by decide +kernel
theorem dL_law_141 : decode cL_law 141 = .ok (.iadd, 1) := by decide +kernel
end
section
theorem dL_law_142 : decode cL_law 142 = .ok (.iaload, 1) := by decide +kernel
theorem dL_law_143 : decode cL_law 143 = .ok (.aload_n 0, 1) := by decide +kernel
theorem dL_law_144 : decode cL_law 144 = .ok (.iload_n 3, 1) := by decide +kernel
theorem dL_law_145 : decode cL_law 145 = .ok (.iconst 2, 1) := by decide +kernel
theorem dL_law_146 : decode cL_law 146 = .ok (.iadd, 1) := by decide +kernel
theorem dL_law_147 : decode cL_law 147 = .ok (.iaload, 1) := by decide +kernel
theorem dL_law_148 : decode cL_law 148 = .ok (.invokevirtual 26, 3) := by decide +kernel
theorem dL_law_151 : decode cL_law 151 = .ok (.aload_n 2, 1) := by decide +kernel
theorem dL_law_152 : decode cL_law 152 = .ok (.aload_n 0, 1) := by decide +kernel
theorem dL_law_153 : decode cL_law 153 = .ok (.iload_n 3, 1) := by decide +kernel
theorem dL_law_154 : decode cL_law 154 = .ok (.iconst 1, 1) := by decide +kernel
theorem dL_law_155 : decode cL_law 155 = .ok (.iadd, 1) := by decide +kernel
theorem dL_law_156 : decode cL_law 156 = .ok (.iaload, 1) := by decide +kernel
theorem dL_law_157 : decode cL_law 157 = .ok (.aload_n 0, 1) := by decide +kernel
theorem dL_law_158 : decode cL_law 158 = .ok (.iload_n 3, 1) := by decide +kernel
theorem dL_law_159 : decode cL_law 159 = .ok (.iconst 2, 1) := by decide +kernel
theorem dL_law_160 : decode cL_law 160 = .ok (.iadd, 1) := by decide +kernel
theorem dL_law_161 : decode cL_law 161 = .ok (.iaload, 1) := by decide +kernel
theorem dL_law_162 : decode cL_law 162 = .ok (.invokevirtual 29, 3) := by decide +kernel
theorem dL_law_165 : decode cL_law 165 = .ok (.if_icmp .eq 394, 3) := by decide +kernel
theorem dL_law_168 : decode cL_law 168 = .ok (.iconst 0, 1) := by decide +kernel
theorem dL_law_169 : decode cL_law 169 = .ok (.ireturn, 1) := by decide +kernel
theorem dL_law_170 : decode cL_law 170 = .ok (.aload_n 1, 1) := by decide +kernel
theorem dL_law_171 : decode cL_law 171 = .ok (.aload_n 0, 1) := by decide +kernel
theorem dL_law_172 : decode cL_law 172 = .ok (.iload_n 3, 1) := by decide +kernel
theorem dL_law_173 : decode cL_law 173 = .ok (.iconst 1, 1) := by decide +kernel
theorem dL_law_174 : decode cL_law 174 = .ok (.iadd, 1) := by decide +kernel
theorem dL_law_175 : decode cL_law 175 = .ok (.iaload, 1) := by decide +kernel
theorem dL_law_176 : decode cL_law 176 = .ok (.invokevirtual 30, 3) := by decide +kernel
theorem dL_law_179 : decode cL_law 179 = .ok (.aload_n 2, 1) := by decide +kernel
theorem dL_law_180 : decode cL_law 180 = .ok (.aload_n 0, 1) := by decide +kernel
theorem dL_law_181 : decode cL_law 181 = .ok (.iload_n 3, 1) := by decide +kernel
theorem dL_law_182 : decode cL_law 182 = .ok (.iconst 1, 1) := by decide +kernel
theorem dL_law_183 : decode cL_law 183 = .ok (.iadd, 1) := by decide +kernel
theorem dL_law_184 : decode cL_law 184 = .ok (.iaload, 1) := by decide +kernel
theorem dL_law_185 : decode cL_law 185 = .ok (.invokevirtual 34, 3) := by decide +kernel
theorem dL_law_188 : decode cL_law 188 = .ok (.lcmp, 1) := by decide +kernel
theorem dL_law_189 : decode cL_law 189 = .ok (.ifCond .eq 370, 3) := by decide +kernel
theorem dL_law_192 : decode cL_law 192 = .ok (.iconst 0, 1) := by decide +kernel
theorem dL_law_193 : decode cL_law 193 = .ok (.ireturn, 1) := by decide +kernel
theorem dL_law_194 : decode cL_law 194 = .ok (.aload_n 1, 1) := by decide +kernel
theorem dL_law_195 : decode cL_law 195 = .ok (.aload_n 0, 1) := by decide +kernel
theorem dL_law_196 : decode cL_law 196 = .ok (.iload_n 3, 1) := by decide +kernel
theorem dL_law_197 : decode cL_law 197 = .ok (.iconst 1, 1) := by decide +kernel
theorem dL_law_198 : decode cL_law 198 = .ok (.iadd, 1) := by decide +kernel
theorem dL_law_199 : decode cL_law 199 = .ok (.iaload, 1) := by decide +kernel
theorem dL_law_200 : decode cL_law 200 = .ok (.aload_n 0, 1) := by decide +kernel
theorem dL_law_201 : decode cL_law 201 = .ok (.iload_n 3, 1) := by decide +kernel
theorem dL_law_202 : decode cL_law 202 = .ok (.iconst 2, 1) := by decide +kernel
theorem dL_law_203 : decode cL_law 203 = .ok (.iadd, 1) := by decide +kernel
theorem dL_law_204 : decode cL_law 204 = .ok (.iaload, 1) := by decide +kernel
theorem dL_law_205 : decode cL_law 205 = .ok (.aload_n 0, 1) := by decide +kernel
theorem dL_law_206 : decode cL_law 206 = .ok (.iload_n 3, 1) := by decide +kernel
theorem dL_law_207 : decode cL_law 207 = .ok (.iconst 3, 1) := by decide +kernel
theorem dL_law_208 : decode cL_law 208 = .ok (.iadd, 1) := by decide +kernel
theorem dL_law_209 : decode cL_law 209 = .ok (.iaload, 1) := by decide +kernel
theorem dL_law_210 : decode cL_law 210 = .ok (.invokevirtual 35, 3) := by decide +kernel
theorem dL_law_213 : decode cL_law 213 = .ok (.aload_n 2, 1) := by decide +kernel
theorem dL_law_214 : decode cL_law 214 = .ok (.aload_n 0, 1) := by decide +kernel
theorem dL_law_215 : decode cL_law 215 = .ok (.iload_n 3, 1) := by decide +kernel
theorem dL_law_216 : decode cL_law 216 = .ok (.iconst 1, 1) := by decide +kernel
theorem dL_law_217 : decode cL_law 217 = .ok (.iadd, 1) := by decide +kernel
theorem dL_law_218 : decode cL_law 218 = .ok (.iaload, 1) := by decide +kernel
theorem dL_law_219 : decode cL_law 219 = .ok (.aload_n 0, 1) := by decide +kernel
theorem dL_law_220 : decode cL_law 220 = .ok (.iload_n 3, 1) := by decide +kernel
theorem dL_law_221 : decode cL_law 221 = .ok (.iconst 2, 1) := by decide +kernel
theorem dL_law_222 : decode cL_law 222 = .ok (.iadd, 1) := by decide +kernel
theorem dL_law_223 : decode cL_law 223 = .ok (.iaload, 1) := by decide +kernel
theorem dL_law_224 : decode cL_law 224 = .ok (.aload_n 0, 1) := by decide +kernel
theorem dL_law_225 : decode cL_law 225 = .ok (.iload_n 3, 1) := by decide +kernel
end
section
theorem dL_law_226 : decode cL_law 226 = .ok (.iconst 3, 1) := by decide +kernel
theorem dL_law_227 : decode cL_law 227 = .ok (.iadd, 1) := by decide +kernel
theorem dL_law_228 : decode cL_law 228 = .ok (.iaload, 1) := by decide +kernel
theorem dL_law_229 : decode cL_law 229 = .ok (.invokevirtual 39, 3) := by decide +kernel
theorem dL_law_232 : decode cL_law 232 = .ok (.if_icmp .eq 327, 3) := by decide +kernel
theorem dL_law_235 : decode cL_law 235 = .ok (.iconst 0, 1) := by decide +kernel
theorem dL_law_236 : decode cL_law 236 = .ok (.ireturn, 1) := by decide +kernel
theorem dL_law_237 : decode cL_law 237 = .ok (.aload_n 1, 1) := by decide +kernel
theorem dL_law_238 : decode cL_law 238 = .ok (.aload_n 0, 1) := by decide +kernel
theorem dL_law_239 : decode cL_law 239 = .ok (.iload_n 3, 1) := by decide +kernel
theorem dL_law_240 : decode cL_law 240 = .ok (.iconst 1, 1) := by decide +kernel
theorem dL_law_241 : decode cL_law 241 = .ok (.iadd, 1) := by decide +kernel
theorem dL_law_242 : decode cL_law 242 = .ok (.iaload, 1) := by decide +kernel
theorem dL_law_243 : decode cL_law 243 = .ok (.ifCond .eq 7, 3) := by decide +kernel
theorem dL_law_246 : decode cL_law 246 = .ok (.iconst 1, 1) := by decide +kernel
theorem dL_law_247 : decode cL_law 247 = .ok (.goto 4, 3) := by decide +kernel
theorem dL_law_250 : decode cL_law 250 = .ok (.iconst 0, 1) := by decide +kernel
theorem dL_law_251 : decode cL_law 251 = .ok (.invokevirtual 40, 3) := by decide +kernel
theorem dL_law_254 : decode cL_law 254 = .ok (.aload_n 2, 1) := by decide +kernel
theorem dL_law_255 : decode cL_law 255 = .ok (.aload_n 0, 1) := by decide +kernel
theorem dL_law_256 : decode cL_law 256 = .ok (.iload_n 3, 1) := by decide +kernel
theorem dL_law_257 : decode cL_law 257 = .ok (.iconst 1, 1) := by decide +kernel
theorem dL_law_258 : decode cL_law 258 = .ok (.iadd, 1) := by decide +kernel
theorem dL_law_259 : decode cL_law 259 = .ok (.iaload, 1) := by decide +kernel
theorem dL_law_260 : decode cL_law 260 = .ok (.ifCond .eq 7, 3) := by decide +kernel
theorem dL_law_263 : decode cL_law 263 = .ok (.iconst 1, 1) := by decide +kernel
theorem dL_law_264 : decode cL_law 264 = .ok (.goto 4, 3) := by decide +kernel
theorem dL_law_267 : decode cL_law 267 = .ok (.iconst 0, 1) := by decide +kernel
theorem dL_law_268 : decode cL_law 268 = .ok (.invokevirtual 44, 3) := by decide +kernel
theorem dL_law_271 : decode cL_law 271 = .ok (.goto 288, 3) := by decide +kernel
theorem dL_law_274 : decode cL_law 274 = .ok (.aload_n 1, 1) := by decide +kernel
theorem dL_law_275 : decode cL_law 275 = .ok (.aload_n 0, 1) := by decide +kernel
theorem dL_law_276 : decode cL_law 276 = .ok (.iload_n 3, 1) := by decide +kernel
theorem dL_law_277 : decode cL_law 277 = .ok (.iconst 1, 1) := by decide +kernel
theorem dL_law_278 : decode cL_law 278 = .ok (.iadd, 1) := by decide +kernel
theorem dL_law_279 : decode cL_law 279 = .ok (.iaload, 1) := by decide +kernel
theorem dL_law_280 : decode cL_law 280 = .ok (.invokevirtual 45, 3) := by decide +kernel
theorem dL_law_283 : decode cL_law 283 = .ok (.aload_n 2, 1) := by decide +kernel
theorem dL_law_284 : decode cL_law 284 = .ok (.aload_n 0, 1) := by decide +kernel
theorem dL_law_285 : decode cL_law 285 = .ok (.iload_n 3, 1) := by decide +kernel
theorem dL_law_286 : decode cL_law 286 = .ok (.iconst 1, 1) := by decide +kernel
theorem dL_law_287 : decode cL_law 287 = .ok (.iadd, 1) := by decide +kernel
theorem dL_law_288 : decode cL_law 288 = .ok (.iaload, 1) := by decide +kernel
theorem dL_law_289 : decode cL_law 289 = .ok (.invokevirtual 49, 3) := by decide +kernel
theorem dL_law_292 : decode cL_law 292 = .ok (.if_icmp .eq 267, 3) := by decide +kernel
theorem dL_law_295 : decode cL_law 295 = .ok (.iconst 0, 1) := by decide +kernel
theorem dL_law_296 : decode cL_law 296 = .ok (.ireturn, 1) := by decide +kernel
theorem dL_law_297 : decode cL_law 297 = .ok (.aload_n 1, 1) := by decide +kernel
theorem dL_law_298 : decode cL_law 298 = .ok (.aload_n 0, 1) := by decide +kernel
theorem dL_law_299 : decode cL_law 299 = .ok (.iload_n 3, 1) := by decide +kernel
theorem dL_law_300 : decode cL_law 300 = .ok (.iconst 1, 1) := by decide +kernel
theorem dL_law_301 : decode cL_law 301 = .ok (.iadd, 1) := by decide +kernel
theorem dL_law_302 : decode cL_law 302 = .ok (.iaload, 1) := by decide +kernel
theorem dL_law_303 : decode cL_law 303 = .ok (.aload_n 0, 1) := by decide +kernel
theorem dL_law_304 : decode cL_law 304 = .ok (.iload_n 3, 1) := by decide +kernel
theorem dL_law_305 : decode cL_law 305 = .ok (.iconst 2, 1) := by decide +kernel
theorem dL_law_306 : decode cL_law 306 = .ok (.iadd, 1) := by decide +kernel
theorem dL_law_307 : decode cL_law 307 = .ok (.iaload, 1) := by decide +kernel
theorem dL_law_308 : decode cL_law 308 = .ok (.aload_n 0, 1) := by decide +kernel
theorem dL_law_309 : decode cL_law 309 = .ok (.iload_n 3, 1) := by decide +kernel
theorem dL_law_310 : decode cL_law 310 = .ok (.iconst 3, 1) := by decide +kernel
theorem dL_law_311 : decode cL_law 311 = .ok (.iadd, 1) := by decide +kernel
theorem dL_law_312 : decode cL_law 312 = .ok (.iaload, 1) := by decide +kernel
theorem dL_law_313 : decode cL_law 313 = .ok (.invokevirtual 50, 3) := by decide +kernel
theorem dL_law_316 : decode cL_law 316 = .ok (.aload_n 2, 1) := by decide +kernel
theorem dL_law_317 : decode cL_law 317 = .ok (.aload_n 0, 1) := by decide +kernel
theorem dL_law_318 : decode cL_law 318 = .ok (.iload_n 3, 1) := by decide +kernel
theorem dL_law_319 : decode cL_law 319 = .ok (.iconst 1, 1) := by decide +kernel
theorem dL_law_320 : decode cL_law 320 = .ok (.iadd, 1) := by decide +kernel
theorem dL_law_321 : decode cL_law 321 = .ok (.iaload, 1) := by decide +kernel
end
section
theorem dL_law_322 : decode cL_law 322 = .ok (.aload_n 0, 1) := by decide +kernel
theorem dL_law_323 : decode cL_law 323 = .ok (.iload_n 3, 1) := by decide +kernel
theorem dL_law_324 : decode cL_law 324 = .ok (.iconst 2, 1) := by decide +kernel
theorem dL_law_325 : decode cL_law 325 = .ok (.iadd, 1) := by decide +kernel
theorem dL_law_326 : decode cL_law 326 = .ok (.iaload, 1) := by decide +kernel
theorem dL_law_327 : decode cL_law 327 = .ok (.aload_n 0, 1) := by decide +kernel
theorem dL_law_328 : decode cL_law 328 = .ok (.iload_n 3, 1) := by decide +kernel
theorem dL_law_329 : decode cL_law 329 = .ok (.iconst 3, 1) := by decide +kernel
theorem dL_law_330 : decode cL_law 330 = .ok (.iadd, 1) := by decide +kernel
theorem dL_law_331 : decode cL_law 331 = .ok (.iaload, 1) := by decide +kernel
theorem dL_law_332 : decode cL_law 332 = .ok (.invokevirtual 54, 3) := by decide +kernel
theorem dL_law_335 : decode cL_law 335 = .ok (.lcmp, 1) := by decide +kernel
theorem dL_law_336 : decode cL_law 336 = .ok (.ifCond .eq 223, 3) := by decide +kernel
theorem dL_law_339 : decode cL_law 339 = .ok (.iconst 0, 1) := by decide +kernel
theorem dL_law_340 : decode cL_law 340 = .ok (.ireturn, 1) := by decide +kernel
theorem dL_law_341 : decode cL_law 341 = .ok (.aload_n 1, 1) := by decide +kernel
theorem dL_law_342 : decode cL_law 342 = .ok (.aload_n 0, 1) := by decide +kernel
theorem dL_law_343 : decode cL_law 343 = .ok (.iload_n 3, 1) := by decide +kernel
theorem dL_law_344 : decode cL_law 344 = .ok (.iconst 1, 1) := by decide +kernel
theorem dL_law_345 : decode cL_law 345 = .ok (.iadd, 1) := by decide +kernel
theorem dL_law_346 : decode cL_law 346 = .ok (.iaload, 1) := by decide +kernel
theorem dL_law_347 : decode cL_law 347 = .ok (.aload_n 0, 1) := by decide +kernel
theorem dL_law_348 : decode cL_law 348 = .ok (.iload_n 3, 1) := by decide +kernel
theorem dL_law_349 : decode cL_law 349 = .ok (.iconst 2, 1) := by decide +kernel
theorem dL_law_350 : decode cL_law 350 = .ok (.iadd, 1) := by decide +kernel
theorem dL_law_351 : decode cL_law 351 = .ok (.iaload, 1) := by decide +kernel
theorem dL_law_352 : decode cL_law 352 = .ok (.aload_n 0, 1) := by decide +kernel
theorem dL_law_353 : decode cL_law 353 = .ok (.iload_n 3, 1) := by decide +kernel
theorem dL_law_354 : decode cL_law 354 = .ok (.iconst 3, 1) := by decide +kernel
theorem dL_law_355 : decode cL_law 355 = .ok (.iadd, 1) := by decide +kernel
theorem dL_law_356 : decode cL_law 356 = .ok (.iaload, 1) := by decide +kernel
theorem dL_law_357 : decode cL_law 357 = .ok (.aload_n 0, 1) := by decide +kernel
theorem dL_law_358 : decode cL_law 358 = .ok (.iload_n 3, 1) := by decide +kernel
theorem dL_law_359 : decode cL_law 359 = .ok (.iconst 4, 1) := by decide +kernel
theorem dL_law_360 : decode cL_law 360 = .ok (.iadd, 1) := by decide +kernel
theorem dL_law_361 : decode cL_law 361 = .ok (.iaload, 1) := by decide +kernel
theorem dL_law_362 : decode cL_law 362 = .ok (.invokevirtual 55, 3) := by decide +kernel
theorem dL_law_365 : decode cL_law 365 = .ok (.aload_n 2, 1) := by decide +kernel
theorem dL_law_366 : decode cL_law 366 = .ok (.aload_n 0, 1) := by decide +kernel
theorem dL_law_367 : decode cL_law 367 = .ok (.iload_n 3, 1) := by decide +kernel
theorem dL_law_368 : decode cL_law 368 = .ok (.iconst 1, 1) := by decide +kernel
theorem dL_law_369 : decode cL_law 369 = .ok (.iadd, 1) := by decide +kernel
theorem dL_law_370 : decode cL_law 370 = .ok (.iaload, 1) := by decide +kernel
theorem dL_law_371 : decode cL_law 371 = .ok (.aload_n 0, 1) := by decide +kernel
theorem dL_law_372 : decode cL_law 372 = .ok (.iload_n 3, 1) := by decide +kernel
theorem dL_law_373 : decode cL_law 373 = .ok (.iconst 2, 1) := by decide +kernel
theorem dL_law_374 : decode cL_law 374 = .ok (.iadd, 1) := by decide +kernel
theorem dL_law_375 : decode cL_law 375 = .ok (.iaload, 1) := by decide +kernel
theorem dL_law_376 : decode cL_law 376 = .ok (.aload_n 0, 1) := by decide +kernel
theorem dL_law_377 : decode cL_law 377 = .ok (.iload_n 3, 1) := by decide +kernel
theorem dL_law_378 : decode cL_law 378 = .ok (.iconst 3, 1) := by decide +kernel
theorem dL_law_379 : decode cL_law 379 = .ok (.iadd, 1) := by decide +kernel
theorem dL_law_380 : decode cL_law 380 = .ok (.iaload, 1) := by decide +kernel
theorem dL_law_381 : decode cL_law 381 = .ok (.aload_n 0, 1) := by decide +kernel
theorem dL_law_382 : decode cL_law 382 = .ok (.iload_n 3, 1) := by decide +kernel
theorem dL_law_383 : decode cL_law 383 = .ok (.iconst 4, 1) := by decide +kernel
theorem dL_law_384 : decode cL_law 384 = .ok (.iadd, 1) := by decide +kernel
theorem dL_law_385 : decode cL_law 385 = .ok (.iaload, 1) := by decide +kernel
theorem dL_law_386 : decode cL_law 386 = .ok (.invokevirtual 59, 3) := by decide +kernel
theorem dL_law_389 : decode cL_law 389 = .ok (.if_icmp .eq 170, 3) := by decide +kernel
theorem dL_law_392 : decode cL_law 392 = .ok (.iconst 0, 1) := by decide +kernel
theorem dL_law_393 : decode cL_law 393 = .ok (.ireturn, 1) := by decide +kernel
theorem dL_law_394 : decode cL_law 394 = .ok (.aload_n 1, 1) := by decide +kernel
theorem dL_law_395 : decode cL_law 395 = .ok (.aload_n 0, 1) := by decide +kernel
theorem dL_law_396 : decode cL_law 396 = .ok (.iload_n 3, 1) := by decide +kernel
theorem dL_law_397 : decode cL_law 397 = .ok (.iconst 1, 1) := by decide +kernel
theorem dL_law_398 : decode cL_law 398 = .ok (.iadd, 1) := by decide +kernel
theorem dL_law_399 : decode cL_law 399 = .ok (.iaload, 1) := by decide +kernel
theorem dL_law_400 : decode cL_law 400 = .ok (.aload_n 0, 1) := by decide +kernel
theorem dL_law_401 : decode cL_law 401 = .ok (.iload_n 3, 1) := by decide +kernel
end
section
theorem dL_law_402 : decode cL_law 402 = .ok (.iconst 2, 1) := by decide +kernel
theorem dL_law_403 : decode cL_law 403 = .ok (.iadd, 1) := by decide +kernel
theorem dL_law_404 : decode cL_law 404 = .ok (.iaload, 1) := by decide +kernel
theorem dL_law_405 : decode cL_law 405 = .ok (.aload_n 0, 1) := by decide +kernel
theorem dL_law_406 : decode cL_law 406 = .ok (.iload_n 3, 1) := by decide +kernel
theorem dL_law_407 : decode cL_law 407 = .ok (.iconst 3, 1) := by decide +kernel
theorem dL_law_408 : decode cL_law 408 = .ok (.iadd, 1) := by decide +kernel
theorem dL_law_409 : decode cL_law 409 = .ok (.iaload, 1) := by decide +kernel
theorem dL_law_410 : decode cL_law 410 = .ok (.ifCond .eq 7, 3) := by decide +kernel
theorem dL_law_413 : decode cL_law 413 = .ok (.iconst 1, 1) := by decide +kernel
theorem dL_law_414 : decode cL_law 414 = .ok (.goto 4, 3) := by decide +kernel
theorem dL_law_417 : decode cL_law 417 = .ok (.iconst 0, 1) := by decide +kernel
theorem dL_law_418 : decode cL_law 418 = .ok (.invokevirtual 60, 3) := by decide +kernel
theorem dL_law_421 : decode cL_law 421 = .ok (.aload_n 2, 1) := by decide +kernel
theorem dL_law_422 : decode cL_law 422 = .ok (.aload_n 0, 1) := by decide +kernel
theorem dL_law_423 : decode cL_law 423 = .ok (.iload_n 3, 1) := by decide +kernel
theorem dL_law_424 : decode cL_law 424 = .ok (.iconst 1, 1) := by decide +kernel
theorem dL_law_425 : decode cL_law 425 = .ok (.iadd, 1) := by decide +kernel
theorem dL_law_426 : decode cL_law 426 = .ok (.iaload, 1) := by decide +kernel
theorem dL_law_427 : decode cL_law 427 = .ok (.aload_n 0, 1) := by decide +kernel
theorem dL_law_428 : decode cL_law 428 = .ok (.iload_n 3, 1) := by decide +kernel
theorem dL_law_429 : decode cL_law 429 = .ok (.iconst 2, 1) := by decide +kernel
theorem dL_law_430 : decode cL_law 430 = .ok (.iadd, 1) := by decide +kernel
theorem dL_law_431 : decode cL_law 431 = .ok (.iaload, 1) := by decide +kernel
theorem dL_law_432 : decode cL_law 432 = .ok (.aload_n 0, 1) := by decide +kernel
theorem dL_law_433 : decode cL_law 433 = .ok (.iload_n 3, 1) := by decide +kernel
theorem dL_law_434 : decode cL_law 434 = .ok (.iconst 3, 1) := by decide +kernel
theorem dL_law_435 : decode cL_law 435 = .ok (.iadd, 1) := by decide +kernel
theorem dL_law_436 : decode cL_law 436 = .ok (.iaload, 1) := by decide +kernel
theorem dL_law_437 : decode cL_law 437 = .ok (.ifCond .eq 7, 3) := by decide +kernel
theorem dL_law_440 : decode cL_law 440 = .ok (.iconst 1, 1) := by decide +kernel
theorem dL_law_441 : decode cL_law 441 = .ok (.goto 4, 3) := by decide +kernel
theorem dL_law_444 : decode cL_law 444 = .ok (.iconst 0, 1) := by decide +kernel
theorem dL_law_445 : decode cL_law 445 = .ok (.invokevirtual 64, 3) := by decide +kernel
theorem dL_law_448 : decode cL_law 448 = .ok (.if_icmp .eq 111, 3) := by decide +kernel
theorem dL_law_451 : decode cL_law 451 = .ok (.iconst 0, 1) := by decide +kernel
theorem dL_law_452 : decode cL_law 452 = .ok (.ireturn, 1) := by decide +kernel
theorem dL_law_453 : decode cL_law 453 = .ok (.aload_n 1, 1) := by decide +kernel
theorem dL_law_454 : decode cL_law 454 = .ok (.aload_n 0, 1) := by decide +kernel
theorem dL_law_455 : decode cL_law 455 = .ok (.iload_n 3, 1) := by decide +kernel
theorem dL_law_456 : decode cL_law 456 = .ok (.iconst 1, 1) := by decide +kernel
theorem dL_law_457 : decode cL_law 457 = .ok (.iadd, 1) := by decide +kernel
theorem dL_law_458 : decode cL_law 458 = .ok (.iaload, 1) := by decide +kernel
theorem dL_law_459 : decode cL_law 459 = .ok (.aload_n 0, 1) := by decide +kernel
theorem dL_law_460 : decode cL_law 460 = .ok (.iload_n 3, 1) := by decide +kernel
theorem dL_law_461 : decode cL_law 461 = .ok (.iconst 2, 1) := by decide +kernel
theorem dL_law_462 : decode cL_law 462 = .ok (.iadd, 1) := by decide +kernel
theorem dL_law_463 : decode cL_law 463 = .ok (.iaload, 1) := by decide +kernel
theorem dL_law_464 : decode cL_law 464 = .ok (.aload_n 0, 1) := by decide +kernel
theorem dL_law_465 : decode cL_law 465 = .ok (.iload_n 3, 1) := by decide +kernel
theorem dL_law_466 : decode cL_law 466 = .ok (.iconst 3, 1) := by decide +kernel
theorem dL_law_467 : decode cL_law 467 = .ok (.iadd, 1) := by decide +kernel
theorem dL_law_468 : decode cL_law 468 = .ok (.iaload, 1) := by decide +kernel
theorem dL_law_469 : decode cL_law 469 = .ok (.ifCond .eq 7, 3) := by decide +kernel
theorem dL_law_472 : decode cL_law 472 = .ok (.iconst 1, 1) := by decide +kernel
theorem dL_law_473 : decode cL_law 473 = .ok (.goto 4, 3) := by decide +kernel
theorem dL_law_476 : decode cL_law 476 = .ok (.iconst 0, 1) := by decide +kernel
theorem dL_law_477 : decode cL_law 477 = .ok (.invokevirtual 65, 3) := by decide +kernel
theorem dL_law_480 : decode cL_law 480 = .ok (.aload_n 2, 1) := by decide +kernel
theorem dL_law_481 : decode cL_law 481 = .ok (.aload_n 0, 1) := by decide +kernel
theorem dL_law_482 : decode cL_law 482 = .ok (.iload_n 3, 1) := by decide +kernel
theorem dL_law_483 : decode cL_law 483 = .ok (.iconst 1, 1) := by decide +kernel
theorem dL_law_484 : decode cL_law 484 = .ok (.iadd, 1) := by decide +kernel
theorem dL_law_485 : decode cL_law 485 = .ok (.iaload, 1) := by decide +kernel
theorem dL_law_486 : decode cL_law 486 = .ok (.aload_n 0, 1) := by decide +kernel
theorem dL_law_487 : decode cL_law 487 = .ok (.iload_n 3, 1) := by decide +kernel
theorem dL_law_488 : decode cL_law 488 = .ok (.iconst 2, 1) := by decide +kernel
theorem dL_law_489 : decode cL_law 489 = .ok (.iadd, 1) := by decide +kernel
theorem dL_law_490 : decode cL_law 490 = .ok (.iaload, 1) := by decide +kernel
theorem dL_law_491 : decode cL_law 491 = .ok (.aload_n 0, 1) := by decide +kernel
end
section
theorem dL_law_492 : decode cL_law 492 = .ok (.iload_n 3, 1) := by decide +kernel
theorem dL_law_493 : decode cL_law 493 = .ok (.iconst 3, 1) := by decide +kernel
theorem dL_law_494 : decode cL_law 494 = .ok (.iadd, 1) := by decide +kernel
theorem dL_law_495 : decode cL_law 495 = .ok (.iaload, 1) := by decide +kernel
theorem dL_law_496 : decode cL_law 496 = .ok (.ifCond .eq 7, 3) := by decide +kernel
theorem dL_law_499 : decode cL_law 499 = .ok (.iconst 1, 1) := by decide +kernel
theorem dL_law_500 : decode cL_law 500 = .ok (.goto 4, 3) := by decide +kernel
theorem dL_law_503 : decode cL_law 503 = .ok (.iconst 0, 1) := by decide +kernel
theorem dL_law_504 : decode cL_law 504 = .ok (.invokevirtual 68, 3) := by decide +kernel
theorem dL_law_507 : decode cL_law 507 = .ok (.if_icmp .eq 52, 3) := by decide +kernel
theorem dL_law_510 : decode cL_law 510 = .ok (.iconst 0, 1) := by decide +kernel
theorem dL_law_511 : decode cL_law 511 = .ok (.ireturn, 1) := by decide +kernel
theorem dL_law_512 : decode cL_law 512 = .ok (.aload_n 1, 1) := by decide +kernel
theorem dL_law_513 : decode cL_law 513 = .ok (.aload_n 0, 1) := by decide +kernel
theorem dL_law_514 : decode cL_law 514 = .ok (.iload_n 3, 1) := by decide +kernel
theorem dL_law_515 : decode cL_law 515 = .ok (.iconst 1, 1) := by decide +kernel
theorem dL_law_516 : decode cL_law 516 = .ok (.iadd, 1) := by decide +kernel
theorem dL_law_517 : decode cL_law 517 = .ok (.iaload, 1) := by decide +kernel
theorem dL_law_518 : decode cL_law 518 = .ok (.aload_n 0, 1) := by decide +kernel
theorem dL_law_519 : decode cL_law 519 = .ok (.iload_n 3, 1) := by decide +kernel
theorem dL_law_520 : decode cL_law 520 = .ok (.iconst 2, 1) := by decide +kernel
theorem dL_law_521 : decode cL_law 521 = .ok (.iadd, 1) := by decide +kernel
theorem dL_law_522 : decode cL_law 522 = .ok (.iaload, 1) := by decide +kernel
theorem dL_law_523 : decode cL_law 523 = .ok (.invokevirtual 69, 3) := by decide +kernel
theorem dL_law_526 : decode cL_law 526 = .ok (.aload_n 2, 1) := by decide +kernel
theorem dL_law_527 : decode cL_law 527 = .ok (.aload_n 0, 1) := by decide +kernel
theorem dL_law_528 : decode cL_law 528 = .ok (.iload_n 3, 1) := by decide +kernel
theorem dL_law_529 : decode cL_law 529 = .ok (.iconst 1, 1) := by decide +kernel
theorem dL_law_530 : decode cL_law 530 = .ok (.iadd, 1) := by decide +kernel
theorem dL_law_531 : decode cL_law 531 = .ok (.iaload, 1) := by decide +kernel
theorem dL_law_532 : decode cL_law 532 = .ok (.aload_n 0, 1) := by decide +kernel
theorem dL_law_533 : decode cL_law 533 = .ok (.iload_n 3, 1) := by decide +kernel
theorem dL_law_534 : decode cL_law 534 = .ok (.iconst 2, 1) := by decide +kernel
theorem dL_law_535 : decode cL_law 535 = .ok (.iadd, 1) := by decide +kernel
theorem dL_law_536 : decode cL_law 536 = .ok (.iaload, 1) := by decide +kernel
theorem dL_law_537 : decode cL_law 537 = .ok (.invokevirtual 73, 3) := by decide +kernel
theorem dL_law_540 : decode cL_law 540 = .ok (.lcmp, 1) := by decide +kernel
theorem dL_law_541 : decode cL_law 541 = .ok (.ifCond .eq 18, 3) := by decide +kernel
theorem dL_law_544 : decode cL_law 544 = .ok (.iconst 0, 1) := by decide +kernel
theorem dL_law_545 : decode cL_law 545 = .ok (.ireturn, 1) := by decide +kernel
theorem dL_law_546 : decode cL_law 546 = .ok (.aload_n 1, 1) := by decide +kernel
theorem dL_law_547 : decode cL_law 547 = .ok (.invokevirtual 74, 3) := by decide +kernel
theorem dL_law_550 : decode cL_law 550 = .ok (.aload_n 2, 1) := by decide +kernel
theorem dL_law_551 : decode cL_law 551 = .ok (.invokevirtual 78, 3) := by decide +kernel
theorem dL_law_554 : decode cL_law 554 = .ok (.if_icmp .eq 5, 3) := by decide +kernel
theorem dL_law_557 : decode cL_law 557 = .ok (.iconst 0, 1) := by decide +kernel
theorem dL_law_558 : decode cL_law 558 = .ok (.ireturn, 1) := by decide +kernel
theorem dL_law_559 : decode cL_law 559 = .ok (.iinc 3 5, 3) := by decide +kernel
theorem dL_law_562 : decode cL_law 562 = .ok (.goto (-534), 3) := by decide +kernel
theorem dL_law_565 : decode cL_law 565 = .ok (.iconst 1, 1) := by decide +kernel
theorem dL_law_566 : decode cL_law 566 = .ok (.ireturn, 1) := by decide +kernel
end
section
-- the two states tell the same
def sK (n : Nat) (kp pg ke en kpl pc : Int32) (j : Nat) : Prop := (kp = -1 ∧ pg = -1) ∨ ∃ P : Nat, P < 3072 ∧ j = (if P < 2048 then P % 8 else 8 + P % 8) ∧ kp = nI P ∧ pg = nI (16 * P) ∧ ke = en ∧ kpl = pc ∧ x_in4 n kpl
def sR (n : Nat) (σ : XS) (μ : MS) : Prop :=
  (∀ j, j < n → m_mem μ j = x_mem σ j &&& 255) ∧
  (∀ j, j < 3 → m_bas μ j = x_bas σ j ∧ m_len μ j = x_len σ j ∧ (∃ K : Nat, K < 65536 ∧ x_bas σ j = nI K) ∧ (∃ K : Nat, K < 65536 ∧ x_len σ j = nI K)) ∧
  x_mp σ = m_on μ ∧ x_fa σ = m_fa μ ∧
  (∀ j, j < 4 → x_pl σ j = m_li μ j) ∧
  (∀ j, j < 16 → m_wr μ j = x_mw j + 1 ∧ m_rd μ j = x_mr j + 1) ∧
  (∀ j, j < 16 → sK n (x_kp σ j) (m_pg μ j) (x_ke σ j) (m_en μ j) (x_kpl σ j) (m_pc μ j) j)
theorem s_xinv {n : Nat} {σ : XS} {μ : MS} (h : sR n σ μ) : x_Inv n σ := fun j hj => by
  rcases h.2.2.2.2.2.2 j hj with q | ⟨P, -, -, -, -, -, -, q⟩
  · exact Or.inl q.1
  · exact Or.inr q
theorem s_minv {n : Nat} {σ : XS} {μ : MS} (h : sR n σ μ) : m_Inv n μ := fun j hj => by
  rcases h.2.2.2.2.2.2 j hj with q | ⟨P, -, -, -, -, -, e, q⟩
  · exact Or.inl q.2
  · exact Or.inr (e ▸ q)
end
section
theorem s_put {n : Nat} {σ σ' : XS} {μ μ' : MS} {r r' : Int32} {a v : Int32} (hn : n ≤ 2048) (hR : sR n σ μ) (e1 : x_put n σ a v = (r, σ')) (e2 : m_put n μ a v = (r', μ')) : r = r' ∧ sR n σ' μ' := sorry
theorem s_entry {n : Nat} {σ σ' : XS} {μ μ' : MS} {r r' : Int32} {a v : Int32} (hn : n ≤ 2048) (hR : sR n σ μ) (e1 : x_entry n σ a v = (r, σ')) (e2 : m_entry n μ a v = (r', μ')) : r = r' ∧ sR n σ' μ' := sorry
theorem s_region {n : Nat} {σ σ' : XS} {μ μ' : MS} {r r' : Int32} {a b c : Int32} (hn : n ≤ 2048) (hR : sR n σ μ) (e1 : x_region n σ a b c = (r, σ')) (e2 : m_region n μ a b c = (r', μ')) : r = r' ∧ sR n σ' μ' := sorry
theorem s_drop {n : Nat} {σ σ' : XS} {μ μ' : MS} {r r' : Int32} {a : Int32} (hn : n ≤ 2048) (hR : sR n σ μ) (e1 : x_drop n σ a = (r, σ')) (e2 : m_drop n μ a = (r', μ')) : r = r' ∧ sR n σ' μ' := sorry
theorem s_read {n : Nat} {σ σ' : XS} {μ μ' : MS} {r r' : Int64} {a b c : Int32} (hn : n ≤ 2048) (hR : sR n σ μ) (e1 : x_read n σ a b c = (r, σ')) (e2 : m_read n μ a b c = (r', μ')) : r = r' ∧ sR n σ' μ' := sorry
theorem s_write {n : Nat} {σ σ' : XS} {μ μ' : MS} {r r' : Int32} {a b c d : Int32} (hn : n ≤ 2048) (hR : sR n σ μ) (e1 : x_write n σ a b c d = (r, σ')) (e2 : m_write n μ a b c d = (r', μ')) : r = r' ∧ sR n σ' μ' := sorry
theorem s_where {n : Nat} {σ σ' : XS} {μ μ' : MS} {r r' : Int32} {a b c : Int32} (hn : n ≤ 2048) (hR : sR n σ μ) (e1 : x_where n σ a b c = (r, σ')) (e2 : m_where n μ a b c = (r', μ')) : r = r' ∧ sR n σ' μ' := sorry
theorem s_may {n : Nat} {σ σ' : XS} {μ μ' : MS} {r r' : Int32} {a b c : Int32} (hn : n ≤ 2048) (hR : sR n σ μ) (e1 : x_may n σ a b c = (r, σ')) (e2 : m_may n μ a b c = (r', μ')) : r = r' ∧ sR n σ' μ' := sorry
theorem s_map {n : Nat} {σ σ' : XS} {μ μ' : MS} {b : Int32} (hn : n ≤ 2048) (hR : sR n σ μ) (e1 : x_map n σ b = σ') (e2 : m_map n μ b = μ') : sR n σ' μ' := sorry
theorem s_entryOf {n : Nat} {σ : XS} {μ : MS} {a : Int32} (hn : n ≤ 2048) (hR : sR n σ μ) : x_entryOf n σ a = m_entryOf n μ a := sorry
theorem s_kept {n : Nat} {σ : XS} {μ : MS} {a b : Int32} (hn : n ≤ 2048) (hR : sR n σ μ) : x_kept n σ a b = m_kept n μ a b := sorry
theorem s_failed {n : Nat} {σ : XS} {μ : MS} (hn : n ≤ 2048) (hR : sR n σ μ) : x_failed n σ = m_failed n μ := sorry
theorem s_init (v : Int32) : sR (x_n v) x_init (m_ini (x_n v) m_mu0 0) ∧ x_n v ≤ 2048 := sorry
end
section
/-! THE CLAIM OUT OF ONE WALK OF THE LAW'S BODY. Your part is whole_start (and what it stands on); all else here is the same for every law, but numbers. -/
def R_law : String := "KeptPagesLaw"
def lw_P (b : Addr) (xs : List Int32) (args : Array Value) (s : State) : Prop := args = #[.ref b] ∧ s.IntsAt b xs ∧ xs.length ≤ 2561 ∧ (Jvm.Cond.and given_1 narrow_1).before args s = true
def lw_Q (_ : Array Value) (s : State) (o : Outcome) (t : State) : Prop := o = .returned (some (.int 1)) ∧ Framed s o t [] 600000 7302250
def lw_Z (below : List Frame) (a : Array Value) (s : State) : State → Prop := fun t => ∃ o, t.status = .running ∧ Ended t below o ∧ lw_Q a s o t
/-- the law's own end, with 1 on the stack, nothing written that was there before, its room as the claim has it -/
theorem lw_ret {p : Program} {l : Launch} {e : Env} {s : State} {m : MethodId} {below : List Frame} {meth : Method} {c : Code} {b : Nat} (hx : p.tables.exec = Jvm.exec) (hb : c.code = code) (hr : meth.sig.returnType = ret) (hlocks : meth.locks = false) {pc : Nat} {H : Heap} {ls : Array Slot} (hdg : decode code pc = .ok (.ireturn, 1)) : W p l e room_1 s m #[Value.ref b] below meth c H [] 600000 7302250 (lw_Z below #[Value.ref b] s) (F0 m pc ls [.int 1]) := by
  intro T hT X
  obtain ⟨fs, hret, hrun, hended, hW, hframe⟩ := X.leave (v := some (.int 1)) (hlocks := hlocks) (fun h => by rw [hr] at h; cases h)
  have hmeth' : T.vm.method? m = some meth := X.method'
  refine ⟨T.setFrames fs, ?_, .returned (some (.int 1)), hrun, hended, rfl, ⟨_, rfl⟩, hW, hframe⟩
  jvm_step X.here [X.here.top, hx, hb, hdg, hmeth', hr, ret, narrow_b1]
  (try refine ⟨rfl, ?_⟩); (try refine ⟨rfl, ?_⟩)
  first | (intro acts; rw [hret _ acts rfl rfl rfl]) | rw [hret _ _ rfl rfl rfl]
  exact Steps.refl _
/-- what holds at the law's entry: the machine, the code, the tables' words (any of lw_tbl by 'hts w (by decide +kernel)'), the script of L ints xs at the cell b, what the Statement gives of the start (any of its parts by flat_of_before) -/
def lw_At (p : Program) (s : State) (m : MethodId) (meth : Method) (c : Code) (b L : Nat) (xs : Nat → Int32) : Prop :=
  p.tables.exec = Jvm.exec ∧ c.code = code ∧ meth.sig.returnType = ret ∧ c.maxLocals = 4 ∧ s.vm.findClass R_law = some m.cls ∧ (∀ w ∈ lw_tbl, w.before #[Value.ref b] s = true) ∧ va_X b L xs s s.heap ∧ b < s.heap.size ∧ meth.locks = false ∧ (Jvm.Cond.and given_1 narrow_1).before #[Value.ref b] s = true
theorem lw_ST {s : State} {b : Nat} (hts : ∀ w ∈ lw_tbl, w.before #[Value.ref b] s = true) (hgv : (Jvm.Cond.and given_1 narrow_1).before #[Value.ref b] s = true) : ∃ tw tr : Nat, x_ST tw tr (fun q => s.heap.size ≤ q) s s.heap := sorry
abbrev lw_ws (h : Nat → Nat) (cB cI : ClassId) (g : Nat → Nat) (cM : ClassId) (n : Nat) (σ : XS) (μ : MS) : va_W := x_ws h cB cI n σ ++ m_ws g cM n μ
abbrev lw_tys (cB cI cM : ClassId) : List (ClassId × FieldType) := [(cB, .byte), (cI, .int), (cM, .int)]
abbrev lw_A (s : State) : Nat → Prop := fun q => s.heap.size ≤ q
section LW
variable {dC : Nat → ClassId} {dI : Nat → Nat → Nat} {h g : Nat → Nat} {cB cI cM : ClassId} {n : Nat} {σ : XS} {μ : MS} {s : State} {H : Heap} {A : Nat → Prop} {locs : List Loc}
variable {p : Program} {l : Launch} {e : Env} {R : Room} {m : MethodId} {args : Array Value} {below : List Frame} {meth : Method} {c : Code} {cells slots : Nat} {Q : State → Prop} {pc : Nat} {ls : Array Slot} {rest st0 : List Value} {a : Array Value}
theorem lw_xP (hP : va_P (dC, dI) vwCl (lw_ws h cB cI g cM n σ μ) H) : va_P (dC, dI) vwCl (x_ws h cB cI n σ) H := hP.sub [0, 1, 2, 3, 4, 5, 6, 7] rfl
theorem lw_mP (hP : va_P (dC, dI) vwCl (lw_ws h cB cI g cM n σ μ) H) : va_P (dC, dI) vwCl (m_ws g cM n μ) H := hP.sub [8, 9, 10, 11, 12, 13, 14, 15, 16, 17] rfl
theorem lw_xD (hD : va_D A (lw_ws h cB cI g cM n σ μ)) : va_D A (x_ws h cB cI n σ) := hD.sub [0, 1, 2, 3, 4, 5, 6, 7] (by decide) rfl
theorem lw_mD (hD : va_D A (lw_ws h cB cI g cM n σ μ)) : va_D A (m_ws g cM n μ) := hD.sub [8, 9, 10, 11, 12, 13, 14, 15, 16, 17] (by decide) rfl
theorem lw_xK (hK : va_K (dC, dI) vwCl (lw_tys cB cI cM) s) : va_K (dC, dI) vwCl (x_tys cB cI) s := hK.sub [0, 1] rfl
theorem lw_mK (hK : va_K (dC, dI) vwCl (lw_tys cB cI cM) s) : va_K (dC, dI) vwCl (m_tys cM) s := hK.sub [2] rfl
theorem lw_xcalli {f : Int32 × XS} (hr : va_Run p l e R s m args below meth c H locs cells slots 0 0 (F0 m pc ls st0) rest (va_Qi (fun (r : Int32) (u : XS) => f = (r, u)) (x_at dC dI h cB cI n (va_A (x_ws h cB cI n σ) H.size)) (va_A (x_ws h cB cI n σ) H.size) a) (va_A (x_ws h cB cI n σ) H.size)) (hP : va_P (dC, dI) vwCl (lw_ws h cB cI g cM n σ μ) H) (hD : va_D A (lw_ws h cB cI g cM n σ μ)) (hS : va_S A s.heap H locs) (hA : ∀ q : Nat, s.heap.size ≤ q → A q)
    (kk : ∀ (r : Int32) (u : XS) (H1 : Heap) (locs1 : List Loc), f = (r, u) → va_P (dC, dI) vwCl (lw_ws h cB cI g cM n u μ) H1 → va_D A (lw_ws h cB cI g cM n u μ) → va_S A s.heap H1 locs1 → W p l e R s m args below meth c H1 locs1 cells slots Q (F0 m (pc + 3) ls (.int r :: rest))) : W p l e R s m args below meth c H locs cells slots Q (F0 m pc ls st0) := by
  have hF := va_free (wc := (x_ws h cB cI n σ)) hD hS hA [0, 1, 2, 3, 4, 5, 6, 7] rfl
  refine va_calli hr hS (fun q _ z => hF q z) hF (fun r u t H1 locs ht hvm hw hB hz1 hk1 hS => ?_)
  obtain ⟨hP1, hK1, hD1⟩ := hB
  rw [ht] at hP1
  obtain ⟨hP2, hD2⟩ := va_join (wr := m_ws g cM n μ) (w1 := x_ws h cB cI n u) hP hD [0, 1, 2, 3, 4, 5, 6, 7] [8, 9, 10, 11, 12, 13, 14, 15, 16, 17] rfl rfl (by decide) (by decide) hk1 hF hP1 hD1
  exact kk r u H1 locs hw (hP2.sub [10, 11, 12, 13, 14, 15, 16, 17, 0, 1, 2, 3, 4, 5, 6, 7, 8, 9] rfl) (hD2.sub [10, 11, 12, 13, 14, 15, 16, 17, 0, 1, 2, 3, 4, 5, 6, 7, 8, 9] (by decide) rfl) hS
theorem lw_xcalll {f : Int64 × XS} (hr : va_Run p l e R s m args below meth c H locs cells slots 0 0 (F0 m pc ls st0) rest (va_Ql (fun (r : Int64) (u : XS) => f = (r, u)) (x_at dC dI h cB cI n (va_A (x_ws h cB cI n σ) H.size)) (va_A (x_ws h cB cI n σ) H.size) a) (va_A (x_ws h cB cI n σ) H.size)) (hP : va_P (dC, dI) vwCl (lw_ws h cB cI g cM n σ μ) H) (hD : va_D A (lw_ws h cB cI g cM n σ μ)) (hS : va_S A s.heap H locs) (hA : ∀ q : Nat, s.heap.size ≤ q → A q)
    (kk : ∀ (r : Int64) (u : XS) (H1 : Heap) (locs1 : List Loc), f = (r, u) → va_P (dC, dI) vwCl (lw_ws h cB cI g cM n u μ) H1 → va_D A (lw_ws h cB cI g cM n u μ) → va_S A s.heap H1 locs1 → W p l e R s m args below meth c H1 locs1 cells slots Q (F0 m (pc + 3) ls (.long r :: rest))) : W p l e R s m args below meth c H locs cells slots Q (F0 m pc ls st0) := by
  have hF := va_free (wc := (x_ws h cB cI n σ)) hD hS hA [0, 1, 2, 3, 4, 5, 6, 7] rfl
  refine va_calll hr hS (fun q _ z => hF q z) hF (fun r u t H1 locs ht hvm hw hB hz1 hk1 hS => ?_)
  obtain ⟨hP1, hK1, hD1⟩ := hB
  rw [ht] at hP1
  obtain ⟨hP2, hD2⟩ := va_join (wr := m_ws g cM n μ) (w1 := x_ws h cB cI n u) hP hD [0, 1, 2, 3, 4, 5, 6, 7] [8, 9, 10, 11, 12, 13, 14, 15, 16, 17] rfl rfl (by decide) (by decide) hk1 hF hP1 hD1
  exact kk r u H1 locs hw (hP2.sub [10, 11, 12, 13, 14, 15, 16, 17, 0, 1, 2, 3, 4, 5, 6, 7, 8, 9] rfl) (hD2.sub [10, 11, 12, 13, 14, 15, 16, 17, 0, 1, 2, 3, 4, 5, 6, 7, 8, 9] (by decide) rfl) hS
theorem lw_xcallv {f : XS} (hr : va_Run p l e R s m args below meth c H locs cells slots 0 0 (F0 m pc ls st0) rest (va_Qv (fun (u : XS) => f = u) (x_at dC dI h cB cI n (va_A (x_ws h cB cI n σ) H.size)) (va_A (x_ws h cB cI n σ) H.size) a) (va_A (x_ws h cB cI n σ) H.size)) (hP : va_P (dC, dI) vwCl (lw_ws h cB cI g cM n σ μ) H) (hD : va_D A (lw_ws h cB cI g cM n σ μ)) (hS : va_S A s.heap H locs) (hA : ∀ q : Nat, s.heap.size ≤ q → A q)
    (kk : ∀ (u : XS) (H1 : Heap) (locs1 : List Loc), f = u → va_P (dC, dI) vwCl (lw_ws h cB cI g cM n u μ) H1 → va_D A (lw_ws h cB cI g cM n u μ) → va_S A s.heap H1 locs1 → W p l e R s m args below meth c H1 locs1 cells slots Q (F0 m (pc + 3) ls (rest))) : W p l e R s m args below meth c H locs cells slots Q (F0 m pc ls st0) := by
  have hF := va_free (wc := (x_ws h cB cI n σ)) hD hS hA [0, 1, 2, 3, 4, 5, 6, 7] rfl
  refine va_callv hr hS (fun q _ z => hF q z) hF (fun u t H1 locs ht hvm hw hB hz1 hk1 hS => ?_)
  obtain ⟨hP1, hK1, hD1⟩ := hB
  rw [ht] at hP1
  obtain ⟨hP2, hD2⟩ := va_join (wr := m_ws g cM n μ) (w1 := x_ws h cB cI n u) hP hD [0, 1, 2, 3, 4, 5, 6, 7] [8, 9, 10, 11, 12, 13, 14, 15, 16, 17] rfl rfl (by decide) (by decide) hk1 hF hP1 hD1
  exact kk u H1 locs hw (hP2.sub [10, 11, 12, 13, 14, 15, 16, 17, 0, 1, 2, 3, 4, 5, 6, 7, 8, 9] rfl) (hD2.sub [10, 11, 12, 13, 14, 15, 16, 17, 0, 1, 2, 3, 4, 5, 6, 7, 8, 9] (by decide) rfl) hS
theorem lw_mcalli {f : Int32 × MS} (hr : va_Run p l e R s m args below meth c H locs cells slots 0 0 (F0 m pc ls st0) rest (va_Qi (fun (r : Int32) (u : MS) => f = (r, u)) (m_at dC dI g cM n (va_A (m_ws g cM n μ) H.size)) (va_A (m_ws g cM n μ) H.size) a) (va_A (m_ws g cM n μ) H.size)) (hP : va_P (dC, dI) vwCl (lw_ws h cB cI g cM n σ μ) H) (hD : va_D A (lw_ws h cB cI g cM n σ μ)) (hS : va_S A s.heap H locs) (hA : ∀ q : Nat, s.heap.size ≤ q → A q)
    (kk : ∀ (r : Int32) (u : MS) (H1 : Heap) (locs1 : List Loc), f = (r, u) → va_P (dC, dI) vwCl (lw_ws h cB cI g cM n σ u) H1 → va_D A (lw_ws h cB cI g cM n σ u) → va_S A s.heap H1 locs1 → W p l e R s m args below meth c H1 locs1 cells slots Q (F0 m (pc + 3) ls (.int r :: rest))) : W p l e R s m args below meth c H locs cells slots Q (F0 m pc ls st0) := by
  have hF := va_free (wc := (m_ws g cM n μ)) hD hS hA [8, 9, 10, 11, 12, 13, 14, 15, 16, 17] rfl
  refine va_calli hr hS (fun q _ z => hF q z) hF (fun r u t H1 locs ht hvm hw hB hz1 hk1 hS => ?_)
  obtain ⟨hP1, hK1, hD1⟩ := hB
  rw [ht] at hP1
  obtain ⟨hP2, hD2⟩ := va_join (wr := x_ws h cB cI n σ) (w1 := m_ws g cM n u) hP hD [8, 9, 10, 11, 12, 13, 14, 15, 16, 17] [0, 1, 2, 3, 4, 5, 6, 7] rfl rfl (by decide) (by decide) hk1 hF hP1 hD1
  exact kk r u H1 locs hw (hP2.sub [0, 1, 2, 3, 4, 5, 6, 7, 8, 9, 10, 11, 12, 13, 14, 15, 16, 17] rfl) (hD2.sub [0, 1, 2, 3, 4, 5, 6, 7, 8, 9, 10, 11, 12, 13, 14, 15, 16, 17] (by decide) rfl) hS
theorem lw_mcalll {f : Int64 × MS} (hr : va_Run p l e R s m args below meth c H locs cells slots 0 0 (F0 m pc ls st0) rest (va_Ql (fun (r : Int64) (u : MS) => f = (r, u)) (m_at dC dI g cM n (va_A (m_ws g cM n μ) H.size)) (va_A (m_ws g cM n μ) H.size) a) (va_A (m_ws g cM n μ) H.size)) (hP : va_P (dC, dI) vwCl (lw_ws h cB cI g cM n σ μ) H) (hD : va_D A (lw_ws h cB cI g cM n σ μ)) (hS : va_S A s.heap H locs) (hA : ∀ q : Nat, s.heap.size ≤ q → A q)
    (kk : ∀ (r : Int64) (u : MS) (H1 : Heap) (locs1 : List Loc), f = (r, u) → va_P (dC, dI) vwCl (lw_ws h cB cI g cM n σ u) H1 → va_D A (lw_ws h cB cI g cM n σ u) → va_S A s.heap H1 locs1 → W p l e R s m args below meth c H1 locs1 cells slots Q (F0 m (pc + 3) ls (.long r :: rest))) : W p l e R s m args below meth c H locs cells slots Q (F0 m pc ls st0) := by
  have hF := va_free (wc := (m_ws g cM n μ)) hD hS hA [8, 9, 10, 11, 12, 13, 14, 15, 16, 17] rfl
  refine va_calll hr hS (fun q _ z => hF q z) hF (fun r u t H1 locs ht hvm hw hB hz1 hk1 hS => ?_)
  obtain ⟨hP1, hK1, hD1⟩ := hB
  rw [ht] at hP1
  obtain ⟨hP2, hD2⟩ := va_join (wr := x_ws h cB cI n σ) (w1 := m_ws g cM n u) hP hD [8, 9, 10, 11, 12, 13, 14, 15, 16, 17] [0, 1, 2, 3, 4, 5, 6, 7] rfl rfl (by decide) (by decide) hk1 hF hP1 hD1
  exact kk r u H1 locs hw (hP2.sub [0, 1, 2, 3, 4, 5, 6, 7, 8, 9, 10, 11, 12, 13, 14, 15, 16, 17] rfl) (hD2.sub [0, 1, 2, 3, 4, 5, 6, 7, 8, 9, 10, 11, 12, 13, 14, 15, 16, 17] (by decide) rfl) hS
theorem lw_mcallv {f : MS} (hr : va_Run p l e R s m args below meth c H locs cells slots 0 0 (F0 m pc ls st0) rest (va_Qv (fun (u : MS) => f = u) (m_at dC dI g cM n (va_A (m_ws g cM n μ) H.size)) (va_A (m_ws g cM n μ) H.size) a) (va_A (m_ws g cM n μ) H.size)) (hP : va_P (dC, dI) vwCl (lw_ws h cB cI g cM n σ μ) H) (hD : va_D A (lw_ws h cB cI g cM n σ μ)) (hS : va_S A s.heap H locs) (hA : ∀ q : Nat, s.heap.size ≤ q → A q)
    (kk : ∀ (u : MS) (H1 : Heap) (locs1 : List Loc), f = u → va_P (dC, dI) vwCl (lw_ws h cB cI g cM n σ u) H1 → va_D A (lw_ws h cB cI g cM n σ u) → va_S A s.heap H1 locs1 → W p l e R s m args below meth c H1 locs1 cells slots Q (F0 m (pc + 3) ls (rest))) : W p l e R s m args below meth c H locs cells slots Q (F0 m pc ls st0) := by
  have hF := va_free (wc := (m_ws g cM n μ)) hD hS hA [8, 9, 10, 11, 12, 13, 14, 15, 16, 17] rfl
  refine va_callv hr hS (fun q _ z => hF q z) hF (fun u t H1 locs ht hvm hw hB hz1 hk1 hS => ?_)
  obtain ⟨hP1, hK1, hD1⟩ := hB
  rw [ht] at hP1
  obtain ⟨hP2, hD2⟩ := va_join (wr := x_ws h cB cI n σ) (w1 := m_ws g cM n u) hP hD [8, 9, 10, 11, 12, 13, 14, 15, 16, 17] [0, 1, 2, 3, 4, 5, 6, 7] rfl rfl (by decide) (by decide) hk1 hF hP1 hD1
  exact kk u H1 locs hw (hP2.sub [0, 1, 2, 3, 4, 5, 6, 7, 8, 9, 10, 11, 12, 13, 14, 15, 16, 17] rfl) (hD2.sub [0, 1, 2, 3, 4, 5, 6, 7, 8, 9, 10, 11, 12, 13, 14, 15, 16, 17] (by decide) rfl) hS
end LW
theorem lg_eq {x y : Int64} (h : x = y) : lg_cmp x y = 0 := by subst h; unfold lg_cmp; rw [if_neg (fun h => Int64.lt_irrefl h), if_pos rfl]
theorem lw_fit {L i : Nat} (hL : L ≤ 2561) (hi : i ≤ 2600) (c : ¬ (Int32.ofNat L - 5) < nI i) : i + 5 ≤ L := by
  have h5 : (nI L - nI 5).toInt = (L : Int) - (5 : Nat) := pk_sub_toInt (a := L) (b := 5) (by omega) (by decide)
  have c2 : ¬ (nI L - nI 5) < nI i := c
  rw [Int32.lt_iff_toInt_lt, h5, nI_toInt (by omega)] at c2
  omega
theorem lw_ix {L j k : Nat} {i : Int32} (ei : i = nI j) (hL : L ≤ 2561) (h : j + 5 ≤ L) (hk : k < 5) : vp_in (i + nI k) L := by rw [ei, nI_add]; exact vp_in_nI (by omega) (by omega)
theorem lw_ix0 {L j : Nat} {i : Int32} (ei : i = nI j) (hL : L ≤ 2561) (h : j + 5 ≤ L) : vp_in i L := by rw [ei]; exact vp_in_nI (by omega) (by omega)
def lw_cell (L : Nat) (xs : Nat → Int32) (k : Int32) : Int32 := if (Int32.ofNat L) ≤ k then 0 else xs k.toNatClampNeg
set_option maxHeartbeats 4000000 in
set_option maxRecDepth 100000 in
theorem c_L_cell (l : Launch) (b L : Nat) (xs : Nat → Int32) (hL : L ≤ 2561) (k : Int32) (hk : ¬ k < 0) : Met l yL_cell wsL_cell ({ frames := 0, cells := 0, slots := 0, locals := 0 }) (va_Pc [.ref b, .int k] (fun U => va_X b L xs U U.heap ∧ b < U.heap.size)) (vp_Si (fun r => lw_cell L xs k = r)) 0 0 (fun _ => False) := by
  refine Met.ofW (cc := cL_cell) (maxL := 2) (ret := (some .int)) (by decide) rfl ?_
  intro p e s m args below meth c s₁ B hml hv
  obtain ⟨rfl, hX, hbl⟩ := hv
  have hx := B.exec
  have hb := B.bytes
  have hr := B.returns
  have hlocks := B.notSynchronized
  have hS : va_S (fun _ => False) s.heap s.heap [] := va_S.rf
  have hl := lv_entry ([.ref b, .int k]) (n := 2) (Nat.le_of_ble_eq_true rfl)
  rw [lg_entry_eq]
  generalize (lg_sl ([.ref b, .int k]) ++ List.replicate (2 - (lg_sl ([.ref b, .int k])).length) Slot.unset).toArray = ls at hl ⊢
  have hl : lv_has ls 2 [(0, .ref b), (1, .int k)] := hl
  refine lv_iload_n hx hb dL_cell_0 rfl (lv_at hl 1 rfl) ?_
  refine lv_aload_n hx hb dL_cell_1 rfl (lv_at hl 0 rfl) ?_
  refine va_slen hx hb hX hbl (A := fun _ => False) (fun z => z) hS dL_cell_2 ?_
  refine lv_icmp_ge (tgt := 12) hx hb dL_cell_3 (by decide) (fun c_1 => ?_) (fun c_1 => ?_)
  · refine lv_iconst (v := 0) hx hb dL_cell_12 (by decide) ?_
    exact W.iret (v := 0) hx hb hr (fun t ht _ => ⟨0, rfl, if_pos c_1, ht⟩) t_nil dL_cell_13
  · refine lv_aload_n hx hb dL_cell_6 rfl (lv_at hl 0 rfl) ?_
    refine lv_iload_n hx hb dL_cell_7 rfl (lv_at hl 1 rfl) ?_
    have hin : vp_in k L := by
      obtain ⟨j, hj, rfl⟩ := nI_of hk
      refine vp_in_nI ?_ (by omega)
      rcases Nat.lt_or_ge j L with q | q
      · exact q
      · exact absurd (nI_le q hj) c_1
    refine va_sld hx hb hX hbl (A := fun _ => False) (fun z => z) hS hin dL_cell_8 ?_
    refine lv_goto (tgt := 13) hx hb dL_cell_9 (by decide) ?_
    exact W.iret (v := xs k.toNatClampNeg) hx hb hr (fun t ht _ => ⟨xs k.toNatClampNeg, rfl, if_neg c_1, ht⟩) t_nil dL_cell_13
end
section
set_option maxHeartbeats 8000000 in
set_option maxRecDepth 100000 in
theorem law_put {p : Program} {l : Launch} {e : Env} {s : State} {m : MethodId} {below : List Frame} {meth : Method} {c : Code} {dC : Nat → ClassId} {dI : Nat → Nat → Nat} {b L : Nat} {xs : Nat → Int32} (hL : L ≤ 2561) (C0 : lw_At p s m meth c b L xs) {h g : Nat → Nat} {cB cI cM : ClassId} {n tw tr : Nat} (hn : n ≤ 2048) (hK : va_K (dC, dI) vwCl (lw_tys cB cI cM) s) (hST : x_ST tw tr (lw_A s) s s.heap) {σ : XS} {μ : MS} {H : Heap} {locs : List Loc} {ls : Array Slot} {i : Int32} {j : Nat} (ei : i = nI j) (hfit : j + 5 ≤ L) (hR : sR n σ μ) (hP : va_P (dC, dI) vwCl (lw_ws h cB cI g cM n σ μ) H) (hD : va_D (lw_A s) (lw_ws h cB cI g cM n σ μ)) (hS : va_S (lw_A s) s.heap H locs) (hl : lv_has ls 4 [(0, .ref b), (1, .ref (h 0)), (2, .ref (g 0)), (3, .int i)]) (kk : ∀ (σ : XS) (μ : MS) (H : Heap) (locs : List Loc) (ls : Array Slot), sR n σ μ → va_P (dC, dI) vwCl (lw_ws h cB cI g cM n σ μ) H → va_D (lw_A s) (lw_ws h cB cI g cM n σ μ) → va_S (lw_A s) s.heap H locs → lv_has ls 4 [(0, .ref b), (1, .ref (h 0)), (2, .ref (g 0)), (3, .int i)] → W p l e room_1 s m #[Value.ref b] below meth c H locs 18 4267 (lw_Z below #[Value.ref b] s) (F0 m 559 ls [])) : W p l e room_1 s m #[Value.ref b] below meth c H locs 18 4267 (lw_Z below #[Value.ref b] s) (F0 m 104 ls []) := by
  obtain ⟨hx, hb, hr, hml, hown0, hts, hX, hbl, hlocks, hgv⟩ := C0
  have hown : s.vm.findClass RL = some m.cls := hown0
  have hA : ∀ q : Nat, s.heap.size ≤ q → (lw_A s) q := fun _ h => h
  have hbA : ¬ (lw_A s) b := Nat.not_le.mpr hbl
  refine lv_aload_n hx hb dL_law_104 rfl (lv_at hl 1 rfl) ?_
  refine lv_aload_n hx hb dL_law_105 rfl (lv_at hl 0 rfl) ?_
  refine lv_iload_n hx hb dL_law_106 rfl (lv_at hl 3 rfl) ?_
  refine lv_iconst (v := 1) hx hb dL_law_107 (by decide) ?_
  refine lv_iadd hx hb dL_law_108 ?_
  refine va_sld hx hb hX hbl hbA hS (lw_ix (k := 1) ei hL hfit (by decide)) dL_law_109 ?_
  refine lv_aload_n hx hb dL_law_110 rfl (lv_at hl 0 rfl) ?_
  refine lv_iload_n hx hb dL_law_111 rfl (lv_at hl 3 rfl) ?_
  refine lv_iconst (v := 2) hx hb dL_law_112 (by decide) ?_
  refine lv_iadd hx hb dL_law_113 ?_
  refine va_sld hx hb hX hbl hbA hS (lw_ix (k := 2) ei hL hfit (by decide)) dL_law_114 ?_
  refine lw_xcalli (f := x_put n σ (xs ((i + 1)).toNatClampNeg) (xs ((i + 2)).toNatClampNeg)) (va_runV (C := RX0) (As := [.int (xs ((i + 1)).toNatClampNeg), .int (xs ((i + 2)).toNatClampNeg)]) (rest := []) ⟨hx, hb, hml, hown, hts⟩ (c_x_put l dC dI h cB cI n _ σ (xs ((i + 1)).toNatClampNeg) (xs ((i + 2)).toNatClampNeg) hn) (cwV 2 hts gL_X0_put rfl rfl rfl (by decide +kernel) ⟨Nat.le_of_ble_eq_true rfl, Nat.le_of_ble_eq_true rfl⟩) (x_preM (lw_xK hK) (lw_xP hP) (lw_xD hD)) rfl rfl hl.1 rfl (lv_room (Nat.le_of_ble_eq_true rfl)) dL_law_115 ⟨Nat.le_of_ble_eq_true rfl, Nat.le_of_ble_eq_true rfl⟩) hP hD hS hA (fun r_3 u_1 H locs e_2 hP hD hS => ?_)
  refine lv_aload_n hx hb dL_law_118 rfl (lv_at hl 2 rfl) ?_
  refine lv_aload_n hx hb dL_law_119 rfl (lv_at hl 0 rfl) ?_
  refine lv_iload_n hx hb dL_law_120 rfl (lv_at hl 3 rfl) ?_
  refine lv_iconst (v := 1) hx hb dL_law_121 (by decide) ?_
  refine lv_iadd hx hb dL_law_122 ?_
  refine va_sld hx hb hX hbl hbA hS (lw_ix (k := 1) ei hL hfit (by decide)) dL_law_123 ?_
  refine lv_aload_n hx hb dL_law_124 rfl (lv_at hl 0 rfl) ?_
  refine lv_iload_n hx hb dL_law_125 rfl (lv_at hl 3 rfl) ?_
  refine lv_iconst (v := 2) hx hb dL_law_126 (by decide) ?_
  refine lv_iadd hx hb dL_law_127 ?_
  refine va_sld hx hb hX hbl hbA hS (lw_ix (k := 2) ei hL hfit (by decide)) dL_law_128 ?_
  refine lw_mcalli (f := m_put n μ (xs ((i + 1)).toNatClampNeg) (xs ((i + 2)).toNatClampNeg)) (va_runV (C := RX1) (As := [.int (xs ((i + 1)).toNatClampNeg), .int (xs ((i + 2)).toNatClampNeg)]) (rest := [.int r_3]) ⟨hx, hb, hml, hown, hts⟩ (c_m_put l dC dI g cM n _ μ (xs ((i + 1)).toNatClampNeg) (xs ((i + 2)).toNatClampNeg) hn) (cwV 2 hts gL_X1_put rfl rfl rfl (by decide +kernel) ⟨Nat.le_of_ble_eq_true rfl, Nat.le_of_ble_eq_true rfl⟩) (m_preM (lw_mK hK) (lw_mP hP) (lw_mD hD)) rfl rfl hl.1 rfl (lv_room (Nat.le_of_ble_eq_true rfl)) dL_law_129 ⟨Nat.le_of_ble_eq_true rfl, Nat.le_of_ble_eq_true rfl⟩) hP hD hS hA (fun r_6 u_4 H locs e_5 hP hD hS => ?_)
  obtain ⟨er, hR2⟩ := s_put hn hR e_2 e_5
  refine lv_icmp_eq (tgt := 559) hx hb dL_law_132 (by decide) (fun _ => ?_) (fun c_7 => absurd er c_7)
  exact kk u_1 u_4 H locs ls hR2 hP hD hS (lv_sub hl [0, 1, 2, 3] rfl)
set_option maxHeartbeats 8000000 in
set_option maxRecDepth 100000 in
theorem law_entry {p : Program} {l : Launch} {e : Env} {s : State} {m : MethodId} {below : List Frame} {meth : Method} {c : Code} {dC : Nat → ClassId} {dI : Nat → Nat → Nat} {b L : Nat} {xs : Nat → Int32} (hL : L ≤ 2561) (C0 : lw_At p s m meth c b L xs) {h g : Nat → Nat} {cB cI cM : ClassId} {n tw tr : Nat} (hn : n ≤ 2048) (hK : va_K (dC, dI) vwCl (lw_tys cB cI cM) s) (hST : x_ST tw tr (lw_A s) s s.heap) {σ : XS} {μ : MS} {H : Heap} {locs : List Loc} {ls : Array Slot} {i : Int32} {j : Nat} (ei : i = nI j) (hfit : j + 5 ≤ L) (hR : sR n σ μ) (hP : va_P (dC, dI) vwCl (lw_ws h cB cI g cM n σ μ) H) (hD : va_D (lw_A s) (lw_ws h cB cI g cM n σ μ)) (hS : va_S (lw_A s) s.heap H locs) (hl : lv_has ls 4 [(0, .ref b), (1, .ref (h 0)), (2, .ref (g 0)), (3, .int i)]) (kk : ∀ (σ : XS) (μ : MS) (H : Heap) (locs : List Loc) (ls : Array Slot), sR n σ μ → va_P (dC, dI) vwCl (lw_ws h cB cI g cM n σ μ) H → va_D (lw_A s) (lw_ws h cB cI g cM n σ μ) → va_S (lw_A s) s.heap H locs → lv_has ls 4 [(0, .ref b), (1, .ref (h 0)), (2, .ref (g 0)), (3, .int i)] → W p l e room_1 s m #[Value.ref b] below meth c H locs 18 4267 (lw_Z below #[Value.ref b] s) (F0 m 559 ls [])) : W p l e room_1 s m #[Value.ref b] below meth c H locs 18 4267 (lw_Z below #[Value.ref b] s) (F0 m 137 ls []) := by
  obtain ⟨hx, hb, hr, hml, hown0, hts, hX, hbl, hlocks, hgv⟩ := C0
  have hown : s.vm.findClass RL = some m.cls := hown0
  have hA : ∀ q : Nat, s.heap.size ≤ q → (lw_A s) q := fun _ h => h
  have hbA : ¬ (lw_A s) b := Nat.not_le.mpr hbl
  refine lv_aload_n hx hb dL_law_137 rfl (lv_at hl 1 rfl) ?_
  refine lv_aload_n hx hb dL_law_138 rfl (lv_at hl 0 rfl) ?_
  refine lv_iload_n hx hb dL_law_139 rfl (lv_at hl 3 rfl) ?_
  refine lv_iconst (v := 1) hx hb dL_law_140 (by decide) ?_
  refine lv_iadd hx hb dL_law_141 ?_
  refine va_sld hx hb hX hbl hbA hS (lw_ix (k := 1) ei hL hfit (by decide)) dL_law_142 ?_
  refine lv_aload_n hx hb dL_law_143 rfl (lv_at hl 0 rfl) ?_
  refine lv_iload_n hx hb dL_law_144 rfl (lv_at hl 3 rfl) ?_
  refine lv_iconst (v := 2) hx hb dL_law_145 (by decide) ?_
  refine lv_iadd hx hb dL_law_146 ?_
  refine va_sld hx hb hX hbl hbA hS (lw_ix (k := 2) ei hL hfit (by decide)) dL_law_147 ?_
  refine lw_xcalli (f := x_entry n σ (xs ((i + 1)).toNatClampNeg) (xs ((i + 2)).toNatClampNeg)) (va_runV (C := RX0) (As := [.int (xs ((i + 1)).toNatClampNeg), .int (xs ((i + 2)).toNatClampNeg)]) (rest := []) ⟨hx, hb, hml, hown, hts⟩ (c_x_entry l dC dI h cB cI n _ σ (xs ((i + 1)).toNatClampNeg) (xs ((i + 2)).toNatClampNeg) hn) (cwV 2 hts gL_X0_entry rfl rfl rfl (by decide +kernel) ⟨Nat.le_of_ble_eq_true rfl, Nat.le_of_ble_eq_true rfl⟩) (x_preM (lw_xK hK) (lw_xP hP) (lw_xD hD)) rfl rfl hl.1 rfl (lv_room (Nat.le_of_ble_eq_true rfl)) dL_law_148 ⟨Nat.le_of_ble_eq_true rfl, Nat.le_of_ble_eq_true rfl⟩) hP hD hS hA (fun r_3 u_1 H locs e_2 hP hD hS => ?_)
  refine lv_aload_n hx hb dL_law_151 rfl (lv_at hl 2 rfl) ?_
  refine lv_aload_n hx hb dL_law_152 rfl (lv_at hl 0 rfl) ?_
  refine lv_iload_n hx hb dL_law_153 rfl (lv_at hl 3 rfl) ?_
  refine lv_iconst (v := 1) hx hb dL_law_154 (by decide) ?_
  refine lv_iadd hx hb dL_law_155 ?_
  refine va_sld hx hb hX hbl hbA hS (lw_ix (k := 1) ei hL hfit (by decide)) dL_law_156 ?_
  refine lv_aload_n hx hb dL_law_157 rfl (lv_at hl 0 rfl) ?_
  refine lv_iload_n hx hb dL_law_158 rfl (lv_at hl 3 rfl) ?_
  refine lv_iconst (v := 2) hx hb dL_law_159 (by decide) ?_
  refine lv_iadd hx hb dL_law_160 ?_
  refine va_sld hx hb hX hbl hbA hS (lw_ix (k := 2) ei hL hfit (by decide)) dL_law_161 ?_
  refine lw_mcalli (f := m_entry n μ (xs ((i + 1)).toNatClampNeg) (xs ((i + 2)).toNatClampNeg)) (va_runV (C := RX1) (As := [.int (xs ((i + 1)).toNatClampNeg), .int (xs ((i + 2)).toNatClampNeg)]) (rest := [.int r_3]) ⟨hx, hb, hml, hown, hts⟩ (c_m_entry l dC dI g cM n _ μ (xs ((i + 1)).toNatClampNeg) (xs ((i + 2)).toNatClampNeg) hn) (cwV 2 hts gL_X1_entry rfl rfl rfl (by decide +kernel) ⟨Nat.le_of_ble_eq_true rfl, Nat.le_of_ble_eq_true rfl⟩) (m_preM (lw_mK hK) (lw_mP hP) (lw_mD hD)) rfl rfl hl.1 rfl (lv_room (Nat.le_of_ble_eq_true rfl)) dL_law_162 ⟨Nat.le_of_ble_eq_true rfl, Nat.le_of_ble_eq_true rfl⟩) hP hD hS hA (fun r_6 u_4 H locs e_5 hP hD hS => ?_)
  obtain ⟨er, hR2⟩ := s_entry hn hR e_2 e_5
  refine lv_icmp_eq (tgt := 559) hx hb dL_law_165 (by decide) (fun _ => ?_) (fun c_7 => absurd er c_7)
  exact kk u_1 u_4 H locs ls hR2 hP hD hS (lv_sub hl [0, 1, 2, 3] rfl)
set_option maxHeartbeats 8000000 in
set_option maxRecDepth 100000 in
theorem law_entryOf {p : Program} {l : Launch} {e : Env} {s : State} {m : MethodId} {below : List Frame} {meth : Method} {c : Code} {dC : Nat → ClassId} {dI : Nat → Nat → Nat} {b L : Nat} {xs : Nat → Int32} (hL : L ≤ 2561) (C0 : lw_At p s m meth c b L xs) {h g : Nat → Nat} {cB cI cM : ClassId} {n tw tr : Nat} (hn : n ≤ 2048) (hK : va_K (dC, dI) vwCl (lw_tys cB cI cM) s) (hST : x_ST tw tr (lw_A s) s s.heap) {σ : XS} {μ : MS} {H : Heap} {locs : List Loc} {ls : Array Slot} {i : Int32} {j : Nat} (ei : i = nI j) (hfit : j + 5 ≤ L) (hR : sR n σ μ) (hP : va_P (dC, dI) vwCl (lw_ws h cB cI g cM n σ μ) H) (hD : va_D (lw_A s) (lw_ws h cB cI g cM n σ μ)) (hS : va_S (lw_A s) s.heap H locs) (hl : lv_has ls 4 [(0, .ref b), (1, .ref (h 0)), (2, .ref (g 0)), (3, .int i)]) (kk : ∀ (σ : XS) (μ : MS) (H : Heap) (locs : List Loc) (ls : Array Slot), sR n σ μ → va_P (dC, dI) vwCl (lw_ws h cB cI g cM n σ μ) H → va_D (lw_A s) (lw_ws h cB cI g cM n σ μ) → va_S (lw_A s) s.heap H locs → lv_has ls 4 [(0, .ref b), (1, .ref (h 0)), (2, .ref (g 0)), (3, .int i)] → W p l e room_1 s m #[Value.ref b] below meth c H locs 18 4267 (lw_Z below #[Value.ref b] s) (F0 m 559 ls [])) : W p l e room_1 s m #[Value.ref b] below meth c H locs 18 4267 (lw_Z below #[Value.ref b] s) (F0 m 170 ls []) := by
  obtain ⟨hx, hb, hr, hml, hown0, hts, hX, hbl, hlocks, hgv⟩ := C0
  have hown : s.vm.findClass RL = some m.cls := hown0
  have hA : ∀ q : Nat, s.heap.size ≤ q → (lw_A s) q := fun _ h => h
  have hbA : ¬ (lw_A s) b := Nat.not_le.mpr hbl
  refine lv_aload_n hx hb dL_law_170 rfl (lv_at hl 1 rfl) ?_
  refine lv_aload_n hx hb dL_law_171 rfl (lv_at hl 0 rfl) ?_
  refine lv_iload_n hx hb dL_law_172 rfl (lv_at hl 3 rfl) ?_
  refine lv_iconst (v := 1) hx hb dL_law_173 (by decide) ?_
  refine lv_iadd hx hb dL_law_174 ?_
  refine va_sld hx hb hX hbl hbA hS (lw_ix (k := 1) ei hL hfit (by decide)) dL_law_175 ?_
  refine vp_callSl (W.runV (C := RX0) (As := [.int (xs ((i + 1)).toNatClampNeg)]) (rest := []) ⟨hx, hb, hml, hown, hts⟩ (c_x_entryOf l dC dI h cB cI n σ (xs ((i + 1)).toNatClampNeg) hn) (cwV 1 hts gL_X0_entryOf rfl rfl rfl (by decide +kernel) ⟨Nat.le_of_ble_eq_true rfl, Nat.le_of_ble_eq_true rfl⟩) (x_preP (lw_xK hK) (lw_xP hP)) rfl rfl hl.1 rfl (lv_room (Nat.le_of_ble_eq_true rfl)) dL_law_176 ⟨Nat.le_of_ble_eq_true rfl, Nat.le_of_ble_eq_true rfl⟩) (fun r er => ?_)
  subst er
  refine lv_aload_n hx hb dL_law_179 rfl (lv_at hl 2 rfl) ?_
  refine lv_aload_n hx hb dL_law_180 rfl (lv_at hl 0 rfl) ?_
  refine lv_iload_n hx hb dL_law_181 rfl (lv_at hl 3 rfl) ?_
  refine lv_iconst (v := 1) hx hb dL_law_182 (by decide) ?_
  refine lv_iadd hx hb dL_law_183 ?_
  refine va_sld hx hb hX hbl hbA hS (lw_ix (k := 1) ei hL hfit (by decide)) dL_law_184 ?_
  refine vp_callSl (W.runV (C := RX1) (As := [.int (xs ((i + 1)).toNatClampNeg)]) (rest := [.long (x_entryOf n σ (xs ((i + 1)).toNatClampNeg))]) ⟨hx, hb, hml, hown, hts⟩ (c_m_entryOf l dC dI g cM n μ (xs ((i + 1)).toNatClampNeg) hn) (cwV 1 hts gL_X1_entryOf rfl rfl rfl (by decide +kernel) ⟨Nat.le_of_ble_eq_true rfl, Nat.le_of_ble_eq_true rfl⟩) (m_preP (lw_mK hK) (lw_mP hP)) rfl rfl hl.1 rfl (lv_room (Nat.le_of_ble_eq_true rfl)) dL_law_185 ⟨Nat.le_of_ble_eq_true rfl, Nat.le_of_ble_eq_true rfl⟩) (fun r er => ?_)
  subst er
  refine W.lcmp hx hb dL_law_188 ?_
  have er := s_entryOf hn hR (a := (xs ((i + 1)).toNatClampNeg))
  refine lv_if_eq (tgt := 559) hx hb dL_law_189 (by decide) (fun _ => ?_) (fun c_1 => absurd (lg_eq er) c_1)
  exact kk σ μ H locs ls hR hP hD hS (lv_sub hl [0, 1, 2, 3] rfl)
set_option maxHeartbeats 8000000 in
set_option maxRecDepth 100000 in
theorem law_region {p : Program} {l : Launch} {e : Env} {s : State} {m : MethodId} {below : List Frame} {meth : Method} {c : Code} {dC : Nat → ClassId} {dI : Nat → Nat → Nat} {b L : Nat} {xs : Nat → Int32} (hL : L ≤ 2561) (C0 : lw_At p s m meth c b L xs) {h g : Nat → Nat} {cB cI cM : ClassId} {n tw tr : Nat} (hn : n ≤ 2048) (hK : va_K (dC, dI) vwCl (lw_tys cB cI cM) s) (hST : x_ST tw tr (lw_A s) s s.heap) {σ : XS} {μ : MS} {H : Heap} {locs : List Loc} {ls : Array Slot} {i : Int32} {j : Nat} (ei : i = nI j) (hfit : j + 5 ≤ L) (hR : sR n σ μ) (hP : va_P (dC, dI) vwCl (lw_ws h cB cI g cM n σ μ) H) (hD : va_D (lw_A s) (lw_ws h cB cI g cM n σ μ)) (hS : va_S (lw_A s) s.heap H locs) (hl : lv_has ls 4 [(0, .ref b), (1, .ref (h 0)), (2, .ref (g 0)), (3, .int i)]) (kk : ∀ (σ : XS) (μ : MS) (H : Heap) (locs : List Loc) (ls : Array Slot), sR n σ μ → va_P (dC, dI) vwCl (lw_ws h cB cI g cM n σ μ) H → va_D (lw_A s) (lw_ws h cB cI g cM n σ μ) → va_S (lw_A s) s.heap H locs → lv_has ls 4 [(0, .ref b), (1, .ref (h 0)), (2, .ref (g 0)), (3, .int i)] → W p l e room_1 s m #[Value.ref b] below meth c H locs 18 4267 (lw_Z below #[Value.ref b] s) (F0 m 559 ls [])) : W p l e room_1 s m #[Value.ref b] below meth c H locs 18 4267 (lw_Z below #[Value.ref b] s) (F0 m 194 ls []) := by
  obtain ⟨hx, hb, hr, hml, hown0, hts, hX, hbl, hlocks, hgv⟩ := C0
  have hown : s.vm.findClass RL = some m.cls := hown0
  have hA : ∀ q : Nat, s.heap.size ≤ q → (lw_A s) q := fun _ h => h
  have hbA : ¬ (lw_A s) b := Nat.not_le.mpr hbl
  refine lv_aload_n hx hb dL_law_194 rfl (lv_at hl 1 rfl) ?_
  refine lv_aload_n hx hb dL_law_195 rfl (lv_at hl 0 rfl) ?_
  refine lv_iload_n hx hb dL_law_196 rfl (lv_at hl 3 rfl) ?_
  refine lv_iconst (v := 1) hx hb dL_law_197 (by decide) ?_
  refine lv_iadd hx hb dL_law_198 ?_
  refine va_sld hx hb hX hbl hbA hS (lw_ix (k := 1) ei hL hfit (by decide)) dL_law_199 ?_
  refine lv_aload_n hx hb dL_law_200 rfl (lv_at hl 0 rfl) ?_
  refine lv_iload_n hx hb dL_law_201 rfl (lv_at hl 3 rfl) ?_
  refine lv_iconst (v := 2) hx hb dL_law_202 (by decide) ?_
  refine lv_iadd hx hb dL_law_203 ?_
  refine va_sld hx hb hX hbl hbA hS (lw_ix (k := 2) ei hL hfit (by decide)) dL_law_204 ?_
  refine lv_aload_n hx hb dL_law_205 rfl (lv_at hl 0 rfl) ?_
  refine lv_iload_n hx hb dL_law_206 rfl (lv_at hl 3 rfl) ?_
  refine lv_iconst (v := 3) hx hb dL_law_207 (by decide) ?_
  refine lv_iadd hx hb dL_law_208 ?_
  refine va_sld hx hb hX hbl hbA hS (lw_ix (k := 3) ei hL hfit (by decide)) dL_law_209 ?_
  refine lw_xcalli (f := x_region n σ (xs ((i + 1)).toNatClampNeg) (xs ((i + 2)).toNatClampNeg) (xs ((i + 3)).toNatClampNeg)) (va_runV (C := RX0) (As := [.int (xs ((i + 1)).toNatClampNeg), .int (xs ((i + 2)).toNatClampNeg), .int (xs ((i + 3)).toNatClampNeg)]) (rest := []) ⟨hx, hb, hml, hown, hts⟩ (c_x_region l dC dI h cB cI n _ σ (xs ((i + 1)).toNatClampNeg) (xs ((i + 2)).toNatClampNeg) (xs ((i + 3)).toNatClampNeg) ) (cwV 3 hts gL_X0_region rfl rfl rfl (by decide +kernel) ⟨Nat.le_of_ble_eq_true rfl, Nat.le_of_ble_eq_true rfl⟩) (x_preM (lw_xK hK) (lw_xP hP) (lw_xD hD)) rfl rfl hl.1 rfl (lv_room (Nat.le_of_ble_eq_true rfl)) dL_law_210 ⟨Nat.le_of_ble_eq_true rfl, Nat.le_of_ble_eq_true rfl⟩) hP hD hS hA (fun r_3 u_1 H locs e_2 hP hD hS => ?_)
  refine lv_aload_n hx hb dL_law_213 rfl (lv_at hl 2 rfl) ?_
  refine lv_aload_n hx hb dL_law_214 rfl (lv_at hl 0 rfl) ?_
  refine lv_iload_n hx hb dL_law_215 rfl (lv_at hl 3 rfl) ?_
  refine lv_iconst (v := 1) hx hb dL_law_216 (by decide) ?_
  refine lv_iadd hx hb dL_law_217 ?_
  refine va_sld hx hb hX hbl hbA hS (lw_ix (k := 1) ei hL hfit (by decide)) dL_law_218 ?_
  refine lv_aload_n hx hb dL_law_219 rfl (lv_at hl 0 rfl) ?_
  refine lv_iload_n hx hb dL_law_220 rfl (lv_at hl 3 rfl) ?_
  refine lv_iconst (v := 2) hx hb dL_law_221 (by decide) ?_
  refine lv_iadd hx hb dL_law_222 ?_
  refine va_sld hx hb hX hbl hbA hS (lw_ix (k := 2) ei hL hfit (by decide)) dL_law_223 ?_
  refine lv_aload_n hx hb dL_law_224 rfl (lv_at hl 0 rfl) ?_
  refine lv_iload_n hx hb dL_law_225 rfl (lv_at hl 3 rfl) ?_
  refine lv_iconst (v := 3) hx hb dL_law_226 (by decide) ?_
  refine lv_iadd hx hb dL_law_227 ?_
  refine va_sld hx hb hX hbl hbA hS (lw_ix (k := 3) ei hL hfit (by decide)) dL_law_228 ?_
  refine lw_mcalli (f := m_region n μ (xs ((i + 1)).toNatClampNeg) (xs ((i + 2)).toNatClampNeg) (xs ((i + 3)).toNatClampNeg)) (va_runV (C := RX1) (As := [.int (xs ((i + 1)).toNatClampNeg), .int (xs ((i + 2)).toNatClampNeg), .int (xs ((i + 3)).toNatClampNeg)]) (rest := [.int r_3]) ⟨hx, hb, hml, hown, hts⟩ (c_m_region l dC dI g cM n _ μ (xs ((i + 1)).toNatClampNeg) (xs ((i + 2)).toNatClampNeg) (xs ((i + 3)).toNatClampNeg) ) (cwV 3 hts gL_X1_region rfl rfl rfl (by decide +kernel) ⟨Nat.le_of_ble_eq_true rfl, Nat.le_of_ble_eq_true rfl⟩) (m_preM (lw_mK hK) (lw_mP hP) (lw_mD hD)) rfl rfl hl.1 rfl (lv_room (Nat.le_of_ble_eq_true rfl)) dL_law_229 ⟨Nat.le_of_ble_eq_true rfl, Nat.le_of_ble_eq_true rfl⟩) hP hD hS hA (fun r_6 u_4 H locs e_5 hP hD hS => ?_)
  obtain ⟨er, hR2⟩ := s_region hn hR e_2 e_5
  refine lv_icmp_eq (tgt := 559) hx hb dL_law_232 (by decide) (fun _ => ?_) (fun c_7 => absurd er c_7)
  exact kk u_1 u_4 H locs ls hR2 hP hD hS (lv_sub hl [0, 1, 2, 3] rfl)
set_option maxHeartbeats 8000000 in
set_option maxRecDepth 100000 in
theorem law_map {p : Program} {l : Launch} {e : Env} {s : State} {m : MethodId} {below : List Frame} {meth : Method} {c : Code} {dC : Nat → ClassId} {dI : Nat → Nat → Nat} {b L : Nat} {xs : Nat → Int32} (hL : L ≤ 2561) (C0 : lw_At p s m meth c b L xs) {h g : Nat → Nat} {cB cI cM : ClassId} {n tw tr : Nat} (hn : n ≤ 2048) (hK : va_K (dC, dI) vwCl (lw_tys cB cI cM) s) (hST : x_ST tw tr (lw_A s) s s.heap) {σ : XS} {μ : MS} {H : Heap} {locs : List Loc} {ls : Array Slot} {i : Int32} {j : Nat} (ei : i = nI j) (hfit : j + 5 ≤ L) (hR : sR n σ μ) (hP : va_P (dC, dI) vwCl (lw_ws h cB cI g cM n σ μ) H) (hD : va_D (lw_A s) (lw_ws h cB cI g cM n σ μ)) (hS : va_S (lw_A s) s.heap H locs) (hl : lv_has ls 4 [(0, .ref b), (1, .ref (h 0)), (2, .ref (g 0)), (3, .int i)]) (kk : ∀ (σ : XS) (μ : MS) (H : Heap) (locs : List Loc) (ls : Array Slot), sR n σ μ → va_P (dC, dI) vwCl (lw_ws h cB cI g cM n σ μ) H → va_D (lw_A s) (lw_ws h cB cI g cM n σ μ) → va_S (lw_A s) s.heap H locs → lv_has ls 4 [(0, .ref b), (1, .ref (h 0)), (2, .ref (g 0)), (3, .int i)] → W p l e room_1 s m #[Value.ref b] below meth c H locs 18 4267 (lw_Z below #[Value.ref b] s) (F0 m 559 ls [])) : W p l e room_1 s m #[Value.ref b] below meth c H locs 18 4267 (lw_Z below #[Value.ref b] s) (F0 m 237 ls []) := by
  obtain ⟨hx, hb, hr, hml, hown0, hts, hX, hbl, hlocks, hgv⟩ := C0
  have hown : s.vm.findClass RL = some m.cls := hown0
  have hA : ∀ q : Nat, s.heap.size ≤ q → (lw_A s) q := fun _ h => h
  have hbA : ¬ (lw_A s) b := Nat.not_le.mpr hbl
  refine lv_aload_n hx hb dL_law_237 rfl (lv_at hl 1 rfl) ?_
  refine lv_aload_n hx hb dL_law_238 rfl (lv_at hl 0 rfl) ?_
  refine lv_iload_n hx hb dL_law_239 rfl (lv_at hl 3 rfl) ?_
  refine lv_iconst (v := 1) hx hb dL_law_240 (by decide) ?_
  refine lv_iadd hx hb dL_law_241 ?_
  refine va_sld hx hb hX hbl hbA hS (lw_ix (k := 1) ei hL hfit (by decide)) dL_law_242 ?_
  refine lv_if_eq (tgt := 250) hx hb dL_law_243 (by decide) (fun c_1 => ?_) (fun c_1 => ?_)
  · refine lv_iconst (v := 0) hx hb dL_law_250 (by decide) ?_
    refine lw_xcallv (f := x_map n σ 0) (va_runV (C := RX0) (As := [.int 0]) (rest := []) ⟨hx, hb, hml, hown, hts⟩ (c_x_map l dC dI h cB cI n _ σ 0 (Or.inl rfl)) (cwV 1 hts gL_X0_map rfl rfl rfl (by decide +kernel) ⟨Nat.le_of_ble_eq_true rfl, Nat.le_of_ble_eq_true rfl⟩) (x_preM (lw_xK hK) (lw_xP hP) (lw_xD hD)) rfl rfl hl.1 rfl (lv_room (Nat.le_of_ble_eq_true rfl)) dL_law_251 ⟨Nat.le_of_ble_eq_true rfl, Nat.le_of_ble_eq_true rfl⟩) hP hD hS hA (fun u_2 H locs e_3 hP hD hS => ?_)
    refine lv_aload_n hx hb dL_law_254 rfl (lv_at hl 2 rfl) ?_
    refine lv_aload_n hx hb dL_law_255 rfl (lv_at hl 0 rfl) ?_
    refine lv_iload_n hx hb dL_law_256 rfl (lv_at hl 3 rfl) ?_
    refine lv_iconst (v := 1) hx hb dL_law_257 (by decide) ?_
    refine lv_iadd hx hb dL_law_258 ?_
    refine va_sld hx hb hX hbl hbA hS (lw_ix (k := 1) ei hL hfit (by decide)) dL_law_259 ?_
    refine lv_if_eq (tgt := 267) hx hb dL_law_260 (by decide) (fun _ => ?_) (fun c_4 => absurd c_1 c_4)
    refine lv_iconst (v := 0) hx hb dL_law_267 (by decide) ?_
    refine lw_mcallv (f := m_map n μ 0) (va_runV (C := RX1) (As := [.int 0]) (rest := []) ⟨hx, hb, hml, hown, hts⟩ (c_m_map l dC dI g cM n _ μ 0 (Or.inl rfl)) (cwV 1 hts gL_X1_map rfl rfl rfl (by decide +kernel) ⟨Nat.le_of_ble_eq_true rfl, Nat.le_of_ble_eq_true rfl⟩) (m_preM (lw_mK hK) (lw_mP hP) (lw_mD hD)) rfl rfl hl.1 rfl (lv_room (Nat.le_of_ble_eq_true rfl)) dL_law_268 ⟨Nat.le_of_ble_eq_true rfl, Nat.le_of_ble_eq_true rfl⟩) hP hD hS hA (fun u_5 H locs e_6 hP hD hS => ?_)
    refine lv_goto (tgt := 559) hx hb dL_law_271 (by decide) ?_
    have hR2 := s_map hn hR e_3 e_6
    exact kk u_2 u_5 H locs ls hR2 hP hD hS (lv_sub hl [0, 1, 2, 3] rfl)
  · refine lv_iconst (v := 1) hx hb dL_law_246 (by decide) ?_
    refine lv_goto (tgt := 251) hx hb dL_law_247 (by decide) ?_
    refine lw_xcallv (f := x_map n σ 1) (va_runV (C := RX0) (As := [.int 1]) (rest := []) ⟨hx, hb, hml, hown, hts⟩ (c_x_map l dC dI h cB cI n _ σ 1 (Or.inr rfl)) (cwV 1 hts gL_X0_map rfl rfl rfl (by decide +kernel) ⟨Nat.le_of_ble_eq_true rfl, Nat.le_of_ble_eq_true rfl⟩) (x_preM (lw_xK hK) (lw_xP hP) (lw_xD hD)) rfl rfl hl.1 rfl (lv_room (Nat.le_of_ble_eq_true rfl)) dL_law_251 ⟨Nat.le_of_ble_eq_true rfl, Nat.le_of_ble_eq_true rfl⟩) hP hD hS hA (fun u_7 H locs e_8 hP hD hS => ?_)
    refine lv_aload_n hx hb dL_law_254 rfl (lv_at hl 2 rfl) ?_
    refine lv_aload_n hx hb dL_law_255 rfl (lv_at hl 0 rfl) ?_
    refine lv_iload_n hx hb dL_law_256 rfl (lv_at hl 3 rfl) ?_
    refine lv_iconst (v := 1) hx hb dL_law_257 (by decide) ?_
    refine lv_iadd hx hb dL_law_258 ?_
    refine va_sld hx hb hX hbl hbA hS (lw_ix (k := 1) ei hL hfit (by decide)) dL_law_259 ?_
    refine lv_if_eq (tgt := 267) hx hb dL_law_260 (by decide) (fun c_9 => absurd c_9 c_1) (fun _ => ?_)
    refine lv_iconst (v := 1) hx hb dL_law_263 (by decide) ?_
    refine lv_goto (tgt := 268) hx hb dL_law_264 (by decide) ?_
    refine lw_mcallv (f := m_map n μ 1) (va_runV (C := RX1) (As := [.int 1]) (rest := []) ⟨hx, hb, hml, hown, hts⟩ (c_m_map l dC dI g cM n _ μ 1 (Or.inr rfl)) (cwV 1 hts gL_X1_map rfl rfl rfl (by decide +kernel) ⟨Nat.le_of_ble_eq_true rfl, Nat.le_of_ble_eq_true rfl⟩) (m_preM (lw_mK hK) (lw_mP hP) (lw_mD hD)) rfl rfl hl.1 rfl (lv_room (Nat.le_of_ble_eq_true rfl)) dL_law_268 ⟨Nat.le_of_ble_eq_true rfl, Nat.le_of_ble_eq_true rfl⟩) hP hD hS hA (fun u_10 H locs e_11 hP hD hS => ?_)
    refine lv_goto (tgt := 559) hx hb dL_law_271 (by decide) ?_
    have hR2 := s_map hn hR e_8 e_11
    exact kk u_7 u_10 H locs ls hR2 hP hD hS (lv_sub hl [0, 1, 2, 3] rfl)
set_option maxHeartbeats 8000000 in
set_option maxRecDepth 100000 in
theorem law_drop {p : Program} {l : Launch} {e : Env} {s : State} {m : MethodId} {below : List Frame} {meth : Method} {c : Code} {dC : Nat → ClassId} {dI : Nat → Nat → Nat} {b L : Nat} {xs : Nat → Int32} (hL : L ≤ 2561) (C0 : lw_At p s m meth c b L xs) {h g : Nat → Nat} {cB cI cM : ClassId} {n tw tr : Nat} (hn : n ≤ 2048) (hK : va_K (dC, dI) vwCl (lw_tys cB cI cM) s) (hST : x_ST tw tr (lw_A s) s s.heap) {σ : XS} {μ : MS} {H : Heap} {locs : List Loc} {ls : Array Slot} {i : Int32} {j : Nat} (ei : i = nI j) (hfit : j + 5 ≤ L) (hR : sR n σ μ) (hP : va_P (dC, dI) vwCl (lw_ws h cB cI g cM n σ μ) H) (hD : va_D (lw_A s) (lw_ws h cB cI g cM n σ μ)) (hS : va_S (lw_A s) s.heap H locs) (hl : lv_has ls 4 [(0, .ref b), (1, .ref (h 0)), (2, .ref (g 0)), (3, .int i)]) (kk : ∀ (σ : XS) (μ : MS) (H : Heap) (locs : List Loc) (ls : Array Slot), sR n σ μ → va_P (dC, dI) vwCl (lw_ws h cB cI g cM n σ μ) H → va_D (lw_A s) (lw_ws h cB cI g cM n σ μ) → va_S (lw_A s) s.heap H locs → lv_has ls 4 [(0, .ref b), (1, .ref (h 0)), (2, .ref (g 0)), (3, .int i)] → W p l e room_1 s m #[Value.ref b] below meth c H locs 18 4267 (lw_Z below #[Value.ref b] s) (F0 m 559 ls [])) : W p l e room_1 s m #[Value.ref b] below meth c H locs 18 4267 (lw_Z below #[Value.ref b] s) (F0 m 274 ls []) := by
  obtain ⟨hx, hb, hr, hml, hown0, hts, hX, hbl, hlocks, hgv⟩ := C0
  have hown : s.vm.findClass RL = some m.cls := hown0
  have hA : ∀ q : Nat, s.heap.size ≤ q → (lw_A s) q := fun _ h => h
  have hbA : ¬ (lw_A s) b := Nat.not_le.mpr hbl
  refine lv_aload_n hx hb dL_law_274 rfl (lv_at hl 1 rfl) ?_
  refine lv_aload_n hx hb dL_law_275 rfl (lv_at hl 0 rfl) ?_
  refine lv_iload_n hx hb dL_law_276 rfl (lv_at hl 3 rfl) ?_
  refine lv_iconst (v := 1) hx hb dL_law_277 (by decide) ?_
  refine lv_iadd hx hb dL_law_278 ?_
  refine va_sld hx hb hX hbl hbA hS (lw_ix (k := 1) ei hL hfit (by decide)) dL_law_279 ?_
  refine lw_xcalli (f := x_drop n σ (xs ((i + 1)).toNatClampNeg)) (va_runV (C := RX0) (As := [.int (xs ((i + 1)).toNatClampNeg)]) (rest := []) ⟨hx, hb, hml, hown, hts⟩ (c_x_drop l dC dI h cB cI n _ σ (xs ((i + 1)).toNatClampNeg) ) (cwV 1 hts gL_X0_drop rfl rfl rfl (by decide +kernel) ⟨Nat.le_of_ble_eq_true rfl, Nat.le_of_ble_eq_true rfl⟩) (x_preM (lw_xK hK) (lw_xP hP) (lw_xD hD)) rfl rfl hl.1 rfl (lv_room (Nat.le_of_ble_eq_true rfl)) dL_law_280 ⟨Nat.le_of_ble_eq_true rfl, Nat.le_of_ble_eq_true rfl⟩) hP hD hS hA (fun r_3 u_1 H locs e_2 hP hD hS => ?_)
  refine lv_aload_n hx hb dL_law_283 rfl (lv_at hl 2 rfl) ?_
  refine lv_aload_n hx hb dL_law_284 rfl (lv_at hl 0 rfl) ?_
  refine lv_iload_n hx hb dL_law_285 rfl (lv_at hl 3 rfl) ?_
  refine lv_iconst (v := 1) hx hb dL_law_286 (by decide) ?_
  refine lv_iadd hx hb dL_law_287 ?_
  refine va_sld hx hb hX hbl hbA hS (lw_ix (k := 1) ei hL hfit (by decide)) dL_law_288 ?_
  refine lw_mcalli (f := m_drop n μ (xs ((i + 1)).toNatClampNeg)) (va_runV (C := RX1) (As := [.int (xs ((i + 1)).toNatClampNeg)]) (rest := [.int r_3]) ⟨hx, hb, hml, hown, hts⟩ (c_m_drop l dC dI g cM n _ μ (xs ((i + 1)).toNatClampNeg) ) (cwV 1 hts gL_X1_drop rfl rfl rfl (by decide +kernel) ⟨Nat.le_of_ble_eq_true rfl, Nat.le_of_ble_eq_true rfl⟩) (m_preM (lw_mK hK) (lw_mP hP) (lw_mD hD)) rfl rfl hl.1 rfl (lv_room (Nat.le_of_ble_eq_true rfl)) dL_law_289 ⟨Nat.le_of_ble_eq_true rfl, Nat.le_of_ble_eq_true rfl⟩) hP hD hS hA (fun r_6 u_4 H locs e_5 hP hD hS => ?_)
  obtain ⟨er, hR2⟩ := s_drop hn hR e_2 e_5
  refine lv_icmp_eq (tgt := 559) hx hb dL_law_292 (by decide) (fun _ => ?_) (fun c_7 => absurd er c_7)
  exact kk u_1 u_4 H locs ls hR2 hP hD hS (lv_sub hl [0, 1, 2, 3] rfl)
set_option maxHeartbeats 8000000 in
set_option maxRecDepth 100000 in
theorem law_read {p : Program} {l : Launch} {e : Env} {s : State} {m : MethodId} {below : List Frame} {meth : Method} {c : Code} {dC : Nat → ClassId} {dI : Nat → Nat → Nat} {b L : Nat} {xs : Nat → Int32} (hL : L ≤ 2561) (C0 : lw_At p s m meth c b L xs) {h g : Nat → Nat} {cB cI cM : ClassId} {n tw tr : Nat} (hn : n ≤ 2048) (hK : va_K (dC, dI) vwCl (lw_tys cB cI cM) s) (hST : x_ST tw tr (lw_A s) s s.heap) {σ : XS} {μ : MS} {H : Heap} {locs : List Loc} {ls : Array Slot} {i : Int32} {j : Nat} (ei : i = nI j) (hfit : j + 5 ≤ L) (hR : sR n σ μ) (hP : va_P (dC, dI) vwCl (lw_ws h cB cI g cM n σ μ) H) (hD : va_D (lw_A s) (lw_ws h cB cI g cM n σ μ)) (hS : va_S (lw_A s) s.heap H locs) (hl : lv_has ls 4 [(0, .ref b), (1, .ref (h 0)), (2, .ref (g 0)), (3, .int i)]) (kk : ∀ (σ : XS) (μ : MS) (H : Heap) (locs : List Loc) (ls : Array Slot), sR n σ μ → va_P (dC, dI) vwCl (lw_ws h cB cI g cM n σ μ) H → va_D (lw_A s) (lw_ws h cB cI g cM n σ μ) → va_S (lw_A s) s.heap H locs → lv_has ls 4 [(0, .ref b), (1, .ref (h 0)), (2, .ref (g 0)), (3, .int i)] → W p l e room_1 s m #[Value.ref b] below meth c H locs 18 4267 (lw_Z below #[Value.ref b] s) (F0 m 559 ls [])) : W p l e room_1 s m #[Value.ref b] below meth c H locs 18 4267 (lw_Z below #[Value.ref b] s) (F0 m 297 ls []) := by
  obtain ⟨hx, hb, hr, hml, hown0, hts, hX, hbl, hlocks, hgv⟩ := C0
  have hown : s.vm.findClass RL = some m.cls := hown0
  have hA : ∀ q : Nat, s.heap.size ≤ q → (lw_A s) q := fun _ h => h
  have hbA : ¬ (lw_A s) b := Nat.not_le.mpr hbl
  refine lv_aload_n hx hb dL_law_297 rfl (lv_at hl 1 rfl) ?_
  refine lv_aload_n hx hb dL_law_298 rfl (lv_at hl 0 rfl) ?_
  refine lv_iload_n hx hb dL_law_299 rfl (lv_at hl 3 rfl) ?_
  refine lv_iconst (v := 1) hx hb dL_law_300 (by decide) ?_
  refine lv_iadd hx hb dL_law_301 ?_
  refine va_sld hx hb hX hbl hbA hS (lw_ix (k := 1) ei hL hfit (by decide)) dL_law_302 ?_
  refine lv_aload_n hx hb dL_law_303 rfl (lv_at hl 0 rfl) ?_
  refine lv_iload_n hx hb dL_law_304 rfl (lv_at hl 3 rfl) ?_
  refine lv_iconst (v := 2) hx hb dL_law_305 (by decide) ?_
  refine lv_iadd hx hb dL_law_306 ?_
  refine va_sld hx hb hX hbl hbA hS (lw_ix (k := 2) ei hL hfit (by decide)) dL_law_307 ?_
  refine lv_aload_n hx hb dL_law_308 rfl (lv_at hl 0 rfl) ?_
  refine lv_iload_n hx hb dL_law_309 rfl (lv_at hl 3 rfl) ?_
  refine lv_iconst (v := 3) hx hb dL_law_310 (by decide) ?_
  refine lv_iadd hx hb dL_law_311 ?_
  refine va_sld hx hb hX hbl hbA hS (lw_ix (k := 3) ei hL hfit (by decide)) dL_law_312 ?_
  refine lw_xcalll (f := x_read n σ (xs ((i + 1)).toNatClampNeg) (xs ((i + 2)).toNatClampNeg) (xs ((i + 3)).toNatClampNeg)) (va_runV (C := RX0) (As := [.int (xs ((i + 1)).toNatClampNeg), .int (xs ((i + 2)).toNatClampNeg), .int (xs ((i + 3)).toNatClampNeg)]) (rest := []) ⟨hx, hb, hml, hown, hts⟩ (c_x_read l dC dI h cB cI n tw tr _ σ (xs ((i + 1)).toNatClampNeg) (xs ((i + 2)).toNatClampNeg) (xs ((i + 3)).toNatClampNeg) hn (s_xinv hR)) (cwV 3 hts gL_X0_read rfl rfl rfl (by decide +kernel) ⟨Nat.le_of_ble_eq_true rfl, Nat.le_of_ble_eq_true rfl⟩) (x_preMt (lw_xK hK) (lw_xP hP) (lw_xD hD) hST hS hA) rfl rfl hl.1 rfl (lv_room (Nat.le_of_ble_eq_true rfl)) dL_law_313 ⟨Nat.le_of_ble_eq_true rfl, Nat.le_of_ble_eq_true rfl⟩) hP hD hS hA (fun r_3 u_1 H locs e_2 hP hD hS => ?_)
  refine lv_aload_n hx hb dL_law_316 rfl (lv_at hl 2 rfl) ?_
  refine lv_aload_n hx hb dL_law_317 rfl (lv_at hl 0 rfl) ?_
  refine lv_iload_n hx hb dL_law_318 rfl (lv_at hl 3 rfl) ?_
  refine lv_iconst (v := 1) hx hb dL_law_319 (by decide) ?_
  refine lv_iadd hx hb dL_law_320 ?_
  refine va_sld hx hb hX hbl hbA hS (lw_ix (k := 1) ei hL hfit (by decide)) dL_law_321 ?_
  refine lv_aload_n hx hb dL_law_322 rfl (lv_at hl 0 rfl) ?_
  refine lv_iload_n hx hb dL_law_323 rfl (lv_at hl 3 rfl) ?_
  refine lv_iconst (v := 2) hx hb dL_law_324 (by decide) ?_
  refine lv_iadd hx hb dL_law_325 ?_
  refine va_sld hx hb hX hbl hbA hS (lw_ix (k := 2) ei hL hfit (by decide)) dL_law_326 ?_
  refine lv_aload_n hx hb dL_law_327 rfl (lv_at hl 0 rfl) ?_
  refine lv_iload_n hx hb dL_law_328 rfl (lv_at hl 3 rfl) ?_
  refine lv_iconst (v := 3) hx hb dL_law_329 (by decide) ?_
  refine lv_iadd hx hb dL_law_330 ?_
  refine va_sld hx hb hX hbl hbA hS (lw_ix (k := 3) ei hL hfit (by decide)) dL_law_331 ?_
  refine lw_mcalll (f := m_read n μ (xs ((i + 1)).toNatClampNeg) (xs ((i + 2)).toNatClampNeg) (xs ((i + 3)).toNatClampNeg)) (va_runV (C := RX1) (As := [.int (xs ((i + 1)).toNatClampNeg), .int (xs ((i + 2)).toNatClampNeg), .int (xs ((i + 3)).toNatClampNeg)]) (rest := [.long r_3]) ⟨hx, hb, hml, hown, hts⟩ (c_m_read l dC dI g cM n _ μ (xs ((i + 1)).toNatClampNeg) (xs ((i + 2)).toNatClampNeg) (xs ((i + 3)).toNatClampNeg) hn (s_minv hR)) (cwV 3 hts gL_X1_read rfl rfl rfl (by decide +kernel) ⟨Nat.le_of_ble_eq_true rfl, Nat.le_of_ble_eq_true rfl⟩) (m_preM (lw_mK hK) (lw_mP hP) (lw_mD hD)) rfl rfl hl.1 rfl (lv_room (Nat.le_of_ble_eq_true rfl)) dL_law_332 ⟨Nat.le_of_ble_eq_true rfl, Nat.le_of_ble_eq_true rfl⟩) hP hD hS hA (fun r_6 u_4 H locs e_5 hP hD hS => ?_)
  refine W.lcmp hx hb dL_law_335 ?_
  obtain ⟨er, hR2⟩ := s_read hn hR e_2 e_5
  refine lv_if_eq (tgt := 559) hx hb dL_law_336 (by decide) (fun _ => ?_) (fun c_7 => absurd (lg_eq er) c_7)
  exact kk u_1 u_4 H locs ls hR2 hP hD hS (lv_sub hl [0, 1, 2, 3] rfl)
set_option maxHeartbeats 8000000 in
set_option maxRecDepth 100000 in
theorem law_write {p : Program} {l : Launch} {e : Env} {s : State} {m : MethodId} {below : List Frame} {meth : Method} {c : Code} {dC : Nat → ClassId} {dI : Nat → Nat → Nat} {b L : Nat} {xs : Nat → Int32} (hL : L ≤ 2561) (C0 : lw_At p s m meth c b L xs) {h g : Nat → Nat} {cB cI cM : ClassId} {n tw tr : Nat} (hn : n ≤ 2048) (hK : va_K (dC, dI) vwCl (lw_tys cB cI cM) s) (hST : x_ST tw tr (lw_A s) s s.heap) {σ : XS} {μ : MS} {H : Heap} {locs : List Loc} {ls : Array Slot} {i : Int32} {j : Nat} (ei : i = nI j) (hfit : j + 5 ≤ L) (hR : sR n σ μ) (hP : va_P (dC, dI) vwCl (lw_ws h cB cI g cM n σ μ) H) (hD : va_D (lw_A s) (lw_ws h cB cI g cM n σ μ)) (hS : va_S (lw_A s) s.heap H locs) (hl : lv_has ls 4 [(0, .ref b), (1, .ref (h 0)), (2, .ref (g 0)), (3, .int i)]) (kk : ∀ (σ : XS) (μ : MS) (H : Heap) (locs : List Loc) (ls : Array Slot), sR n σ μ → va_P (dC, dI) vwCl (lw_ws h cB cI g cM n σ μ) H → va_D (lw_A s) (lw_ws h cB cI g cM n σ μ) → va_S (lw_A s) s.heap H locs → lv_has ls 4 [(0, .ref b), (1, .ref (h 0)), (2, .ref (g 0)), (3, .int i)] → W p l e room_1 s m #[Value.ref b] below meth c H locs 18 4267 (lw_Z below #[Value.ref b] s) (F0 m 559 ls [])) : W p l e room_1 s m #[Value.ref b] below meth c H locs 18 4267 (lw_Z below #[Value.ref b] s) (F0 m 341 ls []) := by
  obtain ⟨hx, hb, hr, hml, hown0, hts, hX, hbl, hlocks, hgv⟩ := C0
  have hown : s.vm.findClass RL = some m.cls := hown0
  have hA : ∀ q : Nat, s.heap.size ≤ q → (lw_A s) q := fun _ h => h
  have hbA : ¬ (lw_A s) b := Nat.not_le.mpr hbl
  refine lv_aload_n hx hb dL_law_341 rfl (lv_at hl 1 rfl) ?_
  refine lv_aload_n hx hb dL_law_342 rfl (lv_at hl 0 rfl) ?_
  refine lv_iload_n hx hb dL_law_343 rfl (lv_at hl 3 rfl) ?_
  refine lv_iconst (v := 1) hx hb dL_law_344 (by decide) ?_
  refine lv_iadd hx hb dL_law_345 ?_
  refine va_sld hx hb hX hbl hbA hS (lw_ix (k := 1) ei hL hfit (by decide)) dL_law_346 ?_
  refine lv_aload_n hx hb dL_law_347 rfl (lv_at hl 0 rfl) ?_
  refine lv_iload_n hx hb dL_law_348 rfl (lv_at hl 3 rfl) ?_
  refine lv_iconst (v := 2) hx hb dL_law_349 (by decide) ?_
  refine lv_iadd hx hb dL_law_350 ?_
  refine va_sld hx hb hX hbl hbA hS (lw_ix (k := 2) ei hL hfit (by decide)) dL_law_351 ?_
  refine lv_aload_n hx hb dL_law_352 rfl (lv_at hl 0 rfl) ?_
  refine lv_iload_n hx hb dL_law_353 rfl (lv_at hl 3 rfl) ?_
  refine lv_iconst (v := 3) hx hb dL_law_354 (by decide) ?_
  refine lv_iadd hx hb dL_law_355 ?_
  refine va_sld hx hb hX hbl hbA hS (lw_ix (k := 3) ei hL hfit (by decide)) dL_law_356 ?_
  refine lv_aload_n hx hb dL_law_357 rfl (lv_at hl 0 rfl) ?_
  refine lv_iload_n hx hb dL_law_358 rfl (lv_at hl 3 rfl) ?_
  refine lv_iconst (v := 4) hx hb dL_law_359 (by decide) ?_
  refine lv_iadd hx hb dL_law_360 ?_
  refine va_sld hx hb hX hbl hbA hS (lw_ix (k := 4) ei hL hfit (by decide)) dL_law_361 ?_
  refine lw_xcalli (f := x_write n σ (xs ((i + 1)).toNatClampNeg) (xs ((i + 2)).toNatClampNeg) (xs ((i + 3)).toNatClampNeg) (xs ((i + 4)).toNatClampNeg)) (va_runV (C := RX0) (As := [.int (xs ((i + 1)).toNatClampNeg), .int (xs ((i + 2)).toNatClampNeg), .int (xs ((i + 3)).toNatClampNeg), .int (xs ((i + 4)).toNatClampNeg)]) (rest := []) ⟨hx, hb, hml, hown, hts⟩ (c_x_write l dC dI h cB cI n tw tr _ σ (xs ((i + 1)).toNatClampNeg) (xs ((i + 2)).toNatClampNeg) (xs ((i + 3)).toNatClampNeg) (xs ((i + 4)).toNatClampNeg) hn (s_xinv hR)) (cwV 4 hts gL_X0_write rfl rfl rfl (by decide +kernel) ⟨Nat.le_of_ble_eq_true rfl, Nat.le_of_ble_eq_true rfl⟩) (x_preMt (lw_xK hK) (lw_xP hP) (lw_xD hD) hST hS hA) rfl rfl hl.1 rfl (lv_room (Nat.le_of_ble_eq_true rfl)) dL_law_362 ⟨Nat.le_of_ble_eq_true rfl, Nat.le_of_ble_eq_true rfl⟩) hP hD hS hA (fun r_3 u_1 H locs e_2 hP hD hS => ?_)
  refine lv_aload_n hx hb dL_law_365 rfl (lv_at hl 2 rfl) ?_
  refine lv_aload_n hx hb dL_law_366 rfl (lv_at hl 0 rfl) ?_
  refine lv_iload_n hx hb dL_law_367 rfl (lv_at hl 3 rfl) ?_
  refine lv_iconst (v := 1) hx hb dL_law_368 (by decide) ?_
  refine lv_iadd hx hb dL_law_369 ?_
  refine va_sld hx hb hX hbl hbA hS (lw_ix (k := 1) ei hL hfit (by decide)) dL_law_370 ?_
  refine lv_aload_n hx hb dL_law_371 rfl (lv_at hl 0 rfl) ?_
  refine lv_iload_n hx hb dL_law_372 rfl (lv_at hl 3 rfl) ?_
  refine lv_iconst (v := 2) hx hb dL_law_373 (by decide) ?_
  refine lv_iadd hx hb dL_law_374 ?_
  refine va_sld hx hb hX hbl hbA hS (lw_ix (k := 2) ei hL hfit (by decide)) dL_law_375 ?_
  refine lv_aload_n hx hb dL_law_376 rfl (lv_at hl 0 rfl) ?_
  refine lv_iload_n hx hb dL_law_377 rfl (lv_at hl 3 rfl) ?_
  refine lv_iconst (v := 3) hx hb dL_law_378 (by decide) ?_
  refine lv_iadd hx hb dL_law_379 ?_
  refine va_sld hx hb hX hbl hbA hS (lw_ix (k := 3) ei hL hfit (by decide)) dL_law_380 ?_
  refine lv_aload_n hx hb dL_law_381 rfl (lv_at hl 0 rfl) ?_
  refine lv_iload_n hx hb dL_law_382 rfl (lv_at hl 3 rfl) ?_
  refine lv_iconst (v := 4) hx hb dL_law_383 (by decide) ?_
  refine lv_iadd hx hb dL_law_384 ?_
  refine va_sld hx hb hX hbl hbA hS (lw_ix (k := 4) ei hL hfit (by decide)) dL_law_385 ?_
  refine lw_mcalli (f := m_write n μ (xs ((i + 1)).toNatClampNeg) (xs ((i + 2)).toNatClampNeg) (xs ((i + 3)).toNatClampNeg) (xs ((i + 4)).toNatClampNeg)) (va_runV (C := RX1) (As := [.int (xs ((i + 1)).toNatClampNeg), .int (xs ((i + 2)).toNatClampNeg), .int (xs ((i + 3)).toNatClampNeg), .int (xs ((i + 4)).toNatClampNeg)]) (rest := [.int r_3]) ⟨hx, hb, hml, hown, hts⟩ (c_m_write l dC dI g cM n _ μ (xs ((i + 1)).toNatClampNeg) (xs ((i + 2)).toNatClampNeg) (xs ((i + 3)).toNatClampNeg) (xs ((i + 4)).toNatClampNeg) hn (s_minv hR)) (cwV 4 hts gL_X1_write rfl rfl rfl (by decide +kernel) ⟨Nat.le_of_ble_eq_true rfl, Nat.le_of_ble_eq_true rfl⟩) (m_preM (lw_mK hK) (lw_mP hP) (lw_mD hD)) rfl rfl hl.1 rfl (lv_room (Nat.le_of_ble_eq_true rfl)) dL_law_386 ⟨Nat.le_of_ble_eq_true rfl, Nat.le_of_ble_eq_true rfl⟩) hP hD hS hA (fun r_6 u_4 H locs e_5 hP hD hS => ?_)
  obtain ⟨er, hR2⟩ := s_write hn hR e_2 e_5
  refine lv_icmp_eq (tgt := 559) hx hb dL_law_389 (by decide) (fun _ => ?_) (fun c_7 => absurd er c_7)
  exact kk u_1 u_4 H locs ls hR2 hP hD hS (lv_sub hl [0, 1, 2, 3] rfl)
set_option maxHeartbeats 8000000 in
set_option maxRecDepth 100000 in
theorem law_where {p : Program} {l : Launch} {e : Env} {s : State} {m : MethodId} {below : List Frame} {meth : Method} {c : Code} {dC : Nat → ClassId} {dI : Nat → Nat → Nat} {b L : Nat} {xs : Nat → Int32} (hL : L ≤ 2561) (C0 : lw_At p s m meth c b L xs) {h g : Nat → Nat} {cB cI cM : ClassId} {n tw tr : Nat} (hn : n ≤ 2048) (hK : va_K (dC, dI) vwCl (lw_tys cB cI cM) s) (hST : x_ST tw tr (lw_A s) s s.heap) {σ : XS} {μ : MS} {H : Heap} {locs : List Loc} {ls : Array Slot} {i : Int32} {j : Nat} (ei : i = nI j) (hfit : j + 5 ≤ L) (hR : sR n σ μ) (hP : va_P (dC, dI) vwCl (lw_ws h cB cI g cM n σ μ) H) (hD : va_D (lw_A s) (lw_ws h cB cI g cM n σ μ)) (hS : va_S (lw_A s) s.heap H locs) (hl : lv_has ls 4 [(0, .ref b), (1, .ref (h 0)), (2, .ref (g 0)), (3, .int i)]) (kk : ∀ (σ : XS) (μ : MS) (H : Heap) (locs : List Loc) (ls : Array Slot), sR n σ μ → va_P (dC, dI) vwCl (lw_ws h cB cI g cM n σ μ) H → va_D (lw_A s) (lw_ws h cB cI g cM n σ μ) → va_S (lw_A s) s.heap H locs → lv_has ls 4 [(0, .ref b), (1, .ref (h 0)), (2, .ref (g 0)), (3, .int i)] → W p l e room_1 s m #[Value.ref b] below meth c H locs 18 4267 (lw_Z below #[Value.ref b] s) (F0 m 559 ls [])) : W p l e room_1 s m #[Value.ref b] below meth c H locs 18 4267 (lw_Z below #[Value.ref b] s) (F0 m 394 ls []) := by
  obtain ⟨hx, hb, hr, hml, hown0, hts, hX, hbl, hlocks, hgv⟩ := C0
  have hown : s.vm.findClass RL = some m.cls := hown0
  have hA : ∀ q : Nat, s.heap.size ≤ q → (lw_A s) q := fun _ h => h
  have hbA : ¬ (lw_A s) b := Nat.not_le.mpr hbl
  refine lv_aload_n hx hb dL_law_394 rfl (lv_at hl 1 rfl) ?_
  refine lv_aload_n hx hb dL_law_395 rfl (lv_at hl 0 rfl) ?_
  refine lv_iload_n hx hb dL_law_396 rfl (lv_at hl 3 rfl) ?_
  refine lv_iconst (v := 1) hx hb dL_law_397 (by decide) ?_
  refine lv_iadd hx hb dL_law_398 ?_
  refine va_sld hx hb hX hbl hbA hS (lw_ix (k := 1) ei hL hfit (by decide)) dL_law_399 ?_
  refine lv_aload_n hx hb dL_law_400 rfl (lv_at hl 0 rfl) ?_
  refine lv_iload_n hx hb dL_law_401 rfl (lv_at hl 3 rfl) ?_
  refine lv_iconst (v := 2) hx hb dL_law_402 (by decide) ?_
  refine lv_iadd hx hb dL_law_403 ?_
  refine va_sld hx hb hX hbl hbA hS (lw_ix (k := 2) ei hL hfit (by decide)) dL_law_404 ?_
  refine lv_aload_n hx hb dL_law_405 rfl (lv_at hl 0 rfl) ?_
  refine lv_iload_n hx hb dL_law_406 rfl (lv_at hl 3 rfl) ?_
  refine lv_iconst (v := 3) hx hb dL_law_407 (by decide) ?_
  refine lv_iadd hx hb dL_law_408 ?_
  refine va_sld hx hb hX hbl hbA hS (lw_ix (k := 3) ei hL hfit (by decide)) dL_law_409 ?_
  refine lv_if_eq (tgt := 417) hx hb dL_law_410 (by decide) (fun c_1 => ?_) (fun c_1 => ?_)
  · refine lv_iconst (v := 0) hx hb dL_law_417 (by decide) ?_
    refine lw_xcalli (f := x_where n σ (xs ((i + 1)).toNatClampNeg) (xs ((i + 2)).toNatClampNeg) 0) (va_runV (C := RX0) (As := [.int (xs ((i + 1)).toNatClampNeg), .int (xs ((i + 2)).toNatClampNeg), .int 0]) (rest := []) ⟨hx, hb, hml, hown, hts⟩ (c_x_where l dC dI h cB cI n tw tr _ σ (xs ((i + 1)).toNatClampNeg) (xs ((i + 2)).toNatClampNeg) 0 hn (s_xinv hR)) (cwV 3 hts gL_X0_where rfl rfl rfl (by decide +kernel) ⟨Nat.le_of_ble_eq_true rfl, Nat.le_of_ble_eq_true rfl⟩) (x_preMt (lw_xK hK) (lw_xP hP) (lw_xD hD) hST hS hA) rfl rfl hl.1 rfl (lv_room (Nat.le_of_ble_eq_true rfl)) dL_law_418 ⟨Nat.le_of_ble_eq_true rfl, Nat.le_of_ble_eq_true rfl⟩) hP hD hS hA (fun r_4 u_2 H locs e_3 hP hD hS => ?_)
    refine lv_aload_n hx hb dL_law_421 rfl (lv_at hl 2 rfl) ?_
    refine lv_aload_n hx hb dL_law_422 rfl (lv_at hl 0 rfl) ?_
    refine lv_iload_n hx hb dL_law_423 rfl (lv_at hl 3 rfl) ?_
    refine lv_iconst (v := 1) hx hb dL_law_424 (by decide) ?_
    refine lv_iadd hx hb dL_law_425 ?_
    refine va_sld hx hb hX hbl hbA hS (lw_ix (k := 1) ei hL hfit (by decide)) dL_law_426 ?_
    refine lv_aload_n hx hb dL_law_427 rfl (lv_at hl 0 rfl) ?_
    refine lv_iload_n hx hb dL_law_428 rfl (lv_at hl 3 rfl) ?_
    refine lv_iconst (v := 2) hx hb dL_law_429 (by decide) ?_
    refine lv_iadd hx hb dL_law_430 ?_
    refine va_sld hx hb hX hbl hbA hS (lw_ix (k := 2) ei hL hfit (by decide)) dL_law_431 ?_
    refine lv_aload_n hx hb dL_law_432 rfl (lv_at hl 0 rfl) ?_
    refine lv_iload_n hx hb dL_law_433 rfl (lv_at hl 3 rfl) ?_
    refine lv_iconst (v := 3) hx hb dL_law_434 (by decide) ?_
    refine lv_iadd hx hb dL_law_435 ?_
    refine va_sld hx hb hX hbl hbA hS (lw_ix (k := 3) ei hL hfit (by decide)) dL_law_436 ?_
    refine lv_if_eq (tgt := 444) hx hb dL_law_437 (by decide) (fun _ => ?_) (fun c_5 => absurd c_1 c_5)
    refine lv_iconst (v := 0) hx hb dL_law_444 (by decide) ?_
    refine lw_mcalli (f := m_where n μ (xs ((i + 1)).toNatClampNeg) (xs ((i + 2)).toNatClampNeg) 0) (va_runV (C := RX1) (As := [.int (xs ((i + 1)).toNatClampNeg), .int (xs ((i + 2)).toNatClampNeg), .int 0]) (rest := [.int r_4]) ⟨hx, hb, hml, hown, hts⟩ (c_m_where l dC dI g cM n _ μ (xs ((i + 1)).toNatClampNeg) (xs ((i + 2)).toNatClampNeg) 0 hn (s_minv hR)) (cwV 3 hts gL_X1_where rfl rfl rfl (by decide +kernel) ⟨Nat.le_of_ble_eq_true rfl, Nat.le_of_ble_eq_true rfl⟩) (m_preM (lw_mK hK) (lw_mP hP) (lw_mD hD)) rfl rfl hl.1 rfl (lv_room (Nat.le_of_ble_eq_true rfl)) dL_law_445 ⟨Nat.le_of_ble_eq_true rfl, Nat.le_of_ble_eq_true rfl⟩) hP hD hS hA (fun r_8 u_6 H locs e_7 hP hD hS => ?_)
    obtain ⟨er, hR2⟩ := s_where hn hR e_3 e_7
    refine lv_icmp_eq (tgt := 559) hx hb dL_law_448 (by decide) (fun _ => ?_) (fun c_9 => absurd er c_9)
    exact kk u_2 u_6 H locs ls hR2 hP hD hS (lv_sub hl [0, 1, 2, 3] rfl)
  · refine lv_iconst (v := 1) hx hb dL_law_413 (by decide) ?_
    refine lv_goto (tgt := 418) hx hb dL_law_414 (by decide) ?_
    refine lw_xcalli (f := x_where n σ (xs ((i + 1)).toNatClampNeg) (xs ((i + 2)).toNatClampNeg) 1) (va_runV (C := RX0) (As := [.int (xs ((i + 1)).toNatClampNeg), .int (xs ((i + 2)).toNatClampNeg), .int 1]) (rest := []) ⟨hx, hb, hml, hown, hts⟩ (c_x_where l dC dI h cB cI n tw tr _ σ (xs ((i + 1)).toNatClampNeg) (xs ((i + 2)).toNatClampNeg) 1 hn (s_xinv hR)) (cwV 3 hts gL_X0_where rfl rfl rfl (by decide +kernel) ⟨Nat.le_of_ble_eq_true rfl, Nat.le_of_ble_eq_true rfl⟩) (x_preMt (lw_xK hK) (lw_xP hP) (lw_xD hD) hST hS hA) rfl rfl hl.1 rfl (lv_room (Nat.le_of_ble_eq_true rfl)) dL_law_418 ⟨Nat.le_of_ble_eq_true rfl, Nat.le_of_ble_eq_true rfl⟩) hP hD hS hA (fun r_12 u_10 H locs e_11 hP hD hS => ?_)
    refine lv_aload_n hx hb dL_law_421 rfl (lv_at hl 2 rfl) ?_
    refine lv_aload_n hx hb dL_law_422 rfl (lv_at hl 0 rfl) ?_
    refine lv_iload_n hx hb dL_law_423 rfl (lv_at hl 3 rfl) ?_
    refine lv_iconst (v := 1) hx hb dL_law_424 (by decide) ?_
    refine lv_iadd hx hb dL_law_425 ?_
    refine va_sld hx hb hX hbl hbA hS (lw_ix (k := 1) ei hL hfit (by decide)) dL_law_426 ?_
    refine lv_aload_n hx hb dL_law_427 rfl (lv_at hl 0 rfl) ?_
    refine lv_iload_n hx hb dL_law_428 rfl (lv_at hl 3 rfl) ?_
    refine lv_iconst (v := 2) hx hb dL_law_429 (by decide) ?_
    refine lv_iadd hx hb dL_law_430 ?_
    refine va_sld hx hb hX hbl hbA hS (lw_ix (k := 2) ei hL hfit (by decide)) dL_law_431 ?_
    refine lv_aload_n hx hb dL_law_432 rfl (lv_at hl 0 rfl) ?_
    refine lv_iload_n hx hb dL_law_433 rfl (lv_at hl 3 rfl) ?_
    refine lv_iconst (v := 3) hx hb dL_law_434 (by decide) ?_
    refine lv_iadd hx hb dL_law_435 ?_
    refine va_sld hx hb hX hbl hbA hS (lw_ix (k := 3) ei hL hfit (by decide)) dL_law_436 ?_
    refine lv_if_eq (tgt := 444) hx hb dL_law_437 (by decide) (fun c_13 => absurd c_13 c_1) (fun _ => ?_)
    refine lv_iconst (v := 1) hx hb dL_law_440 (by decide) ?_
    refine lv_goto (tgt := 445) hx hb dL_law_441 (by decide) ?_
    refine lw_mcalli (f := m_where n μ (xs ((i + 1)).toNatClampNeg) (xs ((i + 2)).toNatClampNeg) 1) (va_runV (C := RX1) (As := [.int (xs ((i + 1)).toNatClampNeg), .int (xs ((i + 2)).toNatClampNeg), .int 1]) (rest := [.int r_12]) ⟨hx, hb, hml, hown, hts⟩ (c_m_where l dC dI g cM n _ μ (xs ((i + 1)).toNatClampNeg) (xs ((i + 2)).toNatClampNeg) 1 hn (s_minv hR)) (cwV 3 hts gL_X1_where rfl rfl rfl (by decide +kernel) ⟨Nat.le_of_ble_eq_true rfl, Nat.le_of_ble_eq_true rfl⟩) (m_preM (lw_mK hK) (lw_mP hP) (lw_mD hD)) rfl rfl hl.1 rfl (lv_room (Nat.le_of_ble_eq_true rfl)) dL_law_445 ⟨Nat.le_of_ble_eq_true rfl, Nat.le_of_ble_eq_true rfl⟩) hP hD hS hA (fun r_16 u_14 H locs e_15 hP hD hS => ?_)
    obtain ⟨er, hR2⟩ := s_where hn hR e_11 e_15
    refine lv_icmp_eq (tgt := 559) hx hb dL_law_448 (by decide) (fun _ => ?_) (fun c_17 => absurd er c_17)
    exact kk u_10 u_14 H locs ls hR2 hP hD hS (lv_sub hl [0, 1, 2, 3] rfl)
set_option maxHeartbeats 8000000 in
set_option maxRecDepth 100000 in
theorem law_may {p : Program} {l : Launch} {e : Env} {s : State} {m : MethodId} {below : List Frame} {meth : Method} {c : Code} {dC : Nat → ClassId} {dI : Nat → Nat → Nat} {b L : Nat} {xs : Nat → Int32} (hL : L ≤ 2561) (C0 : lw_At p s m meth c b L xs) {h g : Nat → Nat} {cB cI cM : ClassId} {n tw tr : Nat} (hn : n ≤ 2048) (hK : va_K (dC, dI) vwCl (lw_tys cB cI cM) s) (hST : x_ST tw tr (lw_A s) s s.heap) {σ : XS} {μ : MS} {H : Heap} {locs : List Loc} {ls : Array Slot} {i : Int32} {j : Nat} (ei : i = nI j) (hfit : j + 5 ≤ L) (hR : sR n σ μ) (hP : va_P (dC, dI) vwCl (lw_ws h cB cI g cM n σ μ) H) (hD : va_D (lw_A s) (lw_ws h cB cI g cM n σ μ)) (hS : va_S (lw_A s) s.heap H locs) (hl : lv_has ls 4 [(0, .ref b), (1, .ref (h 0)), (2, .ref (g 0)), (3, .int i)]) (kk : ∀ (σ : XS) (μ : MS) (H : Heap) (locs : List Loc) (ls : Array Slot), sR n σ μ → va_P (dC, dI) vwCl (lw_ws h cB cI g cM n σ μ) H → va_D (lw_A s) (lw_ws h cB cI g cM n σ μ) → va_S (lw_A s) s.heap H locs → lv_has ls 4 [(0, .ref b), (1, .ref (h 0)), (2, .ref (g 0)), (3, .int i)] → W p l e room_1 s m #[Value.ref b] below meth c H locs 18 4267 (lw_Z below #[Value.ref b] s) (F0 m 559 ls [])) : W p l e room_1 s m #[Value.ref b] below meth c H locs 18 4267 (lw_Z below #[Value.ref b] s) (F0 m 453 ls []) := by
  obtain ⟨hx, hb, hr, hml, hown0, hts, hX, hbl, hlocks, hgv⟩ := C0
  have hown : s.vm.findClass RL = some m.cls := hown0
  have hA : ∀ q : Nat, s.heap.size ≤ q → (lw_A s) q := fun _ h => h
  have hbA : ¬ (lw_A s) b := Nat.not_le.mpr hbl
  refine lv_aload_n hx hb dL_law_453 rfl (lv_at hl 1 rfl) ?_
  refine lv_aload_n hx hb dL_law_454 rfl (lv_at hl 0 rfl) ?_
  refine lv_iload_n hx hb dL_law_455 rfl (lv_at hl 3 rfl) ?_
  refine lv_iconst (v := 1) hx hb dL_law_456 (by decide) ?_
  refine lv_iadd hx hb dL_law_457 ?_
  refine va_sld hx hb hX hbl hbA hS (lw_ix (k := 1) ei hL hfit (by decide)) dL_law_458 ?_
  refine lv_aload_n hx hb dL_law_459 rfl (lv_at hl 0 rfl) ?_
  refine lv_iload_n hx hb dL_law_460 rfl (lv_at hl 3 rfl) ?_
  refine lv_iconst (v := 2) hx hb dL_law_461 (by decide) ?_
  refine lv_iadd hx hb dL_law_462 ?_
  refine va_sld hx hb hX hbl hbA hS (lw_ix (k := 2) ei hL hfit (by decide)) dL_law_463 ?_
  refine lv_aload_n hx hb dL_law_464 rfl (lv_at hl 0 rfl) ?_
  refine lv_iload_n hx hb dL_law_465 rfl (lv_at hl 3 rfl) ?_
  refine lv_iconst (v := 3) hx hb dL_law_466 (by decide) ?_
  refine lv_iadd hx hb dL_law_467 ?_
  refine va_sld hx hb hX hbl hbA hS (lw_ix (k := 3) ei hL hfit (by decide)) dL_law_468 ?_
  refine lv_if_eq (tgt := 476) hx hb dL_law_469 (by decide) (fun c_1 => ?_) (fun c_1 => ?_)
  · refine lv_iconst (v := 0) hx hb dL_law_476 (by decide) ?_
    refine lw_xcalli (f := x_may n σ (xs ((i + 1)).toNatClampNeg) (xs ((i + 2)).toNatClampNeg) 0) (va_runV (C := RX0) (As := [.int (xs ((i + 1)).toNatClampNeg), .int (xs ((i + 2)).toNatClampNeg), .int 0]) (rest := []) ⟨hx, hb, hml, hown, hts⟩ (c_x_may l dC dI h cB cI n tw tr _ σ (xs ((i + 1)).toNatClampNeg) (xs ((i + 2)).toNatClampNeg) 0 hn) (cwV 3 hts gL_X0_may rfl rfl rfl (by decide +kernel) ⟨Nat.le_of_ble_eq_true rfl, Nat.le_of_ble_eq_true rfl⟩) (x_preMt (lw_xK hK) (lw_xP hP) (lw_xD hD) hST hS hA) rfl rfl hl.1 rfl (lv_room (Nat.le_of_ble_eq_true rfl)) dL_law_477 ⟨Nat.le_of_ble_eq_true rfl, Nat.le_of_ble_eq_true rfl⟩) hP hD hS hA (fun r_4 u_2 H locs e_3 hP hD hS => ?_)
    refine lv_aload_n hx hb dL_law_480 rfl (lv_at hl 2 rfl) ?_
    refine lv_aload_n hx hb dL_law_481 rfl (lv_at hl 0 rfl) ?_
    refine lv_iload_n hx hb dL_law_482 rfl (lv_at hl 3 rfl) ?_
    refine lv_iconst (v := 1) hx hb dL_law_483 (by decide) ?_
    refine lv_iadd hx hb dL_law_484 ?_
    refine va_sld hx hb hX hbl hbA hS (lw_ix (k := 1) ei hL hfit (by decide)) dL_law_485 ?_
    refine lv_aload_n hx hb dL_law_486 rfl (lv_at hl 0 rfl) ?_
    refine lv_iload_n hx hb dL_law_487 rfl (lv_at hl 3 rfl) ?_
    refine lv_iconst (v := 2) hx hb dL_law_488 (by decide) ?_
    refine lv_iadd hx hb dL_law_489 ?_
    refine va_sld hx hb hX hbl hbA hS (lw_ix (k := 2) ei hL hfit (by decide)) dL_law_490 ?_
    refine lv_aload_n hx hb dL_law_491 rfl (lv_at hl 0 rfl) ?_
    refine lv_iload_n hx hb dL_law_492 rfl (lv_at hl 3 rfl) ?_
    refine lv_iconst (v := 3) hx hb dL_law_493 (by decide) ?_
    refine lv_iadd hx hb dL_law_494 ?_
    refine va_sld hx hb hX hbl hbA hS (lw_ix (k := 3) ei hL hfit (by decide)) dL_law_495 ?_
    refine lv_if_eq (tgt := 503) hx hb dL_law_496 (by decide) (fun _ => ?_) (fun c_5 => absurd c_1 c_5)
    refine lv_iconst (v := 0) hx hb dL_law_503 (by decide) ?_
    refine lw_mcalli (f := m_may n μ (xs ((i + 1)).toNatClampNeg) (xs ((i + 2)).toNatClampNeg) 0) (va_runV (C := RX1) (As := [.int (xs ((i + 1)).toNatClampNeg), .int (xs ((i + 2)).toNatClampNeg), .int 0]) (rest := [.int r_4]) ⟨hx, hb, hml, hown, hts⟩ (c_m_may l dC dI g cM n _ μ (xs ((i + 1)).toNatClampNeg) (xs ((i + 2)).toNatClampNeg) 0 hn) (cwV 3 hts gL_X1_may rfl rfl rfl (by decide +kernel) ⟨Nat.le_of_ble_eq_true rfl, Nat.le_of_ble_eq_true rfl⟩) (m_preM (lw_mK hK) (lw_mP hP) (lw_mD hD)) rfl rfl hl.1 rfl (lv_room (Nat.le_of_ble_eq_true rfl)) dL_law_504 ⟨Nat.le_of_ble_eq_true rfl, Nat.le_of_ble_eq_true rfl⟩) hP hD hS hA (fun r_8 u_6 H locs e_7 hP hD hS => ?_)
    obtain ⟨er, hR2⟩ := s_may hn hR e_3 e_7
    refine lv_icmp_eq (tgt := 559) hx hb dL_law_507 (by decide) (fun _ => ?_) (fun c_9 => absurd er c_9)
    exact kk u_2 u_6 H locs ls hR2 hP hD hS (lv_sub hl [0, 1, 2, 3] rfl)
  · refine lv_iconst (v := 1) hx hb dL_law_472 (by decide) ?_
    refine lv_goto (tgt := 477) hx hb dL_law_473 (by decide) ?_
    refine lw_xcalli (f := x_may n σ (xs ((i + 1)).toNatClampNeg) (xs ((i + 2)).toNatClampNeg) 1) (va_runV (C := RX0) (As := [.int (xs ((i + 1)).toNatClampNeg), .int (xs ((i + 2)).toNatClampNeg), .int 1]) (rest := []) ⟨hx, hb, hml, hown, hts⟩ (c_x_may l dC dI h cB cI n tw tr _ σ (xs ((i + 1)).toNatClampNeg) (xs ((i + 2)).toNatClampNeg) 1 hn) (cwV 3 hts gL_X0_may rfl rfl rfl (by decide +kernel) ⟨Nat.le_of_ble_eq_true rfl, Nat.le_of_ble_eq_true rfl⟩) (x_preMt (lw_xK hK) (lw_xP hP) (lw_xD hD) hST hS hA) rfl rfl hl.1 rfl (lv_room (Nat.le_of_ble_eq_true rfl)) dL_law_477 ⟨Nat.le_of_ble_eq_true rfl, Nat.le_of_ble_eq_true rfl⟩) hP hD hS hA (fun r_12 u_10 H locs e_11 hP hD hS => ?_)
    refine lv_aload_n hx hb dL_law_480 rfl (lv_at hl 2 rfl) ?_
    refine lv_aload_n hx hb dL_law_481 rfl (lv_at hl 0 rfl) ?_
    refine lv_iload_n hx hb dL_law_482 rfl (lv_at hl 3 rfl) ?_
    refine lv_iconst (v := 1) hx hb dL_law_483 (by decide) ?_
    refine lv_iadd hx hb dL_law_484 ?_
    refine va_sld hx hb hX hbl hbA hS (lw_ix (k := 1) ei hL hfit (by decide)) dL_law_485 ?_
    refine lv_aload_n hx hb dL_law_486 rfl (lv_at hl 0 rfl) ?_
    refine lv_iload_n hx hb dL_law_487 rfl (lv_at hl 3 rfl) ?_
    refine lv_iconst (v := 2) hx hb dL_law_488 (by decide) ?_
    refine lv_iadd hx hb dL_law_489 ?_
    refine va_sld hx hb hX hbl hbA hS (lw_ix (k := 2) ei hL hfit (by decide)) dL_law_490 ?_
    refine lv_aload_n hx hb dL_law_491 rfl (lv_at hl 0 rfl) ?_
    refine lv_iload_n hx hb dL_law_492 rfl (lv_at hl 3 rfl) ?_
    refine lv_iconst (v := 3) hx hb dL_law_493 (by decide) ?_
    refine lv_iadd hx hb dL_law_494 ?_
    refine va_sld hx hb hX hbl hbA hS (lw_ix (k := 3) ei hL hfit (by decide)) dL_law_495 ?_
    refine lv_if_eq (tgt := 503) hx hb dL_law_496 (by decide) (fun c_13 => absurd c_13 c_1) (fun _ => ?_)
    refine lv_iconst (v := 1) hx hb dL_law_499 (by decide) ?_
    refine lv_goto (tgt := 504) hx hb dL_law_500 (by decide) ?_
    refine lw_mcalli (f := m_may n μ (xs ((i + 1)).toNatClampNeg) (xs ((i + 2)).toNatClampNeg) 1) (va_runV (C := RX1) (As := [.int (xs ((i + 1)).toNatClampNeg), .int (xs ((i + 2)).toNatClampNeg), .int 1]) (rest := [.int r_12]) ⟨hx, hb, hml, hown, hts⟩ (c_m_may l dC dI g cM n _ μ (xs ((i + 1)).toNatClampNeg) (xs ((i + 2)).toNatClampNeg) 1 hn) (cwV 3 hts gL_X1_may rfl rfl rfl (by decide +kernel) ⟨Nat.le_of_ble_eq_true rfl, Nat.le_of_ble_eq_true rfl⟩) (m_preM (lw_mK hK) (lw_mP hP) (lw_mD hD)) rfl rfl hl.1 rfl (lv_room (Nat.le_of_ble_eq_true rfl)) dL_law_504 ⟨Nat.le_of_ble_eq_true rfl, Nat.le_of_ble_eq_true rfl⟩) hP hD hS hA (fun r_16 u_14 H locs e_15 hP hD hS => ?_)
    obtain ⟨er, hR2⟩ := s_may hn hR e_11 e_15
    refine lv_icmp_eq (tgt := 559) hx hb dL_law_507 (by decide) (fun _ => ?_) (fun c_17 => absurd er c_17)
    exact kk u_10 u_14 H locs ls hR2 hP hD hS (lv_sub hl [0, 1, 2, 3] rfl)
set_option maxHeartbeats 8000000 in
set_option maxRecDepth 100000 in
theorem law_kept {p : Program} {l : Launch} {e : Env} {s : State} {m : MethodId} {below : List Frame} {meth : Method} {c : Code} {dC : Nat → ClassId} {dI : Nat → Nat → Nat} {b L : Nat} {xs : Nat → Int32} (hL : L ≤ 2561) (C0 : lw_At p s m meth c b L xs) {h g : Nat → Nat} {cB cI cM : ClassId} {n tw tr : Nat} (hn : n ≤ 2048) (hK : va_K (dC, dI) vwCl (lw_tys cB cI cM) s) (hST : x_ST tw tr (lw_A s) s s.heap) {σ : XS} {μ : MS} {H : Heap} {locs : List Loc} {ls : Array Slot} {i : Int32} {j : Nat} (ei : i = nI j) (hfit : j + 5 ≤ L) (hR : sR n σ μ) (hP : va_P (dC, dI) vwCl (lw_ws h cB cI g cM n σ μ) H) (hD : va_D (lw_A s) (lw_ws h cB cI g cM n σ μ)) (hS : va_S (lw_A s) s.heap H locs) (hl : lv_has ls 4 [(0, .ref b), (1, .ref (h 0)), (2, .ref (g 0)), (3, .int i)]) (kk : ∀ (σ : XS) (μ : MS) (H : Heap) (locs : List Loc) (ls : Array Slot), sR n σ μ → va_P (dC, dI) vwCl (lw_ws h cB cI g cM n σ μ) H → va_D (lw_A s) (lw_ws h cB cI g cM n σ μ) → va_S (lw_A s) s.heap H locs → lv_has ls 4 [(0, .ref b), (1, .ref (h 0)), (2, .ref (g 0)), (3, .int i)] → W p l e room_1 s m #[Value.ref b] below meth c H locs 18 4267 (lw_Z below #[Value.ref b] s) (F0 m 559 ls [])) : W p l e room_1 s m #[Value.ref b] below meth c H locs 18 4267 (lw_Z below #[Value.ref b] s) (F0 m 512 ls []) := by
  obtain ⟨hx, hb, hr, hml, hown0, hts, hX, hbl, hlocks, hgv⟩ := C0
  have hown : s.vm.findClass RL = some m.cls := hown0
  have hA : ∀ q : Nat, s.heap.size ≤ q → (lw_A s) q := fun _ h => h
  have hbA : ¬ (lw_A s) b := Nat.not_le.mpr hbl
  refine lv_aload_n hx hb dL_law_512 rfl (lv_at hl 1 rfl) ?_
  refine lv_aload_n hx hb dL_law_513 rfl (lv_at hl 0 rfl) ?_
  refine lv_iload_n hx hb dL_law_514 rfl (lv_at hl 3 rfl) ?_
  refine lv_iconst (v := 1) hx hb dL_law_515 (by decide) ?_
  refine lv_iadd hx hb dL_law_516 ?_
  refine va_sld hx hb hX hbl hbA hS (lw_ix (k := 1) ei hL hfit (by decide)) dL_law_517 ?_
  refine lv_aload_n hx hb dL_law_518 rfl (lv_at hl 0 rfl) ?_
  refine lv_iload_n hx hb dL_law_519 rfl (lv_at hl 3 rfl) ?_
  refine lv_iconst (v := 2) hx hb dL_law_520 (by decide) ?_
  refine lv_iadd hx hb dL_law_521 ?_
  refine va_sld hx hb hX hbl hbA hS (lw_ix (k := 2) ei hL hfit (by decide)) dL_law_522 ?_
  refine vp_callSl (W.runV (C := RX0) (As := [.int (xs ((i + 1)).toNatClampNeg), .int (xs ((i + 2)).toNatClampNeg)]) (rest := []) ⟨hx, hb, hml, hown, hts⟩ (c_x_kept l dC dI h cB cI n σ (xs ((i + 1)).toNatClampNeg) (xs ((i + 2)).toNatClampNeg) ) (cwV 2 hts gL_X0_kept rfl rfl rfl (by decide +kernel) ⟨Nat.le_of_ble_eq_true rfl, Nat.le_of_ble_eq_true rfl⟩) (x_preP (lw_xK hK) (lw_xP hP)) rfl rfl hl.1 rfl (lv_room (Nat.le_of_ble_eq_true rfl)) dL_law_523 ⟨Nat.le_of_ble_eq_true rfl, Nat.le_of_ble_eq_true rfl⟩) (fun r er => ?_)
  subst er
  refine lv_aload_n hx hb dL_law_526 rfl (lv_at hl 2 rfl) ?_
  refine lv_aload_n hx hb dL_law_527 rfl (lv_at hl 0 rfl) ?_
  refine lv_iload_n hx hb dL_law_528 rfl (lv_at hl 3 rfl) ?_
  refine lv_iconst (v := 1) hx hb dL_law_529 (by decide) ?_
  refine lv_iadd hx hb dL_law_530 ?_
  refine va_sld hx hb hX hbl hbA hS (lw_ix (k := 1) ei hL hfit (by decide)) dL_law_531 ?_
  refine lv_aload_n hx hb dL_law_532 rfl (lv_at hl 0 rfl) ?_
  refine lv_iload_n hx hb dL_law_533 rfl (lv_at hl 3 rfl) ?_
  refine lv_iconst (v := 2) hx hb dL_law_534 (by decide) ?_
  refine lv_iadd hx hb dL_law_535 ?_
  refine va_sld hx hb hX hbl hbA hS (lw_ix (k := 2) ei hL hfit (by decide)) dL_law_536 ?_
  refine vp_callSl (W.runV (C := RX1) (As := [.int (xs ((i + 1)).toNatClampNeg), .int (xs ((i + 2)).toNatClampNeg)]) (rest := [.long (x_kept n σ (xs ((i + 1)).toNatClampNeg) (xs ((i + 2)).toNatClampNeg))]) ⟨hx, hb, hml, hown, hts⟩ (c_m_kept l dC dI g cM n μ (xs ((i + 1)).toNatClampNeg) (xs ((i + 2)).toNatClampNeg) ) (cwV 2 hts gL_X1_kept rfl rfl rfl (by decide +kernel) ⟨Nat.le_of_ble_eq_true rfl, Nat.le_of_ble_eq_true rfl⟩) (m_preP (lw_mK hK) (lw_mP hP)) rfl rfl hl.1 rfl (lv_room (Nat.le_of_ble_eq_true rfl)) dL_law_537 ⟨Nat.le_of_ble_eq_true rfl, Nat.le_of_ble_eq_true rfl⟩) (fun r er => ?_)
  subst er
  refine W.lcmp hx hb dL_law_540 ?_
  have er := s_kept hn hR (a := (xs ((i + 1)).toNatClampNeg)) (b := (xs ((i + 2)).toNatClampNeg))
  refine lv_if_eq (tgt := 559) hx hb dL_law_541 (by decide) (fun _ => ?_) (fun c_1 => absurd (lg_eq er) c_1)
  exact kk σ μ H locs ls hR hP hD hS (lv_sub hl [0, 1, 2, 3] rfl)
set_option maxHeartbeats 8000000 in
set_option maxRecDepth 100000 in
theorem law_failed {p : Program} {l : Launch} {e : Env} {s : State} {m : MethodId} {below : List Frame} {meth : Method} {c : Code} {dC : Nat → ClassId} {dI : Nat → Nat → Nat} {b L : Nat} {xs : Nat → Int32} (hL : L ≤ 2561) (C0 : lw_At p s m meth c b L xs) {h g : Nat → Nat} {cB cI cM : ClassId} {n tw tr : Nat} (hn : n ≤ 2048) (hK : va_K (dC, dI) vwCl (lw_tys cB cI cM) s) (hST : x_ST tw tr (lw_A s) s s.heap) {σ : XS} {μ : MS} {H : Heap} {locs : List Loc} {ls : Array Slot} {i : Int32} {j : Nat} (ei : i = nI j) (hfit : j + 5 ≤ L) (hR : sR n σ μ) (hP : va_P (dC, dI) vwCl (lw_ws h cB cI g cM n σ μ) H) (hD : va_D (lw_A s) (lw_ws h cB cI g cM n σ μ)) (hS : va_S (lw_A s) s.heap H locs) (hl : lv_has ls 4 [(0, .ref b), (1, .ref (h 0)), (2, .ref (g 0)), (3, .int i)]) (kk : ∀ (σ : XS) (μ : MS) (H : Heap) (locs : List Loc) (ls : Array Slot), sR n σ μ → va_P (dC, dI) vwCl (lw_ws h cB cI g cM n σ μ) H → va_D (lw_A s) (lw_ws h cB cI g cM n σ μ) → va_S (lw_A s) s.heap H locs → lv_has ls 4 [(0, .ref b), (1, .ref (h 0)), (2, .ref (g 0)), (3, .int i)] → W p l e room_1 s m #[Value.ref b] below meth c H locs 18 4267 (lw_Z below #[Value.ref b] s) (F0 m 559 ls [])) : W p l e room_1 s m #[Value.ref b] below meth c H locs 18 4267 (lw_Z below #[Value.ref b] s) (F0 m 546 ls []) := by
  obtain ⟨hx, hb, hr, hml, hown0, hts, hX, hbl, hlocks, hgv⟩ := C0
  have hown : s.vm.findClass RL = some m.cls := hown0
  have hA : ∀ q : Nat, s.heap.size ≤ q → (lw_A s) q := fun _ h => h
  have hbA : ¬ (lw_A s) b := Nat.not_le.mpr hbl
  refine lv_aload_n hx hb dL_law_546 rfl (lv_at hl 1 rfl) ?_
  refine vp_callSi (W.runV (C := RX0) (As := []) (rest := []) ⟨hx, hb, hml, hown, hts⟩ (c_x_failed l dC dI h cB cI n σ  ) (cwV 0 hts gL_X0_failed rfl rfl rfl (by decide +kernel) ⟨Nat.le_of_ble_eq_true rfl, Nat.le_of_ble_eq_true rfl⟩) (x_preP (lw_xK hK) (lw_xP hP)) rfl rfl hl.1 rfl (lv_room (Nat.le_of_ble_eq_true rfl)) dL_law_547 ⟨Nat.le_of_ble_eq_true rfl, Nat.le_of_ble_eq_true rfl⟩) (fun r er => ?_)
  subst er
  refine lv_aload_n hx hb dL_law_550 rfl (lv_at hl 2 rfl) ?_
  refine vp_callSi (W.runV (C := RX1) (As := []) (rest := [.int (x_failed n σ)]) ⟨hx, hb, hml, hown, hts⟩ (c_m_failed l dC dI g cM n μ  ) (cwV 0 hts gL_X1_failed rfl rfl rfl (by decide +kernel) ⟨Nat.le_of_ble_eq_true rfl, Nat.le_of_ble_eq_true rfl⟩) (m_preP (lw_mK hK) (lw_mP hP)) rfl rfl hl.1 rfl (lv_room (Nat.le_of_ble_eq_true rfl)) dL_law_551 ⟨Nat.le_of_ble_eq_true rfl, Nat.le_of_ble_eq_true rfl⟩) (fun r er => ?_)
  subst er
  have er := s_failed hn hR
  refine lv_icmp_eq (tgt := 559) hx hb dL_law_554 (by decide) (fun _ => ?_) (fun c_1 => absurd er c_1)
  exact kk σ μ H locs ls hR hP hD hS (lv_sub hl [0, 1, 2, 3] rfl)
end
section
set_option maxHeartbeats 8000000 in
set_option maxRecDepth 100000 in
theorem law_loop {p : Program} {l : Launch} {e : Env} {s : State} {m : MethodId} {below : List Frame} {meth : Method} {c : Code} {dC : Nat → ClassId} {dI : Nat → Nat → Nat} {b L : Nat} {xs : Nat → Int32} (hL : L ≤ 2561) (C0 : lw_At p s m meth c b L xs) {h g : Nat → Nat} {cB cI cM : ClassId} {n tw tr : Nat} (hn : n ≤ 2048) (hK : va_K (dC, dI) vwCl (lw_tys cB cI cM) s) (hST : x_ST tw tr (lw_A s) s s.heap) : ∀ (f j : Nat) (i : Int32) (σ : XS) (μ : MS) (H : Heap) (locs : List Loc) (ls : Array Slot), i = nI j → j ≤ L + 5 → L + 6 ≤ j + f → sR n σ μ → va_P (dC, dI) vwCl (lw_ws h cB cI g cM n σ μ) H → va_D (lw_A s) (lw_ws h cB cI g cM n σ μ) → va_S (lw_A s) s.heap H locs → lv_has ls 4 [(0, .ref b), (1, .ref (h 0)), (2, .ref (g 0)), (3, .int i)] → W p l e room_1 s m #[Value.ref b] below meth c H locs 18 4267 (lw_Z below #[Value.ref b] s) (F0 m 28 ls []) := by
  have C1 := C0
  obtain ⟨hx, hb, hr, hml, hown0, hts, hX, hbl, hlocks, hgv⟩ := C0
  have hown : s.vm.findClass RL = some m.cls := hown0
  have hA : ∀ q : Nat, s.heap.size ≤ q → (lw_A s) q := fun _ h => h
  have hbA : ¬ (lw_A s) b := Nat.not_le.mpr hbl
  intro f
  induction f with
  | zero => intro j i σ μ H locs ls ei h1 h2; exact absurd h2 (by omega)
  | succ f ih =>
    intro j i σ μ H locs ls ei h1 h2 hR hP hD hS hl
    refine lv_iload_n hx hb dL_law_28 rfl (lv_at hl 3 rfl) ?_
    refine lv_aload_n hx hb dL_law_29 rfl (lv_at hl 0 rfl) ?_
    refine va_slen hx hb hX hbl hbA hS dL_law_30 ?_
    refine lv_iconst (v := 5) hx hb dL_law_31 (by decide) ?_
    refine lv_isub hx hb dL_law_32 ?_
    refine lv_icmp_gt (tgt := 565) hx hb dL_law_33 (by decide) (fun c_1 => ?_) (fun c_1 => ?_)
    · refine lv_iconst (v := 1) hx hb dL_law_565 (by decide) ?_
      refine va_forget (fun q hq => hS.2.2 q hq) ?_
      refine W.widen (k := 600000) (n := 7302250) (by decide) (by decide) ?_
      exact lw_ret hx hb hr hlocks dL_law_566
    · have hfit : j + 5 ≤ L := lw_fit hL (by omega) (by rw [← ei]; exact c_1)
      refine lv_aload_n hx hb dL_law_36 rfl (lv_at hl 0 rfl) ?_
      refine lv_iload_n hx hb dL_law_37 rfl (lv_at hl 3 rfl) ?_
      refine va_sld hx hb hX hbl hbA hS (lw_ix0 ei hL hfit) dL_law_38 ?_
      refine lv_bipush (v := 15) hx hb dL_law_39 (by decide) ?_
      refine lv_iand hx hb dL_law_41 ?_
      have kk : ∀ (σ : XS) (μ : MS) (H : Heap) (locs : List Loc) (ls : Array Slot), sR n σ μ → va_P (dC, dI) vwCl (lw_ws h cB cI g cM n σ μ) H → va_D (lw_A s) (lw_ws h cB cI g cM n σ μ) → va_S (lw_A s) s.heap H locs → lv_has ls 4 [(0, .ref b), (1, .ref (h 0)), (2, .ref (g 0)), (3, .int i)] → W p l e room_1 s m #[Value.ref b] below meth c H locs 18 4267 (lw_Z below #[Value.ref b] s) (F0 m 559 ls []) := by
        intro σ μ H locs ls hR hP hD hS hl
        refine lv_iinc (v := (i + 5)) (lv' := [(3, .int (i + 5)), (0, .ref b), (1, .ref (h 0)), (2, .ref (g 0))]) hx hb dL_law_559 hl (k := 3) rfl rfl (by decide) rfl (fun ls hl => ?_)
        refine lv_goto (tgt := 28) hx hb dL_law_562 (by decide) ?_
        exact ih (j + 5) (i + 5) σ μ H locs ls (by rw [ei]; exact nI_add j 5) (by omega) (by omega) hR hP hD hS (lv_sub hl [1, 2, 3, 0] rfl)
      obtain ⟨v, hv, ev⟩ := pk_andE (xs i.toNatClampNeg) (m := 15) 4 (by decide)
      rw [ev]
      rcases (show v = 0 ∨ v = 1 ∨ v = 2 ∨ v = 3 ∨ v = 4 ∨ v = 5 ∨ v = 6 ∨ v = 7 ∨ v = 8 ∨ v = 9 ∨ v = 10 ∨ v = 11 ∨ v = 12 ∨ v = 13 ∨ v = 14 ∨ v = 15 by omega) with rfl | rfl | rfl | rfl | rfl | rfl | rfl | rfl | rfl | rfl | rfl | rfl | rfl | rfl | rfl | rfl
      · refine lv_tableIn (off := 62) (tgt := 104) hx hb dL_law_42 (by decide) (by decide) rfl (by decide) ?_
        exact law_put hL C1 hn hK hST ei hfit hR hP hD hS hl kk
      · refine lv_tableIn (off := 95) (tgt := 137) hx hb dL_law_42 (by decide) (by decide) rfl (by decide) ?_
        exact law_entry hL C1 hn hK hST ei hfit hR hP hD hS hl kk
      · refine lv_tableIn (off := 128) (tgt := 170) hx hb dL_law_42 (by decide) (by decide) rfl (by decide) ?_
        exact law_entryOf hL C1 hn hK hST ei hfit hR hP hD hS hl kk
      · refine lv_tableIn (off := 152) (tgt := 194) hx hb dL_law_42 (by decide) (by decide) rfl (by decide) ?_
        exact law_region hL C1 hn hK hST ei hfit hR hP hD hS hl kk
      · refine lv_tableIn (off := 195) (tgt := 237) hx hb dL_law_42 (by decide) (by decide) rfl (by decide) ?_
        exact law_map hL C1 hn hK hST ei hfit hR hP hD hS hl kk
      · refine lv_tableIn (off := 232) (tgt := 274) hx hb dL_law_42 (by decide) (by decide) rfl (by decide) ?_
        exact law_drop hL C1 hn hK hST ei hfit hR hP hD hS hl kk
      · refine lv_tableIn (off := 255) (tgt := 297) hx hb dL_law_42 (by decide) (by decide) rfl (by decide) ?_
        exact law_read hL C1 hn hK hST ei hfit hR hP hD hS hl kk
      · refine lv_tableIn (off := 299) (tgt := 341) hx hb dL_law_42 (by decide) (by decide) rfl (by decide) ?_
        exact law_write hL C1 hn hK hST ei hfit hR hP hD hS hl kk
      · refine lv_tableIn (off := 352) (tgt := 394) hx hb dL_law_42 (by decide) (by decide) rfl (by decide) ?_
        exact law_where hL C1 hn hK hST ei hfit hR hP hD hS hl kk
      · refine lv_tableIn (off := 411) (tgt := 453) hx hb dL_law_42 (by decide) (by decide) rfl (by decide) ?_
        exact law_may hL C1 hn hK hST ei hfit hR hP hD hS hl kk
      · refine lv_tableIn (off := 470) (tgt := 512) hx hb dL_law_42 (by decide) (by decide) rfl (by decide) ?_
        exact law_kept hL C1 hn hK hST ei hfit hR hP hD hS hl kk
      · refine lv_tableIn (off := 504) (tgt := 546) hx hb dL_law_42 (by decide) (by decide) rfl (by decide) ?_
        exact law_failed hL C1 hn hK hST ei hfit hR hP hD hS hl kk
      · refine lv_tableOut (tgt := 559) hx hb dL_law_42 (by decide) (by decide) ?_
        exact kk σ μ H locs ls hR hP hD hS hl
      · refine lv_tableOut (tgt := 559) hx hb dL_law_42 (by decide) (by decide) ?_
        exact kk σ μ H locs ls hR hP hD hS hl
      · refine lv_tableOut (tgt := 559) hx hb dL_law_42 (by decide) (by decide) ?_
        exact kk σ μ H locs ls hR hP hD hS hl
      · refine lv_tableOut (tgt := 559) hx hb dL_law_42 (by decide) (by decide) ?_
        exact kk σ μ H locs ls hR hP hD hS hl
end
section
set_option maxHeartbeats 8000000 in
set_option maxRecDepth 100000 in
theorem whole_start {p : Program} {e : Env} {s : State} {m : MethodId} {below : List Frame} {meth : Method} {c : Code} (l : Launch) {b L : Nat} {xs : Nat → Int32} (hL : L ≤ 2561) (C0 : lw_At p s m meth c b L xs) : W p l e room_1 s m #[Value.ref b] below meth c s.heap [] 0 0 (lw_Z below #[Value.ref b] s) (entryFrame m ([Value.ref b] : List Value).toArray 4) := by
  have C1 := C0
  obtain ⟨hx, hb, hr, hml, hown0, hts, hX, hbl, hlocks, hgv⟩ := C0
  have hown : s.vm.findClass RL = some m.cls := hown0
  have hA : ∀ q : Nat, s.heap.size ≤ q → (lw_A s) q := fun _ h => h
  have hbA : ¬ (lw_A s) b := Nat.not_le.mpr hbl
  obtain ⟨c0, iS0, hKn0⟩ := u_known (C := RX0) (T := TX0) (N := 9) (n := 9) hts (fun w h => (bX0_tw w h).1) (hts _ lwt_5)
  obtain ⟨c1, iS1, hKn1⟩ := u_known (C := RX1) (T := TX1) (N := 14) (n := 14) hts (fun w h => (bX1_tw w h).1) (hts _ lwt_192)
  obtain ⟨dC, dI, hKc⟩ : ∃ (dC : Nat → ClassId) (dI : Nat → Nat → Nat), ∀ (k : Nat) (q : vw_C), vwCl[k]? = some q → u_Kn s q.1 q.2.1 q.2.2 (dC k) (dI k) := by
    refine ⟨fun k => if k = 0 then c0 else c1, fun k => if k = 0 then iS0 else iS1, ?_⟩
    intro k q hq
    match k, hq with
    | 0, hq => cases hq; exact hKn0
    | 1, hq => cases hq; exact hKn1
    | k + 2, hq => simp [vwCl] at hq
  obtain ⟨tw, tr, hST⟩ := lw_ST hts hgv
  have hS : va_S (lw_A s) s.heap s.heap [] := va_S.rf
  have hK : va_K (dC, dI) vwCl [] s := ⟨hKc, fun k q h => by simp at h⟩
  have hP : va_P (dC, dI) vwCl [] s.heap := fun k q h => by simp at h
  have hD : va_D (lw_A s) [] := ⟨fun i j p q h => by simp at h, fun k q h => by simp at h⟩
  have hl := lv_entry ([.ref b]) (n := 4) (Nat.le_of_ble_eq_true rfl)
  rw [lg_entry_eq]
  generalize (lg_sl ([.ref b]) ++ List.replicate (4 - (lg_sl ([.ref b])).length) Slot.unset).toArray = ls at hl ⊢
  have hl : lv_has ls 4 [(0, .ref b)] := hl
  generalize hcell : lw_cell L xs 0 = v0
  refine va_new (ci := 0) (fs := [.null, .null, .null, .int 0, .int 0, .null, .null, .null, .null]) (C := RX0) (T := TX0) (N := 9) hx hb hts (fun w h => (bX0_tw w h).1) tyX0 tyX0_ok hown (hts _ lwt_4) (hts _ lwt_5) (hts _ lwt_1) hK hP hD hS hA rfl (fun j hj => by rcases (show j = 0 ∨ j = 1 ∨ j = 2 ∨ j = 3 ∨ j = 4 ∨ j = 5 ∨ j = 6 ∨ j = 7 ∨ j = 8 by omega) with rfl | rfl | rfl | rfl | rfl | rfl | rfl | rfl | rfl <;> rfl) (Nat.le_of_ble_eq_true rfl) (Nat.le_of_ble_eq_true rfl) dL_law_0 (fun qx H hP hD hS => ?_)
  refine W.widen (k := 1) (n := 9) (by omega) (by omega) ?_
  have hP : va_P (dC, dI) vwCl (x_w0 qx) H := hP
  have hD : va_D (lw_A s) (x_w0 qx) := hD
  refine lv_dup hx hb dL_law_3 rfl ?_
  refine lv_aload_n hx hb dL_law_4 rfl (lv_at hl 0 rfl) ?_
  refine lv_iconst (v := 0) hx hb dL_law_5 (by decide) ?_
  refine vp_callSi (W.runS (As := [.ref b, .int 0]) (rest := [.ref qx, .ref qx]) ⟨hx, hb, hml, hown, hts⟩ (c_L_cell l b L xs hL 0 (by decide)) (va_cwS 2 hts gL_L_cell rfl rfl rfl (by decide +kernel) ⟨Nat.le_of_ble_eq_true rfl, Nat.le_of_ble_eq_true rfl⟩) ⟨fun a U g mk q => ⟨q.1, va_X.moved (u := U) (U := U.calling g mk a) (Vm.Alike.refl U.vm) q.2.1, q.2.2⟩, fun U hU hW => ⟨rfl, va_X.moved hW.alike (va_X.kept hX (by rw [hU]; exact hS.2.1 b hbl hbA)), by rw [hU]; exact Nat.lt_of_lt_of_le hbl hS.1⟩⟩ rfl rfl hl.1 rfl (lv_room (Nat.le_of_ble_eq_true rfl)) dL_law_6 ⟨Nat.le_of_ble_eq_true rfl, Nat.le_of_ble_eq_true rfl⟩) (fun r er => ?_)
  rw [hcell] at er
  subst er
  have hFc := va_free (wc := x_w0 qx) hD hS hA [0] rfl
  have hPc := hP
  have hDc := hD
  refine va_callv (va_runI (As := [.int v0]) (rest := [.ref qx]) ⟨hx, hb, hml, hown, hts⟩ (c_x_init l dC dI qx H.size v0) (cwI 1 hts gL_X0_init rfl rfl rfl (hts _ lwt_1) (hts _ lwt_6) (hts _ lwt_7) rfl (by decide +kernel) ⟨Nat.le_of_ble_eq_true rfl, Nat.le_of_ble_eq_true rfl⟩) ⟨fun a U g mk q => ⟨q.1, q.2.1, q.2.2.1, va_K.moved (u := U) (U := U.calling g mk a) (Vm.Alike.refl U.vm) q.2.2.2.1, q.2.2.2.2⟩, fun U hU hW => ⟨rfl, by rw [hU], by rw [hU]; exact hPc, va_K.moved hW.alike (hK.sub [] rfl), hDc.weaken (fun _ _ _ _ => trivial)⟩⟩ rfl rfl hl.1 rfl (lv_room (Nat.le_of_ble_eq_true rfl)) dL_law_9 ⟨Nat.le_of_ble_eq_true rfl, Nat.le_of_ble_eq_true rfl⟩) hS (fun q _ z => hFc q z) hFc (fun u t H1 locs ht hvm hw hB hz1 hk1 hS => ?_)
  obtain ⟨h, cB, cI⟩ := u
  obtain ⟨hP1, hK1, hD1⟩ := hB
  rw [ht] at hP1
  have hK1 := va_K.moved hvm.symm hK1
  dsimp only at hw hP1 hK1 hD1
  subst hw
  obtain ⟨hP, hD⟩ := va_join (wr := []) (w1 := x_ws h cB cI (x_n v0) x_init) hP hD [0] [] rfl rfl (by decide) (by decide) hk1 hFc hP1 hD1
  have hK : va_K (dC, dI) vwCl (x_tys cB cI) s := hK1
  have hP : va_P (dC, dI) vwCl (x_ws h cB cI (x_n v0) x_init) H1 := hP
  have hD : va_D (lw_A s) (x_ws h cB cI (x_n v0) x_init) := hD
  generalize H1 = H at hP hS ⊢
  refine W.widen (k := 8) (n := 2115) (by omega) (by omega) ?_
  refine lv_astore_n (lv' := [(1, .ref (h 0)), (0, .ref b)]) hx hb dL_law_12 rfl hl (by decide) rfl (fun ls hl => ?_)
  refine va_new (ci := 1) (fs := [.null, .int 0, .null, .null, .int 0, .null, .null, .null, .null, .null, .null, .int 0, .int 0, .int 0]) (C := RX1) (T := TX1) (N := 14) hx hb hts (fun w h => (bX1_tw w h).1) tyX1 tyX1_ok hown (hts _ lwt_191) (hts _ lwt_192) (hts _ lwt_3) hK hP hD hS hA rfl (fun j hj => by rcases (show j = 0 ∨ j = 1 ∨ j = 2 ∨ j = 3 ∨ j = 4 ∨ j = 5 ∨ j = 6 ∨ j = 7 ∨ j = 8 ∨ j = 9 ∨ j = 10 ∨ j = 11 ∨ j = 12 ∨ j = 13 by omega) with rfl | rfl | rfl | rfl | rfl | rfl | rfl | rfl | rfl | rfl | rfl | rfl | rfl | rfl <;> rfl) (Nat.le_of_ble_eq_true rfl) (Nat.le_of_ble_eq_true rfl) dL_law_13 (fun qm H hP hD hS => ?_)
  refine W.widen (k := 9) (n := 2129) (by omega) (by omega) ?_
  have hP : va_P (dC, dI) vwCl (x_ws h cB cI (x_n v0) x_init ++ m_w0 qm) H := hP
  have hD : va_D (lw_A s) (x_ws h cB cI (x_n v0) x_init ++ m_w0 qm) := hD
  refine lv_dup hx hb dL_law_16 rfl ?_
  refine lv_aload_n hx hb dL_law_17 rfl (lv_at hl 1 rfl) ?_
  refine lv_iconst (v := 0) hx hb dL_law_18 (by decide) ?_
  refine vp_callSi (W.runS (As := [.ref b, .int 0]) (rest := [.ref qm, .ref qm]) ⟨hx, hb, hml, hown, hts⟩ (c_L_cell l b L xs hL 0 (by decide)) (va_cwS 2 hts gL_L_cell rfl rfl rfl (by decide +kernel) ⟨Nat.le_of_ble_eq_true rfl, Nat.le_of_ble_eq_true rfl⟩) ⟨fun a U g mk q => ⟨q.1, va_X.moved (u := U) (U := U.calling g mk a) (Vm.Alike.refl U.vm) q.2.1, q.2.2⟩, fun U hU hW => ⟨rfl, va_X.moved hW.alike (va_X.kept hX (by rw [hU]; exact hS.2.1 b hbl hbA)), by rw [hU]; exact Nat.lt_of_lt_of_le hbl hS.1⟩⟩ rfl rfl hl.1 rfl (lv_room (Nat.le_of_ble_eq_true rfl)) dL_law_19 ⟨Nat.le_of_ble_eq_true rfl, Nat.le_of_ble_eq_true rfl⟩) (fun r er => ?_)
  rw [hcell] at er
  subst er
  have hFc := va_free (wc := m_w0 qm) hD hS hA [8] rfl
  have hPc : va_P (dC, dI) vwCl (m_w0 qm) H := hP.sub [8] rfl
  have hDc : va_D (lw_A s) (m_w0 qm) := hD.sub [8] (by decide) rfl
  refine va_callv (va_runI (As := [.int v0]) (rest := [.ref qm]) ⟨hx, hb, hml, hown, hts⟩ (c_m_init l dC dI qm H.size v0) (cwI 1 hts gL_X1_init rfl rfl rfl (hts _ lwt_3) (hts _ lwt_193) (hts _ lwt_194) rfl (by decide +kernel) ⟨Nat.le_of_ble_eq_true rfl, Nat.le_of_ble_eq_true rfl⟩) ⟨fun a U g mk q => ⟨q.1, q.2.1, q.2.2.1, va_K.moved (u := U) (U := U.calling g mk a) (Vm.Alike.refl U.vm) q.2.2.2.1, q.2.2.2.2⟩, fun U hU hW => ⟨rfl, by rw [hU], by rw [hU]; exact hPc, va_K.moved hW.alike (hK.sub [] rfl), hDc.weaken (fun _ _ _ _ => trivial)⟩⟩ rfl rfl hl.1 rfl (lv_room (Nat.le_of_ble_eq_true rfl)) dL_law_22 ⟨Nat.le_of_ble_eq_true rfl, Nat.le_of_ble_eq_true rfl⟩) hS (fun q _ z => hFc q z) hFc (fun u t H1 locs ht hvm hw hB hz1 hk1 hS => ?_)
  obtain ⟨g, cM⟩ := u
  obtain ⟨hP1, hK1, hD1⟩ := hB
  rw [ht] at hP1
  have hK1 := va_K.moved hvm.symm hK1
  dsimp only at hw hP1 hK1 hD1
  subst hw
  obtain ⟨hP, hD⟩ := va_join (wr := x_ws h cB cI (x_n v0) x_init) (w1 := m_ws g cM (x_n v0) (m_ini (x_n v0) m_mu0 0)) hP hD [8] [0, 1, 2, 3, 4, 5, 6, 7] rfl rfl (by decide) (by decide) hk1 hFc hP1 hD1
  have hK : va_K (dC, dI) vwCl (lw_tys cB cI cM) s := hK.app hK1
  have hP : va_P (dC, dI) vwCl (lw_ws h cB cI g cM (x_n v0) x_init (m_ini (x_n v0) m_mu0 0)) H1 := hP
  have hD : va_D (lw_A s) (lw_ws h cB cI g cM (x_n v0) x_init (m_ini (x_n v0) m_mu0 0)) := hD
  generalize H1 = H at hP hS ⊢
  refine W.widen (k := 18) (n := 4267) (by omega) (by omega) ?_
  refine lv_astore_n (lv' := [(2, .ref (g 0)), (1, .ref (h 0)), (0, .ref b)]) hx hb dL_law_25 rfl hl (by decide) rfl (fun ls hl => ?_)
  refine lv_iconst (v := 1) hx hb dL_law_26 (by decide) ?_
  refine lv_istore_n (lv' := [(3, .int 1), (2, .ref (g 0)), (1, .ref (h 0)), (0, .ref b)]) hx hb dL_law_27 rfl hl (by decide) rfl (fun ls hl => ?_)
  obtain ⟨hR, hn⟩ := s_init v0
  exact law_loop hL C1 hn hK hST (L + 6) 1 1 _ _ H _ ls rfl (by omega) (by omega) hR hP hD hS (lv_sub hl [3, 2, 1, 0] rfl)
end
section
-- ===== YOUR PART ENDS =====
set_option maxHeartbeats 4000000 in
theorem lw_walk (l : Launch) (b : Addr) (xs : List Int32) : MetFree l x (headSpec (Jvm.Cond.code x code maxLocals ret :: tables_1) room_1) (lw_P b xs) (fun _ _ _ _ _ => True) lw_Q := by
  refine MetFree.of_bodyS (code := code) (maxLocals := maxLocals) (ret := ret) (by decide) ?_ ?_
  · intro args s m h hn
    obtain ⟨meth, c, h1, h2, h3, h4, h5, h6, -, -⟩ := Cond.code_spec hn (atoms_spec (ws := Jvm.Cond.code x code maxLocals ret :: tables_1) h _ List.mem_cons_self)
    exact ⟨meth, c, h1, h2, h3, h4, h5, h6⟩
  · intro p e s m args below meth c s₁ B hml0 hP _
    obtain ⟨rfl, hx, hbd, hgv⟩ := hP
    obtain ⟨scr, harrAt, hlist, hof, hsmall⟩ := hx
    obtain ⟨hcb, hkn, -, -⟩ := State.arrayAt?_spec harrAt
    have hown : s.vm.findClass R_law = some m.cls := findClass_of_methodNamed B.named
    have hts0 : ∀ c ∈ (Jvm.Cond.code x code maxLocals ret :: tables_1), c.before #[Value.ref b] s = true := atoms_spec (ws := Jvm.Cond.code x code maxLocals ret :: tables_1) B.pre
    have hts : ∀ w ∈ lw_tbl, w.before #[Value.ref b] s = true := k2_hts_sels lw_privs (fun w hw => hts0 w (List.mem_cons_of_mem _ hw)) lw_privs_ok
    have hml : c.maxLocals = 4 := B.maxLocals_eq (hts0 _ List.mem_cons_self)
    have X₀ : Stand p l e room_1 s m #[Value.ref b] below meth c s₁ [] 0 0 := Stand.of_body B
    have hh0 : s₁.heap = s.heap := by rw [B.state]; rfl
    have hsz : scr.slots.size = xs.length := by rw [← Array.length_toList, hlist, List.length_map]
    have hval : ∀ j : Nat, j < xs.length → scr.slots[j]? = some (.int (xs.getD j 0)) := fun j hj => by
      rw [← Array.getElem?_toList, hlist]
      simp [hj]
    have hbl : b < s.heap.size := (Array.getElem?_eq_some_iff.mp hcb).1
    have hX : va_X b xs.length (fun j => xs.getD j 0) s s.heap := ⟨scr, hcb, hof, hkn, hsz, hval⟩
    have K : W p l e room_1 s m #[Value.ref b] below meth c s₁.heap [] 0 0 (lw_Z below #[Value.ref b] s) (entryFrame m ([Value.ref b] : List Value).toArray 4) := by
      rw [hh0]
      exact whole_start l hbd ⟨B.exec, B.bytes, B.returns, hml, hown, hts, hX, hbl, B.notSynchronized, hgv⟩
    obtain ⟨t, a1, o, b1, b2, b3⟩ := K s₁ rfl X₀
    exact ⟨t, o, a1, b1, b2, b3⟩
theorem lw_pre_spec {args : Array Value} {s : State} (h : (Jvm.Cond.and given_1 narrow_1).before args s = true) (hr : rest_1_c.before args s = true) : ∃ (b : Addr) (xs : List Int32), lw_P b xs args s := by
  have hs := flat_of_before _ h
  have hq := flat_of_before _ hr
  have hc : (Cond.count 1).before args s = true := hs _ (by decide +kernel)
  have harr : (Cond.arrayOf (.arg 0) .int).before args s = true := hs _ (by decide +kernel)
  have hle : (Cond.le (.length (.arg 0)) (.int 2561)).before args s = true := hs _ (by decide +kernel)
  have hlen : (Cond.isInt (.length (.arg 0))).before args s = true := hq _ (by decide +kernel)
  have hall : (Cond.all (.arg 0) (.isInt (.elem (.arg 0) (.index 0)))).before args s = true := hq _ (by decide +kernel)
  obtain ⟨b, xs, hb, hx⟩ := State.ints_of_pre rfl harr hlen hall
  have hsm : xs.length < 2 ^ 31 := hx.choose_spec.2.2.2
  have hev : (Term.length (.arg 0)).eval args s none [] s = some (.int xs.length.toInt32) := hx.length_eval hb
  have hv := Cond.le_ints hev (show (Term.int 2561).eval args s none [] s = some (.int 2561) from rfl)
  have hd : xs.length.toInt32 ≤ 2561 := by
    simpa [Cond.before, Cond.holds, hv] using hle
  have hN : xs.length ≤ 2561 := (Int32.ofNat_le_ofNat hsm (by decide)).mp (show Int32.ofNat xs.length ≤ Int32.ofNat 2561 from hd)
  exact ⟨b, xs, Cond.one_arg hc (show args[0]? = some (.ref b) from hb), hx, hN, h⟩
theorem lw_comes (l : Launch) : Comes l x (Jvm.Cond.code x code maxLocals ret :: tables_1) room_1 (fun tb e args s => Calls_1 tb e args s ∧ rest_1 tb e args s ∧ Pre_1 tb e args s)
    (fun _ _ args s o t => lw_Q args s o t) := by
  intro p e ha hc hk s m args below hf hfit hheap happ hpre
  obtain ⟨b, xs, hP⟩ := lw_pre_spec hpre.2.2 hpre.2.1
  obtain ⟨k, o, h1, h2, h3, hQ⟩ := lw_walk l b xs p e ha hc hk s m args below hf ((Spec.applies_iff_loose hf).mp happ).1 hP trivial
  exact ⟨k, o, h1, h2, h3, hQ⟩
theorem lw_frame {s t : State} {o : Outcome} {args : Array Value} (h : Framed s o t [] 600000 7302250) :
    Framed s o t (fieldLocs frame_1_writes args s ++ arrayLocs frame_1_arrays args s ++ staticLocs frame_1_statics s) 600000 7302250 := h
theorem lw_limb (L : Cond) (hL : ∀ (args : Array Value) (s t : State), L.after args s (.returned (some (.int 1))) t = true) :
    ArmFor flags0 classFile x code maxLocals ret World_1 tables_1 room_1 Calls_1 rest_1 Pre_1
      (fun tb e a s o t => postC L tb e a s o t ∧ Framed s o t (fieldLocs frame_1_writes a s ++ arrayLocs frame_1_arrays a s ++ staticLocs frame_1_statics s) 600000 7302250) := by
  intro l _ _ _ p e ha hc hk s m args below hf hfit hheap happ hpre
  obtain ⟨k, o, h1, h2, h3, rfl, hF⟩ := lw_comes l p e ha hc hk s m args below hf hfit hheap happ hpre
  exact ⟨k, _, h1, h2, h3, hL args s _, lw_frame hF⟩
theorem i_vc : Claimed_1_1 ∧ Claimed_1_2 := ⟨lw_limb limb_1_1 (fun args s t => by simp [limb_1_1, Cond.after, Cond.holds, Cond.value]), lw_limb limb_1_2 (fun args s t => Cond.after_iff.mpr (by
  first | (rw [show limb_1_2 = Cond.eq .result (.int 1) from rfl, Cond.eq_ints (x := 1) (y := 1) rfl rfl]; simp; done) | (simp [limb_1_2, Cond.value, Term.eval]; done)))⟩
end
