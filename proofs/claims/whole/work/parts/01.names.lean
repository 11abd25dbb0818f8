-- ===== PART A: goes FIRST, ahead of the names: the tables' words, and 'selects' of the private methods out of them =====
/-- a private method of a class that the tables say can be made, by its rows of tables_1 -/
def lw_okq (q : MethodName × Nat) : Prop := (q.1.cls ≠ "java/lang/invoke/MethodHandle" ∧ q.1.cls ≠ "java/lang/invoke/VarHandle") ∧ Cond.instantiable q.1.cls q.2 ∈ tables_1 ∧ Cond.privateMethod q.1 ∈ tables_1 ∧ Cond.instanceMethod q.1 ∈ tables_1
theorem lw_p0 : lw_okq (⟨"KeptPages", "inMemory", "(II)Z"⟩, 9) := ⟨⟨by decide +kernel, by decide +kernel⟩, List.mem_of_getElem? (i := 5) (by decide +kernel), List.mem_of_getElem? (i := 50) (by decide +kernel), List.mem_of_getElem? (i := 51) (by decide +kernel)⟩
theorem lw_p1 : lw_okq (⟨"KeptPages", "entryAt", "(I)I"⟩, 9) := ⟨⟨by decide +kernel, by decide +kernel⟩, List.mem_of_getElem? (i := 5) (by decide +kernel), List.mem_of_getElem? (i := 62) (by decide +kernel), List.mem_of_getElem? (i := 63) (by decide +kernel)⟩
theorem lw_p2 : lw_okq (⟨"KeptPages", "byteAt", "(I)I"⟩, 9) := ⟨⟨by decide +kernel, by decide +kernel⟩, List.mem_of_getElem? (i := 5) (by decide +kernel), List.mem_of_getElem? (i := 66) (by decide +kernel), List.mem_of_getElem? (i := 67) (by decide +kernel)⟩
theorem lw_p3 : lw_okq (⟨"KeptPages", "forget", "(I)V"⟩, 9) := ⟨⟨by decide +kernel, by decide +kernel⟩, List.mem_of_getElem? (i := 5) (by decide +kernel), List.mem_of_getElem? (i := 77) (by decide +kernel), List.mem_of_getElem? (i := 78) (by decide +kernel)⟩
theorem lw_p4 : lw_okq (⟨"KeptPages", "counts", "(II)Z"⟩, 9) := ⟨⟨by decide +kernel, by decide +kernel⟩, List.mem_of_getElem? (i := 5) (by decide +kernel), List.mem_of_getElem? (i := 98) (by decide +kernel), List.mem_of_getElem? (i := 99) (by decide +kernel)⟩
theorem lw_p5 : lw_okq (⟨"KeptPages", "findPlaces", "(IIIZ)I"⟩, 9) := ⟨⟨by decide +kernel, by decide +kernel⟩, List.mem_of_getElem? (i := 5) (by decide +kernel), List.mem_of_getElem? (i := 110) (by decide +kernel), List.mem_of_getElem? (i := 111) (by decide +kernel)⟩
theorem lw_p6 : lw_okq (⟨"KeptPages", "translate", "(IIZZ)I"⟩, 9) := ⟨⟨by decide +kernel, by decide +kernel⟩, List.mem_of_getElem? (i := 5) (by decide +kernel), List.mem_of_getElem? (i := 117) (by decide +kernel), List.mem_of_getElem? (i := 118) (by decide +kernel)⟩
theorem lw_p7 : lw_okq (⟨"KeptPages", "placeOfEntry", "(IZZ)I"⟩, 9) := ⟨⟨by decide +kernel, by decide +kernel⟩, List.mem_of_getElem? (i := 5) (by decide +kernel), List.mem_of_getElem? (i := 121) (by decide +kernel), List.mem_of_getElem? (i := 122) (by decide +kernel)⟩
theorem lw_p8 : lw_okq (⟨"KeptPages", "inside", "(II)Z"⟩, 9) := ⟨⟨by decide +kernel, by decide +kernel⟩, List.mem_of_getElem? (i := 5) (by decide +kernel), List.mem_of_getElem? (i := 125) (by decide +kernel), List.mem_of_getElem? (i := 126) (by decide +kernel)⟩
theorem lw_p9 : lw_okq (⟨"KeptPages", "placeThroughS", "(IZZ)I"⟩, 9) := ⟨⟨by decide +kernel, by decide +kernel⟩, List.mem_of_getElem? (i := 5) (by decide +kernel), List.mem_of_getElem? (i := 132) (by decide +kernel), List.mem_of_getElem? (i := 133) (by decide +kernel)⟩
theorem lw_p10 : lw_okq (⟨"KeptPages", "keepEntry", "(IIII)V"⟩, 9) := ⟨⟨by decide +kernel, by decide +kernel⟩, List.mem_of_getElem? (i := 5) (by decide +kernel), List.mem_of_getElem? (i := 146) (by decide +kernel), List.mem_of_getElem? (i := 147) (by decide +kernel)⟩
theorem lw_p11 : lw_okq (⟨"KeptPages", "markWritten", "(I)V"⟩, 9) := ⟨⟨by decide +kernel, by decide +kernel⟩, List.mem_of_getElem? (i := 5) (by decide +kernel), List.mem_of_getElem? (i := 157) (by decide +kernel), List.mem_of_getElem? (i := 158) (by decide +kernel)⟩
theorem lw_p12 : lw_okq (⟨"KeptPages", "noteFault", "(II)V"⟩, 9) := ⟨⟨by decide +kernel, by decide +kernel⟩, List.mem_of_getElem? (i := 5) (by decide +kernel), List.mem_of_getElem? (i := 162) (by decide +kernel), List.mem_of_getElem? (i := 163) (by decide +kernel)⟩
theorem lw_p13 : lw_okq (⟨"KeptPagesModel", "code", "(III)V"⟩, 14) := ⟨⟨by decide +kernel, by decide +kernel⟩, List.mem_of_getElem? (i := 192) (by decide +kernel), List.mem_of_getElem? (i := 198) (by decide +kernel), List.mem_of_getElem? (i := 199) (by decide +kernel)⟩
theorem lw_p14 : lw_okq (⟨"KeptPagesModel", "isThere", "(I)Z"⟩, 14) := ⟨⟨by decide +kernel, by decide +kernel⟩, List.mem_of_getElem? (i := 192) (by decide +kernel), List.mem_of_getElem? (i := 249) (by decide +kernel), List.mem_of_getElem? (i := 250) (by decide +kernel)⟩
theorem lw_p15 : lw_okq (⟨"KeptPagesModel", "areFour", "(I)Z"⟩, 14) := ⟨⟨by decide +kernel, by decide +kernel⟩, List.mem_of_getElem? (i := 192) (by decide +kernel), List.mem_of_getElem? (i := 257) (by decide +kernel), List.mem_of_getElem? (i := 258) (by decide +kernel)⟩
def lw_privs_1 : List (MethodName × Nat) := [(⟨"KeptPages", "inMemory", "(II)Z"⟩, 9), (⟨"KeptPages", "entryAt", "(I)I"⟩, 9), (⟨"KeptPages", "byteAt", "(I)I"⟩, 9), (⟨"KeptPages", "forget", "(I)V"⟩, 9), (⟨"KeptPages", "counts", "(II)Z"⟩, 9), (⟨"KeptPages", "findPlaces", "(IIIZ)I"⟩, 9), (⟨"KeptPages", "translate", "(IIZZ)I"⟩, 9), (⟨"KeptPages", "placeOfEntry", "(IZZ)I"⟩, 9), (⟨"KeptPages", "inside", "(II)Z"⟩, 9), (⟨"KeptPages", "placeThroughS", "(IZZ)I"⟩, 9), (⟨"KeptPages", "keepEntry", "(IIII)V"⟩, 9), (⟨"KeptPages", "markWritten", "(I)V"⟩, 9), (⟨"KeptPages", "noteFault", "(II)V"⟩, 9), (⟨"KeptPagesModel", "code", "(III)V"⟩, 14), (⟨"KeptPagesModel", "isThere", "(I)Z"⟩, 14), (⟨"KeptPagesModel", "areFour", "(I)Z"⟩, 14)]
theorem lw_r1 : ∀ q ∈ lw_privs_1, lw_okq q := List.forall_mem_cons.mpr ⟨lw_p0, List.forall_mem_cons.mpr ⟨lw_p1, List.forall_mem_cons.mpr ⟨lw_p2, List.forall_mem_cons.mpr ⟨lw_p3, List.forall_mem_cons.mpr ⟨lw_p4, List.forall_mem_cons.mpr ⟨lw_p5, List.forall_mem_cons.mpr ⟨lw_p6, List.forall_mem_cons.mpr ⟨lw_p7, List.forall_mem_cons.mpr ⟨lw_p8, List.forall_mem_cons.mpr ⟨lw_p9, List.forall_mem_cons.mpr ⟨lw_p10, List.forall_mem_cons.mpr ⟨lw_p11, List.forall_mem_cons.mpr ⟨lw_p12, List.forall_mem_cons.mpr ⟨lw_p13, List.forall_mem_cons.mpr ⟨lw_p14, List.forall_mem_cons.mpr ⟨lw_p15, fun _ h => absurd h List.not_mem_nil⟩⟩⟩⟩⟩⟩⟩⟩⟩⟩⟩⟩⟩⟩⟩⟩
theorem lw_p16 : lw_okq (⟨"KeptPagesModel", "putFour", "(II)V"⟩, 14) := ⟨⟨by decide +kernel, by decide +kernel⟩, List.mem_of_getElem? (i := 192) (by decide +kernel), List.mem_of_getElem? (i := 261) (by decide +kernel), List.mem_of_getElem? (i := 262) (by decide +kernel)⟩
theorem lw_p17 : lw_okq (⟨"KeptPagesModel", "four", "(I)I"⟩, 14) := ⟨⟨by decide +kernel, by decide +kernel⟩, List.mem_of_getElem? (i := 192) (by decide +kernel), List.mem_of_getElem? (i := 269) (by decide +kernel), List.mem_of_getElem? (i := 270) (by decide +kernel)⟩
theorem lw_p18 : lw_okq (⟨"KeptPagesModel", "forget", "(II)V"⟩, 14) := ⟨⟨by decide +kernel, by decide +kernel⟩, List.mem_of_getElem? (i := 192) (by decide +kernel), List.mem_of_getElem? (i := 280) (by decide +kernel), List.mem_of_getElem? (i := 281) (by decide +kernel)⟩
theorem lw_p19 : lw_okq (⟨"KeptPagesModel", "isKept", "(I)Z"⟩, 14) := ⟨⟨by decide +kernel, by decide +kernel⟩, List.mem_of_getElem? (i := 192) (by decide +kernel), List.mem_of_getElem? (i := 292) (by decide +kernel), List.mem_of_getElem? (i := 293) (by decide +kernel)⟩
theorem lw_p20 : lw_okq (⟨"KeptPagesModel", "reach", "(IIIZ)I"⟩, 14) := ⟨⟨by decide +kernel, by decide +kernel⟩, List.mem_of_getElem? (i := 192) (by decide +kernel), List.mem_of_getElem? (i := 314) (by decide +kernel), List.mem_of_getElem? (i := 315) (by decide +kernel)⟩
theorem lw_p21 : lw_okq (⟨"KeptPagesModel", "translate", "(IIZZ)I"⟩, 14) := ⟨⟨by decide +kernel, by decide +kernel⟩, List.mem_of_getElem? (i := 192) (by decide +kernel), List.mem_of_getElem? (i := 318) (by decide +kernel), List.mem_of_getElem? (i := 319) (by decide +kernel)⟩
theorem lw_p22 : lw_okq (⟨"KeptPagesModel", "look", "(IZ)I"⟩, 14) := ⟨⟨by decide +kernel, by decide +kernel⟩, List.mem_of_getElem? (i := 192) (by decide +kernel), List.mem_of_getElem? (i := 322) (by decide +kernel), List.mem_of_getElem? (i := 323) (by decide +kernel)⟩
theorem lw_p23 : lw_okq (⟨"KeptPagesModel", "isInside", "(I)Z"⟩, 14) := ⟨⟨by decide +kernel, by decide +kernel⟩, List.mem_of_getElem? (i := 192) (by decide +kernel), List.mem_of_getElem? (i := 326) (by decide +kernel), List.mem_of_getElem? (i := 327) (by decide +kernel)⟩
theorem lw_p24 : lw_okq (⟨"KeptPagesModel", "keeps", "(III)V"⟩, 14) := ⟨⟨by decide +kernel, by decide +kernel⟩, List.mem_of_getElem? (i := 192) (by decide +kernel), List.mem_of_getElem? (i := 330) (by decide +kernel), List.mem_of_getElem? (i := 331) (by decide +kernel)⟩
theorem lw_p25 : lw_okq (⟨"KeptPagesModel", "isRight", "(IZ)Z"⟩, 14) := ⟨⟨by decide +kernel, by decide +kernel⟩, List.mem_of_getElem? (i := 192) (by decide +kernel), List.mem_of_getElem? (i := 334) (by decide +kernel), List.mem_of_getElem? (i := 335) (by decide +kernel)⟩
def lw_privs_2 : List (MethodName × Nat) := [(⟨"KeptPagesModel", "putFour", "(II)V"⟩, 14), (⟨"KeptPagesModel", "four", "(I)I"⟩, 14), (⟨"KeptPagesModel", "forget", "(II)V"⟩, 14), (⟨"KeptPagesModel", "isKept", "(I)Z"⟩, 14), (⟨"KeptPagesModel", "reach", "(IIIZ)I"⟩, 14), (⟨"KeptPagesModel", "translate", "(IIZZ)I"⟩, 14), (⟨"KeptPagesModel", "look", "(IZ)I"⟩, 14), (⟨"KeptPagesModel", "isInside", "(I)Z"⟩, 14), (⟨"KeptPagesModel", "keeps", "(III)V"⟩, 14), (⟨"KeptPagesModel", "isRight", "(IZ)Z"⟩, 14)]
theorem lw_r2 : ∀ q ∈ lw_privs_2, lw_okq q := List.forall_mem_cons.mpr ⟨lw_p16, List.forall_mem_cons.mpr ⟨lw_p17, List.forall_mem_cons.mpr ⟨lw_p18, List.forall_mem_cons.mpr ⟨lw_p19, List.forall_mem_cons.mpr ⟨lw_p20, List.forall_mem_cons.mpr ⟨lw_p21, List.forall_mem_cons.mpr ⟨lw_p22, List.forall_mem_cons.mpr ⟨lw_p23, List.forall_mem_cons.mpr ⟨lw_p24, List.forall_mem_cons.mpr ⟨lw_p25, fun _ h => absurd h List.not_mem_nil⟩⟩⟩⟩⟩⟩⟩⟩⟩⟩
def lw_privs : List (MethodName × Nat) := lw_privs_1 ++ (lw_privs_2)
def lw_tbl : List Cond := k2_sels lw_privs ++ tables_1
theorem lw_privs_ok : ∀ q ∈ lw_privs, lw_okq q := by
  show ∀ q ∈ lw_privs_1 ++ (lw_privs_2), lw_okq q
  exact List.forall_mem_append.mpr ⟨lw_r1, lw_r2⟩
theorem bg_V {big : List Cond} {own C : String} {idx n : Nat} {y : MethodName} {cc : ByteArray} {r : Option FieldType} {rest : List Cond} (hg : ∀ w ∈ rest, goodWord w = true) (hr : ∀ w ∈ rest, w ∈ big) (h1 : Cond.methodLink own idx y ∈ big) (h2 : Cond.instanceMethod y ∈ big) (h3 : Cond.selects C y y ∈ big) (h4 : Cond.initialized C ∈ big) (h5 : Cond.code y cc n r ∈ big) : GoodIn big (wsV own idx C y (.code y cc n r :: rest)) := by
  intro w hw
  rcases List.mem_append.mp hw with hw | hw
  · rcases List.mem_cons.mp hw with rfl | hw
    · exact ⟨h1, Or.inl rfl⟩
    · rcases List.mem_cons.mp hw with rfl | hw
      · exact ⟨h2, Or.inl rfl⟩
      · rcases List.mem_cons.mp hw with rfl | hw
        · exact ⟨h3, Or.inl rfl⟩
        · rcases List.mem_cons.mp hw with rfl | hw
          · exact ⟨h4, Or.inl rfl⟩
          · cases hw
  · rcases List.mem_cons.mp hw with rfl | hw
    · exact ⟨h5, Or.inl rfl⟩
    · exact ⟨hr w hw, good_of_word (hg w hw)⟩
theorem bg_S {big : List Cond} {own : String} {idx n : Nat} {y : MethodName} {cc : ByteArray} {r : Option FieldType} {rest : List Cond} (hg : ∀ w ∈ rest, goodWord w = true) (hr : ∀ w ∈ rest, w ∈ big) (h1 : Cond.methodLink own idx y ∈ big) (h2 : Cond.static y ∈ big) (h4 : Cond.initialized y.cls ∈ big) (h5 : Cond.code y cc n r ∈ big) : GoodIn big (va_wsS own idx y (.code y cc n r :: rest)) := by
  intro w hw
  rcases List.mem_append.mp hw with hw | hw
  · rcases List.mem_cons.mp hw with rfl | hw
    · exact ⟨h1, Or.inl rfl⟩
    · rcases List.mem_cons.mp hw with rfl | hw
      · exact ⟨h2, Or.inl rfl⟩
      · rcases List.mem_cons.mp hw with rfl | hw
        · exact ⟨h4, Or.inl rfl⟩
        · cases hw
  · rcases List.mem_cons.mp hw with rfl | hw
    · exact ⟨h5, Or.inl rfl⟩
    · exact ⟨hr w hw, good_of_word (hg w hw)⟩
theorem bg_I {big : List Cond} {n : Nat} {y : MethodName} {cc : ByteArray} {rest : List Cond} (hg : ∀ w ∈ rest, goodWord w = true) (hr : ∀ w ∈ rest, w ∈ big) (h5 : Cond.code y cc n none ∈ big) : GoodIn big (.code y cc n none :: rest) := by
  intro w hw
  rcases List.mem_cons.mp hw with rfl | hw
  · exact ⟨h5, Or.inl rfl⟩
  · exact ⟨hr w hw, good_of_word (hg w hw)⟩
def RX0 : String := "KeptPages"
def RX1 : String := "KeptPagesModel"
def RL : String := "KeptPagesLaw"
def RJ : String := "java/util/Arrays"
def TX0 : u_T := fun k => match k with
  | 0 => ("KeptPages", "memory", "[B", true)
  | 1 => ("KeptPages", "bases", "[I", true)
  | 2 => ("KeptPages", "lengths", "[I", true)
  | 3 => ("KeptPages", "mapped", "Z", false)
  | 4 => ("KeptPages", "failedAt", "I", false)
  | 5 => ("KeptPages", "keptPages", "[I", true)
  | 6 => ("KeptPages", "keptEntries", "[I", true)
  | 7 => ("KeptPages", "keptPlaces", "[I", true)
  | _ => ("KeptPages", "places", "[I", true)
def tyX0 : Nat → FieldType := fun k => match k with
  | 0 => .array .byte
  | 1 => .array .int
  | 2 => .array .int
  | 3 => .boolean
  | 4 => .int
  | 5 => .array .int
  | 6 => .array .int
  | 7 => .array .int
  | _ => .array .int
abbrev wsX00 : List Cond := u_ws RX0 TX0 9
theorem nmX0 : ∀ a, a < 9 → ∀ b, b < 9 → a ≠ b → (TX0 a).2.1 ≠ (TX0 b).2.1 := by decide +kernel
theorem tyX0_ok : ∀ k, k < 9 → parseFieldDescriptor (TX0 k).2.2.1 = some (tyX0 k) := by decide +kernel
def TX1 : u_T := fun k => match k with
  | 0 => ("KeptPagesModel", "memory", "[I", true)
  | 1 => ("KeptPagesModel", "bytes", "I", true)
  | 2 => ("KeptPagesModel", "base", "[I", true)
  | 3 => ("KeptPagesModel", "length", "[I", true)
  | 4 => ("KeptPagesModel", "isOn", "Z", false)
  | 5 => ("KeptPagesModel", "page", "[I", true)
  | 6 => ("KeptPagesModel", "entry", "[I", true)
  | 7 => ("KeptPagesModel", "place", "[I", true)
  | 8 => ("KeptPagesModel", "writes", "[I", true)
  | 9 => ("KeptPagesModel", "reads", "[I", true)
  | 10 => ("KeptPagesModel", "lies", "[I", true)
  | 11 => ("KeptPagesModel", "fails", "I", false)
  | 12 => ("KeptPagesModel", "looked", "I", false)
  | _ => ("KeptPagesModel", "at", "I", false)
def tyX1 : Nat → FieldType := fun k => match k with
  | 0 => .array .int
  | 1 => .int
  | 2 => .array .int
  | 3 => .array .int
  | 4 => .boolean
  | 5 => .array .int
  | 6 => .array .int
  | 7 => .array .int
  | 8 => .array .int
  | 9 => .array .int
  | 10 => .array .int
  | 11 => .int
  | 12 => .int
  | _ => .int
abbrev wsX10 : List Cond := u_ws RX1 TX1 14
theorem nmX1 : ∀ a, a < 14 → ∀ b, b < 14 → a ≠ b → (TX1 a).2.1 ≠ (TX1 b).2.1 := by decide +kernel
theorem tyX1_ok : ∀ k, k < 14 → parseFieldDescriptor (TX1 k).2.2.1 = some (tyX1 k) := by decide +kernel
abbrev cX0_init : ByteArray := prog_1_method_1_code
def yX0_init : MethodName := ⟨RX0, "<init>", "(I)V"⟩
abbrev cJ_fill : ByteArray := prog_4_method_103_code
def yJ_fill : MethodName := ⟨RJ, "fill", "([II)V"⟩
abbrev cX0_put : ByteArray := prog_1_method_2_code
def yX0_put : MethodName := ⟨RX0, "put", "(II)Z"⟩
abbrev cX0_inMemory : ByteArray := prog_1_method_25_code
def yX0_inMemory : MethodName := ⟨RX0, "inMemory", "(II)Z"⟩
abbrev cX0_entry : ByteArray := prog_1_method_3_code
def yX0_entry : MethodName := ⟨RX0, "entry", "(II)Z"⟩
abbrev cX0_entryOf : ByteArray := prog_1_method_4_code
def yX0_entryOf : MethodName := ⟨RX0, "entryOf", "(I)J"⟩
abbrev cX0_entryAt : ByteArray := prog_1_method_27_code
def yX0_entryAt : MethodName := ⟨RX0, "entryAt", "(I)I"⟩
abbrev cX0_byteAt : ByteArray := prog_1_method_26_code
def yX0_byteAt : MethodName := ⟨RX0, "byteAt", "(I)I"⟩
abbrev cX0_region : ByteArray := prog_1_method_5_code
def yX0_region : MethodName := ⟨RX0, "region", "(III)Z"⟩
abbrev cX0_forget : ByteArray := prog_1_method_21_code
def yX0_forget : MethodName := ⟨RX0, "forget", "(I)V"⟩
abbrev cX0_map : ByteArray := prog_1_method_6_code
def yX0_map : MethodName := ⟨RX0, "map", "(Z)V"⟩
abbrev cX0_drop : ByteArray := prog_1_method_7_code
def yX0_drop : MethodName := ⟨RX0, "drop", "(I)Z"⟩
abbrev cX0_slotOf : ByteArray := prog_1_method_22_code
def yX0_slotOf : MethodName := ⟨RX0, "slotOf", "(I)I"⟩
abbrev cX0_pageOf : ByteArray := prog_1_method_32_code
def yX0_pageOf : MethodName := ⟨RX0, "pageOf", "(I)I"⟩
abbrev cX0_regionOf : ByteArray := prog_1_method_31_code
def yX0_regionOf : MethodName := ⟨RX0, "regionOf", "(I)I"⟩
abbrev cX0_counts : ByteArray := prog_1_method_23_code
def yX0_counts : MethodName := ⟨RX0, "counts", "(II)Z"⟩
abbrev cX0_read : ByteArray := prog_1_method_8_code
def yX0_read : MethodName := ⟨RX0, "read", "(III)J"⟩
abbrev cX0_isCount : ByteArray := prog_1_method_34_code
def yX0_isCount : MethodName := ⟨RX0, "isCount", "(I)Z"⟩
abbrev cX0_findPlaces : ByteArray := prog_1_method_14_code
def yX0_findPlaces : MethodName := ⟨RX0, "findPlaces", "(IIIZ)I"⟩
abbrev cX0_placeInPage : ByteArray := prog_1_method_33_code
def yX0_placeInPage : MethodName := ⟨RX0, "placeInPage", "(I)I"⟩
abbrev cX0_translate : ByteArray := prog_1_method_16_code
def yX0_translate : MethodName := ⟨RX0, "translate", "(IIZZ)I"⟩
abbrev cX0_placeOfEntry : ByteArray := prog_1_method_17_code
def yX0_placeOfEntry : MethodName := ⟨RX0, "placeOfEntry", "(IZZ)I"⟩
abbrev cX0_inside : ByteArray := prog_1_method_24_code
def yX0_inside : MethodName := ⟨RX0, "inside", "(II)Z"⟩
abbrev cX0_access : ByteArray := prog_1_method_35_code
def yX0_access : MethodName := ⟨RX0, "access", "(IZ)I"⟩
abbrev cX0_placeThroughS : ByteArray := prog_1_method_18_code
def yX0_placeThroughS : MethodName := ⟨RX0, "placeThroughS", "(IZZ)I"⟩
abbrev cX0_physical : ByteArray := prog_1_method_30_code
def yX0_physical : MethodName := ⟨RX0, "physical", "(II)I"⟩
abbrev cX0_isValid : ByteArray := prog_1_method_29_code
def yX0_isValid : MethodName := ⟨RX0, "isValid", "(I)Z"⟩
abbrev cX0_missing : ByteArray := prog_1_method_36_code
def yX0_missing : MethodName := ⟨RX0, "missing", "(IZ)I"⟩
abbrev cX0_keepEntry : ByteArray := prog_1_method_19_code
def yX0_keepEntry : MethodName := ⟨RX0, "keepEntry", "(IIII)V"⟩
abbrev cX0_gives : ByteArray := prog_1_method_28_code
def yX0_gives : MethodName := ⟨RX0, "gives", "(IIZ)Z"⟩
abbrev cX0_markWritten : ByteArray := prog_1_method_20_code
def yX0_markWritten : MethodName := ⟨RX0, "markWritten", "(I)V"⟩
abbrev cX0_noteFault : ByteArray := prog_1_method_15_code
def yX0_noteFault : MethodName := ⟨RX0, "noteFault", "(II)V"⟩
abbrev cX0_write : ByteArray := prog_1_method_9_code
def yX0_write : MethodName := ⟨RX0, "write", "(IIII)I"⟩
abbrev cX0_where : ByteArray := prog_1_method_10_code
def yX0_where : MethodName := ⟨RX0, "where", "(IIZ)I"⟩
abbrev cX0_may : ByteArray := prog_1_method_11_code
def yX0_may : MethodName := ⟨RX0, "may", "(IIZ)I"⟩
abbrev cX0_isAccess : ByteArray := prog_1_method_37_code
def yX0_isAccess : MethodName := ⟨RX0, "isAccess", "(I)Z"⟩
abbrev cX0_kept : ByteArray := prog_1_method_12_code
def yX0_kept : MethodName := ⟨RX0, "kept", "(II)J"⟩
abbrev cX0_failed : ByteArray := prog_1_method_13_code
def yX0_failed : MethodName := ⟨RX0, "failed", "()I"⟩
abbrev cL_cell : ByteArray := method_2_code
def yL_cell : MethodName := ⟨RL, "cell", "([II)I"⟩
abbrev cX1_init : ByteArray := prog_3_method_1_code
def yX1_init : MethodName := ⟨RX1, "<init>", "(I)V"⟩
abbrev cX1_code : ByteArray := prog_3_method_2_code
def yX1_code : MethodName := ⟨RX1, "code", "(III)V"⟩
abbrev cX1_put : ByteArray := prog_3_method_7_code
def yX1_put : MethodName := ⟨RX1, "put", "(II)Z"⟩
abbrev cX1_isThere : ByteArray := prog_3_method_3_code
def yX1_isThere : MethodName := ⟨RX1, "isThere", "(I)Z"⟩
abbrev cX1_entry : ByteArray := prog_3_method_8_code
def yX1_entry : MethodName := ⟨RX1, "entry", "(II)Z"⟩
abbrev cX1_areFour : ByteArray := prog_3_method_4_code
def yX1_areFour : MethodName := ⟨RX1, "areFour", "(I)Z"⟩
abbrev cX1_putFour : ByteArray := prog_3_method_6_code
def yX1_putFour : MethodName := ⟨RX1, "putFour", "(II)V"⟩
abbrev cX1_entryOf : ByteArray := prog_3_method_9_code
def yX1_entryOf : MethodName := ⟨RX1, "entryOf", "(I)J"⟩
abbrev cX1_four : ByteArray := prog_3_method_5_code
def yX1_four : MethodName := ⟨RX1, "four", "(I)I"⟩
abbrev cX1_region : ByteArray := prog_3_method_11_code
def yX1_region : MethodName := ⟨RX1, "region", "(III)Z"⟩
abbrev cX1_forget : ByteArray := prog_3_method_10_code
def yX1_forget : MethodName := ⟨RX1, "forget", "(II)V"⟩
abbrev cX1_map : ByteArray := prog_3_method_12_code
def yX1_map : MethodName := ⟨RX1, "map", "(Z)V"⟩
abbrev cX1_drop : ByteArray := prog_3_method_19_code
def yX1_drop : MethodName := ⟨RX1, "drop", "(I)Z"⟩
abbrev cX1_isKept : ByteArray := prog_3_method_16_code
def yX1_isKept : MethodName := ⟨RX1, "isKept", "(I)Z"⟩
abbrev cX1_slot : ByteArray := prog_3_method_15_code
def yX1_slot : MethodName := ⟨RX1, "slot", "(I)I"⟩
abbrev cX1_regionOf : ByteArray := prog_3_method_13_code
def yX1_regionOf : MethodName := ⟨RX1, "regionOf", "(I)I"⟩
abbrev cX1_pageOf : ByteArray := prog_3_method_14_code
def yX1_pageOf : MethodName := ⟨RX1, "pageOf", "(I)I"⟩
abbrev cX1_read : ByteArray := prog_3_method_25_code
def yX1_read : MethodName := ⟨RX1, "read", "(III)J"⟩
abbrev cX1_isSize : ByteArray := prog_3_method_24_code
def yX1_isSize : MethodName := ⟨RX1, "isSize", "(I)Z"⟩
abbrev cX1_reach : ByteArray := prog_3_method_23_code
def yX1_reach : MethodName := ⟨RX1, "reach", "(IIIZ)I"⟩
abbrev cX1_translate : ByteArray := prog_3_method_22_code
def yX1_translate : MethodName := ⟨RX1, "translate", "(IIZZ)I"⟩
abbrev cX1_look : ByteArray := prog_3_method_20_code
def yX1_look : MethodName := ⟨RX1, "look", "(IZ)I"⟩
abbrev cX1_isInside : ByteArray := prog_3_method_18_code
def yX1_isInside : MethodName := ⟨RX1, "isInside", "(I)Z"⟩
abbrev cX1_keeps : ByteArray := prog_3_method_17_code
def yX1_keeps : MethodName := ⟨RX1, "keeps", "(III)V"⟩
abbrev cX1_isRight : ByteArray := prog_3_method_21_code
def yX1_isRight : MethodName := ⟨RX1, "isRight", "(IZ)Z"⟩
abbrev cX1_write : ByteArray := prog_3_method_26_code
def yX1_write : MethodName := ⟨RX1, "write", "(IIII)I"⟩
abbrev cX1_where : ByteArray := prog_3_method_27_code
def yX1_where : MethodName := ⟨RX1, "where", "(IIZ)I"⟩
abbrev cX1_may : ByteArray := prog_3_method_28_code
def yX1_may : MethodName := ⟨RX1, "may", "(IIZ)I"⟩
abbrev cX1_kept : ByteArray := prog_3_method_29_code
def yX1_kept : MethodName := ⟨RX1, "kept", "(II)J"⟩
abbrev cX1_failed : ByteArray := prog_3_method_30_code
def yX1_failed : MethodName := ⟨RX1, "failed", "()I"⟩
abbrev cL_law : ByteArray := code
abbrev vwCl : List vw_C := [(RX0, TX0, 9), (RX1, TX1, 14)]
def bX0_q0 : List Cond := [Cond.fieldLink RX0 9 "KeptPages" "memory" "[B", Cond.fieldLink RX0 13 "KeptPages" "bases" "[I", Cond.fieldLink RX0 17 "KeptPages" "lengths" "[I", Cond.fieldLink RX0 20 "KeptPages" "mapped" "Z", Cond.fieldLink RX0 24 "KeptPages" "failedAt" "I", Cond.fieldLink RX0 28 "KeptPages" "keptPages" "[I", Cond.fieldLink RX0 37 "KeptPages" "keptEntries" "[I", Cond.fieldLink RX0 40 "KeptPages" "keptPlaces" "[I", Cond.fieldLink RX0 43 "KeptPages" "places" "[I", Cond.constantLong RX0 54 4294967295, Cond.constantLong RX0 56 (-1), Cond.constant RX0 58 65535, Cond.constantLong RX0 73 (-101), Cond.constant RX0 144 (-2147483648), Cond.fieldLink RX0 138 "KeptPages" "MAY_WRITE" "[I", Cond.fieldLink RX0 141 "KeptPages" "MAY_READ" "[I", Cond.constant RX0 137 67108864, Cond.initialized RX0, Cond.arrayClass .byte, Cond.arrayClass .int, Cond.methodLink RX0 1 objectInit, Cond.methodLink RX0 31 yJ_fill, Cond.methodLink RX0 46 yX0_inMemory, Cond.methodLink RX0 50 yX0_entryAt, Cond.methodLink RX0 79 yX0_byteAt, Cond.methodLink RX0 59 yX0_forget, Cond.methodLink RX0 63 yX0_slotOf, Cond.methodLink RX0 128 yX0_pageOf, Cond.methodLink RX0 125 yX0_regionOf, Cond.methodLink RX0 66 yX0_counts, Cond.methodLink RX0 69 yX0_isCount, Cond.methodLink RX0 75 yX0_findPlaces, Cond.methodLink RX0 97 yX0_placeInPage, Cond.methodLink RX0 82 yX0_translate, Cond.methodLink RX0 90 yX0_placeOfEntry, Cond.methodLink RX0 131 yX0_inside, Cond.methodLink RX0 104 yX0_access, Cond.methodLink RX0 134 yX0_placeThroughS, Cond.methodLink RX0 121 yX0_physical, Cond.methodLink RX0 108 yX0_isValid]
def bX0_q1 : List Cond := [Cond.methodLink RX0 111 yX0_missing, Cond.methodLink RX0 114 yX0_keepEntry, Cond.methodLink RX0 86 yX0_gives, Cond.methodLink RX0 118 yX0_markWritten, Cond.methodLink RX0 100 yX0_noteFault, Cond.methodLink RX0 94 yX0_isAccess, Cond.initialized RJ, Cond.instanceMethod yX0_init, Cond.instanceMethod objectInit, Cond.static yJ_fill, Cond.instanceMethod yX0_put, Cond.instanceMethod yX0_inMemory, Cond.instanceMethod yX0_entry, Cond.instanceMethod yX0_entryOf, Cond.instanceMethod yX0_entryAt, Cond.instanceMethod yX0_byteAt, Cond.instanceMethod yX0_region, Cond.instanceMethod yX0_forget, Cond.instanceMethod yX0_map, Cond.instanceMethod yX0_drop, Cond.static yX0_slotOf, Cond.static yX0_pageOf, Cond.static yX0_regionOf, Cond.instanceMethod yX0_counts, Cond.instanceMethod yX0_read, Cond.static yX0_isCount, Cond.instanceMethod yX0_findPlaces, Cond.static yX0_placeInPage, Cond.instanceMethod yX0_translate, Cond.instanceMethod yX0_placeOfEntry, Cond.instanceMethod yX0_inside, Cond.static yX0_access, Cond.instanceMethod yX0_placeThroughS, Cond.static yX0_physical, Cond.static yX0_isValid, Cond.static yX0_missing, Cond.instanceMethod yX0_keepEntry, Cond.static yX0_gives, Cond.instanceMethod yX0_markWritten, Cond.instanceMethod yX0_noteFault]
def bX0_q2 : List Cond := [Cond.instanceMethod yX0_write, Cond.instanceMethod yX0_where, Cond.instanceMethod yX0_may, Cond.static yX0_isAccess, Cond.instanceMethod yX0_kept, Cond.instanceMethod yX0_failed, Cond.selects RX0 yX0_put yX0_put, Cond.selects RX0 yX0_entry yX0_entry, Cond.selects RX0 yX0_entryOf yX0_entryOf, Cond.selects RX0 yX0_region yX0_region, Cond.selects RX0 yX0_map yX0_map, Cond.selects RX0 yX0_drop yX0_drop, Cond.selects RX0 yX0_read yX0_read, Cond.selects RX0 yX0_write yX0_write, Cond.selects RX0 yX0_where yX0_where, Cond.selects RX0 yX0_may yX0_may, Cond.selects RX0 yX0_kept yX0_kept, Cond.selects RX0 yX0_failed yX0_failed, Cond.selects RX0 yX0_inMemory yX0_inMemory, Cond.selects RX0 yX0_entryAt yX0_entryAt, Cond.selects RX0 yX0_byteAt yX0_byteAt, Cond.selects RX0 yX0_forget yX0_forget, Cond.selects RX0 yX0_counts yX0_counts, Cond.selects RX0 yX0_findPlaces yX0_findPlaces, Cond.selects RX0 yX0_translate yX0_translate, Cond.selects RX0 yX0_placeOfEntry yX0_placeOfEntry, Cond.selects RX0 yX0_inside yX0_inside, Cond.selects RX0 yX0_placeThroughS yX0_placeThroughS, Cond.selects RX0 yX0_keepEntry yX0_keepEntry, Cond.selects RX0 yX0_markWritten yX0_markWritten, Cond.selects RX0 yX0_noteFault yX0_noteFault, Cond.code yX0_init cX0_init 3 none, Cond.code objectInit ⟨#[0xb1]⟩ 1 none, Cond.code yJ_fill cJ_fill 4 none, Cond.code yX0_put cX0_put 3 (some .boolean), Cond.code yX0_inMemory cX0_inMemory 3 (some .boolean), Cond.code yX0_entry cX0_entry 4 (some .boolean), Cond.code yX0_entryOf cX0_entryOf 2 (some .long), Cond.code yX0_entryAt cX0_entryAt 2 (some .int), Cond.code yX0_byteAt cX0_byteAt 2 (some .int)]
def bX0_q3 : List Cond := [Cond.code yX0_region cX0_region 4 (some .boolean), Cond.code yX0_forget cX0_forget 3 none, Cond.code yX0_map cX0_map 2 none, Cond.code yX0_drop cX0_drop 4 (some .boolean), Cond.code yX0_slotOf cX0_slotOf 2 (some .int), Cond.code yX0_pageOf cX0_pageOf 1 (some .int), Cond.code yX0_regionOf cX0_regionOf 1 (some .int), Cond.code yX0_counts cX0_counts 3 (some .boolean), Cond.code yX0_read cX0_read 8 (some .long), Cond.code yX0_isCount cX0_isCount 1 (some .boolean), Cond.code yX0_findPlaces cX0_findPlaces 8 (some .int), Cond.code yX0_placeInPage cX0_placeInPage 1 (some .int), Cond.code yX0_translate cX0_translate 9 (some .int), Cond.code yX0_placeOfEntry cX0_placeOfEntry 8 (some .int), Cond.code yX0_inside cX0_inside 3 (some .boolean), Cond.code yX0_access cX0_access 2 (some .int), Cond.code yX0_placeThroughS cX0_placeThroughS 7 (some .int), Cond.code yX0_physical cX0_physical 2 (some .int), Cond.code yX0_isValid cX0_isValid 1 (some .boolean), Cond.code yX0_missing cX0_missing 2 (some .int), Cond.code yX0_keepEntry cX0_keepEntry 5 none, Cond.code yX0_gives cX0_gives 5 (some .boolean), Cond.code yX0_markWritten cX0_markWritten 2 none, Cond.code yX0_noteFault cX0_noteFault 3 none, Cond.code yX0_write cX0_write 7 (some .int), Cond.code yX0_where cX0_where 5 (some .int), Cond.code yX0_may cX0_may 7 (some .int), Cond.code yX0_isAccess cX0_isAccess 1 (some .boolean), Cond.code yX0_kept cX0_kept 4 (some .long), Cond.code yX0_failed cX0_failed 1 (some .int)]
def bX0 : List Cond := (bX0_q0 ++ (bX0_q1 ++ (bX0_q2 ++ (bX0_q3 ++ wsX00))))
theorem bX0_i0 : ∀ w ∈ bX0_q0, w ∈ bX0 := fun _ h => List.mem_append_left _ h
theorem bX0_i1 : ∀ w ∈ bX0_q1, w ∈ bX0 := fun _ h => List.mem_append_right _ (List.mem_append_left _ h)
theorem bX0_i2 : ∀ w ∈ bX0_q2, w ∈ bX0 := fun _ h => List.mem_append_right _ (List.mem_append_right _ (List.mem_append_left _ h))
theorem bX0_i3 : ∀ w ∈ bX0_q3, w ∈ bX0 := fun _ h => List.mem_append_right _ (List.mem_append_right _ (List.mem_append_right _ (List.mem_append_left _ h)))
theorem inbX0 : ∀ w ∈ wsX00, w ∈ bX0 := fun _ h => List.mem_append_right _ (List.mem_append_right _ (List.mem_append_right _ (List.mem_append_right _ (h))))
theorem bX0_0 : Cond.fieldLink RX0 9 "KeptPages" "memory" "[B" ∈ bX0 := bX0_i0 _ (List.mem_of_getElem? (i := 0) rfl)
theorem bX0_1 : Cond.fieldLink RX0 13 "KeptPages" "bases" "[I" ∈ bX0 := bX0_i0 _ (List.mem_of_getElem? (i := 1) rfl)
theorem bX0_2 : Cond.fieldLink RX0 17 "KeptPages" "lengths" "[I" ∈ bX0 := bX0_i0 _ (List.mem_of_getElem? (i := 2) rfl)
theorem bX0_3 : Cond.fieldLink RX0 20 "KeptPages" "mapped" "Z" ∈ bX0 := bX0_i0 _ (List.mem_of_getElem? (i := 3) rfl)
theorem bX0_4 : Cond.fieldLink RX0 24 "KeptPages" "failedAt" "I" ∈ bX0 := bX0_i0 _ (List.mem_of_getElem? (i := 4) rfl)
theorem bX0_5 : Cond.fieldLink RX0 28 "KeptPages" "keptPages" "[I" ∈ bX0 := bX0_i0 _ (List.mem_of_getElem? (i := 5) rfl)
theorem bX0_6 : Cond.fieldLink RX0 37 "KeptPages" "keptEntries" "[I" ∈ bX0 := bX0_i0 _ (List.mem_of_getElem? (i := 6) rfl)
theorem bX0_7 : Cond.fieldLink RX0 40 "KeptPages" "keptPlaces" "[I" ∈ bX0 := bX0_i0 _ (List.mem_of_getElem? (i := 7) rfl)
theorem bX0_8 : Cond.fieldLink RX0 43 "KeptPages" "places" "[I" ∈ bX0 := bX0_i0 _ (List.mem_of_getElem? (i := 8) rfl)
theorem bX0_9 : Cond.constantLong RX0 54 4294967295 ∈ bX0 := bX0_i0 _ (List.mem_of_getElem? (i := 9) rfl)
theorem bX0_10 : Cond.constantLong RX0 56 (-1) ∈ bX0 := bX0_i0 _ (List.mem_of_getElem? (i := 10) rfl)
theorem bX0_11 : Cond.constant RX0 58 65535 ∈ bX0 := bX0_i0 _ (List.mem_of_getElem? (i := 11) rfl)
theorem bX0_12 : Cond.constantLong RX0 73 (-101) ∈ bX0 := bX0_i0 _ (List.mem_of_getElem? (i := 12) rfl)
theorem bX0_13 : Cond.constant RX0 144 (-2147483648) ∈ bX0 := bX0_i0 _ (List.mem_of_getElem? (i := 13) rfl)
theorem bX0_14 : Cond.fieldLink RX0 138 "KeptPages" "MAY_WRITE" "[I" ∈ bX0 := bX0_i0 _ (List.mem_of_getElem? (i := 14) rfl)
theorem bX0_15 : Cond.fieldLink RX0 141 "KeptPages" "MAY_READ" "[I" ∈ bX0 := bX0_i0 _ (List.mem_of_getElem? (i := 15) rfl)
theorem bX0_16 : Cond.constant RX0 137 67108864 ∈ bX0 := bX0_i0 _ (List.mem_of_getElem? (i := 16) rfl)
theorem bX0_17 : Cond.initialized RX0 ∈ bX0 := bX0_i0 _ (List.mem_of_getElem? (i := 17) rfl)
theorem bX0_18 : Cond.arrayClass .byte ∈ bX0 := bX0_i0 _ (List.mem_of_getElem? (i := 18) rfl)
theorem bX0_19 : Cond.arrayClass .int ∈ bX0 := bX0_i0 _ (List.mem_of_getElem? (i := 19) rfl)
theorem bX0_20 : Cond.methodLink RX0 1 objectInit ∈ bX0 := bX0_i0 _ (List.mem_of_getElem? (i := 20) rfl)
theorem bX0_21 : Cond.methodLink RX0 31 yJ_fill ∈ bX0 := bX0_i0 _ (List.mem_of_getElem? (i := 21) rfl)
theorem bX0_22 : Cond.methodLink RX0 46 yX0_inMemory ∈ bX0 := bX0_i0 _ (List.mem_of_getElem? (i := 22) rfl)
theorem bX0_23 : Cond.methodLink RX0 50 yX0_entryAt ∈ bX0 := bX0_i0 _ (List.mem_of_getElem? (i := 23) rfl)
theorem bX0_24 : Cond.methodLink RX0 79 yX0_byteAt ∈ bX0 := bX0_i0 _ (List.mem_of_getElem? (i := 24) rfl)
theorem bX0_25 : Cond.methodLink RX0 59 yX0_forget ∈ bX0 := bX0_i0 _ (List.mem_of_getElem? (i := 25) rfl)
theorem bX0_26 : Cond.methodLink RX0 63 yX0_slotOf ∈ bX0 := bX0_i0 _ (List.mem_of_getElem? (i := 26) rfl)
theorem bX0_27 : Cond.methodLink RX0 128 yX0_pageOf ∈ bX0 := bX0_i0 _ (List.mem_of_getElem? (i := 27) rfl)
theorem bX0_28 : Cond.methodLink RX0 125 yX0_regionOf ∈ bX0 := bX0_i0 _ (List.mem_of_getElem? (i := 28) rfl)
theorem bX0_29 : Cond.methodLink RX0 66 yX0_counts ∈ bX0 := bX0_i0 _ (List.mem_of_getElem? (i := 29) rfl)
theorem bX0_30 : Cond.methodLink RX0 69 yX0_isCount ∈ bX0 := bX0_i0 _ (List.mem_of_getElem? (i := 30) rfl)
theorem bX0_31 : Cond.methodLink RX0 75 yX0_findPlaces ∈ bX0 := bX0_i0 _ (List.mem_of_getElem? (i := 31) rfl)
theorem bX0_32 : Cond.methodLink RX0 97 yX0_placeInPage ∈ bX0 := bX0_i0 _ (List.mem_of_getElem? (i := 32) rfl)
theorem bX0_33 : Cond.methodLink RX0 82 yX0_translate ∈ bX0 := bX0_i0 _ (List.mem_of_getElem? (i := 33) rfl)
theorem bX0_34 : Cond.methodLink RX0 90 yX0_placeOfEntry ∈ bX0 := bX0_i0 _ (List.mem_of_getElem? (i := 34) rfl)
theorem bX0_35 : Cond.methodLink RX0 131 yX0_inside ∈ bX0 := bX0_i0 _ (List.mem_of_getElem? (i := 35) rfl)
theorem bX0_36 : Cond.methodLink RX0 104 yX0_access ∈ bX0 := bX0_i0 _ (List.mem_of_getElem? (i := 36) rfl)
theorem bX0_37 : Cond.methodLink RX0 134 yX0_placeThroughS ∈ bX0 := bX0_i0 _ (List.mem_of_getElem? (i := 37) rfl)
theorem bX0_38 : Cond.methodLink RX0 121 yX0_physical ∈ bX0 := bX0_i0 _ (List.mem_of_getElem? (i := 38) rfl)
theorem bX0_39 : Cond.methodLink RX0 108 yX0_isValid ∈ bX0 := bX0_i0 _ (List.mem_of_getElem? (i := 39) rfl)
theorem bX0_40 : Cond.methodLink RX0 111 yX0_missing ∈ bX0 := bX0_i1 _ (List.mem_of_getElem? (i := 0) rfl)
theorem bX0_41 : Cond.methodLink RX0 114 yX0_keepEntry ∈ bX0 := bX0_i1 _ (List.mem_of_getElem? (i := 1) rfl)
theorem bX0_42 : Cond.methodLink RX0 86 yX0_gives ∈ bX0 := bX0_i1 _ (List.mem_of_getElem? (i := 2) rfl)
theorem bX0_43 : Cond.methodLink RX0 118 yX0_markWritten ∈ bX0 := bX0_i1 _ (List.mem_of_getElem? (i := 3) rfl)
theorem bX0_44 : Cond.methodLink RX0 100 yX0_noteFault ∈ bX0 := bX0_i1 _ (List.mem_of_getElem? (i := 4) rfl)
theorem bX0_45 : Cond.methodLink RX0 94 yX0_isAccess ∈ bX0 := bX0_i1 _ (List.mem_of_getElem? (i := 5) rfl)
theorem bX0_46 : Cond.initialized RJ ∈ bX0 := bX0_i1 _ (List.mem_of_getElem? (i := 6) rfl)
theorem bX0_47 : Cond.instanceMethod yX0_init ∈ bX0 := bX0_i1 _ (List.mem_of_getElem? (i := 7) rfl)
theorem bX0_48 : Cond.instanceMethod objectInit ∈ bX0 := bX0_i1 _ (List.mem_of_getElem? (i := 8) rfl)
theorem bX0_49 : Cond.static yJ_fill ∈ bX0 := bX0_i1 _ (List.mem_of_getElem? (i := 9) rfl)
theorem bX0_50 : Cond.instanceMethod yX0_put ∈ bX0 := bX0_i1 _ (List.mem_of_getElem? (i := 10) rfl)
theorem bX0_51 : Cond.instanceMethod yX0_inMemory ∈ bX0 := bX0_i1 _ (List.mem_of_getElem? (i := 11) rfl)
theorem bX0_52 : Cond.instanceMethod yX0_entry ∈ bX0 := bX0_i1 _ (List.mem_of_getElem? (i := 12) rfl)
theorem bX0_53 : Cond.instanceMethod yX0_entryOf ∈ bX0 := bX0_i1 _ (List.mem_of_getElem? (i := 13) rfl)
theorem bX0_54 : Cond.instanceMethod yX0_entryAt ∈ bX0 := bX0_i1 _ (List.mem_of_getElem? (i := 14) rfl)
theorem bX0_55 : Cond.instanceMethod yX0_byteAt ∈ bX0 := bX0_i1 _ (List.mem_of_getElem? (i := 15) rfl)
theorem bX0_56 : Cond.instanceMethod yX0_region ∈ bX0 := bX0_i1 _ (List.mem_of_getElem? (i := 16) rfl)
theorem bX0_57 : Cond.instanceMethod yX0_forget ∈ bX0 := bX0_i1 _ (List.mem_of_getElem? (i := 17) rfl)
theorem bX0_58 : Cond.instanceMethod yX0_map ∈ bX0 := bX0_i1 _ (List.mem_of_getElem? (i := 18) rfl)
theorem bX0_59 : Cond.instanceMethod yX0_drop ∈ bX0 := bX0_i1 _ (List.mem_of_getElem? (i := 19) rfl)
theorem bX0_60 : Cond.static yX0_slotOf ∈ bX0 := bX0_i1 _ (List.mem_of_getElem? (i := 20) rfl)
theorem bX0_61 : Cond.static yX0_pageOf ∈ bX0 := bX0_i1 _ (List.mem_of_getElem? (i := 21) rfl)
theorem bX0_62 : Cond.static yX0_regionOf ∈ bX0 := bX0_i1 _ (List.mem_of_getElem? (i := 22) rfl)
theorem bX0_63 : Cond.instanceMethod yX0_counts ∈ bX0 := bX0_i1 _ (List.mem_of_getElem? (i := 23) rfl)
theorem bX0_64 : Cond.instanceMethod yX0_read ∈ bX0 := bX0_i1 _ (List.mem_of_getElem? (i := 24) rfl)
theorem bX0_65 : Cond.static yX0_isCount ∈ bX0 := bX0_i1 _ (List.mem_of_getElem? (i := 25) rfl)
theorem bX0_66 : Cond.instanceMethod yX0_findPlaces ∈ bX0 := bX0_i1 _ (List.mem_of_getElem? (i := 26) rfl)
theorem bX0_67 : Cond.static yX0_placeInPage ∈ bX0 := bX0_i1 _ (List.mem_of_getElem? (i := 27) rfl)
theorem bX0_68 : Cond.instanceMethod yX0_translate ∈ bX0 := bX0_i1 _ (List.mem_of_getElem? (i := 28) rfl)
theorem bX0_69 : Cond.instanceMethod yX0_placeOfEntry ∈ bX0 := bX0_i1 _ (List.mem_of_getElem? (i := 29) rfl)
theorem bX0_70 : Cond.instanceMethod yX0_inside ∈ bX0 := bX0_i1 _ (List.mem_of_getElem? (i := 30) rfl)
theorem bX0_71 : Cond.static yX0_access ∈ bX0 := bX0_i1 _ (List.mem_of_getElem? (i := 31) rfl)
theorem bX0_72 : Cond.instanceMethod yX0_placeThroughS ∈ bX0 := bX0_i1 _ (List.mem_of_getElem? (i := 32) rfl)
theorem bX0_73 : Cond.static yX0_physical ∈ bX0 := bX0_i1 _ (List.mem_of_getElem? (i := 33) rfl)
theorem bX0_74 : Cond.static yX0_isValid ∈ bX0 := bX0_i1 _ (List.mem_of_getElem? (i := 34) rfl)
theorem bX0_75 : Cond.static yX0_missing ∈ bX0 := bX0_i1 _ (List.mem_of_getElem? (i := 35) rfl)
theorem bX0_76 : Cond.instanceMethod yX0_keepEntry ∈ bX0 := bX0_i1 _ (List.mem_of_getElem? (i := 36) rfl)
theorem bX0_77 : Cond.static yX0_gives ∈ bX0 := bX0_i1 _ (List.mem_of_getElem? (i := 37) rfl)
theorem bX0_78 : Cond.instanceMethod yX0_markWritten ∈ bX0 := bX0_i1 _ (List.mem_of_getElem? (i := 38) rfl)
theorem bX0_79 : Cond.instanceMethod yX0_noteFault ∈ bX0 := bX0_i1 _ (List.mem_of_getElem? (i := 39) rfl)
theorem bX0_80 : Cond.instanceMethod yX0_write ∈ bX0 := bX0_i2 _ (List.mem_of_getElem? (i := 0) rfl)
theorem bX0_81 : Cond.instanceMethod yX0_where ∈ bX0 := bX0_i2 _ (List.mem_of_getElem? (i := 1) rfl)
theorem bX0_82 : Cond.instanceMethod yX0_may ∈ bX0 := bX0_i2 _ (List.mem_of_getElem? (i := 2) rfl)
theorem bX0_83 : Cond.static yX0_isAccess ∈ bX0 := bX0_i2 _ (List.mem_of_getElem? (i := 3) rfl)
theorem bX0_84 : Cond.instanceMethod yX0_kept ∈ bX0 := bX0_i2 _ (List.mem_of_getElem? (i := 4) rfl)
theorem bX0_85 : Cond.instanceMethod yX0_failed ∈ bX0 := bX0_i2 _ (List.mem_of_getElem? (i := 5) rfl)
theorem bX0_86 : Cond.selects RX0 yX0_put yX0_put ∈ bX0 := bX0_i2 _ (List.mem_of_getElem? (i := 6) rfl)
theorem bX0_87 : Cond.selects RX0 yX0_entry yX0_entry ∈ bX0 := bX0_i2 _ (List.mem_of_getElem? (i := 7) rfl)
theorem bX0_88 : Cond.selects RX0 yX0_entryOf yX0_entryOf ∈ bX0 := bX0_i2 _ (List.mem_of_getElem? (i := 8) rfl)
theorem bX0_89 : Cond.selects RX0 yX0_region yX0_region ∈ bX0 := bX0_i2 _ (List.mem_of_getElem? (i := 9) rfl)
theorem bX0_90 : Cond.selects RX0 yX0_map yX0_map ∈ bX0 := bX0_i2 _ (List.mem_of_getElem? (i := 10) rfl)
theorem bX0_91 : Cond.selects RX0 yX0_drop yX0_drop ∈ bX0 := bX0_i2 _ (List.mem_of_getElem? (i := 11) rfl)
theorem bX0_92 : Cond.selects RX0 yX0_read yX0_read ∈ bX0 := bX0_i2 _ (List.mem_of_getElem? (i := 12) rfl)
theorem bX0_93 : Cond.selects RX0 yX0_write yX0_write ∈ bX0 := bX0_i2 _ (List.mem_of_getElem? (i := 13) rfl)
theorem bX0_94 : Cond.selects RX0 yX0_where yX0_where ∈ bX0 := bX0_i2 _ (List.mem_of_getElem? (i := 14) rfl)
theorem bX0_95 : Cond.selects RX0 yX0_may yX0_may ∈ bX0 := bX0_i2 _ (List.mem_of_getElem? (i := 15) rfl)
theorem bX0_96 : Cond.selects RX0 yX0_kept yX0_kept ∈ bX0 := bX0_i2 _ (List.mem_of_getElem? (i := 16) rfl)
theorem bX0_97 : Cond.selects RX0 yX0_failed yX0_failed ∈ bX0 := bX0_i2 _ (List.mem_of_getElem? (i := 17) rfl)
theorem bX0_98 : Cond.selects RX0 yX0_inMemory yX0_inMemory ∈ bX0 := bX0_i2 _ (List.mem_of_getElem? (i := 18) rfl)
theorem bX0_99 : Cond.selects RX0 yX0_entryAt yX0_entryAt ∈ bX0 := bX0_i2 _ (List.mem_of_getElem? (i := 19) rfl)
theorem bX0_100 : Cond.selects RX0 yX0_byteAt yX0_byteAt ∈ bX0 := bX0_i2 _ (List.mem_of_getElem? (i := 20) rfl)
theorem bX0_101 : Cond.selects RX0 yX0_forget yX0_forget ∈ bX0 := bX0_i2 _ (List.mem_of_getElem? (i := 21) rfl)
theorem bX0_102 : Cond.selects RX0 yX0_counts yX0_counts ∈ bX0 := bX0_i2 _ (List.mem_of_getElem? (i := 22) rfl)
theorem bX0_103 : Cond.selects RX0 yX0_findPlaces yX0_findPlaces ∈ bX0 := bX0_i2 _ (List.mem_of_getElem? (i := 23) rfl)
theorem bX0_104 : Cond.selects RX0 yX0_translate yX0_translate ∈ bX0 := bX0_i2 _ (List.mem_of_getElem? (i := 24) rfl)
theorem bX0_105 : Cond.selects RX0 yX0_placeOfEntry yX0_placeOfEntry ∈ bX0 := bX0_i2 _ (List.mem_of_getElem? (i := 25) rfl)
theorem bX0_106 : Cond.selects RX0 yX0_inside yX0_inside ∈ bX0 := bX0_i2 _ (List.mem_of_getElem? (i := 26) rfl)
theorem bX0_107 : Cond.selects RX0 yX0_placeThroughS yX0_placeThroughS ∈ bX0 := bX0_i2 _ (List.mem_of_getElem? (i := 27) rfl)
theorem bX0_108 : Cond.selects RX0 yX0_keepEntry yX0_keepEntry ∈ bX0 := bX0_i2 _ (List.mem_of_getElem? (i := 28) rfl)
theorem bX0_109 : Cond.selects RX0 yX0_markWritten yX0_markWritten ∈ bX0 := bX0_i2 _ (List.mem_of_getElem? (i := 29) rfl)
theorem bX0_110 : Cond.selects RX0 yX0_noteFault yX0_noteFault ∈ bX0 := bX0_i2 _ (List.mem_of_getElem? (i := 30) rfl)
theorem bX0_111 : Cond.code yX0_init cX0_init 3 none ∈ bX0 := bX0_i2 _ (List.mem_of_getElem? (i := 31) rfl)
theorem bX0_112 : Cond.code objectInit ⟨#[0xb1]⟩ 1 none ∈ bX0 := bX0_i2 _ (List.mem_of_getElem? (i := 32) rfl)
theorem bX0_113 : Cond.code yJ_fill cJ_fill 4 none ∈ bX0 := bX0_i2 _ (List.mem_of_getElem? (i := 33) rfl)
theorem bX0_114 : Cond.code yX0_put cX0_put 3 (some .boolean) ∈ bX0 := bX0_i2 _ (List.mem_of_getElem? (i := 34) rfl)
theorem bX0_115 : Cond.code yX0_inMemory cX0_inMemory 3 (some .boolean) ∈ bX0 := bX0_i2 _ (List.mem_of_getElem? (i := 35) rfl)
theorem bX0_116 : Cond.code yX0_entry cX0_entry 4 (some .boolean) ∈ bX0 := bX0_i2 _ (List.mem_of_getElem? (i := 36) rfl)
theorem bX0_117 : Cond.code yX0_entryOf cX0_entryOf 2 (some .long) ∈ bX0 := bX0_i2 _ (List.mem_of_getElem? (i := 37) rfl)
theorem bX0_118 : Cond.code yX0_entryAt cX0_entryAt 2 (some .int) ∈ bX0 := bX0_i2 _ (List.mem_of_getElem? (i := 38) rfl)
theorem bX0_119 : Cond.code yX0_byteAt cX0_byteAt 2 (some .int) ∈ bX0 := bX0_i2 _ (List.mem_of_getElem? (i := 39) rfl)
theorem bX0_120 : Cond.code yX0_region cX0_region 4 (some .boolean) ∈ bX0 := bX0_i3 _ (List.mem_of_getElem? (i := 0) rfl)
theorem bX0_121 : Cond.code yX0_forget cX0_forget 3 none ∈ bX0 := bX0_i3 _ (List.mem_of_getElem? (i := 1) rfl)
theorem bX0_122 : Cond.code yX0_map cX0_map 2 none ∈ bX0 := bX0_i3 _ (List.mem_of_getElem? (i := 2) rfl)
theorem bX0_123 : Cond.code yX0_drop cX0_drop 4 (some .boolean) ∈ bX0 := bX0_i3 _ (List.mem_of_getElem? (i := 3) rfl)
theorem bX0_124 : Cond.code yX0_slotOf cX0_slotOf 2 (some .int) ∈ bX0 := bX0_i3 _ (List.mem_of_getElem? (i := 4) rfl)
theorem bX0_125 : Cond.code yX0_pageOf cX0_pageOf 1 (some .int) ∈ bX0 := bX0_i3 _ (List.mem_of_getElem? (i := 5) rfl)
theorem bX0_126 : Cond.code yX0_regionOf cX0_regionOf 1 (some .int) ∈ bX0 := bX0_i3 _ (List.mem_of_getElem? (i := 6) rfl)
theorem bX0_127 : Cond.code yX0_counts cX0_counts 3 (some .boolean) ∈ bX0 := bX0_i3 _ (List.mem_of_getElem? (i := 7) rfl)
theorem bX0_128 : Cond.code yX0_read cX0_read 8 (some .long) ∈ bX0 := bX0_i3 _ (List.mem_of_getElem? (i := 8) rfl)
theorem bX0_129 : Cond.code yX0_isCount cX0_isCount 1 (some .boolean) ∈ bX0 := bX0_i3 _ (List.mem_of_getElem? (i := 9) rfl)
theorem bX0_130 : Cond.code yX0_findPlaces cX0_findPlaces 8 (some .int) ∈ bX0 := bX0_i3 _ (List.mem_of_getElem? (i := 10) rfl)
theorem bX0_131 : Cond.code yX0_placeInPage cX0_placeInPage 1 (some .int) ∈ bX0 := bX0_i3 _ (List.mem_of_getElem? (i := 11) rfl)
theorem bX0_132 : Cond.code yX0_translate cX0_translate 9 (some .int) ∈ bX0 := bX0_i3 _ (List.mem_of_getElem? (i := 12) rfl)
theorem bX0_133 : Cond.code yX0_placeOfEntry cX0_placeOfEntry 8 (some .int) ∈ bX0 := bX0_i3 _ (List.mem_of_getElem? (i := 13) rfl)
theorem bX0_134 : Cond.code yX0_inside cX0_inside 3 (some .boolean) ∈ bX0 := bX0_i3 _ (List.mem_of_getElem? (i := 14) rfl)
theorem bX0_135 : Cond.code yX0_access cX0_access 2 (some .int) ∈ bX0 := bX0_i3 _ (List.mem_of_getElem? (i := 15) rfl)
theorem bX0_136 : Cond.code yX0_placeThroughS cX0_placeThroughS 7 (some .int) ∈ bX0 := bX0_i3 _ (List.mem_of_getElem? (i := 16) rfl)
theorem bX0_137 : Cond.code yX0_physical cX0_physical 2 (some .int) ∈ bX0 := bX0_i3 _ (List.mem_of_getElem? (i := 17) rfl)
theorem bX0_138 : Cond.code yX0_isValid cX0_isValid 1 (some .boolean) ∈ bX0 := bX0_i3 _ (List.mem_of_getElem? (i := 18) rfl)
theorem bX0_139 : Cond.code yX0_missing cX0_missing 2 (some .int) ∈ bX0 := bX0_i3 _ (List.mem_of_getElem? (i := 19) rfl)
theorem bX0_140 : Cond.code yX0_keepEntry cX0_keepEntry 5 none ∈ bX0 := bX0_i3 _ (List.mem_of_getElem? (i := 20) rfl)
theorem bX0_141 : Cond.code yX0_gives cX0_gives 5 (some .boolean) ∈ bX0 := bX0_i3 _ (List.mem_of_getElem? (i := 21) rfl)
theorem bX0_142 : Cond.code yX0_markWritten cX0_markWritten 2 none ∈ bX0 := bX0_i3 _ (List.mem_of_getElem? (i := 22) rfl)
theorem bX0_143 : Cond.code yX0_noteFault cX0_noteFault 3 none ∈ bX0 := bX0_i3 _ (List.mem_of_getElem? (i := 23) rfl)
theorem bX0_144 : Cond.code yX0_write cX0_write 7 (some .int) ∈ bX0 := bX0_i3 _ (List.mem_of_getElem? (i := 24) rfl)
theorem bX0_145 : Cond.code yX0_where cX0_where 5 (some .int) ∈ bX0 := bX0_i3 _ (List.mem_of_getElem? (i := 25) rfl)
theorem bX0_146 : Cond.code yX0_may cX0_may 7 (some .int) ∈ bX0 := bX0_i3 _ (List.mem_of_getElem? (i := 26) rfl)
theorem bX0_147 : Cond.code yX0_isAccess cX0_isAccess 1 (some .boolean) ∈ bX0 := bX0_i3 _ (List.mem_of_getElem? (i := 27) rfl)
theorem bX0_148 : Cond.code yX0_kept cX0_kept 4 (some .long) ∈ bX0 := bX0_i3 _ (List.mem_of_getElem? (i := 28) rfl)
theorem bX0_149 : Cond.code yX0_failed cX0_failed 1 (some .int) ∈ bX0 := bX0_i3 _ (List.mem_of_getElem? (i := 29) rfl)
theorem bX0_g0 : bX0_q0.all goodWord = true := by decide +kernel
theorem bX0_g1 : bX0_q1.all goodWord = true := by decide +kernel
theorem bX0_g2 : bX0_q2.all goodWord = true := by decide +kernel
theorem bX0_g3 : bX0_q3.all goodWord = true := by decide +kernel
theorem bX0_gw : wsX00.all goodWord = true := by decide +kernel
theorem bX0_good : ∀ w ∈ bX0, goodWord w = true := fun w h => (List.mem_append.mp h).elim (List.all_eq_true.mp bX0_g0 w) (fun h => (List.mem_append.mp h).elim (List.all_eq_true.mp bX0_g1 w) (fun h => (List.mem_append.mp h).elim (List.all_eq_true.mp bX0_g2 w) (fun h => (List.mem_append.mp h).elim (List.all_eq_true.mp bX0_g3 w) (fun h => List.all_eq_true.mp bX0_gw w h))))
set_option maxRecDepth 20000 in
theorem bX0_t0 : GoodIn lw_tbl bX0_q0 := goodIn_p bX0_q0 [] rfl (by decide +kernel)
set_option maxRecDepth 20000 in
theorem bX0_t1 : GoodIn lw_tbl bX0_q1 := goodIn_p bX0_q1 [] rfl (by decide +kernel)
set_option maxRecDepth 20000 in
theorem bX0_t2 : GoodIn lw_tbl bX0_q2 := goodIn_p bX0_q2 [34, 37, 40, 74, 78, 82, 86, 90, 94] rfl (by decide +kernel)
set_option maxRecDepth 20000 in
theorem bX0_t3 : GoodIn lw_tbl bX0_q3 := goodIn_p bX0_q3 [100, 105, 109, 113, 116, 119, 122, 126, 130, 133, 138, 141, 145, 149, 153, 156, 160, 163, 166, 170, 174, 177, 185, 190, 194, 198, 202, 205, 209, 213] rfl (by decide +kernel)
set_option maxRecDepth 20000 in
theorem bX0_tw : GoodIn lw_tbl wsX00 := goodIn_of _ (by decide +kernel)
theorem bX0_in : ∀ w ∈ bX0, w ∈ lw_tbl := fun w h => (List.mem_append.mp h).elim (fun h => (bX0_t0 w h).1) (fun h => (List.mem_append.mp h).elim (fun h => (bX0_t1 w h).1) (fun h => (List.mem_append.mp h).elim (fun h => (bX0_t2 w h).1) (fun h => (List.mem_append.mp h).elim (fun h => (bX0_t3 w h).1) (fun h => (bX0_tw w h).1))))
def wsX0_init : List Cond := .code yX0_init cX0_init 3 none :: bX0
def wsX0_put : List Cond := .code yX0_put cX0_put 3 (some .boolean) :: bX0
def wsX0_inMemory : List Cond := .code yX0_inMemory cX0_inMemory 3 (some .boolean) :: bX0
def wsX0_entry : List Cond := .code yX0_entry cX0_entry 4 (some .boolean) :: bX0
def wsX0_entryOf : List Cond := .code yX0_entryOf cX0_entryOf 2 (some .long) :: bX0
def wsX0_entryAt : List Cond := .code yX0_entryAt cX0_entryAt 2 (some .int) :: bX0
def wsX0_byteAt : List Cond := .code yX0_byteAt cX0_byteAt 2 (some .int) :: bX0
def wsX0_region : List Cond := .code yX0_region cX0_region 4 (some .boolean) :: bX0
def wsX0_forget : List Cond := .code yX0_forget cX0_forget 3 none :: bX0
def wsX0_map : List Cond := .code yX0_map cX0_map 2 none :: bX0
def wsX0_drop : List Cond := .code yX0_drop cX0_drop 4 (some .boolean) :: bX0
def wsX0_slotOf : List Cond := .code yX0_slotOf cX0_slotOf 2 (some .int) :: bX0
def wsX0_pageOf : List Cond := .code yX0_pageOf cX0_pageOf 1 (some .int) :: bX0
def wsX0_regionOf : List Cond := .code yX0_regionOf cX0_regionOf 1 (some .int) :: bX0
def wsX0_counts : List Cond := .code yX0_counts cX0_counts 3 (some .boolean) :: bX0
def wsX0_read : List Cond := .code yX0_read cX0_read 8 (some .long) :: bX0
def wsX0_isCount : List Cond := .code yX0_isCount cX0_isCount 1 (some .boolean) :: bX0
def wsX0_findPlaces : List Cond := .code yX0_findPlaces cX0_findPlaces 8 (some .int) :: bX0
def wsX0_placeInPage : List Cond := .code yX0_placeInPage cX0_placeInPage 1 (some .int) :: bX0
def wsX0_translate : List Cond := .code yX0_translate cX0_translate 9 (some .int) :: bX0
def wsX0_placeOfEntry : List Cond := .code yX0_placeOfEntry cX0_placeOfEntry 8 (some .int) :: bX0
def wsX0_inside : List Cond := .code yX0_inside cX0_inside 3 (some .boolean) :: bX0
def wsX0_access : List Cond := .code yX0_access cX0_access 2 (some .int) :: bX0
def wsX0_placeThroughS : List Cond := .code yX0_placeThroughS cX0_placeThroughS 7 (some .int) :: bX0
def wsX0_physical : List Cond := .code yX0_physical cX0_physical 2 (some .int) :: bX0
def wsX0_isValid : List Cond := .code yX0_isValid cX0_isValid 1 (some .boolean) :: bX0
def wsX0_missing : List Cond := .code yX0_missing cX0_missing 2 (some .int) :: bX0
def wsX0_keepEntry : List Cond := .code yX0_keepEntry cX0_keepEntry 5 none :: bX0
def wsX0_gives : List Cond := .code yX0_gives cX0_gives 5 (some .boolean) :: bX0
def wsX0_markWritten : List Cond := .code yX0_markWritten cX0_markWritten 2 none :: bX0
def wsX0_noteFault : List Cond := .code yX0_noteFault cX0_noteFault 3 none :: bX0
def wsX0_write : List Cond := .code yX0_write cX0_write 7 (some .int) :: bX0
def wsX0_where : List Cond := .code yX0_where cX0_where 5 (some .int) :: bX0
def wsX0_may : List Cond := .code yX0_may cX0_may 7 (some .int) :: bX0
def wsX0_isAccess : List Cond := .code yX0_isAccess cX0_isAccess 1 (some .boolean) :: bX0
def wsX0_kept : List Cond := .code yX0_kept cX0_kept 4 (some .long) :: bX0
def wsX0_failed : List Cond := .code yX0_failed cX0_failed 1 (some .int) :: bX0
def bX1_q0 : List Cond := [Cond.fieldLink RX1 7 "KeptPagesModel" "memory" "[I", Cond.fieldLink RX1 41 "KeptPagesModel" "bytes" "I", Cond.fieldLink RX1 13 "KeptPagesModel" "base" "[I", Cond.fieldLink RX1 16 "KeptPagesModel" "length" "[I", Cond.fieldLink RX1 71 "KeptPagesModel" "isOn" "Z", Cond.fieldLink RX1 19 "KeptPagesModel" "page" "[I", Cond.fieldLink RX1 22 "KeptPagesModel" "entry" "[I", Cond.fieldLink RX1 25 "KeptPagesModel" "place" "[I", Cond.fieldLink RX1 28 "KeptPagesModel" "writes" "[I", Cond.fieldLink RX1 31 "KeptPagesModel" "reads" "[I", Cond.fieldLink RX1 34 "KeptPagesModel" "lies" "[I", Cond.fieldLink RX1 37 "KeptPagesModel" "fails" "I", Cond.fieldLink RX1 88 "KeptPagesModel" "looked" "I", Cond.fieldLink RX1 91 "KeptPagesModel" "at" "I", Cond.constantLong RX1 63 4294967295, Cond.constantLong RX1 65 (-1), Cond.constant RX1 67 65535, Cond.constant RX1 84 65520, Cond.constantLong RX1 116 (-101), Cond.constant RX1 108 67108864, Cond.constantLong RX1 122 256, Cond.initialized RX1, Cond.arrayClass .byte, Cond.arrayClass .int, Cond.methodLink RX1 1 objectInit, Cond.methodLink RX1 44 yX1_code, Cond.methodLink RX1 48 yX1_isThere, Cond.methodLink RX1 52 yX1_areFour, Cond.methodLink RX1 55 yX1_putFour, Cond.methodLink RX1 59 yX1_four, Cond.methodLink RX1 68 yX1_forget, Cond.methodLink RX1 85 yX1_isKept, Cond.methodLink RX1 81 yX1_slot, Cond.methodLink RX1 75 yX1_regionOf, Cond.methodLink RX1 78 yX1_pageOf, Cond.methodLink RX1 113 yX1_isSize, Cond.methodLink RX1 118 yX1_reach, Cond.methodLink RX1 109 yX1_translate, Cond.methodLink RX1 100 yX1_look, Cond.methodLink RX1 94 yX1_isInside]
def bX1_q1 : List Cond := [Cond.methodLink RX1 97 yX1_keeps, Cond.methodLink RX1 104 yX1_isRight, Cond.instanceMethod objectInit, Cond.instanceMethod yX1_init, Cond.instanceMethod yX1_code, Cond.instanceMethod yX1_put, Cond.instanceMethod yX1_isThere, Cond.instanceMethod yX1_entry, Cond.instanceMethod yX1_areFour, Cond.instanceMethod yX1_putFour, Cond.instanceMethod yX1_entryOf, Cond.instanceMethod yX1_four, Cond.instanceMethod yX1_region, Cond.instanceMethod yX1_forget, Cond.instanceMethod yX1_map, Cond.instanceMethod yX1_drop, Cond.instanceMethod yX1_isKept, Cond.static yX1_slot, Cond.static yX1_regionOf, Cond.static yX1_pageOf, Cond.instanceMethod yX1_read, Cond.static yX1_isSize, Cond.instanceMethod yX1_reach, Cond.instanceMethod yX1_translate, Cond.instanceMethod yX1_look, Cond.instanceMethod yX1_isInside, Cond.instanceMethod yX1_keeps, Cond.instanceMethod yX1_isRight, Cond.instanceMethod yX1_write, Cond.instanceMethod yX1_where, Cond.instanceMethod yX1_may, Cond.instanceMethod yX1_kept, Cond.instanceMethod yX1_failed, Cond.selects RX1 yX1_put yX1_put, Cond.selects RX1 yX1_entry yX1_entry, Cond.selects RX1 yX1_entryOf yX1_entryOf, Cond.selects RX1 yX1_region yX1_region, Cond.selects RX1 yX1_map yX1_map, Cond.selects RX1 yX1_drop yX1_drop, Cond.selects RX1 yX1_read yX1_read]
def bX1_q2 : List Cond := [Cond.selects RX1 yX1_write yX1_write, Cond.selects RX1 yX1_where yX1_where, Cond.selects RX1 yX1_may yX1_may, Cond.selects RX1 yX1_kept yX1_kept, Cond.selects RX1 yX1_failed yX1_failed, Cond.selects RX1 yX1_code yX1_code, Cond.selects RX1 yX1_isThere yX1_isThere, Cond.selects RX1 yX1_areFour yX1_areFour, Cond.selects RX1 yX1_putFour yX1_putFour, Cond.selects RX1 yX1_four yX1_four, Cond.selects RX1 yX1_forget yX1_forget, Cond.selects RX1 yX1_isKept yX1_isKept, Cond.selects RX1 yX1_reach yX1_reach, Cond.selects RX1 yX1_translate yX1_translate, Cond.selects RX1 yX1_look yX1_look, Cond.selects RX1 yX1_isInside yX1_isInside, Cond.selects RX1 yX1_keeps yX1_keeps, Cond.selects RX1 yX1_isRight yX1_isRight, Cond.code objectInit ⟨#[0xb1]⟩ 1 none, Cond.code yX1_init cX1_init 3 none, Cond.code yX1_code cX1_code 4 none, Cond.code yX1_put cX1_put 3 (some .boolean), Cond.code yX1_isThere cX1_isThere 2 (some .boolean), Cond.code yX1_entry cX1_entry 3 (some .boolean), Cond.code yX1_areFour cX1_areFour 2 (some .boolean), Cond.code yX1_putFour cX1_putFour 4 none, Cond.code yX1_entryOf cX1_entryOf 2 (some .long), Cond.code yX1_four cX1_four 2 (some .int), Cond.code yX1_region cX1_region 4 (some .boolean), Cond.code yX1_forget cX1_forget 4 none, Cond.code yX1_map cX1_map 2 none, Cond.code yX1_drop cX1_drop 3 (some .boolean), Cond.code yX1_isKept cX1_isKept 2 (some .boolean), Cond.code yX1_slot cX1_slot 1 (some .int), Cond.code yX1_regionOf cX1_regionOf 1 (some .int), Cond.code yX1_pageOf cX1_pageOf 1 (some .int), Cond.code yX1_read cX1_read 8 (some .long), Cond.code yX1_isSize cX1_isSize 1 (some .boolean), Cond.code yX1_reach cX1_reach 8 (some .int), Cond.code yX1_translate cX1_translate 7 (some .int)]
def bX1_q3 : List Cond := [Cond.code yX1_look cX1_look 7 (some .int), Cond.code yX1_isInside cX1_isInside 3 (some .boolean), Cond.code yX1_keeps cX1_keeps 4 none, Cond.code yX1_isRight cX1_isRight 4 (some .boolean), Cond.code yX1_write cX1_write 7 (some .int), Cond.code yX1_where cX1_where 5 (some .int), Cond.code yX1_may cX1_may 5 (some .int), Cond.code yX1_kept cX1_kept 4 (some .long), Cond.code yX1_failed cX1_failed 1 (some .int)]
def bX1 : List Cond := (bX1_q0 ++ (bX1_q1 ++ (bX1_q2 ++ (bX1_q3 ++ wsX10))))
theorem bX1_i0 : ∀ w ∈ bX1_q0, w ∈ bX1 := fun _ h => List.mem_append_left _ h
theorem bX1_i1 : ∀ w ∈ bX1_q1, w ∈ bX1 := fun _ h => List.mem_append_right _ (List.mem_append_left _ h)
theorem bX1_i2 : ∀ w ∈ bX1_q2, w ∈ bX1 := fun _ h => List.mem_append_right _ (List.mem_append_right _ (List.mem_append_left _ h))
theorem bX1_i3 : ∀ w ∈ bX1_q3, w ∈ bX1 := fun _ h => List.mem_append_right _ (List.mem_append_right _ (List.mem_append_right _ (List.mem_append_left _ h)))
theorem inbX1 : ∀ w ∈ wsX10, w ∈ bX1 := fun _ h => List.mem_append_right _ (List.mem_append_right _ (List.mem_append_right _ (List.mem_append_right _ (h))))
theorem bX1_0 : Cond.fieldLink RX1 7 "KeptPagesModel" "memory" "[I" ∈ bX1 := bX1_i0 _ (List.mem_of_getElem? (i := 0) rfl)
theorem bX1_1 : Cond.fieldLink RX1 41 "KeptPagesModel" "bytes" "I" ∈ bX1 := bX1_i0 _ (List.mem_of_getElem? (i := 1) rfl)
theorem bX1_2 : Cond.fieldLink RX1 13 "KeptPagesModel" "base" "[I" ∈ bX1 := bX1_i0 _ (List.mem_of_getElem? (i := 2) rfl)
theorem bX1_3 : Cond.fieldLink RX1 16 "KeptPagesModel" "length" "[I" ∈ bX1 := bX1_i0 _ (List.mem_of_getElem? (i := 3) rfl)
theorem bX1_4 : Cond.fieldLink RX1 71 "KeptPagesModel" "isOn" "Z" ∈ bX1 := bX1_i0 _ (List.mem_of_getElem? (i := 4) rfl)
theorem bX1_5 : Cond.fieldLink RX1 19 "KeptPagesModel" "page" "[I" ∈ bX1 := bX1_i0 _ (List.mem_of_getElem? (i := 5) rfl)
theorem bX1_6 : Cond.fieldLink RX1 22 "KeptPagesModel" "entry" "[I" ∈ bX1 := bX1_i0 _ (List.mem_of_getElem? (i := 6) rfl)
theorem bX1_7 : Cond.fieldLink RX1 25 "KeptPagesModel" "place" "[I" ∈ bX1 := bX1_i0 _ (List.mem_of_getElem? (i := 7) rfl)
theorem bX1_8 : Cond.fieldLink RX1 28 "KeptPagesModel" "writes" "[I" ∈ bX1 := bX1_i0 _ (List.mem_of_getElem? (i := 8) rfl)
theorem bX1_9 : Cond.fieldLink RX1 31 "KeptPagesModel" "reads" "[I" ∈ bX1 := bX1_i0 _ (List.mem_of_getElem? (i := 9) rfl)
theorem bX1_10 : Cond.fieldLink RX1 34 "KeptPagesModel" "lies" "[I" ∈ bX1 := bX1_i0 _ (List.mem_of_getElem? (i := 10) rfl)
theorem bX1_11 : Cond.fieldLink RX1 37 "KeptPagesModel" "fails" "I" ∈ bX1 := bX1_i0 _ (List.mem_of_getElem? (i := 11) rfl)
theorem bX1_12 : Cond.fieldLink RX1 88 "KeptPagesModel" "looked" "I" ∈ bX1 := bX1_i0 _ (List.mem_of_getElem? (i := 12) rfl)
theorem bX1_13 : Cond.fieldLink RX1 91 "KeptPagesModel" "at" "I" ∈ bX1 := bX1_i0 _ (List.mem_of_getElem? (i := 13) rfl)
theorem bX1_14 : Cond.constantLong RX1 63 4294967295 ∈ bX1 := bX1_i0 _ (List.mem_of_getElem? (i := 14) rfl)
theorem bX1_15 : Cond.constantLong RX1 65 (-1) ∈ bX1 := bX1_i0 _ (List.mem_of_getElem? (i := 15) rfl)
theorem bX1_16 : Cond.constant RX1 67 65535 ∈ bX1 := bX1_i0 _ (List.mem_of_getElem? (i := 16) rfl)
theorem bX1_17 : Cond.constant RX1 84 65520 ∈ bX1 := bX1_i0 _ (List.mem_of_getElem? (i := 17) rfl)
theorem bX1_18 : Cond.constantLong RX1 116 (-101) ∈ bX1 := bX1_i0 _ (List.mem_of_getElem? (i := 18) rfl)
theorem bX1_19 : Cond.constant RX1 108 67108864 ∈ bX1 := bX1_i0 _ (List.mem_of_getElem? (i := 19) rfl)
theorem bX1_20 : Cond.constantLong RX1 122 256 ∈ bX1 := bX1_i0 _ (List.mem_of_getElem? (i := 20) rfl)
theorem bX1_21 : Cond.initialized RX1 ∈ bX1 := bX1_i0 _ (List.mem_of_getElem? (i := 21) rfl)
theorem bX1_22 : Cond.arrayClass .byte ∈ bX1 := bX1_i0 _ (List.mem_of_getElem? (i := 22) rfl)
theorem bX1_23 : Cond.arrayClass .int ∈ bX1 := bX1_i0 _ (List.mem_of_getElem? (i := 23) rfl)
theorem bX1_24 : Cond.methodLink RX1 1 objectInit ∈ bX1 := bX1_i0 _ (List.mem_of_getElem? (i := 24) rfl)
theorem bX1_25 : Cond.methodLink RX1 44 yX1_code ∈ bX1 := bX1_i0 _ (List.mem_of_getElem? (i := 25) rfl)
theorem bX1_26 : Cond.methodLink RX1 48 yX1_isThere ∈ bX1 := bX1_i0 _ (List.mem_of_getElem? (i := 26) rfl)
theorem bX1_27 : Cond.methodLink RX1 52 yX1_areFour ∈ bX1 := bX1_i0 _ (List.mem_of_getElem? (i := 27) rfl)
theorem bX1_28 : Cond.methodLink RX1 55 yX1_putFour ∈ bX1 := bX1_i0 _ (List.mem_of_getElem? (i := 28) rfl)
theorem bX1_29 : Cond.methodLink RX1 59 yX1_four ∈ bX1 := bX1_i0 _ (List.mem_of_getElem? (i := 29) rfl)
theorem bX1_30 : Cond.methodLink RX1 68 yX1_forget ∈ bX1 := bX1_i0 _ (List.mem_of_getElem? (i := 30) rfl)
theorem bX1_31 : Cond.methodLink RX1 85 yX1_isKept ∈ bX1 := bX1_i0 _ (List.mem_of_getElem? (i := 31) rfl)
theorem bX1_32 : Cond.methodLink RX1 81 yX1_slot ∈ bX1 := bX1_i0 _ (List.mem_of_getElem? (i := 32) rfl)
theorem bX1_33 : Cond.methodLink RX1 75 yX1_regionOf ∈ bX1 := bX1_i0 _ (List.mem_of_getElem? (i := 33) rfl)
theorem bX1_34 : Cond.methodLink RX1 78 yX1_pageOf ∈ bX1 := bX1_i0 _ (List.mem_of_getElem? (i := 34) rfl)
theorem bX1_35 : Cond.methodLink RX1 113 yX1_isSize ∈ bX1 := bX1_i0 _ (List.mem_of_getElem? (i := 35) rfl)
theorem bX1_36 : Cond.methodLink RX1 118 yX1_reach ∈ bX1 := bX1_i0 _ (List.mem_of_getElem? (i := 36) rfl)
theorem bX1_37 : Cond.methodLink RX1 109 yX1_translate ∈ bX1 := bX1_i0 _ (List.mem_of_getElem? (i := 37) rfl)
theorem bX1_38 : Cond.methodLink RX1 100 yX1_look ∈ bX1 := bX1_i0 _ (List.mem_of_getElem? (i := 38) rfl)
theorem bX1_39 : Cond.methodLink RX1 94 yX1_isInside ∈ bX1 := bX1_i0 _ (List.mem_of_getElem? (i := 39) rfl)
theorem bX1_40 : Cond.methodLink RX1 97 yX1_keeps ∈ bX1 := bX1_i1 _ (List.mem_of_getElem? (i := 0) rfl)
theorem bX1_41 : Cond.methodLink RX1 104 yX1_isRight ∈ bX1 := bX1_i1 _ (List.mem_of_getElem? (i := 1) rfl)
theorem bX1_42 : Cond.instanceMethod objectInit ∈ bX1 := bX1_i1 _ (List.mem_of_getElem? (i := 2) rfl)
theorem bX1_43 : Cond.instanceMethod yX1_init ∈ bX1 := bX1_i1 _ (List.mem_of_getElem? (i := 3) rfl)
theorem bX1_44 : Cond.instanceMethod yX1_code ∈ bX1 := bX1_i1 _ (List.mem_of_getElem? (i := 4) rfl)
theorem bX1_45 : Cond.instanceMethod yX1_put ∈ bX1 := bX1_i1 _ (List.mem_of_getElem? (i := 5) rfl)
theorem bX1_46 : Cond.instanceMethod yX1_isThere ∈ bX1 := bX1_i1 _ (List.mem_of_getElem? (i := 6) rfl)
theorem bX1_47 : Cond.instanceMethod yX1_entry ∈ bX1 := bX1_i1 _ (List.mem_of_getElem? (i := 7) rfl)
theorem bX1_48 : Cond.instanceMethod yX1_areFour ∈ bX1 := bX1_i1 _ (List.mem_of_getElem? (i := 8) rfl)
theorem bX1_49 : Cond.instanceMethod yX1_putFour ∈ bX1 := bX1_i1 _ (List.mem_of_getElem? (i := 9) rfl)
theorem bX1_50 : Cond.instanceMethod yX1_entryOf ∈ bX1 := bX1_i1 _ (List.mem_of_getElem? (i := 10) rfl)
theorem bX1_51 : Cond.instanceMethod yX1_four ∈ bX1 := bX1_i1 _ (List.mem_of_getElem? (i := 11) rfl)
theorem bX1_52 : Cond.instanceMethod yX1_region ∈ bX1 := bX1_i1 _ (List.mem_of_getElem? (i := 12) rfl)
theorem bX1_53 : Cond.instanceMethod yX1_forget ∈ bX1 := bX1_i1 _ (List.mem_of_getElem? (i := 13) rfl)
theorem bX1_54 : Cond.instanceMethod yX1_map ∈ bX1 := bX1_i1 _ (List.mem_of_getElem? (i := 14) rfl)
theorem bX1_55 : Cond.instanceMethod yX1_drop ∈ bX1 := bX1_i1 _ (List.mem_of_getElem? (i := 15) rfl)
theorem bX1_56 : Cond.instanceMethod yX1_isKept ∈ bX1 := bX1_i1 _ (List.mem_of_getElem? (i := 16) rfl)
theorem bX1_57 : Cond.static yX1_slot ∈ bX1 := bX1_i1 _ (List.mem_of_getElem? (i := 17) rfl)
theorem bX1_58 : Cond.static yX1_regionOf ∈ bX1 := bX1_i1 _ (List.mem_of_getElem? (i := 18) rfl)
theorem bX1_59 : Cond.static yX1_pageOf ∈ bX1 := bX1_i1 _ (List.mem_of_getElem? (i := 19) rfl)
theorem bX1_60 : Cond.instanceMethod yX1_read ∈ bX1 := bX1_i1 _ (List.mem_of_getElem? (i := 20) rfl)
theorem bX1_61 : Cond.static yX1_isSize ∈ bX1 := bX1_i1 _ (List.mem_of_getElem? (i := 21) rfl)
theorem bX1_62 : Cond.instanceMethod yX1_reach ∈ bX1 := bX1_i1 _ (List.mem_of_getElem? (i := 22) rfl)
theorem bX1_63 : Cond.instanceMethod yX1_translate ∈ bX1 := bX1_i1 _ (List.mem_of_getElem? (i := 23) rfl)
theorem bX1_64 : Cond.instanceMethod yX1_look ∈ bX1 := bX1_i1 _ (List.mem_of_getElem? (i := 24) rfl)
theorem bX1_65 : Cond.instanceMethod yX1_isInside ∈ bX1 := bX1_i1 _ (List.mem_of_getElem? (i := 25) rfl)
theorem bX1_66 : Cond.instanceMethod yX1_keeps ∈ bX1 := bX1_i1 _ (List.mem_of_getElem? (i := 26) rfl)
theorem bX1_67 : Cond.instanceMethod yX1_isRight ∈ bX1 := bX1_i1 _ (List.mem_of_getElem? (i := 27) rfl)
theorem bX1_68 : Cond.instanceMethod yX1_write ∈ bX1 := bX1_i1 _ (List.mem_of_getElem? (i := 28) rfl)
theorem bX1_69 : Cond.instanceMethod yX1_where ∈ bX1 := bX1_i1 _ (List.mem_of_getElem? (i := 29) rfl)
theorem bX1_70 : Cond.instanceMethod yX1_may ∈ bX1 := bX1_i1 _ (List.mem_of_getElem? (i := 30) rfl)
theorem bX1_71 : Cond.instanceMethod yX1_kept ∈ bX1 := bX1_i1 _ (List.mem_of_getElem? (i := 31) rfl)
theorem bX1_72 : Cond.instanceMethod yX1_failed ∈ bX1 := bX1_i1 _ (List.mem_of_getElem? (i := 32) rfl)
theorem bX1_73 : Cond.selects RX1 yX1_put yX1_put ∈ bX1 := bX1_i1 _ (List.mem_of_getElem? (i := 33) rfl)
theorem bX1_74 : Cond.selects RX1 yX1_entry yX1_entry ∈ bX1 := bX1_i1 _ (List.mem_of_getElem? (i := 34) rfl)
theorem bX1_75 : Cond.selects RX1 yX1_entryOf yX1_entryOf ∈ bX1 := bX1_i1 _ (List.mem_of_getElem? (i := 35) rfl)
theorem bX1_76 : Cond.selects RX1 yX1_region yX1_region ∈ bX1 := bX1_i1 _ (List.mem_of_getElem? (i := 36) rfl)
theorem bX1_77 : Cond.selects RX1 yX1_map yX1_map ∈ bX1 := bX1_i1 _ (List.mem_of_getElem? (i := 37) rfl)
theorem bX1_78 : Cond.selects RX1 yX1_drop yX1_drop ∈ bX1 := bX1_i1 _ (List.mem_of_getElem? (i := 38) rfl)
theorem bX1_79 : Cond.selects RX1 yX1_read yX1_read ∈ bX1 := bX1_i1 _ (List.mem_of_getElem? (i := 39) rfl)
theorem bX1_80 : Cond.selects RX1 yX1_write yX1_write ∈ bX1 := bX1_i2 _ (List.mem_of_getElem? (i := 0) rfl)
theorem bX1_81 : Cond.selects RX1 yX1_where yX1_where ∈ bX1 := bX1_i2 _ (List.mem_of_getElem? (i := 1) rfl)
theorem bX1_82 : Cond.selects RX1 yX1_may yX1_may ∈ bX1 := bX1_i2 _ (List.mem_of_getElem? (i := 2) rfl)
theorem bX1_83 : Cond.selects RX1 yX1_kept yX1_kept ∈ bX1 := bX1_i2 _ (List.mem_of_getElem? (i := 3) rfl)
theorem bX1_84 : Cond.selects RX1 yX1_failed yX1_failed ∈ bX1 := bX1_i2 _ (List.mem_of_getElem? (i := 4) rfl)
theorem bX1_85 : Cond.selects RX1 yX1_code yX1_code ∈ bX1 := bX1_i2 _ (List.mem_of_getElem? (i := 5) rfl)
theorem bX1_86 : Cond.selects RX1 yX1_isThere yX1_isThere ∈ bX1 := bX1_i2 _ (List.mem_of_getElem? (i := 6) rfl)
theorem bX1_87 : Cond.selects RX1 yX1_areFour yX1_areFour ∈ bX1 := bX1_i2 _ (List.mem_of_getElem? (i := 7) rfl)
theorem bX1_88 : Cond.selects RX1 yX1_putFour yX1_putFour ∈ bX1 := bX1_i2 _ (List.mem_of_getElem? (i := 8) rfl)
theorem bX1_89 : Cond.selects RX1 yX1_four yX1_four ∈ bX1 := bX1_i2 _ (List.mem_of_getElem? (i := 9) rfl)
theorem bX1_90 : Cond.selects RX1 yX1_forget yX1_forget ∈ bX1 := bX1_i2 _ (List.mem_of_getElem? (i := 10) rfl)
theorem bX1_91 : Cond.selects RX1 yX1_isKept yX1_isKept ∈ bX1 := bX1_i2 _ (List.mem_of_getElem? (i := 11) rfl)
theorem bX1_92 : Cond.selects RX1 yX1_reach yX1_reach ∈ bX1 := bX1_i2 _ (List.mem_of_getElem? (i := 12) rfl)
theorem bX1_93 : Cond.selects RX1 yX1_translate yX1_translate ∈ bX1 := bX1_i2 _ (List.mem_of_getElem? (i := 13) rfl)
theorem bX1_94 : Cond.selects RX1 yX1_look yX1_look ∈ bX1 := bX1_i2 _ (List.mem_of_getElem? (i := 14) rfl)
theorem bX1_95 : Cond.selects RX1 yX1_isInside yX1_isInside ∈ bX1 := bX1_i2 _ (List.mem_of_getElem? (i := 15) rfl)
theorem bX1_96 : Cond.selects RX1 yX1_keeps yX1_keeps ∈ bX1 := bX1_i2 _ (List.mem_of_getElem? (i := 16) rfl)
theorem bX1_97 : Cond.selects RX1 yX1_isRight yX1_isRight ∈ bX1 := bX1_i2 _ (List.mem_of_getElem? (i := 17) rfl)
theorem bX1_98 : Cond.code objectInit ⟨#[0xb1]⟩ 1 none ∈ bX1 := bX1_i2 _ (List.mem_of_getElem? (i := 18) rfl)
theorem bX1_99 : Cond.code yX1_init cX1_init 3 none ∈ bX1 := bX1_i2 _ (List.mem_of_getElem? (i := 19) rfl)
theorem bX1_100 : Cond.code yX1_code cX1_code 4 none ∈ bX1 := bX1_i2 _ (List.mem_of_getElem? (i := 20) rfl)
theorem bX1_101 : Cond.code yX1_put cX1_put 3 (some .boolean) ∈ bX1 := bX1_i2 _ (List.mem_of_getElem? (i := 21) rfl)
theorem bX1_102 : Cond.code yX1_isThere cX1_isThere 2 (some .boolean) ∈ bX1 := bX1_i2 _ (List.mem_of_getElem? (i := 22) rfl)
theorem bX1_103 : Cond.code yX1_entry cX1_entry 3 (some .boolean) ∈ bX1 := bX1_i2 _ (List.mem_of_getElem? (i := 23) rfl)
theorem bX1_104 : Cond.code yX1_areFour cX1_areFour 2 (some .boolean) ∈ bX1 := bX1_i2 _ (List.mem_of_getElem? (i := 24) rfl)
theorem bX1_105 : Cond.code yX1_putFour cX1_putFour 4 none ∈ bX1 := bX1_i2 _ (List.mem_of_getElem? (i := 25) rfl)
theorem bX1_106 : Cond.code yX1_entryOf cX1_entryOf 2 (some .long) ∈ bX1 := bX1_i2 _ (List.mem_of_getElem? (i := 26) rfl)
theorem bX1_107 : Cond.code yX1_four cX1_four 2 (some .int) ∈ bX1 := bX1_i2 _ (List.mem_of_getElem? (i := 27) rfl)
theorem bX1_108 : Cond.code yX1_region cX1_region 4 (some .boolean) ∈ bX1 := bX1_i2 _ (List.mem_of_getElem? (i := 28) rfl)
theorem bX1_109 : Cond.code yX1_forget cX1_forget 4 none ∈ bX1 := bX1_i2 _ (List.mem_of_getElem? (i := 29) rfl)
theorem bX1_110 : Cond.code yX1_map cX1_map 2 none ∈ bX1 := bX1_i2 _ (List.mem_of_getElem? (i := 30) rfl)
theorem bX1_111 : Cond.code yX1_drop cX1_drop 3 (some .boolean) ∈ bX1 := bX1_i2 _ (List.mem_of_getElem? (i := 31) rfl)
theorem bX1_112 : Cond.code yX1_isKept cX1_isKept 2 (some .boolean) ∈ bX1 := bX1_i2 _ (List.mem_of_getElem? (i := 32) rfl)
theorem bX1_113 : Cond.code yX1_slot cX1_slot 1 (some .int) ∈ bX1 := bX1_i2 _ (List.mem_of_getElem? (i := 33) rfl)
theorem bX1_114 : Cond.code yX1_regionOf cX1_regionOf 1 (some .int) ∈ bX1 := bX1_i2 _ (List.mem_of_getElem? (i := 34) rfl)
theorem bX1_115 : Cond.code yX1_pageOf cX1_pageOf 1 (some .int) ∈ bX1 := bX1_i2 _ (List.mem_of_getElem? (i := 35) rfl)
theorem bX1_116 : Cond.code yX1_read cX1_read 8 (some .long) ∈ bX1 := bX1_i2 _ (List.mem_of_getElem? (i := 36) rfl)
theorem bX1_117 : Cond.code yX1_isSize cX1_isSize 1 (some .boolean) ∈ bX1 := bX1_i2 _ (List.mem_of_getElem? (i := 37) rfl)
theorem bX1_118 : Cond.code yX1_reach cX1_reach 8 (some .int) ∈ bX1 := bX1_i2 _ (List.mem_of_getElem? (i := 38) rfl)
theorem bX1_119 : Cond.code yX1_translate cX1_translate 7 (some .int) ∈ bX1 := bX1_i2 _ (List.mem_of_getElem? (i := 39) rfl)
theorem bX1_120 : Cond.code yX1_look cX1_look 7 (some .int) ∈ bX1 := bX1_i3 _ (List.mem_of_getElem? (i := 0) rfl)
theorem bX1_121 : Cond.code yX1_isInside cX1_isInside 3 (some .boolean) ∈ bX1 := bX1_i3 _ (List.mem_of_getElem? (i := 1) rfl)
theorem bX1_122 : Cond.code yX1_keeps cX1_keeps 4 none ∈ bX1 := bX1_i3 _ (List.mem_of_getElem? (i := 2) rfl)
theorem bX1_123 : Cond.code yX1_isRight cX1_isRight 4 (some .boolean) ∈ bX1 := bX1_i3 _ (List.mem_of_getElem? (i := 3) rfl)
theorem bX1_124 : Cond.code yX1_write cX1_write 7 (some .int) ∈ bX1 := bX1_i3 _ (List.mem_of_getElem? (i := 4) rfl)
theorem bX1_125 : Cond.code yX1_where cX1_where 5 (some .int) ∈ bX1 := bX1_i3 _ (List.mem_of_getElem? (i := 5) rfl)
theorem bX1_126 : Cond.code yX1_may cX1_may 5 (some .int) ∈ bX1 := bX1_i3 _ (List.mem_of_getElem? (i := 6) rfl)
theorem bX1_127 : Cond.code yX1_kept cX1_kept 4 (some .long) ∈ bX1 := bX1_i3 _ (List.mem_of_getElem? (i := 7) rfl)
theorem bX1_128 : Cond.code yX1_failed cX1_failed 1 (some .int) ∈ bX1 := bX1_i3 _ (List.mem_of_getElem? (i := 8) rfl)
theorem bX1_g0 : bX1_q0.all goodWord = true := by decide +kernel
theorem bX1_g1 : bX1_q1.all goodWord = true := by decide +kernel
theorem bX1_g2 : bX1_q2.all goodWord = true := by decide +kernel
theorem bX1_g3 : bX1_q3.all goodWord = true := by decide +kernel
theorem bX1_gw : wsX10.all goodWord = true := by decide +kernel
theorem bX1_good : ∀ w ∈ bX1, goodWord w = true := fun w h => (List.mem_append.mp h).elim (List.all_eq_true.mp bX1_g0 w) (fun h => (List.mem_append.mp h).elim (List.all_eq_true.mp bX1_g1 w) (fun h => (List.mem_append.mp h).elim (List.all_eq_true.mp bX1_g2 w) (fun h => (List.mem_append.mp h).elim (List.all_eq_true.mp bX1_g3 w) (fun h => List.all_eq_true.mp bX1_gw w h))))
set_option maxRecDepth 20000 in
theorem bX1_t0 : GoodIn lw_tbl bX1_q0 := goodIn_p bX1_q0 [] rfl (by decide +kernel)
set_option maxRecDepth 20000 in
theorem bX1_t1 : GoodIn lw_tbl bX1_q1 := goodIn_p bX1_q1 [] rfl (by decide +kernel)
set_option maxRecDepth 20000 in
theorem bX1_t2 : GoodIn lw_tbl bX1_q2 := goodIn_p bX1_q2 [37, 221, 226, 273, 277, 281, 285, 289, 293, 297, 303, 308, 312, 316, 320, 323, 326, 329, 334, 337, 342, 346] rfl (by decide +kernel)
set_option maxRecDepth 20000 in
theorem bX1_t3 : GoodIn lw_tbl bX1_q3 := goodIn_p bX1_q3 [350, 354, 358, 362, 368, 372, 376, 380, 384] rfl (by decide +kernel)
set_option maxRecDepth 20000 in
theorem bX1_tw : GoodIn lw_tbl wsX10 := goodIn_of _ (by decide +kernel)
theorem bX1_in : ∀ w ∈ bX1, w ∈ lw_tbl := fun w h => (List.mem_append.mp h).elim (fun h => (bX1_t0 w h).1) (fun h => (List.mem_append.mp h).elim (fun h => (bX1_t1 w h).1) (fun h => (List.mem_append.mp h).elim (fun h => (bX1_t2 w h).1) (fun h => (List.mem_append.mp h).elim (fun h => (bX1_t3 w h).1) (fun h => (bX1_tw w h).1))))
def wsX1_init : List Cond := .code yX1_init cX1_init 3 none :: bX1
def wsX1_code : List Cond := .code yX1_code cX1_code 4 none :: bX1
def wsX1_put : List Cond := .code yX1_put cX1_put 3 (some .boolean) :: bX1
def wsX1_isThere : List Cond := .code yX1_isThere cX1_isThere 2 (some .boolean) :: bX1
def wsX1_entry : List Cond := .code yX1_entry cX1_entry 3 (some .boolean) :: bX1
def wsX1_areFour : List Cond := .code yX1_areFour cX1_areFour 2 (some .boolean) :: bX1
def wsX1_putFour : List Cond := .code yX1_putFour cX1_putFour 4 none :: bX1
def wsX1_entryOf : List Cond := .code yX1_entryOf cX1_entryOf 2 (some .long) :: bX1
def wsX1_four : List Cond := .code yX1_four cX1_four 2 (some .int) :: bX1
def wsX1_region : List Cond := .code yX1_region cX1_region 4 (some .boolean) :: bX1
def wsX1_forget : List Cond := .code yX1_forget cX1_forget 4 none :: bX1
def wsX1_map : List Cond := .code yX1_map cX1_map 2 none :: bX1
def wsX1_drop : List Cond := .code yX1_drop cX1_drop 3 (some .boolean) :: bX1
def wsX1_isKept : List Cond := .code yX1_isKept cX1_isKept 2 (some .boolean) :: bX1
def wsX1_slot : List Cond := .code yX1_slot cX1_slot 1 (some .int) :: bX1
def wsX1_regionOf : List Cond := .code yX1_regionOf cX1_regionOf 1 (some .int) :: bX1
def wsX1_pageOf : List Cond := .code yX1_pageOf cX1_pageOf 1 (some .int) :: bX1
def wsX1_read : List Cond := .code yX1_read cX1_read 8 (some .long) :: bX1
def wsX1_isSize : List Cond := .code yX1_isSize cX1_isSize 1 (some .boolean) :: bX1
def wsX1_reach : List Cond := .code yX1_reach cX1_reach 8 (some .int) :: bX1
def wsX1_translate : List Cond := .code yX1_translate cX1_translate 7 (some .int) :: bX1
def wsX1_look : List Cond := .code yX1_look cX1_look 7 (some .int) :: bX1
def wsX1_isInside : List Cond := .code yX1_isInside cX1_isInside 3 (some .boolean) :: bX1
def wsX1_keeps : List Cond := .code yX1_keeps cX1_keeps 4 none :: bX1
def wsX1_isRight : List Cond := .code yX1_isRight cX1_isRight 4 (some .boolean) :: bX1
def wsX1_write : List Cond := .code yX1_write cX1_write 7 (some .int) :: bX1
def wsX1_where : List Cond := .code yX1_where cX1_where 5 (some .int) :: bX1
def wsX1_may : List Cond := .code yX1_may cX1_may 5 (some .int) :: bX1
def wsX1_kept : List Cond := .code yX1_kept cX1_kept 4 (some .long) :: bX1
def wsX1_failed : List Cond := .code yX1_failed cX1_failed 1 (some .int) :: bX1
def wsJ_fill : List Cond := .code yJ_fill cJ_fill 4 none :: []
def wsL_cell : List Cond := .code yL_cell cL_cell 2 (some .int) :: []
theorem gX0_J_fill : GoodIn bX0 (va_wsS RX0 31 yJ_fill wsJ_fill) := bg_S (fun _ h => absurd h List.not_mem_nil) (fun _ h => absurd h List.not_mem_nil) bX0_21 bX0_49 bX0_46 bX0_113
theorem gX0_X0_inMemory : GoodIn bX0 (wsV RX0 46 RX0 yX0_inMemory wsX0_inMemory) := bg_V bX0_good (fun _ h => h) bX0_22 bX0_51 bX0_98 bX0_17 bX0_115
theorem gX0_X0_entryAt : GoodIn bX0 (wsV RX0 50 RX0 yX0_entryAt wsX0_entryAt) := bg_V bX0_good (fun _ h => h) bX0_23 bX0_54 bX0_99 bX0_17 bX0_118
theorem gX0_X0_byteAt : GoodIn bX0 (wsV RX0 79 RX0 yX0_byteAt wsX0_byteAt) := bg_V bX0_good (fun _ h => h) bX0_24 bX0_55 bX0_100 bX0_17 bX0_119
theorem gX0_X0_forget : GoodIn bX0 (wsV RX0 59 RX0 yX0_forget wsX0_forget) := bg_V bX0_good (fun _ h => h) bX0_25 bX0_57 bX0_101 bX0_17 bX0_121
theorem gX0_X0_slotOf : GoodIn bX0 (va_wsS RX0 63 yX0_slotOf wsX0_slotOf) := bg_S bX0_good (fun _ h => h) bX0_26 bX0_60 bX0_17 bX0_124
theorem gX0_X0_pageOf : GoodIn bX0 (va_wsS RX0 128 yX0_pageOf wsX0_pageOf) := bg_S bX0_good (fun _ h => h) bX0_27 bX0_61 bX0_17 bX0_125
theorem gX0_X0_regionOf : GoodIn bX0 (va_wsS RX0 125 yX0_regionOf wsX0_regionOf) := bg_S bX0_good (fun _ h => h) bX0_28 bX0_62 bX0_17 bX0_126
theorem gX0_X0_counts : GoodIn bX0 (wsV RX0 66 RX0 yX0_counts wsX0_counts) := bg_V bX0_good (fun _ h => h) bX0_29 bX0_63 bX0_102 bX0_17 bX0_127
theorem gX0_X0_isCount : GoodIn bX0 (va_wsS RX0 69 yX0_isCount wsX0_isCount) := bg_S bX0_good (fun _ h => h) bX0_30 bX0_65 bX0_17 bX0_129
theorem gX0_X0_findPlaces : GoodIn bX0 (wsV RX0 75 RX0 yX0_findPlaces wsX0_findPlaces) := bg_V bX0_good (fun _ h => h) bX0_31 bX0_66 bX0_103 bX0_17 bX0_130
theorem gX0_X0_placeInPage : GoodIn bX0 (va_wsS RX0 97 yX0_placeInPage wsX0_placeInPage) := bg_S bX0_good (fun _ h => h) bX0_32 bX0_67 bX0_17 bX0_131
theorem gX0_X0_translate : GoodIn bX0 (wsV RX0 82 RX0 yX0_translate wsX0_translate) := bg_V bX0_good (fun _ h => h) bX0_33 bX0_68 bX0_104 bX0_17 bX0_132
theorem gX0_X0_placeOfEntry : GoodIn bX0 (wsV RX0 90 RX0 yX0_placeOfEntry wsX0_placeOfEntry) := bg_V bX0_good (fun _ h => h) bX0_34 bX0_69 bX0_105 bX0_17 bX0_133
theorem gX0_X0_inside : GoodIn bX0 (wsV RX0 131 RX0 yX0_inside wsX0_inside) := bg_V bX0_good (fun _ h => h) bX0_35 bX0_70 bX0_106 bX0_17 bX0_134
theorem gX0_X0_access : GoodIn bX0 (va_wsS RX0 104 yX0_access wsX0_access) := bg_S bX0_good (fun _ h => h) bX0_36 bX0_71 bX0_17 bX0_135
theorem gX0_X0_placeThroughS : GoodIn bX0 (wsV RX0 134 RX0 yX0_placeThroughS wsX0_placeThroughS) := bg_V bX0_good (fun _ h => h) bX0_37 bX0_72 bX0_107 bX0_17 bX0_136
theorem gX0_X0_physical : GoodIn bX0 (va_wsS RX0 121 yX0_physical wsX0_physical) := bg_S bX0_good (fun _ h => h) bX0_38 bX0_73 bX0_17 bX0_137
theorem gX0_X0_isValid : GoodIn bX0 (va_wsS RX0 108 yX0_isValid wsX0_isValid) := bg_S bX0_good (fun _ h => h) bX0_39 bX0_74 bX0_17 bX0_138
theorem gX0_X0_missing : GoodIn bX0 (va_wsS RX0 111 yX0_missing wsX0_missing) := bg_S bX0_good (fun _ h => h) bX0_40 bX0_75 bX0_17 bX0_139
theorem gX0_X0_keepEntry : GoodIn bX0 (wsV RX0 114 RX0 yX0_keepEntry wsX0_keepEntry) := bg_V bX0_good (fun _ h => h) bX0_41 bX0_76 bX0_108 bX0_17 bX0_140
theorem gX0_X0_gives : GoodIn bX0 (va_wsS RX0 86 yX0_gives wsX0_gives) := bg_S bX0_good (fun _ h => h) bX0_42 bX0_77 bX0_17 bX0_141
theorem gX0_X0_markWritten : GoodIn bX0 (wsV RX0 118 RX0 yX0_markWritten wsX0_markWritten) := bg_V bX0_good (fun _ h => h) bX0_43 bX0_78 bX0_109 bX0_17 bX0_142
theorem gX0_X0_noteFault : GoodIn bX0 (wsV RX0 100 RX0 yX0_noteFault wsX0_noteFault) := bg_V bX0_good (fun _ h => h) bX0_44 bX0_79 bX0_110 bX0_17 bX0_143
theorem gX0_X0_isAccess : GoodIn bX0 (va_wsS RX0 94 yX0_isAccess wsX0_isAccess) := bg_S bX0_good (fun _ h => h) bX0_45 bX0_83 bX0_17 bX0_147
theorem gX1_X1_code : GoodIn bX1 (wsV RX1 44 RX1 yX1_code wsX1_code) := bg_V bX1_good (fun _ h => h) bX1_25 bX1_44 bX1_85 bX1_21 bX1_100
theorem gX1_X1_isThere : GoodIn bX1 (wsV RX1 48 RX1 yX1_isThere wsX1_isThere) := bg_V bX1_good (fun _ h => h) bX1_26 bX1_46 bX1_86 bX1_21 bX1_102
theorem gX1_X1_areFour : GoodIn bX1 (wsV RX1 52 RX1 yX1_areFour wsX1_areFour) := bg_V bX1_good (fun _ h => h) bX1_27 bX1_48 bX1_87 bX1_21 bX1_104
theorem gX1_X1_putFour : GoodIn bX1 (wsV RX1 55 RX1 yX1_putFour wsX1_putFour) := bg_V bX1_good (fun _ h => h) bX1_28 bX1_49 bX1_88 bX1_21 bX1_105
theorem gX1_X1_four : GoodIn bX1 (wsV RX1 59 RX1 yX1_four wsX1_four) := bg_V bX1_good (fun _ h => h) bX1_29 bX1_51 bX1_89 bX1_21 bX1_107
theorem gX1_X1_forget : GoodIn bX1 (wsV RX1 68 RX1 yX1_forget wsX1_forget) := bg_V bX1_good (fun _ h => h) bX1_30 bX1_53 bX1_90 bX1_21 bX1_109
theorem gX1_X1_isKept : GoodIn bX1 (wsV RX1 85 RX1 yX1_isKept wsX1_isKept) := bg_V bX1_good (fun _ h => h) bX1_31 bX1_56 bX1_91 bX1_21 bX1_112
theorem gX1_X1_slot : GoodIn bX1 (va_wsS RX1 81 yX1_slot wsX1_slot) := bg_S bX1_good (fun _ h => h) bX1_32 bX1_57 bX1_21 bX1_113
theorem gX1_X1_regionOf : GoodIn bX1 (va_wsS RX1 75 yX1_regionOf wsX1_regionOf) := bg_S bX1_good (fun _ h => h) bX1_33 bX1_58 bX1_21 bX1_114
theorem gX1_X1_pageOf : GoodIn bX1 (va_wsS RX1 78 yX1_pageOf wsX1_pageOf) := bg_S bX1_good (fun _ h => h) bX1_34 bX1_59 bX1_21 bX1_115
theorem gX1_X1_isSize : GoodIn bX1 (va_wsS RX1 113 yX1_isSize wsX1_isSize) := bg_S bX1_good (fun _ h => h) bX1_35 bX1_61 bX1_21 bX1_117
theorem gX1_X1_reach : GoodIn bX1 (wsV RX1 118 RX1 yX1_reach wsX1_reach) := bg_V bX1_good (fun _ h => h) bX1_36 bX1_62 bX1_92 bX1_21 bX1_118
theorem gX1_X1_translate : GoodIn bX1 (wsV RX1 109 RX1 yX1_translate wsX1_translate) := bg_V bX1_good (fun _ h => h) bX1_37 bX1_63 bX1_93 bX1_21 bX1_119
theorem gX1_X1_look : GoodIn bX1 (wsV RX1 100 RX1 yX1_look wsX1_look) := bg_V bX1_good (fun _ h => h) bX1_38 bX1_64 bX1_94 bX1_21 bX1_120
theorem gX1_X1_isInside : GoodIn bX1 (wsV RX1 94 RX1 yX1_isInside wsX1_isInside) := bg_V bX1_good (fun _ h => h) bX1_39 bX1_65 bX1_95 bX1_21 bX1_121
theorem gX1_X1_keeps : GoodIn bX1 (wsV RX1 97 RX1 yX1_keeps wsX1_keeps) := bg_V bX1_good (fun _ h => h) bX1_40 bX1_66 bX1_96 bX1_21 bX1_122
theorem gX1_X1_isRight : GoodIn bX1 (wsV RX1 104 RX1 yX1_isRight wsX1_isRight) := bg_V bX1_good (fun _ h => h) bX1_41 bX1_67 bX1_97 bX1_21 bX1_123
set_option maxRecDepth 20000 in
theorem lwt_0 : Cond.initialized RL ∈ lw_tbl := List.mem_append_right _ (List.mem_of_getElem? (i := 0) (by decide +kernel))
set_option maxRecDepth 20000 in
theorem lwt_1 : Cond.initialized RX0 ∈ lw_tbl := List.mem_append_right _ (List.mem_of_getElem? (i := 1) (by decide +kernel))
set_option maxRecDepth 20000 in
theorem lwt_2 : Cond.initialized RJ ∈ lw_tbl := List.mem_append_right _ (List.mem_of_getElem? (i := 2) (by decide +kernel))
set_option maxRecDepth 20000 in
theorem lwt_3 : Cond.initialized RX1 ∈ lw_tbl := List.mem_append_right _ (List.mem_of_getElem? (i := 3) (by decide +kernel))
set_option maxRecDepth 20000 in
theorem lwt_4 : Cond.classLink RL 7 RX0 ∈ lw_tbl := List.mem_append_right _ (List.mem_of_getElem? (i := 4) (by decide +kernel))
set_option maxRecDepth 20000 in
theorem lwt_5 : Cond.instantiable RX0 9 ∈ lw_tbl := List.mem_append_right _ (List.mem_of_getElem? (i := 5) (by decide +kernel))
set_option maxRecDepth 20000 in
theorem lwt_6 : Cond.methodLink RL 15 yX0_init ∈ lw_tbl := List.mem_append_right _ (List.mem_of_getElem? (i := 6) (by decide +kernel))
set_option maxRecDepth 20000 in
theorem lwt_7 : Cond.instanceMethod yX0_init ∈ lw_tbl := List.mem_append_right _ (List.mem_of_getElem? (i := 7) (by decide +kernel))
set_option maxRecDepth 20000 in
theorem lwt_8 : Cond.code yX0_init cX0_init 3 none ∈ lw_tbl := List.mem_append_right _ (List.mem_of_getElem? (i := 8) rfl)
set_option maxRecDepth 20000 in
theorem lwt_45 : Cond.methodLink RL 21 yX0_put ∈ lw_tbl := List.mem_append_right _ (List.mem_of_getElem? (i := 45) (by decide +kernel))
set_option maxRecDepth 20000 in
theorem lwt_46 : Cond.instanceMethod yX0_put ∈ lw_tbl := List.mem_append_right _ (List.mem_of_getElem? (i := 46) (by decide +kernel))
set_option maxRecDepth 20000 in
theorem lwt_47 : Cond.selects RX0 yX0_put yX0_put ∈ lw_tbl := List.mem_append_right _ (List.mem_of_getElem? (i := 47) (by decide +kernel))
set_option maxRecDepth 20000 in
theorem lwt_48 : Cond.code yX0_put cX0_put 3 (some .boolean) ∈ lw_tbl := List.mem_append_right _ (List.mem_of_getElem? (i := 48) rfl)
set_option maxRecDepth 20000 in
theorem lwt_53 : Cond.methodLink RL 26 yX0_entry ∈ lw_tbl := List.mem_append_right _ (List.mem_of_getElem? (i := 53) (by decide +kernel))
set_option maxRecDepth 20000 in
theorem lwt_54 : Cond.instanceMethod yX0_entry ∈ lw_tbl := List.mem_append_right _ (List.mem_of_getElem? (i := 54) (by decide +kernel))
set_option maxRecDepth 20000 in
theorem lwt_55 : Cond.selects RX0 yX0_entry yX0_entry ∈ lw_tbl := List.mem_append_right _ (List.mem_of_getElem? (i := 55) (by decide +kernel))
set_option maxRecDepth 20000 in
theorem lwt_56 : Cond.code yX0_entry cX0_entry 4 (some .boolean) ∈ lw_tbl := List.mem_append_right _ (List.mem_of_getElem? (i := 56) rfl)
set_option maxRecDepth 20000 in
theorem lwt_57 : Cond.methodLink RL 30 yX0_entryOf ∈ lw_tbl := List.mem_append_right _ (List.mem_of_getElem? (i := 57) (by decide +kernel))
set_option maxRecDepth 20000 in
theorem lwt_58 : Cond.instanceMethod yX0_entryOf ∈ lw_tbl := List.mem_append_right _ (List.mem_of_getElem? (i := 58) (by decide +kernel))
set_option maxRecDepth 20000 in
theorem lwt_59 : Cond.selects RX0 yX0_entryOf yX0_entryOf ∈ lw_tbl := List.mem_append_right _ (List.mem_of_getElem? (i := 59) (by decide +kernel))
set_option maxRecDepth 20000 in
theorem lwt_60 : Cond.code yX0_entryOf cX0_entryOf 2 (some .long) ∈ lw_tbl := List.mem_append_right _ (List.mem_of_getElem? (i := 60) rfl)
set_option maxRecDepth 20000 in
theorem lwt_71 : Cond.methodLink RL 35 yX0_region ∈ lw_tbl := List.mem_append_right _ (List.mem_of_getElem? (i := 71) (by decide +kernel))
set_option maxRecDepth 20000 in
theorem lwt_72 : Cond.instanceMethod yX0_region ∈ lw_tbl := List.mem_append_right _ (List.mem_of_getElem? (i := 72) (by decide +kernel))
set_option maxRecDepth 20000 in
theorem lwt_73 : Cond.selects RX0 yX0_region yX0_region ∈ lw_tbl := List.mem_append_right _ (List.mem_of_getElem? (i := 73) (by decide +kernel))
set_option maxRecDepth 20000 in
theorem lwt_74 : Cond.code yX0_region cX0_region 4 (some .boolean) ∈ lw_tbl := List.mem_append_right _ (List.mem_of_getElem? (i := 74) rfl)
set_option maxRecDepth 20000 in
theorem lwt_80 : Cond.methodLink RL 40 yX0_map ∈ lw_tbl := List.mem_append_right _ (List.mem_of_getElem? (i := 80) (by decide +kernel))
set_option maxRecDepth 20000 in
theorem lwt_81 : Cond.instanceMethod yX0_map ∈ lw_tbl := List.mem_append_right _ (List.mem_of_getElem? (i := 81) (by decide +kernel))
set_option maxRecDepth 20000 in
theorem lwt_82 : Cond.selects RX0 yX0_map yX0_map ∈ lw_tbl := List.mem_append_right _ (List.mem_of_getElem? (i := 82) (by decide +kernel))
set_option maxRecDepth 20000 in
theorem lwt_83 : Cond.code yX0_map cX0_map 2 none ∈ lw_tbl := List.mem_append_right _ (List.mem_of_getElem? (i := 83) rfl)
set_option maxRecDepth 20000 in
theorem lwt_84 : Cond.methodLink RL 45 yX0_drop ∈ lw_tbl := List.mem_append_right _ (List.mem_of_getElem? (i := 84) (by decide +kernel))
set_option maxRecDepth 20000 in
theorem lwt_85 : Cond.instanceMethod yX0_drop ∈ lw_tbl := List.mem_append_right _ (List.mem_of_getElem? (i := 85) (by decide +kernel))
set_option maxRecDepth 20000 in
theorem lwt_86 : Cond.selects RX0 yX0_drop yX0_drop ∈ lw_tbl := List.mem_append_right _ (List.mem_of_getElem? (i := 86) (by decide +kernel))
set_option maxRecDepth 20000 in
theorem lwt_87 : Cond.code yX0_drop cX0_drop 4 (some .boolean) ∈ lw_tbl := List.mem_append_right _ (List.mem_of_getElem? (i := 87) rfl)
set_option maxRecDepth 20000 in
theorem lwt_101 : Cond.methodLink RL 50 yX0_read ∈ lw_tbl := List.mem_append_right _ (List.mem_of_getElem? (i := 101) (by decide +kernel))
set_option maxRecDepth 20000 in
theorem lwt_102 : Cond.instanceMethod yX0_read ∈ lw_tbl := List.mem_append_right _ (List.mem_of_getElem? (i := 102) (by decide +kernel))
set_option maxRecDepth 20000 in
theorem lwt_103 : Cond.selects RX0 yX0_read yX0_read ∈ lw_tbl := List.mem_append_right _ (List.mem_of_getElem? (i := 103) (by decide +kernel))
set_option maxRecDepth 20000 in
theorem lwt_104 : Cond.code yX0_read cX0_read 8 (some .long) ∈ lw_tbl := List.mem_append_right _ (List.mem_of_getElem? (i := 104) rfl)
set_option maxRecDepth 20000 in
theorem lwt_165 : Cond.methodLink RL 55 yX0_write ∈ lw_tbl := List.mem_append_right _ (List.mem_of_getElem? (i := 165) (by decide +kernel))
set_option maxRecDepth 20000 in
theorem lwt_166 : Cond.instanceMethod yX0_write ∈ lw_tbl := List.mem_append_right _ (List.mem_of_getElem? (i := 166) (by decide +kernel))
set_option maxRecDepth 20000 in
theorem lwt_167 : Cond.selects RX0 yX0_write yX0_write ∈ lw_tbl := List.mem_append_right _ (List.mem_of_getElem? (i := 167) (by decide +kernel))
set_option maxRecDepth 20000 in
theorem lwt_168 : Cond.code yX0_write cX0_write 7 (some .int) ∈ lw_tbl := List.mem_append_right _ (List.mem_of_getElem? (i := 168) rfl)
set_option maxRecDepth 20000 in
theorem lwt_169 : Cond.methodLink RL 60 yX0_where ∈ lw_tbl := List.mem_append_right _ (List.mem_of_getElem? (i := 169) (by decide +kernel))
set_option maxRecDepth 20000 in
theorem lwt_170 : Cond.instanceMethod yX0_where ∈ lw_tbl := List.mem_append_right _ (List.mem_of_getElem? (i := 170) (by decide +kernel))
set_option maxRecDepth 20000 in
theorem lwt_171 : Cond.selects RX0 yX0_where yX0_where ∈ lw_tbl := List.mem_append_right _ (List.mem_of_getElem? (i := 171) (by decide +kernel))
set_option maxRecDepth 20000 in
theorem lwt_172 : Cond.code yX0_where cX0_where 5 (some .int) ∈ lw_tbl := List.mem_append_right _ (List.mem_of_getElem? (i := 172) rfl)
set_option maxRecDepth 20000 in
theorem lwt_173 : Cond.methodLink RL 65 yX0_may ∈ lw_tbl := List.mem_append_right _ (List.mem_of_getElem? (i := 173) (by decide +kernel))
set_option maxRecDepth 20000 in
theorem lwt_174 : Cond.instanceMethod yX0_may ∈ lw_tbl := List.mem_append_right _ (List.mem_of_getElem? (i := 174) (by decide +kernel))
set_option maxRecDepth 20000 in
theorem lwt_175 : Cond.selects RX0 yX0_may yX0_may ∈ lw_tbl := List.mem_append_right _ (List.mem_of_getElem? (i := 175) (by decide +kernel))
set_option maxRecDepth 20000 in
theorem lwt_176 : Cond.code yX0_may cX0_may 7 (some .int) ∈ lw_tbl := List.mem_append_right _ (List.mem_of_getElem? (i := 176) rfl)
set_option maxRecDepth 20000 in
theorem lwt_180 : Cond.methodLink RL 69 yX0_kept ∈ lw_tbl := List.mem_append_right _ (List.mem_of_getElem? (i := 180) (by decide +kernel))
set_option maxRecDepth 20000 in
theorem lwt_181 : Cond.instanceMethod yX0_kept ∈ lw_tbl := List.mem_append_right _ (List.mem_of_getElem? (i := 181) (by decide +kernel))
set_option maxRecDepth 20000 in
theorem lwt_182 : Cond.selects RX0 yX0_kept yX0_kept ∈ lw_tbl := List.mem_append_right _ (List.mem_of_getElem? (i := 182) (by decide +kernel))
set_option maxRecDepth 20000 in
theorem lwt_183 : Cond.code yX0_kept cX0_kept 4 (some .long) ∈ lw_tbl := List.mem_append_right _ (List.mem_of_getElem? (i := 183) rfl)
set_option maxRecDepth 20000 in
theorem lwt_184 : Cond.methodLink RL 74 yX0_failed ∈ lw_tbl := List.mem_append_right _ (List.mem_of_getElem? (i := 184) (by decide +kernel))
set_option maxRecDepth 20000 in
theorem lwt_185 : Cond.instanceMethod yX0_failed ∈ lw_tbl := List.mem_append_right _ (List.mem_of_getElem? (i := 185) (by decide +kernel))
set_option maxRecDepth 20000 in
theorem lwt_186 : Cond.selects RX0 yX0_failed yX0_failed ∈ lw_tbl := List.mem_append_right _ (List.mem_of_getElem? (i := 186) (by decide +kernel))
set_option maxRecDepth 20000 in
theorem lwt_187 : Cond.code yX0_failed cX0_failed 1 (some .int) ∈ lw_tbl := List.mem_append_right _ (List.mem_of_getElem? (i := 187) rfl)
set_option maxRecDepth 20000 in
theorem lwt_188 : Cond.methodLink RL 9 yL_cell ∈ lw_tbl := List.mem_append_right _ (List.mem_of_getElem? (i := 188) (by decide +kernel))
set_option maxRecDepth 20000 in
theorem lwt_189 : Cond.static yL_cell ∈ lw_tbl := List.mem_append_right _ (List.mem_of_getElem? (i := 189) (by decide +kernel))
set_option maxRecDepth 20000 in
theorem lwt_190 : Cond.code yL_cell cL_cell 2 (some .int) ∈ lw_tbl := List.mem_append_right _ (List.mem_of_getElem? (i := 190) rfl)
set_option maxRecDepth 20000 in
theorem lwt_191 : Cond.classLink RL 18 RX1 ∈ lw_tbl := List.mem_append_right _ (List.mem_of_getElem? (i := 191) (by decide +kernel))
set_option maxRecDepth 20000 in
theorem lwt_192 : Cond.instantiable RX1 14 ∈ lw_tbl := List.mem_append_right _ (List.mem_of_getElem? (i := 192) (by decide +kernel))
set_option maxRecDepth 20000 in
theorem lwt_193 : Cond.methodLink RL 20 yX1_init ∈ lw_tbl := List.mem_append_right _ (List.mem_of_getElem? (i := 193) (by decide +kernel))
set_option maxRecDepth 20000 in
theorem lwt_194 : Cond.instanceMethod yX1_init ∈ lw_tbl := List.mem_append_right _ (List.mem_of_getElem? (i := 194) (by decide +kernel))
set_option maxRecDepth 20000 in
theorem lwt_195 : Cond.code yX1_init cX1_init 3 none ∈ lw_tbl := List.mem_append_right _ (List.mem_of_getElem? (i := 195) rfl)
set_option maxRecDepth 20000 in
theorem lwt_244 : Cond.methodLink RL 25 yX1_put ∈ lw_tbl := List.mem_append_right _ (List.mem_of_getElem? (i := 244) (by decide +kernel))
set_option maxRecDepth 20000 in
theorem lwt_245 : Cond.instanceMethod yX1_put ∈ lw_tbl := List.mem_append_right _ (List.mem_of_getElem? (i := 245) (by decide +kernel))
set_option maxRecDepth 20000 in
theorem lwt_246 : Cond.selects RX1 yX1_put yX1_put ∈ lw_tbl := List.mem_append_right _ (List.mem_of_getElem? (i := 246) (by decide +kernel))
set_option maxRecDepth 20000 in
theorem lwt_247 : Cond.code yX1_put cX1_put 3 (some .boolean) ∈ lw_tbl := List.mem_append_right _ (List.mem_of_getElem? (i := 247) rfl)
set_option maxRecDepth 20000 in
theorem lwt_252 : Cond.methodLink RL 29 yX1_entry ∈ lw_tbl := List.mem_append_right _ (List.mem_of_getElem? (i := 252) (by decide +kernel))
set_option maxRecDepth 20000 in
theorem lwt_253 : Cond.instanceMethod yX1_entry ∈ lw_tbl := List.mem_append_right _ (List.mem_of_getElem? (i := 253) (by decide +kernel))
set_option maxRecDepth 20000 in
theorem lwt_254 : Cond.selects RX1 yX1_entry yX1_entry ∈ lw_tbl := List.mem_append_right _ (List.mem_of_getElem? (i := 254) (by decide +kernel))
set_option maxRecDepth 20000 in
theorem lwt_255 : Cond.code yX1_entry cX1_entry 3 (some .boolean) ∈ lw_tbl := List.mem_append_right _ (List.mem_of_getElem? (i := 255) rfl)
set_option maxRecDepth 20000 in
theorem lwt_264 : Cond.methodLink RL 34 yX1_entryOf ∈ lw_tbl := List.mem_append_right _ (List.mem_of_getElem? (i := 264) (by decide +kernel))
set_option maxRecDepth 20000 in
theorem lwt_265 : Cond.instanceMethod yX1_entryOf ∈ lw_tbl := List.mem_append_right _ (List.mem_of_getElem? (i := 265) (by decide +kernel))
set_option maxRecDepth 20000 in
theorem lwt_266 : Cond.selects RX1 yX1_entryOf yX1_entryOf ∈ lw_tbl := List.mem_append_right _ (List.mem_of_getElem? (i := 266) (by decide +kernel))
set_option maxRecDepth 20000 in
theorem lwt_267 : Cond.code yX1_entryOf cX1_entryOf 2 (some .long) ∈ lw_tbl := List.mem_append_right _ (List.mem_of_getElem? (i := 267) rfl)
set_option maxRecDepth 20000 in
theorem lwt_274 : Cond.methodLink RL 39 yX1_region ∈ lw_tbl := List.mem_append_right _ (List.mem_of_getElem? (i := 274) (by decide +kernel))
set_option maxRecDepth 20000 in
theorem lwt_275 : Cond.instanceMethod yX1_region ∈ lw_tbl := List.mem_append_right _ (List.mem_of_getElem? (i := 275) (by decide +kernel))
set_option maxRecDepth 20000 in
theorem lwt_276 : Cond.selects RX1 yX1_region yX1_region ∈ lw_tbl := List.mem_append_right _ (List.mem_of_getElem? (i := 276) (by decide +kernel))
set_option maxRecDepth 20000 in
theorem lwt_277 : Cond.code yX1_region cX1_region 4 (some .boolean) ∈ lw_tbl := List.mem_append_right _ (List.mem_of_getElem? (i := 277) rfl)
set_option maxRecDepth 20000 in
theorem lwt_283 : Cond.methodLink RL 44 yX1_map ∈ lw_tbl := List.mem_append_right _ (List.mem_of_getElem? (i := 283) (by decide +kernel))
set_option maxRecDepth 20000 in
theorem lwt_284 : Cond.instanceMethod yX1_map ∈ lw_tbl := List.mem_append_right _ (List.mem_of_getElem? (i := 284) (by decide +kernel))
set_option maxRecDepth 20000 in
theorem lwt_285 : Cond.selects RX1 yX1_map yX1_map ∈ lw_tbl := List.mem_append_right _ (List.mem_of_getElem? (i := 285) (by decide +kernel))
set_option maxRecDepth 20000 in
theorem lwt_286 : Cond.code yX1_map cX1_map 2 none ∈ lw_tbl := List.mem_append_right _ (List.mem_of_getElem? (i := 286) rfl)
set_option maxRecDepth 20000 in
theorem lwt_287 : Cond.methodLink RL 49 yX1_drop ∈ lw_tbl := List.mem_append_right _ (List.mem_of_getElem? (i := 287) (by decide +kernel))
set_option maxRecDepth 20000 in
theorem lwt_288 : Cond.instanceMethod yX1_drop ∈ lw_tbl := List.mem_append_right _ (List.mem_of_getElem? (i := 288) (by decide +kernel))
set_option maxRecDepth 20000 in
theorem lwt_289 : Cond.selects RX1 yX1_drop yX1_drop ∈ lw_tbl := List.mem_append_right _ (List.mem_of_getElem? (i := 289) (by decide +kernel))
set_option maxRecDepth 20000 in
theorem lwt_290 : Cond.code yX1_drop cX1_drop 3 (some .boolean) ∈ lw_tbl := List.mem_append_right _ (List.mem_of_getElem? (i := 290) rfl)
set_option maxRecDepth 20000 in
theorem lwt_305 : Cond.methodLink RL 54 yX1_read ∈ lw_tbl := List.mem_append_right _ (List.mem_of_getElem? (i := 305) (by decide +kernel))
set_option maxRecDepth 20000 in
theorem lwt_306 : Cond.instanceMethod yX1_read ∈ lw_tbl := List.mem_append_right _ (List.mem_of_getElem? (i := 306) (by decide +kernel))
set_option maxRecDepth 20000 in
theorem lwt_307 : Cond.selects RX1 yX1_read yX1_read ∈ lw_tbl := List.mem_append_right _ (List.mem_of_getElem? (i := 307) (by decide +kernel))
set_option maxRecDepth 20000 in
theorem lwt_308 : Cond.code yX1_read cX1_read 8 (some .long) ∈ lw_tbl := List.mem_append_right _ (List.mem_of_getElem? (i := 308) rfl)
set_option maxRecDepth 20000 in
theorem lwt_339 : Cond.methodLink RL 59 yX1_write ∈ lw_tbl := List.mem_append_right _ (List.mem_of_getElem? (i := 339) (by decide +kernel))
set_option maxRecDepth 20000 in
theorem lwt_340 : Cond.instanceMethod yX1_write ∈ lw_tbl := List.mem_append_right _ (List.mem_of_getElem? (i := 340) (by decide +kernel))
set_option maxRecDepth 20000 in
theorem lwt_341 : Cond.selects RX1 yX1_write yX1_write ∈ lw_tbl := List.mem_append_right _ (List.mem_of_getElem? (i := 341) (by decide +kernel))
set_option maxRecDepth 20000 in
theorem lwt_342 : Cond.code yX1_write cX1_write 7 (some .int) ∈ lw_tbl := List.mem_append_right _ (List.mem_of_getElem? (i := 342) rfl)
set_option maxRecDepth 20000 in
theorem lwt_343 : Cond.methodLink RL 64 yX1_where ∈ lw_tbl := List.mem_append_right _ (List.mem_of_getElem? (i := 343) (by decide +kernel))
set_option maxRecDepth 20000 in
theorem lwt_344 : Cond.instanceMethod yX1_where ∈ lw_tbl := List.mem_append_right _ (List.mem_of_getElem? (i := 344) (by decide +kernel))
set_option maxRecDepth 20000 in
theorem lwt_345 : Cond.selects RX1 yX1_where yX1_where ∈ lw_tbl := List.mem_append_right _ (List.mem_of_getElem? (i := 345) (by decide +kernel))
set_option maxRecDepth 20000 in
theorem lwt_346 : Cond.code yX1_where cX1_where 5 (some .int) ∈ lw_tbl := List.mem_append_right _ (List.mem_of_getElem? (i := 346) rfl)
set_option maxRecDepth 20000 in
theorem lwt_347 : Cond.methodLink RL 68 yX1_may ∈ lw_tbl := List.mem_append_right _ (List.mem_of_getElem? (i := 347) (by decide +kernel))
set_option maxRecDepth 20000 in
theorem lwt_348 : Cond.instanceMethod yX1_may ∈ lw_tbl := List.mem_append_right _ (List.mem_of_getElem? (i := 348) (by decide +kernel))
set_option maxRecDepth 20000 in
theorem lwt_349 : Cond.selects RX1 yX1_may yX1_may ∈ lw_tbl := List.mem_append_right _ (List.mem_of_getElem? (i := 349) (by decide +kernel))
set_option maxRecDepth 20000 in
theorem lwt_350 : Cond.code yX1_may cX1_may 5 (some .int) ∈ lw_tbl := List.mem_append_right _ (List.mem_of_getElem? (i := 350) rfl)
set_option maxRecDepth 20000 in
theorem lwt_351 : Cond.methodLink RL 73 yX1_kept ∈ lw_tbl := List.mem_append_right _ (List.mem_of_getElem? (i := 351) (by decide +kernel))
set_option maxRecDepth 20000 in
theorem lwt_352 : Cond.instanceMethod yX1_kept ∈ lw_tbl := List.mem_append_right _ (List.mem_of_getElem? (i := 352) (by decide +kernel))
set_option maxRecDepth 20000 in
theorem lwt_353 : Cond.selects RX1 yX1_kept yX1_kept ∈ lw_tbl := List.mem_append_right _ (List.mem_of_getElem? (i := 353) (by decide +kernel))
set_option maxRecDepth 20000 in
theorem lwt_354 : Cond.code yX1_kept cX1_kept 4 (some .long) ∈ lw_tbl := List.mem_append_right _ (List.mem_of_getElem? (i := 354) rfl)
set_option maxRecDepth 20000 in
theorem lwt_355 : Cond.methodLink RL 78 yX1_failed ∈ lw_tbl := List.mem_append_right _ (List.mem_of_getElem? (i := 355) (by decide +kernel))
set_option maxRecDepth 20000 in
theorem lwt_356 : Cond.instanceMethod yX1_failed ∈ lw_tbl := List.mem_append_right _ (List.mem_of_getElem? (i := 356) (by decide +kernel))
set_option maxRecDepth 20000 in
theorem lwt_357 : Cond.selects RX1 yX1_failed yX1_failed ∈ lw_tbl := List.mem_append_right _ (List.mem_of_getElem? (i := 357) (by decide +kernel))
set_option maxRecDepth 20000 in
theorem lwt_358 : Cond.code yX1_failed cX1_failed 1 (some .int) ∈ lw_tbl := List.mem_append_right _ (List.mem_of_getElem? (i := 358) rfl)
theorem gL_X0_init : GoodIn lw_tbl wsX0_init := bg_I bX0_good bX0_in lwt_8
theorem gL_X0_put : GoodIn lw_tbl (wsV RL 21 RX0 yX0_put wsX0_put) := bg_V bX0_good bX0_in lwt_45 lwt_46 lwt_47 lwt_1 lwt_48
theorem gL_X0_entry : GoodIn lw_tbl (wsV RL 26 RX0 yX0_entry wsX0_entry) := bg_V bX0_good bX0_in lwt_53 lwt_54 lwt_55 lwt_1 lwt_56
theorem gL_X0_entryOf : GoodIn lw_tbl (wsV RL 30 RX0 yX0_entryOf wsX0_entryOf) := bg_V bX0_good bX0_in lwt_57 lwt_58 lwt_59 lwt_1 lwt_60
theorem gL_X0_region : GoodIn lw_tbl (wsV RL 35 RX0 yX0_region wsX0_region) := bg_V bX0_good bX0_in lwt_71 lwt_72 lwt_73 lwt_1 lwt_74
theorem gL_X0_map : GoodIn lw_tbl (wsV RL 40 RX0 yX0_map wsX0_map) := bg_V bX0_good bX0_in lwt_80 lwt_81 lwt_82 lwt_1 lwt_83
theorem gL_X0_drop : GoodIn lw_tbl (wsV RL 45 RX0 yX0_drop wsX0_drop) := bg_V bX0_good bX0_in lwt_84 lwt_85 lwt_86 lwt_1 lwt_87
theorem gL_X0_read : GoodIn lw_tbl (wsV RL 50 RX0 yX0_read wsX0_read) := bg_V bX0_good bX0_in lwt_101 lwt_102 lwt_103 lwt_1 lwt_104
theorem gL_X0_write : GoodIn lw_tbl (wsV RL 55 RX0 yX0_write wsX0_write) := bg_V bX0_good bX0_in lwt_165 lwt_166 lwt_167 lwt_1 lwt_168
theorem gL_X0_where : GoodIn lw_tbl (wsV RL 60 RX0 yX0_where wsX0_where) := bg_V bX0_good bX0_in lwt_169 lwt_170 lwt_171 lwt_1 lwt_172
theorem gL_X0_may : GoodIn lw_tbl (wsV RL 65 RX0 yX0_may wsX0_may) := bg_V bX0_good bX0_in lwt_173 lwt_174 lwt_175 lwt_1 lwt_176
theorem gL_X0_kept : GoodIn lw_tbl (wsV RL 69 RX0 yX0_kept wsX0_kept) := bg_V bX0_good bX0_in lwt_180 lwt_181 lwt_182 lwt_1 lwt_183
theorem gL_X0_failed : GoodIn lw_tbl (wsV RL 74 RX0 yX0_failed wsX0_failed) := bg_V bX0_good bX0_in lwt_184 lwt_185 lwt_186 lwt_1 lwt_187
theorem gL_L_cell : GoodIn lw_tbl (va_wsS RL 9 yL_cell wsL_cell) := bg_S (fun _ h => absurd h List.not_mem_nil) (fun _ h => absurd h List.not_mem_nil) lwt_188 lwt_189 lwt_0 lwt_190
theorem gL_X1_init : GoodIn lw_tbl wsX1_init := bg_I bX1_good bX1_in lwt_195
theorem gL_X1_put : GoodIn lw_tbl (wsV RL 25 RX1 yX1_put wsX1_put) := bg_V bX1_good bX1_in lwt_244 lwt_245 lwt_246 lwt_3 lwt_247
theorem gL_X1_entry : GoodIn lw_tbl (wsV RL 29 RX1 yX1_entry wsX1_entry) := bg_V bX1_good bX1_in lwt_252 lwt_253 lwt_254 lwt_3 lwt_255
theorem gL_X1_entryOf : GoodIn lw_tbl (wsV RL 34 RX1 yX1_entryOf wsX1_entryOf) := bg_V bX1_good bX1_in lwt_264 lwt_265 lwt_266 lwt_3 lwt_267
theorem gL_X1_region : GoodIn lw_tbl (wsV RL 39 RX1 yX1_region wsX1_region) := bg_V bX1_good bX1_in lwt_274 lwt_275 lwt_276 lwt_3 lwt_277
theorem gL_X1_map : GoodIn lw_tbl (wsV RL 44 RX1 yX1_map wsX1_map) := bg_V bX1_good bX1_in lwt_283 lwt_284 lwt_285 lwt_3 lwt_286
theorem gL_X1_drop : GoodIn lw_tbl (wsV RL 49 RX1 yX1_drop wsX1_drop) := bg_V bX1_good bX1_in lwt_287 lwt_288 lwt_289 lwt_3 lwt_290
theorem gL_X1_read : GoodIn lw_tbl (wsV RL 54 RX1 yX1_read wsX1_read) := bg_V bX1_good bX1_in lwt_305 lwt_306 lwt_307 lwt_3 lwt_308
theorem gL_X1_write : GoodIn lw_tbl (wsV RL 59 RX1 yX1_write wsX1_write) := bg_V bX1_good bX1_in lwt_339 lwt_340 lwt_341 lwt_3 lwt_342
theorem gL_X1_where : GoodIn lw_tbl (wsV RL 64 RX1 yX1_where wsX1_where) := bg_V bX1_good bX1_in lwt_343 lwt_344 lwt_345 lwt_3 lwt_346
theorem gL_X1_may : GoodIn lw_tbl (wsV RL 68 RX1 yX1_may wsX1_may) := bg_V bX1_good bX1_in lwt_347 lwt_348 lwt_349 lwt_3 lwt_350
theorem gL_X1_kept : GoodIn lw_tbl (wsV RL 73 RX1 yX1_kept wsX1_kept) := bg_V bX1_good bX1_in lwt_351 lwt_352 lwt_353 lwt_3 lwt_354
theorem gL_X1_failed : GoodIn lw_tbl (wsV RL 78 RX1 yX1_failed wsX1_failed) := bg_V bX1_good bX1_in lwt_355 lwt_356 lwt_357 lwt_3 lwt_358
