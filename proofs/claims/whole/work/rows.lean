section
-- ===== PART A: goes FIRST, ahead of the names: the tables' words, and 'selects' of the private methods out of them =====
/-- a private method of a class that the tables say can be made, by its rows of tables_1 -/
def lw_okq (q : MethodName × Nat) : Prop := (q.1.cls ≠ "java/lang/invoke/MethodHandle" ∧ q.1.cls ≠ "java/lang/invoke/VarHandle") ∧ Cond.instantiable q.1.cls q.2 ∈ tables_1 ∧ Cond.privateMethod q.1 ∈ tables_1 ∧ Cond.instanceMethod q.1 ∈ tables_1
theorem lw_p0 : lw_okq (⟨"CharacterRows", "wrongInOldKind", "()I"⟩, 11) := ⟨⟨by decide +kernel, by decide +kernel⟩, List.mem_of_getElem? (i := 11) (by decide +kernel), List.mem_of_getElem? (i := 99) (by decide +kernel), List.mem_of_getElem? (i := 100) (by decide +kernel)⟩
theorem lw_p1 : lw_okq (⟨"CharacterRows", "setOfEscape", "(I)I"⟩, 11) := ⟨⟨by decide +kernel, by decide +kernel⟩, List.mem_of_getElem? (i := 11) (by decide +kernel), List.mem_of_getElem? (i := 107) (by decide +kernel), List.mem_of_getElem? (i := 108) (by decide +kernel)⟩
theorem lw_p2 : lw_okq (⟨"CharacterRows", "wrongInNewKind", "()I"⟩, 11) := ⟨⟨by decide +kernel, by decide +kernel⟩, List.mem_of_getElem? (i := 11) (by decide +kernel), List.mem_of_getElem? (i := 139) (by decide +kernel), List.mem_of_getElem? (i := 140) (by decide +kernel)⟩
theorem lw_p3 : lw_okq (⟨"CharacterRows", "codeOfNewBytes", "(I)I"⟩, 11) := ⟨⟨by decide +kernel, by decide +kernel⟩, List.mem_of_getElem? (i := 11) (by decide +kernel), List.mem_of_getElem? (i := 143) (by decide +kernel), List.mem_of_getElem? (i := 144) (by decide +kernel)⟩
theorem lw_p4 : lw_okq (⟨"CharacterRows$Codes", "moveAhead", "(I)V"⟩, 2) := ⟨⟨by decide +kernel, by decide +kernel⟩, List.mem_of_getElem? (i := 34) (by decide +kernel), List.mem_of_getElem? (i := 185) (by decide +kernel), List.mem_of_getElem? (i := 186) (by decide +kernel)⟩
theorem lw_p5 : lw_okq (⟨"CharacterRows$Codes", "put", "(II)V"⟩, 2) := ⟨⟨by decide +kernel, by decide +kernel⟩, List.mem_of_getElem? (i := 34) (by decide +kernel), List.mem_of_getElem? (i := 192) (by decide +kernel), List.mem_of_getElem? (i := 193) (by decide +kernel)⟩
theorem lw_p6 : lw_okq (⟨"CharacterRows", "writeOldKind", "()V"⟩, 11) := ⟨⟨by decide +kernel, by decide +kernel⟩, List.mem_of_getElem? (i := 11) (by decide +kernel), List.mem_of_getElem? (i := 205) (by decide +kernel), List.mem_of_getElem? (i := 206) (by decide +kernel)⟩
theorem lw_p7 : lw_okq (⟨"CharacterRows", "tell", "(II)V"⟩, 11) := ⟨⟨by decide +kernel, by decide +kernel⟩, List.mem_of_getElem? (i := 11) (by decide +kernel), List.mem_of_getElem? (i := 209) (by decide +kernel), List.mem_of_getElem? (i := 210) (by decide +kernel)⟩
theorem lw_p8 : lw_okq (⟨"CharacterRows", "writeOldCode", "(II)I"⟩, 11) := ⟨⟨by decide +kernel, by decide +kernel⟩, List.mem_of_getElem? (i := 11) (by decide +kernel), List.mem_of_getElem? (i := 217) (by decide +kernel), List.mem_of_getElem? (i := 218) (by decide +kernel)⟩
theorem lw_p9 : lw_okq (⟨"CharacterRows", "writeNewKind", "()V"⟩, 11) := ⟨⟨by decide +kernel, by decide +kernel⟩, List.mem_of_getElem? (i := 11) (by decide +kernel), List.mem_of_getElem? (i := 224) (by decide +kernel), List.mem_of_getElem? (i := 225) (by decide +kernel)⟩
theorem lw_p10 : lw_okq (⟨"CharacterRows", "writeNewCode", "(I)V"⟩, 11) := ⟨⟨by decide +kernel, by decide +kernel⟩, List.mem_of_getElem? (i := 11) (by decide +kernel), List.mem_of_getElem? (i := 228) (by decide +kernel), List.mem_of_getElem? (i := 229) (by decide +kernel)⟩
theorem lw_p11 : lw_okq (⟨"java/lang/Throwable", "fillInStackTrace", "(I)Ljava/lang/Throwable;"⟩, 6) := ⟨⟨by decide +kernel, by decide +kernel⟩, List.mem_of_getElem? (i := 340) (by decide +kernel), List.mem_of_getElem? (i := 338) (by decide +kernel), List.mem_of_getElem? (i := 339) (by decide +kernel)⟩
theorem lw_p12 : lw_okq (⟨"CharacterRowsModel", "readOld", "()I"⟩, 15) := ⟨⟨by decide +kernel, by decide +kernel⟩, List.mem_of_getElem? (i := 372) (by decide +kernel), List.mem_of_getElem? (i := 436) (by decide +kernel), List.mem_of_getElem? (i := 437) (by decide +kernel)⟩
theorem lw_p13 : lw_okq (⟨"CharacterRowsModel", "bad", "(I)I"⟩, 15) := ⟨⟨by decide +kernel, by decide +kernel⟩, List.mem_of_getElem? (i := 372) (by decide +kernel), List.mem_of_getElem? (i := 440) (by decide +kernel), List.mem_of_getElem? (i := 441) (by decide +kernel)⟩
theorem lw_p14 : lw_okq (⟨"CharacterRowsModel", "readNew", "()I"⟩, 15) := ⟨⟨by decide +kernel, by decide +kernel⟩, List.mem_of_getElem? (i := 372) (by decide +kernel), List.mem_of_getElem? (i := 450) (by decide +kernel), List.mem_of_getElem? (i := 451) (by decide +kernel)⟩
theorem lw_p15 : lw_okq (⟨"CharacterRowsModel", "goesOn", "(I)Z"⟩, 15) := ⟨⟨by decide +kernel, by decide +kernel⟩, List.mem_of_getElem? (i := 372) (by decide +kernel), List.mem_of_getElem? (i := 454) (by decide +kernel), List.mem_of_getElem? (i := 455) (by decide +kernel)⟩
def lw_privs_1 : List (MethodName × Nat) := [(⟨"CharacterRows", "wrongInOldKind", "()I"⟩, 11), (⟨"CharacterRows", "setOfEscape", "(I)I"⟩, 11), (⟨"CharacterRows", "wrongInNewKind", "()I"⟩, 11), (⟨"CharacterRows", "codeOfNewBytes", "(I)I"⟩, 11), (⟨"CharacterRows$Codes", "moveAhead", "(I)V"⟩, 2), (⟨"CharacterRows$Codes", "put", "(II)V"⟩, 2), (⟨"CharacterRows", "writeOldKind", "()V"⟩, 11), (⟨"CharacterRows", "tell", "(II)V"⟩, 11), (⟨"CharacterRows", "writeOldCode", "(II)I"⟩, 11), (⟨"CharacterRows", "writeNewKind", "()V"⟩, 11), (⟨"CharacterRows", "writeNewCode", "(I)V"⟩, 11), (⟨"java/lang/Throwable", "fillInStackTrace", "(I)Ljava/lang/Throwable;"⟩, 6), (⟨"CharacterRowsModel", "readOld", "()I"⟩, 15), (⟨"CharacterRowsModel", "bad", "(I)I"⟩, 15), (⟨"CharacterRowsModel", "readNew", "()I"⟩, 15), (⟨"CharacterRowsModel", "goesOn", "(I)Z"⟩, 15)]
theorem lw_r1 : ∀ q ∈ lw_privs_1, lw_okq q := List.forall_mem_cons.mpr ⟨lw_p0, List.forall_mem_cons.mpr ⟨lw_p1, List.forall_mem_cons.mpr ⟨lw_p2, List.forall_mem_cons.mpr ⟨lw_p3, List.forall_mem_cons.mpr ⟨lw_p4, List.forall_mem_cons.mpr ⟨lw_p5, List.forall_mem_cons.mpr ⟨lw_p6, List.forall_mem_cons.mpr ⟨lw_p7, List.forall_mem_cons.mpr ⟨lw_p8, List.forall_mem_cons.mpr ⟨lw_p9, List.forall_mem_cons.mpr ⟨lw_p10, List.forall_mem_cons.mpr ⟨lw_p11, List.forall_mem_cons.mpr ⟨lw_p12, List.forall_mem_cons.mpr ⟨lw_p13, List.forall_mem_cons.mpr ⟨lw_p14, List.forall_mem_cons.mpr ⟨lw_p15, fun _ h => absurd h List.not_mem_nil⟩⟩⟩⟩⟩⟩⟩⟩⟩⟩⟩⟩⟩⟩⟩⟩
theorem lw_p16 : lw_okq (⟨"CharacterRowsModel", "writeOld", "()V"⟩, 15) := ⟨⟨by decide +kernel, by decide +kernel⟩, List.mem_of_getElem? (i := 372) (by decide +kernel), List.mem_of_getElem? (i := 483) (by decide +kernel), List.mem_of_getElem? (i := 484) (by decide +kernel)⟩
theorem lw_p17 : lw_okq (⟨"CharacterRowsModel", "putSet", "(II)I"⟩, 15) := ⟨⟨by decide +kernel, by decide +kernel⟩, List.mem_of_getElem? (i := 372) (by decide +kernel), List.mem_of_getElem? (i := 487) (by decide +kernel), List.mem_of_getElem? (i := 488) (by decide +kernel)⟩
theorem lw_p18 : lw_okq (⟨"CharacterRowsModel", "put", "(I)V"⟩, 15) := ⟨⟨by decide +kernel, by decide +kernel⟩, List.mem_of_getElem? (i := 372) (by decide +kernel), List.mem_of_getElem? (i := 491) (by decide +kernel), List.mem_of_getElem? (i := 492) (by decide +kernel)⟩
theorem lw_p19 : lw_okq (⟨"CharacterRowsModel", "tell", "(I)V"⟩, 15) := ⟨⟨by decide +kernel, by decide +kernel⟩, List.mem_of_getElem? (i := 372) (by decide +kernel), List.mem_of_getElem? (i := 495) (by decide +kernel), List.mem_of_getElem? (i := 496) (by decide +kernel)⟩
theorem lw_p20 : lw_okq (⟨"CharacterRowsModel", "base", "(I)I"⟩, 15) := ⟨⟨by decide +kernel, by decide +kernel⟩, List.mem_of_getElem? (i := 372) (by decide +kernel), List.mem_of_getElem? (i := 532) (by decide +kernel), List.mem_of_getElem? (i := 533) (by decide +kernel)⟩
def lw_privs_2 : List (MethodName × Nat) := [(⟨"CharacterRowsModel", "writeOld", "()V"⟩, 15), (⟨"CharacterRowsModel", "putSet", "(II)I"⟩, 15), (⟨"CharacterRowsModel", "put", "(I)V"⟩, 15), (⟨"CharacterRowsModel", "tell", "(I)V"⟩, 15), (⟨"CharacterRowsModel", "base", "(I)I"⟩, 15)]
theorem lw_r2 : ∀ q ∈ lw_privs_2, lw_okq q := List.forall_mem_cons.mpr ⟨lw_p16, List.forall_mem_cons.mpr ⟨lw_p17, List.forall_mem_cons.mpr ⟨lw_p18, List.forall_mem_cons.mpr ⟨lw_p19, List.forall_mem_cons.mpr ⟨lw_p20, fun _ h => absurd h List.not_mem_nil⟩⟩⟩⟩⟩
def lw_privs : List (MethodName × Nat) := lw_privs_1 ++ (lw_privs_2)
def lw_tbl : List Cond := k2_sels lw_privs ++ tables_1
theorem lw_privs_ok : ∀ q ∈ lw_privs, lw_okq q := by
  show ∀ q ∈ lw_privs_1 ++ (lw_privs_2), lw_okq q
  exact List.forall_mem_append.mpr ⟨lw_r1, lw_r2⟩
-- ===== end of PART A; then your names; then what follows =====
end
section
/-! ===== BEGIN words of one list among another's, by their places ===== -/
theorem goodIn_r {big : List Cond} (ws : List Cond) (ps : List Nat) (hp : ws = ps.filterMap (fun i => big[i]?)) (h : ws.all goodWord = true) : GoodIn big ws := by
  intro w hw
  have h1 := List.all_eq_true.mp h w hw
  rw [hp] at hw
  obtain ⟨i, -, hi⟩ := List.mem_filterMap.mp hw
  have hm : w ∈ big := by first | exact List.mem_of_getElem? hi | exact List.getElem?_mem hi
  exact ⟨hm, good_of_word h1⟩
theorem goodIn_app {big a b : List Cond} (ha : GoodIn big a) (hb : GoodIn big b) : GoodIn big (a ++ b) := fun w h => (List.mem_append.mp h).elim (ha w) (hb w)
theorem goodIn_ca {big a b : List Cond} {c : Cond} (ha : GoodIn big (c :: a)) (hb : GoodIn big b) : GoodIn big (c :: (a ++ b)) := fun w h => (List.mem_cons.mp h).elim (fun e => ha w (List.mem_cons.mpr (Or.inl e))) (fun h => (List.mem_append.mp h).elim (fun h => ha w (List.mem_cons.mpr (Or.inr h))) (hb w))
theorem goodIn_sub {big ws : List Cond} (hm : ∀ w ∈ ws, w ∈ big) (h : ws.all goodWord = true) : GoodIn big ws := fun w hw => ⟨hm w hw, good_of_word (List.all_eq_true.mp h w hw)⟩
/-! ===== END ===== -/

/-! ===== BEGIN printed: names, fields, word lists, decode rows ===== -/
def RX0 : String := "CharacterRows$Codes"
def TX0 : u_T := fun k => match k with
  | 0 => ("CharacterRows$Codes", "codes", "[I", true)
  | _ => ("CharacterRows$Codes", "length", "I", false)
def tyX0 : Nat → FieldType := fun k => match k with
  | 0 => .array .int
  | _ => .int
abbrev wsX00 : List Cond := u_ws RX0 TX0 2
theorem nmX0 : ∀ a, a < 2 → ∀ b, b < 2 → a ≠ b → (TX0 a).2.1 ≠ (TX0 b).2.1 := by decide +kernel
theorem tyX0_ok : ∀ k, k < 2 → parseFieldDescriptor (TX0 k).2.2.1 = some (tyX0 k) := by decide +kernel
abbrev cX0_init : ByteArray := prog_2_method_1_code
def yX0_init : MethodName := ⟨RX0, "<init>", "()V"⟩
abbrev cX0_empty : ByteArray := prog_2_method_2_code
def yX0_empty : MethodName := ⟨RX0, "empty", "()V"⟩
abbrev cX0_add : ByteArray := prog_2_method_3_code
def yX0_add : MethodName := ⟨RX0, "add", "(I)V"⟩
abbrev cX0_addAll : ByteArray := prog_2_method_4_code
def yX0_addAll : MethodName := ⟨RX0, "addAll", "(LCharacterRows$Codes;)V"⟩
abbrev cX0_at : ByteArray := prog_2_method_5_code
def yX0_at : MethodName := ⟨RX0, "at", "(I)I"⟩
abbrev cX0_put : ByteArray := prog_2_method_6_code
def yX0_put : MethodName := ⟨RX0, "put", "(II)V"⟩
abbrev cX0_putInOrder : ByteArray := prog_2_method_7_code
def yX0_putInOrder : MethodName := ⟨RX0, "putInOrder", "()V"⟩
abbrev cX0_moveAhead : ByteArray := prog_2_method_8_code
def yX0_moveAhead : MethodName := ⟨RX0, "moveAhead", "(I)V"⟩
abbrev cX0_takeApart : ByteArray := prog_2_method_9_code
def yX0_takeApart : MethodName := ⟨RX0, "takeApart", "(LCharacterRows$Codes;)V"⟩
abbrev cX0_putTogether : ByteArray := prog_2_method_10_code
def yX0_putTogether : MethodName := ⟨RX0, "putTogether", "()V"⟩
abbrev cX0_placeOfBase : ByteArray := prog_2_method_11_code
def yX0_placeOfBase : MethodName := ⟨RX0, "placeOfBase", "(J)I"⟩
abbrev cX0_bases : ByteArray := prog_2_method_12_code
def yX0_bases : MethodName := ⟨RX0, "bases", "()I"⟩
abbrev cX0_marksBehind : ByteArray := prog_2_method_13_code
def yX0_marksBehind : MethodName := ⟨RX0, "marksBehind", "(I)I"⟩
abbrev cX0_holdsWhat : ByteArray := prog_2_method_14_code
def yX0_holdsWhat : MethodName := ⟨RX0, "holdsWhat", "(LCharacterRows$Codes;)Z"⟩
def RX1 : String := "CharacterRows$Octets"
def TX1 : u_T := fun k => match k with
  | 0 => ("CharacterRows$Octets", "bytes", "[B", true)
  | _ => ("CharacterRows$Octets", "length", "I", false)
def tyX1 : Nat → FieldType := fun k => match k with
  | 0 => .array .byte
  | _ => .int
abbrev wsX10 : List Cond := u_ws RX1 TX1 2
theorem nmX1 : ∀ a, a < 2 → ∀ b, b < 2 → a ≠ b → (TX1 a).2.1 ≠ (TX1 b).2.1 := by decide +kernel
theorem tyX1_ok : ∀ k, k < 2 → parseFieldDescriptor (TX1 k).2.2.1 = some (tyX1 k) := by decide +kernel
abbrev cX1_init : ByteArray := prog_3_method_1_code
def yX1_init : MethodName := ⟨RX1, "<init>", "([B)V"⟩
abbrev cX1_empty : ByteArray := prog_3_method_2_code
def yX1_empty : MethodName := ⟨RX1, "empty", "()V"⟩
abbrev cX1_add : ByteArray := prog_3_method_3_code
def yX1_add : MethodName := ⟨RX1, "add", "(I)V"⟩
abbrev cX1_at : ByteArray := prog_3_method_4_code
def yX1_at : MethodName := ⟨RX1, "at", "(I)I"⟩
def RX2 : String := "CharacterRows"
def TX2 : u_T := fun k => match k with
  | 0 => ("CharacterRows", "collected", "LCharacterRows$Octets;", true)
  | 1 => ("CharacterRows", "written", "LCharacterRows$Octets;", true)
  | 2 => ("CharacterRows", "text", "LCharacterRows$Codes;", false)
  | 3 => ("CharacterRows", "other", "LCharacterRows$Codes;", false)
  | 4 => ("CharacterRows", "fresh", "LCharacterRows$Codes;", false)
  | 5 => ("CharacterRows", "apart", "LCharacterRows$Codes;", false)
  | 6 => ("CharacterRows", "otherApart", "LCharacterRows$Codes;", true)
  | 7 => ("CharacterRows", "waitingMarks", "LCharacterRows$Codes;", true)
  | 8 => ("CharacterRows", "toldCodes", "LCharacterRows$Codes;", true)
  | 9 => ("CharacterRows", "toldPlaces", "LCharacterRows$Codes;", true)
  | _ => ("CharacterRows", "standIn", "I", false)
def tyX2 : Nat → FieldType := fun k => match k with
  | 0 => .object "CharacterRows$Octets"
  | 1 => .object "CharacterRows$Octets"
  | 2 => .object "CharacterRows$Codes"
  | 3 => .object "CharacterRows$Codes"
  | 4 => .object "CharacterRows$Codes"
  | 5 => .object "CharacterRows$Codes"
  | 6 => .object "CharacterRows$Codes"
  | 7 => .object "CharacterRows$Codes"
  | 8 => .object "CharacterRows$Codes"
  | 9 => .object "CharacterRows$Codes"
  | _ => .int
abbrev wsX20 : List Cond := u_ws RX2 TX2 11
theorem nmX2 : ∀ a, a < 11 → ∀ b, b < 11 → a ≠ b → (TX2 a).2.1 ≠ (TX2 b).2.1 := by decide +kernel
theorem tyX2_ok : ∀ k, k < 11 → parseFieldDescriptor (TX2 k).2.2.1 = some (tyX2 k) := by decide +kernel
abbrev cX2_init : ByteArray := prog_1_method_1_code
def yX2_init : MethodName := ⟨RX2, "<init>", "()V"⟩
abbrev cX2_octet : ByteArray := prog_1_method_2_code
def yX2_octet : MethodName := ⟨RX2, "octet", "(B)V"⟩
abbrev cX2_read : ByteArray := prog_1_method_3_code
def yX2_read : MethodName := ⟨RX2, "read", "(I)I"⟩
abbrev cX2_character : ByteArray := prog_1_method_4_code
def yX2_character : MethodName := ⟨RX2, "character", "(I)I"⟩
abbrev cX2_write : ByteArray := prog_1_method_5_code
def yX2_write : MethodName := ⟨RX2, "write", "(I)I"⟩
abbrev cX2_octet2 : ByteArray := prog_1_method_6_code
def yX2_octet2 : MethodName := ⟨RX2, "octet2", "(I)B"⟩
abbrev cX2_compose : ByteArray := prog_1_method_7_code
def yX2_compose : MethodName := ⟨RX2, "compose", "(I)I"⟩
abbrev cX2_told : ByteArray := prog_1_method_8_code
def yX2_told : MethodName := ⟨RX2, "told", "(II)I"⟩
abbrev cX2_stand : ByteArray := prog_1_method_9_code
def yX2_stand : MethodName := ⟨RX2, "stand", "(I)I"⟩
abbrev cX2_nonfiling : ByteArray := prog_1_method_10_code
def yX2_nonfiling : MethodName := ⟨RX2, "nonfiling", "(II)I"⟩
abbrev cX2_mark : ByteArray := prog_1_method_11_code
def yX2_mark : MethodName := ⟨RX2, "mark", "(I)I"⟩
abbrev cX2_row : ByteArray := prog_1_method_12_code
def yX2_row : MethodName := ⟨RX2, "row", "(II)I"⟩
abbrev cX2_same : ByteArray := prog_1_method_13_code
def yX2_same : MethodName := ⟨RX2, "same", "(I)Z"⟩
abbrev cX2_wrongInOldKind : ByteArray := prog_1_method_14_code
def yX2_wrongInOldKind : MethodName := ⟨RX2, "wrongInOldKind", "()I"⟩
abbrev cX2_setOfEscape : ByteArray := prog_1_method_15_code
def yX2_setOfEscape : MethodName := ⟨RX2, "setOfEscape", "(I)I"⟩
abbrev cX2_codeOfOldByte : ByteArray := prog_1_method_16_code
def yX2_codeOfOldByte : MethodName := ⟨RX2, "codeOfOldByte", "(II)I"⟩
abbrev cX2_wrongInNewKind : ByteArray := prog_1_method_17_code
def yX2_wrongInNewKind : MethodName := ⟨RX2, "wrongInNewKind", "()I"⟩
abbrev cX2_codeOfNewBytes : ByteArray := prog_1_method_18_code
def yX2_codeOfNewBytes : MethodName := ⟨RX2, "codeOfNewBytes", "(I)I"⟩
abbrev cX2_bytesBehindFirst : ByteArray := prog_1_method_19_code
def yX2_bytesBehindFirst : MethodName := ⟨RX2, "bytesBehindFirst", "(I)I"⟩
abbrev cX2_writeOldKind : ByteArray := prog_1_method_20_code
def yX2_writeOldKind : MethodName := ⟨RX2, "writeOldKind", "()V"⟩
abbrev cX2_tell : ByteArray := prog_1_method_21_code
def yX2_tell : MethodName := ⟨RX2, "tell", "(II)V"⟩
abbrev cX2_writeOldCode : ByteArray := prog_1_method_22_code
def yX2_writeOldCode : MethodName := ⟨RX2, "writeOldCode", "(II)I"⟩
abbrev cX2_writeNewKind : ByteArray := prog_1_method_23_code
def yX2_writeNewKind : MethodName := ⟨RX2, "writeNewKind", "()V"⟩
abbrev cX2_writeNewCode : ByteArray := prog_1_method_24_code
def yX2_writeNewCode : MethodName := ⟨RX2, "writeNewCode", "(I)V"⟩
abbrev cX2_isPlain : ByteArray := prog_1_method_25_code
def yX2_isPlain : MethodName := ⟨RX2, "isPlain", "(I)Z"⟩
abbrev cX2_isCapital : ByteArray := prog_1_method_26_code
def yX2_isCapital : MethodName := ⟨RX2, "isCapital", "(I)Z"⟩
abbrev cX2_isLetter : ByteArray := prog_1_method_27_code
def yX2_isLetter : MethodName := ⟨RX2, "isLetter", "(I)Z"⟩
abbrev cX2_isMark : ByteArray := prog_1_method_28_code
def yX2_isMark : MethodName := ⟨RX2, "isMark", "(I)Z"⟩
abbrev cX2_rankOf : ByteArray := prog_1_method_29_code
def yX2_rankOf : MethodName := ⟨RX2, "rankOf", "(I)I"⟩
abbrev cX2_isComposed : ByteArray := prog_1_method_30_code
def yX2_isComposed : MethodName := ⟨RX2, "isComposed", "(I)Z"⟩
abbrev cX2_letterOf : ByteArray := prog_1_method_31_code
def yX2_letterOf : MethodName := ⟨RX2, "letterOf", "(I)I"⟩
abbrev cX2_markOf : ByteArray := prog_1_method_32_code
def yX2_markOf : MethodName := ⟨RX2, "markOf", "(I)I"⟩
abbrev cX2_composedOf : ByteArray := prog_1_method_33_code
def yX2_composedOf : MethodName := ⟨RX2, "composedOf", "(II)I"⟩
abbrev cX2_keyOf : ByteArray := prog_1_method_34_code
def yX2_keyOf : MethodName := ⟨RX2, "keyOf", "(I)I"⟩
abbrev cX2_isLatin : ByteArray := prog_1_method_35_code
def yX2_isLatin : MethodName := ⟨RX2, "isLatin", "(I)Z"⟩
abbrev cX2_isGreek : ByteArray := prog_1_method_36_code
def yX2_isGreek : MethodName := ⟨RX2, "isGreek", "(I)Z"⟩
abbrev cX2_isCyrillic : ByteArray := prog_1_method_37_code
def yX2_isCyrillic : MethodName := ⟨RX2, "isCyrillic", "(I)Z"⟩
abbrev cX2_setOf : ByteArray := prog_1_method_38_code
def yX2_setOf : MethodName := ⟨RX2, "setOf", "(I)I"⟩
abbrev cX2_placeInSet : ByteArray := prog_1_method_39_code
def yX2_placeInSet : MethodName := ⟨RX2, "placeInSet", "(I)I"⟩
abbrev cX2_codeInSet : ByteArray := prog_1_method_40_code
def yX2_codeInSet : MethodName := ⟨RX2, "codeInSet", "(II)I"⟩
abbrev cX2_codeInRange : ByteArray := prog_1_method_41_code
def yX2_codeInRange : MethodName := ⟨RX2, "codeInRange", "(III)I"⟩
def RX3 : String := "CharacterRowsModel"
def TX3 : u_T := fun k => match k with
  | 0 => ("CharacterRowsModel", "thrown", "I", false)
  | 1 => ("CharacterRowsModel", "collected", "[I", true)
  | 2 => ("CharacterRowsModel", "size", "I", false)
  | 3 => ("CharacterRowsModel", "text", "[I", false)
  | 4 => ("CharacterRowsModel", "count", "I", false)
  | 5 => ("CharacterRowsModel", "other", "[I", false)
  | 6 => ("CharacterRowsModel", "otherCount", "I", false)
  | 7 => ("CharacterRowsModel", "work", "[I", true)
  | 8 => ("CharacterRowsModel", "second", "[I", true)
  | 9 => ("CharacterRowsModel", "out", "[B", true)
  | 10 => ("CharacterRowsModel", "written", "I", false)
  | 11 => ("CharacterRowsModel", "told", "[I", true)
  | 12 => ("CharacterRowsModel", "tellings", "I", false)
  | 13 => ("CharacterRowsModel", "standIn", "I", false)
  | _ => ("CharacterRowsModel", "wrong", "I", false)
def tyX3 : Nat → FieldType := fun k => match k with
  | 0 => .int
  | 1 => .array .int
  | 2 => .int
  | 3 => .array .int
  | 4 => .int
  | 5 => .array .int
  | 6 => .int
  | 7 => .array .int
  | 8 => .array .int
  | 9 => .array .byte
  | 10 => .int
  | 11 => .array .int
  | 12 => .int
  | 13 => .int
  | _ => .int
abbrev wsX30 : List Cond := u_ws RX3 TX3 15
theorem nmX3 : ∀ a, a < 15 → ∀ b, b < 15 → a ≠ b → (TX3 a).2.1 ≠ (TX3 b).2.1 := by decide +kernel
theorem tyX3_ok : ∀ k, k < 15 → parseFieldDescriptor (TX3 k).2.2.1 = some (tyX3 k) := by decide +kernel
abbrev cX3_init : ByteArray := prog_5_method_1_code
def yX3_init : MethodName := ⟨RX3, "<init>", "()V"⟩
abbrev cX3_thrown : ByteArray := prog_5_method_2_code
def yX3_thrown : MethodName := ⟨RX3, "thrown", "()I"⟩
abbrev cX3_octet : ByteArray := prog_5_method_3_code
def yX3_octet : MethodName := ⟨RX3, "octet", "(B)V"⟩
abbrev cX3_placed : ByteArray := prog_5_method_4_code
def yX3_placed : MethodName := ⟨RX3, "placed", "(II)I"⟩
abbrev cX3_find : ByteArray := prog_5_method_5_code
def yX3_find : MethodName := ⟨RX3, "find", "(I)I"⟩
abbrev cX3_isMark : ByteArray := prog_5_method_6_code
def yX3_isMark : MethodName := ⟨RX3, "isMark", "(I)Z"⟩
abbrev cX3_isLetter : ByteArray := prog_5_method_7_code
def yX3_isLetter : MethodName := ⟨RX3, "isLetter", "(I)Z"⟩
abbrev cX3_isPlain : ByteArray := prog_5_method_8_code
def yX3_isPlain : MethodName := ⟨RX3, "isPlain", "(I)Z"⟩
abbrev cX3_isComposed : ByteArray := prog_5_method_9_code
def yX3_isComposed : MethodName := ⟨RX3, "isComposed", "(I)Z"⟩
abbrev cX3_letterOf : ByteArray := prog_5_method_10_code
def yX3_letterOf : MethodName := ⟨RX3, "letterOf", "(I)I"⟩
abbrev cX3_markOf : ByteArray := prog_5_method_11_code
def yX3_markOf : MethodName := ⟨RX3, "markOf", "(I)I"⟩
abbrev cX3_order : ByteArray := prog_5_method_12_code
def yX3_order : MethodName := ⟨RX3, "order", "([II)V"⟩
abbrev cX3_bad : ByteArray := prog_5_method_13_code
def yX3_bad : MethodName := ⟨RX3, "bad", "(I)I"⟩
abbrev cX3_readOld : ByteArray := prog_5_method_14_code
def yX3_readOld : MethodName := ⟨RX3, "readOld", "()I"⟩
abbrev cX3_goesOn : ByteArray := prog_5_method_15_code
def yX3_goesOn : MethodName := ⟨RX3, "goesOn", "(I)Z"⟩
abbrev cX3_readNew : ByteArray := prog_5_method_16_code
def yX3_readNew : MethodName := ⟨RX3, "readNew", "()I"⟩
abbrev cX3_read : ByteArray := prog_5_method_17_code
def yX3_read : MethodName := ⟨RX3, "read", "(I)I"⟩
abbrev cX3_character : ByteArray := prog_5_method_18_code
def yX3_character : MethodName := ⟨RX3, "character", "(I)I"⟩
abbrev cX3_put : ByteArray := prog_5_method_19_code
def yX3_put : MethodName := ⟨RX3, "put", "(I)V"⟩
abbrev cX3_tell : ByteArray := prog_5_method_20_code
def yX3_tell : MethodName := ⟨RX3, "tell", "(I)V"⟩
abbrev cX3_putSet : ByteArray := prog_5_method_21_code
def yX3_putSet : MethodName := ⟨RX3, "putSet", "(II)I"⟩
abbrev cX3_writeOld : ByteArray := prog_5_method_22_code
def yX3_writeOld : MethodName := ⟨RX3, "writeOld", "()V"⟩
abbrev cX3_write : ByteArray := prog_5_method_23_code
def yX3_write : MethodName := ⟨RX3, "write", "(I)I"⟩
abbrev cX3_octet2 : ByteArray := prog_5_method_24_code
def yX3_octet2 : MethodName := ⟨RX3, "octet2", "(I)B"⟩
abbrev cX3_told : ByteArray := prog_5_method_25_code
def yX3_told : MethodName := ⟨RX3, "told", "(II)I"⟩
abbrev cX3_stand : ByteArray := prog_5_method_26_code
def yX3_stand : MethodName := ⟨RX3, "stand", "(I)I"⟩
abbrev cX3_apart : ByteArray := prog_5_method_27_code
def yX3_apart : MethodName := ⟨RX3, "apart", "([II[I)I"⟩
abbrev cX3_compose : ByteArray := prog_5_method_28_code
def yX3_compose : MethodName := ⟨RX3, "compose", "(I)I"⟩
abbrev cX3_same : ByteArray := prog_5_method_29_code
def yX3_same : MethodName := ⟨RX3, "same", "(I)Z"⟩
abbrev cX3_base : ByteArray := prog_5_method_30_code
def yX3_base : MethodName := ⟨RX3, "base", "(I)I"⟩
abbrev cX3_nonfiling : ByteArray := prog_5_method_31_code
def yX3_nonfiling : MethodName := ⟨RX3, "nonfiling", "(II)I"⟩
abbrev cX3_mark : ByteArray := prog_5_method_32_code
def yX3_mark : MethodName := ⟨RX3, "mark", "(I)I"⟩
abbrev cX3_row : ByteArray := prog_5_method_33_code
def yX3_row : MethodName := ⟨RX3, "row", "(II)I"⟩
def RJx00060 : String := "java/lang/ArrayIndexOutOfBoundsException"
def TJx00060 : u_T := fun k => match k with
  | 0 => ("java/lang/Throwable", "cause", "Ljava/lang/Throwable;", false)
  | 1 => ("java/lang/Throwable", "stackTrace", "[Ljava/lang/StackTraceElement;", false)
  | 2 => ("java/lang/Throwable", "suppressedExceptions", "Ljava/util/List;", false)
  | 3 => ("java/lang/Throwable", "detailMessage", "Ljava/lang/String;", false)
  | 4 => ("java/lang/Throwable", "backtrace", "Ljava/lang/Object;", false)
  | _ => ("java/lang/Throwable", "depth", "I", false)
def tyJx00060 : Nat → FieldType := fun k => match k with
  | 0 => .object "java/lang/Throwable"
  | 1 => .array (.object "java/lang/StackTraceElement")
  | 2 => .object "java/util/List"
  | 3 => .object "java/lang/String"
  | 4 => .object "java/lang/Object"
  | _ => .int
abbrev wsJx000600 : List Cond := u_ws RJx00060 TJx00060 6
theorem nmJx00060 : ∀ a, a < 6 → ∀ b, b < 6 → a ≠ b → (TJx00060 a).2.1 ≠ (TJx00060 b).2.1 := by decide +kernel
theorem tyJx00060_ok : ∀ k, k < 6 → parseFieldDescriptor (TJx00060 k).2.2.1 = some (tyJx00060 k) := by decide +kernel
abbrev cJx00060_init_a7421 : ByteArray := prog_6_method_2_code
def yJx00060_init_a7421 : MethodName := ⟨RJx00060, "<init>", "(Ljava/lang/String;)V"⟩
def RJ0 : String := "java/lang/String"
def TJ0 : u_T := fun k => match k with
  | _ => ("", "", "", false)
def tyJ0 : Nat → FieldType := fun k => match k with
  | _ => .int
abbrev wsJ00 : List Cond := u_ws RJ0 TJ0 0
theorem nmJ0 : ∀ a, a < 0 → ∀ b, b < 0 → a ≠ b → (TJ0 a).2.1 ≠ (TJ0 b).2.1 := by decide +kernel
theorem tyJ0_ok : ∀ k, k < 0 → parseFieldDescriptor (TJ0 k).2.2.1 = some (tyJ0 k) := by decide +kernel
def RL : String := "CharacterRowsLaw"
abbrev cL_row : ByteArray := method_3_code
def yL_row : MethodName := ⟨RL, "row", "(LCharacterRows;II[J)I"⟩
abbrev cL_law : ByteArray := code
def yL_law : MethodName := ⟨RL, "law", "([I)Z"⟩
def wsX0_init : List Cond := .code yX0_init cX0_init 1 none :: ([.methodLink RX0 3 objectInit, .instanceMethod objectInit, .code objectInit ⟨#[0xb1]⟩ 1 none, .arrayClass .int, .fieldLink RX0 9 "CharacterRows$Codes" "codes" "[I", .fieldLink RX0 15 "CharacterRows$Codes" "length" "I"] ++ wsX00)
def wsX0_empty : List Cond := .code yX0_empty cX0_empty 1 none :: ([.fieldLink RX0 15 "CharacterRows$Codes" "length" "I"] ++ wsX00)
def wsX0_add : List Cond := .code yX0_add cX0_add 2 none :: ([.fieldLink RX0 15 "CharacterRows$Codes" "length" "I", .fieldLink RX0 9 "CharacterRows$Codes" "codes" "[I"] ++ wsX00)
def wsX0_at : List Cond := .code yX0_at cX0_at 2 (some .int) :: ([.fieldLink RX0 15 "CharacterRows$Codes" "length" "I", .fieldLink RX0 9 "CharacterRows$Codes" "codes" "[I"] ++ wsX00)
def wsX0_addAll : List Cond := .code yX0_addAll cX0_addAll 3 none :: ([.fieldLink RX0 15 "CharacterRows$Codes" "length" "I", .methodLink RX0 19 yX0_at, .instanceMethod yX0_at, .selects RX0 yX0_at yX0_at, .initialized RX0, .code yX0_at cX0_at 2 (some .int), .fieldLink RX0 9 "CharacterRows$Codes" "codes" "[I", .methodLink RX0 23 yX0_add, .instanceMethod yX0_add, .selects RX0 yX0_add yX0_add, .code yX0_add cX0_add 2 none] ++ wsX00)
def wsX0_put : List Cond := .code yX0_put cX0_put 3 none :: ([.fieldLink RX0 15 "CharacterRows$Codes" "length" "I", .fieldLink RX0 9 "CharacterRows$Codes" "codes" "[I"] ++ wsX00)
def wsX2_isMark : List Cond := .code yX2_isMark cX2_isMark 1 (some .boolean) :: ([])
def wsX2_rankOf : List Cond := .code yX2_rankOf cX2_rankOf 1 (some .int) :: ([])
def wsX0_moveAhead : List Cond := .code yX0_moveAhead cX0_moveAhead 4 none :: ([.methodLink RX0 19 yX0_at, .instanceMethod yX0_at, .selects RX0 yX0_at yX0_at, .initialized RX0, .code yX0_at cX0_at 2 (some .int), .fieldLink RX0 15 "CharacterRows$Codes" "length" "I", .fieldLink RX0 9 "CharacterRows$Codes" "codes" "[I", .static yX2_isMark, .initialized RX2, .code yX2_isMark cX2_isMark 1 (some .boolean), .static yX2_rankOf, .code yX2_rankOf cX2_rankOf 1 (some .int), .methodLink RX0 37 yX0_put, .instanceMethod yX0_put, .selects RX0 yX0_put yX0_put, .code yX0_put cX0_put 3 none] ++ wsX00)
def wsX0_putInOrder : List Cond := .code yX0_putInOrder cX0_putInOrder 2 none :: ([.fieldLink RX0 15 "CharacterRows$Codes" "length" "I", .methodLink RX0 19 yX0_at, .instanceMethod yX0_at, .selects RX0 yX0_at yX0_at, .initialized RX0, .code yX0_at cX0_at 2 (some .int), .fieldLink RX0 9 "CharacterRows$Codes" "codes" "[I", .static yX2_isMark, .initialized RX2, .code yX2_isMark cX2_isMark 1 (some .boolean), .methodLink RX0 31 yX0_moveAhead, .instanceMethod yX0_moveAhead, .selects RX0 yX0_moveAhead yX0_moveAhead, .code yX0_moveAhead cX0_moveAhead 4 none, .static yX2_rankOf, .code yX2_rankOf cX2_rankOf 1 (some .int), .methodLink RX0 37 yX0_put, .instanceMethod yX0_put, .selects RX0 yX0_put yX0_put, .code yX0_put cX0_put 3 none] ++ wsX00)
def wsX2_letterOf : List Cond := .code yX2_letterOf cX2_letterOf 1 (some .int) :: ([.constant RX2 166 (57344)])
def wsX2_isCapital : List Cond := .code yX2_isCapital cX2_isCapital 1 (some .boolean) :: ([])
def wsX2_isLetter : List Cond := .code yX2_isLetter cX2_isLetter 1 (some .boolean) :: ([.methodLink RX2 163 yX2_isCapital, .static yX2_isCapital, .initialized RX2, .code yX2_isCapital cX2_isCapital 1 (some .boolean)])
def wsX2_isComposed : List Cond := .code yX2_isComposed cX2_isComposed 1 (some .boolean) :: ([.constant RX2 166 (57344), .constant RX2 167 (58304), .methodLink RX2 168 yX2_letterOf, .static yX2_letterOf, .initialized RX2, .code yX2_letterOf cX2_letterOf 1 (some .int), .methodLink RX2 171 yX2_isLetter, .static yX2_isLetter, .code yX2_isLetter cX2_isLetter 1 (some .boolean), .methodLink RX2 163 yX2_isCapital, .static yX2_isCapital, .code yX2_isCapital cX2_isCapital 1 (some .boolean)])
def wsX2_markOf : List Cond := .code yX2_markOf cX2_markOf 1 (some .int) :: ([.constant RX2 166 (57344)])
def wsX0_takeApart_r1 : List Cond := [Cond.fieldLink RX0 15 "CharacterRows$Codes" "length" "I", Cond.methodLink RX0 41 yX0_empty, Cond.instanceMethod yX0_empty, Cond.selects RX0 yX0_empty yX0_empty, Cond.initialized RX0, Cond.code yX0_empty cX0_empty 1 none, Cond.methodLink RX0 19 yX0_at, Cond.instanceMethod yX0_at, Cond.selects RX0 yX0_at yX0_at, Cond.code yX0_at cX0_at 2 (some .int), Cond.fieldLink RX0 9 "CharacterRows$Codes" "codes" "[I", Cond.static yX2_isComposed, Cond.initialized RX2, Cond.code yX2_isComposed cX2_isComposed 1 (some .boolean), Cond.constant RX2 166 (57344), Cond.constant RX2 167 (58304), Cond.methodLink RX2 168 yX2_letterOf, Cond.static yX2_letterOf, Cond.code yX2_letterOf cX2_letterOf 1 (some .int), Cond.methodLink RX2 171 yX2_isLetter, Cond.static yX2_isLetter, Cond.code yX2_isLetter cX2_isLetter 1 (some .boolean), Cond.methodLink RX2 163 yX2_isCapital, Cond.static yX2_isCapital]
def wsX0_takeApart_r2 : List Cond := [Cond.code yX2_isCapital cX2_isCapital 1 (some .boolean), Cond.methodLink RX0 23 yX0_add, Cond.instanceMethod yX0_add, Cond.selects RX0 yX0_add yX0_add, Cond.code yX0_add cX0_add 2 none, Cond.static yX2_markOf, Cond.code yX2_markOf cX2_markOf 1 (some .int), Cond.methodLink RX0 53 yX0_putInOrder, Cond.instanceMethod yX0_putInOrder, Cond.selects RX0 yX0_putInOrder yX0_putInOrder, Cond.code yX0_putInOrder cX0_putInOrder 2 none, Cond.static yX2_isMark, Cond.code yX2_isMark cX2_isMark 1 (some .boolean), Cond.methodLink RX0 31 yX0_moveAhead, Cond.instanceMethod yX0_moveAhead, Cond.selects RX0 yX0_moveAhead yX0_moveAhead, Cond.code yX0_moveAhead cX0_moveAhead 4 none, Cond.static yX2_rankOf, Cond.code yX2_rankOf cX2_rankOf 1 (some .int), Cond.methodLink RX0 37 yX0_put, Cond.instanceMethod yX0_put, Cond.selects RX0 yX0_put yX0_put, Cond.code yX0_put cX0_put 3 none]
def wsX0_takeApart : List Cond := .code yX0_takeApart cX0_takeApart 4 none :: ((wsX0_takeApart_r1 ++ wsX0_takeApart_r2) ++ wsX00)
def wsX2_composedOf : List Cond := .code yX2_composedOf cX2_composedOf 2 (some .int) :: ([.constant RX2 166 (57344)])
def wsX0_putTogether : List Cond := .code yX0_putTogether cX0_putTogether 5 none :: ([.fieldLink RX0 15 "CharacterRows$Codes" "length" "I", .methodLink RX0 19 yX0_at, .instanceMethod yX0_at, .selects RX0 yX0_at yX0_at, .initialized RX0, .code yX0_at cX0_at 2 (some .int), .fieldLink RX0 9 "CharacterRows$Codes" "codes" "[I", .static yX2_isLetter, .initialized RX2, .code yX2_isLetter cX2_isLetter 1 (some .boolean), .methodLink RX2 163 yX2_isCapital, .static yX2_isCapital, .code yX2_isCapital cX2_isCapital 1 (some .boolean), .static yX2_isMark, .code yX2_isMark cX2_isMark 1 (some .boolean), .static yX2_composedOf, .code yX2_composedOf cX2_composedOf 2 (some .int), .constant RX2 166 (57344), .methodLink RX0 37 yX0_put, .instanceMethod yX0_put, .selects RX0 yX0_put yX0_put, .code yX0_put cX0_put 3 none] ++ wsX00)
def wsX0_placeOfBase : List Cond := .code yX0_placeOfBase cX0_placeOfBase 6 (some .int) :: ([.fieldLink RX0 15 "CharacterRows$Codes" "length" "I", .methodLink RX0 19 yX0_at, .instanceMethod yX0_at, .selects RX0 yX0_at yX0_at, .initialized RX0, .code yX0_at cX0_at 2 (some .int), .fieldLink RX0 9 "CharacterRows$Codes" "codes" "[I", .static yX2_isMark, .initialized RX2, .code yX2_isMark cX2_isMark 1 (some .boolean)] ++ wsX00)
def wsX0_bases : List Cond := .code yX0_bases cX0_bases 3 (some .int) :: ([.fieldLink RX0 15 "CharacterRows$Codes" "length" "I", .methodLink RX0 19 yX0_at, .instanceMethod yX0_at, .selects RX0 yX0_at yX0_at, .initialized RX0, .code yX0_at cX0_at 2 (some .int), .fieldLink RX0 9 "CharacterRows$Codes" "codes" "[I", .static yX2_isMark, .initialized RX2, .code yX2_isMark cX2_isMark 1 (some .boolean)] ++ wsX00)
def wsX0_marksBehind : List Cond := .code yX0_marksBehind cX0_marksBehind 4 (some .int) :: ([.fieldLink RX0 15 "CharacterRows$Codes" "length" "I", .methodLink RX0 19 yX0_at, .instanceMethod yX0_at, .selects RX0 yX0_at yX0_at, .initialized RX0, .code yX0_at cX0_at 2 (some .int), .fieldLink RX0 9 "CharacterRows$Codes" "codes" "[I", .static yX2_isMark, .initialized RX2, .code yX2_isMark cX2_isMark 1 (some .boolean)] ++ wsX00)
def wsX0_holdsWhat : List Cond := .code yX0_holdsWhat cX0_holdsWhat 3 (some .boolean) :: ([.fieldLink RX0 15 "CharacterRows$Codes" "length" "I", .methodLink RX0 19 yX0_at, .instanceMethod yX0_at, .selects RX0 yX0_at yX0_at, .initialized RX0, .code yX0_at cX0_at 2 (some .int), .fieldLink RX0 9 "CharacterRows$Codes" "codes" "[I"] ++ wsX00)
def wsX1_init : List Cond := .code yX1_init cX1_init 2 none :: ([.methodLink RX1 3 objectInit, .instanceMethod objectInit, .code objectInit ⟨#[0xb1]⟩ 1 none, .fieldLink RX1 9 "CharacterRows$Octets" "bytes" "[B", .fieldLink RX1 15 "CharacterRows$Octets" "length" "I"] ++ wsX10)
def wsX1_empty : List Cond := .code yX1_empty cX1_empty 1 none :: ([.fieldLink RX1 15 "CharacterRows$Octets" "length" "I"] ++ wsX10)
def wsX1_add : List Cond := .code yX1_add cX1_add 2 none :: ([.fieldLink RX1 15 "CharacterRows$Octets" "length" "I", .fieldLink RX1 9 "CharacterRows$Octets" "bytes" "[B"] ++ wsX10)
def wsX1_at : List Cond := .code yX1_at cX1_at 2 (some .int) :: ([.fieldLink RX1 15 "CharacterRows$Octets" "length" "I", .fieldLink RX1 9 "CharacterRows$Octets" "bytes" "[B"] ++ wsX10)
def wsX2_init_r1 : List Cond := [Cond.methodLink RX2 3 objectInit, Cond.instanceMethod objectInit, Cond.code objectInit ⟨#[0xb1]⟩ 1 none, Cond.classLink RX2 9 RX1, Cond.instantiable RX1 2, Cond.initialized RX1, Cond.arrayClass .byte, Cond.fieldLink RX2 14 "CharacterRows" "collected" "LCharacterRows$Octets;", Cond.fieldLink RX2 18 "CharacterRows" "written" "LCharacterRows$Octets;", Cond.classLink RX2 21 RX0, Cond.instantiable RX0 2, Cond.initialized RX0, Cond.fieldLink RX2 24 "CharacterRows" "text" "LCharacterRows$Codes;", Cond.fieldLink RX2 28 "CharacterRows" "other" "LCharacterRows$Codes;", Cond.fieldLink RX2 31 "CharacterRows" "fresh" "LCharacterRows$Codes;", Cond.fieldLink RX2 34 "CharacterRows" "apart" "LCharacterRows$Codes;", Cond.fieldLink RX2 37 "CharacterRows" "otherApart" "LCharacterRows$Codes;", Cond.fieldLink RX2 40 "CharacterRows" "waitingMarks" "LCharacterRows$Codes;", Cond.fieldLink RX2 43 "CharacterRows" "toldCodes" "LCharacterRows$Codes;", Cond.fieldLink RX2 46 "CharacterRows" "toldPlaces" "LCharacterRows$Codes;", Cond.fieldLink RX2 49 "CharacterRows" "standIn" "I", Cond.methodLink RX2 11 yX1_init, Cond.instanceMethod yX1_init, Cond.code yX1_init cX1_init 2 none]
def wsX2_init_r2 : List Cond := [Cond.methodLink RX1 3 objectInit, Cond.fieldLink RX1 9 "CharacterRows$Octets" "bytes" "[B", Cond.fieldLink RX1 15 "CharacterRows$Octets" "length" "I", Cond.methodLink RX2 23 yX0_init, Cond.instanceMethod yX0_init, Cond.code yX0_init cX0_init 1 none, Cond.methodLink RX0 3 objectInit, Cond.arrayClass .int, Cond.fieldLink RX0 9 "CharacterRows$Codes" "codes" "[I", Cond.fieldLink RX0 15 "CharacterRows$Codes" "length" "I"]
def wsX2_init : List Cond := .code yX2_init cX2_init 1 none :: ((wsX2_init_r1 ++ wsX2_init_r2) ++ wsX10 ++ wsX20 ++ wsX00)
def wsX2_octet : List Cond := .code yX2_octet cX2_octet 2 none :: ([.fieldLink RX2 14 "CharacterRows" "collected" "LCharacterRows$Octets;", .methodLink RX2 53 yX1_add, .instanceMethod yX1_add, .selects RX1 yX1_add yX1_add, .initialized RX1, .code yX1_add cX1_add 2 none, .fieldLink RX1 15 "CharacterRows$Octets" "length" "I", .fieldLink RX1 9 "CharacterRows$Octets" "bytes" "[B"] ++ wsX20 ++ wsX10)
def wsX2_setOfEscape : List Cond := .code yX2_setOfEscape cX2_setOfEscape 4 (some .int) :: ([.fieldLink RX2 14 "CharacterRows" "collected" "LCharacterRows$Octets;", .methodLink RX2 85 yX1_at, .instanceMethod yX1_at, .selects RX1 yX1_at yX1_at, .initialized RX1, .code yX1_at cX1_at 2 (some .int), .fieldLink RX1 15 "CharacterRows$Octets" "length" "I", .fieldLink RX1 9 "CharacterRows$Octets" "bytes" "[B"] ++ wsX20 ++ wsX10)
def wsX2_isPlain : List Cond := .code yX2_isPlain cX2_isPlain 1 (some .boolean) :: ([])
def wsX2_codeInRange : List Cond := .code yX2_codeInRange cX2_codeInRange 3 (some .int) :: ([])
def wsX2_codeInSet : List Cond := .code yX2_codeInSet cX2_codeInSet 3 (some .int) :: ([.methodLink RX2 134 yX2_isMark, .static yX2_isMark, .initialized RX2, .code yX2_isMark cX2_isMark 1 (some .boolean), .methodLink RX2 183 yX2_codeInRange, .static yX2_codeInRange, .code yX2_codeInRange cX2_codeInRange 3 (some .int)])
def wsX2_codeOfOldByte : List Cond := .code yX2_codeOfOldByte cX2_codeOfOldByte 2 (some .int) :: ([.methodLink RX2 93 yX2_isPlain, .static yX2_isPlain, .initialized RX2, .code yX2_isPlain cX2_isPlain 1 (some .boolean), .methodLink RX2 120 yX2_codeInSet, .static yX2_codeInSet, .code yX2_codeInSet cX2_codeInSet 3 (some .int), .methodLink RX2 134 yX2_isMark, .static yX2_isMark, .code yX2_isMark cX2_isMark 1 (some .boolean), .methodLink RX2 183 yX2_codeInRange, .static yX2_codeInRange, .code yX2_codeInRange cX2_codeInRange 3 (some .int)])
def wsX2_wrongInOldKind_r1 : List Cond := [Cond.fieldLink RX2 40 "CharacterRows" "waitingMarks" "LCharacterRows$Codes;", Cond.fieldLink RX2 14 "CharacterRows" "collected" "LCharacterRows$Octets;", Cond.fieldLink RX2 31 "CharacterRows" "fresh" "LCharacterRows$Codes;", Cond.methodLink RX2 57 yX0_empty, Cond.instanceMethod yX0_empty, Cond.selects RX0 yX0_empty yX0_empty, Cond.initialized RX0, Cond.code yX0_empty cX0_empty 1 none, Cond.fieldLink RX0 15 "CharacterRows$Codes" "length" "I", Cond.methodLink RX2 85 yX1_at, Cond.instanceMethod yX1_at, Cond.selects RX1 yX1_at yX1_at, Cond.initialized RX1, Cond.code yX1_at cX1_at 2 (some .int), Cond.fieldLink RX1 15 "CharacterRows$Octets" "length" "I", Cond.fieldLink RX1 9 "CharacterRows$Octets" "bytes" "[B", Cond.methodLink RX2 128 yX2_setOfEscape, Cond.instanceMethod yX2_setOfEscape, Cond.selects RX2 yX2_setOfEscape yX2_setOfEscape, Cond.initialized RX2, Cond.code yX2_setOfEscape cX2_setOfEscape 4 (some .int), Cond.methodLink RX2 131 yX2_codeOfOldByte, Cond.static yX2_codeOfOldByte, Cond.code yX2_codeOfOldByte cX2_codeOfOldByte 2 (some .int)]
def wsX2_wrongInOldKind_r2 : List Cond := [Cond.methodLink RX2 93 yX2_isPlain, Cond.static yX2_isPlain, Cond.code yX2_isPlain cX2_isPlain 1 (some .boolean), Cond.methodLink RX2 120 yX2_codeInSet, Cond.static yX2_codeInSet, Cond.code yX2_codeInSet cX2_codeInSet 3 (some .int), Cond.methodLink RX2 134 yX2_isMark, Cond.static yX2_isMark, Cond.code yX2_isMark cX2_isMark 1 (some .boolean), Cond.methodLink RX2 183 yX2_codeInRange, Cond.static yX2_codeInRange, Cond.code yX2_codeInRange cX2_codeInRange 3 (some .int), Cond.methodLink RX2 137 yX0_add, Cond.instanceMethod yX0_add, Cond.selects RX0 yX0_add yX0_add, Cond.code yX0_add cX0_add 2 none, Cond.fieldLink RX0 9 "CharacterRows$Codes" "codes" "[I", Cond.methodLink RX2 138 yX0_addAll, Cond.instanceMethod yX0_addAll, Cond.selects RX0 yX0_addAll yX0_addAll, Cond.code yX0_addAll cX0_addAll 3 none, Cond.methodLink RX0 19 yX0_at, Cond.instanceMethod yX0_at, Cond.selects RX0 yX0_at yX0_at]
def wsX2_wrongInOldKind_r3 : List Cond := [Cond.code yX0_at cX0_at 2 (some .int), Cond.methodLink RX0 23 yX0_add]
def wsX2_wrongInOldKind : List Cond := .code yX2_wrongInOldKind cX2_wrongInOldKind 6 (some .int) :: ((wsX2_wrongInOldKind_r1 ++ (wsX2_wrongInOldKind_r2 ++ wsX2_wrongInOldKind_r3)) ++ wsX20 ++ wsX10 ++ wsX00)
def wsX2_bytesBehindFirst : List Cond := .code yX2_bytesBehindFirst cX2_bytesBehindFirst 1 (some .int) :: ([])
def wsX2_codeOfNewBytes : List Cond := .code yX2_codeOfNewBytes cX2_codeOfNewBytes 7 (some .int) :: ([.fieldLink RX2 14 "CharacterRows" "collected" "LCharacterRows$Octets;", .methodLink RX2 85 yX1_at, .instanceMethod yX1_at, .selects RX1 yX1_at yX1_at, .initialized RX1, .code yX1_at cX1_at 2 (some .int), .fieldLink RX1 15 "CharacterRows$Octets" "length" "I", .fieldLink RX1 9 "CharacterRows$Octets" "bytes" "[B", .methodLink RX2 147 yX2_bytesBehindFirst, .static yX2_bytesBehindFirst, .initialized RX2, .code yX2_bytesBehindFirst cX2_bytesBehindFirst 1 (some .int)] ++ wsX20 ++ wsX10)
def wsX2_isLatin : List Cond := .code yX2_isLatin cX2_isLatin 1 (some .boolean) :: ([])
def wsX2_isGreek : List Cond := .code yX2_isGreek cX2_isGreek 1 (some .boolean) :: ([])
def wsX2_isCyrillic : List Cond := .code yX2_isCyrillic cX2_isCyrillic 1 (some .boolean) :: ([])
def wsX2_setOf : List Cond := .code yX2_setOf cX2_setOf 1 (some .int) :: ([.methodLink RX2 174 yX2_isLatin, .static yX2_isLatin, .initialized RX2, .code yX2_isLatin cX2_isLatin 1 (some .boolean), .methodLink RX2 134 yX2_isMark, .static yX2_isMark, .code yX2_isMark cX2_isMark 1 (some .boolean), .methodLink RX2 177 yX2_isGreek, .static yX2_isGreek, .code yX2_isGreek cX2_isGreek 1 (some .boolean), .methodLink RX2 180 yX2_isCyrillic, .static yX2_isCyrillic, .code yX2_isCyrillic cX2_isCyrillic 1 (some .boolean)])
def wsX2_wrongInNewKind_r1 : List Cond := [Cond.fieldLink RX2 14 "CharacterRows" "collected" "LCharacterRows$Octets;", Cond.fieldLink RX2 31 "CharacterRows" "fresh" "LCharacterRows$Codes;", Cond.methodLink RX2 141 yX2_codeOfNewBytes, Cond.instanceMethod yX2_codeOfNewBytes, Cond.selects RX2 yX2_codeOfNewBytes yX2_codeOfNewBytes, Cond.initialized RX2, Cond.code yX2_codeOfNewBytes cX2_codeOfNewBytes 7 (some .int), Cond.methodLink RX2 85 yX1_at, Cond.instanceMethod yX1_at, Cond.selects RX1 yX1_at yX1_at, Cond.initialized RX1, Cond.code yX1_at cX1_at 2 (some .int), Cond.fieldLink RX1 15 "CharacterRows$Octets" "length" "I", Cond.fieldLink RX1 9 "CharacterRows$Octets" "bytes" "[B", Cond.methodLink RX2 147 yX2_bytesBehindFirst, Cond.static yX2_bytesBehindFirst, Cond.code yX2_bytesBehindFirst cX2_bytesBehindFirst 1 (some .int), Cond.methodLink RX2 93 yX2_isPlain, Cond.static yX2_isPlain, Cond.code yX2_isPlain cX2_isPlain 1 (some .boolean), Cond.methodLink RX2 144 yX2_setOf, Cond.static yX2_setOf, Cond.code yX2_setOf cX2_setOf 1 (some .int), Cond.methodLink RX2 174 yX2_isLatin]
def wsX2_wrongInNewKind_r2 : List Cond := [Cond.static yX2_isLatin, Cond.code yX2_isLatin cX2_isLatin 1 (some .boolean), Cond.methodLink RX2 134 yX2_isMark, Cond.static yX2_isMark, Cond.code yX2_isMark cX2_isMark 1 (some .boolean), Cond.methodLink RX2 177 yX2_isGreek, Cond.static yX2_isGreek, Cond.code yX2_isGreek cX2_isGreek 1 (some .boolean), Cond.methodLink RX2 180 yX2_isCyrillic, Cond.static yX2_isCyrillic, Cond.code yX2_isCyrillic cX2_isCyrillic 1 (some .boolean), Cond.methodLink RX2 107 yX2_isComposed, Cond.static yX2_isComposed, Cond.code yX2_isComposed cX2_isComposed 1 (some .boolean), Cond.constant RX2 166 (57344), Cond.constant RX2 167 (58304), Cond.methodLink RX2 168 yX2_letterOf, Cond.static yX2_letterOf, Cond.code yX2_letterOf cX2_letterOf 1 (some .int), Cond.methodLink RX2 171 yX2_isLetter, Cond.static yX2_isLetter, Cond.code yX2_isLetter cX2_isLetter 1 (some .boolean), Cond.methodLink RX2 163 yX2_isCapital, Cond.static yX2_isCapital]
def wsX2_wrongInNewKind_r3 : List Cond := [Cond.code yX2_isCapital cX2_isCapital 1 (some .boolean), Cond.methodLink RX2 137 yX0_add, Cond.instanceMethod yX0_add, Cond.selects RX0 yX0_add yX0_add, Cond.initialized RX0, Cond.code yX0_add cX0_add 2 none, Cond.fieldLink RX0 15 "CharacterRows$Codes" "length" "I", Cond.fieldLink RX0 9 "CharacterRows$Codes" "codes" "[I"]
def wsX2_wrongInNewKind : List Cond := .code yX2_wrongInNewKind cX2_wrongInNewKind 5 (some .int) :: ((wsX2_wrongInNewKind_r1 ++ (wsX2_wrongInNewKind_r2 ++ wsX2_wrongInNewKind_r3)) ++ wsX20 ++ wsX10 ++ wsX00)
def wsX2_read_r1 : List Cond := [Cond.fieldLink RX2 31 "CharacterRows" "fresh" "LCharacterRows$Codes;", Cond.fieldLink RX2 14 "CharacterRows" "collected" "LCharacterRows$Octets;", Cond.fieldLink RX2 28 "CharacterRows" "other" "LCharacterRows$Codes;", Cond.fieldLink RX2 24 "CharacterRows" "text" "LCharacterRows$Codes;", Cond.methodLink RX2 57 yX0_empty, Cond.instanceMethod yX0_empty, Cond.selects RX0 yX0_empty yX0_empty, Cond.initialized RX0, Cond.code yX0_empty cX0_empty 1 none, Cond.fieldLink RX0 15 "CharacterRows$Codes" "length" "I", Cond.methodLink RX2 60 yX2_wrongInOldKind, Cond.instanceMethod yX2_wrongInOldKind, Cond.selects RX2 yX2_wrongInOldKind yX2_wrongInOldKind, Cond.initialized RX2, Cond.code yX2_wrongInOldKind cX2_wrongInOldKind 6 (some .int), Cond.fieldLink RX2 40 "CharacterRows" "waitingMarks" "LCharacterRows$Codes;", Cond.methodLink RX2 85 yX1_at, Cond.instanceMethod yX1_at, Cond.selects RX1 yX1_at yX1_at, Cond.initialized RX1, Cond.code yX1_at cX1_at 2 (some .int), Cond.fieldLink RX1 15 "CharacterRows$Octets" "length" "I", Cond.fieldLink RX1 9 "CharacterRows$Octets" "bytes" "[B", Cond.methodLink RX2 128 yX2_setOfEscape]
def wsX2_read_r2 : List Cond := [Cond.instanceMethod yX2_setOfEscape, Cond.selects RX2 yX2_setOfEscape yX2_setOfEscape, Cond.code yX2_setOfEscape cX2_setOfEscape 4 (some .int), Cond.methodLink RX2 131 yX2_codeOfOldByte, Cond.static yX2_codeOfOldByte, Cond.code yX2_codeOfOldByte cX2_codeOfOldByte 2 (some .int), Cond.methodLink RX2 93 yX2_isPlain, Cond.static yX2_isPlain, Cond.code yX2_isPlain cX2_isPlain 1 (some .boolean), Cond.methodLink RX2 120 yX2_codeInSet, Cond.static yX2_codeInSet, Cond.code yX2_codeInSet cX2_codeInSet 3 (some .int), Cond.methodLink RX2 134 yX2_isMark, Cond.static yX2_isMark, Cond.code yX2_isMark cX2_isMark 1 (some .boolean), Cond.methodLink RX2 183 yX2_codeInRange, Cond.static yX2_codeInRange, Cond.code yX2_codeInRange cX2_codeInRange 3 (some .int), Cond.methodLink RX2 137 yX0_add, Cond.instanceMethod yX0_add, Cond.selects RX0 yX0_add yX0_add, Cond.code yX0_add cX0_add 2 none, Cond.fieldLink RX0 9 "CharacterRows$Codes" "codes" "[I", Cond.methodLink RX2 138 yX0_addAll]
def wsX2_read_r3 : List Cond := [Cond.instanceMethod yX0_addAll, Cond.selects RX0 yX0_addAll yX0_addAll, Cond.code yX0_addAll cX0_addAll 3 none, Cond.methodLink RX0 19 yX0_at, Cond.instanceMethod yX0_at, Cond.selects RX0 yX0_at yX0_at, Cond.code yX0_at cX0_at 2 (some .int), Cond.methodLink RX0 23 yX0_add, Cond.methodLink RX2 64 yX2_wrongInNewKind, Cond.instanceMethod yX2_wrongInNewKind, Cond.selects RX2 yX2_wrongInNewKind yX2_wrongInNewKind, Cond.code yX2_wrongInNewKind cX2_wrongInNewKind 5 (some .int), Cond.methodLink RX2 141 yX2_codeOfNewBytes, Cond.instanceMethod yX2_codeOfNewBytes, Cond.selects RX2 yX2_codeOfNewBytes yX2_codeOfNewBytes, Cond.code yX2_codeOfNewBytes cX2_codeOfNewBytes 7 (some .int), Cond.methodLink RX2 147 yX2_bytesBehindFirst, Cond.static yX2_bytesBehindFirst, Cond.code yX2_bytesBehindFirst cX2_bytesBehindFirst 1 (some .int), Cond.methodLink RX2 144 yX2_setOf, Cond.static yX2_setOf, Cond.code yX2_setOf cX2_setOf 1 (some .int), Cond.methodLink RX2 174 yX2_isLatin, Cond.static yX2_isLatin]
def wsX2_read_r4 : List Cond := [Cond.code yX2_isLatin cX2_isLatin 1 (some .boolean), Cond.methodLink RX2 177 yX2_isGreek, Cond.static yX2_isGreek, Cond.code yX2_isGreek cX2_isGreek 1 (some .boolean), Cond.methodLink RX2 180 yX2_isCyrillic, Cond.static yX2_isCyrillic, Cond.code yX2_isCyrillic cX2_isCyrillic 1 (some .boolean), Cond.methodLink RX2 107 yX2_isComposed, Cond.static yX2_isComposed, Cond.code yX2_isComposed cX2_isComposed 1 (some .boolean), Cond.constant RX2 166 (57344), Cond.constant RX2 167 (58304), Cond.methodLink RX2 168 yX2_letterOf, Cond.static yX2_letterOf, Cond.code yX2_letterOf cX2_letterOf 1 (some .int), Cond.methodLink RX2 171 yX2_isLetter, Cond.static yX2_isLetter, Cond.code yX2_isLetter cX2_isLetter 1 (some .boolean), Cond.methodLink RX2 163 yX2_isCapital, Cond.static yX2_isCapital, Cond.code yX2_isCapital cX2_isCapital 1 (some .boolean), Cond.methodLink RX2 67 yX1_empty, Cond.instanceMethod yX1_empty, Cond.selects RX1 yX1_empty yX1_empty]
def wsX2_read_r5 : List Cond := [Cond.code yX1_empty cX1_empty 1 none, Cond.methodLink RX2 68 yX0_putInOrder, Cond.instanceMethod yX0_putInOrder, Cond.selects RX0 yX0_putInOrder yX0_putInOrder, Cond.code yX0_putInOrder cX0_putInOrder 2 none, Cond.methodLink RX0 31 yX0_moveAhead, Cond.instanceMethod yX0_moveAhead, Cond.selects RX0 yX0_moveAhead yX0_moveAhead, Cond.code yX0_moveAhead cX0_moveAhead 4 none, Cond.static yX2_rankOf, Cond.code yX2_rankOf cX2_rankOf 1 (some .int), Cond.methodLink RX0 37 yX0_put, Cond.instanceMethod yX0_put, Cond.selects RX0 yX0_put yX0_put, Cond.code yX0_put cX0_put 3 none]
def wsX2_read : List Cond := .code yX2_read cX2_read 4 (some .int) :: ((wsX2_read_r1 ++ (wsX2_read_r2 ++ (wsX2_read_r3 ++ (wsX2_read_r4 ++ wsX2_read_r5)))) ++ wsX20 ++ wsX00 ++ wsX10)
def wsX2_character : List Cond := .code yX2_character cX2_character 2 (some .int) :: ([.fieldLink RX2 24 "CharacterRows" "text" "LCharacterRows$Codes;", .methodLink RX2 74 yX0_at, .instanceMethod yX0_at, .selects RX0 yX0_at yX0_at, .initialized RX0, .code yX0_at cX0_at 2 (some .int), .fieldLink RX0 15 "CharacterRows$Codes" "length" "I", .fieldLink RX0 9 "CharacterRows$Codes" "codes" "[I"] ++ wsX20 ++ wsX00)
def wsX2_tell : List Cond := .code yX2_tell cX2_tell 3 none :: ([.fieldLink RX2 43 "CharacterRows" "toldCodes" "LCharacterRows$Codes;", .fieldLink RX2 46 "CharacterRows" "toldPlaces" "LCharacterRows$Codes;", .methodLink RX2 137 yX0_add, .instanceMethod yX0_add, .selects RX0 yX0_add yX0_add, .initialized RX0, .code yX0_add cX0_add 2 none, .fieldLink RX0 15 "CharacterRows$Codes" "length" "I", .fieldLink RX0 9 "CharacterRows$Codes" "codes" "[I"] ++ wsX20 ++ wsX00)
def wsX2_placeInSet : List Cond := .code yX2_placeInSet cX2_placeInSet 1 (some .int) :: ([.methodLink RX2 134 yX2_isMark, .static yX2_isMark, .initialized RX2, .code yX2_isMark cX2_isMark 1 (some .boolean), .methodLink RX2 177 yX2_isGreek, .static yX2_isGreek, .code yX2_isGreek cX2_isGreek 1 (some .boolean), .methodLink RX2 180 yX2_isCyrillic, .static yX2_isCyrillic, .code yX2_isCyrillic cX2_isCyrillic 1 (some .boolean)])
def wsX2_writeOldCode_r1 : List Cond := [Cond.fieldLink RX2 18 "CharacterRows" "written" "LCharacterRows$Octets;", Cond.methodLink RX2 93 yX2_isPlain, Cond.static yX2_isPlain, Cond.initialized RX2, Cond.code yX2_isPlain cX2_isPlain 1 (some .boolean), Cond.methodLink RX2 53 yX1_add, Cond.instanceMethod yX1_add, Cond.selects RX1 yX1_add yX1_add, Cond.initialized RX1, Cond.code yX1_add cX1_add 2 none, Cond.fieldLink RX1 15 "CharacterRows$Octets" "length" "I", Cond.fieldLink RX1 9 "CharacterRows$Octets" "bytes" "[B", Cond.methodLink RX2 144 yX2_setOf, Cond.static yX2_setOf, Cond.code yX2_setOf cX2_setOf 1 (some .int), Cond.methodLink RX2 174 yX2_isLatin, Cond.static yX2_isLatin, Cond.code yX2_isLatin cX2_isLatin 1 (some .boolean), Cond.methodLink RX2 134 yX2_isMark, Cond.static yX2_isMark, Cond.code yX2_isMark cX2_isMark 1 (some .boolean), Cond.methodLink RX2 177 yX2_isGreek, Cond.static yX2_isGreek, Cond.code yX2_isGreek cX2_isGreek 1 (some .boolean)]
def wsX2_writeOldCode_r2 : List Cond := [Cond.methodLink RX2 180 yX2_isCyrillic, Cond.static yX2_isCyrillic, Cond.code yX2_isCyrillic cX2_isCyrillic 1 (some .boolean), Cond.methodLink RX2 157 yX2_placeInSet, Cond.static yX2_placeInSet, Cond.code yX2_placeInSet cX2_placeInSet 1 (some .int)]
def wsX2_writeOldCode : List Cond := .code yX2_writeOldCode cX2_writeOldCode 4 (some .int) :: ((wsX2_writeOldCode_r1 ++ wsX2_writeOldCode_r2) ++ wsX20 ++ wsX10)
def wsX2_writeOldKind_r1 : List Cond := [Cond.fieldLink RX2 24 "CharacterRows" "text" "LCharacterRows$Codes;", Cond.fieldLink RX2 18 "CharacterRows" "written" "LCharacterRows$Octets;", Cond.fieldLink RX2 49 "CharacterRows" "standIn" "I", Cond.methodLink RX2 74 yX0_at, Cond.instanceMethod yX0_at, Cond.selects RX0 yX0_at yX0_at, Cond.initialized RX0, Cond.code yX0_at cX0_at 2 (some .int), Cond.fieldLink RX0 15 "CharacterRows$Codes" "length" "I", Cond.fieldLink RX0 9 "CharacterRows$Codes" "codes" "[I", Cond.methodLink RX2 134 yX2_isMark, Cond.static yX2_isMark, Cond.initialized RX2, Cond.code yX2_isMark cX2_isMark 1 (some .boolean), Cond.methodLink RX2 150 yX2_tell, Cond.instanceMethod yX2_tell, Cond.selects RX2 yX2_tell yX2_tell, Cond.code yX2_tell cX2_tell 3 none, Cond.fieldLink RX2 43 "CharacterRows" "toldCodes" "LCharacterRows$Codes;", Cond.fieldLink RX2 46 "CharacterRows" "toldPlaces" "LCharacterRows$Codes;", Cond.methodLink RX2 137 yX0_add, Cond.instanceMethod yX0_add, Cond.selects RX0 yX0_add yX0_add, Cond.code yX0_add cX0_add 2 none]
def wsX2_writeOldKind_r2 : List Cond := [Cond.methodLink RX2 93 yX2_isPlain, Cond.static yX2_isPlain, Cond.code yX2_isPlain cX2_isPlain 1 (some .boolean), Cond.methodLink RX2 144 yX2_setOf, Cond.static yX2_setOf, Cond.code yX2_setOf cX2_setOf 1 (some .int), Cond.methodLink RX2 174 yX2_isLatin, Cond.static yX2_isLatin, Cond.code yX2_isLatin cX2_isLatin 1 (some .boolean), Cond.methodLink RX2 177 yX2_isGreek, Cond.static yX2_isGreek, Cond.code yX2_isGreek cX2_isGreek 1 (some .boolean), Cond.methodLink RX2 180 yX2_isCyrillic, Cond.static yX2_isCyrillic, Cond.code yX2_isCyrillic cX2_isCyrillic 1 (some .boolean), Cond.methodLink RX2 53 yX1_add, Cond.instanceMethod yX1_add, Cond.selects RX1 yX1_add yX1_add, Cond.initialized RX1, Cond.code yX1_add cX1_add 2 none, Cond.fieldLink RX1 15 "CharacterRows$Octets" "length" "I", Cond.fieldLink RX1 9 "CharacterRows$Octets" "bytes" "[B", Cond.methodLink RX2 110 yX0_marksBehind, Cond.instanceMethod yX0_marksBehind]
def wsX2_writeOldKind_r3 : List Cond := [Cond.selects RX0 yX0_marksBehind yX0_marksBehind, Cond.code yX0_marksBehind cX0_marksBehind 4 (some .int), Cond.methodLink RX0 19 yX0_at, Cond.methodLink RX2 154 yX2_writeOldCode, Cond.instanceMethod yX2_writeOldCode, Cond.selects RX2 yX2_writeOldCode yX2_writeOldCode, Cond.code yX2_writeOldCode cX2_writeOldCode 4 (some .int), Cond.methodLink RX2 157 yX2_placeInSet, Cond.static yX2_placeInSet, Cond.code yX2_placeInSet cX2_placeInSet 1 (some .int)]
def wsX2_writeOldKind : List Cond := .code yX2_writeOldKind cX2_writeOldKind 7 none :: ((wsX2_writeOldKind_r1 ++ (wsX2_writeOldKind_r2 ++ wsX2_writeOldKind_r3)) ++ wsX20 ++ wsX00 ++ wsX10)
def wsX2_writeNewCode : List Cond := .code yX2_writeNewCode cX2_writeNewCode 3 none :: ([.fieldLink RX2 18 "CharacterRows" "written" "LCharacterRows$Octets;", .methodLink RX2 147 yX2_bytesBehindFirst, .static yX2_bytesBehindFirst, .initialized RX2, .code yX2_bytesBehindFirst cX2_bytesBehindFirst 1 (some .int), .methodLink RX2 53 yX1_add, .instanceMethod yX1_add, .selects RX1 yX1_add yX1_add, .initialized RX1, .code yX1_add cX1_add 2 none, .fieldLink RX1 15 "CharacterRows$Octets" "length" "I", .fieldLink RX1 9 "CharacterRows$Octets" "bytes" "[B"] ++ wsX20 ++ wsX10)
def wsX2_writeNewKind : List Cond := .code yX2_writeNewKind cX2_writeNewKind 2 none :: ([.fieldLink RX2 24 "CharacterRows" "text" "LCharacterRows$Codes;", .methodLink RX2 74 yX0_at, .instanceMethod yX0_at, .selects RX0 yX0_at yX0_at, .initialized RX0, .code yX0_at cX0_at 2 (some .int), .fieldLink RX0 15 "CharacterRows$Codes" "length" "I", .fieldLink RX0 9 "CharacterRows$Codes" "codes" "[I", .methodLink RX2 160 yX2_writeNewCode, .instanceMethod yX2_writeNewCode, .selects RX2 yX2_writeNewCode yX2_writeNewCode, .initialized RX2, .code yX2_writeNewCode cX2_writeNewCode 3 none, .fieldLink RX2 18 "CharacterRows" "written" "LCharacterRows$Octets;", .methodLink RX2 147 yX2_bytesBehindFirst, .static yX2_bytesBehindFirst, .code yX2_bytesBehindFirst cX2_bytesBehindFirst 1 (some .int), .methodLink RX2 53 yX1_add, .instanceMethod yX1_add, .selects RX1 yX1_add yX1_add, .initialized RX1, .code yX1_add cX1_add 2 none, .fieldLink RX1 15 "CharacterRows$Octets" "length" "I", .fieldLink RX1 9 "CharacterRows$Octets" "bytes" "[B"] ++ wsX20 ++ wsX00 ++ wsX10)
def wsX2_write_r1 : List Cond := [Cond.fieldLink RX2 18 "CharacterRows" "written" "LCharacterRows$Octets;", Cond.fieldLink RX2 43 "CharacterRows" "toldCodes" "LCharacterRows$Codes;", Cond.fieldLink RX2 46 "CharacterRows" "toldPlaces" "LCharacterRows$Codes;", Cond.methodLink RX2 67 yX1_empty, Cond.instanceMethod yX1_empty, Cond.selects RX1 yX1_empty yX1_empty, Cond.initialized RX1, Cond.code yX1_empty cX1_empty 1 none, Cond.fieldLink RX1 15 "CharacterRows$Octets" "length" "I", Cond.methodLink RX2 57 yX0_empty, Cond.instanceMethod yX0_empty, Cond.selects RX0 yX0_empty yX0_empty, Cond.initialized RX0, Cond.code yX0_empty cX0_empty 1 none, Cond.fieldLink RX0 15 "CharacterRows$Codes" "length" "I", Cond.methodLink RX2 78 yX2_writeOldKind, Cond.instanceMethod yX2_writeOldKind, Cond.selects RX2 yX2_writeOldKind yX2_writeOldKind, Cond.initialized RX2, Cond.code yX2_writeOldKind cX2_writeOldKind 7 none, Cond.fieldLink RX2 24 "CharacterRows" "text" "LCharacterRows$Codes;", Cond.fieldLink RX2 49 "CharacterRows" "standIn" "I", Cond.methodLink RX2 74 yX0_at, Cond.instanceMethod yX0_at]
def wsX2_write_r2 : List Cond := [Cond.selects RX0 yX0_at yX0_at, Cond.code yX0_at cX0_at 2 (some .int), Cond.fieldLink RX0 9 "CharacterRows$Codes" "codes" "[I", Cond.methodLink RX2 134 yX2_isMark, Cond.static yX2_isMark, Cond.code yX2_isMark cX2_isMark 1 (some .boolean), Cond.methodLink RX2 150 yX2_tell, Cond.instanceMethod yX2_tell, Cond.selects RX2 yX2_tell yX2_tell, Cond.code yX2_tell cX2_tell 3 none, Cond.methodLink RX2 137 yX0_add, Cond.instanceMethod yX0_add, Cond.selects RX0 yX0_add yX0_add, Cond.code yX0_add cX0_add 2 none, Cond.methodLink RX2 93 yX2_isPlain, Cond.static yX2_isPlain, Cond.code yX2_isPlain cX2_isPlain 1 (some .boolean), Cond.methodLink RX2 144 yX2_setOf, Cond.static yX2_setOf, Cond.code yX2_setOf cX2_setOf 1 (some .int), Cond.methodLink RX2 174 yX2_isLatin, Cond.static yX2_isLatin, Cond.code yX2_isLatin cX2_isLatin 1 (some .boolean), Cond.methodLink RX2 177 yX2_isGreek]
def wsX2_write_r3 : List Cond := [Cond.static yX2_isGreek, Cond.code yX2_isGreek cX2_isGreek 1 (some .boolean), Cond.methodLink RX2 180 yX2_isCyrillic, Cond.static yX2_isCyrillic, Cond.code yX2_isCyrillic cX2_isCyrillic 1 (some .boolean), Cond.methodLink RX2 53 yX1_add, Cond.instanceMethod yX1_add, Cond.selects RX1 yX1_add yX1_add, Cond.code yX1_add cX1_add 2 none, Cond.fieldLink RX1 9 "CharacterRows$Octets" "bytes" "[B", Cond.methodLink RX2 110 yX0_marksBehind, Cond.instanceMethod yX0_marksBehind, Cond.selects RX0 yX0_marksBehind yX0_marksBehind, Cond.code yX0_marksBehind cX0_marksBehind 4 (some .int), Cond.methodLink RX0 19 yX0_at, Cond.methodLink RX2 154 yX2_writeOldCode, Cond.instanceMethod yX2_writeOldCode, Cond.selects RX2 yX2_writeOldCode yX2_writeOldCode, Cond.code yX2_writeOldCode cX2_writeOldCode 4 (some .int), Cond.methodLink RX2 157 yX2_placeInSet, Cond.static yX2_placeInSet, Cond.code yX2_placeInSet cX2_placeInSet 1 (some .int), Cond.methodLink RX2 81 yX2_writeNewKind, Cond.instanceMethod yX2_writeNewKind]
def wsX2_write_r4 : List Cond := [Cond.selects RX2 yX2_writeNewKind yX2_writeNewKind, Cond.code yX2_writeNewKind cX2_writeNewKind 2 none, Cond.methodLink RX2 160 yX2_writeNewCode, Cond.instanceMethod yX2_writeNewCode, Cond.selects RX2 yX2_writeNewCode yX2_writeNewCode, Cond.code yX2_writeNewCode cX2_writeNewCode 3 none, Cond.methodLink RX2 147 yX2_bytesBehindFirst, Cond.static yX2_bytesBehindFirst, Cond.code yX2_bytesBehindFirst cX2_bytesBehindFirst 1 (some .int)]
def wsX2_write : List Cond := .code yX2_write cX2_write 2 (some .int) :: ((wsX2_write_r1 ++ (wsX2_write_r2 ++ (wsX2_write_r3 ++ wsX2_write_r4))) ++ wsX20 ++ wsX10 ++ wsX00)
def wsX2_octet2 : List Cond := .code yX2_octet2 cX2_octet2 3 (some .byte) :: ([.fieldLink RX2 18 "CharacterRows" "written" "LCharacterRows$Octets;", .methodLink RX2 85 yX1_at, .instanceMethod yX1_at, .selects RX1 yX1_at yX1_at, .initialized RX1, .code yX1_at cX1_at 2 (some .int), .fieldLink RX1 15 "CharacterRows$Octets" "length" "I", .fieldLink RX1 9 "CharacterRows$Octets" "bytes" "[B"] ++ wsX20 ++ wsX10)
def wsX2_compose_r1 : List Cond := [Cond.fieldLink RX2 34 "CharacterRows" "apart" "LCharacterRows$Codes;", Cond.fieldLink RX2 24 "CharacterRows" "text" "LCharacterRows$Codes;", Cond.methodLink RX2 86 yX0_takeApart, Cond.instanceMethod yX0_takeApart, Cond.selects RX0 yX0_takeApart yX0_takeApart, Cond.initialized RX0, Cond.code yX0_takeApart cX0_takeApart 4 none, Cond.fieldLink RX0 15 "CharacterRows$Codes" "length" "I", Cond.methodLink RX0 41 yX0_empty, Cond.instanceMethod yX0_empty, Cond.selects RX0 yX0_empty yX0_empty, Cond.code yX0_empty cX0_empty 1 none, Cond.methodLink RX0 19 yX0_at, Cond.instanceMethod yX0_at, Cond.selects RX0 yX0_at yX0_at, Cond.code yX0_at cX0_at 2 (some .int), Cond.fieldLink RX0 9 "CharacterRows$Codes" "codes" "[I", Cond.static yX2_isComposed, Cond.initialized RX2, Cond.code yX2_isComposed cX2_isComposed 1 (some .boolean), Cond.constant RX2 166 (57344), Cond.constant RX2 167 (58304), Cond.methodLink RX2 168 yX2_letterOf, Cond.static yX2_letterOf]
def wsX2_compose_r2 : List Cond := [Cond.code yX2_letterOf cX2_letterOf 1 (some .int), Cond.methodLink RX2 171 yX2_isLetter, Cond.static yX2_isLetter, Cond.code yX2_isLetter cX2_isLetter 1 (some .boolean), Cond.methodLink RX2 163 yX2_isCapital, Cond.static yX2_isCapital, Cond.code yX2_isCapital cX2_isCapital 1 (some .boolean), Cond.methodLink RX0 23 yX0_add, Cond.instanceMethod yX0_add, Cond.selects RX0 yX0_add yX0_add, Cond.code yX0_add cX0_add 2 none, Cond.static yX2_markOf, Cond.code yX2_markOf cX2_markOf 1 (some .int), Cond.methodLink RX0 53 yX0_putInOrder, Cond.instanceMethod yX0_putInOrder, Cond.selects RX0 yX0_putInOrder yX0_putInOrder, Cond.code yX0_putInOrder cX0_putInOrder 2 none, Cond.static yX2_isMark, Cond.code yX2_isMark cX2_isMark 1 (some .boolean), Cond.methodLink RX0 31 yX0_moveAhead, Cond.instanceMethod yX0_moveAhead, Cond.selects RX0 yX0_moveAhead yX0_moveAhead, Cond.code yX0_moveAhead cX0_moveAhead 4 none, Cond.static yX2_rankOf]
def wsX2_compose_r3 : List Cond := [Cond.code yX2_rankOf cX2_rankOf 1 (some .int), Cond.methodLink RX0 37 yX0_put, Cond.instanceMethod yX0_put, Cond.selects RX0 yX0_put yX0_put, Cond.code yX0_put cX0_put 3 none, Cond.methodLink RX2 90 yX0_putTogether, Cond.instanceMethod yX0_putTogether, Cond.selects RX0 yX0_putTogether yX0_putTogether, Cond.code yX0_putTogether cX0_putTogether 5 none, Cond.static yX2_composedOf, Cond.code yX2_composedOf cX2_composedOf 2 (some .int)]
def wsX2_compose : List Cond := .code yX2_compose cX2_compose 3 (some .int) :: ((wsX2_compose_r1 ++ (wsX2_compose_r2 ++ wsX2_compose_r3)) ++ wsX20 ++ wsX00)
def wsX2_told : List Cond := .code yX2_told cX2_told 3 (some .int) :: ([.fieldLink RX2 43 "CharacterRows" "toldCodes" "LCharacterRows$Codes;", .fieldLink RX2 46 "CharacterRows" "toldPlaces" "LCharacterRows$Codes;", .methodLink RX2 74 yX0_at, .instanceMethod yX0_at, .selects RX0 yX0_at yX0_at, .initialized RX0, .code yX0_at cX0_at 2 (some .int), .fieldLink RX0 15 "CharacterRows$Codes" "length" "I", .fieldLink RX0 9 "CharacterRows$Codes" "codes" "[I"] ++ wsX20 ++ wsX00)
def wsX2_stand : List Cond := .code yX2_stand cX2_stand 3 (some .int) :: ([.fieldLink RX2 49 "CharacterRows" "standIn" "I", .methodLink RX2 93 yX2_isPlain, .static yX2_isPlain, .initialized RX2, .code yX2_isPlain cX2_isPlain 1 (some .boolean)] ++ wsX20)
def wsX2_keyOf : List Cond := .code yX2_keyOf cX2_keyOf 2 (some .int) :: ([.methodLink RX2 107 yX2_isComposed, .static yX2_isComposed, .initialized RX2, .code yX2_isComposed cX2_isComposed 1 (some .boolean), .constant RX2 166 (57344), .constant RX2 167 (58304), .methodLink RX2 168 yX2_letterOf, .static yX2_letterOf, .code yX2_letterOf cX2_letterOf 1 (some .int), .methodLink RX2 171 yX2_isLetter, .static yX2_isLetter, .code yX2_isLetter cX2_isLetter 1 (some .boolean), .methodLink RX2 163 yX2_isCapital, .static yX2_isCapital, .code yX2_isCapital cX2_isCapital 1 (some .boolean)])
def wsX2_nonfiling_r1 : List Cond := [Cond.fieldLink RX2 24 "CharacterRows" "text" "LCharacterRows$Codes;", Cond.methodLink RX2 97 yX0_placeOfBase, Cond.instanceMethod yX0_placeOfBase, Cond.selects RX0 yX0_placeOfBase yX0_placeOfBase, Cond.initialized RX0, Cond.code yX0_placeOfBase cX0_placeOfBase 6 (some .int), Cond.fieldLink RX0 15 "CharacterRows$Codes" "length" "I", Cond.methodLink RX0 19 yX0_at, Cond.instanceMethod yX0_at, Cond.selects RX0 yX0_at yX0_at, Cond.code yX0_at cX0_at 2 (some .int), Cond.fieldLink RX0 9 "CharacterRows$Codes" "codes" "[I", Cond.static yX2_isMark, Cond.initialized RX2, Cond.code yX2_isMark cX2_isMark 1 (some .boolean), Cond.methodLink RX2 74 yX0_at, Cond.methodLink RX2 101 yX2_keyOf, Cond.static yX2_keyOf, Cond.code yX2_keyOf cX2_keyOf 2 (some .int), Cond.methodLink RX2 107 yX2_isComposed, Cond.static yX2_isComposed, Cond.code yX2_isComposed cX2_isComposed 1 (some .boolean), Cond.constant RX2 166 (57344), Cond.constant RX2 167 (58304)]
def wsX2_nonfiling_r2 : List Cond := [Cond.methodLink RX2 168 yX2_letterOf, Cond.static yX2_letterOf, Cond.code yX2_letterOf cX2_letterOf 1 (some .int), Cond.methodLink RX2 171 yX2_isLetter, Cond.static yX2_isLetter, Cond.code yX2_isLetter cX2_isLetter 1 (some .boolean), Cond.methodLink RX2 163 yX2_isCapital, Cond.static yX2_isCapital, Cond.code yX2_isCapital cX2_isCapital 1 (some .boolean), Cond.methodLink RX2 104 yX0_bases, Cond.instanceMethod yX0_bases, Cond.selects RX0 yX0_bases yX0_bases, Cond.code yX0_bases cX0_bases 3 (some .int)]
def wsX2_nonfiling : List Cond := .code yX2_nonfiling cX2_nonfiling 4 (some .int) :: ((wsX2_nonfiling_r1 ++ wsX2_nonfiling_r2) ++ wsX20 ++ wsX00)
def wsX2_mark_r1 : List Cond := [Cond.fieldLink RX2 24 "CharacterRows" "text" "LCharacterRows$Codes;", Cond.methodLink RX2 97 yX0_placeOfBase, Cond.instanceMethod yX0_placeOfBase, Cond.selects RX0 yX0_placeOfBase yX0_placeOfBase, Cond.initialized RX0, Cond.code yX0_placeOfBase cX0_placeOfBase 6 (some .int), Cond.fieldLink RX0 15 "CharacterRows$Codes" "length" "I", Cond.methodLink RX0 19 yX0_at, Cond.instanceMethod yX0_at, Cond.selects RX0 yX0_at yX0_at, Cond.code yX0_at cX0_at 2 (some .int), Cond.fieldLink RX0 9 "CharacterRows$Codes" "codes" "[I", Cond.static yX2_isMark, Cond.initialized RX2, Cond.code yX2_isMark cX2_isMark 1 (some .boolean), Cond.methodLink RX2 74 yX0_at, Cond.methodLink RX2 107 yX2_isComposed, Cond.static yX2_isComposed, Cond.code yX2_isComposed cX2_isComposed 1 (some .boolean), Cond.constant RX2 166 (57344), Cond.constant RX2 167 (58304), Cond.methodLink RX2 168 yX2_letterOf, Cond.static yX2_letterOf, Cond.code yX2_letterOf cX2_letterOf 1 (some .int)]
def wsX2_mark_r2 : List Cond := [Cond.methodLink RX2 171 yX2_isLetter, Cond.static yX2_isLetter, Cond.code yX2_isLetter cX2_isLetter 1 (some .boolean), Cond.methodLink RX2 163 yX2_isCapital, Cond.static yX2_isCapital, Cond.code yX2_isCapital cX2_isCapital 1 (some .boolean), Cond.methodLink RX2 110 yX0_marksBehind, Cond.instanceMethod yX0_marksBehind, Cond.selects RX0 yX0_marksBehind yX0_marksBehind, Cond.code yX0_marksBehind cX0_marksBehind 4 (some .int)]
def wsX2_mark : List Cond := .code yX2_mark cX2_mark 4 (some .int) :: ((wsX2_mark_r1 ++ wsX2_mark_r2) ++ wsX20 ++ wsX00)
def wsX2_row : List Cond := .code yX2_row cX2_row 3 (some .int) :: ([.classLink RX2 113 RJx00060, .instantiable RJx00060 6, .initialized RJx00060, .methodLink RX2 120 yX2_codeInSet, .static yX2_codeInSet, .initialized RX2, .code yX2_codeInSet cX2_codeInSet 3 (some .int), .methodLink RX2 134 yX2_isMark, .static yX2_isMark, .code yX2_isMark cX2_isMark 1 (some .boolean), .methodLink RX2 183 yX2_codeInRange, .static yX2_codeInRange, .code yX2_codeInRange cX2_codeInRange 3 (some .int)] ++ wsJx000600)
def wsX2_same_r1 : List Cond := [Cond.fieldLink RX2 34 "CharacterRows" "apart" "LCharacterRows$Codes;", Cond.fieldLink RX2 24 "CharacterRows" "text" "LCharacterRows$Codes;", Cond.fieldLink RX2 37 "CharacterRows" "otherApart" "LCharacterRows$Codes;", Cond.fieldLink RX2 28 "CharacterRows" "other" "LCharacterRows$Codes;", Cond.methodLink RX2 86 yX0_takeApart, Cond.instanceMethod yX0_takeApart, Cond.selects RX0 yX0_takeApart yX0_takeApart, Cond.initialized RX0, Cond.code yX0_takeApart cX0_takeApart 4 none, Cond.fieldLink RX0 15 "CharacterRows$Codes" "length" "I", Cond.methodLink RX0 41 yX0_empty, Cond.instanceMethod yX0_empty, Cond.selects RX0 yX0_empty yX0_empty, Cond.code yX0_empty cX0_empty 1 none, Cond.methodLink RX0 19 yX0_at, Cond.instanceMethod yX0_at, Cond.selects RX0 yX0_at yX0_at, Cond.code yX0_at cX0_at 2 (some .int), Cond.fieldLink RX0 9 "CharacterRows$Codes" "codes" "[I", Cond.static yX2_isComposed, Cond.initialized RX2, Cond.code yX2_isComposed cX2_isComposed 1 (some .boolean), Cond.constant RX2 166 (57344), Cond.constant RX2 167 (58304)]
def wsX2_same_r2 : List Cond := [Cond.methodLink RX2 168 yX2_letterOf, Cond.static yX2_letterOf, Cond.code yX2_letterOf cX2_letterOf 1 (some .int), Cond.methodLink RX2 171 yX2_isLetter, Cond.static yX2_isLetter, Cond.code yX2_isLetter cX2_isLetter 1 (some .boolean), Cond.methodLink RX2 163 yX2_isCapital, Cond.static yX2_isCapital, Cond.code yX2_isCapital cX2_isCapital 1 (some .boolean), Cond.methodLink RX0 23 yX0_add, Cond.instanceMethod yX0_add, Cond.selects RX0 yX0_add yX0_add, Cond.code yX0_add cX0_add 2 none, Cond.static yX2_markOf, Cond.code yX2_markOf cX2_markOf 1 (some .int), Cond.methodLink RX0 53 yX0_putInOrder, Cond.instanceMethod yX0_putInOrder, Cond.selects RX0 yX0_putInOrder yX0_putInOrder, Cond.code yX0_putInOrder cX0_putInOrder 2 none, Cond.static yX2_isMark, Cond.code yX2_isMark cX2_isMark 1 (some .boolean), Cond.methodLink RX0 31 yX0_moveAhead, Cond.instanceMethod yX0_moveAhead, Cond.selects RX0 yX0_moveAhead yX0_moveAhead]
def wsX2_same_r3 : List Cond := [Cond.code yX0_moveAhead cX0_moveAhead 4 none, Cond.static yX2_rankOf, Cond.code yX2_rankOf cX2_rankOf 1 (some .int), Cond.methodLink RX0 37 yX0_put, Cond.instanceMethod yX0_put, Cond.selects RX0 yX0_put yX0_put, Cond.code yX0_put cX0_put 3 none, Cond.methodLink RX2 124 yX0_holdsWhat, Cond.instanceMethod yX0_holdsWhat, Cond.selects RX0 yX0_holdsWhat yX0_holdsWhat, Cond.code yX0_holdsWhat cX0_holdsWhat 3 (some .boolean)]
def wsX2_same : List Cond := .code yX2_same cX2_same 2 (some .boolean) :: ((wsX2_same_r1 ++ (wsX2_same_r2 ++ wsX2_same_r3)) ++ wsX20 ++ wsX00)
def wsX3_init : List Cond := .code yX3_init cX3_init 1 none :: ([.methodLink RX3 1 objectInit, .instanceMethod objectInit, .code objectInit ⟨#[0xb1]⟩ 1 none, .arrayClass .int, .fieldLink RX3 7 "CharacterRowsModel" "collected" "[I", .fieldLink RX3 13 "CharacterRowsModel" "text" "[I", .fieldLink RX3 16 "CharacterRowsModel" "other" "[I", .fieldLink RX3 19 "CharacterRowsModel" "work" "[I", .fieldLink RX3 22 "CharacterRowsModel" "second" "[I", .arrayClass .byte, .fieldLink RX3 25 "CharacterRowsModel" "out" "[B", .fieldLink RX3 29 "CharacterRowsModel" "told" "[I", .fieldLink RX3 32 "CharacterRowsModel" "standIn" "I"] ++ wsX30)
def wsX3_thrown : List Cond := .code yX3_thrown cX3_thrown 1 (some .int) :: ([.fieldLink RX3 36 "CharacterRowsModel" "thrown" "I"] ++ wsX30)
def wsX3_octet : List Cond := .code yX3_octet cX3_octet 2 none :: ([.fieldLink RX3 36 "CharacterRowsModel" "thrown" "I", .fieldLink RX3 39 "CharacterRowsModel" "size" "I", .fieldLink RX3 7 "CharacterRowsModel" "collected" "[I"] ++ wsX30)
def wsX3_placed : List Cond := .code yX3_placed cX3_placed 2 (some .int) :: ([])
def wsX3_find : List Cond := .code yX3_find cX3_find 3 (some .int) :: ([.methodLink RX3 42 yX3_placed, .static yX3_placed, .initialized RX3, .code yX3_placed cX3_placed 2 (some .int)])
def wsX3_isMark : List Cond := .code yX3_isMark cX3_isMark 1 (some .boolean) :: ([])
def wsX3_isLetter : List Cond := .code yX3_isLetter cX3_isLetter 1 (some .boolean) :: ([])
def wsX3_isPlain : List Cond := .code yX3_isPlain cX3_isPlain 1 (some .boolean) :: ([])
def wsX3_isComposed : List Cond := .code yX3_isComposed cX3_isComposed 1 (some .boolean) :: ([.constant RX3 46 (57344), .constant RX3 47 (58304), .methodLink RX3 48 yX3_isLetter, .static yX3_isLetter, .initialized RX3, .code yX3_isLetter cX3_isLetter 1 (some .boolean)])
def wsX3_letterOf : List Cond := .code yX3_letterOf cX3_letterOf 1 (some .int) :: ([.constant RX3 46 (57344)])
def wsX3_markOf : List Cond := .code yX3_markOf cX3_markOf 1 (some .int) :: ([.constant RX3 46 (57344)])
def wsX3_order : List Cond := .code yX3_order cX3_order 5 none :: ([.methodLink RX3 52 yX3_isMark, .static yX3_isMark, .initialized RX3, .code yX3_isMark cX3_isMark 1 (some .boolean)])
def wsX3_bad : List Cond := .code yX3_bad cX3_bad 2 (some .int) :: ([.fieldLink RX3 55 "CharacterRowsModel" "wrong" "I"] ++ wsX30)
def wsX3_readOld : List Cond := .code yX3_readOld cX3_readOld 9 (some .int) :: ([.fieldLink RX3 39 "CharacterRowsModel" "size" "I", .fieldLink RX3 7 "CharacterRowsModel" "collected" "[I", .fieldLink RX3 22 "CharacterRowsModel" "second" "[I", .fieldLink RX3 19 "CharacterRowsModel" "work" "[I", .methodLink RX3 58 yX3_bad, .instanceMethod yX3_bad, .selects RX3 yX3_bad yX3_bad, .initialized RX3, .code yX3_bad cX3_bad 2 (some .int), .fieldLink RX3 55 "CharacterRowsModel" "wrong" "I", .methodLink RX3 42 yX3_placed, .static yX3_placed, .code yX3_placed cX3_placed 2 (some .int), .methodLink RX3 52 yX3_isMark, .static yX3_isMark, .code yX3_isMark cX3_isMark 1 (some .boolean)] ++ wsX30)
def wsX3_goesOn : List Cond := .code yX3_goesOn cX3_goesOn 2 (some .boolean) :: ([.fieldLink RX3 39 "CharacterRowsModel" "size" "I", .fieldLink RX3 7 "CharacterRowsModel" "collected" "[I"] ++ wsX30)
def wsX3_readNew_r1 : List Cond := [Cond.fieldLink RX3 39 "CharacterRowsModel" "size" "I", Cond.fieldLink RX3 7 "CharacterRowsModel" "collected" "[I", Cond.fieldLink RX3 19 "CharacterRowsModel" "work" "[I", Cond.methodLink RX3 62 yX3_goesOn, Cond.instanceMethod yX3_goesOn, Cond.selects RX3 yX3_goesOn yX3_goesOn, Cond.initialized RX3, Cond.code yX3_goesOn cX3_goesOn 2 (some .boolean), Cond.methodLink RX3 65 yX3_isPlain, Cond.static yX3_isPlain, Cond.code yX3_isPlain cX3_isPlain 1 (some .boolean), Cond.methodLink RX3 68 yX3_find, Cond.static yX3_find, Cond.code yX3_find cX3_find 3 (some .int), Cond.methodLink RX3 42 yX3_placed, Cond.static yX3_placed, Cond.code yX3_placed cX3_placed 2 (some .int), Cond.methodLink RX3 71 yX3_isComposed, Cond.static yX3_isComposed, Cond.code yX3_isComposed cX3_isComposed 1 (some .boolean), Cond.constant RX3 46 (57344), Cond.constant RX3 47 (58304), Cond.methodLink RX3 48 yX3_isLetter, Cond.static yX3_isLetter]
def wsX3_readNew_r2 : List Cond := [Cond.code yX3_isLetter cX3_isLetter 1 (some .boolean), Cond.methodLink RX3 52 yX3_isMark, Cond.static yX3_isMark, Cond.code yX3_isMark cX3_isMark 1 (some .boolean), Cond.methodLink RX3 58 yX3_bad, Cond.instanceMethod yX3_bad, Cond.selects RX3 yX3_bad yX3_bad, Cond.code yX3_bad cX3_bad 2 (some .int), Cond.fieldLink RX3 55 "CharacterRowsModel" "wrong" "I"]
def wsX3_readNew : List Cond := .code yX3_readNew cX3_readNew 7 (some .int) :: ((wsX3_readNew_r1 ++ wsX3_readNew_r2) ++ wsX30)
def wsX3_read_r1 : List Cond := [Cond.fieldLink RX3 36 "CharacterRowsModel" "thrown" "I", Cond.fieldLink RX3 39 "CharacterRowsModel" "size" "I", Cond.fieldLink RX3 55 "CharacterRowsModel" "wrong" "I", Cond.fieldLink RX3 19 "CharacterRowsModel" "work" "[I", Cond.fieldLink RX3 16 "CharacterRowsModel" "other" "[I", Cond.fieldLink RX3 13 "CharacterRowsModel" "text" "[I", Cond.fieldLink RX3 85 "CharacterRowsModel" "count" "I", Cond.fieldLink RX3 88 "CharacterRowsModel" "otherCount" "I", Cond.methodLink RX3 74 yX3_readOld, Cond.instanceMethod yX3_readOld, Cond.selects RX3 yX3_readOld yX3_readOld, Cond.initialized RX3, Cond.code yX3_readOld cX3_readOld 9 (some .int), Cond.fieldLink RX3 7 "CharacterRowsModel" "collected" "[I", Cond.fieldLink RX3 22 "CharacterRowsModel" "second" "[I", Cond.methodLink RX3 58 yX3_bad, Cond.instanceMethod yX3_bad, Cond.selects RX3 yX3_bad yX3_bad, Cond.code yX3_bad cX3_bad 2 (some .int), Cond.methodLink RX3 42 yX3_placed, Cond.static yX3_placed, Cond.code yX3_placed cX3_placed 2 (some .int), Cond.methodLink RX3 52 yX3_isMark, Cond.static yX3_isMark]
def wsX3_read_r2 : List Cond := [Cond.code yX3_isMark cX3_isMark 1 (some .boolean), Cond.methodLink RX3 78 yX3_readNew, Cond.instanceMethod yX3_readNew, Cond.selects RX3 yX3_readNew yX3_readNew, Cond.code yX3_readNew cX3_readNew 7 (some .int), Cond.methodLink RX3 62 yX3_goesOn, Cond.instanceMethod yX3_goesOn, Cond.selects RX3 yX3_goesOn yX3_goesOn, Cond.code yX3_goesOn cX3_goesOn 2 (some .boolean), Cond.methodLink RX3 65 yX3_isPlain, Cond.static yX3_isPlain, Cond.code yX3_isPlain cX3_isPlain 1 (some .boolean), Cond.methodLink RX3 68 yX3_find, Cond.static yX3_find, Cond.code yX3_find cX3_find 3 (some .int), Cond.methodLink RX3 71 yX3_isComposed, Cond.static yX3_isComposed, Cond.code yX3_isComposed cX3_isComposed 1 (some .boolean), Cond.constant RX3 46 (57344), Cond.constant RX3 47 (58304), Cond.methodLink RX3 48 yX3_isLetter, Cond.static yX3_isLetter, Cond.code yX3_isLetter cX3_isLetter 1 (some .boolean), Cond.methodLink RX3 81 yX3_order]
def wsX3_read_r3 : List Cond := [Cond.static yX3_order, Cond.code yX3_order cX3_order 5 none]
def wsX3_read : List Cond := .code yX3_read cX3_read 5 (some .int) :: ((wsX3_read_r1 ++ (wsX3_read_r2 ++ wsX3_read_r3)) ++ wsX30)
def wsX3_character : List Cond := .code yX3_character cX3_character 2 (some .int) :: ([.fieldLink RX3 36 "CharacterRowsModel" "thrown" "I", .fieldLink RX3 85 "CharacterRowsModel" "count" "I", .fieldLink RX3 13 "CharacterRowsModel" "text" "[I"] ++ wsX30)
def wsX3_put : List Cond := .code yX3_put cX3_put 2 none :: ([.fieldLink RX3 25 "CharacterRowsModel" "out" "[B", .fieldLink RX3 91 "CharacterRowsModel" "written" "I"] ++ wsX30)
def wsX3_tell : List Cond := .code yX3_tell cX3_tell 2 none :: ([.fieldLink RX3 29 "CharacterRowsModel" "told" "[I", .fieldLink RX3 94 "CharacterRowsModel" "tellings" "I", .fieldLink RX3 13 "CharacterRowsModel" "text" "[I"] ++ wsX30)
def wsX3_putSet : List Cond := .code yX3_putSet cX3_putSet 4 (some .int) :: ([.methodLink RX3 97 yX3_put, .instanceMethod yX3_put, .selects RX3 yX3_put yX3_put, .initialized RX3, .code yX3_put cX3_put 2 none, .fieldLink RX3 25 "CharacterRowsModel" "out" "[B", .fieldLink RX3 91 "CharacterRowsModel" "written" "I"] ++ wsX30)
def wsX3_writeOld_r1 : List Cond := [Cond.fieldLink RX3 85 "CharacterRowsModel" "count" "I", Cond.fieldLink RX3 13 "CharacterRowsModel" "text" "[I", Cond.fieldLink RX3 32 "CharacterRowsModel" "standIn" "I", Cond.methodLink RX3 52 yX3_isMark, Cond.static yX3_isMark, Cond.initialized RX3, Cond.code yX3_isMark cX3_isMark 1 (some .boolean), Cond.methodLink RX3 68 yX3_find, Cond.static yX3_find, Cond.code yX3_find cX3_find 3 (some .int), Cond.methodLink RX3 42 yX3_placed, Cond.static yX3_placed, Cond.code yX3_placed cX3_placed 2 (some .int), Cond.methodLink RX3 65 yX3_isPlain, Cond.static yX3_isPlain, Cond.code yX3_isPlain cX3_isPlain 1 (some .boolean), Cond.methodLink RX3 101 yX3_putSet, Cond.instanceMethod yX3_putSet, Cond.selects RX3 yX3_putSet yX3_putSet, Cond.code yX3_putSet cX3_putSet 4 (some .int), Cond.methodLink RX3 97 yX3_put, Cond.instanceMethod yX3_put, Cond.selects RX3 yX3_put yX3_put, Cond.code yX3_put cX3_put 2 none]
def wsX3_writeOld_r2 : List Cond := [Cond.fieldLink RX3 25 "CharacterRowsModel" "out" "[B", Cond.fieldLink RX3 91 "CharacterRowsModel" "written" "I", Cond.methodLink RX3 104 yX3_tell, Cond.instanceMethod yX3_tell, Cond.selects RX3 yX3_tell yX3_tell, Cond.code yX3_tell cX3_tell 2 none, Cond.fieldLink RX3 29 "CharacterRowsModel" "told" "[I", Cond.fieldLink RX3 94 "CharacterRowsModel" "tellings" "I"]
def wsX3_writeOld : List Cond := .code yX3_writeOld cX3_writeOld 7 none :: ((wsX3_writeOld_r1 ++ wsX3_writeOld_r2) ++ wsX30)
def wsX3_write_r1 : List Cond := [Cond.fieldLink RX3 36 "CharacterRowsModel" "thrown" "I", Cond.fieldLink RX3 91 "CharacterRowsModel" "written" "I", Cond.fieldLink RX3 94 "CharacterRowsModel" "tellings" "I", Cond.fieldLink RX3 85 "CharacterRowsModel" "count" "I", Cond.fieldLink RX3 13 "CharacterRowsModel" "text" "[I", Cond.methodLink RX3 107 yX3_writeOld, Cond.instanceMethod yX3_writeOld, Cond.selects RX3 yX3_writeOld yX3_writeOld, Cond.initialized RX3, Cond.code yX3_writeOld cX3_writeOld 7 none, Cond.fieldLink RX3 32 "CharacterRowsModel" "standIn" "I", Cond.methodLink RX3 52 yX3_isMark, Cond.static yX3_isMark, Cond.code yX3_isMark cX3_isMark 1 (some .boolean), Cond.methodLink RX3 68 yX3_find, Cond.static yX3_find, Cond.code yX3_find cX3_find 3 (some .int), Cond.methodLink RX3 42 yX3_placed, Cond.static yX3_placed, Cond.code yX3_placed cX3_placed 2 (some .int), Cond.methodLink RX3 65 yX3_isPlain, Cond.static yX3_isPlain, Cond.code yX3_isPlain cX3_isPlain 1 (some .boolean), Cond.methodLink RX3 101 yX3_putSet]
def wsX3_write_r2 : List Cond := [Cond.instanceMethod yX3_putSet, Cond.selects RX3 yX3_putSet yX3_putSet, Cond.code yX3_putSet cX3_putSet 4 (some .int), Cond.methodLink RX3 97 yX3_put, Cond.instanceMethod yX3_put, Cond.selects RX3 yX3_put yX3_put, Cond.code yX3_put cX3_put 2 none, Cond.fieldLink RX3 25 "CharacterRowsModel" "out" "[B", Cond.methodLink RX3 104 yX3_tell, Cond.instanceMethod yX3_tell, Cond.selects RX3 yX3_tell yX3_tell, Cond.code yX3_tell cX3_tell 2 none, Cond.fieldLink RX3 29 "CharacterRowsModel" "told" "[I"]
def wsX3_write : List Cond := .code yX3_write cX3_write 4 (some .int) :: ((wsX3_write_r1 ++ wsX3_write_r2) ++ wsX30)
def wsX3_octet2 : List Cond := .code yX3_octet2 cX3_octet2 2 (some .byte) :: ([.fieldLink RX3 36 "CharacterRowsModel" "thrown" "I", .fieldLink RX3 91 "CharacterRowsModel" "written" "I", .fieldLink RX3 25 "CharacterRowsModel" "out" "[B"] ++ wsX30)
def wsX3_told : List Cond := .code yX3_told cX3_told 3 (some .int) :: ([.fieldLink RX3 36 "CharacterRowsModel" "thrown" "I", .fieldLink RX3 94 "CharacterRowsModel" "tellings" "I", .fieldLink RX3 29 "CharacterRowsModel" "told" "[I"] ++ wsX30)
def wsX3_stand : List Cond := .code yX3_stand cX3_stand 3 (some .int) :: ([.fieldLink RX3 36 "CharacterRowsModel" "thrown" "I", .fieldLink RX3 32 "CharacterRowsModel" "standIn" "I", .methodLink RX3 65 yX3_isPlain, .static yX3_isPlain, .initialized RX3, .code yX3_isPlain cX3_isPlain 1 (some .boolean)] ++ wsX30)
def wsX3_apart : List Cond := .code yX3_apart cX3_apart 6 (some .int) :: ([.methodLink RX3 71 yX3_isComposed, .static yX3_isComposed, .initialized RX3, .code yX3_isComposed cX3_isComposed 1 (some .boolean), .constant RX3 46 (57344), .constant RX3 47 (58304), .methodLink RX3 48 yX3_isLetter, .static yX3_isLetter, .code yX3_isLetter cX3_isLetter 1 (some .boolean), .methodLink RX3 110 yX3_letterOf, .static yX3_letterOf, .code yX3_letterOf cX3_letterOf 1 (some .int), .methodLink RX3 113 yX3_markOf, .static yX3_markOf, .code yX3_markOf cX3_markOf 1 (some .int), .methodLink RX3 81 yX3_order, .static yX3_order, .code yX3_order cX3_order 5 none, .methodLink RX3 52 yX3_isMark, .static yX3_isMark, .code yX3_isMark cX3_isMark 1 (some .boolean)])
def wsX3_compose_r1 : List Cond := [Cond.fieldLink RX3 36 "CharacterRowsModel" "thrown" "I", Cond.fieldLink RX3 13 "CharacterRowsModel" "text" "[I", Cond.fieldLink RX3 85 "CharacterRowsModel" "count" "I", Cond.fieldLink RX3 19 "CharacterRowsModel" "work" "[I", Cond.constant RX3 46 (57344), Cond.methodLink RX3 116 yX3_apart, Cond.static yX3_apart, Cond.initialized RX3, Cond.code yX3_apart cX3_apart 6 (some .int), Cond.methodLink RX3 71 yX3_isComposed, Cond.static yX3_isComposed, Cond.code yX3_isComposed cX3_isComposed 1 (some .boolean), Cond.constant RX3 47 (58304), Cond.methodLink RX3 48 yX3_isLetter, Cond.static yX3_isLetter, Cond.code yX3_isLetter cX3_isLetter 1 (some .boolean), Cond.methodLink RX3 110 yX3_letterOf, Cond.static yX3_letterOf, Cond.code yX3_letterOf cX3_letterOf 1 (some .int), Cond.methodLink RX3 113 yX3_markOf, Cond.static yX3_markOf, Cond.code yX3_markOf cX3_markOf 1 (some .int), Cond.methodLink RX3 81 yX3_order, Cond.static yX3_order]
def wsX3_compose_r2 : List Cond := [Cond.code yX3_order cX3_order 5 none, Cond.methodLink RX3 52 yX3_isMark, Cond.static yX3_isMark, Cond.code yX3_isMark cX3_isMark 1 (some .boolean)]
def wsX3_compose : List Cond := .code yX3_compose cX3_compose 6 (some .int) :: ((wsX3_compose_r1 ++ wsX3_compose_r2) ++ wsX30)
def wsX3_same_r1 : List Cond := [Cond.fieldLink RX3 36 "CharacterRowsModel" "thrown" "I", Cond.fieldLink RX3 13 "CharacterRowsModel" "text" "[I", Cond.fieldLink RX3 85 "CharacterRowsModel" "count" "I", Cond.fieldLink RX3 19 "CharacterRowsModel" "work" "[I", Cond.fieldLink RX3 22 "CharacterRowsModel" "second" "[I", Cond.fieldLink RX3 16 "CharacterRowsModel" "other" "[I", Cond.fieldLink RX3 88 "CharacterRowsModel" "otherCount" "I", Cond.methodLink RX3 116 yX3_apart, Cond.static yX3_apart, Cond.initialized RX3, Cond.code yX3_apart cX3_apart 6 (some .int), Cond.methodLink RX3 71 yX3_isComposed, Cond.static yX3_isComposed, Cond.code yX3_isComposed cX3_isComposed 1 (some .boolean), Cond.constant RX3 46 (57344), Cond.constant RX3 47 (58304), Cond.methodLink RX3 48 yX3_isLetter, Cond.static yX3_isLetter, Cond.code yX3_isLetter cX3_isLetter 1 (some .boolean), Cond.methodLink RX3 110 yX3_letterOf, Cond.static yX3_letterOf, Cond.code yX3_letterOf cX3_letterOf 1 (some .int), Cond.methodLink RX3 113 yX3_markOf, Cond.static yX3_markOf]
def wsX3_same_r2 : List Cond := [Cond.code yX3_markOf cX3_markOf 1 (some .int), Cond.methodLink RX3 81 yX3_order, Cond.static yX3_order, Cond.code yX3_order cX3_order 5 none, Cond.methodLink RX3 52 yX3_isMark, Cond.static yX3_isMark, Cond.code yX3_isMark cX3_isMark 1 (some .boolean)]
def wsX3_same : List Cond := .code yX3_same cX3_same 6 (some .boolean) :: ((wsX3_same_r1 ++ wsX3_same_r2) ++ wsX30)
def wsX3_base : List Cond := .code yX3_base cX3_base 4 (some .int) :: ([.fieldLink RX3 85 "CharacterRowsModel" "count" "I", .fieldLink RX3 13 "CharacterRowsModel" "text" "[I", .methodLink RX3 52 yX3_isMark, .static yX3_isMark, .initialized RX3, .code yX3_isMark cX3_isMark 1 (some .boolean)] ++ wsX30)
def wsX3_nonfiling : List Cond := .code yX3_nonfiling cX3_nonfiling 5 (some .int) :: ([.fieldLink RX3 36 "CharacterRowsModel" "thrown" "I", .fieldLink RX3 13 "CharacterRowsModel" "text" "[I", .methodLink RX3 120 yX3_base, .instanceMethod yX3_base, .selects RX3 yX3_base yX3_base, .initialized RX3, .code yX3_base cX3_base 4 (some .int), .fieldLink RX3 85 "CharacterRowsModel" "count" "I", .methodLink RX3 52 yX3_isMark, .static yX3_isMark, .code yX3_isMark cX3_isMark 1 (some .boolean), .methodLink RX3 71 yX3_isComposed, .static yX3_isComposed, .code yX3_isComposed cX3_isComposed 1 (some .boolean), .constant RX3 46 (57344), .constant RX3 47 (58304), .methodLink RX3 48 yX3_isLetter, .static yX3_isLetter, .code yX3_isLetter cX3_isLetter 1 (some .boolean), .methodLink RX3 110 yX3_letterOf, .static yX3_letterOf, .code yX3_letterOf cX3_letterOf 1 (some .int)] ++ wsX30)
def wsX3_mark : List Cond := .code yX3_mark cX3_mark 5 (some .int) :: ([.fieldLink RX3 36 "CharacterRowsModel" "thrown" "I", .fieldLink RX3 13 "CharacterRowsModel" "text" "[I", .fieldLink RX3 85 "CharacterRowsModel" "count" "I", .methodLink RX3 120 yX3_base, .instanceMethod yX3_base, .selects RX3 yX3_base yX3_base, .initialized RX3, .code yX3_base cX3_base 4 (some .int), .methodLink RX3 52 yX3_isMark, .static yX3_isMark, .code yX3_isMark cX3_isMark 1 (some .boolean), .methodLink RX3 71 yX3_isComposed, .static yX3_isComposed, .code yX3_isComposed cX3_isComposed 1 (some .boolean), .constant RX3 46 (57344), .constant RX3 47 (58304), .methodLink RX3 48 yX3_isLetter, .static yX3_isLetter, .code yX3_isLetter cX3_isLetter 1 (some .boolean)] ++ wsX30)
def wsX3_row : List Cond := .code yX3_row cX3_row 3 (some .int) :: ([.fieldLink RX3 36 "CharacterRowsModel" "thrown" "I", .methodLink RX3 42 yX3_placed, .static yX3_placed, .initialized RX3, .code yX3_placed cX3_placed 2 (some .int)] ++ wsX30)
def wsJx00060_init_a7421 : List Cond := .code yJx00060_init_a7421 cJx00060_init_a7421 2 none :: ([])
def wsL_row : List Cond := .codeWith yL_row cL_row 5 (some .int) [(0, 10, 13, 13)] :: ([.methodLink RL 7 yX2_row, .instanceMethod yX2_row, .selects RX2 yX2_row yX2_row, .initialized RX2, .code yX2_row cX2_row 3 (some .int), .classLink RX2 113 RJx00060, .instantiable RJx00060 6, .initialized RJx00060, .methodLink RX2 120 yX2_codeInSet, .static yX2_codeInSet, .code yX2_codeInSet cX2_codeInSet 3 (some .int), .methodLink RX2 134 yX2_isMark, .static yX2_isMark, .code yX2_isMark cX2_isMark 1 (some .boolean), .methodLink RX2 183 yX2_codeInRange, .static yX2_codeInRange, .code yX2_codeInRange cX2_codeInRange 3 (some .int)] ++ wsJx000600)
def wsL_law_r1 : List Cond := [Cond.classLink RL 8 RX2, Cond.instantiable RX2 11, Cond.initialized RX2, Cond.classLink RL 16 RX3, Cond.instantiable RX3 15, Cond.initialized RX3, Cond.arrayClass .long, Cond.methodLink RL 15 yX2_init, Cond.instanceMethod yX2_init, Cond.code yX2_init cX2_init 1 none, Cond.methodLink RX2 3 objectInit, Cond.instanceMethod objectInit, Cond.code objectInit ⟨#[0xb1]⟩ 1 none, Cond.classLink RX2 9 RX1, Cond.instantiable RX1 2, Cond.initialized RX1, Cond.arrayClass .byte, Cond.fieldLink RX2 14 "CharacterRows" "collected" "LCharacterRows$Octets;", Cond.fieldLink RX2 18 "CharacterRows" "written" "LCharacterRows$Octets;", Cond.classLink RX2 21 RX0, Cond.instantiable RX0 2, Cond.initialized RX0, Cond.fieldLink RX2 24 "CharacterRows" "text" "LCharacterRows$Codes;", Cond.fieldLink RX2 28 "CharacterRows" "other" "LCharacterRows$Codes;"]
def wsL_law_r2 : List Cond := [Cond.fieldLink RX2 31 "CharacterRows" "fresh" "LCharacterRows$Codes;", Cond.fieldLink RX2 34 "CharacterRows" "apart" "LCharacterRows$Codes;", Cond.fieldLink RX2 37 "CharacterRows" "otherApart" "LCharacterRows$Codes;", Cond.fieldLink RX2 40 "CharacterRows" "waitingMarks" "LCharacterRows$Codes;", Cond.fieldLink RX2 43 "CharacterRows" "toldCodes" "LCharacterRows$Codes;", Cond.fieldLink RX2 46 "CharacterRows" "toldPlaces" "LCharacterRows$Codes;", Cond.fieldLink RX2 49 "CharacterRows" "standIn" "I", Cond.methodLink RX2 11 yX1_init, Cond.instanceMethod yX1_init, Cond.code yX1_init cX1_init 2 none, Cond.methodLink RX1 3 objectInit, Cond.fieldLink RX1 9 "CharacterRows$Octets" "bytes" "[B", Cond.fieldLink RX1 15 "CharacterRows$Octets" "length" "I", Cond.methodLink RX2 23 yX0_init, Cond.instanceMethod yX0_init, Cond.code yX0_init cX0_init 1 none, Cond.methodLink RX0 3 objectInit, Cond.arrayClass .int, Cond.fieldLink RX0 9 "CharacterRows$Codes" "codes" "[I", Cond.fieldLink RX0 15 "CharacterRows$Codes" "length" "I", Cond.methodLink RL 18 yX3_init, Cond.instanceMethod yX3_init, Cond.code yX3_init cX3_init 1 none, Cond.methodLink RX3 1 objectInit]
def wsL_law_r3 : List Cond := [Cond.fieldLink RX3 7 "CharacterRowsModel" "collected" "[I", Cond.fieldLink RX3 13 "CharacterRowsModel" "text" "[I", Cond.fieldLink RX3 16 "CharacterRowsModel" "other" "[I", Cond.fieldLink RX3 19 "CharacterRowsModel" "work" "[I", Cond.fieldLink RX3 22 "CharacterRowsModel" "second" "[I", Cond.fieldLink RX3 25 "CharacterRowsModel" "out" "[B", Cond.fieldLink RX3 29 "CharacterRowsModel" "told" "[I", Cond.fieldLink RX3 32 "CharacterRowsModel" "standIn" "I", Cond.methodLink RL 19 yX2_octet, Cond.instanceMethod yX2_octet, Cond.selects RX2 yX2_octet yX2_octet, Cond.code yX2_octet cX2_octet 2 none, Cond.methodLink RX2 53 yX1_add, Cond.instanceMethod yX1_add, Cond.selects RX1 yX1_add yX1_add, Cond.code yX1_add cX1_add 2 none, Cond.methodLink RL 23 yX3_octet, Cond.instanceMethod yX3_octet, Cond.selects RX3 yX3_octet yX3_octet, Cond.code yX3_octet cX3_octet 2 none, Cond.fieldLink RX3 36 "CharacterRowsModel" "thrown" "I", Cond.fieldLink RX3 39 "CharacterRowsModel" "size" "I", Cond.methodLink RL 24 yX2_read, Cond.instanceMethod yX2_read]
def wsL_law_r4 : List Cond := [Cond.selects RX2 yX2_read yX2_read, Cond.code yX2_read cX2_read 4 (some .int), Cond.methodLink RX2 57 yX0_empty, Cond.instanceMethod yX0_empty, Cond.selects RX0 yX0_empty yX0_empty, Cond.code yX0_empty cX0_empty 1 none, Cond.methodLink RX2 60 yX2_wrongInOldKind, Cond.instanceMethod yX2_wrongInOldKind, Cond.selects RX2 yX2_wrongInOldKind yX2_wrongInOldKind, Cond.code yX2_wrongInOldKind cX2_wrongInOldKind 6 (some .int), Cond.methodLink RX2 85 yX1_at, Cond.instanceMethod yX1_at, Cond.selects RX1 yX1_at yX1_at, Cond.code yX1_at cX1_at 2 (some .int), Cond.methodLink RX2 128 yX2_setOfEscape, Cond.instanceMethod yX2_setOfEscape, Cond.selects RX2 yX2_setOfEscape yX2_setOfEscape, Cond.code yX2_setOfEscape cX2_setOfEscape 4 (some .int), Cond.methodLink RX2 131 yX2_codeOfOldByte, Cond.static yX2_codeOfOldByte, Cond.code yX2_codeOfOldByte cX2_codeOfOldByte 2 (some .int), Cond.methodLink RX2 93 yX2_isPlain, Cond.static yX2_isPlain, Cond.code yX2_isPlain cX2_isPlain 1 (some .boolean)]
def wsL_law_r5 : List Cond := [Cond.methodLink RX2 120 yX2_codeInSet, Cond.static yX2_codeInSet, Cond.code yX2_codeInSet cX2_codeInSet 3 (some .int), Cond.methodLink RX2 134 yX2_isMark, Cond.static yX2_isMark, Cond.code yX2_isMark cX2_isMark 1 (some .boolean), Cond.methodLink RX2 183 yX2_codeInRange, Cond.static yX2_codeInRange, Cond.code yX2_codeInRange cX2_codeInRange 3 (some .int), Cond.methodLink RX2 137 yX0_add, Cond.instanceMethod yX0_add, Cond.selects RX0 yX0_add yX0_add, Cond.code yX0_add cX0_add 2 none, Cond.methodLink RX2 138 yX0_addAll, Cond.instanceMethod yX0_addAll, Cond.selects RX0 yX0_addAll yX0_addAll, Cond.code yX0_addAll cX0_addAll 3 none, Cond.methodLink RX0 19 yX0_at, Cond.instanceMethod yX0_at, Cond.selects RX0 yX0_at yX0_at, Cond.code yX0_at cX0_at 2 (some .int), Cond.methodLink RX0 23 yX0_add, Cond.methodLink RX2 64 yX2_wrongInNewKind, Cond.instanceMethod yX2_wrongInNewKind]
def wsL_law_r6 : List Cond := [Cond.selects RX2 yX2_wrongInNewKind yX2_wrongInNewKind, Cond.code yX2_wrongInNewKind cX2_wrongInNewKind 5 (some .int), Cond.methodLink RX2 141 yX2_codeOfNewBytes, Cond.instanceMethod yX2_codeOfNewBytes, Cond.selects RX2 yX2_codeOfNewBytes yX2_codeOfNewBytes, Cond.code yX2_codeOfNewBytes cX2_codeOfNewBytes 7 (some .int), Cond.methodLink RX2 147 yX2_bytesBehindFirst, Cond.static yX2_bytesBehindFirst, Cond.code yX2_bytesBehindFirst cX2_bytesBehindFirst 1 (some .int), Cond.methodLink RX2 144 yX2_setOf, Cond.static yX2_setOf, Cond.code yX2_setOf cX2_setOf 1 (some .int), Cond.methodLink RX2 174 yX2_isLatin, Cond.static yX2_isLatin, Cond.code yX2_isLatin cX2_isLatin 1 (some .boolean), Cond.methodLink RX2 177 yX2_isGreek, Cond.static yX2_isGreek, Cond.code yX2_isGreek cX2_isGreek 1 (some .boolean), Cond.methodLink RX2 180 yX2_isCyrillic, Cond.static yX2_isCyrillic, Cond.code yX2_isCyrillic cX2_isCyrillic 1 (some .boolean), Cond.methodLink RX2 107 yX2_isComposed, Cond.static yX2_isComposed, Cond.code yX2_isComposed cX2_isComposed 1 (some .boolean)]
def wsL_law_r7 : List Cond := [Cond.constant RX2 166 (57344), Cond.constant RX2 167 (58304), Cond.methodLink RX2 168 yX2_letterOf, Cond.static yX2_letterOf, Cond.code yX2_letterOf cX2_letterOf 1 (some .int), Cond.methodLink RX2 171 yX2_isLetter, Cond.static yX2_isLetter, Cond.code yX2_isLetter cX2_isLetter 1 (some .boolean), Cond.methodLink RX2 163 yX2_isCapital, Cond.static yX2_isCapital, Cond.code yX2_isCapital cX2_isCapital 1 (some .boolean), Cond.methodLink RX2 67 yX1_empty, Cond.instanceMethod yX1_empty, Cond.selects RX1 yX1_empty yX1_empty, Cond.code yX1_empty cX1_empty 1 none, Cond.methodLink RX2 68 yX0_putInOrder, Cond.instanceMethod yX0_putInOrder, Cond.selects RX0 yX0_putInOrder yX0_putInOrder, Cond.code yX0_putInOrder cX0_putInOrder 2 none, Cond.methodLink RX0 31 yX0_moveAhead, Cond.instanceMethod yX0_moveAhead, Cond.selects RX0 yX0_moveAhead yX0_moveAhead, Cond.code yX0_moveAhead cX0_moveAhead 4 none, Cond.static yX2_rankOf]
def wsL_law_r8 : List Cond := [Cond.code yX2_rankOf cX2_rankOf 1 (some .int), Cond.methodLink RX0 37 yX0_put, Cond.instanceMethod yX0_put, Cond.selects RX0 yX0_put yX0_put, Cond.code yX0_put cX0_put 3 none, Cond.methodLink RL 28 yX3_read, Cond.instanceMethod yX3_read, Cond.selects RX3 yX3_read yX3_read, Cond.code yX3_read cX3_read 5 (some .int), Cond.fieldLink RX3 55 "CharacterRowsModel" "wrong" "I", Cond.fieldLink RX3 85 "CharacterRowsModel" "count" "I", Cond.fieldLink RX3 88 "CharacterRowsModel" "otherCount" "I", Cond.methodLink RX3 74 yX3_readOld, Cond.instanceMethod yX3_readOld, Cond.selects RX3 yX3_readOld yX3_readOld, Cond.code yX3_readOld cX3_readOld 9 (some .int), Cond.methodLink RX3 58 yX3_bad, Cond.instanceMethod yX3_bad, Cond.selects RX3 yX3_bad yX3_bad, Cond.code yX3_bad cX3_bad 2 (some .int), Cond.methodLink RX3 42 yX3_placed, Cond.static yX3_placed, Cond.code yX3_placed cX3_placed 2 (some .int), Cond.methodLink RX3 52 yX3_isMark]
def wsL_law_r9 : List Cond := [Cond.static yX3_isMark, Cond.code yX3_isMark cX3_isMark 1 (some .boolean), Cond.methodLink RX3 78 yX3_readNew, Cond.instanceMethod yX3_readNew, Cond.selects RX3 yX3_readNew yX3_readNew, Cond.code yX3_readNew cX3_readNew 7 (some .int), Cond.methodLink RX3 62 yX3_goesOn, Cond.instanceMethod yX3_goesOn, Cond.selects RX3 yX3_goesOn yX3_goesOn, Cond.code yX3_goesOn cX3_goesOn 2 (some .boolean), Cond.methodLink RX3 65 yX3_isPlain, Cond.static yX3_isPlain, Cond.code yX3_isPlain cX3_isPlain 1 (some .boolean), Cond.methodLink RX3 68 yX3_find, Cond.static yX3_find, Cond.code yX3_find cX3_find 3 (some .int), Cond.methodLink RX3 71 yX3_isComposed, Cond.static yX3_isComposed, Cond.code yX3_isComposed cX3_isComposed 1 (some .boolean), Cond.constant RX3 46 (57344), Cond.constant RX3 47 (58304), Cond.methodLink RX3 48 yX3_isLetter, Cond.static yX3_isLetter, Cond.code yX3_isLetter cX3_isLetter 1 (some .boolean)]
def wsL_law_r10 : List Cond := [Cond.methodLink RX3 81 yX3_order, Cond.static yX3_order, Cond.code yX3_order cX3_order 5 none, Cond.methodLink RL 29 yX2_character, Cond.instanceMethod yX2_character, Cond.selects RX2 yX2_character yX2_character, Cond.code yX2_character cX2_character 2 (some .int), Cond.methodLink RX2 74 yX0_at, Cond.methodLink RL 32 yX3_character, Cond.instanceMethod yX3_character, Cond.selects RX3 yX3_character yX3_character, Cond.code yX3_character cX3_character 2 (some .int), Cond.methodLink RL 33 yX2_write, Cond.instanceMethod yX2_write, Cond.selects RX2 yX2_write yX2_write, Cond.code yX2_write cX2_write 2 (some .int), Cond.methodLink RX2 78 yX2_writeOldKind, Cond.instanceMethod yX2_writeOldKind, Cond.selects RX2 yX2_writeOldKind yX2_writeOldKind, Cond.code yX2_writeOldKind cX2_writeOldKind 7 none, Cond.methodLink RX2 150 yX2_tell, Cond.instanceMethod yX2_tell, Cond.selects RX2 yX2_tell yX2_tell, Cond.code yX2_tell cX2_tell 3 none]
def wsL_law_r11 : List Cond := [Cond.methodLink RX2 110 yX0_marksBehind, Cond.instanceMethod yX0_marksBehind, Cond.selects RX0 yX0_marksBehind yX0_marksBehind, Cond.code yX0_marksBehind cX0_marksBehind 4 (some .int), Cond.methodLink RX2 154 yX2_writeOldCode, Cond.instanceMethod yX2_writeOldCode, Cond.selects RX2 yX2_writeOldCode yX2_writeOldCode, Cond.code yX2_writeOldCode cX2_writeOldCode 4 (some .int), Cond.methodLink RX2 157 yX2_placeInSet, Cond.static yX2_placeInSet, Cond.code yX2_placeInSet cX2_placeInSet 1 (some .int), Cond.methodLink RX2 81 yX2_writeNewKind, Cond.instanceMethod yX2_writeNewKind, Cond.selects RX2 yX2_writeNewKind yX2_writeNewKind, Cond.code yX2_writeNewKind cX2_writeNewKind 2 none, Cond.methodLink RX2 160 yX2_writeNewCode, Cond.instanceMethod yX2_writeNewCode, Cond.selects RX2 yX2_writeNewCode yX2_writeNewCode, Cond.code yX2_writeNewCode cX2_writeNewCode 3 none, Cond.methodLink RL 36 yX3_write, Cond.instanceMethod yX3_write, Cond.selects RX3 yX3_write yX3_write, Cond.code yX3_write cX3_write 4 (some .int), Cond.fieldLink RX3 91 "CharacterRowsModel" "written" "I"]
def wsL_law_r12 : List Cond := [Cond.fieldLink RX3 94 "CharacterRowsModel" "tellings" "I", Cond.methodLink RX3 107 yX3_writeOld, Cond.instanceMethod yX3_writeOld, Cond.selects RX3 yX3_writeOld yX3_writeOld, Cond.code yX3_writeOld cX3_writeOld 7 none, Cond.methodLink RX3 101 yX3_putSet, Cond.instanceMethod yX3_putSet, Cond.selects RX3 yX3_putSet yX3_putSet, Cond.code yX3_putSet cX3_putSet 4 (some .int), Cond.methodLink RX3 97 yX3_put, Cond.instanceMethod yX3_put, Cond.selects RX3 yX3_put yX3_put, Cond.code yX3_put cX3_put 2 none, Cond.methodLink RX3 104 yX3_tell, Cond.instanceMethod yX3_tell, Cond.selects RX3 yX3_tell yX3_tell, Cond.code yX3_tell cX3_tell 2 none, Cond.methodLink RL 37 yX2_octet2, Cond.instanceMethod yX2_octet2, Cond.selects RX2 yX2_octet2 yX2_octet2, Cond.code yX2_octet2 cX2_octet2 3 (some .byte), Cond.methodLink RL 41 yX3_octet2, Cond.instanceMethod yX3_octet2, Cond.selects RX3 yX3_octet2 yX3_octet2]
def wsL_law_r13 : List Cond := [Cond.code yX3_octet2 cX3_octet2 2 (some .byte), Cond.methodLink RL 42 yX2_compose, Cond.instanceMethod yX2_compose, Cond.selects RX2 yX2_compose yX2_compose, Cond.code yX2_compose cX2_compose 3 (some .int), Cond.methodLink RX2 86 yX0_takeApart, Cond.instanceMethod yX0_takeApart, Cond.selects RX0 yX0_takeApart yX0_takeApart, Cond.code yX0_takeApart cX0_takeApart 4 none, Cond.methodLink RX0 41 yX0_empty, Cond.static yX2_markOf, Cond.code yX2_markOf cX2_markOf 1 (some .int), Cond.methodLink RX0 53 yX0_putInOrder, Cond.methodLink RX2 90 yX0_putTogether, Cond.instanceMethod yX0_putTogether, Cond.selects RX0 yX0_putTogether yX0_putTogether, Cond.code yX0_putTogether cX0_putTogether 5 none, Cond.static yX2_composedOf, Cond.code yX2_composedOf cX2_composedOf 2 (some .int), Cond.methodLink RL 45 yX3_compose, Cond.instanceMethod yX3_compose, Cond.selects RX3 yX3_compose yX3_compose, Cond.code yX3_compose cX3_compose 6 (some .int), Cond.methodLink RX3 116 yX3_apart]
def wsL_law_r14 : List Cond := [Cond.static yX3_apart, Cond.code yX3_apart cX3_apart 6 (some .int), Cond.methodLink RX3 110 yX3_letterOf, Cond.static yX3_letterOf, Cond.code yX3_letterOf cX3_letterOf 1 (some .int), Cond.methodLink RX3 113 yX3_markOf, Cond.static yX3_markOf, Cond.code yX3_markOf cX3_markOf 1 (some .int), Cond.methodLink RL 46 yX2_told, Cond.instanceMethod yX2_told, Cond.selects RX2 yX2_told yX2_told, Cond.code yX2_told cX2_told 3 (some .int), Cond.methodLink RL 49 yX3_told, Cond.instanceMethod yX3_told, Cond.selects RX3 yX3_told yX3_told, Cond.code yX3_told cX3_told 3 (some .int), Cond.methodLink RL 50 yX2_stand, Cond.instanceMethod yX2_stand, Cond.selects RX2 yX2_stand yX2_stand, Cond.code yX2_stand cX2_stand 3 (some .int), Cond.methodLink RL 53 yX3_stand, Cond.instanceMethod yX3_stand, Cond.selects RX3 yX3_stand yX3_stand, Cond.code yX3_stand cX3_stand 3 (some .int)]
def wsL_law_r15 : List Cond := [Cond.methodLink RL 54 yX2_nonfiling, Cond.instanceMethod yX2_nonfiling, Cond.selects RX2 yX2_nonfiling yX2_nonfiling, Cond.code yX2_nonfiling cX2_nonfiling 4 (some .int), Cond.methodLink RX2 97 yX0_placeOfBase, Cond.instanceMethod yX0_placeOfBase, Cond.selects RX0 yX0_placeOfBase yX0_placeOfBase, Cond.code yX0_placeOfBase cX0_placeOfBase 6 (some .int), Cond.methodLink RX2 101 yX2_keyOf, Cond.static yX2_keyOf, Cond.code yX2_keyOf cX2_keyOf 2 (some .int), Cond.methodLink RX2 104 yX0_bases, Cond.instanceMethod yX0_bases, Cond.selects RX0 yX0_bases yX0_bases, Cond.code yX0_bases cX0_bases 3 (some .int), Cond.methodLink RL 57 yX3_nonfiling, Cond.instanceMethod yX3_nonfiling, Cond.selects RX3 yX3_nonfiling yX3_nonfiling, Cond.code yX3_nonfiling cX3_nonfiling 5 (some .int), Cond.methodLink RX3 120 yX3_base, Cond.instanceMethod yX3_base, Cond.selects RX3 yX3_base yX3_base, Cond.code yX3_base cX3_base 4 (some .int), Cond.methodLink RL 58 yX2_mark]
def wsL_law_r16 : List Cond := [Cond.instanceMethod yX2_mark, Cond.selects RX2 yX2_mark yX2_mark, Cond.code yX2_mark cX2_mark 4 (some .int), Cond.methodLink RL 61 yX3_mark, Cond.instanceMethod yX3_mark, Cond.selects RX3 yX3_mark yX3_mark, Cond.code yX3_mark cX3_mark 5 (some .int), Cond.methodLink RL 62 yL_row, Cond.static yL_row, Cond.initialized RL, Cond.codeWith yL_row cL_row 5 (some .int) [(0, 10, 13, 13)], Cond.methodLink RL 7 yX2_row, Cond.instanceMethod yX2_row, Cond.selects RX2 yX2_row yX2_row, Cond.code yX2_row cX2_row 3 (some .int), Cond.classLink RX2 113 RJx00060, Cond.instantiable RJx00060 6, Cond.initialized RJx00060, Cond.methodLink RL 67 yX3_row, Cond.instanceMethod yX3_row, Cond.selects RX3 yX3_row yX3_row, Cond.code yX3_row cX3_row 3 (some .int), Cond.methodLink RL 68 yX3_thrown, Cond.instanceMethod yX3_thrown]
def wsL_law_r17 : List Cond := [Cond.selects RX3 yX3_thrown yX3_thrown, Cond.code yX3_thrown cX3_thrown 1 (some .int), Cond.methodLink RL 72 yX2_same, Cond.instanceMethod yX2_same, Cond.selects RX2 yX2_same yX2_same, Cond.code yX2_same cX2_same 2 (some .boolean), Cond.methodLink RX2 124 yX0_holdsWhat, Cond.instanceMethod yX0_holdsWhat, Cond.selects RX0 yX0_holdsWhat yX0_holdsWhat, Cond.code yX0_holdsWhat cX0_holdsWhat 3 (some .boolean), Cond.methodLink RL 76 yX3_same, Cond.instanceMethod yX3_same, Cond.selects RX3 yX3_same yX3_same, Cond.code yX3_same cX3_same 6 (some .boolean)]
def wsL_law : List Cond := (wsL_law_r1 ++ (wsL_law_r2 ++ (wsL_law_r3 ++ (wsL_law_r4 ++ (wsL_law_r5 ++ (wsL_law_r6 ++ (wsL_law_r7 ++ (wsL_law_r8 ++ (wsL_law_r9 ++ (wsL_law_r10 ++ (wsL_law_r11 ++ (wsL_law_r12 ++ (wsL_law_r13 ++ (wsL_law_r14 ++ (wsL_law_r15 ++ (wsL_law_r16 ++ wsL_law_r17)))))))))))))))) ++ wsX20 ++ wsX30 ++ wsX10 ++ wsX00 ++ wsJx000600 ++ ([] : List Cond)
abbrev vwCl : List vw_C := [(RJx00060, TJx00060, 6), (RX0, TX0, 2), (RX1, TX1, 2), (RX2, TX2, 11), (RX3, TX3, 15)]
end
section
theorem dX0_init_0 : decode cX0_init 0 = .ok (.aload_n 0, 1) := by decide +kernel
theorem dX0_init_1 : decode cX0_init 1 = .ok (.invokespecial 3, 3) := by decide +kernel
theorem dX0_init_4 : decode cX0_init 4 = .ok (.aload_n 0, 1) := by decide +kernel
theorem dX0_init_5 : decode cX0_init 5 = .ok (.sipush 200, 3) := by decide +kernel
theorem dX0_init_8 : decode cX0_init 8 = .ok (.newarray .int, 2) := by decide +kernel
theorem dX0_init_10 : decode cX0_init 10 = .ok (.putfield 9, 3) := by decide +kernel
theorem dX0_init_13 : decode cX0_init 13 = .ok (.aload_n 0, 1) := by decide +kernel
theorem dX0_init_14 : decode cX0_init 14 = .ok (.iconst 0, 1) := by decide +kernel
theorem dX0_init_15 : decode cX0_init 15 = .ok (.putfield 15, 3) := by decide +kernel
theorem dX0_init_18 : decode cX0_init 18 = .ok (.return_, 1) := by decide +kernel
theorem dX0_empty_0 : decode cX0_empty 0 = .ok (.aload_n 0, 1) := by decide +kernel
theorem dX0_empty_1 : decode cX0_empty 1 = .ok (.iconst 0, 1) := by decide +kernel
theorem dX0_empty_2 : decode cX0_empty 2 = .ok (.putfield 15, 3) := by decide +kernel
theorem dX0_empty_5 : decode cX0_empty 5 = .ok (.return_, 1) := by decide +kernel
theorem dX0_add_0 : decode cX0_add 0 = .ok (.aload_n 0, 1) := by decide +kernel
theorem dX0_add_1 : decode cX0_add 1 = .ok (.getfield 15, 3) := by decide +kernel
theorem dX0_add_4 : decode cX0_add 4 = .ok (.aload_n 0, 1) := by decide +kernel
theorem dX0_add_5 : decode cX0_add 5 = .ok (.getfield 9, 3) := by decide +kernel
theorem dX0_add_8 : decode cX0_add 8 = .ok (.arraylength, 1) := by decide +kernel
theorem dX0_add_9 : decode cX0_add 9 = .ok (.if_icmp .ge 23, 3) := by decide +kernel
theorem dX0_add_12 : decode cX0_add 12 = .ok (.aload_n 0, 1) := by decide +kernel
theorem dX0_add_13 : decode cX0_add 13 = .ok (.getfield 9, 3) := by decide +kernel
theorem dX0_add_16 : decode cX0_add 16 = .ok (.aload_n 0, 1) := by decide +kernel
theorem dX0_add_17 : decode cX0_add 17 = .ok (.getfield 15, 3) := by decide +kernel
theorem dX0_add_20 : decode cX0_add 20 = .ok (.iload_n 1, 1) := by decide +kernel
theorem dX0_add_21 : decode cX0_add 21 = .ok (.iastore, 1) := by decide +kernel
theorem dX0_add_22 : decode cX0_add 22 = .ok (.aload_n 0, 1) := by decide +kernel
theorem dX0_add_23 : decode cX0_add 23 = .ok (.dup, 1) := by decide +kernel
theorem dX0_add_24 : decode cX0_add 24 = .ok (.getfield 15, 3) := by decide +kernel
theorem dX0_add_27 : decode cX0_add 27 = .ok (.iconst 1, 1) := by decide +kernel
theorem dX0_add_28 : decode cX0_add 28 = .ok (.iadd, 1) := by decide +kernel
theorem dX0_add_29 : decode cX0_add 29 = .ok (.putfield 15, 3) := by decide +kernel
theorem dX0_add_32 : decode cX0_add 32 = .ok (.return_, 1) := by decide +kernel
set_option maxRecDepth 20000 in
theorem ggX0_addAll_X0_at : GoodIn wsX0_addAll wsX0_at := goodIn_r _ [6, 1, 7, 12, 13] (by decide +kernel) (by decide +kernel)
set_option maxRecDepth 20000 in
theorem gX0_addAll_X0_at : GoodIn wsX0_addAll (wsV RX0 19 RX0 yX0_at wsX0_at) := goodIn_app (goodIn_of _ (by decide +kernel)) ggX0_addAll_X0_at
set_option maxRecDepth 20000 in
theorem ggX0_addAll_X0_add : GoodIn wsX0_addAll wsX0_add := goodIn_r _ [11, 1, 7, 12, 13] (by decide +kernel) (by decide +kernel)
set_option maxRecDepth 20000 in
theorem gX0_addAll_X0_add : GoodIn wsX0_addAll (wsV RX0 23 RX0 yX0_add wsX0_add) := goodIn_app (goodIn_of _ (by decide +kernel)) ggX0_addAll_X0_add
theorem dX0_addAll_0 : decode cX0_addAll 0 = .ok (.iconst 0, 1) := by decide +kernel
theorem dX0_addAll_1 : decode cX0_addAll 1 = .ok (.istore_n 2, 1) := by decide +kernel
theorem dX0_addAll_2 : decode cX0_addAll 2 = .ok (.iload_n 2, 1) := by decide +kernel
theorem dX0_addAll_3 : decode cX0_addAll 3 = .ok (.aload_n 1, 1) := by decide +kernel
theorem dX0_addAll_4 : decode cX0_addAll 4 = .ok (.getfield 15, 3) := by decide +kernel
theorem dX0_addAll_7 : decode cX0_addAll 7 = .ok (.if_icmp .ge 18, 3) := by decide +kernel
theorem dX0_addAll_10 : decode cX0_addAll 10 = .ok (.aload_n 0, 1) := by decide +kernel
theorem dX0_addAll_11 : decode cX0_addAll 11 = .ok (.aload_n 1, 1) := by decide +kernel
theorem dX0_addAll_12 : decode cX0_addAll 12 = .ok (.iload_n 2, 1) := by decide +kernel
theorem dX0_addAll_13 : decode cX0_addAll 13 = .ok (.invokevirtual 19, 3) := by decide +kernel
theorem dX0_addAll_16 : decode cX0_addAll 16 = .ok (.invokevirtual 23, 3) := by decide +kernel
theorem dX0_addAll_19 : decode cX0_addAll 19 = .ok (.iinc 2 1, 3) := by decide +kernel
theorem dX0_addAll_22 : decode cX0_addAll 22 = .ok (.goto (-20), 3) := by decide +kernel
theorem dX0_addAll_25 : decode cX0_addAll 25 = .ok (.return_, 1) := by decide +kernel
theorem dX0_at_0 : decode cX0_at 0 = .ok (.iload_n 1, 1) := by decide +kernel
theorem dX0_at_1 : decode cX0_at 1 = .ok (.ifCond .lt 20, 3) := by decide +kernel
theorem dX0_at_4 : decode cX0_at 4 = .ok (.iload_n 1, 1) := by decide +kernel
theorem dX0_at_5 : decode cX0_at 5 = .ok (.aload_n 0, 1) := by decide +kernel
theorem dX0_at_6 : decode cX0_at 6 = .ok (.getfield 15, 3) := by decide +kernel
theorem dX0_at_9 : decode cX0_at 9 = .ok (.if_icmp .ge 12, 3) := by decide +kernel
theorem dX0_at_12 : decode cX0_at 12 = .ok (.aload_n 0, 1) := by decide +kernel
theorem dX0_at_13 : decode cX0_at 13 = .ok (.getfield 9, 3) := by decide +kernel
theorem dX0_at_16 : decode cX0_at 16 = .ok (.iload_n 1, 1) := by decide +kernel
theorem dX0_at_17 : decode cX0_at 17 = .ok (.iaload, 1) := by decide +kernel
theorem dX0_at_18 : decode cX0_at 18 = .ok (.goto 4, 3) := by decide +kernel
theorem dX0_at_21 : decode cX0_at 21 = .ok (.iconst (-1), 1) := by decide +kernel
theorem dX0_at_22 : decode cX0_at 22 = .ok (.ireturn, 1) := by decide +kernel
theorem dX0_put_0 : decode cX0_put 0 = .ok (.iload_n 1, 1) := by decide +kernel
theorem dX0_put_1 : decode cX0_put 1 = .ok (.ifCond .lt 18, 3) := by decide +kernel
theorem dX0_put_4 : decode cX0_put 4 = .ok (.iload_n 1, 1) := by decide +kernel
theorem dX0_put_5 : decode cX0_put 5 = .ok (.aload_n 0, 1) := by decide +kernel
theorem dX0_put_6 : decode cX0_put 6 = .ok (.getfield 15, 3) := by decide +kernel
theorem dX0_put_9 : decode cX0_put 9 = .ok (.if_icmp .ge 10, 3) := by decide +kernel
theorem dX0_put_12 : decode cX0_put 12 = .ok (.aload_n 0, 1) := by decide +kernel
theorem dX0_put_13 : decode cX0_put 13 = .ok (.getfield 9, 3) := by decide +kernel
theorem dX0_put_16 : decode cX0_put 16 = .ok (.iload_n 1, 1) := by decide +kernel
theorem dX0_put_17 : decode cX0_put 17 = .ok (.iload_n 2, 1) := by decide +kernel
theorem dX0_put_18 : decode cX0_put 18 = .ok (.iastore, 1) := by decide +kernel
theorem dX0_put_19 : decode cX0_put 19 = .ok (.return_, 1) := by decide +kernel
set_option maxRecDepth 20000 in
theorem ggX0_putInOrder_X0_at : GoodIn wsX0_putInOrder wsX0_at := goodIn_r _ [6, 1, 7, 21, 22] (by decide +kernel) (by decide +kernel)
set_option maxRecDepth 20000 in
theorem gX0_putInOrder_X0_at : GoodIn wsX0_putInOrder (wsV RX0 19 RX0 yX0_at wsX0_at) := goodIn_app (goodIn_of _ (by decide +kernel)) ggX0_putInOrder_X0_at
set_option maxRecDepth 20000 in
theorem ggX0_putInOrder_X2_isMark : GoodIn wsX0_putInOrder wsX2_isMark := goodIn_r _ [10] (by decide +kernel) (by decide +kernel)
set_option maxRecDepth 20000 in
theorem gX0_putInOrder_X2_isMark_n27 : GoodIn wsX0_putInOrder (wsX2_isMark) := ggX0_putInOrder_X2_isMark
set_option maxRecDepth 20000 in
theorem ggX0_putInOrder_X0_moveAhead : GoodIn wsX0_putInOrder wsX0_moveAhead := goodIn_r _ [14, 2, 3, 4, 5, 6, 1, 7, 8, 9, 10, 15, 16, 17, 18, 19, 20, 21, 22] (by decide +kernel) (by decide +kernel)
set_option maxRecDepth 20000 in
theorem gX0_putInOrder_X0_moveAhead : GoodIn wsX0_putInOrder (wsV RX0 31 RX0 yX0_moveAhead wsX0_moveAhead) := goodIn_app (goodIn_of _ (by decide +kernel)) ggX0_putInOrder_X0_moveAhead
theorem dX0_putInOrder_0 : decode cX0_putInOrder 0 = .ok (.iconst 1, 1) := by decide +kernel
theorem dX0_putInOrder_1 : decode cX0_putInOrder 1 = .ok (.istore_n 1, 1) := by decide +kernel
theorem dX0_putInOrder_2 : decode cX0_putInOrder 2 = .ok (.iload_n 1, 1) := by decide +kernel
theorem dX0_putInOrder_3 : decode cX0_putInOrder 3 = .ok (.aload_n 0, 1) := by decide +kernel
theorem dX0_putInOrder_4 : decode cX0_putInOrder 4 = .ok (.getfield 15, 3) := by decide +kernel
theorem dX0_putInOrder_7 : decode cX0_putInOrder 7 = .ok (.if_icmp .ge 25, 3) := by decide +kernel
theorem dX0_putInOrder_10 : decode cX0_putInOrder 10 = .ok (.aload_n 0, 1) := by decide +kernel
theorem dX0_putInOrder_11 : decode cX0_putInOrder 11 = .ok (.iload_n 1, 1) := by decide +kernel
theorem dX0_putInOrder_12 : decode cX0_putInOrder 12 = .ok (.invokevirtual 19, 3) := by decide +kernel
theorem dX0_putInOrder_15 : decode cX0_putInOrder 15 = .ok (.invokestatic 27, 3) := by decide +kernel
theorem dX0_putInOrder_18 : decode cX0_putInOrder 18 = .ok (.ifCond .eq 8, 3) := by decide +kernel
theorem dX0_putInOrder_21 : decode cX0_putInOrder 21 = .ok (.aload_n 0, 1) := by decide +kernel
theorem dX0_putInOrder_22 : decode cX0_putInOrder 22 = .ok (.iload_n 1, 1) := by decide +kernel
theorem dX0_putInOrder_23 : decode cX0_putInOrder 23 = .ok (.invokevirtual 31, 3) := by decide +kernel
theorem dX0_putInOrder_26 : decode cX0_putInOrder 26 = .ok (.iinc 1 1, 3) := by decide +kernel
theorem dX0_putInOrder_29 : decode cX0_putInOrder 29 = .ok (.goto (-27), 3) := by decide +kernel
theorem dX0_putInOrder_32 : decode cX0_putInOrder 32 = .ok (.return_, 1) := by decide +kernel
set_option maxRecDepth 20000 in
theorem ggX0_moveAhead_X0_at : GoodIn wsX0_moveAhead wsX0_at := goodIn_r _ [5, 6, 7, 17, 18] (by decide +kernel) (by decide +kernel)
set_option maxRecDepth 20000 in
theorem gX0_moveAhead_X0_at : GoodIn wsX0_moveAhead (wsV RX0 19 RX0 yX0_at wsX0_at) := goodIn_app (goodIn_of _ (by decide +kernel)) ggX0_moveAhead_X0_at
set_option maxRecDepth 20000 in
theorem ggX0_moveAhead_X2_isMark : GoodIn wsX0_moveAhead wsX2_isMark := goodIn_r _ [10] (by decide +kernel) (by decide +kernel)
set_option maxRecDepth 20000 in
theorem gX0_moveAhead_X2_isMark_n27 : GoodIn wsX0_moveAhead (wsX2_isMark) := ggX0_moveAhead_X2_isMark
set_option maxRecDepth 20000 in
theorem ggX0_moveAhead_X2_rankOf : GoodIn wsX0_moveAhead wsX2_rankOf := goodIn_r _ [12] (by decide +kernel) (by decide +kernel)
set_option maxRecDepth 20000 in
theorem gX0_moveAhead_X2_rankOf_n34 : GoodIn wsX0_moveAhead (wsX2_rankOf) := ggX0_moveAhead_X2_rankOf
set_option maxRecDepth 20000 in
theorem ggX0_moveAhead_X0_put : GoodIn wsX0_moveAhead wsX0_put := goodIn_r _ [16, 6, 7, 17, 18] (by decide +kernel) (by decide +kernel)
set_option maxRecDepth 20000 in
theorem gX0_moveAhead_X0_put : GoodIn wsX0_moveAhead (wsV RX0 37 RX0 yX0_put wsX0_put) := goodIn_app (goodIn_of _ (by decide +kernel)) ggX0_moveAhead_X0_put
theorem dX0_moveAhead_0 : decode cX0_moveAhead 0 = .ok (.aload_n 0, 1) := by decide +kernel
theorem dX0_moveAhead_1 : decode cX0_moveAhead 1 = .ok (.iload_n 1, 1) := by decide +kernel
theorem dX0_moveAhead_2 : decode cX0_moveAhead 2 = .ok (.invokevirtual 19, 3) := by decide +kernel
theorem dX0_moveAhead_5 : decode cX0_moveAhead 5 = .ok (.istore_n 2, 1) := by decide +kernel
theorem dX0_moveAhead_6 : decode cX0_moveAhead 6 = .ok (.iload_n 1, 1) := by decide +kernel
theorem dX0_moveAhead_7 : decode cX0_moveAhead 7 = .ok (.istore_n 3, 1) := by decide +kernel
theorem dX0_moveAhead_8 : decode cX0_moveAhead 8 = .ok (.iload_n 3, 1) := by decide +kernel
theorem dX0_moveAhead_9 : decode cX0_moveAhead 9 = .ok (.ifCond .le 51, 3) := by decide +kernel
theorem dX0_moveAhead_12 : decode cX0_moveAhead 12 = .ok (.aload_n 0, 1) := by decide +kernel
theorem dX0_moveAhead_13 : decode cX0_moveAhead 13 = .ok (.iload_n 3, 1) := by decide +kernel
theorem dX0_moveAhead_14 : decode cX0_moveAhead 14 = .ok (.iconst 1, 1) := by decide +kernel
theorem dX0_moveAhead_15 : decode cX0_moveAhead 15 = .ok (.isub, 1) := by decide +kernel
theorem dX0_moveAhead_16 : decode cX0_moveAhead 16 = .ok (.invokevirtual 19, 3) := by decide +kernel
theorem dX0_moveAhead_19 : decode cX0_moveAhead 19 = .ok (.invokestatic 27, 3) := by decide +kernel
theorem dX0_moveAhead_22 : decode cX0_moveAhead 22 = .ok (.ifCond .eq 38, 3) := by decide +kernel
theorem dX0_moveAhead_25 : decode cX0_moveAhead 25 = .ok (.aload_n 0, 1) := by decide +kernel
theorem dX0_moveAhead_26 : decode cX0_moveAhead 26 = .ok (.iload_n 3, 1) := by decide +kernel
theorem dX0_moveAhead_27 : decode cX0_moveAhead 27 = .ok (.iconst 1, 1) := by decide +kernel
theorem dX0_moveAhead_28 : decode cX0_moveAhead 28 = .ok (.isub, 1) := by decide +kernel
theorem dX0_moveAhead_29 : decode cX0_moveAhead 29 = .ok (.invokevirtual 19, 3) := by decide +kernel
theorem dX0_moveAhead_32 : decode cX0_moveAhead 32 = .ok (.invokestatic 34, 3) := by decide +kernel
theorem dX0_moveAhead_35 : decode cX0_moveAhead 35 = .ok (.iload_n 2, 1) := by decide +kernel
theorem dX0_moveAhead_36 : decode cX0_moveAhead 36 = .ok (.invokestatic 34, 3) := by decide +kernel
theorem dX0_moveAhead_39 : decode cX0_moveAhead 39 = .ok (.if_icmp .le 21, 3) := by decide +kernel
theorem dX0_moveAhead_42 : decode cX0_moveAhead 42 = .ok (.aload_n 0, 1) := by decide +kernel
theorem dX0_moveAhead_43 : decode cX0_moveAhead 43 = .ok (.iload_n 3, 1) := by decide +kernel
theorem dX0_moveAhead_44 : decode cX0_moveAhead 44 = .ok (.aload_n 0, 1) := by decide +kernel
theorem dX0_moveAhead_45 : decode cX0_moveAhead 45 = .ok (.iload_n 3, 1) := by decide +kernel
theorem dX0_moveAhead_46 : decode cX0_moveAhead 46 = .ok (.iconst 1, 1) := by decide +kernel
theorem dX0_moveAhead_47 : decode cX0_moveAhead 47 = .ok (.isub, 1) := by decide +kernel
theorem dX0_moveAhead_48 : decode cX0_moveAhead 48 = .ok (.invokevirtual 19, 3) := by decide +kernel
theorem dX0_moveAhead_51 : decode cX0_moveAhead 51 = .ok (.invokevirtual 37, 3) := by decide +kernel
theorem dX0_moveAhead_54 : decode cX0_moveAhead 54 = .ok (.iinc 3 (-1), 3) := by decide +kernel
theorem dX0_moveAhead_57 : decode cX0_moveAhead 57 = .ok (.goto (-49), 3) := by decide +kernel
theorem dX0_moveAhead_60 : decode cX0_moveAhead 60 = .ok (.aload_n 0, 1) := by decide +kernel
theorem dX0_moveAhead_61 : decode cX0_moveAhead 61 = .ok (.iload_n 3, 1) := by decide +kernel
theorem dX0_moveAhead_62 : decode cX0_moveAhead 62 = .ok (.iload_n 2, 1) := by decide +kernel
theorem dX0_moveAhead_63 : decode cX0_moveAhead 63 = .ok (.invokevirtual 37, 3) := by decide +kernel
theorem dX0_moveAhead_66 : decode cX0_moveAhead 66 = .ok (.return_, 1) := by decide +kernel
set_option maxRecDepth 20000 in
theorem ggX0_takeApart_X0_empty : GoodIn wsX0_takeApart wsX0_empty := goodIn_r _ [6, 1, 48, 49] (by decide +kernel) (by decide +kernel)
set_option maxRecDepth 20000 in
theorem gX0_takeApart_X0_empty : GoodIn wsX0_takeApart (wsV RX0 41 RX0 yX0_empty wsX0_empty) := goodIn_app (goodIn_of _ (by decide +kernel)) ggX0_takeApart_X0_empty
set_option maxRecDepth 20000 in
theorem ggX0_takeApart_X0_at : GoodIn wsX0_takeApart wsX0_at := goodIn_r _ [10, 1, 11, 48, 49] (by decide +kernel) (by decide +kernel)
set_option maxRecDepth 20000 in
theorem gX0_takeApart_X0_at : GoodIn wsX0_takeApart (wsV RX0 19 RX0 yX0_at wsX0_at) := goodIn_app (goodIn_of _ (by decide +kernel)) ggX0_takeApart_X0_at
set_option maxRecDepth 20000 in
theorem ggX0_takeApart_X2_isComposed : GoodIn wsX0_takeApart wsX2_isComposed := goodIn_r _ [14, 15, 16, 17, 18, 13, 19, 20, 21, 22, 23, 24, 25] (by decide +kernel) (by decide +kernel)
set_option maxRecDepth 20000 in
theorem gX0_takeApart_X2_isComposed_n44 : GoodIn wsX0_takeApart (wsX2_isComposed) := ggX0_takeApart_X2_isComposed
set_option maxRecDepth 20000 in
theorem ggX0_takeApart_X2_letterOf : GoodIn wsX0_takeApart wsX2_letterOf := goodIn_r _ [19, 15] (by decide +kernel) (by decide +kernel)
set_option maxRecDepth 20000 in
theorem gX0_takeApart_X2_letterOf_n47 : GoodIn wsX0_takeApart (wsX2_letterOf) := ggX0_takeApart_X2_letterOf
set_option maxRecDepth 20000 in
theorem ggX0_takeApart_X0_add : GoodIn wsX0_takeApart wsX0_add := goodIn_r _ [29, 1, 11, 48, 49] (by decide +kernel) (by decide +kernel)
set_option maxRecDepth 20000 in
theorem gX0_takeApart_X0_add : GoodIn wsX0_takeApart (wsV RX0 23 RX0 yX0_add wsX0_add) := goodIn_app (goodIn_of _ (by decide +kernel)) ggX0_takeApart_X0_add
set_option maxRecDepth 20000 in
theorem ggX0_takeApart_X2_markOf : GoodIn wsX0_takeApart wsX2_markOf := goodIn_r _ [31, 15] (by decide +kernel) (by decide +kernel)
set_option maxRecDepth 20000 in
theorem gX0_takeApart_X2_markOf_n50 : GoodIn wsX0_takeApart (wsX2_markOf) := ggX0_takeApart_X2_markOf
set_option maxRecDepth 20000 in
theorem ggX0_takeApart_X0_putInOrder : GoodIn wsX0_takeApart wsX0_putInOrder := goodIn_r _ [35, 1, 7, 8, 9, 5, 10, 11, 36, 13, 37, 38, 39, 40, 41, 42, 43, 44, 45, 46, 47, 48, 49] (by decide +kernel) (by decide +kernel)
set_option maxRecDepth 20000 in
theorem gX0_takeApart_X0_putInOrder : GoodIn wsX0_takeApart (wsV RX0 53 RX0 yX0_putInOrder wsX0_putInOrder) := goodIn_app (goodIn_of _ (by decide +kernel)) ggX0_takeApart_X0_putInOrder
theorem dX0_takeApart_0 : decode cX0_takeApart 0 = .ok (.aload_n 0, 1) := by decide +kernel
theorem dX0_takeApart_1 : decode cX0_takeApart 1 = .ok (.invokevirtual 41, 3) := by decide +kernel
theorem dX0_takeApart_4 : decode cX0_takeApart 4 = .ok (.iconst 0, 1) := by decide +kernel
theorem dX0_takeApart_5 : decode cX0_takeApart 5 = .ok (.istore_n 2, 1) := by decide +kernel
theorem dX0_takeApart_6 : decode cX0_takeApart 6 = .ok (.iload_n 2, 1) := by decide +kernel
theorem dX0_takeApart_7 : decode cX0_takeApart 7 = .ok (.aload_n 1, 1) := by decide +kernel
theorem dX0_takeApart_8 : decode cX0_takeApart 8 = .ok (.getfield 15, 3) := by decide +kernel
theorem dX0_takeApart_11 : decode cX0_takeApart 11 = .ok (.if_icmp .ge 46, 3) := by decide +kernel
theorem dX0_takeApart_14 : decode cX0_takeApart 14 = .ok (.aload_n 1, 1) := by decide +kernel
theorem dX0_takeApart_15 : decode cX0_takeApart 15 = .ok (.iload_n 2, 1) := by decide +kernel
theorem dX0_takeApart_16 : decode cX0_takeApart 16 = .ok (.invokevirtual 19, 3) := by decide +kernel
theorem dX0_takeApart_19 : decode cX0_takeApart 19 = .ok (.istore_n 3, 1) := by decide +kernel
theorem dX0_takeApart_20 : decode cX0_takeApart 20 = .ok (.iload_n 3, 1) := by decide +kernel
theorem dX0_takeApart_21 : decode cX0_takeApart 21 = .ok (.invokestatic 44, 3) := by decide +kernel
theorem dX0_takeApart_24 : decode cX0_takeApart 24 = .ok (.ifCond .eq 22, 3) := by decide +kernel
theorem dX0_takeApart_27 : decode cX0_takeApart 27 = .ok (.aload_n 0, 1) := by decide +kernel
theorem dX0_takeApart_28 : decode cX0_takeApart 28 = .ok (.iload_n 3, 1) := by decide +kernel
theorem dX0_takeApart_29 : decode cX0_takeApart 29 = .ok (.invokestatic 47, 3) := by decide +kernel
theorem dX0_takeApart_32 : decode cX0_takeApart 32 = .ok (.invokevirtual 23, 3) := by decide +kernel
theorem dX0_takeApart_35 : decode cX0_takeApart 35 = .ok (.aload_n 0, 1) := by decide +kernel
theorem dX0_takeApart_36 : decode cX0_takeApart 36 = .ok (.iload_n 3, 1) := by decide +kernel
theorem dX0_takeApart_37 : decode cX0_takeApart 37 = .ok (.invokestatic 50, 3) := by decide +kernel
theorem dX0_takeApart_40 : decode cX0_takeApart 40 = .ok (.invokevirtual 23, 3) := by decide +kernel
theorem dX0_takeApart_43 : decode cX0_takeApart 43 = .ok (.goto 8, 3) := by decide +kernel
theorem dX0_takeApart_46 : decode cX0_takeApart 46 = .ok (.aload_n 0, 1) := by decide +kernel
theorem dX0_takeApart_47 : decode cX0_takeApart 47 = .ok (.iload_n 3, 1) := by decide +kernel
theorem dX0_takeApart_48 : decode cX0_takeApart 48 = .ok (.invokevirtual 23, 3) := by decide +kernel
theorem dX0_takeApart_51 : decode cX0_takeApart 51 = .ok (.iinc 2 1, 3) := by decide +kernel
theorem dX0_takeApart_54 : decode cX0_takeApart 54 = .ok (.goto (-48), 3) := by decide +kernel
theorem dX0_takeApart_57 : decode cX0_takeApart 57 = .ok (.aload_n 0, 1) := by decide +kernel
theorem dX0_takeApart_58 : decode cX0_takeApart 58 = .ok (.invokevirtual 53, 3) := by decide +kernel
theorem dX0_takeApart_61 : decode cX0_takeApart 61 = .ok (.return_, 1) := by decide +kernel
set_option maxRecDepth 20000 in
theorem ggX0_putTogether_X0_at : GoodIn wsX0_putTogether wsX0_at := goodIn_r _ [6, 1, 7, 23, 24] (by decide +kernel) (by decide +kernel)
set_option maxRecDepth 20000 in
theorem gX0_putTogether_X0_at : GoodIn wsX0_putTogether (wsV RX0 19 RX0 yX0_at wsX0_at) := goodIn_app (goodIn_of _ (by decide +kernel)) ggX0_putTogether_X0_at
set_option maxRecDepth 20000 in
theorem ggX0_putTogether_X2_isLetter : GoodIn wsX0_putTogether wsX2_isLetter := goodIn_r _ [10, 11, 12, 9, 13] (by decide +kernel) (by decide +kernel)
set_option maxRecDepth 20000 in
theorem gX0_putTogether_X2_isLetter_n56 : GoodIn wsX0_putTogether (wsX2_isLetter) := ggX0_putTogether_X2_isLetter
set_option maxRecDepth 20000 in
theorem ggX0_putTogether_X2_isMark : GoodIn wsX0_putTogether wsX2_isMark := goodIn_r _ [15] (by decide +kernel) (by decide +kernel)
set_option maxRecDepth 20000 in
theorem gX0_putTogether_X2_isMark_n27 : GoodIn wsX0_putTogether (wsX2_isMark) := ggX0_putTogether_X2_isMark
set_option maxRecDepth 20000 in
theorem ggX0_putTogether_X2_composedOf : GoodIn wsX0_putTogether wsX2_composedOf := goodIn_r _ [17, 18] (by decide +kernel) (by decide +kernel)
set_option maxRecDepth 20000 in
theorem gX0_putTogether_X2_composedOf_n59 : GoodIn wsX0_putTogether (wsX2_composedOf) := ggX0_putTogether_X2_composedOf
set_option maxRecDepth 20000 in
theorem ggX0_putTogether_X0_put : GoodIn wsX0_putTogether wsX0_put := goodIn_r _ [22, 1, 7, 23, 24] (by decide +kernel) (by decide +kernel)
set_option maxRecDepth 20000 in
theorem gX0_putTogether_X0_put : GoodIn wsX0_putTogether (wsV RX0 37 RX0 yX0_put wsX0_put) := goodIn_app (goodIn_of _ (by decide +kernel)) ggX0_putTogether_X0_put
theorem dX0_putTogether_0 : decode cX0_putTogether 0 = .ok (.iconst 0, 1) := by decide +kernel
theorem dX0_putTogether_1 : decode cX0_putTogether 1 = .ok (.istore_n 1, 1) := by decide +kernel
theorem dX0_putTogether_2 : decode cX0_putTogether 2 = .ok (.iconst 0, 1) := by decide +kernel
theorem dX0_putTogether_3 : decode cX0_putTogether 3 = .ok (.istore_n 2, 1) := by decide +kernel
theorem dX0_putTogether_4 : decode cX0_putTogether 4 = .ok (.iload_n 2, 1) := by decide +kernel
theorem dX0_putTogether_5 : decode cX0_putTogether 5 = .ok (.aload_n 0, 1) := by decide +kernel
theorem dX0_putTogether_6 : decode cX0_putTogether 6 = .ok (.getfield 15, 3) := by decide +kernel
theorem dX0_putTogether_9 : decode cX0_putTogether 9 = .ok (.if_icmp .ge 58, 3) := by decide +kernel
theorem dX0_putTogether_12 : decode cX0_putTogether 12 = .ok (.aload_n 0, 1) := by decide +kernel
theorem dX0_putTogether_13 : decode cX0_putTogether 13 = .ok (.iload_n 2, 1) := by decide +kernel
theorem dX0_putTogether_14 : decode cX0_putTogether 14 = .ok (.invokevirtual 19, 3) := by decide +kernel
theorem dX0_putTogether_17 : decode cX0_putTogether 17 = .ok (.istore_n 3, 1) := by decide +kernel
theorem dX0_putTogether_18 : decode cX0_putTogether 18 = .ok (.aload_n 0, 1) := by decide +kernel
theorem dX0_putTogether_19 : decode cX0_putTogether 19 = .ok (.iload_n 2, 1) := by decide +kernel
theorem dX0_putTogether_20 : decode cX0_putTogether 20 = .ok (.iconst 1, 1) := by decide +kernel
theorem dX0_putTogether_21 : decode cX0_putTogether 21 = .ok (.iadd, 1) := by decide +kernel
theorem dX0_putTogether_22 : decode cX0_putTogether 22 = .ok (.invokevirtual 19, 3) := by decide +kernel
theorem dX0_putTogether_25 : decode cX0_putTogether 25 = .ok (.istore 4, 2) := by decide +kernel
theorem dX0_putTogether_27 : decode cX0_putTogether 27 = .ok (.iload_n 3, 1) := by decide +kernel
theorem dX0_putTogether_28 : decode cX0_putTogether 28 = .ok (.invokestatic 56, 3) := by decide +kernel
theorem dX0_putTogether_31 : decode cX0_putTogether 31 = .ok (.ifCond .eq 21, 3) := by decide +kernel
theorem dX0_putTogether_34 : decode cX0_putTogether 34 = .ok (.iload 4, 2) := by decide +kernel
theorem dX0_putTogether_36 : decode cX0_putTogether 36 = .ok (.invokestatic 27, 3) := by decide +kernel
theorem dX0_putTogether_39 : decode cX0_putTogether 39 = .ok (.ifCond .eq 13, 3) := by decide +kernel
theorem dX0_putTogether_42 : decode cX0_putTogether 42 = .ok (.iload_n 3, 1) := by decide +kernel
theorem dX0_putTogether_43 : decode cX0_putTogether 43 = .ok (.iload 4, 2) := by decide +kernel
theorem dX0_putTogether_45 : decode cX0_putTogether 45 = .ok (.invokestatic 59, 3) := by decide +kernel
theorem dX0_putTogether_48 : decode cX0_putTogether 48 = .ok (.istore_n 3, 1) := by decide +kernel
theorem dX0_putTogether_49 : decode cX0_putTogether 49 = .ok (.iinc 2 1, 3) := by decide +kernel
theorem dX0_putTogether_52 : decode cX0_putTogether 52 = .ok (.aload_n 0, 1) := by decide +kernel
theorem dX0_putTogether_53 : decode cX0_putTogether 53 = .ok (.iload_n 1, 1) := by decide +kernel
theorem dX0_putTogether_54 : decode cX0_putTogether 54 = .ok (.iload_n 3, 1) := by decide +kernel
theorem dX0_putTogether_55 : decode cX0_putTogether 55 = .ok (.invokevirtual 37, 3) := by decide +kernel
theorem dX0_putTogether_58 : decode cX0_putTogether 58 = .ok (.iinc 1 1, 3) := by decide +kernel
theorem dX0_putTogether_61 : decode cX0_putTogether 61 = .ok (.iinc 2 1, 3) := by decide +kernel
theorem dX0_putTogether_64 : decode cX0_putTogether 64 = .ok (.goto (-60), 3) := by decide +kernel
theorem dX0_putTogether_67 : decode cX0_putTogether 67 = .ok (.aload_n 0, 1) := by decide +kernel
theorem dX0_putTogether_68 : decode cX0_putTogether 68 = .ok (.iload_n 1, 1) := by decide +kernel
theorem dX0_putTogether_69 : decode cX0_putTogether 69 = .ok (.putfield 15, 3) := by decide +kernel
theorem dX0_putTogether_72 : decode cX0_putTogether 72 = .ok (.return_, 1) := by decide +kernel
set_option maxRecDepth 20000 in
theorem ggX0_placeOfBase_X0_at : GoodIn wsX0_placeOfBase wsX0_at := goodIn_r _ [6, 1, 7, 11, 12] (by decide +kernel) (by decide +kernel)
set_option maxRecDepth 20000 in
theorem gX0_placeOfBase_X0_at : GoodIn wsX0_placeOfBase (wsV RX0 19 RX0 yX0_at wsX0_at) := goodIn_app (goodIn_of _ (by decide +kernel)) ggX0_placeOfBase_X0_at
set_option maxRecDepth 20000 in
theorem ggX0_placeOfBase_X2_isMark : GoodIn wsX0_placeOfBase wsX2_isMark := goodIn_r _ [10] (by decide +kernel) (by decide +kernel)
set_option maxRecDepth 20000 in
theorem gX0_placeOfBase_X2_isMark_n27 : GoodIn wsX0_placeOfBase (wsX2_isMark) := ggX0_placeOfBase_X2_isMark
theorem dX0_placeOfBase_0 : decode cX0_placeOfBase 0 = .ok (.lconst 0, 1) := by decide +kernel
theorem dX0_placeOfBase_1 : decode cX0_placeOfBase 1 = .ok (.lstore_n 3, 1) := by decide +kernel
theorem dX0_placeOfBase_2 : decode cX0_placeOfBase 2 = .ok (.iconst 0, 1) := by decide +kernel
theorem dX0_placeOfBase_3 : decode cX0_placeOfBase 3 = .ok (.istore 5, 2) := by decide +kernel
theorem dX0_placeOfBase_5 : decode cX0_placeOfBase 5 = .ok (.iload 5, 2) := by decide +kernel
theorem dX0_placeOfBase_7 : decode cX0_placeOfBase 7 = .ok (.aload_n 0, 1) := by decide +kernel
theorem dX0_placeOfBase_8 : decode cX0_placeOfBase 8 = .ok (.getfield 15, 3) := by decide +kernel
theorem dX0_placeOfBase_11 : decode cX0_placeOfBase 11 = .ok (.if_icmp .ge 37, 3) := by decide +kernel
theorem dX0_placeOfBase_14 : decode cX0_placeOfBase 14 = .ok (.aload_n 0, 1) := by decide +kernel
theorem dX0_placeOfBase_15 : decode cX0_placeOfBase 15 = .ok (.iload 5, 2) := by decide +kernel
theorem dX0_placeOfBase_17 : decode cX0_placeOfBase 17 = .ok (.invokevirtual 19, 3) := by decide +kernel
theorem dX0_placeOfBase_20 : decode cX0_placeOfBase 20 = .ok (.invokestatic 27, 3) := by decide +kernel
theorem dX0_placeOfBase_23 : decode cX0_placeOfBase 23 = .ok (.ifCond .eq 6, 3) := by decide +kernel
theorem dX0_placeOfBase_26 : decode cX0_placeOfBase 26 = .ok (.goto 16, 3) := by decide +kernel
theorem dX0_placeOfBase_29 : decode cX0_placeOfBase 29 = .ok (.lload_n 3, 1) := by decide +kernel
theorem dX0_placeOfBase_30 : decode cX0_placeOfBase 30 = .ok (.lload_n 1, 1) := by decide +kernel
theorem dX0_placeOfBase_31 : decode cX0_placeOfBase 31 = .ok (.lcmp, 1) := by decide +kernel
theorem dX0_placeOfBase_32 : decode cX0_placeOfBase 32 = .ok (.ifCond .ne 6, 3) := by decide +kernel
theorem dX0_placeOfBase_35 : decode cX0_placeOfBase 35 = .ok (.iload 5, 2) := by decide +kernel
theorem dX0_placeOfBase_37 : decode cX0_placeOfBase 37 = .ok (.ireturn, 1) := by decide +kernel
theorem dX0_placeOfBase_38 : decode cX0_placeOfBase 38 = .ok (.lload_n 3, 1) := by decide +kernel
theorem dX0_placeOfBase_39 : decode cX0_placeOfBase 39 = .ok (.lconst 1, 1) := by decide +kernel
theorem dX0_placeOfBase_40 : decode cX0_placeOfBase 40 = .ok (.ladd, 1) := by decide +kernel
theorem dX0_placeOfBase_41 : decode cX0_placeOfBase 41 = .ok (.lstore_n 3, 1) := by decide +kernel
theorem dX0_placeOfBase_42 : decode cX0_placeOfBase 42 = .ok (.iinc 5 1, 3) := by decide +kernel
theorem dX0_placeOfBase_45 : decode cX0_placeOfBase 45 = .ok (.goto (-40), 3) := by decide +kernel
theorem dX0_placeOfBase_48 : decode cX0_placeOfBase 48 = .ok (.iconst (-1), 1) := by decide +kernel
theorem dX0_placeOfBase_49 : decode cX0_placeOfBase 49 = .ok (.ireturn, 1) := by decide +kernel
set_option maxRecDepth 20000 in
theorem ggX0_bases_X0_at : GoodIn wsX0_bases wsX0_at := goodIn_r _ [6, 1, 7, 11, 12] (by decide +kernel) (by decide +kernel)
set_option maxRecDepth 20000 in
theorem gX0_bases_X0_at : GoodIn wsX0_bases (wsV RX0 19 RX0 yX0_at wsX0_at) := goodIn_app (goodIn_of _ (by decide +kernel)) ggX0_bases_X0_at
set_option maxRecDepth 20000 in
theorem ggX0_bases_X2_isMark : GoodIn wsX0_bases wsX2_isMark := goodIn_r _ [10] (by decide +kernel) (by decide +kernel)
set_option maxRecDepth 20000 in
theorem gX0_bases_X2_isMark_n27 : GoodIn wsX0_bases (wsX2_isMark) := ggX0_bases_X2_isMark
theorem dX0_bases_0 : decode cX0_bases 0 = .ok (.iconst 0, 1) := by decide +kernel
theorem dX0_bases_1 : decode cX0_bases 1 = .ok (.istore_n 1, 1) := by decide +kernel
theorem dX0_bases_2 : decode cX0_bases 2 = .ok (.iconst 0, 1) := by decide +kernel
theorem dX0_bases_3 : decode cX0_bases 3 = .ok (.istore_n 2, 1) := by decide +kernel
theorem dX0_bases_4 : decode cX0_bases 4 = .ok (.iload_n 2, 1) := by decide +kernel
theorem dX0_bases_5 : decode cX0_bases 5 = .ok (.aload_n 0, 1) := by decide +kernel
theorem dX0_bases_6 : decode cX0_bases 6 = .ok (.getfield 15, 3) := by decide +kernel
theorem dX0_bases_9 : decode cX0_bases 9 = .ok (.if_icmp .ge 28, 3) := by decide +kernel
theorem dX0_bases_12 : decode cX0_bases 12 = .ok (.iload_n 1, 1) := by decide +kernel
theorem dX0_bases_13 : decode cX0_bases 13 = .ok (.aload_n 0, 1) := by decide +kernel
theorem dX0_bases_14 : decode cX0_bases 14 = .ok (.iload_n 2, 1) := by decide +kernel
theorem dX0_bases_15 : decode cX0_bases 15 = .ok (.invokevirtual 19, 3) := by decide +kernel
theorem dX0_bases_18 : decode cX0_bases 18 = .ok (.invokestatic 27, 3) := by decide +kernel
theorem dX0_bases_21 : decode cX0_bases 21 = .ok (.ifCond .eq 7, 3) := by decide +kernel
theorem dX0_bases_24 : decode cX0_bases 24 = .ok (.iconst 0, 1) := by decide +kernel
theorem dX0_bases_25 : decode cX0_bases 25 = .ok (.goto 4, 3) := by decide +kernel
theorem dX0_bases_28 : decode cX0_bases 28 = .ok (.iconst 1, 1) := by decide +kernel
theorem dX0_bases_29 : decode cX0_bases 29 = .ok (.iadd, 1) := by decide +kernel
theorem dX0_bases_30 : decode cX0_bases 30 = .ok (.istore_n 1, 1) := by decide +kernel
theorem dX0_bases_31 : decode cX0_bases 31 = .ok (.iinc 2 1, 3) := by decide +kernel
theorem dX0_bases_34 : decode cX0_bases 34 = .ok (.goto (-30), 3) := by decide +kernel
theorem dX0_bases_37 : decode cX0_bases 37 = .ok (.iload_n 1, 1) := by decide +kernel
theorem dX0_bases_38 : decode cX0_bases 38 = .ok (.ireturn, 1) := by decide +kernel
set_option maxRecDepth 20000 in
theorem ggX0_marksBehind_X0_at : GoodIn wsX0_marksBehind wsX0_at := goodIn_r _ [6, 1, 7, 11, 12] (by decide +kernel) (by decide +kernel)
set_option maxRecDepth 20000 in
theorem gX0_marksBehind_X0_at : GoodIn wsX0_marksBehind (wsV RX0 19 RX0 yX0_at wsX0_at) := goodIn_app (goodIn_of _ (by decide +kernel)) ggX0_marksBehind_X0_at
set_option maxRecDepth 20000 in
theorem ggX0_marksBehind_X2_isMark : GoodIn wsX0_marksBehind wsX2_isMark := goodIn_r _ [10] (by decide +kernel) (by decide +kernel)
set_option maxRecDepth 20000 in
theorem gX0_marksBehind_X2_isMark_n27 : GoodIn wsX0_marksBehind (wsX2_isMark) := ggX0_marksBehind_X2_isMark
theorem dX0_marksBehind_0 : decode cX0_marksBehind 0 = .ok (.iconst 0, 1) := by decide +kernel
theorem dX0_marksBehind_1 : decode cX0_marksBehind 1 = .ok (.istore_n 2, 1) := by decide +kernel
theorem dX0_marksBehind_2 : decode cX0_marksBehind 2 = .ok (.iload_n 1, 1) := by decide +kernel
theorem dX0_marksBehind_3 : decode cX0_marksBehind 3 = .ok (.iconst 1, 1) := by decide +kernel
theorem dX0_marksBehind_4 : decode cX0_marksBehind 4 = .ok (.iadd, 1) := by decide +kernel
theorem dX0_marksBehind_5 : decode cX0_marksBehind 5 = .ok (.istore_n 3, 1) := by decide +kernel
theorem dX0_marksBehind_6 : decode cX0_marksBehind 6 = .ok (.iload_n 3, 1) := by decide +kernel
theorem dX0_marksBehind_7 : decode cX0_marksBehind 7 = .ok (.aload_n 0, 1) := by decide +kernel
theorem dX0_marksBehind_8 : decode cX0_marksBehind 8 = .ok (.getfield 15, 3) := by decide +kernel
theorem dX0_marksBehind_11 : decode cX0_marksBehind 11 = .ok (.if_icmp .ge 23, 3) := by decide +kernel
theorem dX0_marksBehind_14 : decode cX0_marksBehind 14 = .ok (.aload_n 0, 1) := by decide +kernel
theorem dX0_marksBehind_15 : decode cX0_marksBehind 15 = .ok (.iload_n 3, 1) := by decide +kernel
theorem dX0_marksBehind_16 : decode cX0_marksBehind 16 = .ok (.invokevirtual 19, 3) := by decide +kernel
theorem dX0_marksBehind_19 : decode cX0_marksBehind 19 = .ok (.invokestatic 27, 3) := by decide +kernel
theorem dX0_marksBehind_22 : decode cX0_marksBehind 22 = .ok (.ifCond .eq 12, 3) := by decide +kernel
theorem dX0_marksBehind_25 : decode cX0_marksBehind 25 = .ok (.iinc 2 1, 3) := by decide +kernel
theorem dX0_marksBehind_28 : decode cX0_marksBehind 28 = .ok (.iinc 3 1, 3) := by decide +kernel
theorem dX0_marksBehind_31 : decode cX0_marksBehind 31 = .ok (.goto (-25), 3) := by decide +kernel
theorem dX0_marksBehind_34 : decode cX0_marksBehind 34 = .ok (.iload_n 2, 1) := by decide +kernel
theorem dX0_marksBehind_35 : decode cX0_marksBehind 35 = .ok (.ireturn, 1) := by decide +kernel
set_option maxRecDepth 20000 in
theorem ggX0_holdsWhat_X0_at : GoodIn wsX0_holdsWhat wsX0_at := goodIn_r _ [6, 1, 7, 8, 9] (by decide +kernel) (by decide +kernel)
set_option maxRecDepth 20000 in
theorem gX0_holdsWhat_X0_at : GoodIn wsX0_holdsWhat (wsV RX0 19 RX0 yX0_at wsX0_at) := goodIn_app (goodIn_of _ (by decide +kernel)) ggX0_holdsWhat_X0_at
theorem dX0_holdsWhat_0 : decode cX0_holdsWhat 0 = .ok (.aload_n 0, 1) := by decide +kernel
theorem dX0_holdsWhat_1 : decode cX0_holdsWhat 1 = .ok (.getfield 15, 3) := by decide +kernel
theorem dX0_holdsWhat_4 : decode cX0_holdsWhat 4 = .ok (.aload_n 1, 1) := by decide +kernel
theorem dX0_holdsWhat_5 : decode cX0_holdsWhat 5 = .ok (.getfield 15, 3) := by decide +kernel
theorem dX0_holdsWhat_8 : decode cX0_holdsWhat 8 = .ok (.if_icmp .eq 5, 3) := by decide +kernel
theorem dX0_holdsWhat_11 : decode cX0_holdsWhat 11 = .ok (.iconst 0, 1) := by decide +kernel
theorem dX0_holdsWhat_12 : decode cX0_holdsWhat 12 = .ok (.ireturn, 1) := by decide +kernel
theorem dX0_holdsWhat_13 : decode cX0_holdsWhat 13 = .ok (.iconst 0, 1) := by decide +kernel
theorem dX0_holdsWhat_14 : decode cX0_holdsWhat 14 = .ok (.istore_n 2, 1) := by decide +kernel
theorem dX0_holdsWhat_15 : decode cX0_holdsWhat 15 = .ok (.iload_n 2, 1) := by decide +kernel
theorem dX0_holdsWhat_16 : decode cX0_holdsWhat 16 = .ok (.aload_n 0, 1) := by decide +kernel
theorem dX0_holdsWhat_17 : decode cX0_holdsWhat 17 = .ok (.getfield 15, 3) := by decide +kernel
theorem dX0_holdsWhat_20 : decode cX0_holdsWhat 20 = .ok (.if_icmp .ge 24, 3) := by decide +kernel
theorem dX0_holdsWhat_23 : decode cX0_holdsWhat 23 = .ok (.aload_n 0, 1) := by decide +kernel
theorem dX0_holdsWhat_24 : decode cX0_holdsWhat 24 = .ok (.iload_n 2, 1) := by decide +kernel
theorem dX0_holdsWhat_25 : decode cX0_holdsWhat 25 = .ok (.invokevirtual 19, 3) := by decide +kernel
theorem dX0_holdsWhat_28 : decode cX0_holdsWhat 28 = .ok (.aload_n 1, 1) := by decide +kernel
theorem dX0_holdsWhat_29 : decode cX0_holdsWhat 29 = .ok (.iload_n 2, 1) := by decide +kernel
theorem dX0_holdsWhat_30 : decode cX0_holdsWhat 30 = .ok (.invokevirtual 19, 3) := by decide +kernel
theorem dX0_holdsWhat_33 : decode cX0_holdsWhat 33 = .ok (.if_icmp .eq 5, 3) := by decide +kernel
theorem dX0_holdsWhat_36 : decode cX0_holdsWhat 36 = .ok (.iconst 0, 1) := by decide +kernel
theorem dX0_holdsWhat_37 : decode cX0_holdsWhat 37 = .ok (.ireturn, 1) := by decide +kernel
theorem dX0_holdsWhat_38 : decode cX0_holdsWhat 38 = .ok (.iinc 2 1, 3) := by decide +kernel
theorem dX0_holdsWhat_41 : decode cX0_holdsWhat 41 = .ok (.goto (-26), 3) := by decide +kernel
theorem dX0_holdsWhat_44 : decode cX0_holdsWhat 44 = .ok (.iconst 1, 1) := by decide +kernel
theorem dX0_holdsWhat_45 : decode cX0_holdsWhat 45 = .ok (.ireturn, 1) := by decide +kernel
theorem dX1_init_0 : decode cX1_init 0 = .ok (.aload_n 0, 1) := by decide +kernel
theorem dX1_init_1 : decode cX1_init 1 = .ok (.invokespecial 3, 3) := by decide +kernel
theorem dX1_init_4 : decode cX1_init 4 = .ok (.aload_n 0, 1) := by decide +kernel
theorem dX1_init_5 : decode cX1_init 5 = .ok (.aload_n 1, 1) := by decide +kernel
theorem dX1_init_6 : decode cX1_init 6 = .ok (.putfield 9, 3) := by decide +kernel
theorem dX1_init_9 : decode cX1_init 9 = .ok (.aload_n 0, 1) := by decide +kernel
theorem dX1_init_10 : decode cX1_init 10 = .ok (.iconst 0, 1) := by decide +kernel
theorem dX1_init_11 : decode cX1_init 11 = .ok (.putfield 15, 3) := by decide +kernel
theorem dX1_init_14 : decode cX1_init 14 = .ok (.return_, 1) := by decide +kernel
theorem dX1_empty_0 : decode cX1_empty 0 = .ok (.aload_n 0, 1) := by decide +kernel
theorem dX1_empty_1 : decode cX1_empty 1 = .ok (.iconst 0, 1) := by decide +kernel
theorem dX1_empty_2 : decode cX1_empty 2 = .ok (.putfield 15, 3) := by decide +kernel
theorem dX1_empty_5 : decode cX1_empty 5 = .ok (.return_, 1) := by decide +kernel
theorem dX1_add_0 : decode cX1_add 0 = .ok (.aload_n 0, 1) := by decide +kernel
theorem dX1_add_1 : decode cX1_add 1 = .ok (.getfield 15, 3) := by decide +kernel
theorem dX1_add_4 : decode cX1_add 4 = .ok (.aload_n 0, 1) := by decide +kernel
theorem dX1_add_5 : decode cX1_add 5 = .ok (.getfield 9, 3) := by decide +kernel
theorem dX1_add_8 : decode cX1_add 8 = .ok (.arraylength, 1) := by decide +kernel
theorem dX1_add_9 : decode cX1_add 9 = .ok (.if_icmp .ge 24, 3) := by decide +kernel
theorem dX1_add_12 : decode cX1_add 12 = .ok (.aload_n 0, 1) := by decide +kernel
theorem dX1_add_13 : decode cX1_add 13 = .ok (.getfield 9, 3) := by decide +kernel
theorem dX1_add_16 : decode cX1_add 16 = .ok (.aload_n 0, 1) := by decide +kernel
theorem dX1_add_17 : decode cX1_add 17 = .ok (.getfield 15, 3) := by decide +kernel
theorem dX1_add_20 : decode cX1_add 20 = .ok (.iload_n 1, 1) := by decide +kernel
theorem dX1_add_21 : decode cX1_add 21 = .ok (.i2b, 1) := by decide +kernel
theorem dX1_add_22 : decode cX1_add 22 = .ok (.bastore, 1) := by decide +kernel
theorem dX1_add_23 : decode cX1_add 23 = .ok (.aload_n 0, 1) := by decide +kernel
theorem dX1_add_24 : decode cX1_add 24 = .ok (.dup, 1) := by decide +kernel
theorem dX1_add_25 : decode cX1_add 25 = .ok (.getfield 15, 3) := by decide +kernel
theorem dX1_add_28 : decode cX1_add 28 = .ok (.iconst 1, 1) := by decide +kernel
theorem dX1_add_29 : decode cX1_add 29 = .ok (.iadd, 1) := by decide +kernel
theorem dX1_add_30 : decode cX1_add 30 = .ok (.putfield 15, 3) := by decide +kernel
theorem dX1_add_33 : decode cX1_add 33 = .ok (.return_, 1) := by decide +kernel
theorem dX1_at_0 : decode cX1_at 0 = .ok (.iload_n 1, 1) := by decide +kernel
theorem dX1_at_1 : decode cX1_at 1 = .ok (.ifCond .lt 24, 3) := by decide +kernel
theorem dX1_at_4 : decode cX1_at 4 = .ok (.iload_n 1, 1) := by decide +kernel
theorem dX1_at_5 : decode cX1_at 5 = .ok (.aload_n 0, 1) := by decide +kernel
theorem dX1_at_6 : decode cX1_at 6 = .ok (.getfield 15, 3) := by decide +kernel
theorem dX1_at_9 : decode cX1_at 9 = .ok (.if_icmp .ge 16, 3) := by decide +kernel
theorem dX1_at_12 : decode cX1_at 12 = .ok (.aload_n 0, 1) := by decide +kernel
theorem dX1_at_13 : decode cX1_at 13 = .ok (.getfield 9, 3) := by decide +kernel
theorem dX1_at_16 : decode cX1_at 16 = .ok (.iload_n 1, 1) := by decide +kernel
theorem dX1_at_17 : decode cX1_at 17 = .ok (.baload, 1) := by decide +kernel
theorem dX1_at_18 : decode cX1_at 18 = .ok (.sipush 255, 3) := by decide +kernel
theorem dX1_at_21 : decode cX1_at 21 = .ok (.iand, 1) := by decide +kernel
theorem dX1_at_22 : decode cX1_at 22 = .ok (.goto 4, 3) := by decide +kernel
theorem dX1_at_25 : decode cX1_at 25 = .ok (.iconst (-1), 1) := by decide +kernel
theorem dX1_at_26 : decode cX1_at 26 = .ok (.ireturn, 1) := by decide +kernel
set_option maxRecDepth 20000 in
theorem ggX2_init_X1_init : GoodIn wsX2_init wsX1_init := goodIn_r _ [24, 25, 2, 3, 26, 27, 35, 36] (by decide +kernel) (by decide +kernel)
set_option maxRecDepth 20000 in
theorem gX2_init_X1_init : GoodIn wsX2_init (wsX1_init) := ggX2_init_X1_init
set_option maxRecDepth 20000 in
theorem ggX2_init_X0_init : GoodIn wsX2_init wsX0_init := goodIn_r _ [30, 31, 2, 3, 32, 33, 34, 48, 49] (by decide +kernel) (by decide +kernel)
set_option maxRecDepth 20000 in
theorem gX2_init_X0_init : GoodIn wsX2_init (wsX0_init) := ggX2_init_X0_init
end
section
theorem dX2_init_0 : decode cX2_init 0 = .ok (.aload_n 0, 1) := by decide +kernel
theorem dX2_init_1 : decode cX2_init 1 = .ok (.invokespecial 3, 3) := by decide +kernel
theorem dX2_init_4 : decode cX2_init 4 = .ok (.aload_n 0, 1) := by decide +kernel
theorem dX2_init_5 : decode cX2_init 5 = .ok (.new 9, 3) := by decide +kernel
theorem dX2_init_8 : decode cX2_init 8 = .ok (.dup, 1) := by decide +kernel
theorem dX2_init_9 : decode cX2_init 9 = .ok (.sipush 200, 3) := by decide +kernel
theorem dX2_init_12 : decode cX2_init 12 = .ok (.newarray .byte, 2) := by decide +kernel
theorem dX2_init_14 : decode cX2_init 14 = .ok (.invokespecial 11, 3) := by decide +kernel
theorem dX2_init_17 : decode cX2_init 17 = .ok (.putfield 14, 3) := by decide +kernel
theorem dX2_init_20 : decode cX2_init 20 = .ok (.aload_n 0, 1) := by decide +kernel
theorem dX2_init_21 : decode cX2_init 21 = .ok (.new 9, 3) := by decide +kernel
theorem dX2_init_24 : decode cX2_init 24 = .ok (.dup, 1) := by decide +kernel
theorem dX2_init_25 : decode cX2_init 25 = .ok (.sipush 400, 3) := by decide +kernel
theorem dX2_init_28 : decode cX2_init 28 = .ok (.newarray .byte, 2) := by decide +kernel
theorem dX2_init_30 : decode cX2_init 30 = .ok (.invokespecial 11, 3) := by decide +kernel
theorem dX2_init_33 : decode cX2_init 33 = .ok (.putfield 18, 3) := by decide +kernel
theorem dX2_init_36 : decode cX2_init 36 = .ok (.aload_n 0, 1) := by decide +kernel
theorem dX2_init_37 : decode cX2_init 37 = .ok (.new 21, 3) := by decide +kernel
theorem dX2_init_40 : decode cX2_init 40 = .ok (.dup, 1) := by decide +kernel
theorem dX2_init_41 : decode cX2_init 41 = .ok (.invokespecial 23, 3) := by decide +kernel
theorem dX2_init_44 : decode cX2_init 44 = .ok (.putfield 24, 3) := by decide +kernel
theorem dX2_init_47 : decode cX2_init 47 = .ok (.aload_n 0, 1) := by decide +kernel
theorem dX2_init_48 : decode cX2_init 48 = .ok (.new 21, 3) := by decide +kernel
theorem dX2_init_51 : decode cX2_init 51 = .ok (.dup, 1) := by decide +kernel
theorem dX2_init_52 : decode cX2_init 52 = .ok (.invokespecial 23, 3) := by decide +kernel
theorem dX2_init_55 : decode cX2_init 55 = .ok (.putfield 28, 3) := by decide +kernel
theorem dX2_init_58 : decode cX2_init 58 = .ok (.aload_n 0, 1) := by decide +kernel
theorem dX2_init_59 : decode cX2_init 59 = .ok (.new 21, 3) := by decide +kernel
theorem dX2_init_62 : decode cX2_init 62 = .ok (.dup, 1) := by decide +kernel
theorem dX2_init_63 : decode cX2_init 63 = .ok (.invokespecial 23, 3) := by decide +kernel
theorem dX2_init_66 : decode cX2_init 66 = .ok (.putfield 31, 3) := by decide +kernel
theorem dX2_init_69 : decode cX2_init 69 = .ok (.aload_n 0, 1) := by decide +kernel
theorem dX2_init_70 : decode cX2_init 70 = .ok (.new 21, 3) := by decide +kernel
theorem dX2_init_73 : decode cX2_init 73 = .ok (.dup, 1) := by decide +kernel
theorem dX2_init_74 : decode cX2_init 74 = .ok (.invokespecial 23, 3) := by decide +kernel
theorem dX2_init_77 : decode cX2_init 77 = .ok (.putfield 34, 3) := by decide +kernel
theorem dX2_init_80 : decode cX2_init 80 = .ok (.aload_n 0, 1) := by decide +kernel
theorem dX2_init_81 : decode cX2_init 81 = .ok (.new 21, 3) := by decide +kernel
theorem dX2_init_84 : decode cX2_init 84 = .ok (.dup, 1) := by decide +kernel
theorem dX2_init_85 : decode cX2_init 85 = .ok (.invokespecial 23, 3) := by decide +kernel
theorem dX2_init_88 : decode cX2_init 88 = .ok (.putfield 37, 3) := by decide +kernel
theorem dX2_init_91 : decode cX2_init 91 = .ok (.aload_n 0, 1) := by decide +kernel
theorem dX2_init_92 : decode cX2_init 92 = .ok (.new 21, 3) := by decide +kernel
theorem dX2_init_95 : decode cX2_init 95 = .ok (.dup, 1) := by decide +kernel
theorem dX2_init_96 : decode cX2_init 96 = .ok (.invokespecial 23, 3) := by decide +kernel
theorem dX2_init_99 : decode cX2_init 99 = .ok (.putfield 40, 3) := by decide +kernel
theorem dX2_init_102 : decode cX2_init 102 = .ok (.aload_n 0, 1) := by decide +kernel
theorem dX2_init_103 : decode cX2_init 103 = .ok (.new 21, 3) := by decide +kernel
theorem dX2_init_106 : decode cX2_init 106 = .ok (.dup, 1) := by decide +kernel
theorem dX2_init_107 : decode cX2_init 107 = .ok (.invokespecial 23, 3) := by decide +kernel
theorem dX2_init_110 : decode cX2_init 110 = .ok (.putfield 43, 3) := by decide +kernel
theorem dX2_init_113 : decode cX2_init 113 = .ok (.aload_n 0, 1) := by decide +kernel
theorem dX2_init_114 : decode cX2_init 114 = .ok (.new 21, 3) := by decide +kernel
theorem dX2_init_117 : decode cX2_init 117 = .ok (.dup, 1) := by decide +kernel
theorem dX2_init_118 : decode cX2_init 118 = .ok (.invokespecial 23, 3) := by decide +kernel
theorem dX2_init_121 : decode cX2_init 121 = .ok (.putfield 46, 3) := by decide +kernel
theorem dX2_init_124 : decode cX2_init 124 = .ok (.aload_n 0, 1) := by decide +kernel
theorem dX2_init_125 : decode cX2_init 125 = .ok (.bipush 63, 2) := by decide +kernel
theorem dX2_init_127 : decode cX2_init 127 = .ok (.putfield 49, 3) := by decide +kernel
theorem dX2_init_130 : decode cX2_init 130 = .ok (.return_, 1) := by decide +kernel
set_option maxRecDepth 20000 in
theorem ggX2_octet_X1_add : GoodIn wsX2_octet wsX1_add := goodIn_r _ [6, 7, 8, 20, 21] (by decide +kernel) (by decide +kernel)
set_option maxRecDepth 20000 in
theorem gX2_octet_X1_add : GoodIn wsX2_octet (wsV RX2 53 RX1 yX1_add wsX1_add) := goodIn_app (goodIn_of _ (by decide +kernel)) ggX2_octet_X1_add
theorem dX2_octet_0 : decode cX2_octet 0 = .ok (.aload_n 0, 1) := by decide +kernel
theorem dX2_octet_1 : decode cX2_octet 1 = .ok (.getfield 14, 3) := by decide +kernel
theorem dX2_octet_4 : decode cX2_octet 4 = .ok (.iload_n 1, 1) := by decide +kernel
theorem dX2_octet_5 : decode cX2_octet 5 = .ok (.invokevirtual 53, 3) := by decide +kernel
theorem dX2_octet_8 : decode cX2_octet 8 = .ok (.return_, 1) := by decide +kernel
set_option maxRecDepth 20000 in
theorem ggX2_read_X0_empty : GoodIn wsX2_read wsX0_empty := goodIn_r _ [9, 10, 123, 124] (by decide +kernel) (by decide +kernel)
set_option maxRecDepth 20000 in
theorem gX2_read_X0_empty : GoodIn wsX2_read (wsV RX2 57 RX0 yX0_empty wsX0_empty) := goodIn_app (goodIn_of _ (by decide +kernel)) ggX2_read_X0_empty
set_option maxRecDepth 20000 in
theorem ggX2_read_X2_wrongInOldKind : GoodIn wsX2_read wsX2_wrongInOldKind := goodIn_r _ [15, 16, 2, 1, 5, 6, 7, 8, 9, 10, 17, 18, 19, 20, 21, 22, 23, 24, 25, 26, 14, 27, 28, 29, 30, 31, 32, 33, 34, 35, 36, 37, 38, 39, 40, 41, 42, 43, 44, 45, 46, 47, 48, 49, 50, 51, 52, 53, 54, 55, 56, 112, 113, 114, 115, 116, 117, 118, 119, 120, 121, 122, 125, 126, 123, 124] (by decide +kernel) (by decide +kernel)
set_option maxRecDepth 20000 in
theorem gX2_read_X2_wrongInOldKind : GoodIn wsX2_read (wsV RX2 60 RX2 yX2_wrongInOldKind wsX2_wrongInOldKind) := goodIn_app (goodIn_of _ (by decide +kernel)) ggX2_read_X2_wrongInOldKind
set_option maxRecDepth 20000 in
theorem ggX2_read_X2_wrongInNewKind : GoodIn wsX2_read wsX2_wrongInNewKind := goodIn_r _ [60, 2, 1, 61, 62, 63, 14, 64, 17, 18, 19, 20, 21, 22, 23, 65, 66, 67, 31, 32, 33, 68, 69, 70, 71, 72, 73, 37, 38, 39, 74, 75, 76, 77, 78, 79, 80, 81, 82, 83, 84, 85, 86, 87, 88, 89, 90, 91, 92, 93, 43, 44, 45, 8, 46, 10, 47, 112, 113, 114, 115, 116, 117, 118, 119, 120, 121, 122, 125, 126, 123, 124] (by decide +kernel) (by decide +kernel)
set_option maxRecDepth 20000 in
theorem gX2_read_X2_wrongInNewKind : GoodIn wsX2_read (wsV RX2 64 RX2 yX2_wrongInNewKind wsX2_wrongInNewKind) := goodIn_app (goodIn_of _ (by decide +kernel)) ggX2_read_X2_wrongInNewKind
set_option maxRecDepth 20000 in
theorem ggX2_read_X1_empty : GoodIn wsX2_read wsX1_empty := goodIn_r _ [97, 22, 125, 126] (by decide +kernel) (by decide +kernel)
set_option maxRecDepth 20000 in
theorem gX2_read_X1_empty : GoodIn wsX2_read (wsV RX2 67 RX1 yX1_empty wsX1_empty) := goodIn_app (goodIn_of _ (by decide +kernel)) ggX2_read_X1_empty
set_option maxRecDepth 20000 in
theorem ggX2_read_X0_putInOrder : GoodIn wsX2_read wsX0_putInOrder := goodIn_r _ [101, 10, 52, 53, 54, 8, 55, 47, 38, 14, 39, 102, 103, 104, 105, 106, 107, 108, 109, 110, 111, 123, 124] (by decide +kernel) (by decide +kernel)
set_option maxRecDepth 20000 in
theorem gX2_read_X0_putInOrder : GoodIn wsX2_read (wsV RX2 68 RX0 yX0_putInOrder wsX0_putInOrder) := goodIn_app (goodIn_of _ (by decide +kernel)) ggX2_read_X0_putInOrder
theorem dX2_read_0 : decode cX2_read 0 = .ok (.aload_n 0, 1) := by decide +kernel
theorem dX2_read_1 : decode cX2_read 1 = .ok (.getfield 31, 3) := by decide +kernel
theorem dX2_read_4 : decode cX2_read 4 = .ok (.invokevirtual 57, 3) := by decide +kernel
theorem dX2_read_7 : decode cX2_read 7 = .ok (.iload_n 1, 1) := by decide +kernel
theorem dX2_read_8 : decode cX2_read 8 = .ok (.ifCond .ne 10, 3) := by decide +kernel
theorem dX2_read_11 : decode cX2_read 11 = .ok (.aload_n 0, 1) := by decide +kernel
theorem dX2_read_12 : decode cX2_read 12 = .ok (.invokevirtual 60, 3) := by decide +kernel
theorem dX2_read_15 : decode cX2_read 15 = .ok (.goto 7, 3) := by decide +kernel
theorem dX2_read_18 : decode cX2_read 18 = .ok (.aload_n 0, 1) := by decide +kernel
theorem dX2_read_19 : decode cX2_read 19 = .ok (.invokevirtual 64, 3) := by decide +kernel
theorem dX2_read_22 : decode cX2_read 22 = .ok (.istore_n 2, 1) := by decide +kernel
theorem dX2_read_23 : decode cX2_read 23 = .ok (.aload_n 0, 1) := by decide +kernel
theorem dX2_read_24 : decode cX2_read 24 = .ok (.getfield 14, 3) := by decide +kernel
theorem dX2_read_27 : decode cX2_read 27 = .ok (.invokevirtual 67, 3) := by decide +kernel
theorem dX2_read_30 : decode cX2_read 30 = .ok (.iload_n 2, 1) := by decide +kernel
theorem dX2_read_31 : decode cX2_read 31 = .ok (.iconst (-1), 1) := by decide +kernel
theorem dX2_read_32 : decode cX2_read 32 = .ok (.if_icmp .eq 7, 3) := by decide +kernel
theorem dX2_read_35 : decode cX2_read 35 = .ok (.iconst (-1), 1) := by decide +kernel
theorem dX2_read_36 : decode cX2_read 36 = .ok (.iload_n 2, 1) := by decide +kernel
theorem dX2_read_37 : decode cX2_read 37 = .ok (.isub, 1) := by decide +kernel
theorem dX2_read_38 : decode cX2_read 38 = .ok (.ireturn, 1) := by decide +kernel
theorem dX2_read_39 : decode cX2_read 39 = .ok (.aload_n 0, 1) := by decide +kernel
theorem dX2_read_40 : decode cX2_read 40 = .ok (.getfield 31, 3) := by decide +kernel
theorem dX2_read_43 : decode cX2_read 43 = .ok (.invokevirtual 68, 3) := by decide +kernel
theorem dX2_read_46 : decode cX2_read 46 = .ok (.aload_n 0, 1) := by decide +kernel
theorem dX2_read_47 : decode cX2_read 47 = .ok (.getfield 28, 3) := by decide +kernel
theorem dX2_read_50 : decode cX2_read 50 = .ok (.astore_n 3, 1) := by decide +kernel
theorem dX2_read_51 : decode cX2_read 51 = .ok (.aload_n 0, 1) := by decide +kernel
theorem dX2_read_52 : decode cX2_read 52 = .ok (.aload_n 0, 1) := by decide +kernel
theorem dX2_read_53 : decode cX2_read 53 = .ok (.getfield 24, 3) := by decide +kernel
theorem dX2_read_56 : decode cX2_read 56 = .ok (.putfield 28, 3) := by decide +kernel
theorem dX2_read_59 : decode cX2_read 59 = .ok (.aload_n 0, 1) := by decide +kernel
theorem dX2_read_60 : decode cX2_read 60 = .ok (.aload_n 0, 1) := by decide +kernel
theorem dX2_read_61 : decode cX2_read 61 = .ok (.getfield 31, 3) := by decide +kernel
theorem dX2_read_64 : decode cX2_read 64 = .ok (.putfield 24, 3) := by decide +kernel
theorem dX2_read_67 : decode cX2_read 67 = .ok (.aload_n 0, 1) := by decide +kernel
theorem dX2_read_68 : decode cX2_read 68 = .ok (.aload_n 3, 1) := by decide +kernel
theorem dX2_read_69 : decode cX2_read 69 = .ok (.putfield 31, 3) := by decide +kernel
theorem dX2_read_72 : decode cX2_read 72 = .ok (.aload_n 0, 1) := by decide +kernel
theorem dX2_read_73 : decode cX2_read 73 = .ok (.getfield 24, 3) := by decide +kernel
theorem dX2_read_76 : decode cX2_read 76 = .ok (.getfield 71, 3) := by decide +kernel
theorem dX2_read_79 : decode cX2_read 79 = .ok (.ireturn, 1) := by decide +kernel
set_option maxRecDepth 20000 in
theorem ggX2_character_X0_at : GoodIn wsX2_character wsX0_at := goodIn_r _ [6, 7, 8, 20, 21] (by decide +kernel) (by decide +kernel)
set_option maxRecDepth 20000 in
theorem gX2_character_X0_at : GoodIn wsX2_character (wsV RX2 74 RX0 yX0_at wsX0_at) := goodIn_app (goodIn_of _ (by decide +kernel)) ggX2_character_X0_at
theorem dX2_character_0 : decode cX2_character 0 = .ok (.aload_n 0, 1) := by decide +kernel
theorem dX2_character_1 : decode cX2_character 1 = .ok (.getfield 24, 3) := by decide +kernel
theorem dX2_character_4 : decode cX2_character 4 = .ok (.iload_n 1, 1) := by decide +kernel
theorem dX2_character_5 : decode cX2_character 5 = .ok (.invokevirtual 74, 3) := by decide +kernel
theorem dX2_character_8 : decode cX2_character 8 = .ok (.ireturn, 1) := by decide +kernel
set_option maxRecDepth 20000 in
theorem ggX2_write_X1_empty : GoodIn wsX2_write wsX1_empty := goodIn_r _ [8, 9, 93, 94] (by decide +kernel) (by decide +kernel)
set_option maxRecDepth 20000 in
theorem gX2_write_X1_empty : GoodIn wsX2_write (wsV RX2 67 RX1 yX1_empty wsX1_empty) := goodIn_app (goodIn_of _ (by decide +kernel)) ggX2_write_X1_empty
set_option maxRecDepth 20000 in
theorem ggX2_write_X0_empty : GoodIn wsX2_write wsX0_empty := goodIn_r _ [14, 15, 95, 96] (by decide +kernel) (by decide +kernel)
set_option maxRecDepth 20000 in
theorem gX2_write_X0_empty : GoodIn wsX2_write (wsV RX2 57 RX0 yX0_empty wsX0_empty) := goodIn_app (goodIn_of _ (by decide +kernel)) ggX2_write_X0_empty
set_option maxRecDepth 20000 in
theorem ggX2_write_X2_writeOldKind : GoodIn wsX2_write wsX2_writeOldKind := goodIn_r _ [20, 21, 1, 22, 23, 24, 25, 13, 26, 15, 27, 28, 29, 19, 30, 31, 32, 33, 34, 2, 3, 35, 36, 37, 38, 39, 40, 41, 42, 43, 44, 45, 46, 47, 48, 49, 50, 51, 52, 53, 54, 55, 56, 7, 57, 9, 58, 59, 60, 61, 62, 63, 64, 65, 66, 67, 68, 69, 70, 82, 83, 84, 85, 86, 87, 88, 89, 90, 91, 92, 95, 96, 93, 94] (by decide +kernel) (by decide +kernel)
set_option maxRecDepth 20000 in
theorem gX2_write_X2_writeOldKind : GoodIn wsX2_write (wsV RX2 78 RX2 yX2_writeOldKind wsX2_writeOldKind) := goodIn_app (goodIn_of _ (by decide +kernel)) ggX2_write_X2_writeOldKind
set_option maxRecDepth 20000 in
theorem ggX2_write_X2_writeNewKind : GoodIn wsX2_write wsX2_writeNewKind := goodIn_r _ [74, 21, 23, 24, 25, 13, 26, 15, 27, 75, 76, 77, 19, 78, 1, 79, 80, 81, 54, 55, 56, 7, 57, 9, 58, 82, 83, 84, 85, 86, 87, 88, 89, 90, 91, 92, 95, 96, 93, 94] (by decide +kernel) (by decide +kernel)
set_option maxRecDepth 20000 in
theorem gX2_write_X2_writeNewKind : GoodIn wsX2_write (wsV RX2 81 RX2 yX2_writeNewKind wsX2_writeNewKind) := goodIn_app (goodIn_of _ (by decide +kernel)) ggX2_write_X2_writeNewKind
theorem dX2_write_0 : decode cX2_write 0 = .ok (.aload_n 0, 1) := by decide +kernel
theorem dX2_write_1 : decode cX2_write 1 = .ok (.getfield 18, 3) := by decide +kernel
theorem dX2_write_4 : decode cX2_write 4 = .ok (.invokevirtual 67, 3) := by decide +kernel
theorem dX2_write_7 : decode cX2_write 7 = .ok (.aload_n 0, 1) := by decide +kernel
theorem dX2_write_8 : decode cX2_write 8 = .ok (.getfield 43, 3) := by decide +kernel
theorem dX2_write_11 : decode cX2_write 11 = .ok (.invokevirtual 57, 3) := by decide +kernel
theorem dX2_write_14 : decode cX2_write 14 = .ok (.aload_n 0, 1) := by decide +kernel
theorem dX2_write_15 : decode cX2_write 15 = .ok (.getfield 46, 3) := by decide +kernel
theorem dX2_write_18 : decode cX2_write 18 = .ok (.invokevirtual 57, 3) := by decide +kernel
theorem dX2_write_21 : decode cX2_write 21 = .ok (.iload_n 1, 1) := by decide +kernel
theorem dX2_write_22 : decode cX2_write 22 = .ok (.ifCond .ne 10, 3) := by decide +kernel
theorem dX2_write_25 : decode cX2_write 25 = .ok (.aload_n 0, 1) := by decide +kernel
theorem dX2_write_26 : decode cX2_write 26 = .ok (.invokevirtual 78, 3) := by decide +kernel
theorem dX2_write_29 : decode cX2_write 29 = .ok (.goto 7, 3) := by decide +kernel
theorem dX2_write_32 : decode cX2_write 32 = .ok (.aload_n 0, 1) := by decide +kernel
theorem dX2_write_33 : decode cX2_write 33 = .ok (.invokevirtual 81, 3) := by decide +kernel
theorem dX2_write_36 : decode cX2_write 36 = .ok (.aload_n 0, 1) := by decide +kernel
theorem dX2_write_37 : decode cX2_write 37 = .ok (.getfield 18, 3) := by decide +kernel
theorem dX2_write_40 : decode cX2_write 40 = .ok (.getfield 84, 3) := by decide +kernel
theorem dX2_write_43 : decode cX2_write 43 = .ok (.ireturn, 1) := by decide +kernel
set_option maxRecDepth 20000 in
theorem ggX2_octet2_X1_at : GoodIn wsX2_octet2 wsX1_at := goodIn_r _ [6, 7, 8, 20, 21] (by decide +kernel) (by decide +kernel)
set_option maxRecDepth 20000 in
theorem gX2_octet2_X1_at : GoodIn wsX2_octet2 (wsV RX2 85 RX1 yX1_at wsX1_at) := goodIn_app (goodIn_of _ (by decide +kernel)) ggX2_octet2_X1_at
theorem dX2_octet2_0 : decode cX2_octet2 0 = .ok (.aload_n 0, 1) := by decide +kernel
theorem dX2_octet2_1 : decode cX2_octet2 1 = .ok (.getfield 18, 3) := by decide +kernel
theorem dX2_octet2_4 : decode cX2_octet2 4 = .ok (.iload_n 1, 1) := by decide +kernel
theorem dX2_octet2_5 : decode cX2_octet2 5 = .ok (.invokevirtual 85, 3) := by decide +kernel
theorem dX2_octet2_8 : decode cX2_octet2 8 = .ok (.istore_n 2, 1) := by decide +kernel
theorem dX2_octet2_9 : decode cX2_octet2 9 = .ok (.iload_n 2, 1) := by decide +kernel
theorem dX2_octet2_10 : decode cX2_octet2 10 = .ok (.iconst (-1), 1) := by decide +kernel
theorem dX2_octet2_11 : decode cX2_octet2 11 = .ok (.if_icmp .ne 7, 3) := by decide +kernel
theorem dX2_octet2_14 : decode cX2_octet2 14 = .ok (.iconst 0, 1) := by decide +kernel
theorem dX2_octet2_15 : decode cX2_octet2 15 = .ok (.goto 5, 3) := by decide +kernel
theorem dX2_octet2_18 : decode cX2_octet2 18 = .ok (.iload_n 2, 1) := by decide +kernel
theorem dX2_octet2_19 : decode cX2_octet2 19 = .ok (.i2b, 1) := by decide +kernel
theorem dX2_octet2_20 : decode cX2_octet2 20 = .ok (.ireturn, 1) := by decide +kernel
set_option maxRecDepth 20000 in
theorem ggX2_compose_X0_takeApart : GoodIn wsX2_compose wsX0_takeApart := goodIn_r _ [7, 8, 9, 10, 11, 6, 12, 13, 14, 15, 16, 17, 18, 19, 20, 21, 22, 23, 24, 25, 26, 27, 28, 29, 30, 31, 32, 33, 34, 35, 36, 37, 38, 39, 40, 41, 42, 43, 44, 45, 46, 47, 48, 49, 50, 51, 52, 53, 71, 72] (by decide +kernel) (by decide +kernel)
set_option maxRecDepth 20000 in
theorem gX2_compose_X0_takeApart : GoodIn wsX2_compose (wsV RX2 86 RX0 yX0_takeApart wsX0_takeApart) := goodIn_app (goodIn_of _ (by decide +kernel)) ggX2_compose_X0_takeApart
set_option maxRecDepth 20000 in
theorem ggX2_compose_X0_putTogether : GoodIn wsX2_compose wsX0_putTogether := goodIn_r _ [57, 8, 13, 14, 15, 6, 16, 17, 27, 19, 28, 29, 30, 31, 42, 43, 58, 59, 21, 50, 51, 52, 53, 71, 72] (by decide +kernel) (by decide +kernel)
set_option maxRecDepth 20000 in
theorem gX2_compose_X0_putTogether : GoodIn wsX2_compose (wsV RX2 90 RX0 yX0_putTogether wsX0_putTogether) := goodIn_app (goodIn_of _ (by decide +kernel)) ggX2_compose_X0_putTogether
theorem dX2_compose_0 : decode cX2_compose 0 = .ok (.iload_n 1, 1) := by decide +kernel
theorem dX2_compose_1 : decode cX2_compose 1 = .ok (.ifCond .eq 10, 3) := by decide +kernel
theorem dX2_compose_4 : decode cX2_compose 4 = .ok (.iload_n 1, 1) := by decide +kernel
theorem dX2_compose_5 : decode cX2_compose 5 = .ok (.iconst 1, 1) := by decide +kernel
theorem dX2_compose_6 : decode cX2_compose 6 = .ok (.if_icmp .eq 5, 3) := by decide +kernel
theorem dX2_compose_9 : decode cX2_compose 9 = .ok (.iconst (-1), 1) := by decide +kernel
theorem dX2_compose_10 : decode cX2_compose 10 = .ok (.ireturn, 1) := by decide +kernel
theorem dX2_compose_11 : decode cX2_compose 11 = .ok (.aload_n 0, 1) := by decide +kernel
theorem dX2_compose_12 : decode cX2_compose 12 = .ok (.getfield 34, 3) := by decide +kernel
theorem dX2_compose_15 : decode cX2_compose 15 = .ok (.aload_n 0, 1) := by decide +kernel
theorem dX2_compose_16 : decode cX2_compose 16 = .ok (.getfield 24, 3) := by decide +kernel
theorem dX2_compose_19 : decode cX2_compose 19 = .ok (.invokevirtual 86, 3) := by decide +kernel
theorem dX2_compose_22 : decode cX2_compose 22 = .ok (.iload_n 1, 1) := by decide +kernel
theorem dX2_compose_23 : decode cX2_compose 23 = .ok (.iconst 1, 1) := by decide +kernel
theorem dX2_compose_24 : decode cX2_compose 24 = .ok (.if_icmp .ne 10, 3) := by decide +kernel
theorem dX2_compose_27 : decode cX2_compose 27 = .ok (.aload_n 0, 1) := by decide +kernel
theorem dX2_compose_28 : decode cX2_compose 28 = .ok (.getfield 34, 3) := by decide +kernel
theorem dX2_compose_31 : decode cX2_compose 31 = .ok (.invokevirtual 90, 3) := by decide +kernel
theorem dX2_compose_34 : decode cX2_compose 34 = .ok (.aload_n 0, 1) := by decide +kernel
theorem dX2_compose_35 : decode cX2_compose 35 = .ok (.getfield 34, 3) := by decide +kernel
theorem dX2_compose_38 : decode cX2_compose 38 = .ok (.getfield 71, 3) := by decide +kernel
theorem dX2_compose_41 : decode cX2_compose 41 = .ok (.bipush 100, 2) := by decide +kernel
theorem dX2_compose_43 : decode cX2_compose 43 = .ok (.if_icmp .le 5, 3) := by decide +kernel
theorem dX2_compose_46 : decode cX2_compose 46 = .ok (.iconst (-1), 1) := by decide +kernel
theorem dX2_compose_47 : decode cX2_compose 47 = .ok (.ireturn, 1) := by decide +kernel
theorem dX2_compose_48 : decode cX2_compose 48 = .ok (.aload_n 0, 1) := by decide +kernel
theorem dX2_compose_49 : decode cX2_compose 49 = .ok (.getfield 24, 3) := by decide +kernel
theorem dX2_compose_52 : decode cX2_compose 52 = .ok (.astore_n 2, 1) := by decide +kernel
theorem dX2_compose_53 : decode cX2_compose 53 = .ok (.aload_n 0, 1) := by decide +kernel
theorem dX2_compose_54 : decode cX2_compose 54 = .ok (.aload_n 0, 1) := by decide +kernel
theorem dX2_compose_55 : decode cX2_compose 55 = .ok (.getfield 34, 3) := by decide +kernel
theorem dX2_compose_58 : decode cX2_compose 58 = .ok (.putfield 24, 3) := by decide +kernel
theorem dX2_compose_61 : decode cX2_compose 61 = .ok (.aload_n 0, 1) := by decide +kernel
theorem dX2_compose_62 : decode cX2_compose 62 = .ok (.aload_n 2, 1) := by decide +kernel
theorem dX2_compose_63 : decode cX2_compose 63 = .ok (.putfield 34, 3) := by decide +kernel
theorem dX2_compose_66 : decode cX2_compose 66 = .ok (.aload_n 0, 1) := by decide +kernel
theorem dX2_compose_67 : decode cX2_compose 67 = .ok (.getfield 24, 3) := by decide +kernel
theorem dX2_compose_70 : decode cX2_compose 70 = .ok (.getfield 71, 3) := by decide +kernel
theorem dX2_compose_73 : decode cX2_compose 73 = .ok (.ireturn, 1) := by decide +kernel
set_option maxRecDepth 20000 in
theorem ggX2_told_X0_at : GoodIn wsX2_told wsX0_at := goodIn_r _ [7, 8, 9, 21, 22] (by decide +kernel) (by decide +kernel)
set_option maxRecDepth 20000 in
theorem gX2_told_X0_at : GoodIn wsX2_told (wsV RX2 74 RX0 yX0_at wsX0_at) := goodIn_app (goodIn_of _ (by decide +kernel)) ggX2_told_X0_at
theorem dX2_told_0 : decode cX2_told 0 = .ok (.iload_n 2, 1) := by decide +kernel
theorem dX2_told_1 : decode cX2_told 1 = .ok (.ifCond .ne 12, 3) := by decide +kernel
theorem dX2_told_4 : decode cX2_told 4 = .ok (.aload_n 0, 1) := by decide +kernel
theorem dX2_told_5 : decode cX2_told 5 = .ok (.getfield 43, 3) := by decide +kernel
theorem dX2_told_8 : decode cX2_told 8 = .ok (.iload_n 1, 1) := by decide +kernel
theorem dX2_told_9 : decode cX2_told 9 = .ok (.invokevirtual 74, 3) := by decide +kernel
theorem dX2_told_12 : decode cX2_told 12 = .ok (.ireturn, 1) := by decide +kernel
theorem dX2_told_13 : decode cX2_told 13 = .ok (.iload_n 2, 1) := by decide +kernel
theorem dX2_told_14 : decode cX2_told 14 = .ok (.iconst 1, 1) := by decide +kernel
theorem dX2_told_15 : decode cX2_told 15 = .ok (.if_icmp .ne 14, 3) := by decide +kernel
theorem dX2_told_18 : decode cX2_told 18 = .ok (.aload_n 0, 1) := by decide +kernel
theorem dX2_told_19 : decode cX2_told 19 = .ok (.getfield 46, 3) := by decide +kernel
theorem dX2_told_22 : decode cX2_told 22 = .ok (.iload_n 1, 1) := by decide +kernel
theorem dX2_told_23 : decode cX2_told 23 = .ok (.invokevirtual 74, 3) := by decide +kernel
theorem dX2_told_26 : decode cX2_told 26 = .ok (.goto 4, 3) := by decide +kernel
theorem dX2_told_29 : decode cX2_told 29 = .ok (.iconst (-1), 1) := by decide +kernel
theorem dX2_told_30 : decode cX2_told 30 = .ok (.ireturn, 1) := by decide +kernel
set_option maxRecDepth 20000 in
theorem ggX2_stand_X2_isPlain : GoodIn wsX2_stand wsX2_isPlain := goodIn_r _ [5] (by decide +kernel) (by decide +kernel)
set_option maxRecDepth 20000 in
theorem gX2_stand_X2_isPlain : GoodIn wsX2_stand (va_wsS RX2 93 yX2_isPlain wsX2_isPlain) := goodIn_app (goodIn_of _ (by decide +kernel)) ggX2_stand_X2_isPlain
theorem dX2_stand_0 : decode cX2_stand 0 = .ok (.iload_n 1, 1) := by decide +kernel
theorem dX2_stand_1 : decode cX2_stand 1 = .ok (.invokestatic 93, 3) := by decide +kernel
theorem dX2_stand_4 : decode cX2_stand 4 = .ok (.ifCond .ne 5, 3) := by decide +kernel
theorem dX2_stand_7 : decode cX2_stand 7 = .ok (.iconst (-1), 1) := by decide +kernel
theorem dX2_stand_8 : decode cX2_stand 8 = .ok (.ireturn, 1) := by decide +kernel
theorem dX2_stand_9 : decode cX2_stand 9 = .ok (.aload_n 0, 1) := by decide +kernel
theorem dX2_stand_10 : decode cX2_stand 10 = .ok (.getfield 49, 3) := by decide +kernel
theorem dX2_stand_13 : decode cX2_stand 13 = .ok (.istore_n 2, 1) := by decide +kernel
theorem dX2_stand_14 : decode cX2_stand 14 = .ok (.aload_n 0, 1) := by decide +kernel
theorem dX2_stand_15 : decode cX2_stand 15 = .ok (.iload_n 1, 1) := by decide +kernel
theorem dX2_stand_16 : decode cX2_stand 16 = .ok (.putfield 49, 3) := by decide +kernel
theorem dX2_stand_19 : decode cX2_stand 19 = .ok (.iload_n 2, 1) := by decide +kernel
theorem dX2_stand_20 : decode cX2_stand 20 = .ok (.ireturn, 1) := by decide +kernel
set_option maxRecDepth 20000 in
theorem ggX2_nonfiling_X0_placeOfBase : GoodIn wsX2_nonfiling wsX0_placeOfBase := goodIn_r _ [6, 7, 8, 9, 10, 5, 11, 12, 13, 14, 15, 49, 50] (by decide +kernel) (by decide +kernel)
set_option maxRecDepth 20000 in
theorem gX2_nonfiling_X0_placeOfBase : GoodIn wsX2_nonfiling (wsV RX2 97 RX0 yX0_placeOfBase wsX0_placeOfBase) := goodIn_app (goodIn_of _ (by decide +kernel)) ggX2_nonfiling_X0_placeOfBase
set_option maxRecDepth 20000 in
theorem ggX2_nonfiling_X0_at : GoodIn wsX2_nonfiling wsX0_at := goodIn_r _ [11, 7, 12, 49, 50] (by decide +kernel) (by decide +kernel)
set_option maxRecDepth 20000 in
theorem gX2_nonfiling_X0_at : GoodIn wsX2_nonfiling (wsV RX2 74 RX0 yX0_at wsX0_at) := goodIn_app (goodIn_of _ (by decide +kernel)) ggX2_nonfiling_X0_at
set_option maxRecDepth 20000 in
theorem ggX2_nonfiling_X2_keyOf : GoodIn wsX2_nonfiling wsX2_keyOf := goodIn_r _ [19, 20, 21, 14, 22, 23, 24, 25, 26, 27, 28, 29, 30, 31, 32, 33] (by decide +kernel) (by decide +kernel)
set_option maxRecDepth 20000 in
theorem gX2_nonfiling_X2_keyOf : GoodIn wsX2_nonfiling (va_wsS RX2 101 yX2_keyOf wsX2_keyOf) := goodIn_app (goodIn_of _ (by decide +kernel)) ggX2_nonfiling_X2_keyOf
set_option maxRecDepth 20000 in
theorem ggX2_nonfiling_X0_bases : GoodIn wsX2_nonfiling wsX0_bases := goodIn_r _ [37, 7, 8, 9, 10, 5, 11, 12, 13, 14, 15, 49, 50] (by decide +kernel) (by decide +kernel)
set_option maxRecDepth 20000 in
theorem gX2_nonfiling_X0_bases : GoodIn wsX2_nonfiling (wsV RX2 104 RX0 yX0_bases wsX0_bases) := goodIn_app (goodIn_of _ (by decide +kernel)) ggX2_nonfiling_X0_bases
theorem dX2_nonfiling_0 : decode cX2_nonfiling 0 = .ok (.iload_n 1, 1) := by decide +kernel
theorem dX2_nonfiling_1 : decode cX2_nonfiling 1 = .ok (.ifCond .lt 7, 3) := by decide +kernel
theorem dX2_nonfiling_4 : decode cX2_nonfiling 4 = .ok (.iload_n 2, 1) := by decide +kernel
theorem dX2_nonfiling_5 : decode cX2_nonfiling 5 = .ok (.ifCond .ge 5, 3) := by decide +kernel
theorem dX2_nonfiling_8 : decode cX2_nonfiling 8 = .ok (.iconst (-1), 1) := by decide +kernel
theorem dX2_nonfiling_9 : decode cX2_nonfiling 9 = .ok (.ireturn, 1) := by decide +kernel
theorem dX2_nonfiling_10 : decode cX2_nonfiling 10 = .ok (.aload_n 0, 1) := by decide +kernel
theorem dX2_nonfiling_11 : decode cX2_nonfiling 11 = .ok (.getfield 24, 3) := by decide +kernel
theorem dX2_nonfiling_14 : decode cX2_nonfiling 14 = .ok (.iload_n 1, 1) := by decide +kernel
theorem dX2_nonfiling_15 : decode cX2_nonfiling 15 = .ok (.i2l, 1) := by decide +kernel
theorem dX2_nonfiling_16 : decode cX2_nonfiling 16 = .ok (.iload_n 2, 1) := by decide +kernel
theorem dX2_nonfiling_17 : decode cX2_nonfiling 17 = .ok (.i2l, 1) := by decide +kernel
theorem dX2_nonfiling_18 : decode cX2_nonfiling 18 = .ok (.ladd, 1) := by decide +kernel
theorem dX2_nonfiling_19 : decode cX2_nonfiling 19 = .ok (.invokevirtual 97, 3) := by decide +kernel
theorem dX2_nonfiling_22 : decode cX2_nonfiling 22 = .ok (.istore_n 3, 1) := by decide +kernel
theorem dX2_nonfiling_23 : decode cX2_nonfiling 23 = .ok (.iload_n 3, 1) := by decide +kernel
theorem dX2_nonfiling_24 : decode cX2_nonfiling 24 = .ok (.iconst (-1), 1) := by decide +kernel
theorem dX2_nonfiling_25 : decode cX2_nonfiling 25 = .ok (.if_icmp .eq 15, 3) := by decide +kernel
theorem dX2_nonfiling_28 : decode cX2_nonfiling 28 = .ok (.aload_n 0, 1) := by decide +kernel
theorem dX2_nonfiling_29 : decode cX2_nonfiling 29 = .ok (.getfield 24, 3) := by decide +kernel
theorem dX2_nonfiling_32 : decode cX2_nonfiling 32 = .ok (.iload_n 3, 1) := by decide +kernel
theorem dX2_nonfiling_33 : decode cX2_nonfiling 33 = .ok (.invokevirtual 74, 3) := by decide +kernel
theorem dX2_nonfiling_36 : decode cX2_nonfiling 36 = .ok (.invokestatic 101, 3) := by decide +kernel
theorem dX2_nonfiling_39 : decode cX2_nonfiling 39 = .ok (.ireturn, 1) := by decide +kernel
theorem dX2_nonfiling_40 : decode cX2_nonfiling 40 = .ok (.aload_n 0, 1) := by decide +kernel
theorem dX2_nonfiling_41 : decode cX2_nonfiling 41 = .ok (.getfield 24, 3) := by decide +kernel
theorem dX2_nonfiling_44 : decode cX2_nonfiling 44 = .ok (.invokevirtual 104, 3) := by decide +kernel
theorem dX2_nonfiling_47 : decode cX2_nonfiling 47 = .ok (.iload_n 1, 1) := by decide +kernel
theorem dX2_nonfiling_48 : decode cX2_nonfiling 48 = .ok (.if_icmp .ge 7, 3) := by decide +kernel
theorem dX2_nonfiling_51 : decode cX2_nonfiling 51 = .ok (.iconst (-1), 1) := by decide +kernel
theorem dX2_nonfiling_52 : decode cX2_nonfiling 52 = .ok (.goto 4, 3) := by decide +kernel
theorem dX2_nonfiling_55 : decode cX2_nonfiling 55 = .ok (.iconst 0, 1) := by decide +kernel
theorem dX2_nonfiling_56 : decode cX2_nonfiling 56 = .ok (.ireturn, 1) := by decide +kernel
set_option maxRecDepth 20000 in
theorem ggX2_mark_X0_placeOfBase : GoodIn wsX2_mark wsX0_placeOfBase := goodIn_r _ [6, 7, 8, 9, 10, 5, 11, 12, 13, 14, 15, 46, 47] (by decide +kernel) (by decide +kernel)
set_option maxRecDepth 20000 in
theorem gX2_mark_X0_placeOfBase : GoodIn wsX2_mark (wsV RX2 97 RX0 yX0_placeOfBase wsX0_placeOfBase) := goodIn_app (goodIn_of _ (by decide +kernel)) ggX2_mark_X0_placeOfBase
set_option maxRecDepth 20000 in
theorem ggX2_mark_X0_at : GoodIn wsX2_mark wsX0_at := goodIn_r _ [11, 7, 12, 46, 47] (by decide +kernel) (by decide +kernel)
set_option maxRecDepth 20000 in
theorem gX2_mark_X0_at : GoodIn wsX2_mark (wsV RX2 74 RX0 yX0_at wsX0_at) := goodIn_app (goodIn_of _ (by decide +kernel)) ggX2_mark_X0_at
set_option maxRecDepth 20000 in
theorem ggX2_mark_X2_isComposed : GoodIn wsX2_mark wsX2_isComposed := goodIn_r _ [19, 20, 21, 22, 23, 14, 24, 25, 26, 27, 28, 29, 30] (by decide +kernel) (by decide +kernel)
set_option maxRecDepth 20000 in
theorem gX2_mark_X2_isComposed : GoodIn wsX2_mark (va_wsS RX2 107 yX2_isComposed wsX2_isComposed) := goodIn_app (goodIn_of _ (by decide +kernel)) ggX2_mark_X2_isComposed
set_option maxRecDepth 20000 in
theorem ggX2_mark_X0_marksBehind : GoodIn wsX2_mark wsX0_marksBehind := goodIn_r _ [34, 7, 8, 9, 10, 5, 11, 12, 13, 14, 15, 46, 47] (by decide +kernel) (by decide +kernel)
set_option maxRecDepth 20000 in
theorem gX2_mark_X0_marksBehind : GoodIn wsX2_mark (wsV RX2 110 RX0 yX0_marksBehind wsX0_marksBehind) := goodIn_app (goodIn_of _ (by decide +kernel)) ggX2_mark_X0_marksBehind
theorem dX2_mark_0 : decode cX2_mark 0 = .ok (.aload_n 0, 1) := by decide +kernel
theorem dX2_mark_1 : decode cX2_mark 1 = .ok (.getfield 24, 3) := by decide +kernel
theorem dX2_mark_4 : decode cX2_mark 4 = .ok (.iload_n 1, 1) := by decide +kernel
theorem dX2_mark_5 : decode cX2_mark 5 = .ok (.i2l, 1) := by decide +kernel
theorem dX2_mark_6 : decode cX2_mark 6 = .ok (.invokevirtual 97, 3) := by decide +kernel
theorem dX2_mark_9 : decode cX2_mark 9 = .ok (.istore_n 2, 1) := by decide +kernel
theorem dX2_mark_10 : decode cX2_mark 10 = .ok (.iload_n 2, 1) := by decide +kernel
theorem dX2_mark_11 : decode cX2_mark 11 = .ok (.iconst (-1), 1) := by decide +kernel
theorem dX2_mark_12 : decode cX2_mark 12 = .ok (.if_icmp .ne 5, 3) := by decide +kernel
theorem dX2_mark_15 : decode cX2_mark 15 = .ok (.iconst (-1), 1) := by decide +kernel
theorem dX2_mark_16 : decode cX2_mark 16 = .ok (.ireturn, 1) := by decide +kernel
theorem dX2_mark_17 : decode cX2_mark 17 = .ok (.aload_n 0, 1) := by decide +kernel
theorem dX2_mark_18 : decode cX2_mark 18 = .ok (.getfield 24, 3) := by decide +kernel
theorem dX2_mark_21 : decode cX2_mark 21 = .ok (.iload_n 2, 1) := by decide +kernel
theorem dX2_mark_22 : decode cX2_mark 22 = .ok (.invokevirtual 74, 3) := by decide +kernel
theorem dX2_mark_25 : decode cX2_mark 25 = .ok (.invokestatic 107, 3) := by decide +kernel
theorem dX2_mark_28 : decode cX2_mark 28 = .ok (.ifCond .eq 7, 3) := by decide +kernel
theorem dX2_mark_31 : decode cX2_mark 31 = .ok (.iconst 1, 1) := by decide +kernel
theorem dX2_mark_32 : decode cX2_mark 32 = .ok (.goto 4, 3) := by decide +kernel
theorem dX2_mark_35 : decode cX2_mark 35 = .ok (.iconst 0, 1) := by decide +kernel
theorem dX2_mark_36 : decode cX2_mark 36 = .ok (.istore_n 3, 1) := by decide +kernel
theorem dX2_mark_37 : decode cX2_mark 37 = .ok (.iload_n 3, 1) := by decide +kernel
theorem dX2_mark_38 : decode cX2_mark 38 = .ok (.aload_n 0, 1) := by decide +kernel
theorem dX2_mark_39 : decode cX2_mark 39 = .ok (.getfield 24, 3) := by decide +kernel
theorem dX2_mark_42 : decode cX2_mark 42 = .ok (.iload_n 2, 1) := by decide +kernel
theorem dX2_mark_43 : decode cX2_mark 43 = .ok (.invokevirtual 110, 3) := by decide +kernel
theorem dX2_mark_46 : decode cX2_mark 46 = .ok (.iadd, 1) := by decide +kernel
theorem dX2_mark_47 : decode cX2_mark 47 = .ok (.ireturn, 1) := by decide +kernel
set_option maxRecDepth 20000 in
theorem ggX2_row_X2_codeInSet : GoodIn wsX2_row wsX2_codeInSet := goodIn_r _ [7, 8, 9, 6, 10, 11, 12, 13] (by decide +kernel) (by decide +kernel)
set_option maxRecDepth 20000 in
theorem gX2_row_X2_codeInSet : GoodIn wsX2_row (va_wsS RX2 120 yX2_codeInSet wsX2_codeInSet) := goodIn_app (goodIn_of _ (by decide +kernel)) ggX2_row_X2_codeInSet
theorem dX2_row_0 : decode cX2_row 0 = .ok (.iload_n 1, 1) := by decide +kernel
theorem dX2_row_1 : decode cX2_row 1 = .ok (.ifCond .lt 8, 3) := by decide +kernel
theorem dX2_row_4 : decode cX2_row 4 = .ok (.iload_n 1, 1) := by decide +kernel
theorem dX2_row_5 : decode cX2_row 5 = .ok (.iconst 3, 1) := by decide +kernel
theorem dX2_row_6 : decode cX2_row 6 = .ok (.if_icmp .lt 5, 3) := by decide +kernel
theorem dX2_row_9 : decode cX2_row 9 = .ok (.iconst (-1), 1) := by decide +kernel
theorem dX2_row_10 : decode cX2_row 10 = .ok (.ireturn, 1) := by decide +kernel
theorem dX2_row_11 : decode cX2_row 11 = .ok (.iload_n 2, 1) := by decide +kernel
theorem dX2_row_12 : decode cX2_row 12 = .ok (.ifCond .lt 9, 3) := by decide +kernel
theorem dX2_row_15 : decode cX2_row 15 = .ok (.iload_n 2, 1) := by decide +kernel
theorem dX2_row_16 : decode cX2_row 16 = .ok (.bipush 94, 2) := by decide +kernel
theorem dX2_row_18 : decode cX2_row 18 = .ok (.if_icmp .lt 13, 3) := by decide +kernel
theorem dX2_row_21 : decode cX2_row 21 = .ok (.new 113, 3) := by decide +kernel
theorem dX2_row_24 : decode cX2_row 24 = .ok (.dup, 1) := by decide +kernel
theorem dX2_row_25 : decode cX2_row 25 = .ok (.ldc 115, 2) := by decide +kernel
theorem dX2_row_27 : decode cX2_row 27 = .ok (.invokespecial 117, 3) := by decide +kernel
theorem dX2_row_30 : decode cX2_row 30 = .ok (.athrow, 1) := by decide +kernel
theorem dX2_row_31 : decode cX2_row 31 = .ok (.iload_n 1, 1) := by decide +kernel
theorem dX2_row_32 : decode cX2_row 32 = .ok (.iload_n 2, 1) := by decide +kernel
theorem dX2_row_33 : decode cX2_row 33 = .ok (.invokestatic 120, 3) := by decide +kernel
theorem dX2_row_36 : decode cX2_row 36 = .ok (.ireturn, 1) := by decide +kernel
set_option maxRecDepth 20000 in
theorem ggX2_same_X0_takeApart : GoodIn wsX2_same wsX0_takeApart := goodIn_r _ [9, 10, 11, 12, 13, 8, 14, 15, 16, 17, 18, 19, 20, 21, 22, 23, 24, 25, 26, 27, 28, 29, 30, 31, 32, 33, 34, 35, 36, 37, 38, 39, 40, 41, 42, 43, 44, 45, 46, 47, 48, 49, 50, 51, 52, 53, 54, 55, 71, 72] (by decide +kernel) (by decide +kernel)
set_option maxRecDepth 20000 in
theorem gX2_same_X0_takeApart : GoodIn wsX2_same (wsV RX2 86 RX0 yX0_takeApart wsX0_takeApart) := goodIn_app (goodIn_of _ (by decide +kernel)) ggX2_same_X0_takeApart
set_option maxRecDepth 20000 in
theorem ggX2_same_X0_holdsWhat : GoodIn wsX2_same wsX0_holdsWhat := goodIn_r _ [59, 10, 15, 16, 17, 8, 18, 19, 71, 72] (by decide +kernel) (by decide +kernel)
set_option maxRecDepth 20000 in
theorem gX2_same_X0_holdsWhat : GoodIn wsX2_same (wsV RX2 124 RX0 yX0_holdsWhat wsX0_holdsWhat) := goodIn_app (goodIn_of _ (by decide +kernel)) ggX2_same_X0_holdsWhat
theorem dX2_same_0 : decode cX2_same 0 = .ok (.iload_n 1, 1) := by decide +kernel
theorem dX2_same_1 : decode cX2_same 1 = .ok (.ifCond .ne 5, 3) := by decide +kernel
theorem dX2_same_4 : decode cX2_same 4 = .ok (.iconst 1, 1) := by decide +kernel
theorem dX2_same_5 : decode cX2_same 5 = .ok (.ireturn, 1) := by decide +kernel
theorem dX2_same_6 : decode cX2_same 6 = .ok (.iload_n 1, 1) := by decide +kernel
theorem dX2_same_7 : decode cX2_same 7 = .ok (.iconst 1, 1) := by decide +kernel
theorem dX2_same_8 : decode cX2_same 8 = .ok (.if_icmp .eq 5, 3) := by decide +kernel
theorem dX2_same_11 : decode cX2_same 11 = .ok (.iconst 0, 1) := by decide +kernel
theorem dX2_same_12 : decode cX2_same 12 = .ok (.ireturn, 1) := by decide +kernel
theorem dX2_same_13 : decode cX2_same 13 = .ok (.aload_n 0, 1) := by decide +kernel
theorem dX2_same_14 : decode cX2_same 14 = .ok (.getfield 34, 3) := by decide +kernel
theorem dX2_same_17 : decode cX2_same 17 = .ok (.aload_n 0, 1) := by decide +kernel
theorem dX2_same_18 : decode cX2_same 18 = .ok (.getfield 24, 3) := by decide +kernel
theorem dX2_same_21 : decode cX2_same 21 = .ok (.invokevirtual 86, 3) := by decide +kernel
theorem dX2_same_24 : decode cX2_same 24 = .ok (.aload_n 0, 1) := by decide +kernel
theorem dX2_same_25 : decode cX2_same 25 = .ok (.getfield 37, 3) := by decide +kernel
theorem dX2_same_28 : decode cX2_same 28 = .ok (.aload_n 0, 1) := by decide +kernel
theorem dX2_same_29 : decode cX2_same 29 = .ok (.getfield 28, 3) := by decide +kernel
theorem dX2_same_32 : decode cX2_same 32 = .ok (.invokevirtual 86, 3) := by decide +kernel
theorem dX2_same_35 : decode cX2_same 35 = .ok (.aload_n 0, 1) := by decide +kernel
theorem dX2_same_36 : decode cX2_same 36 = .ok (.getfield 34, 3) := by decide +kernel
theorem dX2_same_39 : decode cX2_same 39 = .ok (.aload_n 0, 1) := by decide +kernel
theorem dX2_same_40 : decode cX2_same 40 = .ok (.getfield 37, 3) := by decide +kernel
theorem dX2_same_43 : decode cX2_same 43 = .ok (.invokevirtual 124, 3) := by decide +kernel
theorem dX2_same_46 : decode cX2_same 46 = .ok (.ireturn, 1) := by decide +kernel
set_option maxRecDepth 20000 in
theorem ggX2_wrongInOldKind_X0_empty : GoodIn wsX2_wrongInOldKind wsX0_empty := goodIn_r _ [8, 9, 64, 65] (by decide +kernel) (by decide +kernel)
set_option maxRecDepth 20000 in
theorem gX2_wrongInOldKind_X0_empty : GoodIn wsX2_wrongInOldKind (wsV RX2 57 RX0 yX0_empty wsX0_empty) := goodIn_app (goodIn_of _ (by decide +kernel)) ggX2_wrongInOldKind_X0_empty
set_option maxRecDepth 20000 in
theorem ggX2_wrongInOldKind_X1_at : GoodIn wsX2_wrongInOldKind wsX1_at := goodIn_r _ [14, 15, 16, 62, 63] (by decide +kernel) (by decide +kernel)
set_option maxRecDepth 20000 in
theorem gX2_wrongInOldKind_X1_at : GoodIn wsX2_wrongInOldKind (wsV RX2 85 RX1 yX1_at wsX1_at) := goodIn_app (goodIn_of _ (by decide +kernel)) ggX2_wrongInOldKind_X1_at
set_option maxRecDepth 20000 in
theorem ggX2_wrongInOldKind_X2_setOfEscape : GoodIn wsX2_wrongInOldKind wsX2_setOfEscape := goodIn_r _ [21, 2, 10, 11, 12, 13, 14, 15, 16, 51, 52, 53, 54, 55, 56, 57, 58, 59, 60, 61, 62, 63] (by decide +kernel) (by decide +kernel)
set_option maxRecDepth 20000 in
theorem gX2_wrongInOldKind_X2_setOfEscape : GoodIn wsX2_wrongInOldKind (wsV RX2 128 RX2 yX2_setOfEscape wsX2_setOfEscape) := goodIn_app (goodIn_of _ (by decide +kernel)) ggX2_wrongInOldKind_X2_setOfEscape
set_option maxRecDepth 20000 in
theorem ggX2_wrongInOldKind_X2_codeOfOldByte : GoodIn wsX2_wrongInOldKind wsX2_codeOfOldByte := goodIn_r _ [24, 25, 26, 20, 27, 28, 29, 30, 31, 32, 33, 34, 35, 36] (by decide +kernel) (by decide +kernel)
set_option maxRecDepth 20000 in
theorem gX2_wrongInOldKind_X2_codeOfOldByte : GoodIn wsX2_wrongInOldKind (va_wsS RX2 131 yX2_codeOfOldByte wsX2_codeOfOldByte) := goodIn_app (goodIn_of _ (by decide +kernel)) ggX2_wrongInOldKind_X2_codeOfOldByte
set_option maxRecDepth 20000 in
theorem ggX2_wrongInOldKind_X2_isMark : GoodIn wsX2_wrongInOldKind wsX2_isMark := goodIn_r _ [33] (by decide +kernel) (by decide +kernel)
set_option maxRecDepth 20000 in
theorem gX2_wrongInOldKind_X2_isMark : GoodIn wsX2_wrongInOldKind (va_wsS RX2 134 yX2_isMark wsX2_isMark) := goodIn_app (goodIn_of _ (by decide +kernel)) ggX2_wrongInOldKind_X2_isMark
set_option maxRecDepth 20000 in
theorem ggX2_wrongInOldKind_X0_add : GoodIn wsX2_wrongInOldKind wsX0_add := goodIn_r _ [40, 9, 41, 64, 65] (by decide +kernel) (by decide +kernel)
set_option maxRecDepth 20000 in
theorem gX2_wrongInOldKind_X0_add : GoodIn wsX2_wrongInOldKind (wsV RX2 137 RX0 yX0_add wsX0_add) := goodIn_app (goodIn_of _ (by decide +kernel)) ggX2_wrongInOldKind_X0_add
set_option maxRecDepth 20000 in
theorem ggX2_wrongInOldKind_X0_addAll : GoodIn wsX2_wrongInOldKind wsX0_addAll := goodIn_r _ [45, 9, 46, 47, 48, 7, 49, 41, 50, 38, 39, 40, 64, 65] (by decide +kernel) (by decide +kernel)
set_option maxRecDepth 20000 in
theorem gX2_wrongInOldKind_X0_addAll : GoodIn wsX2_wrongInOldKind (wsV RX2 138 RX0 yX0_addAll wsX0_addAll) := goodIn_app (goodIn_of _ (by decide +kernel)) ggX2_wrongInOldKind_X0_addAll
theorem dX2_wrongInOldKind_0 : decode cX2_wrongInOldKind 0 = .ok (.iconst 0, 1) := by decide +kernel
theorem dX2_wrongInOldKind_1 : decode cX2_wrongInOldKind 1 = .ok (.istore_n 1, 1) := by decide +kernel
theorem dX2_wrongInOldKind_2 : decode cX2_wrongInOldKind 2 = .ok (.iconst (-1), 1) := by decide +kernel
theorem dX2_wrongInOldKind_3 : decode cX2_wrongInOldKind 3 = .ok (.istore_n 2, 1) := by decide +kernel
theorem dX2_wrongInOldKind_4 : decode cX2_wrongInOldKind 4 = .ok (.aload_n 0, 1) := by decide +kernel
theorem dX2_wrongInOldKind_5 : decode cX2_wrongInOldKind 5 = .ok (.getfield 40, 3) := by decide +kernel
theorem dX2_wrongInOldKind_8 : decode cX2_wrongInOldKind 8 = .ok (.invokevirtual 57, 3) := by decide +kernel
theorem dX2_wrongInOldKind_11 : decode cX2_wrongInOldKind 11 = .ok (.iconst 0, 1) := by decide +kernel
theorem dX2_wrongInOldKind_12 : decode cX2_wrongInOldKind 12 = .ok (.istore_n 3, 1) := by decide +kernel
theorem dX2_wrongInOldKind_13 : decode cX2_wrongInOldKind 13 = .ok (.iload_n 3, 1) := by decide +kernel
theorem dX2_wrongInOldKind_14 : decode cX2_wrongInOldKind 14 = .ok (.aload_n 0, 1) := by decide +kernel
theorem dX2_wrongInOldKind_15 : decode cX2_wrongInOldKind 15 = .ok (.getfield 14, 3) := by decide +kernel
theorem dX2_wrongInOldKind_18 : decode cX2_wrongInOldKind 18 = .ok (.getfield 84, 3) := by decide +kernel
theorem dX2_wrongInOldKind_21 : decode cX2_wrongInOldKind 21 = .ok (.if_icmp .ge 161, 3) := by decide +kernel
theorem dX2_wrongInOldKind_24 : decode cX2_wrongInOldKind 24 = .ok (.aload_n 0, 1) := by decide +kernel
theorem dX2_wrongInOldKind_25 : decode cX2_wrongInOldKind 25 = .ok (.getfield 14, 3) := by decide +kernel
theorem dX2_wrongInOldKind_28 : decode cX2_wrongInOldKind 28 = .ok (.iload_n 3, 1) := by decide +kernel
theorem dX2_wrongInOldKind_29 : decode cX2_wrongInOldKind 29 = .ok (.invokevirtual 85, 3) := by decide +kernel
theorem dX2_wrongInOldKind_32 : decode cX2_wrongInOldKind 32 = .ok (.istore 4, 2) := by decide +kernel
theorem dX2_wrongInOldKind_34 : decode cX2_wrongInOldKind 34 = .ok (.iload 4, 2) := by decide +kernel
theorem dX2_wrongInOldKind_36 : decode cX2_wrongInOldKind 36 = .ok (.bipush 27, 2) := by decide +kernel
theorem dX2_wrongInOldKind_38 : decode cX2_wrongInOldKind 38 = .ok (.if_icmp .ne 22, 3) := by decide +kernel
theorem dX2_wrongInOldKind_41 : decode cX2_wrongInOldKind 41 = .ok (.aload_n 0, 1) := by decide +kernel
theorem dX2_wrongInOldKind_42 : decode cX2_wrongInOldKind 42 = .ok (.iload_n 3, 1) := by decide +kernel
theorem dX2_wrongInOldKind_43 : decode cX2_wrongInOldKind 43 = .ok (.invokevirtual 128, 3) := by decide +kernel
theorem dX2_wrongInOldKind_46 : decode cX2_wrongInOldKind 46 = .ok (.istore_n 1, 1) := by decide +kernel
theorem dX2_wrongInOldKind_47 : decode cX2_wrongInOldKind 47 = .ok (.iload_n 1, 1) := by decide +kernel
theorem dX2_wrongInOldKind_48 : decode cX2_wrongInOldKind 48 = .ok (.iconst (-1), 1) := by decide +kernel
theorem dX2_wrongInOldKind_49 : decode cX2_wrongInOldKind 49 = .ok (.if_icmp .ne 5, 3) := by decide +kernel
theorem dX2_wrongInOldKind_52 : decode cX2_wrongInOldKind 52 = .ok (.iload_n 3, 1) := by decide +kernel
theorem dX2_wrongInOldKind_53 : decode cX2_wrongInOldKind 53 = .ok (.ireturn, 1) := by decide +kernel
theorem dX2_wrongInOldKind_54 : decode cX2_wrongInOldKind 54 = .ok (.iinc 3 2, 3) := by decide +kernel
theorem dX2_wrongInOldKind_57 : decode cX2_wrongInOldKind 57 = .ok (.goto 119, 3) := by decide +kernel
theorem dX2_wrongInOldKind_60 : decode cX2_wrongInOldKind 60 = .ok (.iload 4, 2) := by decide +kernel
theorem dX2_wrongInOldKind_62 : decode cX2_wrongInOldKind 62 = .ok (.iload_n 1, 1) := by decide +kernel
theorem dX2_wrongInOldKind_63 : decode cX2_wrongInOldKind 63 = .ok (.invokestatic 131, 3) := by decide +kernel
theorem dX2_wrongInOldKind_66 : decode cX2_wrongInOldKind 66 = .ok (.istore 5, 2) := by decide +kernel
theorem dX2_wrongInOldKind_68 : decode cX2_wrongInOldKind 68 = .ok (.iload 5, 2) := by decide +kernel
theorem dX2_wrongInOldKind_70 : decode cX2_wrongInOldKind 70 = .ok (.ifCond .ne 5, 3) := by decide +kernel
theorem dX2_wrongInOldKind_73 : decode cX2_wrongInOldKind 73 = .ok (.iload_n 3, 1) := by decide +kernel
theorem dX2_wrongInOldKind_74 : decode cX2_wrongInOldKind 74 = .ok (.ireturn, 1) := by decide +kernel
theorem dX2_wrongInOldKind_75 : decode cX2_wrongInOldKind 75 = .ok (.iload 5, 2) := by decide +kernel
theorem dX2_wrongInOldKind_77 : decode cX2_wrongInOldKind 77 = .ok (.invokestatic 134, 3) := by decide +kernel
theorem dX2_wrongInOldKind_80 : decode cX2_wrongInOldKind 80 = .ok (.ifCond .eq 31, 3) := by decide +kernel
theorem dX2_wrongInOldKind_83 : decode cX2_wrongInOldKind 83 = .ok (.aload_n 0, 1) := by decide +kernel
theorem dX2_wrongInOldKind_84 : decode cX2_wrongInOldKind 84 = .ok (.getfield 40, 3) := by decide +kernel
theorem dX2_wrongInOldKind_87 : decode cX2_wrongInOldKind 87 = .ok (.getfield 71, 3) := by decide +kernel
theorem dX2_wrongInOldKind_90 : decode cX2_wrongInOldKind 90 = .ok (.ifCond .ne 7, 3) := by decide +kernel
theorem dX2_wrongInOldKind_93 : decode cX2_wrongInOldKind 93 = .ok (.iload_n 3, 1) := by decide +kernel
theorem dX2_wrongInOldKind_94 : decode cX2_wrongInOldKind 94 = .ok (.goto 4, 3) := by decide +kernel
theorem dX2_wrongInOldKind_97 : decode cX2_wrongInOldKind 97 = .ok (.iload_n 2, 1) := by decide +kernel
theorem dX2_wrongInOldKind_98 : decode cX2_wrongInOldKind 98 = .ok (.istore_n 2, 1) := by decide +kernel
theorem dX2_wrongInOldKind_99 : decode cX2_wrongInOldKind 99 = .ok (.aload_n 0, 1) := by decide +kernel
theorem dX2_wrongInOldKind_100 : decode cX2_wrongInOldKind 100 = .ok (.getfield 40, 3) := by decide +kernel
theorem dX2_wrongInOldKind_103 : decode cX2_wrongInOldKind 103 = .ok (.iload 5, 2) := by decide +kernel
theorem dX2_wrongInOldKind_105 : decode cX2_wrongInOldKind 105 = .ok (.invokevirtual 137, 3) := by decide +kernel
theorem dX2_wrongInOldKind_108 : decode cX2_wrongInOldKind 108 = .ok (.goto 68, 3) := by decide +kernel
theorem dX2_wrongInOldKind_111 : decode cX2_wrongInOldKind 111 = .ok (.aload_n 0, 1) := by decide +kernel
theorem dX2_wrongInOldKind_112 : decode cX2_wrongInOldKind 112 = .ok (.getfield 31, 3) := by decide +kernel
theorem dX2_wrongInOldKind_115 : decode cX2_wrongInOldKind 115 = .ok (.getfield 71, 3) := by decide +kernel
theorem dX2_wrongInOldKind_118 : decode cX2_wrongInOldKind 118 = .ok (.iconst 1, 1) := by decide +kernel
theorem dX2_wrongInOldKind_119 : decode cX2_wrongInOldKind 119 = .ok (.iadd, 1) := by decide +kernel
theorem dX2_wrongInOldKind_120 : decode cX2_wrongInOldKind 120 = .ok (.aload_n 0, 1) := by decide +kernel
theorem dX2_wrongInOldKind_121 : decode cX2_wrongInOldKind 121 = .ok (.getfield 40, 3) := by decide +kernel
theorem dX2_wrongInOldKind_124 : decode cX2_wrongInOldKind 124 = .ok (.getfield 71, 3) := by decide +kernel
theorem dX2_wrongInOldKind_127 : decode cX2_wrongInOldKind 127 = .ok (.iadd, 1) := by decide +kernel
theorem dX2_wrongInOldKind_128 : decode cX2_wrongInOldKind 128 = .ok (.bipush 100, 2) := by decide +kernel
theorem dX2_wrongInOldKind_130 : decode cX2_wrongInOldKind 130 = .ok (.if_icmp .le 19, 3) := by decide +kernel
theorem dX2_wrongInOldKind_133 : decode cX2_wrongInOldKind 133 = .ok (.aload_n 0, 1) := by decide +kernel
theorem dX2_wrongInOldKind_134 : decode cX2_wrongInOldKind 134 = .ok (.getfield 40, 3) := by decide +kernel
theorem dX2_wrongInOldKind_137 : decode cX2_wrongInOldKind 137 = .ok (.getfield 71, 3) := by decide +kernel
theorem dX2_wrongInOldKind_140 : decode cX2_wrongInOldKind 140 = .ok (.ifCond .ne 7, 3) := by decide +kernel
theorem dX2_wrongInOldKind_143 : decode cX2_wrongInOldKind 143 = .ok (.iload_n 3, 1) := by decide +kernel
theorem dX2_wrongInOldKind_144 : decode cX2_wrongInOldKind 144 = .ok (.goto 4, 3) := by decide +kernel
theorem dX2_wrongInOldKind_147 : decode cX2_wrongInOldKind 147 = .ok (.iload_n 2, 1) := by decide +kernel
theorem dX2_wrongInOldKind_148 : decode cX2_wrongInOldKind 148 = .ok (.ireturn, 1) := by decide +kernel
theorem dX2_wrongInOldKind_149 : decode cX2_wrongInOldKind 149 = .ok (.aload_n 0, 1) := by decide +kernel
theorem dX2_wrongInOldKind_150 : decode cX2_wrongInOldKind 150 = .ok (.getfield 31, 3) := by decide +kernel
theorem dX2_wrongInOldKind_153 : decode cX2_wrongInOldKind 153 = .ok (.iload 5, 2) := by decide +kernel
theorem dX2_wrongInOldKind_155 : decode cX2_wrongInOldKind 155 = .ok (.invokevirtual 137, 3) := by decide +kernel
theorem dX2_wrongInOldKind_158 : decode cX2_wrongInOldKind 158 = .ok (.aload_n 0, 1) := by decide +kernel
theorem dX2_wrongInOldKind_159 : decode cX2_wrongInOldKind 159 = .ok (.getfield 31, 3) := by decide +kernel
theorem dX2_wrongInOldKind_162 : decode cX2_wrongInOldKind 162 = .ok (.aload_n 0, 1) := by decide +kernel
theorem dX2_wrongInOldKind_163 : decode cX2_wrongInOldKind 163 = .ok (.getfield 40, 3) := by decide +kernel
theorem dX2_wrongInOldKind_166 : decode cX2_wrongInOldKind 166 = .ok (.invokevirtual 138, 3) := by decide +kernel
theorem dX2_wrongInOldKind_169 : decode cX2_wrongInOldKind 169 = .ok (.aload_n 0, 1) := by decide +kernel
theorem dX2_wrongInOldKind_170 : decode cX2_wrongInOldKind 170 = .ok (.getfield 40, 3) := by decide +kernel
theorem dX2_wrongInOldKind_173 : decode cX2_wrongInOldKind 173 = .ok (.invokevirtual 57, 3) := by decide +kernel
theorem dX2_wrongInOldKind_176 : decode cX2_wrongInOldKind 176 = .ok (.iinc 3 1, 3) := by decide +kernel
theorem dX2_wrongInOldKind_179 : decode cX2_wrongInOldKind 179 = .ok (.goto (-166), 3) := by decide +kernel
theorem dX2_wrongInOldKind_182 : decode cX2_wrongInOldKind 182 = .ok (.aload_n 0, 1) := by decide +kernel
theorem dX2_wrongInOldKind_183 : decode cX2_wrongInOldKind 183 = .ok (.getfield 40, 3) := by decide +kernel
theorem dX2_wrongInOldKind_186 : decode cX2_wrongInOldKind 186 = .ok (.getfield 71, 3) := by decide +kernel
theorem dX2_wrongInOldKind_189 : decode cX2_wrongInOldKind 189 = .ok (.ifCond .ne 7, 3) := by decide +kernel
theorem dX2_wrongInOldKind_192 : decode cX2_wrongInOldKind 192 = .ok (.iconst (-1), 1) := by decide +kernel
theorem dX2_wrongInOldKind_193 : decode cX2_wrongInOldKind 193 = .ok (.goto 4, 3) := by decide +kernel
theorem dX2_wrongInOldKind_196 : decode cX2_wrongInOldKind 196 = .ok (.iload_n 2, 1) := by decide +kernel
theorem dX2_wrongInOldKind_197 : decode cX2_wrongInOldKind 197 = .ok (.ireturn, 1) := by decide +kernel
set_option maxRecDepth 20000 in
theorem ggX2_setOfEscape_X1_at : GoodIn wsX2_setOfEscape wsX1_at := goodIn_r _ [6, 7, 8, 20, 21] (by decide +kernel) (by decide +kernel)
set_option maxRecDepth 20000 in
theorem gX2_setOfEscape_X1_at : GoodIn wsX2_setOfEscape (wsV RX2 85 RX1 yX1_at wsX1_at) := goodIn_app (goodIn_of _ (by decide +kernel)) ggX2_setOfEscape_X1_at
theorem dX2_setOfEscape_0 : decode cX2_setOfEscape 0 = .ok (.aload_n 0, 1) := by decide +kernel
theorem dX2_setOfEscape_1 : decode cX2_setOfEscape 1 = .ok (.getfield 14, 3) := by decide +kernel
theorem dX2_setOfEscape_4 : decode cX2_setOfEscape 4 = .ok (.iload_n 1, 1) := by decide +kernel
theorem dX2_setOfEscape_5 : decode cX2_setOfEscape 5 = .ok (.iconst 2, 1) := by decide +kernel
theorem dX2_setOfEscape_6 : decode cX2_setOfEscape 6 = .ok (.iadd, 1) := by decide +kernel
theorem dX2_setOfEscape_7 : decode cX2_setOfEscape 7 = .ok (.invokevirtual 85, 3) := by decide +kernel
theorem dX2_setOfEscape_10 : decode cX2_setOfEscape 10 = .ok (.bipush 48, 2) := by decide +kernel
theorem dX2_setOfEscape_12 : decode cX2_setOfEscape 12 = .ok (.isub, 1) := by decide +kernel
theorem dX2_setOfEscape_13 : decode cX2_setOfEscape 13 = .ok (.istore_n 2, 1) := by decide +kernel
theorem dX2_setOfEscape_14 : decode cX2_setOfEscape 14 = .ok (.aload_n 0, 1) := by decide +kernel
theorem dX2_setOfEscape_15 : decode cX2_setOfEscape 15 = .ok (.getfield 14, 3) := by decide +kernel
theorem dX2_setOfEscape_18 : decode cX2_setOfEscape 18 = .ok (.iload_n 1, 1) := by decide +kernel
theorem dX2_setOfEscape_19 : decode cX2_setOfEscape 19 = .ok (.iconst 1, 1) := by decide +kernel
theorem dX2_setOfEscape_20 : decode cX2_setOfEscape 20 = .ok (.iadd, 1) := by decide +kernel
theorem dX2_setOfEscape_21 : decode cX2_setOfEscape 21 = .ok (.invokevirtual 85, 3) := by decide +kernel
theorem dX2_setOfEscape_24 : decode cX2_setOfEscape 24 = .ok (.bipush 103, 2) := by decide +kernel
theorem dX2_setOfEscape_26 : decode cX2_setOfEscape 26 = .ok (.if_icmp .ne 16, 3) := by decide +kernel
theorem dX2_setOfEscape_29 : decode cX2_setOfEscape 29 = .ok (.iload_n 2, 1) := by decide +kernel
theorem dX2_setOfEscape_30 : decode cX2_setOfEscape 30 = .ok (.ifCond .lt 12, 3) := by decide +kernel
theorem dX2_setOfEscape_33 : decode cX2_setOfEscape 33 = .ok (.iload_n 2, 1) := by decide +kernel
theorem dX2_setOfEscape_34 : decode cX2_setOfEscape 34 = .ok (.iconst 3, 1) := by decide +kernel
theorem dX2_setOfEscape_35 : decode cX2_setOfEscape 35 = .ok (.if_icmp .ge 7, 3) := by decide +kernel
theorem dX2_setOfEscape_38 : decode cX2_setOfEscape 38 = .ok (.iconst 1, 1) := by decide +kernel
theorem dX2_setOfEscape_39 : decode cX2_setOfEscape 39 = .ok (.goto 4, 3) := by decide +kernel
theorem dX2_setOfEscape_42 : decode cX2_setOfEscape 42 = .ok (.iconst 0, 1) := by decide +kernel
theorem dX2_setOfEscape_43 : decode cX2_setOfEscape 43 = .ok (.istore_n 3, 1) := by decide +kernel
theorem dX2_setOfEscape_44 : decode cX2_setOfEscape 44 = .ok (.iload_n 3, 1) := by decide +kernel
theorem dX2_setOfEscape_45 : decode cX2_setOfEscape 45 = .ok (.ifCond .eq 7, 3) := by decide +kernel
theorem dX2_setOfEscape_48 : decode cX2_setOfEscape 48 = .ok (.iload_n 2, 1) := by decide +kernel
theorem dX2_setOfEscape_49 : decode cX2_setOfEscape 49 = .ok (.goto 4, 3) := by decide +kernel
theorem dX2_setOfEscape_52 : decode cX2_setOfEscape 52 = .ok (.iconst (-1), 1) := by decide +kernel
theorem dX2_setOfEscape_53 : decode cX2_setOfEscape 53 = .ok (.ireturn, 1) := by decide +kernel
set_option maxRecDepth 20000 in
theorem ggX2_codeOfOldByte_X2_isPlain : GoodIn wsX2_codeOfOldByte wsX2_isPlain := goodIn_r _ [4] (by decide +kernel) (by decide +kernel)
set_option maxRecDepth 20000 in
theorem gX2_codeOfOldByte_X2_isPlain : GoodIn wsX2_codeOfOldByte (va_wsS RX2 93 yX2_isPlain wsX2_isPlain) := goodIn_app (goodIn_of _ (by decide +kernel)) ggX2_codeOfOldByte_X2_isPlain
set_option maxRecDepth 20000 in
theorem ggX2_codeOfOldByte_X2_codeInSet : GoodIn wsX2_codeOfOldByte wsX2_codeInSet := goodIn_r _ [7, 8, 9, 3, 10, 11, 12, 13] (by decide +kernel) (by decide +kernel)
set_option maxRecDepth 20000 in
theorem gX2_codeOfOldByte_X2_codeInSet : GoodIn wsX2_codeOfOldByte (va_wsS RX2 120 yX2_codeInSet wsX2_codeInSet) := goodIn_app (goodIn_of _ (by decide +kernel)) ggX2_codeOfOldByte_X2_codeInSet
theorem dX2_codeOfOldByte_0 : decode cX2_codeOfOldByte 0 = .ok (.iload_n 0, 1) := by decide +kernel
theorem dX2_codeOfOldByte_1 : decode cX2_codeOfOldByte 1 = .ok (.invokestatic 93, 3) := by decide +kernel
theorem dX2_codeOfOldByte_4 : decode cX2_codeOfOldByte 4 = .ok (.ifCond .eq 7, 3) := by decide +kernel
theorem dX2_codeOfOldByte_7 : decode cX2_codeOfOldByte 7 = .ok (.iload_n 0, 1) := by decide +kernel
theorem dX2_codeOfOldByte_8 : decode cX2_codeOfOldByte 8 = .ok (.goto 12, 3) := by decide +kernel
theorem dX2_codeOfOldByte_11 : decode cX2_codeOfOldByte 11 = .ok (.iload_n 1, 1) := by decide +kernel
theorem dX2_codeOfOldByte_12 : decode cX2_codeOfOldByte 12 = .ok (.iload_n 0, 1) := by decide +kernel
theorem dX2_codeOfOldByte_13 : decode cX2_codeOfOldByte 13 = .ok (.sipush 161, 3) := by decide +kernel
theorem dX2_codeOfOldByte_16 : decode cX2_codeOfOldByte 16 = .ok (.isub, 1) := by decide +kernel
theorem dX2_codeOfOldByte_17 : decode cX2_codeOfOldByte 17 = .ok (.invokestatic 120, 3) := by decide +kernel
theorem dX2_codeOfOldByte_20 : decode cX2_codeOfOldByte 20 = .ok (.ireturn, 1) := by decide +kernel
set_option maxRecDepth 20000 in
theorem ggX2_wrongInNewKind_X2_codeOfNewBytes : GoodIn wsX2_wrongInNewKind wsX2_codeOfNewBytes := goodIn_r _ [7, 1, 8, 9, 10, 11, 12, 13, 14, 15, 16, 6, 17, 57, 58, 59, 60, 61, 62, 63, 64, 65, 66, 67, 68, 69] (by decide +kernel) (by decide +kernel)
set_option maxRecDepth 20000 in
theorem gX2_wrongInNewKind_X2_codeOfNewBytes : GoodIn wsX2_wrongInNewKind (wsV RX2 141 RX2 yX2_codeOfNewBytes wsX2_codeOfNewBytes) := goodIn_app (goodIn_of _ (by decide +kernel)) ggX2_wrongInNewKind_X2_codeOfNewBytes
set_option maxRecDepth 20000 in
theorem ggX2_wrongInNewKind_X2_isPlain : GoodIn wsX2_wrongInNewKind wsX2_isPlain := goodIn_r _ [20] (by decide +kernel) (by decide +kernel)
set_option maxRecDepth 20000 in
theorem gX2_wrongInNewKind_X2_isPlain : GoodIn wsX2_wrongInNewKind (va_wsS RX2 93 yX2_isPlain wsX2_isPlain) := goodIn_app (goodIn_of _ (by decide +kernel)) ggX2_wrongInNewKind_X2_isPlain
set_option maxRecDepth 20000 in
theorem ggX2_wrongInNewKind_X2_setOf : GoodIn wsX2_wrongInNewKind wsX2_setOf := goodIn_r _ [23, 24, 25, 6, 26, 27, 28, 29, 30, 31, 32, 33, 34, 35] (by decide +kernel) (by decide +kernel)
set_option maxRecDepth 20000 in
theorem gX2_wrongInNewKind_X2_setOf : GoodIn wsX2_wrongInNewKind (va_wsS RX2 144 yX2_setOf wsX2_setOf) := goodIn_app (goodIn_of _ (by decide +kernel)) ggX2_wrongInNewKind_X2_setOf
set_option maxRecDepth 20000 in
theorem ggX2_wrongInNewKind_X2_isComposed : GoodIn wsX2_wrongInNewKind wsX2_isComposed := goodIn_r _ [38, 39, 40, 41, 42, 6, 43, 44, 45, 46, 47, 48, 49] (by decide +kernel) (by decide +kernel)
set_option maxRecDepth 20000 in
theorem gX2_wrongInNewKind_X2_isComposed : GoodIn wsX2_wrongInNewKind (va_wsS RX2 107 yX2_isComposed wsX2_isComposed) := goodIn_app (goodIn_of _ (by decide +kernel)) ggX2_wrongInNewKind_X2_isComposed
set_option maxRecDepth 20000 in
theorem ggX2_wrongInNewKind_X2_isMark : GoodIn wsX2_wrongInNewKind wsX2_isMark := goodIn_r _ [29] (by decide +kernel) (by decide +kernel)
set_option maxRecDepth 20000 in
theorem gX2_wrongInNewKind_X2_isMark : GoodIn wsX2_wrongInNewKind (va_wsS RX2 134 yX2_isMark wsX2_isMark) := goodIn_app (goodIn_of _ (by decide +kernel)) ggX2_wrongInNewKind_X2_isMark
set_option maxRecDepth 20000 in
theorem ggX2_wrongInNewKind_X0_add : GoodIn wsX2_wrongInNewKind wsX0_add := goodIn_r _ [54, 55, 56, 70, 71] (by decide +kernel) (by decide +kernel)
set_option maxRecDepth 20000 in
theorem gX2_wrongInNewKind_X0_add : GoodIn wsX2_wrongInNewKind (wsV RX2 137 RX0 yX0_add wsX0_add) := goodIn_app (goodIn_of _ (by decide +kernel)) ggX2_wrongInNewKind_X0_add
set_option maxRecDepth 20000 in
theorem ggX2_wrongInNewKind_X2_bytesBehindFirst : GoodIn wsX2_wrongInNewKind wsX2_bytesBehindFirst := goodIn_r _ [17] (by decide +kernel) (by decide +kernel)
set_option maxRecDepth 20000 in
theorem gX2_wrongInNewKind_X2_bytesBehindFirst : GoodIn wsX2_wrongInNewKind (va_wsS RX2 147 yX2_bytesBehindFirst wsX2_bytesBehindFirst) := goodIn_app (goodIn_of _ (by decide +kernel)) ggX2_wrongInNewKind_X2_bytesBehindFirst
theorem dX2_wrongInNewKind_0 : decode cX2_wrongInNewKind 0 = .ok (.iconst 0, 1) := by decide +kernel
theorem dX2_wrongInNewKind_1 : decode cX2_wrongInNewKind 1 = .ok (.istore_n 1, 1) := by decide +kernel
theorem dX2_wrongInNewKind_2 : decode cX2_wrongInNewKind 2 = .ok (.iload_n 1, 1) := by decide +kernel
theorem dX2_wrongInNewKind_3 : decode cX2_wrongInNewKind 3 = .ok (.aload_n 0, 1) := by decide +kernel
theorem dX2_wrongInNewKind_4 : decode cX2_wrongInNewKind 4 = .ok (.getfield 14, 3) := by decide +kernel
theorem dX2_wrongInNewKind_7 : decode cX2_wrongInNewKind 7 = .ok (.getfield 84, 3) := by decide +kernel
theorem dX2_wrongInNewKind_10 : decode cX2_wrongInNewKind 10 = .ok (.if_icmp .ge 105, 3) := by decide +kernel
theorem dX2_wrongInNewKind_13 : decode cX2_wrongInNewKind 13 = .ok (.aload_n 0, 1) := by decide +kernel
theorem dX2_wrongInNewKind_14 : decode cX2_wrongInNewKind 14 = .ok (.iload_n 1, 1) := by decide +kernel
theorem dX2_wrongInNewKind_15 : decode cX2_wrongInNewKind 15 = .ok (.invokevirtual 141, 3) := by decide +kernel
theorem dX2_wrongInNewKind_18 : decode cX2_wrongInNewKind 18 = .ok (.istore_n 2, 1) := by decide +kernel
theorem dX2_wrongInNewKind_19 : decode cX2_wrongInNewKind 19 = .ok (.iload_n 2, 1) := by decide +kernel
theorem dX2_wrongInNewKind_20 : decode cX2_wrongInNewKind 20 = .ok (.invokestatic 93, 3) := by decide +kernel
theorem dX2_wrongInNewKind_23 : decode cX2_wrongInNewKind 23 = .ok (.ifCond .ne 18, 3) := by decide +kernel
theorem dX2_wrongInNewKind_26 : decode cX2_wrongInNewKind 26 = .ok (.iload_n 2, 1) := by decide +kernel
theorem dX2_wrongInNewKind_27 : decode cX2_wrongInNewKind 27 = .ok (.invokestatic 144, 3) := by decide +kernel
theorem dX2_wrongInNewKind_30 : decode cX2_wrongInNewKind 30 = .ok (.iconst (-1), 1) := by decide +kernel
theorem dX2_wrongInNewKind_31 : decode cX2_wrongInNewKind 31 = .ok (.if_icmp .ne 10, 3) := by decide +kernel
theorem dX2_wrongInNewKind_34 : decode cX2_wrongInNewKind 34 = .ok (.iload_n 2, 1) := by decide +kernel
theorem dX2_wrongInNewKind_35 : decode cX2_wrongInNewKind 35 = .ok (.invokestatic 107, 3) := by decide +kernel
theorem dX2_wrongInNewKind_38 : decode cX2_wrongInNewKind 38 = .ok (.ifCond .eq 7, 3) := by decide +kernel
theorem dX2_wrongInNewKind_41 : decode cX2_wrongInNewKind 41 = .ok (.iconst 1, 1) := by decide +kernel
theorem dX2_wrongInNewKind_42 : decode cX2_wrongInNewKind 42 = .ok (.goto 4, 3) := by decide +kernel
theorem dX2_wrongInNewKind_45 : decode cX2_wrongInNewKind 45 = .ok (.iconst 0, 1) := by decide +kernel
theorem dX2_wrongInNewKind_46 : decode cX2_wrongInNewKind 46 = .ok (.istore_n 3, 1) := by decide +kernel
theorem dX2_wrongInNewKind_47 : decode cX2_wrongInNewKind 47 = .ok (.iload_n 2, 1) := by decide +kernel
theorem dX2_wrongInNewKind_48 : decode cX2_wrongInNewKind 48 = .ok (.invokestatic 134, 3) := by decide +kernel
theorem dX2_wrongInNewKind_51 : decode cX2_wrongInNewKind 51 = .ok (.ifCond .eq 17, 3) := by decide +kernel
theorem dX2_wrongInNewKind_54 : decode cX2_wrongInNewKind 54 = .ok (.aload_n 0, 1) := by decide +kernel
theorem dX2_wrongInNewKind_55 : decode cX2_wrongInNewKind 55 = .ok (.getfield 31, 3) := by decide +kernel
theorem dX2_wrongInNewKind_58 : decode cX2_wrongInNewKind 58 = .ok (.getfield 71, 3) := by decide +kernel
theorem dX2_wrongInNewKind_61 : decode cX2_wrongInNewKind 61 = .ok (.ifCond .ne 7, 3) := by decide +kernel
theorem dX2_wrongInNewKind_64 : decode cX2_wrongInNewKind 64 = .ok (.iconst 1, 1) := by decide +kernel
theorem dX2_wrongInNewKind_65 : decode cX2_wrongInNewKind 65 = .ok (.goto 4, 3) := by decide +kernel
theorem dX2_wrongInNewKind_68 : decode cX2_wrongInNewKind 68 = .ok (.iconst 0, 1) := by decide +kernel
theorem dX2_wrongInNewKind_69 : decode cX2_wrongInNewKind 69 = .ok (.istore 4, 2) := by decide +kernel
theorem dX2_wrongInNewKind_71 : decode cX2_wrongInNewKind 71 = .ok (.iload_n 3, 1) := by decide +kernel
theorem dX2_wrongInNewKind_72 : decode cX2_wrongInNewKind 72 = .ok (.ifCond .eq 20, 3) := by decide +kernel
theorem dX2_wrongInNewKind_75 : decode cX2_wrongInNewKind 75 = .ok (.iload 4, 2) := by decide +kernel
theorem dX2_wrongInNewKind_77 : decode cX2_wrongInNewKind 77 = .ok (.ifCond .ne 15, 3) := by decide +kernel
theorem dX2_wrongInNewKind_80 : decode cX2_wrongInNewKind 80 = .ok (.aload_n 0, 1) := by decide +kernel
theorem dX2_wrongInNewKind_81 : decode cX2_wrongInNewKind 81 = .ok (.getfield 31, 3) := by decide +kernel
theorem dX2_wrongInNewKind_84 : decode cX2_wrongInNewKind 84 = .ok (.getfield 71, 3) := by decide +kernel
theorem dX2_wrongInNewKind_87 : decode cX2_wrongInNewKind 87 = .ok (.bipush 100, 2) := by decide +kernel
theorem dX2_wrongInNewKind_89 : decode cX2_wrongInNewKind 89 = .ok (.if_icmp .lt 5, 3) := by decide +kernel
theorem dX2_wrongInNewKind_92 : decode cX2_wrongInNewKind 92 = .ok (.iload_n 1, 1) := by decide +kernel
theorem dX2_wrongInNewKind_93 : decode cX2_wrongInNewKind 93 = .ok (.ireturn, 1) := by decide +kernel
theorem dX2_wrongInNewKind_94 : decode cX2_wrongInNewKind 94 = .ok (.aload_n 0, 1) := by decide +kernel
theorem dX2_wrongInNewKind_95 : decode cX2_wrongInNewKind 95 = .ok (.getfield 31, 3) := by decide +kernel
theorem dX2_wrongInNewKind_98 : decode cX2_wrongInNewKind 98 = .ok (.iload_n 2, 1) := by decide +kernel
theorem dX2_wrongInNewKind_99 : decode cX2_wrongInNewKind 99 = .ok (.invokevirtual 137, 3) := by decide +kernel
theorem dX2_wrongInNewKind_102 : decode cX2_wrongInNewKind 102 = .ok (.iload_n 1, 1) := by decide +kernel
theorem dX2_wrongInNewKind_103 : decode cX2_wrongInNewKind 103 = .ok (.iload_n 2, 1) := by decide +kernel
theorem dX2_wrongInNewKind_104 : decode cX2_wrongInNewKind 104 = .ok (.invokestatic 147, 3) := by decide +kernel
theorem dX2_wrongInNewKind_107 : decode cX2_wrongInNewKind 107 = .ok (.iadd, 1) := by decide +kernel
theorem dX2_wrongInNewKind_108 : decode cX2_wrongInNewKind 108 = .ok (.istore_n 1, 1) := by decide +kernel
theorem dX2_wrongInNewKind_109 : decode cX2_wrongInNewKind 109 = .ok (.iinc 1 1, 3) := by decide +kernel
theorem dX2_wrongInNewKind_112 : decode cX2_wrongInNewKind 112 = .ok (.goto (-110), 3) := by decide +kernel
theorem dX2_wrongInNewKind_115 : decode cX2_wrongInNewKind 115 = .ok (.iconst (-1), 1) := by decide +kernel
theorem dX2_wrongInNewKind_116 : decode cX2_wrongInNewKind 116 = .ok (.ireturn, 1) := by decide +kernel
set_option maxRecDepth 20000 in
theorem ggX2_codeOfNewBytes_X1_at : GoodIn wsX2_codeOfNewBytes wsX1_at := goodIn_r _ [6, 7, 8, 24, 25] (by decide +kernel) (by decide +kernel)
set_option maxRecDepth 20000 in
theorem gX2_codeOfNewBytes_X1_at : GoodIn wsX2_codeOfNewBytes (wsV RX2 85 RX1 yX1_at wsX1_at) := goodIn_app (goodIn_of _ (by decide +kernel)) ggX2_codeOfNewBytes_X1_at
set_option maxRecDepth 20000 in
theorem ggX2_codeOfNewBytes_X2_bytesBehindFirst : GoodIn wsX2_codeOfNewBytes wsX2_bytesBehindFirst := goodIn_r _ [12] (by decide +kernel) (by decide +kernel)
set_option maxRecDepth 20000 in
theorem gX2_codeOfNewBytes_X2_bytesBehindFirst : GoodIn wsX2_codeOfNewBytes (va_wsS RX2 147 yX2_bytesBehindFirst wsX2_bytesBehindFirst) := goodIn_app (goodIn_of _ (by decide +kernel)) ggX2_codeOfNewBytes_X2_bytesBehindFirst
theorem dX2_codeOfNewBytes_0 : decode cX2_codeOfNewBytes 0 = .ok (.aload_n 0, 1) := by decide +kernel
theorem dX2_codeOfNewBytes_1 : decode cX2_codeOfNewBytes 1 = .ok (.getfield 14, 3) := by decide +kernel
theorem dX2_codeOfNewBytes_4 : decode cX2_codeOfNewBytes 4 = .ok (.iload_n 1, 1) := by decide +kernel
theorem dX2_codeOfNewBytes_5 : decode cX2_codeOfNewBytes 5 = .ok (.invokevirtual 85, 3) := by decide +kernel
theorem dX2_codeOfNewBytes_8 : decode cX2_codeOfNewBytes 8 = .ok (.istore_n 2, 1) := by decide +kernel
theorem dX2_codeOfNewBytes_9 : decode cX2_codeOfNewBytes 9 = .ok (.iload_n 2, 1) := by decide +kernel
theorem dX2_codeOfNewBytes_10 : decode cX2_codeOfNewBytes 10 = .ok (.sipush 128, 3) := by decide +kernel
theorem dX2_codeOfNewBytes_13 : decode cX2_codeOfNewBytes 13 = .ok (.if_icmp .ge 5, 3) := by decide +kernel
theorem dX2_codeOfNewBytes_16 : decode cX2_codeOfNewBytes 16 = .ok (.iload_n 2, 1) := by decide +kernel
theorem dX2_codeOfNewBytes_17 : decode cX2_codeOfNewBytes 17 = .ok (.ireturn, 1) := by decide +kernel
theorem dX2_codeOfNewBytes_18 : decode cX2_codeOfNewBytes 18 = .ok (.iload_n 2, 1) := by decide +kernel
theorem dX2_codeOfNewBytes_19 : decode cX2_codeOfNewBytes 19 = .ok (.sipush 192, 3) := by decide +kernel
theorem dX2_codeOfNewBytes_22 : decode cX2_codeOfNewBytes 22 = .ok (.if_icmp .lt 10, 3) := by decide +kernel
theorem dX2_codeOfNewBytes_25 : decode cX2_codeOfNewBytes 25 = .ok (.iload_n 2, 1) := by decide +kernel
theorem dX2_codeOfNewBytes_26 : decode cX2_codeOfNewBytes 26 = .ok (.sipush 240, 3) := by decide +kernel
theorem dX2_codeOfNewBytes_29 : decode cX2_codeOfNewBytes 29 = .ok (.if_icmp .lt 5, 3) := by decide +kernel
theorem dX2_codeOfNewBytes_32 : decode cX2_codeOfNewBytes 32 = .ok (.iconst (-1), 1) := by decide +kernel
theorem dX2_codeOfNewBytes_33 : decode cX2_codeOfNewBytes 33 = .ok (.ireturn, 1) := by decide +kernel
theorem dX2_codeOfNewBytes_34 : decode cX2_codeOfNewBytes 34 = .ok (.iload_n 2, 1) := by decide +kernel
theorem dX2_codeOfNewBytes_35 : decode cX2_codeOfNewBytes 35 = .ok (.sipush 224, 3) := by decide +kernel
theorem dX2_codeOfNewBytes_38 : decode cX2_codeOfNewBytes 38 = .ok (.if_icmp .ge 7, 3) := by decide +kernel
theorem dX2_codeOfNewBytes_41 : decode cX2_codeOfNewBytes 41 = .ok (.iconst 1, 1) := by decide +kernel
theorem dX2_codeOfNewBytes_42 : decode cX2_codeOfNewBytes 42 = .ok (.goto 4, 3) := by decide +kernel
theorem dX2_codeOfNewBytes_45 : decode cX2_codeOfNewBytes 45 = .ok (.iconst 2, 1) := by decide +kernel
theorem dX2_codeOfNewBytes_46 : decode cX2_codeOfNewBytes 46 = .ok (.istore_n 3, 1) := by decide +kernel
theorem dX2_codeOfNewBytes_47 : decode cX2_codeOfNewBytes 47 = .ok (.iload_n 2, 1) := by decide +kernel
theorem dX2_codeOfNewBytes_48 : decode cX2_codeOfNewBytes 48 = .ok (.sipush 224, 3) := by decide +kernel
theorem dX2_codeOfNewBytes_51 : decode cX2_codeOfNewBytes 51 = .ok (.if_icmp .ge 11, 3) := by decide +kernel
theorem dX2_codeOfNewBytes_54 : decode cX2_codeOfNewBytes 54 = .ok (.iload_n 2, 1) := by decide +kernel
theorem dX2_codeOfNewBytes_55 : decode cX2_codeOfNewBytes 55 = .ok (.sipush 192, 3) := by decide +kernel
theorem dX2_codeOfNewBytes_58 : decode cX2_codeOfNewBytes 58 = .ok (.isub, 1) := by decide +kernel
theorem dX2_codeOfNewBytes_59 : decode cX2_codeOfNewBytes 59 = .ok (.goto 8, 3) := by decide +kernel
theorem dX2_codeOfNewBytes_62 : decode cX2_codeOfNewBytes 62 = .ok (.iload_n 2, 1) := by decide +kernel
theorem dX2_codeOfNewBytes_63 : decode cX2_codeOfNewBytes 63 = .ok (.sipush 224, 3) := by decide +kernel
theorem dX2_codeOfNewBytes_66 : decode cX2_codeOfNewBytes 66 = .ok (.isub, 1) := by decide +kernel
theorem dX2_codeOfNewBytes_67 : decode cX2_codeOfNewBytes 67 = .ok (.istore 4, 2) := by decide +kernel
theorem dX2_codeOfNewBytes_69 : decode cX2_codeOfNewBytes 69 = .ok (.iconst 1, 1) := by decide +kernel
theorem dX2_codeOfNewBytes_70 : decode cX2_codeOfNewBytes 70 = .ok (.istore 5, 2) := by decide +kernel
theorem dX2_codeOfNewBytes_72 : decode cX2_codeOfNewBytes 72 = .ok (.iload 5, 2) := by decide +kernel
theorem dX2_codeOfNewBytes_74 : decode cX2_codeOfNewBytes 74 = .ok (.iload_n 3, 1) := by decide +kernel
theorem dX2_codeOfNewBytes_75 : decode cX2_codeOfNewBytes 75 = .ok (.if_icmp .gt 54, 3) := by decide +kernel
theorem dX2_codeOfNewBytes_78 : decode cX2_codeOfNewBytes 78 = .ok (.aload_n 0, 1) := by decide +kernel
theorem dX2_codeOfNewBytes_79 : decode cX2_codeOfNewBytes 79 = .ok (.getfield 14, 3) := by decide +kernel
theorem dX2_codeOfNewBytes_82 : decode cX2_codeOfNewBytes 82 = .ok (.iload_n 1, 1) := by decide +kernel
theorem dX2_codeOfNewBytes_83 : decode cX2_codeOfNewBytes 83 = .ok (.iload 5, 2) := by decide +kernel
theorem dX2_codeOfNewBytes_85 : decode cX2_codeOfNewBytes 85 = .ok (.iadd, 1) := by decide +kernel
theorem dX2_codeOfNewBytes_86 : decode cX2_codeOfNewBytes 86 = .ok (.invokevirtual 85, 3) := by decide +kernel
theorem dX2_codeOfNewBytes_89 : decode cX2_codeOfNewBytes 89 = .ok (.istore 6, 2) := by decide +kernel
theorem dX2_codeOfNewBytes_91 : decode cX2_codeOfNewBytes 91 = .ok (.iload 6, 2) := by decide +kernel
theorem dX2_codeOfNewBytes_93 : decode cX2_codeOfNewBytes 93 = .ok (.sipush 128, 3) := by decide +kernel
theorem dX2_codeOfNewBytes_96 : decode cX2_codeOfNewBytes 96 = .ok (.if_icmp .lt 11, 3) := by decide +kernel
theorem dX2_codeOfNewBytes_99 : decode cX2_codeOfNewBytes 99 = .ok (.iload 6, 2) := by decide +kernel
theorem dX2_codeOfNewBytes_101 : decode cX2_codeOfNewBytes 101 = .ok (.sipush 191, 3) := by decide +kernel
theorem dX2_codeOfNewBytes_104 : decode cX2_codeOfNewBytes 104 = .ok (.if_icmp .le 5, 3) := by decide +kernel
theorem dX2_codeOfNewBytes_107 : decode cX2_codeOfNewBytes 107 = .ok (.iconst (-1), 1) := by decide +kernel
theorem dX2_codeOfNewBytes_108 : decode cX2_codeOfNewBytes 108 = .ok (.ireturn, 1) := by decide +kernel
theorem dX2_codeOfNewBytes_109 : decode cX2_codeOfNewBytes 109 = .ok (.iload 4, 2) := by decide +kernel
theorem dX2_codeOfNewBytes_111 : decode cX2_codeOfNewBytes 111 = .ok (.bipush 64, 2) := by decide +kernel
theorem dX2_codeOfNewBytes_113 : decode cX2_codeOfNewBytes 113 = .ok (.imul, 1) := by decide +kernel
theorem dX2_codeOfNewBytes_114 : decode cX2_codeOfNewBytes 114 = .ok (.iload 6, 2) := by decide +kernel
theorem dX2_codeOfNewBytes_116 : decode cX2_codeOfNewBytes 116 = .ok (.iadd, 1) := by decide +kernel
theorem dX2_codeOfNewBytes_117 : decode cX2_codeOfNewBytes 117 = .ok (.sipush 128, 3) := by decide +kernel
theorem dX2_codeOfNewBytes_120 : decode cX2_codeOfNewBytes 120 = .ok (.isub, 1) := by decide +kernel
theorem dX2_codeOfNewBytes_121 : decode cX2_codeOfNewBytes 121 = .ok (.istore 4, 2) := by decide +kernel
theorem dX2_codeOfNewBytes_123 : decode cX2_codeOfNewBytes 123 = .ok (.iinc 5 1, 3) := by decide +kernel
theorem dX2_codeOfNewBytes_126 : decode cX2_codeOfNewBytes 126 = .ok (.goto (-54), 3) := by decide +kernel
theorem dX2_codeOfNewBytes_129 : decode cX2_codeOfNewBytes 129 = .ok (.iload 4, 2) := by decide +kernel
theorem dX2_codeOfNewBytes_131 : decode cX2_codeOfNewBytes 131 = .ok (.invokestatic 147, 3) := by decide +kernel
theorem dX2_codeOfNewBytes_134 : decode cX2_codeOfNewBytes 134 = .ok (.iload_n 3, 1) := by decide +kernel
theorem dX2_codeOfNewBytes_135 : decode cX2_codeOfNewBytes 135 = .ok (.if_icmp .ne 8, 3) := by decide +kernel
theorem dX2_codeOfNewBytes_138 : decode cX2_codeOfNewBytes 138 = .ok (.iload 4, 2) := by decide +kernel
theorem dX2_codeOfNewBytes_140 : decode cX2_codeOfNewBytes 140 = .ok (.goto 4, 3) := by decide +kernel
theorem dX2_codeOfNewBytes_143 : decode cX2_codeOfNewBytes 143 = .ok (.iconst (-1), 1) := by decide +kernel
theorem dX2_codeOfNewBytes_144 : decode cX2_codeOfNewBytes 144 = .ok (.ireturn, 1) := by decide +kernel
theorem dX2_bytesBehindFirst_0 : decode cX2_bytesBehindFirst 0 = .ok (.iload_n 0, 1) := by decide +kernel
theorem dX2_bytesBehindFirst_1 : decode cX2_bytesBehindFirst 1 = .ok (.sipush 128, 3) := by decide +kernel
theorem dX2_bytesBehindFirst_4 : decode cX2_bytesBehindFirst 4 = .ok (.if_icmp .ge 5, 3) := by decide +kernel
theorem dX2_bytesBehindFirst_7 : decode cX2_bytesBehindFirst 7 = .ok (.iconst 0, 1) := by decide +kernel
theorem dX2_bytesBehindFirst_8 : decode cX2_bytesBehindFirst 8 = .ok (.ireturn, 1) := by decide +kernel
theorem dX2_bytesBehindFirst_9 : decode cX2_bytesBehindFirst 9 = .ok (.iload_n 0, 1) := by decide +kernel
theorem dX2_bytesBehindFirst_10 : decode cX2_bytesBehindFirst 10 = .ok (.sipush 2048, 3) := by decide +kernel
theorem dX2_bytesBehindFirst_13 : decode cX2_bytesBehindFirst 13 = .ok (.if_icmp .ge 7, 3) := by decide +kernel
theorem dX2_bytesBehindFirst_16 : decode cX2_bytesBehindFirst 16 = .ok (.iconst 1, 1) := by decide +kernel
theorem dX2_bytesBehindFirst_17 : decode cX2_bytesBehindFirst 17 = .ok (.goto 4, 3) := by decide +kernel
theorem dX2_bytesBehindFirst_20 : decode cX2_bytesBehindFirst 20 = .ok (.iconst 2, 1) := by decide +kernel
theorem dX2_bytesBehindFirst_21 : decode cX2_bytesBehindFirst 21 = .ok (.ireturn, 1) := by decide +kernel
set_option maxRecDepth 20000 in
theorem ggX2_writeOldKind_X0_at : GoodIn wsX2_writeOldKind wsX0_at := goodIn_r _ [8, 9, 10, 70, 71] (by decide +kernel) (by decide +kernel)
set_option maxRecDepth 20000 in
theorem gX2_writeOldKind_X0_at : GoodIn wsX2_writeOldKind (wsV RX2 74 RX0 yX0_at wsX0_at) := goodIn_app (goodIn_of _ (by decide +kernel)) ggX2_writeOldKind_X0_at
set_option maxRecDepth 20000 in
theorem ggX2_writeOldKind_X2_isMark : GoodIn wsX2_writeOldKind wsX2_isMark := goodIn_r _ [14] (by decide +kernel) (by decide +kernel)
set_option maxRecDepth 20000 in
theorem gX2_writeOldKind_X2_isMark : GoodIn wsX2_writeOldKind (va_wsS RX2 134 yX2_isMark wsX2_isMark) := goodIn_app (goodIn_of _ (by decide +kernel)) ggX2_writeOldKind_X2_isMark
set_option maxRecDepth 20000 in
theorem ggX2_writeOldKind_X2_tell : GoodIn wsX2_writeOldKind wsX2_tell := goodIn_r _ [18, 19, 20, 21, 22, 23, 7, 24, 9, 10, 59, 60, 61, 62, 63, 64, 65, 66, 67, 68, 69, 70, 71] (by decide +kernel) (by decide +kernel)
set_option maxRecDepth 20000 in
theorem gX2_writeOldKind_X2_tell : GoodIn wsX2_writeOldKind (wsV RX2 150 RX2 yX2_tell wsX2_tell) := goodIn_app (goodIn_of _ (by decide +kernel)) ggX2_writeOldKind_X2_tell
set_option maxRecDepth 20000 in
theorem ggX2_writeOldKind_X2_isPlain : GoodIn wsX2_writeOldKind wsX2_isPlain := goodIn_r _ [27] (by decide +kernel) (by decide +kernel)
set_option maxRecDepth 20000 in
theorem gX2_writeOldKind_X2_isPlain : GoodIn wsX2_writeOldKind (va_wsS RX2 93 yX2_isPlain wsX2_isPlain) := goodIn_app (goodIn_of _ (by decide +kernel)) ggX2_writeOldKind_X2_isPlain
set_option maxRecDepth 20000 in
theorem ggX2_writeOldKind_X2_setOf : GoodIn wsX2_writeOldKind wsX2_setOf := goodIn_r _ [30, 31, 32, 13, 33, 11, 12, 14, 34, 35, 36, 37, 38, 39] (by decide +kernel) (by decide +kernel)
set_option maxRecDepth 20000 in
theorem gX2_writeOldKind_X2_setOf : GoodIn wsX2_writeOldKind (va_wsS RX2 144 yX2_setOf wsX2_setOf) := goodIn_app (goodIn_of _ (by decide +kernel)) ggX2_writeOldKind_X2_setOf
set_option maxRecDepth 20000 in
theorem ggX2_writeOldKind_X1_add : GoodIn wsX2_writeOldKind wsX1_add := goodIn_r _ [44, 45, 46, 72, 73] (by decide +kernel) (by decide +kernel)
set_option maxRecDepth 20000 in
theorem gX2_writeOldKind_X1_add : GoodIn wsX2_writeOldKind (wsV RX2 53 RX1 yX1_add wsX1_add) := goodIn_app (goodIn_of _ (by decide +kernel)) ggX2_writeOldKind_X1_add
set_option maxRecDepth 20000 in
theorem ggX2_writeOldKind_X0_marksBehind : GoodIn wsX2_writeOldKind wsX0_marksBehind := goodIn_r _ [50, 9, 51, 5, 6, 7, 8, 10, 12, 13, 14, 70, 71] (by decide +kernel) (by decide +kernel)
set_option maxRecDepth 20000 in
theorem gX2_writeOldKind_X0_marksBehind : GoodIn wsX2_writeOldKind (wsV RX2 110 RX0 yX0_marksBehind wsX0_marksBehind) := goodIn_app (goodIn_of _ (by decide +kernel)) ggX2_writeOldKind_X0_marksBehind
set_option maxRecDepth 20000 in
theorem ggX2_writeOldKind_X2_writeOldCode : GoodIn wsX2_writeOldKind wsX2_writeOldCode := goodIn_r _ [55, 2, 25, 26, 13, 27, 40, 41, 42, 43, 44, 45, 46, 28, 29, 30, 31, 32, 33, 11, 12, 14, 34, 35, 36, 37, 38, 39, 56, 57, 58, 59, 60, 61, 62, 63, 64, 65, 66, 67, 68, 69, 72, 73] (by decide +kernel) (by decide +kernel)
set_option maxRecDepth 20000 in
theorem gX2_writeOldKind_X2_writeOldCode : GoodIn wsX2_writeOldKind (wsV RX2 154 RX2 yX2_writeOldCode wsX2_writeOldCode) := goodIn_app (goodIn_of _ (by decide +kernel)) ggX2_writeOldKind_X2_writeOldCode
theorem dX2_writeOldKind_0 : decode cX2_writeOldKind 0 = .ok (.iconst 0, 1) := by decide +kernel
theorem dX2_writeOldKind_1 : decode cX2_writeOldKind 1 = .ok (.istore_n 1, 1) := by decide +kernel
theorem dX2_writeOldKind_2 : decode cX2_writeOldKind 2 = .ok (.iconst 1, 1) := by decide +kernel
theorem dX2_writeOldKind_3 : decode cX2_writeOldKind 3 = .ok (.istore_n 2, 1) := by decide +kernel
theorem dX2_writeOldKind_4 : decode cX2_writeOldKind 4 = .ok (.iconst 0, 1) := by decide +kernel
theorem dX2_writeOldKind_5 : decode cX2_writeOldKind 5 = .ok (.istore_n 3, 1) := by decide +kernel
theorem dX2_writeOldKind_6 : decode cX2_writeOldKind 6 = .ok (.iload_n 3, 1) := by decide +kernel
theorem dX2_writeOldKind_7 : decode cX2_writeOldKind 7 = .ok (.aload_n 0, 1) := by decide +kernel
theorem dX2_writeOldKind_8 : decode cX2_writeOldKind 8 = .ok (.getfield 24, 3) := by decide +kernel
theorem dX2_writeOldKind_11 : decode cX2_writeOldKind 11 = .ok (.getfield 71, 3) := by decide +kernel
theorem dX2_writeOldKind_14 : decode cX2_writeOldKind 14 = .ok (.if_icmp .ge 140, 3) := by decide +kernel
theorem dX2_writeOldKind_17 : decode cX2_writeOldKind 17 = .ok (.aload_n 0, 1) := by decide +kernel
theorem dX2_writeOldKind_18 : decode cX2_writeOldKind 18 = .ok (.getfield 24, 3) := by decide +kernel
theorem dX2_writeOldKind_21 : decode cX2_writeOldKind 21 = .ok (.iload_n 3, 1) := by decide +kernel
theorem dX2_writeOldKind_22 : decode cX2_writeOldKind 22 = .ok (.invokevirtual 74, 3) := by decide +kernel
theorem dX2_writeOldKind_25 : decode cX2_writeOldKind 25 = .ok (.istore 4, 2) := by decide +kernel
theorem dX2_writeOldKind_27 : decode cX2_writeOldKind 27 = .ok (.iload 4, 2) := by decide +kernel
theorem dX2_writeOldKind_29 : decode cX2_writeOldKind 29 = .ok (.invokestatic 134, 3) := by decide +kernel
theorem dX2_writeOldKind_32 : decode cX2_writeOldKind 32 = .ok (.ifCond .eq 17, 3) := by decide +kernel
theorem dX2_writeOldKind_35 : decode cX2_writeOldKind 35 = .ok (.iload_n 2, 1) := by decide +kernel
theorem dX2_writeOldKind_36 : decode cX2_writeOldKind 36 = .ok (.ifCond .eq 112, 3) := by decide +kernel
theorem dX2_writeOldKind_39 : decode cX2_writeOldKind 39 = .ok (.aload_n 0, 1) := by decide +kernel
theorem dX2_writeOldKind_40 : decode cX2_writeOldKind 40 = .ok (.iload 4, 2) := by decide +kernel
theorem dX2_writeOldKind_42 : decode cX2_writeOldKind 42 = .ok (.iload_n 3, 1) := by decide +kernel
theorem dX2_writeOldKind_43 : decode cX2_writeOldKind 43 = .ok (.invokevirtual 150, 3) := by decide +kernel
theorem dX2_writeOldKind_46 : decode cX2_writeOldKind 46 = .ok (.goto 102, 3) := by decide +kernel
theorem dX2_writeOldKind_49 : decode cX2_writeOldKind 49 = .ok (.iload 4, 2) := by decide +kernel
theorem dX2_writeOldKind_51 : decode cX2_writeOldKind 51 = .ok (.invokestatic 93, 3) := by decide +kernel
theorem dX2_writeOldKind_54 : decode cX2_writeOldKind 54 = .ok (.ifCond .ne 16, 3) := by decide +kernel
theorem dX2_writeOldKind_57 : decode cX2_writeOldKind 57 = .ok (.iload 4, 2) := by decide +kernel
theorem dX2_writeOldKind_59 : decode cX2_writeOldKind 59 = .ok (.invokestatic 144, 3) := by decide +kernel
theorem dX2_writeOldKind_62 : decode cX2_writeOldKind 62 = .ok (.iconst (-1), 1) := by decide +kernel
theorem dX2_writeOldKind_63 : decode cX2_writeOldKind 63 = .ok (.if_icmp .ne 7, 3) := by decide +kernel
theorem dX2_writeOldKind_66 : decode cX2_writeOldKind 66 = .ok (.iconst 1, 1) := by decide +kernel
theorem dX2_writeOldKind_67 : decode cX2_writeOldKind 67 = .ok (.goto 4, 3) := by decide +kernel
theorem dX2_writeOldKind_70 : decode cX2_writeOldKind 70 = .ok (.iconst 0, 1) := by decide +kernel
theorem dX2_writeOldKind_71 : decode cX2_writeOldKind 71 = .ok (.istore_n 2, 1) := by decide +kernel
theorem dX2_writeOldKind_72 : decode cX2_writeOldKind 72 = .ok (.iload_n 2, 1) := by decide +kernel
theorem dX2_writeOldKind_73 : decode cX2_writeOldKind 73 = .ok (.ifCond .eq 24, 3) := by decide +kernel
theorem dX2_writeOldKind_76 : decode cX2_writeOldKind 76 = .ok (.aload_n 0, 1) := by decide +kernel
theorem dX2_writeOldKind_77 : decode cX2_writeOldKind 77 = .ok (.getfield 18, 3) := by decide +kernel
theorem dX2_writeOldKind_80 : decode cX2_writeOldKind 80 = .ok (.aload_n 0, 1) := by decide +kernel
theorem dX2_writeOldKind_81 : decode cX2_writeOldKind 81 = .ok (.getfield 49, 3) := by decide +kernel
theorem dX2_writeOldKind_84 : decode cX2_writeOldKind 84 = .ok (.invokevirtual 53, 3) := by decide +kernel
theorem dX2_writeOldKind_87 : decode cX2_writeOldKind 87 = .ok (.aload_n 0, 1) := by decide +kernel
theorem dX2_writeOldKind_88 : decode cX2_writeOldKind 88 = .ok (.iload 4, 2) := by decide +kernel
theorem dX2_writeOldKind_90 : decode cX2_writeOldKind 90 = .ok (.iload_n 3, 1) := by decide +kernel
theorem dX2_writeOldKind_91 : decode cX2_writeOldKind 91 = .ok (.invokevirtual 150, 3) := by decide +kernel
theorem dX2_writeOldKind_94 : decode cX2_writeOldKind 94 = .ok (.goto 54, 3) := by decide +kernel
theorem dX2_writeOldKind_97 : decode cX2_writeOldKind 97 = .ok (.aload_n 0, 1) := by decide +kernel
theorem dX2_writeOldKind_98 : decode cX2_writeOldKind 98 = .ok (.getfield 24, 3) := by decide +kernel
theorem dX2_writeOldKind_101 : decode cX2_writeOldKind 101 = .ok (.iload_n 3, 1) := by decide +kernel
theorem dX2_writeOldKind_102 : decode cX2_writeOldKind 102 = .ok (.invokevirtual 110, 3) := by decide +kernel
theorem dX2_writeOldKind_105 : decode cX2_writeOldKind 105 = .ok (.istore 5, 2) := by decide +kernel
theorem dX2_writeOldKind_107 : decode cX2_writeOldKind 107 = .ok (.iconst 1, 1) := by decide +kernel
theorem dX2_writeOldKind_108 : decode cX2_writeOldKind 108 = .ok (.istore 6, 2) := by decide +kernel
theorem dX2_writeOldKind_110 : decode cX2_writeOldKind 110 = .ok (.iload 6, 2) := by decide +kernel
theorem dX2_writeOldKind_112 : decode cX2_writeOldKind 112 = .ok (.iload 5, 2) := by decide +kernel
theorem dX2_writeOldKind_114 : decode cX2_writeOldKind 114 = .ok (.if_icmp .gt 26, 3) := by decide +kernel
theorem dX2_writeOldKind_117 : decode cX2_writeOldKind 117 = .ok (.aload_n 0, 1) := by decide +kernel
theorem dX2_writeOldKind_118 : decode cX2_writeOldKind 118 = .ok (.aload_n 0, 1) := by decide +kernel
theorem dX2_writeOldKind_119 : decode cX2_writeOldKind 119 = .ok (.getfield 24, 3) := by decide +kernel
theorem dX2_writeOldKind_122 : decode cX2_writeOldKind 122 = .ok (.iload_n 3, 1) := by decide +kernel
theorem dX2_writeOldKind_123 : decode cX2_writeOldKind 123 = .ok (.iload 6, 2) := by decide +kernel
theorem dX2_writeOldKind_125 : decode cX2_writeOldKind 125 = .ok (.iadd, 1) := by decide +kernel
theorem dX2_writeOldKind_126 : decode cX2_writeOldKind 126 = .ok (.invokevirtual 74, 3) := by decide +kernel
theorem dX2_writeOldKind_129 : decode cX2_writeOldKind 129 = .ok (.iload_n 1, 1) := by decide +kernel
theorem dX2_writeOldKind_130 : decode cX2_writeOldKind 130 = .ok (.invokevirtual 154, 3) := by decide +kernel
theorem dX2_writeOldKind_133 : decode cX2_writeOldKind 133 = .ok (.istore_n 1, 1) := by decide +kernel
theorem dX2_writeOldKind_134 : decode cX2_writeOldKind 134 = .ok (.iinc 6 1, 3) := by decide +kernel
theorem dX2_writeOldKind_137 : decode cX2_writeOldKind 137 = .ok (.goto (-27), 3) := by decide +kernel
theorem dX2_writeOldKind_140 : decode cX2_writeOldKind 140 = .ok (.aload_n 0, 1) := by decide +kernel
theorem dX2_writeOldKind_141 : decode cX2_writeOldKind 141 = .ok (.iload 4, 2) := by decide +kernel
theorem dX2_writeOldKind_143 : decode cX2_writeOldKind 143 = .ok (.iload_n 1, 1) := by decide +kernel
theorem dX2_writeOldKind_144 : decode cX2_writeOldKind 144 = .ok (.invokevirtual 154, 3) := by decide +kernel
theorem dX2_writeOldKind_147 : decode cX2_writeOldKind 147 = .ok (.istore_n 1, 1) := by decide +kernel
theorem dX2_writeOldKind_148 : decode cX2_writeOldKind 148 = .ok (.iinc 3 1, 3) := by decide +kernel
theorem dX2_writeOldKind_151 : decode cX2_writeOldKind 151 = .ok (.goto (-145), 3) := by decide +kernel
theorem dX2_writeOldKind_154 : decode cX2_writeOldKind 154 = .ok (.return_, 1) := by decide +kernel
set_option maxRecDepth 20000 in
theorem ggX2_tell_X0_add : GoodIn wsX2_tell wsX0_add := goodIn_r _ [7, 8, 9, 21, 22] (by decide +kernel) (by decide +kernel)
set_option maxRecDepth 20000 in
theorem gX2_tell_X0_add : GoodIn wsX2_tell (wsV RX2 137 RX0 yX0_add wsX0_add) := goodIn_app (goodIn_of _ (by decide +kernel)) ggX2_tell_X0_add
theorem dX2_tell_0 : decode cX2_tell 0 = .ok (.aload_n 0, 1) := by decide +kernel
theorem dX2_tell_1 : decode cX2_tell 1 = .ok (.getfield 43, 3) := by decide +kernel
theorem dX2_tell_4 : decode cX2_tell 4 = .ok (.iload_n 1, 1) := by decide +kernel
theorem dX2_tell_5 : decode cX2_tell 5 = .ok (.invokevirtual 137, 3) := by decide +kernel
theorem dX2_tell_8 : decode cX2_tell 8 = .ok (.aload_n 0, 1) := by decide +kernel
theorem dX2_tell_9 : decode cX2_tell 9 = .ok (.getfield 46, 3) := by decide +kernel
theorem dX2_tell_12 : decode cX2_tell 12 = .ok (.iload_n 2, 1) := by decide +kernel
theorem dX2_tell_13 : decode cX2_tell 13 = .ok (.invokevirtual 137, 3) := by decide +kernel
theorem dX2_tell_16 : decode cX2_tell 16 = .ok (.return_, 1) := by decide +kernel
set_option maxRecDepth 20000 in
theorem ggX2_writeOldCode_X2_isPlain : GoodIn wsX2_writeOldCode wsX2_isPlain := goodIn_r _ [5] (by decide +kernel) (by decide +kernel)
set_option maxRecDepth 20000 in
theorem gX2_writeOldCode_X2_isPlain : GoodIn wsX2_writeOldCode (va_wsS RX2 93 yX2_isPlain wsX2_isPlain) := goodIn_app (goodIn_of _ (by decide +kernel)) ggX2_writeOldCode_X2_isPlain
set_option maxRecDepth 20000 in
theorem ggX2_writeOldCode_X1_add : GoodIn wsX2_writeOldCode wsX1_add := goodIn_r _ [10, 11, 12, 42, 43] (by decide +kernel) (by decide +kernel)
set_option maxRecDepth 20000 in
theorem gX2_writeOldCode_X1_add : GoodIn wsX2_writeOldCode (wsV RX2 53 RX1 yX1_add wsX1_add) := goodIn_app (goodIn_of _ (by decide +kernel)) ggX2_writeOldCode_X1_add
set_option maxRecDepth 20000 in
theorem ggX2_writeOldCode_X2_setOf : GoodIn wsX2_writeOldCode wsX2_setOf := goodIn_r _ [15, 16, 17, 4, 18, 19, 20, 21, 22, 23, 24, 25, 26, 27] (by decide +kernel) (by decide +kernel)
set_option maxRecDepth 20000 in
theorem gX2_writeOldCode_X2_setOf : GoodIn wsX2_writeOldCode (va_wsS RX2 144 yX2_setOf wsX2_setOf) := goodIn_app (goodIn_of _ (by decide +kernel)) ggX2_writeOldCode_X2_setOf
set_option maxRecDepth 20000 in
theorem ggX2_writeOldCode_X2_placeInSet : GoodIn wsX2_writeOldCode wsX2_placeInSet := goodIn_r _ [30, 19, 20, 4, 21, 22, 23, 24, 25, 26, 27] (by decide +kernel) (by decide +kernel)
set_option maxRecDepth 20000 in
theorem gX2_writeOldCode_X2_placeInSet : GoodIn wsX2_writeOldCode (va_wsS RX2 157 yX2_placeInSet wsX2_placeInSet) := goodIn_app (goodIn_of _ (by decide +kernel)) ggX2_writeOldCode_X2_placeInSet
theorem dX2_writeOldCode_0 : decode cX2_writeOldCode 0 = .ok (.iload_n 1, 1) := by decide +kernel
theorem dX2_writeOldCode_1 : decode cX2_writeOldCode 1 = .ok (.invokestatic 93, 3) := by decide +kernel
theorem dX2_writeOldCode_4 : decode cX2_writeOldCode 4 = .ok (.ifCond .eq 13, 3) := by decide +kernel
theorem dX2_writeOldCode_7 : decode cX2_writeOldCode 7 = .ok (.aload_n 0, 1) := by decide +kernel
theorem dX2_writeOldCode_8 : decode cX2_writeOldCode 8 = .ok (.getfield 18, 3) := by decide +kernel
theorem dX2_writeOldCode_11 : decode cX2_writeOldCode 11 = .ok (.iload_n 1, 1) := by decide +kernel
theorem dX2_writeOldCode_12 : decode cX2_writeOldCode 12 = .ok (.invokevirtual 53, 3) := by decide +kernel
theorem dX2_writeOldCode_15 : decode cX2_writeOldCode 15 = .ok (.iload_n 2, 1) := by decide +kernel
theorem dX2_writeOldCode_16 : decode cX2_writeOldCode 16 = .ok (.ireturn, 1) := by decide +kernel
theorem dX2_writeOldCode_17 : decode cX2_writeOldCode 17 = .ok (.iload_n 1, 1) := by decide +kernel
theorem dX2_writeOldCode_18 : decode cX2_writeOldCode 18 = .ok (.invokestatic 144, 3) := by decide +kernel
theorem dX2_writeOldCode_21 : decode cX2_writeOldCode 21 = .ok (.istore_n 3, 1) := by decide +kernel
theorem dX2_writeOldCode_22 : decode cX2_writeOldCode 22 = .ok (.iload_n 3, 1) := by decide +kernel
theorem dX2_writeOldCode_23 : decode cX2_writeOldCode 23 = .ok (.iload_n 2, 1) := by decide +kernel
theorem dX2_writeOldCode_24 : decode cX2_writeOldCode 24 = .ok (.if_icmp .eq 32, 3) := by decide +kernel
theorem dX2_writeOldCode_27 : decode cX2_writeOldCode 27 = .ok (.aload_n 0, 1) := by decide +kernel
theorem dX2_writeOldCode_28 : decode cX2_writeOldCode 28 = .ok (.getfield 18, 3) := by decide +kernel
theorem dX2_writeOldCode_31 : decode cX2_writeOldCode 31 = .ok (.bipush 27, 2) := by decide +kernel
theorem dX2_writeOldCode_33 : decode cX2_writeOldCode 33 = .ok (.invokevirtual 53, 3) := by decide +kernel
theorem dX2_writeOldCode_36 : decode cX2_writeOldCode 36 = .ok (.aload_n 0, 1) := by decide +kernel
theorem dX2_writeOldCode_37 : decode cX2_writeOldCode 37 = .ok (.getfield 18, 3) := by decide +kernel
theorem dX2_writeOldCode_40 : decode cX2_writeOldCode 40 = .ok (.bipush 103, 2) := by decide +kernel
theorem dX2_writeOldCode_42 : decode cX2_writeOldCode 42 = .ok (.invokevirtual 53, 3) := by decide +kernel
theorem dX2_writeOldCode_45 : decode cX2_writeOldCode 45 = .ok (.aload_n 0, 1) := by decide +kernel
theorem dX2_writeOldCode_46 : decode cX2_writeOldCode 46 = .ok (.getfield 18, 3) := by decide +kernel
theorem dX2_writeOldCode_49 : decode cX2_writeOldCode 49 = .ok (.bipush 48, 2) := by decide +kernel
theorem dX2_writeOldCode_51 : decode cX2_writeOldCode 51 = .ok (.iload_n 3, 1) := by decide +kernel
theorem dX2_writeOldCode_52 : decode cX2_writeOldCode 52 = .ok (.iadd, 1) := by decide +kernel
theorem dX2_writeOldCode_53 : decode cX2_writeOldCode 53 = .ok (.invokevirtual 53, 3) := by decide +kernel
theorem dX2_writeOldCode_56 : decode cX2_writeOldCode 56 = .ok (.aload_n 0, 1) := by decide +kernel
theorem dX2_writeOldCode_57 : decode cX2_writeOldCode 57 = .ok (.getfield 18, 3) := by decide +kernel
theorem dX2_writeOldCode_60 : decode cX2_writeOldCode 60 = .ok (.sipush 161, 3) := by decide +kernel
theorem dX2_writeOldCode_63 : decode cX2_writeOldCode 63 = .ok (.iload_n 1, 1) := by decide +kernel
theorem dX2_writeOldCode_64 : decode cX2_writeOldCode 64 = .ok (.invokestatic 157, 3) := by decide +kernel
theorem dX2_writeOldCode_67 : decode cX2_writeOldCode 67 = .ok (.iadd, 1) := by decide +kernel
theorem dX2_writeOldCode_68 : decode cX2_writeOldCode 68 = .ok (.invokevirtual 53, 3) := by decide +kernel
theorem dX2_writeOldCode_71 : decode cX2_writeOldCode 71 = .ok (.iload_n 3, 1) := by decide +kernel
theorem dX2_writeOldCode_72 : decode cX2_writeOldCode 72 = .ok (.ireturn, 1) := by decide +kernel
set_option maxRecDepth 20000 in
theorem ggX2_writeNewKind_X0_at : GoodIn wsX2_writeNewKind wsX0_at := goodIn_r _ [6, 7, 8, 36, 37] (by decide +kernel) (by decide +kernel)
set_option maxRecDepth 20000 in
theorem gX2_writeNewKind_X0_at : GoodIn wsX2_writeNewKind (wsV RX2 74 RX0 yX0_at wsX0_at) := goodIn_app (goodIn_of _ (by decide +kernel)) ggX2_writeNewKind_X0_at
set_option maxRecDepth 20000 in
theorem ggX2_writeNewKind_X2_writeNewCode : GoodIn wsX2_writeNewKind wsX2_writeNewCode := goodIn_r _ [13, 14, 15, 16, 12, 17, 18, 19, 20, 21, 22, 23, 24, 25, 26, 27, 28, 29, 30, 31, 32, 33, 34, 35, 38, 39] (by decide +kernel) (by decide +kernel)
set_option maxRecDepth 20000 in
theorem gX2_writeNewKind_X2_writeNewCode : GoodIn wsX2_writeNewKind (wsV RX2 160 RX2 yX2_writeNewCode wsX2_writeNewCode) := goodIn_app (goodIn_of _ (by decide +kernel)) ggX2_writeNewKind_X2_writeNewCode
theorem dX2_writeNewKind_0 : decode cX2_writeNewKind 0 = .ok (.iconst 0, 1) := by decide +kernel
theorem dX2_writeNewKind_1 : decode cX2_writeNewKind 1 = .ok (.istore_n 1, 1) := by decide +kernel
theorem dX2_writeNewKind_2 : decode cX2_writeNewKind 2 = .ok (.iload_n 1, 1) := by decide +kernel
theorem dX2_writeNewKind_3 : decode cX2_writeNewKind 3 = .ok (.aload_n 0, 1) := by decide +kernel
theorem dX2_writeNewKind_4 : decode cX2_writeNewKind 4 = .ok (.getfield 24, 3) := by decide +kernel
theorem dX2_writeNewKind_7 : decode cX2_writeNewKind 7 = .ok (.getfield 71, 3) := by decide +kernel
theorem dX2_writeNewKind_10 : decode cX2_writeNewKind 10 = .ok (.if_icmp .ge 21, 3) := by decide +kernel
theorem dX2_writeNewKind_13 : decode cX2_writeNewKind 13 = .ok (.aload_n 0, 1) := by decide +kernel
theorem dX2_writeNewKind_14 : decode cX2_writeNewKind 14 = .ok (.aload_n 0, 1) := by decide +kernel
theorem dX2_writeNewKind_15 : decode cX2_writeNewKind 15 = .ok (.getfield 24, 3) := by decide +kernel
theorem dX2_writeNewKind_18 : decode cX2_writeNewKind 18 = .ok (.iload_n 1, 1) := by decide +kernel
theorem dX2_writeNewKind_19 : decode cX2_writeNewKind 19 = .ok (.invokevirtual 74, 3) := by decide +kernel
theorem dX2_writeNewKind_22 : decode cX2_writeNewKind 22 = .ok (.invokevirtual 160, 3) := by decide +kernel
theorem dX2_writeNewKind_25 : decode cX2_writeNewKind 25 = .ok (.iinc 1 1, 3) := by decide +kernel
theorem dX2_writeNewKind_28 : decode cX2_writeNewKind 28 = .ok (.goto (-26), 3) := by decide +kernel
theorem dX2_writeNewKind_31 : decode cX2_writeNewKind 31 = .ok (.return_, 1) := by decide +kernel
set_option maxRecDepth 20000 in
theorem ggX2_writeNewCode_X2_bytesBehindFirst : GoodIn wsX2_writeNewCode wsX2_bytesBehindFirst := goodIn_r _ [5] (by decide +kernel) (by decide +kernel)
set_option maxRecDepth 20000 in
theorem gX2_writeNewCode_X2_bytesBehindFirst : GoodIn wsX2_writeNewCode (va_wsS RX2 147 yX2_bytesBehindFirst wsX2_bytesBehindFirst) := goodIn_app (goodIn_of _ (by decide +kernel)) ggX2_writeNewCode_X2_bytesBehindFirst
set_option maxRecDepth 20000 in
theorem ggX2_writeNewCode_X1_add : GoodIn wsX2_writeNewCode wsX1_add := goodIn_r _ [10, 11, 12, 24, 25] (by decide +kernel) (by decide +kernel)
set_option maxRecDepth 20000 in
theorem gX2_writeNewCode_X1_add : GoodIn wsX2_writeNewCode (wsV RX2 53 RX1 yX1_add wsX1_add) := goodIn_app (goodIn_of _ (by decide +kernel)) ggX2_writeNewCode_X1_add
theorem dX2_writeNewCode_0 : decode cX2_writeNewCode 0 = .ok (.iload_n 1, 1) := by decide +kernel
theorem dX2_writeNewCode_1 : decode cX2_writeNewCode 1 = .ok (.invokestatic 147, 3) := by decide +kernel
theorem dX2_writeNewCode_4 : decode cX2_writeNewCode 4 = .ok (.istore_n 2, 1) := by decide +kernel
theorem dX2_writeNewCode_5 : decode cX2_writeNewCode 5 = .ok (.iload_n 2, 1) := by decide +kernel
theorem dX2_writeNewCode_6 : decode cX2_writeNewCode 6 = .ok (.ifCond .ne 12, 3) := by decide +kernel
theorem dX2_writeNewCode_9 : decode cX2_writeNewCode 9 = .ok (.aload_n 0, 1) := by decide +kernel
theorem dX2_writeNewCode_10 : decode cX2_writeNewCode 10 = .ok (.getfield 18, 3) := by decide +kernel
theorem dX2_writeNewCode_13 : decode cX2_writeNewCode 13 = .ok (.iload_n 1, 1) := by decide +kernel
theorem dX2_writeNewCode_14 : decode cX2_writeNewCode 14 = .ok (.invokevirtual 53, 3) := by decide +kernel
theorem dX2_writeNewCode_17 : decode cX2_writeNewCode 17 = .ok (.return_, 1) := by decide +kernel
theorem dX2_writeNewCode_18 : decode cX2_writeNewCode 18 = .ok (.iload_n 2, 1) := by decide +kernel
theorem dX2_writeNewCode_19 : decode cX2_writeNewCode 19 = .ok (.iconst 1, 1) := by decide +kernel
theorem dX2_writeNewCode_20 : decode cX2_writeNewCode 20 = .ok (.if_icmp .ne 21, 3) := by decide +kernel
theorem dX2_writeNewCode_23 : decode cX2_writeNewCode 23 = .ok (.aload_n 0, 1) := by decide +kernel
theorem dX2_writeNewCode_24 : decode cX2_writeNewCode 24 = .ok (.getfield 18, 3) := by decide +kernel
theorem dX2_writeNewCode_27 : decode cX2_writeNewCode 27 = .ok (.sipush 192, 3) := by decide +kernel
theorem dX2_writeNewCode_30 : decode cX2_writeNewCode 30 = .ok (.iload_n 1, 1) := by decide +kernel
theorem dX2_writeNewCode_31 : decode cX2_writeNewCode 31 = .ok (.bipush 64, 2) := by decide +kernel
theorem dX2_writeNewCode_33 : decode cX2_writeNewCode 33 = .ok (.idiv, 1) := by decide +kernel
theorem dX2_writeNewCode_34 : decode cX2_writeNewCode 34 = .ok (.iadd, 1) := by decide +kernel
theorem dX2_writeNewCode_35 : decode cX2_writeNewCode 35 = .ok (.invokevirtual 53, 3) := by decide +kernel
theorem dX2_writeNewCode_38 : decode cX2_writeNewCode 38 = .ok (.goto 37, 3) := by decide +kernel
theorem dX2_writeNewCode_41 : decode cX2_writeNewCode 41 = .ok (.aload_n 0, 1) := by decide +kernel
theorem dX2_writeNewCode_42 : decode cX2_writeNewCode 42 = .ok (.getfield 18, 3) := by decide +kernel
theorem dX2_writeNewCode_45 : decode cX2_writeNewCode 45 = .ok (.sipush 224, 3) := by decide +kernel
theorem dX2_writeNewCode_48 : decode cX2_writeNewCode 48 = .ok (.iload_n 1, 1) := by decide +kernel
theorem dX2_writeNewCode_49 : decode cX2_writeNewCode 49 = .ok (.sipush 4096, 3) := by decide +kernel
theorem dX2_writeNewCode_52 : decode cX2_writeNewCode 52 = .ok (.idiv, 1) := by decide +kernel
theorem dX2_writeNewCode_53 : decode cX2_writeNewCode 53 = .ok (.iadd, 1) := by decide +kernel
theorem dX2_writeNewCode_54 : decode cX2_writeNewCode 54 = .ok (.invokevirtual 53, 3) := by decide +kernel
theorem dX2_writeNewCode_57 : decode cX2_writeNewCode 57 = .ok (.aload_n 0, 1) := by decide +kernel
theorem dX2_writeNewCode_58 : decode cX2_writeNewCode 58 = .ok (.getfield 18, 3) := by decide +kernel
theorem dX2_writeNewCode_61 : decode cX2_writeNewCode 61 = .ok (.sipush 128, 3) := by decide +kernel
theorem dX2_writeNewCode_64 : decode cX2_writeNewCode 64 = .ok (.iload_n 1, 1) := by decide +kernel
theorem dX2_writeNewCode_65 : decode cX2_writeNewCode 65 = .ok (.bipush 64, 2) := by decide +kernel
theorem dX2_writeNewCode_67 : decode cX2_writeNewCode 67 = .ok (.idiv, 1) := by decide +kernel
theorem dX2_writeNewCode_68 : decode cX2_writeNewCode 68 = .ok (.bipush 64, 2) := by decide +kernel
theorem dX2_writeNewCode_70 : decode cX2_writeNewCode 70 = .ok (.irem, 1) := by decide +kernel
theorem dX2_writeNewCode_71 : decode cX2_writeNewCode 71 = .ok (.iadd, 1) := by decide +kernel
theorem dX2_writeNewCode_72 : decode cX2_writeNewCode 72 = .ok (.invokevirtual 53, 3) := by decide +kernel
theorem dX2_writeNewCode_75 : decode cX2_writeNewCode 75 = .ok (.aload_n 0, 1) := by decide +kernel
theorem dX2_writeNewCode_76 : decode cX2_writeNewCode 76 = .ok (.getfield 18, 3) := by decide +kernel
theorem dX2_writeNewCode_79 : decode cX2_writeNewCode 79 = .ok (.sipush 128, 3) := by decide +kernel
theorem dX2_writeNewCode_82 : decode cX2_writeNewCode 82 = .ok (.iload_n 1, 1) := by decide +kernel
theorem dX2_writeNewCode_83 : decode cX2_writeNewCode 83 = .ok (.bipush 64, 2) := by decide +kernel
theorem dX2_writeNewCode_85 : decode cX2_writeNewCode 85 = .ok (.irem, 1) := by decide +kernel
theorem dX2_writeNewCode_86 : decode cX2_writeNewCode 86 = .ok (.iadd, 1) := by decide +kernel
theorem dX2_writeNewCode_87 : decode cX2_writeNewCode 87 = .ok (.invokevirtual 53, 3) := by decide +kernel
theorem dX2_writeNewCode_90 : decode cX2_writeNewCode 90 = .ok (.return_, 1) := by decide +kernel
theorem dX2_isPlain_0 : decode cX2_isPlain 0 = .ok (.iload_n 0, 1) := by decide +kernel
theorem dX2_isPlain_1 : decode cX2_isPlain 1 = .ok (.bipush 32, 2) := by decide +kernel
theorem dX2_isPlain_3 : decode cX2_isPlain 3 = .ok (.if_icmp .lt 13, 3) := by decide +kernel
theorem dX2_isPlain_6 : decode cX2_isPlain 6 = .ok (.iload_n 0, 1) := by decide +kernel
theorem dX2_isPlain_7 : decode cX2_isPlain 7 = .ok (.bipush 126, 2) := by decide +kernel
theorem dX2_isPlain_9 : decode cX2_isPlain 9 = .ok (.if_icmp .gt 7, 3) := by decide +kernel
theorem dX2_isPlain_12 : decode cX2_isPlain 12 = .ok (.iconst 1, 1) := by decide +kernel
theorem dX2_isPlain_13 : decode cX2_isPlain 13 = .ok (.goto 4, 3) := by decide +kernel
theorem dX2_isPlain_16 : decode cX2_isPlain 16 = .ok (.iconst 0, 1) := by decide +kernel
theorem dX2_isPlain_17 : decode cX2_isPlain 17 = .ok (.ireturn, 1) := by decide +kernel
theorem dX2_isCapital_0 : decode cX2_isCapital 0 = .ok (.iload_n 0, 1) := by decide +kernel
theorem dX2_isCapital_1 : decode cX2_isCapital 1 = .ok (.bipush 65, 2) := by decide +kernel
theorem dX2_isCapital_3 : decode cX2_isCapital 3 = .ok (.if_icmp .lt 13, 3) := by decide +kernel
theorem dX2_isCapital_6 : decode cX2_isCapital 6 = .ok (.iload_n 0, 1) := by decide +kernel
theorem dX2_isCapital_7 : decode cX2_isCapital 7 = .ok (.bipush 90, 2) := by decide +kernel
theorem dX2_isCapital_9 : decode cX2_isCapital 9 = .ok (.if_icmp .gt 7, 3) := by decide +kernel
theorem dX2_isCapital_12 : decode cX2_isCapital 12 = .ok (.iconst 1, 1) := by decide +kernel
theorem dX2_isCapital_13 : decode cX2_isCapital 13 = .ok (.goto 4, 3) := by decide +kernel
theorem dX2_isCapital_16 : decode cX2_isCapital 16 = .ok (.iconst 0, 1) := by decide +kernel
theorem dX2_isCapital_17 : decode cX2_isCapital 17 = .ok (.ireturn, 1) := by decide +kernel
set_option maxRecDepth 20000 in
theorem ggX2_isLetter_X2_isCapital : GoodIn wsX2_isLetter wsX2_isCapital := goodIn_r _ [4] (by decide +kernel) (by decide +kernel)
set_option maxRecDepth 20000 in
theorem gX2_isLetter_X2_isCapital : GoodIn wsX2_isLetter (va_wsS RX2 163 yX2_isCapital wsX2_isCapital) := goodIn_app (goodIn_of _ (by decide +kernel)) ggX2_isLetter_X2_isCapital
theorem dX2_isLetter_0 : decode cX2_isLetter 0 = .ok (.iload_n 0, 1) := by decide +kernel
theorem dX2_isLetter_1 : decode cX2_isLetter 1 = .ok (.invokestatic 163, 3) := by decide +kernel
theorem dX2_isLetter_4 : decode cX2_isLetter 4 = .ok (.ifCond .ne 15, 3) := by decide +kernel
theorem dX2_isLetter_7 : decode cX2_isLetter 7 = .ok (.iload_n 0, 1) := by decide +kernel
theorem dX2_isLetter_8 : decode cX2_isLetter 8 = .ok (.bipush 97, 2) := by decide +kernel
theorem dX2_isLetter_10 : decode cX2_isLetter 10 = .ok (.if_icmp .lt 13, 3) := by decide +kernel
theorem dX2_isLetter_13 : decode cX2_isLetter 13 = .ok (.iload_n 0, 1) := by decide +kernel
theorem dX2_isLetter_14 : decode cX2_isLetter 14 = .ok (.bipush 122, 2) := by decide +kernel
theorem dX2_isLetter_16 : decode cX2_isLetter 16 = .ok (.if_icmp .gt 7, 3) := by decide +kernel
theorem dX2_isLetter_19 : decode cX2_isLetter 19 = .ok (.iconst 1, 1) := by decide +kernel
theorem dX2_isLetter_20 : decode cX2_isLetter 20 = .ok (.goto 4, 3) := by decide +kernel
theorem dX2_isLetter_23 : decode cX2_isLetter 23 = .ok (.iconst 0, 1) := by decide +kernel
theorem dX2_isLetter_24 : decode cX2_isLetter 24 = .ok (.ireturn, 1) := by decide +kernel
theorem dX2_isMark_0 : decode cX2_isMark 0 = .ok (.iload_n 0, 1) := by decide +kernel
theorem dX2_isMark_1 : decode cX2_isMark 1 = .ok (.sipush 768, 3) := by decide +kernel
theorem dX2_isMark_4 : decode cX2_isMark 4 = .ok (.if_icmp .lt 14, 3) := by decide +kernel
theorem dX2_isMark_7 : decode cX2_isMark 7 = .ok (.iload_n 0, 1) := by decide +kernel
theorem dX2_isMark_8 : decode cX2_isMark 8 = .ok (.sipush 783, 3) := by decide +kernel
theorem dX2_isMark_11 : decode cX2_isMark 11 = .ok (.if_icmp .ge 7, 3) := by decide +kernel
theorem dX2_isMark_14 : decode cX2_isMark 14 = .ok (.iconst 1, 1) := by decide +kernel
theorem dX2_isMark_15 : decode cX2_isMark 15 = .ok (.goto 4, 3) := by decide +kernel
theorem dX2_isMark_18 : decode cX2_isMark 18 = .ok (.iconst 0, 1) := by decide +kernel
theorem dX2_isMark_19 : decode cX2_isMark 19 = .ok (.ireturn, 1) := by decide +kernel
theorem dX2_rankOf_0 : decode cX2_rankOf 0 = .ok (.iload_n 0, 1) := by decide +kernel
theorem dX2_rankOf_1 : decode cX2_rankOf 1 = .ok (.sipush 768, 3) := by decide +kernel
theorem dX2_rankOf_4 : decode cX2_rankOf 4 = .ok (.isub, 1) := by decide +kernel
theorem dX2_rankOf_5 : decode cX2_rankOf 5 = .ok (.iconst 5, 1) := by decide +kernel
theorem dX2_rankOf_6 : decode cX2_rankOf 6 = .ok (.idiv, 1) := by decide +kernel
theorem dX2_rankOf_7 : decode cX2_rankOf 7 = .ok (.ireturn, 1) := by decide +kernel
set_option maxRecDepth 20000 in
theorem ggX2_isComposed_X2_letterOf : GoodIn wsX2_isComposed wsX2_letterOf := goodIn_r _ [6, 1] (by decide +kernel) (by decide +kernel)
set_option maxRecDepth 20000 in
theorem gX2_isComposed_X2_letterOf : GoodIn wsX2_isComposed (va_wsS RX2 168 yX2_letterOf wsX2_letterOf) := goodIn_app (goodIn_of _ (by decide +kernel)) ggX2_isComposed_X2_letterOf
set_option maxRecDepth 20000 in
theorem ggX2_isComposed_X2_isLetter : GoodIn wsX2_isComposed wsX2_isLetter := goodIn_r _ [9, 10, 11, 5, 12] (by decide +kernel) (by decide +kernel)
set_option maxRecDepth 20000 in
theorem gX2_isComposed_X2_isLetter : GoodIn wsX2_isComposed (va_wsS RX2 171 yX2_isLetter wsX2_isLetter) := goodIn_app (goodIn_of _ (by decide +kernel)) ggX2_isComposed_X2_isLetter
theorem dX2_isComposed_0 : decode cX2_isComposed 0 = .ok (.iload_n 0, 1) := by decide +kernel
theorem dX2_isComposed_1 : decode cX2_isComposed 1 = .ok (.ldc 166, 2) := by decide +kernel
theorem dX2_isComposed_3 : decode cX2_isComposed 3 = .ok (.if_icmp .lt 23, 3) := by decide +kernel
theorem dX2_isComposed_6 : decode cX2_isComposed 6 = .ok (.iload_n 0, 1) := by decide +kernel
theorem dX2_isComposed_7 : decode cX2_isComposed 7 = .ok (.ldc 167, 2) := by decide +kernel
theorem dX2_isComposed_9 : decode cX2_isComposed 9 = .ok (.if_icmp .ge 17, 3) := by decide +kernel
theorem dX2_isComposed_12 : decode cX2_isComposed 12 = .ok (.iload_n 0, 1) := by decide +kernel
theorem dX2_isComposed_13 : decode cX2_isComposed 13 = .ok (.invokestatic 168, 3) := by decide +kernel
theorem dX2_isComposed_16 : decode cX2_isComposed 16 = .ok (.invokestatic 171, 3) := by decide +kernel
theorem dX2_isComposed_19 : decode cX2_isComposed 19 = .ok (.ifCond .eq 7, 3) := by decide +kernel
theorem dX2_isComposed_22 : decode cX2_isComposed 22 = .ok (.iconst 1, 1) := by decide +kernel
theorem dX2_isComposed_23 : decode cX2_isComposed 23 = .ok (.goto 4, 3) := by decide +kernel
theorem dX2_isComposed_26 : decode cX2_isComposed 26 = .ok (.iconst 0, 1) := by decide +kernel
theorem dX2_isComposed_27 : decode cX2_isComposed 27 = .ok (.ireturn, 1) := by decide +kernel
theorem dX2_letterOf_0 : decode cX2_letterOf 0 = .ok (.iload_n 0, 1) := by decide +kernel
theorem dX2_letterOf_1 : decode cX2_letterOf 1 = .ok (.ldc 166, 2) := by decide +kernel
theorem dX2_letterOf_3 : decode cX2_letterOf 3 = .ok (.isub, 1) := by decide +kernel
theorem dX2_letterOf_4 : decode cX2_letterOf 4 = .ok (.bipush 64, 2) := by decide +kernel
theorem dX2_letterOf_6 : decode cX2_letterOf 6 = .ok (.irem, 1) := by decide +kernel
theorem dX2_letterOf_7 : decode cX2_letterOf 7 = .ok (.bipush 64, 2) := by decide +kernel
theorem dX2_letterOf_9 : decode cX2_letterOf 9 = .ok (.iadd, 1) := by decide +kernel
theorem dX2_letterOf_10 : decode cX2_letterOf 10 = .ok (.ireturn, 1) := by decide +kernel
theorem dX2_markOf_0 : decode cX2_markOf 0 = .ok (.iload_n 0, 1) := by decide +kernel
theorem dX2_markOf_1 : decode cX2_markOf 1 = .ok (.ldc 166, 2) := by decide +kernel
theorem dX2_markOf_3 : decode cX2_markOf 3 = .ok (.isub, 1) := by decide +kernel
theorem dX2_markOf_4 : decode cX2_markOf 4 = .ok (.bipush 64, 2) := by decide +kernel
theorem dX2_markOf_6 : decode cX2_markOf 6 = .ok (.idiv, 1) := by decide +kernel
theorem dX2_markOf_7 : decode cX2_markOf 7 = .ok (.sipush 768, 3) := by decide +kernel
theorem dX2_markOf_10 : decode cX2_markOf 10 = .ok (.iadd, 1) := by decide +kernel
theorem dX2_markOf_11 : decode cX2_markOf 11 = .ok (.ireturn, 1) := by decide +kernel
theorem dX2_composedOf_0 : decode cX2_composedOf 0 = .ok (.ldc 166, 2) := by decide +kernel
theorem dX2_composedOf_2 : decode cX2_composedOf 2 = .ok (.bipush 64, 2) := by decide +kernel
theorem dX2_composedOf_4 : decode cX2_composedOf 4 = .ok (.iload_n 1, 1) := by decide +kernel
theorem dX2_composedOf_5 : decode cX2_composedOf 5 = .ok (.sipush 768, 3) := by decide +kernel
theorem dX2_composedOf_8 : decode cX2_composedOf 8 = .ok (.isub, 1) := by decide +kernel
theorem dX2_composedOf_9 : decode cX2_composedOf 9 = .ok (.imul, 1) := by decide +kernel
theorem dX2_composedOf_10 : decode cX2_composedOf 10 = .ok (.iadd, 1) := by decide +kernel
theorem dX2_composedOf_11 : decode cX2_composedOf 11 = .ok (.iload_n 0, 1) := by decide +kernel
theorem dX2_composedOf_12 : decode cX2_composedOf 12 = .ok (.iadd, 1) := by decide +kernel
theorem dX2_composedOf_13 : decode cX2_composedOf 13 = .ok (.bipush 64, 2) := by decide +kernel
theorem dX2_composedOf_15 : decode cX2_composedOf 15 = .ok (.isub, 1) := by decide +kernel
theorem dX2_composedOf_16 : decode cX2_composedOf 16 = .ok (.ireturn, 1) := by decide +kernel
set_option maxRecDepth 20000 in
theorem ggX2_keyOf_X2_isComposed : GoodIn wsX2_keyOf wsX2_isComposed := goodIn_r _ [4, 5, 6, 7, 8, 3, 9, 10, 11, 12, 13, 14, 15] (by decide +kernel) (by decide +kernel)
set_option maxRecDepth 20000 in
theorem gX2_keyOf_X2_isComposed : GoodIn wsX2_keyOf (va_wsS RX2 107 yX2_isComposed wsX2_isComposed) := goodIn_app (goodIn_of _ (by decide +kernel)) ggX2_keyOf_X2_isComposed
set_option maxRecDepth 20000 in
theorem ggX2_keyOf_X2_letterOf : GoodIn wsX2_keyOf wsX2_letterOf := goodIn_r _ [9, 5] (by decide +kernel) (by decide +kernel)
set_option maxRecDepth 20000 in
theorem gX2_keyOf_X2_letterOf : GoodIn wsX2_keyOf (va_wsS RX2 168 yX2_letterOf wsX2_letterOf) := goodIn_app (goodIn_of _ (by decide +kernel)) ggX2_keyOf_X2_letterOf
set_option maxRecDepth 20000 in
theorem ggX2_keyOf_X2_isCapital : GoodIn wsX2_keyOf wsX2_isCapital := goodIn_r _ [15] (by decide +kernel) (by decide +kernel)
set_option maxRecDepth 20000 in
theorem gX2_keyOf_X2_isCapital : GoodIn wsX2_keyOf (va_wsS RX2 163 yX2_isCapital wsX2_isCapital) := goodIn_app (goodIn_of _ (by decide +kernel)) ggX2_keyOf_X2_isCapital
theorem dX2_keyOf_0 : decode cX2_keyOf 0 = .ok (.iload_n 0, 1) := by decide +kernel
theorem dX2_keyOf_1 : decode cX2_keyOf 1 = .ok (.invokestatic 107, 3) := by decide +kernel
theorem dX2_keyOf_4 : decode cX2_keyOf 4 = .ok (.ifCond .eq 10, 3) := by decide +kernel
theorem dX2_keyOf_7 : decode cX2_keyOf 7 = .ok (.iload_n 0, 1) := by decide +kernel
theorem dX2_keyOf_8 : decode cX2_keyOf 8 = .ok (.invokestatic 168, 3) := by decide +kernel
theorem dX2_keyOf_11 : decode cX2_keyOf 11 = .ok (.goto 4, 3) := by decide +kernel
theorem dX2_keyOf_14 : decode cX2_keyOf 14 = .ok (.iload_n 0, 1) := by decide +kernel
theorem dX2_keyOf_15 : decode cX2_keyOf 15 = .ok (.istore_n 1, 1) := by decide +kernel
theorem dX2_keyOf_16 : decode cX2_keyOf 16 = .ok (.iload_n 1, 1) := by decide +kernel
theorem dX2_keyOf_17 : decode cX2_keyOf 17 = .ok (.invokestatic 163, 3) := by decide +kernel
theorem dX2_keyOf_20 : decode cX2_keyOf 20 = .ok (.ifCond .eq 13, 3) := by decide +kernel
theorem dX2_keyOf_23 : decode cX2_keyOf 23 = .ok (.iload_n 1, 1) := by decide +kernel
theorem dX2_keyOf_24 : decode cX2_keyOf 24 = .ok (.bipush 65, 2) := by decide +kernel
theorem dX2_keyOf_26 : decode cX2_keyOf 26 = .ok (.isub, 1) := by decide +kernel
theorem dX2_keyOf_27 : decode cX2_keyOf 27 = .ok (.bipush 97, 2) := by decide +kernel
theorem dX2_keyOf_29 : decode cX2_keyOf 29 = .ok (.iadd, 1) := by decide +kernel
theorem dX2_keyOf_30 : decode cX2_keyOf 30 = .ok (.goto 4, 3) := by decide +kernel
theorem dX2_keyOf_33 : decode cX2_keyOf 33 = .ok (.iload_n 1, 1) := by decide +kernel
theorem dX2_keyOf_34 : decode cX2_keyOf 34 = .ok (.ireturn, 1) := by decide +kernel
theorem dX2_isLatin_0 : decode cX2_isLatin 0 = .ok (.iload_n 0, 1) := by decide +kernel
theorem dX2_isLatin_1 : decode cX2_isLatin 1 = .ok (.sipush 192, 3) := by decide +kernel
theorem dX2_isLatin_4 : decode cX2_isLatin 4 = .ok (.if_icmp .lt 14, 3) := by decide +kernel
theorem dX2_isLatin_7 : decode cX2_isLatin 7 = .ok (.iload_n 0, 1) := by decide +kernel
theorem dX2_isLatin_8 : decode cX2_isLatin 8 = .ok (.sipush 222, 3) := by decide +kernel
theorem dX2_isLatin_11 : decode cX2_isLatin 11 = .ok (.if_icmp .ge 7, 3) := by decide +kernel
theorem dX2_isLatin_14 : decode cX2_isLatin 14 = .ok (.iconst 1, 1) := by decide +kernel
theorem dX2_isLatin_15 : decode cX2_isLatin 15 = .ok (.goto 4, 3) := by decide +kernel
theorem dX2_isLatin_18 : decode cX2_isLatin 18 = .ok (.iconst 0, 1) := by decide +kernel
theorem dX2_isLatin_19 : decode cX2_isLatin 19 = .ok (.ireturn, 1) := by decide +kernel
theorem dX2_isGreek_0 : decode cX2_isGreek 0 = .ok (.iload_n 0, 1) := by decide +kernel
theorem dX2_isGreek_1 : decode cX2_isGreek 1 = .ok (.sipush 913, 3) := by decide +kernel
theorem dX2_isGreek_4 : decode cX2_isGreek 4 = .ok (.if_icmp .lt 14, 3) := by decide +kernel
theorem dX2_isGreek_7 : decode cX2_isGreek 7 = .ok (.iload_n 0, 1) := by decide +kernel
theorem dX2_isGreek_8 : decode cX2_isGreek 8 = .ok (.sipush 970, 3) := by decide +kernel
theorem dX2_isGreek_11 : decode cX2_isGreek 11 = .ok (.if_icmp .ge 7, 3) := by decide +kernel
theorem dX2_isGreek_14 : decode cX2_isGreek 14 = .ok (.iconst 1, 1) := by decide +kernel
theorem dX2_isGreek_15 : decode cX2_isGreek 15 = .ok (.goto 4, 3) := by decide +kernel
theorem dX2_isGreek_18 : decode cX2_isGreek 18 = .ok (.iconst 0, 1) := by decide +kernel
theorem dX2_isGreek_19 : decode cX2_isGreek 19 = .ok (.ireturn, 1) := by decide +kernel
theorem dX2_isCyrillic_0 : decode cX2_isCyrillic 0 = .ok (.iload_n 0, 1) := by decide +kernel
theorem dX2_isCyrillic_1 : decode cX2_isCyrillic 1 = .ok (.sipush 1040, 3) := by decide +kernel
theorem dX2_isCyrillic_4 : decode cX2_isCyrillic 4 = .ok (.if_icmp .lt 14, 3) := by decide +kernel
theorem dX2_isCyrillic_7 : decode cX2_isCyrillic 7 = .ok (.iload_n 0, 1) := by decide +kernel
theorem dX2_isCyrillic_8 : decode cX2_isCyrillic 8 = .ok (.sipush 1104, 3) := by decide +kernel
theorem dX2_isCyrillic_11 : decode cX2_isCyrillic 11 = .ok (.if_icmp .ge 7, 3) := by decide +kernel
theorem dX2_isCyrillic_14 : decode cX2_isCyrillic 14 = .ok (.iconst 1, 1) := by decide +kernel
theorem dX2_isCyrillic_15 : decode cX2_isCyrillic 15 = .ok (.goto 4, 3) := by decide +kernel
theorem dX2_isCyrillic_18 : decode cX2_isCyrillic 18 = .ok (.iconst 0, 1) := by decide +kernel
theorem dX2_isCyrillic_19 : decode cX2_isCyrillic 19 = .ok (.ireturn, 1) := by decide +kernel
set_option maxRecDepth 20000 in
theorem ggX2_setOf_X2_isLatin : GoodIn wsX2_setOf wsX2_isLatin := goodIn_r _ [4] (by decide +kernel) (by decide +kernel)
set_option maxRecDepth 20000 in
theorem gX2_setOf_X2_isLatin : GoodIn wsX2_setOf (va_wsS RX2 174 yX2_isLatin wsX2_isLatin) := goodIn_app (goodIn_of _ (by decide +kernel)) ggX2_setOf_X2_isLatin
set_option maxRecDepth 20000 in
theorem ggX2_setOf_X2_isMark : GoodIn wsX2_setOf wsX2_isMark := goodIn_r _ [7] (by decide +kernel) (by decide +kernel)
set_option maxRecDepth 20000 in
theorem gX2_setOf_X2_isMark : GoodIn wsX2_setOf (va_wsS RX2 134 yX2_isMark wsX2_isMark) := goodIn_app (goodIn_of _ (by decide +kernel)) ggX2_setOf_X2_isMark
set_option maxRecDepth 20000 in
theorem ggX2_setOf_X2_isGreek : GoodIn wsX2_setOf wsX2_isGreek := goodIn_r _ [10] (by decide +kernel) (by decide +kernel)
set_option maxRecDepth 20000 in
theorem gX2_setOf_X2_isGreek : GoodIn wsX2_setOf (va_wsS RX2 177 yX2_isGreek wsX2_isGreek) := goodIn_app (goodIn_of _ (by decide +kernel)) ggX2_setOf_X2_isGreek
set_option maxRecDepth 20000 in
theorem ggX2_setOf_X2_isCyrillic : GoodIn wsX2_setOf wsX2_isCyrillic := goodIn_r _ [13] (by decide +kernel) (by decide +kernel)
set_option maxRecDepth 20000 in
theorem gX2_setOf_X2_isCyrillic : GoodIn wsX2_setOf (va_wsS RX2 180 yX2_isCyrillic wsX2_isCyrillic) := goodIn_app (goodIn_of _ (by decide +kernel)) ggX2_setOf_X2_isCyrillic
theorem dX2_setOf_0 : decode cX2_setOf 0 = .ok (.iload_n 0, 1) := by decide +kernel
theorem dX2_setOf_1 : decode cX2_setOf 1 = .ok (.invokestatic 174, 3) := by decide +kernel
theorem dX2_setOf_4 : decode cX2_setOf 4 = .ok (.ifCond .ne 10, 3) := by decide +kernel
theorem dX2_setOf_7 : decode cX2_setOf 7 = .ok (.iload_n 0, 1) := by decide +kernel
theorem dX2_setOf_8 : decode cX2_setOf 8 = .ok (.invokestatic 134, 3) := by decide +kernel
theorem dX2_setOf_11 : decode cX2_setOf 11 = .ok (.ifCond .eq 5, 3) := by decide +kernel
theorem dX2_setOf_14 : decode cX2_setOf 14 = .ok (.iconst 0, 1) := by decide +kernel
theorem dX2_setOf_15 : decode cX2_setOf 15 = .ok (.ireturn, 1) := by decide +kernel
theorem dX2_setOf_16 : decode cX2_setOf 16 = .ok (.iload_n 0, 1) := by decide +kernel
theorem dX2_setOf_17 : decode cX2_setOf 17 = .ok (.invokestatic 177, 3) := by decide +kernel
theorem dX2_setOf_20 : decode cX2_setOf 20 = .ok (.ifCond .eq 5, 3) := by decide +kernel
theorem dX2_setOf_23 : decode cX2_setOf 23 = .ok (.iconst 1, 1) := by decide +kernel
theorem dX2_setOf_24 : decode cX2_setOf 24 = .ok (.ireturn, 1) := by decide +kernel
theorem dX2_setOf_25 : decode cX2_setOf 25 = .ok (.iload_n 0, 1) := by decide +kernel
theorem dX2_setOf_26 : decode cX2_setOf 26 = .ok (.invokestatic 180, 3) := by decide +kernel
theorem dX2_setOf_29 : decode cX2_setOf 29 = .ok (.ifCond .eq 7, 3) := by decide +kernel
theorem dX2_setOf_32 : decode cX2_setOf 32 = .ok (.iconst 2, 1) := by decide +kernel
theorem dX2_setOf_33 : decode cX2_setOf 33 = .ok (.goto 4, 3) := by decide +kernel
theorem dX2_setOf_36 : decode cX2_setOf 36 = .ok (.iconst (-1), 1) := by decide +kernel
theorem dX2_setOf_37 : decode cX2_setOf 37 = .ok (.ireturn, 1) := by decide +kernel
set_option maxRecDepth 20000 in
theorem ggX2_placeInSet_X2_isMark : GoodIn wsX2_placeInSet wsX2_isMark := goodIn_r _ [4] (by decide +kernel) (by decide +kernel)
set_option maxRecDepth 20000 in
theorem gX2_placeInSet_X2_isMark : GoodIn wsX2_placeInSet (va_wsS RX2 134 yX2_isMark wsX2_isMark) := goodIn_app (goodIn_of _ (by decide +kernel)) ggX2_placeInSet_X2_isMark
set_option maxRecDepth 20000 in
theorem ggX2_placeInSet_X2_isGreek : GoodIn wsX2_placeInSet wsX2_isGreek := goodIn_r _ [7] (by decide +kernel) (by decide +kernel)
set_option maxRecDepth 20000 in
theorem gX2_placeInSet_X2_isGreek : GoodIn wsX2_placeInSet (va_wsS RX2 177 yX2_isGreek wsX2_isGreek) := goodIn_app (goodIn_of _ (by decide +kernel)) ggX2_placeInSet_X2_isGreek
set_option maxRecDepth 20000 in
theorem ggX2_placeInSet_X2_isCyrillic : GoodIn wsX2_placeInSet wsX2_isCyrillic := goodIn_r _ [10] (by decide +kernel) (by decide +kernel)
set_option maxRecDepth 20000 in
theorem gX2_placeInSet_X2_isCyrillic : GoodIn wsX2_placeInSet (va_wsS RX2 180 yX2_isCyrillic wsX2_isCyrillic) := goodIn_app (goodIn_of _ (by decide +kernel)) ggX2_placeInSet_X2_isCyrillic
theorem dX2_placeInSet_0 : decode cX2_placeInSet 0 = .ok (.iload_n 0, 1) := by decide +kernel
theorem dX2_placeInSet_1 : decode cX2_placeInSet 1 = .ok (.invokestatic 134, 3) := by decide +kernel
theorem dX2_placeInSet_4 : decode cX2_placeInSet 4 = .ok (.ifCond .eq 12, 3) := by decide +kernel
theorem dX2_placeInSet_7 : decode cX2_placeInSet 7 = .ok (.iload_n 0, 1) := by decide +kernel
theorem dX2_placeInSet_8 : decode cX2_placeInSet 8 = .ok (.sipush 768, 3) := by decide +kernel
theorem dX2_placeInSet_11 : decode cX2_placeInSet 11 = .ok (.isub, 1) := by decide +kernel
theorem dX2_placeInSet_12 : decode cX2_placeInSet 12 = .ok (.bipush 40, 2) := by decide +kernel
theorem dX2_placeInSet_14 : decode cX2_placeInSet 14 = .ok (.iadd, 1) := by decide +kernel
theorem dX2_placeInSet_15 : decode cX2_placeInSet 15 = .ok (.ireturn, 1) := by decide +kernel
theorem dX2_placeInSet_16 : decode cX2_placeInSet 16 = .ok (.iload_n 0, 1) := by decide +kernel
theorem dX2_placeInSet_17 : decode cX2_placeInSet 17 = .ok (.invokestatic 177, 3) := by decide +kernel
theorem dX2_placeInSet_20 : decode cX2_placeInSet 20 = .ok (.ifCond .eq 9, 3) := by decide +kernel
theorem dX2_placeInSet_23 : decode cX2_placeInSet 23 = .ok (.iload_n 0, 1) := by decide +kernel
theorem dX2_placeInSet_24 : decode cX2_placeInSet 24 = .ok (.sipush 913, 3) := by decide +kernel
theorem dX2_placeInSet_27 : decode cX2_placeInSet 27 = .ok (.isub, 1) := by decide +kernel
theorem dX2_placeInSet_28 : decode cX2_placeInSet 28 = .ok (.ireturn, 1) := by decide +kernel
theorem dX2_placeInSet_29 : decode cX2_placeInSet 29 = .ok (.iload_n 0, 1) := by decide +kernel
theorem dX2_placeInSet_30 : decode cX2_placeInSet 30 = .ok (.invokestatic 180, 3) := by decide +kernel
theorem dX2_placeInSet_33 : decode cX2_placeInSet 33 = .ok (.ifCond .eq 11, 3) := by decide +kernel
theorem dX2_placeInSet_36 : decode cX2_placeInSet 36 = .ok (.iload_n 0, 1) := by decide +kernel
theorem dX2_placeInSet_37 : decode cX2_placeInSet 37 = .ok (.sipush 1040, 3) := by decide +kernel
theorem dX2_placeInSet_40 : decode cX2_placeInSet 40 = .ok (.isub, 1) := by decide +kernel
theorem dX2_placeInSet_41 : decode cX2_placeInSet 41 = .ok (.goto 8, 3) := by decide +kernel
theorem dX2_placeInSet_44 : decode cX2_placeInSet 44 = .ok (.iload_n 0, 1) := by decide +kernel
theorem dX2_placeInSet_45 : decode cX2_placeInSet 45 = .ok (.sipush 192, 3) := by decide +kernel
theorem dX2_placeInSet_48 : decode cX2_placeInSet 48 = .ok (.isub, 1) := by decide +kernel
theorem dX2_placeInSet_49 : decode cX2_placeInSet 49 = .ok (.ireturn, 1) := by decide +kernel
set_option maxRecDepth 20000 in
theorem ggX2_codeInSet_X2_isMark : GoodIn wsX2_codeInSet wsX2_isMark := goodIn_r _ [4] (by decide +kernel) (by decide +kernel)
set_option maxRecDepth 20000 in
theorem gX2_codeInSet_X2_isMark : GoodIn wsX2_codeInSet (va_wsS RX2 134 yX2_isMark wsX2_isMark) := goodIn_app (goodIn_of _ (by decide +kernel)) ggX2_codeInSet_X2_isMark
set_option maxRecDepth 20000 in
theorem ggX2_codeInSet_X2_codeInRange : GoodIn wsX2_codeInSet wsX2_codeInRange := goodIn_r _ [7] (by decide +kernel) (by decide +kernel)
set_option maxRecDepth 20000 in
theorem gX2_codeInSet_X2_codeInRange : GoodIn wsX2_codeInSet (va_wsS RX2 183 yX2_codeInRange wsX2_codeInRange) := goodIn_app (goodIn_of _ (by decide +kernel)) ggX2_codeInSet_X2_codeInRange
theorem dX2_codeInSet_0 : decode cX2_codeInSet 0 = .ok (.iload_n 0, 1) := by decide +kernel
theorem dX2_codeInSet_1 : decode cX2_codeInSet 1 = .ok (.ifCond .ne 33, 3) := by decide +kernel
theorem dX2_codeInSet_4 : decode cX2_codeInSet 4 = .ok (.iload_n 1, 1) := by decide +kernel
theorem dX2_codeInSet_5 : decode cX2_codeInSet 5 = .ok (.bipush 40, 2) := by decide +kernel
theorem dX2_codeInSet_7 : decode cX2_codeInSet 7 = .ok (.isub, 1) := by decide +kernel
theorem dX2_codeInSet_8 : decode cX2_codeInSet 8 = .ok (.sipush 768, 3) := by decide +kernel
theorem dX2_codeInSet_11 : decode cX2_codeInSet 11 = .ok (.iadd, 1) := by decide +kernel
theorem dX2_codeInSet_12 : decode cX2_codeInSet 12 = .ok (.istore_n 2, 1) := by decide +kernel
theorem dX2_codeInSet_13 : decode cX2_codeInSet 13 = .ok (.iload_n 2, 1) := by decide +kernel
theorem dX2_codeInSet_14 : decode cX2_codeInSet 14 = .ok (.invokestatic 134, 3) := by decide +kernel
theorem dX2_codeInSet_17 : decode cX2_codeInSet 17 = .ok (.ifCond .eq 7, 3) := by decide +kernel
theorem dX2_codeInSet_20 : decode cX2_codeInSet 20 = .ok (.iload_n 2, 1) := by decide +kernel
theorem dX2_codeInSet_21 : decode cX2_codeInSet 21 = .ok (.goto 12, 3) := by decide +kernel
theorem dX2_codeInSet_24 : decode cX2_codeInSet 24 = .ok (.iload_n 1, 1) := by decide +kernel
theorem dX2_codeInSet_25 : decode cX2_codeInSet 25 = .ok (.sipush 192, 3) := by decide +kernel
theorem dX2_codeInSet_28 : decode cX2_codeInSet 28 = .ok (.bipush 30, 2) := by decide +kernel
theorem dX2_codeInSet_30 : decode cX2_codeInSet 30 = .ok (.invokestatic 183, 3) := by decide +kernel
theorem dX2_codeInSet_33 : decode cX2_codeInSet 33 = .ok (.ireturn, 1) := by decide +kernel
theorem dX2_codeInSet_34 : decode cX2_codeInSet 34 = .ok (.iload_n 0, 1) := by decide +kernel
theorem dX2_codeInSet_35 : decode cX2_codeInSet 35 = .ok (.iconst 1, 1) := by decide +kernel
theorem dX2_codeInSet_36 : decode cX2_codeInSet 36 = .ok (.if_icmp .ne 13, 3) := by decide +kernel
theorem dX2_codeInSet_39 : decode cX2_codeInSet 39 = .ok (.iload_n 1, 1) := by decide +kernel
theorem dX2_codeInSet_40 : decode cX2_codeInSet 40 = .ok (.sipush 913, 3) := by decide +kernel
theorem dX2_codeInSet_43 : decode cX2_codeInSet 43 = .ok (.bipush 57, 2) := by decide +kernel
theorem dX2_codeInSet_45 : decode cX2_codeInSet 45 = .ok (.invokestatic 183, 3) := by decide +kernel
theorem dX2_codeInSet_48 : decode cX2_codeInSet 48 = .ok (.ireturn, 1) := by decide +kernel
theorem dX2_codeInSet_49 : decode cX2_codeInSet 49 = .ok (.iload_n 0, 1) := by decide +kernel
theorem dX2_codeInSet_50 : decode cX2_codeInSet 50 = .ok (.iconst 2, 1) := by decide +kernel
theorem dX2_codeInSet_51 : decode cX2_codeInSet 51 = .ok (.if_icmp .ne 15, 3) := by decide +kernel
theorem dX2_codeInSet_54 : decode cX2_codeInSet 54 = .ok (.iload_n 1, 1) := by decide +kernel
theorem dX2_codeInSet_55 : decode cX2_codeInSet 55 = .ok (.sipush 1040, 3) := by decide +kernel
theorem dX2_codeInSet_58 : decode cX2_codeInSet 58 = .ok (.bipush 64, 2) := by decide +kernel
theorem dX2_codeInSet_60 : decode cX2_codeInSet 60 = .ok (.invokestatic 183, 3) := by decide +kernel
theorem dX2_codeInSet_63 : decode cX2_codeInSet 63 = .ok (.goto 4, 3) := by decide +kernel
theorem dX2_codeInSet_66 : decode cX2_codeInSet 66 = .ok (.iconst 0, 1) := by decide +kernel
theorem dX2_codeInSet_67 : decode cX2_codeInSet 67 = .ok (.ireturn, 1) := by decide +kernel
theorem dX2_codeInRange_0 : decode cX2_codeInRange 0 = .ok (.iload_n 0, 1) := by decide +kernel
theorem dX2_codeInRange_1 : decode cX2_codeInRange 1 = .ok (.ifCond .lt 14, 3) := by decide +kernel
theorem dX2_codeInRange_4 : decode cX2_codeInRange 4 = .ok (.iload_n 0, 1) := by decide +kernel
theorem dX2_codeInRange_5 : decode cX2_codeInRange 5 = .ok (.iload_n 2, 1) := by decide +kernel
theorem dX2_codeInRange_6 : decode cX2_codeInRange 6 = .ok (.if_icmp .ge 9, 3) := by decide +kernel
theorem dX2_codeInRange_9 : decode cX2_codeInRange 9 = .ok (.iload_n 1, 1) := by decide +kernel
theorem dX2_codeInRange_10 : decode cX2_codeInRange 10 = .ok (.iload_n 0, 1) := by decide +kernel
theorem dX2_codeInRange_11 : decode cX2_codeInRange 11 = .ok (.iadd, 1) := by decide +kernel
theorem dX2_codeInRange_12 : decode cX2_codeInRange 12 = .ok (.goto 4, 3) := by decide +kernel
theorem dX2_codeInRange_15 : decode cX2_codeInRange 15 = .ok (.iconst 0, 1) := by decide +kernel
theorem dX2_codeInRange_16 : decode cX2_codeInRange 16 = .ok (.ireturn, 1) := by decide +kernel
end
section
theorem dX3_init_0 : decode cX3_init 0 = .ok (.aload_n 0, 1) := by decide +kernel
theorem dX3_init_1 : decode cX3_init 1 = .ok (.invokespecial 1, 3) := by decide +kernel
theorem dX3_init_4 : decode cX3_init 4 = .ok (.aload_n 0, 1) := by decide +kernel
theorem dX3_init_5 : decode cX3_init 5 = .ok (.sipush 200, 3) := by decide +kernel
theorem dX3_init_8 : decode cX3_init 8 = .ok (.newarray .int, 2) := by decide +kernel
theorem dX3_init_10 : decode cX3_init 10 = .ok (.putfield 7, 3) := by decide +kernel
theorem dX3_init_13 : decode cX3_init 13 = .ok (.aload_n 0, 1) := by decide +kernel
theorem dX3_init_14 : decode cX3_init 14 = .ok (.bipush 100, 2) := by decide +kernel
theorem dX3_init_16 : decode cX3_init 16 = .ok (.newarray .int, 2) := by decide +kernel
theorem dX3_init_18 : decode cX3_init 18 = .ok (.putfield 13, 3) := by decide +kernel
theorem dX3_init_21 : decode cX3_init 21 = .ok (.aload_n 0, 1) := by decide +kernel
theorem dX3_init_22 : decode cX3_init 22 = .ok (.bipush 100, 2) := by decide +kernel
theorem dX3_init_24 : decode cX3_init 24 = .ok (.newarray .int, 2) := by decide +kernel
theorem dX3_init_26 : decode cX3_init 26 = .ok (.putfield 16, 3) := by decide +kernel
theorem dX3_init_29 : decode cX3_init 29 = .ok (.aload_n 0, 1) := by decide +kernel
theorem dX3_init_30 : decode cX3_init 30 = .ok (.sipush 400, 3) := by decide +kernel
theorem dX3_init_33 : decode cX3_init 33 = .ok (.newarray .int, 2) := by decide +kernel
theorem dX3_init_35 : decode cX3_init 35 = .ok (.putfield 19, 3) := by decide +kernel
theorem dX3_init_38 : decode cX3_init 38 = .ok (.aload_n 0, 1) := by decide +kernel
theorem dX3_init_39 : decode cX3_init 39 = .ok (.sipush 400, 3) := by decide +kernel
theorem dX3_init_42 : decode cX3_init 42 = .ok (.newarray .int, 2) := by decide +kernel
theorem dX3_init_44 : decode cX3_init 44 = .ok (.putfield 22, 3) := by decide +kernel
theorem dX3_init_47 : decode cX3_init 47 = .ok (.aload_n 0, 1) := by decide +kernel
theorem dX3_init_48 : decode cX3_init 48 = .ok (.sipush 1200, 3) := by decide +kernel
theorem dX3_init_51 : decode cX3_init 51 = .ok (.newarray .byte, 2) := by decide +kernel
theorem dX3_init_53 : decode cX3_init 53 = .ok (.putfield 25, 3) := by decide +kernel
theorem dX3_init_56 : decode cX3_init 56 = .ok (.aload_n 0, 1) := by decide +kernel
theorem dX3_init_57 : decode cX3_init 57 = .ok (.sipush 200, 3) := by decide +kernel
theorem dX3_init_60 : decode cX3_init 60 = .ok (.newarray .int, 2) := by decide +kernel
theorem dX3_init_62 : decode cX3_init 62 = .ok (.putfield 29, 3) := by decide +kernel
theorem dX3_init_65 : decode cX3_init 65 = .ok (.aload_n 0, 1) := by decide +kernel
theorem dX3_init_66 : decode cX3_init 66 = .ok (.bipush 63, 2) := by decide +kernel
theorem dX3_init_68 : decode cX3_init 68 = .ok (.putfield 32, 3) := by decide +kernel
theorem dX3_init_71 : decode cX3_init 71 = .ok (.return_, 1) := by decide +kernel
theorem dX3_thrown_0 : decode cX3_thrown 0 = .ok (.aload_n 0, 1) := by decide +kernel
theorem dX3_thrown_1 : decode cX3_thrown 1 = .ok (.getfield 36, 3) := by decide +kernel
theorem dX3_thrown_4 : decode cX3_thrown 4 = .ok (.ireturn, 1) := by decide +kernel
theorem dX3_octet_0 : decode cX3_octet 0 = .ok (.aload_n 0, 1) := by decide +kernel
theorem dX3_octet_1 : decode cX3_octet 1 = .ok (.iconst 0, 1) := by decide +kernel
theorem dX3_octet_2 : decode cX3_octet 2 = .ok (.putfield 36, 3) := by decide +kernel
theorem dX3_octet_5 : decode cX3_octet 5 = .ok (.aload_n 0, 1) := by decide +kernel
theorem dX3_octet_6 : decode cX3_octet 6 = .ok (.getfield 39, 3) := by decide +kernel
theorem dX3_octet_9 : decode cX3_octet 9 = .ok (.sipush 200, 3) := by decide +kernel
theorem dX3_octet_12 : decode cX3_octet 12 = .ok (.if_icmp .ge 27, 3) := by decide +kernel
theorem dX3_octet_15 : decode cX3_octet 15 = .ok (.aload_n 0, 1) := by decide +kernel
theorem dX3_octet_16 : decode cX3_octet 16 = .ok (.getfield 7, 3) := by decide +kernel
theorem dX3_octet_19 : decode cX3_octet 19 = .ok (.aload_n 0, 1) := by decide +kernel
theorem dX3_octet_20 : decode cX3_octet 20 = .ok (.getfield 39, 3) := by decide +kernel
theorem dX3_octet_23 : decode cX3_octet 23 = .ok (.iload_n 1, 1) := by decide +kernel
theorem dX3_octet_24 : decode cX3_octet 24 = .ok (.sipush 255, 3) := by decide +kernel
theorem dX3_octet_27 : decode cX3_octet 27 = .ok (.iand, 1) := by decide +kernel
theorem dX3_octet_28 : decode cX3_octet 28 = .ok (.iastore, 1) := by decide +kernel
theorem dX3_octet_29 : decode cX3_octet 29 = .ok (.aload_n 0, 1) := by decide +kernel
theorem dX3_octet_30 : decode cX3_octet 30 = .ok (.dup, 1) := by decide +kernel
theorem dX3_octet_31 : decode cX3_octet 31 = .ok (.getfield 39, 3) := by decide +kernel
theorem dX3_octet_34 : decode cX3_octet 34 = .ok (.iconst 1, 1) := by decide +kernel
theorem dX3_octet_35 : decode cX3_octet 35 = .ok (.iadd, 1) := by decide +kernel
theorem dX3_octet_36 : decode cX3_octet 36 = .ok (.putfield 39, 3) := by decide +kernel
theorem dX3_octet_39 : decode cX3_octet 39 = .ok (.return_, 1) := by decide +kernel
theorem dX3_placed_0 : decode cX3_placed 0 = .ok (.iload_n 0, 1) := by decide +kernel
theorem dX3_placed_1 : decode cX3_placed 1 = .ok (.ifCond .ne 39, 3) := by decide +kernel
theorem dX3_placed_4 : decode cX3_placed 4 = .ok (.iload_n 1, 1) := by decide +kernel
theorem dX3_placed_5 : decode cX3_placed 5 = .ok (.bipush 30, 2) := by decide +kernel
theorem dX3_placed_7 : decode cX3_placed 7 = .ok (.if_icmp .ge 11, 3) := by decide +kernel
theorem dX3_placed_10 : decode cX3_placed 10 = .ok (.sipush 192, 3) := by decide +kernel
theorem dX3_placed_13 : decode cX3_placed 13 = .ok (.iload_n 1, 1) := by decide +kernel
theorem dX3_placed_14 : decode cX3_placed 14 = .ok (.iadd, 1) := by decide +kernel
theorem dX3_placed_15 : decode cX3_placed 15 = .ok (.goto 24, 3) := by decide +kernel
theorem dX3_placed_18 : decode cX3_placed 18 = .ok (.iload_n 1, 1) := by decide +kernel
theorem dX3_placed_19 : decode cX3_placed 19 = .ok (.bipush 40, 2) := by decide +kernel
theorem dX3_placed_21 : decode cX3_placed 21 = .ok (.if_icmp .lt 17, 3) := by decide +kernel
theorem dX3_placed_24 : decode cX3_placed 24 = .ok (.iload_n 1, 1) := by decide +kernel
theorem dX3_placed_25 : decode cX3_placed 25 = .ok (.bipush 55, 2) := by decide +kernel
theorem dX3_placed_27 : decode cX3_placed 27 = .ok (.if_icmp .ge 11, 3) := by decide +kernel
theorem dX3_placed_30 : decode cX3_placed 30 = .ok (.sipush 728, 3) := by decide +kernel
theorem dX3_placed_33 : decode cX3_placed 33 = .ok (.iload_n 1, 1) := by decide +kernel
theorem dX3_placed_34 : decode cX3_placed 34 = .ok (.iadd, 1) := by decide +kernel
theorem dX3_placed_35 : decode cX3_placed 35 = .ok (.goto 4, 3) := by decide +kernel
theorem dX3_placed_38 : decode cX3_placed 38 = .ok (.iconst 0, 1) := by decide +kernel
theorem dX3_placed_39 : decode cX3_placed 39 = .ok (.ireturn, 1) := by decide +kernel
theorem dX3_placed_40 : decode cX3_placed 40 = .ok (.iload_n 0, 1) := by decide +kernel
theorem dX3_placed_41 : decode cX3_placed 41 = .ok (.iconst 1, 1) := by decide +kernel
theorem dX3_placed_42 : decode cX3_placed 42 = .ok (.if_icmp .ne 21, 3) := by decide +kernel
theorem dX3_placed_45 : decode cX3_placed 45 = .ok (.iload_n 1, 1) := by decide +kernel
theorem dX3_placed_46 : decode cX3_placed 46 = .ok (.bipush 57, 2) := by decide +kernel
theorem dX3_placed_48 : decode cX3_placed 48 = .ok (.if_icmp .ge 11, 3) := by decide +kernel
theorem dX3_placed_51 : decode cX3_placed 51 = .ok (.sipush 913, 3) := by decide +kernel
theorem dX3_placed_54 : decode cX3_placed 54 = .ok (.iload_n 1, 1) := by decide +kernel
theorem dX3_placed_55 : decode cX3_placed 55 = .ok (.iadd, 1) := by decide +kernel
theorem dX3_placed_56 : decode cX3_placed 56 = .ok (.goto 22, 3) := by decide +kernel
theorem dX3_placed_59 : decode cX3_placed 59 = .ok (.iconst 0, 1) := by decide +kernel
theorem dX3_placed_60 : decode cX3_placed 60 = .ok (.goto 18, 3) := by decide +kernel
theorem dX3_placed_63 : decode cX3_placed 63 = .ok (.iload_n 1, 1) := by decide +kernel
theorem dX3_placed_64 : decode cX3_placed 64 = .ok (.bipush 64, 2) := by decide +kernel
theorem dX3_placed_66 : decode cX3_placed 66 = .ok (.if_icmp .ge 11, 3) := by decide +kernel
theorem dX3_placed_69 : decode cX3_placed 69 = .ok (.sipush 1040, 3) := by decide +kernel
theorem dX3_placed_72 : decode cX3_placed 72 = .ok (.iload_n 1, 1) := by decide +kernel
theorem dX3_placed_73 : decode cX3_placed 73 = .ok (.iadd, 1) := by decide +kernel
theorem dX3_placed_74 : decode cX3_placed 74 = .ok (.goto 4, 3) := by decide +kernel
theorem dX3_placed_77 : decode cX3_placed 77 = .ok (.iconst 0, 1) := by decide +kernel
theorem dX3_placed_78 : decode cX3_placed 78 = .ok (.ireturn, 1) := by decide +kernel
set_option maxRecDepth 20000 in
theorem ggX3_find_X3_placed : GoodIn wsX3_find wsX3_placed := goodIn_r _ [4] (by decide +kernel) (by decide +kernel)
set_option maxRecDepth 20000 in
theorem gX3_find_X3_placed : GoodIn wsX3_find (va_wsS RX3 42 yX3_placed wsX3_placed) := goodIn_app (goodIn_of _ (by decide +kernel)) ggX3_find_X3_placed
theorem dX3_find_0 : decode cX3_find 0 = .ok (.iconst 0, 1) := by decide +kernel
theorem dX3_find_1 : decode cX3_find 1 = .ok (.istore_n 1, 1) := by decide +kernel
theorem dX3_find_2 : decode cX3_find 2 = .ok (.iload_n 1, 1) := by decide +kernel
theorem dX3_find_3 : decode cX3_find 3 = .ok (.iconst 3, 1) := by decide +kernel
theorem dX3_find_4 : decode cX3_find 4 = .ok (.if_icmp .ge 43, 3) := by decide +kernel
theorem dX3_find_7 : decode cX3_find 7 = .ok (.iconst 0, 1) := by decide +kernel
theorem dX3_find_8 : decode cX3_find 8 = .ok (.istore_n 2, 1) := by decide +kernel
theorem dX3_find_9 : decode cX3_find 9 = .ok (.iload_n 2, 1) := by decide +kernel
theorem dX3_find_10 : decode cX3_find 10 = .ok (.bipush 94, 2) := by decide +kernel
theorem dX3_find_12 : decode cX3_find 12 = .ok (.if_icmp .ge 29, 3) := by decide +kernel
theorem dX3_find_15 : decode cX3_find 15 = .ok (.iload_n 0, 1) := by decide +kernel
theorem dX3_find_16 : decode cX3_find 16 = .ok (.ifCond .eq 19, 3) := by decide +kernel
theorem dX3_find_19 : decode cX3_find 19 = .ok (.iload_n 1, 1) := by decide +kernel
theorem dX3_find_20 : decode cX3_find 20 = .ok (.iload_n 2, 1) := by decide +kernel
theorem dX3_find_21 : decode cX3_find 21 = .ok (.invokestatic 42, 3) := by decide +kernel
theorem dX3_find_24 : decode cX3_find 24 = .ok (.iload_n 0, 1) := by decide +kernel
theorem dX3_find_25 : decode cX3_find 25 = .ok (.if_icmp .ne 10, 3) := by decide +kernel
theorem dX3_find_28 : decode cX3_find 28 = .ok (.bipush 100, 2) := by decide +kernel
theorem dX3_find_30 : decode cX3_find 30 = .ok (.iload_n 1, 1) := by decide +kernel
theorem dX3_find_31 : decode cX3_find 31 = .ok (.imul, 1) := by decide +kernel
theorem dX3_find_32 : decode cX3_find 32 = .ok (.iload_n 2, 1) := by decide +kernel
theorem dX3_find_33 : decode cX3_find 33 = .ok (.iadd, 1) := by decide +kernel
theorem dX3_find_34 : decode cX3_find 34 = .ok (.ireturn, 1) := by decide +kernel
theorem dX3_find_35 : decode cX3_find 35 = .ok (.iinc 2 1, 3) := by decide +kernel
theorem dX3_find_38 : decode cX3_find 38 = .ok (.goto (-29), 3) := by decide +kernel
theorem dX3_find_41 : decode cX3_find 41 = .ok (.iinc 1 1, 3) := by decide +kernel
theorem dX3_find_44 : decode cX3_find 44 = .ok (.goto (-42), 3) := by decide +kernel
theorem dX3_find_47 : decode cX3_find 47 = .ok (.iconst (-1), 1) := by decide +kernel
theorem dX3_find_48 : decode cX3_find 48 = .ok (.ireturn, 1) := by decide +kernel
theorem dX3_isMark_0 : decode cX3_isMark 0 = .ok (.iload_n 0, 1) := by decide +kernel
theorem dX3_isMark_1 : decode cX3_isMark 1 = .ok (.sipush 768, 3) := by decide +kernel
theorem dX3_isMark_4 : decode cX3_isMark 4 = .ok (.if_icmp .lt 14, 3) := by decide +kernel
theorem dX3_isMark_7 : decode cX3_isMark 7 = .ok (.iload_n 0, 1) := by decide +kernel
theorem dX3_isMark_8 : decode cX3_isMark 8 = .ok (.sipush 782, 3) := by decide +kernel
theorem dX3_isMark_11 : decode cX3_isMark 11 = .ok (.if_icmp .gt 7, 3) := by decide +kernel
theorem dX3_isMark_14 : decode cX3_isMark 14 = .ok (.iconst 1, 1) := by decide +kernel
theorem dX3_isMark_15 : decode cX3_isMark 15 = .ok (.goto 4, 3) := by decide +kernel
theorem dX3_isMark_18 : decode cX3_isMark 18 = .ok (.iconst 0, 1) := by decide +kernel
theorem dX3_isMark_19 : decode cX3_isMark 19 = .ok (.ireturn, 1) := by decide +kernel
theorem dX3_isLetter_0 : decode cX3_isLetter 0 = .ok (.iload_n 0, 1) := by decide +kernel
theorem dX3_isLetter_1 : decode cX3_isLetter 1 = .ok (.bipush 65, 2) := by decide +kernel
theorem dX3_isLetter_3 : decode cX3_isLetter 3 = .ok (.if_icmp .lt 9, 3) := by decide +kernel
theorem dX3_isLetter_6 : decode cX3_isLetter 6 = .ok (.iload_n 0, 1) := by decide +kernel
theorem dX3_isLetter_7 : decode cX3_isLetter 7 = .ok (.bipush 90, 2) := by decide +kernel
theorem dX3_isLetter_9 : decode cX3_isLetter 9 = .ok (.if_icmp .le 15, 3) := by decide +kernel
theorem dX3_isLetter_12 : decode cX3_isLetter 12 = .ok (.iload_n 0, 1) := by decide +kernel
theorem dX3_isLetter_13 : decode cX3_isLetter 13 = .ok (.bipush 97, 2) := by decide +kernel
theorem dX3_isLetter_15 : decode cX3_isLetter 15 = .ok (.if_icmp .lt 13, 3) := by decide +kernel
theorem dX3_isLetter_18 : decode cX3_isLetter 18 = .ok (.iload_n 0, 1) := by decide +kernel
theorem dX3_isLetter_19 : decode cX3_isLetter 19 = .ok (.bipush 122, 2) := by decide +kernel
theorem dX3_isLetter_21 : decode cX3_isLetter 21 = .ok (.if_icmp .gt 7, 3) := by decide +kernel
theorem dX3_isLetter_24 : decode cX3_isLetter 24 = .ok (.iconst 1, 1) := by decide +kernel
theorem dX3_isLetter_25 : decode cX3_isLetter 25 = .ok (.goto 4, 3) := by decide +kernel
theorem dX3_isLetter_28 : decode cX3_isLetter 28 = .ok (.iconst 0, 1) := by decide +kernel
theorem dX3_isLetter_29 : decode cX3_isLetter 29 = .ok (.ireturn, 1) := by decide +kernel
theorem dX3_isPlain_0 : decode cX3_isPlain 0 = .ok (.iload_n 0, 1) := by decide +kernel
theorem dX3_isPlain_1 : decode cX3_isPlain 1 = .ok (.bipush 32, 2) := by decide +kernel
theorem dX3_isPlain_3 : decode cX3_isPlain 3 = .ok (.if_icmp .lt 13, 3) := by decide +kernel
theorem dX3_isPlain_6 : decode cX3_isPlain 6 = .ok (.iload_n 0, 1) := by decide +kernel
theorem dX3_isPlain_7 : decode cX3_isPlain 7 = .ok (.bipush 126, 2) := by decide +kernel
theorem dX3_isPlain_9 : decode cX3_isPlain 9 = .ok (.if_icmp .gt 7, 3) := by decide +kernel
theorem dX3_isPlain_12 : decode cX3_isPlain 12 = .ok (.iconst 1, 1) := by decide +kernel
theorem dX3_isPlain_13 : decode cX3_isPlain 13 = .ok (.goto 4, 3) := by decide +kernel
theorem dX3_isPlain_16 : decode cX3_isPlain 16 = .ok (.iconst 0, 1) := by decide +kernel
theorem dX3_isPlain_17 : decode cX3_isPlain 17 = .ok (.ireturn, 1) := by decide +kernel
set_option maxRecDepth 20000 in
theorem ggX3_isComposed_X3_isLetter : GoodIn wsX3_isComposed wsX3_isLetter := goodIn_r _ [6] (by decide +kernel) (by decide +kernel)
set_option maxRecDepth 20000 in
theorem gX3_isComposed_X3_isLetter : GoodIn wsX3_isComposed (va_wsS RX3 48 yX3_isLetter wsX3_isLetter) := goodIn_app (goodIn_of _ (by decide +kernel)) ggX3_isComposed_X3_isLetter
theorem dX3_isComposed_0 : decode cX3_isComposed 0 = .ok (.iload_n 0, 1) := by decide +kernel
theorem dX3_isComposed_1 : decode cX3_isComposed 1 = .ok (.ldc 46, 2) := by decide +kernel
theorem dX3_isComposed_3 : decode cX3_isComposed 3 = .ok (.if_icmp .lt 29, 3) := by decide +kernel
theorem dX3_isComposed_6 : decode cX3_isComposed 6 = .ok (.iload_n 0, 1) := by decide +kernel
theorem dX3_isComposed_7 : decode cX3_isComposed 7 = .ok (.ldc 47, 2) := by decide +kernel
theorem dX3_isComposed_9 : decode cX3_isComposed 9 = .ok (.if_icmp .ge 23, 3) := by decide +kernel
theorem dX3_isComposed_12 : decode cX3_isComposed 12 = .ok (.iload_n 0, 1) := by decide +kernel
theorem dX3_isComposed_13 : decode cX3_isComposed 13 = .ok (.ldc 46, 2) := by decide +kernel
theorem dX3_isComposed_15 : decode cX3_isComposed 15 = .ok (.isub, 1) := by decide +kernel
theorem dX3_isComposed_16 : decode cX3_isComposed 16 = .ok (.bipush 64, 2) := by decide +kernel
theorem dX3_isComposed_18 : decode cX3_isComposed 18 = .ok (.irem, 1) := by decide +kernel
theorem dX3_isComposed_19 : decode cX3_isComposed 19 = .ok (.bipush 64, 2) := by decide +kernel
theorem dX3_isComposed_21 : decode cX3_isComposed 21 = .ok (.iadd, 1) := by decide +kernel
theorem dX3_isComposed_22 : decode cX3_isComposed 22 = .ok (.invokestatic 48, 3) := by decide +kernel
theorem dX3_isComposed_25 : decode cX3_isComposed 25 = .ok (.ifCond .eq 7, 3) := by decide +kernel
theorem dX3_isComposed_28 : decode cX3_isComposed 28 = .ok (.iconst 1, 1) := by decide +kernel
theorem dX3_isComposed_29 : decode cX3_isComposed 29 = .ok (.goto 4, 3) := by decide +kernel
theorem dX3_isComposed_32 : decode cX3_isComposed 32 = .ok (.iconst 0, 1) := by decide +kernel
theorem dX3_isComposed_33 : decode cX3_isComposed 33 = .ok (.ireturn, 1) := by decide +kernel
theorem dX3_letterOf_0 : decode cX3_letterOf 0 = .ok (.iload_n 0, 1) := by decide +kernel
theorem dX3_letterOf_1 : decode cX3_letterOf 1 = .ok (.ldc 46, 2) := by decide +kernel
theorem dX3_letterOf_3 : decode cX3_letterOf 3 = .ok (.isub, 1) := by decide +kernel
theorem dX3_letterOf_4 : decode cX3_letterOf 4 = .ok (.bipush 64, 2) := by decide +kernel
theorem dX3_letterOf_6 : decode cX3_letterOf 6 = .ok (.irem, 1) := by decide +kernel
theorem dX3_letterOf_7 : decode cX3_letterOf 7 = .ok (.bipush 64, 2) := by decide +kernel
theorem dX3_letterOf_9 : decode cX3_letterOf 9 = .ok (.iadd, 1) := by decide +kernel
theorem dX3_letterOf_10 : decode cX3_letterOf 10 = .ok (.ireturn, 1) := by decide +kernel
theorem dX3_markOf_0 : decode cX3_markOf 0 = .ok (.sipush 768, 3) := by decide +kernel
theorem dX3_markOf_3 : decode cX3_markOf 3 = .ok (.iload_n 0, 1) := by decide +kernel
theorem dX3_markOf_4 : decode cX3_markOf 4 = .ok (.ldc 46, 2) := by decide +kernel
theorem dX3_markOf_6 : decode cX3_markOf 6 = .ok (.isub, 1) := by decide +kernel
theorem dX3_markOf_7 : decode cX3_markOf 7 = .ok (.bipush 64, 2) := by decide +kernel
theorem dX3_markOf_9 : decode cX3_markOf 9 = .ok (.idiv, 1) := by decide +kernel
theorem dX3_markOf_10 : decode cX3_markOf 10 = .ok (.iadd, 1) := by decide +kernel
theorem dX3_markOf_11 : decode cX3_markOf 11 = .ok (.ireturn, 1) := by decide +kernel
set_option maxRecDepth 20000 in
theorem ggX3_order_X3_isMark : GoodIn wsX3_order wsX3_isMark := goodIn_r _ [4] (by decide +kernel) (by decide +kernel)
set_option maxRecDepth 20000 in
theorem gX3_order_X3_isMark : GoodIn wsX3_order (va_wsS RX3 52 yX3_isMark wsX3_isMark) := goodIn_app (goodIn_of _ (by decide +kernel)) ggX3_order_X3_isMark
theorem dX3_order_0 : decode cX3_order 0 = .ok (.iconst 1, 1) := by decide +kernel
theorem dX3_order_1 : decode cX3_order 1 = .ok (.istore_n 2, 1) := by decide +kernel
theorem dX3_order_2 : decode cX3_order 2 = .ok (.iload_n 2, 1) := by decide +kernel
theorem dX3_order_3 : decode cX3_order 3 = .ok (.ifCond .eq 88, 3) := by decide +kernel
theorem dX3_order_6 : decode cX3_order 6 = .ok (.iconst 0, 1) := by decide +kernel
theorem dX3_order_7 : decode cX3_order 7 = .ok (.istore_n 2, 1) := by decide +kernel
theorem dX3_order_8 : decode cX3_order 8 = .ok (.iconst 0, 1) := by decide +kernel
theorem dX3_order_9 : decode cX3_order 9 = .ok (.istore_n 3, 1) := by decide +kernel
theorem dX3_order_10 : decode cX3_order 10 = .ok (.iload_n 3, 1) := by decide +kernel
theorem dX3_order_11 : decode cX3_order 11 = .ok (.iconst 1, 1) := by decide +kernel
theorem dX3_order_12 : decode cX3_order 12 = .ok (.iadd, 1) := by decide +kernel
theorem dX3_order_13 : decode cX3_order 13 = .ok (.iload_n 1, 1) := by decide +kernel
theorem dX3_order_14 : decode cX3_order 14 = .ok (.if_icmp .ge 74, 3) := by decide +kernel
theorem dX3_order_17 : decode cX3_order 17 = .ok (.aload_n 0, 1) := by decide +kernel
theorem dX3_order_18 : decode cX3_order 18 = .ok (.iload_n 3, 1) := by decide +kernel
theorem dX3_order_19 : decode cX3_order 19 = .ok (.iaload, 1) := by decide +kernel
theorem dX3_order_20 : decode cX3_order 20 = .ok (.invokestatic 52, 3) := by decide +kernel
theorem dX3_order_23 : decode cX3_order 23 = .ok (.ifCond .eq 59, 3) := by decide +kernel
theorem dX3_order_26 : decode cX3_order 26 = .ok (.aload_n 0, 1) := by decide +kernel
theorem dX3_order_27 : decode cX3_order 27 = .ok (.iload_n 3, 1) := by decide +kernel
theorem dX3_order_28 : decode cX3_order 28 = .ok (.iconst 1, 1) := by decide +kernel
theorem dX3_order_29 : decode cX3_order 29 = .ok (.iadd, 1) := by decide +kernel
theorem dX3_order_30 : decode cX3_order 30 = .ok (.iaload, 1) := by decide +kernel
theorem dX3_order_31 : decode cX3_order 31 = .ok (.invokestatic 52, 3) := by decide +kernel
theorem dX3_order_34 : decode cX3_order 34 = .ok (.ifCond .eq 48, 3) := by decide +kernel
theorem dX3_order_37 : decode cX3_order 37 = .ok (.aload_n 0, 1) := by decide +kernel
theorem dX3_order_38 : decode cX3_order 38 = .ok (.iload_n 3, 1) := by decide +kernel
theorem dX3_order_39 : decode cX3_order 39 = .ok (.iaload, 1) := by decide +kernel
theorem dX3_order_40 : decode cX3_order 40 = .ok (.sipush 768, 3) := by decide +kernel
theorem dX3_order_43 : decode cX3_order 43 = .ok (.isub, 1) := by decide +kernel
theorem dX3_order_44 : decode cX3_order 44 = .ok (.iconst 5, 1) := by decide +kernel
theorem dX3_order_45 : decode cX3_order 45 = .ok (.idiv, 1) := by decide +kernel
theorem dX3_order_46 : decode cX3_order 46 = .ok (.aload_n 0, 1) := by decide +kernel
theorem dX3_order_47 : decode cX3_order 47 = .ok (.iload_n 3, 1) := by decide +kernel
theorem dX3_order_48 : decode cX3_order 48 = .ok (.iconst 1, 1) := by decide +kernel
theorem dX3_order_49 : decode cX3_order 49 = .ok (.iadd, 1) := by decide +kernel
theorem dX3_order_50 : decode cX3_order 50 = .ok (.iaload, 1) := by decide +kernel
theorem dX3_order_51 : decode cX3_order 51 = .ok (.sipush 768, 3) := by decide +kernel
theorem dX3_order_54 : decode cX3_order 54 = .ok (.isub, 1) := by decide +kernel
theorem dX3_order_55 : decode cX3_order 55 = .ok (.iconst 5, 1) := by decide +kernel
theorem dX3_order_56 : decode cX3_order 56 = .ok (.idiv, 1) := by decide +kernel
theorem dX3_order_57 : decode cX3_order 57 = .ok (.if_icmp .le 25, 3) := by decide +kernel
theorem dX3_order_60 : decode cX3_order 60 = .ok (.aload_n 0, 1) := by decide +kernel
theorem dX3_order_61 : decode cX3_order 61 = .ok (.iload_n 3, 1) := by decide +kernel
theorem dX3_order_62 : decode cX3_order 62 = .ok (.iaload, 1) := by decide +kernel
theorem dX3_order_63 : decode cX3_order 63 = .ok (.istore 4, 2) := by decide +kernel
theorem dX3_order_65 : decode cX3_order 65 = .ok (.aload_n 0, 1) := by decide +kernel
theorem dX3_order_66 : decode cX3_order 66 = .ok (.iload_n 3, 1) := by decide +kernel
theorem dX3_order_67 : decode cX3_order 67 = .ok (.aload_n 0, 1) := by decide +kernel
theorem dX3_order_68 : decode cX3_order 68 = .ok (.iload_n 3, 1) := by decide +kernel
theorem dX3_order_69 : decode cX3_order 69 = .ok (.iconst 1, 1) := by decide +kernel
theorem dX3_order_70 : decode cX3_order 70 = .ok (.iadd, 1) := by decide +kernel
theorem dX3_order_71 : decode cX3_order 71 = .ok (.iaload, 1) := by decide +kernel
theorem dX3_order_72 : decode cX3_order 72 = .ok (.iastore, 1) := by decide +kernel
theorem dX3_order_73 : decode cX3_order 73 = .ok (.aload_n 0, 1) := by decide +kernel
theorem dX3_order_74 : decode cX3_order 74 = .ok (.iload_n 3, 1) := by decide +kernel
theorem dX3_order_75 : decode cX3_order 75 = .ok (.iconst 1, 1) := by decide +kernel
theorem dX3_order_76 : decode cX3_order 76 = .ok (.iadd, 1) := by decide +kernel
theorem dX3_order_77 : decode cX3_order 77 = .ok (.iload 4, 2) := by decide +kernel
theorem dX3_order_79 : decode cX3_order 79 = .ok (.iastore, 1) := by decide +kernel
theorem dX3_order_80 : decode cX3_order 80 = .ok (.iconst 1, 1) := by decide +kernel
theorem dX3_order_81 : decode cX3_order 81 = .ok (.istore_n 2, 1) := by decide +kernel
theorem dX3_order_82 : decode cX3_order 82 = .ok (.iinc 3 1, 3) := by decide +kernel
theorem dX3_order_85 : decode cX3_order 85 = .ok (.goto (-75), 3) := by decide +kernel
theorem dX3_order_88 : decode cX3_order 88 = .ok (.goto (-86), 3) := by decide +kernel
theorem dX3_order_91 : decode cX3_order 91 = .ok (.return_, 1) := by decide +kernel
theorem dX3_bad_0 : decode cX3_bad 0 = .ok (.aload_n 0, 1) := by decide +kernel
theorem dX3_bad_1 : decode cX3_bad 1 = .ok (.iload_n 1, 1) := by decide +kernel
theorem dX3_bad_2 : decode cX3_bad 2 = .ok (.putfield 55, 3) := by decide +kernel
theorem dX3_bad_5 : decode cX3_bad 5 = .ok (.iconst (-1), 1) := by decide +kernel
theorem dX3_bad_6 : decode cX3_bad 6 = .ok (.ireturn, 1) := by decide +kernel
set_option maxRecDepth 20000 in
theorem ggX3_readOld_X3_bad : GoodIn wsX3_readOld wsX3_bad := goodIn_r _ [9, 10, 17, 18, 19, 20, 21, 22, 23, 24, 25, 26, 27, 28, 29, 30, 31] (by decide +kernel) (by decide +kernel)
set_option maxRecDepth 20000 in
theorem gX3_readOld_X3_bad : GoodIn wsX3_readOld (wsV RX3 58 RX3 yX3_bad wsX3_bad) := goodIn_app (goodIn_of _ (by decide +kernel)) ggX3_readOld_X3_bad
set_option maxRecDepth 20000 in
theorem ggX3_readOld_X3_placed : GoodIn wsX3_readOld wsX3_placed := goodIn_r _ [13] (by decide +kernel) (by decide +kernel)
set_option maxRecDepth 20000 in
theorem gX3_readOld_X3_placed : GoodIn wsX3_readOld (va_wsS RX3 42 yX3_placed wsX3_placed) := goodIn_app (goodIn_of _ (by decide +kernel)) ggX3_readOld_X3_placed
set_option maxRecDepth 20000 in
theorem ggX3_readOld_X3_isMark : GoodIn wsX3_readOld wsX3_isMark := goodIn_r _ [16] (by decide +kernel) (by decide +kernel)
set_option maxRecDepth 20000 in
theorem gX3_readOld_X3_isMark : GoodIn wsX3_readOld (va_wsS RX3 52 yX3_isMark wsX3_isMark) := goodIn_app (goodIn_of _ (by decide +kernel)) ggX3_readOld_X3_isMark
theorem dX3_readOld_0 : decode cX3_readOld 0 = .ok (.iconst 0, 1) := by decide +kernel
theorem dX3_readOld_1 : decode cX3_readOld 1 = .ok (.istore_n 1, 1) := by decide +kernel
theorem dX3_readOld_2 : decode cX3_readOld 2 = .ok (.iconst 0, 1) := by decide +kernel
theorem dX3_readOld_3 : decode cX3_readOld 3 = .ok (.istore_n 2, 1) := by decide +kernel
theorem dX3_readOld_4 : decode cX3_readOld 4 = .ok (.iconst 0, 1) := by decide +kernel
theorem dX3_readOld_5 : decode cX3_readOld 5 = .ok (.istore_n 3, 1) := by decide +kernel
theorem dX3_readOld_6 : decode cX3_readOld 6 = .ok (.iconst 0, 1) := by decide +kernel
theorem dX3_readOld_7 : decode cX3_readOld 7 = .ok (.istore 4, 2) := by decide +kernel
theorem dX3_readOld_9 : decode cX3_readOld 9 = .ok (.iconst 0, 1) := by decide +kernel
theorem dX3_readOld_10 : decode cX3_readOld 10 = .ok (.istore 5, 2) := by decide +kernel
theorem dX3_readOld_12 : decode cX3_readOld 12 = .ok (.iload 5, 2) := by decide +kernel
theorem dX3_readOld_14 : decode cX3_readOld 14 = .ok (.aload_n 0, 1) := by decide +kernel
theorem dX3_readOld_15 : decode cX3_readOld 15 = .ok (.getfield 39, 3) := by decide +kernel
theorem dX3_readOld_18 : decode cX3_readOld 18 = .ok (.if_icmp .ge 272, 3) := by decide +kernel
theorem dX3_readOld_21 : decode cX3_readOld 21 = .ok (.aload_n 0, 1) := by decide +kernel
theorem dX3_readOld_22 : decode cX3_readOld 22 = .ok (.getfield 7, 3) := by decide +kernel
theorem dX3_readOld_25 : decode cX3_readOld 25 = .ok (.iload 5, 2) := by decide +kernel
theorem dX3_readOld_27 : decode cX3_readOld 27 = .ok (.iaload, 1) := by decide +kernel
theorem dX3_readOld_28 : decode cX3_readOld 28 = .ok (.istore 6, 2) := by decide +kernel
theorem dX3_readOld_30 : decode cX3_readOld 30 = .ok (.iload 6, 2) := by decide +kernel
theorem dX3_readOld_32 : decode cX3_readOld 32 = .ok (.bipush 27, 2) := by decide +kernel
theorem dX3_readOld_34 : decode cX3_readOld 34 = .ok (.if_icmp .ne 82, 3) := by decide +kernel
theorem dX3_readOld_37 : decode cX3_readOld 37 = .ok (.iload 5, 2) := by decide +kernel
theorem dX3_readOld_39 : decode cX3_readOld 39 = .ok (.iconst 2, 1) := by decide +kernel
theorem dX3_readOld_40 : decode cX3_readOld 40 = .ok (.iadd, 1) := by decide +kernel
theorem dX3_readOld_41 : decode cX3_readOld 41 = .ok (.aload_n 0, 1) := by decide +kernel
theorem dX3_readOld_42 : decode cX3_readOld 42 = .ok (.getfield 39, 3) := by decide +kernel
theorem dX3_readOld_45 : decode cX3_readOld 45 = .ok (.if_icmp .ge 45, 3) := by decide +kernel
theorem dX3_readOld_48 : decode cX3_readOld 48 = .ok (.aload_n 0, 1) := by decide +kernel
theorem dX3_readOld_49 : decode cX3_readOld 49 = .ok (.getfield 7, 3) := by decide +kernel
theorem dX3_readOld_52 : decode cX3_readOld 52 = .ok (.iload 5, 2) := by decide +kernel
theorem dX3_readOld_54 : decode cX3_readOld 54 = .ok (.iconst 1, 1) := by decide +kernel
theorem dX3_readOld_55 : decode cX3_readOld 55 = .ok (.iadd, 1) := by decide +kernel
theorem dX3_readOld_56 : decode cX3_readOld 56 = .ok (.iaload, 1) := by decide +kernel
theorem dX3_readOld_57 : decode cX3_readOld 57 = .ok (.bipush 103, 2) := by decide +kernel
theorem dX3_readOld_59 : decode cX3_readOld 59 = .ok (.if_icmp .ne 31, 3) := by decide +kernel
theorem dX3_readOld_62 : decode cX3_readOld 62 = .ok (.aload_n 0, 1) := by decide +kernel
theorem dX3_readOld_63 : decode cX3_readOld 63 = .ok (.getfield 7, 3) := by decide +kernel
theorem dX3_readOld_66 : decode cX3_readOld 66 = .ok (.iload 5, 2) := by decide +kernel
theorem dX3_readOld_68 : decode cX3_readOld 68 = .ok (.iconst 2, 1) := by decide +kernel
theorem dX3_readOld_69 : decode cX3_readOld 69 = .ok (.iadd, 1) := by decide +kernel
theorem dX3_readOld_70 : decode cX3_readOld 70 = .ok (.iaload, 1) := by decide +kernel
theorem dX3_readOld_71 : decode cX3_readOld 71 = .ok (.bipush 48, 2) := by decide +kernel
theorem dX3_readOld_73 : decode cX3_readOld 73 = .ok (.if_icmp .lt 17, 3) := by decide +kernel
theorem dX3_readOld_76 : decode cX3_readOld 76 = .ok (.aload_n 0, 1) := by decide +kernel
theorem dX3_readOld_77 : decode cX3_readOld 77 = .ok (.getfield 7, 3) := by decide +kernel
theorem dX3_readOld_80 : decode cX3_readOld 80 = .ok (.iload 5, 2) := by decide +kernel
theorem dX3_readOld_82 : decode cX3_readOld 82 = .ok (.iconst 2, 1) := by decide +kernel
theorem dX3_readOld_83 : decode cX3_readOld 83 = .ok (.iadd, 1) := by decide +kernel
theorem dX3_readOld_84 : decode cX3_readOld 84 = .ok (.iaload, 1) := by decide +kernel
theorem dX3_readOld_85 : decode cX3_readOld 85 = .ok (.bipush 50, 2) := by decide +kernel
theorem dX3_readOld_87 : decode cX3_readOld 87 = .ok (.if_icmp .le 10, 3) := by decide +kernel
theorem dX3_readOld_90 : decode cX3_readOld 90 = .ok (.aload_n 0, 1) := by decide +kernel
theorem dX3_readOld_91 : decode cX3_readOld 91 = .ok (.iload 5, 2) := by decide +kernel
theorem dX3_readOld_93 : decode cX3_readOld 93 = .ok (.invokevirtual 58, 3) := by decide +kernel
theorem dX3_readOld_96 : decode cX3_readOld 96 = .ok (.ireturn, 1) := by decide +kernel
theorem dX3_readOld_97 : decode cX3_readOld 97 = .ok (.aload_n 0, 1) := by decide +kernel
theorem dX3_readOld_98 : decode cX3_readOld 98 = .ok (.getfield 7, 3) := by decide +kernel
theorem dX3_readOld_101 : decode cX3_readOld 101 = .ok (.iload 5, 2) := by decide +kernel
theorem dX3_readOld_103 : decode cX3_readOld 103 = .ok (.iconst 2, 1) := by decide +kernel
theorem dX3_readOld_104 : decode cX3_readOld 104 = .ok (.iadd, 1) := by decide +kernel
theorem dX3_readOld_105 : decode cX3_readOld 105 = .ok (.iaload, 1) := by decide +kernel
theorem dX3_readOld_106 : decode cX3_readOld 106 = .ok (.bipush 48, 2) := by decide +kernel
theorem dX3_readOld_108 : decode cX3_readOld 108 = .ok (.isub, 1) := by decide +kernel
theorem dX3_readOld_109 : decode cX3_readOld 109 = .ok (.istore_n 1, 1) := by decide +kernel
theorem dX3_readOld_110 : decode cX3_readOld 110 = .ok (.iinc 5 3, 3) := by decide +kernel
theorem dX3_readOld_113 : decode cX3_readOld 113 = .ok (.goto 174, 3) := by decide +kernel
theorem dX3_readOld_116 : decode cX3_readOld 116 = .ok (.iload 6, 2) := by decide +kernel
theorem dX3_readOld_118 : decode cX3_readOld 118 = .ok (.bipush 32, 2) := by decide +kernel
theorem dX3_readOld_120 : decode cX3_readOld 120 = .ok (.if_icmp .lt 15, 3) := by decide +kernel
theorem dX3_readOld_123 : decode cX3_readOld 123 = .ok (.iload 6, 2) := by decide +kernel
theorem dX3_readOld_125 : decode cX3_readOld 125 = .ok (.bipush 126, 2) := by decide +kernel
theorem dX3_readOld_127 : decode cX3_readOld 127 = .ok (.if_icmp .gt 8, 3) := by decide +kernel
theorem dX3_readOld_130 : decode cX3_readOld 130 = .ok (.iload 6, 2) := by decide +kernel
theorem dX3_readOld_132 : decode cX3_readOld 132 = .ok (.goto 33, 3) := by decide +kernel
theorem dX3_readOld_135 : decode cX3_readOld 135 = .ok (.iload 6, 2) := by decide +kernel
theorem dX3_readOld_137 : decode cX3_readOld 137 = .ok (.sipush 161, 3) := by decide +kernel
theorem dX3_readOld_140 : decode cX3_readOld 140 = .ok (.if_icmp .lt 24, 3) := by decide +kernel
theorem dX3_readOld_143 : decode cX3_readOld 143 = .ok (.iload 6, 2) := by decide +kernel
theorem dX3_readOld_145 : decode cX3_readOld 145 = .ok (.sipush 254, 3) := by decide +kernel
theorem dX3_readOld_148 : decode cX3_readOld 148 = .ok (.if_icmp .gt 16, 3) := by decide +kernel
theorem dX3_readOld_151 : decode cX3_readOld 151 = .ok (.iload_n 1, 1) := by decide +kernel
theorem dX3_readOld_152 : decode cX3_readOld 152 = .ok (.iload 6, 2) := by decide +kernel
theorem dX3_readOld_154 : decode cX3_readOld 154 = .ok (.sipush 161, 3) := by decide +kernel
theorem dX3_readOld_157 : decode cX3_readOld 157 = .ok (.isub, 1) := by decide +kernel
theorem dX3_readOld_158 : decode cX3_readOld 158 = .ok (.invokestatic 42, 3) := by decide +kernel
theorem dX3_readOld_161 : decode cX3_readOld 161 = .ok (.goto 4, 3) := by decide +kernel
theorem dX3_readOld_164 : decode cX3_readOld 164 = .ok (.iconst 0, 1) := by decide +kernel
theorem dX3_readOld_165 : decode cX3_readOld 165 = .ok (.istore 7, 2) := by decide +kernel
theorem dX3_readOld_167 : decode cX3_readOld 167 = .ok (.iload 7, 2) := by decide +kernel
theorem dX3_readOld_169 : decode cX3_readOld 169 = .ok (.ifCond .ne 10, 3) := by decide +kernel
theorem dX3_readOld_172 : decode cX3_readOld 172 = .ok (.aload_n 0, 1) := by decide +kernel
theorem dX3_readOld_173 : decode cX3_readOld 173 = .ok (.iload 5, 2) := by decide +kernel
theorem dX3_readOld_175 : decode cX3_readOld 175 = .ok (.invokevirtual 58, 3) := by decide +kernel
theorem dX3_readOld_178 : decode cX3_readOld 178 = .ok (.ireturn, 1) := by decide +kernel
theorem dX3_readOld_179 : decode cX3_readOld 179 = .ok (.iload 7, 2) := by decide +kernel
theorem dX3_readOld_181 : decode cX3_readOld 181 = .ok (.invokestatic 52, 3) := by decide +kernel
theorem dX3_readOld_184 : decode cX3_readOld 184 = .ok (.ifCond .eq 30, 3) := by decide +kernel
theorem dX3_readOld_187 : decode cX3_readOld 187 = .ok (.iload_n 3, 1) := by decide +kernel
theorem dX3_readOld_188 : decode cX3_readOld 188 = .ok (.ifCond .ne 8, 3) := by decide +kernel
theorem dX3_readOld_191 : decode cX3_readOld 191 = .ok (.iload 5, 2) := by decide +kernel
theorem dX3_readOld_193 : decode cX3_readOld 193 = .ok (.goto 5, 3) := by decide +kernel
theorem dX3_readOld_196 : decode cX3_readOld 196 = .ok (.iload 4, 2) := by decide +kernel
theorem dX3_readOld_198 : decode cX3_readOld 198 = .ok (.istore 4, 2) := by decide +kernel
theorem dX3_readOld_200 : decode cX3_readOld 200 = .ok (.aload_n 0, 1) := by decide +kernel
theorem dX3_readOld_201 : decode cX3_readOld 201 = .ok (.getfield 22, 3) := by decide +kernel
theorem dX3_readOld_204 : decode cX3_readOld 204 = .ok (.iload_n 3, 1) := by decide +kernel
theorem dX3_readOld_205 : decode cX3_readOld 205 = .ok (.iload 7, 2) := by decide +kernel
theorem dX3_readOld_207 : decode cX3_readOld 207 = .ok (.iastore, 1) := by decide +kernel
theorem dX3_readOld_208 : decode cX3_readOld 208 = .ok (.iinc 3 1, 3) := by decide +kernel
theorem dX3_readOld_211 : decode cX3_readOld 211 = .ok (.goto 73, 3) := by decide +kernel
theorem dX3_readOld_214 : decode cX3_readOld 214 = .ok (.iload_n 2, 1) := by decide +kernel
theorem dX3_readOld_215 : decode cX3_readOld 215 = .ok (.iconst 1, 1) := by decide +kernel
theorem dX3_readOld_216 : decode cX3_readOld 216 = .ok (.iadd, 1) := by decide +kernel
theorem dX3_readOld_217 : decode cX3_readOld 217 = .ok (.iload_n 3, 1) := by decide +kernel
theorem dX3_readOld_218 : decode cX3_readOld 218 = .ok (.iadd, 1) := by decide +kernel
theorem dX3_readOld_219 : decode cX3_readOld 219 = .ok (.bipush 100, 2) := by decide +kernel
theorem dX3_readOld_221 : decode cX3_readOld 221 = .ok (.if_icmp .le 19, 3) := by decide +kernel
theorem dX3_readOld_224 : decode cX3_readOld 224 = .ok (.aload_n 0, 1) := by decide +kernel
theorem dX3_readOld_225 : decode cX3_readOld 225 = .ok (.iload_n 3, 1) := by decide +kernel
theorem dX3_readOld_226 : decode cX3_readOld 226 = .ok (.ifCond .le 8, 3) := by decide +kernel
theorem dX3_readOld_229 : decode cX3_readOld 229 = .ok (.iload 4, 2) := by decide +kernel
theorem dX3_readOld_231 : decode cX3_readOld 231 = .ok (.goto 5, 3) := by decide +kernel
theorem dX3_readOld_234 : decode cX3_readOld 234 = .ok (.iload 5, 2) := by decide +kernel
theorem dX3_readOld_236 : decode cX3_readOld 236 = .ok (.invokevirtual 58, 3) := by decide +kernel
theorem dX3_readOld_239 : decode cX3_readOld 239 = .ok (.ireturn, 1) := by decide +kernel
theorem dX3_readOld_240 : decode cX3_readOld 240 = .ok (.aload_n 0, 1) := by decide +kernel
theorem dX3_readOld_241 : decode cX3_readOld 241 = .ok (.getfield 19, 3) := by decide +kernel
theorem dX3_readOld_244 : decode cX3_readOld 244 = .ok (.iload_n 2, 1) := by decide +kernel
theorem dX3_readOld_245 : decode cX3_readOld 245 = .ok (.iload 7, 2) := by decide +kernel
theorem dX3_readOld_247 : decode cX3_readOld 247 = .ok (.iastore, 1) := by decide +kernel
theorem dX3_readOld_248 : decode cX3_readOld 248 = .ok (.iinc 2 1, 3) := by decide +kernel
theorem dX3_readOld_251 : decode cX3_readOld 251 = .ok (.iconst 0, 1) := by decide +kernel
theorem dX3_readOld_252 : decode cX3_readOld 252 = .ok (.istore 8, 2) := by decide +kernel
theorem dX3_readOld_254 : decode cX3_readOld 254 = .ok (.iload 8, 2) := by decide +kernel
theorem dX3_readOld_256 : decode cX3_readOld 256 = .ok (.iload_n 3, 1) := by decide +kernel
theorem dX3_readOld_257 : decode cX3_readOld 257 = .ok (.if_icmp .ge 25, 3) := by decide +kernel
theorem dX3_readOld_260 : decode cX3_readOld 260 = .ok (.aload_n 0, 1) := by decide +kernel
theorem dX3_readOld_261 : decode cX3_readOld 261 = .ok (.getfield 19, 3) := by decide +kernel
theorem dX3_readOld_264 : decode cX3_readOld 264 = .ok (.iload_n 2, 1) := by decide +kernel
theorem dX3_readOld_265 : decode cX3_readOld 265 = .ok (.aload_n 0, 1) := by decide +kernel
theorem dX3_readOld_266 : decode cX3_readOld 266 = .ok (.getfield 22, 3) := by decide +kernel
theorem dX3_readOld_269 : decode cX3_readOld 269 = .ok (.iload 8, 2) := by decide +kernel
theorem dX3_readOld_271 : decode cX3_readOld 271 = .ok (.iaload, 1) := by decide +kernel
theorem dX3_readOld_272 : decode cX3_readOld 272 = .ok (.iastore, 1) := by decide +kernel
theorem dX3_readOld_273 : decode cX3_readOld 273 = .ok (.iinc 2 1, 3) := by decide +kernel
theorem dX3_readOld_276 : decode cX3_readOld 276 = .ok (.iinc 8 1, 3) := by decide +kernel
theorem dX3_readOld_279 : decode cX3_readOld 279 = .ok (.goto (-25), 3) := by decide +kernel
theorem dX3_readOld_282 : decode cX3_readOld 282 = .ok (.iconst 0, 1) := by decide +kernel
theorem dX3_readOld_283 : decode cX3_readOld 283 = .ok (.istore_n 3, 1) := by decide +kernel
theorem dX3_readOld_284 : decode cX3_readOld 284 = .ok (.iinc 5 1, 3) := by decide +kernel
theorem dX3_readOld_287 : decode cX3_readOld 287 = .ok (.goto (-275), 3) := by decide +kernel
theorem dX3_readOld_290 : decode cX3_readOld 290 = .ok (.iload_n 3, 1) := by decide +kernel
theorem dX3_readOld_291 : decode cX3_readOld 291 = .ok (.ifCond .le 12, 3) := by decide +kernel
theorem dX3_readOld_294 : decode cX3_readOld 294 = .ok (.aload_n 0, 1) := by decide +kernel
theorem dX3_readOld_295 : decode cX3_readOld 295 = .ok (.iload 4, 2) := by decide +kernel
theorem dX3_readOld_297 : decode cX3_readOld 297 = .ok (.invokevirtual 58, 3) := by decide +kernel
theorem dX3_readOld_300 : decode cX3_readOld 300 = .ok (.goto 4, 3) := by decide +kernel
theorem dX3_readOld_303 : decode cX3_readOld 303 = .ok (.iload_n 2, 1) := by decide +kernel
theorem dX3_readOld_304 : decode cX3_readOld 304 = .ok (.ireturn, 1) := by decide +kernel
theorem dX3_goesOn_0 : decode cX3_goesOn 0 = .ok (.iload_n 1, 1) := by decide +kernel
theorem dX3_goesOn_1 : decode cX3_goesOn 1 = .ok (.aload_n 0, 1) := by decide +kernel
theorem dX3_goesOn_2 : decode cX3_goesOn 2 = .ok (.getfield 39, 3) := by decide +kernel
theorem dX3_goesOn_5 : decode cX3_goesOn 5 = .ok (.if_icmp .ge 31, 3) := by decide +kernel
theorem dX3_goesOn_8 : decode cX3_goesOn 8 = .ok (.aload_n 0, 1) := by decide +kernel
theorem dX3_goesOn_9 : decode cX3_goesOn 9 = .ok (.getfield 7, 3) := by decide +kernel
theorem dX3_goesOn_12 : decode cX3_goesOn 12 = .ok (.iload_n 1, 1) := by decide +kernel
theorem dX3_goesOn_13 : decode cX3_goesOn 13 = .ok (.iaload, 1) := by decide +kernel
theorem dX3_goesOn_14 : decode cX3_goesOn 14 = .ok (.sipush 128, 3) := by decide +kernel
theorem dX3_goesOn_17 : decode cX3_goesOn 17 = .ok (.if_icmp .lt 19, 3) := by decide +kernel
theorem dX3_goesOn_20 : decode cX3_goesOn 20 = .ok (.aload_n 0, 1) := by decide +kernel
theorem dX3_goesOn_21 : decode cX3_goesOn 21 = .ok (.getfield 7, 3) := by decide +kernel
theorem dX3_goesOn_24 : decode cX3_goesOn 24 = .ok (.iload_n 1, 1) := by decide +kernel
theorem dX3_goesOn_25 : decode cX3_goesOn 25 = .ok (.iaload, 1) := by decide +kernel
theorem dX3_goesOn_26 : decode cX3_goesOn 26 = .ok (.sipush 192, 3) := by decide +kernel
theorem dX3_goesOn_29 : decode cX3_goesOn 29 = .ok (.if_icmp .ge 7, 3) := by decide +kernel
theorem dX3_goesOn_32 : decode cX3_goesOn 32 = .ok (.iconst 1, 1) := by decide +kernel
theorem dX3_goesOn_33 : decode cX3_goesOn 33 = .ok (.goto 4, 3) := by decide +kernel
theorem dX3_goesOn_36 : decode cX3_goesOn 36 = .ok (.iconst 0, 1) := by decide +kernel
theorem dX3_goesOn_37 : decode cX3_goesOn 37 = .ok (.ireturn, 1) := by decide +kernel
set_option maxRecDepth 20000 in
theorem ggX3_readNew_X3_goesOn : GoodIn wsX3_readNew wsX3_goesOn := goodIn_r _ [8, 1, 2, 34, 35, 36, 37, 38, 39, 40, 41, 42, 43, 44, 45, 46, 47, 48] (by decide +kernel) (by decide +kernel)
set_option maxRecDepth 20000 in
theorem gX3_readNew_X3_goesOn : GoodIn wsX3_readNew (wsV RX3 62 RX3 yX3_goesOn wsX3_goesOn) := goodIn_app (goodIn_of _ (by decide +kernel)) ggX3_readNew_X3_goesOn
set_option maxRecDepth 20000 in
theorem ggX3_readNew_X3_isPlain : GoodIn wsX3_readNew wsX3_isPlain := goodIn_r _ [11] (by decide +kernel) (by decide +kernel)
set_option maxRecDepth 20000 in
theorem gX3_readNew_X3_isPlain : GoodIn wsX3_readNew (va_wsS RX3 65 yX3_isPlain wsX3_isPlain) := goodIn_app (goodIn_of _ (by decide +kernel)) ggX3_readNew_X3_isPlain
set_option maxRecDepth 20000 in
theorem ggX3_readNew_X3_find : GoodIn wsX3_readNew wsX3_find := goodIn_r _ [14, 15, 16, 7, 17] (by decide +kernel) (by decide +kernel)
set_option maxRecDepth 20000 in
theorem gX3_readNew_X3_find : GoodIn wsX3_readNew (va_wsS RX3 68 yX3_find wsX3_find) := goodIn_app (goodIn_of _ (by decide +kernel)) ggX3_readNew_X3_find
set_option maxRecDepth 20000 in
theorem ggX3_readNew_X3_isComposed : GoodIn wsX3_readNew wsX3_isComposed := goodIn_r _ [20, 21, 22, 23, 24, 7, 25] (by decide +kernel) (by decide +kernel)
set_option maxRecDepth 20000 in
theorem gX3_readNew_X3_isComposed : GoodIn wsX3_readNew (va_wsS RX3 71 yX3_isComposed wsX3_isComposed) := goodIn_app (goodIn_of _ (by decide +kernel)) ggX3_readNew_X3_isComposed
set_option maxRecDepth 20000 in
theorem ggX3_readNew_X3_isMark : GoodIn wsX3_readNew wsX3_isMark := goodIn_r _ [28] (by decide +kernel) (by decide +kernel)
set_option maxRecDepth 20000 in
theorem gX3_readNew_X3_isMark : GoodIn wsX3_readNew (va_wsS RX3 52 yX3_isMark wsX3_isMark) := goodIn_app (goodIn_of _ (by decide +kernel)) ggX3_readNew_X3_isMark
set_option maxRecDepth 20000 in
theorem ggX3_readNew_X3_bad : GoodIn wsX3_readNew wsX3_bad := goodIn_r _ [32, 33, 34, 35, 36, 37, 38, 39, 40, 41, 42, 43, 44, 45, 46, 47, 48] (by decide +kernel) (by decide +kernel)
set_option maxRecDepth 20000 in
theorem gX3_readNew_X3_bad : GoodIn wsX3_readNew (wsV RX3 58 RX3 yX3_bad wsX3_bad) := goodIn_app (goodIn_of _ (by decide +kernel)) ggX3_readNew_X3_bad
theorem dX3_readNew_0 : decode cX3_readNew 0 = .ok (.iconst 0, 1) := by decide +kernel
theorem dX3_readNew_1 : decode cX3_readNew 1 = .ok (.istore_n 1, 1) := by decide +kernel
theorem dX3_readNew_2 : decode cX3_readNew 2 = .ok (.iconst 0, 1) := by decide +kernel
theorem dX3_readNew_3 : decode cX3_readNew 3 = .ok (.istore_n 2, 1) := by decide +kernel
theorem dX3_readNew_4 : decode cX3_readNew 4 = .ok (.iload_n 2, 1) := by decide +kernel
theorem dX3_readNew_5 : decode cX3_readNew 5 = .ok (.aload_n 0, 1) := by decide +kernel
theorem dX3_readNew_6 : decode cX3_readNew 6 = .ok (.getfield 39, 3) := by decide +kernel
theorem dX3_readNew_9 : decode cX3_readNew 9 = .ok (.if_icmp .ge 278, 3) := by decide +kernel
theorem dX3_readNew_12 : decode cX3_readNew 12 = .ok (.aload_n 0, 1) := by decide +kernel
theorem dX3_readNew_13 : decode cX3_readNew 13 = .ok (.getfield 7, 3) := by decide +kernel
theorem dX3_readNew_16 : decode cX3_readNew 16 = .ok (.iload_n 2, 1) := by decide +kernel
theorem dX3_readNew_17 : decode cX3_readNew 17 = .ok (.iaload, 1) := by decide +kernel
theorem dX3_readNew_18 : decode cX3_readNew 18 = .ok (.istore_n 3, 1) := by decide +kernel
theorem dX3_readNew_19 : decode cX3_readNew 19 = .ok (.iconst 0, 1) := by decide +kernel
theorem dX3_readNew_20 : decode cX3_readNew 20 = .ok (.istore 4, 2) := by decide +kernel
theorem dX3_readNew_22 : decode cX3_readNew 22 = .ok (.iconst 1, 1) := by decide +kernel
theorem dX3_readNew_23 : decode cX3_readNew 23 = .ok (.istore 5, 2) := by decide +kernel
theorem dX3_readNew_25 : decode cX3_readNew 25 = .ok (.iload_n 3, 1) := by decide +kernel
theorem dX3_readNew_26 : decode cX3_readNew 26 = .ok (.sipush 128, 3) := by decide +kernel
theorem dX3_readNew_29 : decode cX3_readNew 29 = .ok (.if_icmp .ge 9, 3) := by decide +kernel
theorem dX3_readNew_32 : decode cX3_readNew 32 = .ok (.iload_n 3, 1) := by decide +kernel
theorem dX3_readNew_33 : decode cX3_readNew 33 = .ok (.istore 4, 2) := by decide +kernel
theorem dX3_readNew_35 : decode cX3_readNew 35 = .ok (.goto 165, 3) := by decide +kernel
theorem dX3_readNew_38 : decode cX3_readNew 38 = .ok (.iload_n 3, 1) := by decide +kernel
theorem dX3_readNew_39 : decode cX3_readNew 39 = .ok (.sipush 192, 3) := by decide +kernel
theorem dX3_readNew_42 : decode cX3_readNew 42 = .ok (.if_icmp .lt 65, 3) := by decide +kernel
theorem dX3_readNew_45 : decode cX3_readNew 45 = .ok (.iload_n 3, 1) := by decide +kernel
theorem dX3_readNew_46 : decode cX3_readNew 46 = .ok (.sipush 224, 3) := by decide +kernel
theorem dX3_readNew_49 : decode cX3_readNew 49 = .ok (.if_icmp .ge 58, 3) := by decide +kernel
theorem dX3_readNew_52 : decode cX3_readNew 52 = .ok (.aload_n 0, 1) := by decide +kernel
theorem dX3_readNew_53 : decode cX3_readNew 53 = .ok (.iload_n 2, 1) := by decide +kernel
theorem dX3_readNew_54 : decode cX3_readNew 54 = .ok (.iconst 1, 1) := by decide +kernel
theorem dX3_readNew_55 : decode cX3_readNew 55 = .ok (.iadd, 1) := by decide +kernel
theorem dX3_readNew_56 : decode cX3_readNew 56 = .ok (.invokevirtual 62, 3) := by decide +kernel
theorem dX3_readNew_59 : decode cX3_readNew 59 = .ok (.ifCond .eq 48, 3) := by decide +kernel
theorem dX3_readNew_62 : decode cX3_readNew 62 = .ok (.iload_n 3, 1) := by decide +kernel
theorem dX3_readNew_63 : decode cX3_readNew 63 = .ok (.sipush 192, 3) := by decide +kernel
theorem dX3_readNew_66 : decode cX3_readNew 66 = .ok (.isub, 1) := by decide +kernel
theorem dX3_readNew_67 : decode cX3_readNew 67 = .ok (.bipush 64, 2) := by decide +kernel
theorem dX3_readNew_69 : decode cX3_readNew 69 = .ok (.imul, 1) := by decide +kernel
theorem dX3_readNew_70 : decode cX3_readNew 70 = .ok (.aload_n 0, 1) := by decide +kernel
theorem dX3_readNew_71 : decode cX3_readNew 71 = .ok (.getfield 7, 3) := by decide +kernel
theorem dX3_readNew_74 : decode cX3_readNew 74 = .ok (.iload_n 2, 1) := by decide +kernel
theorem dX3_readNew_75 : decode cX3_readNew 75 = .ok (.iconst 1, 1) := by decide +kernel
theorem dX3_readNew_76 : decode cX3_readNew 76 = .ok (.iadd, 1) := by decide +kernel
theorem dX3_readNew_77 : decode cX3_readNew 77 = .ok (.iaload, 1) := by decide +kernel
theorem dX3_readNew_78 : decode cX3_readNew 78 = .ok (.iadd, 1) := by decide +kernel
theorem dX3_readNew_79 : decode cX3_readNew 79 = .ok (.sipush 128, 3) := by decide +kernel
theorem dX3_readNew_82 : decode cX3_readNew 82 = .ok (.isub, 1) := by decide +kernel
theorem dX3_readNew_83 : decode cX3_readNew 83 = .ok (.istore 4, 2) := by decide +kernel
theorem dX3_readNew_85 : decode cX3_readNew 85 = .ok (.iload 4, 2) := by decide +kernel
theorem dX3_readNew_87 : decode cX3_readNew 87 = .ok (.sipush 128, 3) := by decide +kernel
theorem dX3_readNew_90 : decode cX3_readNew 90 = .ok (.if_icmp .ge 7, 3) := by decide +kernel
theorem dX3_readNew_93 : decode cX3_readNew 93 = .ok (.iconst 0, 1) := by decide +kernel
theorem dX3_readNew_94 : decode cX3_readNew 94 = .ok (.goto 5, 3) := by decide +kernel
theorem dX3_readNew_97 : decode cX3_readNew 97 = .ok (.iload 4, 2) := by decide +kernel
theorem dX3_readNew_99 : decode cX3_readNew 99 = .ok (.istore 4, 2) := by decide +kernel
theorem dX3_readNew_101 : decode cX3_readNew 101 = .ok (.iconst 2, 1) := by decide +kernel
theorem dX3_readNew_102 : decode cX3_readNew 102 = .ok (.istore 5, 2) := by decide +kernel
theorem dX3_readNew_104 : decode cX3_readNew 104 = .ok (.goto 96, 3) := by decide +kernel
theorem dX3_readNew_107 : decode cX3_readNew 107 = .ok (.iload_n 3, 1) := by decide +kernel
theorem dX3_readNew_108 : decode cX3_readNew 108 = .ok (.sipush 224, 3) := by decide +kernel
theorem dX3_readNew_111 : decode cX3_readNew 111 = .ok (.if_icmp .lt 89, 3) := by decide +kernel
theorem dX3_readNew_114 : decode cX3_readNew 114 = .ok (.iload_n 3, 1) := by decide +kernel
theorem dX3_readNew_115 : decode cX3_readNew 115 = .ok (.sipush 240, 3) := by decide +kernel
theorem dX3_readNew_118 : decode cX3_readNew 118 = .ok (.if_icmp .ge 82, 3) := by decide +kernel
theorem dX3_readNew_121 : decode cX3_readNew 121 = .ok (.aload_n 0, 1) := by decide +kernel
theorem dX3_readNew_122 : decode cX3_readNew 122 = .ok (.iload_n 2, 1) := by decide +kernel
theorem dX3_readNew_123 : decode cX3_readNew 123 = .ok (.iconst 1, 1) := by decide +kernel
theorem dX3_readNew_124 : decode cX3_readNew 124 = .ok (.iadd, 1) := by decide +kernel
theorem dX3_readNew_125 : decode cX3_readNew 125 = .ok (.invokevirtual 62, 3) := by decide +kernel
theorem dX3_readNew_128 : decode cX3_readNew 128 = .ok (.ifCond .eq 72, 3) := by decide +kernel
theorem dX3_readNew_131 : decode cX3_readNew 131 = .ok (.aload_n 0, 1) := by decide +kernel
theorem dX3_readNew_132 : decode cX3_readNew 132 = .ok (.iload_n 2, 1) := by decide +kernel
theorem dX3_readNew_133 : decode cX3_readNew 133 = .ok (.iconst 2, 1) := by decide +kernel
theorem dX3_readNew_134 : decode cX3_readNew 134 = .ok (.iadd, 1) := by decide +kernel
theorem dX3_readNew_135 : decode cX3_readNew 135 = .ok (.invokevirtual 62, 3) := by decide +kernel
theorem dX3_readNew_138 : decode cX3_readNew 138 = .ok (.ifCond .eq 62, 3) := by decide +kernel
theorem dX3_readNew_141 : decode cX3_readNew 141 = .ok (.iload_n 3, 1) := by decide +kernel
theorem dX3_readNew_142 : decode cX3_readNew 142 = .ok (.sipush 224, 3) := by decide +kernel
theorem dX3_readNew_145 : decode cX3_readNew 145 = .ok (.isub, 1) := by decide +kernel
theorem dX3_readNew_146 : decode cX3_readNew 146 = .ok (.sipush 4096, 3) := by decide +kernel
theorem dX3_readNew_149 : decode cX3_readNew 149 = .ok (.imul, 1) := by decide +kernel
theorem dX3_readNew_150 : decode cX3_readNew 150 = .ok (.aload_n 0, 1) := by decide +kernel
theorem dX3_readNew_151 : decode cX3_readNew 151 = .ok (.getfield 7, 3) := by decide +kernel
theorem dX3_readNew_154 : decode cX3_readNew 154 = .ok (.iload_n 2, 1) := by decide +kernel
theorem dX3_readNew_155 : decode cX3_readNew 155 = .ok (.iconst 1, 1) := by decide +kernel
theorem dX3_readNew_156 : decode cX3_readNew 156 = .ok (.iadd, 1) := by decide +kernel
theorem dX3_readNew_157 : decode cX3_readNew 157 = .ok (.iaload, 1) := by decide +kernel
theorem dX3_readNew_158 : decode cX3_readNew 158 = .ok (.sipush 128, 3) := by decide +kernel
theorem dX3_readNew_161 : decode cX3_readNew 161 = .ok (.isub, 1) := by decide +kernel
theorem dX3_readNew_162 : decode cX3_readNew 162 = .ok (.bipush 64, 2) := by decide +kernel
theorem dX3_readNew_164 : decode cX3_readNew 164 = .ok (.imul, 1) := by decide +kernel
theorem dX3_readNew_165 : decode cX3_readNew 165 = .ok (.iadd, 1) := by decide +kernel
theorem dX3_readNew_166 : decode cX3_readNew 166 = .ok (.aload_n 0, 1) := by decide +kernel
theorem dX3_readNew_167 : decode cX3_readNew 167 = .ok (.getfield 7, 3) := by decide +kernel
theorem dX3_readNew_170 : decode cX3_readNew 170 = .ok (.iload_n 2, 1) := by decide +kernel
theorem dX3_readNew_171 : decode cX3_readNew 171 = .ok (.iconst 2, 1) := by decide +kernel
theorem dX3_readNew_172 : decode cX3_readNew 172 = .ok (.iadd, 1) := by decide +kernel
theorem dX3_readNew_173 : decode cX3_readNew 173 = .ok (.iaload, 1) := by decide +kernel
theorem dX3_readNew_174 : decode cX3_readNew 174 = .ok (.iadd, 1) := by decide +kernel
theorem dX3_readNew_175 : decode cX3_readNew 175 = .ok (.sipush 128, 3) := by decide +kernel
theorem dX3_readNew_178 : decode cX3_readNew 178 = .ok (.isub, 1) := by decide +kernel
theorem dX3_readNew_179 : decode cX3_readNew 179 = .ok (.istore 4, 2) := by decide +kernel
theorem dX3_readNew_181 : decode cX3_readNew 181 = .ok (.iload 4, 2) := by decide +kernel
theorem dX3_readNew_183 : decode cX3_readNew 183 = .ok (.sipush 2048, 3) := by decide +kernel
theorem dX3_readNew_186 : decode cX3_readNew 186 = .ok (.if_icmp .ge 7, 3) := by decide +kernel
theorem dX3_readNew_189 : decode cX3_readNew 189 = .ok (.iconst 0, 1) := by decide +kernel
theorem dX3_readNew_190 : decode cX3_readNew 190 = .ok (.goto 5, 3) := by decide +kernel
theorem dX3_readNew_193 : decode cX3_readNew 193 = .ok (.iload 4, 2) := by decide +kernel
theorem dX3_readNew_195 : decode cX3_readNew 195 = .ok (.istore 4, 2) := by decide +kernel
theorem dX3_readNew_197 : decode cX3_readNew 197 = .ok (.iconst 3, 1) := by decide +kernel
theorem dX3_readNew_198 : decode cX3_readNew 198 = .ok (.istore 5, 2) := by decide +kernel
theorem dX3_readNew_200 : decode cX3_readNew 200 = .ok (.iload 4, 2) := by decide +kernel
theorem dX3_readNew_202 : decode cX3_readNew 202 = .ok (.invokestatic 65, 3) := by decide +kernel
theorem dX3_readNew_205 : decode cX3_readNew 205 = .ok (.ifCond .ne 27, 3) := by decide +kernel
theorem dX3_readNew_208 : decode cX3_readNew 208 = .ok (.iload 4, 2) := by decide +kernel
theorem dX3_readNew_210 : decode cX3_readNew 210 = .ok (.bipush 127, 2) := by decide +kernel
theorem dX3_readNew_212 : decode cX3_readNew 212 = .ok (.if_icmp .le 24, 3) := by decide +kernel
theorem dX3_readNew_215 : decode cX3_readNew 215 = .ok (.iload 4, 2) := by decide +kernel
theorem dX3_readNew_217 : decode cX3_readNew 217 = .ok (.invokestatic 68, 3) := by decide +kernel
theorem dX3_readNew_220 : decode cX3_readNew 220 = .ok (.iconst (-1), 1) := by decide +kernel
theorem dX3_readNew_221 : decode cX3_readNew 221 = .ok (.if_icmp .ne 11, 3) := by decide +kernel
theorem dX3_readNew_224 : decode cX3_readNew 224 = .ok (.iload 4, 2) := by decide +kernel
theorem dX3_readNew_226 : decode cX3_readNew 226 = .ok (.invokestatic 71, 3) := by decide +kernel
theorem dX3_readNew_229 : decode cX3_readNew 229 = .ok (.ifCond .eq 7, 3) := by decide +kernel
theorem dX3_readNew_232 : decode cX3_readNew 232 = .ok (.iconst 1, 1) := by decide +kernel
theorem dX3_readNew_233 : decode cX3_readNew 233 = .ok (.goto 4, 3) := by decide +kernel
theorem dX3_readNew_236 : decode cX3_readNew 236 = .ok (.iconst 0, 1) := by decide +kernel
theorem dX3_readNew_237 : decode cX3_readNew 237 = .ok (.istore 6, 2) := by decide +kernel
theorem dX3_readNew_239 : decode cX3_readNew 239 = .ok (.iload 6, 2) := by decide +kernel
theorem dX3_readNew_241 : decode cX3_readNew 241 = .ok (.ifCond .eq 21, 3) := by decide +kernel
theorem dX3_readNew_244 : decode cX3_readNew 244 = .ok (.iload_n 1, 1) := by decide +kernel
theorem dX3_readNew_245 : decode cX3_readNew 245 = .ok (.bipush 100, 2) := by decide +kernel
theorem dX3_readNew_247 : decode cX3_readNew 247 = .ok (.if_icmp .eq 15, 3) := by decide +kernel
theorem dX3_readNew_250 : decode cX3_readNew 250 = .ok (.iload_n 1, 1) := by decide +kernel
theorem dX3_readNew_251 : decode cX3_readNew 251 = .ok (.ifCond .ne 17, 3) := by decide +kernel
theorem dX3_readNew_254 : decode cX3_readNew 254 = .ok (.iload 4, 2) := by decide +kernel
theorem dX3_readNew_256 : decode cX3_readNew 256 = .ok (.invokestatic 52, 3) := by decide +kernel
theorem dX3_readNew_259 : decode cX3_readNew 259 = .ok (.ifCond .eq 9, 3) := by decide +kernel
theorem dX3_readNew_262 : decode cX3_readNew 262 = .ok (.aload_n 0, 1) := by decide +kernel
theorem dX3_readNew_263 : decode cX3_readNew 263 = .ok (.iload_n 2, 1) := by decide +kernel
theorem dX3_readNew_264 : decode cX3_readNew 264 = .ok (.invokevirtual 58, 3) := by decide +kernel
theorem dX3_readNew_267 : decode cX3_readNew 267 = .ok (.ireturn, 1) := by decide +kernel
theorem dX3_readNew_268 : decode cX3_readNew 268 = .ok (.aload_n 0, 1) := by decide +kernel
theorem dX3_readNew_269 : decode cX3_readNew 269 = .ok (.getfield 19, 3) := by decide +kernel
theorem dX3_readNew_272 : decode cX3_readNew 272 = .ok (.iload_n 1, 1) := by decide +kernel
theorem dX3_readNew_273 : decode cX3_readNew 273 = .ok (.iload 4, 2) := by decide +kernel
theorem dX3_readNew_275 : decode cX3_readNew 275 = .ok (.iastore, 1) := by decide +kernel
theorem dX3_readNew_276 : decode cX3_readNew 276 = .ok (.iinc 1 1, 3) := by decide +kernel
theorem dX3_readNew_279 : decode cX3_readNew 279 = .ok (.iload_n 2, 1) := by decide +kernel
theorem dX3_readNew_280 : decode cX3_readNew 280 = .ok (.iload 5, 2) := by decide +kernel
theorem dX3_readNew_282 : decode cX3_readNew 282 = .ok (.iadd, 1) := by decide +kernel
theorem dX3_readNew_283 : decode cX3_readNew 283 = .ok (.istore_n 2, 1) := by decide +kernel
theorem dX3_readNew_284 : decode cX3_readNew 284 = .ok (.goto (-280), 3) := by decide +kernel
theorem dX3_readNew_287 : decode cX3_readNew 287 = .ok (.iload_n 1, 1) := by decide +kernel
theorem dX3_readNew_288 : decode cX3_readNew 288 = .ok (.ireturn, 1) := by decide +kernel
set_option maxRecDepth 20000 in
theorem ggX3_read_X3_readOld : GoodIn wsX3_read wsX3_readOld := goodIn_r _ [13, 2, 14, 15, 4, 16, 17, 18, 12, 19, 3, 20, 21, 22, 23, 24, 25, 51, 52, 53, 54, 55, 56, 57, 58, 59, 60, 61, 62, 63, 64, 65] (by decide +kernel) (by decide +kernel)
set_option maxRecDepth 20000 in
theorem gX3_read_X3_readOld : GoodIn wsX3_read (wsV RX3 74 RX3 yX3_readOld wsX3_readOld) := goodIn_app (goodIn_of _ (by decide +kernel)) ggX3_read_X3_readOld
set_option maxRecDepth 20000 in
theorem ggX3_read_X3_readNew : GoodIn wsX3_read wsX3_readNew := goodIn_r _ [29, 2, 14, 4, 30, 31, 32, 12, 33, 34, 35, 36, 37, 38, 39, 20, 21, 22, 40, 41, 42, 43, 44, 45, 46, 47, 23, 24, 25, 16, 17, 18, 19, 3, 51, 52, 53, 54, 55, 56, 57, 58, 59, 60, 61, 62, 63, 64, 65] (by decide +kernel) (by decide +kernel)
set_option maxRecDepth 20000 in
theorem gX3_read_X3_readNew : GoodIn wsX3_read (wsV RX3 78 RX3 yX3_readNew wsX3_readNew) := goodIn_app (goodIn_of _ (by decide +kernel)) ggX3_read_X3_readNew
set_option maxRecDepth 20000 in
theorem ggX3_read_X3_order : GoodIn wsX3_read wsX3_order := goodIn_r _ [50, 23, 24, 12, 25] (by decide +kernel) (by decide +kernel)
set_option maxRecDepth 20000 in
theorem gX3_read_X3_order : GoodIn wsX3_read (va_wsS RX3 81 yX3_order wsX3_order) := goodIn_app (goodIn_of _ (by decide +kernel)) ggX3_read_X3_order
theorem dX3_read_0 : decode cX3_read 0 = .ok (.aload_n 0, 1) := by decide +kernel
theorem dX3_read_1 : decode cX3_read 1 = .ok (.iconst 0, 1) := by decide +kernel
theorem dX3_read_2 : decode cX3_read 2 = .ok (.putfield 36, 3) := by decide +kernel
theorem dX3_read_5 : decode cX3_read 5 = .ok (.iload_n 1, 1) := by decide +kernel
theorem dX3_read_6 : decode cX3_read 6 = .ok (.ifCond .ne 10, 3) := by decide +kernel
theorem dX3_read_9 : decode cX3_read 9 = .ok (.aload_n 0, 1) := by decide +kernel
theorem dX3_read_10 : decode cX3_read 10 = .ok (.invokevirtual 74, 3) := by decide +kernel
theorem dX3_read_13 : decode cX3_read 13 = .ok (.goto 7, 3) := by decide +kernel
theorem dX3_read_16 : decode cX3_read 16 = .ok (.aload_n 0, 1) := by decide +kernel
theorem dX3_read_17 : decode cX3_read 17 = .ok (.invokevirtual 78, 3) := by decide +kernel
theorem dX3_read_20 : decode cX3_read 20 = .ok (.istore_n 2, 1) := by decide +kernel
theorem dX3_read_21 : decode cX3_read 21 = .ok (.aload_n 0, 1) := by decide +kernel
theorem dX3_read_22 : decode cX3_read 22 = .ok (.iconst 0, 1) := by decide +kernel
theorem dX3_read_23 : decode cX3_read 23 = .ok (.putfield 39, 3) := by decide +kernel
theorem dX3_read_26 : decode cX3_read 26 = .ok (.iload_n 2, 1) := by decide +kernel
theorem dX3_read_27 : decode cX3_read 27 = .ok (.iconst (-1), 1) := by decide +kernel
theorem dX3_read_28 : decode cX3_read 28 = .ok (.if_icmp .ne 10, 3) := by decide +kernel
theorem dX3_read_31 : decode cX3_read 31 = .ok (.iconst (-1), 1) := by decide +kernel
theorem dX3_read_32 : decode cX3_read 32 = .ok (.aload_n 0, 1) := by decide +kernel
theorem dX3_read_33 : decode cX3_read 33 = .ok (.getfield 55, 3) := by decide +kernel
theorem dX3_read_36 : decode cX3_read 36 = .ok (.isub, 1) := by decide +kernel
theorem dX3_read_37 : decode cX3_read 37 = .ok (.ireturn, 1) := by decide +kernel
theorem dX3_read_38 : decode cX3_read 38 = .ok (.aload_n 0, 1) := by decide +kernel
theorem dX3_read_39 : decode cX3_read 39 = .ok (.getfield 19, 3) := by decide +kernel
theorem dX3_read_42 : decode cX3_read 42 = .ok (.iload_n 2, 1) := by decide +kernel
theorem dX3_read_43 : decode cX3_read 43 = .ok (.invokestatic 81, 3) := by decide +kernel
theorem dX3_read_46 : decode cX3_read 46 = .ok (.aload_n 0, 1) := by decide +kernel
theorem dX3_read_47 : decode cX3_read 47 = .ok (.getfield 16, 3) := by decide +kernel
theorem dX3_read_50 : decode cX3_read 50 = .ok (.astore_n 3, 1) := by decide +kernel
theorem dX3_read_51 : decode cX3_read 51 = .ok (.aload_n 0, 1) := by decide +kernel
theorem dX3_read_52 : decode cX3_read 52 = .ok (.aload_n 0, 1) := by decide +kernel
theorem dX3_read_53 : decode cX3_read 53 = .ok (.getfield 13, 3) := by decide +kernel
theorem dX3_read_56 : decode cX3_read 56 = .ok (.putfield 16, 3) := by decide +kernel
theorem dX3_read_59 : decode cX3_read 59 = .ok (.aload_n 0, 1) := by decide +kernel
theorem dX3_read_60 : decode cX3_read 60 = .ok (.aload_n 0, 1) := by decide +kernel
theorem dX3_read_61 : decode cX3_read 61 = .ok (.getfield 85, 3) := by decide +kernel
theorem dX3_read_64 : decode cX3_read 64 = .ok (.putfield 88, 3) := by decide +kernel
theorem dX3_read_67 : decode cX3_read 67 = .ok (.aload_n 0, 1) := by decide +kernel
theorem dX3_read_68 : decode cX3_read 68 = .ok (.aload_n 3, 1) := by decide +kernel
theorem dX3_read_69 : decode cX3_read 69 = .ok (.putfield 13, 3) := by decide +kernel
theorem dX3_read_72 : decode cX3_read 72 = .ok (.aload_n 0, 1) := by decide +kernel
theorem dX3_read_73 : decode cX3_read 73 = .ok (.iload_n 2, 1) := by decide +kernel
theorem dX3_read_74 : decode cX3_read 74 = .ok (.putfield 85, 3) := by decide +kernel
theorem dX3_read_77 : decode cX3_read 77 = .ok (.iconst 0, 1) := by decide +kernel
theorem dX3_read_78 : decode cX3_read 78 = .ok (.istore 4, 2) := by decide +kernel
theorem dX3_read_80 : decode cX3_read 80 = .ok (.iload 4, 2) := by decide +kernel
theorem dX3_read_82 : decode cX3_read 82 = .ok (.iload_n 2, 1) := by decide +kernel
theorem dX3_read_83 : decode cX3_read 83 = .ok (.if_icmp .ge 23, 3) := by decide +kernel
theorem dX3_read_86 : decode cX3_read 86 = .ok (.aload_n 0, 1) := by decide +kernel
theorem dX3_read_87 : decode cX3_read 87 = .ok (.getfield 13, 3) := by decide +kernel
theorem dX3_read_90 : decode cX3_read 90 = .ok (.iload 4, 2) := by decide +kernel
theorem dX3_read_92 : decode cX3_read 92 = .ok (.aload_n 0, 1) := by decide +kernel
theorem dX3_read_93 : decode cX3_read 93 = .ok (.getfield 19, 3) := by decide +kernel
theorem dX3_read_96 : decode cX3_read 96 = .ok (.iload 4, 2) := by decide +kernel
theorem dX3_read_98 : decode cX3_read 98 = .ok (.iaload, 1) := by decide +kernel
theorem dX3_read_99 : decode cX3_read 99 = .ok (.iastore, 1) := by decide +kernel
theorem dX3_read_100 : decode cX3_read 100 = .ok (.iinc 4 1, 3) := by decide +kernel
theorem dX3_read_103 : decode cX3_read 103 = .ok (.goto (-23), 3) := by decide +kernel
theorem dX3_read_106 : decode cX3_read 106 = .ok (.iload_n 2, 1) := by decide +kernel
theorem dX3_read_107 : decode cX3_read 107 = .ok (.ireturn, 1) := by decide +kernel
theorem dX3_character_0 : decode cX3_character 0 = .ok (.aload_n 0, 1) := by decide +kernel
theorem dX3_character_1 : decode cX3_character 1 = .ok (.iconst 0, 1) := by decide +kernel
theorem dX3_character_2 : decode cX3_character 2 = .ok (.putfield 36, 3) := by decide +kernel
theorem dX3_character_5 : decode cX3_character 5 = .ok (.iload_n 1, 1) := by decide +kernel
theorem dX3_character_6 : decode cX3_character 6 = .ok (.ifCond .lt 11, 3) := by decide +kernel
theorem dX3_character_9 : decode cX3_character 9 = .ok (.iload_n 1, 1) := by decide +kernel
theorem dX3_character_10 : decode cX3_character 10 = .ok (.aload_n 0, 1) := by decide +kernel
theorem dX3_character_11 : decode cX3_character 11 = .ok (.getfield 85, 3) := by decide +kernel
theorem dX3_character_14 : decode cX3_character 14 = .ok (.if_icmp .lt 7, 3) := by decide +kernel
theorem dX3_character_17 : decode cX3_character 17 = .ok (.iconst (-1), 1) := by decide +kernel
theorem dX3_character_18 : decode cX3_character 18 = .ok (.goto 9, 3) := by decide +kernel
theorem dX3_character_21 : decode cX3_character 21 = .ok (.aload_n 0, 1) := by decide +kernel
theorem dX3_character_22 : decode cX3_character 22 = .ok (.getfield 13, 3) := by decide +kernel
theorem dX3_character_25 : decode cX3_character 25 = .ok (.iload_n 1, 1) := by decide +kernel
theorem dX3_character_26 : decode cX3_character 26 = .ok (.iaload, 1) := by decide +kernel
theorem dX3_character_27 : decode cX3_character 27 = .ok (.ireturn, 1) := by decide +kernel
theorem dX3_put_0 : decode cX3_put 0 = .ok (.aload_n 0, 1) := by decide +kernel
theorem dX3_put_1 : decode cX3_put 1 = .ok (.getfield 25, 3) := by decide +kernel
theorem dX3_put_4 : decode cX3_put 4 = .ok (.aload_n 0, 1) := by decide +kernel
theorem dX3_put_5 : decode cX3_put 5 = .ok (.getfield 91, 3) := by decide +kernel
theorem dX3_put_8 : decode cX3_put 8 = .ok (.iload_n 1, 1) := by decide +kernel
theorem dX3_put_9 : decode cX3_put 9 = .ok (.i2b, 1) := by decide +kernel
theorem dX3_put_10 : decode cX3_put 10 = .ok (.bastore, 1) := by decide +kernel
theorem dX3_put_11 : decode cX3_put 11 = .ok (.aload_n 0, 1) := by decide +kernel
theorem dX3_put_12 : decode cX3_put 12 = .ok (.dup, 1) := by decide +kernel
theorem dX3_put_13 : decode cX3_put 13 = .ok (.getfield 91, 3) := by decide +kernel
theorem dX3_put_16 : decode cX3_put 16 = .ok (.iconst 1, 1) := by decide +kernel
theorem dX3_put_17 : decode cX3_put 17 = .ok (.iadd, 1) := by decide +kernel
theorem dX3_put_18 : decode cX3_put 18 = .ok (.putfield 91, 3) := by decide +kernel
theorem dX3_put_21 : decode cX3_put 21 = .ok (.return_, 1) := by decide +kernel
theorem dX3_tell_0 : decode cX3_tell 0 = .ok (.aload_n 0, 1) := by decide +kernel
theorem dX3_tell_1 : decode cX3_tell 1 = .ok (.getfield 29, 3) := by decide +kernel
theorem dX3_tell_4 : decode cX3_tell 4 = .ok (.iconst 2, 1) := by decide +kernel
theorem dX3_tell_5 : decode cX3_tell 5 = .ok (.aload_n 0, 1) := by decide +kernel
theorem dX3_tell_6 : decode cX3_tell 6 = .ok (.getfield 94, 3) := by decide +kernel
theorem dX3_tell_9 : decode cX3_tell 9 = .ok (.imul, 1) := by decide +kernel
theorem dX3_tell_10 : decode cX3_tell 10 = .ok (.aload_n 0, 1) := by decide +kernel
theorem dX3_tell_11 : decode cX3_tell 11 = .ok (.getfield 13, 3) := by decide +kernel
theorem dX3_tell_14 : decode cX3_tell 14 = .ok (.iload_n 1, 1) := by decide +kernel
theorem dX3_tell_15 : decode cX3_tell 15 = .ok (.iaload, 1) := by decide +kernel
theorem dX3_tell_16 : decode cX3_tell 16 = .ok (.iastore, 1) := by decide +kernel
theorem dX3_tell_17 : decode cX3_tell 17 = .ok (.aload_n 0, 1) := by decide +kernel
theorem dX3_tell_18 : decode cX3_tell 18 = .ok (.getfield 29, 3) := by decide +kernel
theorem dX3_tell_21 : decode cX3_tell 21 = .ok (.iconst 2, 1) := by decide +kernel
theorem dX3_tell_22 : decode cX3_tell 22 = .ok (.aload_n 0, 1) := by decide +kernel
theorem dX3_tell_23 : decode cX3_tell 23 = .ok (.getfield 94, 3) := by decide +kernel
theorem dX3_tell_26 : decode cX3_tell 26 = .ok (.imul, 1) := by decide +kernel
theorem dX3_tell_27 : decode cX3_tell 27 = .ok (.iconst 1, 1) := by decide +kernel
theorem dX3_tell_28 : decode cX3_tell 28 = .ok (.iadd, 1) := by decide +kernel
theorem dX3_tell_29 : decode cX3_tell 29 = .ok (.iload_n 1, 1) := by decide +kernel
theorem dX3_tell_30 : decode cX3_tell 30 = .ok (.iastore, 1) := by decide +kernel
theorem dX3_tell_31 : decode cX3_tell 31 = .ok (.aload_n 0, 1) := by decide +kernel
theorem dX3_tell_32 : decode cX3_tell 32 = .ok (.dup, 1) := by decide +kernel
theorem dX3_tell_33 : decode cX3_tell 33 = .ok (.getfield 94, 3) := by decide +kernel
theorem dX3_tell_36 : decode cX3_tell 36 = .ok (.iconst 1, 1) := by decide +kernel
theorem dX3_tell_37 : decode cX3_tell 37 = .ok (.iadd, 1) := by decide +kernel
theorem dX3_tell_38 : decode cX3_tell 38 = .ok (.putfield 94, 3) := by decide +kernel
theorem dX3_tell_41 : decode cX3_tell 41 = .ok (.return_, 1) := by decide +kernel
set_option maxRecDepth 20000 in
theorem ggX3_putSet_X3_put : GoodIn wsX3_putSet wsX3_put := goodIn_r _ [5, 6, 7, 8, 9, 10, 11, 12, 13, 14, 15, 16, 17, 18, 19, 20, 21, 22] (by decide +kernel) (by decide +kernel)
set_option maxRecDepth 20000 in
theorem gX3_putSet_X3_put : GoodIn wsX3_putSet (wsV RX3 97 RX3 yX3_put wsX3_put) := goodIn_app (goodIn_of _ (by decide +kernel)) ggX3_putSet_X3_put
theorem dX3_putSet_0 : decode cX3_putSet 0 = .ok (.iload_n 1, 1) := by decide +kernel
theorem dX3_putSet_1 : decode cX3_putSet 1 = .ok (.bipush 100, 2) := by decide +kernel
theorem dX3_putSet_3 : decode cX3_putSet 3 = .ok (.idiv, 1) := by decide +kernel
theorem dX3_putSet_4 : decode cX3_putSet 4 = .ok (.istore_n 3, 1) := by decide +kernel
theorem dX3_putSet_5 : decode cX3_putSet 5 = .ok (.iload_n 3, 1) := by decide +kernel
theorem dX3_putSet_6 : decode cX3_putSet 6 = .ok (.iload_n 2, 1) := by decide +kernel
theorem dX3_putSet_7 : decode cX3_putSet 7 = .ok (.if_icmp .eq 23, 3) := by decide +kernel
theorem dX3_putSet_10 : decode cX3_putSet 10 = .ok (.aload_n 0, 1) := by decide +kernel
theorem dX3_putSet_11 : decode cX3_putSet 11 = .ok (.bipush 27, 2) := by decide +kernel
theorem dX3_putSet_13 : decode cX3_putSet 13 = .ok (.invokevirtual 97, 3) := by decide +kernel
theorem dX3_putSet_16 : decode cX3_putSet 16 = .ok (.aload_n 0, 1) := by decide +kernel
theorem dX3_putSet_17 : decode cX3_putSet 17 = .ok (.bipush 103, 2) := by decide +kernel
theorem dX3_putSet_19 : decode cX3_putSet 19 = .ok (.invokevirtual 97, 3) := by decide +kernel
theorem dX3_putSet_22 : decode cX3_putSet 22 = .ok (.aload_n 0, 1) := by decide +kernel
theorem dX3_putSet_23 : decode cX3_putSet 23 = .ok (.bipush 48, 2) := by decide +kernel
theorem dX3_putSet_25 : decode cX3_putSet 25 = .ok (.iload_n 3, 1) := by decide +kernel
theorem dX3_putSet_26 : decode cX3_putSet 26 = .ok (.iadd, 1) := by decide +kernel
theorem dX3_putSet_27 : decode cX3_putSet 27 = .ok (.invokevirtual 97, 3) := by decide +kernel
theorem dX3_putSet_30 : decode cX3_putSet 30 = .ok (.aload_n 0, 1) := by decide +kernel
theorem dX3_putSet_31 : decode cX3_putSet 31 = .ok (.sipush 161, 3) := by decide +kernel
theorem dX3_putSet_34 : decode cX3_putSet 34 = .ok (.iload_n 1, 1) := by decide +kernel
theorem dX3_putSet_35 : decode cX3_putSet 35 = .ok (.bipush 100, 2) := by decide +kernel
theorem dX3_putSet_37 : decode cX3_putSet 37 = .ok (.irem, 1) := by decide +kernel
theorem dX3_putSet_38 : decode cX3_putSet 38 = .ok (.iadd, 1) := by decide +kernel
theorem dX3_putSet_39 : decode cX3_putSet 39 = .ok (.invokevirtual 97, 3) := by decide +kernel
theorem dX3_putSet_42 : decode cX3_putSet 42 = .ok (.iload_n 3, 1) := by decide +kernel
theorem dX3_putSet_43 : decode cX3_putSet 43 = .ok (.ireturn, 1) := by decide +kernel
set_option maxRecDepth 20000 in
theorem ggX3_writeOld_X3_isMark : GoodIn wsX3_writeOld wsX3_isMark := goodIn_r _ [7] (by decide +kernel) (by decide +kernel)
set_option maxRecDepth 20000 in
theorem gX3_writeOld_X3_isMark : GoodIn wsX3_writeOld (va_wsS RX3 52 yX3_isMark wsX3_isMark) := goodIn_app (goodIn_of _ (by decide +kernel)) ggX3_writeOld_X3_isMark
set_option maxRecDepth 20000 in
theorem ggX3_writeOld_X3_find : GoodIn wsX3_writeOld wsX3_find := goodIn_r _ [10, 11, 12, 6, 13] (by decide +kernel) (by decide +kernel)
set_option maxRecDepth 20000 in
theorem gX3_writeOld_X3_find : GoodIn wsX3_writeOld (va_wsS RX3 68 yX3_find wsX3_find) := goodIn_app (goodIn_of _ (by decide +kernel)) ggX3_writeOld_X3_find
set_option maxRecDepth 20000 in
theorem ggX3_writeOld_X3_isPlain : GoodIn wsX3_writeOld wsX3_isPlain := goodIn_r _ [16] (by decide +kernel) (by decide +kernel)
set_option maxRecDepth 20000 in
theorem gX3_writeOld_X3_isPlain : GoodIn wsX3_writeOld (va_wsS RX3 65 yX3_isPlain wsX3_isPlain) := goodIn_app (goodIn_of _ (by decide +kernel)) ggX3_writeOld_X3_isPlain
set_option maxRecDepth 20000 in
theorem ggX3_writeOld_X3_putSet : GoodIn wsX3_writeOld wsX3_putSet := goodIn_r _ [20, 21, 22, 23, 6, 24, 25, 26, 33, 34, 35, 36, 37, 38, 39, 40, 41, 42, 43, 44, 45, 46, 47] (by decide +kernel) (by decide +kernel)
set_option maxRecDepth 20000 in
theorem gX3_writeOld_X3_putSet : GoodIn wsX3_writeOld (wsV RX3 101 RX3 yX3_putSet wsX3_putSet) := goodIn_app (goodIn_of _ (by decide +kernel)) ggX3_writeOld_X3_putSet
set_option maxRecDepth 20000 in
theorem ggX3_writeOld_X3_put : GoodIn wsX3_writeOld wsX3_put := goodIn_r _ [24, 25, 26, 33, 34, 35, 36, 37, 38, 39, 40, 41, 42, 43, 44, 45, 46, 47] (by decide +kernel) (by decide +kernel)
set_option maxRecDepth 20000 in
theorem gX3_writeOld_X3_put : GoodIn wsX3_writeOld (wsV RX3 97 RX3 yX3_put wsX3_put) := goodIn_app (goodIn_of _ (by decide +kernel)) ggX3_writeOld_X3_put
set_option maxRecDepth 20000 in
theorem ggX3_writeOld_X3_tell : GoodIn wsX3_writeOld wsX3_tell := goodIn_r _ [30, 31, 32, 2, 33, 34, 35, 36, 37, 38, 39, 40, 41, 42, 43, 44, 45, 46, 47] (by decide +kernel) (by decide +kernel)
set_option maxRecDepth 20000 in
theorem gX3_writeOld_X3_tell : GoodIn wsX3_writeOld (wsV RX3 104 RX3 yX3_tell wsX3_tell) := goodIn_app (goodIn_of _ (by decide +kernel)) ggX3_writeOld_X3_tell
theorem dX3_writeOld_0 : decode cX3_writeOld 0 = .ok (.iconst 0, 1) := by decide +kernel
theorem dX3_writeOld_1 : decode cX3_writeOld 1 = .ok (.istore_n 1, 1) := by decide +kernel
theorem dX3_writeOld_2 : decode cX3_writeOld 2 = .ok (.iconst 0, 1) := by decide +kernel
theorem dX3_writeOld_3 : decode cX3_writeOld 3 = .ok (.istore_n 2, 1) := by decide +kernel
theorem dX3_writeOld_4 : decode cX3_writeOld 4 = .ok (.iload_n 2, 1) := by decide +kernel
theorem dX3_writeOld_5 : decode cX3_writeOld 5 = .ok (.aload_n 0, 1) := by decide +kernel
theorem dX3_writeOld_6 : decode cX3_writeOld 6 = .ok (.getfield 85, 3) := by decide +kernel
theorem dX3_writeOld_9 : decode cX3_writeOld 9 = .ok (.if_icmp .ge 206, 3) := by decide +kernel
theorem dX3_writeOld_12 : decode cX3_writeOld 12 = .ok (.iload_n 2, 1) := by decide +kernel
theorem dX3_writeOld_13 : decode cX3_writeOld 13 = .ok (.iconst 1, 1) := by decide +kernel
theorem dX3_writeOld_14 : decode cX3_writeOld 14 = .ok (.iadd, 1) := by decide +kernel
theorem dX3_writeOld_15 : decode cX3_writeOld 15 = .ok (.istore_n 3, 1) := by decide +kernel
theorem dX3_writeOld_16 : decode cX3_writeOld 16 = .ok (.iload_n 3, 1) := by decide +kernel
theorem dX3_writeOld_17 : decode cX3_writeOld 17 = .ok (.aload_n 0, 1) := by decide +kernel
theorem dX3_writeOld_18 : decode cX3_writeOld 18 = .ok (.getfield 85, 3) := by decide +kernel
theorem dX3_writeOld_21 : decode cX3_writeOld 21 = .ok (.if_icmp .ge 21, 3) := by decide +kernel
theorem dX3_writeOld_24 : decode cX3_writeOld 24 = .ok (.aload_n 0, 1) := by decide +kernel
theorem dX3_writeOld_25 : decode cX3_writeOld 25 = .ok (.getfield 13, 3) := by decide +kernel
theorem dX3_writeOld_28 : decode cX3_writeOld 28 = .ok (.iload_n 3, 1) := by decide +kernel
theorem dX3_writeOld_29 : decode cX3_writeOld 29 = .ok (.iaload, 1) := by decide +kernel
theorem dX3_writeOld_30 : decode cX3_writeOld 30 = .ok (.invokestatic 52, 3) := by decide +kernel
theorem dX3_writeOld_33 : decode cX3_writeOld 33 = .ok (.ifCond .eq 9, 3) := by decide +kernel
theorem dX3_writeOld_36 : decode cX3_writeOld 36 = .ok (.iinc 3 1, 3) := by decide +kernel
theorem dX3_writeOld_39 : decode cX3_writeOld 39 = .ok (.goto (-23), 3) := by decide +kernel
theorem dX3_writeOld_42 : decode cX3_writeOld 42 = .ok (.aload_n 0, 1) := by decide +kernel
theorem dX3_writeOld_43 : decode cX3_writeOld 43 = .ok (.getfield 13, 3) := by decide +kernel
theorem dX3_writeOld_46 : decode cX3_writeOld 46 = .ok (.iload_n 2, 1) := by decide +kernel
theorem dX3_writeOld_47 : decode cX3_writeOld 47 = .ok (.iaload, 1) := by decide +kernel
theorem dX3_writeOld_48 : decode cX3_writeOld 48 = .ok (.invokestatic 68, 3) := by decide +kernel
theorem dX3_writeOld_51 : decode cX3_writeOld 51 = .ok (.istore 4, 2) := by decide +kernel
theorem dX3_writeOld_53 : decode cX3_writeOld 53 = .ok (.aload_n 0, 1) := by decide +kernel
theorem dX3_writeOld_54 : decode cX3_writeOld 54 = .ok (.getfield 13, 3) := by decide +kernel
theorem dX3_writeOld_57 : decode cX3_writeOld 57 = .ok (.iload_n 2, 1) := by decide +kernel
theorem dX3_writeOld_58 : decode cX3_writeOld 58 = .ok (.iaload, 1) := by decide +kernel
theorem dX3_writeOld_59 : decode cX3_writeOld 59 = .ok (.invokestatic 65, 3) := by decide +kernel
theorem dX3_writeOld_62 : decode cX3_writeOld 62 = .ok (.ifCond .ne 21, 3) := by decide +kernel
theorem dX3_writeOld_65 : decode cX3_writeOld 65 = .ok (.iload 4, 2) := by decide +kernel
theorem dX3_writeOld_67 : decode cX3_writeOld 67 = .ok (.iconst (-1), 1) := by decide +kernel
theorem dX3_writeOld_68 : decode cX3_writeOld 68 = .ok (.if_icmp .eq 19, 3) := by decide +kernel
theorem dX3_writeOld_71 : decode cX3_writeOld 71 = .ok (.aload_n 0, 1) := by decide +kernel
theorem dX3_writeOld_72 : decode cX3_writeOld 72 = .ok (.getfield 13, 3) := by decide +kernel
theorem dX3_writeOld_75 : decode cX3_writeOld 75 = .ok (.iload_n 2, 1) := by decide +kernel
theorem dX3_writeOld_76 : decode cX3_writeOld 76 = .ok (.iaload, 1) := by decide +kernel
theorem dX3_writeOld_77 : decode cX3_writeOld 77 = .ok (.invokestatic 52, 3) := by decide +kernel
theorem dX3_writeOld_80 : decode cX3_writeOld 80 = .ok (.ifCond .ne 7, 3) := by decide +kernel
theorem dX3_writeOld_83 : decode cX3_writeOld 83 = .ok (.iconst 1, 1) := by decide +kernel
theorem dX3_writeOld_84 : decode cX3_writeOld 84 = .ok (.goto 4, 3) := by decide +kernel
theorem dX3_writeOld_87 : decode cX3_writeOld 87 = .ok (.iconst 0, 1) := by decide +kernel
theorem dX3_writeOld_88 : decode cX3_writeOld 88 = .ok (.istore 5, 2) := by decide +kernel
theorem dX3_writeOld_90 : decode cX3_writeOld 90 = .ok (.iload_n 2, 1) := by decide +kernel
theorem dX3_writeOld_91 : decode cX3_writeOld 91 = .ok (.iconst 1, 1) := by decide +kernel
theorem dX3_writeOld_92 : decode cX3_writeOld 92 = .ok (.iadd, 1) := by decide +kernel
theorem dX3_writeOld_93 : decode cX3_writeOld 93 = .ok (.istore 6, 2) := by decide +kernel
theorem dX3_writeOld_95 : decode cX3_writeOld 95 = .ok (.iload 6, 2) := by decide +kernel
theorem dX3_writeOld_97 : decode cX3_writeOld 97 = .ok (.iload_n 3, 1) := by decide +kernel
theorem dX3_writeOld_98 : decode cX3_writeOld 98 = .ok (.if_icmp .ge 30, 3) := by decide +kernel
theorem dX3_writeOld_101 : decode cX3_writeOld 101 = .ok (.iload 5, 2) := by decide +kernel
theorem dX3_writeOld_103 : decode cX3_writeOld 103 = .ok (.ifCond .eq 25, 3) := by decide +kernel
theorem dX3_writeOld_106 : decode cX3_writeOld 106 = .ok (.aload_n 0, 1) := by decide +kernel
theorem dX3_writeOld_107 : decode cX3_writeOld 107 = .ok (.aload_n 0, 1) := by decide +kernel
theorem dX3_writeOld_108 : decode cX3_writeOld 108 = .ok (.getfield 13, 3) := by decide +kernel
theorem dX3_writeOld_111 : decode cX3_writeOld 111 = .ok (.iload 6, 2) := by decide +kernel
theorem dX3_writeOld_113 : decode cX3_writeOld 113 = .ok (.iaload, 1) := by decide +kernel
theorem dX3_writeOld_114 : decode cX3_writeOld 114 = .ok (.invokestatic 68, 3) := by decide +kernel
theorem dX3_writeOld_117 : decode cX3_writeOld 117 = .ok (.iload_n 1, 1) := by decide +kernel
theorem dX3_writeOld_118 : decode cX3_writeOld 118 = .ok (.invokevirtual 101, 3) := by decide +kernel
theorem dX3_writeOld_121 : decode cX3_writeOld 121 = .ok (.istore_n 1, 1) := by decide +kernel
theorem dX3_writeOld_122 : decode cX3_writeOld 122 = .ok (.iinc 6 1, 3) := by decide +kernel
theorem dX3_writeOld_125 : decode cX3_writeOld 125 = .ok (.goto (-30), 3) := by decide +kernel
theorem dX3_writeOld_128 : decode cX3_writeOld 128 = .ok (.aload_n 0, 1) := by decide +kernel
theorem dX3_writeOld_129 : decode cX3_writeOld 129 = .ok (.getfield 13, 3) := by decide +kernel
theorem dX3_writeOld_132 : decode cX3_writeOld 132 = .ok (.iload_n 2, 1) := by decide +kernel
theorem dX3_writeOld_133 : decode cX3_writeOld 133 = .ok (.iaload, 1) := by decide +kernel
theorem dX3_writeOld_134 : decode cX3_writeOld 134 = .ok (.invokestatic 65, 3) := by decide +kernel
theorem dX3_writeOld_137 : decode cX3_writeOld 137 = .ok (.ifCond .eq 16, 3) := by decide +kernel
theorem dX3_writeOld_140 : decode cX3_writeOld 140 = .ok (.aload_n 0, 1) := by decide +kernel
theorem dX3_writeOld_141 : decode cX3_writeOld 141 = .ok (.aload_n 0, 1) := by decide +kernel
theorem dX3_writeOld_142 : decode cX3_writeOld 142 = .ok (.getfield 13, 3) := by decide +kernel
theorem dX3_writeOld_145 : decode cX3_writeOld 145 = .ok (.iload_n 2, 1) := by decide +kernel
theorem dX3_writeOld_146 : decode cX3_writeOld 146 = .ok (.iaload, 1) := by decide +kernel
theorem dX3_writeOld_147 : decode cX3_writeOld 147 = .ok (.invokevirtual 97, 3) := by decide +kernel
theorem dX3_writeOld_150 : decode cX3_writeOld 150 = .ok (.goto 60, 3) := by decide +kernel
theorem dX3_writeOld_153 : decode cX3_writeOld 153 = .ok (.iload 5, 2) := by decide +kernel
theorem dX3_writeOld_155 : decode cX3_writeOld 155 = .ok (.ifCond .eq 14, 3) := by decide +kernel
theorem dX3_writeOld_158 : decode cX3_writeOld 158 = .ok (.aload_n 0, 1) := by decide +kernel
theorem dX3_writeOld_159 : decode cX3_writeOld 159 = .ok (.iload 4, 2) := by decide +kernel
theorem dX3_writeOld_161 : decode cX3_writeOld 161 = .ok (.iload_n 1, 1) := by decide +kernel
theorem dX3_writeOld_162 : decode cX3_writeOld 162 = .ok (.invokevirtual 101, 3) := by decide +kernel
theorem dX3_writeOld_165 : decode cX3_writeOld 165 = .ok (.istore_n 1, 1) := by decide +kernel
theorem dX3_writeOld_166 : decode cX3_writeOld 166 = .ok (.goto 44, 3) := by decide +kernel
theorem dX3_writeOld_169 : decode cX3_writeOld 169 = .ok (.iload_n 2, 1) := by decide +kernel
theorem dX3_writeOld_170 : decode cX3_writeOld 170 = .ok (.istore 6, 2) := by decide +kernel
theorem dX3_writeOld_172 : decode cX3_writeOld 172 = .ok (.iload 6, 2) := by decide +kernel
theorem dX3_writeOld_174 : decode cX3_writeOld 174 = .ok (.iload_n 3, 1) := by decide +kernel
theorem dX3_writeOld_175 : decode cX3_writeOld 175 = .ok (.if_icmp .ge 15, 3) := by decide +kernel
theorem dX3_writeOld_178 : decode cX3_writeOld 178 = .ok (.aload_n 0, 1) := by decide +kernel
theorem dX3_writeOld_179 : decode cX3_writeOld 179 = .ok (.iload 6, 2) := by decide +kernel
theorem dX3_writeOld_181 : decode cX3_writeOld 181 = .ok (.invokevirtual 104, 3) := by decide +kernel
theorem dX3_writeOld_184 : decode cX3_writeOld 184 = .ok (.iinc 6 1, 3) := by decide +kernel
theorem dX3_writeOld_187 : decode cX3_writeOld 187 = .ok (.goto (-15), 3) := by decide +kernel
theorem dX3_writeOld_190 : decode cX3_writeOld 190 = .ok (.aload_n 0, 1) := by decide +kernel
theorem dX3_writeOld_191 : decode cX3_writeOld 191 = .ok (.getfield 13, 3) := by decide +kernel
theorem dX3_writeOld_194 : decode cX3_writeOld 194 = .ok (.iload_n 2, 1) := by decide +kernel
theorem dX3_writeOld_195 : decode cX3_writeOld 195 = .ok (.iaload, 1) := by decide +kernel
theorem dX3_writeOld_196 : decode cX3_writeOld 196 = .ok (.invokestatic 52, 3) := by decide +kernel
theorem dX3_writeOld_199 : decode cX3_writeOld 199 = .ok (.ifCond .ne 11, 3) := by decide +kernel
theorem dX3_writeOld_202 : decode cX3_writeOld 202 = .ok (.aload_n 0, 1) := by decide +kernel
theorem dX3_writeOld_203 : decode cX3_writeOld 203 = .ok (.aload_n 0, 1) := by decide +kernel
theorem dX3_writeOld_204 : decode cX3_writeOld 204 = .ok (.getfield 32, 3) := by decide +kernel
theorem dX3_writeOld_207 : decode cX3_writeOld 207 = .ok (.invokevirtual 97, 3) := by decide +kernel
theorem dX3_writeOld_210 : decode cX3_writeOld 210 = .ok (.iload_n 3, 1) := by decide +kernel
theorem dX3_writeOld_211 : decode cX3_writeOld 211 = .ok (.istore_n 2, 1) := by decide +kernel
theorem dX3_writeOld_212 : decode cX3_writeOld 212 = .ok (.goto (-208), 3) := by decide +kernel
theorem dX3_writeOld_215 : decode cX3_writeOld 215 = .ok (.return_, 1) := by decide +kernel
set_option maxRecDepth 20000 in
theorem ggX3_write_X3_writeOld : GoodIn wsX3_write wsX3_writeOld := goodIn_r _ [10, 4, 5, 11, 12, 13, 9, 14, 15, 16, 17, 18, 19, 20, 21, 22, 23, 24, 25, 26, 27, 28, 29, 30, 31, 32, 2, 33, 34, 35, 36, 37, 3, 38, 39, 40, 41, 42, 43, 44, 45, 46, 47, 48, 49, 50, 51, 52] (by decide +kernel) (by decide +kernel)
set_option maxRecDepth 20000 in
theorem gX3_write_X3_writeOld : GoodIn wsX3_write (wsV RX3 107 RX3 yX3_writeOld wsX3_writeOld) := goodIn_app (goodIn_of _ (by decide +kernel)) ggX3_write_X3_writeOld
set_option maxRecDepth 20000 in
theorem ggX3_write_X3_put : GoodIn wsX3_write wsX3_put := goodIn_r _ [31, 32, 2, 38, 39, 40, 41, 42, 43, 44, 45, 46, 47, 48, 49, 50, 51, 52] (by decide +kernel) (by decide +kernel)
set_option maxRecDepth 20000 in
theorem gX3_write_X3_put : GoodIn wsX3_write (wsV RX3 97 RX3 yX3_put wsX3_put) := goodIn_app (goodIn_of _ (by decide +kernel)) ggX3_write_X3_put
theorem dX3_write_0 : decode cX3_write 0 = .ok (.aload_n 0, 1) := by decide +kernel
theorem dX3_write_1 : decode cX3_write 1 = .ok (.iconst 0, 1) := by decide +kernel
theorem dX3_write_2 : decode cX3_write 2 = .ok (.putfield 36, 3) := by decide +kernel
theorem dX3_write_5 : decode cX3_write 5 = .ok (.aload_n 0, 1) := by decide +kernel
theorem dX3_write_6 : decode cX3_write 6 = .ok (.iconst 0, 1) := by decide +kernel
theorem dX3_write_7 : decode cX3_write 7 = .ok (.putfield 91, 3) := by decide +kernel
theorem dX3_write_10 : decode cX3_write 10 = .ok (.aload_n 0, 1) := by decide +kernel
theorem dX3_write_11 : decode cX3_write 11 = .ok (.iconst 0, 1) := by decide +kernel
theorem dX3_write_12 : decode cX3_write 12 = .ok (.putfield 94, 3) := by decide +kernel
theorem dX3_write_15 : decode cX3_write 15 = .ok (.iload_n 1, 1) := by decide +kernel
theorem dX3_write_16 : decode cX3_write 16 = .ok (.ifCond .ne 12, 3) := by decide +kernel
theorem dX3_write_19 : decode cX3_write 19 = .ok (.aload_n 0, 1) := by decide +kernel
theorem dX3_write_20 : decode cX3_write 20 = .ok (.invokevirtual 107, 3) := by decide +kernel
theorem dX3_write_23 : decode cX3_write 23 = .ok (.aload_n 0, 1) := by decide +kernel
theorem dX3_write_24 : decode cX3_write 24 = .ok (.getfield 91, 3) := by decide +kernel
theorem dX3_write_27 : decode cX3_write 27 = .ok (.ireturn, 1) := by decide +kernel
theorem dX3_write_28 : decode cX3_write 28 = .ok (.iconst 0, 1) := by decide +kernel
theorem dX3_write_29 : decode cX3_write 29 = .ok (.istore_n 2, 1) := by decide +kernel
theorem dX3_write_30 : decode cX3_write 30 = .ok (.iload_n 2, 1) := by decide +kernel
theorem dX3_write_31 : decode cX3_write 31 = .ok (.aload_n 0, 1) := by decide +kernel
theorem dX3_write_32 : decode cX3_write 32 = .ok (.getfield 85, 3) := by decide +kernel
theorem dX3_write_35 : decode cX3_write 35 = .ok (.if_icmp .ge 105, 3) := by decide +kernel
theorem dX3_write_38 : decode cX3_write 38 = .ok (.aload_n 0, 1) := by decide +kernel
theorem dX3_write_39 : decode cX3_write 39 = .ok (.getfield 13, 3) := by decide +kernel
theorem dX3_write_42 : decode cX3_write 42 = .ok (.iload_n 2, 1) := by decide +kernel
theorem dX3_write_43 : decode cX3_write 43 = .ok (.iaload, 1) := by decide +kernel
theorem dX3_write_44 : decode cX3_write 44 = .ok (.istore_n 3, 1) := by decide +kernel
theorem dX3_write_45 : decode cX3_write 45 = .ok (.iload_n 3, 1) := by decide +kernel
theorem dX3_write_46 : decode cX3_write 46 = .ok (.sipush 128, 3) := by decide +kernel
theorem dX3_write_49 : decode cX3_write 49 = .ok (.if_icmp .ge 11, 3) := by decide +kernel
theorem dX3_write_52 : decode cX3_write 52 = .ok (.aload_n 0, 1) := by decide +kernel
theorem dX3_write_53 : decode cX3_write 53 = .ok (.iload_n 3, 1) := by decide +kernel
theorem dX3_write_54 : decode cX3_write 54 = .ok (.invokevirtual 97, 3) := by decide +kernel
theorem dX3_write_57 : decode cX3_write 57 = .ok (.goto 77, 3) := by decide +kernel
theorem dX3_write_60 : decode cX3_write 60 = .ok (.iload_n 3, 1) := by decide +kernel
theorem dX3_write_61 : decode cX3_write 61 = .ok (.sipush 2048, 3) := by decide +kernel
theorem dX3_write_64 : decode cX3_write 64 = .ok (.if_icmp .ge 30, 3) := by decide +kernel
theorem dX3_write_67 : decode cX3_write 67 = .ok (.aload_n 0, 1) := by decide +kernel
theorem dX3_write_68 : decode cX3_write 68 = .ok (.sipush 192, 3) := by decide +kernel
theorem dX3_write_71 : decode cX3_write 71 = .ok (.iload_n 3, 1) := by decide +kernel
theorem dX3_write_72 : decode cX3_write 72 = .ok (.bipush 64, 2) := by decide +kernel
theorem dX3_write_74 : decode cX3_write 74 = .ok (.idiv, 1) := by decide +kernel
theorem dX3_write_75 : decode cX3_write 75 = .ok (.iadd, 1) := by decide +kernel
theorem dX3_write_76 : decode cX3_write 76 = .ok (.invokevirtual 97, 3) := by decide +kernel
theorem dX3_write_79 : decode cX3_write 79 = .ok (.aload_n 0, 1) := by decide +kernel
theorem dX3_write_80 : decode cX3_write 80 = .ok (.sipush 128, 3) := by decide +kernel
theorem dX3_write_83 : decode cX3_write 83 = .ok (.iload_n 3, 1) := by decide +kernel
theorem dX3_write_84 : decode cX3_write 84 = .ok (.bipush 64, 2) := by decide +kernel
theorem dX3_write_86 : decode cX3_write 86 = .ok (.irem, 1) := by decide +kernel
theorem dX3_write_87 : decode cX3_write 87 = .ok (.iadd, 1) := by decide +kernel
theorem dX3_write_88 : decode cX3_write 88 = .ok (.invokevirtual 97, 3) := by decide +kernel
theorem dX3_write_91 : decode cX3_write 91 = .ok (.goto 43, 3) := by decide +kernel
theorem dX3_write_94 : decode cX3_write 94 = .ok (.aload_n 0, 1) := by decide +kernel
theorem dX3_write_95 : decode cX3_write 95 = .ok (.sipush 224, 3) := by decide +kernel
theorem dX3_write_98 : decode cX3_write 98 = .ok (.iload_n 3, 1) := by decide +kernel
theorem dX3_write_99 : decode cX3_write 99 = .ok (.sipush 4096, 3) := by decide +kernel
theorem dX3_write_102 : decode cX3_write 102 = .ok (.idiv, 1) := by decide +kernel
theorem dX3_write_103 : decode cX3_write 103 = .ok (.iadd, 1) := by decide +kernel
theorem dX3_write_104 : decode cX3_write 104 = .ok (.invokevirtual 97, 3) := by decide +kernel
theorem dX3_write_107 : decode cX3_write 107 = .ok (.aload_n 0, 1) := by decide +kernel
theorem dX3_write_108 : decode cX3_write 108 = .ok (.sipush 128, 3) := by decide +kernel
theorem dX3_write_111 : decode cX3_write 111 = .ok (.iload_n 3, 1) := by decide +kernel
theorem dX3_write_112 : decode cX3_write 112 = .ok (.bipush 64, 2) := by decide +kernel
theorem dX3_write_114 : decode cX3_write 114 = .ok (.idiv, 1) := by decide +kernel
theorem dX3_write_115 : decode cX3_write 115 = .ok (.bipush 64, 2) := by decide +kernel
theorem dX3_write_117 : decode cX3_write 117 = .ok (.irem, 1) := by decide +kernel
theorem dX3_write_118 : decode cX3_write 118 = .ok (.iadd, 1) := by decide +kernel
theorem dX3_write_119 : decode cX3_write 119 = .ok (.invokevirtual 97, 3) := by decide +kernel
theorem dX3_write_122 : decode cX3_write 122 = .ok (.aload_n 0, 1) := by decide +kernel
theorem dX3_write_123 : decode cX3_write 123 = .ok (.sipush 128, 3) := by decide +kernel
theorem dX3_write_126 : decode cX3_write 126 = .ok (.iload_n 3, 1) := by decide +kernel
theorem dX3_write_127 : decode cX3_write 127 = .ok (.bipush 64, 2) := by decide +kernel
theorem dX3_write_129 : decode cX3_write 129 = .ok (.irem, 1) := by decide +kernel
theorem dX3_write_130 : decode cX3_write 130 = .ok (.iadd, 1) := by decide +kernel
theorem dX3_write_131 : decode cX3_write 131 = .ok (.invokevirtual 97, 3) := by decide +kernel
theorem dX3_write_134 : decode cX3_write 134 = .ok (.iinc 2 1, 3) := by decide +kernel
theorem dX3_write_137 : decode cX3_write 137 = .ok (.goto (-107), 3) := by decide +kernel
theorem dX3_write_140 : decode cX3_write 140 = .ok (.aload_n 0, 1) := by decide +kernel
theorem dX3_write_141 : decode cX3_write 141 = .ok (.getfield 91, 3) := by decide +kernel
theorem dX3_write_144 : decode cX3_write 144 = .ok (.ireturn, 1) := by decide +kernel
theorem dX3_octet2_0 : decode cX3_octet2 0 = .ok (.aload_n 0, 1) := by decide +kernel
theorem dX3_octet2_1 : decode cX3_octet2 1 = .ok (.iconst 0, 1) := by decide +kernel
theorem dX3_octet2_2 : decode cX3_octet2 2 = .ok (.putfield 36, 3) := by decide +kernel
theorem dX3_octet2_5 : decode cX3_octet2 5 = .ok (.iload_n 1, 1) := by decide +kernel
theorem dX3_octet2_6 : decode cX3_octet2 6 = .ok (.ifCond .lt 11, 3) := by decide +kernel
theorem dX3_octet2_9 : decode cX3_octet2 9 = .ok (.iload_n 1, 1) := by decide +kernel
theorem dX3_octet2_10 : decode cX3_octet2 10 = .ok (.aload_n 0, 1) := by decide +kernel
theorem dX3_octet2_11 : decode cX3_octet2 11 = .ok (.getfield 91, 3) := by decide +kernel
theorem dX3_octet2_14 : decode cX3_octet2 14 = .ok (.if_icmp .lt 7, 3) := by decide +kernel
theorem dX3_octet2_17 : decode cX3_octet2 17 = .ok (.iconst 0, 1) := by decide +kernel
theorem dX3_octet2_18 : decode cX3_octet2 18 = .ok (.goto 9, 3) := by decide +kernel
theorem dX3_octet2_21 : decode cX3_octet2 21 = .ok (.aload_n 0, 1) := by decide +kernel
theorem dX3_octet2_22 : decode cX3_octet2 22 = .ok (.getfield 25, 3) := by decide +kernel
theorem dX3_octet2_25 : decode cX3_octet2 25 = .ok (.iload_n 1, 1) := by decide +kernel
theorem dX3_octet2_26 : decode cX3_octet2 26 = .ok (.baload, 1) := by decide +kernel
theorem dX3_octet2_27 : decode cX3_octet2 27 = .ok (.ireturn, 1) := by decide +kernel
theorem dX3_told_0 : decode cX3_told 0 = .ok (.aload_n 0, 1) := by decide +kernel
theorem dX3_told_1 : decode cX3_told 1 = .ok (.iconst 0, 1) := by decide +kernel
theorem dX3_told_2 : decode cX3_told 2 = .ok (.putfield 36, 3) := by decide +kernel
theorem dX3_told_5 : decode cX3_told 5 = .ok (.iload_n 1, 1) := by decide +kernel
theorem dX3_told_6 : decode cX3_told 6 = .ok (.ifCond .lt 20, 3) := by decide +kernel
theorem dX3_told_9 : decode cX3_told 9 = .ok (.iload_n 1, 1) := by decide +kernel
theorem dX3_told_10 : decode cX3_told 10 = .ok (.aload_n 0, 1) := by decide +kernel
theorem dX3_told_11 : decode cX3_told 11 = .ok (.getfield 94, 3) := by decide +kernel
theorem dX3_told_14 : decode cX3_told 14 = .ok (.if_icmp .ge 12, 3) := by decide +kernel
theorem dX3_told_17 : decode cX3_told 17 = .ok (.iload_n 2, 1) := by decide +kernel
theorem dX3_told_18 : decode cX3_told 18 = .ok (.ifCond .lt 8, 3) := by decide +kernel
theorem dX3_told_21 : decode cX3_told 21 = .ok (.iload_n 2, 1) := by decide +kernel
theorem dX3_told_22 : decode cX3_told 22 = .ok (.iconst 1, 1) := by decide +kernel
theorem dX3_told_23 : decode cX3_told 23 = .ok (.if_icmp .le 7, 3) := by decide +kernel
theorem dX3_told_26 : decode cX3_told 26 = .ok (.iconst (-1), 1) := by decide +kernel
theorem dX3_told_27 : decode cX3_told 27 = .ok (.goto 13, 3) := by decide +kernel
theorem dX3_told_30 : decode cX3_told 30 = .ok (.aload_n 0, 1) := by decide +kernel
theorem dX3_told_31 : decode cX3_told 31 = .ok (.getfield 29, 3) := by decide +kernel
theorem dX3_told_34 : decode cX3_told 34 = .ok (.iconst 2, 1) := by decide +kernel
theorem dX3_told_35 : decode cX3_told 35 = .ok (.iload_n 1, 1) := by decide +kernel
theorem dX3_told_36 : decode cX3_told 36 = .ok (.imul, 1) := by decide +kernel
theorem dX3_told_37 : decode cX3_told 37 = .ok (.iload_n 2, 1) := by decide +kernel
theorem dX3_told_38 : decode cX3_told 38 = .ok (.iadd, 1) := by decide +kernel
theorem dX3_told_39 : decode cX3_told 39 = .ok (.iaload, 1) := by decide +kernel
theorem dX3_told_40 : decode cX3_told 40 = .ok (.ireturn, 1) := by decide +kernel
set_option maxRecDepth 20000 in
theorem ggX3_stand_X3_isPlain : GoodIn wsX3_stand wsX3_isPlain := goodIn_r _ [6] (by decide +kernel) (by decide +kernel)
set_option maxRecDepth 20000 in
theorem gX3_stand_X3_isPlain : GoodIn wsX3_stand (va_wsS RX3 65 yX3_isPlain wsX3_isPlain) := goodIn_app (goodIn_of _ (by decide +kernel)) ggX3_stand_X3_isPlain
theorem dX3_stand_0 : decode cX3_stand 0 = .ok (.aload_n 0, 1) := by decide +kernel
theorem dX3_stand_1 : decode cX3_stand 1 = .ok (.iconst 0, 1) := by decide +kernel
theorem dX3_stand_2 : decode cX3_stand 2 = .ok (.putfield 36, 3) := by decide +kernel
theorem dX3_stand_5 : decode cX3_stand 5 = .ok (.iload_n 1, 1) := by decide +kernel
theorem dX3_stand_6 : decode cX3_stand 6 = .ok (.invokestatic 65, 3) := by decide +kernel
theorem dX3_stand_9 : decode cX3_stand 9 = .ok (.ifCond .ne 5, 3) := by decide +kernel
theorem dX3_stand_12 : decode cX3_stand 12 = .ok (.iconst (-1), 1) := by decide +kernel
theorem dX3_stand_13 : decode cX3_stand 13 = .ok (.ireturn, 1) := by decide +kernel
theorem dX3_stand_14 : decode cX3_stand 14 = .ok (.aload_n 0, 1) := by decide +kernel
theorem dX3_stand_15 : decode cX3_stand 15 = .ok (.getfield 32, 3) := by decide +kernel
theorem dX3_stand_18 : decode cX3_stand 18 = .ok (.istore_n 2, 1) := by decide +kernel
theorem dX3_stand_19 : decode cX3_stand 19 = .ok (.aload_n 0, 1) := by decide +kernel
theorem dX3_stand_20 : decode cX3_stand 20 = .ok (.iload_n 1, 1) := by decide +kernel
theorem dX3_stand_21 : decode cX3_stand 21 = .ok (.putfield 32, 3) := by decide +kernel
theorem dX3_stand_24 : decode cX3_stand 24 = .ok (.iload_n 2, 1) := by decide +kernel
theorem dX3_stand_25 : decode cX3_stand 25 = .ok (.ireturn, 1) := by decide +kernel
set_option maxRecDepth 20000 in
theorem ggX3_apart_X3_isComposed : GoodIn wsX3_apart wsX3_isComposed := goodIn_r _ [4, 5, 6, 7, 8, 3, 9] (by decide +kernel) (by decide +kernel)
set_option maxRecDepth 20000 in
theorem gX3_apart_X3_isComposed : GoodIn wsX3_apart (va_wsS RX3 71 yX3_isComposed wsX3_isComposed) := goodIn_app (goodIn_of _ (by decide +kernel)) ggX3_apart_X3_isComposed
set_option maxRecDepth 20000 in
theorem ggX3_apart_X3_letterOf : GoodIn wsX3_apart wsX3_letterOf := goodIn_r _ [12, 5] (by decide +kernel) (by decide +kernel)
set_option maxRecDepth 20000 in
theorem gX3_apart_X3_letterOf : GoodIn wsX3_apart (va_wsS RX3 110 yX3_letterOf wsX3_letterOf) := goodIn_app (goodIn_of _ (by decide +kernel)) ggX3_apart_X3_letterOf
set_option maxRecDepth 20000 in
theorem ggX3_apart_X3_markOf : GoodIn wsX3_apart wsX3_markOf := goodIn_r _ [15, 5] (by decide +kernel) (by decide +kernel)
set_option maxRecDepth 20000 in
theorem gX3_apart_X3_markOf : GoodIn wsX3_apart (va_wsS RX3 113 yX3_markOf wsX3_markOf) := goodIn_app (goodIn_of _ (by decide +kernel)) ggX3_apart_X3_markOf
set_option maxRecDepth 20000 in
theorem ggX3_apart_X3_order : GoodIn wsX3_apart wsX3_order := goodIn_r _ [18, 19, 20, 3, 21] (by decide +kernel) (by decide +kernel)
set_option maxRecDepth 20000 in
theorem gX3_apart_X3_order : GoodIn wsX3_apart (va_wsS RX3 81 yX3_order wsX3_order) := goodIn_app (goodIn_of _ (by decide +kernel)) ggX3_apart_X3_order
theorem dX3_apart_0 : decode cX3_apart 0 = .ok (.iconst 0, 1) := by decide +kernel
theorem dX3_apart_1 : decode cX3_apart 1 = .ok (.istore_n 3, 1) := by decide +kernel
theorem dX3_apart_2 : decode cX3_apart 2 = .ok (.iconst 0, 1) := by decide +kernel
theorem dX3_apart_3 : decode cX3_apart 3 = .ok (.istore 4, 2) := by decide +kernel
theorem dX3_apart_5 : decode cX3_apart 5 = .ok (.iload 4, 2) := by decide +kernel
theorem dX3_apart_7 : decode cX3_apart 7 = .ok (.iload_n 1, 1) := by decide +kernel
theorem dX3_apart_8 : decode cX3_apart 8 = .ok (.if_icmp .ge 61, 3) := by decide +kernel
theorem dX3_apart_11 : decode cX3_apart 11 = .ok (.aload_n 0, 1) := by decide +kernel
theorem dX3_apart_12 : decode cX3_apart 12 = .ok (.iload 4, 2) := by decide +kernel
theorem dX3_apart_14 : decode cX3_apart 14 = .ok (.iaload, 1) := by decide +kernel
theorem dX3_apart_15 : decode cX3_apart 15 = .ok (.invokestatic 71, 3) := by decide +kernel
theorem dX3_apart_18 : decode cX3_apart 18 = .ok (.istore 5, 2) := by decide +kernel
theorem dX3_apart_20 : decode cX3_apart 20 = .ok (.aload_n 2, 1) := by decide +kernel
theorem dX3_apart_21 : decode cX3_apart 21 = .ok (.iload_n 3, 1) := by decide +kernel
theorem dX3_apart_22 : decode cX3_apart 22 = .ok (.iload 5, 2) := by decide +kernel
theorem dX3_apart_24 : decode cX3_apart 24 = .ok (.ifCond .eq 13, 3) := by decide +kernel
theorem dX3_apart_27 : decode cX3_apart 27 = .ok (.aload_n 0, 1) := by decide +kernel
theorem dX3_apart_28 : decode cX3_apart 28 = .ok (.iload 4, 2) := by decide +kernel
theorem dX3_apart_30 : decode cX3_apart 30 = .ok (.iaload, 1) := by decide +kernel
theorem dX3_apart_31 : decode cX3_apart 31 = .ok (.invokestatic 110, 3) := by decide +kernel
theorem dX3_apart_34 : decode cX3_apart 34 = .ok (.goto 7, 3) := by decide +kernel
theorem dX3_apart_37 : decode cX3_apart 37 = .ok (.aload_n 0, 1) := by decide +kernel
theorem dX3_apart_38 : decode cX3_apart 38 = .ok (.iload 4, 2) := by decide +kernel
theorem dX3_apart_40 : decode cX3_apart 40 = .ok (.iaload, 1) := by decide +kernel
theorem dX3_apart_41 : decode cX3_apart 41 = .ok (.iastore, 1) := by decide +kernel
theorem dX3_apart_42 : decode cX3_apart 42 = .ok (.iinc 3 1, 3) := by decide +kernel
theorem dX3_apart_45 : decode cX3_apart 45 = .ok (.iload 5, 2) := by decide +kernel
theorem dX3_apart_47 : decode cX3_apart 47 = .ok (.ifCond .eq 16, 3) := by decide +kernel
theorem dX3_apart_50 : decode cX3_apart 50 = .ok (.aload_n 2, 1) := by decide +kernel
theorem dX3_apart_51 : decode cX3_apart 51 = .ok (.iload_n 3, 1) := by decide +kernel
theorem dX3_apart_52 : decode cX3_apart 52 = .ok (.aload_n 0, 1) := by decide +kernel
theorem dX3_apart_53 : decode cX3_apart 53 = .ok (.iload 4, 2) := by decide +kernel
theorem dX3_apart_55 : decode cX3_apart 55 = .ok (.iaload, 1) := by decide +kernel
theorem dX3_apart_56 : decode cX3_apart 56 = .ok (.invokestatic 113, 3) := by decide +kernel
theorem dX3_apart_59 : decode cX3_apart 59 = .ok (.iastore, 1) := by decide +kernel
theorem dX3_apart_60 : decode cX3_apart 60 = .ok (.iinc 3 1, 3) := by decide +kernel
theorem dX3_apart_63 : decode cX3_apart 63 = .ok (.iinc 4 1, 3) := by decide +kernel
theorem dX3_apart_66 : decode cX3_apart 66 = .ok (.goto (-61), 3) := by decide +kernel
theorem dX3_apart_69 : decode cX3_apart 69 = .ok (.aload_n 2, 1) := by decide +kernel
theorem dX3_apart_70 : decode cX3_apart 70 = .ok (.iload_n 3, 1) := by decide +kernel
theorem dX3_apart_71 : decode cX3_apart 71 = .ok (.invokestatic 81, 3) := by decide +kernel
theorem dX3_apart_74 : decode cX3_apart 74 = .ok (.iload_n 3, 1) := by decide +kernel
theorem dX3_apart_75 : decode cX3_apart 75 = .ok (.ireturn, 1) := by decide +kernel
set_option maxRecDepth 20000 in
theorem ggX3_compose_X3_apart : GoodIn wsX3_compose wsX3_apart := goodIn_r _ [9, 10, 11, 8, 12, 5, 13, 14, 15, 16, 17, 18, 19, 20, 21, 22, 23, 24, 25, 26, 27, 28] (by decide +kernel) (by decide +kernel)
set_option maxRecDepth 20000 in
theorem gX3_compose_X3_apart : GoodIn wsX3_compose (va_wsS RX3 116 yX3_apart wsX3_apart) := goodIn_app (goodIn_of _ (by decide +kernel)) ggX3_compose_X3_apart
set_option maxRecDepth 20000 in
theorem ggX3_compose_X3_isLetter : GoodIn wsX3_compose wsX3_isLetter := goodIn_r _ [16] (by decide +kernel) (by decide +kernel)
set_option maxRecDepth 20000 in
theorem gX3_compose_X3_isLetter : GoodIn wsX3_compose (va_wsS RX3 48 yX3_isLetter wsX3_isLetter) := goodIn_app (goodIn_of _ (by decide +kernel)) ggX3_compose_X3_isLetter
set_option maxRecDepth 20000 in
theorem ggX3_compose_X3_isMark : GoodIn wsX3_compose wsX3_isMark := goodIn_r _ [28] (by decide +kernel) (by decide +kernel)
set_option maxRecDepth 20000 in
theorem gX3_compose_X3_isMark : GoodIn wsX3_compose (va_wsS RX3 52 yX3_isMark wsX3_isMark) := goodIn_app (goodIn_of _ (by decide +kernel)) ggX3_compose_X3_isMark
theorem dX3_compose_0 : decode cX3_compose 0 = .ok (.aload_n 0, 1) := by decide +kernel
theorem dX3_compose_1 : decode cX3_compose 1 = .ok (.iconst 0, 1) := by decide +kernel
theorem dX3_compose_2 : decode cX3_compose 2 = .ok (.putfield 36, 3) := by decide +kernel
theorem dX3_compose_5 : decode cX3_compose 5 = .ok (.iload_n 1, 1) := by decide +kernel
theorem dX3_compose_6 : decode cX3_compose 6 = .ok (.ifCond .lt 8, 3) := by decide +kernel
theorem dX3_compose_9 : decode cX3_compose 9 = .ok (.iload_n 1, 1) := by decide +kernel
theorem dX3_compose_10 : decode cX3_compose 10 = .ok (.iconst 1, 1) := by decide +kernel
theorem dX3_compose_11 : decode cX3_compose 11 = .ok (.if_icmp .le 5, 3) := by decide +kernel
theorem dX3_compose_14 : decode cX3_compose 14 = .ok (.iconst (-1), 1) := by decide +kernel
theorem dX3_compose_15 : decode cX3_compose 15 = .ok (.ireturn, 1) := by decide +kernel
theorem dX3_compose_16 : decode cX3_compose 16 = .ok (.aload_n 0, 1) := by decide +kernel
theorem dX3_compose_17 : decode cX3_compose 17 = .ok (.getfield 13, 3) := by decide +kernel
theorem dX3_compose_20 : decode cX3_compose 20 = .ok (.aload_n 0, 1) := by decide +kernel
theorem dX3_compose_21 : decode cX3_compose 21 = .ok (.getfield 85, 3) := by decide +kernel
theorem dX3_compose_24 : decode cX3_compose 24 = .ok (.aload_n 0, 1) := by decide +kernel
theorem dX3_compose_25 : decode cX3_compose 25 = .ok (.getfield 19, 3) := by decide +kernel
theorem dX3_compose_28 : decode cX3_compose 28 = .ok (.invokestatic 116, 3) := by decide +kernel
theorem dX3_compose_31 : decode cX3_compose 31 = .ok (.istore_n 2, 1) := by decide +kernel
theorem dX3_compose_32 : decode cX3_compose 32 = .ok (.iload_n 1, 1) := by decide +kernel
theorem dX3_compose_33 : decode cX3_compose 33 = .ok (.iconst 1, 1) := by decide +kernel
theorem dX3_compose_34 : decode cX3_compose 34 = .ok (.if_icmp .ne 131, 3) := by decide +kernel
theorem dX3_compose_37 : decode cX3_compose 37 = .ok (.iconst 0, 1) := by decide +kernel
theorem dX3_compose_38 : decode cX3_compose 38 = .ok (.istore_n 3, 1) := by decide +kernel
theorem dX3_compose_39 : decode cX3_compose 39 = .ok (.iconst 0, 1) := by decide +kernel
theorem dX3_compose_40 : decode cX3_compose 40 = .ok (.istore 4, 2) := by decide +kernel
theorem dX3_compose_42 : decode cX3_compose 42 = .ok (.iload 4, 2) := by decide +kernel
theorem dX3_compose_44 : decode cX3_compose 44 = .ok (.iload_n 2, 1) := by decide +kernel
theorem dX3_compose_45 : decode cX3_compose 45 = .ok (.if_icmp .ge 118, 3) := by decide +kernel
theorem dX3_compose_48 : decode cX3_compose 48 = .ok (.aload_n 0, 1) := by decide +kernel
theorem dX3_compose_49 : decode cX3_compose 49 = .ok (.getfield 19, 3) := by decide +kernel
theorem dX3_compose_52 : decode cX3_compose 52 = .ok (.iload 4, 2) := by decide +kernel
theorem dX3_compose_54 : decode cX3_compose 54 = .ok (.iaload, 1) := by decide +kernel
theorem dX3_compose_55 : decode cX3_compose 55 = .ok (.invokestatic 48, 3) := by decide +kernel
theorem dX3_compose_58 : decode cX3_compose 58 = .ok (.ifCond .eq 30, 3) := by decide +kernel
theorem dX3_compose_61 : decode cX3_compose 61 = .ok (.iload 4, 2) := by decide +kernel
theorem dX3_compose_63 : decode cX3_compose 63 = .ok (.iconst 1, 1) := by decide +kernel
theorem dX3_compose_64 : decode cX3_compose 64 = .ok (.iadd, 1) := by decide +kernel
theorem dX3_compose_65 : decode cX3_compose 65 = .ok (.iload_n 2, 1) := by decide +kernel
theorem dX3_compose_66 : decode cX3_compose 66 = .ok (.if_icmp .ge 22, 3) := by decide +kernel
theorem dX3_compose_69 : decode cX3_compose 69 = .ok (.aload_n 0, 1) := by decide +kernel
theorem dX3_compose_70 : decode cX3_compose 70 = .ok (.getfield 19, 3) := by decide +kernel
theorem dX3_compose_73 : decode cX3_compose 73 = .ok (.iload 4, 2) := by decide +kernel
theorem dX3_compose_75 : decode cX3_compose 75 = .ok (.iconst 1, 1) := by decide +kernel
theorem dX3_compose_76 : decode cX3_compose 76 = .ok (.iadd, 1) := by decide +kernel
theorem dX3_compose_77 : decode cX3_compose 77 = .ok (.iaload, 1) := by decide +kernel
theorem dX3_compose_78 : decode cX3_compose 78 = .ok (.invokestatic 52, 3) := by decide +kernel
theorem dX3_compose_81 : decode cX3_compose 81 = .ok (.ifCond .eq 7, 3) := by decide +kernel
theorem dX3_compose_84 : decode cX3_compose 84 = .ok (.iconst 1, 1) := by decide +kernel
theorem dX3_compose_85 : decode cX3_compose 85 = .ok (.goto 4, 3) := by decide +kernel
theorem dX3_compose_88 : decode cX3_compose 88 = .ok (.iconst 0, 1) := by decide +kernel
theorem dX3_compose_89 : decode cX3_compose 89 = .ok (.istore 5, 2) := by decide +kernel
theorem dX3_compose_91 : decode cX3_compose 91 = .ok (.aload_n 0, 1) := by decide +kernel
theorem dX3_compose_92 : decode cX3_compose 92 = .ok (.getfield 19, 3) := by decide +kernel
theorem dX3_compose_95 : decode cX3_compose 95 = .ok (.iload_n 3, 1) := by decide +kernel
theorem dX3_compose_96 : decode cX3_compose 96 = .ok (.iload 5, 2) := by decide +kernel
theorem dX3_compose_98 : decode cX3_compose 98 = .ok (.ifCond .eq 36, 3) := by decide +kernel
theorem dX3_compose_101 : decode cX3_compose 101 = .ok (.ldc 46, 2) := by decide +kernel
theorem dX3_compose_103 : decode cX3_compose 103 = .ok (.bipush 64, 2) := by decide +kernel
theorem dX3_compose_105 : decode cX3_compose 105 = .ok (.aload_n 0, 1) := by decide +kernel
theorem dX3_compose_106 : decode cX3_compose 106 = .ok (.getfield 19, 3) := by decide +kernel
theorem dX3_compose_109 : decode cX3_compose 109 = .ok (.iload 4, 2) := by decide +kernel
theorem dX3_compose_111 : decode cX3_compose 111 = .ok (.iconst 1, 1) := by decide +kernel
theorem dX3_compose_112 : decode cX3_compose 112 = .ok (.iadd, 1) := by decide +kernel
theorem dX3_compose_113 : decode cX3_compose 113 = .ok (.iaload, 1) := by decide +kernel
theorem dX3_compose_114 : decode cX3_compose 114 = .ok (.sipush 768, 3) := by decide +kernel
theorem dX3_compose_117 : decode cX3_compose 117 = .ok (.isub, 1) := by decide +kernel
theorem dX3_compose_118 : decode cX3_compose 118 = .ok (.imul, 1) := by decide +kernel
theorem dX3_compose_119 : decode cX3_compose 119 = .ok (.iadd, 1) := by decide +kernel
theorem dX3_compose_120 : decode cX3_compose 120 = .ok (.aload_n 0, 1) := by decide +kernel
theorem dX3_compose_121 : decode cX3_compose 121 = .ok (.getfield 19, 3) := by decide +kernel
theorem dX3_compose_124 : decode cX3_compose 124 = .ok (.iload 4, 2) := by decide +kernel
theorem dX3_compose_126 : decode cX3_compose 126 = .ok (.iaload, 1) := by decide +kernel
theorem dX3_compose_127 : decode cX3_compose 127 = .ok (.iadd, 1) := by decide +kernel
theorem dX3_compose_128 : decode cX3_compose 128 = .ok (.bipush 64, 2) := by decide +kernel
theorem dX3_compose_130 : decode cX3_compose 130 = .ok (.isub, 1) := by decide +kernel
theorem dX3_compose_131 : decode cX3_compose 131 = .ok (.goto 10, 3) := by decide +kernel
theorem dX3_compose_134 : decode cX3_compose 134 = .ok (.aload_n 0, 1) := by decide +kernel
theorem dX3_compose_135 : decode cX3_compose 135 = .ok (.getfield 19, 3) := by decide +kernel
theorem dX3_compose_138 : decode cX3_compose 138 = .ok (.iload 4, 2) := by decide +kernel
theorem dX3_compose_140 : decode cX3_compose 140 = .ok (.iaload, 1) := by decide +kernel
theorem dX3_compose_141 : decode cX3_compose 141 = .ok (.iastore, 1) := by decide +kernel
theorem dX3_compose_142 : decode cX3_compose 142 = .ok (.iinc 3 1, 3) := by decide +kernel
theorem dX3_compose_145 : decode cX3_compose 145 = .ok (.iload 4, 2) := by decide +kernel
theorem dX3_compose_147 : decode cX3_compose 147 = .ok (.iload 5, 2) := by decide +kernel
theorem dX3_compose_149 : decode cX3_compose 149 = .ok (.ifCond .eq 7, 3) := by decide +kernel
theorem dX3_compose_152 : decode cX3_compose 152 = .ok (.iconst 2, 1) := by decide +kernel
theorem dX3_compose_153 : decode cX3_compose 153 = .ok (.goto 4, 3) := by decide +kernel
theorem dX3_compose_156 : decode cX3_compose 156 = .ok (.iconst 1, 1) := by decide +kernel
theorem dX3_compose_157 : decode cX3_compose 157 = .ok (.iadd, 1) := by decide +kernel
theorem dX3_compose_158 : decode cX3_compose 158 = .ok (.istore 4, 2) := by decide +kernel
theorem dX3_compose_160 : decode cX3_compose 160 = .ok (.goto (-118), 3) := by decide +kernel
theorem dX3_compose_163 : decode cX3_compose 163 = .ok (.iload_n 3, 1) := by decide +kernel
theorem dX3_compose_164 : decode cX3_compose 164 = .ok (.istore_n 2, 1) := by decide +kernel
theorem dX3_compose_165 : decode cX3_compose 165 = .ok (.iload_n 2, 1) := by decide +kernel
theorem dX3_compose_166 : decode cX3_compose 166 = .ok (.bipush 100, 2) := by decide +kernel
theorem dX3_compose_168 : decode cX3_compose 168 = .ok (.if_icmp .le 5, 3) := by decide +kernel
theorem dX3_compose_171 : decode cX3_compose 171 = .ok (.iconst (-1), 1) := by decide +kernel
theorem dX3_compose_172 : decode cX3_compose 172 = .ok (.ireturn, 1) := by decide +kernel
theorem dX3_compose_173 : decode cX3_compose 173 = .ok (.iconst 0, 1) := by decide +kernel
theorem dX3_compose_174 : decode cX3_compose 174 = .ok (.istore_n 3, 1) := by decide +kernel
theorem dX3_compose_175 : decode cX3_compose 175 = .ok (.iload_n 3, 1) := by decide +kernel
theorem dX3_compose_176 : decode cX3_compose 176 = .ok (.iload_n 2, 1) := by decide +kernel
theorem dX3_compose_177 : decode cX3_compose 177 = .ok (.if_icmp .ge 21, 3) := by decide +kernel
theorem dX3_compose_180 : decode cX3_compose 180 = .ok (.aload_n 0, 1) := by decide +kernel
theorem dX3_compose_181 : decode cX3_compose 181 = .ok (.getfield 13, 3) := by decide +kernel
theorem dX3_compose_184 : decode cX3_compose 184 = .ok (.iload_n 3, 1) := by decide +kernel
theorem dX3_compose_185 : decode cX3_compose 185 = .ok (.aload_n 0, 1) := by decide +kernel
theorem dX3_compose_186 : decode cX3_compose 186 = .ok (.getfield 19, 3) := by decide +kernel
theorem dX3_compose_189 : decode cX3_compose 189 = .ok (.iload_n 3, 1) := by decide +kernel
theorem dX3_compose_190 : decode cX3_compose 190 = .ok (.iaload, 1) := by decide +kernel
theorem dX3_compose_191 : decode cX3_compose 191 = .ok (.iastore, 1) := by decide +kernel
theorem dX3_compose_192 : decode cX3_compose 192 = .ok (.iinc 3 1, 3) := by decide +kernel
theorem dX3_compose_195 : decode cX3_compose 195 = .ok (.goto (-20), 3) := by decide +kernel
theorem dX3_compose_198 : decode cX3_compose 198 = .ok (.aload_n 0, 1) := by decide +kernel
theorem dX3_compose_199 : decode cX3_compose 199 = .ok (.iload_n 2, 1) := by decide +kernel
theorem dX3_compose_200 : decode cX3_compose 200 = .ok (.putfield 85, 3) := by decide +kernel
theorem dX3_compose_203 : decode cX3_compose 203 = .ok (.iload_n 2, 1) := by decide +kernel
theorem dX3_compose_204 : decode cX3_compose 204 = .ok (.ireturn, 1) := by decide +kernel
set_option maxRecDepth 20000 in
theorem ggX3_same_X3_apart : GoodIn wsX3_same wsX3_apart := goodIn_r _ [11, 12, 13, 10, 14, 15, 16, 17, 18, 19, 20, 21, 22, 23, 24, 25, 26, 27, 28, 29, 30, 31] (by decide +kernel) (by decide +kernel)
set_option maxRecDepth 20000 in
theorem gX3_same_X3_apart : GoodIn wsX3_same (va_wsS RX3 116 yX3_apart wsX3_apart) := goodIn_app (goodIn_of _ (by decide +kernel)) ggX3_same_X3_apart
theorem dX3_same_0 : decode cX3_same 0 = .ok (.aload_n 0, 1) := by decide +kernel
theorem dX3_same_1 : decode cX3_same 1 = .ok (.iconst 0, 1) := by decide +kernel
theorem dX3_same_2 : decode cX3_same 2 = .ok (.putfield 36, 3) := by decide +kernel
theorem dX3_same_5 : decode cX3_same 5 = .ok (.iload_n 1, 1) := by decide +kernel
theorem dX3_same_6 : decode cX3_same 6 = .ok (.ifCond .lt 8, 3) := by decide +kernel
theorem dX3_same_9 : decode cX3_same 9 = .ok (.iload_n 1, 1) := by decide +kernel
theorem dX3_same_10 : decode cX3_same 10 = .ok (.iconst 1, 1) := by decide +kernel
theorem dX3_same_11 : decode cX3_same 11 = .ok (.if_icmp .le 5, 3) := by decide +kernel
theorem dX3_same_14 : decode cX3_same 14 = .ok (.iconst 0, 1) := by decide +kernel
theorem dX3_same_15 : decode cX3_same 15 = .ok (.ireturn, 1) := by decide +kernel
theorem dX3_same_16 : decode cX3_same 16 = .ok (.aload_n 0, 1) := by decide +kernel
theorem dX3_same_17 : decode cX3_same 17 = .ok (.getfield 13, 3) := by decide +kernel
theorem dX3_same_20 : decode cX3_same 20 = .ok (.aload_n 0, 1) := by decide +kernel
theorem dX3_same_21 : decode cX3_same 21 = .ok (.getfield 85, 3) := by decide +kernel
theorem dX3_same_24 : decode cX3_same 24 = .ok (.aload_n 0, 1) := by decide +kernel
theorem dX3_same_25 : decode cX3_same 25 = .ok (.getfield 19, 3) := by decide +kernel
theorem dX3_same_28 : decode cX3_same 28 = .ok (.invokestatic 116, 3) := by decide +kernel
theorem dX3_same_31 : decode cX3_same 31 = .ok (.istore_n 2, 1) := by decide +kernel
theorem dX3_same_32 : decode cX3_same 32 = .ok (.iload_n 1, 1) := by decide +kernel
theorem dX3_same_33 : decode cX3_same 33 = .ok (.ifCond .ne 21, 3) := by decide +kernel
theorem dX3_same_36 : decode cX3_same 36 = .ok (.aload_n 0, 1) := by decide +kernel
theorem dX3_same_37 : decode cX3_same 37 = .ok (.getfield 13, 3) := by decide +kernel
theorem dX3_same_40 : decode cX3_same 40 = .ok (.aload_n 0, 1) := by decide +kernel
theorem dX3_same_41 : decode cX3_same 41 = .ok (.getfield 85, 3) := by decide +kernel
theorem dX3_same_44 : decode cX3_same 44 = .ok (.aload_n 0, 1) := by decide +kernel
theorem dX3_same_45 : decode cX3_same 45 = .ok (.getfield 22, 3) := by decide +kernel
theorem dX3_same_48 : decode cX3_same 48 = .ok (.invokestatic 116, 3) := by decide +kernel
theorem dX3_same_51 : decode cX3_same 51 = .ok (.goto 18, 3) := by decide +kernel
theorem dX3_same_54 : decode cX3_same 54 = .ok (.aload_n 0, 1) := by decide +kernel
theorem dX3_same_55 : decode cX3_same 55 = .ok (.getfield 16, 3) := by decide +kernel
theorem dX3_same_58 : decode cX3_same 58 = .ok (.aload_n 0, 1) := by decide +kernel
theorem dX3_same_59 : decode cX3_same 59 = .ok (.getfield 88, 3) := by decide +kernel
theorem dX3_same_62 : decode cX3_same 62 = .ok (.aload_n 0, 1) := by decide +kernel
theorem dX3_same_63 : decode cX3_same 63 = .ok (.getfield 22, 3) := by decide +kernel
theorem dX3_same_66 : decode cX3_same 66 = .ok (.invokestatic 116, 3) := by decide +kernel
theorem dX3_same_69 : decode cX3_same 69 = .ok (.istore_n 3, 1) := by decide +kernel
theorem dX3_same_70 : decode cX3_same 70 = .ok (.iload_n 2, 1) := by decide +kernel
theorem dX3_same_71 : decode cX3_same 71 = .ok (.iload_n 3, 1) := by decide +kernel
theorem dX3_same_72 : decode cX3_same 72 = .ok (.if_icmp .ne 7, 3) := by decide +kernel
theorem dX3_same_75 : decode cX3_same 75 = .ok (.iconst 1, 1) := by decide +kernel
theorem dX3_same_76 : decode cX3_same 76 = .ok (.goto 4, 3) := by decide +kernel
theorem dX3_same_79 : decode cX3_same 79 = .ok (.iconst 0, 1) := by decide +kernel
theorem dX3_same_80 : decode cX3_same 80 = .ok (.istore 4, 2) := by decide +kernel
theorem dX3_same_82 : decode cX3_same 82 = .ok (.iconst 0, 1) := by decide +kernel
theorem dX3_same_83 : decode cX3_same 83 = .ok (.istore 5, 2) := by decide +kernel
theorem dX3_same_85 : decode cX3_same 85 = .ok (.iload 5, 2) := by decide +kernel
theorem dX3_same_87 : decode cX3_same 87 = .ok (.iload_n 2, 1) := by decide +kernel
theorem dX3_same_88 : decode cX3_same 88 = .ok (.if_icmp .ge 38, 3) := by decide +kernel
theorem dX3_same_91 : decode cX3_same 91 = .ok (.iload 4, 2) := by decide +kernel
theorem dX3_same_93 : decode cX3_same 93 = .ok (.ifCond .eq 33, 3) := by decide +kernel
theorem dX3_same_96 : decode cX3_same 96 = .ok (.aload_n 0, 1) := by decide +kernel
theorem dX3_same_97 : decode cX3_same 97 = .ok (.getfield 19, 3) := by decide +kernel
theorem dX3_same_100 : decode cX3_same 100 = .ok (.iload 5, 2) := by decide +kernel
theorem dX3_same_102 : decode cX3_same 102 = .ok (.iaload, 1) := by decide +kernel
theorem dX3_same_103 : decode cX3_same 103 = .ok (.aload_n 0, 1) := by decide +kernel
theorem dX3_same_104 : decode cX3_same 104 = .ok (.getfield 22, 3) := by decide +kernel
theorem dX3_same_107 : decode cX3_same 107 = .ok (.iload 5, 2) := by decide +kernel
theorem dX3_same_109 : decode cX3_same 109 = .ok (.iaload, 1) := by decide +kernel
theorem dX3_same_110 : decode cX3_same 110 = .ok (.if_icmp .ne 7, 3) := by decide +kernel
theorem dX3_same_113 : decode cX3_same 113 = .ok (.iconst 1, 1) := by decide +kernel
theorem dX3_same_114 : decode cX3_same 114 = .ok (.goto 4, 3) := by decide +kernel
theorem dX3_same_117 : decode cX3_same 117 = .ok (.iconst 0, 1) := by decide +kernel
theorem dX3_same_118 : decode cX3_same 118 = .ok (.istore 4, 2) := by decide +kernel
theorem dX3_same_120 : decode cX3_same 120 = .ok (.iinc 5 1, 3) := by decide +kernel
theorem dX3_same_123 : decode cX3_same 123 = .ok (.goto (-38), 3) := by decide +kernel
theorem dX3_same_126 : decode cX3_same 126 = .ok (.iload 4, 2) := by decide +kernel
theorem dX3_same_128 : decode cX3_same 128 = .ok (.ireturn, 1) := by decide +kernel
set_option maxRecDepth 20000 in
theorem ggX3_base_X3_isMark : GoodIn wsX3_base wsX3_isMark := goodIn_r _ [6] (by decide +kernel) (by decide +kernel)
set_option maxRecDepth 20000 in
theorem gX3_base_X3_isMark : GoodIn wsX3_base (va_wsS RX3 52 yX3_isMark wsX3_isMark) := goodIn_app (goodIn_of _ (by decide +kernel)) ggX3_base_X3_isMark
theorem dX3_base_0 : decode cX3_base 0 = .ok (.iconst 0, 1) := by decide +kernel
theorem dX3_base_1 : decode cX3_base 1 = .ok (.istore_n 2, 1) := by decide +kernel
theorem dX3_base_2 : decode cX3_base 2 = .ok (.iconst 0, 1) := by decide +kernel
theorem dX3_base_3 : decode cX3_base 3 = .ok (.istore_n 3, 1) := by decide +kernel
theorem dX3_base_4 : decode cX3_base 4 = .ok (.iload_n 3, 1) := by decide +kernel
theorem dX3_base_5 : decode cX3_base 5 = .ok (.aload_n 0, 1) := by decide +kernel
theorem dX3_base_6 : decode cX3_base 6 = .ok (.getfield 85, 3) := by decide +kernel
theorem dX3_base_9 : decode cX3_base 9 = .ok (.if_icmp .ge 31, 3) := by decide +kernel
theorem dX3_base_12 : decode cX3_base 12 = .ok (.aload_n 0, 1) := by decide +kernel
theorem dX3_base_13 : decode cX3_base 13 = .ok (.getfield 13, 3) := by decide +kernel
theorem dX3_base_16 : decode cX3_base 16 = .ok (.iload_n 3, 1) := by decide +kernel
theorem dX3_base_17 : decode cX3_base 17 = .ok (.iaload, 1) := by decide +kernel
theorem dX3_base_18 : decode cX3_base 18 = .ok (.invokestatic 52, 3) := by decide +kernel
theorem dX3_base_21 : decode cX3_base 21 = .ok (.ifCond .ne 13, 3) := by decide +kernel
theorem dX3_base_24 : decode cX3_base 24 = .ok (.iload_n 2, 1) := by decide +kernel
theorem dX3_base_25 : decode cX3_base 25 = .ok (.iload_n 1, 1) := by decide +kernel
theorem dX3_base_26 : decode cX3_base 26 = .ok (.if_icmp .ne 5, 3) := by decide +kernel
theorem dX3_base_29 : decode cX3_base 29 = .ok (.iload_n 3, 1) := by decide +kernel
theorem dX3_base_30 : decode cX3_base 30 = .ok (.ireturn, 1) := by decide +kernel
theorem dX3_base_31 : decode cX3_base 31 = .ok (.iinc 2 1, 3) := by decide +kernel
theorem dX3_base_34 : decode cX3_base 34 = .ok (.iinc 3 1, 3) := by decide +kernel
theorem dX3_base_37 : decode cX3_base 37 = .ok (.goto (-33), 3) := by decide +kernel
theorem dX3_base_40 : decode cX3_base 40 = .ok (.iconst (-1), 1) := by decide +kernel
theorem dX3_base_41 : decode cX3_base 41 = .ok (.ireturn, 1) := by decide +kernel
set_option maxRecDepth 20000 in
theorem ggX3_nonfiling_X3_base : GoodIn wsX3_nonfiling wsX3_base := goodIn_r _ [7, 8, 2, 9, 10, 6, 11, 23, 24, 25, 26, 27, 28, 29, 30, 31, 32, 33, 34, 35, 36, 37] (by decide +kernel) (by decide +kernel)
set_option maxRecDepth 20000 in
theorem gX3_nonfiling_X3_base : GoodIn wsX3_nonfiling (wsV RX3 120 RX3 yX3_base wsX3_base) := goodIn_app (goodIn_of _ (by decide +kernel)) ggX3_nonfiling_X3_base
set_option maxRecDepth 20000 in
theorem ggX3_nonfiling_X3_isComposed : GoodIn wsX3_nonfiling wsX3_isComposed := goodIn_r _ [14, 15, 16, 17, 18, 6, 19] (by decide +kernel) (by decide +kernel)
set_option maxRecDepth 20000 in
theorem gX3_nonfiling_X3_isComposed : GoodIn wsX3_nonfiling (va_wsS RX3 71 yX3_isComposed wsX3_isComposed) := goodIn_app (goodIn_of _ (by decide +kernel)) ggX3_nonfiling_X3_isComposed
set_option maxRecDepth 20000 in
theorem ggX3_nonfiling_X3_letterOf : GoodIn wsX3_nonfiling wsX3_letterOf := goodIn_r _ [22, 15] (by decide +kernel) (by decide +kernel)
set_option maxRecDepth 20000 in
theorem gX3_nonfiling_X3_letterOf : GoodIn wsX3_nonfiling (va_wsS RX3 110 yX3_letterOf wsX3_letterOf) := goodIn_app (goodIn_of _ (by decide +kernel)) ggX3_nonfiling_X3_letterOf
theorem dX3_nonfiling_0 : decode cX3_nonfiling 0 = .ok (.aload_n 0, 1) := by decide +kernel
theorem dX3_nonfiling_1 : decode cX3_nonfiling 1 = .ok (.iconst 0, 1) := by decide +kernel
theorem dX3_nonfiling_2 : decode cX3_nonfiling 2 = .ok (.putfield 36, 3) := by decide +kernel
theorem dX3_nonfiling_5 : decode cX3_nonfiling 5 = .ok (.iload_n 1, 1) := by decide +kernel
theorem dX3_nonfiling_6 : decode cX3_nonfiling 6 = .ok (.ifCond .lt 22, 3) := by decide +kernel
theorem dX3_nonfiling_9 : decode cX3_nonfiling 9 = .ok (.iload_n 2, 1) := by decide +kernel
theorem dX3_nonfiling_10 : decode cX3_nonfiling 10 = .ok (.ifCond .lt 18, 3) := by decide +kernel
theorem dX3_nonfiling_13 : decode cX3_nonfiling 13 = .ok (.iload_n 1, 1) := by decide +kernel
theorem dX3_nonfiling_14 : decode cX3_nonfiling 14 = .ok (.ifCond .le 16, 3) := by decide +kernel
theorem dX3_nonfiling_17 : decode cX3_nonfiling 17 = .ok (.aload_n 0, 1) := by decide +kernel
theorem dX3_nonfiling_18 : decode cX3_nonfiling 18 = .ok (.iload_n 1, 1) := by decide +kernel
theorem dX3_nonfiling_19 : decode cX3_nonfiling 19 = .ok (.iconst 1, 1) := by decide +kernel
theorem dX3_nonfiling_20 : decode cX3_nonfiling 20 = .ok (.isub, 1) := by decide +kernel
theorem dX3_nonfiling_21 : decode cX3_nonfiling 21 = .ok (.invokevirtual 120, 3) := by decide +kernel
theorem dX3_nonfiling_24 : decode cX3_nonfiling 24 = .ok (.iconst (-1), 1) := by decide +kernel
theorem dX3_nonfiling_25 : decode cX3_nonfiling 25 = .ok (.if_icmp .ne 5, 3) := by decide +kernel
theorem dX3_nonfiling_28 : decode cX3_nonfiling 28 = .ok (.iconst (-1), 1) := by decide +kernel
theorem dX3_nonfiling_29 : decode cX3_nonfiling 29 = .ok (.ireturn, 1) := by decide +kernel
theorem dX3_nonfiling_30 : decode cX3_nonfiling 30 = .ok (.iload_n 1, 1) := by decide +kernel
theorem dX3_nonfiling_31 : decode cX3_nonfiling 31 = .ok (.bipush 100, 2) := by decide +kernel
theorem dX3_nonfiling_33 : decode cX3_nonfiling 33 = .ok (.if_icmp .gt 9, 3) := by decide +kernel
theorem dX3_nonfiling_36 : decode cX3_nonfiling 36 = .ok (.iload_n 2, 1) := by decide +kernel
theorem dX3_nonfiling_37 : decode cX3_nonfiling 37 = .ok (.bipush 100, 2) := by decide +kernel
theorem dX3_nonfiling_39 : decode cX3_nonfiling 39 = .ok (.if_icmp .le 7, 3) := by decide +kernel
theorem dX3_nonfiling_42 : decode cX3_nonfiling 42 = .ok (.iconst (-1), 1) := by decide +kernel
theorem dX3_nonfiling_43 : decode cX3_nonfiling 43 = .ok (.goto 10, 3) := by decide +kernel
theorem dX3_nonfiling_46 : decode cX3_nonfiling 46 = .ok (.aload_n 0, 1) := by decide +kernel
theorem dX3_nonfiling_47 : decode cX3_nonfiling 47 = .ok (.iload_n 1, 1) := by decide +kernel
theorem dX3_nonfiling_48 : decode cX3_nonfiling 48 = .ok (.iload_n 2, 1) := by decide +kernel
theorem dX3_nonfiling_49 : decode cX3_nonfiling 49 = .ok (.iadd, 1) := by decide +kernel
theorem dX3_nonfiling_50 : decode cX3_nonfiling 50 = .ok (.invokevirtual 120, 3) := by decide +kernel
theorem dX3_nonfiling_53 : decode cX3_nonfiling 53 = .ok (.istore_n 3, 1) := by decide +kernel
theorem dX3_nonfiling_54 : decode cX3_nonfiling 54 = .ok (.iload_n 3, 1) := by decide +kernel
theorem dX3_nonfiling_55 : decode cX3_nonfiling 55 = .ok (.iconst (-1), 1) := by decide +kernel
theorem dX3_nonfiling_56 : decode cX3_nonfiling 56 = .ok (.if_icmp .ne 5, 3) := by decide +kernel
theorem dX3_nonfiling_59 : decode cX3_nonfiling 59 = .ok (.iconst 0, 1) := by decide +kernel
theorem dX3_nonfiling_60 : decode cX3_nonfiling 60 = .ok (.ireturn, 1) := by decide +kernel
theorem dX3_nonfiling_61 : decode cX3_nonfiling 61 = .ok (.aload_n 0, 1) := by decide +kernel
theorem dX3_nonfiling_62 : decode cX3_nonfiling 62 = .ok (.getfield 13, 3) := by decide +kernel
theorem dX3_nonfiling_65 : decode cX3_nonfiling 65 = .ok (.iload_n 3, 1) := by decide +kernel
theorem dX3_nonfiling_66 : decode cX3_nonfiling 66 = .ok (.iaload, 1) := by decide +kernel
theorem dX3_nonfiling_67 : decode cX3_nonfiling 67 = .ok (.invokestatic 71, 3) := by decide +kernel
theorem dX3_nonfiling_70 : decode cX3_nonfiling 70 = .ok (.ifCond .eq 15, 3) := by decide +kernel
theorem dX3_nonfiling_73 : decode cX3_nonfiling 73 = .ok (.aload_n 0, 1) := by decide +kernel
theorem dX3_nonfiling_74 : decode cX3_nonfiling 74 = .ok (.getfield 13, 3) := by decide +kernel
theorem dX3_nonfiling_77 : decode cX3_nonfiling 77 = .ok (.iload_n 3, 1) := by decide +kernel
theorem dX3_nonfiling_78 : decode cX3_nonfiling 78 = .ok (.iaload, 1) := by decide +kernel
theorem dX3_nonfiling_79 : decode cX3_nonfiling 79 = .ok (.invokestatic 110, 3) := by decide +kernel
theorem dX3_nonfiling_82 : decode cX3_nonfiling 82 = .ok (.goto 9, 3) := by decide +kernel
theorem dX3_nonfiling_85 : decode cX3_nonfiling 85 = .ok (.aload_n 0, 1) := by decide +kernel
theorem dX3_nonfiling_86 : decode cX3_nonfiling 86 = .ok (.getfield 13, 3) := by decide +kernel
theorem dX3_nonfiling_89 : decode cX3_nonfiling 89 = .ok (.iload_n 3, 1) := by decide +kernel
theorem dX3_nonfiling_90 : decode cX3_nonfiling 90 = .ok (.iaload, 1) := by decide +kernel
theorem dX3_nonfiling_91 : decode cX3_nonfiling 91 = .ok (.istore 4, 2) := by decide +kernel
theorem dX3_nonfiling_93 : decode cX3_nonfiling 93 = .ok (.iload 4, 2) := by decide +kernel
theorem dX3_nonfiling_95 : decode cX3_nonfiling 95 = .ok (.bipush 65, 2) := by decide +kernel
theorem dX3_nonfiling_97 : decode cX3_nonfiling 97 = .ok (.if_icmp .lt 18, 3) := by decide +kernel
theorem dX3_nonfiling_100 : decode cX3_nonfiling 100 = .ok (.iload 4, 2) := by decide +kernel
theorem dX3_nonfiling_102 : decode cX3_nonfiling 102 = .ok (.bipush 90, 2) := by decide +kernel
theorem dX3_nonfiling_104 : decode cX3_nonfiling 104 = .ok (.if_icmp .gt 11, 3) := by decide +kernel
theorem dX3_nonfiling_107 : decode cX3_nonfiling 107 = .ok (.iload 4, 2) := by decide +kernel
theorem dX3_nonfiling_109 : decode cX3_nonfiling 109 = .ok (.bipush 32, 2) := by decide +kernel
theorem dX3_nonfiling_111 : decode cX3_nonfiling 111 = .ok (.iadd, 1) := by decide +kernel
theorem dX3_nonfiling_112 : decode cX3_nonfiling 112 = .ok (.goto 5, 3) := by decide +kernel
theorem dX3_nonfiling_115 : decode cX3_nonfiling 115 = .ok (.iload 4, 2) := by decide +kernel
theorem dX3_nonfiling_117 : decode cX3_nonfiling 117 = .ok (.ireturn, 1) := by decide +kernel
set_option maxRecDepth 20000 in
theorem ggX3_mark_X3_base : GoodIn wsX3_mark wsX3_base := goodIn_r _ [8, 3, 2, 9, 10, 7, 11, 20, 21, 22, 23, 24, 25, 26, 27, 28, 29, 30, 31, 32, 33, 34] (by decide +kernel) (by decide +kernel)
set_option maxRecDepth 20000 in
theorem gX3_mark_X3_base : GoodIn wsX3_mark (wsV RX3 120 RX3 yX3_base wsX3_base) := goodIn_app (goodIn_of _ (by decide +kernel)) ggX3_mark_X3_base
set_option maxRecDepth 20000 in
theorem ggX3_mark_X3_isComposed : GoodIn wsX3_mark wsX3_isComposed := goodIn_r _ [14, 15, 16, 17, 18, 7, 19] (by decide +kernel) (by decide +kernel)
set_option maxRecDepth 20000 in
theorem gX3_mark_X3_isComposed : GoodIn wsX3_mark (va_wsS RX3 71 yX3_isComposed wsX3_isComposed) := goodIn_app (goodIn_of _ (by decide +kernel)) ggX3_mark_X3_isComposed
set_option maxRecDepth 20000 in
theorem ggX3_mark_X3_isMark : GoodIn wsX3_mark wsX3_isMark := goodIn_r _ [11] (by decide +kernel) (by decide +kernel)
set_option maxRecDepth 20000 in
theorem gX3_mark_X3_isMark : GoodIn wsX3_mark (va_wsS RX3 52 yX3_isMark wsX3_isMark) := goodIn_app (goodIn_of _ (by decide +kernel)) ggX3_mark_X3_isMark
theorem dX3_mark_0 : decode cX3_mark 0 = .ok (.aload_n 0, 1) := by decide +kernel
theorem dX3_mark_1 : decode cX3_mark 1 = .ok (.iconst 0, 1) := by decide +kernel
theorem dX3_mark_2 : decode cX3_mark 2 = .ok (.putfield 36, 3) := by decide +kernel
theorem dX3_mark_5 : decode cX3_mark 5 = .ok (.iload_n 1, 1) := by decide +kernel
theorem dX3_mark_6 : decode cX3_mark 6 = .ok (.ifCond .ge 7, 3) := by decide +kernel
theorem dX3_mark_9 : decode cX3_mark 9 = .ok (.iconst (-1), 1) := by decide +kernel
theorem dX3_mark_10 : decode cX3_mark 10 = .ok (.goto 8, 3) := by decide +kernel
theorem dX3_mark_13 : decode cX3_mark 13 = .ok (.aload_n 0, 1) := by decide +kernel
theorem dX3_mark_14 : decode cX3_mark 14 = .ok (.iload_n 1, 1) := by decide +kernel
theorem dX3_mark_15 : decode cX3_mark 15 = .ok (.invokevirtual 120, 3) := by decide +kernel
theorem dX3_mark_18 : decode cX3_mark 18 = .ok (.istore_n 2, 1) := by decide +kernel
theorem dX3_mark_19 : decode cX3_mark 19 = .ok (.iload_n 2, 1) := by decide +kernel
theorem dX3_mark_20 : decode cX3_mark 20 = .ok (.iconst (-1), 1) := by decide +kernel
theorem dX3_mark_21 : decode cX3_mark 21 = .ok (.if_icmp .ne 5, 3) := by decide +kernel
theorem dX3_mark_24 : decode cX3_mark 24 = .ok (.iconst (-1), 1) := by decide +kernel
theorem dX3_mark_25 : decode cX3_mark 25 = .ok (.ireturn, 1) := by decide +kernel
theorem dX3_mark_26 : decode cX3_mark 26 = .ok (.aload_n 0, 1) := by decide +kernel
theorem dX3_mark_27 : decode cX3_mark 27 = .ok (.getfield 13, 3) := by decide +kernel
theorem dX3_mark_30 : decode cX3_mark 30 = .ok (.iload_n 2, 1) := by decide +kernel
theorem dX3_mark_31 : decode cX3_mark 31 = .ok (.iaload, 1) := by decide +kernel
theorem dX3_mark_32 : decode cX3_mark 32 = .ok (.invokestatic 71, 3) := by decide +kernel
theorem dX3_mark_35 : decode cX3_mark 35 = .ok (.ifCond .eq 7, 3) := by decide +kernel
theorem dX3_mark_38 : decode cX3_mark 38 = .ok (.iconst 1, 1) := by decide +kernel
theorem dX3_mark_39 : decode cX3_mark 39 = .ok (.goto 4, 3) := by decide +kernel
theorem dX3_mark_42 : decode cX3_mark 42 = .ok (.iconst 0, 1) := by decide +kernel
theorem dX3_mark_43 : decode cX3_mark 43 = .ok (.istore_n 3, 1) := by decide +kernel
theorem dX3_mark_44 : decode cX3_mark 44 = .ok (.iload_n 2, 1) := by decide +kernel
theorem dX3_mark_45 : decode cX3_mark 45 = .ok (.iconst 1, 1) := by decide +kernel
theorem dX3_mark_46 : decode cX3_mark 46 = .ok (.iadd, 1) := by decide +kernel
theorem dX3_mark_47 : decode cX3_mark 47 = .ok (.istore 4, 2) := by decide +kernel
theorem dX3_mark_49 : decode cX3_mark 49 = .ok (.iload 4, 2) := by decide +kernel
theorem dX3_mark_51 : decode cX3_mark 51 = .ok (.aload_n 0, 1) := by decide +kernel
theorem dX3_mark_52 : decode cX3_mark 52 = .ok (.getfield 85, 3) := by decide +kernel
theorem dX3_mark_55 : decode cX3_mark 55 = .ok (.if_icmp .ge 25, 3) := by decide +kernel
theorem dX3_mark_58 : decode cX3_mark 58 = .ok (.aload_n 0, 1) := by decide +kernel
theorem dX3_mark_59 : decode cX3_mark 59 = .ok (.getfield 13, 3) := by decide +kernel
theorem dX3_mark_62 : decode cX3_mark 62 = .ok (.iload 4, 2) := by decide +kernel
theorem dX3_mark_64 : decode cX3_mark 64 = .ok (.iaload, 1) := by decide +kernel
theorem dX3_mark_65 : decode cX3_mark 65 = .ok (.invokestatic 52, 3) := by decide +kernel
theorem dX3_mark_68 : decode cX3_mark 68 = .ok (.ifCond .eq 12, 3) := by decide +kernel
theorem dX3_mark_71 : decode cX3_mark 71 = .ok (.iinc 3 1, 3) := by decide +kernel
theorem dX3_mark_74 : decode cX3_mark 74 = .ok (.iinc 4 1, 3) := by decide +kernel
theorem dX3_mark_77 : decode cX3_mark 77 = .ok (.goto (-28), 3) := by decide +kernel
theorem dX3_mark_80 : decode cX3_mark 80 = .ok (.iload_n 3, 1) := by decide +kernel
theorem dX3_mark_81 : decode cX3_mark 81 = .ok (.ireturn, 1) := by decide +kernel
set_option maxRecDepth 20000 in
theorem ggX3_row_X3_placed : GoodIn wsX3_row wsX3_placed := goodIn_r _ [5] (by decide +kernel) (by decide +kernel)
set_option maxRecDepth 20000 in
theorem gX3_row_X3_placed : GoodIn wsX3_row (va_wsS RX3 42 yX3_placed wsX3_placed) := goodIn_app (goodIn_of _ (by decide +kernel)) ggX3_row_X3_placed
theorem dX3_row_0 : decode cX3_row 0 = .ok (.aload_n 0, 1) := by decide +kernel
theorem dX3_row_1 : decode cX3_row 1 = .ok (.iconst 0, 1) := by decide +kernel
theorem dX3_row_2 : decode cX3_row 2 = .ok (.putfield 36, 3) := by decide +kernel
theorem dX3_row_5 : decode cX3_row 5 = .ok (.iload_n 1, 1) := by decide +kernel
theorem dX3_row_6 : decode cX3_row 6 = .ok (.ifCond .lt 8, 3) := by decide +kernel
theorem dX3_row_9 : decode cX3_row 9 = .ok (.iload_n 1, 1) := by decide +kernel
theorem dX3_row_10 : decode cX3_row 10 = .ok (.iconst 2, 1) := by decide +kernel
theorem dX3_row_11 : decode cX3_row 11 = .ok (.if_icmp .le 5, 3) := by decide +kernel
theorem dX3_row_14 : decode cX3_row 14 = .ok (.iconst (-1), 1) := by decide +kernel
theorem dX3_row_15 : decode cX3_row 15 = .ok (.ireturn, 1) := by decide +kernel
theorem dX3_row_16 : decode cX3_row 16 = .ok (.iload_n 2, 1) := by decide +kernel
theorem dX3_row_17 : decode cX3_row 17 = .ok (.ifCond .lt 9, 3) := by decide +kernel
theorem dX3_row_20 : decode cX3_row 20 = .ok (.iload_n 2, 1) := by decide +kernel
theorem dX3_row_21 : decode cX3_row 21 = .ok (.bipush 93, 2) := by decide +kernel
theorem dX3_row_23 : decode cX3_row 23 = .ok (.if_icmp .le 10, 3) := by decide +kernel
theorem dX3_row_26 : decode cX3_row 26 = .ok (.aload_n 0, 1) := by decide +kernel
theorem dX3_row_27 : decode cX3_row 27 = .ok (.iconst 1, 1) := by decide +kernel
theorem dX3_row_28 : decode cX3_row 28 = .ok (.putfield 36, 3) := by decide +kernel
theorem dX3_row_31 : decode cX3_row 31 = .ok (.iconst 0, 1) := by decide +kernel
theorem dX3_row_32 : decode cX3_row 32 = .ok (.ireturn, 1) := by decide +kernel
theorem dX3_row_33 : decode cX3_row 33 = .ok (.iload_n 1, 1) := by decide +kernel
theorem dX3_row_34 : decode cX3_row 34 = .ok (.iload_n 2, 1) := by decide +kernel
theorem dX3_row_35 : decode cX3_row 35 = .ok (.invokestatic 42, 3) := by decide +kernel
theorem dX3_row_38 : decode cX3_row 38 = .ok (.ireturn, 1) := by decide +kernel
end
section
/-! my own rows: the nest's words; a method's start, its calls and its end by pictures of the heap -/
def nst_ws : List Cond := [.fieldLinkNest RX2 84 RX1 "length" "I" RX2, .fieldLinkNest RX2 71 RX0 "length" "I" RX2, .methodLinkNest RX0 27 yX2_isMark RX2, .methodLinkNest RX0 34 yX2_rankOf RX2, .methodLinkNest RX0 44 yX2_isComposed RX2, .methodLinkNest RX0 47 yX2_letterOf RX2, .methodLinkNest RX0 50 yX2_markOf RX2, .methodLinkNest RX0 56 yX2_isLetter RX2, .methodLinkNest RX0 59 yX2_composedOf RX2]
def nst (U : State) : Prop := ∀ w ∈ nst_ws, va_Nw w U
theorem nst_at {U : State} (h : nst U) (i : Nat) {w : Cond} (hi : nst_ws[i]? = some w) : va_Nw w U := h w (List.mem_of_getElem? hi)
theorem nst_warm {s U : State} (hW : s.WarmedH U.vm) (h : nst s) : nst U := by
  intro w hw
  have h0 := h w hw
  simp only [nst_ws, List.mem_cons, List.not_mem_nil, or_false] at hw
  rcases hw with rfl | rfl | rfl | rfl | rfl | rfl | rfl | rfl | rfl <;> first | exact va_Nw.warmF hW h0 | exact va_Nw.warmM hW h0
theorem nst_same {u U : State} (hv : u.vm = U.vm) (h : nst u) : nst U := by
  intro w hw
  have h0 := h w hw
  simp only [nst_ws, List.mem_cons, List.not_mem_nil, or_false] at hw
  rcases hw with rfl | rfl | rfl | rfl | rfl | rfl | rfl | rfl | rfl <;> exact va_Nw.same rfl hv h0
/-- a start that only reads, and one that may write -/
def pcR (D : va_G) (ws : va_W) (tys : List (ClassId × FieldType)) (av : List Value) : Array Value → State → Prop := va_Pc av (fun U => va_P D vwCl ws U.heap ∧ va_K D vwCl tys U ∧ nst U)
def pcM (D : va_G) (sz : Nat) (ws : va_W) (tys : List (ClassId × FieldType)) (av : List Value) : Array Value → State → Prop := va_Pc av (fun U => U.heap.size = sz ∧ va_P D vwCl ws U.heap ∧ va_K D vwCl tys U ∧ va_D (fun _ => True) ws ∧ nst U)
def pcS (av : List Value) : Array Value → State → Prop := fun v _ => v = av.toArray
def my_B {S : Type} (D : va_G) (A : Nat → Prop) (w : S → va_W) (u : S) (t : State) : Prop := va_P D vwCl (w u) t.heap ∧ va_D A (w u)
theorem pcR_blind {D : va_G} {ws : va_W} {tys : List (ClassId × FieldType)} {av : List Value} : FrameBlind (pcR D ws tys av) := fun a U g mk q => ⟨q.1, q.2.1, va_K.moved (u := U) (U := U.calling g mk a) (Vm.Alike.refl U.vm) q.2.2.1, nst_same (u := U) (U := U.calling g mk a) rfl q.2.2.2⟩
theorem pcM_blind {D : va_G} {sz : Nat} {ws : va_W} {tys : List (ClassId × FieldType)} {av : List Value} : FrameBlind (pcM D sz ws tys av) := fun a U g mk q => ⟨q.1, q.2.1, q.2.2.1, va_K.moved (u := U) (U := U.calling g mk a) (Vm.Alike.refl U.vm) q.2.2.2.1, q.2.2.2.2.1, nst_same (u := U) (U := U.calling g mk a) rfl q.2.2.2.2.2⟩
section PRE
variable {s : State} {H : Heap} {D : va_G} {ws : va_W} {tys : List (ClassId × FieldType)} {av As : List Value} {A : Nat → Prop}
theorem pcS_S : PreS s H (pcS av) av := ⟨fun _ _ _ _ q => q, fun _ _ _ => rfl⟩
theorem pcR_S (hP : va_P D vwCl ws H) (hK : va_K D vwCl tys s) (hN : nst s) : PreS s H (pcR D ws tys av) av := ⟨pcR_blind, fun U hU hW => ⟨rfl, by rw [hU]; exact hP, va_K.moved hW.alike hK, nst_warm hW hN⟩⟩
theorem pcR_V {C : String} {T : u_T} {N ci b : Nat} {fs : List Value} (hP : va_P D vwCl ws H) (hK : va_K D vwCl tys s) (hN : nst s) (q0 : Nat) (he : ws[q0]? = some (b, .inr (ci, fs))) (hc : vwCl[ci]? = some (C, T, N)) : PreV s H C b (pcR D ws tys (.ref b :: As)) As := ⟨pcR_blind, va_recv hK hP hc he, fun U hU hW => ⟨rfl, by rw [hU]; exact hP, va_K.moved hW.alike hK, nst_warm hW hN⟩⟩
theorem pcM_S (hP : va_P D vwCl ws H) (hD : va_D A ws) (hK : va_K D vwCl tys s) (hN : nst s) : PreS s H (pcM D H.size ws tys av) av := ⟨pcM_blind, fun U hU hW => ⟨rfl, by rw [hU], by rw [hU]; exact hP, va_K.moved hW.alike hK, hD.weaken (fun _ _ _ _ => trivial), nst_warm hW hN⟩⟩
theorem pcM_V {C : String} {T : u_T} {N ci b : Nat} {fs : List Value} (hP : va_P D vwCl ws H) (hD : va_D A ws) (hK : va_K D vwCl tys s) (hN : nst s) (q0 : Nat) (he : ws[q0]? = some (b, .inr (ci, fs))) (hc : vwCl[ci]? = some (C, T, N)) : PreV s H C b (pcM D H.size ws tys (.ref b :: As)) As := ⟨pcM_blind, va_recv hK hP hc he, fun U hU hW => ⟨rfl, by rw [hU], by rw [hU]; exact hP, va_K.moved hW.alike hK, hD.weaken (fun _ _ _ _ => trivial), nst_warm hW hN⟩⟩
end PRE
section OFS
variable {l : Launch} {y : MethodName} {ws ws' : List Cond} {rm : Room} {cc : ByteArray} {maxL : Nat} {ret : Option FieldType} {D : va_G} {wd : va_W} {tys : List (ClassId × FieldType)} {av : List Value}
theorem ofS {post : Int32 → Prop} (hy : plainName y.cls = true) (hw : ws = Cond.code y cc maxL ret :: ws') (hlen : (lg_sl av).length ≤ maxL)
    (body : ∀ (p : Program) (e : Env) (s : State) (m : MethodId) (below : List Frame) (meth : Method) (c : Code) (ls : Array Slot), p.tables.exec = Jvm.exec → c.code = cc → meth.sig.returnType = ret → c.maxLocals = maxL → s.vm.findClass y.cls = some m.cls → (∀ w ∈ ws, w.before av.toArray s = true) → meth.locks = false → lv_has ls maxL (lv_args 0 av) →
      W p l e rm s m av.toArray below meth c s.heap [] 0 0 (MQ below (vp_Si post) av.toArray s 0 0 (fun _ => False)) (F0 m 0 ls [])) : Met l y ws rm (pcS av) (vp_Si post) 0 0 (fun _ => False) := by
  refine Met.ofW (cc := cc) (maxL := maxL) (ret := ret) hy hw ?_
  intro p e s m args below meth c s₁ B hml hv
  have hv : args = av.toArray := hv
  subst hv
  have hl := lv_entry av (n := maxL) hlen
  rw [lg_entry_eq]
  generalize (lg_sl av ++ List.replicate (maxL - (lg_sl av).length) Slot.unset).toArray = ls at hl ⊢
  exact body p e s m below meth c ls B.exec B.bytes B.returns hml (findClass_of_methodNamed B.named) (atoms_spec (ws := ws) B.pre) B.notSynchronized hl
theorem ofR {post : Int32 → Prop} (hy : plainName y.cls = true) (hw : ws = Cond.code y cc maxL ret :: ws') (hlen : (lg_sl av).length ≤ maxL)
    (body : ∀ (p : Program) (e : Env) (s : State) (m : MethodId) (below : List Frame) (meth : Method) (c : Code) (ls : Array Slot), p.tables.exec = Jvm.exec → c.code = cc → meth.sig.returnType = ret → c.maxLocals = maxL → s.vm.findClass y.cls = some m.cls → (∀ w ∈ ws, w.before av.toArray s = true) → meth.locks = false → va_P D vwCl wd s.heap → va_K D vwCl tys s → nst s → lv_has ls maxL (lv_args 0 av) →
      W p l e rm s m av.toArray below meth c s.heap [] 0 0 (MQ below (vp_Si post) av.toArray s 0 0 (fun _ => False)) (F0 m 0 ls [])) : Met l y ws rm (pcR D wd tys av) (vp_Si post) 0 0 (fun _ => False) := by
  refine Met.ofW (cc := cc) (maxL := maxL) (ret := ret) hy hw ?_
  intro p e s m args below meth c s₁ B hml hv
  obtain ⟨rfl, hP, hK, hN⟩ := hv
  have hl := lv_entry av (n := maxL) hlen
  rw [lg_entry_eq]
  generalize (lg_sl av ++ List.replicate (maxL - (lg_sl av).length) Slot.unset).toArray = ls at hl ⊢
  exact body p e s m below meth c ls B.exec B.bytes B.returns hml (findClass_of_methodNamed B.named) (atoms_spec (ws := ws) B.pre) B.notSynchronized hP hK hN hl
theorem ofM {Qc : (Nat → Prop) → Array Value → State → Outcome → State → Prop} {mc ms sz : Nat} (hy : plainName y.cls = true) (hw : ws = Cond.code y cc maxL ret :: ws') (hlen : (lg_sl av).length ≤ maxL)
    (body : ∀ (p : Program) (e : Env) (s : State) (m : MethodId) (below : List Frame) (meth : Method) (c : Code) (ls : Array Slot) (A : Nat → Prop), p.tables.exec = Jvm.exec → c.code = cc → meth.sig.returnType = ret → c.maxLocals = maxL → s.vm.findClass y.cls = some m.cls → (∀ w ∈ ws, w.before av.toArray s = true) → meth.locks = false → meth.name = y.name → va_P D vwCl wd s.heap → va_K D vwCl tys s → nst s → va_D A wd → (∀ q : Nat, s.heap.size ≤ q → A q) → va_S A s.heap s.heap [] → lv_has ls maxL (lv_args 0 av) →
      W p l e rm s m av.toArray below meth c s.heap [] 0 0 (MQ below (Qc A) av.toArray s mc ms A) (F0 m 0 ls [])) : Met l y ws rm (pcM D sz wd tys av) (Qc (va_A wd sz)) mc ms (va_A wd sz) := by
  refine Met.ofW (cc := cc) (maxL := maxL) (ret := ret) hy hw ?_
  intro p e s m args below meth c s₁ B hml hv
  obtain ⟨rfl, hsz, hP, hK, hD0, hN⟩ := hv
  subst hsz
  have hl := lv_entry av (n := maxL) hlen
  rw [lg_entry_eq]
  generalize (lg_sl av ++ List.replicate (maxL - (lg_sl av).length) Slot.unset).toArray = ls at hl ⊢
  exact body p e s m below meth c ls (va_A wd s.heap.size) B.exec B.bytes B.returns hml (findClass_of_methodNamed B.named) (atoms_spec (ws := ws) B.pre) B.notSynchronized (name_of_methodNamed B.named B.method).1 hP hK hN (hD0.self (sz := s.heap.size)) (fun q h => Or.inr h) va_S.rf hl
end OFS
def qcI {S : Type} (D : va_G) (post : Int32 → S → Prop) (w : S → va_W) (A : Nat → Prop) : Array Value → State → Outcome → State → Prop := va_Qi post (my_B D A w) A
def qcV {S : Type} (D : va_G) (post : S → Prop) (w : S → va_W) (A : Nat → Prop) : Array Value → State → Outcome → State → Prop := va_Qv post (my_B D A w) A
section ENDS
variable {p : Program} {l : Launch} {e : Env} {R : Room} {s : State} {m : MethodId} {args : Array Value} {below : List Frame} {meth : Method} {c : Code} {H : Heap} {locs : List Loc} {cells slots : Nat} {Q : State → Prop}
variable {cc : ByteArray} {pc : Nat} {ls : Array Slot} {A : Nat → Prop} {D : va_G}
theorem rtR {post : Int32 → Prop} {v : Int32} (hx : p.tables.exec = Jvm.exec) (hb : c.code = cc) (hr : meth.sig.returnType = some .int) (hlocks : meth.locks = false) (hd : decode cc pc = .ok (.ireturn, 1)) (hp : post v) : W p l e R s m args below meth c s.heap [] 0 0 (MQ below (vp_Si post) args s 0 0 (fun _ => False)) (F0 m pc ls [.int v]) :=
  W.iret hx hb hr (fun t ht hW => ⟨v, rfl, hp, ht⟩) (fun q h => by cases h) hd hlocks
theorem rtRz {post : Int32 → Prop} {v : Int32} {ty : FieldType} (hx : p.tables.exec = Jvm.exec) (hb : c.code = cc) (hr : meth.sig.returnType = some ty) (hn : narrow ty (.int v) = .int v) (hlocks : meth.locks = false) (hd : decode cc pc = .ok (.ireturn, 1)) (hp : post v) : W p l e R s m args below meth c s.heap [] 0 0 (MQ below (vp_Si post) args s 0 0 (fun _ => False)) (F0 m pc ls [.int v]) :=
  W.zret hx hb hr hn (fun t ht hW => ⟨v, rfl, hp, ht⟩) (fun q h => by cases h) hd hlocks
theorem rtI {S : Type} {post : Int32 → S → Prop} {w : S → va_W} {v : Int32} (hx : p.tables.exec = Jvm.exec) (hb : c.code = cc) (hr : meth.sig.returnType = some .int) (hlocks : meth.locks = false) (hd : decode cc pc = .ok (.ireturn, 1)) (u : S) (hp : post v u) (hP : va_P D vwCl (w u) H) (hD : va_D A (w u)) (hS : va_S A s.heap H locs) : W p l e R s m args below meth c H locs cells slots (MQ below (qcI D post w A) args s cells slots A) (F0 m pc ls [.int v]) :=
  W.iret hx hb hr (fun t ht hW => ⟨⟨v, u, rfl, hp, by rw [ht]; exact hP, hD⟩, hS.F ht⟩) hS.2.2 hd hlocks
theorem rtIz {S : Type} {post : Int32 → S → Prop} {w : S → va_W} {v : Int32} {ty : FieldType} (hx : p.tables.exec = Jvm.exec) (hb : c.code = cc) (hr : meth.sig.returnType = some ty) (hn : narrow ty (.int v) = .int v) (hlocks : meth.locks = false) (hd : decode cc pc = .ok (.ireturn, 1)) (u : S) (hp : post v u) (hP : va_P D vwCl (w u) H) (hD : va_D A (w u)) (hS : va_S A s.heap H locs) : W p l e R s m args below meth c H locs cells slots (MQ below (qcI D post w A) args s cells slots A) (F0 m pc ls [.int v]) :=
  W.zret hx hb hr hn (fun t ht hW => ⟨⟨v, u, rfl, hp, by rw [ht]; exact hP, hD⟩, hS.F ht⟩) hS.2.2 hd hlocks
theorem rtV {S : Type} {post : S → Prop} {w : S → va_W} (hx : p.tables.exec = Jvm.exec) (hb : c.code = cc) (hr : meth.sig.returnType = none) (hlocks : meth.locks = false) (hd : decode cc pc = .ok (.return_, 1)) (u : S) (hp : post u) (hP : va_P D vwCl (w u) H) (hD : va_D A (w u)) (hS : va_S A s.heap H locs) : W p l e R s m args below meth c H locs cells slots (MQ below (qcV D post w A) args s cells slots A) (F0 m pc ls []) :=
  W.vret hx hb hr (fun t ht hW => ⟨⟨u, rfl, hp, by rw [ht]; exact hP, hD⟩, hS.F ht⟩) hS.2.2 hd hlocks
variable {rest st0 : List Value} {a : Array Value} {A0 : Nat → Prop} {H0 : Heap} {mc ms : Nat}
theorem clI {S : Type} {post : Int32 → S → Prop} {w : S → va_W} {ws wc wr : va_W} (hr : va_Run p l e R s m args below meth c H locs cells slots mc ms (F0 m pc ls st0) rest (qcI D post w (va_A wc H.size) a) (va_A wc H.size))
    (hP : va_P D vwCl ws H) (hD : va_D A0 ws) (hS : va_S A0 H0 H locs) (hA : ∀ q, H0.size ≤ q → A0 q) (isC isR : List Nat) (hC : isC.map (fun i => ws[i]?) = wc.map some) (hR : isR.map (fun i => ws[i]?) = wr.map some) (hn : va_nd isR = true) (hdis : ∀ i ∈ isR, i ∉ isC)
    (kk : ∀ (r : Int32) (u : S) (H1 : Heap) (locs1 : List Loc), post r u → va_P D vwCl (wr ++ w u) H1 → va_D A0 (wr ++ w u) → va_S A0 H0 H1 locs1 → W p l e R s m args below meth c H1 locs1 (cells + mc) (slots + ms) Q (F0 m (pc + 3) ls (.int r :: rest))) : W p l e R s m args below meth c H locs cells slots Q (F0 m pc ls st0) := by
  have hFc := va_free (wc := wc) hD hS hA isC hC
  refine va_calli hr hS (fun q _ h => hFc q h) hFc (fun r u t H1 locs1 ht hvm hw hB hz1 hk1 hS1 => ?_)
  obtain ⟨hP1, hD1⟩ := hB
  rw [ht] at hP1
  obtain ⟨hP2, hD2⟩ := va_join (wr := wr) (w1 := w u) hP hD isC isR hC hR hn hdis hk1 hFc hP1 hD1
  exact kk r u H1 locs1 hw hP2 hD2 hS1
theorem clV {S : Type} {post : S → Prop} {w : S → va_W} {ws wc wr : va_W} (hr : va_Run p l e R s m args below meth c H locs cells slots mc ms (F0 m pc ls st0) rest (qcV D post w (va_A wc H.size) a) (va_A wc H.size))
    (hP : va_P D vwCl ws H) (hD : va_D A0 ws) (hS : va_S A0 H0 H locs) (hA : ∀ q, H0.size ≤ q → A0 q) (isC isR : List Nat) (hC : isC.map (fun i => ws[i]?) = wc.map some) (hR : isR.map (fun i => ws[i]?) = wr.map some) (hn : va_nd isR = true) (hdis : ∀ i ∈ isR, i ∉ isC)
    (kk : ∀ (u : S) (H1 : Heap) (locs1 : List Loc), post u → va_P D vwCl (wr ++ w u) H1 → va_D A0 (wr ++ w u) → va_S A0 H0 H1 locs1 → W p l e R s m args below meth c H1 locs1 (cells + mc) (slots + ms) Q (F0 m (pc + 3) ls rest)) : W p l e R s m args below meth c H locs cells slots Q (F0 m pc ls st0) := by
  have hFc := va_free (wc := wc) hD hS hA isC hC
  refine va_callv hr hS (fun q _ h => hFc q h) hFc (fun u t H1 locs1 ht hvm hw hB hz1 hk1 hS1 => ?_)
  obtain ⟨hP1, hD1⟩ := hB
  rw [ht] at hP1
  obtain ⟨hP2, hD2⟩ := va_join (wr := wr) (w1 := w u) hP hD isC isR hC hR hn hdis hk1 hFc hP1 hD1
  exact kk u H1 locs1 hw hP2 hD2 hS1
end ENDS
end
section
/-! rows: a list of ints at the head of an array -/
def rw_ok (f : Nat → Int32) (cap : Nat) (xs : List Int32) : Prop := xs.length ≤ cap ∧ ∀ i, i < xs.length → f i = xs.getD i 0
def rw_at (xs : List Int32) (i : Int32) : Int32 := if i < 0 then -1 else xs.getD i.toNatClampNeg (-1)
def rw_add (cap : Nat) (xs : List Int32) (c : Int32) : List Int32 := if xs.length < cap then xs ++ [c] else xs
def rw_put (xs : List Int32) (i c : Int32) : List Int32 := if i < 0 then xs else xs.set i.toNatClampNeg c
theorem rw_nil {f : Nat → Int32} {cap : Nat} : rw_ok f cap [] := ⟨Nat.zero_le _, fun i h => absurd h (Nat.not_lt_zero i)⟩
theorem rw_at_lo {xs : List Int32} {i : Int32} (h : i < 0) : -1 = rw_at xs i := by unfold rw_at; rw [if_pos h]
theorem rw_at_hi {f : Nat → Int32} {cap : Nat} {xs : List Int32} {i : Int32} (hok : rw_ok f cap xs) (hc : cap < 2 ^ 31) (h0 : ¬ i < 0) (h : nI xs.length ≤ i) : -1 = rw_at xs i := by
  obtain ⟨j, hj, rfl⟩ := nI_of h0
  have h1 := (nI_leI (by have := hok.1; omega) hj).mp h
  unfold rw_at
  rw [if_neg h0, nI_clamp hj]
  simp [List.getD, List.getElem?_eq_none h1]
theorem rw_in {f : Nat → Int32} {cap : Nat} {xs : List Int32} {i : Int32} (hok : rw_ok f cap xs) (hc : cap < 2 ^ 31) (h0 : ¬ i < 0) (h : ¬ nI xs.length ≤ i) : ∃ j : Nat, i = nI j ∧ j < xs.length ∧ j < 2 ^ 31 := by
  obtain ⟨j, hj, rfl⟩ := nI_of h0
  refine ⟨j, rfl, ?_, hj⟩
  rcases Nat.lt_or_ge j xs.length with q | q
  · exact q
  · exact absurd (nI_le q hj) h
theorem rw_vin {f : Nat → Int32} {cap : Nat} {xs : List Int32} {i : Int32} (hok : rw_ok f cap xs) (hc : cap < 2 ^ 31) (h0 : ¬ i < 0) (h : ¬ nI xs.length ≤ i) : vp_in i cap := by
  obtain ⟨j, rfl, hj, _⟩ := rw_in hok hc h0 h
  exact vp_in_nI (by have := hok.1; omega) hc
theorem rw_at_in {f : Nat → Int32} {cap : Nat} {xs : List Int32} {i : Int32} (hok : rw_ok f cap xs) (hc : cap < 2 ^ 31) (h0 : ¬ i < 0) (h : ¬ nI xs.length ≤ i) : f i.toNatClampNeg = rw_at xs i := by
  obtain ⟨j, rfl, hj, hj2⟩ := rw_in hok hc h0 h
  unfold rw_at
  rw [if_neg h0, nI_clamp hj2, hok.2 j hj]
  simp [List.getD, List.getElem?_eq_getElem hj]
theorem rw_atN {xs : List Int32} {k : Nat} (h : k < 2 ^ 31) : rw_at xs (nI k) = xs.getD k (-1) := by
  unfold rw_at
  rw [if_neg (nI_pos h), nI_clamp h]
theorem rw_add_no {f : Nat → Int32} {cap : Nat} {xs : List Int32} {c : Int32} (hok : rw_ok f cap xs) (hc : cap < 2 ^ 31) (h : nI cap ≤ nI xs.length) : rw_add cap xs c = xs := by
  have h1 := (nI_leI hc (by have := hok.1; omega)).mp h
  unfold rw_add
  rw [if_neg (by omega)]
theorem rw_add_yes {f : Nat → Int32} {cap : Nat} {xs : List Int32} {c : Int32} (hok : rw_ok f cap xs) (hc : cap < 2 ^ 31) (h : ¬ nI cap ≤ nI xs.length) : xs.length < cap ∧ rw_add cap xs c = xs ++ [c] ∧ nI xs.length + 1 = nI (rw_add cap xs c).length ∧ rw_ok (upd f (nI xs.length).toNatClampNeg c) cap (rw_add cap xs c) := by
  have h0 : xs.length < 2 ^ 31 := by have := hok.1; omega
  have h1 : xs.length < cap := by
    rcases Nat.lt_or_ge xs.length cap with q | q
    · exact q
    · exact absurd (nI_le q h0) h
  have e : rw_add cap xs c = xs ++ [c] := by unfold rw_add; rw [if_pos h1]
  refine ⟨h1, e, ?_, ?_⟩
  · rw [e, List.length_append]; exact nI_1 _
  · rw [e]
    refine ⟨by rw [List.length_append]; simp; omega, fun i hi => ?_⟩
    rw [nI_clamp h0]
    rw [List.length_append] at hi
    simp only [List.length_cons, List.length_nil] at hi
    rcases Nat.lt_or_ge i xs.length with q | q
    · rw [pk_un (by omega), hok.2 i q]
      simp [List.getD, List.getElem?_append_left q]
    · have : i = xs.length := by omega
      subst this
      rw [pk_us]
      simp [List.getD]
theorem rw_put_ok {f : Nat → Int32} {cap : Nat} {xs : List Int32} {i c : Int32} (hok : rw_ok f cap xs) (hc : cap < 2 ^ 31) (h0 : ¬ i < 0) (h : ¬ nI xs.length ≤ i) : nI xs.length = nI (rw_put xs i c).length ∧ rw_ok (upd f i.toNatClampNeg c) cap (rw_put xs i c) := by
  obtain ⟨j, rfl, hj, hj2⟩ := rw_in hok hc h0 h
  have e : rw_put xs (nI j) c = xs.set j c := by unfold rw_put; rw [if_neg h0, nI_clamp hj2]
  rw [e]
  refine ⟨by rw [List.length_set], by rw [List.length_set]; exact hok.1, fun i hi => ?_⟩
  rw [List.length_set] at hi
  rw [nI_clamp hj2]
  by_cases q : i = j
  · subst q
    rw [pk_us]
    simp [List.getD, hi]
  · rw [pk_un q, hok.2 i hi]
    simp [List.getD, List.getElem?_set, Ne.symm q]
theorem rw_put_lo {xs : List Int32} {i c : Int32} (h : i < 0) : rw_put xs i c = xs := by unfold rw_put; rw [if_pos h]
theorem rw_put_hi {f : Nat → Int32} {cap : Nat} {xs : List Int32} {i c : Int32} (hok : rw_ok f cap xs) (hc : cap < 2 ^ 31) (h0 : ¬ i < 0) (h : nI xs.length ≤ i) : rw_put xs i c = xs := by
  obtain ⟨j, hj, rfl⟩ := nI_of h0
  have h1 := (nI_leI (by have := hok.1; omega) hj).mp h
  unfold rw_put
  rw [if_neg h0, nI_clamp hj, List.set_eq_of_length_le h1]
theorem rw_lt {f : Nat → Int32} {cap : Nat} {xs : List Int32} (hok : rw_ok f cap xs) (hc : cap < 2 ^ 31) : xs.length < 2 ^ 31 := by have := hok.1; omega
end
section
/-! the static ones of the class and of the reference: what each answers, by its tree -/
def fX2_isPlain (a0 : Int32) : Int32 := (if a0 < 32 then 0 else (if 126 < a0 then 0 else 1))
set_option maxHeartbeats 4000000 in
set_option maxRecDepth 100000 in
theorem KX2_isPlain (l : Launch) (a0 : Int32) : Met l yX2_isPlain wsX2_isPlain ({ frames := 0, cells := 0, slots := 0, locals := 0 }) (pcS [.int a0]) (vp_Si (fun r => r = fX2_isPlain a0)) 0 0 (fun _ => False) := by
  refine ofS (cc := cX2_isPlain) (maxL := 1) (ret := (some .boolean)) (by decide) rfl (Nat.le_of_ble_eq_true rfl) ?_
  intro p e s m below meth c ls hx hb hr hml hown hts hlocks hl
  have hl : lv_has ls 1 [(0, .int a0)] := hl
  refine lv_iload_n hx hb dX2_isPlain_0 rfl (lv_at hl 0 rfl) ?_
  refine lv_bipush (v := 32) hx hb dX2_isPlain_1 (by decide) ?_
  refine lv_icmp_lt (tgt := 16) hx hb dX2_isPlain_3 (by decide) (fun c3_1 => ?_) (fun c3_1 => ?_)
  · skip
    refine lv_iconst (v := 0) hx hb dX2_isPlain_16 (by decide) ?_
    exact rtRz hx hb hr (by decide) hlocks dX2_isPlain_17 (by unfold fX2_isPlain; rw [if_pos c3_1])
  · skip
    refine lv_iload_n hx hb dX2_isPlain_6 rfl (lv_at hl 0 rfl) ?_
    refine lv_bipush (v := 126) hx hb dX2_isPlain_7 (by decide) ?_
    refine lv_icmp_gt (tgt := 16) hx hb dX2_isPlain_9 (by decide) (fun c9_1 => ?_) (fun c9_1 => ?_)
    · skip
      refine lv_iconst (v := 0) hx hb dX2_isPlain_16 (by decide) ?_
      exact rtRz hx hb hr (by decide) hlocks dX2_isPlain_17 (by unfold fX2_isPlain; rw [if_neg c3_1, if_pos c9_1])
    · skip
      refine lv_iconst (v := 1) hx hb dX2_isPlain_12 (by decide) ?_
      refine lv_goto (tgt := 17) hx hb dX2_isPlain_13 (by decide) ?_
      exact rtRz hx hb hr (by decide) hlocks dX2_isPlain_17 (by unfold fX2_isPlain; rw [if_neg c3_1, if_neg c9_1])
def fX2_isCapital (a0 : Int32) : Int32 := (if a0 < 65 then 0 else (if 90 < a0 then 0 else 1))
set_option maxHeartbeats 4000000 in
set_option maxRecDepth 100000 in
theorem KX2_isCapital (l : Launch) (a0 : Int32) : Met l yX2_isCapital wsX2_isCapital ({ frames := 0, cells := 0, slots := 0, locals := 0 }) (pcS [.int a0]) (vp_Si (fun r => r = fX2_isCapital a0)) 0 0 (fun _ => False) := by
  refine ofS (cc := cX2_isCapital) (maxL := 1) (ret := (some .boolean)) (by decide) rfl (Nat.le_of_ble_eq_true rfl) ?_
  intro p e s m below meth c ls hx hb hr hml hown hts hlocks hl
  have hl : lv_has ls 1 [(0, .int a0)] := hl
  refine lv_iload_n hx hb dX2_isCapital_0 rfl (lv_at hl 0 rfl) ?_
  refine lv_bipush (v := 65) hx hb dX2_isCapital_1 (by decide) ?_
  refine lv_icmp_lt (tgt := 16) hx hb dX2_isCapital_3 (by decide) (fun c3_1 => ?_) (fun c3_1 => ?_)
  · skip
    refine lv_iconst (v := 0) hx hb dX2_isCapital_16 (by decide) ?_
    exact rtRz hx hb hr (by decide) hlocks dX2_isCapital_17 (by unfold fX2_isCapital; rw [if_pos c3_1])
  · skip
    refine lv_iload_n hx hb dX2_isCapital_6 rfl (lv_at hl 0 rfl) ?_
    refine lv_bipush (v := 90) hx hb dX2_isCapital_7 (by decide) ?_
    refine lv_icmp_gt (tgt := 16) hx hb dX2_isCapital_9 (by decide) (fun c9_1 => ?_) (fun c9_1 => ?_)
    · skip
      refine lv_iconst (v := 0) hx hb dX2_isCapital_16 (by decide) ?_
      exact rtRz hx hb hr (by decide) hlocks dX2_isCapital_17 (by unfold fX2_isCapital; rw [if_neg c3_1, if_pos c9_1])
    · skip
      refine lv_iconst (v := 1) hx hb dX2_isCapital_12 (by decide) ?_
      refine lv_goto (tgt := 17) hx hb dX2_isCapital_13 (by decide) ?_
      exact rtRz hx hb hr (by decide) hlocks dX2_isCapital_17 (by unfold fX2_isCapital; rw [if_neg c3_1, if_neg c9_1])
def fX2_isLetter (a0 : Int32) : Int32 := (if (fX2_isCapital a0) = 0 then (if a0 < 97 then 0 else (if 122 < a0 then 0 else 1)) else 1)
set_option maxHeartbeats 4000000 in
set_option maxRecDepth 100000 in
theorem KX2_isLetter (l : Launch) (a0 : Int32) : Met l yX2_isLetter wsX2_isLetter ({ frames := 1, cells := 0, slots := 0, locals := 20 }) (pcS [.int a0]) (vp_Si (fun r => r = fX2_isLetter a0)) 0 0 (fun _ => False) := by
  refine ofS (cc := cX2_isLetter) (maxL := 1) (ret := (some .boolean)) (by decide) rfl (Nat.le_of_ble_eq_true rfl) ?_
  intro p e s m below meth c ls hx hb hr hml hown hts hlocks hl
  have hl : lv_has ls 1 [(0, .int a0)] := hl
  refine lv_iload_n hx hb dX2_isLetter_0 rfl (lv_at hl 0 rfl) ?_
  refine vp_callSi (W.runS ⟨hx, hb, hml, hown, hts⟩ (KX2_isCapital l a0) (va_cwS 1 hts gX2_isLetter_X2_isCapital rfl rfl rfl (by decide +kernel) ⟨Nat.le_of_ble_eq_true rfl, Nat.le_of_ble_eq_true rfl⟩) pcS_S rfl rfl hl.1 rfl (lv_room (Nat.le_of_ble_eq_true rfl)) dX2_isLetter_1 ⟨Nat.zero_le _, Nat.zero_le _⟩) (fun r9 hr9 => ?_)
  subst r9
  refine lv_if_ne (tgt := 19) hx hb dX2_isLetter_4 (by decide) (fun c4_1 => ?_) (fun c4_1 => ?_)
  · skip
    refine lv_iconst (v := 1) hx hb dX2_isLetter_19 (by decide) ?_
    refine lv_goto (tgt := 24) hx hb dX2_isLetter_20 (by decide) ?_
    exact rtRz hx hb hr (by decide) hlocks dX2_isLetter_24 (by unfold fX2_isLetter; rw [if_neg c4_1])
  · skip
    refine lv_iload_n hx hb dX2_isLetter_7 rfl (lv_at hl 0 rfl) ?_
    refine lv_bipush (v := 97) hx hb dX2_isLetter_8 (by decide) ?_
    refine lv_icmp_lt (tgt := 23) hx hb dX2_isLetter_10 (by decide) (fun c10_1 => ?_) (fun c10_1 => ?_)
    · skip
      refine lv_iconst (v := 0) hx hb dX2_isLetter_23 (by decide) ?_
      exact rtRz hx hb hr (by decide) hlocks dX2_isLetter_24 (by unfold fX2_isLetter; rw [if_pos c4_1, if_pos c10_1])
    · skip
      refine lv_iload_n hx hb dX2_isLetter_13 rfl (lv_at hl 0 rfl) ?_
      refine lv_bipush (v := 122) hx hb dX2_isLetter_14 (by decide) ?_
      refine lv_icmp_gt (tgt := 23) hx hb dX2_isLetter_16 (by decide) (fun c16_1 => ?_) (fun c16_1 => ?_)
      · skip
        refine lv_iconst (v := 0) hx hb dX2_isLetter_23 (by decide) ?_
        exact rtRz hx hb hr (by decide) hlocks dX2_isLetter_24 (by unfold fX2_isLetter; rw [if_pos c4_1, if_neg c10_1, if_pos c16_1])
      · skip
        refine lv_iconst (v := 1) hx hb dX2_isLetter_19 (by decide) ?_
        refine lv_goto (tgt := 24) hx hb dX2_isLetter_20 (by decide) ?_
        exact rtRz hx hb hr (by decide) hlocks dX2_isLetter_24 (by unfold fX2_isLetter; rw [if_pos c4_1, if_neg c10_1, if_neg c16_1])
def fX2_isMark (a0 : Int32) : Int32 := (if a0 < 768 then 0 else (if 783 ≤ a0 then 0 else 1))
set_option maxHeartbeats 4000000 in
set_option maxRecDepth 100000 in
theorem KX2_isMark (l : Launch) (a0 : Int32) : Met l yX2_isMark wsX2_isMark ({ frames := 0, cells := 0, slots := 0, locals := 0 }) (pcS [.int a0]) (vp_Si (fun r => r = fX2_isMark a0)) 0 0 (fun _ => False) := by
  refine ofS (cc := cX2_isMark) (maxL := 1) (ret := (some .boolean)) (by decide) rfl (Nat.le_of_ble_eq_true rfl) ?_
  intro p e s m below meth c ls hx hb hr hml hown hts hlocks hl
  have hl : lv_has ls 1 [(0, .int a0)] := hl
  refine lv_iload_n hx hb dX2_isMark_0 rfl (lv_at hl 0 rfl) ?_
  refine lv_sipush (v := 768) hx hb dX2_isMark_1 (by decide) ?_
  refine lv_icmp_lt (tgt := 18) hx hb dX2_isMark_4 (by decide) (fun c4_1 => ?_) (fun c4_1 => ?_)
  · skip
    refine lv_iconst (v := 0) hx hb dX2_isMark_18 (by decide) ?_
    exact rtRz hx hb hr (by decide) hlocks dX2_isMark_19 (by unfold fX2_isMark; rw [if_pos c4_1])
  · skip
    refine lv_iload_n hx hb dX2_isMark_7 rfl (lv_at hl 0 rfl) ?_
    refine lv_sipush (v := 783) hx hb dX2_isMark_8 (by decide) ?_
    refine lv_icmp_ge (tgt := 18) hx hb dX2_isMark_11 (by decide) (fun c11_1 => ?_) (fun c11_1 => ?_)
    · skip
      refine lv_iconst (v := 0) hx hb dX2_isMark_18 (by decide) ?_
      exact rtRz hx hb hr (by decide) hlocks dX2_isMark_19 (by unfold fX2_isMark; rw [if_neg c4_1, if_pos c11_1])
    · skip
      refine lv_iconst (v := 1) hx hb dX2_isMark_14 (by decide) ?_
      refine lv_goto (tgt := 19) hx hb dX2_isMark_15 (by decide) ?_
      exact rtRz hx hb hr (by decide) hlocks dX2_isMark_19 (by unfold fX2_isMark; rw [if_neg c4_1, if_neg c11_1])
def fX2_rankOf (a0 : Int32) : Int32 := ((a0 - 768) / 5)
set_option maxHeartbeats 4000000 in
set_option maxRecDepth 100000 in
theorem KX2_rankOf (l : Launch) (a0 : Int32) : Met l yX2_rankOf wsX2_rankOf ({ frames := 0, cells := 0, slots := 0, locals := 0 }) (pcS [.int a0]) (vp_Si (fun r => r = fX2_rankOf a0)) 0 0 (fun _ => False) := by
  refine ofS (cc := cX2_rankOf) (maxL := 1) (ret := (some .int)) (by decide) rfl (Nat.le_of_ble_eq_true rfl) ?_
  intro p e s m below meth c ls hx hb hr hml hown hts hlocks hl
  have hl : lv_has ls 1 [(0, .int a0)] := hl
  refine lv_iload_n hx hb dX2_rankOf_0 rfl (lv_at hl 0 rfl) ?_
  refine lv_sipush (v := 768) hx hb dX2_rankOf_1 (by decide) ?_
  refine lv_isub hx hb dX2_rankOf_4 ?_
  refine lv_iconst (v := 5) hx hb dX2_rankOf_5 (by decide) ?_
  refine lv_idiv hx hb dX2_rankOf_6 (by decide) ?_
  exact rtR hx hb hr hlocks dX2_rankOf_7 (by rfl)
def fX2_letterOf (a0 : Int32) : Int32 := (((a0 - 57344) - (a0 - 57344) / 64 * 64) + 64)
set_option maxHeartbeats 4000000 in
set_option maxRecDepth 100000 in
theorem KX2_letterOf (l : Launch) (a0 : Int32) : Met l yX2_letterOf wsX2_letterOf ({ frames := 0, cells := 0, slots := 0, locals := 0 }) (pcS [.int a0]) (vp_Si (fun r => r = fX2_letterOf a0)) 0 0 (fun _ => False) := by
  refine ofS (cc := cX2_letterOf) (maxL := 1) (ret := (some .int)) (by decide) rfl (Nat.le_of_ble_eq_true rfl) ?_
  intro p e s m below meth c ls hx hb hr hml hown hts hlocks hl
  have hl : lv_has ls 1 [(0, .int a0)] := hl
  refine lv_iload_n hx hb dX2_letterOf_0 rfl (lv_at hl 0 rfl) ?_
  refine lv_ldc (v := 57344) hx hb hown (hts (.constant RX2 166 57344) (by decide +kernel)) dX2_letterOf_1 ?_
  refine lv_isub hx hb dX2_letterOf_3 ?_
  refine lv_bipush (v := 64) hx hb dX2_letterOf_4 (by decide) ?_
  refine lv_irem hx hb dX2_letterOf_6 (by decide) ?_
  refine lv_bipush (v := 64) hx hb dX2_letterOf_7 (by decide) ?_
  refine lv_iadd hx hb dX2_letterOf_9 ?_
  exact rtR hx hb hr hlocks dX2_letterOf_10 (by rfl)
def fX2_markOf (a0 : Int32) : Int32 := (((a0 - 57344) / 64) + 768)
set_option maxHeartbeats 4000000 in
set_option maxRecDepth 100000 in
theorem KX2_markOf (l : Launch) (a0 : Int32) : Met l yX2_markOf wsX2_markOf ({ frames := 0, cells := 0, slots := 0, locals := 0 }) (pcS [.int a0]) (vp_Si (fun r => r = fX2_markOf a0)) 0 0 (fun _ => False) := by
  refine ofS (cc := cX2_markOf) (maxL := 1) (ret := (some .int)) (by decide) rfl (Nat.le_of_ble_eq_true rfl) ?_
  intro p e s m below meth c ls hx hb hr hml hown hts hlocks hl
  have hl : lv_has ls 1 [(0, .int a0)] := hl
  refine lv_iload_n hx hb dX2_markOf_0 rfl (lv_at hl 0 rfl) ?_
  refine lv_ldc (v := 57344) hx hb hown (hts (.constant RX2 166 57344) (by decide +kernel)) dX2_markOf_1 ?_
  refine lv_isub hx hb dX2_markOf_3 ?_
  refine lv_bipush (v := 64) hx hb dX2_markOf_4 (by decide) ?_
  refine lv_idiv hx hb dX2_markOf_6 (by decide) ?_
  refine lv_sipush (v := 768) hx hb dX2_markOf_7 (by decide) ?_
  refine lv_iadd hx hb dX2_markOf_10 ?_
  exact rtR hx hb hr hlocks dX2_markOf_11 (by rfl)
def fX2_composedOf (a0 a1 : Int32) : Int32 := (((57344 + (64 * (a1 - 768))) + a0) - 64)
set_option maxHeartbeats 4000000 in
set_option maxRecDepth 100000 in
theorem KX2_composedOf (l : Launch) (a0 a1 : Int32) : Met l yX2_composedOf wsX2_composedOf ({ frames := 0, cells := 0, slots := 0, locals := 0 }) (pcS [.int a0, .int a1]) (vp_Si (fun r => r = fX2_composedOf a0 a1)) 0 0 (fun _ => False) := by
  refine ofS (cc := cX2_composedOf) (maxL := 2) (ret := (some .int)) (by decide) rfl (Nat.le_of_ble_eq_true rfl) ?_
  intro p e s m below meth c ls hx hb hr hml hown hts hlocks hl
  have hl : lv_has ls 2 [(0, .int a0), (1, .int a1)] := hl
  refine lv_ldc (v := 57344) hx hb hown (hts (.constant RX2 166 57344) (by decide +kernel)) dX2_composedOf_0 ?_
  refine lv_bipush (v := 64) hx hb dX2_composedOf_2 (by decide) ?_
  refine lv_iload_n hx hb dX2_composedOf_4 rfl (lv_at hl 1 rfl) ?_
  refine lv_sipush (v := 768) hx hb dX2_composedOf_5 (by decide) ?_
  refine lv_isub hx hb dX2_composedOf_8 ?_
  refine lv_imul hx hb dX2_composedOf_9 ?_
  refine lv_iadd hx hb dX2_composedOf_10 ?_
  refine lv_iload_n hx hb dX2_composedOf_11 rfl (lv_at hl 0 rfl) ?_
  refine lv_iadd hx hb dX2_composedOf_12 ?_
  refine lv_bipush (v := 64) hx hb dX2_composedOf_13 (by decide) ?_
  refine lv_isub hx hb dX2_composedOf_15 ?_
  exact rtR hx hb hr hlocks dX2_composedOf_16 (by rfl)
def fX2_isComposed (a0 : Int32) : Int32 := (if a0 < 57344 then 0 else (if 58304 ≤ a0 then 0 else (if (fX2_isLetter (fX2_letterOf a0)) = 0 then 0 else 1)))
set_option maxHeartbeats 4000000 in
set_option maxRecDepth 100000 in
theorem KX2_isComposed (l : Launch) (a0 : Int32) : Met l yX2_isComposed wsX2_isComposed ({ frames := 2, cells := 0, slots := 0, locals := 40 }) (pcS [.int a0]) (vp_Si (fun r => r = fX2_isComposed a0)) 0 0 (fun _ => False) := by
  refine ofS (cc := cX2_isComposed) (maxL := 1) (ret := (some .boolean)) (by decide) rfl (Nat.le_of_ble_eq_true rfl) ?_
  intro p e s m below meth c ls hx hb hr hml hown hts hlocks hl
  have hl : lv_has ls 1 [(0, .int a0)] := hl
  refine lv_iload_n hx hb dX2_isComposed_0 rfl (lv_at hl 0 rfl) ?_
  refine lv_ldc (v := 57344) hx hb hown (hts (.constant RX2 166 57344) (by decide +kernel)) dX2_isComposed_1 ?_
  refine lv_icmp_lt (tgt := 26) hx hb dX2_isComposed_3 (by decide) (fun c3_1 => ?_) (fun c3_1 => ?_)
  · skip
    refine lv_iconst (v := 0) hx hb dX2_isComposed_26 (by decide) ?_
    exact rtRz hx hb hr (by decide) hlocks dX2_isComposed_27 (by unfold fX2_isComposed; rw [if_pos c3_1])
  · skip
    refine lv_iload_n hx hb dX2_isComposed_6 rfl (lv_at hl 0 rfl) ?_
    refine lv_ldc (v := 58304) hx hb hown (hts (.constant RX2 167 58304) (by decide +kernel)) dX2_isComposed_7 ?_
    refine lv_icmp_ge (tgt := 26) hx hb dX2_isComposed_9 (by decide) (fun c9_1 => ?_) (fun c9_1 => ?_)
    · skip
      refine lv_iconst (v := 0) hx hb dX2_isComposed_26 (by decide) ?_
      exact rtRz hx hb hr (by decide) hlocks dX2_isComposed_27 (by unfold fX2_isComposed; rw [if_neg c3_1, if_pos c9_1])
    · skip
      refine lv_iload_n hx hb dX2_isComposed_12 rfl (lv_at hl 0 rfl) ?_
      refine vp_callSi (W.runS ⟨hx, hb, hml, hown, hts⟩ (KX2_letterOf l a0) (va_cwS 1 hts gX2_isComposed_X2_letterOf rfl rfl rfl (by decide +kernel) ⟨Nat.le_of_ble_eq_true rfl, Nat.le_of_ble_eq_true rfl⟩) pcS_S rfl rfl hl.1 rfl (lv_room (Nat.le_of_ble_eq_true rfl)) dX2_isComposed_13 ⟨Nat.zero_le _, Nat.zero_le _⟩) (fun r9 hr9 => ?_)
      subst r9
      refine vp_callSi (W.runS ⟨hx, hb, hml, hown, hts⟩ (KX2_isLetter l (fX2_letterOf a0)) (va_cwS 1 hts gX2_isComposed_X2_isLetter rfl rfl rfl (by decide +kernel) ⟨Nat.le_of_ble_eq_true rfl, Nat.le_of_ble_eq_true rfl⟩) pcS_S rfl rfl hl.1 rfl (lv_room (Nat.le_of_ble_eq_true rfl)) dX2_isComposed_16 ⟨Nat.zero_le _, Nat.zero_le _⟩) (fun r9 hr9 => ?_)
      subst r9
      refine lv_if_eq (tgt := 26) hx hb dX2_isComposed_19 (by decide) (fun c19_1 => ?_) (fun c19_1 => ?_)
      · skip
        refine lv_iconst (v := 0) hx hb dX2_isComposed_26 (by decide) ?_
        exact rtRz hx hb hr (by decide) hlocks dX2_isComposed_27 (by unfold fX2_isComposed; rw [if_neg c3_1, if_neg c9_1, if_pos c19_1])
      · skip
        refine lv_iconst (v := 1) hx hb dX2_isComposed_22 (by decide) ?_
        refine lv_goto (tgt := 27) hx hb dX2_isComposed_23 (by decide) ?_
        exact rtRz hx hb hr (by decide) hlocks dX2_isComposed_27 (by unfold fX2_isComposed; rw [if_neg c3_1, if_neg c9_1, if_neg c19_1])
def fX2_keyOf (a0 : Int32) : Int32 := (if (fX2_isComposed a0) = 0 then (if (fX2_isCapital a0) = 0 then a0 else ((a0 - 65) + 97)) else (if (fX2_isCapital (fX2_letterOf a0)) = 0 then (fX2_letterOf a0) else (((fX2_letterOf a0) - 65) + 97)))
set_option maxHeartbeats 4000000 in
set_option maxRecDepth 100000 in
theorem KX2_keyOf (l : Launch) (a0 : Int32) : Met l yX2_keyOf wsX2_keyOf ({ frames := 3, cells := 0, slots := 0, locals := 60 }) (pcS [.int a0]) (vp_Si (fun r => r = fX2_keyOf a0)) 0 0 (fun _ => False) := by
  refine ofS (cc := cX2_keyOf) (maxL := 2) (ret := (some .int)) (by decide) rfl (Nat.le_of_ble_eq_true rfl) ?_
  intro p e s m below meth c ls hx hb hr hml hown hts hlocks hl
  have hl : lv_has ls 2 [(0, .int a0)] := hl
  refine lv_iload_n hx hb dX2_keyOf_0 rfl (lv_at hl 0 rfl) ?_
  refine vp_callSi (W.runS ⟨hx, hb, hml, hown, hts⟩ (KX2_isComposed l a0) (va_cwS 1 hts gX2_keyOf_X2_isComposed rfl rfl rfl (by decide +kernel) ⟨Nat.le_of_ble_eq_true rfl, Nat.le_of_ble_eq_true rfl⟩) pcS_S rfl rfl hl.1 rfl (lv_room (Nat.le_of_ble_eq_true rfl)) dX2_keyOf_1 ⟨Nat.zero_le _, Nat.zero_le _⟩) (fun r9 hr9 => ?_)
  subst r9
  refine lv_if_eq (tgt := 14) hx hb dX2_keyOf_4 (by decide) (fun c4_1 => ?_) (fun c4_1 => ?_)
  · skip
    refine lv_iload_n hx hb dX2_keyOf_14 rfl (lv_at hl 0 rfl) ?_
    refine lv_istore_n (lv' := [(1, .int a0), (0, .int a0)]) hx hb dX2_keyOf_15 rfl hl (by decide) rfl (fun ls hl => ?_)
    refine lv_iload_n hx hb dX2_keyOf_16 rfl (lv_at hl 0 rfl) ?_
    refine vp_callSi (W.runS ⟨hx, hb, hml, hown, hts⟩ (KX2_isCapital l a0) (va_cwS 1 hts gX2_keyOf_X2_isCapital rfl rfl rfl (by decide +kernel) ⟨Nat.le_of_ble_eq_true rfl, Nat.le_of_ble_eq_true rfl⟩) pcS_S rfl rfl hl.1 rfl (lv_room (Nat.le_of_ble_eq_true rfl)) dX2_keyOf_17 ⟨Nat.zero_le _, Nat.zero_le _⟩) (fun r9 hr9 => ?_)
    subst r9
    refine lv_if_eq (tgt := 33) hx hb dX2_keyOf_20 (by decide) (fun c20_1 => ?_) (fun c20_1 => ?_)
    · skip
      refine lv_iload_n hx hb dX2_keyOf_33 rfl (lv_at hl 0 rfl) ?_
      exact rtR hx hb hr hlocks dX2_keyOf_34 (by unfold fX2_keyOf; rw [if_pos c4_1, if_pos c20_1])
    · skip
      refine lv_iload_n hx hb dX2_keyOf_23 rfl (lv_at hl 0 rfl) ?_
      refine lv_bipush (v := 65) hx hb dX2_keyOf_24 (by decide) ?_
      refine lv_isub hx hb dX2_keyOf_26 ?_
      refine lv_bipush (v := 97) hx hb dX2_keyOf_27 (by decide) ?_
      refine lv_iadd hx hb dX2_keyOf_29 ?_
      refine lv_goto (tgt := 34) hx hb dX2_keyOf_30 (by decide) ?_
      exact rtR hx hb hr hlocks dX2_keyOf_34 (by unfold fX2_keyOf; rw [if_pos c4_1, if_neg c20_1])
  · skip
    refine lv_iload_n hx hb dX2_keyOf_7 rfl (lv_at hl 0 rfl) ?_
    refine vp_callSi (W.runS ⟨hx, hb, hml, hown, hts⟩ (KX2_letterOf l a0) (va_cwS 1 hts gX2_keyOf_X2_letterOf rfl rfl rfl (by decide +kernel) ⟨Nat.le_of_ble_eq_true rfl, Nat.le_of_ble_eq_true rfl⟩) pcS_S rfl rfl hl.1 rfl (lv_room (Nat.le_of_ble_eq_true rfl)) dX2_keyOf_8 ⟨Nat.zero_le _, Nat.zero_le _⟩) (fun r9 hr9 => ?_)
    subst r9
    refine lv_goto (tgt := 15) hx hb dX2_keyOf_11 (by decide) ?_
    refine lv_istore_n (lv' := [(1, .int (fX2_letterOf a0)), (0, .int a0)]) hx hb dX2_keyOf_15 rfl hl (by decide) rfl (fun ls hl => ?_)
    refine lv_iload_n hx hb dX2_keyOf_16 rfl (lv_at hl 0 rfl) ?_
    refine vp_callSi (W.runS ⟨hx, hb, hml, hown, hts⟩ (KX2_isCapital l (fX2_letterOf a0)) (va_cwS 1 hts gX2_keyOf_X2_isCapital rfl rfl rfl (by decide +kernel) ⟨Nat.le_of_ble_eq_true rfl, Nat.le_of_ble_eq_true rfl⟩) pcS_S rfl rfl hl.1 rfl (lv_room (Nat.le_of_ble_eq_true rfl)) dX2_keyOf_17 ⟨Nat.zero_le _, Nat.zero_le _⟩) (fun r9 hr9 => ?_)
    subst r9
    refine lv_if_eq (tgt := 33) hx hb dX2_keyOf_20 (by decide) (fun c20_2 => ?_) (fun c20_2 => ?_)
    · skip
      refine lv_iload_n hx hb dX2_keyOf_33 rfl (lv_at hl 0 rfl) ?_
      exact rtR hx hb hr hlocks dX2_keyOf_34 (by unfold fX2_keyOf; rw [if_neg c4_1, if_pos c20_2])
    · skip
      refine lv_iload_n hx hb dX2_keyOf_23 rfl (lv_at hl 0 rfl) ?_
      refine lv_bipush (v := 65) hx hb dX2_keyOf_24 (by decide) ?_
      refine lv_isub hx hb dX2_keyOf_26 ?_
      refine lv_bipush (v := 97) hx hb dX2_keyOf_27 (by decide) ?_
      refine lv_iadd hx hb dX2_keyOf_29 ?_
      refine lv_goto (tgt := 34) hx hb dX2_keyOf_30 (by decide) ?_
      exact rtR hx hb hr hlocks dX2_keyOf_34 (by unfold fX2_keyOf; rw [if_neg c4_1, if_neg c20_2])
def fX2_isLatin (a0 : Int32) : Int32 := (if a0 < 192 then 0 else (if 222 ≤ a0 then 0 else 1))
set_option maxHeartbeats 4000000 in
set_option maxRecDepth 100000 in
theorem KX2_isLatin (l : Launch) (a0 : Int32) : Met l yX2_isLatin wsX2_isLatin ({ frames := 0, cells := 0, slots := 0, locals := 0 }) (pcS [.int a0]) (vp_Si (fun r => r = fX2_isLatin a0)) 0 0 (fun _ => False) := by
  refine ofS (cc := cX2_isLatin) (maxL := 1) (ret := (some .boolean)) (by decide) rfl (Nat.le_of_ble_eq_true rfl) ?_
  intro p e s m below meth c ls hx hb hr hml hown hts hlocks hl
  have hl : lv_has ls 1 [(0, .int a0)] := hl
  refine lv_iload_n hx hb dX2_isLatin_0 rfl (lv_at hl 0 rfl) ?_
  refine lv_sipush (v := 192) hx hb dX2_isLatin_1 (by decide) ?_
  refine lv_icmp_lt (tgt := 18) hx hb dX2_isLatin_4 (by decide) (fun c4_1 => ?_) (fun c4_1 => ?_)
  · skip
    refine lv_iconst (v := 0) hx hb dX2_isLatin_18 (by decide) ?_
    exact rtRz hx hb hr (by decide) hlocks dX2_isLatin_19 (by unfold fX2_isLatin; rw [if_pos c4_1])
  · skip
    refine lv_iload_n hx hb dX2_isLatin_7 rfl (lv_at hl 0 rfl) ?_
    refine lv_sipush (v := 222) hx hb dX2_isLatin_8 (by decide) ?_
    refine lv_icmp_ge (tgt := 18) hx hb dX2_isLatin_11 (by decide) (fun c11_1 => ?_) (fun c11_1 => ?_)
    · skip
      refine lv_iconst (v := 0) hx hb dX2_isLatin_18 (by decide) ?_
      exact rtRz hx hb hr (by decide) hlocks dX2_isLatin_19 (by unfold fX2_isLatin; rw [if_neg c4_1, if_pos c11_1])
    · skip
      refine lv_iconst (v := 1) hx hb dX2_isLatin_14 (by decide) ?_
      refine lv_goto (tgt := 19) hx hb dX2_isLatin_15 (by decide) ?_
      exact rtRz hx hb hr (by decide) hlocks dX2_isLatin_19 (by unfold fX2_isLatin; rw [if_neg c4_1, if_neg c11_1])
def fX2_isGreek (a0 : Int32) : Int32 := (if a0 < 913 then 0 else (if 970 ≤ a0 then 0 else 1))
set_option maxHeartbeats 4000000 in
set_option maxRecDepth 100000 in
theorem KX2_isGreek (l : Launch) (a0 : Int32) : Met l yX2_isGreek wsX2_isGreek ({ frames := 0, cells := 0, slots := 0, locals := 0 }) (pcS [.int a0]) (vp_Si (fun r => r = fX2_isGreek a0)) 0 0 (fun _ => False) := by
  refine ofS (cc := cX2_isGreek) (maxL := 1) (ret := (some .boolean)) (by decide) rfl (Nat.le_of_ble_eq_true rfl) ?_
  intro p e s m below meth c ls hx hb hr hml hown hts hlocks hl
  have hl : lv_has ls 1 [(0, .int a0)] := hl
  refine lv_iload_n hx hb dX2_isGreek_0 rfl (lv_at hl 0 rfl) ?_
  refine lv_sipush (v := 913) hx hb dX2_isGreek_1 (by decide) ?_
  refine lv_icmp_lt (tgt := 18) hx hb dX2_isGreek_4 (by decide) (fun c4_1 => ?_) (fun c4_1 => ?_)
  · skip
    refine lv_iconst (v := 0) hx hb dX2_isGreek_18 (by decide) ?_
    exact rtRz hx hb hr (by decide) hlocks dX2_isGreek_19 (by unfold fX2_isGreek; rw [if_pos c4_1])
  · skip
    refine lv_iload_n hx hb dX2_isGreek_7 rfl (lv_at hl 0 rfl) ?_
    refine lv_sipush (v := 970) hx hb dX2_isGreek_8 (by decide) ?_
    refine lv_icmp_ge (tgt := 18) hx hb dX2_isGreek_11 (by decide) (fun c11_1 => ?_) (fun c11_1 => ?_)
    · skip
      refine lv_iconst (v := 0) hx hb dX2_isGreek_18 (by decide) ?_
      exact rtRz hx hb hr (by decide) hlocks dX2_isGreek_19 (by unfold fX2_isGreek; rw [if_neg c4_1, if_pos c11_1])
    · skip
      refine lv_iconst (v := 1) hx hb dX2_isGreek_14 (by decide) ?_
      refine lv_goto (tgt := 19) hx hb dX2_isGreek_15 (by decide) ?_
      exact rtRz hx hb hr (by decide) hlocks dX2_isGreek_19 (by unfold fX2_isGreek; rw [if_neg c4_1, if_neg c11_1])
def fX2_isCyrillic (a0 : Int32) : Int32 := (if a0 < 1040 then 0 else (if 1104 ≤ a0 then 0 else 1))
set_option maxHeartbeats 4000000 in
set_option maxRecDepth 100000 in
theorem KX2_isCyrillic (l : Launch) (a0 : Int32) : Met l yX2_isCyrillic wsX2_isCyrillic ({ frames := 0, cells := 0, slots := 0, locals := 0 }) (pcS [.int a0]) (vp_Si (fun r => r = fX2_isCyrillic a0)) 0 0 (fun _ => False) := by
  refine ofS (cc := cX2_isCyrillic) (maxL := 1) (ret := (some .boolean)) (by decide) rfl (Nat.le_of_ble_eq_true rfl) ?_
  intro p e s m below meth c ls hx hb hr hml hown hts hlocks hl
  have hl : lv_has ls 1 [(0, .int a0)] := hl
  refine lv_iload_n hx hb dX2_isCyrillic_0 rfl (lv_at hl 0 rfl) ?_
  refine lv_sipush (v := 1040) hx hb dX2_isCyrillic_1 (by decide) ?_
  refine lv_icmp_lt (tgt := 18) hx hb dX2_isCyrillic_4 (by decide) (fun c4_1 => ?_) (fun c4_1 => ?_)
  · skip
    refine lv_iconst (v := 0) hx hb dX2_isCyrillic_18 (by decide) ?_
    exact rtRz hx hb hr (by decide) hlocks dX2_isCyrillic_19 (by unfold fX2_isCyrillic; rw [if_pos c4_1])
  · skip
    refine lv_iload_n hx hb dX2_isCyrillic_7 rfl (lv_at hl 0 rfl) ?_
    refine lv_sipush (v := 1104) hx hb dX2_isCyrillic_8 (by decide) ?_
    refine lv_icmp_ge (tgt := 18) hx hb dX2_isCyrillic_11 (by decide) (fun c11_1 => ?_) (fun c11_1 => ?_)
    · skip
      refine lv_iconst (v := 0) hx hb dX2_isCyrillic_18 (by decide) ?_
      exact rtRz hx hb hr (by decide) hlocks dX2_isCyrillic_19 (by unfold fX2_isCyrillic; rw [if_neg c4_1, if_pos c11_1])
    · skip
      refine lv_iconst (v := 1) hx hb dX2_isCyrillic_14 (by decide) ?_
      refine lv_goto (tgt := 19) hx hb dX2_isCyrillic_15 (by decide) ?_
      exact rtRz hx hb hr (by decide) hlocks dX2_isCyrillic_19 (by unfold fX2_isCyrillic; rw [if_neg c4_1, if_neg c11_1])
def fX2_setOf (a0 : Int32) : Int32 := (if (fX2_isLatin a0) = 0 then (if (fX2_isMark a0) = 0 then (if (fX2_isGreek a0) = 0 then (if (fX2_isCyrillic a0) = 0 then (-1) else 2) else 1) else 0) else 0)
set_option maxHeartbeats 4000000 in
set_option maxRecDepth 100000 in
theorem KX2_setOf (l : Launch) (a0 : Int32) : Met l yX2_setOf wsX2_setOf ({ frames := 1, cells := 0, slots := 0, locals := 20 }) (pcS [.int a0]) (vp_Si (fun r => r = fX2_setOf a0)) 0 0 (fun _ => False) := by
  refine ofS (cc := cX2_setOf) (maxL := 1) (ret := (some .int)) (by decide) rfl (Nat.le_of_ble_eq_true rfl) ?_
  intro p e s m below meth c ls hx hb hr hml hown hts hlocks hl
  have hl : lv_has ls 1 [(0, .int a0)] := hl
  refine lv_iload_n hx hb dX2_setOf_0 rfl (lv_at hl 0 rfl) ?_
  refine vp_callSi (W.runS ⟨hx, hb, hml, hown, hts⟩ (KX2_isLatin l a0) (va_cwS 1 hts gX2_setOf_X2_isLatin rfl rfl rfl (by decide +kernel) ⟨Nat.le_of_ble_eq_true rfl, Nat.le_of_ble_eq_true rfl⟩) pcS_S rfl rfl hl.1 rfl (lv_room (Nat.le_of_ble_eq_true rfl)) dX2_setOf_1 ⟨Nat.zero_le _, Nat.zero_le _⟩) (fun r9 hr9 => ?_)
  subst r9
  refine lv_if_ne (tgt := 14) hx hb dX2_setOf_4 (by decide) (fun c4_1 => ?_) (fun c4_1 => ?_)
  · skip
    refine lv_iconst (v := 0) hx hb dX2_setOf_14 (by decide) ?_
    exact rtR hx hb hr hlocks dX2_setOf_15 (by unfold fX2_setOf; rw [if_neg c4_1])
  · skip
    refine lv_iload_n hx hb dX2_setOf_7 rfl (lv_at hl 0 rfl) ?_
    refine vp_callSi (W.runS ⟨hx, hb, hml, hown, hts⟩ (KX2_isMark l a0) (va_cwS 1 hts gX2_setOf_X2_isMark rfl rfl rfl (by decide +kernel) ⟨Nat.le_of_ble_eq_true rfl, Nat.le_of_ble_eq_true rfl⟩) pcS_S rfl rfl hl.1 rfl (lv_room (Nat.le_of_ble_eq_true rfl)) dX2_setOf_8 ⟨Nat.zero_le _, Nat.zero_le _⟩) (fun r9 hr9 => ?_)
    subst r9
    refine lv_if_eq (tgt := 16) hx hb dX2_setOf_11 (by decide) (fun c11_1 => ?_) (fun c11_1 => ?_)
    · skip
      refine lv_iload_n hx hb dX2_setOf_16 rfl (lv_at hl 0 rfl) ?_
      refine vp_callSi (W.runS ⟨hx, hb, hml, hown, hts⟩ (KX2_isGreek l a0) (va_cwS 1 hts gX2_setOf_X2_isGreek rfl rfl rfl (by decide +kernel) ⟨Nat.le_of_ble_eq_true rfl, Nat.le_of_ble_eq_true rfl⟩) pcS_S rfl rfl hl.1 rfl (lv_room (Nat.le_of_ble_eq_true rfl)) dX2_setOf_17 ⟨Nat.zero_le _, Nat.zero_le _⟩) (fun r9 hr9 => ?_)
      subst r9
      refine lv_if_eq (tgt := 25) hx hb dX2_setOf_20 (by decide) (fun c20_1 => ?_) (fun c20_1 => ?_)
      · skip
        refine lv_iload_n hx hb dX2_setOf_25 rfl (lv_at hl 0 rfl) ?_
        refine vp_callSi (W.runS ⟨hx, hb, hml, hown, hts⟩ (KX2_isCyrillic l a0) (va_cwS 1 hts gX2_setOf_X2_isCyrillic rfl rfl rfl (by decide +kernel) ⟨Nat.le_of_ble_eq_true rfl, Nat.le_of_ble_eq_true rfl⟩) pcS_S rfl rfl hl.1 rfl (lv_room (Nat.le_of_ble_eq_true rfl)) dX2_setOf_26 ⟨Nat.zero_le _, Nat.zero_le _⟩) (fun r9 hr9 => ?_)
        subst r9
        refine lv_if_eq (tgt := 36) hx hb dX2_setOf_29 (by decide) (fun c29_1 => ?_) (fun c29_1 => ?_)
        · skip
          refine lv_iconst (v := (-1)) hx hb dX2_setOf_36 (by decide) ?_
          exact rtR hx hb hr hlocks dX2_setOf_37 (by unfold fX2_setOf; rw [if_pos c4_1, if_pos c11_1, if_pos c20_1, if_pos c29_1])
        · skip
          refine lv_iconst (v := 2) hx hb dX2_setOf_32 (by decide) ?_
          refine lv_goto (tgt := 37) hx hb dX2_setOf_33 (by decide) ?_
          exact rtR hx hb hr hlocks dX2_setOf_37 (by unfold fX2_setOf; rw [if_pos c4_1, if_pos c11_1, if_pos c20_1, if_neg c29_1])
      · skip
        refine lv_iconst (v := 1) hx hb dX2_setOf_23 (by decide) ?_
        exact rtR hx hb hr hlocks dX2_setOf_24 (by unfold fX2_setOf; rw [if_pos c4_1, if_pos c11_1, if_neg c20_1])
    · skip
      refine lv_iconst (v := 0) hx hb dX2_setOf_14 (by decide) ?_
      exact rtR hx hb hr hlocks dX2_setOf_15 (by unfold fX2_setOf; rw [if_pos c4_1, if_neg c11_1])
def fX2_placeInSet (a0 : Int32) : Int32 := (if (fX2_isMark a0) = 0 then (if (fX2_isGreek a0) = 0 then (if (fX2_isCyrillic a0) = 0 then (a0 - 192) else (a0 - 1040)) else (a0 - 913)) else ((a0 - 768) + 40))
set_option maxHeartbeats 4000000 in
set_option maxRecDepth 100000 in
theorem KX2_placeInSet (l : Launch) (a0 : Int32) : Met l yX2_placeInSet wsX2_placeInSet ({ frames := 1, cells := 0, slots := 0, locals := 20 }) (pcS [.int a0]) (vp_Si (fun r => r = fX2_placeInSet a0)) 0 0 (fun _ => False) := by
  refine ofS (cc := cX2_placeInSet) (maxL := 1) (ret := (some .int)) (by decide) rfl (Nat.le_of_ble_eq_true rfl) ?_
  intro p e s m below meth c ls hx hb hr hml hown hts hlocks hl
  have hl : lv_has ls 1 [(0, .int a0)] := hl
  refine lv_iload_n hx hb dX2_placeInSet_0 rfl (lv_at hl 0 rfl) ?_
  refine vp_callSi (W.runS ⟨hx, hb, hml, hown, hts⟩ (KX2_isMark l a0) (va_cwS 1 hts gX2_placeInSet_X2_isMark rfl rfl rfl (by decide +kernel) ⟨Nat.le_of_ble_eq_true rfl, Nat.le_of_ble_eq_true rfl⟩) pcS_S rfl rfl hl.1 rfl (lv_room (Nat.le_of_ble_eq_true rfl)) dX2_placeInSet_1 ⟨Nat.zero_le _, Nat.zero_le _⟩) (fun r9 hr9 => ?_)
  subst r9
  refine lv_if_eq (tgt := 16) hx hb dX2_placeInSet_4 (by decide) (fun c4_1 => ?_) (fun c4_1 => ?_)
  · skip
    refine lv_iload_n hx hb dX2_placeInSet_16 rfl (lv_at hl 0 rfl) ?_
    refine vp_callSi (W.runS ⟨hx, hb, hml, hown, hts⟩ (KX2_isGreek l a0) (va_cwS 1 hts gX2_placeInSet_X2_isGreek rfl rfl rfl (by decide +kernel) ⟨Nat.le_of_ble_eq_true rfl, Nat.le_of_ble_eq_true rfl⟩) pcS_S rfl rfl hl.1 rfl (lv_room (Nat.le_of_ble_eq_true rfl)) dX2_placeInSet_17 ⟨Nat.zero_le _, Nat.zero_le _⟩) (fun r9 hr9 => ?_)
    subst r9
    refine lv_if_eq (tgt := 29) hx hb dX2_placeInSet_20 (by decide) (fun c20_1 => ?_) (fun c20_1 => ?_)
    · skip
      refine lv_iload_n hx hb dX2_placeInSet_29 rfl (lv_at hl 0 rfl) ?_
      refine vp_callSi (W.runS ⟨hx, hb, hml, hown, hts⟩ (KX2_isCyrillic l a0) (va_cwS 1 hts gX2_placeInSet_X2_isCyrillic rfl rfl rfl (by decide +kernel) ⟨Nat.le_of_ble_eq_true rfl, Nat.le_of_ble_eq_true rfl⟩) pcS_S rfl rfl hl.1 rfl (lv_room (Nat.le_of_ble_eq_true rfl)) dX2_placeInSet_30 ⟨Nat.zero_le _, Nat.zero_le _⟩) (fun r9 hr9 => ?_)
      subst r9
      refine lv_if_eq (tgt := 44) hx hb dX2_placeInSet_33 (by decide) (fun c33_1 => ?_) (fun c33_1 => ?_)
      · skip
        refine lv_iload_n hx hb dX2_placeInSet_44 rfl (lv_at hl 0 rfl) ?_
        refine lv_sipush (v := 192) hx hb dX2_placeInSet_45 (by decide) ?_
        refine lv_isub hx hb dX2_placeInSet_48 ?_
        exact rtR hx hb hr hlocks dX2_placeInSet_49 (by unfold fX2_placeInSet; rw [if_pos c4_1, if_pos c20_1, if_pos c33_1])
      · skip
        refine lv_iload_n hx hb dX2_placeInSet_36 rfl (lv_at hl 0 rfl) ?_
        refine lv_sipush (v := 1040) hx hb dX2_placeInSet_37 (by decide) ?_
        refine lv_isub hx hb dX2_placeInSet_40 ?_
        refine lv_goto (tgt := 49) hx hb dX2_placeInSet_41 (by decide) ?_
        exact rtR hx hb hr hlocks dX2_placeInSet_49 (by unfold fX2_placeInSet; rw [if_pos c4_1, if_pos c20_1, if_neg c33_1])
    · skip
      refine lv_iload_n hx hb dX2_placeInSet_23 rfl (lv_at hl 0 rfl) ?_
      refine lv_sipush (v := 913) hx hb dX2_placeInSet_24 (by decide) ?_
      refine lv_isub hx hb dX2_placeInSet_27 ?_
      exact rtR hx hb hr hlocks dX2_placeInSet_28 (by unfold fX2_placeInSet; rw [if_pos c4_1, if_neg c20_1])
  · skip
    refine lv_iload_n hx hb dX2_placeInSet_7 rfl (lv_at hl 0 rfl) ?_
    refine lv_sipush (v := 768) hx hb dX2_placeInSet_8 (by decide) ?_
    refine lv_isub hx hb dX2_placeInSet_11 ?_
    refine lv_bipush (v := 40) hx hb dX2_placeInSet_12 (by decide) ?_
    refine lv_iadd hx hb dX2_placeInSet_14 ?_
    exact rtR hx hb hr hlocks dX2_placeInSet_15 (by unfold fX2_placeInSet; rw [if_neg c4_1])
def fX2_codeInRange (a0 a1 a2 : Int32) : Int32 := (if a0 < 0 then 0 else (if a2 ≤ a0 then 0 else (a1 + a0)))
set_option maxHeartbeats 4000000 in
set_option maxRecDepth 100000 in
theorem KX2_codeInRange (l : Launch) (a0 a1 a2 : Int32) : Met l yX2_codeInRange wsX2_codeInRange ({ frames := 0, cells := 0, slots := 0, locals := 0 }) (pcS [.int a0, .int a1, .int a2]) (vp_Si (fun r => r = fX2_codeInRange a0 a1 a2)) 0 0 (fun _ => False) := by
  refine ofS (cc := cX2_codeInRange) (maxL := 3) (ret := (some .int)) (by decide) rfl (Nat.le_of_ble_eq_true rfl) ?_
  intro p e s m below meth c ls hx hb hr hml hown hts hlocks hl
  have hl : lv_has ls 3 [(0, .int a0), (1, .int a1), (2, .int a2)] := hl
  refine lv_iload_n hx hb dX2_codeInRange_0 rfl (lv_at hl 0 rfl) ?_
  refine lv_if_lt (tgt := 15) hx hb dX2_codeInRange_1 (by decide) (fun c1_1 => ?_) (fun c1_1 => ?_)
  · skip
    refine lv_iconst (v := 0) hx hb dX2_codeInRange_15 (by decide) ?_
    exact rtR hx hb hr hlocks dX2_codeInRange_16 (by unfold fX2_codeInRange; rw [if_pos c1_1])
  · skip
    refine lv_iload_n hx hb dX2_codeInRange_4 rfl (lv_at hl 0 rfl) ?_
    refine lv_iload_n hx hb dX2_codeInRange_5 rfl (lv_at hl 2 rfl) ?_
    refine lv_icmp_ge (tgt := 15) hx hb dX2_codeInRange_6 (by decide) (fun c6_1 => ?_) (fun c6_1 => ?_)
    · skip
      refine lv_iconst (v := 0) hx hb dX2_codeInRange_15 (by decide) ?_
      exact rtR hx hb hr hlocks dX2_codeInRange_16 (by unfold fX2_codeInRange; rw [if_neg c1_1, if_pos c6_1])
    · skip
      refine lv_iload_n hx hb dX2_codeInRange_9 rfl (lv_at hl 1 rfl) ?_
      refine lv_iload_n hx hb dX2_codeInRange_10 rfl (lv_at hl 0 rfl) ?_
      refine lv_iadd hx hb dX2_codeInRange_11 ?_
      refine lv_goto (tgt := 16) hx hb dX2_codeInRange_12 (by decide) ?_
      exact rtR hx hb hr hlocks dX2_codeInRange_16 (by unfold fX2_codeInRange; rw [if_neg c1_1, if_neg c6_1])
def fX2_codeInSet (a0 a1 : Int32) : Int32 := (if a0 = 0 then (if (fX2_isMark ((a1 - 40) + 768)) = 0 then (fX2_codeInRange a1 192 30) else ((a1 - 40) + 768)) else (if a0 = 1 then (fX2_codeInRange a1 913 57) else (if a0 = 2 then (fX2_codeInRange a1 1040 64) else 0)))
set_option maxHeartbeats 4000000 in
set_option maxRecDepth 100000 in
theorem KX2_codeInSet (l : Launch) (a0 a1 : Int32) : Met l yX2_codeInSet wsX2_codeInSet ({ frames := 1, cells := 0, slots := 0, locals := 22 }) (pcS [.int a0, .int a1]) (vp_Si (fun r => r = fX2_codeInSet a0 a1)) 0 0 (fun _ => False) := by
  refine ofS (cc := cX2_codeInSet) (maxL := 3) (ret := (some .int)) (by decide) rfl (Nat.le_of_ble_eq_true rfl) ?_
  intro p e s m below meth c ls hx hb hr hml hown hts hlocks hl
  have hl : lv_has ls 3 [(0, .int a0), (1, .int a1)] := hl
  refine lv_iload_n hx hb dX2_codeInSet_0 rfl (lv_at hl 0 rfl) ?_
  refine lv_if_ne (tgt := 34) hx hb dX2_codeInSet_1 (by decide) (fun c1_1 => ?_) (fun c1_1 => ?_)
  · skip
    refine lv_iload_n hx hb dX2_codeInSet_34 rfl (lv_at hl 0 rfl) ?_
    refine lv_iconst (v := 1) hx hb dX2_codeInSet_35 (by decide) ?_
    refine lv_icmp_ne (tgt := 49) hx hb dX2_codeInSet_36 (by decide) (fun c36_1 => ?_) (fun c36_1 => ?_)
    · skip
      refine lv_iload_n hx hb dX2_codeInSet_49 rfl (lv_at hl 0 rfl) ?_
      refine lv_iconst (v := 2) hx hb dX2_codeInSet_50 (by decide) ?_
      refine lv_icmp_ne (tgt := 66) hx hb dX2_codeInSet_51 (by decide) (fun c51_1 => ?_) (fun c51_1 => ?_)
      · skip
        refine lv_iconst (v := 0) hx hb dX2_codeInSet_66 (by decide) ?_
        exact rtR hx hb hr hlocks dX2_codeInSet_67 (by unfold fX2_codeInSet; rw [if_neg c1_1, if_neg c36_1, if_neg c51_1])
      · skip
        refine lv_iload_n hx hb dX2_codeInSet_54 rfl (lv_at hl 1 rfl) ?_
        refine lv_sipush (v := 1040) hx hb dX2_codeInSet_55 (by decide) ?_
        refine lv_bipush (v := 64) hx hb dX2_codeInSet_58 (by decide) ?_
        refine vp_callSi (W.runS ⟨hx, hb, hml, hown, hts⟩ (KX2_codeInRange l a1 1040 64) (va_cwS 3 hts gX2_codeInSet_X2_codeInRange rfl rfl rfl (by decide +kernel) ⟨Nat.le_of_ble_eq_true rfl, Nat.le_of_ble_eq_true rfl⟩) pcS_S rfl rfl hl.1 rfl (lv_room (Nat.le_of_ble_eq_true rfl)) dX2_codeInSet_60 ⟨Nat.zero_le _, Nat.zero_le _⟩) (fun r9 hr9 => ?_)
        subst r9
        refine lv_goto (tgt := 67) hx hb dX2_codeInSet_63 (by decide) ?_
        exact rtR hx hb hr hlocks dX2_codeInSet_67 (by unfold fX2_codeInSet; rw [if_neg c1_1, if_neg c36_1, if_pos c51_1])
    · skip
      refine lv_iload_n hx hb dX2_codeInSet_39 rfl (lv_at hl 1 rfl) ?_
      refine lv_sipush (v := 913) hx hb dX2_codeInSet_40 (by decide) ?_
      refine lv_bipush (v := 57) hx hb dX2_codeInSet_43 (by decide) ?_
      refine vp_callSi (W.runS ⟨hx, hb, hml, hown, hts⟩ (KX2_codeInRange l a1 913 57) (va_cwS 3 hts gX2_codeInSet_X2_codeInRange rfl rfl rfl (by decide +kernel) ⟨Nat.le_of_ble_eq_true rfl, Nat.le_of_ble_eq_true rfl⟩) pcS_S rfl rfl hl.1 rfl (lv_room (Nat.le_of_ble_eq_true rfl)) dX2_codeInSet_45 ⟨Nat.zero_le _, Nat.zero_le _⟩) (fun r9 hr9 => ?_)
      subst r9
      exact rtR hx hb hr hlocks dX2_codeInSet_48 (by unfold fX2_codeInSet; rw [if_neg c1_1, if_pos c36_1])
  · skip
    refine lv_iload_n hx hb dX2_codeInSet_4 rfl (lv_at hl 1 rfl) ?_
    refine lv_bipush (v := 40) hx hb dX2_codeInSet_5 (by decide) ?_
    refine lv_isub hx hb dX2_codeInSet_7 ?_
    refine lv_sipush (v := 768) hx hb dX2_codeInSet_8 (by decide) ?_
    refine lv_iadd hx hb dX2_codeInSet_11 ?_
    refine lv_istore_n (lv' := [(2, .int ((a1 - 40) + 768)), (0, .int a0), (1, .int a1)]) hx hb dX2_codeInSet_12 rfl hl (by decide) rfl (fun ls hl => ?_)
    refine lv_iload_n hx hb dX2_codeInSet_13 rfl (lv_at hl 0 rfl) ?_
    refine vp_callSi (W.runS ⟨hx, hb, hml, hown, hts⟩ (KX2_isMark l ((a1 - 40) + 768)) (va_cwS 1 hts gX2_codeInSet_X2_isMark rfl rfl rfl (by decide +kernel) ⟨Nat.le_of_ble_eq_true rfl, Nat.le_of_ble_eq_true rfl⟩) pcS_S rfl rfl hl.1 rfl (lv_room (Nat.le_of_ble_eq_true rfl)) dX2_codeInSet_14 ⟨Nat.zero_le _, Nat.zero_le _⟩) (fun r9 hr9 => ?_)
    subst r9
    refine lv_if_eq (tgt := 24) hx hb dX2_codeInSet_17 (by decide) (fun c17_1 => ?_) (fun c17_1 => ?_)
    · skip
      refine lv_iload_n hx hb dX2_codeInSet_24 rfl (lv_at hl 2 rfl) ?_
      refine lv_sipush (v := 192) hx hb dX2_codeInSet_25 (by decide) ?_
      refine lv_bipush (v := 30) hx hb dX2_codeInSet_28 (by decide) ?_
      refine vp_callSi (W.runS ⟨hx, hb, hml, hown, hts⟩ (KX2_codeInRange l a1 192 30) (va_cwS 3 hts gX2_codeInSet_X2_codeInRange rfl rfl rfl (by decide +kernel) ⟨Nat.le_of_ble_eq_true rfl, Nat.le_of_ble_eq_true rfl⟩) pcS_S rfl rfl hl.1 rfl (lv_room (Nat.le_of_ble_eq_true rfl)) dX2_codeInSet_30 ⟨Nat.zero_le _, Nat.zero_le _⟩) (fun r9 hr9 => ?_)
      subst r9
      exact rtR hx hb hr hlocks dX2_codeInSet_33 (by unfold fX2_codeInSet; rw [if_pos c1_1, if_pos c17_1])
    · skip
      refine lv_iload_n hx hb dX2_codeInSet_20 rfl (lv_at hl 0 rfl) ?_
      refine lv_goto (tgt := 33) hx hb dX2_codeInSet_21 (by decide) ?_
      exact rtR hx hb hr hlocks dX2_codeInSet_33 (by unfold fX2_codeInSet; rw [if_pos c1_1, if_neg c17_1])
def fX2_codeOfOldByte (a0 a1 : Int32) : Int32 := (if (fX2_isPlain a0) = 0 then (fX2_codeInSet a1 (a0 - 161)) else a0)
set_option maxHeartbeats 4000000 in
set_option maxRecDepth 100000 in
theorem KX2_codeOfOldByte (l : Launch) (a0 a1 : Int32) : Met l yX2_codeOfOldByte wsX2_codeOfOldByte ({ frames := 2, cells := 0, slots := 0, locals := 44 }) (pcS [.int a0, .int a1]) (vp_Si (fun r => r = fX2_codeOfOldByte a0 a1)) 0 0 (fun _ => False) := by
  refine ofS (cc := cX2_codeOfOldByte) (maxL := 2) (ret := (some .int)) (by decide) rfl (Nat.le_of_ble_eq_true rfl) ?_
  intro p e s m below meth c ls hx hb hr hml hown hts hlocks hl
  have hl : lv_has ls 2 [(0, .int a0), (1, .int a1)] := hl
  refine lv_iload_n hx hb dX2_codeOfOldByte_0 rfl (lv_at hl 0 rfl) ?_
  refine vp_callSi (W.runS ⟨hx, hb, hml, hown, hts⟩ (KX2_isPlain l a0) (va_cwS 1 hts gX2_codeOfOldByte_X2_isPlain rfl rfl rfl (by decide +kernel) ⟨Nat.le_of_ble_eq_true rfl, Nat.le_of_ble_eq_true rfl⟩) pcS_S rfl rfl hl.1 rfl (lv_room (Nat.le_of_ble_eq_true rfl)) dX2_codeOfOldByte_1 ⟨Nat.zero_le _, Nat.zero_le _⟩) (fun r9 hr9 => ?_)
  subst r9
  refine lv_if_eq (tgt := 11) hx hb dX2_codeOfOldByte_4 (by decide) (fun c4_1 => ?_) (fun c4_1 => ?_)
  · skip
    refine lv_iload_n hx hb dX2_codeOfOldByte_11 rfl (lv_at hl 1 rfl) ?_
    refine lv_iload_n hx hb dX2_codeOfOldByte_12 rfl (lv_at hl 0 rfl) ?_
    refine lv_sipush (v := 161) hx hb dX2_codeOfOldByte_13 (by decide) ?_
    refine lv_isub hx hb dX2_codeOfOldByte_16 ?_
    refine vp_callSi (W.runS ⟨hx, hb, hml, hown, hts⟩ (KX2_codeInSet l a1 (a0 - 161)) (va_cwS 2 hts gX2_codeOfOldByte_X2_codeInSet rfl rfl rfl (by decide +kernel) ⟨Nat.le_of_ble_eq_true rfl, Nat.le_of_ble_eq_true rfl⟩) pcS_S rfl rfl hl.1 rfl (lv_room (Nat.le_of_ble_eq_true rfl)) dX2_codeOfOldByte_17 ⟨Nat.zero_le _, Nat.zero_le _⟩) (fun r9 hr9 => ?_)
    subst r9
    exact rtR hx hb hr hlocks dX2_codeOfOldByte_20 (by unfold fX2_codeOfOldByte; rw [if_pos c4_1])
  · skip
    refine lv_iload_n hx hb dX2_codeOfOldByte_7 rfl (lv_at hl 0 rfl) ?_
    refine lv_goto (tgt := 20) hx hb dX2_codeOfOldByte_8 (by decide) ?_
    exact rtR hx hb hr hlocks dX2_codeOfOldByte_20 (by unfold fX2_codeOfOldByte; rw [if_neg c4_1])
def fX2_bytesBehindFirst (a0 : Int32) : Int32 := (if 128 ≤ a0 then (if 2048 ≤ a0 then 2 else 1) else 0)
set_option maxHeartbeats 4000000 in
set_option maxRecDepth 100000 in
theorem KX2_bytesBehindFirst (l : Launch) (a0 : Int32) : Met l yX2_bytesBehindFirst wsX2_bytesBehindFirst ({ frames := 0, cells := 0, slots := 0, locals := 0 }) (pcS [.int a0]) (vp_Si (fun r => r = fX2_bytesBehindFirst a0)) 0 0 (fun _ => False) := by
  refine ofS (cc := cX2_bytesBehindFirst) (maxL := 1) (ret := (some .int)) (by decide) rfl (Nat.le_of_ble_eq_true rfl) ?_
  intro p e s m below meth c ls hx hb hr hml hown hts hlocks hl
  have hl : lv_has ls 1 [(0, .int a0)] := hl
  refine lv_iload_n hx hb dX2_bytesBehindFirst_0 rfl (lv_at hl 0 rfl) ?_
  refine lv_sipush (v := 128) hx hb dX2_bytesBehindFirst_1 (by decide) ?_
  refine lv_icmp_ge (tgt := 9) hx hb dX2_bytesBehindFirst_4 (by decide) (fun c4_1 => ?_) (fun c4_1 => ?_)
  · skip
    refine lv_iload_n hx hb dX2_bytesBehindFirst_9 rfl (lv_at hl 0 rfl) ?_
    refine lv_sipush (v := 2048) hx hb dX2_bytesBehindFirst_10 (by decide) ?_
    refine lv_icmp_ge (tgt := 20) hx hb dX2_bytesBehindFirst_13 (by decide) (fun c13_1 => ?_) (fun c13_1 => ?_)
    · skip
      refine lv_iconst (v := 2) hx hb dX2_bytesBehindFirst_20 (by decide) ?_
      exact rtR hx hb hr hlocks dX2_bytesBehindFirst_21 (by unfold fX2_bytesBehindFirst; rw [if_pos c4_1, if_pos c13_1])
    · skip
      refine lv_iconst (v := 1) hx hb dX2_bytesBehindFirst_16 (by decide) ?_
      refine lv_goto (tgt := 21) hx hb dX2_bytesBehindFirst_17 (by decide) ?_
      exact rtR hx hb hr hlocks dX2_bytesBehindFirst_21 (by unfold fX2_bytesBehindFirst; rw [if_pos c4_1, if_neg c13_1])
  · skip
    refine lv_iconst (v := 0) hx hb dX2_bytesBehindFirst_7 (by decide) ?_
    exact rtR hx hb hr hlocks dX2_bytesBehindFirst_8 (by unfold fX2_bytesBehindFirst; rw [if_neg c4_1])
def fX3_placed (a0 a1 : Int32) : Int32 := (if a0 = 0 then (if 30 ≤ a1 then (if a1 < 40 then 0 else (if 55 ≤ a1 then 0 else (728 + a1))) else (192 + a1)) else (if a0 = 1 then (if 57 ≤ a1 then 0 else (913 + a1)) else (if 64 ≤ a1 then 0 else (1040 + a1))))
set_option maxHeartbeats 4000000 in
set_option maxRecDepth 100000 in
theorem KX3_placed (l : Launch) (a0 a1 : Int32) : Met l yX3_placed wsX3_placed ({ frames := 0, cells := 0, slots := 0, locals := 0 }) (pcS [.int a0, .int a1]) (vp_Si (fun r => r = fX3_placed a0 a1)) 0 0 (fun _ => False) := by
  refine ofS (cc := cX3_placed) (maxL := 2) (ret := (some .int)) (by decide) rfl (Nat.le_of_ble_eq_true rfl) ?_
  intro p e s m below meth c ls hx hb hr hml hown hts hlocks hl
  have hl : lv_has ls 2 [(0, .int a0), (1, .int a1)] := hl
  refine lv_iload_n hx hb dX3_placed_0 rfl (lv_at hl 0 rfl) ?_
  refine lv_if_ne (tgt := 40) hx hb dX3_placed_1 (by decide) (fun c1_1 => ?_) (fun c1_1 => ?_)
  · skip
    refine lv_iload_n hx hb dX3_placed_40 rfl (lv_at hl 0 rfl) ?_
    refine lv_iconst (v := 1) hx hb dX3_placed_41 (by decide) ?_
    refine lv_icmp_ne (tgt := 63) hx hb dX3_placed_42 (by decide) (fun c42_1 => ?_) (fun c42_1 => ?_)
    · skip
      refine lv_iload_n hx hb dX3_placed_63 rfl (lv_at hl 1 rfl) ?_
      refine lv_bipush (v := 64) hx hb dX3_placed_64 (by decide) ?_
      refine lv_icmp_ge (tgt := 77) hx hb dX3_placed_66 (by decide) (fun c66_1 => ?_) (fun c66_1 => ?_)
      · skip
        refine lv_iconst (v := 0) hx hb dX3_placed_77 (by decide) ?_
        exact rtR hx hb hr hlocks dX3_placed_78 (by unfold fX3_placed; rw [if_neg c1_1, if_neg c42_1, if_pos c66_1])
      · skip
        refine lv_sipush (v := 1040) hx hb dX3_placed_69 (by decide) ?_
        refine lv_iload_n hx hb dX3_placed_72 rfl (lv_at hl 1 rfl) ?_
        refine lv_iadd hx hb dX3_placed_73 ?_
        refine lv_goto (tgt := 78) hx hb dX3_placed_74 (by decide) ?_
        exact rtR hx hb hr hlocks dX3_placed_78 (by unfold fX3_placed; rw [if_neg c1_1, if_neg c42_1, if_neg c66_1])
    · skip
      refine lv_iload_n hx hb dX3_placed_45 rfl (lv_at hl 1 rfl) ?_
      refine lv_bipush (v := 57) hx hb dX3_placed_46 (by decide) ?_
      refine lv_icmp_ge (tgt := 59) hx hb dX3_placed_48 (by decide) (fun c48_1 => ?_) (fun c48_1 => ?_)
      · skip
        refine lv_iconst (v := 0) hx hb dX3_placed_59 (by decide) ?_
        refine lv_goto (tgt := 78) hx hb dX3_placed_60 (by decide) ?_
        exact rtR hx hb hr hlocks dX3_placed_78 (by unfold fX3_placed; rw [if_neg c1_1, if_pos c42_1, if_pos c48_1])
      · skip
        refine lv_sipush (v := 913) hx hb dX3_placed_51 (by decide) ?_
        refine lv_iload_n hx hb dX3_placed_54 rfl (lv_at hl 1 rfl) ?_
        refine lv_iadd hx hb dX3_placed_55 ?_
        refine lv_goto (tgt := 78) hx hb dX3_placed_56 (by decide) ?_
        exact rtR hx hb hr hlocks dX3_placed_78 (by unfold fX3_placed; rw [if_neg c1_1, if_pos c42_1, if_neg c48_1])
  · skip
    refine lv_iload_n hx hb dX3_placed_4 rfl (lv_at hl 1 rfl) ?_
    refine lv_bipush (v := 30) hx hb dX3_placed_5 (by decide) ?_
    refine lv_icmp_ge (tgt := 18) hx hb dX3_placed_7 (by decide) (fun c7_1 => ?_) (fun c7_1 => ?_)
    · skip
      refine lv_iload_n hx hb dX3_placed_18 rfl (lv_at hl 1 rfl) ?_
      refine lv_bipush (v := 40) hx hb dX3_placed_19 (by decide) ?_
      refine lv_icmp_lt (tgt := 38) hx hb dX3_placed_21 (by decide) (fun c21_1 => ?_) (fun c21_1 => ?_)
      · skip
        refine lv_iconst (v := 0) hx hb dX3_placed_38 (by decide) ?_
        exact rtR hx hb hr hlocks dX3_placed_39 (by unfold fX3_placed; rw [if_pos c1_1, if_pos c7_1, if_pos c21_1])
      · skip
        refine lv_iload_n hx hb dX3_placed_24 rfl (lv_at hl 1 rfl) ?_
        refine lv_bipush (v := 55) hx hb dX3_placed_25 (by decide) ?_
        refine lv_icmp_ge (tgt := 38) hx hb dX3_placed_27 (by decide) (fun c27_1 => ?_) (fun c27_1 => ?_)
        · skip
          refine lv_iconst (v := 0) hx hb dX3_placed_38 (by decide) ?_
          exact rtR hx hb hr hlocks dX3_placed_39 (by unfold fX3_placed; rw [if_pos c1_1, if_pos c7_1, if_neg c21_1, if_pos c27_1])
        · skip
          refine lv_sipush (v := 728) hx hb dX3_placed_30 (by decide) ?_
          refine lv_iload_n hx hb dX3_placed_33 rfl (lv_at hl 1 rfl) ?_
          refine lv_iadd hx hb dX3_placed_34 ?_
          refine lv_goto (tgt := 39) hx hb dX3_placed_35 (by decide) ?_
          exact rtR hx hb hr hlocks dX3_placed_39 (by unfold fX3_placed; rw [if_pos c1_1, if_pos c7_1, if_neg c21_1, if_neg c27_1])
    · skip
      refine lv_sipush (v := 192) hx hb dX3_placed_10 (by decide) ?_
      refine lv_iload_n hx hb dX3_placed_13 rfl (lv_at hl 1 rfl) ?_
      refine lv_iadd hx hb dX3_placed_14 ?_
      refine lv_goto (tgt := 39) hx hb dX3_placed_15 (by decide) ?_
      exact rtR hx hb hr hlocks dX3_placed_39 (by unfold fX3_placed; rw [if_pos c1_1, if_neg c7_1])
def fX3_isMark (a0 : Int32) : Int32 := (if a0 < 768 then 0 else (if 782 < a0 then 0 else 1))
set_option maxHeartbeats 4000000 in
set_option maxRecDepth 100000 in
theorem KX3_isMark (l : Launch) (a0 : Int32) : Met l yX3_isMark wsX3_isMark ({ frames := 0, cells := 0, slots := 0, locals := 0 }) (pcS [.int a0]) (vp_Si (fun r => r = fX3_isMark a0)) 0 0 (fun _ => False) := by
  refine ofS (cc := cX3_isMark) (maxL := 1) (ret := (some .boolean)) (by decide) rfl (Nat.le_of_ble_eq_true rfl) ?_
  intro p e s m below meth c ls hx hb hr hml hown hts hlocks hl
  have hl : lv_has ls 1 [(0, .int a0)] := hl
  refine lv_iload_n hx hb dX3_isMark_0 rfl (lv_at hl 0 rfl) ?_
  refine lv_sipush (v := 768) hx hb dX3_isMark_1 (by decide) ?_
  refine lv_icmp_lt (tgt := 18) hx hb dX3_isMark_4 (by decide) (fun c4_1 => ?_) (fun c4_1 => ?_)
  · skip
    refine lv_iconst (v := 0) hx hb dX3_isMark_18 (by decide) ?_
    exact rtRz hx hb hr (by decide) hlocks dX3_isMark_19 (by unfold fX3_isMark; rw [if_pos c4_1])
  · skip
    refine lv_iload_n hx hb dX3_isMark_7 rfl (lv_at hl 0 rfl) ?_
    refine lv_sipush (v := 782) hx hb dX3_isMark_8 (by decide) ?_
    refine lv_icmp_gt (tgt := 18) hx hb dX3_isMark_11 (by decide) (fun c11_1 => ?_) (fun c11_1 => ?_)
    · skip
      refine lv_iconst (v := 0) hx hb dX3_isMark_18 (by decide) ?_
      exact rtRz hx hb hr (by decide) hlocks dX3_isMark_19 (by unfold fX3_isMark; rw [if_neg c4_1, if_pos c11_1])
    · skip
      refine lv_iconst (v := 1) hx hb dX3_isMark_14 (by decide) ?_
      refine lv_goto (tgt := 19) hx hb dX3_isMark_15 (by decide) ?_
      exact rtRz hx hb hr (by decide) hlocks dX3_isMark_19 (by unfold fX3_isMark; rw [if_neg c4_1, if_neg c11_1])
def fX3_isLetter (a0 : Int32) : Int32 := (if a0 < 65 then (if a0 < 97 then 0 else (if 122 < a0 then 0 else 1)) else (if a0 ≤ 90 then 1 else (if a0 < 97 then 0 else (if 122 < a0 then 0 else 1))))
set_option maxHeartbeats 4000000 in
set_option maxRecDepth 100000 in
theorem KX3_isLetter (l : Launch) (a0 : Int32) : Met l yX3_isLetter wsX3_isLetter ({ frames := 0, cells := 0, slots := 0, locals := 0 }) (pcS [.int a0]) (vp_Si (fun r => r = fX3_isLetter a0)) 0 0 (fun _ => False) := by
  refine ofS (cc := cX3_isLetter) (maxL := 1) (ret := (some .boolean)) (by decide) rfl (Nat.le_of_ble_eq_true rfl) ?_
  intro p e s m below meth c ls hx hb hr hml hown hts hlocks hl
  have hl : lv_has ls 1 [(0, .int a0)] := hl
  refine lv_iload_n hx hb dX3_isLetter_0 rfl (lv_at hl 0 rfl) ?_
  refine lv_bipush (v := 65) hx hb dX3_isLetter_1 (by decide) ?_
  refine lv_icmp_lt (tgt := 12) hx hb dX3_isLetter_3 (by decide) (fun c3_1 => ?_) (fun c3_1 => ?_)
  · skip
    refine lv_iload_n hx hb dX3_isLetter_12 rfl (lv_at hl 0 rfl) ?_
    refine lv_bipush (v := 97) hx hb dX3_isLetter_13 (by decide) ?_
    refine lv_icmp_lt (tgt := 28) hx hb dX3_isLetter_15 (by decide) (fun c15_1 => ?_) (fun c15_1 => ?_)
    · skip
      refine lv_iconst (v := 0) hx hb dX3_isLetter_28 (by decide) ?_
      exact rtRz hx hb hr (by decide) hlocks dX3_isLetter_29 (by unfold fX3_isLetter; rw [if_pos c3_1, if_pos c15_1])
    · skip
      refine lv_iload_n hx hb dX3_isLetter_18 rfl (lv_at hl 0 rfl) ?_
      refine lv_bipush (v := 122) hx hb dX3_isLetter_19 (by decide) ?_
      refine lv_icmp_gt (tgt := 28) hx hb dX3_isLetter_21 (by decide) (fun c21_1 => ?_) (fun c21_1 => ?_)
      · skip
        refine lv_iconst (v := 0) hx hb dX3_isLetter_28 (by decide) ?_
        exact rtRz hx hb hr (by decide) hlocks dX3_isLetter_29 (by unfold fX3_isLetter; rw [if_pos c3_1, if_neg c15_1, if_pos c21_1])
      · skip
        refine lv_iconst (v := 1) hx hb dX3_isLetter_24 (by decide) ?_
        refine lv_goto (tgt := 29) hx hb dX3_isLetter_25 (by decide) ?_
        exact rtRz hx hb hr (by decide) hlocks dX3_isLetter_29 (by unfold fX3_isLetter; rw [if_pos c3_1, if_neg c15_1, if_neg c21_1])
  · skip
    refine lv_iload_n hx hb dX3_isLetter_6 rfl (lv_at hl 0 rfl) ?_
    refine lv_bipush (v := 90) hx hb dX3_isLetter_7 (by decide) ?_
    refine lv_icmp_le (tgt := 24) hx hb dX3_isLetter_9 (by decide) (fun c9_1 => ?_) (fun c9_1 => ?_)
    · skip
      refine lv_iconst (v := 1) hx hb dX3_isLetter_24 (by decide) ?_
      refine lv_goto (tgt := 29) hx hb dX3_isLetter_25 (by decide) ?_
      exact rtRz hx hb hr (by decide) hlocks dX3_isLetter_29 (by unfold fX3_isLetter; rw [if_neg c3_1, if_pos c9_1])
    · skip
      refine lv_iload_n hx hb dX3_isLetter_12 rfl (lv_at hl 0 rfl) ?_
      refine lv_bipush (v := 97) hx hb dX3_isLetter_13 (by decide) ?_
      refine lv_icmp_lt (tgt := 28) hx hb dX3_isLetter_15 (by decide) (fun c15_2 => ?_) (fun c15_2 => ?_)
      · skip
        refine lv_iconst (v := 0) hx hb dX3_isLetter_28 (by decide) ?_
        exact rtRz hx hb hr (by decide) hlocks dX3_isLetter_29 (by unfold fX3_isLetter; rw [if_neg c3_1, if_neg c9_1, if_pos c15_2])
      · skip
        refine lv_iload_n hx hb dX3_isLetter_18 rfl (lv_at hl 0 rfl) ?_
        refine lv_bipush (v := 122) hx hb dX3_isLetter_19 (by decide) ?_
        refine lv_icmp_gt (tgt := 28) hx hb dX3_isLetter_21 (by decide) (fun c21_2 => ?_) (fun c21_2 => ?_)
        · skip
          refine lv_iconst (v := 0) hx hb dX3_isLetter_28 (by decide) ?_
          exact rtRz hx hb hr (by decide) hlocks dX3_isLetter_29 (by unfold fX3_isLetter; rw [if_neg c3_1, if_neg c9_1, if_neg c15_2, if_pos c21_2])
        · skip
          refine lv_iconst (v := 1) hx hb dX3_isLetter_24 (by decide) ?_
          refine lv_goto (tgt := 29) hx hb dX3_isLetter_25 (by decide) ?_
          exact rtRz hx hb hr (by decide) hlocks dX3_isLetter_29 (by unfold fX3_isLetter; rw [if_neg c3_1, if_neg c9_1, if_neg c15_2, if_neg c21_2])
def fX3_isPlain (a0 : Int32) : Int32 := (if a0 < 32 then 0 else (if 126 < a0 then 0 else 1))
set_option maxHeartbeats 4000000 in
set_option maxRecDepth 100000 in
theorem KX3_isPlain (l : Launch) (a0 : Int32) : Met l yX3_isPlain wsX3_isPlain ({ frames := 0, cells := 0, slots := 0, locals := 0 }) (pcS [.int a0]) (vp_Si (fun r => r = fX3_isPlain a0)) 0 0 (fun _ => False) := by
  refine ofS (cc := cX3_isPlain) (maxL := 1) (ret := (some .boolean)) (by decide) rfl (Nat.le_of_ble_eq_true rfl) ?_
  intro p e s m below meth c ls hx hb hr hml hown hts hlocks hl
  have hl : lv_has ls 1 [(0, .int a0)] := hl
  refine lv_iload_n hx hb dX3_isPlain_0 rfl (lv_at hl 0 rfl) ?_
  refine lv_bipush (v := 32) hx hb dX3_isPlain_1 (by decide) ?_
  refine lv_icmp_lt (tgt := 16) hx hb dX3_isPlain_3 (by decide) (fun c3_1 => ?_) (fun c3_1 => ?_)
  · skip
    refine lv_iconst (v := 0) hx hb dX3_isPlain_16 (by decide) ?_
    exact rtRz hx hb hr (by decide) hlocks dX3_isPlain_17 (by unfold fX3_isPlain; rw [if_pos c3_1])
  · skip
    refine lv_iload_n hx hb dX3_isPlain_6 rfl (lv_at hl 0 rfl) ?_
    refine lv_bipush (v := 126) hx hb dX3_isPlain_7 (by decide) ?_
    refine lv_icmp_gt (tgt := 16) hx hb dX3_isPlain_9 (by decide) (fun c9_1 => ?_) (fun c9_1 => ?_)
    · skip
      refine lv_iconst (v := 0) hx hb dX3_isPlain_16 (by decide) ?_
      exact rtRz hx hb hr (by decide) hlocks dX3_isPlain_17 (by unfold fX3_isPlain; rw [if_neg c3_1, if_pos c9_1])
    · skip
      refine lv_iconst (v := 1) hx hb dX3_isPlain_12 (by decide) ?_
      refine lv_goto (tgt := 17) hx hb dX3_isPlain_13 (by decide) ?_
      exact rtRz hx hb hr (by decide) hlocks dX3_isPlain_17 (by unfold fX3_isPlain; rw [if_neg c3_1, if_neg c9_1])
def fX3_letterOf (a0 : Int32) : Int32 := (((a0 - 57344) - (a0 - 57344) / 64 * 64) + 64)
set_option maxHeartbeats 4000000 in
set_option maxRecDepth 100000 in
theorem KX3_letterOf (l : Launch) (a0 : Int32) : Met l yX3_letterOf wsX3_letterOf ({ frames := 0, cells := 0, slots := 0, locals := 0 }) (pcS [.int a0]) (vp_Si (fun r => r = fX3_letterOf a0)) 0 0 (fun _ => False) := by
  refine ofS (cc := cX3_letterOf) (maxL := 1) (ret := (some .int)) (by decide) rfl (Nat.le_of_ble_eq_true rfl) ?_
  intro p e s m below meth c ls hx hb hr hml hown hts hlocks hl
  have hl : lv_has ls 1 [(0, .int a0)] := hl
  refine lv_iload_n hx hb dX3_letterOf_0 rfl (lv_at hl 0 rfl) ?_
  refine lv_ldc (v := 57344) hx hb hown (hts (.constant RX3 46 57344) (by decide +kernel)) dX3_letterOf_1 ?_
  refine lv_isub hx hb dX3_letterOf_3 ?_
  refine lv_bipush (v := 64) hx hb dX3_letterOf_4 (by decide) ?_
  refine lv_irem hx hb dX3_letterOf_6 (by decide) ?_
  refine lv_bipush (v := 64) hx hb dX3_letterOf_7 (by decide) ?_
  refine lv_iadd hx hb dX3_letterOf_9 ?_
  exact rtR hx hb hr hlocks dX3_letterOf_10 (by rfl)
def fX3_markOf (a0 : Int32) : Int32 := (768 + ((a0 - 57344) / 64))
set_option maxHeartbeats 4000000 in
set_option maxRecDepth 100000 in
theorem KX3_markOf (l : Launch) (a0 : Int32) : Met l yX3_markOf wsX3_markOf ({ frames := 0, cells := 0, slots := 0, locals := 0 }) (pcS [.int a0]) (vp_Si (fun r => r = fX3_markOf a0)) 0 0 (fun _ => False) := by
  refine ofS (cc := cX3_markOf) (maxL := 1) (ret := (some .int)) (by decide) rfl (Nat.le_of_ble_eq_true rfl) ?_
  intro p e s m below meth c ls hx hb hr hml hown hts hlocks hl
  have hl : lv_has ls 1 [(0, .int a0)] := hl
  refine lv_sipush (v := 768) hx hb dX3_markOf_0 (by decide) ?_
  refine lv_iload_n hx hb dX3_markOf_3 rfl (lv_at hl 0 rfl) ?_
  refine lv_ldc (v := 57344) hx hb hown (hts (.constant RX3 46 57344) (by decide +kernel)) dX3_markOf_4 ?_
  refine lv_isub hx hb dX3_markOf_6 ?_
  refine lv_bipush (v := 64) hx hb dX3_markOf_7 (by decide) ?_
  refine lv_idiv hx hb dX3_markOf_9 (by decide) ?_
  refine lv_iadd hx hb dX3_markOf_10 ?_
  exact rtR hx hb hr hlocks dX3_markOf_11 (by rfl)
def fX3_isComposed (a0 : Int32) : Int32 := (if a0 < 57344 then 0 else (if 58304 ≤ a0 then 0 else (if (fX3_isLetter (((a0 - 57344) - (a0 - 57344) / 64 * 64) + 64)) = 0 then 0 else 1)))
set_option maxHeartbeats 4000000 in
set_option maxRecDepth 100000 in
theorem KX3_isComposed (l : Launch) (a0 : Int32) : Met l yX3_isComposed wsX3_isComposed ({ frames := 1, cells := 0, slots := 0, locals := 20 }) (pcS [.int a0]) (vp_Si (fun r => r = fX3_isComposed a0)) 0 0 (fun _ => False) := by
  refine ofS (cc := cX3_isComposed) (maxL := 1) (ret := (some .boolean)) (by decide) rfl (Nat.le_of_ble_eq_true rfl) ?_
  intro p e s m below meth c ls hx hb hr hml hown hts hlocks hl
  have hl : lv_has ls 1 [(0, .int a0)] := hl
  refine lv_iload_n hx hb dX3_isComposed_0 rfl (lv_at hl 0 rfl) ?_
  refine lv_ldc (v := 57344) hx hb hown (hts (.constant RX3 46 57344) (by decide +kernel)) dX3_isComposed_1 ?_
  refine lv_icmp_lt (tgt := 32) hx hb dX3_isComposed_3 (by decide) (fun c3_1 => ?_) (fun c3_1 => ?_)
  · skip
    refine lv_iconst (v := 0) hx hb dX3_isComposed_32 (by decide) ?_
    exact rtRz hx hb hr (by decide) hlocks dX3_isComposed_33 (by unfold fX3_isComposed; rw [if_pos c3_1])
  · skip
    refine lv_iload_n hx hb dX3_isComposed_6 rfl (lv_at hl 0 rfl) ?_
    refine lv_ldc (v := 58304) hx hb hown (hts (.constant RX3 47 58304) (by decide +kernel)) dX3_isComposed_7 ?_
    refine lv_icmp_ge (tgt := 32) hx hb dX3_isComposed_9 (by decide) (fun c9_1 => ?_) (fun c9_1 => ?_)
    · skip
      refine lv_iconst (v := 0) hx hb dX3_isComposed_32 (by decide) ?_
      exact rtRz hx hb hr (by decide) hlocks dX3_isComposed_33 (by unfold fX3_isComposed; rw [if_neg c3_1, if_pos c9_1])
    · skip
      refine lv_iload_n hx hb dX3_isComposed_12 rfl (lv_at hl 0 rfl) ?_
      refine lv_ldc (v := 57344) hx hb hown (hts (.constant RX3 46 57344) (by decide +kernel)) dX3_isComposed_13 ?_
      refine lv_isub hx hb dX3_isComposed_15 ?_
      refine lv_bipush (v := 64) hx hb dX3_isComposed_16 (by decide) ?_
      refine lv_irem hx hb dX3_isComposed_18 (by decide) ?_
      refine lv_bipush (v := 64) hx hb dX3_isComposed_19 (by decide) ?_
      refine lv_iadd hx hb dX3_isComposed_21 ?_
      refine vp_callSi (W.runS ⟨hx, hb, hml, hown, hts⟩ (KX3_isLetter l (((a0 - 57344) - (a0 - 57344) / 64 * 64) + 64)) (va_cwS 1 hts gX3_isComposed_X3_isLetter rfl rfl rfl (by decide +kernel) ⟨Nat.le_of_ble_eq_true rfl, Nat.le_of_ble_eq_true rfl⟩) pcS_S rfl rfl hl.1 rfl (lv_room (Nat.le_of_ble_eq_true rfl)) dX3_isComposed_22 ⟨Nat.zero_le _, Nat.zero_le _⟩) (fun r9 hr9 => ?_)
      subst r9
      refine lv_if_eq (tgt := 32) hx hb dX3_isComposed_25 (by decide) (fun c25_1 => ?_) (fun c25_1 => ?_)
      · skip
        refine lv_iconst (v := 0) hx hb dX3_isComposed_32 (by decide) ?_
        exact rtRz hx hb hr (by decide) hlocks dX3_isComposed_33 (by unfold fX3_isComposed; rw [if_neg c3_1, if_neg c9_1, if_pos c25_1])
      · skip
        refine lv_iconst (v := 1) hx hb dX3_isComposed_28 (by decide) ?_
        refine lv_goto (tgt := 33) hx hb dX3_isComposed_29 (by decide) ?_
        exact rtRz hx hb hr (by decide) hlocks dX3_isComposed_33 (by unfold fX3_isComposed; rw [if_neg c3_1, if_neg c9_1, if_neg c25_1])
end
section
/-! a row of bytes and a row of codes: the leaves -/
set_option maxHeartbeats 4000000 in
set_option maxRecDepth 100000 in
theorem KX0_at (l : Launch) (D : va_G) (h a : Nat) (cA : ClassId) (f : Nat → Int32) (xs : List Int32) (hok : rw_ok f 200 xs) (i : Int32) : Met l yX0_at wsX0_at ({ frames := 0, cells := 0, slots := 0, locals := 0 }) (pcR D [(h, .inr (1, [.ref a, .int (nI xs.length)])), (a, .inl (cA, 200, .inl f))] [(cA, .int)] [.ref h, .int i]) (vp_Si (fun r => r = rw_at xs i)) 0 0 (fun _ => False) := by
  refine ofR (cc := cX0_at) (maxL := 2) (ret := (some .int)) (by decide) rfl (Nat.le_of_ble_eq_true rfl) ?_
  intro p e s m below meth c ls hx hb hr hml hown hts hlocks hP hK hN hl
  have hl : lv_has ls 2 [(0, .ref h), (1, .int i)] := hl
  refine lv_iload_n hx hb dX0_at_0 rfl (lv_at hl 1 rfl) ?_
  refine lv_if_lt (tgt := 21) hx hb dX0_at_1 (by decide) (fun c1_1 => ?_) (fun c1_1 => ?_)
  · skip
    refine lv_iconst (v := (-1)) hx hb dX0_at_21 (by decide) ?_
    exact rtR hx hb hr hlocks dX0_at_22 (rw_at_lo c1_1)
  · skip
    refine lv_iload_n hx hb dX0_at_4 rfl (lv_at hl 1 rfl) ?_
    refine lv_aload_n hx hb dX0_at_5 rfl (lv_at hl 0 rfl) ?_
    refine va_get (D := D) (ci := 1) (v := .int (nI xs.length)) (C := RX0) (T := TX0) (N := 2) hx hb hts (by decide +kernel) hown hK hP 0 rfl rfl 1 (by decide) (hts (.fieldLink RX0 15 "CharacterRows$Codes" "length" "I") (by decide +kernel)) (fun _ h9 => h9) rfl dX0_at_6 ?_
    refine lv_icmp_ge (tgt := 21) hx hb dX0_at_9 (by decide) (fun c9_1 => ?_) (fun c9_1 => ?_)
    · skip
      refine lv_iconst (v := (-1)) hx hb dX0_at_21 (by decide) ?_
      exact rtR hx hb hr hlocks dX0_at_22 (rw_at_hi hok (by decide) c1_1 c9_1)
    · skip
      refine lv_aload_n hx hb dX0_at_12 rfl (lv_at hl 0 rfl) ?_
      refine va_get (D := D) (ci := 1) (v := .ref a) (C := RX0) (T := TX0) (N := 2) hx hb hts (by decide +kernel) hown hK hP 0 rfl rfl 0 (by decide) (hts (.fieldLink RX0 9 "CharacterRows$Codes" "codes" "[I") (by decide +kernel)) (fun _ h9 => h9) rfl dX0_at_13 ?_
      refine lv_iload_n hx hb dX0_at_16 rfl (lv_at hl 1 rfl) ?_
      refine va_iald hx hb hK hP 1 0 rfl rfl (rw_vin hok (by decide) c1_1 c9_1) dX0_at_17 ?_
      refine lv_goto (tgt := 22) hx hb dX0_at_18 (by decide) ?_
      exact rtR hx hb hr hlocks dX0_at_22 (rw_at_in hok (by decide) c1_1 c9_1)
set_option maxHeartbeats 4000000 in
set_option maxRecDepth 100000 in
theorem KX0_empty (l : Launch) (D : va_G) (h a : Nat) (cA : ClassId) (f : Nat → Int32) (xs : List Int32) (hok : rw_ok f 200 xs) (sz : Nat) : Met l yX0_empty wsX0_empty ({ frames := 0, cells := 0, slots := 0, locals := 0 }) (pcM D sz [(h, .inr (1, [.ref a, .int (nI xs.length)])), (a, .inl (cA, 200, .inl f))] [(cA, .int)] [.ref h]) (qcV (S := Nat → Int32) D (fun u => rw_ok u 200 []) (fun u => [(h, .inr (1, [.ref a, .int (nI ([] : List Int32).length)])), (a, .inl (cA, 200, .inl u))]) (va_A [(h, .inr (1, [.ref a, .int (nI xs.length)])), (a, .inl (cA, 200, .inl f))] sz)) 0 0 (va_A [(h, .inr (1, [.ref a, .int (nI xs.length)])), (a, .inl (cA, 200, .inl f))] sz) := by
  refine ofM (Qc := fun A => qcV (S := Nat → Int32) D (fun u => rw_ok u 200 []) (fun u => [(h, .inr (1, [.ref a, .int (nI ([] : List Int32).length)])), (a, .inl (cA, 200, .inl u))]) A) (cc := cX0_empty) (maxL := 1) (ret := none) (by decide) rfl (Nat.le_of_ble_eq_true rfl) ?_
  intro p e s m below meth c ls A hx hb hr hml hown hts hlocks hnm hP hK hN hD hA hS hl
  have hl : lv_has ls 1 [(0, .ref h)] := hl
  refine lv_aload_n hx hb dX0_empty_0 rfl (lv_at hl 0 rfl) ?_
  refine lv_iconst (v := 0) hx hb dX0_empty_1 (by decide) ?_
  refine va_put (D := D) (ci := 1) (v := .int 0) (ty := .int) (C := RX0) (T := TX0) (N := 2) hx hb hts (by decide +kernel) tyX0 tyX0_ok nmX0 hown hK hP hD hS 0 rfl rfl 1 (by decide) (hts (.fieldLink RX0 15 "CharacterRows$Codes" "length" "I") (by decide +kernel)) (fun _ h9 => h9) rfl (by decide +kernel) rfl rfl (Nat.le_of_ble_eq_true rfl) dX0_empty_2 (fun H locs hP hD hS => ?_)
  have hP : va_P D vwCl [(h, .inr (1, [.ref a, .int 0])), (a, .inl (cA, 200, .inl f))] H := hP
  have hD : va_D A [(h, .inr (1, [.ref a, .int 0])), (a, .inl (cA, 200, .inl f))] := hD
  exact rtV hx hb hr hlocks dX0_empty_5 f rw_nil hP hD hS
set_option maxHeartbeats 4000000 in
set_option maxRecDepth 100000 in
theorem KX0_add (l : Launch) (D : va_G) (h a : Nat) (cA : ClassId) (f : Nat → Int32) (xs : List Int32) (hok : rw_ok f 200 xs) (c0 : Int32) (sz : Nat) : Met l yX0_add wsX0_add ({ frames := 0, cells := 0, slots := 0, locals := 0 }) (pcM D sz [(h, .inr (1, [.ref a, .int (nI xs.length)])), (a, .inl (cA, 200, .inl f))] [(cA, .int)] [.ref h, .int c0]) (qcV (S := Nat → Int32) D (fun u => rw_ok u 200 (rw_add 200 xs c0)) (fun u => [(h, .inr (1, [.ref a, .int (nI (rw_add 200 xs c0).length)])), (a, .inl (cA, 200, .inl u))]) (va_A [(h, .inr (1, [.ref a, .int (nI xs.length)])), (a, .inl (cA, 200, .inl f))] sz)) 0 0 (va_A [(h, .inr (1, [.ref a, .int (nI xs.length)])), (a, .inl (cA, 200, .inl f))] sz) := by
  refine ofM (Qc := fun A => qcV (S := Nat → Int32) D (fun u => rw_ok u 200 (rw_add 200 xs c0)) (fun u => [(h, .inr (1, [.ref a, .int (nI (rw_add 200 xs c0).length)])), (a, .inl (cA, 200, .inl u))]) A) (cc := cX0_add) (maxL := 2) (ret := none) (by decide) rfl (Nat.le_of_ble_eq_true rfl) ?_
  intro p e s m below meth c ls A hx hb hr hml hown hts hlocks hnm hP hK hN hD hA hS hl
  have hl : lv_has ls 2 [(0, .ref h), (1, .int c0)] := hl
  refine lv_aload_n hx hb dX0_add_0 rfl (lv_at hl 0 rfl) ?_
  refine va_get (D := D) (ci := 1) (v := .int (nI xs.length)) (C := RX0) (T := TX0) (N := 2) hx hb hts (by decide +kernel) hown hK hP 0 rfl rfl 1 (by decide) (hts (.fieldLink RX0 15 "CharacterRows$Codes" "length" "I") (by decide +kernel)) (fun _ h9 => h9) rfl dX0_add_1 ?_
  refine lv_aload_n hx hb dX0_add_4 rfl (lv_at hl 0 rfl) ?_
  refine va_get (D := D) (ci := 1) (v := .ref a) (C := RX0) (T := TX0) (N := 2) hx hb hts (by decide +kernel) hown hK hP 0 rfl rfl 0 (by decide) (hts (.fieldLink RX0 9 "CharacterRows$Codes" "codes" "[I") (by decide +kernel)) (fun _ h9 => h9) rfl dX0_add_5 ?_
  refine va_alen hx hb hK hP 1 0 rfl rfl rfl dX0_add_8 ?_
  refine lv_icmp_ge (tgt := 32) hx hb dX0_add_9 (by decide) (fun c9_1 => ?_) (fun c9_1 => ?_)
  · skip
    have e9 := rw_add_no (c := c0) hok (by decide) c9_1
    exact rtV hx hb hr hlocks dX0_add_32 f (by rw [e9]; exact hok) (by rw [e9]; exact hP) (by rw [e9]; exact hD) hS
  · skip
    obtain ⟨e1, e2, e3, e4⟩ := rw_add_yes (c := c0) hok (by decide) c9_1
    refine lv_aload_n hx hb dX0_add_12 rfl (lv_at hl 0 rfl) ?_
    refine va_get (D := D) (ci := 1) (v := .ref a) (C := RX0) (T := TX0) (N := 2) hx hb hts (by decide +kernel) hown hK hP 0 rfl rfl 0 (by decide) (hts (.fieldLink RX0 9 "CharacterRows$Codes" "codes" "[I") (by decide +kernel)) (fun _ h9 => h9) rfl dX0_add_13 ?_
    refine lv_aload_n hx hb dX0_add_16 rfl (lv_at hl 0 rfl) ?_
    refine va_get (D := D) (ci := 1) (v := .int (nI xs.length)) (C := RX0) (T := TX0) (N := 2) hx hb hts (by decide +kernel) hown hK hP 0 rfl rfl 1 (by decide) (hts (.fieldLink RX0 15 "CharacterRows$Codes" "length" "I") (by decide +kernel)) (fun _ h9 => h9) rfl dX0_add_17 ?_
    refine lv_iload_n hx hb dX0_add_20 rfl (lv_at hl 1 rfl) ?_
    refine va_iast hx hb hK hP hD hS 1 0 rfl rfl (vp_in_nI e1 (by decide)) dX0_add_21 (fun H locs hP hD hS => ?_)
    have hP : va_P D vwCl [(h, .inr (1, [.ref a, .int (nI xs.length)])), (a, .inl (cA, 200, .inl (upd f (nI xs.length).toNatClampNeg c0)))] H := hP
    have hD : va_D A [(h, .inr (1, [.ref a, .int (nI xs.length)])), (a, .inl (cA, 200, .inl (upd f (nI xs.length).toNatClampNeg c0)))] := hD
    refine lv_aload_n hx hb dX0_add_22 rfl (lv_at hl 0 rfl) ?_
    refine lv_dup hx hb dX0_add_23 rfl ?_
    refine va_get (D := D) (ci := 1) (v := .int (nI xs.length)) (C := RX0) (T := TX0) (N := 2) hx hb hts (by decide +kernel) hown hK hP 0 rfl rfl 1 (by decide) (hts (.fieldLink RX0 15 "CharacterRows$Codes" "length" "I") (by decide +kernel)) (fun _ h9 => h9) rfl dX0_add_24 ?_
    refine lv_iconst (v := 1) hx hb dX0_add_27 (by decide) ?_
    refine lv_iadd hx hb dX0_add_28 ?_
    refine va_put (D := D) (ci := 1) (v := .int (nI xs.length + 1)) (ty := .int) (C := RX0) (T := TX0) (N := 2) hx hb hts (by decide +kernel) tyX0 tyX0_ok nmX0 hown hK hP hD hS 0 rfl rfl 1 (by decide) (hts (.fieldLink RX0 15 "CharacterRows$Codes" "length" "I") (by decide +kernel)) (fun _ h9 => h9) rfl (by decide +kernel) rfl rfl (Nat.le_of_ble_eq_true rfl) dX0_add_29 (fun H locs hP hD hS => ?_)
    have hP : va_P D vwCl [(h, .inr (1, [.ref a, .int (nI xs.length + 1)])), (a, .inl (cA, 200, .inl (upd f (nI xs.length).toNatClampNeg c0)))] H := hP
    have hD : va_D A [(h, .inr (1, [.ref a, .int (nI xs.length + 1)])), (a, .inl (cA, 200, .inl (upd f (nI xs.length).toNatClampNeg c0)))] := hD
    exact rtV hx hb hr hlocks dX0_add_32 (upd f (nI xs.length).toNatClampNeg c0) e4 (by rw [← e3]; exact hP) (by rw [← e3]; exact hD) hS
set_option maxHeartbeats 4000000 in
set_option maxRecDepth 100000 in
theorem KX0_put (l : Launch) (D : va_G) (h a : Nat) (cA : ClassId) (f : Nat → Int32) (xs : List Int32) (hok : rw_ok f 200 xs) (i c0 : Int32) (sz : Nat) : Met l yX0_put wsX0_put ({ frames := 0, cells := 0, slots := 0, locals := 0 }) (pcM D sz [(h, .inr (1, [.ref a, .int (nI xs.length)])), (a, .inl (cA, 200, .inl f))] [(cA, .int)] [.ref h, .int i, .int c0]) (qcV (S := Nat → Int32) D (fun u => rw_ok u 200 (rw_put xs i c0)) (fun u => [(h, .inr (1, [.ref a, .int (nI (rw_put xs i c0).length)])), (a, .inl (cA, 200, .inl u))]) (va_A [(h, .inr (1, [.ref a, .int (nI xs.length)])), (a, .inl (cA, 200, .inl f))] sz)) 0 0 (va_A [(h, .inr (1, [.ref a, .int (nI xs.length)])), (a, .inl (cA, 200, .inl f))] sz) := by
  refine ofM (Qc := fun A => qcV (S := Nat → Int32) D (fun u => rw_ok u 200 (rw_put xs i c0)) (fun u => [(h, .inr (1, [.ref a, .int (nI (rw_put xs i c0).length)])), (a, .inl (cA, 200, .inl u))]) A) (cc := cX0_put) (maxL := 3) (ret := none) (by decide) rfl (Nat.le_of_ble_eq_true rfl) ?_
  intro p e s m below meth c ls A hx hb hr hml hown hts hlocks hnm hP hK hN hD hA hS hl
  have hl : lv_has ls 3 [(0, .ref h), (1, .int i), (2, .int c0)] := hl
  refine lv_iload_n hx hb dX0_put_0 rfl (lv_at hl 1 rfl) ?_
  refine lv_if_lt (tgt := 19) hx hb dX0_put_1 (by decide) (fun c1_1 => ?_) (fun c1_1 => ?_)
  · skip
    have e9 : rw_put xs i c0 = xs := rw_put_lo (c := c0) c1_1
    exact rtV hx hb hr hlocks dX0_put_19 f (by rw [e9]; exact hok) (by rw [e9]; exact hP) (by rw [e9]; exact hD) hS
  · skip
    refine lv_iload_n hx hb dX0_put_4 rfl (lv_at hl 1 rfl) ?_
    refine lv_aload_n hx hb dX0_put_5 rfl (lv_at hl 0 rfl) ?_
    refine va_get (D := D) (ci := 1) (v := .int (nI xs.length)) (C := RX0) (T := TX0) (N := 2) hx hb hts (by decide +kernel) hown hK hP 0 rfl rfl 1 (by decide) (hts (.fieldLink RX0 15 "CharacterRows$Codes" "length" "I") (by decide +kernel)) (fun _ h9 => h9) rfl dX0_put_6 ?_
    refine lv_icmp_ge (tgt := 19) hx hb dX0_put_9 (by decide) (fun c9_1 => ?_) (fun c9_1 => ?_)
    · skip
      have e9 : rw_put xs i c0 = xs := rw_put_hi (c := c0) hok (by decide) c1_1 c9_1
      exact rtV hx hb hr hlocks dX0_put_19 f (by rw [e9]; exact hok) (by rw [e9]; exact hP) (by rw [e9]; exact hD) hS
    · skip
      refine lv_aload_n hx hb dX0_put_12 rfl (lv_at hl 0 rfl) ?_
      refine va_get (D := D) (ci := 1) (v := .ref a) (C := RX0) (T := TX0) (N := 2) hx hb hts (by decide +kernel) hown hK hP 0 rfl rfl 0 (by decide) (hts (.fieldLink RX0 9 "CharacterRows$Codes" "codes" "[I") (by decide +kernel)) (fun _ h9 => h9) rfl dX0_put_13 ?_
      refine lv_iload_n hx hb dX0_put_16 rfl (lv_at hl 1 rfl) ?_
      refine lv_iload_n hx hb dX0_put_17 rfl (lv_at hl 2 rfl) ?_
      refine va_iast hx hb hK hP hD hS 1 0 rfl rfl (rw_vin hok (by decide) c1_1 c9_1) dX0_put_18 (fun H locs hP hD hS => ?_)
      have hP : va_P D vwCl [(h, .inr (1, [.ref a, .int (nI xs.length)])), (a, .inl (cA, 200, .inl (upd f i.toNatClampNeg c0)))] H := hP
      have hD : va_D A [(h, .inr (1, [.ref a, .int (nI xs.length)])), (a, .inl (cA, 200, .inl (upd f i.toNatClampNeg c0)))] := hD
      obtain ⟨e3, e4⟩ := rw_put_ok (c := c0) hok (by decide) c1_1 c9_1
      exact rtV hx hb hr hlocks dX0_put_19 (upd f i.toNatClampNeg c0) e4 (by rw [← e3]; exact hP) (by rw [← e3]; exact hD) hS
def ox_u (xs : List Int32) : List Int32 := xs.map (fun b => b &&& 255)
def ox_at (xs : List Int32) (i : Int32) : Int32 := rw_at (ox_u xs) i
theorem ox_at_lo {xs : List Int32} {i : Int32} (h : i < 0) : -1 = ox_at xs i := rw_at_lo h
theorem ox_ok {f : Nat → Int32} {cap : Nat} {xs : List Int32} (hok : rw_ok f cap xs) : rw_ok (fun i => f i &&& 255) cap (ox_u xs) := by
  refine ⟨by unfold ox_u; rw [List.length_map]; exact hok.1, fun i hi => ?_⟩
  have hi2 : i < xs.length := by unfold ox_u at hi; rw [List.length_map] at hi; exact hi
  dsimp only
  rw [hok.2 i hi2]
  simp [ox_u, List.getD, hi2]
theorem ox_len (xs : List Int32) : (ox_u xs).length = xs.length := by unfold ox_u; exact List.length_map _
theorem ox_at_hi {f : Nat → Int32} {cap : Nat} {xs : List Int32} {i : Int32} (hok : rw_ok f cap xs) (hc : cap < 2 ^ 31) (h0 : ¬ i < 0) (h : nI xs.length ≤ i) : -1 = ox_at xs i := rw_at_hi (ox_ok hok) hc h0 (by rw [ox_len]; exact h)
theorem ox_at_in {f : Nat → Int32} {cap : Nat} {xs : List Int32} {i : Int32} (hok : rw_ok f cap xs) (hc : cap < 2 ^ 31) (h0 : ¬ i < 0) (h : ¬ nI xs.length ≤ i) : (f i.toNatClampNeg &&& 255) = ox_at xs i := rw_at_in (ox_ok hok) hc h0 (by rw [ox_len]; exact h)
set_option maxHeartbeats 4000000 in
set_option maxRecDepth 100000 in
theorem KX1_at (l : Launch) (D : va_G) (h a : Nat) (cA : ClassId) (f : Nat → Int32) (xs : List Int32) (cap : Nat) (hcap : cap < 2 ^ 31) (hok : rw_ok f cap xs) (i : Int32) : Met l yX1_at wsX1_at ({ frames := 0, cells := 0, slots := 0, locals := 0 }) (pcR D [(h, .inr (2, [.ref a, .int (nI xs.length)])), (a, .inl (cA, cap, .inl f))] [(cA, .byte)] [.ref h, .int i]) (vp_Si (fun r => r = ox_at xs i)) 0 0 (fun _ => False) := by
  refine ofR (cc := cX1_at) (maxL := 2) (ret := (some .int)) (by decide) rfl (Nat.le_of_ble_eq_true rfl) ?_
  intro p e s m below meth c ls hx hb hr hml hown hts hlocks hP hK hN hl
  have hl : lv_has ls 2 [(0, .ref h), (1, .int i)] := hl
  refine lv_iload_n hx hb dX1_at_0 rfl (lv_at hl 1 rfl) ?_
  refine lv_if_lt (tgt := 25) hx hb dX1_at_1 (by decide) (fun c1_1 => ?_) (fun c1_1 => ?_)
  · skip
    refine lv_iconst (v := (-1)) hx hb dX1_at_25 (by decide) ?_
    exact rtR hx hb hr hlocks dX1_at_26 (ox_at_lo c1_1)
  · skip
    refine lv_iload_n hx hb dX1_at_4 rfl (lv_at hl 1 rfl) ?_
    refine lv_aload_n hx hb dX1_at_5 rfl (lv_at hl 0 rfl) ?_
    refine va_get (D := D) (ci := 2) (v := .int (nI xs.length)) (C := RX1) (T := TX1) (N := 2) hx hb hts (by decide +kernel) hown hK hP 0 rfl rfl 1 (by decide) (hts (.fieldLink RX1 15 "CharacterRows$Octets" "length" "I") (by decide +kernel)) (fun _ h9 => h9) rfl dX1_at_6 ?_
    refine lv_icmp_ge (tgt := 25) hx hb dX1_at_9 (by decide) (fun c9_1 => ?_) (fun c9_1 => ?_)
    · skip
      refine lv_iconst (v := (-1)) hx hb dX1_at_25 (by decide) ?_
      exact rtR hx hb hr hlocks dX1_at_26 (ox_at_hi hok hcap c1_1 c9_1)
    · skip
      refine lv_aload_n hx hb dX1_at_12 rfl (lv_at hl 0 rfl) ?_
      refine va_get (D := D) (ci := 2) (v := .ref a) (C := RX1) (T := TX1) (N := 2) hx hb hts (by decide +kernel) hown hK hP 0 rfl rfl 0 (by decide) (hts (.fieldLink RX1 9 "CharacterRows$Octets" "bytes" "[B") (by decide +kernel)) (fun _ h9 => h9) rfl dX1_at_13 ?_
      refine lv_iload_n hx hb dX1_at_16 rfl (lv_at hl 1 rfl) ?_
      refine va_bald hx hb hK hP 1 0 rfl rfl (rw_vin hok hcap c1_1 c9_1) dX1_at_17 ?_
      refine lv_sipush (v := 255) hx hb dX1_at_18 (by decide) ?_
      refine lv_iand hx hb dX1_at_21 ?_
      refine lv_goto (tgt := 26) hx hb dX1_at_22 (by decide) ?_
      exact rtR hx hb hr hlocks dX1_at_26 (ox_at_in hok hcap c1_1 c9_1)
set_option maxHeartbeats 4000000 in
set_option maxRecDepth 100000 in
theorem KX1_empty (l : Launch) (D : va_G) (h a : Nat) (cA : ClassId) (f : Nat → Int32) (xs : List Int32) (cap : Nat) (hcap : cap < 2 ^ 31) (hok : rw_ok f cap xs) (sz : Nat) : Met l yX1_empty wsX1_empty ({ frames := 0, cells := 0, slots := 0, locals := 0 }) (pcM D sz [(h, .inr (2, [.ref a, .int (nI xs.length)])), (a, .inl (cA, cap, .inl f))] [(cA, .byte)] [.ref h]) (qcV (S := Nat → Int32) D (fun u => rw_ok u cap []) (fun u => [(h, .inr (2, [.ref a, .int (nI ([] : List Int32).length)])), (a, .inl (cA, cap, .inl u))]) (va_A [(h, .inr (2, [.ref a, .int (nI xs.length)])), (a, .inl (cA, cap, .inl f))] sz)) 0 0 (va_A [(h, .inr (2, [.ref a, .int (nI xs.length)])), (a, .inl (cA, cap, .inl f))] sz) := by
  refine ofM (Qc := fun A => qcV (S := Nat → Int32) D (fun u => rw_ok u cap []) (fun u => [(h, .inr (2, [.ref a, .int (nI ([] : List Int32).length)])), (a, .inl (cA, cap, .inl u))]) A) (cc := cX1_empty) (maxL := 1) (ret := none) (by decide) rfl (Nat.le_of_ble_eq_true rfl) ?_
  intro p e s m below meth c ls A hx hb hr hml hown hts hlocks hnm hP hK hN hD hA hS hl
  have hl : lv_has ls 1 [(0, .ref h)] := hl
  refine lv_aload_n hx hb dX1_empty_0 rfl (lv_at hl 0 rfl) ?_
  refine lv_iconst (v := 0) hx hb dX1_empty_1 (by decide) ?_
  refine va_put (D := D) (ci := 2) (v := .int 0) (ty := .int) (C := RX1) (T := TX1) (N := 2) hx hb hts (by decide +kernel) tyX1 tyX1_ok nmX1 hown hK hP hD hS 0 rfl rfl 1 (by decide) (hts (.fieldLink RX1 15 "CharacterRows$Octets" "length" "I") (by decide +kernel)) (fun _ h9 => h9) rfl (by decide +kernel) rfl rfl (Nat.le_of_ble_eq_true rfl) dX1_empty_2 (fun H locs hP hD hS => ?_)
  have hP : va_P D vwCl [(h, .inr (2, [.ref a, .int 0])), (a, .inl (cA, cap, .inl f))] H := hP
  have hD : va_D A [(h, .inr (2, [.ref a, .int 0])), (a, .inl (cA, cap, .inl f))] := hD
  exact rtV hx hb hr hlocks dX1_empty_5 f rw_nil hP hD hS
set_option maxHeartbeats 4000000 in
set_option maxRecDepth 100000 in
theorem KX1_add (l : Launch) (D : va_G) (h a : Nat) (cA : ClassId) (f : Nat → Int32) (xs : List Int32) (cap : Nat) (hcap : cap < 2 ^ 31) (hok : rw_ok f cap xs) (c0 : Int32) (sz : Nat) : Met l yX1_add wsX1_add ({ frames := 0, cells := 0, slots := 0, locals := 0 }) (pcM D sz [(h, .inr (2, [.ref a, .int (nI xs.length)])), (a, .inl (cA, cap, .inl f))] [(cA, .byte)] [.ref h, .int c0]) (qcV (S := Nat → Int32) D (fun u => rw_ok u cap (rw_add cap xs c0.toInt8.toInt32)) (fun u => [(h, .inr (2, [.ref a, .int (nI (rw_add cap xs c0.toInt8.toInt32).length)])), (a, .inl (cA, cap, .inl u))]) (va_A [(h, .inr (2, [.ref a, .int (nI xs.length)])), (a, .inl (cA, cap, .inl f))] sz)) 0 0 (va_A [(h, .inr (2, [.ref a, .int (nI xs.length)])), (a, .inl (cA, cap, .inl f))] sz) := by
  refine ofM (Qc := fun A => qcV (S := Nat → Int32) D (fun u => rw_ok u cap (rw_add cap xs c0.toInt8.toInt32)) (fun u => [(h, .inr (2, [.ref a, .int (nI (rw_add cap xs c0.toInt8.toInt32).length)])), (a, .inl (cA, cap, .inl u))]) A) (cc := cX1_add) (maxL := 2) (ret := none) (by decide) rfl (Nat.le_of_ble_eq_true rfl) ?_
  intro p e s m below meth c ls A hx hb hr hml hown hts hlocks hnm hP hK hN hD hA hS hl
  have hl : lv_has ls 2 [(0, .ref h), (1, .int c0)] := hl
  refine lv_aload_n hx hb dX1_add_0 rfl (lv_at hl 0 rfl) ?_
  refine va_get (D := D) (ci := 2) (v := .int (nI xs.length)) (C := RX1) (T := TX1) (N := 2) hx hb hts (by decide +kernel) hown hK hP 0 rfl rfl 1 (by decide) (hts (.fieldLink RX1 15 "CharacterRows$Octets" "length" "I") (by decide +kernel)) (fun _ h9 => h9) rfl dX1_add_1 ?_
  refine lv_aload_n hx hb dX1_add_4 rfl (lv_at hl 0 rfl) ?_
  refine va_get (D := D) (ci := 2) (v := .ref a) (C := RX1) (T := TX1) (N := 2) hx hb hts (by decide +kernel) hown hK hP 0 rfl rfl 0 (by decide) (hts (.fieldLink RX1 9 "CharacterRows$Octets" "bytes" "[B") (by decide +kernel)) (fun _ h9 => h9) rfl dX1_add_5 ?_
  refine va_alen hx hb hK hP 1 0 rfl rfl rfl dX1_add_8 ?_
  refine lv_icmp_ge (tgt := 33) hx hb dX1_add_9 (by decide) (fun c9_1 => ?_) (fun c9_1 => ?_)
  · skip
    have e9 := rw_add_no (c := c0.toInt8.toInt32) hok hcap c9_1
    exact rtV hx hb hr hlocks dX1_add_33 f (by rw [e9]; exact hok) (by rw [e9]; exact hP) (by rw [e9]; exact hD) hS
  · skip
    obtain ⟨e1, e2, e3, e4⟩ := rw_add_yes (c := c0.toInt8.toInt32) hok hcap c9_1
    refine lv_aload_n hx hb dX1_add_12 rfl (lv_at hl 0 rfl) ?_
    refine va_get (D := D) (ci := 2) (v := .ref a) (C := RX1) (T := TX1) (N := 2) hx hb hts (by decide +kernel) hown hK hP 0 rfl rfl 0 (by decide) (hts (.fieldLink RX1 9 "CharacterRows$Octets" "bytes" "[B") (by decide +kernel)) (fun _ h9 => h9) rfl dX1_add_13 ?_
    refine lv_aload_n hx hb dX1_add_16 rfl (lv_at hl 0 rfl) ?_
    refine va_get (D := D) (ci := 2) (v := .int (nI xs.length)) (C := RX1) (T := TX1) (N := 2) hx hb hts (by decide +kernel) hown hK hP 0 rfl rfl 1 (by decide) (hts (.fieldLink RX1 15 "CharacterRows$Octets" "length" "I") (by decide +kernel)) (fun _ h9 => h9) rfl dX1_add_17 ?_
    refine lv_iload_n hx hb dX1_add_20 rfl (lv_at hl 1 rfl) ?_
    refine lv_i2b hx hb dX1_add_21 rfl ?_
    refine va_bast hx hb hK hP hD hS 1 0 rfl rfl (vp_in_nI e1 hcap) dX1_add_22 (fun H locs hP hD hS => ?_)
    have hP : va_P D vwCl [(h, .inr (2, [.ref a, .int (nI xs.length)])), (a, .inl (cA, cap, .inl (upd f (nI xs.length).toNatClampNeg (vp_nar .byte c0.toInt8.toInt32))))] H := hP
    have hD : va_D A [(h, .inr (2, [.ref a, .int (nI xs.length)])), (a, .inl (cA, cap, .inl (upd f (nI xs.length).toNatClampNeg (vp_nar .byte c0.toInt8.toInt32))))] := hD
    refine lv_aload_n hx hb dX1_add_23 rfl (lv_at hl 0 rfl) ?_
    refine lv_dup hx hb dX1_add_24 rfl ?_
    refine va_get (D := D) (ci := 2) (v := .int (nI xs.length)) (C := RX1) (T := TX1) (N := 2) hx hb hts (by decide +kernel) hown hK hP 0 rfl rfl 1 (by decide) (hts (.fieldLink RX1 15 "CharacterRows$Octets" "length" "I") (by decide +kernel)) (fun _ h9 => h9) rfl dX1_add_25 ?_
    refine lv_iconst (v := 1) hx hb dX1_add_28 (by decide) ?_
    refine lv_iadd hx hb dX1_add_29 ?_
    refine va_put (D := D) (ci := 2) (v := .int (nI xs.length + 1)) (ty := .int) (C := RX1) (T := TX1) (N := 2) hx hb hts (by decide +kernel) tyX1 tyX1_ok nmX1 hown hK hP hD hS 0 rfl rfl 1 (by decide) (hts (.fieldLink RX1 15 "CharacterRows$Octets" "length" "I") (by decide +kernel)) (fun _ h9 => h9) rfl (by decide +kernel) rfl rfl (Nat.le_of_ble_eq_true rfl) dX1_add_30 (fun H locs hP hD hS => ?_)
    have hP : va_P D vwCl [(h, .inr (2, [.ref a, .int (nI xs.length + 1)])), (a, .inl (cA, cap, .inl (upd f (nI xs.length).toNatClampNeg (vp_nar .byte c0.toInt8.toInt32))))] H := hP
    have hD : va_D A [(h, .inr (2, [.ref a, .int (nI xs.length + 1)])), (a, .inl (cA, cap, .inl (upd f (nI xs.length).toNatClampNeg (vp_nar .byte c0.toInt8.toInt32))))] := hD
    rw [pk_vb] at hP hD
    exact rtV hx hb hr hlocks dX1_add_33 (upd f (nI xs.length).toNatClampNeg c0.toInt8.toInt32) e4 (by rw [← e3]; exact hP) (by rw [← e3]; exact hD) hS
end
section
/-! pure rows on lists: places, order, taking apart, putting together -/
theorem rw_at_k {l r : List Int32} {d : Int32} {k : Nat} (hk : l.length = k) (h : k < 2 ^ 31) : rw_at (l ++ d :: r) (nI k) = d := by
  rw [rw_atN h, ← hk]
  simp [List.getD]
theorem rw_at_out {l : List Int32} {k : Nat} (hk : l.length ≤ k) (h : k < 2 ^ 31) : rw_at l (nI k) = -1 := by
  rw [rw_atN h]
  simp [List.getD, List.getElem?_eq_none hk]
theorem rw_put_k {l r : List Int32} {d c : Int32} {k : Nat} (hk : l.length = k) (h : k < 2 ^ 31) : rw_put (l ++ d :: r) (nI k) c = l ++ c :: r := by
  unfold rw_put
  rw [if_neg (nI_pos h), nI_clamp h, ← hk]
  simp
theorem rw_add_lt {cap : Nat} {xs : List Int32} {c : Int32} (h : xs.length < cap) : rw_add cap xs c = xs ++ [c] := by unfold rw_add; rw [if_pos h]
def rv_ins (c : Int32) : List Int32 → List Int32
  | [] => [c]
  | d :: t => if fX2_isMark d = 0 then c :: d :: t else if fX2_rankOf d ≤ fX2_rankOf c then c :: d :: t else d :: rv_ins c t
def rv_stp (acc : List Int32) (c : Int32) : List Int32 := if fX2_isMark c = 0 then c :: acc else rv_ins c acc
def ordr (xs : List Int32) : List Int32 := (xs.foldl rv_stp []).reverse
theorem rv_ins_len (c : Int32) : ∀ l : List Int32, (rv_ins c l).length = l.length + 1
  | [] => rfl
  | d :: t => by
    unfold rv_ins
    split
    · rfl
    · split
      · rfl
      · simp [rv_ins_len c t]
theorem rv_stp_len (acc : List Int32) (c : Int32) : (rv_stp acc c).length = acc.length + 1 := by
  unfold rv_stp
  split
  · rfl
  · exact rv_ins_len c acc
theorem rv_fold_len : ∀ (xs acc : List Int32), (xs.foldl rv_stp acc).length = acc.length + xs.length
  | [], acc => rfl
  | c :: t, acc => by rw [List.foldl_cons, rv_fold_len t, rv_stp_len, List.length_cons]; omega
theorem ordr_len (xs : List Int32) : (ordr xs).length = xs.length := by
  unfold ordr
  rw [List.length_reverse, rv_fold_len]
  simp
theorem mv_at {d z x : Int32} {t sq : List Int32} (hx : x = nI (d :: t).length) (h : t.length < 2 ^ 31) : rw_at ((d :: t).reverse ++ z :: sq) (x - 1) = d := by
  rw [hx, List.length_cons, nI_pred, List.reverse_cons, List.append_assoc]
  exact rw_at_k (by simp) h
theorem mv_put {d z x c : Int32} {t sq : List Int32} (hx : x = nI (d :: t).length) (h : t.length + 1 < 2 ^ 31) : rw_put ((d :: t).reverse ++ z :: sq) x c = t.reverse ++ d :: (c :: sq) := by
  rw [hx, rw_put_k (by simp) (by simpa using h)]
  simp
def ap1 (c : Int32) : List Int32 := if fX2_isComposed c = 0 then [c] else [fX2_letterOf c, fX2_markOf c]
def apt (xs : List Int32) : List Int32 := xs.flatMap ap1
def apo (xs : List Int32) : List Int32 := ordr (apt xs)
theorem ap1_len (c : Int32) : (ap1 c).length ≤ 2 := by unfold ap1; split <;> simp
theorem apt_len : ∀ xs : List Int32, (apt xs).length ≤ 2 * xs.length
  | [] => Nat.le_refl _
  | c :: t => by
    unfold apt
    rw [List.flatMap_cons, List.length_append]
    have := apt_len t
    unfold apt at this
    have := ap1_len c
    simp only [List.length_cons]
    omega
def tog : List Int32 → List Int32
  | [] => []
  | [c] => [c]
  | c :: d :: t => if fX2_isLetter c = 0 then c :: tog (d :: t) else if fX2_isMark d = 0 then c :: tog (d :: t) else fX2_composedOf c d :: tog t
theorem tg_put {o g t : List Int32} {c v x : Int32} (hx : x = nI o.length) (h : o.length < 2 ^ 31) : rw_put (o ++ g ++ c :: t) x v = (o ++ [v]) ++ (g ++ [c]).tail ++ t := by
  subst hx
  rcases g with _ | ⟨g0, gt⟩
  · rw [List.append_nil, rw_put_k rfl h]; simp
  · rw [List.append_assoc, List.cons_append, rw_put_k rfl h]; simp
theorem tg_at {o g t : List Int32} {c x : Int32} (hx : x = nI (o.length + g.length)) (h : o.length + g.length < 2 ^ 31) : rw_at (o ++ g ++ c :: t) x = c := by
  subst hx
  exact rw_at_k (by simp) h
theorem tg_at2 {o g t : List Int32} {c d x : Int32} (hx : x = nI (o.length + g.length)) (h : o.length + g.length + 1 < 2 ^ 31) : rw_at (o ++ g ++ c :: d :: t) (x + 1) = d := by
  subst hx
  rw [nI_1, show o ++ g ++ c :: d :: t = (o ++ g ++ [c]) ++ d :: t by simp]
  exact rw_at_k (by simp; omega) h
theorem tg_at3 {o g : List Int32} {c x : Int32} (hx : x = nI (o.length + g.length)) (h : o.length + g.length + 1 < 2 ^ 31) : rw_at (o ++ g ++ [c]) (x + 1) = -1 := by
  subst hx
  rw [nI_1]
  exact rw_at_out (by simp; omega) h
theorem rw_pre {f : Nat → Int32} {cap : Nat} {l r : List Int32} (h : rw_ok f cap (l ++ r)) : rw_ok f cap l := by
  refine ⟨by have := h.1; rw [List.length_append] at this; omega, fun i hi => ?_⟩
  rw [h.2 i (by rw [List.length_append]; omega)]
  simp [List.getD, List.getElem?_append_left hi]
def pob : List Int32 → Nat → Int64 → Int64 → Int32
  | [], _, _, _ => -1
  | c :: t, k, met, w => if fX2_isMark c = 0 then (if met = w then nI k else pob t (k + 1) (met + 1) w) else pob t (k + 1) met w
def nbs : List Int32 → Nat
  | [] => 0
  | c :: t => if fX2_isMark c = 0 then nbs t + 1 else nbs t
def lmk : List Int32 → Nat
  | [] => 0
  | c :: t => if fX2_isMark c = 0 then 0 else lmk t + 1
theorem nbs_le : ∀ xs : List Int32, nbs xs ≤ xs.length
  | [] => Nat.le_refl _
  | c :: t => by unfold nbs; have := nbs_le t; split <;> simp <;> omega
theorem lmk_le : ∀ xs : List Int32, lmk xs ≤ xs.length
  | [] => Nat.le_refl _
  | c :: t => by unfold lmk; have := lmk_le t; split <;> simp <;> omega
end
section
/-! the rows of codes: the methods with loops -/
set_option maxHeartbeats 4000000 in
set_option maxRecDepth 100000 in
theorem KX0_addAll (l : Launch) (D : va_G) (h a : Nat) (cA : ClassId) (f : Nat → Int32) (xs : List Int32) (hok : rw_ok f 200 xs) (g b : Nat) (cB : ClassId) (f2 : Nat → Int32) (ys : List Int32) (hok2 : rw_ok f2 200 ys) (T : List Int32) (hT : ys.foldl (rw_add 200) xs = T) (sz : Nat) : Met l yX0_addAll wsX0_addAll ({ frames := 1, cells := 0, slots := 0, locals := 21 }) (pcM D sz [(h, .inr (1, [.ref a, .int (nI xs.length)])), (a, .inl (cA, 200, .inl f)), (g, .inr (1, [.ref b, .int (nI ys.length)])), (b, .inl (cB, 200, .inl f2))] [(cA, .int), (cB, .int)] [.ref h, .ref g]) (qcV (S := Nat → Int32) D (fun u => rw_ok u 200 T) (fun u => [(h, .inr (1, [.ref a, .int (nI T.length)])), (a, .inl (cA, 200, .inl u)), (g, .inr (1, [.ref b, .int (nI ys.length)])), (b, .inl (cB, 200, .inl f2))]) (va_A [(h, .inr (1, [.ref a, .int (nI xs.length)])), (a, .inl (cA, 200, .inl f)), (g, .inr (1, [.ref b, .int (nI ys.length)])), (b, .inl (cB, 200, .inl f2))] sz)) 0 0 (va_A [(h, .inr (1, [.ref a, .int (nI xs.length)])), (a, .inl (cA, 200, .inl f)), (g, .inr (1, [.ref b, .int (nI ys.length)])), (b, .inl (cB, 200, .inl f2))] sz) := by
  refine ofM (Qc := fun A => qcV (S := Nat → Int32) D (fun u => rw_ok u 200 T) (fun u => [(h, .inr (1, [.ref a, .int (nI T.length)])), (a, .inl (cA, 200, .inl u)), (g, .inr (1, [.ref b, .int (nI ys.length)])), (b, .inl (cB, 200, .inl f2))]) A) (cc := cX0_addAll) (maxL := 3) (ret := none) (by decide) rfl (Nat.le_of_ble_eq_true rfl) ?_
  intro p e s m below meth c ls A hx hb hr hml hown hts hlocks hnm hP hK hN hD hA hS hl
  have hl : lv_has ls 3 [(0, .ref h), (1, .ref g)] := hl
  refine lv_iconst (v := 0) hx hb dX0_addAll_0 (by decide) ?_
  refine lv_istore_n (lv' := [(2, .int 0), (0, .ref h), (1, .ref g)]) hx hb dX0_addAll_1 rfl hl (by decide) rfl (fun ls hl => ?_)
  have loop : ∀ (rest : List Int32) (done xs : List Int32) (f : Nat → Int32) (x2 : Int32) (H : Heap) (locs : List Loc) (ls : Array Slot), ys = done ++ rest → x2 = nI done.length → rw_ok f 200 xs → rest.foldl (rw_add 200) xs = T → va_P D vwCl [(h, .inr (1, [.ref a, .int (nI xs.length)])), (a, .inl (cA, 200, .inl f)), (g, .inr (1, [.ref b, .int (nI ys.length)])), (b, .inl (cB, 200, .inl f2))] H → va_D A [(h, .inr (1, [.ref a, .int (nI xs.length)])), (a, .inl (cA, 200, .inl f)), (g, .inr (1, [.ref b, .int (nI ys.length)])), (b, .inl (cB, 200, .inl f2))] → va_S A s.heap H locs → lv_has ls 3 [(2, .int x2), (0, .ref h), (1, .ref g)] → W p l e ({ frames := 1, cells := 0, slots := 0, locals := 21 }) s m ([.ref h, .ref g] : List Value).toArray below meth c H locs 0 0 (MQ below (qcV (S := Nat → Int32) D (fun u => rw_ok u 200 T) (fun u => [(h, .inr (1, [.ref a, .int (nI T.length)])), (a, .inl (cA, 200, .inl u)), (g, .inr (1, [.ref b, .int (nI ys.length)])), (b, .inl (cB, 200, .inl f2))]) A) ([.ref h, .ref g] : List Value).toArray s 0 0 A) (F0 m 2 ls [])  := by
    intro rest
    induction rest with
    | nil =>
      intro done xs f x2 H locs ls hys e2 hok hT hP hD hS hl
      have hln : ys.length = done.length := by rw [hys]; simp
      refine lv_iload_n hx hb dX0_addAll_2 rfl (lv_at hl 0 rfl) ?_
      refine lv_aload_n hx hb dX0_addAll_3 rfl (lv_at hl 2 rfl) ?_
      refine va_get (D := D) (ci := 1) (v := .int (nI ys.length)) (C := RX0) (T := TX0) (N := 2) hx hb hts (by decide +kernel) hown hK hP 2 rfl rfl 1 (by decide) (hts (.fieldLink RX0 15 "CharacterRows$Codes" "length" "I") (by decide +kernel)) (fun _ h9 => h9) rfl dX0_addAll_4 ?_
      refine lv_icmp_ge (tgt := 25) hx hb dX0_addAll_7 (by decide) (fun c7_1 => ?_) (fun c7_1 => ?_)
      · skip
        have hT : xs = T := hT
        rw [hT] at hok hP hD
        exact rtV hx hb hr hlocks dX0_addAll_25 f hok hP hD hS
      · skip
        exact absurd (by rw [e2, hln]; exact Int32.le_refl _) c7_1
    | cons d t ih =>
      intro done xs f x2 H locs ls hys e2 hok hT hP hD hS hl
      have hln : ys.length = done.length + (t.length + 1) := by rw [hys]; simp
      have h200 := hok2.1
      refine lv_iload_n hx hb dX0_addAll_2 rfl (lv_at hl 0 rfl) ?_
      refine lv_aload_n hx hb dX0_addAll_3 rfl (lv_at hl 2 rfl) ?_
      refine va_get (D := D) (ci := 1) (v := .int (nI ys.length)) (C := RX0) (T := TX0) (N := 2) hx hb hts (by decide +kernel) hown hK hP 2 rfl rfl 1 (by decide) (hts (.fieldLink RX0 15 "CharacterRows$Codes" "length" "I") (by decide +kernel)) (fun _ h9 => h9) rfl dX0_addAll_4 ?_
      refine lv_icmp_ge (tgt := 25) hx hb dX0_addAll_7 (by decide) (fun c7_2 => ?_) (fun c7_2 => ?_)
      · skip
        exact absurd c7_2 (by rw [e2, hln]; exact nI_ge (by omega) (by omega))
      · skip
        refine lv_aload_n hx hb dX0_addAll_10 rfl (lv_at hl 1 rfl) ?_
        refine lv_aload_n hx hb dX0_addAll_11 rfl (lv_at hl 2 rfl) ?_
        refine lv_iload_n hx hb dX0_addAll_12 rfl (lv_at hl 0 rfl) ?_
        refine vp_callSi (W.runV ⟨hx, hb, hml, hown, hts⟩ (KX0_at l D g b cB f2 ys hok2 x2) (cwV 1 hts gX0_addAll_X0_at rfl rfl rfl (by decide +kernel) ⟨Nat.le_of_ble_eq_true rfl, Nat.le_of_ble_eq_true rfl⟩) (pcR_V (hP.sub (ws' := [(g, .inr (1, [.ref b, .int (nI ys.length)])), (b, .inl (cB, 200, .inl f2))]) [2, 3] rfl) (hK.sub (tys' := [(cB, .int)]) [1] rfl) hN 0 rfl rfl) rfl rfl hl.1 rfl (lv_room (Nat.le_of_ble_eq_true rfl)) dX0_addAll_13 ⟨Nat.zero_le _, Nat.zero_le _⟩) (fun r9 hr9 => ?_)
        replace hr9 : r9 = d := hr9.trans (by rw [hys, e2]; exact rw_at_k rfl (by omega))
        subst r9
        refine clV (wr := [(g, .inr (1, [.ref b, .int (nI ys.length)])), (b, .inl (cB, 200, .inl f2))]) (va_runV ⟨hx, hb, hml, hown, hts⟩ (KX0_add l D h a cA f xs hok d _) (cwV 1 hts gX0_addAll_X0_add rfl rfl rfl (by decide +kernel) ⟨Nat.le_of_ble_eq_true rfl, Nat.le_of_ble_eq_true rfl⟩) (pcM_V (hP.sub (ws' := [(h, .inr (1, [.ref a, .int (nI xs.length)])), (a, .inl (cA, 200, .inl f))]) [0, 1] rfl) (hD.sub (ws' := [(h, .inr (1, [.ref a, .int (nI xs.length)])), (a, .inl (cA, 200, .inl f))]) [0, 1] (by decide) rfl) (hK.sub (tys' := [(cA, .int)]) [0] rfl) hN 0 rfl rfl) rfl rfl hl.1 rfl (lv_room (Nat.le_of_ble_eq_true rfl)) dX0_addAll_16 ⟨Nat.zero_le _, Nat.zero_le _⟩) hP hD hS hA [0, 1] [2, 3] rfl rfl (by decide) (by decide) (fun u_1 H locs hw_1 hP hD hS => ?_)
        have hP : va_P D vwCl [(h, .inr (1, [.ref a, .int (nI (rw_add 200 xs d).length)])), (a, .inl (cA, 200, .inl u_1)), (g, .inr (1, [.ref b, .int (nI ys.length)])), (b, .inl (cB, 200, .inl f2))] H := hP.sub [2, 3, 0, 1] rfl
        have hD : va_D A [(h, .inr (1, [.ref a, .int (nI (rw_add 200 xs d).length)])), (a, .inl (cA, 200, .inl u_1)), (g, .inr (1, [.ref b, .int (nI ys.length)])), (b, .inl (cB, 200, .inl f2))] := hD.sub [2, 3, 0, 1] (by decide) rfl
        refine lv_iinc (v := (x2 + 1)) (lv' := [(2, .int (x2 + 1)), (0, .ref h), (1, .ref g)]) hx hb dX0_addAll_19 hl (k := 0) rfl rfl (by decide) rfl (fun ls hl => ?_)
        refine lv_goto (tgt := 2) hx hb dX0_addAll_22 (by decide) ?_
        exact ih (done ++ [d]) _ u_1 _ H locs ls (by rw [hys]; simp) (by rw [e2, List.length_append]; exact nI_1 _) hw_1 (by rw [← hT]; rfl) hP hD hS (lv_sub hl [0, 1, 2] rfl)
  exact loop ys [] xs f _ _ _ _ rfl rfl hok hT hP hD hS (lv_sub hl [0, 1, 2] rfl)
set_option maxHeartbeats 4000000 in
set_option maxRecDepth 100000 in
theorem KX0_moveAhead (l : Launch) (D : va_G) (h a : Nat) (cA : ClassId) (f : Nat → Int32) (rp : List Int32) (c0 : Int32) (sr : List Int32) (hok : rw_ok f 200 (rp.reverse ++ c0 :: sr)) (sz : Nat) : Met l yX0_moveAhead wsX0_moveAhead ({ frames := 1, cells := 0, slots := 0, locals := 22 }) (pcM D sz [(h, .inr (1, [.ref a, .int (nI (rp.reverse ++ c0 :: sr).length)])), (a, .inl (cA, 200, .inl f))] [(cA, .int)] [.ref h, .int (nI rp.length)]) (qcV (S := Nat → Int32) D (fun u => rw_ok u 200 ((rv_ins c0 rp).reverse ++ sr)) (fun u => [(h, .inr (1, [.ref a, .int (nI ((rv_ins c0 rp).reverse ++ sr).length)])), (a, .inl (cA, 200, .inl u))]) (va_A [(h, .inr (1, [.ref a, .int (nI (rp.reverse ++ c0 :: sr).length)])), (a, .inl (cA, 200, .inl f))] sz)) 0 0 (va_A [(h, .inr (1, [.ref a, .int (nI (rp.reverse ++ c0 :: sr).length)])), (a, .inl (cA, 200, .inl f))] sz) := by
  refine ofM (Qc := fun A => qcV (S := Nat → Int32) D (fun u => rw_ok u 200 ((rv_ins c0 rp).reverse ++ sr)) (fun u => [(h, .inr (1, [.ref a, .int (nI ((rv_ins c0 rp).reverse ++ sr).length)])), (a, .inl (cA, 200, .inl u))]) A) (cc := cX0_moveAhead) (maxL := 4) (ret := none) (by decide) rfl (Nat.le_of_ble_eq_true rfl) ?_
  intro p e s m below meth c ls A hx hb hr hml hown hts hlocks hnm hP hK hN hD hA hS hl
  have hl : lv_has ls 4 [(0, .ref h), (1, .int (nI rp.length))] := hl
  have h200 : rp.length + sr.length + 1 ≤ 200 := by have := hok.1; simp at this; omega
  refine lv_aload_n hx hb dX0_moveAhead_0 rfl (lv_at hl 0 rfl) ?_
  refine lv_iload_n hx hb dX0_moveAhead_1 rfl (lv_at hl 1 rfl) ?_
  refine vp_callSi (W.runV ⟨hx, hb, hml, hown, hts⟩ (KX0_at l D h a cA f (rp.reverse ++ c0 :: sr) hok (nI rp.length)) (cwV 1 hts gX0_moveAhead_X0_at rfl rfl rfl (by decide +kernel) ⟨Nat.le_of_ble_eq_true rfl, Nat.le_of_ble_eq_true rfl⟩) (pcR_V (hP.sub (ws' := [(h, .inr (1, [.ref a, .int (nI (rp.reverse ++ c0 :: sr).length)])), (a, .inl (cA, 200, .inl f))]) [0, 1] rfl) (hK.sub (tys' := [(cA, .int)]) [0] rfl) hN 0 rfl rfl) rfl rfl hl.1 rfl (lv_room (Nat.le_of_ble_eq_true rfl)) dX0_moveAhead_2 ⟨Nat.zero_le _, Nat.zero_le _⟩) (fun r9 hr9 => ?_)
  replace hr9 : r9 = c0 := hr9.trans (rw_at_k (by simp) (by omega))
  subst r9
  refine lv_istore_n (lv' := [(2, .int c0), (0, .ref h), (1, .int (nI rp.length))]) hx hb dX0_moveAhead_5 rfl hl (by decide) rfl (fun ls hl => ?_)
  refine lv_iload_n hx hb dX0_moveAhead_6 rfl (lv_at hl 2 rfl) ?_
  refine lv_istore_n (lv' := [(3, .int (nI rp.length)), (2, .int c0), (0, .ref h), (1, .int (nI rp.length))]) hx hb dX0_moveAhead_7 rfl hl (by decide) rfl (fun ls hl => ?_)
  have loop : ∀ (rq : List Int32) (z : Int32) (sq : List Int32) (f : Nat → Int32) (x3 : Int32) (H : Heap) (locs : List Loc) (ls : Array Slot), (rv_ins c0 rq).reverse ++ sq = ((rv_ins c0 rp).reverse ++ sr) → x3 = nI rq.length → rw_ok f 200 (rq.reverse ++ z :: sq) → va_P D vwCl [(h, .inr (1, [.ref a, .int (nI (rq.reverse ++ z :: sq).length)])), (a, .inl (cA, 200, .inl f))] H → va_D A [(h, .inr (1, [.ref a, .int (nI (rq.reverse ++ z :: sq).length)])), (a, .inl (cA, 200, .inl f))] → va_S A s.heap H locs → lv_has ls 4 [(3, .int x3), (2, .int c0), (0, .ref h), (1, .int (nI rp.length))] → W p l e ({ frames := 1, cells := 0, slots := 0, locals := 22 }) s m ([.ref h, .int (nI rp.length)] : List Value).toArray below meth c H locs 0 0 (MQ below (qcV (S := Nat → Int32) D (fun u => rw_ok u 200 ((rv_ins c0 rp).reverse ++ sr)) (fun u => [(h, .inr (1, [.ref a, .int (nI ((rv_ins c0 rp).reverse ++ sr).length)])), (a, .inl (cA, 200, .inl u))]) A) ([.ref h, .int (nI rp.length)] : List Value).toArray s 0 0 A) (F0 m 8 ls [])  := by
    intro rq
    induction rq with
    | nil =>
      intro z sq f x3 H locs ls hT e3 hok hP hD hS hl
      refine lv_iload_n hx hb dX0_moveAhead_8 rfl (lv_at hl 0 rfl) ?_
      refine lv_if_le (tgt := 60) hx hb dX0_moveAhead_9 (by decide) (fun c9_1 => ?_) (fun c9_1 => ?_)
      · skip
        refine lv_aload_n hx hb dX0_moveAhead_60 rfl (lv_at hl 2 rfl) ?_
        refine lv_iload_n hx hb dX0_moveAhead_61 rfl (lv_at hl 0 rfl) ?_
        refine lv_iload_n hx hb dX0_moveAhead_62 rfl (lv_at hl 1 rfl) ?_
        refine clV (wr := []) (va_runV ⟨hx, hb, hml, hown, hts⟩ (KX0_put l D h a cA f (([] : List Int32).reverse ++ z :: sq) hok x3 c0 _) (cwV 2 hts gX0_moveAhead_X0_put rfl rfl rfl (by decide +kernel) ⟨Nat.le_of_ble_eq_true rfl, Nat.le_of_ble_eq_true rfl⟩) (pcM_V (hP.sub (ws' := [(h, .inr (1, [.ref a, .int (nI (([] : List Int32).reverse ++ z :: sq).length)])), (a, .inl (cA, 200, .inl f))]) [0, 1] rfl) (hD.sub (ws' := [(h, .inr (1, [.ref a, .int (nI (([] : List Int32).reverse ++ z :: sq).length)])), (a, .inl (cA, 200, .inl f))]) [0, 1] (by decide) rfl) (hK.sub (tys' := [(cA, .int)]) [0] rfl) hN 0 rfl rfl) rfl rfl hl.1 rfl (lv_room (Nat.le_of_ble_eq_true rfl)) dX0_moveAhead_63 ⟨Nat.zero_le _, Nat.zero_le _⟩) hP hD hS hA [0, 1] [] rfl rfl (by decide) (by decide) (fun u_1 H locs hw_1 hP hD hS => ?_)
        have e9_1 : (rw_put (([] : List Int32).reverse ++ z :: sq) x3 c0) = (c0 :: sq) := (by rw [e3]; exact rw_put_k (l := []) rfl (by decide))
        rw [e9_1] at hw_1 hP hD
        have hP : va_P D vwCl [(h, .inr (1, [.ref a, .int (nI (c0 :: sq).length)])), (a, .inl (cA, 200, .inl u_1))] H := hP.sub [0, 1] rfl
        have hD : va_D A [(h, .inr (1, [.ref a, .int (nI (c0 :: sq).length)])), (a, .inl (cA, 200, .inl u_1))] := hD.sub [0, 1] (by decide) rfl
        have e8 : (c0 :: sq) = ((rv_ins c0 rp).reverse ++ sr) := by rw [← hT]; simp [rv_ins]
        rw [e8] at hw_1 hP hD
        exact rtV hx hb hr hlocks dX0_moveAhead_66 u_1 hw_1 hP hD hS
      · skip
        exact absurd (by rw [e3]; decide) c9_1
    | cons d t ih =>
      intro z sq f x3 H locs ls hT e3 hok hP hD hS hl
      have hln : t.length + sq.length + 2 ≤ 200 := by have := hok.1; simp at this; omega
      refine lv_iload_n hx hb dX0_moveAhead_8 rfl (lv_at hl 0 rfl) ?_
      refine lv_if_le (tgt := 60) hx hb dX0_moveAhead_9 (by decide) (fun c9_2 => ?_) (fun c9_2 => ?_)
      · skip
        exact absurd c9_2 (by rw [e3]; exact nI_nle (by simp) (by simp; omega))
      · skip
        refine lv_aload_n hx hb dX0_moveAhead_12 rfl (lv_at hl 2 rfl) ?_
        refine lv_iload_n hx hb dX0_moveAhead_13 rfl (lv_at hl 0 rfl) ?_
        refine lv_iconst (v := 1) hx hb dX0_moveAhead_14 (by decide) ?_
        refine lv_isub hx hb dX0_moveAhead_15 ?_
        refine vp_callSi (W.runV ⟨hx, hb, hml, hown, hts⟩ (KX0_at l D h a cA f ((d :: t).reverse ++ z :: sq) hok (x3 - 1)) (cwV 1 hts gX0_moveAhead_X0_at rfl rfl rfl (by decide +kernel) ⟨Nat.le_of_ble_eq_true rfl, Nat.le_of_ble_eq_true rfl⟩) (pcR_V (hP.sub (ws' := [(h, .inr (1, [.ref a, .int (nI ((d :: t).reverse ++ z :: sq).length)])), (a, .inl (cA, 200, .inl f))]) [0, 1] rfl) (hK.sub (tys' := [(cA, .int)]) [0] rfl) hN 0 rfl rfl) rfl rfl hl.1 rfl (lv_room (Nat.le_of_ble_eq_true rfl)) dX0_moveAhead_16 ⟨Nat.zero_le _, Nat.zero_le _⟩) (fun r9 hr9 => ?_)
        replace hr9 : r9 = d := hr9.trans (mv_at e3 (by omega))
        subst r9
        refine vp_callSi ((va_runSN ⟨hx, hb, hml, hown, hts⟩ (KX2_isMark l d) ⟨va_cnB 1 hts gX0_moveAhead_X2_isMark_n27 rfl rfl rfl (nst_at hN 2 rfl) (hts (.initialized RX2) (by decide +kernel)) (by decide +kernel) ⟨Nat.le_of_ble_eq_true rfl, Nat.le_of_ble_eq_true rfl⟩, (hts (.static yX2_isMark) (by decide +kernel)), trivial⟩ pcS_S rfl rfl hl.1 rfl (lv_room (Nat.le_of_ble_eq_true rfl)) dX0_moveAhead_19 ⟨Nat.zero_le _, Nat.zero_le _⟩).run) (fun r9 hr9 => ?_)
        subst r9
        refine lv_if_eq (tgt := 60) hx hb dX0_moveAhead_22 (by decide) (fun c22_1 => ?_) (fun c22_1 => ?_)
        · skip
          refine lv_aload_n hx hb dX0_moveAhead_60 rfl (lv_at hl 2 rfl) ?_
          refine lv_iload_n hx hb dX0_moveAhead_61 rfl (lv_at hl 0 rfl) ?_
          refine lv_iload_n hx hb dX0_moveAhead_62 rfl (lv_at hl 1 rfl) ?_
          refine clV (wr := []) (va_runV ⟨hx, hb, hml, hown, hts⟩ (KX0_put l D h a cA f ((d :: t).reverse ++ z :: sq) hok x3 c0 _) (cwV 2 hts gX0_moveAhead_X0_put rfl rfl rfl (by decide +kernel) ⟨Nat.le_of_ble_eq_true rfl, Nat.le_of_ble_eq_true rfl⟩) (pcM_V (hP.sub (ws' := [(h, .inr (1, [.ref a, .int (nI ((d :: t).reverse ++ z :: sq).length)])), (a, .inl (cA, 200, .inl f))]) [0, 1] rfl) (hD.sub (ws' := [(h, .inr (1, [.ref a, .int (nI ((d :: t).reverse ++ z :: sq).length)])), (a, .inl (cA, 200, .inl f))]) [0, 1] (by decide) rfl) (hK.sub (tys' := [(cA, .int)]) [0] rfl) hN 0 rfl rfl) rfl rfl hl.1 rfl (lv_room (Nat.le_of_ble_eq_true rfl)) dX0_moveAhead_63 ⟨Nat.zero_le _, Nat.zero_le _⟩) hP hD hS hA [0, 1] [] rfl rfl (by decide) (by decide) (fun u_2 H locs hw_2 hP hD hS => ?_)
          have e9_2 : (rw_put ((d :: t).reverse ++ z :: sq) x3 c0) = (t.reverse ++ d :: (c0 :: sq)) := (mv_put e3 (by omega))
          rw [e9_2] at hw_2 hP hD
          have hP : va_P D vwCl [(h, .inr (1, [.ref a, .int (nI (t.reverse ++ d :: (c0 :: sq)).length)])), (a, .inl (cA, 200, .inl u_2))] H := hP.sub [0, 1] rfl
          have hD : va_D A [(h, .inr (1, [.ref a, .int (nI (t.reverse ++ d :: (c0 :: sq)).length)])), (a, .inl (cA, 200, .inl u_2))] := hD.sub [0, 1] (by decide) rfl
          have e8 : (t.reverse ++ d :: (c0 :: sq)) = ((rv_ins c0 rp).reverse ++ sr) := by rw [← hT]; simp [rv_ins, c22_1]
          rw [e8] at hw_2 hP hD
          exact rtV hx hb hr hlocks dX0_moveAhead_66 u_2 hw_2 hP hD hS
        · skip
          refine lv_aload_n hx hb dX0_moveAhead_25 rfl (lv_at hl 2 rfl) ?_
          refine lv_iload_n hx hb dX0_moveAhead_26 rfl (lv_at hl 0 rfl) ?_
          refine lv_iconst (v := 1) hx hb dX0_moveAhead_27 (by decide) ?_
          refine lv_isub hx hb dX0_moveAhead_28 ?_
          refine vp_callSi (W.runV ⟨hx, hb, hml, hown, hts⟩ (KX0_at l D h a cA f ((d :: t).reverse ++ z :: sq) hok (x3 - 1)) (cwV 1 hts gX0_moveAhead_X0_at rfl rfl rfl (by decide +kernel) ⟨Nat.le_of_ble_eq_true rfl, Nat.le_of_ble_eq_true rfl⟩) (pcR_V (hP.sub (ws' := [(h, .inr (1, [.ref a, .int (nI ((d :: t).reverse ++ z :: sq).length)])), (a, .inl (cA, 200, .inl f))]) [0, 1] rfl) (hK.sub (tys' := [(cA, .int)]) [0] rfl) hN 0 rfl rfl) rfl rfl hl.1 rfl (lv_room (Nat.le_of_ble_eq_true rfl)) dX0_moveAhead_29 ⟨Nat.zero_le _, Nat.zero_le _⟩) (fun r9 hr9 => ?_)
          replace hr9 : r9 = d := hr9.trans (mv_at e3 (by omega))
          subst r9
          refine vp_callSi ((va_runSN ⟨hx, hb, hml, hown, hts⟩ (KX2_rankOf l d) ⟨va_cnB 1 hts gX0_moveAhead_X2_rankOf_n34 rfl rfl rfl (nst_at hN 3 rfl) (hts (.initialized RX2) (by decide +kernel)) (by decide +kernel) ⟨Nat.le_of_ble_eq_true rfl, Nat.le_of_ble_eq_true rfl⟩, (hts (.static yX2_rankOf) (by decide +kernel)), trivial⟩ pcS_S rfl rfl hl.1 rfl (lv_room (Nat.le_of_ble_eq_true rfl)) dX0_moveAhead_32 ⟨Nat.zero_le _, Nat.zero_le _⟩).run) (fun r9 hr9 => ?_)
          subst r9
          refine lv_iload_n hx hb dX0_moveAhead_35 rfl (lv_at hl 1 rfl) ?_
          refine vp_callSi ((va_runSN ⟨hx, hb, hml, hown, hts⟩ (KX2_rankOf l c0) ⟨va_cnB 1 hts gX0_moveAhead_X2_rankOf_n34 rfl rfl rfl (nst_at hN 3 rfl) (hts (.initialized RX2) (by decide +kernel)) (by decide +kernel) ⟨Nat.le_of_ble_eq_true rfl, Nat.le_of_ble_eq_true rfl⟩, (hts (.static yX2_rankOf) (by decide +kernel)), trivial⟩ pcS_S rfl rfl hl.1 rfl (lv_room (Nat.le_of_ble_eq_true rfl)) dX0_moveAhead_36 ⟨Nat.zero_le _, Nat.zero_le _⟩).run) (fun r9 hr9 => ?_)
          subst r9
          refine lv_icmp_le (tgt := 60) hx hb dX0_moveAhead_39 (by decide) (fun c39_1 => ?_) (fun c39_1 => ?_)
          · skip
            refine lv_aload_n hx hb dX0_moveAhead_60 rfl (lv_at hl 2 rfl) ?_
            refine lv_iload_n hx hb dX0_moveAhead_61 rfl (lv_at hl 0 rfl) ?_
            refine lv_iload_n hx hb dX0_moveAhead_62 rfl (lv_at hl 1 rfl) ?_
            refine clV (wr := []) (va_runV ⟨hx, hb, hml, hown, hts⟩ (KX0_put l D h a cA f ((d :: t).reverse ++ z :: sq) hok x3 c0 _) (cwV 2 hts gX0_moveAhead_X0_put rfl rfl rfl (by decide +kernel) ⟨Nat.le_of_ble_eq_true rfl, Nat.le_of_ble_eq_true rfl⟩) (pcM_V (hP.sub (ws' := [(h, .inr (1, [.ref a, .int (nI ((d :: t).reverse ++ z :: sq).length)])), (a, .inl (cA, 200, .inl f))]) [0, 1] rfl) (hD.sub (ws' := [(h, .inr (1, [.ref a, .int (nI ((d :: t).reverse ++ z :: sq).length)])), (a, .inl (cA, 200, .inl f))]) [0, 1] (by decide) rfl) (hK.sub (tys' := [(cA, .int)]) [0] rfl) hN 0 rfl rfl) rfl rfl hl.1 rfl (lv_room (Nat.le_of_ble_eq_true rfl)) dX0_moveAhead_63 ⟨Nat.zero_le _, Nat.zero_le _⟩) hP hD hS hA [0, 1] [] rfl rfl (by decide) (by decide) (fun u_3 H locs hw_3 hP hD hS => ?_)
            have e9_3 : (rw_put ((d :: t).reverse ++ z :: sq) x3 c0) = (t.reverse ++ d :: (c0 :: sq)) := (mv_put e3 (by omega))
            rw [e9_3] at hw_3 hP hD
            have hP : va_P D vwCl [(h, .inr (1, [.ref a, .int (nI (t.reverse ++ d :: (c0 :: sq)).length)])), (a, .inl (cA, 200, .inl u_3))] H := hP.sub [0, 1] rfl
            have hD : va_D A [(h, .inr (1, [.ref a, .int (nI (t.reverse ++ d :: (c0 :: sq)).length)])), (a, .inl (cA, 200, .inl u_3))] := hD.sub [0, 1] (by decide) rfl
            have e8 : (t.reverse ++ d :: (c0 :: sq)) = ((rv_ins c0 rp).reverse ++ sr) := by rw [← hT]; simp [rv_ins, c22_1, c39_1]
            rw [e8] at hw_3 hP hD
            exact rtV hx hb hr hlocks dX0_moveAhead_66 u_3 hw_3 hP hD hS
          · skip
            refine lv_aload_n hx hb dX0_moveAhead_42 rfl (lv_at hl 2 rfl) ?_
            refine lv_iload_n hx hb dX0_moveAhead_43 rfl (lv_at hl 0 rfl) ?_
            refine lv_aload_n hx hb dX0_moveAhead_44 rfl (lv_at hl 2 rfl) ?_
            refine lv_iload_n hx hb dX0_moveAhead_45 rfl (lv_at hl 0 rfl) ?_
            refine lv_iconst (v := 1) hx hb dX0_moveAhead_46 (by decide) ?_
            refine lv_isub hx hb dX0_moveAhead_47 ?_
            refine vp_callSi (W.runV ⟨hx, hb, hml, hown, hts⟩ (KX0_at l D h a cA f ((d :: t).reverse ++ z :: sq) hok (x3 - 1)) (cwV 1 hts gX0_moveAhead_X0_at rfl rfl rfl (by decide +kernel) ⟨Nat.le_of_ble_eq_true rfl, Nat.le_of_ble_eq_true rfl⟩) (pcR_V (hP.sub (ws' := [(h, .inr (1, [.ref a, .int (nI ((d :: t).reverse ++ z :: sq).length)])), (a, .inl (cA, 200, .inl f))]) [0, 1] rfl) (hK.sub (tys' := [(cA, .int)]) [0] rfl) hN 0 rfl rfl) rfl rfl hl.1 rfl (lv_room (Nat.le_of_ble_eq_true rfl)) dX0_moveAhead_48 ⟨Nat.zero_le _, Nat.zero_le _⟩) (fun r9 hr9 => ?_)
            replace hr9 : r9 = d := hr9.trans (mv_at e3 (by omega))
            subst r9
            refine clV (wr := []) (va_runV ⟨hx, hb, hml, hown, hts⟩ (KX0_put l D h a cA f ((d :: t).reverse ++ z :: sq) hok x3 d _) (cwV 2 hts gX0_moveAhead_X0_put rfl rfl rfl (by decide +kernel) ⟨Nat.le_of_ble_eq_true rfl, Nat.le_of_ble_eq_true rfl⟩) (pcM_V (hP.sub (ws' := [(h, .inr (1, [.ref a, .int (nI ((d :: t).reverse ++ z :: sq).length)])), (a, .inl (cA, 200, .inl f))]) [0, 1] rfl) (hD.sub (ws' := [(h, .inr (1, [.ref a, .int (nI ((d :: t).reverse ++ z :: sq).length)])), (a, .inl (cA, 200, .inl f))]) [0, 1] (by decide) rfl) (hK.sub (tys' := [(cA, .int)]) [0] rfl) hN 0 rfl rfl) rfl rfl hl.1 rfl (lv_room (Nat.le_of_ble_eq_true rfl)) dX0_moveAhead_51 ⟨Nat.zero_le _, Nat.zero_le _⟩) hP hD hS hA [0, 1] [] rfl rfl (by decide) (by decide) (fun u_4 H locs hw_4 hP hD hS => ?_)
            have e9_4 : (rw_put ((d :: t).reverse ++ z :: sq) x3 d) = (t.reverse ++ d :: (d :: sq)) := (mv_put e3 (by omega))
            rw [e9_4] at hw_4 hP hD
            have hP : va_P D vwCl [(h, .inr (1, [.ref a, .int (nI (t.reverse ++ d :: (d :: sq)).length)])), (a, .inl (cA, 200, .inl u_4))] H := hP.sub [0, 1] rfl
            have hD : va_D A [(h, .inr (1, [.ref a, .int (nI (t.reverse ++ d :: (d :: sq)).length)])), (a, .inl (cA, 200, .inl u_4))] := hD.sub [0, 1] (by decide) rfl
            refine lv_iinc (v := (x3 + (-1))) (lv' := [(3, .int (x3 + (-1))), (2, .int c0), (0, .ref h), (1, .int (nI rp.length))]) hx hb dX0_moveAhead_54 hl (k := 0) rfl rfl (by decide) rfl (fun ls hl => ?_)
            refine lv_goto (tgt := 8) hx hb dX0_moveAhead_57 (by decide) ?_
            exact ih d (d :: sq) u_4 _ H locs ls (by rw [← hT]; simp [rv_ins, c22_1, c39_1]) (by rw [e3, List.length_cons]; exact pk_m1 _) hw_4 hP hD hS (lv_sub hl [0, 1, 2, 3] rfl)
  exact loop rp c0 sr f _ _ _ _ rfl rfl hok hP hD hS (lv_sub hl [0, 1, 2, 3] rfl)
end
section
/-! the rows of codes: order, taking apart, putting together, counting -/
set_option maxHeartbeats 4000000 in
set_option maxRecDepth 100000 in
theorem KX0_putInOrder (l : Launch) (D : va_G) (h a : Nat) (cA : ClassId) (f : Nat → Int32) (xs : List Int32) (hok : rw_ok f 200 xs) (T : List Int32) (hT : ordr xs = T) (sz : Nat) : Met l yX0_putInOrder wsX0_putInOrder ({ frames := 2, cells := 0, slots := 0, locals := 45 }) (pcM D sz [(h, .inr (1, [.ref a, .int (nI xs.length)])), (a, .inl (cA, 200, .inl f))] [(cA, .int)] [.ref h]) (qcV (S := Nat → Int32) D (fun u => rw_ok u 200 T) (fun u => [(h, .inr (1, [.ref a, .int (nI T.length)])), (a, .inl (cA, 200, .inl u))]) (va_A [(h, .inr (1, [.ref a, .int (nI xs.length)])), (a, .inl (cA, 200, .inl f))] sz)) 0 0 (va_A [(h, .inr (1, [.ref a, .int (nI xs.length)])), (a, .inl (cA, 200, .inl f))] sz) := by
  refine ofM (Qc := fun A => qcV (S := Nat → Int32) D (fun u => rw_ok u 200 T) (fun u => [(h, .inr (1, [.ref a, .int (nI T.length)])), (a, .inl (cA, 200, .inl u))]) A) (cc := cX0_putInOrder) (maxL := 2) (ret := none) (by decide) rfl (Nat.le_of_ble_eq_true rfl) ?_
  intro p e s m below meth c ls A hx hb hr hml hown hts hlocks hnm hP hK hN hD hA hS hl
  have hl : lv_has ls 2 [(0, .ref h)] := hl
  rcases xs with _ | ⟨x0, t0⟩
  · skip
    refine lv_iconst (v := 1) hx hb dX0_putInOrder_0 (by decide) ?_
    refine lv_istore_n (lv' := [(1, .int 1), (0, .ref h)]) hx hb dX0_putInOrder_1 rfl hl (by decide) rfl (fun ls hl => ?_)
    refine lv_iload_n hx hb dX0_putInOrder_2 rfl (lv_at hl 0 rfl) ?_
    refine lv_aload_n hx hb dX0_putInOrder_3 rfl (lv_at hl 1 rfl) ?_
    refine va_get (D := D) (ci := 1) (v := .int (nI ([] : List Int32).length)) (C := RX0) (T := TX0) (N := 2) hx hb hts (by decide +kernel) hown hK hP 0 rfl rfl 1 (by decide) (hts (.fieldLink RX0 15 "CharacterRows$Codes" "length" "I") (by decide +kernel)) (fun _ h9 => h9) rfl dX0_putInOrder_4 ?_
    refine lv_icmp_ge (tgt := 32) hx hb dX0_putInOrder_7 (by decide) (fun c7_1 => ?_) (fun c7_1 => ?_)
    · skip
      exact rtV hx hb hr hlocks dX0_putInOrder_32 f (by rw [← hT]; exact rw_nil) (by rw [← hT]; exact hP) (by rw [← hT]; exact hD) hS
    · skip
      exact absurd (by decide) c7_1
  · skip
    refine lv_iconst (v := 1) hx hb dX0_putInOrder_0 (by decide) ?_
    refine lv_istore_n (lv' := [(1, .int 1), (0, .ref h)]) hx hb dX0_putInOrder_1 rfl hl (by decide) rfl (fun ls hl => ?_)
    have loop : ∀ (rest : List Int32) (racc : List Int32) (f : Nat → Int32) (x1 : Int32) (H : Heap) (locs : List Loc) (ls : Array Slot), (rest.foldl rv_stp racc).reverse = T → x1 = nI racc.length → rw_ok f 200 (racc.reverse ++ rest) → va_P D vwCl [(h, .inr (1, [.ref a, .int (nI (racc.reverse ++ rest).length)])), (a, .inl (cA, 200, .inl f))] H → va_D A [(h, .inr (1, [.ref a, .int (nI (racc.reverse ++ rest).length)])), (a, .inl (cA, 200, .inl f))] → va_S A s.heap H locs → lv_has ls 2 [(1, .int x1), (0, .ref h)] → W p l e ({ frames := 2, cells := 0, slots := 0, locals := 45 }) s m ([.ref h] : List Value).toArray below meth c H locs 0 0 (MQ below (qcV (S := Nat → Int32) D (fun u => rw_ok u 200 T) (fun u => [(h, .inr (1, [.ref a, .int (nI T.length)])), (a, .inl (cA, 200, .inl u))]) A) ([.ref h] : List Value).toArray s 0 0 A) (F0 m 2 ls [])  := by
      intro rest
      induction rest with
      | nil =>
        intro racc f x1 H locs ls hT e1 hok hP hD hS hl
        refine lv_iload_n hx hb dX0_putInOrder_2 rfl (lv_at hl 0 rfl) ?_
        refine lv_aload_n hx hb dX0_putInOrder_3 rfl (lv_at hl 1 rfl) ?_
        refine va_get (D := D) (ci := 1) (v := .int (nI (racc.reverse ++ ([] : List Int32)).length)) (C := RX0) (T := TX0) (N := 2) hx hb hts (by decide +kernel) hown hK hP 0 rfl rfl 1 (by decide) (hts (.fieldLink RX0 15 "CharacterRows$Codes" "length" "I") (by decide +kernel)) (fun _ h9 => h9) rfl dX0_putInOrder_4 ?_
        refine lv_icmp_ge (tgt := 32) hx hb dX0_putInOrder_7 (by decide) (fun c7_2 => ?_) (fun c7_2 => ?_)
        · skip
          have e8 : (racc.reverse ++ ([] : List Int32)) = T := by rw [← hT]; simp
          rw [e8] at hok hP hD
          exact rtV hx hb hr hlocks dX0_putInOrder_32 f hok hP hD hS
        · skip
          exact absurd (by rw [e1]; simp) c7_2
      | cons d t ih =>
        intro racc f x1 H locs ls hT e1 hok hP hD hS hl
        have hln : racc.length + t.length + 1 ≤ 200 := by have := hok.1; simp at this; omega
        refine lv_iload_n hx hb dX0_putInOrder_2 rfl (lv_at hl 0 rfl) ?_
        refine lv_aload_n hx hb dX0_putInOrder_3 rfl (lv_at hl 1 rfl) ?_
        refine va_get (D := D) (ci := 1) (v := .int (nI (racc.reverse ++ (d :: t)).length)) (C := RX0) (T := TX0) (N := 2) hx hb hts (by decide +kernel) hown hK hP 0 rfl rfl 1 (by decide) (hts (.fieldLink RX0 15 "CharacterRows$Codes" "length" "I") (by decide +kernel)) (fun _ h9 => h9) rfl dX0_putInOrder_4 ?_
        refine lv_icmp_ge (tgt := 32) hx hb dX0_putInOrder_7 (by decide) (fun c7_3 => ?_) (fun c7_3 => ?_)
        · skip
          exact absurd c7_3 (by rw [e1]; exact nI_ge (by simp) (by simp; omega))
        · skip
          refine lv_aload_n hx hb dX0_putInOrder_10 rfl (lv_at hl 1 rfl) ?_
          refine lv_iload_n hx hb dX0_putInOrder_11 rfl (lv_at hl 0 rfl) ?_
          refine vp_callSi (W.runV ⟨hx, hb, hml, hown, hts⟩ (KX0_at l D h a cA f (racc.reverse ++ (d :: t)) hok x1) (cwV 1 hts gX0_putInOrder_X0_at rfl rfl rfl (by decide +kernel) ⟨Nat.le_of_ble_eq_true rfl, Nat.le_of_ble_eq_true rfl⟩) (pcR_V (hP.sub (ws' := [(h, .inr (1, [.ref a, .int (nI (racc.reverse ++ (d :: t)).length)])), (a, .inl (cA, 200, .inl f))]) [0, 1] rfl) (hK.sub (tys' := [(cA, .int)]) [0] rfl) hN 0 rfl rfl) rfl rfl hl.1 rfl (lv_room (Nat.le_of_ble_eq_true rfl)) dX0_putInOrder_12 ⟨Nat.zero_le _, Nat.zero_le _⟩) (fun r9 hr9 => ?_)
          replace hr9 : r9 = d := hr9.trans (by rw [e1]; exact rw_at_k (by simp) (by omega))
          subst r9
          refine vp_callSi ((va_runSN ⟨hx, hb, hml, hown, hts⟩ (KX2_isMark l d) ⟨va_cnB 1 hts gX0_putInOrder_X2_isMark_n27 rfl rfl rfl (nst_at hN 2 rfl) (hts (.initialized RX2) (by decide +kernel)) (by decide +kernel) ⟨Nat.le_of_ble_eq_true rfl, Nat.le_of_ble_eq_true rfl⟩, (hts (.static yX2_isMark) (by decide +kernel)), trivial⟩ pcS_S rfl rfl hl.1 rfl (lv_room (Nat.le_of_ble_eq_true rfl)) dX0_putInOrder_15 ⟨Nat.zero_le _, Nat.zero_le _⟩).run) (fun r9 hr9 => ?_)
          subst r9
          refine lv_if_eq (tgt := 26) hx hb dX0_putInOrder_18 (by decide) (fun c18_1 => ?_) (fun c18_1 => ?_)
          · skip
            have e7 : racc.reverse ++ d :: t = (d :: racc).reverse ++ t := by simp
            rw [e7] at hok hP hD
            refine lv_iinc (v := (x1 + 1)) (lv' := [(1, .int (x1 + 1)), (0, .ref h)]) hx hb dX0_putInOrder_26 hl (k := 0) rfl rfl (by decide) rfl (fun ls hl => ?_)
            refine lv_goto (tgt := 2) hx hb dX0_putInOrder_29 (by decide) ?_
            exact ih (d :: racc) f _ H locs ls (by rw [← hT]; simp [rv_stp, c18_1]) (by rw [e1, List.length_cons]; exact nI_1 _) hok hP hD hS (lv_sub hl [0, 1] rfl)
          · skip
            subst e1
            refine lv_aload_n hx hb dX0_putInOrder_21 rfl (lv_at hl 1 rfl) ?_
            refine lv_iload_n hx hb dX0_putInOrder_22 rfl (lv_at hl 0 rfl) ?_
            refine clV (wr := []) (va_runV ⟨hx, hb, hml, hown, hts⟩ (KX0_moveAhead l D h a cA f racc d t hok _) (cwV 1 hts gX0_putInOrder_X0_moveAhead rfl rfl rfl (by decide +kernel) ⟨Nat.le_of_ble_eq_true rfl, Nat.le_of_ble_eq_true rfl⟩) (pcM_V (hP.sub (ws' := [(h, .inr (1, [.ref a, .int (nI (racc.reverse ++ (d :: t)).length)])), (a, .inl (cA, 200, .inl f))]) [0, 1] rfl) (hD.sub (ws' := [(h, .inr (1, [.ref a, .int (nI (racc.reverse ++ (d :: t)).length)])), (a, .inl (cA, 200, .inl f))]) [0, 1] (by decide) rfl) (hK.sub (tys' := [(cA, .int)]) [0] rfl) hN 0 rfl rfl) rfl rfl hl.1 rfl (lv_room (Nat.le_of_ble_eq_true rfl)) dX0_putInOrder_23 ⟨Nat.zero_le _, Nat.zero_le _⟩) hP hD hS hA [0, 1] [] rfl rfl (by decide) (by decide) (fun u_1 H locs hw_1 hP hD hS => ?_)
            have hP : va_P D vwCl [(h, .inr (1, [.ref a, .int (nI ((rv_ins d racc).reverse ++ t).length)])), (a, .inl (cA, 200, .inl u_1))] H := hP.sub [0, 1] rfl
            have hD : va_D A [(h, .inr (1, [.ref a, .int (nI ((rv_ins d racc).reverse ++ t).length)])), (a, .inl (cA, 200, .inl u_1))] := hD.sub [0, 1] (by decide) rfl
            refine lv_iinc (v := ((nI racc.length) + 1)) (lv' := [(1, .int ((nI racc.length) + 1)), (0, .ref h)]) hx hb dX0_putInOrder_26 hl (k := 0) rfl rfl (by decide) rfl (fun ls hl => ?_)
            refine lv_goto (tgt := 2) hx hb dX0_putInOrder_29 (by decide) ?_
            exact ih (rv_ins d racc) u_1 _ H locs ls (by rw [← hT]; simp [rv_stp, c18_1]) (by rw [rv_ins_len]; exact nI_1 _) hw_1 hP hD hS (lv_sub hl [0, 1] rfl)
    exact loop t0 [x0] f _ _ _ _ (by rw [← hT]; by_cases q : fX2_isMark x0 = 0 <;> simp [ordr, rv_stp, rv_ins, q]) rfl hok hP hD hS (lv_sub hl [0, 1] rfl)
set_option maxHeartbeats 4000000 in
set_option maxRecDepth 100000 in
theorem KX0_takeApart (l : Launch) (D : va_G) (h a : Nat) (cA : ClassId) (f : Nat → Int32) (xs : List Int32) (hok : rw_ok f 200 xs) (g b : Nat) (cB : ClassId) (f2 : Nat → Int32) (ys : List Int32) (hok2 : rw_ok f2 200 ys) (h100 : ys.length ≤ 100) (sz : Nat) : Met l yX0_takeApart wsX0_takeApart ({ frames := 3, cells := 0, slots := 0, locals := 66 }) (pcM D sz [(h, .inr (1, [.ref a, .int (nI xs.length)])), (a, .inl (cA, 200, .inl f)), (g, .inr (1, [.ref b, .int (nI ys.length)])), (b, .inl (cB, 200, .inl f2))] [(cA, .int), (cB, .int)] [.ref h, .ref g]) (qcV (S := Nat → Int32) D (fun u => rw_ok u 200 (apo ys)) (fun u => [(h, .inr (1, [.ref a, .int (nI (apo ys).length)])), (a, .inl (cA, 200, .inl u)), (g, .inr (1, [.ref b, .int (nI ys.length)])), (b, .inl (cB, 200, .inl f2))]) (va_A [(h, .inr (1, [.ref a, .int (nI xs.length)])), (a, .inl (cA, 200, .inl f)), (g, .inr (1, [.ref b, .int (nI ys.length)])), (b, .inl (cB, 200, .inl f2))] sz)) 0 0 (va_A [(h, .inr (1, [.ref a, .int (nI xs.length)])), (a, .inl (cA, 200, .inl f)), (g, .inr (1, [.ref b, .int (nI ys.length)])), (b, .inl (cB, 200, .inl f2))] sz) := by
  refine ofM (Qc := fun A => qcV (S := Nat → Int32) D (fun u => rw_ok u 200 (apo ys)) (fun u => [(h, .inr (1, [.ref a, .int (nI (apo ys).length)])), (a, .inl (cA, 200, .inl u)), (g, .inr (1, [.ref b, .int (nI ys.length)])), (b, .inl (cB, 200, .inl f2))]) A) (cc := cX0_takeApart) (maxL := 4) (ret := none) (by decide) rfl (Nat.le_of_ble_eq_true rfl) ?_
  intro p e s m below meth c ls A hx hb hr hml hown hts hlocks hnm hP hK hN hD hA hS hl
  have hl : lv_has ls 4 [(0, .ref h), (1, .ref g)] := hl
  refine lv_aload_n hx hb dX0_takeApart_0 rfl (lv_at hl 0 rfl) ?_
  refine clV (wr := [(g, .inr (1, [.ref b, .int (nI ys.length)])), (b, .inl (cB, 200, .inl f2))]) (va_runV ⟨hx, hb, hml, hown, hts⟩ (KX0_empty l D h a cA f xs hok _) (cwV 0 hts gX0_takeApart_X0_empty rfl rfl rfl (by decide +kernel) ⟨Nat.le_of_ble_eq_true rfl, Nat.le_of_ble_eq_true rfl⟩) (pcM_V (hP.sub (ws' := [(h, .inr (1, [.ref a, .int (nI xs.length)])), (a, .inl (cA, 200, .inl f))]) [0, 1] rfl) (hD.sub (ws' := [(h, .inr (1, [.ref a, .int (nI xs.length)])), (a, .inl (cA, 200, .inl f))]) [0, 1] (by decide) rfl) (hK.sub (tys' := [(cA, .int)]) [0] rfl) hN 0 rfl rfl) rfl rfl hl.1 rfl (lv_room (Nat.le_of_ble_eq_true rfl)) dX0_takeApart_1 ⟨Nat.zero_le _, Nat.zero_le _⟩) hP hD hS hA [0, 1] [2, 3] rfl rfl (by decide) (by decide) (fun u_1 H locs hw_1 hP hD hS => ?_)
  have hP : va_P D vwCl [(h, .inr (1, [.ref a, .int (nI ([] : List Int32).length)])), (a, .inl (cA, 200, .inl u_1)), (g, .inr (1, [.ref b, .int (nI ys.length)])), (b, .inl (cB, 200, .inl f2))] H := hP.sub [2, 3, 0, 1] rfl
  have hD : va_D A [(h, .inr (1, [.ref a, .int (nI ([] : List Int32).length)])), (a, .inl (cA, 200, .inl u_1)), (g, .inr (1, [.ref b, .int (nI ys.length)])), (b, .inl (cB, 200, .inl f2))] := hD.sub [2, 3, 0, 1] (by decide) rfl
  refine lv_iconst (v := 0) hx hb dX0_takeApart_4 (by decide) ?_
  refine lv_istore_n (lv' := [(2, .int 0), (0, .ref h), (1, .ref g)]) hx hb dX0_takeApart_5 rfl hl (by decide) rfl (fun ls hl => ?_)
  have loop : ∀ (rest : List Int32) (done : List Int32) (f : Nat → Int32) (x2 : Int32) (H : Heap) (locs : List Loc) (ls : Array Slot), ys = done ++ rest → x2 = nI done.length → rw_ok f 200 (apt done) → va_P D vwCl [(h, .inr (1, [.ref a, .int (nI (apt done).length)])), (a, .inl (cA, 200, .inl f)), (g, .inr (1, [.ref b, .int (nI ys.length)])), (b, .inl (cB, 200, .inl f2))] H → va_D A [(h, .inr (1, [.ref a, .int (nI (apt done).length)])), (a, .inl (cA, 200, .inl f)), (g, .inr (1, [.ref b, .int (nI ys.length)])), (b, .inl (cB, 200, .inl f2))] → va_S A s.heap H locs → lv_has ls 4 [(2, .int x2), (0, .ref h), (1, .ref g)] → W p l e ({ frames := 3, cells := 0, slots := 0, locals := 66 }) s m ([.ref h, .ref g] : List Value).toArray below meth c H locs 0 0 (MQ below (qcV (S := Nat → Int32) D (fun u => rw_ok u 200 (apo ys)) (fun u => [(h, .inr (1, [.ref a, .int (nI (apo ys).length)])), (a, .inl (cA, 200, .inl u)), (g, .inr (1, [.ref b, .int (nI ys.length)])), (b, .inl (cB, 200, .inl f2))]) A) ([.ref h, .ref g] : List Value).toArray s 0 0 A) (F0 m 6 ls [])  := by
    intro rest
    induction rest with
    | nil =>
      intro done f x2 H locs ls hys e2 hok hP hD hS hl
      have hln : ys.length = done.length := by rw [hys]; simp
      have hdn : ys = done := by rw [hys]; simp
      refine lv_iload_n hx hb dX0_takeApart_6 rfl (lv_at hl 0 rfl) ?_
      refine lv_aload_n hx hb dX0_takeApart_7 rfl (lv_at hl 2 rfl) ?_
      refine va_get (D := D) (ci := 1) (v := .int (nI ys.length)) (C := RX0) (T := TX0) (N := 2) hx hb hts (by decide +kernel) hown hK hP 2 rfl rfl 1 (by decide) (hts (.fieldLink RX0 15 "CharacterRows$Codes" "length" "I") (by decide +kernel)) (fun _ h9 => h9) rfl dX0_takeApart_8 ?_
      refine lv_icmp_ge (tgt := 57) hx hb dX0_takeApart_11 (by decide) (fun c11_1 => ?_) (fun c11_1 => ?_)
      · skip
        refine lv_aload_n hx hb dX0_takeApart_57 rfl (lv_at hl 1 rfl) ?_
        refine clV (wr := [(g, .inr (1, [.ref b, .int (nI ys.length)])), (b, .inl (cB, 200, .inl f2))]) (va_runV ⟨hx, hb, hml, hown, hts⟩ (KX0_putInOrder l D h a cA f (apt done) hok (ordr (apt done)) rfl _) (cwV 0 hts gX0_takeApart_X0_putInOrder rfl rfl rfl (by decide +kernel) ⟨Nat.le_of_ble_eq_true rfl, Nat.le_of_ble_eq_true rfl⟩) (pcM_V (hP.sub (ws' := [(h, .inr (1, [.ref a, .int (nI (apt done).length)])), (a, .inl (cA, 200, .inl f))]) [0, 1] rfl) (hD.sub (ws' := [(h, .inr (1, [.ref a, .int (nI (apt done).length)])), (a, .inl (cA, 200, .inl f))]) [0, 1] (by decide) rfl) (hK.sub (tys' := [(cA, .int)]) [0] rfl) hN 0 rfl rfl) rfl rfl hl.1 rfl (lv_room (Nat.le_of_ble_eq_true rfl)) dX0_takeApart_58 ⟨Nat.zero_le _, Nat.zero_le _⟩) hP hD hS hA [0, 1] [2, 3] rfl rfl (by decide) (by decide) (fun u_2 H locs hw_2 hP hD hS => ?_)
        have hP : va_P D vwCl [(h, .inr (1, [.ref a, .int (nI (ordr (apt done)).length)])), (a, .inl (cA, 200, .inl u_2)), (g, .inr (1, [.ref b, .int (nI ys.length)])), (b, .inl (cB, 200, .inl f2))] H := hP.sub [2, 3, 0, 1] rfl
        have hD : va_D A [(h, .inr (1, [.ref a, .int (nI (ordr (apt done)).length)])), (a, .inl (cA, 200, .inl u_2)), (g, .inr (1, [.ref b, .int (nI ys.length)])), (b, .inl (cB, 200, .inl f2))] := hD.sub [2, 3, 0, 1] (by decide) rfl
        rw [← hdn] at hw_2 hP hD
        exact rtV hx hb hr hlocks dX0_takeApart_61 u_2 hw_2 hP hD hS
      · skip
        exact absurd (by rw [e2, hln]; exact Int32.le_refl _) c11_1
    | cons d t ih =>
      intro done f x2 H locs ls hys e2 hok hP hD hS hl
      have hln : ys.length = done.length + (t.length + 1) := by rw [hys]; simp
      have hap := apt_len done
      refine lv_iload_n hx hb dX0_takeApart_6 rfl (lv_at hl 0 rfl) ?_
      refine lv_aload_n hx hb dX0_takeApart_7 rfl (lv_at hl 2 rfl) ?_
      refine va_get (D := D) (ci := 1) (v := .int (nI ys.length)) (C := RX0) (T := TX0) (N := 2) hx hb hts (by decide +kernel) hown hK hP 2 rfl rfl 1 (by decide) (hts (.fieldLink RX0 15 "CharacterRows$Codes" "length" "I") (by decide +kernel)) (fun _ h9 => h9) rfl dX0_takeApart_8 ?_
      refine lv_icmp_ge (tgt := 57) hx hb dX0_takeApart_11 (by decide) (fun c11_2 => ?_) (fun c11_2 => ?_)
      · skip
        exact absurd c11_2 (by rw [e2, hln]; exact nI_ge (by omega) (by omega))
      · skip
        refine lv_aload_n hx hb dX0_takeApart_14 rfl (lv_at hl 2 rfl) ?_
        refine lv_iload_n hx hb dX0_takeApart_15 rfl (lv_at hl 0 rfl) ?_
        refine vp_callSi (W.runV ⟨hx, hb, hml, hown, hts⟩ (KX0_at l D g b cB f2 ys hok2 x2) (cwV 1 hts gX0_takeApart_X0_at rfl rfl rfl (by decide +kernel) ⟨Nat.le_of_ble_eq_true rfl, Nat.le_of_ble_eq_true rfl⟩) (pcR_V (hP.sub (ws' := [(g, .inr (1, [.ref b, .int (nI ys.length)])), (b, .inl (cB, 200, .inl f2))]) [2, 3] rfl) (hK.sub (tys' := [(cB, .int)]) [1] rfl) hN 0 rfl rfl) rfl rfl hl.1 rfl (lv_room (Nat.le_of_ble_eq_true rfl)) dX0_takeApart_16 ⟨Nat.zero_le _, Nat.zero_le _⟩) (fun r9 hr9 => ?_)
        replace hr9 : r9 = d := hr9.trans (by rw [hys, e2]; exact rw_at_k rfl (by omega))
        subst r9
        refine lv_istore_n (lv' := [(3, .int d), (2, .int x2), (0, .ref h), (1, .ref g)]) hx hb dX0_takeApart_19 rfl hl (by decide) rfl (fun ls hl => ?_)
        refine lv_iload_n hx hb dX0_takeApart_20 rfl (lv_at hl 0 rfl) ?_
        refine vp_callSi ((va_runSN ⟨hx, hb, hml, hown, hts⟩ (KX2_isComposed l d) ⟨va_cnB 1 hts gX0_takeApart_X2_isComposed_n44 rfl rfl rfl (nst_at hN 4 rfl) (hts (.initialized RX2) (by decide +kernel)) (by decide +kernel) ⟨Nat.le_of_ble_eq_true rfl, Nat.le_of_ble_eq_true rfl⟩, (hts (.static yX2_isComposed) (by decide +kernel)), trivial⟩ pcS_S rfl rfl hl.1 rfl (lv_room (Nat.le_of_ble_eq_true rfl)) dX0_takeApart_21 ⟨Nat.zero_le _, Nat.zero_le _⟩).run) (fun r9 hr9 => ?_)
        subst r9
        refine lv_if_eq (tgt := 46) hx hb dX0_takeApart_24 (by decide) (fun c24_1 => ?_) (fun c24_1 => ?_)
        · skip
          refine lv_aload_n hx hb dX0_takeApart_46 rfl (lv_at hl 2 rfl) ?_
          refine lv_iload_n hx hb dX0_takeApart_47 rfl (lv_at hl 0 rfl) ?_
          refine clV (wr := [(g, .inr (1, [.ref b, .int (nI ys.length)])), (b, .inl (cB, 200, .inl f2))]) (va_runV ⟨hx, hb, hml, hown, hts⟩ (KX0_add l D h a cA f (apt done) hok d _) (cwV 1 hts gX0_takeApart_X0_add rfl rfl rfl (by decide +kernel) ⟨Nat.le_of_ble_eq_true rfl, Nat.le_of_ble_eq_true rfl⟩) (pcM_V (hP.sub (ws' := [(h, .inr (1, [.ref a, .int (nI (apt done).length)])), (a, .inl (cA, 200, .inl f))]) [0, 1] rfl) (hD.sub (ws' := [(h, .inr (1, [.ref a, .int (nI (apt done).length)])), (a, .inl (cA, 200, .inl f))]) [0, 1] (by decide) rfl) (hK.sub (tys' := [(cA, .int)]) [0] rfl) hN 0 rfl rfl) rfl rfl hl.1 rfl (lv_room (Nat.le_of_ble_eq_true rfl)) dX0_takeApart_48 ⟨Nat.zero_le _, Nat.zero_le _⟩) hP hD hS hA [0, 1] [2, 3] rfl rfl (by decide) (by decide) (fun u_3 H locs hw_3 hP hD hS => ?_)
          have e9_1 : (rw_add 200 (apt done) d) = (apt done ++ [d]) := (rw_add_lt (by first | omega | (simp; omega)))
          rw [e9_1] at hw_3 hP hD
          have hP : va_P D vwCl [(h, .inr (1, [.ref a, .int (nI (apt done ++ [d]).length)])), (a, .inl (cA, 200, .inl u_3)), (g, .inr (1, [.ref b, .int (nI ys.length)])), (b, .inl (cB, 200, .inl f2))] H := hP.sub [2, 3, 0, 1] rfl
          have hD : va_D A [(h, .inr (1, [.ref a, .int (nI (apt done ++ [d]).length)])), (a, .inl (cA, 200, .inl u_3)), (g, .inr (1, [.ref b, .int (nI ys.length)])), (b, .inl (cB, 200, .inl f2))] := hD.sub [2, 3, 0, 1] (by decide) rfl
          refine lv_iinc (v := (x2 + 1)) (lv' := [(2, .int (x2 + 1)), (3, .int d), (0, .ref h), (1, .ref g)]) hx hb dX0_takeApart_51 hl (k := 1) rfl rfl (by decide) rfl (fun ls hl => ?_)
          refine lv_goto (tgt := 6) hx hb dX0_takeApart_54 (by decide) ?_
          have e7 : (apt done ++ [d]) = apt (done ++ [d]) := by simp [apt, ap1, c24_1]
          rw [e7] at hw_3 hP hD
          exact ih (done ++ [d]) u_3 _ H locs ls (by rw [hys]; simp) (by rw [e2, List.length_append]; exact nI_1 _) hw_3 hP hD hS (lv_sub hl [0, 2, 3] rfl)
        · skip
          refine lv_aload_n hx hb dX0_takeApart_27 rfl (lv_at hl 2 rfl) ?_
          refine lv_iload_n hx hb dX0_takeApart_28 rfl (lv_at hl 0 rfl) ?_
          refine vp_callSi ((va_runSN ⟨hx, hb, hml, hown, hts⟩ (KX2_letterOf l d) ⟨va_cnB 1 hts gX0_takeApart_X2_letterOf_n47 rfl rfl rfl (nst_at hN 5 rfl) (hts (.initialized RX2) (by decide +kernel)) (by decide +kernel) ⟨Nat.le_of_ble_eq_true rfl, Nat.le_of_ble_eq_true rfl⟩, (hts (.static yX2_letterOf) (by decide +kernel)), trivial⟩ pcS_S rfl rfl hl.1 rfl (lv_room (Nat.le_of_ble_eq_true rfl)) dX0_takeApart_29 ⟨Nat.zero_le _, Nat.zero_le _⟩).run) (fun r9 hr9 => ?_)
          subst r9
          refine clV (wr := [(g, .inr (1, [.ref b, .int (nI ys.length)])), (b, .inl (cB, 200, .inl f2))]) (va_runV ⟨hx, hb, hml, hown, hts⟩ (KX0_add l D h a cA f (apt done) hok (fX2_letterOf d) _) (cwV 1 hts gX0_takeApart_X0_add rfl rfl rfl (by decide +kernel) ⟨Nat.le_of_ble_eq_true rfl, Nat.le_of_ble_eq_true rfl⟩) (pcM_V (hP.sub (ws' := [(h, .inr (1, [.ref a, .int (nI (apt done).length)])), (a, .inl (cA, 200, .inl f))]) [0, 1] rfl) (hD.sub (ws' := [(h, .inr (1, [.ref a, .int (nI (apt done).length)])), (a, .inl (cA, 200, .inl f))]) [0, 1] (by decide) rfl) (hK.sub (tys' := [(cA, .int)]) [0] rfl) hN 0 rfl rfl) rfl rfl hl.1 rfl (lv_room (Nat.le_of_ble_eq_true rfl)) dX0_takeApart_32 ⟨Nat.zero_le _, Nat.zero_le _⟩) hP hD hS hA [0, 1] [2, 3] rfl rfl (by decide) (by decide) (fun u_4 H locs hw_4 hP hD hS => ?_)
          have e9_2 : (rw_add 200 (apt done) (fX2_letterOf d)) = (apt done ++ [fX2_letterOf d]) := (rw_add_lt (by first | omega | (simp; omega)))
          rw [e9_2] at hw_4 hP hD
          have hP : va_P D vwCl [(h, .inr (1, [.ref a, .int (nI (apt done ++ [fX2_letterOf d]).length)])), (a, .inl (cA, 200, .inl u_4)), (g, .inr (1, [.ref b, .int (nI ys.length)])), (b, .inl (cB, 200, .inl f2))] H := hP.sub [2, 3, 0, 1] rfl
          have hD : va_D A [(h, .inr (1, [.ref a, .int (nI (apt done ++ [fX2_letterOf d]).length)])), (a, .inl (cA, 200, .inl u_4)), (g, .inr (1, [.ref b, .int (nI ys.length)])), (b, .inl (cB, 200, .inl f2))] := hD.sub [2, 3, 0, 1] (by decide) rfl
          refine lv_aload_n hx hb dX0_takeApart_35 rfl (lv_at hl 2 rfl) ?_
          refine lv_iload_n hx hb dX0_takeApart_36 rfl (lv_at hl 0 rfl) ?_
          refine vp_callSi ((va_runSN ⟨hx, hb, hml, hown, hts⟩ (KX2_markOf l d) ⟨va_cnB 1 hts gX0_takeApart_X2_markOf_n50 rfl rfl rfl (nst_at hN 6 rfl) (hts (.initialized RX2) (by decide +kernel)) (by decide +kernel) ⟨Nat.le_of_ble_eq_true rfl, Nat.le_of_ble_eq_true rfl⟩, (hts (.static yX2_markOf) (by decide +kernel)), trivial⟩ pcS_S rfl rfl hl.1 rfl (lv_room (Nat.le_of_ble_eq_true rfl)) dX0_takeApart_37 ⟨Nat.zero_le _, Nat.zero_le _⟩).run) (fun r9 hr9 => ?_)
          subst r9
          refine clV (wr := [(g, .inr (1, [.ref b, .int (nI ys.length)])), (b, .inl (cB, 200, .inl f2))]) (va_runV ⟨hx, hb, hml, hown, hts⟩ (KX0_add l D h a cA u_4 (apt done ++ [fX2_letterOf d]) hw_4 (fX2_markOf d) _) (cwV 1 hts gX0_takeApart_X0_add rfl rfl rfl (by decide +kernel) ⟨Nat.le_of_ble_eq_true rfl, Nat.le_of_ble_eq_true rfl⟩) (pcM_V (hP.sub (ws' := [(h, .inr (1, [.ref a, .int (nI (apt done ++ [fX2_letterOf d]).length)])), (a, .inl (cA, 200, .inl u_4))]) [0, 1] rfl) (hD.sub (ws' := [(h, .inr (1, [.ref a, .int (nI (apt done ++ [fX2_letterOf d]).length)])), (a, .inl (cA, 200, .inl u_4))]) [0, 1] (by decide) rfl) (hK.sub (tys' := [(cA, .int)]) [0] rfl) hN 0 rfl rfl) rfl rfl hl.1 rfl (lv_room (Nat.le_of_ble_eq_true rfl)) dX0_takeApart_40 ⟨Nat.zero_le _, Nat.zero_le _⟩) hP hD hS hA [0, 1] [2, 3] rfl rfl (by decide) (by decide) (fun u_5 H locs hw_5 hP hD hS => ?_)
          have e9_3 : (rw_add 200 (apt done ++ [fX2_letterOf d]) (fX2_markOf d)) = (apt done ++ [fX2_letterOf d] ++ [fX2_markOf d]) := (rw_add_lt (by first | omega | (simp; omega)))
          rw [e9_3] at hw_5 hP hD
          have hP : va_P D vwCl [(h, .inr (1, [.ref a, .int (nI (apt done ++ [fX2_letterOf d] ++ [fX2_markOf d]).length)])), (a, .inl (cA, 200, .inl u_5)), (g, .inr (1, [.ref b, .int (nI ys.length)])), (b, .inl (cB, 200, .inl f2))] H := hP.sub [2, 3, 0, 1] rfl
          have hD : va_D A [(h, .inr (1, [.ref a, .int (nI (apt done ++ [fX2_letterOf d] ++ [fX2_markOf d]).length)])), (a, .inl (cA, 200, .inl u_5)), (g, .inr (1, [.ref b, .int (nI ys.length)])), (b, .inl (cB, 200, .inl f2))] := hD.sub [2, 3, 0, 1] (by decide) rfl
          refine lv_goto (tgt := 51) hx hb dX0_takeApart_43 (by decide) ?_
          refine lv_iinc (v := (x2 + 1)) (lv' := [(2, .int (x2 + 1)), (3, .int d), (0, .ref h), (1, .ref g)]) hx hb dX0_takeApart_51 hl (k := 1) rfl rfl (by decide) rfl (fun ls hl => ?_)
          refine lv_goto (tgt := 6) hx hb dX0_takeApart_54 (by decide) ?_
          have e7 : (apt done ++ [fX2_letterOf d] ++ [fX2_markOf d]) = apt (done ++ [d]) := by simp [apt, ap1, c24_1]
          rw [e7] at hw_5 hP hD
          exact ih (done ++ [d]) u_5 _ H locs ls (by rw [hys]; simp) (by rw [e2, List.length_append]; exact nI_1 _) hw_5 hP hD hS (lv_sub hl [0, 2, 3] rfl)
  exact loop ys [] u_1 _ H locs ls rfl rfl hw_1 hP hD hS (lv_sub hl [0, 1, 2] rfl)
end
section
/-! the rows of codes: putting together, counting, comparing; the two constructors -/
set_option maxHeartbeats 4000000 in
set_option maxRecDepth 100000 in
theorem KX0_putTogether (l : Launch) (D : va_G) (h a : Nat) (cA : ClassId) (f : Nat → Int32) (xs : List Int32) (hok : rw_ok f 200 xs) (T : List Int32) (hT : tog xs = T) (sz : Nat) : Met l yX0_putTogether wsX0_putTogether ({ frames := 2, cells := 0, slots := 0, locals := 40 }) (pcM D sz [(h, .inr (1, [.ref a, .int (nI xs.length)])), (a, .inl (cA, 200, .inl f))] [(cA, .int)] [.ref h]) (qcV (S := Nat → Int32) D (fun u => rw_ok u 200 T) (fun u => [(h, .inr (1, [.ref a, .int (nI T.length)])), (a, .inl (cA, 200, .inl u))]) (va_A [(h, .inr (1, [.ref a, .int (nI xs.length)])), (a, .inl (cA, 200, .inl f))] sz)) 0 0 (va_A [(h, .inr (1, [.ref a, .int (nI xs.length)])), (a, .inl (cA, 200, .inl f))] sz) := by
  refine ofM (Qc := fun A => qcV (S := Nat → Int32) D (fun u => rw_ok u 200 T) (fun u => [(h, .inr (1, [.ref a, .int (nI T.length)])), (a, .inl (cA, 200, .inl u))]) A) (cc := cX0_putTogether) (maxL := 5) (ret := none) (by decide) rfl (Nat.le_of_ble_eq_true rfl) ?_
  intro p e s m below meth c ls A hx hb hr hml hown hts hlocks hnm hP hK hN hD hA hS hl
  have hl : lv_has ls 5 [(0, .ref h)] := hl
  refine lv_iconst (v := 0) hx hb dX0_putTogether_0 (by decide) ?_
  refine lv_istore_n (lv' := [(1, .int 0), (0, .ref h)]) hx hb dX0_putTogether_1 rfl hl (by decide) rfl (fun ls hl => ?_)
  refine lv_iconst (v := 0) hx hb dX0_putTogether_2 (by decide) ?_
  refine lv_istore_n (lv' := [(2, .int 0), (1, .int 0), (0, .ref h)]) hx hb dX0_putTogether_3 rfl hl (by decide) rfl (fun ls hl => ?_)
  have loop : ∀ (n : Nat) (rest o g : List Int32) (f : Nat → Int32) (x1 x2 : Int32) (H : Heap) (locs : List Loc) (ls : Array Slot), rest.length ≤ n → o ++ tog rest = T → x1 = nI o.length → x2 = nI (o.length + g.length) → rw_ok f 200 (o ++ g ++ rest) → va_P D vwCl [(h, .inr (1, [.ref a, .int (nI (o ++ g ++ rest).length)])), (a, .inl (cA, 200, .inl f))] H → va_D A [(h, .inr (1, [.ref a, .int (nI (o ++ g ++ rest).length)])), (a, .inl (cA, 200, .inl f))] → va_S A s.heap H locs → lv_has ls 5 [(2, .int x2), (1, .int x1), (0, .ref h)] → W p l e ({ frames := 2, cells := 0, slots := 0, locals := 40 }) s m ([.ref h] : List Value).toArray below meth c H locs 0 0 (MQ below (qcV (S := Nat → Int32) D (fun u => rw_ok u 200 T) (fun u => [(h, .inr (1, [.ref a, .int (nI T.length)])), (a, .inl (cA, 200, .inl u))]) A) ([.ref h] : List Value).toArray s 0 0 A) (F0 m 4 ls [])  := by
    intro n
    induction n with
    | zero =>
      intro rest o g f x1 x2 H locs ls hn hT e1 e2 hok hP hD hS hl
      obtain rfl : rest = [] := List.eq_nil_of_length_eq_zero (by omega)
      refine lv_iload_n hx hb dX0_putTogether_4 rfl (lv_at hl 0 rfl) ?_
      refine lv_aload_n hx hb dX0_putTogether_5 rfl (lv_at hl 2 rfl) ?_
      refine va_get (D := D) (ci := 1) (v := .int (nI (o ++ g ++ ([] : List Int32)).length)) (C := RX0) (T := TX0) (N := 2) hx hb hts (by decide +kernel) hown hK hP 0 rfl rfl 1 (by decide) (hts (.fieldLink RX0 15 "CharacterRows$Codes" "length" "I") (by decide +kernel)) (fun _ h9 => h9) rfl dX0_putTogether_6 ?_
      refine lv_icmp_ge (tgt := 67) hx hb dX0_putTogether_9 (by decide) (fun c9_1 => ?_) (fun c9_1 => ?_)
      · skip
        refine lv_aload_n hx hb dX0_putTogether_67 rfl (lv_at hl 2 rfl) ?_
        refine lv_iload_n hx hb dX0_putTogether_68 rfl (lv_at hl 1 rfl) ?_
        refine va_put (D := D) (ci := 1) (v := .int x1) (ty := .int) (C := RX0) (T := TX0) (N := 2) hx hb hts (by decide +kernel) tyX0 tyX0_ok nmX0 hown hK hP hD hS 0 rfl rfl 1 (by decide) (hts (.fieldLink RX0 15 "CharacterRows$Codes" "length" "I") (by decide +kernel)) (fun _ h9 => h9) rfl (by decide +kernel) rfl rfl (Nat.le_of_ble_eq_true rfl) dX0_putTogether_69 (fun H locs hP hD hS => ?_)
        have hP : va_P D vwCl [(h, .inr (1, [.ref a, .int x1])), (a, .inl (cA, 200, .inl f))] H := hP
        have hD : va_D A [(h, .inr (1, [.ref a, .int x1])), (a, .inl (cA, 200, .inl f))] := hD
        have e8 : o = T := by rw [← hT]; simp [tog]
        rw [List.append_assoc] at hok
        have hok8 := rw_pre hok
        rw [e8] at hok8 e1
        rw [e1] at hP hD
        exact rtV hx hb hr hlocks dX0_putTogether_72 f hok8 hP hD hS
      · skip
        exact absurd (by rw [e2]; simp) c9_1
    | succ n ih =>
      intro rest o g f x1 x2 H locs ls hn hT e1 e2 hok hP hD hS hl
      rcases rest with _ | ⟨c0, _ | ⟨d0, t0⟩⟩
      · skip
        refine lv_iload_n hx hb dX0_putTogether_4 rfl (lv_at hl 0 rfl) ?_
        refine lv_aload_n hx hb dX0_putTogether_5 rfl (lv_at hl 2 rfl) ?_
        refine va_get (D := D) (ci := 1) (v := .int (nI (o ++ g ++ ([] : List Int32)).length)) (C := RX0) (T := TX0) (N := 2) hx hb hts (by decide +kernel) hown hK hP 0 rfl rfl 1 (by decide) (hts (.fieldLink RX0 15 "CharacterRows$Codes" "length" "I") (by decide +kernel)) (fun _ h9 => h9) rfl dX0_putTogether_6 ?_
        refine lv_icmp_ge (tgt := 67) hx hb dX0_putTogether_9 (by decide) (fun c9_2 => ?_) (fun c9_2 => ?_)
        · skip
          refine lv_aload_n hx hb dX0_putTogether_67 rfl (lv_at hl 2 rfl) ?_
          refine lv_iload_n hx hb dX0_putTogether_68 rfl (lv_at hl 1 rfl) ?_
          refine va_put (D := D) (ci := 1) (v := .int x1) (ty := .int) (C := RX0) (T := TX0) (N := 2) hx hb hts (by decide +kernel) tyX0 tyX0_ok nmX0 hown hK hP hD hS 0 rfl rfl 1 (by decide) (hts (.fieldLink RX0 15 "CharacterRows$Codes" "length" "I") (by decide +kernel)) (fun _ h9 => h9) rfl (by decide +kernel) rfl rfl (Nat.le_of_ble_eq_true rfl) dX0_putTogether_69 (fun H locs hP hD hS => ?_)
          have hP : va_P D vwCl [(h, .inr (1, [.ref a, .int x1])), (a, .inl (cA, 200, .inl f))] H := hP
          have hD : va_D A [(h, .inr (1, [.ref a, .int x1])), (a, .inl (cA, 200, .inl f))] := hD
          have e8 : o = T := by rw [← hT]; simp [tog]
          rw [List.append_assoc] at hok
          have hok8 := rw_pre hok
          rw [e8] at hok8 e1
          rw [e1] at hP hD
          exact rtV hx hb hr hlocks dX0_putTogether_72 f hok8 hP hD hS
        · skip
          exact absurd (by rw [e2]; simp) c9_2
      · skip
        have hl2 : o.length + g.length + 1 ≤ 200 := by have := hok.1; simp at this; omega
        refine lv_iload_n hx hb dX0_putTogether_4 rfl (lv_at hl 0 rfl) ?_
        refine lv_aload_n hx hb dX0_putTogether_5 rfl (lv_at hl 2 rfl) ?_
        refine va_get (D := D) (ci := 1) (v := .int (nI (o ++ g ++ [c0]).length)) (C := RX0) (T := TX0) (N := 2) hx hb hts (by decide +kernel) hown hK hP 0 rfl rfl 1 (by decide) (hts (.fieldLink RX0 15 "CharacterRows$Codes" "length" "I") (by decide +kernel)) (fun _ h9 => h9) rfl dX0_putTogether_6 ?_
        refine lv_icmp_ge (tgt := 67) hx hb dX0_putTogether_9 (by decide) (fun c9_3 => ?_) (fun c9_3 => ?_)
        · skip
          exact absurd c9_3 (by rw [e2]; exact nI_ge (by simp) (by simp; omega))
        · skip
          refine lv_aload_n hx hb dX0_putTogether_12 rfl (lv_at hl 2 rfl) ?_
          refine lv_iload_n hx hb dX0_putTogether_13 rfl (lv_at hl 0 rfl) ?_
          refine vp_callSi (W.runV ⟨hx, hb, hml, hown, hts⟩ (KX0_at l D h a cA f (o ++ g ++ [c0]) hok x2) (cwV 1 hts gX0_putTogether_X0_at rfl rfl rfl (by decide +kernel) ⟨Nat.le_of_ble_eq_true rfl, Nat.le_of_ble_eq_true rfl⟩) (pcR_V (hP.sub (ws' := [(h, .inr (1, [.ref a, .int (nI (o ++ g ++ [c0]).length)])), (a, .inl (cA, 200, .inl f))]) [0, 1] rfl) (hK.sub (tys' := [(cA, .int)]) [0] rfl) hN 0 rfl rfl) rfl rfl hl.1 rfl (lv_room (Nat.le_of_ble_eq_true rfl)) dX0_putTogether_14 ⟨Nat.zero_le _, Nat.zero_le _⟩) (fun r9 hr9 => ?_)
          replace hr9 : r9 = c0 := hr9.trans (tg_at e2 (by omega))
          subst r9
          refine lv_istore_n (lv' := [(3, .int c0), (2, .int x2), (1, .int x1), (0, .ref h)]) hx hb dX0_putTogether_17 rfl hl (by decide) rfl (fun ls hl => ?_)
          refine lv_aload_n hx hb dX0_putTogether_18 rfl (lv_at hl 3 rfl) ?_
          refine lv_iload_n hx hb dX0_putTogether_19 rfl (lv_at hl 1 rfl) ?_
          refine lv_iconst (v := 1) hx hb dX0_putTogether_20 (by decide) ?_
          refine lv_iadd hx hb dX0_putTogether_21 ?_
          refine vp_callSi (W.runV ⟨hx, hb, hml, hown, hts⟩ (KX0_at l D h a cA f (o ++ g ++ [c0]) hok (x2 + 1)) (cwV 1 hts gX0_putTogether_X0_at rfl rfl rfl (by decide +kernel) ⟨Nat.le_of_ble_eq_true rfl, Nat.le_of_ble_eq_true rfl⟩) (pcR_V (hP.sub (ws' := [(h, .inr (1, [.ref a, .int (nI (o ++ g ++ [c0]).length)])), (a, .inl (cA, 200, .inl f))]) [0, 1] rfl) (hK.sub (tys' := [(cA, .int)]) [0] rfl) hN 0 rfl rfl) rfl rfl hl.1 rfl (lv_room (Nat.le_of_ble_eq_true rfl)) dX0_putTogether_22 ⟨Nat.zero_le _, Nat.zero_le _⟩) (fun r9 hr9 => ?_)
          replace hr9 : r9 = (-1) := hr9.trans (tg_at3 e2 (by omega))
          subst r9
          refine lv_istore (lv' := [(4, .int (-1)), (3, .int c0), (2, .int x2), (1, .int x1), (0, .ref h)]) hx hb dX0_putTogether_25 hl (by decide) rfl (fun ls hl => ?_)
          refine lv_iload_n hx hb dX0_putTogether_27 rfl (lv_at hl 1 rfl) ?_
          refine vp_callSi ((va_runSN ⟨hx, hb, hml, hown, hts⟩ (KX2_isLetter l c0) ⟨va_cnB 1 hts gX0_putTogether_X2_isLetter_n56 rfl rfl rfl (nst_at hN 7 rfl) (hts (.initialized RX2) (by decide +kernel)) (by decide +kernel) ⟨Nat.le_of_ble_eq_true rfl, Nat.le_of_ble_eq_true rfl⟩, (hts (.static yX2_isLetter) (by decide +kernel)), trivial⟩ pcS_S rfl rfl hl.1 rfl (lv_room (Nat.le_of_ble_eq_true rfl)) dX0_putTogether_28 ⟨Nat.zero_le _, Nat.zero_le _⟩).run) (fun r9 hr9 => ?_)
          subst r9
          refine lv_if_eq (tgt := 52) hx hb dX0_putTogether_31 (by decide) (fun c31_1 => ?_) (fun c31_1 => ?_)
          · skip
            refine lv_aload_n hx hb dX0_putTogether_52 rfl (lv_at hl 4 rfl) ?_
            refine lv_iload_n hx hb dX0_putTogether_53 rfl (lv_at hl 3 rfl) ?_
            refine lv_iload_n hx hb dX0_putTogether_54 rfl (lv_at hl 1 rfl) ?_
            refine clV (wr := []) (va_runV ⟨hx, hb, hml, hown, hts⟩ (KX0_put l D h a cA f (o ++ g ++ [c0]) hok x1 c0 _) (cwV 2 hts gX0_putTogether_X0_put rfl rfl rfl (by decide +kernel) ⟨Nat.le_of_ble_eq_true rfl, Nat.le_of_ble_eq_true rfl⟩) (pcM_V (hP.sub (ws' := [(h, .inr (1, [.ref a, .int (nI (o ++ g ++ [c0]).length)])), (a, .inl (cA, 200, .inl f))]) [0, 1] rfl) (hD.sub (ws' := [(h, .inr (1, [.ref a, .int (nI (o ++ g ++ [c0]).length)])), (a, .inl (cA, 200, .inl f))]) [0, 1] (by decide) rfl) (hK.sub (tys' := [(cA, .int)]) [0] rfl) hN 0 rfl rfl) rfl rfl hl.1 rfl (lv_room (Nat.le_of_ble_eq_true rfl)) dX0_putTogether_55 ⟨Nat.zero_le _, Nat.zero_le _⟩) hP hD hS hA [0, 1] [] rfl rfl (by decide) (by decide) (fun u_1 H locs hw_1 hP hD hS => ?_)
            have e9_1 : (rw_put (o ++ g ++ [c0]) x1 c0) = ((o ++ [c0]) ++ (g ++ [c0]).tail ++ []) := (tg_put e1 (by omega))
            rw [e9_1] at hw_1 hP hD
            have hP : va_P D vwCl [(h, .inr (1, [.ref a, .int (nI ((o ++ [c0]) ++ (g ++ [c0]).tail ++ []).length)])), (a, .inl (cA, 200, .inl u_1))] H := hP.sub [0, 1] rfl
            have hD : va_D A [(h, .inr (1, [.ref a, .int (nI ((o ++ [c0]) ++ (g ++ [c0]).tail ++ []).length)])), (a, .inl (cA, 200, .inl u_1))] := hD.sub [0, 1] (by decide) rfl
            refine lv_iinc (v := (x1 + 1)) (lv' := [(1, .int (x1 + 1)), (4, .int (-1)), (3, .int c0), (2, .int x2), (0, .ref h)]) hx hb dX0_putTogether_58 hl (k := 3) rfl rfl (by decide) rfl (fun ls hl => ?_)
            refine lv_iinc (v := (x2 + 1)) (lv' := [(2, .int (x2 + 1)), (1, .int (x1 + 1)), (4, .int (-1)), (3, .int c0), (0, .ref h)]) hx hb dX0_putTogether_61 hl (k := 3) rfl rfl (by decide) rfl (fun ls hl => ?_)
            refine lv_goto (tgt := 4) hx hb dX0_putTogether_64 (by decide) ?_
            exact ih [] (o ++ [c0]) (g ++ [c0]).tail u_1 _ _ H locs ls (by simpa using hn) (by rw [← hT]; simp [tog, c31_1]) (by rw [e1]; simp; exact nI_1 _) (by rw [e2, nI_1]; simp; congr 1; omega) hw_1 hP hD hS (lv_sub hl [0, 1, 4] rfl)
          · skip
            refine lv_iload hx hb dX0_putTogether_34 (lv_at hl 0 rfl) ?_
            refine vp_callSi ((va_runSN ⟨hx, hb, hml, hown, hts⟩ (KX2_isMark l (-1)) ⟨va_cnB 1 hts gX0_putTogether_X2_isMark_n27 rfl rfl rfl (nst_at hN 2 rfl) (hts (.initialized RX2) (by decide +kernel)) (by decide +kernel) ⟨Nat.le_of_ble_eq_true rfl, Nat.le_of_ble_eq_true rfl⟩, (hts (.static yX2_isMark) (by decide +kernel)), trivial⟩ pcS_S rfl rfl hl.1 rfl (lv_room (Nat.le_of_ble_eq_true rfl)) dX0_putTogether_36 ⟨Nat.zero_le _, Nat.zero_le _⟩).run) (fun r9 hr9 => ?_)
            subst r9
            refine lv_if_eq (tgt := 52) hx hb dX0_putTogether_39 (by decide) (fun c39_1 => ?_) (fun c39_1 => ?_)
            · skip
              refine lv_aload_n hx hb dX0_putTogether_52 rfl (lv_at hl 4 rfl) ?_
              refine lv_iload_n hx hb dX0_putTogether_53 rfl (lv_at hl 3 rfl) ?_
              refine lv_iload_n hx hb dX0_putTogether_54 rfl (lv_at hl 1 rfl) ?_
              refine clV (wr := []) (va_runV ⟨hx, hb, hml, hown, hts⟩ (KX0_put l D h a cA f (o ++ g ++ [c0]) hok x1 c0 _) (cwV 2 hts gX0_putTogether_X0_put rfl rfl rfl (by decide +kernel) ⟨Nat.le_of_ble_eq_true rfl, Nat.le_of_ble_eq_true rfl⟩) (pcM_V (hP.sub (ws' := [(h, .inr (1, [.ref a, .int (nI (o ++ g ++ [c0]).length)])), (a, .inl (cA, 200, .inl f))]) [0, 1] rfl) (hD.sub (ws' := [(h, .inr (1, [.ref a, .int (nI (o ++ g ++ [c0]).length)])), (a, .inl (cA, 200, .inl f))]) [0, 1] (by decide) rfl) (hK.sub (tys' := [(cA, .int)]) [0] rfl) hN 0 rfl rfl) rfl rfl hl.1 rfl (lv_room (Nat.le_of_ble_eq_true rfl)) dX0_putTogether_55 ⟨Nat.zero_le _, Nat.zero_le _⟩) hP hD hS hA [0, 1] [] rfl rfl (by decide) (by decide) (fun u_2 H locs hw_2 hP hD hS => ?_)
              have e9_2 : (rw_put (o ++ g ++ [c0]) x1 c0) = ((o ++ [c0]) ++ (g ++ [c0]).tail ++ []) := (tg_put e1 (by omega))
              rw [e9_2] at hw_2 hP hD
              have hP : va_P D vwCl [(h, .inr (1, [.ref a, .int (nI ((o ++ [c0]) ++ (g ++ [c0]).tail ++ []).length)])), (a, .inl (cA, 200, .inl u_2))] H := hP.sub [0, 1] rfl
              have hD : va_D A [(h, .inr (1, [.ref a, .int (nI ((o ++ [c0]) ++ (g ++ [c0]).tail ++ []).length)])), (a, .inl (cA, 200, .inl u_2))] := hD.sub [0, 1] (by decide) rfl
              refine lv_iinc (v := (x1 + 1)) (lv' := [(1, .int (x1 + 1)), (4, .int (-1)), (3, .int c0), (2, .int x2), (0, .ref h)]) hx hb dX0_putTogether_58 hl (k := 3) rfl rfl (by decide) rfl (fun ls hl => ?_)
              refine lv_iinc (v := (x2 + 1)) (lv' := [(2, .int (x2 + 1)), (1, .int (x1 + 1)), (4, .int (-1)), (3, .int c0), (0, .ref h)]) hx hb dX0_putTogether_61 hl (k := 3) rfl rfl (by decide) rfl (fun ls hl => ?_)
              refine lv_goto (tgt := 4) hx hb dX0_putTogether_64 (by decide) ?_
              exact ih [] (o ++ [c0]) (g ++ [c0]).tail u_2 _ _ H locs ls (by simpa using hn) (by rw [← hT]; simp [tog, c31_1, c39_1]) (by rw [e1]; simp; exact nI_1 _) (by rw [e2, nI_1]; simp; congr 1; omega) hw_2 hP hD hS (lv_sub hl [0, 1, 4] rfl)
            · skip
              exact absurd (by decide) c39_1
      · skip
        have hl2 : o.length + g.length + 2 + t0.length ≤ 200 := by have := hok.1; simp at this; omega
        refine lv_iload_n hx hb dX0_putTogether_4 rfl (lv_at hl 0 rfl) ?_
        refine lv_aload_n hx hb dX0_putTogether_5 rfl (lv_at hl 2 rfl) ?_
        refine va_get (D := D) (ci := 1) (v := .int (nI (o ++ g ++ (c0 :: d0 :: t0)).length)) (C := RX0) (T := TX0) (N := 2) hx hb hts (by decide +kernel) hown hK hP 0 rfl rfl 1 (by decide) (hts (.fieldLink RX0 15 "CharacterRows$Codes" "length" "I") (by decide +kernel)) (fun _ h9 => h9) rfl dX0_putTogether_6 ?_
        refine lv_icmp_ge (tgt := 67) hx hb dX0_putTogether_9 (by decide) (fun c9_4 => ?_) (fun c9_4 => ?_)
        · skip
          exact absurd c9_4 (by rw [e2]; exact nI_ge (by simp) (by simp; omega))
        · skip
          refine lv_aload_n hx hb dX0_putTogether_12 rfl (lv_at hl 2 rfl) ?_
          refine lv_iload_n hx hb dX0_putTogether_13 rfl (lv_at hl 0 rfl) ?_
          refine vp_callSi (W.runV ⟨hx, hb, hml, hown, hts⟩ (KX0_at l D h a cA f (o ++ g ++ (c0 :: d0 :: t0)) hok x2) (cwV 1 hts gX0_putTogether_X0_at rfl rfl rfl (by decide +kernel) ⟨Nat.le_of_ble_eq_true rfl, Nat.le_of_ble_eq_true rfl⟩) (pcR_V (hP.sub (ws' := [(h, .inr (1, [.ref a, .int (nI (o ++ g ++ (c0 :: d0 :: t0)).length)])), (a, .inl (cA, 200, .inl f))]) [0, 1] rfl) (hK.sub (tys' := [(cA, .int)]) [0] rfl) hN 0 rfl rfl) rfl rfl hl.1 rfl (lv_room (Nat.le_of_ble_eq_true rfl)) dX0_putTogether_14 ⟨Nat.zero_le _, Nat.zero_le _⟩) (fun r9 hr9 => ?_)
          replace hr9 : r9 = c0 := hr9.trans (tg_at e2 (by omega))
          subst r9
          refine lv_istore_n (lv' := [(3, .int c0), (2, .int x2), (1, .int x1), (0, .ref h)]) hx hb dX0_putTogether_17 rfl hl (by decide) rfl (fun ls hl => ?_)
          refine lv_aload_n hx hb dX0_putTogether_18 rfl (lv_at hl 3 rfl) ?_
          refine lv_iload_n hx hb dX0_putTogether_19 rfl (lv_at hl 1 rfl) ?_
          refine lv_iconst (v := 1) hx hb dX0_putTogether_20 (by decide) ?_
          refine lv_iadd hx hb dX0_putTogether_21 ?_
          refine vp_callSi (W.runV ⟨hx, hb, hml, hown, hts⟩ (KX0_at l D h a cA f (o ++ g ++ (c0 :: d0 :: t0)) hok (x2 + 1)) (cwV 1 hts gX0_putTogether_X0_at rfl rfl rfl (by decide +kernel) ⟨Nat.le_of_ble_eq_true rfl, Nat.le_of_ble_eq_true rfl⟩) (pcR_V (hP.sub (ws' := [(h, .inr (1, [.ref a, .int (nI (o ++ g ++ (c0 :: d0 :: t0)).length)])), (a, .inl (cA, 200, .inl f))]) [0, 1] rfl) (hK.sub (tys' := [(cA, .int)]) [0] rfl) hN 0 rfl rfl) rfl rfl hl.1 rfl (lv_room (Nat.le_of_ble_eq_true rfl)) dX0_putTogether_22 ⟨Nat.zero_le _, Nat.zero_le _⟩) (fun r9 hr9 => ?_)
          replace hr9 : r9 = d0 := hr9.trans (tg_at2 e2 (by omega))
          subst r9
          refine lv_istore (lv' := [(4, .int d0), (3, .int c0), (2, .int x2), (1, .int x1), (0, .ref h)]) hx hb dX0_putTogether_25 hl (by decide) rfl (fun ls hl => ?_)
          refine lv_iload_n hx hb dX0_putTogether_27 rfl (lv_at hl 1 rfl) ?_
          refine vp_callSi ((va_runSN ⟨hx, hb, hml, hown, hts⟩ (KX2_isLetter l c0) ⟨va_cnB 1 hts gX0_putTogether_X2_isLetter_n56 rfl rfl rfl (nst_at hN 7 rfl) (hts (.initialized RX2) (by decide +kernel)) (by decide +kernel) ⟨Nat.le_of_ble_eq_true rfl, Nat.le_of_ble_eq_true rfl⟩, (hts (.static yX2_isLetter) (by decide +kernel)), trivial⟩ pcS_S rfl rfl hl.1 rfl (lv_room (Nat.le_of_ble_eq_true rfl)) dX0_putTogether_28 ⟨Nat.zero_le _, Nat.zero_le _⟩).run) (fun r9 hr9 => ?_)
          subst r9
          refine lv_if_eq (tgt := 52) hx hb dX0_putTogether_31 (by decide) (fun c31_2 => ?_) (fun c31_2 => ?_)
          · skip
            refine lv_aload_n hx hb dX0_putTogether_52 rfl (lv_at hl 4 rfl) ?_
            refine lv_iload_n hx hb dX0_putTogether_53 rfl (lv_at hl 3 rfl) ?_
            refine lv_iload_n hx hb dX0_putTogether_54 rfl (lv_at hl 1 rfl) ?_
            refine clV (wr := []) (va_runV ⟨hx, hb, hml, hown, hts⟩ (KX0_put l D h a cA f (o ++ g ++ (c0 :: d0 :: t0)) hok x1 c0 _) (cwV 2 hts gX0_putTogether_X0_put rfl rfl rfl (by decide +kernel) ⟨Nat.le_of_ble_eq_true rfl, Nat.le_of_ble_eq_true rfl⟩) (pcM_V (hP.sub (ws' := [(h, .inr (1, [.ref a, .int (nI (o ++ g ++ (c0 :: d0 :: t0)).length)])), (a, .inl (cA, 200, .inl f))]) [0, 1] rfl) (hD.sub (ws' := [(h, .inr (1, [.ref a, .int (nI (o ++ g ++ (c0 :: d0 :: t0)).length)])), (a, .inl (cA, 200, .inl f))]) [0, 1] (by decide) rfl) (hK.sub (tys' := [(cA, .int)]) [0] rfl) hN 0 rfl rfl) rfl rfl hl.1 rfl (lv_room (Nat.le_of_ble_eq_true rfl)) dX0_putTogether_55 ⟨Nat.zero_le _, Nat.zero_le _⟩) hP hD hS hA [0, 1] [] rfl rfl (by decide) (by decide) (fun u_3 H locs hw_3 hP hD hS => ?_)
            have e9_3 : (rw_put (o ++ g ++ (c0 :: d0 :: t0)) x1 c0) = ((o ++ [c0]) ++ (g ++ [c0]).tail ++ (d0 :: t0)) := (tg_put e1 (by omega))
            rw [e9_3] at hw_3 hP hD
            have hP : va_P D vwCl [(h, .inr (1, [.ref a, .int (nI ((o ++ [c0]) ++ (g ++ [c0]).tail ++ (d0 :: t0)).length)])), (a, .inl (cA, 200, .inl u_3))] H := hP.sub [0, 1] rfl
            have hD : va_D A [(h, .inr (1, [.ref a, .int (nI ((o ++ [c0]) ++ (g ++ [c0]).tail ++ (d0 :: t0)).length)])), (a, .inl (cA, 200, .inl u_3))] := hD.sub [0, 1] (by decide) rfl
            refine lv_iinc (v := (x1 + 1)) (lv' := [(1, .int (x1 + 1)), (4, .int d0), (3, .int c0), (2, .int x2), (0, .ref h)]) hx hb dX0_putTogether_58 hl (k := 3) rfl rfl (by decide) rfl (fun ls hl => ?_)
            refine lv_iinc (v := (x2 + 1)) (lv' := [(2, .int (x2 + 1)), (1, .int (x1 + 1)), (4, .int d0), (3, .int c0), (0, .ref h)]) hx hb dX0_putTogether_61 hl (k := 3) rfl rfl (by decide) rfl (fun ls hl => ?_)
            refine lv_goto (tgt := 4) hx hb dX0_putTogether_64 (by decide) ?_
            exact ih (d0 :: t0) (o ++ [c0]) (g ++ [c0]).tail u_3 _ _ H locs ls (by simpa using hn) (by rw [← hT]; simp [tog, c31_2]) (by rw [e1]; simp; exact nI_1 _) (by rw [e2, nI_1]; simp; congr 1; omega) hw_3 hP hD hS (lv_sub hl [0, 1, 4] rfl)
          · skip
            refine lv_iload hx hb dX0_putTogether_34 (lv_at hl 0 rfl) ?_
            refine vp_callSi ((va_runSN ⟨hx, hb, hml, hown, hts⟩ (KX2_isMark l d0) ⟨va_cnB 1 hts gX0_putTogether_X2_isMark_n27 rfl rfl rfl (nst_at hN 2 rfl) (hts (.initialized RX2) (by decide +kernel)) (by decide +kernel) ⟨Nat.le_of_ble_eq_true rfl, Nat.le_of_ble_eq_true rfl⟩, (hts (.static yX2_isMark) (by decide +kernel)), trivial⟩ pcS_S rfl rfl hl.1 rfl (lv_room (Nat.le_of_ble_eq_true rfl)) dX0_putTogether_36 ⟨Nat.zero_le _, Nat.zero_le _⟩).run) (fun r9 hr9 => ?_)
            subst r9
            refine lv_if_eq (tgt := 52) hx hb dX0_putTogether_39 (by decide) (fun c39_2 => ?_) (fun c39_2 => ?_)
            · skip
              refine lv_aload_n hx hb dX0_putTogether_52 rfl (lv_at hl 4 rfl) ?_
              refine lv_iload_n hx hb dX0_putTogether_53 rfl (lv_at hl 3 rfl) ?_
              refine lv_iload_n hx hb dX0_putTogether_54 rfl (lv_at hl 1 rfl) ?_
              refine clV (wr := []) (va_runV ⟨hx, hb, hml, hown, hts⟩ (KX0_put l D h a cA f (o ++ g ++ (c0 :: d0 :: t0)) hok x1 c0 _) (cwV 2 hts gX0_putTogether_X0_put rfl rfl rfl (by decide +kernel) ⟨Nat.le_of_ble_eq_true rfl, Nat.le_of_ble_eq_true rfl⟩) (pcM_V (hP.sub (ws' := [(h, .inr (1, [.ref a, .int (nI (o ++ g ++ (c0 :: d0 :: t0)).length)])), (a, .inl (cA, 200, .inl f))]) [0, 1] rfl) (hD.sub (ws' := [(h, .inr (1, [.ref a, .int (nI (o ++ g ++ (c0 :: d0 :: t0)).length)])), (a, .inl (cA, 200, .inl f))]) [0, 1] (by decide) rfl) (hK.sub (tys' := [(cA, .int)]) [0] rfl) hN 0 rfl rfl) rfl rfl hl.1 rfl (lv_room (Nat.le_of_ble_eq_true rfl)) dX0_putTogether_55 ⟨Nat.zero_le _, Nat.zero_le _⟩) hP hD hS hA [0, 1] [] rfl rfl (by decide) (by decide) (fun u_4 H locs hw_4 hP hD hS => ?_)
              have e9_4 : (rw_put (o ++ g ++ (c0 :: d0 :: t0)) x1 c0) = ((o ++ [c0]) ++ (g ++ [c0]).tail ++ (d0 :: t0)) := (tg_put e1 (by omega))
              rw [e9_4] at hw_4 hP hD
              have hP : va_P D vwCl [(h, .inr (1, [.ref a, .int (nI ((o ++ [c0]) ++ (g ++ [c0]).tail ++ (d0 :: t0)).length)])), (a, .inl (cA, 200, .inl u_4))] H := hP.sub [0, 1] rfl
              have hD : va_D A [(h, .inr (1, [.ref a, .int (nI ((o ++ [c0]) ++ (g ++ [c0]).tail ++ (d0 :: t0)).length)])), (a, .inl (cA, 200, .inl u_4))] := hD.sub [0, 1] (by decide) rfl
              refine lv_iinc (v := (x1 + 1)) (lv' := [(1, .int (x1 + 1)), (4, .int d0), (3, .int c0), (2, .int x2), (0, .ref h)]) hx hb dX0_putTogether_58 hl (k := 3) rfl rfl (by decide) rfl (fun ls hl => ?_)
              refine lv_iinc (v := (x2 + 1)) (lv' := [(2, .int (x2 + 1)), (1, .int (x1 + 1)), (4, .int d0), (3, .int c0), (0, .ref h)]) hx hb dX0_putTogether_61 hl (k := 3) rfl rfl (by decide) rfl (fun ls hl => ?_)
              refine lv_goto (tgt := 4) hx hb dX0_putTogether_64 (by decide) ?_
              exact ih (d0 :: t0) (o ++ [c0]) (g ++ [c0]).tail u_4 _ _ H locs ls (by simpa using hn) (by rw [← hT]; simp [tog, c31_2, c39_2]) (by rw [e1]; simp; exact nI_1 _) (by rw [e2, nI_1]; simp; congr 1; omega) hw_4 hP hD hS (lv_sub hl [0, 1, 4] rfl)
            · skip
              refine lv_iload_n hx hb dX0_putTogether_42 rfl (lv_at hl 1 rfl) ?_
              refine lv_iload hx hb dX0_putTogether_43 (lv_at hl 0 rfl) ?_
              refine vp_callSi ((va_runSN ⟨hx, hb, hml, hown, hts⟩ (KX2_composedOf l c0 d0) ⟨va_cnB 2 hts gX0_putTogether_X2_composedOf_n59 rfl rfl rfl (nst_at hN 8 rfl) (hts (.initialized RX2) (by decide +kernel)) (by decide +kernel) ⟨Nat.le_of_ble_eq_true rfl, Nat.le_of_ble_eq_true rfl⟩, (hts (.static yX2_composedOf) (by decide +kernel)), trivial⟩ pcS_S rfl rfl hl.1 rfl (lv_room (Nat.le_of_ble_eq_true rfl)) dX0_putTogether_45 ⟨Nat.zero_le _, Nat.zero_le _⟩).run) (fun r9 hr9 => ?_)
              subst r9
              refine lv_istore_n (lv' := [(3, .int (fX2_composedOf c0 d0)), (4, .int d0), (2, .int x2), (1, .int x1), (0, .ref h)]) hx hb dX0_putTogether_48 rfl hl (by decide) rfl (fun ls hl => ?_)
              refine lv_iinc (v := (x2 + 1)) (lv' := [(2, .int (x2 + 1)), (3, .int (fX2_composedOf c0 d0)), (4, .int d0), (1, .int x1), (0, .ref h)]) hx hb dX0_putTogether_49 hl (k := 2) rfl rfl (by decide) rfl (fun ls hl => ?_)
              refine lv_aload_n hx hb dX0_putTogether_52 rfl (lv_at hl 4 rfl) ?_
              refine lv_iload_n hx hb dX0_putTogether_53 rfl (lv_at hl 3 rfl) ?_
              refine lv_iload_n hx hb dX0_putTogether_54 rfl (lv_at hl 1 rfl) ?_
              refine clV (wr := []) (va_runV ⟨hx, hb, hml, hown, hts⟩ (KX0_put l D h a cA f (o ++ g ++ (c0 :: d0 :: t0)) hok x1 (fX2_composedOf c0 d0) _) (cwV 2 hts gX0_putTogether_X0_put rfl rfl rfl (by decide +kernel) ⟨Nat.le_of_ble_eq_true rfl, Nat.le_of_ble_eq_true rfl⟩) (pcM_V (hP.sub (ws' := [(h, .inr (1, [.ref a, .int (nI (o ++ g ++ (c0 :: d0 :: t0)).length)])), (a, .inl (cA, 200, .inl f))]) [0, 1] rfl) (hD.sub (ws' := [(h, .inr (1, [.ref a, .int (nI (o ++ g ++ (c0 :: d0 :: t0)).length)])), (a, .inl (cA, 200, .inl f))]) [0, 1] (by decide) rfl) (hK.sub (tys' := [(cA, .int)]) [0] rfl) hN 0 rfl rfl) rfl rfl hl.1 rfl (lv_room (Nat.le_of_ble_eq_true rfl)) dX0_putTogether_55 ⟨Nat.zero_le _, Nat.zero_le _⟩) hP hD hS hA [0, 1] [] rfl rfl (by decide) (by decide) (fun u_5 H locs hw_5 hP hD hS => ?_)
              have e9_5 : (rw_put (o ++ g ++ (c0 :: d0 :: t0)) x1 (fX2_composedOf c0 d0)) = ((o ++ [fX2_composedOf c0 d0]) ++ (g ++ [c0]).tail ++ (d0 :: t0)) := (tg_put e1 (by omega))
              rw [e9_5] at hw_5 hP hD
              have hP : va_P D vwCl [(h, .inr (1, [.ref a, .int (nI ((o ++ [fX2_composedOf c0 d0]) ++ (g ++ [c0]).tail ++ (d0 :: t0)).length)])), (a, .inl (cA, 200, .inl u_5))] H := hP.sub [0, 1] rfl
              have hD : va_D A [(h, .inr (1, [.ref a, .int (nI ((o ++ [fX2_composedOf c0 d0]) ++ (g ++ [c0]).tail ++ (d0 :: t0)).length)])), (a, .inl (cA, 200, .inl u_5))] := hD.sub [0, 1] (by decide) rfl
              refine lv_iinc (v := (x1 + 1)) (lv' := [(1, .int (x1 + 1)), (2, .int (x2 + 1)), (3, .int (fX2_composedOf c0 d0)), (4, .int d0), (0, .ref h)]) hx hb dX0_putTogether_58 hl (k := 3) rfl rfl (by decide) rfl (fun ls hl => ?_)
              refine lv_iinc (v := ((x2 + 1) + 1)) (lv' := [(2, .int ((x2 + 1) + 1)), (1, .int (x1 + 1)), (3, .int (fX2_composedOf c0 d0)), (4, .int d0), (0, .ref h)]) hx hb dX0_putTogether_61 hl (k := 1) rfl rfl (by decide) rfl (fun ls hl => ?_)
              refine lv_goto (tgt := 4) hx hb dX0_putTogether_64 (by decide) ?_
              have e7 : ((o ++ [fX2_composedOf c0 d0]) ++ (g ++ [c0]).tail ++ (d0 :: t0)) = (o ++ [fX2_composedOf c0 d0]) ++ ((g ++ [c0]).tail ++ [d0]) ++ t0 := by simp
              rw [e7] at hw_5 hP hD
              exact ih t0 (o ++ [fX2_composedOf c0 d0]) ((g ++ [c0]).tail ++ [d0]) u_5 _ _ H locs ls (by simp at hn; omega) (by rw [← hT]; simp [tog, c31_2, c39_2]) (by rw [e1]; simp; exact nI_1 _) (by rw [e2, nI_1, nI_1]; simp; congr 1; omega) hw_5 hP hD hS (lv_sub hl [0, 1, 4] rfl)
  exact loop xs.length xs [] [] f _ _ _ _ ls (Nat.le_refl _) hT rfl rfl hok hP hD hS (lv_sub hl [0, 1, 2] rfl)
set_option maxHeartbeats 4000000 in
set_option maxRecDepth 100000 in
theorem KX0_placeOfBase (l : Launch) (D : va_G) (h a : Nat) (cA : ClassId) (f : Nat → Int32) (xs : List Int32) (hok : rw_ok f 200 xs) (w0 : Int64) : Met l yX0_placeOfBase wsX0_placeOfBase ({ frames := 1, cells := 0, slots := 0, locals := 21 }) (pcR D [(h, .inr (1, [.ref a, .int (nI xs.length)])), (a, .inl (cA, 200, .inl f))] [(cA, .int)] [.ref h, .long w0]) (vp_Si (fun r => r = pob xs 0 0 w0)) 0 0 (fun _ => False) := by
  refine ofR (cc := cX0_placeOfBase) (maxL := 6) (ret := (some .int)) (by decide) rfl (Nat.le_of_ble_eq_true rfl) ?_
  intro p e s m below meth c ls hx hb hr hml hown hts hlocks hP hK hN hl
  have hl : lv_has ls 6 [(0, .ref h), (1, .long w0)] := hl
  refine lv_lconst (v := 0) hx hb dX0_placeOfBase_0 (by decide) ?_
  refine lv_lstore_n (lv' := [(3, .long 0), (0, .ref h), (1, .long w0)]) hx hb dX0_placeOfBase_1 rfl hl (by decide) rfl (fun ls hl => ?_)
  refine lv_iconst (v := 0) hx hb dX0_placeOfBase_2 (by decide) ?_
  refine lv_istore (lv' := [(5, .int 0), (3, .long 0), (0, .ref h), (1, .long w0)]) hx hb dX0_placeOfBase_3 hl (by decide) rfl (fun ls hl => ?_)
  have loop : ∀ (rest : List Int32) (done : List Int32) (x5 : Int32) (met : Int64) (ls : Array Slot), xs = done ++ rest → x5 = nI done.length → pob rest done.length met w0 = pob xs 0 0 w0 → lv_has ls 6 [(5, .int x5), (3, .long met), (0, .ref h), (1, .long w0)] → W p l e ({ frames := 1, cells := 0, slots := 0, locals := 21 }) s m ([.ref h, .long w0] : List Value).toArray below meth c s.heap [] 0 0 (MQ below (vp_Si (fun r => r = pob xs 0 0 w0)) ([.ref h, .long w0] : List Value).toArray s 0 0 (fun _ => False)) (F0 m 5 ls [])  := by
    intro rest
    induction rest with
    | nil =>
      intro done x5 met ls hxs e5 hp hl
      have hln : xs.length = done.length := by rw [hxs]; simp
      refine lv_iload hx hb dX0_placeOfBase_5 (lv_at hl 0 rfl) ?_
      refine lv_aload_n hx hb dX0_placeOfBase_7 rfl (lv_at hl 2 rfl) ?_
      refine va_get (D := D) (ci := 1) (v := .int (nI xs.length)) (C := RX0) (T := TX0) (N := 2) hx hb hts (by decide +kernel) hown hK hP 0 rfl rfl 1 (by decide) (hts (.fieldLink RX0 15 "CharacterRows$Codes" "length" "I") (by decide +kernel)) (fun _ h9 => h9) rfl dX0_placeOfBase_8 ?_
      refine lv_icmp_ge (tgt := 48) hx hb dX0_placeOfBase_11 (by decide) (fun c11_1 => ?_) (fun c11_1 => ?_)
      · skip
        refine lv_iconst (v := (-1)) hx hb dX0_placeOfBase_48 (by decide) ?_
        exact rtR hx hb hr hlocks dX0_placeOfBase_49 (by rw [← hp]; rfl)
      · skip
        exact absurd (by rw [e5, hln]; exact Int32.le_refl _) c11_1
    | cons d t ih =>
      intro done x5 met ls hxs e5 hp hl
      have hln : xs.length = done.length + (t.length + 1) := by rw [hxs]; simp
      have h200 := hok.1
      refine lv_iload hx hb dX0_placeOfBase_5 (lv_at hl 0 rfl) ?_
      refine lv_aload_n hx hb dX0_placeOfBase_7 rfl (lv_at hl 2 rfl) ?_
      refine va_get (D := D) (ci := 1) (v := .int (nI xs.length)) (C := RX0) (T := TX0) (N := 2) hx hb hts (by decide +kernel) hown hK hP 0 rfl rfl 1 (by decide) (hts (.fieldLink RX0 15 "CharacterRows$Codes" "length" "I") (by decide +kernel)) (fun _ h9 => h9) rfl dX0_placeOfBase_8 ?_
      refine lv_icmp_ge (tgt := 48) hx hb dX0_placeOfBase_11 (by decide) (fun c11_2 => ?_) (fun c11_2 => ?_)
      · skip
        exact absurd c11_2 (by rw [e5, hln]; exact nI_ge (by omega) (by omega))
      · skip
        refine lv_aload_n hx hb dX0_placeOfBase_14 rfl (lv_at hl 2 rfl) ?_
        refine lv_iload hx hb dX0_placeOfBase_15 (lv_at hl 0 rfl) ?_
        refine vp_callSi (W.runV ⟨hx, hb, hml, hown, hts⟩ (KX0_at l D h a cA f xs hok x5) (cwV 1 hts gX0_placeOfBase_X0_at rfl rfl rfl (by decide +kernel) ⟨Nat.le_of_ble_eq_true rfl, Nat.le_of_ble_eq_true rfl⟩) (pcR_V (hP.sub (ws' := [(h, .inr (1, [.ref a, .int (nI xs.length)])), (a, .inl (cA, 200, .inl f))]) [0, 1] rfl) (hK.sub (tys' := [(cA, .int)]) [0] rfl) hN 0 rfl rfl) rfl rfl hl.1 rfl (lv_room (Nat.le_of_ble_eq_true rfl)) dX0_placeOfBase_17 ⟨Nat.zero_le _, Nat.zero_le _⟩) (fun r9 hr9 => ?_)
        replace hr9 : r9 = d := hr9.trans (by rw [hxs, e5]; exact rw_at_k rfl (by omega))
        subst r9
        refine vp_callSi ((va_runSN ⟨hx, hb, hml, hown, hts⟩ (KX2_isMark l d) ⟨va_cnB 1 hts gX0_placeOfBase_X2_isMark_n27 rfl rfl rfl (nst_at hN 2 rfl) (hts (.initialized RX2) (by decide +kernel)) (by decide +kernel) ⟨Nat.le_of_ble_eq_true rfl, Nat.le_of_ble_eq_true rfl⟩, (hts (.static yX2_isMark) (by decide +kernel)), trivial⟩ pcS_S rfl rfl hl.1 rfl (lv_room (Nat.le_of_ble_eq_true rfl)) dX0_placeOfBase_20 ⟨Nat.zero_le _, Nat.zero_le _⟩).run) (fun r9 hr9 => ?_)
        subst r9
        refine lv_if_eq (tgt := 29) hx hb dX0_placeOfBase_23 (by decide) (fun c23_1 => ?_) (fun c23_1 => ?_)
        · skip
          refine lv_lload_n hx hb dX0_placeOfBase_29 rfl (lv_at hl 1 rfl) ?_
          refine lv_lload_n hx hb dX0_placeOfBase_30 rfl (lv_at hl 3 rfl) ?_
          refine W.lcmp hx hb dX0_placeOfBase_31 ?_
          refine lv_if_ne (tgt := 38) hx hb dX0_placeOfBase_32 (by decide) (fun c32_1 => ?_) (fun c32_1 => ?_)
          · skip
            refine lv_lload_n hx hb dX0_placeOfBase_38 rfl (lv_at hl 1 rfl) ?_
            refine lv_lconst (v := 1) hx hb dX0_placeOfBase_39 (by decide) ?_
            refine lv_ladd hx hb dX0_placeOfBase_40 ?_
            refine lv_lstore_n (lv' := [(3, .long (met + 1)), (5, .int x5), (0, .ref h), (1, .long w0)]) hx hb dX0_placeOfBase_41 rfl hl (by decide) rfl (fun ls hl => ?_)
            refine lv_iinc (v := (x5 + 1)) (lv' := [(5, .int (x5 + 1)), (3, .long (met + 1)), (0, .ref h), (1, .long w0)]) hx hb dX0_placeOfBase_42 hl (k := 1) rfl rfl (by decide) rfl (fun ls hl => ?_)
            refine lv_goto (tgt := 5) hx hb dX0_placeOfBase_45 (by decide) ?_
            exact ih (done ++ [d]) _ _ ls (by rw [hxs]; simp) (by rw [e5, List.length_append]; exact nI_1 _) (by rw [← hp]; have q9 : ¬ met = w0 := fun q => c32_1 ((lg_cmp_eq _ _).mpr q); simp [pob, c23_1, q9]) (lv_sub hl [0, 1, 2, 3] rfl)
          · skip
            refine lv_iload hx hb dX0_placeOfBase_35 (lv_at hl 0 rfl) ?_
            exact rtR hx hb hr hlocks dX0_placeOfBase_37 (by rw [← hp, e5]; have q9 : met = w0 := (lg_cmp_eq _ _).mp c32_1; simp [pob, c23_1, q9])
        · skip
          refine lv_goto (tgt := 42) hx hb dX0_placeOfBase_26 (by decide) ?_
          refine lv_iinc (v := (x5 + 1)) (lv' := [(5, .int (x5 + 1)), (3, .long met), (0, .ref h), (1, .long w0)]) hx hb dX0_placeOfBase_42 hl (k := 0) rfl rfl (by decide) rfl (fun ls hl => ?_)
          refine lv_goto (tgt := 5) hx hb dX0_placeOfBase_45 (by decide) ?_
          exact ih (done ++ [d]) _ _ ls (by rw [hxs]; simp) (by rw [e5, List.length_append]; exact nI_1 _) (by rw [← hp]; simp [pob, c23_1]) (lv_sub hl [0, 1, 2, 3] rfl)
  exact loop xs [] _ _ ls rfl rfl rfl (lv_sub hl [0, 1, 2, 3] rfl)
set_option maxHeartbeats 4000000 in
set_option maxRecDepth 100000 in
theorem KX0_bases (l : Launch) (D : va_G) (h a : Nat) (cA : ClassId) (f : Nat → Int32) (xs : List Int32) (hok : rw_ok f 200 xs) : Met l yX0_bases wsX0_bases ({ frames := 1, cells := 0, slots := 0, locals := 21 }) (pcR D [(h, .inr (1, [.ref a, .int (nI xs.length)])), (a, .inl (cA, 200, .inl f))] [(cA, .int)] [.ref h]) (vp_Si (fun r => r = nI (nbs xs))) 0 0 (fun _ => False) := by
  refine ofR (cc := cX0_bases) (maxL := 3) (ret := (some .int)) (by decide) rfl (Nat.le_of_ble_eq_true rfl) ?_
  intro p e s m below meth c ls hx hb hr hml hown hts hlocks hP hK hN hl
  have hl : lv_has ls 3 [(0, .ref h)] := hl
  refine lv_iconst (v := 0) hx hb dX0_bases_0 (by decide) ?_
  refine lv_istore_n (lv' := [(1, .int 0), (0, .ref h)]) hx hb dX0_bases_1 rfl hl (by decide) rfl (fun ls hl => ?_)
  refine lv_iconst (v := 0) hx hb dX0_bases_2 (by decide) ?_
  refine lv_istore_n (lv' := [(2, .int 0), (1, .int 0), (0, .ref h)]) hx hb dX0_bases_3 rfl hl (by decide) rfl (fun ls hl => ?_)
  have loop : ∀ (rest : List Int32) (done : List Int32) (k : Nat) (x1 x2 : Int32) (ls : Array Slot), xs = done ++ rest → x2 = nI done.length → k + nbs rest = nbs xs → x1 = nI k → lv_has ls 3 [(2, .int x2), (1, .int x1), (0, .ref h)] → W p l e ({ frames := 1, cells := 0, slots := 0, locals := 21 }) s m ([.ref h] : List Value).toArray below meth c s.heap [] 0 0 (MQ below (vp_Si (fun r => r = nI (nbs xs))) ([.ref h] : List Value).toArray s 0 0 (fun _ => False)) (F0 m 4 ls [])  := by
    intro rest
    induction rest with
    | nil =>
      intro done k x1 x2 ls hxs e2 hp e1 hl
      have hln : xs.length = done.length := by rw [hxs]; simp
      refine lv_iload_n hx hb dX0_bases_4 rfl (lv_at hl 0 rfl) ?_
      refine lv_aload_n hx hb dX0_bases_5 rfl (lv_at hl 2 rfl) ?_
      refine va_get (D := D) (ci := 1) (v := .int (nI xs.length)) (C := RX0) (T := TX0) (N := 2) hx hb hts (by decide +kernel) hown hK hP 0 rfl rfl 1 (by decide) (hts (.fieldLink RX0 15 "CharacterRows$Codes" "length" "I") (by decide +kernel)) (fun _ h9 => h9) rfl dX0_bases_6 ?_
      refine lv_icmp_ge (tgt := 37) hx hb dX0_bases_9 (by decide) (fun c9_1 => ?_) (fun c9_1 => ?_)
      · skip
        refine lv_iload_n hx hb dX0_bases_37 rfl (lv_at hl 1 rfl) ?_
        exact rtR hx hb hr hlocks dX0_bases_38 (by rw [← hp, e1]; rfl)
      · skip
        exact absurd (by rw [e2, hln]; exact Int32.le_refl _) c9_1
    | cons d t ih =>
      intro done k x1 x2 ls hxs e2 hp e1 hl
      have hln : xs.length = done.length + (t.length + 1) := by rw [hxs]; simp
      have h200 := hok.1
      refine lv_iload_n hx hb dX0_bases_4 rfl (lv_at hl 0 rfl) ?_
      refine lv_aload_n hx hb dX0_bases_5 rfl (lv_at hl 2 rfl) ?_
      refine va_get (D := D) (ci := 1) (v := .int (nI xs.length)) (C := RX0) (T := TX0) (N := 2) hx hb hts (by decide +kernel) hown hK hP 0 rfl rfl 1 (by decide) (hts (.fieldLink RX0 15 "CharacterRows$Codes" "length" "I") (by decide +kernel)) (fun _ h9 => h9) rfl dX0_bases_6 ?_
      refine lv_icmp_ge (tgt := 37) hx hb dX0_bases_9 (by decide) (fun c9_2 => ?_) (fun c9_2 => ?_)
      · skip
        exact absurd c9_2 (by rw [e2, hln]; exact nI_ge (by omega) (by omega))
      · skip
        refine lv_iload_n hx hb dX0_bases_12 rfl (lv_at hl 1 rfl) ?_
        refine lv_aload_n hx hb dX0_bases_13 rfl (lv_at hl 2 rfl) ?_
        refine lv_iload_n hx hb dX0_bases_14 rfl (lv_at hl 0 rfl) ?_
        refine vp_callSi (W.runV ⟨hx, hb, hml, hown, hts⟩ (KX0_at l D h a cA f xs hok x2) (cwV 1 hts gX0_bases_X0_at rfl rfl rfl (by decide +kernel) ⟨Nat.le_of_ble_eq_true rfl, Nat.le_of_ble_eq_true rfl⟩) (pcR_V (hP.sub (ws' := [(h, .inr (1, [.ref a, .int (nI xs.length)])), (a, .inl (cA, 200, .inl f))]) [0, 1] rfl) (hK.sub (tys' := [(cA, .int)]) [0] rfl) hN 0 rfl rfl) rfl rfl hl.1 rfl (lv_room (Nat.le_of_ble_eq_true rfl)) dX0_bases_15 ⟨Nat.zero_le _, Nat.zero_le _⟩) (fun r9 hr9 => ?_)
        replace hr9 : r9 = d := hr9.trans (by rw [hxs, e2]; exact rw_at_k rfl (by omega))
        subst r9
        refine vp_callSi ((va_runSN ⟨hx, hb, hml, hown, hts⟩ (KX2_isMark l d) ⟨va_cnB 1 hts gX0_bases_X2_isMark_n27 rfl rfl rfl (nst_at hN 2 rfl) (hts (.initialized RX2) (by decide +kernel)) (by decide +kernel) ⟨Nat.le_of_ble_eq_true rfl, Nat.le_of_ble_eq_true rfl⟩, (hts (.static yX2_isMark) (by decide +kernel)), trivial⟩ pcS_S rfl rfl hl.1 rfl (lv_room (Nat.le_of_ble_eq_true rfl)) dX0_bases_18 ⟨Nat.zero_le _, Nat.zero_le _⟩).run) (fun r9 hr9 => ?_)
        subst r9
        refine lv_if_eq (tgt := 28) hx hb dX0_bases_21 (by decide) (fun c21_1 => ?_) (fun c21_1 => ?_)
        · skip
          refine lv_iconst (v := 1) hx hb dX0_bases_28 (by decide) ?_
          refine lv_iadd hx hb dX0_bases_29 ?_
          refine lv_istore_n (lv' := [(1, .int (x1 + 1)), (2, .int x2), (0, .ref h)]) hx hb dX0_bases_30 rfl hl (by decide) rfl (fun ls hl => ?_)
          refine lv_iinc (v := (x2 + 1)) (lv' := [(2, .int (x2 + 1)), (1, .int (x1 + 1)), (0, .ref h)]) hx hb dX0_bases_31 hl (k := 1) rfl rfl (by decide) rfl (fun ls hl => ?_)
          refine lv_goto (tgt := 4) hx hb dX0_bases_34 (by decide) ?_
          exact ih (done ++ [d]) (k + 1) _ _ ls (by rw [hxs]; simp) (by rw [e2, List.length_append]; exact nI_1 _) (by rw [← hp]; simp [nbs, c21_1]; omega) (by rw [e1]; exact nI_1 _) (lv_sub hl [0, 1, 2] rfl)
        · skip
          refine lv_iconst (v := 0) hx hb dX0_bases_24 (by decide) ?_
          refine lv_goto (tgt := 29) hx hb dX0_bases_25 (by decide) ?_
          refine lv_iadd hx hb dX0_bases_29 ?_
          refine lv_istore_n (lv' := [(1, .int (x1 + 0)), (2, .int x2), (0, .ref h)]) hx hb dX0_bases_30 rfl hl (by decide) rfl (fun ls hl => ?_)
          refine lv_iinc (v := (x2 + 1)) (lv' := [(2, .int (x2 + 1)), (1, .int (x1 + 0)), (0, .ref h)]) hx hb dX0_bases_31 hl (k := 1) rfl rfl (by decide) rfl (fun ls hl => ?_)
          refine lv_goto (tgt := 4) hx hb dX0_bases_34 (by decide) ?_
          exact ih (done ++ [d]) k _ _ ls (by rw [hxs]; simp) (by rw [e2, List.length_append]; exact nI_1 _) (by rw [← hp]; simp [nbs, c21_1]) (by rw [e1]; exact Int32.add_zero _) (lv_sub hl [0, 1, 2] rfl)
  exact loop xs [] 0 _ _ ls rfl rfl (Nat.zero_add _) rfl (lv_sub hl [0, 1, 2] rfl)
set_option maxHeartbeats 4000000 in
set_option maxRecDepth 100000 in
theorem KX0_marksBehind (l : Launch) (D : va_G) (h a : Nat) (cA : ClassId) (f : Nat → Int32) (xs : List Int32) (hok : rw_ok f 200 xs) (pre rest : List Int32) (hxs : xs = pre ++ rest) (i0 : Int32) (hi : i0 + 1 = nI pre.length) : Met l yX0_marksBehind wsX0_marksBehind ({ frames := 1, cells := 0, slots := 0, locals := 21 }) (pcR D [(h, .inr (1, [.ref a, .int (nI xs.length)])), (a, .inl (cA, 200, .inl f))] [(cA, .int)] [.ref h, .int i0]) (vp_Si (fun r => r = nI (lmk rest))) 0 0 (fun _ => False) := by
  refine ofR (cc := cX0_marksBehind) (maxL := 4) (ret := (some .int)) (by decide) rfl (Nat.le_of_ble_eq_true rfl) ?_
  intro p e s m below meth c ls hx hb hr hml hown hts hlocks hP hK hN hl
  have hl : lv_has ls 4 [(0, .ref h), (1, .int i0)] := hl
  refine lv_iconst (v := 0) hx hb dX0_marksBehind_0 (by decide) ?_
  refine lv_istore_n (lv' := [(2, .int 0), (0, .ref h), (1, .int i0)]) hx hb dX0_marksBehind_1 rfl hl (by decide) rfl (fun ls hl => ?_)
  refine lv_iload_n hx hb dX0_marksBehind_2 rfl (lv_at hl 2 rfl) ?_
  refine lv_iconst (v := 1) hx hb dX0_marksBehind_3 (by decide) ?_
  refine lv_iadd hx hb dX0_marksBehind_4 ?_
  refine lv_istore_n (lv' := [(3, .int (i0 + 1)), (2, .int 0), (0, .ref h), (1, .int i0)]) hx hb dX0_marksBehind_5 rfl hl (by decide) rfl (fun ls hl => ?_)
  have loop : ∀ (rs : List Int32) (done : List Int32) (k : Nat) (x2 x3 : Int32) (ls : Array Slot), xs = done ++ rs → x3 = nI done.length → k + lmk rs = lmk rest → x2 = nI k → lv_has ls 4 [(3, .int x3), (2, .int x2), (0, .ref h), (1, .int i0)] → W p l e ({ frames := 1, cells := 0, slots := 0, locals := 21 }) s m ([.ref h, .int i0] : List Value).toArray below meth c s.heap [] 0 0 (MQ below (vp_Si (fun r => r = nI (lmk rest))) ([.ref h, .int i0] : List Value).toArray s 0 0 (fun _ => False)) (F0 m 6 ls [])  := by
    intro rs
    induction rs with
    | nil =>
      intro done k x2 x3 ls hxs2 e3 hp e2 hl
      have hln : xs.length = done.length := by rw [hxs2]; simp
      refine lv_iload_n hx hb dX0_marksBehind_6 rfl (lv_at hl 0 rfl) ?_
      refine lv_aload_n hx hb dX0_marksBehind_7 rfl (lv_at hl 2 rfl) ?_
      refine va_get (D := D) (ci := 1) (v := .int (nI xs.length)) (C := RX0) (T := TX0) (N := 2) hx hb hts (by decide +kernel) hown hK hP 0 rfl rfl 1 (by decide) (hts (.fieldLink RX0 15 "CharacterRows$Codes" "length" "I") (by decide +kernel)) (fun _ h9 => h9) rfl dX0_marksBehind_8 ?_
      refine lv_icmp_ge (tgt := 34) hx hb dX0_marksBehind_11 (by decide) (fun c11_1 => ?_) (fun c11_1 => ?_)
      · skip
        refine lv_iload_n hx hb dX0_marksBehind_34 rfl (lv_at hl 1 rfl) ?_
        exact rtR hx hb hr hlocks dX0_marksBehind_35 (by rw [← hp, e2]; simp [lmk])
      · skip
        exact absurd (by rw [e3, hln]; exact Int32.le_refl _) c11_1
    | cons d t ih =>
      intro done k x2 x3 ls hxs2 e3 hp e2 hl
      have hln : xs.length = done.length + (t.length + 1) := by rw [hxs2]; simp
      have h200 := hok.1
      refine lv_iload_n hx hb dX0_marksBehind_6 rfl (lv_at hl 0 rfl) ?_
      refine lv_aload_n hx hb dX0_marksBehind_7 rfl (lv_at hl 2 rfl) ?_
      refine va_get (D := D) (ci := 1) (v := .int (nI xs.length)) (C := RX0) (T := TX0) (N := 2) hx hb hts (by decide +kernel) hown hK hP 0 rfl rfl 1 (by decide) (hts (.fieldLink RX0 15 "CharacterRows$Codes" "length" "I") (by decide +kernel)) (fun _ h9 => h9) rfl dX0_marksBehind_8 ?_
      refine lv_icmp_ge (tgt := 34) hx hb dX0_marksBehind_11 (by decide) (fun c11_2 => ?_) (fun c11_2 => ?_)
      · skip
        exact absurd c11_2 (by rw [e3, hln]; exact nI_ge (by omega) (by omega))
      · skip
        refine lv_aload_n hx hb dX0_marksBehind_14 rfl (lv_at hl 2 rfl) ?_
        refine lv_iload_n hx hb dX0_marksBehind_15 rfl (lv_at hl 0 rfl) ?_
        refine vp_callSi (W.runV ⟨hx, hb, hml, hown, hts⟩ (KX0_at l D h a cA f xs hok x3) (cwV 1 hts gX0_marksBehind_X0_at rfl rfl rfl (by decide +kernel) ⟨Nat.le_of_ble_eq_true rfl, Nat.le_of_ble_eq_true rfl⟩) (pcR_V (hP.sub (ws' := [(h, .inr (1, [.ref a, .int (nI xs.length)])), (a, .inl (cA, 200, .inl f))]) [0, 1] rfl) (hK.sub (tys' := [(cA, .int)]) [0] rfl) hN 0 rfl rfl) rfl rfl hl.1 rfl (lv_room (Nat.le_of_ble_eq_true rfl)) dX0_marksBehind_16 ⟨Nat.zero_le _, Nat.zero_le _⟩) (fun r9 hr9 => ?_)
        replace hr9 : r9 = d := hr9.trans (by rw [hxs2, e3]; exact rw_at_k rfl (by omega))
        subst r9
        refine vp_callSi ((va_runSN ⟨hx, hb, hml, hown, hts⟩ (KX2_isMark l d) ⟨va_cnB 1 hts gX0_marksBehind_X2_isMark_n27 rfl rfl rfl (nst_at hN 2 rfl) (hts (.initialized RX2) (by decide +kernel)) (by decide +kernel) ⟨Nat.le_of_ble_eq_true rfl, Nat.le_of_ble_eq_true rfl⟩, (hts (.static yX2_isMark) (by decide +kernel)), trivial⟩ pcS_S rfl rfl hl.1 rfl (lv_room (Nat.le_of_ble_eq_true rfl)) dX0_marksBehind_19 ⟨Nat.zero_le _, Nat.zero_le _⟩).run) (fun r9 hr9 => ?_)
        subst r9
        refine lv_if_eq (tgt := 34) hx hb dX0_marksBehind_22 (by decide) (fun c22_1 => ?_) (fun c22_1 => ?_)
        · skip
          refine lv_iload_n hx hb dX0_marksBehind_34 rfl (lv_at hl 1 rfl) ?_
          exact rtR hx hb hr hlocks dX0_marksBehind_35 (by rw [← hp, e2]; simp [lmk, c22_1])
        · skip
          refine lv_iinc (v := (x2 + 1)) (lv' := [(2, .int (x2 + 1)), (3, .int x3), (0, .ref h), (1, .int i0)]) hx hb dX0_marksBehind_25 hl (k := 1) rfl rfl (by decide) rfl (fun ls hl => ?_)
          refine lv_iinc (v := (x3 + 1)) (lv' := [(3, .int (x3 + 1)), (2, .int (x2 + 1)), (0, .ref h), (1, .int i0)]) hx hb dX0_marksBehind_28 hl (k := 1) rfl rfl (by decide) rfl (fun ls hl => ?_)
          refine lv_goto (tgt := 6) hx hb dX0_marksBehind_31 (by decide) ?_
          exact ih (done ++ [d]) (k + 1) _ _ ls (by rw [hxs2]; simp) (by rw [e3, List.length_append]; exact nI_1 _) (by rw [← hp]; simp [lmk, c22_1]; omega) (by rw [e2]; exact nI_1 _) (lv_sub hl [0, 1, 2, 3] rfl)
  exact loop rest pre 0 _ _ ls hxs hi (Nat.zero_add _) rfl (lv_sub hl [0, 1, 2, 3] rfl)
set_option maxHeartbeats 4000000 in
set_option maxRecDepth 100000 in
theorem KX0_holdsWhat (l : Launch) (D : va_G) (h a : Nat) (cA : ClassId) (f : Nat → Int32) (xs : List Int32) (hok : rw_ok f 200 xs) (g b : Nat) (cB : ClassId) (f2 : Nat → Int32) (ys : List Int32) (hok2 : rw_ok f2 200 ys) : Met l yX0_holdsWhat wsX0_holdsWhat ({ frames := 1, cells := 0, slots := 0, locals := 21 }) (pcR D [(h, .inr (1, [.ref a, .int (nI xs.length)])), (a, .inl (cA, 200, .inl f)), (g, .inr (1, [.ref b, .int (nI ys.length)])), (b, .inl (cB, 200, .inl f2))] [(cA, .int), (cB, .int)] [.ref h, .ref g]) (vp_Si (fun r => r = if xs = ys then 1 else 0)) 0 0 (fun _ => False) := by
  refine ofR (cc := cX0_holdsWhat) (maxL := 3) (ret := (some .boolean)) (by decide) rfl (Nat.le_of_ble_eq_true rfl) ?_
  intro p e s m below meth c ls hx hb hr hml hown hts hlocks hP hK hN hl
  have hl : lv_has ls 3 [(0, .ref h), (1, .ref g)] := hl
  refine lv_aload_n hx hb dX0_holdsWhat_0 rfl (lv_at hl 0 rfl) ?_
  refine va_get (D := D) (ci := 1) (v := .int (nI xs.length)) (C := RX0) (T := TX0) (N := 2) hx hb hts (by decide +kernel) hown hK hP 0 rfl rfl 1 (by decide) (hts (.fieldLink RX0 15 "CharacterRows$Codes" "length" "I") (by decide +kernel)) (fun _ h9 => h9) rfl dX0_holdsWhat_1 ?_
  refine lv_aload_n hx hb dX0_holdsWhat_4 rfl (lv_at hl 1 rfl) ?_
  refine va_get (D := D) (ci := 1) (v := .int (nI ys.length)) (C := RX0) (T := TX0) (N := 2) hx hb hts (by decide +kernel) hown hK hP 2 rfl rfl 1 (by decide) (hts (.fieldLink RX0 15 "CharacterRows$Codes" "length" "I") (by decide +kernel)) (fun _ h9 => h9) rfl dX0_holdsWhat_5 ?_
  refine lv_icmp_eq (tgt := 13) hx hb dX0_holdsWhat_8 (by decide) (fun c8_1 => ?_) (fun c8_1 => ?_)
  · skip
    have hle : xs.length = ys.length := (nI_eq (rw_lt hok (by decide)) (rw_lt hok2 (by decide))).mp c8_1
    refine lv_iconst (v := 0) hx hb dX0_holdsWhat_13 (by decide) ?_
    refine lv_istore_n (lv' := [(2, .int 0), (0, .ref h), (1, .ref g)]) hx hb dX0_holdsWhat_14 rfl hl (by decide) rfl (fun ls hl => ?_)
    have loop : ∀ (r1 : List Int32) (r2 done : List Int32) (x2 : Int32) (ls : Array Slot), xs = done ++ r1 → ys = done ++ r2 → x2 = nI done.length → lv_has ls 3 [(2, .int x2), (0, .ref h), (1, .ref g)] → W p l e ({ frames := 1, cells := 0, slots := 0, locals := 21 }) s m ([.ref h, .ref g] : List Value).toArray below meth c s.heap [] 0 0 (MQ below (vp_Si (fun r => r = if xs = ys then 1 else 0)) ([.ref h, .ref g] : List Value).toArray s 0 0 (fun _ => False)) (F0 m 15 ls [])  := by
      intro r1
      induction r1 with
      | nil =>
        intro r2 done x2 ls hxs hys e2 hl
        have hln : xs.length = done.length := by rw [hxs]; simp
        have hln2 : ys.length = done.length + r2.length := by rw [hys]; simp
        obtain rfl : r2 = [] := List.eq_nil_of_length_eq_zero (by omega)
        refine lv_iload_n hx hb dX0_holdsWhat_15 rfl (lv_at hl 0 rfl) ?_
        refine lv_aload_n hx hb dX0_holdsWhat_16 rfl (lv_at hl 1 rfl) ?_
        refine va_get (D := D) (ci := 1) (v := .int (nI xs.length)) (C := RX0) (T := TX0) (N := 2) hx hb hts (by decide +kernel) hown hK hP 0 rfl rfl 1 (by decide) (hts (.fieldLink RX0 15 "CharacterRows$Codes" "length" "I") (by decide +kernel)) (fun _ h9 => h9) rfl dX0_holdsWhat_17 ?_
        refine lv_icmp_ge (tgt := 44) hx hb dX0_holdsWhat_20 (by decide) (fun c20_1 => ?_) (fun c20_1 => ?_)
        · skip
          refine lv_iconst (v := 1) hx hb dX0_holdsWhat_44 (by decide) ?_
          exact rtRz hx hb hr (by decide) hlocks dX0_holdsWhat_45 (by rw [if_pos (by rw [hxs, hys])])
        · skip
          exact absurd (by rw [e2, hln]; exact Int32.le_refl _) c20_1
      | cons d t ih =>
        intro r2 done x2 ls hxs hys e2 hl
        have hln : xs.length = done.length + (t.length + 1) := by rw [hxs]; simp
        have hln2 : ys.length = done.length + r2.length := by rw [hys]; simp
        have h200 := hok.1
        rcases r2 with _ | ⟨d2, r2⟩
        · simp at hln2; omega
        refine lv_iload_n hx hb dX0_holdsWhat_15 rfl (lv_at hl 0 rfl) ?_
        refine lv_aload_n hx hb dX0_holdsWhat_16 rfl (lv_at hl 1 rfl) ?_
        refine va_get (D := D) (ci := 1) (v := .int (nI xs.length)) (C := RX0) (T := TX0) (N := 2) hx hb hts (by decide +kernel) hown hK hP 0 rfl rfl 1 (by decide) (hts (.fieldLink RX0 15 "CharacterRows$Codes" "length" "I") (by decide +kernel)) (fun _ h9 => h9) rfl dX0_holdsWhat_17 ?_
        refine lv_icmp_ge (tgt := 44) hx hb dX0_holdsWhat_20 (by decide) (fun c20_2 => ?_) (fun c20_2 => ?_)
        · skip
          exact absurd c20_2 (by rw [e2, hln]; exact nI_ge (by omega) (by omega))
        · skip
          refine lv_aload_n hx hb dX0_holdsWhat_23 rfl (lv_at hl 1 rfl) ?_
          refine lv_iload_n hx hb dX0_holdsWhat_24 rfl (lv_at hl 0 rfl) ?_
          refine vp_callSi (W.runV ⟨hx, hb, hml, hown, hts⟩ (KX0_at l D h a cA f xs hok x2) (cwV 1 hts gX0_holdsWhat_X0_at rfl rfl rfl (by decide +kernel) ⟨Nat.le_of_ble_eq_true rfl, Nat.le_of_ble_eq_true rfl⟩) (pcR_V (hP.sub (ws' := [(h, .inr (1, [.ref a, .int (nI xs.length)])), (a, .inl (cA, 200, .inl f))]) [0, 1] rfl) (hK.sub (tys' := [(cA, .int)]) [0] rfl) hN 0 rfl rfl) rfl rfl hl.1 rfl (lv_room (Nat.le_of_ble_eq_true rfl)) dX0_holdsWhat_25 ⟨Nat.zero_le _, Nat.zero_le _⟩) (fun r9 hr9 => ?_)
          replace hr9 : r9 = d := hr9.trans (by rw [hxs, e2]; exact rw_at_k rfl (by omega))
          subst r9
          refine lv_aload_n hx hb dX0_holdsWhat_28 rfl (lv_at hl 2 rfl) ?_
          refine lv_iload_n hx hb dX0_holdsWhat_29 rfl (lv_at hl 0 rfl) ?_
          refine vp_callSi (W.runV ⟨hx, hb, hml, hown, hts⟩ (KX0_at l D g b cB f2 ys hok2 x2) (cwV 1 hts gX0_holdsWhat_X0_at rfl rfl rfl (by decide +kernel) ⟨Nat.le_of_ble_eq_true rfl, Nat.le_of_ble_eq_true rfl⟩) (pcR_V (hP.sub (ws' := [(g, .inr (1, [.ref b, .int (nI ys.length)])), (b, .inl (cB, 200, .inl f2))]) [2, 3] rfl) (hK.sub (tys' := [(cB, .int)]) [1] rfl) hN 0 rfl rfl) rfl rfl hl.1 rfl (lv_room (Nat.le_of_ble_eq_true rfl)) dX0_holdsWhat_30 ⟨Nat.zero_le _, Nat.zero_le _⟩) (fun r9 hr9 => ?_)
          replace hr9 : r9 = d2 := hr9.trans (by rw [hys, e2]; exact rw_at_k rfl (by omega))
          subst r9
          refine lv_icmp_eq (tgt := 38) hx hb dX0_holdsWhat_33 (by decide) (fun c33_1 => ?_) (fun c33_1 => ?_)
          · skip
            refine lv_iinc (v := (x2 + 1)) (lv' := [(2, .int (x2 + 1)), (0, .ref h), (1, .ref g)]) hx hb dX0_holdsWhat_38 hl (k := 0) rfl rfl (by decide) rfl (fun ls hl => ?_)
            refine lv_goto (tgt := 15) hx hb dX0_holdsWhat_41 (by decide) ?_
            exact ih r2 (done ++ [d]) _ ls (by rw [hxs]; simp) (by rw [hys, c33_1]; simp) (by rw [e2, List.length_append]; exact nI_1 _) (lv_sub hl [0, 1, 2] rfl)
          · skip
            refine lv_iconst (v := 0) hx hb dX0_holdsWhat_36 (by decide) ?_
            exact rtRz hx hb hr (by decide) hlocks dX0_holdsWhat_37 (by rw [if_neg (fun q => c33_1 (by rw [hxs, hys] at q; simp at q; exact q.1))])
    exact loop xs ys [] _ ls rfl rfl rfl (lv_sub hl [0, 1, 2] rfl)
  · skip
    refine lv_iconst (v := 0) hx hb dX0_holdsWhat_11 (by decide) ?_
    exact rtRz hx hb hr (by decide) hlocks dX0_holdsWhat_12 (by rw [if_neg (fun q => c8_1 (by rw [q]))])
end
section
/-! ends and calls of methods that make arrays: the new array classes come with the world -/
def my_BK {S : Type} (D : va_G) (A : Nat → Prop) (w : S → va_W) (ty : S → List (ClassId × FieldType)) (u : S) (t : State) : Prop := va_P D vwCl (w u) t.heap ∧ va_D A (w u) ∧ va_K D vwCl (ty u) t
def qcK {S : Type} (D : va_G) (post : S → Prop) (w : S → va_W) (ty : S → List (ClassId × FieldType)) (A : Nat → Prop) : Array Value → State → Outcome → State → Prop := va_Qv post (my_BK D A w ty) A
section ENDK
variable {p : Program} {l : Launch} {e : Env} {R : Room} {s : State} {m : MethodId} {args : Array Value} {below : List Frame} {meth : Method} {c : Code} {H : Heap} {locs : List Loc} {cells slots : Nat} {Q : State → Prop}
variable {cc : ByteArray} {pc : Nat} {ls : Array Slot} {A : Nat → Prop} {D : va_G}
theorem rtK {S : Type} {post : S → Prop} {w : S → va_W} {ty : S → List (ClassId × FieldType)} (hx : p.tables.exec = Jvm.exec) (hb : c.code = cc) (hr : meth.sig.returnType = none) (hlocks : meth.locks = false) (hd : decode cc pc = .ok (.return_, 1)) (u : S) (hp : post u) (hP : va_P D vwCl (w u) H) (hD : va_D A (w u)) (hS : va_S A s.heap H locs) (hK : va_K D vwCl (ty u) s) : W p l e R s m args below meth c H locs cells slots (MQ below (qcK D post w ty A) args s cells slots A) (F0 m pc ls []) :=
  W.vret hx hb hr (fun t ht hW => ⟨⟨u, rfl, hp, by rw [ht]; exact hP, hD, va_K.moved hW.alike hK⟩, hS.F ht⟩) hS.2.2 hd hlocks
variable {rest st0 : List Value} {a : Array Value} {A0 : Nat → Prop} {H0 : Heap} {mc ms : Nat}
theorem clK {S : Type} {post : S → Prop} {w : S → va_W} {ty : S → List (ClassId × FieldType)} {tys : List (ClassId × FieldType)} {ws wc wr : va_W} (hr : va_Run p l e R s m args below meth c H locs cells slots mc ms (F0 m pc ls st0) rest (qcK D post w ty (va_A wc H.size) a) (va_A wc H.size))
    (hP : va_P D vwCl ws H) (hD : va_D A0 ws) (hS : va_S A0 H0 H locs) (hA : ∀ q, H0.size ≤ q → A0 q) (hK : va_K D vwCl tys s) (isC isR : List Nat) (hC : isC.map (fun i => ws[i]?) = wc.map some) (hR : isR.map (fun i => ws[i]?) = wr.map some) (hn : va_nd isR = true) (hdis : ∀ i ∈ isR, i ∉ isC)
    (kk : ∀ (u : S) (H1 : Heap) (locs1 : List Loc), post u → va_P D vwCl (wr ++ w u) H1 → va_D A0 (wr ++ w u) → va_S A0 H0 H1 locs1 → va_K D vwCl (tys ++ ty u) s → W p l e R s m args below meth c H1 locs1 (cells + mc) (slots + ms) Q (F0 m (pc + 3) ls rest)) : W p l e R s m args below meth c H locs cells slots Q (F0 m pc ls st0) := by
  have hFc := va_free (wc := wc) hD hS hA isC hC
  refine va_callv hr hS (fun q _ h => hFc q h) hFc (fun u t H1 locs1 ht hvm hw hB hz1 hk1 hS1 => ?_)
  obtain ⟨hP1, hD1, hK1⟩ := hB
  rw [ht] at hP1
  have hK1 := va_K.moved hvm.symm hK1
  obtain ⟨hP2, hD2⟩ := va_join (wr := wr) (w1 := w u) hP hD isC isR hC hR hn hdis hk1 hFc hP1 hD1
  exact kk u H1 locs1 hw hP2 hD2 hS1 (hK.app hK1)
end ENDK
/-- a CharacterRows as the law holds it: addresses, array classes, contents, lists, stand-in. Rows: 0 collected, 1 written, 2 text, 3 other, 4 fresh, 5 apart, 6 otherApart, 7 waitingMarks, 8 toldCodes, 9 toldPlaces -/
abbrev CRS : Type := (Nat → Nat) × (Nat → ClassId) × (Nat → Nat → Int32) × (Nat → List Int32) × Int32
end
section
def crw (h : Nat) (u : CRS) : va_W := [(h, .inr (3, [.ref (u.1 0), .ref (u.1 1), .ref (u.1 2), .ref (u.1 3), .ref (u.1 4), .ref (u.1 5), .ref (u.1 6), .ref (u.1 7), .ref (u.1 8), .ref (u.1 9), .int u.2.2.2.2])), ((u.1 0), .inr (2, [.ref (u.1 10), .int (nI (u.2.2.2.1 0).length)])), ((u.1 10), .inl ((u.2.1 0), 200, .inl (u.2.2.1 0))), ((u.1 1), .inr (2, [.ref (u.1 11), .int (nI (u.2.2.2.1 1).length)])), ((u.1 11), .inl ((u.2.1 1), 400, .inl (u.2.2.1 1))), ((u.1 2), .inr (1, [.ref (u.1 12), .int (nI (u.2.2.2.1 2).length)])), ((u.1 12), .inl ((u.2.1 2), 200, .inl (u.2.2.1 2))), ((u.1 3), .inr (1, [.ref (u.1 13), .int (nI (u.2.2.2.1 3).length)])), ((u.1 13), .inl ((u.2.1 3), 200, .inl (u.2.2.1 3))), ((u.1 4), .inr (1, [.ref (u.1 14), .int (nI (u.2.2.2.1 4).length)])), ((u.1 14), .inl ((u.2.1 4), 200, .inl (u.2.2.1 4))), ((u.1 5), .inr (1, [.ref (u.1 15), .int (nI (u.2.2.2.1 5).length)])), ((u.1 15), .inl ((u.2.1 5), 200, .inl (u.2.2.1 5))), ((u.1 6), .inr (1, [.ref (u.1 16), .int (nI (u.2.2.2.1 6).length)])), ((u.1 16), .inl ((u.2.1 6), 200, .inl (u.2.2.1 6))), ((u.1 7), .inr (1, [.ref (u.1 17), .int (nI (u.2.2.2.1 7).length)])), ((u.1 17), .inl ((u.2.1 7), 200, .inl (u.2.2.1 7))), ((u.1 8), .inr (1, [.ref (u.1 18), .int (nI (u.2.2.2.1 8).length)])), ((u.1 18), .inl ((u.2.1 8), 200, .inl (u.2.2.1 8))), ((u.1 9), .inr (1, [.ref (u.1 19), .int (nI (u.2.2.2.1 9).length)])), ((u.1 19), .inl ((u.2.1 9), 200, .inl (u.2.2.1 9)))]
def crt (u : CRS) : List (ClassId × FieldType) := [(u.2.1 0, .byte), (u.2.1 1, .byte), (u.2.1 2, .int), (u.2.1 3, .int), (u.2.1 4, .int), (u.2.1 5, .int), (u.2.1 6, .int), (u.2.1 7, .int), (u.2.1 8, .int), (u.2.1 9, .int)]
def cro (u : CRS) : Prop := rw_ok (u.2.2.1 0) 200 (u.2.2.2.1 0) ∧ rw_ok (u.2.2.1 1) 400 (u.2.2.2.1 1) ∧ rw_ok (u.2.2.1 2) 200 (u.2.2.2.1 2) ∧ rw_ok (u.2.2.1 3) 200 (u.2.2.2.1 3) ∧ rw_ok (u.2.2.1 4) 200 (u.2.2.2.1 4) ∧ rw_ok (u.2.2.1 5) 200 (u.2.2.2.1 5) ∧ rw_ok (u.2.2.1 6) 200 (u.2.2.2.1 6) ∧ rw_ok (u.2.2.1 7) 200 (u.2.2.2.1 7) ∧ rw_ok (u.2.2.1 8) 200 (u.2.2.2.1 8) ∧ rw_ok (u.2.2.1 9) 200 (u.2.2.2.1 9)
set_option maxHeartbeats 4000000 in
set_option maxRecDepth 100000 in
theorem KX1_init (l : Launch) (D : va_G) (h a : Nat) (cA : ClassId) (f : Nat → Int32) (cap : Nat) (sz : Nat) : Met l yX1_init wsX1_init ({ frames := 1, cells := 0, slots := 0, locals := 12 }) (pcM D sz [(h, .inr (2, [.null, .int 0])), (a, .inl (cA, cap, .inl f))] [(cA, .byte)] [.ref h, .ref a]) (qcV (S := Unit) D (fun _ => True) (fun _ => [(h, .inr (2, [.ref a, .int (nI ([] : List Int32).length)])), (a, .inl (cA, cap, .inl f))]) (va_A [(h, .inr (2, [.null, .int 0])), (a, .inl (cA, cap, .inl f))] sz)) 0 0 (va_A [(h, .inr (2, [.null, .int 0])), (a, .inl (cA, cap, .inl f))] sz) := by
  refine ofM (Qc := fun A => qcV (S := Unit) D (fun _ => True) (fun _ => [(h, .inr (2, [.ref a, .int (nI ([] : List Int32).length)])), (a, .inl (cA, cap, .inl f))]) A) (cc := cX1_init) (maxL := 2) (ret := none) (by decide) rfl (Nat.le_of_ble_eq_true rfl) ?_
  intro p e s m below meth c ls A hx hb hr hml hown hts hlocks hnm hP hK hN hD hA hS hl
  have hl : lv_has ls 2 [(0, .ref h), (1, .ref a)] := hl
  refine lv_aload_n hx hb dX1_init_0 rfl (lv_at hl 0 rfl) ?_
  refine W.objInit hx hb hown (hts (.methodLink RX1 3 objectInit) (by decide +kernel)) (hts (.instanceMethod objectInit) (by decide +kernel)) (hts (.code objectInit ⟨#[0xb1]⟩ 1 none) (by decide +kernel)) rfl (by rw [hml]; exact hl.1) rfl dX1_init_1 (Nat.le_of_ble_eq_true rfl) (Nat.le_of_ble_eq_true rfl) ?_
  refine W.eq (g2 := F0 m 4 ls []) rfl ?_
  refine lv_aload_n hx hb dX1_init_4 rfl (lv_at hl 0 rfl) ?_
  refine lv_aload_n hx hb dX1_init_5 rfl (lv_at hl 1 rfl) ?_
  refine va_putF (D := D) (ci := 2) (v := .ref a) (ty := .array .byte) (C := RX1) (T := TX1) (N := 2) hx hb hts (by decide +kernel) tyX1 tyX1_ok nmX1 hown hK hP hD hS 0 rfl rfl 0 (by decide) (hts (.fieldLink RX1 9 "CharacterRows$Octets" "bytes" "[B") (by decide +kernel)) (fun _ h9 => h9) rfl hnm rfl (by decide +kernel) rfl rfl (Nat.le_of_ble_eq_true rfl) dX1_init_6 (fun H locs hP hD hS => ?_)
  have hP : va_P D vwCl [(h, .inr (2, [.ref a, .int 0])), (a, .inl (cA, cap, .inl f))] H := hP
  have hD : va_D A [(h, .inr (2, [.ref a, .int 0])), (a, .inl (cA, cap, .inl f))] := hD
  refine lv_aload_n hx hb dX1_init_9 rfl (lv_at hl 0 rfl) ?_
  refine lv_iconst (v := 0) hx hb dX1_init_10 (by decide) ?_
  refine va_put (D := D) (ci := 2) (v := .int 0) (ty := .int) (C := RX1) (T := TX1) (N := 2) hx hb hts (by decide +kernel) tyX1 tyX1_ok nmX1 hown hK hP hD hS 0 rfl rfl 1 (by decide) (hts (.fieldLink RX1 15 "CharacterRows$Octets" "length" "I") (by decide +kernel)) (fun _ h9 => h9) rfl (by decide +kernel) rfl rfl (Nat.le_of_ble_eq_true rfl) dX1_init_11 (fun H locs hP hD hS => ?_)
  have hP : va_P D vwCl [(h, .inr (2, [.ref a, .int 0])), (a, .inl (cA, cap, .inl f))] H := hP
  have hD : va_D A [(h, .inr (2, [.ref a, .int 0])), (a, .inl (cA, cap, .inl f))] := hD
  exact rtV hx hb hr hlocks dX1_init_14 () trivial hP hD hS
set_option maxHeartbeats 4000000 in
set_option maxRecDepth 100000 in
theorem KX0_init (l : Launch) (D : va_G) (h : Nat) (sz : Nat) : Met l yX0_init wsX0_init ({ frames := 1, cells := 1, slots := 200, locals := 12 }) (pcM D sz [(h, .inr (1, [.null, .int 0]))] [] [.ref h]) (qcK (S := Nat × ClassId) D (fun _ => True) (fun u => [(h, .inr (1, [.ref u.1, .int (nI ([] : List Int32).length)])), (u.1, .inl (u.2, 200, .inl (fun _ => 0)))]) (fun u => [(u.2, .int)]) (va_A [(h, .inr (1, [.null, .int 0]))] sz)) 1 200 (va_A [(h, .inr (1, [.null, .int 0]))] sz) := by
  refine ofM (Qc := fun A => qcK (S := Nat × ClassId) D (fun _ => True) (fun u => [(h, .inr (1, [.ref u.1, .int (nI ([] : List Int32).length)])), (u.1, .inl (u.2, 200, .inl (fun _ => 0)))]) (fun u => [(u.2, .int)]) A) (cc := cX0_init) (maxL := 1) (ret := none) (by decide) rfl (Nat.le_of_ble_eq_true rfl) ?_
  intro p e s m below meth c ls A hx hb hr hml hown hts hlocks hnm hP hK hN hD hA hS hl
  have hl : lv_has ls 1 [(0, .ref h)] := hl
  refine lv_aload_n hx hb dX0_init_0 rfl (lv_at hl 0 rfl) ?_
  refine W.objInit hx hb hown (hts (.methodLink RX0 3 objectInit) (by decide +kernel)) (hts (.instanceMethod objectInit) (by decide +kernel)) (hts (.code objectInit ⟨#[0xb1]⟩ 1 none) (by decide +kernel)) rfl (by rw [hml]; exact hl.1) rfl dX0_init_1 (Nat.le_of_ble_eq_true rfl) (Nat.le_of_ble_eq_true rfl) ?_
  refine W.eq (g2 := F0 m 4 ls []) rfl ?_
  refine lv_aload_n hx hb dX0_init_4 rfl (lv_at hl 0 rfl) ?_
  refine lv_sipush (v := 200) hx hb dX0_init_5 (by decide) ?_
  refine va_newa (atype := .int) (ty := .int) hx hb (hts (.arrayClass .int) (by decide +kernel)) rfl hK hP hD hS hA (a0 := (200, .inl (fun _ => 0))) (N' := 200) (fun _ => rfl) (by decide +kernel) (by decide +kernel) (by decide +kernel) (Nat.le_of_ble_eq_true rfl) (Nat.le_of_ble_eq_true rfl) dX0_init_8 (fun q_1 cA_1 H hK hP hD hS => ?_)
  have hP : va_P D vwCl [(h, .inr (1, [.null, .int 0])), (q_1, .inl (cA_1, 200, .inl (fun _ => 0)))] H := hP
  have hD : va_D A [(h, .inr (1, [.null, .int 0])), (q_1, .inl (cA_1, 200, .inl (fun _ => 0)))] := hD
  have hK : va_K D vwCl [(cA_1, .int)] s := hK
  refine W.widen (k := 1) (n := 200) (Nat.le_of_ble_eq_true rfl) (Nat.le_of_ble_eq_true rfl) ?_
  refine va_putF (D := D) (ci := 1) (v := .ref q_1) (ty := .array .int) (C := RX0) (T := TX0) (N := 2) hx hb hts (by decide +kernel) tyX0 tyX0_ok nmX0 hown hK hP hD hS 0 rfl rfl 0 (by decide) (hts (.fieldLink RX0 9 "CharacterRows$Codes" "codes" "[I") (by decide +kernel)) (fun _ h9 => h9) rfl hnm rfl (by decide +kernel) rfl rfl (Nat.le_of_ble_eq_true rfl) dX0_init_10 (fun H locs hP hD hS => ?_)
  have hP : va_P D vwCl [(h, .inr (1, [.ref q_1, .int 0])), (q_1, .inl (cA_1, 200, .inl (fun _ => 0)))] H := hP
  have hD : va_D A [(h, .inr (1, [.ref q_1, .int 0])), (q_1, .inl (cA_1, 200, .inl (fun _ => 0)))] := hD
  refine lv_aload_n hx hb dX0_init_13 rfl (lv_at hl 0 rfl) ?_
  refine lv_iconst (v := 0) hx hb dX0_init_14 (by decide) ?_
  refine va_put (D := D) (ci := 1) (v := .int 0) (ty := .int) (C := RX0) (T := TX0) (N := 2) hx hb hts (by decide +kernel) tyX0 tyX0_ok nmX0 hown hK hP hD hS 0 rfl rfl 1 (by decide) (hts (.fieldLink RX0 15 "CharacterRows$Codes" "length" "I") (by decide +kernel)) (fun _ h9 => h9) rfl (by decide +kernel) rfl rfl (Nat.le_of_ble_eq_true rfl) dX0_init_15 (fun H locs hP hD hS => ?_)
  have hP : va_P D vwCl [(h, .inr (1, [.ref q_1, .int 0])), (q_1, .inl (cA_1, 200, .inl (fun _ => 0)))] H := hP
  have hD : va_D A [(h, .inr (1, [.ref q_1, .int 0])), (q_1, .inl (cA_1, 200, .inl (fun _ => 0)))] := hD
  exact rtK hx hb hr hlocks dX0_init_18 (q_1, cA_1) trivial hP hD hS hK
set_option maxHeartbeats 4000000 in
set_option maxRecDepth 100000 in
theorem KX2_init (l : Launch) (D : va_G) (h : Nat) (sz : Nat) : Met l yX2_init wsX2_init ({ frames := 2, cells := 20, slots := 2220, locals := 33 }) (pcM D sz [(h, .inr (3, [.null, .null, .null, .null, .null, .null, .null, .null, .null, .null, .int 0]))] [] [.ref h]) (qcK (S := CRS) D (fun u => cro u ∧ (u.2.2.2.1 = fun _ => []) ∧ u.2.2.2.2 = 63) (fun u => crw h u) (fun u => crt u) (va_A [(h, .inr (3, [.null, .null, .null, .null, .null, .null, .null, .null, .null, .null, .int 0]))] sz)) 20 2220 (va_A [(h, .inr (3, [.null, .null, .null, .null, .null, .null, .null, .null, .null, .null, .int 0]))] sz) := by
  refine ofM (Qc := fun A => qcK (S := CRS) D (fun u => cro u ∧ (u.2.2.2.1 = fun _ => []) ∧ u.2.2.2.2 = 63) (fun u => crw h u) (fun u => crt u) A) (cc := cX2_init) (maxL := 1) (ret := none) (by decide) rfl (Nat.le_of_ble_eq_true rfl) ?_
  intro p e s m below meth c ls A hx hb hr hml hown hts hlocks hnm hP hK hN hD hA hS hl
  have hl : lv_has ls 1 [(0, .ref h)] := hl
  refine lv_aload_n hx hb dX2_init_0 rfl (lv_at hl 0 rfl) ?_
  refine W.objInit hx hb hown (hts (.methodLink RX2 3 objectInit) (by decide +kernel)) (hts (.instanceMethod objectInit) (by decide +kernel)) (hts (.code objectInit ⟨#[0xb1]⟩ 1 none) (by decide +kernel)) rfl (by rw [hml]; exact hl.1) rfl dX2_init_1 (Nat.le_of_ble_eq_true rfl) (Nat.le_of_ble_eq_true rfl) ?_
  refine W.eq (g2 := F0 m 4 ls []) rfl ?_
  refine lv_aload_n hx hb dX2_init_4 rfl (lv_at hl 0 rfl) ?_
  refine va_new (ci := 2) (fs := [.null, .int 0]) (C := RX1) (T := TX1) (N := 2) hx hb hts (by decide +kernel) tyX1 tyX1_ok hown (hts (.classLink RX2 9 RX1) (by decide +kernel)) (hts (.instantiable RX1 2) (by decide +kernel)) (hts (.initialized RX1) (by decide +kernel)) hK hP hD hS hA rfl (fun j hj => by rcases (show j = 0 ∨ j = 1 by omega) with rfl | rfl <;> rfl) (Nat.le_of_ble_eq_true rfl) (Nat.le_of_ble_eq_true rfl) dX2_init_5 (fun q_1 H hP hD hS => ?_)
  have hP : va_P D vwCl [(h, .inr (3, [.null, .null, .null, .null, .null, .null, .null, .null, .null, .null, .int 0])), (q_1, .inr (2, [.null, .int 0]))] H := hP
  have hD : va_D A [(h, .inr (3, [.null, .null, .null, .null, .null, .null, .null, .null, .null, .null, .int 0])), (q_1, .inr (2, [.null, .int 0]))] := hD
  refine W.widen (k := 1) (n := 2) (Nat.le_of_ble_eq_true rfl) (Nat.le_of_ble_eq_true rfl) ?_
  refine lv_dup hx hb dX2_init_8 rfl ?_
  refine lv_sipush (v := 200) hx hb dX2_init_9 (by decide) ?_
  refine va_newa (atype := .byte) (ty := .byte) hx hb (hts (.arrayClass .byte) (by decide +kernel)) rfl hK hP hD hS hA (a0 := (200, .inl (fun _ => 0))) (N' := 200) (fun _ => rfl) (by decide +kernel) (by decide +kernel) (by decide +kernel) (Nat.le_of_ble_eq_true rfl) (Nat.le_of_ble_eq_true rfl) dX2_init_12 (fun q_2 cA_1 H hK hP hD hS => ?_)
  have hP : va_P D vwCl [(h, .inr (3, [.null, .null, .null, .null, .null, .null, .null, .null, .null, .null, .int 0])), (q_1, .inr (2, [.null, .int 0])), (q_2, .inl (cA_1, 200, .inl (fun _ => 0)))] H := hP
  have hD : va_D A [(h, .inr (3, [.null, .null, .null, .null, .null, .null, .null, .null, .null, .null, .int 0])), (q_1, .inr (2, [.null, .int 0])), (q_2, .inl (cA_1, 200, .inl (fun _ => 0)))] := hD
  have hK : va_K D vwCl [(cA_1, .byte)] s := hK
  refine W.widen (k := 2) (n := 202) (Nat.le_of_ble_eq_true rfl) (Nat.le_of_ble_eq_true rfl) ?_
  refine clV (wr := [(h, .inr (3, [.null, .null, .null, .null, .null, .null, .null, .null, .null, .null, .int 0]))]) (va_runI ⟨hx, hb, hml, hown, hts⟩ (KX1_init l D q_1 q_2 cA_1 (fun _ => 0) 200 _) (cwI 1 hts gX2_init_X1_init rfl rfl rfl (hts (.initialized RX1) (by decide +kernel)) (hts (.methodLink RX2 11 yX1_init) (by decide +kernel)) (hts (.instanceMethod yX1_init) (by decide +kernel)) rfl (by decide +kernel) ⟨Nat.le_of_ble_eq_true rfl, Nat.le_of_ble_eq_true rfl⟩) (pcM_S (hP.sub (ws' := [(q_1, .inr (2, [.null, .int 0])), (q_2, .inl (cA_1, 200, .inl (fun _ => 0)))]) [1, 2] rfl) (hD.sub (ws' := [(q_1, .inr (2, [.null, .int 0])), (q_2, .inl (cA_1, 200, .inl (fun _ => 0)))]) [1, 2] (by decide) rfl) (hK.sub (tys' := [(cA_1, .byte)]) [0] rfl) hN) rfl rfl hl.1 rfl (lv_room (Nat.le_of_ble_eq_true rfl)) dX2_init_14 ⟨Nat.le_of_ble_eq_true rfl, Nat.le_of_ble_eq_true rfl⟩) hP hD hS hA [1, 2] [0] rfl rfl (by decide) (by decide) (fun _ H locs _ hP hD hS => ?_)
  have hP : va_P D vwCl [(h, .inr (3, [.null, .null, .null, .null, .null, .null, .null, .null, .null, .null, .int 0])), (q_1, .inr (2, [.ref q_2, .int (nI ([] : List Int32).length)])), (q_2, .inl (cA_1, 200, .inl (fun _ => 0)))] H := hP.sub [0, 1, 2] rfl
  have hD : va_D A [(h, .inr (3, [.null, .null, .null, .null, .null, .null, .null, .null, .null, .null, .int 0])), (q_1, .inr (2, [.ref q_2, .int (nI ([] : List Int32).length)])), (q_2, .inl (cA_1, 200, .inl (fun _ => 0)))] := hD.sub [0, 1, 2] (by decide) rfl
  refine va_putF (D := D) (ci := 3) (v := .ref q_1) (ty := .object "CharacterRows$Octets") (C := RX2) (T := TX2) (N := 11) hx hb hts (by decide +kernel) tyX2 tyX2_ok nmX2 hown hK hP hD hS 0 rfl rfl 0 (by decide) (hts (.fieldLink RX2 14 "CharacterRows" "collected" "LCharacterRows$Octets;") (by decide +kernel)) (fun _ h9 => h9) rfl hnm rfl (by decide +kernel) rfl rfl (Nat.le_of_ble_eq_true rfl) dX2_init_17 (fun H locs hP hD hS => ?_)
  have hP : va_P D vwCl [(h, .inr (3, [.ref q_1, .null, .null, .null, .null, .null, .null, .null, .null, .null, .int 0])), (q_1, .inr (2, [.ref q_2, .int (nI ([] : List Int32).length)])), (q_2, .inl (cA_1, 200, .inl (fun _ => 0)))] H := hP
  have hD : va_D A [(h, .inr (3, [.ref q_1, .null, .null, .null, .null, .null, .null, .null, .null, .null, .int 0])), (q_1, .inr (2, [.ref q_2, .int (nI ([] : List Int32).length)])), (q_2, .inl (cA_1, 200, .inl (fun _ => 0)))] := hD
  refine lv_aload_n hx hb dX2_init_20 rfl (lv_at hl 0 rfl) ?_
  refine va_new (ci := 2) (fs := [.null, .int 0]) (C := RX1) (T := TX1) (N := 2) hx hb hts (by decide +kernel) tyX1 tyX1_ok hown (hts (.classLink RX2 9 RX1) (by decide +kernel)) (hts (.instantiable RX1 2) (by decide +kernel)) (hts (.initialized RX1) (by decide +kernel)) hK hP hD hS hA rfl (fun j hj => by rcases (show j = 0 ∨ j = 1 by omega) with rfl | rfl <;> rfl) (Nat.le_of_ble_eq_true rfl) (Nat.le_of_ble_eq_true rfl) dX2_init_21 (fun q_3 H hP hD hS => ?_)
  have hP : va_P D vwCl [(h, .inr (3, [.ref q_1, .null, .null, .null, .null, .null, .null, .null, .null, .null, .int 0])), (q_1, .inr (2, [.ref q_2, .int (nI ([] : List Int32).length)])), (q_2, .inl (cA_1, 200, .inl (fun _ => 0))), (q_3, .inr (2, [.null, .int 0]))] H := hP
  have hD : va_D A [(h, .inr (3, [.ref q_1, .null, .null, .null, .null, .null, .null, .null, .null, .null, .int 0])), (q_1, .inr (2, [.ref q_2, .int (nI ([] : List Int32).length)])), (q_2, .inl (cA_1, 200, .inl (fun _ => 0))), (q_3, .inr (2, [.null, .int 0]))] := hD
  refine W.widen (k := 3) (n := 204) (Nat.le_of_ble_eq_true rfl) (Nat.le_of_ble_eq_true rfl) ?_
  refine lv_dup hx hb dX2_init_24 rfl ?_
  refine lv_sipush (v := 400) hx hb dX2_init_25 (by decide) ?_
  refine va_newa (atype := .byte) (ty := .byte) hx hb (hts (.arrayClass .byte) (by decide +kernel)) rfl hK hP hD hS hA (a0 := (400, .inl (fun _ => 0))) (N' := 400) (fun _ => rfl) (by decide +kernel) (by decide +kernel) (by decide +kernel) (Nat.le_of_ble_eq_true rfl) (Nat.le_of_ble_eq_true rfl) dX2_init_28 (fun q_4 cA_2 H hK hP hD hS => ?_)
  have hP : va_P D vwCl [(h, .inr (3, [.ref q_1, .null, .null, .null, .null, .null, .null, .null, .null, .null, .int 0])), (q_1, .inr (2, [.ref q_2, .int (nI ([] : List Int32).length)])), (q_2, .inl (cA_1, 200, .inl (fun _ => 0))), (q_3, .inr (2, [.null, .int 0])), (q_4, .inl (cA_2, 400, .inl (fun _ => 0)))] H := hP
  have hD : va_D A [(h, .inr (3, [.ref q_1, .null, .null, .null, .null, .null, .null, .null, .null, .null, .int 0])), (q_1, .inr (2, [.ref q_2, .int (nI ([] : List Int32).length)])), (q_2, .inl (cA_1, 200, .inl (fun _ => 0))), (q_3, .inr (2, [.null, .int 0])), (q_4, .inl (cA_2, 400, .inl (fun _ => 0)))] := hD
  have hK : va_K D vwCl [(cA_1, .byte), (cA_2, .byte)] s := hK
  refine W.widen (k := 4) (n := 604) (Nat.le_of_ble_eq_true rfl) (Nat.le_of_ble_eq_true rfl) ?_
  refine clV (wr := [(h, .inr (3, [.ref q_1, .null, .null, .null, .null, .null, .null, .null, .null, .null, .int 0])), (q_1, .inr (2, [.ref q_2, .int (nI ([] : List Int32).length)])), (q_2, .inl (cA_1, 200, .inl (fun _ => 0)))]) (va_runI ⟨hx, hb, hml, hown, hts⟩ (KX1_init l D q_3 q_4 cA_2 (fun _ => 0) 400 _) (cwI 1 hts gX2_init_X1_init rfl rfl rfl (hts (.initialized RX1) (by decide +kernel)) (hts (.methodLink RX2 11 yX1_init) (by decide +kernel)) (hts (.instanceMethod yX1_init) (by decide +kernel)) rfl (by decide +kernel) ⟨Nat.le_of_ble_eq_true rfl, Nat.le_of_ble_eq_true rfl⟩) (pcM_S (hP.sub (ws' := [(q_3, .inr (2, [.null, .int 0])), (q_4, .inl (cA_2, 400, .inl (fun _ => 0)))]) [3, 4] rfl) (hD.sub (ws' := [(q_3, .inr (2, [.null, .int 0])), (q_4, .inl (cA_2, 400, .inl (fun _ => 0)))]) [3, 4] (by decide) rfl) (hK.sub (tys' := [(cA_2, .byte)]) [1] rfl) hN) rfl rfl hl.1 rfl (lv_room (Nat.le_of_ble_eq_true rfl)) dX2_init_30 ⟨Nat.le_of_ble_eq_true rfl, Nat.le_of_ble_eq_true rfl⟩) hP hD hS hA [3, 4] [0, 1, 2] rfl rfl (by decide) (by decide) (fun _ H locs _ hP hD hS => ?_)
  have hP : va_P D vwCl [(h, .inr (3, [.ref q_1, .null, .null, .null, .null, .null, .null, .null, .null, .null, .int 0])), (q_1, .inr (2, [.ref q_2, .int (nI ([] : List Int32).length)])), (q_2, .inl (cA_1, 200, .inl (fun _ => 0))), (q_3, .inr (2, [.ref q_4, .int (nI ([] : List Int32).length)])), (q_4, .inl (cA_2, 400, .inl (fun _ => 0)))] H := hP.sub [0, 1, 2, 3, 4] rfl
  have hD : va_D A [(h, .inr (3, [.ref q_1, .null, .null, .null, .null, .null, .null, .null, .null, .null, .int 0])), (q_1, .inr (2, [.ref q_2, .int (nI ([] : List Int32).length)])), (q_2, .inl (cA_1, 200, .inl (fun _ => 0))), (q_3, .inr (2, [.ref q_4, .int (nI ([] : List Int32).length)])), (q_4, .inl (cA_2, 400, .inl (fun _ => 0)))] := hD.sub [0, 1, 2, 3, 4] (by decide) rfl
  refine va_putF (D := D) (ci := 3) (v := .ref q_3) (ty := .object "CharacterRows$Octets") (C := RX2) (T := TX2) (N := 11) hx hb hts (by decide +kernel) tyX2 tyX2_ok nmX2 hown hK hP hD hS 0 rfl rfl 1 (by decide) (hts (.fieldLink RX2 18 "CharacterRows" "written" "LCharacterRows$Octets;") (by decide +kernel)) (fun _ h9 => h9) rfl hnm rfl (by decide +kernel) rfl rfl (Nat.le_of_ble_eq_true rfl) dX2_init_33 (fun H locs hP hD hS => ?_)
  have hP : va_P D vwCl [(h, .inr (3, [.ref q_1, .ref q_3, .null, .null, .null, .null, .null, .null, .null, .null, .int 0])), (q_1, .inr (2, [.ref q_2, .int (nI ([] : List Int32).length)])), (q_2, .inl (cA_1, 200, .inl (fun _ => 0))), (q_3, .inr (2, [.ref q_4, .int (nI ([] : List Int32).length)])), (q_4, .inl (cA_2, 400, .inl (fun _ => 0)))] H := hP
  have hD : va_D A [(h, .inr (3, [.ref q_1, .ref q_3, .null, .null, .null, .null, .null, .null, .null, .null, .int 0])), (q_1, .inr (2, [.ref q_2, .int (nI ([] : List Int32).length)])), (q_2, .inl (cA_1, 200, .inl (fun _ => 0))), (q_3, .inr (2, [.ref q_4, .int (nI ([] : List Int32).length)])), (q_4, .inl (cA_2, 400, .inl (fun _ => 0)))] := hD
  refine lv_aload_n hx hb dX2_init_36 rfl (lv_at hl 0 rfl) ?_
  refine va_new (ci := 1) (fs := [.null, .int 0]) (C := RX0) (T := TX0) (N := 2) hx hb hts (by decide +kernel) tyX0 tyX0_ok hown (hts (.classLink RX2 21 RX0) (by decide +kernel)) (hts (.instantiable RX0 2) (by decide +kernel)) (hts (.initialized RX0) (by decide +kernel)) hK hP hD hS hA rfl (fun j hj => by rcases (show j = 0 ∨ j = 1 by omega) with rfl | rfl <;> rfl) (Nat.le_of_ble_eq_true rfl) (Nat.le_of_ble_eq_true rfl) dX2_init_37 (fun q_5 H hP hD hS => ?_)
  have hP : va_P D vwCl [(h, .inr (3, [.ref q_1, .ref q_3, .null, .null, .null, .null, .null, .null, .null, .null, .int 0])), (q_1, .inr (2, [.ref q_2, .int (nI ([] : List Int32).length)])), (q_2, .inl (cA_1, 200, .inl (fun _ => 0))), (q_3, .inr (2, [.ref q_4, .int (nI ([] : List Int32).length)])), (q_4, .inl (cA_2, 400, .inl (fun _ => 0))), (q_5, .inr (1, [.null, .int 0]))] H := hP
  have hD : va_D A [(h, .inr (3, [.ref q_1, .ref q_3, .null, .null, .null, .null, .null, .null, .null, .null, .int 0])), (q_1, .inr (2, [.ref q_2, .int (nI ([] : List Int32).length)])), (q_2, .inl (cA_1, 200, .inl (fun _ => 0))), (q_3, .inr (2, [.ref q_4, .int (nI ([] : List Int32).length)])), (q_4, .inl (cA_2, 400, .inl (fun _ => 0))), (q_5, .inr (1, [.null, .int 0]))] := hD
  refine W.widen (k := 5) (n := 606) (Nat.le_of_ble_eq_true rfl) (Nat.le_of_ble_eq_true rfl) ?_
  refine lv_dup hx hb dX2_init_40 rfl ?_
  refine clK (wr := [(h, .inr (3, [.ref q_1, .ref q_3, .null, .null, .null, .null, .null, .null, .null, .null, .int 0])), (q_1, .inr (2, [.ref q_2, .int (nI ([] : List Int32).length)])), (q_2, .inl (cA_1, 200, .inl (fun _ => 0))), (q_3, .inr (2, [.ref q_4, .int (nI ([] : List Int32).length)])), (q_4, .inl (cA_2, 400, .inl (fun _ => 0)))]) (va_runI ⟨hx, hb, hml, hown, hts⟩ (KX0_init l D q_5 _) (cwI 0 hts gX2_init_X0_init rfl rfl rfl (hts (.initialized RX0) (by decide +kernel)) (hts (.methodLink RX2 23 yX0_init) (by decide +kernel)) (hts (.instanceMethod yX0_init) (by decide +kernel)) rfl (by decide +kernel) ⟨Nat.le_of_ble_eq_true rfl, Nat.le_of_ble_eq_true rfl⟩) (pcM_S (hP.sub (ws' := [(q_5, .inr (1, [.null, .int 0]))]) [5] rfl) (hD.sub (ws' := [(q_5, .inr (1, [.null, .int 0]))]) [5] (by decide) rfl) (hK.sub (tys' := []) [] rfl) hN) rfl rfl hl.1 rfl (lv_room (Nat.le_of_ble_eq_true rfl)) dX2_init_41 ⟨Nat.le_of_ble_eq_true rfl, Nat.le_of_ble_eq_true rfl⟩) hP hD hS hA hK [5] [0, 1, 2, 3, 4] rfl rfl (by decide) (by decide) (fun u_1 H locs _ hP hD hS hK => ?_)
  obtain ⟨a_1, cA_3⟩ := u_1
  have hP : va_P D vwCl [(h, .inr (3, [.ref q_1, .ref q_3, .null, .null, .null, .null, .null, .null, .null, .null, .int 0])), (q_1, .inr (2, [.ref q_2, .int (nI ([] : List Int32).length)])), (q_2, .inl (cA_1, 200, .inl (fun _ => 0))), (q_3, .inr (2, [.ref q_4, .int (nI ([] : List Int32).length)])), (q_4, .inl (cA_2, 400, .inl (fun _ => 0))), (q_5, .inr (1, [.ref a_1, .int (nI ([] : List Int32).length)])), (a_1, .inl (cA_3, 200, .inl (fun _ => 0)))] H := hP.sub [0, 1, 2, 3, 4, 5, 6] rfl
  have hD : va_D A [(h, .inr (3, [.ref q_1, .ref q_3, .null, .null, .null, .null, .null, .null, .null, .null, .int 0])), (q_1, .inr (2, [.ref q_2, .int (nI ([] : List Int32).length)])), (q_2, .inl (cA_1, 200, .inl (fun _ => 0))), (q_3, .inr (2, [.ref q_4, .int (nI ([] : List Int32).length)])), (q_4, .inl (cA_2, 400, .inl (fun _ => 0))), (q_5, .inr (1, [.ref a_1, .int (nI ([] : List Int32).length)])), (a_1, .inl (cA_3, 200, .inl (fun _ => 0)))] := hD.sub [0, 1, 2, 3, 4, 5, 6] (by decide) rfl
  have hK : va_K D vwCl [(cA_1, .byte), (cA_2, .byte), (cA_3, .int)] s := hK
  refine W.widen (k := 6) (n := 806) (Nat.le_of_ble_eq_true rfl) (Nat.le_of_ble_eq_true rfl) ?_
  refine va_put (D := D) (ci := 3) (v := .ref q_5) (ty := .object "CharacterRows$Codes") (C := RX2) (T := TX2) (N := 11) hx hb hts (by decide +kernel) tyX2 tyX2_ok nmX2 hown hK hP hD hS 0 rfl rfl 2 (by decide) (hts (.fieldLink RX2 24 "CharacterRows" "text" "LCharacterRows$Codes;") (by decide +kernel)) (fun _ h9 => h9) rfl (by decide +kernel) rfl rfl (Nat.le_of_ble_eq_true rfl) dX2_init_44 (fun H locs hP hD hS => ?_)
  have hP : va_P D vwCl [(h, .inr (3, [.ref q_1, .ref q_3, .ref q_5, .null, .null, .null, .null, .null, .null, .null, .int 0])), (q_1, .inr (2, [.ref q_2, .int (nI ([] : List Int32).length)])), (q_2, .inl (cA_1, 200, .inl (fun _ => 0))), (q_3, .inr (2, [.ref q_4, .int (nI ([] : List Int32).length)])), (q_4, .inl (cA_2, 400, .inl (fun _ => 0))), (q_5, .inr (1, [.ref a_1, .int (nI ([] : List Int32).length)])), (a_1, .inl (cA_3, 200, .inl (fun _ => 0)))] H := hP
  have hD : va_D A [(h, .inr (3, [.ref q_1, .ref q_3, .ref q_5, .null, .null, .null, .null, .null, .null, .null, .int 0])), (q_1, .inr (2, [.ref q_2, .int (nI ([] : List Int32).length)])), (q_2, .inl (cA_1, 200, .inl (fun _ => 0))), (q_3, .inr (2, [.ref q_4, .int (nI ([] : List Int32).length)])), (q_4, .inl (cA_2, 400, .inl (fun _ => 0))), (q_5, .inr (1, [.ref a_1, .int (nI ([] : List Int32).length)])), (a_1, .inl (cA_3, 200, .inl (fun _ => 0)))] := hD
  refine lv_aload_n hx hb dX2_init_47 rfl (lv_at hl 0 rfl) ?_
  refine va_new (ci := 1) (fs := [.null, .int 0]) (C := RX0) (T := TX0) (N := 2) hx hb hts (by decide +kernel) tyX0 tyX0_ok hown (hts (.classLink RX2 21 RX0) (by decide +kernel)) (hts (.instantiable RX0 2) (by decide +kernel)) (hts (.initialized RX0) (by decide +kernel)) hK hP hD hS hA rfl (fun j hj => by rcases (show j = 0 ∨ j = 1 by omega) with rfl | rfl <;> rfl) (Nat.le_of_ble_eq_true rfl) (Nat.le_of_ble_eq_true rfl) dX2_init_48 (fun q_6 H hP hD hS => ?_)
  have hP : va_P D vwCl [(h, .inr (3, [.ref q_1, .ref q_3, .ref q_5, .null, .null, .null, .null, .null, .null, .null, .int 0])), (q_1, .inr (2, [.ref q_2, .int (nI ([] : List Int32).length)])), (q_2, .inl (cA_1, 200, .inl (fun _ => 0))), (q_3, .inr (2, [.ref q_4, .int (nI ([] : List Int32).length)])), (q_4, .inl (cA_2, 400, .inl (fun _ => 0))), (q_5, .inr (1, [.ref a_1, .int (nI ([] : List Int32).length)])), (a_1, .inl (cA_3, 200, .inl (fun _ => 0))), (q_6, .inr (1, [.null, .int 0]))] H := hP
  have hD : va_D A [(h, .inr (3, [.ref q_1, .ref q_3, .ref q_5, .null, .null, .null, .null, .null, .null, .null, .int 0])), (q_1, .inr (2, [.ref q_2, .int (nI ([] : List Int32).length)])), (q_2, .inl (cA_1, 200, .inl (fun _ => 0))), (q_3, .inr (2, [.ref q_4, .int (nI ([] : List Int32).length)])), (q_4, .inl (cA_2, 400, .inl (fun _ => 0))), (q_5, .inr (1, [.ref a_1, .int (nI ([] : List Int32).length)])), (a_1, .inl (cA_3, 200, .inl (fun _ => 0))), (q_6, .inr (1, [.null, .int 0]))] := hD
  refine W.widen (k := 7) (n := 808) (Nat.le_of_ble_eq_true rfl) (Nat.le_of_ble_eq_true rfl) ?_
  refine lv_dup hx hb dX2_init_51 rfl ?_
  refine clK (wr := [(h, .inr (3, [.ref q_1, .ref q_3, .ref q_5, .null, .null, .null, .null, .null, .null, .null, .int 0])), (q_1, .inr (2, [.ref q_2, .int (nI ([] : List Int32).length)])), (q_2, .inl (cA_1, 200, .inl (fun _ => 0))), (q_3, .inr (2, [.ref q_4, .int (nI ([] : List Int32).length)])), (q_4, .inl (cA_2, 400, .inl (fun _ => 0))), (q_5, .inr (1, [.ref a_1, .int (nI ([] : List Int32).length)])), (a_1, .inl (cA_3, 200, .inl (fun _ => 0)))]) (va_runI ⟨hx, hb, hml, hown, hts⟩ (KX0_init l D q_6 _) (cwI 0 hts gX2_init_X0_init rfl rfl rfl (hts (.initialized RX0) (by decide +kernel)) (hts (.methodLink RX2 23 yX0_init) (by decide +kernel)) (hts (.instanceMethod yX0_init) (by decide +kernel)) rfl (by decide +kernel) ⟨Nat.le_of_ble_eq_true rfl, Nat.le_of_ble_eq_true rfl⟩) (pcM_S (hP.sub (ws' := [(q_6, .inr (1, [.null, .int 0]))]) [7] rfl) (hD.sub (ws' := [(q_6, .inr (1, [.null, .int 0]))]) [7] (by decide) rfl) (hK.sub (tys' := []) [] rfl) hN) rfl rfl hl.1 rfl (lv_room (Nat.le_of_ble_eq_true rfl)) dX2_init_52 ⟨Nat.le_of_ble_eq_true rfl, Nat.le_of_ble_eq_true rfl⟩) hP hD hS hA hK [7] [0, 1, 2, 3, 4, 5, 6] rfl rfl (by decide) (by decide) (fun u_2 H locs _ hP hD hS hK => ?_)
  obtain ⟨a_2, cA_4⟩ := u_2
  have hP : va_P D vwCl [(h, .inr (3, [.ref q_1, .ref q_3, .ref q_5, .null, .null, .null, .null, .null, .null, .null, .int 0])), (q_1, .inr (2, [.ref q_2, .int (nI ([] : List Int32).length)])), (q_2, .inl (cA_1, 200, .inl (fun _ => 0))), (q_3, .inr (2, [.ref q_4, .int (nI ([] : List Int32).length)])), (q_4, .inl (cA_2, 400, .inl (fun _ => 0))), (q_5, .inr (1, [.ref a_1, .int (nI ([] : List Int32).length)])), (a_1, .inl (cA_3, 200, .inl (fun _ => 0))), (q_6, .inr (1, [.ref a_2, .int (nI ([] : List Int32).length)])), (a_2, .inl (cA_4, 200, .inl (fun _ => 0)))] H := hP.sub [0, 1, 2, 3, 4, 5, 6, 7, 8] rfl
  have hD : va_D A [(h, .inr (3, [.ref q_1, .ref q_3, .ref q_5, .null, .null, .null, .null, .null, .null, .null, .int 0])), (q_1, .inr (2, [.ref q_2, .int (nI ([] : List Int32).length)])), (q_2, .inl (cA_1, 200, .inl (fun _ => 0))), (q_3, .inr (2, [.ref q_4, .int (nI ([] : List Int32).length)])), (q_4, .inl (cA_2, 400, .inl (fun _ => 0))), (q_5, .inr (1, [.ref a_1, .int (nI ([] : List Int32).length)])), (a_1, .inl (cA_3, 200, .inl (fun _ => 0))), (q_6, .inr (1, [.ref a_2, .int (nI ([] : List Int32).length)])), (a_2, .inl (cA_4, 200, .inl (fun _ => 0)))] := hD.sub [0, 1, 2, 3, 4, 5, 6, 7, 8] (by decide) rfl
  have hK : va_K D vwCl [(cA_1, .byte), (cA_2, .byte), (cA_3, .int), (cA_4, .int)] s := hK
  refine W.widen (k := 8) (n := 1008) (Nat.le_of_ble_eq_true rfl) (Nat.le_of_ble_eq_true rfl) ?_
  refine va_put (D := D) (ci := 3) (v := .ref q_6) (ty := .object "CharacterRows$Codes") (C := RX2) (T := TX2) (N := 11) hx hb hts (by decide +kernel) tyX2 tyX2_ok nmX2 hown hK hP hD hS 0 rfl rfl 3 (by decide) (hts (.fieldLink RX2 28 "CharacterRows" "other" "LCharacterRows$Codes;") (by decide +kernel)) (fun _ h9 => h9) rfl (by decide +kernel) rfl rfl (Nat.le_of_ble_eq_true rfl) dX2_init_55 (fun H locs hP hD hS => ?_)
  have hP : va_P D vwCl [(h, .inr (3, [.ref q_1, .ref q_3, .ref q_5, .ref q_6, .null, .null, .null, .null, .null, .null, .int 0])), (q_1, .inr (2, [.ref q_2, .int (nI ([] : List Int32).length)])), (q_2, .inl (cA_1, 200, .inl (fun _ => 0))), (q_3, .inr (2, [.ref q_4, .int (nI ([] : List Int32).length)])), (q_4, .inl (cA_2, 400, .inl (fun _ => 0))), (q_5, .inr (1, [.ref a_1, .int (nI ([] : List Int32).length)])), (a_1, .inl (cA_3, 200, .inl (fun _ => 0))), (q_6, .inr (1, [.ref a_2, .int (nI ([] : List Int32).length)])), (a_2, .inl (cA_4, 200, .inl (fun _ => 0)))] H := hP
  have hD : va_D A [(h, .inr (3, [.ref q_1, .ref q_3, .ref q_5, .ref q_6, .null, .null, .null, .null, .null, .null, .int 0])), (q_1, .inr (2, [.ref q_2, .int (nI ([] : List Int32).length)])), (q_2, .inl (cA_1, 200, .inl (fun _ => 0))), (q_3, .inr (2, [.ref q_4, .int (nI ([] : List Int32).length)])), (q_4, .inl (cA_2, 400, .inl (fun _ => 0))), (q_5, .inr (1, [.ref a_1, .int (nI ([] : List Int32).length)])), (a_1, .inl (cA_3, 200, .inl (fun _ => 0))), (q_6, .inr (1, [.ref a_2, .int (nI ([] : List Int32).length)])), (a_2, .inl (cA_4, 200, .inl (fun _ => 0)))] := hD
  refine lv_aload_n hx hb dX2_init_58 rfl (lv_at hl 0 rfl) ?_
  refine va_new (ci := 1) (fs := [.null, .int 0]) (C := RX0) (T := TX0) (N := 2) hx hb hts (by decide +kernel) tyX0 tyX0_ok hown (hts (.classLink RX2 21 RX0) (by decide +kernel)) (hts (.instantiable RX0 2) (by decide +kernel)) (hts (.initialized RX0) (by decide +kernel)) hK hP hD hS hA rfl (fun j hj => by rcases (show j = 0 ∨ j = 1 by omega) with rfl | rfl <;> rfl) (Nat.le_of_ble_eq_true rfl) (Nat.le_of_ble_eq_true rfl) dX2_init_59 (fun q_7 H hP hD hS => ?_)
  have hP : va_P D vwCl [(h, .inr (3, [.ref q_1, .ref q_3, .ref q_5, .ref q_6, .null, .null, .null, .null, .null, .null, .int 0])), (q_1, .inr (2, [.ref q_2, .int (nI ([] : List Int32).length)])), (q_2, .inl (cA_1, 200, .inl (fun _ => 0))), (q_3, .inr (2, [.ref q_4, .int (nI ([] : List Int32).length)])), (q_4, .inl (cA_2, 400, .inl (fun _ => 0))), (q_5, .inr (1, [.ref a_1, .int (nI ([] : List Int32).length)])), (a_1, .inl (cA_3, 200, .inl (fun _ => 0))), (q_6, .inr (1, [.ref a_2, .int (nI ([] : List Int32).length)])), (a_2, .inl (cA_4, 200, .inl (fun _ => 0))), (q_7, .inr (1, [.null, .int 0]))] H := hP
  have hD : va_D A [(h, .inr (3, [.ref q_1, .ref q_3, .ref q_5, .ref q_6, .null, .null, .null, .null, .null, .null, .int 0])), (q_1, .inr (2, [.ref q_2, .int (nI ([] : List Int32).length)])), (q_2, .inl (cA_1, 200, .inl (fun _ => 0))), (q_3, .inr (2, [.ref q_4, .int (nI ([] : List Int32).length)])), (q_4, .inl (cA_2, 400, .inl (fun _ => 0))), (q_5, .inr (1, [.ref a_1, .int (nI ([] : List Int32).length)])), (a_1, .inl (cA_3, 200, .inl (fun _ => 0))), (q_6, .inr (1, [.ref a_2, .int (nI ([] : List Int32).length)])), (a_2, .inl (cA_4, 200, .inl (fun _ => 0))), (q_7, .inr (1, [.null, .int 0]))] := hD
  refine W.widen (k := 9) (n := 1010) (Nat.le_of_ble_eq_true rfl) (Nat.le_of_ble_eq_true rfl) ?_
  refine lv_dup hx hb dX2_init_62 rfl ?_
  refine clK (wr := [(h, .inr (3, [.ref q_1, .ref q_3, .ref q_5, .ref q_6, .null, .null, .null, .null, .null, .null, .int 0])), (q_1, .inr (2, [.ref q_2, .int (nI ([] : List Int32).length)])), (q_2, .inl (cA_1, 200, .inl (fun _ => 0))), (q_3, .inr (2, [.ref q_4, .int (nI ([] : List Int32).length)])), (q_4, .inl (cA_2, 400, .inl (fun _ => 0))), (q_5, .inr (1, [.ref a_1, .int (nI ([] : List Int32).length)])), (a_1, .inl (cA_3, 200, .inl (fun _ => 0))), (q_6, .inr (1, [.ref a_2, .int (nI ([] : List Int32).length)])), (a_2, .inl (cA_4, 200, .inl (fun _ => 0)))]) (va_runI ⟨hx, hb, hml, hown, hts⟩ (KX0_init l D q_7 _) (cwI 0 hts gX2_init_X0_init rfl rfl rfl (hts (.initialized RX0) (by decide +kernel)) (hts (.methodLink RX2 23 yX0_init) (by decide +kernel)) (hts (.instanceMethod yX0_init) (by decide +kernel)) rfl (by decide +kernel) ⟨Nat.le_of_ble_eq_true rfl, Nat.le_of_ble_eq_true rfl⟩) (pcM_S (hP.sub (ws' := [(q_7, .inr (1, [.null, .int 0]))]) [9] rfl) (hD.sub (ws' := [(q_7, .inr (1, [.null, .int 0]))]) [9] (by decide) rfl) (hK.sub (tys' := []) [] rfl) hN) rfl rfl hl.1 rfl (lv_room (Nat.le_of_ble_eq_true rfl)) dX2_init_63 ⟨Nat.le_of_ble_eq_true rfl, Nat.le_of_ble_eq_true rfl⟩) hP hD hS hA hK [9] [0, 1, 2, 3, 4, 5, 6, 7, 8] rfl rfl (by decide) (by decide) (fun u_3 H locs _ hP hD hS hK => ?_)
  obtain ⟨a_3, cA_5⟩ := u_3
  have hP : va_P D vwCl [(h, .inr (3, [.ref q_1, .ref q_3, .ref q_5, .ref q_6, .null, .null, .null, .null, .null, .null, .int 0])), (q_1, .inr (2, [.ref q_2, .int (nI ([] : List Int32).length)])), (q_2, .inl (cA_1, 200, .inl (fun _ => 0))), (q_3, .inr (2, [.ref q_4, .int (nI ([] : List Int32).length)])), (q_4, .inl (cA_2, 400, .inl (fun _ => 0))), (q_5, .inr (1, [.ref a_1, .int (nI ([] : List Int32).length)])), (a_1, .inl (cA_3, 200, .inl (fun _ => 0))), (q_6, .inr (1, [.ref a_2, .int (nI ([] : List Int32).length)])), (a_2, .inl (cA_4, 200, .inl (fun _ => 0))), (q_7, .inr (1, [.ref a_3, .int (nI ([] : List Int32).length)])), (a_3, .inl (cA_5, 200, .inl (fun _ => 0)))] H := hP.sub [0, 1, 2, 3, 4, 5, 6, 7, 8, 9, 10] rfl
  have hD : va_D A [(h, .inr (3, [.ref q_1, .ref q_3, .ref q_5, .ref q_6, .null, .null, .null, .null, .null, .null, .int 0])), (q_1, .inr (2, [.ref q_2, .int (nI ([] : List Int32).length)])), (q_2, .inl (cA_1, 200, .inl (fun _ => 0))), (q_3, .inr (2, [.ref q_4, .int (nI ([] : List Int32).length)])), (q_4, .inl (cA_2, 400, .inl (fun _ => 0))), (q_5, .inr (1, [.ref a_1, .int (nI ([] : List Int32).length)])), (a_1, .inl (cA_3, 200, .inl (fun _ => 0))), (q_6, .inr (1, [.ref a_2, .int (nI ([] : List Int32).length)])), (a_2, .inl (cA_4, 200, .inl (fun _ => 0))), (q_7, .inr (1, [.ref a_3, .int (nI ([] : List Int32).length)])), (a_3, .inl (cA_5, 200, .inl (fun _ => 0)))] := hD.sub [0, 1, 2, 3, 4, 5, 6, 7, 8, 9, 10] (by decide) rfl
  have hK : va_K D vwCl [(cA_1, .byte), (cA_2, .byte), (cA_3, .int), (cA_4, .int), (cA_5, .int)] s := hK
  refine W.widen (k := 10) (n := 1210) (Nat.le_of_ble_eq_true rfl) (Nat.le_of_ble_eq_true rfl) ?_
  refine va_put (D := D) (ci := 3) (v := .ref q_7) (ty := .object "CharacterRows$Codes") (C := RX2) (T := TX2) (N := 11) hx hb hts (by decide +kernel) tyX2 tyX2_ok nmX2 hown hK hP hD hS 0 rfl rfl 4 (by decide) (hts (.fieldLink RX2 31 "CharacterRows" "fresh" "LCharacterRows$Codes;") (by decide +kernel)) (fun _ h9 => h9) rfl (by decide +kernel) rfl rfl (Nat.le_of_ble_eq_true rfl) dX2_init_66 (fun H locs hP hD hS => ?_)
  have hP : va_P D vwCl [(h, .inr (3, [.ref q_1, .ref q_3, .ref q_5, .ref q_6, .ref q_7, .null, .null, .null, .null, .null, .int 0])), (q_1, .inr (2, [.ref q_2, .int (nI ([] : List Int32).length)])), (q_2, .inl (cA_1, 200, .inl (fun _ => 0))), (q_3, .inr (2, [.ref q_4, .int (nI ([] : List Int32).length)])), (q_4, .inl (cA_2, 400, .inl (fun _ => 0))), (q_5, .inr (1, [.ref a_1, .int (nI ([] : List Int32).length)])), (a_1, .inl (cA_3, 200, .inl (fun _ => 0))), (q_6, .inr (1, [.ref a_2, .int (nI ([] : List Int32).length)])), (a_2, .inl (cA_4, 200, .inl (fun _ => 0))), (q_7, .inr (1, [.ref a_3, .int (nI ([] : List Int32).length)])), (a_3, .inl (cA_5, 200, .inl (fun _ => 0)))] H := hP
  have hD : va_D A [(h, .inr (3, [.ref q_1, .ref q_3, .ref q_5, .ref q_6, .ref q_7, .null, .null, .null, .null, .null, .int 0])), (q_1, .inr (2, [.ref q_2, .int (nI ([] : List Int32).length)])), (q_2, .inl (cA_1, 200, .inl (fun _ => 0))), (q_3, .inr (2, [.ref q_4, .int (nI ([] : List Int32).length)])), (q_4, .inl (cA_2, 400, .inl (fun _ => 0))), (q_5, .inr (1, [.ref a_1, .int (nI ([] : List Int32).length)])), (a_1, .inl (cA_3, 200, .inl (fun _ => 0))), (q_6, .inr (1, [.ref a_2, .int (nI ([] : List Int32).length)])), (a_2, .inl (cA_4, 200, .inl (fun _ => 0))), (q_7, .inr (1, [.ref a_3, .int (nI ([] : List Int32).length)])), (a_3, .inl (cA_5, 200, .inl (fun _ => 0)))] := hD
  refine lv_aload_n hx hb dX2_init_69 rfl (lv_at hl 0 rfl) ?_
  refine va_new (ci := 1) (fs := [.null, .int 0]) (C := RX0) (T := TX0) (N := 2) hx hb hts (by decide +kernel) tyX0 tyX0_ok hown (hts (.classLink RX2 21 RX0) (by decide +kernel)) (hts (.instantiable RX0 2) (by decide +kernel)) (hts (.initialized RX0) (by decide +kernel)) hK hP hD hS hA rfl (fun j hj => by rcases (show j = 0 ∨ j = 1 by omega) with rfl | rfl <;> rfl) (Nat.le_of_ble_eq_true rfl) (Nat.le_of_ble_eq_true rfl) dX2_init_70 (fun q_8 H hP hD hS => ?_)
  have hP : va_P D vwCl [(h, .inr (3, [.ref q_1, .ref q_3, .ref q_5, .ref q_6, .ref q_7, .null, .null, .null, .null, .null, .int 0])), (q_1, .inr (2, [.ref q_2, .int (nI ([] : List Int32).length)])), (q_2, .inl (cA_1, 200, .inl (fun _ => 0))), (q_3, .inr (2, [.ref q_4, .int (nI ([] : List Int32).length)])), (q_4, .inl (cA_2, 400, .inl (fun _ => 0))), (q_5, .inr (1, [.ref a_1, .int (nI ([] : List Int32).length)])), (a_1, .inl (cA_3, 200, .inl (fun _ => 0))), (q_6, .inr (1, [.ref a_2, .int (nI ([] : List Int32).length)])), (a_2, .inl (cA_4, 200, .inl (fun _ => 0))), (q_7, .inr (1, [.ref a_3, .int (nI ([] : List Int32).length)])), (a_3, .inl (cA_5, 200, .inl (fun _ => 0))), (q_8, .inr (1, [.null, .int 0]))] H := hP
  have hD : va_D A [(h, .inr (3, [.ref q_1, .ref q_3, .ref q_5, .ref q_6, .ref q_7, .null, .null, .null, .null, .null, .int 0])), (q_1, .inr (2, [.ref q_2, .int (nI ([] : List Int32).length)])), (q_2, .inl (cA_1, 200, .inl (fun _ => 0))), (q_3, .inr (2, [.ref q_4, .int (nI ([] : List Int32).length)])), (q_4, .inl (cA_2, 400, .inl (fun _ => 0))), (q_5, .inr (1, [.ref a_1, .int (nI ([] : List Int32).length)])), (a_1, .inl (cA_3, 200, .inl (fun _ => 0))), (q_6, .inr (1, [.ref a_2, .int (nI ([] : List Int32).length)])), (a_2, .inl (cA_4, 200, .inl (fun _ => 0))), (q_7, .inr (1, [.ref a_3, .int (nI ([] : List Int32).length)])), (a_3, .inl (cA_5, 200, .inl (fun _ => 0))), (q_8, .inr (1, [.null, .int 0]))] := hD
  refine W.widen (k := 11) (n := 1212) (Nat.le_of_ble_eq_true rfl) (Nat.le_of_ble_eq_true rfl) ?_
  refine lv_dup hx hb dX2_init_73 rfl ?_
  refine clK (wr := [(h, .inr (3, [.ref q_1, .ref q_3, .ref q_5, .ref q_6, .ref q_7, .null, .null, .null, .null, .null, .int 0])), (q_1, .inr (2, [.ref q_2, .int (nI ([] : List Int32).length)])), (q_2, .inl (cA_1, 200, .inl (fun _ => 0))), (q_3, .inr (2, [.ref q_4, .int (nI ([] : List Int32).length)])), (q_4, .inl (cA_2, 400, .inl (fun _ => 0))), (q_5, .inr (1, [.ref a_1, .int (nI ([] : List Int32).length)])), (a_1, .inl (cA_3, 200, .inl (fun _ => 0))), (q_6, .inr (1, [.ref a_2, .int (nI ([] : List Int32).length)])), (a_2, .inl (cA_4, 200, .inl (fun _ => 0))), (q_7, .inr (1, [.ref a_3, .int (nI ([] : List Int32).length)])), (a_3, .inl (cA_5, 200, .inl (fun _ => 0)))]) (va_runI ⟨hx, hb, hml, hown, hts⟩ (KX0_init l D q_8 _) (cwI 0 hts gX2_init_X0_init rfl rfl rfl (hts (.initialized RX0) (by decide +kernel)) (hts (.methodLink RX2 23 yX0_init) (by decide +kernel)) (hts (.instanceMethod yX0_init) (by decide +kernel)) rfl (by decide +kernel) ⟨Nat.le_of_ble_eq_true rfl, Nat.le_of_ble_eq_true rfl⟩) (pcM_S (hP.sub (ws' := [(q_8, .inr (1, [.null, .int 0]))]) [11] rfl) (hD.sub (ws' := [(q_8, .inr (1, [.null, .int 0]))]) [11] (by decide) rfl) (hK.sub (tys' := []) [] rfl) hN) rfl rfl hl.1 rfl (lv_room (Nat.le_of_ble_eq_true rfl)) dX2_init_74 ⟨Nat.le_of_ble_eq_true rfl, Nat.le_of_ble_eq_true rfl⟩) hP hD hS hA hK [11] [0, 1, 2, 3, 4, 5, 6, 7, 8, 9, 10] rfl rfl (by decide) (by decide) (fun u_4 H locs _ hP hD hS hK => ?_)
  obtain ⟨a_4, cA_6⟩ := u_4
  have hP : va_P D vwCl [(h, .inr (3, [.ref q_1, .ref q_3, .ref q_5, .ref q_6, .ref q_7, .null, .null, .null, .null, .null, .int 0])), (q_1, .inr (2, [.ref q_2, .int (nI ([] : List Int32).length)])), (q_2, .inl (cA_1, 200, .inl (fun _ => 0))), (q_3, .inr (2, [.ref q_4, .int (nI ([] : List Int32).length)])), (q_4, .inl (cA_2, 400, .inl (fun _ => 0))), (q_5, .inr (1, [.ref a_1, .int (nI ([] : List Int32).length)])), (a_1, .inl (cA_3, 200, .inl (fun _ => 0))), (q_6, .inr (1, [.ref a_2, .int (nI ([] : List Int32).length)])), (a_2, .inl (cA_4, 200, .inl (fun _ => 0))), (q_7, .inr (1, [.ref a_3, .int (nI ([] : List Int32).length)])), (a_3, .inl (cA_5, 200, .inl (fun _ => 0))), (q_8, .inr (1, [.ref a_4, .int (nI ([] : List Int32).length)])), (a_4, .inl (cA_6, 200, .inl (fun _ => 0)))] H := hP.sub [0, 1, 2, 3, 4, 5, 6, 7, 8, 9, 10, 11, 12] rfl
  have hD : va_D A [(h, .inr (3, [.ref q_1, .ref q_3, .ref q_5, .ref q_6, .ref q_7, .null, .null, .null, .null, .null, .int 0])), (q_1, .inr (2, [.ref q_2, .int (nI ([] : List Int32).length)])), (q_2, .inl (cA_1, 200, .inl (fun _ => 0))), (q_3, .inr (2, [.ref q_4, .int (nI ([] : List Int32).length)])), (q_4, .inl (cA_2, 400, .inl (fun _ => 0))), (q_5, .inr (1, [.ref a_1, .int (nI ([] : List Int32).length)])), (a_1, .inl (cA_3, 200, .inl (fun _ => 0))), (q_6, .inr (1, [.ref a_2, .int (nI ([] : List Int32).length)])), (a_2, .inl (cA_4, 200, .inl (fun _ => 0))), (q_7, .inr (1, [.ref a_3, .int (nI ([] : List Int32).length)])), (a_3, .inl (cA_5, 200, .inl (fun _ => 0))), (q_8, .inr (1, [.ref a_4, .int (nI ([] : List Int32).length)])), (a_4, .inl (cA_6, 200, .inl (fun _ => 0)))] := hD.sub [0, 1, 2, 3, 4, 5, 6, 7, 8, 9, 10, 11, 12] (by decide) rfl
  have hK : va_K D vwCl [(cA_1, .byte), (cA_2, .byte), (cA_3, .int), (cA_4, .int), (cA_5, .int), (cA_6, .int)] s := hK
  refine W.widen (k := 12) (n := 1412) (Nat.le_of_ble_eq_true rfl) (Nat.le_of_ble_eq_true rfl) ?_
  refine va_put (D := D) (ci := 3) (v := .ref q_8) (ty := .object "CharacterRows$Codes") (C := RX2) (T := TX2) (N := 11) hx hb hts (by decide +kernel) tyX2 tyX2_ok nmX2 hown hK hP hD hS 0 rfl rfl 5 (by decide) (hts (.fieldLink RX2 34 "CharacterRows" "apart" "LCharacterRows$Codes;") (by decide +kernel)) (fun _ h9 => h9) rfl (by decide +kernel) rfl rfl (Nat.le_of_ble_eq_true rfl) dX2_init_77 (fun H locs hP hD hS => ?_)
  have hP : va_P D vwCl [(h, .inr (3, [.ref q_1, .ref q_3, .ref q_5, .ref q_6, .ref q_7, .ref q_8, .null, .null, .null, .null, .int 0])), (q_1, .inr (2, [.ref q_2, .int (nI ([] : List Int32).length)])), (q_2, .inl (cA_1, 200, .inl (fun _ => 0))), (q_3, .inr (2, [.ref q_4, .int (nI ([] : List Int32).length)])), (q_4, .inl (cA_2, 400, .inl (fun _ => 0))), (q_5, .inr (1, [.ref a_1, .int (nI ([] : List Int32).length)])), (a_1, .inl (cA_3, 200, .inl (fun _ => 0))), (q_6, .inr (1, [.ref a_2, .int (nI ([] : List Int32).length)])), (a_2, .inl (cA_4, 200, .inl (fun _ => 0))), (q_7, .inr (1, [.ref a_3, .int (nI ([] : List Int32).length)])), (a_3, .inl (cA_5, 200, .inl (fun _ => 0))), (q_8, .inr (1, [.ref a_4, .int (nI ([] : List Int32).length)])), (a_4, .inl (cA_6, 200, .inl (fun _ => 0)))] H := hP
  have hD : va_D A [(h, .inr (3, [.ref q_1, .ref q_3, .ref q_5, .ref q_6, .ref q_7, .ref q_8, .null, .null, .null, .null, .int 0])), (q_1, .inr (2, [.ref q_2, .int (nI ([] : List Int32).length)])), (q_2, .inl (cA_1, 200, .inl (fun _ => 0))), (q_3, .inr (2, [.ref q_4, .int (nI ([] : List Int32).length)])), (q_4, .inl (cA_2, 400, .inl (fun _ => 0))), (q_5, .inr (1, [.ref a_1, .int (nI ([] : List Int32).length)])), (a_1, .inl (cA_3, 200, .inl (fun _ => 0))), (q_6, .inr (1, [.ref a_2, .int (nI ([] : List Int32).length)])), (a_2, .inl (cA_4, 200, .inl (fun _ => 0))), (q_7, .inr (1, [.ref a_3, .int (nI ([] : List Int32).length)])), (a_3, .inl (cA_5, 200, .inl (fun _ => 0))), (q_8, .inr (1, [.ref a_4, .int (nI ([] : List Int32).length)])), (a_4, .inl (cA_6, 200, .inl (fun _ => 0)))] := hD
  refine lv_aload_n hx hb dX2_init_80 rfl (lv_at hl 0 rfl) ?_
  refine va_new (ci := 1) (fs := [.null, .int 0]) (C := RX0) (T := TX0) (N := 2) hx hb hts (by decide +kernel) tyX0 tyX0_ok hown (hts (.classLink RX2 21 RX0) (by decide +kernel)) (hts (.instantiable RX0 2) (by decide +kernel)) (hts (.initialized RX0) (by decide +kernel)) hK hP hD hS hA rfl (fun j hj => by rcases (show j = 0 ∨ j = 1 by omega) with rfl | rfl <;> rfl) (Nat.le_of_ble_eq_true rfl) (Nat.le_of_ble_eq_true rfl) dX2_init_81 (fun q_9 H hP hD hS => ?_)
  have hP : va_P D vwCl [(h, .inr (3, [.ref q_1, .ref q_3, .ref q_5, .ref q_6, .ref q_7, .ref q_8, .null, .null, .null, .null, .int 0])), (q_1, .inr (2, [.ref q_2, .int (nI ([] : List Int32).length)])), (q_2, .inl (cA_1, 200, .inl (fun _ => 0))), (q_3, .inr (2, [.ref q_4, .int (nI ([] : List Int32).length)])), (q_4, .inl (cA_2, 400, .inl (fun _ => 0))), (q_5, .inr (1, [.ref a_1, .int (nI ([] : List Int32).length)])), (a_1, .inl (cA_3, 200, .inl (fun _ => 0))), (q_6, .inr (1, [.ref a_2, .int (nI ([] : List Int32).length)])), (a_2, .inl (cA_4, 200, .inl (fun _ => 0))), (q_7, .inr (1, [.ref a_3, .int (nI ([] : List Int32).length)])), (a_3, .inl (cA_5, 200, .inl (fun _ => 0))), (q_8, .inr (1, [.ref a_4, .int (nI ([] : List Int32).length)])), (a_4, .inl (cA_6, 200, .inl (fun _ => 0))), (q_9, .inr (1, [.null, .int 0]))] H := hP
  have hD : va_D A [(h, .inr (3, [.ref q_1, .ref q_3, .ref q_5, .ref q_6, .ref q_7, .ref q_8, .null, .null, .null, .null, .int 0])), (q_1, .inr (2, [.ref q_2, .int (nI ([] : List Int32).length)])), (q_2, .inl (cA_1, 200, .inl (fun _ => 0))), (q_3, .inr (2, [.ref q_4, .int (nI ([] : List Int32).length)])), (q_4, .inl (cA_2, 400, .inl (fun _ => 0))), (q_5, .inr (1, [.ref a_1, .int (nI ([] : List Int32).length)])), (a_1, .inl (cA_3, 200, .inl (fun _ => 0))), (q_6, .inr (1, [.ref a_2, .int (nI ([] : List Int32).length)])), (a_2, .inl (cA_4, 200, .inl (fun _ => 0))), (q_7, .inr (1, [.ref a_3, .int (nI ([] : List Int32).length)])), (a_3, .inl (cA_5, 200, .inl (fun _ => 0))), (q_8, .inr (1, [.ref a_4, .int (nI ([] : List Int32).length)])), (a_4, .inl (cA_6, 200, .inl (fun _ => 0))), (q_9, .inr (1, [.null, .int 0]))] := hD
  refine W.widen (k := 13) (n := 1414) (Nat.le_of_ble_eq_true rfl) (Nat.le_of_ble_eq_true rfl) ?_
  refine lv_dup hx hb dX2_init_84 rfl ?_
  refine clK (wr := [(h, .inr (3, [.ref q_1, .ref q_3, .ref q_5, .ref q_6, .ref q_7, .ref q_8, .null, .null, .null, .null, .int 0])), (q_1, .inr (2, [.ref q_2, .int (nI ([] : List Int32).length)])), (q_2, .inl (cA_1, 200, .inl (fun _ => 0))), (q_3, .inr (2, [.ref q_4, .int (nI ([] : List Int32).length)])), (q_4, .inl (cA_2, 400, .inl (fun _ => 0))), (q_5, .inr (1, [.ref a_1, .int (nI ([] : List Int32).length)])), (a_1, .inl (cA_3, 200, .inl (fun _ => 0))), (q_6, .inr (1, [.ref a_2, .int (nI ([] : List Int32).length)])), (a_2, .inl (cA_4, 200, .inl (fun _ => 0))), (q_7, .inr (1, [.ref a_3, .int (nI ([] : List Int32).length)])), (a_3, .inl (cA_5, 200, .inl (fun _ => 0))), (q_8, .inr (1, [.ref a_4, .int (nI ([] : List Int32).length)])), (a_4, .inl (cA_6, 200, .inl (fun _ => 0)))]) (va_runI ⟨hx, hb, hml, hown, hts⟩ (KX0_init l D q_9 _) (cwI 0 hts gX2_init_X0_init rfl rfl rfl (hts (.initialized RX0) (by decide +kernel)) (hts (.methodLink RX2 23 yX0_init) (by decide +kernel)) (hts (.instanceMethod yX0_init) (by decide +kernel)) rfl (by decide +kernel) ⟨Nat.le_of_ble_eq_true rfl, Nat.le_of_ble_eq_true rfl⟩) (pcM_S (hP.sub (ws' := [(q_9, .inr (1, [.null, .int 0]))]) [13] rfl) (hD.sub (ws' := [(q_9, .inr (1, [.null, .int 0]))]) [13] (by decide) rfl) (hK.sub (tys' := []) [] rfl) hN) rfl rfl hl.1 rfl (lv_room (Nat.le_of_ble_eq_true rfl)) dX2_init_85 ⟨Nat.le_of_ble_eq_true rfl, Nat.le_of_ble_eq_true rfl⟩) hP hD hS hA hK [13] [0, 1, 2, 3, 4, 5, 6, 7, 8, 9, 10, 11, 12] rfl rfl (by decide) (by decide) (fun u_5 H locs _ hP hD hS hK => ?_)
  obtain ⟨a_5, cA_7⟩ := u_5
  have hP : va_P D vwCl [(h, .inr (3, [.ref q_1, .ref q_3, .ref q_5, .ref q_6, .ref q_7, .ref q_8, .null, .null, .null, .null, .int 0])), (q_1, .inr (2, [.ref q_2, .int (nI ([] : List Int32).length)])), (q_2, .inl (cA_1, 200, .inl (fun _ => 0))), (q_3, .inr (2, [.ref q_4, .int (nI ([] : List Int32).length)])), (q_4, .inl (cA_2, 400, .inl (fun _ => 0))), (q_5, .inr (1, [.ref a_1, .int (nI ([] : List Int32).length)])), (a_1, .inl (cA_3, 200, .inl (fun _ => 0))), (q_6, .inr (1, [.ref a_2, .int (nI ([] : List Int32).length)])), (a_2, .inl (cA_4, 200, .inl (fun _ => 0))), (q_7, .inr (1, [.ref a_3, .int (nI ([] : List Int32).length)])), (a_3, .inl (cA_5, 200, .inl (fun _ => 0))), (q_8, .inr (1, [.ref a_4, .int (nI ([] : List Int32).length)])), (a_4, .inl (cA_6, 200, .inl (fun _ => 0))), (q_9, .inr (1, [.ref a_5, .int (nI ([] : List Int32).length)])), (a_5, .inl (cA_7, 200, .inl (fun _ => 0)))] H := hP.sub [0, 1, 2, 3, 4, 5, 6, 7, 8, 9, 10, 11, 12, 13, 14] rfl
  have hD : va_D A [(h, .inr (3, [.ref q_1, .ref q_3, .ref q_5, .ref q_6, .ref q_7, .ref q_8, .null, .null, .null, .null, .int 0])), (q_1, .inr (2, [.ref q_2, .int (nI ([] : List Int32).length)])), (q_2, .inl (cA_1, 200, .inl (fun _ => 0))), (q_3, .inr (2, [.ref q_4, .int (nI ([] : List Int32).length)])), (q_4, .inl (cA_2, 400, .inl (fun _ => 0))), (q_5, .inr (1, [.ref a_1, .int (nI ([] : List Int32).length)])), (a_1, .inl (cA_3, 200, .inl (fun _ => 0))), (q_6, .inr (1, [.ref a_2, .int (nI ([] : List Int32).length)])), (a_2, .inl (cA_4, 200, .inl (fun _ => 0))), (q_7, .inr (1, [.ref a_3, .int (nI ([] : List Int32).length)])), (a_3, .inl (cA_5, 200, .inl (fun _ => 0))), (q_8, .inr (1, [.ref a_4, .int (nI ([] : List Int32).length)])), (a_4, .inl (cA_6, 200, .inl (fun _ => 0))), (q_9, .inr (1, [.ref a_5, .int (nI ([] : List Int32).length)])), (a_5, .inl (cA_7, 200, .inl (fun _ => 0)))] := hD.sub [0, 1, 2, 3, 4, 5, 6, 7, 8, 9, 10, 11, 12, 13, 14] (by decide) rfl
  have hK : va_K D vwCl [(cA_1, .byte), (cA_2, .byte), (cA_3, .int), (cA_4, .int), (cA_5, .int), (cA_6, .int), (cA_7, .int)] s := hK
  refine W.widen (k := 14) (n := 1614) (Nat.le_of_ble_eq_true rfl) (Nat.le_of_ble_eq_true rfl) ?_
  refine va_putF (D := D) (ci := 3) (v := .ref q_9) (ty := .object "CharacterRows$Codes") (C := RX2) (T := TX2) (N := 11) hx hb hts (by decide +kernel) tyX2 tyX2_ok nmX2 hown hK hP hD hS 0 rfl rfl 6 (by decide) (hts (.fieldLink RX2 37 "CharacterRows" "otherApart" "LCharacterRows$Codes;") (by decide +kernel)) (fun _ h9 => h9) rfl hnm rfl (by decide +kernel) rfl rfl (Nat.le_of_ble_eq_true rfl) dX2_init_88 (fun H locs hP hD hS => ?_)
  have hP : va_P D vwCl [(h, .inr (3, [.ref q_1, .ref q_3, .ref q_5, .ref q_6, .ref q_7, .ref q_8, .ref q_9, .null, .null, .null, .int 0])), (q_1, .inr (2, [.ref q_2, .int (nI ([] : List Int32).length)])), (q_2, .inl (cA_1, 200, .inl (fun _ => 0))), (q_3, .inr (2, [.ref q_4, .int (nI ([] : List Int32).length)])), (q_4, .inl (cA_2, 400, .inl (fun _ => 0))), (q_5, .inr (1, [.ref a_1, .int (nI ([] : List Int32).length)])), (a_1, .inl (cA_3, 200, .inl (fun _ => 0))), (q_6, .inr (1, [.ref a_2, .int (nI ([] : List Int32).length)])), (a_2, .inl (cA_4, 200, .inl (fun _ => 0))), (q_7, .inr (1, [.ref a_3, .int (nI ([] : List Int32).length)])), (a_3, .inl (cA_5, 200, .inl (fun _ => 0))), (q_8, .inr (1, [.ref a_4, .int (nI ([] : List Int32).length)])), (a_4, .inl (cA_6, 200, .inl (fun _ => 0))), (q_9, .inr (1, [.ref a_5, .int (nI ([] : List Int32).length)])), (a_5, .inl (cA_7, 200, .inl (fun _ => 0)))] H := hP
  have hD : va_D A [(h, .inr (3, [.ref q_1, .ref q_3, .ref q_5, .ref q_6, .ref q_7, .ref q_8, .ref q_9, .null, .null, .null, .int 0])), (q_1, .inr (2, [.ref q_2, .int (nI ([] : List Int32).length)])), (q_2, .inl (cA_1, 200, .inl (fun _ => 0))), (q_3, .inr (2, [.ref q_4, .int (nI ([] : List Int32).length)])), (q_4, .inl (cA_2, 400, .inl (fun _ => 0))), (q_5, .inr (1, [.ref a_1, .int (nI ([] : List Int32).length)])), (a_1, .inl (cA_3, 200, .inl (fun _ => 0))), (q_6, .inr (1, [.ref a_2, .int (nI ([] : List Int32).length)])), (a_2, .inl (cA_4, 200, .inl (fun _ => 0))), (q_7, .inr (1, [.ref a_3, .int (nI ([] : List Int32).length)])), (a_3, .inl (cA_5, 200, .inl (fun _ => 0))), (q_8, .inr (1, [.ref a_4, .int (nI ([] : List Int32).length)])), (a_4, .inl (cA_6, 200, .inl (fun _ => 0))), (q_9, .inr (1, [.ref a_5, .int (nI ([] : List Int32).length)])), (a_5, .inl (cA_7, 200, .inl (fun _ => 0)))] := hD
  refine lv_aload_n hx hb dX2_init_91 rfl (lv_at hl 0 rfl) ?_
  refine va_new (ci := 1) (fs := [.null, .int 0]) (C := RX0) (T := TX0) (N := 2) hx hb hts (by decide +kernel) tyX0 tyX0_ok hown (hts (.classLink RX2 21 RX0) (by decide +kernel)) (hts (.instantiable RX0 2) (by decide +kernel)) (hts (.initialized RX0) (by decide +kernel)) hK hP hD hS hA rfl (fun j hj => by rcases (show j = 0 ∨ j = 1 by omega) with rfl | rfl <;> rfl) (Nat.le_of_ble_eq_true rfl) (Nat.le_of_ble_eq_true rfl) dX2_init_92 (fun q_10 H hP hD hS => ?_)
  have hP : va_P D vwCl [(h, .inr (3, [.ref q_1, .ref q_3, .ref q_5, .ref q_6, .ref q_7, .ref q_8, .ref q_9, .null, .null, .null, .int 0])), (q_1, .inr (2, [.ref q_2, .int (nI ([] : List Int32).length)])), (q_2, .inl (cA_1, 200, .inl (fun _ => 0))), (q_3, .inr (2, [.ref q_4, .int (nI ([] : List Int32).length)])), (q_4, .inl (cA_2, 400, .inl (fun _ => 0))), (q_5, .inr (1, [.ref a_1, .int (nI ([] : List Int32).length)])), (a_1, .inl (cA_3, 200, .inl (fun _ => 0))), (q_6, .inr (1, [.ref a_2, .int (nI ([] : List Int32).length)])), (a_2, .inl (cA_4, 200, .inl (fun _ => 0))), (q_7, .inr (1, [.ref a_3, .int (nI ([] : List Int32).length)])), (a_3, .inl (cA_5, 200, .inl (fun _ => 0))), (q_8, .inr (1, [.ref a_4, .int (nI ([] : List Int32).length)])), (a_4, .inl (cA_6, 200, .inl (fun _ => 0))), (q_9, .inr (1, [.ref a_5, .int (nI ([] : List Int32).length)])), (a_5, .inl (cA_7, 200, .inl (fun _ => 0))), (q_10, .inr (1, [.null, .int 0]))] H := hP
  have hD : va_D A [(h, .inr (3, [.ref q_1, .ref q_3, .ref q_5, .ref q_6, .ref q_7, .ref q_8, .ref q_9, .null, .null, .null, .int 0])), (q_1, .inr (2, [.ref q_2, .int (nI ([] : List Int32).length)])), (q_2, .inl (cA_1, 200, .inl (fun _ => 0))), (q_3, .inr (2, [.ref q_4, .int (nI ([] : List Int32).length)])), (q_4, .inl (cA_2, 400, .inl (fun _ => 0))), (q_5, .inr (1, [.ref a_1, .int (nI ([] : List Int32).length)])), (a_1, .inl (cA_3, 200, .inl (fun _ => 0))), (q_6, .inr (1, [.ref a_2, .int (nI ([] : List Int32).length)])), (a_2, .inl (cA_4, 200, .inl (fun _ => 0))), (q_7, .inr (1, [.ref a_3, .int (nI ([] : List Int32).length)])), (a_3, .inl (cA_5, 200, .inl (fun _ => 0))), (q_8, .inr (1, [.ref a_4, .int (nI ([] : List Int32).length)])), (a_4, .inl (cA_6, 200, .inl (fun _ => 0))), (q_9, .inr (1, [.ref a_5, .int (nI ([] : List Int32).length)])), (a_5, .inl (cA_7, 200, .inl (fun _ => 0))), (q_10, .inr (1, [.null, .int 0]))] := hD
  refine W.widen (k := 15) (n := 1616) (Nat.le_of_ble_eq_true rfl) (Nat.le_of_ble_eq_true rfl) ?_
  refine lv_dup hx hb dX2_init_95 rfl ?_
  refine clK (wr := [(h, .inr (3, [.ref q_1, .ref q_3, .ref q_5, .ref q_6, .ref q_7, .ref q_8, .ref q_9, .null, .null, .null, .int 0])), (q_1, .inr (2, [.ref q_2, .int (nI ([] : List Int32).length)])), (q_2, .inl (cA_1, 200, .inl (fun _ => 0))), (q_3, .inr (2, [.ref q_4, .int (nI ([] : List Int32).length)])), (q_4, .inl (cA_2, 400, .inl (fun _ => 0))), (q_5, .inr (1, [.ref a_1, .int (nI ([] : List Int32).length)])), (a_1, .inl (cA_3, 200, .inl (fun _ => 0))), (q_6, .inr (1, [.ref a_2, .int (nI ([] : List Int32).length)])), (a_2, .inl (cA_4, 200, .inl (fun _ => 0))), (q_7, .inr (1, [.ref a_3, .int (nI ([] : List Int32).length)])), (a_3, .inl (cA_5, 200, .inl (fun _ => 0))), (q_8, .inr (1, [.ref a_4, .int (nI ([] : List Int32).length)])), (a_4, .inl (cA_6, 200, .inl (fun _ => 0))), (q_9, .inr (1, [.ref a_5, .int (nI ([] : List Int32).length)])), (a_5, .inl (cA_7, 200, .inl (fun _ => 0)))]) (va_runI ⟨hx, hb, hml, hown, hts⟩ (KX0_init l D q_10 _) (cwI 0 hts gX2_init_X0_init rfl rfl rfl (hts (.initialized RX0) (by decide +kernel)) (hts (.methodLink RX2 23 yX0_init) (by decide +kernel)) (hts (.instanceMethod yX0_init) (by decide +kernel)) rfl (by decide +kernel) ⟨Nat.le_of_ble_eq_true rfl, Nat.le_of_ble_eq_true rfl⟩) (pcM_S (hP.sub (ws' := [(q_10, .inr (1, [.null, .int 0]))]) [15] rfl) (hD.sub (ws' := [(q_10, .inr (1, [.null, .int 0]))]) [15] (by decide) rfl) (hK.sub (tys' := []) [] rfl) hN) rfl rfl hl.1 rfl (lv_room (Nat.le_of_ble_eq_true rfl)) dX2_init_96 ⟨Nat.le_of_ble_eq_true rfl, Nat.le_of_ble_eq_true rfl⟩) hP hD hS hA hK [15] [0, 1, 2, 3, 4, 5, 6, 7, 8, 9, 10, 11, 12, 13, 14] rfl rfl (by decide) (by decide) (fun u_6 H locs _ hP hD hS hK => ?_)
  obtain ⟨a_6, cA_8⟩ := u_6
  have hP : va_P D vwCl [(h, .inr (3, [.ref q_1, .ref q_3, .ref q_5, .ref q_6, .ref q_7, .ref q_8, .ref q_9, .null, .null, .null, .int 0])), (q_1, .inr (2, [.ref q_2, .int (nI ([] : List Int32).length)])), (q_2, .inl (cA_1, 200, .inl (fun _ => 0))), (q_3, .inr (2, [.ref q_4, .int (nI ([] : List Int32).length)])), (q_4, .inl (cA_2, 400, .inl (fun _ => 0))), (q_5, .inr (1, [.ref a_1, .int (nI ([] : List Int32).length)])), (a_1, .inl (cA_3, 200, .inl (fun _ => 0))), (q_6, .inr (1, [.ref a_2, .int (nI ([] : List Int32).length)])), (a_2, .inl (cA_4, 200, .inl (fun _ => 0))), (q_7, .inr (1, [.ref a_3, .int (nI ([] : List Int32).length)])), (a_3, .inl (cA_5, 200, .inl (fun _ => 0))), (q_8, .inr (1, [.ref a_4, .int (nI ([] : List Int32).length)])), (a_4, .inl (cA_6, 200, .inl (fun _ => 0))), (q_9, .inr (1, [.ref a_5, .int (nI ([] : List Int32).length)])), (a_5, .inl (cA_7, 200, .inl (fun _ => 0))), (q_10, .inr (1, [.ref a_6, .int (nI ([] : List Int32).length)])), (a_6, .inl (cA_8, 200, .inl (fun _ => 0)))] H := hP.sub [0, 1, 2, 3, 4, 5, 6, 7, 8, 9, 10, 11, 12, 13, 14, 15, 16] rfl
  have hD : va_D A [(h, .inr (3, [.ref q_1, .ref q_3, .ref q_5, .ref q_6, .ref q_7, .ref q_8, .ref q_9, .null, .null, .null, .int 0])), (q_1, .inr (2, [.ref q_2, .int (nI ([] : List Int32).length)])), (q_2, .inl (cA_1, 200, .inl (fun _ => 0))), (q_3, .inr (2, [.ref q_4, .int (nI ([] : List Int32).length)])), (q_4, .inl (cA_2, 400, .inl (fun _ => 0))), (q_5, .inr (1, [.ref a_1, .int (nI ([] : List Int32).length)])), (a_1, .inl (cA_3, 200, .inl (fun _ => 0))), (q_6, .inr (1, [.ref a_2, .int (nI ([] : List Int32).length)])), (a_2, .inl (cA_4, 200, .inl (fun _ => 0))), (q_7, .inr (1, [.ref a_3, .int (nI ([] : List Int32).length)])), (a_3, .inl (cA_5, 200, .inl (fun _ => 0))), (q_8, .inr (1, [.ref a_4, .int (nI ([] : List Int32).length)])), (a_4, .inl (cA_6, 200, .inl (fun _ => 0))), (q_9, .inr (1, [.ref a_5, .int (nI ([] : List Int32).length)])), (a_5, .inl (cA_7, 200, .inl (fun _ => 0))), (q_10, .inr (1, [.ref a_6, .int (nI ([] : List Int32).length)])), (a_6, .inl (cA_8, 200, .inl (fun _ => 0)))] := hD.sub [0, 1, 2, 3, 4, 5, 6, 7, 8, 9, 10, 11, 12, 13, 14, 15, 16] (by decide) rfl
  have hK : va_K D vwCl [(cA_1, .byte), (cA_2, .byte), (cA_3, .int), (cA_4, .int), (cA_5, .int), (cA_6, .int), (cA_7, .int), (cA_8, .int)] s := hK
  refine W.widen (k := 16) (n := 1816) (Nat.le_of_ble_eq_true rfl) (Nat.le_of_ble_eq_true rfl) ?_
  refine va_putF (D := D) (ci := 3) (v := .ref q_10) (ty := .object "CharacterRows$Codes") (C := RX2) (T := TX2) (N := 11) hx hb hts (by decide +kernel) tyX2 tyX2_ok nmX2 hown hK hP hD hS 0 rfl rfl 7 (by decide) (hts (.fieldLink RX2 40 "CharacterRows" "waitingMarks" "LCharacterRows$Codes;") (by decide +kernel)) (fun _ h9 => h9) rfl hnm rfl (by decide +kernel) rfl rfl (Nat.le_of_ble_eq_true rfl) dX2_init_99 (fun H locs hP hD hS => ?_)
  have hP : va_P D vwCl [(h, .inr (3, [.ref q_1, .ref q_3, .ref q_5, .ref q_6, .ref q_7, .ref q_8, .ref q_9, .ref q_10, .null, .null, .int 0])), (q_1, .inr (2, [.ref q_2, .int (nI ([] : List Int32).length)])), (q_2, .inl (cA_1, 200, .inl (fun _ => 0))), (q_3, .inr (2, [.ref q_4, .int (nI ([] : List Int32).length)])), (q_4, .inl (cA_2, 400, .inl (fun _ => 0))), (q_5, .inr (1, [.ref a_1, .int (nI ([] : List Int32).length)])), (a_1, .inl (cA_3, 200, .inl (fun _ => 0))), (q_6, .inr (1, [.ref a_2, .int (nI ([] : List Int32).length)])), (a_2, .inl (cA_4, 200, .inl (fun _ => 0))), (q_7, .inr (1, [.ref a_3, .int (nI ([] : List Int32).length)])), (a_3, .inl (cA_5, 200, .inl (fun _ => 0))), (q_8, .inr (1, [.ref a_4, .int (nI ([] : List Int32).length)])), (a_4, .inl (cA_6, 200, .inl (fun _ => 0))), (q_9, .inr (1, [.ref a_5, .int (nI ([] : List Int32).length)])), (a_5, .inl (cA_7, 200, .inl (fun _ => 0))), (q_10, .inr (1, [.ref a_6, .int (nI ([] : List Int32).length)])), (a_6, .inl (cA_8, 200, .inl (fun _ => 0)))] H := hP
  have hD : va_D A [(h, .inr (3, [.ref q_1, .ref q_3, .ref q_5, .ref q_6, .ref q_7, .ref q_8, .ref q_9, .ref q_10, .null, .null, .int 0])), (q_1, .inr (2, [.ref q_2, .int (nI ([] : List Int32).length)])), (q_2, .inl (cA_1, 200, .inl (fun _ => 0))), (q_3, .inr (2, [.ref q_4, .int (nI ([] : List Int32).length)])), (q_4, .inl (cA_2, 400, .inl (fun _ => 0))), (q_5, .inr (1, [.ref a_1, .int (nI ([] : List Int32).length)])), (a_1, .inl (cA_3, 200, .inl (fun _ => 0))), (q_6, .inr (1, [.ref a_2, .int (nI ([] : List Int32).length)])), (a_2, .inl (cA_4, 200, .inl (fun _ => 0))), (q_7, .inr (1, [.ref a_3, .int (nI ([] : List Int32).length)])), (a_3, .inl (cA_5, 200, .inl (fun _ => 0))), (q_8, .inr (1, [.ref a_4, .int (nI ([] : List Int32).length)])), (a_4, .inl (cA_6, 200, .inl (fun _ => 0))), (q_9, .inr (1, [.ref a_5, .int (nI ([] : List Int32).length)])), (a_5, .inl (cA_7, 200, .inl (fun _ => 0))), (q_10, .inr (1, [.ref a_6, .int (nI ([] : List Int32).length)])), (a_6, .inl (cA_8, 200, .inl (fun _ => 0)))] := hD
  refine lv_aload_n hx hb dX2_init_102 rfl (lv_at hl 0 rfl) ?_
  refine va_new (ci := 1) (fs := [.null, .int 0]) (C := RX0) (T := TX0) (N := 2) hx hb hts (by decide +kernel) tyX0 tyX0_ok hown (hts (.classLink RX2 21 RX0) (by decide +kernel)) (hts (.instantiable RX0 2) (by decide +kernel)) (hts (.initialized RX0) (by decide +kernel)) hK hP hD hS hA rfl (fun j hj => by rcases (show j = 0 ∨ j = 1 by omega) with rfl | rfl <;> rfl) (Nat.le_of_ble_eq_true rfl) (Nat.le_of_ble_eq_true rfl) dX2_init_103 (fun q_11 H hP hD hS => ?_)
  have hP : va_P D vwCl [(h, .inr (3, [.ref q_1, .ref q_3, .ref q_5, .ref q_6, .ref q_7, .ref q_8, .ref q_9, .ref q_10, .null, .null, .int 0])), (q_1, .inr (2, [.ref q_2, .int (nI ([] : List Int32).length)])), (q_2, .inl (cA_1, 200, .inl (fun _ => 0))), (q_3, .inr (2, [.ref q_4, .int (nI ([] : List Int32).length)])), (q_4, .inl (cA_2, 400, .inl (fun _ => 0))), (q_5, .inr (1, [.ref a_1, .int (nI ([] : List Int32).length)])), (a_1, .inl (cA_3, 200, .inl (fun _ => 0))), (q_6, .inr (1, [.ref a_2, .int (nI ([] : List Int32).length)])), (a_2, .inl (cA_4, 200, .inl (fun _ => 0))), (q_7, .inr (1, [.ref a_3, .int (nI ([] : List Int32).length)])), (a_3, .inl (cA_5, 200, .inl (fun _ => 0))), (q_8, .inr (1, [.ref a_4, .int (nI ([] : List Int32).length)])), (a_4, .inl (cA_6, 200, .inl (fun _ => 0))), (q_9, .inr (1, [.ref a_5, .int (nI ([] : List Int32).length)])), (a_5, .inl (cA_7, 200, .inl (fun _ => 0))), (q_10, .inr (1, [.ref a_6, .int (nI ([] : List Int32).length)])), (a_6, .inl (cA_8, 200, .inl (fun _ => 0))), (q_11, .inr (1, [.null, .int 0]))] H := hP
  have hD : va_D A [(h, .inr (3, [.ref q_1, .ref q_3, .ref q_5, .ref q_6, .ref q_7, .ref q_8, .ref q_9, .ref q_10, .null, .null, .int 0])), (q_1, .inr (2, [.ref q_2, .int (nI ([] : List Int32).length)])), (q_2, .inl (cA_1, 200, .inl (fun _ => 0))), (q_3, .inr (2, [.ref q_4, .int (nI ([] : List Int32).length)])), (q_4, .inl (cA_2, 400, .inl (fun _ => 0))), (q_5, .inr (1, [.ref a_1, .int (nI ([] : List Int32).length)])), (a_1, .inl (cA_3, 200, .inl (fun _ => 0))), (q_6, .inr (1, [.ref a_2, .int (nI ([] : List Int32).length)])), (a_2, .inl (cA_4, 200, .inl (fun _ => 0))), (q_7, .inr (1, [.ref a_3, .int (nI ([] : List Int32).length)])), (a_3, .inl (cA_5, 200, .inl (fun _ => 0))), (q_8, .inr (1, [.ref a_4, .int (nI ([] : List Int32).length)])), (a_4, .inl (cA_6, 200, .inl (fun _ => 0))), (q_9, .inr (1, [.ref a_5, .int (nI ([] : List Int32).length)])), (a_5, .inl (cA_7, 200, .inl (fun _ => 0))), (q_10, .inr (1, [.ref a_6, .int (nI ([] : List Int32).length)])), (a_6, .inl (cA_8, 200, .inl (fun _ => 0))), (q_11, .inr (1, [.null, .int 0]))] := hD
  refine W.widen (k := 17) (n := 1818) (Nat.le_of_ble_eq_true rfl) (Nat.le_of_ble_eq_true rfl) ?_
  refine lv_dup hx hb dX2_init_106 rfl ?_
  refine clK (wr := [(h, .inr (3, [.ref q_1, .ref q_3, .ref q_5, .ref q_6, .ref q_7, .ref q_8, .ref q_9, .ref q_10, .null, .null, .int 0])), (q_1, .inr (2, [.ref q_2, .int (nI ([] : List Int32).length)])), (q_2, .inl (cA_1, 200, .inl (fun _ => 0))), (q_3, .inr (2, [.ref q_4, .int (nI ([] : List Int32).length)])), (q_4, .inl (cA_2, 400, .inl (fun _ => 0))), (q_5, .inr (1, [.ref a_1, .int (nI ([] : List Int32).length)])), (a_1, .inl (cA_3, 200, .inl (fun _ => 0))), (q_6, .inr (1, [.ref a_2, .int (nI ([] : List Int32).length)])), (a_2, .inl (cA_4, 200, .inl (fun _ => 0))), (q_7, .inr (1, [.ref a_3, .int (nI ([] : List Int32).length)])), (a_3, .inl (cA_5, 200, .inl (fun _ => 0))), (q_8, .inr (1, [.ref a_4, .int (nI ([] : List Int32).length)])), (a_4, .inl (cA_6, 200, .inl (fun _ => 0))), (q_9, .inr (1, [.ref a_5, .int (nI ([] : List Int32).length)])), (a_5, .inl (cA_7, 200, .inl (fun _ => 0))), (q_10, .inr (1, [.ref a_6, .int (nI ([] : List Int32).length)])), (a_6, .inl (cA_8, 200, .inl (fun _ => 0)))]) (va_runI ⟨hx, hb, hml, hown, hts⟩ (KX0_init l D q_11 _) (cwI 0 hts gX2_init_X0_init rfl rfl rfl (hts (.initialized RX0) (by decide +kernel)) (hts (.methodLink RX2 23 yX0_init) (by decide +kernel)) (hts (.instanceMethod yX0_init) (by decide +kernel)) rfl (by decide +kernel) ⟨Nat.le_of_ble_eq_true rfl, Nat.le_of_ble_eq_true rfl⟩) (pcM_S (hP.sub (ws' := [(q_11, .inr (1, [.null, .int 0]))]) [17] rfl) (hD.sub (ws' := [(q_11, .inr (1, [.null, .int 0]))]) [17] (by decide) rfl) (hK.sub (tys' := []) [] rfl) hN) rfl rfl hl.1 rfl (lv_room (Nat.le_of_ble_eq_true rfl)) dX2_init_107 ⟨Nat.le_of_ble_eq_true rfl, Nat.le_of_ble_eq_true rfl⟩) hP hD hS hA hK [17] [0, 1, 2, 3, 4, 5, 6, 7, 8, 9, 10, 11, 12, 13, 14, 15, 16] rfl rfl (by decide) (by decide) (fun u_7 H locs _ hP hD hS hK => ?_)
  obtain ⟨a_7, cA_9⟩ := u_7
  have hP : va_P D vwCl [(h, .inr (3, [.ref q_1, .ref q_3, .ref q_5, .ref q_6, .ref q_7, .ref q_8, .ref q_9, .ref q_10, .null, .null, .int 0])), (q_1, .inr (2, [.ref q_2, .int (nI ([] : List Int32).length)])), (q_2, .inl (cA_1, 200, .inl (fun _ => 0))), (q_3, .inr (2, [.ref q_4, .int (nI ([] : List Int32).length)])), (q_4, .inl (cA_2, 400, .inl (fun _ => 0))), (q_5, .inr (1, [.ref a_1, .int (nI ([] : List Int32).length)])), (a_1, .inl (cA_3, 200, .inl (fun _ => 0))), (q_6, .inr (1, [.ref a_2, .int (nI ([] : List Int32).length)])), (a_2, .inl (cA_4, 200, .inl (fun _ => 0))), (q_7, .inr (1, [.ref a_3, .int (nI ([] : List Int32).length)])), (a_3, .inl (cA_5, 200, .inl (fun _ => 0))), (q_8, .inr (1, [.ref a_4, .int (nI ([] : List Int32).length)])), (a_4, .inl (cA_6, 200, .inl (fun _ => 0))), (q_9, .inr (1, [.ref a_5, .int (nI ([] : List Int32).length)])), (a_5, .inl (cA_7, 200, .inl (fun _ => 0))), (q_10, .inr (1, [.ref a_6, .int (nI ([] : List Int32).length)])), (a_6, .inl (cA_8, 200, .inl (fun _ => 0))), (q_11, .inr (1, [.ref a_7, .int (nI ([] : List Int32).length)])), (a_7, .inl (cA_9, 200, .inl (fun _ => 0)))] H := hP.sub [0, 1, 2, 3, 4, 5, 6, 7, 8, 9, 10, 11, 12, 13, 14, 15, 16, 17, 18] rfl
  have hD : va_D A [(h, .inr (3, [.ref q_1, .ref q_3, .ref q_5, .ref q_6, .ref q_7, .ref q_8, .ref q_9, .ref q_10, .null, .null, .int 0])), (q_1, .inr (2, [.ref q_2, .int (nI ([] : List Int32).length)])), (q_2, .inl (cA_1, 200, .inl (fun _ => 0))), (q_3, .inr (2, [.ref q_4, .int (nI ([] : List Int32).length)])), (q_4, .inl (cA_2, 400, .inl (fun _ => 0))), (q_5, .inr (1, [.ref a_1, .int (nI ([] : List Int32).length)])), (a_1, .inl (cA_3, 200, .inl (fun _ => 0))), (q_6, .inr (1, [.ref a_2, .int (nI ([] : List Int32).length)])), (a_2, .inl (cA_4, 200, .inl (fun _ => 0))), (q_7, .inr (1, [.ref a_3, .int (nI ([] : List Int32).length)])), (a_3, .inl (cA_5, 200, .inl (fun _ => 0))), (q_8, .inr (1, [.ref a_4, .int (nI ([] : List Int32).length)])), (a_4, .inl (cA_6, 200, .inl (fun _ => 0))), (q_9, .inr (1, [.ref a_5, .int (nI ([] : List Int32).length)])), (a_5, .inl (cA_7, 200, .inl (fun _ => 0))), (q_10, .inr (1, [.ref a_6, .int (nI ([] : List Int32).length)])), (a_6, .inl (cA_8, 200, .inl (fun _ => 0))), (q_11, .inr (1, [.ref a_7, .int (nI ([] : List Int32).length)])), (a_7, .inl (cA_9, 200, .inl (fun _ => 0)))] := hD.sub [0, 1, 2, 3, 4, 5, 6, 7, 8, 9, 10, 11, 12, 13, 14, 15, 16, 17, 18] (by decide) rfl
  have hK : va_K D vwCl [(cA_1, .byte), (cA_2, .byte), (cA_3, .int), (cA_4, .int), (cA_5, .int), (cA_6, .int), (cA_7, .int), (cA_8, .int), (cA_9, .int)] s := hK
  refine W.widen (k := 18) (n := 2018) (Nat.le_of_ble_eq_true rfl) (Nat.le_of_ble_eq_true rfl) ?_
  refine va_putF (D := D) (ci := 3) (v := .ref q_11) (ty := .object "CharacterRows$Codes") (C := RX2) (T := TX2) (N := 11) hx hb hts (by decide +kernel) tyX2 tyX2_ok nmX2 hown hK hP hD hS 0 rfl rfl 8 (by decide) (hts (.fieldLink RX2 43 "CharacterRows" "toldCodes" "LCharacterRows$Codes;") (by decide +kernel)) (fun _ h9 => h9) rfl hnm rfl (by decide +kernel) rfl rfl (Nat.le_of_ble_eq_true rfl) dX2_init_110 (fun H locs hP hD hS => ?_)
  have hP : va_P D vwCl [(h, .inr (3, [.ref q_1, .ref q_3, .ref q_5, .ref q_6, .ref q_7, .ref q_8, .ref q_9, .ref q_10, .ref q_11, .null, .int 0])), (q_1, .inr (2, [.ref q_2, .int (nI ([] : List Int32).length)])), (q_2, .inl (cA_1, 200, .inl (fun _ => 0))), (q_3, .inr (2, [.ref q_4, .int (nI ([] : List Int32).length)])), (q_4, .inl (cA_2, 400, .inl (fun _ => 0))), (q_5, .inr (1, [.ref a_1, .int (nI ([] : List Int32).length)])), (a_1, .inl (cA_3, 200, .inl (fun _ => 0))), (q_6, .inr (1, [.ref a_2, .int (nI ([] : List Int32).length)])), (a_2, .inl (cA_4, 200, .inl (fun _ => 0))), (q_7, .inr (1, [.ref a_3, .int (nI ([] : List Int32).length)])), (a_3, .inl (cA_5, 200, .inl (fun _ => 0))), (q_8, .inr (1, [.ref a_4, .int (nI ([] : List Int32).length)])), (a_4, .inl (cA_6, 200, .inl (fun _ => 0))), (q_9, .inr (1, [.ref a_5, .int (nI ([] : List Int32).length)])), (a_5, .inl (cA_7, 200, .inl (fun _ => 0))), (q_10, .inr (1, [.ref a_6, .int (nI ([] : List Int32).length)])), (a_6, .inl (cA_8, 200, .inl (fun _ => 0))), (q_11, .inr (1, [.ref a_7, .int (nI ([] : List Int32).length)])), (a_7, .inl (cA_9, 200, .inl (fun _ => 0)))] H := hP
  have hD : va_D A [(h, .inr (3, [.ref q_1, .ref q_3, .ref q_5, .ref q_6, .ref q_7, .ref q_8, .ref q_9, .ref q_10, .ref q_11, .null, .int 0])), (q_1, .inr (2, [.ref q_2, .int (nI ([] : List Int32).length)])), (q_2, .inl (cA_1, 200, .inl (fun _ => 0))), (q_3, .inr (2, [.ref q_4, .int (nI ([] : List Int32).length)])), (q_4, .inl (cA_2, 400, .inl (fun _ => 0))), (q_5, .inr (1, [.ref a_1, .int (nI ([] : List Int32).length)])), (a_1, .inl (cA_3, 200, .inl (fun _ => 0))), (q_6, .inr (1, [.ref a_2, .int (nI ([] : List Int32).length)])), (a_2, .inl (cA_4, 200, .inl (fun _ => 0))), (q_7, .inr (1, [.ref a_3, .int (nI ([] : List Int32).length)])), (a_3, .inl (cA_5, 200, .inl (fun _ => 0))), (q_8, .inr (1, [.ref a_4, .int (nI ([] : List Int32).length)])), (a_4, .inl (cA_6, 200, .inl (fun _ => 0))), (q_9, .inr (1, [.ref a_5, .int (nI ([] : List Int32).length)])), (a_5, .inl (cA_7, 200, .inl (fun _ => 0))), (q_10, .inr (1, [.ref a_6, .int (nI ([] : List Int32).length)])), (a_6, .inl (cA_8, 200, .inl (fun _ => 0))), (q_11, .inr (1, [.ref a_7, .int (nI ([] : List Int32).length)])), (a_7, .inl (cA_9, 200, .inl (fun _ => 0)))] := hD
  refine lv_aload_n hx hb dX2_init_113 rfl (lv_at hl 0 rfl) ?_
  refine va_new (ci := 1) (fs := [.null, .int 0]) (C := RX0) (T := TX0) (N := 2) hx hb hts (by decide +kernel) tyX0 tyX0_ok hown (hts (.classLink RX2 21 RX0) (by decide +kernel)) (hts (.instantiable RX0 2) (by decide +kernel)) (hts (.initialized RX0) (by decide +kernel)) hK hP hD hS hA rfl (fun j hj => by rcases (show j = 0 ∨ j = 1 by omega) with rfl | rfl <;> rfl) (Nat.le_of_ble_eq_true rfl) (Nat.le_of_ble_eq_true rfl) dX2_init_114 (fun q_12 H hP hD hS => ?_)
  have hP : va_P D vwCl [(h, .inr (3, [.ref q_1, .ref q_3, .ref q_5, .ref q_6, .ref q_7, .ref q_8, .ref q_9, .ref q_10, .ref q_11, .null, .int 0])), (q_1, .inr (2, [.ref q_2, .int (nI ([] : List Int32).length)])), (q_2, .inl (cA_1, 200, .inl (fun _ => 0))), (q_3, .inr (2, [.ref q_4, .int (nI ([] : List Int32).length)])), (q_4, .inl (cA_2, 400, .inl (fun _ => 0))), (q_5, .inr (1, [.ref a_1, .int (nI ([] : List Int32).length)])), (a_1, .inl (cA_3, 200, .inl (fun _ => 0))), (q_6, .inr (1, [.ref a_2, .int (nI ([] : List Int32).length)])), (a_2, .inl (cA_4, 200, .inl (fun _ => 0))), (q_7, .inr (1, [.ref a_3, .int (nI ([] : List Int32).length)])), (a_3, .inl (cA_5, 200, .inl (fun _ => 0))), (q_8, .inr (1, [.ref a_4, .int (nI ([] : List Int32).length)])), (a_4, .inl (cA_6, 200, .inl (fun _ => 0))), (q_9, .inr (1, [.ref a_5, .int (nI ([] : List Int32).length)])), (a_5, .inl (cA_7, 200, .inl (fun _ => 0))), (q_10, .inr (1, [.ref a_6, .int (nI ([] : List Int32).length)])), (a_6, .inl (cA_8, 200, .inl (fun _ => 0))), (q_11, .inr (1, [.ref a_7, .int (nI ([] : List Int32).length)])), (a_7, .inl (cA_9, 200, .inl (fun _ => 0))), (q_12, .inr (1, [.null, .int 0]))] H := hP
  have hD : va_D A [(h, .inr (3, [.ref q_1, .ref q_3, .ref q_5, .ref q_6, .ref q_7, .ref q_8, .ref q_9, .ref q_10, .ref q_11, .null, .int 0])), (q_1, .inr (2, [.ref q_2, .int (nI ([] : List Int32).length)])), (q_2, .inl (cA_1, 200, .inl (fun _ => 0))), (q_3, .inr (2, [.ref q_4, .int (nI ([] : List Int32).length)])), (q_4, .inl (cA_2, 400, .inl (fun _ => 0))), (q_5, .inr (1, [.ref a_1, .int (nI ([] : List Int32).length)])), (a_1, .inl (cA_3, 200, .inl (fun _ => 0))), (q_6, .inr (1, [.ref a_2, .int (nI ([] : List Int32).length)])), (a_2, .inl (cA_4, 200, .inl (fun _ => 0))), (q_7, .inr (1, [.ref a_3, .int (nI ([] : List Int32).length)])), (a_3, .inl (cA_5, 200, .inl (fun _ => 0))), (q_8, .inr (1, [.ref a_4, .int (nI ([] : List Int32).length)])), (a_4, .inl (cA_6, 200, .inl (fun _ => 0))), (q_9, .inr (1, [.ref a_5, .int (nI ([] : List Int32).length)])), (a_5, .inl (cA_7, 200, .inl (fun _ => 0))), (q_10, .inr (1, [.ref a_6, .int (nI ([] : List Int32).length)])), (a_6, .inl (cA_8, 200, .inl (fun _ => 0))), (q_11, .inr (1, [.ref a_7, .int (nI ([] : List Int32).length)])), (a_7, .inl (cA_9, 200, .inl (fun _ => 0))), (q_12, .inr (1, [.null, .int 0]))] := hD
  refine W.widen (k := 19) (n := 2020) (Nat.le_of_ble_eq_true rfl) (Nat.le_of_ble_eq_true rfl) ?_
  refine lv_dup hx hb dX2_init_117 rfl ?_
  refine clK (wr := [(h, .inr (3, [.ref q_1, .ref q_3, .ref q_5, .ref q_6, .ref q_7, .ref q_8, .ref q_9, .ref q_10, .ref q_11, .null, .int 0])), (q_1, .inr (2, [.ref q_2, .int (nI ([] : List Int32).length)])), (q_2, .inl (cA_1, 200, .inl (fun _ => 0))), (q_3, .inr (2, [.ref q_4, .int (nI ([] : List Int32).length)])), (q_4, .inl (cA_2, 400, .inl (fun _ => 0))), (q_5, .inr (1, [.ref a_1, .int (nI ([] : List Int32).length)])), (a_1, .inl (cA_3, 200, .inl (fun _ => 0))), (q_6, .inr (1, [.ref a_2, .int (nI ([] : List Int32).length)])), (a_2, .inl (cA_4, 200, .inl (fun _ => 0))), (q_7, .inr (1, [.ref a_3, .int (nI ([] : List Int32).length)])), (a_3, .inl (cA_5, 200, .inl (fun _ => 0))), (q_8, .inr (1, [.ref a_4, .int (nI ([] : List Int32).length)])), (a_4, .inl (cA_6, 200, .inl (fun _ => 0))), (q_9, .inr (1, [.ref a_5, .int (nI ([] : List Int32).length)])), (a_5, .inl (cA_7, 200, .inl (fun _ => 0))), (q_10, .inr (1, [.ref a_6, .int (nI ([] : List Int32).length)])), (a_6, .inl (cA_8, 200, .inl (fun _ => 0))), (q_11, .inr (1, [.ref a_7, .int (nI ([] : List Int32).length)])), (a_7, .inl (cA_9, 200, .inl (fun _ => 0)))]) (va_runI ⟨hx, hb, hml, hown, hts⟩ (KX0_init l D q_12 _) (cwI 0 hts gX2_init_X0_init rfl rfl rfl (hts (.initialized RX0) (by decide +kernel)) (hts (.methodLink RX2 23 yX0_init) (by decide +kernel)) (hts (.instanceMethod yX0_init) (by decide +kernel)) rfl (by decide +kernel) ⟨Nat.le_of_ble_eq_true rfl, Nat.le_of_ble_eq_true rfl⟩) (pcM_S (hP.sub (ws' := [(q_12, .inr (1, [.null, .int 0]))]) [19] rfl) (hD.sub (ws' := [(q_12, .inr (1, [.null, .int 0]))]) [19] (by decide) rfl) (hK.sub (tys' := []) [] rfl) hN) rfl rfl hl.1 rfl (lv_room (Nat.le_of_ble_eq_true rfl)) dX2_init_118 ⟨Nat.le_of_ble_eq_true rfl, Nat.le_of_ble_eq_true rfl⟩) hP hD hS hA hK [19] [0, 1, 2, 3, 4, 5, 6, 7, 8, 9, 10, 11, 12, 13, 14, 15, 16, 17, 18] rfl rfl (by decide) (by decide) (fun u_8 H locs _ hP hD hS hK => ?_)
  obtain ⟨a_8, cA_10⟩ := u_8
  have hP : va_P D vwCl [(h, .inr (3, [.ref q_1, .ref q_3, .ref q_5, .ref q_6, .ref q_7, .ref q_8, .ref q_9, .ref q_10, .ref q_11, .null, .int 0])), (q_1, .inr (2, [.ref q_2, .int (nI ([] : List Int32).length)])), (q_2, .inl (cA_1, 200, .inl (fun _ => 0))), (q_3, .inr (2, [.ref q_4, .int (nI ([] : List Int32).length)])), (q_4, .inl (cA_2, 400, .inl (fun _ => 0))), (q_5, .inr (1, [.ref a_1, .int (nI ([] : List Int32).length)])), (a_1, .inl (cA_3, 200, .inl (fun _ => 0))), (q_6, .inr (1, [.ref a_2, .int (nI ([] : List Int32).length)])), (a_2, .inl (cA_4, 200, .inl (fun _ => 0))), (q_7, .inr (1, [.ref a_3, .int (nI ([] : List Int32).length)])), (a_3, .inl (cA_5, 200, .inl (fun _ => 0))), (q_8, .inr (1, [.ref a_4, .int (nI ([] : List Int32).length)])), (a_4, .inl (cA_6, 200, .inl (fun _ => 0))), (q_9, .inr (1, [.ref a_5, .int (nI ([] : List Int32).length)])), (a_5, .inl (cA_7, 200, .inl (fun _ => 0))), (q_10, .inr (1, [.ref a_6, .int (nI ([] : List Int32).length)])), (a_6, .inl (cA_8, 200, .inl (fun _ => 0))), (q_11, .inr (1, [.ref a_7, .int (nI ([] : List Int32).length)])), (a_7, .inl (cA_9, 200, .inl (fun _ => 0))), (q_12, .inr (1, [.ref a_8, .int (nI ([] : List Int32).length)])), (a_8, .inl (cA_10, 200, .inl (fun _ => 0)))] H := hP.sub [0, 1, 2, 3, 4, 5, 6, 7, 8, 9, 10, 11, 12, 13, 14, 15, 16, 17, 18, 19, 20] rfl
  have hD : va_D A [(h, .inr (3, [.ref q_1, .ref q_3, .ref q_5, .ref q_6, .ref q_7, .ref q_8, .ref q_9, .ref q_10, .ref q_11, .null, .int 0])), (q_1, .inr (2, [.ref q_2, .int (nI ([] : List Int32).length)])), (q_2, .inl (cA_1, 200, .inl (fun _ => 0))), (q_3, .inr (2, [.ref q_4, .int (nI ([] : List Int32).length)])), (q_4, .inl (cA_2, 400, .inl (fun _ => 0))), (q_5, .inr (1, [.ref a_1, .int (nI ([] : List Int32).length)])), (a_1, .inl (cA_3, 200, .inl (fun _ => 0))), (q_6, .inr (1, [.ref a_2, .int (nI ([] : List Int32).length)])), (a_2, .inl (cA_4, 200, .inl (fun _ => 0))), (q_7, .inr (1, [.ref a_3, .int (nI ([] : List Int32).length)])), (a_3, .inl (cA_5, 200, .inl (fun _ => 0))), (q_8, .inr (1, [.ref a_4, .int (nI ([] : List Int32).length)])), (a_4, .inl (cA_6, 200, .inl (fun _ => 0))), (q_9, .inr (1, [.ref a_5, .int (nI ([] : List Int32).length)])), (a_5, .inl (cA_7, 200, .inl (fun _ => 0))), (q_10, .inr (1, [.ref a_6, .int (nI ([] : List Int32).length)])), (a_6, .inl (cA_8, 200, .inl (fun _ => 0))), (q_11, .inr (1, [.ref a_7, .int (nI ([] : List Int32).length)])), (a_7, .inl (cA_9, 200, .inl (fun _ => 0))), (q_12, .inr (1, [.ref a_8, .int (nI ([] : List Int32).length)])), (a_8, .inl (cA_10, 200, .inl (fun _ => 0)))] := hD.sub [0, 1, 2, 3, 4, 5, 6, 7, 8, 9, 10, 11, 12, 13, 14, 15, 16, 17, 18, 19, 20] (by decide) rfl
  have hK : va_K D vwCl [(cA_1, .byte), (cA_2, .byte), (cA_3, .int), (cA_4, .int), (cA_5, .int), (cA_6, .int), (cA_7, .int), (cA_8, .int), (cA_9, .int), (cA_10, .int)] s := hK
  refine W.widen (k := 20) (n := 2220) (Nat.le_of_ble_eq_true rfl) (Nat.le_of_ble_eq_true rfl) ?_
  refine va_putF (D := D) (ci := 3) (v := .ref q_12) (ty := .object "CharacterRows$Codes") (C := RX2) (T := TX2) (N := 11) hx hb hts (by decide +kernel) tyX2 tyX2_ok nmX2 hown hK hP hD hS 0 rfl rfl 9 (by decide) (hts (.fieldLink RX2 46 "CharacterRows" "toldPlaces" "LCharacterRows$Codes;") (by decide +kernel)) (fun _ h9 => h9) rfl hnm rfl (by decide +kernel) rfl rfl (Nat.le_of_ble_eq_true rfl) dX2_init_121 (fun H locs hP hD hS => ?_)
  have hP : va_P D vwCl [(h, .inr (3, [.ref q_1, .ref q_3, .ref q_5, .ref q_6, .ref q_7, .ref q_8, .ref q_9, .ref q_10, .ref q_11, .ref q_12, .int 0])), (q_1, .inr (2, [.ref q_2, .int (nI ([] : List Int32).length)])), (q_2, .inl (cA_1, 200, .inl (fun _ => 0))), (q_3, .inr (2, [.ref q_4, .int (nI ([] : List Int32).length)])), (q_4, .inl (cA_2, 400, .inl (fun _ => 0))), (q_5, .inr (1, [.ref a_1, .int (nI ([] : List Int32).length)])), (a_1, .inl (cA_3, 200, .inl (fun _ => 0))), (q_6, .inr (1, [.ref a_2, .int (nI ([] : List Int32).length)])), (a_2, .inl (cA_4, 200, .inl (fun _ => 0))), (q_7, .inr (1, [.ref a_3, .int (nI ([] : List Int32).length)])), (a_3, .inl (cA_5, 200, .inl (fun _ => 0))), (q_8, .inr (1, [.ref a_4, .int (nI ([] : List Int32).length)])), (a_4, .inl (cA_6, 200, .inl (fun _ => 0))), (q_9, .inr (1, [.ref a_5, .int (nI ([] : List Int32).length)])), (a_5, .inl (cA_7, 200, .inl (fun _ => 0))), (q_10, .inr (1, [.ref a_6, .int (nI ([] : List Int32).length)])), (a_6, .inl (cA_8, 200, .inl (fun _ => 0))), (q_11, .inr (1, [.ref a_7, .int (nI ([] : List Int32).length)])), (a_7, .inl (cA_9, 200, .inl (fun _ => 0))), (q_12, .inr (1, [.ref a_8, .int (nI ([] : List Int32).length)])), (a_8, .inl (cA_10, 200, .inl (fun _ => 0)))] H := hP
  have hD : va_D A [(h, .inr (3, [.ref q_1, .ref q_3, .ref q_5, .ref q_6, .ref q_7, .ref q_8, .ref q_9, .ref q_10, .ref q_11, .ref q_12, .int 0])), (q_1, .inr (2, [.ref q_2, .int (nI ([] : List Int32).length)])), (q_2, .inl (cA_1, 200, .inl (fun _ => 0))), (q_3, .inr (2, [.ref q_4, .int (nI ([] : List Int32).length)])), (q_4, .inl (cA_2, 400, .inl (fun _ => 0))), (q_5, .inr (1, [.ref a_1, .int (nI ([] : List Int32).length)])), (a_1, .inl (cA_3, 200, .inl (fun _ => 0))), (q_6, .inr (1, [.ref a_2, .int (nI ([] : List Int32).length)])), (a_2, .inl (cA_4, 200, .inl (fun _ => 0))), (q_7, .inr (1, [.ref a_3, .int (nI ([] : List Int32).length)])), (a_3, .inl (cA_5, 200, .inl (fun _ => 0))), (q_8, .inr (1, [.ref a_4, .int (nI ([] : List Int32).length)])), (a_4, .inl (cA_6, 200, .inl (fun _ => 0))), (q_9, .inr (1, [.ref a_5, .int (nI ([] : List Int32).length)])), (a_5, .inl (cA_7, 200, .inl (fun _ => 0))), (q_10, .inr (1, [.ref a_6, .int (nI ([] : List Int32).length)])), (a_6, .inl (cA_8, 200, .inl (fun _ => 0))), (q_11, .inr (1, [.ref a_7, .int (nI ([] : List Int32).length)])), (a_7, .inl (cA_9, 200, .inl (fun _ => 0))), (q_12, .inr (1, [.ref a_8, .int (nI ([] : List Int32).length)])), (a_8, .inl (cA_10, 200, .inl (fun _ => 0)))] := hD
  refine lv_aload_n hx hb dX2_init_124 rfl (lv_at hl 0 rfl) ?_
  refine lv_bipush (v := 63) hx hb dX2_init_125 (by decide) ?_
  refine va_put (D := D) (ci := 3) (v := .int 63) (ty := .int) (C := RX2) (T := TX2) (N := 11) hx hb hts (by decide +kernel) tyX2 tyX2_ok nmX2 hown hK hP hD hS 0 rfl rfl 10 (by decide) (hts (.fieldLink RX2 49 "CharacterRows" "standIn" "I") (by decide +kernel)) (fun _ h9 => h9) rfl (by decide +kernel) rfl rfl (Nat.le_of_ble_eq_true rfl) dX2_init_127 (fun H locs hP hD hS => ?_)
  have hP : va_P D vwCl [(h, .inr (3, [.ref q_1, .ref q_3, .ref q_5, .ref q_6, .ref q_7, .ref q_8, .ref q_9, .ref q_10, .ref q_11, .ref q_12, .int 63])), (q_1, .inr (2, [.ref q_2, .int (nI ([] : List Int32).length)])), (q_2, .inl (cA_1, 200, .inl (fun _ => 0))), (q_3, .inr (2, [.ref q_4, .int (nI ([] : List Int32).length)])), (q_4, .inl (cA_2, 400, .inl (fun _ => 0))), (q_5, .inr (1, [.ref a_1, .int (nI ([] : List Int32).length)])), (a_1, .inl (cA_3, 200, .inl (fun _ => 0))), (q_6, .inr (1, [.ref a_2, .int (nI ([] : List Int32).length)])), (a_2, .inl (cA_4, 200, .inl (fun _ => 0))), (q_7, .inr (1, [.ref a_3, .int (nI ([] : List Int32).length)])), (a_3, .inl (cA_5, 200, .inl (fun _ => 0))), (q_8, .inr (1, [.ref a_4, .int (nI ([] : List Int32).length)])), (a_4, .inl (cA_6, 200, .inl (fun _ => 0))), (q_9, .inr (1, [.ref a_5, .int (nI ([] : List Int32).length)])), (a_5, .inl (cA_7, 200, .inl (fun _ => 0))), (q_10, .inr (1, [.ref a_6, .int (nI ([] : List Int32).length)])), (a_6, .inl (cA_8, 200, .inl (fun _ => 0))), (q_11, .inr (1, [.ref a_7, .int (nI ([] : List Int32).length)])), (a_7, .inl (cA_9, 200, .inl (fun _ => 0))), (q_12, .inr (1, [.ref a_8, .int (nI ([] : List Int32).length)])), (a_8, .inl (cA_10, 200, .inl (fun _ => 0)))] H := hP
  have hD : va_D A [(h, .inr (3, [.ref q_1, .ref q_3, .ref q_5, .ref q_6, .ref q_7, .ref q_8, .ref q_9, .ref q_10, .ref q_11, .ref q_12, .int 63])), (q_1, .inr (2, [.ref q_2, .int (nI ([] : List Int32).length)])), (q_2, .inl (cA_1, 200, .inl (fun _ => 0))), (q_3, .inr (2, [.ref q_4, .int (nI ([] : List Int32).length)])), (q_4, .inl (cA_2, 400, .inl (fun _ => 0))), (q_5, .inr (1, [.ref a_1, .int (nI ([] : List Int32).length)])), (a_1, .inl (cA_3, 200, .inl (fun _ => 0))), (q_6, .inr (1, [.ref a_2, .int (nI ([] : List Int32).length)])), (a_2, .inl (cA_4, 200, .inl (fun _ => 0))), (q_7, .inr (1, [.ref a_3, .int (nI ([] : List Int32).length)])), (a_3, .inl (cA_5, 200, .inl (fun _ => 0))), (q_8, .inr (1, [.ref a_4, .int (nI ([] : List Int32).length)])), (a_4, .inl (cA_6, 200, .inl (fun _ => 0))), (q_9, .inr (1, [.ref a_5, .int (nI ([] : List Int32).length)])), (a_5, .inl (cA_7, 200, .inl (fun _ => 0))), (q_10, .inr (1, [.ref a_6, .int (nI ([] : List Int32).length)])), (a_6, .inl (cA_8, 200, .inl (fun _ => 0))), (q_11, .inr (1, [.ref a_7, .int (nI ([] : List Int32).length)])), (a_7, .inl (cA_9, 200, .inl (fun _ => 0))), (q_12, .inr (1, [.ref a_8, .int (nI ([] : List Int32).length)])), (a_8, .inl (cA_10, 200, .inl (fun _ => 0)))] := hD
  have hP8 := hP.sub (ws' := [(h, .inr (3, [.ref q_1, .ref q_3, .ref q_5, .ref q_6, .ref q_7, .ref q_8, .ref q_9, .ref q_10, .ref q_11, .ref q_12, .int 63])), (q_1, .inr (2, [.ref q_2, .int (nI ([] : List Int32).length)])), (q_2, .inl (cA_1, 200, .inl (fun _ => 0))), (q_3, .inr (2, [.ref q_4, .int (nI ([] : List Int32).length)])), (q_4, .inl (cA_2, 400, .inl (fun _ => 0))), (q_5, .inr (1, [.ref a_1, .int (nI ([] : List Int32).length)])), (a_1, .inl (cA_3, 200, .inl (fun _ => 0))), (q_6, .inr (1, [.ref a_2, .int (nI ([] : List Int32).length)])), (a_2, .inl (cA_4, 200, .inl (fun _ => 0))), (q_7, .inr (1, [.ref a_3, .int (nI ([] : List Int32).length)])), (a_3, .inl (cA_5, 200, .inl (fun _ => 0))), (q_8, .inr (1, [.ref a_4, .int (nI ([] : List Int32).length)])), (a_4, .inl (cA_6, 200, .inl (fun _ => 0))), (q_9, .inr (1, [.ref a_5, .int (nI ([] : List Int32).length)])), (a_5, .inl (cA_7, 200, .inl (fun _ => 0))), (q_10, .inr (1, [.ref a_6, .int (nI ([] : List Int32).length)])), (a_6, .inl (cA_8, 200, .inl (fun _ => 0))), (q_11, .inr (1, [.ref a_7, .int (nI ([] : List Int32).length)])), (a_7, .inl (cA_9, 200, .inl (fun _ => 0))), (q_12, .inr (1, [.ref a_8, .int (nI ([] : List Int32).length)])), (a_8, .inl (cA_10, 200, .inl (fun _ => 0)))]) [0, 1, 2, 3, 4, 5, 6, 7, 8, 9, 10, 11, 12, 13, 14, 15, 16, 17, 18, 19, 20] rfl
  have hD8 := hD.sub (ws' := [(h, .inr (3, [.ref q_1, .ref q_3, .ref q_5, .ref q_6, .ref q_7, .ref q_8, .ref q_9, .ref q_10, .ref q_11, .ref q_12, .int 63])), (q_1, .inr (2, [.ref q_2, .int (nI ([] : List Int32).length)])), (q_2, .inl (cA_1, 200, .inl (fun _ => 0))), (q_3, .inr (2, [.ref q_4, .int (nI ([] : List Int32).length)])), (q_4, .inl (cA_2, 400, .inl (fun _ => 0))), (q_5, .inr (1, [.ref a_1, .int (nI ([] : List Int32).length)])), (a_1, .inl (cA_3, 200, .inl (fun _ => 0))), (q_6, .inr (1, [.ref a_2, .int (nI ([] : List Int32).length)])), (a_2, .inl (cA_4, 200, .inl (fun _ => 0))), (q_7, .inr (1, [.ref a_3, .int (nI ([] : List Int32).length)])), (a_3, .inl (cA_5, 200, .inl (fun _ => 0))), (q_8, .inr (1, [.ref a_4, .int (nI ([] : List Int32).length)])), (a_4, .inl (cA_6, 200, .inl (fun _ => 0))), (q_9, .inr (1, [.ref a_5, .int (nI ([] : List Int32).length)])), (a_5, .inl (cA_7, 200, .inl (fun _ => 0))), (q_10, .inr (1, [.ref a_6, .int (nI ([] : List Int32).length)])), (a_6, .inl (cA_8, 200, .inl (fun _ => 0))), (q_11, .inr (1, [.ref a_7, .int (nI ([] : List Int32).length)])), (a_7, .inl (cA_9, 200, .inl (fun _ => 0))), (q_12, .inr (1, [.ref a_8, .int (nI ([] : List Int32).length)])), (a_8, .inl (cA_10, 200, .inl (fun _ => 0)))]) [0, 1, 2, 3, 4, 5, 6, 7, 8, 9, 10, 11, 12, 13, 14, 15, 16, 17, 18, 19, 20] (by decide) rfl
  have hK8 := hK.sub (tys' := [(cA_1, .byte), (cA_2, .byte), (cA_3, .int), (cA_4, .int), (cA_5, .int), (cA_6, .int), (cA_7, .int), (cA_8, .int), (cA_9, .int), (cA_10, .int)]) [0, 1, 2, 3, 4, 5, 6, 7, 8, 9] rfl
  exact rtK hx hb hr hlocks dX2_init_130 ((fun k => match k with | 0 => q_1 | 1 => q_3 | 2 => q_5 | 3 => q_6 | 4 => q_7 | 5 => q_8 | 6 => q_9 | 7 => q_10 | 8 => q_11 | 9 => q_12 | 10 => q_2 | 11 => q_4 | 12 => a_1 | 13 => a_2 | 14 => a_3 | 15 => a_4 | 16 => a_5 | 17 => a_6 | 18 => a_7 | _ => a_8), (fun k => match k with | 0 => cA_1 | 1 => cA_2 | 2 => cA_3 | 3 => cA_4 | 4 => cA_5 | 5 => cA_6 | 6 => cA_7 | 7 => cA_8 | 8 => cA_9 | _ => cA_10), fun _ _ => 0, fun _ => [], 63) ⟨⟨rw_nil, rw_nil, rw_nil, rw_nil, rw_nil, rw_nil, rw_nil, rw_nil, rw_nil, rw_nil⟩, rfl, rfl⟩ hP8 hD8 hS hK8
end
section
/-! the class: escapes, codes of new bytes, telling, one code written -/
def fX2_setOfEscape (v1 v2 : Int32) : Int32 := (if v1 = 103 then (if (v2 - 48) < 0 then (-1) else (if 3 ≤ (v2 - 48) then (-1) else (v2 - 48))) else (-1))
set_option maxHeartbeats 4000000 in
set_option maxRecDepth 100000 in
theorem KX2_setOfEscape (l : Launch) (D : va_G) (h t0 t1 t2 t3 t4 t5 t6 t7 t8 t9 : Nat) (si : Int32) (b0 : Nat) (c0 : ClassId) (f0 : Nat → Int32) (x0 : List Int32) (o0 : rw_ok f0 200 x0) (i v1 v2 : Int32) (e1 : ox_at x0 (i + 1) = v1) (e2 : ox_at x0 (i + 2) = v2) : Met l yX2_setOfEscape wsX2_setOfEscape ({ frames := 1, cells := 0, slots := 0, locals := 21 }) (pcR D [(h, .inr (3, [.ref t0, .ref t1, .ref t2, .ref t3, .ref t4, .ref t5, .ref t6, .ref t7, .ref t8, .ref t9, .int si])), (t0, .inr (2, [.ref b0, .int (nI x0.length)])), (b0, .inl (c0, 200, .inl f0))] [(c0, .byte)] [.ref h, .int i]) (vp_Si (fun r => r = fX2_setOfEscape v1 v2)) 0 0 (fun _ => False) := by
  refine ofR (cc := cX2_setOfEscape) (maxL := 4) (ret := (some .int)) (by decide) rfl (Nat.le_of_ble_eq_true rfl) ?_
  intro p e s m below meth c ls hx hb hr hml hown hts hlocks hP hK hN hl
  have hl : lv_has ls 4 [(0, .ref h), (1, .int i)] := hl
  refine lv_aload_n hx hb dX2_setOfEscape_0 rfl (lv_at hl 0 rfl) ?_
  refine va_get (D := D) (ci := 3) (v := .ref t0) (C := RX2) (T := TX2) (N := 11) hx hb hts (by decide +kernel) hown hK hP 0 rfl rfl 0 (by decide) (hts (.fieldLink RX2 14 "CharacterRows" "collected" "LCharacterRows$Octets;") (by decide +kernel)) (fun _ h9 => h9) rfl dX2_setOfEscape_1 ?_
  refine lv_iload_n hx hb dX2_setOfEscape_4 rfl (lv_at hl 1 rfl) ?_
  refine lv_iconst (v := 2) hx hb dX2_setOfEscape_5 (by decide) ?_
  refine lv_iadd hx hb dX2_setOfEscape_6 ?_
  refine vp_callSi (W.runV ⟨hx, hb, hml, hown, hts⟩ (KX1_at l D t0 b0 c0 f0 x0 200 (by decide) o0 (i + 2)) (cwV 1 hts gX2_setOfEscape_X1_at rfl rfl rfl (by decide +kernel) ⟨Nat.le_of_ble_eq_true rfl, Nat.le_of_ble_eq_true rfl⟩) (pcR_V (hP.sub (ws' := [(t0, .inr (2, [.ref b0, .int (nI x0.length)])), (b0, .inl (c0, 200, .inl f0))]) [1, 2] rfl) (hK.sub (tys' := [(c0, .byte)]) [0] rfl) hN 0 rfl rfl) rfl rfl hl.1 rfl (lv_room (Nat.le_of_ble_eq_true rfl)) dX2_setOfEscape_7 ⟨Nat.zero_le _, Nat.zero_le _⟩) (fun r9 hr9 => ?_)
  replace hr9 : r9 = v2 := hr9.trans e2
  subst r9
  refine lv_bipush (v := 48) hx hb dX2_setOfEscape_10 (by decide) ?_
  refine lv_isub hx hb dX2_setOfEscape_12 ?_
  refine lv_istore_n (lv' := [(2, .int (v2 - 48)), (0, .ref h), (1, .int i)]) hx hb dX2_setOfEscape_13 rfl hl (by decide) rfl (fun ls hl => ?_)
  refine lv_aload_n hx hb dX2_setOfEscape_14 rfl (lv_at hl 1 rfl) ?_
  refine va_get (D := D) (ci := 3) (v := .ref t0) (C := RX2) (T := TX2) (N := 11) hx hb hts (by decide +kernel) hown hK hP 0 rfl rfl 0 (by decide) (hts (.fieldLink RX2 14 "CharacterRows" "collected" "LCharacterRows$Octets;") (by decide +kernel)) (fun _ h9 => h9) rfl dX2_setOfEscape_15 ?_
  refine lv_iload_n hx hb dX2_setOfEscape_18 rfl (lv_at hl 2 rfl) ?_
  refine lv_iconst (v := 1) hx hb dX2_setOfEscape_19 (by decide) ?_
  refine lv_iadd hx hb dX2_setOfEscape_20 ?_
  refine vp_callSi (W.runV ⟨hx, hb, hml, hown, hts⟩ (KX1_at l D t0 b0 c0 f0 x0 200 (by decide) o0 (i + 1)) (cwV 1 hts gX2_setOfEscape_X1_at rfl rfl rfl (by decide +kernel) ⟨Nat.le_of_ble_eq_true rfl, Nat.le_of_ble_eq_true rfl⟩) (pcR_V (hP.sub (ws' := [(t0, .inr (2, [.ref b0, .int (nI x0.length)])), (b0, .inl (c0, 200, .inl f0))]) [1, 2] rfl) (hK.sub (tys' := [(c0, .byte)]) [0] rfl) hN 0 rfl rfl) rfl rfl hl.1 rfl (lv_room (Nat.le_of_ble_eq_true rfl)) dX2_setOfEscape_21 ⟨Nat.zero_le _, Nat.zero_le _⟩) (fun r9 hr9 => ?_)
  replace hr9 : r9 = v1 := hr9.trans e1
  subst r9
  refine lv_bipush (v := 103) hx hb dX2_setOfEscape_24 (by decide) ?_
  refine lv_icmp_ne (tgt := 42) hx hb dX2_setOfEscape_26 (by decide) (fun c26_1 => ?_) (fun c26_1 => ?_)
  · skip
    refine lv_iconst (v := 0) hx hb dX2_setOfEscape_42 (by decide) ?_
    refine lv_istore_n (lv' := [(3, .int 0), (2, .int (v2 - 48)), (0, .ref h), (1, .int i)]) hx hb dX2_setOfEscape_43 rfl hl (by decide) rfl (fun ls hl => ?_)
    refine lv_iload_n hx hb dX2_setOfEscape_44 rfl (lv_at hl 0 rfl) ?_
    refine lv_if_eq (tgt := 52) hx hb dX2_setOfEscape_45 (by decide) (fun c45_1 => ?_) (fun c45_1 => ?_)
    · skip
      refine lv_iconst (v := (-1)) hx hb dX2_setOfEscape_52 (by decide) ?_
      exact rtR hx hb hr hlocks dX2_setOfEscape_53 (by unfold fX2_setOfEscape; rw [if_neg c26_1])
    · exact absurd c45_1 (by decide)
  · skip
    refine lv_iload_n hx hb dX2_setOfEscape_29 rfl (lv_at hl 0 rfl) ?_
    refine lv_if_lt (tgt := 42) hx hb dX2_setOfEscape_30 (by decide) (fun c30_1 => ?_) (fun c30_1 => ?_)
    · skip
      refine lv_iconst (v := 0) hx hb dX2_setOfEscape_42 (by decide) ?_
      refine lv_istore_n (lv' := [(3, .int 0), (2, .int (v2 - 48)), (0, .ref h), (1, .int i)]) hx hb dX2_setOfEscape_43 rfl hl (by decide) rfl (fun ls hl => ?_)
      refine lv_iload_n hx hb dX2_setOfEscape_44 rfl (lv_at hl 0 rfl) ?_
      refine lv_if_eq (tgt := 52) hx hb dX2_setOfEscape_45 (by decide) (fun c45_2 => ?_) (fun c45_2 => ?_)
      · skip
        refine lv_iconst (v := (-1)) hx hb dX2_setOfEscape_52 (by decide) ?_
        exact rtR hx hb hr hlocks dX2_setOfEscape_53 (by unfold fX2_setOfEscape; rw [if_pos c26_1, if_pos c30_1])
      · exact absurd c45_2 (by decide)
    · skip
      refine lv_iload_n hx hb dX2_setOfEscape_33 rfl (lv_at hl 0 rfl) ?_
      refine lv_iconst (v := 3) hx hb dX2_setOfEscape_34 (by decide) ?_
      refine lv_icmp_ge (tgt := 42) hx hb dX2_setOfEscape_35 (by decide) (fun c35_1 => ?_) (fun c35_1 => ?_)
      · skip
        refine lv_iconst (v := 0) hx hb dX2_setOfEscape_42 (by decide) ?_
        refine lv_istore_n (lv' := [(3, .int 0), (2, .int (v2 - 48)), (0, .ref h), (1, .int i)]) hx hb dX2_setOfEscape_43 rfl hl (by decide) rfl (fun ls hl => ?_)
        refine lv_iload_n hx hb dX2_setOfEscape_44 rfl (lv_at hl 0 rfl) ?_
        refine lv_if_eq (tgt := 52) hx hb dX2_setOfEscape_45 (by decide) (fun c45_3 => ?_) (fun c45_3 => ?_)
        · skip
          refine lv_iconst (v := (-1)) hx hb dX2_setOfEscape_52 (by decide) ?_
          exact rtR hx hb hr hlocks dX2_setOfEscape_53 (by unfold fX2_setOfEscape; rw [if_pos c26_1, if_neg c30_1, if_pos c35_1])
        · exact absurd c45_3 (by decide)
      · skip
        refine lv_iconst (v := 1) hx hb dX2_setOfEscape_38 (by decide) ?_
        refine lv_goto (tgt := 43) hx hb dX2_setOfEscape_39 (by decide) ?_
        refine lv_istore_n (lv' := [(3, .int 1), (2, .int (v2 - 48)), (0, .ref h), (1, .int i)]) hx hb dX2_setOfEscape_43 rfl hl (by decide) rfl (fun ls hl => ?_)
        refine lv_iload_n hx hb dX2_setOfEscape_44 rfl (lv_at hl 0 rfl) ?_
        refine lv_if_eq (tgt := 52) hx hb dX2_setOfEscape_45 (by decide) (fun c45_4 => ?_) (fun c45_4 => ?_)
        · exact absurd c45_4 (by decide)
        · skip
          refine lv_iload_n hx hb dX2_setOfEscape_48 rfl (lv_at hl 1 rfl) ?_
          refine lv_goto (tgt := 53) hx hb dX2_setOfEscape_49 (by decide) ?_
          exact rtR hx hb hr hlocks dX2_setOfEscape_53 (by unfold fX2_setOfEscape; rw [if_pos c26_1, if_neg c30_1, if_neg c35_1])
def fX2_codeOfNewBytes (v0 v1 v2 : Int32) : Int32 := (if 128 ≤ v0 then (if v0 < 192 then (-1) else (if v0 < 240 then (if 224 ≤ v0 then (if 224 ≤ v0 then (if v1 < 128 then (-1) else (if v1 ≤ 191 then (if v2 < 128 then (-1) else (if v2 ≤ 191 then (if (fX2_bytesBehindFirst (((((((v0 - 224) * 64) + v1) - 128) * 64) + v2) - 128)) = 2 then (((((((v0 - 224) * 64) + v1) - 128) * 64) + v2) - 128) else (-1)) else (-1))) else (-1))) else (if v1 < 128 then (-1) else (if v1 ≤ 191 then (if v2 < 128 then (-1) else (if v2 ≤ 191 then (if (fX2_bytesBehindFirst (((((((v0 - 192) * 64) + v1) - 128) * 64) + v2) - 128)) = 2 then (((((((v0 - 192) * 64) + v1) - 128) * 64) + v2) - 128) else (-1)) else (-1))) else (-1)))) else (if 224 ≤ v0 then (if v1 < 128 then (-1) else (if v1 ≤ 191 then (if (fX2_bytesBehindFirst ((((v0 - 224) * 64) + v1) - 128)) = 1 then ((((v0 - 224) * 64) + v1) - 128) else (-1)) else (-1))) else (if v1 < 128 then (-1) else (if v1 ≤ 191 then (if (fX2_bytesBehindFirst ((((v0 - 192) * 64) + v1) - 128)) = 1 then ((((v0 - 192) * 64) + v1) - 128) else (-1)) else (-1))))) else (-1))) else v0)
set_option maxHeartbeats 4000000 in
set_option maxRecDepth 100000 in
theorem KX2_codeOfNewBytes (l : Launch) (D : va_G) (h t0 t1 t2 t3 t4 t5 t6 t7 t8 t9 : Nat) (si : Int32) (b0 : Nat) (c0 : ClassId) (f0 : Nat → Int32) (x0 : List Int32) (o0 : rw_ok f0 200 x0) (i v0 v1 v2 : Int32) (e0 : ox_at x0 i = v0) (e1 : ox_at x0 (i + 1) = v1) (e2 : ox_at x0 (i + 2) = v2) : Met l yX2_codeOfNewBytes wsX2_codeOfNewBytes ({ frames := 1, cells := 0, slots := 0, locals := 21 }) (pcR D [(h, .inr (3, [.ref t0, .ref t1, .ref t2, .ref t3, .ref t4, .ref t5, .ref t6, .ref t7, .ref t8, .ref t9, .int si])), (t0, .inr (2, [.ref b0, .int (nI x0.length)])), (b0, .inl (c0, 200, .inl f0))] [(c0, .byte)] [.ref h, .int i]) (vp_Si (fun r => r = fX2_codeOfNewBytes v0 v1 v2)) 0 0 (fun _ => False) := by
  refine ofR (cc := cX2_codeOfNewBytes) (maxL := 7) (ret := (some .int)) (by decide) rfl (Nat.le_of_ble_eq_true rfl) ?_
  intro p e s m below meth c ls hx hb hr hml hown hts hlocks hP hK hN hl
  have hl : lv_has ls 7 [(0, .ref h), (1, .int i)] := hl
  refine lv_aload_n hx hb dX2_codeOfNewBytes_0 rfl (lv_at hl 0 rfl) ?_
  refine va_get (D := D) (ci := 3) (v := .ref t0) (C := RX2) (T := TX2) (N := 11) hx hb hts (by decide +kernel) hown hK hP 0 rfl rfl 0 (by decide) (hts (.fieldLink RX2 14 "CharacterRows" "collected" "LCharacterRows$Octets;") (by decide +kernel)) (fun _ h9 => h9) rfl dX2_codeOfNewBytes_1 ?_
  refine lv_iload_n hx hb dX2_codeOfNewBytes_4 rfl (lv_at hl 1 rfl) ?_
  refine vp_callSi (W.runV ⟨hx, hb, hml, hown, hts⟩ (KX1_at l D t0 b0 c0 f0 x0 200 (by decide) o0 i) (cwV 1 hts gX2_codeOfNewBytes_X1_at rfl rfl rfl (by decide +kernel) ⟨Nat.le_of_ble_eq_true rfl, Nat.le_of_ble_eq_true rfl⟩) (pcR_V (hP.sub (ws' := [(t0, .inr (2, [.ref b0, .int (nI x0.length)])), (b0, .inl (c0, 200, .inl f0))]) [1, 2] rfl) (hK.sub (tys' := [(c0, .byte)]) [0] rfl) hN 0 rfl rfl) rfl rfl hl.1 rfl (lv_room (Nat.le_of_ble_eq_true rfl)) dX2_codeOfNewBytes_5 ⟨Nat.zero_le _, Nat.zero_le _⟩) (fun r9 hr9 => ?_)
  replace hr9 : r9 = v0 := hr9.trans e0
  subst r9
  refine lv_istore_n (lv' := [(2, .int v0), (0, .ref h), (1, .int i)]) hx hb dX2_codeOfNewBytes_8 rfl hl (by decide) rfl (fun ls hl => ?_)
  refine lv_iload_n hx hb dX2_codeOfNewBytes_9 rfl (lv_at hl 0 rfl) ?_
  refine lv_sipush (v := 128) hx hb dX2_codeOfNewBytes_10 (by decide) ?_
  refine lv_icmp_ge (tgt := 18) hx hb dX2_codeOfNewBytes_13 (by decide) (fun c13_1 => ?_) (fun c13_1 => ?_)
  · skip
    refine lv_iload_n hx hb dX2_codeOfNewBytes_18 rfl (lv_at hl 0 rfl) ?_
    refine lv_sipush (v := 192) hx hb dX2_codeOfNewBytes_19 (by decide) ?_
    refine lv_icmp_lt (tgt := 32) hx hb dX2_codeOfNewBytes_22 (by decide) (fun c22_1 => ?_) (fun c22_1 => ?_)
    · skip
      refine lv_iconst (v := (-1)) hx hb dX2_codeOfNewBytes_32 (by decide) ?_
      exact rtR hx hb hr hlocks dX2_codeOfNewBytes_33 (by unfold fX2_codeOfNewBytes; rw [if_pos c13_1, if_pos c22_1])
    · skip
      refine lv_iload_n hx hb dX2_codeOfNewBytes_25 rfl (lv_at hl 0 rfl) ?_
      refine lv_sipush (v := 240) hx hb dX2_codeOfNewBytes_26 (by decide) ?_
      refine lv_icmp_lt (tgt := 34) hx hb dX2_codeOfNewBytes_29 (by decide) (fun c29_1 => ?_) (fun c29_1 => ?_)
      · skip
        refine lv_iload_n hx hb dX2_codeOfNewBytes_34 rfl (lv_at hl 0 rfl) ?_
        refine lv_sipush (v := 224) hx hb dX2_codeOfNewBytes_35 (by decide) ?_
        refine lv_icmp_ge (tgt := 45) hx hb dX2_codeOfNewBytes_38 (by decide) (fun c38_1 => ?_) (fun c38_1 => ?_)
        · skip
          refine lv_iconst (v := 2) hx hb dX2_codeOfNewBytes_45 (by decide) ?_
          refine lv_istore_n (lv' := [(3, .int 2), (2, .int v0), (0, .ref h), (1, .int i)]) hx hb dX2_codeOfNewBytes_46 rfl hl (by decide) rfl (fun ls hl => ?_)
          refine lv_iload_n hx hb dX2_codeOfNewBytes_47 rfl (lv_at hl 1 rfl) ?_
          refine lv_sipush (v := 224) hx hb dX2_codeOfNewBytes_48 (by decide) ?_
          refine lv_icmp_ge (tgt := 62) hx hb dX2_codeOfNewBytes_51 (by decide) (fun c51_1 => ?_) (fun c51_1 => ?_)
          · skip
            refine lv_iload_n hx hb dX2_codeOfNewBytes_62 rfl (lv_at hl 1 rfl) ?_
            refine lv_sipush (v := 224) hx hb dX2_codeOfNewBytes_63 (by decide) ?_
            refine lv_isub hx hb dX2_codeOfNewBytes_66 ?_
            refine lv_istore (lv' := [(4, .int (v0 - 224)), (3, .int 2), (2, .int v0), (0, .ref h), (1, .int i)]) hx hb dX2_codeOfNewBytes_67 hl (by decide) rfl (fun ls hl => ?_)
            refine lv_iconst (v := 1) hx hb dX2_codeOfNewBytes_69 (by decide) ?_
            refine lv_istore (lv' := [(5, .int 1), (4, .int (v0 - 224)), (3, .int 2), (2, .int v0), (0, .ref h), (1, .int i)]) hx hb dX2_codeOfNewBytes_70 hl (by decide) rfl (fun ls hl => ?_)
            refine lv_iload hx hb dX2_codeOfNewBytes_72 (lv_at hl 0 rfl) ?_
            refine lv_iload_n hx hb dX2_codeOfNewBytes_74 rfl (lv_at hl 2 rfl) ?_
            refine lv_icmp_gt (tgt := 129) hx hb dX2_codeOfNewBytes_75 (by decide) (fun c75_1 => ?_) (fun c75_1 => ?_)
            · exact absurd c75_1 (by decide)
            · skip
              refine lv_aload_n hx hb dX2_codeOfNewBytes_78 rfl (lv_at hl 4 rfl) ?_
              refine va_get (D := D) (ci := 3) (v := .ref t0) (C := RX2) (T := TX2) (N := 11) hx hb hts (by decide +kernel) hown hK hP 0 rfl rfl 0 (by decide) (hts (.fieldLink RX2 14 "CharacterRows" "collected" "LCharacterRows$Octets;") (by decide +kernel)) (fun _ h9 => h9) rfl dX2_codeOfNewBytes_79 ?_
              refine lv_iload_n hx hb dX2_codeOfNewBytes_82 rfl (lv_at hl 5 rfl) ?_
              refine lv_iload hx hb dX2_codeOfNewBytes_83 (lv_at hl 0 rfl) ?_
              refine lv_iadd hx hb dX2_codeOfNewBytes_85 ?_
              refine vp_callSi (W.runV ⟨hx, hb, hml, hown, hts⟩ (KX1_at l D t0 b0 c0 f0 x0 200 (by decide) o0 (i + 1)) (cwV 1 hts gX2_codeOfNewBytes_X1_at rfl rfl rfl (by decide +kernel) ⟨Nat.le_of_ble_eq_true rfl, Nat.le_of_ble_eq_true rfl⟩) (pcR_V (hP.sub (ws' := [(t0, .inr (2, [.ref b0, .int (nI x0.length)])), (b0, .inl (c0, 200, .inl f0))]) [1, 2] rfl) (hK.sub (tys' := [(c0, .byte)]) [0] rfl) hN 0 rfl rfl) rfl rfl hl.1 rfl (lv_room (Nat.le_of_ble_eq_true rfl)) dX2_codeOfNewBytes_86 ⟨Nat.zero_le _, Nat.zero_le _⟩) (fun r9 hr9 => ?_)
              replace hr9 : r9 = v1 := hr9.trans e1
              subst r9
              refine lv_istore (lv' := [(6, .int v1), (5, .int 1), (4, .int (v0 - 224)), (3, .int 2), (2, .int v0), (0, .ref h), (1, .int i)]) hx hb dX2_codeOfNewBytes_89 hl (by decide) rfl (fun ls hl => ?_)
              refine lv_iload hx hb dX2_codeOfNewBytes_91 (lv_at hl 0 rfl) ?_
              refine lv_sipush (v := 128) hx hb dX2_codeOfNewBytes_93 (by decide) ?_
              refine lv_icmp_lt (tgt := 107) hx hb dX2_codeOfNewBytes_96 (by decide) (fun c96_1 => ?_) (fun c96_1 => ?_)
              · skip
                refine lv_iconst (v := (-1)) hx hb dX2_codeOfNewBytes_107 (by decide) ?_
                exact rtR hx hb hr hlocks dX2_codeOfNewBytes_108 (by unfold fX2_codeOfNewBytes; rw [if_pos c13_1, if_neg c22_1, if_pos c29_1, if_pos c38_1, if_pos c51_1, if_pos c96_1])
              · skip
                refine lv_iload hx hb dX2_codeOfNewBytes_99 (lv_at hl 0 rfl) ?_
                refine lv_sipush (v := 191) hx hb dX2_codeOfNewBytes_101 (by decide) ?_
                refine lv_icmp_le (tgt := 109) hx hb dX2_codeOfNewBytes_104 (by decide) (fun c104_1 => ?_) (fun c104_1 => ?_)
                · skip
                  refine lv_iload hx hb dX2_codeOfNewBytes_109 (lv_at hl 2 rfl) ?_
                  refine lv_bipush (v := 64) hx hb dX2_codeOfNewBytes_111 (by decide) ?_
                  refine lv_imul hx hb dX2_codeOfNewBytes_113 ?_
                  refine lv_iload hx hb dX2_codeOfNewBytes_114 (lv_at hl 0 rfl) ?_
                  refine lv_iadd hx hb dX2_codeOfNewBytes_116 ?_
                  refine lv_sipush (v := 128) hx hb dX2_codeOfNewBytes_117 (by decide) ?_
                  refine lv_isub hx hb dX2_codeOfNewBytes_120 ?_
                  refine lv_istore (lv' := [(4, .int ((((v0 - 224) * 64) + v1) - 128)), (6, .int v1), (5, .int 1), (3, .int 2), (2, .int v0), (0, .ref h), (1, .int i)]) hx hb dX2_codeOfNewBytes_121 hl (by decide) rfl (fun ls hl => ?_)
                  refine lv_iinc (v := 2) (lv' := [(5, .int 2), (4, .int ((((v0 - 224) * 64) + v1) - 128)), (6, .int v1), (3, .int 2), (2, .int v0), (0, .ref h), (1, .int i)]) hx hb dX2_codeOfNewBytes_123 hl (k := 2) rfl (by decide) (by decide) rfl (fun ls hl => ?_)
                  refine lv_goto (tgt := 72) hx hb dX2_codeOfNewBytes_126 (by decide) ?_
                  refine lv_iload hx hb dX2_codeOfNewBytes_72 (lv_at hl 0 rfl) ?_
                  refine lv_iload_n hx hb dX2_codeOfNewBytes_74 rfl (lv_at hl 3 rfl) ?_
                  refine lv_icmp_gt (tgt := 129) hx hb dX2_codeOfNewBytes_75 (by decide) (fun c75_2 => ?_) (fun c75_2 => ?_)
                  · exact absurd c75_2 (by decide)
                  · skip
                    refine lv_aload_n hx hb dX2_codeOfNewBytes_78 rfl (lv_at hl 5 rfl) ?_
                    refine va_get (D := D) (ci := 3) (v := .ref t0) (C := RX2) (T := TX2) (N := 11) hx hb hts (by decide +kernel) hown hK hP 0 rfl rfl 0 (by decide) (hts (.fieldLink RX2 14 "CharacterRows" "collected" "LCharacterRows$Octets;") (by decide +kernel)) (fun _ h9 => h9) rfl dX2_codeOfNewBytes_79 ?_
                    refine lv_iload_n hx hb dX2_codeOfNewBytes_82 rfl (lv_at hl 6 rfl) ?_
                    refine lv_iload hx hb dX2_codeOfNewBytes_83 (lv_at hl 0 rfl) ?_
                    refine lv_iadd hx hb dX2_codeOfNewBytes_85 ?_
                    refine vp_callSi (W.runV ⟨hx, hb, hml, hown, hts⟩ (KX1_at l D t0 b0 c0 f0 x0 200 (by decide) o0 (i + 2)) (cwV 1 hts gX2_codeOfNewBytes_X1_at rfl rfl rfl (by decide +kernel) ⟨Nat.le_of_ble_eq_true rfl, Nat.le_of_ble_eq_true rfl⟩) (pcR_V (hP.sub (ws' := [(t0, .inr (2, [.ref b0, .int (nI x0.length)])), (b0, .inl (c0, 200, .inl f0))]) [1, 2] rfl) (hK.sub (tys' := [(c0, .byte)]) [0] rfl) hN 0 rfl rfl) rfl rfl hl.1 rfl (lv_room (Nat.le_of_ble_eq_true rfl)) dX2_codeOfNewBytes_86 ⟨Nat.zero_le _, Nat.zero_le _⟩) (fun r9 hr9 => ?_)
                    replace hr9 : r9 = v2 := hr9.trans e2
                    subst r9
                    refine lv_istore (lv' := [(6, .int v2), (5, .int 2), (4, .int ((((v0 - 224) * 64) + v1) - 128)), (3, .int 2), (2, .int v0), (0, .ref h), (1, .int i)]) hx hb dX2_codeOfNewBytes_89 hl (by decide) rfl (fun ls hl => ?_)
                    refine lv_iload hx hb dX2_codeOfNewBytes_91 (lv_at hl 0 rfl) ?_
                    refine lv_sipush (v := 128) hx hb dX2_codeOfNewBytes_93 (by decide) ?_
                    refine lv_icmp_lt (tgt := 107) hx hb dX2_codeOfNewBytes_96 (by decide) (fun c96_2 => ?_) (fun c96_2 => ?_)
                    · skip
                      refine lv_iconst (v := (-1)) hx hb dX2_codeOfNewBytes_107 (by decide) ?_
                      exact rtR hx hb hr hlocks dX2_codeOfNewBytes_108 (by unfold fX2_codeOfNewBytes; rw [if_pos c13_1, if_neg c22_1, if_pos c29_1, if_pos c38_1, if_pos c51_1, if_neg c96_1, if_pos c104_1, if_pos c96_2])
                    · skip
                      refine lv_iload hx hb dX2_codeOfNewBytes_99 (lv_at hl 0 rfl) ?_
                      refine lv_sipush (v := 191) hx hb dX2_codeOfNewBytes_101 (by decide) ?_
                      refine lv_icmp_le (tgt := 109) hx hb dX2_codeOfNewBytes_104 (by decide) (fun c104_2 => ?_) (fun c104_2 => ?_)
                      · skip
                        refine lv_iload hx hb dX2_codeOfNewBytes_109 (lv_at hl 2 rfl) ?_
                        refine lv_bipush (v := 64) hx hb dX2_codeOfNewBytes_111 (by decide) ?_
                        refine lv_imul hx hb dX2_codeOfNewBytes_113 ?_
                        refine lv_iload hx hb dX2_codeOfNewBytes_114 (lv_at hl 0 rfl) ?_
                        refine lv_iadd hx hb dX2_codeOfNewBytes_116 ?_
                        refine lv_sipush (v := 128) hx hb dX2_codeOfNewBytes_117 (by decide) ?_
                        refine lv_isub hx hb dX2_codeOfNewBytes_120 ?_
                        refine lv_istore (lv' := [(4, .int (((((((v0 - 224) * 64) + v1) - 128) * 64) + v2) - 128)), (6, .int v2), (5, .int 2), (3, .int 2), (2, .int v0), (0, .ref h), (1, .int i)]) hx hb dX2_codeOfNewBytes_121 hl (by decide) rfl (fun ls hl => ?_)
                        refine lv_iinc (v := 3) (lv' := [(5, .int 3), (4, .int (((((((v0 - 224) * 64) + v1) - 128) * 64) + v2) - 128)), (6, .int v2), (3, .int 2), (2, .int v0), (0, .ref h), (1, .int i)]) hx hb dX2_codeOfNewBytes_123 hl (k := 2) rfl (by decide) (by decide) rfl (fun ls hl => ?_)
                        refine lv_goto (tgt := 72) hx hb dX2_codeOfNewBytes_126 (by decide) ?_
                        refine lv_iload hx hb dX2_codeOfNewBytes_72 (lv_at hl 0 rfl) ?_
                        refine lv_iload_n hx hb dX2_codeOfNewBytes_74 rfl (lv_at hl 3 rfl) ?_
                        refine lv_icmp_gt (tgt := 129) hx hb dX2_codeOfNewBytes_75 (by decide) (fun c75_3 => ?_) (fun c75_3 => ?_)
                        · skip
                          refine lv_iload hx hb dX2_codeOfNewBytes_129 (lv_at hl 1 rfl) ?_
                          refine vp_callSi (W.runS ⟨hx, hb, hml, hown, hts⟩ (KX2_bytesBehindFirst l (((((((v0 - 224) * 64) + v1) - 128) * 64) + v2) - 128)) (va_cwS 1 hts gX2_codeOfNewBytes_X2_bytesBehindFirst rfl rfl rfl (by decide +kernel) ⟨Nat.le_of_ble_eq_true rfl, Nat.le_of_ble_eq_true rfl⟩) pcS_S rfl rfl hl.1 rfl (lv_room (Nat.le_of_ble_eq_true rfl)) dX2_codeOfNewBytes_131 ⟨Nat.zero_le _, Nat.zero_le _⟩) (fun r9 hr9 => ?_)
                          subst r9
                          refine lv_iload_n hx hb dX2_codeOfNewBytes_134 rfl (lv_at hl 3 rfl) ?_
                          refine lv_icmp_ne (tgt := 143) hx hb dX2_codeOfNewBytes_135 (by decide) (fun c135_1 => ?_) (fun c135_1 => ?_)
                          · skip
                            refine lv_iconst (v := (-1)) hx hb dX2_codeOfNewBytes_143 (by decide) ?_
                            exact rtR hx hb hr hlocks dX2_codeOfNewBytes_144 (by unfold fX2_codeOfNewBytes; rw [if_pos c13_1, if_neg c22_1, if_pos c29_1, if_pos c38_1, if_pos c51_1, if_neg c96_1, if_pos c104_1, if_neg c96_2, if_pos c104_2, if_neg c135_1])
                          · skip
                            refine lv_iload hx hb dX2_codeOfNewBytes_138 (lv_at hl 1 rfl) ?_
                            refine lv_goto (tgt := 144) hx hb dX2_codeOfNewBytes_140 (by decide) ?_
                            exact rtR hx hb hr hlocks dX2_codeOfNewBytes_144 (by unfold fX2_codeOfNewBytes; rw [if_pos c13_1, if_neg c22_1, if_pos c29_1, if_pos c38_1, if_pos c51_1, if_neg c96_1, if_pos c104_1, if_neg c96_2, if_pos c104_2, if_pos c135_1])
                        · exact absurd c75_3 (by decide)
                      · skip
                        refine lv_iconst (v := (-1)) hx hb dX2_codeOfNewBytes_107 (by decide) ?_
                        exact rtR hx hb hr hlocks dX2_codeOfNewBytes_108 (by unfold fX2_codeOfNewBytes; rw [if_pos c13_1, if_neg c22_1, if_pos c29_1, if_pos c38_1, if_pos c51_1, if_neg c96_1, if_pos c104_1, if_neg c96_2, if_neg c104_2])
                · skip
                  refine lv_iconst (v := (-1)) hx hb dX2_codeOfNewBytes_107 (by decide) ?_
                  exact rtR hx hb hr hlocks dX2_codeOfNewBytes_108 (by unfold fX2_codeOfNewBytes; rw [if_pos c13_1, if_neg c22_1, if_pos c29_1, if_pos c38_1, if_pos c51_1, if_neg c96_1, if_neg c104_1])
          · skip
            refine lv_iload_n hx hb dX2_codeOfNewBytes_54 rfl (lv_at hl 1 rfl) ?_
            refine lv_sipush (v := 192) hx hb dX2_codeOfNewBytes_55 (by decide) ?_
            refine lv_isub hx hb dX2_codeOfNewBytes_58 ?_
            refine lv_goto (tgt := 67) hx hb dX2_codeOfNewBytes_59 (by decide) ?_
            refine lv_istore (lv' := [(4, .int (v0 - 192)), (3, .int 2), (2, .int v0), (0, .ref h), (1, .int i)]) hx hb dX2_codeOfNewBytes_67 hl (by decide) rfl (fun ls hl => ?_)
            refine lv_iconst (v := 1) hx hb dX2_codeOfNewBytes_69 (by decide) ?_
            refine lv_istore (lv' := [(5, .int 1), (4, .int (v0 - 192)), (3, .int 2), (2, .int v0), (0, .ref h), (1, .int i)]) hx hb dX2_codeOfNewBytes_70 hl (by decide) rfl (fun ls hl => ?_)
            refine lv_iload hx hb dX2_codeOfNewBytes_72 (lv_at hl 0 rfl) ?_
            refine lv_iload_n hx hb dX2_codeOfNewBytes_74 rfl (lv_at hl 2 rfl) ?_
            refine lv_icmp_gt (tgt := 129) hx hb dX2_codeOfNewBytes_75 (by decide) (fun c75_4 => ?_) (fun c75_4 => ?_)
            · exact absurd c75_4 (by decide)
            · skip
              refine lv_aload_n hx hb dX2_codeOfNewBytes_78 rfl (lv_at hl 4 rfl) ?_
              refine va_get (D := D) (ci := 3) (v := .ref t0) (C := RX2) (T := TX2) (N := 11) hx hb hts (by decide +kernel) hown hK hP 0 rfl rfl 0 (by decide) (hts (.fieldLink RX2 14 "CharacterRows" "collected" "LCharacterRows$Octets;") (by decide +kernel)) (fun _ h9 => h9) rfl dX2_codeOfNewBytes_79 ?_
              refine lv_iload_n hx hb dX2_codeOfNewBytes_82 rfl (lv_at hl 5 rfl) ?_
              refine lv_iload hx hb dX2_codeOfNewBytes_83 (lv_at hl 0 rfl) ?_
              refine lv_iadd hx hb dX2_codeOfNewBytes_85 ?_
              refine vp_callSi (W.runV ⟨hx, hb, hml, hown, hts⟩ (KX1_at l D t0 b0 c0 f0 x0 200 (by decide) o0 (i + 1)) (cwV 1 hts gX2_codeOfNewBytes_X1_at rfl rfl rfl (by decide +kernel) ⟨Nat.le_of_ble_eq_true rfl, Nat.le_of_ble_eq_true rfl⟩) (pcR_V (hP.sub (ws' := [(t0, .inr (2, [.ref b0, .int (nI x0.length)])), (b0, .inl (c0, 200, .inl f0))]) [1, 2] rfl) (hK.sub (tys' := [(c0, .byte)]) [0] rfl) hN 0 rfl rfl) rfl rfl hl.1 rfl (lv_room (Nat.le_of_ble_eq_true rfl)) dX2_codeOfNewBytes_86 ⟨Nat.zero_le _, Nat.zero_le _⟩) (fun r9 hr9 => ?_)
              replace hr9 : r9 = v1 := hr9.trans e1
              subst r9
              refine lv_istore (lv' := [(6, .int v1), (5, .int 1), (4, .int (v0 - 192)), (3, .int 2), (2, .int v0), (0, .ref h), (1, .int i)]) hx hb dX2_codeOfNewBytes_89 hl (by decide) rfl (fun ls hl => ?_)
              refine lv_iload hx hb dX2_codeOfNewBytes_91 (lv_at hl 0 rfl) ?_
              refine lv_sipush (v := 128) hx hb dX2_codeOfNewBytes_93 (by decide) ?_
              refine lv_icmp_lt (tgt := 107) hx hb dX2_codeOfNewBytes_96 (by decide) (fun c96_3 => ?_) (fun c96_3 => ?_)
              · skip
                refine lv_iconst (v := (-1)) hx hb dX2_codeOfNewBytes_107 (by decide) ?_
                exact rtR hx hb hr hlocks dX2_codeOfNewBytes_108 (by unfold fX2_codeOfNewBytes; rw [if_pos c13_1, if_neg c22_1, if_pos c29_1, if_pos c38_1, if_neg c51_1, if_pos c96_3])
              · skip
                refine lv_iload hx hb dX2_codeOfNewBytes_99 (lv_at hl 0 rfl) ?_
                refine lv_sipush (v := 191) hx hb dX2_codeOfNewBytes_101 (by decide) ?_
                refine lv_icmp_le (tgt := 109) hx hb dX2_codeOfNewBytes_104 (by decide) (fun c104_3 => ?_) (fun c104_3 => ?_)
                · skip
                  refine lv_iload hx hb dX2_codeOfNewBytes_109 (lv_at hl 2 rfl) ?_
                  refine lv_bipush (v := 64) hx hb dX2_codeOfNewBytes_111 (by decide) ?_
                  refine lv_imul hx hb dX2_codeOfNewBytes_113 ?_
                  refine lv_iload hx hb dX2_codeOfNewBytes_114 (lv_at hl 0 rfl) ?_
                  refine lv_iadd hx hb dX2_codeOfNewBytes_116 ?_
                  refine lv_sipush (v := 128) hx hb dX2_codeOfNewBytes_117 (by decide) ?_
                  refine lv_isub hx hb dX2_codeOfNewBytes_120 ?_
                  refine lv_istore (lv' := [(4, .int ((((v0 - 192) * 64) + v1) - 128)), (6, .int v1), (5, .int 1), (3, .int 2), (2, .int v0), (0, .ref h), (1, .int i)]) hx hb dX2_codeOfNewBytes_121 hl (by decide) rfl (fun ls hl => ?_)
                  refine lv_iinc (v := 2) (lv' := [(5, .int 2), (4, .int ((((v0 - 192) * 64) + v1) - 128)), (6, .int v1), (3, .int 2), (2, .int v0), (0, .ref h), (1, .int i)]) hx hb dX2_codeOfNewBytes_123 hl (k := 2) rfl (by decide) (by decide) rfl (fun ls hl => ?_)
                  refine lv_goto (tgt := 72) hx hb dX2_codeOfNewBytes_126 (by decide) ?_
                  refine lv_iload hx hb dX2_codeOfNewBytes_72 (lv_at hl 0 rfl) ?_
                  refine lv_iload_n hx hb dX2_codeOfNewBytes_74 rfl (lv_at hl 3 rfl) ?_
                  refine lv_icmp_gt (tgt := 129) hx hb dX2_codeOfNewBytes_75 (by decide) (fun c75_5 => ?_) (fun c75_5 => ?_)
                  · exact absurd c75_5 (by decide)
                  · skip
                    refine lv_aload_n hx hb dX2_codeOfNewBytes_78 rfl (lv_at hl 5 rfl) ?_
                    refine va_get (D := D) (ci := 3) (v := .ref t0) (C := RX2) (T := TX2) (N := 11) hx hb hts (by decide +kernel) hown hK hP 0 rfl rfl 0 (by decide) (hts (.fieldLink RX2 14 "CharacterRows" "collected" "LCharacterRows$Octets;") (by decide +kernel)) (fun _ h9 => h9) rfl dX2_codeOfNewBytes_79 ?_
                    refine lv_iload_n hx hb dX2_codeOfNewBytes_82 rfl (lv_at hl 6 rfl) ?_
                    refine lv_iload hx hb dX2_codeOfNewBytes_83 (lv_at hl 0 rfl) ?_
                    refine lv_iadd hx hb dX2_codeOfNewBytes_85 ?_
                    refine vp_callSi (W.runV ⟨hx, hb, hml, hown, hts⟩ (KX1_at l D t0 b0 c0 f0 x0 200 (by decide) o0 (i + 2)) (cwV 1 hts gX2_codeOfNewBytes_X1_at rfl rfl rfl (by decide +kernel) ⟨Nat.le_of_ble_eq_true rfl, Nat.le_of_ble_eq_true rfl⟩) (pcR_V (hP.sub (ws' := [(t0, .inr (2, [.ref b0, .int (nI x0.length)])), (b0, .inl (c0, 200, .inl f0))]) [1, 2] rfl) (hK.sub (tys' := [(c0, .byte)]) [0] rfl) hN 0 rfl rfl) rfl rfl hl.1 rfl (lv_room (Nat.le_of_ble_eq_true rfl)) dX2_codeOfNewBytes_86 ⟨Nat.zero_le _, Nat.zero_le _⟩) (fun r9 hr9 => ?_)
                    replace hr9 : r9 = v2 := hr9.trans e2
                    subst r9
                    refine lv_istore (lv' := [(6, .int v2), (5, .int 2), (4, .int ((((v0 - 192) * 64) + v1) - 128)), (3, .int 2), (2, .int v0), (0, .ref h), (1, .int i)]) hx hb dX2_codeOfNewBytes_89 hl (by decide) rfl (fun ls hl => ?_)
                    refine lv_iload hx hb dX2_codeOfNewBytes_91 (lv_at hl 0 rfl) ?_
                    refine lv_sipush (v := 128) hx hb dX2_codeOfNewBytes_93 (by decide) ?_
                    refine lv_icmp_lt (tgt := 107) hx hb dX2_codeOfNewBytes_96 (by decide) (fun c96_4 => ?_) (fun c96_4 => ?_)
                    · skip
                      refine lv_iconst (v := (-1)) hx hb dX2_codeOfNewBytes_107 (by decide) ?_
                      exact rtR hx hb hr hlocks dX2_codeOfNewBytes_108 (by unfold fX2_codeOfNewBytes; rw [if_pos c13_1, if_neg c22_1, if_pos c29_1, if_pos c38_1, if_neg c51_1, if_neg c96_3, if_pos c104_3, if_pos c96_4])
                    · skip
                      refine lv_iload hx hb dX2_codeOfNewBytes_99 (lv_at hl 0 rfl) ?_
                      refine lv_sipush (v := 191) hx hb dX2_codeOfNewBytes_101 (by decide) ?_
                      refine lv_icmp_le (tgt := 109) hx hb dX2_codeOfNewBytes_104 (by decide) (fun c104_4 => ?_) (fun c104_4 => ?_)
                      · skip
                        refine lv_iload hx hb dX2_codeOfNewBytes_109 (lv_at hl 2 rfl) ?_
                        refine lv_bipush (v := 64) hx hb dX2_codeOfNewBytes_111 (by decide) ?_
                        refine lv_imul hx hb dX2_codeOfNewBytes_113 ?_
                        refine lv_iload hx hb dX2_codeOfNewBytes_114 (lv_at hl 0 rfl) ?_
                        refine lv_iadd hx hb dX2_codeOfNewBytes_116 ?_
                        refine lv_sipush (v := 128) hx hb dX2_codeOfNewBytes_117 (by decide) ?_
                        refine lv_isub hx hb dX2_codeOfNewBytes_120 ?_
                        refine lv_istore (lv' := [(4, .int (((((((v0 - 192) * 64) + v1) - 128) * 64) + v2) - 128)), (6, .int v2), (5, .int 2), (3, .int 2), (2, .int v0), (0, .ref h), (1, .int i)]) hx hb dX2_codeOfNewBytes_121 hl (by decide) rfl (fun ls hl => ?_)
                        refine lv_iinc (v := 3) (lv' := [(5, .int 3), (4, .int (((((((v0 - 192) * 64) + v1) - 128) * 64) + v2) - 128)), (6, .int v2), (3, .int 2), (2, .int v0), (0, .ref h), (1, .int i)]) hx hb dX2_codeOfNewBytes_123 hl (k := 2) rfl (by decide) (by decide) rfl (fun ls hl => ?_)
                        refine lv_goto (tgt := 72) hx hb dX2_codeOfNewBytes_126 (by decide) ?_
                        refine lv_iload hx hb dX2_codeOfNewBytes_72 (lv_at hl 0 rfl) ?_
                        refine lv_iload_n hx hb dX2_codeOfNewBytes_74 rfl (lv_at hl 3 rfl) ?_
                        refine lv_icmp_gt (tgt := 129) hx hb dX2_codeOfNewBytes_75 (by decide) (fun c75_6 => ?_) (fun c75_6 => ?_)
                        · skip
                          refine lv_iload hx hb dX2_codeOfNewBytes_129 (lv_at hl 1 rfl) ?_
                          refine vp_callSi (W.runS ⟨hx, hb, hml, hown, hts⟩ (KX2_bytesBehindFirst l (((((((v0 - 192) * 64) + v1) - 128) * 64) + v2) - 128)) (va_cwS 1 hts gX2_codeOfNewBytes_X2_bytesBehindFirst rfl rfl rfl (by decide +kernel) ⟨Nat.le_of_ble_eq_true rfl, Nat.le_of_ble_eq_true rfl⟩) pcS_S rfl rfl hl.1 rfl (lv_room (Nat.le_of_ble_eq_true rfl)) dX2_codeOfNewBytes_131 ⟨Nat.zero_le _, Nat.zero_le _⟩) (fun r9 hr9 => ?_)
                          subst r9
                          refine lv_iload_n hx hb dX2_codeOfNewBytes_134 rfl (lv_at hl 3 rfl) ?_
                          refine lv_icmp_ne (tgt := 143) hx hb dX2_codeOfNewBytes_135 (by decide) (fun c135_2 => ?_) (fun c135_2 => ?_)
                          · skip
                            refine lv_iconst (v := (-1)) hx hb dX2_codeOfNewBytes_143 (by decide) ?_
                            exact rtR hx hb hr hlocks dX2_codeOfNewBytes_144 (by unfold fX2_codeOfNewBytes; rw [if_pos c13_1, if_neg c22_1, if_pos c29_1, if_pos c38_1, if_neg c51_1, if_neg c96_3, if_pos c104_3, if_neg c96_4, if_pos c104_4, if_neg c135_2])
                          · skip
                            refine lv_iload hx hb dX2_codeOfNewBytes_138 (lv_at hl 1 rfl) ?_
                            refine lv_goto (tgt := 144) hx hb dX2_codeOfNewBytes_140 (by decide) ?_
                            exact rtR hx hb hr hlocks dX2_codeOfNewBytes_144 (by unfold fX2_codeOfNewBytes; rw [if_pos c13_1, if_neg c22_1, if_pos c29_1, if_pos c38_1, if_neg c51_1, if_neg c96_3, if_pos c104_3, if_neg c96_4, if_pos c104_4, if_pos c135_2])
                        · exact absurd c75_6 (by decide)
                      · skip
                        refine lv_iconst (v := (-1)) hx hb dX2_codeOfNewBytes_107 (by decide) ?_
                        exact rtR hx hb hr hlocks dX2_codeOfNewBytes_108 (by unfold fX2_codeOfNewBytes; rw [if_pos c13_1, if_neg c22_1, if_pos c29_1, if_pos c38_1, if_neg c51_1, if_neg c96_3, if_pos c104_3, if_neg c96_4, if_neg c104_4])
                · skip
                  refine lv_iconst (v := (-1)) hx hb dX2_codeOfNewBytes_107 (by decide) ?_
                  exact rtR hx hb hr hlocks dX2_codeOfNewBytes_108 (by unfold fX2_codeOfNewBytes; rw [if_pos c13_1, if_neg c22_1, if_pos c29_1, if_pos c38_1, if_neg c51_1, if_neg c96_3, if_neg c104_3])
        · skip
          refine lv_iconst (v := 1) hx hb dX2_codeOfNewBytes_41 (by decide) ?_
          refine lv_goto (tgt := 46) hx hb dX2_codeOfNewBytes_42 (by decide) ?_
          refine lv_istore_n (lv' := [(3, .int 1), (2, .int v0), (0, .ref h), (1, .int i)]) hx hb dX2_codeOfNewBytes_46 rfl hl (by decide) rfl (fun ls hl => ?_)
          refine lv_iload_n hx hb dX2_codeOfNewBytes_47 rfl (lv_at hl 1 rfl) ?_
          refine lv_sipush (v := 224) hx hb dX2_codeOfNewBytes_48 (by decide) ?_
          refine lv_icmp_ge (tgt := 62) hx hb dX2_codeOfNewBytes_51 (by decide) (fun c51_2 => ?_) (fun c51_2 => ?_)
          · skip
            refine lv_iload_n hx hb dX2_codeOfNewBytes_62 rfl (lv_at hl 1 rfl) ?_
            refine lv_sipush (v := 224) hx hb dX2_codeOfNewBytes_63 (by decide) ?_
            refine lv_isub hx hb dX2_codeOfNewBytes_66 ?_
            refine lv_istore (lv' := [(4, .int (v0 - 224)), (3, .int 1), (2, .int v0), (0, .ref h), (1, .int i)]) hx hb dX2_codeOfNewBytes_67 hl (by decide) rfl (fun ls hl => ?_)
            refine lv_iconst (v := 1) hx hb dX2_codeOfNewBytes_69 (by decide) ?_
            refine lv_istore (lv' := [(5, .int 1), (4, .int (v0 - 224)), (3, .int 1), (2, .int v0), (0, .ref h), (1, .int i)]) hx hb dX2_codeOfNewBytes_70 hl (by decide) rfl (fun ls hl => ?_)
            refine lv_iload hx hb dX2_codeOfNewBytes_72 (lv_at hl 0 rfl) ?_
            refine lv_iload_n hx hb dX2_codeOfNewBytes_74 rfl (lv_at hl 2 rfl) ?_
            refine lv_icmp_gt (tgt := 129) hx hb dX2_codeOfNewBytes_75 (by decide) (fun c75_7 => ?_) (fun c75_7 => ?_)
            · exact absurd c75_7 (by decide)
            · skip
              refine lv_aload_n hx hb dX2_codeOfNewBytes_78 rfl (lv_at hl 4 rfl) ?_
              refine va_get (D := D) (ci := 3) (v := .ref t0) (C := RX2) (T := TX2) (N := 11) hx hb hts (by decide +kernel) hown hK hP 0 rfl rfl 0 (by decide) (hts (.fieldLink RX2 14 "CharacterRows" "collected" "LCharacterRows$Octets;") (by decide +kernel)) (fun _ h9 => h9) rfl dX2_codeOfNewBytes_79 ?_
              refine lv_iload_n hx hb dX2_codeOfNewBytes_82 rfl (lv_at hl 5 rfl) ?_
              refine lv_iload hx hb dX2_codeOfNewBytes_83 (lv_at hl 0 rfl) ?_
              refine lv_iadd hx hb dX2_codeOfNewBytes_85 ?_
              refine vp_callSi (W.runV ⟨hx, hb, hml, hown, hts⟩ (KX1_at l D t0 b0 c0 f0 x0 200 (by decide) o0 (i + 1)) (cwV 1 hts gX2_codeOfNewBytes_X1_at rfl rfl rfl (by decide +kernel) ⟨Nat.le_of_ble_eq_true rfl, Nat.le_of_ble_eq_true rfl⟩) (pcR_V (hP.sub (ws' := [(t0, .inr (2, [.ref b0, .int (nI x0.length)])), (b0, .inl (c0, 200, .inl f0))]) [1, 2] rfl) (hK.sub (tys' := [(c0, .byte)]) [0] rfl) hN 0 rfl rfl) rfl rfl hl.1 rfl (lv_room (Nat.le_of_ble_eq_true rfl)) dX2_codeOfNewBytes_86 ⟨Nat.zero_le _, Nat.zero_le _⟩) (fun r9 hr9 => ?_)
              replace hr9 : r9 = v1 := hr9.trans e1
              subst r9
              refine lv_istore (lv' := [(6, .int v1), (5, .int 1), (4, .int (v0 - 224)), (3, .int 1), (2, .int v0), (0, .ref h), (1, .int i)]) hx hb dX2_codeOfNewBytes_89 hl (by decide) rfl (fun ls hl => ?_)
              refine lv_iload hx hb dX2_codeOfNewBytes_91 (lv_at hl 0 rfl) ?_
              refine lv_sipush (v := 128) hx hb dX2_codeOfNewBytes_93 (by decide) ?_
              refine lv_icmp_lt (tgt := 107) hx hb dX2_codeOfNewBytes_96 (by decide) (fun c96_5 => ?_) (fun c96_5 => ?_)
              · skip
                refine lv_iconst (v := (-1)) hx hb dX2_codeOfNewBytes_107 (by decide) ?_
                exact rtR hx hb hr hlocks dX2_codeOfNewBytes_108 (by unfold fX2_codeOfNewBytes; rw [if_pos c13_1, if_neg c22_1, if_pos c29_1, if_neg c38_1, if_pos c51_2, if_pos c96_5])
              · skip
                refine lv_iload hx hb dX2_codeOfNewBytes_99 (lv_at hl 0 rfl) ?_
                refine lv_sipush (v := 191) hx hb dX2_codeOfNewBytes_101 (by decide) ?_
                refine lv_icmp_le (tgt := 109) hx hb dX2_codeOfNewBytes_104 (by decide) (fun c104_5 => ?_) (fun c104_5 => ?_)
                · skip
                  refine lv_iload hx hb dX2_codeOfNewBytes_109 (lv_at hl 2 rfl) ?_
                  refine lv_bipush (v := 64) hx hb dX2_codeOfNewBytes_111 (by decide) ?_
                  refine lv_imul hx hb dX2_codeOfNewBytes_113 ?_
                  refine lv_iload hx hb dX2_codeOfNewBytes_114 (lv_at hl 0 rfl) ?_
                  refine lv_iadd hx hb dX2_codeOfNewBytes_116 ?_
                  refine lv_sipush (v := 128) hx hb dX2_codeOfNewBytes_117 (by decide) ?_
                  refine lv_isub hx hb dX2_codeOfNewBytes_120 ?_
                  refine lv_istore (lv' := [(4, .int ((((v0 - 224) * 64) + v1) - 128)), (6, .int v1), (5, .int 1), (3, .int 1), (2, .int v0), (0, .ref h), (1, .int i)]) hx hb dX2_codeOfNewBytes_121 hl (by decide) rfl (fun ls hl => ?_)
                  refine lv_iinc (v := 2) (lv' := [(5, .int 2), (4, .int ((((v0 - 224) * 64) + v1) - 128)), (6, .int v1), (3, .int 1), (2, .int v0), (0, .ref h), (1, .int i)]) hx hb dX2_codeOfNewBytes_123 hl (k := 2) rfl (by decide) (by decide) rfl (fun ls hl => ?_)
                  refine lv_goto (tgt := 72) hx hb dX2_codeOfNewBytes_126 (by decide) ?_
                  refine lv_iload hx hb dX2_codeOfNewBytes_72 (lv_at hl 0 rfl) ?_
                  refine lv_iload_n hx hb dX2_codeOfNewBytes_74 rfl (lv_at hl 3 rfl) ?_
                  refine lv_icmp_gt (tgt := 129) hx hb dX2_codeOfNewBytes_75 (by decide) (fun c75_8 => ?_) (fun c75_8 => ?_)
                  · skip
                    refine lv_iload hx hb dX2_codeOfNewBytes_129 (lv_at hl 1 rfl) ?_
                    refine vp_callSi (W.runS ⟨hx, hb, hml, hown, hts⟩ (KX2_bytesBehindFirst l ((((v0 - 224) * 64) + v1) - 128)) (va_cwS 1 hts gX2_codeOfNewBytes_X2_bytesBehindFirst rfl rfl rfl (by decide +kernel) ⟨Nat.le_of_ble_eq_true rfl, Nat.le_of_ble_eq_true rfl⟩) pcS_S rfl rfl hl.1 rfl (lv_room (Nat.le_of_ble_eq_true rfl)) dX2_codeOfNewBytes_131 ⟨Nat.zero_le _, Nat.zero_le _⟩) (fun r9 hr9 => ?_)
                    subst r9
                    refine lv_iload_n hx hb dX2_codeOfNewBytes_134 rfl (lv_at hl 3 rfl) ?_
                    refine lv_icmp_ne (tgt := 143) hx hb dX2_codeOfNewBytes_135 (by decide) (fun c135_3 => ?_) (fun c135_3 => ?_)
                    · skip
                      refine lv_iconst (v := (-1)) hx hb dX2_codeOfNewBytes_143 (by decide) ?_
                      exact rtR hx hb hr hlocks dX2_codeOfNewBytes_144 (by unfold fX2_codeOfNewBytes; rw [if_pos c13_1, if_neg c22_1, if_pos c29_1, if_neg c38_1, if_pos c51_2, if_neg c96_5, if_pos c104_5, if_neg c135_3])
                    · skip
                      refine lv_iload hx hb dX2_codeOfNewBytes_138 (lv_at hl 1 rfl) ?_
                      refine lv_goto (tgt := 144) hx hb dX2_codeOfNewBytes_140 (by decide) ?_
                      exact rtR hx hb hr hlocks dX2_codeOfNewBytes_144 (by unfold fX2_codeOfNewBytes; rw [if_pos c13_1, if_neg c22_1, if_pos c29_1, if_neg c38_1, if_pos c51_2, if_neg c96_5, if_pos c104_5, if_pos c135_3])
                  · exact absurd c75_8 (by decide)
                · skip
                  refine lv_iconst (v := (-1)) hx hb dX2_codeOfNewBytes_107 (by decide) ?_
                  exact rtR hx hb hr hlocks dX2_codeOfNewBytes_108 (by unfold fX2_codeOfNewBytes; rw [if_pos c13_1, if_neg c22_1, if_pos c29_1, if_neg c38_1, if_pos c51_2, if_neg c96_5, if_neg c104_5])
          · skip
            refine lv_iload_n hx hb dX2_codeOfNewBytes_54 rfl (lv_at hl 1 rfl) ?_
            refine lv_sipush (v := 192) hx hb dX2_codeOfNewBytes_55 (by decide) ?_
            refine lv_isub hx hb dX2_codeOfNewBytes_58 ?_
            refine lv_goto (tgt := 67) hx hb dX2_codeOfNewBytes_59 (by decide) ?_
            refine lv_istore (lv' := [(4, .int (v0 - 192)), (3, .int 1), (2, .int v0), (0, .ref h), (1, .int i)]) hx hb dX2_codeOfNewBytes_67 hl (by decide) rfl (fun ls hl => ?_)
            refine lv_iconst (v := 1) hx hb dX2_codeOfNewBytes_69 (by decide) ?_
            refine lv_istore (lv' := [(5, .int 1), (4, .int (v0 - 192)), (3, .int 1), (2, .int v0), (0, .ref h), (1, .int i)]) hx hb dX2_codeOfNewBytes_70 hl (by decide) rfl (fun ls hl => ?_)
            refine lv_iload hx hb dX2_codeOfNewBytes_72 (lv_at hl 0 rfl) ?_
            refine lv_iload_n hx hb dX2_codeOfNewBytes_74 rfl (lv_at hl 2 rfl) ?_
            refine lv_icmp_gt (tgt := 129) hx hb dX2_codeOfNewBytes_75 (by decide) (fun c75_9 => ?_) (fun c75_9 => ?_)
            · exact absurd c75_9 (by decide)
            · skip
              refine lv_aload_n hx hb dX2_codeOfNewBytes_78 rfl (lv_at hl 4 rfl) ?_
              refine va_get (D := D) (ci := 3) (v := .ref t0) (C := RX2) (T := TX2) (N := 11) hx hb hts (by decide +kernel) hown hK hP 0 rfl rfl 0 (by decide) (hts (.fieldLink RX2 14 "CharacterRows" "collected" "LCharacterRows$Octets;") (by decide +kernel)) (fun _ h9 => h9) rfl dX2_codeOfNewBytes_79 ?_
              refine lv_iload_n hx hb dX2_codeOfNewBytes_82 rfl (lv_at hl 5 rfl) ?_
              refine lv_iload hx hb dX2_codeOfNewBytes_83 (lv_at hl 0 rfl) ?_
              refine lv_iadd hx hb dX2_codeOfNewBytes_85 ?_
              refine vp_callSi (W.runV ⟨hx, hb, hml, hown, hts⟩ (KX1_at l D t0 b0 c0 f0 x0 200 (by decide) o0 (i + 1)) (cwV 1 hts gX2_codeOfNewBytes_X1_at rfl rfl rfl (by decide +kernel) ⟨Nat.le_of_ble_eq_true rfl, Nat.le_of_ble_eq_true rfl⟩) (pcR_V (hP.sub (ws' := [(t0, .inr (2, [.ref b0, .int (nI x0.length)])), (b0, .inl (c0, 200, .inl f0))]) [1, 2] rfl) (hK.sub (tys' := [(c0, .byte)]) [0] rfl) hN 0 rfl rfl) rfl rfl hl.1 rfl (lv_room (Nat.le_of_ble_eq_true rfl)) dX2_codeOfNewBytes_86 ⟨Nat.zero_le _, Nat.zero_le _⟩) (fun r9 hr9 => ?_)
              replace hr9 : r9 = v1 := hr9.trans e1
              subst r9
              refine lv_istore (lv' := [(6, .int v1), (5, .int 1), (4, .int (v0 - 192)), (3, .int 1), (2, .int v0), (0, .ref h), (1, .int i)]) hx hb dX2_codeOfNewBytes_89 hl (by decide) rfl (fun ls hl => ?_)
              refine lv_iload hx hb dX2_codeOfNewBytes_91 (lv_at hl 0 rfl) ?_
              refine lv_sipush (v := 128) hx hb dX2_codeOfNewBytes_93 (by decide) ?_
              refine lv_icmp_lt (tgt := 107) hx hb dX2_codeOfNewBytes_96 (by decide) (fun c96_6 => ?_) (fun c96_6 => ?_)
              · skip
                refine lv_iconst (v := (-1)) hx hb dX2_codeOfNewBytes_107 (by decide) ?_
                exact rtR hx hb hr hlocks dX2_codeOfNewBytes_108 (by unfold fX2_codeOfNewBytes; rw [if_pos c13_1, if_neg c22_1, if_pos c29_1, if_neg c38_1, if_neg c51_2, if_pos c96_6])
              · skip
                refine lv_iload hx hb dX2_codeOfNewBytes_99 (lv_at hl 0 rfl) ?_
                refine lv_sipush (v := 191) hx hb dX2_codeOfNewBytes_101 (by decide) ?_
                refine lv_icmp_le (tgt := 109) hx hb dX2_codeOfNewBytes_104 (by decide) (fun c104_6 => ?_) (fun c104_6 => ?_)
                · skip
                  refine lv_iload hx hb dX2_codeOfNewBytes_109 (lv_at hl 2 rfl) ?_
                  refine lv_bipush (v := 64) hx hb dX2_codeOfNewBytes_111 (by decide) ?_
                  refine lv_imul hx hb dX2_codeOfNewBytes_113 ?_
                  refine lv_iload hx hb dX2_codeOfNewBytes_114 (lv_at hl 0 rfl) ?_
                  refine lv_iadd hx hb dX2_codeOfNewBytes_116 ?_
                  refine lv_sipush (v := 128) hx hb dX2_codeOfNewBytes_117 (by decide) ?_
                  refine lv_isub hx hb dX2_codeOfNewBytes_120 ?_
                  refine lv_istore (lv' := [(4, .int ((((v0 - 192) * 64) + v1) - 128)), (6, .int v1), (5, .int 1), (3, .int 1), (2, .int v0), (0, .ref h), (1, .int i)]) hx hb dX2_codeOfNewBytes_121 hl (by decide) rfl (fun ls hl => ?_)
                  refine lv_iinc (v := 2) (lv' := [(5, .int 2), (4, .int ((((v0 - 192) * 64) + v1) - 128)), (6, .int v1), (3, .int 1), (2, .int v0), (0, .ref h), (1, .int i)]) hx hb dX2_codeOfNewBytes_123 hl (k := 2) rfl (by decide) (by decide) rfl (fun ls hl => ?_)
                  refine lv_goto (tgt := 72) hx hb dX2_codeOfNewBytes_126 (by decide) ?_
                  refine lv_iload hx hb dX2_codeOfNewBytes_72 (lv_at hl 0 rfl) ?_
                  refine lv_iload_n hx hb dX2_codeOfNewBytes_74 rfl (lv_at hl 3 rfl) ?_
                  refine lv_icmp_gt (tgt := 129) hx hb dX2_codeOfNewBytes_75 (by decide) (fun c75_10 => ?_) (fun c75_10 => ?_)
                  · skip
                    refine lv_iload hx hb dX2_codeOfNewBytes_129 (lv_at hl 1 rfl) ?_
                    refine vp_callSi (W.runS ⟨hx, hb, hml, hown, hts⟩ (KX2_bytesBehindFirst l ((((v0 - 192) * 64) + v1) - 128)) (va_cwS 1 hts gX2_codeOfNewBytes_X2_bytesBehindFirst rfl rfl rfl (by decide +kernel) ⟨Nat.le_of_ble_eq_true rfl, Nat.le_of_ble_eq_true rfl⟩) pcS_S rfl rfl hl.1 rfl (lv_room (Nat.le_of_ble_eq_true rfl)) dX2_codeOfNewBytes_131 ⟨Nat.zero_le _, Nat.zero_le _⟩) (fun r9 hr9 => ?_)
                    subst r9
                    refine lv_iload_n hx hb dX2_codeOfNewBytes_134 rfl (lv_at hl 3 rfl) ?_
                    refine lv_icmp_ne (tgt := 143) hx hb dX2_codeOfNewBytes_135 (by decide) (fun c135_4 => ?_) (fun c135_4 => ?_)
                    · skip
                      refine lv_iconst (v := (-1)) hx hb dX2_codeOfNewBytes_143 (by decide) ?_
                      exact rtR hx hb hr hlocks dX2_codeOfNewBytes_144 (by unfold fX2_codeOfNewBytes; rw [if_pos c13_1, if_neg c22_1, if_pos c29_1, if_neg c38_1, if_neg c51_2, if_neg c96_6, if_pos c104_6, if_neg c135_4])
                    · skip
                      refine lv_iload hx hb dX2_codeOfNewBytes_138 (lv_at hl 1 rfl) ?_
                      refine lv_goto (tgt := 144) hx hb dX2_codeOfNewBytes_140 (by decide) ?_
                      exact rtR hx hb hr hlocks dX2_codeOfNewBytes_144 (by unfold fX2_codeOfNewBytes; rw [if_pos c13_1, if_neg c22_1, if_pos c29_1, if_neg c38_1, if_neg c51_2, if_neg c96_6, if_pos c104_6, if_pos c135_4])
                  · exact absurd c75_10 (by decide)
                · skip
                  refine lv_iconst (v := (-1)) hx hb dX2_codeOfNewBytes_107 (by decide) ?_
                  exact rtR hx hb hr hlocks dX2_codeOfNewBytes_108 (by unfold fX2_codeOfNewBytes; rw [if_pos c13_1, if_neg c22_1, if_pos c29_1, if_neg c38_1, if_neg c51_2, if_neg c96_6, if_neg c104_6])
      · skip
        refine lv_iconst (v := (-1)) hx hb dX2_codeOfNewBytes_32 (by decide) ?_
        exact rtR hx hb hr hlocks dX2_codeOfNewBytes_33 (by unfold fX2_codeOfNewBytes; rw [if_pos c13_1, if_neg c22_1, if_neg c29_1])
  · skip
    refine lv_iload_n hx hb dX2_codeOfNewBytes_16 rfl (lv_at hl 0 rfl) ?_
    exact rtR hx hb hr hlocks dX2_codeOfNewBytes_17 (by unfold fX2_codeOfNewBytes; rw [if_neg c13_1])
set_option maxHeartbeats 4000000 in
set_option maxRecDepth 100000 in
theorem KX2_tell (l : Launch) (D : va_G) (h t0 t1 t2 t3 t4 t5 t6 t7 t8 t9 : Nat) (si : Int32) (b8 : Nat) (c8 : ClassId) (f8 : Nat → Int32) (x8 : List Int32) (o8 : rw_ok f8 200 x8) (b9 : Nat) (c9 : ClassId) (f9 : Nat → Int32) (x9 : List Int32) (o9 : rw_ok f9 200 x9) (v0 v1 : Int32) (sz : Nat) : Met l yX2_tell wsX2_tell ({ frames := 1, cells := 0, slots := 0, locals := 21 }) (pcM D sz [(h, .inr (3, [.ref t0, .ref t1, .ref t2, .ref t3, .ref t4, .ref t5, .ref t6, .ref t7, .ref t8, .ref t9, .int si])), (t8, .inr (1, [.ref b8, .int (nI x8.length)])), (b8, .inl (c8, 200, .inl f8)), (t9, .inr (1, [.ref b9, .int (nI x9.length)])), (b9, .inl (c9, 200, .inl f9))] [(c8, .int), (c9, .int)] [.ref h, .int v0, .int v1]) (qcV (S := (Nat → Int32) × (Nat → Int32)) D (fun u => rw_ok u.1 200 (rw_add 200 x8 v0) ∧ rw_ok u.2 200 (rw_add 200 x9 v1)) (fun u => [(h, .inr (3, [.ref t0, .ref t1, .ref t2, .ref t3, .ref t4, .ref t5, .ref t6, .ref t7, .ref t8, .ref t9, .int si])), (t8, .inr (1, [.ref b8, .int (nI (rw_add 200 x8 v0).length)])), (b8, .inl (c8, 200, .inl u.1)), (t9, .inr (1, [.ref b9, .int (nI (rw_add 200 x9 v1).length)])), (b9, .inl (c9, 200, .inl u.2))]) (va_A [(h, .inr (3, [.ref t0, .ref t1, .ref t2, .ref t3, .ref t4, .ref t5, .ref t6, .ref t7, .ref t8, .ref t9, .int si])), (t8, .inr (1, [.ref b8, .int (nI x8.length)])), (b8, .inl (c8, 200, .inl f8)), (t9, .inr (1, [.ref b9, .int (nI x9.length)])), (b9, .inl (c9, 200, .inl f9))] sz)) 0 0 (va_A [(h, .inr (3, [.ref t0, .ref t1, .ref t2, .ref t3, .ref t4, .ref t5, .ref t6, .ref t7, .ref t8, .ref t9, .int si])), (t8, .inr (1, [.ref b8, .int (nI x8.length)])), (b8, .inl (c8, 200, .inl f8)), (t9, .inr (1, [.ref b9, .int (nI x9.length)])), (b9, .inl (c9, 200, .inl f9))] sz) := by
  refine ofM (Qc := fun A => qcV (S := (Nat → Int32) × (Nat → Int32)) D (fun u => rw_ok u.1 200 (rw_add 200 x8 v0) ∧ rw_ok u.2 200 (rw_add 200 x9 v1)) (fun u => [(h, .inr (3, [.ref t0, .ref t1, .ref t2, .ref t3, .ref t4, .ref t5, .ref t6, .ref t7, .ref t8, .ref t9, .int si])), (t8, .inr (1, [.ref b8, .int (nI (rw_add 200 x8 v0).length)])), (b8, .inl (c8, 200, .inl u.1)), (t9, .inr (1, [.ref b9, .int (nI (rw_add 200 x9 v1).length)])), (b9, .inl (c9, 200, .inl u.2))]) A) (cc := cX2_tell) (maxL := 3) (ret := none) (by decide) rfl (Nat.le_of_ble_eq_true rfl) ?_
  intro p e s m below meth c ls A hx hb hr hml hown hts hlocks hnm hP hK hN hD hA hS hl
  have hl : lv_has ls 3 [(0, .ref h), (1, .int v0), (2, .int v1)] := hl
  refine lv_aload_n hx hb dX2_tell_0 rfl (lv_at hl 0 rfl) ?_
  refine va_get (D := D) (ci := 3) (v := .ref t8) (C := RX2) (T := TX2) (N := 11) hx hb hts (by decide +kernel) hown hK hP 0 rfl rfl 8 (by decide) (hts (.fieldLink RX2 43 "CharacterRows" "toldCodes" "LCharacterRows$Codes;") (by decide +kernel)) (fun _ h9 => h9) rfl dX2_tell_1 ?_
  refine lv_iload_n hx hb dX2_tell_4 rfl (lv_at hl 1 rfl) ?_
  refine clV (wr := [(h, .inr (3, [.ref t0, .ref t1, .ref t2, .ref t3, .ref t4, .ref t5, .ref t6, .ref t7, .ref t8, .ref t9, .int si])), (t9, .inr (1, [.ref b9, .int (nI x9.length)])), (b9, .inl (c9, 200, .inl f9))]) (va_runV ⟨hx, hb, hml, hown, hts⟩ (KX0_add l D t8 b8 c8 f8 x8 o8 v0 _) (cwV 1 hts gX2_tell_X0_add rfl rfl rfl (by decide +kernel) ⟨Nat.le_of_ble_eq_true rfl, Nat.le_of_ble_eq_true rfl⟩) (pcM_V (hP.sub (ws' := [(t8, .inr (1, [.ref b8, .int (nI x8.length)])), (b8, .inl (c8, 200, .inl f8))]) [1, 2] rfl) (hD.sub (ws' := [(t8, .inr (1, [.ref b8, .int (nI x8.length)])), (b8, .inl (c8, 200, .inl f8))]) [1, 2] (by decide) rfl) (hK.sub (tys' := [(c8, .int)]) [0] rfl) hN 0 rfl rfl) rfl rfl hl.1 rfl (lv_room (Nat.le_of_ble_eq_true rfl)) dX2_tell_5 ⟨Nat.zero_le _, Nat.zero_le _⟩) hP hD hS hA [1, 2] [0, 3, 4] rfl rfl (by decide) (by decide) (fun u_1 H locs hw_1 hP hD hS => ?_)
  have hP : va_P D vwCl [(h, .inr (3, [.ref t0, .ref t1, .ref t2, .ref t3, .ref t4, .ref t5, .ref t6, .ref t7, .ref t8, .ref t9, .int si])), (t8, .inr (1, [.ref b8, .int (nI (rw_add 200 x8 v0).length)])), (b8, .inl (c8, 200, .inl u_1)), (t9, .inr (1, [.ref b9, .int (nI x9.length)])), (b9, .inl (c9, 200, .inl f9))] H := hP.sub [0, 3, 4, 1, 2] rfl
  have hD : va_D A [(h, .inr (3, [.ref t0, .ref t1, .ref t2, .ref t3, .ref t4, .ref t5, .ref t6, .ref t7, .ref t8, .ref t9, .int si])), (t8, .inr (1, [.ref b8, .int (nI (rw_add 200 x8 v0).length)])), (b8, .inl (c8, 200, .inl u_1)), (t9, .inr (1, [.ref b9, .int (nI x9.length)])), (b9, .inl (c9, 200, .inl f9))] := hD.sub [0, 3, 4, 1, 2] (by decide) rfl
  refine lv_aload_n hx hb dX2_tell_8 rfl (lv_at hl 0 rfl) ?_
  refine va_get (D := D) (ci := 3) (v := .ref t9) (C := RX2) (T := TX2) (N := 11) hx hb hts (by decide +kernel) hown hK hP 0 rfl rfl 9 (by decide) (hts (.fieldLink RX2 46 "CharacterRows" "toldPlaces" "LCharacterRows$Codes;") (by decide +kernel)) (fun _ h9 => h9) rfl dX2_tell_9 ?_
  refine lv_iload_n hx hb dX2_tell_12 rfl (lv_at hl 2 rfl) ?_
  refine clV (wr := [(h, .inr (3, [.ref t0, .ref t1, .ref t2, .ref t3, .ref t4, .ref t5, .ref t6, .ref t7, .ref t8, .ref t9, .int si])), (t8, .inr (1, [.ref b8, .int (nI (rw_add 200 x8 v0).length)])), (b8, .inl (c8, 200, .inl u_1))]) (va_runV ⟨hx, hb, hml, hown, hts⟩ (KX0_add l D t9 b9 c9 f9 x9 o9 v1 _) (cwV 1 hts gX2_tell_X0_add rfl rfl rfl (by decide +kernel) ⟨Nat.le_of_ble_eq_true rfl, Nat.le_of_ble_eq_true rfl⟩) (pcM_V (hP.sub (ws' := [(t9, .inr (1, [.ref b9, .int (nI x9.length)])), (b9, .inl (c9, 200, .inl f9))]) [3, 4] rfl) (hD.sub (ws' := [(t9, .inr (1, [.ref b9, .int (nI x9.length)])), (b9, .inl (c9, 200, .inl f9))]) [3, 4] (by decide) rfl) (hK.sub (tys' := [(c9, .int)]) [1] rfl) hN 0 rfl rfl) rfl rfl hl.1 rfl (lv_room (Nat.le_of_ble_eq_true rfl)) dX2_tell_13 ⟨Nat.zero_le _, Nat.zero_le _⟩) hP hD hS hA [3, 4] [0, 1, 2] rfl rfl (by decide) (by decide) (fun u_2 H locs hw_2 hP hD hS => ?_)
  have hP : va_P D vwCl [(h, .inr (3, [.ref t0, .ref t1, .ref t2, .ref t3, .ref t4, .ref t5, .ref t6, .ref t7, .ref t8, .ref t9, .int si])), (t8, .inr (1, [.ref b8, .int (nI (rw_add 200 x8 v0).length)])), (b8, .inl (c8, 200, .inl u_1)), (t9, .inr (1, [.ref b9, .int (nI (rw_add 200 x9 v1).length)])), (b9, .inl (c9, 200, .inl u_2))] H := hP.sub [0, 1, 2, 3, 4] rfl
  have hD : va_D A [(h, .inr (3, [.ref t0, .ref t1, .ref t2, .ref t3, .ref t4, .ref t5, .ref t6, .ref t7, .ref t8, .ref t9, .int si])), (t8, .inr (1, [.ref b8, .int (nI (rw_add 200 x8 v0).length)])), (b8, .inl (c8, 200, .inl u_1)), (t9, .inr (1, [.ref b9, .int (nI (rw_add 200 x9 v1).length)])), (b9, .inl (c9, 200, .inl u_2))] := hD.sub [0, 1, 2, 3, 4] (by decide) rfl
  exact rtV hx hb hr hlocks dX2_tell_16 (u_1, u_2) ⟨hw_1, hw_2⟩ hP hD hS
def oadd (cap : Nat) (xs : List Int32) (c : Int32) : List Int32 := rw_add cap xs c.toInt8.toInt32
def wob (c on : Int32) : List Int32 := if fX2_isPlain c = 0 then (if fX2_setOf c = on then [161 + fX2_placeInSet c] else [27, 103, 48 + fX2_setOf c, 161 + fX2_placeInSet c]) else [c]
def woo (c on : Int32) : Int32 := if fX2_isPlain c = 0 then fX2_setOf c else on
def wnb (c : Int32) : List Int32 := if fX2_bytesBehindFirst c = 0 then [c] else if fX2_bytesBehindFirst c = 1 then [192 + c / 64, 128 + (c - c / 64 * 64)] else [224 + c / 4096, 128 + (c / 64 - c / 64 / 64 * 64), 128 + (c - c / 64 * 64)]
set_option maxHeartbeats 4000000 in
set_option maxRecDepth 100000 in
theorem KX2_writeOldCode (l : Launch) (D : va_G) (h t0 t1 t2 t3 t4 t5 t6 t7 t8 t9 : Nat) (si : Int32) (b1 : Nat) (c1 : ClassId) (f1 : Nat → Int32) (x1 : List Int32) (o1 : rw_ok f1 400 x1) (v0 v1 : Int32) (sz : Nat) : Met l yX2_writeOldCode wsX2_writeOldCode ({ frames := 2, cells := 0, slots := 0, locals := 40 }) (pcM D sz [(h, .inr (3, [.ref t0, .ref t1, .ref t2, .ref t3, .ref t4, .ref t5, .ref t6, .ref t7, .ref t8, .ref t9, .int si])), (t1, .inr (2, [.ref b1, .int (nI x1.length)])), (b1, .inl (c1, 400, .inl f1))] [(c1, .byte)] [.ref h, .int v0, .int v1]) (qcI (S := Nat → Int32) D (fun r u => r = woo v0 v1 ∧ rw_ok u 400 ((wob v0 v1).foldl (oadd 400) x1)) (fun u => [(h, .inr (3, [.ref t0, .ref t1, .ref t2, .ref t3, .ref t4, .ref t5, .ref t6, .ref t7, .ref t8, .ref t9, .int si])), (t1, .inr (2, [.ref b1, .int (nI ((wob v0 v1).foldl (oadd 400) x1).length)])), (b1, .inl (c1, 400, .inl u))]) (va_A [(h, .inr (3, [.ref t0, .ref t1, .ref t2, .ref t3, .ref t4, .ref t5, .ref t6, .ref t7, .ref t8, .ref t9, .int si])), (t1, .inr (2, [.ref b1, .int (nI x1.length)])), (b1, .inl (c1, 400, .inl f1))] sz)) 0 0 (va_A [(h, .inr (3, [.ref t0, .ref t1, .ref t2, .ref t3, .ref t4, .ref t5, .ref t6, .ref t7, .ref t8, .ref t9, .int si])), (t1, .inr (2, [.ref b1, .int (nI x1.length)])), (b1, .inl (c1, 400, .inl f1))] sz) := by
  refine ofM (Qc := fun A => qcI (S := Nat → Int32) D (fun r u => r = woo v0 v1 ∧ rw_ok u 400 ((wob v0 v1).foldl (oadd 400) x1)) (fun u => [(h, .inr (3, [.ref t0, .ref t1, .ref t2, .ref t3, .ref t4, .ref t5, .ref t6, .ref t7, .ref t8, .ref t9, .int si])), (t1, .inr (2, [.ref b1, .int (nI ((wob v0 v1).foldl (oadd 400) x1).length)])), (b1, .inl (c1, 400, .inl u))]) A) (cc := cX2_writeOldCode) (maxL := 4) (ret := (some .int)) (by decide) rfl (Nat.le_of_ble_eq_true rfl) ?_
  intro p e s m below meth c ls A hx hb hr hml hown hts hlocks hnm hP hK hN hD hA hS hl
  have hl : lv_has ls 4 [(0, .ref h), (1, .int v0), (2, .int v1)] := hl
  refine lv_iload_n hx hb dX2_writeOldCode_0 rfl (lv_at hl 1 rfl) ?_
  refine vp_callSi (W.runS ⟨hx, hb, hml, hown, hts⟩ (KX2_isPlain l v0) (va_cwS 1 hts gX2_writeOldCode_X2_isPlain rfl rfl rfl (by decide +kernel) ⟨Nat.le_of_ble_eq_true rfl, Nat.le_of_ble_eq_true rfl⟩) pcS_S rfl rfl hl.1 rfl (lv_room (Nat.le_of_ble_eq_true rfl)) dX2_writeOldCode_1 ⟨Nat.zero_le _, Nat.zero_le _⟩) (fun r9 hr9 => ?_)
  subst r9
  refine lv_if_eq (tgt := 17) hx hb dX2_writeOldCode_4 (by decide) (fun c4_1 => ?_) (fun c4_1 => ?_)
  · skip
    refine lv_iload_n hx hb dX2_writeOldCode_17 rfl (lv_at hl 1 rfl) ?_
    refine vp_callSi (W.runS ⟨hx, hb, hml, hown, hts⟩ (KX2_setOf l v0) (va_cwS 1 hts gX2_writeOldCode_X2_setOf rfl rfl rfl (by decide +kernel) ⟨Nat.le_of_ble_eq_true rfl, Nat.le_of_ble_eq_true rfl⟩) pcS_S rfl rfl hl.1 rfl (lv_room (Nat.le_of_ble_eq_true rfl)) dX2_writeOldCode_18 ⟨Nat.zero_le _, Nat.zero_le _⟩) (fun r9 hr9 => ?_)
    subst r9
    refine lv_istore_n (lv' := [(3, .int (fX2_setOf v0)), (0, .ref h), (1, .int v0), (2, .int v1)]) hx hb dX2_writeOldCode_21 rfl hl (by decide) rfl (fun ls hl => ?_)
    refine lv_iload_n hx hb dX2_writeOldCode_22 rfl (lv_at hl 0 rfl) ?_
    refine lv_iload_n hx hb dX2_writeOldCode_23 rfl (lv_at hl 3 rfl) ?_
    refine lv_icmp_eq (tgt := 56) hx hb dX2_writeOldCode_24 (by decide) (fun c24_1 => ?_) (fun c24_1 => ?_)
    · skip
      refine lv_aload_n hx hb dX2_writeOldCode_56 rfl (lv_at hl 1 rfl) ?_
      refine va_get (D := D) (ci := 3) (v := .ref t1) (C := RX2) (T := TX2) (N := 11) hx hb hts (by decide +kernel) hown hK hP 0 rfl rfl 1 (by decide) (hts (.fieldLink RX2 18 "CharacterRows" "written" "LCharacterRows$Octets;") (by decide +kernel)) (fun _ h9 => h9) rfl dX2_writeOldCode_57 ?_
      refine lv_sipush (v := 161) hx hb dX2_writeOldCode_60 (by decide) ?_
      refine lv_iload_n hx hb dX2_writeOldCode_63 rfl (lv_at hl 2 rfl) ?_
      refine vp_callSi (W.runS ⟨hx, hb, hml, hown, hts⟩ (KX2_placeInSet l v0) (va_cwS 1 hts gX2_writeOldCode_X2_placeInSet rfl rfl rfl (by decide +kernel) ⟨Nat.le_of_ble_eq_true rfl, Nat.le_of_ble_eq_true rfl⟩) pcS_S rfl rfl hl.1 rfl (lv_room (Nat.le_of_ble_eq_true rfl)) dX2_writeOldCode_64 ⟨Nat.zero_le _, Nat.zero_le _⟩) (fun r9 hr9 => ?_)
      subst r9
      refine lv_iadd hx hb dX2_writeOldCode_67 ?_
      refine clV (wr := [(h, .inr (3, [.ref t0, .ref t1, .ref t2, .ref t3, .ref t4, .ref t5, .ref t6, .ref t7, .ref t8, .ref t9, .int si]))]) (va_runV ⟨hx, hb, hml, hown, hts⟩ (KX1_add l D t1 b1 c1 f1 x1 400 (by decide) o1 (161 + (fX2_placeInSet v0)) _) (cwV 1 hts gX2_writeOldCode_X1_add rfl rfl rfl (by decide +kernel) ⟨Nat.le_of_ble_eq_true rfl, Nat.le_of_ble_eq_true rfl⟩) (pcM_V (hP.sub (ws' := [(t1, .inr (2, [.ref b1, .int (nI x1.length)])), (b1, .inl (c1, 400, .inl f1))]) [1, 2] rfl) (hD.sub (ws' := [(t1, .inr (2, [.ref b1, .int (nI x1.length)])), (b1, .inl (c1, 400, .inl f1))]) [1, 2] (by decide) rfl) (hK.sub (tys' := [(c1, .byte)]) [0] rfl) hN 0 rfl rfl) rfl rfl hl.1 rfl (lv_room (Nat.le_of_ble_eq_true rfl)) dX2_writeOldCode_68 ⟨Nat.zero_le _, Nat.zero_le _⟩) hP hD hS hA [1, 2] [0] rfl rfl (by decide) (by decide) (fun u_1 H locs hw_1 hP hD hS => ?_)
      have hP : va_P D vwCl [(h, .inr (3, [.ref t0, .ref t1, .ref t2, .ref t3, .ref t4, .ref t5, .ref t6, .ref t7, .ref t8, .ref t9, .int si])), (t1, .inr (2, [.ref b1, .int (nI (rw_add 400 x1 ((161 + (fX2_placeInSet v0)) : Int32).toInt8.toInt32).length)])), (b1, .inl (c1, 400, .inl u_1))] H := hP.sub [0, 1, 2] rfl
      have hD : va_D A [(h, .inr (3, [.ref t0, .ref t1, .ref t2, .ref t3, .ref t4, .ref t5, .ref t6, .ref t7, .ref t8, .ref t9, .int si])), (t1, .inr (2, [.ref b1, .int (nI (rw_add 400 x1 ((161 + (fX2_placeInSet v0)) : Int32).toInt8.toInt32).length)])), (b1, .inl (c1, 400, .inl u_1))] := hD.sub [0, 1, 2] (by decide) rfl
      refine lv_iload_n hx hb dX2_writeOldCode_71 rfl (lv_at hl 0 rfl) ?_
      have e8 : (rw_add 400 x1 ((161 + (fX2_placeInSet v0)) : Int32).toInt8.toInt32) = ((wob v0 v1).foldl (oadd 400) x1) := by simp [wob, oadd, c4_1, c24_1]
      rw [e8] at hw_1 hP hD
      exact rtI hx hb hr hlocks dX2_writeOldCode_72 u_1 ⟨by simp [woo, c4_1, c24_1], hw_1⟩ hP hD hS
    · skip
      refine lv_aload_n hx hb dX2_writeOldCode_27 rfl (lv_at hl 1 rfl) ?_
      refine va_get (D := D) (ci := 3) (v := .ref t1) (C := RX2) (T := TX2) (N := 11) hx hb hts (by decide +kernel) hown hK hP 0 rfl rfl 1 (by decide) (hts (.fieldLink RX2 18 "CharacterRows" "written" "LCharacterRows$Octets;") (by decide +kernel)) (fun _ h9 => h9) rfl dX2_writeOldCode_28 ?_
      refine lv_bipush (v := 27) hx hb dX2_writeOldCode_31 (by decide) ?_
      refine clV (wr := [(h, .inr (3, [.ref t0, .ref t1, .ref t2, .ref t3, .ref t4, .ref t5, .ref t6, .ref t7, .ref t8, .ref t9, .int si]))]) (va_runV ⟨hx, hb, hml, hown, hts⟩ (KX1_add l D t1 b1 c1 f1 x1 400 (by decide) o1 27 _) (cwV 1 hts gX2_writeOldCode_X1_add rfl rfl rfl (by decide +kernel) ⟨Nat.le_of_ble_eq_true rfl, Nat.le_of_ble_eq_true rfl⟩) (pcM_V (hP.sub (ws' := [(t1, .inr (2, [.ref b1, .int (nI x1.length)])), (b1, .inl (c1, 400, .inl f1))]) [1, 2] rfl) (hD.sub (ws' := [(t1, .inr (2, [.ref b1, .int (nI x1.length)])), (b1, .inl (c1, 400, .inl f1))]) [1, 2] (by decide) rfl) (hK.sub (tys' := [(c1, .byte)]) [0] rfl) hN 0 rfl rfl) rfl rfl hl.1 rfl (lv_room (Nat.le_of_ble_eq_true rfl)) dX2_writeOldCode_33 ⟨Nat.zero_le _, Nat.zero_le _⟩) hP hD hS hA [1, 2] [0] rfl rfl (by decide) (by decide) (fun u_2 H locs hw_2 hP hD hS => ?_)
      have hP : va_P D vwCl [(h, .inr (3, [.ref t0, .ref t1, .ref t2, .ref t3, .ref t4, .ref t5, .ref t6, .ref t7, .ref t8, .ref t9, .int si])), (t1, .inr (2, [.ref b1, .int (nI (rw_add 400 x1 (27 : Int32).toInt8.toInt32).length)])), (b1, .inl (c1, 400, .inl u_2))] H := hP.sub [0, 1, 2] rfl
      have hD : va_D A [(h, .inr (3, [.ref t0, .ref t1, .ref t2, .ref t3, .ref t4, .ref t5, .ref t6, .ref t7, .ref t8, .ref t9, .int si])), (t1, .inr (2, [.ref b1, .int (nI (rw_add 400 x1 (27 : Int32).toInt8.toInt32).length)])), (b1, .inl (c1, 400, .inl u_2))] := hD.sub [0, 1, 2] (by decide) rfl
      refine lv_aload_n hx hb dX2_writeOldCode_36 rfl (lv_at hl 1 rfl) ?_
      refine va_get (D := D) (ci := 3) (v := .ref t1) (C := RX2) (T := TX2) (N := 11) hx hb hts (by decide +kernel) hown hK hP 0 rfl rfl 1 (by decide) (hts (.fieldLink RX2 18 "CharacterRows" "written" "LCharacterRows$Octets;") (by decide +kernel)) (fun _ h9 => h9) rfl dX2_writeOldCode_37 ?_
      refine lv_bipush (v := 103) hx hb dX2_writeOldCode_40 (by decide) ?_
      refine clV (wr := [(h, .inr (3, [.ref t0, .ref t1, .ref t2, .ref t3, .ref t4, .ref t5, .ref t6, .ref t7, .ref t8, .ref t9, .int si]))]) (va_runV ⟨hx, hb, hml, hown, hts⟩ (KX1_add l D t1 b1 c1 u_2 (rw_add 400 x1 (27 : Int32).toInt8.toInt32) 400 (by decide) hw_2 103 _) (cwV 1 hts gX2_writeOldCode_X1_add rfl rfl rfl (by decide +kernel) ⟨Nat.le_of_ble_eq_true rfl, Nat.le_of_ble_eq_true rfl⟩) (pcM_V (hP.sub (ws' := [(t1, .inr (2, [.ref b1, .int (nI (rw_add 400 x1 (27 : Int32).toInt8.toInt32).length)])), (b1, .inl (c1, 400, .inl u_2))]) [1, 2] rfl) (hD.sub (ws' := [(t1, .inr (2, [.ref b1, .int (nI (rw_add 400 x1 (27 : Int32).toInt8.toInt32).length)])), (b1, .inl (c1, 400, .inl u_2))]) [1, 2] (by decide) rfl) (hK.sub (tys' := [(c1, .byte)]) [0] rfl) hN 0 rfl rfl) rfl rfl hl.1 rfl (lv_room (Nat.le_of_ble_eq_true rfl)) dX2_writeOldCode_42 ⟨Nat.zero_le _, Nat.zero_le _⟩) hP hD hS hA [1, 2] [0] rfl rfl (by decide) (by decide) (fun u_3 H locs hw_3 hP hD hS => ?_)
      have hP : va_P D vwCl [(h, .inr (3, [.ref t0, .ref t1, .ref t2, .ref t3, .ref t4, .ref t5, .ref t6, .ref t7, .ref t8, .ref t9, .int si])), (t1, .inr (2, [.ref b1, .int (nI (rw_add 400 (rw_add 400 x1 (27 : Int32).toInt8.toInt32) (103 : Int32).toInt8.toInt32).length)])), (b1, .inl (c1, 400, .inl u_3))] H := hP.sub [0, 1, 2] rfl
      have hD : va_D A [(h, .inr (3, [.ref t0, .ref t1, .ref t2, .ref t3, .ref t4, .ref t5, .ref t6, .ref t7, .ref t8, .ref t9, .int si])), (t1, .inr (2, [.ref b1, .int (nI (rw_add 400 (rw_add 400 x1 (27 : Int32).toInt8.toInt32) (103 : Int32).toInt8.toInt32).length)])), (b1, .inl (c1, 400, .inl u_3))] := hD.sub [0, 1, 2] (by decide) rfl
      refine lv_aload_n hx hb dX2_writeOldCode_45 rfl (lv_at hl 1 rfl) ?_
      refine va_get (D := D) (ci := 3) (v := .ref t1) (C := RX2) (T := TX2) (N := 11) hx hb hts (by decide +kernel) hown hK hP 0 rfl rfl 1 (by decide) (hts (.fieldLink RX2 18 "CharacterRows" "written" "LCharacterRows$Octets;") (by decide +kernel)) (fun _ h9 => h9) rfl dX2_writeOldCode_46 ?_
      refine lv_bipush (v := 48) hx hb dX2_writeOldCode_49 (by decide) ?_
      refine lv_iload_n hx hb dX2_writeOldCode_51 rfl (lv_at hl 0 rfl) ?_
      refine lv_iadd hx hb dX2_writeOldCode_52 ?_
      refine clV (wr := [(h, .inr (3, [.ref t0, .ref t1, .ref t2, .ref t3, .ref t4, .ref t5, .ref t6, .ref t7, .ref t8, .ref t9, .int si]))]) (va_runV ⟨hx, hb, hml, hown, hts⟩ (KX1_add l D t1 b1 c1 u_3 (rw_add 400 (rw_add 400 x1 (27 : Int32).toInt8.toInt32) (103 : Int32).toInt8.toInt32) 400 (by decide) hw_3 (48 + (fX2_setOf v0)) _) (cwV 1 hts gX2_writeOldCode_X1_add rfl rfl rfl (by decide +kernel) ⟨Nat.le_of_ble_eq_true rfl, Nat.le_of_ble_eq_true rfl⟩) (pcM_V (hP.sub (ws' := [(t1, .inr (2, [.ref b1, .int (nI (rw_add 400 (rw_add 400 x1 (27 : Int32).toInt8.toInt32) (103 : Int32).toInt8.toInt32).length)])), (b1, .inl (c1, 400, .inl u_3))]) [1, 2] rfl) (hD.sub (ws' := [(t1, .inr (2, [.ref b1, .int (nI (rw_add 400 (rw_add 400 x1 (27 : Int32).toInt8.toInt32) (103 : Int32).toInt8.toInt32).length)])), (b1, .inl (c1, 400, .inl u_3))]) [1, 2] (by decide) rfl) (hK.sub (tys' := [(c1, .byte)]) [0] rfl) hN 0 rfl rfl) rfl rfl hl.1 rfl (lv_room (Nat.le_of_ble_eq_true rfl)) dX2_writeOldCode_53 ⟨Nat.zero_le _, Nat.zero_le _⟩) hP hD hS hA [1, 2] [0] rfl rfl (by decide) (by decide) (fun u_4 H locs hw_4 hP hD hS => ?_)
      have hP : va_P D vwCl [(h, .inr (3, [.ref t0, .ref t1, .ref t2, .ref t3, .ref t4, .ref t5, .ref t6, .ref t7, .ref t8, .ref t9, .int si])), (t1, .inr (2, [.ref b1, .int (nI (rw_add 400 (rw_add 400 (rw_add 400 x1 (27 : Int32).toInt8.toInt32) (103 : Int32).toInt8.toInt32) ((48 + (fX2_setOf v0)) : Int32).toInt8.toInt32).length)])), (b1, .inl (c1, 400, .inl u_4))] H := hP.sub [0, 1, 2] rfl
      have hD : va_D A [(h, .inr (3, [.ref t0, .ref t1, .ref t2, .ref t3, .ref t4, .ref t5, .ref t6, .ref t7, .ref t8, .ref t9, .int si])), (t1, .inr (2, [.ref b1, .int (nI (rw_add 400 (rw_add 400 (rw_add 400 x1 (27 : Int32).toInt8.toInt32) (103 : Int32).toInt8.toInt32) ((48 + (fX2_setOf v0)) : Int32).toInt8.toInt32).length)])), (b1, .inl (c1, 400, .inl u_4))] := hD.sub [0, 1, 2] (by decide) rfl
      refine lv_aload_n hx hb dX2_writeOldCode_56 rfl (lv_at hl 1 rfl) ?_
      refine va_get (D := D) (ci := 3) (v := .ref t1) (C := RX2) (T := TX2) (N := 11) hx hb hts (by decide +kernel) hown hK hP 0 rfl rfl 1 (by decide) (hts (.fieldLink RX2 18 "CharacterRows" "written" "LCharacterRows$Octets;") (by decide +kernel)) (fun _ h9 => h9) rfl dX2_writeOldCode_57 ?_
      refine lv_sipush (v := 161) hx hb dX2_writeOldCode_60 (by decide) ?_
      refine lv_iload_n hx hb dX2_writeOldCode_63 rfl (lv_at hl 2 rfl) ?_
      refine vp_callSi (W.runS ⟨hx, hb, hml, hown, hts⟩ (KX2_placeInSet l v0) (va_cwS 1 hts gX2_writeOldCode_X2_placeInSet rfl rfl rfl (by decide +kernel) ⟨Nat.le_of_ble_eq_true rfl, Nat.le_of_ble_eq_true rfl⟩) pcS_S rfl rfl hl.1 rfl (lv_room (Nat.le_of_ble_eq_true rfl)) dX2_writeOldCode_64 ⟨Nat.zero_le _, Nat.zero_le _⟩) (fun r9 hr9 => ?_)
      subst r9
      refine lv_iadd hx hb dX2_writeOldCode_67 ?_
      refine clV (wr := [(h, .inr (3, [.ref t0, .ref t1, .ref t2, .ref t3, .ref t4, .ref t5, .ref t6, .ref t7, .ref t8, .ref t9, .int si]))]) (va_runV ⟨hx, hb, hml, hown, hts⟩ (KX1_add l D t1 b1 c1 u_4 (rw_add 400 (rw_add 400 (rw_add 400 x1 (27 : Int32).toInt8.toInt32) (103 : Int32).toInt8.toInt32) ((48 + (fX2_setOf v0)) : Int32).toInt8.toInt32) 400 (by decide) hw_4 (161 + (fX2_placeInSet v0)) _) (cwV 1 hts gX2_writeOldCode_X1_add rfl rfl rfl (by decide +kernel) ⟨Nat.le_of_ble_eq_true rfl, Nat.le_of_ble_eq_true rfl⟩) (pcM_V (hP.sub (ws' := [(t1, .inr (2, [.ref b1, .int (nI (rw_add 400 (rw_add 400 (rw_add 400 x1 (27 : Int32).toInt8.toInt32) (103 : Int32).toInt8.toInt32) ((48 + (fX2_setOf v0)) : Int32).toInt8.toInt32).length)])), (b1, .inl (c1, 400, .inl u_4))]) [1, 2] rfl) (hD.sub (ws' := [(t1, .inr (2, [.ref b1, .int (nI (rw_add 400 (rw_add 400 (rw_add 400 x1 (27 : Int32).toInt8.toInt32) (103 : Int32).toInt8.toInt32) ((48 + (fX2_setOf v0)) : Int32).toInt8.toInt32).length)])), (b1, .inl (c1, 400, .inl u_4))]) [1, 2] (by decide) rfl) (hK.sub (tys' := [(c1, .byte)]) [0] rfl) hN 0 rfl rfl) rfl rfl hl.1 rfl (lv_room (Nat.le_of_ble_eq_true rfl)) dX2_writeOldCode_68 ⟨Nat.zero_le _, Nat.zero_le _⟩) hP hD hS hA [1, 2] [0] rfl rfl (by decide) (by decide) (fun u_5 H locs hw_5 hP hD hS => ?_)
      have hP : va_P D vwCl [(h, .inr (3, [.ref t0, .ref t1, .ref t2, .ref t3, .ref t4, .ref t5, .ref t6, .ref t7, .ref t8, .ref t9, .int si])), (t1, .inr (2, [.ref b1, .int (nI (rw_add 400 (rw_add 400 (rw_add 400 (rw_add 400 x1 (27 : Int32).toInt8.toInt32) (103 : Int32).toInt8.toInt32) ((48 + (fX2_setOf v0)) : Int32).toInt8.toInt32) ((161 + (fX2_placeInSet v0)) : Int32).toInt8.toInt32).length)])), (b1, .inl (c1, 400, .inl u_5))] H := hP.sub [0, 1, 2] rfl
      have hD : va_D A [(h, .inr (3, [.ref t0, .ref t1, .ref t2, .ref t3, .ref t4, .ref t5, .ref t6, .ref t7, .ref t8, .ref t9, .int si])), (t1, .inr (2, [.ref b1, .int (nI (rw_add 400 (rw_add 400 (rw_add 400 (rw_add 400 x1 (27 : Int32).toInt8.toInt32) (103 : Int32).toInt8.toInt32) ((48 + (fX2_setOf v0)) : Int32).toInt8.toInt32) ((161 + (fX2_placeInSet v0)) : Int32).toInt8.toInt32).length)])), (b1, .inl (c1, 400, .inl u_5))] := hD.sub [0, 1, 2] (by decide) rfl
      refine lv_iload_n hx hb dX2_writeOldCode_71 rfl (lv_at hl 0 rfl) ?_
      have e8 : (rw_add 400 (rw_add 400 (rw_add 400 (rw_add 400 x1 (27 : Int32).toInt8.toInt32) (103 : Int32).toInt8.toInt32) ((48 + (fX2_setOf v0)) : Int32).toInt8.toInt32) ((161 + (fX2_placeInSet v0)) : Int32).toInt8.toInt32) = ((wob v0 v1).foldl (oadd 400) x1) := by simp [wob, oadd, c4_1, c24_1]
      rw [e8] at hw_5 hP hD
      exact rtI hx hb hr hlocks dX2_writeOldCode_72 u_5 ⟨by simp [woo, c4_1, c24_1], hw_5⟩ hP hD hS
  · skip
    refine lv_aload_n hx hb dX2_writeOldCode_7 rfl (lv_at hl 0 rfl) ?_
    refine va_get (D := D) (ci := 3) (v := .ref t1) (C := RX2) (T := TX2) (N := 11) hx hb hts (by decide +kernel) hown hK hP 0 rfl rfl 1 (by decide) (hts (.fieldLink RX2 18 "CharacterRows" "written" "LCharacterRows$Octets;") (by decide +kernel)) (fun _ h9 => h9) rfl dX2_writeOldCode_8 ?_
    refine lv_iload_n hx hb dX2_writeOldCode_11 rfl (lv_at hl 1 rfl) ?_
    refine clV (wr := [(h, .inr (3, [.ref t0, .ref t1, .ref t2, .ref t3, .ref t4, .ref t5, .ref t6, .ref t7, .ref t8, .ref t9, .int si]))]) (va_runV ⟨hx, hb, hml, hown, hts⟩ (KX1_add l D t1 b1 c1 f1 x1 400 (by decide) o1 v0 _) (cwV 1 hts gX2_writeOldCode_X1_add rfl rfl rfl (by decide +kernel) ⟨Nat.le_of_ble_eq_true rfl, Nat.le_of_ble_eq_true rfl⟩) (pcM_V (hP.sub (ws' := [(t1, .inr (2, [.ref b1, .int (nI x1.length)])), (b1, .inl (c1, 400, .inl f1))]) [1, 2] rfl) (hD.sub (ws' := [(t1, .inr (2, [.ref b1, .int (nI x1.length)])), (b1, .inl (c1, 400, .inl f1))]) [1, 2] (by decide) rfl) (hK.sub (tys' := [(c1, .byte)]) [0] rfl) hN 0 rfl rfl) rfl rfl hl.1 rfl (lv_room (Nat.le_of_ble_eq_true rfl)) dX2_writeOldCode_12 ⟨Nat.zero_le _, Nat.zero_le _⟩) hP hD hS hA [1, 2] [0] rfl rfl (by decide) (by decide) (fun u_6 H locs hw_6 hP hD hS => ?_)
    have hP : va_P D vwCl [(h, .inr (3, [.ref t0, .ref t1, .ref t2, .ref t3, .ref t4, .ref t5, .ref t6, .ref t7, .ref t8, .ref t9, .int si])), (t1, .inr (2, [.ref b1, .int (nI (rw_add 400 x1 (v0 : Int32).toInt8.toInt32).length)])), (b1, .inl (c1, 400, .inl u_6))] H := hP.sub [0, 1, 2] rfl
    have hD : va_D A [(h, .inr (3, [.ref t0, .ref t1, .ref t2, .ref t3, .ref t4, .ref t5, .ref t6, .ref t7, .ref t8, .ref t9, .int si])), (t1, .inr (2, [.ref b1, .int (nI (rw_add 400 x1 (v0 : Int32).toInt8.toInt32).length)])), (b1, .inl (c1, 400, .inl u_6))] := hD.sub [0, 1, 2] (by decide) rfl
    refine lv_iload_n hx hb dX2_writeOldCode_15 rfl (lv_at hl 2 rfl) ?_
    have e8 : (rw_add 400 x1 (v0 : Int32).toInt8.toInt32) = ((wob v0 v1).foldl (oadd 400) x1) := by simp [wob, oadd, c4_1]
    rw [e8] at hw_6 hP hD
    exact rtI hx hb hr hlocks dX2_writeOldCode_16 u_6 ⟨by simp [woo, c4_1], hw_6⟩ hP hD hS
set_option maxHeartbeats 4000000 in
set_option maxRecDepth 100000 in
theorem KX2_writeNewCode (l : Launch) (D : va_G) (h t0 t1 t2 t3 t4 t5 t6 t7 t8 t9 : Nat) (si : Int32) (b1 : Nat) (c1 : ClassId) (f1 : Nat → Int32) (x1 : List Int32) (o1 : rw_ok f1 400 x1) (v0 : Int32) (sz : Nat) : Met l yX2_writeNewCode wsX2_writeNewCode ({ frames := 1, cells := 0, slots := 0, locals := 21 }) (pcM D sz [(h, .inr (3, [.ref t0, .ref t1, .ref t2, .ref t3, .ref t4, .ref t5, .ref t6, .ref t7, .ref t8, .ref t9, .int si])), (t1, .inr (2, [.ref b1, .int (nI x1.length)])), (b1, .inl (c1, 400, .inl f1))] [(c1, .byte)] [.ref h, .int v0]) (qcV (S := Nat → Int32) D (fun u => rw_ok u 400 ((wnb v0).foldl (oadd 400) x1)) (fun u => [(h, .inr (3, [.ref t0, .ref t1, .ref t2, .ref t3, .ref t4, .ref t5, .ref t6, .ref t7, .ref t8, .ref t9, .int si])), (t1, .inr (2, [.ref b1, .int (nI ((wnb v0).foldl (oadd 400) x1).length)])), (b1, .inl (c1, 400, .inl u))]) (va_A [(h, .inr (3, [.ref t0, .ref t1, .ref t2, .ref t3, .ref t4, .ref t5, .ref t6, .ref t7, .ref t8, .ref t9, .int si])), (t1, .inr (2, [.ref b1, .int (nI x1.length)])), (b1, .inl (c1, 400, .inl f1))] sz)) 0 0 (va_A [(h, .inr (3, [.ref t0, .ref t1, .ref t2, .ref t3, .ref t4, .ref t5, .ref t6, .ref t7, .ref t8, .ref t9, .int si])), (t1, .inr (2, [.ref b1, .int (nI x1.length)])), (b1, .inl (c1, 400, .inl f1))] sz) := by
  refine ofM (Qc := fun A => qcV (S := Nat → Int32) D (fun u => rw_ok u 400 ((wnb v0).foldl (oadd 400) x1)) (fun u => [(h, .inr (3, [.ref t0, .ref t1, .ref t2, .ref t3, .ref t4, .ref t5, .ref t6, .ref t7, .ref t8, .ref t9, .int si])), (t1, .inr (2, [.ref b1, .int (nI ((wnb v0).foldl (oadd 400) x1).length)])), (b1, .inl (c1, 400, .inl u))]) A) (cc := cX2_writeNewCode) (maxL := 3) (ret := none) (by decide) rfl (Nat.le_of_ble_eq_true rfl) ?_
  intro p e s m below meth c ls A hx hb hr hml hown hts hlocks hnm hP hK hN hD hA hS hl
  have hl : lv_has ls 3 [(0, .ref h), (1, .int v0)] := hl
  refine lv_iload_n hx hb dX2_writeNewCode_0 rfl (lv_at hl 1 rfl) ?_
  refine vp_callSi (W.runS ⟨hx, hb, hml, hown, hts⟩ (KX2_bytesBehindFirst l v0) (va_cwS 1 hts gX2_writeNewCode_X2_bytesBehindFirst rfl rfl rfl (by decide +kernel) ⟨Nat.le_of_ble_eq_true rfl, Nat.le_of_ble_eq_true rfl⟩) pcS_S rfl rfl hl.1 rfl (lv_room (Nat.le_of_ble_eq_true rfl)) dX2_writeNewCode_1 ⟨Nat.zero_le _, Nat.zero_le _⟩) (fun r9 hr9 => ?_)
  subst r9
  refine lv_istore_n (lv' := [(2, .int (fX2_bytesBehindFirst v0)), (0, .ref h), (1, .int v0)]) hx hb dX2_writeNewCode_4 rfl hl (by decide) rfl (fun ls hl => ?_)
  refine lv_iload_n hx hb dX2_writeNewCode_5 rfl (lv_at hl 0 rfl) ?_
  refine lv_if_ne (tgt := 18) hx hb dX2_writeNewCode_6 (by decide) (fun c6_1 => ?_) (fun c6_1 => ?_)
  · skip
    refine lv_iload_n hx hb dX2_writeNewCode_18 rfl (lv_at hl 0 rfl) ?_
    refine lv_iconst (v := 1) hx hb dX2_writeNewCode_19 (by decide) ?_
    refine lv_icmp_ne (tgt := 41) hx hb dX2_writeNewCode_20 (by decide) (fun c20_1 => ?_) (fun c20_1 => ?_)
    · skip
      refine lv_aload_n hx hb dX2_writeNewCode_41 rfl (lv_at hl 1 rfl) ?_
      refine va_get (D := D) (ci := 3) (v := .ref t1) (C := RX2) (T := TX2) (N := 11) hx hb hts (by decide +kernel) hown hK hP 0 rfl rfl 1 (by decide) (hts (.fieldLink RX2 18 "CharacterRows" "written" "LCharacterRows$Octets;") (by decide +kernel)) (fun _ h9 => h9) rfl dX2_writeNewCode_42 ?_
      refine lv_sipush (v := 224) hx hb dX2_writeNewCode_45 (by decide) ?_
      refine lv_iload_n hx hb dX2_writeNewCode_48 rfl (lv_at hl 2 rfl) ?_
      refine lv_sipush (v := 4096) hx hb dX2_writeNewCode_49 (by decide) ?_
      refine lv_idiv hx hb dX2_writeNewCode_52 (by decide) ?_
      refine lv_iadd hx hb dX2_writeNewCode_53 ?_
      refine clV (wr := [(h, .inr (3, [.ref t0, .ref t1, .ref t2, .ref t3, .ref t4, .ref t5, .ref t6, .ref t7, .ref t8, .ref t9, .int si]))]) (va_runV ⟨hx, hb, hml, hown, hts⟩ (KX1_add l D t1 b1 c1 f1 x1 400 (by decide) o1 (224 + (v0 / 4096)) _) (cwV 1 hts gX2_writeNewCode_X1_add rfl rfl rfl (by decide +kernel) ⟨Nat.le_of_ble_eq_true rfl, Nat.le_of_ble_eq_true rfl⟩) (pcM_V (hP.sub (ws' := [(t1, .inr (2, [.ref b1, .int (nI x1.length)])), (b1, .inl (c1, 400, .inl f1))]) [1, 2] rfl) (hD.sub (ws' := [(t1, .inr (2, [.ref b1, .int (nI x1.length)])), (b1, .inl (c1, 400, .inl f1))]) [1, 2] (by decide) rfl) (hK.sub (tys' := [(c1, .byte)]) [0] rfl) hN 0 rfl rfl) rfl rfl hl.1 rfl (lv_room (Nat.le_of_ble_eq_true rfl)) dX2_writeNewCode_54 ⟨Nat.zero_le _, Nat.zero_le _⟩) hP hD hS hA [1, 2] [0] rfl rfl (by decide) (by decide) (fun u_1 H locs hw_1 hP hD hS => ?_)
      have hP : va_P D vwCl [(h, .inr (3, [.ref t0, .ref t1, .ref t2, .ref t3, .ref t4, .ref t5, .ref t6, .ref t7, .ref t8, .ref t9, .int si])), (t1, .inr (2, [.ref b1, .int (nI (rw_add 400 x1 ((224 + (v0 / 4096)) : Int32).toInt8.toInt32).length)])), (b1, .inl (c1, 400, .inl u_1))] H := hP.sub [0, 1, 2] rfl
      have hD : va_D A [(h, .inr (3, [.ref t0, .ref t1, .ref t2, .ref t3, .ref t4, .ref t5, .ref t6, .ref t7, .ref t8, .ref t9, .int si])), (t1, .inr (2, [.ref b1, .int (nI (rw_add 400 x1 ((224 + (v0 / 4096)) : Int32).toInt8.toInt32).length)])), (b1, .inl (c1, 400, .inl u_1))] := hD.sub [0, 1, 2] (by decide) rfl
      refine lv_aload_n hx hb dX2_writeNewCode_57 rfl (lv_at hl 1 rfl) ?_
      refine va_get (D := D) (ci := 3) (v := .ref t1) (C := RX2) (T := TX2) (N := 11) hx hb hts (by decide +kernel) hown hK hP 0 rfl rfl 1 (by decide) (hts (.fieldLink RX2 18 "CharacterRows" "written" "LCharacterRows$Octets;") (by decide +kernel)) (fun _ h9 => h9) rfl dX2_writeNewCode_58 ?_
      refine lv_sipush (v := 128) hx hb dX2_writeNewCode_61 (by decide) ?_
      refine lv_iload_n hx hb dX2_writeNewCode_64 rfl (lv_at hl 2 rfl) ?_
      refine lv_bipush (v := 64) hx hb dX2_writeNewCode_65 (by decide) ?_
      refine lv_idiv hx hb dX2_writeNewCode_67 (by decide) ?_
      refine lv_bipush (v := 64) hx hb dX2_writeNewCode_68 (by decide) ?_
      refine lv_irem hx hb dX2_writeNewCode_70 (by decide) ?_
      refine lv_iadd hx hb dX2_writeNewCode_71 ?_
      refine clV (wr := [(h, .inr (3, [.ref t0, .ref t1, .ref t2, .ref t3, .ref t4, .ref t5, .ref t6, .ref t7, .ref t8, .ref t9, .int si]))]) (va_runV ⟨hx, hb, hml, hown, hts⟩ (KX1_add l D t1 b1 c1 u_1 (rw_add 400 x1 ((224 + (v0 / 4096)) : Int32).toInt8.toInt32) 400 (by decide) hw_1 (128 + ((v0 / 64) - (v0 / 64) / 64 * 64)) _) (cwV 1 hts gX2_writeNewCode_X1_add rfl rfl rfl (by decide +kernel) ⟨Nat.le_of_ble_eq_true rfl, Nat.le_of_ble_eq_true rfl⟩) (pcM_V (hP.sub (ws' := [(t1, .inr (2, [.ref b1, .int (nI (rw_add 400 x1 ((224 + (v0 / 4096)) : Int32).toInt8.toInt32).length)])), (b1, .inl (c1, 400, .inl u_1))]) [1, 2] rfl) (hD.sub (ws' := [(t1, .inr (2, [.ref b1, .int (nI (rw_add 400 x1 ((224 + (v0 / 4096)) : Int32).toInt8.toInt32).length)])), (b1, .inl (c1, 400, .inl u_1))]) [1, 2] (by decide) rfl) (hK.sub (tys' := [(c1, .byte)]) [0] rfl) hN 0 rfl rfl) rfl rfl hl.1 rfl (lv_room (Nat.le_of_ble_eq_true rfl)) dX2_writeNewCode_72 ⟨Nat.zero_le _, Nat.zero_le _⟩) hP hD hS hA [1, 2] [0] rfl rfl (by decide) (by decide) (fun u_2 H locs hw_2 hP hD hS => ?_)
      have hP : va_P D vwCl [(h, .inr (3, [.ref t0, .ref t1, .ref t2, .ref t3, .ref t4, .ref t5, .ref t6, .ref t7, .ref t8, .ref t9, .int si])), (t1, .inr (2, [.ref b1, .int (nI (rw_add 400 (rw_add 400 x1 ((224 + (v0 / 4096)) : Int32).toInt8.toInt32) ((128 + ((v0 / 64) - (v0 / 64) / 64 * 64)) : Int32).toInt8.toInt32).length)])), (b1, .inl (c1, 400, .inl u_2))] H := hP.sub [0, 1, 2] rfl
      have hD : va_D A [(h, .inr (3, [.ref t0, .ref t1, .ref t2, .ref t3, .ref t4, .ref t5, .ref t6, .ref t7, .ref t8, .ref t9, .int si])), (t1, .inr (2, [.ref b1, .int (nI (rw_add 400 (rw_add 400 x1 ((224 + (v0 / 4096)) : Int32).toInt8.toInt32) ((128 + ((v0 / 64) - (v0 / 64) / 64 * 64)) : Int32).toInt8.toInt32).length)])), (b1, .inl (c1, 400, .inl u_2))] := hD.sub [0, 1, 2] (by decide) rfl
      refine lv_aload_n hx hb dX2_writeNewCode_75 rfl (lv_at hl 1 rfl) ?_
      refine va_get (D := D) (ci := 3) (v := .ref t1) (C := RX2) (T := TX2) (N := 11) hx hb hts (by decide +kernel) hown hK hP 0 rfl rfl 1 (by decide) (hts (.fieldLink RX2 18 "CharacterRows" "written" "LCharacterRows$Octets;") (by decide +kernel)) (fun _ h9 => h9) rfl dX2_writeNewCode_76 ?_
      refine lv_sipush (v := 128) hx hb dX2_writeNewCode_79 (by decide) ?_
      refine lv_iload_n hx hb dX2_writeNewCode_82 rfl (lv_at hl 2 rfl) ?_
      refine lv_bipush (v := 64) hx hb dX2_writeNewCode_83 (by decide) ?_
      refine lv_irem hx hb dX2_writeNewCode_85 (by decide) ?_
      refine lv_iadd hx hb dX2_writeNewCode_86 ?_
      refine clV (wr := [(h, .inr (3, [.ref t0, .ref t1, .ref t2, .ref t3, .ref t4, .ref t5, .ref t6, .ref t7, .ref t8, .ref t9, .int si]))]) (va_runV ⟨hx, hb, hml, hown, hts⟩ (KX1_add l D t1 b1 c1 u_2 (rw_add 400 (rw_add 400 x1 ((224 + (v0 / 4096)) : Int32).toInt8.toInt32) ((128 + ((v0 / 64) - (v0 / 64) / 64 * 64)) : Int32).toInt8.toInt32) 400 (by decide) hw_2 (128 + (v0 - v0 / 64 * 64)) _) (cwV 1 hts gX2_writeNewCode_X1_add rfl rfl rfl (by decide +kernel) ⟨Nat.le_of_ble_eq_true rfl, Nat.le_of_ble_eq_true rfl⟩) (pcM_V (hP.sub (ws' := [(t1, .inr (2, [.ref b1, .int (nI (rw_add 400 (rw_add 400 x1 ((224 + (v0 / 4096)) : Int32).toInt8.toInt32) ((128 + ((v0 / 64) - (v0 / 64) / 64 * 64)) : Int32).toInt8.toInt32).length)])), (b1, .inl (c1, 400, .inl u_2))]) [1, 2] rfl) (hD.sub (ws' := [(t1, .inr (2, [.ref b1, .int (nI (rw_add 400 (rw_add 400 x1 ((224 + (v0 / 4096)) : Int32).toInt8.toInt32) ((128 + ((v0 / 64) - (v0 / 64) / 64 * 64)) : Int32).toInt8.toInt32).length)])), (b1, .inl (c1, 400, .inl u_2))]) [1, 2] (by decide) rfl) (hK.sub (tys' := [(c1, .byte)]) [0] rfl) hN 0 rfl rfl) rfl rfl hl.1 rfl (lv_room (Nat.le_of_ble_eq_true rfl)) dX2_writeNewCode_87 ⟨Nat.zero_le _, Nat.zero_le _⟩) hP hD hS hA [1, 2] [0] rfl rfl (by decide) (by decide) (fun u_3 H locs hw_3 hP hD hS => ?_)
      have hP : va_P D vwCl [(h, .inr (3, [.ref t0, .ref t1, .ref t2, .ref t3, .ref t4, .ref t5, .ref t6, .ref t7, .ref t8, .ref t9, .int si])), (t1, .inr (2, [.ref b1, .int (nI (rw_add 400 (rw_add 400 (rw_add 400 x1 ((224 + (v0 / 4096)) : Int32).toInt8.toInt32) ((128 + ((v0 / 64) - (v0 / 64) / 64 * 64)) : Int32).toInt8.toInt32) ((128 + (v0 - v0 / 64 * 64)) : Int32).toInt8.toInt32).length)])), (b1, .inl (c1, 400, .inl u_3))] H := hP.sub [0, 1, 2] rfl
      have hD : va_D A [(h, .inr (3, [.ref t0, .ref t1, .ref t2, .ref t3, .ref t4, .ref t5, .ref t6, .ref t7, .ref t8, .ref t9, .int si])), (t1, .inr (2, [.ref b1, .int (nI (rw_add 400 (rw_add 400 (rw_add 400 x1 ((224 + (v0 / 4096)) : Int32).toInt8.toInt32) ((128 + ((v0 / 64) - (v0 / 64) / 64 * 64)) : Int32).toInt8.toInt32) ((128 + (v0 - v0 / 64 * 64)) : Int32).toInt8.toInt32).length)])), (b1, .inl (c1, 400, .inl u_3))] := hD.sub [0, 1, 2] (by decide) rfl
      have e8 : (rw_add 400 (rw_add 400 (rw_add 400 x1 ((224 + (v0 / 4096)) : Int32).toInt8.toInt32) ((128 + ((v0 / 64) - (v0 / 64) / 64 * 64)) : Int32).toInt8.toInt32) ((128 + (v0 - v0 / 64 * 64)) : Int32).toInt8.toInt32) = ((wnb v0).foldl (oadd 400) x1) := by simp [wnb, oadd, c6_1, c20_1]
      rw [e8] at hw_3 hP hD
      exact rtV hx hb hr hlocks dX2_writeNewCode_90 u_3 hw_3 hP hD hS
    · skip
      refine lv_aload_n hx hb dX2_writeNewCode_23 rfl (lv_at hl 1 rfl) ?_
      refine va_get (D := D) (ci := 3) (v := .ref t1) (C := RX2) (T := TX2) (N := 11) hx hb hts (by decide +kernel) hown hK hP 0 rfl rfl 1 (by decide) (hts (.fieldLink RX2 18 "CharacterRows" "written" "LCharacterRows$Octets;") (by decide +kernel)) (fun _ h9 => h9) rfl dX2_writeNewCode_24 ?_
      refine lv_sipush (v := 192) hx hb dX2_writeNewCode_27 (by decide) ?_
      refine lv_iload_n hx hb dX2_writeNewCode_30 rfl (lv_at hl 2 rfl) ?_
      refine lv_bipush (v := 64) hx hb dX2_writeNewCode_31 (by decide) ?_
      refine lv_idiv hx hb dX2_writeNewCode_33 (by decide) ?_
      refine lv_iadd hx hb dX2_writeNewCode_34 ?_
      refine clV (wr := [(h, .inr (3, [.ref t0, .ref t1, .ref t2, .ref t3, .ref t4, .ref t5, .ref t6, .ref t7, .ref t8, .ref t9, .int si]))]) (va_runV ⟨hx, hb, hml, hown, hts⟩ (KX1_add l D t1 b1 c1 f1 x1 400 (by decide) o1 (192 + (v0 / 64)) _) (cwV 1 hts gX2_writeNewCode_X1_add rfl rfl rfl (by decide +kernel) ⟨Nat.le_of_ble_eq_true rfl, Nat.le_of_ble_eq_true rfl⟩) (pcM_V (hP.sub (ws' := [(t1, .inr (2, [.ref b1, .int (nI x1.length)])), (b1, .inl (c1, 400, .inl f1))]) [1, 2] rfl) (hD.sub (ws' := [(t1, .inr (2, [.ref b1, .int (nI x1.length)])), (b1, .inl (c1, 400, .inl f1))]) [1, 2] (by decide) rfl) (hK.sub (tys' := [(c1, .byte)]) [0] rfl) hN 0 rfl rfl) rfl rfl hl.1 rfl (lv_room (Nat.le_of_ble_eq_true rfl)) dX2_writeNewCode_35 ⟨Nat.zero_le _, Nat.zero_le _⟩) hP hD hS hA [1, 2] [0] rfl rfl (by decide) (by decide) (fun u_4 H locs hw_4 hP hD hS => ?_)
      have hP : va_P D vwCl [(h, .inr (3, [.ref t0, .ref t1, .ref t2, .ref t3, .ref t4, .ref t5, .ref t6, .ref t7, .ref t8, .ref t9, .int si])), (t1, .inr (2, [.ref b1, .int (nI (rw_add 400 x1 ((192 + (v0 / 64)) : Int32).toInt8.toInt32).length)])), (b1, .inl (c1, 400, .inl u_4))] H := hP.sub [0, 1, 2] rfl
      have hD : va_D A [(h, .inr (3, [.ref t0, .ref t1, .ref t2, .ref t3, .ref t4, .ref t5, .ref t6, .ref t7, .ref t8, .ref t9, .int si])), (t1, .inr (2, [.ref b1, .int (nI (rw_add 400 x1 ((192 + (v0 / 64)) : Int32).toInt8.toInt32).length)])), (b1, .inl (c1, 400, .inl u_4))] := hD.sub [0, 1, 2] (by decide) rfl
      refine lv_goto (tgt := 75) hx hb dX2_writeNewCode_38 (by decide) ?_
      refine lv_aload_n hx hb dX2_writeNewCode_75 rfl (lv_at hl 1 rfl) ?_
      refine va_get (D := D) (ci := 3) (v := .ref t1) (C := RX2) (T := TX2) (N := 11) hx hb hts (by decide +kernel) hown hK hP 0 rfl rfl 1 (by decide) (hts (.fieldLink RX2 18 "CharacterRows" "written" "LCharacterRows$Octets;") (by decide +kernel)) (fun _ h9 => h9) rfl dX2_writeNewCode_76 ?_
      refine lv_sipush (v := 128) hx hb dX2_writeNewCode_79 (by decide) ?_
      refine lv_iload_n hx hb dX2_writeNewCode_82 rfl (lv_at hl 2 rfl) ?_
      refine lv_bipush (v := 64) hx hb dX2_writeNewCode_83 (by decide) ?_
      refine lv_irem hx hb dX2_writeNewCode_85 (by decide) ?_
      refine lv_iadd hx hb dX2_writeNewCode_86 ?_
      refine clV (wr := [(h, .inr (3, [.ref t0, .ref t1, .ref t2, .ref t3, .ref t4, .ref t5, .ref t6, .ref t7, .ref t8, .ref t9, .int si]))]) (va_runV ⟨hx, hb, hml, hown, hts⟩ (KX1_add l D t1 b1 c1 u_4 (rw_add 400 x1 ((192 + (v0 / 64)) : Int32).toInt8.toInt32) 400 (by decide) hw_4 (128 + (v0 - v0 / 64 * 64)) _) (cwV 1 hts gX2_writeNewCode_X1_add rfl rfl rfl (by decide +kernel) ⟨Nat.le_of_ble_eq_true rfl, Nat.le_of_ble_eq_true rfl⟩) (pcM_V (hP.sub (ws' := [(t1, .inr (2, [.ref b1, .int (nI (rw_add 400 x1 ((192 + (v0 / 64)) : Int32).toInt8.toInt32).length)])), (b1, .inl (c1, 400, .inl u_4))]) [1, 2] rfl) (hD.sub (ws' := [(t1, .inr (2, [.ref b1, .int (nI (rw_add 400 x1 ((192 + (v0 / 64)) : Int32).toInt8.toInt32).length)])), (b1, .inl (c1, 400, .inl u_4))]) [1, 2] (by decide) rfl) (hK.sub (tys' := [(c1, .byte)]) [0] rfl) hN 0 rfl rfl) rfl rfl hl.1 rfl (lv_room (Nat.le_of_ble_eq_true rfl)) dX2_writeNewCode_87 ⟨Nat.zero_le _, Nat.zero_le _⟩) hP hD hS hA [1, 2] [0] rfl rfl (by decide) (by decide) (fun u_5 H locs hw_5 hP hD hS => ?_)
      have hP : va_P D vwCl [(h, .inr (3, [.ref t0, .ref t1, .ref t2, .ref t3, .ref t4, .ref t5, .ref t6, .ref t7, .ref t8, .ref t9, .int si])), (t1, .inr (2, [.ref b1, .int (nI (rw_add 400 (rw_add 400 x1 ((192 + (v0 / 64)) : Int32).toInt8.toInt32) ((128 + (v0 - v0 / 64 * 64)) : Int32).toInt8.toInt32).length)])), (b1, .inl (c1, 400, .inl u_5))] H := hP.sub [0, 1, 2] rfl
      have hD : va_D A [(h, .inr (3, [.ref t0, .ref t1, .ref t2, .ref t3, .ref t4, .ref t5, .ref t6, .ref t7, .ref t8, .ref t9, .int si])), (t1, .inr (2, [.ref b1, .int (nI (rw_add 400 (rw_add 400 x1 ((192 + (v0 / 64)) : Int32).toInt8.toInt32) ((128 + (v0 - v0 / 64 * 64)) : Int32).toInt8.toInt32).length)])), (b1, .inl (c1, 400, .inl u_5))] := hD.sub [0, 1, 2] (by decide) rfl
      have e8 : (rw_add 400 (rw_add 400 x1 ((192 + (v0 / 64)) : Int32).toInt8.toInt32) ((128 + (v0 - v0 / 64 * 64)) : Int32).toInt8.toInt32) = ((wnb v0).foldl (oadd 400) x1) := by simp [wnb, oadd, c6_1, c20_1]
      rw [e8] at hw_5 hP hD
      exact rtV hx hb hr hlocks dX2_writeNewCode_90 u_5 hw_5 hP hD hS
  · skip
    refine lv_aload_n hx hb dX2_writeNewCode_9 rfl (lv_at hl 1 rfl) ?_
    refine va_get (D := D) (ci := 3) (v := .ref t1) (C := RX2) (T := TX2) (N := 11) hx hb hts (by decide +kernel) hown hK hP 0 rfl rfl 1 (by decide) (hts (.fieldLink RX2 18 "CharacterRows" "written" "LCharacterRows$Octets;") (by decide +kernel)) (fun _ h9 => h9) rfl dX2_writeNewCode_10 ?_
    refine lv_iload_n hx hb dX2_writeNewCode_13 rfl (lv_at hl 2 rfl) ?_
    refine clV (wr := [(h, .inr (3, [.ref t0, .ref t1, .ref t2, .ref t3, .ref t4, .ref t5, .ref t6, .ref t7, .ref t8, .ref t9, .int si]))]) (va_runV ⟨hx, hb, hml, hown, hts⟩ (KX1_add l D t1 b1 c1 f1 x1 400 (by decide) o1 v0 _) (cwV 1 hts gX2_writeNewCode_X1_add rfl rfl rfl (by decide +kernel) ⟨Nat.le_of_ble_eq_true rfl, Nat.le_of_ble_eq_true rfl⟩) (pcM_V (hP.sub (ws' := [(t1, .inr (2, [.ref b1, .int (nI x1.length)])), (b1, .inl (c1, 400, .inl f1))]) [1, 2] rfl) (hD.sub (ws' := [(t1, .inr (2, [.ref b1, .int (nI x1.length)])), (b1, .inl (c1, 400, .inl f1))]) [1, 2] (by decide) rfl) (hK.sub (tys' := [(c1, .byte)]) [0] rfl) hN 0 rfl rfl) rfl rfl hl.1 rfl (lv_room (Nat.le_of_ble_eq_true rfl)) dX2_writeNewCode_14 ⟨Nat.zero_le _, Nat.zero_le _⟩) hP hD hS hA [1, 2] [0] rfl rfl (by decide) (by decide) (fun u_6 H locs hw_6 hP hD hS => ?_)
    have hP : va_P D vwCl [(h, .inr (3, [.ref t0, .ref t1, .ref t2, .ref t3, .ref t4, .ref t5, .ref t6, .ref t7, .ref t8, .ref t9, .int si])), (t1, .inr (2, [.ref b1, .int (nI (rw_add 400 x1 (v0 : Int32).toInt8.toInt32).length)])), (b1, .inl (c1, 400, .inl u_6))] H := hP.sub [0, 1, 2] rfl
    have hD : va_D A [(h, .inr (3, [.ref t0, .ref t1, .ref t2, .ref t3, .ref t4, .ref t5, .ref t6, .ref t7, .ref t8, .ref t9, .int si])), (t1, .inr (2, [.ref b1, .int (nI (rw_add 400 x1 (v0 : Int32).toInt8.toInt32).length)])), (b1, .inl (c1, 400, .inl u_6))] := hD.sub [0, 1, 2] (by decide) rfl
    have e8 : (rw_add 400 x1 (v0 : Int32).toInt8.toInt32) = ((wnb v0).foldl (oadd 400) x1) := by simp [wnb, oadd, c6_1]
    rw [e8] at hw_6 hP hD
    exact rtV hx hb hr hlocks dX2_writeNewCode_17 u_6 hw_6 hP hD hS
end
section
/-! what is read and what is written, on lists -/
def gd (t : List Int32) (k : Nat) : Int32 := t.getD k (-1)
theorem rw_at_d {l r : List Int32} {k j : Nat} (hk : l.length + j = k) (h : k < 2 ^ 31) : rw_at (l ++ r) (nI k) = gd r j := by
  rw [rw_atN h, ← hk]
  simp [gd, List.getD, List.getElem?_append_right]
def roS : Nat → List Int32 → Nat → Int32 → List Int32 → Int32 → List Int32 → Int32 × List Int32
  | 0, _, _, _, _, _, fr => (-1, fr)
  | n + 1, rest, p, set, wm, fm, fr => match rest with
    | [] => (if wm.length = 0 then -1 else fm, fr)
    | b :: t => if b = 27 then (if fX2_setOfEscape (gd t 0) (gd t 1) = -1 then (nI p, fr) else roS n (t.drop 2) (p + 3) (fX2_setOfEscape (gd t 0) (gd t 1)) wm fm fr)
      else if fX2_codeOfOldByte b set = 0 then (nI p, fr)
      else if fX2_isMark (fX2_codeOfOldByte b set) = 0 then (if fr.length + 1 + wm.length ≤ 100 then roS n t (p + 1) set [] fm (fr ++ fX2_codeOfOldByte b set :: wm) else (if wm.length = 0 then nI p else fm, fr))
      else roS n t (p + 1) set (wm ++ [fX2_codeOfOldByte b set]) (if wm.length = 0 then nI p else fm) fr
theorem esc_len {t : List Int32} (h : ¬ fX2_setOfEscape (gd t 0) (gd t 1) = -1) : 2 ≤ t.length := by
  rcases t with _ | ⟨a, _ | ⟨b, t⟩⟩
  · exact absurd (by decide) h
  · refine absurd ?_ h
    show fX2_setOfEscape a (-1) = -1
    unfold fX2_setOfEscape
    split
    · rfl
    · rfl
  · simp
theorem fold_add {cap : Nat} : ∀ (m l : List Int32), l.length + m.length ≤ cap → m.foldl (rw_add cap) l = l ++ m
  | [], l, _ => by simp
  | c :: t, l, h => by
    rw [List.foldl_cons, rw_add_lt (by simp at h; omega), fold_add t _ (by simp at h ⊢; omega)]
    simp
theorem nI_0iff {n : Nat} (h : n < 2 ^ 31) : nI n = 0 ↔ n = 0 := nI_eq (b := 0) h (by decide)
theorem nI_100 {n : Nat} (h : n < 2 ^ 31) : nI n ≤ 100 ↔ n ≤ 100 := nI_leI (b := 100) h (by decide)
theorem nI_lt100 {n : Nat} (h : n < 2 ^ 31) : nI n < 100 ↔ n < 100 := nI_ltI (b := 100) h (by decide)
def bbN (c : Int32) : Nat := if c < 128 then 0 else if c < 2048 then 1 else 2
theorem bbN_eq (c : Int32) : fX2_bytesBehindFirst c = nI (bbN c) := by
  have e1 : (128 ≤ c) ↔ ¬ c < 128 := by rw [Int32.le_iff_toInt_le, Int32.lt_iff_toInt_lt]; omega
  have e2 : (2048 ≤ c) ↔ ¬ c < 2048 := by rw [Int32.le_iff_toInt_le, Int32.lt_iff_toInt_lt]; omega
  unfold fX2_bytesBehindFirst bbN
  simp only [e1, e2]
  by_cases h1 : c < 128 <;> by_cases h2 : c < 2048 <;> simp [h1, h2] <;> decide
def nwk (c : Int32) (n : Nat) : Bool := decide ((¬ fX2_isPlain c = 0 ∨ ¬ fX2_setOf c = -1 ∨ ¬ fX2_isComposed c = 0) ∧ (fX2_isMark c = 0 ∨ ¬ n = 0) ∧ n < 100)
def cnl (b : Int32) (t : List Int32) : Int32 := fX2_codeOfNewBytes b (gd t 0) (gd t 1)
def rnS : Nat → List Int32 → Nat → List Int32 → Int32 × List Int32
  | 0, _, _, fr => (-1, fr)
  | n + 1, rest, p, fr => match rest with
    | [] => (-1, fr)
    | b :: t => if nwk (cnl b t) fr.length = true then rnS n (t.drop (bbN (cnl b t))) (p + 1 + bbN (cnl b t)) (fr ++ [cnl b t]) else (nI p, fr)
theorem cnb_cases {v0 v1 v2 c : Int32} (h : fX2_codeOfNewBytes v0 v1 v2 = c) : c = -1 ∨ (¬ 128 ≤ v0 ∧ c = v0) ∨ (fX2_bytesBehindFirst c = 1 ∧ ¬ v1 < 128) ∨ (fX2_bytesBehindFirst c = 2 ∧ ¬ v1 < 128 ∧ ¬ v2 < 128) := by
  unfold fX2_codeOfNewBytes at h
  repeat' split at h
  all_goals subst h
  all_goals first
    | exact Or.inl rfl
    | exact Or.inr (Or.inl ⟨by assumption, rfl⟩)
    | exact Or.inr (Or.inr (Or.inl ⟨by assumption, by assumption⟩))
    | exact Or.inr (Or.inr (Or.inr ⟨by assumption, by assumption, by assumption⟩))
theorem nwk_ne {c : Int32} {n : Nat} (h : nwk c n = true) : ¬ c = -1 := by
  intro e
  subst e
  have h1 := (of_decide_eq_true h).1
  exact absurd h1 (by decide)
theorem new_len {b : Int32} {t : List Int32} {n : Nat} (h : nwk (cnl b t) n = true) : bbN (cnl b t) ≤ t.length := by
  have q := cnb_cases (v0 := b) (v1 := gd t 0) (v2 := gd t 1) (c := cnl b t) rfl
  rcases q with q | q | q | q
  · exact absurd q (nwk_ne h)
  · have : bbN (cnl b t) = 0 := by
      unfold bbN
      rw [q.2, if_pos]
      have := q.1
      rw [Int32.le_iff_toInt_le] at this
      rw [Int32.lt_iff_toInt_lt]
      omega
    omega
  · have h1 : bbN (cnl b t) = 1 := by
      have := q.1
      rw [bbN_eq] at this
      exact (nI_eq (b := 1) (by unfold bbN; split <;> (try split) <;> decide) (by decide)).mp this
    rcases t with _ | ⟨a, t⟩
    · exact absurd (by decide) q.2
    · rw [h1]; simp
  · have h1 : bbN (cnl b t) = 2 := by
      have := q.1
      rw [bbN_eq] at this
      exact (nI_eq (b := 2) (by unfold bbN; split <;> (try split) <;> decide) (by decide)).mp this
    rcases t with _ | ⟨a, _ | ⟨a2, t⟩⟩
    · exact absurd (by decide) q.2.1
    · exact absurd (show (-1 : Int32) < 128 by decide) q.2.2
    · rw [h1]; simp
theorem bbN_le (c : Int32) : bbN c ≤ 2 := by unfold bbN; split <;> (try split) <;> decide
/-- a row of marks and its letter written: the bytes, the set that is on then -/
def wms : List Int32 → Int32 → List Int32 × Int32
  | [], on => ([], on)
  | m :: t, on => (wob m on ++ (wms t (woo m on)).1, (wms t (woo m on)).2)
def woS (si : Int32) : List Int32 → Nat → Int32 → Int32 → List Int32 × List Int32 × List Int32
  | [], _, _, _ => ([], [], [])
  | c :: t, i, on, lost => if fX2_isMark c = 0 then
      (if fX2_isPlain c = 0 ∧ fX2_setOf c = -1 then (si :: (woS si t (i + 1) on 1).1, c :: (woS si t (i + 1) on 1).2.1, nI i :: (woS si t (i + 1) on 1).2.2)
       else ((wms (t.take (lmk t) ++ [c]) on).1 ++ (woS si t (i + 1) (wms (t.take (lmk t) ++ [c]) on).2 0).1, (woS si t (i + 1) (wms (t.take (lmk t) ++ [c]) on).2 0).2.1, (woS si t (i + 1) (wms (t.take (lmk t) ++ [c]) on).2 0).2.2))
    else if lost = 0 then woS si t (i + 1) on lost else ((woS si t (i + 1) on lost).1, c :: (woS si t (i + 1) on lost).2.1, nI i :: (woS si t (i + 1) on lost).2.2)
end
section
/-! the class: the two readers, the two writers -/
set_option maxHeartbeats 4000000 in
set_option maxRecDepth 100000 in
theorem KX2_wrongInOldKind (l : Launch) (D : va_G) (h t0 t1 t2 t3 t4 t5 t6 t7 t8 t9 : Nat) (si : Int32) (b0 : Nat) (c0 : ClassId) (f0 : Nat → Int32) (x0 : List Int32) (o0 : rw_ok f0 200 x0) (b4 : Nat) (c4 : ClassId) (f4 : Nat → Int32) (o4 : rw_ok f4 200 ([] : List Int32)) (b7 : Nat) (c7 : ClassId) (f7 : Nat → Int32) (x7 : List Int32) (o7 : rw_ok f7 200 x7) (T : Int32 × List Int32) (hT : roS ((ox_u x0).length + 1) (ox_u x0) 0 0 [] (-1) [] = T) (sz : Nat) : Met l yX2_wrongInOldKind wsX2_wrongInOldKind ({ frames := 3, cells := 0, slots := 0, locals := 65 }) (pcM D sz [(h, .inr (3, [.ref t0, .ref t1, .ref t2, .ref t3, .ref t4, .ref t5, .ref t6, .ref t7, .ref t8, .ref t9, .int si])), (t0, .inr (2, [.ref b0, .int (nI x0.length)])), (b0, .inl (c0, 200, .inl f0)), (t4, .inr (1, [.ref b4, .int (nI ([] : List Int32).length)])), (b4, .inl (c4, 200, .inl f4)), (t7, .inr (1, [.ref b7, .int (nI x7.length)])), (b7, .inl (c7, 200, .inl f7))] [(c0, .byte), (c4, .int), (c7, .int)] [.ref h]) (qcI (S := (Nat → Int32) × (Nat → Int32) × List Int32) D (fun r u => r = T.1 ∧ rw_ok u.1 200 T.2 ∧ rw_ok u.2.1 200 u.2.2) (fun u => [(h, .inr (3, [.ref t0, .ref t1, .ref t2, .ref t3, .ref t4, .ref t5, .ref t6, .ref t7, .ref t8, .ref t9, .int si])), (t0, .inr (2, [.ref b0, .int (nI x0.length)])), (b0, .inl (c0, 200, .inl f0)), (t4, .inr (1, [.ref b4, .int (nI T.2.length)])), (b4, .inl (c4, 200, .inl u.1)), (t7, .inr (1, [.ref b7, .int (nI u.2.2.length)])), (b7, .inl (c7, 200, .inl u.2.1))]) (va_A [(h, .inr (3, [.ref t0, .ref t1, .ref t2, .ref t3, .ref t4, .ref t5, .ref t6, .ref t7, .ref t8, .ref t9, .int si])), (t0, .inr (2, [.ref b0, .int (nI x0.length)])), (b0, .inl (c0, 200, .inl f0)), (t4, .inr (1, [.ref b4, .int (nI ([] : List Int32).length)])), (b4, .inl (c4, 200, .inl f4)), (t7, .inr (1, [.ref b7, .int (nI x7.length)])), (b7, .inl (c7, 200, .inl f7))] sz)) 0 0 (va_A [(h, .inr (3, [.ref t0, .ref t1, .ref t2, .ref t3, .ref t4, .ref t5, .ref t6, .ref t7, .ref t8, .ref t9, .int si])), (t0, .inr (2, [.ref b0, .int (nI x0.length)])), (b0, .inl (c0, 200, .inl f0)), (t4, .inr (1, [.ref b4, .int (nI ([] : List Int32).length)])), (b4, .inl (c4, 200, .inl f4)), (t7, .inr (1, [.ref b7, .int (nI x7.length)])), (b7, .inl (c7, 200, .inl f7))] sz) := by
  refine ofM (Qc := fun A => qcI (S := (Nat → Int32) × (Nat → Int32) × List Int32) D (fun r u => r = T.1 ∧ rw_ok u.1 200 T.2 ∧ rw_ok u.2.1 200 u.2.2) (fun u => [(h, .inr (3, [.ref t0, .ref t1, .ref t2, .ref t3, .ref t4, .ref t5, .ref t6, .ref t7, .ref t8, .ref t9, .int si])), (t0, .inr (2, [.ref b0, .int (nI x0.length)])), (b0, .inl (c0, 200, .inl f0)), (t4, .inr (1, [.ref b4, .int (nI T.2.length)])), (b4, .inl (c4, 200, .inl u.1)), (t7, .inr (1, [.ref b7, .int (nI u.2.2.length)])), (b7, .inl (c7, 200, .inl u.2.1))]) A) (cc := cX2_wrongInOldKind) (maxL := 6) (ret := (some .int)) (by decide) rfl (Nat.le_of_ble_eq_true rfl) ?_
  intro p e s m below meth c ls A hx hb hr hml hown hts hlocks hnm hP hK hN hD hA hS hl
  have hl : lv_has ls 6 [(0, .ref h)] := hl
  refine lv_iconst (v := 0) hx hb dX2_wrongInOldKind_0 (by decide) ?_
  refine lv_istore_n (lv' := [(1, .int 0), (0, .ref h)]) hx hb dX2_wrongInOldKind_1 rfl hl (by decide) rfl (fun ls hl => ?_)
  refine lv_iconst (v := (-1)) hx hb dX2_wrongInOldKind_2 (by decide) ?_
  refine lv_istore_n (lv' := [(2, .int (-1)), (1, .int 0), (0, .ref h)]) hx hb dX2_wrongInOldKind_3 rfl hl (by decide) rfl (fun ls hl => ?_)
  refine lv_aload_n hx hb dX2_wrongInOldKind_4 rfl (lv_at hl 2 rfl) ?_
  refine va_get (D := D) (ci := 3) (v := .ref t7) (C := RX2) (T := TX2) (N := 11) hx hb hts (by decide +kernel) hown hK hP 0 rfl rfl 7 (by decide) (hts (.fieldLink RX2 40 "CharacterRows" "waitingMarks" "LCharacterRows$Codes;") (by decide +kernel)) (fun _ h9 => h9) rfl dX2_wrongInOldKind_5 ?_
  refine clV (wr := [(h, .inr (3, [.ref t0, .ref t1, .ref t2, .ref t3, .ref t4, .ref t5, .ref t6, .ref t7, .ref t8, .ref t9, .int si])), (t0, .inr (2, [.ref b0, .int (nI x0.length)])), (b0, .inl (c0, 200, .inl f0)), (t4, .inr (1, [.ref b4, .int (nI ([] : List Int32).length)])), (b4, .inl (c4, 200, .inl f4))]) (va_runV ⟨hx, hb, hml, hown, hts⟩ (KX0_empty l D t7 b7 c7 f7 x7 o7 _) (cwV 0 hts gX2_wrongInOldKind_X0_empty rfl rfl rfl (by decide +kernel) ⟨Nat.le_of_ble_eq_true rfl, Nat.le_of_ble_eq_true rfl⟩) (pcM_V (hP.sub (ws' := [(t7, .inr (1, [.ref b7, .int (nI x7.length)])), (b7, .inl (c7, 200, .inl f7))]) [5, 6] rfl) (hD.sub (ws' := [(t7, .inr (1, [.ref b7, .int (nI x7.length)])), (b7, .inl (c7, 200, .inl f7))]) [5, 6] (by decide) rfl) (hK.sub (tys' := [(c7, .int)]) [2] rfl) hN 0 rfl rfl) rfl rfl hl.1 rfl (lv_room (Nat.le_of_ble_eq_true rfl)) dX2_wrongInOldKind_8 ⟨Nat.zero_le _, Nat.zero_le _⟩) hP hD hS hA [5, 6] [0, 1, 2, 3, 4] rfl rfl (by decide) (by decide) (fun u_1 H locs hw_1 hP hD hS => ?_)
  have hP : va_P D vwCl [(h, .inr (3, [.ref t0, .ref t1, .ref t2, .ref t3, .ref t4, .ref t5, .ref t6, .ref t7, .ref t8, .ref t9, .int si])), (t0, .inr (2, [.ref b0, .int (nI x0.length)])), (b0, .inl (c0, 200, .inl f0)), (t4, .inr (1, [.ref b4, .int (nI ([] : List Int32).length)])), (b4, .inl (c4, 200, .inl f4)), (t7, .inr (1, [.ref b7, .int (nI ([] : List Int32).length)])), (b7, .inl (c7, 200, .inl u_1))] H := hP.sub [0, 1, 2, 3, 4, 5, 6] rfl
  have hD : va_D A [(h, .inr (3, [.ref t0, .ref t1, .ref t2, .ref t3, .ref t4, .ref t5, .ref t6, .ref t7, .ref t8, .ref t9, .int si])), (t0, .inr (2, [.ref b0, .int (nI x0.length)])), (b0, .inl (c0, 200, .inl f0)), (t4, .inr (1, [.ref b4, .int (nI ([] : List Int32).length)])), (b4, .inl (c4, 200, .inl f4)), (t7, .inr (1, [.ref b7, .int (nI ([] : List Int32).length)])), (b7, .inl (c7, 200, .inl u_1))] := hD.sub [0, 1, 2, 3, 4, 5, 6] (by decide) rfl
  refine lv_iconst (v := 0) hx hb dX2_wrongInOldKind_11 (by decide) ?_
  refine lv_istore_n (lv' := [(3, .int 0), (2, .int (-1)), (1, .int 0), (0, .ref h)]) hx hb dX2_wrongInOldKind_12 rfl hl (by decide) rfl (fun ls hl => ?_)
  have loop : ∀ (n : Nat) (rest done wm fr : List Int32) (f7 f4 : Nat → Int32) (x1 x2 x3 : Int32) (H : Heap) (locs : List Loc) (ls : Array Slot), rest.length < n → ox_u x0 = done ++ rest → roS n rest done.length x1 wm x2 fr = T → x3 = nI done.length → rw_ok f4 200 fr → rw_ok f7 200 wm → wm.length ≤ done.length → fr.length ≤ 100 → va_P D vwCl [(h, .inr (3, [.ref t0, .ref t1, .ref t2, .ref t3, .ref t4, .ref t5, .ref t6, .ref t7, .ref t8, .ref t9, .int si])), (t0, .inr (2, [.ref b0, .int (nI x0.length)])), (b0, .inl (c0, 200, .inl f0)), (t4, .inr (1, [.ref b4, .int (nI fr.length)])), (b4, .inl (c4, 200, .inl f4)), (t7, .inr (1, [.ref b7, .int (nI wm.length)])), (b7, .inl (c7, 200, .inl f7))] H → va_D A [(h, .inr (3, [.ref t0, .ref t1, .ref t2, .ref t3, .ref t4, .ref t5, .ref t6, .ref t7, .ref t8, .ref t9, .int si])), (t0, .inr (2, [.ref b0, .int (nI x0.length)])), (b0, .inl (c0, 200, .inl f0)), (t4, .inr (1, [.ref b4, .int (nI fr.length)])), (b4, .inl (c4, 200, .inl f4)), (t7, .inr (1, [.ref b7, .int (nI wm.length)])), (b7, .inl (c7, 200, .inl f7))] → va_S A s.heap H locs → lv_has ls 6 [(3, .int x3), (2, .int x2), (1, .int x1), (0, .ref h)] → W p l e ({ frames := 3, cells := 0, slots := 0, locals := 65 }) s m ([.ref h] : List Value).toArray below meth c H locs 0 0 (MQ below (qcI (S := (Nat → Int32) × (Nat → Int32) × List Int32) D (fun r u => r = T.1 ∧ rw_ok u.1 200 T.2 ∧ rw_ok u.2.1 200 u.2.2) (fun u => [(h, .inr (3, [.ref t0, .ref t1, .ref t2, .ref t3, .ref t4, .ref t5, .ref t6, .ref t7, .ref t8, .ref t9, .int si])), (t0, .inr (2, [.ref b0, .int (nI x0.length)])), (b0, .inl (c0, 200, .inl f0)), (t4, .inr (1, [.ref b4, .int (nI T.2.length)])), (b4, .inl (c4, 200, .inl u.1)), (t7, .inr (1, [.ref b7, .int (nI u.2.2.length)])), (b7, .inl (c7, 200, .inl u.2.1))]) A) ([.ref h] : List Value).toArray s 0 0 A) (F0 m 13 ls [])  := by
    intro n
    induction n with
    | zero =>
      intro rest done wm fr f7 f4 x1 x2 x3 H locs ls hn hcs hT e3 o4 o7 hwm hfr hP hD hS hl
      exact absurd hn (Nat.not_lt_zero _)
    | succ n ih =>
      intro rest done wm fr f7 f4 x1 x2 x3 H locs ls hn hcs hT e3 o4 o7 hwm hfr hP hD hS hl
      have hlx : x0.length = done.length + rest.length := by rw [← ox_len, hcs]; simp
      have h200 := o0.1
      rcases rest with _ | ⟨b, t⟩
      · skip
        simp at hlx
        refine lv_iload_n hx hb dX2_wrongInOldKind_13 rfl (lv_at hl 0 rfl) ?_
        refine lv_aload_n hx hb dX2_wrongInOldKind_14 rfl (lv_at hl 3 rfl) ?_
        refine va_get (D := D) (ci := 3) (v := .ref t0) (C := RX2) (T := TX2) (N := 11) hx hb hts (by decide +kernel) hown hK hP 0 rfl rfl 0 (by decide) (hts (.fieldLink RX2 14 "CharacterRows" "collected" "LCharacterRows$Octets;") (by decide +kernel)) (fun _ h9 => h9) rfl dX2_wrongInOldKind_15 ?_
        refine va_getN (D := D) (ci := 2) (v := .int (nI x0.length)) (C := RX1) (T := TX1) (N := 2) hx hb hts (by decide +kernel) hown hK hP 1 rfl rfl 1 (by decide) (va_Nw.use rfl (nst_at hN 0 rfl)) (fun _ h9 => h9) rfl dX2_wrongInOldKind_18 ?_
        refine lv_icmp_ge (tgt := 182) hx hb dX2_wrongInOldKind_21 (by decide) (fun c21_1 => ?_) (fun c21_1 => ?_)
        · skip
          refine lv_aload_n hx hb dX2_wrongInOldKind_182 rfl (lv_at hl 3 rfl) ?_
          refine va_get (D := D) (ci := 3) (v := .ref t7) (C := RX2) (T := TX2) (N := 11) hx hb hts (by decide +kernel) hown hK hP 0 rfl rfl 7 (by decide) (hts (.fieldLink RX2 40 "CharacterRows" "waitingMarks" "LCharacterRows$Codes;") (by decide +kernel)) (fun _ h9 => h9) rfl dX2_wrongInOldKind_183 ?_
          refine va_getN (D := D) (ci := 1) (v := .int (nI wm.length)) (C := RX0) (T := TX0) (N := 2) hx hb hts (by decide +kernel) hown hK hP 5 rfl rfl 1 (by decide) (va_Nw.use rfl (nst_at hN 1 rfl)) (fun _ h9 => h9) rfl dX2_wrongInOldKind_186 ?_
          refine lv_if_ne (tgt := 196) hx hb dX2_wrongInOldKind_189 (by decide) (fun c189_1 => ?_) (fun c189_1 => ?_)
          · skip
            refine lv_iload_n hx hb dX2_wrongInOldKind_196 rfl (lv_at hl 1 rfl) ?_
            have q9 := nI_0iff (n := wm.length) (by omega)
            have e8 : (x2, fr) = T := by rw [← hT]; simp [roS, ← q9, c189_1]
            have e9 : fr = T.2 := by rw [← e8]
            rw [e9] at o4 hP hD
            exact rtI hx hb hr hlocks dX2_wrongInOldKind_197 (f4, f7, wm) ⟨by rw [← e8], o4, o7⟩ hP hD hS
          · skip
            refine lv_iconst (v := (-1)) hx hb dX2_wrongInOldKind_192 (by decide) ?_
            refine lv_goto (tgt := 197) hx hb dX2_wrongInOldKind_193 (by decide) ?_
            have q9 := nI_0iff (n := wm.length) (by omega)
            have e8 : ((-1), fr) = T := by rw [← hT]; simp [roS, ← q9, c189_1]
            have e9 : fr = T.2 := by rw [← e8]
            rw [e9] at o4 hP hD
            exact rtI hx hb hr hlocks dX2_wrongInOldKind_197 (f4, f7, wm) ⟨by rw [← e8], o4, o7⟩ hP hD hS
        · skip
          exact absurd (by rw [e3, hlx]; simp) c21_1
      · skip
        simp at hlx
        have hle0 : done.length + t.length + 1 ≤ 200 := by omega
        refine lv_iload_n hx hb dX2_wrongInOldKind_13 rfl (lv_at hl 0 rfl) ?_
        refine lv_aload_n hx hb dX2_wrongInOldKind_14 rfl (lv_at hl 3 rfl) ?_
        refine va_get (D := D) (ci := 3) (v := .ref t0) (C := RX2) (T := TX2) (N := 11) hx hb hts (by decide +kernel) hown hK hP 0 rfl rfl 0 (by decide) (hts (.fieldLink RX2 14 "CharacterRows" "collected" "LCharacterRows$Octets;") (by decide +kernel)) (fun _ h9 => h9) rfl dX2_wrongInOldKind_15 ?_
        refine va_getN (D := D) (ci := 2) (v := .int (nI x0.length)) (C := RX1) (T := TX1) (N := 2) hx hb hts (by decide +kernel) hown hK hP 1 rfl rfl 1 (by decide) (va_Nw.use rfl (nst_at hN 0 rfl)) (fun _ h9 => h9) rfl dX2_wrongInOldKind_18 ?_
        refine lv_icmp_ge (tgt := 182) hx hb dX2_wrongInOldKind_21 (by decide) (fun c21_2 => ?_) (fun c21_2 => ?_)
        · skip
          exact absurd c21_2 (by rw [e3, hlx]; exact nI_ge (by simp) (by simp at hlx ⊢; omega))
        · skip
          refine lv_aload_n hx hb dX2_wrongInOldKind_24 rfl (lv_at hl 3 rfl) ?_
          refine va_get (D := D) (ci := 3) (v := .ref t0) (C := RX2) (T := TX2) (N := 11) hx hb hts (by decide +kernel) hown hK hP 0 rfl rfl 0 (by decide) (hts (.fieldLink RX2 14 "CharacterRows" "collected" "LCharacterRows$Octets;") (by decide +kernel)) (fun _ h9 => h9) rfl dX2_wrongInOldKind_25 ?_
          refine lv_iload_n hx hb dX2_wrongInOldKind_28 rfl (lv_at hl 0 rfl) ?_
          refine vp_callSi (W.runV ⟨hx, hb, hml, hown, hts⟩ (KX1_at l D t0 b0 c0 f0 x0 200 (by decide) o0 x3) (cwV 1 hts gX2_wrongInOldKind_X1_at rfl rfl rfl (by decide +kernel) ⟨Nat.le_of_ble_eq_true rfl, Nat.le_of_ble_eq_true rfl⟩) (pcR_V (hP.sub (ws' := [(t0, .inr (2, [.ref b0, .int (nI x0.length)])), (b0, .inl (c0, 200, .inl f0))]) [1, 2] rfl) (hK.sub (tys' := [(c0, .byte)]) [0] rfl) hN 0 rfl rfl) rfl rfl hl.1 rfl (lv_room (Nat.le_of_ble_eq_true rfl)) dX2_wrongInOldKind_29 ⟨Nat.zero_le _, Nat.zero_le _⟩) (fun r9 hr9 => ?_)
          replace hr9 : r9 = b := hr9.trans (by rw [ox_at, hcs, e3]; exact rw_at_k rfl (by omega))
          subst r9
          refine lv_istore (lv' := [(4, .int b), (3, .int x3), (2, .int x2), (1, .int x1), (0, .ref h)]) hx hb dX2_wrongInOldKind_32 hl (by decide) rfl (fun ls hl => ?_)
          refine lv_iload hx hb dX2_wrongInOldKind_34 (lv_at hl 0 rfl) ?_
          refine lv_bipush (v := 27) hx hb dX2_wrongInOldKind_36 (by decide) ?_
          refine lv_icmp_ne (tgt := 60) hx hb dX2_wrongInOldKind_38 (by decide) (fun c38_1 => ?_) (fun c38_1 => ?_)
          · skip
            refine lv_iload hx hb dX2_wrongInOldKind_60 (lv_at hl 0 rfl) ?_
            refine lv_iload_n hx hb dX2_wrongInOldKind_62 rfl (lv_at hl 3 rfl) ?_
            refine vp_callSi (W.runS ⟨hx, hb, hml, hown, hts⟩ (KX2_codeOfOldByte l b x1) (va_cwS 2 hts gX2_wrongInOldKind_X2_codeOfOldByte rfl rfl rfl (by decide +kernel) ⟨Nat.le_of_ble_eq_true rfl, Nat.le_of_ble_eq_true rfl⟩) pcS_S rfl rfl hl.1 rfl (lv_room (Nat.le_of_ble_eq_true rfl)) dX2_wrongInOldKind_63 ⟨Nat.zero_le _, Nat.zero_le _⟩) (fun r9 hr9 => ?_)
            subst r9
            refine lv_istore (lv' := [(5, .int (fX2_codeOfOldByte b x1)), (4, .int b), (3, .int x3), (2, .int x2), (1, .int x1), (0, .ref h)]) hx hb dX2_wrongInOldKind_66 hl (by decide) rfl (fun ls hl => ?_)
            refine lv_iload hx hb dX2_wrongInOldKind_68 (lv_at hl 0 rfl) ?_
            refine lv_if_ne (tgt := 75) hx hb dX2_wrongInOldKind_70 (by decide) (fun c70_1 => ?_) (fun c70_1 => ?_)
            · skip
              refine lv_iload hx hb dX2_wrongInOldKind_75 (lv_at hl 0 rfl) ?_
              refine vp_callSi (W.runS ⟨hx, hb, hml, hown, hts⟩ (KX2_isMark l (fX2_codeOfOldByte b x1)) (va_cwS 1 hts gX2_wrongInOldKind_X2_isMark rfl rfl rfl (by decide +kernel) ⟨Nat.le_of_ble_eq_true rfl, Nat.le_of_ble_eq_true rfl⟩) pcS_S rfl rfl hl.1 rfl (lv_room (Nat.le_of_ble_eq_true rfl)) dX2_wrongInOldKind_77 ⟨Nat.zero_le _, Nat.zero_le _⟩) (fun r9 hr9 => ?_)
              subst r9
              refine lv_if_eq (tgt := 111) hx hb dX2_wrongInOldKind_80 (by decide) (fun c80_1 => ?_) (fun c80_1 => ?_)
              · skip
                have q130 : nI fr.length + 1 + nI wm.length = nI (fr.length + 1 + wm.length) := by rw [nI_1, nI_add]
                refine lv_aload_n hx hb dX2_wrongInOldKind_111 rfl (lv_at hl 5 rfl) ?_
                refine va_get (D := D) (ci := 3) (v := .ref t4) (C := RX2) (T := TX2) (N := 11) hx hb hts (by decide +kernel) hown hK hP 0 rfl rfl 4 (by decide) (hts (.fieldLink RX2 31 "CharacterRows" "fresh" "LCharacterRows$Codes;") (by decide +kernel)) (fun _ h9 => h9) rfl dX2_wrongInOldKind_112 ?_
                refine va_getN (D := D) (ci := 1) (v := .int (nI fr.length)) (C := RX0) (T := TX0) (N := 2) hx hb hts (by decide +kernel) hown hK hP 3 rfl rfl 1 (by decide) (va_Nw.use rfl (nst_at hN 1 rfl)) (fun _ h9 => h9) rfl dX2_wrongInOldKind_115 ?_
                refine lv_iconst (v := 1) hx hb dX2_wrongInOldKind_118 (by decide) ?_
                refine lv_iadd hx hb dX2_wrongInOldKind_119 ?_
                refine lv_aload_n hx hb dX2_wrongInOldKind_120 rfl (lv_at hl 5 rfl) ?_
                refine va_get (D := D) (ci := 3) (v := .ref t7) (C := RX2) (T := TX2) (N := 11) hx hb hts (by decide +kernel) hown hK hP 0 rfl rfl 7 (by decide) (hts (.fieldLink RX2 40 "CharacterRows" "waitingMarks" "LCharacterRows$Codes;") (by decide +kernel)) (fun _ h9 => h9) rfl dX2_wrongInOldKind_121 ?_
                refine va_getN (D := D) (ci := 1) (v := .int (nI wm.length)) (C := RX0) (T := TX0) (N := 2) hx hb hts (by decide +kernel) hown hK hP 5 rfl rfl 1 (by decide) (va_Nw.use rfl (nst_at hN 1 rfl)) (fun _ h9 => h9) rfl dX2_wrongInOldKind_124 ?_
                refine lv_iadd hx hb dX2_wrongInOldKind_127 ?_
                refine lv_bipush (v := 100) hx hb dX2_wrongInOldKind_128 (by decide) ?_
                refine lv_icmp_le (tgt := 149) hx hb dX2_wrongInOldKind_130 (by decide) (fun c130_1 => ?_) (fun c130_1 => ?_)
                · skip
                  rw [q130] at c130_1
                  have hle : fr.length + 1 + wm.length ≤ 100 := (nI_100 (by omega)).mp c130_1
                  refine lv_aload_n hx hb dX2_wrongInOldKind_149 rfl (lv_at hl 5 rfl) ?_
                  refine va_get (D := D) (ci := 3) (v := .ref t4) (C := RX2) (T := TX2) (N := 11) hx hb hts (by decide +kernel) hown hK hP 0 rfl rfl 4 (by decide) (hts (.fieldLink RX2 31 "CharacterRows" "fresh" "LCharacterRows$Codes;") (by decide +kernel)) (fun _ h9 => h9) rfl dX2_wrongInOldKind_150 ?_
                  refine lv_iload hx hb dX2_wrongInOldKind_153 (lv_at hl 0 rfl) ?_
                  refine clV (wr := [(h, .inr (3, [.ref t0, .ref t1, .ref t2, .ref t3, .ref t4, .ref t5, .ref t6, .ref t7, .ref t8, .ref t9, .int si])), (t0, .inr (2, [.ref b0, .int (nI x0.length)])), (b0, .inl (c0, 200, .inl f0)), (t7, .inr (1, [.ref b7, .int (nI wm.length)])), (b7, .inl (c7, 200, .inl f7))]) (va_runV ⟨hx, hb, hml, hown, hts⟩ (KX0_add l D t4 b4 c4 f4 fr o4 (fX2_codeOfOldByte b x1) _) (cwV 1 hts gX2_wrongInOldKind_X0_add rfl rfl rfl (by decide +kernel) ⟨Nat.le_of_ble_eq_true rfl, Nat.le_of_ble_eq_true rfl⟩) (pcM_V (hP.sub (ws' := [(t4, .inr (1, [.ref b4, .int (nI fr.length)])), (b4, .inl (c4, 200, .inl f4))]) [3, 4] rfl) (hD.sub (ws' := [(t4, .inr (1, [.ref b4, .int (nI fr.length)])), (b4, .inl (c4, 200, .inl f4))]) [3, 4] (by decide) rfl) (hK.sub (tys' := [(c4, .int)]) [1] rfl) hN 0 rfl rfl) rfl rfl hl.1 rfl (lv_room (Nat.le_of_ble_eq_true rfl)) dX2_wrongInOldKind_155 ⟨Nat.zero_le _, Nat.zero_le _⟩) hP hD hS hA [3, 4] [0, 1, 2, 5, 6] rfl rfl (by decide) (by decide) (fun u_2 H locs hw_2 hP hD hS => ?_)
                  have e9_1 : (rw_add 200 fr (fX2_codeOfOldByte b x1)) = (fr ++ [fX2_codeOfOldByte b x1]) := (rw_add_lt (by omega))
                  rw [e9_1] at hw_2 hP hD
                  have hP : va_P D vwCl [(h, .inr (3, [.ref t0, .ref t1, .ref t2, .ref t3, .ref t4, .ref t5, .ref t6, .ref t7, .ref t8, .ref t9, .int si])), (t0, .inr (2, [.ref b0, .int (nI x0.length)])), (b0, .inl (c0, 200, .inl f0)), (t4, .inr (1, [.ref b4, .int (nI (fr ++ [fX2_codeOfOldByte b x1]).length)])), (b4, .inl (c4, 200, .inl u_2)), (t7, .inr (1, [.ref b7, .int (nI wm.length)])), (b7, .inl (c7, 200, .inl f7))] H := hP.sub [0, 1, 2, 5, 6, 3, 4] rfl
                  have hD : va_D A [(h, .inr (3, [.ref t0, .ref t1, .ref t2, .ref t3, .ref t4, .ref t5, .ref t6, .ref t7, .ref t8, .ref t9, .int si])), (t0, .inr (2, [.ref b0, .int (nI x0.length)])), (b0, .inl (c0, 200, .inl f0)), (t4, .inr (1, [.ref b4, .int (nI (fr ++ [fX2_codeOfOldByte b x1]).length)])), (b4, .inl (c4, 200, .inl u_2)), (t7, .inr (1, [.ref b7, .int (nI wm.length)])), (b7, .inl (c7, 200, .inl f7))] := hD.sub [0, 1, 2, 5, 6, 3, 4] (by decide) rfl
                  refine lv_aload_n hx hb dX2_wrongInOldKind_158 rfl (lv_at hl 5 rfl) ?_
                  refine va_get (D := D) (ci := 3) (v := .ref t4) (C := RX2) (T := TX2) (N := 11) hx hb hts (by decide +kernel) hown hK hP 0 rfl rfl 4 (by decide) (hts (.fieldLink RX2 31 "CharacterRows" "fresh" "LCharacterRows$Codes;") (by decide +kernel)) (fun _ h9 => h9) rfl dX2_wrongInOldKind_159 ?_
                  refine lv_aload_n hx hb dX2_wrongInOldKind_162 rfl (lv_at hl 5 rfl) ?_
                  refine va_get (D := D) (ci := 3) (v := .ref t7) (C := RX2) (T := TX2) (N := 11) hx hb hts (by decide +kernel) hown hK hP 0 rfl rfl 7 (by decide) (hts (.fieldLink RX2 40 "CharacterRows" "waitingMarks" "LCharacterRows$Codes;") (by decide +kernel)) (fun _ h9 => h9) rfl dX2_wrongInOldKind_163 ?_
                  refine clV (wr := [(h, .inr (3, [.ref t0, .ref t1, .ref t2, .ref t3, .ref t4, .ref t5, .ref t6, .ref t7, .ref t8, .ref t9, .int si])), (t0, .inr (2, [.ref b0, .int (nI x0.length)])), (b0, .inl (c0, 200, .inl f0))]) (va_runV ⟨hx, hb, hml, hown, hts⟩ (KX0_addAll l D t4 b4 c4 u_2 (fr ++ [fX2_codeOfOldByte b x1]) hw_2 t7 b7 c7 f7 wm o7 (fr ++ fX2_codeOfOldByte b x1 :: wm) (by rw [fold_add _ _ (by simp; omega)]; simp) _) (cwV 1 hts gX2_wrongInOldKind_X0_addAll rfl rfl rfl (by decide +kernel) ⟨Nat.le_of_ble_eq_true rfl, Nat.le_of_ble_eq_true rfl⟩) (pcM_V (hP.sub (ws' := [(t4, .inr (1, [.ref b4, .int (nI (fr ++ [fX2_codeOfOldByte b x1]).length)])), (b4, .inl (c4, 200, .inl u_2)), (t7, .inr (1, [.ref b7, .int (nI wm.length)])), (b7, .inl (c7, 200, .inl f7))]) [3, 4, 5, 6] rfl) (hD.sub (ws' := [(t4, .inr (1, [.ref b4, .int (nI (fr ++ [fX2_codeOfOldByte b x1]).length)])), (b4, .inl (c4, 200, .inl u_2)), (t7, .inr (1, [.ref b7, .int (nI wm.length)])), (b7, .inl (c7, 200, .inl f7))]) [3, 4, 5, 6] (by decide) rfl) (hK.sub (tys' := [(c4, .int), (c7, .int)]) [1, 2] rfl) hN 0 rfl rfl) rfl rfl hl.1 rfl (lv_room (Nat.le_of_ble_eq_true rfl)) dX2_wrongInOldKind_166 ⟨Nat.zero_le _, Nat.zero_le _⟩) hP hD hS hA [3, 4, 5, 6] [0, 1, 2] rfl rfl (by decide) (by decide) (fun u_3 H locs hw_3 hP hD hS => ?_)
                  have hP : va_P D vwCl [(h, .inr (3, [.ref t0, .ref t1, .ref t2, .ref t3, .ref t4, .ref t5, .ref t6, .ref t7, .ref t8, .ref t9, .int si])), (t0, .inr (2, [.ref b0, .int (nI x0.length)])), (b0, .inl (c0, 200, .inl f0)), (t4, .inr (1, [.ref b4, .int (nI (fr ++ fX2_codeOfOldByte b x1 :: wm).length)])), (b4, .inl (c4, 200, .inl u_3)), (t7, .inr (1, [.ref b7, .int (nI wm.length)])), (b7, .inl (c7, 200, .inl f7))] H := hP.sub [0, 1, 2, 3, 4, 5, 6] rfl
                  have hD : va_D A [(h, .inr (3, [.ref t0, .ref t1, .ref t2, .ref t3, .ref t4, .ref t5, .ref t6, .ref t7, .ref t8, .ref t9, .int si])), (t0, .inr (2, [.ref b0, .int (nI x0.length)])), (b0, .inl (c0, 200, .inl f0)), (t4, .inr (1, [.ref b4, .int (nI (fr ++ fX2_codeOfOldByte b x1 :: wm).length)])), (b4, .inl (c4, 200, .inl u_3)), (t7, .inr (1, [.ref b7, .int (nI wm.length)])), (b7, .inl (c7, 200, .inl f7))] := hD.sub [0, 1, 2, 3, 4, 5, 6] (by decide) rfl
                  refine lv_aload_n hx hb dX2_wrongInOldKind_169 rfl (lv_at hl 5 rfl) ?_
                  refine va_get (D := D) (ci := 3) (v := .ref t7) (C := RX2) (T := TX2) (N := 11) hx hb hts (by decide +kernel) hown hK hP 0 rfl rfl 7 (by decide) (hts (.fieldLink RX2 40 "CharacterRows" "waitingMarks" "LCharacterRows$Codes;") (by decide +kernel)) (fun _ h9 => h9) rfl dX2_wrongInOldKind_170 ?_
                  refine clV (wr := [(h, .inr (3, [.ref t0, .ref t1, .ref t2, .ref t3, .ref t4, .ref t5, .ref t6, .ref t7, .ref t8, .ref t9, .int si])), (t0, .inr (2, [.ref b0, .int (nI x0.length)])), (b0, .inl (c0, 200, .inl f0)), (t4, .inr (1, [.ref b4, .int (nI (fr ++ fX2_codeOfOldByte b x1 :: wm).length)])), (b4, .inl (c4, 200, .inl u_3))]) (va_runV ⟨hx, hb, hml, hown, hts⟩ (KX0_empty l D t7 b7 c7 f7 wm o7 _) (cwV 0 hts gX2_wrongInOldKind_X0_empty rfl rfl rfl (by decide +kernel) ⟨Nat.le_of_ble_eq_true rfl, Nat.le_of_ble_eq_true rfl⟩) (pcM_V (hP.sub (ws' := [(t7, .inr (1, [.ref b7, .int (nI wm.length)])), (b7, .inl (c7, 200, .inl f7))]) [5, 6] rfl) (hD.sub (ws' := [(t7, .inr (1, [.ref b7, .int (nI wm.length)])), (b7, .inl (c7, 200, .inl f7))]) [5, 6] (by decide) rfl) (hK.sub (tys' := [(c7, .int)]) [2] rfl) hN 0 rfl rfl) rfl rfl hl.1 rfl (lv_room (Nat.le_of_ble_eq_true rfl)) dX2_wrongInOldKind_173 ⟨Nat.zero_le _, Nat.zero_le _⟩) hP hD hS hA [5, 6] [0, 1, 2, 3, 4] rfl rfl (by decide) (by decide) (fun u_4 H locs hw_4 hP hD hS => ?_)
                  have hP : va_P D vwCl [(h, .inr (3, [.ref t0, .ref t1, .ref t2, .ref t3, .ref t4, .ref t5, .ref t6, .ref t7, .ref t8, .ref t9, .int si])), (t0, .inr (2, [.ref b0, .int (nI x0.length)])), (b0, .inl (c0, 200, .inl f0)), (t4, .inr (1, [.ref b4, .int (nI (fr ++ fX2_codeOfOldByte b x1 :: wm).length)])), (b4, .inl (c4, 200, .inl u_3)), (t7, .inr (1, [.ref b7, .int (nI ([] : List Int32).length)])), (b7, .inl (c7, 200, .inl u_4))] H := hP.sub [0, 1, 2, 3, 4, 5, 6] rfl
                  have hD : va_D A [(h, .inr (3, [.ref t0, .ref t1, .ref t2, .ref t3, .ref t4, .ref t5, .ref t6, .ref t7, .ref t8, .ref t9, .int si])), (t0, .inr (2, [.ref b0, .int (nI x0.length)])), (b0, .inl (c0, 200, .inl f0)), (t4, .inr (1, [.ref b4, .int (nI (fr ++ fX2_codeOfOldByte b x1 :: wm).length)])), (b4, .inl (c4, 200, .inl u_3)), (t7, .inr (1, [.ref b7, .int (nI ([] : List Int32).length)])), (b7, .inl (c7, 200, .inl u_4))] := hD.sub [0, 1, 2, 3, 4, 5, 6] (by decide) rfl
                  refine lv_iinc (v := (x3 + 1)) (lv' := [(3, .int (x3 + 1)), (5, .int (fX2_codeOfOldByte b x1)), (4, .int b), (2, .int x2), (1, .int x1), (0, .ref h)]) hx hb dX2_wrongInOldKind_176 hl (k := 2) rfl rfl (by decide) rfl (fun ls hl => ?_)
                  refine lv_goto (tgt := 13) hx hb dX2_wrongInOldKind_179 (by decide) ?_
                  exact ih t (done ++ [b]) [] _ u_4 u_3 _ _ _ H locs ls (by simp at hn ⊢; omega) (by rw [hcs]; simp) (by rw [← hT]; simp [roS, c38_1, c70_1, c80_1, hle]) (by rw [e3, List.length_append]; exact nI_1 _) hw_3 hw_4 (by simp) (by simp <;> omega) hP hD hS (lv_sub hl [0, 3, 4, 5] rfl)
                · skip
                  rw [q130] at c130_1
                  have hgt : ¬ fr.length + 1 + wm.length ≤ 100 := fun q => c130_1 ((nI_100 (by omega)).mpr q)
                  refine lv_aload_n hx hb dX2_wrongInOldKind_133 rfl (lv_at hl 5 rfl) ?_
                  refine va_get (D := D) (ci := 3) (v := .ref t7) (C := RX2) (T := TX2) (N := 11) hx hb hts (by decide +kernel) hown hK hP 0 rfl rfl 7 (by decide) (hts (.fieldLink RX2 40 "CharacterRows" "waitingMarks" "LCharacterRows$Codes;") (by decide +kernel)) (fun _ h9 => h9) rfl dX2_wrongInOldKind_134 ?_
                  refine va_getN (D := D) (ci := 1) (v := .int (nI wm.length)) (C := RX0) (T := TX0) (N := 2) hx hb hts (by decide +kernel) hown hK hP 5 rfl rfl 1 (by decide) (va_Nw.use rfl (nst_at hN 1 rfl)) (fun _ h9 => h9) rfl dX2_wrongInOldKind_137 ?_
                  refine lv_if_ne (tgt := 147) hx hb dX2_wrongInOldKind_140 (by decide) (fun c140_1 => ?_) (fun c140_1 => ?_)
                  · skip
                    refine lv_iload_n hx hb dX2_wrongInOldKind_147 rfl (lv_at hl 3 rfl) ?_
                    have q9 := nI_0iff (n := wm.length) (by omega)
                    have e8 : (x2, fr) = T := by rw [← hT]; simp [roS, c38_1, c70_1, c80_1, ← q9, c140_1, hgt]
                    have e9 : fr = T.2 := by rw [← e8]
                    rw [e9] at o4 hP hD
                    exact rtI hx hb hr hlocks dX2_wrongInOldKind_148 (f4, f7, wm) ⟨by rw [← e8], o4, o7⟩ hP hD hS
                  · skip
                    refine lv_iload_n hx hb dX2_wrongInOldKind_143 rfl (lv_at hl 2 rfl) ?_
                    refine lv_goto (tgt := 148) hx hb dX2_wrongInOldKind_144 (by decide) ?_
                    have q9 := nI_0iff (n := wm.length) (by omega)
                    have e8 : (x3, fr) = T := by rw [← hT, e3]; simp [roS, c38_1, c70_1, c80_1, ← q9, c140_1, hgt]
                    have e9 : fr = T.2 := by rw [← e8]
                    rw [e9] at o4 hP hD
                    exact rtI hx hb hr hlocks dX2_wrongInOldKind_148 (f4, f7, wm) ⟨by rw [← e8], o4, o7⟩ hP hD hS
              · skip
                refine lv_aload_n hx hb dX2_wrongInOldKind_83 rfl (lv_at hl 5 rfl) ?_
                refine va_get (D := D) (ci := 3) (v := .ref t7) (C := RX2) (T := TX2) (N := 11) hx hb hts (by decide +kernel) hown hK hP 0 rfl rfl 7 (by decide) (hts (.fieldLink RX2 40 "CharacterRows" "waitingMarks" "LCharacterRows$Codes;") (by decide +kernel)) (fun _ h9 => h9) rfl dX2_wrongInOldKind_84 ?_
                refine va_getN (D := D) (ci := 1) (v := .int (nI wm.length)) (C := RX0) (T := TX0) (N := 2) hx hb hts (by decide +kernel) hown hK hP 5 rfl rfl 1 (by decide) (va_Nw.use rfl (nst_at hN 1 rfl)) (fun _ h9 => h9) rfl dX2_wrongInOldKind_87 ?_
                refine lv_if_ne (tgt := 97) hx hb dX2_wrongInOldKind_90 (by decide) (fun c90_1 => ?_) (fun c90_1 => ?_)
                · skip
                  refine lv_iload_n hx hb dX2_wrongInOldKind_97 rfl (lv_at hl 3 rfl) ?_
                  refine lv_istore_n (lv' := [(2, .int x2), (5, .int (fX2_codeOfOldByte b x1)), (4, .int b), (3, .int x3), (1, .int x1), (0, .ref h)]) hx hb dX2_wrongInOldKind_98 rfl hl (by decide) rfl (fun ls hl => ?_)
                  refine lv_aload_n hx hb dX2_wrongInOldKind_99 rfl (lv_at hl 5 rfl) ?_
                  refine va_get (D := D) (ci := 3) (v := .ref t7) (C := RX2) (T := TX2) (N := 11) hx hb hts (by decide +kernel) hown hK hP 0 rfl rfl 7 (by decide) (hts (.fieldLink RX2 40 "CharacterRows" "waitingMarks" "LCharacterRows$Codes;") (by decide +kernel)) (fun _ h9 => h9) rfl dX2_wrongInOldKind_100 ?_
                  refine lv_iload hx hb dX2_wrongInOldKind_103 (lv_at hl 1 rfl) ?_
                  refine clV (wr := [(h, .inr (3, [.ref t0, .ref t1, .ref t2, .ref t3, .ref t4, .ref t5, .ref t6, .ref t7, .ref t8, .ref t9, .int si])), (t0, .inr (2, [.ref b0, .int (nI x0.length)])), (b0, .inl (c0, 200, .inl f0)), (t4, .inr (1, [.ref b4, .int (nI fr.length)])), (b4, .inl (c4, 200, .inl f4))]) (va_runV ⟨hx, hb, hml, hown, hts⟩ (KX0_add l D t7 b7 c7 f7 wm o7 (fX2_codeOfOldByte b x1) _) (cwV 1 hts gX2_wrongInOldKind_X0_add rfl rfl rfl (by decide +kernel) ⟨Nat.le_of_ble_eq_true rfl, Nat.le_of_ble_eq_true rfl⟩) (pcM_V (hP.sub (ws' := [(t7, .inr (1, [.ref b7, .int (nI wm.length)])), (b7, .inl (c7, 200, .inl f7))]) [5, 6] rfl) (hD.sub (ws' := [(t7, .inr (1, [.ref b7, .int (nI wm.length)])), (b7, .inl (c7, 200, .inl f7))]) [5, 6] (by decide) rfl) (hK.sub (tys' := [(c7, .int)]) [2] rfl) hN 0 rfl rfl) rfl rfl hl.1 rfl (lv_room (Nat.le_of_ble_eq_true rfl)) dX2_wrongInOldKind_105 ⟨Nat.zero_le _, Nat.zero_le _⟩) hP hD hS hA [5, 6] [0, 1, 2, 3, 4] rfl rfl (by decide) (by decide) (fun u_5 H locs hw_5 hP hD hS => ?_)
                  have e9_2 : (rw_add 200 wm (fX2_codeOfOldByte b x1)) = (wm ++ [fX2_codeOfOldByte b x1]) := (rw_add_lt (by omega))
                  rw [e9_2] at hw_5 hP hD
                  have hP : va_P D vwCl [(h, .inr (3, [.ref t0, .ref t1, .ref t2, .ref t3, .ref t4, .ref t5, .ref t6, .ref t7, .ref t8, .ref t9, .int si])), (t0, .inr (2, [.ref b0, .int (nI x0.length)])), (b0, .inl (c0, 200, .inl f0)), (t4, .inr (1, [.ref b4, .int (nI fr.length)])), (b4, .inl (c4, 200, .inl f4)), (t7, .inr (1, [.ref b7, .int (nI (wm ++ [fX2_codeOfOldByte b x1]).length)])), (b7, .inl (c7, 200, .inl u_5))] H := hP.sub [0, 1, 2, 3, 4, 5, 6] rfl
                  have hD : va_D A [(h, .inr (3, [.ref t0, .ref t1, .ref t2, .ref t3, .ref t4, .ref t5, .ref t6, .ref t7, .ref t8, .ref t9, .int si])), (t0, .inr (2, [.ref b0, .int (nI x0.length)])), (b0, .inl (c0, 200, .inl f0)), (t4, .inr (1, [.ref b4, .int (nI fr.length)])), (b4, .inl (c4, 200, .inl f4)), (t7, .inr (1, [.ref b7, .int (nI (wm ++ [fX2_codeOfOldByte b x1]).length)])), (b7, .inl (c7, 200, .inl u_5))] := hD.sub [0, 1, 2, 3, 4, 5, 6] (by decide) rfl
                  refine lv_goto (tgt := 176) hx hb dX2_wrongInOldKind_108 (by decide) ?_
                  refine lv_iinc (v := (x3 + 1)) (lv' := [(3, .int (x3 + 1)), (2, .int x2), (5, .int (fX2_codeOfOldByte b x1)), (4, .int b), (1, .int x1), (0, .ref h)]) hx hb dX2_wrongInOldKind_176 hl (k := 3) rfl rfl (by decide) rfl (fun ls hl => ?_)
                  refine lv_goto (tgt := 13) hx hb dX2_wrongInOldKind_179 (by decide) ?_
                  have q90 := nI_0iff (n := wm.length) (by omega)
                  exact ih t (done ++ [b]) _ fr u_5 f4 _ _ _ H locs ls (by simp at hn ⊢; omega) (by rw [hcs]; simp) (by rw [← hT]; simp [roS, c38_1, c70_1, c80_1, ← q90, c90_1, e3]) (by rw [e3, List.length_append]; exact nI_1 _) o4 hw_5 (by simp <;> omega) hfr hP hD hS (lv_sub hl [0, 1, 4, 5] rfl)
                · skip
                  refine lv_iload_n hx hb dX2_wrongInOldKind_93 rfl (lv_at hl 2 rfl) ?_
                  refine lv_goto (tgt := 98) hx hb dX2_wrongInOldKind_94 (by decide) ?_
                  refine lv_istore_n (lv' := [(2, .int x3), (5, .int (fX2_codeOfOldByte b x1)), (4, .int b), (3, .int x3), (1, .int x1), (0, .ref h)]) hx hb dX2_wrongInOldKind_98 rfl hl (by decide) rfl (fun ls hl => ?_)
                  refine lv_aload_n hx hb dX2_wrongInOldKind_99 rfl (lv_at hl 5 rfl) ?_
                  refine va_get (D := D) (ci := 3) (v := .ref t7) (C := RX2) (T := TX2) (N := 11) hx hb hts (by decide +kernel) hown hK hP 0 rfl rfl 7 (by decide) (hts (.fieldLink RX2 40 "CharacterRows" "waitingMarks" "LCharacterRows$Codes;") (by decide +kernel)) (fun _ h9 => h9) rfl dX2_wrongInOldKind_100 ?_
                  refine lv_iload hx hb dX2_wrongInOldKind_103 (lv_at hl 1 rfl) ?_
                  refine clV (wr := [(h, .inr (3, [.ref t0, .ref t1, .ref t2, .ref t3, .ref t4, .ref t5, .ref t6, .ref t7, .ref t8, .ref t9, .int si])), (t0, .inr (2, [.ref b0, .int (nI x0.length)])), (b0, .inl (c0, 200, .inl f0)), (t4, .inr (1, [.ref b4, .int (nI fr.length)])), (b4, .inl (c4, 200, .inl f4))]) (va_runV ⟨hx, hb, hml, hown, hts⟩ (KX0_add l D t7 b7 c7 f7 wm o7 (fX2_codeOfOldByte b x1) _) (cwV 1 hts gX2_wrongInOldKind_X0_add rfl rfl rfl (by decide +kernel) ⟨Nat.le_of_ble_eq_true rfl, Nat.le_of_ble_eq_true rfl⟩) (pcM_V (hP.sub (ws' := [(t7, .inr (1, [.ref b7, .int (nI wm.length)])), (b7, .inl (c7, 200, .inl f7))]) [5, 6] rfl) (hD.sub (ws' := [(t7, .inr (1, [.ref b7, .int (nI wm.length)])), (b7, .inl (c7, 200, .inl f7))]) [5, 6] (by decide) rfl) (hK.sub (tys' := [(c7, .int)]) [2] rfl) hN 0 rfl rfl) rfl rfl hl.1 rfl (lv_room (Nat.le_of_ble_eq_true rfl)) dX2_wrongInOldKind_105 ⟨Nat.zero_le _, Nat.zero_le _⟩) hP hD hS hA [5, 6] [0, 1, 2, 3, 4] rfl rfl (by decide) (by decide) (fun u_6 H locs hw_6 hP hD hS => ?_)
                  have e9_3 : (rw_add 200 wm (fX2_codeOfOldByte b x1)) = (wm ++ [fX2_codeOfOldByte b x1]) := (rw_add_lt (by omega))
                  rw [e9_3] at hw_6 hP hD
                  have hP : va_P D vwCl [(h, .inr (3, [.ref t0, .ref t1, .ref t2, .ref t3, .ref t4, .ref t5, .ref t6, .ref t7, .ref t8, .ref t9, .int si])), (t0, .inr (2, [.ref b0, .int (nI x0.length)])), (b0, .inl (c0, 200, .inl f0)), (t4, .inr (1, [.ref b4, .int (nI fr.length)])), (b4, .inl (c4, 200, .inl f4)), (t7, .inr (1, [.ref b7, .int (nI (wm ++ [fX2_codeOfOldByte b x1]).length)])), (b7, .inl (c7, 200, .inl u_6))] H := hP.sub [0, 1, 2, 3, 4, 5, 6] rfl
                  have hD : va_D A [(h, .inr (3, [.ref t0, .ref t1, .ref t2, .ref t3, .ref t4, .ref t5, .ref t6, .ref t7, .ref t8, .ref t9, .int si])), (t0, .inr (2, [.ref b0, .int (nI x0.length)])), (b0, .inl (c0, 200, .inl f0)), (t4, .inr (1, [.ref b4, .int (nI fr.length)])), (b4, .inl (c4, 200, .inl f4)), (t7, .inr (1, [.ref b7, .int (nI (wm ++ [fX2_codeOfOldByte b x1]).length)])), (b7, .inl (c7, 200, .inl u_6))] := hD.sub [0, 1, 2, 3, 4, 5, 6] (by decide) rfl
                  refine lv_goto (tgt := 176) hx hb dX2_wrongInOldKind_108 (by decide) ?_
                  refine lv_iinc (v := (x3 + 1)) (lv' := [(3, .int (x3 + 1)), (2, .int x3), (5, .int (fX2_codeOfOldByte b x1)), (4, .int b), (1, .int x1), (0, .ref h)]) hx hb dX2_wrongInOldKind_176 hl (k := 3) rfl rfl (by decide) rfl (fun ls hl => ?_)
                  refine lv_goto (tgt := 13) hx hb dX2_wrongInOldKind_179 (by decide) ?_
                  have q90 := nI_0iff (n := wm.length) (by omega)
                  exact ih t (done ++ [b]) _ fr u_6 f4 _ _ _ H locs ls (by simp at hn ⊢; omega) (by rw [hcs]; simp) (by rw [← hT]; simp [roS, c38_1, c70_1, c80_1, ← q90, c90_1, e3]) (by rw [e3, List.length_append]; exact nI_1 _) o4 hw_6 (by simp <;> omega) hfr hP hD hS (lv_sub hl [0, 1, 4, 5] rfl)
            · skip
              refine lv_iload_n hx hb dX2_wrongInOldKind_73 rfl (lv_at hl 2 rfl) ?_
              have e8 : (x3, fr) = T := by rw [← hT, e3]; simp [roS, c38_1, c70_1]
              have e9 : fr = T.2 := by rw [← e8]
              rw [e9] at o4 hP hD
              exact rtI hx hb hr hlocks dX2_wrongInOldKind_74 (f4, f7, wm) ⟨by rw [← e8], o4, o7⟩ hP hD hS
          · skip
            refine lv_aload_n hx hb dX2_wrongInOldKind_41 rfl (lv_at hl 4 rfl) ?_
            refine lv_iload_n hx hb dX2_wrongInOldKind_42 rfl (lv_at hl 1 rfl) ?_
            refine vp_callSi (W.runV ⟨hx, hb, hml, hown, hts⟩ (KX2_setOfEscape l D h t0 t1 t2 t3 t4 t5 t6 t7 t8 t9 si b0 c0 f0 x0 o0 x3 (gd t 0) (gd t 1) (by rw [ox_at, hcs, e3, nI_1]; exact rw_at_d (l := done) (r := b :: t) (j := 1) rfl (by omega)) (by rw [ox_at, hcs, e3]; exact (congrArg _ (nI_add done.length 2)).trans (rw_at_d (l := done) (r := b :: t) (j := 2) rfl (by omega)))) (cwV 1 hts gX2_wrongInOldKind_X2_setOfEscape rfl rfl rfl (by decide +kernel) ⟨Nat.le_of_ble_eq_true rfl, Nat.le_of_ble_eq_true rfl⟩) (pcR_V (hP.sub (ws' := [(h, .inr (3, [.ref t0, .ref t1, .ref t2, .ref t3, .ref t4, .ref t5, .ref t6, .ref t7, .ref t8, .ref t9, .int si])), (t0, .inr (2, [.ref b0, .int (nI x0.length)])), (b0, .inl (c0, 200, .inl f0))]) [0, 1, 2] rfl) (hK.sub (tys' := [(c0, .byte)]) [0] rfl) hN 0 rfl rfl) rfl rfl hl.1 rfl (lv_room (Nat.le_of_ble_eq_true rfl)) dX2_wrongInOldKind_43 ⟨Nat.zero_le _, Nat.zero_le _⟩) (fun r9 hr9 => ?_)
            subst r9
            refine lv_istore_n (lv' := [(1, .int (fX2_setOfEscape (gd t 0) (gd t 1))), (4, .int b), (3, .int x3), (2, .int x2), (0, .ref h)]) hx hb dX2_wrongInOldKind_46 rfl hl (by decide) rfl (fun ls hl => ?_)
            skip
            refine lv_iload_n hx hb dX2_wrongInOldKind_47 rfl (lv_at hl 0 rfl) ?_
            refine lv_iconst (v := (-1)) hx hb dX2_wrongInOldKind_48 (by decide) ?_
            refine lv_icmp_ne (tgt := 54) hx hb dX2_wrongInOldKind_49 (by decide) (fun c49_1 => ?_) (fun c49_1 => ?_)
            · skip
              refine lv_iinc (v := (x3 + 2)) (lv' := [(3, .int (x3 + 2)), (1, .int (fX2_setOfEscape (gd t 0) (gd t 1))), (4, .int b), (2, .int x2), (0, .ref h)]) hx hb dX2_wrongInOldKind_54 hl (k := 2) rfl rfl (by decide) rfl (fun ls hl => ?_)
              refine lv_goto (tgt := 176) hx hb dX2_wrongInOldKind_57 (by decide) ?_
              refine lv_iinc (v := ((x3 + 2) + 1)) (lv' := [(3, .int ((x3 + 2) + 1)), (1, .int (fX2_setOfEscape (gd t 0) (gd t 1))), (4, .int b), (2, .int x2), (0, .ref h)]) hx hb dX2_wrongInOldKind_176 hl (k := 0) rfl rfl (by decide) rfl (fun ls hl => ?_)
              refine lv_goto (tgt := 13) hx hb dX2_wrongInOldKind_179 (by decide) ?_
              have h2 := esc_len c49_1
              exact ih (t.drop 2) (done ++ b :: t.take 2) wm fr f7 f4 _ _ _ H locs ls (by simp at hn ⊢; omega) (by rw [hcs]; simp) (by rw [← hT]; simp [roS, c38_1, c49_1]; congr 1; (try rw [Nat.min_eq_left h2]); (try omega)) (by rw [e3]; exact (congrArg (· + 1) (nI_add done.length 2)).trans ((nI_1 _).trans (by congr 1; simp; omega))) o4 o7 (by simp <;> omega) hfr hP hD hS (lv_sub hl [0, 3, 1, 4] rfl)
            · skip
              refine lv_iload_n hx hb dX2_wrongInOldKind_52 rfl (lv_at hl 2 rfl) ?_
              have e8 : (x3, fr) = T := by rw [← hT, e3]; simp [roS, c38_1, c49_1]
              have e9 : fr = T.2 := by rw [← e8]
              rw [e9] at o4 hP hD
              exact rtI hx hb hr hlocks dX2_wrongInOldKind_53 (f4, f7, wm) ⟨by rw [← e8], o4, o7⟩ hP hD hS
  exact loop ((ox_u x0).length + 1) (ox_u x0) [] [] [] u_1 f4 _ _ _ H locs ls (Nat.lt_succ_self _) rfl hT rfl o4 hw_1 (Nat.le_refl _) (Nat.zero_le _) hP hD hS (lv_sub hl [0, 1, 2, 3] rfl)
end
section
/-! the class: the reader of the new kind, the writers -/
set_option maxHeartbeats 4000000 in
set_option maxRecDepth 100000 in
theorem KX2_wrongInNewKind (l : Launch) (D : va_G) (h t0 t1 t2 t3 t4 t5 t6 t7 t8 t9 : Nat) (si : Int32) (b0 : Nat) (c0 : ClassId) (f0 : Nat → Int32) (x0 : List Int32) (o0 : rw_ok f0 200 x0) (b4 : Nat) (c4 : ClassId) (f4 : Nat → Int32) (o4 : rw_ok f4 200 ([] : List Int32)) (T : Int32 × List Int32) (hT : rnS ((ox_u x0).length + 1) (ox_u x0) 0 [] = T) (sz : Nat) : Met l yX2_wrongInNewKind wsX2_wrongInNewKind ({ frames := 3, cells := 0, slots := 0, locals := 60 }) (pcM D sz [(h, .inr (3, [.ref t0, .ref t1, .ref t2, .ref t3, .ref t4, .ref t5, .ref t6, .ref t7, .ref t8, .ref t9, .int si])), (t0, .inr (2, [.ref b0, .int (nI x0.length)])), (b0, .inl (c0, 200, .inl f0)), (t4, .inr (1, [.ref b4, .int (nI ([] : List Int32).length)])), (b4, .inl (c4, 200, .inl f4))] [(c0, .byte), (c4, .int)] [.ref h]) (qcI (S := Nat → Int32) D (fun r u => r = T.1 ∧ rw_ok u 200 T.2) (fun u => [(h, .inr (3, [.ref t0, .ref t1, .ref t2, .ref t3, .ref t4, .ref t5, .ref t6, .ref t7, .ref t8, .ref t9, .int si])), (t0, .inr (2, [.ref b0, .int (nI x0.length)])), (b0, .inl (c0, 200, .inl f0)), (t4, .inr (1, [.ref b4, .int (nI T.2.length)])), (b4, .inl (c4, 200, .inl u))]) (va_A [(h, .inr (3, [.ref t0, .ref t1, .ref t2, .ref t3, .ref t4, .ref t5, .ref t6, .ref t7, .ref t8, .ref t9, .int si])), (t0, .inr (2, [.ref b0, .int (nI x0.length)])), (b0, .inl (c0, 200, .inl f0)), (t4, .inr (1, [.ref b4, .int (nI ([] : List Int32).length)])), (b4, .inl (c4, 200, .inl f4))] sz)) 0 0 (va_A [(h, .inr (3, [.ref t0, .ref t1, .ref t2, .ref t3, .ref t4, .ref t5, .ref t6, .ref t7, .ref t8, .ref t9, .int si])), (t0, .inr (2, [.ref b0, .int (nI x0.length)])), (b0, .inl (c0, 200, .inl f0)), (t4, .inr (1, [.ref b4, .int (nI ([] : List Int32).length)])), (b4, .inl (c4, 200, .inl f4))] sz) := by
  refine ofM (Qc := fun A => qcI (S := Nat → Int32) D (fun r u => r = T.1 ∧ rw_ok u 200 T.2) (fun u => [(h, .inr (3, [.ref t0, .ref t1, .ref t2, .ref t3, .ref t4, .ref t5, .ref t6, .ref t7, .ref t8, .ref t9, .int si])), (t0, .inr (2, [.ref b0, .int (nI x0.length)])), (b0, .inl (c0, 200, .inl f0)), (t4, .inr (1, [.ref b4, .int (nI T.2.length)])), (b4, .inl (c4, 200, .inl u))]) A) (cc := cX2_wrongInNewKind) (maxL := 5) (ret := (some .int)) (by decide) rfl (Nat.le_of_ble_eq_true rfl) ?_
  intro p e s m below meth c ls A hx hb hr hml hown hts hlocks hnm hP hK hN hD hA hS hl
  have hl : lv_has ls 5 [(0, .ref h)] := hl
  refine lv_iconst (v := 0) hx hb dX2_wrongInNewKind_0 (by decide) ?_
  refine lv_istore_n (lv' := [(1, .int 0), (0, .ref h)]) hx hb dX2_wrongInNewKind_1 rfl hl (by decide) rfl (fun ls hl => ?_)
  have loop : ∀ (n : Nat) (rest done fr : List Int32) (f4 : Nat → Int32) (y1 : Int32) (H : Heap) (locs : List Loc) (ls : Array Slot), rest.length < n → ox_u x0 = done ++ rest → rnS n rest done.length fr = T → y1 = nI done.length → rw_ok f4 200 fr → fr.length ≤ 100 → va_P D vwCl [(h, .inr (3, [.ref t0, .ref t1, .ref t2, .ref t3, .ref t4, .ref t5, .ref t6, .ref t7, .ref t8, .ref t9, .int si])), (t0, .inr (2, [.ref b0, .int (nI x0.length)])), (b0, .inl (c0, 200, .inl f0)), (t4, .inr (1, [.ref b4, .int (nI fr.length)])), (b4, .inl (c4, 200, .inl f4))] H → va_D A [(h, .inr (3, [.ref t0, .ref t1, .ref t2, .ref t3, .ref t4, .ref t5, .ref t6, .ref t7, .ref t8, .ref t9, .int si])), (t0, .inr (2, [.ref b0, .int (nI x0.length)])), (b0, .inl (c0, 200, .inl f0)), (t4, .inr (1, [.ref b4, .int (nI fr.length)])), (b4, .inl (c4, 200, .inl f4))] → va_S A s.heap H locs → lv_has ls 5 [(1, .int y1), (0, .ref h)] → W p l e ({ frames := 3, cells := 0, slots := 0, locals := 60 }) s m ([.ref h] : List Value).toArray below meth c H locs 0 0 (MQ below (qcI (S := Nat → Int32) D (fun r u => r = T.1 ∧ rw_ok u 200 T.2) (fun u => [(h, .inr (3, [.ref t0, .ref t1, .ref t2, .ref t3, .ref t4, .ref t5, .ref t6, .ref t7, .ref t8, .ref t9, .int si])), (t0, .inr (2, [.ref b0, .int (nI x0.length)])), (b0, .inl (c0, 200, .inl f0)), (t4, .inr (1, [.ref b4, .int (nI T.2.length)])), (b4, .inl (c4, 200, .inl u))]) A) ([.ref h] : List Value).toArray s 0 0 A) (F0 m 2 ls [])  := by
    intro n
    induction n with
    | zero =>
      intro rest done fr f4 y1 H locs ls hn hcs hT e1 o4 hfr hP hD hS hl
      exact absurd hn (Nat.not_lt_zero _)
    | succ n ih =>
      intro rest done fr f4 y1 H locs ls hn hcs hT e1 o4 hfr hP hD hS hl
      have hlx : x0.length = done.length + rest.length := by rw [← ox_len, hcs]; simp
      have h200 := o0.1
      rcases rest with _ | ⟨b, t⟩
      · skip
        simp at hlx
        refine lv_iload_n hx hb dX2_wrongInNewKind_2 rfl (lv_at hl 0 rfl) ?_
        refine lv_aload_n hx hb dX2_wrongInNewKind_3 rfl (lv_at hl 1 rfl) ?_
        refine va_get (D := D) (ci := 3) (v := .ref t0) (C := RX2) (T := TX2) (N := 11) hx hb hts (by decide +kernel) hown hK hP 0 rfl rfl 0 (by decide) (hts (.fieldLink RX2 14 "CharacterRows" "collected" "LCharacterRows$Octets;") (by decide +kernel)) (fun _ h9 => h9) rfl dX2_wrongInNewKind_4 ?_
        refine va_getN (D := D) (ci := 2) (v := .int (nI x0.length)) (C := RX1) (T := TX1) (N := 2) hx hb hts (by decide +kernel) hown hK hP 1 rfl rfl 1 (by decide) (va_Nw.use rfl (nst_at hN 0 rfl)) (fun _ h9 => h9) rfl dX2_wrongInNewKind_7 ?_
        refine lv_icmp_ge (tgt := 115) hx hb dX2_wrongInNewKind_10 (by decide) (fun c10_1 => ?_) (fun c10_1 => ?_)
        · skip
          refine lv_iconst (v := (-1)) hx hb dX2_wrongInNewKind_115 (by decide) ?_
          have e8 : ((-1 : Int32), fr) = T := by rw [← hT]; rfl
          have e9 : fr = T.2 := by rw [← e8]
          rw [e9] at o4 hP hD
          exact rtI hx hb hr hlocks dX2_wrongInNewKind_116 f4 ⟨by rw [← e8], o4⟩ hP hD hS
        · skip
          exact absurd (by rw [e1, hlx]; simp) c10_1
      · skip
        simp at hlx
        have hle0 : done.length + t.length + 1 ≤ 200 := by omega
        refine lv_iload_n hx hb dX2_wrongInNewKind_2 rfl (lv_at hl 0 rfl) ?_
        refine lv_aload_n hx hb dX2_wrongInNewKind_3 rfl (lv_at hl 1 rfl) ?_
        refine va_get (D := D) (ci := 3) (v := .ref t0) (C := RX2) (T := TX2) (N := 11) hx hb hts (by decide +kernel) hown hK hP 0 rfl rfl 0 (by decide) (hts (.fieldLink RX2 14 "CharacterRows" "collected" "LCharacterRows$Octets;") (by decide +kernel)) (fun _ h9 => h9) rfl dX2_wrongInNewKind_4 ?_
        refine va_getN (D := D) (ci := 2) (v := .int (nI x0.length)) (C := RX1) (T := TX1) (N := 2) hx hb hts (by decide +kernel) hown hK hP 1 rfl rfl 1 (by decide) (va_Nw.use rfl (nst_at hN 0 rfl)) (fun _ h9 => h9) rfl dX2_wrongInNewKind_7 ?_
        refine lv_icmp_ge (tgt := 115) hx hb dX2_wrongInNewKind_10 (by decide) (fun c10_2 => ?_) (fun c10_2 => ?_)
        · skip
          exact absurd c10_2 (by rw [e1, hlx]; exact nI_ge (by simp) (by simp at hlx ⊢; omega))
        · skip
          refine lv_aload_n hx hb dX2_wrongInNewKind_13 rfl (lv_at hl 1 rfl) ?_
          refine lv_iload_n hx hb dX2_wrongInNewKind_14 rfl (lv_at hl 0 rfl) ?_
          refine vp_callSi (W.runV ⟨hx, hb, hml, hown, hts⟩ (KX2_codeOfNewBytes l D h t0 t1 t2 t3 t4 t5 t6 t7 t8 t9 si b0 c0 f0 x0 o0 y1 b (gd t 0) (gd t 1) (by rw [ox_at, hcs, e1]; exact rw_at_k rfl (by omega)) (by rw [ox_at, hcs, e1, nI_1]; exact rw_at_d (l := done) (r := b :: t) (j := 1) rfl (by omega)) (by rw [ox_at, hcs, e1]; exact (congrArg _ (nI_add done.length 2)).trans (rw_at_d (l := done) (r := b :: t) (j := 2) rfl (by omega)))) (cwV 1 hts gX2_wrongInNewKind_X2_codeOfNewBytes rfl rfl rfl (by decide +kernel) ⟨Nat.le_of_ble_eq_true rfl, Nat.le_of_ble_eq_true rfl⟩) (pcR_V (hP.sub (ws' := [(h, .inr (3, [.ref t0, .ref t1, .ref t2, .ref t3, .ref t4, .ref t5, .ref t6, .ref t7, .ref t8, .ref t9, .int si])), (t0, .inr (2, [.ref b0, .int (nI x0.length)])), (b0, .inl (c0, 200, .inl f0))]) [0, 1, 2] rfl) (hK.sub (tys' := [(c0, .byte)]) [0] rfl) hN 0 rfl rfl) rfl rfl hl.1 rfl (lv_room (Nat.le_of_ble_eq_true rfl)) dX2_wrongInNewKind_15 ⟨Nat.zero_le _, Nat.zero_le _⟩) (fun r9 hr9 => ?_)
          replace hr9 : r9 = (cnl b t) := hr9.trans rfl
          subst r9
          refine lv_istore_n (lv' := [(2, .int (cnl b t)), (1, .int y1), (0, .ref h)]) hx hb dX2_wrongInNewKind_18 rfl hl (by decide) rfl (fun ls hl => ?_)
          refine lv_iload_n hx hb dX2_wrongInNewKind_19 rfl (lv_at hl 0 rfl) ?_
          refine vp_callSi (W.runS ⟨hx, hb, hml, hown, hts⟩ (KX2_isPlain l (cnl b t)) (va_cwS 1 hts gX2_wrongInNewKind_X2_isPlain rfl rfl rfl (by decide +kernel) ⟨Nat.le_of_ble_eq_true rfl, Nat.le_of_ble_eq_true rfl⟩) pcS_S rfl rfl hl.1 rfl (lv_room (Nat.le_of_ble_eq_true rfl)) dX2_wrongInNewKind_20 ⟨Nat.zero_le _, Nat.zero_le _⟩) (fun r9 hr9 => ?_)
          subst r9
          refine lv_if_ne (tgt := 41) hx hb dX2_wrongInNewKind_23 (by decide) (fun c23_1 => ?_) (fun c23_1 => ?_)
          · skip
            refine lv_iconst (v := 1) hx hb dX2_wrongInNewKind_41 (by decide) ?_
            refine lv_goto (tgt := 46) hx hb dX2_wrongInNewKind_42 (by decide) ?_
            refine lv_istore_n (lv' := [(3, .int 1), (2, .int (cnl b t)), (1, .int y1), (0, .ref h)]) hx hb dX2_wrongInNewKind_46 rfl hl (by decide) rfl (fun ls hl => ?_)
            refine lv_iload_n hx hb dX2_wrongInNewKind_47 rfl (lv_at hl 1 rfl) ?_
            refine vp_callSi (W.runS ⟨hx, hb, hml, hown, hts⟩ (KX2_isMark l (cnl b t)) (va_cwS 1 hts gX2_wrongInNewKind_X2_isMark rfl rfl rfl (by decide +kernel) ⟨Nat.le_of_ble_eq_true rfl, Nat.le_of_ble_eq_true rfl⟩) pcS_S rfl rfl hl.1 rfl (lv_room (Nat.le_of_ble_eq_true rfl)) dX2_wrongInNewKind_48 ⟨Nat.zero_le _, Nat.zero_le _⟩) (fun r9 hr9 => ?_)
            subst r9
            refine lv_if_eq (tgt := 68) hx hb dX2_wrongInNewKind_51 (by decide) (fun c51_1 => ?_) (fun c51_1 => ?_)
            · skip
              refine lv_iconst (v := 0) hx hb dX2_wrongInNewKind_68 (by decide) ?_
              refine lv_istore (lv' := [(4, .int 0), (3, .int 1), (2, .int (cnl b t)), (1, .int y1), (0, .ref h)]) hx hb dX2_wrongInNewKind_69 hl (by decide) rfl (fun ls hl => ?_)
              refine lv_iload_n hx hb dX2_wrongInNewKind_71 rfl (lv_at hl 1 rfl) ?_
              refine lv_if_eq (tgt := 92) hx hb dX2_wrongInNewKind_72 (by decide) (fun c72_1 => ?_) (fun c72_1 => ?_)
              · exact absurd c72_1 (by decide)
              · skip
                refine lv_iload hx hb dX2_wrongInNewKind_75 (lv_at hl 0 rfl) ?_
                refine lv_if_ne (tgt := 92) hx hb dX2_wrongInNewKind_77 (by decide) (fun c77_1 => ?_) (fun c77_1 => ?_)
                · exact absurd c77_1 (by decide)
                · skip
                  refine lv_aload_n hx hb dX2_wrongInNewKind_80 rfl (lv_at hl 4 rfl) ?_
                  refine va_get (D := D) (ci := 3) (v := .ref t4) (C := RX2) (T := TX2) (N := 11) hx hb hts (by decide +kernel) hown hK hP 0 rfl rfl 4 (by decide) (hts (.fieldLink RX2 31 "CharacterRows" "fresh" "LCharacterRows$Codes;") (by decide +kernel)) (fun _ h9 => h9) rfl dX2_wrongInNewKind_81 ?_
                  refine va_getN (D := D) (ci := 1) (v := .int (nI fr.length)) (C := RX0) (T := TX0) (N := 2) hx hb hts (by decide +kernel) hown hK hP 3 rfl rfl 1 (by decide) (va_Nw.use rfl (nst_at hN 1 rfl)) (fun _ h9 => h9) rfl dX2_wrongInNewKind_84 ?_
                  refine lv_bipush (v := 100) hx hb dX2_wrongInNewKind_87 (by decide) ?_
                  refine lv_icmp_lt (tgt := 94) hx hb dX2_wrongInNewKind_89 (by decide) (fun c89_1 => ?_) (fun c89_1 => ?_)
                  · skip
                    have d89 : fr.length < 100 := (nI_lt100 (by omega)).mp c89_1
                    refine lv_aload_n hx hb dX2_wrongInNewKind_94 rfl (lv_at hl 4 rfl) ?_
                    refine va_get (D := D) (ci := 3) (v := .ref t4) (C := RX2) (T := TX2) (N := 11) hx hb hts (by decide +kernel) hown hK hP 0 rfl rfl 4 (by decide) (hts (.fieldLink RX2 31 "CharacterRows" "fresh" "LCharacterRows$Codes;") (by decide +kernel)) (fun _ h9 => h9) rfl dX2_wrongInNewKind_95 ?_
                    refine lv_iload_n hx hb dX2_wrongInNewKind_98 rfl (lv_at hl 2 rfl) ?_
                    refine clV (wr := [(h, .inr (3, [.ref t0, .ref t1, .ref t2, .ref t3, .ref t4, .ref t5, .ref t6, .ref t7, .ref t8, .ref t9, .int si])), (t0, .inr (2, [.ref b0, .int (nI x0.length)])), (b0, .inl (c0, 200, .inl f0))]) (va_runV ⟨hx, hb, hml, hown, hts⟩ (KX0_add l D t4 b4 c4 f4 fr o4 (cnl b t) _) (cwV 1 hts gX2_wrongInNewKind_X0_add rfl rfl rfl (by decide +kernel) ⟨Nat.le_of_ble_eq_true rfl, Nat.le_of_ble_eq_true rfl⟩) (pcM_V (hP.sub (ws' := [(t4, .inr (1, [.ref b4, .int (nI fr.length)])), (b4, .inl (c4, 200, .inl f4))]) [3, 4] rfl) (hD.sub (ws' := [(t4, .inr (1, [.ref b4, .int (nI fr.length)])), (b4, .inl (c4, 200, .inl f4))]) [3, 4] (by decide) rfl) (hK.sub (tys' := [(c4, .int)]) [1] rfl) hN 0 rfl rfl) rfl rfl hl.1 rfl (lv_room (Nat.le_of_ble_eq_true rfl)) dX2_wrongInNewKind_99 ⟨Nat.zero_le _, Nat.zero_le _⟩) hP hD hS hA [3, 4] [0, 1, 2] rfl rfl (by decide) (by decide) (fun u_1 H locs hw_1 hP hD hS => ?_)
                    have e9_1 : (rw_add 200 fr (cnl b t)) = (fr ++ [cnl b t]) := (rw_add_lt (by omega))
                    rw [e9_1] at hw_1 hP hD
                    have hP : va_P D vwCl [(h, .inr (3, [.ref t0, .ref t1, .ref t2, .ref t3, .ref t4, .ref t5, .ref t6, .ref t7, .ref t8, .ref t9, .int si])), (t0, .inr (2, [.ref b0, .int (nI x0.length)])), (b0, .inl (c0, 200, .inl f0)), (t4, .inr (1, [.ref b4, .int (nI (fr ++ [cnl b t]).length)])), (b4, .inl (c4, 200, .inl u_1))] H := hP.sub [0, 1, 2, 3, 4] rfl
                    have hD : va_D A [(h, .inr (3, [.ref t0, .ref t1, .ref t2, .ref t3, .ref t4, .ref t5, .ref t6, .ref t7, .ref t8, .ref t9, .int si])), (t0, .inr (2, [.ref b0, .int (nI x0.length)])), (b0, .inl (c0, 200, .inl f0)), (t4, .inr (1, [.ref b4, .int (nI (fr ++ [cnl b t]).length)])), (b4, .inl (c4, 200, .inl u_1))] := hD.sub [0, 1, 2, 3, 4] (by decide) rfl
                    refine lv_iload_n hx hb dX2_wrongInNewKind_102 rfl (lv_at hl 3 rfl) ?_
                    refine lv_iload_n hx hb dX2_wrongInNewKind_103 rfl (lv_at hl 2 rfl) ?_
                    refine vp_callSi (W.runS ⟨hx, hb, hml, hown, hts⟩ (KX2_bytesBehindFirst l (cnl b t)) (va_cwS 1 hts gX2_wrongInNewKind_X2_bytesBehindFirst rfl rfl rfl (by decide +kernel) ⟨Nat.le_of_ble_eq_true rfl, Nat.le_of_ble_eq_true rfl⟩) pcS_S rfl rfl hl.1 rfl (lv_room (Nat.le_of_ble_eq_true rfl)) dX2_wrongInNewKind_104 ⟨Nat.zero_le _, Nat.zero_le _⟩) (fun r9 hr9 => ?_)
                    subst r9
                    refine lv_iadd hx hb dX2_wrongInNewKind_107 ?_
                    refine lv_istore_n (lv' := [(1, .int (y1 + (fX2_bytesBehindFirst (cnl b t)))), (4, .int 0), (3, .int 1), (2, .int (cnl b t)), (0, .ref h)]) hx hb dX2_wrongInNewKind_108 rfl hl (by decide) rfl (fun ls hl => ?_)
                    refine lv_iinc (v := ((y1 + (fX2_bytesBehindFirst (cnl b t))) + 1)) (lv' := [(1, .int ((y1 + (fX2_bytesBehindFirst (cnl b t))) + 1)), (4, .int 0), (3, .int 1), (2, .int (cnl b t)), (0, .ref h)]) hx hb dX2_wrongInNewKind_109 hl (k := 0) rfl rfl (by decide) rfl (fun ls hl => ?_)
                    refine lv_goto (tgt := 2) hx hb dX2_wrongInNewKind_112 (by decide) ?_
                    have hk : nwk (cnl b t) fr.length = true := by simp [nwk, c23_1, c51_1, d89]
                    have h2 := new_len hk
                    exact ih (t.drop (bbN (cnl b t))) (done ++ b :: t.take (bbN (cnl b t))) _ u_1 _ H locs ls (by simp at hn ⊢; omega) (by rw [hcs]; simp) (by rw [← hT]; simp [rnS, hk]; congr 1; (try rw [Nat.min_eq_left h2]); (try omega)) (by rw [e1, bbN_eq, nI_add, nI_1]; congr 1; simp; omega) hw_1 (by simp; omega) hP hD hS (lv_sub hl [0, 4] rfl)
                  · skip
                    have d89 : ¬ fr.length < 100 := fun q => c89_1 ((nI_lt100 (by omega)).mpr q)
                    refine lv_iload_n hx hb dX2_wrongInNewKind_92 rfl (lv_at hl 3 rfl) ?_
                    have hk : ¬ nwk (cnl b t) fr.length = true := by simp [nwk, c23_1, c51_1, d89]
                    have e8 : (y1, fr) = T := by rw [← hT, e1]; simp [rnS, hk]
                    have e9 : fr = T.2 := by rw [← e8]
                    rw [e9] at o4 hP hD
                    exact rtI hx hb hr hlocks dX2_wrongInNewKind_93 f4 ⟨by rw [← e8], o4⟩ hP hD hS
            · skip
              refine lv_aload_n hx hb dX2_wrongInNewKind_54 rfl (lv_at hl 3 rfl) ?_
              refine va_get (D := D) (ci := 3) (v := .ref t4) (C := RX2) (T := TX2) (N := 11) hx hb hts (by decide +kernel) hown hK hP 0 rfl rfl 4 (by decide) (hts (.fieldLink RX2 31 "CharacterRows" "fresh" "LCharacterRows$Codes;") (by decide +kernel)) (fun _ h9 => h9) rfl dX2_wrongInNewKind_55 ?_
              refine va_getN (D := D) (ci := 1) (v := .int (nI fr.length)) (C := RX0) (T := TX0) (N := 2) hx hb hts (by decide +kernel) hown hK hP 3 rfl rfl 1 (by decide) (va_Nw.use rfl (nst_at hN 1 rfl)) (fun _ h9 => h9) rfl dX2_wrongInNewKind_58 ?_
              refine lv_if_ne (tgt := 68) hx hb dX2_wrongInNewKind_61 (by decide) (fun c61_1 => ?_) (fun c61_1 => ?_)
              · skip
                have d61 : ¬ fr.length = 0 := fun q => c61_1 ((nI_0iff (by omega)).mpr q)
                refine lv_iconst (v := 0) hx hb dX2_wrongInNewKind_68 (by decide) ?_
                refine lv_istore (lv' := [(4, .int 0), (3, .int 1), (2, .int (cnl b t)), (1, .int y1), (0, .ref h)]) hx hb dX2_wrongInNewKind_69 hl (by decide) rfl (fun ls hl => ?_)
                refine lv_iload_n hx hb dX2_wrongInNewKind_71 rfl (lv_at hl 1 rfl) ?_
                refine lv_if_eq (tgt := 92) hx hb dX2_wrongInNewKind_72 (by decide) (fun c72_2 => ?_) (fun c72_2 => ?_)
                · exact absurd c72_2 (by decide)
                · skip
                  refine lv_iload hx hb dX2_wrongInNewKind_75 (lv_at hl 0 rfl) ?_
                  refine lv_if_ne (tgt := 92) hx hb dX2_wrongInNewKind_77 (by decide) (fun c77_2 => ?_) (fun c77_2 => ?_)
                  · exact absurd c77_2 (by decide)
                  · skip
                    refine lv_aload_n hx hb dX2_wrongInNewKind_80 rfl (lv_at hl 4 rfl) ?_
                    refine va_get (D := D) (ci := 3) (v := .ref t4) (C := RX2) (T := TX2) (N := 11) hx hb hts (by decide +kernel) hown hK hP 0 rfl rfl 4 (by decide) (hts (.fieldLink RX2 31 "CharacterRows" "fresh" "LCharacterRows$Codes;") (by decide +kernel)) (fun _ h9 => h9) rfl dX2_wrongInNewKind_81 ?_
                    refine va_getN (D := D) (ci := 1) (v := .int (nI fr.length)) (C := RX0) (T := TX0) (N := 2) hx hb hts (by decide +kernel) hown hK hP 3 rfl rfl 1 (by decide) (va_Nw.use rfl (nst_at hN 1 rfl)) (fun _ h9 => h9) rfl dX2_wrongInNewKind_84 ?_
                    refine lv_bipush (v := 100) hx hb dX2_wrongInNewKind_87 (by decide) ?_
                    refine lv_icmp_lt (tgt := 94) hx hb dX2_wrongInNewKind_89 (by decide) (fun c89_2 => ?_) (fun c89_2 => ?_)
                    · skip
                      have d89 : fr.length < 100 := (nI_lt100 (by omega)).mp c89_2
                      refine lv_aload_n hx hb dX2_wrongInNewKind_94 rfl (lv_at hl 4 rfl) ?_
                      refine va_get (D := D) (ci := 3) (v := .ref t4) (C := RX2) (T := TX2) (N := 11) hx hb hts (by decide +kernel) hown hK hP 0 rfl rfl 4 (by decide) (hts (.fieldLink RX2 31 "CharacterRows" "fresh" "LCharacterRows$Codes;") (by decide +kernel)) (fun _ h9 => h9) rfl dX2_wrongInNewKind_95 ?_
                      refine lv_iload_n hx hb dX2_wrongInNewKind_98 rfl (lv_at hl 2 rfl) ?_
                      refine clV (wr := [(h, .inr (3, [.ref t0, .ref t1, .ref t2, .ref t3, .ref t4, .ref t5, .ref t6, .ref t7, .ref t8, .ref t9, .int si])), (t0, .inr (2, [.ref b0, .int (nI x0.length)])), (b0, .inl (c0, 200, .inl f0))]) (va_runV ⟨hx, hb, hml, hown, hts⟩ (KX0_add l D t4 b4 c4 f4 fr o4 (cnl b t) _) (cwV 1 hts gX2_wrongInNewKind_X0_add rfl rfl rfl (by decide +kernel) ⟨Nat.le_of_ble_eq_true rfl, Nat.le_of_ble_eq_true rfl⟩) (pcM_V (hP.sub (ws' := [(t4, .inr (1, [.ref b4, .int (nI fr.length)])), (b4, .inl (c4, 200, .inl f4))]) [3, 4] rfl) (hD.sub (ws' := [(t4, .inr (1, [.ref b4, .int (nI fr.length)])), (b4, .inl (c4, 200, .inl f4))]) [3, 4] (by decide) rfl) (hK.sub (tys' := [(c4, .int)]) [1] rfl) hN 0 rfl rfl) rfl rfl hl.1 rfl (lv_room (Nat.le_of_ble_eq_true rfl)) dX2_wrongInNewKind_99 ⟨Nat.zero_le _, Nat.zero_le _⟩) hP hD hS hA [3, 4] [0, 1, 2] rfl rfl (by decide) (by decide) (fun u_2 H locs hw_2 hP hD hS => ?_)
                      have e9_2 : (rw_add 200 fr (cnl b t)) = (fr ++ [cnl b t]) := (rw_add_lt (by omega))
                      rw [e9_2] at hw_2 hP hD
                      have hP : va_P D vwCl [(h, .inr (3, [.ref t0, .ref t1, .ref t2, .ref t3, .ref t4, .ref t5, .ref t6, .ref t7, .ref t8, .ref t9, .int si])), (t0, .inr (2, [.ref b0, .int (nI x0.length)])), (b0, .inl (c0, 200, .inl f0)), (t4, .inr (1, [.ref b4, .int (nI (fr ++ [cnl b t]).length)])), (b4, .inl (c4, 200, .inl u_2))] H := hP.sub [0, 1, 2, 3, 4] rfl
                      have hD : va_D A [(h, .inr (3, [.ref t0, .ref t1, .ref t2, .ref t3, .ref t4, .ref t5, .ref t6, .ref t7, .ref t8, .ref t9, .int si])), (t0, .inr (2, [.ref b0, .int (nI x0.length)])), (b0, .inl (c0, 200, .inl f0)), (t4, .inr (1, [.ref b4, .int (nI (fr ++ [cnl b t]).length)])), (b4, .inl (c4, 200, .inl u_2))] := hD.sub [0, 1, 2, 3, 4] (by decide) rfl
                      refine lv_iload_n hx hb dX2_wrongInNewKind_102 rfl (lv_at hl 3 rfl) ?_
                      refine lv_iload_n hx hb dX2_wrongInNewKind_103 rfl (lv_at hl 2 rfl) ?_
                      refine vp_callSi (W.runS ⟨hx, hb, hml, hown, hts⟩ (KX2_bytesBehindFirst l (cnl b t)) (va_cwS 1 hts gX2_wrongInNewKind_X2_bytesBehindFirst rfl rfl rfl (by decide +kernel) ⟨Nat.le_of_ble_eq_true rfl, Nat.le_of_ble_eq_true rfl⟩) pcS_S rfl rfl hl.1 rfl (lv_room (Nat.le_of_ble_eq_true rfl)) dX2_wrongInNewKind_104 ⟨Nat.zero_le _, Nat.zero_le _⟩) (fun r9 hr9 => ?_)
                      subst r9
                      refine lv_iadd hx hb dX2_wrongInNewKind_107 ?_
                      refine lv_istore_n (lv' := [(1, .int (y1 + (fX2_bytesBehindFirst (cnl b t)))), (4, .int 0), (3, .int 1), (2, .int (cnl b t)), (0, .ref h)]) hx hb dX2_wrongInNewKind_108 rfl hl (by decide) rfl (fun ls hl => ?_)
                      refine lv_iinc (v := ((y1 + (fX2_bytesBehindFirst (cnl b t))) + 1)) (lv' := [(1, .int ((y1 + (fX2_bytesBehindFirst (cnl b t))) + 1)), (4, .int 0), (3, .int 1), (2, .int (cnl b t)), (0, .ref h)]) hx hb dX2_wrongInNewKind_109 hl (k := 0) rfl rfl (by decide) rfl (fun ls hl => ?_)
                      refine lv_goto (tgt := 2) hx hb dX2_wrongInNewKind_112 (by decide) ?_
                      have hk : nwk (cnl b t) fr.length = true := by simp [nwk, c23_1, c51_1, d61, d89]
                      have h2 := new_len hk
                      exact ih (t.drop (bbN (cnl b t))) (done ++ b :: t.take (bbN (cnl b t))) _ u_2 _ H locs ls (by simp at hn ⊢; omega) (by rw [hcs]; simp) (by rw [← hT]; simp [rnS, hk]; congr 1; (try rw [Nat.min_eq_left h2]); (try omega)) (by rw [e1, bbN_eq, nI_add, nI_1]; congr 1; simp; omega) hw_2 (by simp; omega) hP hD hS (lv_sub hl [0, 4] rfl)
                    · skip
                      have d89 : ¬ fr.length < 100 := fun q => c89_2 ((nI_lt100 (by omega)).mpr q)
                      refine lv_iload_n hx hb dX2_wrongInNewKind_92 rfl (lv_at hl 3 rfl) ?_
                      have hk : ¬ nwk (cnl b t) fr.length = true := by simp [nwk, c23_1, c51_1, d61, d89]
                      have e8 : (y1, fr) = T := by rw [← hT, e1]; simp [rnS, hk]
                      have e9 : fr = T.2 := by rw [← e8]
                      rw [e9] at o4 hP hD
                      exact rtI hx hb hr hlocks dX2_wrongInNewKind_93 f4 ⟨by rw [← e8], o4⟩ hP hD hS
              · skip
                have d61 : fr.length = 0 := (nI_0iff (by omega)).mp c61_1
                refine lv_iconst (v := 1) hx hb dX2_wrongInNewKind_64 (by decide) ?_
                refine lv_goto (tgt := 69) hx hb dX2_wrongInNewKind_65 (by decide) ?_
                refine lv_istore (lv' := [(4, .int 1), (3, .int 1), (2, .int (cnl b t)), (1, .int y1), (0, .ref h)]) hx hb dX2_wrongInNewKind_69 hl (by decide) rfl (fun ls hl => ?_)
                refine lv_iload_n hx hb dX2_wrongInNewKind_71 rfl (lv_at hl 1 rfl) ?_
                refine lv_if_eq (tgt := 92) hx hb dX2_wrongInNewKind_72 (by decide) (fun c72_3 => ?_) (fun c72_3 => ?_)
                · exact absurd c72_3 (by decide)
                · skip
                  refine lv_iload hx hb dX2_wrongInNewKind_75 (lv_at hl 0 rfl) ?_
                  refine lv_if_ne (tgt := 92) hx hb dX2_wrongInNewKind_77 (by decide) (fun c77_3 => ?_) (fun c77_3 => ?_)
                  · skip
                    refine lv_iload_n hx hb dX2_wrongInNewKind_92 rfl (lv_at hl 3 rfl) ?_
                    have hk : ¬ nwk (cnl b t) fr.length = true := by simp [nwk, c23_1, c51_1, d61]
                    have e8 : (y1, fr) = T := by rw [← hT, e1]; simp [rnS, hk]
                    have e9 : fr = T.2 := by rw [← e8]
                    rw [e9] at o4 hP hD
                    exact rtI hx hb hr hlocks dX2_wrongInNewKind_93 f4 ⟨by rw [← e8], o4⟩ hP hD hS
                  · exact absurd c77_3 (by decide)
          · skip
            refine lv_iload_n hx hb dX2_wrongInNewKind_26 rfl (lv_at hl 0 rfl) ?_
            refine vp_callSi (W.runS ⟨hx, hb, hml, hown, hts⟩ (KX2_setOf l (cnl b t)) (va_cwS 1 hts gX2_wrongInNewKind_X2_setOf rfl rfl rfl (by decide +kernel) ⟨Nat.le_of_ble_eq_true rfl, Nat.le_of_ble_eq_true rfl⟩) pcS_S rfl rfl hl.1 rfl (lv_room (Nat.le_of_ble_eq_true rfl)) dX2_wrongInNewKind_27 ⟨Nat.zero_le _, Nat.zero_le _⟩) (fun r9 hr9 => ?_)
            subst r9
            refine lv_iconst (v := (-1)) hx hb dX2_wrongInNewKind_30 (by decide) ?_
            refine lv_icmp_ne (tgt := 41) hx hb dX2_wrongInNewKind_31 (by decide) (fun c31_1 => ?_) (fun c31_1 => ?_)
            · skip
              refine lv_iconst (v := 1) hx hb dX2_wrongInNewKind_41 (by decide) ?_
              refine lv_goto (tgt := 46) hx hb dX2_wrongInNewKind_42 (by decide) ?_
              refine lv_istore_n (lv' := [(3, .int 1), (2, .int (cnl b t)), (1, .int y1), (0, .ref h)]) hx hb dX2_wrongInNewKind_46 rfl hl (by decide) rfl (fun ls hl => ?_)
              refine lv_iload_n hx hb dX2_wrongInNewKind_47 rfl (lv_at hl 1 rfl) ?_
              refine vp_callSi (W.runS ⟨hx, hb, hml, hown, hts⟩ (KX2_isMark l (cnl b t)) (va_cwS 1 hts gX2_wrongInNewKind_X2_isMark rfl rfl rfl (by decide +kernel) ⟨Nat.le_of_ble_eq_true rfl, Nat.le_of_ble_eq_true rfl⟩) pcS_S rfl rfl hl.1 rfl (lv_room (Nat.le_of_ble_eq_true rfl)) dX2_wrongInNewKind_48 ⟨Nat.zero_le _, Nat.zero_le _⟩) (fun r9 hr9 => ?_)
              subst r9
              refine lv_if_eq (tgt := 68) hx hb dX2_wrongInNewKind_51 (by decide) (fun c51_2 => ?_) (fun c51_2 => ?_)
              · skip
                refine lv_iconst (v := 0) hx hb dX2_wrongInNewKind_68 (by decide) ?_
                refine lv_istore (lv' := [(4, .int 0), (3, .int 1), (2, .int (cnl b t)), (1, .int y1), (0, .ref h)]) hx hb dX2_wrongInNewKind_69 hl (by decide) rfl (fun ls hl => ?_)
                refine lv_iload_n hx hb dX2_wrongInNewKind_71 rfl (lv_at hl 1 rfl) ?_
                refine lv_if_eq (tgt := 92) hx hb dX2_wrongInNewKind_72 (by decide) (fun c72_4 => ?_) (fun c72_4 => ?_)
                · exact absurd c72_4 (by decide)
                · skip
                  refine lv_iload hx hb dX2_wrongInNewKind_75 (lv_at hl 0 rfl) ?_
                  refine lv_if_ne (tgt := 92) hx hb dX2_wrongInNewKind_77 (by decide) (fun c77_4 => ?_) (fun c77_4 => ?_)
                  · exact absurd c77_4 (by decide)
                  · skip
                    refine lv_aload_n hx hb dX2_wrongInNewKind_80 rfl (lv_at hl 4 rfl) ?_
                    refine va_get (D := D) (ci := 3) (v := .ref t4) (C := RX2) (T := TX2) (N := 11) hx hb hts (by decide +kernel) hown hK hP 0 rfl rfl 4 (by decide) (hts (.fieldLink RX2 31 "CharacterRows" "fresh" "LCharacterRows$Codes;") (by decide +kernel)) (fun _ h9 => h9) rfl dX2_wrongInNewKind_81 ?_
                    refine va_getN (D := D) (ci := 1) (v := .int (nI fr.length)) (C := RX0) (T := TX0) (N := 2) hx hb hts (by decide +kernel) hown hK hP 3 rfl rfl 1 (by decide) (va_Nw.use rfl (nst_at hN 1 rfl)) (fun _ h9 => h9) rfl dX2_wrongInNewKind_84 ?_
                    refine lv_bipush (v := 100) hx hb dX2_wrongInNewKind_87 (by decide) ?_
                    refine lv_icmp_lt (tgt := 94) hx hb dX2_wrongInNewKind_89 (by decide) (fun c89_3 => ?_) (fun c89_3 => ?_)
                    · skip
                      have d89 : fr.length < 100 := (nI_lt100 (by omega)).mp c89_3
                      refine lv_aload_n hx hb dX2_wrongInNewKind_94 rfl (lv_at hl 4 rfl) ?_
                      refine va_get (D := D) (ci := 3) (v := .ref t4) (C := RX2) (T := TX2) (N := 11) hx hb hts (by decide +kernel) hown hK hP 0 rfl rfl 4 (by decide) (hts (.fieldLink RX2 31 "CharacterRows" "fresh" "LCharacterRows$Codes;") (by decide +kernel)) (fun _ h9 => h9) rfl dX2_wrongInNewKind_95 ?_
                      refine lv_iload_n hx hb dX2_wrongInNewKind_98 rfl (lv_at hl 2 rfl) ?_
                      refine clV (wr := [(h, .inr (3, [.ref t0, .ref t1, .ref t2, .ref t3, .ref t4, .ref t5, .ref t6, .ref t7, .ref t8, .ref t9, .int si])), (t0, .inr (2, [.ref b0, .int (nI x0.length)])), (b0, .inl (c0, 200, .inl f0))]) (va_runV ⟨hx, hb, hml, hown, hts⟩ (KX0_add l D t4 b4 c4 f4 fr o4 (cnl b t) _) (cwV 1 hts gX2_wrongInNewKind_X0_add rfl rfl rfl (by decide +kernel) ⟨Nat.le_of_ble_eq_true rfl, Nat.le_of_ble_eq_true rfl⟩) (pcM_V (hP.sub (ws' := [(t4, .inr (1, [.ref b4, .int (nI fr.length)])), (b4, .inl (c4, 200, .inl f4))]) [3, 4] rfl) (hD.sub (ws' := [(t4, .inr (1, [.ref b4, .int (nI fr.length)])), (b4, .inl (c4, 200, .inl f4))]) [3, 4] (by decide) rfl) (hK.sub (tys' := [(c4, .int)]) [1] rfl) hN 0 rfl rfl) rfl rfl hl.1 rfl (lv_room (Nat.le_of_ble_eq_true rfl)) dX2_wrongInNewKind_99 ⟨Nat.zero_le _, Nat.zero_le _⟩) hP hD hS hA [3, 4] [0, 1, 2] rfl rfl (by decide) (by decide) (fun u_3 H locs hw_3 hP hD hS => ?_)
                      have e9_3 : (rw_add 200 fr (cnl b t)) = (fr ++ [cnl b t]) := (rw_add_lt (by omega))
                      rw [e9_3] at hw_3 hP hD
                      have hP : va_P D vwCl [(h, .inr (3, [.ref t0, .ref t1, .ref t2, .ref t3, .ref t4, .ref t5, .ref t6, .ref t7, .ref t8, .ref t9, .int si])), (t0, .inr (2, [.ref b0, .int (nI x0.length)])), (b0, .inl (c0, 200, .inl f0)), (t4, .inr (1, [.ref b4, .int (nI (fr ++ [cnl b t]).length)])), (b4, .inl (c4, 200, .inl u_3))] H := hP.sub [0, 1, 2, 3, 4] rfl
                      have hD : va_D A [(h, .inr (3, [.ref t0, .ref t1, .ref t2, .ref t3, .ref t4, .ref t5, .ref t6, .ref t7, .ref t8, .ref t9, .int si])), (t0, .inr (2, [.ref b0, .int (nI x0.length)])), (b0, .inl (c0, 200, .inl f0)), (t4, .inr (1, [.ref b4, .int (nI (fr ++ [cnl b t]).length)])), (b4, .inl (c4, 200, .inl u_3))] := hD.sub [0, 1, 2, 3, 4] (by decide) rfl
                      refine lv_iload_n hx hb dX2_wrongInNewKind_102 rfl (lv_at hl 3 rfl) ?_
                      refine lv_iload_n hx hb dX2_wrongInNewKind_103 rfl (lv_at hl 2 rfl) ?_
                      refine vp_callSi (W.runS ⟨hx, hb, hml, hown, hts⟩ (KX2_bytesBehindFirst l (cnl b t)) (va_cwS 1 hts gX2_wrongInNewKind_X2_bytesBehindFirst rfl rfl rfl (by decide +kernel) ⟨Nat.le_of_ble_eq_true rfl, Nat.le_of_ble_eq_true rfl⟩) pcS_S rfl rfl hl.1 rfl (lv_room (Nat.le_of_ble_eq_true rfl)) dX2_wrongInNewKind_104 ⟨Nat.zero_le _, Nat.zero_le _⟩) (fun r9 hr9 => ?_)
                      subst r9
                      refine lv_iadd hx hb dX2_wrongInNewKind_107 ?_
                      refine lv_istore_n (lv' := [(1, .int (y1 + (fX2_bytesBehindFirst (cnl b t)))), (4, .int 0), (3, .int 1), (2, .int (cnl b t)), (0, .ref h)]) hx hb dX2_wrongInNewKind_108 rfl hl (by decide) rfl (fun ls hl => ?_)
                      refine lv_iinc (v := ((y1 + (fX2_bytesBehindFirst (cnl b t))) + 1)) (lv' := [(1, .int ((y1 + (fX2_bytesBehindFirst (cnl b t))) + 1)), (4, .int 0), (3, .int 1), (2, .int (cnl b t)), (0, .ref h)]) hx hb dX2_wrongInNewKind_109 hl (k := 0) rfl rfl (by decide) rfl (fun ls hl => ?_)
                      refine lv_goto (tgt := 2) hx hb dX2_wrongInNewKind_112 (by decide) ?_
                      have hk : nwk (cnl b t) fr.length = true := by simp [nwk, c23_1, c31_1, c51_2, d89]
                      have h2 := new_len hk
                      exact ih (t.drop (bbN (cnl b t))) (done ++ b :: t.take (bbN (cnl b t))) _ u_3 _ H locs ls (by simp at hn ⊢; omega) (by rw [hcs]; simp) (by rw [← hT]; simp [rnS, hk]; congr 1; (try rw [Nat.min_eq_left h2]); (try omega)) (by rw [e1, bbN_eq, nI_add, nI_1]; congr 1; simp; omega) hw_3 (by simp; omega) hP hD hS (lv_sub hl [0, 4] rfl)
                    · skip
                      have d89 : ¬ fr.length < 100 := fun q => c89_3 ((nI_lt100 (by omega)).mpr q)
                      refine lv_iload_n hx hb dX2_wrongInNewKind_92 rfl (lv_at hl 3 rfl) ?_
                      have hk : ¬ nwk (cnl b t) fr.length = true := by simp [nwk, c23_1, c31_1, c51_2, d89]
                      have e8 : (y1, fr) = T := by rw [← hT, e1]; simp [rnS, hk]
                      have e9 : fr = T.2 := by rw [← e8]
                      rw [e9] at o4 hP hD
                      exact rtI hx hb hr hlocks dX2_wrongInNewKind_93 f4 ⟨by rw [← e8], o4⟩ hP hD hS
              · skip
                refine lv_aload_n hx hb dX2_wrongInNewKind_54 rfl (lv_at hl 3 rfl) ?_
                refine va_get (D := D) (ci := 3) (v := .ref t4) (C := RX2) (T := TX2) (N := 11) hx hb hts (by decide +kernel) hown hK hP 0 rfl rfl 4 (by decide) (hts (.fieldLink RX2 31 "CharacterRows" "fresh" "LCharacterRows$Codes;") (by decide +kernel)) (fun _ h9 => h9) rfl dX2_wrongInNewKind_55 ?_
                refine va_getN (D := D) (ci := 1) (v := .int (nI fr.length)) (C := RX0) (T := TX0) (N := 2) hx hb hts (by decide +kernel) hown hK hP 3 rfl rfl 1 (by decide) (va_Nw.use rfl (nst_at hN 1 rfl)) (fun _ h9 => h9) rfl dX2_wrongInNewKind_58 ?_
                refine lv_if_ne (tgt := 68) hx hb dX2_wrongInNewKind_61 (by decide) (fun c61_2 => ?_) (fun c61_2 => ?_)
                · skip
                  have d61 : ¬ fr.length = 0 := fun q => c61_2 ((nI_0iff (by omega)).mpr q)
                  refine lv_iconst (v := 0) hx hb dX2_wrongInNewKind_68 (by decide) ?_
                  refine lv_istore (lv' := [(4, .int 0), (3, .int 1), (2, .int (cnl b t)), (1, .int y1), (0, .ref h)]) hx hb dX2_wrongInNewKind_69 hl (by decide) rfl (fun ls hl => ?_)
                  refine lv_iload_n hx hb dX2_wrongInNewKind_71 rfl (lv_at hl 1 rfl) ?_
                  refine lv_if_eq (tgt := 92) hx hb dX2_wrongInNewKind_72 (by decide) (fun c72_5 => ?_) (fun c72_5 => ?_)
                  · exact absurd c72_5 (by decide)
                  · skip
                    refine lv_iload hx hb dX2_wrongInNewKind_75 (lv_at hl 0 rfl) ?_
                    refine lv_if_ne (tgt := 92) hx hb dX2_wrongInNewKind_77 (by decide) (fun c77_5 => ?_) (fun c77_5 => ?_)
                    · exact absurd c77_5 (by decide)
                    · skip
                      refine lv_aload_n hx hb dX2_wrongInNewKind_80 rfl (lv_at hl 4 rfl) ?_
                      refine va_get (D := D) (ci := 3) (v := .ref t4) (C := RX2) (T := TX2) (N := 11) hx hb hts (by decide +kernel) hown hK hP 0 rfl rfl 4 (by decide) (hts (.fieldLink RX2 31 "CharacterRows" "fresh" "LCharacterRows$Codes;") (by decide +kernel)) (fun _ h9 => h9) rfl dX2_wrongInNewKind_81 ?_
                      refine va_getN (D := D) (ci := 1) (v := .int (nI fr.length)) (C := RX0) (T := TX0) (N := 2) hx hb hts (by decide +kernel) hown hK hP 3 rfl rfl 1 (by decide) (va_Nw.use rfl (nst_at hN 1 rfl)) (fun _ h9 => h9) rfl dX2_wrongInNewKind_84 ?_
                      refine lv_bipush (v := 100) hx hb dX2_wrongInNewKind_87 (by decide) ?_
                      refine lv_icmp_lt (tgt := 94) hx hb dX2_wrongInNewKind_89 (by decide) (fun c89_4 => ?_) (fun c89_4 => ?_)
                      · skip
                        have d89 : fr.length < 100 := (nI_lt100 (by omega)).mp c89_4
                        refine lv_aload_n hx hb dX2_wrongInNewKind_94 rfl (lv_at hl 4 rfl) ?_
                        refine va_get (D := D) (ci := 3) (v := .ref t4) (C := RX2) (T := TX2) (N := 11) hx hb hts (by decide +kernel) hown hK hP 0 rfl rfl 4 (by decide) (hts (.fieldLink RX2 31 "CharacterRows" "fresh" "LCharacterRows$Codes;") (by decide +kernel)) (fun _ h9 => h9) rfl dX2_wrongInNewKind_95 ?_
                        refine lv_iload_n hx hb dX2_wrongInNewKind_98 rfl (lv_at hl 2 rfl) ?_
                        refine clV (wr := [(h, .inr (3, [.ref t0, .ref t1, .ref t2, .ref t3, .ref t4, .ref t5, .ref t6, .ref t7, .ref t8, .ref t9, .int si])), (t0, .inr (2, [.ref b0, .int (nI x0.length)])), (b0, .inl (c0, 200, .inl f0))]) (va_runV ⟨hx, hb, hml, hown, hts⟩ (KX0_add l D t4 b4 c4 f4 fr o4 (cnl b t) _) (cwV 1 hts gX2_wrongInNewKind_X0_add rfl rfl rfl (by decide +kernel) ⟨Nat.le_of_ble_eq_true rfl, Nat.le_of_ble_eq_true rfl⟩) (pcM_V (hP.sub (ws' := [(t4, .inr (1, [.ref b4, .int (nI fr.length)])), (b4, .inl (c4, 200, .inl f4))]) [3, 4] rfl) (hD.sub (ws' := [(t4, .inr (1, [.ref b4, .int (nI fr.length)])), (b4, .inl (c4, 200, .inl f4))]) [3, 4] (by decide) rfl) (hK.sub (tys' := [(c4, .int)]) [1] rfl) hN 0 rfl rfl) rfl rfl hl.1 rfl (lv_room (Nat.le_of_ble_eq_true rfl)) dX2_wrongInNewKind_99 ⟨Nat.zero_le _, Nat.zero_le _⟩) hP hD hS hA [3, 4] [0, 1, 2] rfl rfl (by decide) (by decide) (fun u_4 H locs hw_4 hP hD hS => ?_)
                        have e9_4 : (rw_add 200 fr (cnl b t)) = (fr ++ [cnl b t]) := (rw_add_lt (by omega))
                        rw [e9_4] at hw_4 hP hD
                        have hP : va_P D vwCl [(h, .inr (3, [.ref t0, .ref t1, .ref t2, .ref t3, .ref t4, .ref t5, .ref t6, .ref t7, .ref t8, .ref t9, .int si])), (t0, .inr (2, [.ref b0, .int (nI x0.length)])), (b0, .inl (c0, 200, .inl f0)), (t4, .inr (1, [.ref b4, .int (nI (fr ++ [cnl b t]).length)])), (b4, .inl (c4, 200, .inl u_4))] H := hP.sub [0, 1, 2, 3, 4] rfl
                        have hD : va_D A [(h, .inr (3, [.ref t0, .ref t1, .ref t2, .ref t3, .ref t4, .ref t5, .ref t6, .ref t7, .ref t8, .ref t9, .int si])), (t0, .inr (2, [.ref b0, .int (nI x0.length)])), (b0, .inl (c0, 200, .inl f0)), (t4, .inr (1, [.ref b4, .int (nI (fr ++ [cnl b t]).length)])), (b4, .inl (c4, 200, .inl u_4))] := hD.sub [0, 1, 2, 3, 4] (by decide) rfl
                        refine lv_iload_n hx hb dX2_wrongInNewKind_102 rfl (lv_at hl 3 rfl) ?_
                        refine lv_iload_n hx hb dX2_wrongInNewKind_103 rfl (lv_at hl 2 rfl) ?_
                        refine vp_callSi (W.runS ⟨hx, hb, hml, hown, hts⟩ (KX2_bytesBehindFirst l (cnl b t)) (va_cwS 1 hts gX2_wrongInNewKind_X2_bytesBehindFirst rfl rfl rfl (by decide +kernel) ⟨Nat.le_of_ble_eq_true rfl, Nat.le_of_ble_eq_true rfl⟩) pcS_S rfl rfl hl.1 rfl (lv_room (Nat.le_of_ble_eq_true rfl)) dX2_wrongInNewKind_104 ⟨Nat.zero_le _, Nat.zero_le _⟩) (fun r9 hr9 => ?_)
                        subst r9
                        refine lv_iadd hx hb dX2_wrongInNewKind_107 ?_
                        refine lv_istore_n (lv' := [(1, .int (y1 + (fX2_bytesBehindFirst (cnl b t)))), (4, .int 0), (3, .int 1), (2, .int (cnl b t)), (0, .ref h)]) hx hb dX2_wrongInNewKind_108 rfl hl (by decide) rfl (fun ls hl => ?_)
                        refine lv_iinc (v := ((y1 + (fX2_bytesBehindFirst (cnl b t))) + 1)) (lv' := [(1, .int ((y1 + (fX2_bytesBehindFirst (cnl b t))) + 1)), (4, .int 0), (3, .int 1), (2, .int (cnl b t)), (0, .ref h)]) hx hb dX2_wrongInNewKind_109 hl (k := 0) rfl rfl (by decide) rfl (fun ls hl => ?_)
                        refine lv_goto (tgt := 2) hx hb dX2_wrongInNewKind_112 (by decide) ?_
                        have hk : nwk (cnl b t) fr.length = true := by simp [nwk, c23_1, c31_1, c51_2, d61, d89]
                        have h2 := new_len hk
                        exact ih (t.drop (bbN (cnl b t))) (done ++ b :: t.take (bbN (cnl b t))) _ u_4 _ H locs ls (by simp at hn ⊢; omega) (by rw [hcs]; simp) (by rw [← hT]; simp [rnS, hk]; congr 1; (try rw [Nat.min_eq_left h2]); (try omega)) (by rw [e1, bbN_eq, nI_add, nI_1]; congr 1; simp; omega) hw_4 (by simp; omega) hP hD hS (lv_sub hl [0, 4] rfl)
                      · skip
                        have d89 : ¬ fr.length < 100 := fun q => c89_4 ((nI_lt100 (by omega)).mpr q)
                        refine lv_iload_n hx hb dX2_wrongInNewKind_92 rfl (lv_at hl 3 rfl) ?_
                        have hk : ¬ nwk (cnl b t) fr.length = true := by simp [nwk, c23_1, c31_1, c51_2, d61, d89]
                        have e8 : (y1, fr) = T := by rw [← hT, e1]; simp [rnS, hk]
                        have e9 : fr = T.2 := by rw [← e8]
                        rw [e9] at o4 hP hD
                        exact rtI hx hb hr hlocks dX2_wrongInNewKind_93 f4 ⟨by rw [← e8], o4⟩ hP hD hS
                · skip
                  have d61 : fr.length = 0 := (nI_0iff (by omega)).mp c61_2
                  refine lv_iconst (v := 1) hx hb dX2_wrongInNewKind_64 (by decide) ?_
                  refine lv_goto (tgt := 69) hx hb dX2_wrongInNewKind_65 (by decide) ?_
                  refine lv_istore (lv' := [(4, .int 1), (3, .int 1), (2, .int (cnl b t)), (1, .int y1), (0, .ref h)]) hx hb dX2_wrongInNewKind_69 hl (by decide) rfl (fun ls hl => ?_)
                  refine lv_iload_n hx hb dX2_wrongInNewKind_71 rfl (lv_at hl 1 rfl) ?_
                  refine lv_if_eq (tgt := 92) hx hb dX2_wrongInNewKind_72 (by decide) (fun c72_6 => ?_) (fun c72_6 => ?_)
                  · exact absurd c72_6 (by decide)
                  · skip
                    refine lv_iload hx hb dX2_wrongInNewKind_75 (lv_at hl 0 rfl) ?_
                    refine lv_if_ne (tgt := 92) hx hb dX2_wrongInNewKind_77 (by decide) (fun c77_6 => ?_) (fun c77_6 => ?_)
                    · skip
                      refine lv_iload_n hx hb dX2_wrongInNewKind_92 rfl (lv_at hl 3 rfl) ?_
                      have hk : ¬ nwk (cnl b t) fr.length = true := by simp [nwk, c23_1, c31_1, c51_2, d61]
                      have e8 : (y1, fr) = T := by rw [← hT, e1]; simp [rnS, hk]
                      have e9 : fr = T.2 := by rw [← e8]
                      rw [e9] at o4 hP hD
                      exact rtI hx hb hr hlocks dX2_wrongInNewKind_93 f4 ⟨by rw [← e8], o4⟩ hP hD hS
                    · exact absurd c77_6 (by decide)
            · skip
              refine lv_iload_n hx hb dX2_wrongInNewKind_34 rfl (lv_at hl 0 rfl) ?_
              refine vp_callSi (W.runS ⟨hx, hb, hml, hown, hts⟩ (KX2_isComposed l (cnl b t)) (va_cwS 1 hts gX2_wrongInNewKind_X2_isComposed rfl rfl rfl (by decide +kernel) ⟨Nat.le_of_ble_eq_true rfl, Nat.le_of_ble_eq_true rfl⟩) pcS_S rfl rfl hl.1 rfl (lv_room (Nat.le_of_ble_eq_true rfl)) dX2_wrongInNewKind_35 ⟨Nat.zero_le _, Nat.zero_le _⟩) (fun r9 hr9 => ?_)
              subst r9
              refine lv_if_eq (tgt := 45) hx hb dX2_wrongInNewKind_38 (by decide) (fun c38_1 => ?_) (fun c38_1 => ?_)
              · skip
                refine lv_iconst (v := 0) hx hb dX2_wrongInNewKind_45 (by decide) ?_
                refine lv_istore_n (lv' := [(3, .int 0), (2, .int (cnl b t)), (1, .int y1), (0, .ref h)]) hx hb dX2_wrongInNewKind_46 rfl hl (by decide) rfl (fun ls hl => ?_)
                refine lv_iload_n hx hb dX2_wrongInNewKind_47 rfl (lv_at hl 1 rfl) ?_
                refine vp_callSi (W.runS ⟨hx, hb, hml, hown, hts⟩ (KX2_isMark l (cnl b t)) (va_cwS 1 hts gX2_wrongInNewKind_X2_isMark rfl rfl rfl (by decide +kernel) ⟨Nat.le_of_ble_eq_true rfl, Nat.le_of_ble_eq_true rfl⟩) pcS_S rfl rfl hl.1 rfl (lv_room (Nat.le_of_ble_eq_true rfl)) dX2_wrongInNewKind_48 ⟨Nat.zero_le _, Nat.zero_le _⟩) (fun r9 hr9 => ?_)
                subst r9
                refine lv_if_eq (tgt := 68) hx hb dX2_wrongInNewKind_51 (by decide) (fun c51_3 => ?_) (fun c51_3 => ?_)
                · skip
                  refine lv_iconst (v := 0) hx hb dX2_wrongInNewKind_68 (by decide) ?_
                  refine lv_istore (lv' := [(4, .int 0), (3, .int 0), (2, .int (cnl b t)), (1, .int y1), (0, .ref h)]) hx hb dX2_wrongInNewKind_69 hl (by decide) rfl (fun ls hl => ?_)
                  refine lv_iload_n hx hb dX2_wrongInNewKind_71 rfl (lv_at hl 1 rfl) ?_
                  refine lv_if_eq (tgt := 92) hx hb dX2_wrongInNewKind_72 (by decide) (fun c72_7 => ?_) (fun c72_7 => ?_)
                  · skip
                    refine lv_iload_n hx hb dX2_wrongInNewKind_92 rfl (lv_at hl 3 rfl) ?_
                    have hk : ¬ nwk (cnl b t) fr.length = true := by simp [nwk, c23_1, c31_1, c38_1, c51_3]
                    have e8 : (y1, fr) = T := by rw [← hT, e1]; simp [rnS, hk]
                    have e9 : fr = T.2 := by rw [← e8]
                    rw [e9] at o4 hP hD
                    exact rtI hx hb hr hlocks dX2_wrongInNewKind_93 f4 ⟨by rw [← e8], o4⟩ hP hD hS
                  · exact absurd c72_7 (by decide)
                · skip
                  refine lv_aload_n hx hb dX2_wrongInNewKind_54 rfl (lv_at hl 3 rfl) ?_
                  refine va_get (D := D) (ci := 3) (v := .ref t4) (C := RX2) (T := TX2) (N := 11) hx hb hts (by decide +kernel) hown hK hP 0 rfl rfl 4 (by decide) (hts (.fieldLink RX2 31 "CharacterRows" "fresh" "LCharacterRows$Codes;") (by decide +kernel)) (fun _ h9 => h9) rfl dX2_wrongInNewKind_55 ?_
                  refine va_getN (D := D) (ci := 1) (v := .int (nI fr.length)) (C := RX0) (T := TX0) (N := 2) hx hb hts (by decide +kernel) hown hK hP 3 rfl rfl 1 (by decide) (va_Nw.use rfl (nst_at hN 1 rfl)) (fun _ h9 => h9) rfl dX2_wrongInNewKind_58 ?_
                  refine lv_if_ne (tgt := 68) hx hb dX2_wrongInNewKind_61 (by decide) (fun c61_3 => ?_) (fun c61_3 => ?_)
                  · skip
                    have d61 : ¬ fr.length = 0 := fun q => c61_3 ((nI_0iff (by omega)).mpr q)
                    refine lv_iconst (v := 0) hx hb dX2_wrongInNewKind_68 (by decide) ?_
                    refine lv_istore (lv' := [(4, .int 0), (3, .int 0), (2, .int (cnl b t)), (1, .int y1), (0, .ref h)]) hx hb dX2_wrongInNewKind_69 hl (by decide) rfl (fun ls hl => ?_)
                    refine lv_iload_n hx hb dX2_wrongInNewKind_71 rfl (lv_at hl 1 rfl) ?_
                    refine lv_if_eq (tgt := 92) hx hb dX2_wrongInNewKind_72 (by decide) (fun c72_8 => ?_) (fun c72_8 => ?_)
                    · skip
                      refine lv_iload_n hx hb dX2_wrongInNewKind_92 rfl (lv_at hl 3 rfl) ?_
                      have hk : ¬ nwk (cnl b t) fr.length = true := by simp [nwk, c23_1, c31_1, c38_1, c51_3, d61]
                      have e8 : (y1, fr) = T := by rw [← hT, e1]; simp [rnS, hk]
                      have e9 : fr = T.2 := by rw [← e8]
                      rw [e9] at o4 hP hD
                      exact rtI hx hb hr hlocks dX2_wrongInNewKind_93 f4 ⟨by rw [← e8], o4⟩ hP hD hS
                    · exact absurd c72_8 (by decide)
                  · skip
                    have d61 : fr.length = 0 := (nI_0iff (by omega)).mp c61_3
                    refine lv_iconst (v := 1) hx hb dX2_wrongInNewKind_64 (by decide) ?_
                    refine lv_goto (tgt := 69) hx hb dX2_wrongInNewKind_65 (by decide) ?_
                    refine lv_istore (lv' := [(4, .int 1), (3, .int 0), (2, .int (cnl b t)), (1, .int y1), (0, .ref h)]) hx hb dX2_wrongInNewKind_69 hl (by decide) rfl (fun ls hl => ?_)
                    refine lv_iload_n hx hb dX2_wrongInNewKind_71 rfl (lv_at hl 1 rfl) ?_
                    refine lv_if_eq (tgt := 92) hx hb dX2_wrongInNewKind_72 (by decide) (fun c72_9 => ?_) (fun c72_9 => ?_)
                    · skip
                      refine lv_iload_n hx hb dX2_wrongInNewKind_92 rfl (lv_at hl 3 rfl) ?_
                      have hk : ¬ nwk (cnl b t) fr.length = true := by simp [nwk, c23_1, c31_1, c38_1, c51_3, d61]
                      have e8 : (y1, fr) = T := by rw [← hT, e1]; simp [rnS, hk]
                      have e9 : fr = T.2 := by rw [← e8]
                      rw [e9] at o4 hP hD
                      exact rtI hx hb hr hlocks dX2_wrongInNewKind_93 f4 ⟨by rw [← e8], o4⟩ hP hD hS
                    · exact absurd c72_9 (by decide)
              · skip
                refine lv_iconst (v := 1) hx hb dX2_wrongInNewKind_41 (by decide) ?_
                refine lv_goto (tgt := 46) hx hb dX2_wrongInNewKind_42 (by decide) ?_
                refine lv_istore_n (lv' := [(3, .int 1), (2, .int (cnl b t)), (1, .int y1), (0, .ref h)]) hx hb dX2_wrongInNewKind_46 rfl hl (by decide) rfl (fun ls hl => ?_)
                refine lv_iload_n hx hb dX2_wrongInNewKind_47 rfl (lv_at hl 1 rfl) ?_
                refine vp_callSi (W.runS ⟨hx, hb, hml, hown, hts⟩ (KX2_isMark l (cnl b t)) (va_cwS 1 hts gX2_wrongInNewKind_X2_isMark rfl rfl rfl (by decide +kernel) ⟨Nat.le_of_ble_eq_true rfl, Nat.le_of_ble_eq_true rfl⟩) pcS_S rfl rfl hl.1 rfl (lv_room (Nat.le_of_ble_eq_true rfl)) dX2_wrongInNewKind_48 ⟨Nat.zero_le _, Nat.zero_le _⟩) (fun r9 hr9 => ?_)
                subst r9
                refine lv_if_eq (tgt := 68) hx hb dX2_wrongInNewKind_51 (by decide) (fun c51_4 => ?_) (fun c51_4 => ?_)
                · skip
                  refine lv_iconst (v := 0) hx hb dX2_wrongInNewKind_68 (by decide) ?_
                  refine lv_istore (lv' := [(4, .int 0), (3, .int 1), (2, .int (cnl b t)), (1, .int y1), (0, .ref h)]) hx hb dX2_wrongInNewKind_69 hl (by decide) rfl (fun ls hl => ?_)
                  refine lv_iload_n hx hb dX2_wrongInNewKind_71 rfl (lv_at hl 1 rfl) ?_
                  refine lv_if_eq (tgt := 92) hx hb dX2_wrongInNewKind_72 (by decide) (fun c72_10 => ?_) (fun c72_10 => ?_)
                  · exact absurd c72_10 (by decide)
                  · skip
                    refine lv_iload hx hb dX2_wrongInNewKind_75 (lv_at hl 0 rfl) ?_
                    refine lv_if_ne (tgt := 92) hx hb dX2_wrongInNewKind_77 (by decide) (fun c77_7 => ?_) (fun c77_7 => ?_)
                    · exact absurd c77_7 (by decide)
                    · skip
                      refine lv_aload_n hx hb dX2_wrongInNewKind_80 rfl (lv_at hl 4 rfl) ?_
                      refine va_get (D := D) (ci := 3) (v := .ref t4) (C := RX2) (T := TX2) (N := 11) hx hb hts (by decide +kernel) hown hK hP 0 rfl rfl 4 (by decide) (hts (.fieldLink RX2 31 "CharacterRows" "fresh" "LCharacterRows$Codes;") (by decide +kernel)) (fun _ h9 => h9) rfl dX2_wrongInNewKind_81 ?_
                      refine va_getN (D := D) (ci := 1) (v := .int (nI fr.length)) (C := RX0) (T := TX0) (N := 2) hx hb hts (by decide +kernel) hown hK hP 3 rfl rfl 1 (by decide) (va_Nw.use rfl (nst_at hN 1 rfl)) (fun _ h9 => h9) rfl dX2_wrongInNewKind_84 ?_
                      refine lv_bipush (v := 100) hx hb dX2_wrongInNewKind_87 (by decide) ?_
                      refine lv_icmp_lt (tgt := 94) hx hb dX2_wrongInNewKind_89 (by decide) (fun c89_5 => ?_) (fun c89_5 => ?_)
                      · skip
                        have d89 : fr.length < 100 := (nI_lt100 (by omega)).mp c89_5
                        refine lv_aload_n hx hb dX2_wrongInNewKind_94 rfl (lv_at hl 4 rfl) ?_
                        refine va_get (D := D) (ci := 3) (v := .ref t4) (C := RX2) (T := TX2) (N := 11) hx hb hts (by decide +kernel) hown hK hP 0 rfl rfl 4 (by decide) (hts (.fieldLink RX2 31 "CharacterRows" "fresh" "LCharacterRows$Codes;") (by decide +kernel)) (fun _ h9 => h9) rfl dX2_wrongInNewKind_95 ?_
                        refine lv_iload_n hx hb dX2_wrongInNewKind_98 rfl (lv_at hl 2 rfl) ?_
                        refine clV (wr := [(h, .inr (3, [.ref t0, .ref t1, .ref t2, .ref t3, .ref t4, .ref t5, .ref t6, .ref t7, .ref t8, .ref t9, .int si])), (t0, .inr (2, [.ref b0, .int (nI x0.length)])), (b0, .inl (c0, 200, .inl f0))]) (va_runV ⟨hx, hb, hml, hown, hts⟩ (KX0_add l D t4 b4 c4 f4 fr o4 (cnl b t) _) (cwV 1 hts gX2_wrongInNewKind_X0_add rfl rfl rfl (by decide +kernel) ⟨Nat.le_of_ble_eq_true rfl, Nat.le_of_ble_eq_true rfl⟩) (pcM_V (hP.sub (ws' := [(t4, .inr (1, [.ref b4, .int (nI fr.length)])), (b4, .inl (c4, 200, .inl f4))]) [3, 4] rfl) (hD.sub (ws' := [(t4, .inr (1, [.ref b4, .int (nI fr.length)])), (b4, .inl (c4, 200, .inl f4))]) [3, 4] (by decide) rfl) (hK.sub (tys' := [(c4, .int)]) [1] rfl) hN 0 rfl rfl) rfl rfl hl.1 rfl (lv_room (Nat.le_of_ble_eq_true rfl)) dX2_wrongInNewKind_99 ⟨Nat.zero_le _, Nat.zero_le _⟩) hP hD hS hA [3, 4] [0, 1, 2] rfl rfl (by decide) (by decide) (fun u_5 H locs hw_5 hP hD hS => ?_)
                        have e9_5 : (rw_add 200 fr (cnl b t)) = (fr ++ [cnl b t]) := (rw_add_lt (by omega))
                        rw [e9_5] at hw_5 hP hD
                        have hP : va_P D vwCl [(h, .inr (3, [.ref t0, .ref t1, .ref t2, .ref t3, .ref t4, .ref t5, .ref t6, .ref t7, .ref t8, .ref t9, .int si])), (t0, .inr (2, [.ref b0, .int (nI x0.length)])), (b0, .inl (c0, 200, .inl f0)), (t4, .inr (1, [.ref b4, .int (nI (fr ++ [cnl b t]).length)])), (b4, .inl (c4, 200, .inl u_5))] H := hP.sub [0, 1, 2, 3, 4] rfl
                        have hD : va_D A [(h, .inr (3, [.ref t0, .ref t1, .ref t2, .ref t3, .ref t4, .ref t5, .ref t6, .ref t7, .ref t8, .ref t9, .int si])), (t0, .inr (2, [.ref b0, .int (nI x0.length)])), (b0, .inl (c0, 200, .inl f0)), (t4, .inr (1, [.ref b4, .int (nI (fr ++ [cnl b t]).length)])), (b4, .inl (c4, 200, .inl u_5))] := hD.sub [0, 1, 2, 3, 4] (by decide) rfl
                        refine lv_iload_n hx hb dX2_wrongInNewKind_102 rfl (lv_at hl 3 rfl) ?_
                        refine lv_iload_n hx hb dX2_wrongInNewKind_103 rfl (lv_at hl 2 rfl) ?_
                        refine vp_callSi (W.runS ⟨hx, hb, hml, hown, hts⟩ (KX2_bytesBehindFirst l (cnl b t)) (va_cwS 1 hts gX2_wrongInNewKind_X2_bytesBehindFirst rfl rfl rfl (by decide +kernel) ⟨Nat.le_of_ble_eq_true rfl, Nat.le_of_ble_eq_true rfl⟩) pcS_S rfl rfl hl.1 rfl (lv_room (Nat.le_of_ble_eq_true rfl)) dX2_wrongInNewKind_104 ⟨Nat.zero_le _, Nat.zero_le _⟩) (fun r9 hr9 => ?_)
                        subst r9
                        refine lv_iadd hx hb dX2_wrongInNewKind_107 ?_
                        refine lv_istore_n (lv' := [(1, .int (y1 + (fX2_bytesBehindFirst (cnl b t)))), (4, .int 0), (3, .int 1), (2, .int (cnl b t)), (0, .ref h)]) hx hb dX2_wrongInNewKind_108 rfl hl (by decide) rfl (fun ls hl => ?_)
                        refine lv_iinc (v := ((y1 + (fX2_bytesBehindFirst (cnl b t))) + 1)) (lv' := [(1, .int ((y1 + (fX2_bytesBehindFirst (cnl b t))) + 1)), (4, .int 0), (3, .int 1), (2, .int (cnl b t)), (0, .ref h)]) hx hb dX2_wrongInNewKind_109 hl (k := 0) rfl rfl (by decide) rfl (fun ls hl => ?_)
                        refine lv_goto (tgt := 2) hx hb dX2_wrongInNewKind_112 (by decide) ?_
                        have hk : nwk (cnl b t) fr.length = true := by simp [nwk, c23_1, c31_1, c38_1, c51_4, d89]
                        have h2 := new_len hk
                        exact ih (t.drop (bbN (cnl b t))) (done ++ b :: t.take (bbN (cnl b t))) _ u_5 _ H locs ls (by simp at hn ⊢; omega) (by rw [hcs]; simp) (by rw [← hT]; simp [rnS, hk]; congr 1; (try rw [Nat.min_eq_left h2]); (try omega)) (by rw [e1, bbN_eq, nI_add, nI_1]; congr 1; simp; omega) hw_5 (by simp; omega) hP hD hS (lv_sub hl [0, 4] rfl)
                      · skip
                        have d89 : ¬ fr.length < 100 := fun q => c89_5 ((nI_lt100 (by omega)).mpr q)
                        refine lv_iload_n hx hb dX2_wrongInNewKind_92 rfl (lv_at hl 3 rfl) ?_
                        have hk : ¬ nwk (cnl b t) fr.length = true := by simp [nwk, c23_1, c31_1, c38_1, c51_4, d89]
                        have e8 : (y1, fr) = T := by rw [← hT, e1]; simp [rnS, hk]
                        have e9 : fr = T.2 := by rw [← e8]
                        rw [e9] at o4 hP hD
                        exact rtI hx hb hr hlocks dX2_wrongInNewKind_93 f4 ⟨by rw [← e8], o4⟩ hP hD hS
                · skip
                  refine lv_aload_n hx hb dX2_wrongInNewKind_54 rfl (lv_at hl 3 rfl) ?_
                  refine va_get (D := D) (ci := 3) (v := .ref t4) (C := RX2) (T := TX2) (N := 11) hx hb hts (by decide +kernel) hown hK hP 0 rfl rfl 4 (by decide) (hts (.fieldLink RX2 31 "CharacterRows" "fresh" "LCharacterRows$Codes;") (by decide +kernel)) (fun _ h9 => h9) rfl dX2_wrongInNewKind_55 ?_
                  refine va_getN (D := D) (ci := 1) (v := .int (nI fr.length)) (C := RX0) (T := TX0) (N := 2) hx hb hts (by decide +kernel) hown hK hP 3 rfl rfl 1 (by decide) (va_Nw.use rfl (nst_at hN 1 rfl)) (fun _ h9 => h9) rfl dX2_wrongInNewKind_58 ?_
                  refine lv_if_ne (tgt := 68) hx hb dX2_wrongInNewKind_61 (by decide) (fun c61_4 => ?_) (fun c61_4 => ?_)
                  · skip
                    have d61 : ¬ fr.length = 0 := fun q => c61_4 ((nI_0iff (by omega)).mpr q)
                    refine lv_iconst (v := 0) hx hb dX2_wrongInNewKind_68 (by decide) ?_
                    refine lv_istore (lv' := [(4, .int 0), (3, .int 1), (2, .int (cnl b t)), (1, .int y1), (0, .ref h)]) hx hb dX2_wrongInNewKind_69 hl (by decide) rfl (fun ls hl => ?_)
                    refine lv_iload_n hx hb dX2_wrongInNewKind_71 rfl (lv_at hl 1 rfl) ?_
                    refine lv_if_eq (tgt := 92) hx hb dX2_wrongInNewKind_72 (by decide) (fun c72_11 => ?_) (fun c72_11 => ?_)
                    · exact absurd c72_11 (by decide)
                    · skip
                      refine lv_iload hx hb dX2_wrongInNewKind_75 (lv_at hl 0 rfl) ?_
                      refine lv_if_ne (tgt := 92) hx hb dX2_wrongInNewKind_77 (by decide) (fun c77_8 => ?_) (fun c77_8 => ?_)
                      · exact absurd c77_8 (by decide)
                      · skip
                        refine lv_aload_n hx hb dX2_wrongInNewKind_80 rfl (lv_at hl 4 rfl) ?_
                        refine va_get (D := D) (ci := 3) (v := .ref t4) (C := RX2) (T := TX2) (N := 11) hx hb hts (by decide +kernel) hown hK hP 0 rfl rfl 4 (by decide) (hts (.fieldLink RX2 31 "CharacterRows" "fresh" "LCharacterRows$Codes;") (by decide +kernel)) (fun _ h9 => h9) rfl dX2_wrongInNewKind_81 ?_
                        refine va_getN (D := D) (ci := 1) (v := .int (nI fr.length)) (C := RX0) (T := TX0) (N := 2) hx hb hts (by decide +kernel) hown hK hP 3 rfl rfl 1 (by decide) (va_Nw.use rfl (nst_at hN 1 rfl)) (fun _ h9 => h9) rfl dX2_wrongInNewKind_84 ?_
                        refine lv_bipush (v := 100) hx hb dX2_wrongInNewKind_87 (by decide) ?_
                        refine lv_icmp_lt (tgt := 94) hx hb dX2_wrongInNewKind_89 (by decide) (fun c89_6 => ?_) (fun c89_6 => ?_)
                        · skip
                          have d89 : fr.length < 100 := (nI_lt100 (by omega)).mp c89_6
                          refine lv_aload_n hx hb dX2_wrongInNewKind_94 rfl (lv_at hl 4 rfl) ?_
                          refine va_get (D := D) (ci := 3) (v := .ref t4) (C := RX2) (T := TX2) (N := 11) hx hb hts (by decide +kernel) hown hK hP 0 rfl rfl 4 (by decide) (hts (.fieldLink RX2 31 "CharacterRows" "fresh" "LCharacterRows$Codes;") (by decide +kernel)) (fun _ h9 => h9) rfl dX2_wrongInNewKind_95 ?_
                          refine lv_iload_n hx hb dX2_wrongInNewKind_98 rfl (lv_at hl 2 rfl) ?_
                          refine clV (wr := [(h, .inr (3, [.ref t0, .ref t1, .ref t2, .ref t3, .ref t4, .ref t5, .ref t6, .ref t7, .ref t8, .ref t9, .int si])), (t0, .inr (2, [.ref b0, .int (nI x0.length)])), (b0, .inl (c0, 200, .inl f0))]) (va_runV ⟨hx, hb, hml, hown, hts⟩ (KX0_add l D t4 b4 c4 f4 fr o4 (cnl b t) _) (cwV 1 hts gX2_wrongInNewKind_X0_add rfl rfl rfl (by decide +kernel) ⟨Nat.le_of_ble_eq_true rfl, Nat.le_of_ble_eq_true rfl⟩) (pcM_V (hP.sub (ws' := [(t4, .inr (1, [.ref b4, .int (nI fr.length)])), (b4, .inl (c4, 200, .inl f4))]) [3, 4] rfl) (hD.sub (ws' := [(t4, .inr (1, [.ref b4, .int (nI fr.length)])), (b4, .inl (c4, 200, .inl f4))]) [3, 4] (by decide) rfl) (hK.sub (tys' := [(c4, .int)]) [1] rfl) hN 0 rfl rfl) rfl rfl hl.1 rfl (lv_room (Nat.le_of_ble_eq_true rfl)) dX2_wrongInNewKind_99 ⟨Nat.zero_le _, Nat.zero_le _⟩) hP hD hS hA [3, 4] [0, 1, 2] rfl rfl (by decide) (by decide) (fun u_6 H locs hw_6 hP hD hS => ?_)
                          have e9_6 : (rw_add 200 fr (cnl b t)) = (fr ++ [cnl b t]) := (rw_add_lt (by omega))
                          rw [e9_6] at hw_6 hP hD
                          have hP : va_P D vwCl [(h, .inr (3, [.ref t0, .ref t1, .ref t2, .ref t3, .ref t4, .ref t5, .ref t6, .ref t7, .ref t8, .ref t9, .int si])), (t0, .inr (2, [.ref b0, .int (nI x0.length)])), (b0, .inl (c0, 200, .inl f0)), (t4, .inr (1, [.ref b4, .int (nI (fr ++ [cnl b t]).length)])), (b4, .inl (c4, 200, .inl u_6))] H := hP.sub [0, 1, 2, 3, 4] rfl
                          have hD : va_D A [(h, .inr (3, [.ref t0, .ref t1, .ref t2, .ref t3, .ref t4, .ref t5, .ref t6, .ref t7, .ref t8, .ref t9, .int si])), (t0, .inr (2, [.ref b0, .int (nI x0.length)])), (b0, .inl (c0, 200, .inl f0)), (t4, .inr (1, [.ref b4, .int (nI (fr ++ [cnl b t]).length)])), (b4, .inl (c4, 200, .inl u_6))] := hD.sub [0, 1, 2, 3, 4] (by decide) rfl
                          refine lv_iload_n hx hb dX2_wrongInNewKind_102 rfl (lv_at hl 3 rfl) ?_
                          refine lv_iload_n hx hb dX2_wrongInNewKind_103 rfl (lv_at hl 2 rfl) ?_
                          refine vp_callSi (W.runS ⟨hx, hb, hml, hown, hts⟩ (KX2_bytesBehindFirst l (cnl b t)) (va_cwS 1 hts gX2_wrongInNewKind_X2_bytesBehindFirst rfl rfl rfl (by decide +kernel) ⟨Nat.le_of_ble_eq_true rfl, Nat.le_of_ble_eq_true rfl⟩) pcS_S rfl rfl hl.1 rfl (lv_room (Nat.le_of_ble_eq_true rfl)) dX2_wrongInNewKind_104 ⟨Nat.zero_le _, Nat.zero_le _⟩) (fun r9 hr9 => ?_)
                          subst r9
                          refine lv_iadd hx hb dX2_wrongInNewKind_107 ?_
                          refine lv_istore_n (lv' := [(1, .int (y1 + (fX2_bytesBehindFirst (cnl b t)))), (4, .int 0), (3, .int 1), (2, .int (cnl b t)), (0, .ref h)]) hx hb dX2_wrongInNewKind_108 rfl hl (by decide) rfl (fun ls hl => ?_)
                          refine lv_iinc (v := ((y1 + (fX2_bytesBehindFirst (cnl b t))) + 1)) (lv' := [(1, .int ((y1 + (fX2_bytesBehindFirst (cnl b t))) + 1)), (4, .int 0), (3, .int 1), (2, .int (cnl b t)), (0, .ref h)]) hx hb dX2_wrongInNewKind_109 hl (k := 0) rfl rfl (by decide) rfl (fun ls hl => ?_)
                          refine lv_goto (tgt := 2) hx hb dX2_wrongInNewKind_112 (by decide) ?_
                          have hk : nwk (cnl b t) fr.length = true := by simp [nwk, c23_1, c31_1, c38_1, c51_4, d61, d89]
                          have h2 := new_len hk
                          exact ih (t.drop (bbN (cnl b t))) (done ++ b :: t.take (bbN (cnl b t))) _ u_6 _ H locs ls (by simp at hn ⊢; omega) (by rw [hcs]; simp) (by rw [← hT]; simp [rnS, hk]; congr 1; (try rw [Nat.min_eq_left h2]); (try omega)) (by rw [e1, bbN_eq, nI_add, nI_1]; congr 1; simp; omega) hw_6 (by simp; omega) hP hD hS (lv_sub hl [0, 4] rfl)
                        · skip
                          have d89 : ¬ fr.length < 100 := fun q => c89_6 ((nI_lt100 (by omega)).mpr q)
                          refine lv_iload_n hx hb dX2_wrongInNewKind_92 rfl (lv_at hl 3 rfl) ?_
                          have hk : ¬ nwk (cnl b t) fr.length = true := by simp [nwk, c23_1, c31_1, c38_1, c51_4, d61, d89]
                          have e8 : (y1, fr) = T := by rw [← hT, e1]; simp [rnS, hk]
                          have e9 : fr = T.2 := by rw [← e8]
                          rw [e9] at o4 hP hD
                          exact rtI hx hb hr hlocks dX2_wrongInNewKind_93 f4 ⟨by rw [← e8], o4⟩ hP hD hS
                  · skip
                    have d61 : fr.length = 0 := (nI_0iff (by omega)).mp c61_4
                    refine lv_iconst (v := 1) hx hb dX2_wrongInNewKind_64 (by decide) ?_
                    refine lv_goto (tgt := 69) hx hb dX2_wrongInNewKind_65 (by decide) ?_
                    refine lv_istore (lv' := [(4, .int 1), (3, .int 1), (2, .int (cnl b t)), (1, .int y1), (0, .ref h)]) hx hb dX2_wrongInNewKind_69 hl (by decide) rfl (fun ls hl => ?_)
                    refine lv_iload_n hx hb dX2_wrongInNewKind_71 rfl (lv_at hl 1 rfl) ?_
                    refine lv_if_eq (tgt := 92) hx hb dX2_wrongInNewKind_72 (by decide) (fun c72_12 => ?_) (fun c72_12 => ?_)
                    · exact absurd c72_12 (by decide)
                    · skip
                      refine lv_iload hx hb dX2_wrongInNewKind_75 (lv_at hl 0 rfl) ?_
                      refine lv_if_ne (tgt := 92) hx hb dX2_wrongInNewKind_77 (by decide) (fun c77_9 => ?_) (fun c77_9 => ?_)
                      · skip
                        refine lv_iload_n hx hb dX2_wrongInNewKind_92 rfl (lv_at hl 3 rfl) ?_
                        have hk : ¬ nwk (cnl b t) fr.length = true := by simp [nwk, c23_1, c31_1, c38_1, c51_4, d61]
                        have e8 : (y1, fr) = T := by rw [← hT, e1]; simp [rnS, hk]
                        have e9 : fr = T.2 := by rw [← e8]
                        rw [e9] at o4 hP hD
                        exact rtI hx hb hr hlocks dX2_wrongInNewKind_93 f4 ⟨by rw [← e8], o4⟩ hP hD hS
                      · exact absurd c77_9 (by decide)
  exact loop ((ox_u x0).length + 1) (ox_u x0) [] [] f4 _ _ _ ls (Nat.lt_succ_self _) rfl hT rfl o4 (Nat.zero_le _) hP hD hS (lv_sub hl [0, 1] rfl)
set_option maxHeartbeats 4000000 in
set_option maxRecDepth 100000 in
theorem KX2_writeNewKind (l : Launch) (D : va_G) (h t0 t1 t2 t3 t4 t5 t6 t7 t8 t9 : Nat) (si : Int32) (b1 : Nat) (c1 : ClassId) (f1 : Nat → Int32) (x1 : List Int32) (o1 : rw_ok f1 400 x1) (b2 : Nat) (c2 : ClassId) (f2 : Nat → Int32) (x2 : List Int32) (o2 : rw_ok f2 200 x2) (T : List Int32) (hT : (x2.flatMap wnb).foldl (oadd 400) x1 = T) (sz : Nat) : Met l yX2_writeNewKind wsX2_writeNewKind ({ frames := 2, cells := 0, slots := 0, locals := 43 }) (pcM D sz [(h, .inr (3, [.ref t0, .ref t1, .ref t2, .ref t3, .ref t4, .ref t5, .ref t6, .ref t7, .ref t8, .ref t9, .int si])), (t1, .inr (2, [.ref b1, .int (nI x1.length)])), (b1, .inl (c1, 400, .inl f1)), (t2, .inr (1, [.ref b2, .int (nI x2.length)])), (b2, .inl (c2, 200, .inl f2))] [(c1, .byte), (c2, .int)] [.ref h]) (qcV (S := Nat → Int32) D (fun u => rw_ok u 400 T) (fun u => [(h, .inr (3, [.ref t0, .ref t1, .ref t2, .ref t3, .ref t4, .ref t5, .ref t6, .ref t7, .ref t8, .ref t9, .int si])), (t1, .inr (2, [.ref b1, .int (nI T.length)])), (b1, .inl (c1, 400, .inl u)), (t2, .inr (1, [.ref b2, .int (nI x2.length)])), (b2, .inl (c2, 200, .inl f2))]) (va_A [(h, .inr (3, [.ref t0, .ref t1, .ref t2, .ref t3, .ref t4, .ref t5, .ref t6, .ref t7, .ref t8, .ref t9, .int si])), (t1, .inr (2, [.ref b1, .int (nI x1.length)])), (b1, .inl (c1, 400, .inl f1)), (t2, .inr (1, [.ref b2, .int (nI x2.length)])), (b2, .inl (c2, 200, .inl f2))] sz)) 0 0 (va_A [(h, .inr (3, [.ref t0, .ref t1, .ref t2, .ref t3, .ref t4, .ref t5, .ref t6, .ref t7, .ref t8, .ref t9, .int si])), (t1, .inr (2, [.ref b1, .int (nI x1.length)])), (b1, .inl (c1, 400, .inl f1)), (t2, .inr (1, [.ref b2, .int (nI x2.length)])), (b2, .inl (c2, 200, .inl f2))] sz) := by
  refine ofM (Qc := fun A => qcV (S := Nat → Int32) D (fun u => rw_ok u 400 T) (fun u => [(h, .inr (3, [.ref t0, .ref t1, .ref t2, .ref t3, .ref t4, .ref t5, .ref t6, .ref t7, .ref t8, .ref t9, .int si])), (t1, .inr (2, [.ref b1, .int (nI T.length)])), (b1, .inl (c1, 400, .inl u)), (t2, .inr (1, [.ref b2, .int (nI x2.length)])), (b2, .inl (c2, 200, .inl f2))]) A) (cc := cX2_writeNewKind) (maxL := 2) (ret := none) (by decide) rfl (Nat.le_of_ble_eq_true rfl) ?_
  intro p e s m below meth c ls A hx hb hr hml hown hts hlocks hnm hP hK hN hD hA hS hl
  have hl : lv_has ls 2 [(0, .ref h)] := hl
  refine lv_iconst (v := 0) hx hb dX2_writeNewKind_0 (by decide) ?_
  refine lv_istore_n (lv' := [(1, .int 0), (0, .ref h)]) hx hb dX2_writeNewKind_1 rfl hl (by decide) rfl (fun ls hl => ?_)
  have loop : ∀ (rest : List Int32) (done wr : List Int32) (f1 : Nat → Int32) (y1 : Int32) (H : Heap) (locs : List Loc) (ls : Array Slot), x2 = done ++ rest → y1 = nI done.length → (rest.flatMap wnb).foldl (oadd 400) wr = T → rw_ok f1 400 wr → va_P D vwCl [(h, .inr (3, [.ref t0, .ref t1, .ref t2, .ref t3, .ref t4, .ref t5, .ref t6, .ref t7, .ref t8, .ref t9, .int si])), (t1, .inr (2, [.ref b1, .int (nI wr.length)])), (b1, .inl (c1, 400, .inl f1)), (t2, .inr (1, [.ref b2, .int (nI x2.length)])), (b2, .inl (c2, 200, .inl f2))] H → va_D A [(h, .inr (3, [.ref t0, .ref t1, .ref t2, .ref t3, .ref t4, .ref t5, .ref t6, .ref t7, .ref t8, .ref t9, .int si])), (t1, .inr (2, [.ref b1, .int (nI wr.length)])), (b1, .inl (c1, 400, .inl f1)), (t2, .inr (1, [.ref b2, .int (nI x2.length)])), (b2, .inl (c2, 200, .inl f2))] → va_S A s.heap H locs → lv_has ls 2 [(1, .int y1), (0, .ref h)] → W p l e ({ frames := 2, cells := 0, slots := 0, locals := 43 }) s m ([.ref h] : List Value).toArray below meth c H locs 0 0 (MQ below (qcV (S := Nat → Int32) D (fun u => rw_ok u 400 T) (fun u => [(h, .inr (3, [.ref t0, .ref t1, .ref t2, .ref t3, .ref t4, .ref t5, .ref t6, .ref t7, .ref t8, .ref t9, .int si])), (t1, .inr (2, [.ref b1, .int (nI T.length)])), (b1, .inl (c1, 400, .inl u)), (t2, .inr (1, [.ref b2, .int (nI x2.length)])), (b2, .inl (c2, 200, .inl f2))]) A) ([.ref h] : List Value).toArray s 0 0 A) (F0 m 2 ls [])  := by
    intro rest
    induction rest with
    | nil =>
      intro done wr f1 y1 H locs ls htx e1 hT o1 hP hD hS hl
      have hln : x2.length = done.length := by rw [htx]; simp
      refine lv_iload_n hx hb dX2_writeNewKind_2 rfl (lv_at hl 0 rfl) ?_
      refine lv_aload_n hx hb dX2_writeNewKind_3 rfl (lv_at hl 1 rfl) ?_
      refine va_get (D := D) (ci := 3) (v := .ref t2) (C := RX2) (T := TX2) (N := 11) hx hb hts (by decide +kernel) hown hK hP 0 rfl rfl 2 (by decide) (hts (.fieldLink RX2 24 "CharacterRows" "text" "LCharacterRows$Codes;") (by decide +kernel)) (fun _ h9 => h9) rfl dX2_writeNewKind_4 ?_
      refine va_getN (D := D) (ci := 1) (v := .int (nI x2.length)) (C := RX0) (T := TX0) (N := 2) hx hb hts (by decide +kernel) hown hK hP 3 rfl rfl 1 (by decide) (va_Nw.use rfl (nst_at hN 1 rfl)) (fun _ h9 => h9) rfl dX2_writeNewKind_7 ?_
      refine lv_icmp_ge (tgt := 31) hx hb dX2_writeNewKind_10 (by decide) (fun c10_1 => ?_) (fun c10_1 => ?_)
      · skip
        have e8 : wr = T := by rw [← hT]; rfl
        rw [e8] at o1 hP hD
        exact rtV hx hb hr hlocks dX2_writeNewKind_31 f1 o1 hP hD hS
      · skip
        exact absurd (by rw [e1, hln]; exact Int32.le_refl _) c10_1
    | cons d t ih =>
      intro done wr f1 y1 H locs ls htx e1 hT o1 hP hD hS hl
      have hln : x2.length = done.length + (t.length + 1) := by rw [htx]; simp
      have h200 := o2.1
      refine lv_iload_n hx hb dX2_writeNewKind_2 rfl (lv_at hl 0 rfl) ?_
      refine lv_aload_n hx hb dX2_writeNewKind_3 rfl (lv_at hl 1 rfl) ?_
      refine va_get (D := D) (ci := 3) (v := .ref t2) (C := RX2) (T := TX2) (N := 11) hx hb hts (by decide +kernel) hown hK hP 0 rfl rfl 2 (by decide) (hts (.fieldLink RX2 24 "CharacterRows" "text" "LCharacterRows$Codes;") (by decide +kernel)) (fun _ h9 => h9) rfl dX2_writeNewKind_4 ?_
      refine va_getN (D := D) (ci := 1) (v := .int (nI x2.length)) (C := RX0) (T := TX0) (N := 2) hx hb hts (by decide +kernel) hown hK hP 3 rfl rfl 1 (by decide) (va_Nw.use rfl (nst_at hN 1 rfl)) (fun _ h9 => h9) rfl dX2_writeNewKind_7 ?_
      refine lv_icmp_ge (tgt := 31) hx hb dX2_writeNewKind_10 (by decide) (fun c10_2 => ?_) (fun c10_2 => ?_)
      · skip
        exact absurd c10_2 (by rw [e1, hln]; exact nI_ge (by omega) (by omega))
      · skip
        refine lv_aload_n hx hb dX2_writeNewKind_13 rfl (lv_at hl 1 rfl) ?_
        refine lv_aload_n hx hb dX2_writeNewKind_14 rfl (lv_at hl 1 rfl) ?_
        refine va_get (D := D) (ci := 3) (v := .ref t2) (C := RX2) (T := TX2) (N := 11) hx hb hts (by decide +kernel) hown hK hP 0 rfl rfl 2 (by decide) (hts (.fieldLink RX2 24 "CharacterRows" "text" "LCharacterRows$Codes;") (by decide +kernel)) (fun _ h9 => h9) rfl dX2_writeNewKind_15 ?_
        refine lv_iload_n hx hb dX2_writeNewKind_18 rfl (lv_at hl 0 rfl) ?_
        refine vp_callSi (W.runV ⟨hx, hb, hml, hown, hts⟩ (KX0_at l D t2 b2 c2 f2 x2 o2 y1) (cwV 1 hts gX2_writeNewKind_X0_at rfl rfl rfl (by decide +kernel) ⟨Nat.le_of_ble_eq_true rfl, Nat.le_of_ble_eq_true rfl⟩) (pcR_V (hP.sub (ws' := [(t2, .inr (1, [.ref b2, .int (nI x2.length)])), (b2, .inl (c2, 200, .inl f2))]) [3, 4] rfl) (hK.sub (tys' := [(c2, .int)]) [1] rfl) hN 0 rfl rfl) rfl rfl hl.1 rfl (lv_room (Nat.le_of_ble_eq_true rfl)) dX2_writeNewKind_19 ⟨Nat.zero_le _, Nat.zero_le _⟩) (fun r9 hr9 => ?_)
        replace hr9 : r9 = d := hr9.trans (by rw [htx, e1]; exact rw_at_k rfl (by omega))
        subst r9
        refine clV (wr := [(t2, .inr (1, [.ref b2, .int (nI x2.length)])), (b2, .inl (c2, 200, .inl f2))]) (va_runV ⟨hx, hb, hml, hown, hts⟩ (KX2_writeNewCode l D h t0 t1 t2 t3 t4 t5 t6 t7 t8 t9 si b1 c1 f1 wr o1 d _) (cwV 1 hts gX2_writeNewKind_X2_writeNewCode rfl rfl rfl (by decide +kernel) ⟨Nat.le_of_ble_eq_true rfl, Nat.le_of_ble_eq_true rfl⟩) (pcM_V (hP.sub (ws' := [(h, .inr (3, [.ref t0, .ref t1, .ref t2, .ref t3, .ref t4, .ref t5, .ref t6, .ref t7, .ref t8, .ref t9, .int si])), (t1, .inr (2, [.ref b1, .int (nI wr.length)])), (b1, .inl (c1, 400, .inl f1))]) [0, 1, 2] rfl) (hD.sub (ws' := [(h, .inr (3, [.ref t0, .ref t1, .ref t2, .ref t3, .ref t4, .ref t5, .ref t6, .ref t7, .ref t8, .ref t9, .int si])), (t1, .inr (2, [.ref b1, .int (nI wr.length)])), (b1, .inl (c1, 400, .inl f1))]) [0, 1, 2] (by decide) rfl) (hK.sub (tys' := [(c1, .byte)]) [0] rfl) hN 0 rfl rfl) rfl rfl hl.1 rfl (lv_room (Nat.le_of_ble_eq_true rfl)) dX2_writeNewKind_22 ⟨Nat.zero_le _, Nat.zero_le _⟩) hP hD hS hA [0, 1, 2] [3, 4] rfl rfl (by decide) (by decide) (fun u_1 H locs hw_1 hP hD hS => ?_)
        have hP : va_P D vwCl [(h, .inr (3, [.ref t0, .ref t1, .ref t2, .ref t3, .ref t4, .ref t5, .ref t6, .ref t7, .ref t8, .ref t9, .int si])), (t1, .inr (2, [.ref b1, .int (nI ((wnb d).foldl (oadd 400) wr).length)])), (b1, .inl (c1, 400, .inl u_1)), (t2, .inr (1, [.ref b2, .int (nI x2.length)])), (b2, .inl (c2, 200, .inl f2))] H := hP.sub [2, 3, 4, 0, 1] rfl
        have hD : va_D A [(h, .inr (3, [.ref t0, .ref t1, .ref t2, .ref t3, .ref t4, .ref t5, .ref t6, .ref t7, .ref t8, .ref t9, .int si])), (t1, .inr (2, [.ref b1, .int (nI ((wnb d).foldl (oadd 400) wr).length)])), (b1, .inl (c1, 400, .inl u_1)), (t2, .inr (1, [.ref b2, .int (nI x2.length)])), (b2, .inl (c2, 200, .inl f2))] := hD.sub [2, 3, 4, 0, 1] (by decide) rfl
        refine lv_iinc (v := (y1 + 1)) (lv' := [(1, .int (y1 + 1)), (0, .ref h)]) hx hb dX2_writeNewKind_25 hl (k := 0) rfl rfl (by decide) rfl (fun ls hl => ?_)
        refine lv_goto (tgt := 2) hx hb dX2_writeNewKind_28 (by decide) ?_
        exact ih (done ++ [d]) _ u_1 _ H locs ls (by rw [htx]; simp) (by rw [e1, List.length_append]; exact nI_1 _) (by rw [← hT]; simp) hw_1 hP hD hS (lv_sub hl [0, 1] rfl)
  exact loop x2 [] x1 f1 _ _ _ ls rfl rfl hT o1 hP hD hS (lv_sub hl [0, 1] rfl)
theorem gd_take {t md ms : List Int32} {c0 d : Int32} {k : Nat} (h : t.take k = md ++ d :: ms) : gd (c0 :: t) (md.length + 1) = d := by
  have h1 : t = (md ++ d :: ms) ++ t.drop k := by rw [← h, List.take_append_drop]
  rw [h1]
  simp [gd, List.getD]
set_option maxHeartbeats 4000000 in
set_option maxRecDepth 100000 in
theorem KX2_writeOldKind (l : Launch) (D : va_G) (h t0 t1 t2 t3 t4 t5 t6 t7 t8 t9 : Nat) (si : Int32) (b1 : Nat) (c1 : ClassId) (f1 : Nat → Int32) (x1 : List Int32) (o1 : rw_ok f1 400 x1) (b2 : Nat) (c2 : ClassId) (f2 : Nat → Int32) (x2 : List Int32) (o2 : rw_ok f2 200 x2) (b8 : Nat) (c8 : ClassId) (f8 : Nat → Int32) (x8 : List Int32) (o8 : rw_ok f8 200 x8) (b9 : Nat) (c9 : ClassId) (f9 : Nat → Int32) (x9 : List Int32) (o9 : rw_ok f9 200 x9) (h100 : x2.length ≤ 100) (hx8 : x8.length ≤ 0) (hx9 : x9.length ≤ 0) (TB TC TP : List Int32) (hB : ((woS si x2 0 0 1).1).foldl (oadd 400) x1 = TB) (hC : x8 ++ (woS si x2 0 0 1).2.1 = TC) (hQ : x9 ++ (woS si x2 0 0 1).2.2 = TP) (sz : Nat) : Met l yX2_writeOldKind wsX2_writeOldKind ({ frames := 3, cells := 0, slots := 0, locals := 63 }) (pcM D sz [(h, .inr (3, [.ref t0, .ref t1, .ref t2, .ref t3, .ref t4, .ref t5, .ref t6, .ref t7, .ref t8, .ref t9, .int si])), (t1, .inr (2, [.ref b1, .int (nI x1.length)])), (b1, .inl (c1, 400, .inl f1)), (t2, .inr (1, [.ref b2, .int (nI x2.length)])), (b2, .inl (c2, 200, .inl f2)), (t8, .inr (1, [.ref b8, .int (nI x8.length)])), (b8, .inl (c8, 200, .inl f8)), (t9, .inr (1, [.ref b9, .int (nI x9.length)])), (b9, .inl (c9, 200, .inl f9))] [(c1, .byte), (c2, .int), (c8, .int), (c9, .int)] [.ref h]) (qcV (S := (Nat → Int32) × (Nat → Int32) × (Nat → Int32)) D (fun u => rw_ok u.1 400 TB ∧ rw_ok u.2.1 200 TC ∧ rw_ok u.2.2 200 TP) (fun u => [(h, .inr (3, [.ref t0, .ref t1, .ref t2, .ref t3, .ref t4, .ref t5, .ref t6, .ref t7, .ref t8, .ref t9, .int si])), (t1, .inr (2, [.ref b1, .int (nI TB.length)])), (b1, .inl (c1, 400, .inl u.1)), (t2, .inr (1, [.ref b2, .int (nI x2.length)])), (b2, .inl (c2, 200, .inl f2)), (t8, .inr (1, [.ref b8, .int (nI TC.length)])), (b8, .inl (c8, 200, .inl u.2.1)), (t9, .inr (1, [.ref b9, .int (nI TP.length)])), (b9, .inl (c9, 200, .inl u.2.2))]) (va_A [(h, .inr (3, [.ref t0, .ref t1, .ref t2, .ref t3, .ref t4, .ref t5, .ref t6, .ref t7, .ref t8, .ref t9, .int si])), (t1, .inr (2, [.ref b1, .int (nI x1.length)])), (b1, .inl (c1, 400, .inl f1)), (t2, .inr (1, [.ref b2, .int (nI x2.length)])), (b2, .inl (c2, 200, .inl f2)), (t8, .inr (1, [.ref b8, .int (nI x8.length)])), (b8, .inl (c8, 200, .inl f8)), (t9, .inr (1, [.ref b9, .int (nI x9.length)])), (b9, .inl (c9, 200, .inl f9))] sz)) 0 0 (va_A [(h, .inr (3, [.ref t0, .ref t1, .ref t2, .ref t3, .ref t4, .ref t5, .ref t6, .ref t7, .ref t8, .ref t9, .int si])), (t1, .inr (2, [.ref b1, .int (nI x1.length)])), (b1, .inl (c1, 400, .inl f1)), (t2, .inr (1, [.ref b2, .int (nI x2.length)])), (b2, .inl (c2, 200, .inl f2)), (t8, .inr (1, [.ref b8, .int (nI x8.length)])), (b8, .inl (c8, 200, .inl f8)), (t9, .inr (1, [.ref b9, .int (nI x9.length)])), (b9, .inl (c9, 200, .inl f9))] sz) := by
  refine ofM (Qc := fun A => qcV (S := (Nat → Int32) × (Nat → Int32) × (Nat → Int32)) D (fun u => rw_ok u.1 400 TB ∧ rw_ok u.2.1 200 TC ∧ rw_ok u.2.2 200 TP) (fun u => [(h, .inr (3, [.ref t0, .ref t1, .ref t2, .ref t3, .ref t4, .ref t5, .ref t6, .ref t7, .ref t8, .ref t9, .int si])), (t1, .inr (2, [.ref b1, .int (nI TB.length)])), (b1, .inl (c1, 400, .inl u.1)), (t2, .inr (1, [.ref b2, .int (nI x2.length)])), (b2, .inl (c2, 200, .inl f2)), (t8, .inr (1, [.ref b8, .int (nI TC.length)])), (b8, .inl (c8, 200, .inl u.2.1)), (t9, .inr (1, [.ref b9, .int (nI TP.length)])), (b9, .inl (c9, 200, .inl u.2.2))]) A) (cc := cX2_writeOldKind) (maxL := 7) (ret := none) (by decide) rfl (Nat.le_of_ble_eq_true rfl) ?_
  intro p e s m below meth c ls A hx hb hr hml hown hts hlocks hnm hP hK hN hD hA hS hl
  have hl : lv_has ls 7 [(0, .ref h)] := hl
  refine lv_iconst (v := 0) hx hb dX2_writeOldKind_0 (by decide) ?_
  refine lv_istore_n (lv' := [(1, .int 0), (0, .ref h)]) hx hb dX2_writeOldKind_1 rfl hl (by decide) rfl (fun ls hl => ?_)
  refine lv_iconst (v := 1) hx hb dX2_writeOldKind_2 (by decide) ?_
  refine lv_istore_n (lv' := [(2, .int 1), (1, .int 0), (0, .ref h)]) hx hb dX2_writeOldKind_3 rfl hl (by decide) rfl (fun ls hl => ?_)
  refine lv_iconst (v := 0) hx hb dX2_writeOldKind_4 (by decide) ?_
  refine lv_istore_n (lv' := [(3, .int 0), (2, .int 1), (1, .int 0), (0, .ref h)]) hx hb dX2_writeOldKind_5 rfl hl (by decide) rfl (fun ls hl => ?_)
  have loop : ∀ (rest : List Int32) (done wr tc tp : List Int32) (f1 f8 f9 : Nat → Int32) (y1 y2 y3 : Int32) (H : Heap) (locs : List Loc) (ls : Array Slot), x2 = done ++ rest → y3 = nI done.length → ((woS si rest done.length y1 y2).1).foldl (oadd 400) wr = TB → tc ++ (woS si rest done.length y1 y2).2.1 = TC → tp ++ (woS si rest done.length y1 y2).2.2 = TP → rw_ok f1 400 wr → rw_ok f8 200 tc → rw_ok f9 200 tp → tc.length ≤ done.length → tp.length ≤ done.length → va_P D vwCl [(h, .inr (3, [.ref t0, .ref t1, .ref t2, .ref t3, .ref t4, .ref t5, .ref t6, .ref t7, .ref t8, .ref t9, .int si])), (t1, .inr (2, [.ref b1, .int (nI wr.length)])), (b1, .inl (c1, 400, .inl f1)), (t2, .inr (1, [.ref b2, .int (nI x2.length)])), (b2, .inl (c2, 200, .inl f2)), (t8, .inr (1, [.ref b8, .int (nI tc.length)])), (b8, .inl (c8, 200, .inl f8)), (t9, .inr (1, [.ref b9, .int (nI tp.length)])), (b9, .inl (c9, 200, .inl f9))] H → va_D A [(h, .inr (3, [.ref t0, .ref t1, .ref t2, .ref t3, .ref t4, .ref t5, .ref t6, .ref t7, .ref t8, .ref t9, .int si])), (t1, .inr (2, [.ref b1, .int (nI wr.length)])), (b1, .inl (c1, 400, .inl f1)), (t2, .inr (1, [.ref b2, .int (nI x2.length)])), (b2, .inl (c2, 200, .inl f2)), (t8, .inr (1, [.ref b8, .int (nI tc.length)])), (b8, .inl (c8, 200, .inl f8)), (t9, .inr (1, [.ref b9, .int (nI tp.length)])), (b9, .inl (c9, 200, .inl f9))] → va_S A s.heap H locs → lv_has ls 7 [(3, .int y3), (2, .int y2), (1, .int y1), (0, .ref h)] → W p l e ({ frames := 3, cells := 0, slots := 0, locals := 63 }) s m ([.ref h] : List Value).toArray below meth c H locs 0 0 (MQ below (qcV (S := (Nat → Int32) × (Nat → Int32) × (Nat → Int32)) D (fun u => rw_ok u.1 400 TB ∧ rw_ok u.2.1 200 TC ∧ rw_ok u.2.2 200 TP) (fun u => [(h, .inr (3, [.ref t0, .ref t1, .ref t2, .ref t3, .ref t4, .ref t5, .ref t6, .ref t7, .ref t8, .ref t9, .int si])), (t1, .inr (2, [.ref b1, .int (nI TB.length)])), (b1, .inl (c1, 400, .inl u.1)), (t2, .inr (1, [.ref b2, .int (nI x2.length)])), (b2, .inl (c2, 200, .inl f2)), (t8, .inr (1, [.ref b8, .int (nI TC.length)])), (b8, .inl (c8, 200, .inl u.2.1)), (t9, .inr (1, [.ref b9, .int (nI TP.length)])), (b9, .inl (c9, 200, .inl u.2.2))]) A) ([.ref h] : List Value).toArray s 0 0 A) (F0 m 6 ls [])  := by
    intro rest
    induction rest with
    | nil =>
      intro done wr tc tp f1 f8 f9 y1 y2 y3 H locs ls htx e3 hB hC hQ o1 o8 o9 htc htp hP hD hS hl
      have hln : x2.length = done.length := by rw [htx]; simp
      refine lv_iload_n hx hb dX2_writeOldKind_6 rfl (lv_at hl 0 rfl) ?_
      refine lv_aload_n hx hb dX2_writeOldKind_7 rfl (lv_at hl 3 rfl) ?_
      refine va_get (D := D) (ci := 3) (v := .ref t2) (C := RX2) (T := TX2) (N := 11) hx hb hts (by decide +kernel) hown hK hP 0 rfl rfl 2 (by decide) (hts (.fieldLink RX2 24 "CharacterRows" "text" "LCharacterRows$Codes;") (by decide +kernel)) (fun _ h9 => h9) rfl dX2_writeOldKind_8 ?_
      refine va_getN (D := D) (ci := 1) (v := .int (nI x2.length)) (C := RX0) (T := TX0) (N := 2) hx hb hts (by decide +kernel) hown hK hP 3 rfl rfl 1 (by decide) (va_Nw.use rfl (nst_at hN 1 rfl)) (fun _ h9 => h9) rfl dX2_writeOldKind_11 ?_
      refine lv_icmp_ge (tgt := 154) hx hb dX2_writeOldKind_14 (by decide) (fun c14_1 => ?_) (fun c14_1 => ?_)
      · skip
        have e81 : wr = TB := by rw [← hB]; rfl
        have e82 : tc = TC := by rw [← hC]; simp [woS]
        have e83 : tp = TP := by rw [← hQ]; simp [woS]
        rw [e81] at o1
        rw [e82] at o8
        rw [e83] at o9
        rw [e81, e82, e83] at hP hD
        exact rtV hx hb hr hlocks dX2_writeOldKind_154 (f1, f8, f9) ⟨o1, o8, o9⟩ hP hD hS
      · skip
        exact absurd (by rw [e3, hln]; exact Int32.le_refl _) c14_1
    | cons c0 t ih =>
      intro done wr tc tp f1 f8 f9 y1 y2 y3 H locs ls htx e3 hB hC hQ o1 o8 o9 htc htp hP hD hS hl
      have hln : x2.length = done.length + (t.length + 1) := by rw [htx]; simp
      have hlk := lmk_le t
      refine lv_iload_n hx hb dX2_writeOldKind_6 rfl (lv_at hl 0 rfl) ?_
      refine lv_aload_n hx hb dX2_writeOldKind_7 rfl (lv_at hl 3 rfl) ?_
      refine va_get (D := D) (ci := 3) (v := .ref t2) (C := RX2) (T := TX2) (N := 11) hx hb hts (by decide +kernel) hown hK hP 0 rfl rfl 2 (by decide) (hts (.fieldLink RX2 24 "CharacterRows" "text" "LCharacterRows$Codes;") (by decide +kernel)) (fun _ h9 => h9) rfl dX2_writeOldKind_8 ?_
      refine va_getN (D := D) (ci := 1) (v := .int (nI x2.length)) (C := RX0) (T := TX0) (N := 2) hx hb hts (by decide +kernel) hown hK hP 3 rfl rfl 1 (by decide) (va_Nw.use rfl (nst_at hN 1 rfl)) (fun _ h9 => h9) rfl dX2_writeOldKind_11 ?_
      refine lv_icmp_ge (tgt := 154) hx hb dX2_writeOldKind_14 (by decide) (fun c14_2 => ?_) (fun c14_2 => ?_)
      · skip
        exact absurd c14_2 (by rw [e3, hln]; exact nI_ge (by omega) (by omega))
      · skip
        refine lv_aload_n hx hb dX2_writeOldKind_17 rfl (lv_at hl 3 rfl) ?_
        refine va_get (D := D) (ci := 3) (v := .ref t2) (C := RX2) (T := TX2) (N := 11) hx hb hts (by decide +kernel) hown hK hP 0 rfl rfl 2 (by decide) (hts (.fieldLink RX2 24 "CharacterRows" "text" "LCharacterRows$Codes;") (by decide +kernel)) (fun _ h9 => h9) rfl dX2_writeOldKind_18 ?_
        refine lv_iload_n hx hb dX2_writeOldKind_21 rfl (lv_at hl 0 rfl) ?_
        refine vp_callSi (W.runV ⟨hx, hb, hml, hown, hts⟩ (KX0_at l D t2 b2 c2 f2 x2 o2 y3) (cwV 1 hts gX2_writeOldKind_X0_at rfl rfl rfl (by decide +kernel) ⟨Nat.le_of_ble_eq_true rfl, Nat.le_of_ble_eq_true rfl⟩) (pcR_V (hP.sub (ws' := [(t2, .inr (1, [.ref b2, .int (nI x2.length)])), (b2, .inl (c2, 200, .inl f2))]) [3, 4] rfl) (hK.sub (tys' := [(c2, .int)]) [1] rfl) hN 0 rfl rfl) rfl rfl hl.1 rfl (lv_room (Nat.le_of_ble_eq_true rfl)) dX2_writeOldKind_22 ⟨Nat.zero_le _, Nat.zero_le _⟩) (fun r9 hr9 => ?_)
        replace hr9 : r9 = c0 := hr9.trans (by rw [htx, e3]; exact rw_at_k rfl (by omega))
        subst r9
        refine lv_istore (lv' := [(4, .int c0), (3, .int y3), (2, .int y2), (1, .int y1), (0, .ref h)]) hx hb dX2_writeOldKind_25 hl (by decide) rfl (fun ls hl => ?_)
        refine lv_iload hx hb dX2_writeOldKind_27 (lv_at hl 0 rfl) ?_
        refine vp_callSi (W.runS ⟨hx, hb, hml, hown, hts⟩ (KX2_isMark l c0) (va_cwS 1 hts gX2_writeOldKind_X2_isMark rfl rfl rfl (by decide +kernel) ⟨Nat.le_of_ble_eq_true rfl, Nat.le_of_ble_eq_true rfl⟩) pcS_S rfl rfl hl.1 rfl (lv_room (Nat.le_of_ble_eq_true rfl)) dX2_writeOldKind_29 ⟨Nat.zero_le _, Nat.zero_le _⟩) (fun r9 hr9 => ?_)
        subst r9
        refine lv_if_eq (tgt := 49) hx hb dX2_writeOldKind_32 (by decide) (fun c32_1 => ?_) (fun c32_1 => ?_)
        · skip
          refine lv_iload hx hb dX2_writeOldKind_49 (lv_at hl 0 rfl) ?_
          refine vp_callSi (W.runS ⟨hx, hb, hml, hown, hts⟩ (KX2_isPlain l c0) (va_cwS 1 hts gX2_writeOldKind_X2_isPlain rfl rfl rfl (by decide +kernel) ⟨Nat.le_of_ble_eq_true rfl, Nat.le_of_ble_eq_true rfl⟩) pcS_S rfl rfl hl.1 rfl (lv_room (Nat.le_of_ble_eq_true rfl)) dX2_writeOldKind_51 ⟨Nat.zero_le _, Nat.zero_le _⟩) (fun r9 hr9 => ?_)
          subst r9
          refine lv_if_ne (tgt := 70) hx hb dX2_writeOldKind_54 (by decide) (fun c54_1 => ?_) (fun c54_1 => ?_)
          · skip
            refine lv_iconst (v := 0) hx hb dX2_writeOldKind_70 (by decide) ?_
            refine lv_istore_n (lv' := [(2, .int 0), (4, .int c0), (3, .int y3), (1, .int y1), (0, .ref h)]) hx hb dX2_writeOldKind_71 rfl hl (by decide) rfl (fun ls hl => ?_)
            refine lv_iload_n hx hb dX2_writeOldKind_72 rfl (lv_at hl 0 rfl) ?_
            refine lv_if_eq (tgt := 97) hx hb dX2_writeOldKind_73 (by decide) (fun c73_1 => ?_) (fun c73_1 => ?_)
            · skip
              refine lv_aload_n hx hb dX2_writeOldKind_97 rfl (lv_at hl 4 rfl) ?_
              refine va_get (D := D) (ci := 3) (v := .ref t2) (C := RX2) (T := TX2) (N := 11) hx hb hts (by decide +kernel) hown hK hP 0 rfl rfl 2 (by decide) (hts (.fieldLink RX2 24 "CharacterRows" "text" "LCharacterRows$Codes;") (by decide +kernel)) (fun _ h9 => h9) rfl dX2_writeOldKind_98 ?_
              refine lv_iload_n hx hb dX2_writeOldKind_101 rfl (lv_at hl 2 rfl) ?_
              refine vp_callSi (W.runV ⟨hx, hb, hml, hown, hts⟩ (KX0_marksBehind l D t2 b2 c2 f2 x2 o2 (done ++ [c0]) t (by rw [htx]; simp) y3 (by rw [e3, List.length_append]; exact nI_1 _)) (cwV 1 hts gX2_writeOldKind_X0_marksBehind rfl rfl rfl (by decide +kernel) ⟨Nat.le_of_ble_eq_true rfl, Nat.le_of_ble_eq_true rfl⟩) (pcR_V (hP.sub (ws' := [(t2, .inr (1, [.ref b2, .int (nI x2.length)])), (b2, .inl (c2, 200, .inl f2))]) [3, 4] rfl) (hK.sub (tys' := [(c2, .int)]) [1] rfl) hN 0 rfl rfl) rfl rfl hl.1 rfl (lv_room (Nat.le_of_ble_eq_true rfl)) dX2_writeOldKind_102 ⟨Nat.zero_le _, Nat.zero_le _⟩) (fun r9 hr9 => ?_)
              subst r9
              refine lv_istore (lv' := [(5, .int (nI (lmk t))), (2, .int 0), (4, .int c0), (3, .int y3), (1, .int y1), (0, .ref h)]) hx hb dX2_writeOldKind_105 hl (by decide) rfl (fun ls hl => ?_)
              refine lv_iconst (v := 1) hx hb dX2_writeOldKind_107 (by decide) ?_
              refine lv_istore (lv' := [(6, .int 1), (5, .int (nI (lmk t))), (2, .int 0), (4, .int c0), (3, .int y3), (1, .int y1), (0, .ref h)]) hx hb dX2_writeOldKind_108 hl (by decide) rfl (fun ls hl => ?_)
              have htk : (t.take (lmk t)).length = lmk t := by rw [List.length_take]; omega
              have hB2 : ((wms (t.take (lmk t) ++ [c0]) y1).1 ++ (woS si t (done.length + 1) (wms (t.take (lmk t) ++ [c0]) y1).2 0).1).foldl (oadd 400) wr = TB := by rw [← hB]; simp [woS, c32_1, c54_1]
              have hC2 : tc ++ (woS si t (done.length + 1) (wms (t.take (lmk t) ++ [c0]) y1).2 0).2.1 = TC := by rw [← hC]; simp [woS, c32_1, c54_1]
              have hQ2 : tp ++ (woS si t (done.length + 1) (wms (t.take (lmk t) ++ [c0]) y1).2 0).2.2 = TP := by rw [← hQ]; simp [woS, c32_1, c54_1]
              have loop2 : ∀ (ms : List Int32) (md wr : List Int32) (f1 : Nat → Int32) (y1 y6 : Int32) (H : Heap) (locs : List Loc) (ls : Array Slot), t.take (lmk t) = md ++ ms → y6 = nI (md.length + 1) → ((wms (ms ++ [c0]) y1).1 ++ (woS si t (done.length + 1) (wms (ms ++ [c0]) y1).2 0).1).foldl (oadd 400) wr = TB → tc ++ (woS si t (done.length + 1) (wms (ms ++ [c0]) y1).2 0).2.1 = TC → tp ++ (woS si t (done.length + 1) (wms (ms ++ [c0]) y1).2 0).2.2 = TP → rw_ok f1 400 wr → va_P D vwCl [(h, .inr (3, [.ref t0, .ref t1, .ref t2, .ref t3, .ref t4, .ref t5, .ref t6, .ref t7, .ref t8, .ref t9, .int si])), (t1, .inr (2, [.ref b1, .int (nI wr.length)])), (b1, .inl (c1, 400, .inl f1)), (t2, .inr (1, [.ref b2, .int (nI x2.length)])), (b2, .inl (c2, 200, .inl f2)), (t8, .inr (1, [.ref b8, .int (nI tc.length)])), (b8, .inl (c8, 200, .inl f8)), (t9, .inr (1, [.ref b9, .int (nI tp.length)])), (b9, .inl (c9, 200, .inl f9))] H → va_D A [(h, .inr (3, [.ref t0, .ref t1, .ref t2, .ref t3, .ref t4, .ref t5, .ref t6, .ref t7, .ref t8, .ref t9, .int si])), (t1, .inr (2, [.ref b1, .int (nI wr.length)])), (b1, .inl (c1, 400, .inl f1)), (t2, .inr (1, [.ref b2, .int (nI x2.length)])), (b2, .inl (c2, 200, .inl f2)), (t8, .inr (1, [.ref b8, .int (nI tc.length)])), (b8, .inl (c8, 200, .inl f8)), (t9, .inr (1, [.ref b9, .int (nI tp.length)])), (b9, .inl (c9, 200, .inl f9))] → va_S A s.heap H locs → lv_has ls 7 [(6, .int y6), (5, .int (nI (lmk t))), (2, .int 0), (4, .int c0), (3, .int y3), (1, .int y1), (0, .ref h)] → W p l e ({ frames := 3, cells := 0, slots := 0, locals := 63 }) s m ([.ref h] : List Value).toArray below meth c H locs 0 0 (MQ below (qcV (S := (Nat → Int32) × (Nat → Int32) × (Nat → Int32)) D (fun u => rw_ok u.1 400 TB ∧ rw_ok u.2.1 200 TC ∧ rw_ok u.2.2 200 TP) (fun u => [(h, .inr (3, [.ref t0, .ref t1, .ref t2, .ref t3, .ref t4, .ref t5, .ref t6, .ref t7, .ref t8, .ref t9, .int si])), (t1, .inr (2, [.ref b1, .int (nI TB.length)])), (b1, .inl (c1, 400, .inl u.1)), (t2, .inr (1, [.ref b2, .int (nI x2.length)])), (b2, .inl (c2, 200, .inl f2)), (t8, .inr (1, [.ref b8, .int (nI TC.length)])), (b8, .inl (c8, 200, .inl u.2.1)), (t9, .inr (1, [.ref b9, .int (nI TP.length)])), (b9, .inl (c9, 200, .inl u.2.2))]) A) ([.ref h] : List Value).toArray s 0 0 A) (F0 m 110 ls [])  := by
                intro ms
                induction ms with
                | nil =>
                  intro md wr f1 y1 y6 H locs ls hmd e6 hB hC hQ o1 hP hD hS hl
                  have hmdl : lmk t = md.length := by rw [← htk, hmd]; simp
                  refine lv_iload hx hb dX2_writeOldKind_110 (lv_at hl 0 rfl) ?_
                  refine lv_iload hx hb dX2_writeOldKind_112 (lv_at hl 1 rfl) ?_
                  refine lv_icmp_gt (tgt := 140) hx hb dX2_writeOldKind_114 (by decide) (fun c114_1 => ?_) (fun c114_1 => ?_)
                  · skip
                    refine lv_aload_n hx hb dX2_writeOldKind_140 rfl (lv_at hl 6 rfl) ?_
                    refine lv_iload hx hb dX2_writeOldKind_141 (lv_at hl 3 rfl) ?_
                    refine lv_iload_n hx hb dX2_writeOldKind_143 rfl (lv_at hl 5 rfl) ?_
                    refine clI (wr := [(t2, .inr (1, [.ref b2, .int (nI x2.length)])), (b2, .inl (c2, 200, .inl f2)), (t8, .inr (1, [.ref b8, .int (nI tc.length)])), (b8, .inl (c8, 200, .inl f8)), (t9, .inr (1, [.ref b9, .int (nI tp.length)])), (b9, .inl (c9, 200, .inl f9))]) (va_runV ⟨hx, hb, hml, hown, hts⟩ (KX2_writeOldCode l D h t0 t1 t2 t3 t4 t5 t6 t7 t8 t9 si b1 c1 f1 wr o1 c0 y1 _) (cwV 2 hts gX2_writeOldKind_X2_writeOldCode rfl rfl rfl (by decide +kernel) ⟨Nat.le_of_ble_eq_true rfl, Nat.le_of_ble_eq_true rfl⟩) (pcM_V (hP.sub (ws' := [(h, .inr (3, [.ref t0, .ref t1, .ref t2, .ref t3, .ref t4, .ref t5, .ref t6, .ref t7, .ref t8, .ref t9, .int si])), (t1, .inr (2, [.ref b1, .int (nI wr.length)])), (b1, .inl (c1, 400, .inl f1))]) [0, 1, 2] rfl) (hD.sub (ws' := [(h, .inr (3, [.ref t0, .ref t1, .ref t2, .ref t3, .ref t4, .ref t5, .ref t6, .ref t7, .ref t8, .ref t9, .int si])), (t1, .inr (2, [.ref b1, .int (nI wr.length)])), (b1, .inl (c1, 400, .inl f1))]) [0, 1, 2] (by decide) rfl) (hK.sub (tys' := [(c1, .byte)]) [0] rfl) hN 0 rfl rfl) rfl rfl hl.1 rfl (lv_room (Nat.le_of_ble_eq_true rfl)) dX2_writeOldKind_144 ⟨Nat.zero_le _, Nat.zero_le _⟩) hP hD hS hA [0, 1, 2] [3, 4, 5, 6, 7, 8] rfl rfl (by decide) (by decide) (fun r_1 u_1 H locs hw_1 hP hD hS => ?_)
                    obtain ⟨hw_1r, hw_1o⟩ := hw_1
                    subst hw_1r
                    have hP : va_P D vwCl [(h, .inr (3, [.ref t0, .ref t1, .ref t2, .ref t3, .ref t4, .ref t5, .ref t6, .ref t7, .ref t8, .ref t9, .int si])), (t1, .inr (2, [.ref b1, .int (nI ((wob c0 y1).foldl (oadd 400) wr).length)])), (b1, .inl (c1, 400, .inl u_1)), (t2, .inr (1, [.ref b2, .int (nI x2.length)])), (b2, .inl (c2, 200, .inl f2)), (t8, .inr (1, [.ref b8, .int (nI tc.length)])), (b8, .inl (c8, 200, .inl f8)), (t9, .inr (1, [.ref b9, .int (nI tp.length)])), (b9, .inl (c9, 200, .inl f9))] H := hP.sub [6, 7, 8, 0, 1, 2, 3, 4, 5] rfl
                    have hD : va_D A [(h, .inr (3, [.ref t0, .ref t1, .ref t2, .ref t3, .ref t4, .ref t5, .ref t6, .ref t7, .ref t8, .ref t9, .int si])), (t1, .inr (2, [.ref b1, .int (nI ((wob c0 y1).foldl (oadd 400) wr).length)])), (b1, .inl (c1, 400, .inl u_1)), (t2, .inr (1, [.ref b2, .int (nI x2.length)])), (b2, .inl (c2, 200, .inl f2)), (t8, .inr (1, [.ref b8, .int (nI tc.length)])), (b8, .inl (c8, 200, .inl f8)), (t9, .inr (1, [.ref b9, .int (nI tp.length)])), (b9, .inl (c9, 200, .inl f9))] := hD.sub [6, 7, 8, 0, 1, 2, 3, 4, 5] (by decide) rfl
                    refine lv_istore_n (lv' := [(1, .int (woo c0 y1)), (6, .int y6), (5, .int (nI (lmk t))), (2, .int 0), (4, .int c0), (3, .int y3), (0, .ref h)]) hx hb dX2_writeOldKind_147 rfl hl (by decide) rfl (fun ls hl => ?_)
                    refine lv_iinc (v := (y3 + 1)) (lv' := [(3, .int (y3 + 1)), (1, .int (woo c0 y1)), (6, .int y6), (5, .int (nI (lmk t))), (2, .int 0), (4, .int c0), (0, .ref h)]) hx hb dX2_writeOldKind_148 hl (k := 5) rfl rfl (by decide) rfl (fun ls hl => ?_)
                    refine lv_goto (tgt := 6) hx hb dX2_writeOldKind_151 (by decide) ?_
                    exact ih (done ++ [c0]) _ _ _ u_1 f8 f9 _ _ _ H locs ls (by rw [htx]; simp) (by rw [e3, List.length_append]; exact nI_1 _) (by rw [← hB]; simp [List.length_append, wms, oadd]) (by rw [← hC]; simp [List.length_append, wms]) (by rw [← hQ]; simp [List.length_append, wms]) hw_1o o8 o9 (by simp <;> omega) (by simp <;> omega) hP hD hS (lv_sub hl [0, 4, 1, 6] rfl)
                  · skip
                    exact absurd (by rw [e6, hmdl]; exact nI_lt (by omega) (by omega)) c114_1
                | cons d ms ih2 =>
                  intro md wr f1 y1 y6 H locs ls hmd e6 hB hC hQ o1 hP hD hS hl
                  have hmdl : lmk t = md.length + (ms.length + 1) := by rw [← htk, hmd]; simp
                  refine lv_iload hx hb dX2_writeOldKind_110 (lv_at hl 0 rfl) ?_
                  refine lv_iload hx hb dX2_writeOldKind_112 (lv_at hl 1 rfl) ?_
                  refine lv_icmp_gt (tgt := 140) hx hb dX2_writeOldKind_114 (by decide) (fun c114_2 => ?_) (fun c114_2 => ?_)
                  · skip
                    exact absurd c114_2 (by rw [e6, hmdl]; exact nI_nlt (by omega) (by omega))
                  · skip
                    refine lv_aload_n hx hb dX2_writeOldKind_117 rfl (lv_at hl 6 rfl) ?_
                    refine lv_aload_n hx hb dX2_writeOldKind_118 rfl (lv_at hl 6 rfl) ?_
                    refine va_get (D := D) (ci := 3) (v := .ref t2) (C := RX2) (T := TX2) (N := 11) hx hb hts (by decide +kernel) hown hK hP 0 rfl rfl 2 (by decide) (hts (.fieldLink RX2 24 "CharacterRows" "text" "LCharacterRows$Codes;") (by decide +kernel)) (fun _ h9 => h9) rfl dX2_writeOldKind_119 ?_
                    refine lv_iload_n hx hb dX2_writeOldKind_122 rfl (lv_at hl 4 rfl) ?_
                    refine lv_iload hx hb dX2_writeOldKind_123 (lv_at hl 0 rfl) ?_
                    refine lv_iadd hx hb dX2_writeOldKind_125 ?_
                    refine vp_callSi (W.runV ⟨hx, hb, hml, hown, hts⟩ (KX0_at l D t2 b2 c2 f2 x2 o2 (y3 + y6)) (cwV 1 hts gX2_writeOldKind_X0_at rfl rfl rfl (by decide +kernel) ⟨Nat.le_of_ble_eq_true rfl, Nat.le_of_ble_eq_true rfl⟩) (pcR_V (hP.sub (ws' := [(t2, .inr (1, [.ref b2, .int (nI x2.length)])), (b2, .inl (c2, 200, .inl f2))]) [3, 4] rfl) (hK.sub (tys' := [(c2, .int)]) [1] rfl) hN 0 rfl rfl) rfl rfl hl.1 rfl (lv_room (Nat.le_of_ble_eq_true rfl)) dX2_writeOldKind_126 ⟨Nat.zero_le _, Nat.zero_le _⟩) (fun r9 hr9 => ?_)
                    replace hr9 : r9 = d := hr9.trans (by rw [htx, e3, e6, nI_add, rw_at_d (l := done) (r := c0 :: t) (j := md.length + 1) rfl (by omega)]; exact gd_take hmd)
                    subst r9
                    refine lv_iload_n hx hb dX2_writeOldKind_129 rfl (lv_at hl 5 rfl) ?_
                    refine clI (wr := [(t2, .inr (1, [.ref b2, .int (nI x2.length)])), (b2, .inl (c2, 200, .inl f2)), (t8, .inr (1, [.ref b8, .int (nI tc.length)])), (b8, .inl (c8, 200, .inl f8)), (t9, .inr (1, [.ref b9, .int (nI tp.length)])), (b9, .inl (c9, 200, .inl f9))]) (va_runV ⟨hx, hb, hml, hown, hts⟩ (KX2_writeOldCode l D h t0 t1 t2 t3 t4 t5 t6 t7 t8 t9 si b1 c1 f1 wr o1 d y1 _) (cwV 2 hts gX2_writeOldKind_X2_writeOldCode rfl rfl rfl (by decide +kernel) ⟨Nat.le_of_ble_eq_true rfl, Nat.le_of_ble_eq_true rfl⟩) (pcM_V (hP.sub (ws' := [(h, .inr (3, [.ref t0, .ref t1, .ref t2, .ref t3, .ref t4, .ref t5, .ref t6, .ref t7, .ref t8, .ref t9, .int si])), (t1, .inr (2, [.ref b1, .int (nI wr.length)])), (b1, .inl (c1, 400, .inl f1))]) [0, 1, 2] rfl) (hD.sub (ws' := [(h, .inr (3, [.ref t0, .ref t1, .ref t2, .ref t3, .ref t4, .ref t5, .ref t6, .ref t7, .ref t8, .ref t9, .int si])), (t1, .inr (2, [.ref b1, .int (nI wr.length)])), (b1, .inl (c1, 400, .inl f1))]) [0, 1, 2] (by decide) rfl) (hK.sub (tys' := [(c1, .byte)]) [0] rfl) hN 0 rfl rfl) rfl rfl hl.1 rfl (lv_room (Nat.le_of_ble_eq_true rfl)) dX2_writeOldKind_130 ⟨Nat.zero_le _, Nat.zero_le _⟩) hP hD hS hA [0, 1, 2] [3, 4, 5, 6, 7, 8] rfl rfl (by decide) (by decide) (fun r_2 u_2 H locs hw_2 hP hD hS => ?_)
                    obtain ⟨hw_2r, hw_2o⟩ := hw_2
                    subst hw_2r
                    have hP : va_P D vwCl [(h, .inr (3, [.ref t0, .ref t1, .ref t2, .ref t3, .ref t4, .ref t5, .ref t6, .ref t7, .ref t8, .ref t9, .int si])), (t1, .inr (2, [.ref b1, .int (nI ((wob d y1).foldl (oadd 400) wr).length)])), (b1, .inl (c1, 400, .inl u_2)), (t2, .inr (1, [.ref b2, .int (nI x2.length)])), (b2, .inl (c2, 200, .inl f2)), (t8, .inr (1, [.ref b8, .int (nI tc.length)])), (b8, .inl (c8, 200, .inl f8)), (t9, .inr (1, [.ref b9, .int (nI tp.length)])), (b9, .inl (c9, 200, .inl f9))] H := hP.sub [6, 7, 8, 0, 1, 2, 3, 4, 5] rfl
                    have hD : va_D A [(h, .inr (3, [.ref t0, .ref t1, .ref t2, .ref t3, .ref t4, .ref t5, .ref t6, .ref t7, .ref t8, .ref t9, .int si])), (t1, .inr (2, [.ref b1, .int (nI ((wob d y1).foldl (oadd 400) wr).length)])), (b1, .inl (c1, 400, .inl u_2)), (t2, .inr (1, [.ref b2, .int (nI x2.length)])), (b2, .inl (c2, 200, .inl f2)), (t8, .inr (1, [.ref b8, .int (nI tc.length)])), (b8, .inl (c8, 200, .inl f8)), (t9, .inr (1, [.ref b9, .int (nI tp.length)])), (b9, .inl (c9, 200, .inl f9))] := hD.sub [6, 7, 8, 0, 1, 2, 3, 4, 5] (by decide) rfl
                    refine lv_istore_n (lv' := [(1, .int (woo d y1)), (6, .int y6), (5, .int (nI (lmk t))), (2, .int 0), (4, .int c0), (3, .int y3), (0, .ref h)]) hx hb dX2_writeOldKind_133 rfl hl (by decide) rfl (fun ls hl => ?_)
                    refine lv_iinc (v := (y6 + 1)) (lv' := [(6, .int (y6 + 1)), (1, .int (woo d y1)), (5, .int (nI (lmk t))), (2, .int 0), (4, .int c0), (3, .int y3), (0, .ref h)]) hx hb dX2_writeOldKind_134 hl (k := 1) rfl rfl (by decide) rfl (fun ls hl => ?_)
                    refine lv_goto (tgt := 110) hx hb dX2_writeOldKind_137 (by decide) ?_
                    exact ih2 (md ++ [d]) _ u_2 _ _ H locs ls (by rw [hmd]; simp) (by rw [e6, List.length_append]; exact nI_1 _) (by rw [← hB]; simp [wms]) (by rw [← hC]; simp [wms]) (by rw [← hQ]; simp [wms]) hw_2o hP hD hS (lv_sub hl [0, 2, 3, 4, 5, 1, 6] rfl)
              exact loop2 (t.take (lmk t)) [] _ f1 _ _ H locs ls rfl rfl hB2 hC2 hQ2 o1 hP hD hS (lv_sub hl [0, 1, 2, 3, 4, 5, 6] rfl)
            · exact absurd c73_1 (by decide)
          · skip
            refine lv_iload hx hb dX2_writeOldKind_57 (lv_at hl 0 rfl) ?_
            refine vp_callSi (W.runS ⟨hx, hb, hml, hown, hts⟩ (KX2_setOf l c0) (va_cwS 1 hts gX2_writeOldKind_X2_setOf rfl rfl rfl (by decide +kernel) ⟨Nat.le_of_ble_eq_true rfl, Nat.le_of_ble_eq_true rfl⟩) pcS_S rfl rfl hl.1 rfl (lv_room (Nat.le_of_ble_eq_true rfl)) dX2_writeOldKind_59 ⟨Nat.zero_le _, Nat.zero_le _⟩) (fun r9 hr9 => ?_)
            subst r9
            refine lv_iconst (v := (-1)) hx hb dX2_writeOldKind_62 (by decide) ?_
            refine lv_icmp_ne (tgt := 70) hx hb dX2_writeOldKind_63 (by decide) (fun c63_1 => ?_) (fun c63_1 => ?_)
            · skip
              refine lv_iconst (v := 0) hx hb dX2_writeOldKind_70 (by decide) ?_
              refine lv_istore_n (lv' := [(2, .int 0), (4, .int c0), (3, .int y3), (1, .int y1), (0, .ref h)]) hx hb dX2_writeOldKind_71 rfl hl (by decide) rfl (fun ls hl => ?_)
              refine lv_iload_n hx hb dX2_writeOldKind_72 rfl (lv_at hl 0 rfl) ?_
              refine lv_if_eq (tgt := 97) hx hb dX2_writeOldKind_73 (by decide) (fun c73_2 => ?_) (fun c73_2 => ?_)
              · skip
                refine lv_aload_n hx hb dX2_writeOldKind_97 rfl (lv_at hl 4 rfl) ?_
                refine va_get (D := D) (ci := 3) (v := .ref t2) (C := RX2) (T := TX2) (N := 11) hx hb hts (by decide +kernel) hown hK hP 0 rfl rfl 2 (by decide) (hts (.fieldLink RX2 24 "CharacterRows" "text" "LCharacterRows$Codes;") (by decide +kernel)) (fun _ h9 => h9) rfl dX2_writeOldKind_98 ?_
                refine lv_iload_n hx hb dX2_writeOldKind_101 rfl (lv_at hl 2 rfl) ?_
                refine vp_callSi (W.runV ⟨hx, hb, hml, hown, hts⟩ (KX0_marksBehind l D t2 b2 c2 f2 x2 o2 (done ++ [c0]) t (by rw [htx]; simp) y3 (by rw [e3, List.length_append]; exact nI_1 _)) (cwV 1 hts gX2_writeOldKind_X0_marksBehind rfl rfl rfl (by decide +kernel) ⟨Nat.le_of_ble_eq_true rfl, Nat.le_of_ble_eq_true rfl⟩) (pcR_V (hP.sub (ws' := [(t2, .inr (1, [.ref b2, .int (nI x2.length)])), (b2, .inl (c2, 200, .inl f2))]) [3, 4] rfl) (hK.sub (tys' := [(c2, .int)]) [1] rfl) hN 0 rfl rfl) rfl rfl hl.1 rfl (lv_room (Nat.le_of_ble_eq_true rfl)) dX2_writeOldKind_102 ⟨Nat.zero_le _, Nat.zero_le _⟩) (fun r9 hr9 => ?_)
                subst r9
                refine lv_istore (lv' := [(5, .int (nI (lmk t))), (2, .int 0), (4, .int c0), (3, .int y3), (1, .int y1), (0, .ref h)]) hx hb dX2_writeOldKind_105 hl (by decide) rfl (fun ls hl => ?_)
                refine lv_iconst (v := 1) hx hb dX2_writeOldKind_107 (by decide) ?_
                refine lv_istore (lv' := [(6, .int 1), (5, .int (nI (lmk t))), (2, .int 0), (4, .int c0), (3, .int y3), (1, .int y1), (0, .ref h)]) hx hb dX2_writeOldKind_108 hl (by decide) rfl (fun ls hl => ?_)
                have htk : (t.take (lmk t)).length = lmk t := by rw [List.length_take]; omega
                have hB2 : ((wms (t.take (lmk t) ++ [c0]) y1).1 ++ (woS si t (done.length + 1) (wms (t.take (lmk t) ++ [c0]) y1).2 0).1).foldl (oadd 400) wr = TB := by rw [← hB]; simp [woS, c32_1, c54_1, c63_1]
                have hC2 : tc ++ (woS si t (done.length + 1) (wms (t.take (lmk t) ++ [c0]) y1).2 0).2.1 = TC := by rw [← hC]; simp [woS, c32_1, c54_1, c63_1]
                have hQ2 : tp ++ (woS si t (done.length + 1) (wms (t.take (lmk t) ++ [c0]) y1).2 0).2.2 = TP := by rw [← hQ]; simp [woS, c32_1, c54_1, c63_1]
                have loop2 : ∀ (ms : List Int32) (md wr : List Int32) (f1 : Nat → Int32) (y1 y6 : Int32) (H : Heap) (locs : List Loc) (ls : Array Slot), t.take (lmk t) = md ++ ms → y6 = nI (md.length + 1) → ((wms (ms ++ [c0]) y1).1 ++ (woS si t (done.length + 1) (wms (ms ++ [c0]) y1).2 0).1).foldl (oadd 400) wr = TB → tc ++ (woS si t (done.length + 1) (wms (ms ++ [c0]) y1).2 0).2.1 = TC → tp ++ (woS si t (done.length + 1) (wms (ms ++ [c0]) y1).2 0).2.2 = TP → rw_ok f1 400 wr → va_P D vwCl [(h, .inr (3, [.ref t0, .ref t1, .ref t2, .ref t3, .ref t4, .ref t5, .ref t6, .ref t7, .ref t8, .ref t9, .int si])), (t1, .inr (2, [.ref b1, .int (nI wr.length)])), (b1, .inl (c1, 400, .inl f1)), (t2, .inr (1, [.ref b2, .int (nI x2.length)])), (b2, .inl (c2, 200, .inl f2)), (t8, .inr (1, [.ref b8, .int (nI tc.length)])), (b8, .inl (c8, 200, .inl f8)), (t9, .inr (1, [.ref b9, .int (nI tp.length)])), (b9, .inl (c9, 200, .inl f9))] H → va_D A [(h, .inr (3, [.ref t0, .ref t1, .ref t2, .ref t3, .ref t4, .ref t5, .ref t6, .ref t7, .ref t8, .ref t9, .int si])), (t1, .inr (2, [.ref b1, .int (nI wr.length)])), (b1, .inl (c1, 400, .inl f1)), (t2, .inr (1, [.ref b2, .int (nI x2.length)])), (b2, .inl (c2, 200, .inl f2)), (t8, .inr (1, [.ref b8, .int (nI tc.length)])), (b8, .inl (c8, 200, .inl f8)), (t9, .inr (1, [.ref b9, .int (nI tp.length)])), (b9, .inl (c9, 200, .inl f9))] → va_S A s.heap H locs → lv_has ls 7 [(6, .int y6), (5, .int (nI (lmk t))), (2, .int 0), (4, .int c0), (3, .int y3), (1, .int y1), (0, .ref h)] → W p l e ({ frames := 3, cells := 0, slots := 0, locals := 63 }) s m ([.ref h] : List Value).toArray below meth c H locs 0 0 (MQ below (qcV (S := (Nat → Int32) × (Nat → Int32) × (Nat → Int32)) D (fun u => rw_ok u.1 400 TB ∧ rw_ok u.2.1 200 TC ∧ rw_ok u.2.2 200 TP) (fun u => [(h, .inr (3, [.ref t0, .ref t1, .ref t2, .ref t3, .ref t4, .ref t5, .ref t6, .ref t7, .ref t8, .ref t9, .int si])), (t1, .inr (2, [.ref b1, .int (nI TB.length)])), (b1, .inl (c1, 400, .inl u.1)), (t2, .inr (1, [.ref b2, .int (nI x2.length)])), (b2, .inl (c2, 200, .inl f2)), (t8, .inr (1, [.ref b8, .int (nI TC.length)])), (b8, .inl (c8, 200, .inl u.2.1)), (t9, .inr (1, [.ref b9, .int (nI TP.length)])), (b9, .inl (c9, 200, .inl u.2.2))]) A) ([.ref h] : List Value).toArray s 0 0 A) (F0 m 110 ls [])  := by
                  intro ms
                  induction ms with
                  | nil =>
                    intro md wr f1 y1 y6 H locs ls hmd e6 hB hC hQ o1 hP hD hS hl
                    have hmdl : lmk t = md.length := by rw [← htk, hmd]; simp
                    refine lv_iload hx hb dX2_writeOldKind_110 (lv_at hl 0 rfl) ?_
                    refine lv_iload hx hb dX2_writeOldKind_112 (lv_at hl 1 rfl) ?_
                    refine lv_icmp_gt (tgt := 140) hx hb dX2_writeOldKind_114 (by decide) (fun c114_3 => ?_) (fun c114_3 => ?_)
                    · skip
                      refine lv_aload_n hx hb dX2_writeOldKind_140 rfl (lv_at hl 6 rfl) ?_
                      refine lv_iload hx hb dX2_writeOldKind_141 (lv_at hl 3 rfl) ?_
                      refine lv_iload_n hx hb dX2_writeOldKind_143 rfl (lv_at hl 5 rfl) ?_
                      refine clI (wr := [(t2, .inr (1, [.ref b2, .int (nI x2.length)])), (b2, .inl (c2, 200, .inl f2)), (t8, .inr (1, [.ref b8, .int (nI tc.length)])), (b8, .inl (c8, 200, .inl f8)), (t9, .inr (1, [.ref b9, .int (nI tp.length)])), (b9, .inl (c9, 200, .inl f9))]) (va_runV ⟨hx, hb, hml, hown, hts⟩ (KX2_writeOldCode l D h t0 t1 t2 t3 t4 t5 t6 t7 t8 t9 si b1 c1 f1 wr o1 c0 y1 _) (cwV 2 hts gX2_writeOldKind_X2_writeOldCode rfl rfl rfl (by decide +kernel) ⟨Nat.le_of_ble_eq_true rfl, Nat.le_of_ble_eq_true rfl⟩) (pcM_V (hP.sub (ws' := [(h, .inr (3, [.ref t0, .ref t1, .ref t2, .ref t3, .ref t4, .ref t5, .ref t6, .ref t7, .ref t8, .ref t9, .int si])), (t1, .inr (2, [.ref b1, .int (nI wr.length)])), (b1, .inl (c1, 400, .inl f1))]) [0, 1, 2] rfl) (hD.sub (ws' := [(h, .inr (3, [.ref t0, .ref t1, .ref t2, .ref t3, .ref t4, .ref t5, .ref t6, .ref t7, .ref t8, .ref t9, .int si])), (t1, .inr (2, [.ref b1, .int (nI wr.length)])), (b1, .inl (c1, 400, .inl f1))]) [0, 1, 2] (by decide) rfl) (hK.sub (tys' := [(c1, .byte)]) [0] rfl) hN 0 rfl rfl) rfl rfl hl.1 rfl (lv_room (Nat.le_of_ble_eq_true rfl)) dX2_writeOldKind_144 ⟨Nat.zero_le _, Nat.zero_le _⟩) hP hD hS hA [0, 1, 2] [3, 4, 5, 6, 7, 8] rfl rfl (by decide) (by decide) (fun r_3 u_3 H locs hw_3 hP hD hS => ?_)
                      obtain ⟨hw_3r, hw_3o⟩ := hw_3
                      subst hw_3r
                      have hP : va_P D vwCl [(h, .inr (3, [.ref t0, .ref t1, .ref t2, .ref t3, .ref t4, .ref t5, .ref t6, .ref t7, .ref t8, .ref t9, .int si])), (t1, .inr (2, [.ref b1, .int (nI ((wob c0 y1).foldl (oadd 400) wr).length)])), (b1, .inl (c1, 400, .inl u_3)), (t2, .inr (1, [.ref b2, .int (nI x2.length)])), (b2, .inl (c2, 200, .inl f2)), (t8, .inr (1, [.ref b8, .int (nI tc.length)])), (b8, .inl (c8, 200, .inl f8)), (t9, .inr (1, [.ref b9, .int (nI tp.length)])), (b9, .inl (c9, 200, .inl f9))] H := hP.sub [6, 7, 8, 0, 1, 2, 3, 4, 5] rfl
                      have hD : va_D A [(h, .inr (3, [.ref t0, .ref t1, .ref t2, .ref t3, .ref t4, .ref t5, .ref t6, .ref t7, .ref t8, .ref t9, .int si])), (t1, .inr (2, [.ref b1, .int (nI ((wob c0 y1).foldl (oadd 400) wr).length)])), (b1, .inl (c1, 400, .inl u_3)), (t2, .inr (1, [.ref b2, .int (nI x2.length)])), (b2, .inl (c2, 200, .inl f2)), (t8, .inr (1, [.ref b8, .int (nI tc.length)])), (b8, .inl (c8, 200, .inl f8)), (t9, .inr (1, [.ref b9, .int (nI tp.length)])), (b9, .inl (c9, 200, .inl f9))] := hD.sub [6, 7, 8, 0, 1, 2, 3, 4, 5] (by decide) rfl
                      refine lv_istore_n (lv' := [(1, .int (woo c0 y1)), (6, .int y6), (5, .int (nI (lmk t))), (2, .int 0), (4, .int c0), (3, .int y3), (0, .ref h)]) hx hb dX2_writeOldKind_147 rfl hl (by decide) rfl (fun ls hl => ?_)
                      refine lv_iinc (v := (y3 + 1)) (lv' := [(3, .int (y3 + 1)), (1, .int (woo c0 y1)), (6, .int y6), (5, .int (nI (lmk t))), (2, .int 0), (4, .int c0), (0, .ref h)]) hx hb dX2_writeOldKind_148 hl (k := 5) rfl rfl (by decide) rfl (fun ls hl => ?_)
                      refine lv_goto (tgt := 6) hx hb dX2_writeOldKind_151 (by decide) ?_
                      exact ih (done ++ [c0]) _ _ _ u_3 f8 f9 _ _ _ H locs ls (by rw [htx]; simp) (by rw [e3, List.length_append]; exact nI_1 _) (by rw [← hB]; simp [List.length_append, wms, oadd]) (by rw [← hC]; simp [List.length_append, wms]) (by rw [← hQ]; simp [List.length_append, wms]) hw_3o o8 o9 (by simp <;> omega) (by simp <;> omega) hP hD hS (lv_sub hl [0, 4, 1, 6] rfl)
                    · skip
                      exact absurd (by rw [e6, hmdl]; exact nI_lt (by omega) (by omega)) c114_3
                  | cons d ms ih2 =>
                    intro md wr f1 y1 y6 H locs ls hmd e6 hB hC hQ o1 hP hD hS hl
                    have hmdl : lmk t = md.length + (ms.length + 1) := by rw [← htk, hmd]; simp
                    refine lv_iload hx hb dX2_writeOldKind_110 (lv_at hl 0 rfl) ?_
                    refine lv_iload hx hb dX2_writeOldKind_112 (lv_at hl 1 rfl) ?_
                    refine lv_icmp_gt (tgt := 140) hx hb dX2_writeOldKind_114 (by decide) (fun c114_4 => ?_) (fun c114_4 => ?_)
                    · skip
                      exact absurd c114_4 (by rw [e6, hmdl]; exact nI_nlt (by omega) (by omega))
                    · skip
                      refine lv_aload_n hx hb dX2_writeOldKind_117 rfl (lv_at hl 6 rfl) ?_
                      refine lv_aload_n hx hb dX2_writeOldKind_118 rfl (lv_at hl 6 rfl) ?_
                      refine va_get (D := D) (ci := 3) (v := .ref t2) (C := RX2) (T := TX2) (N := 11) hx hb hts (by decide +kernel) hown hK hP 0 rfl rfl 2 (by decide) (hts (.fieldLink RX2 24 "CharacterRows" "text" "LCharacterRows$Codes;") (by decide +kernel)) (fun _ h9 => h9) rfl dX2_writeOldKind_119 ?_
                      refine lv_iload_n hx hb dX2_writeOldKind_122 rfl (lv_at hl 4 rfl) ?_
                      refine lv_iload hx hb dX2_writeOldKind_123 (lv_at hl 0 rfl) ?_
                      refine lv_iadd hx hb dX2_writeOldKind_125 ?_
                      refine vp_callSi (W.runV ⟨hx, hb, hml, hown, hts⟩ (KX0_at l D t2 b2 c2 f2 x2 o2 (y3 + y6)) (cwV 1 hts gX2_writeOldKind_X0_at rfl rfl rfl (by decide +kernel) ⟨Nat.le_of_ble_eq_true rfl, Nat.le_of_ble_eq_true rfl⟩) (pcR_V (hP.sub (ws' := [(t2, .inr (1, [.ref b2, .int (nI x2.length)])), (b2, .inl (c2, 200, .inl f2))]) [3, 4] rfl) (hK.sub (tys' := [(c2, .int)]) [1] rfl) hN 0 rfl rfl) rfl rfl hl.1 rfl (lv_room (Nat.le_of_ble_eq_true rfl)) dX2_writeOldKind_126 ⟨Nat.zero_le _, Nat.zero_le _⟩) (fun r9 hr9 => ?_)
                      replace hr9 : r9 = d := hr9.trans (by rw [htx, e3, e6, nI_add, rw_at_d (l := done) (r := c0 :: t) (j := md.length + 1) rfl (by omega)]; exact gd_take hmd)
                      subst r9
                      refine lv_iload_n hx hb dX2_writeOldKind_129 rfl (lv_at hl 5 rfl) ?_
                      refine clI (wr := [(t2, .inr (1, [.ref b2, .int (nI x2.length)])), (b2, .inl (c2, 200, .inl f2)), (t8, .inr (1, [.ref b8, .int (nI tc.length)])), (b8, .inl (c8, 200, .inl f8)), (t9, .inr (1, [.ref b9, .int (nI tp.length)])), (b9, .inl (c9, 200, .inl f9))]) (va_runV ⟨hx, hb, hml, hown, hts⟩ (KX2_writeOldCode l D h t0 t1 t2 t3 t4 t5 t6 t7 t8 t9 si b1 c1 f1 wr o1 d y1 _) (cwV 2 hts gX2_writeOldKind_X2_writeOldCode rfl rfl rfl (by decide +kernel) ⟨Nat.le_of_ble_eq_true rfl, Nat.le_of_ble_eq_true rfl⟩) (pcM_V (hP.sub (ws' := [(h, .inr (3, [.ref t0, .ref t1, .ref t2, .ref t3, .ref t4, .ref t5, .ref t6, .ref t7, .ref t8, .ref t9, .int si])), (t1, .inr (2, [.ref b1, .int (nI wr.length)])), (b1, .inl (c1, 400, .inl f1))]) [0, 1, 2] rfl) (hD.sub (ws' := [(h, .inr (3, [.ref t0, .ref t1, .ref t2, .ref t3, .ref t4, .ref t5, .ref t6, .ref t7, .ref t8, .ref t9, .int si])), (t1, .inr (2, [.ref b1, .int (nI wr.length)])), (b1, .inl (c1, 400, .inl f1))]) [0, 1, 2] (by decide) rfl) (hK.sub (tys' := [(c1, .byte)]) [0] rfl) hN 0 rfl rfl) rfl rfl hl.1 rfl (lv_room (Nat.le_of_ble_eq_true rfl)) dX2_writeOldKind_130 ⟨Nat.zero_le _, Nat.zero_le _⟩) hP hD hS hA [0, 1, 2] [3, 4, 5, 6, 7, 8] rfl rfl (by decide) (by decide) (fun r_4 u_4 H locs hw_4 hP hD hS => ?_)
                      obtain ⟨hw_4r, hw_4o⟩ := hw_4
                      subst hw_4r
                      have hP : va_P D vwCl [(h, .inr (3, [.ref t0, .ref t1, .ref t2, .ref t3, .ref t4, .ref t5, .ref t6, .ref t7, .ref t8, .ref t9, .int si])), (t1, .inr (2, [.ref b1, .int (nI ((wob d y1).foldl (oadd 400) wr).length)])), (b1, .inl (c1, 400, .inl u_4)), (t2, .inr (1, [.ref b2, .int (nI x2.length)])), (b2, .inl (c2, 200, .inl f2)), (t8, .inr (1, [.ref b8, .int (nI tc.length)])), (b8, .inl (c8, 200, .inl f8)), (t9, .inr (1, [.ref b9, .int (nI tp.length)])), (b9, .inl (c9, 200, .inl f9))] H := hP.sub [6, 7, 8, 0, 1, 2, 3, 4, 5] rfl
                      have hD : va_D A [(h, .inr (3, [.ref t0, .ref t1, .ref t2, .ref t3, .ref t4, .ref t5, .ref t6, .ref t7, .ref t8, .ref t9, .int si])), (t1, .inr (2, [.ref b1, .int (nI ((wob d y1).foldl (oadd 400) wr).length)])), (b1, .inl (c1, 400, .inl u_4)), (t2, .inr (1, [.ref b2, .int (nI x2.length)])), (b2, .inl (c2, 200, .inl f2)), (t8, .inr (1, [.ref b8, .int (nI tc.length)])), (b8, .inl (c8, 200, .inl f8)), (t9, .inr (1, [.ref b9, .int (nI tp.length)])), (b9, .inl (c9, 200, .inl f9))] := hD.sub [6, 7, 8, 0, 1, 2, 3, 4, 5] (by decide) rfl
                      refine lv_istore_n (lv' := [(1, .int (woo d y1)), (6, .int y6), (5, .int (nI (lmk t))), (2, .int 0), (4, .int c0), (3, .int y3), (0, .ref h)]) hx hb dX2_writeOldKind_133 rfl hl (by decide) rfl (fun ls hl => ?_)
                      refine lv_iinc (v := (y6 + 1)) (lv' := [(6, .int (y6 + 1)), (1, .int (woo d y1)), (5, .int (nI (lmk t))), (2, .int 0), (4, .int c0), (3, .int y3), (0, .ref h)]) hx hb dX2_writeOldKind_134 hl (k := 1) rfl rfl (by decide) rfl (fun ls hl => ?_)
                      refine lv_goto (tgt := 110) hx hb dX2_writeOldKind_137 (by decide) ?_
                      exact ih2 (md ++ [d]) _ u_4 _ _ H locs ls (by rw [hmd]; simp) (by rw [e6, List.length_append]; exact nI_1 _) (by rw [← hB]; simp [wms]) (by rw [← hC]; simp [wms]) (by rw [← hQ]; simp [wms]) hw_4o hP hD hS (lv_sub hl [0, 2, 3, 4, 5, 1, 6] rfl)
                exact loop2 (t.take (lmk t)) [] _ f1 _ _ H locs ls rfl rfl hB2 hC2 hQ2 o1 hP hD hS (lv_sub hl [0, 1, 2, 3, 4, 5, 6] rfl)
              · exact absurd c73_2 (by decide)
            · skip
              refine lv_iconst (v := 1) hx hb dX2_writeOldKind_66 (by decide) ?_
              refine lv_goto (tgt := 71) hx hb dX2_writeOldKind_67 (by decide) ?_
              refine lv_istore_n (lv' := [(2, .int 1), (4, .int c0), (3, .int y3), (1, .int y1), (0, .ref h)]) hx hb dX2_writeOldKind_71 rfl hl (by decide) rfl (fun ls hl => ?_)
              refine lv_iload_n hx hb dX2_writeOldKind_72 rfl (lv_at hl 0 rfl) ?_
              refine lv_if_eq (tgt := 97) hx hb dX2_writeOldKind_73 (by decide) (fun c73_3 => ?_) (fun c73_3 => ?_)
              · exact absurd c73_3 (by decide)
              · skip
                refine lv_aload_n hx hb dX2_writeOldKind_76 rfl (lv_at hl 4 rfl) ?_
                refine va_get (D := D) (ci := 3) (v := .ref t1) (C := RX2) (T := TX2) (N := 11) hx hb hts (by decide +kernel) hown hK hP 0 rfl rfl 1 (by decide) (hts (.fieldLink RX2 18 "CharacterRows" "written" "LCharacterRows$Octets;") (by decide +kernel)) (fun _ h9 => h9) rfl dX2_writeOldKind_77 ?_
                refine lv_aload_n hx hb dX2_writeOldKind_80 rfl (lv_at hl 4 rfl) ?_
                refine va_get (D := D) (ci := 3) (v := .int si) (C := RX2) (T := TX2) (N := 11) hx hb hts (by decide +kernel) hown hK hP 0 rfl rfl 10 (by decide) (hts (.fieldLink RX2 49 "CharacterRows" "standIn" "I") (by decide +kernel)) (fun _ h9 => h9) rfl dX2_writeOldKind_81 ?_
                refine clV (wr := [(h, .inr (3, [.ref t0, .ref t1, .ref t2, .ref t3, .ref t4, .ref t5, .ref t6, .ref t7, .ref t8, .ref t9, .int si])), (t2, .inr (1, [.ref b2, .int (nI x2.length)])), (b2, .inl (c2, 200, .inl f2)), (t8, .inr (1, [.ref b8, .int (nI tc.length)])), (b8, .inl (c8, 200, .inl f8)), (t9, .inr (1, [.ref b9, .int (nI tp.length)])), (b9, .inl (c9, 200, .inl f9))]) (va_runV ⟨hx, hb, hml, hown, hts⟩ (KX1_add l D t1 b1 c1 f1 wr 400 (by decide) o1 si _) (cwV 1 hts gX2_writeOldKind_X1_add rfl rfl rfl (by decide +kernel) ⟨Nat.le_of_ble_eq_true rfl, Nat.le_of_ble_eq_true rfl⟩) (pcM_V (hP.sub (ws' := [(t1, .inr (2, [.ref b1, .int (nI wr.length)])), (b1, .inl (c1, 400, .inl f1))]) [1, 2] rfl) (hD.sub (ws' := [(t1, .inr (2, [.ref b1, .int (nI wr.length)])), (b1, .inl (c1, 400, .inl f1))]) [1, 2] (by decide) rfl) (hK.sub (tys' := [(c1, .byte)]) [0] rfl) hN 0 rfl rfl) rfl rfl hl.1 rfl (lv_room (Nat.le_of_ble_eq_true rfl)) dX2_writeOldKind_84 ⟨Nat.zero_le _, Nat.zero_le _⟩) hP hD hS hA [1, 2] [0, 3, 4, 5, 6, 7, 8] rfl rfl (by decide) (by decide) (fun u_5 H locs hw_5 hP hD hS => ?_)
                have hP : va_P D vwCl [(h, .inr (3, [.ref t0, .ref t1, .ref t2, .ref t3, .ref t4, .ref t5, .ref t6, .ref t7, .ref t8, .ref t9, .int si])), (t1, .inr (2, [.ref b1, .int (nI (rw_add 400 wr (si : Int32).toInt8.toInt32).length)])), (b1, .inl (c1, 400, .inl u_5)), (t2, .inr (1, [.ref b2, .int (nI x2.length)])), (b2, .inl (c2, 200, .inl f2)), (t8, .inr (1, [.ref b8, .int (nI tc.length)])), (b8, .inl (c8, 200, .inl f8)), (t9, .inr (1, [.ref b9, .int (nI tp.length)])), (b9, .inl (c9, 200, .inl f9))] H := hP.sub [0, 7, 8, 1, 2, 3, 4, 5, 6] rfl
                have hD : va_D A [(h, .inr (3, [.ref t0, .ref t1, .ref t2, .ref t3, .ref t4, .ref t5, .ref t6, .ref t7, .ref t8, .ref t9, .int si])), (t1, .inr (2, [.ref b1, .int (nI (rw_add 400 wr (si : Int32).toInt8.toInt32).length)])), (b1, .inl (c1, 400, .inl u_5)), (t2, .inr (1, [.ref b2, .int (nI x2.length)])), (b2, .inl (c2, 200, .inl f2)), (t8, .inr (1, [.ref b8, .int (nI tc.length)])), (b8, .inl (c8, 200, .inl f8)), (t9, .inr (1, [.ref b9, .int (nI tp.length)])), (b9, .inl (c9, 200, .inl f9))] := hD.sub [0, 7, 8, 1, 2, 3, 4, 5, 6] (by decide) rfl
                refine lv_aload_n hx hb dX2_writeOldKind_87 rfl (lv_at hl 4 rfl) ?_
                refine lv_iload hx hb dX2_writeOldKind_88 (lv_at hl 1 rfl) ?_
                refine lv_iload_n hx hb dX2_writeOldKind_90 rfl (lv_at hl 2 rfl) ?_
                refine clV (wr := [(t1, .inr (2, [.ref b1, .int (nI (rw_add 400 wr (si : Int32).toInt8.toInt32).length)])), (b1, .inl (c1, 400, .inl u_5)), (t2, .inr (1, [.ref b2, .int (nI x2.length)])), (b2, .inl (c2, 200, .inl f2))]) (va_runV ⟨hx, hb, hml, hown, hts⟩ (KX2_tell l D h t0 t1 t2 t3 t4 t5 t6 t7 t8 t9 si b8 c8 f8 tc o8 b9 c9 f9 tp o9 c0 y3 _) (cwV 2 hts gX2_writeOldKind_X2_tell rfl rfl rfl (by decide +kernel) ⟨Nat.le_of_ble_eq_true rfl, Nat.le_of_ble_eq_true rfl⟩) (pcM_V (hP.sub (ws' := [(h, .inr (3, [.ref t0, .ref t1, .ref t2, .ref t3, .ref t4, .ref t5, .ref t6, .ref t7, .ref t8, .ref t9, .int si])), (t8, .inr (1, [.ref b8, .int (nI tc.length)])), (b8, .inl (c8, 200, .inl f8)), (t9, .inr (1, [.ref b9, .int (nI tp.length)])), (b9, .inl (c9, 200, .inl f9))]) [0, 5, 6, 7, 8] rfl) (hD.sub (ws' := [(h, .inr (3, [.ref t0, .ref t1, .ref t2, .ref t3, .ref t4, .ref t5, .ref t6, .ref t7, .ref t8, .ref t9, .int si])), (t8, .inr (1, [.ref b8, .int (nI tc.length)])), (b8, .inl (c8, 200, .inl f8)), (t9, .inr (1, [.ref b9, .int (nI tp.length)])), (b9, .inl (c9, 200, .inl f9))]) [0, 5, 6, 7, 8] (by decide) rfl) (hK.sub (tys' := [(c8, .int), (c9, .int)]) [2, 3] rfl) hN 0 rfl rfl) rfl rfl hl.1 rfl (lv_room (Nat.le_of_ble_eq_true rfl)) dX2_writeOldKind_91 ⟨Nat.zero_le _, Nat.zero_le _⟩) hP hD hS hA [0, 5, 6, 7, 8] [1, 2, 3, 4] rfl rfl (by decide) (by decide) (fun u_6 H locs hw_6 hP hD hS => ?_)
                obtain ⟨u_6a, u_6b⟩ := u_6
                obtain ⟨hw_6a, hw_6b⟩ := hw_6
                have e98 : (rw_add 200 tc c0) = (tc ++ [c0]) := (rw_add_lt (by omega))
                have e99 : (rw_add 200 tp y3) = (tp ++ [y3]) := (rw_add_lt (by omega))
                rw [e98] at hw_6a
                rw [e99] at hw_6b
                rw [e98, e99] at hP hD
                have hP : va_P D vwCl [(h, .inr (3, [.ref t0, .ref t1, .ref t2, .ref t3, .ref t4, .ref t5, .ref t6, .ref t7, .ref t8, .ref t9, .int si])), (t1, .inr (2, [.ref b1, .int (nI (rw_add 400 wr (si : Int32).toInt8.toInt32).length)])), (b1, .inl (c1, 400, .inl u_5)), (t2, .inr (1, [.ref b2, .int (nI x2.length)])), (b2, .inl (c2, 200, .inl f2)), (t8, .inr (1, [.ref b8, .int (nI (tc ++ [c0]).length)])), (b8, .inl (c8, 200, .inl u_6a)), (t9, .inr (1, [.ref b9, .int (nI (tp ++ [y3]).length)])), (b9, .inl (c9, 200, .inl u_6b))] H := hP.sub [4, 0, 1, 2, 3, 5, 6, 7, 8] rfl
                have hD : va_D A [(h, .inr (3, [.ref t0, .ref t1, .ref t2, .ref t3, .ref t4, .ref t5, .ref t6, .ref t7, .ref t8, .ref t9, .int si])), (t1, .inr (2, [.ref b1, .int (nI (rw_add 400 wr (si : Int32).toInt8.toInt32).length)])), (b1, .inl (c1, 400, .inl u_5)), (t2, .inr (1, [.ref b2, .int (nI x2.length)])), (b2, .inl (c2, 200, .inl f2)), (t8, .inr (1, [.ref b8, .int (nI (tc ++ [c0]).length)])), (b8, .inl (c8, 200, .inl u_6a)), (t9, .inr (1, [.ref b9, .int (nI (tp ++ [y3]).length)])), (b9, .inl (c9, 200, .inl u_6b))] := hD.sub [4, 0, 1, 2, 3, 5, 6, 7, 8] (by decide) rfl
                refine lv_goto (tgt := 148) hx hb dX2_writeOldKind_94 (by decide) ?_
                refine lv_iinc (v := (y3 + 1)) (lv' := [(3, .int (y3 + 1)), (2, .int 1), (4, .int c0), (1, .int y1), (0, .ref h)]) hx hb dX2_writeOldKind_148 hl (k := 2) rfl rfl (by decide) rfl (fun ls hl => ?_)
                refine lv_goto (tgt := 6) hx hb dX2_writeOldKind_151 (by decide) ?_
                exact ih (done ++ [c0]) _ _ _ u_5 u_6a u_6b _ _ _ H locs ls (by rw [htx]; simp) (by rw [e3, List.length_append]; exact nI_1 _) (by rw [← hB]; simp [List.length_append, woS, c32_1, c54_1, c63_1, oadd]) (by rw [← hC]; simp [List.length_append, woS, c32_1, c54_1, c63_1]) (by rw [← hQ]; simp [List.length_append, woS, c32_1, c54_1, c63_1, e3]) hw_5 hw_6a hw_6b (by simp <;> omega) (by simp <;> omega) hP hD hS (lv_sub hl [0, 1, 3, 4] rfl)
        · skip
          refine lv_iload_n hx hb dX2_writeOldKind_35 rfl (lv_at hl 2 rfl) ?_
          refine lv_if_eq (tgt := 148) hx hb dX2_writeOldKind_36 (by decide) (fun c36_1 => ?_) (fun c36_1 => ?_)
          · skip
            refine lv_iinc (v := (y3 + 1)) (lv' := [(3, .int (y3 + 1)), (4, .int c0), (2, .int y2), (1, .int y1), (0, .ref h)]) hx hb dX2_writeOldKind_148 hl (k := 1) rfl rfl (by decide) rfl (fun ls hl => ?_)
            refine lv_goto (tgt := 6) hx hb dX2_writeOldKind_151 (by decide) ?_
            exact ih (done ++ [c0]) _ _ _ f1 f8 f9 _ _ _ H locs ls (by rw [htx]; simp) (by rw [e3, List.length_append]; exact nI_1 _) (by rw [← hB]; simp [List.length_append, woS, c32_1, c36_1]) (by rw [← hC]; simp [List.length_append, woS, c32_1, c36_1]) (by rw [← hQ]; simp [List.length_append, woS, c32_1, c36_1, e3]) o1 o8 o9 (by simp <;> omega) (by simp <;> omega) hP hD hS (lv_sub hl [0, 2, 3, 4] rfl)
          · skip
            refine lv_aload_n hx hb dX2_writeOldKind_39 rfl (lv_at hl 4 rfl) ?_
            refine lv_iload hx hb dX2_writeOldKind_40 (lv_at hl 0 rfl) ?_
            refine lv_iload_n hx hb dX2_writeOldKind_42 rfl (lv_at hl 1 rfl) ?_
            refine clV (wr := [(t1, .inr (2, [.ref b1, .int (nI wr.length)])), (b1, .inl (c1, 400, .inl f1)), (t2, .inr (1, [.ref b2, .int (nI x2.length)])), (b2, .inl (c2, 200, .inl f2))]) (va_runV ⟨hx, hb, hml, hown, hts⟩ (KX2_tell l D h t0 t1 t2 t3 t4 t5 t6 t7 t8 t9 si b8 c8 f8 tc o8 b9 c9 f9 tp o9 c0 y3 _) (cwV 2 hts gX2_writeOldKind_X2_tell rfl rfl rfl (by decide +kernel) ⟨Nat.le_of_ble_eq_true rfl, Nat.le_of_ble_eq_true rfl⟩) (pcM_V (hP.sub (ws' := [(h, .inr (3, [.ref t0, .ref t1, .ref t2, .ref t3, .ref t4, .ref t5, .ref t6, .ref t7, .ref t8, .ref t9, .int si])), (t8, .inr (1, [.ref b8, .int (nI tc.length)])), (b8, .inl (c8, 200, .inl f8)), (t9, .inr (1, [.ref b9, .int (nI tp.length)])), (b9, .inl (c9, 200, .inl f9))]) [0, 5, 6, 7, 8] rfl) (hD.sub (ws' := [(h, .inr (3, [.ref t0, .ref t1, .ref t2, .ref t3, .ref t4, .ref t5, .ref t6, .ref t7, .ref t8, .ref t9, .int si])), (t8, .inr (1, [.ref b8, .int (nI tc.length)])), (b8, .inl (c8, 200, .inl f8)), (t9, .inr (1, [.ref b9, .int (nI tp.length)])), (b9, .inl (c9, 200, .inl f9))]) [0, 5, 6, 7, 8] (by decide) rfl) (hK.sub (tys' := [(c8, .int), (c9, .int)]) [2, 3] rfl) hN 0 rfl rfl) rfl rfl hl.1 rfl (lv_room (Nat.le_of_ble_eq_true rfl)) dX2_writeOldKind_43 ⟨Nat.zero_le _, Nat.zero_le _⟩) hP hD hS hA [0, 5, 6, 7, 8] [1, 2, 3, 4] rfl rfl (by decide) (by decide) (fun u_7 H locs hw_7 hP hD hS => ?_)
            obtain ⟨u_7a, u_7b⟩ := u_7
            obtain ⟨hw_7a, hw_7b⟩ := hw_7
            have e98 : (rw_add 200 tc c0) = (tc ++ [c0]) := (rw_add_lt (by omega))
            have e99 : (rw_add 200 tp y3) = (tp ++ [y3]) := (rw_add_lt (by omega))
            rw [e98] at hw_7a
            rw [e99] at hw_7b
            rw [e98, e99] at hP hD
            have hP : va_P D vwCl [(h, .inr (3, [.ref t0, .ref t1, .ref t2, .ref t3, .ref t4, .ref t5, .ref t6, .ref t7, .ref t8, .ref t9, .int si])), (t1, .inr (2, [.ref b1, .int (nI wr.length)])), (b1, .inl (c1, 400, .inl f1)), (t2, .inr (1, [.ref b2, .int (nI x2.length)])), (b2, .inl (c2, 200, .inl f2)), (t8, .inr (1, [.ref b8, .int (nI (tc ++ [c0]).length)])), (b8, .inl (c8, 200, .inl u_7a)), (t9, .inr (1, [.ref b9, .int (nI (tp ++ [y3]).length)])), (b9, .inl (c9, 200, .inl u_7b))] H := hP.sub [4, 0, 1, 2, 3, 5, 6, 7, 8] rfl
            have hD : va_D A [(h, .inr (3, [.ref t0, .ref t1, .ref t2, .ref t3, .ref t4, .ref t5, .ref t6, .ref t7, .ref t8, .ref t9, .int si])), (t1, .inr (2, [.ref b1, .int (nI wr.length)])), (b1, .inl (c1, 400, .inl f1)), (t2, .inr (1, [.ref b2, .int (nI x2.length)])), (b2, .inl (c2, 200, .inl f2)), (t8, .inr (1, [.ref b8, .int (nI (tc ++ [c0]).length)])), (b8, .inl (c8, 200, .inl u_7a)), (t9, .inr (1, [.ref b9, .int (nI (tp ++ [y3]).length)])), (b9, .inl (c9, 200, .inl u_7b))] := hD.sub [4, 0, 1, 2, 3, 5, 6, 7, 8] (by decide) rfl
            refine lv_goto (tgt := 148) hx hb dX2_writeOldKind_46 (by decide) ?_
            refine lv_iinc (v := (y3 + 1)) (lv' := [(3, .int (y3 + 1)), (4, .int c0), (2, .int y2), (1, .int y1), (0, .ref h)]) hx hb dX2_writeOldKind_148 hl (k := 1) rfl rfl (by decide) rfl (fun ls hl => ?_)
            refine lv_goto (tgt := 6) hx hb dX2_writeOldKind_151 (by decide) ?_
            exact ih (done ++ [c0]) _ _ _ f1 u_7a u_7b _ _ _ H locs ls (by rw [htx]; simp) (by rw [e3, List.length_append]; exact nI_1 _) (by rw [← hB]; simp [List.length_append, woS, c32_1, c36_1]) (by rw [← hC]; simp [List.length_append, woS, c32_1, c36_1]) (by rw [← hQ]; simp [List.length_append, woS, c32_1, c36_1, e3]) o1 hw_7a hw_7b (by simp <;> omega) (by simp <;> omega) hP hD hS (lv_sub hl [0, 2, 3, 4] rfl)
  exact loop x2 [] x1 x8 x9 f1 f8 f9 _ _ _ _ _ ls rfl rfl hB hC hQ o1 o8 o9 hx8 hx9 hP hD hS (lv_sub hl [0, 1, 2, 3] rfl)
end
