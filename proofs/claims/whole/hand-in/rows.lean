section
-- ===== PART A: goes FIRST, ahead of the names: the tables' words, and 'selects' of the private methods out of them =====
/-- a private method of a class that the tables say can be made, by its rows of tables_1 -/
def lw_okq (q : MethodName × Nat) : Prop := (q.1.cls ≠ "java/lang/invoke/MethodHandle" ∧ q.1.cls ≠ "java/lang/invoke/VarHandle") ∧ Cond.instantiable q.1.cls q.2 ∈ tables_1 ∧ Cond.privateMethod q.1 ∈ tables_1 ∧ Cond.instanceMethod q.1 ∈ tables_1
theorem lw_p0 : lw_okq (⟨"JournalDesk", "losesPower", "()Z"⟩, 7) := ⟨⟨by decide +kernel, by decide +kernel⟩, List.mem_of_getElem? (i := 6) (by decide +kernel), List.mem_of_getElem? (i := 78) (by decide +kernel), List.mem_of_getElem? (i := 79) (by decide +kernel)⟩
theorem lw_p1 : lw_okq (⟨"JournalDesk$Ring", "addEntry", "(II)I"⟩, 6) := ⟨⟨by decide +kernel, by decide +kernel⟩, List.mem_of_getElem? (i := 14) (by decide +kernel), List.mem_of_getElem? (i := 87) (by decide +kernel), List.mem_of_getElem? (i := 88) (by decide +kernel)⟩
theorem lw_p2 : lw_okq (⟨"JournalDesk$Ring", "isRecord", "(I)Z"⟩, 6) := ⟨⟨by decide +kernel, by decide +kernel⟩, List.mem_of_getElem? (i := 14) (by decide +kernel), List.mem_of_getElem? (i := 112) (by decide +kernel), List.mem_of_getElem? (i := 113) (by decide +kernel)⟩
theorem lw_p3 : lw_okq (⟨"JournalDesk$Ring", "giveBackOldest", "()V"⟩, 6) := ⟨⟨by decide +kernel, by decide +kernel⟩, List.mem_of_getElem? (i := 14) (by decide +kernel), List.mem_of_getElem? (i := 120) (by decide +kernel), List.mem_of_getElem? (i := 121) (by decide +kernel)⟩
theorem lw_p4 : lw_okq (⟨"JournalDesk$Ring", "sectorsAt", "(I)I"⟩, 6) := ⟨⟨by decide +kernel, by decide +kernel⟩, List.mem_of_getElem? (i := 14) (by decide +kernel), List.mem_of_getElem? (i := 124) (by decide +kernel), List.mem_of_getElem? (i := 125) (by decide +kernel)⟩
theorem lw_p5 : lw_okq (⟨"JournalDesk", "findRecord", "(I)I"⟩, 7) := ⟨⟨by decide +kernel, by decide +kernel⟩, List.mem_of_getElem? (i := 6) (by decide +kernel), List.mem_of_getElem? (i := 140) (by decide +kernel), List.mem_of_getElem? (i := 141) (by decide +kernel)⟩
theorem lw_p6 : lw_okq (⟨"JournalDeskModel", "used", "()I"⟩, 11) := ⟨⟨by decide +kernel, by decide +kernel⟩, List.mem_of_getElem? (i := 170) (by decide +kernel), List.mem_of_getElem? (i := 219) (by decide +kernel), List.mem_of_getElem? (i := 220) (by decide +kernel)⟩
theorem lw_p7 : lw_okq (⟨"JournalDeskModel", "isCut", "()Z"⟩, 11) := ⟨⟨by decide +kernel, by decide +kernel⟩, List.mem_of_getElem? (i := 170) (by decide +kernel), List.mem_of_getElem? (i := 226) (by decide +kernel), List.mem_of_getElem? (i := 227) (by decide +kernel)⟩
theorem lw_p8 : lw_okq (⟨"JournalDeskModel", "records", "()I"⟩, 11) := ⟨⟨by decide +kernel, by decide +kernel⟩, List.mem_of_getElem? (i := 170) (by decide +kernel), List.mem_of_getElem? (i := 234) (by decide +kernel), List.mem_of_getElem? (i := 235) (by decide +kernel)⟩
theorem lw_p9 : lw_okq (⟨"JournalDeskModel", "move", "(II)V"⟩, 11) := ⟨⟨by decide +kernel, by decide +kernel⟩, List.mem_of_getElem? (i := 170) (by decide +kernel), List.mem_of_getElem? (i := 238) (by decide +kernel), List.mem_of_getElem? (i := 239) (by decide +kernel)⟩
theorem lw_p10 : lw_okq (⟨"JournalDeskModel", "placeOf", "(I)I"⟩, 11) := ⟨⟨by decide +kernel, by decide +kernel⟩, List.mem_of_getElem? (i := 170) (by decide +kernel), List.mem_of_getElem? (i := 254) (by decide +kernel), List.mem_of_getElem? (i := 255) (by decide +kernel)⟩
def lw_privs_1 : List (MethodName × Nat) := [(⟨"JournalDesk", "losesPower", "()Z"⟩, 7), (⟨"JournalDesk$Ring", "addEntry", "(II)I"⟩, 6), (⟨"JournalDesk$Ring", "isRecord", "(I)Z"⟩, 6), (⟨"JournalDesk$Ring", "giveBackOldest", "()V"⟩, 6), (⟨"JournalDesk$Ring", "sectorsAt", "(I)I"⟩, 6), (⟨"JournalDesk", "findRecord", "(I)I"⟩, 7), (⟨"JournalDeskModel", "used", "()I"⟩, 11), (⟨"JournalDeskModel", "isCut", "()Z"⟩, 11), (⟨"JournalDeskModel", "records", "()I"⟩, 11), (⟨"JournalDeskModel", "move", "(II)V"⟩, 11), (⟨"JournalDeskModel", "placeOf", "(I)I"⟩, 11)]
theorem lw_r1 : ∀ q ∈ lw_privs_1, lw_okq q := List.forall_mem_cons.mpr ⟨lw_p0, List.forall_mem_cons.mpr ⟨lw_p1, List.forall_mem_cons.mpr ⟨lw_p2, List.forall_mem_cons.mpr ⟨lw_p3, List.forall_mem_cons.mpr ⟨lw_p4, List.forall_mem_cons.mpr ⟨lw_p5, List.forall_mem_cons.mpr ⟨lw_p6, List.forall_mem_cons.mpr ⟨lw_p7, List.forall_mem_cons.mpr ⟨lw_p8, List.forall_mem_cons.mpr ⟨lw_p9, List.forall_mem_cons.mpr ⟨lw_p10, fun _ h => absurd h List.not_mem_nil⟩⟩⟩⟩⟩⟩⟩⟩⟩⟩⟩
def lw_privs : List (MethodName × Nat) := lw_privs_1
def lw_tbl : List Cond := k2_sels lw_privs ++ tables_1
theorem lw_privs_ok : ∀ q ∈ lw_privs, lw_okq q := lw_r1
/-! ===== BEGIN words of one list among another's, by their places ===== -/
theorem goodIn_r {big : List Cond} (ws : List Cond) (ps : List Nat) (hp : ws = ps.filterMap (fun i => big[i]?)) (h : ws.all goodWord = true) : GoodIn big ws := by
  intro w hw
  have h1 := List.all_eq_true.mp h w hw
  rw [hp] at hw
  obtain ⟨i, -, hi⟩ := List.mem_filterMap.mp hw
  have hm : w ∈ big := by first | exact List.mem_of_getElem? hi | exact List.getElem?_mem hi
  exact ⟨hm, good_of_word h1⟩
theorem goodIn_app {big a b : List Cond} (ha : GoodIn big a) (hb : GoodIn big b) : GoodIn big (a ++ b) := fun w h => (List.mem_append.mp h).elim (ha w) (hb w)
theorem goodIn_ca {big a b : List Cond} {c : Cond} (ha : GoodIn big (c :: a)) (hb : GoodIn big b) : GoodIn big (c :: (a ++ b)) := fun w h => (List.mem_cons.mp h).elim (fun e => ha w (List.mem_cons.mpr (Or.inl e))) (fun h => (List.mem_append.mp h).elim (fun h => ha w (List.mem_cons.mpr (Or.inr h))) (hb w))
theorem goodIn_sub {big ws : List Cond} (hm : ∀ w ∈ ws, w ∈ big) (h : ws.all goodWord = true) : GoodIn big ws := fun w hw => ⟨hm w hw, good_of_word (List.all_eq_true.mp h w hw)⟩
/-! ===== END ===== -/

/-! ===== BEGIN printed: names, fields, word lists, decode rows ===== -/
def RX0 : String := "JournalDesk$Ring"
def TX0 : u_T := fun k => match k with
  | 0 => ("JournalDesk$Ring", "disk", "[B", true)
  | 1 => ("JournalDesk$Ring", "lengths", "[I", true)
  | 2 => ("JournalDesk$Ring", "numbers", "[I", true)
  | 3 => ("JournalDesk$Ring", "oldest", "I", false)
  | 4 => ("JournalDesk$Ring", "used", "I", false)
  | _ => ("JournalDesk$Ring", "present", "I", false)
def tyX0 : Nat → FieldType := fun k => match k with
  | 0 => .array .byte
  | 1 => .array .int
  | 2 => .array .int
  | 3 => .int
  | 4 => .int
  | _ => .int
abbrev wsX00 : List Cond := u_ws RX0 TX0 6
theorem nmX0 : ∀ a, a < 6 → ∀ b, b < 6 → a ≠ b → (TX0 a).2.1 ≠ (TX0 b).2.1 := by decide +kernel
theorem tyX0_ok : ∀ k, k < 6 → parseFieldDescriptor (TX0 k).2.2.1 = some (tyX0 k) := by decide +kernel
abbrev cX0_init : ByteArray := prog_2_method_1_code
def yX0_init : MethodName := ⟨RX0, "<init>", "()V"⟩
abbrev cX0_sectorsFor : ByteArray := prog_2_method_2_code
def yX0_sectorsFor : MethodName := ⟨RX0, "sectorsFor", "(I)I"⟩
abbrev cX0_records : ByteArray := prog_2_method_3_code
def yX0_records : MethodName := ⟨RX0, "records", "()I"⟩
abbrev cX0_sectors : ByteArray := prog_2_method_4_code
def yX0_sectors : MethodName := ⟨RX0, "sectors", "()I"⟩
abbrev cX0_hasRoom : ByteArray := prog_2_method_5_code
def yX0_hasRoom : MethodName := ⟨RX0, "hasRoom", "(I)Z"⟩
abbrev cX0_addRecord : ByteArray := prog_2_method_6_code
def yX0_addRecord : MethodName := ⟨RX0, "addRecord", "([BII)V"⟩
abbrev cX0_addDrop : ByteArray := prog_2_method_7_code
def yX0_addDrop : MethodName := ⟨RX0, "addDrop", "(I)V"⟩
abbrev cX0_sectorOfRecord : ByteArray := prog_2_method_8_code
def yX0_sectorOfRecord : MethodName := ⟨RX0, "sectorOfRecord", "(I)I"⟩
abbrev cX0_lengthAt : ByteArray := prog_2_method_9_code
def yX0_lengthAt : MethodName := ⟨RX0, "lengthAt", "(I)I"⟩
abbrev cX0_numberAt : ByteArray := prog_2_method_10_code
def yX0_numberAt : MethodName := ⟨RX0, "numberAt", "(I)I"⟩
abbrev cX0_eightBytes : ByteArray := prog_2_method_11_code
def yX0_eightBytes : MethodName := ⟨RX0, "eightBytes", "(II)J"⟩
abbrev cX0_addEntry : ByteArray := prog_2_method_12_code
def yX0_addEntry : MethodName := ⟨RX0, "addEntry", "(II)I"⟩
abbrev cX0_giveBackOldest : ByteArray := prog_2_method_13_code
def yX0_giveBackOldest : MethodName := ⟨RX0, "giveBackOldest", "()V"⟩
abbrev cX0_isRecord : ByteArray := prog_2_method_14_code
def yX0_isRecord : MethodName := ⟨RX0, "isRecord", "(I)Z"⟩
abbrev cX0_sectorsAt : ByteArray := prog_2_method_15_code
def yX0_sectorsAt : MethodName := ⟨RX0, "sectorsAt", "(I)I"⟩
abbrev cX0_onRing : ByteArray := prog_2_method_16_code
def yX0_onRing : MethodName := ⟨RX0, "onRing", "(I)I"⟩
abbrev cX0_place : ByteArray := prog_2_method_17_code
def yX0_place : MethodName := ⟨RX0, "place", "(II)I"⟩
def RX1 : String := "JournalDesk"
def TX1 : u_T := fun k => match k with
  | 0 => ("JournalDesk", "tape", "[B", true)
  | 1 => ("JournalDesk", "taped", "I", false)
  | 2 => ("JournalDesk", "ring", "LJournalDesk$Ring;", true)
  | 3 => ("JournalDesk", "nextNumber", "I", false)
  | 4 => ("JournalDesk", "wholeEntries", "I", false)
  | 5 => ("JournalDesk", "power", "Z", false)
  | _ => ("JournalDesk", "cutNext", "Z", false)
def tyX1 : Nat → FieldType := fun k => match k with
  | 0 => .array .byte
  | 1 => .int
  | 2 => .object "JournalDesk$Ring"
  | 3 => .int
  | 4 => .int
  | 5 => .boolean
  | _ => .boolean
abbrev wsX10 : List Cond := u_ws RX1 TX1 7
theorem nmX1 : ∀ a, a < 7 → ∀ b, b < 7 → a ≠ b → (TX1 a).2.1 ≠ (TX1 b).2.1 := by decide +kernel
theorem tyX1_ok : ∀ k, k < 7 → parseFieldDescriptor (TX1 k).2.2.1 = some (tyX1 k) := by decide +kernel
abbrev cX1_init : ByteArray := prog_1_method_1_code
def yX1_init : MethodName := ⟨RX1, "<init>", "()V"⟩
abbrev cX1_put : ByteArray := prog_1_method_2_code
def yX1_put : MethodName := ⟨RX1, "put", "(JI)Z"⟩
abbrev cX1_write : ByteArray := prog_1_method_3_code
def yX1_write : MethodName := ⟨RX1, "write", "()I"⟩
abbrev cX1_drop : ByteArray := prog_1_method_4_code
def yX1_drop : MethodName := ⟨RX1, "drop", "(I)I"⟩
abbrev cX1_cut : ByteArray := prog_1_method_5_code
def yX1_cut : MethodName := ⟨RX1, "cut", "(I)Z"⟩
abbrev cX1_start : ByteArray := prog_1_method_6_code
def yX1_start : MethodName := ⟨RX1, "start", "()I"⟩
abbrev cX1_record : ByteArray := prog_1_method_7_code
def yX1_record : MethodName := ⟨RX1, "record", "(II)I"⟩
abbrev cX1_bytes : ByteArray := prog_1_method_8_code
def yX1_bytes : MethodName := ⟨RX1, "bytes", "(II)J"⟩
abbrev cX1_count : ByteArray := prog_1_method_9_code
def yX1_count : MethodName := ⟨RX1, "count", "(I)I"⟩
abbrev cX1_losesPower : ByteArray := prog_1_method_10_code
def yX1_losesPower : MethodName := ⟨RX1, "losesPower", "()Z"⟩
abbrev cX1_findRecord : ByteArray := prog_1_method_11_code
def yX1_findRecord : MethodName := ⟨RX1, "findRecord", "(I)I"⟩
def RX2 : String := "JournalDeskModel"
def TX2 : u_T := fun k => match k with
  | 0 => ("JournalDeskModel", "tape", "[I", true)
  | 1 => ("JournalDeskModel", "taped", "I", false)
  | 2 => ("JournalDeskModel", "kept", "I", false)
  | 3 => ("JournalDeskModel", "isRecord", "[Z", true)
  | 4 => ("JournalDeskModel", "sizes", "[I", true)
  | 5 => ("JournalDeskModel", "numbers", "[I", true)
  | 6 => ("JournalDeskModel", "bytes", "[I", true)
  | 7 => ("JournalDeskModel", "next", "I", false)
  | 8 => ("JournalDeskModel", "whole", "I", false)
  | 9 => ("JournalDeskModel", "off", "Z", false)
  | _ => ("JournalDeskModel", "cutting", "I", false)
def tyX2 : Nat → FieldType := fun k => match k with
  | 0 => .array .int
  | 1 => .int
  | 2 => .int
  | 3 => .array .boolean
  | 4 => .array .int
  | 5 => .array .int
  | 6 => .array .int
  | 7 => .int
  | 8 => .int
  | 9 => .boolean
  | _ => .int
abbrev wsX20 : List Cond := u_ws RX2 TX2 11
theorem nmX2 : ∀ a, a < 11 → ∀ b, b < 11 → a ≠ b → (TX2 a).2.1 ≠ (TX2 b).2.1 := by decide +kernel
theorem tyX2_ok : ∀ k, k < 11 → parseFieldDescriptor (TX2 k).2.2.1 = some (tyX2 k) := by decide +kernel
abbrev cX2_init : ByteArray := prog_4_method_1_code
def yX2_init : MethodName := ⟨RX2, "<init>", "()V"⟩
abbrev cX2_put : ByteArray := prog_4_method_2_code
def yX2_put : MethodName := ⟨RX2, "put", "(JI)Z"⟩
abbrev cX2_sectorsOf : ByteArray := prog_4_method_3_code
def yX2_sectorsOf : MethodName := ⟨RX2, "sectorsOf", "(I)I"⟩
abbrev cX2_used : ByteArray := prog_4_method_4_code
def yX2_used : MethodName := ⟨RX2, "used", "()I"⟩
abbrev cX2_records : ByteArray := prog_4_method_5_code
def yX2_records : MethodName := ⟨RX2, "records", "()I"⟩
abbrev cX2_isCut : ByteArray := prog_4_method_6_code
def yX2_isCut : MethodName := ⟨RX2, "isCut", "()Z"⟩
abbrev cX2_write : ByteArray := prog_4_method_7_code
def yX2_write : MethodName := ⟨RX2, "write", "()I"⟩
abbrev cX2_drop : ByteArray := prog_4_method_9_code
def yX2_drop : MethodName := ⟨RX2, "drop", "(I)I"⟩
def RJ9 : String := "java/lang/Math"
def TJ9 : u_T := fun k => match k with
  | _ => ("", "", "", false)
def tyJ9 : Nat → FieldType := fun k => match k with
  | _ => .int
abbrev wsJ90 : List Cond := u_ws RJ9 TJ9 0
theorem nmJ9 : ∀ a, a < 0 → ∀ b, b < 0 → a ≠ b → (TJ9 a).2.1 ≠ (TJ9 b).2.1 := by decide +kernel
theorem tyJ9_ok : ∀ k, k < 0 → parseFieldDescriptor (TJ9 k).2.2.1 = some (tyJ9 k) := by decide +kernel
abbrev cJ9_floorMod_7cf53 : ByteArray := prog_5_method_50_code
def yJ9_floorMod_7cf53 : MethodName := ⟨RJ9, "floorMod", "(II)I"⟩
def RL : String := "JournalDeskLaw"
abbrev cL_law : ByteArray := code
def yL_law : MethodName := ⟨RL, "law", "([I)Z"⟩
def wsX0_init : List Cond := .code yX0_init cX0_init 1 none :: ([.methodLink RX0 5 objectInit, .instanceMethod objectInit, .code objectInit ⟨#[0xb1]⟩ 1 none, .arrayClass .byte, .fieldLink RX0 11 "JournalDesk$Ring" "disk" "[B", .arrayClass .int, .fieldLink RX0 15 "JournalDesk$Ring" "lengths" "[I", .fieldLink RX0 19 "JournalDesk$Ring" "numbers" "[I", .fieldLink RX0 22 "JournalDesk$Ring" "oldest" "I", .fieldLink RX0 26 "JournalDesk$Ring" "used" "I", .fieldLink RX0 29 "JournalDesk$Ring" "present" "I"] ++ wsX00)
def wsX0_sectorsFor : List Cond := .code yX0_sectorsFor cX0_sectorsFor 1 (some .int) :: ([])
def wsX0_records : List Cond := .code yX0_records cX0_records 1 (some .int) :: ([.fieldLink RX0 29 "JournalDesk$Ring" "present" "I"] ++ wsX00)
def wsX0_sectors : List Cond := .code yX0_sectors cX0_sectors 1 (some .int) :: ([.fieldLink RX0 26 "JournalDesk$Ring" "used" "I"] ++ wsX00)
def wsX0_hasRoom : List Cond := .code yX0_hasRoom cX0_hasRoom 2 (some .boolean) :: ([.fieldLink RX0 26 "JournalDesk$Ring" "used" "I"] ++ wsX00)
def wsJ9_floorMod_7cf53 : List Cond := .code yJ9_floorMod_7cf53 cJ9_floorMod_7cf53 3 (some .int) :: ([])
def wsX0_onRing : List Cond := .code yX0_onRing cX0_onRing 1 (some .int) :: ([.methodLink RX0 59 yJ9_floorMod_7cf53, .static yJ9_floorMod_7cf53, .initialized RJ9, .code yJ9_floorMod_7cf53 cJ9_floorMod_7cf53 3 (some .int)])
def wsX0_addEntry : List Cond := .code yX0_addEntry cX0_addEntry 4 (some .int) :: ([.fieldLink RX0 22 "JournalDesk$Ring" "oldest" "I", .fieldLink RX0 26 "JournalDesk$Ring" "used" "I", .fieldLink RX0 15 "JournalDesk$Ring" "lengths" "[I", .methodLink RX0 53 yX0_onRing, .static yX0_onRing, .initialized RX0, .code yX0_onRing cX0_onRing 1 (some .int), .methodLink RX0 59 yJ9_floorMod_7cf53, .static yJ9_floorMod_7cf53, .initialized RJ9, .code yJ9_floorMod_7cf53 cJ9_floorMod_7cf53 3 (some .int)] ++ wsX00)
def wsX0_place : List Cond := .code yX0_place cX0_place 2 (some .int) :: ([.methodLink RX0 59 yJ9_floorMod_7cf53, .static yJ9_floorMod_7cf53, .initialized RJ9, .code yJ9_floorMod_7cf53 cJ9_floorMod_7cf53 3 (some .int)])
def wsX0_addRecord : List Cond := .code yX0_addRecord cX0_addRecord 6 none :: ([.fieldLink RX0 19 "JournalDesk$Ring" "numbers" "[I", .fieldLink RX0 11 "JournalDesk$Ring" "disk" "[B", .fieldLink RX0 29 "JournalDesk$Ring" "present" "I", .methodLink RX0 32 yX0_sectorsFor, .static yX0_sectorsFor, .initialized RX0, .code yX0_sectorsFor cX0_sectorsFor 1 (some .int), .methodLink RX0 36 yX0_addEntry, .instanceMethod yX0_addEntry, .selects RX0 yX0_addEntry yX0_addEntry, .code yX0_addEntry cX0_addEntry 4 (some .int), .fieldLink RX0 22 "JournalDesk$Ring" "oldest" "I", .fieldLink RX0 26 "JournalDesk$Ring" "used" "I", .fieldLink RX0 15 "JournalDesk$Ring" "lengths" "[I", .methodLink RX0 53 yX0_onRing, .static yX0_onRing, .code yX0_onRing cX0_onRing 1 (some .int), .methodLink RX0 59 yJ9_floorMod_7cf53, .static yJ9_floorMod_7cf53, .initialized RJ9, .code yJ9_floorMod_7cf53 cJ9_floorMod_7cf53 3 (some .int), .methodLink RX0 40 yX0_place, .static yX0_place, .code yX0_place cX0_place 2 (some .int)] ++ wsX00)
def wsX0_lengthAt : List Cond := .code yX0_lengthAt cX0_lengthAt 2 (some .int) :: ([.fieldLink RX0 15 "JournalDesk$Ring" "lengths" "[I", .methodLink RX0 53 yX0_onRing, .static yX0_onRing, .initialized RX0, .code yX0_onRing cX0_onRing 1 (some .int), .methodLink RX0 59 yJ9_floorMod_7cf53, .static yJ9_floorMod_7cf53, .initialized RJ9, .code yJ9_floorMod_7cf53 cJ9_floorMod_7cf53 3 (some .int)] ++ wsX00)
def wsX0_isRecord : List Cond := .code yX0_isRecord cX0_isRecord 2 (some .boolean) :: ([.methodLink RX0 56 yX0_lengthAt, .instanceMethod yX0_lengthAt, .selects RX0 yX0_lengthAt yX0_lengthAt, .initialized RX0, .code yX0_lengthAt cX0_lengthAt 2 (some .int), .fieldLink RX0 15 "JournalDesk$Ring" "lengths" "[I", .methodLink RX0 53 yX0_onRing, .static yX0_onRing, .code yX0_onRing cX0_onRing 1 (some .int), .methodLink RX0 59 yJ9_floorMod_7cf53, .static yJ9_floorMod_7cf53, .initialized RJ9, .code yJ9_floorMod_7cf53 cJ9_floorMod_7cf53 3 (some .int)] ++ wsX00)
def wsX0_sectorsAt : List Cond := .code yX0_sectorsAt cX0_sectorsAt 2 (some .int) :: ([.methodLink RX0 43 yX0_isRecord, .instanceMethod yX0_isRecord, .selects RX0 yX0_isRecord yX0_isRecord, .initialized RX0, .code yX0_isRecord cX0_isRecord 2 (some .boolean), .methodLink RX0 56 yX0_lengthAt, .instanceMethod yX0_lengthAt, .selects RX0 yX0_lengthAt yX0_lengthAt, .code yX0_lengthAt cX0_lengthAt 2 (some .int), .fieldLink RX0 15 "JournalDesk$Ring" "lengths" "[I", .methodLink RX0 53 yX0_onRing, .static yX0_onRing, .code yX0_onRing cX0_onRing 1 (some .int), .methodLink RX0 59 yJ9_floorMod_7cf53, .static yJ9_floorMod_7cf53, .initialized RJ9, .code yJ9_floorMod_7cf53 cJ9_floorMod_7cf53 3 (some .int), .methodLink RX0 32 yX0_sectorsFor, .static yX0_sectorsFor, .code yX0_sectorsFor cX0_sectorsFor 1 (some .int)] ++ wsX00)
def wsX0_giveBackOldest_r1 : List Cond := [Cond.fieldLink RX0 22 "JournalDesk$Ring" "oldest" "I", Cond.fieldLink RX0 26 "JournalDesk$Ring" "used" "I", Cond.methodLink RX0 50 yX0_sectorsAt, Cond.instanceMethod yX0_sectorsAt, Cond.selects RX0 yX0_sectorsAt yX0_sectorsAt, Cond.initialized RX0, Cond.code yX0_sectorsAt cX0_sectorsAt 2 (some .int), Cond.methodLink RX0 43 yX0_isRecord, Cond.instanceMethod yX0_isRecord, Cond.selects RX0 yX0_isRecord yX0_isRecord, Cond.code yX0_isRecord cX0_isRecord 2 (some .boolean), Cond.methodLink RX0 56 yX0_lengthAt, Cond.instanceMethod yX0_lengthAt, Cond.selects RX0 yX0_lengthAt yX0_lengthAt, Cond.code yX0_lengthAt cX0_lengthAt 2 (some .int), Cond.fieldLink RX0 15 "JournalDesk$Ring" "lengths" "[I", Cond.methodLink RX0 53 yX0_onRing, Cond.static yX0_onRing, Cond.code yX0_onRing cX0_onRing 1 (some .int), Cond.methodLink RX0 59 yJ9_floorMod_7cf53, Cond.static yJ9_floorMod_7cf53, Cond.initialized RJ9, Cond.code yJ9_floorMod_7cf53 cJ9_floorMod_7cf53 3 (some .int), Cond.methodLink RX0 32 yX0_sectorsFor]
def wsX0_giveBackOldest_r2 : List Cond := [Cond.static yX0_sectorsFor, Cond.code yX0_sectorsFor cX0_sectorsFor 1 (some .int)]
def wsX0_giveBackOldest : List Cond := .code yX0_giveBackOldest cX0_giveBackOldest 2 none :: ((wsX0_giveBackOldest_r1 ++ wsX0_giveBackOldest_r2) ++ wsX00)
def wsX0_addDrop_r1 : List Cond := [Cond.fieldLink RX0 29 "JournalDesk$Ring" "present" "I", Cond.fieldLink RX0 22 "JournalDesk$Ring" "oldest" "I", Cond.methodLink RX0 36 yX0_addEntry, Cond.instanceMethod yX0_addEntry, Cond.selects RX0 yX0_addEntry yX0_addEntry, Cond.initialized RX0, Cond.code yX0_addEntry cX0_addEntry 4 (some .int), Cond.fieldLink RX0 26 "JournalDesk$Ring" "used" "I", Cond.fieldLink RX0 15 "JournalDesk$Ring" "lengths" "[I", Cond.methodLink RX0 53 yX0_onRing, Cond.static yX0_onRing, Cond.code yX0_onRing cX0_onRing 1 (some .int), Cond.methodLink RX0 59 yJ9_floorMod_7cf53, Cond.static yJ9_floorMod_7cf53, Cond.initialized RJ9, Cond.code yJ9_floorMod_7cf53 cJ9_floorMod_7cf53 3 (some .int), Cond.methodLink RX0 43 yX0_isRecord, Cond.instanceMethod yX0_isRecord, Cond.selects RX0 yX0_isRecord yX0_isRecord, Cond.code yX0_isRecord cX0_isRecord 2 (some .boolean), Cond.methodLink RX0 56 yX0_lengthAt, Cond.instanceMethod yX0_lengthAt, Cond.selects RX0 yX0_lengthAt yX0_lengthAt, Cond.code yX0_lengthAt cX0_lengthAt 2 (some .int)]
def wsX0_addDrop_r2 : List Cond := [Cond.methodLink RX0 47 yX0_giveBackOldest, Cond.instanceMethod yX0_giveBackOldest, Cond.selects RX0 yX0_giveBackOldest yX0_giveBackOldest, Cond.code yX0_giveBackOldest cX0_giveBackOldest 2 none, Cond.methodLink RX0 50 yX0_sectorsAt, Cond.instanceMethod yX0_sectorsAt, Cond.selects RX0 yX0_sectorsAt yX0_sectorsAt, Cond.code yX0_sectorsAt cX0_sectorsAt 2 (some .int), Cond.methodLink RX0 32 yX0_sectorsFor, Cond.static yX0_sectorsFor, Cond.code yX0_sectorsFor cX0_sectorsFor 1 (some .int)]
def wsX0_addDrop : List Cond := .code yX0_addDrop cX0_addDrop 5 none :: ((wsX0_addDrop_r1 ++ wsX0_addDrop_r2) ++ wsX00)
def wsX0_sectorOfRecord_r1 : List Cond := [Cond.fieldLink RX0 29 "JournalDesk$Ring" "present" "I", Cond.fieldLink RX0 22 "JournalDesk$Ring" "oldest" "I", Cond.methodLink RX0 43 yX0_isRecord, Cond.instanceMethod yX0_isRecord, Cond.selects RX0 yX0_isRecord yX0_isRecord, Cond.initialized RX0, Cond.code yX0_isRecord cX0_isRecord 2 (some .boolean), Cond.methodLink RX0 56 yX0_lengthAt, Cond.instanceMethod yX0_lengthAt, Cond.selects RX0 yX0_lengthAt yX0_lengthAt, Cond.code yX0_lengthAt cX0_lengthAt 2 (some .int), Cond.fieldLink RX0 15 "JournalDesk$Ring" "lengths" "[I", Cond.methodLink RX0 53 yX0_onRing, Cond.static yX0_onRing, Cond.code yX0_onRing cX0_onRing 1 (some .int), Cond.methodLink RX0 59 yJ9_floorMod_7cf53, Cond.static yJ9_floorMod_7cf53, Cond.initialized RJ9, Cond.code yJ9_floorMod_7cf53 cJ9_floorMod_7cf53 3 (some .int), Cond.methodLink RX0 50 yX0_sectorsAt, Cond.instanceMethod yX0_sectorsAt, Cond.selects RX0 yX0_sectorsAt yX0_sectorsAt, Cond.code yX0_sectorsAt cX0_sectorsAt 2 (some .int), Cond.methodLink RX0 32 yX0_sectorsFor]
def wsX0_sectorOfRecord_r2 : List Cond := [Cond.static yX0_sectorsFor, Cond.code yX0_sectorsFor cX0_sectorsFor 1 (some .int)]
def wsX0_sectorOfRecord : List Cond := .code yX0_sectorOfRecord cX0_sectorOfRecord 5 (some .int) :: ((wsX0_sectorOfRecord_r1 ++ wsX0_sectorOfRecord_r2) ++ wsX00)
def wsX0_numberAt : List Cond := .code yX0_numberAt cX0_numberAt 2 (some .int) :: ([.fieldLink RX0 19 "JournalDesk$Ring" "numbers" "[I", .methodLink RX0 53 yX0_onRing, .static yX0_onRing, .initialized RX0, .code yX0_onRing cX0_onRing 1 (some .int), .methodLink RX0 59 yJ9_floorMod_7cf53, .static yJ9_floorMod_7cf53, .initialized RJ9, .code yJ9_floorMod_7cf53 cJ9_floorMod_7cf53 3 (some .int)] ++ wsX00)
def wsX0_eightBytes : List Cond := .code yX0_eightBytes cX0_eightBytes 8 (some .long) :: ([.fieldLink RX0 11 "JournalDesk$Ring" "disk" "[B", .methodLink RX0 56 yX0_lengthAt, .instanceMethod yX0_lengthAt, .selects RX0 yX0_lengthAt yX0_lengthAt, .initialized RX0, .code yX0_lengthAt cX0_lengthAt 2 (some .int), .fieldLink RX0 15 "JournalDesk$Ring" "lengths" "[I", .methodLink RX0 53 yX0_onRing, .static yX0_onRing, .code yX0_onRing cX0_onRing 1 (some .int), .methodLink RX0 59 yJ9_floorMod_7cf53, .static yJ9_floorMod_7cf53, .initialized RJ9, .code yJ9_floorMod_7cf53 cJ9_floorMod_7cf53 3 (some .int), .methodLink RX0 40 yX0_place, .static yX0_place, .code yX0_place cX0_place 2 (some .int)] ++ wsX00)
def wsX1_init_r1 : List Cond := [Cond.methodLink RX1 1 objectInit, Cond.instanceMethod objectInit, Cond.code objectInit ⟨#[0xb1]⟩ 1 none, Cond.arrayClass .byte, Cond.fieldLink RX1 9 "JournalDesk" "tape" "[B", Cond.fieldLink RX1 13 "JournalDesk" "taped" "I", Cond.classLink RX1 17 RX0, Cond.instantiable RX0 6, Cond.initialized RX0, Cond.fieldLink RX1 20 "JournalDesk" "ring" "LJournalDesk$Ring;", Cond.fieldLink RX1 24 "JournalDesk" "nextNumber" "I", Cond.fieldLink RX1 27 "JournalDesk" "wholeEntries" "I", Cond.fieldLink RX1 30 "JournalDesk" "power" "Z", Cond.fieldLink RX1 34 "JournalDesk" "cutNext" "Z", Cond.methodLink RX1 19 yX0_init, Cond.instanceMethod yX0_init, Cond.code yX0_init cX0_init 1 none, Cond.methodLink RX0 5 objectInit, Cond.fieldLink RX0 11 "JournalDesk$Ring" "disk" "[B", Cond.arrayClass .int, Cond.fieldLink RX0 15 "JournalDesk$Ring" "lengths" "[I", Cond.fieldLink RX0 19 "JournalDesk$Ring" "numbers" "[I", Cond.fieldLink RX0 22 "JournalDesk$Ring" "oldest" "I", Cond.fieldLink RX0 26 "JournalDesk$Ring" "used" "I"]
def wsX1_init_r2 : List Cond := [Cond.fieldLink RX0 29 "JournalDesk$Ring" "present" "I"]
def wsX1_init : List Cond := .code yX1_init cX1_init 1 none :: ((wsX1_init_r1 ++ wsX1_init_r2) ++ wsX10 ++ wsX00)
def wsX1_put : List Cond := .code yX1_put cX1_put 5 (some .boolean) :: ([.fieldLink RX1 13 "JournalDesk" "taped" "I", .fieldLink RX1 9 "JournalDesk" "tape" "[B"] ++ wsX10)
def wsX1_losesPower : List Cond := .code yX1_losesPower cX1_losesPower 1 (some .boolean) :: ([.fieldLink RX1 34 "JournalDesk" "cutNext" "Z", .fieldLink RX1 30 "JournalDesk" "power" "Z"] ++ wsX10)
def wsX1_write_r1 : List Cond := [Cond.fieldLink RX1 30 "JournalDesk" "power" "Z", Cond.fieldLink RX1 20 "JournalDesk" "ring" "LJournalDesk$Ring;", Cond.fieldLink RX1 13 "JournalDesk" "taped" "I", Cond.fieldLink RX1 24 "JournalDesk" "nextNumber" "I", Cond.fieldLink RX1 9 "JournalDesk" "tape" "[B", Cond.fieldLink RX1 27 "JournalDesk" "wholeEntries" "I", Cond.methodLink RX1 37 yX0_sectorsFor, Cond.static yX0_sectorsFor, Cond.initialized RX0, Cond.code yX0_sectorsFor cX0_sectorsFor 1 (some .int), Cond.methodLink RX1 41 yX0_hasRoom, Cond.instanceMethod yX0_hasRoom, Cond.selects RX0 yX0_hasRoom yX0_hasRoom, Cond.code yX0_hasRoom cX0_hasRoom 2 (some .boolean), Cond.fieldLink RX0 26 "JournalDesk$Ring" "used" "I", Cond.methodLink RX1 45 yX1_losesPower, Cond.instanceMethod yX1_losesPower, Cond.selects RX1 yX1_losesPower yX1_losesPower, Cond.initialized RX1, Cond.code yX1_losesPower cX1_losesPower 1 (some .boolean), Cond.fieldLink RX1 34 "JournalDesk" "cutNext" "Z", Cond.methodLink RX1 49 yX0_addRecord, Cond.instanceMethod yX0_addRecord, Cond.selects RX0 yX0_addRecord yX0_addRecord]
def wsX1_write_r2 : List Cond := [Cond.code yX0_addRecord cX0_addRecord 6 none, Cond.fieldLink RX0 19 "JournalDesk$Ring" "numbers" "[I", Cond.fieldLink RX0 11 "JournalDesk$Ring" "disk" "[B", Cond.fieldLink RX0 29 "JournalDesk$Ring" "present" "I", Cond.methodLink RX0 32 yX0_sectorsFor, Cond.methodLink RX0 36 yX0_addEntry, Cond.instanceMethod yX0_addEntry, Cond.selects RX0 yX0_addEntry yX0_addEntry, Cond.code yX0_addEntry cX0_addEntry 4 (some .int), Cond.fieldLink RX0 22 "JournalDesk$Ring" "oldest" "I", Cond.fieldLink RX0 15 "JournalDesk$Ring" "lengths" "[I", Cond.methodLink RX0 53 yX0_onRing, Cond.static yX0_onRing, Cond.code yX0_onRing cX0_onRing 1 (some .int), Cond.methodLink RX0 59 yJ9_floorMod_7cf53, Cond.static yJ9_floorMod_7cf53, Cond.initialized RJ9, Cond.code yJ9_floorMod_7cf53 cJ9_floorMod_7cf53 3 (some .int), Cond.methodLink RX0 40 yX0_place, Cond.static yX0_place, Cond.code yX0_place cX0_place 2 (some .int)]
def wsX1_write : List Cond := .code yX1_write cX1_write 3 (some .int) :: ((wsX1_write_r1 ++ wsX1_write_r2) ++ wsX10 ++ wsX00)
def wsX1_drop_r1 : List Cond := [Cond.fieldLink RX1 30 "JournalDesk" "power" "Z", Cond.fieldLink RX1 20 "JournalDesk" "ring" "LJournalDesk$Ring;", Cond.fieldLink RX1 27 "JournalDesk" "wholeEntries" "I", Cond.methodLink RX1 53 yX0_records, Cond.instanceMethod yX0_records, Cond.selects RX0 yX0_records yX0_records, Cond.initialized RX0, Cond.code yX0_records cX0_records 1 (some .int), Cond.fieldLink RX0 29 "JournalDesk$Ring" "present" "I", Cond.methodLink RX1 41 yX0_hasRoom, Cond.instanceMethod yX0_hasRoom, Cond.selects RX0 yX0_hasRoom yX0_hasRoom, Cond.code yX0_hasRoom cX0_hasRoom 2 (some .boolean), Cond.fieldLink RX0 26 "JournalDesk$Ring" "used" "I", Cond.methodLink RX1 45 yX1_losesPower, Cond.instanceMethod yX1_losesPower, Cond.selects RX1 yX1_losesPower yX1_losesPower, Cond.initialized RX1, Cond.code yX1_losesPower cX1_losesPower 1 (some .boolean), Cond.fieldLink RX1 34 "JournalDesk" "cutNext" "Z", Cond.methodLink RX1 57 yX0_addDrop, Cond.instanceMethod yX0_addDrop, Cond.selects RX0 yX0_addDrop yX0_addDrop, Cond.code yX0_addDrop cX0_addDrop 5 none]
def wsX1_drop_r2 : List Cond := [Cond.fieldLink RX0 22 "JournalDesk$Ring" "oldest" "I", Cond.methodLink RX0 36 yX0_addEntry, Cond.instanceMethod yX0_addEntry, Cond.selects RX0 yX0_addEntry yX0_addEntry, Cond.code yX0_addEntry cX0_addEntry 4 (some .int), Cond.fieldLink RX0 15 "JournalDesk$Ring" "lengths" "[I", Cond.methodLink RX0 53 yX0_onRing, Cond.static yX0_onRing, Cond.code yX0_onRing cX0_onRing 1 (some .int), Cond.methodLink RX0 59 yJ9_floorMod_7cf53, Cond.static yJ9_floorMod_7cf53, Cond.initialized RJ9, Cond.code yJ9_floorMod_7cf53 cJ9_floorMod_7cf53 3 (some .int), Cond.methodLink RX0 43 yX0_isRecord, Cond.instanceMethod yX0_isRecord, Cond.selects RX0 yX0_isRecord yX0_isRecord, Cond.code yX0_isRecord cX0_isRecord 2 (some .boolean), Cond.methodLink RX0 56 yX0_lengthAt, Cond.instanceMethod yX0_lengthAt, Cond.selects RX0 yX0_lengthAt yX0_lengthAt, Cond.code yX0_lengthAt cX0_lengthAt 2 (some .int), Cond.methodLink RX0 47 yX0_giveBackOldest, Cond.instanceMethod yX0_giveBackOldest, Cond.selects RX0 yX0_giveBackOldest yX0_giveBackOldest]
def wsX1_drop_r3 : List Cond := [Cond.code yX0_giveBackOldest cX0_giveBackOldest 2 none, Cond.methodLink RX0 50 yX0_sectorsAt, Cond.instanceMethod yX0_sectorsAt, Cond.selects RX0 yX0_sectorsAt yX0_sectorsAt, Cond.code yX0_sectorsAt cX0_sectorsAt 2 (some .int), Cond.methodLink RX0 32 yX0_sectorsFor, Cond.static yX0_sectorsFor, Cond.code yX0_sectorsFor cX0_sectorsFor 1 (some .int)]
def wsX1_drop : List Cond := .code yX1_drop cX1_drop 2 (some .int) :: ((wsX1_drop_r1 ++ (wsX1_drop_r2 ++ wsX1_drop_r3)) ++ wsX10 ++ wsX00)
def wsX1_cut : List Cond := .code yX1_cut cX1_cut 2 (some .boolean) :: ([.fieldLink RX1 34 "JournalDesk" "cutNext" "Z"] ++ wsX10)
def wsX1_start : List Cond := .code yX1_start cX1_start 1 (some .int) :: ([.fieldLink RX1 30 "JournalDesk" "power" "Z", .fieldLink RX1 20 "JournalDesk" "ring" "LJournalDesk$Ring;", .methodLink RX1 53 yX0_records, .instanceMethod yX0_records, .selects RX0 yX0_records yX0_records, .initialized RX0, .code yX0_records cX0_records 1 (some .int), .fieldLink RX0 29 "JournalDesk$Ring" "present" "I"] ++ wsX10 ++ wsX00)
def wsX1_findRecord_r1 : List Cond := [Cond.fieldLink RX1 30 "JournalDesk" "power" "Z", Cond.fieldLink RX1 20 "JournalDesk" "ring" "LJournalDesk$Ring;", Cond.methodLink RX1 79 yX0_sectorOfRecord, Cond.instanceMethod yX0_sectorOfRecord, Cond.selects RX0 yX0_sectorOfRecord yX0_sectorOfRecord, Cond.initialized RX0, Cond.code yX0_sectorOfRecord cX0_sectorOfRecord 5 (some .int), Cond.fieldLink RX0 29 "JournalDesk$Ring" "present" "I", Cond.fieldLink RX0 22 "JournalDesk$Ring" "oldest" "I", Cond.methodLink RX0 43 yX0_isRecord, Cond.instanceMethod yX0_isRecord, Cond.selects RX0 yX0_isRecord yX0_isRecord, Cond.code yX0_isRecord cX0_isRecord 2 (some .boolean), Cond.methodLink RX0 56 yX0_lengthAt, Cond.instanceMethod yX0_lengthAt, Cond.selects RX0 yX0_lengthAt yX0_lengthAt, Cond.code yX0_lengthAt cX0_lengthAt 2 (some .int), Cond.fieldLink RX0 15 "JournalDesk$Ring" "lengths" "[I", Cond.methodLink RX0 53 yX0_onRing, Cond.static yX0_onRing, Cond.code yX0_onRing cX0_onRing 1 (some .int), Cond.methodLink RX0 59 yJ9_floorMod_7cf53, Cond.static yJ9_floorMod_7cf53, Cond.initialized RJ9]
def wsX1_findRecord_r2 : List Cond := [Cond.code yJ9_floorMod_7cf53 cJ9_floorMod_7cf53 3 (some .int), Cond.methodLink RX0 50 yX0_sectorsAt, Cond.instanceMethod yX0_sectorsAt, Cond.selects RX0 yX0_sectorsAt yX0_sectorsAt, Cond.code yX0_sectorsAt cX0_sectorsAt 2 (some .int), Cond.methodLink RX0 32 yX0_sectorsFor, Cond.static yX0_sectorsFor, Cond.code yX0_sectorsFor cX0_sectorsFor 1 (some .int)]
def wsX1_findRecord : List Cond := .code yX1_findRecord cX1_findRecord 2 (some .int) :: ((wsX1_findRecord_r1 ++ wsX1_findRecord_r2) ++ wsX10 ++ wsX00)
def wsX1_record_r1 : List Cond := [Cond.fieldLink RX1 20 "JournalDesk" "ring" "LJournalDesk$Ring;", Cond.methodLink RX1 61 yX1_findRecord, Cond.instanceMethod yX1_findRecord, Cond.selects RX1 yX1_findRecord yX1_findRecord, Cond.initialized RX1, Cond.code yX1_findRecord cX1_findRecord 2 (some .int), Cond.fieldLink RX1 30 "JournalDesk" "power" "Z", Cond.methodLink RX1 79 yX0_sectorOfRecord, Cond.instanceMethod yX0_sectorOfRecord, Cond.selects RX0 yX0_sectorOfRecord yX0_sectorOfRecord, Cond.initialized RX0, Cond.code yX0_sectorOfRecord cX0_sectorOfRecord 5 (some .int), Cond.fieldLink RX0 29 "JournalDesk$Ring" "present" "I", Cond.fieldLink RX0 22 "JournalDesk$Ring" "oldest" "I", Cond.methodLink RX0 43 yX0_isRecord, Cond.instanceMethod yX0_isRecord, Cond.selects RX0 yX0_isRecord yX0_isRecord, Cond.code yX0_isRecord cX0_isRecord 2 (some .boolean), Cond.methodLink RX0 56 yX0_lengthAt, Cond.instanceMethod yX0_lengthAt, Cond.selects RX0 yX0_lengthAt yX0_lengthAt, Cond.code yX0_lengthAt cX0_lengthAt 2 (some .int), Cond.fieldLink RX0 15 "JournalDesk$Ring" "lengths" "[I", Cond.methodLink RX0 53 yX0_onRing]
def wsX1_record_r2 : List Cond := [Cond.static yX0_onRing, Cond.code yX0_onRing cX0_onRing 1 (some .int), Cond.methodLink RX0 59 yJ9_floorMod_7cf53, Cond.static yJ9_floorMod_7cf53, Cond.initialized RJ9, Cond.code yJ9_floorMod_7cf53 cJ9_floorMod_7cf53 3 (some .int), Cond.methodLink RX0 50 yX0_sectorsAt, Cond.instanceMethod yX0_sectorsAt, Cond.selects RX0 yX0_sectorsAt yX0_sectorsAt, Cond.code yX0_sectorsAt cX0_sectorsAt 2 (some .int), Cond.methodLink RX0 32 yX0_sectorsFor, Cond.static yX0_sectorsFor, Cond.code yX0_sectorsFor cX0_sectorsFor 1 (some .int), Cond.methodLink RX1 64 yX0_lengthAt, Cond.methodLink RX1 67 yX0_numberAt, Cond.instanceMethod yX0_numberAt, Cond.selects RX0 yX0_numberAt yX0_numberAt, Cond.code yX0_numberAt cX0_numberAt 2 (some .int), Cond.fieldLink RX0 19 "JournalDesk$Ring" "numbers" "[I"]
def wsX1_record : List Cond := .code yX1_record cX1_record 4 (some .int) :: ((wsX1_record_r1 ++ wsX1_record_r2) ++ wsX10 ++ wsX00)
def wsX1_bytes_r1 : List Cond := [Cond.constantLong RX1 70 (-1), Cond.fieldLink RX1 20 "JournalDesk" "ring" "LJournalDesk$Ring;", Cond.methodLink RX1 61 yX1_findRecord, Cond.instanceMethod yX1_findRecord, Cond.selects RX1 yX1_findRecord yX1_findRecord, Cond.initialized RX1, Cond.code yX1_findRecord cX1_findRecord 2 (some .int), Cond.fieldLink RX1 30 "JournalDesk" "power" "Z", Cond.methodLink RX1 79 yX0_sectorOfRecord, Cond.instanceMethod yX0_sectorOfRecord, Cond.selects RX0 yX0_sectorOfRecord yX0_sectorOfRecord, Cond.initialized RX0, Cond.code yX0_sectorOfRecord cX0_sectorOfRecord 5 (some .int), Cond.fieldLink RX0 29 "JournalDesk$Ring" "present" "I", Cond.fieldLink RX0 22 "JournalDesk$Ring" "oldest" "I", Cond.methodLink RX0 43 yX0_isRecord, Cond.instanceMethod yX0_isRecord, Cond.selects RX0 yX0_isRecord yX0_isRecord, Cond.code yX0_isRecord cX0_isRecord 2 (some .boolean), Cond.methodLink RX0 56 yX0_lengthAt, Cond.instanceMethod yX0_lengthAt, Cond.selects RX0 yX0_lengthAt yX0_lengthAt, Cond.code yX0_lengthAt cX0_lengthAt 2 (some .int), Cond.fieldLink RX0 15 "JournalDesk$Ring" "lengths" "[I"]
def wsX1_bytes_r2 : List Cond := [Cond.methodLink RX0 53 yX0_onRing, Cond.static yX0_onRing, Cond.code yX0_onRing cX0_onRing 1 (some .int), Cond.methodLink RX0 59 yJ9_floorMod_7cf53, Cond.static yJ9_floorMod_7cf53, Cond.initialized RJ9, Cond.code yJ9_floorMod_7cf53 cJ9_floorMod_7cf53 3 (some .int), Cond.methodLink RX0 50 yX0_sectorsAt, Cond.instanceMethod yX0_sectorsAt, Cond.selects RX0 yX0_sectorsAt yX0_sectorsAt, Cond.code yX0_sectorsAt cX0_sectorsAt 2 (some .int), Cond.methodLink RX0 32 yX0_sectorsFor, Cond.static yX0_sectorsFor, Cond.code yX0_sectorsFor cX0_sectorsFor 1 (some .int), Cond.methodLink RX1 72 yX0_eightBytes, Cond.instanceMethod yX0_eightBytes, Cond.selects RX0 yX0_eightBytes yX0_eightBytes, Cond.code yX0_eightBytes cX0_eightBytes 8 (some .long), Cond.fieldLink RX0 11 "JournalDesk$Ring" "disk" "[B", Cond.methodLink RX0 40 yX0_place, Cond.static yX0_place, Cond.code yX0_place cX0_place 2 (some .int)]
def wsX1_bytes : List Cond := .code yX1_bytes cX1_bytes 4 (some .long) :: ((wsX1_bytes_r1 ++ wsX1_bytes_r2) ++ wsX10 ++ wsX00)
def wsX1_count : List Cond := .code yX1_count cX1_count 2 (some .int) :: ([.fieldLink RX1 13 "JournalDesk" "taped" "I", .fieldLink RX1 30 "JournalDesk" "power" "Z", .fieldLink RX1 20 "JournalDesk" "ring" "LJournalDesk$Ring;", .fieldLink RX1 27 "JournalDesk" "wholeEntries" "I", .methodLink RX1 53 yX0_records, .instanceMethod yX0_records, .selects RX0 yX0_records yX0_records, .initialized RX0, .code yX0_records cX0_records 1 (some .int), .fieldLink RX0 29 "JournalDesk$Ring" "present" "I", .methodLink RX1 76 yX0_sectors, .instanceMethod yX0_sectors, .selects RX0 yX0_sectors yX0_sectors, .code yX0_sectors cX0_sectors 1 (some .int), .fieldLink RX0 26 "JournalDesk$Ring" "used" "I"] ++ wsX10 ++ wsX00)
def wsX2_init : List Cond := .code yX2_init cX2_init 1 none :: ([.methodLink RX2 1 objectInit, .instanceMethod objectInit, .code objectInit ⟨#[0xb1]⟩ 1 none, .arrayClass .int, .fieldLink RX2 7 "JournalDeskModel" "tape" "[I", .arrayClass .boolean, .fieldLink RX2 13 "JournalDeskModel" "isRecord" "[Z", .fieldLink RX2 17 "JournalDeskModel" "sizes" "[I", .fieldLink RX2 20 "JournalDeskModel" "numbers" "[I", .fieldLink RX2 23 "JournalDeskModel" "bytes" "[I", .fieldLink RX2 26 "JournalDeskModel" "cutting" "I"] ++ wsX20)
def wsX2_put : List Cond := .code yX2_put cX2_put 5 (some .boolean) :: ([.fieldLink RX2 30 "JournalDeskModel" "taped" "I", .fieldLink RX2 7 "JournalDeskModel" "tape" "[I"] ++ wsX20)
def wsX2_sectorsOf : List Cond := .code yX2_sectorsOf cX2_sectorsOf 1 (some .int) :: ([])
def wsX2_used : List Cond := .code yX2_used cX2_used 3 (some .int) :: ([.fieldLink RX2 33 "JournalDeskModel" "kept" "I", .fieldLink RX2 13 "JournalDeskModel" "isRecord" "[Z", .fieldLink RX2 17 "JournalDeskModel" "sizes" "[I", .methodLink RX2 36 yX2_sectorsOf, .static yX2_sectorsOf, .initialized RX2, .code yX2_sectorsOf cX2_sectorsOf 1 (some .int)] ++ wsX20)
def wsX2_records : List Cond := .code yX2_records cX2_records 3 (some .int) :: ([.fieldLink RX2 33 "JournalDeskModel" "kept" "I", .fieldLink RX2 13 "JournalDeskModel" "isRecord" "[Z"] ++ wsX20)
def wsX2_isCut : List Cond := .code yX2_isCut cX2_isCut 1 (some .boolean) :: ([.fieldLink RX2 26 "JournalDeskModel" "cutting" "I", .fieldLink RX2 40 "JournalDeskModel" "off" "Z"] ++ wsX20)
def wsX2_write : List Cond := .code yX2_write cX2_write 3 (some .int) :: ([.fieldLink RX2 40 "JournalDeskModel" "off" "Z", .fieldLink RX2 30 "JournalDeskModel" "taped" "I", .fieldLink RX2 13 "JournalDeskModel" "isRecord" "[Z", .fieldLink RX2 33 "JournalDeskModel" "kept" "I", .fieldLink RX2 17 "JournalDeskModel" "sizes" "[I", .fieldLink RX2 20 "JournalDeskModel" "numbers" "[I", .fieldLink RX2 52 "JournalDeskModel" "next" "I", .fieldLink RX2 23 "JournalDeskModel" "bytes" "[I", .fieldLink RX2 7 "JournalDeskModel" "tape" "[I", .fieldLink RX2 55 "JournalDeskModel" "whole" "I", .methodLink RX2 44 yX2_used, .instanceMethod yX2_used, .selects RX2 yX2_used yX2_used, .initialized RX2, .code yX2_used cX2_used 3 (some .int), .methodLink RX2 36 yX2_sectorsOf, .static yX2_sectorsOf, .code yX2_sectorsOf cX2_sectorsOf 1 (some .int), .methodLink RX2 48 yX2_isCut, .instanceMethod yX2_isCut, .selects RX2 yX2_isCut yX2_isCut, .code yX2_isCut cX2_isCut 1 (some .boolean), .fieldLink RX2 26 "JournalDeskModel" "cutting" "I"] ++ wsX20)
def wsX2_drop : List Cond := .code yX2_drop cX2_drop 7 (some .int) :: ([.fieldLink RX2 40 "JournalDeskModel" "off" "Z", .fieldLink RX2 55 "JournalDeskModel" "whole" "I", .fieldLink RX2 13 "JournalDeskModel" "isRecord" "[Z", .fieldLink RX2 33 "JournalDeskModel" "kept" "I", .fieldLink RX2 17 "JournalDeskModel" "sizes" "[I", .methodLink RX2 58 yX2_records, .instanceMethod yX2_records, .selects RX2 yX2_records yX2_records, .initialized RX2, .code yX2_records cX2_records 3 (some .int), .methodLink RX2 44 yX2_used, .instanceMethod yX2_used, .selects RX2 yX2_used yX2_used, .code yX2_used cX2_used 3 (some .int), .methodLink RX2 36 yX2_sectorsOf, .static yX2_sectorsOf, .code yX2_sectorsOf cX2_sectorsOf 1 (some .int), .methodLink RX2 48 yX2_isCut, .instanceMethod yX2_isCut, .selects RX2 yX2_isCut yX2_isCut, .code yX2_isCut cX2_isCut 1 (some .boolean), .fieldLink RX2 26 "JournalDeskModel" "cutting" "I"] ++ wsX20)
def wsL_law_r1 : List Cond := [Cond.classLink RL 7 RX1, Cond.instantiable RX1 7, Cond.initialized RX1, Cond.classLink RL 10 RX2, Cond.instantiable RX2 11, Cond.initialized RX2, Cond.methodLink RL 9 yX1_init, Cond.instanceMethod yX1_init, Cond.code yX1_init cX1_init 1 none, Cond.methodLink RX1 1 objectInit, Cond.instanceMethod objectInit, Cond.code objectInit ⟨#[0xb1]⟩ 1 none, Cond.arrayClass .byte, Cond.fieldLink RX1 9 "JournalDesk" "tape" "[B", Cond.fieldLink RX1 13 "JournalDesk" "taped" "I", Cond.classLink RX1 17 RX0, Cond.instantiable RX0 6, Cond.initialized RX0, Cond.fieldLink RX1 20 "JournalDesk" "ring" "LJournalDesk$Ring;", Cond.fieldLink RX1 24 "JournalDesk" "nextNumber" "I", Cond.fieldLink RX1 27 "JournalDesk" "wholeEntries" "I", Cond.fieldLink RX1 30 "JournalDesk" "power" "Z", Cond.fieldLink RX1 34 "JournalDesk" "cutNext" "Z", Cond.methodLink RX1 19 yX0_init]
def wsL_law_r2 : List Cond := [Cond.instanceMethod yX0_init, Cond.code yX0_init cX0_init 1 none, Cond.methodLink RX0 5 objectInit, Cond.fieldLink RX0 11 "JournalDesk$Ring" "disk" "[B", Cond.arrayClass .int, Cond.fieldLink RX0 15 "JournalDesk$Ring" "lengths" "[I", Cond.fieldLink RX0 19 "JournalDesk$Ring" "numbers" "[I", Cond.fieldLink RX0 22 "JournalDesk$Ring" "oldest" "I", Cond.fieldLink RX0 26 "JournalDesk$Ring" "used" "I", Cond.fieldLink RX0 29 "JournalDesk$Ring" "present" "I", Cond.methodLink RL 12 yX2_init, Cond.instanceMethod yX2_init, Cond.code yX2_init cX2_init 1 none, Cond.methodLink RX2 1 objectInit, Cond.fieldLink RX2 7 "JournalDeskModel" "tape" "[I", Cond.arrayClass .boolean, Cond.fieldLink RX2 13 "JournalDeskModel" "isRecord" "[Z", Cond.fieldLink RX2 17 "JournalDeskModel" "sizes" "[I", Cond.fieldLink RX2 20 "JournalDeskModel" "numbers" "[I", Cond.fieldLink RX2 23 "JournalDeskModel" "bytes" "[I", Cond.fieldLink RX2 26 "JournalDeskModel" "cutting" "I", Cond.methodLink RL 15 yX1_put, Cond.instanceMethod yX1_put, Cond.selects RX1 yX1_put yX1_put]
def wsL_law_r3 : List Cond := [Cond.code yX1_put cX1_put 5 (some .boolean), Cond.methodLink RL 19 yX2_put, Cond.instanceMethod yX2_put, Cond.selects RX2 yX2_put yX2_put, Cond.code yX2_put cX2_put 5 (some .boolean), Cond.fieldLink RX2 30 "JournalDeskModel" "taped" "I", Cond.methodLink RL 20 yX1_write, Cond.instanceMethod yX1_write, Cond.selects RX1 yX1_write yX1_write, Cond.code yX1_write cX1_write 3 (some .int), Cond.methodLink RX1 37 yX0_sectorsFor, Cond.static yX0_sectorsFor, Cond.code yX0_sectorsFor cX0_sectorsFor 1 (some .int), Cond.methodLink RX1 41 yX0_hasRoom, Cond.instanceMethod yX0_hasRoom, Cond.selects RX0 yX0_hasRoom yX0_hasRoom, Cond.code yX0_hasRoom cX0_hasRoom 2 (some .boolean), Cond.methodLink RX1 45 yX1_losesPower, Cond.instanceMethod yX1_losesPower, Cond.selects RX1 yX1_losesPower yX1_losesPower, Cond.code yX1_losesPower cX1_losesPower 1 (some .boolean), Cond.methodLink RX1 49 yX0_addRecord, Cond.instanceMethod yX0_addRecord, Cond.selects RX0 yX0_addRecord yX0_addRecord]
def wsL_law_r4 : List Cond := [Cond.code yX0_addRecord cX0_addRecord 6 none, Cond.methodLink RX0 32 yX0_sectorsFor, Cond.methodLink RX0 36 yX0_addEntry, Cond.instanceMethod yX0_addEntry, Cond.selects RX0 yX0_addEntry yX0_addEntry, Cond.code yX0_addEntry cX0_addEntry 4 (some .int), Cond.methodLink RX0 53 yX0_onRing, Cond.static yX0_onRing, Cond.code yX0_onRing cX0_onRing 1 (some .int), Cond.methodLink RX0 59 yJ9_floorMod_7cf53, Cond.static yJ9_floorMod_7cf53, Cond.initialized RJ9, Cond.code yJ9_floorMod_7cf53 cJ9_floorMod_7cf53 3 (some .int), Cond.methodLink RX0 40 yX0_place, Cond.static yX0_place, Cond.code yX0_place cX0_place 2 (some .int), Cond.methodLink RL 24 yX2_write, Cond.instanceMethod yX2_write, Cond.selects RX2 yX2_write yX2_write, Cond.code yX2_write cX2_write 3 (some .int), Cond.fieldLink RX2 40 "JournalDeskModel" "off" "Z", Cond.fieldLink RX2 33 "JournalDeskModel" "kept" "I", Cond.fieldLink RX2 52 "JournalDeskModel" "next" "I", Cond.fieldLink RX2 55 "JournalDeskModel" "whole" "I"]
def wsL_law_r5 : List Cond := [Cond.methodLink RX2 44 yX2_used, Cond.instanceMethod yX2_used, Cond.selects RX2 yX2_used yX2_used, Cond.code yX2_used cX2_used 3 (some .int), Cond.methodLink RX2 36 yX2_sectorsOf, Cond.static yX2_sectorsOf, Cond.code yX2_sectorsOf cX2_sectorsOf 1 (some .int), Cond.methodLink RX2 48 yX2_isCut, Cond.instanceMethod yX2_isCut, Cond.selects RX2 yX2_isCut yX2_isCut, Cond.code yX2_isCut cX2_isCut 1 (some .boolean), Cond.methodLink RL 25 yX1_drop, Cond.instanceMethod yX1_drop, Cond.selects RX1 yX1_drop yX1_drop, Cond.code yX1_drop cX1_drop 2 (some .int), Cond.methodLink RX1 53 yX0_records, Cond.instanceMethod yX0_records, Cond.selects RX0 yX0_records yX0_records, Cond.code yX0_records cX0_records 1 (some .int), Cond.methodLink RX1 57 yX0_addDrop, Cond.instanceMethod yX0_addDrop, Cond.selects RX0 yX0_addDrop yX0_addDrop, Cond.code yX0_addDrop cX0_addDrop 5 none, Cond.methodLink RX0 43 yX0_isRecord]
def wsL_law_r6 : List Cond := [Cond.instanceMethod yX0_isRecord, Cond.selects RX0 yX0_isRecord yX0_isRecord, Cond.code yX0_isRecord cX0_isRecord 2 (some .boolean), Cond.methodLink RX0 56 yX0_lengthAt, Cond.instanceMethod yX0_lengthAt, Cond.selects RX0 yX0_lengthAt yX0_lengthAt, Cond.code yX0_lengthAt cX0_lengthAt 2 (some .int), Cond.methodLink RX0 47 yX0_giveBackOldest, Cond.instanceMethod yX0_giveBackOldest, Cond.selects RX0 yX0_giveBackOldest yX0_giveBackOldest, Cond.code yX0_giveBackOldest cX0_giveBackOldest 2 none, Cond.methodLink RX0 50 yX0_sectorsAt, Cond.instanceMethod yX0_sectorsAt, Cond.selects RX0 yX0_sectorsAt yX0_sectorsAt, Cond.code yX0_sectorsAt cX0_sectorsAt 2 (some .int), Cond.methodLink RL 29 yX2_drop, Cond.instanceMethod yX2_drop, Cond.selects RX2 yX2_drop yX2_drop, Cond.code yX2_drop cX2_drop 7 (some .int), Cond.methodLink RX2 58 yX2_records, Cond.instanceMethod yX2_records, Cond.selects RX2 yX2_records yX2_records, Cond.code yX2_records cX2_records 3 (some .int), Cond.methodLink RL 30 yX1_cut]
def wsL_law_r7 : List Cond := [Cond.instanceMethod yX1_cut, Cond.selects RX1 yX1_cut yX1_cut, Cond.code yX1_cut cX1_cut 2 (some .boolean), Cond.methodLink RL 35 yX1_start, Cond.instanceMethod yX1_start, Cond.selects RX1 yX1_start yX1_start, Cond.code yX1_start cX1_start 1 (some .int), Cond.methodLink RL 39 yX1_record, Cond.instanceMethod yX1_record, Cond.selects RX1 yX1_record yX1_record, Cond.code yX1_record cX1_record 4 (some .int), Cond.methodLink RX1 61 yX1_findRecord, Cond.instanceMethod yX1_findRecord, Cond.selects RX1 yX1_findRecord yX1_findRecord, Cond.code yX1_findRecord cX1_findRecord 2 (some .int), Cond.methodLink RX1 79 yX0_sectorOfRecord, Cond.instanceMethod yX0_sectorOfRecord, Cond.selects RX0 yX0_sectorOfRecord yX0_sectorOfRecord, Cond.code yX0_sectorOfRecord cX0_sectorOfRecord 5 (some .int), Cond.methodLink RX1 64 yX0_lengthAt, Cond.methodLink RX1 67 yX0_numberAt, Cond.instanceMethod yX0_numberAt, Cond.selects RX0 yX0_numberAt yX0_numberAt, Cond.code yX0_numberAt cX0_numberAt 2 (some .int)]
def wsL_law_r8 : List Cond := [Cond.methodLink RL 44 yX1_bytes, Cond.instanceMethod yX1_bytes, Cond.selects RX1 yX1_bytes yX1_bytes, Cond.code yX1_bytes cX1_bytes 4 (some .long), Cond.constantLong RX1 70 (-1), Cond.methodLink RX1 72 yX0_eightBytes, Cond.instanceMethod yX0_eightBytes, Cond.selects RX0 yX0_eightBytes yX0_eightBytes, Cond.code yX0_eightBytes cX0_eightBytes 8 (some .long), Cond.methodLink RL 49 yX1_count, Cond.instanceMethod yX1_count, Cond.selects RX1 yX1_count yX1_count, Cond.code yX1_count cX1_count 2 (some .int), Cond.methodLink RX1 76 yX0_sectors, Cond.instanceMethod yX0_sectors, Cond.selects RX0 yX0_sectors yX0_sectors, Cond.code yX0_sectors cX0_sectors 1 (some .int)]
def wsL_law : List Cond := (wsL_law_r1 ++ (wsL_law_r2 ++ (wsL_law_r3 ++ (wsL_law_r4 ++ (wsL_law_r5 ++ (wsL_law_r6 ++ (wsL_law_r7 ++ wsL_law_r8))))))) ++ wsX10 ++ wsX20 ++ wsX00 ++ ([] : List Cond)
set_option maxRecDepth 20000 in
theorem wsL_law_in : ∀ w ∈ wsL_law, w ∈ lw_tbl := fun w h => (goodIn_p wsL_law [20, 23, 28, 184, 76, 224, 80, 83, 87, 91, 95, 100, 103, 106, 109, 228, 232, 235, 239, 113, 117, 121, 125, 129, 133, 137, 243, 247, 141, 145, 149, 153, 157, 162, 166, 171, 175, 179] (by decide +kernel) (by decide +kernel) w h).1
theorem inlX0 : ∀ w ∈ wsX00, w ∈ wsL_law := fun _ h => List.mem_append_left _ (List.mem_append_right _ h)
theorem inX0 : ∀ w ∈ wsX00, w ∈ lw_tbl := fun w h => wsL_law_in w (inlX0 w h)
theorem inlX1 : ∀ w ∈ wsX10, w ∈ wsL_law := fun _ h => List.mem_append_left _ (List.mem_append_left _ (List.mem_append_left _ (List.mem_append_right _ h)))
theorem inX1 : ∀ w ∈ wsX10, w ∈ lw_tbl := fun w h => wsL_law_in w (inlX1 w h)
theorem inlX2 : ∀ w ∈ wsX20, w ∈ wsL_law := fun _ h => List.mem_append_left _ (List.mem_append_left _ (List.mem_append_right _ h))
theorem inX2 : ∀ w ∈ wsX20, w ∈ lw_tbl := fun w h => wsL_law_in w (inlX2 w h)
theorem inJ9 : ∀ w ∈ wsJ90, w ∈ lw_tbl := by decide +kernel
theorem dX0_init_0 : decode cX0_init 0 = .ok (.aload_n 0, 1) := by decide +kernel
theorem dX0_init_1 : decode cX0_init 1 = .ok (.invokespecial 5, 3) := by decide +kernel
theorem dX0_init_4 : decode cX0_init 4 = .ok (.aload_n 0, 1) := by decide +kernel
theorem dX0_init_5 : decode cX0_init 5 = .ok (.sipush 480, 3) := by decide +kernel
theorem dX0_init_8 : decode cX0_init 8 = .ok (.newarray .byte, 2) := by decide +kernel
theorem dX0_init_10 : decode cX0_init 10 = .ok (.putfield 11, 3) := by decide +kernel
theorem dX0_init_13 : decode cX0_init 13 = .ok (.aload_n 0, 1) := by decide +kernel
theorem dX0_init_14 : decode cX0_init 14 = .ok (.bipush 40, 2) := by decide +kernel
theorem dX0_init_16 : decode cX0_init 16 = .ok (.newarray .int, 2) := by decide +kernel
theorem dX0_init_18 : decode cX0_init 18 = .ok (.putfield 15, 3) := by decide +kernel
theorem dX0_init_21 : decode cX0_init 21 = .ok (.aload_n 0, 1) := by decide +kernel
theorem dX0_init_22 : decode cX0_init 22 = .ok (.bipush 40, 2) := by decide +kernel
theorem dX0_init_24 : decode cX0_init 24 = .ok (.newarray .int, 2) := by decide +kernel
theorem dX0_init_26 : decode cX0_init 26 = .ok (.putfield 19, 3) := by decide +kernel
theorem dX0_init_29 : decode cX0_init 29 = .ok (.aload_n 0, 1) := by decide +kernel
theorem dX0_init_30 : decode cX0_init 30 = .ok (.iconst 0, 1) := by decide +kernel
theorem dX0_init_31 : decode cX0_init 31 = .ok (.putfield 22, 3) := by decide +kernel
theorem dX0_init_34 : decode cX0_init 34 = .ok (.aload_n 0, 1) := by decide +kernel
theorem dX0_init_35 : decode cX0_init 35 = .ok (.iconst 0, 1) := by decide +kernel
theorem dX0_init_36 : decode cX0_init 36 = .ok (.putfield 26, 3) := by decide +kernel
theorem dX0_init_39 : decode cX0_init 39 = .ok (.aload_n 0, 1) := by decide +kernel
theorem dX0_init_40 : decode cX0_init 40 = .ok (.iconst 0, 1) := by decide +kernel
theorem dX0_init_41 : decode cX0_init 41 = .ok (.putfield 29, 3) := by decide +kernel
theorem dX0_init_44 : decode cX0_init 44 = .ok (.return_, 1) := by decide +kernel
theorem dX0_sectorsFor_0 : decode cX0_sectorsFor 0 = .ok (.iload_n 0, 1) := by decide +kernel
theorem dX0_sectorsFor_1 : decode cX0_sectorsFor 1 = .ok (.bipush 12, 2) := by decide +kernel
theorem dX0_sectorsFor_3 : decode cX0_sectorsFor 3 = .ok (.if_icmp .gt 7, 3) := by decide +kernel
theorem dX0_sectorsFor_6 : decode cX0_sectorsFor 6 = .ok (.iconst 1, 1) := by decide +kernel
theorem dX0_sectorsFor_7 : decode cX0_sectorsFor 7 = .ok (.goto 12, 3) := by decide +kernel
theorem dX0_sectorsFor_10 : decode cX0_sectorsFor 10 = .ok (.iload_n 0, 1) := by decide +kernel
theorem dX0_sectorsFor_11 : decode cX0_sectorsFor 11 = .ok (.bipush 12, 2) := by decide +kernel
theorem dX0_sectorsFor_13 : decode cX0_sectorsFor 13 = .ok (.iadd, 1) := by decide +kernel
theorem dX0_sectorsFor_14 : decode cX0_sectorsFor 14 = .ok (.iconst 1, 1) := by decide +kernel
theorem dX0_sectorsFor_15 : decode cX0_sectorsFor 15 = .ok (.isub, 1) := by decide +kernel
theorem dX0_sectorsFor_16 : decode cX0_sectorsFor 16 = .ok (.bipush 12, 2) := by decide +kernel
theorem dX0_sectorsFor_18 : decode cX0_sectorsFor 18 = .ok (.idiv, 1) := by decide +kernel
theorem dX0_sectorsFor_19 : decode cX0_sectorsFor 19 = .ok (.ireturn, 1) := by decide +kernel
theorem dX0_records_0 : decode cX0_records 0 = .ok (.aload_n 0, 1) := by decide +kernel
theorem dX0_records_1 : decode cX0_records 1 = .ok (.getfield 29, 3) := by decide +kernel
theorem dX0_records_4 : decode cX0_records 4 = .ok (.ireturn, 1) := by decide +kernel
theorem dX0_sectors_0 : decode cX0_sectors 0 = .ok (.aload_n 0, 1) := by decide +kernel
theorem dX0_sectors_1 : decode cX0_sectors 1 = .ok (.getfield 26, 3) := by decide +kernel
theorem dX0_sectors_4 : decode cX0_sectors 4 = .ok (.ireturn, 1) := by decide +kernel
theorem dX0_hasRoom_0 : decode cX0_hasRoom 0 = .ok (.iload_n 1, 1) := by decide +kernel
theorem dX0_hasRoom_1 : decode cX0_hasRoom 1 = .ok (.bipush 40, 2) := by decide +kernel
theorem dX0_hasRoom_3 : decode cX0_hasRoom 3 = .ok (.aload_n 0, 1) := by decide +kernel
theorem dX0_hasRoom_4 : decode cX0_hasRoom 4 = .ok (.getfield 26, 3) := by decide +kernel
theorem dX0_hasRoom_7 : decode cX0_hasRoom 7 = .ok (.isub, 1) := by decide +kernel
theorem dX0_hasRoom_8 : decode cX0_hasRoom 8 = .ok (.if_icmp .gt 7, 3) := by decide +kernel
theorem dX0_hasRoom_11 : decode cX0_hasRoom 11 = .ok (.iconst 1, 1) := by decide +kernel
theorem dX0_hasRoom_12 : decode cX0_hasRoom 12 = .ok (.goto 4, 3) := by decide +kernel
theorem dX0_hasRoom_15 : decode cX0_hasRoom 15 = .ok (.iconst 0, 1) := by decide +kernel
theorem dX0_hasRoom_16 : decode cX0_hasRoom 16 = .ok (.ireturn, 1) := by decide +kernel
set_option maxRecDepth 20000 in
theorem ggX0_addRecord_X0_sectorsFor : GoodIn wsX0_addRecord wsX0_sectorsFor := goodIn_r _ [7] (by decide +kernel) (by decide +kernel)
set_option maxRecDepth 20000 in
theorem gX0_addRecord_X0_sectorsFor : GoodIn wsX0_addRecord (va_wsS RX0 32 yX0_sectorsFor wsX0_sectorsFor) := goodIn_app (goodIn_of _ (by decide +kernel)) ggX0_addRecord_X0_sectorsFor
set_option maxRecDepth 20000 in
theorem ggX0_addRecord_X0_addEntry : GoodIn wsX0_addRecord wsX0_addEntry := goodIn_r _ [11, 12, 13, 14, 15, 16, 6, 17, 18, 19, 20, 21, 25, 26, 27, 28, 29, 30] (by decide +kernel) (by decide +kernel)
set_option maxRecDepth 20000 in
theorem gX0_addRecord_X0_addEntry : GoodIn wsX0_addRecord (wsV RX0 36 RX0 yX0_addEntry wsX0_addEntry) := goodIn_app (goodIn_of _ (by decide +kernel)) ggX0_addRecord_X0_addEntry
set_option maxRecDepth 20000 in
theorem ggX0_addRecord_X0_place : GoodIn wsX0_addRecord wsX0_place := goodIn_r _ [24, 18, 19, 20, 21] (by decide +kernel) (by decide +kernel)
set_option maxRecDepth 20000 in
theorem gX0_addRecord_X0_place : GoodIn wsX0_addRecord (va_wsS RX0 40 yX0_place wsX0_place) := goodIn_app (goodIn_of _ (by decide +kernel)) ggX0_addRecord_X0_place
theorem dX0_addRecord_0 : decode cX0_addRecord 0 = .ok (.aload_n 0, 1) := by decide +kernel
theorem dX0_addRecord_1 : decode cX0_addRecord 1 = .ok (.iload_n 2, 1) := by decide +kernel
theorem dX0_addRecord_2 : decode cX0_addRecord 2 = .ok (.iload_n 2, 1) := by decide +kernel
theorem dX0_addRecord_3 : decode cX0_addRecord 3 = .ok (.invokestatic 32, 3) := by decide +kernel
theorem dX0_addRecord_6 : decode cX0_addRecord 6 = .ok (.invokevirtual 36, 3) := by decide +kernel
theorem dX0_addRecord_9 : decode cX0_addRecord 9 = .ok (.istore 4, 2) := by decide +kernel
theorem dX0_addRecord_11 : decode cX0_addRecord 11 = .ok (.aload_n 0, 1) := by decide +kernel
theorem dX0_addRecord_12 : decode cX0_addRecord 12 = .ok (.getfield 19, 3) := by decide +kernel
theorem dX0_addRecord_15 : decode cX0_addRecord 15 = .ok (.iload 4, 2) := by decide +kernel
theorem dX0_addRecord_17 : decode cX0_addRecord 17 = .ok (.iload_n 3, 1) := by decide +kernel
theorem dX0_addRecord_18 : decode cX0_addRecord 18 = .ok (.iastore, 1) := by decide +kernel
theorem dX0_addRecord_19 : decode cX0_addRecord 19 = .ok (.iconst 0, 1) := by decide +kernel
theorem dX0_addRecord_20 : decode cX0_addRecord 20 = .ok (.istore 5, 2) := by decide +kernel
theorem dX0_addRecord_22 : decode cX0_addRecord 22 = .ok (.iload 5, 2) := by decide +kernel
theorem dX0_addRecord_24 : decode cX0_addRecord 24 = .ok (.iload_n 2, 1) := by decide +kernel
theorem dX0_addRecord_25 : decode cX0_addRecord 25 = .ok (.if_icmp .ge 32, 3) := by decide +kernel
theorem dX0_addRecord_28 : decode cX0_addRecord 28 = .ok (.iload 5, 2) := by decide +kernel
theorem dX0_addRecord_30 : decode cX0_addRecord 30 = .ok (.aload_n 1, 1) := by decide +kernel
theorem dX0_addRecord_31 : decode cX0_addRecord 31 = .ok (.arraylength, 1) := by decide +kernel
theorem dX0_addRecord_32 : decode cX0_addRecord 32 = .ok (.if_icmp .ge 25, 3) := by decide +kernel
theorem dX0_addRecord_35 : decode cX0_addRecord 35 = .ok (.aload_n 0, 1) := by decide +kernel
theorem dX0_addRecord_36 : decode cX0_addRecord 36 = .ok (.getfield 11, 3) := by decide +kernel
theorem dX0_addRecord_39 : decode cX0_addRecord 39 = .ok (.iload 4, 2) := by decide +kernel
theorem dX0_addRecord_41 : decode cX0_addRecord 41 = .ok (.iload 5, 2) := by decide +kernel
theorem dX0_addRecord_43 : decode cX0_addRecord 43 = .ok (.invokestatic 40, 3) := by decide +kernel
theorem dX0_addRecord_46 : decode cX0_addRecord 46 = .ok (.aload_n 1, 1) := by decide +kernel
theorem dX0_addRecord_47 : decode cX0_addRecord 47 = .ok (.iload 5, 2) := by decide +kernel
theorem dX0_addRecord_49 : decode cX0_addRecord 49 = .ok (.baload, 1) := by decide +kernel
theorem dX0_addRecord_50 : decode cX0_addRecord 50 = .ok (.bastore, 1) := by decide +kernel
theorem dX0_addRecord_51 : decode cX0_addRecord 51 = .ok (.iinc 5 1, 3) := by decide +kernel
theorem dX0_addRecord_54 : decode cX0_addRecord 54 = .ok (.goto (-32), 3) := by decide +kernel
theorem dX0_addRecord_57 : decode cX0_addRecord 57 = .ok (.aload_n 0, 1) := by decide +kernel
theorem dX0_addRecord_58 : decode cX0_addRecord 58 = .ok (.dup, 1) := by decide +kernel
theorem dX0_addRecord_59 : decode cX0_addRecord 59 = .ok (.getfield 29, 3) := by decide +kernel
theorem dX0_addRecord_62 : decode cX0_addRecord 62 = .ok (.iconst 1, 1) := by decide +kernel
theorem dX0_addRecord_63 : decode cX0_addRecord 63 = .ok (.iadd, 1) := by decide +kernel
theorem dX0_addRecord_64 : decode cX0_addRecord 64 = .ok (.putfield 29, 3) := by decide +kernel
theorem dX0_addRecord_67 : decode cX0_addRecord 67 = .ok (.return_, 1) := by decide +kernel
set_option maxRecDepth 20000 in
theorem ggX0_addDrop_X0_addEntry : GoodIn wsX0_addDrop wsX0_addEntry := goodIn_r _ [7, 2, 8, 9, 10, 11, 6, 12, 13, 14, 15, 16, 36, 37, 38, 39, 40, 41] (by decide +kernel) (by decide +kernel)
set_option maxRecDepth 20000 in
theorem gX0_addDrop_X0_addEntry : GoodIn wsX0_addDrop (wsV RX0 36 RX0 yX0_addEntry wsX0_addEntry) := goodIn_app (goodIn_of _ (by decide +kernel)) ggX0_addDrop_X0_addEntry
set_option maxRecDepth 20000 in
theorem ggX0_addDrop_X0_isRecord : GoodIn wsX0_addDrop wsX0_isRecord := goodIn_r _ [20, 21, 22, 23, 6, 24, 9, 10, 11, 12, 13, 14, 15, 16, 36, 37, 38, 39, 40, 41] (by decide +kernel) (by decide +kernel)
set_option maxRecDepth 20000 in
theorem gX0_addDrop_X0_isRecord : GoodIn wsX0_addDrop (wsV RX0 43 RX0 yX0_isRecord wsX0_isRecord) := goodIn_app (goodIn_of _ (by decide +kernel)) ggX0_addDrop_X0_isRecord
set_option maxRecDepth 20000 in
theorem ggX0_addDrop_X0_giveBackOldest : GoodIn wsX0_addDrop wsX0_giveBackOldest := goodIn_r _ [28, 2, 8, 29, 30, 31, 6, 32, 17, 18, 19, 20, 21, 22, 23, 24, 9, 10, 11, 12, 13, 14, 15, 16, 33, 34, 35, 36, 37, 38, 39, 40, 41] (by decide +kernel) (by decide +kernel)
set_option maxRecDepth 20000 in
theorem gX0_addDrop_X0_giveBackOldest : GoodIn wsX0_addDrop (wsV RX0 47 RX0 yX0_giveBackOldest wsX0_giveBackOldest) := goodIn_app (goodIn_of _ (by decide +kernel)) ggX0_addDrop_X0_giveBackOldest
theorem dX0_addDrop_0 : decode cX0_addDrop 0 = .ok (.aload_n 0, 1) := by decide +kernel
theorem dX0_addDrop_1 : decode cX0_addDrop 1 = .ok (.iconst (-1), 1) := by decide +kernel
theorem dX0_addDrop_2 : decode cX0_addDrop 2 = .ok (.iconst 1, 1) := by decide +kernel
theorem dX0_addDrop_3 : decode cX0_addDrop 3 = .ok (.invokevirtual 36, 3) := by decide +kernel
theorem dX0_addDrop_6 : decode cX0_addDrop 6 = .ok (.istore_n 2, 1) := by decide +kernel
theorem dX0_addDrop_7 : decode cX0_addDrop 7 = .ok (.aload_n 0, 1) := by decide +kernel
theorem dX0_addDrop_8 : decode cX0_addDrop 8 = .ok (.dup, 1) := by decide +kernel
theorem dX0_addDrop_9 : decode cX0_addDrop 9 = .ok (.getfield 29, 3) := by decide +kernel
theorem dX0_addDrop_12 : decode cX0_addDrop 12 = .ok (.iload_n 1, 1) := by decide +kernel
theorem dX0_addDrop_13 : decode cX0_addDrop 13 = .ok (.isub, 1) := by decide +kernel
theorem dX0_addDrop_14 : decode cX0_addDrop 14 = .ok (.putfield 29, 3) := by decide +kernel
theorem dX0_addDrop_17 : decode cX0_addDrop 17 = .ok (.iload_n 1, 1) := by decide +kernel
theorem dX0_addDrop_18 : decode cX0_addDrop 18 = .ok (.istore_n 3, 1) := by decide +kernel
theorem dX0_addDrop_19 : decode cX0_addDrop 19 = .ok (.iconst 0, 1) := by decide +kernel
theorem dX0_addDrop_20 : decode cX0_addDrop 20 = .ok (.istore 4, 2) := by decide +kernel
theorem dX0_addDrop_22 : decode cX0_addDrop 22 = .ok (.iload 4, 2) := by decide +kernel
theorem dX0_addDrop_24 : decode cX0_addDrop 24 = .ok (.bipush 40, 2) := by decide +kernel
theorem dX0_addDrop_26 : decode cX0_addDrop 26 = .ok (.if_icmp .ge 40, 3) := by decide +kernel
theorem dX0_addDrop_29 : decode cX0_addDrop 29 = .ok (.aload_n 0, 1) := by decide +kernel
theorem dX0_addDrop_30 : decode cX0_addDrop 30 = .ok (.getfield 22, 3) := by decide +kernel
theorem dX0_addDrop_33 : decode cX0_addDrop 33 = .ok (.iload_n 2, 1) := by decide +kernel
theorem dX0_addDrop_34 : decode cX0_addDrop 34 = .ok (.if_icmp .eq 32, 3) := by decide +kernel
theorem dX0_addDrop_37 : decode cX0_addDrop 37 = .ok (.aload_n 0, 1) := by decide +kernel
theorem dX0_addDrop_38 : decode cX0_addDrop 38 = .ok (.aload_n 0, 1) := by decide +kernel
theorem dX0_addDrop_39 : decode cX0_addDrop 39 = .ok (.getfield 22, 3) := by decide +kernel
theorem dX0_addDrop_42 : decode cX0_addDrop 42 = .ok (.invokevirtual 43, 3) := by decide +kernel
theorem dX0_addDrop_45 : decode cX0_addDrop 45 = .ok (.ifCond .eq 11, 3) := by decide +kernel
theorem dX0_addDrop_48 : decode cX0_addDrop 48 = .ok (.iload_n 3, 1) := by decide +kernel
theorem dX0_addDrop_49 : decode cX0_addDrop 49 = .ok (.ifCond .ne 4, 3) := by decide +kernel
theorem dX0_addDrop_52 : decode cX0_addDrop 52 = .ok (.return_, 1) := by decide +kernel
theorem dX0_addDrop_53 : decode cX0_addDrop 53 = .ok (.iinc 3 (-1), 3) := by decide +kernel
theorem dX0_addDrop_56 : decode cX0_addDrop 56 = .ok (.aload_n 0, 1) := by decide +kernel
theorem dX0_addDrop_57 : decode cX0_addDrop 57 = .ok (.invokevirtual 47, 3) := by decide +kernel
theorem dX0_addDrop_60 : decode cX0_addDrop 60 = .ok (.iinc 4 1, 3) := by decide +kernel
theorem dX0_addDrop_63 : decode cX0_addDrop 63 = .ok (.goto (-41), 3) := by decide +kernel
theorem dX0_addDrop_66 : decode cX0_addDrop 66 = .ok (.return_, 1) := by decide +kernel
set_option maxRecDepth 20000 in
theorem ggX0_sectorOfRecord_X0_isRecord : GoodIn wsX0_sectorOfRecord wsX0_isRecord := goodIn_r _ [7, 8, 9, 10, 6, 11, 12, 13, 14, 15, 16, 17, 18, 19, 27, 28, 29, 30, 31, 32] (by decide +kernel) (by decide +kernel)
set_option maxRecDepth 20000 in
theorem gX0_sectorOfRecord_X0_isRecord : GoodIn wsX0_sectorOfRecord (wsV RX0 43 RX0 yX0_isRecord wsX0_isRecord) := goodIn_app (goodIn_of _ (by decide +kernel)) ggX0_sectorOfRecord_X0_isRecord
set_option maxRecDepth 20000 in
theorem ggX0_sectorOfRecord_X0_sectorsAt : GoodIn wsX0_sectorOfRecord wsX0_sectorsAt := goodIn_r _ [23, 3, 4, 5, 6, 7, 8, 9, 10, 11, 12, 13, 14, 15, 16, 17, 18, 19, 24, 25, 26, 27, 28, 29, 30, 31, 32] (by decide +kernel) (by decide +kernel)
set_option maxRecDepth 20000 in
theorem gX0_sectorOfRecord_X0_sectorsAt : GoodIn wsX0_sectorOfRecord (wsV RX0 50 RX0 yX0_sectorsAt wsX0_sectorsAt) := goodIn_app (goodIn_of _ (by decide +kernel)) ggX0_sectorOfRecord_X0_sectorsAt
set_option maxRecDepth 20000 in
theorem ggX0_sectorOfRecord_X0_onRing : GoodIn wsX0_sectorOfRecord wsX0_onRing := goodIn_r _ [15, 16, 17, 18, 19] (by decide +kernel) (by decide +kernel)
set_option maxRecDepth 20000 in
theorem gX0_sectorOfRecord_X0_onRing : GoodIn wsX0_sectorOfRecord (va_wsS RX0 53 yX0_onRing wsX0_onRing) := goodIn_app (goodIn_of _ (by decide +kernel)) ggX0_sectorOfRecord_X0_onRing
theorem dX0_sectorOfRecord_0 : decode cX0_sectorOfRecord 0 = .ok (.iload_n 1, 1) := by decide +kernel
theorem dX0_sectorOfRecord_1 : decode cX0_sectorOfRecord 1 = .ok (.ifCond .lt 11, 3) := by decide +kernel
theorem dX0_sectorOfRecord_4 : decode cX0_sectorOfRecord 4 = .ok (.iload_n 1, 1) := by decide +kernel
theorem dX0_sectorOfRecord_5 : decode cX0_sectorOfRecord 5 = .ok (.aload_n 0, 1) := by decide +kernel
theorem dX0_sectorOfRecord_6 : decode cX0_sectorOfRecord 6 = .ok (.getfield 29, 3) := by decide +kernel
theorem dX0_sectorOfRecord_9 : decode cX0_sectorOfRecord 9 = .ok (.if_icmp .lt 5, 3) := by decide +kernel
theorem dX0_sectorOfRecord_12 : decode cX0_sectorOfRecord 12 = .ok (.iconst (-1), 1) := by decide +kernel
theorem dX0_sectorOfRecord_13 : decode cX0_sectorOfRecord 13 = .ok (.ireturn, 1) := by decide +kernel
theorem dX0_sectorOfRecord_14 : decode cX0_sectorOfRecord 14 = .ok (.aload_n 0, 1) := by decide +kernel
theorem dX0_sectorOfRecord_15 : decode cX0_sectorOfRecord 15 = .ok (.getfield 22, 3) := by decide +kernel
theorem dX0_sectorOfRecord_18 : decode cX0_sectorOfRecord 18 = .ok (.istore_n 2, 1) := by decide +kernel
theorem dX0_sectorOfRecord_19 : decode cX0_sectorOfRecord 19 = .ok (.iload_n 1, 1) := by decide +kernel
theorem dX0_sectorOfRecord_20 : decode cX0_sectorOfRecord 20 = .ok (.istore_n 3, 1) := by decide +kernel
theorem dX0_sectorOfRecord_21 : decode cX0_sectorOfRecord 21 = .ok (.iconst 0, 1) := by decide +kernel
theorem dX0_sectorOfRecord_22 : decode cX0_sectorOfRecord 22 = .ok (.istore 4, 2) := by decide +kernel
theorem dX0_sectorOfRecord_24 : decode cX0_sectorOfRecord 24 = .ok (.iload 4, 2) := by decide +kernel
theorem dX0_sectorOfRecord_26 : decode cX0_sectorOfRecord 26 = .ok (.bipush 40, 2) := by decide +kernel
theorem dX0_sectorOfRecord_28 : decode cX0_sectorOfRecord 28 = .ok (.if_icmp .ge 37, 3) := by decide +kernel
theorem dX0_sectorOfRecord_31 : decode cX0_sectorOfRecord 31 = .ok (.aload_n 0, 1) := by decide +kernel
theorem dX0_sectorOfRecord_32 : decode cX0_sectorOfRecord 32 = .ok (.iload_n 2, 1) := by decide +kernel
theorem dX0_sectorOfRecord_33 : decode cX0_sectorOfRecord 33 = .ok (.invokevirtual 43, 3) := by decide +kernel
theorem dX0_sectorOfRecord_36 : decode cX0_sectorOfRecord 36 = .ok (.ifCond .eq 12, 3) := by decide +kernel
theorem dX0_sectorOfRecord_39 : decode cX0_sectorOfRecord 39 = .ok (.iload_n 3, 1) := by decide +kernel
theorem dX0_sectorOfRecord_40 : decode cX0_sectorOfRecord 40 = .ok (.ifCond .ne 5, 3) := by decide +kernel
theorem dX0_sectorOfRecord_43 : decode cX0_sectorOfRecord 43 = .ok (.iload_n 2, 1) := by decide +kernel
theorem dX0_sectorOfRecord_44 : decode cX0_sectorOfRecord 44 = .ok (.ireturn, 1) := by decide +kernel
theorem dX0_sectorOfRecord_45 : decode cX0_sectorOfRecord 45 = .ok (.iinc 3 (-1), 3) := by decide +kernel
theorem dX0_sectorOfRecord_48 : decode cX0_sectorOfRecord 48 = .ok (.iload_n 2, 1) := by decide +kernel
theorem dX0_sectorOfRecord_49 : decode cX0_sectorOfRecord 49 = .ok (.aload_n 0, 1) := by decide +kernel
theorem dX0_sectorOfRecord_50 : decode cX0_sectorOfRecord 50 = .ok (.iload_n 2, 1) := by decide +kernel
theorem dX0_sectorOfRecord_51 : decode cX0_sectorOfRecord 51 = .ok (.invokevirtual 50, 3) := by decide +kernel
theorem dX0_sectorOfRecord_54 : decode cX0_sectorOfRecord 54 = .ok (.iadd, 1) := by decide +kernel
theorem dX0_sectorOfRecord_55 : decode cX0_sectorOfRecord 55 = .ok (.invokestatic 53, 3) := by decide +kernel
theorem dX0_sectorOfRecord_58 : decode cX0_sectorOfRecord 58 = .ok (.istore_n 2, 1) := by decide +kernel
theorem dX0_sectorOfRecord_59 : decode cX0_sectorOfRecord 59 = .ok (.iinc 4 1, 3) := by decide +kernel
theorem dX0_sectorOfRecord_62 : decode cX0_sectorOfRecord 62 = .ok (.goto (-38), 3) := by decide +kernel
theorem dX0_sectorOfRecord_65 : decode cX0_sectorOfRecord 65 = .ok (.iconst (-1), 1) := by decide +kernel
theorem dX0_sectorOfRecord_66 : decode cX0_sectorOfRecord 66 = .ok (.ireturn, 1) := by decide +kernel
set_option maxRecDepth 20000 in
theorem ggX0_lengthAt_X0_onRing : GoodIn wsX0_lengthAt wsX0_onRing := goodIn_r _ [5, 6, 7, 8, 9] (by decide +kernel) (by decide +kernel)
set_option maxRecDepth 20000 in
theorem gX0_lengthAt_X0_onRing : GoodIn wsX0_lengthAt (va_wsS RX0 53 yX0_onRing wsX0_onRing) := goodIn_app (goodIn_of _ (by decide +kernel)) ggX0_lengthAt_X0_onRing
theorem dX0_lengthAt_0 : decode cX0_lengthAt 0 = .ok (.aload_n 0, 1) := by decide +kernel
theorem dX0_lengthAt_1 : decode cX0_lengthAt 1 = .ok (.getfield 15, 3) := by decide +kernel
theorem dX0_lengthAt_4 : decode cX0_lengthAt 4 = .ok (.iload_n 1, 1) := by decide +kernel
theorem dX0_lengthAt_5 : decode cX0_lengthAt 5 = .ok (.invokestatic 53, 3) := by decide +kernel
theorem dX0_lengthAt_8 : decode cX0_lengthAt 8 = .ok (.iaload, 1) := by decide +kernel
theorem dX0_lengthAt_9 : decode cX0_lengthAt 9 = .ok (.ireturn, 1) := by decide +kernel
set_option maxRecDepth 20000 in
theorem ggX0_numberAt_X0_onRing : GoodIn wsX0_numberAt wsX0_onRing := goodIn_r _ [5, 6, 7, 8, 9] (by decide +kernel) (by decide +kernel)
set_option maxRecDepth 20000 in
theorem gX0_numberAt_X0_onRing : GoodIn wsX0_numberAt (va_wsS RX0 53 yX0_onRing wsX0_onRing) := goodIn_app (goodIn_of _ (by decide +kernel)) ggX0_numberAt_X0_onRing
theorem dX0_numberAt_0 : decode cX0_numberAt 0 = .ok (.aload_n 0, 1) := by decide +kernel
theorem dX0_numberAt_1 : decode cX0_numberAt 1 = .ok (.getfield 19, 3) := by decide +kernel
theorem dX0_numberAt_4 : decode cX0_numberAt 4 = .ok (.iload_n 1, 1) := by decide +kernel
theorem dX0_numberAt_5 : decode cX0_numberAt 5 = .ok (.invokestatic 53, 3) := by decide +kernel
theorem dX0_numberAt_8 : decode cX0_numberAt 8 = .ok (.iaload, 1) := by decide +kernel
theorem dX0_numberAt_9 : decode cX0_numberAt 9 = .ok (.ireturn, 1) := by decide +kernel
set_option maxRecDepth 20000 in
theorem ggX0_eightBytes_X0_lengthAt : GoodIn wsX0_eightBytes wsX0_lengthAt := goodIn_r _ [6, 7, 8, 9, 5, 10, 11, 12, 13, 14, 18, 19, 20, 21, 22, 23] (by decide +kernel) (by decide +kernel)
set_option maxRecDepth 20000 in
theorem gX0_eightBytes_X0_lengthAt : GoodIn wsX0_eightBytes (wsV RX0 56 RX0 yX0_lengthAt wsX0_lengthAt) := goodIn_app (goodIn_of _ (by decide +kernel)) ggX0_eightBytes_X0_lengthAt
set_option maxRecDepth 20000 in
theorem ggX0_eightBytes_X0_place : GoodIn wsX0_eightBytes wsX0_place := goodIn_r _ [17, 11, 12, 13, 14] (by decide +kernel) (by decide +kernel)
set_option maxRecDepth 20000 in
theorem gX0_eightBytes_X0_place : GoodIn wsX0_eightBytes (va_wsS RX0 40 yX0_place wsX0_place) := goodIn_app (goodIn_of _ (by decide +kernel)) ggX0_eightBytes_X0_place
theorem dX0_eightBytes_0 : decode cX0_eightBytes 0 = .ok (.aload_n 0, 1) := by decide +kernel
theorem dX0_eightBytes_1 : decode cX0_eightBytes 1 = .ok (.iload_n 1, 1) := by decide +kernel
theorem dX0_eightBytes_2 : decode cX0_eightBytes 2 = .ok (.invokevirtual 56, 3) := by decide +kernel
theorem dX0_eightBytes_5 : decode cX0_eightBytes 5 = .ok (.istore_n 3, 1) := by decide +kernel
theorem dX0_eightBytes_6 : decode cX0_eightBytes 6 = .ok (.iload_n 2, 1) := by decide +kernel
theorem dX0_eightBytes_7 : decode cX0_eightBytes 7 = .ok (.ifCond .lt 8, 3) := by decide +kernel
theorem dX0_eightBytes_10 : decode cX0_eightBytes 10 = .ok (.iload_n 2, 1) := by decide +kernel
theorem dX0_eightBytes_11 : decode cX0_eightBytes 11 = .ok (.iload_n 3, 1) := by decide +kernel
theorem dX0_eightBytes_12 : decode cX0_eightBytes 12 = .ok (.if_icmp .lt 5, 3) := by decide +kernel
theorem dX0_eightBytes_15 : decode cX0_eightBytes 15 = .ok (.lconst 0, 1) := by decide +kernel
theorem dX0_eightBytes_16 : decode cX0_eightBytes 16 = .ok (.lreturn, 1) := by decide +kernel
theorem dX0_eightBytes_17 : decode cX0_eightBytes 17 = .ok (.lconst 0, 1) := by decide +kernel
theorem dX0_eightBytes_18 : decode cX0_eightBytes 18 = .ok (.lstore 4, 2) := by decide +kernel
theorem dX0_eightBytes_20 : decode cX0_eightBytes 20 = .ok (.iload_n 2, 1) := by decide +kernel
theorem dX0_eightBytes_21 : decode cX0_eightBytes 21 = .ok (.istore 6, 2) := by decide +kernel
theorem dX0_eightBytes_23 : decode cX0_eightBytes 23 = .ok (.iload 6, 2) := by decide +kernel
theorem dX0_eightBytes_25 : decode cX0_eightBytes 25 = .ok (.iload_n 2, 1) := by decide +kernel
theorem dX0_eightBytes_26 : decode cX0_eightBytes 26 = .ok (.bipush 8, 2) := by decide +kernel
theorem dX0_eightBytes_28 : decode cX0_eightBytes 28 = .ok (.iadd, 1) := by decide +kernel
theorem dX0_eightBytes_29 : decode cX0_eightBytes 29 = .ok (.if_icmp .ge 47, 3) := by decide +kernel
theorem dX0_eightBytes_32 : decode cX0_eightBytes 32 = .ok (.iload 6, 2) := by decide +kernel
theorem dX0_eightBytes_34 : decode cX0_eightBytes 34 = .ok (.iload_n 3, 1) := by decide +kernel
theorem dX0_eightBytes_35 : decode cX0_eightBytes 35 = .ok (.if_icmp .ge 21, 3) := by decide +kernel
theorem dX0_eightBytes_38 : decode cX0_eightBytes 38 = .ok (.aload_n 0, 1) := by decide +kernel
theorem dX0_eightBytes_39 : decode cX0_eightBytes 39 = .ok (.getfield 11, 3) := by decide +kernel
theorem dX0_eightBytes_42 : decode cX0_eightBytes 42 = .ok (.iload_n 1, 1) := by decide +kernel
theorem dX0_eightBytes_43 : decode cX0_eightBytes 43 = .ok (.iload 6, 2) := by decide +kernel
theorem dX0_eightBytes_45 : decode cX0_eightBytes 45 = .ok (.invokestatic 40, 3) := by decide +kernel
theorem dX0_eightBytes_48 : decode cX0_eightBytes 48 = .ok (.baload, 1) := by decide +kernel
theorem dX0_eightBytes_49 : decode cX0_eightBytes 49 = .ok (.sipush 255, 3) := by decide +kernel
theorem dX0_eightBytes_52 : decode cX0_eightBytes 52 = .ok (.iand, 1) := by decide +kernel
theorem dX0_eightBytes_53 : decode cX0_eightBytes 53 = .ok (.goto 4, 3) := by decide +kernel
theorem dX0_eightBytes_56 : decode cX0_eightBytes 56 = .ok (.iconst 0, 1) := by decide +kernel
theorem dX0_eightBytes_57 : decode cX0_eightBytes 57 = .ok (.istore 7, 2) := by decide +kernel
theorem dX0_eightBytes_59 : decode cX0_eightBytes 59 = .ok (.lload 4, 2) := by decide +kernel
theorem dX0_eightBytes_61 : decode cX0_eightBytes 61 = .ok (.bipush 8, 2) := by decide +kernel
theorem dX0_eightBytes_63 : decode cX0_eightBytes 63 = .ok (.lshl, 1) := by decide +kernel
theorem dX0_eightBytes_64 : decode cX0_eightBytes 64 = .ok (.iload 7, 2) := by decide +kernel
theorem dX0_eightBytes_66 : decode cX0_eightBytes 66 = .ok (.i2l, 1) := by decide +kernel
theorem dX0_eightBytes_67 : decode cX0_eightBytes 67 = .ok (.lor, 1) := by decide +kernel
theorem dX0_eightBytes_68 : decode cX0_eightBytes 68 = .ok (.lstore 4, 2) := by decide +kernel
theorem dX0_eightBytes_70 : decode cX0_eightBytes 70 = .ok (.iinc 6 1, 3) := by decide +kernel
theorem dX0_eightBytes_73 : decode cX0_eightBytes 73 = .ok (.goto (-50), 3) := by decide +kernel
theorem dX0_eightBytes_76 : decode cX0_eightBytes 76 = .ok (.lload 4, 2) := by decide +kernel
theorem dX0_eightBytes_78 : decode cX0_eightBytes 78 = .ok (.lreturn, 1) := by decide +kernel
set_option maxRecDepth 20000 in
theorem ggX0_addEntry_X0_onRing : GoodIn wsX0_addEntry wsX0_onRing := goodIn_r _ [7, 8, 9, 10, 11] (by decide +kernel) (by decide +kernel)
set_option maxRecDepth 20000 in
theorem gX0_addEntry_X0_onRing : GoodIn wsX0_addEntry (va_wsS RX0 53 yX0_onRing wsX0_onRing) := goodIn_app (goodIn_of _ (by decide +kernel)) ggX0_addEntry_X0_onRing
theorem dX0_addEntry_0 : decode cX0_addEntry 0 = .ok (.aload_n 0, 1) := by decide +kernel
theorem dX0_addEntry_1 : decode cX0_addEntry 1 = .ok (.getfield 22, 3) := by decide +kernel
theorem dX0_addEntry_4 : decode cX0_addEntry 4 = .ok (.aload_n 0, 1) := by decide +kernel
theorem dX0_addEntry_5 : decode cX0_addEntry 5 = .ok (.getfield 26, 3) := by decide +kernel
theorem dX0_addEntry_8 : decode cX0_addEntry 8 = .ok (.iadd, 1) := by decide +kernel
theorem dX0_addEntry_9 : decode cX0_addEntry 9 = .ok (.invokestatic 53, 3) := by decide +kernel
theorem dX0_addEntry_12 : decode cX0_addEntry 12 = .ok (.istore_n 3, 1) := by decide +kernel
theorem dX0_addEntry_13 : decode cX0_addEntry 13 = .ok (.aload_n 0, 1) := by decide +kernel
theorem dX0_addEntry_14 : decode cX0_addEntry 14 = .ok (.getfield 15, 3) := by decide +kernel
theorem dX0_addEntry_17 : decode cX0_addEntry 17 = .ok (.iload_n 3, 1) := by decide +kernel
theorem dX0_addEntry_18 : decode cX0_addEntry 18 = .ok (.iload_n 1, 1) := by decide +kernel
theorem dX0_addEntry_19 : decode cX0_addEntry 19 = .ok (.iastore, 1) := by decide +kernel
theorem dX0_addEntry_20 : decode cX0_addEntry 20 = .ok (.aload_n 0, 1) := by decide +kernel
theorem dX0_addEntry_21 : decode cX0_addEntry 21 = .ok (.dup, 1) := by decide +kernel
theorem dX0_addEntry_22 : decode cX0_addEntry 22 = .ok (.getfield 26, 3) := by decide +kernel
theorem dX0_addEntry_25 : decode cX0_addEntry 25 = .ok (.iload_n 2, 1) := by decide +kernel
theorem dX0_addEntry_26 : decode cX0_addEntry 26 = .ok (.iadd, 1) := by decide +kernel
theorem dX0_addEntry_27 : decode cX0_addEntry 27 = .ok (.putfield 26, 3) := by decide +kernel
theorem dX0_addEntry_30 : decode cX0_addEntry 30 = .ok (.iload_n 3, 1) := by decide +kernel
theorem dX0_addEntry_31 : decode cX0_addEntry 31 = .ok (.ireturn, 1) := by decide +kernel
set_option maxRecDepth 20000 in
theorem ggX0_giveBackOldest_X0_sectorsAt : GoodIn wsX0_giveBackOldest wsX0_sectorsAt := goodIn_r _ [7, 8, 9, 10, 6, 11, 12, 13, 14, 15, 16, 17, 18, 19, 20, 21, 22, 23, 24, 25, 26, 27, 28, 29, 30, 31, 32] (by decide +kernel) (by decide +kernel)
set_option maxRecDepth 20000 in
theorem gX0_giveBackOldest_X0_sectorsAt : GoodIn wsX0_giveBackOldest (wsV RX0 50 RX0 yX0_sectorsAt wsX0_sectorsAt) := goodIn_app (goodIn_of _ (by decide +kernel)) ggX0_giveBackOldest_X0_sectorsAt
set_option maxRecDepth 20000 in
theorem ggX0_giveBackOldest_X0_onRing : GoodIn wsX0_giveBackOldest wsX0_onRing := goodIn_r _ [19, 20, 21, 22, 23] (by decide +kernel) (by decide +kernel)
set_option maxRecDepth 20000 in
theorem gX0_giveBackOldest_X0_onRing : GoodIn wsX0_giveBackOldest (va_wsS RX0 53 yX0_onRing wsX0_onRing) := goodIn_app (goodIn_of _ (by decide +kernel)) ggX0_giveBackOldest_X0_onRing
theorem dX0_giveBackOldest_0 : decode cX0_giveBackOldest 0 = .ok (.aload_n 0, 1) := by decide +kernel
theorem dX0_giveBackOldest_1 : decode cX0_giveBackOldest 1 = .ok (.aload_n 0, 1) := by decide +kernel
theorem dX0_giveBackOldest_2 : decode cX0_giveBackOldest 2 = .ok (.getfield 22, 3) := by decide +kernel
theorem dX0_giveBackOldest_5 : decode cX0_giveBackOldest 5 = .ok (.invokevirtual 50, 3) := by decide +kernel
theorem dX0_giveBackOldest_8 : decode cX0_giveBackOldest 8 = .ok (.istore_n 1, 1) := by decide +kernel
theorem dX0_giveBackOldest_9 : decode cX0_giveBackOldest 9 = .ok (.aload_n 0, 1) := by decide +kernel
theorem dX0_giveBackOldest_10 : decode cX0_giveBackOldest 10 = .ok (.aload_n 0, 1) := by decide +kernel
theorem dX0_giveBackOldest_11 : decode cX0_giveBackOldest 11 = .ok (.getfield 22, 3) := by decide +kernel
theorem dX0_giveBackOldest_14 : decode cX0_giveBackOldest 14 = .ok (.iload_n 1, 1) := by decide +kernel
theorem dX0_giveBackOldest_15 : decode cX0_giveBackOldest 15 = .ok (.iadd, 1) := by decide +kernel
theorem dX0_giveBackOldest_16 : decode cX0_giveBackOldest 16 = .ok (.invokestatic 53, 3) := by decide +kernel
theorem dX0_giveBackOldest_19 : decode cX0_giveBackOldest 19 = .ok (.putfield 22, 3) := by decide +kernel
theorem dX0_giveBackOldest_22 : decode cX0_giveBackOldest 22 = .ok (.aload_n 0, 1) := by decide +kernel
theorem dX0_giveBackOldest_23 : decode cX0_giveBackOldest 23 = .ok (.dup, 1) := by decide +kernel
theorem dX0_giveBackOldest_24 : decode cX0_giveBackOldest 24 = .ok (.getfield 26, 3) := by decide +kernel
theorem dX0_giveBackOldest_27 : decode cX0_giveBackOldest 27 = .ok (.iload_n 1, 1) := by decide +kernel
theorem dX0_giveBackOldest_28 : decode cX0_giveBackOldest 28 = .ok (.isub, 1) := by decide +kernel
theorem dX0_giveBackOldest_29 : decode cX0_giveBackOldest 29 = .ok (.putfield 26, 3) := by decide +kernel
theorem dX0_giveBackOldest_32 : decode cX0_giveBackOldest 32 = .ok (.return_, 1) := by decide +kernel
set_option maxRecDepth 20000 in
theorem ggX0_isRecord_X0_lengthAt : GoodIn wsX0_isRecord wsX0_lengthAt := goodIn_r _ [5, 6, 7, 8, 4, 9, 10, 11, 12, 13, 14, 15, 16, 17, 18, 19] (by decide +kernel) (by decide +kernel)
set_option maxRecDepth 20000 in
theorem gX0_isRecord_X0_lengthAt : GoodIn wsX0_isRecord (wsV RX0 56 RX0 yX0_lengthAt wsX0_lengthAt) := goodIn_app (goodIn_of _ (by decide +kernel)) ggX0_isRecord_X0_lengthAt
theorem dX0_isRecord_0 : decode cX0_isRecord 0 = .ok (.aload_n 0, 1) := by decide +kernel
theorem dX0_isRecord_1 : decode cX0_isRecord 1 = .ok (.iload_n 1, 1) := by decide +kernel
theorem dX0_isRecord_2 : decode cX0_isRecord 2 = .ok (.invokevirtual 56, 3) := by decide +kernel
theorem dX0_isRecord_5 : decode cX0_isRecord 5 = .ok (.iconst (-1), 1) := by decide +kernel
theorem dX0_isRecord_6 : decode cX0_isRecord 6 = .ok (.if_icmp .eq 7, 3) := by decide +kernel
theorem dX0_isRecord_9 : decode cX0_isRecord 9 = .ok (.iconst 1, 1) := by decide +kernel
theorem dX0_isRecord_10 : decode cX0_isRecord 10 = .ok (.goto 4, 3) := by decide +kernel
theorem dX0_isRecord_13 : decode cX0_isRecord 13 = .ok (.iconst 0, 1) := by decide +kernel
theorem dX0_isRecord_14 : decode cX0_isRecord 14 = .ok (.ireturn, 1) := by decide +kernel
set_option maxRecDepth 20000 in
theorem ggX0_sectorsAt_X0_isRecord : GoodIn wsX0_sectorsAt wsX0_isRecord := goodIn_r _ [5, 6, 7, 8, 4, 9, 10, 11, 12, 13, 14, 15, 16, 17, 21, 22, 23, 24, 25, 26] (by decide +kernel) (by decide +kernel)
set_option maxRecDepth 20000 in
theorem gX0_sectorsAt_X0_isRecord : GoodIn wsX0_sectorsAt (wsV RX0 43 RX0 yX0_isRecord wsX0_isRecord) := goodIn_app (goodIn_of _ (by decide +kernel)) ggX0_sectorsAt_X0_isRecord
set_option maxRecDepth 20000 in
theorem ggX0_sectorsAt_X0_lengthAt : GoodIn wsX0_sectorsAt wsX0_lengthAt := goodIn_r _ [9, 10, 11, 12, 4, 13, 14, 15, 16, 17, 21, 22, 23, 24, 25, 26] (by decide +kernel) (by decide +kernel)
set_option maxRecDepth 20000 in
theorem gX0_sectorsAt_X0_lengthAt : GoodIn wsX0_sectorsAt (wsV RX0 56 RX0 yX0_lengthAt wsX0_lengthAt) := goodIn_app (goodIn_of _ (by decide +kernel)) ggX0_sectorsAt_X0_lengthAt
set_option maxRecDepth 20000 in
theorem ggX0_sectorsAt_X0_sectorsFor : GoodIn wsX0_sectorsAt wsX0_sectorsFor := goodIn_r _ [20] (by decide +kernel) (by decide +kernel)
set_option maxRecDepth 20000 in
theorem gX0_sectorsAt_X0_sectorsFor : GoodIn wsX0_sectorsAt (va_wsS RX0 32 yX0_sectorsFor wsX0_sectorsFor) := goodIn_app (goodIn_of _ (by decide +kernel)) ggX0_sectorsAt_X0_sectorsFor
theorem dX0_sectorsAt_0 : decode cX0_sectorsAt 0 = .ok (.aload_n 0, 1) := by decide +kernel
theorem dX0_sectorsAt_1 : decode cX0_sectorsAt 1 = .ok (.iload_n 1, 1) := by decide +kernel
theorem dX0_sectorsAt_2 : decode cX0_sectorsAt 2 = .ok (.invokevirtual 43, 3) := by decide +kernel
theorem dX0_sectorsAt_5 : decode cX0_sectorsAt 5 = .ok (.ifCond .eq 14, 3) := by decide +kernel
theorem dX0_sectorsAt_8 : decode cX0_sectorsAt 8 = .ok (.aload_n 0, 1) := by decide +kernel
theorem dX0_sectorsAt_9 : decode cX0_sectorsAt 9 = .ok (.iload_n 1, 1) := by decide +kernel
theorem dX0_sectorsAt_10 : decode cX0_sectorsAt 10 = .ok (.invokevirtual 56, 3) := by decide +kernel
theorem dX0_sectorsAt_13 : decode cX0_sectorsAt 13 = .ok (.invokestatic 32, 3) := by decide +kernel
theorem dX0_sectorsAt_16 : decode cX0_sectorsAt 16 = .ok (.goto 4, 3) := by decide +kernel
theorem dX0_sectorsAt_19 : decode cX0_sectorsAt 19 = .ok (.iconst 1, 1) := by decide +kernel
theorem dX0_sectorsAt_20 : decode cX0_sectorsAt 20 = .ok (.ireturn, 1) := by decide +kernel
set_option maxRecDepth 20000 in
theorem ggX0_onRing_J9_floorMod_7cf53 : GoodIn wsX0_onRing wsJ9_floorMod_7cf53 := goodIn_r _ [4] (by decide +kernel) (by decide +kernel)
set_option maxRecDepth 20000 in
theorem gX0_onRing_J9_floorMod_7cf53 : GoodIn wsX0_onRing (va_wsS RX0 59 yJ9_floorMod_7cf53 wsJ9_floorMod_7cf53) := goodIn_app (goodIn_of _ (by decide +kernel)) ggX0_onRing_J9_floorMod_7cf53
theorem dX0_onRing_0 : decode cX0_onRing 0 = .ok (.iload_n 0, 1) := by decide +kernel
theorem dX0_onRing_1 : decode cX0_onRing 1 = .ok (.bipush 40, 2) := by decide +kernel
theorem dX0_onRing_3 : decode cX0_onRing 3 = .ok (.invokestatic 59, 3) := by decide +kernel
theorem dX0_onRing_6 : decode cX0_onRing 6 = .ok (.ireturn, 1) := by decide +kernel
set_option maxRecDepth 20000 in
theorem ggX0_place_J9_floorMod_7cf53 : GoodIn wsX0_place wsJ9_floorMod_7cf53 := goodIn_r _ [4] (by decide +kernel) (by decide +kernel)
set_option maxRecDepth 20000 in
theorem gX0_place_J9_floorMod_7cf53 : GoodIn wsX0_place (va_wsS RX0 59 yJ9_floorMod_7cf53 wsJ9_floorMod_7cf53) := goodIn_app (goodIn_of _ (by decide +kernel)) ggX0_place_J9_floorMod_7cf53
theorem dX0_place_0 : decode cX0_place 0 = .ok (.iload_n 0, 1) := by decide +kernel
theorem dX0_place_1 : decode cX0_place 1 = .ok (.bipush 12, 2) := by decide +kernel
theorem dX0_place_3 : decode cX0_place 3 = .ok (.imul, 1) := by decide +kernel
theorem dX0_place_4 : decode cX0_place 4 = .ok (.iload_n 1, 1) := by decide +kernel
theorem dX0_place_5 : decode cX0_place 5 = .ok (.iadd, 1) := by decide +kernel
theorem dX0_place_6 : decode cX0_place 6 = .ok (.sipush 480, 3) := by decide +kernel
theorem dX0_place_9 : decode cX0_place 9 = .ok (.invokestatic 59, 3) := by decide +kernel
theorem dX0_place_12 : decode cX0_place 12 = .ok (.ireturn, 1) := by decide +kernel
set_option maxRecDepth 20000 in
theorem ggX1_init_X0_init : GoodIn wsX1_init wsX0_init := goodIn_r _ [17, 18, 2, 3, 4, 19, 20, 21, 22, 23, 24, 25, 33, 34, 35, 36, 37, 38] (by decide +kernel) (by decide +kernel)
set_option maxRecDepth 20000 in
theorem gX1_init_X0_init : GoodIn wsX1_init (wsX0_init) := ggX1_init_X0_init
theorem dX1_init_0 : decode cX1_init 0 = .ok (.aload_n 0, 1) := by decide +kernel
theorem dX1_init_1 : decode cX1_init 1 = .ok (.invokespecial 1, 3) := by decide +kernel
theorem dX1_init_4 : decode cX1_init 4 = .ok (.aload_n 0, 1) := by decide +kernel
theorem dX1_init_5 : decode cX1_init 5 = .ok (.bipush 100, 2) := by decide +kernel
theorem dX1_init_7 : decode cX1_init 7 = .ok (.newarray .byte, 2) := by decide +kernel
theorem dX1_init_9 : decode cX1_init 9 = .ok (.putfield 9, 3) := by decide +kernel
theorem dX1_init_12 : decode cX1_init 12 = .ok (.aload_n 0, 1) := by decide +kernel
theorem dX1_init_13 : decode cX1_init 13 = .ok (.iconst 0, 1) := by decide +kernel
theorem dX1_init_14 : decode cX1_init 14 = .ok (.putfield 13, 3) := by decide +kernel
theorem dX1_init_17 : decode cX1_init 17 = .ok (.aload_n 0, 1) := by decide +kernel
theorem dX1_init_18 : decode cX1_init 18 = .ok (.new 17, 3) := by decide +kernel
theorem dX1_init_21 : decode cX1_init 21 = .ok (.dup, 1) := by decide +kernel
theorem dX1_init_22 : decode cX1_init 22 = .ok (.invokespecial 19, 3) := by decide +kernel
theorem dX1_init_25 : decode cX1_init 25 = .ok (.putfield 20, 3) := by decide +kernel
theorem dX1_init_28 : decode cX1_init 28 = .ok (.aload_n 0, 1) := by decide +kernel
theorem dX1_init_29 : decode cX1_init 29 = .ok (.iconst 0, 1) := by decide +kernel
theorem dX1_init_30 : decode cX1_init 30 = .ok (.putfield 24, 3) := by decide +kernel
theorem dX1_init_33 : decode cX1_init 33 = .ok (.aload_n 0, 1) := by decide +kernel
theorem dX1_init_34 : decode cX1_init 34 = .ok (.iconst 0, 1) := by decide +kernel
theorem dX1_init_35 : decode cX1_init 35 = .ok (.putfield 27, 3) := by decide +kernel
theorem dX1_init_38 : decode cX1_init 38 = .ok (.aload_n 0, 1) := by decide +kernel
theorem dX1_init_39 : decode cX1_init 39 = .ok (.iconst 1, 1) := by decide +kernel
theorem dX1_init_40 : decode cX1_init 40 = .ok (.putfield 30, 3) := by decide +kernel
theorem dX1_init_43 : decode cX1_init 43 = .ok (.aload_n 0, 1) := by decide +kernel
theorem dX1_init_44 : decode cX1_init 44 = .ok (.iconst 0, 1) := by decide +kernel
theorem dX1_init_45 : decode cX1_init 45 = .ok (.putfield 34, 3) := by decide +kernel
theorem dX1_init_48 : decode cX1_init 48 = .ok (.return_, 1) := by decide +kernel
theorem dX1_put_0 : decode cX1_put 0 = .ok (.iload_n 3, 1) := by decide +kernel
theorem dX1_put_1 : decode cX1_put 1 = .ok (.iconst 1, 1) := by decide +kernel
theorem dX1_put_2 : decode cX1_put 2 = .ok (.if_icmp .lt 20, 3) := by decide +kernel
theorem dX1_put_5 : decode cX1_put 5 = .ok (.iload_n 3, 1) := by decide +kernel
theorem dX1_put_6 : decode cX1_put 6 = .ok (.bipush 8, 2) := by decide +kernel
theorem dX1_put_8 : decode cX1_put 8 = .ok (.if_icmp .gt 14, 3) := by decide +kernel
theorem dX1_put_11 : decode cX1_put 11 = .ok (.iload_n 3, 1) := by decide +kernel
theorem dX1_put_12 : decode cX1_put 12 = .ok (.bipush 100, 2) := by decide +kernel
theorem dX1_put_14 : decode cX1_put 14 = .ok (.aload_n 0, 1) := by decide +kernel
theorem dX1_put_15 : decode cX1_put 15 = .ok (.getfield 13, 3) := by decide +kernel
theorem dX1_put_18 : decode cX1_put 18 = .ok (.isub, 1) := by decide +kernel
theorem dX1_put_19 : decode cX1_put 19 = .ok (.if_icmp .le 5, 3) := by decide +kernel
theorem dX1_put_22 : decode cX1_put 22 = .ok (.iconst 0, 1) := by decide +kernel
theorem dX1_put_23 : decode cX1_put 23 = .ok (.ireturn, 1) := by decide +kernel
theorem dX1_put_24 : decode cX1_put 24 = .ok (.iload_n 3, 1) := by decide +kernel
theorem dX1_put_25 : decode cX1_put 25 = .ok (.iconst 1, 1) := by decide +kernel
theorem dX1_put_26 : decode cX1_put 26 = .ok (.isub, 1) := by decide +kernel
theorem dX1_put_27 : decode cX1_put 27 = .ok (.istore 4, 2) := by decide +kernel
theorem dX1_put_29 : decode cX1_put 29 = .ok (.iload 4, 2) := by decide +kernel
theorem dX1_put_31 : decode cX1_put 31 = .ok (.ifCond .lt 37, 3) := by decide +kernel
theorem dX1_put_34 : decode cX1_put 34 = .ok (.aload_n 0, 1) := by decide +kernel
theorem dX1_put_35 : decode cX1_put 35 = .ok (.getfield 9, 3) := by decide +kernel
theorem dX1_put_38 : decode cX1_put 38 = .ok (.aload_n 0, 1) := by decide +kernel
theorem dX1_put_39 : decode cX1_put 39 = .ok (.getfield 13, 3) := by decide +kernel
theorem dX1_put_42 : decode cX1_put 42 = .ok (.lload_n 1, 1) := by decide +kernel
theorem dX1_put_43 : decode cX1_put 43 = .ok (.bipush 8, 2) := by decide +kernel
theorem dX1_put_45 : decode cX1_put 45 = .ok (.iload 4, 2) := by decide +kernel
theorem dX1_put_47 : decode cX1_put 47 = .ok (.imul, 1) := by decide +kernel
theorem dX1_put_48 : decode cX1_put 48 = .ok (.lushr, 1) := by decide +kernel
theorem dX1_put_49 : decode cX1_put 49 = .ok (.l2i, 1) := by decide +kernel
theorem dX1_put_50 : decode cX1_put 50 = .ok (.i2b, 1) := by decide +kernel
theorem dX1_put_51 : decode cX1_put 51 = .ok (.bastore, 1) := by decide +kernel
theorem dX1_put_52 : decode cX1_put 52 = .ok (.aload_n 0, 1) := by decide +kernel
theorem dX1_put_53 : decode cX1_put 53 = .ok (.dup, 1) := by decide +kernel
theorem dX1_put_54 : decode cX1_put 54 = .ok (.getfield 13, 3) := by decide +kernel
theorem dX1_put_57 : decode cX1_put 57 = .ok (.iconst 1, 1) := by decide +kernel
theorem dX1_put_58 : decode cX1_put 58 = .ok (.iadd, 1) := by decide +kernel
theorem dX1_put_59 : decode cX1_put 59 = .ok (.putfield 13, 3) := by decide +kernel
theorem dX1_put_62 : decode cX1_put 62 = .ok (.iinc 4 (-1), 3) := by decide +kernel
theorem dX1_put_65 : decode cX1_put 65 = .ok (.goto (-36), 3) := by decide +kernel
theorem dX1_put_68 : decode cX1_put 68 = .ok (.iconst 1, 1) := by decide +kernel
theorem dX1_put_69 : decode cX1_put 69 = .ok (.ireturn, 1) := by decide +kernel
set_option maxRecDepth 20000 in
theorem ggX1_write_X0_sectorsFor : GoodIn wsX1_write wsX0_sectorsFor := goodIn_r _ [10] (by decide +kernel) (by decide +kernel)
set_option maxRecDepth 20000 in
theorem gX1_write_X0_sectorsFor : GoodIn wsX1_write (va_wsS RX1 37 yX0_sectorsFor wsX0_sectorsFor) := goodIn_app (goodIn_of _ (by decide +kernel)) ggX1_write_X0_sectorsFor
set_option maxRecDepth 20000 in
theorem ggX1_write_X0_hasRoom : GoodIn wsX1_write wsX0_hasRoom := goodIn_r _ [14, 15, 53, 54, 55, 56, 57, 58] (by decide +kernel) (by decide +kernel)
set_option maxRecDepth 20000 in
theorem gX1_write_X0_hasRoom : GoodIn wsX1_write (wsV RX1 41 RX0 yX0_hasRoom wsX0_hasRoom) := goodIn_app (goodIn_of _ (by decide +kernel)) ggX1_write_X0_hasRoom
set_option maxRecDepth 20000 in
theorem ggX1_write_X1_losesPower : GoodIn wsX1_write wsX1_losesPower := goodIn_r _ [20, 21, 1, 46, 47, 48, 49, 50, 51, 52] (by decide +kernel) (by decide +kernel)
set_option maxRecDepth 20000 in
theorem gX1_write_X1_losesPower : GoodIn wsX1_write (wsV RX1 45 RX1 yX1_losesPower wsX1_losesPower) := goodIn_app (goodIn_of _ (by decide +kernel)) ggX1_write_X1_losesPower
set_option maxRecDepth 20000 in
theorem ggX1_write_X0_addRecord : GoodIn wsX1_write wsX0_addRecord := goodIn_r _ [25, 26, 27, 28, 29, 8, 9, 10, 30, 31, 32, 33, 34, 15, 35, 36, 37, 38, 39, 40, 41, 42, 43, 44, 45, 53, 54, 55, 56, 57, 58] (by decide +kernel) (by decide +kernel)
set_option maxRecDepth 20000 in
theorem gX1_write_X0_addRecord : GoodIn wsX1_write (wsV RX1 49 RX0 yX0_addRecord wsX0_addRecord) := goodIn_app (goodIn_of _ (by decide +kernel)) ggX1_write_X0_addRecord
theorem dX1_write_0 : decode cX1_write 0 = .ok (.aload_n 0, 1) := by decide +kernel
theorem dX1_write_1 : decode cX1_write 1 = .ok (.getfield 30, 3) := by decide +kernel
theorem dX1_write_4 : decode cX1_write 4 = .ok (.ifCond .eq 20, 3) := by decide +kernel
theorem dX1_write_7 : decode cX1_write 7 = .ok (.aload_n 0, 1) := by decide +kernel
theorem dX1_write_8 : decode cX1_write 8 = .ok (.getfield 20, 3) := by decide +kernel
theorem dX1_write_11 : decode cX1_write 11 = .ok (.aload_n 0, 1) := by decide +kernel
theorem dX1_write_12 : decode cX1_write 12 = .ok (.getfield 13, 3) := by decide +kernel
theorem dX1_write_15 : decode cX1_write 15 = .ok (.invokestatic 37, 3) := by decide +kernel
theorem dX1_write_18 : decode cX1_write 18 = .ok (.invokevirtual 41, 3) := by decide +kernel
theorem dX1_write_21 : decode cX1_write 21 = .ok (.ifCond .ne 5, 3) := by decide +kernel
theorem dX1_write_24 : decode cX1_write 24 = .ok (.iconst (-1), 1) := by decide +kernel
theorem dX1_write_25 : decode cX1_write 25 = .ok (.ireturn, 1) := by decide +kernel
theorem dX1_write_26 : decode cX1_write 26 = .ok (.aload_n 0, 1) := by decide +kernel
theorem dX1_write_27 : decode cX1_write 27 = .ok (.getfield 13, 3) := by decide +kernel
theorem dX1_write_30 : decode cX1_write 30 = .ok (.istore_n 1, 1) := by decide +kernel
theorem dX1_write_31 : decode cX1_write 31 = .ok (.aload_n 0, 1) := by decide +kernel
theorem dX1_write_32 : decode cX1_write 32 = .ok (.iconst 0, 1) := by decide +kernel
theorem dX1_write_33 : decode cX1_write 33 = .ok (.putfield 13, 3) := by decide +kernel
theorem dX1_write_36 : decode cX1_write 36 = .ok (.aload_n 0, 1) := by decide +kernel
theorem dX1_write_37 : decode cX1_write 37 = .ok (.invokevirtual 45, 3) := by decide +kernel
theorem dX1_write_40 : decode cX1_write 40 = .ok (.ifCond .eq 6, 3) := by decide +kernel
theorem dX1_write_43 : decode cX1_write 43 = .ok (.bipush (-2), 2) := by decide +kernel
theorem dX1_write_45 : decode cX1_write 45 = .ok (.ireturn, 1) := by decide +kernel
theorem dX1_write_46 : decode cX1_write 46 = .ok (.aload_n 0, 1) := by decide +kernel
theorem dX1_write_47 : decode cX1_write 47 = .ok (.getfield 24, 3) := by decide +kernel
theorem dX1_write_50 : decode cX1_write 50 = .ok (.istore_n 2, 1) := by decide +kernel
theorem dX1_write_51 : decode cX1_write 51 = .ok (.aload_n 0, 1) := by decide +kernel
theorem dX1_write_52 : decode cX1_write 52 = .ok (.getfield 20, 3) := by decide +kernel
theorem dX1_write_55 : decode cX1_write 55 = .ok (.aload_n 0, 1) := by decide +kernel
theorem dX1_write_56 : decode cX1_write 56 = .ok (.getfield 9, 3) := by decide +kernel
theorem dX1_write_59 : decode cX1_write 59 = .ok (.iload_n 1, 1) := by decide +kernel
theorem dX1_write_60 : decode cX1_write 60 = .ok (.iload_n 2, 1) := by decide +kernel
theorem dX1_write_61 : decode cX1_write 61 = .ok (.invokevirtual 49, 3) := by decide +kernel
theorem dX1_write_64 : decode cX1_write 64 = .ok (.aload_n 0, 1) := by decide +kernel
theorem dX1_write_65 : decode cX1_write 65 = .ok (.dup, 1) := by decide +kernel
theorem dX1_write_66 : decode cX1_write 66 = .ok (.getfield 24, 3) := by decide +kernel
theorem dX1_write_69 : decode cX1_write 69 = .ok (.iconst 1, 1) := by decide +kernel
theorem dX1_write_70 : decode cX1_write 70 = .ok (.iadd, 1) := by decide +kernel
theorem dX1_write_71 : decode cX1_write 71 = .ok (.putfield 24, 3) := by decide +kernel
theorem dX1_write_74 : decode cX1_write 74 = .ok (.aload_n 0, 1) := by decide +kernel
theorem dX1_write_75 : decode cX1_write 75 = .ok (.dup, 1) := by decide +kernel
theorem dX1_write_76 : decode cX1_write 76 = .ok (.getfield 27, 3) := by decide +kernel
theorem dX1_write_79 : decode cX1_write 79 = .ok (.iconst 1, 1) := by decide +kernel
theorem dX1_write_80 : decode cX1_write 80 = .ok (.iadd, 1) := by decide +kernel
theorem dX1_write_81 : decode cX1_write 81 = .ok (.putfield 27, 3) := by decide +kernel
theorem dX1_write_84 : decode cX1_write 84 = .ok (.iload_n 2, 1) := by decide +kernel
theorem dX1_write_85 : decode cX1_write 85 = .ok (.ireturn, 1) := by decide +kernel
set_option maxRecDepth 20000 in
theorem ggX1_drop_X0_records : GoodIn wsX1_drop wsX0_records := goodIn_r _ [8, 9, 64, 65, 66, 67, 68, 69] (by decide +kernel) (by decide +kernel)
set_option maxRecDepth 20000 in
theorem gX1_drop_X0_records : GoodIn wsX1_drop (wsV RX1 53 RX0 yX0_records wsX0_records) := goodIn_app (goodIn_of _ (by decide +kernel)) ggX1_drop_X0_records
set_option maxRecDepth 20000 in
theorem ggX1_drop_X0_hasRoom : GoodIn wsX1_drop wsX0_hasRoom := goodIn_r _ [13, 14, 64, 65, 66, 67, 68, 69] (by decide +kernel) (by decide +kernel)
set_option maxRecDepth 20000 in
theorem gX1_drop_X0_hasRoom : GoodIn wsX1_drop (wsV RX1 41 RX0 yX0_hasRoom wsX0_hasRoom) := goodIn_app (goodIn_of _ (by decide +kernel)) ggX1_drop_X0_hasRoom
set_option maxRecDepth 20000 in
theorem ggX1_drop_X1_losesPower : GoodIn wsX1_drop wsX1_losesPower := goodIn_r _ [19, 20, 1, 57, 58, 59, 60, 61, 62, 63] (by decide +kernel) (by decide +kernel)
set_option maxRecDepth 20000 in
theorem gX1_drop_X1_losesPower : GoodIn wsX1_drop (wsV RX1 45 RX1 yX1_losesPower wsX1_losesPower) := goodIn_app (goodIn_of _ (by decide +kernel)) ggX1_drop_X1_losesPower
set_option maxRecDepth 20000 in
theorem ggX1_drop_X0_addDrop : GoodIn wsX1_drop wsX0_addDrop := goodIn_r _ [24, 9, 25, 26, 27, 28, 7, 29, 14, 30, 31, 32, 33, 34, 35, 36, 37, 38, 39, 40, 41, 42, 43, 44, 45, 46, 47, 48, 49, 50, 51, 52, 53, 54, 55, 56, 64, 65, 66, 67, 68, 69] (by decide +kernel) (by decide +kernel)
set_option maxRecDepth 20000 in
theorem gX1_drop_X0_addDrop : GoodIn wsX1_drop (wsV RX1 57 RX0 yX0_addDrop wsX0_addDrop) := goodIn_app (goodIn_of _ (by decide +kernel)) ggX1_drop_X0_addDrop
theorem dX1_drop_0 : decode cX1_drop 0 = .ok (.aload_n 0, 1) := by decide +kernel
theorem dX1_drop_1 : decode cX1_drop 1 = .ok (.getfield 30, 3) := by decide +kernel
theorem dX1_drop_4 : decode cX1_drop 4 = .ok (.ifCond .eq 29, 3) := by decide +kernel
theorem dX1_drop_7 : decode cX1_drop 7 = .ok (.iload_n 1, 1) := by decide +kernel
theorem dX1_drop_8 : decode cX1_drop 8 = .ok (.ifCond .lt 25, 3) := by decide +kernel
theorem dX1_drop_11 : decode cX1_drop 11 = .ok (.iload_n 1, 1) := by decide +kernel
theorem dX1_drop_12 : decode cX1_drop 12 = .ok (.aload_n 0, 1) := by decide +kernel
theorem dX1_drop_13 : decode cX1_drop 13 = .ok (.getfield 20, 3) := by decide +kernel
theorem dX1_drop_16 : decode cX1_drop 16 = .ok (.invokevirtual 53, 3) := by decide +kernel
theorem dX1_drop_19 : decode cX1_drop 19 = .ok (.if_icmp .gt 14, 3) := by decide +kernel
theorem dX1_drop_22 : decode cX1_drop 22 = .ok (.aload_n 0, 1) := by decide +kernel
theorem dX1_drop_23 : decode cX1_drop 23 = .ok (.getfield 20, 3) := by decide +kernel
theorem dX1_drop_26 : decode cX1_drop 26 = .ok (.iconst 1, 1) := by decide +kernel
theorem dX1_drop_27 : decode cX1_drop 27 = .ok (.invokevirtual 41, 3) := by decide +kernel
theorem dX1_drop_30 : decode cX1_drop 30 = .ok (.ifCond .ne 5, 3) := by decide +kernel
theorem dX1_drop_33 : decode cX1_drop 33 = .ok (.iconst (-1), 1) := by decide +kernel
theorem dX1_drop_34 : decode cX1_drop 34 = .ok (.ireturn, 1) := by decide +kernel
theorem dX1_drop_35 : decode cX1_drop 35 = .ok (.aload_n 0, 1) := by decide +kernel
theorem dX1_drop_36 : decode cX1_drop 36 = .ok (.invokevirtual 45, 3) := by decide +kernel
theorem dX1_drop_39 : decode cX1_drop 39 = .ok (.ifCond .eq 6, 3) := by decide +kernel
theorem dX1_drop_42 : decode cX1_drop 42 = .ok (.bipush (-2), 2) := by decide +kernel
theorem dX1_drop_44 : decode cX1_drop 44 = .ok (.ireturn, 1) := by decide +kernel
theorem dX1_drop_45 : decode cX1_drop 45 = .ok (.aload_n 0, 1) := by decide +kernel
theorem dX1_drop_46 : decode cX1_drop 46 = .ok (.getfield 20, 3) := by decide +kernel
theorem dX1_drop_49 : decode cX1_drop 49 = .ok (.iload_n 1, 1) := by decide +kernel
theorem dX1_drop_50 : decode cX1_drop 50 = .ok (.invokevirtual 57, 3) := by decide +kernel
theorem dX1_drop_53 : decode cX1_drop 53 = .ok (.aload_n 0, 1) := by decide +kernel
theorem dX1_drop_54 : decode cX1_drop 54 = .ok (.dup, 1) := by decide +kernel
theorem dX1_drop_55 : decode cX1_drop 55 = .ok (.getfield 27, 3) := by decide +kernel
theorem dX1_drop_58 : decode cX1_drop 58 = .ok (.iconst 1, 1) := by decide +kernel
theorem dX1_drop_59 : decode cX1_drop 59 = .ok (.iadd, 1) := by decide +kernel
theorem dX1_drop_60 : decode cX1_drop 60 = .ok (.putfield 27, 3) := by decide +kernel
theorem dX1_drop_63 : decode cX1_drop 63 = .ok (.aload_n 0, 1) := by decide +kernel
theorem dX1_drop_64 : decode cX1_drop 64 = .ok (.getfield 20, 3) := by decide +kernel
theorem dX1_drop_67 : decode cX1_drop 67 = .ok (.invokevirtual 53, 3) := by decide +kernel
theorem dX1_drop_70 : decode cX1_drop 70 = .ok (.ireturn, 1) := by decide +kernel
theorem dX1_cut_0 : decode cX1_cut 0 = .ok (.iload_n 1, 1) := by decide +kernel
theorem dX1_cut_1 : decode cX1_cut 1 = .ok (.iconst (-1), 1) := by decide +kernel
theorem dX1_cut_2 : decode cX1_cut 2 = .ok (.if_icmp .lt 9, 3) := by decide +kernel
theorem dX1_cut_5 : decode cX1_cut 5 = .ok (.iload_n 1, 1) := by decide +kernel
theorem dX1_cut_6 : decode cX1_cut 6 = .ok (.bipush 8, 2) := by decide +kernel
theorem dX1_cut_8 : decode cX1_cut 8 = .ok (.if_icmp .le 5, 3) := by decide +kernel
theorem dX1_cut_11 : decode cX1_cut 11 = .ok (.iconst 0, 1) := by decide +kernel
theorem dX1_cut_12 : decode cX1_cut 12 = .ok (.ireturn, 1) := by decide +kernel
theorem dX1_cut_13 : decode cX1_cut 13 = .ok (.aload_n 0, 1) := by decide +kernel
theorem dX1_cut_14 : decode cX1_cut 14 = .ok (.iload_n 1, 1) := by decide +kernel
theorem dX1_cut_15 : decode cX1_cut 15 = .ok (.iconst (-1), 1) := by decide +kernel
theorem dX1_cut_16 : decode cX1_cut 16 = .ok (.if_icmp .eq 7, 3) := by decide +kernel
theorem dX1_cut_19 : decode cX1_cut 19 = .ok (.iconst 1, 1) := by decide +kernel
theorem dX1_cut_20 : decode cX1_cut 20 = .ok (.goto 4, 3) := by decide +kernel
theorem dX1_cut_23 : decode cX1_cut 23 = .ok (.iconst 0, 1) := by decide +kernel
theorem dX1_cut_24 : decode cX1_cut 24 = .ok (.putfield 34, 3) := by decide +kernel
theorem dX1_cut_27 : decode cX1_cut 27 = .ok (.iconst 1, 1) := by decide +kernel
theorem dX1_cut_28 : decode cX1_cut 28 = .ok (.ireturn, 1) := by decide +kernel
set_option maxRecDepth 20000 in
theorem ggX1_start_X0_records : GoodIn wsX1_start wsX0_records := goodIn_r _ [7, 8, 16, 17, 18, 19, 20, 21] (by decide +kernel) (by decide +kernel)
set_option maxRecDepth 20000 in
theorem gX1_start_X0_records : GoodIn wsX1_start (wsV RX1 53 RX0 yX0_records wsX0_records) := goodIn_app (goodIn_of _ (by decide +kernel)) ggX1_start_X0_records
theorem dX1_start_0 : decode cX1_start 0 = .ok (.aload_n 0, 1) := by decide +kernel
theorem dX1_start_1 : decode cX1_start 1 = .ok (.getfield 30, 3) := by decide +kernel
theorem dX1_start_4 : decode cX1_start 4 = .ok (.ifCond .eq 5, 3) := by decide +kernel
theorem dX1_start_7 : decode cX1_start 7 = .ok (.iconst (-1), 1) := by decide +kernel
theorem dX1_start_8 : decode cX1_start 8 = .ok (.ireturn, 1) := by decide +kernel
theorem dX1_start_9 : decode cX1_start 9 = .ok (.aload_n 0, 1) := by decide +kernel
theorem dX1_start_10 : decode cX1_start 10 = .ok (.iconst 1, 1) := by decide +kernel
theorem dX1_start_11 : decode cX1_start 11 = .ok (.putfield 30, 3) := by decide +kernel
theorem dX1_start_14 : decode cX1_start 14 = .ok (.aload_n 0, 1) := by decide +kernel
theorem dX1_start_15 : decode cX1_start 15 = .ok (.getfield 20, 3) := by decide +kernel
theorem dX1_start_18 : decode cX1_start 18 = .ok (.invokevirtual 53, 3) := by decide +kernel
theorem dX1_start_21 : decode cX1_start 21 = .ok (.ireturn, 1) := by decide +kernel
set_option maxRecDepth 20000 in
theorem ggX1_record_X1_findRecord : GoodIn wsX1_record wsX1_findRecord := goodIn_r _ [6, 7, 1, 8, 9, 10, 11, 12, 13, 14, 15, 16, 17, 18, 19, 20, 21, 22, 23, 24, 25, 26, 27, 28, 29, 30, 31, 32, 33, 34, 35, 36, 37, 44, 45, 46, 47, 48, 49, 50, 51, 52, 53, 54, 55, 56] (by decide +kernel) (by decide +kernel)
set_option maxRecDepth 20000 in
theorem gX1_record_X1_findRecord : GoodIn wsX1_record (wsV RX1 61 RX1 yX1_findRecord wsX1_findRecord) := goodIn_app (goodIn_of _ (by decide +kernel)) ggX1_record_X1_findRecord
set_option maxRecDepth 20000 in
theorem ggX1_record_X0_lengthAt : GoodIn wsX1_record wsX0_lengthAt := goodIn_r _ [22, 23, 24, 25, 11, 26, 27, 28, 29, 30, 51, 52, 53, 54, 55, 56] (by decide +kernel) (by decide +kernel)
set_option maxRecDepth 20000 in
theorem gX1_record_X0_lengthAt : GoodIn wsX1_record (wsV RX1 64 RX0 yX0_lengthAt wsX0_lengthAt) := goodIn_app (goodIn_of _ (by decide +kernel)) ggX1_record_X0_lengthAt
set_option maxRecDepth 20000 in
theorem ggX1_record_X0_numberAt : GoodIn wsX1_record wsX0_numberAt := goodIn_r _ [42, 43, 24, 25, 11, 26, 27, 28, 29, 30, 51, 52, 53, 54, 55, 56] (by decide +kernel) (by decide +kernel)
set_option maxRecDepth 20000 in
theorem gX1_record_X0_numberAt : GoodIn wsX1_record (wsV RX1 67 RX0 yX0_numberAt wsX0_numberAt) := goodIn_app (goodIn_of _ (by decide +kernel)) ggX1_record_X0_numberAt
theorem dX1_record_0 : decode cX1_record 0 = .ok (.aload_n 0, 1) := by decide +kernel
theorem dX1_record_1 : decode cX1_record 1 = .ok (.iload_n 1, 1) := by decide +kernel
theorem dX1_record_2 : decode cX1_record 2 = .ok (.invokevirtual 61, 3) := by decide +kernel
theorem dX1_record_5 : decode cX1_record 5 = .ok (.istore_n 3, 1) := by decide +kernel
theorem dX1_record_6 : decode cX1_record 6 = .ok (.iload_n 3, 1) := by decide +kernel
theorem dX1_record_7 : decode cX1_record 7 = .ok (.iconst (-1), 1) := by decide +kernel
theorem dX1_record_8 : decode cX1_record 8 = .ok (.if_icmp .ne 5, 3) := by decide +kernel
theorem dX1_record_11 : decode cX1_record 11 = .ok (.iconst (-1), 1) := by decide +kernel
theorem dX1_record_12 : decode cX1_record 12 = .ok (.ireturn, 1) := by decide +kernel
theorem dX1_record_13 : decode cX1_record 13 = .ok (.iload_n 2, 1) := by decide +kernel
theorem dX1_record_14 : decode cX1_record 14 = .ok (.lookupswitch 44 #[(0, 26), (1, 35)], 26) := by decide +kernel
theorem dX1_record_40 : decode cX1_record 40 = .ok (.aload_n 0, 1) := by decide +kernel
theorem dX1_record_41 : decode cX1_record 41 = .ok (.getfield 20, 3) := by decide +kernel
theorem dX1_record_44 : decode cX1_record 44 = .ok (.iload_n 3, 1) := by decide +kernel
theorem dX1_record_45 : decode cX1_record 45 = .ok (.invokevirtual 64, 3) := by decide +kernel
theorem dX1_record_48 : decode cX1_record 48 = .ok (.ireturn, 1) := by decide +kernel
theorem dX1_record_49 : decode cX1_record 49 = .ok (.aload_n 0, 1) := by decide +kernel
theorem dX1_record_50 : decode cX1_record 50 = .ok (.getfield 20, 3) := by decide +kernel
theorem dX1_record_53 : decode cX1_record 53 = .ok (.iload_n 3, 1) := by decide +kernel
theorem dX1_record_54 : decode cX1_record 54 = .ok (.invokevirtual 67, 3) := by decide +kernel
theorem dX1_record_57 : decode cX1_record 57 = .ok (.ireturn, 1) := by decide +kernel
theorem dX1_record_58 : decode cX1_record 58 = .ok (.iconst (-1), 1) := by decide +kernel
theorem dX1_record_59 : decode cX1_record 59 = .ok (.ireturn, 1) := by decide +kernel
set_option maxRecDepth 20000 in
theorem ggX1_bytes_X1_findRecord : GoodIn wsX1_bytes wsX1_findRecord := goodIn_r _ [7, 8, 2, 9, 10, 11, 12, 13, 14, 15, 16, 17, 18, 19, 20, 21, 22, 23, 24, 25, 26, 27, 28, 29, 30, 31, 32, 33, 34, 35, 36, 37, 38, 47, 48, 49, 50, 51, 52, 53, 54, 55, 56, 57, 58, 59] (by decide +kernel) (by decide +kernel)
set_option maxRecDepth 20000 in
theorem gX1_bytes_X1_findRecord : GoodIn wsX1_bytes (wsV RX1 61 RX1 yX1_findRecord wsX1_findRecord) := goodIn_app (goodIn_of _ (by decide +kernel)) ggX1_bytes_X1_findRecord
set_option maxRecDepth 20000 in
theorem ggX1_bytes_X0_eightBytes : GoodIn wsX1_bytes wsX0_eightBytes := goodIn_r _ [42, 43, 20, 21, 22, 12, 23, 24, 25, 26, 27, 28, 29, 30, 31, 44, 45, 46, 54, 55, 56, 57, 58, 59] (by decide +kernel) (by decide +kernel)
set_option maxRecDepth 20000 in
theorem gX1_bytes_X0_eightBytes : GoodIn wsX1_bytes (wsV RX1 72 RX0 yX0_eightBytes wsX0_eightBytes) := goodIn_app (goodIn_of _ (by decide +kernel)) ggX1_bytes_X0_eightBytes
theorem dX1_bytes_0 : decode cX1_bytes 0 = .ok (.aload_n 0, 1) := by decide +kernel
theorem dX1_bytes_1 : decode cX1_bytes 1 = .ok (.iload_n 1, 1) := by decide +kernel
theorem dX1_bytes_2 : decode cX1_bytes 2 = .ok (.invokevirtual 61, 3) := by decide +kernel
theorem dX1_bytes_5 : decode cX1_bytes 5 = .ok (.istore_n 3, 1) := by decide +kernel
theorem dX1_bytes_6 : decode cX1_bytes 6 = .ok (.iload_n 3, 1) := by decide +kernel
theorem dX1_bytes_7 : decode cX1_bytes 7 = .ok (.iconst (-1), 1) := by decide +kernel
theorem dX1_bytes_8 : decode cX1_bytes 8 = .ok (.if_icmp .eq 7, 3) := by decide +kernel
theorem dX1_bytes_11 : decode cX1_bytes 11 = .ok (.iload_n 2, 1) := by decide +kernel
theorem dX1_bytes_12 : decode cX1_bytes 12 = .ok (.ifCond .ge 7, 3) := by decide +kernel
theorem dX1_bytes_15 : decode cX1_bytes 15 = .ok (.ldc2_w 70, 3) := by decide +kernel
theorem dX1_bytes_18 : decode cX1_bytes 18 = .ok (.lreturn, 1) := by decide +kernel
theorem dX1_bytes_19 : decode cX1_bytes 19 = .ok (.aload_n 0, 1) := by decide +kernel
theorem dX1_bytes_20 : decode cX1_bytes 20 = .ok (.getfield 20, 3) := by decide +kernel
theorem dX1_bytes_23 : decode cX1_bytes 23 = .ok (.iload_n 3, 1) := by decide +kernel
theorem dX1_bytes_24 : decode cX1_bytes 24 = .ok (.iload_n 2, 1) := by decide +kernel
theorem dX1_bytes_25 : decode cX1_bytes 25 = .ok (.invokevirtual 72, 3) := by decide +kernel
theorem dX1_bytes_28 : decode cX1_bytes 28 = .ok (.lreturn, 1) := by decide +kernel
set_option maxRecDepth 20000 in
theorem ggX1_count_X0_records : GoodIn wsX1_count wsX0_records := goodIn_r _ [9, 10, 23, 24, 25, 26, 27, 28] (by decide +kernel) (by decide +kernel)
set_option maxRecDepth 20000 in
theorem gX1_count_X0_records : GoodIn wsX1_count (wsV RX1 53 RX0 yX0_records wsX0_records) := goodIn_app (goodIn_of _ (by decide +kernel)) ggX1_count_X0_records
set_option maxRecDepth 20000 in
theorem ggX1_count_X0_sectors : GoodIn wsX1_count wsX0_sectors := goodIn_r _ [14, 15, 23, 24, 25, 26, 27, 28] (by decide +kernel) (by decide +kernel)
set_option maxRecDepth 20000 in
theorem gX1_count_X0_sectors : GoodIn wsX1_count (wsV RX1 76 RX0 yX0_sectors wsX0_sectors) := goodIn_app (goodIn_of _ (by decide +kernel)) ggX1_count_X0_sectors
theorem dX1_count_0 : decode cX1_count 0 = .ok (.iload_n 1, 1) := by decide +kernel
theorem dX1_count_1 : decode cX1_count 1 = .ok (.tableswitch 96 0 4 #[35, 40, 59, 78, 83], 35) := by decide +kernel
theorem dX1_count_36 : decode cX1_count 36 = .ok (.aload_n 0, 1) := by decide +kernel
theorem dX1_count_37 : decode cX1_count 37 = .ok (.getfield 13, 3) := by decide +kernel
theorem dX1_count_40 : decode cX1_count 40 = .ok (.ireturn, 1) := by decide +kernel
theorem dX1_count_41 : decode cX1_count 41 = .ok (.aload_n 0, 1) := by decide +kernel
theorem dX1_count_42 : decode cX1_count 42 = .ok (.getfield 30, 3) := by decide +kernel
theorem dX1_count_45 : decode cX1_count 45 = .ok (.ifCond .eq 13, 3) := by decide +kernel
theorem dX1_count_48 : decode cX1_count 48 = .ok (.aload_n 0, 1) := by decide +kernel
theorem dX1_count_49 : decode cX1_count 49 = .ok (.getfield 20, 3) := by decide +kernel
theorem dX1_count_52 : decode cX1_count 52 = .ok (.invokevirtual 53, 3) := by decide +kernel
theorem dX1_count_55 : decode cX1_count 55 = .ok (.goto 4, 3) := by decide +kernel
theorem dX1_count_58 : decode cX1_count 58 = .ok (.iconst 0, 1) := by decide +kernel
theorem dX1_count_59 : decode cX1_count 59 = .ok (.ireturn, 1) := by decide +kernel
theorem dX1_count_60 : decode cX1_count 60 = .ok (.aload_n 0, 1) := by decide +kernel
theorem dX1_count_61 : decode cX1_count 61 = .ok (.getfield 30, 3) := by decide +kernel
theorem dX1_count_64 : decode cX1_count 64 = .ok (.ifCond .eq 13, 3) := by decide +kernel
theorem dX1_count_67 : decode cX1_count 67 = .ok (.aload_n 0, 1) := by decide +kernel
theorem dX1_count_68 : decode cX1_count 68 = .ok (.getfield 20, 3) := by decide +kernel
theorem dX1_count_71 : decode cX1_count 71 = .ok (.invokevirtual 76, 3) := by decide +kernel
theorem dX1_count_74 : decode cX1_count 74 = .ok (.goto 4, 3) := by decide +kernel
theorem dX1_count_77 : decode cX1_count 77 = .ok (.iconst 0, 1) := by decide +kernel
theorem dX1_count_78 : decode cX1_count 78 = .ok (.ireturn, 1) := by decide +kernel
theorem dX1_count_79 : decode cX1_count 79 = .ok (.aload_n 0, 1) := by decide +kernel
theorem dX1_count_80 : decode cX1_count 80 = .ok (.getfield 27, 3) := by decide +kernel
theorem dX1_count_83 : decode cX1_count 83 = .ok (.ireturn, 1) := by decide +kernel
theorem dX1_count_84 : decode cX1_count 84 = .ok (.aload_n 0, 1) := by decide +kernel
theorem dX1_count_85 : decode cX1_count 85 = .ok (.getfield 30, 3) := by decide +kernel
theorem dX1_count_88 : decode cX1_count 88 = .ok (.ifCond .eq 7, 3) := by decide +kernel
theorem dX1_count_91 : decode cX1_count 91 = .ok (.iconst 1, 1) := by decide +kernel
theorem dX1_count_92 : decode cX1_count 92 = .ok (.goto 4, 3) := by decide +kernel
theorem dX1_count_95 : decode cX1_count 95 = .ok (.iconst 0, 1) := by decide +kernel
theorem dX1_count_96 : decode cX1_count 96 = .ok (.ireturn, 1) := by decide +kernel
theorem dX1_count_97 : decode cX1_count 97 = .ok (.iconst (-1), 1) := by decide +kernel
theorem dX1_count_98 : decode cX1_count 98 = .ok (.ireturn, 1) := by decide +kernel
theorem dX1_losesPower_0 : decode cX1_losesPower 0 = .ok (.aload_n 0, 1) := by decide +kernel
theorem dX1_losesPower_1 : decode cX1_losesPower 1 = .ok (.getfield 34, 3) := by decide +kernel
theorem dX1_losesPower_4 : decode cX1_losesPower 4 = .ok (.ifCond .ne 5, 3) := by decide +kernel
theorem dX1_losesPower_7 : decode cX1_losesPower 7 = .ok (.iconst 0, 1) := by decide +kernel
theorem dX1_losesPower_8 : decode cX1_losesPower 8 = .ok (.ireturn, 1) := by decide +kernel
theorem dX1_losesPower_9 : decode cX1_losesPower 9 = .ok (.aload_n 0, 1) := by decide +kernel
theorem dX1_losesPower_10 : decode cX1_losesPower 10 = .ok (.iconst 0, 1) := by decide +kernel
theorem dX1_losesPower_11 : decode cX1_losesPower 11 = .ok (.putfield 34, 3) := by decide +kernel
theorem dX1_losesPower_14 : decode cX1_losesPower 14 = .ok (.aload_n 0, 1) := by decide +kernel
theorem dX1_losesPower_15 : decode cX1_losesPower 15 = .ok (.iconst 0, 1) := by decide +kernel
theorem dX1_losesPower_16 : decode cX1_losesPower 16 = .ok (.putfield 30, 3) := by decide +kernel
theorem dX1_losesPower_19 : decode cX1_losesPower 19 = .ok (.iconst 1, 1) := by decide +kernel
theorem dX1_losesPower_20 : decode cX1_losesPower 20 = .ok (.ireturn, 1) := by decide +kernel
set_option maxRecDepth 20000 in
theorem ggX1_findRecord_X0_sectorOfRecord : GoodIn wsX1_findRecord wsX0_sectorOfRecord := goodIn_r _ [7, 8, 9, 10, 11, 12, 6, 13, 14, 15, 16, 17, 18, 19, 20, 21, 22, 23, 24, 25, 26, 27, 28, 29, 30, 31, 32, 40, 41, 42, 43, 44, 45] (by decide +kernel) (by decide +kernel)
set_option maxRecDepth 20000 in
theorem gX1_findRecord_X0_sectorOfRecord : GoodIn wsX1_findRecord (wsV RX1 79 RX0 yX0_sectorOfRecord wsX0_sectorOfRecord) := goodIn_app (goodIn_of _ (by decide +kernel)) ggX1_findRecord_X0_sectorOfRecord
theorem dX1_findRecord_0 : decode cX1_findRecord 0 = .ok (.aload_n 0, 1) := by decide +kernel
theorem dX1_findRecord_1 : decode cX1_findRecord 1 = .ok (.getfield 30, 3) := by decide +kernel
theorem dX1_findRecord_4 : decode cX1_findRecord 4 = .ok (.ifCond .eq 14, 3) := by decide +kernel
theorem dX1_findRecord_7 : decode cX1_findRecord 7 = .ok (.aload_n 0, 1) := by decide +kernel
theorem dX1_findRecord_8 : decode cX1_findRecord 8 = .ok (.getfield 20, 3) := by decide +kernel
theorem dX1_findRecord_11 : decode cX1_findRecord 11 = .ok (.iload_n 1, 1) := by decide +kernel
theorem dX1_findRecord_12 : decode cX1_findRecord 12 = .ok (.invokevirtual 79, 3) := by decide +kernel
theorem dX1_findRecord_15 : decode cX1_findRecord 15 = .ok (.goto 4, 3) := by decide +kernel
theorem dX1_findRecord_18 : decode cX1_findRecord 18 = .ok (.iconst (-1), 1) := by decide +kernel
theorem dX1_findRecord_19 : decode cX1_findRecord 19 = .ok (.ireturn, 1) := by decide +kernel
theorem dX2_init_0 : decode cX2_init 0 = .ok (.aload_n 0, 1) := by decide +kernel
theorem dX2_init_1 : decode cX2_init 1 = .ok (.invokespecial 1, 3) := by decide +kernel
theorem dX2_init_4 : decode cX2_init 4 = .ok (.aload_n 0, 1) := by decide +kernel
theorem dX2_init_5 : decode cX2_init 5 = .ok (.bipush 100, 2) := by decide +kernel
theorem dX2_init_7 : decode cX2_init 7 = .ok (.newarray .int, 2) := by decide +kernel
theorem dX2_init_9 : decode cX2_init 9 = .ok (.putfield 7, 3) := by decide +kernel
theorem dX2_init_12 : decode cX2_init 12 = .ok (.aload_n 0, 1) := by decide +kernel
theorem dX2_init_13 : decode cX2_init 13 = .ok (.bipush 41, 2) := by decide +kernel
theorem dX2_init_15 : decode cX2_init 15 = .ok (.newarray .boolean, 2) := by decide +kernel
theorem dX2_init_17 : decode cX2_init 17 = .ok (.putfield 13, 3) := by decide +kernel
theorem dX2_init_20 : decode cX2_init 20 = .ok (.aload_n 0, 1) := by decide +kernel
theorem dX2_init_21 : decode cX2_init 21 = .ok (.bipush 41, 2) := by decide +kernel
theorem dX2_init_23 : decode cX2_init 23 = .ok (.newarray .int, 2) := by decide +kernel
theorem dX2_init_25 : decode cX2_init 25 = .ok (.putfield 17, 3) := by decide +kernel
theorem dX2_init_28 : decode cX2_init 28 = .ok (.aload_n 0, 1) := by decide +kernel
theorem dX2_init_29 : decode cX2_init 29 = .ok (.bipush 41, 2) := by decide +kernel
theorem dX2_init_31 : decode cX2_init 31 = .ok (.newarray .int, 2) := by decide +kernel
theorem dX2_init_33 : decode cX2_init 33 = .ok (.putfield 20, 3) := by decide +kernel
theorem dX2_init_36 : decode cX2_init 36 = .ok (.aload_n 0, 1) := by decide +kernel
theorem dX2_init_37 : decode cX2_init 37 = .ok (.sipush 4100, 3) := by decide +kernel
theorem dX2_init_40 : decode cX2_init 40 = .ok (.newarray .int, 2) := by decide +kernel
theorem dX2_init_42 : decode cX2_init 42 = .ok (.putfield 23, 3) := by decide +kernel
theorem dX2_init_45 : decode cX2_init 45 = .ok (.aload_n 0, 1) := by decide +kernel
theorem dX2_init_46 : decode cX2_init 46 = .ok (.iconst (-1), 1) := by decide +kernel
theorem dX2_init_47 : decode cX2_init 47 = .ok (.putfield 26, 3) := by decide +kernel
theorem dX2_init_50 : decode cX2_init 50 = .ok (.return_, 1) := by decide +kernel
theorem dX2_put_0 : decode cX2_put 0 = .ok (.iload_n 3, 1) := by decide +kernel
theorem dX2_put_1 : decode cX2_put 1 = .ok (.iconst 1, 1) := by decide +kernel
theorem dX2_put_2 : decode cX2_put 2 = .ok (.if_icmp .lt 20, 3) := by decide +kernel
theorem dX2_put_5 : decode cX2_put 5 = .ok (.iload_n 3, 1) := by decide +kernel
theorem dX2_put_6 : decode cX2_put 6 = .ok (.bipush 8, 2) := by decide +kernel
theorem dX2_put_8 : decode cX2_put 8 = .ok (.if_icmp .gt 14, 3) := by decide +kernel
theorem dX2_put_11 : decode cX2_put 11 = .ok (.aload_n 0, 1) := by decide +kernel
theorem dX2_put_12 : decode cX2_put 12 = .ok (.getfield 30, 3) := by decide +kernel
theorem dX2_put_15 : decode cX2_put 15 = .ok (.iload_n 3, 1) := by decide +kernel
theorem dX2_put_16 : decode cX2_put 16 = .ok (.iadd, 1) := by decide +kernel
theorem dX2_put_17 : decode cX2_put 17 = .ok (.bipush 100, 2) := by decide +kernel
theorem dX2_put_19 : decode cX2_put 19 = .ok (.if_icmp .le 5, 3) := by decide +kernel
theorem dX2_put_22 : decode cX2_put 22 = .ok (.iconst 0, 1) := by decide +kernel
theorem dX2_put_23 : decode cX2_put 23 = .ok (.ireturn, 1) := by decide +kernel
theorem dX2_put_24 : decode cX2_put 24 = .ok (.iload_n 3, 1) := by decide +kernel
theorem dX2_put_25 : decode cX2_put 25 = .ok (.iconst 1, 1) := by decide +kernel
theorem dX2_put_26 : decode cX2_put 26 = .ok (.isub, 1) := by decide +kernel
theorem dX2_put_27 : decode cX2_put 27 = .ok (.istore 4, 2) := by decide +kernel
theorem dX2_put_29 : decode cX2_put 29 = .ok (.iload 4, 2) := by decide +kernel
theorem dX2_put_31 : decode cX2_put 31 = .ok (.ifCond .lt 40, 3) := by decide +kernel
theorem dX2_put_34 : decode cX2_put 34 = .ok (.aload_n 0, 1) := by decide +kernel
theorem dX2_put_35 : decode cX2_put 35 = .ok (.getfield 7, 3) := by decide +kernel
theorem dX2_put_38 : decode cX2_put 38 = .ok (.aload_n 0, 1) := by decide +kernel
theorem dX2_put_39 : decode cX2_put 39 = .ok (.getfield 30, 3) := by decide +kernel
theorem dX2_put_42 : decode cX2_put 42 = .ok (.lload_n 1, 1) := by decide +kernel
theorem dX2_put_43 : decode cX2_put 43 = .ok (.bipush 8, 2) := by decide +kernel
theorem dX2_put_45 : decode cX2_put 45 = .ok (.iload 4, 2) := by decide +kernel
theorem dX2_put_47 : decode cX2_put 47 = .ok (.imul, 1) := by decide +kernel
theorem dX2_put_48 : decode cX2_put 48 = .ok (.lshr, 1) := by decide +kernel
theorem dX2_put_49 : decode cX2_put 49 = .ok (.l2i, 1) := by decide +kernel
theorem dX2_put_50 : decode cX2_put 50 = .ok (.sipush 255, 3) := by decide +kernel
theorem dX2_put_53 : decode cX2_put 53 = .ok (.iand, 1) := by decide +kernel
theorem dX2_put_54 : decode cX2_put 54 = .ok (.iastore, 1) := by decide +kernel
theorem dX2_put_55 : decode cX2_put 55 = .ok (.aload_n 0, 1) := by decide +kernel
theorem dX2_put_56 : decode cX2_put 56 = .ok (.aload_n 0, 1) := by decide +kernel
theorem dX2_put_57 : decode cX2_put 57 = .ok (.getfield 30, 3) := by decide +kernel
theorem dX2_put_60 : decode cX2_put 60 = .ok (.iconst 1, 1) := by decide +kernel
theorem dX2_put_61 : decode cX2_put 61 = .ok (.iadd, 1) := by decide +kernel
theorem dX2_put_62 : decode cX2_put 62 = .ok (.putfield 30, 3) := by decide +kernel
theorem dX2_put_65 : decode cX2_put 65 = .ok (.iinc 4 (-1), 3) := by decide +kernel
theorem dX2_put_68 : decode cX2_put 68 = .ok (.goto (-39), 3) := by decide +kernel
theorem dX2_put_71 : decode cX2_put 71 = .ok (.iconst 1, 1) := by decide +kernel
theorem dX2_put_72 : decode cX2_put 72 = .ok (.ireturn, 1) := by decide +kernel
theorem dX2_sectorsOf_0 : decode cX2_sectorsOf 0 = .ok (.iload_n 0, 1) := by decide +kernel
theorem dX2_sectorsOf_1 : decode cX2_sectorsOf 1 = .ok (.bipush 12, 2) := by decide +kernel
theorem dX2_sectorsOf_3 : decode cX2_sectorsOf 3 = .ok (.if_icmp .gt 7, 3) := by decide +kernel
theorem dX2_sectorsOf_6 : decode cX2_sectorsOf 6 = .ok (.iconst 1, 1) := by decide +kernel
theorem dX2_sectorsOf_7 : decode cX2_sectorsOf 7 = .ok (.goto 15, 3) := by decide +kernel
theorem dX2_sectorsOf_10 : decode cX2_sectorsOf 10 = .ok (.iconst 1, 1) := by decide +kernel
theorem dX2_sectorsOf_11 : decode cX2_sectorsOf 11 = .ok (.iload_n 0, 1) := by decide +kernel
theorem dX2_sectorsOf_12 : decode cX2_sectorsOf 12 = .ok (.bipush 12, 2) := by decide +kernel
theorem dX2_sectorsOf_14 : decode cX2_sectorsOf 14 = .ok (.isub, 1) := by decide +kernel
theorem dX2_sectorsOf_15 : decode cX2_sectorsOf 15 = .ok (.bipush 11, 2) := by decide +kernel
theorem dX2_sectorsOf_17 : decode cX2_sectorsOf 17 = .ok (.iadd, 1) := by decide +kernel
theorem dX2_sectorsOf_18 : decode cX2_sectorsOf 18 = .ok (.bipush 12, 2) := by decide +kernel
theorem dX2_sectorsOf_20 : decode cX2_sectorsOf 20 = .ok (.idiv, 1) := by decide +kernel
theorem dX2_sectorsOf_21 : decode cX2_sectorsOf 21 = .ok (.iadd, 1) := by decide +kernel
theorem dX2_sectorsOf_22 : decode cX2_sectorsOf 22 = .ok (.ireturn, 1) := by decide +kernel
set_option maxRecDepth 20000 in
theorem ggX2_used_X2_sectorsOf : GoodIn wsX2_used wsX2_sectorsOf := goodIn_r _ [7] (by decide +kernel) (by decide +kernel)
set_option maxRecDepth 20000 in
theorem gX2_used_X2_sectorsOf : GoodIn wsX2_used (va_wsS RX2 36 yX2_sectorsOf wsX2_sectorsOf) := goodIn_app (goodIn_of _ (by decide +kernel)) ggX2_used_X2_sectorsOf
theorem dX2_used_0 : decode cX2_used 0 = .ok (.iconst 0, 1) := by decide +kernel
theorem dX2_used_1 : decode cX2_used 1 = .ok (.istore_n 1, 1) := by decide +kernel
theorem dX2_used_2 : decode cX2_used 2 = .ok (.iconst 0, 1) := by decide +kernel
theorem dX2_used_3 : decode cX2_used 3 = .ok (.istore_n 2, 1) := by decide +kernel
theorem dX2_used_4 : decode cX2_used 4 = .ok (.iload_n 2, 1) := by decide +kernel
theorem dX2_used_5 : decode cX2_used 5 = .ok (.aload_n 0, 1) := by decide +kernel
theorem dX2_used_6 : decode cX2_used 6 = .ok (.getfield 33, 3) := by decide +kernel
theorem dX2_used_9 : decode cX2_used 9 = .ok (.if_icmp .ge 34, 3) := by decide +kernel
theorem dX2_used_12 : decode cX2_used 12 = .ok (.iload_n 1, 1) := by decide +kernel
theorem dX2_used_13 : decode cX2_used 13 = .ok (.aload_n 0, 1) := by decide +kernel
theorem dX2_used_14 : decode cX2_used 14 = .ok (.getfield 13, 3) := by decide +kernel
theorem dX2_used_17 : decode cX2_used 17 = .ok (.iload_n 2, 1) := by decide +kernel
theorem dX2_used_18 : decode cX2_used 18 = .ok (.baload, 1) := by decide +kernel
theorem dX2_used_19 : decode cX2_used 19 = .ok (.ifCond .eq 15, 3) := by decide +kernel
theorem dX2_used_22 : decode cX2_used 22 = .ok (.aload_n 0, 1) := by decide +kernel
theorem dX2_used_23 : decode cX2_used 23 = .ok (.getfield 17, 3) := by decide +kernel
theorem dX2_used_26 : decode cX2_used 26 = .ok (.iload_n 2, 1) := by decide +kernel
theorem dX2_used_27 : decode cX2_used 27 = .ok (.iaload, 1) := by decide +kernel
theorem dX2_used_28 : decode cX2_used 28 = .ok (.invokestatic 36, 3) := by decide +kernel
theorem dX2_used_31 : decode cX2_used 31 = .ok (.goto 4, 3) := by decide +kernel
theorem dX2_used_34 : decode cX2_used 34 = .ok (.iconst 1, 1) := by decide +kernel
theorem dX2_used_35 : decode cX2_used 35 = .ok (.iadd, 1) := by decide +kernel
theorem dX2_used_36 : decode cX2_used 36 = .ok (.istore_n 1, 1) := by decide +kernel
theorem dX2_used_37 : decode cX2_used 37 = .ok (.iinc 2 1, 3) := by decide +kernel
theorem dX2_used_40 : decode cX2_used 40 = .ok (.goto (-36), 3) := by decide +kernel
theorem dX2_used_43 : decode cX2_used 43 = .ok (.iload_n 1, 1) := by decide +kernel
theorem dX2_used_44 : decode cX2_used 44 = .ok (.ireturn, 1) := by decide +kernel
theorem dX2_records_0 : decode cX2_records 0 = .ok (.iconst 0, 1) := by decide +kernel
theorem dX2_records_1 : decode cX2_records 1 = .ok (.istore_n 1, 1) := by decide +kernel
theorem dX2_records_2 : decode cX2_records 2 = .ok (.iconst 0, 1) := by decide +kernel
theorem dX2_records_3 : decode cX2_records 3 = .ok (.istore_n 2, 1) := by decide +kernel
theorem dX2_records_4 : decode cX2_records 4 = .ok (.iload_n 2, 1) := by decide +kernel
theorem dX2_records_5 : decode cX2_records 5 = .ok (.aload_n 0, 1) := by decide +kernel
theorem dX2_records_6 : decode cX2_records 6 = .ok (.getfield 33, 3) := by decide +kernel
theorem dX2_records_9 : decode cX2_records 9 = .ok (.if_icmp .ge 26, 3) := by decide +kernel
theorem dX2_records_12 : decode cX2_records 12 = .ok (.aload_n 0, 1) := by decide +kernel
theorem dX2_records_13 : decode cX2_records 13 = .ok (.getfield 13, 3) := by decide +kernel
theorem dX2_records_16 : decode cX2_records 16 = .ok (.iload_n 2, 1) := by decide +kernel
theorem dX2_records_17 : decode cX2_records 17 = .ok (.baload, 1) := by decide +kernel
theorem dX2_records_18 : decode cX2_records 18 = .ok (.ifCond .eq 9, 3) := by decide +kernel
theorem dX2_records_21 : decode cX2_records 21 = .ok (.iload_n 1, 1) := by decide +kernel
theorem dX2_records_22 : decode cX2_records 22 = .ok (.iconst 1, 1) := by decide +kernel
theorem dX2_records_23 : decode cX2_records 23 = .ok (.iadd, 1) := by decide +kernel
theorem dX2_records_24 : decode cX2_records 24 = .ok (.goto 4, 3) := by decide +kernel
theorem dX2_records_27 : decode cX2_records 27 = .ok (.iload_n 1, 1) := by decide +kernel
theorem dX2_records_28 : decode cX2_records 28 = .ok (.istore_n 1, 1) := by decide +kernel
theorem dX2_records_29 : decode cX2_records 29 = .ok (.iinc 2 1, 3) := by decide +kernel
theorem dX2_records_32 : decode cX2_records 32 = .ok (.goto (-28), 3) := by decide +kernel
theorem dX2_records_35 : decode cX2_records 35 = .ok (.iload_n 1, 1) := by decide +kernel
theorem dX2_records_36 : decode cX2_records 36 = .ok (.ireturn, 1) := by decide +kernel
theorem dX2_isCut_0 : decode cX2_isCut 0 = .ok (.aload_n 0, 1) := by decide +kernel
theorem dX2_isCut_1 : decode cX2_isCut 1 = .ok (.getfield 26, 3) := by decide +kernel
theorem dX2_isCut_4 : decode cX2_isCut 4 = .ok (.iconst (-1), 1) := by decide +kernel
theorem dX2_isCut_5 : decode cX2_isCut 5 = .ok (.if_icmp .ne 5, 3) := by decide +kernel
theorem dX2_isCut_8 : decode cX2_isCut 8 = .ok (.iconst 0, 1) := by decide +kernel
theorem dX2_isCut_9 : decode cX2_isCut 9 = .ok (.ireturn, 1) := by decide +kernel
theorem dX2_isCut_10 : decode cX2_isCut 10 = .ok (.aload_n 0, 1) := by decide +kernel
theorem dX2_isCut_11 : decode cX2_isCut 11 = .ok (.iconst (-1), 1) := by decide +kernel
theorem dX2_isCut_12 : decode cX2_isCut 12 = .ok (.putfield 26, 3) := by decide +kernel
theorem dX2_isCut_15 : decode cX2_isCut 15 = .ok (.aload_n 0, 1) := by decide +kernel
theorem dX2_isCut_16 : decode cX2_isCut 16 = .ok (.iconst 1, 1) := by decide +kernel
theorem dX2_isCut_17 : decode cX2_isCut 17 = .ok (.putfield 40, 3) := by decide +kernel
theorem dX2_isCut_20 : decode cX2_isCut 20 = .ok (.iconst 1, 1) := by decide +kernel
theorem dX2_isCut_21 : decode cX2_isCut 21 = .ok (.ireturn, 1) := by decide +kernel
set_option maxRecDepth 20000 in
theorem ggX2_write_X2_used : GoodIn wsX2_write wsX2_used := goodIn_r _ [15, 4, 3, 5, 16, 17, 14, 18, 24, 25, 26, 27, 28, 29, 30, 31, 32, 33, 34] (by decide +kernel) (by decide +kernel)
set_option maxRecDepth 20000 in
theorem gX2_write_X2_used : GoodIn wsX2_write (wsV RX2 44 RX2 yX2_used wsX2_used) := goodIn_app (goodIn_of _ (by decide +kernel)) ggX2_write_X2_used
set_option maxRecDepth 20000 in
theorem ggX2_write_X2_sectorsOf : GoodIn wsX2_write wsX2_sectorsOf := goodIn_r _ [18] (by decide +kernel) (by decide +kernel)
set_option maxRecDepth 20000 in
theorem gX2_write_X2_sectorsOf : GoodIn wsX2_write (va_wsS RX2 36 yX2_sectorsOf wsX2_sectorsOf) := goodIn_app (goodIn_of _ (by decide +kernel)) ggX2_write_X2_sectorsOf
set_option maxRecDepth 20000 in
theorem ggX2_write_X2_isCut : GoodIn wsX2_write wsX2_isCut := goodIn_r _ [22, 23, 1, 24, 25, 26, 27, 28, 29, 30, 31, 32, 33, 34] (by decide +kernel) (by decide +kernel)
set_option maxRecDepth 20000 in
theorem gX2_write_X2_isCut : GoodIn wsX2_write (wsV RX2 48 RX2 yX2_isCut wsX2_isCut) := goodIn_app (goodIn_of _ (by decide +kernel)) ggX2_write_X2_isCut
theorem dX2_write_0 : decode cX2_write 0 = .ok (.aload_n 0, 1) := by decide +kernel
theorem dX2_write_1 : decode cX2_write 1 = .ok (.getfield 40, 3) := by decide +kernel
theorem dX2_write_4 : decode cX2_write 4 = .ok (.ifCond .ne 20, 3) := by decide +kernel
theorem dX2_write_7 : decode cX2_write 7 = .ok (.aload_n 0, 1) := by decide +kernel
theorem dX2_write_8 : decode cX2_write 8 = .ok (.invokevirtual 44, 3) := by decide +kernel
theorem dX2_write_11 : decode cX2_write 11 = .ok (.aload_n 0, 1) := by decide +kernel
theorem dX2_write_12 : decode cX2_write 12 = .ok (.getfield 30, 3) := by decide +kernel
theorem dX2_write_15 : decode cX2_write 15 = .ok (.invokestatic 36, 3) := by decide +kernel
theorem dX2_write_18 : decode cX2_write 18 = .ok (.iadd, 1) := by decide +kernel
theorem dX2_write_19 : decode cX2_write 19 = .ok (.bipush 40, 2) := by decide +kernel
theorem dX2_write_21 : decode cX2_write 21 = .ok (.if_icmp .le 5, 3) := by decide +kernel
theorem dX2_write_24 : decode cX2_write 24 = .ok (.iconst (-1), 1) := by decide +kernel
theorem dX2_write_25 : decode cX2_write 25 = .ok (.ireturn, 1) := by decide +kernel
theorem dX2_write_26 : decode cX2_write 26 = .ok (.aload_n 0, 1) := by decide +kernel
theorem dX2_write_27 : decode cX2_write 27 = .ok (.getfield 30, 3) := by decide +kernel
theorem dX2_write_30 : decode cX2_write 30 = .ok (.istore_n 1, 1) := by decide +kernel
theorem dX2_write_31 : decode cX2_write 31 = .ok (.aload_n 0, 1) := by decide +kernel
theorem dX2_write_32 : decode cX2_write 32 = .ok (.iconst 0, 1) := by decide +kernel
theorem dX2_write_33 : decode cX2_write 33 = .ok (.putfield 30, 3) := by decide +kernel
theorem dX2_write_36 : decode cX2_write 36 = .ok (.aload_n 0, 1) := by decide +kernel
theorem dX2_write_37 : decode cX2_write 37 = .ok (.invokevirtual 48, 3) := by decide +kernel
theorem dX2_write_40 : decode cX2_write 40 = .ok (.ifCond .eq 6, 3) := by decide +kernel
theorem dX2_write_43 : decode cX2_write 43 = .ok (.bipush (-2), 2) := by decide +kernel
theorem dX2_write_45 : decode cX2_write 45 = .ok (.ireturn, 1) := by decide +kernel
theorem dX2_write_46 : decode cX2_write 46 = .ok (.aload_n 0, 1) := by decide +kernel
theorem dX2_write_47 : decode cX2_write 47 = .ok (.getfield 13, 3) := by decide +kernel
theorem dX2_write_50 : decode cX2_write 50 = .ok (.aload_n 0, 1) := by decide +kernel
theorem dX2_write_51 : decode cX2_write 51 = .ok (.getfield 33, 3) := by decide +kernel
theorem dX2_write_54 : decode cX2_write 54 = .ok (.iconst 1, 1) := by decide +kernel
theorem dX2_write_55 : decode cX2_write 55 = .ok (.bastore, 1) := by decide +kernel
theorem dX2_write_56 : decode cX2_write 56 = .ok (.aload_n 0, 1) := by decide +kernel
theorem dX2_write_57 : decode cX2_write 57 = .ok (.getfield 17, 3) := by decide +kernel
theorem dX2_write_60 : decode cX2_write 60 = .ok (.aload_n 0, 1) := by decide +kernel
theorem dX2_write_61 : decode cX2_write 61 = .ok (.getfield 33, 3) := by decide +kernel
theorem dX2_write_64 : decode cX2_write 64 = .ok (.iload_n 1, 1) := by decide +kernel
theorem dX2_write_65 : decode cX2_write 65 = .ok (.iastore, 1) := by decide +kernel
theorem dX2_write_66 : decode cX2_write 66 = .ok (.aload_n 0, 1) := by decide +kernel
theorem dX2_write_67 : decode cX2_write 67 = .ok (.getfield 20, 3) := by decide +kernel
theorem dX2_write_70 : decode cX2_write 70 = .ok (.aload_n 0, 1) := by decide +kernel
theorem dX2_write_71 : decode cX2_write 71 = .ok (.getfield 33, 3) := by decide +kernel
theorem dX2_write_74 : decode cX2_write 74 = .ok (.aload_n 0, 1) := by decide +kernel
theorem dX2_write_75 : decode cX2_write 75 = .ok (.getfield 52, 3) := by decide +kernel
theorem dX2_write_78 : decode cX2_write 78 = .ok (.iastore, 1) := by decide +kernel
theorem dX2_write_79 : decode cX2_write 79 = .ok (.iconst 0, 1) := by decide +kernel
theorem dX2_write_80 : decode cX2_write 80 = .ok (.istore_n 2, 1) := by decide +kernel
theorem dX2_write_81 : decode cX2_write 81 = .ok (.iload_n 2, 1) := by decide +kernel
theorem dX2_write_82 : decode cX2_write 82 = .ok (.iload_n 1, 1) := by decide +kernel
theorem dX2_write_83 : decode cX2_write 83 = .ok (.if_icmp .ge 29, 3) := by decide +kernel
theorem dX2_write_86 : decode cX2_write 86 = .ok (.aload_n 0, 1) := by decide +kernel
theorem dX2_write_87 : decode cX2_write 87 = .ok (.getfield 23, 3) := by decide +kernel
theorem dX2_write_90 : decode cX2_write 90 = .ok (.bipush 100, 2) := by decide +kernel
theorem dX2_write_92 : decode cX2_write 92 = .ok (.aload_n 0, 1) := by decide +kernel
theorem dX2_write_93 : decode cX2_write 93 = .ok (.getfield 33, 3) := by decide +kernel
theorem dX2_write_96 : decode cX2_write 96 = .ok (.imul, 1) := by decide +kernel
theorem dX2_write_97 : decode cX2_write 97 = .ok (.iload_n 2, 1) := by decide +kernel
theorem dX2_write_98 : decode cX2_write 98 = .ok (.iadd, 1) := by decide +kernel
theorem dX2_write_99 : decode cX2_write 99 = .ok (.aload_n 0, 1) := by decide +kernel
theorem dX2_write_100 : decode cX2_write 100 = .ok (.getfield 7, 3) := by decide +kernel
theorem dX2_write_103 : decode cX2_write 103 = .ok (.iload_n 2, 1) := by decide +kernel
theorem dX2_write_104 : decode cX2_write 104 = .ok (.iaload, 1) := by decide +kernel
theorem dX2_write_105 : decode cX2_write 105 = .ok (.iastore, 1) := by decide +kernel
theorem dX2_write_106 : decode cX2_write 106 = .ok (.iinc 2 1, 3) := by decide +kernel
theorem dX2_write_109 : decode cX2_write 109 = .ok (.goto (-28), 3) := by decide +kernel
theorem dX2_write_112 : decode cX2_write 112 = .ok (.aload_n 0, 1) := by decide +kernel
theorem dX2_write_113 : decode cX2_write 113 = .ok (.aload_n 0, 1) := by decide +kernel
theorem dX2_write_114 : decode cX2_write 114 = .ok (.getfield 33, 3) := by decide +kernel
theorem dX2_write_117 : decode cX2_write 117 = .ok (.iconst 1, 1) := by decide +kernel
theorem dX2_write_118 : decode cX2_write 118 = .ok (.iadd, 1) := by decide +kernel
theorem dX2_write_119 : decode cX2_write 119 = .ok (.putfield 33, 3) := by decide +kernel
theorem dX2_write_122 : decode cX2_write 122 = .ok (.aload_n 0, 1) := by decide +kernel
theorem dX2_write_123 : decode cX2_write 123 = .ok (.aload_n 0, 1) := by decide +kernel
theorem dX2_write_124 : decode cX2_write 124 = .ok (.getfield 52, 3) := by decide +kernel
theorem dX2_write_127 : decode cX2_write 127 = .ok (.iconst 1, 1) := by decide +kernel
theorem dX2_write_128 : decode cX2_write 128 = .ok (.iadd, 1) := by decide +kernel
theorem dX2_write_129 : decode cX2_write 129 = .ok (.putfield 52, 3) := by decide +kernel
theorem dX2_write_132 : decode cX2_write 132 = .ok (.aload_n 0, 1) := by decide +kernel
theorem dX2_write_133 : decode cX2_write 133 = .ok (.aload_n 0, 1) := by decide +kernel
theorem dX2_write_134 : decode cX2_write 134 = .ok (.getfield 55, 3) := by decide +kernel
theorem dX2_write_137 : decode cX2_write 137 = .ok (.iconst 1, 1) := by decide +kernel
theorem dX2_write_138 : decode cX2_write 138 = .ok (.iadd, 1) := by decide +kernel
theorem dX2_write_139 : decode cX2_write 139 = .ok (.putfield 55, 3) := by decide +kernel
theorem dX2_write_142 : decode cX2_write 142 = .ok (.aload_n 0, 1) := by decide +kernel
theorem dX2_write_143 : decode cX2_write 143 = .ok (.getfield 52, 3) := by decide +kernel
theorem dX2_write_146 : decode cX2_write 146 = .ok (.iconst 1, 1) := by decide +kernel
theorem dX2_write_147 : decode cX2_write 147 = .ok (.isub, 1) := by decide +kernel
theorem dX2_write_148 : decode cX2_write 148 = .ok (.ireturn, 1) := by decide +kernel
set_option maxRecDepth 20000 in
theorem ggX2_drop_X2_records : GoodIn wsX2_drop wsX2_records := goodIn_r _ [10, 4, 3, 23, 24, 25, 26, 27, 28, 29, 30, 31, 32, 33] (by decide +kernel) (by decide +kernel)
set_option maxRecDepth 20000 in
theorem gX2_drop_X2_records : GoodIn wsX2_drop (wsV RX2 58 RX2 yX2_records wsX2_records) := goodIn_app (goodIn_of _ (by decide +kernel)) ggX2_drop_X2_records
set_option maxRecDepth 20000 in
theorem ggX2_drop_X2_used : GoodIn wsX2_drop wsX2_used := goodIn_r _ [14, 4, 3, 5, 15, 16, 9, 17, 23, 24, 25, 26, 27, 28, 29, 30, 31, 32, 33] (by decide +kernel) (by decide +kernel)
set_option maxRecDepth 20000 in
theorem gX2_drop_X2_used : GoodIn wsX2_drop (wsV RX2 44 RX2 yX2_used wsX2_used) := goodIn_app (goodIn_of _ (by decide +kernel)) ggX2_drop_X2_used
set_option maxRecDepth 20000 in
theorem ggX2_drop_X2_isCut : GoodIn wsX2_drop wsX2_isCut := goodIn_r _ [21, 22, 1, 23, 24, 25, 26, 27, 28, 29, 30, 31, 32, 33] (by decide +kernel) (by decide +kernel)
set_option maxRecDepth 20000 in
theorem gX2_drop_X2_isCut : GoodIn wsX2_drop (wsV RX2 48 RX2 yX2_isCut wsX2_isCut) := goodIn_app (goodIn_of _ (by decide +kernel)) ggX2_drop_X2_isCut
theorem dX2_drop_0 : decode cX2_drop 0 = .ok (.aload_n 0, 1) := by decide +kernel
theorem dX2_drop_1 : decode cX2_drop 1 = .ok (.getfield 40, 3) := by decide +kernel
theorem dX2_drop_4 : decode cX2_drop 4 = .ok (.ifCond .ne 26, 3) := by decide +kernel
theorem dX2_drop_7 : decode cX2_drop 7 = .ok (.iload_n 1, 1) := by decide +kernel
theorem dX2_drop_8 : decode cX2_drop 8 = .ok (.ifCond .lt 22, 3) := by decide +kernel
theorem dX2_drop_11 : decode cX2_drop 11 = .ok (.iload_n 1, 1) := by decide +kernel
theorem dX2_drop_12 : decode cX2_drop 12 = .ok (.aload_n 0, 1) := by decide +kernel
theorem dX2_drop_13 : decode cX2_drop 13 = .ok (.invokevirtual 58, 3) := by decide +kernel
theorem dX2_drop_16 : decode cX2_drop 16 = .ok (.if_icmp .gt 14, 3) := by decide +kernel
theorem dX2_drop_19 : decode cX2_drop 19 = .ok (.aload_n 0, 1) := by decide +kernel
theorem dX2_drop_20 : decode cX2_drop 20 = .ok (.invokevirtual 44, 3) := by decide +kernel
theorem dX2_drop_23 : decode cX2_drop 23 = .ok (.iconst 1, 1) := by decide +kernel
theorem dX2_drop_24 : decode cX2_drop 24 = .ok (.iadd, 1) := by decide +kernel
theorem dX2_drop_25 : decode cX2_drop 25 = .ok (.bipush 40, 2) := by decide +kernel
theorem dX2_drop_27 : decode cX2_drop 27 = .ok (.if_icmp .le 5, 3) := by decide +kernel
theorem dX2_drop_30 : decode cX2_drop 30 = .ok (.iconst (-1), 1) := by decide +kernel
theorem dX2_drop_31 : decode cX2_drop 31 = .ok (.ireturn, 1) := by decide +kernel
theorem dX2_drop_32 : decode cX2_drop 32 = .ok (.aload_n 0, 1) := by decide +kernel
theorem dX2_drop_33 : decode cX2_drop 33 = .ok (.invokevirtual 48, 3) := by decide +kernel
theorem dX2_drop_36 : decode cX2_drop 36 = .ok (.ifCond .eq 6, 3) := by decide +kernel
theorem dX2_drop_39 : decode cX2_drop 39 = .ok (.bipush (-2), 2) := by decide +kernel
theorem dX2_drop_41 : decode cX2_drop 41 = .ok (.ireturn, 1) := by decide +kernel
theorem dX2_drop_42 : decode cX2_drop 42 = .ok (.aload_n 0, 1) := by decide +kernel
theorem dX2_drop_43 : decode cX2_drop 43 = .ok (.aload_n 0, 1) := by decide +kernel
theorem dX2_drop_44 : decode cX2_drop 44 = .ok (.getfield 55, 3) := by decide +kernel
theorem dX2_drop_47 : decode cX2_drop 47 = .ok (.iconst 1, 1) := by decide +kernel
theorem dX2_drop_48 : decode cX2_drop 48 = .ok (.iadd, 1) := by decide +kernel
theorem dX2_drop_49 : decode cX2_drop 49 = .ok (.putfield 55, 3) := by decide +kernel
theorem dX2_drop_52 : decode cX2_drop 52 = .ok (.aload_n 0, 1) := by decide +kernel
theorem dX2_drop_53 : decode cX2_drop 53 = .ok (.getfield 13, 3) := by decide +kernel
theorem dX2_drop_56 : decode cX2_drop 56 = .ok (.aload_n 0, 1) := by decide +kernel
theorem dX2_drop_57 : decode cX2_drop 57 = .ok (.getfield 33, 3) := by decide +kernel
theorem dX2_drop_60 : decode cX2_drop 60 = .ok (.iconst 0, 1) := by decide +kernel
theorem dX2_drop_61 : decode cX2_drop 61 = .ok (.bastore, 1) := by decide +kernel
theorem dX2_drop_62 : decode cX2_drop 62 = .ok (.aload_n 0, 1) := by decide +kernel
theorem dX2_drop_63 : decode cX2_drop 63 = .ok (.getfield 17, 3) := by decide +kernel
theorem dX2_drop_66 : decode cX2_drop 66 = .ok (.aload_n 0, 1) := by decide +kernel
theorem dX2_drop_67 : decode cX2_drop 67 = .ok (.getfield 33, 3) := by decide +kernel
theorem dX2_drop_70 : decode cX2_drop 70 = .ok (.iconst 0, 1) := by decide +kernel
theorem dX2_drop_71 : decode cX2_drop 71 = .ok (.iastore, 1) := by decide +kernel
theorem dX2_drop_72 : decode cX2_drop 72 = .ok (.aload_n 0, 1) := by decide +kernel
theorem dX2_drop_73 : decode cX2_drop 73 = .ok (.aload_n 0, 1) := by decide +kernel
theorem dX2_drop_74 : decode cX2_drop 74 = .ok (.getfield 33, 3) := by decide +kernel
theorem dX2_drop_77 : decode cX2_drop 77 = .ok (.iconst 1, 1) := by decide +kernel
theorem dX2_drop_78 : decode cX2_drop 78 = .ok (.iadd, 1) := by decide +kernel
theorem dX2_drop_79 : decode cX2_drop 79 = .ok (.putfield 33, 3) := by decide +kernel
theorem dX2_drop_82 : decode cX2_drop 82 = .ok (.aload_n 0, 1) := by decide +kernel
theorem dX2_drop_83 : decode cX2_drop 83 = .ok (.invokevirtual 58, 3) := by decide +kernel
theorem dX2_drop_86 : decode cX2_drop 86 = .ok (.iload_n 1, 1) := by decide +kernel
theorem dX2_drop_87 : decode cX2_drop 87 = .ok (.isub, 1) := by decide +kernel
theorem dX2_drop_88 : decode cX2_drop 88 = .ok (.istore_n 2, 1) := by decide +kernel
theorem dX2_drop_89 : decode cX2_drop 89 = .ok (.aload_n 0, 1) := by decide +kernel
theorem dX2_drop_90 : decode cX2_drop 90 = .ok (.getfield 33, 3) := by decide +kernel
theorem dX2_drop_93 : decode cX2_drop 93 = .ok (.iconst 1, 1) := by decide +kernel
theorem dX2_drop_94 : decode cX2_drop 94 = .ok (.isub, 1) := by decide +kernel
theorem dX2_drop_95 : decode cX2_drop 95 = .ok (.istore_n 3, 1) := by decide +kernel
theorem dX2_drop_96 : decode cX2_drop 96 = .ok (.aload_n 0, 1) := by decide +kernel
theorem dX2_drop_97 : decode cX2_drop 97 = .ok (.getfield 33, 3) := by decide +kernel
theorem dX2_drop_100 : decode cX2_drop 100 = .ok (.iconst 1, 1) := by decide +kernel
theorem dX2_drop_101 : decode cX2_drop 101 = .ok (.isub, 1) := by decide +kernel
theorem dX2_drop_102 : decode cX2_drop 102 = .ok (.istore 4, 2) := by decide +kernel
theorem dX2_drop_104 : decode cX2_drop 104 = .ok (.iload 4, 2) := by decide +kernel
theorem dX2_drop_106 : decode cX2_drop 106 = .ok (.ifCond .lt 68, 3) := by decide +kernel
theorem dX2_drop_109 : decode cX2_drop 109 = .ok (.iconst 0, 1) := by decide +kernel
theorem dX2_drop_110 : decode cX2_drop 110 = .ok (.istore 5, 2) := by decide +kernel
theorem dX2_drop_112 : decode cX2_drop 112 = .ok (.iconst 0, 1) := by decide +kernel
theorem dX2_drop_113 : decode cX2_drop 113 = .ok (.istore 6, 2) := by decide +kernel
theorem dX2_drop_115 : decode cX2_drop 115 = .ok (.iload 6, 2) := by decide +kernel
theorem dX2_drop_117 : decode cX2_drop 117 = .ok (.iload 4, 2) := by decide +kernel
theorem dX2_drop_119 : decode cX2_drop 119 = .ok (.if_icmp .ge 30, 3) := by decide +kernel
theorem dX2_drop_122 : decode cX2_drop 122 = .ok (.aload_n 0, 1) := by decide +kernel
theorem dX2_drop_123 : decode cX2_drop 123 = .ok (.getfield 13, 3) := by decide +kernel
theorem dX2_drop_126 : decode cX2_drop 126 = .ok (.iload 6, 2) := by decide +kernel
theorem dX2_drop_128 : decode cX2_drop 128 = .ok (.baload, 1) := by decide +kernel
theorem dX2_drop_129 : decode cX2_drop 129 = .ok (.ifCond .eq 10, 3) := by decide +kernel
theorem dX2_drop_132 : decode cX2_drop 132 = .ok (.iload 5, 2) := by decide +kernel
theorem dX2_drop_134 : decode cX2_drop 134 = .ok (.iconst 1, 1) := by decide +kernel
theorem dX2_drop_135 : decode cX2_drop 135 = .ok (.iadd, 1) := by decide +kernel
theorem dX2_drop_136 : decode cX2_drop 136 = .ok (.goto 5, 3) := by decide +kernel
theorem dX2_drop_139 : decode cX2_drop 139 = .ok (.iload 5, 2) := by decide +kernel
theorem dX2_drop_141 : decode cX2_drop 141 = .ok (.istore 5, 2) := by decide +kernel
theorem dX2_drop_143 : decode cX2_drop 143 = .ok (.iinc 6 1, 3) := by decide +kernel
theorem dX2_drop_146 : decode cX2_drop 146 = .ok (.goto (-31), 3) := by decide +kernel
theorem dX2_drop_149 : decode cX2_drop 149 = .ok (.aload_n 0, 1) := by decide +kernel
theorem dX2_drop_150 : decode cX2_drop 150 = .ok (.getfield 13, 3) := by decide +kernel
theorem dX2_drop_153 : decode cX2_drop 153 = .ok (.iload 4, 2) := by decide +kernel
theorem dX2_drop_155 : decode cX2_drop 155 = .ok (.baload, 1) := by decide +kernel
theorem dX2_drop_156 : decode cX2_drop 156 = .ok (.ifCond .eq 12, 3) := by decide +kernel
theorem dX2_drop_159 : decode cX2_drop 159 = .ok (.iload 5, 2) := by decide +kernel
theorem dX2_drop_161 : decode cX2_drop 161 = .ok (.iload_n 1, 1) := by decide +kernel
theorem dX2_drop_162 : decode cX2_drop 162 = .ok (.if_icmp .lt 6, 3) := by decide +kernel
theorem dX2_drop_165 : decode cX2_drop 165 = .ok (.iload 4, 2) := by decide +kernel
theorem dX2_drop_167 : decode cX2_drop 167 = .ok (.istore_n 3, 1) := by decide +kernel
theorem dX2_drop_168 : decode cX2_drop 168 = .ok (.iinc 4 (-1), 3) := by decide +kernel
theorem dX2_drop_171 : decode cX2_drop 171 = .ok (.goto (-67), 3) := by decide +kernel
theorem dX2_drop_174 : decode cX2_drop 174 = .ok (.iload_n 3, 1) := by decide +kernel
theorem dX2_drop_175 : decode cX2_drop 175 = .ok (.istore 4, 2) := by decide +kernel
theorem dX2_drop_177 : decode cX2_drop 177 = .ok (.iload 4, 2) := by decide +kernel
theorem dX2_drop_179 : decode cX2_drop 179 = .ok (.aload_n 0, 1) := by decide +kernel
theorem dX2_drop_180 : decode cX2_drop 180 = .ok (.getfield 33, 3) := by decide +kernel
theorem dX2_drop_183 : decode cX2_drop 183 = .ok (.if_icmp .ge 19, 3) := by decide +kernel
theorem dX2_drop_186 : decode cX2_drop 186 = .ok (.aload_n 0, 1) := by decide +kernel
theorem dX2_drop_187 : decode cX2_drop 187 = .ok (.iload 4, 2) := by decide +kernel
theorem dX2_drop_189 : decode cX2_drop 189 = .ok (.iload 4, 2) := by decide +kernel
theorem dX2_drop_191 : decode cX2_drop 191 = .ok (.iload_n 3, 1) := by decide +kernel
theorem dX2_drop_192 : decode cX2_drop 192 = .ok (.isub, 1) := by decide +kernel
theorem dX2_drop_193 : decode cX2_drop 193 = .ok (.invokevirtual 61, 3) := by decide +kernel
theorem dX2_drop_196 : decode cX2_drop 196 = .ok (.iinc 4 1, 3) := by decide +kernel
theorem dX2_drop_199 : decode cX2_drop 199 = .ok (.goto (-22), 3) := by decide +kernel
theorem dX2_drop_202 : decode cX2_drop 202 = .ok (.aload_n 0, 1) := by decide +kernel
theorem dX2_drop_203 : decode cX2_drop 203 = .ok (.aload_n 0, 1) := by decide +kernel
theorem dX2_drop_204 : decode cX2_drop 204 = .ok (.getfield 33, 3) := by decide +kernel
theorem dX2_drop_207 : decode cX2_drop 207 = .ok (.iload_n 3, 1) := by decide +kernel
theorem dX2_drop_208 : decode cX2_drop 208 = .ok (.isub, 1) := by decide +kernel
theorem dX2_drop_209 : decode cX2_drop 209 = .ok (.putfield 33, 3) := by decide +kernel
theorem dX2_drop_212 : decode cX2_drop 212 = .ok (.iload_n 2, 1) := by decide +kernel
theorem dX2_drop_213 : decode cX2_drop 213 = .ok (.ireturn, 1) := by decide +kernel
theorem dJ9_floorMod_7cf53_0 : decode cJ9_floorMod_7cf53 0 = .ok (.iload_n 0, 1) := by decide +kernel
theorem dJ9_floorMod_7cf53_1 : decode cJ9_floorMod_7cf53 1 = .ok (.iload_n 1, 1) := by decide +kernel
theorem dJ9_floorMod_7cf53_2 : decode cJ9_floorMod_7cf53 2 = .ok (.irem, 1) := by decide +kernel
theorem dJ9_floorMod_7cf53_3 : decode cJ9_floorMod_7cf53 3 = .ok (.istore_n 2, 1) := by decide +kernel
theorem dJ9_floorMod_7cf53_4 : decode cJ9_floorMod_7cf53 4 = .ok (.iload_n 0, 1) := by decide +kernel
theorem dJ9_floorMod_7cf53_5 : decode cJ9_floorMod_7cf53 5 = .ok (.iload_n 1, 1) := by decide +kernel
theorem dJ9_floorMod_7cf53_6 : decode cJ9_floorMod_7cf53 6 = .ok (.ixor, 1) := by decide +kernel
theorem dJ9_floorMod_7cf53_7 : decode cJ9_floorMod_7cf53 7 = .ok (.ifCond .ge 11, 3) := by decide +kernel
theorem dJ9_floorMod_7cf53_10 : decode cJ9_floorMod_7cf53 10 = .ok (.iload_n 2, 1) := by decide +kernel
theorem dJ9_floorMod_7cf53_11 : decode cJ9_floorMod_7cf53 11 = .ok (.ifCond .eq 7, 3) := by decide +kernel
theorem dJ9_floorMod_7cf53_14 : decode cJ9_floorMod_7cf53 14 = .ok (.iload_n 2, 1) := by decide +kernel
theorem dJ9_floorMod_7cf53_15 : decode cJ9_floorMod_7cf53 15 = .ok (.iload_n 1, 1) := by decide +kernel
theorem dJ9_floorMod_7cf53_16 : decode cJ9_floorMod_7cf53 16 = .ok (.iadd, 1) := by decide +kernel
theorem dJ9_floorMod_7cf53_17 : decode cJ9_floorMod_7cf53 17 = .ok (.ireturn, 1) := by decide +kernel
theorem dJ9_floorMod_7cf53_18 : decode cJ9_floorMod_7cf53 18 = .ok (.iload_n 2, 1) := by decide +kernel
theorem dJ9_floorMod_7cf53_19 : decode cJ9_floorMod_7cf53 19 = .ok (.ireturn, 1) := by decide +kernel
set_option maxRecDepth 20000 in
theorem ggL_law_X1_init : GoodIn wsL_law wsX1_init := goodIn_r _ [8, 9, 10, 11, 12, 13, 14, 15, 16, 17, 18, 19, 20, 21, 22, 23, 24, 25, 26, 27, 28, 29, 30, 31, 32, 33, 185, 186, 187, 188, 189, 190, 191, 203, 204, 205, 206, 207, 208] (by decide +kernel) (by decide +kernel)
set_option maxRecDepth 20000 in
theorem gL_law_X1_init : GoodIn wsL_law (wsX1_init) := ggL_law_X1_init
set_option maxRecDepth 20000 in
theorem ggL_law_X2_init : GoodIn wsL_law wsX2_init := goodIn_r _ [36, 37, 10, 11, 28, 38, 39, 40, 41, 42, 43, 44, 192, 193, 194, 195, 196, 197, 198, 199, 200, 201, 202] (by decide +kernel) (by decide +kernel)
set_option maxRecDepth 20000 in
theorem gL_law_X2_init : GoodIn wsL_law (wsX2_init) := ggL_law_X2_init
set_option maxRecDepth 20000 in
theorem ggL_law_X1_put : GoodIn wsL_law wsX1_put := goodIn_r _ [48, 14, 13, 185, 186, 187, 188, 189, 190, 191] (by decide +kernel) (by decide +kernel)
set_option maxRecDepth 20000 in
theorem gL_law_X1_put : GoodIn wsL_law (wsV RL 15 RX1 yX1_put wsX1_put) := goodIn_app (goodIn_of _ (by decide +kernel)) ggL_law_X1_put
set_option maxRecDepth 20000 in
theorem ggL_law_X2_put : GoodIn wsL_law wsX2_put := goodIn_r _ [52, 53, 38, 192, 193, 194, 195, 196, 197, 198, 199, 200, 201, 202] (by decide +kernel) (by decide +kernel)
set_option maxRecDepth 20000 in
theorem gL_law_X2_put : GoodIn wsL_law (wsV RL 19 RX2 yX2_put wsX2_put) := goodIn_app (goodIn_of _ (by decide +kernel)) ggL_law_X2_put
set_option maxRecDepth 20000 in
theorem ggL_law_X1_write : GoodIn wsL_law wsX1_write := goodIn_r _ [57, 21, 18, 14, 19, 13, 20, 58, 59, 17, 60, 61, 62, 63, 64, 32, 65, 66, 67, 2, 68, 22, 69, 70, 71, 72, 30, 27, 33, 73, 74, 75, 76, 77, 31, 29, 78, 79, 80, 81, 82, 83, 84, 85, 86, 87, 185, 186, 187, 188, 189, 190, 191, 203, 204, 205, 206, 207, 208] (by decide +kernel) (by decide +kernel)
set_option maxRecDepth 20000 in
theorem gL_law_X1_write : GoodIn wsL_law (wsV RL 20 RX1 yX1_write wsX1_write) := goodIn_app (goodIn_of _ (by decide +kernel)) ggL_law_X1_write
set_option maxRecDepth 20000 in
theorem ggL_law_X2_write : GoodIn wsL_law wsX2_write := goodIn_r _ [91, 92, 53, 40, 93, 41, 42, 94, 43, 38, 95, 96, 97, 98, 5, 99, 100, 101, 102, 103, 104, 105, 106, 44, 192, 193, 194, 195, 196, 197, 198, 199, 200, 201, 202] (by decide +kernel) (by decide +kernel)
set_option maxRecDepth 20000 in
theorem gL_law_X2_write : GoodIn wsL_law (wsV RL 24 RX2 yX2_write wsX2_write) := goodIn_app (goodIn_of _ (by decide +kernel)) ggL_law_X2_write
set_option maxRecDepth 20000 in
theorem ggL_law_X1_drop : GoodIn wsL_law wsX1_drop := goodIn_r _ [110, 21, 18, 20, 111, 112, 113, 17, 114, 33, 61, 62, 63, 64, 32, 65, 66, 67, 2, 68, 22, 115, 116, 117, 118, 31, 74, 75, 76, 77, 29, 78, 79, 80, 81, 82, 83, 84, 119, 120, 121, 122, 123, 124, 125, 126, 127, 128, 129, 130, 131, 132, 133, 134, 73, 59, 60, 185, 186, 187, 188, 189, 190, 191, 203, 204, 205, 206, 207, 208] (by decide +kernel) (by decide +kernel)
set_option maxRecDepth 20000 in
theorem gL_law_X1_drop : GoodIn wsL_law (wsV RL 25 RX1 yX1_drop wsX1_drop) := goodIn_app (goodIn_of _ (by decide +kernel)) ggL_law_X1_drop
set_option maxRecDepth 20000 in
theorem ggL_law_X2_drop : GoodIn wsL_law wsX2_drop := goodIn_r _ [138, 92, 95, 40, 93, 41, 139, 140, 141, 5, 142, 96, 97, 98, 99, 100, 101, 102, 103, 104, 105, 106, 44, 192, 193, 194, 195, 196, 197, 198, 199, 200, 201, 202] (by decide +kernel) (by decide +kernel)
set_option maxRecDepth 20000 in
theorem gL_law_X2_drop : GoodIn wsL_law (wsV RL 29 RX2 yX2_drop wsX2_drop) := goodIn_app (goodIn_of _ (by decide +kernel)) ggL_law_X2_drop
set_option maxRecDepth 20000 in
theorem ggL_law_X1_cut : GoodIn wsL_law wsX1_cut := goodIn_r _ [146, 22, 185, 186, 187, 188, 189, 190, 191] (by decide +kernel) (by decide +kernel)
set_option maxRecDepth 20000 in
theorem gL_law_X1_cut : GoodIn wsL_law (wsV RL 30 RX1 yX1_cut wsX1_cut) := goodIn_app (goodIn_of _ (by decide +kernel)) ggL_law_X1_cut
set_option maxRecDepth 20000 in
theorem ggL_law_X1_start : GoodIn wsL_law wsX1_start := goodIn_r _ [150, 21, 18, 111, 112, 113, 17, 114, 33, 185, 186, 187, 188, 189, 190, 191, 203, 204, 205, 206, 207, 208] (by decide +kernel) (by decide +kernel)
set_option maxRecDepth 20000 in
theorem gL_law_X1_start : GoodIn wsL_law (wsV RL 35 RX1 yX1_start wsX1_start) := goodIn_app (goodIn_of _ (by decide +kernel)) ggL_law_X1_start
set_option maxRecDepth 20000 in
theorem ggL_law_X1_record : GoodIn wsL_law wsX1_record := goodIn_r _ [154, 18, 155, 156, 157, 2, 158, 21, 159, 160, 161, 17, 162, 33, 31, 119, 120, 121, 122, 123, 124, 125, 126, 29, 78, 79, 80, 81, 82, 83, 84, 131, 132, 133, 134, 73, 59, 60, 163, 164, 165, 166, 167, 30, 185, 186, 187, 188, 189, 190, 191, 203, 204, 205, 206, 207, 208] (by decide +kernel) (by decide +kernel)
set_option maxRecDepth 20000 in
theorem gL_law_X1_record : GoodIn wsL_law (wsV RL 39 RX1 yX1_record wsX1_record) := goodIn_app (goodIn_of _ (by decide +kernel)) ggL_law_X1_record
set_option maxRecDepth 20000 in
theorem ggL_law_X1_bytes : GoodIn wsL_law wsX1_bytes := goodIn_r _ [171, 172, 18, 155, 156, 157, 2, 158, 21, 159, 160, 161, 17, 162, 33, 31, 119, 120, 121, 122, 123, 124, 125, 126, 29, 78, 79, 80, 81, 82, 83, 84, 131, 132, 133, 134, 73, 59, 60, 173, 174, 175, 176, 27, 85, 86, 87, 185, 186, 187, 188, 189, 190, 191, 203, 204, 205, 206, 207, 208] (by decide +kernel) (by decide +kernel)
set_option maxRecDepth 20000 in
theorem gL_law_X1_bytes : GoodIn wsL_law (wsV RL 44 RX1 yX1_bytes wsX1_bytes) := goodIn_app (goodIn_of _ (by decide +kernel)) ggL_law_X1_bytes
set_option maxRecDepth 20000 in
theorem ggL_law_X1_count : GoodIn wsL_law wsX1_count := goodIn_r _ [180, 14, 21, 18, 20, 111, 112, 113, 17, 114, 33, 181, 182, 183, 184, 32, 185, 186, 187, 188, 189, 190, 191, 203, 204, 205, 206, 207, 208] (by decide +kernel) (by decide +kernel)
set_option maxRecDepth 20000 in
theorem gL_law_X1_count : GoodIn wsL_law (wsV RL 49 RX1 yX1_count wsX1_count) := goodIn_app (goodIn_of _ (by decide +kernel)) ggL_law_X1_count
theorem dL_law_0 : decode cL_law 0 = .ok (.new 7, 3) := by decide +kernel
theorem dL_law_3 : decode cL_law 3 = .ok (.dup, 1) := by decide +kernel
theorem dL_law_4 : decode cL_law 4 = .ok (.invokespecial 9, 3) := by decide +kernel
theorem dL_law_7 : decode cL_law 7 = .ok (.astore_n 1, 1) := by decide +kernel
theorem dL_law_8 : decode cL_law 8 = .ok (.new 10, 3) := by decide +kernel
theorem dL_law_11 : decode cL_law 11 = .ok (.dup, 1) := by decide +kernel
theorem dL_law_12 : decode cL_law 12 = .ok (.invokespecial 12, 3) := by decide +kernel
theorem dL_law_15 : decode cL_law 15 = .ok (.astore_n 2, 1) := by decide +kernel
theorem dL_law_16 : decode cL_law 16 = .ok (.iconst 0, 1) := by decide +kernel
theorem dL_law_17 : decode cL_law 17 = .ok (.istore_n 3, 1) := by decide +kernel
theorem dL_law_18 : decode cL_law 18 = .ok (.iload_n 3, 1) := by decide +kernel
theorem dL_law_19 : decode cL_law 19 = .ok (.aload_n 0, 1) := by decide +kernel
theorem dL_law_20 : decode cL_law 20 = .ok (.arraylength, 1) := by decide +kernel
theorem dL_law_21 : decode cL_law 21 = .ok (.iconst 4, 1) := by decide +kernel
theorem dL_law_22 : decode cL_law 22 = .ok (.isub, 1) := by decide +kernel
theorem dL_law_23 : decode cL_law 23 = .ok (.if_icmp .gt 288, 3) := by decide +kernel
theorem dL_law_26 : decode cL_law 26 = .ok (.aload_n 0, 1) := by decide +kernel
theorem dL_law_27 : decode cL_law 27 = .ok (.iload_n 3, 1) := by decide +kernel
theorem dL_law_28 : decode cL_law 28 = .ok (.iaload, 1) := by decide +kernel
theorem dL_law_29 : decode cL_law 29 = .ok (.bipush 7, 2) := by decide +kernel
theorem dL_law_31 : decode cL_law 31 = .ok (.iand, 1) := by decide +kernel
theorem dL_law_32 : decode cL_law 32 = .ok (.tableswitch 273 0 7 #[48, 111, 124, 147, 170, 183, 216, 250], 48) := by decide +kernel
theorem dL_law_80 : decode cL_law 80 = .ok (.aload_n 1, 1) := by decide +kernel
theorem dL_law_81 : decode cL_law 81 = .ok (.aload_n 0, 1) := by decide +kernel
theorem dL_law_82 : decode cL_law 82 = .ok (.iload_n 3, 1) := by decide +kernel
theorem dL_law_83 : decode cL_law 83 = .ok (.iconst 1, 1) := by decide +kernel
theorem dL_law_84 : decode cL_law 84 = .ok (.iadd, 1) := by decide +kernel
theorem dL_law_85 : decode cL_law 85 = .ok (.iaload, 1) := by decide +kernel
theorem dL_law_86 : decode cL_law 86 = .ok (.i2l, 1) := by decide +kernel
theorem dL_law_87 : decode cL_law 87 = .ok (.bipush 32, 2) := by decide +kernel
theorem dL_law_89 : decode cL_law 89 = .ok (.lshl, 1) := by decide +kernel
theorem dL_law_90 : decode cL_law 90 = .ok (.aload_n 0, 1) := by decide +kernel
theorem dL_law_91 : decode cL_law 91 = .ok (.iload_n 3, 1) := by decide +kernel
theorem dL_law_92 : decode cL_law 92 = .ok (.iconst 2, 1) := by decide +kernel
theorem dL_law_93 : decode cL_law 93 = .ok (.iadd, 1) := by decide +kernel
theorem dL_law_94 : decode cL_law 94 = .ok (.iaload, 1) := by decide +kernel
theorem dL_law_95 : decode cL_law 95 = .ok (.i2l, 1) := by decide +kernel
theorem dL_law_96 : decode cL_law 96 = .ok (.ldc2_w 13, 3) := by decide +kernel
theorem dL_law_99 : decode cL_law 99 = .ok (.land, 1) := by decide +kernel
theorem dL_law_100 : decode cL_law 100 = .ok (.lor, 1) := by decide +kernel
theorem dL_law_101 : decode cL_law 101 = .ok (.aload_n 0, 1) := by decide +kernel
theorem dL_law_102 : decode cL_law 102 = .ok (.iload_n 3, 1) := by decide +kernel
theorem dL_law_103 : decode cL_law 103 = .ok (.iconst 3, 1) := by decide +kernel
theorem dL_law_104 : decode cL_law 104 = .ok (.iadd, 1) := by decide +kernel
theorem dL_law_105 : decode cL_law 105 = .ok (.iaload, 1) := by decide +kernel
theorem dL_law_106 : decode cL_law 106 = .ok (.invokevirtual 15, 3) := by decide +kernel
theorem dL_law_109 : decode cL_law 109 = .ok (.aload_n 2, 1) := by decide +kernel
theorem dL_law_110 : decode cL_law 110 = .ok (.aload_n 0, 1) := by decide +kernel
theorem dL_law_111 : decode cL_law 111 = .ok (.iload_n 3, 1) := by decide +kernel
theorem dL_law_112 : decode cL_law 112 = .ok (.iconst 1, 1) := by decide +kernel
theorem dL_law_113 : decode cL_law 113 = .ok (.iadd, 1) := by decide +kernel
theorem dL_law_114 : decode cL_law 114 = .ok (.iaload, 1) := by decide +kernel
theorem dL_law_115 : decode cL_law 115 = .ok (.i2l, 1) := by decide +kernel
theorem dL_law_116 : decode cL_law 116 = .ok (.bipush 32, 2) := by decide +kernel
theorem dL_law_118 : decode cL_law 118 = .ok (.lshl, 1) := by decide +kernel
theorem dL_law_119 : decode cL_law 119 = .ok (.aload_n 0, 1) := by decide +kernel
theorem dL_law_120 : decode cL_law 120 = .ok (.iload_n 3, 1) := by decide +kernel
theorem dL_law_121 : decode cL_law 121 = .ok (.iconst 2, 1) := by decide +kernel
theorem dL_law_122 : decode cL_law 122 = .ok (.iadd, 1) := by decide +kernel
theorem dL_law_123 : decode cL_law 123 = .ok (.iaload, 1) := by decide +kernel
theorem dL_law_124 : decode cL_law 124 = .ok (.i2l, 1) := by decide +kernel
theorem dL_law_125 : decode cL_law 125 = .ok (.ldc2_w 13, 3) := by decide +kernel
theorem dL_law_128 : decode cL_law 128 = .ok (.land, 1) := by decide +kernel
theorem dL_law_129 : decode cL_law 129 = .ok (.lor, 1) := by decide +kernel
theorem dL_law_130 : decode cL_law 130 = .ok (.aload_n 0, 1) := by decide +kernel
theorem dL_law_131 : decode cL_law 131 = .ok (.iload_n 3, 1) := by decide +kernel
theorem dL_law_132 : decode cL_law 132 = .ok (.iconst 3, 1) := by decide +kernel
theorem dL_law_133 : decode cL_law 133 = .ok (.iadd, 1) := by decide +kernel
theorem dL_law_134 : decode cL_law 134 = .ok (.iaload, 1) := by decide +kernel
theorem dL_law_135 : decode cL_law 135 = .ok (.invokevirtual 19, 3) := by decide +kernel
theorem dL_law_138 : decode cL_law 138 = .ok (.if_icmp .eq 167, 3) := by decide +kernel
theorem dL_law_141 : decode cL_law 141 = .ok (.iconst 0, 1) := by decide +kernel
theorem dL_law_142 : decode cL_law 142 = .ok (.ireturn, 1) := by decide +kernel
theorem dL_law_143 : decode cL_law 143 = .ok (.aload_n 1, 1) := by decide +kernel
theorem dL_law_144 : decode cL_law 144 = .ok (.invokevirtual 20, 3) := by decide +kernel
theorem dL_law_147 : decode cL_law 147 = .ok (.aload_n 2, 1) := by decide +kernel
theorem dL_law_148 : decode cL_law 148 = .ok (.invokevirtual 24, 3) := by decide +kernel
theorem dL_law_151 : decode cL_law 151 = .ok (.if_icmp .eq 154, 3) := by decide +kernel
theorem dL_law_154 : decode cL_law 154 = .ok (.iconst 0, 1) := by decide +kernel
theorem dL_law_155 : decode cL_law 155 = .ok (.ireturn, 1) := by decide +kernel
theorem dL_law_156 : decode cL_law 156 = .ok (.aload_n 1, 1) := by decide +kernel
theorem dL_law_157 : decode cL_law 157 = .ok (.aload_n 0, 1) := by decide +kernel
theorem dL_law_158 : decode cL_law 158 = .ok (.iload_n 3, 1) := by decide +kernel
theorem dL_law_159 : decode cL_law 159 = .ok (.iconst 1, 1) := by decide +kernel
theorem dL_law_160 : decode cL_law 160 = .ok (.iadd, 1) := by decide +kernel
theorem dL_law_161 : decode cL_law 161 = .ok (.iaload, 1) := by decide +kernel
theorem dL_law_162 : decode cL_law 162 = .ok (.invokevirtual 25, 3) := by decide +kernel
theorem dL_law_165 : decode cL_law 165 = .ok (.aload_n 2, 1) := by decide +kernel
theorem dL_law_166 : decode cL_law 166 = .ok (.aload_n 0, 1) := by decide +kernel
theorem dL_law_167 : decode cL_law 167 = .ok (.iload_n 3, 1) := by decide +kernel
theorem dL_law_168 : decode cL_law 168 = .ok (.iconst 1, 1) := by decide +kernel
theorem dL_law_169 : decode cL_law 169 = .ok (.iadd, 1) := by decide +kernel
theorem dL_law_170 : decode cL_law 170 = .ok (.iaload, 1) := by decide +kernel
theorem dL_law_171 : decode cL_law 171 = .ok (.invokevirtual 29, 3) := by decide +kernel
theorem dL_law_174 : decode cL_law 174 = .ok (.if_icmp .eq 131, 3) := by decide +kernel
theorem dL_law_177 : decode cL_law 177 = .ok (.iconst 0, 1) := by decide +kernel
theorem dL_law_178 : decode cL_law 178 = .ok (.ireturn, 1) := by decide +kernel
theorem dL_law_179 : decode cL_law 179 = .ok (.aload_n 1, 1) := by decide +kernel
theorem dL_law_180 : decode cL_law 180 = .ok (.aload_n 0, 1) := by decide +kernel
theorem dL_law_181 : decode cL_law 181 = .ok (.iload_n 3, 1) := by decide +kernel
theorem dL_law_182 : decode cL_law 182 = .ok (.iconst 1, 1) := by decide +kernel
theorem dL_law_183 : decode cL_law 183 = .ok (.iadd, 1) := by decide +kernel
theorem dL_law_184 : decode cL_law 184 = .ok (.iaload, 1) := by decide +kernel
theorem dL_law_185 : decode cL_law 185 = .ok (.invokevirtual 30, 3) := by decide +kernel
theorem dL_law_188 : decode cL_law 188 = .ok (.aload_n 2, 1) := by decide +kernel
theorem dL_law_189 : decode cL_law 189 = .ok (.aload_n 0, 1) := by decide +kernel
theorem dL_law_190 : decode cL_law 190 = .ok (.iload_n 3, 1) := by decide +kernel
theorem dL_law_191 : decode cL_law 191 = .ok (.iconst 1, 1) := by decide +kernel
theorem dL_law_192 : decode cL_law 192 = .ok (.iadd, 1) := by decide +kernel
theorem dL_law_193 : decode cL_law 193 = .ok (.iaload, 1) := by decide +kernel
theorem dL_law_194 : decode cL_law 194 = .ok (.invokevirtual 34, 3) := by decide +kernel
theorem dL_law_197 : decode cL_law 197 = .ok (.if_icmp .eq 108, 3) := by decide +kernel
theorem dL_law_200 : decode cL_law 200 = .ok (.iconst 0, 1) := by decide +kernel
theorem dL_law_201 : decode cL_law 201 = .ok (.ireturn, 1) := by decide +kernel
theorem dL_law_202 : decode cL_law 202 = .ok (.aload_n 1, 1) := by decide +kernel
theorem dL_law_203 : decode cL_law 203 = .ok (.invokevirtual 35, 3) := by decide +kernel
theorem dL_law_206 : decode cL_law 206 = .ok (.aload_n 2, 1) := by decide +kernel
theorem dL_law_207 : decode cL_law 207 = .ok (.invokevirtual 38, 3) := by decide +kernel
theorem dL_law_210 : decode cL_law 210 = .ok (.if_icmp .eq 95, 3) := by decide +kernel
theorem dL_law_213 : decode cL_law 213 = .ok (.iconst 0, 1) := by decide +kernel
theorem dL_law_214 : decode cL_law 214 = .ok (.ireturn, 1) := by decide +kernel
theorem dL_law_215 : decode cL_law 215 = .ok (.aload_n 1, 1) := by decide +kernel
theorem dL_law_216 : decode cL_law 216 = .ok (.aload_n 0, 1) := by decide +kernel
theorem dL_law_217 : decode cL_law 217 = .ok (.iload_n 3, 1) := by decide +kernel
theorem dL_law_218 : decode cL_law 218 = .ok (.iconst 1, 1) := by decide +kernel
theorem dL_law_219 : decode cL_law 219 = .ok (.iadd, 1) := by decide +kernel
theorem dL_law_220 : decode cL_law 220 = .ok (.iaload, 1) := by decide +kernel
theorem dL_law_221 : decode cL_law 221 = .ok (.aload_n 0, 1) := by decide +kernel
theorem dL_law_222 : decode cL_law 222 = .ok (.iload_n 3, 1) := by decide +kernel
theorem dL_law_223 : decode cL_law 223 = .ok (.iconst 2, 1) := by decide +kernel
theorem dL_law_224 : decode cL_law 224 = .ok (.iadd, 1) := by decide +kernel
theorem dL_law_225 : decode cL_law 225 = .ok (.iaload, 1) := by decide +kernel
theorem dL_law_226 : decode cL_law 226 = .ok (.invokevirtual 39, 3) := by decide +kernel
theorem dL_law_229 : decode cL_law 229 = .ok (.aload_n 2, 1) := by decide +kernel
theorem dL_law_230 : decode cL_law 230 = .ok (.aload_n 0, 1) := by decide +kernel
theorem dL_law_231 : decode cL_law 231 = .ok (.iload_n 3, 1) := by decide +kernel
theorem dL_law_232 : decode cL_law 232 = .ok (.iconst 1, 1) := by decide +kernel
theorem dL_law_233 : decode cL_law 233 = .ok (.iadd, 1) := by decide +kernel
theorem dL_law_234 : decode cL_law 234 = .ok (.iaload, 1) := by decide +kernel
theorem dL_law_235 : decode cL_law 235 = .ok (.aload_n 0, 1) := by decide +kernel
theorem dL_law_236 : decode cL_law 236 = .ok (.iload_n 3, 1) := by decide +kernel
theorem dL_law_237 : decode cL_law 237 = .ok (.iconst 2, 1) := by decide +kernel
theorem dL_law_238 : decode cL_law 238 = .ok (.iadd, 1) := by decide +kernel
theorem dL_law_239 : decode cL_law 239 = .ok (.iaload, 1) := by decide +kernel
theorem dL_law_240 : decode cL_law 240 = .ok (.invokevirtual 43, 3) := by decide +kernel
theorem dL_law_243 : decode cL_law 243 = .ok (.if_icmp .eq 62, 3) := by decide +kernel
theorem dL_law_246 : decode cL_law 246 = .ok (.iconst 0, 1) := by decide +kernel
theorem dL_law_247 : decode cL_law 247 = .ok (.ireturn, 1) := by decide +kernel
theorem dL_law_248 : decode cL_law 248 = .ok (.aload_n 1, 1) := by decide +kernel
theorem dL_law_249 : decode cL_law 249 = .ok (.aload_n 0, 1) := by decide +kernel
theorem dL_law_250 : decode cL_law 250 = .ok (.iload_n 3, 1) := by decide +kernel
theorem dL_law_251 : decode cL_law 251 = .ok (.iconst 1, 1) := by decide +kernel
theorem dL_law_252 : decode cL_law 252 = .ok (.iadd, 1) := by decide +kernel
theorem dL_law_253 : decode cL_law 253 = .ok (.iaload, 1) := by decide +kernel
theorem dL_law_254 : decode cL_law 254 = .ok (.aload_n 0, 1) := by decide +kernel
theorem dL_law_255 : decode cL_law 255 = .ok (.iload_n 3, 1) := by decide +kernel
theorem dL_law_256 : decode cL_law 256 = .ok (.iconst 2, 1) := by decide +kernel
theorem dL_law_257 : decode cL_law 257 = .ok (.iadd, 1) := by decide +kernel
theorem dL_law_258 : decode cL_law 258 = .ok (.iaload, 1) := by decide +kernel
theorem dL_law_259 : decode cL_law 259 = .ok (.invokevirtual 44, 3) := by decide +kernel
theorem dL_law_262 : decode cL_law 262 = .ok (.aload_n 2, 1) := by decide +kernel
theorem dL_law_263 : decode cL_law 263 = .ok (.aload_n 0, 1) := by decide +kernel
theorem dL_law_264 : decode cL_law 264 = .ok (.iload_n 3, 1) := by decide +kernel
theorem dL_law_265 : decode cL_law 265 = .ok (.iconst 1, 1) := by decide +kernel
theorem dL_law_266 : decode cL_law 266 = .ok (.iadd, 1) := by decide +kernel
theorem dL_law_267 : decode cL_law 267 = .ok (.iaload, 1) := by decide +kernel
theorem dL_law_268 : decode cL_law 268 = .ok (.aload_n 0, 1) := by decide +kernel
theorem dL_law_269 : decode cL_law 269 = .ok (.iload_n 3, 1) := by decide +kernel
theorem dL_law_270 : decode cL_law 270 = .ok (.iconst 2, 1) := by decide +kernel
theorem dL_law_271 : decode cL_law 271 = .ok (.iadd, 1) := by decide +kernel
theorem dL_law_272 : decode cL_law 272 = .ok (.iaload, 1) := by decide +kernel
theorem dL_law_273 : decode cL_law 273 = .ok (.invokevirtual 48, 3) := by decide +kernel
theorem dL_law_276 : decode cL_law 276 = .ok (.lcmp, 1) := by decide +kernel
theorem dL_law_277 : decode cL_law 277 = .ok (.ifCond .eq 28, 3) := by decide +kernel
theorem dL_law_280 : decode cL_law 280 = .ok (.iconst 0, 1) := by decide +kernel
theorem dL_law_281 : decode cL_law 281 = .ok (.ireturn, 1) := by decide +kernel
theorem dL_law_282 : decode cL_law 282 = .ok (.aload_n 1, 1) := by decide +kernel
theorem dL_law_283 : decode cL_law 283 = .ok (.aload_n 0, 1) := by decide +kernel
theorem dL_law_284 : decode cL_law 284 = .ok (.iload_n 3, 1) := by decide +kernel
theorem dL_law_285 : decode cL_law 285 = .ok (.iconst 1, 1) := by decide +kernel
theorem dL_law_286 : decode cL_law 286 = .ok (.iadd, 1) := by decide +kernel
theorem dL_law_287 : decode cL_law 287 = .ok (.iaload, 1) := by decide +kernel
theorem dL_law_288 : decode cL_law 288 = .ok (.invokevirtual 49, 3) := by decide +kernel
theorem dL_law_291 : decode cL_law 291 = .ok (.aload_n 2, 1) := by decide +kernel
theorem dL_law_292 : decode cL_law 292 = .ok (.aload_n 0, 1) := by decide +kernel
theorem dL_law_293 : decode cL_law 293 = .ok (.iload_n 3, 1) := by decide +kernel
theorem dL_law_294 : decode cL_law 294 = .ok (.iconst 1, 1) := by decide +kernel
theorem dL_law_295 : decode cL_law 295 = .ok (.iadd, 1) := by decide +kernel
theorem dL_law_296 : decode cL_law 296 = .ok (.iaload, 1) := by decide +kernel
theorem dL_law_297 : decode cL_law 297 = .ok (.invokevirtual 52, 3) := by decide +kernel
theorem dL_law_300 : decode cL_law 300 = .ok (.if_icmp .eq 5, 3) := by decide +kernel
theorem dL_law_303 : decode cL_law 303 = .ok (.iconst 0, 1) := by decide +kernel
theorem dL_law_304 : decode cL_law 304 = .ok (.ireturn, 1) := by decide +kernel
theorem dL_law_305 : decode cL_law 305 = .ok (.iinc 3 4, 3) := by decide +kernel
theorem dL_law_308 : decode cL_law 308 = .ok (.goto (-290), 3) := by decide +kernel
theorem dL_law_311 : decode cL_law 311 = .ok (.iconst 1, 1) := by decide +kernel
theorem dL_law_312 : decode cL_law 312 = .ok (.ireturn, 1) := by decide +kernel
abbrev vwCl : List vw_C := [(RX0, TX0, 6), (RX1, TX1, 7), (RX2, TX2, 11)]
/-! names that were left out: methods of the reference -/
abbrev cX2_move : ByteArray := prog_4_method_8_code
def yX2_move : MethodName := ⟨RX2, "move", "(II)V"⟩
abbrev cX2_cut : ByteArray := prog_4_method_10_code
def yX2_cut : MethodName := ⟨RX2, "cut", "(I)Z"⟩
abbrev cX2_start : ByteArray := prog_4_method_11_code
def yX2_start : MethodName := ⟨RX2, "start", "()I"⟩
abbrev cX2_placeOf : ByteArray := prog_4_method_12_code
def yX2_placeOf : MethodName := ⟨RX2, "placeOf", "(I)I"⟩
abbrev cX2_record : ByteArray := prog_4_method_13_code
def yX2_record : MethodName := ⟨RX2, "record", "(II)I"⟩
abbrev cX2_bytes : ByteArray := prog_4_method_14_code
def yX2_bytes : MethodName := ⟨RX2, "bytes", "(II)J"⟩
abbrev cX2_count : ByteArray := prog_4_method_15_code
def yX2_count : MethodName := ⟨RX2, "count", "(I)I"⟩
theorem dX2_move_0 : decode cX2_move 0 = .ok (.aload_n 0, 1) := by decide +kernel
theorem dX2_move_1 : decode cX2_move 1 = .ok (.getfield 13, 3) := by decide +kernel
theorem dX2_move_4 : decode cX2_move 4 = .ok (.iload_n 2, 1) := by decide +kernel
theorem dX2_move_5 : decode cX2_move 5 = .ok (.aload_n 0, 1) := by decide +kernel
theorem dX2_move_6 : decode cX2_move 6 = .ok (.getfield 13, 3) := by decide +kernel
theorem dX2_move_9 : decode cX2_move 9 = .ok (.iload_n 1, 1) := by decide +kernel
theorem dX2_move_10 : decode cX2_move 10 = .ok (.baload, 1) := by decide +kernel
theorem dX2_move_11 : decode cX2_move 11 = .ok (.bastore, 1) := by decide +kernel
theorem dX2_move_12 : decode cX2_move 12 = .ok (.aload_n 0, 1) := by decide +kernel
theorem dX2_move_13 : decode cX2_move 13 = .ok (.getfield 17, 3) := by decide +kernel
theorem dX2_move_16 : decode cX2_move 16 = .ok (.iload_n 2, 1) := by decide +kernel
theorem dX2_move_17 : decode cX2_move 17 = .ok (.aload_n 0, 1) := by decide +kernel
theorem dX2_move_18 : decode cX2_move 18 = .ok (.getfield 17, 3) := by decide +kernel
theorem dX2_move_21 : decode cX2_move 21 = .ok (.iload_n 1, 1) := by decide +kernel
theorem dX2_move_22 : decode cX2_move 22 = .ok (.iaload, 1) := by decide +kernel
theorem dX2_move_23 : decode cX2_move 23 = .ok (.iastore, 1) := by decide +kernel
theorem dX2_move_24 : decode cX2_move 24 = .ok (.aload_n 0, 1) := by decide +kernel
theorem dX2_move_25 : decode cX2_move 25 = .ok (.getfield 20, 3) := by decide +kernel
theorem dX2_move_28 : decode cX2_move 28 = .ok (.iload_n 2, 1) := by decide +kernel
theorem dX2_move_29 : decode cX2_move 29 = .ok (.aload_n 0, 1) := by decide +kernel
theorem dX2_move_30 : decode cX2_move 30 = .ok (.getfield 20, 3) := by decide +kernel
theorem dX2_move_33 : decode cX2_move 33 = .ok (.iload_n 1, 1) := by decide +kernel
theorem dX2_move_34 : decode cX2_move 34 = .ok (.iaload, 1) := by decide +kernel
theorem dX2_move_35 : decode cX2_move 35 = .ok (.iastore, 1) := by decide +kernel
theorem dX2_move_36 : decode cX2_move 36 = .ok (.iconst 0, 1) := by decide +kernel
theorem dX2_move_37 : decode cX2_move 37 = .ok (.istore_n 3, 1) := by decide +kernel
theorem dX2_move_38 : decode cX2_move 38 = .ok (.iload_n 3, 1) := by decide +kernel
theorem dX2_move_39 : decode cX2_move 39 = .ok (.aload_n 0, 1) := by decide +kernel
theorem dX2_move_40 : decode cX2_move 40 = .ok (.getfield 17, 3) := by decide +kernel
theorem dX2_move_43 : decode cX2_move 43 = .ok (.iload_n 1, 1) := by decide +kernel
theorem dX2_move_44 : decode cX2_move 44 = .ok (.iaload, 1) := by decide +kernel
theorem dX2_move_45 : decode cX2_move 45 = .ok (.if_icmp .ge 31, 3) := by decide +kernel
theorem dX2_move_48 : decode cX2_move 48 = .ok (.aload_n 0, 1) := by decide +kernel
theorem dX2_move_49 : decode cX2_move 49 = .ok (.getfield 23, 3) := by decide +kernel
theorem dX2_move_52 : decode cX2_move 52 = .ok (.bipush 100, 2) := by decide +kernel
theorem dX2_move_54 : decode cX2_move 54 = .ok (.iload_n 2, 1) := by decide +kernel
theorem dX2_move_55 : decode cX2_move 55 = .ok (.imul, 1) := by decide +kernel
theorem dX2_move_56 : decode cX2_move 56 = .ok (.iload_n 3, 1) := by decide +kernel
theorem dX2_move_57 : decode cX2_move 57 = .ok (.iadd, 1) := by decide +kernel
theorem dX2_move_58 : decode cX2_move 58 = .ok (.aload_n 0, 1) := by decide +kernel
theorem dX2_move_59 : decode cX2_move 59 = .ok (.getfield 23, 3) := by decide +kernel
theorem dX2_move_62 : decode cX2_move 62 = .ok (.bipush 100, 2) := by decide +kernel
theorem dX2_move_64 : decode cX2_move 64 = .ok (.iload_n 1, 1) := by decide +kernel
theorem dX2_move_65 : decode cX2_move 65 = .ok (.imul, 1) := by decide +kernel
theorem dX2_move_66 : decode cX2_move 66 = .ok (.iload_n 3, 1) := by decide +kernel
theorem dX2_move_67 : decode cX2_move 67 = .ok (.iadd, 1) := by decide +kernel
theorem dX2_move_68 : decode cX2_move 68 = .ok (.iaload, 1) := by decide +kernel
theorem dX2_move_69 : decode cX2_move 69 = .ok (.iastore, 1) := by decide +kernel
theorem dX2_move_70 : decode cX2_move 70 = .ok (.iinc 3 1, 3) := by decide +kernel
theorem dX2_move_73 : decode cX2_move 73 = .ok (.goto (-35), 3) := by decide +kernel
theorem dX2_move_76 : decode cX2_move 76 = .ok (.return_, 1) := by decide +kernel
def wsX2_move : List Cond := .code yX2_move cX2_move 4 none :: ([.fieldLink RX2 13 "JournalDeskModel" "isRecord" "[Z", .fieldLink RX2 17 "JournalDeskModel" "sizes" "[I", .fieldLink RX2 20 "JournalDeskModel" "numbers" "[I", .fieldLink RX2 23 "JournalDeskModel" "bytes" "[I"] ++ wsX20)
theorem dX2_cut_0 : decode cX2_cut 0 = .ok (.iload_n 1, 1) := by decide +kernel
theorem dX2_cut_1 : decode cX2_cut 1 = .ok (.iconst (-1), 1) := by decide +kernel
theorem dX2_cut_2 : decode cX2_cut 2 = .ok (.if_icmp .lt 9, 3) := by decide +kernel
theorem dX2_cut_5 : decode cX2_cut 5 = .ok (.iload_n 1, 1) := by decide +kernel
theorem dX2_cut_6 : decode cX2_cut 6 = .ok (.bipush 8, 2) := by decide +kernel
theorem dX2_cut_8 : decode cX2_cut 8 = .ok (.if_icmp .le 5, 3) := by decide +kernel
theorem dX2_cut_11 : decode cX2_cut 11 = .ok (.iconst 0, 1) := by decide +kernel
theorem dX2_cut_12 : decode cX2_cut 12 = .ok (.ireturn, 1) := by decide +kernel
theorem dX2_cut_13 : decode cX2_cut 13 = .ok (.aload_n 0, 1) := by decide +kernel
theorem dX2_cut_14 : decode cX2_cut 14 = .ok (.iload_n 1, 1) := by decide +kernel
theorem dX2_cut_15 : decode cX2_cut 15 = .ok (.putfield 26, 3) := by decide +kernel
theorem dX2_cut_18 : decode cX2_cut 18 = .ok (.iconst 1, 1) := by decide +kernel
theorem dX2_cut_19 : decode cX2_cut 19 = .ok (.ireturn, 1) := by decide +kernel
def wsX2_cut : List Cond := .code yX2_cut cX2_cut 2 (some .boolean) :: ([.fieldLink RX2 26 "JournalDeskModel" "cutting" "I"] ++ wsX20)
theorem dX2_start_0 : decode cX2_start 0 = .ok (.aload_n 0, 1) := by decide +kernel
theorem dX2_start_1 : decode cX2_start 1 = .ok (.getfield 40, 3) := by decide +kernel
theorem dX2_start_4 : decode cX2_start 4 = .ok (.ifCond .ne 5, 3) := by decide +kernel
theorem dX2_start_7 : decode cX2_start 7 = .ok (.iconst (-1), 1) := by decide +kernel
theorem dX2_start_8 : decode cX2_start 8 = .ok (.ireturn, 1) := by decide +kernel
theorem dX2_start_9 : decode cX2_start 9 = .ok (.aload_n 0, 1) := by decide +kernel
theorem dX2_start_10 : decode cX2_start 10 = .ok (.iconst 0, 1) := by decide +kernel
theorem dX2_start_11 : decode cX2_start 11 = .ok (.putfield 40, 3) := by decide +kernel
theorem dX2_start_14 : decode cX2_start 14 = .ok (.aload_n 0, 1) := by decide +kernel
theorem dX2_start_15 : decode cX2_start 15 = .ok (.invokevirtual 58, 3) := by decide +kernel
theorem dX2_start_18 : decode cX2_start 18 = .ok (.ireturn, 1) := by decide +kernel
def wsX2_start : List Cond := .code yX2_start cX2_start 1 (some .int) :: ([.fieldLink RX2 40 "JournalDeskModel" "off" "Z", .methodLink RX2 58 yX2_records, .instanceMethod yX2_records, .selects RX2 yX2_records yX2_records, .initialized RX2, .code yX2_records cX2_records 3 (some .int), .fieldLink RX2 33 "JournalDeskModel" "kept" "I", .fieldLink RX2 13 "JournalDeskModel" "isRecord" "[Z"] ++ wsX20)
theorem dX2_placeOf_0 : decode cX2_placeOf 0 = .ok (.iload_n 1, 1) := by decide +kernel
theorem dX2_placeOf_1 : decode cX2_placeOf 1 = .ok (.istore_n 2, 1) := by decide +kernel
theorem dX2_placeOf_2 : decode cX2_placeOf 2 = .ok (.iconst 0, 1) := by decide +kernel
theorem dX2_placeOf_3 : decode cX2_placeOf 3 = .ok (.istore_n 3, 1) := by decide +kernel
theorem dX2_placeOf_4 : decode cX2_placeOf 4 = .ok (.iload_n 3, 1) := by decide +kernel
theorem dX2_placeOf_5 : decode cX2_placeOf 5 = .ok (.aload_n 0, 1) := by decide +kernel
theorem dX2_placeOf_6 : decode cX2_placeOf 6 = .ok (.getfield 33, 3) := by decide +kernel
theorem dX2_placeOf_9 : decode cX2_placeOf 9 = .ok (.if_icmp .ge 42, 3) := by decide +kernel
theorem dX2_placeOf_12 : decode cX2_placeOf 12 = .ok (.iload_n 1, 1) := by decide +kernel
theorem dX2_placeOf_13 : decode cX2_placeOf 13 = .ok (.ifCond .lt 38, 3) := by decide +kernel
theorem dX2_placeOf_16 : decode cX2_placeOf 16 = .ok (.aload_n 0, 1) := by decide +kernel
theorem dX2_placeOf_17 : decode cX2_placeOf 17 = .ok (.getfield 40, 3) := by decide +kernel
theorem dX2_placeOf_20 : decode cX2_placeOf 20 = .ok (.ifCond .ne 31, 3) := by decide +kernel
theorem dX2_placeOf_23 : decode cX2_placeOf 23 = .ok (.aload_n 0, 1) := by decide +kernel
theorem dX2_placeOf_24 : decode cX2_placeOf 24 = .ok (.getfield 13, 3) := by decide +kernel
theorem dX2_placeOf_27 : decode cX2_placeOf 27 = .ok (.iload_n 3, 1) := by decide +kernel
theorem dX2_placeOf_28 : decode cX2_placeOf 28 = .ok (.baload, 1) := by decide +kernel
theorem dX2_placeOf_29 : decode cX2_placeOf 29 = .ok (.ifCond .ne 6, 3) := by decide +kernel
theorem dX2_placeOf_32 : decode cX2_placeOf 32 = .ok (.goto 13, 3) := by decide +kernel
theorem dX2_placeOf_35 : decode cX2_placeOf 35 = .ok (.iload_n 2, 1) := by decide +kernel
theorem dX2_placeOf_36 : decode cX2_placeOf 36 = .ok (.ifCond .ne 5, 3) := by decide +kernel
theorem dX2_placeOf_39 : decode cX2_placeOf 39 = .ok (.iload_n 3, 1) := by decide +kernel
theorem dX2_placeOf_40 : decode cX2_placeOf 40 = .ok (.ireturn, 1) := by decide +kernel
theorem dX2_placeOf_41 : decode cX2_placeOf 41 = .ok (.iload_n 2, 1) := by decide +kernel
theorem dX2_placeOf_42 : decode cX2_placeOf 42 = .ok (.iconst 1, 1) := by decide +kernel
theorem dX2_placeOf_43 : decode cX2_placeOf 43 = .ok (.isub, 1) := by decide +kernel
theorem dX2_placeOf_44 : decode cX2_placeOf 44 = .ok (.istore_n 2, 1) := by decide +kernel
theorem dX2_placeOf_45 : decode cX2_placeOf 45 = .ok (.iinc 3 1, 3) := by decide +kernel
theorem dX2_placeOf_48 : decode cX2_placeOf 48 = .ok (.goto (-44), 3) := by decide +kernel
theorem dX2_placeOf_51 : decode cX2_placeOf 51 = .ok (.iconst (-1), 1) := by decide +kernel
theorem dX2_placeOf_52 : decode cX2_placeOf 52 = .ok (.ireturn, 1) := by decide +kernel
def wsX2_placeOf : List Cond := .code yX2_placeOf cX2_placeOf 4 (some .int) :: ([.fieldLink RX2 33 "JournalDeskModel" "kept" "I", .fieldLink RX2 40 "JournalDeskModel" "off" "Z", .fieldLink RX2 13 "JournalDeskModel" "isRecord" "[Z"] ++ wsX20)
theorem dX2_record_0 : decode cX2_record 0 = .ok (.aload_n 0, 1) := by decide +kernel
theorem dX2_record_1 : decode cX2_record 1 = .ok (.iload_n 1, 1) := by decide +kernel
theorem dX2_record_2 : decode cX2_record 2 = .ok (.invokevirtual 65, 3) := by decide +kernel
theorem dX2_record_5 : decode cX2_record 5 = .ok (.istore_n 3, 1) := by decide +kernel
theorem dX2_record_6 : decode cX2_record 6 = .ok (.iload_n 3, 1) := by decide +kernel
theorem dX2_record_7 : decode cX2_record 7 = .ok (.ifCond .ge 7, 3) := by decide +kernel
theorem dX2_record_10 : decode cX2_record 10 = .ok (.iconst (-1), 1) := by decide +kernel
theorem dX2_record_11 : decode cX2_record 11 = .ok (.goto 31, 3) := by decide +kernel
theorem dX2_record_14 : decode cX2_record 14 = .ok (.iload_n 2, 1) := by decide +kernel
theorem dX2_record_15 : decode cX2_record 15 = .ok (.ifCond .ne 12, 3) := by decide +kernel
theorem dX2_record_18 : decode cX2_record 18 = .ok (.aload_n 0, 1) := by decide +kernel
theorem dX2_record_19 : decode cX2_record 19 = .ok (.getfield 17, 3) := by decide +kernel
theorem dX2_record_22 : decode cX2_record 22 = .ok (.iload_n 3, 1) := by decide +kernel
theorem dX2_record_23 : decode cX2_record 23 = .ok (.iaload, 1) := by decide +kernel
theorem dX2_record_24 : decode cX2_record 24 = .ok (.goto 18, 3) := by decide +kernel
theorem dX2_record_27 : decode cX2_record 27 = .ok (.iload_n 2, 1) := by decide +kernel
theorem dX2_record_28 : decode cX2_record 28 = .ok (.iconst 1, 1) := by decide +kernel
theorem dX2_record_29 : decode cX2_record 29 = .ok (.if_icmp .ne 12, 3) := by decide +kernel
theorem dX2_record_32 : decode cX2_record 32 = .ok (.aload_n 0, 1) := by decide +kernel
theorem dX2_record_33 : decode cX2_record 33 = .ok (.getfield 20, 3) := by decide +kernel
theorem dX2_record_36 : decode cX2_record 36 = .ok (.iload_n 3, 1) := by decide +kernel
theorem dX2_record_37 : decode cX2_record 37 = .ok (.iaload, 1) := by decide +kernel
theorem dX2_record_38 : decode cX2_record 38 = .ok (.goto 4, 3) := by decide +kernel
theorem dX2_record_41 : decode cX2_record 41 = .ok (.iconst (-1), 1) := by decide +kernel
theorem dX2_record_42 : decode cX2_record 42 = .ok (.ireturn, 1) := by decide +kernel
def wsX2_record : List Cond := .code yX2_record cX2_record 4 (some .int) :: ([.fieldLink RX2 17 "JournalDeskModel" "sizes" "[I", .fieldLink RX2 20 "JournalDeskModel" "numbers" "[I", .methodLink RX2 65 yX2_placeOf, .instanceMethod yX2_placeOf, .selects RX2 yX2_placeOf yX2_placeOf, .initialized RX2, .code yX2_placeOf cX2_placeOf 4 (some .int), .fieldLink RX2 33 "JournalDeskModel" "kept" "I", .fieldLink RX2 40 "JournalDeskModel" "off" "Z", .fieldLink RX2 13 "JournalDeskModel" "isRecord" "[Z"] ++ wsX20)
theorem dX2_bytes_0 : decode cX2_bytes 0 = .ok (.aload_n 0, 1) := by decide +kernel
theorem dX2_bytes_1 : decode cX2_bytes 1 = .ok (.iload_n 1, 1) := by decide +kernel
theorem dX2_bytes_2 : decode cX2_bytes 2 = .ok (.invokevirtual 65, 3) := by decide +kernel
theorem dX2_bytes_5 : decode cX2_bytes 5 = .ok (.istore_n 3, 1) := by decide +kernel
theorem dX2_bytes_6 : decode cX2_bytes 6 = .ok (.iload_n 3, 1) := by decide +kernel
theorem dX2_bytes_7 : decode cX2_bytes 7 = .ok (.ifCond .lt 7, 3) := by decide +kernel
theorem dX2_bytes_10 : decode cX2_bytes 10 = .ok (.iload_n 2, 1) := by decide +kernel
theorem dX2_bytes_11 : decode cX2_bytes 11 = .ok (.ifCond .ge 7, 3) := by decide +kernel
theorem dX2_bytes_14 : decode cX2_bytes 14 = .ok (.ldc2_w 68, 3) := by decide +kernel
theorem dX2_bytes_17 : decode cX2_bytes 17 = .ok (.lreturn, 1) := by decide +kernel
theorem dX2_bytes_18 : decode cX2_bytes 18 = .ok (.lconst 0, 1) := by decide +kernel
theorem dX2_bytes_19 : decode cX2_bytes 19 = .ok (.lstore 4, 2) := by decide +kernel
theorem dX2_bytes_21 : decode cX2_bytes 21 = .ok (.iconst 0, 1) := by decide +kernel
theorem dX2_bytes_22 : decode cX2_bytes 22 = .ok (.istore 6, 2) := by decide +kernel
theorem dX2_bytes_24 : decode cX2_bytes 24 = .ok (.iload 6, 2) := by decide +kernel
theorem dX2_bytes_26 : decode cX2_bytes 26 = .ok (.bipush 8, 2) := by decide +kernel
theorem dX2_bytes_28 : decode cX2_bytes 28 = .ok (.if_icmp .ge 59, 3) := by decide +kernel
theorem dX2_bytes_31 : decode cX2_bytes 31 = .ok (.lload 4, 2) := by decide +kernel
theorem dX2_bytes_33 : decode cX2_bytes 33 = .ok (.bipush 8, 2) := by decide +kernel
theorem dX2_bytes_35 : decode cX2_bytes 35 = .ok (.lshl, 1) := by decide +kernel
theorem dX2_bytes_36 : decode cX2_bytes 36 = .ok (.iload_n 2, 1) := by decide +kernel
theorem dX2_bytes_37 : decode cX2_bytes 37 = .ok (.aload_n 0, 1) := by decide +kernel
theorem dX2_bytes_38 : decode cX2_bytes 38 = .ok (.getfield 17, 3) := by decide +kernel
theorem dX2_bytes_41 : decode cX2_bytes 41 = .ok (.iload_n 3, 1) := by decide +kernel
theorem dX2_bytes_42 : decode cX2_bytes 42 = .ok (.iaload, 1) := by decide +kernel
theorem dX2_bytes_43 : decode cX2_bytes 43 = .ok (.if_icmp .ge 33, 3) := by decide +kernel
theorem dX2_bytes_46 : decode cX2_bytes 46 = .ok (.iload 6, 2) := by decide +kernel
theorem dX2_bytes_48 : decode cX2_bytes 48 = .ok (.aload_n 0, 1) := by decide +kernel
theorem dX2_bytes_49 : decode cX2_bytes 49 = .ok (.getfield 17, 3) := by decide +kernel
theorem dX2_bytes_52 : decode cX2_bytes 52 = .ok (.iload_n 3, 1) := by decide +kernel
theorem dX2_bytes_53 : decode cX2_bytes 53 = .ok (.iaload, 1) := by decide +kernel
theorem dX2_bytes_54 : decode cX2_bytes 54 = .ok (.iload_n 2, 1) := by decide +kernel
theorem dX2_bytes_55 : decode cX2_bytes 55 = .ok (.isub, 1) := by decide +kernel
theorem dX2_bytes_56 : decode cX2_bytes 56 = .ok (.if_icmp .ge 20, 3) := by decide +kernel
theorem dX2_bytes_59 : decode cX2_bytes 59 = .ok (.aload_n 0, 1) := by decide +kernel
theorem dX2_bytes_60 : decode cX2_bytes 60 = .ok (.getfield 23, 3) := by decide +kernel
theorem dX2_bytes_63 : decode cX2_bytes 63 = .ok (.bipush 100, 2) := by decide +kernel
theorem dX2_bytes_65 : decode cX2_bytes 65 = .ok (.iload_n 3, 1) := by decide +kernel
theorem dX2_bytes_66 : decode cX2_bytes 66 = .ok (.imul, 1) := by decide +kernel
theorem dX2_bytes_67 : decode cX2_bytes 67 = .ok (.iload_n 2, 1) := by decide +kernel
theorem dX2_bytes_68 : decode cX2_bytes 68 = .ok (.iadd, 1) := by decide +kernel
theorem dX2_bytes_69 : decode cX2_bytes 69 = .ok (.iload 6, 2) := by decide +kernel
theorem dX2_bytes_71 : decode cX2_bytes 71 = .ok (.iadd, 1) := by decide +kernel
theorem dX2_bytes_72 : decode cX2_bytes 72 = .ok (.iaload, 1) := by decide +kernel
theorem dX2_bytes_73 : decode cX2_bytes 73 = .ok (.goto 4, 3) := by decide +kernel
theorem dX2_bytes_76 : decode cX2_bytes 76 = .ok (.iconst 0, 1) := by decide +kernel
theorem dX2_bytes_77 : decode cX2_bytes 77 = .ok (.i2l, 1) := by decide +kernel
theorem dX2_bytes_78 : decode cX2_bytes 78 = .ok (.lor, 1) := by decide +kernel
theorem dX2_bytes_79 : decode cX2_bytes 79 = .ok (.lstore 4, 2) := by decide +kernel
theorem dX2_bytes_81 : decode cX2_bytes 81 = .ok (.iinc 6 1, 3) := by decide +kernel
theorem dX2_bytes_84 : decode cX2_bytes 84 = .ok (.goto (-60), 3) := by decide +kernel
theorem dX2_bytes_87 : decode cX2_bytes 87 = .ok (.lload 4, 2) := by decide +kernel
theorem dX2_bytes_89 : decode cX2_bytes 89 = .ok (.lreturn, 1) := by decide +kernel
def wsX2_bytes : List Cond := .code yX2_bytes cX2_bytes 7 (some .long) :: ([.constantLong RX2 68 (-1), .fieldLink RX2 17 "JournalDeskModel" "sizes" "[I", .fieldLink RX2 23 "JournalDeskModel" "bytes" "[I", .methodLink RX2 65 yX2_placeOf, .instanceMethod yX2_placeOf, .selects RX2 yX2_placeOf yX2_placeOf, .initialized RX2, .code yX2_placeOf cX2_placeOf 4 (some .int), .fieldLink RX2 33 "JournalDeskModel" "kept" "I", .fieldLink RX2 40 "JournalDeskModel" "off" "Z", .fieldLink RX2 13 "JournalDeskModel" "isRecord" "[Z"] ++ wsX20)
theorem dX2_count_0 : decode cX2_count 0 = .ok (.iload_n 1, 1) := by decide +kernel
theorem dX2_count_1 : decode cX2_count 1 = .ok (.tableswitch 90 0 4 #[35, 40, 56, 72, 77], 35) := by decide +kernel
theorem dX2_count_36 : decode cX2_count 36 = .ok (.aload_n 0, 1) := by decide +kernel
theorem dX2_count_37 : decode cX2_count 37 = .ok (.getfield 30, 3) := by decide +kernel
theorem dX2_count_40 : decode cX2_count 40 = .ok (.ireturn, 1) := by decide +kernel
theorem dX2_count_41 : decode cX2_count 41 = .ok (.aload_n 0, 1) := by decide +kernel
theorem dX2_count_42 : decode cX2_count 42 = .ok (.getfield 40, 3) := by decide +kernel
theorem dX2_count_45 : decode cX2_count 45 = .ok (.ifCond .eq 7, 3) := by decide +kernel
theorem dX2_count_48 : decode cX2_count 48 = .ok (.iconst 0, 1) := by decide +kernel
theorem dX2_count_49 : decode cX2_count 49 = .ok (.goto 7, 3) := by decide +kernel
theorem dX2_count_52 : decode cX2_count 52 = .ok (.aload_n 0, 1) := by decide +kernel
theorem dX2_count_53 : decode cX2_count 53 = .ok (.invokevirtual 58, 3) := by decide +kernel
theorem dX2_count_56 : decode cX2_count 56 = .ok (.ireturn, 1) := by decide +kernel
theorem dX2_count_57 : decode cX2_count 57 = .ok (.aload_n 0, 1) := by decide +kernel
theorem dX2_count_58 : decode cX2_count 58 = .ok (.getfield 40, 3) := by decide +kernel
theorem dX2_count_61 : decode cX2_count 61 = .ok (.ifCond .eq 7, 3) := by decide +kernel
theorem dX2_count_64 : decode cX2_count 64 = .ok (.iconst 0, 1) := by decide +kernel
theorem dX2_count_65 : decode cX2_count 65 = .ok (.goto 7, 3) := by decide +kernel
theorem dX2_count_68 : decode cX2_count 68 = .ok (.aload_n 0, 1) := by decide +kernel
theorem dX2_count_69 : decode cX2_count 69 = .ok (.invokevirtual 44, 3) := by decide +kernel
theorem dX2_count_72 : decode cX2_count 72 = .ok (.ireturn, 1) := by decide +kernel
theorem dX2_count_73 : decode cX2_count 73 = .ok (.aload_n 0, 1) := by decide +kernel
theorem dX2_count_74 : decode cX2_count 74 = .ok (.getfield 55, 3) := by decide +kernel
theorem dX2_count_77 : decode cX2_count 77 = .ok (.ireturn, 1) := by decide +kernel
theorem dX2_count_78 : decode cX2_count 78 = .ok (.aload_n 0, 1) := by decide +kernel
theorem dX2_count_79 : decode cX2_count 79 = .ok (.getfield 40, 3) := by decide +kernel
theorem dX2_count_82 : decode cX2_count 82 = .ok (.ifCond .eq 7, 3) := by decide +kernel
theorem dX2_count_85 : decode cX2_count 85 = .ok (.iconst 0, 1) := by decide +kernel
theorem dX2_count_86 : decode cX2_count 86 = .ok (.goto 4, 3) := by decide +kernel
theorem dX2_count_89 : decode cX2_count 89 = .ok (.iconst 1, 1) := by decide +kernel
theorem dX2_count_90 : decode cX2_count 90 = .ok (.ireturn, 1) := by decide +kernel
theorem dX2_count_91 : decode cX2_count 91 = .ok (.iconst (-1), 1) := by decide +kernel
theorem dX2_count_92 : decode cX2_count 92 = .ok (.ireturn, 1) := by decide +kernel
def wsX2_count : List Cond := .code yX2_count cX2_count 2 (some .int) :: ([.fieldLink RX2 30 "JournalDeskModel" "taped" "I", .fieldLink RX2 40 "JournalDeskModel" "off" "Z", .fieldLink RX2 55 "JournalDeskModel" "whole" "I", .methodLink RX2 58 yX2_records, .instanceMethod yX2_records, .selects RX2 yX2_records yX2_records, .initialized RX2, .code yX2_records cX2_records 3 (some .int), .fieldLink RX2 33 "JournalDeskModel" "kept" "I", .fieldLink RX2 13 "JournalDeskModel" "isRecord" "[Z", .methodLink RX2 44 yX2_used, .instanceMethod yX2_used, .selects RX2 yX2_used yX2_used, .code yX2_used cX2_used 3 (some .int), .fieldLink RX2 17 "JournalDeskModel" "sizes" "[I", .methodLink RX2 36 yX2_sectorsOf, .static yX2_sectorsOf, .code yX2_sectorsOf cX2_sectorsOf 1 (some .int)] ++ wsX20)
def wsX2_drop2 : List Cond := .code yX2_drop cX2_drop 7 (some .int) :: ([.fieldLink RX2 40 "JournalDeskModel" "off" "Z", .fieldLink RX2 55 "JournalDeskModel" "whole" "I", .fieldLink RX2 13 "JournalDeskModel" "isRecord" "[Z", .fieldLink RX2 33 "JournalDeskModel" "kept" "I", .fieldLink RX2 17 "JournalDeskModel" "sizes" "[I", .methodLink RX2 58 yX2_records, .instanceMethod yX2_records, .selects RX2 yX2_records yX2_records, .initialized RX2, .code yX2_records cX2_records 3 (some .int), .methodLink RX2 44 yX2_used, .instanceMethod yX2_used, .selects RX2 yX2_used yX2_used, .code yX2_used cX2_used 3 (some .int), .methodLink RX2 36 yX2_sectorsOf, .static yX2_sectorsOf, .code yX2_sectorsOf cX2_sectorsOf 1 (some .int), .methodLink RX2 48 yX2_isCut, .instanceMethod yX2_isCut, .selects RX2 yX2_isCut yX2_isCut, .code yX2_isCut cX2_isCut 1 (some .boolean), .fieldLink RX2 26 "JournalDeskModel" "cutting" "I", .methodLink RX2 61 yX2_move, .instanceMethod yX2_move, .selects RX2 yX2_move yX2_move, .code yX2_move cX2_move 4 none, .fieldLink RX2 20 "JournalDeskModel" "numbers" "[I", .fieldLink RX2 23 "JournalDeskModel" "bytes" "[I"] ++ wsX20)

theorem hg2_drop_X2_records : GoodIn wsX2_drop2 wsX2_records := goodIn_r _ [10, 4, 3, 29, 30, 31, 32, 33, 34, 35, 36, 37, 38, 39] (by decide +kernel) (by decide +kernel)
theorem hq2_drop_X2_records : GoodIn wsX2_drop2 (wsV RX2 58 RX2 yX2_records wsX2_records) := goodIn_app (goodIn_of _ (by decide +kernel)) hg2_drop_X2_records

theorem hg2_drop_X2_used : GoodIn wsX2_drop2 wsX2_used := goodIn_r _ [14, 4, 3, 5, 15, 16, 9, 17, 29, 30, 31, 32, 33, 34, 35, 36, 37, 38, 39] (by decide +kernel) (by decide +kernel)
theorem hq2_drop_X2_used : GoodIn wsX2_drop2 (wsV RX2 44 RX2 yX2_used wsX2_used) := goodIn_app (goodIn_of _ (by decide +kernel)) hg2_drop_X2_used

theorem hg2_drop_X2_isCut : GoodIn wsX2_drop2 wsX2_isCut := goodIn_r _ [21, 22, 1, 29, 30, 31, 32, 33, 34, 35, 36, 37, 38, 39] (by decide +kernel) (by decide +kernel)
theorem hq2_drop_X2_isCut : GoodIn wsX2_drop2 (wsV RX2 48 RX2 yX2_isCut wsX2_isCut) := goodIn_app (goodIn_of _ (by decide +kernel)) hg2_drop_X2_isCut

theorem hg2_drop_X2_move : GoodIn wsX2_drop2 wsX2_move := goodIn_r _ [26, 3, 5, 27, 28, 29, 30, 31, 32, 33, 34, 35, 36, 37, 38, 39] (by decide +kernel) (by decide +kernel)
theorem hq2_drop_X2_move : GoodIn wsX2_drop2 (wsV RX2 61 RX2 yX2_move wsX2_move) := goodIn_app (goodIn_of _ (by decide +kernel)) hg2_drop_X2_move
theorem ggX2_start_X2_records : GoodIn wsX2_start wsX2_records := goodIn_r _ [6, 7, 8, 9, 10, 11, 12, 13, 14, 15, 16, 17, 18, 19] (by decide +kernel) (by decide +kernel)
theorem gqX2_start_X2_records : GoodIn wsX2_start (wsV RX2 58 RX2 yX2_records wsX2_records) := goodIn_app (goodIn_of _ (by decide +kernel)) ggX2_start_X2_records
theorem ggX2_record_X2_placeOf : GoodIn wsX2_record wsX2_placeOf := goodIn_r _ [7, 8, 9, 10, 11, 12, 13, 14, 15, 16, 17, 18, 19, 20, 21] (by decide +kernel) (by decide +kernel)
theorem gqX2_record_X2_placeOf : GoodIn wsX2_record (wsV RX2 65 RX2 yX2_placeOf wsX2_placeOf) := goodIn_app (goodIn_of _ (by decide +kernel)) ggX2_record_X2_placeOf
theorem ggX2_bytes_X2_placeOf : GoodIn wsX2_bytes wsX2_placeOf := goodIn_r _ [8, 9, 10, 11, 12, 13, 14, 15, 16, 17, 18, 19, 20, 21, 22] (by decide +kernel) (by decide +kernel)
theorem gqX2_bytes_X2_placeOf : GoodIn wsX2_bytes (wsV RX2 65 RX2 yX2_placeOf wsX2_placeOf) := goodIn_app (goodIn_of _ (by decide +kernel)) ggX2_bytes_X2_placeOf
theorem ggX2_count_X2_records : GoodIn wsX2_count wsX2_records := goodIn_r _ [8, 9, 10, 19, 20, 21, 22, 23, 24, 25, 26, 27, 28, 29] (by decide +kernel) (by decide +kernel)
theorem gqX2_count_X2_records : GoodIn wsX2_count (wsV RX2 58 RX2 yX2_records wsX2_records) := goodIn_app (goodIn_of _ (by decide +kernel)) ggX2_count_X2_records
theorem ggX2_count_X2_used : GoodIn wsX2_count wsX2_used := goodIn_r _ [14, 9, 10, 15, 16, 17, 7, 18, 19, 20, 21, 22, 23, 24, 25, 26, 27, 28, 29] (by decide +kernel) (by decide +kernel)
theorem gqX2_count_X2_used : GoodIn wsX2_count (wsV RX2 44 RX2 yX2_used wsX2_used) := goodIn_app (goodIn_of _ (by decide +kernel)) ggX2_count_X2_used
set_option maxRecDepth 20000 in
theorem hqL_X2_drop : GoodIn lw_tbl (wsV RL 29 RX2 yX2_drop wsX2_drop2) := goodIn_p _ [243, 247, 232, 235, 239, 251] (by decide +kernel) (by decide +kernel)
set_option maxRecDepth 20000 in
theorem hqL_X2_cut : GoodIn lw_tbl (wsV RL 34 RX2 yX2_cut wsX2_cut) := goodIn_p _ [255] (by decide +kernel) (by decide +kernel)
set_option maxRecDepth 20000 in
theorem hqL_X2_start : GoodIn lw_tbl (wsV RL 38 RX2 yX2_start wsX2_start) := goodIn_p _ [259, 247] (by decide +kernel) (by decide +kernel)
set_option maxRecDepth 20000 in
theorem hqL_X2_record : GoodIn lw_tbl (wsV RL 43 RX2 yX2_record wsX2_record) := goodIn_p _ [263, 267] (by decide +kernel) (by decide +kernel)
set_option maxRecDepth 20000 in
theorem hqL_X2_bytes : GoodIn lw_tbl (wsV RL 48 RX2 yX2_bytes wsX2_bytes) := goodIn_p _ [271, 267] (by decide +kernel) (by decide +kernel)
set_option maxRecDepth 20000 in
theorem hqL_X2_count : GoodIn lw_tbl (wsV RL 52 RX2 yX2_count wsX2_count) := goodIn_p _ [276, 247, 232, 235] (by decide +kernel) (by decide +kernel)
end
section
/-! THE STATE IN NUMBERS: sums, sectors, the entries that are kept; what the class's ring and the reference's rows hold of them -/
def js (f : Nat → Nat) : Nat → Nat
  | 0 => 0
  | n + 1 => js f n + f n
theorem js_step (f : Nat → Nat) (n : Nat) : js f (n + 1) = js f n + f n := rfl
theorem js_congr {f g : Nat → Nat} (n : Nat) (h : ∀ j, j < n → f j = g j) : js f n = js g n := by
  induction n with
  | zero => rfl
  | succ n ih => rw [js_step, js_step, ih (fun j hj => h j (by omega)), h n (by omega)]
theorem js_add (f : Nat → Nat) (a b : Nat) : js f (b + a) = js f a + js (fun j => f (j + a)) b := by
  induction b with
  | zero => simp [js]
  | succ b ih =>
    rw [show b + 1 + a = (b + a) + 1 by omega, js_step, ih, js_step]
    omega
theorem js_mono (f : Nat → Nat) {a b : Nat} (h : a ≤ b) : js f a ≤ js f b := by
  obtain ⟨d, rfl⟩ : ∃ d, b = d + a := ⟨b - a, by omega⟩
  rw [js_add]
  omega
theorem js_ge {f : Nat → Nat} (hf : ∀ j, 1 ≤ f j) (n : Nat) : n ≤ js f n := by
  induction n with
  | zero => exact Nat.zero_le _
  | succ n ih =>
    have := hf n
    rw [js_step]
    omega
/-- the sectors of a record of n bytes -/
def jsc (n : Nat) : Nat := if n ≤ 12 then 1 else (n + 11) / 12
theorem jsc_pos (n : Nat) : 1 ≤ jsc n := by unfold jsc; split <;> omega
theorem jsc_cap (n : Nat) : n ≤ 12 * jsc n := by unfold jsc; split <;> omega
theorem jsc_le {n : Nat} (h : n ≤ 100) : jsc n ≤ 9 := by unfold jsc; split <;> omega
/-- the sectors of entry j -/
def jse (r : Nat → Bool) (z : Nat → Nat) (j : Nat) : Nat := if r j = true then jsc (z j) else 1
theorem jse_pos (r : Nat → Bool) (z : Nat → Nat) (j : Nat) : 1 ≤ jse r z j := by
  unfold jse
  split
  · exact jsc_pos _
  · omega
theorem jse_t {r : Nat → Bool} {z : Nat → Nat} {j : Nat} (h : r j = true) : jse r z j = jsc (z j) := if_pos h
theorem jse_f {r : Nat → Bool} {z : Nat → Nat} {j : Nat} (h : r j = false) : jse r z j = 1 := by simp [jse, h]
/-- 1 for a record, 0 for a drop -/
def jcn (r : Nat → Bool) (j : Nat) : Nat := if r j = true then 1 else 0
theorem jcn_t {r : Nat → Bool} {j : Nat} (h : r j = true) : jcn r j = 1 := if_pos h
theorem jcn_f {r : Nat → Bool} {j : Nat} (h : r j = false) : jcn r j = 0 := by simp [jcn, h]
theorem jcn_le (r : Nat → Bool) (j : Nat) : jcn r j ≤ 1 := by unfold jcn; split <;> omega
theorem jct_le (r : Nat → Bool) (n : Nat) : js (jcn r) n ≤ n := by
  induction n with
  | zero => exact Nat.le_refl _
  | succ n ih =>
    have := jcn_le r n
    rw [js_step]
    omega
theorem jct_inj {r : Nat → Bool} {a b : Nat} (ha : r a = true) (hb : r b = true) (h : js (jcn r) a = js (jcn r) b) : a = b := by
  have h1 := jcn_t ha
  have h2 := jcn_t hb
  rcases Nat.lt_trichotomy a b with q | q | q
  · have h3 := js_mono (jcn r) (show a + 1 ≤ b from q)
    rw [js_step] at h3
    omega
  · exact q
  · have h3 := js_mono (jcn r) (show b + 1 ≤ a from q)
    rw [js_step] at h3
    omega
def jbi (b : Bool) : Int32 := if b = true then 1 else 0
theorem jbi_t : jbi true = 1 := rfl
theorem jbi_f : jbi false = 0 := rfl
theorem jbi_01 (b : Bool) : jbi b = 0 ∨ jbi b = 1 := by cases b <;> simp [jbi]
theorem jbi_0 {b : Bool} : jbi b = 0 ↔ b = false := by cases b <;> simp [jbi]
theorem jbi_n0 {b : Bool} : ¬ jbi b = 0 ↔ b = true := by cases b <;> simp [jbi]
/-- what the ring holds: from sector old on, us sectors, pr records; dk the disk, L the lengths, N the numbers; k entries: r which are records, z their bytes, u their numbers, y their bytes -/
def jR (old us pr : Nat) (dk L N : Nat → Int32) (k : Nat) (r : Nat → Bool) (z : Nat → Nat) (u : Nat → Int32) (y : Nat → Nat → Int32) : Prop :=
  old < 40 ∧ us = js (jse r z) k ∧ us ≤ 40 ∧ pr = js (jcn r) k ∧ (∀ j, j < k → z j ≤ 100) ∧
  (∀ j, j < k → L ((old + js (jse r z) j) % 40) = if r j = true then nI (z j) else -1) ∧
  (∀ j, j < k → r j = true → N ((old + js (jse r z) j) % 40) = u j) ∧
  (∀ j i, j < k → r j = true → i < z j → dk ((12 * ((old + js (jse r z) j) % 40) + i) % 480) &&& 255 = y j i)
theorem jR_in {old us pr : Nat} {dk L N : Nat → Int32} {k : Nat} {r : Nat → Bool} {z : Nat → Nat} {u : Nat → Int32} {y : Nat → Nat → Int32} (h : jR old us pr dk L N k r z u y) {j : Nat} (hj : j < k) : js (jse r z) j + jse r z j ≤ us := by
  rw [h.2.1, ← js_step]
  exact js_mono _ hj
theorem jR_k {old us pr : Nat} {dk L N : Nat → Int32} {k : Nat} {r : Nat → Bool} {z : Nat → Nat} {u : Nat → Int32} {y : Nat → Nat → Int32} (h : jR old us pr dk L N k r z u y) : k ≤ us := by
  rw [h.2.1]
  exact js_ge (jse_pos r z) k
theorem jR_pr {old us pr : Nat} {dk L N : Nat → Int32} {k : Nat} {r : Nat → Bool} {z : Nat → Nat} {u : Nat → Int32} {y : Nat → Nat → Int32} (h : jR old us pr dk L N k r z u y) : pr ≤ 40 := by
  have h1 := jR_k h
  have h2 := jct_le r k
  have h3 := h.2.2.1
  have h4 := h.2.2.2.1
  omega
theorem jR_add {old us pr : Nat} {dk L N : Nat → Int32} {k : Nat} {r : Nat → Bool} {z : Nat → Nat} {u : Nat → Int32} {y : Nat → Nat → Int32} (h : jR old us pr dk L N k r z u y) {len s : Nat} {num : Int32} {dk' tp t : Nat → Int32} (hlen : len ≤ 100) (hfit : us + jsc len ≤ 40) (hs : s = (old + us) % 40)
    (hd1 : ∀ i, i < len → dk' ((12 * s + i) % 480) = tp i) (hd2 : ∀ q, q < 480 → (∀ i, i < len → q ≠ (12 * s + i) % 480) → dk' q = dk q) (ht : ∀ i, i < len → tp i &&& 255 = t i) :
    jR old (us + jsc len) (pr + 1) dk' (upd L s (nI len)) (upd N s num) (k + 1) (va_up r k true) (va_up z k len) (va_up u k num) (va_up y k t) := by
  have hin := fun j (hj : j < k) => jR_in h hj
  obtain ⟨h1, h2, h3, h4, h5, h6, h7, h8⟩ := h
  have es : ∀ j, j ≤ k → js (jse (va_up r k true) (va_up z k len)) j = js (jse r z) j := fun j hj => js_congr j (fun i hi => by
    unfold jse
    rw [va_up_ne r true (show i ≠ k by omega), va_up_ne z len (show i ≠ k by omega)])
  have ec : ∀ j, j ≤ k → js (jcn (va_up r k true)) j = js (jcn r) j := fun j hj => js_congr j (fun i hi => by
    unfold jcn
    rw [va_up_ne r true (show i ≠ k by omega)])
  have ek : jse (va_up r k true) (va_up z k len) k = jsc len := by
    rw [jse_t (va_up_self r k true), va_up_self]
  have hp := jse_pos r z
  have hc := jsc_cap len
  refine ⟨h1, ?_, hfit, ?_, ?_, ?_, ?_, ?_⟩
  · rw [js_step, es k (Nat.le_refl k), ek, ← h2]
  · rw [js_step, ec k (Nat.le_refl k), jcn_t (va_up_self r k true), h4]
  · intro j hj
    by_cases e : j = k
    · rw [e, va_up_self]
      exact hlen
    · rw [va_up_ne z len e]
      exact h5 j (by omega)
  · intro j hj
    by_cases e : j = k
    · rw [e, es k (Nat.le_refl k), ← h2, ← hs, pk_us, va_up_self, va_up_self, if_pos rfl]
    · have hj' : j < k := by omega
      have a1 := hin j hj'
      have a2 := hp j
      have a3 := jsc_pos len
      rw [es j (by omega), pk_un (by omega), va_up_ne r true e, va_up_ne z len e]
      exact h6 j hj'
  · intro j hj hr
    by_cases e : j = k
    · rw [e, es k (Nat.le_refl k), ← h2, ← hs, pk_us, va_up_self]
    · have hj' : j < k := by omega
      have a1 := hin j hj'
      have a2 := hp j
      have a3 := jsc_pos len
      rw [va_up_ne r true e] at hr
      rw [es j (by omega), pk_un (by omega), va_up_ne u num e]
      exact h7 j hj' hr
  · intro j i hj hr hi
    by_cases e : j = k
    · rw [e, va_up_self] at hi
      rw [e, es k (Nat.le_refl k), ← h2, ← hs, va_up_self, hd1 i hi]
      exact ht i hi
    · have hj' : j < k := by omega
      have a1 := hin j hj'
      rw [va_up_ne r true e] at hr
      rw [va_up_ne z len e] at hi
      have a2 := jsc_cap (z j)
      rw [jse_t hr] at a1
      rw [es j (by omega), va_up_ne y t e, hd2 _ (Nat.mod_lt _ (by decide)) (fun i' hi' => by omega)]
      exact h8 j i hj' hr hi
theorem jR_drp {old us pr : Nat} {dk L N : Nat → Int32} {k : Nat} {r : Nat → Bool} {z : Nat → Nat} {u : Nat → Int32} {y : Nat → Nat → Int32} (h : jR old us pr dk L N k r z u y) {s : Nat} (hfit : us + 1 ≤ 40) (hs : s = (old + us) % 40) :
    jR old (us + 1) pr dk (upd L s (-1)) N (k + 1) (va_up r k false) (va_up z k 0) u y := by
  have hin := fun j (hj : j < k) => jR_in h hj
  obtain ⟨h1, h2, h3, h4, h5, h6, h7, h8⟩ := h
  have es : ∀ j, j ≤ k → js (jse (va_up r k false) (va_up z k 0)) j = js (jse r z) j := fun j hj => js_congr j (fun i hi => by
    unfold jse
    rw [va_up_ne r false (show i ≠ k by omega), va_up_ne z 0 (show i ≠ k by omega)])
  have ec : ∀ j, j ≤ k → js (jcn (va_up r k false)) j = js (jcn r) j := fun j hj => js_congr j (fun i hi => by
    unfold jcn
    rw [va_up_ne r false (show i ≠ k by omega)])
  have ek : jse (va_up r k false) (va_up z k 0) k = 1 := jse_f (va_up_self r k false)
  have hp := jse_pos r z
  refine ⟨h1, ?_, hfit, ?_, ?_, ?_, ?_, ?_⟩
  · rw [js_step, es k (Nat.le_refl k), ek, ← h2]
  · rw [js_step, ec k (Nat.le_refl k), jcn_f (va_up_self r k false), h4]
    rfl
  · intro j hj
    by_cases e : j = k
    · rw [e, va_up_self]
      omega
    · rw [va_up_ne z 0 e]
      exact h5 j (by omega)
  · intro j hj
    by_cases e : j = k
    · rw [e, es k (Nat.le_refl k), ← h2, ← hs, pk_us, va_up_self]
      simp
    · have hj' : j < k := by omega
      have a1 := hin j hj'
      have a2 := hp j
      rw [es j (by omega), pk_un (by omega), va_up_ne r false e, va_up_ne z 0 e]
      exact h6 j hj'
  · intro j hj hr
    by_cases e : j = k
    · rw [e, va_up_self] at hr
      exact absurd hr (by decide)
    · rw [va_up_ne r false e] at hr
      rw [es j (by omega)]
      exact h7 j (by omega) hr
  · intro j i hj hr hi
    by_cases e : j = k
    · rw [e, va_up_self] at hr
      exact absurd hr (by decide)
    · rw [va_up_ne r false e] at hr
      rw [va_up_ne z 0 e] at hi
      rw [es j (by omega)]
      exact h8 j i (by omega) hr hi
theorem jR_cut {old us pr : Nat} {dk L N : Nat → Int32} {k : Nat} {r : Nat → Bool} {z : Nat → Nat} {u : Nat → Int32} {y : Nat → Nat → Int32} (h : jR old us pr dk L N k r z u y) {f : Nat} (hf : f ≤ k) :
    jR ((old + js (jse r z) f) % 40) (us - js (jse r z) f) (pr - js (jcn r) f) dk L N (k - f) (fun j => r (j + f)) (fun j => z (j + f)) (fun j => u (j + f)) (fun j => y (j + f)) := by
  obtain ⟨h1, h2, h3, h4, h5, h6, h7, h8⟩ := h
  have e : ∀ j, js (jse (fun j => r (j + f)) (fun j => z (j + f))) j = js (jse r z) (j + f) - js (jse r z) f := fun j => by
    rw [js_add (jse r z) f j]
    show js (fun i => jse r z (i + f)) j = _
    omega
  have ec : ∀ j, js (jcn (fun j => r (j + f))) j = js (jcn r) (j + f) - js (jcn r) f := fun j => by
    rw [js_add (jcn r) f j]
    show js (fun i => jcn r (i + f)) j = _
    omega
  have m : ∀ j, js (jse r z) f ≤ js (jse r z) (j + f) := fun j => js_mono _ (by omega)
  have hkf : k - f + f = k := by omega
  have ep : ∀ j, ((old + js (jse r z) f) % 40 + (js (jse r z) (j + f) - js (jse r z) f)) % 40 = (old + js (jse r z) (j + f)) % 40 := fun j => by
    have := m j
    omega
  refine ⟨Nat.mod_lt _ (by decide), ?_, ?_, ?_, ?_, ?_, ?_, ?_⟩
  · rw [e, hkf, h2]
  · omega
  · rw [ec, hkf, h4]
  · intro j hj
    exact h5 (j + f) (by omega)
  · intro j hj
    rw [e, ep]
    exact h6 (j + f) (by omega)
  · intro j hj hr
    rw [e, ep]
    exact h7 (j + f) (by omega) hr
  · intro j i hj hr hi
    rw [e, ep]
    exact h8 (j + f) i (by omega) hr hi
/-- what the reference's rows hold: fB which are records, fZ the sizes, fN the numbers, fY the bytes, 100 an entry -/
def jE (fB fZ fN fY : Nat → Int32) (k : Nat) (r : Nat → Bool) (z : Nat → Nat) (u : Nat → Int32) (y : Nat → Nat → Int32) : Prop :=
  (∀ j, j < k → fB j = jbi (r j)) ∧ (∀ j, j < k → fZ j = nI (z j)) ∧ (∀ j, j < k → r j = true → fN j = u j) ∧ ∀ j i, j < k → i < z j → fY (100 * j + i) = y j i
/-- the smallest place below n where P holds, or d -/
def jfs (P : Nat → Bool) (d : Nat) : Nat → Nat
  | 0 => d
  | n + 1 => jfs P (if P n = true then n else d) n
theorem jfs_none {P : Nat → Bool} {d : Nat} (n : Nat) (h : ∀ g, g < n → P g = false) : jfs P d n = d := by
  induction n with
  | zero => rfl
  | succ n ih =>
    show jfs P (if P n = true then n else d) n = d
    rw [h n (by omega)]
    exact ih (fun g hg => h g (by omega))
theorem jfs_some {P : Nat → Bool} {f : Nat} (hf : P f = true) (h : ∀ g, g < f → P g = false) (n : Nat) (hn : f < n) (d : Nat) : jfs P d n = f := by
  induction n generalizing d with
  | zero => omega
  | succ n ih =>
    show jfs P (if P n = true then n else d) n = f
    by_cases e : n = f
    · rw [e, if_pos hf]
      exact jfs_none f h
    · exact ih (by omega) _
theorem jfs_le {P : Nat → Bool} (n : Nat) {d b : Nat} (hd : d ≤ b) (hn : n ≤ b + 1) : jfs P d n ≤ b := by
  induction n generalizing d with
  | zero => exact hd
  | succ n ih =>
    show jfs P (if P n = true then n else d) n ≤ b
    refine ih ?_ (by omega)
    split <;> omega
/-- entry g is a record, and at least many are ahead of it -/
def jPd (r : Nat → Bool) (many : Nat) (g : Nat) : Bool := r g && decide (many ≤ js (jcn r) g)
theorem jPd_t {r : Nat → Bool} {many g : Nat} (h : r g = true) (h2 : many ≤ js (jcn r) g) : jPd r many g = true := by simp [jPd, h, h2]
theorem jPd_r {r : Nat → Bool} {many g : Nat} (h : r g = false) : jPd r many g = false := by simp [jPd, h]
theorem jPd_m {r : Nat → Bool} {many g : Nat} (h : js (jcn r) g < many) : jPd r many g = false := by
  simp only [jPd, Bool.and_eq_false_iff, decide_eq_false_iff_not]
  right
  omega
/-- eight bytes, the first one highest -/
def je8 (g : Nat → Int32) : Nat → Int64
  | 0 => 0
  | b + 1 => (je8 g b <<< ((nI 8).toInt64 &&& 63)) ||| (g b).toInt64
theorem je8_congr {f g : Nat → Int32} (n : Nat) (h : ∀ j, j < n → f j = g j) : je8 f n = je8 g n := by
  induction n with
  | zero => rfl
  | succ n ih =>
    show (je8 f n <<< _) ||| (f n).toInt64 = (je8 g n <<< _) ||| (g n).toInt64
    rw [ih (fun j hj => h j (by omega)), h n (by omega)]
theorem je8_0 (n : Nat) : je8 (fun _ => 0) n = 0 := by
  induction n with
  | zero => rfl
  | succ n ih =>
    show (je8 (fun _ => 0) n <<< ((nI 8).toInt64 &&& 63)) ||| (0 : Int32).toInt64 = 0
    rw [ih]
    decide +kernel
/-- byte k of v, 0 the lowest, as the reference has it -/
def jby (v : Int64) (k : Nat) : Int32 := (v >>> ((nI (8 * k)).toInt64 &&& 63)).toInt32 &&& 255
/-! SHORT ROWS OVER THE KIT: a method's start, its ends, its calls, arrays by a place in Nat -/
abbrev j_pre (D : va_G) (tys : List (ClassId × FieldType)) (wc : va_W) (sz : Nat) (U : State) : Prop := U.heap.size = sz ∧ va_P D vwCl wc U.heap ∧ va_K D vwCl tys U ∧ va_D (fun _ => True) wc
abbrev j_post {S : Type} (D : va_G) (tys : List (ClassId × FieldType)) (wf : S → va_W) (A : Nat → Prop) (u : S) (t : State) : Prop := va_P D vwCl (wf u) t.heap ∧ va_K D vwCl tys t ∧ va_D A (wf u)
section JK
variable {p : Program} {l : Launch} {e : Env} {R : Room} {s : State} {m : MethodId} {args : Array Value} {below : List Frame} {meth : Method} {c : Code} {H : Heap} {locs : List Loc} {cells slots : Nat} {Q : State → Prop}
variable {cc : ByteArray} {pc : Nat} {ls : Array Slot} {rest : List Value} {D : va_G} {A : Nat → Prop} {tys : List (ClassId × FieldType)} {ws : va_W} {H0 : Heap}
theorem jt_i {x y : Int32} (h : x = y) (k : W p l e R s m args below meth c H locs cells slots Q (F0 m pc ls (.int y :: rest))) : W p l e R s m args below meth c H locs cells slots Q (F0 m pc ls (.int x :: rest)) := by
  subst h
  exact k
theorem jt_l {x y : Int64} (h : x = y) (k : W p l e R s m args below meth c H locs cells slots Q (F0 m pc ls (.long y :: rest))) : W p l e R s m args below meth c H locs cells slots Q (F0 m pc ls (.long x :: rest)) := by
  subst h
  exact k
theorem j_in {y : MethodName} {ws0 ws0' : List Cond} {rm : Room} {Qc : (Nat → Prop) → Array Value → State → Outcome → State → Prop} {mc ms maxL : Nat} {ret : Option FieldType} {av : List Value} {wc : va_W} {sz : Nat}
    (hy : plainName y.cls = true) (hw : ws0 = Cond.code y cc maxL ret :: ws0') (hlen : (lg_sl av).length ≤ maxL)
    (body : ∀ (p : Program) (e : Env) (s : State) (m : MethodId) (av' : Array Value) (below : List Frame) (meth : Method) (c : Code) (A : Nat → Prop) (ls : Array Slot) (H : Heap) (locs : List Loc), p.tables.exec = Jvm.exec → c.code = cc → meth.sig.returnType = ret → c.maxLocals = maxL → (∀ w ∈ ws0, w.before av' s = true) → s.vm.findClass y.cls = some m.cls → meth.locks = false → meth.name = y.name →
      (∀ q, s.heap.size ≤ q → A q) → va_P D vwCl wc H → va_K D vwCl tys s → va_D A wc → va_S A s.heap H locs → lv_has ls maxL (lv_args 0 av) → W p l e rm s m av' below meth c H locs 0 0 (MQ below (Qc A) av' s mc ms A) (F0 m 0 ls [])) :
    Met l y ws0 rm (va_Pc av (j_pre D tys wc sz)) (Qc (va_A wc sz)) mc ms (va_A wc sz) := by
  refine Met.ofW hy hw ?_
  intro p e s m args below meth c s₁ B hml hv
  obtain ⟨rfl, hsz, hP, hK, hD0⟩ := hv
  have hl := lv_entry av (n := maxL) hlen
  rw [lg_entry_eq]
  exact body p e s m _ below meth c (va_A wc sz) _ s.heap [] B.exec B.bytes B.returns hml (atoms_spec (ws := ws0) B.pre) (findClass_of_methodNamed B.named) B.notSynchronized (name_of_methodNamed B.named B.method).1 (fun q h => Or.inr (by omega)) hP hK hD0.self va_S.rf hl
theorem j_inF {y : MethodName} {ws0 ws0' : List Cond} {rm : Room} {Qc : (Nat → Prop) → Array Value → State → Outcome → State → Prop} {mc ms maxL : Nat} {ret : Option FieldType} {av : List Value} {wc : va_W} {sz : Nat}
    (hy : plainFor y = true) (hw : ws0 = Cond.code y cc maxL ret :: ws0') (hlen : (lg_sl av).length ≤ maxL)
    (body : ∀ (p : Program) (e : Env) (s : State) (m : MethodId) (av' : Array Value) (below : List Frame) (meth : Method) (c : Code) (A : Nat → Prop) (ls : Array Slot) (H : Heap) (locs : List Loc), p.tables.exec = Jvm.exec → c.code = cc → meth.sig.returnType = ret → c.maxLocals = maxL → (∀ w ∈ ws0, w.before av' s = true) → s.vm.findClass y.cls = some m.cls → meth.locks = false → meth.name = y.name →
      (∀ q, s.heap.size ≤ q → A q) → va_P D vwCl wc H → va_K D vwCl tys s → va_D A wc → va_S A s.heap H locs → lv_has ls maxL (lv_args 0 av) → W p l e rm s m av' below meth c H locs 0 0 (MQ below (Qc A) av' s mc ms A) (F0 m 0 ls [])) :
    Met l y ws0 rm (va_Pc av (j_pre D tys wc sz)) (Qc (va_A wc sz)) mc ms (va_A wc sz) := by
  refine va_MetF hy hw ?_
  intro p e s m args below meth c s₁ B hml hv
  obtain ⟨rfl, hsz, hP, hK, hD0⟩ := hv
  have hl := lv_entry av (n := maxL) hlen
  rw [lg_entry_eq]
  exact body p e s m _ below meth c (va_A wc sz) _ s.heap [] B.exec B.bytes B.returns hml (atoms_spec (ws := ws0) B.pre) (findClass_of_methodNamed B.named) B.notSynchronized (name_of_methodNamed B.named B.method).1 (fun q h => Or.inr (by omega)) hP hK hD0.self va_S.rf hl
theorem j_iret {S : Type} {post : Int32 → S → Prop} {wf : S → va_W} {v : Int32} (u : S) (hx : p.tables.exec = Jvm.exec) (hb : c.code = cc) (hr : meth.sig.returnType = some .int) (hlocks : meth.locks = false) (hK : va_K D vwCl tys s) (hP : va_P D vwCl (wf u) H) (hD : va_D A (wf u)) (hS : va_S A s.heap H locs) (hpost : post v u) (hdg : decode cc pc = .ok (.ireturn, 1)) :
    W p l e R s m args below meth c H locs cells slots (MQ below (va_Qi post (j_post D tys wf A) A) args s cells slots A) (F0 m pc ls [.int v]) :=
  W.iret hx hb hr (fun t ht hW => ⟨⟨v, u, rfl, hpost, by rw [ht]; exact hP, va_K.moved hW.alike hK, hD⟩, hS.F ht⟩) hS.2.2 hdg hlocks
theorem j_zret {S : Type} {post : Int32 → S → Prop} {wf : S → va_W} {v : Int32} (u : S) (hx : p.tables.exec = Jvm.exec) (hb : c.code = cc) (hr : meth.sig.returnType = some .boolean) (hlocks : meth.locks = false) (hK : va_K D vwCl tys s) (hP : va_P D vwCl (wf u) H) (hD : va_D A (wf u)) (hS : va_S A s.heap H locs) (hv : v = 0 ∨ v = 1) (hpost : post v u) (hdg : decode cc pc = .ok (.ireturn, 1)) :
    W p l e R s m args below meth c H locs cells slots (MQ below (va_Qi post (j_post D tys wf A) A) args s cells slots A) (F0 m pc ls [.int v]) :=
  W.zret (ty := .boolean) hx hb hr (by rcases hv with rfl | rfl <;> rfl) (fun t ht hW => ⟨⟨v, u, rfl, hpost, by rw [ht]; exact hP, va_K.moved hW.alike hK, hD⟩, hS.F ht⟩) hS.2.2 hdg hlocks
theorem j_lret {S : Type} {post : Int64 → S → Prop} {wf : S → va_W} {v : Int64} (u : S) (hx : p.tables.exec = Jvm.exec) (hb : c.code = cc) (hr : meth.sig.returnType = some .long) (hlocks : meth.locks = false) (hK : va_K D vwCl tys s) (hP : va_P D vwCl (wf u) H) (hD : va_D A (wf u)) (hS : va_S A s.heap H locs) (hpost : post v u) (hdg : decode cc pc = .ok (.lreturn, 1)) :
    W p l e R s m args below meth c H locs cells slots (MQ below (va_Ql post (j_post D tys wf A) A) args s cells slots A) (F0 m pc ls [.long v]) :=
  W.lret hx hb hr (fun t ht hW => ⟨⟨v, u, rfl, hpost, by rw [ht]; exact hP, va_K.moved hW.alike hK, hD⟩, hS.F ht⟩) hS.2.2 hdg hlocks
theorem j_vret {S : Type} {post : S → Prop} {wf : S → va_W} (u : S) (hx : p.tables.exec = Jvm.exec) (hb : c.code = cc) (hr : meth.sig.returnType = none) (hlocks : meth.locks = false) (hK : va_K D vwCl tys s) (hP : va_P D vwCl (wf u) H) (hD : va_D A (wf u)) (hS : va_S A s.heap H locs) (hpost : post u) (hdg : decode cc pc = .ok (.return_, 1)) :
    W p l e R s m args below meth c H locs cells slots (MQ below (va_Qv post (j_post D tys wf A) A) args s cells slots A) (F0 m pc ls []) :=
  W.vret hx hb hr (fun t ht hW => ⟨⟨u, rfl, hpost, by rw [ht]; exact hP, va_K.moved hW.alike hK, hD⟩, hS.F ht⟩) hS.2.2 hdg hlocks
theorem j_preS {wc : va_W} {tysC : List (ClassId × FieldType)} {As : List Value} (isC isT : List Nat) (hK : va_K D vwCl tys s) (hP : va_P D vwCl ws H) (hD : va_D A ws) (hC : isC.map (fun i => ws[i]?) = wc.map some) (hF : isC.filterMap (fun i => ws[i]?) = wc) (hn : va_nd isC = true) (hT : isT.filterMap (fun i => tys[i]?) = tysC) :
    PreS s H (va_Pc As (j_pre D tysC wc H.size)) As := by
  have hPc : va_P D vwCl wc H := hP.sub isC hF
  have hDc : va_D A wc := hD.sub isC hn hC
  have hKc : va_K D vwCl tysC s := hK.sub isT hT
  refine ⟨fun a U g mk q => ?_, fun U hU hW => ⟨rfl, by rw [hU], by rw [hU]; exact hPc, va_K.moved hW.alike hKc, hDc.weaken (fun _ _ _ _ => trivial)⟩⟩
  obtain ⟨q0, q1, qP, qK, qD⟩ := q
  exact ⟨q0, q1, qP, va_K.moved (u := U) (U := U.calling g mk a) (Vm.Alike.refl U.vm) qK, qD⟩
theorem j_preV {wc : va_W} {tysC : List (ClassId × FieldType)} {b ci q0 : Nat} {fs : List Value} {C : String} {T : u_T} {N : Nat} {As : List Value} (isC isT : List Nat) (hK : va_K D vwCl tys s) (hP : va_P D vwCl ws H) (hD : va_D A ws) (hC : isC.map (fun i => ws[i]?) = wc.map some) (hF : isC.filterMap (fun i => ws[i]?) = wc) (hn : va_nd isC = true) (hT : isT.filterMap (fun i => tys[i]?) = tysC) (hc : vwCl[ci]? = some (C, T, N)) (he : wc[q0]? = some (b, .inr (ci, fs))) :
    PreV s H C b (va_Pc (.ref b :: As) (j_pre D tysC wc H.size)) As := by
  have h := j_preS (As := .ref b :: As) isC isT hK hP hD hC hF hn hT
  exact ⟨h.1, va_recv (hK.sub isT hT) (hP.sub isC hF) hc he, h.2⟩
variable {A0 : Nat → Prop} {st0 : List Value} {a : Array Value} {mc ms : Nat} {tys1 : List (ClassId × FieldType)} {wc wr : va_W}
theorem j_calli {S : Type} {post : Int32 → S → Prop} {wf : S → va_W} (hP : va_P D vwCl ws H) (hD : va_D A0 ws) (hS : va_S A0 H0 H locs) (hA : ∀ q, H0.size ≤ q → A0 q) (isC isR : List Nat) (hC : isC.map (fun i => ws[i]?) = wc.map some) (hR : isR.map (fun i => ws[i]?) = wr.map some) (hn : va_nd isR = true) (hdis : ∀ i ∈ isR, i ∉ isC)
    (hr : va_Run p l e R s m args below meth c H locs cells slots mc ms (F0 m pc ls st0) rest (va_Qi post (j_post D tys1 wf (va_A wc H.size)) (va_A wc H.size) a) (va_A wc H.size))
    (kk : ∀ (r : Int32) (u : S) (H1 : Heap) (locs1 : List Loc), post r u → va_P D vwCl (wr ++ wf u) H1 → va_D A0 (wr ++ wf u) → va_S A0 H0 H1 locs1 → W p l e R s m args below meth c H1 locs1 (cells + mc) (slots + ms) Q (F0 m (pc + 3) ls (.int r :: rest))) : W p l e R s m args below meth c H locs cells slots Q (F0 m pc ls st0) := by
  have hFc := va_free (wc := wc) hD hS hA isC hC
  refine va_calli hr hS (fun q _ h => hFc q h) hFc (fun r u t H1 locs1 ht hvm hw hB hz1 hk1 hS1 => ?_)
  obtain ⟨hP1, hK1, hD1⟩ := hB
  rw [ht] at hP1
  obtain ⟨hP2, hD2⟩ := va_join (wr := wr) (w1 := wf u) hP hD isC isR hC hR hn hdis hk1 hFc hP1 hD1
  exact kk r u H1 locs1 hw hP2 hD2 hS1
theorem j_calll {S : Type} {post : Int64 → S → Prop} {wf : S → va_W} (hP : va_P D vwCl ws H) (hD : va_D A0 ws) (hS : va_S A0 H0 H locs) (hA : ∀ q, H0.size ≤ q → A0 q) (isC isR : List Nat) (hC : isC.map (fun i => ws[i]?) = wc.map some) (hR : isR.map (fun i => ws[i]?) = wr.map some) (hn : va_nd isR = true) (hdis : ∀ i ∈ isR, i ∉ isC)
    (hr : va_Run p l e R s m args below meth c H locs cells slots mc ms (F0 m pc ls st0) rest (va_Ql post (j_post D tys1 wf (va_A wc H.size)) (va_A wc H.size) a) (va_A wc H.size))
    (kk : ∀ (r : Int64) (u : S) (H1 : Heap) (locs1 : List Loc), post r u → va_P D vwCl (wr ++ wf u) H1 → va_D A0 (wr ++ wf u) → va_S A0 H0 H1 locs1 → W p l e R s m args below meth c H1 locs1 (cells + mc) (slots + ms) Q (F0 m (pc + 3) ls (.long r :: rest))) : W p l e R s m args below meth c H locs cells slots Q (F0 m pc ls st0) := by
  have hFc := va_free (wc := wc) hD hS hA isC hC
  refine va_calll hr hS (fun q _ h => hFc q h) hFc (fun r u t H1 locs1 ht hvm hw hB hz1 hk1 hS1 => ?_)
  obtain ⟨hP1, hK1, hD1⟩ := hB
  rw [ht] at hP1
  obtain ⟨hP2, hD2⟩ := va_join (wr := wr) (w1 := wf u) hP hD isC isR hC hR hn hdis hk1 hFc hP1 hD1
  exact kk r u H1 locs1 hw hP2 hD2 hS1
theorem j_callv {S : Type} {post : S → Prop} {wf : S → va_W} (hP : va_P D vwCl ws H) (hD : va_D A0 ws) (hS : va_S A0 H0 H locs) (hA : ∀ q, H0.size ≤ q → A0 q) (isC isR : List Nat) (hC : isC.map (fun i => ws[i]?) = wc.map some) (hR : isR.map (fun i => ws[i]?) = wr.map some) (hn : va_nd isR = true) (hdis : ∀ i ∈ isR, i ∉ isC)
    (hr : va_Run p l e R s m args below meth c H locs cells slots mc ms (F0 m pc ls st0) rest (va_Qv post (j_post D tys1 wf (va_A wc H.size)) (va_A wc H.size) a) (va_A wc H.size))
    (kk : ∀ (u : S) (H1 : Heap) (locs1 : List Loc), post u → va_P D vwCl (wr ++ wf u) H1 → va_D A0 (wr ++ wf u) → va_S A0 H0 H1 locs1 → W p l e R s m args below meth c H1 locs1 (cells + mc) (slots + ms) Q (F0 m (pc + 3) ls rest)) : W p l e R s m args below meth c H locs cells slots Q (F0 m pc ls st0) := by
  have hFc := va_free (wc := wc) hD hS hA isC hC
  refine va_callv hr hS (fun q _ h => hFc q h) hFc (fun u t H1 locs1 ht hvm hw hB hz1 hk1 hS1 => ?_)
  obtain ⟨hP1, hK1, hD1⟩ := hB
  rw [ht] at hP1
  obtain ⟨hP2, hD2⟩ := va_join (wr := wr) (w1 := wf u) hP hD isC isR hC hR hn hdis hk1 hFc hP1 hD1
  exact kk u H1 locs1 hw hP2 hD2 hS1
theorem j_iald (hx : p.tables.exec = Jvm.exec) (hb : c.code = cc) (hK : va_K D vwCl tys s) (hP : va_P D vwCl ws H) (q0 t0 : Nat) {a : Nat} {cA : ClassId} {n : Nat} {f : Nat → Int32} (ha : ws[q0]? = some (a, .inl (cA, n, .inl f))) (ht : tys[t0]? = some (cA, .int)) {i : Nat} (hi : i < n) (hn : n < 2 ^ 31) {v : Int32} (hv : f i = v) (hdg : decode cc pc = .ok (.iaload, 1))
    (kk : W p l e R s m args below meth c H locs cells slots Q (F0 m (pc + 1) ls (.int v :: rest))) : W p l e R s m args below meth c H locs cells slots Q (F0 m pc ls (.int (nI i) :: .ref a :: rest)) := by
  subst hv
  refine va_iald hx hb hK hP q0 t0 ha ht (vp_in_nI hi hn) hdg ?_
  rw [nI_clamp (Nat.lt_trans hi hn)]
  exact kk
theorem j_bald (hx : p.tables.exec = Jvm.exec) (hb : c.code = cc) (hK : va_K D vwCl tys s) (hP : va_P D vwCl ws H) (q0 t0 : Nat) {a : Nat} {cA : ClassId} {n : Nat} {f : Nat → Int32} (ha : ws[q0]? = some (a, .inl (cA, n, .inl f))) (ht : tys[t0]? = some (cA, .byte)) {i : Nat} (hi : i < n) (hn : n < 2 ^ 31) {v : Int32} (hv : f i = v) (hdg : decode cc pc = .ok (.baload, 1))
    (kk : W p l e R s m args below meth c H locs cells slots Q (F0 m (pc + 1) ls (.int v :: rest))) : W p l e R s m args below meth c H locs cells slots Q (F0 m pc ls (.int (nI i) :: .ref a :: rest)) := by
  subst hv
  refine va_bald hx hb hK hP q0 t0 ha ht (vp_in_nI hi hn) hdg ?_
  rw [nI_clamp (Nat.lt_trans hi hn)]
  exact kk
theorem j_zald (hx : p.tables.exec = Jvm.exec) (hb : c.code = cc) (hK : va_K D vwCl tys s) (hP : va_P D vwCl ws H) (q0 t0 : Nat) {a : Nat} {cA : ClassId} {n : Nat} {f : Nat → Int32} (ha : ws[q0]? = some (a, .inl (cA, n, .inl f))) (ht : tys[t0]? = some (cA, .boolean)) {i : Nat} (hi : i < n) (hn : n < 2 ^ 31) {v : Int32} (hv : f i = v) (hdg : decode cc pc = .ok (.baload, 1))
    (kk : W p l e R s m args below meth c H locs cells slots Q (F0 m (pc + 1) ls (.int v :: rest))) : W p l e R s m args below meth c H locs cells slots Q (F0 m pc ls (.int (nI i) :: .ref a :: rest)) := by
  subst hv
  refine va_zald hx hb hK hP q0 t0 ha ht (vp_in_nI hi hn) hdg ?_
  rw [nI_clamp (Nat.lt_trans hi hn)]
  exact kk
theorem j_iast (hx : p.tables.exec = Jvm.exec) (hb : c.code = cc) (hK : va_K D vwCl tys s) (hP : va_P D vwCl ws H) (hD : va_D A ws) (hS : va_S A H0 H locs) (q0 t0 : Nat) {a : Nat} {cA : ClassId} {n : Nat} {f : Nat → Int32} (ha : ws[q0]? = some (a, .inl (cA, n, .inl f))) (ht : tys[t0]? = some (cA, .int)) {i : Nat} {x : Int32} (hi : i < n) (hn : n < 2 ^ 31) (hdg : decode cc pc = .ok (.iastore, 1))
    (kk : ∀ (H1 : Heap) (locs1 : List Loc), va_P D vwCl (ws.set q0 (a, .inl (cA, n, .inl (upd f i x)))) H1 → va_D A (ws.set q0 (a, .inl (cA, n, .inl (upd f i x)))) → va_S A H0 H1 locs1 → W p l e R s m args below meth c H1 locs1 cells slots Q (F0 m (pc + 1) ls rest)) : W p l e R s m args below meth c H locs cells slots Q (F0 m pc ls (.int x :: .int (nI i) :: .ref a :: rest)) := by
  refine va_iast hx hb hK hP hD hS q0 t0 ha ht (vp_in_nI hi hn) hdg ?_
  rw [nI_clamp (Nat.lt_trans hi hn)]
  exact kk
theorem j_bast (hx : p.tables.exec = Jvm.exec) (hb : c.code = cc) (hK : va_K D vwCl tys s) (hP : va_P D vwCl ws H) (hD : va_D A ws) (hS : va_S A H0 H locs) (q0 t0 : Nat) {a : Nat} {cA : ClassId} {n : Nat} {f : Nat → Int32} (ha : ws[q0]? = some (a, .inl (cA, n, .inl f))) (ht : tys[t0]? = some (cA, .byte)) {i : Nat} {x y : Int32} (hi : i < n) (hn : n < 2 ^ 31) (hv : x.toInt8.toInt32 = y) (hdg : decode cc pc = .ok (.bastore, 1))
    (kk : ∀ (H1 : Heap) (locs1 : List Loc), va_P D vwCl (ws.set q0 (a, .inl (cA, n, .inl (upd f i y)))) H1 → va_D A (ws.set q0 (a, .inl (cA, n, .inl (upd f i y)))) → va_S A H0 H1 locs1 → W p l e R s m args below meth c H1 locs1 cells slots Q (F0 m (pc + 1) ls rest)) : W p l e R s m args below meth c H locs cells slots Q (F0 m pc ls (.int x :: .int (nI i) :: .ref a :: rest)) := by
  subst hv
  refine va_bast hx hb hK hP hD hS q0 t0 ha ht (vp_in_nI hi hn) hdg ?_
  rw [nI_clamp (Nat.lt_trans hi hn), vp_nar_byte]
  exact kk
theorem j_zast (hx : p.tables.exec = Jvm.exec) (hb : c.code = cc) (hK : va_K D vwCl tys s) (hP : va_P D vwCl ws H) (hD : va_D A ws) (hS : va_S A H0 H locs) (q0 t0 : Nat) {a : Nat} {cA : ClassId} {n : Nat} {f : Nat → Int32} (ha : ws[q0]? = some (a, .inl (cA, n, .inl f))) (ht : tys[t0]? = some (cA, .boolean)) {i : Nat} {x : Int32} (hi : i < n) (hn : n < 2 ^ 31) (hv : vp_nar .boolean x = x) (hdg : decode cc pc = .ok (.bastore, 1))
    (kk : ∀ (H1 : Heap) (locs1 : List Loc), va_P D vwCl (ws.set q0 (a, .inl (cA, n, .inl (upd f i x)))) H1 → va_D A (ws.set q0 (a, .inl (cA, n, .inl (upd f i x)))) → va_S A H0 H1 locs1 → W p l e R s m args below meth c H1 locs1 cells slots Q (F0 m (pc + 1) ls rest)) : W p l e R s m args below meth c H locs cells slots Q (F0 m pc ls (.int x :: .int (nI i) :: .ref a :: rest)) := by
  refine va_zast hx hb hK hP hD hS q0 t0 ha ht (vp_in_nI hi hn) hdg ?_
  rw [nI_clamp (Nat.lt_trans hi hn), hv]
  exact kk
end JK
theorem jz_nar (b : Bool) : vp_nar .boolean (jbi b) = jbi b := by cases b <;> decide +kernel
/-! bits: a byte of a long, by >>> and by >> -/
def jx_bt (x : Int32) (i : Nat) : Bool := x.toBitVec.getLsbD i
theorem jx_ext {x y : Int32} (h : ∀ i, i < 32 → jx_bt x i = jx_bt y i) : x = y := Int32.toBitVec_inj.mp (BitVec.eq_of_getLsbD_eq (fun i hi => h i hi))
theorem jx_and (x y : Int32) (i : Nat) : jx_bt (x &&& y) i = (jx_bt x i && jx_bt y i) := by unfold jx_bt; rw [Int32.toBitVec_and, BitVec.getLsbD_and]
theorem jx_255 : ∀ i, i < 32 → jx_bt 255 i = decide (i < 8) := by decide +kernel
theorem jx_b (x : Int32) : x.toInt8.toInt32 &&& 255 = x &&& 255 := by
  apply Int32.toBitVec_inj.mp
  rw [Int32.toBitVec_and, Int32.toBitVec_and, Int8.toBitVec_toInt32, Int32.toBitVec_toInt8]
  apply BitVec.eq_of_getLsbD_eq
  intro i hi
  rw [BitVec.getLsbD_and, BitVec.getLsbD_and]
  have hm : ∀ i < 32, 8 ≤ i → (255 : Int32).toBitVec.getLsbD i = false := by decide
  rcases Nat.lt_or_ge i 8 with z | z
  · rw [BitVec.getLsbD_signExtend, BitVec.getLsbD_signExtend, if_pos z, if_pos hi]
    simp only [z, hi, decide_true, Bool.true_and]
  · rw [hm i hi z]; simp
theorem jx_c : ∀ k, k < 8 → ((nI (8 * k)).toInt64 &&& 63).toBitVec.smod 64 = BitVec.ofNat 64 (8 * k) := by decide +kernel
theorem jx_u : ∀ k, k < 8 → ((nI (8 * k)).toInt64.toUInt64 &&& Int64.toUInt64 63) = UInt64.ofNat (8 * k) := by decide +kernel
theorem jby_class (v : Int64) (k : Nat) (hk : k < 8) : (v.toUInt64 >>> ((nI (8 * k)).toInt64.toUInt64 &&& Int64.toUInt64 63)).toInt64.toInt32.toInt8.toInt32 &&& 255 = jby v k := by
  have e1 : (v.toUInt64 >>> UInt64.ofNat (8 * k)).toInt64.toBitVec = v.toBitVec >>> (8 * k) := by
    apply BitVec.eq_of_toNat_eq
    show (v.toUInt64 >>> UInt64.ofNat (8 * k)).toNat = _
    have h1 : (UInt64.ofNat (8 * k)).toNat = 8 * k := by
      show (BitVec.ofNat 64 (8 * k)).toNat = 8 * k
      rw [BitVec.toNat_ofNat, Nat.mod_eq_of_lt (by omega)]
    rw [UInt64.toNat_shiftRight, h1, Nat.mod_eq_of_lt (show 8 * k < 64 by omega), BitVec.toNat_ushiftRight]
    rfl
  have e2 : (v >>> ((nI (8 * k)).toInt64 &&& 63)).toBitVec = v.toBitVec.sshiftRight (8 * k) := by
    rw [Int64.toBitVec_shiftRight]
    show v.toBitVec.sshiftRight (((nI (8 * k)).toInt64 &&& 63).toBitVec.smod 64).toNat = _
    rw [jx_c k hk, BitVec.toNat_ofNat, Nat.mod_eq_of_lt (by omega)]
  rw [jx_b, jx_u k hk]
  unfold jby
  apply jx_ext
  intro i hi
  rw [jx_and, jx_and, jx_255 i hi]
  rcases Nat.lt_or_ge i 8 with z | z
  · have e3 : jx_bt (v.toUInt64 >>> UInt64.ofNat (8 * k)).toInt64.toInt32 i = jx_bt (v >>> ((nI (8 * k)).toInt64 &&& 63)).toInt32 i := by
      unfold jx_bt
      rw [Int64.toBitVec_toInt32, Int64.toBitVec_toInt32, e1, e2, BitVec.getLsbD_signExtend, BitVec.getLsbD_signExtend, BitVec.getLsbD_ushiftRight, BitVec.getLsbD_sshiftRight]
      simp [hi, show i < 64 by omega, show 8 * k + i < 64 by omega]
    rw [e3]
  · rw [decide_eq_false (by omega), Bool.and_false, Bool.and_false]
theorem jx_pos {a b : Nat} (ha : a < 2 ^ 31) (hb : b < 2 ^ 31) : ¬ (nI a ^^^ nI b) < 0 := by
  have e : nI a ^^^ nI b = nI (a ^^^ b) := by
    apply Int32.toBitVec_inj.1
    show BitVec.ofNat 32 a ^^^ BitVec.ofNat 32 b = BitVec.ofNat 32 (a ^^^ b)
    apply BitVec.eq_of_getLsbD_eq
    intro i hi
    simp [hi]
  rw [e]
  exact nI_pos (Nat.xor_lt_two_pow ha hb)
/-! arrays' classes: one a type -/
theorem j_arr {args : Array Value} {s : State} {ty : FieldType} (h : (Cond.arrayClass ty).before args s = true) : ∃ cA : ClassId, ArrOfT s cA ty ∧ s.vm.findClass ("[" ++ ty.toString) = some cA := by
  obtain ⟨cA, kA, comp, h1, h2, h3⟩ := Cond.arrayClass_spec h
  exact ⟨cA, fun n z => ⟨fun k h => (by cases h), kA, h2, comp, h3⟩, h1⟩
theorem j_newa {p : Program} {l : Launch} {e : Env} {R : Room} {s : State} {m : MethodId} {args : Array Value} {below : List Frame} {meth : Method} {c : Code} {H : Heap} {locs : List Loc} {cells slots : Nat} {Q : State → Prop} {cc : ByteArray} {pc : Nat} {ls : Array Slot} {rest : List Value} {D : va_G} {A : Nat → Prop} {tys : List (ClassId × FieldType)} {ws : va_W} {H0 : Heap}
    (hx : p.tables.exec = Jvm.exec) (hb : c.code = cc) {atype : ArrayType} (harr : (Cond.arrayClass (newarray.typeOf atype)).before args s = true) {ty : FieldType} (hty : newarray.typeOf atype = ty) (hK : va_K D vwCl tys s) (hP : va_P D vwCl ws H) (hD : va_D A ws) (hS : va_S A H0 H locs) (hA : ∀ q, H0.size ≤ q → A q)
    {c0 : ClassId} (hq : ∀ cA, va_RA s cA ty → cA = c0) {n : Int32} {N' : Nat} (ha : ∀ cA : ClassId, vp_cell cA (N', .inl (fun _ => 0)) = arrV cA N' (fun _ => defaultValue ty)) (hn : ¬ n < 0) (hN : n.toNatClampNeg = N') (hbytes : N' * componentBytes ty ≤ 536870912) (hcells : cells + 1 ≤ R.cells) (hslots : slots + N' ≤ R.slots) (hdg : decode cc pc = .ok (.newarray atype, 2))
    (kk : ∀ (q : Nat) (H1 : Heap), va_P D vwCl (ws ++ [(q, .inl (c0, N', .inl (fun _ => 0)))]) H1 → va_D A (ws ++ [(q, .inl (c0, N', .inl (fun _ => 0)))]) → va_S A H0 H1 locs →
      W p l e R s m args below meth c H1 locs (cells + 1) (slots + N') Q (F0 m (pc + 2) ls (.ref q :: rest))) : W p l e R s m args below meth c H locs cells slots Q (F0 m pc ls (.int n :: rest)) := by
  refine va_newa hx hb harr hty hK hP hD hS hA (a0 := (N', .inl (fun _ => 0))) ha hn hN hbytes hcells hslots hdg (fun q cA H1 hK1 hP1 hD1 hS1 => ?_)
  have e := hq cA (hK1.2 tys.length (cA, ty) (by simp)).2
  subst e
  exact kk q H1 hP1 hD1 hS1
/-- the arrays that the classes make: bytes, ints, booleans -/
abbrev jT (cb ci cz : ClassId) : List (ClassId × FieldType) := [(cb, .byte), (ci, .int), (cz, .boolean)]
theorem j_qb {D : va_G} {cb ci cz : ClassId} {s : State} (hK : va_K D vwCl (jT cb ci cz) s) (cA : ClassId) (h : va_RA s cA .byte) : cA = cb := Option.some.inj ((va_nm_byte h).symm.trans (va_nm_byte (hK.2 0 _ rfl).2))
theorem j_qi {D : va_G} {cb ci cz : ClassId} {s : State} (hK : va_K D vwCl (jT cb ci cz) s) (cA : ClassId) (h : va_RA s cA .int) : cA = ci := Option.some.inj ((va_nm_int h).symm.trans (va_nm_int (hK.2 1 _ rfl).2))
theorem j_qz {D : va_G} {cb ci cz : ClassId} {s : State} (hK : va_K D vwCl (jT cb ci cz) s) (cA : ClassId) (h : va_RA s cA .boolean) : cA = cz := Option.some.inj ((va_nm_boolean h).symm.trans (va_nm_boolean (hK.2 2 _ rfl).2))
/-! numbers in a range, one below 0 -/
theorem j_rng {c : Int32} {a b : Nat} (ha : a < 2 ^ 31) (hb : b < 2 ^ 31) (h1 : ¬ c < nI a) (h2 : ¬ nI b < c) : ∃ cc : Nat, a ≤ cc ∧ cc ≤ b ∧ c = nI cc := by
  have h0 : ¬ c < 0 := fun q => h1 (Int32.lt_of_lt_of_le q (nI_pos' ha))
  obtain ⟨j, hj, rfl⟩ := nI_of h0
  rw [nI_ltI (by omega) (by omega)] at h1 h2
  exact ⟨j, by omega, by omega, rfl⟩
theorem j_m1lt {i : Nat} (hi : i < 2 ^ 31) : nI i + (-1) < 0 ↔ i = 0 := by
  cases i with
  | zero => exact ⟨fun _ => rfl, fun _ => by decide +kernel⟩
  | succ i =>
    rw [pk_m1]
    exact ⟨fun h => absurd h (nI_pos (by omega)), fun h => absurd h (by omega)⟩
theorem j_m1sub (n : Nat) : nI n - nI 1 = nI n + (-1) := Int32.sub_eq_add_neg _ _
theorem j_l4 {i L : Nat} (hi : i < 2 ^ 30) (hL : L < 2 ^ 30) : nI i ≤ nI L - nI 4 ↔ i + 4 ≤ L := by
  rw [Int32.le_iff_toInt_le, pk_sub_toInt hL (by omega), nI_toInt (by omega)]
  omega
theorem j_ne1 (z : Nat) (h : z ≤ 100) : ¬ nI z = -1 := by
  intro q
  have h1 : (nI z).toInt = (-1 : Int32).toInt := by rw [q]
  rw [nI_toInt (by omega)] at h1
  have h2 : (-1 : Int32).toInt = -1 := by decide +kernel
  omega
theorem j_lb {x : Int32} {b : Bool} {w : Nat} (hw : w ≤ 100) (h : x = if b = true then nI w else -1) : x = -1 ↔ b = false := by
  cases b with
  | false => exact ⟨fun _ => rfl, fun _ => h⟩
  | true => exact ⟨fun q => absurd ((show x = nI w from h).symm.trans q) (j_ne1 w hw), fun q => absurd q (by decide)⟩
theorem j_lbt {x : Int32} {b : Bool} {w : Nat} (hw : w ≤ 100) (h : x = if b = true then nI w else -1) (hx : ¬ x = -1) : b = true := by
  cases b with
  | false => exact absurd h hx
  | true => rfl
/-- a record at place j, as its ring tells it -/
theorem jR_L {old us pr : Nat} {dk L N : Nat → Int32} {k : Nat} {r : Nat → Bool} {z : Nat → Nat} {u : Nat → Int32} {y : Nat → Nat → Int32} (h : jR old us pr dk L N k r z u y) {j : Nat} (hj : j < k) : L ((old + js (jse r z) j) % 40) = if r j = true then nI (z j) else -1 := h.2.2.2.2.2.1 j hj
theorem jR_z {old us pr : Nat} {dk L N : Nat → Int32} {k : Nat} {r : Nat → Bool} {z : Nat → Nat} {u : Nat → Int32} {y : Nat → Nat → Int32} (h : jR old us pr dk L N k r z u y) {j : Nat} (hj : j < k) : z j ≤ 100 := h.2.2.2.2.1 j hj
theorem j_dec {a b : Nat} (h : b < a) : nI (a - b) + (-1) = nI (a - (b + 1)) := by
  obtain ⟨d, rfl⟩ : ∃ d, a = b + d + 1 := ⟨a - b - 1, by omega⟩
  rw [show b + d + 1 - b = d + 1 by omega, show b + d + 1 - (b + 1) = d by omega]
  exact pk_m1 d
theorem j_ar1 {tp d : Nat → Int32} {s i : Nat} (h : ∀ i0, i0 < i → d ((12 * s + i0) % 480) = (tp i0).toInt8.toInt32) (hi : i < 100) : ∀ i0, i0 < i + 1 → upd d ((12 * s + i) % 480) (tp i).toInt8.toInt32 ((12 * s + i0) % 480) = (tp i0).toInt8.toInt32 := by
  intro i0 h0
  by_cases e : i0 = i
  · rw [e, pk_us]
  · rw [pk_un (by omega)]
    exact h i0 (by omega)
theorem j_ar2 {dk d : Nat → Int32} {s i : Nat} {x : Int32} (h : ∀ q, q < 480 → (∀ i0, i0 < i → q ≠ (12 * s + i0) % 480) → d q = dk q) : ∀ q, q < 480 → (∀ i0, i0 < i + 1 → q ≠ (12 * s + i0) % 480) → upd d ((12 * s + i) % 480) x q = dk q := fun q hq hn => by
  rw [pk_un (hn i (by omega))]
  exact h q hq (fun i0 h0 => hn i0 (by omega))
/-- the byte that the class puts on its tape -/
def jcb (v : Int64) (k : Nat) : Int32 := (v.toUInt64 >>> ((nI (8 * k)).toInt64.toUInt64 &&& Int64.toUInt64 63)).toInt64.toInt32.toInt8.toInt32
theorem j_pt1 {F tq : Nat → Int32} {n q : Nat} {x : Int32} (h : ∀ j, j < n + q → tq j &&& 255 = F j) (hx : x &&& 255 = F (n + q)) : ∀ j, j < n + (q + 1) → upd tq (n + q) x j &&& 255 = F j := by
  intro j hj
  by_cases e : j = n + q
  · rw [e, pk_us]
    exact hx
  · rw [pk_un e]
    exact h j (by omega)
/-! A STATE OF THE JOURNAL: the tape (n bytes t), the entries (k of them), the next number, the whole entries, power, a cut that waits; and what each call makes of it -/
abbrev jM : Type := (Nat × (Nat → Int32)) × (Nat × (Nat → Bool) × (Nat → Nat) × (Nat → Int32) × (Nat → Nat → Int32)) × (Int32 × Int32 × Bool × Bool)
/-- the class's cells: tape, disk, lengths, numbers; taped, oldest, used, present; nextNumber, wholeEntries, power, cutNext -/
abbrev jDt : Type := (Nat → Int32) × (Nat → Int32) × (Nat → Int32) × (Nat → Int32) × Nat × Nat × Nat × Nat × Int32 × Int32 × Int32 × Int32
/-- the reference's cells: tape, isRecord, sizes, numbers, bytes; taped, kept; next, whole, off, cutting -/
abbrev jMt : Type := (Nat → Int32) × (Nat → Int32) × (Nat → Int32) × (Nat → Int32) × (Nat → Int32) × Nat × Nat × Int32 × Int32 × Int32 × Int32
def jDk (M : jM) (a : jDt) : Prop := match M, a with
  | ((n, t), (k, r, z, u, y), (nx, wh, pw, ct)), (tp, dk, L, N, td, old, us, pr, nx', wh', pw', ct') => td = n ∧ n ≤ 100 ∧ (∀ j, j < n → tp j &&& 255 = t j) ∧ jR old us pr dk L N k r z u y ∧ nx' = nx ∧ wh' = wh ∧ pw' = jbi pw ∧ ct' = jbi ct
def jMk (M : jM) (a : jMt) : Prop := match M, a with
  | ((n, t), (k, r, z, u, y), (nx, wh, pw, ct)), (tp, fB, fZ, fN, fY, td, kp, nx', wh', off, cut) => td = n ∧ n ≤ 100 ∧ (∀ j, j < n → tp j = t j) ∧ kp = k ∧ js (jse r z) k ≤ 40 ∧ (∀ j, j < k → z j ≤ 100) ∧ jE fB fZ fN fY k r z u y ∧ nx' = nx ∧ wh' = wh ∧ off = jbi (!pw) ∧ (cut = -1 ↔ ct = false)
def jop_pt (M : jM) (v : Int64) (c : Int32) : Int32 × jM := match M with
  | ((n, t), E, F) => if c < 1 ∨ 8 < c ∨ 100 < n + c.toNatClampNeg then (0, ((n, t), E, F)) else (1, ((n + c.toNatClampNeg, fun j => if n ≤ j ∧ j < n + c.toNatClampNeg then jby v (c.toNatClampNeg - 1 - (j - n)) else t j), E, F))
def jop_wr (M : jM) : Int32 × jM := match M with
  | ((n, t), (k, r, z, u, y), (nx, wh, pw, ct)) => if pw = false ∨ 40 < js (jse r z) k + jsc n then (-1, ((n, t), (k, r, z, u, y), (nx, wh, pw, ct))) else if ct = true then (-2, ((0, t), (k, r, z, u, y), (nx, wh, false, false))) else (nx, ((0, t), (k + 1, va_up r k true, va_up z k n, va_up u k nx, va_up y k t), (nx + 1, wh + 1, pw, ct)))
/-- the first entry that is kept behind a drop of many -/
def jdrF (k : Nat) (r : Nat → Bool) (many : Nat) : Nat := jfs (jPd (va_up r k false) many) k (k + 1)
theorem jdrF_le (k : Nat) (r : Nat → Bool) (many : Nat) : jdrF k r many ≤ k := jfs_le (k + 1) (Nat.le_refl k) (Nat.le_refl _)
def jdrE (k : Nat) (r : Nat → Bool) (z : Nat → Nat) (u : Nat → Int32) (y : Nat → Nat → Int32) (f : Nat) : Nat × (Nat → Bool) × (Nat → Nat) × (Nat → Int32) × (Nat → Nat → Int32) := (k + 1 - f, fun j => va_up r k false (j + f), fun j => va_up z k 0 (j + f), fun j => u (j + f), fun j => y (j + f))
def jop_dr (M : jM) (c : Int32) : Int32 × jM := match M with
  | ((n, t), (k, r, z, u, y), (nx, wh, pw, ct)) => if pw = false ∨ c < 0 ∨ nI (js (jcn r) k) < c ∨ 40 < js (jse r z) k + 1 then (-1, ((n, t), (k, r, z, u, y), (nx, wh, pw, ct))) else if ct = true then (-2, ((n, t), (k, r, z, u, y), (nx, wh, false, false))) else (nI (js (jcn r) k - c.toNatClampNeg), ((n, t), jdrE k r z u y (jdrF k r c.toNatClampNeg), (nx, wh + 1, pw, ct)))
def jop_cu (M : jM) (c : Int32) : Int32 × jM := match M with
  | (T, E, (nx, wh, pw, ct)) => if c < -1 ∨ 8 < c then (0, (T, E, (nx, wh, pw, ct))) else (1, (T, E, (nx, wh, pw, decide (c ≠ -1))))
def jop_st (M : jM) : Int32 × jM := match M with
  | (T, (k, r, z, u, y), (nx, wh, pw, ct)) => if pw = true then (-1, (T, (k, r, z, u, y), (nx, wh, pw, ct))) else (nI (js (jcn r) k), (T, (k, r, z, u, y), (nx, wh, true, ct)))
/-- j is the i-th record that is there -/
def jfd (k : Nat) (r : Nat → Bool) (pw : Bool) (i : Int32) (j : Nat) : Prop := pw = true ∧ j < k ∧ r j = true ∧ i = nI (js (jcn r) j)
theorem jfd_uni {k : Nat} {r : Nat → Bool} {pw : Bool} {i : Int32} {a b : Nat} (hk : k ≤ 40) (h : jfd k r pw i a) (h2 : jfd k r pw i b) : a = b := by
  obtain ⟨-, ha, ra, ea⟩ := h
  obtain ⟨-, hb, rb, eb⟩ := h2
  have c1 := jct_le r a
  have c2 := jct_le r b
  rw [ea, nI_eq (by omega) (by omega)] at eb
  exact jct_inj ra rb eb
def jop_rc (M : jM) (i w a : Int32) : Prop := match M with
  | (_, (k, r, z, u, _), (_, _, pw, _)) => (∃ j, jfd k r pw i j ∧ a = if w = 0 then nI (z j) else if w = 1 then u j else -1) ∨ ((∀ j, ¬ jfd k r pw i j) ∧ a = -1)
def jop_by (M : jM) (i c : Int32) (a : Int64) : Prop := match M with
  | (_, (k, r, z, _, y), (_, _, pw, _)) => (∃ j, jfd k r pw i j ∧ a = if c < 0 then -1 else je8 (fun b => if c.toNatClampNeg + b < z j then y j (c.toNatClampNeg + b) else 0) 8) ∨ ((∀ j, ¬ jfd k r pw i j) ∧ a = -1)
theorem jop_rc_uni {n : Nat} {t : Nat → Int32} {k : Nat} {r : Nat → Bool} {z : Nat → Nat} {u : Nat → Int32} {y : Nat → Nat → Int32} {nx wh : Int32} {pw ct : Bool} {i w a b : Int32} (hk : k ≤ 40) (h : jop_rc ((n, t), (k, r, z, u, y), (nx, wh, pw, ct)) i w a) (h2 : jop_rc ((n, t), (k, r, z, u, y), (nx, wh, pw, ct)) i w b) : a = b := by
  rcases h with ⟨j, hj, ea⟩ | ⟨hn, ea⟩
  · rcases h2 with ⟨j2, hj2, eb⟩ | ⟨hn2, eb⟩
    · rw [ea, eb, jfd_uni hk hj hj2]
    · exact absurd hj (hn2 j)
  · rcases h2 with ⟨j2, hj2, eb⟩ | ⟨hn2, eb⟩
    · exact absurd hj2 (hn j2)
    · rw [ea, eb]
theorem jop_by_uni {n : Nat} {t : Nat → Int32} {k : Nat} {r : Nat → Bool} {z : Nat → Nat} {u : Nat → Int32} {y : Nat → Nat → Int32} {nx wh : Int32} {pw ct : Bool} {i c : Int32} {a b : Int64} (hk : k ≤ 40) (h : jop_by ((n, t), (k, r, z, u, y), (nx, wh, pw, ct)) i c a) (h2 : jop_by ((n, t), (k, r, z, u, y), (nx, wh, pw, ct)) i c b) : a = b := by
  rcases h with ⟨j, hj, ea⟩ | ⟨hn, ea⟩
  · rcases h2 with ⟨j2, hj2, eb⟩ | ⟨hn2, eb⟩
    · rw [ea, eb, jfd_uni hk hj hj2]
    · exact absurd hj (hn2 j)
  · rcases h2 with ⟨j2, hj2, eb⟩ | ⟨hn2, eb⟩
    · exact absurd hj2 (hn j2)
    · rw [ea, eb]
def jop_ct (M : jM) (w : Int32) : Int32 := match M with
  | ((n, _), (k, r, z, _, _), (_, wh, pw, _)) => if w = 0 then nI n else if w = 1 then (if pw = true then nI (js (jcn r) k) else 0) else if w = 2 then (if pw = true then nI (js (jse r z) k) else 0) else if w = 3 then wh else if w = 4 then jbi pw else -1
theorem jpt_ref {n : Nat} {t : Nat → Int32} {E : Nat × (Nat → Bool) × (Nat → Nat) × (Nat → Int32) × (Nat → Nat → Int32)} {F : Int32 × Int32 × Bool × Bool} {v : Int64} {c : Int32} (h : c < 1 ∨ 8 < c ∨ 100 < n + c.toNatClampNeg) : jop_pt ((n, t), E, F) v c = (0, ((n, t), E, F)) := if_pos h
theorem jpt_ok {n : Nat} {t : Nat → Int32} {E : Nat × (Nat → Bool) × (Nat → Nat) × (Nat → Int32) × (Nat → Nat → Int32)} {F : Int32 × Int32 × Bool × Bool} {v : Int64} {cc : Nat} (h1 : 1 ≤ cc) (h8 : cc ≤ 8) (h : n + cc ≤ 100) : jop_pt ((n, t), E, F) v (nI cc) = (1, ((n + cc, fun j => if n ≤ j ∧ j < n + cc then jby v (cc - 1 - (j - n)) else t j), E, F)) := by
  have e : ¬ (nI cc < 1 ∨ 8 < nI cc ∨ 100 < n + (nI cc).toNatClampNeg) := by
    rw [show (1 : Int32) = nI 1 from rfl, show (8 : Int32) = nI 8 from rfl, nI_ltI (by omega) (by omega), nI_ltI (by omega) (by omega), nI_clamp (by omega)]
    omega
  have e2 : jop_pt ((n, t), E, F) v (nI cc) = (1, ((n + (nI cc).toNatClampNeg, fun j => if n ≤ j ∧ j < n + (nI cc).toNatClampNeg then jby v ((nI cc).toNatClampNeg - 1 - (j - n)) else t j), E, F)) := if_neg e
  rw [nI_clamp (show cc < 2 ^ 31 by omega)] at e2
  exact e2
section JOP
variable {n : Nat} {t : Nat → Int32} {k : Nat} {r : Nat → Bool} {z : Nat → Nat} {u : Nat → Int32} {y : Nat → Nat → Int32} {nx wh : Int32} {pw ct : Bool}
theorem jwr_ref (h : pw = false ∨ 40 < js (jse r z) k + jsc n) : jop_wr ((n, t), (k, r, z, u, y), (nx, wh, pw, ct)) = (-1, ((n, t), (k, r, z, u, y), (nx, wh, pw, ct))) := if_pos h
theorem jwr_cut (h : js (jse r z) k + jsc n ≤ 40) : jop_wr ((n, t), (k, r, z, u, y), (nx, wh, true, true)) = (-2, ((0, t), (k, r, z, u, y), (nx, wh, false, false))) := by
  show (if true = false ∨ 40 < js (jse r z) k + jsc n then _ else _) = _
  rw [if_neg (by simp; omega)]
  rfl
theorem jwr_ok (h : js (jse r z) k + jsc n ≤ 40) : jop_wr ((n, t), (k, r, z, u, y), (nx, wh, true, false)) = (nx, ((0, t), (k + 1, va_up r k true, va_up z k n, va_up u k nx, va_up y k t), (nx + 1, wh + 1, true, false))) := by
  show (if true = false ∨ 40 < js (jse r z) k + jsc n then _ else _) = _
  rw [if_neg (by simp; omega)]
  rfl
theorem jdr_ref {c : Int32} (h : pw = false ∨ c < 0 ∨ nI (js (jcn r) k) < c ∨ 40 < js (jse r z) k + 1) : jop_dr ((n, t), (k, r, z, u, y), (nx, wh, pw, ct)) c = (-1, ((n, t), (k, r, z, u, y), (nx, wh, pw, ct))) := if_pos h
theorem jdr_cut {c : Int32} (h0 : ¬ c < 0) (h1 : ¬ nI (js (jcn r) k) < c) (h : js (jse r z) k + 1 ≤ 40) : jop_dr ((n, t), (k, r, z, u, y), (nx, wh, true, true)) c = (-2, ((n, t), (k, r, z, u, y), (nx, wh, false, false))) := by
  show (if true = false ∨ c < 0 ∨ nI (js (jcn r) k) < c ∨ 40 < js (jse r z) k + 1 then _ else _) = _
  rw [if_neg (by intro q; rcases q with q | q | q | q; exact absurd q (by decide); exact h0 q; exact h1 q; omega)]
  rfl
theorem jdr_ok {c : Int32} {cc : Nat} (hc : c = nI cc) (h31 : cc < 2 ^ 31) (h0 : ¬ c < 0) (h1 : ¬ nI (js (jcn r) k) < c) (h : js (jse r z) k + 1 ≤ 40) : jop_dr ((n, t), (k, r, z, u, y), (nx, wh, true, false)) c = (nI (js (jcn r) k - cc), ((n, t), jdrE k r z u y (jdrF k r cc), (nx, wh + 1, true, false))) := by
  show (if true = false ∨ c < 0 ∨ nI (js (jcn r) k) < c ∨ 40 < js (jse r z) k + 1 then _ else _) = _
  rw [if_neg (by intro q; rcases q with q | q | q | q; exact absurd q (by decide); exact h0 q; exact h1 q; omega)]
  rw [hc, nI_clamp h31]
  rfl
end JOP
/-! the cells of both sides, as lists; rows about the entries -/
abbrev jDw (h0 qt qr qd ql qn : Nat) (cb ci : ClassId) (a : jDt) : va_W := match a with
  | (tp, dk, L, N, td, old, us, pr, nx, wh, pw, ct) => [(h0, .inr (1, [.ref qt, .int (nI td), .ref qr, .int nx, .int wh, .int pw, .int ct])), (qt, .inl (cb, 100, .inl tp)), (qr, .inr (0, [.ref qd, .ref ql, .ref qn, .int (nI old), .int (nI us), .int (nI pr)])), (qd, .inl (cb, 480, .inl dk)), (ql, .inl (ci, 40, .inl L)), (qn, .inl (ci, 40, .inl N))]
abbrev jMw (g0 mt mb mz mn my : Nat) (ci cz : ClassId) (a : jMt) : va_W := match a with
  | (tp, fB, fZ, fN, fY, td, kp, nx, wh, off, cut) => [(g0, .inr (2, [.ref mt, .int (nI td), .int (nI kp), .ref mb, .ref mz, .ref mn, .ref my, .int nx, .int wh, .int off, .int cut])), (mt, .inl (ci, 100, .inl tp)), (mb, .inl (cz, 41, .inl fB)), (mz, .inl (ci, 41, .inl fZ)), (mn, .inl (ci, 41, .inl fN)), (my, .inl (ci, 4100, .inl fY))]
section JLM
variable {n : Nat} {t : Nat → Int32} {k : Nat} {r : Nat → Bool} {z : Nat → Nat} {u : Nat → Int32} {y : Nat → Nat → Int32} {nx wh : Int32} {pw ct : Bool}
theorem jDk_i {tp dk L N : Nat → Int32} {td old us pr : Nat} {nx' wh' pw' ct' : Int32} (h1 : td = n) (h2 : n ≤ 100) (h3 : ∀ j, j < n → tp j &&& 255 = t j) (h4 : jR old us pr dk L N k r z u y) (h5 : nx' = nx) (h6 : wh' = wh) (h7 : pw' = jbi pw) (h8 : ct' = jbi ct) : jDk ((n, t), (k, r, z, u, y), (nx, wh, pw, ct)) (tp, dk, L, N, td, old, us, pr, nx', wh', pw', ct') := And.intro h1 (And.intro h2 (And.intro h3 (And.intro h4 (And.intro h5 (And.intro h6 (And.intro h7 h8))))))
theorem jMk_i {tp fB fZ fN fY : Nat → Int32} {td kp : Nat} {nx' wh' off cut : Int32} (h1 : td = n) (h2 : n ≤ 100) (h3 : ∀ j, j < n → tp j = t j) (h4 : kp = k) (h5 : js (jse r z) k ≤ 40) (h6 : ∀ j, j < k → z j ≤ 100) (h7 : jE fB fZ fN fY k r z u y) (h8 : nx' = nx) (h9 : wh' = wh) (h10 : off = jbi (!pw)) (h11 : cut = -1 ↔ ct = false) : jMk ((n, t), (k, r, z, u, y), (nx, wh, pw, ct)) (tp, fB, fZ, fN, fY, td, kp, nx', wh', off, cut) := And.intro h1 (And.intro h2 (And.intro h3 (And.intro h4 (And.intro h5 (And.intro h6 (And.intro h7 (And.intro h8 (And.intro h9 (And.intro h10 h11)))))))))
end JLM
theorem jbn_t {b : Bool} (h : ¬ jbi (!b) = 0) : b = false := by
  cases b with
  | false => rfl
  | true => exact absurd rfl h
theorem jbn_f {b : Bool} (h : jbi (!b) = 0) : b = true := by
  cases b with
  | false => exact absurd h (by decide)
  | true => rfl
theorem jfs_t {P : Nat → Bool} {n d : Nat} (h : P n = true) : jfs P d (n + 1) = jfs P n n := by
  show jfs P (if P n = true then n else d) n = _
  rw [if_pos h]
theorem jfs_f {P : Nat → Bool} {n d : Nat} (h : P n = false) : jfs P d (n + 1) = jfs P d n := by
  show jfs P (if P n = true then n else d) n = _
  rw [if_neg (by rw [h]; decide)]
theorem j_pt2 {F tq : Nat → Int32} {n q : Nat} {x : Int32} (h : ∀ j, j < n + q → tq j = F j) (hx : x = F (n + q)) : ∀ j, j < n + (q + 1) → upd tq (n + q) x j = F j := by
  intro j hj
  by_cases e : j = n + q
  · rw [e, pk_us]
    exact hx
  · rw [pk_un e]
    exact h j (by omega)
theorem j_us {f : Nat → Int32} {a b : Nat} {x : Int32} (h : f a = x) : upd f b x a = x := by
  by_cases e : a = b
  · rw [e, pk_us]
  · rw [pk_un e]
    exact h
theorem j_wr1 {d tp : Nat → Int32} {k i : Nat} (h : ∀ i0, i0 < i → d (100 * k + i0) = tp i0) : ∀ i0, i0 < i + 1 → upd d (100 * k + i) (tp i) (100 * k + i0) = tp i0 := by
  intro i0 h0
  by_cases e : i0 = i
  · rw [e, pk_us]
  · rw [pk_un (by omega)]
    exact h i0 (by omega)
theorem j_wr2 {d fY : Nat → Int32} {k i : Nat} {x : Int32} (h : ∀ q, q < 100 * k → d q = fY q) : ∀ q, q < 100 * k → upd d (100 * k + i) x q = fY q := by
  intro q hq
  rw [pk_un (by omega)]
  exact h q hq
theorem j_mv1 {d fY : Nat → Int32} {a b i : Nat} (hd : ∀ q, d q = if 100 * b ≤ q ∧ q < 100 * b + i then fY (100 * a + (q - 100 * b)) else fY q) : ∀ q, upd d (100 * b + i) (fY (100 * a + i)) q = if 100 * b ≤ q ∧ q < 100 * b + (i + 1) then fY (100 * a + (q - 100 * b)) else fY q := by
  intro q
  by_cases e : q = 100 * b + i
  · rw [e, pk_us, if_pos (by omega), show 100 * b + i - 100 * b = i by omega]
  · rw [pk_un e, hd]
    by_cases e2 : 100 * b ≤ q ∧ q < 100 * b + i
    · rw [if_pos e2, if_pos (by omega)]
    · rw [if_neg e2, if_neg (by omega)]
section JEL
variable {fB fZ fN fY : Nat → Int32} {k : Nat} {r : Nat → Bool} {z : Nat → Nat} {u : Nat → Int32} {y : Nat → Nat → Int32}
theorem jE_0 : jE fB fZ fN fY 0 r z u y := ⟨fun _ h => absurd h (Nat.not_lt_zero _), fun _ h => absurd h (Nat.not_lt_zero _), fun _ h => absurd h (Nat.not_lt_zero _), fun _ _ h => absurd h (Nat.not_lt_zero _)⟩
theorem jE_add {n : Nat} {t d : Nat → Int32} {nx : Int32} (hE : jE fB fZ fN fY k r z u y) (hz : ∀ j, j < k → z j ≤ 100) (h1 : ∀ i, i < n → d (100 * k + i) = t i) (h2 : ∀ q, q < 100 * k → d q = fY q) :
    jE (upd fB k (nI 1)) (upd fZ k (nI n)) (upd fN k nx) d (k + 1) (va_up r k true) (va_up z k n) (va_up u k nx) (va_up y k t) := by
  obtain ⟨e1, e2, e3, e4⟩ := hE
  refine ⟨fun j hj => ?_, fun j hj => ?_, fun j hj hr => ?_, fun j i hj hi => ?_⟩
  · by_cases e : j = k
    · rw [e, pk_us, va_up_self]
      rfl
    · rw [pk_un e, va_up_ne r true e]
      exact e1 j (by omega)
  · by_cases e : j = k
    · rw [e, pk_us, va_up_self]
    · rw [pk_un e, va_up_ne z n e]
      exact e2 j (by omega)
  · by_cases e : j = k
    · rw [e, pk_us, va_up_self]
    · rw [va_up_ne r true e] at hr
      rw [pk_un e, va_up_ne u nx e]
      exact e3 j (by omega) hr
  · by_cases e : j = k
    · rw [e, va_up_self] at hi
      rw [e, va_up_self]
      exact h1 i hi
    · rw [va_up_ne z n e] at hi
      have h5 := hz j (by omega)
      rw [va_up_ne y t e, h2 _ (by omega)]
      exact e4 j i (by omega) hi
theorem jE_drp (hE : jE fB fZ fN fY k r z u y) : jE (upd fB k (nI 0)) (upd fZ k (nI 0)) fN fY (k + 1) (va_up r k false) (va_up z k 0) u y := by
  obtain ⟨e1, e2, e3, e4⟩ := hE
  refine ⟨fun j hj => ?_, fun j hj => ?_, fun j hj hr => ?_, fun j i hj hi => ?_⟩
  · by_cases e : j = k
    · rw [e, pk_us, va_up_self]
      rfl
    · rw [pk_un e, va_up_ne r false e]
      exact e1 j (by omega)
  · by_cases e : j = k
    · rw [e, pk_us, va_up_self]
    · rw [pk_un e, va_up_ne z 0 e]
      exact e2 j (by omega)
  · by_cases e : j = k
    · rw [e, va_up_self] at hr
      exact absurd hr (by decide)
    · rw [va_up_ne r false e] at hr
      exact e3 j (by omega) hr
  · by_cases e : j = k
    · rw [e, va_up_self] at hi
      exact absurd hi (Nat.not_lt_zero _)
    · rw [va_up_ne z 0 e] at hi
      exact e4 j i (by omega) hi
theorem jse_drp (r : Nat → Bool) (z : Nat → Nat) (k : Nat) : js (jse (va_up r k false) (va_up z k 0)) (k + 1) = js (jse r z) k + 1 := by
  rw [js_step, jse_f (va_up_self r k false), js_congr k (fun i hi => by
    show jse (va_up r k false) (va_up z k 0) i = jse r z i
    unfold jse
    rw [va_up_ne r false (show i ≠ k by omega), va_up_ne z 0 (show i ≠ k by omega)])]
theorem jcn_drp {r : Nat → Bool} {k : Nat} : js (jcn (va_up r k false)) (k + 1) = js (jcn r) k := by
  rw [js_step, jcn_f (va_up_self r k false), Nat.add_zero]
  exact js_congr k (fun i hi => by
    unfold jcn
    rw [va_up_ne r false (show i ≠ k by omega)])
theorem jz_drp (hz : ∀ j, j < k → z j ≤ 100) : ∀ j, j < k + 1 → va_up z k 0 j ≤ 100 := by
  intro j hj
  by_cases e : j = k
  · rw [e, va_up_self]
    omega
  · rw [va_up_ne z 0 e]
    exact hz j (by omega)
theorem jus_drp {f : Nat} (h : js (jse r z) k + 1 ≤ 40) (hf : f ≤ k) : js (jse (fun j => va_up r k false (j + f)) (fun j => va_up z k 0 (j + f))) (k + 1 - f) ≤ 40 := by
  have h1 := js_add (jse (va_up r k false) (va_up z k 0)) f (k + 1 - f)
  rw [show k + 1 - f + f = k + 1 by omega, jse_drp] at h1
  have h2 : js (jse (fun j => va_up r k false (j + f)) (fun j => va_up z k 0 (j + f))) (k + 1 - f) = js (fun j => jse (va_up r k false) (va_up z k 0) (j + f)) (k + 1 - f) := rfl
  omega
theorem jus_add {n : Nat} (h : js (jse r z) k + jsc n ≤ 40) : js (jse (va_up r k true) (va_up z k n)) (k + 1) ≤ 40 := by
  rw [js_step, jse_t (va_up_self r k true), va_up_self, js_congr k (fun i hi => by
    show jse (va_up r k true) (va_up z k n) i = jse r z i
    unfold jse
    rw [va_up_ne r true (show i ≠ k by omega), va_up_ne z n (show i ≠ k by omega)])]
  exact h
theorem jz_add {n : Nat} (hz : ∀ j, j < k → z j ≤ 100) (hn : n ≤ 100) : ∀ j, j < k + 1 → va_up z k n j ≤ 100 := by
  intro j hj
  by_cases e : j = k
  · rw [e, va_up_self]
    exact hn
  · rw [va_up_ne z n e]
    exact hz j (by omega)
theorem jE_mv {r1 : Nat → Bool} {z1 : Nat → Nat} {f j : Nat} {d : Nat → Int32} (hfj : f ≤ j) (hz1 : ∀ i, i < k + 1 → z1 i ≤ 100) (hc : jE fB fZ fN fY (j - f) (fun i => r1 (i + f)) (fun i => z1 (i + f)) (fun i => u (i + f)) (fun i => y (i + f)))
    (hoj : fB j = jbi (r1 j) ∧ fZ j = nI (z1 j) ∧ (r1 j = true → fN j = u j) ∧ ∀ b, b < z1 j → fY (100 * j + b) = y j b)
    (hd : ∀ q, d q = if 100 * (j - f) ≤ q ∧ q < 100 * (j - f) + z1 j then fY (100 * j + (q - 100 * (j - f))) else fY q) (hjk : j < k + 1) :
    jE (upd fB (j - f) (jbi (r1 j))) (upd fZ (j - f) (nI (z1 j))) (upd fN (j - f) (fN j)) d (j + 1 - f) (fun i => r1 (i + f)) (fun i => z1 (i + f)) (fun i => u (i + f)) (fun i => y (i + f)) := by
  obtain ⟨e1, e2, e3, e4⟩ := hc
  refine ⟨fun i hi => ?_, fun i hi => ?_, fun i hi hr => ?_, fun i b hi hb => ?_⟩
  · show upd fB (j - f) (jbi (r1 j)) i = jbi (r1 (i + f))
    by_cases q : i = j - f
    · rw [q, pk_us, show j - f + f = j by omega]
    · rw [pk_un q]
      exact e1 i (by omega)
  · show upd fZ (j - f) (nI (z1 j)) i = nI (z1 (i + f))
    by_cases q : i = j - f
    · rw [q, pk_us, show j - f + f = j by omega]
    · rw [pk_un q]
      exact e2 i (by omega)
  · show upd fN (j - f) (fN j) i = u (i + f)
    have hr : r1 (i + f) = true := hr
    by_cases q : i = j - f
    · rw [show i + f = j by omega] at hr ⊢
      rw [q, pk_us]
      exact hoj.2.2.1 hr
    · rw [pk_un q]
      exact e3 i (by omega) hr
  · show d (100 * i + b) = y (i + f) b
    have hb : b < z1 (i + f) := hb
    by_cases q : i = j - f
    · rw [show i + f = j by omega] at hb ⊢
      rw [hd, if_pos (by omega), show 100 * j + (100 * i + b - 100 * (j - f)) = 100 * j + b by omega]
      exact hoj.2.2.2 b hb
    · have h5 := hz1 (i + f) (by omega)
      rw [hd, if_neg (by omega)]
      exact e4 i b (by omega) hb
theorem jE_mv2 {r1 : Nat → Bool} {z1 : Nat → Nat} {f j : Nat} {d : Nat → Int32} {x1 x2 x3 : Int32} (hfj : f ≤ j) (hz1 : ∀ i, i < k + 1 → z1 i ≤ 100)
    (ho : ∀ i, j ≤ i → i < k + 1 → fB i = jbi (r1 i) ∧ fZ i = nI (z1 i) ∧ (r1 i = true → fN i = u i) ∧ ∀ b, b < z1 i → fY (100 * i + b) = y i b)
    (hd : ∀ q, d q = if 100 * (j - f) ≤ q ∧ q < 100 * (j - f) + z1 j then fY (100 * j + (q - 100 * (j - f))) else fY q) (hjk : j < k + 1) :
    ∀ i, j + 1 ≤ i → i < k + 1 → upd fB (j - f) x1 i = jbi (r1 i) ∧ upd fZ (j - f) x2 i = nI (z1 i) ∧ (r1 i = true → upd fN (j - f) x3 i = u i) ∧ ∀ b, b < z1 i → d (100 * i + b) = y i b := by
  intro i h1 h2
  obtain ⟨e1, e2, e3, e4⟩ := ho i (by omega) h2
  have h3 := hz1 j hjk
  rw [pk_un (show i ≠ j - f by omega), pk_un (show i ≠ j - f by omega), pk_un (show i ≠ j - f by omega)]
  refine ⟨e1, e2, e3, fun b hb => ?_⟩
  rw [hd, if_neg (by omega)]
  exact e4 b hb
end JEL
theorem j_sub0 {x y : Int32} (h : x - y = 0) : x = y := by
  have e : x - y + y = x := Int32.sub_add_cancel x y
  rw [h, Int32.zero_add] at e
  exact e.symm
theorem j_ss (x : Int32) (a : Nat) : x - nI a - nI 1 = x - nI (a + 1) := by rw [Int32.sub_sub, nI_add]
end
section
abbrev rm_J_floorMod : Room := { frames := 0, cells := 0, slots := 0, locals := 0 }
set_option maxHeartbeats 4000000 in
set_option maxRecDepth 100000 in
/-- Math.floorMod of two that are not negative -/
theorem c_J_floorMod (l : Launch) (D : va_G) (cb ci cz : ClassId) (a b : Nat) (ha : a < 2 ^ 31) (hb0 : 0 < b) (hb1 : b < 2 ^ 31) (sz : Nat) : Met l yJ9_floorMod_7cf53 wsJ9_floorMod_7cf53 rm_J_floorMod (va_Pc [.int (nI a), .int (nI b)] (j_pre D (jT cb ci cz) [] sz)) (va_Qi (fun (x : Int32) (_ : Unit) => x = nI (a % b)) (j_post D (jT cb ci cz) (fun _ => []) (va_A [] sz)) (va_A [] sz)) 0 0 (va_A [] sz) := by
  refine j_inF (Qc := fun A => (va_Qi (fun (x : Int32) (_ : Unit) => x = nI (a % b)) (j_post D (jT cb ci cz) (fun _ => []) A) A)) (cc := cJ9_floorMod_7cf53) (maxL := 3) (ret := (some .int)) (by decide +kernel) rfl (Nat.le_of_ble_eq_true rfl) ?_
  intro p e s m av below meth c A ls H locs hx hb hr hml hts hown hlk hin hA hP hK hD hS hl
  have hown : s.vm.findClass RJ9 = some m.cls := hown
  have hl : lv_has ls 3 [(0, .int (nI a)), (1, .int (nI b))] := hl
  have hm : a % b < 2 ^ 31 := Nat.lt_trans (Nat.mod_lt a hb0) hb1
  refine lv_iload_n hx hb dJ9_floorMod_7cf53_0 rfl (lv_at hl 0 rfl) ?_
  refine lv_iload_n hx hb dJ9_floorMod_7cf53_1 rfl (lv_at hl 1 rfl) ?_
  refine lv_irem hx hb dJ9_floorMod_7cf53_2 (nI_ne0 hb0 hb1) ?_
  refine jt_i (y := (nI (a % b))) (pk_rem ha hb0 hb1) ?_
  refine lv_istore_n (lv' := [(2, .int (nI (a % b))), (0, .int (nI a)), (1, .int (nI b))]) hx hb dJ9_floorMod_7cf53_3 rfl hl (by decide) rfl (fun ls hl => ?_)
  refine lv_iload_n hx hb dJ9_floorMod_7cf53_4 rfl (lv_at hl 1 rfl) ?_
  refine lv_iload_n hx hb dJ9_floorMod_7cf53_5 rfl (lv_at hl 2 rfl) ?_
  refine lv_ixor hx hb dJ9_floorMod_7cf53_6 ?_
  refine lv_if_ge (tgt := 18) hx hb dJ9_floorMod_7cf53_7 (by decide) (fun c_7_1 => ?_) (fun c_7_1 => ?_)
  · refine lv_iload_n hx hb dJ9_floorMod_7cf53_18 rfl (lv_at hl 0 rfl) ?_
    exact j_iret (v := (nI (a % b))) (()) hx hb hr hlk hK hP hD hS (rfl) dJ9_floorMod_7cf53_19
  · exact absurd (Int32.not_lt.mp (jx_pos ha hb1)) c_7_1
abbrev rm_R_onRing : Room := { frames := 1, cells := 0, slots := 0, locals := 22 }
set_option maxHeartbeats 4000000 in
set_option maxRecDepth 100000 in
/-- a sector round the ring -/
theorem c_R_onRing (l : Launch) (D : va_G) (cb ci cz : ClassId) (a : Nat) (ha : a < 2 ^ 31) (sz : Nat) : Met l yX0_onRing wsX0_onRing rm_R_onRing (va_Pc [.int (nI a)] (j_pre D (jT cb ci cz) [] sz)) (va_Qi (fun (x : Int32) (_ : Unit) => x = nI (a % 40)) (j_post D (jT cb ci cz) (fun _ => []) (va_A [] sz)) (va_A [] sz)) 0 0 (va_A [] sz) := by
  refine j_in (Qc := fun A => (va_Qi (fun (x : Int32) (_ : Unit) => x = nI (a % 40)) (j_post D (jT cb ci cz) (fun _ => []) A) A)) (cc := cX0_onRing) (maxL := 1) (ret := (some .int)) (by decide) rfl (Nat.le_of_ble_eq_true rfl) ?_
  intro p e s m av below meth c A ls H locs hx hb hr hml hts hown hlk hin hA hP hK hD hS hl
  have hown : s.vm.findClass RX0 = some m.cls := hown
  have hl : lv_has ls 1 [(0, .int (nI a))] := hl
  refine lv_iload_n hx hb dX0_onRing_0 rfl (lv_at hl 0 rfl) ?_
  refine lv_bipush (v := (nI 40)) hx hb dX0_onRing_1 (by decide +kernel) ?_
  refine j_calli (wr := []) hP hD hS hA [] [] rfl rfl (by decide) (by decide) (va_runS (As := [.int (nI a), .int (nI 40)]) (rest := []) ⟨hx, hb, hml, hown, hts⟩ (c_J_floorMod l D cb ci cz a 40 ha (by decide) (by decide) H.size) (va_cwS 2 hts gX0_onRing_J9_floorMod_7cf53 rfl rfl rfl (by decide +kernel) ⟨Nat.le_of_ble_eq_true rfl, Nat.le_of_ble_eq_true rfl⟩) (j_preS [] [0, 1, 2] hK hP hD rfl rfl rfl rfl) rfl rfl hl.1 rfl (lv_room (Nat.le_of_ble_eq_true rfl)) dX0_onRing_3 ⟨Nat.le_of_ble_eq_true rfl, Nat.le_of_ble_eq_true rfl⟩) (fun r3 u9 H locs hw hP hD hS => ?_)
  have hP : va_P D vwCl [] H := hP
  have hD : va_D A [] := hD
  have hw : r3 = (nI (a % 40)) := hw
  subst hw
  exact j_iret (v := (nI (a % 40))) (()) hx hb hr hlk hK hP hD hS (rfl) dX0_onRing_6
abbrev rm_R_place : Room := { frames := 1, cells := 0, slots := 0, locals := 22 }
set_option maxHeartbeats 4000000 in
set_option maxRecDepth 100000 in
/-- the place of byte i of what stands from sector a on -/
theorem c_R_place (l : Launch) (D : va_G) (cb ci cz : ClassId) (a i : Nat) (ha : a < 40) (hi : i < 1000) (sz : Nat) : Met l yX0_place wsX0_place rm_R_place (va_Pc [.int (nI a), .int (nI i)] (j_pre D (jT cb ci cz) [] sz)) (va_Qi (fun (x : Int32) (_ : Unit) => x = nI ((12 * a + i) % 480)) (j_post D (jT cb ci cz) (fun _ => []) (va_A [] sz)) (va_A [] sz)) 0 0 (va_A [] sz) := by
  refine j_in (Qc := fun A => (va_Qi (fun (x : Int32) (_ : Unit) => x = nI ((12 * a + i) % 480)) (j_post D (jT cb ci cz) (fun _ => []) A) A)) (cc := cX0_place) (maxL := 2) (ret := (some .int)) (by decide) rfl (Nat.le_of_ble_eq_true rfl) ?_
  intro p e s m av below meth c A ls H locs hx hb hr hml hts hown hlk hin hA hP hK hD hS hl
  have hown : s.vm.findClass RX0 = some m.cls := hown
  have hl : lv_has ls 2 [(0, .int (nI a)), (1, .int (nI i))] := hl
  refine lv_iload_n hx hb dX0_place_0 rfl (lv_at hl 0 rfl) ?_
  refine lv_bipush (v := (nI 12)) hx hb dX0_place_1 (by decide +kernel) ?_
  refine lv_imul hx hb dX0_place_3 ?_
  refine jt_i (y := (nI (12 * a))) ((pk_mul a 12).trans (by rw [Nat.mul_comm])) ?_
  refine lv_iload_n hx hb dX0_place_4 rfl (lv_at hl 1 rfl) ?_
  refine lv_iadd hx hb dX0_place_5 ?_
  refine jt_i (y := (nI ((12 * a) + i))) (nI_add _ _) ?_
  refine lv_sipush (v := (nI 480)) hx hb dX0_place_6 (by decide +kernel) ?_
  refine j_calli (wr := []) hP hD hS hA [] [] rfl rfl (by decide) (by decide) (va_runS (As := [.int (nI ((12 * a) + i)), .int (nI 480)]) (rest := []) ⟨hx, hb, hml, hown, hts⟩ (c_J_floorMod l D cb ci cz (12 * a + i) 480 (by omega) (by decide) (by decide) H.size) (va_cwS 2 hts gX0_place_J9_floorMod_7cf53 rfl rfl rfl (by decide +kernel) ⟨Nat.le_of_ble_eq_true rfl, Nat.le_of_ble_eq_true rfl⟩) (j_preS [] [0, 1, 2] hK hP hD rfl rfl rfl rfl) rfl rfl hl.1 rfl (lv_room (Nat.le_of_ble_eq_true rfl)) dX0_place_9 ⟨Nat.le_of_ble_eq_true rfl, Nat.le_of_ble_eq_true rfl⟩) (fun r9 u9 H locs hw hP hD hS => ?_)
  have hP : va_P D vwCl [] H := hP
  have hD : va_D A [] := hD
  have hw : r9 = (nI ((12 * a + i) % 480)) := hw
  subst hw
  exact j_iret (v := (nI ((12 * a + i) % 480))) (()) hx hb hr hlk hK hP hD hS (rfl) dX0_place_12
abbrev rm_R_sectorsFor : Room := { frames := 0, cells := 0, slots := 0, locals := 0 }
set_option maxHeartbeats 4000000 in
set_option maxRecDepth 100000 in
/-- the sectors of a bytes -/
theorem c_R_sectorsFor (l : Launch) (D : va_G) (cb ci cz : ClassId) (a : Nat) (ha : a ≤ 100) (sz : Nat) : Met l yX0_sectorsFor wsX0_sectorsFor rm_R_sectorsFor (va_Pc [.int (nI a)] (j_pre D (jT cb ci cz) [] sz)) (va_Qi (fun (x : Int32) (_ : Unit) => x = nI (jsc a)) (j_post D (jT cb ci cz) (fun _ => []) (va_A [] sz)) (va_A [] sz)) 0 0 (va_A [] sz) := by
  refine j_in (Qc := fun A => (va_Qi (fun (x : Int32) (_ : Unit) => x = nI (jsc a)) (j_post D (jT cb ci cz) (fun _ => []) A) A)) (cc := cX0_sectorsFor) (maxL := 1) (ret := (some .int)) (by decide) rfl (Nat.le_of_ble_eq_true rfl) ?_
  intro p e s m av below meth c A ls H locs hx hb hr hml hts hown hlk hin hA hP hK hD hS hl
  have hown : s.vm.findClass RX0 = some m.cls := hown
  have hl : lv_has ls 1 [(0, .int (nI a))] := hl
  refine lv_iload_n hx hb dX0_sectorsFor_0 rfl (lv_at hl 0 rfl) ?_
  refine lv_bipush (v := (nI 12)) hx hb dX0_sectorsFor_1 (by decide +kernel) ?_
  refine lv_icmp_gt (tgt := 10) hx hb dX0_sectorsFor_3 (by decide) (fun c_3_1 => ?_) (fun c_3_1 => ?_)
  · rw [nI_ltI (show 12 < 2 ^ 31 by omega) (show a < 2 ^ 31 by omega)] at c_3_1
    refine lv_iload_n hx hb dX0_sectorsFor_10 rfl (lv_at hl 0 rfl) ?_
    refine lv_bipush (v := (nI 12)) hx hb dX0_sectorsFor_11 (by decide +kernel) ?_
    refine lv_iadd hx hb dX0_sectorsFor_13 ?_
    refine jt_i (y := (nI (a + 12))) (nI_add _ _) ?_
    refine lv_iconst (v := (nI 1)) hx hb dX0_sectorsFor_14 (by decide +kernel) ?_
    refine lv_isub hx hb dX0_sectorsFor_15 ?_
    refine jt_i (y := (nI ((a + 12) - 1))) (pk_sub (by omega)) ?_
    refine lv_bipush (v := (nI 12)) hx hb dX0_sectorsFor_16 (by decide +kernel) ?_
    refine lv_idiv hx hb dX0_sectorsFor_18 (nI_ne0 (by omega) (by omega)) ?_
    refine jt_i (y := (nI (((a + 12) - 1) / 12))) (pk_div (by omega) (by omega) (by omega)) ?_
    exact j_iret (v := (nI (((a + 12) - 1) / 12))) (()) hx hb hr hlk hK hP hD hS (congrArg nI (by unfold jsc; split <;> omega)) dX0_sectorsFor_19
  · rw [nI_ltI (show 12 < 2 ^ 31 by omega) (show a < 2 ^ 31 by omega)] at c_3_1
    refine lv_iconst (v := (nI 1)) hx hb dX0_sectorsFor_6 (by decide +kernel) ?_
    refine lv_goto (tgt := 19) hx hb dX0_sectorsFor_7 (by decide) ?_
    exact j_iret (v := (nI 1)) (()) hx hb hr hlk hK hP hD hS (congrArg nI (by unfold jsc; split <;> omega)) dX0_sectorsFor_19
abbrev rm_R_records : Room := { frames := 0, cells := 0, slots := 0, locals := 0 }
set_option maxHeartbeats 4000000 in
set_option maxRecDepth 100000 in
/-- how many records -/
theorem c_R_records (l : Launch) (D : va_G) (cb ci cz : ClassId) (qr qd ql qn : Nat) (dk L N : Nat → Int32) (old us pr : Nat) (sz : Nat) : Met l yX0_records wsX0_records rm_R_records (va_Pc [.ref qr] (j_pre D (jT cb ci cz) [(qr, .inr (0, [.ref qd, .ref ql, .ref qn, .int (nI old), .int (nI us), .int (nI pr)])), (qd, .inl (cb, 480, .inl dk)), (ql, .inl (ci, 40, .inl L)), (qn, .inl (ci, 40, .inl N))] sz)) (va_Qi (fun (x : Int32) (_ : Unit) => x = nI pr) (j_post D (jT cb ci cz) (fun _ => [(qr, .inr (0, [.ref qd, .ref ql, .ref qn, .int (nI old), .int (nI us), .int (nI pr)])), (qd, .inl (cb, 480, .inl dk)), (ql, .inl (ci, 40, .inl L)), (qn, .inl (ci, 40, .inl N))]) (va_A [(qr, .inr (0, [.ref qd, .ref ql, .ref qn, .int (nI old), .int (nI us), .int (nI pr)])), (qd, .inl (cb, 480, .inl dk)), (ql, .inl (ci, 40, .inl L)), (qn, .inl (ci, 40, .inl N))] sz)) (va_A [(qr, .inr (0, [.ref qd, .ref ql, .ref qn, .int (nI old), .int (nI us), .int (nI pr)])), (qd, .inl (cb, 480, .inl dk)), (ql, .inl (ci, 40, .inl L)), (qn, .inl (ci, 40, .inl N))] sz)) 0 0 (va_A [(qr, .inr (0, [.ref qd, .ref ql, .ref qn, .int (nI old), .int (nI us), .int (nI pr)])), (qd, .inl (cb, 480, .inl dk)), (ql, .inl (ci, 40, .inl L)), (qn, .inl (ci, 40, .inl N))] sz) := by
  refine j_in (Qc := fun A => (va_Qi (fun (x : Int32) (_ : Unit) => x = nI pr) (j_post D (jT cb ci cz) (fun _ => [(qr, .inr (0, [.ref qd, .ref ql, .ref qn, .int (nI old), .int (nI us), .int (nI pr)])), (qd, .inl (cb, 480, .inl dk)), (ql, .inl (ci, 40, .inl L)), (qn, .inl (ci, 40, .inl N))]) A) A)) (cc := cX0_records) (maxL := 1) (ret := (some .int)) (by decide) rfl (Nat.le_of_ble_eq_true rfl) ?_
  intro p e s m av below meth c A ls H locs hx hb hr hml hts hown hlk hin hA hP hK hD hS hl
  have hown : s.vm.findClass RX0 = some m.cls := hown
  have hl : lv_has ls 1 [(0, .ref qr)] := hl
  refine lv_aload_n hx hb dX0_records_0 rfl (lv_at hl 0 rfl) ?_
  refine va_get (D := D) (ci := 0) (v := .int (nI pr)) (C := RX0) (T := TX0) (N := 6) hx hb hts (by decide +kernel) hown hK hP 0 rfl rfl 5 (by decide) (hts (.fieldLink RX0 29 "JournalDesk$Ring" "present" "I") (by decide +kernel)) (fun _ h9 => h9) rfl dX0_records_1 ?_
  exact j_iret (v := (nI pr)) (()) hx hb hr hlk hK hP hD hS (rfl) dX0_records_4
abbrev rm_R_sectors : Room := { frames := 0, cells := 0, slots := 0, locals := 0 }
set_option maxHeartbeats 4000000 in
set_option maxRecDepth 100000 in
/-- how many sectors -/
theorem c_R_sectors (l : Launch) (D : va_G) (cb ci cz : ClassId) (qr qd ql qn : Nat) (dk L N : Nat → Int32) (old us pr : Nat) (sz : Nat) : Met l yX0_sectors wsX0_sectors rm_R_sectors (va_Pc [.ref qr] (j_pre D (jT cb ci cz) [(qr, .inr (0, [.ref qd, .ref ql, .ref qn, .int (nI old), .int (nI us), .int (nI pr)])), (qd, .inl (cb, 480, .inl dk)), (ql, .inl (ci, 40, .inl L)), (qn, .inl (ci, 40, .inl N))] sz)) (va_Qi (fun (x : Int32) (_ : Unit) => x = nI us) (j_post D (jT cb ci cz) (fun _ => [(qr, .inr (0, [.ref qd, .ref ql, .ref qn, .int (nI old), .int (nI us), .int (nI pr)])), (qd, .inl (cb, 480, .inl dk)), (ql, .inl (ci, 40, .inl L)), (qn, .inl (ci, 40, .inl N))]) (va_A [(qr, .inr (0, [.ref qd, .ref ql, .ref qn, .int (nI old), .int (nI us), .int (nI pr)])), (qd, .inl (cb, 480, .inl dk)), (ql, .inl (ci, 40, .inl L)), (qn, .inl (ci, 40, .inl N))] sz)) (va_A [(qr, .inr (0, [.ref qd, .ref ql, .ref qn, .int (nI old), .int (nI us), .int (nI pr)])), (qd, .inl (cb, 480, .inl dk)), (ql, .inl (ci, 40, .inl L)), (qn, .inl (ci, 40, .inl N))] sz)) 0 0 (va_A [(qr, .inr (0, [.ref qd, .ref ql, .ref qn, .int (nI old), .int (nI us), .int (nI pr)])), (qd, .inl (cb, 480, .inl dk)), (ql, .inl (ci, 40, .inl L)), (qn, .inl (ci, 40, .inl N))] sz) := by
  refine j_in (Qc := fun A => (va_Qi (fun (x : Int32) (_ : Unit) => x = nI us) (j_post D (jT cb ci cz) (fun _ => [(qr, .inr (0, [.ref qd, .ref ql, .ref qn, .int (nI old), .int (nI us), .int (nI pr)])), (qd, .inl (cb, 480, .inl dk)), (ql, .inl (ci, 40, .inl L)), (qn, .inl (ci, 40, .inl N))]) A) A)) (cc := cX0_sectors) (maxL := 1) (ret := (some .int)) (by decide) rfl (Nat.le_of_ble_eq_true rfl) ?_
  intro p e s m av below meth c A ls H locs hx hb hr hml hts hown hlk hin hA hP hK hD hS hl
  have hown : s.vm.findClass RX0 = some m.cls := hown
  have hl : lv_has ls 1 [(0, .ref qr)] := hl
  refine lv_aload_n hx hb dX0_sectors_0 rfl (lv_at hl 0 rfl) ?_
  refine va_get (D := D) (ci := 0) (v := .int (nI us)) (C := RX0) (T := TX0) (N := 6) hx hb hts (by decide +kernel) hown hK hP 0 rfl rfl 4 (by decide) (hts (.fieldLink RX0 26 "JournalDesk$Ring" "used" "I") (by decide +kernel)) (fun _ h9 => h9) rfl dX0_sectors_1 ?_
  exact j_iret (v := (nI us)) (()) hx hb hr hlk hK hP hD hS (rfl) dX0_sectors_4
abbrev rm_R_hasRoom : Room := { frames := 0, cells := 0, slots := 0, locals := 0 }
set_option maxHeartbeats 4000000 in
set_option maxRecDepth 100000 in
/-- whether a sectors more find room -/
theorem c_R_hasRoom (l : Launch) (D : va_G) (cb ci cz : ClassId) (qr qd ql qn : Nat) (dk L N : Nat → Int32) (old us pr : Nat) (a : Nat) (ha : a < 2 ^ 30) (hu : us ≤ 40) (sz : Nat) : Met l yX0_hasRoom wsX0_hasRoom rm_R_hasRoom (va_Pc [.ref qr, .int (nI a)] (j_pre D (jT cb ci cz) [(qr, .inr (0, [.ref qd, .ref ql, .ref qn, .int (nI old), .int (nI us), .int (nI pr)])), (qd, .inl (cb, 480, .inl dk)), (ql, .inl (ci, 40, .inl L)), (qn, .inl (ci, 40, .inl N))] sz)) (va_Qi (fun (x : Int32) (_ : Unit) => x = jbi (decide (us + a ≤ 40))) (j_post D (jT cb ci cz) (fun _ => [(qr, .inr (0, [.ref qd, .ref ql, .ref qn, .int (nI old), .int (nI us), .int (nI pr)])), (qd, .inl (cb, 480, .inl dk)), (ql, .inl (ci, 40, .inl L)), (qn, .inl (ci, 40, .inl N))]) (va_A [(qr, .inr (0, [.ref qd, .ref ql, .ref qn, .int (nI old), .int (nI us), .int (nI pr)])), (qd, .inl (cb, 480, .inl dk)), (ql, .inl (ci, 40, .inl L)), (qn, .inl (ci, 40, .inl N))] sz)) (va_A [(qr, .inr (0, [.ref qd, .ref ql, .ref qn, .int (nI old), .int (nI us), .int (nI pr)])), (qd, .inl (cb, 480, .inl dk)), (ql, .inl (ci, 40, .inl L)), (qn, .inl (ci, 40, .inl N))] sz)) 0 0 (va_A [(qr, .inr (0, [.ref qd, .ref ql, .ref qn, .int (nI old), .int (nI us), .int (nI pr)])), (qd, .inl (cb, 480, .inl dk)), (ql, .inl (ci, 40, .inl L)), (qn, .inl (ci, 40, .inl N))] sz) := by
  refine j_in (Qc := fun A => (va_Qi (fun (x : Int32) (_ : Unit) => x = jbi (decide (us + a ≤ 40))) (j_post D (jT cb ci cz) (fun _ => [(qr, .inr (0, [.ref qd, .ref ql, .ref qn, .int (nI old), .int (nI us), .int (nI pr)])), (qd, .inl (cb, 480, .inl dk)), (ql, .inl (ci, 40, .inl L)), (qn, .inl (ci, 40, .inl N))]) A) A)) (cc := cX0_hasRoom) (maxL := 2) (ret := (some .boolean)) (by decide) rfl (Nat.le_of_ble_eq_true rfl) ?_
  intro p e s m av below meth c A ls H locs hx hb hr hml hts hown hlk hin hA hP hK hD hS hl
  have hown : s.vm.findClass RX0 = some m.cls := hown
  have hl : lv_has ls 2 [(0, .ref qr), (1, .int (nI a))] := hl
  refine lv_iload_n hx hb dX0_hasRoom_0 rfl (lv_at hl 1 rfl) ?_
  refine lv_bipush (v := (nI 40)) hx hb dX0_hasRoom_1 (by decide +kernel) ?_
  refine lv_aload_n hx hb dX0_hasRoom_3 rfl (lv_at hl 0 rfl) ?_
  refine va_get (D := D) (ci := 0) (v := .int (nI us)) (C := RX0) (T := TX0) (N := 6) hx hb hts (by decide +kernel) hown hK hP 0 rfl rfl 4 (by decide) (hts (.fieldLink RX0 26 "JournalDesk$Ring" "used" "I") (by decide +kernel)) (fun _ h9 => h9) rfl dX0_hasRoom_4 ?_
  refine lv_isub hx hb dX0_hasRoom_7 ?_
  refine jt_i (y := (nI (40 - us))) (pk_sub (by omega)) ?_
  refine lv_icmp_gt (tgt := 15) hx hb dX0_hasRoom_8 (by decide) (fun c_8_1 => ?_) (fun c_8_1 => ?_)
  · rw [nI_ltI (show 40 - us < 2 ^ 31 by omega) (show a < 2 ^ 31 by omega)] at c_8_1
    refine lv_iconst (v := (nI 0)) hx hb dX0_hasRoom_15 (by decide +kernel) ?_
    exact j_zret (v := (nI 0)) (()) hx hb hr hlk hK hP hD hS (by decide +kernel) (by rw [decide_eq_false (by omega)]; rfl) dX0_hasRoom_16
  · rw [nI_ltI (show 40 - us < 2 ^ 31 by omega) (show a < 2 ^ 31 by omega)] at c_8_1
    refine lv_iconst (v := (nI 1)) hx hb dX0_hasRoom_11 (by decide +kernel) ?_
    refine lv_goto (tgt := 16) hx hb dX0_hasRoom_12 (by decide) ?_
    exact j_zret (v := (nI 1)) (()) hx hb hr hlk hK hP hD hS (by decide +kernel) (by rw [decide_eq_true (by omega)]; rfl) dX0_hasRoom_16
abbrev rm_R_lengthAt : Room := { frames := 2, cells := 0, slots := 0, locals := 42 }
set_option maxHeartbeats 4000000 in
set_option maxRecDepth 100000 in
/-- the length that stands at sector a -/
theorem c_R_lengthAt (l : Launch) (D : va_G) (cb ci cz : ClassId) (qr qd ql qn : Nat) (dk L N : Nat → Int32) (old us pr : Nat) (a : Nat) (ha : a < 40) (sz : Nat) : Met l yX0_lengthAt wsX0_lengthAt rm_R_lengthAt (va_Pc [.ref qr, .int (nI a)] (j_pre D (jT cb ci cz) [(qr, .inr (0, [.ref qd, .ref ql, .ref qn, .int (nI old), .int (nI us), .int (nI pr)])), (qd, .inl (cb, 480, .inl dk)), (ql, .inl (ci, 40, .inl L)), (qn, .inl (ci, 40, .inl N))] sz)) (va_Qi (fun (x : Int32) (_ : Unit) => x = L a) (j_post D (jT cb ci cz) (fun _ => [(qr, .inr (0, [.ref qd, .ref ql, .ref qn, .int (nI old), .int (nI us), .int (nI pr)])), (qd, .inl (cb, 480, .inl dk)), (ql, .inl (ci, 40, .inl L)), (qn, .inl (ci, 40, .inl N))]) (va_A [(qr, .inr (0, [.ref qd, .ref ql, .ref qn, .int (nI old), .int (nI us), .int (nI pr)])), (qd, .inl (cb, 480, .inl dk)), (ql, .inl (ci, 40, .inl L)), (qn, .inl (ci, 40, .inl N))] sz)) (va_A [(qr, .inr (0, [.ref qd, .ref ql, .ref qn, .int (nI old), .int (nI us), .int (nI pr)])), (qd, .inl (cb, 480, .inl dk)), (ql, .inl (ci, 40, .inl L)), (qn, .inl (ci, 40, .inl N))] sz)) 0 0 (va_A [(qr, .inr (0, [.ref qd, .ref ql, .ref qn, .int (nI old), .int (nI us), .int (nI pr)])), (qd, .inl (cb, 480, .inl dk)), (ql, .inl (ci, 40, .inl L)), (qn, .inl (ci, 40, .inl N))] sz) := by
  refine j_in (Qc := fun A => (va_Qi (fun (x : Int32) (_ : Unit) => x = L a) (j_post D (jT cb ci cz) (fun _ => [(qr, .inr (0, [.ref qd, .ref ql, .ref qn, .int (nI old), .int (nI us), .int (nI pr)])), (qd, .inl (cb, 480, .inl dk)), (ql, .inl (ci, 40, .inl L)), (qn, .inl (ci, 40, .inl N))]) A) A)) (cc := cX0_lengthAt) (maxL := 2) (ret := (some .int)) (by decide) rfl (Nat.le_of_ble_eq_true rfl) ?_
  intro p e s m av below meth c A ls H locs hx hb hr hml hts hown hlk hin hA hP hK hD hS hl
  have hown : s.vm.findClass RX0 = some m.cls := hown
  have hl : lv_has ls 2 [(0, .ref qr), (1, .int (nI a))] := hl
  refine lv_aload_n hx hb dX0_lengthAt_0 rfl (lv_at hl 0 rfl) ?_
  refine va_get (D := D) (ci := 0) (v := .ref ql) (C := RX0) (T := TX0) (N := 6) hx hb hts (by decide +kernel) hown hK hP 0 rfl rfl 1 (by decide) (hts (.fieldLink RX0 15 "JournalDesk$Ring" "lengths" "[I") (by decide +kernel)) (fun _ h9 => h9) rfl dX0_lengthAt_1 ?_
  refine lv_iload_n hx hb dX0_lengthAt_4 rfl (lv_at hl 1 rfl) ?_
  refine j_calli (wr := [(qr, .inr (0, [.ref qd, .ref ql, .ref qn, .int (nI old), .int (nI us), .int (nI pr)])), (qd, .inl (cb, 480, .inl dk)), (ql, .inl (ci, 40, .inl L)), (qn, .inl (ci, 40, .inl N))]) hP hD hS hA [] [0, 1, 2, 3] rfl rfl (by decide) (by decide) (va_runS (As := [.int (nI a)]) (rest := [.ref ql]) ⟨hx, hb, hml, hown, hts⟩ (c_R_onRing l D cb ci cz a (by omega) H.size) (va_cwS 1 hts gX0_lengthAt_X0_onRing rfl rfl rfl (by decide +kernel) ⟨Nat.le_of_ble_eq_true rfl, Nat.le_of_ble_eq_true rfl⟩) (j_preS [] [0, 1, 2] hK hP hD rfl rfl rfl rfl) rfl rfl hl.1 rfl (lv_room (Nat.le_of_ble_eq_true rfl)) dX0_lengthAt_5 ⟨Nat.le_of_ble_eq_true rfl, Nat.le_of_ble_eq_true rfl⟩) (fun r5 u9 H locs hw hP hD hS => ?_)
  have hP : va_P D vwCl [(qr, .inr (0, [.ref qd, .ref ql, .ref qn, .int (nI old), .int (nI us), .int (nI pr)])), (qd, .inl (cb, 480, .inl dk)), (ql, .inl (ci, 40, .inl L)), (qn, .inl (ci, 40, .inl N))] H := hP
  have hD : va_D A [(qr, .inr (0, [.ref qd, .ref ql, .ref qn, .int (nI old), .int (nI us), .int (nI pr)])), (qd, .inl (cb, 480, .inl dk)), (ql, .inl (ci, 40, .inl L)), (qn, .inl (ci, 40, .inl N))] := hD
  have hw : r5 = (nI (a % 40)) := hw
  subst hw
  refine jt_i (y := nI a) (congrArg nI (Nat.mod_eq_of_lt ha)) ?_
  refine j_iald hx hb hK hP 2 1 rfl rfl (i := a) (by omega) (by decide) (v := (L a)) (rfl) dX0_lengthAt_8 ?_
  exact j_iret (v := (L a)) (()) hx hb hr hlk hK hP hD hS (rfl) dX0_lengthAt_9
abbrev rm_R_numberAt : Room := { frames := 2, cells := 0, slots := 0, locals := 42 }
set_option maxHeartbeats 4000000 in
set_option maxRecDepth 100000 in
/-- the number that stands at sector a -/
theorem c_R_numberAt (l : Launch) (D : va_G) (cb ci cz : ClassId) (qr qd ql qn : Nat) (dk L N : Nat → Int32) (old us pr : Nat) (a : Nat) (ha : a < 40) (sz : Nat) : Met l yX0_numberAt wsX0_numberAt rm_R_numberAt (va_Pc [.ref qr, .int (nI a)] (j_pre D (jT cb ci cz) [(qr, .inr (0, [.ref qd, .ref ql, .ref qn, .int (nI old), .int (nI us), .int (nI pr)])), (qd, .inl (cb, 480, .inl dk)), (ql, .inl (ci, 40, .inl L)), (qn, .inl (ci, 40, .inl N))] sz)) (va_Qi (fun (x : Int32) (_ : Unit) => x = N a) (j_post D (jT cb ci cz) (fun _ => [(qr, .inr (0, [.ref qd, .ref ql, .ref qn, .int (nI old), .int (nI us), .int (nI pr)])), (qd, .inl (cb, 480, .inl dk)), (ql, .inl (ci, 40, .inl L)), (qn, .inl (ci, 40, .inl N))]) (va_A [(qr, .inr (0, [.ref qd, .ref ql, .ref qn, .int (nI old), .int (nI us), .int (nI pr)])), (qd, .inl (cb, 480, .inl dk)), (ql, .inl (ci, 40, .inl L)), (qn, .inl (ci, 40, .inl N))] sz)) (va_A [(qr, .inr (0, [.ref qd, .ref ql, .ref qn, .int (nI old), .int (nI us), .int (nI pr)])), (qd, .inl (cb, 480, .inl dk)), (ql, .inl (ci, 40, .inl L)), (qn, .inl (ci, 40, .inl N))] sz)) 0 0 (va_A [(qr, .inr (0, [.ref qd, .ref ql, .ref qn, .int (nI old), .int (nI us), .int (nI pr)])), (qd, .inl (cb, 480, .inl dk)), (ql, .inl (ci, 40, .inl L)), (qn, .inl (ci, 40, .inl N))] sz) := by
  refine j_in (Qc := fun A => (va_Qi (fun (x : Int32) (_ : Unit) => x = N a) (j_post D (jT cb ci cz) (fun _ => [(qr, .inr (0, [.ref qd, .ref ql, .ref qn, .int (nI old), .int (nI us), .int (nI pr)])), (qd, .inl (cb, 480, .inl dk)), (ql, .inl (ci, 40, .inl L)), (qn, .inl (ci, 40, .inl N))]) A) A)) (cc := cX0_numberAt) (maxL := 2) (ret := (some .int)) (by decide) rfl (Nat.le_of_ble_eq_true rfl) ?_
  intro p e s m av below meth c A ls H locs hx hb hr hml hts hown hlk hin hA hP hK hD hS hl
  have hown : s.vm.findClass RX0 = some m.cls := hown
  have hl : lv_has ls 2 [(0, .ref qr), (1, .int (nI a))] := hl
  refine lv_aload_n hx hb dX0_numberAt_0 rfl (lv_at hl 0 rfl) ?_
  refine va_get (D := D) (ci := 0) (v := .ref qn) (C := RX0) (T := TX0) (N := 6) hx hb hts (by decide +kernel) hown hK hP 0 rfl rfl 2 (by decide) (hts (.fieldLink RX0 19 "JournalDesk$Ring" "numbers" "[I") (by decide +kernel)) (fun _ h9 => h9) rfl dX0_numberAt_1 ?_
  refine lv_iload_n hx hb dX0_numberAt_4 rfl (lv_at hl 1 rfl) ?_
  refine j_calli (wr := [(qr, .inr (0, [.ref qd, .ref ql, .ref qn, .int (nI old), .int (nI us), .int (nI pr)])), (qd, .inl (cb, 480, .inl dk)), (ql, .inl (ci, 40, .inl L)), (qn, .inl (ci, 40, .inl N))]) hP hD hS hA [] [0, 1, 2, 3] rfl rfl (by decide) (by decide) (va_runS (As := [.int (nI a)]) (rest := [.ref qn]) ⟨hx, hb, hml, hown, hts⟩ (c_R_onRing l D cb ci cz a (by omega) H.size) (va_cwS 1 hts gX0_numberAt_X0_onRing rfl rfl rfl (by decide +kernel) ⟨Nat.le_of_ble_eq_true rfl, Nat.le_of_ble_eq_true rfl⟩) (j_preS [] [0, 1, 2] hK hP hD rfl rfl rfl rfl) rfl rfl hl.1 rfl (lv_room (Nat.le_of_ble_eq_true rfl)) dX0_numberAt_5 ⟨Nat.le_of_ble_eq_true rfl, Nat.le_of_ble_eq_true rfl⟩) (fun r5 u9 H locs hw hP hD hS => ?_)
  have hP : va_P D vwCl [(qr, .inr (0, [.ref qd, .ref ql, .ref qn, .int (nI old), .int (nI us), .int (nI pr)])), (qd, .inl (cb, 480, .inl dk)), (ql, .inl (ci, 40, .inl L)), (qn, .inl (ci, 40, .inl N))] H := hP
  have hD : va_D A [(qr, .inr (0, [.ref qd, .ref ql, .ref qn, .int (nI old), .int (nI us), .int (nI pr)])), (qd, .inl (cb, 480, .inl dk)), (ql, .inl (ci, 40, .inl L)), (qn, .inl (ci, 40, .inl N))] := hD
  have hw : r5 = (nI (a % 40)) := hw
  subst hw
  refine jt_i (y := nI a) (congrArg nI (Nat.mod_eq_of_lt ha)) ?_
  refine j_iald hx hb hK hP 3 1 rfl rfl (i := a) (by omega) (by decide) (v := (N a)) (rfl) dX0_numberAt_8 ?_
  exact j_iret (v := (N a)) (()) hx hb hr hlk hK hP hD hS (rfl) dX0_numberAt_9
abbrev rm_R_isRecord : Room := { frames := 3, cells := 0, slots := 0, locals := 63 }
set_option maxHeartbeats 4000000 in
set_option maxRecDepth 100000 in
/-- whether a record begins at sector a -/
theorem c_R_isRecord (l : Launch) (D : va_G) (cb ci cz : ClassId) (qr qd ql qn : Nat) (dk L N : Nat → Int32) (old us pr : Nat) (a : Nat) (b : Bool) (w : Nat) (ha : a < 40) (hw0 : w ≤ 100) (hL : L a = if b = true then nI w else -1) (sz : Nat) : Met l yX0_isRecord wsX0_isRecord rm_R_isRecord (va_Pc [.ref qr, .int (nI a)] (j_pre D (jT cb ci cz) [(qr, .inr (0, [.ref qd, .ref ql, .ref qn, .int (nI old), .int (nI us), .int (nI pr)])), (qd, .inl (cb, 480, .inl dk)), (ql, .inl (ci, 40, .inl L)), (qn, .inl (ci, 40, .inl N))] sz)) (va_Qi (fun (x : Int32) (_ : Unit) => x = jbi b) (j_post D (jT cb ci cz) (fun _ => [(qr, .inr (0, [.ref qd, .ref ql, .ref qn, .int (nI old), .int (nI us), .int (nI pr)])), (qd, .inl (cb, 480, .inl dk)), (ql, .inl (ci, 40, .inl L)), (qn, .inl (ci, 40, .inl N))]) (va_A [(qr, .inr (0, [.ref qd, .ref ql, .ref qn, .int (nI old), .int (nI us), .int (nI pr)])), (qd, .inl (cb, 480, .inl dk)), (ql, .inl (ci, 40, .inl L)), (qn, .inl (ci, 40, .inl N))] sz)) (va_A [(qr, .inr (0, [.ref qd, .ref ql, .ref qn, .int (nI old), .int (nI us), .int (nI pr)])), (qd, .inl (cb, 480, .inl dk)), (ql, .inl (ci, 40, .inl L)), (qn, .inl (ci, 40, .inl N))] sz)) 0 0 (va_A [(qr, .inr (0, [.ref qd, .ref ql, .ref qn, .int (nI old), .int (nI us), .int (nI pr)])), (qd, .inl (cb, 480, .inl dk)), (ql, .inl (ci, 40, .inl L)), (qn, .inl (ci, 40, .inl N))] sz) := by
  refine j_in (Qc := fun A => (va_Qi (fun (x : Int32) (_ : Unit) => x = jbi b) (j_post D (jT cb ci cz) (fun _ => [(qr, .inr (0, [.ref qd, .ref ql, .ref qn, .int (nI old), .int (nI us), .int (nI pr)])), (qd, .inl (cb, 480, .inl dk)), (ql, .inl (ci, 40, .inl L)), (qn, .inl (ci, 40, .inl N))]) A) A)) (cc := cX0_isRecord) (maxL := 2) (ret := (some .boolean)) (by decide) rfl (Nat.le_of_ble_eq_true rfl) ?_
  intro p e s m av below meth c A ls H locs hx hb hr hml hts hown hlk hin hA hP hK hD hS hl
  have hown : s.vm.findClass RX0 = some m.cls := hown
  have hl : lv_has ls 2 [(0, .ref qr), (1, .int (nI a))] := hl
  refine lv_aload_n hx hb dX0_isRecord_0 rfl (lv_at hl 0 rfl) ?_
  refine lv_iload_n hx hb dX0_isRecord_1 rfl (lv_at hl 1 rfl) ?_
  refine j_calli (wr := []) hP hD hS hA [0, 1, 2, 3] [] rfl rfl (by decide) (by decide) (va_runV (As := [.int (nI a)]) (rest := []) ⟨hx, hb, hml, hown, hts⟩ (c_R_lengthAt l D cb ci cz qr qd ql qn dk L N old us pr a ha H.size) (cwV 1 hts gX0_isRecord_X0_lengthAt rfl rfl rfl (by decide +kernel) ⟨Nat.le_of_ble_eq_true rfl, Nat.le_of_ble_eq_true rfl⟩) (j_preV (ci := 0) (q0 := 0) [0, 1, 2, 3] [0, 1, 2] hK hP hD rfl rfl rfl rfl rfl rfl) rfl rfl hl.1 rfl (lv_room (Nat.le_of_ble_eq_true rfl)) dX0_isRecord_2 ⟨Nat.le_of_ble_eq_true rfl, Nat.le_of_ble_eq_true rfl⟩) (fun r2 u9 H locs hw hP hD hS => ?_)
  have hP : va_P D vwCl [(qr, .inr (0, [.ref qd, .ref ql, .ref qn, .int (nI old), .int (nI us), .int (nI pr)])), (qd, .inl (cb, 480, .inl dk)), (ql, .inl (ci, 40, .inl L)), (qn, .inl (ci, 40, .inl N))] H := hP
  have hD : va_D A [(qr, .inr (0, [.ref qd, .ref ql, .ref qn, .int (nI old), .int (nI us), .int (nI pr)])), (qd, .inl (cb, 480, .inl dk)), (ql, .inl (ci, 40, .inl L)), (qn, .inl (ci, 40, .inl N))] := hD
  have hw : r2 = (L a) := hw
  subst hw
  refine lv_iconst (v := (-1)) hx hb dX0_isRecord_5 (by decide +kernel) ?_
  refine lv_icmp_eq (tgt := 13) hx hb dX0_isRecord_6 (by decide) (fun c_6_1 => ?_) (fun c_6_1 => ?_)
  · have hb1 : b = false := (j_lb hw0 hL).mp c_6_1
    refine lv_iconst (v := (nI 0)) hx hb dX0_isRecord_13 (by decide +kernel) ?_
    exact j_zret (v := (nI 0)) (()) hx hb hr hlk hK hP hD hS (by decide +kernel) (by rw [hb1]; rfl) dX0_isRecord_14
  · have hb1 : b = true := j_lbt hw0 hL c_6_1
    refine lv_iconst (v := (nI 1)) hx hb dX0_isRecord_9 (by decide +kernel) ?_
    refine lv_goto (tgt := 14) hx hb dX0_isRecord_10 (by decide) ?_
    exact j_zret (v := (nI 1)) (()) hx hb hr hlk hK hP hD hS (by decide +kernel) (by rw [hb1]; rfl) dX0_isRecord_14
abbrev rm_R_sectorsAt : Room := { frames := 4, cells := 0, slots := 0, locals := 84 }
set_option maxHeartbeats 4000000 in
set_option maxRecDepth 100000 in
/-- the sectors of the entry that begins at sector a -/
theorem c_R_sectorsAt (l : Launch) (D : va_G) (cb ci cz : ClassId) (qr qd ql qn : Nat) (dk L N : Nat → Int32) (old us pr : Nat) (a : Nat) (b : Bool) (w : Nat) (ha : a < 40) (hw0 : w ≤ 100) (hL : L a = if b = true then nI w else -1) (sz : Nat) : Met l yX0_sectorsAt wsX0_sectorsAt rm_R_sectorsAt (va_Pc [.ref qr, .int (nI a)] (j_pre D (jT cb ci cz) [(qr, .inr (0, [.ref qd, .ref ql, .ref qn, .int (nI old), .int (nI us), .int (nI pr)])), (qd, .inl (cb, 480, .inl dk)), (ql, .inl (ci, 40, .inl L)), (qn, .inl (ci, 40, .inl N))] sz)) (va_Qi (fun (x : Int32) (_ : Unit) => x = nI (if b = true then jsc w else 1)) (j_post D (jT cb ci cz) (fun _ => [(qr, .inr (0, [.ref qd, .ref ql, .ref qn, .int (nI old), .int (nI us), .int (nI pr)])), (qd, .inl (cb, 480, .inl dk)), (ql, .inl (ci, 40, .inl L)), (qn, .inl (ci, 40, .inl N))]) (va_A [(qr, .inr (0, [.ref qd, .ref ql, .ref qn, .int (nI old), .int (nI us), .int (nI pr)])), (qd, .inl (cb, 480, .inl dk)), (ql, .inl (ci, 40, .inl L)), (qn, .inl (ci, 40, .inl N))] sz)) (va_A [(qr, .inr (0, [.ref qd, .ref ql, .ref qn, .int (nI old), .int (nI us), .int (nI pr)])), (qd, .inl (cb, 480, .inl dk)), (ql, .inl (ci, 40, .inl L)), (qn, .inl (ci, 40, .inl N))] sz)) 0 0 (va_A [(qr, .inr (0, [.ref qd, .ref ql, .ref qn, .int (nI old), .int (nI us), .int (nI pr)])), (qd, .inl (cb, 480, .inl dk)), (ql, .inl (ci, 40, .inl L)), (qn, .inl (ci, 40, .inl N))] sz) := by
  refine j_in (Qc := fun A => (va_Qi (fun (x : Int32) (_ : Unit) => x = nI (if b = true then jsc w else 1)) (j_post D (jT cb ci cz) (fun _ => [(qr, .inr (0, [.ref qd, .ref ql, .ref qn, .int (nI old), .int (nI us), .int (nI pr)])), (qd, .inl (cb, 480, .inl dk)), (ql, .inl (ci, 40, .inl L)), (qn, .inl (ci, 40, .inl N))]) A) A)) (cc := cX0_sectorsAt) (maxL := 2) (ret := (some .int)) (by decide) rfl (Nat.le_of_ble_eq_true rfl) ?_
  intro p e s m av below meth c A ls H locs hx hb hr hml hts hown hlk hin hA hP hK hD hS hl
  have hown : s.vm.findClass RX0 = some m.cls := hown
  have hl : lv_has ls 2 [(0, .ref qr), (1, .int (nI a))] := hl
  refine lv_aload_n hx hb dX0_sectorsAt_0 rfl (lv_at hl 0 rfl) ?_
  refine lv_iload_n hx hb dX0_sectorsAt_1 rfl (lv_at hl 1 rfl) ?_
  refine j_calli (wr := []) hP hD hS hA [0, 1, 2, 3] [] rfl rfl (by decide) (by decide) (va_runV (As := [.int (nI a)]) (rest := []) ⟨hx, hb, hml, hown, hts⟩ (c_R_isRecord l D cb ci cz qr qd ql qn dk L N old us pr a b w ha hw0 hL H.size) (cwV 1 hts gX0_sectorsAt_X0_isRecord rfl rfl rfl (by decide +kernel) ⟨Nat.le_of_ble_eq_true rfl, Nat.le_of_ble_eq_true rfl⟩) (j_preV (ci := 0) (q0 := 0) [0, 1, 2, 3] [0, 1, 2] hK hP hD rfl rfl rfl rfl rfl rfl) rfl rfl hl.1 rfl (lv_room (Nat.le_of_ble_eq_true rfl)) dX0_sectorsAt_2 ⟨Nat.le_of_ble_eq_true rfl, Nat.le_of_ble_eq_true rfl⟩) (fun r2 u9 H locs hw hP hD hS => ?_)
  have hP : va_P D vwCl [(qr, .inr (0, [.ref qd, .ref ql, .ref qn, .int (nI old), .int (nI us), .int (nI pr)])), (qd, .inl (cb, 480, .inl dk)), (ql, .inl (ci, 40, .inl L)), (qn, .inl (ci, 40, .inl N))] H := hP
  have hD : va_D A [(qr, .inr (0, [.ref qd, .ref ql, .ref qn, .int (nI old), .int (nI us), .int (nI pr)])), (qd, .inl (cb, 480, .inl dk)), (ql, .inl (ci, 40, .inl L)), (qn, .inl (ci, 40, .inl N))] := hD
  have hw : r2 = (jbi b) := hw
  subst hw
  refine lv_if_eq (tgt := 19) hx hb dX0_sectorsAt_5 (by decide) (fun c_5_1 => ?_) (fun c_5_1 => ?_)
  · have hb1 : b = false := jbi_0.mp c_5_1
    refine lv_iconst (v := (nI 1)) hx hb dX0_sectorsAt_19 (by decide +kernel) ?_
    exact j_iret (v := (nI 1)) (()) hx hb hr hlk hK hP hD hS (by rw [hb1]; rfl) dX0_sectorsAt_20
  · have hb1 : b = true := jbi_n0.mp c_5_1
    refine lv_aload_n hx hb dX0_sectorsAt_8 rfl (lv_at hl 0 rfl) ?_
    refine lv_iload_n hx hb dX0_sectorsAt_9 rfl (lv_at hl 1 rfl) ?_
    refine j_calli (wr := []) hP hD hS hA [0, 1, 2, 3] [] rfl rfl (by decide) (by decide) (va_runV (As := [.int (nI a)]) (rest := []) ⟨hx, hb, hml, hown, hts⟩ (c_R_lengthAt l D cb ci cz qr qd ql qn dk L N old us pr a ha H.size) (cwV 1 hts gX0_sectorsAt_X0_lengthAt rfl rfl rfl (by decide +kernel) ⟨Nat.le_of_ble_eq_true rfl, Nat.le_of_ble_eq_true rfl⟩) (j_preV (ci := 0) (q0 := 0) [0, 1, 2, 3] [0, 1, 2] hK hP hD rfl rfl rfl rfl rfl rfl) rfl rfl hl.1 rfl (lv_room (Nat.le_of_ble_eq_true rfl)) dX0_sectorsAt_10 ⟨Nat.le_of_ble_eq_true rfl, Nat.le_of_ble_eq_true rfl⟩) (fun r10 u9 H locs hw hP hD hS => ?_)
    have hP : va_P D vwCl [(qr, .inr (0, [.ref qd, .ref ql, .ref qn, .int (nI old), .int (nI us), .int (nI pr)])), (qd, .inl (cb, 480, .inl dk)), (ql, .inl (ci, 40, .inl L)), (qn, .inl (ci, 40, .inl N))] H := hP
    have hD : va_D A [(qr, .inr (0, [.ref qd, .ref ql, .ref qn, .int (nI old), .int (nI us), .int (nI pr)])), (qd, .inl (cb, 480, .inl dk)), (ql, .inl (ci, 40, .inl L)), (qn, .inl (ci, 40, .inl N))] := hD
    have hw : r10 = (L a) := hw
    subst hw
    refine jt_i (y := nI w) (by rw [hL, hb1]; rfl) ?_
    refine j_calli (wr := [(qr, .inr (0, [.ref qd, .ref ql, .ref qn, .int (nI old), .int (nI us), .int (nI pr)])), (qd, .inl (cb, 480, .inl dk)), (ql, .inl (ci, 40, .inl L)), (qn, .inl (ci, 40, .inl N))]) hP hD hS hA [] [0, 1, 2, 3] rfl rfl (by decide) (by decide) (va_runS (As := [.int (nI w)]) (rest := []) ⟨hx, hb, hml, hown, hts⟩ (c_R_sectorsFor l D cb ci cz w hw0 H.size) (va_cwS 1 hts gX0_sectorsAt_X0_sectorsFor rfl rfl rfl (by decide +kernel) ⟨Nat.le_of_ble_eq_true rfl, Nat.le_of_ble_eq_true rfl⟩) (j_preS [] [0, 1, 2] hK hP hD rfl rfl rfl rfl) rfl rfl hl.1 rfl (lv_room (Nat.le_of_ble_eq_true rfl)) dX0_sectorsAt_13 ⟨Nat.le_of_ble_eq_true rfl, Nat.le_of_ble_eq_true rfl⟩) (fun r13 u9 H locs hw hP hD hS => ?_)
    have hP : va_P D vwCl [(qr, .inr (0, [.ref qd, .ref ql, .ref qn, .int (nI old), .int (nI us), .int (nI pr)])), (qd, .inl (cb, 480, .inl dk)), (ql, .inl (ci, 40, .inl L)), (qn, .inl (ci, 40, .inl N))] H := hP
    have hD : va_D A [(qr, .inr (0, [.ref qd, .ref ql, .ref qn, .int (nI old), .int (nI us), .int (nI pr)])), (qd, .inl (cb, 480, .inl dk)), (ql, .inl (ci, 40, .inl L)), (qn, .inl (ci, 40, .inl N))] := hD
    have hw : r13 = (nI (jsc w)) := hw
    subst hw
    refine lv_goto (tgt := 20) hx hb dX0_sectorsAt_16 (by decide) ?_
    exact j_iret (v := (nI (jsc w))) (()) hx hb hr hlk hK hP hD hS (by rw [hb1]; rfl) dX0_sectorsAt_20
abbrev rm_R_addEntry : Room := { frames := 2, cells := 0, slots := 0, locals := 42 }
set_option maxHeartbeats 4000000 in
set_option maxRecDepth 100000 in
/-- an entry of sc sectors comes behind the others -/
theorem c_R_addEntry (l : Launch) (D : va_G) (cb ci cz : ClassId) (qr qd ql qn : Nat) (dk L N : Nat → Int32) (old us pr : Nat) (len : Int32) (sc : Nat) (ho : old < 40) (hu : us ≤ 40) (hs : sc ≤ 40) (sz : Nat) : Met l yX0_addEntry wsX0_addEntry rm_R_addEntry (va_Pc [.ref qr, .int len, .int (nI sc)] (j_pre D (jT cb ci cz) [(qr, .inr (0, [.ref qd, .ref ql, .ref qn, .int (nI old), .int (nI us), .int (nI pr)])), (qd, .inl (cb, 480, .inl dk)), (ql, .inl (ci, 40, .inl L)), (qn, .inl (ci, 40, .inl N))] sz)) (va_Qi (fun (x : Int32) (_ : Unit) => x = nI ((old + us) % 40)) (j_post D (jT cb ci cz) (fun _ => [(qr, .inr (0, [.ref qd, .ref ql, .ref qn, .int (nI old), .int (nI (us + sc)), .int (nI pr)])), (qd, .inl (cb, 480, .inl dk)), (ql, .inl (ci, 40, .inl (upd L ((old + us) % 40) len))), (qn, .inl (ci, 40, .inl N))]) (va_A [(qr, .inr (0, [.ref qd, .ref ql, .ref qn, .int (nI old), .int (nI us), .int (nI pr)])), (qd, .inl (cb, 480, .inl dk)), (ql, .inl (ci, 40, .inl L)), (qn, .inl (ci, 40, .inl N))] sz)) (va_A [(qr, .inr (0, [.ref qd, .ref ql, .ref qn, .int (nI old), .int (nI us), .int (nI pr)])), (qd, .inl (cb, 480, .inl dk)), (ql, .inl (ci, 40, .inl L)), (qn, .inl (ci, 40, .inl N))] sz)) 0 0 (va_A [(qr, .inr (0, [.ref qd, .ref ql, .ref qn, .int (nI old), .int (nI us), .int (nI pr)])), (qd, .inl (cb, 480, .inl dk)), (ql, .inl (ci, 40, .inl L)), (qn, .inl (ci, 40, .inl N))] sz) := by
  refine j_in (Qc := fun A => (va_Qi (fun (x : Int32) (_ : Unit) => x = nI ((old + us) % 40)) (j_post D (jT cb ci cz) (fun _ => [(qr, .inr (0, [.ref qd, .ref ql, .ref qn, .int (nI old), .int (nI (us + sc)), .int (nI pr)])), (qd, .inl (cb, 480, .inl dk)), (ql, .inl (ci, 40, .inl (upd L ((old + us) % 40) len))), (qn, .inl (ci, 40, .inl N))]) A) A)) (cc := cX0_addEntry) (maxL := 4) (ret := (some .int)) (by decide) rfl (Nat.le_of_ble_eq_true rfl) ?_
  intro p e s m av below meth c A ls H locs hx hb hr hml hts hown hlk hin hA hP hK hD hS hl
  have hown : s.vm.findClass RX0 = some m.cls := hown
  have hl : lv_has ls 4 [(0, .ref qr), (1, .int len), (2, .int (nI sc))] := hl
  refine lv_aload_n hx hb dX0_addEntry_0 rfl (lv_at hl 0 rfl) ?_
  refine va_get (D := D) (ci := 0) (v := .int (nI old)) (C := RX0) (T := TX0) (N := 6) hx hb hts (by decide +kernel) hown hK hP 0 rfl rfl 3 (by decide) (hts (.fieldLink RX0 22 "JournalDesk$Ring" "oldest" "I") (by decide +kernel)) (fun _ h9 => h9) rfl dX0_addEntry_1 ?_
  refine lv_aload_n hx hb dX0_addEntry_4 rfl (lv_at hl 0 rfl) ?_
  refine va_get (D := D) (ci := 0) (v := .int (nI us)) (C := RX0) (T := TX0) (N := 6) hx hb hts (by decide +kernel) hown hK hP 0 rfl rfl 4 (by decide) (hts (.fieldLink RX0 26 "JournalDesk$Ring" "used" "I") (by decide +kernel)) (fun _ h9 => h9) rfl dX0_addEntry_5 ?_
  refine lv_iadd hx hb dX0_addEntry_8 ?_
  refine jt_i (y := (nI (old + us))) (nI_add _ _) ?_
  refine j_calli (wr := [(qr, .inr (0, [.ref qd, .ref ql, .ref qn, .int (nI old), .int (nI us), .int (nI pr)])), (qd, .inl (cb, 480, .inl dk)), (ql, .inl (ci, 40, .inl L)), (qn, .inl (ci, 40, .inl N))]) hP hD hS hA [] [0, 1, 2, 3] rfl rfl (by decide) (by decide) (va_runS (As := [.int (nI (old + us))]) (rest := []) ⟨hx, hb, hml, hown, hts⟩ (c_R_onRing l D cb ci cz (old + us) (by omega) H.size) (va_cwS 1 hts gX0_addEntry_X0_onRing rfl rfl rfl (by decide +kernel) ⟨Nat.le_of_ble_eq_true rfl, Nat.le_of_ble_eq_true rfl⟩) (j_preS [] [0, 1, 2] hK hP hD rfl rfl rfl rfl) rfl rfl hl.1 rfl (lv_room (Nat.le_of_ble_eq_true rfl)) dX0_addEntry_9 ⟨Nat.le_of_ble_eq_true rfl, Nat.le_of_ble_eq_true rfl⟩) (fun r9 u9 H locs hw hP hD hS => ?_)
  have hP : va_P D vwCl [(qr, .inr (0, [.ref qd, .ref ql, .ref qn, .int (nI old), .int (nI us), .int (nI pr)])), (qd, .inl (cb, 480, .inl dk)), (ql, .inl (ci, 40, .inl L)), (qn, .inl (ci, 40, .inl N))] H := hP
  have hD : va_D A [(qr, .inr (0, [.ref qd, .ref ql, .ref qn, .int (nI old), .int (nI us), .int (nI pr)])), (qd, .inl (cb, 480, .inl dk)), (ql, .inl (ci, 40, .inl L)), (qn, .inl (ci, 40, .inl N))] := hD
  have hw : r9 = (nI ((old + us) % 40)) := hw
  subst hw
  refine lv_istore_n (lv' := [(3, .int (nI ((old + us) % 40))), (0, .ref qr), (1, .int len), (2, .int (nI sc))]) hx hb dX0_addEntry_12 rfl hl (by decide) rfl (fun ls hl => ?_)
  refine lv_aload_n hx hb dX0_addEntry_13 rfl (lv_at hl 1 rfl) ?_
  refine va_get (D := D) (ci := 0) (v := .ref ql) (C := RX0) (T := TX0) (N := 6) hx hb hts (by decide +kernel) hown hK hP 0 rfl rfl 1 (by decide) (hts (.fieldLink RX0 15 "JournalDesk$Ring" "lengths" "[I") (by decide +kernel)) (fun _ h9 => h9) rfl dX0_addEntry_14 ?_
  refine lv_iload_n hx hb dX0_addEntry_17 rfl (lv_at hl 0 rfl) ?_
  refine lv_iload_n hx hb dX0_addEntry_18 rfl (lv_at hl 2 rfl) ?_
  refine j_iast hx hb hK hP hD hS 2 1 rfl rfl (i := (old + us) % 40) (by omega) (by decide) dX0_addEntry_19 (fun H locs hP hD hS => ?_)
  have hP : va_P D vwCl [(qr, .inr (0, [.ref qd, .ref ql, .ref qn, .int (nI old), .int (nI us), .int (nI pr)])), (qd, .inl (cb, 480, .inl dk)), (ql, .inl (ci, 40, .inl (upd L ((old + us) % 40) len))), (qn, .inl (ci, 40, .inl N))] H := hP
  have hD : va_D A [(qr, .inr (0, [.ref qd, .ref ql, .ref qn, .int (nI old), .int (nI us), .int (nI pr)])), (qd, .inl (cb, 480, .inl dk)), (ql, .inl (ci, 40, .inl (upd L ((old + us) % 40) len))), (qn, .inl (ci, 40, .inl N))] := hD
  refine lv_aload_n hx hb dX0_addEntry_20 rfl (lv_at hl 1 rfl) ?_
  refine lv_dup hx hb dX0_addEntry_21 rfl ?_
  refine va_get (D := D) (ci := 0) (v := .int (nI us)) (C := RX0) (T := TX0) (N := 6) hx hb hts (by decide +kernel) hown hK hP 0 rfl rfl 4 (by decide) (hts (.fieldLink RX0 26 "JournalDesk$Ring" "used" "I") (by decide +kernel)) (fun _ h9 => h9) rfl dX0_addEntry_22 ?_
  refine lv_iload_n hx hb dX0_addEntry_25 rfl (lv_at hl 3 rfl) ?_
  refine lv_iadd hx hb dX0_addEntry_26 ?_
  refine jt_i (y := (nI (us + sc))) (nI_add _ _) ?_
  refine va_put (D := D) (ci := 0) (v := .int (nI (us + sc))) (ty := .int) (C := RX0) (T := TX0) (N := 6) hx hb hts (by decide +kernel) tyX0 tyX0_ok nmX0 hown hK hP hD hS 0 rfl rfl 4 (by decide) (hts (.fieldLink RX0 26 "JournalDesk$Ring" "used" "I") (by decide +kernel)) (fun _ h9 => h9) rfl (by decide +kernel) (rfl) (rfl) (Nat.le_of_ble_eq_true rfl) dX0_addEntry_27 (fun H locs hP hD hS => ?_)
  have hP : va_P D vwCl [(qr, .inr (0, [.ref qd, .ref ql, .ref qn, .int (nI old), .int (nI (us + sc)), .int (nI pr)])), (qd, .inl (cb, 480, .inl dk)), (ql, .inl (ci, 40, .inl (upd L ((old + us) % 40) len))), (qn, .inl (ci, 40, .inl N))] H := hP
  have hD : va_D A [(qr, .inr (0, [.ref qd, .ref ql, .ref qn, .int (nI old), .int (nI (us + sc)), .int (nI pr)])), (qd, .inl (cb, 480, .inl dk)), (ql, .inl (ci, 40, .inl (upd L ((old + us) % 40) len))), (qn, .inl (ci, 40, .inl N))] := hD
  refine lv_iload_n hx hb dX0_addEntry_30 rfl (lv_at hl 0 rfl) ?_
  exact j_iret (v := (nI ((old + us) % 40))) (()) hx hb hr hlk hK hP hD hS (rfl) dX0_addEntry_31
abbrev rm_R_giveBackOldest : Room := { frames := 5, cells := 0, slots := 0, locals := 105 }
set_option maxHeartbeats 4000000 in
set_option maxRecDepth 100000 in
/-- the oldest entry gives its sectors back -/
theorem c_R_giveBackOldest (l : Launch) (D : va_G) (cb ci cz : ClassId) (qr qd ql qn : Nat) (dk L N : Nat → Int32) (old us pr : Nat) (b : Bool) (w : Nat) (ho : old < 40) (hu : us ≤ 40) (hw0 : w ≤ 100) (hL : L old = if b = true then nI w else -1) (hX : (if b = true then jsc w else 1) ≤ us) (sz : Nat) : Met l yX0_giveBackOldest wsX0_giveBackOldest rm_R_giveBackOldest (va_Pc [.ref qr] (j_pre D (jT cb ci cz) [(qr, .inr (0, [.ref qd, .ref ql, .ref qn, .int (nI old), .int (nI us), .int (nI pr)])), (qd, .inl (cb, 480, .inl dk)), (ql, .inl (ci, 40, .inl L)), (qn, .inl (ci, 40, .inl N))] sz)) (va_Qv (fun (_ : Unit) => True) (j_post D (jT cb ci cz) (fun _ => [(qr, .inr (0, [.ref qd, .ref ql, .ref qn, .int (nI ((old + (if b = true then jsc w else 1)) % 40)), .int (nI (us - (if b = true then jsc w else 1))), .int (nI pr)])), (qd, .inl (cb, 480, .inl dk)), (ql, .inl (ci, 40, .inl L)), (qn, .inl (ci, 40, .inl N))]) (va_A [(qr, .inr (0, [.ref qd, .ref ql, .ref qn, .int (nI old), .int (nI us), .int (nI pr)])), (qd, .inl (cb, 480, .inl dk)), (ql, .inl (ci, 40, .inl L)), (qn, .inl (ci, 40, .inl N))] sz)) (va_A [(qr, .inr (0, [.ref qd, .ref ql, .ref qn, .int (nI old), .int (nI us), .int (nI pr)])), (qd, .inl (cb, 480, .inl dk)), (ql, .inl (ci, 40, .inl L)), (qn, .inl (ci, 40, .inl N))] sz)) 0 0 (va_A [(qr, .inr (0, [.ref qd, .ref ql, .ref qn, .int (nI old), .int (nI us), .int (nI pr)])), (qd, .inl (cb, 480, .inl dk)), (ql, .inl (ci, 40, .inl L)), (qn, .inl (ci, 40, .inl N))] sz) := by
  refine j_in (Qc := fun A => (va_Qv (fun (_ : Unit) => True) (j_post D (jT cb ci cz) (fun _ => [(qr, .inr (0, [.ref qd, .ref ql, .ref qn, .int (nI ((old + (if b = true then jsc w else 1)) % 40)), .int (nI (us - (if b = true then jsc w else 1))), .int (nI pr)])), (qd, .inl (cb, 480, .inl dk)), (ql, .inl (ci, 40, .inl L)), (qn, .inl (ci, 40, .inl N))]) A) A)) (cc := cX0_giveBackOldest) (maxL := 2) (ret := none) (by decide) rfl (Nat.le_of_ble_eq_true rfl) ?_
  intro p e s m av below meth c A ls H locs hx hb hr hml hts hown hlk hin hA hP hK hD hS hl
  have hown : s.vm.findClass RX0 = some m.cls := hown
  have hl : lv_has ls 2 [(0, .ref qr)] := hl
  refine lv_aload_n hx hb dX0_giveBackOldest_0 rfl (lv_at hl 0 rfl) ?_
  refine lv_aload_n hx hb dX0_giveBackOldest_1 rfl (lv_at hl 0 rfl) ?_
  refine va_get (D := D) (ci := 0) (v := .int (nI old)) (C := RX0) (T := TX0) (N := 6) hx hb hts (by decide +kernel) hown hK hP 0 rfl rfl 3 (by decide) (hts (.fieldLink RX0 22 "JournalDesk$Ring" "oldest" "I") (by decide +kernel)) (fun _ h9 => h9) rfl dX0_giveBackOldest_2 ?_
  refine j_calli (wr := []) hP hD hS hA [0, 1, 2, 3] [] rfl rfl (by decide) (by decide) (va_runV (As := [.int (nI old)]) (rest := []) ⟨hx, hb, hml, hown, hts⟩ (c_R_sectorsAt l D cb ci cz qr qd ql qn dk L N old us pr old b w ho hw0 hL H.size) (cwV 1 hts gX0_giveBackOldest_X0_sectorsAt rfl rfl rfl (by decide +kernel) ⟨Nat.le_of_ble_eq_true rfl, Nat.le_of_ble_eq_true rfl⟩) (j_preV (ci := 0) (q0 := 0) [0, 1, 2, 3] [0, 1, 2] hK hP hD rfl rfl rfl rfl rfl rfl) rfl rfl hl.1 rfl (lv_room (Nat.le_of_ble_eq_true rfl)) dX0_giveBackOldest_5 ⟨Nat.le_of_ble_eq_true rfl, Nat.le_of_ble_eq_true rfl⟩) (fun r5 u9 H locs hw hP hD hS => ?_)
  have hP : va_P D vwCl [(qr, .inr (0, [.ref qd, .ref ql, .ref qn, .int (nI old), .int (nI us), .int (nI pr)])), (qd, .inl (cb, 480, .inl dk)), (ql, .inl (ci, 40, .inl L)), (qn, .inl (ci, 40, .inl N))] H := hP
  have hD : va_D A [(qr, .inr (0, [.ref qd, .ref ql, .ref qn, .int (nI old), .int (nI us), .int (nI pr)])), (qd, .inl (cb, 480, .inl dk)), (ql, .inl (ci, 40, .inl L)), (qn, .inl (ci, 40, .inl N))] := hD
  have hw : r5 = (nI (if b = true then jsc w else 1)) := hw
  subst hw
  refine lv_istore_n (lv' := [(1, .int (nI (if b = true then jsc w else 1))), (0, .ref qr)]) hx hb dX0_giveBackOldest_8 rfl hl (by decide) rfl (fun ls hl => ?_)
  refine lv_aload_n hx hb dX0_giveBackOldest_9 rfl (lv_at hl 1 rfl) ?_
  refine lv_aload_n hx hb dX0_giveBackOldest_10 rfl (lv_at hl 1 rfl) ?_
  refine va_get (D := D) (ci := 0) (v := .int (nI old)) (C := RX0) (T := TX0) (N := 6) hx hb hts (by decide +kernel) hown hK hP 0 rfl rfl 3 (by decide) (hts (.fieldLink RX0 22 "JournalDesk$Ring" "oldest" "I") (by decide +kernel)) (fun _ h9 => h9) rfl dX0_giveBackOldest_11 ?_
  refine lv_iload_n hx hb dX0_giveBackOldest_14 rfl (lv_at hl 0 rfl) ?_
  refine lv_iadd hx hb dX0_giveBackOldest_15 ?_
  refine jt_i (y := (nI (old + (if b = true then jsc w else 1)))) (nI_add _ _) ?_
  refine j_calli (wr := [(qr, .inr (0, [.ref qd, .ref ql, .ref qn, .int (nI old), .int (nI us), .int (nI pr)])), (qd, .inl (cb, 480, .inl dk)), (ql, .inl (ci, 40, .inl L)), (qn, .inl (ci, 40, .inl N))]) hP hD hS hA [] [0, 1, 2, 3] rfl rfl (by decide) (by decide) (va_runS (As := [.int (nI (old + (if b = true then jsc w else 1)))]) (rest := [.ref qr]) ⟨hx, hb, hml, hown, hts⟩ (c_R_onRing l D cb ci cz (old + (if b = true then jsc w else 1)) (by omega) H.size) (va_cwS 1 hts gX0_giveBackOldest_X0_onRing rfl rfl rfl (by decide +kernel) ⟨Nat.le_of_ble_eq_true rfl, Nat.le_of_ble_eq_true rfl⟩) (j_preS [] [0, 1, 2] hK hP hD rfl rfl rfl rfl) rfl rfl hl.1 rfl (lv_room (Nat.le_of_ble_eq_true rfl)) dX0_giveBackOldest_16 ⟨Nat.le_of_ble_eq_true rfl, Nat.le_of_ble_eq_true rfl⟩) (fun r16 u9 H locs hw hP hD hS => ?_)
  have hP : va_P D vwCl [(qr, .inr (0, [.ref qd, .ref ql, .ref qn, .int (nI old), .int (nI us), .int (nI pr)])), (qd, .inl (cb, 480, .inl dk)), (ql, .inl (ci, 40, .inl L)), (qn, .inl (ci, 40, .inl N))] H := hP
  have hD : va_D A [(qr, .inr (0, [.ref qd, .ref ql, .ref qn, .int (nI old), .int (nI us), .int (nI pr)])), (qd, .inl (cb, 480, .inl dk)), (ql, .inl (ci, 40, .inl L)), (qn, .inl (ci, 40, .inl N))] := hD
  have hw : r16 = (nI ((old + (if b = true then jsc w else 1)) % 40)) := hw
  subst hw
  refine va_put (D := D) (ci := 0) (v := .int (nI ((old + (if b = true then jsc w else 1)) % 40))) (ty := .int) (C := RX0) (T := TX0) (N := 6) hx hb hts (by decide +kernel) tyX0 tyX0_ok nmX0 hown hK hP hD hS 0 rfl rfl 3 (by decide) (hts (.fieldLink RX0 22 "JournalDesk$Ring" "oldest" "I") (by decide +kernel)) (fun _ h9 => h9) rfl (by decide +kernel) (rfl) (rfl) (Nat.le_of_ble_eq_true rfl) dX0_giveBackOldest_19 (fun H locs hP hD hS => ?_)
  have hP : va_P D vwCl [(qr, .inr (0, [.ref qd, .ref ql, .ref qn, .int (nI ((old + (if b = true then jsc w else 1)) % 40)), .int (nI us), .int (nI pr)])), (qd, .inl (cb, 480, .inl dk)), (ql, .inl (ci, 40, .inl L)), (qn, .inl (ci, 40, .inl N))] H := hP
  have hD : va_D A [(qr, .inr (0, [.ref qd, .ref ql, .ref qn, .int (nI ((old + (if b = true then jsc w else 1)) % 40)), .int (nI us), .int (nI pr)])), (qd, .inl (cb, 480, .inl dk)), (ql, .inl (ci, 40, .inl L)), (qn, .inl (ci, 40, .inl N))] := hD
  refine lv_aload_n hx hb dX0_giveBackOldest_22 rfl (lv_at hl 1 rfl) ?_
  refine lv_dup hx hb dX0_giveBackOldest_23 rfl ?_
  refine va_get (D := D) (ci := 0) (v := .int (nI us)) (C := RX0) (T := TX0) (N := 6) hx hb hts (by decide +kernel) hown hK hP 0 rfl rfl 4 (by decide) (hts (.fieldLink RX0 26 "JournalDesk$Ring" "used" "I") (by decide +kernel)) (fun _ h9 => h9) rfl dX0_giveBackOldest_24 ?_
  refine lv_iload_n hx hb dX0_giveBackOldest_27 rfl (lv_at hl 0 rfl) ?_
  refine lv_isub hx hb dX0_giveBackOldest_28 ?_
  refine jt_i (y := (nI (us - (if b = true then jsc w else 1)))) (pk_sub hX) ?_
  refine va_put (D := D) (ci := 0) (v := .int (nI (us - (if b = true then jsc w else 1)))) (ty := .int) (C := RX0) (T := TX0) (N := 6) hx hb hts (by decide +kernel) tyX0 tyX0_ok nmX0 hown hK hP hD hS 0 rfl rfl 4 (by decide) (hts (.fieldLink RX0 26 "JournalDesk$Ring" "used" "I") (by decide +kernel)) (fun _ h9 => h9) rfl (by decide +kernel) (rfl) (rfl) (Nat.le_of_ble_eq_true rfl) dX0_giveBackOldest_29 (fun H locs hP hD hS => ?_)
  have hP : va_P D vwCl [(qr, .inr (0, [.ref qd, .ref ql, .ref qn, .int (nI ((old + (if b = true then jsc w else 1)) % 40)), .int (nI (us - (if b = true then jsc w else 1))), .int (nI pr)])), (qd, .inl (cb, 480, .inl dk)), (ql, .inl (ci, 40, .inl L)), (qn, .inl (ci, 40, .inl N))] H := hP
  have hD : va_D A [(qr, .inr (0, [.ref qd, .ref ql, .ref qn, .int (nI ((old + (if b = true then jsc w else 1)) % 40)), .int (nI (us - (if b = true then jsc w else 1))), .int (nI pr)])), (qd, .inl (cb, 480, .inl dk)), (ql, .inl (ci, 40, .inl L)), (qn, .inl (ci, 40, .inl N))] := hD
  exact j_vret (()) hx hb hr hlk hK hP hD hS (trivial) dX0_giveBackOldest_32
end
section
abbrev rm_R_addRecord : Room := { frames := 3, cells := 0, slots := 0, locals := 65 }
set_option maxHeartbeats 4000000 in
set_option maxRecDepth 100000 in
/-- a record of a bytes comes behind the others -/
theorem c_R_addRecord (l : Launch) (D : va_G) (cb ci cz : ClassId) (qt : Nat) (tp : Nat → Int32) (qr qd ql qn : Nat) (dk L N : Nat → Int32) (old us pr : Nat) (a : Nat) (num : Int32) (ho : old < 40) (hu : us ≤ 40) (ha : a ≤ 100) (hpr : pr ≤ 40) (sz : Nat) : Met l yX0_addRecord wsX0_addRecord rm_R_addRecord (va_Pc [.ref qr, .ref qt, .int (nI a), .int num] (j_pre D (jT cb ci cz) [(qt, .inl (cb, 100, .inl tp)), (qr, .inr (0, [.ref qd, .ref ql, .ref qn, .int (nI old), .int (nI us), .int (nI pr)])), (qd, .inl (cb, 480, .inl dk)), (ql, .inl (ci, 40, .inl L)), (qn, .inl (ci, 40, .inl N))] sz)) (va_Qv (fun (d : Nat → Int32) => (∀ i, i < a → d ((12 * ((old + us) % 40) + i) % 480) = (tp i).toInt8.toInt32) ∧ ∀ q, q < 480 → (∀ i, i < a → q ≠ (12 * ((old + us) % 40) + i) % 480) → d q = dk q) (j_post D (jT cb ci cz) (fun (d : Nat → Int32) => [(qt, .inl (cb, 100, .inl tp)), (qr, .inr (0, [.ref qd, .ref ql, .ref qn, .int (nI old), .int (nI (us + jsc a)), .int (nI (pr + 1))])), (qd, .inl (cb, 480, .inl d)), (ql, .inl (ci, 40, .inl (upd L ((old + us) % 40) (nI a)))), (qn, .inl (ci, 40, .inl (upd N ((old + us) % 40) num)))]) (va_A [(qt, .inl (cb, 100, .inl tp)), (qr, .inr (0, [.ref qd, .ref ql, .ref qn, .int (nI old), .int (nI us), .int (nI pr)])), (qd, .inl (cb, 480, .inl dk)), (ql, .inl (ci, 40, .inl L)), (qn, .inl (ci, 40, .inl N))] sz)) (va_A [(qt, .inl (cb, 100, .inl tp)), (qr, .inr (0, [.ref qd, .ref ql, .ref qn, .int (nI old), .int (nI us), .int (nI pr)])), (qd, .inl (cb, 480, .inl dk)), (ql, .inl (ci, 40, .inl L)), (qn, .inl (ci, 40, .inl N))] sz)) 0 0 (va_A [(qt, .inl (cb, 100, .inl tp)), (qr, .inr (0, [.ref qd, .ref ql, .ref qn, .int (nI old), .int (nI us), .int (nI pr)])), (qd, .inl (cb, 480, .inl dk)), (ql, .inl (ci, 40, .inl L)), (qn, .inl (ci, 40, .inl N))] sz) := by
  refine j_in (Qc := fun A => (va_Qv (fun (d : Nat → Int32) => (∀ i, i < a → d ((12 * ((old + us) % 40) + i) % 480) = (tp i).toInt8.toInt32) ∧ ∀ q, q < 480 → (∀ i, i < a → q ≠ (12 * ((old + us) % 40) + i) % 480) → d q = dk q) (j_post D (jT cb ci cz) (fun (d : Nat → Int32) => [(qt, .inl (cb, 100, .inl tp)), (qr, .inr (0, [.ref qd, .ref ql, .ref qn, .int (nI old), .int (nI (us + jsc a)), .int (nI (pr + 1))])), (qd, .inl (cb, 480, .inl d)), (ql, .inl (ci, 40, .inl (upd L ((old + us) % 40) (nI a)))), (qn, .inl (ci, 40, .inl (upd N ((old + us) % 40) num)))]) A) A)) (cc := cX0_addRecord) (maxL := 6) (ret := none) (by decide) rfl (Nat.le_of_ble_eq_true rfl) ?_
  intro p e s m av below meth c A ls H locs hx hb hr hml hts hown hlk hin hA hP hK hD hS hl
  have hown : s.vm.findClass RX0 = some m.cls := hown
  have hl : lv_has ls 6 [(0, .ref qr), (1, .ref qt), (2, .int (nI a)), (3, .int num)] := hl
  refine lv_aload_n hx hb dX0_addRecord_0 rfl (lv_at hl 0 rfl) ?_
  refine lv_iload_n hx hb dX0_addRecord_1 rfl (lv_at hl 2 rfl) ?_
  refine lv_iload_n hx hb dX0_addRecord_2 rfl (lv_at hl 2 rfl) ?_
  refine j_calli (wr := [(qt, .inl (cb, 100, .inl tp)), (qr, .inr (0, [.ref qd, .ref ql, .ref qn, .int (nI old), .int (nI us), .int (nI pr)])), (qd, .inl (cb, 480, .inl dk)), (ql, .inl (ci, 40, .inl L)), (qn, .inl (ci, 40, .inl N))]) hP hD hS hA [] [0, 1, 2, 3, 4] rfl rfl (by decide) (by decide) (va_runS (As := [.int (nI a)]) (rest := [.int (nI a), .ref qr]) ⟨hx, hb, hml, hown, hts⟩ (c_R_sectorsFor l D cb ci cz a ha H.size) (va_cwS 1 hts gX0_addRecord_X0_sectorsFor rfl rfl rfl (by decide +kernel) ⟨Nat.le_of_ble_eq_true rfl, Nat.le_of_ble_eq_true rfl⟩) (j_preS [] [0, 1, 2] hK hP hD rfl rfl rfl rfl) rfl rfl hl.1 rfl (lv_room (Nat.le_of_ble_eq_true rfl)) dX0_addRecord_3 ⟨Nat.le_of_ble_eq_true rfl, Nat.le_of_ble_eq_true rfl⟩) (fun r3 u9 H locs hw hP hD hS => ?_)
  have hP : va_P D vwCl [(qt, .inl (cb, 100, .inl tp)), (qr, .inr (0, [.ref qd, .ref ql, .ref qn, .int (nI old), .int (nI us), .int (nI pr)])), (qd, .inl (cb, 480, .inl dk)), (ql, .inl (ci, 40, .inl L)), (qn, .inl (ci, 40, .inl N))] H := hP
  have hD : va_D A [(qt, .inl (cb, 100, .inl tp)), (qr, .inr (0, [.ref qd, .ref ql, .ref qn, .int (nI old), .int (nI us), .int (nI pr)])), (qd, .inl (cb, 480, .inl dk)), (ql, .inl (ci, 40, .inl L)), (qn, .inl (ci, 40, .inl N))] := hD
  have hw : r3 = (nI (jsc a)) := hw
  subst hw
  refine j_calli (wr := [(qt, .inl (cb, 100, .inl tp))]) hP hD hS hA [1, 2, 3, 4] [0] rfl rfl (by decide) (by decide) (va_runV (As := [.int (nI a), .int (nI (jsc a))]) (rest := []) ⟨hx, hb, hml, hown, hts⟩ (c_R_addEntry l D cb ci cz qr qd ql qn dk L N old us pr (nI a) (jsc a) ho hu (Nat.le_trans (jsc_le ha) (by decide)) H.size) (cwV 2 hts gX0_addRecord_X0_addEntry rfl rfl rfl (by decide +kernel) ⟨Nat.le_of_ble_eq_true rfl, Nat.le_of_ble_eq_true rfl⟩) (j_preV (ci := 0) (q0 := 0) [1, 2, 3, 4] [0, 1, 2] hK hP hD rfl rfl rfl rfl rfl rfl) rfl rfl hl.1 rfl (lv_room (Nat.le_of_ble_eq_true rfl)) dX0_addRecord_6 ⟨Nat.le_of_ble_eq_true rfl, Nat.le_of_ble_eq_true rfl⟩) (fun r6 u9 H locs hw hP hD hS => ?_)
  have hP : va_P D vwCl [(qt, .inl (cb, 100, .inl tp)), (qr, .inr (0, [.ref qd, .ref ql, .ref qn, .int (nI old), .int (nI (us + jsc a)), .int (nI pr)])), (qd, .inl (cb, 480, .inl dk)), (ql, .inl (ci, 40, .inl (upd L ((old + us) % 40) (nI a)))), (qn, .inl (ci, 40, .inl N))] H := hP
  have hD : va_D A [(qt, .inl (cb, 100, .inl tp)), (qr, .inr (0, [.ref qd, .ref ql, .ref qn, .int (nI old), .int (nI (us + jsc a)), .int (nI pr)])), (qd, .inl (cb, 480, .inl dk)), (ql, .inl (ci, 40, .inl (upd L ((old + us) % 40) (nI a)))), (qn, .inl (ci, 40, .inl N))] := hD
  have hw : r6 = (nI ((old + us) % 40)) := hw
  subst hw
  refine lv_istore (lv' := [(4, .int (nI ((old + us) % 40))), (0, .ref qr), (1, .ref qt), (2, .int (nI a)), (3, .int num)]) hx hb dX0_addRecord_9 hl (by decide) rfl (fun ls hl => ?_)
  refine lv_aload_n hx hb dX0_addRecord_11 rfl (lv_at hl 1 rfl) ?_
  refine va_get (D := D) (ci := 0) (v := .ref qn) (C := RX0) (T := TX0) (N := 6) hx hb hts (by decide +kernel) hown hK hP 1 rfl rfl 2 (by decide) (hts (.fieldLink RX0 19 "JournalDesk$Ring" "numbers" "[I") (by decide +kernel)) (fun _ h9 => h9) rfl dX0_addRecord_12 ?_
  refine lv_iload hx hb dX0_addRecord_15 (lv_at hl 0 rfl) ?_
  refine lv_iload_n hx hb dX0_addRecord_17 rfl (lv_at hl 4 rfl) ?_
  refine j_iast hx hb hK hP hD hS 4 1 rfl rfl (i := ((old + us) % 40)) (Nat.mod_lt _ (by decide)) (by decide) dX0_addRecord_18 (fun H locs hP hD hS => ?_)
  have hP : va_P D vwCl [(qt, .inl (cb, 100, .inl tp)), (qr, .inr (0, [.ref qd, .ref ql, .ref qn, .int (nI old), .int (nI (us + jsc a)), .int (nI pr)])), (qd, .inl (cb, 480, .inl dk)), (ql, .inl (ci, 40, .inl (upd L ((old + us) % 40) (nI a)))), (qn, .inl (ci, 40, .inl (upd N ((old + us) % 40) num)))] H := hP
  have hD : va_D A [(qt, .inl (cb, 100, .inl tp)), (qr, .inr (0, [.ref qd, .ref ql, .ref qn, .int (nI old), .int (nI (us + jsc a)), .int (nI pr)])), (qd, .inl (cb, 480, .inl dk)), (ql, .inl (ci, 40, .inl (upd L ((old + us) % 40) (nI a)))), (qn, .inl (ci, 40, .inl (upd N ((old + us) % 40) num)))] := hD
  refine lv_iconst (v := (nI 0)) hx hb dX0_addRecord_19 (by decide +kernel) ?_
  refine lv_istore (lv' := [(5, .int (nI 0)), (4, .int (nI ((old + us) % 40))), (0, .ref qr), (1, .ref qt), (2, .int (nI a)), (3, .int num)]) hx hb dX0_addRecord_20 hl (by decide) rfl (fun ls hl => ?_)
  have LOOP22 : ∀ (fuel : Nat) (i : Nat) (d : Nat → Int32) (hf : a < i + fuel) (hia : i ≤ a) (h1 : ∀ i0, i0 < i → d ((12 * ((old + us) % 40) + i0) % 480) = (tp i0).toInt8.toInt32) (h2 : ∀ q, q < 480 → (∀ i0, i0 < i → q ≠ (12 * ((old + us) % 40) + i0) % 480) → d q = dk q) (H : Heap) (locs : List Loc), va_P D vwCl [(qt, .inl (cb, 100, .inl tp)), (qr, .inr (0, [.ref qd, .ref ql, .ref qn, .int (nI old), .int (nI (us + jsc a)), .int (nI pr)])), (qd, .inl (cb, 480, .inl d)), (ql, .inl (ci, 40, .inl (upd L ((old + us) % 40) (nI a)))), (qn, .inl (ci, 40, .inl (upd N ((old + us) % 40) num)))] H → va_D A [(qt, .inl (cb, 100, .inl tp)), (qr, .inr (0, [.ref qd, .ref ql, .ref qn, .int (nI old), .int (nI (us + jsc a)), .int (nI pr)])), (qd, .inl (cb, 480, .inl d)), (ql, .inl (ci, 40, .inl (upd L ((old + us) % 40) (nI a)))), (qn, .inl (ci, 40, .inl (upd N ((old + us) % 40) num)))] → va_S A s.heap H locs → ∀ ls : Array Slot, lv_has ls 6 [(0, .ref qr), (1, .ref qt), (2, .int (nI a)), (3, .int num), (4, .int (nI ((old + us) % 40))), (5, .int (nI i))] → W p l e rm_R_addRecord s m av below meth c H locs 0 0 (MQ below (va_Qv (fun (d : Nat → Int32) => (∀ i, i < a → d ((12 * ((old + us) % 40) + i) % 480) = (tp i).toInt8.toInt32) ∧ ∀ q, q < 480 → (∀ i, i < a → q ≠ (12 * ((old + us) % 40) + i) % 480) → d q = dk q) (j_post D (jT cb ci cz) (fun (d : Nat → Int32) => [(qt, .inl (cb, 100, .inl tp)), (qr, .inr (0, [.ref qd, .ref ql, .ref qn, .int (nI old), .int (nI (us + jsc a)), .int (nI (pr + 1))])), (qd, .inl (cb, 480, .inl d)), (ql, .inl (ci, 40, .inl (upd L ((old + us) % 40) (nI a)))), (qn, .inl (ci, 40, .inl (upd N ((old + us) % 40) num)))]) A) A) av s 0 0 A) (F0 m 22 ls []) := by
    clear hP hD hS hl
    intro fuel
    induction fuel with
    | zero => intro i d hf hia h1 h2; exfalso; omega
    | succ fuel ih22 =>
      intro i d hf hia h1 h2 H locs hP hD hS ls hl
      refine lv_iload hx hb dX0_addRecord_22 (lv_at hl 5 rfl) ?_
      refine lv_iload_n hx hb dX0_addRecord_24 rfl (lv_at hl 2 rfl) ?_
      refine lv_icmp_ge (tgt := 57) hx hb dX0_addRecord_25 (by decide) (fun c_25_1 => ?_) (fun c_25_1 => ?_)
      · rw [nI_leI (show a < 2 ^ 31 by omega) (show i < 2 ^ 31 by omega)] at c_25_1
        refine lv_aload_n hx hb dX0_addRecord_57 rfl (lv_at hl 0 rfl) ?_
        refine lv_dup hx hb dX0_addRecord_58 rfl ?_
        refine va_get (D := D) (ci := 0) (v := .int (nI pr)) (C := RX0) (T := TX0) (N := 6) hx hb hts (by decide +kernel) hown hK hP 1 rfl rfl 5 (by decide) (hts (.fieldLink RX0 29 "JournalDesk$Ring" "present" "I") (by decide +kernel)) (fun _ h9 => h9) rfl dX0_addRecord_59 ?_
        refine lv_iconst (v := (nI 1)) hx hb dX0_addRecord_62 (by decide +kernel) ?_
        refine lv_iadd hx hb dX0_addRecord_63 ?_
        refine jt_i (y := (nI (pr + 1))) (nI_add _ _) ?_
        refine va_put (D := D) (ci := 0) (v := .int (nI (pr + 1))) (ty := .int) (C := RX0) (T := TX0) (N := 6) hx hb hts (by decide +kernel) tyX0 tyX0_ok nmX0 hown hK hP hD hS 1 rfl rfl 5 (by decide) (hts (.fieldLink RX0 29 "JournalDesk$Ring" "present" "I") (by decide +kernel)) (fun _ h9 => h9) rfl (by decide +kernel) (rfl) (rfl) (Nat.le_of_ble_eq_true rfl) dX0_addRecord_64 (fun H locs hP hD hS => ?_)
        have hP : va_P D vwCl [(qt, .inl (cb, 100, .inl tp)), (qr, .inr (0, [.ref qd, .ref ql, .ref qn, .int (nI old), .int (nI (us + jsc a)), .int (nI (pr + 1))])), (qd, .inl (cb, 480, .inl d)), (ql, .inl (ci, 40, .inl (upd L ((old + us) % 40) (nI a)))), (qn, .inl (ci, 40, .inl (upd N ((old + us) % 40) num)))] H := hP
        have hD : va_D A [(qt, .inl (cb, 100, .inl tp)), (qr, .inr (0, [.ref qd, .ref ql, .ref qn, .int (nI old), .int (nI (us + jsc a)), .int (nI (pr + 1))])), (qd, .inl (cb, 480, .inl d)), (ql, .inl (ci, 40, .inl (upd L ((old + us) % 40) (nI a)))), (qn, .inl (ci, 40, .inl (upd N ((old + us) % 40) num)))] := hD
        exact j_vret (d) hx hb hr hlk hK hP hD hS (⟨fun i0 h0 => h1 i0 (by omega), fun q hq hn => h2 q hq (fun i0 h0 => hn i0 (by omega))⟩) dX0_addRecord_67
      · rw [nI_leI (show a < 2 ^ 31 by omega) (show i < 2 ^ 31 by omega)] at c_25_1
        refine lv_iload hx hb dX0_addRecord_28 (lv_at hl 5 rfl) ?_
        refine lv_aload_n hx hb dX0_addRecord_30 rfl (lv_at hl 1 rfl) ?_
        refine va_alen hx hb hK hP 0 0 rfl rfl (v := nI 100) rfl dX0_addRecord_31 ?_
        refine lv_icmp_ge (tgt := 57) hx hb dX0_addRecord_32 (by decide) (fun c_32_2 => ?_) (fun c_32_2 => ?_)
        · rw [nI_leI (show 100 < 2 ^ 31 by omega) (show i < 2 ^ 31 by omega)] at c_32_2
          exfalso; omega
        · rw [nI_leI (show 100 < 2 ^ 31 by omega) (show i < 2 ^ 31 by omega)] at c_32_2
          refine lv_aload_n hx hb dX0_addRecord_35 rfl (lv_at hl 0 rfl) ?_
          refine va_get (D := D) (ci := 0) (v := .ref qd) (C := RX0) (T := TX0) (N := 6) hx hb hts (by decide +kernel) hown hK hP 1 rfl rfl 0 (by decide) (hts (.fieldLink RX0 11 "JournalDesk$Ring" "disk" "[B") (by decide +kernel)) (fun _ h9 => h9) rfl dX0_addRecord_36 ?_
          refine lv_iload hx hb dX0_addRecord_39 (lv_at hl 4 rfl) ?_
          refine lv_iload hx hb dX0_addRecord_41 (lv_at hl 5 rfl) ?_
          refine j_calli (wr := [(qt, .inl (cb, 100, .inl tp)), (qr, .inr (0, [.ref qd, .ref ql, .ref qn, .int (nI old), .int (nI (us + jsc a)), .int (nI pr)])), (qd, .inl (cb, 480, .inl d)), (ql, .inl (ci, 40, .inl (upd L ((old + us) % 40) (nI a)))), (qn, .inl (ci, 40, .inl (upd N ((old + us) % 40) num)))]) hP hD hS hA [] [0, 1, 2, 3, 4] rfl rfl (by decide) (by decide) (va_runS (As := [.int (nI ((old + us) % 40)), .int (nI i)]) (rest := [.ref qd]) ⟨hx, hb, hml, hown, hts⟩ (c_R_place l D cb ci cz ((old + us) % 40) i (Nat.mod_lt _ (by decide)) (by omega) H.size) (va_cwS 2 hts gX0_addRecord_X0_place rfl rfl rfl (by decide +kernel) ⟨Nat.le_of_ble_eq_true rfl, Nat.le_of_ble_eq_true rfl⟩) (j_preS [] [0, 1, 2] hK hP hD rfl rfl rfl rfl) rfl rfl hl.1 rfl (lv_room (Nat.le_of_ble_eq_true rfl)) dX0_addRecord_43 ⟨Nat.le_of_ble_eq_true rfl, Nat.le_of_ble_eq_true rfl⟩) (fun r43 u9 H locs hw hP hD hS => ?_)
          have hP : va_P D vwCl [(qt, .inl (cb, 100, .inl tp)), (qr, .inr (0, [.ref qd, .ref ql, .ref qn, .int (nI old), .int (nI (us + jsc a)), .int (nI pr)])), (qd, .inl (cb, 480, .inl d)), (ql, .inl (ci, 40, .inl (upd L ((old + us) % 40) (nI a)))), (qn, .inl (ci, 40, .inl (upd N ((old + us) % 40) num)))] H := hP
          have hD : va_D A [(qt, .inl (cb, 100, .inl tp)), (qr, .inr (0, [.ref qd, .ref ql, .ref qn, .int (nI old), .int (nI (us + jsc a)), .int (nI pr)])), (qd, .inl (cb, 480, .inl d)), (ql, .inl (ci, 40, .inl (upd L ((old + us) % 40) (nI a)))), (qn, .inl (ci, 40, .inl (upd N ((old + us) % 40) num)))] := hD
          have hw : r43 = (nI ((12 * ((old + us) % 40) + i) % 480)) := hw
          subst hw
          refine lv_aload_n hx hb dX0_addRecord_46 rfl (lv_at hl 1 rfl) ?_
          refine lv_iload hx hb dX0_addRecord_47 (lv_at hl 5 rfl) ?_
          refine j_bald hx hb hK hP 0 0 rfl rfl (i := i) (by omega) (by decide) (v := (tp i)) (rfl) dX0_addRecord_49 ?_
          refine j_bast hx hb hK hP hD hS 2 0 rfl rfl (i := (12 * ((old + us) % 40) + i) % 480) (Nat.mod_lt _ (by decide)) (by decide) (y := (tp i).toInt8.toInt32) (rfl) dX0_addRecord_50 (fun H locs hP hD hS => ?_)
          have hP : va_P D vwCl [(qt, .inl (cb, 100, .inl tp)), (qr, .inr (0, [.ref qd, .ref ql, .ref qn, .int (nI old), .int (nI (us + jsc a)), .int (nI pr)])), (qd, .inl (cb, 480, .inl (upd d ((12 * ((old + us) % 40) + i) % 480) ((tp i).toInt8.toInt32)))), (ql, .inl (ci, 40, .inl (upd L ((old + us) % 40) (nI a)))), (qn, .inl (ci, 40, .inl (upd N ((old + us) % 40) num)))] H := hP
          have hD : va_D A [(qt, .inl (cb, 100, .inl tp)), (qr, .inr (0, [.ref qd, .ref ql, .ref qn, .int (nI old), .int (nI (us + jsc a)), .int (nI pr)])), (qd, .inl (cb, 480, .inl (upd d ((12 * ((old + us) % 40) + i) % 480) ((tp i).toInt8.toInt32)))), (ql, .inl (ci, 40, .inl (upd L ((old + us) % 40) (nI a)))), (qn, .inl (ci, 40, .inl (upd N ((old + us) % 40) num)))] := hD
          refine lv_iinc (v := (nI (i + 1))) (lv' := [(5, .int (nI (i + 1))), (0, .ref qr), (1, .ref qt), (2, .int (nI a)), (3, .int num), (4, .int (nI ((old + us) % 40)))]) hx hb dX0_addRecord_51 hl (k := 5) rfl (nI_1 _) (by decide) rfl (fun ls hl => ?_)
          refine lv_goto (tgt := 22) hx hb dX0_addRecord_54 (by decide) ?_
          exact ih22 (i + 1) _ (by omega) (by omega) (j_ar1 h1 (by omega)) (j_ar2 h2) _ _ hP hD hS ls (lv_sub hl [1, 2, 3, 4, 5, 0] rfl)
  exact LOOP22 (a + 1) 0 dk (by omega) (by omega) (fun _ h => absurd h (Nat.not_lt_zero _)) (fun _ _ _ => rfl) _ _ hP hD hS ls (lv_sub hl [2, 3, 4, 5, 1, 0] rfl)
abbrev rm_R_addDrop : Room := { frames := 6, cells := 0, slots := 0, locals := 126 }
set_option maxHeartbeats 4000000 in
set_option maxRecDepth 100000 in
/-- a drop comes behind the others; the oldest mm records go, and what stands ahead of the first that is left -/
theorem c_R_addDrop (l : Launch) (D : va_G) (cb ci cz : ClassId) (qr qd ql qn : Nat) (dk L N : Nat → Int32) (old us pr : Nat) (k : Nat) (r : Nat → Bool) (z : Nat → Nat) (u : Nat → Int32) (y : Nat → Nat → Int32) (mm : Nat) (hR : jR old us pr dk L N k r z u y) (hfit : us + 1 ≤ 40) (hmm : mm ≤ pr) (sz : Nat) : Met l yX0_addDrop wsX0_addDrop rm_R_addDrop (va_Pc [.ref qr, .int (nI mm)] (j_pre D (jT cb ci cz) [(qr, .inr (0, [.ref qd, .ref ql, .ref qn, .int (nI old), .int (nI us), .int (nI pr)])), (qd, .inl (cb, 480, .inl dk)), (ql, .inl (ci, 40, .inl L)), (qn, .inl (ci, 40, .inl N))] sz)) (va_Qv (fun (_ : Unit) => js (jcn (va_up r k false)) (jdrF k r mm) = mm) (j_post D (jT cb ci cz) (fun _ => [(qr, .inr (0, [.ref qd, .ref ql, .ref qn, .int (nI ((old + js (jse (va_up r k false) (va_up z k 0)) (jdrF k r mm)) % 40)), .int (nI (us + 1 - js (jse (va_up r k false) (va_up z k 0)) (jdrF k r mm))), .int (nI (pr - mm))])), (qd, .inl (cb, 480, .inl dk)), (ql, .inl (ci, 40, .inl (upd L ((old + us) % 40) (-1)))), (qn, .inl (ci, 40, .inl N))]) (va_A [(qr, .inr (0, [.ref qd, .ref ql, .ref qn, .int (nI old), .int (nI us), .int (nI pr)])), (qd, .inl (cb, 480, .inl dk)), (ql, .inl (ci, 40, .inl L)), (qn, .inl (ci, 40, .inl N))] sz)) (va_A [(qr, .inr (0, [.ref qd, .ref ql, .ref qn, .int (nI old), .int (nI us), .int (nI pr)])), (qd, .inl (cb, 480, .inl dk)), (ql, .inl (ci, 40, .inl L)), (qn, .inl (ci, 40, .inl N))] sz)) 0 0 (va_A [(qr, .inr (0, [.ref qd, .ref ql, .ref qn, .int (nI old), .int (nI us), .int (nI pr)])), (qd, .inl (cb, 480, .inl dk)), (ql, .inl (ci, 40, .inl L)), (qn, .inl (ci, 40, .inl N))] sz) := by
  refine j_in (Qc := fun A => (va_Qv (fun (_ : Unit) => js (jcn (va_up r k false)) (jdrF k r mm) = mm) (j_post D (jT cb ci cz) (fun _ => [(qr, .inr (0, [.ref qd, .ref ql, .ref qn, .int (nI ((old + js (jse (va_up r k false) (va_up z k 0)) (jdrF k r mm)) % 40)), .int (nI (us + 1 - js (jse (va_up r k false) (va_up z k 0)) (jdrF k r mm))), .int (nI (pr - mm))])), (qd, .inl (cb, 480, .inl dk)), (ql, .inl (ci, 40, .inl (upd L ((old + us) % 40) (-1)))), (qn, .inl (ci, 40, .inl N))]) A) A)) (cc := cX0_addDrop) (maxL := 5) (ret := none) (by decide) rfl (Nat.le_of_ble_eq_true rfl) ?_
  intro p e s m av below meth c A ls H locs hx hb hr hml hts hown hlk hin hA hP hK hD hS hl
  have hown : s.vm.findClass RX0 = some m.cls := hown
  have hl : lv_has ls 5 [(0, .ref qr), (1, .int (nI mm))] := hl
  have hR1 := jR_drp hR hfit (s := ((old + us) % 40)) rfl
  have js_rk : js (jse (va_up r k false) (va_up z k 0)) k = js (jse r z) k := js_congr k (fun i hi => by unfold jse; rw [va_up_ne r false (show i ≠ k by omega), va_up_ne z 0 (show i ≠ k by omega)])
  have js_rkc : js (jcn (va_up r k false)) k = js (jcn r) k := js_congr k (fun i hi => by unfold jcn; rw [va_up_ne r false (show i ≠ k by omega)])
  have hk40 := jR_k hR
  have hp40 := jR_pr hR
  have ho40 := hR.1
  have hu40 := hR.2.2.1
  refine lv_aload_n hx hb dX0_addDrop_0 rfl (lv_at hl 0 rfl) ?_
  refine lv_iconst (v := (-1)) hx hb dX0_addDrop_1 (by decide +kernel) ?_
  refine lv_iconst (v := (nI 1)) hx hb dX0_addDrop_2 (by decide +kernel) ?_
  refine j_calli (wr := []) hP hD hS hA [0, 1, 2, 3] [] rfl rfl (by decide) (by decide) (va_runV (As := [.int (-1), .int (nI 1)]) (rest := []) ⟨hx, hb, hml, hown, hts⟩ (c_R_addEntry l D cb ci cz qr qd ql qn dk L N old us pr (-1) 1 hR.1 (by omega) (by decide) H.size) (cwV 2 hts gX0_addDrop_X0_addEntry rfl rfl rfl (by decide +kernel) ⟨Nat.le_of_ble_eq_true rfl, Nat.le_of_ble_eq_true rfl⟩) (j_preV (ci := 0) (q0 := 0) [0, 1, 2, 3] [0, 1, 2] hK hP hD rfl rfl rfl rfl rfl rfl) rfl rfl hl.1 rfl (lv_room (Nat.le_of_ble_eq_true rfl)) dX0_addDrop_3 ⟨Nat.le_of_ble_eq_true rfl, Nat.le_of_ble_eq_true rfl⟩) (fun r3 u9 H locs hw hP hD hS => ?_)
  have hP : va_P D vwCl [(qr, .inr (0, [.ref qd, .ref ql, .ref qn, .int (nI old), .int (nI (us + 1)), .int (nI pr)])), (qd, .inl (cb, 480, .inl dk)), (ql, .inl (ci, 40, .inl (upd L ((old + us) % 40) (-1)))), (qn, .inl (ci, 40, .inl N))] H := hP
  have hD : va_D A [(qr, .inr (0, [.ref qd, .ref ql, .ref qn, .int (nI old), .int (nI (us + 1)), .int (nI pr)])), (qd, .inl (cb, 480, .inl dk)), (ql, .inl (ci, 40, .inl (upd L ((old + us) % 40) (-1)))), (qn, .inl (ci, 40, .inl N))] := hD
  have hw : r3 = (nI ((old + us) % 40)) := hw
  subst hw
  refine lv_istore_n (lv' := [(2, .int (nI ((old + us) % 40))), (0, .ref qr), (1, .int (nI mm))]) hx hb dX0_addDrop_6 rfl hl (by decide) rfl (fun ls hl => ?_)
  refine lv_aload_n hx hb dX0_addDrop_7 rfl (lv_at hl 1 rfl) ?_
  refine lv_dup hx hb dX0_addDrop_8 rfl ?_
  refine va_get (D := D) (ci := 0) (v := .int (nI pr)) (C := RX0) (T := TX0) (N := 6) hx hb hts (by decide +kernel) hown hK hP 0 rfl rfl 5 (by decide) (hts (.fieldLink RX0 29 "JournalDesk$Ring" "present" "I") (by decide +kernel)) (fun _ h9 => h9) rfl dX0_addDrop_9 ?_
  refine lv_iload_n hx hb dX0_addDrop_12 rfl (lv_at hl 2 rfl) ?_
  refine lv_isub hx hb dX0_addDrop_13 ?_
  refine jt_i (y := (nI (pr - mm))) (pk_sub (by omega)) ?_
  refine va_put (D := D) (ci := 0) (v := .int (nI (pr - mm))) (ty := .int) (C := RX0) (T := TX0) (N := 6) hx hb hts (by decide +kernel) tyX0 tyX0_ok nmX0 hown hK hP hD hS 0 rfl rfl 5 (by decide) (hts (.fieldLink RX0 29 "JournalDesk$Ring" "present" "I") (by decide +kernel)) (fun _ h9 => h9) rfl (by decide +kernel) (rfl) (rfl) (Nat.le_of_ble_eq_true rfl) dX0_addDrop_14 (fun H locs hP hD hS => ?_)
  have hP : va_P D vwCl [(qr, .inr (0, [.ref qd, .ref ql, .ref qn, .int (nI old), .int (nI (us + 1)), .int (nI (pr - mm))])), (qd, .inl (cb, 480, .inl dk)), (ql, .inl (ci, 40, .inl (upd L ((old + us) % 40) (-1)))), (qn, .inl (ci, 40, .inl N))] H := hP
  have hD : va_D A [(qr, .inr (0, [.ref qd, .ref ql, .ref qn, .int (nI old), .int (nI (us + 1)), .int (nI (pr - mm))])), (qd, .inl (cb, 480, .inl dk)), (ql, .inl (ci, 40, .inl (upd L ((old + us) % 40) (-1)))), (qn, .inl (ci, 40, .inl N))] := hD
  refine lv_iload_n hx hb dX0_addDrop_17 rfl (lv_at hl 2 rfl) ?_
  refine lv_istore_n (lv' := [(3, .int (nI mm)), (2, .int (nI ((old + us) % 40))), (0, .ref qr), (1, .int (nI mm))]) hx hb dX0_addDrop_18 rfl hl (by decide) rfl (fun ls hl => ?_)
  refine lv_iconst (v := (nI 0)) hx hb dX0_addDrop_19 (by decide +kernel) ?_
  refine lv_istore (lv' := [(4, .int (nI 0)), (3, .int (nI mm)), (2, .int (nI ((old + us) % 40))), (0, .ref qr), (1, .int (nI mm))]) hx hb dX0_addDrop_20 hl (by decide) rfl (fun ls hl => ?_)
  have LOOP22 : ∀ (fuel : Nat) (f : Nat) (hf : k < f + fuel) (hfk0 : f ≤ k) (hc : js (jcn (va_up r k false)) f ≤ mm) (hq : ∀ g, g < f → jPd (va_up r k false) mm g = false) (H : Heap) (locs : List Loc), va_P D vwCl [(qr, .inr (0, [.ref qd, .ref ql, .ref qn, .int (nI ((old + js (jse (va_up r k false) (va_up z k 0)) f) % 40)), .int (nI (us + 1 - js (jse (va_up r k false) (va_up z k 0)) f)), .int (nI (pr - mm))])), (qd, .inl (cb, 480, .inl dk)), (ql, .inl (ci, 40, .inl (upd L ((old + us) % 40) (-1)))), (qn, .inl (ci, 40, .inl N))] H → va_D A [(qr, .inr (0, [.ref qd, .ref ql, .ref qn, .int (nI ((old + js (jse (va_up r k false) (va_up z k 0)) f) % 40)), .int (nI (us + 1 - js (jse (va_up r k false) (va_up z k 0)) f)), .int (nI (pr - mm))])), (qd, .inl (cb, 480, .inl dk)), (ql, .inl (ci, 40, .inl (upd L ((old + us) % 40) (-1)))), (qn, .inl (ci, 40, .inl N))] → va_S A s.heap H locs → ∀ ls : Array Slot, lv_has ls 5 [(0, .ref qr), (1, .int (nI mm)), (2, .int (nI ((old + us) % 40))), (3, .int (nI (mm - js (jcn (va_up r k false)) f))), (4, .int (nI f))] → W p l e rm_R_addDrop s m av below meth c H locs 0 0 (MQ below (va_Qv (fun (_ : Unit) => js (jcn (va_up r k false)) (jdrF k r mm) = mm) (j_post D (jT cb ci cz) (fun _ => [(qr, .inr (0, [.ref qd, .ref ql, .ref qn, .int (nI ((old + js (jse (va_up r k false) (va_up z k 0)) (jdrF k r mm)) % 40)), .int (nI (us + 1 - js (jse (va_up r k false) (va_up z k 0)) (jdrF k r mm))), .int (nI (pr - mm))])), (qd, .inl (cb, 480, .inl dk)), (ql, .inl (ci, 40, .inl (upd L ((old + us) % 40) (-1)))), (qn, .inl (ci, 40, .inl N))]) A) A) av s 0 0 A) (F0 m 22 ls []) := by
    clear hP hD hS hl
    intro fuel
    induction fuel with
    | zero => intro f hf hfk0 hc hq; exfalso; omega
    | succ fuel ih22 =>
      intro f hf hfk0 hc hq H locs hP hD hS ls hl
      have a1 := jR_in hR1 (show f < k + 1 by omega)
      have a2 := jR_L hR1 (show f < k + 1 by omega)
      have a3 := jR_z hR1 (show f < k + 1 by omega)
      have a4 := jct_le (va_up r k false) f
      have a5 := js_ge (jse_pos (va_up r k false) (va_up z k 0)) f
      have a6 := hR1.2.2.1
      refine lv_iload hx hb dX0_addDrop_22 (lv_at hl 4 rfl) ?_
      refine lv_bipush (v := (nI 40)) hx hb dX0_addDrop_24 (by decide +kernel) ?_
      refine lv_icmp_ge (tgt := 66) hx hb dX0_addDrop_26 (by decide) (fun c_26_1 => ?_) (fun c_26_1 => ?_)
      · rw [nI_leI (show 40 < 2 ^ 31 by omega) (show f < 2 ^ 31 by omega)] at c_26_1
        exfalso; omega
      · rw [nI_leI (show 40 < 2 ^ 31 by omega) (show f < 2 ^ 31 by omega)] at c_26_1
        refine lv_aload_n hx hb dX0_addDrop_29 rfl (lv_at hl 0 rfl) ?_
        refine va_get (D := D) (ci := 0) (v := .int (nI ((old + js (jse (va_up r k false) (va_up z k 0)) f) % 40))) (C := RX0) (T := TX0) (N := 6) hx hb hts (by decide +kernel) hown hK hP 0 rfl rfl 3 (by decide) (hts (.fieldLink RX0 22 "JournalDesk$Ring" "oldest" "I") (by decide +kernel)) (fun _ h9 => h9) rfl dX0_addDrop_30 ?_
        refine lv_iload_n hx hb dX0_addDrop_33 rfl (lv_at hl 2 rfl) ?_
        refine lv_icmp_eq (tgt := 66) hx hb dX0_addDrop_34 (by decide) (fun c_34_2 => ?_) (fun c_34_2 => ?_)
        · rw [nI_eq (show (old + js (jse (va_up r k false) (va_up z k 0)) f) % 40 < 2 ^ 31 by omega) (show ((old + us) % 40) < 2 ^ 31 by omega)] at c_34_2
          have hfk : f = k := by
            rcases Nat.lt_or_ge f k with q | q
            · exfalso
              have b1 := js_mono (jse (va_up r k false) (va_up z k 0)) (show f + 1 ≤ k from q)
              rw [js_step, js_rk] at b1
              have b2 := jse_pos (va_up r k false) (va_up z k 0) f
              have b3 := hR.2.1
              omega
            · omega
          have hce : js (jcn (va_up r k false)) f = mm := by
            have b1 := hR.2.2.2.1
            have b2 : js (jcn (va_up r k false)) f = js (jcn r) k := by rw [hfk]; exact js_rkc
            omega
          have hfe : (jdrF k r mm) = f := by rw [hfk]; exact jfs_none (k + 1) (fun g hg => by rcases Nat.lt_or_ge g k with q | q; exact hq g (by omega); rw [show g = k by omega]; exact jPd_r (va_up_self r k false))
          rw [← hfe] at hP hD
          exact j_vret (()) hx hb hr hlk hK hP hD hS (by rw [hfe]; exact hce) dX0_addDrop_66
        · rw [nI_eq (show (old + js (jse (va_up r k false) (va_up z k 0)) f) % 40 < 2 ^ 31 by omega) (show ((old + us) % 40) < 2 ^ 31 by omega)] at c_34_2
          have hfk : f < k := by
            rcases Nat.lt_or_ge f k with q | q
            · exact q
            · exfalso
              have q2 : f = k := by omega
              rw [q2, js_rk, ← hR.2.1] at c_34_2
              exact c_34_2 rfl
          refine lv_aload_n hx hb dX0_addDrop_37 rfl (lv_at hl 0 rfl) ?_
          refine lv_aload_n hx hb dX0_addDrop_38 rfl (lv_at hl 0 rfl) ?_
          refine va_get (D := D) (ci := 0) (v := .int (nI ((old + js (jse (va_up r k false) (va_up z k 0)) f) % 40))) (C := RX0) (T := TX0) (N := 6) hx hb hts (by decide +kernel) hown hK hP 0 rfl rfl 3 (by decide) (hts (.fieldLink RX0 22 "JournalDesk$Ring" "oldest" "I") (by decide +kernel)) (fun _ h9 => h9) rfl dX0_addDrop_39 ?_
          refine j_calli (wr := []) hP hD hS hA [0, 1, 2, 3] [] rfl rfl (by decide) (by decide) (va_runV (As := [.int (nI ((old + js (jse (va_up r k false) (va_up z k 0)) f) % 40))]) (rest := []) ⟨hx, hb, hml, hown, hts⟩ (c_R_isRecord l D cb ci cz qr qd ql qn dk (upd L ((old + us) % 40) (-1)) N ((old + js (jse (va_up r k false) (va_up z k 0)) f) % 40) (us + 1 - js (jse (va_up r k false) (va_up z k 0)) f) (pr - mm) ((old + js (jse (va_up r k false) (va_up z k 0)) f) % 40) ((va_up r k false) f) ((va_up z k 0) f) (Nat.mod_lt _ (by decide)) a3 a2 H.size) (cwV 1 hts gX0_addDrop_X0_isRecord rfl rfl rfl (by decide +kernel) ⟨Nat.le_of_ble_eq_true rfl, Nat.le_of_ble_eq_true rfl⟩) (j_preV (ci := 0) (q0 := 0) [0, 1, 2, 3] [0, 1, 2] hK hP hD rfl rfl rfl rfl rfl rfl) rfl rfl hl.1 rfl (lv_room (Nat.le_of_ble_eq_true rfl)) dX0_addDrop_42 ⟨Nat.le_of_ble_eq_true rfl, Nat.le_of_ble_eq_true rfl⟩) (fun r42 u9 H locs hw hP hD hS => ?_)
          have hP : va_P D vwCl [(qr, .inr (0, [.ref qd, .ref ql, .ref qn, .int (nI ((old + js (jse (va_up r k false) (va_up z k 0)) f) % 40)), .int (nI (us + 1 - js (jse (va_up r k false) (va_up z k 0)) f)), .int (nI (pr - mm))])), (qd, .inl (cb, 480, .inl dk)), (ql, .inl (ci, 40, .inl (upd L ((old + us) % 40) (-1)))), (qn, .inl (ci, 40, .inl N))] H := hP
          have hD : va_D A [(qr, .inr (0, [.ref qd, .ref ql, .ref qn, .int (nI ((old + js (jse (va_up r k false) (va_up z k 0)) f) % 40)), .int (nI (us + 1 - js (jse (va_up r k false) (va_up z k 0)) f)), .int (nI (pr - mm))])), (qd, .inl (cb, 480, .inl dk)), (ql, .inl (ci, 40, .inl (upd L ((old + us) % 40) (-1)))), (qn, .inl (ci, 40, .inl N))] := hD
          have hw : r42 = (jbi ((va_up r k false) f)) := hw
          subst hw
          refine lv_if_eq (tgt := 56) hx hb dX0_addDrop_45 (by decide) (fun c_45_3 => ?_) (fun c_45_3 => ?_)
          · have hb1 : (va_up r k false) f = false := jbi_0.mp c_45_3
            rw [show js (jcn (va_up r k false)) f = js (jcn (va_up r k false)) (f + 1) by rw [js_step, jcn_f hb1, Nat.add_zero]] at hl
            refine lv_aload_n hx hb dX0_addDrop_56 rfl (lv_at hl 0 rfl) ?_
            refine j_callv (wr := []) hP hD hS hA [0, 1, 2, 3] [] rfl rfl (by decide) (by decide) (va_runV (As := []) (rest := []) ⟨hx, hb, hml, hown, hts⟩ (c_R_giveBackOldest l D cb ci cz qr qd ql qn dk (upd L ((old + us) % 40) (-1)) N ((old + js (jse (va_up r k false) (va_up z k 0)) f) % 40) (us + 1 - js (jse (va_up r k false) (va_up z k 0)) f) (pr - mm) ((va_up r k false) f) ((va_up z k 0) f) (Nat.mod_lt _ (by decide)) (by omega) a3 a2 (by show jse (va_up r k false) (va_up z k 0) f ≤ _; omega) H.size) (cwV 0 hts gX0_addDrop_X0_giveBackOldest rfl rfl rfl (by decide +kernel) ⟨Nat.le_of_ble_eq_true rfl, Nat.le_of_ble_eq_true rfl⟩) (j_preV (ci := 0) (q0 := 0) [0, 1, 2, 3] [0, 1, 2] hK hP hD rfl rfl rfl rfl rfl rfl) rfl rfl hl.1 rfl (lv_room (Nat.le_of_ble_eq_true rfl)) dX0_addDrop_57 ⟨Nat.le_of_ble_eq_true rfl, Nat.le_of_ble_eq_true rfl⟩) (fun u9 H locs hw hP hD hS => ?_)
            rw [show ((old + js (jse (va_up r k false) (va_up z k 0)) f) % 40 + (if (va_up r k false) f = true then jsc ((va_up z k 0) f) else 1)) % 40 = (old + js (jse (va_up r k false) (va_up z k 0)) (f + 1)) % 40 by rw [js_step]; show ((old + js (jse (va_up r k false) (va_up z k 0)) f) % 40 + jse (va_up r k false) (va_up z k 0) f) % 40 = _; omega, show us + 1 - js (jse (va_up r k false) (va_up z k 0)) f - (if (va_up r k false) f = true then jsc ((va_up z k 0) f) else 1) = us + 1 - js (jse (va_up r k false) (va_up z k 0)) (f + 1) by rw [js_step]; show us + 1 - js (jse (va_up r k false) (va_up z k 0)) f - jse (va_up r k false) (va_up z k 0) f = _; omega] at hP hD
            have hP : va_P D vwCl [(qr, .inr (0, [.ref qd, .ref ql, .ref qn, .int (nI ((old + js (jse (va_up r k false) (va_up z k 0)) (f + 1)) % 40)), .int (nI (us + 1 - js (jse (va_up r k false) (va_up z k 0)) (f + 1))), .int (nI (pr - mm))])), (qd, .inl (cb, 480, .inl dk)), (ql, .inl (ci, 40, .inl (upd L ((old + us) % 40) (-1)))), (qn, .inl (ci, 40, .inl N))] H := hP
            have hD : va_D A [(qr, .inr (0, [.ref qd, .ref ql, .ref qn, .int (nI ((old + js (jse (va_up r k false) (va_up z k 0)) (f + 1)) % 40)), .int (nI (us + 1 - js (jse (va_up r k false) (va_up z k 0)) (f + 1))), .int (nI (pr - mm))])), (qd, .inl (cb, 480, .inl dk)), (ql, .inl (ci, 40, .inl (upd L ((old + us) % 40) (-1)))), (qn, .inl (ci, 40, .inl N))] := hD
            refine lv_iinc (v := (nI (f + 1))) (lv' := [(4, .int (nI (f + 1))), (0, .ref qr), (1, .int (nI mm)), (2, .int (nI ((old + us) % 40))), (3, .int (nI (mm - js (jcn (va_up r k false)) (f + 1))))]) hx hb dX0_addDrop_60 hl (k := 4) rfl (nI_1 _) (by decide) rfl (fun ls hl => ?_)
            refine lv_goto (tgt := 22) hx hb dX0_addDrop_63 (by decide) ?_
            exact ih22 (f + 1) (by omega) (by omega) (by rw [js_step]; have b1 := jcn_f hb1; omega) (lt_s hq (jPd_r hb1)) _ _ hP hD hS ls (lv_sub hl [1, 2, 3, 4, 0] rfl)
          · have hb1 : (va_up r k false) f = true := jbi_n0.mp c_45_3
            refine lv_iload_n hx hb dX0_addDrop_48 rfl (lv_at hl 3 rfl) ?_
            refine lv_if_ne (tgt := 53) hx hb dX0_addDrop_49 (by decide) (fun c_49_4 => ?_) (fun c_49_4 => ?_)
            · rw [← nI_0] at c_49_4
              rw [nI_eq (show mm - js (jcn (va_up r k false)) f < 2 ^ 31 by omega) (show 0 < 2 ^ 31 by omega)] at c_49_4
              refine lv_iinc (v := (nI (mm - js (jcn (va_up r k false)) (f + 1)))) (lv' := [(3, .int (nI (mm - js (jcn (va_up r k false)) (f + 1)))), (0, .ref qr), (1, .int (nI mm)), (2, .int (nI ((old + us) % 40))), (4, .int (nI f))]) hx hb dX0_addDrop_53 hl (k := 3) rfl (by rw [js_step, jcn_t hb1]; exact j_dec (by omega)) (by decide) rfl (fun ls hl => ?_)
              refine lv_aload_n hx hb dX0_addDrop_56 rfl (lv_at hl 1 rfl) ?_
              refine j_callv (wr := []) hP hD hS hA [0, 1, 2, 3] [] rfl rfl (by decide) (by decide) (va_runV (As := []) (rest := []) ⟨hx, hb, hml, hown, hts⟩ (c_R_giveBackOldest l D cb ci cz qr qd ql qn dk (upd L ((old + us) % 40) (-1)) N ((old + js (jse (va_up r k false) (va_up z k 0)) f) % 40) (us + 1 - js (jse (va_up r k false) (va_up z k 0)) f) (pr - mm) ((va_up r k false) f) ((va_up z k 0) f) (Nat.mod_lt _ (by decide)) (by omega) a3 a2 (by show jse (va_up r k false) (va_up z k 0) f ≤ _; omega) H.size) (cwV 0 hts gX0_addDrop_X0_giveBackOldest rfl rfl rfl (by decide +kernel) ⟨Nat.le_of_ble_eq_true rfl, Nat.le_of_ble_eq_true rfl⟩) (j_preV (ci := 0) (q0 := 0) [0, 1, 2, 3] [0, 1, 2] hK hP hD rfl rfl rfl rfl rfl rfl) rfl rfl hl.1 rfl (lv_room (Nat.le_of_ble_eq_true rfl)) dX0_addDrop_57 ⟨Nat.le_of_ble_eq_true rfl, Nat.le_of_ble_eq_true rfl⟩) (fun u9 H locs hw hP hD hS => ?_)
              rw [show ((old + js (jse (va_up r k false) (va_up z k 0)) f) % 40 + (if (va_up r k false) f = true then jsc ((va_up z k 0) f) else 1)) % 40 = (old + js (jse (va_up r k false) (va_up z k 0)) (f + 1)) % 40 by rw [js_step]; show ((old + js (jse (va_up r k false) (va_up z k 0)) f) % 40 + jse (va_up r k false) (va_up z k 0) f) % 40 = _; omega, show us + 1 - js (jse (va_up r k false) (va_up z k 0)) f - (if (va_up r k false) f = true then jsc ((va_up z k 0) f) else 1) = us + 1 - js (jse (va_up r k false) (va_up z k 0)) (f + 1) by rw [js_step]; show us + 1 - js (jse (va_up r k false) (va_up z k 0)) f - jse (va_up r k false) (va_up z k 0) f = _; omega] at hP hD
              have hP : va_P D vwCl [(qr, .inr (0, [.ref qd, .ref ql, .ref qn, .int (nI ((old + js (jse (va_up r k false) (va_up z k 0)) (f + 1)) % 40)), .int (nI (us + 1 - js (jse (va_up r k false) (va_up z k 0)) (f + 1))), .int (nI (pr - mm))])), (qd, .inl (cb, 480, .inl dk)), (ql, .inl (ci, 40, .inl (upd L ((old + us) % 40) (-1)))), (qn, .inl (ci, 40, .inl N))] H := hP
              have hD : va_D A [(qr, .inr (0, [.ref qd, .ref ql, .ref qn, .int (nI ((old + js (jse (va_up r k false) (va_up z k 0)) (f + 1)) % 40)), .int (nI (us + 1 - js (jse (va_up r k false) (va_up z k 0)) (f + 1))), .int (nI (pr - mm))])), (qd, .inl (cb, 480, .inl dk)), (ql, .inl (ci, 40, .inl (upd L ((old + us) % 40) (-1)))), (qn, .inl (ci, 40, .inl N))] := hD
              refine lv_iinc (v := (nI (f + 1))) (lv' := [(4, .int (nI (f + 1))), (3, .int (nI (mm - js (jcn (va_up r k false)) (f + 1)))), (0, .ref qr), (1, .int (nI mm)), (2, .int (nI ((old + us) % 40)))]) hx hb dX0_addDrop_60 hl (k := 4) rfl (nI_1 _) (by decide) rfl (fun ls hl => ?_)
              refine lv_goto (tgt := 22) hx hb dX0_addDrop_63 (by decide) ?_
              exact ih22 (f + 1) (by omega) (by omega) (by rw [js_step]; have b1 := jcn_t hb1; omega) (lt_s hq (jPd_m (by omega))) _ _ hP hD hS ls (lv_sub hl [2, 3, 4, 1, 0] rfl)
            · rw [← nI_0] at c_49_4
              rw [nI_eq (show mm - js (jcn (va_up r k false)) f < 2 ^ 31 by omega) (show 0 < 2 ^ 31 by omega)] at c_49_4
              have hce : js (jcn (va_up r k false)) f = mm := by omega
              have hfe : (jdrF k r mm) = f := jfs_some (jPd_t hb1 (by omega)) hq (k + 1) (by omega) k
              rw [← hfe] at hP hD
              exact j_vret (()) hx hb hr hlk hK hP hD hS (by rw [hfe]; exact hce) dX0_addDrop_52
  have e0 : (old + js (jse (va_up r k false) (va_up z k 0)) 0) % 40 = old := Nat.mod_eq_of_lt ho40
  have hP : va_P D vwCl [(qr, .inr (0, [.ref qd, .ref ql, .ref qn, .int (nI ((old + js (jse (va_up r k false) (va_up z k 0)) 0) % 40)), .int (nI (us + 1 - js (jse (va_up r k false) (va_up z k 0)) 0)), .int (nI (pr - mm))])), (qd, .inl (cb, 480, .inl dk)), (ql, .inl (ci, 40, .inl (upd L ((old + us) % 40) (-1)))), (qn, .inl (ci, 40, .inl N))] H := by rw [e0]; exact hP
  have hD : va_D A [(qr, .inr (0, [.ref qd, .ref ql, .ref qn, .int (nI ((old + js (jse (va_up r k false) (va_up z k 0)) 0) % 40)), .int (nI (us + 1 - js (jse (va_up r k false) (va_up z k 0)) 0)), .int (nI (pr - mm))])), (qd, .inl (cb, 480, .inl dk)), (ql, .inl (ci, 40, .inl (upd L ((old + us) % 40) (-1)))), (qn, .inl (ci, 40, .inl N))] := by rw [e0]; exact hD
  exact LOOP22 (k + 1) 0 (by omega) (by omega) (Nat.zero_le _) (fun _ h => absurd h (Nat.not_lt_zero _)) _ _ hP hD hS ls (lv_sub hl [3, 4, 2, 1, 0] rfl)
abbrev rm_R_sectorOfRecord : Room := { frames := 5, cells := 0, slots := 0, locals := 105 }
set_option maxHeartbeats 4000000 in
set_option maxRecDepth 100000 in
/-- the first sector of the i-th record -/
theorem c_R_sectorOfRecord (l : Launch) (D : va_G) (cb ci cz : ClassId) (qr qd ql qn : Nat) (dk L N : Nat → Int32) (old us pr : Nat) (k : Nat) (r : Nat → Bool) (z : Nat → Nat) (u : Nat → Int32) (y : Nat → Nat → Int32) (i : Int32) (hR : jR old us pr dk L N k r z u y) (sz : Nat) : Met l yX0_sectorOfRecord wsX0_sectorOfRecord rm_R_sectorOfRecord (va_Pc [.ref qr, .int i] (j_pre D (jT cb ci cz) [(qr, .inr (0, [.ref qd, .ref ql, .ref qn, .int (nI old), .int (nI us), .int (nI pr)])), (qd, .inl (cb, 480, .inl dk)), (ql, .inl (ci, 40, .inl L)), (qn, .inl (ci, 40, .inl N))] sz)) (va_Qi (fun (x : Int32) (_ : Unit) => (∃ j, jfd k r true i j ∧ x = nI ((old + js (jse r z) j) % 40)) ∨ ((∀ j, ¬ jfd k r true i j) ∧ x = -1)) (j_post D (jT cb ci cz) (fun _ => [(qr, .inr (0, [.ref qd, .ref ql, .ref qn, .int (nI old), .int (nI us), .int (nI pr)])), (qd, .inl (cb, 480, .inl dk)), (ql, .inl (ci, 40, .inl L)), (qn, .inl (ci, 40, .inl N))]) (va_A [(qr, .inr (0, [.ref qd, .ref ql, .ref qn, .int (nI old), .int (nI us), .int (nI pr)])), (qd, .inl (cb, 480, .inl dk)), (ql, .inl (ci, 40, .inl L)), (qn, .inl (ci, 40, .inl N))] sz)) (va_A [(qr, .inr (0, [.ref qd, .ref ql, .ref qn, .int (nI old), .int (nI us), .int (nI pr)])), (qd, .inl (cb, 480, .inl dk)), (ql, .inl (ci, 40, .inl L)), (qn, .inl (ci, 40, .inl N))] sz)) 0 0 (va_A [(qr, .inr (0, [.ref qd, .ref ql, .ref qn, .int (nI old), .int (nI us), .int (nI pr)])), (qd, .inl (cb, 480, .inl dk)), (ql, .inl (ci, 40, .inl L)), (qn, .inl (ci, 40, .inl N))] sz) := by
  refine j_in (Qc := fun A => (va_Qi (fun (x : Int32) (_ : Unit) => (∃ j, jfd k r true i j ∧ x = nI ((old + js (jse r z) j) % 40)) ∨ ((∀ j, ¬ jfd k r true i j) ∧ x = -1)) (j_post D (jT cb ci cz) (fun _ => [(qr, .inr (0, [.ref qd, .ref ql, .ref qn, .int (nI old), .int (nI us), .int (nI pr)])), (qd, .inl (cb, 480, .inl dk)), (ql, .inl (ci, 40, .inl L)), (qn, .inl (ci, 40, .inl N))]) A) A)) (cc := cX0_sectorOfRecord) (maxL := 5) (ret := (some .int)) (by decide) rfl (Nat.le_of_ble_eq_true rfl) ?_
  intro p e s m av below meth c A ls H locs hx hb hr hml hts hown hlk hin hA hP hK hD hS hl
  have hown : s.vm.findClass RX0 = some m.cls := hown
  have hl : lv_has ls 5 [(0, .ref qr), (1, .int i)] := hl
  have hk40 := jR_k hR
  have hp40 := jR_pr hR
  have ho40 := hR.1
  have hu40 := hR.2.2.1
  refine lv_iload_n hx hb dX0_sectorOfRecord_0 rfl (lv_at hl 1 rfl) ?_
  refine lv_if_lt (tgt := 12) hx hb dX0_sectorOfRecord_1 (by decide) (fun c_1_1 => ?_) (fun c_1_1 => ?_)
  · have hno : ∀ j, ¬ jfd k r true i j := fun j q => absurd (show nI (js (jcn r) j) < 0 from q.2.2.2 ▸ c_1_1) (nI_pos (by have := jct_le r j; have := q.2.1; omega))
    refine lv_iconst (v := (-1)) hx hb dX0_sectorOfRecord_12 (by decide +kernel) ?_
    exact j_iret (v := (-1)) (()) hx hb hr hlk hK hP hD hS (Or.inr ⟨hno, rfl⟩) dX0_sectorOfRecord_13
  · obtain ⟨ii, hii, hi2⟩ := nI_of c_1_1
    rw [hi2] at hl
    refine lv_iload_n hx hb dX0_sectorOfRecord_4 rfl (lv_at hl 1 rfl) ?_
    refine lv_aload_n hx hb dX0_sectorOfRecord_5 rfl (lv_at hl 0 rfl) ?_
    refine va_get (D := D) (ci := 0) (v := .int (nI pr)) (C := RX0) (T := TX0) (N := 6) hx hb hts (by decide +kernel) hown hK hP 0 rfl rfl 5 (by decide) (hts (.fieldLink RX0 29 "JournalDesk$Ring" "present" "I") (by decide +kernel)) (fun _ h9 => h9) rfl dX0_sectorOfRecord_6 ?_
    refine lv_icmp_lt (tgt := 14) hx hb dX0_sectorOfRecord_9 (by decide) (fun c_9_2 => ?_) (fun c_9_2 => ?_)
    · rw [nI_ltI (show ii < 2 ^ 31 by omega) (show pr < 2 ^ 31 by omega)] at c_9_2
      refine lv_aload_n hx hb dX0_sectorOfRecord_14 rfl (lv_at hl 0 rfl) ?_
      refine va_get (D := D) (ci := 0) (v := .int (nI old)) (C := RX0) (T := TX0) (N := 6) hx hb hts (by decide +kernel) hown hK hP 0 rfl rfl 3 (by decide) (hts (.fieldLink RX0 22 "JournalDesk$Ring" "oldest" "I") (by decide +kernel)) (fun _ h9 => h9) rfl dX0_sectorOfRecord_15 ?_
      refine lv_istore_n (lv' := [(2, .int (nI old)), (0, .ref qr), (1, .int (nI ii))]) hx hb dX0_sectorOfRecord_18 rfl hl (by decide) rfl (fun ls hl => ?_)
      refine lv_iload_n hx hb dX0_sectorOfRecord_19 rfl (lv_at hl 2 rfl) ?_
      refine lv_istore_n (lv' := [(3, .int (nI ii)), (2, .int (nI old)), (0, .ref qr), (1, .int (nI ii))]) hx hb dX0_sectorOfRecord_20 rfl hl (by decide) rfl (fun ls hl => ?_)
      refine lv_iconst (v := (nI 0)) hx hb dX0_sectorOfRecord_21 (by decide +kernel) ?_
      refine lv_istore (lv' := [(4, .int (nI 0)), (3, .int (nI ii)), (2, .int (nI old)), (0, .ref qr), (1, .int (nI ii))]) hx hb dX0_sectorOfRecord_22 hl (by decide) rfl (fun ls hl => ?_)
      have LOOP24 : ∀ (fuel : Nat) (f : Nat) (hf : k < f + fuel) (hfk0 : f ≤ k) (hc : js (jcn r) f ≤ ii) (H : Heap) (locs : List Loc), va_P D vwCl [(qr, .inr (0, [.ref qd, .ref ql, .ref qn, .int (nI old), .int (nI us), .int (nI pr)])), (qd, .inl (cb, 480, .inl dk)), (ql, .inl (ci, 40, .inl L)), (qn, .inl (ci, 40, .inl N))] H → va_D A [(qr, .inr (0, [.ref qd, .ref ql, .ref qn, .int (nI old), .int (nI us), .int (nI pr)])), (qd, .inl (cb, 480, .inl dk)), (ql, .inl (ci, 40, .inl L)), (qn, .inl (ci, 40, .inl N))] → va_S A s.heap H locs → ∀ ls : Array Slot, lv_has ls 5 [(0, .ref qr), (1, .int (nI ii)), (2, .int (nI ((old + js (jse r z) f) % 40))), (3, .int (nI (ii - js (jcn r) f))), (4, .int (nI f))] → W p l e rm_R_sectorOfRecord s m av below meth c H locs 0 0 (MQ below (va_Qi (fun (x : Int32) (_ : Unit) => (∃ j, jfd k r true i j ∧ x = nI ((old + js (jse r z) j) % 40)) ∨ ((∀ j, ¬ jfd k r true i j) ∧ x = -1)) (j_post D (jT cb ci cz) (fun _ => [(qr, .inr (0, [.ref qd, .ref ql, .ref qn, .int (nI old), .int (nI us), .int (nI pr)])), (qd, .inl (cb, 480, .inl dk)), (ql, .inl (ci, 40, .inl L)), (qn, .inl (ci, 40, .inl N))]) A) A) av s 0 0 A) (F0 m 24 ls []) := by
        clear hP hD hS hl
        intro fuel
        induction fuel with
        | zero => intro f hf hfk0 hc; exfalso; omega
        | succ fuel ih24 =>
          intro f hf hfk0 hc H locs hP hD hS ls hl
          have a4 := jct_le r f
          have a5 := js_ge (jse_pos r z) f
          have hfk : f < k := by
            rcases Nat.lt_or_ge f k with q | q
            · exact q
            · exfalso
              have q2 : f = k := by omega
              rw [q2] at hc
              have b3 := hR.2.2.2.1
              omega
          have a1 := jR_in hR hfk
          have a2 := jR_L hR hfk
          have a3 := jR_z hR hfk
          have a6 := hR.2.2.1
          refine lv_iload hx hb dX0_sectorOfRecord_24 (lv_at hl 4 rfl) ?_
          refine lv_bipush (v := (nI 40)) hx hb dX0_sectorOfRecord_26 (by decide +kernel) ?_
          refine lv_icmp_ge (tgt := 65) hx hb dX0_sectorOfRecord_28 (by decide) (fun c_28_3 => ?_) (fun c_28_3 => ?_)
          · rw [nI_leI (show 40 < 2 ^ 31 by omega) (show f < 2 ^ 31 by omega)] at c_28_3
            exfalso; omega
          · rw [nI_leI (show 40 < 2 ^ 31 by omega) (show f < 2 ^ 31 by omega)] at c_28_3
            refine lv_aload_n hx hb dX0_sectorOfRecord_31 rfl (lv_at hl 0 rfl) ?_
            refine lv_iload_n hx hb dX0_sectorOfRecord_32 rfl (lv_at hl 2 rfl) ?_
            refine j_calli (wr := []) hP hD hS hA [0, 1, 2, 3] [] rfl rfl (by decide) (by decide) (va_runV (As := [.int (nI ((old + js (jse r z) f) % 40))]) (rest := []) ⟨hx, hb, hml, hown, hts⟩ (c_R_isRecord l D cb ci cz qr qd ql qn dk L N old us pr ((old + js (jse r z) f) % 40) (r f) (z f) (Nat.mod_lt _ (by decide)) a3 a2 H.size) (cwV 1 hts gX0_sectorOfRecord_X0_isRecord rfl rfl rfl (by decide +kernel) ⟨Nat.le_of_ble_eq_true rfl, Nat.le_of_ble_eq_true rfl⟩) (j_preV (ci := 0) (q0 := 0) [0, 1, 2, 3] [0, 1, 2] hK hP hD rfl rfl rfl rfl rfl rfl) rfl rfl hl.1 rfl (lv_room (Nat.le_of_ble_eq_true rfl)) dX0_sectorOfRecord_33 ⟨Nat.le_of_ble_eq_true rfl, Nat.le_of_ble_eq_true rfl⟩) (fun r33 u9 H locs hw hP hD hS => ?_)
            have hP : va_P D vwCl [(qr, .inr (0, [.ref qd, .ref ql, .ref qn, .int (nI old), .int (nI us), .int (nI pr)])), (qd, .inl (cb, 480, .inl dk)), (ql, .inl (ci, 40, .inl L)), (qn, .inl (ci, 40, .inl N))] H := hP
            have hD : va_D A [(qr, .inr (0, [.ref qd, .ref ql, .ref qn, .int (nI old), .int (nI us), .int (nI pr)])), (qd, .inl (cb, 480, .inl dk)), (ql, .inl (ci, 40, .inl L)), (qn, .inl (ci, 40, .inl N))] := hD
            have hw : r33 = (jbi (r f)) := hw
            subst hw
            refine lv_if_eq (tgt := 48) hx hb dX0_sectorOfRecord_36 (by decide) (fun c_36_4 => ?_) (fun c_36_4 => ?_)
            · have hb1 : r f = false := jbi_0.mp c_36_4
              rw [show js (jcn r) f = js (jcn r) (f + 1) by rw [js_step, jcn_f hb1, Nat.add_zero]] at hl
              refine lv_iload_n hx hb dX0_sectorOfRecord_48 rfl (lv_at hl 2 rfl) ?_
              refine lv_aload_n hx hb dX0_sectorOfRecord_49 rfl (lv_at hl 0 rfl) ?_
              refine lv_iload_n hx hb dX0_sectorOfRecord_50 rfl (lv_at hl 2 rfl) ?_
              refine j_calli (wr := []) hP hD hS hA [0, 1, 2, 3] [] rfl rfl (by decide) (by decide) (va_runV (As := [.int (nI ((old + js (jse r z) f) % 40))]) (rest := [.int (nI ((old + js (jse r z) f) % 40))]) ⟨hx, hb, hml, hown, hts⟩ (c_R_sectorsAt l D cb ci cz qr qd ql qn dk L N old us pr ((old + js (jse r z) f) % 40) (r f) (z f) (Nat.mod_lt _ (by decide)) a3 a2 H.size) (cwV 1 hts gX0_sectorOfRecord_X0_sectorsAt rfl rfl rfl (by decide +kernel) ⟨Nat.le_of_ble_eq_true rfl, Nat.le_of_ble_eq_true rfl⟩) (j_preV (ci := 0) (q0 := 0) [0, 1, 2, 3] [0, 1, 2] hK hP hD rfl rfl rfl rfl rfl rfl) rfl rfl hl.1 rfl (lv_room (Nat.le_of_ble_eq_true rfl)) dX0_sectorOfRecord_51 ⟨Nat.le_of_ble_eq_true rfl, Nat.le_of_ble_eq_true rfl⟩) (fun r51 u9 H locs hw hP hD hS => ?_)
              have hP : va_P D vwCl [(qr, .inr (0, [.ref qd, .ref ql, .ref qn, .int (nI old), .int (nI us), .int (nI pr)])), (qd, .inl (cb, 480, .inl dk)), (ql, .inl (ci, 40, .inl L)), (qn, .inl (ci, 40, .inl N))] H := hP
              have hD : va_D A [(qr, .inr (0, [.ref qd, .ref ql, .ref qn, .int (nI old), .int (nI us), .int (nI pr)])), (qd, .inl (cb, 480, .inl dk)), (ql, .inl (ci, 40, .inl L)), (qn, .inl (ci, 40, .inl N))] := hD
              have hw : r51 = (nI (if r f = true then jsc (z f) else 1)) := hw
              subst hw
              refine jt_i (y := nI (jse r z f)) rfl ?_
              refine lv_iadd hx hb dX0_sectorOfRecord_54 ?_
              refine jt_i (y := (nI (((old + js (jse r z) f) % 40) + (jse r z f)))) (nI_add _ _) ?_
              refine j_calli (wr := [(qr, .inr (0, [.ref qd, .ref ql, .ref qn, .int (nI old), .int (nI us), .int (nI pr)])), (qd, .inl (cb, 480, .inl dk)), (ql, .inl (ci, 40, .inl L)), (qn, .inl (ci, 40, .inl N))]) hP hD hS hA [] [0, 1, 2, 3] rfl rfl (by decide) (by decide) (va_runS (As := [.int (nI (((old + js (jse r z) f) % 40) + (jse r z f)))]) (rest := []) ⟨hx, hb, hml, hown, hts⟩ (c_R_onRing l D cb ci cz ((old + js (jse r z) f) % 40 + jse r z f) (by omega) H.size) (va_cwS 1 hts gX0_sectorOfRecord_X0_onRing rfl rfl rfl (by decide +kernel) ⟨Nat.le_of_ble_eq_true rfl, Nat.le_of_ble_eq_true rfl⟩) (j_preS [] [0, 1, 2] hK hP hD rfl rfl rfl rfl) rfl rfl hl.1 rfl (lv_room (Nat.le_of_ble_eq_true rfl)) dX0_sectorOfRecord_55 ⟨Nat.le_of_ble_eq_true rfl, Nat.le_of_ble_eq_true rfl⟩) (fun r55 u9 H locs hw hP hD hS => ?_)
              have hP : va_P D vwCl [(qr, .inr (0, [.ref qd, .ref ql, .ref qn, .int (nI old), .int (nI us), .int (nI pr)])), (qd, .inl (cb, 480, .inl dk)), (ql, .inl (ci, 40, .inl L)), (qn, .inl (ci, 40, .inl N))] H := hP
              have hD : va_D A [(qr, .inr (0, [.ref qd, .ref ql, .ref qn, .int (nI old), .int (nI us), .int (nI pr)])), (qd, .inl (cb, 480, .inl dk)), (ql, .inl (ci, 40, .inl L)), (qn, .inl (ci, 40, .inl N))] := hD
              have hw : r55 = (nI (((old + js (jse r z) f) % 40 + jse r z f) % 40)) := hw
              subst hw
              refine jt_i (y := nI ((old + js (jse r z) (f + 1)) % 40)) (congrArg nI (by rw [js_step]; omega)) ?_
              refine lv_istore_n (lv' := [(2, .int (nI ((old + js (jse r z) (f + 1)) % 40))), (0, .ref qr), (1, .int (nI ii)), (3, .int (nI (ii - js (jcn r) (f + 1)))), (4, .int (nI f))]) hx hb dX0_sectorOfRecord_58 rfl hl (by decide) rfl (fun ls hl => ?_)
              refine lv_iinc (v := (nI (f + 1))) (lv' := [(4, .int (nI (f + 1))), (2, .int (nI ((old + js (jse r z) (f + 1)) % 40))), (0, .ref qr), (1, .int (nI ii)), (3, .int (nI (ii - js (jcn r) (f + 1))))]) hx hb dX0_sectorOfRecord_59 hl (k := 4) rfl (nI_1 _) (by decide) rfl (fun ls hl => ?_)
              refine lv_goto (tgt := 24) hx hb dX0_sectorOfRecord_62 (by decide) ?_
              exact ih24 (f + 1) (by omega) (by omega) (by rw [js_step]; have b1 := jcn_f hb1; omega) _ _ hP hD hS ls (lv_sub hl [2, 3, 1, 4, 0] rfl)
            · have hb1 : r f = true := jbi_n0.mp c_36_4
              refine lv_iload_n hx hb dX0_sectorOfRecord_39 rfl (lv_at hl 3 rfl) ?_
              refine lv_if_ne (tgt := 45) hx hb dX0_sectorOfRecord_40 (by decide) (fun c_40_5 => ?_) (fun c_40_5 => ?_)
              · rw [← nI_0] at c_40_5
                rw [nI_eq (show ii - js (jcn r) f < 2 ^ 31 by omega) (show 0 < 2 ^ 31 by omega)] at c_40_5
                refine lv_iinc (v := (nI (ii - js (jcn r) (f + 1)))) (lv' := [(3, .int (nI (ii - js (jcn r) (f + 1)))), (0, .ref qr), (1, .int (nI ii)), (2, .int (nI ((old + js (jse r z) f) % 40))), (4, .int (nI f))]) hx hb dX0_sectorOfRecord_45 hl (k := 3) rfl (by rw [js_step, jcn_t hb1]; exact j_dec (by omega)) (by decide) rfl (fun ls hl => ?_)
                refine lv_iload_n hx hb dX0_sectorOfRecord_48 rfl (lv_at hl 3 rfl) ?_
                refine lv_aload_n hx hb dX0_sectorOfRecord_49 rfl (lv_at hl 1 rfl) ?_
                refine lv_iload_n hx hb dX0_sectorOfRecord_50 rfl (lv_at hl 3 rfl) ?_
                refine j_calli (wr := []) hP hD hS hA [0, 1, 2, 3] [] rfl rfl (by decide) (by decide) (va_runV (As := [.int (nI ((old + js (jse r z) f) % 40))]) (rest := [.int (nI ((old + js (jse r z) f) % 40))]) ⟨hx, hb, hml, hown, hts⟩ (c_R_sectorsAt l D cb ci cz qr qd ql qn dk L N old us pr ((old + js (jse r z) f) % 40) (r f) (z f) (Nat.mod_lt _ (by decide)) a3 a2 H.size) (cwV 1 hts gX0_sectorOfRecord_X0_sectorsAt rfl rfl rfl (by decide +kernel) ⟨Nat.le_of_ble_eq_true rfl, Nat.le_of_ble_eq_true rfl⟩) (j_preV (ci := 0) (q0 := 0) [0, 1, 2, 3] [0, 1, 2] hK hP hD rfl rfl rfl rfl rfl rfl) rfl rfl hl.1 rfl (lv_room (Nat.le_of_ble_eq_true rfl)) dX0_sectorOfRecord_51 ⟨Nat.le_of_ble_eq_true rfl, Nat.le_of_ble_eq_true rfl⟩) (fun r51 u9 H locs hw hP hD hS => ?_)
                have hP : va_P D vwCl [(qr, .inr (0, [.ref qd, .ref ql, .ref qn, .int (nI old), .int (nI us), .int (nI pr)])), (qd, .inl (cb, 480, .inl dk)), (ql, .inl (ci, 40, .inl L)), (qn, .inl (ci, 40, .inl N))] H := hP
                have hD : va_D A [(qr, .inr (0, [.ref qd, .ref ql, .ref qn, .int (nI old), .int (nI us), .int (nI pr)])), (qd, .inl (cb, 480, .inl dk)), (ql, .inl (ci, 40, .inl L)), (qn, .inl (ci, 40, .inl N))] := hD
                have hw : r51 = (nI (if r f = true then jsc (z f) else 1)) := hw
                subst hw
                refine jt_i (y := nI (jse r z f)) rfl ?_
                refine lv_iadd hx hb dX0_sectorOfRecord_54 ?_
                refine jt_i (y := (nI (((old + js (jse r z) f) % 40) + (jse r z f)))) (nI_add _ _) ?_
                refine j_calli (wr := [(qr, .inr (0, [.ref qd, .ref ql, .ref qn, .int (nI old), .int (nI us), .int (nI pr)])), (qd, .inl (cb, 480, .inl dk)), (ql, .inl (ci, 40, .inl L)), (qn, .inl (ci, 40, .inl N))]) hP hD hS hA [] [0, 1, 2, 3] rfl rfl (by decide) (by decide) (va_runS (As := [.int (nI (((old + js (jse r z) f) % 40) + (jse r z f)))]) (rest := []) ⟨hx, hb, hml, hown, hts⟩ (c_R_onRing l D cb ci cz ((old + js (jse r z) f) % 40 + jse r z f) (by omega) H.size) (va_cwS 1 hts gX0_sectorOfRecord_X0_onRing rfl rfl rfl (by decide +kernel) ⟨Nat.le_of_ble_eq_true rfl, Nat.le_of_ble_eq_true rfl⟩) (j_preS [] [0, 1, 2] hK hP hD rfl rfl rfl rfl) rfl rfl hl.1 rfl (lv_room (Nat.le_of_ble_eq_true rfl)) dX0_sectorOfRecord_55 ⟨Nat.le_of_ble_eq_true rfl, Nat.le_of_ble_eq_true rfl⟩) (fun r55 u9 H locs hw hP hD hS => ?_)
                have hP : va_P D vwCl [(qr, .inr (0, [.ref qd, .ref ql, .ref qn, .int (nI old), .int (nI us), .int (nI pr)])), (qd, .inl (cb, 480, .inl dk)), (ql, .inl (ci, 40, .inl L)), (qn, .inl (ci, 40, .inl N))] H := hP
                have hD : va_D A [(qr, .inr (0, [.ref qd, .ref ql, .ref qn, .int (nI old), .int (nI us), .int (nI pr)])), (qd, .inl (cb, 480, .inl dk)), (ql, .inl (ci, 40, .inl L)), (qn, .inl (ci, 40, .inl N))] := hD
                have hw : r55 = (nI (((old + js (jse r z) f) % 40 + jse r z f) % 40)) := hw
                subst hw
                refine jt_i (y := nI ((old + js (jse r z) (f + 1)) % 40)) (congrArg nI (by rw [js_step]; omega)) ?_
                refine lv_istore_n (lv' := [(2, .int (nI ((old + js (jse r z) (f + 1)) % 40))), (3, .int (nI (ii - js (jcn r) (f + 1)))), (0, .ref qr), (1, .int (nI ii)), (4, .int (nI f))]) hx hb dX0_sectorOfRecord_58 rfl hl (by decide) rfl (fun ls hl => ?_)
                refine lv_iinc (v := (nI (f + 1))) (lv' := [(4, .int (nI (f + 1))), (2, .int (nI ((old + js (jse r z) (f + 1)) % 40))), (3, .int (nI (ii - js (jcn r) (f + 1)))), (0, .ref qr), (1, .int (nI ii))]) hx hb dX0_sectorOfRecord_59 hl (k := 4) rfl (nI_1 _) (by decide) rfl (fun ls hl => ?_)
                refine lv_goto (tgt := 24) hx hb dX0_sectorOfRecord_62 (by decide) ?_
                exact ih24 (f + 1) (by omega) (by omega) (by rw [js_step]; have b1 := jcn_t hb1; omega) _ _ hP hD hS ls (lv_sub hl [3, 4, 1, 2, 0] rfl)
              · rw [← nI_0] at c_40_5
                rw [nI_eq (show ii - js (jcn r) f < 2 ^ 31 by omega) (show 0 < 2 ^ 31 by omega)] at c_40_5
                refine lv_iload_n hx hb dX0_sectorOfRecord_43 rfl (lv_at hl 2 rfl) ?_
                exact j_iret (v := (nI ((old + js (jse r z) f) % 40))) (()) hx hb hr hlk hK hP hD hS (Or.inl ⟨f, ⟨rfl, hfk, hb1, hi2.trans (congrArg nI (by omega))⟩, rfl⟩) dX0_sectorOfRecord_44
      have e0 : (old + js (jse r z) 0) % 40 = old := Nat.mod_eq_of_lt ho40
      rw [← e0] at hl
      exact LOOP24 (k + 1) 0 (by omega) (by omega) (Nat.zero_le _) _ _ hP hD hS ls (lv_sub hl [3, 4, 2, 1, 0] rfl)
    · rw [nI_ltI (show ii < 2 ^ 31 by omega) (show pr < 2 ^ 31 by omega)] at c_9_2
      have hno : ∀ j, ¬ jfd k r true i j := fun j q => by
        obtain ⟨-, q1, q2, q3⟩ := q
        have b1 := jct_le r j
        have b2 := js_mono (jcn r) (show j + 1 ≤ k from q1)
        rw [js_step, jcn_t q2] at b2
        have b3 := hR.2.2.2.1
        rw [hi2, nI_eq (by omega) (by omega)] at q3
        omega
      refine lv_iconst (v := (-1)) hx hb dX0_sectorOfRecord_12 (by decide +kernel) ?_
      exact j_iret (v := (-1)) (()) hx hb hr hlk hK hP hD hS (Or.inr ⟨hno, rfl⟩) dX0_sectorOfRecord_13
abbrev rm_R_eightBytes : Room := { frames := 3, cells := 0, slots := 0, locals := 63 }
set_option maxHeartbeats 4000000 in
set_option maxRecDepth 100000 in
/-- eight bytes of what begins at sector a, from byte cc on -/
theorem c_R_eightBytes (l : Launch) (D : va_G) (cb ci cz : ClassId) (qr qd ql qn : Nat) (dk L N : Nat → Int32) (old us pr : Nat) (a cc w : Nat) (yy : Nat → Int32) (ha : a < 40) (hw0 : w ≤ 100) (hL : L a = nI w) (hyy : ∀ i, i < w → dk ((12 * a + i) % 480) &&& 255 = yy i) (hcc : cc < 2 ^ 31) (sz : Nat) : Met l yX0_eightBytes wsX0_eightBytes rm_R_eightBytes (va_Pc [.ref qr, .int (nI a), .int (nI cc)] (j_pre D (jT cb ci cz) [(qr, .inr (0, [.ref qd, .ref ql, .ref qn, .int (nI old), .int (nI us), .int (nI pr)])), (qd, .inl (cb, 480, .inl dk)), (ql, .inl (ci, 40, .inl L)), (qn, .inl (ci, 40, .inl N))] sz)) (va_Ql (fun (x : Int64) (_ : Unit) => x = je8 (fun b => if cc + b < w then yy (cc + b) else 0) 8) (j_post D (jT cb ci cz) (fun _ => [(qr, .inr (0, [.ref qd, .ref ql, .ref qn, .int (nI old), .int (nI us), .int (nI pr)])), (qd, .inl (cb, 480, .inl dk)), (ql, .inl (ci, 40, .inl L)), (qn, .inl (ci, 40, .inl N))]) (va_A [(qr, .inr (0, [.ref qd, .ref ql, .ref qn, .int (nI old), .int (nI us), .int (nI pr)])), (qd, .inl (cb, 480, .inl dk)), (ql, .inl (ci, 40, .inl L)), (qn, .inl (ci, 40, .inl N))] sz)) (va_A [(qr, .inr (0, [.ref qd, .ref ql, .ref qn, .int (nI old), .int (nI us), .int (nI pr)])), (qd, .inl (cb, 480, .inl dk)), (ql, .inl (ci, 40, .inl L)), (qn, .inl (ci, 40, .inl N))] sz)) 0 0 (va_A [(qr, .inr (0, [.ref qd, .ref ql, .ref qn, .int (nI old), .int (nI us), .int (nI pr)])), (qd, .inl (cb, 480, .inl dk)), (ql, .inl (ci, 40, .inl L)), (qn, .inl (ci, 40, .inl N))] sz) := by
  refine j_in (Qc := fun A => (va_Ql (fun (x : Int64) (_ : Unit) => x = je8 (fun b => if cc + b < w then yy (cc + b) else 0) 8) (j_post D (jT cb ci cz) (fun _ => [(qr, .inr (0, [.ref qd, .ref ql, .ref qn, .int (nI old), .int (nI us), .int (nI pr)])), (qd, .inl (cb, 480, .inl dk)), (ql, .inl (ci, 40, .inl L)), (qn, .inl (ci, 40, .inl N))]) A) A)) (cc := cX0_eightBytes) (maxL := 8) (ret := (some .long)) (by decide) rfl (Nat.le_of_ble_eq_true rfl) ?_
  intro p e s m av below meth c A ls H locs hx hb hr hml hts hown hlk hin hA hP hK hD hS hl
  have hown : s.vm.findClass RX0 = some m.cls := hown
  have hl : lv_has ls 8 [(0, .ref qr), (1, .int (nI a)), (2, .int (nI cc))] := hl
  refine lv_aload_n hx hb dX0_eightBytes_0 rfl (lv_at hl 0 rfl) ?_
  refine lv_iload_n hx hb dX0_eightBytes_1 rfl (lv_at hl 1 rfl) ?_
  refine j_calli (wr := []) hP hD hS hA [0, 1, 2, 3] [] rfl rfl (by decide) (by decide) (va_runV (As := [.int (nI a)]) (rest := []) ⟨hx, hb, hml, hown, hts⟩ (c_R_lengthAt l D cb ci cz qr qd ql qn dk L N old us pr a ha H.size) (cwV 1 hts gX0_eightBytes_X0_lengthAt rfl rfl rfl (by decide +kernel) ⟨Nat.le_of_ble_eq_true rfl, Nat.le_of_ble_eq_true rfl⟩) (j_preV (ci := 0) (q0 := 0) [0, 1, 2, 3] [0, 1, 2] hK hP hD rfl rfl rfl rfl rfl rfl) rfl rfl hl.1 rfl (lv_room (Nat.le_of_ble_eq_true rfl)) dX0_eightBytes_2 ⟨Nat.le_of_ble_eq_true rfl, Nat.le_of_ble_eq_true rfl⟩) (fun r2 u9 H locs hw hP hD hS => ?_)
  have hP : va_P D vwCl [(qr, .inr (0, [.ref qd, .ref ql, .ref qn, .int (nI old), .int (nI us), .int (nI pr)])), (qd, .inl (cb, 480, .inl dk)), (ql, .inl (ci, 40, .inl L)), (qn, .inl (ci, 40, .inl N))] H := hP
  have hD : va_D A [(qr, .inr (0, [.ref qd, .ref ql, .ref qn, .int (nI old), .int (nI us), .int (nI pr)])), (qd, .inl (cb, 480, .inl dk)), (ql, .inl (ci, 40, .inl L)), (qn, .inl (ci, 40, .inl N))] := hD
  have hw : r2 = (L a) := hw
  subst hw
  refine jt_i (y := nI w) hL ?_
  refine lv_istore_n (lv' := [(3, .int (nI w)), (0, .ref qr), (1, .int (nI a)), (2, .int (nI cc))]) hx hb dX0_eightBytes_5 rfl hl (by decide) rfl (fun ls hl => ?_)
  refine lv_iload_n hx hb dX0_eightBytes_6 rfl (lv_at hl 3 rfl) ?_
  refine lv_if_lt (tgt := 15) hx hb dX0_eightBytes_7 (by decide) (fun c_7_1 => ?_) (fun c_7_1 => ?_)
  · rw [← nI_0] at c_7_1
    rw [nI_ltI (show cc < 2 ^ 31 by omega) (show 0 < 2 ^ 31 by omega)] at c_7_1
    exfalso; omega
  · rw [← nI_0] at c_7_1
    rw [nI_ltI (show cc < 2 ^ 31 by omega) (show 0 < 2 ^ 31 by omega)] at c_7_1
    refine lv_iload_n hx hb dX0_eightBytes_10 rfl (lv_at hl 3 rfl) ?_
    refine lv_iload_n hx hb dX0_eightBytes_11 rfl (lv_at hl 0 rfl) ?_
    refine lv_icmp_lt (tgt := 17) hx hb dX0_eightBytes_12 (by decide) (fun c_12_2 => ?_) (fun c_12_2 => ?_)
    · rw [nI_ltI (show cc < 2 ^ 31 by omega) (show w < 2 ^ 31 by omega)] at c_12_2
      refine lv_lconst (v := 0) hx hb dX0_eightBytes_17 (by decide +kernel) ?_
      refine lv_lstore (lv' := [(4, .long (0 : Int64)), (3, .int (nI w)), (0, .ref qr), (1, .int (nI a)), (2, .int (nI cc))]) hx hb dX0_eightBytes_18 hl (by decide) rfl (fun ls hl => ?_)
      refine lv_iload_n hx hb dX0_eightBytes_20 rfl (lv_at hl 4 rfl) ?_
      refine lv_istore (lv' := [(6, .int (nI cc)), (4, .long (0 : Int64)), (3, .int (nI w)), (0, .ref qr), (1, .int (nI a)), (2, .int (nI cc))]) hx hb dX0_eightBytes_21 hl (by decide) rfl (fun ls hl => ?_)
      have LOOP23 : ∀ (fuel : Nat) (b : Nat) (hf : 8 < b + fuel) (hb8 : b ≤ 8) (hcw : cc < w) (H : Heap) (locs : List Loc), va_P D vwCl [(qr, .inr (0, [.ref qd, .ref ql, .ref qn, .int (nI old), .int (nI us), .int (nI pr)])), (qd, .inl (cb, 480, .inl dk)), (ql, .inl (ci, 40, .inl L)), (qn, .inl (ci, 40, .inl N))] H → va_D A [(qr, .inr (0, [.ref qd, .ref ql, .ref qn, .int (nI old), .int (nI us), .int (nI pr)])), (qd, .inl (cb, 480, .inl dk)), (ql, .inl (ci, 40, .inl L)), (qn, .inl (ci, 40, .inl N))] → va_S A s.heap H locs → ∀ ls : Array Slot, lv_has ls 8 [(0, .ref qr), (1, .int (nI a)), (2, .int (nI cc)), (3, .int (nI w)), (4, .long (je8 (fun b => if cc + b < w then yy (cc + b) else 0) b)), (6, .int (nI (cc + b)))] → W p l e rm_R_eightBytes s m av below meth c H locs 0 0 (MQ below (va_Ql (fun (x : Int64) (_ : Unit) => x = je8 (fun b => if cc + b < w then yy (cc + b) else 0) 8) (j_post D (jT cb ci cz) (fun _ => [(qr, .inr (0, [.ref qd, .ref ql, .ref qn, .int (nI old), .int (nI us), .int (nI pr)])), (qd, .inl (cb, 480, .inl dk)), (ql, .inl (ci, 40, .inl L)), (qn, .inl (ci, 40, .inl N))]) A) A) av s 0 0 A) (F0 m 23 ls []) := by
        clear hP hD hS hl
        intro fuel
        induction fuel with
        | zero => intro b hf hb8 hcw; exfalso; omega
        | succ fuel ih23 =>
          intro b hf hb8 hcw H locs hP hD hS ls hl
          refine lv_iload hx hb dX0_eightBytes_23 (lv_at hl 5 rfl) ?_
          refine lv_iload_n hx hb dX0_eightBytes_25 rfl (lv_at hl 2 rfl) ?_
          refine lv_bipush (v := (nI 8)) hx hb dX0_eightBytes_26 (by decide +kernel) ?_
          refine lv_iadd hx hb dX0_eightBytes_28 ?_
          refine jt_i (y := (nI (cc + 8))) (nI_add _ _) ?_
          refine lv_icmp_ge (tgt := 76) hx hb dX0_eightBytes_29 (by decide) (fun c_29_3 => ?_) (fun c_29_3 => ?_)
          · rw [nI_leI (show cc + 8 < 2 ^ 31 by omega) (show cc + b < 2 ^ 31 by omega)] at c_29_3
            have hbe : b = 8 := by omega
            rw [hbe] at hl
            refine lv_lload hx hb dX0_eightBytes_76 (lv_at hl 4 rfl) ?_
            exact j_lret (v := (je8 (fun b => if cc + b < w then yy (cc + b) else 0) 8)) (()) hx hb hr hlk hK hP hD hS (rfl) dX0_eightBytes_78
          · rw [nI_leI (show cc + 8 < 2 ^ 31 by omega) (show cc + b < 2 ^ 31 by omega)] at c_29_3
            refine lv_iload hx hb dX0_eightBytes_32 (lv_at hl 5 rfl) ?_
            refine lv_iload_n hx hb dX0_eightBytes_34 rfl (lv_at hl 3 rfl) ?_
            refine lv_icmp_ge (tgt := 56) hx hb dX0_eightBytes_35 (by decide) (fun c_35_4 => ?_) (fun c_35_4 => ?_)
            · rw [nI_leI (show w < 2 ^ 31 by omega) (show cc + b < 2 ^ 31 by omega)] at c_35_4
              refine lv_iconst (v := (nI 0)) hx hb dX0_eightBytes_56 (by decide +kernel) ?_
              refine lv_istore (lv' := [(7, .int (nI 0)), (0, .ref qr), (1, .int (nI a)), (2, .int (nI cc)), (3, .int (nI w)), (4, .long (je8 (fun b => if cc + b < w then yy (cc + b) else 0) b)), (6, .int (nI (cc + b)))]) hx hb dX0_eightBytes_57 hl (by decide) rfl (fun ls hl => ?_)
              refine lv_lload hx hb dX0_eightBytes_59 (lv_at hl 5 rfl) ?_
              refine lv_bipush (v := (nI 8)) hx hb dX0_eightBytes_61 (by decide +kernel) ?_
              refine lv_lshl hx hb dX0_eightBytes_63 rfl ?_
              refine lv_iload hx hb dX0_eightBytes_64 (lv_at hl 0 rfl) ?_
              refine lv_i2l hx hb dX0_eightBytes_66 rfl ?_
              refine lv_lor hx hb dX0_eightBytes_67 ?_
              refine jt_l (y := (je8 (fun b => if cc + b < w then yy (cc + b) else 0) (b + 1))) (by show _ = (je8 (fun b => if cc + b < w then yy (cc + b) else 0) b <<< _) ||| Int32.toInt64 (if cc + b < w then yy (cc + b) else 0); rw [if_neg (by omega)]; try rfl) ?_
              refine lv_lstore (lv' := [(4, .long (je8 (fun b => if cc + b < w then yy (cc + b) else 0) (b + 1))), (7, .int (nI 0)), (0, .ref qr), (1, .int (nI a)), (2, .int (nI cc)), (3, .int (nI w)), (6, .int (nI (cc + b)))]) hx hb dX0_eightBytes_68 hl (by decide) rfl (fun ls hl => ?_)
              refine lv_iinc (v := (nI (cc + b + 1))) (lv' := [(6, .int (nI (cc + b + 1))), (4, .long (je8 (fun b => if cc + b < w then yy (cc + b) else 0) (b + 1))), (7, .int (nI 0)), (0, .ref qr), (1, .int (nI a)), (2, .int (nI cc)), (3, .int (nI w))]) hx hb dX0_eightBytes_70 hl (k := 6) rfl (nI_1 _) (by decide) rfl (fun ls hl => ?_)
              refine lv_goto (tgt := 23) hx hb dX0_eightBytes_73 (by decide) ?_
              exact ih23 (b + 1) (by omega) (by omega) hcw _ _ hP hD hS ls (lv_sub hl [3, 4, 5, 6, 1, 0] rfl)
            · rw [nI_leI (show w < 2 ^ 31 by omega) (show cc + b < 2 ^ 31 by omega)] at c_35_4
              refine lv_aload_n hx hb dX0_eightBytes_38 rfl (lv_at hl 0 rfl) ?_
              refine va_get (D := D) (ci := 0) (v := .ref qd) (C := RX0) (T := TX0) (N := 6) hx hb hts (by decide +kernel) hown hK hP 0 rfl rfl 0 (by decide) (hts (.fieldLink RX0 11 "JournalDesk$Ring" "disk" "[B") (by decide +kernel)) (fun _ h9 => h9) rfl dX0_eightBytes_39 ?_
              refine lv_iload_n hx hb dX0_eightBytes_42 rfl (lv_at hl 1 rfl) ?_
              refine lv_iload hx hb dX0_eightBytes_43 (lv_at hl 5 rfl) ?_
              refine j_calli (wr := [(qr, .inr (0, [.ref qd, .ref ql, .ref qn, .int (nI old), .int (nI us), .int (nI pr)])), (qd, .inl (cb, 480, .inl dk)), (ql, .inl (ci, 40, .inl L)), (qn, .inl (ci, 40, .inl N))]) hP hD hS hA [] [0, 1, 2, 3] rfl rfl (by decide) (by decide) (va_runS (As := [.int (nI a), .int (nI (cc + b))]) (rest := [.ref qd]) ⟨hx, hb, hml, hown, hts⟩ (c_R_place l D cb ci cz a (cc + b) ha (by omega) H.size) (va_cwS 2 hts gX0_eightBytes_X0_place rfl rfl rfl (by decide +kernel) ⟨Nat.le_of_ble_eq_true rfl, Nat.le_of_ble_eq_true rfl⟩) (j_preS [] [0, 1, 2] hK hP hD rfl rfl rfl rfl) rfl rfl hl.1 rfl (lv_room (Nat.le_of_ble_eq_true rfl)) dX0_eightBytes_45 ⟨Nat.le_of_ble_eq_true rfl, Nat.le_of_ble_eq_true rfl⟩) (fun r45 u9 H locs hw hP hD hS => ?_)
              have hP : va_P D vwCl [(qr, .inr (0, [.ref qd, .ref ql, .ref qn, .int (nI old), .int (nI us), .int (nI pr)])), (qd, .inl (cb, 480, .inl dk)), (ql, .inl (ci, 40, .inl L)), (qn, .inl (ci, 40, .inl N))] H := hP
              have hD : va_D A [(qr, .inr (0, [.ref qd, .ref ql, .ref qn, .int (nI old), .int (nI us), .int (nI pr)])), (qd, .inl (cb, 480, .inl dk)), (ql, .inl (ci, 40, .inl L)), (qn, .inl (ci, 40, .inl N))] := hD
              have hw : r45 = (nI ((12 * a + (cc + b)) % 480)) := hw
              subst hw
              refine j_bald hx hb hK hP 1 0 rfl rfl (i := (12 * a + (cc + b)) % 480) (Nat.mod_lt _ (by decide)) (by decide) (v := (dk ((12 * a + (cc + b)) % 480))) (rfl) dX0_eightBytes_48 ?_
              refine lv_sipush (v := (nI 255)) hx hb dX0_eightBytes_49 (by decide +kernel) ?_
              refine lv_iand hx hb dX0_eightBytes_52 ?_
              refine jt_i (y := (yy (cc + b))) (hyy (cc + b) (by omega)) ?_
              refine lv_goto (tgt := 57) hx hb dX0_eightBytes_53 (by decide) ?_
              refine lv_istore (lv' := [(7, .int (yy (cc + b))), (0, .ref qr), (1, .int (nI a)), (2, .int (nI cc)), (3, .int (nI w)), (4, .long (je8 (fun b => if cc + b < w then yy (cc + b) else 0) b)), (6, .int (nI (cc + b)))]) hx hb dX0_eightBytes_57 hl (by decide) rfl (fun ls hl => ?_)
              refine lv_lload hx hb dX0_eightBytes_59 (lv_at hl 5 rfl) ?_
              refine lv_bipush (v := (nI 8)) hx hb dX0_eightBytes_61 (by decide +kernel) ?_
              refine lv_lshl hx hb dX0_eightBytes_63 rfl ?_
              refine lv_iload hx hb dX0_eightBytes_64 (lv_at hl 0 rfl) ?_
              refine lv_i2l hx hb dX0_eightBytes_66 rfl ?_
              refine lv_lor hx hb dX0_eightBytes_67 ?_
              refine jt_l (y := (je8 (fun b => if cc + b < w then yy (cc + b) else 0) (b + 1))) (by show _ = (je8 (fun b => if cc + b < w then yy (cc + b) else 0) b <<< _) ||| Int32.toInt64 (if cc + b < w then yy (cc + b) else 0); rw [if_pos (by omega)]; try rfl) ?_
              refine lv_lstore (lv' := [(4, .long (je8 (fun b => if cc + b < w then yy (cc + b) else 0) (b + 1))), (7, .int (yy (cc + b))), (0, .ref qr), (1, .int (nI a)), (2, .int (nI cc)), (3, .int (nI w)), (6, .int (nI (cc + b)))]) hx hb dX0_eightBytes_68 hl (by decide) rfl (fun ls hl => ?_)
              refine lv_iinc (v := (nI (cc + b + 1))) (lv' := [(6, .int (nI (cc + b + 1))), (4, .long (je8 (fun b => if cc + b < w then yy (cc + b) else 0) (b + 1))), (7, .int (yy (cc + b))), (0, .ref qr), (1, .int (nI a)), (2, .int (nI cc)), (3, .int (nI w))]) hx hb dX0_eightBytes_70 hl (k := 6) rfl (nI_1 _) (by decide) rfl (fun ls hl => ?_)
              refine lv_goto (tgt := 23) hx hb dX0_eightBytes_73 (by decide) ?_
              exact ih23 (b + 1) (by omega) (by omega) hcw _ _ hP hD hS ls (lv_sub hl [3, 4, 5, 6, 1, 0] rfl)
      exact LOOP23 9 0 (by omega) (by omega) (by omega) _ _ hP hD hS ls (lv_sub hl [3, 4, 5, 2, 1, 0] rfl)
    · rw [nI_ltI (show cc < 2 ^ 31 by omega) (show w < 2 ^ 31 by omega)] at c_12_2
      refine lv_lconst (v := 0) hx hb dX0_eightBytes_15 (by decide +kernel) ?_
      exact j_lret (v := (0 : Int64)) (()) hx hb hr hlk hK hP hD hS (((je8_congr 8 (fun j _ => if_neg (by omega))).trans (je8_0 8)).symm) dX0_eightBytes_16
end
section
abbrev rm_D_put : Room := { frames := 0, cells := 0, slots := 0, locals := 0 }
set_option maxHeartbeats 4000000 in
set_option maxRecDepth 100000 in
/-- put -/
theorem c_D_put (l : Launch) (D : va_G) (cb ci cz : ClassId) (h0 qt : Nat) (tp : Nat → Int32) (qr qd ql qn : Nat) (dk L N : Nat → Int32) (old us pr : Nat) (n : Nat) (t : Nat → Int32) (k : Nat) (r : Nat → Bool) (z : Nat → Nat) (u : Nat → Int32) (y : Nat → Nat → Int32) (nx wh : Int32) (pw ct : Bool) (v : Int64) (cv : Int32) (hn : n ≤ 100) (ht : ∀ j, j < n → tp j &&& 255 = t j) (hR : jR old us pr dk L N k r z u y) (sz : Nat) : Met l yX1_put wsX1_put rm_D_put (va_Pc [.ref h0, .long v, .int cv] (j_pre D (jT cb ci cz) [(h0, .inr (1, [.ref qt, .int (nI n), .ref qr, .int nx, .int wh, .int (jbi pw), .int (jbi ct)])), (qt, .inl (cb, 100, .inl tp)), (qr, .inr (0, [.ref qd, .ref ql, .ref qn, .int (nI old), .int (nI us), .int (nI pr)])), (qd, .inl (cb, 480, .inl dk)), (ql, .inl (ci, 40, .inl L)), (qn, .inl (ci, 40, .inl N))] sz)) (va_Qi (fun (x : Int32) (a : jDt) => x = (jop_pt ((n, t), (k, r, z, u, y), (nx, wh, pw, ct)) v cv).1 ∧ jDk (jop_pt ((n, t), (k, r, z, u, y), (nx, wh, pw, ct)) v cv).2 a) (j_post D (jT cb ci cz) (jDw h0 qt qr qd ql qn cb ci) (va_A [(h0, .inr (1, [.ref qt, .int (nI n), .ref qr, .int nx, .int wh, .int (jbi pw), .int (jbi ct)])), (qt, .inl (cb, 100, .inl tp)), (qr, .inr (0, [.ref qd, .ref ql, .ref qn, .int (nI old), .int (nI us), .int (nI pr)])), (qd, .inl (cb, 480, .inl dk)), (ql, .inl (ci, 40, .inl L)), (qn, .inl (ci, 40, .inl N))] sz)) (va_A [(h0, .inr (1, [.ref qt, .int (nI n), .ref qr, .int nx, .int wh, .int (jbi pw), .int (jbi ct)])), (qt, .inl (cb, 100, .inl tp)), (qr, .inr (0, [.ref qd, .ref ql, .ref qn, .int (nI old), .int (nI us), .int (nI pr)])), (qd, .inl (cb, 480, .inl dk)), (ql, .inl (ci, 40, .inl L)), (qn, .inl (ci, 40, .inl N))] sz)) 0 0 (va_A [(h0, .inr (1, [.ref qt, .int (nI n), .ref qr, .int nx, .int wh, .int (jbi pw), .int (jbi ct)])), (qt, .inl (cb, 100, .inl tp)), (qr, .inr (0, [.ref qd, .ref ql, .ref qn, .int (nI old), .int (nI us), .int (nI pr)])), (qd, .inl (cb, 480, .inl dk)), (ql, .inl (ci, 40, .inl L)), (qn, .inl (ci, 40, .inl N))] sz) := by
  refine j_in (Qc := fun A => (va_Qi (fun (x : Int32) (a : jDt) => x = (jop_pt ((n, t), (k, r, z, u, y), (nx, wh, pw, ct)) v cv).1 ∧ jDk (jop_pt ((n, t), (k, r, z, u, y), (nx, wh, pw, ct)) v cv).2 a) (j_post D (jT cb ci cz) (jDw h0 qt qr qd ql qn cb ci) A) A)) (cc := cX1_put) (maxL := 5) (ret := (some .boolean)) (by decide) rfl (Nat.le_of_ble_eq_true rfl) ?_
  intro p e s m av below meth c A ls H locs hx hb hr hml hts hown hlk hin hA hP hK hD hS hl
  have hown : s.vm.findClass RX1 = some m.cls := hown
  have hl : lv_has ls 5 [(0, .ref h0), (1, .long v), (3, .int cv)] := hl
  refine lv_iload_n hx hb dX1_put_0 rfl (lv_at hl 2 rfl) ?_
  refine lv_iconst (v := (nI 1)) hx hb dX1_put_1 (by decide +kernel) ?_
  refine lv_icmp_lt (tgt := 22) hx hb dX1_put_2 (by decide) (fun c_2_1 => ?_) (fun c_2_1 => ?_)
  · have href : cv < 1 ∨ 8 < cv ∨ 100 < n + cv.toNatClampNeg := Or.inl c_2_1
    refine lv_iconst (v := (nI 0)) hx hb dX1_put_22 (by decide +kernel) ?_
    exact j_zret (v := (nI 0)) ((tp, dk, L, N, n, old, us, pr, nx, wh, (jbi pw), (jbi ct))) hx hb hr hlk hK hP hD hS (by decide +kernel) (by rw [jpt_ref href]; exact ⟨rfl, jDk_i rfl hn ht hR rfl rfl rfl rfl⟩) dX1_put_23
  · have hc1 := c_2_1
    refine lv_iload_n hx hb dX1_put_5 rfl (lv_at hl 2 rfl) ?_
    refine lv_bipush (v := (nI 8)) hx hb dX1_put_6 (by decide +kernel) ?_
    refine lv_icmp_gt (tgt := 22) hx hb dX1_put_8 (by decide) (fun c_8_2 => ?_) (fun c_8_2 => ?_)
    · have href : cv < 1 ∨ 8 < cv ∨ 100 < n + cv.toNatClampNeg := Or.inr (Or.inl c_8_2)
      refine lv_iconst (v := (nI 0)) hx hb dX1_put_22 (by decide +kernel) ?_
      exact j_zret (v := (nI 0)) ((tp, dk, L, N, n, old, us, pr, nx, wh, (jbi pw), (jbi ct))) hx hb hr hlk hK hP hD hS (by decide +kernel) (by rw [jpt_ref href]; exact ⟨rfl, jDk_i rfl hn ht hR rfl rfl rfl rfl⟩) dX1_put_23
    · obtain ⟨cc, hc2, hc3, hcv⟩ := j_rng (a := 1) (b := 8) (by decide) (by decide) hc1 c_8_2
      rw [hcv] at hl
      refine lv_iload_n hx hb dX1_put_11 rfl (lv_at hl 2 rfl) ?_
      refine lv_bipush (v := (nI 100)) hx hb dX1_put_12 (by decide +kernel) ?_
      refine lv_aload_n hx hb dX1_put_14 rfl (lv_at hl 0 rfl) ?_
      refine va_get (D := D) (ci := 1) (v := .int (nI n)) (C := RX1) (T := TX1) (N := 7) hx hb hts (by decide +kernel) hown hK hP 0 rfl rfl 1 (by decide) (hts (.fieldLink RX1 13 "JournalDesk" "taped" "I") (by decide +kernel)) (fun _ h9 => h9) rfl dX1_put_15 ?_
      refine lv_isub hx hb dX1_put_18 ?_
      refine jt_i (y := (nI (100 - n))) (pk_sub (by omega)) ?_
      refine lv_icmp_le (tgt := 24) hx hb dX1_put_19 (by decide) (fun c_19_3 => ?_) (fun c_19_3 => ?_)
      · rw [nI_leI (show cc < 2 ^ 31 by omega) (show 100 - n < 2 ^ 31 by omega)] at c_19_3
        refine lv_iload_n hx hb dX1_put_24 rfl (lv_at hl 2 rfl) ?_
        refine lv_iconst (v := (nI 1)) hx hb dX1_put_25 (by decide +kernel) ?_
        refine lv_isub hx hb dX1_put_26 ?_
        refine jt_i (y := ((nI cc) + (-1))) (j_m1sub cc) ?_
        refine lv_istore (lv' := [(4, .int ((nI cc) + (-1))), (0, .ref h0), (1, .long v), (3, .int (nI cc))]) hx hb dX1_put_27 hl (by decide) rfl (fun ls hl => ?_)
        have LOOP29 : ∀ (fuel : Nat) (q : Nat) (tq : Nat → Int32) (hf : cc < q + fuel) (hqc : q ≤ cc) (htq : ∀ j, j < n + q → tq j &&& 255 = (if n ≤ j ∧ j < n + cc then jby v (cc - 1 - (j - n)) else t j)) (H : Heap) (locs : List Loc), va_P D vwCl [(h0, .inr (1, [.ref qt, .int (nI (n + q)), .ref qr, .int nx, .int wh, .int (jbi pw), .int (jbi ct)])), (qt, .inl (cb, 100, .inl tq)), (qr, .inr (0, [.ref qd, .ref ql, .ref qn, .int (nI old), .int (nI us), .int (nI pr)])), (qd, .inl (cb, 480, .inl dk)), (ql, .inl (ci, 40, .inl L)), (qn, .inl (ci, 40, .inl N))] H → va_D A [(h0, .inr (1, [.ref qt, .int (nI (n + q)), .ref qr, .int nx, .int wh, .int (jbi pw), .int (jbi ct)])), (qt, .inl (cb, 100, .inl tq)), (qr, .inr (0, [.ref qd, .ref ql, .ref qn, .int (nI old), .int (nI us), .int (nI pr)])), (qd, .inl (cb, 480, .inl dk)), (ql, .inl (ci, 40, .inl L)), (qn, .inl (ci, 40, .inl N))] → va_S A s.heap H locs → ∀ ls : Array Slot, lv_has ls 5 [(0, .ref h0), (1, .long v), (3, .int (nI cc)), (4, .int ((nI (cc - q)) + (-1)))] → W p l e rm_D_put s m av below meth c H locs 0 0 (MQ below (va_Qi (fun (x : Int32) (a : jDt) => x = (jop_pt ((n, t), (k, r, z, u, y), (nx, wh, pw, ct)) v cv).1 ∧ jDk (jop_pt ((n, t), (k, r, z, u, y), (nx, wh, pw, ct)) v cv).2 a) (j_post D (jT cb ci cz) (jDw h0 qt qr qd ql qn cb ci) A) A) av s 0 0 A) (F0 m 29 ls []) := by
          clear hP hD hS hl
          intro fuel
          induction fuel with
          | zero => intro q tq hf hqc htq; exfalso; omega
          | succ fuel ih29 =>
            intro q tq hf hqc htq H locs hP hD hS ls hl
            refine lv_iload hx hb dX1_put_29 (lv_at hl 3 rfl) ?_
            refine lv_if_lt (tgt := 68) hx hb dX1_put_31 (by decide) (fun c_31_4 => ?_) (fun c_31_4 => ?_)
            · rw [j_m1lt (by omega)] at c_31_4
              refine lv_iconst (v := (nI 1)) hx hb dX1_put_68 (by decide +kernel) ?_
              exact j_zret (v := (nI 1)) ((tq, dk, L, N, n + q, old, us, pr, nx, wh, (jbi pw), (jbi ct))) hx hb hr hlk hK hP hD hS (by decide +kernel) (by rw [hcv, jpt_ok (cc := cc) (by omega) (by omega) (by omega)]; exact ⟨rfl, jDk_i (by omega) (by omega) (fun j hj => htq j (by omega)) hR rfl rfl rfl rfl⟩) dX1_put_69
            · rw [j_m1lt (by omega)] at c_31_4
              rw [j_dec (show q < cc by omega)] at hl
              refine lv_aload_n hx hb dX1_put_34 rfl (lv_at hl 0 rfl) ?_
              refine va_get (D := D) (ci := 1) (v := .ref qt) (C := RX1) (T := TX1) (N := 7) hx hb hts (by decide +kernel) hown hK hP 0 rfl rfl 0 (by decide) (hts (.fieldLink RX1 9 "JournalDesk" "tape" "[B") (by decide +kernel)) (fun _ h9 => h9) rfl dX1_put_35 ?_
              refine lv_aload_n hx hb dX1_put_38 rfl (lv_at hl 0 rfl) ?_
              refine va_get (D := D) (ci := 1) (v := .int (nI (n + q))) (C := RX1) (T := TX1) (N := 7) hx hb hts (by decide +kernel) hown hK hP 0 rfl rfl 1 (by decide) (hts (.fieldLink RX1 13 "JournalDesk" "taped" "I") (by decide +kernel)) (fun _ h9 => h9) rfl dX1_put_39 ?_
              refine lv_lload_n hx hb dX1_put_42 rfl (lv_at hl 1 rfl) ?_
              refine lv_bipush (v := (nI 8)) hx hb dX1_put_43 (by decide +kernel) ?_
              refine lv_iload hx hb dX1_put_45 (lv_at hl 3 rfl) ?_
              refine lv_imul hx hb dX1_put_47 ?_
              refine jt_i (y := (nI (8 * (cc - (q + 1))))) (pk_mul _ _) ?_
              refine lv_lushr hx hb dX1_put_48 rfl ?_
              refine lv_l2i hx hb dX1_put_49 rfl ?_
              refine lv_i2b hx hb dX1_put_50 rfl ?_
              refine j_bast hx hb hK hP hD hS 1 0 rfl rfl (i := n + q) (by omega) (by decide) (y := jcb v (cc - (q + 1))) (pk_vb _) dX1_put_51 (fun H locs hP hD hS => ?_)
              have hP : va_P D vwCl [(h0, .inr (1, [.ref qt, .int (nI (n + q)), .ref qr, .int nx, .int wh, .int (jbi pw), .int (jbi ct)])), (qt, .inl (cb, 100, .inl (upd tq (n + q) (jcb v (cc - (q + 1)))))), (qr, .inr (0, [.ref qd, .ref ql, .ref qn, .int (nI old), .int (nI us), .int (nI pr)])), (qd, .inl (cb, 480, .inl dk)), (ql, .inl (ci, 40, .inl L)), (qn, .inl (ci, 40, .inl N))] H := hP
              have hD : va_D A [(h0, .inr (1, [.ref qt, .int (nI (n + q)), .ref qr, .int nx, .int wh, .int (jbi pw), .int (jbi ct)])), (qt, .inl (cb, 100, .inl (upd tq (n + q) (jcb v (cc - (q + 1)))))), (qr, .inr (0, [.ref qd, .ref ql, .ref qn, .int (nI old), .int (nI us), .int (nI pr)])), (qd, .inl (cb, 480, .inl dk)), (ql, .inl (ci, 40, .inl L)), (qn, .inl (ci, 40, .inl N))] := hD
              refine lv_aload_n hx hb dX1_put_52 rfl (lv_at hl 0 rfl) ?_
              refine lv_dup hx hb dX1_put_53 rfl ?_
              refine va_get (D := D) (ci := 1) (v := .int (nI (n + q))) (C := RX1) (T := TX1) (N := 7) hx hb hts (by decide +kernel) hown hK hP 0 rfl rfl 1 (by decide) (hts (.fieldLink RX1 13 "JournalDesk" "taped" "I") (by decide +kernel)) (fun _ h9 => h9) rfl dX1_put_54 ?_
              refine lv_iconst (v := (nI 1)) hx hb dX1_put_57 (by decide +kernel) ?_
              refine lv_iadd hx hb dX1_put_58 ?_
              refine jt_i (y := (nI ((n + q) + 1))) (nI_add _ _) ?_
              refine va_put (D := D) (ci := 1) (v := .int (nI ((n + q) + 1))) (ty := .int) (C := RX1) (T := TX1) (N := 7) hx hb hts (by decide +kernel) tyX1 tyX1_ok nmX1 hown hK hP hD hS 0 rfl rfl 1 (by decide) (hts (.fieldLink RX1 13 "JournalDesk" "taped" "I") (by decide +kernel)) (fun _ h9 => h9) rfl (by decide +kernel) (rfl) (rfl) (Nat.le_of_ble_eq_true rfl) dX1_put_59 (fun H locs hP hD hS => ?_)
              have hP : va_P D vwCl [(h0, .inr (1, [.ref qt, .int (nI ((n + q) + 1)), .ref qr, .int nx, .int wh, .int (jbi pw), .int (jbi ct)])), (qt, .inl (cb, 100, .inl (upd tq (n + q) (jcb v (cc - (q + 1)))))), (qr, .inr (0, [.ref qd, .ref ql, .ref qn, .int (nI old), .int (nI us), .int (nI pr)])), (qd, .inl (cb, 480, .inl dk)), (ql, .inl (ci, 40, .inl L)), (qn, .inl (ci, 40, .inl N))] H := hP
              have hD : va_D A [(h0, .inr (1, [.ref qt, .int (nI ((n + q) + 1)), .ref qr, .int nx, .int wh, .int (jbi pw), .int (jbi ct)])), (qt, .inl (cb, 100, .inl (upd tq (n + q) (jcb v (cc - (q + 1)))))), (qr, .inr (0, [.ref qd, .ref ql, .ref qn, .int (nI old), .int (nI us), .int (nI pr)])), (qd, .inl (cb, 480, .inl dk)), (ql, .inl (ci, 40, .inl L)), (qn, .inl (ci, 40, .inl N))] := hD
              refine lv_iinc (v := ((nI (cc - (q + 1))) + (-1))) (lv' := [(4, .int ((nI (cc - (q + 1))) + (-1))), (0, .ref h0), (1, .long v), (3, .int (nI cc))]) hx hb dX1_put_62 hl (k := 3) rfl (rfl) (by decide) rfl (fun ls hl => ?_)
              refine lv_goto (tgt := 29) hx hb dX1_put_65 (by decide) ?_
              exact ih29 (q + 1) _ (by omega) (by omega) (j_pt1 htq (by show _ = (if n ≤ n + q ∧ n + q < n + cc then jby v (cc - 1 - (n + q - n)) else t (n + q)); rw [if_pos (by omega), show cc - 1 - (n + q - n) = cc - (q + 1) by omega]; exact jby_class v _ (by omega))) _ _ hP hD hS ls (lv_sub hl [1, 2, 3, 0] rfl)
        exact LOOP29 (cc + 1) 0 tp (by omega) (by omega) (fun j hj => by rw [if_neg (by omega)]; exact ht j hj) _ _ hP hD hS ls (lv_sub hl [1, 2, 3, 0] rfl)
      · rw [nI_leI (show cc < 2 ^ 31 by omega) (show 100 - n < 2 ^ 31 by omega)] at c_19_3
        have href : cv < 1 ∨ 8 < cv ∨ 100 < n + cv.toNatClampNeg := Or.inr (Or.inr (by rw [hcv, nI_clamp (by omega)]; omega))
        refine lv_iconst (v := (nI 0)) hx hb dX1_put_22 (by decide +kernel) ?_
        exact j_zret (v := (nI 0)) ((tp, dk, L, N, n, old, us, pr, nx, wh, (jbi pw), (jbi ct))) hx hb hr hlk hK hP hD hS (by decide +kernel) (by rw [jpt_ref href]; exact ⟨rfl, jDk_i rfl hn ht hR rfl rfl rfl rfl⟩) dX1_put_23
abbrev rm_D_losesPower : Room := { frames := 0, cells := 0, slots := 0, locals := 0 }
set_option maxHeartbeats 4000000 in
set_option maxRecDepth 100000 in
/-- a cut that waits is spent -/
theorem c_D_losesPower (l : Launch) (D : va_G) (cb ci cz : ClassId) (h0 qt : Nat) (tp : Nat → Int32) (qr qd ql qn : Nat) (dk L N : Nat → Int32) (old us pr : Nat) (n : Nat) (nx wh : Int32) (pw ct : Bool) (sz : Nat) : Met l yX1_losesPower wsX1_losesPower rm_D_losesPower (va_Pc [.ref h0] (j_pre D (jT cb ci cz) [(h0, .inr (1, [.ref qt, .int (nI n), .ref qr, .int nx, .int wh, .int (jbi pw), .int (jbi ct)])), (qt, .inl (cb, 100, .inl tp)), (qr, .inr (0, [.ref qd, .ref ql, .ref qn, .int (nI old), .int (nI us), .int (nI pr)])), (qd, .inl (cb, 480, .inl dk)), (ql, .inl (ci, 40, .inl L)), (qn, .inl (ci, 40, .inl N))] sz)) (va_Qi (fun (x : Int32) (_ : Unit) => x = jbi ct) (j_post D (jT cb ci cz) (fun _ => [(h0, .inr (1, [.ref qt, .int (nI n), .ref qr, .int nx, .int wh, .int (jbi (!ct && pw)), .int (jbi false)])), (qt, .inl (cb, 100, .inl tp)), (qr, .inr (0, [.ref qd, .ref ql, .ref qn, .int (nI old), .int (nI us), .int (nI pr)])), (qd, .inl (cb, 480, .inl dk)), (ql, .inl (ci, 40, .inl L)), (qn, .inl (ci, 40, .inl N))]) (va_A [(h0, .inr (1, [.ref qt, .int (nI n), .ref qr, .int nx, .int wh, .int (jbi pw), .int (jbi ct)])), (qt, .inl (cb, 100, .inl tp)), (qr, .inr (0, [.ref qd, .ref ql, .ref qn, .int (nI old), .int (nI us), .int (nI pr)])), (qd, .inl (cb, 480, .inl dk)), (ql, .inl (ci, 40, .inl L)), (qn, .inl (ci, 40, .inl N))] sz)) (va_A [(h0, .inr (1, [.ref qt, .int (nI n), .ref qr, .int nx, .int wh, .int (jbi pw), .int (jbi ct)])), (qt, .inl (cb, 100, .inl tp)), (qr, .inr (0, [.ref qd, .ref ql, .ref qn, .int (nI old), .int (nI us), .int (nI pr)])), (qd, .inl (cb, 480, .inl dk)), (ql, .inl (ci, 40, .inl L)), (qn, .inl (ci, 40, .inl N))] sz)) 0 0 (va_A [(h0, .inr (1, [.ref qt, .int (nI n), .ref qr, .int nx, .int wh, .int (jbi pw), .int (jbi ct)])), (qt, .inl (cb, 100, .inl tp)), (qr, .inr (0, [.ref qd, .ref ql, .ref qn, .int (nI old), .int (nI us), .int (nI pr)])), (qd, .inl (cb, 480, .inl dk)), (ql, .inl (ci, 40, .inl L)), (qn, .inl (ci, 40, .inl N))] sz) := by
  refine j_in (Qc := fun A => (va_Qi (fun (x : Int32) (_ : Unit) => x = jbi ct) (j_post D (jT cb ci cz) (fun _ => [(h0, .inr (1, [.ref qt, .int (nI n), .ref qr, .int nx, .int wh, .int (jbi (!ct && pw)), .int (jbi false)])), (qt, .inl (cb, 100, .inl tp)), (qr, .inr (0, [.ref qd, .ref ql, .ref qn, .int (nI old), .int (nI us), .int (nI pr)])), (qd, .inl (cb, 480, .inl dk)), (ql, .inl (ci, 40, .inl L)), (qn, .inl (ci, 40, .inl N))]) A) A)) (cc := cX1_losesPower) (maxL := 1) (ret := (some .boolean)) (by decide) rfl (Nat.le_of_ble_eq_true rfl) ?_
  intro p e s m av below meth c A ls H locs hx hb hr hml hts hown hlk hin hA hP hK hD hS hl
  have hown : s.vm.findClass RX1 = some m.cls := hown
  have hl : lv_has ls 1 [(0, .ref h0)] := hl
  refine lv_aload_n hx hb dX1_losesPower_0 rfl (lv_at hl 0 rfl) ?_
  refine va_get (D := D) (ci := 1) (v := .int (jbi ct)) (C := RX1) (T := TX1) (N := 7) hx hb hts (by decide +kernel) hown hK hP 0 rfl rfl 6 (by decide) (hts (.fieldLink RX1 34 "JournalDesk" "cutNext" "Z") (by decide +kernel)) (fun _ h9 => h9) rfl dX1_losesPower_1 ?_
  refine lv_if_ne (tgt := 9) hx hb dX1_losesPower_4 (by decide) (fun c_4_1 => ?_) (fun c_4_1 => ?_)
  · have hct : ct = true := jbi_n0.mp c_4_1
    subst hct
    refine lv_aload_n hx hb dX1_losesPower_9 rfl (lv_at hl 0 rfl) ?_
    refine lv_iconst (v := (nI 0)) hx hb dX1_losesPower_10 (by decide +kernel) ?_
    refine va_put (D := D) (ci := 1) (v := .int (nI 0)) (ty := .boolean) (C := RX1) (T := TX1) (N := 7) hx hb hts (by decide +kernel) tyX1 tyX1_ok nmX1 hown hK hP hD hS 0 rfl rfl 6 (by decide) (hts (.fieldLink RX1 34 "JournalDesk" "cutNext" "Z") (by decide +kernel)) (fun _ h9 => h9) rfl (by decide +kernel) (rfl) (rfl) (Nat.le_of_ble_eq_true rfl) dX1_losesPower_11 (fun H locs hP hD hS => ?_)
    have hP : va_P D vwCl [(h0, .inr (1, [.ref qt, .int (nI n), .ref qr, .int nx, .int wh, .int (jbi pw), .int (nI 0)])), (qt, .inl (cb, 100, .inl tp)), (qr, .inr (0, [.ref qd, .ref ql, .ref qn, .int (nI old), .int (nI us), .int (nI pr)])), (qd, .inl (cb, 480, .inl dk)), (ql, .inl (ci, 40, .inl L)), (qn, .inl (ci, 40, .inl N))] H := hP
    have hD : va_D A [(h0, .inr (1, [.ref qt, .int (nI n), .ref qr, .int nx, .int wh, .int (jbi pw), .int (nI 0)])), (qt, .inl (cb, 100, .inl tp)), (qr, .inr (0, [.ref qd, .ref ql, .ref qn, .int (nI old), .int (nI us), .int (nI pr)])), (qd, .inl (cb, 480, .inl dk)), (ql, .inl (ci, 40, .inl L)), (qn, .inl (ci, 40, .inl N))] := hD
    refine lv_aload_n hx hb dX1_losesPower_14 rfl (lv_at hl 0 rfl) ?_
    refine lv_iconst (v := (nI 0)) hx hb dX1_losesPower_15 (by decide +kernel) ?_
    refine va_put (D := D) (ci := 1) (v := .int (nI 0)) (ty := .boolean) (C := RX1) (T := TX1) (N := 7) hx hb hts (by decide +kernel) tyX1 tyX1_ok nmX1 hown hK hP hD hS 0 rfl rfl 5 (by decide) (hts (.fieldLink RX1 30 "JournalDesk" "power" "Z") (by decide +kernel)) (fun _ h9 => h9) rfl (by decide +kernel) (rfl) (rfl) (Nat.le_of_ble_eq_true rfl) dX1_losesPower_16 (fun H locs hP hD hS => ?_)
    have hP : va_P D vwCl [(h0, .inr (1, [.ref qt, .int (nI n), .ref qr, .int nx, .int wh, .int (nI 0), .int (nI 0)])), (qt, .inl (cb, 100, .inl tp)), (qr, .inr (0, [.ref qd, .ref ql, .ref qn, .int (nI old), .int (nI us), .int (nI pr)])), (qd, .inl (cb, 480, .inl dk)), (ql, .inl (ci, 40, .inl L)), (qn, .inl (ci, 40, .inl N))] H := hP
    have hD : va_D A [(h0, .inr (1, [.ref qt, .int (nI n), .ref qr, .int nx, .int wh, .int (nI 0), .int (nI 0)])), (qt, .inl (cb, 100, .inl tp)), (qr, .inr (0, [.ref qd, .ref ql, .ref qn, .int (nI old), .int (nI us), .int (nI pr)])), (qd, .inl (cb, 480, .inl dk)), (ql, .inl (ci, 40, .inl L)), (qn, .inl (ci, 40, .inl N))] := hD
    refine lv_iconst (v := (nI 1)) hx hb dX1_losesPower_19 (by decide +kernel) ?_
    exact j_zret (v := (nI 1)) (()) hx hb hr hlk hK hP hD hS (by decide +kernel) (rfl) dX1_losesPower_20
  · have hct : ct = false := jbi_0.mp c_4_1
    subst hct
    refine lv_iconst (v := (nI 0)) hx hb dX1_losesPower_7 (by decide +kernel) ?_
    exact j_zret (v := (nI 0)) (()) hx hb hr hlk hK hP hD hS (by decide +kernel) (rfl) dX1_losesPower_8
abbrev rm_D_write : Room := { frames := 4, cells := 0, slots := 0, locals := 90 }
set_option maxHeartbeats 4000000 in
set_option maxRecDepth 100000 in
/-- write -/
theorem c_D_write (l : Launch) (D : va_G) (cb ci cz : ClassId) (h0 qt : Nat) (tp : Nat → Int32) (qr qd ql qn : Nat) (dk L N : Nat → Int32) (old us pr : Nat) (n : Nat) (t : Nat → Int32) (k : Nat) (r : Nat → Bool) (z : Nat → Nat) (u : Nat → Int32) (y : Nat → Nat → Int32) (nx wh : Int32) (pw ct : Bool) (hn : n ≤ 100) (ht : ∀ j, j < n → tp j &&& 255 = t j) (hR : jR old us pr dk L N k r z u y) (sz : Nat) : Met l yX1_write wsX1_write rm_D_write (va_Pc [.ref h0] (j_pre D (jT cb ci cz) [(h0, .inr (1, [.ref qt, .int (nI n), .ref qr, .int nx, .int wh, .int (jbi pw), .int (jbi ct)])), (qt, .inl (cb, 100, .inl tp)), (qr, .inr (0, [.ref qd, .ref ql, .ref qn, .int (nI old), .int (nI us), .int (nI pr)])), (qd, .inl (cb, 480, .inl dk)), (ql, .inl (ci, 40, .inl L)), (qn, .inl (ci, 40, .inl N))] sz)) (va_Qi (fun (x : Int32) (a : jDt) => x = (jop_wr ((n, t), (k, r, z, u, y), (nx, wh, pw, ct))).1 ∧ jDk (jop_wr ((n, t), (k, r, z, u, y), (nx, wh, pw, ct))).2 a) (j_post D (jT cb ci cz) (jDw h0 qt qr qd ql qn cb ci) (va_A [(h0, .inr (1, [.ref qt, .int (nI n), .ref qr, .int nx, .int wh, .int (jbi pw), .int (jbi ct)])), (qt, .inl (cb, 100, .inl tp)), (qr, .inr (0, [.ref qd, .ref ql, .ref qn, .int (nI old), .int (nI us), .int (nI pr)])), (qd, .inl (cb, 480, .inl dk)), (ql, .inl (ci, 40, .inl L)), (qn, .inl (ci, 40, .inl N))] sz)) (va_A [(h0, .inr (1, [.ref qt, .int (nI n), .ref qr, .int nx, .int wh, .int (jbi pw), .int (jbi ct)])), (qt, .inl (cb, 100, .inl tp)), (qr, .inr (0, [.ref qd, .ref ql, .ref qn, .int (nI old), .int (nI us), .int (nI pr)])), (qd, .inl (cb, 480, .inl dk)), (ql, .inl (ci, 40, .inl L)), (qn, .inl (ci, 40, .inl N))] sz)) 0 0 (va_A [(h0, .inr (1, [.ref qt, .int (nI n), .ref qr, .int nx, .int wh, .int (jbi pw), .int (jbi ct)])), (qt, .inl (cb, 100, .inl tp)), (qr, .inr (0, [.ref qd, .ref ql, .ref qn, .int (nI old), .int (nI us), .int (nI pr)])), (qd, .inl (cb, 480, .inl dk)), (ql, .inl (ci, 40, .inl L)), (qn, .inl (ci, 40, .inl N))] sz) := by
  refine j_in (Qc := fun A => (va_Qi (fun (x : Int32) (a : jDt) => x = (jop_wr ((n, t), (k, r, z, u, y), (nx, wh, pw, ct))).1 ∧ jDk (jop_wr ((n, t), (k, r, z, u, y), (nx, wh, pw, ct))).2 a) (j_post D (jT cb ci cz) (jDw h0 qt qr qd ql qn cb ci) A) A)) (cc := cX1_write) (maxL := 3) (ret := (some .int)) (by decide) rfl (Nat.le_of_ble_eq_true rfl) ?_
  intro p e s m av below meth c A ls H locs hx hb hr hml hts hown hlk hin hA hP hK hD hS hl
  have hown : s.vm.findClass RX1 = some m.cls := hown
  have hl : lv_has ls 3 [(0, .ref h0)] := hl
  refine lv_aload_n hx hb dX1_write_0 rfl (lv_at hl 0 rfl) ?_
  refine va_get (D := D) (ci := 1) (v := .int (jbi pw)) (C := RX1) (T := TX1) (N := 7) hx hb hts (by decide +kernel) hown hK hP 0 rfl rfl 5 (by decide) (hts (.fieldLink RX1 30 "JournalDesk" "power" "Z") (by decide +kernel)) (fun _ h9 => h9) rfl dX1_write_1 ?_
  refine lv_if_eq (tgt := 24) hx hb dX1_write_4 (by decide) (fun c_4_1 => ?_) (fun c_4_1 => ?_)
  · have hpw : pw = false := jbi_0.mp c_4_1
    have href : pw = false ∨ 40 < js (jse r z) k + jsc n := Or.inl hpw
    refine lv_iconst (v := (-1)) hx hb dX1_write_24 (by decide +kernel) ?_
    exact j_iret (v := (-1)) ((tp, dk, L, N, n, old, us, pr, nx, wh, (jbi pw), (jbi ct))) hx hb hr hlk hK hP hD hS (by rw [jwr_ref href]; exact ⟨rfl, jDk_i rfl hn ht hR rfl rfl rfl rfl⟩) dX1_write_25
  · have hpw : pw = true := jbi_n0.mp c_4_1
    refine lv_aload_n hx hb dX1_write_7 rfl (lv_at hl 0 rfl) ?_
    refine va_get (D := D) (ci := 1) (v := .ref qr) (C := RX1) (T := TX1) (N := 7) hx hb hts (by decide +kernel) hown hK hP 0 rfl rfl 2 (by decide) (hts (.fieldLink RX1 20 "JournalDesk" "ring" "LJournalDesk$Ring;") (by decide +kernel)) (fun _ h9 => h9) rfl dX1_write_8 ?_
    refine lv_aload_n hx hb dX1_write_11 rfl (lv_at hl 0 rfl) ?_
    refine va_get (D := D) (ci := 1) (v := .int (nI n)) (C := RX1) (T := TX1) (N := 7) hx hb hts (by decide +kernel) hown hK hP 0 rfl rfl 1 (by decide) (hts (.fieldLink RX1 13 "JournalDesk" "taped" "I") (by decide +kernel)) (fun _ h9 => h9) rfl dX1_write_12 ?_
    refine j_calli (wr := [(h0, .inr (1, [.ref qt, .int (nI n), .ref qr, .int nx, .int wh, .int (jbi pw), .int (jbi ct)])), (qt, .inl (cb, 100, .inl tp)), (qr, .inr (0, [.ref qd, .ref ql, .ref qn, .int (nI old), .int (nI us), .int (nI pr)])), (qd, .inl (cb, 480, .inl dk)), (ql, .inl (ci, 40, .inl L)), (qn, .inl (ci, 40, .inl N))]) hP hD hS hA [] [0, 1, 2, 3, 4, 5] rfl rfl (by decide) (by decide) (va_runS (As := [.int (nI n)]) (rest := [.ref qr]) ⟨hx, hb, hml, hown, hts⟩ (c_R_sectorsFor l D cb ci cz n hn H.size) (va_cwS 1 hts gX1_write_X0_sectorsFor rfl rfl rfl (by decide +kernel) ⟨Nat.le_of_ble_eq_true rfl, Nat.le_of_ble_eq_true rfl⟩) (j_preS [] [0, 1, 2] hK hP hD rfl rfl rfl rfl) rfl rfl hl.1 rfl (lv_room (Nat.le_of_ble_eq_true rfl)) dX1_write_15 ⟨Nat.le_of_ble_eq_true rfl, Nat.le_of_ble_eq_true rfl⟩) (fun r15 u9 H locs hw hP hD hS => ?_)
    have hP : va_P D vwCl [(h0, .inr (1, [.ref qt, .int (nI n), .ref qr, .int nx, .int wh, .int (jbi pw), .int (jbi ct)])), (qt, .inl (cb, 100, .inl tp)), (qr, .inr (0, [.ref qd, .ref ql, .ref qn, .int (nI old), .int (nI us), .int (nI pr)])), (qd, .inl (cb, 480, .inl dk)), (ql, .inl (ci, 40, .inl L)), (qn, .inl (ci, 40, .inl N))] H := hP
    have hD : va_D A [(h0, .inr (1, [.ref qt, .int (nI n), .ref qr, .int nx, .int wh, .int (jbi pw), .int (jbi ct)])), (qt, .inl (cb, 100, .inl tp)), (qr, .inr (0, [.ref qd, .ref ql, .ref qn, .int (nI old), .int (nI us), .int (nI pr)])), (qd, .inl (cb, 480, .inl dk)), (ql, .inl (ci, 40, .inl L)), (qn, .inl (ci, 40, .inl N))] := hD
    have hw : r15 = (nI (jsc n)) := hw
    subst hw
    refine j_calli (wr := [(h0, .inr (1, [.ref qt, .int (nI n), .ref qr, .int nx, .int wh, .int (jbi pw), .int (jbi ct)])), (qt, .inl (cb, 100, .inl tp))]) hP hD hS hA [2, 3, 4, 5] [0, 1] rfl rfl (by decide) (by decide) (va_runV (As := [.int (nI (jsc n))]) (rest := []) ⟨hx, hb, hml, hown, hts⟩ (c_R_hasRoom l D cb ci cz qr qd ql qn dk L N old us pr (jsc n) (by have q := jsc_le hn; omega) hR.2.2.1 H.size) (cwV 1 hts gX1_write_X0_hasRoom rfl rfl rfl (by decide +kernel) ⟨Nat.le_of_ble_eq_true rfl, Nat.le_of_ble_eq_true rfl⟩) (j_preV (ci := 0) (q0 := 0) [2, 3, 4, 5] [0, 1, 2] hK hP hD rfl rfl rfl rfl rfl rfl) rfl rfl hl.1 rfl (lv_room (Nat.le_of_ble_eq_true rfl)) dX1_write_18 ⟨Nat.le_of_ble_eq_true rfl, Nat.le_of_ble_eq_true rfl⟩) (fun r18 u9 H locs hw hP hD hS => ?_)
    have hP : va_P D vwCl [(h0, .inr (1, [.ref qt, .int (nI n), .ref qr, .int nx, .int wh, .int (jbi pw), .int (jbi ct)])), (qt, .inl (cb, 100, .inl tp)), (qr, .inr (0, [.ref qd, .ref ql, .ref qn, .int (nI old), .int (nI us), .int (nI pr)])), (qd, .inl (cb, 480, .inl dk)), (ql, .inl (ci, 40, .inl L)), (qn, .inl (ci, 40, .inl N))] H := hP
    have hD : va_D A [(h0, .inr (1, [.ref qt, .int (nI n), .ref qr, .int nx, .int wh, .int (jbi pw), .int (jbi ct)])), (qt, .inl (cb, 100, .inl tp)), (qr, .inr (0, [.ref qd, .ref ql, .ref qn, .int (nI old), .int (nI us), .int (nI pr)])), (qd, .inl (cb, 480, .inl dk)), (ql, .inl (ci, 40, .inl L)), (qn, .inl (ci, 40, .inl N))] := hD
    have hw : r18 = (jbi (decide (us + jsc n ≤ 40))) := hw
    subst hw
    refine lv_if_ne (tgt := 26) hx hb dX1_write_21 (by decide) (fun c_21_2 => ?_) (fun c_21_2 => ?_)
    · have hfit : us + jsc n ≤ 40 := of_decide_eq_true (jbi_n0.mp c_21_2)
      refine lv_aload_n hx hb dX1_write_26 rfl (lv_at hl 0 rfl) ?_
      refine va_get (D := D) (ci := 1) (v := .int (nI n)) (C := RX1) (T := TX1) (N := 7) hx hb hts (by decide +kernel) hown hK hP 0 rfl rfl 1 (by decide) (hts (.fieldLink RX1 13 "JournalDesk" "taped" "I") (by decide +kernel)) (fun _ h9 => h9) rfl dX1_write_27 ?_
      refine lv_istore_n (lv' := [(1, .int (nI n)), (0, .ref h0)]) hx hb dX1_write_30 rfl hl (by decide) rfl (fun ls hl => ?_)
      refine lv_aload_n hx hb dX1_write_31 rfl (lv_at hl 1 rfl) ?_
      refine lv_iconst (v := (nI 0)) hx hb dX1_write_32 (by decide +kernel) ?_
      refine va_put (D := D) (ci := 1) (v := .int (nI 0)) (ty := .int) (C := RX1) (T := TX1) (N := 7) hx hb hts (by decide +kernel) tyX1 tyX1_ok nmX1 hown hK hP hD hS 0 rfl rfl 1 (by decide) (hts (.fieldLink RX1 13 "JournalDesk" "taped" "I") (by decide +kernel)) (fun _ h9 => h9) rfl (by decide +kernel) (rfl) (rfl) (Nat.le_of_ble_eq_true rfl) dX1_write_33 (fun H locs hP hD hS => ?_)
      have hP : va_P D vwCl [(h0, .inr (1, [.ref qt, .int (nI 0), .ref qr, .int nx, .int wh, .int (jbi pw), .int (jbi ct)])), (qt, .inl (cb, 100, .inl tp)), (qr, .inr (0, [.ref qd, .ref ql, .ref qn, .int (nI old), .int (nI us), .int (nI pr)])), (qd, .inl (cb, 480, .inl dk)), (ql, .inl (ci, 40, .inl L)), (qn, .inl (ci, 40, .inl N))] H := hP
      have hD : va_D A [(h0, .inr (1, [.ref qt, .int (nI 0), .ref qr, .int nx, .int wh, .int (jbi pw), .int (jbi ct)])), (qt, .inl (cb, 100, .inl tp)), (qr, .inr (0, [.ref qd, .ref ql, .ref qn, .int (nI old), .int (nI us), .int (nI pr)])), (qd, .inl (cb, 480, .inl dk)), (ql, .inl (ci, 40, .inl L)), (qn, .inl (ci, 40, .inl N))] := hD
      refine lv_aload_n hx hb dX1_write_36 rfl (lv_at hl 1 rfl) ?_
      refine j_calli (wr := []) hP hD hS hA [0, 1, 2, 3, 4, 5] [] rfl rfl (by decide) (by decide) (va_runV (As := []) (rest := []) ⟨hx, hb, hml, hown, hts⟩ (c_D_losesPower l D cb ci cz h0 qt tp qr qd ql qn dk L N old us pr 0 nx wh pw ct H.size) (cwV 0 hts gX1_write_X1_losesPower rfl rfl rfl (by decide +kernel) ⟨Nat.le_of_ble_eq_true rfl, Nat.le_of_ble_eq_true rfl⟩) (j_preV (ci := 1) (q0 := 0) [0, 1, 2, 3, 4, 5] [0, 1, 2] hK hP hD rfl rfl rfl rfl rfl rfl) rfl rfl hl.1 rfl (lv_room (Nat.le_of_ble_eq_true rfl)) dX1_write_37 ⟨Nat.le_of_ble_eq_true rfl, Nat.le_of_ble_eq_true rfl⟩) (fun r37 u9 H locs hw hP hD hS => ?_)
      have hP : va_P D vwCl [(h0, .inr (1, [.ref qt, .int (nI 0), .ref qr, .int nx, .int wh, .int (jbi (!ct && pw)), .int (jbi false)])), (qt, .inl (cb, 100, .inl tp)), (qr, .inr (0, [.ref qd, .ref ql, .ref qn, .int (nI old), .int (nI us), .int (nI pr)])), (qd, .inl (cb, 480, .inl dk)), (ql, .inl (ci, 40, .inl L)), (qn, .inl (ci, 40, .inl N))] H := hP
      have hD : va_D A [(h0, .inr (1, [.ref qt, .int (nI 0), .ref qr, .int nx, .int wh, .int (jbi (!ct && pw)), .int (jbi false)])), (qt, .inl (cb, 100, .inl tp)), (qr, .inr (0, [.ref qd, .ref ql, .ref qn, .int (nI old), .int (nI us), .int (nI pr)])), (qd, .inl (cb, 480, .inl dk)), (ql, .inl (ci, 40, .inl L)), (qn, .inl (ci, 40, .inl N))] := hD
      have hw : r37 = (jbi ct) := hw
      subst hw
      refine lv_if_eq (tgt := 46) hx hb dX1_write_40 (by decide) (fun c_40_3 => ?_) (fun c_40_3 => ?_)
      · have hct : ct = false := jbi_0.mp c_40_3
        refine lv_aload_n hx hb dX1_write_46 rfl (lv_at hl 1 rfl) ?_
        refine va_get (D := D) (ci := 1) (v := .int nx) (C := RX1) (T := TX1) (N := 7) hx hb hts (by decide +kernel) hown hK hP 0 rfl rfl 3 (by decide) (hts (.fieldLink RX1 24 "JournalDesk" "nextNumber" "I") (by decide +kernel)) (fun _ h9 => h9) rfl dX1_write_47 ?_
        refine lv_istore_n (lv' := [(2, .int nx), (1, .int (nI n)), (0, .ref h0)]) hx hb dX1_write_50 rfl hl (by decide) rfl (fun ls hl => ?_)
        refine lv_aload_n hx hb dX1_write_51 rfl (lv_at hl 2 rfl) ?_
        refine va_get (D := D) (ci := 1) (v := .ref qr) (C := RX1) (T := TX1) (N := 7) hx hb hts (by decide +kernel) hown hK hP 0 rfl rfl 2 (by decide) (hts (.fieldLink RX1 20 "JournalDesk" "ring" "LJournalDesk$Ring;") (by decide +kernel)) (fun _ h9 => h9) rfl dX1_write_52 ?_
        refine lv_aload_n hx hb dX1_write_55 rfl (lv_at hl 2 rfl) ?_
        refine va_get (D := D) (ci := 1) (v := .ref qt) (C := RX1) (T := TX1) (N := 7) hx hb hts (by decide +kernel) hown hK hP 0 rfl rfl 0 (by decide) (hts (.fieldLink RX1 9 "JournalDesk" "tape" "[B") (by decide +kernel)) (fun _ h9 => h9) rfl dX1_write_56 ?_
        refine lv_iload_n hx hb dX1_write_59 rfl (lv_at hl 1 rfl) ?_
        refine lv_iload_n hx hb dX1_write_60 rfl (lv_at hl 0 rfl) ?_
        refine j_callv (wr := [(h0, .inr (1, [.ref qt, .int (nI 0), .ref qr, .int nx, .int wh, .int (jbi (!ct && pw)), .int (jbi false)]))]) hP hD hS hA [1, 2, 3, 4, 5] [0] rfl rfl (by decide) (by decide) (va_runV (As := [.ref qt, .int (nI n), .int nx]) (rest := []) ⟨hx, hb, hml, hown, hts⟩ (c_R_addRecord l D cb ci cz qt tp qr qd ql qn dk L N old us pr n nx hR.1 hR.2.2.1 hn (jR_pr hR) H.size) (cwV 3 hts gX1_write_X0_addRecord rfl rfl rfl (by decide +kernel) ⟨Nat.le_of_ble_eq_true rfl, Nat.le_of_ble_eq_true rfl⟩) (j_preV (ci := 0) (q0 := 1) [1, 2, 3, 4, 5] [0, 1, 2] hK hP hD rfl rfl rfl rfl rfl rfl) rfl rfl hl.1 rfl (lv_room (Nat.le_of_ble_eq_true rfl)) dX1_write_61 ⟨Nat.le_of_ble_eq_true rfl, Nat.le_of_ble_eq_true rfl⟩) (fun d H locs hw hP hD hS => ?_)
        obtain ⟨hd1, hd2⟩ := hw
        have hP : va_P D vwCl [(h0, .inr (1, [.ref qt, .int (nI 0), .ref qr, .int nx, .int wh, .int (jbi (!ct && pw)), .int (jbi false)])), (qt, .inl (cb, 100, .inl tp)), (qr, .inr (0, [.ref qd, .ref ql, .ref qn, .int (nI old), .int (nI (us + jsc n)), .int (nI (pr + 1))])), (qd, .inl (cb, 480, .inl d)), (ql, .inl (ci, 40, .inl (upd L ((old + us) % 40) (nI n)))), (qn, .inl (ci, 40, .inl (upd N ((old + us) % 40) nx)))] H := hP
        have hD : va_D A [(h0, .inr (1, [.ref qt, .int (nI 0), .ref qr, .int nx, .int wh, .int (jbi (!ct && pw)), .int (jbi false)])), (qt, .inl (cb, 100, .inl tp)), (qr, .inr (0, [.ref qd, .ref ql, .ref qn, .int (nI old), .int (nI (us + jsc n)), .int (nI (pr + 1))])), (qd, .inl (cb, 480, .inl d)), (ql, .inl (ci, 40, .inl (upd L ((old + us) % 40) (nI n)))), (qn, .inl (ci, 40, .inl (upd N ((old + us) % 40) nx)))] := hD
        refine lv_aload_n hx hb dX1_write_64 rfl (lv_at hl 2 rfl) ?_
        refine lv_dup hx hb dX1_write_65 rfl ?_
        refine va_get (D := D) (ci := 1) (v := .int nx) (C := RX1) (T := TX1) (N := 7) hx hb hts (by decide +kernel) hown hK hP 0 rfl rfl 3 (by decide) (hts (.fieldLink RX1 24 "JournalDesk" "nextNumber" "I") (by decide +kernel)) (fun _ h9 => h9) rfl dX1_write_66 ?_
        refine lv_iconst (v := (nI 1)) hx hb dX1_write_69 (by decide +kernel) ?_
        refine lv_iadd hx hb dX1_write_70 ?_
        refine jt_i (y := (nx + 1)) (rfl) ?_
        refine va_put (D := D) (ci := 1) (v := .int (nx + 1)) (ty := .int) (C := RX1) (T := TX1) (N := 7) hx hb hts (by decide +kernel) tyX1 tyX1_ok nmX1 hown hK hP hD hS 0 rfl rfl 3 (by decide) (hts (.fieldLink RX1 24 "JournalDesk" "nextNumber" "I") (by decide +kernel)) (fun _ h9 => h9) rfl (by decide +kernel) (rfl) (rfl) (Nat.le_of_ble_eq_true rfl) dX1_write_71 (fun H locs hP hD hS => ?_)
        have hP : va_P D vwCl [(h0, .inr (1, [.ref qt, .int (nI 0), .ref qr, .int (nx + 1), .int wh, .int (jbi (!ct && pw)), .int (jbi false)])), (qt, .inl (cb, 100, .inl tp)), (qr, .inr (0, [.ref qd, .ref ql, .ref qn, .int (nI old), .int (nI (us + jsc n)), .int (nI (pr + 1))])), (qd, .inl (cb, 480, .inl d)), (ql, .inl (ci, 40, .inl (upd L ((old + us) % 40) (nI n)))), (qn, .inl (ci, 40, .inl (upd N ((old + us) % 40) nx)))] H := hP
        have hD : va_D A [(h0, .inr (1, [.ref qt, .int (nI 0), .ref qr, .int (nx + 1), .int wh, .int (jbi (!ct && pw)), .int (jbi false)])), (qt, .inl (cb, 100, .inl tp)), (qr, .inr (0, [.ref qd, .ref ql, .ref qn, .int (nI old), .int (nI (us + jsc n)), .int (nI (pr + 1))])), (qd, .inl (cb, 480, .inl d)), (ql, .inl (ci, 40, .inl (upd L ((old + us) % 40) (nI n)))), (qn, .inl (ci, 40, .inl (upd N ((old + us) % 40) nx)))] := hD
        refine lv_aload_n hx hb dX1_write_74 rfl (lv_at hl 2 rfl) ?_
        refine lv_dup hx hb dX1_write_75 rfl ?_
        refine va_get (D := D) (ci := 1) (v := .int wh) (C := RX1) (T := TX1) (N := 7) hx hb hts (by decide +kernel) hown hK hP 0 rfl rfl 4 (by decide) (hts (.fieldLink RX1 27 "JournalDesk" "wholeEntries" "I") (by decide +kernel)) (fun _ h9 => h9) rfl dX1_write_76 ?_
        refine lv_iconst (v := (nI 1)) hx hb dX1_write_79 (by decide +kernel) ?_
        refine lv_iadd hx hb dX1_write_80 ?_
        refine jt_i (y := (wh + 1)) (rfl) ?_
        refine va_put (D := D) (ci := 1) (v := .int (wh + 1)) (ty := .int) (C := RX1) (T := TX1) (N := 7) hx hb hts (by decide +kernel) tyX1 tyX1_ok nmX1 hown hK hP hD hS 0 rfl rfl 4 (by decide) (hts (.fieldLink RX1 27 "JournalDesk" "wholeEntries" "I") (by decide +kernel)) (fun _ h9 => h9) rfl (by decide +kernel) (rfl) (rfl) (Nat.le_of_ble_eq_true rfl) dX1_write_81 (fun H locs hP hD hS => ?_)
        have hP : va_P D vwCl [(h0, .inr (1, [.ref qt, .int (nI 0), .ref qr, .int (nx + 1), .int (wh + 1), .int (jbi (!ct && pw)), .int (jbi false)])), (qt, .inl (cb, 100, .inl tp)), (qr, .inr (0, [.ref qd, .ref ql, .ref qn, .int (nI old), .int (nI (us + jsc n)), .int (nI (pr + 1))])), (qd, .inl (cb, 480, .inl d)), (ql, .inl (ci, 40, .inl (upd L ((old + us) % 40) (nI n)))), (qn, .inl (ci, 40, .inl (upd N ((old + us) % 40) nx)))] H := hP
        have hD : va_D A [(h0, .inr (1, [.ref qt, .int (nI 0), .ref qr, .int (nx + 1), .int (wh + 1), .int (jbi (!ct && pw)), .int (jbi false)])), (qt, .inl (cb, 100, .inl tp)), (qr, .inr (0, [.ref qd, .ref ql, .ref qn, .int (nI old), .int (nI (us + jsc n)), .int (nI (pr + 1))])), (qd, .inl (cb, 480, .inl d)), (ql, .inl (ci, 40, .inl (upd L ((old + us) % 40) (nI n)))), (qn, .inl (ci, 40, .inl (upd N ((old + us) % 40) nx)))] := hD
        refine lv_iload_n hx hb dX1_write_84 rfl (lv_at hl 0 rfl) ?_
        exact j_iret (v := nx) ((tp, d, upd L ((old + us) % 40) (nI n), upd N ((old + us) % 40) nx, 0, old, us + jsc n, pr + 1, (nx + 1), (wh + 1), (jbi (!ct && pw)), (jbi false))) hx hb hr hlk hK hP hD hS (by subst hct; subst hpw; rw [jwr_ok (by have q2 := hR.2.1; omega)]; exact ⟨rfl, jDk_i rfl (Nat.zero_le _) (fun j hj => absurd hj (Nat.not_lt_zero j)) (jR_add hR hn hfit rfl hd1 hd2 (fun i hi => (jx_b _).trans (ht i hi))) rfl rfl rfl rfl⟩) dX1_write_85
      · have hct : ct = true := jbi_n0.mp c_40_3
        refine lv_bipush (v := (-2)) hx hb dX1_write_43 (by decide +kernel) ?_
        exact j_iret (v := (-2)) ((tp, dk, L, N, 0, old, us, pr, nx, wh, (jbi (!ct && pw)), (jbi false))) hx hb hr hlk hK hP hD hS (by subst hct; subst hpw; rw [jwr_cut (by have q2 := hR.2.1; omega)]; exact ⟨rfl, jDk_i rfl (Nat.zero_le _) (fun j hj => absurd hj (Nat.not_lt_zero j)) hR rfl rfl rfl rfl⟩) dX1_write_45
    · have href : pw = false ∨ 40 < js (jse r z) k + jsc n := Or.inr (by have q := of_decide_eq_false (jbi_0.mp c_21_2); have q2 := hR.2.1; omega)
      refine lv_iconst (v := (-1)) hx hb dX1_write_24 (by decide +kernel) ?_
      exact j_iret (v := (-1)) ((tp, dk, L, N, n, old, us, pr, nx, wh, (jbi pw), (jbi ct))) hx hb hr hlk hK hP hD hS (by rw [jwr_ref href]; exact ⟨rfl, jDk_i rfl hn ht hR rfl rfl rfl rfl⟩) dX1_write_25
abbrev rm_D_drop : Room := { frames := 7, cells := 0, slots := 0, locals := 150 }
set_option maxHeartbeats 4000000 in
set_option maxRecDepth 100000 in
/-- drop -/
theorem c_D_drop (l : Launch) (D : va_G) (cb ci cz : ClassId) (h0 qt : Nat) (tp : Nat → Int32) (qr qd ql qn : Nat) (dk L N : Nat → Int32) (old us pr : Nat) (n : Nat) (t : Nat → Int32) (k : Nat) (r : Nat → Bool) (z : Nat → Nat) (u : Nat → Int32) (y : Nat → Nat → Int32) (nx wh : Int32) (pw ct : Bool) (mv : Int32) (hn : n ≤ 100) (ht : ∀ j, j < n → tp j &&& 255 = t j) (hR : jR old us pr dk L N k r z u y) (sz : Nat) : Met l yX1_drop wsX1_drop rm_D_drop (va_Pc [.ref h0, .int mv] (j_pre D (jT cb ci cz) [(h0, .inr (1, [.ref qt, .int (nI n), .ref qr, .int nx, .int wh, .int (jbi pw), .int (jbi ct)])), (qt, .inl (cb, 100, .inl tp)), (qr, .inr (0, [.ref qd, .ref ql, .ref qn, .int (nI old), .int (nI us), .int (nI pr)])), (qd, .inl (cb, 480, .inl dk)), (ql, .inl (ci, 40, .inl L)), (qn, .inl (ci, 40, .inl N))] sz)) (va_Qi (fun (x : Int32) (a : jDt) => x = (jop_dr ((n, t), (k, r, z, u, y), (nx, wh, pw, ct)) mv).1 ∧ jDk (jop_dr ((n, t), (k, r, z, u, y), (nx, wh, pw, ct)) mv).2 a) (j_post D (jT cb ci cz) (jDw h0 qt qr qd ql qn cb ci) (va_A [(h0, .inr (1, [.ref qt, .int (nI n), .ref qr, .int nx, .int wh, .int (jbi pw), .int (jbi ct)])), (qt, .inl (cb, 100, .inl tp)), (qr, .inr (0, [.ref qd, .ref ql, .ref qn, .int (nI old), .int (nI us), .int (nI pr)])), (qd, .inl (cb, 480, .inl dk)), (ql, .inl (ci, 40, .inl L)), (qn, .inl (ci, 40, .inl N))] sz)) (va_A [(h0, .inr (1, [.ref qt, .int (nI n), .ref qr, .int nx, .int wh, .int (jbi pw), .int (jbi ct)])), (qt, .inl (cb, 100, .inl tp)), (qr, .inr (0, [.ref qd, .ref ql, .ref qn, .int (nI old), .int (nI us), .int (nI pr)])), (qd, .inl (cb, 480, .inl dk)), (ql, .inl (ci, 40, .inl L)), (qn, .inl (ci, 40, .inl N))] sz)) 0 0 (va_A [(h0, .inr (1, [.ref qt, .int (nI n), .ref qr, .int nx, .int wh, .int (jbi pw), .int (jbi ct)])), (qt, .inl (cb, 100, .inl tp)), (qr, .inr (0, [.ref qd, .ref ql, .ref qn, .int (nI old), .int (nI us), .int (nI pr)])), (qd, .inl (cb, 480, .inl dk)), (ql, .inl (ci, 40, .inl L)), (qn, .inl (ci, 40, .inl N))] sz) := by
  refine j_in (Qc := fun A => (va_Qi (fun (x : Int32) (a : jDt) => x = (jop_dr ((n, t), (k, r, z, u, y), (nx, wh, pw, ct)) mv).1 ∧ jDk (jop_dr ((n, t), (k, r, z, u, y), (nx, wh, pw, ct)) mv).2 a) (j_post D (jT cb ci cz) (jDw h0 qt qr qd ql qn cb ci) A) A)) (cc := cX1_drop) (maxL := 2) (ret := (some .int)) (by decide) rfl (Nat.le_of_ble_eq_true rfl) ?_
  intro p e s m av below meth c A ls H locs hx hb hr hml hts hown hlk hin hA hP hK hD hS hl
  have hown : s.vm.findClass RX1 = some m.cls := hown
  have hl : lv_has ls 2 [(0, .ref h0), (1, .int mv)] := hl
  refine lv_aload_n hx hb dX1_drop_0 rfl (lv_at hl 0 rfl) ?_
  refine va_get (D := D) (ci := 1) (v := .int (jbi pw)) (C := RX1) (T := TX1) (N := 7) hx hb hts (by decide +kernel) hown hK hP 0 rfl rfl 5 (by decide) (hts (.fieldLink RX1 30 "JournalDesk" "power" "Z") (by decide +kernel)) (fun _ h9 => h9) rfl dX1_drop_1 ?_
  refine lv_if_eq (tgt := 33) hx hb dX1_drop_4 (by decide) (fun c_4_1 => ?_) (fun c_4_1 => ?_)
  · have hpw : pw = false := jbi_0.mp c_4_1
    have href : pw = false ∨ mv < 0 ∨ nI (js (jcn r) k) < mv ∨ 40 < js (jse r z) k + 1 := Or.inl hpw
    refine lv_iconst (v := (-1)) hx hb dX1_drop_33 (by decide +kernel) ?_
    exact j_iret (v := (-1)) ((tp, dk, L, N, n, old, us, pr, nx, wh, (jbi pw), (jbi ct))) hx hb hr hlk hK hP hD hS (by rw [jdr_ref href]; exact ⟨rfl, jDk_i rfl hn ht hR rfl rfl rfl rfl⟩) dX1_drop_34
  · have hpw : pw = true := jbi_n0.mp c_4_1
    refine lv_iload_n hx hb dX1_drop_7 rfl (lv_at hl 1 rfl) ?_
    refine lv_if_lt (tgt := 33) hx hb dX1_drop_8 (by decide) (fun c_8_2 => ?_) (fun c_8_2 => ?_)
    · have href : pw = false ∨ mv < 0 ∨ nI (js (jcn r) k) < mv ∨ 40 < js (jse r z) k + 1 := Or.inr (Or.inl c_8_2)
      refine lv_iconst (v := (-1)) hx hb dX1_drop_33 (by decide +kernel) ?_
      exact j_iret (v := (-1)) ((tp, dk, L, N, n, old, us, pr, nx, wh, (jbi pw), (jbi ct))) hx hb hr hlk hK hP hD hS (by rw [jdr_ref href]; exact ⟨rfl, jDk_i rfl hn ht hR rfl rfl rfl rfl⟩) dX1_drop_34
    · have h0m := c_8_2
      refine lv_iload_n hx hb dX1_drop_11 rfl (lv_at hl 1 rfl) ?_
      refine lv_aload_n hx hb dX1_drop_12 rfl (lv_at hl 0 rfl) ?_
      refine va_get (D := D) (ci := 1) (v := .ref qr) (C := RX1) (T := TX1) (N := 7) hx hb hts (by decide +kernel) hown hK hP 0 rfl rfl 2 (by decide) (hts (.fieldLink RX1 20 "JournalDesk" "ring" "LJournalDesk$Ring;") (by decide +kernel)) (fun _ h9 => h9) rfl dX1_drop_13 ?_
      refine j_calli (wr := [(h0, .inr (1, [.ref qt, .int (nI n), .ref qr, .int nx, .int wh, .int (jbi pw), .int (jbi ct)])), (qt, .inl (cb, 100, .inl tp))]) hP hD hS hA [2, 3, 4, 5] [0, 1] rfl rfl (by decide) (by decide) (va_runV (As := []) (rest := [.int mv]) ⟨hx, hb, hml, hown, hts⟩ (c_R_records l D cb ci cz qr qd ql qn dk L N old us pr H.size) (cwV 0 hts gX1_drop_X0_records rfl rfl rfl (by decide +kernel) ⟨Nat.le_of_ble_eq_true rfl, Nat.le_of_ble_eq_true rfl⟩) (j_preV (ci := 0) (q0 := 0) [2, 3, 4, 5] [0, 1, 2] hK hP hD rfl rfl rfl rfl rfl rfl) rfl rfl hl.1 rfl (lv_room (Nat.le_of_ble_eq_true rfl)) dX1_drop_16 ⟨Nat.le_of_ble_eq_true rfl, Nat.le_of_ble_eq_true rfl⟩) (fun r16 u9 H locs hw hP hD hS => ?_)
      have hP : va_P D vwCl [(h0, .inr (1, [.ref qt, .int (nI n), .ref qr, .int nx, .int wh, .int (jbi pw), .int (jbi ct)])), (qt, .inl (cb, 100, .inl tp)), (qr, .inr (0, [.ref qd, .ref ql, .ref qn, .int (nI old), .int (nI us), .int (nI pr)])), (qd, .inl (cb, 480, .inl dk)), (ql, .inl (ci, 40, .inl L)), (qn, .inl (ci, 40, .inl N))] H := hP
      have hD : va_D A [(h0, .inr (1, [.ref qt, .int (nI n), .ref qr, .int nx, .int wh, .int (jbi pw), .int (jbi ct)])), (qt, .inl (cb, 100, .inl tp)), (qr, .inr (0, [.ref qd, .ref ql, .ref qn, .int (nI old), .int (nI us), .int (nI pr)])), (qd, .inl (cb, 480, .inl dk)), (ql, .inl (ci, 40, .inl L)), (qn, .inl (ci, 40, .inl N))] := hD
      have hw : r16 = (nI pr) := hw
      subst hw
      refine lv_icmp_gt (tgt := 33) hx hb dX1_drop_19 (by decide) (fun c_19_3 => ?_) (fun c_19_3 => ?_)
      · have href : pw = false ∨ mv < 0 ∨ nI (js (jcn r) k) < mv ∨ 40 < js (jse r z) k + 1 := Or.inr (Or.inr (Or.inl (by rw [← hR.2.2.2.1]; exact c_19_3)))
        refine lv_iconst (v := (-1)) hx hb dX1_drop_33 (by decide +kernel) ?_
        exact j_iret (v := (-1)) ((tp, dk, L, N, n, old, us, pr, nx, wh, (jbi pw), (jbi ct))) hx hb hr hlk hK hP hD hS (by rw [jdr_ref href]; exact ⟨rfl, jDk_i rfl hn ht hR rfl rfl rfl rfl⟩) dX1_drop_34
      · have h1m := c_19_3
        obtain ⟨mm, hm31, hmv⟩ := nI_of h0m
        have hmm : mm ≤ pr := by
          have q := jR_pr hR
          have q3 := h1m
          rw [hmv, nI_ltI (by omega) hm31] at q3
          omega
        rw [hmv] at hl
        refine lv_aload_n hx hb dX1_drop_22 rfl (lv_at hl 0 rfl) ?_
        refine va_get (D := D) (ci := 1) (v := .ref qr) (C := RX1) (T := TX1) (N := 7) hx hb hts (by decide +kernel) hown hK hP 0 rfl rfl 2 (by decide) (hts (.fieldLink RX1 20 "JournalDesk" "ring" "LJournalDesk$Ring;") (by decide +kernel)) (fun _ h9 => h9) rfl dX1_drop_23 ?_
        refine lv_iconst (v := (nI 1)) hx hb dX1_drop_26 (by decide +kernel) ?_
        refine j_calli (wr := [(h0, .inr (1, [.ref qt, .int (nI n), .ref qr, .int nx, .int wh, .int (jbi pw), .int (jbi ct)])), (qt, .inl (cb, 100, .inl tp))]) hP hD hS hA [2, 3, 4, 5] [0, 1] rfl rfl (by decide) (by decide) (va_runV (As := [.int (nI 1)]) (rest := []) ⟨hx, hb, hml, hown, hts⟩ (c_R_hasRoom l D cb ci cz qr qd ql qn dk L N old us pr 1 (by decide) hR.2.2.1 H.size) (cwV 1 hts gX1_drop_X0_hasRoom rfl rfl rfl (by decide +kernel) ⟨Nat.le_of_ble_eq_true rfl, Nat.le_of_ble_eq_true rfl⟩) (j_preV (ci := 0) (q0 := 0) [2, 3, 4, 5] [0, 1, 2] hK hP hD rfl rfl rfl rfl rfl rfl) rfl rfl hl.1 rfl (lv_room (Nat.le_of_ble_eq_true rfl)) dX1_drop_27 ⟨Nat.le_of_ble_eq_true rfl, Nat.le_of_ble_eq_true rfl⟩) (fun r27 u9 H locs hw hP hD hS => ?_)
        have hP : va_P D vwCl [(h0, .inr (1, [.ref qt, .int (nI n), .ref qr, .int nx, .int wh, .int (jbi pw), .int (jbi ct)])), (qt, .inl (cb, 100, .inl tp)), (qr, .inr (0, [.ref qd, .ref ql, .ref qn, .int (nI old), .int (nI us), .int (nI pr)])), (qd, .inl (cb, 480, .inl dk)), (ql, .inl (ci, 40, .inl L)), (qn, .inl (ci, 40, .inl N))] H := hP
        have hD : va_D A [(h0, .inr (1, [.ref qt, .int (nI n), .ref qr, .int nx, .int wh, .int (jbi pw), .int (jbi ct)])), (qt, .inl (cb, 100, .inl tp)), (qr, .inr (0, [.ref qd, .ref ql, .ref qn, .int (nI old), .int (nI us), .int (nI pr)])), (qd, .inl (cb, 480, .inl dk)), (ql, .inl (ci, 40, .inl L)), (qn, .inl (ci, 40, .inl N))] := hD
        have hw : r27 = (jbi (decide (us + 1 ≤ 40))) := hw
        subst hw
        refine lv_if_ne (tgt := 35) hx hb dX1_drop_30 (by decide) (fun c_30_4 => ?_) (fun c_30_4 => ?_)
        · have hfit : us + 1 ≤ 40 := of_decide_eq_true (jbi_n0.mp c_30_4)
          refine lv_aload_n hx hb dX1_drop_35 rfl (lv_at hl 0 rfl) ?_
          refine j_calli (wr := []) hP hD hS hA [0, 1, 2, 3, 4, 5] [] rfl rfl (by decide) (by decide) (va_runV (As := []) (rest := []) ⟨hx, hb, hml, hown, hts⟩ (c_D_losesPower l D cb ci cz h0 qt tp qr qd ql qn dk L N old us pr n nx wh pw ct H.size) (cwV 0 hts gX1_drop_X1_losesPower rfl rfl rfl (by decide +kernel) ⟨Nat.le_of_ble_eq_true rfl, Nat.le_of_ble_eq_true rfl⟩) (j_preV (ci := 1) (q0 := 0) [0, 1, 2, 3, 4, 5] [0, 1, 2] hK hP hD rfl rfl rfl rfl rfl rfl) rfl rfl hl.1 rfl (lv_room (Nat.le_of_ble_eq_true rfl)) dX1_drop_36 ⟨Nat.le_of_ble_eq_true rfl, Nat.le_of_ble_eq_true rfl⟩) (fun r36 u9 H locs hw hP hD hS => ?_)
          have hP : va_P D vwCl [(h0, .inr (1, [.ref qt, .int (nI n), .ref qr, .int nx, .int wh, .int (jbi (!ct && pw)), .int (jbi false)])), (qt, .inl (cb, 100, .inl tp)), (qr, .inr (0, [.ref qd, .ref ql, .ref qn, .int (nI old), .int (nI us), .int (nI pr)])), (qd, .inl (cb, 480, .inl dk)), (ql, .inl (ci, 40, .inl L)), (qn, .inl (ci, 40, .inl N))] H := hP
          have hD : va_D A [(h0, .inr (1, [.ref qt, .int (nI n), .ref qr, .int nx, .int wh, .int (jbi (!ct && pw)), .int (jbi false)])), (qt, .inl (cb, 100, .inl tp)), (qr, .inr (0, [.ref qd, .ref ql, .ref qn, .int (nI old), .int (nI us), .int (nI pr)])), (qd, .inl (cb, 480, .inl dk)), (ql, .inl (ci, 40, .inl L)), (qn, .inl (ci, 40, .inl N))] := hD
          have hw : r36 = (jbi ct) := hw
          subst hw
          refine lv_if_eq (tgt := 45) hx hb dX1_drop_39 (by decide) (fun c_39_5 => ?_) (fun c_39_5 => ?_)
          · have hct : ct = false := jbi_0.mp c_39_5
            refine lv_aload_n hx hb dX1_drop_45 rfl (lv_at hl 0 rfl) ?_
            refine va_get (D := D) (ci := 1) (v := .ref qr) (C := RX1) (T := TX1) (N := 7) hx hb hts (by decide +kernel) hown hK hP 0 rfl rfl 2 (by decide) (hts (.fieldLink RX1 20 "JournalDesk" "ring" "LJournalDesk$Ring;") (by decide +kernel)) (fun _ h9 => h9) rfl dX1_drop_46 ?_
            refine lv_iload_n hx hb dX1_drop_49 rfl (lv_at hl 1 rfl) ?_
            refine j_callv (wr := [(h0, .inr (1, [.ref qt, .int (nI n), .ref qr, .int nx, .int wh, .int (jbi (!ct && pw)), .int (jbi false)])), (qt, .inl (cb, 100, .inl tp))]) hP hD hS hA [2, 3, 4, 5] [0, 1] rfl rfl (by decide) (by decide) (va_runV (As := [.int (nI mm)]) (rest := []) ⟨hx, hb, hml, hown, hts⟩ (c_R_addDrop l D cb ci cz qr qd ql qn dk L N old us pr k r z u y mm hR hfit hmm H.size) (cwV 1 hts gX1_drop_X0_addDrop rfl rfl rfl (by decide +kernel) ⟨Nat.le_of_ble_eq_true rfl, Nat.le_of_ble_eq_true rfl⟩) (j_preV (ci := 0) (q0 := 0) [2, 3, 4, 5] [0, 1, 2] hK hP hD rfl rfl rfl rfl rfl rfl) rfl rfl hl.1 rfl (lv_room (Nat.le_of_ble_eq_true rfl)) dX1_drop_50 ⟨Nat.le_of_ble_eq_true rfl, Nat.le_of_ble_eq_true rfl⟩) (fun u9 H locs hw hP hD hS => ?_)
            have hcm : js (jcn (va_up r k false)) (jdrF k r mm) = mm := hw
            have hP : va_P D vwCl [(h0, .inr (1, [.ref qt, .int (nI n), .ref qr, .int nx, .int wh, .int (jbi (!ct && pw)), .int (jbi false)])), (qt, .inl (cb, 100, .inl tp)), (qr, .inr (0, [.ref qd, .ref ql, .ref qn, .int (nI ((old + js (jse (va_up r k false) (va_up z k 0)) (jdrF k r mm)) % 40)), .int (nI (us + 1 - js (jse (va_up r k false) (va_up z k 0)) (jdrF k r mm))), .int (nI (pr - mm))])), (qd, .inl (cb, 480, .inl dk)), (ql, .inl (ci, 40, .inl (upd L ((old + us) % 40) (-1)))), (qn, .inl (ci, 40, .inl N))] H := hP
            have hD : va_D A [(h0, .inr (1, [.ref qt, .int (nI n), .ref qr, .int nx, .int wh, .int (jbi (!ct && pw)), .int (jbi false)])), (qt, .inl (cb, 100, .inl tp)), (qr, .inr (0, [.ref qd, .ref ql, .ref qn, .int (nI ((old + js (jse (va_up r k false) (va_up z k 0)) (jdrF k r mm)) % 40)), .int (nI (us + 1 - js (jse (va_up r k false) (va_up z k 0)) (jdrF k r mm))), .int (nI (pr - mm))])), (qd, .inl (cb, 480, .inl dk)), (ql, .inl (ci, 40, .inl (upd L ((old + us) % 40) (-1)))), (qn, .inl (ci, 40, .inl N))] := hD
            refine lv_aload_n hx hb dX1_drop_53 rfl (lv_at hl 0 rfl) ?_
            refine lv_dup hx hb dX1_drop_54 rfl ?_
            refine va_get (D := D) (ci := 1) (v := .int wh) (C := RX1) (T := TX1) (N := 7) hx hb hts (by decide +kernel) hown hK hP 0 rfl rfl 4 (by decide) (hts (.fieldLink RX1 27 "JournalDesk" "wholeEntries" "I") (by decide +kernel)) (fun _ h9 => h9) rfl dX1_drop_55 ?_
            refine lv_iconst (v := (nI 1)) hx hb dX1_drop_58 (by decide +kernel) ?_
            refine lv_iadd hx hb dX1_drop_59 ?_
            refine jt_i (y := (wh + 1)) (rfl) ?_
            refine va_put (D := D) (ci := 1) (v := .int (wh + 1)) (ty := .int) (C := RX1) (T := TX1) (N := 7) hx hb hts (by decide +kernel) tyX1 tyX1_ok nmX1 hown hK hP hD hS 0 rfl rfl 4 (by decide) (hts (.fieldLink RX1 27 "JournalDesk" "wholeEntries" "I") (by decide +kernel)) (fun _ h9 => h9) rfl (by decide +kernel) (rfl) (rfl) (Nat.le_of_ble_eq_true rfl) dX1_drop_60 (fun H locs hP hD hS => ?_)
            have hP : va_P D vwCl [(h0, .inr (1, [.ref qt, .int (nI n), .ref qr, .int nx, .int (wh + 1), .int (jbi (!ct && pw)), .int (jbi false)])), (qt, .inl (cb, 100, .inl tp)), (qr, .inr (0, [.ref qd, .ref ql, .ref qn, .int (nI ((old + js (jse (va_up r k false) (va_up z k 0)) (jdrF k r mm)) % 40)), .int (nI (us + 1 - js (jse (va_up r k false) (va_up z k 0)) (jdrF k r mm))), .int (nI (pr - mm))])), (qd, .inl (cb, 480, .inl dk)), (ql, .inl (ci, 40, .inl (upd L ((old + us) % 40) (-1)))), (qn, .inl (ci, 40, .inl N))] H := hP
            have hD : va_D A [(h0, .inr (1, [.ref qt, .int (nI n), .ref qr, .int nx, .int (wh + 1), .int (jbi (!ct && pw)), .int (jbi false)])), (qt, .inl (cb, 100, .inl tp)), (qr, .inr (0, [.ref qd, .ref ql, .ref qn, .int (nI ((old + js (jse (va_up r k false) (va_up z k 0)) (jdrF k r mm)) % 40)), .int (nI (us + 1 - js (jse (va_up r k false) (va_up z k 0)) (jdrF k r mm))), .int (nI (pr - mm))])), (qd, .inl (cb, 480, .inl dk)), (ql, .inl (ci, 40, .inl (upd L ((old + us) % 40) (-1)))), (qn, .inl (ci, 40, .inl N))] := hD
            refine lv_aload_n hx hb dX1_drop_63 rfl (lv_at hl 0 rfl) ?_
            refine va_get (D := D) (ci := 1) (v := .ref qr) (C := RX1) (T := TX1) (N := 7) hx hb hts (by decide +kernel) hown hK hP 0 rfl rfl 2 (by decide) (hts (.fieldLink RX1 20 "JournalDesk" "ring" "LJournalDesk$Ring;") (by decide +kernel)) (fun _ h9 => h9) rfl dX1_drop_64 ?_
            refine j_calli (wr := [(h0, .inr (1, [.ref qt, .int (nI n), .ref qr, .int nx, .int (wh + 1), .int (jbi (!ct && pw)), .int (jbi false)])), (qt, .inl (cb, 100, .inl tp))]) hP hD hS hA [2, 3, 4, 5] [0, 1] rfl rfl (by decide) (by decide) (va_runV (As := []) (rest := []) ⟨hx, hb, hml, hown, hts⟩ (c_R_records l D cb ci cz qr qd ql qn dk (upd L ((old + us) % 40) (-1)) N ((old + js (jse (va_up r k false) (va_up z k 0)) (jdrF k r mm)) % 40) (us + 1 - js (jse (va_up r k false) (va_up z k 0)) (jdrF k r mm)) (pr - mm) H.size) (cwV 0 hts gX1_drop_X0_records rfl rfl rfl (by decide +kernel) ⟨Nat.le_of_ble_eq_true rfl, Nat.le_of_ble_eq_true rfl⟩) (j_preV (ci := 0) (q0 := 0) [2, 3, 4, 5] [0, 1, 2] hK hP hD rfl rfl rfl rfl rfl rfl) rfl rfl hl.1 rfl (lv_room (Nat.le_of_ble_eq_true rfl)) dX1_drop_67 ⟨Nat.le_of_ble_eq_true rfl, Nat.le_of_ble_eq_true rfl⟩) (fun r67 u9 H locs hw hP hD hS => ?_)
            have hP : va_P D vwCl [(h0, .inr (1, [.ref qt, .int (nI n), .ref qr, .int nx, .int (wh + 1), .int (jbi (!ct && pw)), .int (jbi false)])), (qt, .inl (cb, 100, .inl tp)), (qr, .inr (0, [.ref qd, .ref ql, .ref qn, .int (nI ((old + js (jse (va_up r k false) (va_up z k 0)) (jdrF k r mm)) % 40)), .int (nI (us + 1 - js (jse (va_up r k false) (va_up z k 0)) (jdrF k r mm))), .int (nI (pr - mm))])), (qd, .inl (cb, 480, .inl dk)), (ql, .inl (ci, 40, .inl (upd L ((old + us) % 40) (-1)))), (qn, .inl (ci, 40, .inl N))] H := hP
            have hD : va_D A [(h0, .inr (1, [.ref qt, .int (nI n), .ref qr, .int nx, .int (wh + 1), .int (jbi (!ct && pw)), .int (jbi false)])), (qt, .inl (cb, 100, .inl tp)), (qr, .inr (0, [.ref qd, .ref ql, .ref qn, .int (nI ((old + js (jse (va_up r k false) (va_up z k 0)) (jdrF k r mm)) % 40)), .int (nI (us + 1 - js (jse (va_up r k false) (va_up z k 0)) (jdrF k r mm))), .int (nI (pr - mm))])), (qd, .inl (cb, 480, .inl dk)), (ql, .inl (ci, 40, .inl (upd L ((old + us) % 40) (-1)))), (qn, .inl (ci, 40, .inl N))] := hD
            have hw : r67 = (nI (pr - mm)) := hw
            subst hw
            have hR2 := jR_cut (jR_drp hR hfit (s := ((old + us) % 40)) rfl) (f := jdrF k r mm) (Nat.le_succ_of_le (jdrF_le k r mm))
            rw [hcm] at hR2
            exact j_iret (v := (nI (pr - mm))) ((tp, dk, upd L ((old + us) % 40) (-1), N, n, (old + js (jse (va_up r k false) (va_up z k 0)) (jdrF k r mm)) % 40, us + 1 - js (jse (va_up r k false) (va_up z k 0)) (jdrF k r mm), pr - mm, nx, (wh + 1), (jbi (!ct && pw)), (jbi false))) hx hb hr hlk hK hP hD hS (by subst hct; subst hpw; rw [jdr_ok hmv hm31 h0m (by rw [← hR.2.2.2.1]; exact h1m) (by have q2 := hR.2.1; omega)]; exact ⟨congrArg (fun q => nI (q - mm)) hR.2.2.2.1, jDk_i rfl hn ht hR2 rfl rfl rfl rfl⟩) dX1_drop_70
          · have hct : ct = true := jbi_n0.mp c_39_5
            refine lv_bipush (v := (-2)) hx hb dX1_drop_42 (by decide +kernel) ?_
            exact j_iret (v := (-2)) ((tp, dk, L, N, n, old, us, pr, nx, wh, (jbi (!ct && pw)), (jbi false))) hx hb hr hlk hK hP hD hS (by subst hct; subst hpw; rw [jdr_cut h0m (by rw [← hR.2.2.2.1]; exact h1m) (by have q2 := hR.2.1; omega)]; exact ⟨rfl, jDk_i rfl hn ht hR rfl rfl rfl rfl⟩) dX1_drop_44
        · have href : pw = false ∨ mv < 0 ∨ nI (js (jcn r) k) < mv ∨ 40 < js (jse r z) k + 1 := Or.inr (Or.inr (Or.inr (by have q := of_decide_eq_false (jbi_0.mp c_30_4); have q2 := hR.2.1; omega)))
          refine lv_iconst (v := (-1)) hx hb dX1_drop_33 (by decide +kernel) ?_
          exact j_iret (v := (-1)) ((tp, dk, L, N, n, old, us, pr, nx, wh, (jbi pw), (jbi ct))) hx hb hr hlk hK hP hD hS (by rw [jdr_ref href]; exact ⟨rfl, jDk_i rfl hn ht hR rfl rfl rfl rfl⟩) dX1_drop_34
abbrev rm_D_cut : Room := { frames := 0, cells := 0, slots := 0, locals := 0 }
set_option maxHeartbeats 4000000 in
set_option maxRecDepth 100000 in
/-- cut -/
theorem c_D_cut (l : Launch) (D : va_G) (cb ci cz : ClassId) (h0 qt : Nat) (tp : Nat → Int32) (qr qd ql qn : Nat) (dk L N : Nat → Int32) (old us pr : Nat) (n : Nat) (t : Nat → Int32) (k : Nat) (r : Nat → Bool) (z : Nat → Nat) (u : Nat → Int32) (y : Nat → Nat → Int32) (nx wh : Int32) (pw ct : Bool) (sv : Int32) (hn : n ≤ 100) (ht : ∀ j, j < n → tp j &&& 255 = t j) (hR : jR old us pr dk L N k r z u y) (sz : Nat) : Met l yX1_cut wsX1_cut rm_D_cut (va_Pc [.ref h0, .int sv] (j_pre D (jT cb ci cz) [(h0, .inr (1, [.ref qt, .int (nI n), .ref qr, .int nx, .int wh, .int (jbi pw), .int (jbi ct)])), (qt, .inl (cb, 100, .inl tp)), (qr, .inr (0, [.ref qd, .ref ql, .ref qn, .int (nI old), .int (nI us), .int (nI pr)])), (qd, .inl (cb, 480, .inl dk)), (ql, .inl (ci, 40, .inl L)), (qn, .inl (ci, 40, .inl N))] sz)) (va_Qi (fun (x : Int32) (a : jDt) => x = (jop_cu ((n, t), (k, r, z, u, y), (nx, wh, pw, ct)) sv).1 ∧ jDk (jop_cu ((n, t), (k, r, z, u, y), (nx, wh, pw, ct)) sv).2 a) (j_post D (jT cb ci cz) (jDw h0 qt qr qd ql qn cb ci) (va_A [(h0, .inr (1, [.ref qt, .int (nI n), .ref qr, .int nx, .int wh, .int (jbi pw), .int (jbi ct)])), (qt, .inl (cb, 100, .inl tp)), (qr, .inr (0, [.ref qd, .ref ql, .ref qn, .int (nI old), .int (nI us), .int (nI pr)])), (qd, .inl (cb, 480, .inl dk)), (ql, .inl (ci, 40, .inl L)), (qn, .inl (ci, 40, .inl N))] sz)) (va_A [(h0, .inr (1, [.ref qt, .int (nI n), .ref qr, .int nx, .int wh, .int (jbi pw), .int (jbi ct)])), (qt, .inl (cb, 100, .inl tp)), (qr, .inr (0, [.ref qd, .ref ql, .ref qn, .int (nI old), .int (nI us), .int (nI pr)])), (qd, .inl (cb, 480, .inl dk)), (ql, .inl (ci, 40, .inl L)), (qn, .inl (ci, 40, .inl N))] sz)) 0 0 (va_A [(h0, .inr (1, [.ref qt, .int (nI n), .ref qr, .int nx, .int wh, .int (jbi pw), .int (jbi ct)])), (qt, .inl (cb, 100, .inl tp)), (qr, .inr (0, [.ref qd, .ref ql, .ref qn, .int (nI old), .int (nI us), .int (nI pr)])), (qd, .inl (cb, 480, .inl dk)), (ql, .inl (ci, 40, .inl L)), (qn, .inl (ci, 40, .inl N))] sz) := by
  refine j_in (Qc := fun A => (va_Qi (fun (x : Int32) (a : jDt) => x = (jop_cu ((n, t), (k, r, z, u, y), (nx, wh, pw, ct)) sv).1 ∧ jDk (jop_cu ((n, t), (k, r, z, u, y), (nx, wh, pw, ct)) sv).2 a) (j_post D (jT cb ci cz) (jDw h0 qt qr qd ql qn cb ci) A) A)) (cc := cX1_cut) (maxL := 2) (ret := (some .boolean)) (by decide) rfl (Nat.le_of_ble_eq_true rfl) ?_
  intro p e s m av below meth c A ls H locs hx hb hr hml hts hown hlk hin hA hP hK hD hS hl
  have hown : s.vm.findClass RX1 = some m.cls := hown
  have hl : lv_has ls 2 [(0, .ref h0), (1, .int sv)] := hl
  refine lv_iload_n hx hb dX1_cut_0 rfl (lv_at hl 1 rfl) ?_
  refine lv_iconst (v := (-1)) hx hb dX1_cut_1 (by decide +kernel) ?_
  refine lv_icmp_lt (tgt := 11) hx hb dX1_cut_2 (by decide) (fun c_2_1 => ?_) (fun c_2_1 => ?_)
  · have href : sv < -1 ∨ 8 < sv := Or.inl c_2_1
    refine lv_iconst (v := (nI 0)) hx hb dX1_cut_11 (by decide +kernel) ?_
    exact j_zret (v := (nI 0)) ((tp, dk, L, N, n, old, us, pr, nx, wh, (jbi pw), (jbi ct))) hx hb hr hlk hK hP hD hS (by decide +kernel) (by rw [show jop_cu ((n, t), (k, r, z, u, y), (nx, wh, pw, ct)) sv = (0, ((n, t), (k, r, z, u, y), (nx, wh, pw, ct))) from if_pos href]; exact ⟨rfl, jDk_i rfl hn ht hR rfl rfl rfl rfl⟩) dX1_cut_12
  · have hs1 := c_2_1
    refine lv_iload_n hx hb dX1_cut_5 rfl (lv_at hl 1 rfl) ?_
    refine lv_bipush (v := (nI 8)) hx hb dX1_cut_6 (by decide +kernel) ?_
    refine lv_icmp_le (tgt := 13) hx hb dX1_cut_8 (by decide) (fun c_8_2 => ?_) (fun c_8_2 => ?_)
    · have hs2 := c_8_2
      refine lv_aload_n hx hb dX1_cut_13 rfl (lv_at hl 0 rfl) ?_
      refine lv_iload_n hx hb dX1_cut_14 rfl (lv_at hl 1 rfl) ?_
      refine lv_iconst (v := (-1)) hx hb dX1_cut_15 (by decide +kernel) ?_
      refine lv_icmp_eq (tgt := 23) hx hb dX1_cut_16 (by decide) (fun c_16_3 => ?_) (fun c_16_3 => ?_)
      · have hs3 := c_16_3
        refine lv_iconst (v := (nI 0)) hx hb dX1_cut_23 (by decide +kernel) ?_
        refine va_put (D := D) (ci := 1) (v := .int (nI 0)) (ty := .boolean) (C := RX1) (T := TX1) (N := 7) hx hb hts (by decide +kernel) tyX1 tyX1_ok nmX1 hown hK hP hD hS 0 rfl rfl 6 (by decide) (hts (.fieldLink RX1 34 "JournalDesk" "cutNext" "Z") (by decide +kernel)) (fun _ h9 => h9) rfl (by decide +kernel) (rfl) (rfl) (Nat.le_of_ble_eq_true rfl) dX1_cut_24 (fun H locs hP hD hS => ?_)
        have hP : va_P D vwCl [(h0, .inr (1, [.ref qt, .int (nI n), .ref qr, .int nx, .int wh, .int (jbi pw), .int (nI 0)])), (qt, .inl (cb, 100, .inl tp)), (qr, .inr (0, [.ref qd, .ref ql, .ref qn, .int (nI old), .int (nI us), .int (nI pr)])), (qd, .inl (cb, 480, .inl dk)), (ql, .inl (ci, 40, .inl L)), (qn, .inl (ci, 40, .inl N))] H := hP
        have hD : va_D A [(h0, .inr (1, [.ref qt, .int (nI n), .ref qr, .int nx, .int wh, .int (jbi pw), .int (nI 0)])), (qt, .inl (cb, 100, .inl tp)), (qr, .inr (0, [.ref qd, .ref ql, .ref qn, .int (nI old), .int (nI us), .int (nI pr)])), (qd, .inl (cb, 480, .inl dk)), (ql, .inl (ci, 40, .inl L)), (qn, .inl (ci, 40, .inl N))] := hD
        refine lv_iconst (v := (nI 1)) hx hb dX1_cut_27 (by decide +kernel) ?_
        have he : jop_cu ((n, t), (k, r, z, u, y), (nx, wh, pw, ct)) sv = (1, ((n, t), (k, r, z, u, y), (nx, wh, pw, decide (sv ≠ -1)))) := if_neg (fun q => by rcases q with q | q; exact hs1 q; exact absurd hs2 (Int32.not_le.mpr q))
        exact j_zret (v := (nI 1)) ((tp, dk, L, N, n, old, us, pr, nx, wh, (jbi pw), (nI 0))) hx hb hr hlk hK hP hD hS (by decide +kernel) (by rw [he]; exact ⟨rfl, jDk_i rfl hn ht hR rfl rfl rfl (by rw [hs3]; decide +kernel)⟩) dX1_cut_28
      · have hs3 := c_16_3
        refine lv_iconst (v := (nI 1)) hx hb dX1_cut_19 (by decide +kernel) ?_
        refine lv_goto (tgt := 24) hx hb dX1_cut_20 (by decide) ?_
        refine va_put (D := D) (ci := 1) (v := .int (nI 1)) (ty := .boolean) (C := RX1) (T := TX1) (N := 7) hx hb hts (by decide +kernel) tyX1 tyX1_ok nmX1 hown hK hP hD hS 0 rfl rfl 6 (by decide) (hts (.fieldLink RX1 34 "JournalDesk" "cutNext" "Z") (by decide +kernel)) (fun _ h9 => h9) rfl (by decide +kernel) (rfl) (rfl) (Nat.le_of_ble_eq_true rfl) dX1_cut_24 (fun H locs hP hD hS => ?_)
        have hP : va_P D vwCl [(h0, .inr (1, [.ref qt, .int (nI n), .ref qr, .int nx, .int wh, .int (jbi pw), .int (nI 1)])), (qt, .inl (cb, 100, .inl tp)), (qr, .inr (0, [.ref qd, .ref ql, .ref qn, .int (nI old), .int (nI us), .int (nI pr)])), (qd, .inl (cb, 480, .inl dk)), (ql, .inl (ci, 40, .inl L)), (qn, .inl (ci, 40, .inl N))] H := hP
        have hD : va_D A [(h0, .inr (1, [.ref qt, .int (nI n), .ref qr, .int nx, .int wh, .int (jbi pw), .int (nI 1)])), (qt, .inl (cb, 100, .inl tp)), (qr, .inr (0, [.ref qd, .ref ql, .ref qn, .int (nI old), .int (nI us), .int (nI pr)])), (qd, .inl (cb, 480, .inl dk)), (ql, .inl (ci, 40, .inl L)), (qn, .inl (ci, 40, .inl N))] := hD
        refine lv_iconst (v := (nI 1)) hx hb dX1_cut_27 (by decide +kernel) ?_
        have he : jop_cu ((n, t), (k, r, z, u, y), (nx, wh, pw, ct)) sv = (1, ((n, t), (k, r, z, u, y), (nx, wh, pw, decide (sv ≠ -1)))) := if_neg (fun q => by rcases q with q | q; exact hs1 q; exact absurd hs2 (Int32.not_le.mpr q))
        exact j_zret (v := (nI 1)) ((tp, dk, L, N, n, old, us, pr, nx, wh, (jbi pw), (nI 1))) hx hb hr hlk hK hP hD hS (by decide +kernel) (by rw [he]; exact ⟨rfl, jDk_i rfl hn ht hR rfl rfl rfl (by rw [decide_eq_true (show sv ≠ -1 from hs3)]; rfl)⟩) dX1_cut_28
    · have href : sv < -1 ∨ 8 < sv := Or.inr (Int32.not_le.mp c_8_2)
      refine lv_iconst (v := (nI 0)) hx hb dX1_cut_11 (by decide +kernel) ?_
      exact j_zret (v := (nI 0)) ((tp, dk, L, N, n, old, us, pr, nx, wh, (jbi pw), (jbi ct))) hx hb hr hlk hK hP hD hS (by decide +kernel) (by rw [show jop_cu ((n, t), (k, r, z, u, y), (nx, wh, pw, ct)) sv = (0, ((n, t), (k, r, z, u, y), (nx, wh, pw, ct))) from if_pos href]; exact ⟨rfl, jDk_i rfl hn ht hR rfl rfl rfl rfl⟩) dX1_cut_12
abbrev rm_D_start : Room := { frames := 1, cells := 0, slots := 0, locals := 20 }
set_option maxHeartbeats 4000000 in
set_option maxRecDepth 100000 in
/-- start -/
theorem c_D_start (l : Launch) (D : va_G) (cb ci cz : ClassId) (h0 qt : Nat) (tp : Nat → Int32) (qr qd ql qn : Nat) (dk L N : Nat → Int32) (old us pr : Nat) (n : Nat) (t : Nat → Int32) (k : Nat) (r : Nat → Bool) (z : Nat → Nat) (u : Nat → Int32) (y : Nat → Nat → Int32) (nx wh : Int32) (pw ct : Bool) (hn : n ≤ 100) (ht : ∀ j, j < n → tp j &&& 255 = t j) (hR : jR old us pr dk L N k r z u y) (sz : Nat) : Met l yX1_start wsX1_start rm_D_start (va_Pc [.ref h0] (j_pre D (jT cb ci cz) [(h0, .inr (1, [.ref qt, .int (nI n), .ref qr, .int nx, .int wh, .int (jbi pw), .int (jbi ct)])), (qt, .inl (cb, 100, .inl tp)), (qr, .inr (0, [.ref qd, .ref ql, .ref qn, .int (nI old), .int (nI us), .int (nI pr)])), (qd, .inl (cb, 480, .inl dk)), (ql, .inl (ci, 40, .inl L)), (qn, .inl (ci, 40, .inl N))] sz)) (va_Qi (fun (x : Int32) (a : jDt) => x = (jop_st ((n, t), (k, r, z, u, y), (nx, wh, pw, ct))).1 ∧ jDk (jop_st ((n, t), (k, r, z, u, y), (nx, wh, pw, ct))).2 a) (j_post D (jT cb ci cz) (jDw h0 qt qr qd ql qn cb ci) (va_A [(h0, .inr (1, [.ref qt, .int (nI n), .ref qr, .int nx, .int wh, .int (jbi pw), .int (jbi ct)])), (qt, .inl (cb, 100, .inl tp)), (qr, .inr (0, [.ref qd, .ref ql, .ref qn, .int (nI old), .int (nI us), .int (nI pr)])), (qd, .inl (cb, 480, .inl dk)), (ql, .inl (ci, 40, .inl L)), (qn, .inl (ci, 40, .inl N))] sz)) (va_A [(h0, .inr (1, [.ref qt, .int (nI n), .ref qr, .int nx, .int wh, .int (jbi pw), .int (jbi ct)])), (qt, .inl (cb, 100, .inl tp)), (qr, .inr (0, [.ref qd, .ref ql, .ref qn, .int (nI old), .int (nI us), .int (nI pr)])), (qd, .inl (cb, 480, .inl dk)), (ql, .inl (ci, 40, .inl L)), (qn, .inl (ci, 40, .inl N))] sz)) 0 0 (va_A [(h0, .inr (1, [.ref qt, .int (nI n), .ref qr, .int nx, .int wh, .int (jbi pw), .int (jbi ct)])), (qt, .inl (cb, 100, .inl tp)), (qr, .inr (0, [.ref qd, .ref ql, .ref qn, .int (nI old), .int (nI us), .int (nI pr)])), (qd, .inl (cb, 480, .inl dk)), (ql, .inl (ci, 40, .inl L)), (qn, .inl (ci, 40, .inl N))] sz) := by
  refine j_in (Qc := fun A => (va_Qi (fun (x : Int32) (a : jDt) => x = (jop_st ((n, t), (k, r, z, u, y), (nx, wh, pw, ct))).1 ∧ jDk (jop_st ((n, t), (k, r, z, u, y), (nx, wh, pw, ct))).2 a) (j_post D (jT cb ci cz) (jDw h0 qt qr qd ql qn cb ci) A) A)) (cc := cX1_start) (maxL := 1) (ret := (some .int)) (by decide) rfl (Nat.le_of_ble_eq_true rfl) ?_
  intro p e s m av below meth c A ls H locs hx hb hr hml hts hown hlk hin hA hP hK hD hS hl
  have hown : s.vm.findClass RX1 = some m.cls := hown
  have hl : lv_has ls 1 [(0, .ref h0)] := hl
  refine lv_aload_n hx hb dX1_start_0 rfl (lv_at hl 0 rfl) ?_
  refine va_get (D := D) (ci := 1) (v := .int (jbi pw)) (C := RX1) (T := TX1) (N := 7) hx hb hts (by decide +kernel) hown hK hP 0 rfl rfl 5 (by decide) (hts (.fieldLink RX1 30 "JournalDesk" "power" "Z") (by decide +kernel)) (fun _ h9 => h9) rfl dX1_start_1 ?_
  refine lv_if_eq (tgt := 9) hx hb dX1_start_4 (by decide) (fun c_4_1 => ?_) (fun c_4_1 => ?_)
  · have hpw : pw = false := jbi_0.mp c_4_1
    refine lv_aload_n hx hb dX1_start_9 rfl (lv_at hl 0 rfl) ?_
    refine lv_iconst (v := (nI 1)) hx hb dX1_start_10 (by decide +kernel) ?_
    refine va_put (D := D) (ci := 1) (v := .int (nI 1)) (ty := .boolean) (C := RX1) (T := TX1) (N := 7) hx hb hts (by decide +kernel) tyX1 tyX1_ok nmX1 hown hK hP hD hS 0 rfl rfl 5 (by decide) (hts (.fieldLink RX1 30 "JournalDesk" "power" "Z") (by decide +kernel)) (fun _ h9 => h9) rfl (by decide +kernel) (rfl) (rfl) (Nat.le_of_ble_eq_true rfl) dX1_start_11 (fun H locs hP hD hS => ?_)
    have hP : va_P D vwCl [(h0, .inr (1, [.ref qt, .int (nI n), .ref qr, .int nx, .int wh, .int (nI 1), .int (jbi ct)])), (qt, .inl (cb, 100, .inl tp)), (qr, .inr (0, [.ref qd, .ref ql, .ref qn, .int (nI old), .int (nI us), .int (nI pr)])), (qd, .inl (cb, 480, .inl dk)), (ql, .inl (ci, 40, .inl L)), (qn, .inl (ci, 40, .inl N))] H := hP
    have hD : va_D A [(h0, .inr (1, [.ref qt, .int (nI n), .ref qr, .int nx, .int wh, .int (nI 1), .int (jbi ct)])), (qt, .inl (cb, 100, .inl tp)), (qr, .inr (0, [.ref qd, .ref ql, .ref qn, .int (nI old), .int (nI us), .int (nI pr)])), (qd, .inl (cb, 480, .inl dk)), (ql, .inl (ci, 40, .inl L)), (qn, .inl (ci, 40, .inl N))] := hD
    refine lv_aload_n hx hb dX1_start_14 rfl (lv_at hl 0 rfl) ?_
    refine va_get (D := D) (ci := 1) (v := .ref qr) (C := RX1) (T := TX1) (N := 7) hx hb hts (by decide +kernel) hown hK hP 0 rfl rfl 2 (by decide) (hts (.fieldLink RX1 20 "JournalDesk" "ring" "LJournalDesk$Ring;") (by decide +kernel)) (fun _ h9 => h9) rfl dX1_start_15 ?_
    refine j_calli (wr := [(h0, .inr (1, [.ref qt, .int (nI n), .ref qr, .int nx, .int wh, .int (nI 1), .int (jbi ct)])), (qt, .inl (cb, 100, .inl tp))]) hP hD hS hA [2, 3, 4, 5] [0, 1] rfl rfl (by decide) (by decide) (va_runV (As := []) (rest := []) ⟨hx, hb, hml, hown, hts⟩ (c_R_records l D cb ci cz qr qd ql qn dk L N old us pr H.size) (cwV 0 hts gX1_start_X0_records rfl rfl rfl (by decide +kernel) ⟨Nat.le_of_ble_eq_true rfl, Nat.le_of_ble_eq_true rfl⟩) (j_preV (ci := 0) (q0 := 0) [2, 3, 4, 5] [0, 1, 2] hK hP hD rfl rfl rfl rfl rfl rfl) rfl rfl hl.1 rfl (lv_room (Nat.le_of_ble_eq_true rfl)) dX1_start_18 ⟨Nat.le_of_ble_eq_true rfl, Nat.le_of_ble_eq_true rfl⟩) (fun r18 u9 H locs hw hP hD hS => ?_)
    have hP : va_P D vwCl [(h0, .inr (1, [.ref qt, .int (nI n), .ref qr, .int nx, .int wh, .int (nI 1), .int (jbi ct)])), (qt, .inl (cb, 100, .inl tp)), (qr, .inr (0, [.ref qd, .ref ql, .ref qn, .int (nI old), .int (nI us), .int (nI pr)])), (qd, .inl (cb, 480, .inl dk)), (ql, .inl (ci, 40, .inl L)), (qn, .inl (ci, 40, .inl N))] H := hP
    have hD : va_D A [(h0, .inr (1, [.ref qt, .int (nI n), .ref qr, .int nx, .int wh, .int (nI 1), .int (jbi ct)])), (qt, .inl (cb, 100, .inl tp)), (qr, .inr (0, [.ref qd, .ref ql, .ref qn, .int (nI old), .int (nI us), .int (nI pr)])), (qd, .inl (cb, 480, .inl dk)), (ql, .inl (ci, 40, .inl L)), (qn, .inl (ci, 40, .inl N))] := hD
    have hw : r18 = (nI pr) := hw
    subst hw
    exact j_iret (v := (nI pr)) ((tp, dk, L, N, n, old, us, pr, nx, wh, (nI 1), (jbi ct))) hx hb hr hlk hK hP hD hS (by rw [show jop_st ((n, t), (k, r, z, u, y), (nx, wh, pw, ct)) = (nI (js (jcn r) k), ((n, t), (k, r, z, u, y), (nx, wh, true, ct))) from if_neg (by rw [hpw]; decide)]; exact ⟨congrArg nI hR.2.2.2.1, jDk_i rfl hn ht hR rfl rfl rfl rfl⟩) dX1_start_21
  · have hpw : pw = true := jbi_n0.mp c_4_1
    refine lv_iconst (v := (-1)) hx hb dX1_start_7 (by decide +kernel) ?_
    exact j_iret (v := (-1)) ((tp, dk, L, N, n, old, us, pr, nx, wh, (jbi pw), (jbi ct))) hx hb hr hlk hK hP hD hS (by rw [show jop_st ((n, t), (k, r, z, u, y), (nx, wh, pw, ct)) = (-1, ((n, t), (k, r, z, u, y), (nx, wh, pw, ct))) from if_pos hpw]; exact ⟨rfl, jDk_i rfl hn ht hR rfl rfl rfl rfl⟩) dX1_start_8
abbrev rm_D_findRecord : Room := { frames := 6, cells := 0, slots := 0, locals := 129 }
set_option maxHeartbeats 4000000 in
set_option maxRecDepth 100000 in
/-- the first sector of the i-th record that is there -/
theorem c_D_findRecord (l : Launch) (D : va_G) (cb ci cz : ClassId) (h0 qt : Nat) (tp : Nat → Int32) (qr qd ql qn : Nat) (dk L N : Nat → Int32) (old us pr : Nat) (n : Nat) (t : Nat → Int32) (k : Nat) (r : Nat → Bool) (z : Nat → Nat) (u : Nat → Int32) (y : Nat → Nat → Int32) (nx wh : Int32) (pw ct : Bool) (i : Int32) (hn : n ≤ 100) (ht : ∀ j, j < n → tp j &&& 255 = t j) (hR : jR old us pr dk L N k r z u y) (sz : Nat) : Met l yX1_findRecord wsX1_findRecord rm_D_findRecord (va_Pc [.ref h0, .int i] (j_pre D (jT cb ci cz) [(h0, .inr (1, [.ref qt, .int (nI n), .ref qr, .int nx, .int wh, .int (jbi pw), .int (jbi ct)])), (qt, .inl (cb, 100, .inl tp)), (qr, .inr (0, [.ref qd, .ref ql, .ref qn, .int (nI old), .int (nI us), .int (nI pr)])), (qd, .inl (cb, 480, .inl dk)), (ql, .inl (ci, 40, .inl L)), (qn, .inl (ci, 40, .inl N))] sz)) (va_Qi (fun (x : Int32) (_ : Unit) => (∃ j, jfd k r pw i j ∧ x = nI ((old + js (jse r z) j) % 40)) ∨ ((∀ j, ¬ jfd k r pw i j) ∧ x = -1)) (j_post D (jT cb ci cz) (fun _ => [(h0, .inr (1, [.ref qt, .int (nI n), .ref qr, .int nx, .int wh, .int (jbi pw), .int (jbi ct)])), (qt, .inl (cb, 100, .inl tp)), (qr, .inr (0, [.ref qd, .ref ql, .ref qn, .int (nI old), .int (nI us), .int (nI pr)])), (qd, .inl (cb, 480, .inl dk)), (ql, .inl (ci, 40, .inl L)), (qn, .inl (ci, 40, .inl N))]) (va_A [(h0, .inr (1, [.ref qt, .int (nI n), .ref qr, .int nx, .int wh, .int (jbi pw), .int (jbi ct)])), (qt, .inl (cb, 100, .inl tp)), (qr, .inr (0, [.ref qd, .ref ql, .ref qn, .int (nI old), .int (nI us), .int (nI pr)])), (qd, .inl (cb, 480, .inl dk)), (ql, .inl (ci, 40, .inl L)), (qn, .inl (ci, 40, .inl N))] sz)) (va_A [(h0, .inr (1, [.ref qt, .int (nI n), .ref qr, .int nx, .int wh, .int (jbi pw), .int (jbi ct)])), (qt, .inl (cb, 100, .inl tp)), (qr, .inr (0, [.ref qd, .ref ql, .ref qn, .int (nI old), .int (nI us), .int (nI pr)])), (qd, .inl (cb, 480, .inl dk)), (ql, .inl (ci, 40, .inl L)), (qn, .inl (ci, 40, .inl N))] sz)) 0 0 (va_A [(h0, .inr (1, [.ref qt, .int (nI n), .ref qr, .int nx, .int wh, .int (jbi pw), .int (jbi ct)])), (qt, .inl (cb, 100, .inl tp)), (qr, .inr (0, [.ref qd, .ref ql, .ref qn, .int (nI old), .int (nI us), .int (nI pr)])), (qd, .inl (cb, 480, .inl dk)), (ql, .inl (ci, 40, .inl L)), (qn, .inl (ci, 40, .inl N))] sz) := by
  refine j_in (Qc := fun A => (va_Qi (fun (x : Int32) (_ : Unit) => (∃ j, jfd k r pw i j ∧ x = nI ((old + js (jse r z) j) % 40)) ∨ ((∀ j, ¬ jfd k r pw i j) ∧ x = -1)) (j_post D (jT cb ci cz) (fun _ => [(h0, .inr (1, [.ref qt, .int (nI n), .ref qr, .int nx, .int wh, .int (jbi pw), .int (jbi ct)])), (qt, .inl (cb, 100, .inl tp)), (qr, .inr (0, [.ref qd, .ref ql, .ref qn, .int (nI old), .int (nI us), .int (nI pr)])), (qd, .inl (cb, 480, .inl dk)), (ql, .inl (ci, 40, .inl L)), (qn, .inl (ci, 40, .inl N))]) A) A)) (cc := cX1_findRecord) (maxL := 2) (ret := (some .int)) (by decide) rfl (Nat.le_of_ble_eq_true rfl) ?_
  intro p e s m av below meth c A ls H locs hx hb hr hml hts hown hlk hin hA hP hK hD hS hl
  have hown : s.vm.findClass RX1 = some m.cls := hown
  have hl : lv_has ls 2 [(0, .ref h0), (1, .int i)] := hl
  refine lv_aload_n hx hb dX1_findRecord_0 rfl (lv_at hl 0 rfl) ?_
  refine va_get (D := D) (ci := 1) (v := .int (jbi pw)) (C := RX1) (T := TX1) (N := 7) hx hb hts (by decide +kernel) hown hK hP 0 rfl rfl 5 (by decide) (hts (.fieldLink RX1 30 "JournalDesk" "power" "Z") (by decide +kernel)) (fun _ h9 => h9) rfl dX1_findRecord_1 ?_
  refine lv_if_eq (tgt := 18) hx hb dX1_findRecord_4 (by decide) (fun c_4_1 => ?_) (fun c_4_1 => ?_)
  · have hpw : pw = false := jbi_0.mp c_4_1
    refine lv_iconst (v := (-1)) hx hb dX1_findRecord_18 (by decide +kernel) ?_
    exact j_iret (v := (-1)) (()) hx hb hr hlk hK hP hD hS (Or.inr ⟨fun j q => absurd (hpw.symm.trans q.1) (by decide), rfl⟩) dX1_findRecord_19
  · have hpw : pw = true := jbi_n0.mp c_4_1
    refine lv_aload_n hx hb dX1_findRecord_7 rfl (lv_at hl 0 rfl) ?_
    refine va_get (D := D) (ci := 1) (v := .ref qr) (C := RX1) (T := TX1) (N := 7) hx hb hts (by decide +kernel) hown hK hP 0 rfl rfl 2 (by decide) (hts (.fieldLink RX1 20 "JournalDesk" "ring" "LJournalDesk$Ring;") (by decide +kernel)) (fun _ h9 => h9) rfl dX1_findRecord_8 ?_
    refine lv_iload_n hx hb dX1_findRecord_11 rfl (lv_at hl 1 rfl) ?_
    refine j_calli (wr := [(h0, .inr (1, [.ref qt, .int (nI n), .ref qr, .int nx, .int wh, .int (jbi pw), .int (jbi ct)])), (qt, .inl (cb, 100, .inl tp))]) hP hD hS hA [2, 3, 4, 5] [0, 1] rfl rfl (by decide) (by decide) (va_runV (As := [.int i]) (rest := []) ⟨hx, hb, hml, hown, hts⟩ (c_R_sectorOfRecord l D cb ci cz qr qd ql qn dk L N old us pr k r z u y i hR H.size) (cwV 1 hts gX1_findRecord_X0_sectorOfRecord rfl rfl rfl (by decide +kernel) ⟨Nat.le_of_ble_eq_true rfl, Nat.le_of_ble_eq_true rfl⟩) (j_preV (ci := 0) (q0 := 0) [2, 3, 4, 5] [0, 1, 2] hK hP hD rfl rfl rfl rfl rfl rfl) rfl rfl hl.1 rfl (lv_room (Nat.le_of_ble_eq_true rfl)) dX1_findRecord_12 ⟨Nat.le_of_ble_eq_true rfl, Nat.le_of_ble_eq_true rfl⟩) (fun r12 u9 H locs hw hP hD hS => ?_)
    have hP : va_P D vwCl [(h0, .inr (1, [.ref qt, .int (nI n), .ref qr, .int nx, .int wh, .int (jbi pw), .int (jbi ct)])), (qt, .inl (cb, 100, .inl tp)), (qr, .inr (0, [.ref qd, .ref ql, .ref qn, .int (nI old), .int (nI us), .int (nI pr)])), (qd, .inl (cb, 480, .inl dk)), (ql, .inl (ci, 40, .inl L)), (qn, .inl (ci, 40, .inl N))] H := hP
    have hD : va_D A [(h0, .inr (1, [.ref qt, .int (nI n), .ref qr, .int nx, .int wh, .int (jbi pw), .int (jbi ct)])), (qt, .inl (cb, 100, .inl tp)), (qr, .inr (0, [.ref qd, .ref ql, .ref qn, .int (nI old), .int (nI us), .int (nI pr)])), (qd, .inl (cb, 480, .inl dk)), (ql, .inl (ci, 40, .inl L)), (qn, .inl (ci, 40, .inl N))] := hD
    have hf := hw
    refine lv_goto (tgt := 19) hx hb dX1_findRecord_15 (by decide) ?_
    exact j_iret (v := r12) (()) hx hb hr hlk hK hP hD hS (by rw [hpw]; exact hf) dX1_findRecord_19
abbrev rm_D_record : Room := { frames := 7, cells := 0, slots := 0, locals := 150 }
set_option maxHeartbeats 4000000 in
set_option maxRecDepth 100000 in
/-- record -/
theorem c_D_record (l : Launch) (D : va_G) (cb ci cz : ClassId) (h0 qt : Nat) (tp : Nat → Int32) (qr qd ql qn : Nat) (dk L N : Nat → Int32) (old us pr : Nat) (n : Nat) (t : Nat → Int32) (k : Nat) (r : Nat → Bool) (z : Nat → Nat) (u : Nat → Int32) (y : Nat → Nat → Int32) (nx wh : Int32) (pw ct : Bool) (i wv : Int32) (hn : n ≤ 100) (ht : ∀ j, j < n → tp j &&& 255 = t j) (hR : jR old us pr dk L N k r z u y) (sz : Nat) : Met l yX1_record wsX1_record rm_D_record (va_Pc [.ref h0, .int i, .int wv] (j_pre D (jT cb ci cz) [(h0, .inr (1, [.ref qt, .int (nI n), .ref qr, .int nx, .int wh, .int (jbi pw), .int (jbi ct)])), (qt, .inl (cb, 100, .inl tp)), (qr, .inr (0, [.ref qd, .ref ql, .ref qn, .int (nI old), .int (nI us), .int (nI pr)])), (qd, .inl (cb, 480, .inl dk)), (ql, .inl (ci, 40, .inl L)), (qn, .inl (ci, 40, .inl N))] sz)) (va_Qi (fun (x : Int32) (_ : Unit) => jop_rc ((n, t), (k, r, z, u, y), (nx, wh, pw, ct)) i wv x) (j_post D (jT cb ci cz) (fun _ => [(h0, .inr (1, [.ref qt, .int (nI n), .ref qr, .int nx, .int wh, .int (jbi pw), .int (jbi ct)])), (qt, .inl (cb, 100, .inl tp)), (qr, .inr (0, [.ref qd, .ref ql, .ref qn, .int (nI old), .int (nI us), .int (nI pr)])), (qd, .inl (cb, 480, .inl dk)), (ql, .inl (ci, 40, .inl L)), (qn, .inl (ci, 40, .inl N))]) (va_A [(h0, .inr (1, [.ref qt, .int (nI n), .ref qr, .int nx, .int wh, .int (jbi pw), .int (jbi ct)])), (qt, .inl (cb, 100, .inl tp)), (qr, .inr (0, [.ref qd, .ref ql, .ref qn, .int (nI old), .int (nI us), .int (nI pr)])), (qd, .inl (cb, 480, .inl dk)), (ql, .inl (ci, 40, .inl L)), (qn, .inl (ci, 40, .inl N))] sz)) (va_A [(h0, .inr (1, [.ref qt, .int (nI n), .ref qr, .int nx, .int wh, .int (jbi pw), .int (jbi ct)])), (qt, .inl (cb, 100, .inl tp)), (qr, .inr (0, [.ref qd, .ref ql, .ref qn, .int (nI old), .int (nI us), .int (nI pr)])), (qd, .inl (cb, 480, .inl dk)), (ql, .inl (ci, 40, .inl L)), (qn, .inl (ci, 40, .inl N))] sz)) 0 0 (va_A [(h0, .inr (1, [.ref qt, .int (nI n), .ref qr, .int nx, .int wh, .int (jbi pw), .int (jbi ct)])), (qt, .inl (cb, 100, .inl tp)), (qr, .inr (0, [.ref qd, .ref ql, .ref qn, .int (nI old), .int (nI us), .int (nI pr)])), (qd, .inl (cb, 480, .inl dk)), (ql, .inl (ci, 40, .inl L)), (qn, .inl (ci, 40, .inl N))] sz) := by
  refine j_in (Qc := fun A => (va_Qi (fun (x : Int32) (_ : Unit) => jop_rc ((n, t), (k, r, z, u, y), (nx, wh, pw, ct)) i wv x) (j_post D (jT cb ci cz) (fun _ => [(h0, .inr (1, [.ref qt, .int (nI n), .ref qr, .int nx, .int wh, .int (jbi pw), .int (jbi ct)])), (qt, .inl (cb, 100, .inl tp)), (qr, .inr (0, [.ref qd, .ref ql, .ref qn, .int (nI old), .int (nI us), .int (nI pr)])), (qd, .inl (cb, 480, .inl dk)), (ql, .inl (ci, 40, .inl L)), (qn, .inl (ci, 40, .inl N))]) A) A)) (cc := cX1_record) (maxL := 4) (ret := (some .int)) (by decide) rfl (Nat.le_of_ble_eq_true rfl) ?_
  intro p e s m av below meth c A ls H locs hx hb hr hml hts hown hlk hin hA hP hK hD hS hl
  have hown : s.vm.findClass RX1 = some m.cls := hown
  have hl : lv_has ls 4 [(0, .ref h0), (1, .int i), (2, .int wv)] := hl
  refine lv_aload_n hx hb dX1_record_0 rfl (lv_at hl 0 rfl) ?_
  refine lv_iload_n hx hb dX1_record_1 rfl (lv_at hl 1 rfl) ?_
  refine j_calli (wr := []) hP hD hS hA [0, 1, 2, 3, 4, 5] [] rfl rfl (by decide) (by decide) (va_runV (As := [.int i]) (rest := []) ⟨hx, hb, hml, hown, hts⟩ (c_D_findRecord l D cb ci cz h0 qt tp qr qd ql qn dk L N old us pr n t k r z u y nx wh pw ct i hn ht hR H.size) (cwV 1 hts gX1_record_X1_findRecord rfl rfl rfl (by decide +kernel) ⟨Nat.le_of_ble_eq_true rfl, Nat.le_of_ble_eq_true rfl⟩) (j_preV (ci := 1) (q0 := 0) [0, 1, 2, 3, 4, 5] [0, 1, 2] hK hP hD rfl rfl rfl rfl rfl rfl) rfl rfl hl.1 rfl (lv_room (Nat.le_of_ble_eq_true rfl)) dX1_record_2 ⟨Nat.le_of_ble_eq_true rfl, Nat.le_of_ble_eq_true rfl⟩) (fun r2 u9 H locs hw hP hD hS => ?_)
  have hP : va_P D vwCl [(h0, .inr (1, [.ref qt, .int (nI n), .ref qr, .int nx, .int wh, .int (jbi pw), .int (jbi ct)])), (qt, .inl (cb, 100, .inl tp)), (qr, .inr (0, [.ref qd, .ref ql, .ref qn, .int (nI old), .int (nI us), .int (nI pr)])), (qd, .inl (cb, 480, .inl dk)), (ql, .inl (ci, 40, .inl L)), (qn, .inl (ci, 40, .inl N))] H := hP
  have hD : va_D A [(h0, .inr (1, [.ref qt, .int (nI n), .ref qr, .int nx, .int wh, .int (jbi pw), .int (jbi ct)])), (qt, .inl (cb, 100, .inl tp)), (qr, .inr (0, [.ref qd, .ref ql, .ref qn, .int (nI old), .int (nI us), .int (nI pr)])), (qd, .inl (cb, 480, .inl dk)), (ql, .inl (ci, 40, .inl L)), (qn, .inl (ci, 40, .inl N))] := hD
  obtain ⟨fr, hfr⟩ : ∃ fr, fr = r2 := ⟨_, rfl⟩
  rw [← hfr]
  have hf : (∃ j, jfd k r pw i j ∧ fr = nI ((old + js (jse r z) j) % 40)) ∨ ((∀ j, ¬ jfd k r pw i j) ∧ fr = -1) := hfr ▸ hw
  refine lv_istore_n (lv' := [(3, .int fr), (0, .ref h0), (1, .int i), (2, .int wv)]) hx hb dX1_record_5 rfl hl (by decide) rfl (fun ls hl => ?_)
  refine lv_iload_n hx hb dX1_record_6 rfl (lv_at hl 0 rfl) ?_
  refine lv_iconst (v := (-1)) hx hb dX1_record_7 (by decide +kernel) ?_
  refine lv_icmp_ne (tgt := 13) hx hb dX1_record_8 (by decide) (fun c_8_1 => ?_) (fun c_8_1 => ?_)
  · obtain ⟨j, hj, hrj⟩ : ∃ j, jfd k r pw i j ∧ fr = nI ((old + js (jse r z) j) % 40) := hf.resolve_right (fun q => c_8_1 q.2)
    rw [hrj] at hl
    refine lv_iload_n hx hb dX1_record_13 rfl (lv_at hl 3 rfl) ?_
    by_cases hsw0 : wv = 0
    · refine lv_lookup (tgt := 40) hx hb dX1_record_14 (by decide +kernel) (off := 26) (by rw [hsw0]; decide +kernel) (by decide) ?_
      refine lv_aload_n hx hb dX1_record_40 rfl (lv_at hl 1 rfl) ?_
      refine va_get (D := D) (ci := 1) (v := .ref qr) (C := RX1) (T := TX1) (N := 7) hx hb hts (by decide +kernel) hown hK hP 0 rfl rfl 2 (by decide) (hts (.fieldLink RX1 20 "JournalDesk" "ring" "LJournalDesk$Ring;") (by decide +kernel)) (fun _ h9 => h9) rfl dX1_record_41 ?_
      refine lv_iload_n hx hb dX1_record_44 rfl (lv_at hl 0 rfl) ?_
      refine j_calli (wr := [(h0, .inr (1, [.ref qt, .int (nI n), .ref qr, .int nx, .int wh, .int (jbi pw), .int (jbi ct)])), (qt, .inl (cb, 100, .inl tp))]) hP hD hS hA [2, 3, 4, 5] [0, 1] rfl rfl (by decide) (by decide) (va_runV (As := [.int (nI ((old + js (jse r z) j) % 40))]) (rest := []) ⟨hx, hb, hml, hown, hts⟩ (c_R_lengthAt l D cb ci cz qr qd ql qn dk L N old us pr ((old + js (jse r z) j) % 40) (Nat.mod_lt _ (by decide)) H.size) (cwV 1 hts gX1_record_X0_lengthAt rfl rfl rfl (by decide +kernel) ⟨Nat.le_of_ble_eq_true rfl, Nat.le_of_ble_eq_true rfl⟩) (j_preV (ci := 0) (q0 := 0) [2, 3, 4, 5] [0, 1, 2] hK hP hD rfl rfl rfl rfl rfl rfl) rfl rfl hl.1 rfl (lv_room (Nat.le_of_ble_eq_true rfl)) dX1_record_45 ⟨Nat.le_of_ble_eq_true rfl, Nat.le_of_ble_eq_true rfl⟩) (fun r45 u9 H locs hw hP hD hS => ?_)
      have hP : va_P D vwCl [(h0, .inr (1, [.ref qt, .int (nI n), .ref qr, .int nx, .int wh, .int (jbi pw), .int (jbi ct)])), (qt, .inl (cb, 100, .inl tp)), (qr, .inr (0, [.ref qd, .ref ql, .ref qn, .int (nI old), .int (nI us), .int (nI pr)])), (qd, .inl (cb, 480, .inl dk)), (ql, .inl (ci, 40, .inl L)), (qn, .inl (ci, 40, .inl N))] H := hP
      have hD : va_D A [(h0, .inr (1, [.ref qt, .int (nI n), .ref qr, .int nx, .int wh, .int (jbi pw), .int (jbi ct)])), (qt, .inl (cb, 100, .inl tp)), (qr, .inr (0, [.ref qd, .ref ql, .ref qn, .int (nI old), .int (nI us), .int (nI pr)])), (qd, .inl (cb, 480, .inl dk)), (ql, .inl (ci, 40, .inl L)), (qn, .inl (ci, 40, .inl N))] := hD
      have hw : r45 = (L ((old + js (jse r z) j) % 40)) := hw
      subst hw
      exact j_iret (v := (L ((old + js (jse r z) j) % 40))) (()) hx hb hr hlk hK hP hD hS (Or.inl ⟨j, hj, by rw [if_pos hsw0]; exact (jR_L hR hj.2.1).trans (if_pos hj.2.2.1)⟩) dX1_record_48
    by_cases hsw1 : wv = 1
    · refine lv_lookup (tgt := 49) hx hb dX1_record_14 (by decide +kernel) (off := 35) (by rw [hsw1]; decide +kernel) (by decide) ?_
      refine lv_aload_n hx hb dX1_record_49 rfl (lv_at hl 1 rfl) ?_
      refine va_get (D := D) (ci := 1) (v := .ref qr) (C := RX1) (T := TX1) (N := 7) hx hb hts (by decide +kernel) hown hK hP 0 rfl rfl 2 (by decide) (hts (.fieldLink RX1 20 "JournalDesk" "ring" "LJournalDesk$Ring;") (by decide +kernel)) (fun _ h9 => h9) rfl dX1_record_50 ?_
      refine lv_iload_n hx hb dX1_record_53 rfl (lv_at hl 0 rfl) ?_
      refine j_calli (wr := [(h0, .inr (1, [.ref qt, .int (nI n), .ref qr, .int nx, .int wh, .int (jbi pw), .int (jbi ct)])), (qt, .inl (cb, 100, .inl tp))]) hP hD hS hA [2, 3, 4, 5] [0, 1] rfl rfl (by decide) (by decide) (va_runV (As := [.int (nI ((old + js (jse r z) j) % 40))]) (rest := []) ⟨hx, hb, hml, hown, hts⟩ (c_R_numberAt l D cb ci cz qr qd ql qn dk L N old us pr ((old + js (jse r z) j) % 40) (Nat.mod_lt _ (by decide)) H.size) (cwV 1 hts gX1_record_X0_numberAt rfl rfl rfl (by decide +kernel) ⟨Nat.le_of_ble_eq_true rfl, Nat.le_of_ble_eq_true rfl⟩) (j_preV (ci := 0) (q0 := 0) [2, 3, 4, 5] [0, 1, 2] hK hP hD rfl rfl rfl rfl rfl rfl) rfl rfl hl.1 rfl (lv_room (Nat.le_of_ble_eq_true rfl)) dX1_record_54 ⟨Nat.le_of_ble_eq_true rfl, Nat.le_of_ble_eq_true rfl⟩) (fun r54 u9 H locs hw hP hD hS => ?_)
      have hP : va_P D vwCl [(h0, .inr (1, [.ref qt, .int (nI n), .ref qr, .int nx, .int wh, .int (jbi pw), .int (jbi ct)])), (qt, .inl (cb, 100, .inl tp)), (qr, .inr (0, [.ref qd, .ref ql, .ref qn, .int (nI old), .int (nI us), .int (nI pr)])), (qd, .inl (cb, 480, .inl dk)), (ql, .inl (ci, 40, .inl L)), (qn, .inl (ci, 40, .inl N))] H := hP
      have hD : va_D A [(h0, .inr (1, [.ref qt, .int (nI n), .ref qr, .int nx, .int wh, .int (jbi pw), .int (jbi ct)])), (qt, .inl (cb, 100, .inl tp)), (qr, .inr (0, [.ref qd, .ref ql, .ref qn, .int (nI old), .int (nI us), .int (nI pr)])), (qd, .inl (cb, 480, .inl dk)), (ql, .inl (ci, 40, .inl L)), (qn, .inl (ci, 40, .inl N))] := hD
      have hw : r54 = (N ((old + js (jse r z) j) % 40)) := hw
      subst hw
      exact j_iret (v := (N ((old + js (jse r z) j) % 40))) (()) hx hb hr hlk hK hP hD hS (Or.inl ⟨j, hj, by rw [if_neg hsw0, if_pos hsw1]; exact hR.2.2.2.2.2.2.1 j hj.2.1 hj.2.2.1⟩) dX1_record_57
    refine lv_lookup (tgt := 58) hx hb dX1_record_14 (by decide +kernel) (off := 44) (by show Op.lookupswitch.offset [(0, 26), (1, 35)] 44 (wv).toInt = _; rw [lv_osw (k := 0) hsw0 (by decide +kernel), lv_osw (k := 1) hsw1 (by decide +kernel)]; rfl) (by decide) ?_
    refine lv_iconst (v := (-1)) hx hb dX1_record_58 (by decide +kernel) ?_
    exact j_iret (v := (-1)) (()) hx hb hr hlk hK hP hD hS (Or.inl ⟨j, hj, by rw [if_neg hsw0, if_neg hsw1]⟩) dX1_record_59
  · have hno : ∀ j, ¬ jfd k r pw i j := by
      rcases hf with ⟨j, hj, hrj⟩ | q
      · exact absurd (hrj.symm.trans c_8_1) (j_ne1 _ (by omega))
      · exact q.1
    refine lv_iconst (v := (-1)) hx hb dX1_record_11 (by decide +kernel) ?_
    exact j_iret (v := (-1)) (()) hx hb hr hlk hK hP hD hS (Or.inr ⟨hno, rfl⟩) dX1_record_12
abbrev rm_D_bytes : Room := { frames := 7, cells := 0, slots := 0, locals := 150 }
set_option maxHeartbeats 4000000 in
set_option maxRecDepth 100000 in
/-- bytes -/
theorem c_D_bytes (l : Launch) (D : va_G) (cb ci cz : ClassId) (h0 qt : Nat) (tp : Nat → Int32) (qr qd ql qn : Nat) (dk L N : Nat → Int32) (old us pr : Nat) (n : Nat) (t : Nat → Int32) (k : Nat) (r : Nat → Bool) (z : Nat → Nat) (u : Nat → Int32) (y : Nat → Nat → Int32) (nx wh : Int32) (pw ct : Bool) (i kv : Int32) (hn : n ≤ 100) (ht : ∀ j, j < n → tp j &&& 255 = t j) (hR : jR old us pr dk L N k r z u y) (sz : Nat) : Met l yX1_bytes wsX1_bytes rm_D_bytes (va_Pc [.ref h0, .int i, .int kv] (j_pre D (jT cb ci cz) [(h0, .inr (1, [.ref qt, .int (nI n), .ref qr, .int nx, .int wh, .int (jbi pw), .int (jbi ct)])), (qt, .inl (cb, 100, .inl tp)), (qr, .inr (0, [.ref qd, .ref ql, .ref qn, .int (nI old), .int (nI us), .int (nI pr)])), (qd, .inl (cb, 480, .inl dk)), (ql, .inl (ci, 40, .inl L)), (qn, .inl (ci, 40, .inl N))] sz)) (va_Ql (fun (x : Int64) (_ : Unit) => jop_by ((n, t), (k, r, z, u, y), (nx, wh, pw, ct)) i kv x) (j_post D (jT cb ci cz) (fun _ => [(h0, .inr (1, [.ref qt, .int (nI n), .ref qr, .int nx, .int wh, .int (jbi pw), .int (jbi ct)])), (qt, .inl (cb, 100, .inl tp)), (qr, .inr (0, [.ref qd, .ref ql, .ref qn, .int (nI old), .int (nI us), .int (nI pr)])), (qd, .inl (cb, 480, .inl dk)), (ql, .inl (ci, 40, .inl L)), (qn, .inl (ci, 40, .inl N))]) (va_A [(h0, .inr (1, [.ref qt, .int (nI n), .ref qr, .int nx, .int wh, .int (jbi pw), .int (jbi ct)])), (qt, .inl (cb, 100, .inl tp)), (qr, .inr (0, [.ref qd, .ref ql, .ref qn, .int (nI old), .int (nI us), .int (nI pr)])), (qd, .inl (cb, 480, .inl dk)), (ql, .inl (ci, 40, .inl L)), (qn, .inl (ci, 40, .inl N))] sz)) (va_A [(h0, .inr (1, [.ref qt, .int (nI n), .ref qr, .int nx, .int wh, .int (jbi pw), .int (jbi ct)])), (qt, .inl (cb, 100, .inl tp)), (qr, .inr (0, [.ref qd, .ref ql, .ref qn, .int (nI old), .int (nI us), .int (nI pr)])), (qd, .inl (cb, 480, .inl dk)), (ql, .inl (ci, 40, .inl L)), (qn, .inl (ci, 40, .inl N))] sz)) 0 0 (va_A [(h0, .inr (1, [.ref qt, .int (nI n), .ref qr, .int nx, .int wh, .int (jbi pw), .int (jbi ct)])), (qt, .inl (cb, 100, .inl tp)), (qr, .inr (0, [.ref qd, .ref ql, .ref qn, .int (nI old), .int (nI us), .int (nI pr)])), (qd, .inl (cb, 480, .inl dk)), (ql, .inl (ci, 40, .inl L)), (qn, .inl (ci, 40, .inl N))] sz) := by
  refine j_in (Qc := fun A => (va_Ql (fun (x : Int64) (_ : Unit) => jop_by ((n, t), (k, r, z, u, y), (nx, wh, pw, ct)) i kv x) (j_post D (jT cb ci cz) (fun _ => [(h0, .inr (1, [.ref qt, .int (nI n), .ref qr, .int nx, .int wh, .int (jbi pw), .int (jbi ct)])), (qt, .inl (cb, 100, .inl tp)), (qr, .inr (0, [.ref qd, .ref ql, .ref qn, .int (nI old), .int (nI us), .int (nI pr)])), (qd, .inl (cb, 480, .inl dk)), (ql, .inl (ci, 40, .inl L)), (qn, .inl (ci, 40, .inl N))]) A) A)) (cc := cX1_bytes) (maxL := 4) (ret := (some .long)) (by decide) rfl (Nat.le_of_ble_eq_true rfl) ?_
  intro p e s m av below meth c A ls H locs hx hb hr hml hts hown hlk hin hA hP hK hD hS hl
  have hown : s.vm.findClass RX1 = some m.cls := hown
  have hl : lv_has ls 4 [(0, .ref h0), (1, .int i), (2, .int kv)] := hl
  refine lv_aload_n hx hb dX1_bytes_0 rfl (lv_at hl 0 rfl) ?_
  refine lv_iload_n hx hb dX1_bytes_1 rfl (lv_at hl 1 rfl) ?_
  refine j_calli (wr := []) hP hD hS hA [0, 1, 2, 3, 4, 5] [] rfl rfl (by decide) (by decide) (va_runV (As := [.int i]) (rest := []) ⟨hx, hb, hml, hown, hts⟩ (c_D_findRecord l D cb ci cz h0 qt tp qr qd ql qn dk L N old us pr n t k r z u y nx wh pw ct i hn ht hR H.size) (cwV 1 hts gX1_bytes_X1_findRecord rfl rfl rfl (by decide +kernel) ⟨Nat.le_of_ble_eq_true rfl, Nat.le_of_ble_eq_true rfl⟩) (j_preV (ci := 1) (q0 := 0) [0, 1, 2, 3, 4, 5] [0, 1, 2] hK hP hD rfl rfl rfl rfl rfl rfl) rfl rfl hl.1 rfl (lv_room (Nat.le_of_ble_eq_true rfl)) dX1_bytes_2 ⟨Nat.le_of_ble_eq_true rfl, Nat.le_of_ble_eq_true rfl⟩) (fun r2 u9 H locs hw hP hD hS => ?_)
  have hP : va_P D vwCl [(h0, .inr (1, [.ref qt, .int (nI n), .ref qr, .int nx, .int wh, .int (jbi pw), .int (jbi ct)])), (qt, .inl (cb, 100, .inl tp)), (qr, .inr (0, [.ref qd, .ref ql, .ref qn, .int (nI old), .int (nI us), .int (nI pr)])), (qd, .inl (cb, 480, .inl dk)), (ql, .inl (ci, 40, .inl L)), (qn, .inl (ci, 40, .inl N))] H := hP
  have hD : va_D A [(h0, .inr (1, [.ref qt, .int (nI n), .ref qr, .int nx, .int wh, .int (jbi pw), .int (jbi ct)])), (qt, .inl (cb, 100, .inl tp)), (qr, .inr (0, [.ref qd, .ref ql, .ref qn, .int (nI old), .int (nI us), .int (nI pr)])), (qd, .inl (cb, 480, .inl dk)), (ql, .inl (ci, 40, .inl L)), (qn, .inl (ci, 40, .inl N))] := hD
  obtain ⟨fr, hfr⟩ : ∃ fr, fr = r2 := ⟨_, rfl⟩
  rw [← hfr]
  have hf : (∃ j, jfd k r pw i j ∧ fr = nI ((old + js (jse r z) j) % 40)) ∨ ((∀ j, ¬ jfd k r pw i j) ∧ fr = -1) := hfr ▸ hw
  refine lv_istore_n (lv' := [(3, .int fr), (0, .ref h0), (1, .int i), (2, .int kv)]) hx hb dX1_bytes_5 rfl hl (by decide) rfl (fun ls hl => ?_)
  refine lv_iload_n hx hb dX1_bytes_6 rfl (lv_at hl 0 rfl) ?_
  refine lv_iconst (v := (-1)) hx hb dX1_bytes_7 (by decide +kernel) ?_
  refine lv_icmp_eq (tgt := 15) hx hb dX1_bytes_8 (by decide) (fun c_8_1 => ?_) (fun c_8_1 => ?_)
  · have hno : ∀ j, ¬ jfd k r pw i j := by
      rcases hf with ⟨j, hj, hrj⟩ | q
      · exact absurd (hrj.symm.trans c_8_1) (j_ne1 _ (by omega))
      · exact q.1
    refine lv_ldc2 (v := (-1)) hx hb hown (hts (.constantLong RX1 70 (-1)) (by decide +kernel)) dX1_bytes_15 ?_
    exact j_lret (v := (-1)) (()) hx hb hr hlk hK hP hD hS (Or.inr ⟨hno, rfl⟩) dX1_bytes_18
  · obtain ⟨j, hj, hrj⟩ : ∃ j, jfd k r pw i j ∧ fr = nI ((old + js (jse r z) j) % 40) := hf.resolve_right (fun q => c_8_1 q.2)
    rw [hrj] at hl
    refine lv_iload_n hx hb dX1_bytes_11 rfl (lv_at hl 3 rfl) ?_
    refine lv_if_ge (tgt := 19) hx hb dX1_bytes_12 (by decide) (fun c_12_2 => ?_) (fun c_12_2 => ?_)
    · obtain ⟨cc, hc31, hkv⟩ := nI_of (Int32.not_lt.mpr c_12_2)
      rw [hkv] at hl
      refine lv_aload_n hx hb dX1_bytes_19 rfl (lv_at hl 1 rfl) ?_
      refine va_get (D := D) (ci := 1) (v := .ref qr) (C := RX1) (T := TX1) (N := 7) hx hb hts (by decide +kernel) hown hK hP 0 rfl rfl 2 (by decide) (hts (.fieldLink RX1 20 "JournalDesk" "ring" "LJournalDesk$Ring;") (by decide +kernel)) (fun _ h9 => h9) rfl dX1_bytes_20 ?_
      refine lv_iload_n hx hb dX1_bytes_23 rfl (lv_at hl 0 rfl) ?_
      refine lv_iload_n hx hb dX1_bytes_24 rfl (lv_at hl 3 rfl) ?_
      refine j_calll (wr := [(h0, .inr (1, [.ref qt, .int (nI n), .ref qr, .int nx, .int wh, .int (jbi pw), .int (jbi ct)])), (qt, .inl (cb, 100, .inl tp))]) hP hD hS hA [2, 3, 4, 5] [0, 1] rfl rfl (by decide) (by decide) (va_runV (As := [.int (nI ((old + js (jse r z) j) % 40)), .int (nI cc)]) (rest := []) ⟨hx, hb, hml, hown, hts⟩ (c_R_eightBytes l D cb ci cz qr qd ql qn dk L N old us pr ((old + js (jse r z) j) % 40) cc (z j) (y j) (Nat.mod_lt _ (by decide)) (jR_z hR hj.2.1) ((jR_L hR hj.2.1).trans (if_pos hj.2.2.1)) (fun i0 q0 => hR.2.2.2.2.2.2.2 j i0 hj.2.1 hj.2.2.1 q0) hc31 H.size) (cwV 2 hts gX1_bytes_X0_eightBytes rfl rfl rfl (by decide +kernel) ⟨Nat.le_of_ble_eq_true rfl, Nat.le_of_ble_eq_true rfl⟩) (j_preV (ci := 0) (q0 := 0) [2, 3, 4, 5] [0, 1, 2] hK hP hD rfl rfl rfl rfl rfl rfl) rfl rfl hl.1 rfl (lv_room (Nat.le_of_ble_eq_true rfl)) dX1_bytes_25 ⟨Nat.le_of_ble_eq_true rfl, Nat.le_of_ble_eq_true rfl⟩) (fun r25 u9 H locs hw hP hD hS => ?_)
      have hP : va_P D vwCl [(h0, .inr (1, [.ref qt, .int (nI n), .ref qr, .int nx, .int wh, .int (jbi pw), .int (jbi ct)])), (qt, .inl (cb, 100, .inl tp)), (qr, .inr (0, [.ref qd, .ref ql, .ref qn, .int (nI old), .int (nI us), .int (nI pr)])), (qd, .inl (cb, 480, .inl dk)), (ql, .inl (ci, 40, .inl L)), (qn, .inl (ci, 40, .inl N))] H := hP
      have hD : va_D A [(h0, .inr (1, [.ref qt, .int (nI n), .ref qr, .int nx, .int wh, .int (jbi pw), .int (jbi ct)])), (qt, .inl (cb, 100, .inl tp)), (qr, .inr (0, [.ref qd, .ref ql, .ref qn, .int (nI old), .int (nI us), .int (nI pr)])), (qd, .inl (cb, 480, .inl dk)), (ql, .inl (ci, 40, .inl L)), (qn, .inl (ci, 40, .inl N))] := hD
      have hw : r25 = (je8 (fun b => if cc + b < z j then y j (cc + b) else 0) 8) := hw
      subst hw
      exact j_lret (v := (je8 (fun b => if cc + b < z j then y j (cc + b) else 0) 8)) (()) hx hb hr hlk hK hP hD hS (Or.inl ⟨j, hj, by rw [hkv, if_neg (nI_pos hc31), nI_clamp hc31]⟩) dX1_bytes_28
    · have hneg : kv < 0 := Int32.not_le.mp c_12_2
      refine lv_ldc2 (v := (-1)) hx hb hown (hts (.constantLong RX1 70 (-1)) (by decide +kernel)) dX1_bytes_15 ?_
      exact j_lret (v := (-1)) (()) hx hb hr hlk hK hP hD hS (Or.inl ⟨j, hj, (if_pos hneg).symm⟩) dX1_bytes_18
abbrev rm_D_count : Room := { frames := 1, cells := 0, slots := 0, locals := 20 }
set_option maxHeartbeats 4000000 in
set_option maxRecDepth 100000 in
/-- count -/
theorem c_D_count (l : Launch) (D : va_G) (cb ci cz : ClassId) (h0 qt : Nat) (tp : Nat → Int32) (qr qd ql qn : Nat) (dk L N : Nat → Int32) (old us pr : Nat) (n : Nat) (t : Nat → Int32) (k : Nat) (r : Nat → Bool) (z : Nat → Nat) (u : Nat → Int32) (y : Nat → Nat → Int32) (nx wh : Int32) (pw ct : Bool) (wv : Int32) (hn : n ≤ 100) (ht : ∀ j, j < n → tp j &&& 255 = t j) (hR : jR old us pr dk L N k r z u y) (sz : Nat) : Met l yX1_count wsX1_count rm_D_count (va_Pc [.ref h0, .int wv] (j_pre D (jT cb ci cz) [(h0, .inr (1, [.ref qt, .int (nI n), .ref qr, .int nx, .int wh, .int (jbi pw), .int (jbi ct)])), (qt, .inl (cb, 100, .inl tp)), (qr, .inr (0, [.ref qd, .ref ql, .ref qn, .int (nI old), .int (nI us), .int (nI pr)])), (qd, .inl (cb, 480, .inl dk)), (ql, .inl (ci, 40, .inl L)), (qn, .inl (ci, 40, .inl N))] sz)) (va_Qi (fun (x : Int32) (_ : Unit) => x = jop_ct ((n, t), (k, r, z, u, y), (nx, wh, pw, ct)) wv) (j_post D (jT cb ci cz) (fun _ => [(h0, .inr (1, [.ref qt, .int (nI n), .ref qr, .int nx, .int wh, .int (jbi pw), .int (jbi ct)])), (qt, .inl (cb, 100, .inl tp)), (qr, .inr (0, [.ref qd, .ref ql, .ref qn, .int (nI old), .int (nI us), .int (nI pr)])), (qd, .inl (cb, 480, .inl dk)), (ql, .inl (ci, 40, .inl L)), (qn, .inl (ci, 40, .inl N))]) (va_A [(h0, .inr (1, [.ref qt, .int (nI n), .ref qr, .int nx, .int wh, .int (jbi pw), .int (jbi ct)])), (qt, .inl (cb, 100, .inl tp)), (qr, .inr (0, [.ref qd, .ref ql, .ref qn, .int (nI old), .int (nI us), .int (nI pr)])), (qd, .inl (cb, 480, .inl dk)), (ql, .inl (ci, 40, .inl L)), (qn, .inl (ci, 40, .inl N))] sz)) (va_A [(h0, .inr (1, [.ref qt, .int (nI n), .ref qr, .int nx, .int wh, .int (jbi pw), .int (jbi ct)])), (qt, .inl (cb, 100, .inl tp)), (qr, .inr (0, [.ref qd, .ref ql, .ref qn, .int (nI old), .int (nI us), .int (nI pr)])), (qd, .inl (cb, 480, .inl dk)), (ql, .inl (ci, 40, .inl L)), (qn, .inl (ci, 40, .inl N))] sz)) 0 0 (va_A [(h0, .inr (1, [.ref qt, .int (nI n), .ref qr, .int nx, .int wh, .int (jbi pw), .int (jbi ct)])), (qt, .inl (cb, 100, .inl tp)), (qr, .inr (0, [.ref qd, .ref ql, .ref qn, .int (nI old), .int (nI us), .int (nI pr)])), (qd, .inl (cb, 480, .inl dk)), (ql, .inl (ci, 40, .inl L)), (qn, .inl (ci, 40, .inl N))] sz) := by
  refine j_in (Qc := fun A => (va_Qi (fun (x : Int32) (_ : Unit) => x = jop_ct ((n, t), (k, r, z, u, y), (nx, wh, pw, ct)) wv) (j_post D (jT cb ci cz) (fun _ => [(h0, .inr (1, [.ref qt, .int (nI n), .ref qr, .int nx, .int wh, .int (jbi pw), .int (jbi ct)])), (qt, .inl (cb, 100, .inl tp)), (qr, .inr (0, [.ref qd, .ref ql, .ref qn, .int (nI old), .int (nI us), .int (nI pr)])), (qd, .inl (cb, 480, .inl dk)), (ql, .inl (ci, 40, .inl L)), (qn, .inl (ci, 40, .inl N))]) A) A)) (cc := cX1_count) (maxL := 2) (ret := (some .int)) (by decide) rfl (Nat.le_of_ble_eq_true rfl) ?_
  intro p e s m av below meth c A ls H locs hx hb hr hml hts hown hlk hin hA hP hK hD hS hl
  have hown : s.vm.findClass RX1 = some m.cls := hown
  have hl : lv_has ls 2 [(0, .ref h0), (1, .int wv)] := hl
  refine lv_iload_n hx hb dX1_count_0 rfl (lv_at hl 1 rfl) ?_
  by_cases hsw0 : wv = 0
  · refine lv_tableIn (tgt := 36) hx hb dX1_count_1 (by rw [hsw0]; decide +kernel) (by rw [hsw0]; decide +kernel) (off := 35) (by rw [hsw0]; decide +kernel) (by decide) ?_
    refine lv_aload_n hx hb dX1_count_36 rfl (lv_at hl 0 rfl) ?_
    refine va_get (D := D) (ci := 1) (v := .int (nI n)) (C := RX1) (T := TX1) (N := 7) hx hb hts (by decide +kernel) hown hK hP 0 rfl rfl 1 (by decide) (hts (.fieldLink RX1 13 "JournalDesk" "taped" "I") (by decide +kernel)) (fun _ h9 => h9) rfl dX1_count_37 ?_
    exact j_iret (v := (nI n)) (()) hx hb hr hlk hK hP hD hS (by show _ = (if wv = 0 then _ else if wv = 1 then _ else if wv = 2 then _ else if wv = 3 then _ else if wv = 4 then _ else _); rw [if_pos hsw0]) dX1_count_40
  by_cases hsw1 : wv = 1
  · refine lv_tableIn (tgt := 41) hx hb dX1_count_1 (by rw [hsw1]; decide +kernel) (by rw [hsw1]; decide +kernel) (off := 40) (by rw [hsw1]; decide +kernel) (by decide) ?_
    refine lv_aload_n hx hb dX1_count_41 rfl (lv_at hl 0 rfl) ?_
    refine va_get (D := D) (ci := 1) (v := .int (jbi pw)) (C := RX1) (T := TX1) (N := 7) hx hb hts (by decide +kernel) hown hK hP 0 rfl rfl 5 (by decide) (hts (.fieldLink RX1 30 "JournalDesk" "power" "Z") (by decide +kernel)) (fun _ h9 => h9) rfl dX1_count_42 ?_
    refine lv_if_eq (tgt := 58) hx hb dX1_count_45 (by decide) (fun c_45_1 => ?_) (fun c_45_1 => ?_)
    · have hpw : pw = false := jbi_0.mp c_45_1
      refine lv_iconst (v := (nI 0)) hx hb dX1_count_58 (by decide +kernel) ?_
      exact j_iret (v := (nI 0)) (()) hx hb hr hlk hK hP hD hS (by show _ = (if wv = 0 then _ else if wv = 1 then _ else if wv = 2 then _ else if wv = 3 then _ else if wv = 4 then _ else _); rw [if_neg hsw0, if_pos hsw1, if_neg (by rw [hpw]; decide)]; rfl) dX1_count_59
    · have hpw : pw = true := jbi_n0.mp c_45_1
      refine lv_aload_n hx hb dX1_count_48 rfl (lv_at hl 0 rfl) ?_
      refine va_get (D := D) (ci := 1) (v := .ref qr) (C := RX1) (T := TX1) (N := 7) hx hb hts (by decide +kernel) hown hK hP 0 rfl rfl 2 (by decide) (hts (.fieldLink RX1 20 "JournalDesk" "ring" "LJournalDesk$Ring;") (by decide +kernel)) (fun _ h9 => h9) rfl dX1_count_49 ?_
      refine j_calli (wr := [(h0, .inr (1, [.ref qt, .int (nI n), .ref qr, .int nx, .int wh, .int (jbi pw), .int (jbi ct)])), (qt, .inl (cb, 100, .inl tp))]) hP hD hS hA [2, 3, 4, 5] [0, 1] rfl rfl (by decide) (by decide) (va_runV (As := []) (rest := []) ⟨hx, hb, hml, hown, hts⟩ (c_R_records l D cb ci cz qr qd ql qn dk L N old us pr H.size) (cwV 0 hts gX1_count_X0_records rfl rfl rfl (by decide +kernel) ⟨Nat.le_of_ble_eq_true rfl, Nat.le_of_ble_eq_true rfl⟩) (j_preV (ci := 0) (q0 := 0) [2, 3, 4, 5] [0, 1, 2] hK hP hD rfl rfl rfl rfl rfl rfl) rfl rfl hl.1 rfl (lv_room (Nat.le_of_ble_eq_true rfl)) dX1_count_52 ⟨Nat.le_of_ble_eq_true rfl, Nat.le_of_ble_eq_true rfl⟩) (fun r52 u9 H locs hw hP hD hS => ?_)
      have hP : va_P D vwCl [(h0, .inr (1, [.ref qt, .int (nI n), .ref qr, .int nx, .int wh, .int (jbi pw), .int (jbi ct)])), (qt, .inl (cb, 100, .inl tp)), (qr, .inr (0, [.ref qd, .ref ql, .ref qn, .int (nI old), .int (nI us), .int (nI pr)])), (qd, .inl (cb, 480, .inl dk)), (ql, .inl (ci, 40, .inl L)), (qn, .inl (ci, 40, .inl N))] H := hP
      have hD : va_D A [(h0, .inr (1, [.ref qt, .int (nI n), .ref qr, .int nx, .int wh, .int (jbi pw), .int (jbi ct)])), (qt, .inl (cb, 100, .inl tp)), (qr, .inr (0, [.ref qd, .ref ql, .ref qn, .int (nI old), .int (nI us), .int (nI pr)])), (qd, .inl (cb, 480, .inl dk)), (ql, .inl (ci, 40, .inl L)), (qn, .inl (ci, 40, .inl N))] := hD
      have hw : r52 = (nI pr) := hw
      subst hw
      refine lv_goto (tgt := 59) hx hb dX1_count_55 (by decide) ?_
      exact j_iret (v := (nI pr)) (()) hx hb hr hlk hK hP hD hS (by show _ = (if wv = 0 then _ else if wv = 1 then _ else if wv = 2 then _ else if wv = 3 then _ else if wv = 4 then _ else _); rw [if_neg hsw0, if_pos hsw1, if_pos hpw]; exact congrArg nI hR.2.2.2.1) dX1_count_59
  by_cases hsw2 : wv = 2
  · refine lv_tableIn (tgt := 60) hx hb dX1_count_1 (by rw [hsw2]; decide +kernel) (by rw [hsw2]; decide +kernel) (off := 59) (by rw [hsw2]; decide +kernel) (by decide) ?_
    refine lv_aload_n hx hb dX1_count_60 rfl (lv_at hl 0 rfl) ?_
    refine va_get (D := D) (ci := 1) (v := .int (jbi pw)) (C := RX1) (T := TX1) (N := 7) hx hb hts (by decide +kernel) hown hK hP 0 rfl rfl 5 (by decide) (hts (.fieldLink RX1 30 "JournalDesk" "power" "Z") (by decide +kernel)) (fun _ h9 => h9) rfl dX1_count_61 ?_
    refine lv_if_eq (tgt := 77) hx hb dX1_count_64 (by decide) (fun c_64_2 => ?_) (fun c_64_2 => ?_)
    · have hpw : pw = false := jbi_0.mp c_64_2
      refine lv_iconst (v := (nI 0)) hx hb dX1_count_77 (by decide +kernel) ?_
      exact j_iret (v := (nI 0)) (()) hx hb hr hlk hK hP hD hS (by show _ = (if wv = 0 then _ else if wv = 1 then _ else if wv = 2 then _ else if wv = 3 then _ else if wv = 4 then _ else _); rw [if_neg hsw0, if_neg hsw1, if_pos hsw2, if_neg (by rw [hpw]; decide)]; rfl) dX1_count_78
    · have hpw : pw = true := jbi_n0.mp c_64_2
      refine lv_aload_n hx hb dX1_count_67 rfl (lv_at hl 0 rfl) ?_
      refine va_get (D := D) (ci := 1) (v := .ref qr) (C := RX1) (T := TX1) (N := 7) hx hb hts (by decide +kernel) hown hK hP 0 rfl rfl 2 (by decide) (hts (.fieldLink RX1 20 "JournalDesk" "ring" "LJournalDesk$Ring;") (by decide +kernel)) (fun _ h9 => h9) rfl dX1_count_68 ?_
      refine j_calli (wr := [(h0, .inr (1, [.ref qt, .int (nI n), .ref qr, .int nx, .int wh, .int (jbi pw), .int (jbi ct)])), (qt, .inl (cb, 100, .inl tp))]) hP hD hS hA [2, 3, 4, 5] [0, 1] rfl rfl (by decide) (by decide) (va_runV (As := []) (rest := []) ⟨hx, hb, hml, hown, hts⟩ (c_R_sectors l D cb ci cz qr qd ql qn dk L N old us pr H.size) (cwV 0 hts gX1_count_X0_sectors rfl rfl rfl (by decide +kernel) ⟨Nat.le_of_ble_eq_true rfl, Nat.le_of_ble_eq_true rfl⟩) (j_preV (ci := 0) (q0 := 0) [2, 3, 4, 5] [0, 1, 2] hK hP hD rfl rfl rfl rfl rfl rfl) rfl rfl hl.1 rfl (lv_room (Nat.le_of_ble_eq_true rfl)) dX1_count_71 ⟨Nat.le_of_ble_eq_true rfl, Nat.le_of_ble_eq_true rfl⟩) (fun r71 u9 H locs hw hP hD hS => ?_)
      have hP : va_P D vwCl [(h0, .inr (1, [.ref qt, .int (nI n), .ref qr, .int nx, .int wh, .int (jbi pw), .int (jbi ct)])), (qt, .inl (cb, 100, .inl tp)), (qr, .inr (0, [.ref qd, .ref ql, .ref qn, .int (nI old), .int (nI us), .int (nI pr)])), (qd, .inl (cb, 480, .inl dk)), (ql, .inl (ci, 40, .inl L)), (qn, .inl (ci, 40, .inl N))] H := hP
      have hD : va_D A [(h0, .inr (1, [.ref qt, .int (nI n), .ref qr, .int nx, .int wh, .int (jbi pw), .int (jbi ct)])), (qt, .inl (cb, 100, .inl tp)), (qr, .inr (0, [.ref qd, .ref ql, .ref qn, .int (nI old), .int (nI us), .int (nI pr)])), (qd, .inl (cb, 480, .inl dk)), (ql, .inl (ci, 40, .inl L)), (qn, .inl (ci, 40, .inl N))] := hD
      have hw : r71 = (nI us) := hw
      subst hw
      refine lv_goto (tgt := 78) hx hb dX1_count_74 (by decide) ?_
      exact j_iret (v := (nI us)) (()) hx hb hr hlk hK hP hD hS (by show _ = (if wv = 0 then _ else if wv = 1 then _ else if wv = 2 then _ else if wv = 3 then _ else if wv = 4 then _ else _); rw [if_neg hsw0, if_neg hsw1, if_pos hsw2, if_pos hpw]; exact congrArg nI hR.2.1) dX1_count_78
  by_cases hsw3 : wv = 3
  · refine lv_tableIn (tgt := 79) hx hb dX1_count_1 (by rw [hsw3]; decide +kernel) (by rw [hsw3]; decide +kernel) (off := 78) (by rw [hsw3]; decide +kernel) (by decide) ?_
    refine lv_aload_n hx hb dX1_count_79 rfl (lv_at hl 0 rfl) ?_
    refine va_get (D := D) (ci := 1) (v := .int wh) (C := RX1) (T := TX1) (N := 7) hx hb hts (by decide +kernel) hown hK hP 0 rfl rfl 4 (by decide) (hts (.fieldLink RX1 27 "JournalDesk" "wholeEntries" "I") (by decide +kernel)) (fun _ h9 => h9) rfl dX1_count_80 ?_
    exact j_iret (v := wh) (()) hx hb hr hlk hK hP hD hS (by show _ = (if wv = 0 then _ else if wv = 1 then _ else if wv = 2 then _ else if wv = 3 then _ else if wv = 4 then _ else _); rw [if_neg hsw0, if_neg hsw1, if_neg hsw2, if_pos hsw3]) dX1_count_83
  by_cases hsw4 : wv = 4
  · refine lv_tableIn (tgt := 84) hx hb dX1_count_1 (by rw [hsw4]; decide +kernel) (by rw [hsw4]; decide +kernel) (off := 83) (by rw [hsw4]; decide +kernel) (by decide) ?_
    refine lv_aload_n hx hb dX1_count_84 rfl (lv_at hl 0 rfl) ?_
    refine va_get (D := D) (ci := 1) (v := .int (jbi pw)) (C := RX1) (T := TX1) (N := 7) hx hb hts (by decide +kernel) hown hK hP 0 rfl rfl 5 (by decide) (hts (.fieldLink RX1 30 "JournalDesk" "power" "Z") (by decide +kernel)) (fun _ h9 => h9) rfl dX1_count_85 ?_
    refine lv_if_eq (tgt := 95) hx hb dX1_count_88 (by decide) (fun c_88_3 => ?_) (fun c_88_3 => ?_)
    · have hpw : pw = false := jbi_0.mp c_88_3
      refine lv_iconst (v := (nI 0)) hx hb dX1_count_95 (by decide +kernel) ?_
      exact j_iret (v := (nI 0)) (()) hx hb hr hlk hK hP hD hS (by show _ = (if wv = 0 then _ else if wv = 1 then _ else if wv = 2 then _ else if wv = 3 then _ else if wv = 4 then _ else _); rw [if_neg hsw0, if_neg hsw1, if_neg hsw2, if_neg hsw3, if_pos hsw4, hpw]; rfl) dX1_count_96
    · have hpw : pw = true := jbi_n0.mp c_88_3
      refine lv_iconst (v := (nI 1)) hx hb dX1_count_91 (by decide +kernel) ?_
      refine lv_goto (tgt := 96) hx hb dX1_count_92 (by decide) ?_
      exact j_iret (v := (nI 1)) (()) hx hb hr hlk hK hP hD hS (by show _ = (if wv = 0 then _ else if wv = 1 then _ else if wv = 2 then _ else if wv = 3 then _ else if wv = 4 then _ else _); rw [if_neg hsw0, if_neg hsw1, if_neg hsw2, if_neg hsw3, if_pos hsw4, hpw]; rfl) dX1_count_96
  refine lv_tableOut (tgt := 97) hx hb dX1_count_1 (by have a0 := lv_neT (k := 0) (a := 0) hsw0 (by decide +kernel); have a1 := lv_neT (k := 1) (a := 1) hsw1 (by decide +kernel); have a2 := lv_neT (k := 2) (a := 2) hsw2 (by decide +kernel); have a3 := lv_neT (k := 3) (a := 3) hsw3 (by decide +kernel); have a4 := lv_neT (k := 4) (a := 4) hsw4 (by decide +kernel); omega) (by decide) ?_
  refine lv_iconst (v := (-1)) hx hb dX1_count_97 (by decide +kernel) ?_
  exact j_iret (v := (-1)) (()) hx hb hr hlk hK hP hD hS (by show _ = (if wv = 0 then _ else if wv = 1 then _ else if wv = 2 then _ else if wv = 3 then _ else if wv = 4 then _ else _); rw [if_neg hsw0, if_neg hsw1, if_neg hsw2, if_neg hsw3, if_neg hsw4]) dX1_count_98
end
section
abbrev rm_M_sectorsOf : Room := { frames := 0, cells := 0, slots := 0, locals := 0 }
set_option maxHeartbeats 4000000 in
set_option maxRecDepth 100000 in
/-- the sectors of a bytes, in the reference -/
theorem c_M_sectorsOf (l : Launch) (D : va_G) (cb ci cz : ClassId) (a : Nat) (ha : a ≤ 100) (sz : Nat) : Met l yX2_sectorsOf wsX2_sectorsOf rm_M_sectorsOf (va_Pc [.int (nI a)] (j_pre D (jT cb ci cz) [] sz)) (va_Qi (fun (x : Int32) (_ : Unit) => x = nI (jsc a)) (j_post D (jT cb ci cz) (fun _ => []) (va_A [] sz)) (va_A [] sz)) 0 0 (va_A [] sz) := by
  refine j_in (Qc := fun A => (va_Qi (fun (x : Int32) (_ : Unit) => x = nI (jsc a)) (j_post D (jT cb ci cz) (fun _ => []) A) A)) (cc := cX2_sectorsOf) (maxL := 1) (ret := (some .int)) (by decide) rfl (Nat.le_of_ble_eq_true rfl) ?_
  intro p e s m av below meth c A ls H locs hx hb hr hml hts hown hlk hin hA hP hK hD hS hl
  have hown : s.vm.findClass RX2 = some m.cls := hown
  have hl : lv_has ls 1 [(0, .int (nI a))] := hl
  refine lv_iload_n hx hb dX2_sectorsOf_0 rfl (lv_at hl 0 rfl) ?_
  refine lv_bipush (v := (nI 12)) hx hb dX2_sectorsOf_1 (by decide +kernel) ?_
  refine lv_icmp_gt (tgt := 10) hx hb dX2_sectorsOf_3 (by decide) (fun c_3_1 => ?_) (fun c_3_1 => ?_)
  · rw [nI_ltI (show 12 < 2 ^ 31 by omega) (show a < 2 ^ 31 by omega)] at c_3_1
    refine lv_iconst (v := (nI 1)) hx hb dX2_sectorsOf_10 (by decide +kernel) ?_
    refine lv_iload_n hx hb dX2_sectorsOf_11 rfl (lv_at hl 0 rfl) ?_
    refine lv_bipush (v := (nI 12)) hx hb dX2_sectorsOf_12 (by decide +kernel) ?_
    refine lv_isub hx hb dX2_sectorsOf_14 ?_
    refine jt_i (y := (nI (a - 12))) (pk_sub (by omega)) ?_
    refine lv_bipush (v := (nI 11)) hx hb dX2_sectorsOf_15 (by decide +kernel) ?_
    refine lv_iadd hx hb dX2_sectorsOf_17 ?_
    refine jt_i (y := (nI ((a - 12) + 11))) (nI_add _ _) ?_
    refine lv_bipush (v := (nI 12)) hx hb dX2_sectorsOf_18 (by decide +kernel) ?_
    refine lv_idiv hx hb dX2_sectorsOf_20 (nI_ne0 (by omega) (by omega)) ?_
    refine jt_i (y := (nI (((a - 12) + 11) / 12))) (pk_div (by omega) (by omega) (by omega)) ?_
    refine lv_iadd hx hb dX2_sectorsOf_21 ?_
    refine jt_i (y := (nI (1 + (((a - 12) + 11) / 12)))) (nI_add _ _) ?_
    exact j_iret (v := (nI (1 + (((a - 12) + 11) / 12)))) (()) hx hb hr hlk hK hP hD hS (congrArg nI (by unfold jsc; split <;> omega)) dX2_sectorsOf_22
  · rw [nI_ltI (show 12 < 2 ^ 31 by omega) (show a < 2 ^ 31 by omega)] at c_3_1
    refine lv_iconst (v := (nI 1)) hx hb dX2_sectorsOf_6 (by decide +kernel) ?_
    refine lv_goto (tgt := 22) hx hb dX2_sectorsOf_7 (by decide) ?_
    exact j_iret (v := (nI 1)) (()) hx hb hr hlk hK hP hD hS (congrArg nI (by unfold jsc; split <;> omega)) dX2_sectorsOf_22
abbrev rm_M_used : Room := { frames := 1, cells := 0, slots := 0, locals := 20 }
set_option maxHeartbeats 4000000 in
set_option maxRecDepth 100000 in
/-- the sectors of all entries -/
theorem c_M_used (l : Launch) (D : va_G) (cb ci cz : ClassId) (g0 mt mb mz mn my : Nat) (tp fB fZ fN fY : Nat → Int32) (n k : Nat) (nx wh off cu : Int32) (r : Nat → Bool) (z : Nat → Nat) (hB : ∀ j, j < k → fB j = jbi (r j)) (hk : k ≤ 41) (hZ : ∀ j, j < k → fZ j = nI (z j)) (hz : ∀ j, j < k → z j ≤ 100) (sz : Nat) : Met l yX2_used wsX2_used rm_M_used (va_Pc [.ref g0] (j_pre D (jT cb ci cz) [(g0, .inr (2, [.ref mt, .int (nI n), .int (nI k), .ref mb, .ref mz, .ref mn, .ref my, .int nx, .int wh, .int off, .int cu])), (mt, .inl (ci, 100, .inl tp)), (mb, .inl (cz, 41, .inl fB)), (mz, .inl (ci, 41, .inl fZ)), (mn, .inl (ci, 41, .inl fN)), (my, .inl (ci, 4100, .inl fY))] sz)) (va_Qi (fun (x : Int32) (_ : Unit) => x = nI (js (jse r z) k)) (j_post D (jT cb ci cz) (fun _ => [(g0, .inr (2, [.ref mt, .int (nI n), .int (nI k), .ref mb, .ref mz, .ref mn, .ref my, .int nx, .int wh, .int off, .int cu])), (mt, .inl (ci, 100, .inl tp)), (mb, .inl (cz, 41, .inl fB)), (mz, .inl (ci, 41, .inl fZ)), (mn, .inl (ci, 41, .inl fN)), (my, .inl (ci, 4100, .inl fY))]) (va_A [(g0, .inr (2, [.ref mt, .int (nI n), .int (nI k), .ref mb, .ref mz, .ref mn, .ref my, .int nx, .int wh, .int off, .int cu])), (mt, .inl (ci, 100, .inl tp)), (mb, .inl (cz, 41, .inl fB)), (mz, .inl (ci, 41, .inl fZ)), (mn, .inl (ci, 41, .inl fN)), (my, .inl (ci, 4100, .inl fY))] sz)) (va_A [(g0, .inr (2, [.ref mt, .int (nI n), .int (nI k), .ref mb, .ref mz, .ref mn, .ref my, .int nx, .int wh, .int off, .int cu])), (mt, .inl (ci, 100, .inl tp)), (mb, .inl (cz, 41, .inl fB)), (mz, .inl (ci, 41, .inl fZ)), (mn, .inl (ci, 41, .inl fN)), (my, .inl (ci, 4100, .inl fY))] sz)) 0 0 (va_A [(g0, .inr (2, [.ref mt, .int (nI n), .int (nI k), .ref mb, .ref mz, .ref mn, .ref my, .int nx, .int wh, .int off, .int cu])), (mt, .inl (ci, 100, .inl tp)), (mb, .inl (cz, 41, .inl fB)), (mz, .inl (ci, 41, .inl fZ)), (mn, .inl (ci, 41, .inl fN)), (my, .inl (ci, 4100, .inl fY))] sz) := by
  refine j_in (Qc := fun A => (va_Qi (fun (x : Int32) (_ : Unit) => x = nI (js (jse r z) k)) (j_post D (jT cb ci cz) (fun _ => [(g0, .inr (2, [.ref mt, .int (nI n), .int (nI k), .ref mb, .ref mz, .ref mn, .ref my, .int nx, .int wh, .int off, .int cu])), (mt, .inl (ci, 100, .inl tp)), (mb, .inl (cz, 41, .inl fB)), (mz, .inl (ci, 41, .inl fZ)), (mn, .inl (ci, 41, .inl fN)), (my, .inl (ci, 4100, .inl fY))]) A) A)) (cc := cX2_used) (maxL := 3) (ret := (some .int)) (by decide) rfl (Nat.le_of_ble_eq_true rfl) ?_
  intro p e s m av below meth c A ls H locs hx hb hr hml hts hown hlk hin hA hP hK hD hS hl
  have hown : s.vm.findClass RX2 = some m.cls := hown
  have hl : lv_has ls 3 [(0, .ref g0)] := hl
  refine lv_iconst (v := (nI 0)) hx hb dX2_used_0 (by decide +kernel) ?_
  refine lv_istore_n (lv' := [(1, .int (nI 0)), (0, .ref g0)]) hx hb dX2_used_1 rfl hl (by decide) rfl (fun ls hl => ?_)
  refine lv_iconst (v := (nI 0)) hx hb dX2_used_2 (by decide +kernel) ?_
  refine lv_istore_n (lv' := [(2, .int (nI 0)), (1, .int (nI 0)), (0, .ref g0)]) hx hb dX2_used_3 rfl hl (by decide) rfl (fun ls hl => ?_)
  have LOOP4 : ∀ (fuel : Nat) (i : Nat) (hf : k < i + fuel) (hik : i ≤ k) (H : Heap) (locs : List Loc), va_P D vwCl [(g0, .inr (2, [.ref mt, .int (nI n), .int (nI k), .ref mb, .ref mz, .ref mn, .ref my, .int nx, .int wh, .int off, .int cu])), (mt, .inl (ci, 100, .inl tp)), (mb, .inl (cz, 41, .inl fB)), (mz, .inl (ci, 41, .inl fZ)), (mn, .inl (ci, 41, .inl fN)), (my, .inl (ci, 4100, .inl fY))] H → va_D A [(g0, .inr (2, [.ref mt, .int (nI n), .int (nI k), .ref mb, .ref mz, .ref mn, .ref my, .int nx, .int wh, .int off, .int cu])), (mt, .inl (ci, 100, .inl tp)), (mb, .inl (cz, 41, .inl fB)), (mz, .inl (ci, 41, .inl fZ)), (mn, .inl (ci, 41, .inl fN)), (my, .inl (ci, 4100, .inl fY))] → va_S A s.heap H locs → ∀ ls : Array Slot, lv_has ls 3 [(0, .ref g0), (1, .int (nI (js (jse r z) i))), (2, .int (nI i))] → W p l e rm_M_used s m av below meth c H locs 0 0 (MQ below (va_Qi (fun (x : Int32) (_ : Unit) => x = nI (js (jse r z) k)) (j_post D (jT cb ci cz) (fun _ => [(g0, .inr (2, [.ref mt, .int (nI n), .int (nI k), .ref mb, .ref mz, .ref mn, .ref my, .int nx, .int wh, .int off, .int cu])), (mt, .inl (ci, 100, .inl tp)), (mb, .inl (cz, 41, .inl fB)), (mz, .inl (ci, 41, .inl fZ)), (mn, .inl (ci, 41, .inl fN)), (my, .inl (ci, 4100, .inl fY))]) A) A) av s 0 0 A) (F0 m 4 ls []) := by
    clear hP hD hS hl
    intro fuel
    induction fuel with
    | zero => intro i hf hik; exfalso; omega
    | succ fuel ih4 =>
      intro i hf hik H locs hP hD hS ls hl
      refine lv_iload_n hx hb dX2_used_4 rfl (lv_at hl 2 rfl) ?_
      refine lv_aload_n hx hb dX2_used_5 rfl (lv_at hl 0 rfl) ?_
      refine va_get (D := D) (ci := 2) (v := .int (nI k)) (C := RX2) (T := TX2) (N := 11) hx hb hts (by decide +kernel) hown hK hP 0 rfl rfl 2 (by decide) (hts (.fieldLink RX2 33 "JournalDeskModel" "kept" "I") (by decide +kernel)) (fun _ h9 => h9) rfl dX2_used_6 ?_
      refine lv_icmp_ge (tgt := 43) hx hb dX2_used_9 (by decide) (fun c_9_1 => ?_) (fun c_9_1 => ?_)
      · rw [nI_leI (show k < 2 ^ 31 by omega) (show i < 2 ^ 31 by omega)] at c_9_1
        refine lv_iload_n hx hb dX2_used_43 rfl (lv_at hl 1 rfl) ?_
        have hik2 : i = k := by omega
        exact j_iret (v := (nI (js (jse r z) i))) (()) hx hb hr hlk hK hP hD hS (by rw [hik2]) dX2_used_44
      · rw [nI_leI (show k < 2 ^ 31 by omega) (show i < 2 ^ 31 by omega)] at c_9_1
        refine lv_iload_n hx hb dX2_used_12 rfl (lv_at hl 1 rfl) ?_
        refine lv_aload_n hx hb dX2_used_13 rfl (lv_at hl 0 rfl) ?_
        refine va_get (D := D) (ci := 2) (v := .ref mb) (C := RX2) (T := TX2) (N := 11) hx hb hts (by decide +kernel) hown hK hP 0 rfl rfl 3 (by decide) (hts (.fieldLink RX2 13 "JournalDeskModel" "isRecord" "[Z") (by decide +kernel)) (fun _ h9 => h9) rfl dX2_used_14 ?_
        refine lv_iload_n hx hb dX2_used_17 rfl (lv_at hl 2 rfl) ?_
        refine j_zald hx hb hK hP 2 2 rfl rfl (i := i) (by omega) (by decide) (v := (jbi (r i))) (hB i (by omega)) dX2_used_18 ?_
        refine lv_if_eq (tgt := 34) hx hb dX2_used_19 (by decide) (fun c_19_2 => ?_) (fun c_19_2 => ?_)
        · have hb1 : r i = false := jbi_0.mp c_19_2
          refine lv_iconst (v := (nI 1)) hx hb dX2_used_34 (by decide +kernel) ?_
          refine lv_iadd hx hb dX2_used_35 ?_
          refine jt_i (y := (nI (js (jse r z) (i + 1)))) (by rw [js_step, jse_f hb1]; exact nI_add _ _) ?_
          refine lv_istore_n (lv' := [(1, .int (nI (js (jse r z) (i + 1)))), (0, .ref g0), (2, .int (nI i))]) hx hb dX2_used_36 rfl hl (by decide) rfl (fun ls hl => ?_)
          refine lv_iinc (v := (nI (i + 1))) (lv' := [(2, .int (nI (i + 1))), (1, .int (nI (js (jse r z) (i + 1)))), (0, .ref g0)]) hx hb dX2_used_37 hl (k := 2) rfl (nI_1 _) (by decide) rfl (fun ls hl => ?_)
          refine lv_goto (tgt := 4) hx hb dX2_used_40 (by decide) ?_
          exact ih4 (i + 1) (by omega) (by omega) _ _ hP hD hS ls (lv_sub hl [2, 1, 0] rfl)
        · have hb1 : r i = true := jbi_n0.mp c_19_2
          refine lv_aload_n hx hb dX2_used_22 rfl (lv_at hl 0 rfl) ?_
          refine va_get (D := D) (ci := 2) (v := .ref mz) (C := RX2) (T := TX2) (N := 11) hx hb hts (by decide +kernel) hown hK hP 0 rfl rfl 4 (by decide) (hts (.fieldLink RX2 17 "JournalDeskModel" "sizes" "[I") (by decide +kernel)) (fun _ h9 => h9) rfl dX2_used_23 ?_
          refine lv_iload_n hx hb dX2_used_26 rfl (lv_at hl 2 rfl) ?_
          refine j_iald hx hb hK hP 3 1 rfl rfl (i := i) (by omega) (by decide) (v := (nI (z i))) (hZ i (by omega)) dX2_used_27 ?_
          refine j_calli (wr := [(g0, .inr (2, [.ref mt, .int (nI n), .int (nI k), .ref mb, .ref mz, .ref mn, .ref my, .int nx, .int wh, .int off, .int cu])), (mt, .inl (ci, 100, .inl tp)), (mb, .inl (cz, 41, .inl fB)), (mz, .inl (ci, 41, .inl fZ)), (mn, .inl (ci, 41, .inl fN)), (my, .inl (ci, 4100, .inl fY))]) hP hD hS hA [] [0, 1, 2, 3, 4, 5] rfl rfl (by decide) (by decide) (va_runS (As := [.int (nI (z i))]) (rest := [.int (nI (js (jse r z) i))]) ⟨hx, hb, hml, hown, hts⟩ (c_M_sectorsOf l D cb ci cz (z i) (hz i (by omega)) H.size) (va_cwS 1 hts gX2_used_X2_sectorsOf rfl rfl rfl (by decide +kernel) ⟨Nat.le_of_ble_eq_true rfl, Nat.le_of_ble_eq_true rfl⟩) (j_preS [] [0, 1, 2] hK hP hD rfl rfl rfl rfl) rfl rfl hl.1 rfl (lv_room (Nat.le_of_ble_eq_true rfl)) dX2_used_28 ⟨Nat.le_of_ble_eq_true rfl, Nat.le_of_ble_eq_true rfl⟩) (fun r28 u9 H locs hw hP hD hS => ?_)
          have hP : va_P D vwCl [(g0, .inr (2, [.ref mt, .int (nI n), .int (nI k), .ref mb, .ref mz, .ref mn, .ref my, .int nx, .int wh, .int off, .int cu])), (mt, .inl (ci, 100, .inl tp)), (mb, .inl (cz, 41, .inl fB)), (mz, .inl (ci, 41, .inl fZ)), (mn, .inl (ci, 41, .inl fN)), (my, .inl (ci, 4100, .inl fY))] H := hP
          have hD : va_D A [(g0, .inr (2, [.ref mt, .int (nI n), .int (nI k), .ref mb, .ref mz, .ref mn, .ref my, .int nx, .int wh, .int off, .int cu])), (mt, .inl (ci, 100, .inl tp)), (mb, .inl (cz, 41, .inl fB)), (mz, .inl (ci, 41, .inl fZ)), (mn, .inl (ci, 41, .inl fN)), (my, .inl (ci, 4100, .inl fY))] := hD
          have hw : r28 = (nI (jsc (z i))) := hw
          subst hw
          refine lv_goto (tgt := 35) hx hb dX2_used_31 (by decide) ?_
          refine lv_iadd hx hb dX2_used_35 ?_
          refine jt_i (y := (nI (js (jse r z) (i + 1)))) (by rw [js_step, jse_t hb1]; exact nI_add _ _) ?_
          refine lv_istore_n (lv' := [(1, .int (nI (js (jse r z) (i + 1)))), (0, .ref g0), (2, .int (nI i))]) hx hb dX2_used_36 rfl hl (by decide) rfl (fun ls hl => ?_)
          refine lv_iinc (v := (nI (i + 1))) (lv' := [(2, .int (nI (i + 1))), (1, .int (nI (js (jse r z) (i + 1)))), (0, .ref g0)]) hx hb dX2_used_37 hl (k := 2) rfl (nI_1 _) (by decide) rfl (fun ls hl => ?_)
          refine lv_goto (tgt := 4) hx hb dX2_used_40 (by decide) ?_
          exact ih4 (i + 1) (by omega) (by omega) _ _ hP hD hS ls (lv_sub hl [2, 1, 0] rfl)
  exact LOOP4 (k + 1) 0 (by omega) (by omega) _ _ hP hD hS ls (lv_sub hl [2, 1, 0] rfl)
abbrev rm_M_records : Room := { frames := 0, cells := 0, slots := 0, locals := 0 }
set_option maxHeartbeats 4000000 in
set_option maxRecDepth 100000 in
/-- the records among all entries -/
theorem c_M_records (l : Launch) (D : va_G) (cb ci cz : ClassId) (g0 mt mb mz mn my : Nat) (tp fB fZ fN fY : Nat → Int32) (n k : Nat) (nx wh off cu : Int32) (r : Nat → Bool) (hB : ∀ j, j < k → fB j = jbi (r j)) (hk : k ≤ 41) (sz : Nat) : Met l yX2_records wsX2_records rm_M_records (va_Pc [.ref g0] (j_pre D (jT cb ci cz) [(g0, .inr (2, [.ref mt, .int (nI n), .int (nI k), .ref mb, .ref mz, .ref mn, .ref my, .int nx, .int wh, .int off, .int cu])), (mt, .inl (ci, 100, .inl tp)), (mb, .inl (cz, 41, .inl fB)), (mz, .inl (ci, 41, .inl fZ)), (mn, .inl (ci, 41, .inl fN)), (my, .inl (ci, 4100, .inl fY))] sz)) (va_Qi (fun (x : Int32) (_ : Unit) => x = nI (js (jcn r) k)) (j_post D (jT cb ci cz) (fun _ => [(g0, .inr (2, [.ref mt, .int (nI n), .int (nI k), .ref mb, .ref mz, .ref mn, .ref my, .int nx, .int wh, .int off, .int cu])), (mt, .inl (ci, 100, .inl tp)), (mb, .inl (cz, 41, .inl fB)), (mz, .inl (ci, 41, .inl fZ)), (mn, .inl (ci, 41, .inl fN)), (my, .inl (ci, 4100, .inl fY))]) (va_A [(g0, .inr (2, [.ref mt, .int (nI n), .int (nI k), .ref mb, .ref mz, .ref mn, .ref my, .int nx, .int wh, .int off, .int cu])), (mt, .inl (ci, 100, .inl tp)), (mb, .inl (cz, 41, .inl fB)), (mz, .inl (ci, 41, .inl fZ)), (mn, .inl (ci, 41, .inl fN)), (my, .inl (ci, 4100, .inl fY))] sz)) (va_A [(g0, .inr (2, [.ref mt, .int (nI n), .int (nI k), .ref mb, .ref mz, .ref mn, .ref my, .int nx, .int wh, .int off, .int cu])), (mt, .inl (ci, 100, .inl tp)), (mb, .inl (cz, 41, .inl fB)), (mz, .inl (ci, 41, .inl fZ)), (mn, .inl (ci, 41, .inl fN)), (my, .inl (ci, 4100, .inl fY))] sz)) 0 0 (va_A [(g0, .inr (2, [.ref mt, .int (nI n), .int (nI k), .ref mb, .ref mz, .ref mn, .ref my, .int nx, .int wh, .int off, .int cu])), (mt, .inl (ci, 100, .inl tp)), (mb, .inl (cz, 41, .inl fB)), (mz, .inl (ci, 41, .inl fZ)), (mn, .inl (ci, 41, .inl fN)), (my, .inl (ci, 4100, .inl fY))] sz) := by
  refine j_in (Qc := fun A => (va_Qi (fun (x : Int32) (_ : Unit) => x = nI (js (jcn r) k)) (j_post D (jT cb ci cz) (fun _ => [(g0, .inr (2, [.ref mt, .int (nI n), .int (nI k), .ref mb, .ref mz, .ref mn, .ref my, .int nx, .int wh, .int off, .int cu])), (mt, .inl (ci, 100, .inl tp)), (mb, .inl (cz, 41, .inl fB)), (mz, .inl (ci, 41, .inl fZ)), (mn, .inl (ci, 41, .inl fN)), (my, .inl (ci, 4100, .inl fY))]) A) A)) (cc := cX2_records) (maxL := 3) (ret := (some .int)) (by decide) rfl (Nat.le_of_ble_eq_true rfl) ?_
  intro p e s m av below meth c A ls H locs hx hb hr hml hts hown hlk hin hA hP hK hD hS hl
  have hown : s.vm.findClass RX2 = some m.cls := hown
  have hl : lv_has ls 3 [(0, .ref g0)] := hl
  refine lv_iconst (v := (nI 0)) hx hb dX2_records_0 (by decide +kernel) ?_
  refine lv_istore_n (lv' := [(1, .int (nI 0)), (0, .ref g0)]) hx hb dX2_records_1 rfl hl (by decide) rfl (fun ls hl => ?_)
  refine lv_iconst (v := (nI 0)) hx hb dX2_records_2 (by decide +kernel) ?_
  refine lv_istore_n (lv' := [(2, .int (nI 0)), (1, .int (nI 0)), (0, .ref g0)]) hx hb dX2_records_3 rfl hl (by decide) rfl (fun ls hl => ?_)
  have LOOP4 : ∀ (fuel : Nat) (i : Nat) (hf : k < i + fuel) (hik : i ≤ k) (H : Heap) (locs : List Loc), va_P D vwCl [(g0, .inr (2, [.ref mt, .int (nI n), .int (nI k), .ref mb, .ref mz, .ref mn, .ref my, .int nx, .int wh, .int off, .int cu])), (mt, .inl (ci, 100, .inl tp)), (mb, .inl (cz, 41, .inl fB)), (mz, .inl (ci, 41, .inl fZ)), (mn, .inl (ci, 41, .inl fN)), (my, .inl (ci, 4100, .inl fY))] H → va_D A [(g0, .inr (2, [.ref mt, .int (nI n), .int (nI k), .ref mb, .ref mz, .ref mn, .ref my, .int nx, .int wh, .int off, .int cu])), (mt, .inl (ci, 100, .inl tp)), (mb, .inl (cz, 41, .inl fB)), (mz, .inl (ci, 41, .inl fZ)), (mn, .inl (ci, 41, .inl fN)), (my, .inl (ci, 4100, .inl fY))] → va_S A s.heap H locs → ∀ ls : Array Slot, lv_has ls 3 [(0, .ref g0), (1, .int (nI (js (jcn r) i))), (2, .int (nI i))] → W p l e rm_M_records s m av below meth c H locs 0 0 (MQ below (va_Qi (fun (x : Int32) (_ : Unit) => x = nI (js (jcn r) k)) (j_post D (jT cb ci cz) (fun _ => [(g0, .inr (2, [.ref mt, .int (nI n), .int (nI k), .ref mb, .ref mz, .ref mn, .ref my, .int nx, .int wh, .int off, .int cu])), (mt, .inl (ci, 100, .inl tp)), (mb, .inl (cz, 41, .inl fB)), (mz, .inl (ci, 41, .inl fZ)), (mn, .inl (ci, 41, .inl fN)), (my, .inl (ci, 4100, .inl fY))]) A) A) av s 0 0 A) (F0 m 4 ls []) := by
    clear hP hD hS hl
    intro fuel
    induction fuel with
    | zero => intro i hf hik; exfalso; omega
    | succ fuel ih4 =>
      intro i hf hik H locs hP hD hS ls hl
      refine lv_iload_n hx hb dX2_records_4 rfl (lv_at hl 2 rfl) ?_
      refine lv_aload_n hx hb dX2_records_5 rfl (lv_at hl 0 rfl) ?_
      refine va_get (D := D) (ci := 2) (v := .int (nI k)) (C := RX2) (T := TX2) (N := 11) hx hb hts (by decide +kernel) hown hK hP 0 rfl rfl 2 (by decide) (hts (.fieldLink RX2 33 "JournalDeskModel" "kept" "I") (by decide +kernel)) (fun _ h9 => h9) rfl dX2_records_6 ?_
      refine lv_icmp_ge (tgt := 35) hx hb dX2_records_9 (by decide) (fun c_9_1 => ?_) (fun c_9_1 => ?_)
      · rw [nI_leI (show k < 2 ^ 31 by omega) (show i < 2 ^ 31 by omega)] at c_9_1
        refine lv_iload_n hx hb dX2_records_35 rfl (lv_at hl 1 rfl) ?_
        have hik2 : i = k := by omega
        exact j_iret (v := (nI (js (jcn r) i))) (()) hx hb hr hlk hK hP hD hS (by rw [hik2]) dX2_records_36
      · rw [nI_leI (show k < 2 ^ 31 by omega) (show i < 2 ^ 31 by omega)] at c_9_1
        refine lv_aload_n hx hb dX2_records_12 rfl (lv_at hl 0 rfl) ?_
        refine va_get (D := D) (ci := 2) (v := .ref mb) (C := RX2) (T := TX2) (N := 11) hx hb hts (by decide +kernel) hown hK hP 0 rfl rfl 3 (by decide) (hts (.fieldLink RX2 13 "JournalDeskModel" "isRecord" "[Z") (by decide +kernel)) (fun _ h9 => h9) rfl dX2_records_13 ?_
        refine lv_iload_n hx hb dX2_records_16 rfl (lv_at hl 2 rfl) ?_
        refine j_zald hx hb hK hP 2 2 rfl rfl (i := i) (by omega) (by decide) (v := (jbi (r i))) (hB i (by omega)) dX2_records_17 ?_
        refine lv_if_eq (tgt := 27) hx hb dX2_records_18 (by decide) (fun c_18_2 => ?_) (fun c_18_2 => ?_)
        · have hb1 : r i = false := jbi_0.mp c_18_2
          refine lv_iload_n hx hb dX2_records_27 rfl (lv_at hl 1 rfl) ?_
          refine jt_i (y := nI (js (jcn r) (i + 1))) (congrArg nI (by rw [js_step, jcn_f hb1, Nat.add_zero])) ?_
          refine lv_istore_n (lv' := [(1, .int (nI (js (jcn r) (i + 1)))), (0, .ref g0), (2, .int (nI i))]) hx hb dX2_records_28 rfl hl (by decide) rfl (fun ls hl => ?_)
          refine lv_iinc (v := (nI (i + 1))) (lv' := [(2, .int (nI (i + 1))), (1, .int (nI (js (jcn r) (i + 1)))), (0, .ref g0)]) hx hb dX2_records_29 hl (k := 2) rfl (nI_1 _) (by decide) rfl (fun ls hl => ?_)
          refine lv_goto (tgt := 4) hx hb dX2_records_32 (by decide) ?_
          exact ih4 (i + 1) (by omega) (by omega) _ _ hP hD hS ls (lv_sub hl [2, 1, 0] rfl)
        · have hb1 : r i = true := jbi_n0.mp c_18_2
          refine lv_iload_n hx hb dX2_records_21 rfl (lv_at hl 1 rfl) ?_
          refine lv_iconst (v := (nI 1)) hx hb dX2_records_22 (by decide +kernel) ?_
          refine lv_iadd hx hb dX2_records_23 ?_
          refine jt_i (y := (nI (js (jcn r) (i + 1)))) (by rw [js_step, jcn_t hb1]; exact nI_add _ _) ?_
          refine lv_goto (tgt := 28) hx hb dX2_records_24 (by decide) ?_
          refine lv_istore_n (lv' := [(1, .int (nI (js (jcn r) (i + 1)))), (0, .ref g0), (2, .int (nI i))]) hx hb dX2_records_28 rfl hl (by decide) rfl (fun ls hl => ?_)
          refine lv_iinc (v := (nI (i + 1))) (lv' := [(2, .int (nI (i + 1))), (1, .int (nI (js (jcn r) (i + 1)))), (0, .ref g0)]) hx hb dX2_records_29 hl (k := 2) rfl (nI_1 _) (by decide) rfl (fun ls hl => ?_)
          refine lv_goto (tgt := 4) hx hb dX2_records_32 (by decide) ?_
          exact ih4 (i + 1) (by omega) (by omega) _ _ hP hD hS ls (lv_sub hl [2, 1, 0] rfl)
  exact LOOP4 (k + 1) 0 (by omega) (by omega) _ _ hP hD hS ls (lv_sub hl [2, 1, 0] rfl)
abbrev rm_M_isCut : Room := { frames := 0, cells := 0, slots := 0, locals := 0 }
set_option maxHeartbeats 4000000 in
set_option maxRecDepth 100000 in
/-- a cut that waits is spent, in the reference -/
theorem c_M_isCut (l : Launch) (D : va_G) (cb ci cz : ClassId) (g0 mt mb mz mn my : Nat) (tp fB fZ fN fY : Nat → Int32) (n k : Nat) (nx wh off cu : Int32) (ct : Bool) (hcu : cu = -1 ↔ ct = false) (sz : Nat) : Met l yX2_isCut wsX2_isCut rm_M_isCut (va_Pc [.ref g0] (j_pre D (jT cb ci cz) [(g0, .inr (2, [.ref mt, .int (nI n), .int (nI k), .ref mb, .ref mz, .ref mn, .ref my, .int nx, .int wh, .int off, .int cu])), (mt, .inl (ci, 100, .inl tp)), (mb, .inl (cz, 41, .inl fB)), (mz, .inl (ci, 41, .inl fZ)), (mn, .inl (ci, 41, .inl fN)), (my, .inl (ci, 4100, .inl fY))] sz)) (va_Qi (fun (x : Int32) (a : Int32 × Int32) => x = jbi ct ∧ (ct = false → a = (off, cu)) ∧ (ct = true → a = (1, -1))) (j_post D (jT cb ci cz) (fun (a : Int32 × Int32) => [(g0, .inr (2, [.ref mt, .int (nI n), .int (nI k), .ref mb, .ref mz, .ref mn, .ref my, .int nx, .int wh, .int a.1, .int a.2])), (mt, .inl (ci, 100, .inl tp)), (mb, .inl (cz, 41, .inl fB)), (mz, .inl (ci, 41, .inl fZ)), (mn, .inl (ci, 41, .inl fN)), (my, .inl (ci, 4100, .inl fY))]) (va_A [(g0, .inr (2, [.ref mt, .int (nI n), .int (nI k), .ref mb, .ref mz, .ref mn, .ref my, .int nx, .int wh, .int off, .int cu])), (mt, .inl (ci, 100, .inl tp)), (mb, .inl (cz, 41, .inl fB)), (mz, .inl (ci, 41, .inl fZ)), (mn, .inl (ci, 41, .inl fN)), (my, .inl (ci, 4100, .inl fY))] sz)) (va_A [(g0, .inr (2, [.ref mt, .int (nI n), .int (nI k), .ref mb, .ref mz, .ref mn, .ref my, .int nx, .int wh, .int off, .int cu])), (mt, .inl (ci, 100, .inl tp)), (mb, .inl (cz, 41, .inl fB)), (mz, .inl (ci, 41, .inl fZ)), (mn, .inl (ci, 41, .inl fN)), (my, .inl (ci, 4100, .inl fY))] sz)) 0 0 (va_A [(g0, .inr (2, [.ref mt, .int (nI n), .int (nI k), .ref mb, .ref mz, .ref mn, .ref my, .int nx, .int wh, .int off, .int cu])), (mt, .inl (ci, 100, .inl tp)), (mb, .inl (cz, 41, .inl fB)), (mz, .inl (ci, 41, .inl fZ)), (mn, .inl (ci, 41, .inl fN)), (my, .inl (ci, 4100, .inl fY))] sz) := by
  refine j_in (Qc := fun A => (va_Qi (fun (x : Int32) (a : Int32 × Int32) => x = jbi ct ∧ (ct = false → a = (off, cu)) ∧ (ct = true → a = (1, -1))) (j_post D (jT cb ci cz) (fun (a : Int32 × Int32) => [(g0, .inr (2, [.ref mt, .int (nI n), .int (nI k), .ref mb, .ref mz, .ref mn, .ref my, .int nx, .int wh, .int a.1, .int a.2])), (mt, .inl (ci, 100, .inl tp)), (mb, .inl (cz, 41, .inl fB)), (mz, .inl (ci, 41, .inl fZ)), (mn, .inl (ci, 41, .inl fN)), (my, .inl (ci, 4100, .inl fY))]) A) A)) (cc := cX2_isCut) (maxL := 1) (ret := (some .boolean)) (by decide) rfl (Nat.le_of_ble_eq_true rfl) ?_
  intro p e s m av below meth c A ls H locs hx hb hr hml hts hown hlk hin hA hP hK hD hS hl
  have hown : s.vm.findClass RX2 = some m.cls := hown
  have hl : lv_has ls 1 [(0, .ref g0)] := hl
  refine lv_aload_n hx hb dX2_isCut_0 rfl (lv_at hl 0 rfl) ?_
  refine va_get (D := D) (ci := 2) (v := .int cu) (C := RX2) (T := TX2) (N := 11) hx hb hts (by decide +kernel) hown hK hP 0 rfl rfl 10 (by decide) (hts (.fieldLink RX2 26 "JournalDeskModel" "cutting" "I") (by decide +kernel)) (fun _ h9 => h9) rfl dX2_isCut_1 ?_
  refine lv_iconst (v := (-1)) hx hb dX2_isCut_4 (by decide +kernel) ?_
  refine lv_icmp_ne (tgt := 10) hx hb dX2_isCut_5 (by decide) (fun c_5_1 => ?_) (fun c_5_1 => ?_)
  · have hct : ct = true := by
      cases ct
      · exact absurd (hcu.mpr rfl) c_5_1
      · rfl
    refine lv_aload_n hx hb dX2_isCut_10 rfl (lv_at hl 0 rfl) ?_
    refine lv_iconst (v := (-1)) hx hb dX2_isCut_11 (by decide +kernel) ?_
    refine va_put (D := D) (ci := 2) (v := .int (-1)) (ty := .int) (C := RX2) (T := TX2) (N := 11) hx hb hts (by decide +kernel) tyX2 tyX2_ok nmX2 hown hK hP hD hS 0 rfl rfl 10 (by decide) (hts (.fieldLink RX2 26 "JournalDeskModel" "cutting" "I") (by decide +kernel)) (fun _ h9 => h9) rfl (by decide +kernel) (rfl) (rfl) (Nat.le_of_ble_eq_true rfl) dX2_isCut_12 (fun H locs hP hD hS => ?_)
    have hP : va_P D vwCl [(g0, .inr (2, [.ref mt, .int (nI n), .int (nI k), .ref mb, .ref mz, .ref mn, .ref my, .int nx, .int wh, .int off, .int (-1)])), (mt, .inl (ci, 100, .inl tp)), (mb, .inl (cz, 41, .inl fB)), (mz, .inl (ci, 41, .inl fZ)), (mn, .inl (ci, 41, .inl fN)), (my, .inl (ci, 4100, .inl fY))] H := hP
    have hD : va_D A [(g0, .inr (2, [.ref mt, .int (nI n), .int (nI k), .ref mb, .ref mz, .ref mn, .ref my, .int nx, .int wh, .int off, .int (-1)])), (mt, .inl (ci, 100, .inl tp)), (mb, .inl (cz, 41, .inl fB)), (mz, .inl (ci, 41, .inl fZ)), (mn, .inl (ci, 41, .inl fN)), (my, .inl (ci, 4100, .inl fY))] := hD
    refine lv_aload_n hx hb dX2_isCut_15 rfl (lv_at hl 0 rfl) ?_
    refine lv_iconst (v := (nI 1)) hx hb dX2_isCut_16 (by decide +kernel) ?_
    refine va_put (D := D) (ci := 2) (v := .int (nI 1)) (ty := .boolean) (C := RX2) (T := TX2) (N := 11) hx hb hts (by decide +kernel) tyX2 tyX2_ok nmX2 hown hK hP hD hS 0 rfl rfl 9 (by decide) (hts (.fieldLink RX2 40 "JournalDeskModel" "off" "Z") (by decide +kernel)) (fun _ h9 => h9) rfl (by decide +kernel) (rfl) (rfl) (Nat.le_of_ble_eq_true rfl) dX2_isCut_17 (fun H locs hP hD hS => ?_)
    have hP : va_P D vwCl [(g0, .inr (2, [.ref mt, .int (nI n), .int (nI k), .ref mb, .ref mz, .ref mn, .ref my, .int nx, .int wh, .int (nI 1), .int (-1)])), (mt, .inl (ci, 100, .inl tp)), (mb, .inl (cz, 41, .inl fB)), (mz, .inl (ci, 41, .inl fZ)), (mn, .inl (ci, 41, .inl fN)), (my, .inl (ci, 4100, .inl fY))] H := hP
    have hD : va_D A [(g0, .inr (2, [.ref mt, .int (nI n), .int (nI k), .ref mb, .ref mz, .ref mn, .ref my, .int nx, .int wh, .int (nI 1), .int (-1)])), (mt, .inl (ci, 100, .inl tp)), (mb, .inl (cz, 41, .inl fB)), (mz, .inl (ci, 41, .inl fZ)), (mn, .inl (ci, 41, .inl fN)), (my, .inl (ci, 4100, .inl fY))] := hD
    refine lv_iconst (v := (nI 1)) hx hb dX2_isCut_20 (by decide +kernel) ?_
    exact j_zret (v := (nI 1)) (((nI 1), (-1))) hx hb hr hlk hK hP hD hS (by decide +kernel) (by rw [hct]; exact ⟨rfl, fun q => absurd q (by decide), fun _ => rfl⟩) dX2_isCut_21
  · have hct : ct = false := hcu.mp c_5_1
    refine lv_iconst (v := (nI 0)) hx hb dX2_isCut_8 (by decide +kernel) ?_
    exact j_zret (v := (nI 0)) ((off, cu)) hx hb hr hlk hK hP hD hS (by decide +kernel) (by rw [hct]; exact ⟨rfl, fun _ => rfl, fun q => absurd q (by decide)⟩) dX2_isCut_9
abbrev rm_M_put : Room := { frames := 0, cells := 0, slots := 0, locals := 0 }
set_option maxHeartbeats 4000000 in
set_option maxRecDepth 100000 in
/-- put, in the reference -/
theorem c_M_put (l : Launch) (D : va_G) (cb ci cz : ClassId) (g0 mt mb mz mn my : Nat) (tp fB fZ fN fY : Nat → Int32) (n : Nat) (t : Nat → Int32) (k : Nat) (r : Nat → Bool) (z : Nat → Nat) (u : Nat → Int32) (y : Nat → Nat → Int32) (nx wh : Int32) (pw ct : Bool) (cu : Int32) (v : Int64) (cv : Int32) (hn : n ≤ 100) (ht : ∀ j, j < n → tp j = t j) (hus : js (jse r z) k ≤ 40) (hz : ∀ j, j < k → z j ≤ 100) (hE : jE fB fZ fN fY k r z u y) (hcu : cu = -1 ↔ ct = false) (sz : Nat) : Met l yX2_put wsX2_put rm_M_put (va_Pc [.ref g0, .long v, .int cv] (j_pre D (jT cb ci cz) [(g0, .inr (2, [.ref mt, .int (nI n), .int (nI k), .ref mb, .ref mz, .ref mn, .ref my, .int nx, .int wh, .int (jbi (!pw)), .int cu])), (mt, .inl (ci, 100, .inl tp)), (mb, .inl (cz, 41, .inl fB)), (mz, .inl (ci, 41, .inl fZ)), (mn, .inl (ci, 41, .inl fN)), (my, .inl (ci, 4100, .inl fY))] sz)) (va_Qi (fun (x : Int32) (a : jMt) => x = (jop_pt ((n, t), (k, r, z, u, y), (nx, wh, pw, ct)) v cv).1 ∧ jMk (jop_pt ((n, t), (k, r, z, u, y), (nx, wh, pw, ct)) v cv).2 a) (j_post D (jT cb ci cz) (jMw g0 mt mb mz mn my ci cz) (va_A [(g0, .inr (2, [.ref mt, .int (nI n), .int (nI k), .ref mb, .ref mz, .ref mn, .ref my, .int nx, .int wh, .int (jbi (!pw)), .int cu])), (mt, .inl (ci, 100, .inl tp)), (mb, .inl (cz, 41, .inl fB)), (mz, .inl (ci, 41, .inl fZ)), (mn, .inl (ci, 41, .inl fN)), (my, .inl (ci, 4100, .inl fY))] sz)) (va_A [(g0, .inr (2, [.ref mt, .int (nI n), .int (nI k), .ref mb, .ref mz, .ref mn, .ref my, .int nx, .int wh, .int (jbi (!pw)), .int cu])), (mt, .inl (ci, 100, .inl tp)), (mb, .inl (cz, 41, .inl fB)), (mz, .inl (ci, 41, .inl fZ)), (mn, .inl (ci, 41, .inl fN)), (my, .inl (ci, 4100, .inl fY))] sz)) 0 0 (va_A [(g0, .inr (2, [.ref mt, .int (nI n), .int (nI k), .ref mb, .ref mz, .ref mn, .ref my, .int nx, .int wh, .int (jbi (!pw)), .int cu])), (mt, .inl (ci, 100, .inl tp)), (mb, .inl (cz, 41, .inl fB)), (mz, .inl (ci, 41, .inl fZ)), (mn, .inl (ci, 41, .inl fN)), (my, .inl (ci, 4100, .inl fY))] sz) := by
  refine j_in (Qc := fun A => (va_Qi (fun (x : Int32) (a : jMt) => x = (jop_pt ((n, t), (k, r, z, u, y), (nx, wh, pw, ct)) v cv).1 ∧ jMk (jop_pt ((n, t), (k, r, z, u, y), (nx, wh, pw, ct)) v cv).2 a) (j_post D (jT cb ci cz) (jMw g0 mt mb mz mn my ci cz) A) A)) (cc := cX2_put) (maxL := 5) (ret := (some .boolean)) (by decide) rfl (Nat.le_of_ble_eq_true rfl) ?_
  intro p e s m av below meth c A ls H locs hx hb hr hml hts hown hlk hin hA hP hK hD hS hl
  have hown : s.vm.findClass RX2 = some m.cls := hown
  have hl : lv_has ls 5 [(0, .ref g0), (1, .long v), (3, .int cv)] := hl
  refine lv_iload_n hx hb dX2_put_0 rfl (lv_at hl 2 rfl) ?_
  refine lv_iconst (v := (nI 1)) hx hb dX2_put_1 (by decide +kernel) ?_
  refine lv_icmp_lt (tgt := 22) hx hb dX2_put_2 (by decide) (fun c_2_1 => ?_) (fun c_2_1 => ?_)
  · have href : cv < 1 ∨ 8 < cv ∨ 100 < n + cv.toNatClampNeg := Or.inl c_2_1
    refine lv_iconst (v := (nI 0)) hx hb dX2_put_22 (by decide +kernel) ?_
    exact j_zret (v := (nI 0)) ((tp, fB, fZ, fN, fY, n, k, nx, wh, (jbi (!pw)), cu)) hx hb hr hlk hK hP hD hS (by decide +kernel) (by rw [jpt_ref href]; exact ⟨rfl, jMk_i rfl hn ht rfl hus hz hE rfl rfl rfl hcu⟩) dX2_put_23
  · have hc1 := c_2_1
    refine lv_iload_n hx hb dX2_put_5 rfl (lv_at hl 2 rfl) ?_
    refine lv_bipush (v := (nI 8)) hx hb dX2_put_6 (by decide +kernel) ?_
    refine lv_icmp_gt (tgt := 22) hx hb dX2_put_8 (by decide) (fun c_8_2 => ?_) (fun c_8_2 => ?_)
    · have href : cv < 1 ∨ 8 < cv ∨ 100 < n + cv.toNatClampNeg := Or.inr (Or.inl c_8_2)
      refine lv_iconst (v := (nI 0)) hx hb dX2_put_22 (by decide +kernel) ?_
      exact j_zret (v := (nI 0)) ((tp, fB, fZ, fN, fY, n, k, nx, wh, (jbi (!pw)), cu)) hx hb hr hlk hK hP hD hS (by decide +kernel) (by rw [jpt_ref href]; exact ⟨rfl, jMk_i rfl hn ht rfl hus hz hE rfl rfl rfl hcu⟩) dX2_put_23
    · obtain ⟨cc, hc2, hc3, hcv⟩ := j_rng (a := 1) (b := 8) (by decide) (by decide) hc1 c_8_2
      rw [hcv] at hl
      refine lv_aload_n hx hb dX2_put_11 rfl (lv_at hl 0 rfl) ?_
      refine va_get (D := D) (ci := 2) (v := .int (nI n)) (C := RX2) (T := TX2) (N := 11) hx hb hts (by decide +kernel) hown hK hP 0 rfl rfl 1 (by decide) (hts (.fieldLink RX2 30 "JournalDeskModel" "taped" "I") (by decide +kernel)) (fun _ h9 => h9) rfl dX2_put_12 ?_
      refine lv_iload_n hx hb dX2_put_15 rfl (lv_at hl 2 rfl) ?_
      refine lv_iadd hx hb dX2_put_16 ?_
      refine jt_i (y := (nI (n + cc))) (nI_add _ _) ?_
      refine lv_bipush (v := (nI 100)) hx hb dX2_put_17 (by decide +kernel) ?_
      refine lv_icmp_le (tgt := 24) hx hb dX2_put_19 (by decide) (fun c_19_3 => ?_) (fun c_19_3 => ?_)
      · rw [nI_leI (show n + cc < 2 ^ 31 by omega) (show 100 < 2 ^ 31 by omega)] at c_19_3
        refine lv_iload_n hx hb dX2_put_24 rfl (lv_at hl 2 rfl) ?_
        refine lv_iconst (v := (nI 1)) hx hb dX2_put_25 (by decide +kernel) ?_
        refine lv_isub hx hb dX2_put_26 ?_
        refine jt_i (y := ((nI cc) + (-1))) (j_m1sub cc) ?_
        refine lv_istore (lv' := [(4, .int ((nI cc) + (-1))), (0, .ref g0), (1, .long v), (3, .int (nI cc))]) hx hb dX2_put_27 hl (by decide) rfl (fun ls hl => ?_)
        have LOOP29 : ∀ (fuel : Nat) (q : Nat) (tq : Nat → Int32) (hf : cc < q + fuel) (hqc : q ≤ cc) (htq : ∀ j, j < n + q → tq j = (if n ≤ j ∧ j < n + cc then jby v (cc - 1 - (j - n)) else t j)) (H : Heap) (locs : List Loc), va_P D vwCl [(g0, .inr (2, [.ref mt, .int (nI (n + q)), .int (nI k), .ref mb, .ref mz, .ref mn, .ref my, .int nx, .int wh, .int (jbi (!pw)), .int cu])), (mt, .inl (ci, 100, .inl tq)), (mb, .inl (cz, 41, .inl fB)), (mz, .inl (ci, 41, .inl fZ)), (mn, .inl (ci, 41, .inl fN)), (my, .inl (ci, 4100, .inl fY))] H → va_D A [(g0, .inr (2, [.ref mt, .int (nI (n + q)), .int (nI k), .ref mb, .ref mz, .ref mn, .ref my, .int nx, .int wh, .int (jbi (!pw)), .int cu])), (mt, .inl (ci, 100, .inl tq)), (mb, .inl (cz, 41, .inl fB)), (mz, .inl (ci, 41, .inl fZ)), (mn, .inl (ci, 41, .inl fN)), (my, .inl (ci, 4100, .inl fY))] → va_S A s.heap H locs → ∀ ls : Array Slot, lv_has ls 5 [(0, .ref g0), (1, .long v), (3, .int (nI cc)), (4, .int ((nI (cc - q)) + (-1)))] → W p l e rm_M_put s m av below meth c H locs 0 0 (MQ below (va_Qi (fun (x : Int32) (a : jMt) => x = (jop_pt ((n, t), (k, r, z, u, y), (nx, wh, pw, ct)) v cv).1 ∧ jMk (jop_pt ((n, t), (k, r, z, u, y), (nx, wh, pw, ct)) v cv).2 a) (j_post D (jT cb ci cz) (jMw g0 mt mb mz mn my ci cz) A) A) av s 0 0 A) (F0 m 29 ls []) := by
          clear hP hD hS hl
          intro fuel
          induction fuel with
          | zero => intro q tq hf hqc htq; exfalso; omega
          | succ fuel ih29 =>
            intro q tq hf hqc htq H locs hP hD hS ls hl
            refine lv_iload hx hb dX2_put_29 (lv_at hl 3 rfl) ?_
            refine lv_if_lt (tgt := 71) hx hb dX2_put_31 (by decide) (fun c_31_4 => ?_) (fun c_31_4 => ?_)
            · rw [j_m1lt (by omega)] at c_31_4
              refine lv_iconst (v := (nI 1)) hx hb dX2_put_71 (by decide +kernel) ?_
              exact j_zret (v := (nI 1)) ((tq, fB, fZ, fN, fY, n + q, k, nx, wh, (jbi (!pw)), cu)) hx hb hr hlk hK hP hD hS (by decide +kernel) (by rw [hcv, jpt_ok (cc := cc) (by omega) (by omega) (by omega)]; exact ⟨rfl, jMk_i (by omega) (by omega) (fun j hj => htq j (by omega)) rfl hus hz hE rfl rfl rfl hcu⟩) dX2_put_72
            · rw [j_m1lt (by omega)] at c_31_4
              rw [j_dec (show q < cc by omega)] at hl
              refine lv_aload_n hx hb dX2_put_34 rfl (lv_at hl 0 rfl) ?_
              refine va_get (D := D) (ci := 2) (v := .ref mt) (C := RX2) (T := TX2) (N := 11) hx hb hts (by decide +kernel) hown hK hP 0 rfl rfl 0 (by decide) (hts (.fieldLink RX2 7 "JournalDeskModel" "tape" "[I") (by decide +kernel)) (fun _ h9 => h9) rfl dX2_put_35 ?_
              refine lv_aload_n hx hb dX2_put_38 rfl (lv_at hl 0 rfl) ?_
              refine va_get (D := D) (ci := 2) (v := .int (nI (n + q))) (C := RX2) (T := TX2) (N := 11) hx hb hts (by decide +kernel) hown hK hP 0 rfl rfl 1 (by decide) (hts (.fieldLink RX2 30 "JournalDeskModel" "taped" "I") (by decide +kernel)) (fun _ h9 => h9) rfl dX2_put_39 ?_
              refine lv_lload_n hx hb dX2_put_42 rfl (lv_at hl 1 rfl) ?_
              refine lv_bipush (v := (nI 8)) hx hb dX2_put_43 (by decide +kernel) ?_
              refine lv_iload hx hb dX2_put_45 (lv_at hl 3 rfl) ?_
              refine lv_imul hx hb dX2_put_47 ?_
              refine jt_i (y := (nI (8 * (cc - (q + 1))))) (pk_mul _ _) ?_
              refine lv_lshr hx hb dX2_put_48 rfl ?_
              refine lv_l2i hx hb dX2_put_49 rfl ?_
              refine lv_sipush (v := (nI 255)) hx hb dX2_put_50 (by decide +kernel) ?_
              refine lv_iand hx hb dX2_put_53 ?_
              refine jt_i (y := (jby v (cc - (q + 1)))) (rfl) ?_
              refine j_iast hx hb hK hP hD hS 1 1 rfl rfl (i := n + q) (by omega) (by decide) dX2_put_54 (fun H locs hP hD hS => ?_)
              have hP : va_P D vwCl [(g0, .inr (2, [.ref mt, .int (nI (n + q)), .int (nI k), .ref mb, .ref mz, .ref mn, .ref my, .int nx, .int wh, .int (jbi (!pw)), .int cu])), (mt, .inl (ci, 100, .inl (upd tq (n + q) (jby v (cc - (q + 1)))))), (mb, .inl (cz, 41, .inl fB)), (mz, .inl (ci, 41, .inl fZ)), (mn, .inl (ci, 41, .inl fN)), (my, .inl (ci, 4100, .inl fY))] H := hP
              have hD : va_D A [(g0, .inr (2, [.ref mt, .int (nI (n + q)), .int (nI k), .ref mb, .ref mz, .ref mn, .ref my, .int nx, .int wh, .int (jbi (!pw)), .int cu])), (mt, .inl (ci, 100, .inl (upd tq (n + q) (jby v (cc - (q + 1)))))), (mb, .inl (cz, 41, .inl fB)), (mz, .inl (ci, 41, .inl fZ)), (mn, .inl (ci, 41, .inl fN)), (my, .inl (ci, 4100, .inl fY))] := hD
              refine lv_aload_n hx hb dX2_put_55 rfl (lv_at hl 0 rfl) ?_
              refine lv_aload_n hx hb dX2_put_56 rfl (lv_at hl 0 rfl) ?_
              refine va_get (D := D) (ci := 2) (v := .int (nI (n + q))) (C := RX2) (T := TX2) (N := 11) hx hb hts (by decide +kernel) hown hK hP 0 rfl rfl 1 (by decide) (hts (.fieldLink RX2 30 "JournalDeskModel" "taped" "I") (by decide +kernel)) (fun _ h9 => h9) rfl dX2_put_57 ?_
              refine lv_iconst (v := (nI 1)) hx hb dX2_put_60 (by decide +kernel) ?_
              refine lv_iadd hx hb dX2_put_61 ?_
              refine jt_i (y := (nI ((n + q) + 1))) (nI_add _ _) ?_
              refine va_put (D := D) (ci := 2) (v := .int (nI ((n + q) + 1))) (ty := .int) (C := RX2) (T := TX2) (N := 11) hx hb hts (by decide +kernel) tyX2 tyX2_ok nmX2 hown hK hP hD hS 0 rfl rfl 1 (by decide) (hts (.fieldLink RX2 30 "JournalDeskModel" "taped" "I") (by decide +kernel)) (fun _ h9 => h9) rfl (by decide +kernel) (rfl) (rfl) (Nat.le_of_ble_eq_true rfl) dX2_put_62 (fun H locs hP hD hS => ?_)
              have hP : va_P D vwCl [(g0, .inr (2, [.ref mt, .int (nI ((n + q) + 1)), .int (nI k), .ref mb, .ref mz, .ref mn, .ref my, .int nx, .int wh, .int (jbi (!pw)), .int cu])), (mt, .inl (ci, 100, .inl (upd tq (n + q) (jby v (cc - (q + 1)))))), (mb, .inl (cz, 41, .inl fB)), (mz, .inl (ci, 41, .inl fZ)), (mn, .inl (ci, 41, .inl fN)), (my, .inl (ci, 4100, .inl fY))] H := hP
              have hD : va_D A [(g0, .inr (2, [.ref mt, .int (nI ((n + q) + 1)), .int (nI k), .ref mb, .ref mz, .ref mn, .ref my, .int nx, .int wh, .int (jbi (!pw)), .int cu])), (mt, .inl (ci, 100, .inl (upd tq (n + q) (jby v (cc - (q + 1)))))), (mb, .inl (cz, 41, .inl fB)), (mz, .inl (ci, 41, .inl fZ)), (mn, .inl (ci, 41, .inl fN)), (my, .inl (ci, 4100, .inl fY))] := hD
              refine lv_iinc (v := ((nI (cc - (q + 1))) + (-1))) (lv' := [(4, .int ((nI (cc - (q + 1))) + (-1))), (0, .ref g0), (1, .long v), (3, .int (nI cc))]) hx hb dX2_put_65 hl (k := 3) rfl (rfl) (by decide) rfl (fun ls hl => ?_)
              refine lv_goto (tgt := 29) hx hb dX2_put_68 (by decide) ?_
              exact ih29 (q + 1) _ (by omega) (by omega) (j_pt2 htq (by show _ = (if n ≤ n + q ∧ n + q < n + cc then jby v (cc - 1 - (n + q - n)) else t (n + q)); rw [if_pos (by omega), show cc - 1 - (n + q - n) = cc - (q + 1) by omega])) _ _ hP hD hS ls (lv_sub hl [1, 2, 3, 0] rfl)
        exact LOOP29 (cc + 1) 0 tp (by omega) (by omega) (fun j hj => by rw [if_neg (by omega)]; exact ht j hj) _ _ hP hD hS ls (lv_sub hl [1, 2, 3, 0] rfl)
      · rw [nI_leI (show n + cc < 2 ^ 31 by omega) (show 100 < 2 ^ 31 by omega)] at c_19_3
        have href : cv < 1 ∨ 8 < cv ∨ 100 < n + cv.toNatClampNeg := Or.inr (Or.inr (by rw [hcv, nI_clamp (by omega)]; omega))
        refine lv_iconst (v := (nI 0)) hx hb dX2_put_22 (by decide +kernel) ?_
        exact j_zret (v := (nI 0)) ((tp, fB, fZ, fN, fY, n, k, nx, wh, (jbi (!pw)), cu)) hx hb hr hlk hK hP hD hS (by decide +kernel) (by rw [jpt_ref href]; exact ⟨rfl, jMk_i rfl hn ht rfl hus hz hE rfl rfl rfl hcu⟩) dX2_put_23
abbrev rm_M_write : Room := { frames := 2, cells := 0, slots := 0, locals := 42 }
set_option maxHeartbeats 4000000 in
set_option maxRecDepth 100000 in
/-- write, in the reference -/
theorem c_M_write (l : Launch) (D : va_G) (cb ci cz : ClassId) (g0 mt mb mz mn my : Nat) (tp fB fZ fN fY : Nat → Int32) (n : Nat) (t : Nat → Int32) (k : Nat) (r : Nat → Bool) (z : Nat → Nat) (u : Nat → Int32) (y : Nat → Nat → Int32) (nx wh : Int32) (pw ct : Bool) (cu : Int32) (hn : n ≤ 100) (ht : ∀ j, j < n → tp j = t j) (hus : js (jse r z) k ≤ 40) (hz : ∀ j, j < k → z j ≤ 100) (hE : jE fB fZ fN fY k r z u y) (hcu : cu = -1 ↔ ct = false) (sz : Nat) : Met l yX2_write wsX2_write rm_M_write (va_Pc [.ref g0] (j_pre D (jT cb ci cz) [(g0, .inr (2, [.ref mt, .int (nI n), .int (nI k), .ref mb, .ref mz, .ref mn, .ref my, .int nx, .int wh, .int (jbi (!pw)), .int cu])), (mt, .inl (ci, 100, .inl tp)), (mb, .inl (cz, 41, .inl fB)), (mz, .inl (ci, 41, .inl fZ)), (mn, .inl (ci, 41, .inl fN)), (my, .inl (ci, 4100, .inl fY))] sz)) (va_Qi (fun (x : Int32) (a : jMt) => x = (jop_wr ((n, t), (k, r, z, u, y), (nx, wh, pw, ct))).1 ∧ jMk (jop_wr ((n, t), (k, r, z, u, y), (nx, wh, pw, ct))).2 a) (j_post D (jT cb ci cz) (jMw g0 mt mb mz mn my ci cz) (va_A [(g0, .inr (2, [.ref mt, .int (nI n), .int (nI k), .ref mb, .ref mz, .ref mn, .ref my, .int nx, .int wh, .int (jbi (!pw)), .int cu])), (mt, .inl (ci, 100, .inl tp)), (mb, .inl (cz, 41, .inl fB)), (mz, .inl (ci, 41, .inl fZ)), (mn, .inl (ci, 41, .inl fN)), (my, .inl (ci, 4100, .inl fY))] sz)) (va_A [(g0, .inr (2, [.ref mt, .int (nI n), .int (nI k), .ref mb, .ref mz, .ref mn, .ref my, .int nx, .int wh, .int (jbi (!pw)), .int cu])), (mt, .inl (ci, 100, .inl tp)), (mb, .inl (cz, 41, .inl fB)), (mz, .inl (ci, 41, .inl fZ)), (mn, .inl (ci, 41, .inl fN)), (my, .inl (ci, 4100, .inl fY))] sz)) 0 0 (va_A [(g0, .inr (2, [.ref mt, .int (nI n), .int (nI k), .ref mb, .ref mz, .ref mn, .ref my, .int nx, .int wh, .int (jbi (!pw)), .int cu])), (mt, .inl (ci, 100, .inl tp)), (mb, .inl (cz, 41, .inl fB)), (mz, .inl (ci, 41, .inl fZ)), (mn, .inl (ci, 41, .inl fN)), (my, .inl (ci, 4100, .inl fY))] sz) := by
  refine j_in (Qc := fun A => (va_Qi (fun (x : Int32) (a : jMt) => x = (jop_wr ((n, t), (k, r, z, u, y), (nx, wh, pw, ct))).1 ∧ jMk (jop_wr ((n, t), (k, r, z, u, y), (nx, wh, pw, ct))).2 a) (j_post D (jT cb ci cz) (jMw g0 mt mb mz mn my ci cz) A) A)) (cc := cX2_write) (maxL := 3) (ret := (some .int)) (by decide) rfl (Nat.le_of_ble_eq_true rfl) ?_
  intro p e s m av below meth c A ls H locs hx hb hr hml hts hown hlk hin hA hP hK hD hS hl
  have hown : s.vm.findClass RX2 = some m.cls := hown
  have hl : lv_has ls 3 [(0, .ref g0)] := hl
  have hk40 : k ≤ 40 := Nat.le_trans (js_ge (jse_pos r z) k) hus
  refine lv_aload_n hx hb dX2_write_0 rfl (lv_at hl 0 rfl) ?_
  refine va_get (D := D) (ci := 2) (v := .int (jbi (!pw))) (C := RX2) (T := TX2) (N := 11) hx hb hts (by decide +kernel) hown hK hP 0 rfl rfl 9 (by decide) (hts (.fieldLink RX2 40 "JournalDeskModel" "off" "Z") (by decide +kernel)) (fun _ h9 => h9) rfl dX2_write_1 ?_
  refine lv_if_ne (tgt := 24) hx hb dX2_write_4 (by decide) (fun c_4_1 => ?_) (fun c_4_1 => ?_)
  · have hpw : pw = false := jbn_t c_4_1
    have href : pw = false ∨ 40 < js (jse r z) k + jsc n := Or.inl hpw
    refine lv_iconst (v := (-1)) hx hb dX2_write_24 (by decide +kernel) ?_
    exact j_iret (v := (-1)) ((tp, fB, fZ, fN, fY, n, k, nx, wh, (jbi (!pw)), cu)) hx hb hr hlk hK hP hD hS (by rw [jwr_ref href]; exact ⟨rfl, jMk_i rfl hn ht rfl hus hz hE rfl rfl rfl hcu⟩) dX2_write_25
  · have hpw : pw = true := jbn_f c_4_1
    refine lv_aload_n hx hb dX2_write_7 rfl (lv_at hl 0 rfl) ?_
    refine j_calli (wr := []) hP hD hS hA [0, 1, 2, 3, 4, 5] [] rfl rfl (by decide) (by decide) (va_runV (As := []) (rest := []) ⟨hx, hb, hml, hown, hts⟩ (c_M_used l D cb ci cz g0 mt mb mz mn my tp fB fZ fN fY n k nx wh (jbi (!pw)) cu r z hE.1 (by omega) hE.2.1 hz H.size) (cwV 0 hts gX2_write_X2_used rfl rfl rfl (by decide +kernel) ⟨Nat.le_of_ble_eq_true rfl, Nat.le_of_ble_eq_true rfl⟩) (j_preV (ci := 2) (q0 := 0) [0, 1, 2, 3, 4, 5] [0, 1, 2] hK hP hD rfl rfl rfl rfl rfl rfl) rfl rfl hl.1 rfl (lv_room (Nat.le_of_ble_eq_true rfl)) dX2_write_8 ⟨Nat.le_of_ble_eq_true rfl, Nat.le_of_ble_eq_true rfl⟩) (fun r8 u9 H locs hw hP hD hS => ?_)
    have hP : va_P D vwCl [(g0, .inr (2, [.ref mt, .int (nI n), .int (nI k), .ref mb, .ref mz, .ref mn, .ref my, .int nx, .int wh, .int (jbi (!pw)), .int cu])), (mt, .inl (ci, 100, .inl tp)), (mb, .inl (cz, 41, .inl fB)), (mz, .inl (ci, 41, .inl fZ)), (mn, .inl (ci, 41, .inl fN)), (my, .inl (ci, 4100, .inl fY))] H := hP
    have hD : va_D A [(g0, .inr (2, [.ref mt, .int (nI n), .int (nI k), .ref mb, .ref mz, .ref mn, .ref my, .int nx, .int wh, .int (jbi (!pw)), .int cu])), (mt, .inl (ci, 100, .inl tp)), (mb, .inl (cz, 41, .inl fB)), (mz, .inl (ci, 41, .inl fZ)), (mn, .inl (ci, 41, .inl fN)), (my, .inl (ci, 4100, .inl fY))] := hD
    have hw : r8 = (nI (js (jse r z) k)) := hw
    subst hw
    refine lv_aload_n hx hb dX2_write_11 rfl (lv_at hl 0 rfl) ?_
    refine va_get (D := D) (ci := 2) (v := .int (nI n)) (C := RX2) (T := TX2) (N := 11) hx hb hts (by decide +kernel) hown hK hP 0 rfl rfl 1 (by decide) (hts (.fieldLink RX2 30 "JournalDeskModel" "taped" "I") (by decide +kernel)) (fun _ h9 => h9) rfl dX2_write_12 ?_
    refine j_calli (wr := [(g0, .inr (2, [.ref mt, .int (nI n), .int (nI k), .ref mb, .ref mz, .ref mn, .ref my, .int nx, .int wh, .int (jbi (!pw)), .int cu])), (mt, .inl (ci, 100, .inl tp)), (mb, .inl (cz, 41, .inl fB)), (mz, .inl (ci, 41, .inl fZ)), (mn, .inl (ci, 41, .inl fN)), (my, .inl (ci, 4100, .inl fY))]) hP hD hS hA [] [0, 1, 2, 3, 4, 5] rfl rfl (by decide) (by decide) (va_runS (As := [.int (nI n)]) (rest := [.int (nI (js (jse r z) k))]) ⟨hx, hb, hml, hown, hts⟩ (c_M_sectorsOf l D cb ci cz n hn H.size) (va_cwS 1 hts gX2_write_X2_sectorsOf rfl rfl rfl (by decide +kernel) ⟨Nat.le_of_ble_eq_true rfl, Nat.le_of_ble_eq_true rfl⟩) (j_preS [] [0, 1, 2] hK hP hD rfl rfl rfl rfl) rfl rfl hl.1 rfl (lv_room (Nat.le_of_ble_eq_true rfl)) dX2_write_15 ⟨Nat.le_of_ble_eq_true rfl, Nat.le_of_ble_eq_true rfl⟩) (fun r15 u9 H locs hw hP hD hS => ?_)
    have hP : va_P D vwCl [(g0, .inr (2, [.ref mt, .int (nI n), .int (nI k), .ref mb, .ref mz, .ref mn, .ref my, .int nx, .int wh, .int (jbi (!pw)), .int cu])), (mt, .inl (ci, 100, .inl tp)), (mb, .inl (cz, 41, .inl fB)), (mz, .inl (ci, 41, .inl fZ)), (mn, .inl (ci, 41, .inl fN)), (my, .inl (ci, 4100, .inl fY))] H := hP
    have hD : va_D A [(g0, .inr (2, [.ref mt, .int (nI n), .int (nI k), .ref mb, .ref mz, .ref mn, .ref my, .int nx, .int wh, .int (jbi (!pw)), .int cu])), (mt, .inl (ci, 100, .inl tp)), (mb, .inl (cz, 41, .inl fB)), (mz, .inl (ci, 41, .inl fZ)), (mn, .inl (ci, 41, .inl fN)), (my, .inl (ci, 4100, .inl fY))] := hD
    have hw : r15 = (nI (jsc n)) := hw
    subst hw
    refine lv_iadd hx hb dX2_write_18 ?_
    refine jt_i (y := (nI ((js (jse r z) k) + (jsc n)))) (nI_add _ _) ?_
    refine lv_bipush (v := (nI 40)) hx hb dX2_write_19 (by decide +kernel) ?_
    have hj9 := jsc_le hn
    refine lv_icmp_le (tgt := 26) hx hb dX2_write_21 (by decide) (fun c_21_2 => ?_) (fun c_21_2 => ?_)
    · rw [nI_leI (show (js (jse r z) k) + (jsc n) < 2 ^ 31 by omega) (show 40 < 2 ^ 31 by omega)] at c_21_2
      have hfit := c_21_2
      refine lv_aload_n hx hb dX2_write_26 rfl (lv_at hl 0 rfl) ?_
      refine va_get (D := D) (ci := 2) (v := .int (nI n)) (C := RX2) (T := TX2) (N := 11) hx hb hts (by decide +kernel) hown hK hP 0 rfl rfl 1 (by decide) (hts (.fieldLink RX2 30 "JournalDeskModel" "taped" "I") (by decide +kernel)) (fun _ h9 => h9) rfl dX2_write_27 ?_
      refine lv_istore_n (lv' := [(1, .int (nI n)), (0, .ref g0)]) hx hb dX2_write_30 rfl hl (by decide) rfl (fun ls hl => ?_)
      refine lv_aload_n hx hb dX2_write_31 rfl (lv_at hl 1 rfl) ?_
      refine lv_iconst (v := (nI 0)) hx hb dX2_write_32 (by decide +kernel) ?_
      refine va_put (D := D) (ci := 2) (v := .int (nI 0)) (ty := .int) (C := RX2) (T := TX2) (N := 11) hx hb hts (by decide +kernel) tyX2 tyX2_ok nmX2 hown hK hP hD hS 0 rfl rfl 1 (by decide) (hts (.fieldLink RX2 30 "JournalDeskModel" "taped" "I") (by decide +kernel)) (fun _ h9 => h9) rfl (by decide +kernel) (rfl) (rfl) (Nat.le_of_ble_eq_true rfl) dX2_write_33 (fun H locs hP hD hS => ?_)
      have hP : va_P D vwCl [(g0, .inr (2, [.ref mt, .int (nI 0), .int (nI k), .ref mb, .ref mz, .ref mn, .ref my, .int nx, .int wh, .int (jbi (!pw)), .int cu])), (mt, .inl (ci, 100, .inl tp)), (mb, .inl (cz, 41, .inl fB)), (mz, .inl (ci, 41, .inl fZ)), (mn, .inl (ci, 41, .inl fN)), (my, .inl (ci, 4100, .inl fY))] H := hP
      have hD : va_D A [(g0, .inr (2, [.ref mt, .int (nI 0), .int (nI k), .ref mb, .ref mz, .ref mn, .ref my, .int nx, .int wh, .int (jbi (!pw)), .int cu])), (mt, .inl (ci, 100, .inl tp)), (mb, .inl (cz, 41, .inl fB)), (mz, .inl (ci, 41, .inl fZ)), (mn, .inl (ci, 41, .inl fN)), (my, .inl (ci, 4100, .inl fY))] := hD
      refine lv_aload_n hx hb dX2_write_36 rfl (lv_at hl 1 rfl) ?_
      refine j_calli (wr := []) hP hD hS hA [0, 1, 2, 3, 4, 5] [] rfl rfl (by decide) (by decide) (va_runV (As := []) (rest := []) ⟨hx, hb, hml, hown, hts⟩ (c_M_isCut l D cb ci cz g0 mt mb mz mn my tp fB fZ fN fY 0 k nx wh (jbi (!pw)) cu ct hcu H.size) (cwV 0 hts gX2_write_X2_isCut rfl rfl rfl (by decide +kernel) ⟨Nat.le_of_ble_eq_true rfl, Nat.le_of_ble_eq_true rfl⟩) (j_preV (ci := 2) (q0 := 0) [0, 1, 2, 3, 4, 5] [0, 1, 2] hK hP hD rfl rfl rfl rfl rfl rfl) rfl rfl hl.1 rfl (lv_room (Nat.le_of_ble_eq_true rfl)) dX2_write_37 ⟨Nat.le_of_ble_eq_true rfl, Nat.le_of_ble_eq_true rfl⟩) (fun r37 a9 H locs hw hP hD hS => ?_)
      obtain ⟨o1, q1⟩ := a9
      have hP : va_P D vwCl [(g0, .inr (2, [.ref mt, .int (nI 0), .int (nI k), .ref mb, .ref mz, .ref mn, .ref my, .int nx, .int wh, .int o1, .int q1])), (mt, .inl (ci, 100, .inl tp)), (mb, .inl (cz, 41, .inl fB)), (mz, .inl (ci, 41, .inl fZ)), (mn, .inl (ci, 41, .inl fN)), (my, .inl (ci, 4100, .inl fY))] H := hP
      have hD : va_D A [(g0, .inr (2, [.ref mt, .int (nI 0), .int (nI k), .ref mb, .ref mz, .ref mn, .ref my, .int nx, .int wh, .int o1, .int q1])), (mt, .inl (ci, 100, .inl tp)), (mb, .inl (cz, 41, .inl fB)), (mz, .inl (ci, 41, .inl fZ)), (mn, .inl (ci, 41, .inl fN)), (my, .inl (ci, 4100, .inl fY))] := hD
      obtain ⟨hwx, hwf, hwt⟩ := hw
      refine jt_i (y := jbi ct) hwx ?_
      refine lv_if_eq (tgt := 46) hx hb dX2_write_40 (by decide) (fun c_40_3 => ?_) (fun c_40_3 => ?_)
      · have hct : ct = false := jbi_0.mp c_40_3
        obtain ⟨ho1, hq1⟩ := Prod.mk.inj (hwf hct)
        rw [ho1, hq1] at hP hD
        refine lv_aload_n hx hb dX2_write_46 rfl (lv_at hl 1 rfl) ?_
        refine va_get (D := D) (ci := 2) (v := .ref mb) (C := RX2) (T := TX2) (N := 11) hx hb hts (by decide +kernel) hown hK hP 0 rfl rfl 3 (by decide) (hts (.fieldLink RX2 13 "JournalDeskModel" "isRecord" "[Z") (by decide +kernel)) (fun _ h9 => h9) rfl dX2_write_47 ?_
        refine lv_aload_n hx hb dX2_write_50 rfl (lv_at hl 1 rfl) ?_
        refine va_get (D := D) (ci := 2) (v := .int (nI k)) (C := RX2) (T := TX2) (N := 11) hx hb hts (by decide +kernel) hown hK hP 0 rfl rfl 2 (by decide) (hts (.fieldLink RX2 33 "JournalDeskModel" "kept" "I") (by decide +kernel)) (fun _ h9 => h9) rfl dX2_write_51 ?_
        refine lv_iconst (v := (nI 1)) hx hb dX2_write_54 (by decide +kernel) ?_
        refine j_zast hx hb hK hP hD hS 2 2 rfl rfl (i := k) (by omega) (by decide) (by decide +kernel) dX2_write_55 (fun H locs hP hD hS => ?_)
        have hP : va_P D vwCl [(g0, .inr (2, [.ref mt, .int (nI 0), .int (nI k), .ref mb, .ref mz, .ref mn, .ref my, .int nx, .int wh, .int (jbi (!pw)), .int cu])), (mt, .inl (ci, 100, .inl tp)), (mb, .inl (cz, 41, .inl (upd fB k (nI 1)))), (mz, .inl (ci, 41, .inl fZ)), (mn, .inl (ci, 41, .inl fN)), (my, .inl (ci, 4100, .inl fY))] H := hP
        have hD : va_D A [(g0, .inr (2, [.ref mt, .int (nI 0), .int (nI k), .ref mb, .ref mz, .ref mn, .ref my, .int nx, .int wh, .int (jbi (!pw)), .int cu])), (mt, .inl (ci, 100, .inl tp)), (mb, .inl (cz, 41, .inl (upd fB k (nI 1)))), (mz, .inl (ci, 41, .inl fZ)), (mn, .inl (ci, 41, .inl fN)), (my, .inl (ci, 4100, .inl fY))] := hD
        refine lv_aload_n hx hb dX2_write_56 rfl (lv_at hl 1 rfl) ?_
        refine va_get (D := D) (ci := 2) (v := .ref mz) (C := RX2) (T := TX2) (N := 11) hx hb hts (by decide +kernel) hown hK hP 0 rfl rfl 4 (by decide) (hts (.fieldLink RX2 17 "JournalDeskModel" "sizes" "[I") (by decide +kernel)) (fun _ h9 => h9) rfl dX2_write_57 ?_
        refine lv_aload_n hx hb dX2_write_60 rfl (lv_at hl 1 rfl) ?_
        refine va_get (D := D) (ci := 2) (v := .int (nI k)) (C := RX2) (T := TX2) (N := 11) hx hb hts (by decide +kernel) hown hK hP 0 rfl rfl 2 (by decide) (hts (.fieldLink RX2 33 "JournalDeskModel" "kept" "I") (by decide +kernel)) (fun _ h9 => h9) rfl dX2_write_61 ?_
        refine lv_iload_n hx hb dX2_write_64 rfl (lv_at hl 0 rfl) ?_
        refine j_iast hx hb hK hP hD hS 3 1 rfl rfl (i := k) (by omega) (by decide) dX2_write_65 (fun H locs hP hD hS => ?_)
        have hP : va_P D vwCl [(g0, .inr (2, [.ref mt, .int (nI 0), .int (nI k), .ref mb, .ref mz, .ref mn, .ref my, .int nx, .int wh, .int (jbi (!pw)), .int cu])), (mt, .inl (ci, 100, .inl tp)), (mb, .inl (cz, 41, .inl (upd fB k (nI 1)))), (mz, .inl (ci, 41, .inl (upd fZ k (nI n)))), (mn, .inl (ci, 41, .inl fN)), (my, .inl (ci, 4100, .inl fY))] H := hP
        have hD : va_D A [(g0, .inr (2, [.ref mt, .int (nI 0), .int (nI k), .ref mb, .ref mz, .ref mn, .ref my, .int nx, .int wh, .int (jbi (!pw)), .int cu])), (mt, .inl (ci, 100, .inl tp)), (mb, .inl (cz, 41, .inl (upd fB k (nI 1)))), (mz, .inl (ci, 41, .inl (upd fZ k (nI n)))), (mn, .inl (ci, 41, .inl fN)), (my, .inl (ci, 4100, .inl fY))] := hD
        refine lv_aload_n hx hb dX2_write_66 rfl (lv_at hl 1 rfl) ?_
        refine va_get (D := D) (ci := 2) (v := .ref mn) (C := RX2) (T := TX2) (N := 11) hx hb hts (by decide +kernel) hown hK hP 0 rfl rfl 5 (by decide) (hts (.fieldLink RX2 20 "JournalDeskModel" "numbers" "[I") (by decide +kernel)) (fun _ h9 => h9) rfl dX2_write_67 ?_
        refine lv_aload_n hx hb dX2_write_70 rfl (lv_at hl 1 rfl) ?_
        refine va_get (D := D) (ci := 2) (v := .int (nI k)) (C := RX2) (T := TX2) (N := 11) hx hb hts (by decide +kernel) hown hK hP 0 rfl rfl 2 (by decide) (hts (.fieldLink RX2 33 "JournalDeskModel" "kept" "I") (by decide +kernel)) (fun _ h9 => h9) rfl dX2_write_71 ?_
        refine lv_aload_n hx hb dX2_write_74 rfl (lv_at hl 1 rfl) ?_
        refine va_get (D := D) (ci := 2) (v := .int nx) (C := RX2) (T := TX2) (N := 11) hx hb hts (by decide +kernel) hown hK hP 0 rfl rfl 7 (by decide) (hts (.fieldLink RX2 52 "JournalDeskModel" "next" "I") (by decide +kernel)) (fun _ h9 => h9) rfl dX2_write_75 ?_
        refine j_iast hx hb hK hP hD hS 4 1 rfl rfl (i := k) (by omega) (by decide) dX2_write_78 (fun H locs hP hD hS => ?_)
        have hP : va_P D vwCl [(g0, .inr (2, [.ref mt, .int (nI 0), .int (nI k), .ref mb, .ref mz, .ref mn, .ref my, .int nx, .int wh, .int (jbi (!pw)), .int cu])), (mt, .inl (ci, 100, .inl tp)), (mb, .inl (cz, 41, .inl (upd fB k (nI 1)))), (mz, .inl (ci, 41, .inl (upd fZ k (nI n)))), (mn, .inl (ci, 41, .inl (upd fN k nx))), (my, .inl (ci, 4100, .inl fY))] H := hP
        have hD : va_D A [(g0, .inr (2, [.ref mt, .int (nI 0), .int (nI k), .ref mb, .ref mz, .ref mn, .ref my, .int nx, .int wh, .int (jbi (!pw)), .int cu])), (mt, .inl (ci, 100, .inl tp)), (mb, .inl (cz, 41, .inl (upd fB k (nI 1)))), (mz, .inl (ci, 41, .inl (upd fZ k (nI n)))), (mn, .inl (ci, 41, .inl (upd fN k nx))), (my, .inl (ci, 4100, .inl fY))] := hD
        refine lv_iconst (v := (nI 0)) hx hb dX2_write_79 (by decide +kernel) ?_
        refine lv_istore_n (lv' := [(2, .int (nI 0)), (1, .int (nI n)), (0, .ref g0)]) hx hb dX2_write_80 rfl hl (by decide) rfl (fun ls hl => ?_)
        have LOOP81 : ∀ (fuel : Nat) (i : Nat) (d : Nat → Int32) (hf : n < i + fuel) (hin2 : i ≤ n) (h1 : ∀ i0, i0 < i → d (100 * k + i0) = tp i0) (h2 : ∀ q, q < 100 * k → d q = fY q) (H : Heap) (locs : List Loc), va_P D vwCl [(g0, .inr (2, [.ref mt, .int (nI 0), .int (nI k), .ref mb, .ref mz, .ref mn, .ref my, .int nx, .int wh, .int (jbi (!pw)), .int cu])), (mt, .inl (ci, 100, .inl tp)), (mb, .inl (cz, 41, .inl (upd fB k (nI 1)))), (mz, .inl (ci, 41, .inl (upd fZ k (nI n)))), (mn, .inl (ci, 41, .inl (upd fN k nx))), (my, .inl (ci, 4100, .inl d))] H → va_D A [(g0, .inr (2, [.ref mt, .int (nI 0), .int (nI k), .ref mb, .ref mz, .ref mn, .ref my, .int nx, .int wh, .int (jbi (!pw)), .int cu])), (mt, .inl (ci, 100, .inl tp)), (mb, .inl (cz, 41, .inl (upd fB k (nI 1)))), (mz, .inl (ci, 41, .inl (upd fZ k (nI n)))), (mn, .inl (ci, 41, .inl (upd fN k nx))), (my, .inl (ci, 4100, .inl d))] → va_S A s.heap H locs → ∀ ls : Array Slot, lv_has ls 3 [(0, .ref g0), (1, .int (nI n)), (2, .int (nI i))] → W p l e rm_M_write s m av below meth c H locs 0 0 (MQ below (va_Qi (fun (x : Int32) (a : jMt) => x = (jop_wr ((n, t), (k, r, z, u, y), (nx, wh, pw, ct))).1 ∧ jMk (jop_wr ((n, t), (k, r, z, u, y), (nx, wh, pw, ct))).2 a) (j_post D (jT cb ci cz) (jMw g0 mt mb mz mn my ci cz) A) A) av s 0 0 A) (F0 m 81 ls []) := by
          clear hP hD hS hl
          intro fuel
          induction fuel with
          | zero => intro i d hf hin2 h1 h2; exfalso; omega
          | succ fuel ih81 =>
            intro i d hf hin2 h1 h2 H locs hP hD hS ls hl
            refine lv_iload_n hx hb dX2_write_81 rfl (lv_at hl 2 rfl) ?_
            refine lv_iload_n hx hb dX2_write_82 rfl (lv_at hl 1 rfl) ?_
            refine lv_icmp_ge (tgt := 112) hx hb dX2_write_83 (by decide) (fun c_83_4 => ?_) (fun c_83_4 => ?_)
            · rw [nI_leI (show n < 2 ^ 31 by omega) (show i < 2 ^ 31 by omega)] at c_83_4
              refine lv_aload_n hx hb dX2_write_112 rfl (lv_at hl 0 rfl) ?_
              refine lv_aload_n hx hb dX2_write_113 rfl (lv_at hl 0 rfl) ?_
              refine va_get (D := D) (ci := 2) (v := .int (nI k)) (C := RX2) (T := TX2) (N := 11) hx hb hts (by decide +kernel) hown hK hP 0 rfl rfl 2 (by decide) (hts (.fieldLink RX2 33 "JournalDeskModel" "kept" "I") (by decide +kernel)) (fun _ h9 => h9) rfl dX2_write_114 ?_
              refine lv_iconst (v := (nI 1)) hx hb dX2_write_117 (by decide +kernel) ?_
              refine lv_iadd hx hb dX2_write_118 ?_
              refine jt_i (y := (nI (k + 1))) (nI_add _ _) ?_
              refine va_put (D := D) (ci := 2) (v := .int (nI (k + 1))) (ty := .int) (C := RX2) (T := TX2) (N := 11) hx hb hts (by decide +kernel) tyX2 tyX2_ok nmX2 hown hK hP hD hS 0 rfl rfl 2 (by decide) (hts (.fieldLink RX2 33 "JournalDeskModel" "kept" "I") (by decide +kernel)) (fun _ h9 => h9) rfl (by decide +kernel) (rfl) (rfl) (Nat.le_of_ble_eq_true rfl) dX2_write_119 (fun H locs hP hD hS => ?_)
              have hP : va_P D vwCl [(g0, .inr (2, [.ref mt, .int (nI 0), .int (nI (k + 1)), .ref mb, .ref mz, .ref mn, .ref my, .int nx, .int wh, .int (jbi (!pw)), .int cu])), (mt, .inl (ci, 100, .inl tp)), (mb, .inl (cz, 41, .inl (upd fB k (nI 1)))), (mz, .inl (ci, 41, .inl (upd fZ k (nI n)))), (mn, .inl (ci, 41, .inl (upd fN k nx))), (my, .inl (ci, 4100, .inl d))] H := hP
              have hD : va_D A [(g0, .inr (2, [.ref mt, .int (nI 0), .int (nI (k + 1)), .ref mb, .ref mz, .ref mn, .ref my, .int nx, .int wh, .int (jbi (!pw)), .int cu])), (mt, .inl (ci, 100, .inl tp)), (mb, .inl (cz, 41, .inl (upd fB k (nI 1)))), (mz, .inl (ci, 41, .inl (upd fZ k (nI n)))), (mn, .inl (ci, 41, .inl (upd fN k nx))), (my, .inl (ci, 4100, .inl d))] := hD
              refine lv_aload_n hx hb dX2_write_122 rfl (lv_at hl 0 rfl) ?_
              refine lv_aload_n hx hb dX2_write_123 rfl (lv_at hl 0 rfl) ?_
              refine va_get (D := D) (ci := 2) (v := .int nx) (C := RX2) (T := TX2) (N := 11) hx hb hts (by decide +kernel) hown hK hP 0 rfl rfl 7 (by decide) (hts (.fieldLink RX2 52 "JournalDeskModel" "next" "I") (by decide +kernel)) (fun _ h9 => h9) rfl dX2_write_124 ?_
              refine lv_iconst (v := (nI 1)) hx hb dX2_write_127 (by decide +kernel) ?_
              refine lv_iadd hx hb dX2_write_128 ?_
              refine jt_i (y := (nx + 1)) (rfl) ?_
              refine va_put (D := D) (ci := 2) (v := .int (nx + 1)) (ty := .int) (C := RX2) (T := TX2) (N := 11) hx hb hts (by decide +kernel) tyX2 tyX2_ok nmX2 hown hK hP hD hS 0 rfl rfl 7 (by decide) (hts (.fieldLink RX2 52 "JournalDeskModel" "next" "I") (by decide +kernel)) (fun _ h9 => h9) rfl (by decide +kernel) (rfl) (rfl) (Nat.le_of_ble_eq_true rfl) dX2_write_129 (fun H locs hP hD hS => ?_)
              have hP : va_P D vwCl [(g0, .inr (2, [.ref mt, .int (nI 0), .int (nI (k + 1)), .ref mb, .ref mz, .ref mn, .ref my, .int (nx + 1), .int wh, .int (jbi (!pw)), .int cu])), (mt, .inl (ci, 100, .inl tp)), (mb, .inl (cz, 41, .inl (upd fB k (nI 1)))), (mz, .inl (ci, 41, .inl (upd fZ k (nI n)))), (mn, .inl (ci, 41, .inl (upd fN k nx))), (my, .inl (ci, 4100, .inl d))] H := hP
              have hD : va_D A [(g0, .inr (2, [.ref mt, .int (nI 0), .int (nI (k + 1)), .ref mb, .ref mz, .ref mn, .ref my, .int (nx + 1), .int wh, .int (jbi (!pw)), .int cu])), (mt, .inl (ci, 100, .inl tp)), (mb, .inl (cz, 41, .inl (upd fB k (nI 1)))), (mz, .inl (ci, 41, .inl (upd fZ k (nI n)))), (mn, .inl (ci, 41, .inl (upd fN k nx))), (my, .inl (ci, 4100, .inl d))] := hD
              refine lv_aload_n hx hb dX2_write_132 rfl (lv_at hl 0 rfl) ?_
              refine lv_aload_n hx hb dX2_write_133 rfl (lv_at hl 0 rfl) ?_
              refine va_get (D := D) (ci := 2) (v := .int wh) (C := RX2) (T := TX2) (N := 11) hx hb hts (by decide +kernel) hown hK hP 0 rfl rfl 8 (by decide) (hts (.fieldLink RX2 55 "JournalDeskModel" "whole" "I") (by decide +kernel)) (fun _ h9 => h9) rfl dX2_write_134 ?_
              refine lv_iconst (v := (nI 1)) hx hb dX2_write_137 (by decide +kernel) ?_
              refine lv_iadd hx hb dX2_write_138 ?_
              refine jt_i (y := (wh + 1)) (rfl) ?_
              refine va_put (D := D) (ci := 2) (v := .int (wh + 1)) (ty := .int) (C := RX2) (T := TX2) (N := 11) hx hb hts (by decide +kernel) tyX2 tyX2_ok nmX2 hown hK hP hD hS 0 rfl rfl 8 (by decide) (hts (.fieldLink RX2 55 "JournalDeskModel" "whole" "I") (by decide +kernel)) (fun _ h9 => h9) rfl (by decide +kernel) (rfl) (rfl) (Nat.le_of_ble_eq_true rfl) dX2_write_139 (fun H locs hP hD hS => ?_)
              have hP : va_P D vwCl [(g0, .inr (2, [.ref mt, .int (nI 0), .int (nI (k + 1)), .ref mb, .ref mz, .ref mn, .ref my, .int (nx + 1), .int (wh + 1), .int (jbi (!pw)), .int cu])), (mt, .inl (ci, 100, .inl tp)), (mb, .inl (cz, 41, .inl (upd fB k (nI 1)))), (mz, .inl (ci, 41, .inl (upd fZ k (nI n)))), (mn, .inl (ci, 41, .inl (upd fN k nx))), (my, .inl (ci, 4100, .inl d))] H := hP
              have hD : va_D A [(g0, .inr (2, [.ref mt, .int (nI 0), .int (nI (k + 1)), .ref mb, .ref mz, .ref mn, .ref my, .int (nx + 1), .int (wh + 1), .int (jbi (!pw)), .int cu])), (mt, .inl (ci, 100, .inl tp)), (mb, .inl (cz, 41, .inl (upd fB k (nI 1)))), (mz, .inl (ci, 41, .inl (upd fZ k (nI n)))), (mn, .inl (ci, 41, .inl (upd fN k nx))), (my, .inl (ci, 4100, .inl d))] := hD
              refine lv_aload_n hx hb dX2_write_142 rfl (lv_at hl 0 rfl) ?_
              refine va_get (D := D) (ci := 2) (v := .int (nx + 1)) (C := RX2) (T := TX2) (N := 11) hx hb hts (by decide +kernel) hown hK hP 0 rfl rfl 7 (by decide) (hts (.fieldLink RX2 52 "JournalDeskModel" "next" "I") (by decide +kernel)) (fun _ h9 => h9) rfl dX2_write_143 ?_
              refine lv_iconst (v := (nI 1)) hx hb dX2_write_146 (by decide +kernel) ?_
              refine lv_isub hx hb dX2_write_147 ?_
              refine jt_i (y := nx) (Int32.add_sub_cancel nx 1) ?_
              exact j_iret (v := nx) ((tp, upd fB k (nI 1), upd fZ k (nI n), upd fN k nx, d, 0, k + 1, (nx + 1), (wh + 1), (jbi (!pw)), cu)) hx hb hr hlk hK hP hD hS (by subst hct; subst hpw; rw [jwr_ok hfit]; exact ⟨rfl, jMk_i rfl (Nat.zero_le _) (fun j hj => absurd hj (Nat.not_lt_zero j)) rfl (jus_add hfit) (jz_add hz hn) (jE_add hE hz (fun i0 q0 => (h1 i0 (by omega)).trans (ht i0 q0)) h2) rfl rfl rfl hcu⟩) dX2_write_148
            · rw [nI_leI (show n < 2 ^ 31 by omega) (show i < 2 ^ 31 by omega)] at c_83_4
              refine lv_aload_n hx hb dX2_write_86 rfl (lv_at hl 0 rfl) ?_
              refine va_get (D := D) (ci := 2) (v := .ref my) (C := RX2) (T := TX2) (N := 11) hx hb hts (by decide +kernel) hown hK hP 0 rfl rfl 6 (by decide) (hts (.fieldLink RX2 23 "JournalDeskModel" "bytes" "[I") (by decide +kernel)) (fun _ h9 => h9) rfl dX2_write_87 ?_
              refine lv_bipush (v := (nI 100)) hx hb dX2_write_90 (by decide +kernel) ?_
              refine lv_aload_n hx hb dX2_write_92 rfl (lv_at hl 0 rfl) ?_
              refine va_get (D := D) (ci := 2) (v := .int (nI k)) (C := RX2) (T := TX2) (N := 11) hx hb hts (by decide +kernel) hown hK hP 0 rfl rfl 2 (by decide) (hts (.fieldLink RX2 33 "JournalDeskModel" "kept" "I") (by decide +kernel)) (fun _ h9 => h9) rfl dX2_write_93 ?_
              refine lv_imul hx hb dX2_write_96 ?_
              refine jt_i (y := (nI (100 * k))) (pk_mul _ _) ?_
              refine lv_iload_n hx hb dX2_write_97 rfl (lv_at hl 2 rfl) ?_
              refine lv_iadd hx hb dX2_write_98 ?_
              refine jt_i (y := (nI ((100 * k) + i))) (nI_add _ _) ?_
              refine lv_aload_n hx hb dX2_write_99 rfl (lv_at hl 0 rfl) ?_
              refine va_get (D := D) (ci := 2) (v := .ref mt) (C := RX2) (T := TX2) (N := 11) hx hb hts (by decide +kernel) hown hK hP 0 rfl rfl 0 (by decide) (hts (.fieldLink RX2 7 "JournalDeskModel" "tape" "[I") (by decide +kernel)) (fun _ h9 => h9) rfl dX2_write_100 ?_
              refine lv_iload_n hx hb dX2_write_103 rfl (lv_at hl 2 rfl) ?_
              refine j_iald hx hb hK hP 1 1 rfl rfl (i := i) (by omega) (by decide) (v := (tp i)) (rfl) dX2_write_104 ?_
              refine j_iast hx hb hK hP hD hS 5 1 rfl rfl (i := (100 * k) + i) (by omega) (by decide) dX2_write_105 (fun H locs hP hD hS => ?_)
              have hP : va_P D vwCl [(g0, .inr (2, [.ref mt, .int (nI 0), .int (nI k), .ref mb, .ref mz, .ref mn, .ref my, .int nx, .int wh, .int (jbi (!pw)), .int cu])), (mt, .inl (ci, 100, .inl tp)), (mb, .inl (cz, 41, .inl (upd fB k (nI 1)))), (mz, .inl (ci, 41, .inl (upd fZ k (nI n)))), (mn, .inl (ci, 41, .inl (upd fN k nx))), (my, .inl (ci, 4100, .inl (upd d ((100 * k) + i) (tp i))))] H := hP
              have hD : va_D A [(g0, .inr (2, [.ref mt, .int (nI 0), .int (nI k), .ref mb, .ref mz, .ref mn, .ref my, .int nx, .int wh, .int (jbi (!pw)), .int cu])), (mt, .inl (ci, 100, .inl tp)), (mb, .inl (cz, 41, .inl (upd fB k (nI 1)))), (mz, .inl (ci, 41, .inl (upd fZ k (nI n)))), (mn, .inl (ci, 41, .inl (upd fN k nx))), (my, .inl (ci, 4100, .inl (upd d ((100 * k) + i) (tp i))))] := hD
              refine lv_iinc (v := (nI (i + 1))) (lv' := [(2, .int (nI (i + 1))), (0, .ref g0), (1, .int (nI n))]) hx hb dX2_write_106 hl (k := 2) rfl (nI_1 _) (by decide) rfl (fun ls hl => ?_)
              refine lv_goto (tgt := 81) hx hb dX2_write_109 (by decide) ?_
              exact ih81 (i + 1) _ (by omega) (by omega) (j_wr1 h1) (j_wr2 h2) _ _ hP hD hS ls (lv_sub hl [1, 2, 0] rfl)
        exact LOOP81 (n + 1) 0 fY (by omega) (by omega) (fun _ q => absurd q (Nat.not_lt_zero _)) (fun _ _ => rfl) _ _ hP hD hS ls (lv_sub hl [2, 1, 0] rfl)
      · have hct : ct = true := jbi_n0.mp c_40_3
        obtain ⟨ho1, hq1⟩ := Prod.mk.inj (hwt hct)
        rw [ho1, hq1] at hP hD
        refine lv_bipush (v := (-2)) hx hb dX2_write_43 (by decide +kernel) ?_
        exact j_iret (v := (-2)) ((tp, fB, fZ, fN, fY, 0, k, nx, wh, 1, (-1))) hx hb hr hlk hK hP hD hS (by subst hct; subst hpw; rw [jwr_cut hfit]; exact ⟨rfl, jMk_i rfl (Nat.zero_le _) (fun j hj => absurd hj (Nat.not_lt_zero j)) rfl hus hz hE rfl rfl rfl ⟨fun _ => rfl, fun _ => rfl⟩⟩) dX2_write_45
    · rw [nI_leI (show (js (jse r z) k) + (jsc n) < 2 ^ 31 by omega) (show 40 < 2 ^ 31 by omega)] at c_21_2
      have href : pw = false ∨ 40 < js (jse r z) k + jsc n := Or.inr (by omega)
      refine lv_iconst (v := (-1)) hx hb dX2_write_24 (by decide +kernel) ?_
      exact j_iret (v := (-1)) ((tp, fB, fZ, fN, fY, n, k, nx, wh, (jbi (!pw)), cu)) hx hb hr hlk hK hP hD hS (by rw [jwr_ref href]; exact ⟨rfl, jMk_i rfl hn ht rfl hus hz hE rfl rfl rfl hcu⟩) dX2_write_25
abbrev rm_M_move : Room := { frames := 0, cells := 0, slots := 0, locals := 0 }
set_option maxHeartbeats 4000000 in
set_option maxRecDepth 100000 in
/-- entry a goes to place b, in the reference -/
theorem c_M_move (l : Launch) (D : va_G) (cb ci cz : ClassId) (g0 mt mb mz mn my : Nat) (tp fB fZ fN fY : Nat → Int32) (n k : Nat) (nx wh off cu : Int32) (a b w : Nat) (bl : Bool) (ha : a < 41) (hba : b ≤ a) (hw0 : w ≤ 100) (hZ : fZ a = nI w) (hB : fB a = jbi bl) (sz : Nat) : Met l yX2_move wsX2_move rm_M_move (va_Pc [.ref g0, .int (nI a), .int (nI b)] (j_pre D (jT cb ci cz) [(g0, .inr (2, [.ref mt, .int (nI n), .int (nI k), .ref mb, .ref mz, .ref mn, .ref my, .int nx, .int wh, .int off, .int cu])), (mt, .inl (ci, 100, .inl tp)), (mb, .inl (cz, 41, .inl fB)), (mz, .inl (ci, 41, .inl fZ)), (mn, .inl (ci, 41, .inl fN)), (my, .inl (ci, 4100, .inl fY))] sz)) (va_Qv (fun (d : Nat → Int32) => ∀ q, d q = if 100 * b ≤ q ∧ q < 100 * b + w then fY (100 * a + (q - 100 * b)) else fY q) (j_post D (jT cb ci cz) (fun (d : Nat → Int32) => [(g0, .inr (2, [.ref mt, .int (nI n), .int (nI k), .ref mb, .ref mz, .ref mn, .ref my, .int nx, .int wh, .int off, .int cu])), (mt, .inl (ci, 100, .inl tp)), (mb, .inl (cz, 41, .inl (upd fB b (jbi bl)))), (mz, .inl (ci, 41, .inl (upd fZ b (nI w)))), (mn, .inl (ci, 41, .inl (upd fN b (fN a)))), (my, .inl (ci, 4100, .inl d))]) (va_A [(g0, .inr (2, [.ref mt, .int (nI n), .int (nI k), .ref mb, .ref mz, .ref mn, .ref my, .int nx, .int wh, .int off, .int cu])), (mt, .inl (ci, 100, .inl tp)), (mb, .inl (cz, 41, .inl fB)), (mz, .inl (ci, 41, .inl fZ)), (mn, .inl (ci, 41, .inl fN)), (my, .inl (ci, 4100, .inl fY))] sz)) (va_A [(g0, .inr (2, [.ref mt, .int (nI n), .int (nI k), .ref mb, .ref mz, .ref mn, .ref my, .int nx, .int wh, .int off, .int cu])), (mt, .inl (ci, 100, .inl tp)), (mb, .inl (cz, 41, .inl fB)), (mz, .inl (ci, 41, .inl fZ)), (mn, .inl (ci, 41, .inl fN)), (my, .inl (ci, 4100, .inl fY))] sz)) 0 0 (va_A [(g0, .inr (2, [.ref mt, .int (nI n), .int (nI k), .ref mb, .ref mz, .ref mn, .ref my, .int nx, .int wh, .int off, .int cu])), (mt, .inl (ci, 100, .inl tp)), (mb, .inl (cz, 41, .inl fB)), (mz, .inl (ci, 41, .inl fZ)), (mn, .inl (ci, 41, .inl fN)), (my, .inl (ci, 4100, .inl fY))] sz) := by
  refine j_in (Qc := fun A => (va_Qv (fun (d : Nat → Int32) => ∀ q, d q = if 100 * b ≤ q ∧ q < 100 * b + w then fY (100 * a + (q - 100 * b)) else fY q) (j_post D (jT cb ci cz) (fun (d : Nat → Int32) => [(g0, .inr (2, [.ref mt, .int (nI n), .int (nI k), .ref mb, .ref mz, .ref mn, .ref my, .int nx, .int wh, .int off, .int cu])), (mt, .inl (ci, 100, .inl tp)), (mb, .inl (cz, 41, .inl (upd fB b (jbi bl)))), (mz, .inl (ci, 41, .inl (upd fZ b (nI w)))), (mn, .inl (ci, 41, .inl (upd fN b (fN a)))), (my, .inl (ci, 4100, .inl d))]) A) A)) (cc := cX2_move) (maxL := 4) (ret := none) (by decide) rfl (Nat.le_of_ble_eq_true rfl) ?_
  intro p e s m av below meth c A ls H locs hx hb hr hml hts hown hlk hin hA hP hK hD hS hl
  have hown : s.vm.findClass RX2 = some m.cls := hown
  have hl : lv_has ls 4 [(0, .ref g0), (1, .int (nI a)), (2, .int (nI b))] := hl
  refine lv_aload_n hx hb dX2_move_0 rfl (lv_at hl 0 rfl) ?_
  refine va_get (D := D) (ci := 2) (v := .ref mb) (C := RX2) (T := TX2) (N := 11) hx hb hts (by decide +kernel) hown hK hP 0 rfl rfl 3 (by decide) (hts (.fieldLink RX2 13 "JournalDeskModel" "isRecord" "[Z") (by decide +kernel)) (fun _ h9 => h9) rfl dX2_move_1 ?_
  refine lv_iload_n hx hb dX2_move_4 rfl (lv_at hl 2 rfl) ?_
  refine lv_aload_n hx hb dX2_move_5 rfl (lv_at hl 0 rfl) ?_
  refine va_get (D := D) (ci := 2) (v := .ref mb) (C := RX2) (T := TX2) (N := 11) hx hb hts (by decide +kernel) hown hK hP 0 rfl rfl 3 (by decide) (hts (.fieldLink RX2 13 "JournalDeskModel" "isRecord" "[Z") (by decide +kernel)) (fun _ h9 => h9) rfl dX2_move_6 ?_
  refine lv_iload_n hx hb dX2_move_9 rfl (lv_at hl 1 rfl) ?_
  refine j_zald hx hb hK hP 2 2 rfl rfl (i := a) (by omega) (by decide) (v := (jbi bl)) (hB) dX2_move_10 ?_
  refine j_zast hx hb hK hP hD hS 2 2 rfl rfl (i := b) (by omega) (by decide) (jz_nar bl) dX2_move_11 (fun H locs hP hD hS => ?_)
  have hP : va_P D vwCl [(g0, .inr (2, [.ref mt, .int (nI n), .int (nI k), .ref mb, .ref mz, .ref mn, .ref my, .int nx, .int wh, .int off, .int cu])), (mt, .inl (ci, 100, .inl tp)), (mb, .inl (cz, 41, .inl (upd fB b (jbi bl)))), (mz, .inl (ci, 41, .inl fZ)), (mn, .inl (ci, 41, .inl fN)), (my, .inl (ci, 4100, .inl fY))] H := hP
  have hD : va_D A [(g0, .inr (2, [.ref mt, .int (nI n), .int (nI k), .ref mb, .ref mz, .ref mn, .ref my, .int nx, .int wh, .int off, .int cu])), (mt, .inl (ci, 100, .inl tp)), (mb, .inl (cz, 41, .inl (upd fB b (jbi bl)))), (mz, .inl (ci, 41, .inl fZ)), (mn, .inl (ci, 41, .inl fN)), (my, .inl (ci, 4100, .inl fY))] := hD
  refine lv_aload_n hx hb dX2_move_12 rfl (lv_at hl 0 rfl) ?_
  refine va_get (D := D) (ci := 2) (v := .ref mz) (C := RX2) (T := TX2) (N := 11) hx hb hts (by decide +kernel) hown hK hP 0 rfl rfl 4 (by decide) (hts (.fieldLink RX2 17 "JournalDeskModel" "sizes" "[I") (by decide +kernel)) (fun _ h9 => h9) rfl dX2_move_13 ?_
  refine lv_iload_n hx hb dX2_move_16 rfl (lv_at hl 2 rfl) ?_
  refine lv_aload_n hx hb dX2_move_17 rfl (lv_at hl 0 rfl) ?_
  refine va_get (D := D) (ci := 2) (v := .ref mz) (C := RX2) (T := TX2) (N := 11) hx hb hts (by decide +kernel) hown hK hP 0 rfl rfl 4 (by decide) (hts (.fieldLink RX2 17 "JournalDeskModel" "sizes" "[I") (by decide +kernel)) (fun _ h9 => h9) rfl dX2_move_18 ?_
  refine lv_iload_n hx hb dX2_move_21 rfl (lv_at hl 1 rfl) ?_
  refine j_iald hx hb hK hP 3 1 rfl rfl (i := a) (by omega) (by decide) (v := (nI w)) (hZ) dX2_move_22 ?_
  refine j_iast hx hb hK hP hD hS 3 1 rfl rfl (i := b) (by omega) (by decide) dX2_move_23 (fun H locs hP hD hS => ?_)
  have hP : va_P D vwCl [(g0, .inr (2, [.ref mt, .int (nI n), .int (nI k), .ref mb, .ref mz, .ref mn, .ref my, .int nx, .int wh, .int off, .int cu])), (mt, .inl (ci, 100, .inl tp)), (mb, .inl (cz, 41, .inl (upd fB b (jbi bl)))), (mz, .inl (ci, 41, .inl (upd fZ b (nI w)))), (mn, .inl (ci, 41, .inl fN)), (my, .inl (ci, 4100, .inl fY))] H := hP
  have hD : va_D A [(g0, .inr (2, [.ref mt, .int (nI n), .int (nI k), .ref mb, .ref mz, .ref mn, .ref my, .int nx, .int wh, .int off, .int cu])), (mt, .inl (ci, 100, .inl tp)), (mb, .inl (cz, 41, .inl (upd fB b (jbi bl)))), (mz, .inl (ci, 41, .inl (upd fZ b (nI w)))), (mn, .inl (ci, 41, .inl fN)), (my, .inl (ci, 4100, .inl fY))] := hD
  refine lv_aload_n hx hb dX2_move_24 rfl (lv_at hl 0 rfl) ?_
  refine va_get (D := D) (ci := 2) (v := .ref mn) (C := RX2) (T := TX2) (N := 11) hx hb hts (by decide +kernel) hown hK hP 0 rfl rfl 5 (by decide) (hts (.fieldLink RX2 20 "JournalDeskModel" "numbers" "[I") (by decide +kernel)) (fun _ h9 => h9) rfl dX2_move_25 ?_
  refine lv_iload_n hx hb dX2_move_28 rfl (lv_at hl 2 rfl) ?_
  refine lv_aload_n hx hb dX2_move_29 rfl (lv_at hl 0 rfl) ?_
  refine va_get (D := D) (ci := 2) (v := .ref mn) (C := RX2) (T := TX2) (N := 11) hx hb hts (by decide +kernel) hown hK hP 0 rfl rfl 5 (by decide) (hts (.fieldLink RX2 20 "JournalDeskModel" "numbers" "[I") (by decide +kernel)) (fun _ h9 => h9) rfl dX2_move_30 ?_
  refine lv_iload_n hx hb dX2_move_33 rfl (lv_at hl 1 rfl) ?_
  refine j_iald hx hb hK hP 4 1 rfl rfl (i := a) (by omega) (by decide) (v := (fN a)) (rfl) dX2_move_34 ?_
  refine j_iast hx hb hK hP hD hS 4 1 rfl rfl (i := b) (by omega) (by decide) dX2_move_35 (fun H locs hP hD hS => ?_)
  have hP : va_P D vwCl [(g0, .inr (2, [.ref mt, .int (nI n), .int (nI k), .ref mb, .ref mz, .ref mn, .ref my, .int nx, .int wh, .int off, .int cu])), (mt, .inl (ci, 100, .inl tp)), (mb, .inl (cz, 41, .inl (upd fB b (jbi bl)))), (mz, .inl (ci, 41, .inl (upd fZ b (nI w)))), (mn, .inl (ci, 41, .inl (upd fN b (fN a)))), (my, .inl (ci, 4100, .inl fY))] H := hP
  have hD : va_D A [(g0, .inr (2, [.ref mt, .int (nI n), .int (nI k), .ref mb, .ref mz, .ref mn, .ref my, .int nx, .int wh, .int off, .int cu])), (mt, .inl (ci, 100, .inl tp)), (mb, .inl (cz, 41, .inl (upd fB b (jbi bl)))), (mz, .inl (ci, 41, .inl (upd fZ b (nI w)))), (mn, .inl (ci, 41, .inl (upd fN b (fN a)))), (my, .inl (ci, 4100, .inl fY))] := hD
  refine lv_iconst (v := (nI 0)) hx hb dX2_move_36 (by decide +kernel) ?_
  refine lv_istore_n (lv' := [(3, .int (nI 0)), (0, .ref g0), (1, .int (nI a)), (2, .int (nI b))]) hx hb dX2_move_37 rfl hl (by decide) rfl (fun ls hl => ?_)
  have LOOP38 : ∀ (fuel : Nat) (i : Nat) (d : Nat → Int32) (hf : w < i + fuel) (hiw : i ≤ w) (hd : ∀ q, d q = if 100 * b ≤ q ∧ q < 100 * b + i then fY (100 * a + (q - 100 * b)) else fY q) (H : Heap) (locs : List Loc), va_P D vwCl [(g0, .inr (2, [.ref mt, .int (nI n), .int (nI k), .ref mb, .ref mz, .ref mn, .ref my, .int nx, .int wh, .int off, .int cu])), (mt, .inl (ci, 100, .inl tp)), (mb, .inl (cz, 41, .inl (upd fB b (jbi bl)))), (mz, .inl (ci, 41, .inl (upd fZ b (nI w)))), (mn, .inl (ci, 41, .inl (upd fN b (fN a)))), (my, .inl (ci, 4100, .inl d))] H → va_D A [(g0, .inr (2, [.ref mt, .int (nI n), .int (nI k), .ref mb, .ref mz, .ref mn, .ref my, .int nx, .int wh, .int off, .int cu])), (mt, .inl (ci, 100, .inl tp)), (mb, .inl (cz, 41, .inl (upd fB b (jbi bl)))), (mz, .inl (ci, 41, .inl (upd fZ b (nI w)))), (mn, .inl (ci, 41, .inl (upd fN b (fN a)))), (my, .inl (ci, 4100, .inl d))] → va_S A s.heap H locs → ∀ ls : Array Slot, lv_has ls 4 [(0, .ref g0), (1, .int (nI a)), (2, .int (nI b)), (3, .int (nI i))] → W p l e rm_M_move s m av below meth c H locs 0 0 (MQ below (va_Qv (fun (d : Nat → Int32) => ∀ q, d q = if 100 * b ≤ q ∧ q < 100 * b + w then fY (100 * a + (q - 100 * b)) else fY q) (j_post D (jT cb ci cz) (fun (d : Nat → Int32) => [(g0, .inr (2, [.ref mt, .int (nI n), .int (nI k), .ref mb, .ref mz, .ref mn, .ref my, .int nx, .int wh, .int off, .int cu])), (mt, .inl (ci, 100, .inl tp)), (mb, .inl (cz, 41, .inl (upd fB b (jbi bl)))), (mz, .inl (ci, 41, .inl (upd fZ b (nI w)))), (mn, .inl (ci, 41, .inl (upd fN b (fN a)))), (my, .inl (ci, 4100, .inl d))]) A) A) av s 0 0 A) (F0 m 38 ls []) := by
    clear hP hD hS hl
    intro fuel
    induction fuel with
    | zero => intro i d hf hiw hd; exfalso; omega
    | succ fuel ih38 =>
      intro i d hf hiw hd H locs hP hD hS ls hl
      refine lv_iload_n hx hb dX2_move_38 rfl (lv_at hl 3 rfl) ?_
      refine lv_aload_n hx hb dX2_move_39 rfl (lv_at hl 0 rfl) ?_
      refine va_get (D := D) (ci := 2) (v := .ref mz) (C := RX2) (T := TX2) (N := 11) hx hb hts (by decide +kernel) hown hK hP 0 rfl rfl 4 (by decide) (hts (.fieldLink RX2 17 "JournalDeskModel" "sizes" "[I") (by decide +kernel)) (fun _ h9 => h9) rfl dX2_move_40 ?_
      refine lv_iload_n hx hb dX2_move_43 rfl (lv_at hl 1 rfl) ?_
      refine j_iald hx hb hK hP 3 1 rfl rfl (i := a) (by omega) (by decide) (v := (nI w)) (j_us hZ) dX2_move_44 ?_
      refine lv_icmp_ge (tgt := 76) hx hb dX2_move_45 (by decide) (fun c_45_1 => ?_) (fun c_45_1 => ?_)
      · rw [nI_leI (show w < 2 ^ 31 by omega) (show i < 2 ^ 31 by omega)] at c_45_1
        exact j_vret (d) hx hb hr hlk hK hP hD hS ((show i = w by omega) ▸ hd) dX2_move_76
      · rw [nI_leI (show w < 2 ^ 31 by omega) (show i < 2 ^ 31 by omega)] at c_45_1
        refine lv_aload_n hx hb dX2_move_48 rfl (lv_at hl 0 rfl) ?_
        refine va_get (D := D) (ci := 2) (v := .ref my) (C := RX2) (T := TX2) (N := 11) hx hb hts (by decide +kernel) hown hK hP 0 rfl rfl 6 (by decide) (hts (.fieldLink RX2 23 "JournalDeskModel" "bytes" "[I") (by decide +kernel)) (fun _ h9 => h9) rfl dX2_move_49 ?_
        refine lv_bipush (v := (nI 100)) hx hb dX2_move_52 (by decide +kernel) ?_
        refine lv_iload_n hx hb dX2_move_54 rfl (lv_at hl 2 rfl) ?_
        refine lv_imul hx hb dX2_move_55 ?_
        refine jt_i (y := (nI (100 * b))) (pk_mul _ _) ?_
        refine lv_iload_n hx hb dX2_move_56 rfl (lv_at hl 3 rfl) ?_
        refine lv_iadd hx hb dX2_move_57 ?_
        refine jt_i (y := (nI ((100 * b) + i))) (nI_add _ _) ?_
        refine lv_aload_n hx hb dX2_move_58 rfl (lv_at hl 0 rfl) ?_
        refine va_get (D := D) (ci := 2) (v := .ref my) (C := RX2) (T := TX2) (N := 11) hx hb hts (by decide +kernel) hown hK hP 0 rfl rfl 6 (by decide) (hts (.fieldLink RX2 23 "JournalDeskModel" "bytes" "[I") (by decide +kernel)) (fun _ h9 => h9) rfl dX2_move_59 ?_
        refine lv_bipush (v := (nI 100)) hx hb dX2_move_62 (by decide +kernel) ?_
        refine lv_iload_n hx hb dX2_move_64 rfl (lv_at hl 1 rfl) ?_
        refine lv_imul hx hb dX2_move_65 ?_
        refine jt_i (y := (nI (100 * a))) (pk_mul _ _) ?_
        refine lv_iload_n hx hb dX2_move_66 rfl (lv_at hl 3 rfl) ?_
        refine lv_iadd hx hb dX2_move_67 ?_
        refine jt_i (y := (nI ((100 * a) + i))) (nI_add _ _) ?_
        refine j_iald hx hb hK hP 5 1 rfl rfl (i := (100 * a) + i) (by omega) (by decide) (v := (fY (100 * a + i))) (by rw [hd, if_neg (by omega)]) dX2_move_68 ?_
        refine j_iast hx hb hK hP hD hS 5 1 rfl rfl (i := (100 * b) + i) (by omega) (by decide) dX2_move_69 (fun H locs hP hD hS => ?_)
        have hP : va_P D vwCl [(g0, .inr (2, [.ref mt, .int (nI n), .int (nI k), .ref mb, .ref mz, .ref mn, .ref my, .int nx, .int wh, .int off, .int cu])), (mt, .inl (ci, 100, .inl tp)), (mb, .inl (cz, 41, .inl (upd fB b (jbi bl)))), (mz, .inl (ci, 41, .inl (upd fZ b (nI w)))), (mn, .inl (ci, 41, .inl (upd fN b (fN a)))), (my, .inl (ci, 4100, .inl (upd d ((100 * b) + i) (fY (100 * a + i)))))] H := hP
        have hD : va_D A [(g0, .inr (2, [.ref mt, .int (nI n), .int (nI k), .ref mb, .ref mz, .ref mn, .ref my, .int nx, .int wh, .int off, .int cu])), (mt, .inl (ci, 100, .inl tp)), (mb, .inl (cz, 41, .inl (upd fB b (jbi bl)))), (mz, .inl (ci, 41, .inl (upd fZ b (nI w)))), (mn, .inl (ci, 41, .inl (upd fN b (fN a)))), (my, .inl (ci, 4100, .inl (upd d ((100 * b) + i) (fY (100 * a + i)))))] := hD
        refine lv_iinc (v := (nI (i + 1))) (lv' := [(3, .int (nI (i + 1))), (0, .ref g0), (1, .int (nI a)), (2, .int (nI b))]) hx hb dX2_move_70 hl (k := 3) rfl (nI_1 _) (by decide) rfl (fun ls hl => ?_)
        refine lv_goto (tgt := 38) hx hb dX2_move_73 (by decide) ?_
        exact ih38 (i + 1) _ (by omega) (by omega) (j_mv1 hd) _ _ hP hD hS ls (lv_sub hl [1, 2, 3, 0] rfl)
  exact LOOP38 (w + 1) 0 fY (by omega) (by omega) (fun q => by rw [if_neg (by omega)]) _ _ hP hD hS ls (lv_sub hl [1, 2, 3, 0] rfl)
end
section
abbrev rm_M_drop : Room := { frames := 2, cells := 0, slots := 0, locals := 42 }
set_option maxHeartbeats 4000000 in
set_option maxRecDepth 100000 in
/-- drop, in the reference -/
theorem c_M_drop (l : Launch) (D : va_G) (cb ci cz : ClassId) (g0 mt mb mz mn my : Nat) (tp fB fZ fN fY : Nat → Int32) (n : Nat) (t : Nat → Int32) (k : Nat) (r : Nat → Bool) (z : Nat → Nat) (u : Nat → Int32) (y : Nat → Nat → Int32) (nx wh : Int32) (pw ct : Bool) (cu : Int32) (mv : Int32) (hn : n ≤ 100) (ht : ∀ j, j < n → tp j = t j) (hus : js (jse r z) k ≤ 40) (hz : ∀ j, j < k → z j ≤ 100) (hE : jE fB fZ fN fY k r z u y) (hcu : cu = -1 ↔ ct = false) (sz : Nat) : Met l yX2_drop wsX2_drop2 rm_M_drop (va_Pc [.ref g0, .int mv] (j_pre D (jT cb ci cz) [(g0, .inr (2, [.ref mt, .int (nI n), .int (nI k), .ref mb, .ref mz, .ref mn, .ref my, .int nx, .int wh, .int (jbi (!pw)), .int cu])), (mt, .inl (ci, 100, .inl tp)), (mb, .inl (cz, 41, .inl fB)), (mz, .inl (ci, 41, .inl fZ)), (mn, .inl (ci, 41, .inl fN)), (my, .inl (ci, 4100, .inl fY))] sz)) (va_Qi (fun (x : Int32) (a : jMt) => x = (jop_dr ((n, t), (k, r, z, u, y), (nx, wh, pw, ct)) mv).1 ∧ jMk (jop_dr ((n, t), (k, r, z, u, y), (nx, wh, pw, ct)) mv).2 a) (j_post D (jT cb ci cz) (jMw g0 mt mb mz mn my ci cz) (va_A [(g0, .inr (2, [.ref mt, .int (nI n), .int (nI k), .ref mb, .ref mz, .ref mn, .ref my, .int nx, .int wh, .int (jbi (!pw)), .int cu])), (mt, .inl (ci, 100, .inl tp)), (mb, .inl (cz, 41, .inl fB)), (mz, .inl (ci, 41, .inl fZ)), (mn, .inl (ci, 41, .inl fN)), (my, .inl (ci, 4100, .inl fY))] sz)) (va_A [(g0, .inr (2, [.ref mt, .int (nI n), .int (nI k), .ref mb, .ref mz, .ref mn, .ref my, .int nx, .int wh, .int (jbi (!pw)), .int cu])), (mt, .inl (ci, 100, .inl tp)), (mb, .inl (cz, 41, .inl fB)), (mz, .inl (ci, 41, .inl fZ)), (mn, .inl (ci, 41, .inl fN)), (my, .inl (ci, 4100, .inl fY))] sz)) 0 0 (va_A [(g0, .inr (2, [.ref mt, .int (nI n), .int (nI k), .ref mb, .ref mz, .ref mn, .ref my, .int nx, .int wh, .int (jbi (!pw)), .int cu])), (mt, .inl (ci, 100, .inl tp)), (mb, .inl (cz, 41, .inl fB)), (mz, .inl (ci, 41, .inl fZ)), (mn, .inl (ci, 41, .inl fN)), (my, .inl (ci, 4100, .inl fY))] sz) := by
  refine j_in (Qc := fun A => (va_Qi (fun (x : Int32) (a : jMt) => x = (jop_dr ((n, t), (k, r, z, u, y), (nx, wh, pw, ct)) mv).1 ∧ jMk (jop_dr ((n, t), (k, r, z, u, y), (nx, wh, pw, ct)) mv).2 a) (j_post D (jT cb ci cz) (jMw g0 mt mb mz mn my ci cz) A) A)) (cc := cX2_drop) (maxL := 7) (ret := (some .int)) (by decide) rfl (Nat.le_of_ble_eq_true rfl) ?_
  intro p e s m av below meth c A ls H locs hx hb hr hml hts hown hlk hin hA hP hK hD hS hl
  have hown : s.vm.findClass RX2 = some m.cls := hown
  have hl : lv_has ls 7 [(0, .ref g0), (1, .int mv)] := hl
  have hk40 : k ≤ 40 := Nat.le_trans (js_ge (jse_pos r z) k) hus
  have hfk := fun mm => jdrF_le k r mm
  refine lv_aload_n hx hb dX2_drop_0 rfl (lv_at hl 0 rfl) ?_
  refine va_get (D := D) (ci := 2) (v := .int (jbi (!pw))) (C := RX2) (T := TX2) (N := 11) hx hb hts (by decide +kernel) hown hK hP 0 rfl rfl 9 (by decide) (hts (.fieldLink RX2 40 "JournalDeskModel" "off" "Z") (by decide +kernel)) (fun _ h9 => h9) rfl dX2_drop_1 ?_
  refine lv_if_ne (tgt := 30) hx hb dX2_drop_4 (by decide) (fun c_4_1 => ?_) (fun c_4_1 => ?_)
  · have hpw : pw = false := jbn_t c_4_1
    have href : pw = false ∨ mv < 0 ∨ nI (js (jcn r) k) < mv ∨ 40 < js (jse r z) k + 1 := Or.inl hpw
    refine lv_iconst (v := (-1)) hx hb dX2_drop_30 (by decide +kernel) ?_
    exact j_iret (v := (-1)) ((tp, fB, fZ, fN, fY, n, k, nx, wh, (jbi (!pw)), cu)) hx hb hr hlk hK hP hD hS (by rw [jdr_ref href]; exact ⟨rfl, jMk_i rfl hn ht rfl hus hz hE rfl rfl rfl hcu⟩) dX2_drop_31
  · have hpw : pw = true := jbn_f c_4_1
    refine lv_iload_n hx hb dX2_drop_7 rfl (lv_at hl 1 rfl) ?_
    refine lv_if_lt (tgt := 30) hx hb dX2_drop_8 (by decide) (fun c_8_2 => ?_) (fun c_8_2 => ?_)
    · have href : pw = false ∨ mv < 0 ∨ nI (js (jcn r) k) < mv ∨ 40 < js (jse r z) k + 1 := Or.inr (Or.inl c_8_2)
      refine lv_iconst (v := (-1)) hx hb dX2_drop_30 (by decide +kernel) ?_
      exact j_iret (v := (-1)) ((tp, fB, fZ, fN, fY, n, k, nx, wh, (jbi (!pw)), cu)) hx hb hr hlk hK hP hD hS (by rw [jdr_ref href]; exact ⟨rfl, jMk_i rfl hn ht rfl hus hz hE rfl rfl rfl hcu⟩) dX2_drop_31
    · have h0m := c_8_2
      refine lv_iload_n hx hb dX2_drop_11 rfl (lv_at hl 1 rfl) ?_
      refine lv_aload_n hx hb dX2_drop_12 rfl (lv_at hl 0 rfl) ?_
      refine j_calli (wr := []) hP hD hS hA [0, 1, 2, 3, 4, 5] [] rfl rfl (by decide) (by decide) (va_runV (As := []) (rest := [.int mv]) ⟨hx, hb, hml, hown, hts⟩ (c_M_records l D cb ci cz g0 mt mb mz mn my tp fB fZ fN fY n k nx wh (jbi (!pw)) cu r hE.1 (by omega) H.size) (cwV 0 hts hq2_drop_X2_records rfl rfl rfl (by decide +kernel) ⟨Nat.le_of_ble_eq_true rfl, Nat.le_of_ble_eq_true rfl⟩) (j_preV (ci := 2) (q0 := 0) [0, 1, 2, 3, 4, 5] [0, 1, 2] hK hP hD rfl rfl rfl rfl rfl rfl) rfl rfl hl.1 rfl (lv_room (Nat.le_of_ble_eq_true rfl)) dX2_drop_13 ⟨Nat.le_of_ble_eq_true rfl, Nat.le_of_ble_eq_true rfl⟩) (fun r13 u9 H locs hw hP hD hS => ?_)
      have hP : va_P D vwCl [(g0, .inr (2, [.ref mt, .int (nI n), .int (nI k), .ref mb, .ref mz, .ref mn, .ref my, .int nx, .int wh, .int (jbi (!pw)), .int cu])), (mt, .inl (ci, 100, .inl tp)), (mb, .inl (cz, 41, .inl fB)), (mz, .inl (ci, 41, .inl fZ)), (mn, .inl (ci, 41, .inl fN)), (my, .inl (ci, 4100, .inl fY))] H := hP
      have hD : va_D A [(g0, .inr (2, [.ref mt, .int (nI n), .int (nI k), .ref mb, .ref mz, .ref mn, .ref my, .int nx, .int wh, .int (jbi (!pw)), .int cu])), (mt, .inl (ci, 100, .inl tp)), (mb, .inl (cz, 41, .inl fB)), (mz, .inl (ci, 41, .inl fZ)), (mn, .inl (ci, 41, .inl fN)), (my, .inl (ci, 4100, .inl fY))] := hD
      have hw : r13 = (nI (js (jcn r) k)) := hw
      subst hw
      refine lv_icmp_gt (tgt := 30) hx hb dX2_drop_16 (by decide) (fun c_16_3 => ?_) (fun c_16_3 => ?_)
      · have href : pw = false ∨ mv < 0 ∨ nI (js (jcn r) k) < mv ∨ 40 < js (jse r z) k + 1 := Or.inr (Or.inr (Or.inl c_16_3))
        refine lv_iconst (v := (-1)) hx hb dX2_drop_30 (by decide +kernel) ?_
        exact j_iret (v := (-1)) ((tp, fB, fZ, fN, fY, n, k, nx, wh, (jbi (!pw)), cu)) hx hb hr hlk hK hP hD hS (by rw [jdr_ref href]; exact ⟨rfl, jMk_i rfl hn ht rfl hus hz hE rfl rfl rfl hcu⟩) dX2_drop_31
      · have h1m := c_16_3
        obtain ⟨mm, hm31, hmv⟩ := nI_of h0m
        have hmm : mm ≤ js (jcn r) k := by
          have q := jct_le r k
          have q3 := h1m
          rw [hmv, nI_ltI (by omega) hm31] at q3
          omega
        rw [hmv] at hl
        refine lv_aload_n hx hb dX2_drop_19 rfl (lv_at hl 0 rfl) ?_
        refine j_calli (wr := []) hP hD hS hA [0, 1, 2, 3, 4, 5] [] rfl rfl (by decide) (by decide) (va_runV (As := []) (rest := []) ⟨hx, hb, hml, hown, hts⟩ (c_M_used l D cb ci cz g0 mt mb mz mn my tp fB fZ fN fY n k nx wh (jbi (!pw)) cu r z hE.1 (by omega) hE.2.1 hz H.size) (cwV 0 hts hq2_drop_X2_used rfl rfl rfl (by decide +kernel) ⟨Nat.le_of_ble_eq_true rfl, Nat.le_of_ble_eq_true rfl⟩) (j_preV (ci := 2) (q0 := 0) [0, 1, 2, 3, 4, 5] [0, 1, 2] hK hP hD rfl rfl rfl rfl rfl rfl) rfl rfl hl.1 rfl (lv_room (Nat.le_of_ble_eq_true rfl)) dX2_drop_20 ⟨Nat.le_of_ble_eq_true rfl, Nat.le_of_ble_eq_true rfl⟩) (fun r20 u9 H locs hw hP hD hS => ?_)
        have hP : va_P D vwCl [(g0, .inr (2, [.ref mt, .int (nI n), .int (nI k), .ref mb, .ref mz, .ref mn, .ref my, .int nx, .int wh, .int (jbi (!pw)), .int cu])), (mt, .inl (ci, 100, .inl tp)), (mb, .inl (cz, 41, .inl fB)), (mz, .inl (ci, 41, .inl fZ)), (mn, .inl (ci, 41, .inl fN)), (my, .inl (ci, 4100, .inl fY))] H := hP
        have hD : va_D A [(g0, .inr (2, [.ref mt, .int (nI n), .int (nI k), .ref mb, .ref mz, .ref mn, .ref my, .int nx, .int wh, .int (jbi (!pw)), .int cu])), (mt, .inl (ci, 100, .inl tp)), (mb, .inl (cz, 41, .inl fB)), (mz, .inl (ci, 41, .inl fZ)), (mn, .inl (ci, 41, .inl fN)), (my, .inl (ci, 4100, .inl fY))] := hD
        have hw : r20 = (nI (js (jse r z) k)) := hw
        subst hw
        refine lv_iconst (v := (nI 1)) hx hb dX2_drop_23 (by decide +kernel) ?_
        refine lv_iadd hx hb dX2_drop_24 ?_
        refine jt_i (y := (nI ((js (jse r z) k) + 1))) (nI_add _ _) ?_
        refine lv_bipush (v := (nI 40)) hx hb dX2_drop_25 (by decide +kernel) ?_
        refine lv_icmp_le (tgt := 32) hx hb dX2_drop_27 (by decide) (fun c_27_4 => ?_) (fun c_27_4 => ?_)
        · rw [nI_leI (show (js (jse r z) k) + 1 < 2 ^ 31 by omega) (show 40 < 2 ^ 31 by omega)] at c_27_4
          have hfit := c_27_4
          refine lv_aload_n hx hb dX2_drop_32 rfl (lv_at hl 0 rfl) ?_
          refine j_calli (wr := []) hP hD hS hA [0, 1, 2, 3, 4, 5] [] rfl rfl (by decide) (by decide) (va_runV (As := []) (rest := []) ⟨hx, hb, hml, hown, hts⟩ (c_M_isCut l D cb ci cz g0 mt mb mz mn my tp fB fZ fN fY n k nx wh (jbi (!pw)) cu ct hcu H.size) (cwV 0 hts hq2_drop_X2_isCut rfl rfl rfl (by decide +kernel) ⟨Nat.le_of_ble_eq_true rfl, Nat.le_of_ble_eq_true rfl⟩) (j_preV (ci := 2) (q0 := 0) [0, 1, 2, 3, 4, 5] [0, 1, 2] hK hP hD rfl rfl rfl rfl rfl rfl) rfl rfl hl.1 rfl (lv_room (Nat.le_of_ble_eq_true rfl)) dX2_drop_33 ⟨Nat.le_of_ble_eq_true rfl, Nat.le_of_ble_eq_true rfl⟩) (fun r33 a9 H locs hw hP hD hS => ?_)
          obtain ⟨o1, q1⟩ := a9
          have hP : va_P D vwCl [(g0, .inr (2, [.ref mt, .int (nI n), .int (nI k), .ref mb, .ref mz, .ref mn, .ref my, .int nx, .int wh, .int o1, .int q1])), (mt, .inl (ci, 100, .inl tp)), (mb, .inl (cz, 41, .inl fB)), (mz, .inl (ci, 41, .inl fZ)), (mn, .inl (ci, 41, .inl fN)), (my, .inl (ci, 4100, .inl fY))] H := hP
          have hD : va_D A [(g0, .inr (2, [.ref mt, .int (nI n), .int (nI k), .ref mb, .ref mz, .ref mn, .ref my, .int nx, .int wh, .int o1, .int q1])), (mt, .inl (ci, 100, .inl tp)), (mb, .inl (cz, 41, .inl fB)), (mz, .inl (ci, 41, .inl fZ)), (mn, .inl (ci, 41, .inl fN)), (my, .inl (ci, 4100, .inl fY))] := hD
          obtain ⟨hwx, hwf, hwt⟩ := hw
          refine jt_i (y := jbi ct) hwx ?_
          refine lv_if_eq (tgt := 42) hx hb dX2_drop_36 (by decide) (fun c_36_5 => ?_) (fun c_36_5 => ?_)
          · have hct : ct = false := jbi_0.mp c_36_5
            obtain ⟨ho1, hq1⟩ := Prod.mk.inj (hwf hct)
            rw [ho1, hq1] at hP hD
            refine lv_aload_n hx hb dX2_drop_42 rfl (lv_at hl 0 rfl) ?_
            refine lv_aload_n hx hb dX2_drop_43 rfl (lv_at hl 0 rfl) ?_
            refine va_get (D := D) (ci := 2) (v := .int wh) (C := RX2) (T := TX2) (N := 11) hx hb hts (by decide +kernel) hown hK hP 0 rfl rfl 8 (by decide) (hts (.fieldLink RX2 55 "JournalDeskModel" "whole" "I") (by decide +kernel)) (fun _ h9 => h9) rfl dX2_drop_44 ?_
            refine lv_iconst (v := (nI 1)) hx hb dX2_drop_47 (by decide +kernel) ?_
            refine lv_iadd hx hb dX2_drop_48 ?_
            refine jt_i (y := (wh + 1)) (rfl) ?_
            refine va_put (D := D) (ci := 2) (v := .int (wh + 1)) (ty := .int) (C := RX2) (T := TX2) (N := 11) hx hb hts (by decide +kernel) tyX2 tyX2_ok nmX2 hown hK hP hD hS 0 rfl rfl 8 (by decide) (hts (.fieldLink RX2 55 "JournalDeskModel" "whole" "I") (by decide +kernel)) (fun _ h9 => h9) rfl (by decide +kernel) (rfl) (rfl) (Nat.le_of_ble_eq_true rfl) dX2_drop_49 (fun H locs hP hD hS => ?_)
            have hP : va_P D vwCl [(g0, .inr (2, [.ref mt, .int (nI n), .int (nI k), .ref mb, .ref mz, .ref mn, .ref my, .int nx, .int (wh + 1), .int (jbi (!pw)), .int cu])), (mt, .inl (ci, 100, .inl tp)), (mb, .inl (cz, 41, .inl fB)), (mz, .inl (ci, 41, .inl fZ)), (mn, .inl (ci, 41, .inl fN)), (my, .inl (ci, 4100, .inl fY))] H := hP
            have hD : va_D A [(g0, .inr (2, [.ref mt, .int (nI n), .int (nI k), .ref mb, .ref mz, .ref mn, .ref my, .int nx, .int (wh + 1), .int (jbi (!pw)), .int cu])), (mt, .inl (ci, 100, .inl tp)), (mb, .inl (cz, 41, .inl fB)), (mz, .inl (ci, 41, .inl fZ)), (mn, .inl (ci, 41, .inl fN)), (my, .inl (ci, 4100, .inl fY))] := hD
            refine lv_aload_n hx hb dX2_drop_52 rfl (lv_at hl 0 rfl) ?_
            refine va_get (D := D) (ci := 2) (v := .ref mb) (C := RX2) (T := TX2) (N := 11) hx hb hts (by decide +kernel) hown hK hP 0 rfl rfl 3 (by decide) (hts (.fieldLink RX2 13 "JournalDeskModel" "isRecord" "[Z") (by decide +kernel)) (fun _ h9 => h9) rfl dX2_drop_53 ?_
            refine lv_aload_n hx hb dX2_drop_56 rfl (lv_at hl 0 rfl) ?_
            refine va_get (D := D) (ci := 2) (v := .int (nI k)) (C := RX2) (T := TX2) (N := 11) hx hb hts (by decide +kernel) hown hK hP 0 rfl rfl 2 (by decide) (hts (.fieldLink RX2 33 "JournalDeskModel" "kept" "I") (by decide +kernel)) (fun _ h9 => h9) rfl dX2_drop_57 ?_
            refine lv_iconst (v := (nI 0)) hx hb dX2_drop_60 (by decide +kernel) ?_
            refine j_zast hx hb hK hP hD hS 2 2 rfl rfl (i := k) (by omega) (by decide) (by decide +kernel) dX2_drop_61 (fun H locs hP hD hS => ?_)
            have hP : va_P D vwCl [(g0, .inr (2, [.ref mt, .int (nI n), .int (nI k), .ref mb, .ref mz, .ref mn, .ref my, .int nx, .int (wh + 1), .int (jbi (!pw)), .int cu])), (mt, .inl (ci, 100, .inl tp)), (mb, .inl (cz, 41, .inl (upd fB k (nI 0)))), (mz, .inl (ci, 41, .inl fZ)), (mn, .inl (ci, 41, .inl fN)), (my, .inl (ci, 4100, .inl fY))] H := hP
            have hD : va_D A [(g0, .inr (2, [.ref mt, .int (nI n), .int (nI k), .ref mb, .ref mz, .ref mn, .ref my, .int nx, .int (wh + 1), .int (jbi (!pw)), .int cu])), (mt, .inl (ci, 100, .inl tp)), (mb, .inl (cz, 41, .inl (upd fB k (nI 0)))), (mz, .inl (ci, 41, .inl fZ)), (mn, .inl (ci, 41, .inl fN)), (my, .inl (ci, 4100, .inl fY))] := hD
            refine lv_aload_n hx hb dX2_drop_62 rfl (lv_at hl 0 rfl) ?_
            refine va_get (D := D) (ci := 2) (v := .ref mz) (C := RX2) (T := TX2) (N := 11) hx hb hts (by decide +kernel) hown hK hP 0 rfl rfl 4 (by decide) (hts (.fieldLink RX2 17 "JournalDeskModel" "sizes" "[I") (by decide +kernel)) (fun _ h9 => h9) rfl dX2_drop_63 ?_
            refine lv_aload_n hx hb dX2_drop_66 rfl (lv_at hl 0 rfl) ?_
            refine va_get (D := D) (ci := 2) (v := .int (nI k)) (C := RX2) (T := TX2) (N := 11) hx hb hts (by decide +kernel) hown hK hP 0 rfl rfl 2 (by decide) (hts (.fieldLink RX2 33 "JournalDeskModel" "kept" "I") (by decide +kernel)) (fun _ h9 => h9) rfl dX2_drop_67 ?_
            refine lv_iconst (v := (nI 0)) hx hb dX2_drop_70 (by decide +kernel) ?_
            refine j_iast hx hb hK hP hD hS 3 1 rfl rfl (i := k) (by omega) (by decide) dX2_drop_71 (fun H locs hP hD hS => ?_)
            have hP : va_P D vwCl [(g0, .inr (2, [.ref mt, .int (nI n), .int (nI k), .ref mb, .ref mz, .ref mn, .ref my, .int nx, .int (wh + 1), .int (jbi (!pw)), .int cu])), (mt, .inl (ci, 100, .inl tp)), (mb, .inl (cz, 41, .inl (upd fB k (nI 0)))), (mz, .inl (ci, 41, .inl (upd fZ k (nI 0)))), (mn, .inl (ci, 41, .inl fN)), (my, .inl (ci, 4100, .inl fY))] H := hP
            have hD : va_D A [(g0, .inr (2, [.ref mt, .int (nI n), .int (nI k), .ref mb, .ref mz, .ref mn, .ref my, .int nx, .int (wh + 1), .int (jbi (!pw)), .int cu])), (mt, .inl (ci, 100, .inl tp)), (mb, .inl (cz, 41, .inl (upd fB k (nI 0)))), (mz, .inl (ci, 41, .inl (upd fZ k (nI 0)))), (mn, .inl (ci, 41, .inl fN)), (my, .inl (ci, 4100, .inl fY))] := hD
            refine lv_aload_n hx hb dX2_drop_72 rfl (lv_at hl 0 rfl) ?_
            refine lv_aload_n hx hb dX2_drop_73 rfl (lv_at hl 0 rfl) ?_
            refine va_get (D := D) (ci := 2) (v := .int (nI k)) (C := RX2) (T := TX2) (N := 11) hx hb hts (by decide +kernel) hown hK hP 0 rfl rfl 2 (by decide) (hts (.fieldLink RX2 33 "JournalDeskModel" "kept" "I") (by decide +kernel)) (fun _ h9 => h9) rfl dX2_drop_74 ?_
            refine lv_iconst (v := (nI 1)) hx hb dX2_drop_77 (by decide +kernel) ?_
            refine lv_iadd hx hb dX2_drop_78 ?_
            refine jt_i (y := (nI (k + 1))) (nI_add _ _) ?_
            refine va_put (D := D) (ci := 2) (v := .int (nI (k + 1))) (ty := .int) (C := RX2) (T := TX2) (N := 11) hx hb hts (by decide +kernel) tyX2 tyX2_ok nmX2 hown hK hP hD hS 0 rfl rfl 2 (by decide) (hts (.fieldLink RX2 33 "JournalDeskModel" "kept" "I") (by decide +kernel)) (fun _ h9 => h9) rfl (by decide +kernel) (rfl) (rfl) (Nat.le_of_ble_eq_true rfl) dX2_drop_79 (fun H locs hP hD hS => ?_)
            have hP : va_P D vwCl [(g0, .inr (2, [.ref mt, .int (nI n), .int (nI (k + 1)), .ref mb, .ref mz, .ref mn, .ref my, .int nx, .int (wh + 1), .int (jbi (!pw)), .int cu])), (mt, .inl (ci, 100, .inl tp)), (mb, .inl (cz, 41, .inl (upd fB k (nI 0)))), (mz, .inl (ci, 41, .inl (upd fZ k (nI 0)))), (mn, .inl (ci, 41, .inl fN)), (my, .inl (ci, 4100, .inl fY))] H := hP
            have hD : va_D A [(g0, .inr (2, [.ref mt, .int (nI n), .int (nI (k + 1)), .ref mb, .ref mz, .ref mn, .ref my, .int nx, .int (wh + 1), .int (jbi (!pw)), .int cu])), (mt, .inl (ci, 100, .inl tp)), (mb, .inl (cz, 41, .inl (upd fB k (nI 0)))), (mz, .inl (ci, 41, .inl (upd fZ k (nI 0)))), (mn, .inl (ci, 41, .inl fN)), (my, .inl (ci, 4100, .inl fY))] := hD
            refine lv_aload_n hx hb dX2_drop_82 rfl (lv_at hl 0 rfl) ?_
            have hE1 := jE_drp hE
            refine j_calli (wr := []) hP hD hS hA [0, 1, 2, 3, 4, 5] [] rfl rfl (by decide) (by decide) (va_runV (As := []) (rest := []) ⟨hx, hb, hml, hown, hts⟩ (c_M_records l D cb ci cz g0 mt mb mz mn my tp (upd fB k (nI 0)) (upd fZ k (nI 0)) fN fY n (k + 1) nx (wh + 1) (jbi (!pw)) cu (va_up r k false) hE1.1 (by omega) H.size) (cwV 0 hts hq2_drop_X2_records rfl rfl rfl (by decide +kernel) ⟨Nat.le_of_ble_eq_true rfl, Nat.le_of_ble_eq_true rfl⟩) (j_preV (ci := 2) (q0 := 0) [0, 1, 2, 3, 4, 5] [0, 1, 2] hK hP hD rfl rfl rfl rfl rfl rfl) rfl rfl hl.1 rfl (lv_room (Nat.le_of_ble_eq_true rfl)) dX2_drop_83 ⟨Nat.le_of_ble_eq_true rfl, Nat.le_of_ble_eq_true rfl⟩) (fun r83 u9 H locs hw hP hD hS => ?_)
            have hP : va_P D vwCl [(g0, .inr (2, [.ref mt, .int (nI n), .int (nI (k + 1)), .ref mb, .ref mz, .ref mn, .ref my, .int nx, .int (wh + 1), .int (jbi (!pw)), .int cu])), (mt, .inl (ci, 100, .inl tp)), (mb, .inl (cz, 41, .inl (upd fB k (nI 0)))), (mz, .inl (ci, 41, .inl (upd fZ k (nI 0)))), (mn, .inl (ci, 41, .inl fN)), (my, .inl (ci, 4100, .inl fY))] H := hP
            have hD : va_D A [(g0, .inr (2, [.ref mt, .int (nI n), .int (nI (k + 1)), .ref mb, .ref mz, .ref mn, .ref my, .int nx, .int (wh + 1), .int (jbi (!pw)), .int cu])), (mt, .inl (ci, 100, .inl tp)), (mb, .inl (cz, 41, .inl (upd fB k (nI 0)))), (mz, .inl (ci, 41, .inl (upd fZ k (nI 0)))), (mn, .inl (ci, 41, .inl fN)), (my, .inl (ci, 4100, .inl fY))] := hD
            have hw : r83 = (nI (js (jcn (va_up r k false)) (k + 1))) := hw
            subst hw
            refine lv_iload_n hx hb dX2_drop_86 rfl (lv_at hl 1 rfl) ?_
            refine lv_isub hx hb dX2_drop_87 ?_
            refine jt_i (y := (nI (js (jcn r) k - mm))) (by rw [jcn_drp]; exact pk_sub hmm) ?_
            refine lv_istore_n (lv' := [(2, .int (nI (js (jcn r) k - mm))), (0, .ref g0), (1, .int (nI mm))]) hx hb dX2_drop_88 rfl hl (by decide) rfl (fun ls hl => ?_)
            refine lv_aload_n hx hb dX2_drop_89 rfl (lv_at hl 1 rfl) ?_
            refine va_get (D := D) (ci := 2) (v := .int (nI (k + 1))) (C := RX2) (T := TX2) (N := 11) hx hb hts (by decide +kernel) hown hK hP 0 rfl rfl 2 (by decide) (hts (.fieldLink RX2 33 "JournalDeskModel" "kept" "I") (by decide +kernel)) (fun _ h9 => h9) rfl dX2_drop_90 ?_
            refine lv_iconst (v := (nI 1)) hx hb dX2_drop_93 (by decide +kernel) ?_
            refine lv_isub hx hb dX2_drop_94 ?_
            refine jt_i (y := (nI k)) (pk_sub (Nat.le_add_left 1 k)) ?_
            refine lv_istore_n (lv' := [(3, .int (nI k)), (2, .int (nI (js (jcn r) k - mm))), (0, .ref g0), (1, .int (nI mm))]) hx hb dX2_drop_95 rfl hl (by decide) rfl (fun ls hl => ?_)
            refine lv_aload_n hx hb dX2_drop_96 rfl (lv_at hl 2 rfl) ?_
            refine va_get (D := D) (ci := 2) (v := .int (nI (k + 1))) (C := RX2) (T := TX2) (N := 11) hx hb hts (by decide +kernel) hown hK hP 0 rfl rfl 2 (by decide) (hts (.fieldLink RX2 33 "JournalDeskModel" "kept" "I") (by decide +kernel)) (fun _ h9 => h9) rfl dX2_drop_97 ?_
            refine lv_iconst (v := (nI 1)) hx hb dX2_drop_100 (by decide +kernel) ?_
            refine lv_isub hx hb dX2_drop_101 ?_
            refine jt_i (y := ((nI (k + 1)) + (-1))) (j_m1sub (k + 1)) ?_
            refine lv_istore (lv' := [(4, .int ((nI (k + 1)) + (-1))), (3, .int (nI k)), (2, .int (nI (js (jcn r) k - mm))), (0, .ref g0), (1, .int (nI mm))]) hx hb dX2_drop_102 hl (by decide) rfl (fun ls hl => ?_)
            have LOOP104 : ∀ (fuel : Nat) (i : Nat) (d : Nat) (hf : i < fuel) (hik : i ≤ k + 1) (hdk : d ≤ k) (hfin : jfs (jPd (va_up r k false) mm) d i = jdrF k r mm) (H : Heap) (locs : List Loc), va_P D vwCl [(g0, .inr (2, [.ref mt, .int (nI n), .int (nI (k + 1)), .ref mb, .ref mz, .ref mn, .ref my, .int nx, .int (wh + 1), .int (jbi (!pw)), .int cu])), (mt, .inl (ci, 100, .inl tp)), (mb, .inl (cz, 41, .inl (upd fB k (nI 0)))), (mz, .inl (ci, 41, .inl (upd fZ k (nI 0)))), (mn, .inl (ci, 41, .inl fN)), (my, .inl (ci, 4100, .inl fY))] H → va_D A [(g0, .inr (2, [.ref mt, .int (nI n), .int (nI (k + 1)), .ref mb, .ref mz, .ref mn, .ref my, .int nx, .int (wh + 1), .int (jbi (!pw)), .int cu])), (mt, .inl (ci, 100, .inl tp)), (mb, .inl (cz, 41, .inl (upd fB k (nI 0)))), (mz, .inl (ci, 41, .inl (upd fZ k (nI 0)))), (mn, .inl (ci, 41, .inl fN)), (my, .inl (ci, 4100, .inl fY))] → va_S A s.heap H locs → ∀ ls : Array Slot, lv_has ls 7 [(0, .ref g0), (1, .int (nI mm)), (2, .int (nI (js (jcn r) k - mm))), (3, .int (nI d)), (4, .int ((nI i) + (-1)))] → W p l e rm_M_drop s m av below meth c H locs 0 0 (MQ below (va_Qi (fun (x : Int32) (a : jMt) => x = (jop_dr ((n, t), (k, r, z, u, y), (nx, wh, pw, ct)) mv).1 ∧ jMk (jop_dr ((n, t), (k, r, z, u, y), (nx, wh, pw, ct)) mv).2 a) (j_post D (jT cb ci cz) (jMw g0 mt mb mz mn my ci cz) A) A) av s 0 0 A) (F0 m 104 ls []) := by
              clear hP hD hS hl
              intro fuel
              induction fuel with
              | zero => intro i d hf hik hdk hfin; exfalso; omega
              | succ fuel ih104 =>
                intro i d hf hik hdk hfin H locs hP hD hS ls hl
                refine lv_iload hx hb dX2_drop_104 (lv_at hl 4 rfl) ?_
                refine lv_if_lt (tgt := 174) hx hb dX2_drop_106 (by decide) (fun c_106_6 => ?_) (fun c_106_6 => ?_)
                · rw [j_m1lt (by omega)] at c_106_6
                  subst c_106_6
                  have hdf : d = jdrF k r mm := hfin
                  rw [hdf] at hl
                  refine lv_iload_n hx hb dX2_drop_174 rfl (lv_at hl 3 rfl) ?_
                  refine lv_istore (lv' := [(4, .int (nI (jdrF k r mm))), (0, .ref g0), (1, .int (nI mm)), (2, .int (nI (js (jcn r) k - mm))), (3, .int (nI (jdrF k r mm)))]) hx hb dX2_drop_175 hl (by decide) rfl (fun ls hl => ?_)
                  have LOOP177 : ∀ (fuel : Nat) (j : Nat) (xB : Nat → Int32) (xZ : Nat → Int32) (xN : Nat → Int32) (xY : Nat → Int32) (hf : k + 1 < j + fuel) (hfj : jdrF k r mm ≤ j) (hjk : j ≤ k + 1) (hc : jE xB xZ xN xY (j - jdrF k r mm) (fun j => (va_up r k false) (j + jdrF k r mm)) (fun j => (va_up z k 0) (j + jdrF k r mm)) (fun j => u (j + jdrF k r mm)) (fun j => y (j + jdrF k r mm))) (ho : ∀ i, j ≤ i → i < k + 1 → xB i = jbi ((va_up r k false) i) ∧ xZ i = nI ((va_up z k 0) i) ∧ ((va_up r k false) i = true → xN i = u i) ∧ ∀ b, b < (va_up z k 0) i → xY (100 * i + b) = y i b) (H : Heap) (locs : List Loc), va_P D vwCl [(g0, .inr (2, [.ref mt, .int (nI n), .int (nI (k + 1)), .ref mb, .ref mz, .ref mn, .ref my, .int nx, .int (wh + 1), .int (jbi (!pw)), .int cu])), (mt, .inl (ci, 100, .inl tp)), (mb, .inl (cz, 41, .inl xB)), (mz, .inl (ci, 41, .inl xZ)), (mn, .inl (ci, 41, .inl xN)), (my, .inl (ci, 4100, .inl xY))] H → va_D A [(g0, .inr (2, [.ref mt, .int (nI n), .int (nI (k + 1)), .ref mb, .ref mz, .ref mn, .ref my, .int nx, .int (wh + 1), .int (jbi (!pw)), .int cu])), (mt, .inl (ci, 100, .inl tp)), (mb, .inl (cz, 41, .inl xB)), (mz, .inl (ci, 41, .inl xZ)), (mn, .inl (ci, 41, .inl xN)), (my, .inl (ci, 4100, .inl xY))] → va_S A s.heap H locs → ∀ ls : Array Slot, lv_has ls 7 [(0, .ref g0), (1, .int (nI mm)), (2, .int (nI (js (jcn r) k - mm))), (3, .int (nI (jdrF k r mm))), (4, .int (nI j))] → W p l e rm_M_drop s m av below meth c H locs 0 0 (MQ below (va_Qi (fun (x : Int32) (a : jMt) => x = (jop_dr ((n, t), (k, r, z, u, y), (nx, wh, pw, ct)) mv).1 ∧ jMk (jop_dr ((n, t), (k, r, z, u, y), (nx, wh, pw, ct)) mv).2 a) (j_post D (jT cb ci cz) (jMw g0 mt mb mz mn my ci cz) A) A) av s 0 0 A) (F0 m 177 ls []) := by
                    clear hP hD hS hl
                    intro fuel
                    induction fuel with
                    | zero => intro j xB xZ xN xY hf hfj hjk hc ho; exfalso; omega
                    | succ fuel ih177 =>
                      intro j xB xZ xN xY hf hfj hjk hc ho H locs hP hD hS ls hl
                      refine lv_iload hx hb dX2_drop_177 (lv_at hl 4 rfl) ?_
                      refine lv_aload_n hx hb dX2_drop_179 rfl (lv_at hl 0 rfl) ?_
                      refine va_get (D := D) (ci := 2) (v := .int (nI (k + 1))) (C := RX2) (T := TX2) (N := 11) hx hb hts (by decide +kernel) hown hK hP 0 rfl rfl 2 (by decide) (hts (.fieldLink RX2 33 "JournalDeskModel" "kept" "I") (by decide +kernel)) (fun _ h9 => h9) rfl dX2_drop_180 ?_
                      refine lv_icmp_ge (tgt := 202) hx hb dX2_drop_183 (by decide) (fun c_183_7 => ?_) (fun c_183_7 => ?_)
                      · rw [nI_leI (show k + 1 < 2 ^ 31 by omega) (show j < 2 ^ 31 by omega)] at c_183_7
                        refine lv_aload_n hx hb dX2_drop_202 rfl (lv_at hl 0 rfl) ?_
                        refine lv_aload_n hx hb dX2_drop_203 rfl (lv_at hl 0 rfl) ?_
                        refine va_get (D := D) (ci := 2) (v := .int (nI (k + 1))) (C := RX2) (T := TX2) (N := 11) hx hb hts (by decide +kernel) hown hK hP 0 rfl rfl 2 (by decide) (hts (.fieldLink RX2 33 "JournalDeskModel" "kept" "I") (by decide +kernel)) (fun _ h9 => h9) rfl dX2_drop_204 ?_
                        refine lv_iload_n hx hb dX2_drop_207 rfl (lv_at hl 3 rfl) ?_
                        refine lv_isub hx hb dX2_drop_208 ?_
                        refine jt_i (y := (nI (k + 1 - jdrF k r mm))) (pk_sub (by omega)) ?_
                        refine va_put (D := D) (ci := 2) (v := .int (nI (k + 1 - jdrF k r mm))) (ty := .int) (C := RX2) (T := TX2) (N := 11) hx hb hts (by decide +kernel) tyX2 tyX2_ok nmX2 hown hK hP hD hS 0 rfl rfl 2 (by decide) (hts (.fieldLink RX2 33 "JournalDeskModel" "kept" "I") (by decide +kernel)) (fun _ h9 => h9) rfl (by decide +kernel) (rfl) (rfl) (Nat.le_of_ble_eq_true rfl) dX2_drop_209 (fun H locs hP hD hS => ?_)
                        have hP : va_P D vwCl [(g0, .inr (2, [.ref mt, .int (nI n), .int (nI (k + 1 - jdrF k r mm)), .ref mb, .ref mz, .ref mn, .ref my, .int nx, .int (wh + 1), .int (jbi (!pw)), .int cu])), (mt, .inl (ci, 100, .inl tp)), (mb, .inl (cz, 41, .inl xB)), (mz, .inl (ci, 41, .inl xZ)), (mn, .inl (ci, 41, .inl xN)), (my, .inl (ci, 4100, .inl xY))] H := hP
                        have hD : va_D A [(g0, .inr (2, [.ref mt, .int (nI n), .int (nI (k + 1 - jdrF k r mm)), .ref mb, .ref mz, .ref mn, .ref my, .int nx, .int (wh + 1), .int (jbi (!pw)), .int cu])), (mt, .inl (ci, 100, .inl tp)), (mb, .inl (cz, 41, .inl xB)), (mz, .inl (ci, 41, .inl xZ)), (mn, .inl (ci, 41, .inl xN)), (my, .inl (ci, 4100, .inl xY))] := hD
                        refine lv_iload_n hx hb dX2_drop_212 rfl (lv_at hl 2 rfl) ?_
                        have hjk2 : j = k + 1 := by omega
                        subst hjk2
                        exact j_iret (v := (nI (js (jcn r) k - mm))) ((tp, xB, xZ, xN, xY, n, k + 1 - jdrF k r mm, nx, (wh + 1), (jbi (!pw)), cu)) hx hb hr hlk hK hP hD hS (by subst hct; subst hpw; rw [jdr_ok hmv hm31 h0m h1m hfit]; exact ⟨rfl, jMk_i rfl hn ht rfl (jus_drp hfit (jdrF_le k r mm)) (fun i q => jz_drp hz (i + jdrF k r mm) (by omega)) hc rfl rfl rfl hcu⟩) dX2_drop_213
                      · rw [nI_leI (show k + 1 < 2 ^ 31 by omega) (show j < 2 ^ 31 by omega)] at c_183_7
                        have hoj := ho j (Nat.le_refl j) (by omega)
                        have hz1 := jz_drp hz
                        have hzj := hz1 j (by omega)
                        refine lv_aload_n hx hb dX2_drop_186 rfl (lv_at hl 0 rfl) ?_
                        refine lv_iload hx hb dX2_drop_187 (lv_at hl 4 rfl) ?_
                        refine lv_iload hx hb dX2_drop_189 (lv_at hl 4 rfl) ?_
                        refine lv_iload_n hx hb dX2_drop_191 rfl (lv_at hl 3 rfl) ?_
                        refine lv_isub hx hb dX2_drop_192 ?_
                        refine jt_i (y := (nI (j - jdrF k r mm))) (pk_sub hfj) ?_
                        refine j_callv (wr := []) hP hD hS hA [0, 1, 2, 3, 4, 5] [] rfl rfl (by decide) (by decide) (va_runV (As := [.int (nI j), .int (nI (j - jdrF k r mm))]) (rest := []) ⟨hx, hb, hml, hown, hts⟩ (c_M_move l D cb ci cz g0 mt mb mz mn my tp xB xZ xN xY n (k + 1) nx (wh + 1) (jbi (!pw)) cu j (j - jdrF k r mm) ((va_up z k 0) j) ((va_up r k false) j) (by omega) (Nat.sub_le _ _) hzj hoj.2.1 hoj.1 H.size) (cwV 2 hts hq2_drop_X2_move rfl rfl rfl (by decide +kernel) ⟨Nat.le_of_ble_eq_true rfl, Nat.le_of_ble_eq_true rfl⟩) (j_preV (ci := 2) (q0 := 0) [0, 1, 2, 3, 4, 5] [0, 1, 2] hK hP hD rfl rfl rfl rfl rfl rfl) rfl rfl hl.1 rfl (lv_room (Nat.le_of_ble_eq_true rfl)) dX2_drop_193 ⟨Nat.le_of_ble_eq_true rfl, Nat.le_of_ble_eq_true rfl⟩) (fun xY2 H locs hw hP hD hS => ?_)
                        have hd2 := hw
                        have hP : va_P D vwCl [(g0, .inr (2, [.ref mt, .int (nI n), .int (nI (k + 1)), .ref mb, .ref mz, .ref mn, .ref my, .int nx, .int (wh + 1), .int (jbi (!pw)), .int cu])), (mt, .inl (ci, 100, .inl tp)), (mb, .inl (cz, 41, .inl (upd xB (j - jdrF k r mm) (jbi ((va_up r k false) j))))), (mz, .inl (ci, 41, .inl (upd xZ (j - jdrF k r mm) (nI ((va_up z k 0) j))))), (mn, .inl (ci, 41, .inl (upd xN (j - jdrF k r mm) (xN j)))), (my, .inl (ci, 4100, .inl xY2))] H := hP
                        have hD : va_D A [(g0, .inr (2, [.ref mt, .int (nI n), .int (nI (k + 1)), .ref mb, .ref mz, .ref mn, .ref my, .int nx, .int (wh + 1), .int (jbi (!pw)), .int cu])), (mt, .inl (ci, 100, .inl tp)), (mb, .inl (cz, 41, .inl (upd xB (j - jdrF k r mm) (jbi ((va_up r k false) j))))), (mz, .inl (ci, 41, .inl (upd xZ (j - jdrF k r mm) (nI ((va_up z k 0) j))))), (mn, .inl (ci, 41, .inl (upd xN (j - jdrF k r mm) (xN j)))), (my, .inl (ci, 4100, .inl xY2))] := hD
                        refine lv_iinc (v := (nI (j + 1))) (lv' := [(4, .int (nI (j + 1))), (0, .ref g0), (1, .int (nI mm)), (2, .int (nI (js (jcn r) k - mm))), (3, .int (nI (jdrF k r mm)))]) hx hb dX2_drop_196 hl (k := 4) rfl (nI_1 _) (by decide) rfl (fun ls hl => ?_)
                        refine lv_goto (tgt := 177) hx hb dX2_drop_199 (by decide) ?_
                        exact ih177 (j + 1) _ _ _ _ (by omega) (by omega) (by omega) (jE_mv hfj hz1 hc hoj hd2 (by omega)) (jE_mv2 hfj hz1 ho hd2 (by omega)) _ _ hP hD hS ls (lv_sub hl [1, 2, 3, 4, 0] rfl)
                  exact LOOP177 (k + 2) (jdrF k r mm) _ _ _ _ (by omega) (Nat.le_refl _) (by omega) (by rw [Nat.sub_self]; exact jE_0) (fun i _ q => ⟨hE1.1 i q, hE1.2.1 i q, hE1.2.2.1 i q, fun b hb2 => hE1.2.2.2 i b q hb2⟩) _ _ hP hD hS ls (lv_sub hl [1, 2, 3, 4, 0] rfl)
                · rw [j_m1lt (by omega)] at c_106_6
                  obtain ⟨i', rfl⟩ : ∃ i', i = i' + 1 := ⟨i - 1, by omega⟩
                  rw [pk_m1] at hl
                  refine lv_iconst (v := (nI 0)) hx hb dX2_drop_109 (by decide +kernel) ?_
                  refine lv_istore (lv' := [(5, .int (nI 0)), (0, .ref g0), (1, .int (nI mm)), (2, .int (nI (js (jcn r) k - mm))), (3, .int (nI d)), (4, .int (nI i'))]) hx hb dX2_drop_110 hl (by decide) rfl (fun ls hl => ?_)
                  refine lv_iconst (v := (nI 0)) hx hb dX2_drop_112 (by decide +kernel) ?_
                  refine lv_istore (lv' := [(6, .int (nI 0)), (5, .int (nI 0)), (0, .ref g0), (1, .int (nI mm)), (2, .int (nI (js (jcn r) k - mm))), (3, .int (nI d)), (4, .int (nI i'))]) hx hb dX2_drop_113 hl (by decide) rfl (fun ls hl => ?_)
                  have LOOP115 : ∀ (fuel : Nat) (j : Nat) (hf2 : i' < j + fuel) (hji : j ≤ i') (H : Heap) (locs : List Loc), va_P D vwCl [(g0, .inr (2, [.ref mt, .int (nI n), .int (nI (k + 1)), .ref mb, .ref mz, .ref mn, .ref my, .int nx, .int (wh + 1), .int (jbi (!pw)), .int cu])), (mt, .inl (ci, 100, .inl tp)), (mb, .inl (cz, 41, .inl (upd fB k (nI 0)))), (mz, .inl (ci, 41, .inl (upd fZ k (nI 0)))), (mn, .inl (ci, 41, .inl fN)), (my, .inl (ci, 4100, .inl fY))] H → va_D A [(g0, .inr (2, [.ref mt, .int (nI n), .int (nI (k + 1)), .ref mb, .ref mz, .ref mn, .ref my, .int nx, .int (wh + 1), .int (jbi (!pw)), .int cu])), (mt, .inl (ci, 100, .inl tp)), (mb, .inl (cz, 41, .inl (upd fB k (nI 0)))), (mz, .inl (ci, 41, .inl (upd fZ k (nI 0)))), (mn, .inl (ci, 41, .inl fN)), (my, .inl (ci, 4100, .inl fY))] → va_S A s.heap H locs → ∀ ls : Array Slot, lv_has ls 7 [(0, .ref g0), (1, .int (nI mm)), (2, .int (nI (js (jcn r) k - mm))), (3, .int (nI d)), (4, .int (nI i')), (5, .int (nI (js (jcn (va_up r k false)) j))), (6, .int (nI j))] → W p l e rm_M_drop s m av below meth c H locs 0 0 (MQ below (va_Qi (fun (x : Int32) (a : jMt) => x = (jop_dr ((n, t), (k, r, z, u, y), (nx, wh, pw, ct)) mv).1 ∧ jMk (jop_dr ((n, t), (k, r, z, u, y), (nx, wh, pw, ct)) mv).2 a) (j_post D (jT cb ci cz) (jMw g0 mt mb mz mn my ci cz) A) A) av s 0 0 A) (F0 m 115 ls []) := by
                    clear hP hD hS hl
                    intro fuel
                    induction fuel with
                    | zero => intro j hf2 hji; exfalso; omega
                    | succ fuel ih115 =>
                      intro j hf2 hji H locs hP hD hS ls hl
                      refine lv_iload hx hb dX2_drop_115 (lv_at hl 6 rfl) ?_
                      refine lv_iload hx hb dX2_drop_117 (lv_at hl 4 rfl) ?_
                      refine lv_icmp_ge (tgt := 149) hx hb dX2_drop_119 (by decide) (fun c_119_8 => ?_) (fun c_119_8 => ?_)
                      · rw [nI_leI (show i' < 2 ^ 31 by omega) (show j < 2 ^ 31 by omega)] at c_119_8
                        have hji2 : j = i' := by omega
                        rw [hji2] at hl
                        refine lv_aload_n hx hb dX2_drop_149 rfl (lv_at hl 0 rfl) ?_
                        refine va_get (D := D) (ci := 2) (v := .ref mb) (C := RX2) (T := TX2) (N := 11) hx hb hts (by decide +kernel) hown hK hP 0 rfl rfl 3 (by decide) (hts (.fieldLink RX2 13 "JournalDeskModel" "isRecord" "[Z") (by decide +kernel)) (fun _ h9 => h9) rfl dX2_drop_150 ?_
                        refine lv_iload hx hb dX2_drop_153 (lv_at hl 4 rfl) ?_
                        refine j_zald hx hb hK hP 2 2 rfl rfl (i := i') (by omega) (by decide) (v := (jbi ((va_up r k false) i'))) (hE1.1 i' (by omega)) dX2_drop_155 ?_
                        refine lv_if_eq (tgt := 168) hx hb dX2_drop_156 (by decide) (fun c_156_9 => ?_) (fun c_156_9 => ?_)
                        · have hPf : jPd (va_up r k false) mm i' = false := jPd_r (jbi_0.mp c_156_9)
                          refine lv_iinc (v := ((nI i') + (-1))) (lv' := [(4, .int ((nI i') + (-1))), (0, .ref g0), (1, .int (nI mm)), (2, .int (nI (js (jcn r) k - mm))), (3, .int (nI d)), (5, .int (nI (js (jcn (va_up r k false)) i'))), (6, .int (nI i'))]) hx hb dX2_drop_168 hl (k := 4) rfl (rfl) (by decide) rfl (fun ls hl => ?_)
                          refine lv_goto (tgt := 104) hx hb dX2_drop_171 (by decide) ?_
                          exact ih104 i' d (by omega) (by omega) (by omega) ((jfs_f hPf).symm.trans hfin) _ _ hP hD hS ls (lv_sub hl [1, 2, 3, 4, 0] rfl)
                        · have hb2 : (va_up r k false) i' = true := jbi_n0.mp c_156_9
                          refine lv_iload hx hb dX2_drop_159 (lv_at hl 5 rfl) ?_
                          refine lv_iload_n hx hb dX2_drop_161 rfl (lv_at hl 1 rfl) ?_
                          have hcj := jct_le (va_up r k false) i'
                          refine lv_icmp_lt (tgt := 168) hx hb dX2_drop_162 (by decide) (fun c_162_10 => ?_) (fun c_162_10 => ?_)
                          · rw [nI_ltI (show js (jcn (va_up r k false)) i' < 2 ^ 31 by omega) (show mm < 2 ^ 31 by omega)] at c_162_10
                            have hPf : jPd (va_up r k false) mm i' = false := jPd_m c_162_10
                            refine lv_iinc (v := ((nI i') + (-1))) (lv' := [(4, .int ((nI i') + (-1))), (0, .ref g0), (1, .int (nI mm)), (2, .int (nI (js (jcn r) k - mm))), (3, .int (nI d)), (5, .int (nI (js (jcn (va_up r k false)) i'))), (6, .int (nI i'))]) hx hb dX2_drop_168 hl (k := 4) rfl (rfl) (by decide) rfl (fun ls hl => ?_)
                            refine lv_goto (tgt := 104) hx hb dX2_drop_171 (by decide) ?_
                            exact ih104 i' d (by omega) (by omega) (by omega) ((jfs_f hPf).symm.trans hfin) _ _ hP hD hS ls (lv_sub hl [1, 2, 3, 4, 0] rfl)
                          · rw [nI_ltI (show js (jcn (va_up r k false)) i' < 2 ^ 31 by omega) (show mm < 2 ^ 31 by omega)] at c_162_10
                            have hPt : jPd (va_up r k false) mm i' = true := jPd_t hb2 (by omega)
                            refine lv_iload hx hb dX2_drop_165 (lv_at hl 4 rfl) ?_
                            refine lv_istore_n (lv' := [(3, .int (nI i')), (0, .ref g0), (1, .int (nI mm)), (2, .int (nI (js (jcn r) k - mm))), (4, .int (nI i')), (5, .int (nI (js (jcn (va_up r k false)) i'))), (6, .int (nI i'))]) hx hb dX2_drop_167 rfl hl (by decide) rfl (fun ls hl => ?_)
                            refine lv_iinc (v := ((nI i') + (-1))) (lv' := [(4, .int ((nI i') + (-1))), (3, .int (nI i')), (0, .ref g0), (1, .int (nI mm)), (2, .int (nI (js (jcn r) k - mm))), (5, .int (nI (js (jcn (va_up r k false)) i'))), (6, .int (nI i'))]) hx hb dX2_drop_168 hl (k := 4) rfl (rfl) (by decide) rfl (fun ls hl => ?_)
                            refine lv_goto (tgt := 104) hx hb dX2_drop_171 (by decide) ?_
                            exact ih104 i' i' (by omega) (by omega) (by omega) ((jfs_t hPt).symm.trans hfin) _ _ hP hD hS ls (lv_sub hl [2, 3, 4, 1, 0] rfl)
                      · rw [nI_leI (show i' < 2 ^ 31 by omega) (show j < 2 ^ 31 by omega)] at c_119_8
                        refine lv_aload_n hx hb dX2_drop_122 rfl (lv_at hl 0 rfl) ?_
                        refine va_get (D := D) (ci := 2) (v := .ref mb) (C := RX2) (T := TX2) (N := 11) hx hb hts (by decide +kernel) hown hK hP 0 rfl rfl 3 (by decide) (hts (.fieldLink RX2 13 "JournalDeskModel" "isRecord" "[Z") (by decide +kernel)) (fun _ h9 => h9) rfl dX2_drop_123 ?_
                        refine lv_iload hx hb dX2_drop_126 (lv_at hl 6 rfl) ?_
                        refine j_zald hx hb hK hP 2 2 rfl rfl (i := j) (by omega) (by decide) (v := (jbi ((va_up r k false) j))) (hE1.1 j (by omega)) dX2_drop_128 ?_
                        refine lv_if_eq (tgt := 139) hx hb dX2_drop_129 (by decide) (fun c_129_11 => ?_) (fun c_129_11 => ?_)
                        · have hb1 : (va_up r k false) j = false := jbi_0.mp c_129_11
                          refine lv_iload hx hb dX2_drop_139 (lv_at hl 5 rfl) ?_
                          refine jt_i (y := nI (js (jcn (va_up r k false)) (j + 1))) (congrArg nI (by rw [js_step, jcn_f hb1, Nat.add_zero])) ?_
                          refine lv_istore (lv' := [(5, .int (nI (js (jcn (va_up r k false)) (j + 1)))), (0, .ref g0), (1, .int (nI mm)), (2, .int (nI (js (jcn r) k - mm))), (3, .int (nI d)), (4, .int (nI i')), (6, .int (nI j))]) hx hb dX2_drop_141 hl (by decide) rfl (fun ls hl => ?_)
                          refine lv_iinc (v := (nI (j + 1))) (lv' := [(6, .int (nI (j + 1))), (5, .int (nI (js (jcn (va_up r k false)) (j + 1)))), (0, .ref g0), (1, .int (nI mm)), (2, .int (nI (js (jcn r) k - mm))), (3, .int (nI d)), (4, .int (nI i'))]) hx hb dX2_drop_143 hl (k := 6) rfl (nI_1 _) (by decide) rfl (fun ls hl => ?_)
                          refine lv_goto (tgt := 115) hx hb dX2_drop_146 (by decide) ?_
                          exact ih115 (j + 1) (by omega) (by omega) _ _ hP hD hS ls (lv_sub hl [2, 3, 4, 5, 6, 1, 0] rfl)
                        · have hb1 : (va_up r k false) j = true := jbi_n0.mp c_129_11
                          refine lv_iload hx hb dX2_drop_132 (lv_at hl 5 rfl) ?_
                          refine lv_iconst (v := (nI 1)) hx hb dX2_drop_134 (by decide +kernel) ?_
                          refine lv_iadd hx hb dX2_drop_135 ?_
                          refine jt_i (y := (nI (js (jcn (va_up r k false)) (j + 1)))) (by rw [js_step, jcn_t hb1]; exact nI_add _ _) ?_
                          refine lv_goto (tgt := 141) hx hb dX2_drop_136 (by decide) ?_
                          refine lv_istore (lv' := [(5, .int (nI (js (jcn (va_up r k false)) (j + 1)))), (0, .ref g0), (1, .int (nI mm)), (2, .int (nI (js (jcn r) k - mm))), (3, .int (nI d)), (4, .int (nI i')), (6, .int (nI j))]) hx hb dX2_drop_141 hl (by decide) rfl (fun ls hl => ?_)
                          refine lv_iinc (v := (nI (j + 1))) (lv' := [(6, .int (nI (j + 1))), (5, .int (nI (js (jcn (va_up r k false)) (j + 1)))), (0, .ref g0), (1, .int (nI mm)), (2, .int (nI (js (jcn r) k - mm))), (3, .int (nI d)), (4, .int (nI i'))]) hx hb dX2_drop_143 hl (k := 6) rfl (nI_1 _) (by decide) rfl (fun ls hl => ?_)
                          refine lv_goto (tgt := 115) hx hb dX2_drop_146 (by decide) ?_
                          exact ih115 (j + 1) (by omega) (by omega) _ _ hP hD hS ls (lv_sub hl [2, 3, 4, 5, 6, 1, 0] rfl)
                  exact LOOP115 (i' + 1) 0 (by omega) (by omega) _ _ hP hD hS ls (lv_sub hl [2, 3, 4, 5, 6, 1, 0] rfl)
            exact LOOP104 (k + 2) (k + 1) k (by omega) (by omega) (by omega) rfl _ _ hP hD hS ls (lv_sub hl [3, 4, 2, 1, 0] rfl)
          · have hct : ct = true := jbi_n0.mp c_36_5
            obtain ⟨ho1, hq1⟩ := Prod.mk.inj (hwt hct)
            rw [ho1, hq1] at hP hD
            refine lv_bipush (v := (-2)) hx hb dX2_drop_39 (by decide +kernel) ?_
            exact j_iret (v := (-2)) ((tp, fB, fZ, fN, fY, n, k, nx, wh, 1, (-1))) hx hb hr hlk hK hP hD hS (by subst hct; subst hpw; rw [jdr_cut h0m h1m hfit]; exact ⟨rfl, jMk_i rfl hn ht rfl hus hz hE rfl rfl rfl ⟨fun _ => rfl, fun _ => rfl⟩⟩) dX2_drop_41
        · rw [nI_leI (show (js (jse r z) k) + 1 < 2 ^ 31 by omega) (show 40 < 2 ^ 31 by omega)] at c_27_4
          have href : pw = false ∨ mv < 0 ∨ nI (js (jcn r) k) < mv ∨ 40 < js (jse r z) k + 1 := Or.inr (Or.inr (Or.inr (by omega)))
          refine lv_iconst (v := (-1)) hx hb dX2_drop_30 (by decide +kernel) ?_
          exact j_iret (v := (-1)) ((tp, fB, fZ, fN, fY, n, k, nx, wh, (jbi (!pw)), cu)) hx hb hr hlk hK hP hD hS (by rw [jdr_ref href]; exact ⟨rfl, jMk_i rfl hn ht rfl hus hz hE rfl rfl rfl hcu⟩) dX2_drop_31
end
section
abbrev rm_M_cut : Room := { frames := 0, cells := 0, slots := 0, locals := 0 }
set_option maxHeartbeats 4000000 in
set_option maxRecDepth 100000 in
/-- cut, in the reference -/
theorem c_M_cut (l : Launch) (D : va_G) (cb ci cz : ClassId) (g0 mt mb mz mn my : Nat) (tp fB fZ fN fY : Nat → Int32) (n : Nat) (t : Nat → Int32) (k : Nat) (r : Nat → Bool) (z : Nat → Nat) (u : Nat → Int32) (y : Nat → Nat → Int32) (nx wh : Int32) (pw ct : Bool) (cu : Int32) (sv : Int32) (hn : n ≤ 100) (ht : ∀ j, j < n → tp j = t j) (hus : js (jse r z) k ≤ 40) (hz : ∀ j, j < k → z j ≤ 100) (hE : jE fB fZ fN fY k r z u y) (hcu : cu = -1 ↔ ct = false) (sz : Nat) : Met l yX2_cut wsX2_cut rm_M_cut (va_Pc [.ref g0, .int sv] (j_pre D (jT cb ci cz) [(g0, .inr (2, [.ref mt, .int (nI n), .int (nI k), .ref mb, .ref mz, .ref mn, .ref my, .int nx, .int wh, .int (jbi (!pw)), .int cu])), (mt, .inl (ci, 100, .inl tp)), (mb, .inl (cz, 41, .inl fB)), (mz, .inl (ci, 41, .inl fZ)), (mn, .inl (ci, 41, .inl fN)), (my, .inl (ci, 4100, .inl fY))] sz)) (va_Qi (fun (x : Int32) (a : jMt) => x = (jop_cu ((n, t), (k, r, z, u, y), (nx, wh, pw, ct)) sv).1 ∧ jMk (jop_cu ((n, t), (k, r, z, u, y), (nx, wh, pw, ct)) sv).2 a) (j_post D (jT cb ci cz) (jMw g0 mt mb mz mn my ci cz) (va_A [(g0, .inr (2, [.ref mt, .int (nI n), .int (nI k), .ref mb, .ref mz, .ref mn, .ref my, .int nx, .int wh, .int (jbi (!pw)), .int cu])), (mt, .inl (ci, 100, .inl tp)), (mb, .inl (cz, 41, .inl fB)), (mz, .inl (ci, 41, .inl fZ)), (mn, .inl (ci, 41, .inl fN)), (my, .inl (ci, 4100, .inl fY))] sz)) (va_A [(g0, .inr (2, [.ref mt, .int (nI n), .int (nI k), .ref mb, .ref mz, .ref mn, .ref my, .int nx, .int wh, .int (jbi (!pw)), .int cu])), (mt, .inl (ci, 100, .inl tp)), (mb, .inl (cz, 41, .inl fB)), (mz, .inl (ci, 41, .inl fZ)), (mn, .inl (ci, 41, .inl fN)), (my, .inl (ci, 4100, .inl fY))] sz)) 0 0 (va_A [(g0, .inr (2, [.ref mt, .int (nI n), .int (nI k), .ref mb, .ref mz, .ref mn, .ref my, .int nx, .int wh, .int (jbi (!pw)), .int cu])), (mt, .inl (ci, 100, .inl tp)), (mb, .inl (cz, 41, .inl fB)), (mz, .inl (ci, 41, .inl fZ)), (mn, .inl (ci, 41, .inl fN)), (my, .inl (ci, 4100, .inl fY))] sz) := by
  refine j_in (Qc := fun A => (va_Qi (fun (x : Int32) (a : jMt) => x = (jop_cu ((n, t), (k, r, z, u, y), (nx, wh, pw, ct)) sv).1 ∧ jMk (jop_cu ((n, t), (k, r, z, u, y), (nx, wh, pw, ct)) sv).2 a) (j_post D (jT cb ci cz) (jMw g0 mt mb mz mn my ci cz) A) A)) (cc := cX2_cut) (maxL := 2) (ret := (some .boolean)) (by decide) rfl (Nat.le_of_ble_eq_true rfl) ?_
  intro p e s m av below meth c A ls H locs hx hb hr hml hts hown hlk hin hA hP hK hD hS hl
  have hown : s.vm.findClass RX2 = some m.cls := hown
  have hl : lv_has ls 2 [(0, .ref g0), (1, .int sv)] := hl
  refine lv_iload_n hx hb dX2_cut_0 rfl (lv_at hl 1 rfl) ?_
  refine lv_iconst (v := (-1)) hx hb dX2_cut_1 (by decide +kernel) ?_
  refine lv_icmp_lt (tgt := 11) hx hb dX2_cut_2 (by decide) (fun c_2_1 => ?_) (fun c_2_1 => ?_)
  · have href : sv < -1 ∨ 8 < sv := Or.inl c_2_1
    refine lv_iconst (v := (nI 0)) hx hb dX2_cut_11 (by decide +kernel) ?_
    exact j_zret (v := (nI 0)) ((tp, fB, fZ, fN, fY, n, k, nx, wh, (jbi (!pw)), cu)) hx hb hr hlk hK hP hD hS (by decide +kernel) (by rw [show jop_cu ((n, t), (k, r, z, u, y), (nx, wh, pw, ct)) sv = (0, ((n, t), (k, r, z, u, y), (nx, wh, pw, ct))) from if_pos href]; exact ⟨rfl, jMk_i rfl hn ht rfl hus hz hE rfl rfl rfl hcu⟩) dX2_cut_12
  · have hs1 := c_2_1
    refine lv_iload_n hx hb dX2_cut_5 rfl (lv_at hl 1 rfl) ?_
    refine lv_bipush (v := (nI 8)) hx hb dX2_cut_6 (by decide +kernel) ?_
    refine lv_icmp_le (tgt := 13) hx hb dX2_cut_8 (by decide) (fun c_8_2 => ?_) (fun c_8_2 => ?_)
    · have hs2 := c_8_2
      refine lv_aload_n hx hb dX2_cut_13 rfl (lv_at hl 0 rfl) ?_
      refine lv_iload_n hx hb dX2_cut_14 rfl (lv_at hl 1 rfl) ?_
      refine va_put (D := D) (ci := 2) (v := .int sv) (ty := .int) (C := RX2) (T := TX2) (N := 11) hx hb hts (by decide +kernel) tyX2 tyX2_ok nmX2 hown hK hP hD hS 0 rfl rfl 10 (by decide) (hts (.fieldLink RX2 26 "JournalDeskModel" "cutting" "I") (by decide +kernel)) (fun _ h9 => h9) rfl (by decide +kernel) (rfl) (rfl) (Nat.le_of_ble_eq_true rfl) dX2_cut_15 (fun H locs hP hD hS => ?_)
      have hP : va_P D vwCl [(g0, .inr (2, [.ref mt, .int (nI n), .int (nI k), .ref mb, .ref mz, .ref mn, .ref my, .int nx, .int wh, .int (jbi (!pw)), .int sv])), (mt, .inl (ci, 100, .inl tp)), (mb, .inl (cz, 41, .inl fB)), (mz, .inl (ci, 41, .inl fZ)), (mn, .inl (ci, 41, .inl fN)), (my, .inl (ci, 4100, .inl fY))] H := hP
      have hD : va_D A [(g0, .inr (2, [.ref mt, .int (nI n), .int (nI k), .ref mb, .ref mz, .ref mn, .ref my, .int nx, .int wh, .int (jbi (!pw)), .int sv])), (mt, .inl (ci, 100, .inl tp)), (mb, .inl (cz, 41, .inl fB)), (mz, .inl (ci, 41, .inl fZ)), (mn, .inl (ci, 41, .inl fN)), (my, .inl (ci, 4100, .inl fY))] := hD
      refine lv_iconst (v := (nI 1)) hx hb dX2_cut_18 (by decide +kernel) ?_
      have he : jop_cu ((n, t), (k, r, z, u, y), (nx, wh, pw, ct)) sv = (1, ((n, t), (k, r, z, u, y), (nx, wh, pw, decide (sv ≠ -1)))) := if_neg (fun q => by rcases q with q | q; exact hs1 q; exact absurd hs2 (Int32.not_le.mpr q))
      exact j_zret (v := (nI 1)) ((tp, fB, fZ, fN, fY, n, k, nx, wh, (jbi (!pw)), sv)) hx hb hr hlk hK hP hD hS (by decide +kernel) (by rw [he]; exact ⟨rfl, jMk_i rfl hn ht rfl hus hz hE rfl rfl rfl (by by_cases q : sv = -1 <;> simp [q])⟩) dX2_cut_19
    · have href : sv < -1 ∨ 8 < sv := Or.inr (Int32.not_le.mp c_8_2)
      refine lv_iconst (v := (nI 0)) hx hb dX2_cut_11 (by decide +kernel) ?_
      exact j_zret (v := (nI 0)) ((tp, fB, fZ, fN, fY, n, k, nx, wh, (jbi (!pw)), cu)) hx hb hr hlk hK hP hD hS (by decide +kernel) (by rw [show jop_cu ((n, t), (k, r, z, u, y), (nx, wh, pw, ct)) sv = (0, ((n, t), (k, r, z, u, y), (nx, wh, pw, ct))) from if_pos href]; exact ⟨rfl, jMk_i rfl hn ht rfl hus hz hE rfl rfl rfl hcu⟩) dX2_cut_12
abbrev rm_M_start : Room := { frames := 1, cells := 0, slots := 0, locals := 22 }
set_option maxHeartbeats 4000000 in
set_option maxRecDepth 100000 in
/-- start, in the reference -/
theorem c_M_start (l : Launch) (D : va_G) (cb ci cz : ClassId) (g0 mt mb mz mn my : Nat) (tp fB fZ fN fY : Nat → Int32) (n : Nat) (t : Nat → Int32) (k : Nat) (r : Nat → Bool) (z : Nat → Nat) (u : Nat → Int32) (y : Nat → Nat → Int32) (nx wh : Int32) (pw ct : Bool) (cu : Int32) (hn : n ≤ 100) (ht : ∀ j, j < n → tp j = t j) (hus : js (jse r z) k ≤ 40) (hz : ∀ j, j < k → z j ≤ 100) (hE : jE fB fZ fN fY k r z u y) (hcu : cu = -1 ↔ ct = false) (sz : Nat) : Met l yX2_start wsX2_start rm_M_start (va_Pc [.ref g0] (j_pre D (jT cb ci cz) [(g0, .inr (2, [.ref mt, .int (nI n), .int (nI k), .ref mb, .ref mz, .ref mn, .ref my, .int nx, .int wh, .int (jbi (!pw)), .int cu])), (mt, .inl (ci, 100, .inl tp)), (mb, .inl (cz, 41, .inl fB)), (mz, .inl (ci, 41, .inl fZ)), (mn, .inl (ci, 41, .inl fN)), (my, .inl (ci, 4100, .inl fY))] sz)) (va_Qi (fun (x : Int32) (a : jMt) => x = (jop_st ((n, t), (k, r, z, u, y), (nx, wh, pw, ct))).1 ∧ jMk (jop_st ((n, t), (k, r, z, u, y), (nx, wh, pw, ct))).2 a) (j_post D (jT cb ci cz) (jMw g0 mt mb mz mn my ci cz) (va_A [(g0, .inr (2, [.ref mt, .int (nI n), .int (nI k), .ref mb, .ref mz, .ref mn, .ref my, .int nx, .int wh, .int (jbi (!pw)), .int cu])), (mt, .inl (ci, 100, .inl tp)), (mb, .inl (cz, 41, .inl fB)), (mz, .inl (ci, 41, .inl fZ)), (mn, .inl (ci, 41, .inl fN)), (my, .inl (ci, 4100, .inl fY))] sz)) (va_A [(g0, .inr (2, [.ref mt, .int (nI n), .int (nI k), .ref mb, .ref mz, .ref mn, .ref my, .int nx, .int wh, .int (jbi (!pw)), .int cu])), (mt, .inl (ci, 100, .inl tp)), (mb, .inl (cz, 41, .inl fB)), (mz, .inl (ci, 41, .inl fZ)), (mn, .inl (ci, 41, .inl fN)), (my, .inl (ci, 4100, .inl fY))] sz)) 0 0 (va_A [(g0, .inr (2, [.ref mt, .int (nI n), .int (nI k), .ref mb, .ref mz, .ref mn, .ref my, .int nx, .int wh, .int (jbi (!pw)), .int cu])), (mt, .inl (ci, 100, .inl tp)), (mb, .inl (cz, 41, .inl fB)), (mz, .inl (ci, 41, .inl fZ)), (mn, .inl (ci, 41, .inl fN)), (my, .inl (ci, 4100, .inl fY))] sz) := by
  refine j_in (Qc := fun A => (va_Qi (fun (x : Int32) (a : jMt) => x = (jop_st ((n, t), (k, r, z, u, y), (nx, wh, pw, ct))).1 ∧ jMk (jop_st ((n, t), (k, r, z, u, y), (nx, wh, pw, ct))).2 a) (j_post D (jT cb ci cz) (jMw g0 mt mb mz mn my ci cz) A) A)) (cc := cX2_start) (maxL := 1) (ret := (some .int)) (by decide) rfl (Nat.le_of_ble_eq_true rfl) ?_
  intro p e s m av below meth c A ls H locs hx hb hr hml hts hown hlk hin hA hP hK hD hS hl
  have hown : s.vm.findClass RX2 = some m.cls := hown
  have hl : lv_has ls 1 [(0, .ref g0)] := hl
  have hk40 : k ≤ 40 := Nat.le_trans (js_ge (jse_pos r z) k) hus
  refine lv_aload_n hx hb dX2_start_0 rfl (lv_at hl 0 rfl) ?_
  refine va_get (D := D) (ci := 2) (v := .int (jbi (!pw))) (C := RX2) (T := TX2) (N := 11) hx hb hts (by decide +kernel) hown hK hP 0 rfl rfl 9 (by decide) (hts (.fieldLink RX2 40 "JournalDeskModel" "off" "Z") (by decide +kernel)) (fun _ h9 => h9) rfl dX2_start_1 ?_
  refine lv_if_ne (tgt := 9) hx hb dX2_start_4 (by decide) (fun c_4_1 => ?_) (fun c_4_1 => ?_)
  · have hpw : pw = false := jbn_t c_4_1
    refine lv_aload_n hx hb dX2_start_9 rfl (lv_at hl 0 rfl) ?_
    refine lv_iconst (v := (nI 0)) hx hb dX2_start_10 (by decide +kernel) ?_
    refine va_put (D := D) (ci := 2) (v := .int (nI 0)) (ty := .boolean) (C := RX2) (T := TX2) (N := 11) hx hb hts (by decide +kernel) tyX2 tyX2_ok nmX2 hown hK hP hD hS 0 rfl rfl 9 (by decide) (hts (.fieldLink RX2 40 "JournalDeskModel" "off" "Z") (by decide +kernel)) (fun _ h9 => h9) rfl (by decide +kernel) (rfl) (rfl) (Nat.le_of_ble_eq_true rfl) dX2_start_11 (fun H locs hP hD hS => ?_)
    have hP : va_P D vwCl [(g0, .inr (2, [.ref mt, .int (nI n), .int (nI k), .ref mb, .ref mz, .ref mn, .ref my, .int nx, .int wh, .int (nI 0), .int cu])), (mt, .inl (ci, 100, .inl tp)), (mb, .inl (cz, 41, .inl fB)), (mz, .inl (ci, 41, .inl fZ)), (mn, .inl (ci, 41, .inl fN)), (my, .inl (ci, 4100, .inl fY))] H := hP
    have hD : va_D A [(g0, .inr (2, [.ref mt, .int (nI n), .int (nI k), .ref mb, .ref mz, .ref mn, .ref my, .int nx, .int wh, .int (nI 0), .int cu])), (mt, .inl (ci, 100, .inl tp)), (mb, .inl (cz, 41, .inl fB)), (mz, .inl (ci, 41, .inl fZ)), (mn, .inl (ci, 41, .inl fN)), (my, .inl (ci, 4100, .inl fY))] := hD
    refine lv_aload_n hx hb dX2_start_14 rfl (lv_at hl 0 rfl) ?_
    refine j_calli (wr := []) hP hD hS hA [0, 1, 2, 3, 4, 5] [] rfl rfl (by decide) (by decide) (va_runV (As := []) (rest := []) ⟨hx, hb, hml, hown, hts⟩ (c_M_records l D cb ci cz g0 mt mb mz mn my tp fB fZ fN fY n k nx wh (nI 0) cu r hE.1 (by omega) H.size) (cwV 0 hts gqX2_start_X2_records rfl rfl rfl (by decide +kernel) ⟨Nat.le_of_ble_eq_true rfl, Nat.le_of_ble_eq_true rfl⟩) (j_preV (ci := 2) (q0 := 0) [0, 1, 2, 3, 4, 5] [0, 1, 2] hK hP hD rfl rfl rfl rfl rfl rfl) rfl rfl hl.1 rfl (lv_room (Nat.le_of_ble_eq_true rfl)) dX2_start_15 ⟨Nat.le_of_ble_eq_true rfl, Nat.le_of_ble_eq_true rfl⟩) (fun r15 u9 H locs hw hP hD hS => ?_)
    have hP : va_P D vwCl [(g0, .inr (2, [.ref mt, .int (nI n), .int (nI k), .ref mb, .ref mz, .ref mn, .ref my, .int nx, .int wh, .int (nI 0), .int cu])), (mt, .inl (ci, 100, .inl tp)), (mb, .inl (cz, 41, .inl fB)), (mz, .inl (ci, 41, .inl fZ)), (mn, .inl (ci, 41, .inl fN)), (my, .inl (ci, 4100, .inl fY))] H := hP
    have hD : va_D A [(g0, .inr (2, [.ref mt, .int (nI n), .int (nI k), .ref mb, .ref mz, .ref mn, .ref my, .int nx, .int wh, .int (nI 0), .int cu])), (mt, .inl (ci, 100, .inl tp)), (mb, .inl (cz, 41, .inl fB)), (mz, .inl (ci, 41, .inl fZ)), (mn, .inl (ci, 41, .inl fN)), (my, .inl (ci, 4100, .inl fY))] := hD
    have hw : r15 = (nI (js (jcn r) k)) := hw
    subst hw
    exact j_iret (v := (nI (js (jcn r) k))) ((tp, fB, fZ, fN, fY, n, k, nx, wh, (nI 0), cu)) hx hb hr hlk hK hP hD hS (by rw [show jop_st ((n, t), (k, r, z, u, y), (nx, wh, pw, ct)) = (nI (js (jcn r) k), ((n, t), (k, r, z, u, y), (nx, wh, true, ct))) from if_neg (by rw [hpw]; decide)]; exact ⟨rfl, jMk_i rfl hn ht rfl hus hz hE rfl rfl rfl hcu⟩) dX2_start_18
  · have hpw : pw = true := jbn_f c_4_1
    refine lv_iconst (v := (-1)) hx hb dX2_start_7 (by decide +kernel) ?_
    exact j_iret (v := (-1)) ((tp, fB, fZ, fN, fY, n, k, nx, wh, (jbi (!pw)), cu)) hx hb hr hlk hK hP hD hS (by rw [show jop_st ((n, t), (k, r, z, u, y), (nx, wh, pw, ct)) = (-1, ((n, t), (k, r, z, u, y), (nx, wh, pw, ct))) from if_pos hpw]; exact ⟨rfl, jMk_i rfl hn ht rfl hus hz hE rfl rfl rfl hcu⟩) dX2_start_8
abbrev rm_M_placeOf : Room := { frames := 0, cells := 0, slots := 0, locals := 0 }
set_option maxHeartbeats 4000000 in
set_option maxRecDepth 100000 in
/-- the place of the i-th record that is there, in the reference -/
theorem c_M_placeOf (l : Launch) (D : va_G) (cb ci cz : ClassId) (g0 mt mb mz mn my : Nat) (tp fB fZ fN fY : Nat → Int32) (n : Nat) (t : Nat → Int32) (k : Nat) (r : Nat → Bool) (z : Nat → Nat) (u : Nat → Int32) (y : Nat → Nat → Int32) (nx wh : Int32) (pw ct : Bool) (cu : Int32) (i : Int32) (hn : n ≤ 100) (ht : ∀ j, j < n → tp j = t j) (hus : js (jse r z) k ≤ 40) (hz : ∀ j, j < k → z j ≤ 100) (hE : jE fB fZ fN fY k r z u y) (hcu : cu = -1 ↔ ct = false) (sz : Nat) : Met l yX2_placeOf wsX2_placeOf rm_M_placeOf (va_Pc [.ref g0, .int i] (j_pre D (jT cb ci cz) [(g0, .inr (2, [.ref mt, .int (nI n), .int (nI k), .ref mb, .ref mz, .ref mn, .ref my, .int nx, .int wh, .int (jbi (!pw)), .int cu])), (mt, .inl (ci, 100, .inl tp)), (mb, .inl (cz, 41, .inl fB)), (mz, .inl (ci, 41, .inl fZ)), (mn, .inl (ci, 41, .inl fN)), (my, .inl (ci, 4100, .inl fY))] sz)) (va_Qi (fun (x : Int32) (_ : Unit) => (∃ j, jfd k r pw i j ∧ x = nI j) ∨ ((∀ j, ¬ jfd k r pw i j) ∧ x = -1)) (j_post D (jT cb ci cz) (fun _ => [(g0, .inr (2, [.ref mt, .int (nI n), .int (nI k), .ref mb, .ref mz, .ref mn, .ref my, .int nx, .int wh, .int (jbi (!pw)), .int cu])), (mt, .inl (ci, 100, .inl tp)), (mb, .inl (cz, 41, .inl fB)), (mz, .inl (ci, 41, .inl fZ)), (mn, .inl (ci, 41, .inl fN)), (my, .inl (ci, 4100, .inl fY))]) (va_A [(g0, .inr (2, [.ref mt, .int (nI n), .int (nI k), .ref mb, .ref mz, .ref mn, .ref my, .int nx, .int wh, .int (jbi (!pw)), .int cu])), (mt, .inl (ci, 100, .inl tp)), (mb, .inl (cz, 41, .inl fB)), (mz, .inl (ci, 41, .inl fZ)), (mn, .inl (ci, 41, .inl fN)), (my, .inl (ci, 4100, .inl fY))] sz)) (va_A [(g0, .inr (2, [.ref mt, .int (nI n), .int (nI k), .ref mb, .ref mz, .ref mn, .ref my, .int nx, .int wh, .int (jbi (!pw)), .int cu])), (mt, .inl (ci, 100, .inl tp)), (mb, .inl (cz, 41, .inl fB)), (mz, .inl (ci, 41, .inl fZ)), (mn, .inl (ci, 41, .inl fN)), (my, .inl (ci, 4100, .inl fY))] sz)) 0 0 (va_A [(g0, .inr (2, [.ref mt, .int (nI n), .int (nI k), .ref mb, .ref mz, .ref mn, .ref my, .int nx, .int wh, .int (jbi (!pw)), .int cu])), (mt, .inl (ci, 100, .inl tp)), (mb, .inl (cz, 41, .inl fB)), (mz, .inl (ci, 41, .inl fZ)), (mn, .inl (ci, 41, .inl fN)), (my, .inl (ci, 4100, .inl fY))] sz) := by
  refine j_in (Qc := fun A => (va_Qi (fun (x : Int32) (_ : Unit) => (∃ j, jfd k r pw i j ∧ x = nI j) ∨ ((∀ j, ¬ jfd k r pw i j) ∧ x = -1)) (j_post D (jT cb ci cz) (fun _ => [(g0, .inr (2, [.ref mt, .int (nI n), .int (nI k), .ref mb, .ref mz, .ref mn, .ref my, .int nx, .int wh, .int (jbi (!pw)), .int cu])), (mt, .inl (ci, 100, .inl tp)), (mb, .inl (cz, 41, .inl fB)), (mz, .inl (ci, 41, .inl fZ)), (mn, .inl (ci, 41, .inl fN)), (my, .inl (ci, 4100, .inl fY))]) A) A)) (cc := cX2_placeOf) (maxL := 4) (ret := (some .int)) (by decide) rfl (Nat.le_of_ble_eq_true rfl) ?_
  intro p e s m av below meth c A ls H locs hx hb hr hml hts hown hlk hin hA hP hK hD hS hl
  have hown : s.vm.findClass RX2 = some m.cls := hown
  have hl : lv_has ls 4 [(0, .ref g0), (1, .int i)] := hl
  have hk40 : k ≤ 40 := Nat.le_trans (js_ge (jse_pos r z) k) hus
  refine lv_iload_n hx hb dX2_placeOf_0 rfl (lv_at hl 1 rfl) ?_
  refine jt_i (y := i - nI (js (jcn r) 0)) (Int32.sub_zero i).symm ?_
  refine lv_istore_n (lv' := [(2, .int (i - nI (js (jcn r) 0))), (0, .ref g0), (1, .int i)]) hx hb dX2_placeOf_1 rfl hl (by decide) rfl (fun ls hl => ?_)
  refine lv_iconst (v := (nI 0)) hx hb dX2_placeOf_2 (by decide +kernel) ?_
  refine lv_istore_n (lv' := [(3, .int (nI 0)), (2, .int (i - nI (js (jcn r) 0))), (0, .ref g0), (1, .int i)]) hx hb dX2_placeOf_3 rfl hl (by decide) rfl (fun ls hl => ?_)
  have LOOP4 : ∀ (fuel : Nat) (f : Nat) (hf : k < f + fuel) (hfk : f ≤ k) (hq : ∀ g, g < f → ¬ (r g = true ∧ i = nI (js (jcn r) g))) (H : Heap) (locs : List Loc), va_P D vwCl [(g0, .inr (2, [.ref mt, .int (nI n), .int (nI k), .ref mb, .ref mz, .ref mn, .ref my, .int nx, .int wh, .int (jbi (!pw)), .int cu])), (mt, .inl (ci, 100, .inl tp)), (mb, .inl (cz, 41, .inl fB)), (mz, .inl (ci, 41, .inl fZ)), (mn, .inl (ci, 41, .inl fN)), (my, .inl (ci, 4100, .inl fY))] H → va_D A [(g0, .inr (2, [.ref mt, .int (nI n), .int (nI k), .ref mb, .ref mz, .ref mn, .ref my, .int nx, .int wh, .int (jbi (!pw)), .int cu])), (mt, .inl (ci, 100, .inl tp)), (mb, .inl (cz, 41, .inl fB)), (mz, .inl (ci, 41, .inl fZ)), (mn, .inl (ci, 41, .inl fN)), (my, .inl (ci, 4100, .inl fY))] → va_S A s.heap H locs → ∀ ls : Array Slot, lv_has ls 4 [(0, .ref g0), (1, .int i), (2, .int (i - nI (js (jcn r) f))), (3, .int (nI f))] → W p l e rm_M_placeOf s m av below meth c H locs 0 0 (MQ below (va_Qi (fun (x : Int32) (_ : Unit) => (∃ j, jfd k r pw i j ∧ x = nI j) ∨ ((∀ j, ¬ jfd k r pw i j) ∧ x = -1)) (j_post D (jT cb ci cz) (fun _ => [(g0, .inr (2, [.ref mt, .int (nI n), .int (nI k), .ref mb, .ref mz, .ref mn, .ref my, .int nx, .int wh, .int (jbi (!pw)), .int cu])), (mt, .inl (ci, 100, .inl tp)), (mb, .inl (cz, 41, .inl fB)), (mz, .inl (ci, 41, .inl fZ)), (mn, .inl (ci, 41, .inl fN)), (my, .inl (ci, 4100, .inl fY))]) A) A) av s 0 0 A) (F0 m 4 ls []) := by
    clear hP hD hS hl
    intro fuel
    induction fuel with
    | zero => intro f hf hfk hq; exfalso; omega
    | succ fuel ih4 =>
      intro f hf hfk hq H locs hP hD hS ls hl
      refine lv_iload_n hx hb dX2_placeOf_4 rfl (lv_at hl 3 rfl) ?_
      refine lv_aload_n hx hb dX2_placeOf_5 rfl (lv_at hl 0 rfl) ?_
      refine va_get (D := D) (ci := 2) (v := .int (nI k)) (C := RX2) (T := TX2) (N := 11) hx hb hts (by decide +kernel) hown hK hP 0 rfl rfl 2 (by decide) (hts (.fieldLink RX2 33 "JournalDeskModel" "kept" "I") (by decide +kernel)) (fun _ h9 => h9) rfl dX2_placeOf_6 ?_
      refine lv_icmp_ge (tgt := 51) hx hb dX2_placeOf_9 (by decide) (fun c_9_1 => ?_) (fun c_9_1 => ?_)
      · rw [nI_leI (show k < 2 ^ 31 by omega) (show f < 2 ^ 31 by omega)] at c_9_1
        have hno : ∀ j, ¬ jfd k r pw i j := fun j q => hq j (by have := q.2.1; omega) q.2.2
        refine lv_iconst (v := (-1)) hx hb dX2_placeOf_51 (by decide +kernel) ?_
        exact j_iret (v := (-1)) (()) hx hb hr hlk hK hP hD hS (Or.inr ⟨hno, rfl⟩) dX2_placeOf_52
      · rw [nI_leI (show k < 2 ^ 31 by omega) (show f < 2 ^ 31 by omega)] at c_9_1
        refine lv_iload_n hx hb dX2_placeOf_12 rfl (lv_at hl 1 rfl) ?_
        refine lv_if_lt (tgt := 51) hx hb dX2_placeOf_13 (by decide) (fun c_13_2 => ?_) (fun c_13_2 => ?_)
        · have hno : ∀ j, ¬ jfd k r pw i j := fun j q => absurd (show nI (js (jcn r) j) < 0 from q.2.2.2 ▸ c_13_2) (nI_pos (by have := jct_le r j; have := q.2.1; omega))
          refine lv_iconst (v := (-1)) hx hb dX2_placeOf_51 (by decide +kernel) ?_
          exact j_iret (v := (-1)) (()) hx hb hr hlk hK hP hD hS (Or.inr ⟨hno, rfl⟩) dX2_placeOf_52
        · refine lv_aload_n hx hb dX2_placeOf_16 rfl (lv_at hl 0 rfl) ?_
          refine va_get (D := D) (ci := 2) (v := .int (jbi (!pw))) (C := RX2) (T := TX2) (N := 11) hx hb hts (by decide +kernel) hown hK hP 0 rfl rfl 9 (by decide) (hts (.fieldLink RX2 40 "JournalDeskModel" "off" "Z") (by decide +kernel)) (fun _ h9 => h9) rfl dX2_placeOf_17 ?_
          refine lv_if_ne (tgt := 51) hx hb dX2_placeOf_20 (by decide) (fun c_20_3 => ?_) (fun c_20_3 => ?_)
          · have hpw : pw = false := jbn_t c_20_3
            have hno : ∀ j, ¬ jfd k r pw i j := fun j q => absurd (hpw.symm.trans q.1) (by decide)
            refine lv_iconst (v := (-1)) hx hb dX2_placeOf_51 (by decide +kernel) ?_
            exact j_iret (v := (-1)) (()) hx hb hr hlk hK hP hD hS (Or.inr ⟨hno, rfl⟩) dX2_placeOf_52
          · have hpw : pw = true := jbn_f c_20_3
            refine lv_aload_n hx hb dX2_placeOf_23 rfl (lv_at hl 0 rfl) ?_
            refine va_get (D := D) (ci := 2) (v := .ref mb) (C := RX2) (T := TX2) (N := 11) hx hb hts (by decide +kernel) hown hK hP 0 rfl rfl 3 (by decide) (hts (.fieldLink RX2 13 "JournalDeskModel" "isRecord" "[Z") (by decide +kernel)) (fun _ h9 => h9) rfl dX2_placeOf_24 ?_
            refine lv_iload_n hx hb dX2_placeOf_27 rfl (lv_at hl 3 rfl) ?_
            refine j_zald hx hb hK hP 2 2 rfl rfl (i := f) (by omega) (by decide) (v := (jbi (r f))) (hE.1 f (by omega)) dX2_placeOf_28 ?_
            refine lv_if_ne (tgt := 35) hx hb dX2_placeOf_29 (by decide) (fun c_29_4 => ?_) (fun c_29_4 => ?_)
            · have hb1 : r f = true := jbi_n0.mp c_29_4
              refine lv_iload_n hx hb dX2_placeOf_35 rfl (lv_at hl 2 rfl) ?_
              refine lv_if_ne (tgt := 41) hx hb dX2_placeOf_36 (by decide) (fun c_36_5 => ?_) (fun c_36_5 => ?_)
              · have hn1 : ¬ (r f = true ∧ i = nI (js (jcn r) f)) := fun q => c_36_5 (by rw [q.2]; exact Int32.sub_self _)
                refine lv_iload_n hx hb dX2_placeOf_41 rfl (lv_at hl 2 rfl) ?_
                refine lv_iconst (v := (nI 1)) hx hb dX2_placeOf_42 (by decide +kernel) ?_
                refine lv_isub hx hb dX2_placeOf_43 ?_
                refine jt_i (y := (i - nI (js (jcn r) (f + 1)))) (by rw [js_step, jcn_t hb1]; exact j_ss i _) ?_
                refine lv_istore_n (lv' := [(2, .int (i - nI (js (jcn r) (f + 1)))), (0, .ref g0), (1, .int i), (3, .int (nI f))]) hx hb dX2_placeOf_44 rfl hl (by decide) rfl (fun ls hl => ?_)
                refine lv_iinc (v := (nI (f + 1))) (lv' := [(3, .int (nI (f + 1))), (2, .int (i - nI (js (jcn r) (f + 1)))), (0, .ref g0), (1, .int i)]) hx hb dX2_placeOf_45 hl (k := 3) rfl (nI_1 _) (by decide) rfl (fun ls hl => ?_)
                refine lv_goto (tgt := 4) hx hb dX2_placeOf_48 (by decide) ?_
                exact ih4 (f + 1) (by omega) (by omega) (lt_s hq hn1) _ _ hP hD hS ls (lv_sub hl [2, 3, 1, 0] rfl)
              · have hif : i = nI (js (jcn r) f) := j_sub0 c_36_5
                refine lv_iload_n hx hb dX2_placeOf_39 rfl (lv_at hl 3 rfl) ?_
                exact j_iret (v := (nI f)) (()) hx hb hr hlk hK hP hD hS (Or.inl ⟨f, ⟨hpw, by omega, hb1, hif⟩, rfl⟩) dX2_placeOf_40
            · have hb1 : r f = false := jbi_0.mp c_29_4
              have hn1 : ¬ (r f = true ∧ i = nI (js (jcn r) f)) := fun q => absurd (hb1.symm.trans q.1) (by decide)
              refine lv_goto (tgt := 45) hx hb dX2_placeOf_32 (by decide) ?_
              rw [show js (jcn r) f = js (jcn r) (f + 1) by rw [js_step, jcn_f hb1, Nat.add_zero]] at hl
              refine lv_iinc (v := (nI (f + 1))) (lv' := [(3, .int (nI (f + 1))), (0, .ref g0), (1, .int i), (2, .int (i - nI (js (jcn r) (f + 1))))]) hx hb dX2_placeOf_45 hl (k := 3) rfl (nI_1 _) (by decide) rfl (fun ls hl => ?_)
              refine lv_goto (tgt := 4) hx hb dX2_placeOf_48 (by decide) ?_
              exact ih4 (f + 1) (by omega) (by omega) (lt_s hq hn1) _ _ hP hD hS ls (lv_sub hl [1, 2, 3, 0] rfl)
  exact LOOP4 (k + 1) 0 (by omega) (by omega) (fun _ q => absurd q (Nat.not_lt_zero _)) _ _ hP hD hS ls (lv_sub hl [2, 3, 1, 0] rfl)
abbrev rm_M_record : Room := { frames := 1, cells := 0, slots := 0, locals := 23 }
set_option maxHeartbeats 4000000 in
set_option maxRecDepth 100000 in
/-- record, in the reference -/
theorem c_M_record (l : Launch) (D : va_G) (cb ci cz : ClassId) (g0 mt mb mz mn my : Nat) (tp fB fZ fN fY : Nat → Int32) (n : Nat) (t : Nat → Int32) (k : Nat) (r : Nat → Bool) (z : Nat → Nat) (u : Nat → Int32) (y : Nat → Nat → Int32) (nx wh : Int32) (pw ct : Bool) (cu : Int32) (i wv : Int32) (hn : n ≤ 100) (ht : ∀ j, j < n → tp j = t j) (hus : js (jse r z) k ≤ 40) (hz : ∀ j, j < k → z j ≤ 100) (hE : jE fB fZ fN fY k r z u y) (hcu : cu = -1 ↔ ct = false) (sz : Nat) : Met l yX2_record wsX2_record rm_M_record (va_Pc [.ref g0, .int i, .int wv] (j_pre D (jT cb ci cz) [(g0, .inr (2, [.ref mt, .int (nI n), .int (nI k), .ref mb, .ref mz, .ref mn, .ref my, .int nx, .int wh, .int (jbi (!pw)), .int cu])), (mt, .inl (ci, 100, .inl tp)), (mb, .inl (cz, 41, .inl fB)), (mz, .inl (ci, 41, .inl fZ)), (mn, .inl (ci, 41, .inl fN)), (my, .inl (ci, 4100, .inl fY))] sz)) (va_Qi (fun (x : Int32) (_ : Unit) => jop_rc ((n, t), (k, r, z, u, y), (nx, wh, pw, ct)) i wv x) (j_post D (jT cb ci cz) (fun _ => [(g0, .inr (2, [.ref mt, .int (nI n), .int (nI k), .ref mb, .ref mz, .ref mn, .ref my, .int nx, .int wh, .int (jbi (!pw)), .int cu])), (mt, .inl (ci, 100, .inl tp)), (mb, .inl (cz, 41, .inl fB)), (mz, .inl (ci, 41, .inl fZ)), (mn, .inl (ci, 41, .inl fN)), (my, .inl (ci, 4100, .inl fY))]) (va_A [(g0, .inr (2, [.ref mt, .int (nI n), .int (nI k), .ref mb, .ref mz, .ref mn, .ref my, .int nx, .int wh, .int (jbi (!pw)), .int cu])), (mt, .inl (ci, 100, .inl tp)), (mb, .inl (cz, 41, .inl fB)), (mz, .inl (ci, 41, .inl fZ)), (mn, .inl (ci, 41, .inl fN)), (my, .inl (ci, 4100, .inl fY))] sz)) (va_A [(g0, .inr (2, [.ref mt, .int (nI n), .int (nI k), .ref mb, .ref mz, .ref mn, .ref my, .int nx, .int wh, .int (jbi (!pw)), .int cu])), (mt, .inl (ci, 100, .inl tp)), (mb, .inl (cz, 41, .inl fB)), (mz, .inl (ci, 41, .inl fZ)), (mn, .inl (ci, 41, .inl fN)), (my, .inl (ci, 4100, .inl fY))] sz)) 0 0 (va_A [(g0, .inr (2, [.ref mt, .int (nI n), .int (nI k), .ref mb, .ref mz, .ref mn, .ref my, .int nx, .int wh, .int (jbi (!pw)), .int cu])), (mt, .inl (ci, 100, .inl tp)), (mb, .inl (cz, 41, .inl fB)), (mz, .inl (ci, 41, .inl fZ)), (mn, .inl (ci, 41, .inl fN)), (my, .inl (ci, 4100, .inl fY))] sz) := by
  refine j_in (Qc := fun A => (va_Qi (fun (x : Int32) (_ : Unit) => jop_rc ((n, t), (k, r, z, u, y), (nx, wh, pw, ct)) i wv x) (j_post D (jT cb ci cz) (fun _ => [(g0, .inr (2, [.ref mt, .int (nI n), .int (nI k), .ref mb, .ref mz, .ref mn, .ref my, .int nx, .int wh, .int (jbi (!pw)), .int cu])), (mt, .inl (ci, 100, .inl tp)), (mb, .inl (cz, 41, .inl fB)), (mz, .inl (ci, 41, .inl fZ)), (mn, .inl (ci, 41, .inl fN)), (my, .inl (ci, 4100, .inl fY))]) A) A)) (cc := cX2_record) (maxL := 4) (ret := (some .int)) (by decide) rfl (Nat.le_of_ble_eq_true rfl) ?_
  intro p e s m av below meth c A ls H locs hx hb hr hml hts hown hlk hin hA hP hK hD hS hl
  have hown : s.vm.findClass RX2 = some m.cls := hown
  have hl : lv_has ls 4 [(0, .ref g0), (1, .int i), (2, .int wv)] := hl
  have hk40 : k ≤ 40 := Nat.le_trans (js_ge (jse_pos r z) k) hus
  refine lv_aload_n hx hb dX2_record_0 rfl (lv_at hl 0 rfl) ?_
  refine lv_iload_n hx hb dX2_record_1 rfl (lv_at hl 1 rfl) ?_
  refine j_calli (wr := []) hP hD hS hA [0, 1, 2, 3, 4, 5] [] rfl rfl (by decide) (by decide) (va_runV (As := [.int i]) (rest := []) ⟨hx, hb, hml, hown, hts⟩ (c_M_placeOf l D cb ci cz g0 mt mb mz mn my tp fB fZ fN fY n t k r z u y nx wh pw ct cu i hn ht hus hz hE hcu H.size) (cwV 1 hts gqX2_record_X2_placeOf rfl rfl rfl (by decide +kernel) ⟨Nat.le_of_ble_eq_true rfl, Nat.le_of_ble_eq_true rfl⟩) (j_preV (ci := 2) (q0 := 0) [0, 1, 2, 3, 4, 5] [0, 1, 2] hK hP hD rfl rfl rfl rfl rfl rfl) rfl rfl hl.1 rfl (lv_room (Nat.le_of_ble_eq_true rfl)) dX2_record_2 ⟨Nat.le_of_ble_eq_true rfl, Nat.le_of_ble_eq_true rfl⟩) (fun r2 u9 H locs hw hP hD hS => ?_)
  have hP : va_P D vwCl [(g0, .inr (2, [.ref mt, .int (nI n), .int (nI k), .ref mb, .ref mz, .ref mn, .ref my, .int nx, .int wh, .int (jbi (!pw)), .int cu])), (mt, .inl (ci, 100, .inl tp)), (mb, .inl (cz, 41, .inl fB)), (mz, .inl (ci, 41, .inl fZ)), (mn, .inl (ci, 41, .inl fN)), (my, .inl (ci, 4100, .inl fY))] H := hP
  have hD : va_D A [(g0, .inr (2, [.ref mt, .int (nI n), .int (nI k), .ref mb, .ref mz, .ref mn, .ref my, .int nx, .int wh, .int (jbi (!pw)), .int cu])), (mt, .inl (ci, 100, .inl tp)), (mb, .inl (cz, 41, .inl fB)), (mz, .inl (ci, 41, .inl fZ)), (mn, .inl (ci, 41, .inl fN)), (my, .inl (ci, 4100, .inl fY))] := hD
  obtain ⟨fr, hfr⟩ : ∃ fr, fr = r2 := ⟨_, rfl⟩
  rw [← hfr]
  have hf : (∃ j, jfd k r pw i j ∧ fr = nI j) ∨ ((∀ j, ¬ jfd k r pw i j) ∧ fr = -1) := hfr ▸ hw
  refine lv_istore_n (lv' := [(3, .int fr), (0, .ref g0), (1, .int i), (2, .int wv)]) hx hb dX2_record_5 rfl hl (by decide) rfl (fun ls hl => ?_)
  refine lv_iload_n hx hb dX2_record_6 rfl (lv_at hl 0 rfl) ?_
  refine lv_if_ge (tgt := 14) hx hb dX2_record_7 (by decide) (fun c_7_1 => ?_) (fun c_7_1 => ?_)
  · obtain ⟨j, hj, hrj⟩ : ∃ j, jfd k r pw i j ∧ fr = nI j := hf.resolve_right (fun q => absurd (q.2 ▸ c_7_1) (by decide +kernel))
    rw [hrj] at hl
    have hjk := hj.2.1
    refine lv_iload_n hx hb dX2_record_14 rfl (lv_at hl 3 rfl) ?_
    refine lv_if_ne (tgt := 27) hx hb dX2_record_15 (by decide) (fun c_15_2 => ?_) (fun c_15_2 => ?_)
    · have hw0 := c_15_2
      refine lv_iload_n hx hb dX2_record_27 rfl (lv_at hl 3 rfl) ?_
      refine lv_iconst (v := (nI 1)) hx hb dX2_record_28 (by decide +kernel) ?_
      refine lv_icmp_ne (tgt := 41) hx hb dX2_record_29 (by decide) (fun c_29_3 => ?_) (fun c_29_3 => ?_)
      · have hw1 : ¬ wv = 1 := c_29_3
        refine lv_iconst (v := (-1)) hx hb dX2_record_41 (by decide +kernel) ?_
        exact j_iret (v := (-1)) (()) hx hb hr hlk hK hP hD hS (Or.inl ⟨j, hj, by rw [if_neg hw0, if_neg hw1]⟩) dX2_record_42
      · have hw1 : wv = 1 := c_29_3
        refine lv_aload_n hx hb dX2_record_32 rfl (lv_at hl 1 rfl) ?_
        refine va_get (D := D) (ci := 2) (v := .ref mn) (C := RX2) (T := TX2) (N := 11) hx hb hts (by decide +kernel) hown hK hP 0 rfl rfl 5 (by decide) (hts (.fieldLink RX2 20 "JournalDeskModel" "numbers" "[I") (by decide +kernel)) (fun _ h9 => h9) rfl dX2_record_33 ?_
        refine lv_iload_n hx hb dX2_record_36 rfl (lv_at hl 0 rfl) ?_
        refine j_iald hx hb hK hP 4 1 rfl rfl (i := j) (by have := hj.2.1; omega) (by decide) (v := (u j)) (hE.2.2.1 j hj.2.1 hj.2.2.1) dX2_record_37 ?_
        refine lv_goto (tgt := 42) hx hb dX2_record_38 (by decide) ?_
        exact j_iret (v := (u j)) (()) hx hb hr hlk hK hP hD hS (Or.inl ⟨j, hj, by rw [if_neg hw0, if_pos hw1]⟩) dX2_record_42
    · have hw0 := c_15_2
      refine lv_aload_n hx hb dX2_record_18 rfl (lv_at hl 1 rfl) ?_
      refine va_get (D := D) (ci := 2) (v := .ref mz) (C := RX2) (T := TX2) (N := 11) hx hb hts (by decide +kernel) hown hK hP 0 rfl rfl 4 (by decide) (hts (.fieldLink RX2 17 "JournalDeskModel" "sizes" "[I") (by decide +kernel)) (fun _ h9 => h9) rfl dX2_record_19 ?_
      refine lv_iload_n hx hb dX2_record_22 rfl (lv_at hl 0 rfl) ?_
      refine j_iald hx hb hK hP 3 1 rfl rfl (i := j) (by have := hj.2.1; omega) (by decide) (v := (nI (z j))) (hE.2.1 j hj.2.1) dX2_record_23 ?_
      refine lv_goto (tgt := 42) hx hb dX2_record_24 (by decide) ?_
      exact j_iret (v := (nI (z j))) (()) hx hb hr hlk hK hP hD hS (Or.inl ⟨j, hj, by rw [if_pos hw0]⟩) dX2_record_42
  · have hno : ∀ j, ¬ jfd k r pw i j := by
      rcases hf with ⟨j, hj, hrj⟩ | q
      · exact absurd (show ¬ 0 ≤ nI j from hrj ▸ c_7_1) (fun q => q (nI_pos' (by have := hj.2.1; omega)))
      · exact q.1
    refine lv_iconst (v := (-1)) hx hb dX2_record_10 (by decide +kernel) ?_
    refine lv_goto (tgt := 42) hx hb dX2_record_11 (by decide) ?_
    exact j_iret (v := (-1)) (()) hx hb hr hlk hK hP hD hS (Or.inr ⟨hno, rfl⟩) dX2_record_42
abbrev rm_M_bytes : Room := { frames := 1, cells := 0, slots := 0, locals := 23 }
set_option maxHeartbeats 4000000 in
set_option maxRecDepth 100000 in
/-- bytes, in the reference -/
theorem c_M_bytes (l : Launch) (D : va_G) (cb ci cz : ClassId) (g0 mt mb mz mn my : Nat) (tp fB fZ fN fY : Nat → Int32) (n : Nat) (t : Nat → Int32) (k : Nat) (r : Nat → Bool) (z : Nat → Nat) (u : Nat → Int32) (y : Nat → Nat → Int32) (nx wh : Int32) (pw ct : Bool) (cu : Int32) (i kv : Int32) (hn : n ≤ 100) (ht : ∀ j, j < n → tp j = t j) (hus : js (jse r z) k ≤ 40) (hz : ∀ j, j < k → z j ≤ 100) (hE : jE fB fZ fN fY k r z u y) (hcu : cu = -1 ↔ ct = false) (sz : Nat) : Met l yX2_bytes wsX2_bytes rm_M_bytes (va_Pc [.ref g0, .int i, .int kv] (j_pre D (jT cb ci cz) [(g0, .inr (2, [.ref mt, .int (nI n), .int (nI k), .ref mb, .ref mz, .ref mn, .ref my, .int nx, .int wh, .int (jbi (!pw)), .int cu])), (mt, .inl (ci, 100, .inl tp)), (mb, .inl (cz, 41, .inl fB)), (mz, .inl (ci, 41, .inl fZ)), (mn, .inl (ci, 41, .inl fN)), (my, .inl (ci, 4100, .inl fY))] sz)) (va_Ql (fun (x : Int64) (_ : Unit) => jop_by ((n, t), (k, r, z, u, y), (nx, wh, pw, ct)) i kv x) (j_post D (jT cb ci cz) (fun _ => [(g0, .inr (2, [.ref mt, .int (nI n), .int (nI k), .ref mb, .ref mz, .ref mn, .ref my, .int nx, .int wh, .int (jbi (!pw)), .int cu])), (mt, .inl (ci, 100, .inl tp)), (mb, .inl (cz, 41, .inl fB)), (mz, .inl (ci, 41, .inl fZ)), (mn, .inl (ci, 41, .inl fN)), (my, .inl (ci, 4100, .inl fY))]) (va_A [(g0, .inr (2, [.ref mt, .int (nI n), .int (nI k), .ref mb, .ref mz, .ref mn, .ref my, .int nx, .int wh, .int (jbi (!pw)), .int cu])), (mt, .inl (ci, 100, .inl tp)), (mb, .inl (cz, 41, .inl fB)), (mz, .inl (ci, 41, .inl fZ)), (mn, .inl (ci, 41, .inl fN)), (my, .inl (ci, 4100, .inl fY))] sz)) (va_A [(g0, .inr (2, [.ref mt, .int (nI n), .int (nI k), .ref mb, .ref mz, .ref mn, .ref my, .int nx, .int wh, .int (jbi (!pw)), .int cu])), (mt, .inl (ci, 100, .inl tp)), (mb, .inl (cz, 41, .inl fB)), (mz, .inl (ci, 41, .inl fZ)), (mn, .inl (ci, 41, .inl fN)), (my, .inl (ci, 4100, .inl fY))] sz)) 0 0 (va_A [(g0, .inr (2, [.ref mt, .int (nI n), .int (nI k), .ref mb, .ref mz, .ref mn, .ref my, .int nx, .int wh, .int (jbi (!pw)), .int cu])), (mt, .inl (ci, 100, .inl tp)), (mb, .inl (cz, 41, .inl fB)), (mz, .inl (ci, 41, .inl fZ)), (mn, .inl (ci, 41, .inl fN)), (my, .inl (ci, 4100, .inl fY))] sz) := by
  refine j_in (Qc := fun A => (va_Ql (fun (x : Int64) (_ : Unit) => jop_by ((n, t), (k, r, z, u, y), (nx, wh, pw, ct)) i kv x) (j_post D (jT cb ci cz) (fun _ => [(g0, .inr (2, [.ref mt, .int (nI n), .int (nI k), .ref mb, .ref mz, .ref mn, .ref my, .int nx, .int wh, .int (jbi (!pw)), .int cu])), (mt, .inl (ci, 100, .inl tp)), (mb, .inl (cz, 41, .inl fB)), (mz, .inl (ci, 41, .inl fZ)), (mn, .inl (ci, 41, .inl fN)), (my, .inl (ci, 4100, .inl fY))]) A) A)) (cc := cX2_bytes) (maxL := 7) (ret := (some .long)) (by decide) rfl (Nat.le_of_ble_eq_true rfl) ?_
  intro p e s m av below meth c A ls H locs hx hb hr hml hts hown hlk hin hA hP hK hD hS hl
  have hown : s.vm.findClass RX2 = some m.cls := hown
  have hl : lv_has ls 7 [(0, .ref g0), (1, .int i), (2, .int kv)] := hl
  have hk40 : k ≤ 40 := Nat.le_trans (js_ge (jse_pos r z) k) hus
  refine lv_aload_n hx hb dX2_bytes_0 rfl (lv_at hl 0 rfl) ?_
  refine lv_iload_n hx hb dX2_bytes_1 rfl (lv_at hl 1 rfl) ?_
  refine j_calli (wr := []) hP hD hS hA [0, 1, 2, 3, 4, 5] [] rfl rfl (by decide) (by decide) (va_runV (As := [.int i]) (rest := []) ⟨hx, hb, hml, hown, hts⟩ (c_M_placeOf l D cb ci cz g0 mt mb mz mn my tp fB fZ fN fY n t k r z u y nx wh pw ct cu i hn ht hus hz hE hcu H.size) (cwV 1 hts gqX2_bytes_X2_placeOf rfl rfl rfl (by decide +kernel) ⟨Nat.le_of_ble_eq_true rfl, Nat.le_of_ble_eq_true rfl⟩) (j_preV (ci := 2) (q0 := 0) [0, 1, 2, 3, 4, 5] [0, 1, 2] hK hP hD rfl rfl rfl rfl rfl rfl) rfl rfl hl.1 rfl (lv_room (Nat.le_of_ble_eq_true rfl)) dX2_bytes_2 ⟨Nat.le_of_ble_eq_true rfl, Nat.le_of_ble_eq_true rfl⟩) (fun r2 u9 H locs hw hP hD hS => ?_)
  have hP : va_P D vwCl [(g0, .inr (2, [.ref mt, .int (nI n), .int (nI k), .ref mb, .ref mz, .ref mn, .ref my, .int nx, .int wh, .int (jbi (!pw)), .int cu])), (mt, .inl (ci, 100, .inl tp)), (mb, .inl (cz, 41, .inl fB)), (mz, .inl (ci, 41, .inl fZ)), (mn, .inl (ci, 41, .inl fN)), (my, .inl (ci, 4100, .inl fY))] H := hP
  have hD : va_D A [(g0, .inr (2, [.ref mt, .int (nI n), .int (nI k), .ref mb, .ref mz, .ref mn, .ref my, .int nx, .int wh, .int (jbi (!pw)), .int cu])), (mt, .inl (ci, 100, .inl tp)), (mb, .inl (cz, 41, .inl fB)), (mz, .inl (ci, 41, .inl fZ)), (mn, .inl (ci, 41, .inl fN)), (my, .inl (ci, 4100, .inl fY))] := hD
  obtain ⟨fr, hfr⟩ : ∃ fr, fr = r2 := ⟨_, rfl⟩
  rw [← hfr]
  have hf : (∃ j, jfd k r pw i j ∧ fr = nI j) ∨ ((∀ j, ¬ jfd k r pw i j) ∧ fr = -1) := hfr ▸ hw
  refine lv_istore_n (lv' := [(3, .int fr), (0, .ref g0), (1, .int i), (2, .int kv)]) hx hb dX2_bytes_5 rfl hl (by decide) rfl (fun ls hl => ?_)
  refine lv_iload_n hx hb dX2_bytes_6 rfl (lv_at hl 0 rfl) ?_
  refine lv_if_lt (tgt := 14) hx hb dX2_bytes_7 (by decide) (fun c_7_1 => ?_) (fun c_7_1 => ?_)
  · have hno : ∀ j, ¬ jfd k r pw i j := by
      rcases hf with ⟨j, hj, hrj⟩ | q
      · exact absurd (show nI j < 0 from hrj ▸ c_7_1) (nI_pos (by have := hj.2.1; omega))
      · exact q.1
    refine lv_ldc2 (v := (-1)) hx hb hown (hts (.constantLong RX2 68 (-1)) (by decide +kernel)) dX2_bytes_14 ?_
    exact j_lret (v := (-1)) (()) hx hb hr hlk hK hP hD hS (Or.inr ⟨hno, rfl⟩) dX2_bytes_17
  · obtain ⟨j, hj, hrj⟩ : ∃ j, jfd k r pw i j ∧ fr = nI j := hf.resolve_right (fun q => absurd (show ¬ (-1 : Int32) < 0 from q.2 ▸ c_7_1) (fun q => q (by decide +kernel)))
    rw [hrj] at hl
    have hjk := hj.2.1
    refine lv_iload_n hx hb dX2_bytes_10 rfl (lv_at hl 3 rfl) ?_
    refine lv_if_ge (tgt := 18) hx hb dX2_bytes_11 (by decide) (fun c_11_2 => ?_) (fun c_11_2 => ?_)
    · obtain ⟨cc, hc31, hkv⟩ := nI_of (Int32.not_lt.mpr c_11_2)
      rw [hkv] at hl
      refine lv_lconst (v := 0) hx hb dX2_bytes_18 (by decide +kernel) ?_
      refine lv_lstore (lv' := [(4, .long (0 : Int64)), (3, .int (nI j)), (0, .ref g0), (1, .int i), (2, .int (nI cc))]) hx hb dX2_bytes_19 hl (by decide) rfl (fun ls hl => ?_)
      refine lv_iconst (v := (nI 0)) hx hb dX2_bytes_21 (by decide +kernel) ?_
      refine lv_istore (lv' := [(6, .int (nI 0)), (4, .long (0 : Int64)), (3, .int (nI j)), (0, .ref g0), (1, .int i), (2, .int (nI cc))]) hx hb dX2_bytes_22 hl (by decide) rfl (fun ls hl => ?_)
      have LOOP24 : ∀ (fuel : Nat) (b : Nat) (hf : 8 < b + fuel) (hb8 : b ≤ 8) (H : Heap) (locs : List Loc), va_P D vwCl [(g0, .inr (2, [.ref mt, .int (nI n), .int (nI k), .ref mb, .ref mz, .ref mn, .ref my, .int nx, .int wh, .int (jbi (!pw)), .int cu])), (mt, .inl (ci, 100, .inl tp)), (mb, .inl (cz, 41, .inl fB)), (mz, .inl (ci, 41, .inl fZ)), (mn, .inl (ci, 41, .inl fN)), (my, .inl (ci, 4100, .inl fY))] H → va_D A [(g0, .inr (2, [.ref mt, .int (nI n), .int (nI k), .ref mb, .ref mz, .ref mn, .ref my, .int nx, .int wh, .int (jbi (!pw)), .int cu])), (mt, .inl (ci, 100, .inl tp)), (mb, .inl (cz, 41, .inl fB)), (mz, .inl (ci, 41, .inl fZ)), (mn, .inl (ci, 41, .inl fN)), (my, .inl (ci, 4100, .inl fY))] → va_S A s.heap H locs → ∀ ls : Array Slot, lv_has ls 7 [(0, .ref g0), (1, .int i), (2, .int (nI cc)), (3, .int (nI j)), (4, .long (je8 (fun b => if cc + b < z j then y j (cc + b) else 0) b)), (6, .int (nI b))] → W p l e rm_M_bytes s m av below meth c H locs 0 0 (MQ below (va_Ql (fun (x : Int64) (_ : Unit) => jop_by ((n, t), (k, r, z, u, y), (nx, wh, pw, ct)) i kv x) (j_post D (jT cb ci cz) (fun _ => [(g0, .inr (2, [.ref mt, .int (nI n), .int (nI k), .ref mb, .ref mz, .ref mn, .ref my, .int nx, .int wh, .int (jbi (!pw)), .int cu])), (mt, .inl (ci, 100, .inl tp)), (mb, .inl (cz, 41, .inl fB)), (mz, .inl (ci, 41, .inl fZ)), (mn, .inl (ci, 41, .inl fN)), (my, .inl (ci, 4100, .inl fY))]) A) A) av s 0 0 A) (F0 m 24 ls []) := by
        clear hP hD hS hl
        intro fuel
        induction fuel with
        | zero => intro b hf hb8; exfalso; omega
        | succ fuel ih24 =>
          intro b hf hb8 H locs hP hD hS ls hl
          refine lv_iload hx hb dX2_bytes_24 (lv_at hl 5 rfl) ?_
          refine lv_bipush (v := (nI 8)) hx hb dX2_bytes_26 (by decide +kernel) ?_
          refine lv_icmp_ge (tgt := 87) hx hb dX2_bytes_28 (by decide) (fun c_28_3 => ?_) (fun c_28_3 => ?_)
          · rw [nI_leI (show 8 < 2 ^ 31 by omega) (show b < 2 ^ 31 by omega)] at c_28_3
            have hb8 : b = 8 := by omega
            rw [hb8] at hl
            refine lv_lload hx hb dX2_bytes_87 (lv_at hl 4 rfl) ?_
            exact j_lret (v := (je8 (fun b => if cc + b < z j then y j (cc + b) else 0) 8)) (()) hx hb hr hlk hK hP hD hS (Or.inl ⟨j, hj, by rw [hkv, if_neg (nI_pos hc31), nI_clamp hc31]⟩) dX2_bytes_89
          · rw [nI_leI (show 8 < 2 ^ 31 by omega) (show b < 2 ^ 31 by omega)] at c_28_3
            refine lv_lload hx hb dX2_bytes_31 (lv_at hl 4 rfl) ?_
            refine lv_bipush (v := (nI 8)) hx hb dX2_bytes_33 (by decide +kernel) ?_
            refine lv_lshl hx hb dX2_bytes_35 rfl ?_
            refine lv_iload_n hx hb dX2_bytes_36 rfl (lv_at hl 2 rfl) ?_
            refine lv_aload_n hx hb dX2_bytes_37 rfl (lv_at hl 0 rfl) ?_
            refine va_get (D := D) (ci := 2) (v := .ref mz) (C := RX2) (T := TX2) (N := 11) hx hb hts (by decide +kernel) hown hK hP 0 rfl rfl 4 (by decide) (hts (.fieldLink RX2 17 "JournalDeskModel" "sizes" "[I") (by decide +kernel)) (fun _ h9 => h9) rfl dX2_bytes_38 ?_
            refine lv_iload_n hx hb dX2_bytes_41 rfl (lv_at hl 3 rfl) ?_
            have hzj := hz j hj.2.1
            refine j_iald hx hb hK hP 3 1 rfl rfl (i := j) (by have := hj.2.1; omega) (by decide) (v := (nI (z j))) (hE.2.1 j hj.2.1) dX2_bytes_42 ?_
            refine lv_icmp_ge (tgt := 76) hx hb dX2_bytes_43 (by decide) (fun c_43_4 => ?_) (fun c_43_4 => ?_)
            · rw [nI_leI (show z j < 2 ^ 31 by omega) (show cc < 2 ^ 31 by omega)] at c_43_4
              refine lv_iconst (v := (nI 0)) hx hb dX2_bytes_76 (by decide +kernel) ?_
              refine lv_i2l hx hb dX2_bytes_77 rfl ?_
              refine lv_lor hx hb dX2_bytes_78 ?_
              refine jt_l (y := (je8 (fun b => if cc + b < z j then y j (cc + b) else 0) (b + 1))) (by show _ = (je8 (fun b => if cc + b < z j then y j (cc + b) else 0) b <<< _) ||| Int32.toInt64 (if cc + b < z j then y j (cc + b) else 0); rw [if_neg (by omega)]; try rfl) ?_
              refine lv_lstore (lv' := [(4, .long (je8 (fun b => if cc + b < z j then y j (cc + b) else 0) (b + 1))), (0, .ref g0), (1, .int i), (2, .int (nI cc)), (3, .int (nI j)), (6, .int (nI b))]) hx hb dX2_bytes_79 hl (by decide) rfl (fun ls hl => ?_)
              refine lv_iinc (v := (nI (b + 1))) (lv' := [(6, .int (nI (b + 1))), (4, .long (je8 (fun b => if cc + b < z j then y j (cc + b) else 0) (b + 1))), (0, .ref g0), (1, .int i), (2, .int (nI cc)), (3, .int (nI j))]) hx hb dX2_bytes_81 hl (k := 5) rfl (nI_1 _) (by decide) rfl (fun ls hl => ?_)
              refine lv_goto (tgt := 24) hx hb dX2_bytes_84 (by decide) ?_
              exact ih24 (b + 1) (by omega) (by omega) _ _ hP hD hS ls (lv_sub hl [2, 3, 4, 5, 1, 0] rfl)
            · rw [nI_leI (show z j < 2 ^ 31 by omega) (show cc < 2 ^ 31 by omega)] at c_43_4
              refine lv_iload hx hb dX2_bytes_46 (lv_at hl 5 rfl) ?_
              refine lv_aload_n hx hb dX2_bytes_48 rfl (lv_at hl 0 rfl) ?_
              refine va_get (D := D) (ci := 2) (v := .ref mz) (C := RX2) (T := TX2) (N := 11) hx hb hts (by decide +kernel) hown hK hP 0 rfl rfl 4 (by decide) (hts (.fieldLink RX2 17 "JournalDeskModel" "sizes" "[I") (by decide +kernel)) (fun _ h9 => h9) rfl dX2_bytes_49 ?_
              refine lv_iload_n hx hb dX2_bytes_52 rfl (lv_at hl 3 rfl) ?_
              refine j_iald hx hb hK hP 3 1 rfl rfl (i := j) (by have := hj.2.1; omega) (by decide) (v := (nI (z j))) (hE.2.1 j hj.2.1) dX2_bytes_53 ?_
              refine lv_iload_n hx hb dX2_bytes_54 rfl (lv_at hl 2 rfl) ?_
              refine lv_isub hx hb dX2_bytes_55 ?_
              refine jt_i (y := (nI ((z j) - cc))) (pk_sub (by omega)) ?_
              refine lv_icmp_ge (tgt := 76) hx hb dX2_bytes_56 (by decide) (fun c_56_5 => ?_) (fun c_56_5 => ?_)
              · rw [nI_leI (show (z j) - cc < 2 ^ 31 by omega) (show b < 2 ^ 31 by omega)] at c_56_5
                refine lv_iconst (v := (nI 0)) hx hb dX2_bytes_76 (by decide +kernel) ?_
                refine lv_i2l hx hb dX2_bytes_77 rfl ?_
                refine lv_lor hx hb dX2_bytes_78 ?_
                refine jt_l (y := (je8 (fun b => if cc + b < z j then y j (cc + b) else 0) (b + 1))) (by show _ = (je8 (fun b => if cc + b < z j then y j (cc + b) else 0) b <<< _) ||| Int32.toInt64 (if cc + b < z j then y j (cc + b) else 0); rw [if_neg (by omega)]; try rfl) ?_
                refine lv_lstore (lv' := [(4, .long (je8 (fun b => if cc + b < z j then y j (cc + b) else 0) (b + 1))), (0, .ref g0), (1, .int i), (2, .int (nI cc)), (3, .int (nI j)), (6, .int (nI b))]) hx hb dX2_bytes_79 hl (by decide) rfl (fun ls hl => ?_)
                refine lv_iinc (v := (nI (b + 1))) (lv' := [(6, .int (nI (b + 1))), (4, .long (je8 (fun b => if cc + b < z j then y j (cc + b) else 0) (b + 1))), (0, .ref g0), (1, .int i), (2, .int (nI cc)), (3, .int (nI j))]) hx hb dX2_bytes_81 hl (k := 5) rfl (nI_1 _) (by decide) rfl (fun ls hl => ?_)
                refine lv_goto (tgt := 24) hx hb dX2_bytes_84 (by decide) ?_
                exact ih24 (b + 1) (by omega) (by omega) _ _ hP hD hS ls (lv_sub hl [2, 3, 4, 5, 1, 0] rfl)
              · rw [nI_leI (show (z j) - cc < 2 ^ 31 by omega) (show b < 2 ^ 31 by omega)] at c_56_5
                refine lv_aload_n hx hb dX2_bytes_59 rfl (lv_at hl 0 rfl) ?_
                refine va_get (D := D) (ci := 2) (v := .ref my) (C := RX2) (T := TX2) (N := 11) hx hb hts (by decide +kernel) hown hK hP 0 rfl rfl 6 (by decide) (hts (.fieldLink RX2 23 "JournalDeskModel" "bytes" "[I") (by decide +kernel)) (fun _ h9 => h9) rfl dX2_bytes_60 ?_
                refine lv_bipush (v := (nI 100)) hx hb dX2_bytes_63 (by decide +kernel) ?_
                refine lv_iload_n hx hb dX2_bytes_65 rfl (lv_at hl 3 rfl) ?_
                refine lv_imul hx hb dX2_bytes_66 ?_
                refine jt_i (y := (nI (100 * j))) (pk_mul _ _) ?_
                refine lv_iload_n hx hb dX2_bytes_67 rfl (lv_at hl 2 rfl) ?_
                refine lv_iadd hx hb dX2_bytes_68 ?_
                refine jt_i (y := (nI ((100 * j) + cc))) (nI_add _ _) ?_
                refine lv_iload hx hb dX2_bytes_69 (lv_at hl 5 rfl) ?_
                refine lv_iadd hx hb dX2_bytes_71 ?_
                refine jt_i (y := (nI (((100 * j) + cc) + b))) (nI_add _ _) ?_
                refine j_iald hx hb hK hP 5 1 rfl rfl (i := ((100 * j) + cc) + b) (by omega) (by decide) (v := (y j (cc + b))) (by rw [Nat.add_assoc]; exact hE.2.2.2 j (cc + b) hj.2.1 (by omega)) dX2_bytes_72 ?_
                refine lv_goto (tgt := 77) hx hb dX2_bytes_73 (by decide) ?_
                refine lv_i2l hx hb dX2_bytes_77 rfl ?_
                refine lv_lor hx hb dX2_bytes_78 ?_
                refine jt_l (y := (je8 (fun b => if cc + b < z j then y j (cc + b) else 0) (b + 1))) (by show _ = (je8 (fun b => if cc + b < z j then y j (cc + b) else 0) b <<< _) ||| Int32.toInt64 (if cc + b < z j then y j (cc + b) else 0); rw [if_pos (by omega)]; try rfl) ?_
                refine lv_lstore (lv' := [(4, .long (je8 (fun b => if cc + b < z j then y j (cc + b) else 0) (b + 1))), (0, .ref g0), (1, .int i), (2, .int (nI cc)), (3, .int (nI j)), (6, .int (nI b))]) hx hb dX2_bytes_79 hl (by decide) rfl (fun ls hl => ?_)
                refine lv_iinc (v := (nI (b + 1))) (lv' := [(6, .int (nI (b + 1))), (4, .long (je8 (fun b => if cc + b < z j then y j (cc + b) else 0) (b + 1))), (0, .ref g0), (1, .int i), (2, .int (nI cc)), (3, .int (nI j))]) hx hb dX2_bytes_81 hl (k := 5) rfl (nI_1 _) (by decide) rfl (fun ls hl => ?_)
                refine lv_goto (tgt := 24) hx hb dX2_bytes_84 (by decide) ?_
                exact ih24 (b + 1) (by omega) (by omega) _ _ hP hD hS ls (lv_sub hl [2, 3, 4, 5, 1, 0] rfl)
      exact LOOP24 9 0 (by omega) (by omega) _ _ hP hD hS ls (lv_sub hl [3, 4, 5, 2, 1, 0] rfl)
    · have hneg : kv < 0 := Int32.not_le.mp c_11_2
      refine lv_ldc2 (v := (-1)) hx hb hown (hts (.constantLong RX2 68 (-1)) (by decide +kernel)) dX2_bytes_14 ?_
      exact j_lret (v := (-1)) (()) hx hb hr hlk hK hP hD hS (Or.inl ⟨j, hj, (if_pos hneg).symm⟩) dX2_bytes_17
abbrev rm_M_count : Room := { frames := 2, cells := 0, slots := 0, locals := 42 }
set_option maxHeartbeats 4000000 in
set_option maxRecDepth 100000 in
/-- count, in the reference -/
theorem c_M_count (l : Launch) (D : va_G) (cb ci cz : ClassId) (g0 mt mb mz mn my : Nat) (tp fB fZ fN fY : Nat → Int32) (n : Nat) (t : Nat → Int32) (k : Nat) (r : Nat → Bool) (z : Nat → Nat) (u : Nat → Int32) (y : Nat → Nat → Int32) (nx wh : Int32) (pw ct : Bool) (cu : Int32) (wv : Int32) (hn : n ≤ 100) (ht : ∀ j, j < n → tp j = t j) (hus : js (jse r z) k ≤ 40) (hz : ∀ j, j < k → z j ≤ 100) (hE : jE fB fZ fN fY k r z u y) (hcu : cu = -1 ↔ ct = false) (sz : Nat) : Met l yX2_count wsX2_count rm_M_count (va_Pc [.ref g0, .int wv] (j_pre D (jT cb ci cz) [(g0, .inr (2, [.ref mt, .int (nI n), .int (nI k), .ref mb, .ref mz, .ref mn, .ref my, .int nx, .int wh, .int (jbi (!pw)), .int cu])), (mt, .inl (ci, 100, .inl tp)), (mb, .inl (cz, 41, .inl fB)), (mz, .inl (ci, 41, .inl fZ)), (mn, .inl (ci, 41, .inl fN)), (my, .inl (ci, 4100, .inl fY))] sz)) (va_Qi (fun (x : Int32) (_ : Unit) => x = jop_ct ((n, t), (k, r, z, u, y), (nx, wh, pw, ct)) wv) (j_post D (jT cb ci cz) (fun _ => [(g0, .inr (2, [.ref mt, .int (nI n), .int (nI k), .ref mb, .ref mz, .ref mn, .ref my, .int nx, .int wh, .int (jbi (!pw)), .int cu])), (mt, .inl (ci, 100, .inl tp)), (mb, .inl (cz, 41, .inl fB)), (mz, .inl (ci, 41, .inl fZ)), (mn, .inl (ci, 41, .inl fN)), (my, .inl (ci, 4100, .inl fY))]) (va_A [(g0, .inr (2, [.ref mt, .int (nI n), .int (nI k), .ref mb, .ref mz, .ref mn, .ref my, .int nx, .int wh, .int (jbi (!pw)), .int cu])), (mt, .inl (ci, 100, .inl tp)), (mb, .inl (cz, 41, .inl fB)), (mz, .inl (ci, 41, .inl fZ)), (mn, .inl (ci, 41, .inl fN)), (my, .inl (ci, 4100, .inl fY))] sz)) (va_A [(g0, .inr (2, [.ref mt, .int (nI n), .int (nI k), .ref mb, .ref mz, .ref mn, .ref my, .int nx, .int wh, .int (jbi (!pw)), .int cu])), (mt, .inl (ci, 100, .inl tp)), (mb, .inl (cz, 41, .inl fB)), (mz, .inl (ci, 41, .inl fZ)), (mn, .inl (ci, 41, .inl fN)), (my, .inl (ci, 4100, .inl fY))] sz)) 0 0 (va_A [(g0, .inr (2, [.ref mt, .int (nI n), .int (nI k), .ref mb, .ref mz, .ref mn, .ref my, .int nx, .int wh, .int (jbi (!pw)), .int cu])), (mt, .inl (ci, 100, .inl tp)), (mb, .inl (cz, 41, .inl fB)), (mz, .inl (ci, 41, .inl fZ)), (mn, .inl (ci, 41, .inl fN)), (my, .inl (ci, 4100, .inl fY))] sz) := by
  refine j_in (Qc := fun A => (va_Qi (fun (x : Int32) (_ : Unit) => x = jop_ct ((n, t), (k, r, z, u, y), (nx, wh, pw, ct)) wv) (j_post D (jT cb ci cz) (fun _ => [(g0, .inr (2, [.ref mt, .int (nI n), .int (nI k), .ref mb, .ref mz, .ref mn, .ref my, .int nx, .int wh, .int (jbi (!pw)), .int cu])), (mt, .inl (ci, 100, .inl tp)), (mb, .inl (cz, 41, .inl fB)), (mz, .inl (ci, 41, .inl fZ)), (mn, .inl (ci, 41, .inl fN)), (my, .inl (ci, 4100, .inl fY))]) A) A)) (cc := cX2_count) (maxL := 2) (ret := (some .int)) (by decide) rfl (Nat.le_of_ble_eq_true rfl) ?_
  intro p e s m av below meth c A ls H locs hx hb hr hml hts hown hlk hin hA hP hK hD hS hl
  have hown : s.vm.findClass RX2 = some m.cls := hown
  have hl : lv_has ls 2 [(0, .ref g0), (1, .int wv)] := hl
  have hk40 : k ≤ 40 := Nat.le_trans (js_ge (jse_pos r z) k) hus
  refine lv_iload_n hx hb dX2_count_0 rfl (lv_at hl 1 rfl) ?_
  by_cases hsw0 : wv = 0
  · refine lv_tableIn (tgt := 36) hx hb dX2_count_1 (by rw [hsw0]; decide +kernel) (by rw [hsw0]; decide +kernel) (off := 35) (by rw [hsw0]; decide +kernel) (by decide) ?_
    refine lv_aload_n hx hb dX2_count_36 rfl (lv_at hl 0 rfl) ?_
    refine va_get (D := D) (ci := 2) (v := .int (nI n)) (C := RX2) (T := TX2) (N := 11) hx hb hts (by decide +kernel) hown hK hP 0 rfl rfl 1 (by decide) (hts (.fieldLink RX2 30 "JournalDeskModel" "taped" "I") (by decide +kernel)) (fun _ h9 => h9) rfl dX2_count_37 ?_
    exact j_iret (v := (nI n)) (()) hx hb hr hlk hK hP hD hS (by show _ = (if wv = 0 then _ else if wv = 1 then _ else if wv = 2 then _ else if wv = 3 then _ else if wv = 4 then _ else _); rw [if_pos hsw0]) dX2_count_40
  by_cases hsw1 : wv = 1
  · refine lv_tableIn (tgt := 41) hx hb dX2_count_1 (by rw [hsw1]; decide +kernel) (by rw [hsw1]; decide +kernel) (off := 40) (by rw [hsw1]; decide +kernel) (by decide) ?_
    refine lv_aload_n hx hb dX2_count_41 rfl (lv_at hl 0 rfl) ?_
    refine va_get (D := D) (ci := 2) (v := .int (jbi (!pw))) (C := RX2) (T := TX2) (N := 11) hx hb hts (by decide +kernel) hown hK hP 0 rfl rfl 9 (by decide) (hts (.fieldLink RX2 40 "JournalDeskModel" "off" "Z") (by decide +kernel)) (fun _ h9 => h9) rfl dX2_count_42 ?_
    refine lv_if_eq (tgt := 52) hx hb dX2_count_45 (by decide) (fun c_45_1 => ?_) (fun c_45_1 => ?_)
    · have hpw : pw = true := jbn_f c_45_1
      refine lv_aload_n hx hb dX2_count_52 rfl (lv_at hl 0 rfl) ?_
      refine j_calli (wr := []) hP hD hS hA [0, 1, 2, 3, 4, 5] [] rfl rfl (by decide) (by decide) (va_runV (As := []) (rest := []) ⟨hx, hb, hml, hown, hts⟩ (c_M_records l D cb ci cz g0 mt mb mz mn my tp fB fZ fN fY n k nx wh (jbi (!pw)) cu r hE.1 (by omega) H.size) (cwV 0 hts gqX2_count_X2_records rfl rfl rfl (by decide +kernel) ⟨Nat.le_of_ble_eq_true rfl, Nat.le_of_ble_eq_true rfl⟩) (j_preV (ci := 2) (q0 := 0) [0, 1, 2, 3, 4, 5] [0, 1, 2] hK hP hD rfl rfl rfl rfl rfl rfl) rfl rfl hl.1 rfl (lv_room (Nat.le_of_ble_eq_true rfl)) dX2_count_53 ⟨Nat.le_of_ble_eq_true rfl, Nat.le_of_ble_eq_true rfl⟩) (fun r53 u9 H locs hw hP hD hS => ?_)
      have hP : va_P D vwCl [(g0, .inr (2, [.ref mt, .int (nI n), .int (nI k), .ref mb, .ref mz, .ref mn, .ref my, .int nx, .int wh, .int (jbi (!pw)), .int cu])), (mt, .inl (ci, 100, .inl tp)), (mb, .inl (cz, 41, .inl fB)), (mz, .inl (ci, 41, .inl fZ)), (mn, .inl (ci, 41, .inl fN)), (my, .inl (ci, 4100, .inl fY))] H := hP
      have hD : va_D A [(g0, .inr (2, [.ref mt, .int (nI n), .int (nI k), .ref mb, .ref mz, .ref mn, .ref my, .int nx, .int wh, .int (jbi (!pw)), .int cu])), (mt, .inl (ci, 100, .inl tp)), (mb, .inl (cz, 41, .inl fB)), (mz, .inl (ci, 41, .inl fZ)), (mn, .inl (ci, 41, .inl fN)), (my, .inl (ci, 4100, .inl fY))] := hD
      have hw : r53 = (nI (js (jcn r) k)) := hw
      subst hw
      exact j_iret (v := (nI (js (jcn r) k))) (()) hx hb hr hlk hK hP hD hS (by show _ = (if wv = 0 then _ else if wv = 1 then _ else if wv = 2 then _ else if wv = 3 then _ else if wv = 4 then _ else _); rw [if_neg hsw0, if_pos hsw1, if_pos hpw]) dX2_count_56
    · have hpw : pw = false := jbn_t c_45_1
      refine lv_iconst (v := (nI 0)) hx hb dX2_count_48 (by decide +kernel) ?_
      refine lv_goto (tgt := 56) hx hb dX2_count_49 (by decide) ?_
      exact j_iret (v := (nI 0)) (()) hx hb hr hlk hK hP hD hS (by show _ = (if wv = 0 then _ else if wv = 1 then _ else if wv = 2 then _ else if wv = 3 then _ else if wv = 4 then _ else _); rw [if_neg hsw0, if_pos hsw1, if_neg (by rw [hpw]; decide)]; rfl) dX2_count_56
  by_cases hsw2 : wv = 2
  · refine lv_tableIn (tgt := 57) hx hb dX2_count_1 (by rw [hsw2]; decide +kernel) (by rw [hsw2]; decide +kernel) (off := 56) (by rw [hsw2]; decide +kernel) (by decide) ?_
    refine lv_aload_n hx hb dX2_count_57 rfl (lv_at hl 0 rfl) ?_
    refine va_get (D := D) (ci := 2) (v := .int (jbi (!pw))) (C := RX2) (T := TX2) (N := 11) hx hb hts (by decide +kernel) hown hK hP 0 rfl rfl 9 (by decide) (hts (.fieldLink RX2 40 "JournalDeskModel" "off" "Z") (by decide +kernel)) (fun _ h9 => h9) rfl dX2_count_58 ?_
    refine lv_if_eq (tgt := 68) hx hb dX2_count_61 (by decide) (fun c_61_2 => ?_) (fun c_61_2 => ?_)
    · have hpw : pw = true := jbn_f c_61_2
      refine lv_aload_n hx hb dX2_count_68 rfl (lv_at hl 0 rfl) ?_
      refine j_calli (wr := []) hP hD hS hA [0, 1, 2, 3, 4, 5] [] rfl rfl (by decide) (by decide) (va_runV (As := []) (rest := []) ⟨hx, hb, hml, hown, hts⟩ (c_M_used l D cb ci cz g0 mt mb mz mn my tp fB fZ fN fY n k nx wh (jbi (!pw)) cu r z hE.1 (by omega) hE.2.1 hz H.size) (cwV 0 hts gqX2_count_X2_used rfl rfl rfl (by decide +kernel) ⟨Nat.le_of_ble_eq_true rfl, Nat.le_of_ble_eq_true rfl⟩) (j_preV (ci := 2) (q0 := 0) [0, 1, 2, 3, 4, 5] [0, 1, 2] hK hP hD rfl rfl rfl rfl rfl rfl) rfl rfl hl.1 rfl (lv_room (Nat.le_of_ble_eq_true rfl)) dX2_count_69 ⟨Nat.le_of_ble_eq_true rfl, Nat.le_of_ble_eq_true rfl⟩) (fun r69 u9 H locs hw hP hD hS => ?_)
      have hP : va_P D vwCl [(g0, .inr (2, [.ref mt, .int (nI n), .int (nI k), .ref mb, .ref mz, .ref mn, .ref my, .int nx, .int wh, .int (jbi (!pw)), .int cu])), (mt, .inl (ci, 100, .inl tp)), (mb, .inl (cz, 41, .inl fB)), (mz, .inl (ci, 41, .inl fZ)), (mn, .inl (ci, 41, .inl fN)), (my, .inl (ci, 4100, .inl fY))] H := hP
      have hD : va_D A [(g0, .inr (2, [.ref mt, .int (nI n), .int (nI k), .ref mb, .ref mz, .ref mn, .ref my, .int nx, .int wh, .int (jbi (!pw)), .int cu])), (mt, .inl (ci, 100, .inl tp)), (mb, .inl (cz, 41, .inl fB)), (mz, .inl (ci, 41, .inl fZ)), (mn, .inl (ci, 41, .inl fN)), (my, .inl (ci, 4100, .inl fY))] := hD
      have hw : r69 = (nI (js (jse r z) k)) := hw
      subst hw
      exact j_iret (v := (nI (js (jse r z) k))) (()) hx hb hr hlk hK hP hD hS (by show _ = (if wv = 0 then _ else if wv = 1 then _ else if wv = 2 then _ else if wv = 3 then _ else if wv = 4 then _ else _); rw [if_neg hsw0, if_neg hsw1, if_pos hsw2, if_pos hpw]) dX2_count_72
    · have hpw : pw = false := jbn_t c_61_2
      refine lv_iconst (v := (nI 0)) hx hb dX2_count_64 (by decide +kernel) ?_
      refine lv_goto (tgt := 72) hx hb dX2_count_65 (by decide) ?_
      exact j_iret (v := (nI 0)) (()) hx hb hr hlk hK hP hD hS (by show _ = (if wv = 0 then _ else if wv = 1 then _ else if wv = 2 then _ else if wv = 3 then _ else if wv = 4 then _ else _); rw [if_neg hsw0, if_neg hsw1, if_pos hsw2, if_neg (by rw [hpw]; decide)]; rfl) dX2_count_72
  by_cases hsw3 : wv = 3
  · refine lv_tableIn (tgt := 73) hx hb dX2_count_1 (by rw [hsw3]; decide +kernel) (by rw [hsw3]; decide +kernel) (off := 72) (by rw [hsw3]; decide +kernel) (by decide) ?_
    refine lv_aload_n hx hb dX2_count_73 rfl (lv_at hl 0 rfl) ?_
    refine va_get (D := D) (ci := 2) (v := .int wh) (C := RX2) (T := TX2) (N := 11) hx hb hts (by decide +kernel) hown hK hP 0 rfl rfl 8 (by decide) (hts (.fieldLink RX2 55 "JournalDeskModel" "whole" "I") (by decide +kernel)) (fun _ h9 => h9) rfl dX2_count_74 ?_
    exact j_iret (v := wh) (()) hx hb hr hlk hK hP hD hS (by show _ = (if wv = 0 then _ else if wv = 1 then _ else if wv = 2 then _ else if wv = 3 then _ else if wv = 4 then _ else _); rw [if_neg hsw0, if_neg hsw1, if_neg hsw2, if_pos hsw3]) dX2_count_77
  by_cases hsw4 : wv = 4
  · refine lv_tableIn (tgt := 78) hx hb dX2_count_1 (by rw [hsw4]; decide +kernel) (by rw [hsw4]; decide +kernel) (off := 77) (by rw [hsw4]; decide +kernel) (by decide) ?_
    refine lv_aload_n hx hb dX2_count_78 rfl (lv_at hl 0 rfl) ?_
    refine va_get (D := D) (ci := 2) (v := .int (jbi (!pw))) (C := RX2) (T := TX2) (N := 11) hx hb hts (by decide +kernel) hown hK hP 0 rfl rfl 9 (by decide) (hts (.fieldLink RX2 40 "JournalDeskModel" "off" "Z") (by decide +kernel)) (fun _ h9 => h9) rfl dX2_count_79 ?_
    refine lv_if_eq (tgt := 89) hx hb dX2_count_82 (by decide) (fun c_82_3 => ?_) (fun c_82_3 => ?_)
    · have hpw : pw = true := jbn_f c_82_3
      refine lv_iconst (v := (nI 1)) hx hb dX2_count_89 (by decide +kernel) ?_
      exact j_iret (v := (nI 1)) (()) hx hb hr hlk hK hP hD hS (by show _ = (if wv = 0 then _ else if wv = 1 then _ else if wv = 2 then _ else if wv = 3 then _ else if wv = 4 then _ else _); rw [if_neg hsw0, if_neg hsw1, if_neg hsw2, if_neg hsw3, if_pos hsw4, hpw]; rfl) dX2_count_90
    · have hpw : pw = false := jbn_t c_82_3
      refine lv_iconst (v := (nI 0)) hx hb dX2_count_85 (by decide +kernel) ?_
      refine lv_goto (tgt := 90) hx hb dX2_count_86 (by decide) ?_
      exact j_iret (v := (nI 0)) (()) hx hb hr hlk hK hP hD hS (by show _ = (if wv = 0 then _ else if wv = 1 then _ else if wv = 2 then _ else if wv = 3 then _ else if wv = 4 then _ else _); rw [if_neg hsw0, if_neg hsw1, if_neg hsw2, if_neg hsw3, if_pos hsw4, hpw]; rfl) dX2_count_90
  refine lv_tableOut (tgt := 91) hx hb dX2_count_1 (by have a0 := lv_neT (k := 0) (a := 0) hsw0 (by decide +kernel); have a1 := lv_neT (k := 1) (a := 1) hsw1 (by decide +kernel); have a2 := lv_neT (k := 2) (a := 2) hsw2 (by decide +kernel); have a3 := lv_neT (k := 3) (a := 3) hsw3 (by decide +kernel); have a4 := lv_neT (k := 4) (a := 4) hsw4 (by decide +kernel); omega) (by decide) ?_
  refine lv_iconst (v := (-1)) hx hb dX2_count_91 (by decide +kernel) ?_
  exact j_iret (v := (-1)) (()) hx hb hr hlk hK hP hD hS (by show _ = (if wv = 0 then _ else if wv = 1 then _ else if wv = 2 then _ else if wv = 3 then _ else if wv = 4 then _ else _); rw [if_neg hsw0, if_neg hsw1, if_neg hsw2, if_neg hsw3, if_neg hsw4]) dX2_count_92
end
section
abbrev rm_R_init : Room := { frames := 1, cells := 3, slots := 560, locals := 12 }
set_option maxHeartbeats 4000000 in
set_option maxRecDepth 100000 in
/-- Ring() -/
theorem c_R_init (l : Launch) (D : va_G) (cb ci cz : ClassId) (qr : Nat) (sz : Nat) : Met l yX0_init wsX0_init rm_R_init (va_Pc [.ref qr] (j_pre D (jT cb ci cz) [(qr, .inr (0, [.null, .null, .null, .int 0, .int 0, .int 0]))] sz)) (va_Qv (fun (_ : Nat × Nat × Nat) => True) (j_post D (jT cb ci cz) (fun (q : Nat × Nat × Nat) => [(qr, .inr (0, [.ref q.1, .ref q.2.1, .ref q.2.2, .int (nI 0), .int (nI 0), .int (nI 0)])), (q.1, .inl (cb, 480, .inl (fun _ => 0))), (q.2.1, .inl (ci, 40, .inl (fun _ => 0))), (q.2.2, .inl (ci, 40, .inl (fun _ => 0)))]) (va_A [(qr, .inr (0, [.null, .null, .null, .int 0, .int 0, .int 0]))] sz)) (va_A [(qr, .inr (0, [.null, .null, .null, .int 0, .int 0, .int 0]))] sz)) 3 560 (va_A [(qr, .inr (0, [.null, .null, .null, .int 0, .int 0, .int 0]))] sz) := by
  refine j_in (Qc := fun A => (va_Qv (fun (_ : Nat × Nat × Nat) => True) (j_post D (jT cb ci cz) (fun (q : Nat × Nat × Nat) => [(qr, .inr (0, [.ref q.1, .ref q.2.1, .ref q.2.2, .int (nI 0), .int (nI 0), .int (nI 0)])), (q.1, .inl (cb, 480, .inl (fun _ => 0))), (q.2.1, .inl (ci, 40, .inl (fun _ => 0))), (q.2.2, .inl (ci, 40, .inl (fun _ => 0)))]) A) A)) (cc := cX0_init) (maxL := 1) (ret := none) (by decide) rfl (Nat.le_of_ble_eq_true rfl) ?_
  intro p e s m av below meth c A ls H locs hx hb hr hml hts hown hlk hin hA hP hK hD hS hl
  have hown : s.vm.findClass RX0 = some m.cls := hown
  have hin : meth.name = "<init>" := hin
  have hl : lv_has ls 1 [(0, .ref qr)] := hl
  refine lv_aload_n hx hb dX0_init_0 rfl (lv_at hl 0 rfl) ?_
  refine W.objInit hx hb hown (hts (.methodLink RX0 5 objectInit) (by decide +kernel)) (hts (.instanceMethod objectInit) (by decide +kernel)) (hts (.code objectInit ⟨#[0xb1]⟩ 1 none) (by decide +kernel)) rfl (by rw [hml]; exact hl.1) rfl dX0_init_1 (Nat.le_of_ble_eq_true rfl) (Nat.le_of_ble_eq_true rfl) ?_
  refine W.eq (g2 := F0 m 4 ls []) rfl ?_
  refine lv_aload_n hx hb dX0_init_4 rfl (lv_at hl 0 rfl) ?_
  refine lv_sipush (v := (nI 480)) hx hb dX0_init_5 (by decide +kernel) ?_
  refine j_newa (atype := .byte) hx hb (hts (.arrayClass .byte) (by decide +kernel)) (ty := .byte) rfl hK hP hD hS hA (j_qb hK) (N' := 480) (fun _ => rfl) (nI_pos (by decide +kernel)) (nI_clamp (by decide +kernel)) (by decide +kernel) (Nat.le_of_ble_eq_true rfl) (Nat.le_of_ble_eq_true rfl) dX0_init_8 (fun q8 H hP hD hS => ?_)
  have hP : va_P D vwCl [(qr, .inr (0, [.null, .null, .null, .int 0, .int 0, .int 0])), (q8, .inl (cb, 480, .inl (fun _ => 0)))] H := hP
  have hD : va_D A [(qr, .inr (0, [.null, .null, .null, .int 0, .int 0, .int 0])), (q8, .inl (cb, 480, .inl (fun _ => 0)))] := hD
  refine W.widen (k := 1) (n := 480) (Nat.le_of_ble_eq_true rfl) (Nat.le_of_ble_eq_true rfl) ?_
  refine va_putF (D := D) (ci := 0) (v := .ref q8) (ty := .array .byte) (C := RX0) (T := TX0) (N := 6) hx hb hts (by decide +kernel) tyX0 tyX0_ok nmX0 hown hK hP hD hS 0 rfl rfl 0 (by decide) (hts (.fieldLink RX0 11 "JournalDesk$Ring" "disk" "[B") (by decide +kernel)) (fun _ h9 => h9) rfl hin rfl (by decide +kernel) (rfl) (rfl) (Nat.le_of_ble_eq_true rfl) dX0_init_10 (fun H locs hP hD hS => ?_)
  have hP : va_P D vwCl [(qr, .inr (0, [.ref q8, .null, .null, .int 0, .int 0, .int 0])), (q8, .inl (cb, 480, .inl (fun _ => 0)))] H := hP
  have hD : va_D A [(qr, .inr (0, [.ref q8, .null, .null, .int 0, .int 0, .int 0])), (q8, .inl (cb, 480, .inl (fun _ => 0)))] := hD
  refine lv_aload_n hx hb dX0_init_13 rfl (lv_at hl 0 rfl) ?_
  refine lv_bipush (v := (nI 40)) hx hb dX0_init_14 (by decide +kernel) ?_
  refine j_newa (atype := .int) hx hb (hts (.arrayClass .int) (by decide +kernel)) (ty := .int) rfl hK hP hD hS hA (j_qi hK) (N' := 40) (fun _ => rfl) (nI_pos (by decide +kernel)) (nI_clamp (by decide +kernel)) (by decide +kernel) (Nat.le_of_ble_eq_true rfl) (Nat.le_of_ble_eq_true rfl) dX0_init_16 (fun q16 H hP hD hS => ?_)
  have hP : va_P D vwCl [(qr, .inr (0, [.ref q8, .null, .null, .int 0, .int 0, .int 0])), (q8, .inl (cb, 480, .inl (fun _ => 0))), (q16, .inl (ci, 40, .inl (fun _ => 0)))] H := hP
  have hD : va_D A [(qr, .inr (0, [.ref q8, .null, .null, .int 0, .int 0, .int 0])), (q8, .inl (cb, 480, .inl (fun _ => 0))), (q16, .inl (ci, 40, .inl (fun _ => 0)))] := hD
  refine W.widen (k := 2) (n := 520) (Nat.le_of_ble_eq_true rfl) (Nat.le_of_ble_eq_true rfl) ?_
  refine va_putF (D := D) (ci := 0) (v := .ref q16) (ty := .array .int) (C := RX0) (T := TX0) (N := 6) hx hb hts (by decide +kernel) tyX0 tyX0_ok nmX0 hown hK hP hD hS 0 rfl rfl 1 (by decide) (hts (.fieldLink RX0 15 "JournalDesk$Ring" "lengths" "[I") (by decide +kernel)) (fun _ h9 => h9) rfl hin rfl (by decide +kernel) (rfl) (rfl) (Nat.le_of_ble_eq_true rfl) dX0_init_18 (fun H locs hP hD hS => ?_)
  have hP : va_P D vwCl [(qr, .inr (0, [.ref q8, .ref q16, .null, .int 0, .int 0, .int 0])), (q8, .inl (cb, 480, .inl (fun _ => 0))), (q16, .inl (ci, 40, .inl (fun _ => 0)))] H := hP
  have hD : va_D A [(qr, .inr (0, [.ref q8, .ref q16, .null, .int 0, .int 0, .int 0])), (q8, .inl (cb, 480, .inl (fun _ => 0))), (q16, .inl (ci, 40, .inl (fun _ => 0)))] := hD
  refine lv_aload_n hx hb dX0_init_21 rfl (lv_at hl 0 rfl) ?_
  refine lv_bipush (v := (nI 40)) hx hb dX0_init_22 (by decide +kernel) ?_
  refine j_newa (atype := .int) hx hb (hts (.arrayClass .int) (by decide +kernel)) (ty := .int) rfl hK hP hD hS hA (j_qi hK) (N' := 40) (fun _ => rfl) (nI_pos (by decide +kernel)) (nI_clamp (by decide +kernel)) (by decide +kernel) (Nat.le_of_ble_eq_true rfl) (Nat.le_of_ble_eq_true rfl) dX0_init_24 (fun q24 H hP hD hS => ?_)
  have hP : va_P D vwCl [(qr, .inr (0, [.ref q8, .ref q16, .null, .int 0, .int 0, .int 0])), (q8, .inl (cb, 480, .inl (fun _ => 0))), (q16, .inl (ci, 40, .inl (fun _ => 0))), (q24, .inl (ci, 40, .inl (fun _ => 0)))] H := hP
  have hD : va_D A [(qr, .inr (0, [.ref q8, .ref q16, .null, .int 0, .int 0, .int 0])), (q8, .inl (cb, 480, .inl (fun _ => 0))), (q16, .inl (ci, 40, .inl (fun _ => 0))), (q24, .inl (ci, 40, .inl (fun _ => 0)))] := hD
  refine W.widen (k := 3) (n := 560) (Nat.le_of_ble_eq_true rfl) (Nat.le_of_ble_eq_true rfl) ?_
  refine va_putF (D := D) (ci := 0) (v := .ref q24) (ty := .array .int) (C := RX0) (T := TX0) (N := 6) hx hb hts (by decide +kernel) tyX0 tyX0_ok nmX0 hown hK hP hD hS 0 rfl rfl 2 (by decide) (hts (.fieldLink RX0 19 "JournalDesk$Ring" "numbers" "[I") (by decide +kernel)) (fun _ h9 => h9) rfl hin rfl (by decide +kernel) (rfl) (rfl) (Nat.le_of_ble_eq_true rfl) dX0_init_26 (fun H locs hP hD hS => ?_)
  have hP : va_P D vwCl [(qr, .inr (0, [.ref q8, .ref q16, .ref q24, .int 0, .int 0, .int 0])), (q8, .inl (cb, 480, .inl (fun _ => 0))), (q16, .inl (ci, 40, .inl (fun _ => 0))), (q24, .inl (ci, 40, .inl (fun _ => 0)))] H := hP
  have hD : va_D A [(qr, .inr (0, [.ref q8, .ref q16, .ref q24, .int 0, .int 0, .int 0])), (q8, .inl (cb, 480, .inl (fun _ => 0))), (q16, .inl (ci, 40, .inl (fun _ => 0))), (q24, .inl (ci, 40, .inl (fun _ => 0)))] := hD
  refine lv_aload_n hx hb dX0_init_29 rfl (lv_at hl 0 rfl) ?_
  refine lv_iconst (v := (nI 0)) hx hb dX0_init_30 (by decide +kernel) ?_
  refine va_put (D := D) (ci := 0) (v := .int (nI 0)) (ty := .int) (C := RX0) (T := TX0) (N := 6) hx hb hts (by decide +kernel) tyX0 tyX0_ok nmX0 hown hK hP hD hS 0 rfl rfl 3 (by decide) (hts (.fieldLink RX0 22 "JournalDesk$Ring" "oldest" "I") (by decide +kernel)) (fun _ h9 => h9) rfl (by decide +kernel) (rfl) (rfl) (Nat.le_of_ble_eq_true rfl) dX0_init_31 (fun H locs hP hD hS => ?_)
  have hP : va_P D vwCl [(qr, .inr (0, [.ref q8, .ref q16, .ref q24, .int (nI 0), .int 0, .int 0])), (q8, .inl (cb, 480, .inl (fun _ => 0))), (q16, .inl (ci, 40, .inl (fun _ => 0))), (q24, .inl (ci, 40, .inl (fun _ => 0)))] H := hP
  have hD : va_D A [(qr, .inr (0, [.ref q8, .ref q16, .ref q24, .int (nI 0), .int 0, .int 0])), (q8, .inl (cb, 480, .inl (fun _ => 0))), (q16, .inl (ci, 40, .inl (fun _ => 0))), (q24, .inl (ci, 40, .inl (fun _ => 0)))] := hD
  refine lv_aload_n hx hb dX0_init_34 rfl (lv_at hl 0 rfl) ?_
  refine lv_iconst (v := (nI 0)) hx hb dX0_init_35 (by decide +kernel) ?_
  refine va_put (D := D) (ci := 0) (v := .int (nI 0)) (ty := .int) (C := RX0) (T := TX0) (N := 6) hx hb hts (by decide +kernel) tyX0 tyX0_ok nmX0 hown hK hP hD hS 0 rfl rfl 4 (by decide) (hts (.fieldLink RX0 26 "JournalDesk$Ring" "used" "I") (by decide +kernel)) (fun _ h9 => h9) rfl (by decide +kernel) (rfl) (rfl) (Nat.le_of_ble_eq_true rfl) dX0_init_36 (fun H locs hP hD hS => ?_)
  have hP : va_P D vwCl [(qr, .inr (0, [.ref q8, .ref q16, .ref q24, .int (nI 0), .int (nI 0), .int 0])), (q8, .inl (cb, 480, .inl (fun _ => 0))), (q16, .inl (ci, 40, .inl (fun _ => 0))), (q24, .inl (ci, 40, .inl (fun _ => 0)))] H := hP
  have hD : va_D A [(qr, .inr (0, [.ref q8, .ref q16, .ref q24, .int (nI 0), .int (nI 0), .int 0])), (q8, .inl (cb, 480, .inl (fun _ => 0))), (q16, .inl (ci, 40, .inl (fun _ => 0))), (q24, .inl (ci, 40, .inl (fun _ => 0)))] := hD
  refine lv_aload_n hx hb dX0_init_39 rfl (lv_at hl 0 rfl) ?_
  refine lv_iconst (v := (nI 0)) hx hb dX0_init_40 (by decide +kernel) ?_
  refine va_put (D := D) (ci := 0) (v := .int (nI 0)) (ty := .int) (C := RX0) (T := TX0) (N := 6) hx hb hts (by decide +kernel) tyX0 tyX0_ok nmX0 hown hK hP hD hS 0 rfl rfl 5 (by decide) (hts (.fieldLink RX0 29 "JournalDesk$Ring" "present" "I") (by decide +kernel)) (fun _ h9 => h9) rfl (by decide +kernel) (rfl) (rfl) (Nat.le_of_ble_eq_true rfl) dX0_init_41 (fun H locs hP hD hS => ?_)
  have hP : va_P D vwCl [(qr, .inr (0, [.ref q8, .ref q16, .ref q24, .int (nI 0), .int (nI 0), .int (nI 0)])), (q8, .inl (cb, 480, .inl (fun _ => 0))), (q16, .inl (ci, 40, .inl (fun _ => 0))), (q24, .inl (ci, 40, .inl (fun _ => 0)))] H := hP
  have hD : va_D A [(qr, .inr (0, [.ref q8, .ref q16, .ref q24, .int (nI 0), .int (nI 0), .int (nI 0)])), (q8, .inl (cb, 480, .inl (fun _ => 0))), (q16, .inl (ci, 40, .inl (fun _ => 0))), (q24, .inl (ci, 40, .inl (fun _ => 0)))] := hD
  exact j_vret ((q8, q16, q24)) hx hb hr hlk hK hP hD hS (trivial) dX0_init_44
abbrev rm_D_init : Room := { frames := 2, cells := 5, slots := 666, locals := 32 }
set_option maxHeartbeats 4000000 in
set_option maxRecDepth 100000 in
/-- JournalDesk() -/
theorem c_D_init (l : Launch) (D : va_G) (cb ci cz : ClassId) (h0 : Nat) (sz : Nat) : Met l yX1_init wsX1_init rm_D_init (va_Pc [.ref h0] (j_pre D (jT cb ci cz) [(h0, .inr (1, [.null, .int 0, .null, .int 0, .int 0, .int 0, .int 0]))] sz)) (va_Qv (fun (_ : Nat × Nat × Nat × Nat × Nat) => True) (j_post D (jT cb ci cz) (fun (q : Nat × Nat × Nat × Nat × Nat) => jDw h0 q.1 q.2.1 q.2.2.1 q.2.2.2.1 q.2.2.2.2 cb ci ((fun _ => 0), (fun _ => 0), (fun _ => 0), (fun _ => 0), 0, 0, 0, 0, 0, 0, 1, 0)) (va_A [(h0, .inr (1, [.null, .int 0, .null, .int 0, .int 0, .int 0, .int 0]))] sz)) (va_A [(h0, .inr (1, [.null, .int 0, .null, .int 0, .int 0, .int 0, .int 0]))] sz)) 5 666 (va_A [(h0, .inr (1, [.null, .int 0, .null, .int 0, .int 0, .int 0, .int 0]))] sz) := by
  refine j_in (Qc := fun A => (va_Qv (fun (_ : Nat × Nat × Nat × Nat × Nat) => True) (j_post D (jT cb ci cz) (fun (q : Nat × Nat × Nat × Nat × Nat) => jDw h0 q.1 q.2.1 q.2.2.1 q.2.2.2.1 q.2.2.2.2 cb ci ((fun _ => 0), (fun _ => 0), (fun _ => 0), (fun _ => 0), 0, 0, 0, 0, 0, 0, 1, 0)) A) A)) (cc := cX1_init) (maxL := 1) (ret := none) (by decide) rfl (Nat.le_of_ble_eq_true rfl) ?_
  intro p e s m av below meth c A ls H locs hx hb hr hml hts hown hlk hin hA hP hK hD hS hl
  have hown : s.vm.findClass RX1 = some m.cls := hown
  have hin : meth.name = "<init>" := hin
  have hl : lv_has ls 1 [(0, .ref h0)] := hl
  refine lv_aload_n hx hb dX1_init_0 rfl (lv_at hl 0 rfl) ?_
  refine W.objInit hx hb hown (hts (.methodLink RX1 1 objectInit) (by decide +kernel)) (hts (.instanceMethod objectInit) (by decide +kernel)) (hts (.code objectInit ⟨#[0xb1]⟩ 1 none) (by decide +kernel)) rfl (by rw [hml]; exact hl.1) rfl dX1_init_1 (Nat.le_of_ble_eq_true rfl) (Nat.le_of_ble_eq_true rfl) ?_
  refine W.eq (g2 := F0 m 4 ls []) rfl ?_
  refine lv_aload_n hx hb dX1_init_4 rfl (lv_at hl 0 rfl) ?_
  refine lv_bipush (v := (nI 100)) hx hb dX1_init_5 (by decide +kernel) ?_
  refine j_newa (atype := .byte) hx hb (hts (.arrayClass .byte) (by decide +kernel)) (ty := .byte) rfl hK hP hD hS hA (j_qb hK) (N' := 100) (fun _ => rfl) (nI_pos (by decide +kernel)) (nI_clamp (by decide +kernel)) (by decide +kernel) (Nat.le_of_ble_eq_true rfl) (Nat.le_of_ble_eq_true rfl) dX1_init_7 (fun q7 H hP hD hS => ?_)
  have hP : va_P D vwCl [(h0, .inr (1, [.null, .int 0, .null, .int 0, .int 0, .int 0, .int 0])), (q7, .inl (cb, 100, .inl (fun _ => 0)))] H := hP
  have hD : va_D A [(h0, .inr (1, [.null, .int 0, .null, .int 0, .int 0, .int 0, .int 0])), (q7, .inl (cb, 100, .inl (fun _ => 0)))] := hD
  refine W.widen (k := 1) (n := 100) (Nat.le_of_ble_eq_true rfl) (Nat.le_of_ble_eq_true rfl) ?_
  refine va_putF (D := D) (ci := 1) (v := .ref q7) (ty := .array .byte) (C := RX1) (T := TX1) (N := 7) hx hb hts (by decide +kernel) tyX1 tyX1_ok nmX1 hown hK hP hD hS 0 rfl rfl 0 (by decide) (hts (.fieldLink RX1 9 "JournalDesk" "tape" "[B") (by decide +kernel)) (fun _ h9 => h9) rfl hin rfl (by decide +kernel) (rfl) (rfl) (Nat.le_of_ble_eq_true rfl) dX1_init_9 (fun H locs hP hD hS => ?_)
  have hP : va_P D vwCl [(h0, .inr (1, [.ref q7, .int 0, .null, .int 0, .int 0, .int 0, .int 0])), (q7, .inl (cb, 100, .inl (fun _ => 0)))] H := hP
  have hD : va_D A [(h0, .inr (1, [.ref q7, .int 0, .null, .int 0, .int 0, .int 0, .int 0])), (q7, .inl (cb, 100, .inl (fun _ => 0)))] := hD
  refine lv_aload_n hx hb dX1_init_12 rfl (lv_at hl 0 rfl) ?_
  refine lv_iconst (v := (nI 0)) hx hb dX1_init_13 (by decide +kernel) ?_
  refine va_put (D := D) (ci := 1) (v := .int (nI 0)) (ty := .int) (C := RX1) (T := TX1) (N := 7) hx hb hts (by decide +kernel) tyX1 tyX1_ok nmX1 hown hK hP hD hS 0 rfl rfl 1 (by decide) (hts (.fieldLink RX1 13 "JournalDesk" "taped" "I") (by decide +kernel)) (fun _ h9 => h9) rfl (by decide +kernel) (rfl) (rfl) (Nat.le_of_ble_eq_true rfl) dX1_init_14 (fun H locs hP hD hS => ?_)
  have hP : va_P D vwCl [(h0, .inr (1, [.ref q7, .int (nI 0), .null, .int 0, .int 0, .int 0, .int 0])), (q7, .inl (cb, 100, .inl (fun _ => 0)))] H := hP
  have hD : va_D A [(h0, .inr (1, [.ref q7, .int (nI 0), .null, .int 0, .int 0, .int 0, .int 0])), (q7, .inl (cb, 100, .inl (fun _ => 0)))] := hD
  refine lv_aload_n hx hb dX1_init_17 rfl (lv_at hl 0 rfl) ?_
  refine va_new (ci := 0) (fs := [.null, .null, .null, .int 0, .int 0, .int 0]) (C := RX0) (T := TX0) (N := 6) hx hb hts (by decide +kernel) tyX0 tyX0_ok hown (hts (.classLink RX1 17 RX0) (by decide +kernel)) (hts (.instantiable RX0 6) (by decide +kernel)) (hts (.initialized RX0) (by decide +kernel)) hK hP hD hS hA rfl (by decide +kernel) (Nat.le_of_ble_eq_true rfl) (Nat.le_of_ble_eq_true rfl) dX1_init_18 (fun q18 H hP hD hS => ?_)
  have hP : va_P D vwCl [(h0, .inr (1, [.ref q7, .int (nI 0), .null, .int 0, .int 0, .int 0, .int 0])), (q7, .inl (cb, 100, .inl (fun _ => 0))), (q18, .inr (0, [.null, .null, .null, .int 0, .int 0, .int 0]))] H := hP
  have hD : va_D A [(h0, .inr (1, [.ref q7, .int (nI 0), .null, .int 0, .int 0, .int 0, .int 0])), (q7, .inl (cb, 100, .inl (fun _ => 0))), (q18, .inr (0, [.null, .null, .null, .int 0, .int 0, .int 0]))] := hD
  refine W.widen (k := 2) (n := 106) (Nat.le_of_ble_eq_true rfl) (Nat.le_of_ble_eq_true rfl) ?_
  refine lv_dup hx hb dX1_init_21 rfl ?_
  refine j_callv (wr := [(h0, .inr (1, [.ref q7, .int (nI 0), .null, .int 0, .int 0, .int 0, .int 0])), (q7, .inl (cb, 100, .inl (fun _ => 0)))]) hP hD hS hA [2] [0, 1] rfl rfl (by decide) (by decide) (va_runI (As := []) (rest := [.ref q18, .ref h0]) ⟨hx, hb, hml, hown, hts⟩ (c_R_init l D cb ci cz q18 H.size) (cwI 0 hts gX1_init_X0_init rfl rfl rfl (hts (.initialized RX0) (by decide +kernel)) (hts (.methodLink RX1 19 yX0_init) (by decide +kernel)) (hts (.instanceMethod yX0_init) (by decide +kernel)) rfl (by decide +kernel) ⟨Nat.le_of_ble_eq_true rfl, Nat.le_of_ble_eq_true rfl⟩) (j_preS [2] [0, 1, 2] hK hP hD rfl rfl rfl rfl) rfl rfl hl.1 rfl (lv_room (Nat.le_of_ble_eq_true rfl)) dX1_init_22 ⟨Nat.le_of_ble_eq_true rfl, Nat.le_of_ble_eq_true rfl⟩) (fun qs H locs hw hP hD hS => ?_)
  obtain ⟨qd, ql, qn⟩ := qs
  have hP : va_P D vwCl [(h0, .inr (1, [.ref q7, .int (nI 0), .null, .int 0, .int 0, .int 0, .int 0])), (q7, .inl (cb, 100, .inl (fun _ => 0))), (q18, .inr (0, [.ref qd, .ref ql, .ref qn, .int (nI 0), .int (nI 0), .int (nI 0)])), (qd, .inl (cb, 480, .inl (fun _ => 0))), (ql, .inl (ci, 40, .inl (fun _ => 0))), (qn, .inl (ci, 40, .inl (fun _ => 0)))] H := hP
  have hD : va_D A [(h0, .inr (1, [.ref q7, .int (nI 0), .null, .int 0, .int 0, .int 0, .int 0])), (q7, .inl (cb, 100, .inl (fun _ => 0))), (q18, .inr (0, [.ref qd, .ref ql, .ref qn, .int (nI 0), .int (nI 0), .int (nI 0)])), (qd, .inl (cb, 480, .inl (fun _ => 0))), (ql, .inl (ci, 40, .inl (fun _ => 0))), (qn, .inl (ci, 40, .inl (fun _ => 0)))] := hD
  refine W.widen (k := 5) (n := 666) (Nat.le_of_ble_eq_true rfl) (Nat.le_of_ble_eq_true rfl) ?_
  refine va_putF (D := D) (ci := 1) (v := .ref q18) (ty := .object "JournalDesk$Ring") (C := RX1) (T := TX1) (N := 7) hx hb hts (by decide +kernel) tyX1 tyX1_ok nmX1 hown hK hP hD hS 0 rfl rfl 2 (by decide) (hts (.fieldLink RX1 20 "JournalDesk" "ring" "LJournalDesk$Ring;") (by decide +kernel)) (fun _ h9 => h9) rfl hin rfl (by decide +kernel) (rfl) (rfl) (Nat.le_of_ble_eq_true rfl) dX1_init_25 (fun H locs hP hD hS => ?_)
  have hP : va_P D vwCl [(h0, .inr (1, [.ref q7, .int (nI 0), .ref q18, .int 0, .int 0, .int 0, .int 0])), (q7, .inl (cb, 100, .inl (fun _ => 0))), (q18, .inr (0, [.ref qd, .ref ql, .ref qn, .int (nI 0), .int (nI 0), .int (nI 0)])), (qd, .inl (cb, 480, .inl (fun _ => 0))), (ql, .inl (ci, 40, .inl (fun _ => 0))), (qn, .inl (ci, 40, .inl (fun _ => 0)))] H := hP
  have hD : va_D A [(h0, .inr (1, [.ref q7, .int (nI 0), .ref q18, .int 0, .int 0, .int 0, .int 0])), (q7, .inl (cb, 100, .inl (fun _ => 0))), (q18, .inr (0, [.ref qd, .ref ql, .ref qn, .int (nI 0), .int (nI 0), .int (nI 0)])), (qd, .inl (cb, 480, .inl (fun _ => 0))), (ql, .inl (ci, 40, .inl (fun _ => 0))), (qn, .inl (ci, 40, .inl (fun _ => 0)))] := hD
  refine lv_aload_n hx hb dX1_init_28 rfl (lv_at hl 0 rfl) ?_
  refine lv_iconst (v := (nI 0)) hx hb dX1_init_29 (by decide +kernel) ?_
  refine va_put (D := D) (ci := 1) (v := .int (nI 0)) (ty := .int) (C := RX1) (T := TX1) (N := 7) hx hb hts (by decide +kernel) tyX1 tyX1_ok nmX1 hown hK hP hD hS 0 rfl rfl 3 (by decide) (hts (.fieldLink RX1 24 "JournalDesk" "nextNumber" "I") (by decide +kernel)) (fun _ h9 => h9) rfl (by decide +kernel) (rfl) (rfl) (Nat.le_of_ble_eq_true rfl) dX1_init_30 (fun H locs hP hD hS => ?_)
  have hP : va_P D vwCl [(h0, .inr (1, [.ref q7, .int (nI 0), .ref q18, .int (nI 0), .int 0, .int 0, .int 0])), (q7, .inl (cb, 100, .inl (fun _ => 0))), (q18, .inr (0, [.ref qd, .ref ql, .ref qn, .int (nI 0), .int (nI 0), .int (nI 0)])), (qd, .inl (cb, 480, .inl (fun _ => 0))), (ql, .inl (ci, 40, .inl (fun _ => 0))), (qn, .inl (ci, 40, .inl (fun _ => 0)))] H := hP
  have hD : va_D A [(h0, .inr (1, [.ref q7, .int (nI 0), .ref q18, .int (nI 0), .int 0, .int 0, .int 0])), (q7, .inl (cb, 100, .inl (fun _ => 0))), (q18, .inr (0, [.ref qd, .ref ql, .ref qn, .int (nI 0), .int (nI 0), .int (nI 0)])), (qd, .inl (cb, 480, .inl (fun _ => 0))), (ql, .inl (ci, 40, .inl (fun _ => 0))), (qn, .inl (ci, 40, .inl (fun _ => 0)))] := hD
  refine lv_aload_n hx hb dX1_init_33 rfl (lv_at hl 0 rfl) ?_
  refine lv_iconst (v := (nI 0)) hx hb dX1_init_34 (by decide +kernel) ?_
  refine va_put (D := D) (ci := 1) (v := .int (nI 0)) (ty := .int) (C := RX1) (T := TX1) (N := 7) hx hb hts (by decide +kernel) tyX1 tyX1_ok nmX1 hown hK hP hD hS 0 rfl rfl 4 (by decide) (hts (.fieldLink RX1 27 "JournalDesk" "wholeEntries" "I") (by decide +kernel)) (fun _ h9 => h9) rfl (by decide +kernel) (rfl) (rfl) (Nat.le_of_ble_eq_true rfl) dX1_init_35 (fun H locs hP hD hS => ?_)
  have hP : va_P D vwCl [(h0, .inr (1, [.ref q7, .int (nI 0), .ref q18, .int (nI 0), .int (nI 0), .int 0, .int 0])), (q7, .inl (cb, 100, .inl (fun _ => 0))), (q18, .inr (0, [.ref qd, .ref ql, .ref qn, .int (nI 0), .int (nI 0), .int (nI 0)])), (qd, .inl (cb, 480, .inl (fun _ => 0))), (ql, .inl (ci, 40, .inl (fun _ => 0))), (qn, .inl (ci, 40, .inl (fun _ => 0)))] H := hP
  have hD : va_D A [(h0, .inr (1, [.ref q7, .int (nI 0), .ref q18, .int (nI 0), .int (nI 0), .int 0, .int 0])), (q7, .inl (cb, 100, .inl (fun _ => 0))), (q18, .inr (0, [.ref qd, .ref ql, .ref qn, .int (nI 0), .int (nI 0), .int (nI 0)])), (qd, .inl (cb, 480, .inl (fun _ => 0))), (ql, .inl (ci, 40, .inl (fun _ => 0))), (qn, .inl (ci, 40, .inl (fun _ => 0)))] := hD
  refine lv_aload_n hx hb dX1_init_38 rfl (lv_at hl 0 rfl) ?_
  refine lv_iconst (v := (nI 1)) hx hb dX1_init_39 (by decide +kernel) ?_
  refine va_put (D := D) (ci := 1) (v := .int (nI 1)) (ty := .boolean) (C := RX1) (T := TX1) (N := 7) hx hb hts (by decide +kernel) tyX1 tyX1_ok nmX1 hown hK hP hD hS 0 rfl rfl 5 (by decide) (hts (.fieldLink RX1 30 "JournalDesk" "power" "Z") (by decide +kernel)) (fun _ h9 => h9) rfl (by decide +kernel) (rfl) (rfl) (Nat.le_of_ble_eq_true rfl) dX1_init_40 (fun H locs hP hD hS => ?_)
  have hP : va_P D vwCl [(h0, .inr (1, [.ref q7, .int (nI 0), .ref q18, .int (nI 0), .int (nI 0), .int (nI 1), .int 0])), (q7, .inl (cb, 100, .inl (fun _ => 0))), (q18, .inr (0, [.ref qd, .ref ql, .ref qn, .int (nI 0), .int (nI 0), .int (nI 0)])), (qd, .inl (cb, 480, .inl (fun _ => 0))), (ql, .inl (ci, 40, .inl (fun _ => 0))), (qn, .inl (ci, 40, .inl (fun _ => 0)))] H := hP
  have hD : va_D A [(h0, .inr (1, [.ref q7, .int (nI 0), .ref q18, .int (nI 0), .int (nI 0), .int (nI 1), .int 0])), (q7, .inl (cb, 100, .inl (fun _ => 0))), (q18, .inr (0, [.ref qd, .ref ql, .ref qn, .int (nI 0), .int (nI 0), .int (nI 0)])), (qd, .inl (cb, 480, .inl (fun _ => 0))), (ql, .inl (ci, 40, .inl (fun _ => 0))), (qn, .inl (ci, 40, .inl (fun _ => 0)))] := hD
  refine lv_aload_n hx hb dX1_init_43 rfl (lv_at hl 0 rfl) ?_
  refine lv_iconst (v := (nI 0)) hx hb dX1_init_44 (by decide +kernel) ?_
  refine va_put (D := D) (ci := 1) (v := .int (nI 0)) (ty := .boolean) (C := RX1) (T := TX1) (N := 7) hx hb hts (by decide +kernel) tyX1 tyX1_ok nmX1 hown hK hP hD hS 0 rfl rfl 6 (by decide) (hts (.fieldLink RX1 34 "JournalDesk" "cutNext" "Z") (by decide +kernel)) (fun _ h9 => h9) rfl (by decide +kernel) (rfl) (rfl) (Nat.le_of_ble_eq_true rfl) dX1_init_45 (fun H locs hP hD hS => ?_)
  have hP : va_P D vwCl [(h0, .inr (1, [.ref q7, .int (nI 0), .ref q18, .int (nI 0), .int (nI 0), .int (nI 1), .int (nI 0)])), (q7, .inl (cb, 100, .inl (fun _ => 0))), (q18, .inr (0, [.ref qd, .ref ql, .ref qn, .int (nI 0), .int (nI 0), .int (nI 0)])), (qd, .inl (cb, 480, .inl (fun _ => 0))), (ql, .inl (ci, 40, .inl (fun _ => 0))), (qn, .inl (ci, 40, .inl (fun _ => 0)))] H := hP
  have hD : va_D A [(h0, .inr (1, [.ref q7, .int (nI 0), .ref q18, .int (nI 0), .int (nI 0), .int (nI 1), .int (nI 0)])), (q7, .inl (cb, 100, .inl (fun _ => 0))), (q18, .inr (0, [.ref qd, .ref ql, .ref qn, .int (nI 0), .int (nI 0), .int (nI 0)])), (qd, .inl (cb, 480, .inl (fun _ => 0))), (ql, .inl (ci, 40, .inl (fun _ => 0))), (qn, .inl (ci, 40, .inl (fun _ => 0)))] := hD
  exact j_vret ((q7, q18, qd, ql, qn)) hx hb hr hlk hK hP hD hS (trivial) dX1_init_48
abbrev rm_M_init : Room := { frames := 1, cells := 5, slots := 4323, locals := 12 }
set_option maxHeartbeats 4000000 in
set_option maxRecDepth 100000 in
/-- the reference is made -/
theorem c_M_init (l : Launch) (D : va_G) (cb ci cz : ClassId) (g0 : Nat) (sz : Nat) : Met l yX2_init wsX2_init rm_M_init (va_Pc [.ref g0] (j_pre D (jT cb ci cz) [(g0, .inr (2, [.null, .int 0, .int 0, .null, .null, .null, .null, .int 0, .int 0, .int 0, .int 0]))] sz)) (va_Qv (fun (_ : Nat × Nat × Nat × Nat × Nat) => True) (j_post D (jT cb ci cz) (fun (q : Nat × Nat × Nat × Nat × Nat) => jMw g0 q.1 q.2.1 q.2.2.1 q.2.2.2.1 q.2.2.2.2 ci cz ((fun _ => 0), (fun _ => 0), (fun _ => 0), (fun _ => 0), (fun _ => 0), 0, 0, 0, 0, 0, -1)) (va_A [(g0, .inr (2, [.null, .int 0, .int 0, .null, .null, .null, .null, .int 0, .int 0, .int 0, .int 0]))] sz)) (va_A [(g0, .inr (2, [.null, .int 0, .int 0, .null, .null, .null, .null, .int 0, .int 0, .int 0, .int 0]))] sz)) 5 4323 (va_A [(g0, .inr (2, [.null, .int 0, .int 0, .null, .null, .null, .null, .int 0, .int 0, .int 0, .int 0]))] sz) := by
  refine j_in (Qc := fun A => (va_Qv (fun (_ : Nat × Nat × Nat × Nat × Nat) => True) (j_post D (jT cb ci cz) (fun (q : Nat × Nat × Nat × Nat × Nat) => jMw g0 q.1 q.2.1 q.2.2.1 q.2.2.2.1 q.2.2.2.2 ci cz ((fun _ => 0), (fun _ => 0), (fun _ => 0), (fun _ => 0), (fun _ => 0), 0, 0, 0, 0, 0, -1)) A) A)) (cc := cX2_init) (maxL := 1) (ret := none) (by decide) rfl (Nat.le_of_ble_eq_true rfl) ?_
  intro p e s m av below meth c A ls H locs hx hb hr hml hts hown hlk hin hA hP hK hD hS hl
  have hown : s.vm.findClass RX2 = some m.cls := hown
  have hin : meth.name = "<init>" := hin
  have hl : lv_has ls 1 [(0, .ref g0)] := hl
  refine lv_aload_n hx hb dX2_init_0 rfl (lv_at hl 0 rfl) ?_
  refine W.objInit hx hb hown (hts (.methodLink RX2 1 objectInit) (by decide +kernel)) (hts (.instanceMethod objectInit) (by decide +kernel)) (hts (.code objectInit ⟨#[0xb1]⟩ 1 none) (by decide +kernel)) rfl (by rw [hml]; exact hl.1) rfl dX2_init_1 (Nat.le_of_ble_eq_true rfl) (Nat.le_of_ble_eq_true rfl) ?_
  refine W.eq (g2 := F0 m 4 ls []) rfl ?_
  refine lv_aload_n hx hb dX2_init_4 rfl (lv_at hl 0 rfl) ?_
  refine lv_bipush (v := (nI 100)) hx hb dX2_init_5 (by decide +kernel) ?_
  refine j_newa (atype := .int) hx hb (hts (.arrayClass .int) (by decide +kernel)) (ty := .int) rfl hK hP hD hS hA (j_qi hK) (N' := 100) (fun _ => rfl) (nI_pos (by decide +kernel)) (nI_clamp (by decide +kernel)) (by decide +kernel) (Nat.le_of_ble_eq_true rfl) (Nat.le_of_ble_eq_true rfl) dX2_init_7 (fun q7 H hP hD hS => ?_)
  have hP : va_P D vwCl [(g0, .inr (2, [.null, .int 0, .int 0, .null, .null, .null, .null, .int 0, .int 0, .int 0, .int 0])), (q7, .inl (ci, 100, .inl (fun _ => 0)))] H := hP
  have hD : va_D A [(g0, .inr (2, [.null, .int 0, .int 0, .null, .null, .null, .null, .int 0, .int 0, .int 0, .int 0])), (q7, .inl (ci, 100, .inl (fun _ => 0)))] := hD
  refine W.widen (k := 1) (n := 100) (Nat.le_of_ble_eq_true rfl) (Nat.le_of_ble_eq_true rfl) ?_
  refine va_putF (D := D) (ci := 2) (v := .ref q7) (ty := .array .int) (C := RX2) (T := TX2) (N := 11) hx hb hts (by decide +kernel) tyX2 tyX2_ok nmX2 hown hK hP hD hS 0 rfl rfl 0 (by decide) (hts (.fieldLink RX2 7 "JournalDeskModel" "tape" "[I") (by decide +kernel)) (fun _ h9 => h9) rfl hin rfl (by decide +kernel) (rfl) (rfl) (Nat.le_of_ble_eq_true rfl) dX2_init_9 (fun H locs hP hD hS => ?_)
  have hP : va_P D vwCl [(g0, .inr (2, [.ref q7, .int 0, .int 0, .null, .null, .null, .null, .int 0, .int 0, .int 0, .int 0])), (q7, .inl (ci, 100, .inl (fun _ => 0)))] H := hP
  have hD : va_D A [(g0, .inr (2, [.ref q7, .int 0, .int 0, .null, .null, .null, .null, .int 0, .int 0, .int 0, .int 0])), (q7, .inl (ci, 100, .inl (fun _ => 0)))] := hD
  refine lv_aload_n hx hb dX2_init_12 rfl (lv_at hl 0 rfl) ?_
  refine lv_bipush (v := (nI 41)) hx hb dX2_init_13 (by decide +kernel) ?_
  refine j_newa (atype := .boolean) hx hb (hts (.arrayClass .boolean) (by decide +kernel)) (ty := .boolean) rfl hK hP hD hS hA (j_qz hK) (N' := 41) (fun _ => rfl) (nI_pos (by decide +kernel)) (nI_clamp (by decide +kernel)) (by decide +kernel) (Nat.le_of_ble_eq_true rfl) (Nat.le_of_ble_eq_true rfl) dX2_init_15 (fun q15 H hP hD hS => ?_)
  have hP : va_P D vwCl [(g0, .inr (2, [.ref q7, .int 0, .int 0, .null, .null, .null, .null, .int 0, .int 0, .int 0, .int 0])), (q7, .inl (ci, 100, .inl (fun _ => 0))), (q15, .inl (cz, 41, .inl (fun _ => 0)))] H := hP
  have hD : va_D A [(g0, .inr (2, [.ref q7, .int 0, .int 0, .null, .null, .null, .null, .int 0, .int 0, .int 0, .int 0])), (q7, .inl (ci, 100, .inl (fun _ => 0))), (q15, .inl (cz, 41, .inl (fun _ => 0)))] := hD
  refine W.widen (k := 2) (n := 141) (Nat.le_of_ble_eq_true rfl) (Nat.le_of_ble_eq_true rfl) ?_
  refine va_putF (D := D) (ci := 2) (v := .ref q15) (ty := .array .boolean) (C := RX2) (T := TX2) (N := 11) hx hb hts (by decide +kernel) tyX2 tyX2_ok nmX2 hown hK hP hD hS 0 rfl rfl 3 (by decide) (hts (.fieldLink RX2 13 "JournalDeskModel" "isRecord" "[Z") (by decide +kernel)) (fun _ h9 => h9) rfl hin rfl (by decide +kernel) (rfl) (rfl) (Nat.le_of_ble_eq_true rfl) dX2_init_17 (fun H locs hP hD hS => ?_)
  have hP : va_P D vwCl [(g0, .inr (2, [.ref q7, .int 0, .int 0, .ref q15, .null, .null, .null, .int 0, .int 0, .int 0, .int 0])), (q7, .inl (ci, 100, .inl (fun _ => 0))), (q15, .inl (cz, 41, .inl (fun _ => 0)))] H := hP
  have hD : va_D A [(g0, .inr (2, [.ref q7, .int 0, .int 0, .ref q15, .null, .null, .null, .int 0, .int 0, .int 0, .int 0])), (q7, .inl (ci, 100, .inl (fun _ => 0))), (q15, .inl (cz, 41, .inl (fun _ => 0)))] := hD
  refine lv_aload_n hx hb dX2_init_20 rfl (lv_at hl 0 rfl) ?_
  refine lv_bipush (v := (nI 41)) hx hb dX2_init_21 (by decide +kernel) ?_
  refine j_newa (atype := .int) hx hb (hts (.arrayClass .int) (by decide +kernel)) (ty := .int) rfl hK hP hD hS hA (j_qi hK) (N' := 41) (fun _ => rfl) (nI_pos (by decide +kernel)) (nI_clamp (by decide +kernel)) (by decide +kernel) (Nat.le_of_ble_eq_true rfl) (Nat.le_of_ble_eq_true rfl) dX2_init_23 (fun q23 H hP hD hS => ?_)
  have hP : va_P D vwCl [(g0, .inr (2, [.ref q7, .int 0, .int 0, .ref q15, .null, .null, .null, .int 0, .int 0, .int 0, .int 0])), (q7, .inl (ci, 100, .inl (fun _ => 0))), (q15, .inl (cz, 41, .inl (fun _ => 0))), (q23, .inl (ci, 41, .inl (fun _ => 0)))] H := hP
  have hD : va_D A [(g0, .inr (2, [.ref q7, .int 0, .int 0, .ref q15, .null, .null, .null, .int 0, .int 0, .int 0, .int 0])), (q7, .inl (ci, 100, .inl (fun _ => 0))), (q15, .inl (cz, 41, .inl (fun _ => 0))), (q23, .inl (ci, 41, .inl (fun _ => 0)))] := hD
  refine W.widen (k := 3) (n := 182) (Nat.le_of_ble_eq_true rfl) (Nat.le_of_ble_eq_true rfl) ?_
  refine va_putF (D := D) (ci := 2) (v := .ref q23) (ty := .array .int) (C := RX2) (T := TX2) (N := 11) hx hb hts (by decide +kernel) tyX2 tyX2_ok nmX2 hown hK hP hD hS 0 rfl rfl 4 (by decide) (hts (.fieldLink RX2 17 "JournalDeskModel" "sizes" "[I") (by decide +kernel)) (fun _ h9 => h9) rfl hin rfl (by decide +kernel) (rfl) (rfl) (Nat.le_of_ble_eq_true rfl) dX2_init_25 (fun H locs hP hD hS => ?_)
  have hP : va_P D vwCl [(g0, .inr (2, [.ref q7, .int 0, .int 0, .ref q15, .ref q23, .null, .null, .int 0, .int 0, .int 0, .int 0])), (q7, .inl (ci, 100, .inl (fun _ => 0))), (q15, .inl (cz, 41, .inl (fun _ => 0))), (q23, .inl (ci, 41, .inl (fun _ => 0)))] H := hP
  have hD : va_D A [(g0, .inr (2, [.ref q7, .int 0, .int 0, .ref q15, .ref q23, .null, .null, .int 0, .int 0, .int 0, .int 0])), (q7, .inl (ci, 100, .inl (fun _ => 0))), (q15, .inl (cz, 41, .inl (fun _ => 0))), (q23, .inl (ci, 41, .inl (fun _ => 0)))] := hD
  refine lv_aload_n hx hb dX2_init_28 rfl (lv_at hl 0 rfl) ?_
  refine lv_bipush (v := (nI 41)) hx hb dX2_init_29 (by decide +kernel) ?_
  refine j_newa (atype := .int) hx hb (hts (.arrayClass .int) (by decide +kernel)) (ty := .int) rfl hK hP hD hS hA (j_qi hK) (N' := 41) (fun _ => rfl) (nI_pos (by decide +kernel)) (nI_clamp (by decide +kernel)) (by decide +kernel) (Nat.le_of_ble_eq_true rfl) (Nat.le_of_ble_eq_true rfl) dX2_init_31 (fun q31 H hP hD hS => ?_)
  have hP : va_P D vwCl [(g0, .inr (2, [.ref q7, .int 0, .int 0, .ref q15, .ref q23, .null, .null, .int 0, .int 0, .int 0, .int 0])), (q7, .inl (ci, 100, .inl (fun _ => 0))), (q15, .inl (cz, 41, .inl (fun _ => 0))), (q23, .inl (ci, 41, .inl (fun _ => 0))), (q31, .inl (ci, 41, .inl (fun _ => 0)))] H := hP
  have hD : va_D A [(g0, .inr (2, [.ref q7, .int 0, .int 0, .ref q15, .ref q23, .null, .null, .int 0, .int 0, .int 0, .int 0])), (q7, .inl (ci, 100, .inl (fun _ => 0))), (q15, .inl (cz, 41, .inl (fun _ => 0))), (q23, .inl (ci, 41, .inl (fun _ => 0))), (q31, .inl (ci, 41, .inl (fun _ => 0)))] := hD
  refine W.widen (k := 4) (n := 223) (Nat.le_of_ble_eq_true rfl) (Nat.le_of_ble_eq_true rfl) ?_
  refine va_putF (D := D) (ci := 2) (v := .ref q31) (ty := .array .int) (C := RX2) (T := TX2) (N := 11) hx hb hts (by decide +kernel) tyX2 tyX2_ok nmX2 hown hK hP hD hS 0 rfl rfl 5 (by decide) (hts (.fieldLink RX2 20 "JournalDeskModel" "numbers" "[I") (by decide +kernel)) (fun _ h9 => h9) rfl hin rfl (by decide +kernel) (rfl) (rfl) (Nat.le_of_ble_eq_true rfl) dX2_init_33 (fun H locs hP hD hS => ?_)
  have hP : va_P D vwCl [(g0, .inr (2, [.ref q7, .int 0, .int 0, .ref q15, .ref q23, .ref q31, .null, .int 0, .int 0, .int 0, .int 0])), (q7, .inl (ci, 100, .inl (fun _ => 0))), (q15, .inl (cz, 41, .inl (fun _ => 0))), (q23, .inl (ci, 41, .inl (fun _ => 0))), (q31, .inl (ci, 41, .inl (fun _ => 0)))] H := hP
  have hD : va_D A [(g0, .inr (2, [.ref q7, .int 0, .int 0, .ref q15, .ref q23, .ref q31, .null, .int 0, .int 0, .int 0, .int 0])), (q7, .inl (ci, 100, .inl (fun _ => 0))), (q15, .inl (cz, 41, .inl (fun _ => 0))), (q23, .inl (ci, 41, .inl (fun _ => 0))), (q31, .inl (ci, 41, .inl (fun _ => 0)))] := hD
  refine lv_aload_n hx hb dX2_init_36 rfl (lv_at hl 0 rfl) ?_
  refine lv_sipush (v := (nI 4100)) hx hb dX2_init_37 (by decide +kernel) ?_
  refine j_newa (atype := .int) hx hb (hts (.arrayClass .int) (by decide +kernel)) (ty := .int) rfl hK hP hD hS hA (j_qi hK) (N' := 4100) (fun _ => rfl) (nI_pos (by decide +kernel)) (nI_clamp (by decide +kernel)) (by decide +kernel) (Nat.le_of_ble_eq_true rfl) (Nat.le_of_ble_eq_true rfl) dX2_init_40 (fun q40 H hP hD hS => ?_)
  have hP : va_P D vwCl [(g0, .inr (2, [.ref q7, .int 0, .int 0, .ref q15, .ref q23, .ref q31, .null, .int 0, .int 0, .int 0, .int 0])), (q7, .inl (ci, 100, .inl (fun _ => 0))), (q15, .inl (cz, 41, .inl (fun _ => 0))), (q23, .inl (ci, 41, .inl (fun _ => 0))), (q31, .inl (ci, 41, .inl (fun _ => 0))), (q40, .inl (ci, 4100, .inl (fun _ => 0)))] H := hP
  have hD : va_D A [(g0, .inr (2, [.ref q7, .int 0, .int 0, .ref q15, .ref q23, .ref q31, .null, .int 0, .int 0, .int 0, .int 0])), (q7, .inl (ci, 100, .inl (fun _ => 0))), (q15, .inl (cz, 41, .inl (fun _ => 0))), (q23, .inl (ci, 41, .inl (fun _ => 0))), (q31, .inl (ci, 41, .inl (fun _ => 0))), (q40, .inl (ci, 4100, .inl (fun _ => 0)))] := hD
  refine W.widen (k := 5) (n := 4323) (Nat.le_of_ble_eq_true rfl) (Nat.le_of_ble_eq_true rfl) ?_
  refine va_putF (D := D) (ci := 2) (v := .ref q40) (ty := .array .int) (C := RX2) (T := TX2) (N := 11) hx hb hts (by decide +kernel) tyX2 tyX2_ok nmX2 hown hK hP hD hS 0 rfl rfl 6 (by decide) (hts (.fieldLink RX2 23 "JournalDeskModel" "bytes" "[I") (by decide +kernel)) (fun _ h9 => h9) rfl hin rfl (by decide +kernel) (rfl) (rfl) (Nat.le_of_ble_eq_true rfl) dX2_init_42 (fun H locs hP hD hS => ?_)
  have hP : va_P D vwCl [(g0, .inr (2, [.ref q7, .int 0, .int 0, .ref q15, .ref q23, .ref q31, .ref q40, .int 0, .int 0, .int 0, .int 0])), (q7, .inl (ci, 100, .inl (fun _ => 0))), (q15, .inl (cz, 41, .inl (fun _ => 0))), (q23, .inl (ci, 41, .inl (fun _ => 0))), (q31, .inl (ci, 41, .inl (fun _ => 0))), (q40, .inl (ci, 4100, .inl (fun _ => 0)))] H := hP
  have hD : va_D A [(g0, .inr (2, [.ref q7, .int 0, .int 0, .ref q15, .ref q23, .ref q31, .ref q40, .int 0, .int 0, .int 0, .int 0])), (q7, .inl (ci, 100, .inl (fun _ => 0))), (q15, .inl (cz, 41, .inl (fun _ => 0))), (q23, .inl (ci, 41, .inl (fun _ => 0))), (q31, .inl (ci, 41, .inl (fun _ => 0))), (q40, .inl (ci, 4100, .inl (fun _ => 0)))] := hD
  refine lv_aload_n hx hb dX2_init_45 rfl (lv_at hl 0 rfl) ?_
  refine lv_iconst (v := (-1)) hx hb dX2_init_46 (by decide +kernel) ?_
  refine va_put (D := D) (ci := 2) (v := .int (-1)) (ty := .int) (C := RX2) (T := TX2) (N := 11) hx hb hts (by decide +kernel) tyX2 tyX2_ok nmX2 hown hK hP hD hS 0 rfl rfl 10 (by decide) (hts (.fieldLink RX2 26 "JournalDeskModel" "cutting" "I") (by decide +kernel)) (fun _ h9 => h9) rfl (by decide +kernel) (rfl) (rfl) (Nat.le_of_ble_eq_true rfl) dX2_init_47 (fun H locs hP hD hS => ?_)
  have hP : va_P D vwCl [(g0, .inr (2, [.ref q7, .int 0, .int 0, .ref q15, .ref q23, .ref q31, .ref q40, .int 0, .int 0, .int 0, .int (-1)])), (q7, .inl (ci, 100, .inl (fun _ => 0))), (q15, .inl (cz, 41, .inl (fun _ => 0))), (q23, .inl (ci, 41, .inl (fun _ => 0))), (q31, .inl (ci, 41, .inl (fun _ => 0))), (q40, .inl (ci, 4100, .inl (fun _ => 0)))] H := hP
  have hD : va_D A [(g0, .inr (2, [.ref q7, .int 0, .int 0, .ref q15, .ref q23, .ref q31, .ref q40, .int 0, .int 0, .int 0, .int (-1)])), (q7, .inl (ci, 100, .inl (fun _ => 0))), (q15, .inl (cz, 41, .inl (fun _ => 0))), (q23, .inl (ci, 41, .inl (fun _ => 0))), (q31, .inl (ci, 41, .inl (fun _ => 0))), (q40, .inl (ci, 4100, .inl (fun _ => 0)))] := hD
  exact j_vret ((q7, q15, q23, q31, q40)) hx hb hr hlk hK hP hD hS (trivial) dX2_init_50
end
section
set_option maxHeartbeats 4000000 in
set_option maxRecDepth 100000 in
theorem w_D_put (l : Launch) (D : va_G) (cb ci cz : ClassId) (h0 qt qr qd ql qn : Nat) (M : jM) (a : jDt) (h : jDk M a) (v : Int64) (cv : Int32) (sz : Nat) : Met l yX1_put wsX1_put rm_D_put (va_Pc [.ref h0, .long v, .int cv] (j_pre D (jT cb ci cz) (jDw h0 qt qr qd ql qn cb ci a) sz)) (va_Qi (fun (x : Int32) (b : jDt) => x = (jop_pt M v cv).1 ∧ jDk (jop_pt M v cv).2 b) (j_post D (jT cb ci cz) (jDw h0 qt qr qd ql qn cb ci) (va_A (jDw h0 qt qr qd ql qn cb ci a) sz)) (va_A (jDw h0 qt qr qd ql qn cb ci a) sz)) 0 0 (va_A (jDw h0 qt qr qd ql qn cb ci a) sz) := by
  obtain ⟨⟨n, t⟩, ⟨k, r, z, u, y⟩, ⟨nx, wh, pw, ct⟩⟩ := M
  obtain ⟨tp, dk, L, N, td, old, us, pr, nx1, wh1, pw1, ct1⟩ := a
  obtain ⟨h1, h2, h3, h4, h5, h6, h7, h8⟩ := h
  subst h1; subst h5; subst h6; subst h7; subst h8
  exact c_D_put l D cb ci cz h0 qt tp qr qd ql qn dk L N old us pr _ t k r z u y _ _ pw ct v cv h2 h3 h4 sz
set_option maxHeartbeats 4000000 in
set_option maxRecDepth 100000 in
theorem w_M_put (l : Launch) (D : va_G) (cb ci cz : ClassId) (g0 mt mb mz mn my : Nat) (M : jM) (a : jMt) (h : jMk M a) (v : Int64) (cv : Int32) (sz : Nat) : Met l yX2_put wsX2_put rm_M_put (va_Pc [.ref g0, .long v, .int cv] (j_pre D (jT cb ci cz) (jMw g0 mt mb mz mn my ci cz a) sz)) (va_Qi (fun (x : Int32) (b : jMt) => x = (jop_pt M v cv).1 ∧ jMk (jop_pt M v cv).2 b) (j_post D (jT cb ci cz) (jMw g0 mt mb mz mn my ci cz) (va_A (jMw g0 mt mb mz mn my ci cz a) sz)) (va_A (jMw g0 mt mb mz mn my ci cz a) sz)) 0 0 (va_A (jMw g0 mt mb mz mn my ci cz a) sz) := by
  obtain ⟨⟨n, t⟩, ⟨k, r, z, u, y⟩, ⟨nx, wh, pw, ct⟩⟩ := M
  obtain ⟨tp, fB, fZ, fN, fY, td, kp, nx1, wh1, off, cu⟩ := a
  obtain ⟨h1, h2, h3, h4, h5, h6, h7, h8, h9, h10, h11⟩ := h
  subst h1; subst h4; subst h8; subst h9; subst h10
  exact c_M_put l D cb ci cz g0 mt mb mz mn my tp fB fZ fN fY _ t _ r z u y _ _ pw ct cu v cv h2 h3 h5 h6 h7 h11 sz
set_option maxHeartbeats 4000000 in
set_option maxRecDepth 100000 in
theorem w_D_write (l : Launch) (D : va_G) (cb ci cz : ClassId) (h0 qt qr qd ql qn : Nat) (M : jM) (a : jDt) (h : jDk M a) (sz : Nat) : Met l yX1_write wsX1_write rm_D_write (va_Pc [.ref h0] (j_pre D (jT cb ci cz) (jDw h0 qt qr qd ql qn cb ci a) sz)) (va_Qi (fun (x : Int32) (b : jDt) => x = (jop_wr M).1 ∧ jDk (jop_wr M).2 b) (j_post D (jT cb ci cz) (jDw h0 qt qr qd ql qn cb ci) (va_A (jDw h0 qt qr qd ql qn cb ci a) sz)) (va_A (jDw h0 qt qr qd ql qn cb ci a) sz)) 0 0 (va_A (jDw h0 qt qr qd ql qn cb ci a) sz) := by
  obtain ⟨⟨n, t⟩, ⟨k, r, z, u, y⟩, ⟨nx, wh, pw, ct⟩⟩ := M
  obtain ⟨tp, dk, L, N, td, old, us, pr, nx1, wh1, pw1, ct1⟩ := a
  obtain ⟨h1, h2, h3, h4, h5, h6, h7, h8⟩ := h
  subst h1; subst h5; subst h6; subst h7; subst h8
  exact c_D_write l D cb ci cz h0 qt tp qr qd ql qn dk L N old us pr _ t k r z u y _ _ pw ct  h2 h3 h4 sz
set_option maxHeartbeats 4000000 in
set_option maxRecDepth 100000 in
theorem w_M_write (l : Launch) (D : va_G) (cb ci cz : ClassId) (g0 mt mb mz mn my : Nat) (M : jM) (a : jMt) (h : jMk M a) (sz : Nat) : Met l yX2_write wsX2_write rm_M_write (va_Pc [.ref g0] (j_pre D (jT cb ci cz) (jMw g0 mt mb mz mn my ci cz a) sz)) (va_Qi (fun (x : Int32) (b : jMt) => x = (jop_wr M).1 ∧ jMk (jop_wr M).2 b) (j_post D (jT cb ci cz) (jMw g0 mt mb mz mn my ci cz) (va_A (jMw g0 mt mb mz mn my ci cz a) sz)) (va_A (jMw g0 mt mb mz mn my ci cz a) sz)) 0 0 (va_A (jMw g0 mt mb mz mn my ci cz a) sz) := by
  obtain ⟨⟨n, t⟩, ⟨k, r, z, u, y⟩, ⟨nx, wh, pw, ct⟩⟩ := M
  obtain ⟨tp, fB, fZ, fN, fY, td, kp, nx1, wh1, off, cu⟩ := a
  obtain ⟨h1, h2, h3, h4, h5, h6, h7, h8, h9, h10, h11⟩ := h
  subst h1; subst h4; subst h8; subst h9; subst h10
  exact c_M_write l D cb ci cz g0 mt mb mz mn my tp fB fZ fN fY _ t _ r z u y _ _ pw ct cu  h2 h3 h5 h6 h7 h11 sz
set_option maxHeartbeats 4000000 in
set_option maxRecDepth 100000 in
theorem w_D_drop (l : Launch) (D : va_G) (cb ci cz : ClassId) (h0 qt qr qd ql qn : Nat) (M : jM) (a : jDt) (h : jDk M a) (mv : Int32) (sz : Nat) : Met l yX1_drop wsX1_drop rm_D_drop (va_Pc [.ref h0, .int mv] (j_pre D (jT cb ci cz) (jDw h0 qt qr qd ql qn cb ci a) sz)) (va_Qi (fun (x : Int32) (b : jDt) => x = (jop_dr M mv).1 ∧ jDk (jop_dr M mv).2 b) (j_post D (jT cb ci cz) (jDw h0 qt qr qd ql qn cb ci) (va_A (jDw h0 qt qr qd ql qn cb ci a) sz)) (va_A (jDw h0 qt qr qd ql qn cb ci a) sz)) 0 0 (va_A (jDw h0 qt qr qd ql qn cb ci a) sz) := by
  obtain ⟨⟨n, t⟩, ⟨k, r, z, u, y⟩, ⟨nx, wh, pw, ct⟩⟩ := M
  obtain ⟨tp, dk, L, N, td, old, us, pr, nx1, wh1, pw1, ct1⟩ := a
  obtain ⟨h1, h2, h3, h4, h5, h6, h7, h8⟩ := h
  subst h1; subst h5; subst h6; subst h7; subst h8
  exact c_D_drop l D cb ci cz h0 qt tp qr qd ql qn dk L N old us pr _ t k r z u y _ _ pw ct mv h2 h3 h4 sz
set_option maxHeartbeats 4000000 in
set_option maxRecDepth 100000 in
theorem w_M_drop (l : Launch) (D : va_G) (cb ci cz : ClassId) (g0 mt mb mz mn my : Nat) (M : jM) (a : jMt) (h : jMk M a) (mv : Int32) (sz : Nat) : Met l yX2_drop wsX2_drop2 rm_M_drop (va_Pc [.ref g0, .int mv] (j_pre D (jT cb ci cz) (jMw g0 mt mb mz mn my ci cz a) sz)) (va_Qi (fun (x : Int32) (b : jMt) => x = (jop_dr M mv).1 ∧ jMk (jop_dr M mv).2 b) (j_post D (jT cb ci cz) (jMw g0 mt mb mz mn my ci cz) (va_A (jMw g0 mt mb mz mn my ci cz a) sz)) (va_A (jMw g0 mt mb mz mn my ci cz a) sz)) 0 0 (va_A (jMw g0 mt mb mz mn my ci cz a) sz) := by
  obtain ⟨⟨n, t⟩, ⟨k, r, z, u, y⟩, ⟨nx, wh, pw, ct⟩⟩ := M
  obtain ⟨tp, fB, fZ, fN, fY, td, kp, nx1, wh1, off, cu⟩ := a
  obtain ⟨h1, h2, h3, h4, h5, h6, h7, h8, h9, h10, h11⟩ := h
  subst h1; subst h4; subst h8; subst h9; subst h10
  exact c_M_drop l D cb ci cz g0 mt mb mz mn my tp fB fZ fN fY _ t _ r z u y _ _ pw ct cu mv h2 h3 h5 h6 h7 h11 sz
set_option maxHeartbeats 4000000 in
set_option maxRecDepth 100000 in
theorem w_D_cut (l : Launch) (D : va_G) (cb ci cz : ClassId) (h0 qt qr qd ql qn : Nat) (M : jM) (a : jDt) (h : jDk M a) (sv : Int32) (sz : Nat) : Met l yX1_cut wsX1_cut rm_D_cut (va_Pc [.ref h0, .int sv] (j_pre D (jT cb ci cz) (jDw h0 qt qr qd ql qn cb ci a) sz)) (va_Qi (fun (x : Int32) (b : jDt) => x = (jop_cu M sv).1 ∧ jDk (jop_cu M sv).2 b) (j_post D (jT cb ci cz) (jDw h0 qt qr qd ql qn cb ci) (va_A (jDw h0 qt qr qd ql qn cb ci a) sz)) (va_A (jDw h0 qt qr qd ql qn cb ci a) sz)) 0 0 (va_A (jDw h0 qt qr qd ql qn cb ci a) sz) := by
  obtain ⟨⟨n, t⟩, ⟨k, r, z, u, y⟩, ⟨nx, wh, pw, ct⟩⟩ := M
  obtain ⟨tp, dk, L, N, td, old, us, pr, nx1, wh1, pw1, ct1⟩ := a
  obtain ⟨h1, h2, h3, h4, h5, h6, h7, h8⟩ := h
  subst h1; subst h5; subst h6; subst h7; subst h8
  exact c_D_cut l D cb ci cz h0 qt tp qr qd ql qn dk L N old us pr _ t k r z u y _ _ pw ct sv h2 h3 h4 sz
set_option maxHeartbeats 4000000 in
set_option maxRecDepth 100000 in
theorem w_M_cut (l : Launch) (D : va_G) (cb ci cz : ClassId) (g0 mt mb mz mn my : Nat) (M : jM) (a : jMt) (h : jMk M a) (sv : Int32) (sz : Nat) : Met l yX2_cut wsX2_cut rm_M_cut (va_Pc [.ref g0, .int sv] (j_pre D (jT cb ci cz) (jMw g0 mt mb mz mn my ci cz a) sz)) (va_Qi (fun (x : Int32) (b : jMt) => x = (jop_cu M sv).1 ∧ jMk (jop_cu M sv).2 b) (j_post D (jT cb ci cz) (jMw g0 mt mb mz mn my ci cz) (va_A (jMw g0 mt mb mz mn my ci cz a) sz)) (va_A (jMw g0 mt mb mz mn my ci cz a) sz)) 0 0 (va_A (jMw g0 mt mb mz mn my ci cz a) sz) := by
  obtain ⟨⟨n, t⟩, ⟨k, r, z, u, y⟩, ⟨nx, wh, pw, ct⟩⟩ := M
  obtain ⟨tp, fB, fZ, fN, fY, td, kp, nx1, wh1, off, cu⟩ := a
  obtain ⟨h1, h2, h3, h4, h5, h6, h7, h8, h9, h10, h11⟩ := h
  subst h1; subst h4; subst h8; subst h9; subst h10
  exact c_M_cut l D cb ci cz g0 mt mb mz mn my tp fB fZ fN fY _ t _ r z u y _ _ pw ct cu sv h2 h3 h5 h6 h7 h11 sz
set_option maxHeartbeats 4000000 in
set_option maxRecDepth 100000 in
theorem w_D_start (l : Launch) (D : va_G) (cb ci cz : ClassId) (h0 qt qr qd ql qn : Nat) (M : jM) (a : jDt) (h : jDk M a) (sz : Nat) : Met l yX1_start wsX1_start rm_D_start (va_Pc [.ref h0] (j_pre D (jT cb ci cz) (jDw h0 qt qr qd ql qn cb ci a) sz)) (va_Qi (fun (x : Int32) (b : jDt) => x = (jop_st M).1 ∧ jDk (jop_st M).2 b) (j_post D (jT cb ci cz) (jDw h0 qt qr qd ql qn cb ci) (va_A (jDw h0 qt qr qd ql qn cb ci a) sz)) (va_A (jDw h0 qt qr qd ql qn cb ci a) sz)) 0 0 (va_A (jDw h0 qt qr qd ql qn cb ci a) sz) := by
  obtain ⟨⟨n, t⟩, ⟨k, r, z, u, y⟩, ⟨nx, wh, pw, ct⟩⟩ := M
  obtain ⟨tp, dk, L, N, td, old, us, pr, nx1, wh1, pw1, ct1⟩ := a
  obtain ⟨h1, h2, h3, h4, h5, h6, h7, h8⟩ := h
  subst h1; subst h5; subst h6; subst h7; subst h8
  exact c_D_start l D cb ci cz h0 qt tp qr qd ql qn dk L N old us pr _ t k r z u y _ _ pw ct  h2 h3 h4 sz
set_option maxHeartbeats 4000000 in
set_option maxRecDepth 100000 in
theorem w_M_start (l : Launch) (D : va_G) (cb ci cz : ClassId) (g0 mt mb mz mn my : Nat) (M : jM) (a : jMt) (h : jMk M a) (sz : Nat) : Met l yX2_start wsX2_start rm_M_start (va_Pc [.ref g0] (j_pre D (jT cb ci cz) (jMw g0 mt mb mz mn my ci cz a) sz)) (va_Qi (fun (x : Int32) (b : jMt) => x = (jop_st M).1 ∧ jMk (jop_st M).2 b) (j_post D (jT cb ci cz) (jMw g0 mt mb mz mn my ci cz) (va_A (jMw g0 mt mb mz mn my ci cz a) sz)) (va_A (jMw g0 mt mb mz mn my ci cz a) sz)) 0 0 (va_A (jMw g0 mt mb mz mn my ci cz a) sz) := by
  obtain ⟨⟨n, t⟩, ⟨k, r, z, u, y⟩, ⟨nx, wh, pw, ct⟩⟩ := M
  obtain ⟨tp, fB, fZ, fN, fY, td, kp, nx1, wh1, off, cu⟩ := a
  obtain ⟨h1, h2, h3, h4, h5, h6, h7, h8, h9, h10, h11⟩ := h
  subst h1; subst h4; subst h8; subst h9; subst h10
  exact c_M_start l D cb ci cz g0 mt mb mz mn my tp fB fZ fN fY _ t _ r z u y _ _ pw ct cu  h2 h3 h5 h6 h7 h11 sz
set_option maxHeartbeats 4000000 in
set_option maxRecDepth 100000 in
theorem w_D_record (l : Launch) (D : va_G) (cb ci cz : ClassId) (h0 qt qr qd ql qn : Nat) (M : jM) (a : jDt) (h : jDk M a) (i wv : Int32) (sz : Nat) : Met l yX1_record wsX1_record rm_D_record (va_Pc [.ref h0, .int i, .int wv] (j_pre D (jT cb ci cz) (jDw h0 qt qr qd ql qn cb ci a) sz)) (va_Qi (fun (x : Int32) (_ : Unit) => jop_rc M i wv x) (j_post D (jT cb ci cz) (fun _ => (jDw h0 qt qr qd ql qn cb ci a)) (va_A (jDw h0 qt qr qd ql qn cb ci a) sz)) (va_A (jDw h0 qt qr qd ql qn cb ci a) sz)) 0 0 (va_A (jDw h0 qt qr qd ql qn cb ci a) sz) := by
  obtain ⟨⟨n, t⟩, ⟨k, r, z, u, y⟩, ⟨nx, wh, pw, ct⟩⟩ := M
  obtain ⟨tp, dk, L, N, td, old, us, pr, nx1, wh1, pw1, ct1⟩ := a
  obtain ⟨h1, h2, h3, h4, h5, h6, h7, h8⟩ := h
  subst h1; subst h5; subst h6; subst h7; subst h8
  exact c_D_record l D cb ci cz h0 qt tp qr qd ql qn dk L N old us pr _ t k r z u y _ _ pw ct i wv h2 h3 h4 sz
set_option maxHeartbeats 4000000 in
set_option maxRecDepth 100000 in
theorem w_M_record (l : Launch) (D : va_G) (cb ci cz : ClassId) (g0 mt mb mz mn my : Nat) (M : jM) (a : jMt) (h : jMk M a) (i wv : Int32) (sz : Nat) : Met l yX2_record wsX2_record rm_M_record (va_Pc [.ref g0, .int i, .int wv] (j_pre D (jT cb ci cz) (jMw g0 mt mb mz mn my ci cz a) sz)) (va_Qi (fun (x : Int32) (_ : Unit) => jop_rc M i wv x) (j_post D (jT cb ci cz) (fun _ => (jMw g0 mt mb mz mn my ci cz a)) (va_A (jMw g0 mt mb mz mn my ci cz a) sz)) (va_A (jMw g0 mt mb mz mn my ci cz a) sz)) 0 0 (va_A (jMw g0 mt mb mz mn my ci cz a) sz) := by
  obtain ⟨⟨n, t⟩, ⟨k, r, z, u, y⟩, ⟨nx, wh, pw, ct⟩⟩ := M
  obtain ⟨tp, fB, fZ, fN, fY, td, kp, nx1, wh1, off, cu⟩ := a
  obtain ⟨h1, h2, h3, h4, h5, h6, h7, h8, h9, h10, h11⟩ := h
  subst h1; subst h4; subst h8; subst h9; subst h10
  exact c_M_record l D cb ci cz g0 mt mb mz mn my tp fB fZ fN fY _ t _ r z u y _ _ pw ct cu i wv h2 h3 h5 h6 h7 h11 sz
set_option maxHeartbeats 4000000 in
set_option maxRecDepth 100000 in
theorem w_D_bytes (l : Launch) (D : va_G) (cb ci cz : ClassId) (h0 qt qr qd ql qn : Nat) (M : jM) (a : jDt) (h : jDk M a) (i kv : Int32) (sz : Nat) : Met l yX1_bytes wsX1_bytes rm_D_bytes (va_Pc [.ref h0, .int i, .int kv] (j_pre D (jT cb ci cz) (jDw h0 qt qr qd ql qn cb ci a) sz)) (va_Ql (fun (x : Int64) (_ : Unit) => jop_by M i kv x) (j_post D (jT cb ci cz) (fun _ => (jDw h0 qt qr qd ql qn cb ci a)) (va_A (jDw h0 qt qr qd ql qn cb ci a) sz)) (va_A (jDw h0 qt qr qd ql qn cb ci a) sz)) 0 0 (va_A (jDw h0 qt qr qd ql qn cb ci a) sz) := by
  obtain ⟨⟨n, t⟩, ⟨k, r, z, u, y⟩, ⟨nx, wh, pw, ct⟩⟩ := M
  obtain ⟨tp, dk, L, N, td, old, us, pr, nx1, wh1, pw1, ct1⟩ := a
  obtain ⟨h1, h2, h3, h4, h5, h6, h7, h8⟩ := h
  subst h1; subst h5; subst h6; subst h7; subst h8
  exact c_D_bytes l D cb ci cz h0 qt tp qr qd ql qn dk L N old us pr _ t k r z u y _ _ pw ct i kv h2 h3 h4 sz
set_option maxHeartbeats 4000000 in
set_option maxRecDepth 100000 in
theorem w_M_bytes (l : Launch) (D : va_G) (cb ci cz : ClassId) (g0 mt mb mz mn my : Nat) (M : jM) (a : jMt) (h : jMk M a) (i kv : Int32) (sz : Nat) : Met l yX2_bytes wsX2_bytes rm_M_bytes (va_Pc [.ref g0, .int i, .int kv] (j_pre D (jT cb ci cz) (jMw g0 mt mb mz mn my ci cz a) sz)) (va_Ql (fun (x : Int64) (_ : Unit) => jop_by M i kv x) (j_post D (jT cb ci cz) (fun _ => (jMw g0 mt mb mz mn my ci cz a)) (va_A (jMw g0 mt mb mz mn my ci cz a) sz)) (va_A (jMw g0 mt mb mz mn my ci cz a) sz)) 0 0 (va_A (jMw g0 mt mb mz mn my ci cz a) sz) := by
  obtain ⟨⟨n, t⟩, ⟨k, r, z, u, y⟩, ⟨nx, wh, pw, ct⟩⟩ := M
  obtain ⟨tp, fB, fZ, fN, fY, td, kp, nx1, wh1, off, cu⟩ := a
  obtain ⟨h1, h2, h3, h4, h5, h6, h7, h8, h9, h10, h11⟩ := h
  subst h1; subst h4; subst h8; subst h9; subst h10
  exact c_M_bytes l D cb ci cz g0 mt mb mz mn my tp fB fZ fN fY _ t _ r z u y _ _ pw ct cu i kv h2 h3 h5 h6 h7 h11 sz
set_option maxHeartbeats 4000000 in
set_option maxRecDepth 100000 in
theorem w_D_count (l : Launch) (D : va_G) (cb ci cz : ClassId) (h0 qt qr qd ql qn : Nat) (M : jM) (a : jDt) (h : jDk M a) (wv : Int32) (sz : Nat) : Met l yX1_count wsX1_count rm_D_count (va_Pc [.ref h0, .int wv] (j_pre D (jT cb ci cz) (jDw h0 qt qr qd ql qn cb ci a) sz)) (va_Qi (fun (x : Int32) (_ : Unit) => x = jop_ct M wv) (j_post D (jT cb ci cz) (fun _ => (jDw h0 qt qr qd ql qn cb ci a)) (va_A (jDw h0 qt qr qd ql qn cb ci a) sz)) (va_A (jDw h0 qt qr qd ql qn cb ci a) sz)) 0 0 (va_A (jDw h0 qt qr qd ql qn cb ci a) sz) := by
  obtain ⟨⟨n, t⟩, ⟨k, r, z, u, y⟩, ⟨nx, wh, pw, ct⟩⟩ := M
  obtain ⟨tp, dk, L, N, td, old, us, pr, nx1, wh1, pw1, ct1⟩ := a
  obtain ⟨h1, h2, h3, h4, h5, h6, h7, h8⟩ := h
  subst h1; subst h5; subst h6; subst h7; subst h8
  exact c_D_count l D cb ci cz h0 qt tp qr qd ql qn dk L N old us pr _ t k r z u y _ _ pw ct wv h2 h3 h4 sz
set_option maxHeartbeats 4000000 in
set_option maxRecDepth 100000 in
theorem w_M_count (l : Launch) (D : va_G) (cb ci cz : ClassId) (g0 mt mb mz mn my : Nat) (M : jM) (a : jMt) (h : jMk M a) (wv : Int32) (sz : Nat) : Met l yX2_count wsX2_count rm_M_count (va_Pc [.ref g0, .int wv] (j_pre D (jT cb ci cz) (jMw g0 mt mb mz mn my ci cz a) sz)) (va_Qi (fun (x : Int32) (_ : Unit) => x = jop_ct M wv) (j_post D (jT cb ci cz) (fun _ => (jMw g0 mt mb mz mn my ci cz a)) (va_A (jMw g0 mt mb mz mn my ci cz a) sz)) (va_A (jMw g0 mt mb mz mn my ci cz a) sz)) 0 0 (va_A (jMw g0 mt mb mz mn my ci cz a) sz) := by
  obtain ⟨⟨n, t⟩, ⟨k, r, z, u, y⟩, ⟨nx, wh, pw, ct⟩⟩ := M
  obtain ⟨tp, fB, fZ, fN, fY, td, kp, nx1, wh1, off, cu⟩ := a
  obtain ⟨h1, h2, h3, h4, h5, h6, h7, h8, h9, h10, h11⟩ := h
  subst h1; subst h4; subst h8; subst h9; subst h10
  exact c_M_count l D cb ci cz g0 mt mb mz mn my tp fB fZ fN fY _ t _ r z u y _ _ pw ct cu wv h2 h3 h5 h6 h7 h11 sz
theorem jop_rc_u {M : jM} {a : jDt} {i w x y : Int32} (h : jDk M a) (h1 : jop_rc M i w x) (h2 : jop_rc M i w y) : x = y := by
  obtain ⟨⟨n, t⟩, ⟨k, r, z, u, v⟩, ⟨nx, wh, pw, ct⟩⟩ := M
  obtain ⟨tp, dk, L, N, td, old, us, pr, nx1, wh1, pw1, ct1⟩ := a
  have hR := h.2.2.2.1
  exact jop_rc_uni (Nat.le_trans (jR_k hR) hR.2.2.1) h1 h2
theorem jop_by_u {M : jM} {a : jDt} {i w : Int32} {x y : Int64} (h : jDk M a) (h1 : jop_by M i w x) (h2 : jop_by M i w y) : x = y := by
  obtain ⟨⟨n, t⟩, ⟨k, r, z, u, v⟩, ⟨nx, wh, pw, ct⟩⟩ := M
  obtain ⟨tp, dk, L, N, td, old, us, pr, nx1, wh1, pw1, ct1⟩ := a
  have hR := h.2.2.2.1
  exact jop_by_uni (Nat.le_trans (jR_k hR) hR.2.2.1) h1 h2
def jM0 : jM := ((0, fun _ => 0), (0, fun _ => false, fun _ => 0, fun _ => 0, fun _ _ => 0), (0, 0, true, false))
theorem jM0_D : jDk jM0 ((fun _ => 0), (fun _ => 0), (fun _ => 0), (fun _ => 0), 0, 0, 0, 0, 0, 0, 1, 0) := jDk_i rfl (Nat.zero_le _) (fun _ h => absurd h (Nat.not_lt_zero _)) ⟨by decide, rfl, by decide, rfl, fun _ h => absurd h (Nat.not_lt_zero _), fun _ h => absurd h (Nat.not_lt_zero _), fun _ h => absurd h (Nat.not_lt_zero _), fun _ _ h => absurd h (Nat.not_lt_zero _)⟩ rfl rfl rfl rfl
theorem jM0_M : jMk jM0 ((fun _ => 0), (fun _ => 0), (fun _ => 0), (fun _ => 0), (fun _ => 0), 0, 0, 0, 0, 0, -1) := jMk_i rfl (Nat.zero_le _) (fun _ h => absurd h (Nat.not_lt_zero _)) rfl (Nat.zero_le _) (fun _ h => absurd h (Nat.not_lt_zero _)) jE_0 rfl rfl rfl ⟨fun _ => rfl, fun _ => rfl⟩
end
section
theorem j_lc {x y : Int64} (h : x = y) : lg_cmp x y = 0 := by
  subst h
  simp [lg_cmp]
/-! THE CLAIM OUT OF ONE WALK OF THE LAW'S BODY. Your part is whole_start (and what it stands on); all else here is the same for every law, but numbers. -/
def R_law : String := "JournalDeskLaw"
def lw_P (b : Addr) (xs : List Int32) (args : Array Value) (s : State) : Prop := args = #[.ref b] ∧ s.IntsAt b xs ∧ xs.length ≤ 2048 ∧ (Jvm.Cond.and given_1 narrow_1).before args s = true
def lw_Q (_ : Array Value) (s : State) (o : Outcome) (t : State) : Prop := o = .returned (some (.int 1)) ∧ Framed s o t [] 12 5007
def lw_Z (below : List Frame) (a : Array Value) (s : State) : State → Prop := fun t => ∃ o, t.status = .running ∧ Ended t below o ∧ lw_Q a s o t
/-- the law's own end, with 1 on the stack, nothing written that was there before, its room as the claim has it -/
theorem lw_ret {p : Program} {l : Launch} {e : Env} {s : State} {m : MethodId} {below : List Frame} {meth : Method} {c : Code} {b : Nat} (hx : p.tables.exec = Jvm.exec) (hb : c.code = code) (hr : meth.sig.returnType = ret) (hlocks : meth.locks = false) {pc : Nat} {H : Heap} {ls : Array Slot} (hdg : decode code pc = .ok (.ireturn, 1)) : W p l e room_1 s m #[Value.ref b] below meth c H [] 12 5007 (lw_Z below #[Value.ref b] s) (F0 m pc ls [.int 1]) := by
  intro T hT X
  obtain ⟨fs, hret, hrun, hended, hW, hframe⟩ := X.leave (v := some (.int 1)) (hlocks := hlocks) (fun h => by rw [hr] at h; cases h)
  have hmeth' : T.vm.method? m = some meth := X.method'
  refine ⟨T.setFrames fs, ?_, .returned (some (.int 1)), hrun, hended, rfl, ⟨_, rfl⟩, hW, hframe⟩
  jvm_step X.here [X.here.top, hx, hb, hdg, hmeth', hr, ret, narrow_b1]
  (try refine ⟨rfl, ?_⟩); (try refine ⟨rfl, ?_⟩)
  first | (intro acts; rw [hret _ acts rfl rfl rfl]) | rw [hret _ _ rfl rfl rfl]
  exact Steps.refl _
/-- what holds at the law's entry: the machine, the code, the tables' words (any of lw_tbl by 'hts w (by decide +kernel)'), the script of L ints xs at the cell b, what the Statement gives of the start (any of its parts by flat_of_before) -/
def lw_At (p : Program) (s : State) (m : MethodId) (meth : Method) (c : Code) (b L : Nat) (xs : Nat → Int32) : Prop :=
  p.tables.exec = Jvm.exec ∧ c.code = code ∧ meth.sig.returnType = ret ∧ c.maxLocals = 4 ∧ s.vm.findClass R_law = some m.cls ∧ (∀ w ∈ lw_tbl, w.before #[Value.ref b] s = true) ∧ va_X b L xs s s.heap ∧ b < s.heap.size ∧ meth.locks = false ∧ (Jvm.Cond.and given_1 narrow_1).before #[Value.ref b] s = true
set_option maxHeartbeats 4000000 in
set_option maxRecDepth 100000 in
/-- THE LAW, from its entry -/
theorem whole_start {p : Program} {e : Env} {s : State} {m : MethodId} {below : List Frame} {meth : Method} {c : Code} (l : Launch) {b L : Nat} {xs : Nat → Int32} (hL : L ≤ 2048) (C0 : lw_At p s m meth c b L xs) : W p l e room_1 s m #[Value.ref b] below meth c s.heap [] 0 0 (lw_Z below #[Value.ref b] s) (entryFrame m ([Value.ref b] : List Value).toArray 4) := by
  obtain ⟨hx, hb, hr, hml, hown0, hts, hX, hbl, hlocks, hgv⟩ := C0
  have htsL : ∀ w ∈ wsL_law, w.before #[Value.ref b] s = true := fun w h => hts w (wsL_law_in w h)
  have hown : s.vm.findClass RL = some m.cls := hown0
  obtain ⟨A, hAe⟩ : ∃ A : Nat → Prop, A = fun q : Nat => s.heap.size ≤ q := ⟨_, rfl⟩
  have hA : ∀ q : Nat, s.heap.size ≤ q → A q := fun q h => by rw [hAe]; exact h
  have hAs : ∀ q : Nat, A q → s.heap.size ≤ q := fun q h => by rw [hAe] at h; exact h
  have hbA : ¬ A b := fun h => absurd (hAs b h) (Nat.not_le.mpr hbl)
  obtain ⟨c0, iS0, hKn0⟩ := u_known (C := RX0) (T := TX0) (N := 6) (n := 6) hts inX0 (hts (.instantiable RX0 6) (by decide +kernel))
  obtain ⟨c1, iS1, hKn1⟩ := u_known (C := RX1) (T := TX1) (N := 7) (n := 7) hts inX1 (hts (.instantiable RX1 7) (by decide +kernel))
  obtain ⟨c2, iS2, hKn2⟩ := u_known (C := RX2) (T := TX2) (N := 11) (n := 11) hts inX2 (hts (.instantiable RX2 11) (by decide +kernel))
  obtain ⟨D, hKc⟩ : ∃ D : va_G, ∀ (k : Nat) (q : vw_C), vwCl[k]? = some q → u_Kn s q.1 q.2.1 q.2.2 (D.1 k) (D.2 k) := by
    refine ⟨(fun k => if k = 0 then c0 else if k = 1 then c1 else c2, fun k => if k = 0 then iS0 else if k = 1 then iS1 else iS2), ?_⟩
    intro k q hq
    match k, hq with
    | 0, hq => cases hq; exact hKn0
    | 1, hq => cases hq; exact hKn1
    | 2, hq => cases hq; exact hKn2
    | k + 3, hq => simp [vwCl] at hq
  obtain ⟨cb, hb1, hb2⟩ := j_arr (hts (.arrayClass .byte) (by decide +kernel))
  obtain ⟨ci, hi1, hi2⟩ := j_arr (hts (.arrayClass .int) (by decide +kernel))
  obtain ⟨cz, hz1, hz2⟩ := j_arr (hts (.arrayClass .boolean) (by decide +kernel))
  have hK : va_K D vwCl (jT cb ci cz) s := ⟨hKc, fun k q h => by
    match k, h with
    | 0, h => cases h; exact ⟨hb1, hb2⟩
    | 1, h => cases h; exact ⟨hi1, hi2⟩
    | 2, h => cases h; exact ⟨hz1, hz2⟩
    | k + 3, h => simp [jT] at h⟩
  have hS : va_S A s.heap s.heap [] := va_S.rf
  have hP : va_P D vwCl [] s.heap := fun k q h => by simp at h
  have hD : va_D A [] := ⟨fun i j p q h => by simp at h, fun k q h => by simp at h⟩
  have hl := lv_entry ([.ref b]) (n := 4) (Nat.le_of_ble_eq_true rfl)
  rw [lg_entry_eq]
  generalize (lg_sl ([.ref b]) ++ List.replicate (4 - (lg_sl ([.ref b])).length) Slot.unset).toArray = ls at hl ⊢
  have hl : lv_has ls 4 [(0, .ref b)] := hl
  refine va_new (ci := 1) (fs := [.null, .int 0, .null, .int 0, .int 0, .int 0, .int 0]) (C := RX1) (T := TX1) (N := 7) hx hb hts inX1 tyX1 tyX1_ok hown (hts (.classLink RL 7 RX1) (by decide +kernel)) (hts (.instantiable RX1 7) (by decide +kernel)) (hts (.initialized RX1) (by decide +kernel)) hK hP hD hS hA rfl (by decide +kernel) (Nat.le_of_ble_eq_true rfl) (Nat.le_of_ble_eq_true rfl) dL_law_0 (fun h0 H hP hD hS => ?_)
  have hP : va_P D vwCl [(h0, .inr (1, [.null, .int 0, .null, .int 0, .int 0, .int 0, .int 0]))] H := hP
  have hD : va_D A [(h0, .inr (1, [.null, .int 0, .null, .int 0, .int 0, .int 0, .int 0]))] := hD
  refine W.widen (k := 1) (n := 7) (Nat.le_of_ble_eq_true rfl) (Nat.le_of_ble_eq_true rfl) ?_
  refine lv_dup hx hb dL_law_3 rfl ?_
  refine j_callv (wr := []) hP hD hS hA [0] [] rfl rfl (by decide) (by decide) (va_runI (As := []) (rest := [.ref h0]) ⟨hx, hb, hml, hown, htsL⟩ (c_D_init l D cb ci cz h0 H.size) (cwI 0 htsL gL_law_X1_init rfl rfl rfl (hts (.initialized RX1) (by decide +kernel)) (hts (.methodLink RL 9 yX1_init) (by decide +kernel)) (hts (.instanceMethod yX1_init) (by decide +kernel)) rfl (by decide +kernel) ⟨Nat.le_of_ble_eq_true rfl, Nat.le_of_ble_eq_true rfl⟩) (j_preS [0] [0, 1, 2] hK hP hD rfl rfl rfl rfl) rfl rfl hl.1 rfl (lv_room (Nat.le_of_ble_eq_true rfl)) dL_law_4 ⟨Nat.le_of_ble_eq_true rfl, Nat.le_of_ble_eq_true rfl⟩) (fun u9 H locs hw hP hD hS => ?_)
  obtain ⟨qt, qr, qd, ql, qn⟩ := u9
  have hP : va_P D vwCl (jDw h0 qt qr qd ql qn cb ci ((fun _ => 0), (fun _ => 0), (fun _ => 0), (fun _ => 0), 0, 0, 0, 0, 0, 0, 1, 0)) H := hP
  have hD : va_D A (jDw h0 qt qr qd ql qn cb ci ((fun _ => 0), (fun _ => 0), (fun _ => 0), (fun _ => 0), 0, 0, 0, 0, 0, 0, 1, 0)) := hD
  refine W.widen (k := 6) (n := 673) (Nat.le_of_ble_eq_true rfl) (Nat.le_of_ble_eq_true rfl) ?_
  refine lv_astore_n (lv' := [(1, .ref h0), (0, .ref b)]) hx hb dL_law_7 rfl hl (by decide) rfl (fun ls hl => ?_)
  refine va_new (ci := 2) (fs := [.null, .int 0, .int 0, .null, .null, .null, .null, .int 0, .int 0, .int 0, .int 0]) (C := RX2) (T := TX2) (N := 11) hx hb hts inX2 tyX2 tyX2_ok hown (hts (.classLink RL 10 RX2) (by decide +kernel)) (hts (.instantiable RX2 11) (by decide +kernel)) (hts (.initialized RX2) (by decide +kernel)) hK hP hD hS hA rfl (by decide +kernel) (Nat.le_of_ble_eq_true rfl) (Nat.le_of_ble_eq_true rfl) dL_law_8 (fun g0 H hP hD hS => ?_)
  have hP : va_P D vwCl ((jDw h0 qt qr qd ql qn cb ci ((fun _ => 0), (fun _ => 0), (fun _ => 0), (fun _ => 0), 0, 0, 0, 0, 0, 0, 1, 0)) ++ [(g0, .inr (2, [.null, .int 0, .int 0, .null, .null, .null, .null, .int 0, .int 0, .int 0, .int 0]))]) H := hP
  have hD : va_D A ((jDw h0 qt qr qd ql qn cb ci ((fun _ => 0), (fun _ => 0), (fun _ => 0), (fun _ => 0), 0, 0, 0, 0, 0, 0, 1, 0)) ++ [(g0, .inr (2, [.null, .int 0, .int 0, .null, .null, .null, .null, .int 0, .int 0, .int 0, .int 0]))]) := hD
  refine W.widen (k := 7) (n := 684) (Nat.le_of_ble_eq_true rfl) (Nat.le_of_ble_eq_true rfl) ?_
  refine lv_dup hx hb dL_law_11 rfl ?_
  refine j_callv (wr := (jDw h0 qt qr qd ql qn cb ci ((fun _ => 0), (fun _ => 0), (fun _ => 0), (fun _ => 0), 0, 0, 0, 0, 0, 0, 1, 0))) hP hD hS hA [6] [0, 1, 2, 3, 4, 5] rfl rfl (by decide) (by decide) (va_runI (As := []) (rest := [.ref g0]) ⟨hx, hb, hml, hown, htsL⟩ (c_M_init l D cb ci cz g0 H.size) (cwI 0 htsL gL_law_X2_init rfl rfl rfl (hts (.initialized RX2) (by decide +kernel)) (hts (.methodLink RL 12 yX2_init) (by decide +kernel)) (hts (.instanceMethod yX2_init) (by decide +kernel)) rfl (by decide +kernel) ⟨Nat.le_of_ble_eq_true rfl, Nat.le_of_ble_eq_true rfl⟩) (j_preS [6] [0, 1, 2] hK hP hD rfl rfl rfl rfl) rfl rfl hl.1 rfl (lv_room (Nat.le_of_ble_eq_true rfl)) dL_law_12 ⟨Nat.le_of_ble_eq_true rfl, Nat.le_of_ble_eq_true rfl⟩) (fun u9 H locs hw hP hD hS => ?_)
  obtain ⟨mt, mb, mz, mn, my⟩ := u9
  have hP : va_P D vwCl ((jDw h0 qt qr qd ql qn cb ci ((fun _ => 0), (fun _ => 0), (fun _ => 0), (fun _ => 0), 0, 0, 0, 0, 0, 0, 1, 0)) ++ (jMw g0 mt mb mz mn my ci cz ((fun _ => 0), (fun _ => 0), (fun _ => 0), (fun _ => 0), (fun _ => 0), 0, 0, 0, 0, 0, -1))) H := hP
  have hD : va_D A ((jDw h0 qt qr qd ql qn cb ci ((fun _ => 0), (fun _ => 0), (fun _ => 0), (fun _ => 0), 0, 0, 0, 0, 0, 0, 1, 0)) ++ (jMw g0 mt mb mz mn my ci cz ((fun _ => 0), (fun _ => 0), (fun _ => 0), (fun _ => 0), (fun _ => 0), 0, 0, 0, 0, 0, -1))) := hD
  refine W.widen (k := 12) (n := 5007) (Nat.le_of_ble_eq_true rfl) (Nat.le_of_ble_eq_true rfl) ?_
  refine lv_astore_n (lv' := [(2, .ref g0), (1, .ref h0), (0, .ref b)]) hx hb dL_law_15 rfl hl (by decide) rfl (fun ls hl => ?_)
  refine lv_iconst (v := nI 0) hx hb dL_law_16 (by decide +kernel) ?_
  refine lv_istore_n (lv' := [(3, .int (nI 0)), (2, .ref g0), (1, .ref h0), (0, .ref b)]) hx hb dL_law_17 rfl hl (by decide) rfl (fun ls hl => ?_)
  have LOOP : ∀ (fuel i : Nat) (M : jM) (a : jDt) (a1 : jMt) (hf : L < i + fuel) (hi : i ≤ L) (hDk : jDk M a) (hMk : jMk M a1) (H : Heap) (locs : List Loc), va_P D vwCl ((jDw h0 qt qr qd ql qn cb ci a) ++ (jMw g0 mt mb mz mn my ci cz a1)) H → va_D A ((jDw h0 qt qr qd ql qn cb ci a) ++ (jMw g0 mt mb mz mn my ci cz a1)) → va_S A s.heap H locs → ∀ ls : Array Slot, lv_has ls 4 [(0, .ref b), (1, .ref h0), (2, .ref g0), (3, .int (nI i))] → W p l e room_1 s m #[Value.ref b] below meth c H locs 12 5007 (lw_Z below #[Value.ref b] s) (F0 m 18 ls []) := by
    clear hP hD hS hl
    intro fuel
    induction fuel with
    | zero => intro i M a a1 hf hi; exfalso; omega
    | succ fuel ih =>
      intro i M a a1 hf hi hDk hMk H locs hP hD hS ls hl
      refine lv_iload_n hx hb dL_law_18 rfl (lv_at hl 3 rfl) ?_
      refine lv_aload_n hx hb dL_law_19 rfl (lv_at hl 0 rfl) ?_
      refine va_slen hx hb hX hbl hbA hS dL_law_20 ?_
      refine jt_i (y := nI L) (rfl) ?_
      refine lv_iconst (v := (nI 4)) hx hb dL_law_21 (by decide +kernel) ?_
      refine lv_isub hx hb dL_law_22 ?_
      refine jt_i (y := ((nI L) - (nI 4))) (rfl) ?_
      refine lv_icmp_gt (tgt := 311) hx hb dL_law_23 (by decide) (fun c_23 => ?_) (fun c_23 => ?_)
      · refine lv_iconst (v := 1) hx hb dL_law_311 (by decide) ?_
        refine va_forget (fun q hq => hAs _ (hS.2.2 q hq)) ?_
        exact lw_ret hx hb hr hlocks dL_law_312
      · have hi4 : i + 4 ≤ L := (j_l4 (by omega) (by omega)).mp (Int32.not_lt.mp c_23)
        refine lv_aload_n hx hb dL_law_26 rfl (lv_at hl 0 rfl) ?_
        refine lv_iload_n hx hb dL_law_27 rfl (lv_at hl 3 rfl) ?_
        refine va_sld hx hb hX hbl hbA hS (vp_in_nI (show i < L by omega) (by omega)) dL_law_28 ?_
        refine jt_i (y := (xs i)) (by rw [nI_clamp (by omega)]) ?_
        refine lv_bipush (v := (nI 7)) hx hb dL_law_29 (by decide +kernel) ?_
        refine lv_iand hx hb dL_law_31 ?_
        obtain ⟨sw, hsw, esw⟩ := pk_andE (xs i) (m := nI 7) 3 (by decide +kernel)
        refine jt_i (y := nI sw) esw ?_
        rcases (show sw = 0 ∨ sw = 1 ∨ sw = 2 ∨ sw = 3 ∨ sw = 4 ∨ sw = 5 ∨ sw = 6 ∨ sw = 7 by omega) with h8 | h8 | h8 | h8 | h8 | h8 | h8 | h8
        · refine lv_tableIn (tgt := 80) hx hb dL_law_32 (by rw [h8]; decide +kernel) (by rw [h8]; decide +kernel) (off := 48) (by rw [h8]; decide +kernel) (by decide) ?_
          refine lv_aload_n hx hb dL_law_80 rfl (lv_at hl 1 rfl) ?_
          refine lv_aload_n hx hb dL_law_81 rfl (lv_at hl 0 rfl) ?_
          refine lv_iload_n hx hb dL_law_82 rfl (lv_at hl 3 rfl) ?_
          refine lv_iconst (v := (nI 1)) hx hb dL_law_83 (by decide +kernel) ?_
          refine lv_iadd hx hb dL_law_84 ?_
          refine jt_i (y := (nI (i + 1))) (nI_add _ _) ?_
          refine va_sld hx hb hX hbl hbA hS (vp_in_nI (show i + 1 < L by omega) (by omega)) dL_law_85 ?_
          refine jt_i (y := (xs (i + 1))) (by rw [nI_clamp (by omega)]) ?_
          refine lv_i2l hx hb dL_law_86 rfl ?_
          refine lv_bipush (v := (nI 32)) hx hb dL_law_87 (by decide +kernel) ?_
          refine lv_lshl hx hb dL_law_89 rfl ?_
          refine lv_aload_n hx hb dL_law_90 rfl (lv_at hl 0 rfl) ?_
          refine lv_iload_n hx hb dL_law_91 rfl (lv_at hl 3 rfl) ?_
          refine lv_iconst (v := (nI 2)) hx hb dL_law_92 (by decide +kernel) ?_
          refine lv_iadd hx hb dL_law_93 ?_
          refine jt_i (y := (nI (i + 2))) (nI_add _ _) ?_
          refine va_sld hx hb hX hbl hbA hS (vp_in_nI (show i + 2 < L by omega) (by omega)) dL_law_94 ?_
          refine jt_i (y := (xs (i + 2))) (by rw [nI_clamp (by omega)]) ?_
          refine lv_i2l hx hb dL_law_95 rfl ?_
          refine lv_ldc2 (v := (4294967295)) hx hb hown (hts (.constantLong RL 13 (4294967295)) (by decide +kernel)) dL_law_96 ?_
          refine lv_land hx hb dL_law_99 ?_
          refine lv_lor hx hb dL_law_100 ?_
          refine lv_aload_n hx hb dL_law_101 rfl (lv_at hl 0 rfl) ?_
          refine lv_iload_n hx hb dL_law_102 rfl (lv_at hl 3 rfl) ?_
          refine lv_iconst (v := (nI 3)) hx hb dL_law_103 (by decide +kernel) ?_
          refine lv_iadd hx hb dL_law_104 ?_
          refine jt_i (y := (nI (i + 3))) (nI_add _ _) ?_
          refine va_sld hx hb hX hbl hbA hS (vp_in_nI (show i + 3 < L by omega) (by omega)) dL_law_105 ?_
          refine jt_i (y := (xs (i + 3))) (by rw [nI_clamp (by omega)]) ?_
          refine j_calli (wr := (jMw g0 mt mb mz mn my ci cz a1)) hP hD hS hA [0, 1, 2, 3, 4, 5] [6, 7, 8, 9, 10, 11] rfl rfl (by decide) (by decide) (va_runV (As := [.long ((((xs (i + 1)).toInt64) <<< ((nI 32).toInt64 &&& 63)) ||| (((xs (i + 2)).toInt64) &&& (4294967295))), .int (xs (i + 3))]) (rest := []) ⟨hx, hb, hml, hown, htsL⟩ (w_D_put l D cb ci cz h0 qt qr qd ql qn M a hDk ((((xs (i + 1)).toInt64) <<< ((nI 32).toInt64 &&& 63)) ||| (((xs (i + 2)).toInt64) &&& (4294967295))) (xs (i + 3)) H.size) (cwV 2 htsL gL_law_X1_put rfl rfl rfl (by decide +kernel) ⟨Nat.le_of_ble_eq_true rfl, Nat.le_of_ble_eq_true rfl⟩) (j_preV (ci := 1) (q0 := 0) [0, 1, 2, 3, 4, 5] [0, 1, 2] hK hP hD rfl rfl rfl rfl rfl rfl) rfl rfl hl.1 rfl (lv_room (Nat.le_of_ble_eq_true rfl)) dL_law_106 ⟨Nat.le_of_ble_eq_true rfl, Nat.le_of_ble_eq_true rfl⟩) (fun r106 a2 H locs hw1 hP hD hS => ?_)
          have hP : va_P D vwCl ((jMw g0 mt mb mz mn my ci cz a1) ++ (jDw h0 qt qr qd ql qn cb ci a2)) H := hP
          have hD : va_D A ((jMw g0 mt mb mz mn my ci cz a1) ++ (jDw h0 qt qr qd ql qn cb ci a2)) := hD
          refine lv_aload_n hx hb dL_law_109 rfl (lv_at hl 2 rfl) ?_
          refine lv_aload_n hx hb dL_law_110 rfl (lv_at hl 0 rfl) ?_
          refine lv_iload_n hx hb dL_law_111 rfl (lv_at hl 3 rfl) ?_
          refine lv_iconst (v := (nI 1)) hx hb dL_law_112 (by decide +kernel) ?_
          refine lv_iadd hx hb dL_law_113 ?_
          refine jt_i (y := (nI (i + 1))) (nI_add _ _) ?_
          refine va_sld hx hb hX hbl hbA hS (vp_in_nI (show i + 1 < L by omega) (by omega)) dL_law_114 ?_
          refine jt_i (y := (xs (i + 1))) (by rw [nI_clamp (by omega)]) ?_
          refine lv_i2l hx hb dL_law_115 rfl ?_
          refine lv_bipush (v := (nI 32)) hx hb dL_law_116 (by decide +kernel) ?_
          refine lv_lshl hx hb dL_law_118 rfl ?_
          refine lv_aload_n hx hb dL_law_119 rfl (lv_at hl 0 rfl) ?_
          refine lv_iload_n hx hb dL_law_120 rfl (lv_at hl 3 rfl) ?_
          refine lv_iconst (v := (nI 2)) hx hb dL_law_121 (by decide +kernel) ?_
          refine lv_iadd hx hb dL_law_122 ?_
          refine jt_i (y := (nI (i + 2))) (nI_add _ _) ?_
          refine va_sld hx hb hX hbl hbA hS (vp_in_nI (show i + 2 < L by omega) (by omega)) dL_law_123 ?_
          refine jt_i (y := (xs (i + 2))) (by rw [nI_clamp (by omega)]) ?_
          refine lv_i2l hx hb dL_law_124 rfl ?_
          refine lv_ldc2 (v := (4294967295)) hx hb hown (hts (.constantLong RL 13 (4294967295)) (by decide +kernel)) dL_law_125 ?_
          refine lv_land hx hb dL_law_128 ?_
          refine lv_lor hx hb dL_law_129 ?_
          refine lv_aload_n hx hb dL_law_130 rfl (lv_at hl 0 rfl) ?_
          refine lv_iload_n hx hb dL_law_131 rfl (lv_at hl 3 rfl) ?_
          refine lv_iconst (v := (nI 3)) hx hb dL_law_132 (by decide +kernel) ?_
          refine lv_iadd hx hb dL_law_133 ?_
          refine jt_i (y := (nI (i + 3))) (nI_add _ _) ?_
          refine va_sld hx hb hX hbl hbA hS (vp_in_nI (show i + 3 < L by omega) (by omega)) dL_law_134 ?_
          refine jt_i (y := (xs (i + 3))) (by rw [nI_clamp (by omega)]) ?_
          refine j_calli (wr := (jDw h0 qt qr qd ql qn cb ci a2)) hP hD hS hA [0, 1, 2, 3, 4, 5] [6, 7, 8, 9, 10, 11] rfl rfl (by decide) (by decide) (va_runV (As := [.long ((((xs (i + 1)).toInt64) <<< ((nI 32).toInt64 &&& 63)) ||| (((xs (i + 2)).toInt64) &&& (4294967295))), .int (xs (i + 3))]) (rest := [.int r106]) ⟨hx, hb, hml, hown, htsL⟩ (w_M_put l D cb ci cz g0 mt mb mz mn my M a1 hMk ((((xs (i + 1)).toInt64) <<< ((nI 32).toInt64 &&& 63)) ||| (((xs (i + 2)).toInt64) &&& (4294967295))) (xs (i + 3)) H.size) (cwV 2 htsL gL_law_X2_put rfl rfl rfl (by decide +kernel) ⟨Nat.le_of_ble_eq_true rfl, Nat.le_of_ble_eq_true rfl⟩) (j_preV (ci := 2) (q0 := 0) [0, 1, 2, 3, 4, 5] [0, 1, 2] hK hP hD rfl rfl rfl rfl rfl rfl) rfl rfl hl.1 rfl (lv_room (Nat.le_of_ble_eq_true rfl)) dL_law_135 ⟨Nat.le_of_ble_eq_true rfl, Nat.le_of_ble_eq_true rfl⟩) (fun r135 a3 H locs hw2 hP hD hS => ?_)
          have hP : va_P D vwCl ((jDw h0 qt qr qd ql qn cb ci a2) ++ (jMw g0 mt mb mz mn my ci cz a3)) H := hP
          have hD : va_D A ((jDw h0 qt qr qd ql qn cb ci a2) ++ (jMw g0 mt mb mz mn my ci cz a3)) := hD
          refine lv_icmp_eq (tgt := 305) hx hb dL_law_138 (by decide) (fun c_9 => ?_) (fun c_9 => ?_)
          · refine lv_iinc (v := (nI (i + 4))) (lv' := [(3, .int (nI (i + 4))), (0, .ref b), (1, .ref h0), (2, .ref g0)]) hx hb dL_law_305 hl (k := 3) rfl (nI_add i 4) (by decide) rfl (fun ls hl => ?_)
            refine lv_goto (tgt := 18) hx hb dL_law_308 (by decide) ?_
            exact ih (i + 4) (jop_pt M ((((xs (i + 1)).toInt64) <<< ((nI 32).toInt64 &&& 63)) ||| (((xs (i + 2)).toInt64) &&& (4294967295))) (xs (i + 3))).2 a2 a3 (by omega) (by omega) hw1.2 hw2.2 _ _ hP hD hS ls (lv_sub hl [1, 2, 3, 0] rfl)
          · exact absurd (hw1.1.trans hw2.1.symm) c_9
        · refine lv_tableIn (tgt := 143) hx hb dL_law_32 (by rw [h8]; decide +kernel) (by rw [h8]; decide +kernel) (off := 111) (by rw [h8]; decide +kernel) (by decide) ?_
          refine lv_aload_n hx hb dL_law_143 rfl (lv_at hl 1 rfl) ?_
          refine j_calli (wr := (jMw g0 mt mb mz mn my ci cz a1)) hP hD hS hA [0, 1, 2, 3, 4, 5] [6, 7, 8, 9, 10, 11] rfl rfl (by decide) (by decide) (va_runV (As := []) (rest := []) ⟨hx, hb, hml, hown, htsL⟩ (w_D_write l D cb ci cz h0 qt qr qd ql qn M a hDk  H.size) (cwV 0 htsL gL_law_X1_write rfl rfl rfl (by decide +kernel) ⟨Nat.le_of_ble_eq_true rfl, Nat.le_of_ble_eq_true rfl⟩) (j_preV (ci := 1) (q0 := 0) [0, 1, 2, 3, 4, 5] [0, 1, 2] hK hP hD rfl rfl rfl rfl rfl rfl) rfl rfl hl.1 rfl (lv_room (Nat.le_of_ble_eq_true rfl)) dL_law_144 ⟨Nat.le_of_ble_eq_true rfl, Nat.le_of_ble_eq_true rfl⟩) (fun r144 a2 H locs hw1 hP hD hS => ?_)
          have hP : va_P D vwCl ((jMw g0 mt mb mz mn my ci cz a1) ++ (jDw h0 qt qr qd ql qn cb ci a2)) H := hP
          have hD : va_D A ((jMw g0 mt mb mz mn my ci cz a1) ++ (jDw h0 qt qr qd ql qn cb ci a2)) := hD
          refine lv_aload_n hx hb dL_law_147 rfl (lv_at hl 2 rfl) ?_
          refine j_calli (wr := (jDw h0 qt qr qd ql qn cb ci a2)) hP hD hS hA [0, 1, 2, 3, 4, 5] [6, 7, 8, 9, 10, 11] rfl rfl (by decide) (by decide) (va_runV (As := []) (rest := [.int r144]) ⟨hx, hb, hml, hown, htsL⟩ (w_M_write l D cb ci cz g0 mt mb mz mn my M a1 hMk  H.size) (cwV 0 htsL gL_law_X2_write rfl rfl rfl (by decide +kernel) ⟨Nat.le_of_ble_eq_true rfl, Nat.le_of_ble_eq_true rfl⟩) (j_preV (ci := 2) (q0 := 0) [0, 1, 2, 3, 4, 5] [0, 1, 2] hK hP hD rfl rfl rfl rfl rfl rfl) rfl rfl hl.1 rfl (lv_room (Nat.le_of_ble_eq_true rfl)) dL_law_148 ⟨Nat.le_of_ble_eq_true rfl, Nat.le_of_ble_eq_true rfl⟩) (fun r148 a3 H locs hw2 hP hD hS => ?_)
          have hP : va_P D vwCl ((jDw h0 qt qr qd ql qn cb ci a2) ++ (jMw g0 mt mb mz mn my ci cz a3)) H := hP
          have hD : va_D A ((jDw h0 qt qr qd ql qn cb ci a2) ++ (jMw g0 mt mb mz mn my ci cz a3)) := hD
          refine lv_icmp_eq (tgt := 305) hx hb dL_law_151 (by decide) (fun c_9 => ?_) (fun c_9 => ?_)
          · refine lv_iinc (v := (nI (i + 4))) (lv' := [(3, .int (nI (i + 4))), (0, .ref b), (1, .ref h0), (2, .ref g0)]) hx hb dL_law_305 hl (k := 3) rfl (nI_add i 4) (by decide) rfl (fun ls hl => ?_)
            refine lv_goto (tgt := 18) hx hb dL_law_308 (by decide) ?_
            exact ih (i + 4) (jop_wr M).2 a2 a3 (by omega) (by omega) hw1.2 hw2.2 _ _ hP hD hS ls (lv_sub hl [1, 2, 3, 0] rfl)
          · exact absurd (hw1.1.trans hw2.1.symm) c_9
        · refine lv_tableIn (tgt := 156) hx hb dL_law_32 (by rw [h8]; decide +kernel) (by rw [h8]; decide +kernel) (off := 124) (by rw [h8]; decide +kernel) (by decide) ?_
          refine lv_aload_n hx hb dL_law_156 rfl (lv_at hl 1 rfl) ?_
          refine lv_aload_n hx hb dL_law_157 rfl (lv_at hl 0 rfl) ?_
          refine lv_iload_n hx hb dL_law_158 rfl (lv_at hl 3 rfl) ?_
          refine lv_iconst (v := (nI 1)) hx hb dL_law_159 (by decide +kernel) ?_
          refine lv_iadd hx hb dL_law_160 ?_
          refine jt_i (y := (nI (i + 1))) (nI_add _ _) ?_
          refine va_sld hx hb hX hbl hbA hS (vp_in_nI (show i + 1 < L by omega) (by omega)) dL_law_161 ?_
          refine jt_i (y := (xs (i + 1))) (by rw [nI_clamp (by omega)]) ?_
          refine j_calli (wr := (jMw g0 mt mb mz mn my ci cz a1)) hP hD hS hA [0, 1, 2, 3, 4, 5] [6, 7, 8, 9, 10, 11] rfl rfl (by decide) (by decide) (va_runV (As := [.int (xs (i + 1))]) (rest := []) ⟨hx, hb, hml, hown, htsL⟩ (w_D_drop l D cb ci cz h0 qt qr qd ql qn M a hDk (xs (i + 1)) H.size) (cwV 1 htsL gL_law_X1_drop rfl rfl rfl (by decide +kernel) ⟨Nat.le_of_ble_eq_true rfl, Nat.le_of_ble_eq_true rfl⟩) (j_preV (ci := 1) (q0 := 0) [0, 1, 2, 3, 4, 5] [0, 1, 2] hK hP hD rfl rfl rfl rfl rfl rfl) rfl rfl hl.1 rfl (lv_room (Nat.le_of_ble_eq_true rfl)) dL_law_162 ⟨Nat.le_of_ble_eq_true rfl, Nat.le_of_ble_eq_true rfl⟩) (fun r162 a2 H locs hw1 hP hD hS => ?_)
          have hP : va_P D vwCl ((jMw g0 mt mb mz mn my ci cz a1) ++ (jDw h0 qt qr qd ql qn cb ci a2)) H := hP
          have hD : va_D A ((jMw g0 mt mb mz mn my ci cz a1) ++ (jDw h0 qt qr qd ql qn cb ci a2)) := hD
          refine lv_aload_n hx hb dL_law_165 rfl (lv_at hl 2 rfl) ?_
          refine lv_aload_n hx hb dL_law_166 rfl (lv_at hl 0 rfl) ?_
          refine lv_iload_n hx hb dL_law_167 rfl (lv_at hl 3 rfl) ?_
          refine lv_iconst (v := (nI 1)) hx hb dL_law_168 (by decide +kernel) ?_
          refine lv_iadd hx hb dL_law_169 ?_
          refine jt_i (y := (nI (i + 1))) (nI_add _ _) ?_
          refine va_sld hx hb hX hbl hbA hS (vp_in_nI (show i + 1 < L by omega) (by omega)) dL_law_170 ?_
          refine jt_i (y := (xs (i + 1))) (by rw [nI_clamp (by omega)]) ?_
          refine j_calli (wr := (jDw h0 qt qr qd ql qn cb ci a2)) hP hD hS hA [0, 1, 2, 3, 4, 5] [6, 7, 8, 9, 10, 11] rfl rfl (by decide) (by decide) (va_runV (As := [.int (xs (i + 1))]) (rest := [.int r162]) ⟨hx, hb, hml, hown, hts⟩ (w_M_drop l D cb ci cz g0 mt mb mz mn my M a1 hMk (xs (i + 1)) H.size) (cwV 1 hts hqL_X2_drop rfl rfl rfl (by decide +kernel) ⟨Nat.le_of_ble_eq_true rfl, Nat.le_of_ble_eq_true rfl⟩) (j_preV (ci := 2) (q0 := 0) [0, 1, 2, 3, 4, 5] [0, 1, 2] hK hP hD rfl rfl rfl rfl rfl rfl) rfl rfl hl.1 rfl (lv_room (Nat.le_of_ble_eq_true rfl)) dL_law_171 ⟨Nat.le_of_ble_eq_true rfl, Nat.le_of_ble_eq_true rfl⟩) (fun r171 a3 H locs hw2 hP hD hS => ?_)
          have hP : va_P D vwCl ((jDw h0 qt qr qd ql qn cb ci a2) ++ (jMw g0 mt mb mz mn my ci cz a3)) H := hP
          have hD : va_D A ((jDw h0 qt qr qd ql qn cb ci a2) ++ (jMw g0 mt mb mz mn my ci cz a3)) := hD
          refine lv_icmp_eq (tgt := 305) hx hb dL_law_174 (by decide) (fun c_9 => ?_) (fun c_9 => ?_)
          · refine lv_iinc (v := (nI (i + 4))) (lv' := [(3, .int (nI (i + 4))), (0, .ref b), (1, .ref h0), (2, .ref g0)]) hx hb dL_law_305 hl (k := 3) rfl (nI_add i 4) (by decide) rfl (fun ls hl => ?_)
            refine lv_goto (tgt := 18) hx hb dL_law_308 (by decide) ?_
            exact ih (i + 4) (jop_dr M (xs (i + 1))).2 a2 a3 (by omega) (by omega) hw1.2 hw2.2 _ _ hP hD hS ls (lv_sub hl [1, 2, 3, 0] rfl)
          · exact absurd (hw1.1.trans hw2.1.symm) c_9
        · refine lv_tableIn (tgt := 179) hx hb dL_law_32 (by rw [h8]; decide +kernel) (by rw [h8]; decide +kernel) (off := 147) (by rw [h8]; decide +kernel) (by decide) ?_
          refine lv_aload_n hx hb dL_law_179 rfl (lv_at hl 1 rfl) ?_
          refine lv_aload_n hx hb dL_law_180 rfl (lv_at hl 0 rfl) ?_
          refine lv_iload_n hx hb dL_law_181 rfl (lv_at hl 3 rfl) ?_
          refine lv_iconst (v := (nI 1)) hx hb dL_law_182 (by decide +kernel) ?_
          refine lv_iadd hx hb dL_law_183 ?_
          refine jt_i (y := (nI (i + 1))) (nI_add _ _) ?_
          refine va_sld hx hb hX hbl hbA hS (vp_in_nI (show i + 1 < L by omega) (by omega)) dL_law_184 ?_
          refine jt_i (y := (xs (i + 1))) (by rw [nI_clamp (by omega)]) ?_
          refine j_calli (wr := (jMw g0 mt mb mz mn my ci cz a1)) hP hD hS hA [0, 1, 2, 3, 4, 5] [6, 7, 8, 9, 10, 11] rfl rfl (by decide) (by decide) (va_runV (As := [.int (xs (i + 1))]) (rest := []) ⟨hx, hb, hml, hown, htsL⟩ (w_D_cut l D cb ci cz h0 qt qr qd ql qn M a hDk (xs (i + 1)) H.size) (cwV 1 htsL gL_law_X1_cut rfl rfl rfl (by decide +kernel) ⟨Nat.le_of_ble_eq_true rfl, Nat.le_of_ble_eq_true rfl⟩) (j_preV (ci := 1) (q0 := 0) [0, 1, 2, 3, 4, 5] [0, 1, 2] hK hP hD rfl rfl rfl rfl rfl rfl) rfl rfl hl.1 rfl (lv_room (Nat.le_of_ble_eq_true rfl)) dL_law_185 ⟨Nat.le_of_ble_eq_true rfl, Nat.le_of_ble_eq_true rfl⟩) (fun r185 a2 H locs hw1 hP hD hS => ?_)
          have hP : va_P D vwCl ((jMw g0 mt mb mz mn my ci cz a1) ++ (jDw h0 qt qr qd ql qn cb ci a2)) H := hP
          have hD : va_D A ((jMw g0 mt mb mz mn my ci cz a1) ++ (jDw h0 qt qr qd ql qn cb ci a2)) := hD
          refine lv_aload_n hx hb dL_law_188 rfl (lv_at hl 2 rfl) ?_
          refine lv_aload_n hx hb dL_law_189 rfl (lv_at hl 0 rfl) ?_
          refine lv_iload_n hx hb dL_law_190 rfl (lv_at hl 3 rfl) ?_
          refine lv_iconst (v := (nI 1)) hx hb dL_law_191 (by decide +kernel) ?_
          refine lv_iadd hx hb dL_law_192 ?_
          refine jt_i (y := (nI (i + 1))) (nI_add _ _) ?_
          refine va_sld hx hb hX hbl hbA hS (vp_in_nI (show i + 1 < L by omega) (by omega)) dL_law_193 ?_
          refine jt_i (y := (xs (i + 1))) (by rw [nI_clamp (by omega)]) ?_
          refine j_calli (wr := (jDw h0 qt qr qd ql qn cb ci a2)) hP hD hS hA [0, 1, 2, 3, 4, 5] [6, 7, 8, 9, 10, 11] rfl rfl (by decide) (by decide) (va_runV (As := [.int (xs (i + 1))]) (rest := [.int r185]) ⟨hx, hb, hml, hown, hts⟩ (w_M_cut l D cb ci cz g0 mt mb mz mn my M a1 hMk (xs (i + 1)) H.size) (cwV 1 hts hqL_X2_cut rfl rfl rfl (by decide +kernel) ⟨Nat.le_of_ble_eq_true rfl, Nat.le_of_ble_eq_true rfl⟩) (j_preV (ci := 2) (q0 := 0) [0, 1, 2, 3, 4, 5] [0, 1, 2] hK hP hD rfl rfl rfl rfl rfl rfl) rfl rfl hl.1 rfl (lv_room (Nat.le_of_ble_eq_true rfl)) dL_law_194 ⟨Nat.le_of_ble_eq_true rfl, Nat.le_of_ble_eq_true rfl⟩) (fun r194 a3 H locs hw2 hP hD hS => ?_)
          have hP : va_P D vwCl ((jDw h0 qt qr qd ql qn cb ci a2) ++ (jMw g0 mt mb mz mn my ci cz a3)) H := hP
          have hD : va_D A ((jDw h0 qt qr qd ql qn cb ci a2) ++ (jMw g0 mt mb mz mn my ci cz a3)) := hD
          refine lv_icmp_eq (tgt := 305) hx hb dL_law_197 (by decide) (fun c_9 => ?_) (fun c_9 => ?_)
          · refine lv_iinc (v := (nI (i + 4))) (lv' := [(3, .int (nI (i + 4))), (0, .ref b), (1, .ref h0), (2, .ref g0)]) hx hb dL_law_305 hl (k := 3) rfl (nI_add i 4) (by decide) rfl (fun ls hl => ?_)
            refine lv_goto (tgt := 18) hx hb dL_law_308 (by decide) ?_
            exact ih (i + 4) (jop_cu M (xs (i + 1))).2 a2 a3 (by omega) (by omega) hw1.2 hw2.2 _ _ hP hD hS ls (lv_sub hl [1, 2, 3, 0] rfl)
          · exact absurd (hw1.1.trans hw2.1.symm) c_9
        · refine lv_tableIn (tgt := 202) hx hb dL_law_32 (by rw [h8]; decide +kernel) (by rw [h8]; decide +kernel) (off := 170) (by rw [h8]; decide +kernel) (by decide) ?_
          refine lv_aload_n hx hb dL_law_202 rfl (lv_at hl 1 rfl) ?_
          refine j_calli (wr := (jMw g0 mt mb mz mn my ci cz a1)) hP hD hS hA [0, 1, 2, 3, 4, 5] [6, 7, 8, 9, 10, 11] rfl rfl (by decide) (by decide) (va_runV (As := []) (rest := []) ⟨hx, hb, hml, hown, htsL⟩ (w_D_start l D cb ci cz h0 qt qr qd ql qn M a hDk  H.size) (cwV 0 htsL gL_law_X1_start rfl rfl rfl (by decide +kernel) ⟨Nat.le_of_ble_eq_true rfl, Nat.le_of_ble_eq_true rfl⟩) (j_preV (ci := 1) (q0 := 0) [0, 1, 2, 3, 4, 5] [0, 1, 2] hK hP hD rfl rfl rfl rfl rfl rfl) rfl rfl hl.1 rfl (lv_room (Nat.le_of_ble_eq_true rfl)) dL_law_203 ⟨Nat.le_of_ble_eq_true rfl, Nat.le_of_ble_eq_true rfl⟩) (fun r203 a2 H locs hw1 hP hD hS => ?_)
          have hP : va_P D vwCl ((jMw g0 mt mb mz mn my ci cz a1) ++ (jDw h0 qt qr qd ql qn cb ci a2)) H := hP
          have hD : va_D A ((jMw g0 mt mb mz mn my ci cz a1) ++ (jDw h0 qt qr qd ql qn cb ci a2)) := hD
          refine lv_aload_n hx hb dL_law_206 rfl (lv_at hl 2 rfl) ?_
          refine j_calli (wr := (jDw h0 qt qr qd ql qn cb ci a2)) hP hD hS hA [0, 1, 2, 3, 4, 5] [6, 7, 8, 9, 10, 11] rfl rfl (by decide) (by decide) (va_runV (As := []) (rest := [.int r203]) ⟨hx, hb, hml, hown, hts⟩ (w_M_start l D cb ci cz g0 mt mb mz mn my M a1 hMk  H.size) (cwV 0 hts hqL_X2_start rfl rfl rfl (by decide +kernel) ⟨Nat.le_of_ble_eq_true rfl, Nat.le_of_ble_eq_true rfl⟩) (j_preV (ci := 2) (q0 := 0) [0, 1, 2, 3, 4, 5] [0, 1, 2] hK hP hD rfl rfl rfl rfl rfl rfl) rfl rfl hl.1 rfl (lv_room (Nat.le_of_ble_eq_true rfl)) dL_law_207 ⟨Nat.le_of_ble_eq_true rfl, Nat.le_of_ble_eq_true rfl⟩) (fun r207 a3 H locs hw2 hP hD hS => ?_)
          have hP : va_P D vwCl ((jDw h0 qt qr qd ql qn cb ci a2) ++ (jMw g0 mt mb mz mn my ci cz a3)) H := hP
          have hD : va_D A ((jDw h0 qt qr qd ql qn cb ci a2) ++ (jMw g0 mt mb mz mn my ci cz a3)) := hD
          refine lv_icmp_eq (tgt := 305) hx hb dL_law_210 (by decide) (fun c_9 => ?_) (fun c_9 => ?_)
          · refine lv_iinc (v := (nI (i + 4))) (lv' := [(3, .int (nI (i + 4))), (0, .ref b), (1, .ref h0), (2, .ref g0)]) hx hb dL_law_305 hl (k := 3) rfl (nI_add i 4) (by decide) rfl (fun ls hl => ?_)
            refine lv_goto (tgt := 18) hx hb dL_law_308 (by decide) ?_
            exact ih (i + 4) (jop_st M).2 a2 a3 (by omega) (by omega) hw1.2 hw2.2 _ _ hP hD hS ls (lv_sub hl [1, 2, 3, 0] rfl)
          · exact absurd (hw1.1.trans hw2.1.symm) c_9
        · refine lv_tableIn (tgt := 215) hx hb dL_law_32 (by rw [h8]; decide +kernel) (by rw [h8]; decide +kernel) (off := 183) (by rw [h8]; decide +kernel) (by decide) ?_
          refine lv_aload_n hx hb dL_law_215 rfl (lv_at hl 1 rfl) ?_
          refine lv_aload_n hx hb dL_law_216 rfl (lv_at hl 0 rfl) ?_
          refine lv_iload_n hx hb dL_law_217 rfl (lv_at hl 3 rfl) ?_
          refine lv_iconst (v := (nI 1)) hx hb dL_law_218 (by decide +kernel) ?_
          refine lv_iadd hx hb dL_law_219 ?_
          refine jt_i (y := (nI (i + 1))) (nI_add _ _) ?_
          refine va_sld hx hb hX hbl hbA hS (vp_in_nI (show i + 1 < L by omega) (by omega)) dL_law_220 ?_
          refine jt_i (y := (xs (i + 1))) (by rw [nI_clamp (by omega)]) ?_
          refine lv_aload_n hx hb dL_law_221 rfl (lv_at hl 0 rfl) ?_
          refine lv_iload_n hx hb dL_law_222 rfl (lv_at hl 3 rfl) ?_
          refine lv_iconst (v := (nI 2)) hx hb dL_law_223 (by decide +kernel) ?_
          refine lv_iadd hx hb dL_law_224 ?_
          refine jt_i (y := (nI (i + 2))) (nI_add _ _) ?_
          refine va_sld hx hb hX hbl hbA hS (vp_in_nI (show i + 2 < L by omega) (by omega)) dL_law_225 ?_
          refine jt_i (y := (xs (i + 2))) (by rw [nI_clamp (by omega)]) ?_
          refine j_calli (wr := (jMw g0 mt mb mz mn my ci cz a1)) hP hD hS hA [0, 1, 2, 3, 4, 5] [6, 7, 8, 9, 10, 11] rfl rfl (by decide) (by decide) (va_runV (As := [.int (xs (i + 1)), .int (xs (i + 2))]) (rest := []) ⟨hx, hb, hml, hown, htsL⟩ (w_D_record l D cb ci cz h0 qt qr qd ql qn M a hDk (xs (i + 1)) (xs (i + 2)) H.size) (cwV 2 htsL gL_law_X1_record rfl rfl rfl (by decide +kernel) ⟨Nat.le_of_ble_eq_true rfl, Nat.le_of_ble_eq_true rfl⟩) (j_preV (ci := 1) (q0 := 0) [0, 1, 2, 3, 4, 5] [0, 1, 2] hK hP hD rfl rfl rfl rfl rfl rfl) rfl rfl hl.1 rfl (lv_room (Nat.le_of_ble_eq_true rfl)) dL_law_226 ⟨Nat.le_of_ble_eq_true rfl, Nat.le_of_ble_eq_true rfl⟩) (fun r226 _ H locs hw1 hP hD hS => ?_)
          have hP : va_P D vwCl ((jMw g0 mt mb mz mn my ci cz a1) ++ (jDw h0 qt qr qd ql qn cb ci a)) H := hP
          have hD : va_D A ((jMw g0 mt mb mz mn my ci cz a1) ++ (jDw h0 qt qr qd ql qn cb ci a)) := hD
          refine lv_aload_n hx hb dL_law_229 rfl (lv_at hl 2 rfl) ?_
          refine lv_aload_n hx hb dL_law_230 rfl (lv_at hl 0 rfl) ?_
          refine lv_iload_n hx hb dL_law_231 rfl (lv_at hl 3 rfl) ?_
          refine lv_iconst (v := (nI 1)) hx hb dL_law_232 (by decide +kernel) ?_
          refine lv_iadd hx hb dL_law_233 ?_
          refine jt_i (y := (nI (i + 1))) (nI_add _ _) ?_
          refine va_sld hx hb hX hbl hbA hS (vp_in_nI (show i + 1 < L by omega) (by omega)) dL_law_234 ?_
          refine jt_i (y := (xs (i + 1))) (by rw [nI_clamp (by omega)]) ?_
          refine lv_aload_n hx hb dL_law_235 rfl (lv_at hl 0 rfl) ?_
          refine lv_iload_n hx hb dL_law_236 rfl (lv_at hl 3 rfl) ?_
          refine lv_iconst (v := (nI 2)) hx hb dL_law_237 (by decide +kernel) ?_
          refine lv_iadd hx hb dL_law_238 ?_
          refine jt_i (y := (nI (i + 2))) (nI_add _ _) ?_
          refine va_sld hx hb hX hbl hbA hS (vp_in_nI (show i + 2 < L by omega) (by omega)) dL_law_239 ?_
          refine jt_i (y := (xs (i + 2))) (by rw [nI_clamp (by omega)]) ?_
          refine j_calli (wr := (jDw h0 qt qr qd ql qn cb ci a)) hP hD hS hA [0, 1, 2, 3, 4, 5] [6, 7, 8, 9, 10, 11] rfl rfl (by decide) (by decide) (va_runV (As := [.int (xs (i + 1)), .int (xs (i + 2))]) (rest := [.int r226]) ⟨hx, hb, hml, hown, hts⟩ (w_M_record l D cb ci cz g0 mt mb mz mn my M a1 hMk (xs (i + 1)) (xs (i + 2)) H.size) (cwV 2 hts hqL_X2_record rfl rfl rfl (by decide +kernel) ⟨Nat.le_of_ble_eq_true rfl, Nat.le_of_ble_eq_true rfl⟩) (j_preV (ci := 2) (q0 := 0) [0, 1, 2, 3, 4, 5] [0, 1, 2] hK hP hD rfl rfl rfl rfl rfl rfl) rfl rfl hl.1 rfl (lv_room (Nat.le_of_ble_eq_true rfl)) dL_law_240 ⟨Nat.le_of_ble_eq_true rfl, Nat.le_of_ble_eq_true rfl⟩) (fun r240 _ H locs hw2 hP hD hS => ?_)
          have hP : va_P D vwCl ((jDw h0 qt qr qd ql qn cb ci a) ++ (jMw g0 mt mb mz mn my ci cz a1)) H := hP
          have hD : va_D A ((jDw h0 qt qr qd ql qn cb ci a) ++ (jMw g0 mt mb mz mn my ci cz a1)) := hD
          refine lv_icmp_eq (tgt := 305) hx hb dL_law_243 (by decide) (fun c_9 => ?_) (fun c_9 => ?_)
          · refine lv_iinc (v := (nI (i + 4))) (lv' := [(3, .int (nI (i + 4))), (0, .ref b), (1, .ref h0), (2, .ref g0)]) hx hb dL_law_305 hl (k := 3) rfl (nI_add i 4) (by decide) rfl (fun ls hl => ?_)
            refine lv_goto (tgt := 18) hx hb dL_law_308 (by decide) ?_
            exact ih (i + 4) M a a1 (by omega) (by omega) hDk hMk _ _ hP hD hS ls (lv_sub hl [1, 2, 3, 0] rfl)
          · exact absurd (jop_rc_u hDk hw1 hw2) c_9
        · refine lv_tableIn (tgt := 248) hx hb dL_law_32 (by rw [h8]; decide +kernel) (by rw [h8]; decide +kernel) (off := 216) (by rw [h8]; decide +kernel) (by decide) ?_
          refine lv_aload_n hx hb dL_law_248 rfl (lv_at hl 1 rfl) ?_
          refine lv_aload_n hx hb dL_law_249 rfl (lv_at hl 0 rfl) ?_
          refine lv_iload_n hx hb dL_law_250 rfl (lv_at hl 3 rfl) ?_
          refine lv_iconst (v := (nI 1)) hx hb dL_law_251 (by decide +kernel) ?_
          refine lv_iadd hx hb dL_law_252 ?_
          refine jt_i (y := (nI (i + 1))) (nI_add _ _) ?_
          refine va_sld hx hb hX hbl hbA hS (vp_in_nI (show i + 1 < L by omega) (by omega)) dL_law_253 ?_
          refine jt_i (y := (xs (i + 1))) (by rw [nI_clamp (by omega)]) ?_
          refine lv_aload_n hx hb dL_law_254 rfl (lv_at hl 0 rfl) ?_
          refine lv_iload_n hx hb dL_law_255 rfl (lv_at hl 3 rfl) ?_
          refine lv_iconst (v := (nI 2)) hx hb dL_law_256 (by decide +kernel) ?_
          refine lv_iadd hx hb dL_law_257 ?_
          refine jt_i (y := (nI (i + 2))) (nI_add _ _) ?_
          refine va_sld hx hb hX hbl hbA hS (vp_in_nI (show i + 2 < L by omega) (by omega)) dL_law_258 ?_
          refine jt_i (y := (xs (i + 2))) (by rw [nI_clamp (by omega)]) ?_
          refine j_calll (wr := (jMw g0 mt mb mz mn my ci cz a1)) hP hD hS hA [0, 1, 2, 3, 4, 5] [6, 7, 8, 9, 10, 11] rfl rfl (by decide) (by decide) (va_runV (As := [.int (xs (i + 1)), .int (xs (i + 2))]) (rest := []) ⟨hx, hb, hml, hown, htsL⟩ (w_D_bytes l D cb ci cz h0 qt qr qd ql qn M a hDk (xs (i + 1)) (xs (i + 2)) H.size) (cwV 2 htsL gL_law_X1_bytes rfl rfl rfl (by decide +kernel) ⟨Nat.le_of_ble_eq_true rfl, Nat.le_of_ble_eq_true rfl⟩) (j_preV (ci := 1) (q0 := 0) [0, 1, 2, 3, 4, 5] [0, 1, 2] hK hP hD rfl rfl rfl rfl rfl rfl) rfl rfl hl.1 rfl (lv_room (Nat.le_of_ble_eq_true rfl)) dL_law_259 ⟨Nat.le_of_ble_eq_true rfl, Nat.le_of_ble_eq_true rfl⟩) (fun r259 _ H locs hw1 hP hD hS => ?_)
          have hP : va_P D vwCl ((jMw g0 mt mb mz mn my ci cz a1) ++ (jDw h0 qt qr qd ql qn cb ci a)) H := hP
          have hD : va_D A ((jMw g0 mt mb mz mn my ci cz a1) ++ (jDw h0 qt qr qd ql qn cb ci a)) := hD
          refine lv_aload_n hx hb dL_law_262 rfl (lv_at hl 2 rfl) ?_
          refine lv_aload_n hx hb dL_law_263 rfl (lv_at hl 0 rfl) ?_
          refine lv_iload_n hx hb dL_law_264 rfl (lv_at hl 3 rfl) ?_
          refine lv_iconst (v := (nI 1)) hx hb dL_law_265 (by decide +kernel) ?_
          refine lv_iadd hx hb dL_law_266 ?_
          refine jt_i (y := (nI (i + 1))) (nI_add _ _) ?_
          refine va_sld hx hb hX hbl hbA hS (vp_in_nI (show i + 1 < L by omega) (by omega)) dL_law_267 ?_
          refine jt_i (y := (xs (i + 1))) (by rw [nI_clamp (by omega)]) ?_
          refine lv_aload_n hx hb dL_law_268 rfl (lv_at hl 0 rfl) ?_
          refine lv_iload_n hx hb dL_law_269 rfl (lv_at hl 3 rfl) ?_
          refine lv_iconst (v := (nI 2)) hx hb dL_law_270 (by decide +kernel) ?_
          refine lv_iadd hx hb dL_law_271 ?_
          refine jt_i (y := (nI (i + 2))) (nI_add _ _) ?_
          refine va_sld hx hb hX hbl hbA hS (vp_in_nI (show i + 2 < L by omega) (by omega)) dL_law_272 ?_
          refine jt_i (y := (xs (i + 2))) (by rw [nI_clamp (by omega)]) ?_
          refine j_calll (wr := (jDw h0 qt qr qd ql qn cb ci a)) hP hD hS hA [0, 1, 2, 3, 4, 5] [6, 7, 8, 9, 10, 11] rfl rfl (by decide) (by decide) (va_runV (As := [.int (xs (i + 1)), .int (xs (i + 2))]) (rest := [.long r259]) ⟨hx, hb, hml, hown, hts⟩ (w_M_bytes l D cb ci cz g0 mt mb mz mn my M a1 hMk (xs (i + 1)) (xs (i + 2)) H.size) (cwV 2 hts hqL_X2_bytes rfl rfl rfl (by decide +kernel) ⟨Nat.le_of_ble_eq_true rfl, Nat.le_of_ble_eq_true rfl⟩) (j_preV (ci := 2) (q0 := 0) [0, 1, 2, 3, 4, 5] [0, 1, 2] hK hP hD rfl rfl rfl rfl rfl rfl) rfl rfl hl.1 rfl (lv_room (Nat.le_of_ble_eq_true rfl)) dL_law_273 ⟨Nat.le_of_ble_eq_true rfl, Nat.le_of_ble_eq_true rfl⟩) (fun r273 _ H locs hw2 hP hD hS => ?_)
          have hP : va_P D vwCl ((jDw h0 qt qr qd ql qn cb ci a) ++ (jMw g0 mt mb mz mn my ci cz a1)) H := hP
          have hD : va_D A ((jDw h0 qt qr qd ql qn cb ci a) ++ (jMw g0 mt mb mz mn my ci cz a1)) := hD
          refine W.lcmp hx hb dL_law_276 ?_
          refine lv_if_eq (tgt := 305) hx hb dL_law_277 (by decide) (fun c_9 => ?_) (fun c_9 => ?_)
          · refine lv_iinc (v := (nI (i + 4))) (lv' := [(3, .int (nI (i + 4))), (0, .ref b), (1, .ref h0), (2, .ref g0)]) hx hb dL_law_305 hl (k := 3) rfl (nI_add i 4) (by decide) rfl (fun ls hl => ?_)
            refine lv_goto (tgt := 18) hx hb dL_law_308 (by decide) ?_
            exact ih (i + 4) M a a1 (by omega) (by omega) hDk hMk _ _ hP hD hS ls (lv_sub hl [1, 2, 3, 0] rfl)
          · exact absurd (j_lc (jop_by_u hDk hw1 hw2)) c_9
        · refine lv_tableIn (tgt := 282) hx hb dL_law_32 (by rw [h8]; decide +kernel) (by rw [h8]; decide +kernel) (off := 250) (by rw [h8]; decide +kernel) (by decide) ?_
          refine lv_aload_n hx hb dL_law_282 rfl (lv_at hl 1 rfl) ?_
          refine lv_aload_n hx hb dL_law_283 rfl (lv_at hl 0 rfl) ?_
          refine lv_iload_n hx hb dL_law_284 rfl (lv_at hl 3 rfl) ?_
          refine lv_iconst (v := (nI 1)) hx hb dL_law_285 (by decide +kernel) ?_
          refine lv_iadd hx hb dL_law_286 ?_
          refine jt_i (y := (nI (i + 1))) (nI_add _ _) ?_
          refine va_sld hx hb hX hbl hbA hS (vp_in_nI (show i + 1 < L by omega) (by omega)) dL_law_287 ?_
          refine jt_i (y := (xs (i + 1))) (by rw [nI_clamp (by omega)]) ?_
          refine j_calli (wr := (jMw g0 mt mb mz mn my ci cz a1)) hP hD hS hA [0, 1, 2, 3, 4, 5] [6, 7, 8, 9, 10, 11] rfl rfl (by decide) (by decide) (va_runV (As := [.int (xs (i + 1))]) (rest := []) ⟨hx, hb, hml, hown, htsL⟩ (w_D_count l D cb ci cz h0 qt qr qd ql qn M a hDk (xs (i + 1)) H.size) (cwV 1 htsL gL_law_X1_count rfl rfl rfl (by decide +kernel) ⟨Nat.le_of_ble_eq_true rfl, Nat.le_of_ble_eq_true rfl⟩) (j_preV (ci := 1) (q0 := 0) [0, 1, 2, 3, 4, 5] [0, 1, 2] hK hP hD rfl rfl rfl rfl rfl rfl) rfl rfl hl.1 rfl (lv_room (Nat.le_of_ble_eq_true rfl)) dL_law_288 ⟨Nat.le_of_ble_eq_true rfl, Nat.le_of_ble_eq_true rfl⟩) (fun r288 _ H locs hw1 hP hD hS => ?_)
          have hP : va_P D vwCl ((jMw g0 mt mb mz mn my ci cz a1) ++ (jDw h0 qt qr qd ql qn cb ci a)) H := hP
          have hD : va_D A ((jMw g0 mt mb mz mn my ci cz a1) ++ (jDw h0 qt qr qd ql qn cb ci a)) := hD
          refine lv_aload_n hx hb dL_law_291 rfl (lv_at hl 2 rfl) ?_
          refine lv_aload_n hx hb dL_law_292 rfl (lv_at hl 0 rfl) ?_
          refine lv_iload_n hx hb dL_law_293 rfl (lv_at hl 3 rfl) ?_
          refine lv_iconst (v := (nI 1)) hx hb dL_law_294 (by decide +kernel) ?_
          refine lv_iadd hx hb dL_law_295 ?_
          refine jt_i (y := (nI (i + 1))) (nI_add _ _) ?_
          refine va_sld hx hb hX hbl hbA hS (vp_in_nI (show i + 1 < L by omega) (by omega)) dL_law_296 ?_
          refine jt_i (y := (xs (i + 1))) (by rw [nI_clamp (by omega)]) ?_
          refine j_calli (wr := (jDw h0 qt qr qd ql qn cb ci a)) hP hD hS hA [0, 1, 2, 3, 4, 5] [6, 7, 8, 9, 10, 11] rfl rfl (by decide) (by decide) (va_runV (As := [.int (xs (i + 1))]) (rest := [.int r288]) ⟨hx, hb, hml, hown, hts⟩ (w_M_count l D cb ci cz g0 mt mb mz mn my M a1 hMk (xs (i + 1)) H.size) (cwV 1 hts hqL_X2_count rfl rfl rfl (by decide +kernel) ⟨Nat.le_of_ble_eq_true rfl, Nat.le_of_ble_eq_true rfl⟩) (j_preV (ci := 2) (q0 := 0) [0, 1, 2, 3, 4, 5] [0, 1, 2] hK hP hD rfl rfl rfl rfl rfl rfl) rfl rfl hl.1 rfl (lv_room (Nat.le_of_ble_eq_true rfl)) dL_law_297 ⟨Nat.le_of_ble_eq_true rfl, Nat.le_of_ble_eq_true rfl⟩) (fun r297 _ H locs hw2 hP hD hS => ?_)
          have hP : va_P D vwCl ((jDw h0 qt qr qd ql qn cb ci a) ++ (jMw g0 mt mb mz mn my ci cz a1)) H := hP
          have hD : va_D A ((jDw h0 qt qr qd ql qn cb ci a) ++ (jMw g0 mt mb mz mn my ci cz a1)) := hD
          refine lv_icmp_eq (tgt := 305) hx hb dL_law_300 (by decide) (fun c_9 => ?_) (fun c_9 => ?_)
          · refine lv_iinc (v := (nI (i + 4))) (lv' := [(3, .int (nI (i + 4))), (0, .ref b), (1, .ref h0), (2, .ref g0)]) hx hb dL_law_305 hl (k := 3) rfl (nI_add i 4) (by decide) rfl (fun ls hl => ?_)
            refine lv_goto (tgt := 18) hx hb dL_law_308 (by decide) ?_
            exact ih (i + 4) M a a1 (by omega) (by omega) hDk hMk _ _ hP hD hS ls (lv_sub hl [1, 2, 3, 0] rfl)
          · exact absurd (hw1.trans hw2.symm) c_9
  exact LOOP (L + 1) 0 jM0 ((fun _ => 0), (fun _ => 0), (fun _ => 0), (fun _ => 0), 0, 0, 0, 0, 0, 0, 1, 0) ((fun _ => 0), (fun _ => 0), (fun _ => 0), (fun _ => 0), (fun _ => 0), 0, 0, 0, 0, 0, -1) (by omega) (Nat.zero_le L) jM0_D jM0_M _ _ hP hD hS ls (lv_sub hl [3, 2, 1, 0] rfl)
end
section
-- ===== YOUR PART ENDS =====
set_option maxHeartbeats 4000000 in
theorem lw_walk (l : Launch) (b : Addr) (xs : List Int32) : MetFree l x (headSpec (Jvm.Cond.code x code maxLocals ret :: tables_1) room_1) (lw_P b xs) (fun _ _ _ _ _ => True) lw_Q := by
  refine MetFree.of_bodyS (code := code) (maxLocals := maxLocals) (ret := ret) (by decide) ?_ ?_
  · intro args s m h hn
    obtain ⟨meth, c, h1, h2, h3, h4, h5, h6, -, -⟩ := Cond.code_spec hn (atoms_spec (ws := Jvm.Cond.code x code maxLocals ret :: tables_1) h _ List.mem_cons_self)
    exact ⟨meth, c, h1, h2, h3, h4, h5, h6⟩
  · intro p e s m args below meth c s₁ B hml0 hP _
    obtain ⟨rfl, hx, hbd, hgv⟩ := hP
    obtain ⟨scr, harrAt, hlist, hof, hsmall⟩ := hx
    obtain ⟨hcb, hkn, -, -⟩ := State.arrayAt?_spec harrAt
    have hown : s.vm.findClass R_law = some m.cls := findClass_of_methodNamed B.named
    have hts0 : ∀ c ∈ (Jvm.Cond.code x code maxLocals ret :: tables_1), c.before #[Value.ref b] s = true := atoms_spec (ws := Jvm.Cond.code x code maxLocals ret :: tables_1) B.pre
    have hts : ∀ w ∈ lw_tbl, w.before #[Value.ref b] s = true := k2_hts_sels lw_privs (fun w hw => hts0 w (List.mem_cons_of_mem _ hw)) lw_privs_ok
    have hml : c.maxLocals = 4 := B.maxLocals_eq (hts0 _ List.mem_cons_self)
    have X₀ : Stand p l e room_1 s m #[Value.ref b] below meth c s₁ [] 0 0 := Stand.of_body B
    have hh0 : s₁.heap = s.heap := by rw [B.state]; rfl
    have hsz : scr.slots.size = xs.length := by rw [← Array.length_toList, hlist, List.length_map]
    have hval : ∀ j : Nat, j < xs.length → scr.slots[j]? = some (.int (xs.getD j 0)) := fun j hj => by
      rw [← Array.getElem?_toList, hlist]
      simp [hj]
    have hbl : b < s.heap.size := (Array.getElem?_eq_some_iff.mp hcb).1
    have hX : va_X b xs.length (fun j => xs.getD j 0) s s.heap := ⟨scr, hcb, hof, hkn, hsz, hval⟩
    have K : W p l e room_1 s m #[Value.ref b] below meth c s₁.heap [] 0 0 (lw_Z below #[Value.ref b] s) (entryFrame m ([Value.ref b] : List Value).toArray 4) := by
      rw [hh0]
      exact whole_start l hbd ⟨B.exec, B.bytes, B.returns, hml, hown, hts, hX, hbl, B.notSynchronized, hgv⟩
    obtain ⟨t, a1, o, b1, b2, b3⟩ := K s₁ rfl X₀
    exact ⟨t, o, a1, b1, b2, b3⟩
theorem lw_pre_spec {args : Array Value} {s : State} (h : (Jvm.Cond.and given_1 narrow_1).before args s = true) (hr : rest_1_c.before args s = true) : ∃ (b : Addr) (xs : List Int32), lw_P b xs args s := by
  have hs := flat_of_before _ h
  have hq := flat_of_before _ hr
  have hc : (Cond.count 1).before args s = true := hs _ (by decide +kernel)
  have harr : (Cond.arrayOf (.arg 0) .int).before args s = true := hs _ (by decide +kernel)
  have hle : (Cond.le (.length (.arg 0)) (.int 2048)).before args s = true := hs _ (by decide +kernel)
  have hlen : (Cond.isInt (.length (.arg 0))).before args s = true := hq _ (by decide +kernel)
  have hall : (Cond.all (.arg 0) (.isInt (.elem (.arg 0) (.index 0)))).before args s = true := hq _ (by decide +kernel)
  obtain ⟨b, xs, hb, hx⟩ := State.ints_of_pre rfl harr hlen hall
  have hsm : xs.length < 2 ^ 31 := hx.choose_spec.2.2.2
  have hev : (Term.length (.arg 0)).eval args s none [] s = some (.int xs.length.toInt32) := hx.length_eval hb
  have hv := Cond.le_ints hev (show (Term.int 2048).eval args s none [] s = some (.int 2048) from rfl)
  have hd : xs.length.toInt32 ≤ 2048 := by
    simpa [Cond.before, Cond.holds, hv] using hle
  have hN : xs.length ≤ 2048 := (Int32.ofNat_le_ofNat hsm (by decide)).mp (show Int32.ofNat xs.length ≤ Int32.ofNat 2048 from hd)
  exact ⟨b, xs, Cond.one_arg hc (show args[0]? = some (.ref b) from hb), hx, hN, h⟩
theorem lw_comes (l : Launch) : Comes l x (Jvm.Cond.code x code maxLocals ret :: tables_1) room_1 (fun tb e args s => Calls_1 tb e args s ∧ rest_1 tb e args s ∧ Pre_1 tb e args s)
    (fun _ _ args s o t => lw_Q args s o t) := by
  intro p e ha hc hk s m args below hf hfit hheap happ hpre
  obtain ⟨b, xs, hP⟩ := lw_pre_spec hpre.2.2 hpre.2.1
  obtain ⟨k, o, h1, h2, h3, hQ⟩ := lw_walk l b xs p e ha hc hk s m args below hf ((Spec.applies_iff_loose hf).mp happ).1 hP trivial
  exact ⟨k, o, h1, h2, h3, hQ⟩
theorem lw_frame {s t : State} {o : Outcome} {args : Array Value} (h : Framed s o t [] 12 5007) :
    Framed s o t (fieldLocs frame_1_writes args s ++ arrayLocs frame_1_arrays args s ++ staticLocs frame_1_statics s) 12 5007 := h
theorem lw_limb (L : Cond) (hL : ∀ (args : Array Value) (s t : State), L.after args s (.returned (some (.int 1))) t = true) :
    ArmFor flags0 classFile x code maxLocals ret World_1 tables_1 room_1 Calls_1 rest_1 Pre_1
      (fun tb e a s o t => postC L tb e a s o t ∧ Framed s o t (fieldLocs frame_1_writes a s ++ arrayLocs frame_1_arrays a s ++ staticLocs frame_1_statics s) 12 5007) := by
  intro l _ _ _ p e ha hc hk s m args below hf hfit hheap happ hpre
  obtain ⟨k, o, h1, h2, h3, rfl, hF⟩ := lw_comes l p e ha hc hk s m args below hf hfit hheap happ hpre
  exact ⟨k, _, h1, h2, h3, hL args s _, lw_frame hF⟩
theorem i_vc : Claimed_1_1 ∧ Claimed_1_2 := ⟨lw_limb limb_1_1 (fun args s t => by simp [limb_1_1, Cond.after, Cond.holds, Cond.value]), lw_limb limb_1_2 (fun args s t => Cond.after_iff.mpr (by
  first | (rw [show limb_1_2 = Cond.eq .result (.int 1) from rfl, Cond.eq_ints (x := 1) (y := 1) rfl rfl]; simp; done) | (simp [limb_1_2, Cond.value, Term.eval]; done)))⟩
end
