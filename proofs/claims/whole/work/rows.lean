section
-- ===== PART A: goes FIRST, ahead of the names: the tables' words, and 'selects' of the private methods out of them =====
/-- a private method of a class that the tables say can be made, by its rows of tables_1 -/
def lw_okq (q : MethodName × Nat) : Prop := (q.1.cls ≠ "java/lang/invoke/MethodHandle" ∧ q.1.cls ≠ "java/lang/invoke/VarHandle") ∧ Cond.instantiable q.1.cls q.2 ∈ tables_1 ∧ Cond.privateMethod q.1 ∈ tables_1 ∧ Cond.instanceMethod q.1 ∈ tables_1
theorem lw_p0 : lw_okq (⟨"MainframeDesk", "find", "(I)LMainframeDesk$Thing;"⟩, 12) := ⟨⟨by decide +kernel, by decide +kernel⟩, List.mem_of_getElem? (i := 5) (by decide +kernel), List.mem_of_getElem? (i := 95) (by decide +kernel), List.mem_of_getElem? (i := 96) (by decide +kernel)⟩
theorem lw_p1 : lw_okq (⟨"MainframeDesk", "refusalOf", "(ILMainframeDesk$Thing;J)I"⟩, 12) := ⟨⟨by decide +kernel, by decide +kernel⟩, List.mem_of_getElem? (i := 5) (by decide +kernel), List.mem_of_getElem? (i := 99) (by decide +kernel), List.mem_of_getElem? (i := 100) (by decide +kernel)⟩
theorem lw_p2 : lw_okq (⟨"MainframeDesk", "outcomeOf", "(ILMainframeDesk$Thing;J)J"⟩, 12) := ⟨⟨by decide +kernel, by decide +kernel⟩, List.mem_of_getElem? (i := 5) (by decide +kernel), List.mem_of_getElem? (i := 107) (by decide +kernel), List.mem_of_getElem? (i := 108) (by decide +kernel)⟩
theorem lw_p3 : lw_okq (⟨"MainframeDesk", "takeRow", "(I)V"⟩, 12) := ⟨⟨by decide +kernel, by decide +kernel⟩, List.mem_of_getElem? (i := 5) (by decide +kernel), List.mem_of_getElem? (i := 114) (by decide +kernel), List.mem_of_getElem? (i := 115) (by decide +kernel)⟩
theorem lw_p4 : lw_okq (⟨"MainframeDesk", "tell", "(II)V"⟩, 12) := ⟨⟨by decide +kernel, by decide +kernel⟩, List.mem_of_getElem? (i := 5) (by decide +kernel), List.mem_of_getElem? (i := 118) (by decide +kernel), List.mem_of_getElem? (i := 119) (by decide +kernel)⟩
theorem lw_p5 : lw_okq (⟨"MainframeDeskModel", "reckoned", "(IIJ)J"⟩, 16) := ⟨⟨by decide +kernel, by decide +kernel⟩, List.mem_of_getElem? (i := 138) (by decide +kernel), List.mem_of_getElem? (i := 217) (by decide +kernel), List.mem_of_getElem? (i := 218) (by decide +kernel)⟩
theorem lw_p6 : lw_okq (⟨"MainframeDeskModel", "refusal", "(IIJ)I"⟩, 16) := ⟨⟨by decide +kernel, by decide +kernel⟩, List.mem_of_getElem? (i := 138) (by decide +kernel), List.mem_of_getElem? (i := 221) (by decide +kernel), List.mem_of_getElem? (i := 222) (by decide +kernel)⟩
def lw_privs_1 : List (MethodName × Nat) := [(⟨"MainframeDesk", "find", "(I)LMainframeDesk$Thing;"⟩, 12), (⟨"MainframeDesk", "refusalOf", "(ILMainframeDesk$Thing;J)I"⟩, 12), (⟨"MainframeDesk", "outcomeOf", "(ILMainframeDesk$Thing;J)J"⟩, 12), (⟨"MainframeDesk", "takeRow", "(I)V"⟩, 12), (⟨"MainframeDesk", "tell", "(II)V"⟩, 12), (⟨"MainframeDeskModel", "reckoned", "(IIJ)J"⟩, 16), (⟨"MainframeDeskModel", "refusal", "(IIJ)I"⟩, 16)]
theorem lw_r1 : ∀ q ∈ lw_privs_1, lw_okq q := List.forall_mem_cons.mpr ⟨lw_p0, List.forall_mem_cons.mpr ⟨lw_p1, List.forall_mem_cons.mpr ⟨lw_p2, List.forall_mem_cons.mpr ⟨lw_p3, List.forall_mem_cons.mpr ⟨lw_p4, List.forall_mem_cons.mpr ⟨lw_p5, List.forall_mem_cons.mpr ⟨lw_p6, fun _ h => absurd h List.not_mem_nil⟩⟩⟩⟩⟩⟩⟩
def lw_privs : List (MethodName × Nat) := lw_privs_1
def lw_tbl : List Cond := k2_sels lw_privs ++ tables_1
theorem lw_privs_ok : ∀ q ∈ lw_privs, lw_okq q := lw_r1
/-! ===== BEGIN words of one list among another's, by their places ===== -/
theorem goodIn_r {big : List Cond} (ws : List Cond) (ps : List Nat) (hp : ws = ps.filterMap (fun i => big[i]?)) (h : ws.all goodWord = true) : GoodIn big ws := by
  intro w hw
  have h1 := List.all_eq_true.mp h w hw
  rw [hp] at hw
  obtain ⟨i, -, hi⟩ := List.mem_filterMap.mp hw
  have hm : w ∈ big := by first | exact List.mem_of_getElem? hi | exact List.getElem?_mem hi
  exact ⟨hm, good_of_word h1⟩
theorem goodIn_app {big a b : List Cond} (ha : GoodIn big a) (hb : GoodIn big b) : GoodIn big (a ++ b) := fun w h => (List.mem_append.mp h).elim (ha w) (hb w)
theorem goodIn_ca {big a b : List Cond} {c : Cond} (ha : GoodIn big (c :: a)) (hb : GoodIn big b) : GoodIn big (c :: (a ++ b)) := fun w h => (List.mem_cons.mp h).elim (fun e => ha w (List.mem_cons.mpr (Or.inl e))) (fun h => (List.mem_append.mp h).elim (fun h => ha w (List.mem_cons.mpr (Or.inr h))) (hb w))
theorem goodIn_sub {big ws : List Cond} (hm : ∀ w ∈ ws, w ∈ big) (h : ws.all goodWord = true) : GoodIn big ws := fun w hw => ⟨hm w hw, good_of_word (List.all_eq_true.mp h w hw)⟩
/-! ===== END ===== -/

/-! ===== BEGIN printed: names, fields, word lists, decode rows ===== -/
def RX0 : String := "MainframeDesk$Thing"
def TX0 : u_T := fun k => match k with
  | 0 => ("MainframeDesk$Thing", "kind", "I", true)
  | 1 => ("MainframeDesk$Thing", "there", "Z", false)
  | _ => ("MainframeDesk$Thing", "answered", "I", false)
def tyX0 : Nat → FieldType := fun k => match k with
  | 0 => .int
  | 1 => .boolean
  | _ => .int
abbrev wsX00 : List Cond := u_ws RX0 TX0 3
theorem nmX0 : ∀ a, a < 3 → ∀ b, b < 3 → a ≠ b → (TX0 a).2.1 ≠ (TX0 b).2.1 := by decide +kernel
theorem tyX0_ok : ∀ k, k < 3 → parseFieldDescriptor (TX0 k).2.2.1 = some (tyX0 k) := by decide +kernel
abbrev cX0_init : ByteArray := prog_2_method_1_code
def yX0_init : MethodName := ⟨RX0, "<init>", "(I)V"⟩
def RX1 : String := "MainframeDesk"
def TX1 : u_T := fun k => match k with
  | 0 => ("MainframeDesk", "things", "[LMainframeDesk$Thing;", true)
  | 1 => ("MainframeDesk", "made", "I", false)
  | 2 => ("MainframeDesk", "rowCounts", "[I", true)
  | 3 => ("MainframeDesk", "rowSums", "[J", true)
  | 4 => ("MainframeDesk", "answers", "[J", true)
  | 5 => ("MainframeDesk", "failures", "[I", true)
  | 6 => ("MainframeDesk", "latestFailure", "I", false)
  | 7 => ("MainframeDesk", "latestFailedCall", "I", false)
  | 8 => ("MainframeDesk", "latestEndedThing", "I", false)
  | 9 => ("MainframeDesk", "failureCount", "I", false)
  | 10 => ("MainframeDesk", "refusalCount", "I", false)
  | _ => ("MainframeDesk", "answerCount", "I", false)
def tyX1 : Nat → FieldType := fun k => match k with
  | 0 => .array (.object "MainframeDesk$Thing")
  | 1 => .int
  | 2 => .array .int
  | 3 => .array .long
  | 4 => .array .long
  | 5 => .array .int
  | 6 => .int
  | 7 => .int
  | 8 => .int
  | 9 => .int
  | 10 => .int
  | _ => .int
abbrev wsX10 : List Cond := u_ws RX1 TX1 12
theorem nmX1 : ∀ a, a < 12 → ∀ b, b < 12 → a ≠ b → (TX1 a).2.1 ≠ (TX1 b).2.1 := by decide +kernel
theorem tyX1_ok : ∀ k, k < 12 → parseFieldDescriptor (TX1 k).2.2.1 = some (tyX1 k) := by decide +kernel
abbrev cX1_init : ByteArray := prog_1_method_1_code
def yX1_init : MethodName := ⟨RX1, "<init>", "()V"⟩
abbrev cX1_collect : ByteArray := prog_1_method_2_code
def yX1_collect : MethodName := ⟨RX1, "collect", "(IJ)I"⟩
abbrev cX1_answer : ByteArray := prog_1_method_3_code
def yX1_answer : MethodName := ⟨RX1, "answer", "(IJ)I"⟩
abbrev cX1_fails : ByteArray := prog_1_method_4_code
def yX1_fails : MethodName := ⟨RX1, "fails", "(II)I"⟩
abbrev cX1_make : ByteArray := prog_1_method_5_code
def yX1_make : MethodName := ⟨RX1, "make", "(I)I"⟩
abbrev cX1_call : ByteArray := prog_1_method_6_code
def yX1_call : MethodName := ⟨RX1, "call", "(IIJ)J"⟩
abbrev cX1_told : ByteArray := prog_1_method_7_code
def yX1_told : MethodName := ⟨RX1, "told", "(I)I"⟩
abbrev cX1_drop : ByteArray := prog_1_method_8_code
def yX1_drop : MethodName := ⟨RX1, "drop", "(I)Z"⟩
abbrev cX1_numbers : ByteArray := prog_1_method_9_code
def yX1_numbers : MethodName := ⟨RX1, "numbers", "(I)I"⟩
abbrev cX1_again : ByteArray := prog_1_method_10_code
def yX1_again : MethodName := ⟨RX1, "again", "(IIJ)J"⟩
abbrev cX1_isWithin : ByteArray := prog_1_method_11_code
def yX1_isWithin : MethodName := ⟨RX1, "isWithin", "(II)Z"⟩
abbrev cX1_hasRow : ByteArray := prog_1_method_12_code
def yX1_hasRow : MethodName := ⟨RX1, "hasRow", "(I)Z"⟩
abbrev cX1_rowOf : ByteArray := prog_1_method_13_code
def yX1_rowOf : MethodName := ⟨RX1, "rowOf", "(I)I"⟩
abbrev cX1_find : ByteArray := prog_1_method_14_code
def yX1_find : MethodName := ⟨RX1, "find", "(I)LMainframeDesk$Thing;"⟩
abbrev cX1_refusalOf : ByteArray := prog_1_method_15_code
def yX1_refusalOf : MethodName := ⟨RX1, "refusalOf", "(ILMainframeDesk$Thing;J)I"⟩
abbrev cX1_outcomeOf : ByteArray := prog_1_method_16_code
def yX1_outcomeOf : MethodName := ⟨RX1, "outcomeOf", "(ILMainframeDesk$Thing;J)J"⟩
abbrev cX1_takeRow : ByteArray := prog_1_method_17_code
def yX1_takeRow : MethodName := ⟨RX1, "takeRow", "(I)V"⟩
abbrev cX1_tell : ByteArray := prog_1_method_18_code
def yX1_tell : MethodName := ⟨RX1, "tell", "(II)V"⟩
def RX2 : String := "MainframeDeskModel"
def TX2 : u_T := fun k => match k with
  | 0 => ("MainframeDeskModel", "sum", "[J", true)
  | 1 => ("MainframeDeskModel", "many", "[I", true)
  | 2 => ("MainframeDeskModel", "answers", "[J", true)
  | 3 => ("MainframeDeskModel", "failures", "[I", true)
  | 4 => ("MainframeDeskModel", "kind", "[I", true)
  | 5 => ("MainframeDeskModel", "there", "[Z", true)
  | 6 => ("MainframeDeskModel", "answered", "[J", true)
  | 7 => ("MainframeDeskModel", "made", "I", false)
  | 8 => ("MainframeDeskModel", "thrown", "I", false)
  | 9 => ("MainframeDeskModel", "latest", "I", false)
  | 10 => ("MainframeDeskModel", "latestCall", "I", false)
  | 11 => ("MainframeDeskModel", "latestThing", "I", false)
  | 12 => ("MainframeDeskModel", "failed", "I", false)
  | 13 => ("MainframeDeskModel", "refused", "I", false)
  | 14 => ("MainframeDeskModel", "done", "I", false)
  | _ => ("MainframeDeskModel", "way", "I", false)
def tyX2 : Nat → FieldType := fun k => match k with
  | 0 => .array .long
  | 1 => .array .int
  | 2 => .array .long
  | 3 => .array .int
  | 4 => .array .int
  | 5 => .array .boolean
  | 6 => .array .long
  | 7 => .int
  | 8 => .int
  | 9 => .int
  | 10 => .int
  | 11 => .int
  | 12 => .int
  | 13 => .int
  | 14 => .int
  | _ => .int
abbrev wsX20 : List Cond := u_ws RX2 TX2 16
theorem nmX2 : ∀ a, a < 16 → ∀ b, b < 16 → a ≠ b → (TX2 a).2.1 ≠ (TX2 b).2.1 := by decide +kernel
theorem tyX2_ok : ∀ k, k < 16 → parseFieldDescriptor (TX2 k).2.2.1 = some (tyX2 k) := by decide +kernel
abbrev cX2_init : ByteArray := prog_4_method_1_code
def yX2_init : MethodName := ⟨RX2, "<init>", "()V"⟩
abbrev cX2_below : ByteArray := prog_4_method_3_code
def yX2_below : MethodName := ⟨RX2, "below", "(II)Z"⟩
abbrev cX2_collect : ByteArray := prog_4_method_4_code
def yX2_collect : MethodName := ⟨RX2, "collect", "(IJ)I"⟩
abbrev cX2_answer : ByteArray := prog_4_method_5_code
def yX2_answer : MethodName := ⟨RX2, "answer", "(IJ)I"⟩
abbrev cX2_fails : ByteArray := prog_4_method_6_code
def yX2_fails : MethodName := ⟨RX2, "fails", "(II)I"⟩
abbrev cX2_make : ByteArray := prog_4_method_7_code
def yX2_make : MethodName := ⟨RX2, "make", "(I)I"⟩
abbrev cX2_rowOf : ByteArray := prog_4_method_8_code
def yX2_rowOf : MethodName := ⟨RX2, "rowOf", "(I)I"⟩
abbrev cX2_refusal : ByteArray := prog_4_method_9_code
def yX2_refusal : MethodName := ⟨RX2, "refusal", "(IIJ)I"⟩
abbrev cX2_reckoned : ByteArray := prog_4_method_10_code
def yX2_reckoned : MethodName := ⟨RX2, "reckoned", "(IIJ)J"⟩
abbrev cX2_again : ByteArray := prog_4_method_11_code
def yX2_again : MethodName := ⟨RX2, "again", "(IIJ)J"⟩
abbrev cX2_call : ByteArray := prog_4_method_12_code
def yX2_call : MethodName := ⟨RX2, "call", "(IIJ)J"⟩
abbrev cX2_told : ByteArray := prog_4_method_13_code
def yX2_told : MethodName := ⟨RX2, "told", "(I)I"⟩
abbrev cX2_drop : ByteArray := prog_4_method_14_code
def yX2_drop : MethodName := ⟨RX2, "drop", "(I)Z"⟩
def RL : String := "MainframeDeskLaw"
abbrev cL_law : ByteArray := code
def yL_law : MethodName := ⟨RL, "law", "([I)Z"⟩
def wsX0_init : List Cond := .code yX0_init cX0_init 2 none :: ([.methodLink RX0 1 objectInit, .instanceMethod objectInit, .code objectInit ⟨#[0xb1]⟩ 1 none, .fieldLink RX0 7 "MainframeDesk$Thing" "there" "Z", .fieldLink RX0 13 "MainframeDesk$Thing" "answered" "I", .fieldLink RX0 17 "MainframeDesk$Thing" "kind" "I"] ++ wsX00)
def wsX1_init : List Cond := .code yX1_init cX1_init 1 none :: ([.methodLink RX1 1 objectInit, .instanceMethod objectInit, .code objectInit ⟨#[0xb1]⟩ 1 none, .classLink RX1 9 RX0, .fieldLink RX1 11 "MainframeDesk" "things" "[LMainframeDesk$Thing;", .fieldLink RX1 15 "MainframeDesk" "made" "I", .arrayClass .int, .fieldLink RX1 19 "MainframeDesk" "rowCounts" "[I", .arrayClass .long, .fieldLink RX1 23 "MainframeDesk" "rowSums" "[J", .fieldLink RX1 27 "MainframeDesk" "answers" "[J", .fieldLink RX1 30 "MainframeDesk" "failures" "[I", .fieldLink RX1 33 "MainframeDesk" "latestFailure" "I", .fieldLink RX1 36 "MainframeDesk" "latestFailedCall" "I", .fieldLink RX1 39 "MainframeDesk" "latestEndedThing" "I", .fieldLink RX1 42 "MainframeDesk" "failureCount" "I", .fieldLink RX1 45 "MainframeDesk" "refusalCount" "I", .fieldLink RX1 48 "MainframeDesk" "answerCount" "I"] ++ wsX10)
def wsX1_isWithin : List Cond := .code yX1_isWithin cX1_isWithin 2 (some .boolean) :: ([])
def wsX1_collect : List Cond := .code yX1_collect cX1_collect 4 (some .int) :: ([.fieldLink RX1 19 "MainframeDesk" "rowCounts" "[I", .fieldLink RX1 23 "MainframeDesk" "rowSums" "[J", .methodLink RX1 51 yX1_isWithin, .static yX1_isWithin, .initialized RX1, .code yX1_isWithin cX1_isWithin 2 (some .boolean)] ++ wsX10)
def wsX1_answer : List Cond := .code yX1_answer cX1_answer 4 (some .int) :: ([.fieldLink RX1 27 "MainframeDesk" "answers" "[J", .methodLink RX1 51 yX1_isWithin, .static yX1_isWithin, .initialized RX1, .code yX1_isWithin cX1_isWithin 2 (some .boolean)] ++ wsX10)
def wsX1_fails : List Cond := .code yX1_fails cX1_fails 4 (some .int) :: ([.fieldLink RX1 30 "MainframeDesk" "failures" "[I", .methodLink RX1 51 yX1_isWithin, .static yX1_isWithin, .initialized RX1, .code yX1_isWithin cX1_isWithin 2 (some .boolean)] ++ wsX10)
def wsX1_make : List Cond := .code yX1_make cX1_make 2 (some .int) :: ([.fieldLink RX1 15 "MainframeDesk" "made" "I", .fieldLink RX1 11 "MainframeDesk" "things" "[LMainframeDesk$Thing;", .classLink RX1 9 RX0, .instantiable RX0 3, .initialized RX0, .methodLink RX1 51 yX1_isWithin, .static yX1_isWithin, .initialized RX1, .code yX1_isWithin cX1_isWithin 2 (some .boolean), .instanceMethod yX0_init, .code yX0_init cX0_init 2 none, .methodLink RX0 1 objectInit, .instanceMethod objectInit, .code objectInit ⟨#[0xb1]⟩ 1 none, .fieldLink RX0 7 "MainframeDesk$Thing" "there" "Z", .fieldLink RX0 13 "MainframeDesk$Thing" "answered" "I", .fieldLink RX0 17 "MainframeDesk$Thing" "kind" "I"] ++ wsX10 ++ wsX00)
def wsX1_find : List Cond := .code yX1_find cX1_find 2 (some (.object "MainframeDesk$Thing")) :: ([.fieldLink RX1 15 "MainframeDesk" "made" "I", .fieldLink RX1 11 "MainframeDesk" "things" "[LMainframeDesk$Thing;"] ++ wsX10)
def wsX1_rowOf : List Cond := .code yX1_rowOf cX1_rowOf 1 (some .int) :: ([])
def wsX1_refusalOf : List Cond := .code yX1_refusalOf cX1_refusalOf 6 (some .int) :: ([.constantLong RX1 87 (1000000), .fieldLink RX1 19 "MainframeDesk" "rowCounts" "[I", .methodLink RX1 51 yX1_isWithin, .static yX1_isWithin, .initialized RX1, .code yX1_isWithin cX1_isWithin 2 (some .boolean), .methodLink RX1 89 yX1_rowOf, .static yX1_rowOf, .code yX1_rowOf cX1_rowOf 1 (some .int)] ++ wsX00 ++ wsX10)
def wsX1_hasRow : List Cond := .code yX1_hasRow cX1_hasRow 1 (some .boolean) :: ([])
def wsX1_outcomeOf : List Cond := .code yX1_outcomeOf cX1_outcomeOf 7 (some .long) :: ([.fieldLink RX1 30 "MainframeDesk" "failures" "[I", .fieldLink RX1 27 "MainframeDesk" "answers" "[J", .fieldLink RX1 23 "MainframeDesk" "rowSums" "[J", .methodLink RX1 93 yX1_hasRow, .static yX1_hasRow, .initialized RX1, .code yX1_hasRow cX1_hasRow 1 (some .boolean), .methodLink RX1 89 yX1_rowOf, .static yX1_rowOf, .code yX1_rowOf cX1_rowOf 1 (some .int)] ++ wsX10 ++ wsX00)
def wsX1_takeRow : List Cond := .code yX1_takeRow cX1_takeRow 2 none :: ([.fieldLink RX1 19 "MainframeDesk" "rowCounts" "[I", .fieldLink RX1 23 "MainframeDesk" "rowSums" "[J", .methodLink RX1 93 yX1_hasRow, .static yX1_hasRow, .initialized RX1, .code yX1_hasRow cX1_hasRow 1 (some .boolean), .methodLink RX1 89 yX1_rowOf, .static yX1_rowOf, .code yX1_rowOf cX1_rowOf 1 (some .int)] ++ wsX10)
def wsX1_tell : List Cond := .code yX1_tell cX1_tell 3 none :: ([.fieldLink RX1 30 "MainframeDesk" "failures" "[I", .fieldLink RX1 33 "MainframeDesk" "latestFailure" "I", .fieldLink RX1 36 "MainframeDesk" "latestFailedCall" "I", .fieldLink RX1 39 "MainframeDesk" "latestEndedThing" "I", .fieldLink RX1 42 "MainframeDesk" "failureCount" "I"] ++ wsX10)
def wsX1_call_r1 : List Cond := [Cond.fieldLink RX1 45 "MainframeDesk" "refusalCount" "I", Cond.fieldLink RX1 30 "MainframeDesk" "failures" "[I", Cond.fieldLink RX1 48 "MainframeDesk" "answerCount" "I", Cond.methodLink RX1 58 yX1_find, Cond.instanceMethod yX1_find, Cond.selects RX1 yX1_find yX1_find, Cond.initialized RX1, Cond.code yX1_find cX1_find 2 (some (.object "MainframeDesk$Thing")), Cond.fieldLink RX1 15 "MainframeDesk" "made" "I", Cond.fieldLink RX1 11 "MainframeDesk" "things" "[LMainframeDesk$Thing;", Cond.methodLink RX1 62 yX1_refusalOf, Cond.instanceMethod yX1_refusalOf, Cond.selects RX1 yX1_refusalOf yX1_refusalOf, Cond.code yX1_refusalOf cX1_refusalOf 6 (some .int), Cond.constantLong RX1 87 (1000000), Cond.fieldLink RX1 19 "MainframeDesk" "rowCounts" "[I", Cond.methodLink RX1 51 yX1_isWithin, Cond.static yX1_isWithin, Cond.code yX1_isWithin cX1_isWithin 2 (some .boolean), Cond.methodLink RX1 89 yX1_rowOf, Cond.static yX1_rowOf, Cond.code yX1_rowOf cX1_rowOf 1 (some .int), Cond.methodLink RX1 66 yX1_outcomeOf, Cond.instanceMethod yX1_outcomeOf]
def wsX1_call_r2 : List Cond := [Cond.selects RX1 yX1_outcomeOf yX1_outcomeOf, Cond.code yX1_outcomeOf cX1_outcomeOf 7 (some .long), Cond.fieldLink RX1 27 "MainframeDesk" "answers" "[J", Cond.fieldLink RX1 23 "MainframeDesk" "rowSums" "[J", Cond.methodLink RX1 93 yX1_hasRow, Cond.static yX1_hasRow, Cond.code yX1_hasRow cX1_hasRow 1 (some .boolean), Cond.methodLink RX1 70 yX1_takeRow, Cond.instanceMethod yX1_takeRow, Cond.selects RX1 yX1_takeRow yX1_takeRow, Cond.code yX1_takeRow cX1_takeRow 2 none, Cond.methodLink RX1 80 yX1_tell, Cond.instanceMethod yX1_tell, Cond.selects RX1 yX1_tell yX1_tell, Cond.code yX1_tell cX1_tell 3 none, Cond.fieldLink RX1 33 "MainframeDesk" "latestFailure" "I", Cond.fieldLink RX1 36 "MainframeDesk" "latestFailedCall" "I", Cond.fieldLink RX1 39 "MainframeDesk" "latestEndedThing" "I", Cond.fieldLink RX1 42 "MainframeDesk" "failureCount" "I"]
def wsX1_call : List Cond := .code yX1_call cX1_call 9 (some .long) :: ((wsX1_call_r1 ++ wsX1_call_r2) ++ wsX10 ++ wsX00)
def wsX1_told : List Cond := .code yX1_told cX1_told 2 (some .int) :: ([.fieldLink RX1 33 "MainframeDesk" "latestFailure" "I", .fieldLink RX1 36 "MainframeDesk" "latestFailedCall" "I", .fieldLink RX1 39 "MainframeDesk" "latestEndedThing" "I", .fieldLink RX1 42 "MainframeDesk" "failureCount" "I", .fieldLink RX1 45 "MainframeDesk" "refusalCount" "I", .fieldLink RX1 48 "MainframeDesk" "answerCount" "I"] ++ wsX10)
def wsX1_drop : List Cond := .code yX1_drop cX1_drop 3 (some .boolean) :: ([.methodLink RX1 58 yX1_find, .instanceMethod yX1_find, .selects RX1 yX1_find yX1_find, .initialized RX1, .code yX1_find cX1_find 2 (some (.object "MainframeDesk$Thing")), .fieldLink RX1 15 "MainframeDesk" "made" "I", .fieldLink RX1 11 "MainframeDesk" "things" "[LMainframeDesk$Thing;"] ++ wsX00 ++ wsX10)
def wsX1_numbers : List Cond := .code yX1_numbers cX1_numbers 5 (some .int) :: ([.fieldLink RX1 15 "MainframeDesk" "made" "I", .methodLink RX1 51 yX1_isWithin, .static yX1_isWithin, .initialized RX1, .code yX1_isWithin cX1_isWithin 2 (some .boolean), .methodLink RX1 58 yX1_find, .instanceMethod yX1_find, .selects RX1 yX1_find yX1_find, .code yX1_find cX1_find 2 (some (.object "MainframeDesk$Thing")), .fieldLink RX1 11 "MainframeDesk" "things" "[LMainframeDesk$Thing;"] ++ wsX10 ++ wsX00)
def wsX1_again_r1 : List Cond := [Cond.methodLink RX1 58 yX1_find, Cond.instanceMethod yX1_find, Cond.selects RX1 yX1_find yX1_find, Cond.initialized RX1, Cond.code yX1_find cX1_find 2 (some (.object "MainframeDesk$Thing")), Cond.fieldLink RX1 15 "MainframeDesk" "made" "I", Cond.fieldLink RX1 11 "MainframeDesk" "things" "[LMainframeDesk$Thing;", Cond.methodLink RX1 62 yX1_refusalOf, Cond.instanceMethod yX1_refusalOf, Cond.selects RX1 yX1_refusalOf yX1_refusalOf, Cond.code yX1_refusalOf cX1_refusalOf 6 (some .int), Cond.constantLong RX1 87 (1000000), Cond.fieldLink RX1 19 "MainframeDesk" "rowCounts" "[I", Cond.methodLink RX1 51 yX1_isWithin, Cond.static yX1_isWithin, Cond.code yX1_isWithin cX1_isWithin 2 (some .boolean), Cond.methodLink RX1 89 yX1_rowOf, Cond.static yX1_rowOf, Cond.code yX1_rowOf cX1_rowOf 1 (some .int), Cond.methodLink RX1 66 yX1_outcomeOf, Cond.instanceMethod yX1_outcomeOf, Cond.selects RX1 yX1_outcomeOf yX1_outcomeOf, Cond.code yX1_outcomeOf cX1_outcomeOf 7 (some .long), Cond.fieldLink RX1 30 "MainframeDesk" "failures" "[I"]
def wsX1_again_r2 : List Cond := [Cond.fieldLink RX1 27 "MainframeDesk" "answers" "[J", Cond.fieldLink RX1 23 "MainframeDesk" "rowSums" "[J", Cond.methodLink RX1 93 yX1_hasRow, Cond.static yX1_hasRow, Cond.code yX1_hasRow cX1_hasRow 1 (some .boolean)]
def wsX1_again : List Cond := .code yX1_again cX1_again 7 (some .long) :: ((wsX1_again_r1 ++ wsX1_again_r2) ++ wsX10 ++ wsX00)
def wsX2_init : List Cond := .code yX2_init cX2_init 1 none :: ([.methodLink RX2 1 objectInit, .instanceMethod objectInit, .code objectInit ⟨#[0xb1]⟩ 1 none, .arrayClass .long, .fieldLink RX2 7 "MainframeDeskModel" "sum" "[J", .arrayClass .int, .fieldLink RX2 13 "MainframeDeskModel" "many" "[I", .fieldLink RX2 17 "MainframeDeskModel" "answers" "[J", .fieldLink RX2 20 "MainframeDeskModel" "failures" "[I", .fieldLink RX2 23 "MainframeDeskModel" "kind" "[I", .arrayClass .boolean, .fieldLink RX2 26 "MainframeDeskModel" "there" "[Z", .fieldLink RX2 30 "MainframeDeskModel" "answered" "[J"] ++ wsX20)
def wsX2_below : List Cond := .code yX2_below cX2_below 2 (some .boolean) :: ([])
def wsX2_collect : List Cond := .code yX2_collect cX2_collect 4 (some .int) :: ([.fieldLink RX2 33 "MainframeDeskModel" "thrown" "I", .fieldLink RX2 13 "MainframeDeskModel" "many" "[I", .fieldLink RX2 7 "MainframeDeskModel" "sum" "[J", .methodLink RX2 37 yX2_below, .static yX2_below, .initialized RX2, .code yX2_below cX2_below 2 (some .boolean)] ++ wsX20)
def wsX2_answer : List Cond := .code yX2_answer cX2_answer 4 (some .int) :: ([.fieldLink RX2 33 "MainframeDeskModel" "thrown" "I", .fieldLink RX2 17 "MainframeDeskModel" "answers" "[J", .methodLink RX2 37 yX2_below, .static yX2_below, .initialized RX2, .code yX2_below cX2_below 2 (some .boolean)] ++ wsX20)
def wsX2_fails : List Cond := .code yX2_fails cX2_fails 4 (some .int) :: ([.fieldLink RX2 33 "MainframeDeskModel" "thrown" "I", .fieldLink RX2 20 "MainframeDeskModel" "failures" "[I", .methodLink RX2 37 yX2_below, .static yX2_below, .initialized RX2, .code yX2_below cX2_below 2 (some .boolean)] ++ wsX20)
def wsX2_make : List Cond := .code yX2_make cX2_make 2 (some .int) :: ([.fieldLink RX2 33 "MainframeDeskModel" "thrown" "I", .fieldLink RX2 41 "MainframeDeskModel" "made" "I", .fieldLink RX2 23 "MainframeDeskModel" "kind" "[I", .fieldLink RX2 26 "MainframeDeskModel" "there" "[Z", .fieldLink RX2 30 "MainframeDeskModel" "answered" "[J", .methodLink RX2 37 yX2_below, .static yX2_below, .initialized RX2, .code yX2_below cX2_below 2 (some .boolean)] ++ wsX20)
def wsX2_rowOf : List Cond := .code yX2_rowOf cX2_rowOf 1 (some .int) :: ([])
def wsX2_refusal : List Cond := .code yX2_refusal cX2_refusal 5 (some .int) :: ([.fieldLink RX2 41 "MainframeDeskModel" "made" "I", .fieldLink RX2 23 "MainframeDeskModel" "kind" "[I", .constantLong RX2 44 (1000000), .fieldLink RX2 26 "MainframeDeskModel" "there" "[Z", .fieldLink RX2 13 "MainframeDeskModel" "many" "[I", .methodLink RX2 37 yX2_below, .static yX2_below, .initialized RX2, .code yX2_below cX2_below 2 (some .boolean), .methodLink RX2 46 yX2_rowOf, .static yX2_rowOf, .code yX2_rowOf cX2_rowOf 1 (some .int)] ++ wsX20)
def wsX2_reckoned : List Cond := .code yX2_reckoned cX2_reckoned 7 (some .long) :: ([.fieldLink RX2 20 "MainframeDeskModel" "failures" "[I", .fieldLink RX2 54 "MainframeDeskModel" "way" "I", .fieldLink RX2 17 "MainframeDeskModel" "answers" "[J", .fieldLink RX2 7 "MainframeDeskModel" "sum" "[J", .fieldLink RX2 23 "MainframeDeskModel" "kind" "[I", .fieldLink RX2 30 "MainframeDeskModel" "answered" "[J", .methodLink RX2 50 yX2_refusal, .instanceMethod yX2_refusal, .selects RX2 yX2_refusal yX2_refusal, .initialized RX2, .code yX2_refusal cX2_refusal 5 (some .int), .fieldLink RX2 41 "MainframeDeskModel" "made" "I", .constantLong RX2 44 (1000000), .fieldLink RX2 26 "MainframeDeskModel" "there" "[Z", .fieldLink RX2 13 "MainframeDeskModel" "many" "[I", .methodLink RX2 37 yX2_below, .static yX2_below, .code yX2_below cX2_below 2 (some .boolean), .methodLink RX2 46 yX2_rowOf, .static yX2_rowOf, .code yX2_rowOf cX2_rowOf 1 (some .int)] ++ wsX20)
def wsX2_again_r1 : List Cond := [Cond.fieldLink RX2 33 "MainframeDeskModel" "thrown" "I", Cond.methodLink RX2 57 yX2_reckoned, Cond.instanceMethod yX2_reckoned, Cond.selects RX2 yX2_reckoned yX2_reckoned, Cond.initialized RX2, Cond.code yX2_reckoned cX2_reckoned 7 (some .long), Cond.fieldLink RX2 20 "MainframeDeskModel" "failures" "[I", Cond.fieldLink RX2 54 "MainframeDeskModel" "way" "I", Cond.fieldLink RX2 17 "MainframeDeskModel" "answers" "[J", Cond.fieldLink RX2 7 "MainframeDeskModel" "sum" "[J", Cond.fieldLink RX2 23 "MainframeDeskModel" "kind" "[I", Cond.fieldLink RX2 30 "MainframeDeskModel" "answered" "[J", Cond.methodLink RX2 50 yX2_refusal, Cond.instanceMethod yX2_refusal, Cond.selects RX2 yX2_refusal yX2_refusal, Cond.code yX2_refusal cX2_refusal 5 (some .int), Cond.fieldLink RX2 41 "MainframeDeskModel" "made" "I", Cond.constantLong RX2 44 (1000000), Cond.fieldLink RX2 26 "MainframeDeskModel" "there" "[Z", Cond.fieldLink RX2 13 "MainframeDeskModel" "many" "[I", Cond.methodLink RX2 37 yX2_below, Cond.static yX2_below, Cond.code yX2_below cX2_below 2 (some .boolean), Cond.methodLink RX2 46 yX2_rowOf]
def wsX2_again_r2 : List Cond := [Cond.static yX2_rowOf, Cond.code yX2_rowOf cX2_rowOf 1 (some .int)]
def wsX2_again : List Cond := .code yX2_again cX2_again 5 (some .long) :: ((wsX2_again_r1 ++ wsX2_again_r2) ++ wsX20)
def wsX2_call_r1 : List Cond := [Cond.fieldLink RX2 33 "MainframeDeskModel" "thrown" "I", Cond.fieldLink RX2 54 "MainframeDeskModel" "way" "I", Cond.fieldLink RX2 61 "MainframeDeskModel" "refused" "I", Cond.fieldLink RX2 7 "MainframeDeskModel" "sum" "[J", Cond.fieldLink RX2 13 "MainframeDeskModel" "many" "[I", Cond.fieldLink RX2 30 "MainframeDeskModel" "answered" "[J", Cond.fieldLink RX2 64 "MainframeDeskModel" "done" "I", Cond.fieldLink RX2 26 "MainframeDeskModel" "there" "[Z", Cond.fieldLink RX2 20 "MainframeDeskModel" "failures" "[I", Cond.fieldLink RX2 67 "MainframeDeskModel" "latest" "I", Cond.fieldLink RX2 70 "MainframeDeskModel" "latestCall" "I", Cond.fieldLink RX2 73 "MainframeDeskModel" "latestThing" "I", Cond.fieldLink RX2 76 "MainframeDeskModel" "failed" "I", Cond.methodLink RX2 57 yX2_reckoned, Cond.instanceMethod yX2_reckoned, Cond.selects RX2 yX2_reckoned yX2_reckoned, Cond.initialized RX2, Cond.code yX2_reckoned cX2_reckoned 7 (some .long), Cond.fieldLink RX2 17 "MainframeDeskModel" "answers" "[J", Cond.fieldLink RX2 23 "MainframeDeskModel" "kind" "[I", Cond.methodLink RX2 50 yX2_refusal, Cond.instanceMethod yX2_refusal, Cond.selects RX2 yX2_refusal yX2_refusal, Cond.code yX2_refusal cX2_refusal 5 (some .int)]
def wsX2_call_r2 : List Cond := [Cond.fieldLink RX2 41 "MainframeDeskModel" "made" "I", Cond.constantLong RX2 44 (1000000), Cond.methodLink RX2 37 yX2_below, Cond.static yX2_below, Cond.code yX2_below cX2_below 2 (some .boolean), Cond.methodLink RX2 46 yX2_rowOf, Cond.static yX2_rowOf, Cond.code yX2_rowOf cX2_rowOf 1 (some .int)]
def wsX2_call : List Cond := .code yX2_call cX2_call 8 (some .long) :: ((wsX2_call_r1 ++ wsX2_call_r2) ++ wsX20)
def wsX2_told : List Cond := .code yX2_told cX2_told 2 (some .int) :: ([.fieldLink RX2 33 "MainframeDeskModel" "thrown" "I", .fieldLink RX2 67 "MainframeDeskModel" "latest" "I", .fieldLink RX2 70 "MainframeDeskModel" "latestCall" "I", .fieldLink RX2 73 "MainframeDeskModel" "latestThing" "I", .fieldLink RX2 76 "MainframeDeskModel" "failed" "I", .fieldLink RX2 61 "MainframeDeskModel" "refused" "I", .fieldLink RX2 64 "MainframeDeskModel" "done" "I"] ++ wsX20)
def wsX2_drop : List Cond := .code yX2_drop cX2_drop 2 (some .boolean) :: ([.fieldLink RX2 33 "MainframeDeskModel" "thrown" "I", .fieldLink RX2 41 "MainframeDeskModel" "made" "I", .fieldLink RX2 26 "MainframeDeskModel" "there" "[Z"] ++ wsX20)
def wsL_law_r1 : List Cond := [Cond.classLink RL 7 RX1, Cond.instantiable RX1 12, Cond.initialized RX1, Cond.classLink RL 10 RX2, Cond.instantiable RX2 16, Cond.initialized RX2, Cond.methodLink RL 9 yX1_init, Cond.instanceMethod yX1_init, Cond.code yX1_init cX1_init 1 none, Cond.methodLink RX1 1 objectInit, Cond.instanceMethod objectInit, Cond.code objectInit ⟨#[0xb1]⟩ 1 none, Cond.classLink RX1 9 RX0, Cond.fieldLink RX1 11 "MainframeDesk" "things" "[LMainframeDesk$Thing;", Cond.fieldLink RX1 15 "MainframeDesk" "made" "I", Cond.arrayClass .int, Cond.fieldLink RX1 19 "MainframeDesk" "rowCounts" "[I", Cond.arrayClass .long, Cond.fieldLink RX1 23 "MainframeDesk" "rowSums" "[J", Cond.fieldLink RX1 27 "MainframeDesk" "answers" "[J", Cond.fieldLink RX1 30 "MainframeDesk" "failures" "[I", Cond.fieldLink RX1 33 "MainframeDesk" "latestFailure" "I", Cond.fieldLink RX1 36 "MainframeDesk" "latestFailedCall" "I", Cond.fieldLink RX1 39 "MainframeDesk" "latestEndedThing" "I"]
def wsL_law_r2 : List Cond := [Cond.fieldLink RX1 42 "MainframeDesk" "failureCount" "I", Cond.fieldLink RX1 45 "MainframeDesk" "refusalCount" "I", Cond.fieldLink RX1 48 "MainframeDesk" "answerCount" "I", Cond.methodLink RL 12 yX2_init, Cond.instanceMethod yX2_init, Cond.code yX2_init cX2_init 1 none, Cond.methodLink RX2 1 objectInit, Cond.fieldLink RX2 7 "MainframeDeskModel" "sum" "[J", Cond.fieldLink RX2 13 "MainframeDeskModel" "many" "[I", Cond.fieldLink RX2 17 "MainframeDeskModel" "answers" "[J", Cond.fieldLink RX2 20 "MainframeDeskModel" "failures" "[I", Cond.fieldLink RX2 23 "MainframeDeskModel" "kind" "[I", Cond.arrayClass .boolean, Cond.fieldLink RX2 26 "MainframeDeskModel" "there" "[Z", Cond.fieldLink RX2 30 "MainframeDeskModel" "answered" "[J", Cond.methodLink RL 15 yX1_collect, Cond.instanceMethod yX1_collect, Cond.selects RX1 yX1_collect yX1_collect, Cond.code yX1_collect cX1_collect 4 (some .int), Cond.methodLink RX1 51 yX1_isWithin, Cond.static yX1_isWithin, Cond.code yX1_isWithin cX1_isWithin 2 (some .boolean), Cond.methodLink RL 19 yX2_collect, Cond.instanceMethod yX2_collect]
def wsL_law_r3 : List Cond := [Cond.selects RX2 yX2_collect yX2_collect, Cond.code yX2_collect cX2_collect 4 (some .int), Cond.fieldLink RX2 33 "MainframeDeskModel" "thrown" "I", Cond.methodLink RX2 37 yX2_below, Cond.static yX2_below, Cond.code yX2_below cX2_below 2 (some .boolean), Cond.methodLink RL 20 yX1_answer, Cond.instanceMethod yX1_answer, Cond.selects RX1 yX1_answer yX1_answer, Cond.code yX1_answer cX1_answer 4 (some .int), Cond.methodLink RL 23 yX2_answer, Cond.instanceMethod yX2_answer, Cond.selects RX2 yX2_answer yX2_answer, Cond.code yX2_answer cX2_answer 4 (some .int), Cond.methodLink RL 24 yX1_fails, Cond.instanceMethod yX1_fails, Cond.selects RX1 yX1_fails yX1_fails, Cond.code yX1_fails cX1_fails 4 (some .int), Cond.methodLink RL 28 yX2_fails, Cond.instanceMethod yX2_fails, Cond.selects RX2 yX2_fails yX2_fails, Cond.code yX2_fails cX2_fails 4 (some .int), Cond.methodLink RL 29 yX1_make, Cond.instanceMethod yX1_make]
def wsL_law_r4 : List Cond := [Cond.selects RX1 yX1_make yX1_make, Cond.code yX1_make cX1_make 2 (some .int), Cond.instantiable RX0 3, Cond.initialized RX0, Cond.instanceMethod yX0_init, Cond.code yX0_init cX0_init 2 none, Cond.methodLink RX0 1 objectInit, Cond.fieldLink RX0 7 "MainframeDesk$Thing" "there" "Z", Cond.fieldLink RX0 13 "MainframeDesk$Thing" "answered" "I", Cond.fieldLink RX0 17 "MainframeDesk$Thing" "kind" "I", Cond.methodLink RL 33 yX2_make, Cond.instanceMethod yX2_make, Cond.selects RX2 yX2_make yX2_make, Cond.code yX2_make cX2_make 2 (some .int), Cond.fieldLink RX2 41 "MainframeDeskModel" "made" "I", Cond.methodLink RL 34 yX1_call, Cond.instanceMethod yX1_call, Cond.selects RX1 yX1_call yX1_call, Cond.code yX1_call cX1_call 9 (some .long), Cond.methodLink RX1 58 yX1_find, Cond.instanceMethod yX1_find, Cond.selects RX1 yX1_find yX1_find, Cond.code yX1_find cX1_find 2 (some (.object "MainframeDesk$Thing")), Cond.methodLink RX1 62 yX1_refusalOf]
def wsL_law_r5 : List Cond := [Cond.instanceMethod yX1_refusalOf, Cond.selects RX1 yX1_refusalOf yX1_refusalOf, Cond.code yX1_refusalOf cX1_refusalOf 6 (some .int), Cond.constantLong RX1 87 (1000000), Cond.methodLink RX1 89 yX1_rowOf, Cond.static yX1_rowOf, Cond.code yX1_rowOf cX1_rowOf 1 (some .int), Cond.methodLink RX1 66 yX1_outcomeOf, Cond.instanceMethod yX1_outcomeOf, Cond.selects RX1 yX1_outcomeOf yX1_outcomeOf, Cond.code yX1_outcomeOf cX1_outcomeOf 7 (some .long), Cond.methodLink RX1 93 yX1_hasRow, Cond.static yX1_hasRow, Cond.code yX1_hasRow cX1_hasRow 1 (some .boolean), Cond.methodLink RX1 70 yX1_takeRow, Cond.instanceMethod yX1_takeRow, Cond.selects RX1 yX1_takeRow yX1_takeRow, Cond.code yX1_takeRow cX1_takeRow 2 none, Cond.methodLink RX1 80 yX1_tell, Cond.instanceMethod yX1_tell, Cond.selects RX1 yX1_tell yX1_tell, Cond.code yX1_tell cX1_tell 3 none, Cond.methodLink RL 38 yX2_call, Cond.instanceMethod yX2_call]
def wsL_law_r6 : List Cond := [Cond.selects RX2 yX2_call yX2_call, Cond.code yX2_call cX2_call 8 (some .long), Cond.fieldLink RX2 54 "MainframeDeskModel" "way" "I", Cond.fieldLink RX2 61 "MainframeDeskModel" "refused" "I", Cond.fieldLink RX2 64 "MainframeDeskModel" "done" "I", Cond.fieldLink RX2 67 "MainframeDeskModel" "latest" "I", Cond.fieldLink RX2 70 "MainframeDeskModel" "latestCall" "I", Cond.fieldLink RX2 73 "MainframeDeskModel" "latestThing" "I", Cond.fieldLink RX2 76 "MainframeDeskModel" "failed" "I", Cond.methodLink RX2 57 yX2_reckoned, Cond.instanceMethod yX2_reckoned, Cond.selects RX2 yX2_reckoned yX2_reckoned, Cond.code yX2_reckoned cX2_reckoned 7 (some .long), Cond.methodLink RX2 50 yX2_refusal, Cond.instanceMethod yX2_refusal, Cond.selects RX2 yX2_refusal yX2_refusal, Cond.code yX2_refusal cX2_refusal 5 (some .int), Cond.constantLong RX2 44 (1000000), Cond.methodLink RX2 46 yX2_rowOf, Cond.static yX2_rowOf, Cond.code yX2_rowOf cX2_rowOf 1 (some .int), Cond.methodLink RL 39 yX1_told, Cond.instanceMethod yX1_told, Cond.selects RX1 yX1_told yX1_told]
def wsL_law_r7 : List Cond := [Cond.code yX1_told cX1_told 2 (some .int), Cond.methodLink RL 42 yX2_told, Cond.instanceMethod yX2_told, Cond.selects RX2 yX2_told yX2_told, Cond.code yX2_told cX2_told 2 (some .int), Cond.methodLink RL 43 yX1_drop, Cond.instanceMethod yX1_drop, Cond.selects RX1 yX1_drop yX1_drop, Cond.code yX1_drop cX1_drop 3 (some .boolean), Cond.methodLink RL 47 yX2_drop, Cond.instanceMethod yX2_drop, Cond.selects RX2 yX2_drop yX2_drop, Cond.code yX2_drop cX2_drop 2 (some .boolean), Cond.methodLink RL 48 yX1_numbers, Cond.instanceMethod yX1_numbers, Cond.selects RX1 yX1_numbers yX1_numbers, Cond.code yX1_numbers cX1_numbers 5 (some .int), Cond.methodLink RL 52 yX1_again, Cond.instanceMethod yX1_again, Cond.selects RX1 yX1_again yX1_again, Cond.code yX1_again cX1_again 7 (some .long), Cond.methodLink RL 55 yX2_again, Cond.instanceMethod yX2_again, Cond.selects RX2 yX2_again yX2_again]
def wsL_law_r8 : List Cond := [Cond.code yX2_again cX2_again 5 (some .long)]
def wsL_law : List Cond := (wsL_law_r1 ++ (wsL_law_r2 ++ (wsL_law_r3 ++ (wsL_law_r4 ++ (wsL_law_r5 ++ (wsL_law_r6 ++ (wsL_law_r7 ++ wsL_law_r8))))))) ++ wsX10 ++ wsX20 ++ wsX00 ++ ([] : List Cond)
set_option maxRecDepth 20000 in
theorem wsL_law_in : ∀ w ∈ wsL_law, w ∈ lw_tbl := fun w h => (goodIn_p wsL_law [15, 18, 148, 63, 66, 203, 206, 70, 210, 74, 214, 78, 82, 218, 100, 104, 108, 112, 116, 119, 123, 127, 238, 226, 230, 234, 131, 242, 135, 246, 139, 143, 222] (by decide +kernel) (by decide +kernel) w h).1
theorem inlX0 : ∀ w ∈ wsX00, w ∈ wsL_law := fun _ h => List.mem_append_left _ (List.mem_append_right _ h)
theorem inX0 : ∀ w ∈ wsX00, w ∈ lw_tbl := fun w h => wsL_law_in w (inlX0 w h)
theorem inlX1 : ∀ w ∈ wsX10, w ∈ wsL_law := fun _ h => List.mem_append_left _ (List.mem_append_left _ (List.mem_append_left _ (List.mem_append_right _ h)))
theorem inX1 : ∀ w ∈ wsX10, w ∈ lw_tbl := fun w h => wsL_law_in w (inlX1 w h)
theorem inlX2 : ∀ w ∈ wsX20, w ∈ wsL_law := fun _ h => List.mem_append_left _ (List.mem_append_left _ (List.mem_append_right _ h))
theorem inX2 : ∀ w ∈ wsX20, w ∈ lw_tbl := fun w h => wsL_law_in w (inlX2 w h)
abbrev cX2_numbers : ByteArray := prog_4_method_15_code
def yX2_numbers : MethodName := ⟨RX2, "numbers", "(I)I"⟩
def wsX2_numbers : List Cond := .code yX2_numbers cX2_numbers 4 (some .int) :: ([.fieldLink RX2 33 "MainframeDeskModel" "thrown" "I", .fieldLink RX2 41 "MainframeDeskModel" "made" "I", .fieldLink RX2 26 "MainframeDeskModel" "there" "[Z", .fieldLink RX2 23 "MainframeDeskModel" "kind" "[I", .methodLink RX2 37 yX2_below, .static yX2_below, .initialized RX2, .code yX2_below cX2_below 2 (some .boolean)] ++ wsX20)
abbrev vwCl : List vw_C := [(RX0, TX0, 3), (RX1, TX1, 12), (RX2, TX2, 16)]
end
section
theorem dX0_init_0 : decode cX0_init 0 = .ok (.aload_n 0, 1) := by decide +kernel
theorem dX0_init_1 : decode cX0_init 1 = .ok (.invokespecial 1, 3) := by decide +kernel
theorem dX0_init_4 : decode cX0_init 4 = .ok (.aload_n 0, 1) := by decide +kernel
theorem dX0_init_5 : decode cX0_init 5 = .ok (.iconst 1, 1) := by decide +kernel
theorem dX0_init_6 : decode cX0_init 6 = .ok (.putfield 7, 3) := by decide +kernel
theorem dX0_init_9 : decode cX0_init 9 = .ok (.aload_n 0, 1) := by decide +kernel
theorem dX0_init_10 : decode cX0_init 10 = .ok (.iconst 0, 1) := by decide +kernel
theorem dX0_init_11 : decode cX0_init 11 = .ok (.putfield 13, 3) := by decide +kernel
theorem dX0_init_14 : decode cX0_init 14 = .ok (.aload_n 0, 1) := by decide +kernel
theorem dX0_init_15 : decode cX0_init 15 = .ok (.iload_n 1, 1) := by decide +kernel
theorem dX0_init_16 : decode cX0_init 16 = .ok (.putfield 17, 3) := by decide +kernel
theorem dX0_init_19 : decode cX0_init 19 = .ok (.return_, 1) := by decide +kernel
theorem dX1_init_0 : decode cX1_init 0 = .ok (.aload_n 0, 1) := by decide +kernel
theorem dX1_init_1 : decode cX1_init 1 = .ok (.invokespecial 1, 3) := by decide +kernel
theorem dX1_init_4 : decode cX1_init 4 = .ok (.aload_n 0, 1) := by decide +kernel
theorem dX1_init_5 : decode cX1_init 5 = .ok (.sipush 200, 3) := by decide +kernel
theorem dX1_init_8 : decode cX1_init 8 = .ok (.anewarray 9, 3) := by decide +kernel
theorem dX1_init_11 : decode cX1_init 11 = .ok (.putfield 11, 3) := by decide +kernel
theorem dX1_init_14 : decode cX1_init 14 = .ok (.aload_n 0, 1) := by decide +kernel
theorem dX1_init_15 : decode cX1_init 15 = .ok (.iconst 0, 1) := by decide +kernel
theorem dX1_init_16 : decode cX1_init 16 = .ok (.putfield 15, 3) := by decide +kernel
theorem dX1_init_19 : decode cX1_init 19 = .ok (.aload_n 0, 1) := by decide +kernel
theorem dX1_init_20 : decode cX1_init 20 = .ok (.iconst 4, 1) := by decide +kernel
theorem dX1_init_21 : decode cX1_init 21 = .ok (.newarray .int, 2) := by decide +kernel
theorem dX1_init_23 : decode cX1_init 23 = .ok (.putfield 19, 3) := by decide +kernel
theorem dX1_init_26 : decode cX1_init 26 = .ok (.aload_n 0, 1) := by decide +kernel
theorem dX1_init_27 : decode cX1_init 27 = .ok (.iconst 4, 1) := by decide +kernel
theorem dX1_init_28 : decode cX1_init 28 = .ok (.newarray .long, 2) := by decide +kernel
theorem dX1_init_30 : decode cX1_init 30 = .ok (.putfield 23, 3) := by decide +kernel
theorem dX1_init_33 : decode cX1_init 33 = .ok (.aload_n 0, 1) := by decide +kernel
theorem dX1_init_34 : decode cX1_init 34 = .ok (.bipush 32, 2) := by decide +kernel
theorem dX1_init_36 : decode cX1_init 36 = .ok (.newarray .long, 2) := by decide +kernel
theorem dX1_init_38 : decode cX1_init 38 = .ok (.putfield 27, 3) := by decide +kernel
theorem dX1_init_41 : decode cX1_init 41 = .ok (.aload_n 0, 1) := by decide +kernel
theorem dX1_init_42 : decode cX1_init 42 = .ok (.bipush 32, 2) := by decide +kernel
theorem dX1_init_44 : decode cX1_init 44 = .ok (.newarray .int, 2) := by decide +kernel
theorem dX1_init_46 : decode cX1_init 46 = .ok (.putfield 30, 3) := by decide +kernel
theorem dX1_init_49 : decode cX1_init 49 = .ok (.aload_n 0, 1) := by decide +kernel
theorem dX1_init_50 : decode cX1_init 50 = .ok (.iconst 0, 1) := by decide +kernel
theorem dX1_init_51 : decode cX1_init 51 = .ok (.putfield 33, 3) := by decide +kernel
theorem dX1_init_54 : decode cX1_init 54 = .ok (.aload_n 0, 1) := by decide +kernel
theorem dX1_init_55 : decode cX1_init 55 = .ok (.iconst 0, 1) := by decide +kernel
theorem dX1_init_56 : decode cX1_init 56 = .ok (.putfield 36, 3) := by decide +kernel
theorem dX1_init_59 : decode cX1_init 59 = .ok (.aload_n 0, 1) := by decide +kernel
theorem dX1_init_60 : decode cX1_init 60 = .ok (.iconst 0, 1) := by decide +kernel
theorem dX1_init_61 : decode cX1_init 61 = .ok (.putfield 39, 3) := by decide +kernel
theorem dX1_init_64 : decode cX1_init 64 = .ok (.aload_n 0, 1) := by decide +kernel
theorem dX1_init_65 : decode cX1_init 65 = .ok (.iconst 0, 1) := by decide +kernel
theorem dX1_init_66 : decode cX1_init 66 = .ok (.putfield 42, 3) := by decide +kernel
theorem dX1_init_69 : decode cX1_init 69 = .ok (.aload_n 0, 1) := by decide +kernel
theorem dX1_init_70 : decode cX1_init 70 = .ok (.iconst 0, 1) := by decide +kernel
theorem dX1_init_71 : decode cX1_init 71 = .ok (.putfield 45, 3) := by decide +kernel
theorem dX1_init_74 : decode cX1_init 74 = .ok (.aload_n 0, 1) := by decide +kernel
theorem dX1_init_75 : decode cX1_init 75 = .ok (.iconst 0, 1) := by decide +kernel
theorem dX1_init_76 : decode cX1_init 76 = .ok (.putfield 48, 3) := by decide +kernel
theorem dX1_init_79 : decode cX1_init 79 = .ok (.return_, 1) := by decide +kernel
set_option maxRecDepth 20000 in
theorem ggX1_collect_X1_isWithin : GoodIn wsX1_collect wsX1_isWithin := goodIn_r _ [6] (by decide +kernel) (by decide +kernel)
set_option maxRecDepth 20000 in
theorem gX1_collect_X1_isWithin : GoodIn wsX1_collect (va_wsS RX1 51 yX1_isWithin wsX1_isWithin) := goodIn_app (goodIn_of _ (by decide +kernel)) ggX1_collect_X1_isWithin
theorem dX1_collect_0 : decode cX1_collect 0 = .ok (.iload_n 1, 1) := by decide +kernel
theorem dX1_collect_1 : decode cX1_collect 1 = .ok (.iconst 4, 1) := by decide +kernel
theorem dX1_collect_2 : decode cX1_collect 2 = .ok (.invokestatic 51, 3) := by decide +kernel
theorem dX1_collect_5 : decode cX1_collect 5 = .ok (.ifCond .eq 14, 3) := by decide +kernel
theorem dX1_collect_8 : decode cX1_collect 8 = .ok (.aload_n 0, 1) := by decide +kernel
theorem dX1_collect_9 : decode cX1_collect 9 = .ok (.getfield 19, 3) := by decide +kernel
theorem dX1_collect_12 : decode cX1_collect 12 = .ok (.iload_n 1, 1) := by decide +kernel
theorem dX1_collect_13 : decode cX1_collect 13 = .ok (.iaload, 1) := by decide +kernel
theorem dX1_collect_14 : decode cX1_collect 14 = .ok (.bipush 50, 2) := by decide +kernel
theorem dX1_collect_16 : decode cX1_collect 16 = .ok (.if_icmp .lt 5, 3) := by decide +kernel
theorem dX1_collect_19 : decode cX1_collect 19 = .ok (.iconst (-1), 1) := by decide +kernel
theorem dX1_collect_20 : decode cX1_collect 20 = .ok (.ireturn, 1) := by decide +kernel
theorem dX1_collect_21 : decode cX1_collect 21 = .ok (.aload_n 0, 1) := by decide +kernel
theorem dX1_collect_22 : decode cX1_collect 22 = .ok (.getfield 19, 3) := by decide +kernel
theorem dX1_collect_25 : decode cX1_collect 25 = .ok (.iload_n 1, 1) := by decide +kernel
theorem dX1_collect_26 : decode cX1_collect 26 = .ok (.dup2, 1) := by decide +kernel
theorem dX1_collect_27 : decode cX1_collect 27 = .ok (.iaload, 1) := by decide +kernel
theorem dX1_collect_28 : decode cX1_collect 28 = .ok (.iconst 1, 1) := by decide +kernel
theorem dX1_collect_29 : decode cX1_collect 29 = .ok (.iadd, 1) := by decide +kernel
theorem dX1_collect_30 : decode cX1_collect 30 = .ok (.iastore, 1) := by decide +kernel
theorem dX1_collect_31 : decode cX1_collect 31 = .ok (.aload_n 0, 1) := by decide +kernel
theorem dX1_collect_32 : decode cX1_collect 32 = .ok (.getfield 23, 3) := by decide +kernel
theorem dX1_collect_35 : decode cX1_collect 35 = .ok (.iload_n 1, 1) := by decide +kernel
theorem dX1_collect_36 : decode cX1_collect 36 = .ok (.dup2, 1) := by decide +kernel
theorem dX1_collect_37 : decode cX1_collect 37 = .ok (.laload, 1) := by decide +kernel
theorem dX1_collect_38 : decode cX1_collect 38 = .ok (.lload_n 2, 1) := by decide +kernel
theorem dX1_collect_39 : decode cX1_collect 39 = .ok (.ladd, 1) := by decide +kernel
theorem dX1_collect_40 : decode cX1_collect 40 = .ok (.lastore, 1) := by decide +kernel
theorem dX1_collect_41 : decode cX1_collect 41 = .ok (.aload_n 0, 1) := by decide +kernel
theorem dX1_collect_42 : decode cX1_collect 42 = .ok (.getfield 19, 3) := by decide +kernel
theorem dX1_collect_45 : decode cX1_collect 45 = .ok (.iload_n 1, 1) := by decide +kernel
theorem dX1_collect_46 : decode cX1_collect 46 = .ok (.iaload, 1) := by decide +kernel
theorem dX1_collect_47 : decode cX1_collect 47 = .ok (.ireturn, 1) := by decide +kernel
set_option maxRecDepth 20000 in
theorem ggX1_answer_X1_isWithin : GoodIn wsX1_answer wsX1_isWithin := goodIn_r _ [5] (by decide +kernel) (by decide +kernel)
set_option maxRecDepth 20000 in
theorem gX1_answer_X1_isWithin : GoodIn wsX1_answer (va_wsS RX1 51 yX1_isWithin wsX1_isWithin) := goodIn_app (goodIn_of _ (by decide +kernel)) ggX1_answer_X1_isWithin
theorem dX1_answer_0 : decode cX1_answer 0 = .ok (.iload_n 1, 1) := by decide +kernel
theorem dX1_answer_1 : decode cX1_answer 1 = .ok (.bipush 32, 2) := by decide +kernel
theorem dX1_answer_3 : decode cX1_answer 3 = .ok (.invokestatic 51, 3) := by decide +kernel
theorem dX1_answer_6 : decode cX1_answer 6 = .ok (.ifCond .ne 5, 3) := by decide +kernel
theorem dX1_answer_9 : decode cX1_answer 9 = .ok (.iconst (-1), 1) := by decide +kernel
theorem dX1_answer_10 : decode cX1_answer 10 = .ok (.ireturn, 1) := by decide +kernel
theorem dX1_answer_11 : decode cX1_answer 11 = .ok (.aload_n 0, 1) := by decide +kernel
theorem dX1_answer_12 : decode cX1_answer 12 = .ok (.getfield 27, 3) := by decide +kernel
theorem dX1_answer_15 : decode cX1_answer 15 = .ok (.iload_n 1, 1) := by decide +kernel
theorem dX1_answer_16 : decode cX1_answer 16 = .ok (.lload_n 2, 1) := by decide +kernel
theorem dX1_answer_17 : decode cX1_answer 17 = .ok (.lastore, 1) := by decide +kernel
theorem dX1_answer_18 : decode cX1_answer 18 = .ok (.iconst 1, 1) := by decide +kernel
theorem dX1_answer_19 : decode cX1_answer 19 = .ok (.ireturn, 1) := by decide +kernel
set_option maxRecDepth 20000 in
theorem ggX1_fails_X1_isWithin : GoodIn wsX1_fails wsX1_isWithin := goodIn_r _ [5] (by decide +kernel) (by decide +kernel)
set_option maxRecDepth 20000 in
theorem gX1_fails_X1_isWithin : GoodIn wsX1_fails (va_wsS RX1 51 yX1_isWithin wsX1_isWithin) := goodIn_app (goodIn_of _ (by decide +kernel)) ggX1_fails_X1_isWithin
theorem dX1_fails_0 : decode cX1_fails 0 = .ok (.iload_n 1, 1) := by decide +kernel
theorem dX1_fails_1 : decode cX1_fails 1 = .ok (.bipush 32, 2) := by decide +kernel
theorem dX1_fails_3 : decode cX1_fails 3 = .ok (.invokestatic 51, 3) := by decide +kernel
theorem dX1_fails_6 : decode cX1_fails 6 = .ok (.ifCond .eq 13, 3) := by decide +kernel
theorem dX1_fails_9 : decode cX1_fails 9 = .ok (.iload_n 2, 1) := by decide +kernel
theorem dX1_fails_10 : decode cX1_fails 10 = .ok (.ifCond .lt 9, 3) := by decide +kernel
theorem dX1_fails_13 : decode cX1_fails 13 = .ok (.iload_n 2, 1) := by decide +kernel
theorem dX1_fails_14 : decode cX1_fails 14 = .ok (.bipush 6, 2) := by decide +kernel
theorem dX1_fails_16 : decode cX1_fails 16 = .ok (.if_icmp .le 5, 3) := by decide +kernel
theorem dX1_fails_19 : decode cX1_fails 19 = .ok (.iconst (-1), 1) := by decide +kernel
theorem dX1_fails_20 : decode cX1_fails 20 = .ok (.ireturn, 1) := by decide +kernel
theorem dX1_fails_21 : decode cX1_fails 21 = .ok (.aload_n 0, 1) := by decide +kernel
theorem dX1_fails_22 : decode cX1_fails 22 = .ok (.getfield 30, 3) := by decide +kernel
theorem dX1_fails_25 : decode cX1_fails 25 = .ok (.iload_n 1, 1) := by decide +kernel
theorem dX1_fails_26 : decode cX1_fails 26 = .ok (.iaload, 1) := by decide +kernel
theorem dX1_fails_27 : decode cX1_fails 27 = .ok (.istore_n 3, 1) := by decide +kernel
theorem dX1_fails_28 : decode cX1_fails 28 = .ok (.aload_n 0, 1) := by decide +kernel
theorem dX1_fails_29 : decode cX1_fails 29 = .ok (.getfield 30, 3) := by decide +kernel
theorem dX1_fails_32 : decode cX1_fails 32 = .ok (.iload_n 1, 1) := by decide +kernel
theorem dX1_fails_33 : decode cX1_fails 33 = .ok (.iload_n 2, 1) := by decide +kernel
theorem dX1_fails_34 : decode cX1_fails 34 = .ok (.iastore, 1) := by decide +kernel
theorem dX1_fails_35 : decode cX1_fails 35 = .ok (.iload_n 3, 1) := by decide +kernel
theorem dX1_fails_36 : decode cX1_fails 36 = .ok (.ireturn, 1) := by decide +kernel
set_option maxRecDepth 20000 in
theorem ggX1_make_X1_isWithin : GoodIn wsX1_make wsX1_isWithin := goodIn_r _ [9] (by decide +kernel) (by decide +kernel)
set_option maxRecDepth 20000 in
theorem gX1_make_X1_isWithin : GoodIn wsX1_make (va_wsS RX1 51 yX1_isWithin wsX1_isWithin) := goodIn_app (goodIn_of _ (by decide +kernel)) ggX1_make_X1_isWithin
set_option maxRecDepth 20000 in
theorem ggX1_make_X0_init : GoodIn wsX1_make wsX0_init := goodIn_r _ [11, 12, 13, 14, 15, 16, 17, 30, 31, 32] (by decide +kernel) (by decide +kernel)
set_option maxRecDepth 20000 in
theorem gX1_make_X0_init_n55 : GoodIn wsX1_make (wsX0_init) := ggX1_make_X0_init
theorem dX1_make_0 : decode cX1_make 0 = .ok (.iload_n 1, 1) := by decide +kernel
theorem dX1_make_1 : decode cX1_make 1 = .ok (.bipush 8, 2) := by decide +kernel
theorem dX1_make_3 : decode cX1_make 3 = .ok (.invokestatic 51, 3) := by decide +kernel
theorem dX1_make_6 : decode cX1_make 6 = .ok (.ifCond .eq 13, 3) := by decide +kernel
theorem dX1_make_9 : decode cX1_make 9 = .ok (.aload_n 0, 1) := by decide +kernel
theorem dX1_make_10 : decode cX1_make 10 = .ok (.getfield 15, 3) := by decide +kernel
theorem dX1_make_13 : decode cX1_make 13 = .ok (.sipush 200, 3) := by decide +kernel
theorem dX1_make_16 : decode cX1_make 16 = .ok (.if_icmp .lt 5, 3) := by decide +kernel
theorem dX1_make_19 : decode cX1_make 19 = .ok (.iconst (-1), 1) := by decide +kernel
theorem dX1_make_20 : decode cX1_make 20 = .ok (.ireturn, 1) := by decide +kernel
theorem dX1_make_21 : decode cX1_make 21 = .ok (.aload_n 0, 1) := by decide +kernel
theorem dX1_make_22 : decode cX1_make 22 = .ok (.getfield 11, 3) := by decide +kernel
theorem dX1_make_25 : decode cX1_make 25 = .ok (.aload_n 0, 1) := by decide +kernel
theorem dX1_make_26 : decode cX1_make 26 = .ok (.getfield 15, 3) := by decide +kernel
theorem dX1_make_29 : decode cX1_make 29 = .ok (.new 9, 3) := by decide +kernel
theorem dX1_make_32 : decode cX1_make 32 = .ok (.dup, 1) := by decide +kernel
theorem dX1_make_33 : decode cX1_make 33 = .ok (.iload_n 1, 1) := by decide +kernel
theorem dX1_make_34 : decode cX1_make 34 = .ok (.invokespecial 55, 3) := by decide +kernel
theorem dX1_make_37 : decode cX1_make 37 = .ok (.aastore, 1) := by decide +kernel
theorem dX1_make_38 : decode cX1_make 38 = .ok (.aload_n 0, 1) := by decide +kernel
theorem dX1_make_39 : decode cX1_make 39 = .ok (.dup, 1) := by decide +kernel
theorem dX1_make_40 : decode cX1_make 40 = .ok (.getfield 15, 3) := by decide +kernel
theorem dX1_make_43 : decode cX1_make 43 = .ok (.iconst 1, 1) := by decide +kernel
theorem dX1_make_44 : decode cX1_make 44 = .ok (.iadd, 1) := by decide +kernel
theorem dX1_make_45 : decode cX1_make 45 = .ok (.putfield 15, 3) := by decide +kernel
theorem dX1_make_48 : decode cX1_make 48 = .ok (.aload_n 0, 1) := by decide +kernel
theorem dX1_make_49 : decode cX1_make 49 = .ok (.getfield 15, 3) := by decide +kernel
theorem dX1_make_52 : decode cX1_make 52 = .ok (.ireturn, 1) := by decide +kernel
set_option maxRecDepth 20000 in
theorem ggX1_call_X1_find : GoodIn wsX1_call wsX1_find := goodIn_r _ [8, 9, 10, 44, 45, 46, 47, 48, 49, 50, 51, 52, 53, 54, 55] (by decide +kernel) (by decide +kernel)
set_option maxRecDepth 20000 in
theorem gX1_call_X1_find : GoodIn wsX1_call (wsV RX1 58 RX1 yX1_find wsX1_find) := goodIn_app (goodIn_of _ (by decide +kernel)) ggX1_call_X1_find
set_option maxRecDepth 20000 in
theorem ggX1_call_X1_refusalOf : GoodIn wsX1_call wsX1_refusalOf := goodIn_r _ [14, 15, 16, 17, 18, 7, 19, 20, 21, 22, 56, 57, 58, 44, 45, 46, 47, 48, 49, 50, 51, 52, 53, 54, 55] (by decide +kernel) (by decide +kernel)
set_option maxRecDepth 20000 in
theorem gX1_call_X1_refusalOf : GoodIn wsX1_call (wsV RX1 62 RX1 yX1_refusalOf wsX1_refusalOf) := goodIn_app (goodIn_of _ (by decide +kernel)) ggX1_call_X1_refusalOf
set_option maxRecDepth 20000 in
theorem ggX1_call_X1_outcomeOf : GoodIn wsX1_call wsX1_outcomeOf := goodIn_r _ [26, 2, 27, 28, 29, 30, 7, 31, 20, 21, 22, 44, 45, 46, 47, 48, 49, 50, 51, 52, 53, 54, 55, 56, 57, 58] (by decide +kernel) (by decide +kernel)
set_option maxRecDepth 20000 in
theorem gX1_call_X1_outcomeOf : GoodIn wsX1_call (wsV RX1 66 RX1 yX1_outcomeOf wsX1_outcomeOf) := goodIn_app (goodIn_of _ (by decide +kernel)) ggX1_call_X1_outcomeOf
set_option maxRecDepth 20000 in
theorem ggX1_call_X1_takeRow : GoodIn wsX1_call wsX1_takeRow := goodIn_r _ [35, 16, 28, 29, 30, 7, 31, 20, 21, 22, 44, 45, 46, 47, 48, 49, 50, 51, 52, 53, 54, 55] (by decide +kernel) (by decide +kernel)
set_option maxRecDepth 20000 in
theorem gX1_call_X1_takeRow : GoodIn wsX1_call (wsV RX1 70 RX1 yX1_takeRow wsX1_takeRow) := goodIn_app (goodIn_of _ (by decide +kernel)) ggX1_call_X1_takeRow
set_option maxRecDepth 20000 in
theorem ggX1_call_X1_tell : GoodIn wsX1_call wsX1_tell := goodIn_r _ [39, 2, 40, 41, 42, 43, 44, 45, 46, 47, 48, 49, 50, 51, 52, 53, 54, 55] (by decide +kernel) (by decide +kernel)
set_option maxRecDepth 20000 in
theorem gX1_call_X1_tell : GoodIn wsX1_call (wsV RX1 80 RX1 yX1_tell wsX1_tell) := goodIn_app (goodIn_of _ (by decide +kernel)) ggX1_call_X1_tell
theorem dX1_call_0 : decode cX1_call 0 = .ok (.aload_n 0, 1) := by decide +kernel
theorem dX1_call_1 : decode cX1_call 1 = .ok (.iload_n 2, 1) := by decide +kernel
theorem dX1_call_2 : decode cX1_call 2 = .ok (.invokevirtual 58, 3) := by decide +kernel
theorem dX1_call_5 : decode cX1_call 5 = .ok (.astore 5, 2) := by decide +kernel
theorem dX1_call_7 : decode cX1_call 7 = .ok (.aload_n 0, 1) := by decide +kernel
theorem dX1_call_8 : decode cX1_call 8 = .ok (.iload_n 1, 1) := by decide +kernel
theorem dX1_call_9 : decode cX1_call 9 = .ok (.aload 5, 2) := by decide +kernel
theorem dX1_call_11 : decode cX1_call 11 = .ok (.lload_n 3, 1) := by decide +kernel
theorem dX1_call_12 : decode cX1_call 12 = .ok (.invokevirtual 62, 3) := by decide +kernel
theorem dX1_call_15 : decode cX1_call 15 = .ok (.istore 6, 2) := by decide +kernel
theorem dX1_call_17 : decode cX1_call 17 = .ok (.iload 6, 2) := by decide +kernel
theorem dX1_call_19 : decode cX1_call 19 = .ok (.ifCond .eq 17, 3) := by decide +kernel
theorem dX1_call_22 : decode cX1_call 22 = .ok (.aload_n 0, 1) := by decide +kernel
theorem dX1_call_23 : decode cX1_call 23 = .ok (.dup, 1) := by decide +kernel
theorem dX1_call_24 : decode cX1_call 24 = .ok (.getfield 45, 3) := by decide +kernel
theorem dX1_call_27 : decode cX1_call 27 = .ok (.iconst 1, 1) := by decide +kernel
theorem dX1_call_28 : decode cX1_call 28 = .ok (.iadd, 1) := by decide +kernel
theorem dX1_call_29 : decode cX1_call 29 = .ok (.putfield 45, 3) := by decide +kernel
theorem dX1_call_32 : decode cX1_call 32 = .ok (.iload 6, 2) := by decide +kernel
theorem dX1_call_34 : decode cX1_call 34 = .ok (.i2l, 1) := by decide +kernel
theorem dX1_call_35 : decode cX1_call 35 = .ok (.lreturn, 1) := by decide +kernel
theorem dX1_call_36 : decode cX1_call 36 = .ok (.aload_n 0, 1) := by decide +kernel
theorem dX1_call_37 : decode cX1_call 37 = .ok (.iload_n 1, 1) := by decide +kernel
theorem dX1_call_38 : decode cX1_call 38 = .ok (.aload 5, 2) := by decide +kernel
theorem dX1_call_40 : decode cX1_call 40 = .ok (.lload_n 3, 1) := by decide +kernel
theorem dX1_call_41 : decode cX1_call 41 = .ok (.invokevirtual 66, 3) := by decide +kernel
theorem dX1_call_44 : decode cX1_call 44 = .ok (.lstore 7, 2) := by decide +kernel
theorem dX1_call_46 : decode cX1_call 46 = .ok (.aload_n 0, 1) := by decide +kernel
theorem dX1_call_47 : decode cX1_call 47 = .ok (.iload_n 1, 1) := by decide +kernel
theorem dX1_call_48 : decode cX1_call 48 = .ok (.invokevirtual 70, 3) := by decide +kernel
theorem dX1_call_51 : decode cX1_call 51 = .ok (.aload_n 0, 1) := by decide +kernel
theorem dX1_call_52 : decode cX1_call 52 = .ok (.getfield 30, 3) := by decide +kernel
theorem dX1_call_55 : decode cX1_call 55 = .ok (.iload_n 1, 1) := by decide +kernel
theorem dX1_call_56 : decode cX1_call 56 = .ok (.iaload, 1) := by decide +kernel
theorem dX1_call_57 : decode cX1_call 57 = .ok (.ifCond .ne 27, 3) := by decide +kernel
theorem dX1_call_60 : decode cX1_call 60 = .ok (.aload 5, 2) := by decide +kernel
theorem dX1_call_62 : decode cX1_call 62 = .ok (.dup, 1) := by decide +kernel
theorem dX1_call_63 : decode cX1_call 63 = .ok (.getfield 73, 3) := by decide +kernel
theorem dX1_call_66 : decode cX1_call 66 = .ok (.iconst 1, 1) := by decide +kernel
theorem dX1_call_67 : decode cX1_call 67 = .ok (.iadd, 1) := by decide +kernel
theorem dX1_call_68 : decode cX1_call 68 = .ok (.putfield 73, 3) := by decide +kernel
theorem dX1_call_71 : decode cX1_call 71 = .ok (.aload_n 0, 1) := by decide +kernel
theorem dX1_call_72 : decode cX1_call 72 = .ok (.dup, 1) := by decide +kernel
theorem dX1_call_73 : decode cX1_call 73 = .ok (.getfield 48, 3) := by decide +kernel
theorem dX1_call_76 : decode cX1_call 76 = .ok (.iconst 1, 1) := by decide +kernel
theorem dX1_call_77 : decode cX1_call 77 = .ok (.iadd, 1) := by decide +kernel
theorem dX1_call_78 : decode cX1_call 78 = .ok (.putfield 48, 3) := by decide +kernel
theorem dX1_call_81 : decode cX1_call 81 = .ok (.goto 15, 3) := by decide +kernel
theorem dX1_call_84 : decode cX1_call 84 = .ok (.aload 5, 2) := by decide +kernel
theorem dX1_call_86 : decode cX1_call 86 = .ok (.iconst 0, 1) := by decide +kernel
theorem dX1_call_87 : decode cX1_call 87 = .ok (.putfield 76, 3) := by decide +kernel
theorem dX1_call_90 : decode cX1_call 90 = .ok (.aload_n 0, 1) := by decide +kernel
theorem dX1_call_91 : decode cX1_call 91 = .ok (.iload_n 1, 1) := by decide +kernel
theorem dX1_call_92 : decode cX1_call 92 = .ok (.iload_n 2, 1) := by decide +kernel
theorem dX1_call_93 : decode cX1_call 93 = .ok (.invokevirtual 80, 3) := by decide +kernel
theorem dX1_call_96 : decode cX1_call 96 = .ok (.lload 7, 2) := by decide +kernel
theorem dX1_call_98 : decode cX1_call 98 = .ok (.lreturn, 1) := by decide +kernel
theorem dX1_told_0 : decode cX1_told 0 = .ok (.iload_n 1, 1) := by decide +kernel
theorem dX1_told_1 : decode cX1_told 1 = .ok (.tableswitch 69 0 5 #[39, 44, 49, 54, 59, 64], 39) := by decide +kernel
theorem dX1_told_40 : decode cX1_told 40 = .ok (.aload_n 0, 1) := by decide +kernel
theorem dX1_told_41 : decode cX1_told 41 = .ok (.getfield 33, 3) := by decide +kernel
theorem dX1_told_44 : decode cX1_told 44 = .ok (.ireturn, 1) := by decide +kernel
theorem dX1_told_45 : decode cX1_told 45 = .ok (.aload_n 0, 1) := by decide +kernel
theorem dX1_told_46 : decode cX1_told 46 = .ok (.getfield 36, 3) := by decide +kernel
theorem dX1_told_49 : decode cX1_told 49 = .ok (.ireturn, 1) := by decide +kernel
theorem dX1_told_50 : decode cX1_told 50 = .ok (.aload_n 0, 1) := by decide +kernel
theorem dX1_told_51 : decode cX1_told 51 = .ok (.getfield 39, 3) := by decide +kernel
theorem dX1_told_54 : decode cX1_told 54 = .ok (.ireturn, 1) := by decide +kernel
theorem dX1_told_55 : decode cX1_told 55 = .ok (.aload_n 0, 1) := by decide +kernel
theorem dX1_told_56 : decode cX1_told 56 = .ok (.getfield 42, 3) := by decide +kernel
theorem dX1_told_59 : decode cX1_told 59 = .ok (.ireturn, 1) := by decide +kernel
theorem dX1_told_60 : decode cX1_told 60 = .ok (.aload_n 0, 1) := by decide +kernel
theorem dX1_told_61 : decode cX1_told 61 = .ok (.getfield 45, 3) := by decide +kernel
theorem dX1_told_64 : decode cX1_told 64 = .ok (.ireturn, 1) := by decide +kernel
theorem dX1_told_65 : decode cX1_told 65 = .ok (.aload_n 0, 1) := by decide +kernel
theorem dX1_told_66 : decode cX1_told 66 = .ok (.getfield 48, 3) := by decide +kernel
theorem dX1_told_69 : decode cX1_told 69 = .ok (.ireturn, 1) := by decide +kernel
theorem dX1_told_70 : decode cX1_told 70 = .ok (.iconst (-1), 1) := by decide +kernel
theorem dX1_told_71 : decode cX1_told 71 = .ok (.ireturn, 1) := by decide +kernel
set_option maxRecDepth 20000 in
theorem ggX1_drop_X1_find : GoodIn wsX1_drop wsX1_find := goodIn_r _ [5, 6, 7, 11, 12, 13, 14, 15, 16, 17, 18, 19, 20, 21, 22] (by decide +kernel) (by decide +kernel)
set_option maxRecDepth 20000 in
theorem gX1_drop_X1_find : GoodIn wsX1_drop (wsV RX1 58 RX1 yX1_find wsX1_find) := goodIn_app (goodIn_of _ (by decide +kernel)) ggX1_drop_X1_find
theorem dX1_drop_0 : decode cX1_drop 0 = .ok (.aload_n 0, 1) := by decide +kernel
theorem dX1_drop_1 : decode cX1_drop 1 = .ok (.iload_n 1, 1) := by decide +kernel
theorem dX1_drop_2 : decode cX1_drop 2 = .ok (.invokevirtual 58, 3) := by decide +kernel
theorem dX1_drop_5 : decode cX1_drop 5 = .ok (.astore_n 2, 1) := by decide +kernel
theorem dX1_drop_6 : decode cX1_drop 6 = .ok (.aload_n 2, 1) := by decide +kernel
theorem dX1_drop_7 : decode cX1_drop 7 = .ok (.ifnull 10, 3) := by decide +kernel
theorem dX1_drop_10 : decode cX1_drop 10 = .ok (.aload_n 2, 1) := by decide +kernel
theorem dX1_drop_11 : decode cX1_drop 11 = .ok (.getfield 76, 3) := by decide +kernel
theorem dX1_drop_14 : decode cX1_drop 14 = .ok (.ifCond .ne 5, 3) := by decide +kernel
theorem dX1_drop_17 : decode cX1_drop 17 = .ok (.iconst 0, 1) := by decide +kernel
theorem dX1_drop_18 : decode cX1_drop 18 = .ok (.ireturn, 1) := by decide +kernel
theorem dX1_drop_19 : decode cX1_drop 19 = .ok (.aload_n 2, 1) := by decide +kernel
theorem dX1_drop_20 : decode cX1_drop 20 = .ok (.iconst 0, 1) := by decide +kernel
theorem dX1_drop_21 : decode cX1_drop 21 = .ok (.putfield 76, 3) := by decide +kernel
theorem dX1_drop_24 : decode cX1_drop 24 = .ok (.iconst 1, 1) := by decide +kernel
theorem dX1_drop_25 : decode cX1_drop 25 = .ok (.ireturn, 1) := by decide +kernel
set_option maxRecDepth 20000 in
theorem ggX1_numbers_X1_isWithin : GoodIn wsX1_numbers wsX1_isWithin := goodIn_r _ [5] (by decide +kernel) (by decide +kernel)
set_option maxRecDepth 20000 in
theorem gX1_numbers_X1_isWithin : GoodIn wsX1_numbers (va_wsS RX1 51 yX1_isWithin wsX1_isWithin) := goodIn_app (goodIn_of _ (by decide +kernel)) ggX1_numbers_X1_isWithin
set_option maxRecDepth 20000 in
theorem ggX1_numbers_X1_find : GoodIn wsX1_numbers wsX1_find := goodIn_r _ [9, 1, 10, 11, 12, 13, 14, 15, 16, 17, 18, 19, 20, 21, 22] (by decide +kernel) (by decide +kernel)
set_option maxRecDepth 20000 in
theorem gX1_numbers_X1_find : GoodIn wsX1_numbers (wsV RX1 58 RX1 yX1_find wsX1_find) := goodIn_app (goodIn_of _ (by decide +kernel)) ggX1_numbers_X1_find
theorem dX1_numbers_0 : decode cX1_numbers 0 = .ok (.iload_n 1, 1) := by decide +kernel
theorem dX1_numbers_1 : decode cX1_numbers 1 = .ok (.bipush 8, 2) := by decide +kernel
theorem dX1_numbers_3 : decode cX1_numbers 3 = .ok (.invokestatic 51, 3) := by decide +kernel
theorem dX1_numbers_6 : decode cX1_numbers 6 = .ok (.ifCond .ne 5, 3) := by decide +kernel
theorem dX1_numbers_9 : decode cX1_numbers 9 = .ok (.iconst (-1), 1) := by decide +kernel
theorem dX1_numbers_10 : decode cX1_numbers 10 = .ok (.ireturn, 1) := by decide +kernel
theorem dX1_numbers_11 : decode cX1_numbers 11 = .ok (.iconst 0, 1) := by decide +kernel
theorem dX1_numbers_12 : decode cX1_numbers 12 = .ok (.istore_n 2, 1) := by decide +kernel
theorem dX1_numbers_13 : decode cX1_numbers 13 = .ok (.iconst 1, 1) := by decide +kernel
theorem dX1_numbers_14 : decode cX1_numbers 14 = .ok (.istore_n 3, 1) := by decide +kernel
theorem dX1_numbers_15 : decode cX1_numbers 15 = .ok (.iload_n 3, 1) := by decide +kernel
theorem dX1_numbers_16 : decode cX1_numbers 16 = .ok (.aload_n 0, 1) := by decide +kernel
theorem dX1_numbers_17 : decode cX1_numbers 17 = .ok (.getfield 15, 3) := by decide +kernel
theorem dX1_numbers_20 : decode cX1_numbers 20 = .ok (.if_icmp .gt 41, 3) := by decide +kernel
theorem dX1_numbers_23 : decode cX1_numbers 23 = .ok (.aload_n 0, 1) := by decide +kernel
theorem dX1_numbers_24 : decode cX1_numbers 24 = .ok (.iload_n 3, 1) := by decide +kernel
theorem dX1_numbers_25 : decode cX1_numbers 25 = .ok (.invokevirtual 58, 3) := by decide +kernel
theorem dX1_numbers_28 : decode cX1_numbers 28 = .ok (.astore 4, 2) := by decide +kernel
theorem dX1_numbers_30 : decode cX1_numbers 30 = .ok (.aload 4, 2) := by decide +kernel
theorem dX1_numbers_32 : decode cX1_numbers 32 = .ok (.ifnull 23, 3) := by decide +kernel
theorem dX1_numbers_35 : decode cX1_numbers 35 = .ok (.aload 4, 2) := by decide +kernel
theorem dX1_numbers_37 : decode cX1_numbers 37 = .ok (.getfield 76, 3) := by decide +kernel
theorem dX1_numbers_40 : decode cX1_numbers 40 = .ok (.ifCond .eq 15, 3) := by decide +kernel
theorem dX1_numbers_43 : decode cX1_numbers 43 = .ok (.aload 4, 2) := by decide +kernel
theorem dX1_numbers_45 : decode cX1_numbers 45 = .ok (.getfield 84, 3) := by decide +kernel
theorem dX1_numbers_48 : decode cX1_numbers 48 = .ok (.iload_n 1, 1) := by decide +kernel
theorem dX1_numbers_49 : decode cX1_numbers 49 = .ok (.if_icmp .ne 6, 3) := by decide +kernel
theorem dX1_numbers_52 : decode cX1_numbers 52 = .ok (.iinc 2 1, 3) := by decide +kernel
theorem dX1_numbers_55 : decode cX1_numbers 55 = .ok (.iinc 3 1, 3) := by decide +kernel
theorem dX1_numbers_58 : decode cX1_numbers 58 = .ok (.goto (-43), 3) := by decide +kernel
theorem dX1_numbers_61 : decode cX1_numbers 61 = .ok (.iload_n 2, 1) := by decide +kernel
theorem dX1_numbers_62 : decode cX1_numbers 62 = .ok (.ireturn, 1) := by decide +kernel
set_option maxRecDepth 20000 in
theorem ggX1_again_X1_find : GoodIn wsX1_again wsX1_find := goodIn_r _ [5, 6, 7, 30, 31, 32, 33, 34, 35, 36, 37, 38, 39, 40, 41] (by decide +kernel) (by decide +kernel)
set_option maxRecDepth 20000 in
theorem gX1_again_X1_find : GoodIn wsX1_again (wsV RX1 58 RX1 yX1_find wsX1_find) := goodIn_app (goodIn_of _ (by decide +kernel)) ggX1_again_X1_find
set_option maxRecDepth 20000 in
theorem ggX1_again_X1_refusalOf : GoodIn wsX1_again wsX1_refusalOf := goodIn_r _ [11, 12, 13, 14, 15, 4, 16, 17, 18, 19, 42, 43, 44, 30, 31, 32, 33, 34, 35, 36, 37, 38, 39, 40, 41] (by decide +kernel) (by decide +kernel)
set_option maxRecDepth 20000 in
theorem gX1_again_X1_refusalOf : GoodIn wsX1_again (wsV RX1 62 RX1 yX1_refusalOf wsX1_refusalOf) := goodIn_app (goodIn_of _ (by decide +kernel)) ggX1_again_X1_refusalOf
set_option maxRecDepth 20000 in
theorem ggX1_again_X1_outcomeOf : GoodIn wsX1_again wsX1_outcomeOf := goodIn_r _ [23, 24, 25, 26, 27, 28, 4, 29, 17, 18, 19, 30, 31, 32, 33, 34, 35, 36, 37, 38, 39, 40, 41, 42, 43, 44] (by decide +kernel) (by decide +kernel)
set_option maxRecDepth 20000 in
theorem gX1_again_X1_outcomeOf : GoodIn wsX1_again (wsV RX1 66 RX1 yX1_outcomeOf wsX1_outcomeOf) := goodIn_app (goodIn_of _ (by decide +kernel)) ggX1_again_X1_outcomeOf
theorem dX1_again_0 : decode cX1_again 0 = .ok (.aload_n 0, 1) := by decide +kernel
theorem dX1_again_1 : decode cX1_again 1 = .ok (.iload_n 2, 1) := by decide +kernel
theorem dX1_again_2 : decode cX1_again 2 = .ok (.invokevirtual 58, 3) := by decide +kernel
theorem dX1_again_5 : decode cX1_again 5 = .ok (.astore 5, 2) := by decide +kernel
theorem dX1_again_7 : decode cX1_again 7 = .ok (.aload_n 0, 1) := by decide +kernel
theorem dX1_again_8 : decode cX1_again 8 = .ok (.iload_n 1, 1) := by decide +kernel
theorem dX1_again_9 : decode cX1_again 9 = .ok (.aload 5, 2) := by decide +kernel
theorem dX1_again_11 : decode cX1_again 11 = .ok (.lload_n 3, 1) := by decide +kernel
theorem dX1_again_12 : decode cX1_again 12 = .ok (.invokevirtual 62, 3) := by decide +kernel
theorem dX1_again_15 : decode cX1_again 15 = .ok (.istore 6, 2) := by decide +kernel
theorem dX1_again_17 : decode cX1_again 17 = .ok (.iload 6, 2) := by decide +kernel
theorem dX1_again_19 : decode cX1_again 19 = .ok (.ifCond .eq 9, 3) := by decide +kernel
theorem dX1_again_22 : decode cX1_again 22 = .ok (.iload 6, 2) := by decide +kernel
theorem dX1_again_24 : decode cX1_again 24 = .ok (.i2l, 1) := by decide +kernel
theorem dX1_again_25 : decode cX1_again 25 = .ok (.goto 11, 3) := by decide +kernel
theorem dX1_again_28 : decode cX1_again 28 = .ok (.aload_n 0, 1) := by decide +kernel
theorem dX1_again_29 : decode cX1_again 29 = .ok (.iload_n 1, 1) := by decide +kernel
theorem dX1_again_30 : decode cX1_again 30 = .ok (.aload 5, 2) := by decide +kernel
theorem dX1_again_32 : decode cX1_again 32 = .ok (.lload_n 3, 1) := by decide +kernel
theorem dX1_again_33 : decode cX1_again 33 = .ok (.invokevirtual 66, 3) := by decide +kernel
theorem dX1_again_36 : decode cX1_again 36 = .ok (.lreturn, 1) := by decide +kernel
theorem dX1_isWithin_0 : decode cX1_isWithin 0 = .ok (.iload_n 0, 1) := by decide +kernel
theorem dX1_isWithin_1 : decode cX1_isWithin 1 = .ok (.ifCond .lt 12, 3) := by decide +kernel
theorem dX1_isWithin_4 : decode cX1_isWithin 4 = .ok (.iload_n 0, 1) := by decide +kernel
theorem dX1_isWithin_5 : decode cX1_isWithin 5 = .ok (.iload_n 1, 1) := by decide +kernel
theorem dX1_isWithin_6 : decode cX1_isWithin 6 = .ok (.if_icmp .ge 7, 3) := by decide +kernel
theorem dX1_isWithin_9 : decode cX1_isWithin 9 = .ok (.iconst 1, 1) := by decide +kernel
theorem dX1_isWithin_10 : decode cX1_isWithin 10 = .ok (.goto 4, 3) := by decide +kernel
theorem dX1_isWithin_13 : decode cX1_isWithin 13 = .ok (.iconst 0, 1) := by decide +kernel
theorem dX1_isWithin_14 : decode cX1_isWithin 14 = .ok (.ireturn, 1) := by decide +kernel
theorem dX1_hasRow_0 : decode cX1_hasRow 0 = .ok (.iload_n 0, 1) := by decide +kernel
theorem dX1_hasRow_1 : decode cX1_hasRow 1 = .ok (.bipush 8, 2) := by decide +kernel
theorem dX1_hasRow_3 : decode cX1_hasRow 3 = .ok (.if_icmp .lt 7, 3) := by decide +kernel
theorem dX1_hasRow_6 : decode cX1_hasRow 6 = .ok (.iconst 1, 1) := by decide +kernel
theorem dX1_hasRow_7 : decode cX1_hasRow 7 = .ok (.goto 4, 3) := by decide +kernel
theorem dX1_hasRow_10 : decode cX1_hasRow 10 = .ok (.iconst 0, 1) := by decide +kernel
theorem dX1_hasRow_11 : decode cX1_hasRow 11 = .ok (.ireturn, 1) := by decide +kernel
theorem dX1_rowOf_0 : decode cX1_rowOf 0 = .ok (.iload_n 0, 1) := by decide +kernel
theorem dX1_rowOf_1 : decode cX1_rowOf 1 = .ok (.iconst 4, 1) := by decide +kernel
theorem dX1_rowOf_2 : decode cX1_rowOf 2 = .ok (.irem, 1) := by decide +kernel
theorem dX1_rowOf_3 : decode cX1_rowOf 3 = .ok (.ireturn, 1) := by decide +kernel
theorem dX1_find_0 : decode cX1_find 0 = .ok (.iload_n 1, 1) := by decide +kernel
theorem dX1_find_1 : decode cX1_find 1 = .ok (.iconst 1, 1) := by decide +kernel
theorem dX1_find_2 : decode cX1_find 2 = .ok (.if_icmp .lt 22, 3) := by decide +kernel
theorem dX1_find_5 : decode cX1_find 5 = .ok (.iload_n 1, 1) := by decide +kernel
theorem dX1_find_6 : decode cX1_find 6 = .ok (.aload_n 0, 1) := by decide +kernel
theorem dX1_find_7 : decode cX1_find 7 = .ok (.getfield 15, 3) := by decide +kernel
theorem dX1_find_10 : decode cX1_find 10 = .ok (.if_icmp .gt 14, 3) := by decide +kernel
theorem dX1_find_13 : decode cX1_find 13 = .ok (.aload_n 0, 1) := by decide +kernel
theorem dX1_find_14 : decode cX1_find 14 = .ok (.getfield 11, 3) := by decide +kernel
theorem dX1_find_17 : decode cX1_find 17 = .ok (.iload_n 1, 1) := by decide +kernel
theorem dX1_find_18 : decode cX1_find 18 = .ok (.iconst 1, 1) := by decide +kernel
theorem dX1_find_19 : decode cX1_find 19 = .ok (.isub, 1) := by decide +kernel
theorem dX1_find_20 : decode cX1_find 20 = .ok (.aaload, 1) := by decide +kernel
theorem dX1_find_21 : decode cX1_find 21 = .ok (.goto 4, 3) := by decide +kernel
theorem dX1_find_24 : decode cX1_find 24 = .ok (.aconst_null, 1) := by decide +kernel
theorem dX1_find_25 : decode cX1_find 25 = .ok (.areturn, 1) := by decide +kernel
set_option maxRecDepth 20000 in
theorem ggX1_refusalOf_X1_isWithin : GoodIn wsX1_refusalOf wsX1_isWithin := goodIn_r _ [6] (by decide +kernel) (by decide +kernel)
set_option maxRecDepth 20000 in
theorem gX1_refusalOf_X1_isWithin : GoodIn wsX1_refusalOf (va_wsS RX1 51 yX1_isWithin wsX1_isWithin) := goodIn_app (goodIn_of _ (by decide +kernel)) ggX1_refusalOf_X1_isWithin
set_option maxRecDepth 20000 in
theorem ggX1_refusalOf_X1_rowOf : GoodIn wsX1_refusalOf wsX1_rowOf := goodIn_r _ [9] (by decide +kernel) (by decide +kernel)
set_option maxRecDepth 20000 in
theorem gX1_refusalOf_X1_rowOf : GoodIn wsX1_refusalOf (va_wsS RX1 89 yX1_rowOf wsX1_rowOf) := goodIn_app (goodIn_of _ (by decide +kernel)) ggX1_refusalOf_X1_rowOf
theorem dX1_refusalOf_0 : decode cX1_refusalOf 0 = .ok (.iload_n 1, 1) := by decide +kernel
theorem dX1_refusalOf_1 : decode cX1_refusalOf 1 = .ok (.bipush 32, 2) := by decide +kernel
theorem dX1_refusalOf_3 : decode cX1_refusalOf 3 = .ok (.invokestatic 51, 3) := by decide +kernel
theorem dX1_refusalOf_6 : decode cX1_refusalOf 6 = .ok (.ifCond .eq 18, 3) := by decide +kernel
theorem dX1_refusalOf_9 : decode cX1_refusalOf 9 = .ok (.aload_n 2, 1) := by decide +kernel
theorem dX1_refusalOf_10 : decode cX1_refusalOf 10 = .ok (.ifnull 14, 3) := by decide +kernel
theorem dX1_refusalOf_13 : decode cX1_refusalOf 13 = .ok (.aload_n 2, 1) := by decide +kernel
theorem dX1_refusalOf_14 : decode cX1_refusalOf 14 = .ok (.getfield 84, 3) := by decide +kernel
theorem dX1_refusalOf_17 : decode cX1_refusalOf 17 = .ok (.iload_n 1, 1) := by decide +kernel
theorem dX1_refusalOf_18 : decode cX1_refusalOf 18 = .ok (.bipush 8, 2) := by decide +kernel
theorem dX1_refusalOf_20 : decode cX1_refusalOf 20 = .ok (.irem, 1) := by decide +kernel
theorem dX1_refusalOf_21 : decode cX1_refusalOf 21 = .ok (.if_icmp .eq 6, 3) := by decide +kernel
theorem dX1_refusalOf_24 : decode cX1_refusalOf 24 = .ok (.bipush (-2), 2) := by decide +kernel
theorem dX1_refusalOf_26 : decode cX1_refusalOf 26 = .ok (.ireturn, 1) := by decide +kernel
theorem dX1_refusalOf_27 : decode cX1_refusalOf 27 = .ok (.lload_n 3, 1) := by decide +kernel
theorem dX1_refusalOf_28 : decode cX1_refusalOf 28 = .ok (.lconst 0, 1) := by decide +kernel
theorem dX1_refusalOf_29 : decode cX1_refusalOf 29 = .ok (.lcmp, 1) := by decide +kernel
theorem dX1_refusalOf_30 : decode cX1_refusalOf 30 = .ok (.ifCond .lt 11, 3) := by decide +kernel
theorem dX1_refusalOf_33 : decode cX1_refusalOf 33 = .ok (.lload_n 3, 1) := by decide +kernel
theorem dX1_refusalOf_34 : decode cX1_refusalOf 34 = .ok (.ldc2_w 87, 3) := by decide +kernel
theorem dX1_refusalOf_37 : decode cX1_refusalOf 37 = .ok (.lcmp, 1) := by decide +kernel
theorem dX1_refusalOf_38 : decode cX1_refusalOf 38 = .ok (.ifCond .le 6, 3) := by decide +kernel
theorem dX1_refusalOf_41 : decode cX1_refusalOf 41 = .ok (.bipush (-4), 2) := by decide +kernel
theorem dX1_refusalOf_43 : decode cX1_refusalOf 43 = .ok (.ireturn, 1) := by decide +kernel
theorem dX1_refusalOf_44 : decode cX1_refusalOf 44 = .ok (.iload_n 1, 1) := by decide +kernel
theorem dX1_refusalOf_45 : decode cX1_refusalOf 45 = .ok (.bipush 24, 2) := by decide +kernel
theorem dX1_refusalOf_47 : decode cX1_refusalOf 47 = .ok (.if_icmp .lt 19, 3) := by decide +kernel
theorem dX1_refusalOf_50 : decode cX1_refusalOf 50 = .ok (.aload_n 0, 1) := by decide +kernel
theorem dX1_refusalOf_51 : decode cX1_refusalOf 51 = .ok (.getfield 19, 3) := by decide +kernel
theorem dX1_refusalOf_54 : decode cX1_refusalOf 54 = .ok (.iload_n 1, 1) := by decide +kernel
theorem dX1_refusalOf_55 : decode cX1_refusalOf 55 = .ok (.invokestatic 89, 3) := by decide +kernel
theorem dX1_refusalOf_58 : decode cX1_refusalOf 58 = .ok (.iaload, 1) := by decide +kernel
theorem dX1_refusalOf_59 : decode cX1_refusalOf 59 = .ok (.ifCond .ne 7, 3) := by decide +kernel
theorem dX1_refusalOf_62 : decode cX1_refusalOf 62 = .ok (.iconst 1, 1) := by decide +kernel
theorem dX1_refusalOf_63 : decode cX1_refusalOf 63 = .ok (.goto 4, 3) := by decide +kernel
theorem dX1_refusalOf_66 : decode cX1_refusalOf 66 = .ok (.iconst 0, 1) := by decide +kernel
theorem dX1_refusalOf_67 : decode cX1_refusalOf 67 = .ok (.istore 5, 2) := by decide +kernel
theorem dX1_refusalOf_69 : decode cX1_refusalOf 69 = .ok (.aload_n 2, 1) := by decide +kernel
theorem dX1_refusalOf_70 : decode cX1_refusalOf 70 = .ok (.getfield 76, 3) := by decide +kernel
theorem dX1_refusalOf_73 : decode cX1_refusalOf 73 = .ok (.ifCond .eq 8, 3) := by decide +kernel
theorem dX1_refusalOf_76 : decode cX1_refusalOf 76 = .ok (.iload 5, 2) := by decide +kernel
theorem dX1_refusalOf_78 : decode cX1_refusalOf 78 = .ok (.ifCond .eq 8, 3) := by decide +kernel
theorem dX1_refusalOf_81 : decode cX1_refusalOf 81 = .ok (.bipush (-5), 2) := by decide +kernel
theorem dX1_refusalOf_83 : decode cX1_refusalOf 83 = .ok (.goto 4, 3) := by decide +kernel
theorem dX1_refusalOf_86 : decode cX1_refusalOf 86 = .ok (.iconst 0, 1) := by decide +kernel
theorem dX1_refusalOf_87 : decode cX1_refusalOf 87 = .ok (.ireturn, 1) := by decide +kernel
set_option maxRecDepth 20000 in
theorem ggX1_outcomeOf_X1_hasRow : GoodIn wsX1_outcomeOf wsX1_hasRow := goodIn_r _ [7] (by decide +kernel) (by decide +kernel)
set_option maxRecDepth 20000 in
theorem gX1_outcomeOf_X1_hasRow : GoodIn wsX1_outcomeOf (va_wsS RX1 93 yX1_hasRow wsX1_hasRow) := goodIn_app (goodIn_of _ (by decide +kernel)) ggX1_outcomeOf_X1_hasRow
set_option maxRecDepth 20000 in
theorem ggX1_outcomeOf_X1_rowOf : GoodIn wsX1_outcomeOf wsX1_rowOf := goodIn_r _ [10] (by decide +kernel) (by decide +kernel)
set_option maxRecDepth 20000 in
theorem gX1_outcomeOf_X1_rowOf : GoodIn wsX1_outcomeOf (va_wsS RX1 89 yX1_rowOf wsX1_rowOf) := goodIn_app (goodIn_of _ (by decide +kernel)) ggX1_outcomeOf_X1_rowOf
theorem dX1_outcomeOf_0 : decode cX1_outcomeOf 0 = .ok (.aload_n 0, 1) := by decide +kernel
theorem dX1_outcomeOf_1 : decode cX1_outcomeOf 1 = .ok (.getfield 30, 3) := by decide +kernel
theorem dX1_outcomeOf_4 : decode cX1_outcomeOf 4 = .ok (.iload_n 1, 1) := by decide +kernel
theorem dX1_outcomeOf_5 : decode cX1_outcomeOf 5 = .ok (.iaload, 1) := by decide +kernel
theorem dX1_outcomeOf_6 : decode cX1_outcomeOf 6 = .ok (.ifCond .eq 14, 3) := by decide +kernel
theorem dX1_outcomeOf_9 : decode cX1_outcomeOf 9 = .ok (.bipush (-10), 2) := by decide +kernel
theorem dX1_outcomeOf_11 : decode cX1_outcomeOf 11 = .ok (.aload_n 0, 1) := by decide +kernel
theorem dX1_outcomeOf_12 : decode cX1_outcomeOf 12 = .ok (.getfield 30, 3) := by decide +kernel
theorem dX1_outcomeOf_15 : decode cX1_outcomeOf 15 = .ok (.iload_n 1, 1) := by decide +kernel
theorem dX1_outcomeOf_16 : decode cX1_outcomeOf 16 = .ok (.iaload, 1) := by decide +kernel
theorem dX1_outcomeOf_17 : decode cX1_outcomeOf 17 = .ok (.isub, 1) := by decide +kernel
theorem dX1_outcomeOf_18 : decode cX1_outcomeOf 18 = .ok (.i2l, 1) := by decide +kernel
theorem dX1_outcomeOf_19 : decode cX1_outcomeOf 19 = .ok (.lreturn, 1) := by decide +kernel
theorem dX1_outcomeOf_20 : decode cX1_outcomeOf 20 = .ok (.aload_n 0, 1) := by decide +kernel
theorem dX1_outcomeOf_21 : decode cX1_outcomeOf 21 = .ok (.getfield 27, 3) := by decide +kernel
theorem dX1_outcomeOf_24 : decode cX1_outcomeOf 24 = .ok (.iload_n 1, 1) := by decide +kernel
theorem dX1_outcomeOf_25 : decode cX1_outcomeOf 25 = .ok (.laload, 1) := by decide +kernel
theorem dX1_outcomeOf_26 : decode cX1_outcomeOf 26 = .ok (.lload_n 3, 1) := by decide +kernel
theorem dX1_outcomeOf_27 : decode cX1_outcomeOf 27 = .ok (.ladd, 1) := by decide +kernel
theorem dX1_outcomeOf_28 : decode cX1_outcomeOf 28 = .ok (.lstore 5, 2) := by decide +kernel
theorem dX1_outcomeOf_30 : decode cX1_outcomeOf 30 = .ok (.iload_n 1, 1) := by decide +kernel
theorem dX1_outcomeOf_31 : decode cX1_outcomeOf 31 = .ok (.invokestatic 93, 3) := by decide +kernel
theorem dX1_outcomeOf_34 : decode cX1_outcomeOf 34 = .ok (.ifCond .eq 17, 3) := by decide +kernel
theorem dX1_outcomeOf_37 : decode cX1_outcomeOf 37 = .ok (.lload 5, 2) := by decide +kernel
theorem dX1_outcomeOf_39 : decode cX1_outcomeOf 39 = .ok (.aload_n 0, 1) := by decide +kernel
theorem dX1_outcomeOf_40 : decode cX1_outcomeOf 40 = .ok (.getfield 23, 3) := by decide +kernel
theorem dX1_outcomeOf_43 : decode cX1_outcomeOf 43 = .ok (.iload_n 1, 1) := by decide +kernel
theorem dX1_outcomeOf_44 : decode cX1_outcomeOf 44 = .ok (.invokestatic 89, 3) := by decide +kernel
theorem dX1_outcomeOf_47 : decode cX1_outcomeOf 47 = .ok (.laload, 1) := by decide +kernel
theorem dX1_outcomeOf_48 : decode cX1_outcomeOf 48 = .ok (.ladd, 1) := by decide +kernel
theorem dX1_outcomeOf_49 : decode cX1_outcomeOf 49 = .ok (.lstore 5, 2) := by decide +kernel
theorem dX1_outcomeOf_51 : decode cX1_outcomeOf 51 = .ok (.aload_n 2, 1) := by decide +kernel
theorem dX1_outcomeOf_52 : decode cX1_outcomeOf 52 = .ok (.getfield 84, 3) := by decide +kernel
theorem dX1_outcomeOf_55 : decode cX1_outcomeOf 55 = .ok (.iconst 3, 1) := by decide +kernel
theorem dX1_outcomeOf_56 : decode cX1_outcomeOf 56 = .ok (.if_icmp .ne 13, 3) := by decide +kernel
theorem dX1_outcomeOf_59 : decode cX1_outcomeOf 59 = .ok (.lload 5, 2) := by decide +kernel
theorem dX1_outcomeOf_61 : decode cX1_outcomeOf 61 = .ok (.aload_n 2, 1) := by decide +kernel
theorem dX1_outcomeOf_62 : decode cX1_outcomeOf 62 = .ok (.getfield 73, 3) := by decide +kernel
theorem dX1_outcomeOf_65 : decode cX1_outcomeOf 65 = .ok (.i2l, 1) := by decide +kernel
theorem dX1_outcomeOf_66 : decode cX1_outcomeOf 66 = .ok (.ladd, 1) := by decide +kernel
theorem dX1_outcomeOf_67 : decode cX1_outcomeOf 67 = .ok (.lstore 5, 2) := by decide +kernel
theorem dX1_outcomeOf_69 : decode cX1_outcomeOf 69 = .ok (.lload 5, 2) := by decide +kernel
theorem dX1_outcomeOf_71 : decode cX1_outcomeOf 71 = .ok (.lreturn, 1) := by decide +kernel
set_option maxRecDepth 20000 in
theorem ggX1_takeRow_X1_hasRow : GoodIn wsX1_takeRow wsX1_hasRow := goodIn_r _ [6] (by decide +kernel) (by decide +kernel)
set_option maxRecDepth 20000 in
theorem gX1_takeRow_X1_hasRow : GoodIn wsX1_takeRow (va_wsS RX1 93 yX1_hasRow wsX1_hasRow) := goodIn_app (goodIn_of _ (by decide +kernel)) ggX1_takeRow_X1_hasRow
set_option maxRecDepth 20000 in
theorem ggX1_takeRow_X1_rowOf : GoodIn wsX1_takeRow wsX1_rowOf := goodIn_r _ [9] (by decide +kernel) (by decide +kernel)
set_option maxRecDepth 20000 in
theorem gX1_takeRow_X1_rowOf : GoodIn wsX1_takeRow (va_wsS RX1 89 yX1_rowOf wsX1_rowOf) := goodIn_app (goodIn_of _ (by decide +kernel)) ggX1_takeRow_X1_rowOf
theorem dX1_takeRow_0 : decode cX1_takeRow 0 = .ok (.iload_n 1, 1) := by decide +kernel
theorem dX1_takeRow_1 : decode cX1_takeRow 1 = .ok (.invokestatic 93, 3) := by decide +kernel
theorem dX1_takeRow_4 : decode cX1_takeRow 4 = .ok (.ifCond .eq 23, 3) := by decide +kernel
theorem dX1_takeRow_7 : decode cX1_takeRow 7 = .ok (.aload_n 0, 1) := by decide +kernel
theorem dX1_takeRow_8 : decode cX1_takeRow 8 = .ok (.getfield 19, 3) := by decide +kernel
theorem dX1_takeRow_11 : decode cX1_takeRow 11 = .ok (.iload_n 1, 1) := by decide +kernel
theorem dX1_takeRow_12 : decode cX1_takeRow 12 = .ok (.invokestatic 89, 3) := by decide +kernel
theorem dX1_takeRow_15 : decode cX1_takeRow 15 = .ok (.iconst 0, 1) := by decide +kernel
theorem dX1_takeRow_16 : decode cX1_takeRow 16 = .ok (.iastore, 1) := by decide +kernel
theorem dX1_takeRow_17 : decode cX1_takeRow 17 = .ok (.aload_n 0, 1) := by decide +kernel
theorem dX1_takeRow_18 : decode cX1_takeRow 18 = .ok (.getfield 23, 3) := by decide +kernel
theorem dX1_takeRow_21 : decode cX1_takeRow 21 = .ok (.iload_n 1, 1) := by decide +kernel
theorem dX1_takeRow_22 : decode cX1_takeRow 22 = .ok (.invokestatic 89, 3) := by decide +kernel
theorem dX1_takeRow_25 : decode cX1_takeRow 25 = .ok (.lconst 0, 1) := by decide +kernel
theorem dX1_takeRow_26 : decode cX1_takeRow 26 = .ok (.lastore, 1) := by decide +kernel
theorem dX1_takeRow_27 : decode cX1_takeRow 27 = .ok (.return_, 1) := by decide +kernel
theorem dX1_tell_0 : decode cX1_tell 0 = .ok (.aload_n 0, 1) := by decide +kernel
theorem dX1_tell_1 : decode cX1_tell 1 = .ok (.aload_n 0, 1) := by decide +kernel
theorem dX1_tell_2 : decode cX1_tell 2 = .ok (.getfield 30, 3) := by decide +kernel
theorem dX1_tell_5 : decode cX1_tell 5 = .ok (.iload_n 1, 1) := by decide +kernel
theorem dX1_tell_6 : decode cX1_tell 6 = .ok (.iaload, 1) := by decide +kernel
theorem dX1_tell_7 : decode cX1_tell 7 = .ok (.putfield 33, 3) := by decide +kernel
theorem dX1_tell_10 : decode cX1_tell 10 = .ok (.aload_n 0, 1) := by decide +kernel
theorem dX1_tell_11 : decode cX1_tell 11 = .ok (.iload_n 1, 1) := by decide +kernel
theorem dX1_tell_12 : decode cX1_tell 12 = .ok (.putfield 36, 3) := by decide +kernel
theorem dX1_tell_15 : decode cX1_tell 15 = .ok (.aload_n 0, 1) := by decide +kernel
theorem dX1_tell_16 : decode cX1_tell 16 = .ok (.iload_n 2, 1) := by decide +kernel
theorem dX1_tell_17 : decode cX1_tell 17 = .ok (.putfield 39, 3) := by decide +kernel
theorem dX1_tell_20 : decode cX1_tell 20 = .ok (.aload_n 0, 1) := by decide +kernel
theorem dX1_tell_21 : decode cX1_tell 21 = .ok (.dup, 1) := by decide +kernel
theorem dX1_tell_22 : decode cX1_tell 22 = .ok (.getfield 42, 3) := by decide +kernel
theorem dX1_tell_25 : decode cX1_tell 25 = .ok (.iconst 1, 1) := by decide +kernel
theorem dX1_tell_26 : decode cX1_tell 26 = .ok (.iadd, 1) := by decide +kernel
theorem dX1_tell_27 : decode cX1_tell 27 = .ok (.putfield 42, 3) := by decide +kernel
theorem dX1_tell_30 : decode cX1_tell 30 = .ok (.return_, 1) := by decide +kernel
end
section
theorem dX2_init_0 : decode cX2_init 0 = .ok (.aload_n 0, 1) := by decide +kernel
theorem dX2_init_1 : decode cX2_init 1 = .ok (.invokespecial 1, 3) := by decide +kernel
theorem dX2_init_4 : decode cX2_init 4 = .ok (.aload_n 0, 1) := by decide +kernel
theorem dX2_init_5 : decode cX2_init 5 = .ok (.iconst 4, 1) := by decide +kernel
theorem dX2_init_6 : decode cX2_init 6 = .ok (.newarray .long, 2) := by decide +kernel
theorem dX2_init_8 : decode cX2_init 8 = .ok (.putfield 7, 3) := by decide +kernel
theorem dX2_init_11 : decode cX2_init 11 = .ok (.aload_n 0, 1) := by decide +kernel
theorem dX2_init_12 : decode cX2_init 12 = .ok (.iconst 4, 1) := by decide +kernel
theorem dX2_init_13 : decode cX2_init 13 = .ok (.newarray .int, 2) := by decide +kernel
theorem dX2_init_15 : decode cX2_init 15 = .ok (.putfield 13, 3) := by decide +kernel
theorem dX2_init_18 : decode cX2_init 18 = .ok (.aload_n 0, 1) := by decide +kernel
theorem dX2_init_19 : decode cX2_init 19 = .ok (.bipush 32, 2) := by decide +kernel
theorem dX2_init_21 : decode cX2_init 21 = .ok (.newarray .long, 2) := by decide +kernel
theorem dX2_init_23 : decode cX2_init 23 = .ok (.putfield 17, 3) := by decide +kernel
theorem dX2_init_26 : decode cX2_init 26 = .ok (.aload_n 0, 1) := by decide +kernel
theorem dX2_init_27 : decode cX2_init 27 = .ok (.bipush 32, 2) := by decide +kernel
theorem dX2_init_29 : decode cX2_init 29 = .ok (.newarray .int, 2) := by decide +kernel
theorem dX2_init_31 : decode cX2_init 31 = .ok (.putfield 20, 3) := by decide +kernel
theorem dX2_init_34 : decode cX2_init 34 = .ok (.aload_n 0, 1) := by decide +kernel
theorem dX2_init_35 : decode cX2_init 35 = .ok (.sipush 200, 3) := by decide +kernel
theorem dX2_init_38 : decode cX2_init 38 = .ok (.newarray .int, 2) := by decide +kernel
theorem dX2_init_40 : decode cX2_init 40 = .ok (.putfield 23, 3) := by decide +kernel
theorem dX2_init_43 : decode cX2_init 43 = .ok (.aload_n 0, 1) := by decide +kernel
theorem dX2_init_44 : decode cX2_init 44 = .ok (.sipush 200, 3) := by decide +kernel
theorem dX2_init_47 : decode cX2_init 47 = .ok (.newarray .boolean, 2) := by decide +kernel
theorem dX2_init_49 : decode cX2_init 49 = .ok (.putfield 26, 3) := by decide +kernel
theorem dX2_init_52 : decode cX2_init 52 = .ok (.aload_n 0, 1) := by decide +kernel
theorem dX2_init_53 : decode cX2_init 53 = .ok (.sipush 200, 3) := by decide +kernel
theorem dX2_init_56 : decode cX2_init 56 = .ok (.newarray .long, 2) := by decide +kernel
theorem dX2_init_58 : decode cX2_init 58 = .ok (.putfield 30, 3) := by decide +kernel
theorem dX2_init_61 : decode cX2_init 61 = .ok (.return_, 1) := by decide +kernel
theorem dX2_below_0 : decode cX2_below 0 = .ok (.iload_n 0, 1) := by decide +kernel
theorem dX2_below_1 : decode cX2_below 1 = .ok (.ifCond .lt 12, 3) := by decide +kernel
theorem dX2_below_4 : decode cX2_below 4 = .ok (.iload_n 0, 1) := by decide +kernel
theorem dX2_below_5 : decode cX2_below 5 = .ok (.iload_n 1, 1) := by decide +kernel
theorem dX2_below_6 : decode cX2_below 6 = .ok (.if_icmp .ge 7, 3) := by decide +kernel
theorem dX2_below_9 : decode cX2_below 9 = .ok (.iconst 1, 1) := by decide +kernel
theorem dX2_below_10 : decode cX2_below 10 = .ok (.goto 4, 3) := by decide +kernel
theorem dX2_below_13 : decode cX2_below 13 = .ok (.iconst 0, 1) := by decide +kernel
theorem dX2_below_14 : decode cX2_below 14 = .ok (.ireturn, 1) := by decide +kernel
set_option maxRecDepth 20000 in
theorem ggX2_collect_X2_below : GoodIn wsX2_collect wsX2_below := goodIn_r _ [7] (by decide +kernel) (by decide +kernel)
set_option maxRecDepth 20000 in
theorem gX2_collect_X2_below : GoodIn wsX2_collect (va_wsS RX2 37 yX2_below wsX2_below) := goodIn_app (goodIn_of _ (by decide +kernel)) ggX2_collect_X2_below
theorem dX2_collect_0 : decode cX2_collect 0 = .ok (.aload_n 0, 1) := by decide +kernel
theorem dX2_collect_1 : decode cX2_collect 1 = .ok (.iconst 0, 1) := by decide +kernel
theorem dX2_collect_2 : decode cX2_collect 2 = .ok (.putfield 33, 3) := by decide +kernel
theorem dX2_collect_5 : decode cX2_collect 5 = .ok (.iload_n 1, 1) := by decide +kernel
theorem dX2_collect_6 : decode cX2_collect 6 = .ok (.iconst 4, 1) := by decide +kernel
theorem dX2_collect_7 : decode cX2_collect 7 = .ok (.invokestatic 37, 3) := by decide +kernel
theorem dX2_collect_10 : decode cX2_collect 10 = .ok (.ifCond .eq 14, 3) := by decide +kernel
theorem dX2_collect_13 : decode cX2_collect 13 = .ok (.aload_n 0, 1) := by decide +kernel
theorem dX2_collect_14 : decode cX2_collect 14 = .ok (.getfield 13, 3) := by decide +kernel
theorem dX2_collect_17 : decode cX2_collect 17 = .ok (.iload_n 1, 1) := by decide +kernel
theorem dX2_collect_18 : decode cX2_collect 18 = .ok (.iaload, 1) := by decide +kernel
theorem dX2_collect_19 : decode cX2_collect 19 = .ok (.bipush 50, 2) := by decide +kernel
theorem dX2_collect_21 : decode cX2_collect 21 = .ok (.if_icmp .ne 5, 3) := by decide +kernel
theorem dX2_collect_24 : decode cX2_collect 24 = .ok (.iconst (-1), 1) := by decide +kernel
theorem dX2_collect_25 : decode cX2_collect 25 = .ok (.ireturn, 1) := by decide +kernel
theorem dX2_collect_26 : decode cX2_collect 26 = .ok (.aload_n 0, 1) := by decide +kernel
theorem dX2_collect_27 : decode cX2_collect 27 = .ok (.getfield 7, 3) := by decide +kernel
theorem dX2_collect_30 : decode cX2_collect 30 = .ok (.iload_n 1, 1) := by decide +kernel
theorem dX2_collect_31 : decode cX2_collect 31 = .ok (.dup2, 1) := by decide +kernel
theorem dX2_collect_32 : decode cX2_collect 32 = .ok (.laload, 1) := by decide +kernel
theorem dX2_collect_33 : decode cX2_collect 33 = .ok (.lload_n 2, 1) := by decide +kernel
theorem dX2_collect_34 : decode cX2_collect 34 = .ok (.ladd, 1) := by decide +kernel
theorem dX2_collect_35 : decode cX2_collect 35 = .ok (.lastore, 1) := by decide +kernel
theorem dX2_collect_36 : decode cX2_collect 36 = .ok (.aload_n 0, 1) := by decide +kernel
theorem dX2_collect_37 : decode cX2_collect 37 = .ok (.getfield 13, 3) := by decide +kernel
theorem dX2_collect_40 : decode cX2_collect 40 = .ok (.iload_n 1, 1) := by decide +kernel
theorem dX2_collect_41 : decode cX2_collect 41 = .ok (.dup2, 1) := by decide +kernel
theorem dX2_collect_42 : decode cX2_collect 42 = .ok (.iaload, 1) := by decide +kernel
theorem dX2_collect_43 : decode cX2_collect 43 = .ok (.iconst 1, 1) := by decide +kernel
theorem dX2_collect_44 : decode cX2_collect 44 = .ok (.iadd, 1) := by decide +kernel
theorem dX2_collect_45 : decode cX2_collect 45 = .ok (.iastore, 1) := by decide +kernel
theorem dX2_collect_46 : decode cX2_collect 46 = .ok (.aload_n 0, 1) := by decide +kernel
theorem dX2_collect_47 : decode cX2_collect 47 = .ok (.getfield 13, 3) := by decide +kernel
theorem dX2_collect_50 : decode cX2_collect 50 = .ok (.iload_n 1, 1) := by decide +kernel
theorem dX2_collect_51 : decode cX2_collect 51 = .ok (.iaload, 1) := by decide +kernel
theorem dX2_collect_52 : decode cX2_collect 52 = .ok (.ireturn, 1) := by decide +kernel
set_option maxRecDepth 20000 in
theorem ggX2_answer_X2_below : GoodIn wsX2_answer wsX2_below := goodIn_r _ [6] (by decide +kernel) (by decide +kernel)
set_option maxRecDepth 20000 in
theorem gX2_answer_X2_below : GoodIn wsX2_answer (va_wsS RX2 37 yX2_below wsX2_below) := goodIn_app (goodIn_of _ (by decide +kernel)) ggX2_answer_X2_below
theorem dX2_answer_0 : decode cX2_answer 0 = .ok (.aload_n 0, 1) := by decide +kernel
theorem dX2_answer_1 : decode cX2_answer 1 = .ok (.iconst 0, 1) := by decide +kernel
theorem dX2_answer_2 : decode cX2_answer 2 = .ok (.putfield 33, 3) := by decide +kernel
theorem dX2_answer_5 : decode cX2_answer 5 = .ok (.iload_n 1, 1) := by decide +kernel
theorem dX2_answer_6 : decode cX2_answer 6 = .ok (.bipush 32, 2) := by decide +kernel
theorem dX2_answer_8 : decode cX2_answer 8 = .ok (.invokestatic 37, 3) := by decide +kernel
theorem dX2_answer_11 : decode cX2_answer 11 = .ok (.ifCond .ne 5, 3) := by decide +kernel
theorem dX2_answer_14 : decode cX2_answer 14 = .ok (.iconst (-1), 1) := by decide +kernel
theorem dX2_answer_15 : decode cX2_answer 15 = .ok (.ireturn, 1) := by decide +kernel
theorem dX2_answer_16 : decode cX2_answer 16 = .ok (.aload_n 0, 1) := by decide +kernel
theorem dX2_answer_17 : decode cX2_answer 17 = .ok (.getfield 17, 3) := by decide +kernel
theorem dX2_answer_20 : decode cX2_answer 20 = .ok (.iload_n 1, 1) := by decide +kernel
theorem dX2_answer_21 : decode cX2_answer 21 = .ok (.lload_n 2, 1) := by decide +kernel
theorem dX2_answer_22 : decode cX2_answer 22 = .ok (.lastore, 1) := by decide +kernel
theorem dX2_answer_23 : decode cX2_answer 23 = .ok (.iconst 1, 1) := by decide +kernel
theorem dX2_answer_24 : decode cX2_answer 24 = .ok (.ireturn, 1) := by decide +kernel
set_option maxRecDepth 20000 in
theorem ggX2_fails_X2_below : GoodIn wsX2_fails wsX2_below := goodIn_r _ [6] (by decide +kernel) (by decide +kernel)
set_option maxRecDepth 20000 in
theorem gX2_fails_X2_below : GoodIn wsX2_fails (va_wsS RX2 37 yX2_below wsX2_below) := goodIn_app (goodIn_of _ (by decide +kernel)) ggX2_fails_X2_below
theorem dX2_fails_0 : decode cX2_fails 0 = .ok (.aload_n 0, 1) := by decide +kernel
theorem dX2_fails_1 : decode cX2_fails 1 = .ok (.iconst 0, 1) := by decide +kernel
theorem dX2_fails_2 : decode cX2_fails 2 = .ok (.putfield 33, 3) := by decide +kernel
theorem dX2_fails_5 : decode cX2_fails 5 = .ok (.iload_n 1, 1) := by decide +kernel
theorem dX2_fails_6 : decode cX2_fails 6 = .ok (.bipush 32, 2) := by decide +kernel
theorem dX2_fails_8 : decode cX2_fails 8 = .ok (.invokestatic 37, 3) := by decide +kernel
theorem dX2_fails_11 : decode cX2_fails 11 = .ok (.ifCond .eq 12, 3) := by decide +kernel
theorem dX2_fails_14 : decode cX2_fails 14 = .ok (.iload_n 2, 1) := by decide +kernel
theorem dX2_fails_15 : decode cX2_fails 15 = .ok (.bipush 7, 2) := by decide +kernel
theorem dX2_fails_17 : decode cX2_fails 17 = .ok (.invokestatic 37, 3) := by decide +kernel
theorem dX2_fails_20 : decode cX2_fails 20 = .ok (.ifCond .ne 5, 3) := by decide +kernel
theorem dX2_fails_23 : decode cX2_fails 23 = .ok (.iconst (-1), 1) := by decide +kernel
theorem dX2_fails_24 : decode cX2_fails 24 = .ok (.ireturn, 1) := by decide +kernel
theorem dX2_fails_25 : decode cX2_fails 25 = .ok (.aload_n 0, 1) := by decide +kernel
theorem dX2_fails_26 : decode cX2_fails 26 = .ok (.getfield 20, 3) := by decide +kernel
theorem dX2_fails_29 : decode cX2_fails 29 = .ok (.iload_n 1, 1) := by decide +kernel
theorem dX2_fails_30 : decode cX2_fails 30 = .ok (.iaload, 1) := by decide +kernel
theorem dX2_fails_31 : decode cX2_fails 31 = .ok (.istore_n 3, 1) := by decide +kernel
theorem dX2_fails_32 : decode cX2_fails 32 = .ok (.aload_n 0, 1) := by decide +kernel
theorem dX2_fails_33 : decode cX2_fails 33 = .ok (.getfield 20, 3) := by decide +kernel
theorem dX2_fails_36 : decode cX2_fails 36 = .ok (.iload_n 1, 1) := by decide +kernel
theorem dX2_fails_37 : decode cX2_fails 37 = .ok (.iload_n 2, 1) := by decide +kernel
theorem dX2_fails_38 : decode cX2_fails 38 = .ok (.iastore, 1) := by decide +kernel
theorem dX2_fails_39 : decode cX2_fails 39 = .ok (.iload_n 3, 1) := by decide +kernel
theorem dX2_fails_40 : decode cX2_fails 40 = .ok (.ireturn, 1) := by decide +kernel
set_option maxRecDepth 20000 in
theorem ggX2_make_X2_below : GoodIn wsX2_make wsX2_below := goodIn_r _ [9] (by decide +kernel) (by decide +kernel)
set_option maxRecDepth 20000 in
theorem gX2_make_X2_below : GoodIn wsX2_make (va_wsS RX2 37 yX2_below wsX2_below) := goodIn_app (goodIn_of _ (by decide +kernel)) ggX2_make_X2_below
theorem dX2_make_0 : decode cX2_make 0 = .ok (.aload_n 0, 1) := by decide +kernel
theorem dX2_make_1 : decode cX2_make 1 = .ok (.iconst 0, 1) := by decide +kernel
theorem dX2_make_2 : decode cX2_make 2 = .ok (.putfield 33, 3) := by decide +kernel
theorem dX2_make_5 : decode cX2_make 5 = .ok (.iload_n 1, 1) := by decide +kernel
theorem dX2_make_6 : decode cX2_make 6 = .ok (.bipush 8, 2) := by decide +kernel
theorem dX2_make_8 : decode cX2_make 8 = .ok (.invokestatic 37, 3) := by decide +kernel
theorem dX2_make_11 : decode cX2_make 11 = .ok (.ifCond .eq 13, 3) := by decide +kernel
theorem dX2_make_14 : decode cX2_make 14 = .ok (.aload_n 0, 1) := by decide +kernel
theorem dX2_make_15 : decode cX2_make 15 = .ok (.getfield 41, 3) := by decide +kernel
theorem dX2_make_18 : decode cX2_make 18 = .ok (.sipush 200, 3) := by decide +kernel
theorem dX2_make_21 : decode cX2_make 21 = .ok (.if_icmp .ne 5, 3) := by decide +kernel
theorem dX2_make_24 : decode cX2_make 24 = .ok (.iconst (-1), 1) := by decide +kernel
theorem dX2_make_25 : decode cX2_make 25 = .ok (.ireturn, 1) := by decide +kernel
theorem dX2_make_26 : decode cX2_make 26 = .ok (.aload_n 0, 1) := by decide +kernel
theorem dX2_make_27 : decode cX2_make 27 = .ok (.getfield 23, 3) := by decide +kernel
theorem dX2_make_30 : decode cX2_make 30 = .ok (.aload_n 0, 1) := by decide +kernel
theorem dX2_make_31 : decode cX2_make 31 = .ok (.getfield 41, 3) := by decide +kernel
theorem dX2_make_34 : decode cX2_make 34 = .ok (.iload_n 1, 1) := by decide +kernel
theorem dX2_make_35 : decode cX2_make 35 = .ok (.iastore, 1) := by decide +kernel
theorem dX2_make_36 : decode cX2_make 36 = .ok (.aload_n 0, 1) := by decide +kernel
theorem dX2_make_37 : decode cX2_make 37 = .ok (.getfield 26, 3) := by decide +kernel
theorem dX2_make_40 : decode cX2_make 40 = .ok (.aload_n 0, 1) := by decide +kernel
theorem dX2_make_41 : decode cX2_make 41 = .ok (.getfield 41, 3) := by decide +kernel
theorem dX2_make_44 : decode cX2_make 44 = .ok (.iconst 1, 1) := by decide +kernel
theorem dX2_make_45 : decode cX2_make 45 = .ok (.bastore, 1) := by decide +kernel
theorem dX2_make_46 : decode cX2_make 46 = .ok (.aload_n 0, 1) := by decide +kernel
theorem dX2_make_47 : decode cX2_make 47 = .ok (.getfield 30, 3) := by decide +kernel
theorem dX2_make_50 : decode cX2_make 50 = .ok (.aload_n 0, 1) := by decide +kernel
theorem dX2_make_51 : decode cX2_make 51 = .ok (.getfield 41, 3) := by decide +kernel
theorem dX2_make_54 : decode cX2_make 54 = .ok (.lconst 0, 1) := by decide +kernel
theorem dX2_make_55 : decode cX2_make 55 = .ok (.lastore, 1) := by decide +kernel
theorem dX2_make_56 : decode cX2_make 56 = .ok (.aload_n 0, 1) := by decide +kernel
theorem dX2_make_57 : decode cX2_make 57 = .ok (.dup, 1) := by decide +kernel
theorem dX2_make_58 : decode cX2_make 58 = .ok (.getfield 41, 3) := by decide +kernel
theorem dX2_make_61 : decode cX2_make 61 = .ok (.iconst 1, 1) := by decide +kernel
theorem dX2_make_62 : decode cX2_make 62 = .ok (.iadd, 1) := by decide +kernel
theorem dX2_make_63 : decode cX2_make 63 = .ok (.putfield 41, 3) := by decide +kernel
theorem dX2_make_66 : decode cX2_make 66 = .ok (.aload_n 0, 1) := by decide +kernel
theorem dX2_make_67 : decode cX2_make 67 = .ok (.getfield 41, 3) := by decide +kernel
theorem dX2_make_70 : decode cX2_make 70 = .ok (.ireturn, 1) := by decide +kernel
theorem dX2_rowOf_0 : decode cX2_rowOf 0 = .ok (.iload_n 0, 1) := by decide +kernel
theorem dX2_rowOf_1 : decode cX2_rowOf 1 = .ok (.bipush 8, 2) := by decide +kernel
theorem dX2_rowOf_3 : decode cX2_rowOf 3 = .ok (.if_icmp .ge 7, 3) := by decide +kernel
theorem dX2_rowOf_6 : decode cX2_rowOf 6 = .ok (.iconst (-1), 1) := by decide +kernel
theorem dX2_rowOf_7 : decode cX2_rowOf 7 = .ok (.goto 6, 3) := by decide +kernel
theorem dX2_rowOf_10 : decode cX2_rowOf 10 = .ok (.iload_n 0, 1) := by decide +kernel
theorem dX2_rowOf_11 : decode cX2_rowOf 11 = .ok (.iconst 4, 1) := by decide +kernel
theorem dX2_rowOf_12 : decode cX2_rowOf 12 = .ok (.irem, 1) := by decide +kernel
theorem dX2_rowOf_13 : decode cX2_rowOf 13 = .ok (.ireturn, 1) := by decide +kernel
set_option maxRecDepth 20000 in
theorem ggX2_refusal_X2_below : GoodIn wsX2_refusal wsX2_below := goodIn_r _ [9] (by decide +kernel) (by decide +kernel)
set_option maxRecDepth 20000 in
theorem gX2_refusal_X2_below : GoodIn wsX2_refusal (va_wsS RX2 37 yX2_below wsX2_below) := goodIn_app (goodIn_of _ (by decide +kernel)) ggX2_refusal_X2_below
set_option maxRecDepth 20000 in
theorem ggX2_refusal_X2_rowOf : GoodIn wsX2_refusal wsX2_rowOf := goodIn_r _ [12] (by decide +kernel) (by decide +kernel)
set_option maxRecDepth 20000 in
theorem gX2_refusal_X2_rowOf : GoodIn wsX2_refusal (va_wsS RX2 46 yX2_rowOf wsX2_rowOf) := goodIn_app (goodIn_of _ (by decide +kernel)) ggX2_refusal_X2_rowOf
theorem dX2_refusal_0 : decode cX2_refusal 0 = .ok (.iload_n 1, 1) := by decide +kernel
theorem dX2_refusal_1 : decode cX2_refusal 1 = .ok (.bipush 32, 2) := by decide +kernel
theorem dX2_refusal_3 : decode cX2_refusal 3 = .ok (.invokestatic 37, 3) := by decide +kernel
theorem dX2_refusal_6 : decode cX2_refusal 6 = .ok (.ifCond .eq 31, 3) := by decide +kernel
theorem dX2_refusal_9 : decode cX2_refusal 9 = .ok (.iload_n 2, 1) := by decide +kernel
theorem dX2_refusal_10 : decode cX2_refusal 10 = .ok (.iconst 1, 1) := by decide +kernel
theorem dX2_refusal_11 : decode cX2_refusal 11 = .ok (.if_icmp .lt 26, 3) := by decide +kernel
theorem dX2_refusal_14 : decode cX2_refusal 14 = .ok (.iload_n 2, 1) := by decide +kernel
theorem dX2_refusal_15 : decode cX2_refusal 15 = .ok (.aload_n 0, 1) := by decide +kernel
theorem dX2_refusal_16 : decode cX2_refusal 16 = .ok (.getfield 41, 3) := by decide +kernel
theorem dX2_refusal_19 : decode cX2_refusal 19 = .ok (.if_icmp .gt 18, 3) := by decide +kernel
theorem dX2_refusal_22 : decode cX2_refusal 22 = .ok (.aload_n 0, 1) := by decide +kernel
theorem dX2_refusal_23 : decode cX2_refusal 23 = .ok (.getfield 23, 3) := by decide +kernel
theorem dX2_refusal_26 : decode cX2_refusal 26 = .ok (.iload_n 2, 1) := by decide +kernel
theorem dX2_refusal_27 : decode cX2_refusal 27 = .ok (.iconst 1, 1) := by decide +kernel
theorem dX2_refusal_28 : decode cX2_refusal 28 = .ok (.isub, 1) := by decide +kernel
theorem dX2_refusal_29 : decode cX2_refusal 29 = .ok (.iaload, 1) := by decide +kernel
theorem dX2_refusal_30 : decode cX2_refusal 30 = .ok (.iload_n 1, 1) := by decide +kernel
theorem dX2_refusal_31 : decode cX2_refusal 31 = .ok (.bipush 8, 2) := by decide +kernel
theorem dX2_refusal_33 : decode cX2_refusal 33 = .ok (.irem, 1) := by decide +kernel
theorem dX2_refusal_34 : decode cX2_refusal 34 = .ok (.if_icmp .eq 6, 3) := by decide +kernel
theorem dX2_refusal_37 : decode cX2_refusal 37 = .ok (.bipush (-2), 2) := by decide +kernel
theorem dX2_refusal_39 : decode cX2_refusal 39 = .ok (.ireturn, 1) := by decide +kernel
theorem dX2_refusal_40 : decode cX2_refusal 40 = .ok (.lload_n 3, 1) := by decide +kernel
theorem dX2_refusal_41 : decode cX2_refusal 41 = .ok (.lconst 0, 1) := by decide +kernel
theorem dX2_refusal_42 : decode cX2_refusal 42 = .ok (.lcmp, 1) := by decide +kernel
theorem dX2_refusal_43 : decode cX2_refusal 43 = .ok (.ifCond .lt 11, 3) := by decide +kernel
theorem dX2_refusal_46 : decode cX2_refusal 46 = .ok (.lload_n 3, 1) := by decide +kernel
theorem dX2_refusal_47 : decode cX2_refusal 47 = .ok (.ldc2_w 44, 3) := by decide +kernel
theorem dX2_refusal_50 : decode cX2_refusal 50 = .ok (.lcmp, 1) := by decide +kernel
theorem dX2_refusal_51 : decode cX2_refusal 51 = .ok (.ifCond .le 6, 3) := by decide +kernel
theorem dX2_refusal_54 : decode cX2_refusal 54 = .ok (.bipush (-4), 2) := by decide +kernel
theorem dX2_refusal_56 : decode cX2_refusal 56 = .ok (.ireturn, 1) := by decide +kernel
theorem dX2_refusal_57 : decode cX2_refusal 57 = .ok (.aload_n 0, 1) := by decide +kernel
theorem dX2_refusal_58 : decode cX2_refusal 58 = .ok (.getfield 26, 3) := by decide +kernel
theorem dX2_refusal_61 : decode cX2_refusal 61 = .ok (.iload_n 2, 1) := by decide +kernel
theorem dX2_refusal_62 : decode cX2_refusal 62 = .ok (.iconst 1, 1) := by decide +kernel
theorem dX2_refusal_63 : decode cX2_refusal 63 = .ok (.isub, 1) := by decide +kernel
theorem dX2_refusal_64 : decode cX2_refusal 64 = .ok (.baload, 1) := by decide +kernel
theorem dX2_refusal_65 : decode cX2_refusal 65 = .ok (.ifCond .eq 21, 3) := by decide +kernel
theorem dX2_refusal_68 : decode cX2_refusal 68 = .ok (.iload_n 1, 1) := by decide +kernel
theorem dX2_refusal_69 : decode cX2_refusal 69 = .ok (.bipush 24, 2) := by decide +kernel
theorem dX2_refusal_71 : decode cX2_refusal 71 = .ok (.if_icmp .lt 20, 3) := by decide +kernel
theorem dX2_refusal_74 : decode cX2_refusal 74 = .ok (.aload_n 0, 1) := by decide +kernel
theorem dX2_refusal_75 : decode cX2_refusal 75 = .ok (.getfield 13, 3) := by decide +kernel
theorem dX2_refusal_78 : decode cX2_refusal 78 = .ok (.iload_n 1, 1) := by decide +kernel
theorem dX2_refusal_79 : decode cX2_refusal 79 = .ok (.invokestatic 46, 3) := by decide +kernel
theorem dX2_refusal_82 : decode cX2_refusal 82 = .ok (.iaload, 1) := by decide +kernel
theorem dX2_refusal_83 : decode cX2_refusal 83 = .ok (.ifCond .ne 8, 3) := by decide +kernel
theorem dX2_refusal_86 : decode cX2_refusal 86 = .ok (.bipush (-5), 2) := by decide +kernel
theorem dX2_refusal_88 : decode cX2_refusal 88 = .ok (.goto 4, 3) := by decide +kernel
theorem dX2_refusal_91 : decode cX2_refusal 91 = .ok (.iconst 0, 1) := by decide +kernel
theorem dX2_refusal_92 : decode cX2_refusal 92 = .ok (.ireturn, 1) := by decide +kernel
set_option maxRecDepth 20000 in
theorem ggX2_reckoned_X2_refusal : GoodIn wsX2_reckoned wsX2_refusal := goodIn_r _ [11, 12, 5, 13, 14, 15, 16, 17, 10, 18, 19, 20, 21, 22, 23, 24, 25, 26, 27, 28, 29, 30, 31, 32, 33, 34, 35, 36, 37] (by decide +kernel) (by decide +kernel)
set_option maxRecDepth 20000 in
theorem gX2_reckoned_X2_refusal : GoodIn wsX2_reckoned (wsV RX2 50 RX2 yX2_refusal wsX2_refusal) := goodIn_app (goodIn_of _ (by decide +kernel)) ggX2_reckoned_X2_refusal
set_option maxRecDepth 20000 in
theorem ggX2_reckoned_X2_rowOf : GoodIn wsX2_reckoned wsX2_rowOf := goodIn_r _ [21] (by decide +kernel) (by decide +kernel)
set_option maxRecDepth 20000 in
theorem gX2_reckoned_X2_rowOf : GoodIn wsX2_reckoned (va_wsS RX2 46 yX2_rowOf wsX2_rowOf) := goodIn_app (goodIn_of _ (by decide +kernel)) ggX2_reckoned_X2_rowOf
theorem dX2_reckoned_0 : decode cX2_reckoned 0 = .ok (.aload_n 0, 1) := by decide +kernel
theorem dX2_reckoned_1 : decode cX2_reckoned 1 = .ok (.iload_n 1, 1) := by decide +kernel
theorem dX2_reckoned_2 : decode cX2_reckoned 2 = .ok (.iload_n 2, 1) := by decide +kernel
theorem dX2_reckoned_3 : decode cX2_reckoned 3 = .ok (.lload_n 3, 1) := by decide +kernel
theorem dX2_reckoned_4 : decode cX2_reckoned 4 = .ok (.invokevirtual 50, 3) := by decide +kernel
theorem dX2_reckoned_7 : decode cX2_reckoned 7 = .ok (.istore 5, 2) := by decide +kernel
theorem dX2_reckoned_9 : decode cX2_reckoned 9 = .ok (.aload_n 0, 1) := by decide +kernel
theorem dX2_reckoned_10 : decode cX2_reckoned 10 = .ok (.iload 5, 2) := by decide +kernel
theorem dX2_reckoned_12 : decode cX2_reckoned 12 = .ok (.ifCond .eq 7, 3) := by decide +kernel
theorem dX2_reckoned_15 : decode cX2_reckoned 15 = .ok (.iconst 2, 1) := by decide +kernel
theorem dX2_reckoned_16 : decode cX2_reckoned 16 = .ok (.goto 17, 3) := by decide +kernel
theorem dX2_reckoned_19 : decode cX2_reckoned 19 = .ok (.aload_n 0, 1) := by decide +kernel
theorem dX2_reckoned_20 : decode cX2_reckoned 20 = .ok (.getfield 20, 3) := by decide +kernel
theorem dX2_reckoned_23 : decode cX2_reckoned 23 = .ok (.iload_n 1, 1) := by decide +kernel
theorem dX2_reckoned_24 : decode cX2_reckoned 24 = .ok (.iaload, 1) := by decide +kernel
theorem dX2_reckoned_25 : decode cX2_reckoned 25 = .ok (.ifCond .eq 7, 3) := by decide +kernel
theorem dX2_reckoned_28 : decode cX2_reckoned 28 = .ok (.iconst 1, 1) := by decide +kernel
theorem dX2_reckoned_29 : decode cX2_reckoned 29 = .ok (.goto 4, 3) := by decide +kernel
theorem dX2_reckoned_32 : decode cX2_reckoned 32 = .ok (.iconst 0, 1) := by decide +kernel
theorem dX2_reckoned_33 : decode cX2_reckoned 33 = .ok (.putfield 54, 3) := by decide +kernel
theorem dX2_reckoned_36 : decode cX2_reckoned 36 = .ok (.aload_n 0, 1) := by decide +kernel
theorem dX2_reckoned_37 : decode cX2_reckoned 37 = .ok (.getfield 54, 3) := by decide +kernel
theorem dX2_reckoned_40 : decode cX2_reckoned 40 = .ok (.iconst 2, 1) := by decide +kernel
theorem dX2_reckoned_41 : decode cX2_reckoned 41 = .ok (.if_icmp .ne 7, 3) := by decide +kernel
theorem dX2_reckoned_44 : decode cX2_reckoned 44 = .ok (.iload 5, 2) := by decide +kernel
theorem dX2_reckoned_46 : decode cX2_reckoned 46 = .ok (.i2l, 1) := by decide +kernel
theorem dX2_reckoned_47 : decode cX2_reckoned 47 = .ok (.lreturn, 1) := by decide +kernel
theorem dX2_reckoned_48 : decode cX2_reckoned 48 = .ok (.aload_n 0, 1) := by decide +kernel
theorem dX2_reckoned_49 : decode cX2_reckoned 49 = .ok (.getfield 54, 3) := by decide +kernel
theorem dX2_reckoned_52 : decode cX2_reckoned 52 = .ok (.iconst 1, 1) := by decide +kernel
theorem dX2_reckoned_53 : decode cX2_reckoned 53 = .ok (.if_icmp .ne 14, 3) := by decide +kernel
theorem dX2_reckoned_56 : decode cX2_reckoned 56 = .ok (.bipush (-10), 2) := by decide +kernel
theorem dX2_reckoned_58 : decode cX2_reckoned 58 = .ok (.aload_n 0, 1) := by decide +kernel
theorem dX2_reckoned_59 : decode cX2_reckoned 59 = .ok (.getfield 20, 3) := by decide +kernel
theorem dX2_reckoned_62 : decode cX2_reckoned 62 = .ok (.iload_n 1, 1) := by decide +kernel
theorem dX2_reckoned_63 : decode cX2_reckoned 63 = .ok (.iaload, 1) := by decide +kernel
theorem dX2_reckoned_64 : decode cX2_reckoned 64 = .ok (.isub, 1) := by decide +kernel
theorem dX2_reckoned_65 : decode cX2_reckoned 65 = .ok (.i2l, 1) := by decide +kernel
theorem dX2_reckoned_66 : decode cX2_reckoned 66 = .ok (.lreturn, 1) := by decide +kernel
theorem dX2_reckoned_67 : decode cX2_reckoned 67 = .ok (.iload_n 1, 1) := by decide +kernel
theorem dX2_reckoned_68 : decode cX2_reckoned 68 = .ok (.invokestatic 46, 3) := by decide +kernel
theorem dX2_reckoned_71 : decode cX2_reckoned 71 = .ok (.istore 6, 2) := by decide +kernel
theorem dX2_reckoned_73 : decode cX2_reckoned 73 = .ok (.aload_n 0, 1) := by decide +kernel
theorem dX2_reckoned_74 : decode cX2_reckoned 74 = .ok (.getfield 17, 3) := by decide +kernel
theorem dX2_reckoned_77 : decode cX2_reckoned 77 = .ok (.iload_n 1, 1) := by decide +kernel
theorem dX2_reckoned_78 : decode cX2_reckoned 78 = .ok (.laload, 1) := by decide +kernel
theorem dX2_reckoned_79 : decode cX2_reckoned 79 = .ok (.lload_n 3, 1) := by decide +kernel
theorem dX2_reckoned_80 : decode cX2_reckoned 80 = .ok (.ladd, 1) := by decide +kernel
theorem dX2_reckoned_81 : decode cX2_reckoned 81 = .ok (.iload 6, 2) := by decide +kernel
theorem dX2_reckoned_83 : decode cX2_reckoned 83 = .ok (.iconst (-1), 1) := by decide +kernel
theorem dX2_reckoned_84 : decode cX2_reckoned 84 = .ok (.if_icmp .ne 7, 3) := by decide +kernel
theorem dX2_reckoned_87 : decode cX2_reckoned 87 = .ok (.lconst 0, 1) := by decide +kernel
theorem dX2_reckoned_88 : decode cX2_reckoned 88 = .ok (.goto 10, 3) := by decide +kernel
theorem dX2_reckoned_91 : decode cX2_reckoned 91 = .ok (.aload_n 0, 1) := by decide +kernel
theorem dX2_reckoned_92 : decode cX2_reckoned 92 = .ok (.getfield 7, 3) := by decide +kernel
theorem dX2_reckoned_95 : decode cX2_reckoned 95 = .ok (.iload 6, 2) := by decide +kernel
theorem dX2_reckoned_97 : decode cX2_reckoned 97 = .ok (.laload, 1) := by decide +kernel
theorem dX2_reckoned_98 : decode cX2_reckoned 98 = .ok (.ladd, 1) := by decide +kernel
theorem dX2_reckoned_99 : decode cX2_reckoned 99 = .ok (.aload_n 0, 1) := by decide +kernel
theorem dX2_reckoned_100 : decode cX2_reckoned 100 = .ok (.getfield 23, 3) := by decide +kernel
theorem dX2_reckoned_103 : decode cX2_reckoned 103 = .ok (.iload_n 2, 1) := by decide +kernel
theorem dX2_reckoned_104 : decode cX2_reckoned 104 = .ok (.iconst 1, 1) := by decide +kernel
theorem dX2_reckoned_105 : decode cX2_reckoned 105 = .ok (.isub, 1) := by decide +kernel
theorem dX2_reckoned_106 : decode cX2_reckoned 106 = .ok (.iaload, 1) := by decide +kernel
theorem dX2_reckoned_107 : decode cX2_reckoned 107 = .ok (.iconst 3, 1) := by decide +kernel
theorem dX2_reckoned_108 : decode cX2_reckoned 108 = .ok (.if_icmp .ne 14, 3) := by decide +kernel
theorem dX2_reckoned_111 : decode cX2_reckoned 111 = .ok (.aload_n 0, 1) := by decide +kernel
theorem dX2_reckoned_112 : decode cX2_reckoned 112 = .ok (.getfield 30, 3) := by decide +kernel
theorem dX2_reckoned_115 : decode cX2_reckoned 115 = .ok (.iload_n 2, 1) := by decide +kernel
theorem dX2_reckoned_116 : decode cX2_reckoned 116 = .ok (.iconst 1, 1) := by decide +kernel
theorem dX2_reckoned_117 : decode cX2_reckoned 117 = .ok (.isub, 1) := by decide +kernel
theorem dX2_reckoned_118 : decode cX2_reckoned 118 = .ok (.laload, 1) := by decide +kernel
theorem dX2_reckoned_119 : decode cX2_reckoned 119 = .ok (.goto 4, 3) := by decide +kernel
theorem dX2_reckoned_122 : decode cX2_reckoned 122 = .ok (.lconst 0, 1) := by decide +kernel
theorem dX2_reckoned_123 : decode cX2_reckoned 123 = .ok (.ladd, 1) := by decide +kernel
theorem dX2_reckoned_124 : decode cX2_reckoned 124 = .ok (.lreturn, 1) := by decide +kernel
set_option maxRecDepth 20000 in
theorem ggX2_again_X2_reckoned : GoodIn wsX2_again wsX2_reckoned := goodIn_r _ [6, 7, 8, 9, 10, 11, 12, 13, 14, 15, 5, 16, 17, 18, 19, 20, 21, 22, 23, 24, 25, 26, 27, 28, 29, 30, 31, 32, 33, 34, 35, 36, 37, 38, 39, 40, 41, 42] (by decide +kernel) (by decide +kernel)
set_option maxRecDepth 20000 in
theorem gX2_again_X2_reckoned : GoodIn wsX2_again (wsV RX2 57 RX2 yX2_reckoned wsX2_reckoned) := goodIn_app (goodIn_of _ (by decide +kernel)) ggX2_again_X2_reckoned
theorem dX2_again_0 : decode cX2_again 0 = .ok (.aload_n 0, 1) := by decide +kernel
theorem dX2_again_1 : decode cX2_again 1 = .ok (.iconst 0, 1) := by decide +kernel
theorem dX2_again_2 : decode cX2_again 2 = .ok (.putfield 33, 3) := by decide +kernel
theorem dX2_again_5 : decode cX2_again 5 = .ok (.aload_n 0, 1) := by decide +kernel
theorem dX2_again_6 : decode cX2_again 6 = .ok (.iload_n 1, 1) := by decide +kernel
theorem dX2_again_7 : decode cX2_again 7 = .ok (.iload_n 2, 1) := by decide +kernel
theorem dX2_again_8 : decode cX2_again 8 = .ok (.lload_n 3, 1) := by decide +kernel
theorem dX2_again_9 : decode cX2_again 9 = .ok (.invokevirtual 57, 3) := by decide +kernel
theorem dX2_again_12 : decode cX2_again 12 = .ok (.lreturn, 1) := by decide +kernel
set_option maxRecDepth 20000 in
theorem ggX2_call_X2_reckoned : GoodIn wsX2_call wsX2_reckoned := goodIn_r _ [18, 9, 2, 19, 4, 20, 6, 21, 22, 23, 17, 24, 25, 26, 8, 5, 27, 28, 29, 30, 31, 32, 33, 34, 35, 36, 37, 38, 39, 40, 41, 42, 43, 44, 45, 46, 47, 48] (by decide +kernel) (by decide +kernel)
set_option maxRecDepth 20000 in
theorem gX2_call_X2_reckoned : GoodIn wsX2_call (wsV RX2 57 RX2 yX2_reckoned wsX2_reckoned) := goodIn_app (goodIn_of _ (by decide +kernel)) ggX2_call_X2_reckoned
set_option maxRecDepth 20000 in
theorem ggX2_call_X2_rowOf : GoodIn wsX2_call wsX2_rowOf := goodIn_r _ [32] (by decide +kernel) (by decide +kernel)
set_option maxRecDepth 20000 in
theorem gX2_call_X2_rowOf : GoodIn wsX2_call (va_wsS RX2 46 yX2_rowOf wsX2_rowOf) := goodIn_app (goodIn_of _ (by decide +kernel)) ggX2_call_X2_rowOf
theorem dX2_call_0 : decode cX2_call 0 = .ok (.aload_n 0, 1) := by decide +kernel
theorem dX2_call_1 : decode cX2_call 1 = .ok (.iconst 0, 1) := by decide +kernel
theorem dX2_call_2 : decode cX2_call 2 = .ok (.putfield 33, 3) := by decide +kernel
theorem dX2_call_5 : decode cX2_call 5 = .ok (.aload_n 0, 1) := by decide +kernel
theorem dX2_call_6 : decode cX2_call 6 = .ok (.iload_n 1, 1) := by decide +kernel
theorem dX2_call_7 : decode cX2_call 7 = .ok (.iload_n 2, 1) := by decide +kernel
theorem dX2_call_8 : decode cX2_call 8 = .ok (.lload_n 3, 1) := by decide +kernel
theorem dX2_call_9 : decode cX2_call 9 = .ok (.invokevirtual 57, 3) := by decide +kernel
theorem dX2_call_12 : decode cX2_call 12 = .ok (.lstore 5, 2) := by decide +kernel
theorem dX2_call_14 : decode cX2_call 14 = .ok (.aload_n 0, 1) := by decide +kernel
theorem dX2_call_15 : decode cX2_call 15 = .ok (.getfield 54, 3) := by decide +kernel
theorem dX2_call_18 : decode cX2_call 18 = .ok (.iconst 2, 1) := by decide +kernel
theorem dX2_call_19 : decode cX2_call 19 = .ok (.if_icmp .ne 16, 3) := by decide +kernel
theorem dX2_call_22 : decode cX2_call 22 = .ok (.aload_n 0, 1) := by decide +kernel
theorem dX2_call_23 : decode cX2_call 23 = .ok (.dup, 1) := by decide +kernel
theorem dX2_call_24 : decode cX2_call 24 = .ok (.getfield 61, 3) := by decide +kernel
theorem dX2_call_27 : decode cX2_call 27 = .ok (.iconst 1, 1) := by decide +kernel
theorem dX2_call_28 : decode cX2_call 28 = .ok (.iadd, 1) := by decide +kernel
theorem dX2_call_29 : decode cX2_call 29 = .ok (.putfield 61, 3) := by decide +kernel
theorem dX2_call_32 : decode cX2_call 32 = .ok (.lload 5, 2) := by decide +kernel
theorem dX2_call_34 : decode cX2_call 34 = .ok (.lreturn, 1) := by decide +kernel
theorem dX2_call_35 : decode cX2_call 35 = .ok (.iload_n 1, 1) := by decide +kernel
theorem dX2_call_36 : decode cX2_call 36 = .ok (.invokestatic 46, 3) := by decide +kernel
theorem dX2_call_39 : decode cX2_call 39 = .ok (.istore 7, 2) := by decide +kernel
theorem dX2_call_41 : decode cX2_call 41 = .ok (.iload 7, 2) := by decide +kernel
theorem dX2_call_43 : decode cX2_call 43 = .ok (.iconst (-1), 1) := by decide +kernel
theorem dX2_call_44 : decode cX2_call 44 = .ok (.if_icmp .eq 19, 3) := by decide +kernel
theorem dX2_call_47 : decode cX2_call 47 = .ok (.aload_n 0, 1) := by decide +kernel
theorem dX2_call_48 : decode cX2_call 48 = .ok (.getfield 7, 3) := by decide +kernel
theorem dX2_call_51 : decode cX2_call 51 = .ok (.iload 7, 2) := by decide +kernel
theorem dX2_call_53 : decode cX2_call 53 = .ok (.lconst 0, 1) := by decide +kernel
theorem dX2_call_54 : decode cX2_call 54 = .ok (.lastore, 1) := by decide +kernel
theorem dX2_call_55 : decode cX2_call 55 = .ok (.aload_n 0, 1) := by decide +kernel
theorem dX2_call_56 : decode cX2_call 56 = .ok (.getfield 13, 3) := by decide +kernel
theorem dX2_call_59 : decode cX2_call 59 = .ok (.iload 7, 2) := by decide +kernel
theorem dX2_call_61 : decode cX2_call 61 = .ok (.iconst 0, 1) := by decide +kernel
theorem dX2_call_62 : decode cX2_call 62 = .ok (.iastore, 1) := by decide +kernel
theorem dX2_call_63 : decode cX2_call 63 = .ok (.aload_n 0, 1) := by decide +kernel
theorem dX2_call_64 : decode cX2_call 64 = .ok (.getfield 54, 3) := by decide +kernel
theorem dX2_call_67 : decode cX2_call 67 = .ok (.ifCond .ne 28, 3) := by decide +kernel
theorem dX2_call_70 : decode cX2_call 70 = .ok (.aload_n 0, 1) := by decide +kernel
theorem dX2_call_71 : decode cX2_call 71 = .ok (.getfield 30, 3) := by decide +kernel
theorem dX2_call_74 : decode cX2_call 74 = .ok (.iload_n 2, 1) := by decide +kernel
theorem dX2_call_75 : decode cX2_call 75 = .ok (.iconst 1, 1) := by decide +kernel
theorem dX2_call_76 : decode cX2_call 76 = .ok (.isub, 1) := by decide +kernel
theorem dX2_call_77 : decode cX2_call 77 = .ok (.dup2, 1) := by decide +kernel
theorem dX2_call_78 : decode cX2_call 78 = .ok (.laload, 1) := by decide +kernel
theorem dX2_call_79 : decode cX2_call 79 = .ok (.lconst 1, 1) := by decide +kernel
theorem dX2_call_80 : decode cX2_call 80 = .ok (.ladd, 1) := by decide +kernel
theorem dX2_call_81 : decode cX2_call 81 = .ok (.lastore, 1) := by decide +kernel
theorem dX2_call_82 : decode cX2_call 82 = .ok (.aload_n 0, 1) := by decide +kernel
theorem dX2_call_83 : decode cX2_call 83 = .ok (.dup, 1) := by decide +kernel
theorem dX2_call_84 : decode cX2_call 84 = .ok (.getfield 64, 3) := by decide +kernel
theorem dX2_call_87 : decode cX2_call 87 = .ok (.iconst 1, 1) := by decide +kernel
theorem dX2_call_88 : decode cX2_call 88 = .ok (.iadd, 1) := by decide +kernel
theorem dX2_call_89 : decode cX2_call 89 = .ok (.putfield 64, 3) := by decide +kernel
theorem dX2_call_92 : decode cX2_call 92 = .ok (.goto 42, 3) := by decide +kernel
theorem dX2_call_95 : decode cX2_call 95 = .ok (.aload_n 0, 1) := by decide +kernel
theorem dX2_call_96 : decode cX2_call 96 = .ok (.getfield 26, 3) := by decide +kernel
theorem dX2_call_99 : decode cX2_call 99 = .ok (.iload_n 2, 1) := by decide +kernel
theorem dX2_call_100 : decode cX2_call 100 = .ok (.iconst 1, 1) := by decide +kernel
theorem dX2_call_101 : decode cX2_call 101 = .ok (.isub, 1) := by decide +kernel
theorem dX2_call_102 : decode cX2_call 102 = .ok (.iconst 0, 1) := by decide +kernel
theorem dX2_call_103 : decode cX2_call 103 = .ok (.bastore, 1) := by decide +kernel
theorem dX2_call_104 : decode cX2_call 104 = .ok (.aload_n 0, 1) := by decide +kernel
theorem dX2_call_105 : decode cX2_call 105 = .ok (.aload_n 0, 1) := by decide +kernel
theorem dX2_call_106 : decode cX2_call 106 = .ok (.getfield 20, 3) := by decide +kernel
theorem dX2_call_109 : decode cX2_call 109 = .ok (.iload_n 1, 1) := by decide +kernel
theorem dX2_call_110 : decode cX2_call 110 = .ok (.iaload, 1) := by decide +kernel
theorem dX2_call_111 : decode cX2_call 111 = .ok (.putfield 67, 3) := by decide +kernel
theorem dX2_call_114 : decode cX2_call 114 = .ok (.aload_n 0, 1) := by decide +kernel
theorem dX2_call_115 : decode cX2_call 115 = .ok (.iload_n 1, 1) := by decide +kernel
theorem dX2_call_116 : decode cX2_call 116 = .ok (.putfield 70, 3) := by decide +kernel
theorem dX2_call_119 : decode cX2_call 119 = .ok (.aload_n 0, 1) := by decide +kernel
theorem dX2_call_120 : decode cX2_call 120 = .ok (.iload_n 2, 1) := by decide +kernel
theorem dX2_call_121 : decode cX2_call 121 = .ok (.putfield 73, 3) := by decide +kernel
theorem dX2_call_124 : decode cX2_call 124 = .ok (.aload_n 0, 1) := by decide +kernel
theorem dX2_call_125 : decode cX2_call 125 = .ok (.dup, 1) := by decide +kernel
theorem dX2_call_126 : decode cX2_call 126 = .ok (.getfield 76, 3) := by decide +kernel
theorem dX2_call_129 : decode cX2_call 129 = .ok (.iconst 1, 1) := by decide +kernel
theorem dX2_call_130 : decode cX2_call 130 = .ok (.iadd, 1) := by decide +kernel
theorem dX2_call_131 : decode cX2_call 131 = .ok (.putfield 76, 3) := by decide +kernel
theorem dX2_call_134 : decode cX2_call 134 = .ok (.lload 5, 2) := by decide +kernel
theorem dX2_call_136 : decode cX2_call 136 = .ok (.lreturn, 1) := by decide +kernel
theorem dX2_told_0 : decode cX2_told 0 = .ok (.aload_n 0, 1) := by decide +kernel
theorem dX2_told_1 : decode cX2_told 1 = .ok (.iconst 0, 1) := by decide +kernel
theorem dX2_told_2 : decode cX2_told 2 = .ok (.putfield 33, 3) := by decide +kernel
theorem dX2_told_5 : decode cX2_told 5 = .ok (.iload_n 1, 1) := by decide +kernel
theorem dX2_told_6 : decode cX2_told 6 = .ok (.tableswitch 68 0 5 #[38, 43, 48, 53, 58, 63], 38) := by decide +kernel
theorem dX2_told_44 : decode cX2_told 44 = .ok (.aload_n 0, 1) := by decide +kernel
theorem dX2_told_45 : decode cX2_told 45 = .ok (.getfield 67, 3) := by decide +kernel
theorem dX2_told_48 : decode cX2_told 48 = .ok (.ireturn, 1) := by decide +kernel
theorem dX2_told_49 : decode cX2_told 49 = .ok (.aload_n 0, 1) := by decide +kernel
theorem dX2_told_50 : decode cX2_told 50 = .ok (.getfield 70, 3) := by decide +kernel
theorem dX2_told_53 : decode cX2_told 53 = .ok (.ireturn, 1) := by decide +kernel
theorem dX2_told_54 : decode cX2_told 54 = .ok (.aload_n 0, 1) := by decide +kernel
theorem dX2_told_55 : decode cX2_told 55 = .ok (.getfield 73, 3) := by decide +kernel
theorem dX2_told_58 : decode cX2_told 58 = .ok (.ireturn, 1) := by decide +kernel
theorem dX2_told_59 : decode cX2_told 59 = .ok (.aload_n 0, 1) := by decide +kernel
theorem dX2_told_60 : decode cX2_told 60 = .ok (.getfield 76, 3) := by decide +kernel
theorem dX2_told_63 : decode cX2_told 63 = .ok (.ireturn, 1) := by decide +kernel
theorem dX2_told_64 : decode cX2_told 64 = .ok (.aload_n 0, 1) := by decide +kernel
theorem dX2_told_65 : decode cX2_told 65 = .ok (.getfield 61, 3) := by decide +kernel
theorem dX2_told_68 : decode cX2_told 68 = .ok (.ireturn, 1) := by decide +kernel
theorem dX2_told_69 : decode cX2_told 69 = .ok (.aload_n 0, 1) := by decide +kernel
theorem dX2_told_70 : decode cX2_told 70 = .ok (.getfield 64, 3) := by decide +kernel
theorem dX2_told_73 : decode cX2_told 73 = .ok (.ireturn, 1) := by decide +kernel
theorem dX2_told_74 : decode cX2_told 74 = .ok (.iconst (-1), 1) := by decide +kernel
theorem dX2_told_75 : decode cX2_told 75 = .ok (.ireturn, 1) := by decide +kernel
theorem dX2_drop_0 : decode cX2_drop 0 = .ok (.aload_n 0, 1) := by decide +kernel
theorem dX2_drop_1 : decode cX2_drop 1 = .ok (.iconst 0, 1) := by decide +kernel
theorem dX2_drop_2 : decode cX2_drop 2 = .ok (.putfield 33, 3) := by decide +kernel
theorem dX2_drop_5 : decode cX2_drop 5 = .ok (.iload_n 1, 1) := by decide +kernel
theorem dX2_drop_6 : decode cX2_drop 6 = .ok (.iconst 1, 1) := by decide +kernel
theorem dX2_drop_7 : decode cX2_drop 7 = .ok (.if_icmp .lt 22, 3) := by decide +kernel
theorem dX2_drop_10 : decode cX2_drop 10 = .ok (.iload_n 1, 1) := by decide +kernel
theorem dX2_drop_11 : decode cX2_drop 11 = .ok (.aload_n 0, 1) := by decide +kernel
theorem dX2_drop_12 : decode cX2_drop 12 = .ok (.getfield 41, 3) := by decide +kernel
theorem dX2_drop_15 : decode cX2_drop 15 = .ok (.if_icmp .gt 14, 3) := by decide +kernel
theorem dX2_drop_18 : decode cX2_drop 18 = .ok (.aload_n 0, 1) := by decide +kernel
theorem dX2_drop_19 : decode cX2_drop 19 = .ok (.getfield 26, 3) := by decide +kernel
theorem dX2_drop_22 : decode cX2_drop 22 = .ok (.iload_n 1, 1) := by decide +kernel
theorem dX2_drop_23 : decode cX2_drop 23 = .ok (.iconst 1, 1) := by decide +kernel
theorem dX2_drop_24 : decode cX2_drop 24 = .ok (.isub, 1) := by decide +kernel
theorem dX2_drop_25 : decode cX2_drop 25 = .ok (.baload, 1) := by decide +kernel
theorem dX2_drop_26 : decode cX2_drop 26 = .ok (.ifCond .ne 5, 3) := by decide +kernel
theorem dX2_drop_29 : decode cX2_drop 29 = .ok (.iconst 0, 1) := by decide +kernel
theorem dX2_drop_30 : decode cX2_drop 30 = .ok (.ireturn, 1) := by decide +kernel
theorem dX2_drop_31 : decode cX2_drop 31 = .ok (.aload_n 0, 1) := by decide +kernel
theorem dX2_drop_32 : decode cX2_drop 32 = .ok (.getfield 26, 3) := by decide +kernel
theorem dX2_drop_35 : decode cX2_drop 35 = .ok (.iload_n 1, 1) := by decide +kernel
theorem dX2_drop_36 : decode cX2_drop 36 = .ok (.iconst 1, 1) := by decide +kernel
theorem dX2_drop_37 : decode cX2_drop 37 = .ok (.isub, 1) := by decide +kernel
theorem dX2_drop_38 : decode cX2_drop 38 = .ok (.iconst 0, 1) := by decide +kernel
theorem dX2_drop_39 : decode cX2_drop 39 = .ok (.bastore, 1) := by decide +kernel
theorem dX2_drop_40 : decode cX2_drop 40 = .ok (.iconst 1, 1) := by decide +kernel
theorem dX2_drop_41 : decode cX2_drop 41 = .ok (.ireturn, 1) := by decide +kernel
set_option maxRecDepth 20000 in
theorem ggX2_numbers_X2_below : GoodIn wsX2_numbers wsX2_below := goodIn_r _ [8] (by decide +kernel) (by decide +kernel)
set_option maxRecDepth 20000 in
theorem gX2_numbers_X2_below : GoodIn wsX2_numbers (va_wsS RX2 37 yX2_below wsX2_below) := goodIn_app (goodIn_of _ (by decide +kernel)) ggX2_numbers_X2_below
theorem dX2_numbers_0 : decode cX2_numbers 0 = .ok (.aload_n 0, 1) := by decide +kernel
theorem dX2_numbers_1 : decode cX2_numbers 1 = .ok (.iconst 0, 1) := by decide +kernel
theorem dX2_numbers_2 : decode cX2_numbers 2 = .ok (.putfield 33, 3) := by decide +kernel
theorem dX2_numbers_5 : decode cX2_numbers 5 = .ok (.iload_n 1, 1) := by decide +kernel
theorem dX2_numbers_6 : decode cX2_numbers 6 = .ok (.bipush 8, 2) := by decide +kernel
theorem dX2_numbers_8 : decode cX2_numbers 8 = .ok (.invokestatic 37, 3) := by decide +kernel
theorem dX2_numbers_11 : decode cX2_numbers 11 = .ok (.ifCond .ne 5, 3) := by decide +kernel
theorem dX2_numbers_14 : decode cX2_numbers 14 = .ok (.iconst (-1), 1) := by decide +kernel
theorem dX2_numbers_15 : decode cX2_numbers 15 = .ok (.ireturn, 1) := by decide +kernel
theorem dX2_numbers_16 : decode cX2_numbers 16 = .ok (.iconst 0, 1) := by decide +kernel
theorem dX2_numbers_17 : decode cX2_numbers 17 = .ok (.istore_n 2, 1) := by decide +kernel
theorem dX2_numbers_18 : decode cX2_numbers 18 = .ok (.iconst 0, 1) := by decide +kernel
theorem dX2_numbers_19 : decode cX2_numbers 19 = .ok (.istore_n 3, 1) := by decide +kernel
theorem dX2_numbers_20 : decode cX2_numbers 20 = .ok (.iload_n 3, 1) := by decide +kernel
theorem dX2_numbers_21 : decode cX2_numbers 21 = .ok (.aload_n 0, 1) := by decide +kernel
theorem dX2_numbers_22 : decode cX2_numbers 22 = .ok (.getfield 41, 3) := by decide +kernel
theorem dX2_numbers_25 : decode cX2_numbers 25 = .ok (.if_icmp .ge 31, 3) := by decide +kernel
theorem dX2_numbers_28 : decode cX2_numbers 28 = .ok (.aload_n 0, 1) := by decide +kernel
theorem dX2_numbers_29 : decode cX2_numbers 29 = .ok (.getfield 26, 3) := by decide +kernel
theorem dX2_numbers_32 : decode cX2_numbers 32 = .ok (.iload_n 3, 1) := by decide +kernel
theorem dX2_numbers_33 : decode cX2_numbers 33 = .ok (.baload, 1) := by decide +kernel
theorem dX2_numbers_34 : decode cX2_numbers 34 = .ok (.ifCond .eq 16, 3) := by decide +kernel
theorem dX2_numbers_37 : decode cX2_numbers 37 = .ok (.aload_n 0, 1) := by decide +kernel
theorem dX2_numbers_38 : decode cX2_numbers 38 = .ok (.getfield 23, 3) := by decide +kernel
theorem dX2_numbers_41 : decode cX2_numbers 41 = .ok (.iload_n 3, 1) := by decide +kernel
theorem dX2_numbers_42 : decode cX2_numbers 42 = .ok (.iaload, 1) := by decide +kernel
theorem dX2_numbers_43 : decode cX2_numbers 43 = .ok (.iload_n 1, 1) := by decide +kernel
theorem dX2_numbers_44 : decode cX2_numbers 44 = .ok (.if_icmp .ne 6, 3) := by decide +kernel
theorem dX2_numbers_47 : decode cX2_numbers 47 = .ok (.iinc 2 1, 3) := by decide +kernel
theorem dX2_numbers_50 : decode cX2_numbers 50 = .ok (.iinc 3 1, 3) := by decide +kernel
theorem dX2_numbers_53 : decode cX2_numbers 53 = .ok (.goto (-33), 3) := by decide +kernel
theorem dX2_numbers_56 : decode cX2_numbers 56 = .ok (.iload_n 2, 1) := by decide +kernel
theorem dX2_numbers_57 : decode cX2_numbers 57 = .ok (.ireturn, 1) := by decide +kernel
end
section
set_option maxRecDepth 20000 in
theorem ggL_law_X1_init : GoodIn wsL_law wsX1_init := goodIn_r _ [8, 9, 10, 11, 12, 13, 14, 15, 16, 17, 18, 19, 20, 21, 22, 23, 24, 25, 26, 169, 170, 171, 172, 173, 174, 175, 176, 177, 178, 179, 180] (by decide +kernel) (by decide +kernel)
set_option maxRecDepth 20000 in
theorem gL_law_X1_init : GoodIn wsL_law (wsX1_init) := ggL_law_X1_init
set_option maxRecDepth 20000 in
theorem ggL_law_X2_init : GoodIn wsL_law wsX2_init := goodIn_r _ [29, 30, 10, 11, 17, 31, 15, 32, 33, 34, 35, 36, 37, 38, 181, 182, 183, 184, 185, 186, 187, 188, 189, 190, 191, 192, 193, 194, 195, 196] (by decide +kernel) (by decide +kernel)
set_option maxRecDepth 20000 in
theorem gL_law_X2_init : GoodIn wsL_law (wsX2_init) := ggL_law_X2_init
set_option maxRecDepth 20000 in
theorem ggL_law_X1_collect : GoodIn wsL_law wsX1_collect := goodIn_r _ [42, 16, 18, 43, 44, 2, 45, 169, 170, 171, 172, 173, 174, 175, 176, 177, 178, 179, 180] (by decide +kernel) (by decide +kernel)
set_option maxRecDepth 20000 in
theorem gL_law_X1_collect : GoodIn wsL_law (wsV RL 15 RX1 yX1_collect wsX1_collect) := goodIn_app (goodIn_of _ (by decide +kernel)) ggL_law_X1_collect
set_option maxRecDepth 20000 in
theorem ggL_law_X2_collect : GoodIn wsL_law wsX2_collect := goodIn_r _ [49, 50, 32, 31, 51, 52, 5, 53, 181, 182, 183, 184, 185, 186, 187, 188, 189, 190, 191, 192, 193, 194, 195, 196] (by decide +kernel) (by decide +kernel)
set_option maxRecDepth 20000 in
theorem gL_law_X2_collect : GoodIn wsL_law (wsV RL 19 RX2 yX2_collect wsX2_collect) := goodIn_app (goodIn_of _ (by decide +kernel)) ggL_law_X2_collect
set_option maxRecDepth 20000 in
theorem ggL_law_X1_answer : GoodIn wsL_law wsX1_answer := goodIn_r _ [57, 19, 43, 44, 2, 45, 169, 170, 171, 172, 173, 174, 175, 176, 177, 178, 179, 180] (by decide +kernel) (by decide +kernel)
set_option maxRecDepth 20000 in
theorem gL_law_X1_answer : GoodIn wsL_law (wsV RL 20 RX1 yX1_answer wsX1_answer) := goodIn_app (goodIn_of _ (by decide +kernel)) ggL_law_X1_answer
set_option maxRecDepth 20000 in
theorem ggL_law_X2_answer : GoodIn wsL_law wsX2_answer := goodIn_r _ [61, 50, 33, 51, 52, 5, 53, 181, 182, 183, 184, 185, 186, 187, 188, 189, 190, 191, 192, 193, 194, 195, 196] (by decide +kernel) (by decide +kernel)
set_option maxRecDepth 20000 in
theorem gL_law_X2_answer : GoodIn wsL_law (wsV RL 23 RX2 yX2_answer wsX2_answer) := goodIn_app (goodIn_of _ (by decide +kernel)) ggL_law_X2_answer
set_option maxRecDepth 20000 in
theorem ggL_law_X1_fails : GoodIn wsL_law wsX1_fails := goodIn_r _ [65, 20, 43, 44, 2, 45, 169, 170, 171, 172, 173, 174, 175, 176, 177, 178, 179, 180] (by decide +kernel) (by decide +kernel)
set_option maxRecDepth 20000 in
theorem gL_law_X1_fails : GoodIn wsL_law (wsV RL 24 RX1 yX1_fails wsX1_fails) := goodIn_app (goodIn_of _ (by decide +kernel)) ggL_law_X1_fails
set_option maxRecDepth 20000 in
theorem ggL_law_X2_fails : GoodIn wsL_law wsX2_fails := goodIn_r _ [69, 50, 34, 51, 52, 5, 53, 181, 182, 183, 184, 185, 186, 187, 188, 189, 190, 191, 192, 193, 194, 195, 196] (by decide +kernel) (by decide +kernel)
set_option maxRecDepth 20000 in
theorem gL_law_X2_fails : GoodIn wsL_law (wsV RL 28 RX2 yX2_fails wsX2_fails) := goodIn_app (goodIn_of _ (by decide +kernel)) ggL_law_X2_fails
set_option maxRecDepth 20000 in
theorem ggL_law_X1_make : GoodIn wsL_law wsX1_make := goodIn_r _ [73, 14, 13, 12, 74, 75, 43, 44, 2, 45, 76, 77, 78, 10, 11, 79, 80, 81, 169, 170, 171, 172, 173, 174, 175, 176, 177, 178, 179, 180, 197, 198, 199] (by decide +kernel) (by decide +kernel)
set_option maxRecDepth 20000 in
theorem gL_law_X1_make : GoodIn wsL_law (wsV RL 29 RX1 yX1_make wsX1_make) := goodIn_app (goodIn_of _ (by decide +kernel)) ggL_law_X1_make
set_option maxRecDepth 20000 in
theorem ggL_law_X2_make : GoodIn wsL_law wsX2_make := goodIn_r _ [85, 50, 86, 35, 37, 38, 51, 52, 5, 53, 181, 182, 183, 184, 185, 186, 187, 188, 189, 190, 191, 192, 193, 194, 195, 196] (by decide +kernel) (by decide +kernel)
set_option maxRecDepth 20000 in
theorem gL_law_X2_make : GoodIn wsL_law (wsV RL 33 RX2 yX2_make wsX2_make) := goodIn_app (goodIn_of _ (by decide +kernel)) ggL_law_X2_make
set_option maxRecDepth 20000 in
theorem ggL_law_X1_call : GoodIn wsL_law wsX1_call := goodIn_r _ [90, 25, 20, 26, 91, 92, 93, 2, 94, 14, 13, 95, 96, 97, 98, 99, 16, 43, 44, 45, 100, 101, 102, 103, 104, 105, 106, 19, 18, 107, 108, 109, 110, 111, 112, 113, 114, 115, 116, 117, 21, 22, 23, 24, 169, 170, 171, 172, 173, 174, 175, 176, 177, 178, 179, 180, 197, 198, 199] (by decide +kernel) (by decide +kernel)
set_option maxRecDepth 20000 in
theorem gL_law_X1_call : GoodIn wsL_law (wsV RL 34 RX1 yX1_call wsX1_call) := goodIn_app (goodIn_of _ (by decide +kernel)) ggL_law_X1_call
set_option maxRecDepth 20000 in
theorem ggL_law_X2_call : GoodIn wsL_law wsX2_call := goodIn_r _ [121, 50, 122, 123, 31, 32, 38, 124, 37, 34, 125, 126, 127, 128, 129, 130, 131, 5, 132, 33, 35, 133, 134, 135, 136, 86, 137, 51, 52, 53, 138, 139, 140, 181, 182, 183, 184, 185, 186, 187, 188, 189, 190, 191, 192, 193, 194, 195, 196] (by decide +kernel) (by decide +kernel)
set_option maxRecDepth 20000 in
theorem gL_law_X2_call : GoodIn wsL_law (wsV RL 38 RX2 yX2_call wsX2_call) := goodIn_app (goodIn_of _ (by decide +kernel)) ggL_law_X2_call
set_option maxRecDepth 20000 in
theorem ggL_law_X1_told : GoodIn wsL_law wsX1_told := goodIn_r _ [144, 21, 22, 23, 24, 25, 26, 169, 170, 171, 172, 173, 174, 175, 176, 177, 178, 179, 180] (by decide +kernel) (by decide +kernel)
set_option maxRecDepth 20000 in
theorem gL_law_X1_told : GoodIn wsL_law (wsV RL 39 RX1 yX1_told wsX1_told) := goodIn_app (goodIn_of _ (by decide +kernel)) ggL_law_X1_told
set_option maxRecDepth 20000 in
theorem ggL_law_X2_told : GoodIn wsL_law wsX2_told := goodIn_r _ [148, 50, 125, 126, 127, 128, 123, 124, 181, 182, 183, 184, 185, 186, 187, 188, 189, 190, 191, 192, 193, 194, 195, 196] (by decide +kernel) (by decide +kernel)
set_option maxRecDepth 20000 in
theorem gL_law_X2_told : GoodIn wsL_law (wsV RL 42 RX2 yX2_told wsX2_told) := goodIn_app (goodIn_of _ (by decide +kernel)) ggL_law_X2_told
set_option maxRecDepth 20000 in
theorem ggL_law_X1_drop : GoodIn wsL_law wsX1_drop := goodIn_r _ [152, 91, 92, 93, 2, 94, 14, 13, 197, 198, 199, 169, 170, 171, 172, 173, 174, 175, 176, 177, 178, 179, 180] (by decide +kernel) (by decide +kernel)
set_option maxRecDepth 20000 in
theorem gL_law_X1_drop : GoodIn wsL_law (wsV RL 43 RX1 yX1_drop wsX1_drop) := goodIn_app (goodIn_of _ (by decide +kernel)) ggL_law_X1_drop
set_option maxRecDepth 20000 in
theorem ggL_law_X2_drop : GoodIn wsL_law wsX2_drop := goodIn_r _ [156, 50, 86, 37, 181, 182, 183, 184, 185, 186, 187, 188, 189, 190, 191, 192, 193, 194, 195, 196] (by decide +kernel) (by decide +kernel)
set_option maxRecDepth 20000 in
theorem gL_law_X2_drop : GoodIn wsL_law (wsV RL 47 RX2 yX2_drop wsX2_drop) := goodIn_app (goodIn_of _ (by decide +kernel)) ggL_law_X2_drop
set_option maxRecDepth 20000 in
theorem ggL_law_X1_numbers : GoodIn wsL_law wsX1_numbers := goodIn_r _ [160, 14, 43, 44, 2, 45, 91, 92, 93, 94, 13, 169, 170, 171, 172, 173, 174, 175, 176, 177, 178, 179, 180, 197, 198, 199] (by decide +kernel) (by decide +kernel)
set_option maxRecDepth 20000 in
theorem gL_law_X1_numbers : GoodIn wsL_law (wsV RL 48 RX1 yX1_numbers wsX1_numbers) := goodIn_app (goodIn_of _ (by decide +kernel)) ggL_law_X1_numbers
set_option maxRecDepth 20000 in
theorem ggL_law_X1_again : GoodIn wsL_law wsX1_again := goodIn_r _ [164, 91, 92, 93, 2, 94, 14, 13, 95, 96, 97, 98, 99, 16, 43, 44, 45, 100, 101, 102, 103, 104, 105, 106, 20, 19, 18, 107, 108, 109, 169, 170, 171, 172, 173, 174, 175, 176, 177, 178, 179, 180, 197, 198, 199] (by decide +kernel) (by decide +kernel)
set_option maxRecDepth 20000 in
theorem gL_law_X1_again : GoodIn wsL_law (wsV RL 52 RX1 yX1_again wsX1_again) := goodIn_app (goodIn_of _ (by decide +kernel)) ggL_law_X1_again
set_option maxRecDepth 20000 in
theorem ggL_law_X2_again : GoodIn wsL_law wsX2_again := goodIn_r _ [168, 50, 129, 130, 131, 5, 132, 34, 122, 33, 31, 35, 38, 133, 134, 135, 136, 86, 137, 37, 32, 51, 52, 53, 138, 139, 140, 181, 182, 183, 184, 185, 186, 187, 188, 189, 190, 191, 192, 193, 194, 195, 196] (by decide +kernel) (by decide +kernel)
set_option maxRecDepth 20000 in
theorem gL_law_X2_again : GoodIn wsL_law (wsV RL 55 RX2 yX2_again wsX2_again) := goodIn_app (goodIn_of _ (by decide +kernel)) ggL_law_X2_again
theorem dL_law_0 : decode cL_law 0 = .ok (.new 7, 3) := by decide +kernel
theorem dL_law_3 : decode cL_law 3 = .ok (.dup, 1) := by decide +kernel
theorem dL_law_4 : decode cL_law 4 = .ok (.invokespecial 9, 3) := by decide +kernel
theorem dL_law_7 : decode cL_law 7 = .ok (.astore_n 1, 1) := by decide +kernel
theorem dL_law_8 : decode cL_law 8 = .ok (.new 10, 3) := by decide +kernel
theorem dL_law_11 : decode cL_law 11 = .ok (.dup, 1) := by decide +kernel
theorem dL_law_12 : decode cL_law 12 = .ok (.invokespecial 12, 3) := by decide +kernel
theorem dL_law_15 : decode cL_law 15 = .ok (.astore_n 2, 1) := by decide +kernel
theorem dL_law_16 : decode cL_law 16 = .ok (.iconst 0, 1) := by decide +kernel
theorem dL_law_17 : decode cL_law 17 = .ok (.istore_n 3, 1) := by decide +kernel
theorem dL_law_18 : decode cL_law 18 = .ok (.iload_n 3, 1) := by decide +kernel
theorem dL_law_19 : decode cL_law 19 = .ok (.aload_n 0, 1) := by decide +kernel
theorem dL_law_20 : decode cL_law 20 = .ok (.arraylength, 1) := by decide +kernel
theorem dL_law_21 : decode cL_law 21 = .ok (.iconst 5, 1) := by decide +kernel
theorem dL_law_22 : decode cL_law 22 = .ok (.isub, 1) := by decide +kernel
theorem dL_law_23 : decode cL_law 23 = .ok (.if_icmp .gt 466, 3) := by decide +kernel
theorem dL_law_26 : decode cL_law 26 = .ok (.aload_n 0, 1) := by decide +kernel
theorem dL_law_27 : decode cL_law 27 = .ok (.iload_n 3, 1) := by decide +kernel
theorem dL_law_28 : decode cL_law 28 = .ok (.iaload, 1) := by decide +kernel
theorem dL_law_29 : decode cL_law 29 = .ok (.bipush 15, 2) := by decide +kernel
theorem dL_law_31 : decode cL_law 31 = .ok (.iand, 1) := by decide +kernel
theorem dL_law_32 : decode cL_law 32 = .ok (.tableswitch 451 0 8 #[52, 115, 178, 211, 234, 308, 331, 354, 377], 52) := by decide +kernel
theorem dL_law_84 : decode cL_law 84 = .ok (.aload_n 1, 1) := by decide +kernel
theorem dL_law_85 : decode cL_law 85 = .ok (.aload_n 0, 1) := by decide +kernel
theorem dL_law_86 : decode cL_law 86 = .ok (.iload_n 3, 1) := by decide +kernel
theorem dL_law_87 : decode cL_law 87 = .ok (.iconst 1, 1) := by decide +kernel
theorem dL_law_88 : decode cL_law 88 = .ok (.iadd, 1) := by decide +kernel
theorem dL_law_89 : decode cL_law 89 = .ok (.iaload, 1) := by decide +kernel
theorem dL_law_90 : decode cL_law 90 = .ok (.aload_n 0, 1) := by decide +kernel
theorem dL_law_91 : decode cL_law 91 = .ok (.iload_n 3, 1) := by decide +kernel
theorem dL_law_92 : decode cL_law 92 = .ok (.iconst 2, 1) := by decide +kernel
theorem dL_law_93 : decode cL_law 93 = .ok (.iadd, 1) := by decide +kernel
theorem dL_law_94 : decode cL_law 94 = .ok (.iaload, 1) := by decide +kernel
theorem dL_law_95 : decode cL_law 95 = .ok (.i2l, 1) := by decide +kernel
theorem dL_law_96 : decode cL_law 96 = .ok (.bipush 32, 2) := by decide +kernel
theorem dL_law_98 : decode cL_law 98 = .ok (.lshl, 1) := by decide +kernel
theorem dL_law_99 : decode cL_law 99 = .ok (.aload_n 0, 1) := by decide +kernel
theorem dL_law_100 : decode cL_law 100 = .ok (.iload_n 3, 1) := by decide +kernel
theorem dL_law_101 : decode cL_law 101 = .ok (.iconst 3, 1) := by decide +kernel
theorem dL_law_102 : decode cL_law 102 = .ok (.iadd, 1) := by decide +kernel
theorem dL_law_103 : decode cL_law 103 = .ok (.iaload, 1) := by decide +kernel
theorem dL_law_104 : decode cL_law 104 = .ok (.i2l, 1) := by decide +kernel
theorem dL_law_105 : decode cL_law 105 = .ok (.ldc2_w 13, 3) := by decide +kernel
theorem dL_law_108 : decode cL_law 108 = .ok (.land, 1) := by decide +kernel
theorem dL_law_109 : decode cL_law 109 = .ok (.lor, 1) := by decide +kernel
theorem dL_law_110 : decode cL_law 110 = .ok (.invokevirtual 15, 3) := by decide +kernel
theorem dL_law_113 : decode cL_law 113 = .ok (.aload_n 2, 1) := by decide +kernel
theorem dL_law_114 : decode cL_law 114 = .ok (.aload_n 0, 1) := by decide +kernel
theorem dL_law_115 : decode cL_law 115 = .ok (.iload_n 3, 1) := by decide +kernel
theorem dL_law_116 : decode cL_law 116 = .ok (.iconst 1, 1) := by decide +kernel
theorem dL_law_117 : decode cL_law 117 = .ok (.iadd, 1) := by decide +kernel
theorem dL_law_118 : decode cL_law 118 = .ok (.iaload, 1) := by decide +kernel
theorem dL_law_119 : decode cL_law 119 = .ok (.aload_n 0, 1) := by decide +kernel
theorem dL_law_120 : decode cL_law 120 = .ok (.iload_n 3, 1) := by decide +kernel
theorem dL_law_121 : decode cL_law 121 = .ok (.iconst 2, 1) := by decide +kernel
theorem dL_law_122 : decode cL_law 122 = .ok (.iadd, 1) := by decide +kernel
theorem dL_law_123 : decode cL_law 123 = .ok (.iaload, 1) := by decide +kernel
theorem dL_law_124 : decode cL_law 124 = .ok (.i2l, 1) := by decide +kernel
theorem dL_law_125 : decode cL_law 125 = .ok (.bipush 32, 2) := by decide +kernel
theorem dL_law_127 : decode cL_law 127 = .ok (.lshl, 1) := by decide +kernel
theorem dL_law_128 : decode cL_law 128 = .ok (.aload_n 0, 1) := by decide +kernel
theorem dL_law_129 : decode cL_law 129 = .ok (.iload_n 3, 1) := by decide +kernel
theorem dL_law_130 : decode cL_law 130 = .ok (.iconst 3, 1) := by decide +kernel
theorem dL_law_131 : decode cL_law 131 = .ok (.iadd, 1) := by decide +kernel
theorem dL_law_132 : decode cL_law 132 = .ok (.iaload, 1) := by decide +kernel
theorem dL_law_133 : decode cL_law 133 = .ok (.i2l, 1) := by decide +kernel
theorem dL_law_134 : decode cL_law 134 = .ok (.ldc2_w 13, 3) := by decide +kernel
theorem dL_law_137 : decode cL_law 137 = .ok (.land, 1) := by decide +kernel
theorem dL_law_138 : decode cL_law 138 = .ok (.lor, 1) := by decide +kernel
theorem dL_law_139 : decode cL_law 139 = .ok (.invokevirtual 19, 3) := by decide +kernel
theorem dL_law_142 : decode cL_law 142 = .ok (.if_icmp .eq 341, 3) := by decide +kernel
theorem dL_law_145 : decode cL_law 145 = .ok (.iconst 0, 1) := by decide +kernel
theorem dL_law_146 : decode cL_law 146 = .ok (.ireturn, 1) := by decide +kernel
theorem dL_law_147 : decode cL_law 147 = .ok (.aload_n 1, 1) := by decide +kernel
theorem dL_law_148 : decode cL_law 148 = .ok (.aload_n 0, 1) := by decide +kernel
theorem dL_law_149 : decode cL_law 149 = .ok (.iload_n 3, 1) := by decide +kernel
theorem dL_law_150 : decode cL_law 150 = .ok (.iconst 1, 1) := by decide +kernel
theorem dL_law_151 : decode cL_law 151 = .ok (.iadd, 1) := by decide +kernel
theorem dL_law_152 : decode cL_law 152 = .ok (.iaload, 1) := by decide +kernel
theorem dL_law_153 : decode cL_law 153 = .ok (.aload_n 0, 1) := by decide +kernel
theorem dL_law_154 : decode cL_law 154 = .ok (.iload_n 3, 1) := by decide +kernel
theorem dL_law_155 : decode cL_law 155 = .ok (.iconst 2, 1) := by decide +kernel
theorem dL_law_156 : decode cL_law 156 = .ok (.iadd, 1) := by decide +kernel
theorem dL_law_157 : decode cL_law 157 = .ok (.iaload, 1) := by decide +kernel
theorem dL_law_158 : decode cL_law 158 = .ok (.i2l, 1) := by decide +kernel
theorem dL_law_159 : decode cL_law 159 = .ok (.bipush 32, 2) := by decide +kernel
theorem dL_law_161 : decode cL_law 161 = .ok (.lshl, 1) := by decide +kernel
theorem dL_law_162 : decode cL_law 162 = .ok (.aload_n 0, 1) := by decide +kernel
theorem dL_law_163 : decode cL_law 163 = .ok (.iload_n 3, 1) := by decide +kernel
theorem dL_law_164 : decode cL_law 164 = .ok (.iconst 3, 1) := by decide +kernel
theorem dL_law_165 : decode cL_law 165 = .ok (.iadd, 1) := by decide +kernel
theorem dL_law_166 : decode cL_law 166 = .ok (.iaload, 1) := by decide +kernel
theorem dL_law_167 : decode cL_law 167 = .ok (.i2l, 1) := by decide +kernel
theorem dL_law_168 : decode cL_law 168 = .ok (.ldc2_w 13, 3) := by decide +kernel
theorem dL_law_171 : decode cL_law 171 = .ok (.land, 1) := by decide +kernel
theorem dL_law_172 : decode cL_law 172 = .ok (.lor, 1) := by decide +kernel
theorem dL_law_173 : decode cL_law 173 = .ok (.invokevirtual 20, 3) := by decide +kernel
theorem dL_law_176 : decode cL_law 176 = .ok (.aload_n 2, 1) := by decide +kernel
theorem dL_law_177 : decode cL_law 177 = .ok (.aload_n 0, 1) := by decide +kernel
theorem dL_law_178 : decode cL_law 178 = .ok (.iload_n 3, 1) := by decide +kernel
theorem dL_law_179 : decode cL_law 179 = .ok (.iconst 1, 1) := by decide +kernel
theorem dL_law_180 : decode cL_law 180 = .ok (.iadd, 1) := by decide +kernel
theorem dL_law_181 : decode cL_law 181 = .ok (.iaload, 1) := by decide +kernel
theorem dL_law_182 : decode cL_law 182 = .ok (.aload_n 0, 1) := by decide +kernel
theorem dL_law_183 : decode cL_law 183 = .ok (.iload_n 3, 1) := by decide +kernel
theorem dL_law_184 : decode cL_law 184 = .ok (.iconst 2, 1) := by decide +kernel
theorem dL_law_185 : decode cL_law 185 = .ok (.iadd, 1) := by decide +kernel
theorem dL_law_186 : decode cL_law 186 = .ok (.iaload, 1) := by decide +kernel
theorem dL_law_187 : decode cL_law 187 = .ok (.i2l, 1) := by decide +kernel
theorem dL_law_188 : decode cL_law 188 = .ok (.bipush 32, 2) := by decide +kernel
theorem dL_law_190 : decode cL_law 190 = .ok (.lshl, 1) := by decide +kernel
theorem dL_law_191 : decode cL_law 191 = .ok (.aload_n 0, 1) := by decide +kernel
theorem dL_law_192 : decode cL_law 192 = .ok (.iload_n 3, 1) := by decide +kernel
theorem dL_law_193 : decode cL_law 193 = .ok (.iconst 3, 1) := by decide +kernel
theorem dL_law_194 : decode cL_law 194 = .ok (.iadd, 1) := by decide +kernel
theorem dL_law_195 : decode cL_law 195 = .ok (.iaload, 1) := by decide +kernel
theorem dL_law_196 : decode cL_law 196 = .ok (.i2l, 1) := by decide +kernel
theorem dL_law_197 : decode cL_law 197 = .ok (.ldc2_w 13, 3) := by decide +kernel
theorem dL_law_200 : decode cL_law 200 = .ok (.land, 1) := by decide +kernel
theorem dL_law_201 : decode cL_law 201 = .ok (.lor, 1) := by decide +kernel
theorem dL_law_202 : decode cL_law 202 = .ok (.invokevirtual 23, 3) := by decide +kernel
theorem dL_law_205 : decode cL_law 205 = .ok (.if_icmp .eq 278, 3) := by decide +kernel
theorem dL_law_208 : decode cL_law 208 = .ok (.iconst 0, 1) := by decide +kernel
theorem dL_law_209 : decode cL_law 209 = .ok (.ireturn, 1) := by decide +kernel
theorem dL_law_210 : decode cL_law 210 = .ok (.aload_n 1, 1) := by decide +kernel
theorem dL_law_211 : decode cL_law 211 = .ok (.aload_n 0, 1) := by decide +kernel
theorem dL_law_212 : decode cL_law 212 = .ok (.iload_n 3, 1) := by decide +kernel
theorem dL_law_213 : decode cL_law 213 = .ok (.iconst 1, 1) := by decide +kernel
theorem dL_law_214 : decode cL_law 214 = .ok (.iadd, 1) := by decide +kernel
theorem dL_law_215 : decode cL_law 215 = .ok (.iaload, 1) := by decide +kernel
theorem dL_law_216 : decode cL_law 216 = .ok (.aload_n 0, 1) := by decide +kernel
theorem dL_law_217 : decode cL_law 217 = .ok (.iload_n 3, 1) := by decide +kernel
theorem dL_law_218 : decode cL_law 218 = .ok (.iconst 2, 1) := by decide +kernel
theorem dL_law_219 : decode cL_law 219 = .ok (.iadd, 1) := by decide +kernel
theorem dL_law_220 : decode cL_law 220 = .ok (.iaload, 1) := by decide +kernel
theorem dL_law_221 : decode cL_law 221 = .ok (.invokevirtual 24, 3) := by decide +kernel
theorem dL_law_224 : decode cL_law 224 = .ok (.aload_n 2, 1) := by decide +kernel
theorem dL_law_225 : decode cL_law 225 = .ok (.aload_n 0, 1) := by decide +kernel
theorem dL_law_226 : decode cL_law 226 = .ok (.iload_n 3, 1) := by decide +kernel
theorem dL_law_227 : decode cL_law 227 = .ok (.iconst 1, 1) := by decide +kernel
theorem dL_law_228 : decode cL_law 228 = .ok (.iadd, 1) := by decide +kernel
theorem dL_law_229 : decode cL_law 229 = .ok (.iaload, 1) := by decide +kernel
theorem dL_law_230 : decode cL_law 230 = .ok (.aload_n 0, 1) := by decide +kernel
theorem dL_law_231 : decode cL_law 231 = .ok (.iload_n 3, 1) := by decide +kernel
theorem dL_law_232 : decode cL_law 232 = .ok (.iconst 2, 1) := by decide +kernel
theorem dL_law_233 : decode cL_law 233 = .ok (.iadd, 1) := by decide +kernel
theorem dL_law_234 : decode cL_law 234 = .ok (.iaload, 1) := by decide +kernel
theorem dL_law_235 : decode cL_law 235 = .ok (.invokevirtual 28, 3) := by decide +kernel
theorem dL_law_238 : decode cL_law 238 = .ok (.if_icmp .eq 245, 3) := by decide +kernel
theorem dL_law_241 : decode cL_law 241 = .ok (.iconst 0, 1) := by decide +kernel
theorem dL_law_242 : decode cL_law 242 = .ok (.ireturn, 1) := by decide +kernel
theorem dL_law_243 : decode cL_law 243 = .ok (.aload_n 1, 1) := by decide +kernel
theorem dL_law_244 : decode cL_law 244 = .ok (.aload_n 0, 1) := by decide +kernel
theorem dL_law_245 : decode cL_law 245 = .ok (.iload_n 3, 1) := by decide +kernel
theorem dL_law_246 : decode cL_law 246 = .ok (.iconst 1, 1) := by decide +kernel
theorem dL_law_247 : decode cL_law 247 = .ok (.iadd, 1) := by decide +kernel
theorem dL_law_248 : decode cL_law 248 = .ok (.iaload, 1) := by decide +kernel
theorem dL_law_249 : decode cL_law 249 = .ok (.invokevirtual 29, 3) := by decide +kernel
theorem dL_law_252 : decode cL_law 252 = .ok (.aload_n 2, 1) := by decide +kernel
theorem dL_law_253 : decode cL_law 253 = .ok (.aload_n 0, 1) := by decide +kernel
theorem dL_law_254 : decode cL_law 254 = .ok (.iload_n 3, 1) := by decide +kernel
theorem dL_law_255 : decode cL_law 255 = .ok (.iconst 1, 1) := by decide +kernel
theorem dL_law_256 : decode cL_law 256 = .ok (.iadd, 1) := by decide +kernel
theorem dL_law_257 : decode cL_law 257 = .ok (.iaload, 1) := by decide +kernel
theorem dL_law_258 : decode cL_law 258 = .ok (.invokevirtual 33, 3) := by decide +kernel
theorem dL_law_261 : decode cL_law 261 = .ok (.if_icmp .eq 222, 3) := by decide +kernel
theorem dL_law_264 : decode cL_law 264 = .ok (.iconst 0, 1) := by decide +kernel
theorem dL_law_265 : decode cL_law 265 = .ok (.ireturn, 1) := by decide +kernel
theorem dL_law_266 : decode cL_law 266 = .ok (.aload_n 1, 1) := by decide +kernel
theorem dL_law_267 : decode cL_law 267 = .ok (.aload_n 0, 1) := by decide +kernel
theorem dL_law_268 : decode cL_law 268 = .ok (.iload_n 3, 1) := by decide +kernel
theorem dL_law_269 : decode cL_law 269 = .ok (.iconst 1, 1) := by decide +kernel
theorem dL_law_270 : decode cL_law 270 = .ok (.iadd, 1) := by decide +kernel
theorem dL_law_271 : decode cL_law 271 = .ok (.iaload, 1) := by decide +kernel
theorem dL_law_272 : decode cL_law 272 = .ok (.aload_n 0, 1) := by decide +kernel
theorem dL_law_273 : decode cL_law 273 = .ok (.iload_n 3, 1) := by decide +kernel
theorem dL_law_274 : decode cL_law 274 = .ok (.iconst 2, 1) := by decide +kernel
theorem dL_law_275 : decode cL_law 275 = .ok (.iadd, 1) := by decide +kernel
theorem dL_law_276 : decode cL_law 276 = .ok (.iaload, 1) := by decide +kernel
theorem dL_law_277 : decode cL_law 277 = .ok (.aload_n 0, 1) := by decide +kernel
theorem dL_law_278 : decode cL_law 278 = .ok (.iload_n 3, 1) := by decide +kernel
theorem dL_law_279 : decode cL_law 279 = .ok (.iconst 3, 1) := by decide +kernel
theorem dL_law_280 : decode cL_law 280 = .ok (.iadd, 1) := by decide +kernel
theorem dL_law_281 : decode cL_law 281 = .ok (.iaload, 1) := by decide +kernel
theorem dL_law_282 : decode cL_law 282 = .ok (.i2l, 1) := by decide +kernel
theorem dL_law_283 : decode cL_law 283 = .ok (.bipush 32, 2) := by decide +kernel
theorem dL_law_285 : decode cL_law 285 = .ok (.lshl, 1) := by decide +kernel
theorem dL_law_286 : decode cL_law 286 = .ok (.aload_n 0, 1) := by decide +kernel
theorem dL_law_287 : decode cL_law 287 = .ok (.iload_n 3, 1) := by decide +kernel
theorem dL_law_288 : decode cL_law 288 = .ok (.iconst 4, 1) := by decide +kernel
theorem dL_law_289 : decode cL_law 289 = .ok (.iadd, 1) := by decide +kernel
theorem dL_law_290 : decode cL_law 290 = .ok (.iaload, 1) := by decide +kernel
theorem dL_law_291 : decode cL_law 291 = .ok (.i2l, 1) := by decide +kernel
theorem dL_law_292 : decode cL_law 292 = .ok (.ldc2_w 13, 3) := by decide +kernel
theorem dL_law_295 : decode cL_law 295 = .ok (.land, 1) := by decide +kernel
theorem dL_law_296 : decode cL_law 296 = .ok (.lor, 1) := by decide +kernel
theorem dL_law_297 : decode cL_law 297 = .ok (.invokevirtual 34, 3) := by decide +kernel
theorem dL_law_300 : decode cL_law 300 = .ok (.aload_n 2, 1) := by decide +kernel
theorem dL_law_301 : decode cL_law 301 = .ok (.aload_n 0, 1) := by decide +kernel
theorem dL_law_302 : decode cL_law 302 = .ok (.iload_n 3, 1) := by decide +kernel
theorem dL_law_303 : decode cL_law 303 = .ok (.iconst 1, 1) := by decide +kernel
theorem dL_law_304 : decode cL_law 304 = .ok (.iadd, 1) := by decide +kernel
theorem dL_law_305 : decode cL_law 305 = .ok (.iaload, 1) := by decide +kernel
theorem dL_law_306 : decode cL_law 306 = .ok (.aload_n 0, 1) := by decide +kernel
theorem dL_law_307 : decode cL_law 307 = .ok (.iload_n 3, 1) := by decide +kernel
theorem dL_law_308 : decode cL_law 308 = .ok (.iconst 2, 1) := by decide +kernel
theorem dL_law_309 : decode cL_law 309 = .ok (.iadd, 1) := by decide +kernel
theorem dL_law_310 : decode cL_law 310 = .ok (.iaload, 1) := by decide +kernel
theorem dL_law_311 : decode cL_law 311 = .ok (.aload_n 0, 1) := by decide +kernel
theorem dL_law_312 : decode cL_law 312 = .ok (.iload_n 3, 1) := by decide +kernel
theorem dL_law_313 : decode cL_law 313 = .ok (.iconst 3, 1) := by decide +kernel
theorem dL_law_314 : decode cL_law 314 = .ok (.iadd, 1) := by decide +kernel
theorem dL_law_315 : decode cL_law 315 = .ok (.iaload, 1) := by decide +kernel
theorem dL_law_316 : decode cL_law 316 = .ok (.i2l, 1) := by decide +kernel
theorem dL_law_317 : decode cL_law 317 = .ok (.bipush 32, 2) := by decide +kernel
theorem dL_law_319 : decode cL_law 319 = .ok (.lshl, 1) := by decide +kernel
theorem dL_law_320 : decode cL_law 320 = .ok (.aload_n 0, 1) := by decide +kernel
theorem dL_law_321 : decode cL_law 321 = .ok (.iload_n 3, 1) := by decide +kernel
theorem dL_law_322 : decode cL_law 322 = .ok (.iconst 4, 1) := by decide +kernel
theorem dL_law_323 : decode cL_law 323 = .ok (.iadd, 1) := by decide +kernel
theorem dL_law_324 : decode cL_law 324 = .ok (.iaload, 1) := by decide +kernel
theorem dL_law_325 : decode cL_law 325 = .ok (.i2l, 1) := by decide +kernel
theorem dL_law_326 : decode cL_law 326 = .ok (.ldc2_w 13, 3) := by decide +kernel
theorem dL_law_329 : decode cL_law 329 = .ok (.land, 1) := by decide +kernel
theorem dL_law_330 : decode cL_law 330 = .ok (.lor, 1) := by decide +kernel
theorem dL_law_331 : decode cL_law 331 = .ok (.invokevirtual 38, 3) := by decide +kernel
theorem dL_law_334 : decode cL_law 334 = .ok (.lcmp, 1) := by decide +kernel
theorem dL_law_335 : decode cL_law 335 = .ok (.ifCond .eq 148, 3) := by decide +kernel
theorem dL_law_338 : decode cL_law 338 = .ok (.iconst 0, 1) := by decide +kernel
theorem dL_law_339 : decode cL_law 339 = .ok (.ireturn, 1) := by decide +kernel
theorem dL_law_340 : decode cL_law 340 = .ok (.aload_n 1, 1) := by decide +kernel
theorem dL_law_341 : decode cL_law 341 = .ok (.aload_n 0, 1) := by decide +kernel
theorem dL_law_342 : decode cL_law 342 = .ok (.iload_n 3, 1) := by decide +kernel
theorem dL_law_343 : decode cL_law 343 = .ok (.iconst 1, 1) := by decide +kernel
theorem dL_law_344 : decode cL_law 344 = .ok (.iadd, 1) := by decide +kernel
theorem dL_law_345 : decode cL_law 345 = .ok (.iaload, 1) := by decide +kernel
theorem dL_law_346 : decode cL_law 346 = .ok (.invokevirtual 39, 3) := by decide +kernel
theorem dL_law_349 : decode cL_law 349 = .ok (.aload_n 2, 1) := by decide +kernel
theorem dL_law_350 : decode cL_law 350 = .ok (.aload_n 0, 1) := by decide +kernel
theorem dL_law_351 : decode cL_law 351 = .ok (.iload_n 3, 1) := by decide +kernel
theorem dL_law_352 : decode cL_law 352 = .ok (.iconst 1, 1) := by decide +kernel
theorem dL_law_353 : decode cL_law 353 = .ok (.iadd, 1) := by decide +kernel
theorem dL_law_354 : decode cL_law 354 = .ok (.iaload, 1) := by decide +kernel
theorem dL_law_355 : decode cL_law 355 = .ok (.invokevirtual 42, 3) := by decide +kernel
theorem dL_law_358 : decode cL_law 358 = .ok (.if_icmp .eq 125, 3) := by decide +kernel
theorem dL_law_361 : decode cL_law 361 = .ok (.iconst 0, 1) := by decide +kernel
theorem dL_law_362 : decode cL_law 362 = .ok (.ireturn, 1) := by decide +kernel
theorem dL_law_363 : decode cL_law 363 = .ok (.aload_n 1, 1) := by decide +kernel
theorem dL_law_364 : decode cL_law 364 = .ok (.aload_n 0, 1) := by decide +kernel
theorem dL_law_365 : decode cL_law 365 = .ok (.iload_n 3, 1) := by decide +kernel
theorem dL_law_366 : decode cL_law 366 = .ok (.iconst 1, 1) := by decide +kernel
theorem dL_law_367 : decode cL_law 367 = .ok (.iadd, 1) := by decide +kernel
theorem dL_law_368 : decode cL_law 368 = .ok (.iaload, 1) := by decide +kernel
theorem dL_law_369 : decode cL_law 369 = .ok (.invokevirtual 43, 3) := by decide +kernel
theorem dL_law_372 : decode cL_law 372 = .ok (.aload_n 2, 1) := by decide +kernel
theorem dL_law_373 : decode cL_law 373 = .ok (.aload_n 0, 1) := by decide +kernel
theorem dL_law_374 : decode cL_law 374 = .ok (.iload_n 3, 1) := by decide +kernel
theorem dL_law_375 : decode cL_law 375 = .ok (.iconst 1, 1) := by decide +kernel
theorem dL_law_376 : decode cL_law 376 = .ok (.iadd, 1) := by decide +kernel
theorem dL_law_377 : decode cL_law 377 = .ok (.iaload, 1) := by decide +kernel
theorem dL_law_378 : decode cL_law 378 = .ok (.invokevirtual 47, 3) := by decide +kernel
theorem dL_law_381 : decode cL_law 381 = .ok (.if_icmp .eq 102, 3) := by decide +kernel
theorem dL_law_384 : decode cL_law 384 = .ok (.iconst 0, 1) := by decide +kernel
theorem dL_law_385 : decode cL_law 385 = .ok (.ireturn, 1) := by decide +kernel
theorem dL_law_386 : decode cL_law 386 = .ok (.aload_n 1, 1) := by decide +kernel
theorem dL_law_387 : decode cL_law 387 = .ok (.aload_n 0, 1) := by decide +kernel
theorem dL_law_388 : decode cL_law 388 = .ok (.iload_n 3, 1) := by decide +kernel
theorem dL_law_389 : decode cL_law 389 = .ok (.iconst 1, 1) := by decide +kernel
theorem dL_law_390 : decode cL_law 390 = .ok (.iadd, 1) := by decide +kernel
theorem dL_law_391 : decode cL_law 391 = .ok (.iaload, 1) := by decide +kernel
theorem dL_law_392 : decode cL_law 392 = .ok (.invokevirtual 48, 3) := by decide +kernel
theorem dL_law_395 : decode cL_law 395 = .ok (.aload_n 2, 1) := by decide +kernel
theorem dL_law_396 : decode cL_law 396 = .ok (.aload_n 0, 1) := by decide +kernel
theorem dL_law_397 : decode cL_law 397 = .ok (.iload_n 3, 1) := by decide +kernel
theorem dL_law_398 : decode cL_law 398 = .ok (.iconst 1, 1) := by decide +kernel
theorem dL_law_399 : decode cL_law 399 = .ok (.iadd, 1) := by decide +kernel
theorem dL_law_400 : decode cL_law 400 = .ok (.iaload, 1) := by decide +kernel
theorem dL_law_401 : decode cL_law 401 = .ok (.invokevirtual 51, 3) := by decide +kernel
theorem dL_law_404 : decode cL_law 404 = .ok (.if_icmp .eq 79, 3) := by decide +kernel
theorem dL_law_407 : decode cL_law 407 = .ok (.iconst 0, 1) := by decide +kernel
theorem dL_law_408 : decode cL_law 408 = .ok (.ireturn, 1) := by decide +kernel
theorem dL_law_409 : decode cL_law 409 = .ok (.aload_n 1, 1) := by decide +kernel
theorem dL_law_410 : decode cL_law 410 = .ok (.aload_n 0, 1) := by decide +kernel
theorem dL_law_411 : decode cL_law 411 = .ok (.iload_n 3, 1) := by decide +kernel
theorem dL_law_412 : decode cL_law 412 = .ok (.iconst 1, 1) := by decide +kernel
theorem dL_law_413 : decode cL_law 413 = .ok (.iadd, 1) := by decide +kernel
theorem dL_law_414 : decode cL_law 414 = .ok (.iaload, 1) := by decide +kernel
theorem dL_law_415 : decode cL_law 415 = .ok (.aload_n 0, 1) := by decide +kernel
theorem dL_law_416 : decode cL_law 416 = .ok (.iload_n 3, 1) := by decide +kernel
theorem dL_law_417 : decode cL_law 417 = .ok (.iconst 2, 1) := by decide +kernel
theorem dL_law_418 : decode cL_law 418 = .ok (.iadd, 1) := by decide +kernel
theorem dL_law_419 : decode cL_law 419 = .ok (.iaload, 1) := by decide +kernel
theorem dL_law_420 : decode cL_law 420 = .ok (.aload_n 0, 1) := by decide +kernel
theorem dL_law_421 : decode cL_law 421 = .ok (.iload_n 3, 1) := by decide +kernel
theorem dL_law_422 : decode cL_law 422 = .ok (.iconst 3, 1) := by decide +kernel
theorem dL_law_423 : decode cL_law 423 = .ok (.iadd, 1) := by decide +kernel
theorem dL_law_424 : decode cL_law 424 = .ok (.iaload, 1) := by decide +kernel
theorem dL_law_425 : decode cL_law 425 = .ok (.i2l, 1) := by decide +kernel
theorem dL_law_426 : decode cL_law 426 = .ok (.bipush 32, 2) := by decide +kernel
theorem dL_law_428 : decode cL_law 428 = .ok (.lshl, 1) := by decide +kernel
theorem dL_law_429 : decode cL_law 429 = .ok (.aload_n 0, 1) := by decide +kernel
theorem dL_law_430 : decode cL_law 430 = .ok (.iload_n 3, 1) := by decide +kernel
theorem dL_law_431 : decode cL_law 431 = .ok (.iconst 4, 1) := by decide +kernel
theorem dL_law_432 : decode cL_law 432 = .ok (.iadd, 1) := by decide +kernel
theorem dL_law_433 : decode cL_law 433 = .ok (.iaload, 1) := by decide +kernel
theorem dL_law_434 : decode cL_law 434 = .ok (.i2l, 1) := by decide +kernel
theorem dL_law_435 : decode cL_law 435 = .ok (.ldc2_w 13, 3) := by decide +kernel
theorem dL_law_438 : decode cL_law 438 = .ok (.land, 1) := by decide +kernel
theorem dL_law_439 : decode cL_law 439 = .ok (.lor, 1) := by decide +kernel
theorem dL_law_440 : decode cL_law 440 = .ok (.invokevirtual 52, 3) := by decide +kernel
theorem dL_law_443 : decode cL_law 443 = .ok (.aload_n 2, 1) := by decide +kernel
theorem dL_law_444 : decode cL_law 444 = .ok (.aload_n 0, 1) := by decide +kernel
theorem dL_law_445 : decode cL_law 445 = .ok (.iload_n 3, 1) := by decide +kernel
theorem dL_law_446 : decode cL_law 446 = .ok (.iconst 1, 1) := by decide +kernel
theorem dL_law_447 : decode cL_law 447 = .ok (.iadd, 1) := by decide +kernel
theorem dL_law_448 : decode cL_law 448 = .ok (.iaload, 1) := by decide +kernel
theorem dL_law_449 : decode cL_law 449 = .ok (.aload_n 0, 1) := by decide +kernel
theorem dL_law_450 : decode cL_law 450 = .ok (.iload_n 3, 1) := by decide +kernel
theorem dL_law_451 : decode cL_law 451 = .ok (.iconst 2, 1) := by decide +kernel
theorem dL_law_452 : decode cL_law 452 = .ok (.iadd, 1) := by decide +kernel
theorem dL_law_453 : decode cL_law 453 = .ok (.iaload, 1) := by decide +kernel
theorem dL_law_454 : decode cL_law 454 = .ok (.aload_n 0, 1) := by decide +kernel
theorem dL_law_455 : decode cL_law 455 = .ok (.iload_n 3, 1) := by decide +kernel
theorem dL_law_456 : decode cL_law 456 = .ok (.iconst 3, 1) := by decide +kernel
theorem dL_law_457 : decode cL_law 457 = .ok (.iadd, 1) := by decide +kernel
theorem dL_law_458 : decode cL_law 458 = .ok (.iaload, 1) := by decide +kernel
theorem dL_law_459 : decode cL_law 459 = .ok (.i2l, 1) := by decide +kernel
theorem dL_law_460 : decode cL_law 460 = .ok (.bipush 32, 2) := by decide +kernel
theorem dL_law_462 : decode cL_law 462 = .ok (.lshl, 1) := by decide +kernel
theorem dL_law_463 : decode cL_law 463 = .ok (.aload_n 0, 1) := by decide +kernel
theorem dL_law_464 : decode cL_law 464 = .ok (.iload_n 3, 1) := by decide +kernel
theorem dL_law_465 : decode cL_law 465 = .ok (.iconst 4, 1) := by decide +kernel
theorem dL_law_466 : decode cL_law 466 = .ok (.iadd, 1) := by decide +kernel
theorem dL_law_467 : decode cL_law 467 = .ok (.iaload, 1) := by decide +kernel
theorem dL_law_468 : decode cL_law 468 = .ok (.i2l, 1) := by decide +kernel
theorem dL_law_469 : decode cL_law 469 = .ok (.ldc2_w 13, 3) := by decide +kernel
theorem dL_law_472 : decode cL_law 472 = .ok (.land, 1) := by decide +kernel
theorem dL_law_473 : decode cL_law 473 = .ok (.lor, 1) := by decide +kernel
theorem dL_law_474 : decode cL_law 474 = .ok (.invokevirtual 55, 3) := by decide +kernel
theorem dL_law_477 : decode cL_law 477 = .ok (.lcmp, 1) := by decide +kernel
theorem dL_law_478 : decode cL_law 478 = .ok (.ifCond .eq 5, 3) := by decide +kernel
theorem dL_law_481 : decode cL_law 481 = .ok (.iconst 0, 1) := by decide +kernel
theorem dL_law_482 : decode cL_law 482 = .ok (.ireturn, 1) := by decide +kernel
theorem dL_law_483 : decode cL_law 483 = .ok (.iinc 3 5, 3) := by decide +kernel
theorem dL_law_486 : decode cL_law 486 = .ok (.goto (-468), 3) := by decide +kernel
theorem dL_law_489 : decode cL_law 489 = .ok (.iconst 1, 1) := by decide +kernel
theorem dL_law_490 : decode cL_law 490 = .ok (.ireturn, 1) := by decide +kernel
end
section
/-! own rows: two worlds side by side, and pools by index -/
theorem kx_lt {α : Type} {l : List α} {k : Nat} {x : α} (h : l[k]? = some x) : k < l.length := (List.getElem?_eq_some_iff.mp h).1
theorem kx_al {a b : va_W} {k : Nat} {q : Nat × va_E} (h : a[k]? = some q) : (a ++ b)[k]? = some q := by
  rw [List.getElem?_append_left (kx_lt h)]; exact h
theorem kx_ar {a b : va_W} {k : Nat} {q : Nat × va_E} (h : b[k]? = some q) : (a ++ b)[a.length + k]? = some q := by
  rw [List.getElem?_append_right (Nat.le_add_right _ _), Nat.add_sub_cancel_left]; exact h
/-- a callee that gets the whole world may touch only what the caller may -/
theorem kx_fr {A0 : Nat → Prop} {ws : va_W} {H0 H : Heap} {locs : List Loc} (hD : va_D A0 ws) (hS : va_S A0 H0 H locs) (hA : ∀ q, H0.size ≤ q → A0 q) : ∀ q, va_A ws H.size q → A0 q := by
  intro q hq
  rcases hq with ⟨k, e, hk⟩ | hq
  · exact hD.2 k (q, e) hk
  · exact hA q (Nat.le_trans hS.1 hq)
theorem kx_D1 {A : Nat → Prop} {a b : va_W} (h : va_D A (a ++ b)) : va_D A a := ⟨fun i j p q hi hj he => h.1 i j p q (kx_al hi) (kx_al hj) he, fun k q hk => h.2 k q (kx_al hk)⟩
theorem kx_D2 {A : Nat → Prop} {a b : va_W} (h : va_D A (a ++ b)) : va_D A b := ⟨fun i j p q hi hj he => Nat.add_left_cancel (h.1 _ _ p q (kx_ar hi) (kx_ar hj) he), fun k q hk => h.2 _ q (kx_ar hk)⟩
theorem kx_P1 {D : va_G} {cl : List vw_C} {a b : va_W} {H : Heap} (h : va_P D cl (a ++ b) H) : va_P D cl a H := fun k q hk => h k q (kx_al hk)
theorem kx_P2 {D : va_G} {cl : List vw_C} {a b : va_W} {H : Heap} (h : va_P D cl (a ++ b) H) : va_P D cl b H := fun _ q hk => h _ q (kx_ar hk)
theorem kx_ap {A : Nat → Prop} {a b : va_W} (h : va_D A (a ++ b)) {i j : Nat} {p q : Nat × va_E} (hi : a[i]? = some p) (hj : b[j]? = some q) : p.1 ≠ q.1 := fun he => by
  have h1 := h.1 i (a.length + j) p q (kx_al hi) (kx_ar hj) he
  have h2 := kx_lt hi
  omega
theorem kx_Dc {A : Nat → Prop} {a b : va_W} (h : va_D A (a ++ b)) : va_D A (b ++ a) := va_D.app (kx_D2 h) (kx_D1 h) (fun _ _ _ _ hi hj => (kx_ap h hj hi).symm)
/-- behind a call that had the world a: what is in b stands as it was -/
theorem kx_jn {A0 : Nat → Prop} {D : va_G} {cl : List vw_C} {a b a' : va_W} {H H1 : Heap} (hP : va_P D cl b H) (hD : va_D A0 (a ++ b)) (hk : ∀ q : Nat, q < H.size → ¬ va_A a H.size q → H1[q]? = H[q]?) (hF : ∀ q, va_A a H.size q → A0 q) (hD1 : va_D (va_A a H.size) a') : va_P D cl b H1 ∧ va_D A0 (a' ++ b) := by
  have hn : ∀ (k : Nat) (q : Nat × va_E), b[k]? = some q → q.1 < H.size ∧ ¬ va_A a H.size q.1 := fun k q hk' => by
    refine ⟨(hP k q hk').lt, fun hx => ?_⟩
    rcases hx with ⟨i, e, hi⟩ | hx
    · exact kx_ap hD hi hk' rfl
    · exact absurd (hP k q hk').lt (Nat.not_lt.mpr hx)
  refine ⟨hP.kept (fun k q hk' => hk q.1 (hn k q hk').1 (hn k q hk').2), ?_⟩
  refine va_D.app (hD1.weaken (fun _ q _ h => hF q.1 h)) (kx_D2 hD) (fun i j p q hi hj he => ?_)
  exact (hn j q hj).2 (he ▸ hD1.2 i p hi)
def kx_pl (n : Nat) (f : Nat → Nat × va_E) : va_W := (List.range n).map f
theorem kx_pl_at {n : Nat} {f : Nat → Nat × va_E} {j : Nat} (h : j < n) : (kx_pl n f)[j]? = some (f j) := by
  simp [kx_pl, h]
theorem kx_pl_get {X : va_W} {n : Nat} {f : Nat → Nat × va_E} {j : Nat} (h : j < n) : (X ++ kx_pl n f)[X.length + j]? = some (f j) := kx_ar (kx_pl_at h)
theorem kx_pl_len (n : Nat) (f : Nat → Nat × va_E) : (kx_pl n f).length = n := by simp [kx_pl]
theorem kx_pl_set {X : va_W} {n : Nat} {f g : Nat → Nat × va_E} {j : Nat} {e : Nat × va_E} (h : j < n) (he : g j = e) (hg : ∀ i, i ≠ j → g i = f i) : (X ++ kx_pl n f).set (X.length + j) e = X ++ kx_pl n g := by
  apply List.ext_getElem?
  intro i
  rw [List.getElem?_set]
  by_cases hij : X.length + j = i
  · subst hij
    rw [if_pos rfl, if_pos (by rw [List.length_append, kx_pl_len]; omega), kx_pl_get h, he]
  · rw [if_neg hij]
    by_cases hi : i < X.length
    · rw [List.getElem?_append_left hi, List.getElem?_append_left hi]
    · rw [List.getElem?_append_right (Nat.le_of_not_lt hi), List.getElem?_append_right (Nat.le_of_not_lt hi)]
      by_cases hn : i - X.length < n
      · rw [kx_pl_at hn, kx_pl_at hn, hg _ (by omega)]
      · rw [List.getElem?_eq_none (by rw [kx_pl_len]; omega), List.getElem?_eq_none (by rw [kx_pl_len]; omega)]
theorem kx_pl_push {n : Nat} {f g : Nat → Nat × va_E} {e : Nat × va_E} (he : g n = e) (hg : ∀ i, i < n → g i = f i) : kx_pl n f ++ [e] = kx_pl (n + 1) g := by
  unfold kx_pl
  rw [List.range_succ, List.map_append, List.map_cons, List.map_nil, he]
  congr 1
  exact List.map_congr_left (fun i hi => (hg i (List.mem_range.mp hi)).symm)
end
section
/-! the desk as a mathematical value: n things (kind, there, answered, by place), rows (count, sum), answers, failures, six told numbers -/
abbrev dM : Type := Nat × (Nat → Int32) × (Nat → Int32) × (Nat → Int32) × (Nat → Int32) × (Nat → Int64) × (Nat → Int64) × (Nat → Int32) × Int32 × Int32 × Int32 × Int32 × Int32 × Int32
def mIx (x : Int32) : Nat := (x - 1).toNatClampNeg
def mW8 (c : Int32) : Int32 := c - c / 8 * 8
def mW4 (c : Int32) : Int32 := c - c / 4 * 4
def mRef (rc : Nat → Int32) (k o : Int32) (c : Int32) (a : Int64) : Int32 :=
  if (0 ≤ c ∧ c < 32) ∧ k = mW8 c then
    (if 0 ≤ a ∧ a ≤ 1000000 then (if o = 0 ∨ (24 ≤ c ∧ rc (mW4 c).toNatClampNeg = 0) then -5 else 0) else -4)
  else -2
def mOut (rs an : Nat → Int64) (fl : Nat → Int32) (k q : Int32) (c : Int32) (a : Int64) : Int64 :=
  if fl c.toNatClampNeg = 0 then
    (if k = 3 then (if 8 ≤ c then an c.toNatClampNeg + a + rs (mW4 c).toNatClampNeg else an c.toNatClampNeg + a) + q.toInt64
     else (if 8 ≤ c then an c.toNatClampNeg + a + rs (mW4 c).toNatClampNeg else an c.toNatClampNeg + a))
  else (-10 - fl c.toNatClampNeg).toInt64
def mTkC (rc : Nat → Int32) (c : Int32) : Nat → Int32 := if 8 ≤ c then upd rc (mW4 c).toNatClampNeg 0 else rc
def mTkS (rs : Nat → Int64) (c : Int32) : Nat → Int64 := if 8 ≤ c then vp_updL rs (mW4 c).toNatClampNeg 0 else rs
def mCnt (kd ok : Nat → Int32) (k : Int32) : Nat → Int32
  | 0 => 0
  | j + 1 => if ¬ ok j = 0 ∧ kd j = k then mCnt kd ok k j + 1 else mCnt kd ok k j
def mCollect (M : dM) (w : Int32) (v : Int64) : Int32 × dM := match M with
  | (n, kd, ok, cn, rc, rs, an, fl, t0, t1, t2, t3, t4, t5) =>
    if (0 ≤ w ∧ w < 4) ∧ rc w.toNatClampNeg < 50 then
      (rc w.toNatClampNeg + 1, (n, kd, ok, cn, upd rc w.toNatClampNeg (rc w.toNatClampNeg + 1), vp_updL rs w.toNatClampNeg (rs w.toNatClampNeg + v), an, fl, t0, t1, t2, t3, t4, t5))
    else (-1, (n, kd, ok, cn, rc, rs, an, fl, t0, t1, t2, t3, t4, t5))
def mAnswer (M : dM) (c : Int32) (v : Int64) : Int32 × dM := match M with
  | (n, kd, ok, cn, rc, rs, an, fl, t0, t1, t2, t3, t4, t5) =>
    if 0 ≤ c ∧ c < 32 then (1, (n, kd, ok, cn, rc, rs, vp_updL an c.toNatClampNeg v, fl, t0, t1, t2, t3, t4, t5))
    else (-1, (n, kd, ok, cn, rc, rs, an, fl, t0, t1, t2, t3, t4, t5))
def mFails (M : dM) (c k : Int32) : Int32 × dM := match M with
  | (n, kd, ok, cn, rc, rs, an, fl, t0, t1, t2, t3, t4, t5) =>
    if (0 ≤ c ∧ c < 32) ∧ 0 ≤ k ∧ k ≤ 6 then (fl c.toNatClampNeg, (n, kd, ok, cn, rc, rs, an, upd fl c.toNatClampNeg k, t0, t1, t2, t3, t4, t5))
    else (-1, (n, kd, ok, cn, rc, rs, an, fl, t0, t1, t2, t3, t4, t5))
def mMake (M : dM) (k : Int32) : Int32 × dM := match M with
  | (n, kd, ok, cn, rc, rs, an, fl, t0, t1, t2, t3, t4, t5) =>
    if (0 ≤ k ∧ k < 8) ∧ n < 200 then (nI (n + 1), (n + 1, upd kd n k, upd ok n 1, upd cn n 0, rc, rs, an, fl, t0, t1, t2, t3, t4, t5))
    else (-1, (n, kd, ok, cn, rc, rs, an, fl, t0, t1, t2, t3, t4, t5))
def mAgain (M : dM) (c x : Int32) (a : Int64) : Int64 := match M with
  | (n, kd, ok, cn, rc, rs, an, fl, _, _, _, _, _, _) =>
    if 1 ≤ x ∧ x ≤ nI n then
      (if mRef rc (kd (mIx x)) (ok (mIx x)) c a = 0 then mOut rs an fl (kd (mIx x)) (cn (mIx x)) c a else (mRef rc (kd (mIx x)) (ok (mIx x)) c a).toInt64)
    else (-2 : Int32).toInt64
def mCall (M : dM) (c x : Int32) (a : Int64) : Int64 × dM := match M with
  | (n, kd, ok, cn, rc, rs, an, fl, t0, t1, t2, t3, t4, t5) =>
    if 1 ≤ x ∧ x ≤ nI n then
      (if mRef rc (kd (mIx x)) (ok (mIx x)) c a = 0 then
        (mOut rs an fl (kd (mIx x)) (cn (mIx x)) c a,
          if fl c.toNatClampNeg = 0 then (n, kd, ok, upd cn (mIx x) (cn (mIx x) + 1), mTkC rc c, mTkS rs c, an, fl, t0, t1, t2, t3, t4, t5 + 1)
          else (n, kd, upd ok (mIx x) 0, cn, mTkC rc c, mTkS rs c, an, fl, fl c.toNatClampNeg, c, x, t3 + 1, t4, t5))
      else ((mRef rc (kd (mIx x)) (ok (mIx x)) c a).toInt64, (n, kd, ok, cn, rc, rs, an, fl, t0, t1, t2, t3, t4 + 1, t5)))
    else ((-2 : Int32).toInt64, (n, kd, ok, cn, rc, rs, an, fl, t0, t1, t2, t3, t4 + 1, t5))
def mTold (M : dM) (w : Int32) : Int32 := match M with
  | (_, _, _, _, _, _, _, _, t0, t1, t2, t3, t4, t5) =>
    if w = 0 then t0 else if w = 1 then t1 else if w = 2 then t2 else if w = 3 then t3 else if w = 4 then t4 else if w = 5 then t5 else -1
def mDrop (M : dM) (x : Int32) : Int32 × dM := match M with
  | (n, kd, ok, cn, rc, rs, an, fl, t0, t1, t2, t3, t4, t5) =>
    if (1 ≤ x ∧ x ≤ nI n) ∧ ¬ ok (mIx x) = 0 then (1, (n, kd, upd ok (mIx x) 0, cn, rc, rs, an, fl, t0, t1, t2, t3, t4, t5))
    else (0, (n, kd, ok, cn, rc, rs, an, fl, t0, t1, t2, t3, t4, t5))
def mNumbers (M : dM) (k : Int32) : Int32 := match M with
  | (n, kd, ok, _, _, _, _, _, _, _, _, _, _, _) => if 0 ≤ k ∧ k < 8 then mCnt kd ok k n else -1
/-! numbers: places in range -/
theorem kx_in {i B : Int32} {N : Nat} (h : 0 ≤ i ∧ i < B) (hB : B.toInt = N) : vp_in i N := by
  rw [vp_in_iff]
  have h1 := Int32.le_iff_toInt_le.mp h.1
  have h2 := Int32.lt_iff_toInt_lt.mp h.2
  rw [hB] at h2
  exact ⟨h1, h2⟩
theorem kx_c {c : Int32} (h : 0 ≤ c ∧ c < 32) : ∃ j : Nat, j < 32 ∧ c = nI j := vp_in_of (kx_in h (N := 32) (by decide)) (by decide)
theorem kx_w4 {c : Int32} (h : 0 ≤ c ∧ c < 32) : vp_in (mW4 c) 4 := by
  obtain ⟨j, hj, rfl⟩ := kx_c h
  have e : mW4 (nI j) = nI (j % 4) := pk_rem (d := 4) (by omega) (by omega) (by omega)
  rw [e]
  exact vp_in_nI (by omega) (by omega)
theorem kx_ix {n : Nat} {x : Int32} (hn : n ≤ 200) (h : 1 ≤ x ∧ x ≤ nI n) : mIx x < n ∧ x - 1 = nI (mIx x) ∧ x = nI (mIx x + 1) := by
  have h1 := Int32.le_iff_toInt_le.mp h.1
  have h0 : ¬ x < 0 := fun q => by
    have q1 := Int32.lt_iff_toInt_lt.mp q
    have e1 : (1 : Int32).toInt = 1 := by decide
    have e0 : (0 : Int32).toInt = 0 := by decide
    omega
  obtain ⟨j, hj, rfl⟩ := nI_of h0
  have h2 := (nI_leI (a := j) (b := n) hj (by omega)).mp h.2
  have h3 : 1 ≤ j := (nI_leI (a := 1) (b := j) (by omega) hj).mp h.1
  obtain ⟨i, rfl⟩ : ∃ i, j = i + 1 := ⟨j - 1, by omega⟩
  have e : mIx (nI (i + 1)) = i := by
    unfold mIx
    rw [nI_pred, nI_clamp (by omega)]
  rw [e]
  exact ⟨by omega, nI_pred i, rfl⟩
end
section
/-! the desk's cells -/
def dTh (n : Nat) (ad : Nat → Nat) : Nat → Option Nat := fun i => if i < n then some (ad i) else none
def dX (h qT qC qS qA qF : Nat) (cT cC cS cA cF : ClassId) (ad : Nat → Nat) (n : Nat) (rc : Nat → Int32) (rs an : Nat → Int64) (fl : Nat → Int32) (t0 t1 t2 t3 t4 t5 : Int32) : va_W :=
  [(h, .inr (1, [.ref qT, .int (nI n), .ref qC, .ref qS, .ref qA, .ref qF, .int t0, .int t1, .int t2, .int t3, .int t4, .int t5])),
   (qT, .inl (cT, 200, .inr (.inr (.inr (.inr (dTh n ad)))))), (qC, .inl (cC, 4, .inl rc)), (qS, .inl (cS, 4, .inr (.inl rs))), (qA, .inl (cA, 32, .inr (.inl an))), (qF, .inl (cF, 32, .inl fl))]
def dF (ad : Nat → Nat) (kd ok cn : Nat → Int32) : Nat → Nat × va_E := fun i => (ad i, .inr (0, [.int (kd i), .int (ok i), .int (cn i)]))
def dW (h qT qC qS qA qF : Nat) (cT cC cS cA cF : ClassId) (ad : Nat → Nat) (n : Nat) (kd ok cn rc : Nat → Int32) (rs an : Nat → Int64) (fl : Nat → Int32) (t0 t1 t2 t3 t4 t5 : Int32) : va_W :=
  dX h qT qC qS qA qF cT cC cS cA cF ad n rc rs an fl t0 t1 t2 t3 t4 t5 ++ kx_pl n (dF ad kd ok cn)
def dWm (h qT qC qS qA qF : Nat) (cT cC cS cA cF : ClassId) (ad : Nat → Nat) (M : dM) : va_W := match M with
  | (n, kd, ok, cn, rc, rs, an, fl, t0, t1, t2, t3, t4, t5) => dW h qT qC qS qA qF cT cC cS cA cF ad n kd ok cn rc rs an fl t0 t1 t2 t3 t4 t5
section DSK
variable {h qT qC qS qA qF : Nat} {cT cC cS cA cF : ClassId} {ad : Nat → Nat} {n : Nat} {kd ok cn rc : Nat → Int32} {rs an : Nat → Int64} {fl : Nat → Int32} {t0 t1 t2 t3 t4 t5 : Int32} {j : Nat} {x : Int32}
theorem dW_at (hj : j < n) : (dW h qT qC qS qA qF cT cC cS cA cF ad n kd ok cn rc rs an fl t0 t1 t2 t3 t4 t5)[6 + j]? = some (ad j, .inr (0, [.int (kd j), .int (ok j), .int (cn j)])) := kx_pl_get (X := dX h qT qC qS qA qF cT cC cS cA cF ad n rc rs an fl t0 t1 t2 t3 t4 t5) (f := dF ad kd ok cn) hj
theorem dW_set_ok (hj : j < n) : (dW h qT qC qS qA qF cT cC cS cA cF ad n kd ok cn rc rs an fl t0 t1 t2 t3 t4 t5).set (6 + j) (ad j, .inr (0, [.int (kd j), .int x, .int (cn j)])) = dW h qT qC qS qA qF cT cC cS cA cF ad n kd (upd ok j x) cn rc rs an fl t0 t1 t2 t3 t4 t5 :=
  kx_pl_set (X := dX h qT qC qS qA qF cT cC cS cA cF ad n rc rs an fl t0 t1 t2 t3 t4 t5) (f := dF ad kd ok cn) (g := dF ad kd (upd ok j x) cn) hj (by simp only [dF, pk_us]) (fun i hi => by simp only [dF, pk_un hi])
theorem dW_set_cn (hj : j < n) : (dW h qT qC qS qA qF cT cC cS cA cF ad n kd ok cn rc rs an fl t0 t1 t2 t3 t4 t5).set (6 + j) (ad j, .inr (0, [.int (kd j), .int (ok j), .int x])) = dW h qT qC qS qA qF cT cC cS cA cF ad n kd ok (upd cn j x) rc rs an fl t0 t1 t2 t3 t4 t5 :=
  kx_pl_set (X := dX h qT qC qS qA qF cT cC cS cA cF ad n rc rs an fl t0 t1 t2 t3 t4 t5) (f := dF ad kd ok cn) (g := dF ad kd ok (upd cn j x)) hj (by simp only [dF, pk_us]) (fun i hi => by simp only [dF, pk_un hi])
theorem dTh_up (q : Nat) : va_up (dTh n ad) n (some q) = dTh (n + 1) (va_up ad n q) := by
  funext i
  unfold dTh va_up
  by_cases h1 : i = n
  · subst h1
    rw [if_pos rfl, if_pos (by omega), if_pos rfl]
  · rw [if_neg h1, if_neg h1]
    show (if i < n then some (ad i) else none) = if i < n + 1 then some (ad i) else none
    by_cases h2 : i < n
    · rw [if_pos h2, if_pos (by omega)]
    · rw [if_neg h2, if_neg (by omega)]
theorem dW_push (q : Nat) (k : Int32) : dX h qT qC qS qA qF cT cC cS cA cF (va_up ad n q) (n + 1) rc rs an fl t0 t1 t2 t3 t4 t5 ++ kx_pl n (dF ad kd ok cn) ++ [(q, .inr (0, [.int k, .int 1, .int 0]))] = dW h qT qC qS qA qF cT cC cS cA cF (va_up ad n q) (n + 1) (upd kd n k) (upd ok n 1) (upd cn n 0) rc rs an fl t0 t1 t2 t3 t4 t5 := by
  unfold dW
  rw [List.append_assoc, kx_pl_push (f := dF ad kd ok cn) (g := dF (va_up ad n q) (upd kd n k) (upd ok n 1) (upd cn n 0))]
  · simp only [dF, pk_us, va_up_self]
  · intro i hi
    have hne : i ≠ n := Nat.ne_of_lt hi
    simp only [dF, pk_un hne, va_up_ne _ _ hne]
end DSK
/-! what the tables say of the members of things that the desk uses -/
def dNw (U : State) : Prop := va_Nw (.fieldLinkNest RX1 84 "MainframeDesk$Thing" "kind" "I" "MainframeDesk") U ∧ va_Nw (.fieldLinkNest RX1 76 "MainframeDesk$Thing" "there" "Z" "MainframeDesk") U ∧ va_Nw (.fieldLinkNest RX1 73 "MainframeDesk$Thing" "answered" "I" "MainframeDesk") U ∧ va_Nw (.methodLinkNest RX1 55 yX0_init "MainframeDesk") U
theorem dNw_same {u U : State} (h : u.vm = U.vm) (hN : dNw u) : dNw U := ⟨va_Nw.same rfl h hN.1, va_Nw.same rfl h hN.2.1, va_Nw.same rfl h hN.2.2.1, va_Nw.same rfl h hN.2.2.2⟩
theorem dNw_warm {s U : State} (hW : s.WarmedH U.vm) (hN : dNw s) : dNw U := ⟨va_Nw.warmF hW hN.1, va_Nw.warmF hW hN.2.1, va_Nw.warmF hW hN.2.2.1, va_Nw.warmM hW hN.2.2.2⟩
theorem dNw_fkind {s : State} {args : Array Value} (hN : dNw s) : (Cond.fieldLinkNest RX1 84 "MainframeDesk$Thing" "kind" "I" "MainframeDesk").before args s = true := va_Nw.use rfl hN.1
theorem dNw_fthere {s : State} {args : Array Value} (hN : dNw s) : (Cond.fieldLinkNest RX1 76 "MainframeDesk$Thing" "there" "Z" "MainframeDesk").before args s = true := va_Nw.use rfl hN.2.1
theorem dNw_fanswered {s : State} {args : Array Value} (hN : dNw s) : (Cond.fieldLinkNest RX1 73 "MainframeDesk$Thing" "answered" "I" "MainframeDesk").before args s = true := va_Nw.use rfl hN.2.2.1
/-! what a method of the desk is given: for those that write nothing, and for those that do -/
def dP (dC : Nat → ClassId) (dI : Nat → Nat → Nat) (tys : List (ClassId × FieldType)) (ws : va_W) (U : State) : Prop := va_P (dC, dI) vwCl ws U.heap ∧ va_K (dC, dI) vwCl tys U ∧ dNw U
def dQ (dC : Nat → ClassId) (dI : Nat → Nat → Nat) (tys : List (ClassId × FieldType)) (ws : va_W) (sz : Nat) (U : State) : Prop := U.heap.size = sz ∧ va_P (dC, dI) vwCl ws U.heap ∧ va_K (dC, dI) vwCl tys U ∧ va_D (fun _ => True) ws ∧ dNw U
theorem dP_bl {dC : Nat → ClassId} {dI : Nat → Nat → Nat} {tys : List (ClassId × FieldType)} {ws : va_W} {av : List Value} : FrameBlind (va_Pc av (dP dC dI tys ws)) := fun _ U g mk q => ⟨q.1, q.2.1, va_K.moved (u := U) (Vm.Alike.refl U.vm) q.2.2.1, dNw_same rfl q.2.2.2⟩
theorem dQ_bl {dC : Nat → ClassId} {dI : Nat → Nat → Nat} {tys : List (ClassId × FieldType)} {ws : va_W} {sz : Nat} {av : List Value} : FrameBlind (va_Pc av (dQ dC dI tys ws sz)) := fun _ U g mk q => ⟨q.1, q.2.1, q.2.2.1, va_K.moved (u := U) (Vm.Alike.refl U.vm) q.2.2.2.1, q.2.2.2.2.1, dNw_same rfl q.2.2.2.2.2⟩
theorem dP_at {dC : Nat → ClassId} {dI : Nat → Nat → Nat} {tys : List (ClassId × FieldType)} {ws : va_W} {s U : State} {H : Heap} (hU : U.heap = H) (hW : s.WarmedH U.vm) (hP : va_P (dC, dI) vwCl ws H) (hK : va_K (dC, dI) vwCl tys s) (hN : dNw s) : dP dC dI tys ws U := ⟨by rw [hU]; exact hP, va_K.moved hW.alike hK, dNw_warm hW hN⟩
theorem dQ_at {dC : Nat → ClassId} {dI : Nat → Nat → Nat} {tys : List (ClassId × FieldType)} {ws : va_W} {A : Nat → Prop} {s U : State} {H : Heap} (hU : U.heap = H) (hW : s.WarmedH U.vm) (hP : va_P (dC, dI) vwCl ws H) (hK : va_K (dC, dI) vwCl tys s) (hD : va_D A ws) (hN : dNw s) : dQ dC dI tys ws H.size U := ⟨by rw [hU], by rw [hU]; exact hP, va_K.moved hW.alike hK, hD.weaken (fun _ _ _ _ => trivial), dNw_warm hW hN⟩
/-- the cells behind a method that wrote -/
def dAt (dC : Nat → ClassId) (dI : Nat → Nat → Nat) (ws : va_W) (A : Nat → Prop) (t : State) : Prop := va_P (dC, dI) vwCl ws t.heap ∧ va_D A ws
end
section
theorem kx_refc {rc : Nat → Int32} {k o c : Int32} {a : Int64} (h : mRef rc k o c a = 0) : 0 ≤ c ∧ c < 32 := by
  by_cases hc : (0 ≤ c ∧ c < 32) ∧ k = mW8 c
  · exact hc.1
  · unfold mRef at h
    rw [if_neg hc] at h
    exact absurd h (by decide)
set_option maxHeartbeats 1000000 in
set_option maxRecDepth 100000 in
/-- isWithin(i, k): whether 0 ≤ i < k -/
theorem c_isWithin (l : Launch) (i k : Int32) : Met l yX1_isWithin wsX1_isWithin ({ frames := 0, cells := 0, slots := 0, locals := 0 }) (va_Pc [.int i, .int k] (fun _ => True)) (vp_Si (fun r => ((0 ≤ i ∧ i < k) ∧ r = 1) ∨ (¬ (0 ≤ i ∧ i < k) ∧ r = 0))) 0 0 (fun _ => False) := by
  refine Met.ofW (cc := cX1_isWithin) (maxL := 2) (ret := (some .boolean)) (by decide) rfl ?_
  intro p e s m args below meth c s₁ B hml hv
  obtain ⟨rfl, -⟩ := hv
  have hx := B.exec
  have hb := B.bytes
  have hr := B.returns
  have hts := atoms_spec (ws := wsX1_isWithin) B.pre
  have hown : s.vm.findClass RX1 = some m.cls := findClass_of_methodNamed B.named
  have hlocks := B.notSynchronized
  have hl := lv_entry ([.int i, .int k]) (n := 2) (Nat.le_of_ble_eq_true rfl)
  rw [lg_entry_eq]
  generalize (lg_sl ([.int i, .int k]) ++ List.replicate (2 - (lg_sl ([.int i, .int k])).length) Slot.unset).toArray = ls at hl ⊢
  have hl : lv_has ls 2 [(0, .int i), (1, .int k)] := hl
  refine lv_iload_n hx hb dX1_isWithin_0 rfl (lv_at hl 0 rfl) ?_
  refine lv_if_lt (tgt := 13) hx hb dX1_isWithin_1 (by decide) (fun c_1 => ?_) (fun c_1 => ?_)
  · refine lv_iconst (v := 0) hx hb dX1_isWithin_13 (by decide) ?_
    exact W.zret (v := 0) hx hb hr rfl (fun t ht hW => ⟨_, rfl, Or.inr ⟨fun q => Int32.not_le.mpr c_1 q.1, rfl⟩, ht⟩) (fun _ h => absurd h List.not_mem_nil) dX1_isWithin_14
  · refine lv_iload_n hx hb dX1_isWithin_4 rfl (lv_at hl 0 rfl) ?_
    refine lv_iload_n hx hb dX1_isWithin_5 rfl (lv_at hl 1 rfl) ?_
    refine lv_icmp_ge (tgt := 13) hx hb dX1_isWithin_6 (by decide) (fun c_2 => ?_) (fun c_2 => ?_)
    · refine lv_iconst (v := 0) hx hb dX1_isWithin_13 (by decide) ?_
      exact W.zret (v := 0) hx hb hr rfl (fun t ht hW => ⟨_, rfl, Or.inr ⟨fun q => Int32.not_lt.mpr c_2 q.2, rfl⟩, ht⟩) (fun _ h => absurd h List.not_mem_nil) dX1_isWithin_14
    · refine lv_iconst (v := 1) hx hb dX1_isWithin_9 (by decide) ?_
      refine lv_goto (tgt := 14) hx hb dX1_isWithin_10 (by decide) ?_
      exact W.zret (v := 1) hx hb hr rfl (fun t ht hW => ⟨_, rfl, Or.inl ⟨⟨Int32.not_lt.mp c_1, Int32.not_le.mp c_2⟩, rfl⟩, ht⟩) (fun _ h => absurd h List.not_mem_nil) dX1_isWithin_14
set_option maxHeartbeats 1000000 in
set_option maxRecDepth 100000 in
/-- hasRow(c): whether 8 ≤ c -/
theorem c_hasRow (l : Launch) (cz : Int32) : Met l yX1_hasRow wsX1_hasRow ({ frames := 0, cells := 0, slots := 0, locals := 0 }) (va_Pc [.int cz] (fun _ => True)) (vp_Si (fun r => (8 ≤ cz ∧ r = 1) ∨ (¬ 8 ≤ cz ∧ r = 0))) 0 0 (fun _ => False) := by
  refine Met.ofW (cc := cX1_hasRow) (maxL := 1) (ret := (some .boolean)) (by decide) rfl ?_
  intro p e s m args below meth c s₁ B hml hv
  obtain ⟨rfl, -⟩ := hv
  have hx := B.exec
  have hb := B.bytes
  have hr := B.returns
  have hts := atoms_spec (ws := wsX1_hasRow) B.pre
  have hown : s.vm.findClass RX1 = some m.cls := findClass_of_methodNamed B.named
  have hlocks := B.notSynchronized
  have hl := lv_entry ([.int cz]) (n := 1) (Nat.le_of_ble_eq_true rfl)
  rw [lg_entry_eq]
  generalize (lg_sl ([.int cz]) ++ List.replicate (1 - (lg_sl ([.int cz])).length) Slot.unset).toArray = ls at hl ⊢
  have hl : lv_has ls 1 [(0, .int cz)] := hl
  refine lv_iload_n hx hb dX1_hasRow_0 rfl (lv_at hl 0 rfl) ?_
  refine lv_bipush (v := 8) hx hb dX1_hasRow_1 (by decide) ?_
  refine lv_icmp_lt (tgt := 10) hx hb dX1_hasRow_3 (by decide) (fun c_3 => ?_) (fun c_3 => ?_)
  · refine lv_iconst (v := 0) hx hb dX1_hasRow_10 (by decide) ?_
    exact W.zret (v := 0) hx hb hr rfl (fun t ht hW => ⟨_, rfl, Or.inr ⟨Int32.not_le.mpr c_3, rfl⟩, ht⟩) (fun _ h => absurd h List.not_mem_nil) dX1_hasRow_11
  · refine lv_iconst (v := 1) hx hb dX1_hasRow_6 (by decide) ?_
    refine lv_goto (tgt := 11) hx hb dX1_hasRow_7 (by decide) ?_
    exact W.zret (v := 1) hx hb hr rfl (fun t ht hW => ⟨_, rfl, Or.inl ⟨Int32.not_lt.mp c_3, rfl⟩, ht⟩) (fun _ h => absurd h List.not_mem_nil) dX1_hasRow_11
set_option maxHeartbeats 1000000 in
set_option maxRecDepth 100000 in
/-- rowOf(c): c modulo 4 -/
theorem c_rowOf (l : Launch) (cz : Int32) : Met l yX1_rowOf wsX1_rowOf ({ frames := 0, cells := 0, slots := 0, locals := 0 }) (va_Pc [.int cz] (fun _ => True)) (vp_Si (fun r => r = mW4 cz)) 0 0 (fun _ => False) := by
  refine Met.ofW (cc := cX1_rowOf) (maxL := 1) (ret := (some .int)) (by decide) rfl ?_
  intro p e s m args below meth c s₁ B hml hv
  obtain ⟨rfl, -⟩ := hv
  have hx := B.exec
  have hb := B.bytes
  have hr := B.returns
  have hts := atoms_spec (ws := wsX1_rowOf) B.pre
  have hown : s.vm.findClass RX1 = some m.cls := findClass_of_methodNamed B.named
  have hlocks := B.notSynchronized
  have hl := lv_entry ([.int cz]) (n := 1) (Nat.le_of_ble_eq_true rfl)
  rw [lg_entry_eq]
  generalize (lg_sl ([.int cz]) ++ List.replicate (1 - (lg_sl ([.int cz])).length) Slot.unset).toArray = ls at hl ⊢
  have hl : lv_has ls 1 [(0, .int cz)] := hl
  refine lv_iload_n hx hb dX1_rowOf_0 rfl (lv_at hl 0 rfl) ?_
  refine lv_iconst (v := 4) hx hb dX1_rowOf_1 (by decide) ?_
  refine lv_irem hx hb dX1_rowOf_2 (by decide) ?_
  refine lv_topi (fun z_4 ez_4 => ?_)
  exact W.iret (v := z_4) hx hb hr (fun t ht hW => ⟨_, rfl, ez_4, ht⟩) (fun _ h => absurd h List.not_mem_nil) dX1_rowOf_3
theorem iwX1_find_1 : ∀ w ∈ wsX10, w ∈ wsX1_find := fun _ h => List.mem_cons_of_mem _ (List.mem_append_right _ h)
set_option maxHeartbeats 1000000 in
set_option maxRecDepth 100000 in
/-- find(x): the thing with the number x, or null -/
theorem c_find (l : Launch) (dC : Nat → ClassId) (dI : Nat → Nat → Nat) (h qT qC qS qA qF : Nat) (cT cC cS cA cF : ClassId) (ad : Nat → Nat) (n : Nat) (kd ok cn rc : Nat → Int32) (rs an : Nat → Int64) (fl : Nat → Int32) (t0 t1 t2 t3 t4 t5 : Int32) (hn : n ≤ 200) (x : Int32) : Met l yX1_find wsX1_find ({ frames := 0, cells := 0, slots := 0, locals := 0 }) (va_Pc [.ref h, .int x] (dP dC dI [(cT, .object "MainframeDesk$Thing"), (cC, .int), (cS, .long), (cA, .long), (cF, .int)] (dW h qT qC qS qA qF cT cC cS cA cF ad n kd ok cn rc rs an fl t0 t1 t2 t3 t4 t5))) (va_Sq (fun r => ((1 ≤ x ∧ x ≤ nI n) ∧ r = some (ad (mIx x))) ∨ (¬ (1 ≤ x ∧ x ≤ nI n) ∧ r = none))) 0 0 (fun _ => False) := by
  refine Met.ofW (cc := cX1_find) (maxL := 2) (ret := (some (.object "MainframeDesk$Thing"))) (by decide) rfl ?_
  intro p e s m args below meth c s₁ B hml hv
  obtain ⟨rfl, hP, hK, hN⟩ := hv
  have hx := B.exec
  have hb := B.bytes
  have hr := B.returns
  have hts := atoms_spec (ws := wsX1_find) B.pre
  have hown : s.vm.findClass RX1 = some m.cls := findClass_of_methodNamed B.named
  have hlocks := B.notSynchronized
  have hl := lv_entry ([.ref h, .int x]) (n := 2) (Nat.le_of_ble_eq_true rfl)
  rw [lg_entry_eq]
  generalize (lg_sl ([.ref h, .int x]) ++ List.replicate (2 - (lg_sl ([.ref h, .int x])).length) Slot.unset).toArray = ls at hl ⊢
  have hl : lv_has ls 2 [(0, .ref h), (1, .int x)] := hl
  refine lv_iload_n hx hb dX1_find_0 rfl (lv_at hl 1 rfl) ?_
  refine lv_iconst (v := 1) hx hb dX1_find_1 (by decide) ?_
  refine lv_icmp_lt (tgt := 24) hx hb dX1_find_2 (by decide) (fun c_5 => ?_) (fun c_5 => ?_)
  · refine lv_null hx hb dX1_find_24 ?_
    exact W.aret (v := .null) hx hb hr (Or.inl ⟨_, rfl⟩) (Or.inl rfl) (fun t ht hW => ⟨none, rfl, Or.inr ⟨fun q => Int32.not_le.mpr c_5 q.1, rfl⟩, ht⟩) (fun _ h => absurd h List.not_mem_nil) dX1_find_25
  · refine lv_iload_n hx hb dX1_find_5 rfl (lv_at hl 1 rfl) ?_
    refine lv_aload_n hx hb dX1_find_6 rfl (lv_at hl 0 rfl) ?_
    refine va_get (D := (dC, dI)) (ci := 1) (v := .int (nI n)) (C := RX1) (T := TX1) (N := 12) hx hb hts iwX1_find_1 hown hK hP 0 rfl rfl 1 (by decide) (hts (.fieldLink RX1 15 "MainframeDesk" "made" "I") (by decide +kernel)) (fun _ h9 => h9) rfl dX1_find_7 ?_
    refine lv_icmp_gt (tgt := 24) hx hb dX1_find_10 (by decide) (fun c_6 => ?_) (fun c_6 => ?_)
    · refine lv_null hx hb dX1_find_24 ?_
      exact W.aret (v := .null) hx hb hr (Or.inl ⟨_, rfl⟩) (Or.inl rfl) (fun t ht hW => ⟨none, rfl, Or.inr ⟨fun q => Int32.not_le.mpr c_6 q.2, rfl⟩, ht⟩) (fun _ h => absurd h List.not_mem_nil) dX1_find_25
    · refine lv_aload_n hx hb dX1_find_13 rfl (lv_at hl 0 rfl) ?_
      refine va_get (D := (dC, dI)) (ci := 1) (v := .ref qT) (C := RX1) (T := TX1) (N := 12) hx hb hts iwX1_find_1 hown hK hP 0 rfl rfl 0 (by decide) (hts (.fieldLink RX1 11 "MainframeDesk" "things" "[LMainframeDesk$Thing;") (by decide +kernel)) (fun _ h9 => h9) rfl dX1_find_14 ?_
      refine lv_iload_n hx hb dX1_find_17 rfl (lv_at hl 1 rfl) ?_
      refine lv_iconst (v := 1) hx hb dX1_find_18 (by decide) ?_
      refine lv_isub hx hb dX1_find_19 ?_
      refine lv_topi (fun z_7 ez_7 => ?_)
      have hxx : 1 ≤ x ∧ x ≤ nI n := ⟨Int32.not_lt.mp c_5, Int32.not_lt.mp c_6⟩
      obtain ⟨hj, hj1, -⟩ := kx_ix hn hxx
      have hz9 : vp_in z_7 200 := by rw [ez_7, hj1]; exact vp_in_nI (by omega) (by omega)
      have hr9 : dTh n ad z_7.toNatClampNeg = some (ad (mIx x)) := by rw [ez_7, hj1, nI_clamp (by omega)]; exact if_pos hj
      refine va_aldq hx hb hK hP 1 0 rfl rfl hz9 dX1_find_20 ?_
      refine lv_goto (tgt := 25) hx hb dX1_find_21 (by decide) ?_
      exact W.aret (v := va_rf (dTh n ad z_7.toNatClampNeg)) hx hb hr (Or.inl ⟨_, rfl⟩) (va_rf_or _) (fun t ht hW => ⟨_, rfl, Or.inl ⟨hxx, hr9⟩, ht⟩) (fun _ h => absurd h List.not_mem_nil) dX1_find_25
theorem iwX1_refusalOf_0 : ∀ w ∈ wsX00, w ∈ wsX1_refusalOf := fun _ h => List.mem_cons_of_mem _ (List.mem_append_left _ (List.mem_append_right _ h))
theorem iwX1_refusalOf_1 : ∀ w ∈ wsX10, w ∈ wsX1_refusalOf := fun _ h => List.mem_cons_of_mem _ (List.mem_append_right _ h)
set_option maxHeartbeats 1000000 in
set_option maxRecDepth 100000 in
/-- refusalOf of no thing: -2 -/
theorem c_refusalN (l : Launch) (dC : Nat → ClassId) (dI : Nat → Nat → Nat) (h qT qC qS qA qF : Nat) (cT cC cS cA cF : ClassId) (ad : Nat → Nat) (n : Nat) (kd ok cn rc : Nat → Int32) (rs an : Nat → Int64) (fl : Nat → Int32) (t0 t1 t2 t3 t4 t5 : Int32) (cz : Int32) (a : Int64) : Met l yX1_refusalOf wsX1_refusalOf ({ frames := 1, cells := 0, slots := 0, locals := 21 }) (va_Pc [.ref h, .int cz, .null, .long a] (dP dC dI [(cT, .object "MainframeDesk$Thing"), (cC, .int), (cS, .long), (cA, .long), (cF, .int)] (dW h qT qC qS qA qF cT cC cS cA cF ad n kd ok cn rc rs an fl t0 t1 t2 t3 t4 t5))) (vp_Si (fun r => r = -2)) 0 0 (fun _ => False) := by
  refine Met.ofW (cc := cX1_refusalOf) (maxL := 6) (ret := (some .int)) (by decide) rfl ?_
  intro p e s m args below meth c s₁ B hml hv
  obtain ⟨rfl, hP, hK, hN⟩ := hv
  have hx := B.exec
  have hb := B.bytes
  have hr := B.returns
  have hts := atoms_spec (ws := wsX1_refusalOf) B.pre
  have hown : s.vm.findClass RX1 = some m.cls := findClass_of_methodNamed B.named
  have hlocks := B.notSynchronized
  have hl := lv_entry ([.ref h, .int cz, .null, .long a]) (n := 6) (Nat.le_of_ble_eq_true rfl)
  rw [lg_entry_eq]
  generalize (lg_sl ([.ref h, .int cz, .null, .long a]) ++ List.replicate (6 - (lg_sl ([.ref h, .int cz, .null, .long a])).length) Slot.unset).toArray = ls at hl ⊢
  have hl : lv_has ls 6 [(0, .ref h), (1, .int cz), (2, .null), (3, .long a)] := hl
  refine lv_iload_n hx hb dX1_refusalOf_0 rfl (lv_at hl 1 rfl) ?_
  refine lv_bipush (v := 32) hx hb dX1_refusalOf_1 (by decide) ?_
  refine vp_callSi (W.runS (As := [.int cz, .int 32]) (rest := []) ⟨hx, hb, hml, hown, hts⟩ (c_isWithin l cz 32) (va_cwS 2 hts gX1_refusalOf_X1_isWithin rfl rfl rfl (by decide +kernel) ⟨Nat.le_of_ble_eq_true rfl, Nat.le_of_ble_eq_true rfl⟩) ⟨fun _ _ _ _ q => q, fun _ _ _ => ⟨rfl, trivial⟩⟩ rfl rfl hl.1 rfl (lv_room (Nat.le_of_ble_eq_true rfl)) dX1_refusalOf_3 ⟨Nat.le_of_ble_eq_true rfl, Nat.le_of_ble_eq_true rfl⟩) (fun r9 hr9 => ?_)
  rcases hr9 with ⟨hq_8, rfl⟩ | ⟨hq_8, rfl⟩
  · refine lv_if_eq (tgt := 24) hx hb dX1_refusalOf_6 (by decide) (fun h => absurd h (by decide)) (fun _ => ?_)
    refine lv_aload_nN hx hb dX1_refusalOf_9 rfl (lv_at hl 2 rfl) ?_
    refine lv_ifnullN (tgt := 24) hx hb dX1_refusalOf_10 (by decide) ?_
    refine lv_bipush (v := (-2)) hx hb dX1_refusalOf_24 (by decide) ?_
    exact W.iret (v := (-2)) hx hb hr (fun t ht hW => ⟨_, rfl, rfl, ht⟩) (fun _ h => absurd h List.not_mem_nil) dX1_refusalOf_26
  · refine lv_if_eq (tgt := 24) hx hb dX1_refusalOf_6 (by decide) (fun _ => ?_) (fun h => absurd h (by decide))
    refine lv_bipush (v := (-2)) hx hb dX1_refusalOf_24 (by decide) ?_
    exact W.iret (v := (-2)) hx hb hr (fun t ht hW => ⟨_, rfl, rfl, ht⟩) (fun _ h => absurd h List.not_mem_nil) dX1_refusalOf_26
set_option maxHeartbeats 1000000 in
set_option maxRecDepth 100000 in
/-- refusalOf of the thing j -/
theorem c_refusalOf (l : Launch) (dC : Nat → ClassId) (dI : Nat → Nat → Nat) (h qT qC qS qA qF : Nat) (cT cC cS cA cF : ClassId) (ad : Nat → Nat) (n : Nat) (kd ok cn rc : Nat → Int32) (rs an : Nat → Int64) (fl : Nat → Int32) (t0 t1 t2 t3 t4 t5 : Int32) (j : Nat) (hj : j < n) (cz : Int32) (a : Int64) : Met l yX1_refusalOf wsX1_refusalOf ({ frames := 1, cells := 0, slots := 0, locals := 21 }) (va_Pc [.ref h, .int cz, .ref (ad j), .long a] (dP dC dI [(cT, .object "MainframeDesk$Thing"), (cC, .int), (cS, .long), (cA, .long), (cF, .int)] (dW h qT qC qS qA qF cT cC cS cA cF ad n kd ok cn rc rs an fl t0 t1 t2 t3 t4 t5))) (vp_Si (fun r => r = mRef rc (kd j) (ok j) cz a)) 0 0 (fun _ => False) := by
  refine Met.ofW (cc := cX1_refusalOf) (maxL := 6) (ret := (some .int)) (by decide) rfl ?_
  intro p e s m args below meth c s₁ B hml hv
  obtain ⟨rfl, hP, hK, hN⟩ := hv
  have hx := B.exec
  have hb := B.bytes
  have hr := B.returns
  have hts := atoms_spec (ws := wsX1_refusalOf) B.pre
  have hown : s.vm.findClass RX1 = some m.cls := findClass_of_methodNamed B.named
  have hlocks := B.notSynchronized
  have hl := lv_entry ([.ref h, .int cz, .ref (ad j), .long a]) (n := 6) (Nat.le_of_ble_eq_true rfl)
  rw [lg_entry_eq]
  generalize (lg_sl ([.ref h, .int cz, .ref (ad j), .long a]) ++ List.replicate (6 - (lg_sl ([.ref h, .int cz, .ref (ad j), .long a])).length) Slot.unset).toArray = ls at hl ⊢
  have hl : lv_has ls 6 [(0, .ref h), (1, .int cz), (2, .ref (ad j)), (3, .long a)] := hl
  refine lv_iload_n hx hb dX1_refusalOf_0 rfl (lv_at hl 1 rfl) ?_
  refine lv_bipush (v := 32) hx hb dX1_refusalOf_1 (by decide) ?_
  refine vp_callSi (W.runS (As := [.int cz, .int 32]) (rest := []) ⟨hx, hb, hml, hown, hts⟩ (c_isWithin l cz 32) (va_cwS 2 hts gX1_refusalOf_X1_isWithin rfl rfl rfl (by decide +kernel) ⟨Nat.le_of_ble_eq_true rfl, Nat.le_of_ble_eq_true rfl⟩) ⟨fun _ _ _ _ q => q, fun _ _ _ => ⟨rfl, trivial⟩⟩ rfl rfl hl.1 rfl (lv_room (Nat.le_of_ble_eq_true rfl)) dX1_refusalOf_3 ⟨Nat.le_of_ble_eq_true rfl, Nat.le_of_ble_eq_true rfl⟩) (fun r9 hr9 => ?_)
  rcases hr9 with ⟨hq_11, rfl⟩ | ⟨hq_11, rfl⟩
  · refine lv_if_eq (tgt := 24) hx hb dX1_refusalOf_6 (by decide) (fun h => absurd h (by decide)) (fun _ => ?_)
    refine lv_aload_n hx hb dX1_refusalOf_9 rfl (lv_at hl 2 rfl) ?_
    refine lv_ifnull hx hb dX1_refusalOf_10 ?_
    refine lv_aload_n hx hb dX1_refusalOf_13 rfl (lv_at hl 2 rfl) ?_
    refine va_getN (D := (dC, dI)) (ci := 0) (v := .int (kd j)) (C := RX0) (T := TX0) (N := 3) hx hb hts iwX1_refusalOf_0 hown hK hP (6 + j) (dW_at hj) rfl 0 (by decide) (dNw_fkind hN) (fun _ h9 => h9) rfl dX1_refusalOf_14 ?_
    refine lv_iload_n hx hb dX1_refusalOf_17 rfl (lv_at hl 1 rfl) ?_
    refine lv_bipush (v := 8) hx hb dX1_refusalOf_18 (by decide) ?_
    refine lv_irem hx hb dX1_refusalOf_20 (by decide) ?_
    refine lv_topi (fun z_13 ez_13 => ?_)
    refine lv_icmp_eq (tgt := 27) hx hb dX1_refusalOf_21 (by decide) (fun c_14 => ?_) (fun c_14 => ?_)
    · refine lv_lload_n hx hb dX1_refusalOf_27 rfl (lv_at hl 3 rfl) ?_
      refine lv_lconst (v := 0) hx hb dX1_refusalOf_28 (by decide) ?_
      refine W.lcmp hx hb dX1_refusalOf_29 ?_
      refine lv_if_lt (tgt := 41) hx hb dX1_refusalOf_30 (by decide) (fun c_15 => ?_) (fun c_15 => ?_)
      · refine lv_bipush (v := (-4)) hx hb dX1_refusalOf_41 (by decide) ?_
        subst ez_13
        exact W.iret (v := (-4)) hx hb hr (fun t ht hW => ⟨_, rfl, (by unfold mRef; rw [if_pos ⟨hq_11, c_14⟩, if_neg (fun q => Int64.not_le.mpr ((lg_cmp_lt _ _).mp c_15) q.1)]), ht⟩) (fun _ h => absurd h List.not_mem_nil) dX1_refusalOf_43
      · refine lv_lload_n hx hb dX1_refusalOf_33 rfl (lv_at hl 3 rfl) ?_
        refine lv_ldc2 (v := 1000000) hx hb hown (hts (.constantLong RX1 87 1000000) (by decide +kernel)) dX1_refusalOf_34 ?_
        refine W.lcmp hx hb dX1_refusalOf_37 ?_
        refine lv_if_le (tgt := 44) hx hb dX1_refusalOf_38 (by decide) (fun c_16 => ?_) (fun c_16 => ?_)
        · refine lv_iload_n hx hb dX1_refusalOf_44 rfl (lv_at hl 1 rfl) ?_
          refine lv_bipush (v := 24) hx hb dX1_refusalOf_45 (by decide) ?_
          refine lv_icmp_lt (tgt := 66) hx hb dX1_refusalOf_47 (by decide) (fun c_17 => ?_) (fun c_17 => ?_)
          · refine lv_iconst (v := 0) hx hb dX1_refusalOf_66 (by decide) ?_
            refine lv_istore (lv' := [(5, .int 0), (0, .ref h), (1, .int cz), (2, .ref (ad j)), (3, .long a)]) hx hb dX1_refusalOf_67 hl (by decide) rfl (fun ls hl => ?_)
            refine lv_aload_n hx hb dX1_refusalOf_69 rfl (lv_at hl 3 rfl) ?_
            refine va_getN (D := (dC, dI)) (ci := 0) (v := .int (ok j)) (C := RX0) (T := TX0) (N := 3) hx hb hts iwX1_refusalOf_0 hown hK hP (6 + j) (dW_at hj) rfl 1 (by decide) (dNw_fthere hN) (fun _ h9 => h9) rfl dX1_refusalOf_70 ?_
            refine lv_if_eq (tgt := 81) hx hb dX1_refusalOf_73 (by decide) (fun c_18 => ?_) (fun c_18 => ?_)
            · refine lv_bipush (v := (-5)) hx hb dX1_refusalOf_81 (by decide) ?_
              refine lv_goto (tgt := 87) hx hb dX1_refusalOf_83 (by decide) ?_
              subst ez_13
              exact W.iret (v := (-5)) hx hb hr (fun t ht hW => ⟨_, rfl, (by unfold mRef; rw [if_pos ⟨hq_11, c_14⟩, if_pos ⟨Int64.not_lt.mp (fun q => c_15 ((lg_cmp_lt _ _).mpr q)), (lg_cmp_le _ _).mp c_16⟩, if_pos (Or.inl c_18)]), ht⟩) (fun _ h => absurd h List.not_mem_nil) dX1_refusalOf_87
            · refine lv_iload hx hb dX1_refusalOf_76 (lv_at hl 0 rfl) ?_
              refine lv_if_eq (tgt := 86) hx hb dX1_refusalOf_78 (by decide) (fun _ => ?_) (fun h => absurd h (by decide))
              refine lv_iconst (v := 0) hx hb dX1_refusalOf_86 (by decide) ?_
              subst ez_13
              exact W.iret (v := 0) hx hb hr (fun t ht hW => ⟨_, rfl, (by unfold mRef; rw [if_pos ⟨hq_11, c_14⟩, if_pos ⟨Int64.not_lt.mp (fun q => c_15 ((lg_cmp_lt _ _).mpr q)), (lg_cmp_le _ _).mp c_16⟩, if_neg (fun q => q.elim c_18 (fun w9 => Int32.not_le.mpr c_17 w9.1))]), ht⟩) (fun _ h => absurd h List.not_mem_nil) dX1_refusalOf_87
          · refine lv_aload_n hx hb dX1_refusalOf_50 rfl (lv_at hl 0 rfl) ?_
            refine va_get (D := (dC, dI)) (ci := 1) (v := .ref qC) (C := RX1) (T := TX1) (N := 12) hx hb hts iwX1_refusalOf_1 hown hK hP 0 rfl rfl 2 (by decide) (hts (.fieldLink RX1 19 "MainframeDesk" "rowCounts" "[I") (by decide +kernel)) (fun _ h9 => h9) rfl dX1_refusalOf_51 ?_
            refine lv_iload_n hx hb dX1_refusalOf_54 rfl (lv_at hl 1 rfl) ?_
            refine vp_callSi (W.runS (As := [.int cz]) (rest := [.ref qC]) ⟨hx, hb, hml, hown, hts⟩ (c_rowOf l cz) (va_cwS 1 hts gX1_refusalOf_X1_rowOf rfl rfl rfl (by decide +kernel) ⟨Nat.le_of_ble_eq_true rfl, Nat.le_of_ble_eq_true rfl⟩) ⟨fun _ _ _ _ q => q, fun _ _ _ => ⟨rfl, trivial⟩⟩ rfl rfl hl.1 rfl (lv_room (Nat.le_of_ble_eq_true rfl)) dX1_refusalOf_55 ⟨Nat.le_of_ble_eq_true rfl, Nat.le_of_ble_eq_true rfl⟩) (fun r9 hr9 => ?_)
            subst hr9
            refine va_iald hx hb hK hP 2 1 rfl rfl (kx_w4 hq_11) dX1_refusalOf_58 ?_
            refine lv_topi (fun v_20 ev_20 => ?_)
            refine lv_if_ne (tgt := 66) hx hb dX1_refusalOf_59 (by decide) (fun c_21 => ?_) (fun c_21 => ?_)
            · refine lv_iconst (v := 0) hx hb dX1_refusalOf_66 (by decide) ?_
              refine lv_istore (lv' := [(5, .int 0), (0, .ref h), (1, .int cz), (2, .ref (ad j)), (3, .long a)]) hx hb dX1_refusalOf_67 hl (by decide) rfl (fun ls hl => ?_)
              refine lv_aload_n hx hb dX1_refusalOf_69 rfl (lv_at hl 3 rfl) ?_
              refine va_getN (D := (dC, dI)) (ci := 0) (v := .int (ok j)) (C := RX0) (T := TX0) (N := 3) hx hb hts iwX1_refusalOf_0 hown hK hP (6 + j) (dW_at hj) rfl 1 (by decide) (dNw_fthere hN) (fun _ h9 => h9) rfl dX1_refusalOf_70 ?_
              refine lv_if_eq (tgt := 81) hx hb dX1_refusalOf_73 (by decide) (fun c_22 => ?_) (fun c_22 => ?_)
              · refine lv_bipush (v := (-5)) hx hb dX1_refusalOf_81 (by decide) ?_
                refine lv_goto (tgt := 87) hx hb dX1_refusalOf_83 (by decide) ?_
                subst ez_13
                subst ev_20
                exact W.iret (v := (-5)) hx hb hr (fun t ht hW => ⟨_, rfl, (by unfold mRef; rw [if_pos ⟨hq_11, c_14⟩, if_pos ⟨Int64.not_lt.mp (fun q => c_15 ((lg_cmp_lt _ _).mpr q)), (lg_cmp_le _ _).mp c_16⟩, if_pos (Or.inl c_22)]), ht⟩) (fun _ h => absurd h List.not_mem_nil) dX1_refusalOf_87
              · refine lv_iload hx hb dX1_refusalOf_76 (lv_at hl 0 rfl) ?_
                refine lv_if_eq (tgt := 86) hx hb dX1_refusalOf_78 (by decide) (fun _ => ?_) (fun h => absurd h (by decide))
                refine lv_iconst (v := 0) hx hb dX1_refusalOf_86 (by decide) ?_
                subst ez_13
                subst ev_20
                exact W.iret (v := 0) hx hb hr (fun t ht hW => ⟨_, rfl, (by unfold mRef; rw [if_pos ⟨hq_11, c_14⟩, if_pos ⟨Int64.not_lt.mp (fun q => c_15 ((lg_cmp_lt _ _).mpr q)), (lg_cmp_le _ _).mp c_16⟩, if_neg (fun q => q.elim c_22 (fun w9 => c_21 w9.2))]), ht⟩) (fun _ h => absurd h List.not_mem_nil) dX1_refusalOf_87
            · refine lv_iconst (v := 1) hx hb dX1_refusalOf_62 (by decide) ?_
              refine lv_goto (tgt := 67) hx hb dX1_refusalOf_63 (by decide) ?_
              refine lv_istore (lv' := [(5, .int 1), (0, .ref h), (1, .int cz), (2, .ref (ad j)), (3, .long a)]) hx hb dX1_refusalOf_67 hl (by decide) rfl (fun ls hl => ?_)
              refine lv_aload_n hx hb dX1_refusalOf_69 rfl (lv_at hl 3 rfl) ?_
              refine va_getN (D := (dC, dI)) (ci := 0) (v := .int (ok j)) (C := RX0) (T := TX0) (N := 3) hx hb hts iwX1_refusalOf_0 hown hK hP (6 + j) (dW_at hj) rfl 1 (by decide) (dNw_fthere hN) (fun _ h9 => h9) rfl dX1_refusalOf_70 ?_
              refine lv_if_eq (tgt := 81) hx hb dX1_refusalOf_73 (by decide) (fun c_24 => ?_) (fun c_24 => ?_)
              · refine lv_bipush (v := (-5)) hx hb dX1_refusalOf_81 (by decide) ?_
                refine lv_goto (tgt := 87) hx hb dX1_refusalOf_83 (by decide) ?_
                subst ez_13
                subst ev_20
                exact W.iret (v := (-5)) hx hb hr (fun t ht hW => ⟨_, rfl, (by unfold mRef; rw [if_pos ⟨hq_11, c_14⟩, if_pos ⟨Int64.not_lt.mp (fun q => c_15 ((lg_cmp_lt _ _).mpr q)), (lg_cmp_le _ _).mp c_16⟩, if_pos (Or.inl c_24)]), ht⟩) (fun _ h => absurd h List.not_mem_nil) dX1_refusalOf_87
              · refine lv_iload hx hb dX1_refusalOf_76 (lv_at hl 0 rfl) ?_
                refine lv_if_eq (tgt := 86) hx hb dX1_refusalOf_78 (by decide) (fun h => absurd h (by decide)) (fun _ => ?_)
                refine lv_bipush (v := (-5)) hx hb dX1_refusalOf_81 (by decide) ?_
                refine lv_goto (tgt := 87) hx hb dX1_refusalOf_83 (by decide) ?_
                subst ez_13
                subst ev_20
                exact W.iret (v := (-5)) hx hb hr (fun t ht hW => ⟨_, rfl, (by unfold mRef; rw [if_pos ⟨hq_11, c_14⟩, if_pos ⟨Int64.not_lt.mp (fun q => c_15 ((lg_cmp_lt _ _).mpr q)), (lg_cmp_le _ _).mp c_16⟩, if_pos (Or.inr ⟨Int32.not_lt.mp c_17, c_21⟩)]), ht⟩) (fun _ h => absurd h List.not_mem_nil) dX1_refusalOf_87
        · refine lv_bipush (v := (-4)) hx hb dX1_refusalOf_41 (by decide) ?_
          subst ez_13
          exact W.iret (v := (-4)) hx hb hr (fun t ht hW => ⟨_, rfl, (by unfold mRef; rw [if_pos ⟨hq_11, c_14⟩, if_neg (fun q => c_16 ((lg_cmp_le _ _).mpr q.2))]), ht⟩) (fun _ h => absurd h List.not_mem_nil) dX1_refusalOf_43
    · refine lv_bipush (v := (-2)) hx hb dX1_refusalOf_24 (by decide) ?_
      subst ez_13
      exact W.iret (v := (-2)) hx hb hr (fun t ht hW => ⟨_, rfl, (by unfold mRef; rw [if_neg (fun q => c_14 q.2)]), ht⟩) (fun _ h => absurd h List.not_mem_nil) dX1_refusalOf_26
  · refine lv_if_eq (tgt := 24) hx hb dX1_refusalOf_6 (by decide) (fun _ => ?_) (fun h => absurd h (by decide))
    refine lv_bipush (v := (-2)) hx hb dX1_refusalOf_24 (by decide) ?_
    exact W.iret (v := (-2)) hx hb hr (fun t ht hW => ⟨_, rfl, (by unfold mRef; rw [if_neg (fun q => hq_11 q.1)]), ht⟩) (fun _ h => absurd h List.not_mem_nil) dX1_refusalOf_26
theorem iwX1_outcomeOf_1 : ∀ w ∈ wsX10, w ∈ wsX1_outcomeOf := fun _ h => List.mem_cons_of_mem _ (List.mem_append_left _ (List.mem_append_right _ h))
theorem iwX1_outcomeOf_0 : ∀ w ∈ wsX00, w ∈ wsX1_outcomeOf := fun _ h => List.mem_cons_of_mem _ (List.mem_append_right _ h)
set_option maxHeartbeats 1000000 in
set_option maxRecDepth 100000 in
/-- outcomeOf of the thing j -/
theorem c_outcomeOf (l : Launch) (dC : Nat → ClassId) (dI : Nat → Nat → Nat) (h qT qC qS qA qF : Nat) (cT cC cS cA cF : ClassId) (ad : Nat → Nat) (n : Nat) (kd ok cn rc : Nat → Int32) (rs an : Nat → Int64) (fl : Nat → Int32) (t0 t1 t2 t3 t4 t5 : Int32) (j : Nat) (hj : j < n) (cz : Int32) (a : Int64) (hc : 0 ≤ cz ∧ cz < 32) : Met l yX1_outcomeOf wsX1_outcomeOf ({ frames := 1, cells := 0, slots := 0, locals := 20 }) (va_Pc [.ref h, .int cz, .ref (ad j), .long a] (dP dC dI [(cT, .object "MainframeDesk$Thing"), (cC, .int), (cS, .long), (cA, .long), (cF, .int)] (dW h qT qC qS qA qF cT cC cS cA cF ad n kd ok cn rc rs an fl t0 t1 t2 t3 t4 t5))) (vp_Sl (fun r => r = mOut rs an fl (kd j) (cn j) cz a)) 0 0 (fun _ => False) := by
  refine Met.ofW (cc := cX1_outcomeOf) (maxL := 7) (ret := (some .long)) (by decide) rfl ?_
  intro p e s m args below meth c s₁ B hml hv
  obtain ⟨rfl, hP, hK, hN⟩ := hv
  have hx := B.exec
  have hb := B.bytes
  have hr := B.returns
  have hts := atoms_spec (ws := wsX1_outcomeOf) B.pre
  have hown : s.vm.findClass RX1 = some m.cls := findClass_of_methodNamed B.named
  have hlocks := B.notSynchronized
  have hl := lv_entry ([.ref h, .int cz, .ref (ad j), .long a]) (n := 7) (Nat.le_of_ble_eq_true rfl)
  rw [lg_entry_eq]
  generalize (lg_sl ([.ref h, .int cz, .ref (ad j), .long a]) ++ List.replicate (7 - (lg_sl ([.ref h, .int cz, .ref (ad j), .long a])).length) Slot.unset).toArray = ls at hl ⊢
  have hl : lv_has ls 7 [(0, .ref h), (1, .int cz), (2, .ref (ad j)), (3, .long a)] := hl
  refine lv_aload_n hx hb dX1_outcomeOf_0 rfl (lv_at hl 0 rfl) ?_
  refine va_get (D := (dC, dI)) (ci := 1) (v := .ref qF) (C := RX1) (T := TX1) (N := 12) hx hb hts iwX1_outcomeOf_1 hown hK hP 0 rfl rfl 5 (by decide) (hts (.fieldLink RX1 30 "MainframeDesk" "failures" "[I") (by decide +kernel)) (fun _ h9 => h9) rfl dX1_outcomeOf_1 ?_
  refine lv_iload_n hx hb dX1_outcomeOf_4 rfl (lv_at hl 1 rfl) ?_
  refine va_iald hx hb hK hP 5 4 rfl rfl (kx_in hc (by decide)) dX1_outcomeOf_5 ?_
  refine lv_topi (fun v_27 ev_27 => ?_)
  refine lv_if_eq (tgt := 20) hx hb dX1_outcomeOf_6 (by decide) (fun c_28 => ?_) (fun c_28 => ?_)
  · refine lv_aload_n hx hb dX1_outcomeOf_20 rfl (lv_at hl 0 rfl) ?_
    refine va_get (D := (dC, dI)) (ci := 1) (v := .ref qA) (C := RX1) (T := TX1) (N := 12) hx hb hts iwX1_outcomeOf_1 hown hK hP 0 rfl rfl 4 (by decide) (hts (.fieldLink RX1 27 "MainframeDesk" "answers" "[J") (by decide +kernel)) (fun _ h9 => h9) rfl dX1_outcomeOf_21 ?_
    refine lv_iload_n hx hb dX1_outcomeOf_24 rfl (lv_at hl 1 rfl) ?_
    refine va_lald hx hb hK hP 4 3 rfl rfl (kx_in hc (by decide)) dX1_outcomeOf_25 ?_
    refine lv_topl (fun v_29 ev_29 => ?_)
    refine lv_lload_n hx hb dX1_outcomeOf_26 rfl (lv_at hl 3 rfl) ?_
    refine lv_ladd hx hb dX1_outcomeOf_27 ?_
    refine lv_topl (fun z_30 ez_30 => ?_)
    refine lv_lstore (lv' := [(5, .long z_30), (0, .ref h), (1, .int cz), (2, .ref (ad j)), (3, .long a)]) hx hb dX1_outcomeOf_28 hl (by decide) rfl (fun ls hl => ?_)
    refine lv_iload_n hx hb dX1_outcomeOf_30 rfl (lv_at hl 2 rfl) ?_
    refine vp_callSi (W.runS (As := [.int cz]) (rest := []) ⟨hx, hb, hml, hown, hts⟩ (c_hasRow l cz) (va_cwS 1 hts gX1_outcomeOf_X1_hasRow rfl rfl rfl (by decide +kernel) ⟨Nat.le_of_ble_eq_true rfl, Nat.le_of_ble_eq_true rfl⟩) ⟨fun _ _ _ _ q => q, fun _ _ _ => ⟨rfl, trivial⟩⟩ rfl rfl hl.1 rfl (lv_room (Nat.le_of_ble_eq_true rfl)) dX1_outcomeOf_31 ⟨Nat.le_of_ble_eq_true rfl, Nat.le_of_ble_eq_true rfl⟩) (fun r9 hr9 => ?_)
    rcases hr9 with ⟨h8_31, rfl⟩ | ⟨h8_31, rfl⟩
    · refine lv_if_eq (tgt := 51) hx hb dX1_outcomeOf_34 (by decide) (fun h => absurd h (by decide)) (fun _ => ?_)
      refine lv_lload hx hb dX1_outcomeOf_37 (lv_at hl 0 rfl) ?_
      refine lv_aload_n hx hb dX1_outcomeOf_39 rfl (lv_at hl 1 rfl) ?_
      refine va_get (D := (dC, dI)) (ci := 1) (v := .ref qS) (C := RX1) (T := TX1) (N := 12) hx hb hts iwX1_outcomeOf_1 hown hK hP 0 rfl rfl 3 (by decide) (hts (.fieldLink RX1 23 "MainframeDesk" "rowSums" "[J") (by decide +kernel)) (fun _ h9 => h9) rfl dX1_outcomeOf_40 ?_
      refine lv_iload_n hx hb dX1_outcomeOf_43 rfl (lv_at hl 2 rfl) ?_
      refine vp_callSi (W.runS (As := [.int cz]) (rest := [.ref qS, .long z_30]) ⟨hx, hb, hml, hown, hts⟩ (c_rowOf l cz) (va_cwS 1 hts gX1_outcomeOf_X1_rowOf rfl rfl rfl (by decide +kernel) ⟨Nat.le_of_ble_eq_true rfl, Nat.le_of_ble_eq_true rfl⟩) ⟨fun _ _ _ _ q => q, fun _ _ _ => ⟨rfl, trivial⟩⟩ rfl rfl hl.1 rfl (lv_room (Nat.le_of_ble_eq_true rfl)) dX1_outcomeOf_44 ⟨Nat.le_of_ble_eq_true rfl, Nat.le_of_ble_eq_true rfl⟩) (fun r9 hr9 => ?_)
      subst hr9
      refine va_lald hx hb hK hP 3 2 rfl rfl (kx_w4 hc) dX1_outcomeOf_47 ?_
      refine lv_topl (fun v_33 ev_33 => ?_)
      refine lv_ladd hx hb dX1_outcomeOf_48 ?_
      refine lv_topl (fun z_34 ez_34 => ?_)
      refine lv_lstore (lv' := [(5, .long z_34), (0, .ref h), (1, .int cz), (2, .ref (ad j)), (3, .long a)]) hx hb dX1_outcomeOf_49 hl (by decide) rfl (fun ls hl => ?_)
      refine lv_aload_n hx hb dX1_outcomeOf_51 rfl (lv_at hl 3 rfl) ?_
      refine va_getN (D := (dC, dI)) (ci := 0) (v := .int (kd j)) (C := RX0) (T := TX0) (N := 3) hx hb hts iwX1_outcomeOf_0 hown hK hP (6 + j) (dW_at hj) rfl 0 (by decide) (dNw_fkind hN) (fun _ h9 => h9) rfl dX1_outcomeOf_52 ?_
      refine lv_iconst (v := 3) hx hb dX1_outcomeOf_55 (by decide) ?_
      refine lv_icmp_ne (tgt := 69) hx hb dX1_outcomeOf_56 (by decide) (fun c_35 => ?_) (fun c_35 => ?_)
      · refine lv_lload hx hb dX1_outcomeOf_69 (lv_at hl 0 rfl) ?_
        subst ev_27
        subst ev_29
        subst ez_30
        subst ev_33
        subst ez_34
        exact W.lret (v := _) hx hb hr (fun t ht hW => ⟨_, rfl, (by unfold mOut; rw [if_pos c_28, if_neg c_35, if_pos h8_31]), ht⟩) (fun _ h => absurd h List.not_mem_nil) dX1_outcomeOf_71
      · refine lv_lload hx hb dX1_outcomeOf_59 (lv_at hl 0 rfl) ?_
        refine lv_aload_n hx hb dX1_outcomeOf_61 rfl (lv_at hl 3 rfl) ?_
        refine va_getN (D := (dC, dI)) (ci := 0) (v := .int (cn j)) (C := RX0) (T := TX0) (N := 3) hx hb hts iwX1_outcomeOf_0 hown hK hP (6 + j) (dW_at hj) rfl 2 (by decide) (dNw_fanswered hN) (fun _ h9 => h9) rfl dX1_outcomeOf_62 ?_
        refine lv_i2l (v := (cn j).toInt64) hx hb dX1_outcomeOf_65 rfl ?_
        refine lv_ladd hx hb dX1_outcomeOf_66 ?_
        refine lv_topl (fun z_36 ez_36 => ?_)
        refine lv_lstore (lv' := [(5, .long z_36), (0, .ref h), (1, .int cz), (2, .ref (ad j)), (3, .long a)]) hx hb dX1_outcomeOf_67 hl (by decide) rfl (fun ls hl => ?_)
        refine lv_lload hx hb dX1_outcomeOf_69 (lv_at hl 0 rfl) ?_
        subst ev_27
        subst ev_29
        subst ez_30
        subst ev_33
        subst ez_34
        subst ez_36
        exact W.lret (v := _) hx hb hr (fun t ht hW => ⟨_, rfl, (by unfold mOut; rw [if_pos c_28, if_pos c_35, if_pos h8_31]), ht⟩) (fun _ h => absurd h List.not_mem_nil) dX1_outcomeOf_71
    · refine lv_if_eq (tgt := 51) hx hb dX1_outcomeOf_34 (by decide) (fun _ => ?_) (fun h => absurd h (by decide))
      refine lv_aload_n hx hb dX1_outcomeOf_51 rfl (lv_at hl 3 rfl) ?_
      refine va_getN (D := (dC, dI)) (ci := 0) (v := .int (kd j)) (C := RX0) (T := TX0) (N := 3) hx hb hts iwX1_outcomeOf_0 hown hK hP (6 + j) (dW_at hj) rfl 0 (by decide) (dNw_fkind hN) (fun _ h9 => h9) rfl dX1_outcomeOf_52 ?_
      refine lv_iconst (v := 3) hx hb dX1_outcomeOf_55 (by decide) ?_
      refine lv_icmp_ne (tgt := 69) hx hb dX1_outcomeOf_56 (by decide) (fun c_38 => ?_) (fun c_38 => ?_)
      · refine lv_lload hx hb dX1_outcomeOf_69 (lv_at hl 0 rfl) ?_
        subst ev_27
        subst ev_29
        subst ez_30
        exact W.lret (v := _) hx hb hr (fun t ht hW => ⟨_, rfl, (by unfold mOut; rw [if_pos c_28, if_neg c_38, if_neg h8_31]), ht⟩) (fun _ h => absurd h List.not_mem_nil) dX1_outcomeOf_71
      · refine lv_lload hx hb dX1_outcomeOf_59 (lv_at hl 0 rfl) ?_
        refine lv_aload_n hx hb dX1_outcomeOf_61 rfl (lv_at hl 3 rfl) ?_
        refine va_getN (D := (dC, dI)) (ci := 0) (v := .int (cn j)) (C := RX0) (T := TX0) (N := 3) hx hb hts iwX1_outcomeOf_0 hown hK hP (6 + j) (dW_at hj) rfl 2 (by decide) (dNw_fanswered hN) (fun _ h9 => h9) rfl dX1_outcomeOf_62 ?_
        refine lv_i2l (v := (cn j).toInt64) hx hb dX1_outcomeOf_65 rfl ?_
        refine lv_ladd hx hb dX1_outcomeOf_66 ?_
        refine lv_topl (fun z_39 ez_39 => ?_)
        refine lv_lstore (lv' := [(5, .long z_39), (0, .ref h), (1, .int cz), (2, .ref (ad j)), (3, .long a)]) hx hb dX1_outcomeOf_67 hl (by decide) rfl (fun ls hl => ?_)
        refine lv_lload hx hb dX1_outcomeOf_69 (lv_at hl 0 rfl) ?_
        subst ev_27
        subst ev_29
        subst ez_30
        subst ez_39
        exact W.lret (v := _) hx hb hr (fun t ht hW => ⟨_, rfl, (by unfold mOut; rw [if_pos c_28, if_pos c_38, if_neg h8_31]), ht⟩) (fun _ h => absurd h List.not_mem_nil) dX1_outcomeOf_71
  · refine lv_bipush (v := (-10)) hx hb dX1_outcomeOf_9 (by decide) ?_
    refine lv_aload_n hx hb dX1_outcomeOf_11 rfl (lv_at hl 0 rfl) ?_
    refine va_get (D := (dC, dI)) (ci := 1) (v := .ref qF) (C := RX1) (T := TX1) (N := 12) hx hb hts iwX1_outcomeOf_1 hown hK hP 0 rfl rfl 5 (by decide) (hts (.fieldLink RX1 30 "MainframeDesk" "failures" "[I") (by decide +kernel)) (fun _ h9 => h9) rfl dX1_outcomeOf_12 ?_
    refine lv_iload_n hx hb dX1_outcomeOf_15 rfl (lv_at hl 1 rfl) ?_
    refine va_iald hx hb hK hP 5 4 rfl rfl (kx_in hc (by decide)) dX1_outcomeOf_16 ?_
    refine lv_topi (fun v_40 ev_40 => ?_)
    refine lv_isub hx hb dX1_outcomeOf_17 ?_
    refine lv_topi (fun z_41 ez_41 => ?_)
    refine lv_i2l (v := z_41.toInt64) hx hb dX1_outcomeOf_18 rfl ?_
    subst ev_27
    subst ev_40
    subst ez_41
    exact W.lret (v := _) hx hb hr (fun t ht hW => ⟨_, rfl, (by unfold mOut; rw [if_neg c_28]), ht⟩) (fun _ h => absurd h List.not_mem_nil) dX1_outcomeOf_19
end
section
theorem iwX1_again_1 : ∀ w ∈ wsX10, w ∈ wsX1_again := fun _ h => List.mem_cons_of_mem _ (List.mem_append_left _ (List.mem_append_right _ h))
theorem iwX1_again_0 : ∀ w ∈ wsX00, w ∈ wsX1_again := fun _ h => List.mem_cons_of_mem _ (List.mem_append_right _ h)
set_option maxHeartbeats 1000000 in
set_option maxRecDepth 100000 in
/-- again(c, x, a) -/
theorem c_again (l : Launch) (dC : Nat → ClassId) (dI : Nat → Nat → Nat) (h qT qC qS qA qF : Nat) (cT cC cS cA cF : ClassId) (ad : Nat → Nat) (n : Nat) (kd ok cn rc : Nat → Int32) (rs an : Nat → Int64) (fl : Nat → Int32) (t0 t1 t2 t3 t4 t5 : Int32) (hn : n ≤ 200) (cz x : Int32) (a : Int64) : Met l yX1_again wsX1_again ({ frames := 2, cells := 0, slots := 0, locals := 46 }) (va_Pc [.ref h, .int cz, .int x, .long a] (dP dC dI [(cT, .object "MainframeDesk$Thing"), (cC, .int), (cS, .long), (cA, .long), (cF, .int)] (dW h qT qC qS qA qF cT cC cS cA cF ad n kd ok cn rc rs an fl t0 t1 t2 t3 t4 t5))) (vp_Sl (fun r => r = mAgain (n, kd, ok, cn, rc, rs, an, fl, t0, t1, t2, t3, t4, t5) cz x a)) 0 0 (fun _ => False) := by
  refine Met.ofW (cc := cX1_again) (maxL := 7) (ret := (some .long)) (by decide) rfl ?_
  intro p e s m args below meth c s₁ B hml hv
  obtain ⟨rfl, hP, hK, hN⟩ := hv
  have hx := B.exec
  have hb := B.bytes
  have hr := B.returns
  have hts := atoms_spec (ws := wsX1_again) B.pre
  have hown : s.vm.findClass RX1 = some m.cls := findClass_of_methodNamed B.named
  have hlocks := B.notSynchronized
  have hl := lv_entry ([.ref h, .int cz, .int x, .long a]) (n := 7) (Nat.le_of_ble_eq_true rfl)
  rw [lg_entry_eq]
  generalize (lg_sl ([.ref h, .int cz, .int x, .long a]) ++ List.replicate (7 - (lg_sl ([.ref h, .int cz, .int x, .long a])).length) Slot.unset).toArray = ls at hl ⊢
  have hl : lv_has ls 7 [(0, .ref h), (1, .int cz), (2, .int x), (3, .long a)] := hl
  refine lv_aload_n hx hb dX1_again_0 rfl (lv_at hl 0 rfl) ?_
  refine lv_iload_n hx hb dX1_again_1 rfl (lv_at hl 2 rfl) ?_
  refine va_csq (W.runV (As := [.int x]) (rest := []) ⟨hx, hb, hml, hown, hts⟩ (c_find l dC dI h qT qC qS qA qF cT cC cS cA cF ad n kd ok cn rc rs an fl t0 t1 t2 t3 t4 t5 hn x) (cwV 1 hts gX1_again_X1_find rfl rfl rfl (by decide +kernel) ⟨Nat.le_of_ble_eq_true rfl, Nat.le_of_ble_eq_true rfl⟩) ⟨dP_bl, va_recv hK hP (ci := 1) (q0 := 0) rfl rfl, fun U hU hW => ⟨rfl, dP_at hU hW hP hK hN⟩⟩ rfl rfl hl.1 rfl (lv_room (Nat.le_of_ble_eq_true rfl)) dX1_again_2 ⟨Nat.le_of_ble_eq_true rfl, Nat.le_of_ble_eq_true rfl⟩) (fun r9 hr9 => ?_)
  rcases hr9 with ⟨hf_42, rfl⟩ | ⟨hf_42, rfl⟩
  · refine W.eq (g2 := F0 m 5 ls [.ref (ad (mIx x))]) rfl ?_
    obtain ⟨hj_43, hj_431, hj_432⟩ := kx_ix hn hf_42
    refine lv_astore (lv' := [(5, .ref (ad (mIx x))), (0, .ref h), (1, .int cz), (2, .int x), (3, .long a)]) hx hb dX1_again_5 hl (by decide) rfl (fun ls hl => ?_)
    refine lv_aload_n hx hb dX1_again_7 rfl (lv_at hl 1 rfl) ?_
    refine lv_iload_n hx hb dX1_again_8 rfl (lv_at hl 2 rfl) ?_
    refine lv_aload hx hb dX1_again_9 (lv_at hl 0 rfl) ?_
    refine lv_lload_n hx hb dX1_again_11 rfl (lv_at hl 4 rfl) ?_
    refine vp_callSi (W.runV (As := [.int cz, .ref (ad (mIx x)), .long a]) (rest := []) ⟨hx, hb, hml, hown, hts⟩ (c_refusalOf l dC dI h qT qC qS qA qF cT cC cS cA cF ad n kd ok cn rc rs an fl t0 t1 t2 t3 t4 t5 (mIx x) hj_43 cz a) (cwV 3 hts gX1_again_X1_refusalOf rfl rfl rfl (by decide +kernel) ⟨Nat.le_of_ble_eq_true rfl, Nat.le_of_ble_eq_true rfl⟩) ⟨dP_bl, va_recv hK hP (ci := 1) (q0 := 0) rfl rfl, fun U hU hW => ⟨rfl, dP_at hU hW hP hK hN⟩⟩ rfl rfl hl.1 rfl (lv_room (Nat.le_of_ble_eq_true rfl)) dX1_again_12 ⟨Nat.le_of_ble_eq_true rfl, Nat.le_of_ble_eq_true rfl⟩) (fun r_44 er_44 => ?_)
    refine lv_istore (lv' := [(6, .int r_44), (5, .ref (ad (mIx x))), (0, .ref h), (1, .int cz), (2, .int x), (3, .long a)]) hx hb dX1_again_15 hl (by decide) rfl (fun ls hl => ?_)
    refine lv_iload hx hb dX1_again_17 (lv_at hl 0 rfl) ?_
    refine lv_if_eq (tgt := 28) hx hb dX1_again_19 (by decide) (fun c_45 => ?_) (fun c_45 => ?_)
    · have hc : 0 ≤ cz ∧ cz < 32 := kx_refc (er_44.symm.trans c_45)
      refine lv_aload_n hx hb dX1_again_28 rfl (lv_at hl 2 rfl) ?_
      refine lv_iload_n hx hb dX1_again_29 rfl (lv_at hl 3 rfl) ?_
      refine lv_aload hx hb dX1_again_30 (lv_at hl 1 rfl) ?_
      refine lv_lload_n hx hb dX1_again_32 rfl (lv_at hl 5 rfl) ?_
      refine vp_callSl (W.runV (As := [.int cz, .ref (ad (mIx x)), .long a]) (rest := []) ⟨hx, hb, hml, hown, hts⟩ (c_outcomeOf l dC dI h qT qC qS qA qF cT cC cS cA cF ad n kd ok cn rc rs an fl t0 t1 t2 t3 t4 t5 (mIx x) hj_43 cz a hc) (cwV 3 hts gX1_again_X1_outcomeOf rfl rfl rfl (by decide +kernel) ⟨Nat.le_of_ble_eq_true rfl, Nat.le_of_ble_eq_true rfl⟩) ⟨dP_bl, va_recv hK hP (ci := 1) (q0 := 0) rfl rfl, fun U hU hW => ⟨rfl, dP_at hU hW hP hK hN⟩⟩ rfl rfl hl.1 rfl (lv_room (Nat.le_of_ble_eq_true rfl)) dX1_again_33 ⟨Nat.le_of_ble_eq_true rfl, Nat.le_of_ble_eq_true rfl⟩) (fun o_46 eo_46 => ?_)
      subst er_44
      subst eo_46
      exact W.lret (v := _) hx hb hr (fun t ht hW => ⟨_, rfl, (by unfold mAgain; dsimp only; rw [if_pos hf_42, if_pos c_45]), ht⟩) (fun _ h => absurd h List.not_mem_nil) dX1_again_36
    · refine lv_iload hx hb dX1_again_22 (lv_at hl 0 rfl) ?_
      refine lv_i2l (v := r_44.toInt64) hx hb dX1_again_24 rfl ?_
      refine lv_goto (tgt := 36) hx hb dX1_again_25 (by decide) ?_
      subst er_44
      exact W.lret (v := _) hx hb hr (fun t ht hW => ⟨_, rfl, (by unfold mAgain; dsimp only; rw [if_pos hf_42, if_neg c_45]), ht⟩) (fun _ h => absurd h List.not_mem_nil) dX1_again_36
  · refine W.eq (g2 := F0 m 5 ls [.null]) rfl ?_
    refine lv_astoreN (lv' := [(5, .null), (0, .ref h), (1, .int cz), (2, .int x), (3, .long a)]) hx hb dX1_again_5 hl (by decide) rfl (fun ls hl => ?_)
    refine lv_aload_n hx hb dX1_again_7 rfl (lv_at hl 1 rfl) ?_
    refine lv_iload_n hx hb dX1_again_8 rfl (lv_at hl 2 rfl) ?_
    refine lv_aloadN hx hb dX1_again_9 (lv_at hl 0 rfl) ?_
    refine lv_lload_n hx hb dX1_again_11 rfl (lv_at hl 4 rfl) ?_
    refine vp_callSi (W.runV (As := [.int cz, .null, .long a]) (rest := []) ⟨hx, hb, hml, hown, hts⟩ (c_refusalN l dC dI h qT qC qS qA qF cT cC cS cA cF ad n kd ok cn rc rs an fl t0 t1 t2 t3 t4 t5 cz a) (cwV 3 hts gX1_again_X1_refusalOf rfl rfl rfl (by decide +kernel) ⟨Nat.le_of_ble_eq_true rfl, Nat.le_of_ble_eq_true rfl⟩) ⟨dP_bl, va_recv hK hP (ci := 1) (q0 := 0) rfl rfl, fun U hU hW => ⟨rfl, dP_at hU hW hP hK hN⟩⟩ rfl rfl hl.1 rfl (lv_room (Nat.le_of_ble_eq_true rfl)) dX1_again_12 ⟨Nat.le_of_ble_eq_true rfl, Nat.le_of_ble_eq_true rfl⟩) (fun r9 hr9 => ?_)
    subst hr9
    refine lv_istore (lv' := [(6, .int (-2)), (5, .null), (0, .ref h), (1, .int cz), (2, .int x), (3, .long a)]) hx hb dX1_again_15 hl (by decide) rfl (fun ls hl => ?_)
    refine lv_iload hx hb dX1_again_17 (lv_at hl 0 rfl) ?_
    refine lv_if_eq (tgt := 28) hx hb dX1_again_19 (by decide) (fun h => absurd h (by decide)) (fun _ => ?_)
    refine lv_iload hx hb dX1_again_22 (lv_at hl 0 rfl) ?_
    refine lv_i2l (v := ((-2) : Int32).toInt64) hx hb dX1_again_24 rfl ?_
    refine lv_goto (tgt := 36) hx hb dX1_again_25 (by decide) ?_
    exact W.lret (v := _) hx hb hr (fun t ht hW => ⟨_, rfl, (by unfold mAgain; dsimp only; rw [if_neg hf_42]), ht⟩) (fun _ h => absurd h List.not_mem_nil) dX1_again_36
end
section
theorem iwX1_collect_1 : ∀ w ∈ wsX10, w ∈ wsX1_collect := fun _ h => List.mem_cons_of_mem _ (List.mem_append_right _ h)
set_option maxHeartbeats 1000000 in
set_option maxRecDepth 100000 in
/-- collect(x, v) -/
theorem c_collect (l : Launch) (dC : Nat → ClassId) (dI : Nat → Nat → Nat) (h qT qC qS qA qF : Nat) (cT cC cS cA cF : ClassId) (ad : Nat → Nat) (n : Nat) (kd ok cn rc : Nat → Int32) (rs an : Nat → Int64) (fl : Nat → Int32) (t0 t1 t2 t3 t4 t5 : Int32) (sz : Nat) (x : Int32) (v : Int64) : Met l yX1_collect wsX1_collect ({ frames := 1, cells := 0, slots := 0, locals := 21 }) (va_Pc [.ref h, .int x, .long v] (dQ dC dI [(cT, .object "MainframeDesk$Thing"), (cC, .int), (cS, .long), (cA, .long), (cF, .int)] (dW h qT qC qS qA qF cT cC cS cA cF ad n kd ok cn rc rs an fl t0 t1 t2 t3 t4 t5) sz)) (va_Qi (fun (r : Int32) (u : dM) => (r, u) = mCollect (n, kd, ok, cn, rc, rs, an, fl, t0, t1, t2, t3, t4, t5) x v) (fun u t => dAt dC dI (dWm h qT qC qS qA qF cT cC cS cA cF ad u) (va_A (dW h qT qC qS qA qF cT cC cS cA cF ad n kd ok cn rc rs an fl t0 t1 t2 t3 t4 t5) sz) t) (va_A (dW h qT qC qS qA qF cT cC cS cA cF ad n kd ok cn rc rs an fl t0 t1 t2 t3 t4 t5) sz)) 0 0 (va_A (dW h qT qC qS qA qF cT cC cS cA cF ad n kd ok cn rc rs an fl t0 t1 t2 t3 t4 t5) sz) := by
  refine Met.ofW (cc := cX1_collect) (maxL := 4) (ret := (some .int)) (by decide) rfl ?_
  intro p e s m args below meth c s₁ B hml hv
  obtain ⟨rfl, hsz, hP, hK, hD0, hN⟩ := hv
  have hx := B.exec
  have hb := B.bytes
  have hr := B.returns
  have hts := atoms_spec (ws := wsX1_collect) B.pre
  have hown : s.vm.findClass RX1 = some m.cls := findClass_of_methodNamed B.named
  have hlocks := B.notSynchronized
  subst hsz
  have hD := hD0.self (sz := s.heap.size)
  generalize hAe : va_A (dW h qT qC qS qA qF cT cC cS cA cF ad n kd ok cn rc rs an fl t0 t1 t2 t3 t4 t5) s.heap.size = A at hD ⊢
  have hA : ∀ q : Nat, s.heap.size ≤ q → A q := fun q h => by rw [← hAe]; exact Or.inr h
  have hS : va_S A s.heap s.heap [] := va_S.rf
  have hl := lv_entry ([.ref h, .int x, .long v]) (n := 4) (Nat.le_of_ble_eq_true rfl)
  rw [lg_entry_eq]
  generalize (lg_sl ([.ref h, .int x, .long v]) ++ List.replicate (4 - (lg_sl ([.ref h, .int x, .long v])).length) Slot.unset).toArray = ls at hl ⊢
  have hl : lv_has ls 4 [(0, .ref h), (1, .int x), (2, .long v)] := hl
  refine lv_iload_n hx hb dX1_collect_0 rfl (lv_at hl 1 rfl) ?_
  refine lv_iconst (v := 4) hx hb dX1_collect_1 (by decide) ?_
  refine vp_callSi (W.runS (As := [.int x, .int 4]) (rest := []) ⟨hx, hb, hml, hown, hts⟩ (c_isWithin l x 4) (va_cwS 2 hts gX1_collect_X1_isWithin rfl rfl rfl (by decide +kernel) ⟨Nat.le_of_ble_eq_true rfl, Nat.le_of_ble_eq_true rfl⟩) ⟨fun _ _ _ _ q => q, fun _ _ _ => ⟨rfl, trivial⟩⟩ rfl rfl hl.1 rfl (lv_room (Nat.le_of_ble_eq_true rfl)) dX1_collect_2 ⟨Nat.le_of_ble_eq_true rfl, Nat.le_of_ble_eq_true rfl⟩) (fun r9 hr9 => ?_)
  rcases hr9 with ⟨hq_48, rfl⟩ | ⟨hq_48, rfl⟩
  · refine lv_if_eq (tgt := 19) hx hb dX1_collect_5 (by decide) (fun h => absurd h (by decide)) (fun _ => ?_)
    refine lv_aload_n hx hb dX1_collect_8 rfl (lv_at hl 0 rfl) ?_
    refine va_get (D := (dC, dI)) (ci := 1) (v := .ref qC) (C := RX1) (T := TX1) (N := 12) hx hb hts iwX1_collect_1 hown hK hP 0 rfl rfl 2 (by decide) (hts (.fieldLink RX1 19 "MainframeDesk" "rowCounts" "[I") (by decide +kernel)) (fun _ h9 => h9) rfl dX1_collect_9 ?_
    refine lv_iload_n hx hb dX1_collect_12 rfl (lv_at hl 1 rfl) ?_
    refine va_iald hx hb hK hP 2 1 rfl rfl (kx_in hq_48 (by decide)) dX1_collect_13 ?_
    refine lv_topi (fun v_50 ev_50 => ?_)
    refine lv_bipush (v := 50) hx hb dX1_collect_14 (by decide) ?_
    refine lv_icmp_lt (tgt := 21) hx hb dX1_collect_16 (by decide) (fun c_51 => ?_) (fun c_51 => ?_)
    · refine lv_aload_n hx hb dX1_collect_21 rfl (lv_at hl 0 rfl) ?_
      refine va_get (D := (dC, dI)) (ci := 1) (v := .ref qC) (C := RX1) (T := TX1) (N := 12) hx hb hts iwX1_collect_1 hown hK hP 0 rfl rfl 2 (by decide) (hts (.fieldLink RX1 19 "MainframeDesk" "rowCounts" "[I") (by decide +kernel)) (fun _ h9 => h9) rfl dX1_collect_22 ?_
      refine lv_iload_n hx hb dX1_collect_25 rfl (lv_at hl 1 rfl) ?_
      refine lv_dup2_11 hx hb dX1_collect_26 rfl rfl ?_
      refine va_iald hx hb hK hP 2 1 rfl rfl (kx_in hq_48 (by decide)) dX1_collect_27 ?_
      refine lv_topi (fun v_52 ev_52 => ?_)
      refine lv_iconst (v := 1) hx hb dX1_collect_28 (by decide) ?_
      refine lv_iadd hx hb dX1_collect_29 ?_
      refine lv_topi (fun z_53 ez_53 => ?_)
      refine va_iast hx hb hK hP hD hS 2 1 rfl rfl (kx_in hq_48 (by decide)) dX1_collect_30 (fun H locs hP hD hS => ?_)
      have hP : va_P (dC, dI) vwCl (dW h qT qC qS qA qF cT cC cS cA cF ad n kd ok cn (upd rc x.toNatClampNeg z_53) rs an fl t0 t1 t2 t3 t4 t5) H := hP
      have hD : va_D A (dW h qT qC qS qA qF cT cC cS cA cF ad n kd ok cn (upd rc x.toNatClampNeg z_53) rs an fl t0 t1 t2 t3 t4 t5) := hD
      refine lv_aload_n hx hb dX1_collect_31 rfl (lv_at hl 0 rfl) ?_
      refine va_get (D := (dC, dI)) (ci := 1) (v := .ref qS) (C := RX1) (T := TX1) (N := 12) hx hb hts iwX1_collect_1 hown hK hP 0 rfl rfl 3 (by decide) (hts (.fieldLink RX1 23 "MainframeDesk" "rowSums" "[J") (by decide +kernel)) (fun _ h9 => h9) rfl dX1_collect_32 ?_
      refine lv_iload_n hx hb dX1_collect_35 rfl (lv_at hl 1 rfl) ?_
      refine lv_dup2_11 hx hb dX1_collect_36 rfl rfl ?_
      refine va_lald hx hb hK hP 3 2 rfl rfl (kx_in hq_48 (by decide)) dX1_collect_37 ?_
      refine lv_topl (fun v_54 ev_54 => ?_)
      refine lv_lload_n hx hb dX1_collect_38 rfl (lv_at hl 2 rfl) ?_
      refine lv_ladd hx hb dX1_collect_39 ?_
      refine lv_topl (fun z_55 ez_55 => ?_)
      refine va_last hx hb hK hP hD hS 3 2 rfl rfl (kx_in hq_48 (by decide)) dX1_collect_40 (fun H locs hP hD hS => ?_)
      have hP : va_P (dC, dI) vwCl (dW h qT qC qS qA qF cT cC cS cA cF ad n kd ok cn (upd rc x.toNatClampNeg z_53) (vp_updL rs x.toNatClampNeg z_55) an fl t0 t1 t2 t3 t4 t5) H := hP
      have hD : va_D A (dW h qT qC qS qA qF cT cC cS cA cF ad n kd ok cn (upd rc x.toNatClampNeg z_53) (vp_updL rs x.toNatClampNeg z_55) an fl t0 t1 t2 t3 t4 t5) := hD
      refine lv_aload_n hx hb dX1_collect_41 rfl (lv_at hl 0 rfl) ?_
      refine va_get (D := (dC, dI)) (ci := 1) (v := .ref qC) (C := RX1) (T := TX1) (N := 12) hx hb hts iwX1_collect_1 hown hK hP 0 rfl rfl 2 (by decide) (hts (.fieldLink RX1 19 "MainframeDesk" "rowCounts" "[I") (by decide +kernel)) (fun _ h9 => h9) rfl dX1_collect_42 ?_
      refine lv_iload_n hx hb dX1_collect_45 rfl (lv_at hl 1 rfl) ?_
      refine va_iald hx hb hK hP 2 1 rfl rfl (kx_in hq_48 (by decide)) dX1_collect_46 ?_
      refine lv_topi (fun v_56 ev_56 => ?_)
      rw [pk_us] at ev_56
      exact W.iret (v := v_56) hx hb hr (fun t ht hW => ⟨⟨_, (n, kd, ok, cn, upd rc x.toNatClampNeg z_53, vp_updL rs x.toNatClampNeg z_55, an, fl, t0, t1, t2, t3, t4, t5), rfl, (by subst ev_50; subst ev_52; subst ez_53; subst ev_54; subst ez_55; subst ev_56; exact (if_pos ⟨hq_48, c_51⟩).symm), by rw [ht]; exact hP, hD⟩, hS.F ht⟩) hS.2.2 dX1_collect_47
    · refine lv_iconst (v := (-1)) hx hb dX1_collect_19 (by decide) ?_
      exact W.iret (v := (-1)) hx hb hr (fun t ht hW => ⟨⟨_, (n, kd, ok, cn, rc, rs, an, fl, t0, t1, t2, t3, t4, t5), rfl, (by subst ev_50; exact (if_neg (fun q => c_51 q.2)).symm), by rw [ht]; exact hP, hD⟩, hS.F ht⟩) hS.2.2 dX1_collect_20
  · refine lv_if_eq (tgt := 19) hx hb dX1_collect_5 (by decide) (fun _ => ?_) (fun h => absurd h (by decide))
    refine lv_iconst (v := (-1)) hx hb dX1_collect_19 (by decide) ?_
    exact W.iret (v := (-1)) hx hb hr (fun t ht hW => ⟨⟨_, (n, kd, ok, cn, rc, rs, an, fl, t0, t1, t2, t3, t4, t5), rfl, (by exact (if_neg (fun q => hq_48 q.1)).symm), by rw [ht]; exact hP, hD⟩, hS.F ht⟩) hS.2.2 dX1_collect_20
theorem iwX1_answer_1 : ∀ w ∈ wsX10, w ∈ wsX1_answer := fun _ h => List.mem_cons_of_mem _ (List.mem_append_right _ h)
set_option maxHeartbeats 1000000 in
set_option maxRecDepth 100000 in
/-- answer(x, v) -/
theorem c_answer (l : Launch) (dC : Nat → ClassId) (dI : Nat → Nat → Nat) (h qT qC qS qA qF : Nat) (cT cC cS cA cF : ClassId) (ad : Nat → Nat) (n : Nat) (kd ok cn rc : Nat → Int32) (rs an : Nat → Int64) (fl : Nat → Int32) (t0 t1 t2 t3 t4 t5 : Int32) (sz : Nat) (x : Int32) (v : Int64) : Met l yX1_answer wsX1_answer ({ frames := 1, cells := 0, slots := 0, locals := 21 }) (va_Pc [.ref h, .int x, .long v] (dQ dC dI [(cT, .object "MainframeDesk$Thing"), (cC, .int), (cS, .long), (cA, .long), (cF, .int)] (dW h qT qC qS qA qF cT cC cS cA cF ad n kd ok cn rc rs an fl t0 t1 t2 t3 t4 t5) sz)) (va_Qi (fun (r : Int32) (u : dM) => (r, u) = mAnswer (n, kd, ok, cn, rc, rs, an, fl, t0, t1, t2, t3, t4, t5) x v) (fun u t => dAt dC dI (dWm h qT qC qS qA qF cT cC cS cA cF ad u) (va_A (dW h qT qC qS qA qF cT cC cS cA cF ad n kd ok cn rc rs an fl t0 t1 t2 t3 t4 t5) sz) t) (va_A (dW h qT qC qS qA qF cT cC cS cA cF ad n kd ok cn rc rs an fl t0 t1 t2 t3 t4 t5) sz)) 0 0 (va_A (dW h qT qC qS qA qF cT cC cS cA cF ad n kd ok cn rc rs an fl t0 t1 t2 t3 t4 t5) sz) := by
  refine Met.ofW (cc := cX1_answer) (maxL := 4) (ret := (some .int)) (by decide) rfl ?_
  intro p e s m args below meth c s₁ B hml hv
  obtain ⟨rfl, hsz, hP, hK, hD0, hN⟩ := hv
  have hx := B.exec
  have hb := B.bytes
  have hr := B.returns
  have hts := atoms_spec (ws := wsX1_answer) B.pre
  have hown : s.vm.findClass RX1 = some m.cls := findClass_of_methodNamed B.named
  have hlocks := B.notSynchronized
  subst hsz
  have hD := hD0.self (sz := s.heap.size)
  generalize hAe : va_A (dW h qT qC qS qA qF cT cC cS cA cF ad n kd ok cn rc rs an fl t0 t1 t2 t3 t4 t5) s.heap.size = A at hD ⊢
  have hA : ∀ q : Nat, s.heap.size ≤ q → A q := fun q h => by rw [← hAe]; exact Or.inr h
  have hS : va_S A s.heap s.heap [] := va_S.rf
  have hl := lv_entry ([.ref h, .int x, .long v]) (n := 4) (Nat.le_of_ble_eq_true rfl)
  rw [lg_entry_eq]
  generalize (lg_sl ([.ref h, .int x, .long v]) ++ List.replicate (4 - (lg_sl ([.ref h, .int x, .long v])).length) Slot.unset).toArray = ls at hl ⊢
  have hl : lv_has ls 4 [(0, .ref h), (1, .int x), (2, .long v)] := hl
  refine lv_iload_n hx hb dX1_answer_0 rfl (lv_at hl 1 rfl) ?_
  refine lv_bipush (v := 32) hx hb dX1_answer_1 (by decide) ?_
  refine vp_callSi (W.runS (As := [.int x, .int 32]) (rest := []) ⟨hx, hb, hml, hown, hts⟩ (c_isWithin l x 32) (va_cwS 2 hts gX1_answer_X1_isWithin rfl rfl rfl (by decide +kernel) ⟨Nat.le_of_ble_eq_true rfl, Nat.le_of_ble_eq_true rfl⟩) ⟨fun _ _ _ _ q => q, fun _ _ _ => ⟨rfl, trivial⟩⟩ rfl rfl hl.1 rfl (lv_room (Nat.le_of_ble_eq_true rfl)) dX1_answer_3 ⟨Nat.le_of_ble_eq_true rfl, Nat.le_of_ble_eq_true rfl⟩) (fun r9 hr9 => ?_)
  rcases hr9 with ⟨hq_58, rfl⟩ | ⟨hq_58, rfl⟩
  · refine lv_if_ne (tgt := 11) hx hb dX1_answer_6 (by decide) (fun _ => ?_) (fun h => absurd h (by decide))
    refine lv_aload_n hx hb dX1_answer_11 rfl (lv_at hl 0 rfl) ?_
    refine va_get (D := (dC, dI)) (ci := 1) (v := .ref qA) (C := RX1) (T := TX1) (N := 12) hx hb hts iwX1_answer_1 hown hK hP 0 rfl rfl 4 (by decide) (hts (.fieldLink RX1 27 "MainframeDesk" "answers" "[J") (by decide +kernel)) (fun _ h9 => h9) rfl dX1_answer_12 ?_
    refine lv_iload_n hx hb dX1_answer_15 rfl (lv_at hl 1 rfl) ?_
    refine lv_lload_n hx hb dX1_answer_16 rfl (lv_at hl 2 rfl) ?_
    refine va_last hx hb hK hP hD hS 4 3 rfl rfl (kx_in hq_58 (by decide)) dX1_answer_17 (fun H locs hP hD hS => ?_)
    have hP : va_P (dC, dI) vwCl (dW h qT qC qS qA qF cT cC cS cA cF ad n kd ok cn rc rs (vp_updL an x.toNatClampNeg v) fl t0 t1 t2 t3 t4 t5) H := hP
    have hD : va_D A (dW h qT qC qS qA qF cT cC cS cA cF ad n kd ok cn rc rs (vp_updL an x.toNatClampNeg v) fl t0 t1 t2 t3 t4 t5) := hD
    refine lv_iconst (v := 1) hx hb dX1_answer_18 (by decide) ?_
    exact W.iret (v := 1) hx hb hr (fun t ht hW => ⟨⟨_, (n, kd, ok, cn, rc, rs, vp_updL an x.toNatClampNeg v, fl, t0, t1, t2, t3, t4, t5), rfl, (by exact (if_pos hq_58).symm), by rw [ht]; exact hP, hD⟩, hS.F ht⟩) hS.2.2 dX1_answer_19
  · refine lv_if_ne (tgt := 11) hx hb dX1_answer_6 (by decide) (fun h => absurd h (by decide)) (fun _ => ?_)
    refine lv_iconst (v := (-1)) hx hb dX1_answer_9 (by decide) ?_
    exact W.iret (v := (-1)) hx hb hr (fun t ht hW => ⟨⟨_, (n, kd, ok, cn, rc, rs, an, fl, t0, t1, t2, t3, t4, t5), rfl, (by exact (if_neg hq_58).symm), by rw [ht]; exact hP, hD⟩, hS.F ht⟩) hS.2.2 dX1_answer_10
theorem iwX1_fails_1 : ∀ w ∈ wsX10, w ∈ wsX1_fails := fun _ h => List.mem_cons_of_mem _ (List.mem_append_right _ h)
set_option maxHeartbeats 1000000 in
set_option maxRecDepth 100000 in
/-- fails(x, k) -/
theorem c_fails (l : Launch) (dC : Nat → ClassId) (dI : Nat → Nat → Nat) (h qT qC qS qA qF : Nat) (cT cC cS cA cF : ClassId) (ad : Nat → Nat) (n : Nat) (kd ok cn rc : Nat → Int32) (rs an : Nat → Int64) (fl : Nat → Int32) (t0 t1 t2 t3 t4 t5 : Int32) (sz : Nat) (x k : Int32) : Met l yX1_fails wsX1_fails ({ frames := 1, cells := 0, slots := 0, locals := 21 }) (va_Pc [.ref h, .int x, .int k] (dQ dC dI [(cT, .object "MainframeDesk$Thing"), (cC, .int), (cS, .long), (cA, .long), (cF, .int)] (dW h qT qC qS qA qF cT cC cS cA cF ad n kd ok cn rc rs an fl t0 t1 t2 t3 t4 t5) sz)) (va_Qi (fun (r : Int32) (u : dM) => (r, u) = mFails (n, kd, ok, cn, rc, rs, an, fl, t0, t1, t2, t3, t4, t5) x k) (fun u t => dAt dC dI (dWm h qT qC qS qA qF cT cC cS cA cF ad u) (va_A (dW h qT qC qS qA qF cT cC cS cA cF ad n kd ok cn rc rs an fl t0 t1 t2 t3 t4 t5) sz) t) (va_A (dW h qT qC qS qA qF cT cC cS cA cF ad n kd ok cn rc rs an fl t0 t1 t2 t3 t4 t5) sz)) 0 0 (va_A (dW h qT qC qS qA qF cT cC cS cA cF ad n kd ok cn rc rs an fl t0 t1 t2 t3 t4 t5) sz) := by
  refine Met.ofW (cc := cX1_fails) (maxL := 4) (ret := (some .int)) (by decide) rfl ?_
  intro p e s m args below meth c s₁ B hml hv
  obtain ⟨rfl, hsz, hP, hK, hD0, hN⟩ := hv
  have hx := B.exec
  have hb := B.bytes
  have hr := B.returns
  have hts := atoms_spec (ws := wsX1_fails) B.pre
  have hown : s.vm.findClass RX1 = some m.cls := findClass_of_methodNamed B.named
  have hlocks := B.notSynchronized
  subst hsz
  have hD := hD0.self (sz := s.heap.size)
  generalize hAe : va_A (dW h qT qC qS qA qF cT cC cS cA cF ad n kd ok cn rc rs an fl t0 t1 t2 t3 t4 t5) s.heap.size = A at hD ⊢
  have hA : ∀ q : Nat, s.heap.size ≤ q → A q := fun q h => by rw [← hAe]; exact Or.inr h
  have hS : va_S A s.heap s.heap [] := va_S.rf
  have hl := lv_entry ([.ref h, .int x, .int k]) (n := 4) (Nat.le_of_ble_eq_true rfl)
  rw [lg_entry_eq]
  generalize (lg_sl ([.ref h, .int x, .int k]) ++ List.replicate (4 - (lg_sl ([.ref h, .int x, .int k])).length) Slot.unset).toArray = ls at hl ⊢
  have hl : lv_has ls 4 [(0, .ref h), (1, .int x), (2, .int k)] := hl
  refine lv_iload_n hx hb dX1_fails_0 rfl (lv_at hl 1 rfl) ?_
  refine lv_bipush (v := 32) hx hb dX1_fails_1 (by decide) ?_
  refine vp_callSi (W.runS (As := [.int x, .int 32]) (rest := []) ⟨hx, hb, hml, hown, hts⟩ (c_isWithin l x 32) (va_cwS 2 hts gX1_fails_X1_isWithin rfl rfl rfl (by decide +kernel) ⟨Nat.le_of_ble_eq_true rfl, Nat.le_of_ble_eq_true rfl⟩) ⟨fun _ _ _ _ q => q, fun _ _ _ => ⟨rfl, trivial⟩⟩ rfl rfl hl.1 rfl (lv_room (Nat.le_of_ble_eq_true rfl)) dX1_fails_3 ⟨Nat.le_of_ble_eq_true rfl, Nat.le_of_ble_eq_true rfl⟩) (fun r9 hr9 => ?_)
  rcases hr9 with ⟨hq_61, rfl⟩ | ⟨hq_61, rfl⟩
  · refine lv_if_eq (tgt := 19) hx hb dX1_fails_6 (by decide) (fun h => absurd h (by decide)) (fun _ => ?_)
    refine lv_iload_n hx hb dX1_fails_9 rfl (lv_at hl 2 rfl) ?_
    refine lv_if_lt (tgt := 19) hx hb dX1_fails_10 (by decide) (fun c_63 => ?_) (fun c_63 => ?_)
    · refine lv_iconst (v := (-1)) hx hb dX1_fails_19 (by decide) ?_
      exact W.iret (v := (-1)) hx hb hr (fun t ht hW => ⟨⟨_, (n, kd, ok, cn, rc, rs, an, fl, t0, t1, t2, t3, t4, t5), rfl, (by exact (if_neg (fun q => Int32.not_le.mpr c_63 q.2.1)).symm), by rw [ht]; exact hP, hD⟩, hS.F ht⟩) hS.2.2 dX1_fails_20
    · refine lv_iload_n hx hb dX1_fails_13 rfl (lv_at hl 2 rfl) ?_
      refine lv_bipush (v := 6) hx hb dX1_fails_14 (by decide) ?_
      refine lv_icmp_le (tgt := 21) hx hb dX1_fails_16 (by decide) (fun c_64 => ?_) (fun c_64 => ?_)
      · refine lv_aload_n hx hb dX1_fails_21 rfl (lv_at hl 0 rfl) ?_
        refine va_get (D := (dC, dI)) (ci := 1) (v := .ref qF) (C := RX1) (T := TX1) (N := 12) hx hb hts iwX1_fails_1 hown hK hP 0 rfl rfl 5 (by decide) (hts (.fieldLink RX1 30 "MainframeDesk" "failures" "[I") (by decide +kernel)) (fun _ h9 => h9) rfl dX1_fails_22 ?_
        refine lv_iload_n hx hb dX1_fails_25 rfl (lv_at hl 1 rfl) ?_
        refine va_iald hx hb hK hP 5 4 rfl rfl (kx_in hq_61 (by decide)) dX1_fails_26 ?_
        refine lv_topi (fun v_65 ev_65 => ?_)
        refine lv_istore_n (lv' := [(3, .int v_65), (0, .ref h), (1, .int x), (2, .int k)]) hx hb dX1_fails_27 rfl hl (by decide) rfl (fun ls hl => ?_)
        refine lv_aload_n hx hb dX1_fails_28 rfl (lv_at hl 1 rfl) ?_
        refine va_get (D := (dC, dI)) (ci := 1) (v := .ref qF) (C := RX1) (T := TX1) (N := 12) hx hb hts iwX1_fails_1 hown hK hP 0 rfl rfl 5 (by decide) (hts (.fieldLink RX1 30 "MainframeDesk" "failures" "[I") (by decide +kernel)) (fun _ h9 => h9) rfl dX1_fails_29 ?_
        refine lv_iload_n hx hb dX1_fails_32 rfl (lv_at hl 2 rfl) ?_
        refine lv_iload_n hx hb dX1_fails_33 rfl (lv_at hl 3 rfl) ?_
        refine va_iast hx hb hK hP hD hS 5 4 rfl rfl (kx_in hq_61 (by decide)) dX1_fails_34 (fun H locs hP hD hS => ?_)
        have hP : va_P (dC, dI) vwCl (dW h qT qC qS qA qF cT cC cS cA cF ad n kd ok cn rc rs an (upd fl x.toNatClampNeg k) t0 t1 t2 t3 t4 t5) H := hP
        have hD : va_D A (dW h qT qC qS qA qF cT cC cS cA cF ad n kd ok cn rc rs an (upd fl x.toNatClampNeg k) t0 t1 t2 t3 t4 t5) := hD
        refine lv_iload_n hx hb dX1_fails_35 rfl (lv_at hl 0 rfl) ?_
        exact W.iret (v := v_65) hx hb hr (fun t ht hW => ⟨⟨_, (n, kd, ok, cn, rc, rs, an, upd fl x.toNatClampNeg k, t0, t1, t2, t3, t4, t5), rfl, (by subst ev_65; exact (if_pos ⟨hq_61, Int32.not_lt.mp c_63, c_64⟩).symm), by rw [ht]; exact hP, hD⟩, hS.F ht⟩) hS.2.2 dX1_fails_36
      · refine lv_iconst (v := (-1)) hx hb dX1_fails_19 (by decide) ?_
        exact W.iret (v := (-1)) hx hb hr (fun t ht hW => ⟨⟨_, (n, kd, ok, cn, rc, rs, an, fl, t0, t1, t2, t3, t4, t5), rfl, (by exact (if_neg (fun q => c_64 q.2.2)).symm), by rw [ht]; exact hP, hD⟩, hS.F ht⟩) hS.2.2 dX1_fails_20
  · refine lv_if_eq (tgt := 19) hx hb dX1_fails_6 (by decide) (fun _ => ?_) (fun h => absurd h (by decide))
    refine lv_iconst (v := (-1)) hx hb dX1_fails_19 (by decide) ?_
    exact W.iret (v := (-1)) hx hb hr (fun t ht hW => ⟨⟨_, (n, kd, ok, cn, rc, rs, an, fl, t0, t1, t2, t3, t4, t5), rfl, (by exact (if_neg (fun q => hq_61 q.1)).symm), by rw [ht]; exact hP, hD⟩, hS.F ht⟩) hS.2.2 dX1_fails_20
theorem iwX1_takeRow_1 : ∀ w ∈ wsX10, w ∈ wsX1_takeRow := fun _ h => List.mem_cons_of_mem _ (List.mem_append_right _ h)
set_option maxHeartbeats 1000000 in
set_option maxRecDepth 100000 in
/-- takeRow(c): the row is empty then, if the call has one -/
theorem c_takeRow (l : Launch) (dC : Nat → ClassId) (dI : Nat → Nat → Nat) (h qT qC qS qA qF : Nat) (cT cC cS cA cF : ClassId) (ad : Nat → Nat) (n : Nat) (kd ok cn rc : Nat → Int32) (rs an : Nat → Int64) (fl : Nat → Int32) (t0 t1 t2 t3 t4 t5 : Int32) (sz : Nat) (cz : Int32) (hc : 0 ≤ cz ∧ cz < 32) : Met l yX1_takeRow wsX1_takeRow ({ frames := 1, cells := 0, slots := 0, locals := 20 }) (va_Pc [.ref h, .int cz] (dQ dC dI [(cT, .object "MainframeDesk$Thing"), (cC, .int), (cS, .long), (cA, .long), (cF, .int)] (dW h qT qC qS qA qF cT cC cS cA cF ad n kd ok cn rc rs an fl t0 t1 t2 t3 t4 t5) sz)) (va_Qv (fun (u : dM) => u = (n, kd, ok, cn, mTkC rc cz, mTkS rs cz, an, fl, t0, t1, t2, t3, t4, t5)) (fun u t => dAt dC dI (dWm h qT qC qS qA qF cT cC cS cA cF ad u) (va_A (dW h qT qC qS qA qF cT cC cS cA cF ad n kd ok cn rc rs an fl t0 t1 t2 t3 t4 t5) sz) t) (va_A (dW h qT qC qS qA qF cT cC cS cA cF ad n kd ok cn rc rs an fl t0 t1 t2 t3 t4 t5) sz)) 0 0 (va_A (dW h qT qC qS qA qF cT cC cS cA cF ad n kd ok cn rc rs an fl t0 t1 t2 t3 t4 t5) sz) := by
  refine Met.ofW (cc := cX1_takeRow) (maxL := 2) (ret := none) (by decide) rfl ?_
  intro p e s m args below meth c s₁ B hml hv
  obtain ⟨rfl, hsz, hP, hK, hD0, hN⟩ := hv
  have hx := B.exec
  have hb := B.bytes
  have hr := B.returns
  have hts := atoms_spec (ws := wsX1_takeRow) B.pre
  have hown : s.vm.findClass RX1 = some m.cls := findClass_of_methodNamed B.named
  have hlocks := B.notSynchronized
  subst hsz
  have hD := hD0.self (sz := s.heap.size)
  generalize hAe : va_A (dW h qT qC qS qA qF cT cC cS cA cF ad n kd ok cn rc rs an fl t0 t1 t2 t3 t4 t5) s.heap.size = A at hD ⊢
  have hA : ∀ q : Nat, s.heap.size ≤ q → A q := fun q h => by rw [← hAe]; exact Or.inr h
  have hS : va_S A s.heap s.heap [] := va_S.rf
  have hl := lv_entry ([.ref h, .int cz]) (n := 2) (Nat.le_of_ble_eq_true rfl)
  rw [lg_entry_eq]
  generalize (lg_sl ([.ref h, .int cz]) ++ List.replicate (2 - (lg_sl ([.ref h, .int cz])).length) Slot.unset).toArray = ls at hl ⊢
  have hl : lv_has ls 2 [(0, .ref h), (1, .int cz)] := hl
  refine lv_iload_n hx hb dX1_takeRow_0 rfl (lv_at hl 1 rfl) ?_
  refine vp_callSi (W.runS (As := [.int cz]) (rest := []) ⟨hx, hb, hml, hown, hts⟩ (c_hasRow l cz) (va_cwS 1 hts gX1_takeRow_X1_hasRow rfl rfl rfl (by decide +kernel) ⟨Nat.le_of_ble_eq_true rfl, Nat.le_of_ble_eq_true rfl⟩) ⟨fun _ _ _ _ q => q, fun _ _ _ => ⟨rfl, trivial⟩⟩ rfl rfl hl.1 rfl (lv_room (Nat.le_of_ble_eq_true rfl)) dX1_takeRow_1 ⟨Nat.le_of_ble_eq_true rfl, Nat.le_of_ble_eq_true rfl⟩) (fun r9 hr9 => ?_)
  rcases hr9 with ⟨h8_67, rfl⟩ | ⟨h8_67, rfl⟩
  · refine lv_if_eq (tgt := 27) hx hb dX1_takeRow_4 (by decide) (fun h => absurd h (by decide)) (fun _ => ?_)
    refine lv_aload_n hx hb dX1_takeRow_7 rfl (lv_at hl 0 rfl) ?_
    refine va_get (D := (dC, dI)) (ci := 1) (v := .ref qC) (C := RX1) (T := TX1) (N := 12) hx hb hts iwX1_takeRow_1 hown hK hP 0 rfl rfl 2 (by decide) (hts (.fieldLink RX1 19 "MainframeDesk" "rowCounts" "[I") (by decide +kernel)) (fun _ h9 => h9) rfl dX1_takeRow_8 ?_
    refine lv_iload_n hx hb dX1_takeRow_11 rfl (lv_at hl 1 rfl) ?_
    refine vp_callSi (W.runS (As := [.int cz]) (rest := [.ref qC]) ⟨hx, hb, hml, hown, hts⟩ (c_rowOf l cz) (va_cwS 1 hts gX1_takeRow_X1_rowOf rfl rfl rfl (by decide +kernel) ⟨Nat.le_of_ble_eq_true rfl, Nat.le_of_ble_eq_true rfl⟩) ⟨fun _ _ _ _ q => q, fun _ _ _ => ⟨rfl, trivial⟩⟩ rfl rfl hl.1 rfl (lv_room (Nat.le_of_ble_eq_true rfl)) dX1_takeRow_12 ⟨Nat.le_of_ble_eq_true rfl, Nat.le_of_ble_eq_true rfl⟩) (fun r9 hr9 => ?_)
    subst hr9
    refine lv_iconst (v := 0) hx hb dX1_takeRow_15 (by decide) ?_
    refine va_iast hx hb hK hP hD hS 2 1 rfl rfl (kx_w4 hc) dX1_takeRow_16 (fun H locs hP hD hS => ?_)
    have hP : va_P (dC, dI) vwCl (dW h qT qC qS qA qF cT cC cS cA cF ad n kd ok cn (upd rc (mW4 cz).toNatClampNeg 0) rs an fl t0 t1 t2 t3 t4 t5) H := hP
    have hD : va_D A (dW h qT qC qS qA qF cT cC cS cA cF ad n kd ok cn (upd rc (mW4 cz).toNatClampNeg 0) rs an fl t0 t1 t2 t3 t4 t5) := hD
    refine lv_aload_n hx hb dX1_takeRow_17 rfl (lv_at hl 0 rfl) ?_
    refine va_get (D := (dC, dI)) (ci := 1) (v := .ref qS) (C := RX1) (T := TX1) (N := 12) hx hb hts iwX1_takeRow_1 hown hK hP 0 rfl rfl 3 (by decide) (hts (.fieldLink RX1 23 "MainframeDesk" "rowSums" "[J") (by decide +kernel)) (fun _ h9 => h9) rfl dX1_takeRow_18 ?_
    refine lv_iload_n hx hb dX1_takeRow_21 rfl (lv_at hl 1 rfl) ?_
    refine vp_callSi (W.runS (As := [.int cz]) (rest := [.ref qS]) ⟨hx, hb, hml, hown, hts⟩ (c_rowOf l cz) (va_cwS 1 hts gX1_takeRow_X1_rowOf rfl rfl rfl (by decide +kernel) ⟨Nat.le_of_ble_eq_true rfl, Nat.le_of_ble_eq_true rfl⟩) ⟨fun _ _ _ _ q => q, fun _ _ _ => ⟨rfl, trivial⟩⟩ rfl rfl hl.1 rfl (lv_room (Nat.le_of_ble_eq_true rfl)) dX1_takeRow_22 ⟨Nat.le_of_ble_eq_true rfl, Nat.le_of_ble_eq_true rfl⟩) (fun r9 hr9 => ?_)
    subst hr9
    refine lv_lconst (v := 0) hx hb dX1_takeRow_25 (by decide) ?_
    refine va_last hx hb hK hP hD hS 3 2 rfl rfl (kx_w4 hc) dX1_takeRow_26 (fun H locs hP hD hS => ?_)
    have hP : va_P (dC, dI) vwCl (dW h qT qC qS qA qF cT cC cS cA cF ad n kd ok cn (upd rc (mW4 cz).toNatClampNeg 0) (vp_updL rs (mW4 cz).toNatClampNeg 0) an fl t0 t1 t2 t3 t4 t5) H := hP
    have hD : va_D A (dW h qT qC qS qA qF cT cC cS cA cF ad n kd ok cn (upd rc (mW4 cz).toNatClampNeg 0) (vp_updL rs (mW4 cz).toNatClampNeg 0) an fl t0 t1 t2 t3 t4 t5) := hD
    have e1 : mTkC rc cz = upd rc (mW4 cz).toNatClampNeg 0 := if_pos h8_67
    have e2 : mTkS rs cz = vp_updL rs (mW4 cz).toNatClampNeg 0 := if_pos h8_67
    have hP : va_P (dC, dI) vwCl (dW h qT qC qS qA qF cT cC cS cA cF ad n kd ok cn (mTkC rc cz) (mTkS rs cz) an fl t0 t1 t2 t3 t4 t5) H := by rw [e1, e2]; exact hP
    have hD : va_D A (dW h qT qC qS qA qF cT cC cS cA cF ad n kd ok cn (mTkC rc cz) (mTkS rs cz) an fl t0 t1 t2 t3 t4 t5) := by rw [e1, e2]; exact hD
    exact W.vret hx hb hr (fun t ht hW => ⟨⟨(n, kd, ok, cn, mTkC rc cz, mTkS rs cz, an, fl, t0, t1, t2, t3, t4, t5), rfl, rfl, by rw [ht]; exact hP, hD⟩, hS.F ht⟩) hS.2.2 dX1_takeRow_27
  · refine lv_if_eq (tgt := 27) hx hb dX1_takeRow_4 (by decide) (fun _ => ?_) (fun h => absurd h (by decide))
    have e1 : mTkC rc cz = rc := if_neg h8_67
    have e2 : mTkS rs cz = rs := if_neg h8_67
    have hP : va_P (dC, dI) vwCl (dW h qT qC qS qA qF cT cC cS cA cF ad n kd ok cn (mTkC rc cz) (mTkS rs cz) an fl t0 t1 t2 t3 t4 t5) s.heap := by rw [e1, e2]; exact hP
    have hD : va_D A (dW h qT qC qS qA qF cT cC cS cA cF ad n kd ok cn (mTkC rc cz) (mTkS rs cz) an fl t0 t1 t2 t3 t4 t5) := by rw [e1, e2]; exact hD
    exact W.vret hx hb hr (fun t ht hW => ⟨⟨(n, kd, ok, cn, mTkC rc cz, mTkS rs cz, an, fl, t0, t1, t2, t3, t4, t5), rfl, rfl, by rw [ht]; exact hP, hD⟩, hS.F ht⟩) hS.2.2 dX1_takeRow_27
theorem iwX1_tell_1 : ∀ w ∈ wsX10, w ∈ wsX1_tell := fun _ h => List.mem_cons_of_mem _ (List.mem_append_right _ h)
set_option maxHeartbeats 1000000 in
set_option maxRecDepth 100000 in
/-- tell(c, x): what was told -/
theorem c_tell (l : Launch) (dC : Nat → ClassId) (dI : Nat → Nat → Nat) (h qT qC qS qA qF : Nat) (cT cC cS cA cF : ClassId) (ad : Nat → Nat) (n : Nat) (kd ok cn rc : Nat → Int32) (rs an : Nat → Int64) (fl : Nat → Int32) (t0 t1 t2 t3 t4 t5 : Int32) (sz : Nat) (cz x : Int32) (hc : 0 ≤ cz ∧ cz < 32) : Met l yX1_tell wsX1_tell ({ frames := 0, cells := 0, slots := 0, locals := 0 }) (va_Pc [.ref h, .int cz, .int x] (dQ dC dI [(cT, .object "MainframeDesk$Thing"), (cC, .int), (cS, .long), (cA, .long), (cF, .int)] (dW h qT qC qS qA qF cT cC cS cA cF ad n kd ok cn rc rs an fl t0 t1 t2 t3 t4 t5) sz)) (va_Qv (fun (u : dM) => u = (n, kd, ok, cn, rc, rs, an, fl, fl cz.toNatClampNeg, cz, x, t3 + 1, t4, t5)) (fun u t => dAt dC dI (dWm h qT qC qS qA qF cT cC cS cA cF ad u) (va_A (dW h qT qC qS qA qF cT cC cS cA cF ad n kd ok cn rc rs an fl t0 t1 t2 t3 t4 t5) sz) t) (va_A (dW h qT qC qS qA qF cT cC cS cA cF ad n kd ok cn rc rs an fl t0 t1 t2 t3 t4 t5) sz)) 0 0 (va_A (dW h qT qC qS qA qF cT cC cS cA cF ad n kd ok cn rc rs an fl t0 t1 t2 t3 t4 t5) sz) := by
  refine Met.ofW (cc := cX1_tell) (maxL := 3) (ret := none) (by decide) rfl ?_
  intro p e s m args below meth c s₁ B hml hv
  obtain ⟨rfl, hsz, hP, hK, hD0, hN⟩ := hv
  have hx := B.exec
  have hb := B.bytes
  have hr := B.returns
  have hts := atoms_spec (ws := wsX1_tell) B.pre
  have hown : s.vm.findClass RX1 = some m.cls := findClass_of_methodNamed B.named
  have hlocks := B.notSynchronized
  subst hsz
  have hD := hD0.self (sz := s.heap.size)
  generalize hAe : va_A (dW h qT qC qS qA qF cT cC cS cA cF ad n kd ok cn rc rs an fl t0 t1 t2 t3 t4 t5) s.heap.size = A at hD ⊢
  have hA : ∀ q : Nat, s.heap.size ≤ q → A q := fun q h => by rw [← hAe]; exact Or.inr h
  have hS : va_S A s.heap s.heap [] := va_S.rf
  have hl := lv_entry ([.ref h, .int cz, .int x]) (n := 3) (Nat.le_of_ble_eq_true rfl)
  rw [lg_entry_eq]
  generalize (lg_sl ([.ref h, .int cz, .int x]) ++ List.replicate (3 - (lg_sl ([.ref h, .int cz, .int x])).length) Slot.unset).toArray = ls at hl ⊢
  have hl : lv_has ls 3 [(0, .ref h), (1, .int cz), (2, .int x)] := hl
  refine lv_aload_n hx hb dX1_tell_0 rfl (lv_at hl 0 rfl) ?_
  refine lv_aload_n hx hb dX1_tell_1 rfl (lv_at hl 0 rfl) ?_
  refine va_get (D := (dC, dI)) (ci := 1) (v := .ref qF) (C := RX1) (T := TX1) (N := 12) hx hb hts iwX1_tell_1 hown hK hP 0 rfl rfl 5 (by decide) (hts (.fieldLink RX1 30 "MainframeDesk" "failures" "[I") (by decide +kernel)) (fun _ h9 => h9) rfl dX1_tell_2 ?_
  refine lv_iload_n hx hb dX1_tell_5 rfl (lv_at hl 1 rfl) ?_
  refine va_iald hx hb hK hP 5 4 rfl rfl (kx_in hc (by decide)) dX1_tell_6 ?_
  refine lv_topi (fun v_70 ev_70 => ?_)
  refine va_put (D := (dC, dI)) (ci := 1) (v := .int v_70) (ty := .int) (C := RX1) (T := TX1) (N := 12) hx hb hts iwX1_tell_1 tyX1 tyX1_ok nmX1 hown hK hP hD hS 0 rfl rfl 6 (by decide) (hts (.fieldLink RX1 33 "MainframeDesk" "latestFailure" "I") (by decide +kernel)) (fun _ h9 => h9) rfl (by decide +kernel) rfl rfl (Nat.le_of_ble_eq_true rfl) dX1_tell_7 (fun H locs hP hD hS => ?_)
  have hP : va_P (dC, dI) vwCl (dW h qT qC qS qA qF cT cC cS cA cF ad n kd ok cn rc rs an fl v_70 t1 t2 t3 t4 t5) H := hP
  have hD : va_D A (dW h qT qC qS qA qF cT cC cS cA cF ad n kd ok cn rc rs an fl v_70 t1 t2 t3 t4 t5) := hD
  refine lv_aload_n hx hb dX1_tell_10 rfl (lv_at hl 0 rfl) ?_
  refine lv_iload_n hx hb dX1_tell_11 rfl (lv_at hl 1 rfl) ?_
  refine va_put (D := (dC, dI)) (ci := 1) (v := .int cz) (ty := .int) (C := RX1) (T := TX1) (N := 12) hx hb hts iwX1_tell_1 tyX1 tyX1_ok nmX1 hown hK hP hD hS 0 rfl rfl 7 (by decide) (hts (.fieldLink RX1 36 "MainframeDesk" "latestFailedCall" "I") (by decide +kernel)) (fun _ h9 => h9) rfl (by decide +kernel) rfl rfl (Nat.le_of_ble_eq_true rfl) dX1_tell_12 (fun H locs hP hD hS => ?_)
  have hP : va_P (dC, dI) vwCl (dW h qT qC qS qA qF cT cC cS cA cF ad n kd ok cn rc rs an fl v_70 cz t2 t3 t4 t5) H := hP
  have hD : va_D A (dW h qT qC qS qA qF cT cC cS cA cF ad n kd ok cn rc rs an fl v_70 cz t2 t3 t4 t5) := hD
  refine lv_aload_n hx hb dX1_tell_15 rfl (lv_at hl 0 rfl) ?_
  refine lv_iload_n hx hb dX1_tell_16 rfl (lv_at hl 2 rfl) ?_
  refine va_put (D := (dC, dI)) (ci := 1) (v := .int x) (ty := .int) (C := RX1) (T := TX1) (N := 12) hx hb hts iwX1_tell_1 tyX1 tyX1_ok nmX1 hown hK hP hD hS 0 rfl rfl 8 (by decide) (hts (.fieldLink RX1 39 "MainframeDesk" "latestEndedThing" "I") (by decide +kernel)) (fun _ h9 => h9) rfl (by decide +kernel) rfl rfl (Nat.le_of_ble_eq_true rfl) dX1_tell_17 (fun H locs hP hD hS => ?_)
  have hP : va_P (dC, dI) vwCl (dW h qT qC qS qA qF cT cC cS cA cF ad n kd ok cn rc rs an fl v_70 cz x t3 t4 t5) H := hP
  have hD : va_D A (dW h qT qC qS qA qF cT cC cS cA cF ad n kd ok cn rc rs an fl v_70 cz x t3 t4 t5) := hD
  refine lv_aload_n hx hb dX1_tell_20 rfl (lv_at hl 0 rfl) ?_
  refine lv_dup hx hb dX1_tell_21 rfl ?_
  refine va_get (D := (dC, dI)) (ci := 1) (v := .int t3) (C := RX1) (T := TX1) (N := 12) hx hb hts iwX1_tell_1 hown hK hP 0 rfl rfl 9 (by decide) (hts (.fieldLink RX1 42 "MainframeDesk" "failureCount" "I") (by decide +kernel)) (fun _ h9 => h9) rfl dX1_tell_22 ?_
  refine lv_iconst (v := 1) hx hb dX1_tell_25 (by decide) ?_
  refine lv_iadd hx hb dX1_tell_26 ?_
  refine lv_topi (fun z_71 ez_71 => ?_)
  refine va_put (D := (dC, dI)) (ci := 1) (v := .int z_71) (ty := .int) (C := RX1) (T := TX1) (N := 12) hx hb hts iwX1_tell_1 tyX1 tyX1_ok nmX1 hown hK hP hD hS 0 rfl rfl 9 (by decide) (hts (.fieldLink RX1 42 "MainframeDesk" "failureCount" "I") (by decide +kernel)) (fun _ h9 => h9) rfl (by decide +kernel) rfl rfl (Nat.le_of_ble_eq_true rfl) dX1_tell_27 (fun H locs hP hD hS => ?_)
  have hP : va_P (dC, dI) vwCl (dW h qT qC qS qA qF cT cC cS cA cF ad n kd ok cn rc rs an fl v_70 cz x z_71 t4 t5) H := hP
  have hD : va_D A (dW h qT qC qS qA qF cT cC cS cA cF ad n kd ok cn rc rs an fl v_70 cz x z_71 t4 t5) := hD
  subst ev_70
  subst ez_71
  exact W.vret hx hb hr (fun t ht hW => ⟨⟨(n, kd, ok, cn, rc, rs, an, fl, fl cz.toNatClampNeg, cz, x, t3 + 1, t4, t5), rfl, rfl, by rw [ht]; exact hP, hD⟩, hS.F ht⟩) hS.2.2 dX1_tell_30
theorem iwX1_drop_0 : ∀ w ∈ wsX00, w ∈ wsX1_drop := fun _ h => List.mem_cons_of_mem _ (List.mem_append_left _ (List.mem_append_right _ h))
theorem iwX1_drop_1 : ∀ w ∈ wsX10, w ∈ wsX1_drop := fun _ h => List.mem_cons_of_mem _ (List.mem_append_right _ h)
set_option maxHeartbeats 1000000 in
set_option maxRecDepth 100000 in
/-- drop(x) -/
theorem c_drop (l : Launch) (dC : Nat → ClassId) (dI : Nat → Nat → Nat) (h qT qC qS qA qF : Nat) (cT cC cS cA cF : ClassId) (ad : Nat → Nat) (n : Nat) (kd ok cn rc : Nat → Int32) (rs an : Nat → Int64) (fl : Nat → Int32) (t0 t1 t2 t3 t4 t5 : Int32) (hn : n ≤ 200) (sz : Nat) (x : Int32) : Met l yX1_drop wsX1_drop ({ frames := 1, cells := 0, slots := 0, locals := 21 }) (va_Pc [.ref h, .int x] (dQ dC dI [(cT, .object "MainframeDesk$Thing"), (cC, .int), (cS, .long), (cA, .long), (cF, .int)] (dW h qT qC qS qA qF cT cC cS cA cF ad n kd ok cn rc rs an fl t0 t1 t2 t3 t4 t5) sz)) (va_Qi (fun (r : Int32) (u : dM) => (r, u) = mDrop (n, kd, ok, cn, rc, rs, an, fl, t0, t1, t2, t3, t4, t5) x) (fun u t => dAt dC dI (dWm h qT qC qS qA qF cT cC cS cA cF ad u) (va_A (dW h qT qC qS qA qF cT cC cS cA cF ad n kd ok cn rc rs an fl t0 t1 t2 t3 t4 t5) sz) t) (va_A (dW h qT qC qS qA qF cT cC cS cA cF ad n kd ok cn rc rs an fl t0 t1 t2 t3 t4 t5) sz)) 0 0 (va_A (dW h qT qC qS qA qF cT cC cS cA cF ad n kd ok cn rc rs an fl t0 t1 t2 t3 t4 t5) sz) := by
  refine Met.ofW (cc := cX1_drop) (maxL := 3) (ret := (some .boolean)) (by decide) rfl ?_
  intro p e s m args below meth c s₁ B hml hv
  obtain ⟨rfl, hsz, hP, hK, hD0, hN⟩ := hv
  have hx := B.exec
  have hb := B.bytes
  have hr := B.returns
  have hts := atoms_spec (ws := wsX1_drop) B.pre
  have hown : s.vm.findClass RX1 = some m.cls := findClass_of_methodNamed B.named
  have hlocks := B.notSynchronized
  subst hsz
  have hD := hD0.self (sz := s.heap.size)
  generalize hAe : va_A (dW h qT qC qS qA qF cT cC cS cA cF ad n kd ok cn rc rs an fl t0 t1 t2 t3 t4 t5) s.heap.size = A at hD ⊢
  have hA : ∀ q : Nat, s.heap.size ≤ q → A q := fun q h => by rw [← hAe]; exact Or.inr h
  have hS : va_S A s.heap s.heap [] := va_S.rf
  have hl := lv_entry ([.ref h, .int x]) (n := 3) (Nat.le_of_ble_eq_true rfl)
  rw [lg_entry_eq]
  generalize (lg_sl ([.ref h, .int x]) ++ List.replicate (3 - (lg_sl ([.ref h, .int x])).length) Slot.unset).toArray = ls at hl ⊢
  have hl : lv_has ls 3 [(0, .ref h), (1, .int x)] := hl
  refine lv_aload_n hx hb dX1_drop_0 rfl (lv_at hl 0 rfl) ?_
  refine lv_iload_n hx hb dX1_drop_1 rfl (lv_at hl 1 rfl) ?_
  refine va_csq (W.runV (As := [.int x]) (rest := []) ⟨hx, hb, hml, hown, hts⟩ (c_find l dC dI h qT qC qS qA qF cT cC cS cA cF ad n kd ok cn rc rs an fl t0 t1 t2 t3 t4 t5 hn x) (cwV 1 hts gX1_drop_X1_find rfl rfl rfl (by decide +kernel) ⟨Nat.le_of_ble_eq_true rfl, Nat.le_of_ble_eq_true rfl⟩) ⟨dP_bl, va_recv hK hP (ci := 1) (q0 := 0) rfl rfl, fun U hU hW => ⟨rfl, dP_at hU hW hP hK hN⟩⟩ rfl rfl hl.1 rfl (lv_room (Nat.le_of_ble_eq_true rfl)) dX1_drop_2 ⟨Nat.le_of_ble_eq_true rfl, Nat.le_of_ble_eq_true rfl⟩) (fun r9 hr9 => ?_)
  rcases hr9 with ⟨hf_72, rfl⟩ | ⟨hf_72, rfl⟩
  · refine W.eq (g2 := F0 m 5 ls [.ref (ad (mIx x))]) rfl ?_
    obtain ⟨hj_73, hj_731, hj_732⟩ := kx_ix hn hf_72
    refine lv_astore_n (lv' := [(2, .ref (ad (mIx x))), (0, .ref h), (1, .int x)]) hx hb dX1_drop_5 rfl hl (by decide) rfl (fun ls hl => ?_)
    refine lv_aload_n hx hb dX1_drop_6 rfl (lv_at hl 0 rfl) ?_
    refine lv_ifnull hx hb dX1_drop_7 ?_
    refine lv_aload_n hx hb dX1_drop_10 rfl (lv_at hl 0 rfl) ?_
    refine va_getN (D := (dC, dI)) (ci := 0) (v := .int (ok (mIx x))) (C := RX0) (T := TX0) (N := 3) hx hb hts iwX1_drop_0 hown hK hP (6 + (mIx x)) (dW_at hj_73) rfl 1 (by decide) (dNw_fthere hN) (fun _ h9 => h9) rfl dX1_drop_11 ?_
    refine lv_if_ne (tgt := 19) hx hb dX1_drop_14 (by decide) (fun c_74 => ?_) (fun c_74 => ?_)
    · refine lv_aload_n hx hb dX1_drop_19 rfl (lv_at hl 0 rfl) ?_
      refine lv_iconst (v := 0) hx hb dX1_drop_20 (by decide) ?_
      refine va_putN (D := (dC, dI)) (ci := 0) (v := .int 0) (ty := .boolean) (C := RX0) (T := TX0) (N := 3) hx hb hts iwX1_drop_0 tyX0 tyX0_ok nmX0 hown hK hP hD hS (6 + (mIx x)) (dW_at hj_73) rfl 1 (by decide) (dNw_fthere hN) (fun _ h9 => h9) rfl (by decide +kernel) (by rfl) (by rfl) (Nat.le_of_ble_eq_true rfl) dX1_drop_21 (fun H locs hP hD hS => ?_)
      have hP : va_P (dC, dI) vwCl (dW h qT qC qS qA qF cT cC cS cA cF ad n kd (upd ok (mIx x) 0) cn rc rs an fl t0 t1 t2 t3 t4 t5) H := by rw [← dW_set_ok hj_73]; exact hP
      have hD : va_D A (dW h qT qC qS qA qF cT cC cS cA cF ad n kd (upd ok (mIx x) 0) cn rc rs an fl t0 t1 t2 t3 t4 t5) := by rw [← dW_set_ok hj_73]; exact hD
      refine lv_iconst (v := 1) hx hb dX1_drop_24 (by decide) ?_
      exact W.zret (v := 1) hx hb hr rfl (fun t ht hW => ⟨⟨_, (n, kd, upd ok (mIx x) 0, cn, rc, rs, an, fl, t0, t1, t2, t3, t4, t5), rfl, (by exact (if_pos ⟨hf_72, c_74⟩).symm), by rw [ht]; exact hP, hD⟩, hS.F ht⟩) hS.2.2 dX1_drop_25
    · refine lv_iconst (v := 0) hx hb dX1_drop_17 (by decide) ?_
      exact W.zret (v := 0) hx hb hr rfl (fun t ht hW => ⟨⟨_, (n, kd, ok, cn, rc, rs, an, fl, t0, t1, t2, t3, t4, t5), rfl, (by exact (if_neg (fun q => q.2 c_74)).symm), by rw [ht]; exact hP, hD⟩, hS.F ht⟩) hS.2.2 dX1_drop_18
  · refine W.eq (g2 := F0 m 5 ls [.null]) rfl ?_
    refine lv_astore_nN (lv' := [(2, .null), (0, .ref h), (1, .int x)]) hx hb dX1_drop_5 rfl hl (by decide) rfl (fun ls hl => ?_)
    refine lv_aload_nN hx hb dX1_drop_6 rfl (lv_at hl 0 rfl) ?_
    refine lv_ifnullN (tgt := 17) hx hb dX1_drop_7 (by decide) ?_
    refine lv_iconst (v := 0) hx hb dX1_drop_17 (by decide) ?_
    exact W.zret (v := 0) hx hb hr rfl (fun t ht hW => ⟨⟨_, (n, kd, ok, cn, rc, rs, an, fl, t0, t1, t2, t3, t4, t5), rfl, (by exact (if_neg (fun q => hf_72 q.1)).symm), by rw [ht]; exact hP, hD⟩, hS.F ht⟩) hS.2.2 dX1_drop_18
end
section
theorem iwX1_call_1 : ∀ w ∈ wsX10, w ∈ wsX1_call := fun _ h => List.mem_cons_of_mem _ (List.mem_append_left _ (List.mem_append_right _ h))
theorem iwX1_call_0 : ∀ w ∈ wsX00, w ∈ wsX1_call := fun _ h => List.mem_cons_of_mem _ (List.mem_append_right _ h)
set_option maxHeartbeats 1000000 in
set_option maxRecDepth 100000 in
/-- call(c, x, a) -/
theorem c_call (l : Launch) (dC : Nat → ClassId) (dI : Nat → Nat → Nat) (h qT qC qS qA qF : Nat) (cT cC cS cA cF : ClassId) (ad : Nat → Nat) (n : Nat) (kd ok cn rc : Nat → Int32) (rs an : Nat → Int64) (fl : Nat → Int32) (t0 t1 t2 t3 t4 t5 : Int32) (hn : n ≤ 200) (sz : Nat) (cz x : Int32) (a : Int64) : Met l yX1_call wsX1_call ({ frames := 2, cells := 0, slots := 0, locals := 46 }) (va_Pc [.ref h, .int cz, .int x, .long a] (dQ dC dI [(cT, .object "MainframeDesk$Thing"), (cC, .int), (cS, .long), (cA, .long), (cF, .int)] (dW h qT qC qS qA qF cT cC cS cA cF ad n kd ok cn rc rs an fl t0 t1 t2 t3 t4 t5) sz)) (va_Ql (fun (r : Int64) (u : dM) => (r, u) = mCall (n, kd, ok, cn, rc, rs, an, fl, t0, t1, t2, t3, t4, t5) cz x a) (fun u t => dAt dC dI (dWm h qT qC qS qA qF cT cC cS cA cF ad u) (va_A (dW h qT qC qS qA qF cT cC cS cA cF ad n kd ok cn rc rs an fl t0 t1 t2 t3 t4 t5) sz) t) (va_A (dW h qT qC qS qA qF cT cC cS cA cF ad n kd ok cn rc rs an fl t0 t1 t2 t3 t4 t5) sz)) 0 0 (va_A (dW h qT qC qS qA qF cT cC cS cA cF ad n kd ok cn rc rs an fl t0 t1 t2 t3 t4 t5) sz) := by
  refine Met.ofW (cc := cX1_call) (maxL := 9) (ret := (some .long)) (by decide) rfl ?_
  intro p e s m args below meth c s₁ B hml hv
  obtain ⟨rfl, hsz, hP, hK, hD0, hN⟩ := hv
  have hx := B.exec
  have hb := B.bytes
  have hr := B.returns
  have hts := atoms_spec (ws := wsX1_call) B.pre
  have hown : s.vm.findClass RX1 = some m.cls := findClass_of_methodNamed B.named
  have hlocks := B.notSynchronized
  subst hsz
  have hD := hD0.self (sz := s.heap.size)
  generalize hAe : va_A (dW h qT qC qS qA qF cT cC cS cA cF ad n kd ok cn rc rs an fl t0 t1 t2 t3 t4 t5) s.heap.size = A at hD ⊢
  have hA : ∀ q : Nat, s.heap.size ≤ q → A q := fun q h => by rw [← hAe]; exact Or.inr h
  have hS : va_S A s.heap s.heap [] := va_S.rf
  have hl := lv_entry ([.ref h, .int cz, .int x, .long a]) (n := 9) (Nat.le_of_ble_eq_true rfl)
  rw [lg_entry_eq]
  generalize (lg_sl ([.ref h, .int cz, .int x, .long a]) ++ List.replicate (9 - (lg_sl ([.ref h, .int cz, .int x, .long a])).length) Slot.unset).toArray = ls at hl ⊢
  have hl : lv_has ls 9 [(0, .ref h), (1, .int cz), (2, .int x), (3, .long a)] := hl
  refine lv_aload_n hx hb dX1_call_0 rfl (lv_at hl 0 rfl) ?_
  refine lv_iload_n hx hb dX1_call_1 rfl (lv_at hl 2 rfl) ?_
  refine va_csq (W.runV (As := [.int x]) (rest := []) ⟨hx, hb, hml, hown, hts⟩ (c_find l dC dI h qT qC qS qA qF cT cC cS cA cF ad n kd ok cn rc rs an fl t0 t1 t2 t3 t4 t5 hn x) (cwV 1 hts gX1_call_X1_find rfl rfl rfl (by decide +kernel) ⟨Nat.le_of_ble_eq_true rfl, Nat.le_of_ble_eq_true rfl⟩) ⟨dP_bl, va_recv hK hP (ci := 1) (q0 := 0) rfl rfl, fun U hU hW => ⟨rfl, dP_at hU hW hP hK hN⟩⟩ rfl rfl hl.1 rfl (lv_room (Nat.le_of_ble_eq_true rfl)) dX1_call_2 ⟨Nat.le_of_ble_eq_true rfl, Nat.le_of_ble_eq_true rfl⟩) (fun r9 hr9 => ?_)
  rcases hr9 with ⟨hf_75, rfl⟩ | ⟨hf_75, rfl⟩
  · refine W.eq (g2 := F0 m 5 ls [.ref (ad (mIx x))]) rfl ?_
    obtain ⟨hj_76, hj_761, hj_762⟩ := kx_ix hn hf_75
    refine lv_astore (lv' := [(5, .ref (ad (mIx x))), (0, .ref h), (1, .int cz), (2, .int x), (3, .long a)]) hx hb dX1_call_5 hl (by decide) rfl (fun ls hl => ?_)
    refine lv_aload_n hx hb dX1_call_7 rfl (lv_at hl 1 rfl) ?_
    refine lv_iload_n hx hb dX1_call_8 rfl (lv_at hl 2 rfl) ?_
    refine lv_aload hx hb dX1_call_9 (lv_at hl 0 rfl) ?_
    refine lv_lload_n hx hb dX1_call_11 rfl (lv_at hl 4 rfl) ?_
    refine vp_callSi (W.runV (As := [.int cz, .ref (ad (mIx x)), .long a]) (rest := []) ⟨hx, hb, hml, hown, hts⟩ (c_refusalOf l dC dI h qT qC qS qA qF cT cC cS cA cF ad n kd ok cn rc rs an fl t0 t1 t2 t3 t4 t5 (mIx x) hj_76 cz a) (cwV 3 hts gX1_call_X1_refusalOf rfl rfl rfl (by decide +kernel) ⟨Nat.le_of_ble_eq_true rfl, Nat.le_of_ble_eq_true rfl⟩) ⟨dP_bl, va_recv hK hP (ci := 1) (q0 := 0) rfl rfl, fun U hU hW => ⟨rfl, dP_at hU hW hP hK hN⟩⟩ rfl rfl hl.1 rfl (lv_room (Nat.le_of_ble_eq_true rfl)) dX1_call_12 ⟨Nat.le_of_ble_eq_true rfl, Nat.le_of_ble_eq_true rfl⟩) (fun r_77 er_77 => ?_)
    refine lv_istore (lv' := [(6, .int r_77), (5, .ref (ad (mIx x))), (0, .ref h), (1, .int cz), (2, .int x), (3, .long a)]) hx hb dX1_call_15 hl (by decide) rfl (fun ls hl => ?_)
    refine lv_iload hx hb dX1_call_17 (lv_at hl 0 rfl) ?_
    refine lv_if_eq (tgt := 36) hx hb dX1_call_19 (by decide) (fun c_78 => ?_) (fun c_78 => ?_)
    · have hc : 0 ≤ cz ∧ cz < 32 := kx_refc (er_77.symm.trans c_78)
      refine lv_aload_n hx hb dX1_call_36 rfl (lv_at hl 2 rfl) ?_
      refine lv_iload_n hx hb dX1_call_37 rfl (lv_at hl 3 rfl) ?_
      refine lv_aload hx hb dX1_call_38 (lv_at hl 1 rfl) ?_
      refine lv_lload_n hx hb dX1_call_40 rfl (lv_at hl 5 rfl) ?_
      refine vp_callSl (W.runV (As := [.int cz, .ref (ad (mIx x)), .long a]) (rest := []) ⟨hx, hb, hml, hown, hts⟩ (c_outcomeOf l dC dI h qT qC qS qA qF cT cC cS cA cF ad n kd ok cn rc rs an fl t0 t1 t2 t3 t4 t5 (mIx x) hj_76 cz a hc) (cwV 3 hts gX1_call_X1_outcomeOf rfl rfl rfl (by decide +kernel) ⟨Nat.le_of_ble_eq_true rfl, Nat.le_of_ble_eq_true rfl⟩) ⟨dP_bl, va_recv hK hP (ci := 1) (q0 := 0) rfl rfl, fun U hU hW => ⟨rfl, dP_at hU hW hP hK hN⟩⟩ rfl rfl hl.1 rfl (lv_room (Nat.le_of_ble_eq_true rfl)) dX1_call_41 ⟨Nat.le_of_ble_eq_true rfl, Nat.le_of_ble_eq_true rfl⟩) (fun o_79 eo_79 => ?_)
      refine lv_lstore (lv' := [(7, .long o_79), (6, .int r_77), (5, .ref (ad (mIx x))), (0, .ref h), (1, .int cz), (2, .int x), (3, .long a)]) hx hb dX1_call_44 hl (by decide) rfl (fun ls hl => ?_)
      refine lv_aload_n hx hb dX1_call_46 rfl (lv_at hl 3 rfl) ?_
      refine lv_iload_n hx hb dX1_call_47 rfl (lv_at hl 4 rfl) ?_
      have hFc := kx_fr hD hS hA
      refine va_callv (va_runV (As := [.int cz]) (rest := []) ⟨hx, hb, hml, hown, hts⟩ (c_takeRow l dC dI h qT qC qS qA qF cT cC cS cA cF ad n kd ok cn rc rs an fl t0 t1 t2 t3 t4 t5 s.heap.size cz hc) (cwV 1 hts gX1_call_X1_takeRow rfl rfl rfl (by decide +kernel) ⟨Nat.le_of_ble_eq_true rfl, Nat.le_of_ble_eq_true rfl⟩) ⟨dQ_bl, va_recv hK hP (ci := 1) (q0 := 0) rfl rfl, fun U hU hW => ⟨rfl, dQ_at hU hW hP hK hD hN⟩⟩ rfl rfl hl.1 rfl (lv_room (Nat.le_of_ble_eq_true rfl)) dX1_call_48 ⟨Nat.le_of_ble_eq_true rfl, Nat.le_of_ble_eq_true rfl⟩) hS (fun q _ h => hFc q h) hFc (fun u t H locs ht hvm hw hB hz1 hk1 hS => ?_)
      subst hw
      obtain ⟨hP, hD1⟩ := hB
      rw [ht] at hP
      have hP : va_P (dC, dI) vwCl (dW h qT qC qS qA qF cT cC cS cA cF ad n kd ok cn (mTkC rc cz) (mTkS rs cz) an fl t0 t1 t2 t3 t4 t5) H := hP
      have hD : va_D A (dW h qT qC qS qA qF cT cC cS cA cF ad n kd ok cn (mTkC rc cz) (mTkS rs cz) an fl t0 t1 t2 t3 t4 t5) := hD1.weaken (fun _ q _ h9 => hFc q.1 h9)
      refine lv_aload_n hx hb dX1_call_51 rfl (lv_at hl 3 rfl) ?_
      refine va_get (D := (dC, dI)) (ci := 1) (v := .ref qF) (C := RX1) (T := TX1) (N := 12) hx hb hts iwX1_call_1 hown hK hP 0 rfl rfl 5 (by decide) (hts (.fieldLink RX1 30 "MainframeDesk" "failures" "[I") (by decide +kernel)) (fun _ h9 => h9) rfl dX1_call_52 ?_
      refine lv_iload_n hx hb dX1_call_55 rfl (lv_at hl 4 rfl) ?_
      refine va_iald hx hb hK hP 5 4 rfl rfl (kx_in hc (by decide)) dX1_call_56 ?_
      refine lv_topi (fun v_80 ev_80 => ?_)
      refine lv_if_ne (tgt := 84) hx hb dX1_call_57 (by decide) (fun c_81 => ?_) (fun c_81 => ?_)
      · refine lv_aload hx hb dX1_call_84 (lv_at hl 2 rfl) ?_
        refine lv_iconst (v := 0) hx hb dX1_call_86 (by decide) ?_
        refine va_putN (D := (dC, dI)) (ci := 0) (v := .int 0) (ty := .boolean) (C := RX0) (T := TX0) (N := 3) hx hb hts iwX1_call_0 tyX0 tyX0_ok nmX0 hown hK hP hD hS (6 + (mIx x)) (dW_at hj_76) rfl 1 (by decide) (dNw_fthere hN) (fun _ h9 => h9) rfl (by decide +kernel) (by rfl) (by rfl) (Nat.le_of_ble_eq_true rfl) dX1_call_87 (fun H locs hP hD hS => ?_)
        have hP : va_P (dC, dI) vwCl (dW h qT qC qS qA qF cT cC cS cA cF ad n kd (upd ok (mIx x) 0) cn (mTkC rc cz) (mTkS rs cz) an fl t0 t1 t2 t3 t4 t5) H := by rw [← dW_set_ok hj_76]; exact hP
        have hD : va_D A (dW h qT qC qS qA qF cT cC cS cA cF ad n kd (upd ok (mIx x) 0) cn (mTkC rc cz) (mTkS rs cz) an fl t0 t1 t2 t3 t4 t5) := by rw [← dW_set_ok hj_76]; exact hD
        refine lv_aload_n hx hb dX1_call_90 rfl (lv_at hl 3 rfl) ?_
        refine lv_iload_n hx hb dX1_call_91 rfl (lv_at hl 4 rfl) ?_
        refine lv_iload_n hx hb dX1_call_92 rfl (lv_at hl 5 rfl) ?_
        have hFc := kx_fr hD hS hA
        refine va_callv (va_runV (As := [.int cz, .int x]) (rest := []) ⟨hx, hb, hml, hown, hts⟩ (c_tell l dC dI h qT qC qS qA qF cT cC cS cA cF ad n kd (upd ok (mIx x) 0) cn (mTkC rc cz) (mTkS rs cz) an fl t0 t1 t2 t3 t4 t5 H.size cz x hc) (cwV 2 hts gX1_call_X1_tell rfl rfl rfl (by decide +kernel) ⟨Nat.le_of_ble_eq_true rfl, Nat.le_of_ble_eq_true rfl⟩) ⟨dQ_bl, va_recv hK hP (ci := 1) (q0 := 0) rfl rfl, fun U hU hW => ⟨rfl, dQ_at hU hW hP hK hD hN⟩⟩ rfl rfl hl.1 rfl (lv_room (Nat.le_of_ble_eq_true rfl)) dX1_call_93 ⟨Nat.le_of_ble_eq_true rfl, Nat.le_of_ble_eq_true rfl⟩) hS (fun q _ h => hFc q h) hFc (fun u t H locs ht hvm hw hB hz1 hk1 hS => ?_)
        subst hw
        obtain ⟨hP, hD1⟩ := hB
        rw [ht] at hP
        have hP : va_P (dC, dI) vwCl (dW h qT qC qS qA qF cT cC cS cA cF ad n kd (upd ok (mIx x) 0) cn (mTkC rc cz) (mTkS rs cz) an fl (fl cz.toNatClampNeg) cz x (t3 + 1) t4 t5) H := hP
        have hD : va_D A (dW h qT qC qS qA qF cT cC cS cA cF ad n kd (upd ok (mIx x) 0) cn (mTkC rc cz) (mTkS rs cz) an fl (fl cz.toNatClampNeg) cz x (t3 + 1) t4 t5) := hD1.weaken (fun _ q _ h9 => hFc q.1 h9)
        refine lv_lload hx hb dX1_call_96 (lv_at hl 0 rfl) ?_
        exact W.lret (v := o_79) hx hb hr (fun t ht hW => ⟨⟨_, (n, kd, upd ok (mIx x) 0, cn, mTkC rc cz, mTkS rs cz, an, fl, fl cz.toNatClampNeg, cz, x, t3 + 1, t4, t5), rfl, (by subst er_77; subst eo_79; subst ev_80; unfold mCall; dsimp only; rw [if_pos hf_75, if_pos c_78, if_neg c_81]), by rw [ht]; exact hP, hD⟩, hS.F ht⟩) hS.2.2 dX1_call_98
      · refine lv_aload hx hb dX1_call_60 (lv_at hl 2 rfl) ?_
        refine lv_dup hx hb dX1_call_62 rfl ?_
        refine va_getN (D := (dC, dI)) (ci := 0) (v := .int (cn (mIx x))) (C := RX0) (T := TX0) (N := 3) hx hb hts iwX1_call_0 hown hK hP (6 + (mIx x)) (dW_at hj_76) rfl 2 (by decide) (dNw_fanswered hN) (fun _ h9 => h9) rfl dX1_call_63 ?_
        refine lv_iconst (v := 1) hx hb dX1_call_66 (by decide) ?_
        refine lv_iadd hx hb dX1_call_67 ?_
        refine lv_topi (fun z_82 ez_82 => ?_)
        refine va_putN (D := (dC, dI)) (ci := 0) (v := .int z_82) (ty := .int) (C := RX0) (T := TX0) (N := 3) hx hb hts iwX1_call_0 tyX0 tyX0_ok nmX0 hown hK hP hD hS (6 + (mIx x)) (dW_at hj_76) rfl 2 (by decide) (dNw_fanswered hN) (fun _ h9 => h9) rfl (by decide +kernel) (by rfl) (by rfl) (Nat.le_of_ble_eq_true rfl) dX1_call_68 (fun H locs hP hD hS => ?_)
        have hP : va_P (dC, dI) vwCl (dW h qT qC qS qA qF cT cC cS cA cF ad n kd ok (upd cn (mIx x) z_82) (mTkC rc cz) (mTkS rs cz) an fl t0 t1 t2 t3 t4 t5) H := by rw [← dW_set_cn hj_76]; exact hP
        have hD : va_D A (dW h qT qC qS qA qF cT cC cS cA cF ad n kd ok (upd cn (mIx x) z_82) (mTkC rc cz) (mTkS rs cz) an fl t0 t1 t2 t3 t4 t5) := by rw [← dW_set_cn hj_76]; exact hD
        refine lv_aload_n hx hb dX1_call_71 rfl (lv_at hl 3 rfl) ?_
        refine lv_dup hx hb dX1_call_72 rfl ?_
        refine va_get (D := (dC, dI)) (ci := 1) (v := .int t5) (C := RX1) (T := TX1) (N := 12) hx hb hts iwX1_call_1 hown hK hP 0 rfl rfl 11 (by decide) (hts (.fieldLink RX1 48 "MainframeDesk" "answerCount" "I") (by decide +kernel)) (fun _ h9 => h9) rfl dX1_call_73 ?_
        refine lv_iconst (v := 1) hx hb dX1_call_76 (by decide) ?_
        refine lv_iadd hx hb dX1_call_77 ?_
        refine lv_topi (fun z_83 ez_83 => ?_)
        refine va_put (D := (dC, dI)) (ci := 1) (v := .int z_83) (ty := .int) (C := RX1) (T := TX1) (N := 12) hx hb hts iwX1_call_1 tyX1 tyX1_ok nmX1 hown hK hP hD hS 0 rfl rfl 11 (by decide) (hts (.fieldLink RX1 48 "MainframeDesk" "answerCount" "I") (by decide +kernel)) (fun _ h9 => h9) rfl (by decide +kernel) rfl rfl (Nat.le_of_ble_eq_true rfl) dX1_call_78 (fun H locs hP hD hS => ?_)
        have hP : va_P (dC, dI) vwCl (dW h qT qC qS qA qF cT cC cS cA cF ad n kd ok (upd cn (mIx x) z_82) (mTkC rc cz) (mTkS rs cz) an fl t0 t1 t2 t3 t4 z_83) H := hP
        have hD : va_D A (dW h qT qC qS qA qF cT cC cS cA cF ad n kd ok (upd cn (mIx x) z_82) (mTkC rc cz) (mTkS rs cz) an fl t0 t1 t2 t3 t4 z_83) := hD
        refine lv_goto (tgt := 96) hx hb dX1_call_81 (by decide) ?_
        refine lv_lload hx hb dX1_call_96 (lv_at hl 0 rfl) ?_
        exact W.lret (v := o_79) hx hb hr (fun t ht hW => ⟨⟨_, (n, kd, ok, upd cn (mIx x) z_82, mTkC rc cz, mTkS rs cz, an, fl, t0, t1, t2, t3, t4, z_83), rfl, (by subst er_77; subst eo_79; subst ev_80; subst ez_82; subst ez_83; unfold mCall; dsimp only; rw [if_pos hf_75, if_pos c_78, if_pos c_81]), by rw [ht]; exact hP, hD⟩, hS.F ht⟩) hS.2.2 dX1_call_98
    · refine lv_aload_n hx hb dX1_call_22 rfl (lv_at hl 2 rfl) ?_
      refine lv_dup hx hb dX1_call_23 rfl ?_
      refine va_get (D := (dC, dI)) (ci := 1) (v := .int t4) (C := RX1) (T := TX1) (N := 12) hx hb hts iwX1_call_1 hown hK hP 0 rfl rfl 10 (by decide) (hts (.fieldLink RX1 45 "MainframeDesk" "refusalCount" "I") (by decide +kernel)) (fun _ h9 => h9) rfl dX1_call_24 ?_
      refine lv_iconst (v := 1) hx hb dX1_call_27 (by decide) ?_
      refine lv_iadd hx hb dX1_call_28 ?_
      refine lv_topi (fun z_84 ez_84 => ?_)
      refine va_put (D := (dC, dI)) (ci := 1) (v := .int z_84) (ty := .int) (C := RX1) (T := TX1) (N := 12) hx hb hts iwX1_call_1 tyX1 tyX1_ok nmX1 hown hK hP hD hS 0 rfl rfl 10 (by decide) (hts (.fieldLink RX1 45 "MainframeDesk" "refusalCount" "I") (by decide +kernel)) (fun _ h9 => h9) rfl (by decide +kernel) rfl rfl (Nat.le_of_ble_eq_true rfl) dX1_call_29 (fun H locs hP hD hS => ?_)
      have hP : va_P (dC, dI) vwCl (dW h qT qC qS qA qF cT cC cS cA cF ad n kd ok cn rc rs an fl t0 t1 t2 t3 z_84 t5) H := hP
      have hD : va_D A (dW h qT qC qS qA qF cT cC cS cA cF ad n kd ok cn rc rs an fl t0 t1 t2 t3 z_84 t5) := hD
      refine lv_iload hx hb dX1_call_32 (lv_at hl 0 rfl) ?_
      refine lv_i2l (v := r_77.toInt64) hx hb dX1_call_34 rfl ?_
      exact W.lret (v := r_77.toInt64) hx hb hr (fun t ht hW => ⟨⟨_, (n, kd, ok, cn, rc, rs, an, fl, t0, t1, t2, t3, z_84, t5), rfl, (by subst er_77; subst ez_84; unfold mCall; dsimp only; rw [if_pos hf_75, if_neg c_78]), by rw [ht]; exact hP, hD⟩, hS.F ht⟩) hS.2.2 dX1_call_35
  · refine W.eq (g2 := F0 m 5 ls [.null]) rfl ?_
    refine lv_astoreN (lv' := [(5, .null), (0, .ref h), (1, .int cz), (2, .int x), (3, .long a)]) hx hb dX1_call_5 hl (by decide) rfl (fun ls hl => ?_)
    refine lv_aload_n hx hb dX1_call_7 rfl (lv_at hl 1 rfl) ?_
    refine lv_iload_n hx hb dX1_call_8 rfl (lv_at hl 2 rfl) ?_
    refine lv_aloadN hx hb dX1_call_9 (lv_at hl 0 rfl) ?_
    refine lv_lload_n hx hb dX1_call_11 rfl (lv_at hl 4 rfl) ?_
    refine vp_callSi (W.runV (As := [.int cz, .null, .long a]) (rest := []) ⟨hx, hb, hml, hown, hts⟩ (c_refusalN l dC dI h qT qC qS qA qF cT cC cS cA cF ad n kd ok cn rc rs an fl t0 t1 t2 t3 t4 t5 cz a) (cwV 3 hts gX1_call_X1_refusalOf rfl rfl rfl (by decide +kernel) ⟨Nat.le_of_ble_eq_true rfl, Nat.le_of_ble_eq_true rfl⟩) ⟨dP_bl, va_recv hK hP (ci := 1) (q0 := 0) rfl rfl, fun U hU hW => ⟨rfl, dP_at hU hW hP hK hN⟩⟩ rfl rfl hl.1 rfl (lv_room (Nat.le_of_ble_eq_true rfl)) dX1_call_12 ⟨Nat.le_of_ble_eq_true rfl, Nat.le_of_ble_eq_true rfl⟩) (fun r9 hr9 => ?_)
    subst hr9
    refine lv_istore (lv' := [(6, .int (-2)), (5, .null), (0, .ref h), (1, .int cz), (2, .int x), (3, .long a)]) hx hb dX1_call_15 hl (by decide) rfl (fun ls hl => ?_)
    refine lv_iload hx hb dX1_call_17 (lv_at hl 0 rfl) ?_
    refine lv_if_eq (tgt := 36) hx hb dX1_call_19 (by decide) (fun h => absurd h (by decide)) (fun _ => ?_)
    refine lv_aload_n hx hb dX1_call_22 rfl (lv_at hl 2 rfl) ?_
    refine lv_dup hx hb dX1_call_23 rfl ?_
    refine va_get (D := (dC, dI)) (ci := 1) (v := .int t4) (C := RX1) (T := TX1) (N := 12) hx hb hts iwX1_call_1 hown hK hP 0 rfl rfl 10 (by decide) (hts (.fieldLink RX1 45 "MainframeDesk" "refusalCount" "I") (by decide +kernel)) (fun _ h9 => h9) rfl dX1_call_24 ?_
    refine lv_iconst (v := 1) hx hb dX1_call_27 (by decide) ?_
    refine lv_iadd hx hb dX1_call_28 ?_
    refine lv_topi (fun z_86 ez_86 => ?_)
    refine va_put (D := (dC, dI)) (ci := 1) (v := .int z_86) (ty := .int) (C := RX1) (T := TX1) (N := 12) hx hb hts iwX1_call_1 tyX1 tyX1_ok nmX1 hown hK hP hD hS 0 rfl rfl 10 (by decide) (hts (.fieldLink RX1 45 "MainframeDesk" "refusalCount" "I") (by decide +kernel)) (fun _ h9 => h9) rfl (by decide +kernel) rfl rfl (Nat.le_of_ble_eq_true rfl) dX1_call_29 (fun H locs hP hD hS => ?_)
    have hP : va_P (dC, dI) vwCl (dW h qT qC qS qA qF cT cC cS cA cF ad n kd ok cn rc rs an fl t0 t1 t2 t3 z_86 t5) H := hP
    have hD : va_D A (dW h qT qC qS qA qF cT cC cS cA cF ad n kd ok cn rc rs an fl t0 t1 t2 t3 z_86 t5) := hD
    refine lv_iload hx hb dX1_call_32 (lv_at hl 0 rfl) ?_
    refine lv_i2l (v := ((-2) : Int32).toInt64) hx hb dX1_call_34 rfl ?_
    exact W.lret (v := ((-2) : Int32).toInt64) hx hb hr (fun t ht hW => ⟨⟨_, (n, kd, ok, cn, rc, rs, an, fl, t0, t1, t2, t3, z_86, t5), rfl, (by subst ez_86; unfold mCall; dsimp only; rw [if_neg hf_75]), by rw [ht]; exact hP, hD⟩, hS.F ht⟩) hS.2.2 dX1_call_35
end
section
theorem iwX0_init : ∀ w ∈ wsX00, w ∈ wsX0_init := fun _ h => List.mem_cons_of_mem _ (List.mem_append_right _ h)
set_option maxHeartbeats 1000000 in
set_option maxRecDepth 100000 in
/-- Thing(k) -/
theorem c_thing (l : Launch) (dC : Nat → ClassId) (dI : Nat → Nat → Nat) (h sz : Nat) (k : Int32) : Met l yX0_init wsX0_init ({ frames := 1, cells := 0, slots := 0, locals := 12 }) (va_Pc [.ref h, .int k] (fun U => U.heap.size = sz ∧ va_P (dC, dI) vwCl [(h, .inr (0, [.int 0, .int 0, .int 0]))] U.heap ∧ va_K (dC, dI) vwCl [] U ∧ va_D (fun _ => True) [(h, .inr (0, [.int 0, .int 0, .int 0]))])) (va_Qv (fun (_ : Unit) => True) (fun _ t => va_P (dC, dI) vwCl [(h, .inr (0, [.int k, .int 1, .int 0]))] t.heap ∧ va_D (va_A [(h, .inr (0, [.int 0, .int 0, .int 0]))] sz) [(h, .inr (0, [.int k, .int 1, .int 0]))]) (va_A [(h, .inr (0, [.int 0, .int 0, .int 0]))] sz)) 0 0 (va_A [(h, .inr (0, [.int 0, .int 0, .int 0]))] sz) := by
  refine Met.ofW (cc := cX0_init) (maxL := 2) (ret := none) (by decide) rfl ?_
  intro p e s m args below meth c s₁ B hml hv
  obtain ⟨rfl, hsz, hP, hK, hD0⟩ := hv
  have hx := B.exec
  have hb := B.bytes
  have hr := B.returns
  have hts := atoms_spec (ws := wsX0_init) B.pre
  have hown : s.vm.findClass RX0 = some m.cls := findClass_of_methodNamed B.named
  have hlocks := B.notSynchronized
  have hin : meth.name = "<init>" := (name_of_methodNamed B.named B.method).1
  subst hsz
  have hD := hD0.self (sz := s.heap.size)
  generalize hAe : va_A ([(h, .inr (0, [.int 0, .int 0, .int 0]))]) s.heap.size = A at hD ⊢
  have hA : ∀ q : Nat, s.heap.size ≤ q → A q := fun q h => by rw [← hAe]; exact Or.inr h
  have hS : va_S A s.heap s.heap [] := va_S.rf
  have hl := lv_entry ([.ref h, .int k]) (n := 2) (Nat.le_of_ble_eq_true rfl)
  rw [lg_entry_eq]
  generalize (lg_sl ([.ref h, .int k]) ++ List.replicate (2 - (lg_sl ([.ref h, .int k])).length) Slot.unset).toArray = ls at hl ⊢
  have hl : lv_has ls 2 [(0, .ref h), (1, .int k)] := hl
  refine lv_aload_n hx hb dX0_init_0 rfl (lv_at hl 0 rfl) ?_
  refine W.objInit hx hb hown (hts (.methodLink RX0 1 objectInit) (by decide +kernel)) (hts (.instanceMethod objectInit) (by decide +kernel)) (hts _ (List.mem_cons_of_mem _ (List.mem_append_left _ (List.mem_of_getElem? (i := 2) rfl)))) rfl (by rw [hml]; exact hl.1) rfl dX0_init_1 (Nat.le_of_ble_eq_true rfl) (Nat.le_of_ble_eq_true rfl) ?_
  refine W.eq (g2 := F0 m 4 ls []) rfl ?_
  refine lv_aload_n hx hb dX0_init_4 rfl (lv_at hl 0 rfl) ?_
  refine lv_iconst (v := 1) hx hb dX0_init_5 (by decide) ?_
  refine va_put (D := (dC, dI)) (ci := 0) (v := .int 1) (ty := .boolean) (C := RX0) (T := TX0) (N := 3) hx hb hts iwX0_init tyX0 tyX0_ok nmX0 hown hK hP hD hS 0 rfl rfl 1 (by decide) (hts (.fieldLink RX0 7 "MainframeDesk$Thing" "there" "Z") (by decide +kernel)) (fun _ h9 => h9) rfl (by decide +kernel) rfl rfl (Nat.le_of_ble_eq_true rfl) dX0_init_6 (fun H locs hP hD hS => ?_)
  have hP : va_P (dC, dI) vwCl [(h, .inr (0, [.int 0, .int 1, .int 0]))] H := hP
  have hD : va_D A [(h, .inr (0, [.int 0, .int 1, .int 0]))] := hD
  refine lv_aload_n hx hb dX0_init_9 rfl (lv_at hl 0 rfl) ?_
  refine lv_iconst (v := 0) hx hb dX0_init_10 (by decide) ?_
  refine va_put (D := (dC, dI)) (ci := 0) (v := .int 0) (ty := .int) (C := RX0) (T := TX0) (N := 3) hx hb hts iwX0_init tyX0 tyX0_ok nmX0 hown hK hP hD hS 0 rfl rfl 2 (by decide) (hts (.fieldLink RX0 13 "MainframeDesk$Thing" "answered" "I") (by decide +kernel)) (fun _ h9 => h9) rfl (by decide +kernel) rfl rfl (Nat.le_of_ble_eq_true rfl) dX0_init_11 (fun H locs hP hD hS => ?_)
  have hP : va_P (dC, dI) vwCl [(h, .inr (0, [.int 0, .int 1, .int 0]))] H := hP
  have hD : va_D A [(h, .inr (0, [.int 0, .int 1, .int 0]))] := hD
  refine lv_aload_n hx hb dX0_init_14 rfl (lv_at hl 0 rfl) ?_
  refine lv_iload_n hx hb dX0_init_15 rfl (lv_at hl 1 rfl) ?_
  refine va_putF (D := (dC, dI)) (ci := 0) (v := .int k) (ty := .int) (C := RX0) (T := TX0) (N := 3) hx hb hts iwX0_init tyX0 tyX0_ok nmX0 hown hK hP hD hS 0 rfl rfl 0 (by decide) (hts (.fieldLink RX0 17 "MainframeDesk$Thing" "kind" "I") (by decide +kernel)) (fun _ h9 => h9) rfl hin rfl (by decide +kernel) rfl rfl (Nat.le_of_ble_eq_true rfl) dX0_init_16 (fun H locs hP hD hS => ?_)
  have hP : va_P (dC, dI) vwCl [(h, .inr (0, [.int k, .int 1, .int 0]))] H := hP
  have hD : va_D A [(h, .inr (0, [.int k, .int 1, .int 0]))] := hD
  exact W.vret hx hb hr (fun t ht hW => ⟨⟨(), rfl, trivial, by rw [ht]; exact hP, hD⟩, hS.F ht⟩) hS.2.2 dX0_init_19
theorem dTh_0 (ad : Nat → Nat) : dTh 0 ad = fun _ => none := by
  funext i
  exact if_neg (Nat.not_lt_zero i)
theorem iwX1_init : ∀ w ∈ wsX10, w ∈ wsX1_init := fun _ h => List.mem_cons_of_mem _ (List.mem_append_right _ h)
set_option maxHeartbeats 1000000 in
set_option maxRecDepth 100000 in
/-- MainframeDesk() -/
theorem c_deskInit (l : Launch) (dC : Nat → ClassId) (dI : Nat → Nat → Nat) (h sz : Nat) : Met l yX1_init wsX1_init ({ frames := 1, cells := 5, slots := 272, locals := 12 }) (va_Pc [.ref h] (fun U => U.heap.size = sz ∧ va_P (dC, dI) vwCl [(h, .inr (1, [.null, .int 0, .null, .null, .null, .null, .int 0, .int 0, .int 0, .int 0, .int 0, .int 0]))] U.heap ∧ va_K (dC, dI) vwCl [] U ∧ va_D (fun _ => True) [(h, .inr (1, [.null, .int 0, .null, .null, .null, .null, .int 0, .int 0, .int 0, .int 0, .int 0, .int 0]))] ∧ va_AO "MainframeDesk$Thing" U)) (va_Qv (fun (_ : Unit) => True) (fun _ t => ∃ (qT qC qS qA qF : Nat) (cT cC cS cA cF : ClassId), va_P (dC, dI) vwCl (dW h qT qC qS qA qF cT cC cS cA cF (fun _ => 0) 0 (fun _ => 0) (fun _ => 0) (fun _ => 0) (fun _ => 0) (fun _ => 0) (fun _ => 0) (fun _ => 0) 0 0 0 0 0 0) t.heap ∧ va_K (dC, dI) vwCl [(cT, .object "MainframeDesk$Thing"), (cC, .int), (cS, .long), (cA, .long), (cF, .int)] t ∧ va_D (va_A [(h, .inr (1, [.null, .int 0, .null, .null, .null, .null, .int 0, .int 0, .int 0, .int 0, .int 0, .int 0]))] sz) (dW h qT qC qS qA qF cT cC cS cA cF (fun _ => 0) 0 (fun _ => 0) (fun _ => 0) (fun _ => 0) (fun _ => 0) (fun _ => 0) (fun _ => 0) (fun _ => 0) 0 0 0 0 0 0)) (va_A [(h, .inr (1, [.null, .int 0, .null, .null, .null, .null, .int 0, .int 0, .int 0, .int 0, .int 0, .int 0]))] sz)) 5 272 (va_A [(h, .inr (1, [.null, .int 0, .null, .null, .null, .null, .int 0, .int 0, .int 0, .int 0, .int 0, .int 0]))] sz) := by
  refine Met.ofW (cc := cX1_init) (maxL := 1) (ret := none) (by decide) rfl ?_
  intro p e s m args below meth c s₁ B hml hv
  obtain ⟨rfl, hsz, hP, hK, hD0, hAO⟩ := hv
  have hx := B.exec
  have hb := B.bytes
  have hr := B.returns
  have hts := atoms_spec (ws := wsX1_init) B.pre
  have hown : s.vm.findClass RX1 = some m.cls := findClass_of_methodNamed B.named
  have hlocks := B.notSynchronized
  have hin : meth.name = "<init>" := (name_of_methodNamed B.named B.method).1
  subst hsz
  have hD := hD0.self (sz := s.heap.size)
  generalize hAe : va_A ([(h, .inr (1, [.null, .int 0, .null, .null, .null, .null, .int 0, .int 0, .int 0, .int 0, .int 0, .int 0]))]) s.heap.size = A at hD ⊢
  have hA : ∀ q : Nat, s.heap.size ≤ q → A q := fun q h => by rw [← hAe]; exact Or.inr h
  have hS : va_S A s.heap s.heap [] := va_S.rf
  have hl := lv_entry ([.ref h]) (n := 1) (Nat.le_of_ble_eq_true rfl)
  rw [lg_entry_eq]
  generalize (lg_sl ([.ref h]) ++ List.replicate (1 - (lg_sl ([.ref h])).length) Slot.unset).toArray = ls at hl ⊢
  have hl : lv_has ls 1 [(0, .ref h)] := hl
  refine lv_aload_n hx hb dX1_init_0 rfl (lv_at hl 0 rfl) ?_
  refine W.objInit hx hb hown (hts (.methodLink RX1 1 objectInit) (by decide +kernel)) (hts (.instanceMethod objectInit) (by decide +kernel)) (hts _ (List.mem_cons_of_mem _ (List.mem_append_left _ (List.mem_of_getElem? (i := 2) rfl)))) rfl (by rw [hml]; exact hl.1) rfl dX1_init_1 (Nat.le_of_ble_eq_true rfl) (Nat.le_of_ble_eq_true rfl) ?_
  refine W.eq (g2 := F0 m 4 ls []) rfl ?_
  refine lv_aload_n hx hb dX1_init_4 rfl (lv_at hl 0 rfl) ?_
  refine lv_sipush (v := 200) hx hb dX1_init_5 (by decide) ?_
  refine va_newq (n := 200) (N' := 200) hx hb hown (hts (.classLink RX1 9 RX0) (by decide +kernel)) hAO hK hP hD hS hA (by decide) (by decide) (by decide) (Nat.le_of_ble_eq_true rfl) (Nat.le_of_ble_eq_true rfl) dX1_init_8 (fun qT cT H hK hP hD hS => ?_)
  have hP : va_P (dC, dI) vwCl [(h, .inr (1, [.null, .int 0, .null, .null, .null, .null, .int 0, .int 0, .int 0, .int 0, .int 0, .int 0])), (qT, .inl (cT, 200, .inr (.inr (.inr (.inr (fun _ => none))))))] H := hP
  have hD : va_D A [(h, .inr (1, [.null, .int 0, .null, .null, .null, .null, .int 0, .int 0, .int 0, .int 0, .int 0, .int 0])), (qT, .inl (cT, 200, .inr (.inr (.inr (.inr (fun _ => none))))))] := hD
  have hK : va_K (dC, dI) vwCl [(cT, .object "MainframeDesk$Thing")] s := hK
  refine va_putF (D := (dC, dI)) (ci := 1) (v := .ref qT) (ty := .array (.object "MainframeDesk$Thing")) (C := RX1) (T := TX1) (N := 12) hx hb hts iwX1_init tyX1 tyX1_ok nmX1 hown hK hP hD hS 0 rfl rfl 0 (by decide) (hts (.fieldLink RX1 11 "MainframeDesk" "things" "[LMainframeDesk$Thing;") (by decide +kernel)) (fun _ h9 => h9) rfl hin rfl (by decide +kernel) rfl rfl (Nat.le_of_ble_eq_true rfl) dX1_init_11 (fun H locs hP hD hS => ?_)
  have hP : va_P (dC, dI) vwCl [(h, .inr (1, [.ref qT, .int 0, .null, .null, .null, .null, .int 0, .int 0, .int 0, .int 0, .int 0, .int 0])), (qT, .inl (cT, 200, .inr (.inr (.inr (.inr (fun _ => none))))))] H := hP
  have hD : va_D A [(h, .inr (1, [.ref qT, .int 0, .null, .null, .null, .null, .int 0, .int 0, .int 0, .int 0, .int 0, .int 0])), (qT, .inl (cT, 200, .inr (.inr (.inr (.inr (fun _ => none))))))] := hD
  refine lv_aload_n hx hb dX1_init_14 rfl (lv_at hl 0 rfl) ?_
  refine lv_iconst (v := 0) hx hb dX1_init_15 (by decide) ?_
  refine va_put (D := (dC, dI)) (ci := 1) (v := .int 0) (ty := .int) (C := RX1) (T := TX1) (N := 12) hx hb hts iwX1_init tyX1 tyX1_ok nmX1 hown hK hP hD hS 0 rfl rfl 1 (by decide) (hts (.fieldLink RX1 15 "MainframeDesk" "made" "I") (by decide +kernel)) (fun _ h9 => h9) rfl (by decide +kernel) rfl rfl (Nat.le_of_ble_eq_true rfl) dX1_init_16 (fun H locs hP hD hS => ?_)
  have hP : va_P (dC, dI) vwCl [(h, .inr (1, [.ref qT, .int 0, .null, .null, .null, .null, .int 0, .int 0, .int 0, .int 0, .int 0, .int 0])), (qT, .inl (cT, 200, .inr (.inr (.inr (.inr (fun _ => none))))))] H := hP
  have hD : va_D A [(h, .inr (1, [.ref qT, .int 0, .null, .null, .null, .null, .int 0, .int 0, .int 0, .int 0, .int 0, .int 0])), (qT, .inl (cT, 200, .inr (.inr (.inr (.inr (fun _ => none))))))] := hD
  refine lv_aload_n hx hb dX1_init_19 rfl (lv_at hl 0 rfl) ?_
  refine lv_iconst (v := 4) hx hb dX1_init_20 (by decide) ?_
  refine va_newa (atype := .int) (ty := .int) (a0 := (4, .inl (fun _ => 0))) (n := 4) (N' := 4) hx hb (hts (.arrayClass .int) (by decide +kernel)) rfl hK hP hD hS hA (fun _ => rfl) (by decide) (by decide) (by decide) (Nat.le_of_ble_eq_true rfl) (Nat.le_of_ble_eq_true rfl) dX1_init_21 (fun qC cC H hK hP hD hS => ?_)
  have hP : va_P (dC, dI) vwCl [(h, .inr (1, [.ref qT, .int 0, .null, .null, .null, .null, .int 0, .int 0, .int 0, .int 0, .int 0, .int 0])), (qT, .inl (cT, 200, .inr (.inr (.inr (.inr (fun _ => none)))))), (qC, .inl (cC, (4, .inl (fun _ => 0))))] H := hP
  have hD : va_D A [(h, .inr (1, [.ref qT, .int 0, .null, .null, .null, .null, .int 0, .int 0, .int 0, .int 0, .int 0, .int 0])), (qT, .inl (cT, 200, .inr (.inr (.inr (.inr (fun _ => none)))))), (qC, .inl (cC, (4, .inl (fun _ => 0))))] := hD
  have hK : va_K (dC, dI) vwCl [(cT, .object "MainframeDesk$Thing"), (cC, .int)] s := hK
  refine va_putF (D := (dC, dI)) (ci := 1) (v := .ref qC) (ty := .array .int) (C := RX1) (T := TX1) (N := 12) hx hb hts iwX1_init tyX1 tyX1_ok nmX1 hown hK hP hD hS 0 rfl rfl 2 (by decide) (hts (.fieldLink RX1 19 "MainframeDesk" "rowCounts" "[I") (by decide +kernel)) (fun _ h9 => h9) rfl hin rfl (by decide +kernel) rfl rfl (Nat.le_of_ble_eq_true rfl) dX1_init_23 (fun H locs hP hD hS => ?_)
  have hP : va_P (dC, dI) vwCl [(h, .inr (1, [.ref qT, .int 0, .ref qC, .null, .null, .null, .int 0, .int 0, .int 0, .int 0, .int 0, .int 0])), (qT, .inl (cT, 200, .inr (.inr (.inr (.inr (fun _ => none)))))), (qC, .inl (cC, (4, .inl (fun _ => 0))))] H := hP
  have hD : va_D A [(h, .inr (1, [.ref qT, .int 0, .ref qC, .null, .null, .null, .int 0, .int 0, .int 0, .int 0, .int 0, .int 0])), (qT, .inl (cT, 200, .inr (.inr (.inr (.inr (fun _ => none)))))), (qC, .inl (cC, (4, .inl (fun _ => 0))))] := hD
  refine lv_aload_n hx hb dX1_init_26 rfl (lv_at hl 0 rfl) ?_
  refine lv_iconst (v := 4) hx hb dX1_init_27 (by decide) ?_
  refine va_newa (atype := .long) (ty := .long) (a0 := (4, .inr (.inl (fun _ => 0)))) (n := 4) (N' := 4) hx hb (hts (.arrayClass .long) (by decide +kernel)) rfl hK hP hD hS hA (fun _ => rfl) (by decide) (by decide) (by decide) (Nat.le_of_ble_eq_true rfl) (Nat.le_of_ble_eq_true rfl) dX1_init_28 (fun qS cS H hK hP hD hS => ?_)
  have hP : va_P (dC, dI) vwCl [(h, .inr (1, [.ref qT, .int 0, .ref qC, .null, .null, .null, .int 0, .int 0, .int 0, .int 0, .int 0, .int 0])), (qT, .inl (cT, 200, .inr (.inr (.inr (.inr (fun _ => none)))))), (qC, .inl (cC, (4, .inl (fun _ => 0)))), (qS, .inl (cS, (4, .inr (.inl (fun _ => 0)))))] H := hP
  have hD : va_D A [(h, .inr (1, [.ref qT, .int 0, .ref qC, .null, .null, .null, .int 0, .int 0, .int 0, .int 0, .int 0, .int 0])), (qT, .inl (cT, 200, .inr (.inr (.inr (.inr (fun _ => none)))))), (qC, .inl (cC, (4, .inl (fun _ => 0)))), (qS, .inl (cS, (4, .inr (.inl (fun _ => 0)))))] := hD
  have hK : va_K (dC, dI) vwCl [(cT, .object "MainframeDesk$Thing"), (cC, .int), (cS, .long)] s := hK
  refine va_putF (D := (dC, dI)) (ci := 1) (v := .ref qS) (ty := .array .long) (C := RX1) (T := TX1) (N := 12) hx hb hts iwX1_init tyX1 tyX1_ok nmX1 hown hK hP hD hS 0 rfl rfl 3 (by decide) (hts (.fieldLink RX1 23 "MainframeDesk" "rowSums" "[J") (by decide +kernel)) (fun _ h9 => h9) rfl hin rfl (by decide +kernel) rfl rfl (Nat.le_of_ble_eq_true rfl) dX1_init_30 (fun H locs hP hD hS => ?_)
  have hP : va_P (dC, dI) vwCl [(h, .inr (1, [.ref qT, .int 0, .ref qC, .ref qS, .null, .null, .int 0, .int 0, .int 0, .int 0, .int 0, .int 0])), (qT, .inl (cT, 200, .inr (.inr (.inr (.inr (fun _ => none)))))), (qC, .inl (cC, (4, .inl (fun _ => 0)))), (qS, .inl (cS, (4, .inr (.inl (fun _ => 0)))))] H := hP
  have hD : va_D A [(h, .inr (1, [.ref qT, .int 0, .ref qC, .ref qS, .null, .null, .int 0, .int 0, .int 0, .int 0, .int 0, .int 0])), (qT, .inl (cT, 200, .inr (.inr (.inr (.inr (fun _ => none)))))), (qC, .inl (cC, (4, .inl (fun _ => 0)))), (qS, .inl (cS, (4, .inr (.inl (fun _ => 0)))))] := hD
  refine lv_aload_n hx hb dX1_init_33 rfl (lv_at hl 0 rfl) ?_
  refine lv_bipush (v := 32) hx hb dX1_init_34 (by decide) ?_
  refine va_newa (atype := .long) (ty := .long) (a0 := (32, .inr (.inl (fun _ => 0)))) (n := 32) (N' := 32) hx hb (hts (.arrayClass .long) (by decide +kernel)) rfl hK hP hD hS hA (fun _ => rfl) (by decide) (by decide) (by decide) (Nat.le_of_ble_eq_true rfl) (Nat.le_of_ble_eq_true rfl) dX1_init_36 (fun qA cA H hK hP hD hS => ?_)
  have hP : va_P (dC, dI) vwCl [(h, .inr (1, [.ref qT, .int 0, .ref qC, .ref qS, .null, .null, .int 0, .int 0, .int 0, .int 0, .int 0, .int 0])), (qT, .inl (cT, 200, .inr (.inr (.inr (.inr (fun _ => none)))))), (qC, .inl (cC, (4, .inl (fun _ => 0)))), (qS, .inl (cS, (4, .inr (.inl (fun _ => 0))))), (qA, .inl (cA, (32, .inr (.inl (fun _ => 0)))))] H := hP
  have hD : va_D A [(h, .inr (1, [.ref qT, .int 0, .ref qC, .ref qS, .null, .null, .int 0, .int 0, .int 0, .int 0, .int 0, .int 0])), (qT, .inl (cT, 200, .inr (.inr (.inr (.inr (fun _ => none)))))), (qC, .inl (cC, (4, .inl (fun _ => 0)))), (qS, .inl (cS, (4, .inr (.inl (fun _ => 0))))), (qA, .inl (cA, (32, .inr (.inl (fun _ => 0)))))] := hD
  have hK : va_K (dC, dI) vwCl [(cT, .object "MainframeDesk$Thing"), (cC, .int), (cS, .long), (cA, .long)] s := hK
  refine va_putF (D := (dC, dI)) (ci := 1) (v := .ref qA) (ty := .array .long) (C := RX1) (T := TX1) (N := 12) hx hb hts iwX1_init tyX1 tyX1_ok nmX1 hown hK hP hD hS 0 rfl rfl 4 (by decide) (hts (.fieldLink RX1 27 "MainframeDesk" "answers" "[J") (by decide +kernel)) (fun _ h9 => h9) rfl hin rfl (by decide +kernel) rfl rfl (Nat.le_of_ble_eq_true rfl) dX1_init_38 (fun H locs hP hD hS => ?_)
  have hP : va_P (dC, dI) vwCl [(h, .inr (1, [.ref qT, .int 0, .ref qC, .ref qS, .ref qA, .null, .int 0, .int 0, .int 0, .int 0, .int 0, .int 0])), (qT, .inl (cT, 200, .inr (.inr (.inr (.inr (fun _ => none)))))), (qC, .inl (cC, (4, .inl (fun _ => 0)))), (qS, .inl (cS, (4, .inr (.inl (fun _ => 0))))), (qA, .inl (cA, (32, .inr (.inl (fun _ => 0)))))] H := hP
  have hD : va_D A [(h, .inr (1, [.ref qT, .int 0, .ref qC, .ref qS, .ref qA, .null, .int 0, .int 0, .int 0, .int 0, .int 0, .int 0])), (qT, .inl (cT, 200, .inr (.inr (.inr (.inr (fun _ => none)))))), (qC, .inl (cC, (4, .inl (fun _ => 0)))), (qS, .inl (cS, (4, .inr (.inl (fun _ => 0))))), (qA, .inl (cA, (32, .inr (.inl (fun _ => 0)))))] := hD
  refine lv_aload_n hx hb dX1_init_41 rfl (lv_at hl 0 rfl) ?_
  refine lv_bipush (v := 32) hx hb dX1_init_42 (by decide) ?_
  refine va_newa (atype := .int) (ty := .int) (a0 := (32, .inl (fun _ => 0))) (n := 32) (N' := 32) hx hb (hts (.arrayClass .int) (by decide +kernel)) rfl hK hP hD hS hA (fun _ => rfl) (by decide) (by decide) (by decide) (Nat.le_of_ble_eq_true rfl) (Nat.le_of_ble_eq_true rfl) dX1_init_44 (fun qF cF H hK hP hD hS => ?_)
  have hP : va_P (dC, dI) vwCl [(h, .inr (1, [.ref qT, .int 0, .ref qC, .ref qS, .ref qA, .null, .int 0, .int 0, .int 0, .int 0, .int 0, .int 0])), (qT, .inl (cT, 200, .inr (.inr (.inr (.inr (fun _ => none)))))), (qC, .inl (cC, (4, .inl (fun _ => 0)))), (qS, .inl (cS, (4, .inr (.inl (fun _ => 0))))), (qA, .inl (cA, (32, .inr (.inl (fun _ => 0))))), (qF, .inl (cF, (32, .inl (fun _ => 0))))] H := hP
  have hD : va_D A [(h, .inr (1, [.ref qT, .int 0, .ref qC, .ref qS, .ref qA, .null, .int 0, .int 0, .int 0, .int 0, .int 0, .int 0])), (qT, .inl (cT, 200, .inr (.inr (.inr (.inr (fun _ => none)))))), (qC, .inl (cC, (4, .inl (fun _ => 0)))), (qS, .inl (cS, (4, .inr (.inl (fun _ => 0))))), (qA, .inl (cA, (32, .inr (.inl (fun _ => 0))))), (qF, .inl (cF, (32, .inl (fun _ => 0))))] := hD
  have hK : va_K (dC, dI) vwCl [(cT, .object "MainframeDesk$Thing"), (cC, .int), (cS, .long), (cA, .long), (cF, .int)] s := hK
  refine va_putF (D := (dC, dI)) (ci := 1) (v := .ref qF) (ty := .array .int) (C := RX1) (T := TX1) (N := 12) hx hb hts iwX1_init tyX1 tyX1_ok nmX1 hown hK hP hD hS 0 rfl rfl 5 (by decide) (hts (.fieldLink RX1 30 "MainframeDesk" "failures" "[I") (by decide +kernel)) (fun _ h9 => h9) rfl hin rfl (by decide +kernel) rfl rfl (Nat.le_of_ble_eq_true rfl) dX1_init_46 (fun H locs hP hD hS => ?_)
  have hP : va_P (dC, dI) vwCl [(h, .inr (1, [.ref qT, .int 0, .ref qC, .ref qS, .ref qA, .ref qF, .int 0, .int 0, .int 0, .int 0, .int 0, .int 0])), (qT, .inl (cT, 200, .inr (.inr (.inr (.inr (fun _ => none)))))), (qC, .inl (cC, (4, .inl (fun _ => 0)))), (qS, .inl (cS, (4, .inr (.inl (fun _ => 0))))), (qA, .inl (cA, (32, .inr (.inl (fun _ => 0))))), (qF, .inl (cF, (32, .inl (fun _ => 0))))] H := hP
  have hD : va_D A [(h, .inr (1, [.ref qT, .int 0, .ref qC, .ref qS, .ref qA, .ref qF, .int 0, .int 0, .int 0, .int 0, .int 0, .int 0])), (qT, .inl (cT, 200, .inr (.inr (.inr (.inr (fun _ => none)))))), (qC, .inl (cC, (4, .inl (fun _ => 0)))), (qS, .inl (cS, (4, .inr (.inl (fun _ => 0))))), (qA, .inl (cA, (32, .inr (.inl (fun _ => 0))))), (qF, .inl (cF, (32, .inl (fun _ => 0))))] := hD
  refine lv_aload_n hx hb dX1_init_49 rfl (lv_at hl 0 rfl) ?_
  refine lv_iconst (v := 0) hx hb dX1_init_50 (by decide) ?_
  refine va_put (D := (dC, dI)) (ci := 1) (v := .int 0) (ty := .int) (C := RX1) (T := TX1) (N := 12) hx hb hts iwX1_init tyX1 tyX1_ok nmX1 hown hK hP hD hS 0 rfl rfl 6 (by decide) (hts (.fieldLink RX1 33 "MainframeDesk" "latestFailure" "I") (by decide +kernel)) (fun _ h9 => h9) rfl (by decide +kernel) rfl rfl (Nat.le_of_ble_eq_true rfl) dX1_init_51 (fun H locs hP hD hS => ?_)
  have hP : va_P (dC, dI) vwCl [(h, .inr (1, [.ref qT, .int 0, .ref qC, .ref qS, .ref qA, .ref qF, .int 0, .int 0, .int 0, .int 0, .int 0, .int 0])), (qT, .inl (cT, 200, .inr (.inr (.inr (.inr (fun _ => none)))))), (qC, .inl (cC, (4, .inl (fun _ => 0)))), (qS, .inl (cS, (4, .inr (.inl (fun _ => 0))))), (qA, .inl (cA, (32, .inr (.inl (fun _ => 0))))), (qF, .inl (cF, (32, .inl (fun _ => 0))))] H := hP
  have hD : va_D A [(h, .inr (1, [.ref qT, .int 0, .ref qC, .ref qS, .ref qA, .ref qF, .int 0, .int 0, .int 0, .int 0, .int 0, .int 0])), (qT, .inl (cT, 200, .inr (.inr (.inr (.inr (fun _ => none)))))), (qC, .inl (cC, (4, .inl (fun _ => 0)))), (qS, .inl (cS, (4, .inr (.inl (fun _ => 0))))), (qA, .inl (cA, (32, .inr (.inl (fun _ => 0))))), (qF, .inl (cF, (32, .inl (fun _ => 0))))] := hD
  refine lv_aload_n hx hb dX1_init_54 rfl (lv_at hl 0 rfl) ?_
  refine lv_iconst (v := 0) hx hb dX1_init_55 (by decide) ?_
  refine va_put (D := (dC, dI)) (ci := 1) (v := .int 0) (ty := .int) (C := RX1) (T := TX1) (N := 12) hx hb hts iwX1_init tyX1 tyX1_ok nmX1 hown hK hP hD hS 0 rfl rfl 7 (by decide) (hts (.fieldLink RX1 36 "MainframeDesk" "latestFailedCall" "I") (by decide +kernel)) (fun _ h9 => h9) rfl (by decide +kernel) rfl rfl (Nat.le_of_ble_eq_true rfl) dX1_init_56 (fun H locs hP hD hS => ?_)
  have hP : va_P (dC, dI) vwCl [(h, .inr (1, [.ref qT, .int 0, .ref qC, .ref qS, .ref qA, .ref qF, .int 0, .int 0, .int 0, .int 0, .int 0, .int 0])), (qT, .inl (cT, 200, .inr (.inr (.inr (.inr (fun _ => none)))))), (qC, .inl (cC, (4, .inl (fun _ => 0)))), (qS, .inl (cS, (4, .inr (.inl (fun _ => 0))))), (qA, .inl (cA, (32, .inr (.inl (fun _ => 0))))), (qF, .inl (cF, (32, .inl (fun _ => 0))))] H := hP
  have hD : va_D A [(h, .inr (1, [.ref qT, .int 0, .ref qC, .ref qS, .ref qA, .ref qF, .int 0, .int 0, .int 0, .int 0, .int 0, .int 0])), (qT, .inl (cT, 200, .inr (.inr (.inr (.inr (fun _ => none)))))), (qC, .inl (cC, (4, .inl (fun _ => 0)))), (qS, .inl (cS, (4, .inr (.inl (fun _ => 0))))), (qA, .inl (cA, (32, .inr (.inl (fun _ => 0))))), (qF, .inl (cF, (32, .inl (fun _ => 0))))] := hD
  refine lv_aload_n hx hb dX1_init_59 rfl (lv_at hl 0 rfl) ?_
  refine lv_iconst (v := 0) hx hb dX1_init_60 (by decide) ?_
  refine va_put (D := (dC, dI)) (ci := 1) (v := .int 0) (ty := .int) (C := RX1) (T := TX1) (N := 12) hx hb hts iwX1_init tyX1 tyX1_ok nmX1 hown hK hP hD hS 0 rfl rfl 8 (by decide) (hts (.fieldLink RX1 39 "MainframeDesk" "latestEndedThing" "I") (by decide +kernel)) (fun _ h9 => h9) rfl (by decide +kernel) rfl rfl (Nat.le_of_ble_eq_true rfl) dX1_init_61 (fun H locs hP hD hS => ?_)
  have hP : va_P (dC, dI) vwCl [(h, .inr (1, [.ref qT, .int 0, .ref qC, .ref qS, .ref qA, .ref qF, .int 0, .int 0, .int 0, .int 0, .int 0, .int 0])), (qT, .inl (cT, 200, .inr (.inr (.inr (.inr (fun _ => none)))))), (qC, .inl (cC, (4, .inl (fun _ => 0)))), (qS, .inl (cS, (4, .inr (.inl (fun _ => 0))))), (qA, .inl (cA, (32, .inr (.inl (fun _ => 0))))), (qF, .inl (cF, (32, .inl (fun _ => 0))))] H := hP
  have hD : va_D A [(h, .inr (1, [.ref qT, .int 0, .ref qC, .ref qS, .ref qA, .ref qF, .int 0, .int 0, .int 0, .int 0, .int 0, .int 0])), (qT, .inl (cT, 200, .inr (.inr (.inr (.inr (fun _ => none)))))), (qC, .inl (cC, (4, .inl (fun _ => 0)))), (qS, .inl (cS, (4, .inr (.inl (fun _ => 0))))), (qA, .inl (cA, (32, .inr (.inl (fun _ => 0))))), (qF, .inl (cF, (32, .inl (fun _ => 0))))] := hD
  refine lv_aload_n hx hb dX1_init_64 rfl (lv_at hl 0 rfl) ?_
  refine lv_iconst (v := 0) hx hb dX1_init_65 (by decide) ?_
  refine va_put (D := (dC, dI)) (ci := 1) (v := .int 0) (ty := .int) (C := RX1) (T := TX1) (N := 12) hx hb hts iwX1_init tyX1 tyX1_ok nmX1 hown hK hP hD hS 0 rfl rfl 9 (by decide) (hts (.fieldLink RX1 42 "MainframeDesk" "failureCount" "I") (by decide +kernel)) (fun _ h9 => h9) rfl (by decide +kernel) rfl rfl (Nat.le_of_ble_eq_true rfl) dX1_init_66 (fun H locs hP hD hS => ?_)
  have hP : va_P (dC, dI) vwCl [(h, .inr (1, [.ref qT, .int 0, .ref qC, .ref qS, .ref qA, .ref qF, .int 0, .int 0, .int 0, .int 0, .int 0, .int 0])), (qT, .inl (cT, 200, .inr (.inr (.inr (.inr (fun _ => none)))))), (qC, .inl (cC, (4, .inl (fun _ => 0)))), (qS, .inl (cS, (4, .inr (.inl (fun _ => 0))))), (qA, .inl (cA, (32, .inr (.inl (fun _ => 0))))), (qF, .inl (cF, (32, .inl (fun _ => 0))))] H := hP
  have hD : va_D A [(h, .inr (1, [.ref qT, .int 0, .ref qC, .ref qS, .ref qA, .ref qF, .int 0, .int 0, .int 0, .int 0, .int 0, .int 0])), (qT, .inl (cT, 200, .inr (.inr (.inr (.inr (fun _ => none)))))), (qC, .inl (cC, (4, .inl (fun _ => 0)))), (qS, .inl (cS, (4, .inr (.inl (fun _ => 0))))), (qA, .inl (cA, (32, .inr (.inl (fun _ => 0))))), (qF, .inl (cF, (32, .inl (fun _ => 0))))] := hD
  refine lv_aload_n hx hb dX1_init_69 rfl (lv_at hl 0 rfl) ?_
  refine lv_iconst (v := 0) hx hb dX1_init_70 (by decide) ?_
  refine va_put (D := (dC, dI)) (ci := 1) (v := .int 0) (ty := .int) (C := RX1) (T := TX1) (N := 12) hx hb hts iwX1_init tyX1 tyX1_ok nmX1 hown hK hP hD hS 0 rfl rfl 10 (by decide) (hts (.fieldLink RX1 45 "MainframeDesk" "refusalCount" "I") (by decide +kernel)) (fun _ h9 => h9) rfl (by decide +kernel) rfl rfl (Nat.le_of_ble_eq_true rfl) dX1_init_71 (fun H locs hP hD hS => ?_)
  have hP : va_P (dC, dI) vwCl [(h, .inr (1, [.ref qT, .int 0, .ref qC, .ref qS, .ref qA, .ref qF, .int 0, .int 0, .int 0, .int 0, .int 0, .int 0])), (qT, .inl (cT, 200, .inr (.inr (.inr (.inr (fun _ => none)))))), (qC, .inl (cC, (4, .inl (fun _ => 0)))), (qS, .inl (cS, (4, .inr (.inl (fun _ => 0))))), (qA, .inl (cA, (32, .inr (.inl (fun _ => 0))))), (qF, .inl (cF, (32, .inl (fun _ => 0))))] H := hP
  have hD : va_D A [(h, .inr (1, [.ref qT, .int 0, .ref qC, .ref qS, .ref qA, .ref qF, .int 0, .int 0, .int 0, .int 0, .int 0, .int 0])), (qT, .inl (cT, 200, .inr (.inr (.inr (.inr (fun _ => none)))))), (qC, .inl (cC, (4, .inl (fun _ => 0)))), (qS, .inl (cS, (4, .inr (.inl (fun _ => 0))))), (qA, .inl (cA, (32, .inr (.inl (fun _ => 0))))), (qF, .inl (cF, (32, .inl (fun _ => 0))))] := hD
  refine lv_aload_n hx hb dX1_init_74 rfl (lv_at hl 0 rfl) ?_
  refine lv_iconst (v := 0) hx hb dX1_init_75 (by decide) ?_
  refine va_put (D := (dC, dI)) (ci := 1) (v := .int 0) (ty := .int) (C := RX1) (T := TX1) (N := 12) hx hb hts iwX1_init tyX1 tyX1_ok nmX1 hown hK hP hD hS 0 rfl rfl 11 (by decide) (hts (.fieldLink RX1 48 "MainframeDesk" "answerCount" "I") (by decide +kernel)) (fun _ h9 => h9) rfl (by decide +kernel) rfl rfl (Nat.le_of_ble_eq_true rfl) dX1_init_76 (fun H locs hP hD hS => ?_)
  have hP : va_P (dC, dI) vwCl [(h, .inr (1, [.ref qT, .int 0, .ref qC, .ref qS, .ref qA, .ref qF, .int 0, .int 0, .int 0, .int 0, .int 0, .int 0])), (qT, .inl (cT, 200, .inr (.inr (.inr (.inr (fun _ => none)))))), (qC, .inl (cC, (4, .inl (fun _ => 0)))), (qS, .inl (cS, (4, .inr (.inl (fun _ => 0))))), (qA, .inl (cA, (32, .inr (.inl (fun _ => 0))))), (qF, .inl (cF, (32, .inl (fun _ => 0))))] H := hP
  have hD : va_D A [(h, .inr (1, [.ref qT, .int 0, .ref qC, .ref qS, .ref qA, .ref qF, .int 0, .int 0, .int 0, .int 0, .int 0, .int 0])), (qT, .inl (cT, 200, .inr (.inr (.inr (.inr (fun _ => none)))))), (qC, .inl (cC, (4, .inl (fun _ => 0)))), (qS, .inl (cS, (4, .inr (.inl (fun _ => 0))))), (qA, .inl (cA, (32, .inr (.inl (fun _ => 0))))), (qF, .inl (cF, (32, .inl (fun _ => 0))))] := hD
  refine W.widen (k := 5) (n := 272) (Nat.le_of_ble_eq_true rfl) (Nat.le_of_ble_eq_true rfl) ?_
  have e0 : dW h qT qC qS qA qF cT cC cS cA cF (fun _ => 0) 0 (fun _ => 0) (fun _ => 0) (fun _ => 0) (fun _ => 0) (fun _ => 0) (fun _ => 0) (fun _ => 0) 0 0 0 0 0 0 = [(h, .inr (1, [.ref qT, .int 0, .ref qC, .ref qS, .ref qA, .ref qF, .int 0, .int 0, .int 0, .int 0, .int 0, .int 0])), (qT, .inl (cT, 200, .inr (.inr (.inr (.inr (fun _ => none)))))), (qC, .inl (cC, (4, .inl (fun _ => 0)))), (qS, .inl (cS, (4, .inr (.inl (fun _ => 0))))), (qA, .inl (cA, (32, .inr (.inl (fun _ => 0))))), (qF, .inl (cF, (32, .inl (fun _ => 0))))] := by unfold dW dX; rw [dTh_0]; rfl
  exact W.vret hx hb hr (fun t ht hW => ⟨⟨(), rfl, trivial, qT, qC, qS, qA, qF, cT, cC, cS, cA, cF, by rw [ht, e0]; exact hP, va_K.moved hW.alike hK, by rw [e0]; exact hD⟩, hS.F ht⟩) hS.2.2 dX1_init_79
end
section
theorem iwX1_told_1 : ∀ w ∈ wsX10, w ∈ wsX1_told := fun _ h => List.mem_cons_of_mem _ (List.mem_append_right _ h)
set_option maxHeartbeats 1000000 in
set_option maxRecDepth 100000 in
/-- told(x) -/
theorem c_told (l : Launch) (dC : Nat → ClassId) (dI : Nat → Nat → Nat) (h qT qC qS qA qF : Nat) (cT cC cS cA cF : ClassId) (ad : Nat → Nat) (n : Nat) (kd ok cn rc : Nat → Int32) (rs an : Nat → Int64) (fl : Nat → Int32) (t0 t1 t2 t3 t4 t5 : Int32) (x : Int32) : Met l yX1_told wsX1_told ({ frames := 0, cells := 0, slots := 0, locals := 0 }) (va_Pc [.ref h, .int x] (dP dC dI [(cT, .object "MainframeDesk$Thing"), (cC, .int), (cS, .long), (cA, .long), (cF, .int)] (dW h qT qC qS qA qF cT cC cS cA cF ad n kd ok cn rc rs an fl t0 t1 t2 t3 t4 t5))) (vp_Si (fun r => r = mTold (n, kd, ok, cn, rc, rs, an, fl, t0, t1, t2, t3, t4, t5) x)) 0 0 (fun _ => False) := by
  refine Met.ofW (cc := cX1_told) (maxL := 2) (ret := (some .int)) (by decide) rfl ?_
  intro p e s m args below meth c s₁ B hml hv
  obtain ⟨rfl, hP, hK, hN⟩ := hv
  have hx := B.exec
  have hb := B.bytes
  have hr := B.returns
  have hts := atoms_spec (ws := wsX1_told) B.pre
  have hown : s.vm.findClass RX1 = some m.cls := findClass_of_methodNamed B.named
  have hlocks := B.notSynchronized
  have hl := lv_entry ([.ref h, .int x]) (n := 2) (Nat.le_of_ble_eq_true rfl)
  rw [lg_entry_eq]
  generalize (lg_sl ([.ref h, .int x]) ++ List.replicate (2 - (lg_sl ([.ref h, .int x])).length) Slot.unset).toArray = ls at hl ⊢
  have hl : lv_has ls 2 [(0, .ref h), (1, .int x)] := hl
  refine lv_iload_n hx hb dX1_told_0 rfl (lv_at hl 1 rfl) ?_
  by_cases hs_87 : x = 0
  · refine lv_tableIn (off := 39) (tgt := 40) hx hb dX1_told_1 (by rw [hs_87]; decide) (by rw [hs_87]; decide) (by rw [hs_87]; rfl) (by decide) ?_
    refine lv_aload_n hx hb dX1_told_40 rfl (lv_at hl 0 rfl) ?_
    refine va_get (D := (dC, dI)) (ci := 1) (v := .int t0) (C := RX1) (T := TX1) (N := 12) hx hb hts iwX1_told_1 hown hK hP 0 rfl rfl 6 (by decide) (hts (.fieldLink RX1 33 "MainframeDesk" "latestFailure" "I") (by decide +kernel)) (fun _ h9 => h9) rfl dX1_told_41 ?_
    exact W.iret (v := t0) hx hb hr (fun t ht hW => ⟨_, rfl, (by unfold mTold; dsimp only; rw [if_pos hs_87]), ht⟩) (fun _ h => absurd h List.not_mem_nil) dX1_told_44
  · by_cases hs_88 : x = 1
    · refine lv_tableIn (off := 44) (tgt := 45) hx hb dX1_told_1 (by rw [hs_88]; decide) (by rw [hs_88]; decide) (by rw [hs_88]; rfl) (by decide) ?_
      refine lv_aload_n hx hb dX1_told_45 rfl (lv_at hl 0 rfl) ?_
      refine va_get (D := (dC, dI)) (ci := 1) (v := .int t1) (C := RX1) (T := TX1) (N := 12) hx hb hts iwX1_told_1 hown hK hP 0 rfl rfl 7 (by decide) (hts (.fieldLink RX1 36 "MainframeDesk" "latestFailedCall" "I") (by decide +kernel)) (fun _ h9 => h9) rfl dX1_told_46 ?_
      exact W.iret (v := t1) hx hb hr (fun t ht hW => ⟨_, rfl, (by unfold mTold; dsimp only; rw [if_neg hs_87, if_pos hs_88]), ht⟩) (fun _ h => absurd h List.not_mem_nil) dX1_told_49
    · by_cases hs_89 : x = 2
      · refine lv_tableIn (off := 49) (tgt := 50) hx hb dX1_told_1 (by rw [hs_89]; decide) (by rw [hs_89]; decide) (by rw [hs_89]; rfl) (by decide) ?_
        refine lv_aload_n hx hb dX1_told_50 rfl (lv_at hl 0 rfl) ?_
        refine va_get (D := (dC, dI)) (ci := 1) (v := .int t2) (C := RX1) (T := TX1) (N := 12) hx hb hts iwX1_told_1 hown hK hP 0 rfl rfl 8 (by decide) (hts (.fieldLink RX1 39 "MainframeDesk" "latestEndedThing" "I") (by decide +kernel)) (fun _ h9 => h9) rfl dX1_told_51 ?_
        exact W.iret (v := t2) hx hb hr (fun t ht hW => ⟨_, rfl, (by unfold mTold; dsimp only; rw [if_neg hs_87, if_neg hs_88, if_pos hs_89]), ht⟩) (fun _ h => absurd h List.not_mem_nil) dX1_told_54
      · by_cases hs_90 : x = 3
        · refine lv_tableIn (off := 54) (tgt := 55) hx hb dX1_told_1 (by rw [hs_90]; decide) (by rw [hs_90]; decide) (by rw [hs_90]; rfl) (by decide) ?_
          refine lv_aload_n hx hb dX1_told_55 rfl (lv_at hl 0 rfl) ?_
          refine va_get (D := (dC, dI)) (ci := 1) (v := .int t3) (C := RX1) (T := TX1) (N := 12) hx hb hts iwX1_told_1 hown hK hP 0 rfl rfl 9 (by decide) (hts (.fieldLink RX1 42 "MainframeDesk" "failureCount" "I") (by decide +kernel)) (fun _ h9 => h9) rfl dX1_told_56 ?_
          exact W.iret (v := t3) hx hb hr (fun t ht hW => ⟨_, rfl, (by unfold mTold; dsimp only; rw [if_neg hs_87, if_neg hs_88, if_neg hs_89, if_pos hs_90]), ht⟩) (fun _ h => absurd h List.not_mem_nil) dX1_told_59
        · by_cases hs_91 : x = 4
          · refine lv_tableIn (off := 59) (tgt := 60) hx hb dX1_told_1 (by rw [hs_91]; decide) (by rw [hs_91]; decide) (by rw [hs_91]; rfl) (by decide) ?_
            refine lv_aload_n hx hb dX1_told_60 rfl (lv_at hl 0 rfl) ?_
            refine va_get (D := (dC, dI)) (ci := 1) (v := .int t4) (C := RX1) (T := TX1) (N := 12) hx hb hts iwX1_told_1 hown hK hP 0 rfl rfl 10 (by decide) (hts (.fieldLink RX1 45 "MainframeDesk" "refusalCount" "I") (by decide +kernel)) (fun _ h9 => h9) rfl dX1_told_61 ?_
            exact W.iret (v := t4) hx hb hr (fun t ht hW => ⟨_, rfl, (by unfold mTold; dsimp only; rw [if_neg hs_87, if_neg hs_88, if_neg hs_89, if_neg hs_90, if_pos hs_91]), ht⟩) (fun _ h => absurd h List.not_mem_nil) dX1_told_64
          · by_cases hs_92 : x = 5
            · refine lv_tableIn (off := 64) (tgt := 65) hx hb dX1_told_1 (by rw [hs_92]; decide) (by rw [hs_92]; decide) (by rw [hs_92]; rfl) (by decide) ?_
              refine lv_aload_n hx hb dX1_told_65 rfl (lv_at hl 0 rfl) ?_
              refine va_get (D := (dC, dI)) (ci := 1) (v := .int t5) (C := RX1) (T := TX1) (N := 12) hx hb hts iwX1_told_1 hown hK hP 0 rfl rfl 11 (by decide) (hts (.fieldLink RX1 48 "MainframeDesk" "answerCount" "I") (by decide +kernel)) (fun _ h9 => h9) rfl dX1_told_66 ?_
              exact W.iret (v := t5) hx hb hr (fun t ht hW => ⟨_, rfl, (by unfold mTold; dsimp only; rw [if_neg hs_87, if_neg hs_88, if_neg hs_89, if_neg hs_90, if_neg hs_91, if_pos hs_92]), ht⟩) (fun _ h => absurd h List.not_mem_nil) dX1_told_69
            · have q0 : ¬ x.toInt = 0 := lv_neT hs_87 (by decide)
              have q1 : ¬ x.toInt = 1 := lv_neT hs_88 (by decide)
              have q2 : ¬ x.toInt = 2 := lv_neT hs_89 (by decide)
              have q3 : ¬ x.toInt = 3 := lv_neT hs_90 (by decide)
              have q4 : ¬ x.toInt = 4 := lv_neT hs_91 (by decide)
              have q5 : ¬ x.toInt = 5 := lv_neT hs_92 (by decide)
              refine lv_tableOut (tgt := 70) hx hb dX1_told_1 (by omega) (by decide) ?_
              refine lv_iconst (v := (-1)) hx hb dX1_told_70 (by decide) ?_
              exact W.iret (v := (-1)) hx hb hr (fun t ht hW => ⟨_, rfl, (by unfold mTold; dsimp only; rw [if_neg hs_87, if_neg hs_88, if_neg hs_89, if_neg hs_90, if_neg hs_91, if_neg hs_92]), ht⟩) (fun _ h => absurd h List.not_mem_nil) dX1_told_71
theorem iwX1_numbers_1 : ∀ w ∈ wsX10, w ∈ wsX1_numbers := fun _ h => List.mem_cons_of_mem _ (List.mem_append_left _ (List.mem_append_right _ h))
theorem iwX1_numbers_0 : ∀ w ∈ wsX00, w ∈ wsX1_numbers := fun _ h => List.mem_cons_of_mem _ (List.mem_append_right _ h)
set_option maxHeartbeats 1000000 in
set_option maxRecDepth 100000 in
/-- numbers(k) -/
theorem c_numbers (l : Launch) (dC : Nat → ClassId) (dI : Nat → Nat → Nat) (h qT qC qS qA qF : Nat) (cT cC cS cA cF : ClassId) (ad : Nat → Nat) (n : Nat) (kd ok cn rc : Nat → Int32) (rs an : Nat → Int64) (fl : Nat → Int32) (t0 t1 t2 t3 t4 t5 : Int32) (hn : n ≤ 200) (k : Int32) : Met l yX1_numbers wsX1_numbers ({ frames := 1, cells := 0, slots := 0, locals := 21 }) (va_Pc [.ref h, .int k] (dP dC dI [(cT, .object "MainframeDesk$Thing"), (cC, .int), (cS, .long), (cA, .long), (cF, .int)] (dW h qT qC qS qA qF cT cC cS cA cF ad n kd ok cn rc rs an fl t0 t1 t2 t3 t4 t5))) (vp_Si (fun r => r = mNumbers (n, kd, ok, cn, rc, rs, an, fl, t0, t1, t2, t3, t4, t5) k)) 0 0 (fun _ => False) := by
  refine Met.ofW (cc := cX1_numbers) (maxL := 5) (ret := (some .int)) (by decide) rfl ?_
  intro p e s m args below meth c s₁ B hml hv
  obtain ⟨rfl, hP, hK, hN⟩ := hv
  have hx := B.exec
  have hb := B.bytes
  have hr := B.returns
  have hts := atoms_spec (ws := wsX1_numbers) B.pre
  have hown : s.vm.findClass RX1 = some m.cls := findClass_of_methodNamed B.named
  have hlocks := B.notSynchronized
  have hl := lv_entry ([.ref h, .int k]) (n := 5) (Nat.le_of_ble_eq_true rfl)
  rw [lg_entry_eq]
  generalize (lg_sl ([.ref h, .int k]) ++ List.replicate (5 - (lg_sl ([.ref h, .int k])).length) Slot.unset).toArray = ls at hl ⊢
  have hl : lv_has ls 5 [(0, .ref h), (1, .int k)] := hl
  refine lv_iload_n hx hb dX1_numbers_0 rfl (lv_at hl 1 rfl) ?_
  refine lv_bipush (v := 8) hx hb dX1_numbers_1 (by decide) ?_
  refine vp_callSi (W.runS (As := [.int k, .int 8]) (rest := []) ⟨hx, hb, hml, hown, hts⟩ (c_isWithin l k 8) (va_cwS 2 hts gX1_numbers_X1_isWithin rfl rfl rfl (by decide +kernel) ⟨Nat.le_of_ble_eq_true rfl, Nat.le_of_ble_eq_true rfl⟩) ⟨fun _ _ _ _ q => q, fun _ _ _ => ⟨rfl, trivial⟩⟩ rfl rfl hl.1 rfl (lv_room (Nat.le_of_ble_eq_true rfl)) dX1_numbers_3 ⟨Nat.le_of_ble_eq_true rfl, Nat.le_of_ble_eq_true rfl⟩) (fun r9 hr9 => ?_)
  rcases hr9 with ⟨hq_93, rfl⟩ | ⟨hq_93, rfl⟩
  · refine lv_if_ne (tgt := 11) hx hb dX1_numbers_6 (by decide) (fun _ => ?_) (fun h => absurd h (by decide))
    refine lv_iconst (v := 0) hx hb dX1_numbers_11 (by decide) ?_
    refine lv_istore_n (lv' := [(2, .int 0), (0, .ref h), (1, .int k)]) hx hb dX1_numbers_12 rfl hl (by decide) rfl (fun ls hl => ?_)
    refine lv_iconst (v := 1) hx hb dX1_numbers_13 (by decide) ?_
    refine lv_istore_n (lv' := [(3, .int 1), (2, .int 0), (0, .ref h), (1, .int k)]) hx hb dX1_numbers_14 rfl hl (by decide) rfl (fun ls hl => ?_)
    obtain ⟨x3, ex3⟩ : ∃ y : Int32, y = 1 := ⟨_, rfl⟩
    obtain ⟨x2, ex2⟩ : ∃ y : Int32, y = 0 := ⟨_, rfl⟩
    replace hl : lv_has ls 5 [(3, .int x3), (2, .int x2), (1, .int k), (0, .ref h)] := by rw [ex3, ex2]; exact lv_sub hl [0, 1, 3, 2] rfl
    obtain ⟨j, ej⟩ : ∃ j : Nat, j = 0 := ⟨_, rfl⟩
    have hx3 : x3 = nI (j + 1) := by rw [ej, ex3]; rfl
    have hx2 : x2 = mCnt kd ok k j := by rw [ej, ex2]; rfl
    have hjn : j ≤ n := by omega
    obtain ⟨f, hf⟩ : ∃ f : Nat, n - j = f := ⟨_, rfl⟩
    clear ex3 ex2 ej
    induction f generalizing j x3 x2 ls with
    | zero =>
      refine lv_iload_n hx hb dX1_numbers_15 rfl (lv_at hl 0 rfl) ?_
      refine lv_aload_n hx hb dX1_numbers_16 rfl (lv_at hl 3 rfl) ?_
      refine va_get (D := (dC, dI)) (ci := 1) (v := .int (nI n)) (C := RX1) (T := TX1) (N := 12) hx hb hts iwX1_numbers_1 hown hK hP 0 rfl rfl 1 (by decide) (hts (.fieldLink RX1 15 "MainframeDesk" "made" "I") (by decide +kernel)) (fun _ h9 => h9) rfl dX1_numbers_17 ?_
      refine lv_icmp_gt (tgt := 61) hx hb dX1_numbers_20 (by decide) (fun c_95 => ?_) (fun c_95 => ?_)
      · refine lv_iload_n hx hb dX1_numbers_61 rfl (lv_at hl 1 rfl) ?_
        exact W.iret (v := x2) hx hb hr (fun t ht hW => ⟨_, rfl, (by unfold mNumbers; dsimp only; rw [if_pos hq_93, hx2, show j = n by omega]), ht⟩) (fun _ h => absurd h List.not_mem_nil) dX1_numbers_62
      · exact absurd (by rw [hx3]; exact nI_lt (by omega) (by omega)) c_95
    | succ f ih =>
      refine lv_iload_n hx hb dX1_numbers_15 rfl (lv_at hl 0 rfl) ?_
      refine lv_aload_n hx hb dX1_numbers_16 rfl (lv_at hl 3 rfl) ?_
      refine va_get (D := (dC, dI)) (ci := 1) (v := .int (nI n)) (C := RX1) (T := TX1) (N := 12) hx hb hts iwX1_numbers_1 hown hK hP 0 rfl rfl 1 (by decide) (hts (.fieldLink RX1 15 "MainframeDesk" "made" "I") (by decide +kernel)) (fun _ h9 => h9) rfl dX1_numbers_17 ?_
      refine lv_icmp_gt (tgt := 61) hx hb dX1_numbers_20 (by decide) (fun c_96 => ?_) (fun c_96 => ?_)
      · exact absurd c_96 (by rw [hx3]; exact nI_nlt (by omega) (by omega))
      · refine lv_aload_n hx hb dX1_numbers_23 rfl (lv_at hl 3 rfl) ?_
        refine lv_iload_n hx hb dX1_numbers_24 rfl (lv_at hl 0 rfl) ?_
        refine va_csq (W.runV (As := [.int x3]) (rest := []) ⟨hx, hb, hml, hown, hts⟩ (c_find l dC dI h qT qC qS qA qF cT cC cS cA cF ad n kd ok cn rc rs an fl t0 t1 t2 t3 t4 t5 hn x3) (cwV 1 hts gX1_numbers_X1_find rfl rfl rfl (by decide +kernel) ⟨Nat.le_of_ble_eq_true rfl, Nat.le_of_ble_eq_true rfl⟩) ⟨dP_bl, va_recv hK hP (ci := 1) (q0 := 0) rfl rfl, fun U hU hW => ⟨rfl, dP_at hU hW hP hK hN⟩⟩ rfl rfl hl.1 rfl (lv_room (Nat.le_of_ble_eq_true rfl)) dX1_numbers_25 ⟨Nat.le_of_ble_eq_true rfl, Nat.le_of_ble_eq_true rfl⟩) (fun r9 hr9 => ?_)
        rcases hr9 with ⟨hf_97, rfl⟩ | ⟨hf_97, rfl⟩
        · refine W.eq (g2 := F0 m 28 ls [.ref (ad (mIx x3))]) rfl ?_
          obtain ⟨hj_98, hj_981, hj_982⟩ := kx_ix hn hf_97
          refine lv_astore (lv' := [(4, .ref (ad (mIx x3))), (3, .int x3), (2, .int x2), (1, .int k), (0, .ref h)]) hx hb dX1_numbers_28 hl (by decide) rfl (fun ls hl => ?_)
          refine lv_aload hx hb dX1_numbers_30 (lv_at hl 0 rfl) ?_
          refine lv_ifnull hx hb dX1_numbers_32 ?_
          refine lv_aload hx hb dX1_numbers_35 (lv_at hl 0 rfl) ?_
          refine va_getN (D := (dC, dI)) (ci := 0) (v := .int (ok (mIx x3))) (C := RX0) (T := TX0) (N := 3) hx hb hts iwX1_numbers_0 hown hK hP (6 + (mIx x3)) (dW_at hj_98) rfl 1 (by decide) (dNw_fthere hN) (fun _ h9 => h9) rfl dX1_numbers_37 ?_
          refine lv_if_eq (tgt := 55) hx hb dX1_numbers_40 (by decide) (fun c_99 => ?_) (fun c_99 => ?_)
          · have ej : mIx x3 = j := by
              have e1 : nI (j + 1) = nI (mIx x3 + 1) := hx3.symm.trans hj_982
              have e2 := (nI_eq (a := j + 1) (b := mIx x3 + 1) (by omega) (by omega)).mp e1
              omega
            rw [ej] at c_99
            obtain ⟨i_100, ei_100⟩ : ∃ y : Int32, y = x3 + 1 := ⟨_, rfl⟩
            refine lv_iinc (v := i_100) (lv' := [(3, .int i_100), (4, .ref (ad (mIx x3))), (2, .int x2), (1, .int k), (0, .ref h)]) hx hb dX1_numbers_55 hl (k := 1) rfl (by rw [ei_100]; rfl) (by decide) rfl (fun ls hl => ?_)
            refine lv_goto (tgt := 15) hx hb dX1_numbers_58 (by decide) ?_
            exact ih (j := j + 1) (x3 := i_100) (x2 := x2) (ls := ls) (hl := lv_sub hl [0, 2, 3, 4] rfl) (hx3 := by rw [ei_100, hx3]; exact nI_1 (j + 1)) (hx2 := by unfold mCnt; rw [if_neg (fun q => q.1 c_99)]; exact hx2) (hjn := by omega) (hf := by omega)
          · refine lv_aload hx hb dX1_numbers_43 (lv_at hl 0 rfl) ?_
            refine va_getN (D := (dC, dI)) (ci := 0) (v := .int (kd (mIx x3))) (C := RX0) (T := TX0) (N := 3) hx hb hts iwX1_numbers_0 hown hK hP (6 + (mIx x3)) (dW_at hj_98) rfl 0 (by decide) (dNw_fkind hN) (fun _ h9 => h9) rfl dX1_numbers_45 ?_
            refine lv_iload_n hx hb dX1_numbers_48 rfl (lv_at hl 3 rfl) ?_
            refine lv_icmp_ne (tgt := 55) hx hb dX1_numbers_49 (by decide) (fun c_101 => ?_) (fun c_101 => ?_)
            · have ej : mIx x3 = j := by
                have e1 : nI (j + 1) = nI (mIx x3 + 1) := hx3.symm.trans hj_982
                have e2 := (nI_eq (a := j + 1) (b := mIx x3 + 1) (by omega) (by omega)).mp e1
                omega
              rw [ej] at c_99
              rw [ej] at c_101
              obtain ⟨i_102, ei_102⟩ : ∃ y : Int32, y = x3 + 1 := ⟨_, rfl⟩
              refine lv_iinc (v := i_102) (lv' := [(3, .int i_102), (4, .ref (ad (mIx x3))), (2, .int x2), (1, .int k), (0, .ref h)]) hx hb dX1_numbers_55 hl (k := 1) rfl (by rw [ei_102]; rfl) (by decide) rfl (fun ls hl => ?_)
              refine lv_goto (tgt := 15) hx hb dX1_numbers_58 (by decide) ?_
              exact ih (j := j + 1) (x3 := i_102) (x2 := x2) (ls := ls) (hl := lv_sub hl [0, 2, 3, 4] rfl) (hx3 := by rw [ei_102, hx3]; exact nI_1 (j + 1)) (hx2 := by unfold mCnt; rw [if_neg (fun q => c_101 q.2)]; exact hx2) (hjn := by omega) (hf := by omega)
            · obtain ⟨i_103, ei_103⟩ : ∃ y : Int32, y = x2 + 1 := ⟨_, rfl⟩
              refine lv_iinc (v := i_103) (lv' := [(2, .int i_103), (4, .ref (ad (mIx x3))), (3, .int x3), (1, .int k), (0, .ref h)]) hx hb dX1_numbers_52 hl (k := 2) rfl (by rw [ei_103]; rfl) (by decide) rfl (fun ls hl => ?_)
              have ej : mIx x3 = j := by
                have e1 : nI (j + 1) = nI (mIx x3 + 1) := hx3.symm.trans hj_982
                have e2 := (nI_eq (a := j + 1) (b := mIx x3 + 1) (by omega) (by omega)).mp e1
                omega
              rw [ej] at c_99
              rw [ej] at c_101
              obtain ⟨i_104, ei_104⟩ : ∃ y : Int32, y = x3 + 1 := ⟨_, rfl⟩
              refine lv_iinc (v := i_104) (lv' := [(3, .int i_104), (2, .int i_103), (4, .ref (ad (mIx x3))), (1, .int k), (0, .ref h)]) hx hb dX1_numbers_55 hl (k := 2) rfl (by rw [ei_104]; rfl) (by decide) rfl (fun ls hl => ?_)
              refine lv_goto (tgt := 15) hx hb dX1_numbers_58 (by decide) ?_
              exact ih (j := j + 1) (x3 := i_104) (x2 := i_103) (ls := ls) (hl := lv_sub hl [0, 1, 3, 4] rfl) (hx3 := by rw [ei_104, hx3]; exact nI_1 (j + 1)) (hx2 := by unfold mCnt; rw [if_pos ⟨c_99, c_101⟩, ei_103, hx2]) (hjn := by omega) (hf := by omega)
        · refine W.eq (g2 := F0 m 28 ls [.null]) rfl ?_
          refine lv_astoreN (lv' := [(4, .null), (3, .int x3), (2, .int x2), (1, .int k), (0, .ref h)]) hx hb dX1_numbers_28 hl (by decide) rfl (fun ls hl => ?_)
          refine lv_aloadN hx hb dX1_numbers_30 (lv_at hl 0 rfl) ?_
          refine lv_ifnullN (tgt := 55) hx hb dX1_numbers_32 (by decide) ?_
          exact absurd ⟨by rw [hx3]; exact (nI_leI (a := 1) (by omega) (by omega)).mpr (by omega), by rw [hx3]; exact nI_le (by omega) (by omega)⟩ hf_97
  · refine lv_if_ne (tgt := 11) hx hb dX1_numbers_6 (by decide) (fun h => absurd h (by decide)) (fun _ => ?_)
    refine lv_iconst (v := (-1)) hx hb dX1_numbers_9 (by decide) ?_
    exact W.iret (v := (-1)) hx hb hr (fun t ht hW => ⟨_, rfl, (by unfold mNumbers; dsimp only; rw [if_neg hq_93]), ht⟩) (fun _ h => absurd h List.not_mem_nil) dX1_numbers_10
end
section
/-- the desk's fixed cells, with any table and any number of things -/
def dXr (h qT qC qS qA qF : Nat) (cT cC cS cA cF : ClassId) (g : Nat → Option Nat) (v : Int32) (rc : Nat → Int32) (rs an : Nat → Int64) (fl : Nat → Int32) (t0 t1 t2 t3 t4 t5 : Int32) : va_W :=
  [(h, .inr (1, [.ref qT, .int v, .ref qC, .ref qS, .ref qA, .ref qF, .int t0, .int t1, .int t2, .int t3, .int t4, .int t5])),
   (qT, .inl (cT, 200, .inr (.inr (.inr (.inr g))))), (qC, .inl (cC, 4, .inl rc)), (qS, .inl (cS, 4, .inr (.inl rs))), (qA, .inl (cA, 32, .inr (.inl an))), (qF, .inl (cF, 32, .inl fl))]
theorem iwX1_make_1 : ∀ w ∈ wsX10, w ∈ wsX1_make := fun _ h => List.mem_cons_of_mem _ (List.mem_append_left _ (List.mem_append_right _ h))
theorem iwX1_make_0 : ∀ w ∈ wsX00, w ∈ wsX1_make := fun _ h => List.mem_cons_of_mem _ (List.mem_append_right _ h)
set_option maxHeartbeats 1000000 in
set_option maxRecDepth 100000 in
/-- make(k) -/
theorem c_make (l : Launch) (dC : Nat → ClassId) (dI : Nat → Nat → Nat) (h qT qC qS qA qF : Nat) (cT cC cS cA cF : ClassId) (ad : Nat → Nat) (n : Nat) (kd ok cn rc : Nat → Int32) (rs an : Nat → Int64) (fl : Nat → Int32) (t0 t1 t2 t3 t4 t5 : Int32) (hn : n ≤ 200) (sz : Nat) (k : Int32) : Met l yX1_make wsX1_make ({ frames := 2, cells := 1, slots := 3, locals := 33 }) (va_Pc [.ref h, .int k] (dQ dC dI [(cT, .object "MainframeDesk$Thing"), (cC, .int), (cS, .long), (cA, .long), (cF, .int)] (dW h qT qC qS qA qF cT cC cS cA cF ad n kd ok cn rc rs an fl t0 t1 t2 t3 t4 t5) sz)) (va_Qi (fun (r : Int32) (u : dM × (Nat → Nat)) => (r, u.1) = mMake (n, kd, ok, cn, rc, rs, an, fl, t0, t1, t2, t3, t4, t5) k) (fun u t => dAt dC dI (dWm h qT qC qS qA qF cT cC cS cA cF u.2 u.1) (va_A (dW h qT qC qS qA qF cT cC cS cA cF ad n kd ok cn rc rs an fl t0 t1 t2 t3 t4 t5) sz) t) (va_A (dW h qT qC qS qA qF cT cC cS cA cF ad n kd ok cn rc rs an fl t0 t1 t2 t3 t4 t5) sz)) 1 3 (va_A (dW h qT qC qS qA qF cT cC cS cA cF ad n kd ok cn rc rs an fl t0 t1 t2 t3 t4 t5) sz) := by
  refine Met.ofW (cc := cX1_make) (maxL := 2) (ret := (some .int)) (by decide) rfl ?_
  intro p e s m args below meth c s₁ B hml hv
  obtain ⟨rfl, hsz, hP, hK, hD0, hN⟩ := hv
  have hx := B.exec
  have hb := B.bytes
  have hr := B.returns
  have hts := atoms_spec (ws := wsX1_make) B.pre
  have hown : s.vm.findClass RX1 = some m.cls := findClass_of_methodNamed B.named
  have hlocks := B.notSynchronized
  subst hsz
  have hD := hD0.self (sz := s.heap.size)
  generalize hAe : va_A (dW h qT qC qS qA qF cT cC cS cA cF ad n kd ok cn rc rs an fl t0 t1 t2 t3 t4 t5) s.heap.size = A at hD ⊢
  have hA : ∀ q : Nat, s.heap.size ≤ q → A q := fun q h => by rw [← hAe]; exact Or.inr h
  have hS : va_S A s.heap s.heap [] := va_S.rf
  have hl := lv_entry ([.ref h, .int k]) (n := 2) (Nat.le_of_ble_eq_true rfl)
  rw [lg_entry_eq]
  generalize (lg_sl ([.ref h, .int k]) ++ List.replicate (2 - (lg_sl ([.ref h, .int k])).length) Slot.unset).toArray = ls at hl ⊢
  have hl : lv_has ls 2 [(0, .ref h), (1, .int k)] := hl
  refine lv_iload_n hx hb dX1_make_0 rfl (lv_at hl 1 rfl) ?_
  refine lv_bipush (v := 8) hx hb dX1_make_1 (by decide) ?_
  refine vp_callSi (W.runS (As := [.int k, .int 8]) (rest := []) ⟨hx, hb, hml, hown, hts⟩ (c_isWithin l k 8) (va_cwS 2 hts gX1_make_X1_isWithin rfl rfl rfl (by decide +kernel) ⟨Nat.le_of_ble_eq_true rfl, Nat.le_of_ble_eq_true rfl⟩) ⟨fun _ _ _ _ q => q, fun _ _ _ => ⟨rfl, trivial⟩⟩ rfl rfl hl.1 rfl (lv_room (Nat.le_of_ble_eq_true rfl)) dX1_make_3 ⟨Nat.le_of_ble_eq_true rfl, Nat.le_of_ble_eq_true rfl⟩) (fun r9 hr9 => ?_)
  rcases hr9 with ⟨hq_87, rfl⟩ | ⟨hq_87, rfl⟩
  · refine lv_if_eq (tgt := 19) hx hb dX1_make_6 (by decide) (fun h => absurd h (by decide)) (fun _ => ?_)
    refine lv_aload_n hx hb dX1_make_9 rfl (lv_at hl 0 rfl) ?_
    refine va_get (D := (dC, dI)) (ci := 1) (v := .int (nI n)) (C := RX1) (T := TX1) (N := 12) hx hb hts iwX1_make_1 hown hK hP 0 rfl rfl 1 (by decide) (hts (.fieldLink RX1 15 "MainframeDesk" "made" "I") (by decide +kernel)) (fun _ h9 => h9) rfl dX1_make_10 ?_
    refine lv_sipush (v := 200) hx hb dX1_make_13 (by decide) ?_
    refine lv_icmp_lt (tgt := 21) hx hb dX1_make_16 (by decide) (fun c_89 => ?_) (fun c_89 => ?_)
    · have hn2 : n < 200 := (nI_ltI (a := n) (b := 200) (by omega) (by omega)).mp c_89
      refine lv_aload_n hx hb dX1_make_21 rfl (lv_at hl 0 rfl) ?_
      refine va_get (D := (dC, dI)) (ci := 1) (v := .ref qT) (C := RX1) (T := TX1) (N := 12) hx hb hts iwX1_make_1 hown hK hP 0 rfl rfl 0 (by decide) (hts (.fieldLink RX1 11 "MainframeDesk" "things" "[LMainframeDesk$Thing;") (by decide +kernel)) (fun _ h9 => h9) rfl dX1_make_22 ?_
      refine lv_aload_n hx hb dX1_make_25 rfl (lv_at hl 0 rfl) ?_
      refine va_get (D := (dC, dI)) (ci := 1) (v := .int (nI n)) (C := RX1) (T := TX1) (N := 12) hx hb hts iwX1_make_1 hown hK hP 0 rfl rfl 1 (by decide) (hts (.fieldLink RX1 15 "MainframeDesk" "made" "I") (by decide +kernel)) (fun _ h9 => h9) rfl dX1_make_26 ?_
      refine va_new (ci := 0) (fs := [.int 0, .int 0, .int 0]) (C := RX0) (T := TX0) (N := 3) hx hb hts iwX1_make_0 tyX0 tyX0_ok hown (hts (.classLink RX1 9 RX0) (by decide +kernel)) (hts (.instantiable RX0 3) (by decide +kernel)) (hts (.initialized RX0) (by decide +kernel)) hK hP hD hS hA rfl (fun j hj => by rcases (show j = 0 ∨ j = 1 ∨ j = 2 by omega) with rfl | rfl | rfl <;> rfl) (Nat.le_of_ble_eq_true rfl) (Nat.le_of_ble_eq_true rfl) dX1_make_29 (fun q H hP hD hS => ?_)
      have hP : va_P (dC, dI) vwCl (dW h qT qC qS qA qF cT cC cS cA cF ad n kd ok cn rc rs an fl t0 t1 t2 t3 t4 t5 ++ [(q, .inr (0, [.int 0, .int 0, .int 0]))]) H := hP
      have hD : va_D A (dW h qT qC qS qA qF cT cC cS cA cF ad n kd ok cn rc rs an fl t0 t1 t2 t3 t4 t5 ++ [(q, .inr (0, [.int 0, .int 0, .int 0]))]) := hD
      refine lv_dup hx hb dX1_make_32 rfl ?_
      refine lv_iload_n hx hb dX1_make_33 rfl (lv_at hl 1 rfl) ?_
      have hPc := kx_P2 hP
      have hDc := kx_D2 hD
      have hFc := kx_fr hDc hS hA
      have hKc := hK.sub (tys' := []) [] rfl
      refine va_callv (va_runIN (As := [.int k]) (rest := [.ref q, .int (nI n), .ref qT]) ⟨hx, hb, hml, hown, hts⟩ (c_thing l dC dI q H.size k) ⟨va_cnB 1 hts gX1_make_X0_init_n55 rfl rfl rfl hN.2.2.2 (hts (.initialized RX0) (by decide +kernel)) (by decide +kernel) ⟨Nat.le_of_ble_eq_true rfl, Nat.le_of_ble_eq_true rfl⟩, rfl, hts (.instanceMethod yX0_init) (by decide +kernel)⟩ ⟨fun a U g mk q => by obtain ⟨q0, q1, qP, qK, qD⟩ := q; exact ⟨q0, q1, qP, va_K.moved (u := U) (U := U.calling g mk a) (Vm.Alike.refl U.vm) qK, qD⟩, fun U hU hW => ⟨rfl, by rw [hU], by rw [hU]; exact hPc, va_K.moved hW.alike hKc, hDc.weaken (fun _ _ _ _ => trivial)⟩⟩ rfl rfl hl.1 rfl (lv_room (Nat.le_of_ble_eq_true rfl)) dX1_make_34 ⟨Nat.le_of_ble_eq_true rfl, Nat.le_of_ble_eq_true rfl⟩) hS (fun q _ h => hFc q h) hFc (fun u t H1 locs ht hvm hw hB hz1 hk1 hS => ?_)
      obtain ⟨hP1, hD1⟩ := hB
      rw [ht] at hP1
      obtain ⟨hPd, hDd⟩ := kx_jn (kx_P1 hP) (kx_Dc hD) hk1 hFc hD1
      have hP : va_P (dC, dI) vwCl (dW h qT qC qS qA qF cT cC cS cA cF ad n kd ok cn rc rs an fl t0 t1 t2 t3 t4 t5 ++ [(q, .inr (0, [.int k, .int 1, .int 0]))]) H1 := va_P.app hPd hP1
      have hD : va_D A (dW h qT qC qS qA qF cT cC cS cA cF ad n kd ok cn rc rs an fl t0 t1 t2 t3 t4 t5 ++ [(q, .inr (0, [.int k, .int 1, .int 0]))]) := kx_Dc hDd
      have hz9 : vp_in (nI n) 200 := vp_in_nI hn2 (by omega)
      have hz8 : (nI n).toNatClampNeg = n := nI_clamp (by omega)
      refine va_astq (r := (RX0, TX0, 3)) hx hb hK hP hD hS 1 0 _ 0 rfl rfl (kx_ar (k := 0) rfl) rfl hz9 dX1_make_37 (fun H locs hP hD hS => ?_)
      rw [hz8, dTh_up] at hP hD
      have hP : va_P (dC, dI) vwCl (dXr h qT qC qS qA qF cT cC cS cA cF (dTh (n + 1) (va_up ad n q)) (nI n) rc rs an fl t0 t1 t2 t3 t4 t5 ++ kx_pl n (dF ad kd ok cn) ++ [(q, .inr (0, [.int k, .int 1, .int 0]))]) H := hP
      have hD : va_D A (dXr h qT qC qS qA qF cT cC cS cA cF (dTh (n + 1) (va_up ad n q)) (nI n) rc rs an fl t0 t1 t2 t3 t4 t5 ++ kx_pl n (dF ad kd ok cn) ++ [(q, .inr (0, [.int k, .int 1, .int 0]))]) := hD
      refine lv_aload_n hx hb dX1_make_38 rfl (lv_at hl 0 rfl) ?_
      refine lv_dup hx hb dX1_make_39 rfl ?_
      refine va_get (D := (dC, dI)) (ci := 1) (v := .int (nI n)) (C := RX1) (T := TX1) (N := 12) hx hb hts iwX1_make_1 hown hK hP 0 rfl rfl 1 (by decide) (hts (.fieldLink RX1 15 "MainframeDesk" "made" "I") (by decide +kernel)) (fun _ h9 => h9) rfl dX1_make_40 ?_
      refine lv_iconst (v := 1) hx hb dX1_make_43 (by decide) ?_
      refine lv_iadd hx hb dX1_make_44 ?_
      rw [nI_1 n]
      refine va_put (D := (dC, dI)) (ci := 1) (v := .int (nI (n + 1))) (ty := .int) (C := RX1) (T := TX1) (N := 12) hx hb hts iwX1_make_1 tyX1 tyX1_ok nmX1 hown hK hP hD hS 0 rfl rfl 1 (by decide) (hts (.fieldLink RX1 15 "MainframeDesk" "made" "I") (by decide +kernel)) (fun _ h9 => h9) rfl (by decide +kernel) rfl rfl (Nat.le_of_ble_eq_true rfl) dX1_make_45 (fun H locs hP hD hS => ?_)
      have hP : va_P (dC, dI) vwCl (dW h qT qC qS qA qF cT cC cS cA cF (va_up ad n q) (n + 1) (upd kd n k) (upd ok n 1) (upd cn n 0) rc rs an fl t0 t1 t2 t3 t4 t5) H := by rw [← dW_push]; exact hP
      have hD : va_D A (dW h qT qC qS qA qF cT cC cS cA cF (va_up ad n q) (n + 1) (upd kd n k) (upd ok n 1) (upd cn n 0) rc rs an fl t0 t1 t2 t3 t4 t5) := by rw [← dW_push]; exact hD
      refine lv_aload_n hx hb dX1_make_48 rfl (lv_at hl 0 rfl) ?_
      refine va_get (D := (dC, dI)) (ci := 1) (v := .int (nI (n + 1))) (C := RX1) (T := TX1) (N := 12) hx hb hts iwX1_make_1 hown hK hP 0 rfl rfl 1 (by decide) (hts (.fieldLink RX1 15 "MainframeDesk" "made" "I") (by decide +kernel)) (fun _ h9 => h9) rfl dX1_make_49 ?_
      exact W.iret (v := nI (n + 1)) hx hb hr (fun t ht hW => ⟨⟨_, ((n + 1, upd kd n k, upd ok n 1, upd cn n 0, rc, rs, an, fl, t0, t1, t2, t3, t4, t5), va_up ad n q), rfl, (if_pos ⟨hq_87, hn2⟩).symm, by rw [ht]; exact hP, hD⟩, hS.F ht⟩) hS.2.2 dX1_make_52
    · refine lv_iconst (v := (-1)) hx hb dX1_make_19 (by decide) ?_
      refine W.widen (k := 1) (n := 3) (Nat.le_of_ble_eq_true rfl) (Nat.le_of_ble_eq_true rfl) ?_
      exact W.iret (v := (-1)) hx hb hr (fun t ht hW => ⟨⟨_, ((n, kd, ok, cn, rc, rs, an, fl, t0, t1, t2, t3, t4, t5), ad), rfl, (if_neg (fun q => c_89 ((nI_ltI (a := n) (b := 200) (by omega) (by omega)).mpr q.2))).symm, by rw [ht]; exact hP, hD⟩, hS.F ht⟩) hS.2.2 dX1_make_20
  · refine lv_if_eq (tgt := 19) hx hb dX1_make_6 (by decide) (fun _ => ?_) (fun h => absurd h (by decide))
    refine lv_iconst (v := (-1)) hx hb dX1_make_19 (by decide) ?_
    refine W.widen (k := 1) (n := 3) (Nat.le_of_ble_eq_true rfl) (Nat.le_of_ble_eq_true rfl) ?_
    exact W.iret (v := (-1)) hx hb hr (fun t ht hW => ⟨⟨_, ((n, kd, ok, cn, rc, rs, an, fl, t0, t1, t2, t3, t4, t5), ad), rfl, (if_neg (fun q => hq_87 q.1)).symm, by rw [ht]; exact hP, hD⟩, hS.F ht⟩) hS.2.2 dX1_make_20
end
section
/-! the reference's cells -/
def mL (cn : Nat → Int32) : Nat → Int64 := fun j => (cn j).toInt64
def rW (h qs qm qa qf qk qt qd : Nat) (cs cm ca cf ck ct cd : ClassId) (n : Nat) (kd ok cn rc : Nat → Int32) (rs an : Nat → Int64) (fl : Nat → Int32) (t0 t1 t2 t3 t4 t5 th wy : Int32) : va_W :=
  [(h, .inr (2, [.ref qs, .ref qm, .ref qa, .ref qf, .ref qk, .ref qt, .ref qd, .int (nI n), .int th, .int t0, .int t1, .int t2, .int t3, .int t4, .int t5, .int wy])),
   (qs, .inl (cs, 4, .inr (.inl rs))), (qm, .inl (cm, 4, .inl rc)), (qa, .inl (ca, 32, .inr (.inl an))), (qf, .inl (cf, 32, .inl fl)), (qk, .inl (ck, 200, .inl kd)), (qt, .inl (ct, 200, .inl ok)), (qd, .inl (cd, 200, .inr (.inl (mL cn))))]
def rWm (h qs qm qa qf qk qt qd : Nat) (cs cm ca cf ck ct cd : ClassId) (u : dM × Int32 × Int32) : va_W := match u with
  | ((n, kd, ok, cn, rc, rs, an, fl, t0, t1, t2, t3, t4, t5), th, wy) => rW h qs qm qa qf qk qt qd cs cm ca cf ck ct cd n kd ok cn rc rs an fl t0 t1 t2 t3 t4 t5 th wy
def rP (dC : Nat → ClassId) (dI : Nat → Nat → Nat) (tys : List (ClassId × FieldType)) (ws : va_W) (U : State) : Prop := va_P (dC, dI) vwCl ws U.heap ∧ va_K (dC, dI) vwCl tys U
def rQ (dC : Nat → ClassId) (dI : Nat → Nat → Nat) (tys : List (ClassId × FieldType)) (ws : va_W) (sz : Nat) (U : State) : Prop := U.heap.size = sz ∧ va_P (dC, dI) vwCl ws U.heap ∧ va_K (dC, dI) vwCl tys U ∧ va_D (fun _ => True) ws
theorem rP_bl {dC : Nat → ClassId} {dI : Nat → Nat → Nat} {tys : List (ClassId × FieldType)} {ws : va_W} {av : List Value} : FrameBlind (va_Pc av (rP dC dI tys ws)) := fun _ U g mk q => ⟨q.1, q.2.1, va_K.moved (u := U) (Vm.Alike.refl U.vm) q.2.2⟩
theorem rQ_bl {dC : Nat → ClassId} {dI : Nat → Nat → Nat} {tys : List (ClassId × FieldType)} {ws : va_W} {sz : Nat} {av : List Value} : FrameBlind (va_Pc av (rQ dC dI tys ws sz)) := fun _ U g mk q => ⟨q.1, q.2.1, q.2.2.1, va_K.moved (u := U) (Vm.Alike.refl U.vm) q.2.2.2.1, q.2.2.2.2⟩
theorem rP_at {dC : Nat → ClassId} {dI : Nat → Nat → Nat} {tys : List (ClassId × FieldType)} {ws : va_W} {s U : State} {H : Heap} (hU : U.heap = H) (hW : s.WarmedH U.vm) (hP : va_P (dC, dI) vwCl ws H) (hK : va_K (dC, dI) vwCl tys s) : rP dC dI tys ws U := ⟨by rw [hU]; exact hP, va_K.moved hW.alike hK⟩
theorem rQ_at {dC : Nat → ClassId} {dI : Nat → Nat → Nat} {tys : List (ClassId × FieldType)} {ws : va_W} {A : Nat → Prop} {s U : State} {H : Heap} (hU : U.heap = H) (hW : s.WarmedH U.vm) (hP : va_P (dC, dI) vwCl ws H) (hK : va_K (dC, dI) vwCl tys s) (hD : va_D A ws) : rQ dC dI tys ws H.size U := ⟨by rw [hU], by rw [hU]; exact hP, va_K.moved hW.alike hK, hD.weaken (fun _ _ _ _ => trivial)⟩
theorem kx_nb0 : vp_nar .boolean 0 = 0 := by decide +kernel
theorem kx_nb1 : vp_nar .boolean 1 = 1 := by decide +kernel
theorem mL_0 {cn : Nat → Int32} {i : Nat} : vp_updL (mL cn) i 0 = mL (upd cn i 0) := by
  funext j
  by_cases h : j = i
  · subst h
    rw [pk_uLs]
    unfold mL
    rw [pk_us]
    rfl
  · rw [pk_uLn h]
    unfold mL
    rw [pk_un h]
theorem kx_l1 {x : Int32} (h : x < 1000000) : x.toInt64 + 1 = (x + 1).toInt64 := by
  have h1 := Int32.lt_iff_toInt_lt.mp h
  have e1 : (1000000 : Int32).toInt = 1000000 := by decide
  rw [e1] at h1
  have h2 := Int32.le_toInt x
  have e2 : (x + 1).toInt = x.toInt + 1 := by
    rw [Int32.toInt_add]
    have e3 : (1 : Int32).toInt = 1 := by decide
    rw [e3]
    exact Int.bmod_eq_of_le (by omega) (by omega)
  apply Int64.toInt_inj.mp
  rw [Int64.toInt_add, Int32.toInt_toInt64, Int32.toInt_toInt64, e2]
  have e4 : (1 : Int64).toInt = 1 := by decide
  rw [e4]
  exact Int.bmod_eq_of_le (by omega) (by omega)
theorem mL_up {cn : Nat → Int32} {i : Nat} (h : cn i < 1000000) : vp_updL (mL cn) i (mL cn i + 1) = mL (upd cn i (cn i + 1)) := by
  funext j
  by_cases e : j = i
  · subst e
    rw [pk_uLs]
    unfold mL
    rw [pk_us]
    exact kx_l1 h
  · rw [pk_uLn e]
    unfold mL
    rw [pk_un e]
/-! the reference's words for a call -/
def mRefX (n : Nat) (kd ok rc : Nat → Int32) (c x : Int32) (a : Int64) : Int32 := if 1 ≤ x ∧ x ≤ nI n then mRef rc (kd (mIx x)) (ok (mIx x)) c a else -2
def mWay (M : dM) (c x : Int32) (a : Int64) : Int32 := match M with
  | (n, kd, ok, _, rc, _, _, fl, _, _, _, _, _, _) => if mRefX n kd ok rc c x a = 0 then (if fl c.toNatClampNeg = 0 then 0 else 1) else 2
theorem kx_x0 {n : Nat} {kd ok rc : Nat → Int32} {c x : Int32} {a : Int64} (h : mRefX n kd ok rc c x a = 0) : (1 ≤ x ∧ x ≤ nI n) ∧ mRef rc (kd (mIx x)) (ok (mIx x)) c a = 0 := by
  unfold mRefX at h
  by_cases hx : 1 ≤ x ∧ x ≤ nI n
  · rw [if_pos hx] at h
    exact ⟨hx, h⟩
  · rw [if_neg hx] at h
    exact absurd h (by decide)
theorem kx_w4n {c : Int32} (h : 0 ≤ c ∧ c < 32) : ¬ mW4 c = -1 := fun e => by
  have h1 := kx_w4 h
  rw [e] at h1
  exact h1 (Or.inl (by decide))
theorem kx_ix2 {n : Nat} {x : Int32} (hn : n ≤ 200) (h : 1 ≤ x ∧ x ≤ nI n) : vp_in (x - 1) 200 := by
  obtain ⟨h1, h2, -⟩ := kx_ix hn h
  rw [h2]
  exact vp_in_nI (by omega) (by omega)
end
section
set_option maxHeartbeats 1000000 in
set_option maxRecDepth 100000 in
/-- below(i, k) -/
theorem r_below (l : Launch) (i k : Int32) : Met l yX2_below wsX2_below ({ frames := 0, cells := 0, slots := 0, locals := 0 }) (va_Pc [.int i, .int k] (fun _ => True)) (vp_Si (fun r => ((0 ≤ i ∧ i < k) ∧ r = 1) ∨ (¬ (0 ≤ i ∧ i < k) ∧ r = 0))) 0 0 (fun _ => False) := by
  refine Met.ofW (cc := cX2_below) (maxL := 2) (ret := (some .boolean)) (by decide) rfl ?_
  intro p e s m args below meth c s₁ B hml hv
  obtain ⟨rfl, -⟩ := hv
  have hx := B.exec
  have hb := B.bytes
  have hr := B.returns
  have hts := atoms_spec (ws := wsX2_below) B.pre
  have hown : s.vm.findClass RX2 = some m.cls := findClass_of_methodNamed B.named
  have hlocks := B.notSynchronized
  have hl := lv_entry ([.int i, .int k]) (n := 2) (Nat.le_of_ble_eq_true rfl)
  rw [lg_entry_eq]
  generalize (lg_sl ([.int i, .int k]) ++ List.replicate (2 - (lg_sl ([.int i, .int k])).length) Slot.unset).toArray = ls at hl ⊢
  have hl : lv_has ls 2 [(0, .int i), (1, .int k)] := hl
  refine lv_iload_n hx hb dX2_below_0 rfl (lv_at hl 0 rfl) ?_
  refine lv_if_lt (tgt := 13) hx hb dX2_below_1 (by decide) (fun c_106 => ?_) (fun c_106 => ?_)
  · refine lv_iconst (v := 0) hx hb dX2_below_13 (by decide) ?_
    exact W.zret (v := 0) hx hb hr rfl (fun t ht hW => ⟨_, rfl, Or.inr ⟨fun q => Int32.not_le.mpr c_106 q.1, rfl⟩, ht⟩) (fun _ h => absurd h List.not_mem_nil) dX2_below_14
  · refine lv_iload_n hx hb dX2_below_4 rfl (lv_at hl 0 rfl) ?_
    refine lv_iload_n hx hb dX2_below_5 rfl (lv_at hl 1 rfl) ?_
    refine lv_icmp_ge (tgt := 13) hx hb dX2_below_6 (by decide) (fun c_107 => ?_) (fun c_107 => ?_)
    · refine lv_iconst (v := 0) hx hb dX2_below_13 (by decide) ?_
      exact W.zret (v := 0) hx hb hr rfl (fun t ht hW => ⟨_, rfl, Or.inr ⟨fun q => Int32.not_lt.mpr c_107 q.2, rfl⟩, ht⟩) (fun _ h => absurd h List.not_mem_nil) dX2_below_14
    · refine lv_iconst (v := 1) hx hb dX2_below_9 (by decide) ?_
      refine lv_goto (tgt := 14) hx hb dX2_below_10 (by decide) ?_
      exact W.zret (v := 1) hx hb hr rfl (fun t ht hW => ⟨_, rfl, Or.inl ⟨⟨Int32.not_lt.mp c_106, Int32.not_le.mp c_107⟩, rfl⟩, ht⟩) (fun _ h => absurd h List.not_mem_nil) dX2_below_14
set_option maxHeartbeats 1000000 in
set_option maxRecDepth 100000 in
/-- rowOf(c) -/
theorem r_rowOf (l : Launch) (cz : Int32) : Met l yX2_rowOf wsX2_rowOf ({ frames := 0, cells := 0, slots := 0, locals := 0 }) (va_Pc [.int cz] (fun _ => True)) (vp_Si (fun r => (8 ≤ cz ∧ r = mW4 cz) ∨ (¬ 8 ≤ cz ∧ r = -1))) 0 0 (fun _ => False) := by
  refine Met.ofW (cc := cX2_rowOf) (maxL := 1) (ret := (some .int)) (by decide) rfl ?_
  intro p e s m args below meth c s₁ B hml hv
  obtain ⟨rfl, -⟩ := hv
  have hx := B.exec
  have hb := B.bytes
  have hr := B.returns
  have hts := atoms_spec (ws := wsX2_rowOf) B.pre
  have hown : s.vm.findClass RX2 = some m.cls := findClass_of_methodNamed B.named
  have hlocks := B.notSynchronized
  have hl := lv_entry ([.int cz]) (n := 1) (Nat.le_of_ble_eq_true rfl)
  rw [lg_entry_eq]
  generalize (lg_sl ([.int cz]) ++ List.replicate (1 - (lg_sl ([.int cz])).length) Slot.unset).toArray = ls at hl ⊢
  have hl : lv_has ls 1 [(0, .int cz)] := hl
  refine lv_iload_n hx hb dX2_rowOf_0 rfl (lv_at hl 0 rfl) ?_
  refine lv_bipush (v := 8) hx hb dX2_rowOf_1 (by decide) ?_
  refine lv_icmp_ge (tgt := 10) hx hb dX2_rowOf_3 (by decide) (fun c_108 => ?_) (fun c_108 => ?_)
  · refine lv_iload_n hx hb dX2_rowOf_10 rfl (lv_at hl 0 rfl) ?_
    refine lv_iconst (v := 4) hx hb dX2_rowOf_11 (by decide) ?_
    refine lv_irem hx hb dX2_rowOf_12 (by decide) ?_
    refine lv_topi (fun z_109 ez_109 => ?_)
    exact W.iret (v := z_109) hx hb hr (fun t ht hW => ⟨_, rfl, Or.inl ⟨c_108, ez_109⟩, ht⟩) (fun _ h => absurd h List.not_mem_nil) dX2_rowOf_13
  · refine lv_iconst (v := (-1)) hx hb dX2_rowOf_6 (by decide) ?_
    refine lv_goto (tgt := 13) hx hb dX2_rowOf_7 (by decide) ?_
    exact W.iret (v := (-1)) hx hb hr (fun t ht hW => ⟨_, rfl, Or.inr ⟨c_108, rfl⟩, ht⟩) (fun _ h => absurd h List.not_mem_nil) dX2_rowOf_13
theorem iwX2_refusal : ∀ w ∈ wsX20, w ∈ wsX2_refusal := fun _ h => List.mem_cons_of_mem _ (List.mem_append_right _ h)
set_option maxHeartbeats 1000000 in
set_option maxRecDepth 100000 in
/-- refusal(c, x, a) -/
theorem r_refusal (l : Launch) (dC : Nat → ClassId) (dI : Nat → Nat → Nat) (h qs qm qa qf qk qt qd : Nat) (cs cm ca cf ck ct cd : ClassId) (n : Nat) (kd ok cn rc : Nat → Int32) (rs an : Nat → Int64) (fl : Nat → Int32) (t0 t1 t2 t3 t4 t5 th wy : Int32) (hn : n ≤ 200) (cz x : Int32) (a : Int64) : Met l yX2_refusal wsX2_refusal ({ frames := 1, cells := 0, slots := 0, locals := 21 }) (va_Pc [.ref h, .int cz, .int x, .long a] (rP dC dI [(cs, .long), (cm, .int), (ca, .long), (cf, .int), (ck, .int), (ct, .boolean), (cd, .long)] (rW h qs qm qa qf qk qt qd cs cm ca cf ck ct cd n kd ok cn rc rs an fl t0 t1 t2 t3 t4 t5 th wy))) (vp_Si (fun r => r = mRefX n kd ok rc cz x a)) 0 0 (fun _ => False) := by
  refine Met.ofW (cc := cX2_refusal) (maxL := 5) (ret := (some .int)) (by decide) rfl ?_
  intro p e s m args below meth c s₁ B hml hv
  obtain ⟨rfl, hP, hK⟩ := hv
  have hx := B.exec
  have hb := B.bytes
  have hr := B.returns
  have hts := atoms_spec (ws := wsX2_refusal) B.pre
  have hown : s.vm.findClass RX2 = some m.cls := findClass_of_methodNamed B.named
  have hlocks := B.notSynchronized
  have hl := lv_entry ([.ref h, .int cz, .int x, .long a]) (n := 5) (Nat.le_of_ble_eq_true rfl)
  rw [lg_entry_eq]
  generalize (lg_sl ([.ref h, .int cz, .int x, .long a]) ++ List.replicate (5 - (lg_sl ([.ref h, .int cz, .int x, .long a])).length) Slot.unset).toArray = ls at hl ⊢
  have hl : lv_has ls 5 [(0, .ref h), (1, .int cz), (2, .int x), (3, .long a)] := hl
  refine lv_iload_n hx hb dX2_refusal_0 rfl (lv_at hl 1 rfl) ?_
  refine lv_bipush (v := 32) hx hb dX2_refusal_1 (by decide) ?_
  refine vp_callSi (W.runS (As := [.int cz, .int 32]) (rest := []) ⟨hx, hb, hml, hown, hts⟩ (r_below l cz 32) (va_cwS 2 hts gX2_refusal_X2_below rfl rfl rfl (by decide +kernel) ⟨Nat.le_of_ble_eq_true rfl, Nat.le_of_ble_eq_true rfl⟩) ⟨fun _ _ _ _ q => q, fun _ _ _ => ⟨rfl, trivial⟩⟩ rfl rfl hl.1 rfl (lv_room (Nat.le_of_ble_eq_true rfl)) dX2_refusal_3 ⟨Nat.le_of_ble_eq_true rfl, Nat.le_of_ble_eq_true rfl⟩) (fun r9 hr9 => ?_)
  rcases hr9 with ⟨hq_110, rfl⟩ | ⟨hq_110, rfl⟩
  · refine lv_if_eq (tgt := 37) hx hb dX2_refusal_6 (by decide) (fun h => absurd h (by decide)) (fun _ => ?_)
    refine lv_iload_n hx hb dX2_refusal_9 rfl (lv_at hl 2 rfl) ?_
    refine lv_iconst (v := 1) hx hb dX2_refusal_10 (by decide) ?_
    refine lv_icmp_lt (tgt := 37) hx hb dX2_refusal_11 (by decide) (fun c_112 => ?_) (fun c_112 => ?_)
    · refine lv_bipush (v := (-2)) hx hb dX2_refusal_37 (by decide) ?_
      exact W.iret (v := (-2)) hx hb hr (fun t ht hW => ⟨_, rfl, (by unfold mRefX; rw [if_neg (fun q => Int32.not_le.mpr c_112 q.1)]), ht⟩) (fun _ h => absurd h List.not_mem_nil) dX2_refusal_39
    · refine lv_iload_n hx hb dX2_refusal_14 rfl (lv_at hl 2 rfl) ?_
      refine lv_aload_n hx hb dX2_refusal_15 rfl (lv_at hl 0 rfl) ?_
      refine va_get (D := (dC, dI)) (ci := 2) (v := .int (nI n)) (C := RX2) (T := TX2) (N := 16) hx hb hts iwX2_refusal hown hK hP 0 rfl rfl 7 (by decide) (hts (.fieldLink RX2 41 "MainframeDeskModel" "made" "I") (by decide +kernel)) (fun _ h9 => h9) rfl dX2_refusal_16 ?_
      refine lv_icmp_gt (tgt := 37) hx hb dX2_refusal_19 (by decide) (fun c_113 => ?_) (fun c_113 => ?_)
      · refine lv_bipush (v := (-2)) hx hb dX2_refusal_37 (by decide) ?_
        exact W.iret (v := (-2)) hx hb hr (fun t ht hW => ⟨_, rfl, (by unfold mRefX; rw [if_neg (fun q => Int32.not_le.mpr c_113 q.2)]), ht⟩) (fun _ h => absurd h List.not_mem_nil) dX2_refusal_39
      · have hxx : 1 ≤ x ∧ x ≤ nI n := ⟨Int32.not_lt.mp c_112, Int32.not_lt.mp c_113⟩
        refine lv_aload_n hx hb dX2_refusal_22 rfl (lv_at hl 0 rfl) ?_
        refine va_get (D := (dC, dI)) (ci := 2) (v := .ref qk) (C := RX2) (T := TX2) (N := 16) hx hb hts iwX2_refusal hown hK hP 0 rfl rfl 4 (by decide) (hts (.fieldLink RX2 23 "MainframeDeskModel" "kind" "[I") (by decide +kernel)) (fun _ h9 => h9) rfl dX2_refusal_23 ?_
        refine lv_iload_n hx hb dX2_refusal_26 rfl (lv_at hl 2 rfl) ?_
        refine lv_iconst (v := 1) hx hb dX2_refusal_27 (by decide) ?_
        refine lv_isub hx hb dX2_refusal_28 ?_
        refine va_iald hx hb hK hP 5 4 rfl rfl (kx_ix2 hn hxx) dX2_refusal_29 ?_
        refine lv_topi (fun v_114 ev_114 => ?_)
        replace ev_114 : v_114 = kd (mIx x) := ev_114
        refine lv_iload_n hx hb dX2_refusal_30 rfl (lv_at hl 1 rfl) ?_
        refine lv_bipush (v := 8) hx hb dX2_refusal_31 (by decide) ?_
        refine lv_irem hx hb dX2_refusal_33 (by decide) ?_
        refine lv_topi (fun z_115 ez_115 => ?_)
        refine lv_icmp_eq (tgt := 40) hx hb dX2_refusal_34 (by decide) (fun c_116 => ?_) (fun c_116 => ?_)
        · refine lv_lload_n hx hb dX2_refusal_40 rfl (lv_at hl 3 rfl) ?_
          refine lv_lconst (v := 0) hx hb dX2_refusal_41 (by decide) ?_
          refine W.lcmp hx hb dX2_refusal_42 ?_
          refine lv_if_lt (tgt := 54) hx hb dX2_refusal_43 (by decide) (fun c_117 => ?_) (fun c_117 => ?_)
          · refine lv_bipush (v := (-4)) hx hb dX2_refusal_54 (by decide) ?_
            subst ev_114
            subst ez_115
            exact W.iret (v := (-4)) hx hb hr (fun t ht hW => ⟨_, rfl, (by unfold mRefX; rw [if_pos hxx]; unfold mRef; rw [if_pos ⟨hq_110, c_116⟩, if_neg (fun q => Int64.not_le.mpr ((lg_cmp_lt _ _).mp c_117) q.1)]), ht⟩) (fun _ h => absurd h List.not_mem_nil) dX2_refusal_56
          · refine lv_lload_n hx hb dX2_refusal_46 rfl (lv_at hl 3 rfl) ?_
            refine lv_ldc2 (v := 1000000) hx hb hown (hts (.constantLong RX2 44 1000000) (by decide +kernel)) dX2_refusal_47 ?_
            refine W.lcmp hx hb dX2_refusal_50 ?_
            refine lv_if_le (tgt := 57) hx hb dX2_refusal_51 (by decide) (fun c_118 => ?_) (fun c_118 => ?_)
            · refine lv_aload_n hx hb dX2_refusal_57 rfl (lv_at hl 0 rfl) ?_
              refine va_get (D := (dC, dI)) (ci := 2) (v := .ref qt) (C := RX2) (T := TX2) (N := 16) hx hb hts iwX2_refusal hown hK hP 0 rfl rfl 5 (by decide) (hts (.fieldLink RX2 26 "MainframeDeskModel" "there" "[Z") (by decide +kernel)) (fun _ h9 => h9) rfl dX2_refusal_58 ?_
              refine lv_iload_n hx hb dX2_refusal_61 rfl (lv_at hl 2 rfl) ?_
              refine lv_iconst (v := 1) hx hb dX2_refusal_62 (by decide) ?_
              refine lv_isub hx hb dX2_refusal_63 ?_
              refine va_zald hx hb hK hP 6 5 rfl rfl (kx_ix2 hn hxx) dX2_refusal_64 ?_
              refine lv_topi (fun v_119 ev_119 => ?_)
              replace ev_119 : v_119 = ok (mIx x) := ev_119
              refine lv_if_eq (tgt := 86) hx hb dX2_refusal_65 (by decide) (fun c_120 => ?_) (fun c_120 => ?_)
              · refine lv_bipush (v := (-5)) hx hb dX2_refusal_86 (by decide) ?_
                refine lv_goto (tgt := 92) hx hb dX2_refusal_88 (by decide) ?_
                subst ev_114
                subst ez_115
                subst ev_119
                exact W.iret (v := (-5)) hx hb hr (fun t ht hW => ⟨_, rfl, (by unfold mRefX; rw [if_pos hxx]; unfold mRef; rw [if_pos ⟨hq_110, c_116⟩, if_pos ⟨Int64.not_lt.mp (fun q => c_117 ((lg_cmp_lt _ _).mpr q)), (lg_cmp_le _ _).mp c_118⟩, if_pos (Or.inl c_120)]), ht⟩) (fun _ h => absurd h List.not_mem_nil) dX2_refusal_92
              · refine lv_iload_n hx hb dX2_refusal_68 rfl (lv_at hl 1 rfl) ?_
                refine lv_bipush (v := 24) hx hb dX2_refusal_69 (by decide) ?_
                refine lv_icmp_lt (tgt := 91) hx hb dX2_refusal_71 (by decide) (fun c_121 => ?_) (fun c_121 => ?_)
                · refine lv_iconst (v := 0) hx hb dX2_refusal_91 (by decide) ?_
                  subst ev_114
                  subst ez_115
                  subst ev_119
                  exact W.iret (v := 0) hx hb hr (fun t ht hW => ⟨_, rfl, (by unfold mRefX; rw [if_pos hxx]; unfold mRef; rw [if_pos ⟨hq_110, c_116⟩, if_pos ⟨Int64.not_lt.mp (fun q => c_117 ((lg_cmp_lt _ _).mpr q)), (lg_cmp_le _ _).mp c_118⟩, if_neg (fun q => q.elim c_120 (fun w9 => Int32.not_le.mpr c_121 w9.1))]), ht⟩) (fun _ h => absurd h List.not_mem_nil) dX2_refusal_92
                · refine lv_aload_n hx hb dX2_refusal_74 rfl (lv_at hl 0 rfl) ?_
                  refine va_get (D := (dC, dI)) (ci := 2) (v := .ref qm) (C := RX2) (T := TX2) (N := 16) hx hb hts iwX2_refusal hown hK hP 0 rfl rfl 1 (by decide) (hts (.fieldLink RX2 13 "MainframeDeskModel" "many" "[I") (by decide +kernel)) (fun _ h9 => h9) rfl dX2_refusal_75 ?_
                  refine lv_iload_n hx hb dX2_refusal_78 rfl (lv_at hl 1 rfl) ?_
                  refine vp_callSi (W.runS (As := [.int cz]) (rest := [.ref qm]) ⟨hx, hb, hml, hown, hts⟩ (r_rowOf l cz) (va_cwS 1 hts gX2_refusal_X2_rowOf rfl rfl rfl (by decide +kernel) ⟨Nat.le_of_ble_eq_true rfl, Nat.le_of_ble_eq_true rfl⟩) ⟨fun _ _ _ _ q => q, fun _ _ _ => ⟨rfl, trivial⟩⟩ rfl rfl hl.1 rfl (lv_room (Nat.le_of_ble_eq_true rfl)) dX2_refusal_79 ⟨Nat.le_of_ble_eq_true rfl, Nat.le_of_ble_eq_true rfl⟩) (fun r9 hr9 => ?_)
                  rcases hr9 with ⟨h8_122, rfl⟩ | ⟨h8_122, rfl⟩
                  · refine va_iald hx hb hK hP 2 1 rfl rfl (kx_w4 hq_110) dX2_refusal_82 ?_
                    refine lv_topi (fun v_123 ev_123 => ?_)
                    refine lv_if_ne (tgt := 91) hx hb dX2_refusal_83 (by decide) (fun c_124 => ?_) (fun c_124 => ?_)
                    · refine lv_iconst (v := 0) hx hb dX2_refusal_91 (by decide) ?_
                      subst ev_114
                      subst ez_115
                      subst ev_119
                      subst ev_123
                      exact W.iret (v := 0) hx hb hr (fun t ht hW => ⟨_, rfl, (by unfold mRefX; rw [if_pos hxx]; unfold mRef; rw [if_pos ⟨hq_110, c_116⟩, if_pos ⟨Int64.not_lt.mp (fun q => c_117 ((lg_cmp_lt _ _).mpr q)), (lg_cmp_le _ _).mp c_118⟩, if_neg (fun q => q.elim c_120 (fun w9 => c_124 w9.2))]), ht⟩) (fun _ h => absurd h List.not_mem_nil) dX2_refusal_92
                    · refine lv_bipush (v := (-5)) hx hb dX2_refusal_86 (by decide) ?_
                      refine lv_goto (tgt := 92) hx hb dX2_refusal_88 (by decide) ?_
                      subst ev_114
                      subst ez_115
                      subst ev_119
                      subst ev_123
                      exact W.iret (v := (-5)) hx hb hr (fun t ht hW => ⟨_, rfl, (by unfold mRefX; rw [if_pos hxx]; unfold mRef; rw [if_pos ⟨hq_110, c_116⟩, if_pos ⟨Int64.not_lt.mp (fun q => c_117 ((lg_cmp_lt _ _).mpr q)), (lg_cmp_le _ _).mp c_118⟩, if_pos (Or.inr ⟨Int32.not_lt.mp c_121, c_124⟩)]), ht⟩) (fun _ h => absurd h List.not_mem_nil) dX2_refusal_92
                  · exact absurd (Int32.le_trans (by decide) (Int32.not_lt.mp c_121)) h8_122
            · refine lv_bipush (v := (-4)) hx hb dX2_refusal_54 (by decide) ?_
              subst ev_114
              subst ez_115
              exact W.iret (v := (-4)) hx hb hr (fun t ht hW => ⟨_, rfl, (by unfold mRefX; rw [if_pos hxx]; unfold mRef; rw [if_pos ⟨hq_110, c_116⟩, if_neg (fun q => c_118 ((lg_cmp_le _ _).mpr q.2))]), ht⟩) (fun _ h => absurd h List.not_mem_nil) dX2_refusal_56
        · refine lv_bipush (v := (-2)) hx hb dX2_refusal_37 (by decide) ?_
          subst ev_114
          subst ez_115
          exact W.iret (v := (-2)) hx hb hr (fun t ht hW => ⟨_, rfl, (by unfold mRefX; rw [if_pos hxx]; unfold mRef; rw [if_neg (fun q => c_116 q.2)]), ht⟩) (fun _ h => absurd h List.not_mem_nil) dX2_refusal_39
  · refine lv_if_eq (tgt := 37) hx hb dX2_refusal_6 (by decide) (fun _ => ?_) (fun h => absurd h (by decide))
    refine lv_bipush (v := (-2)) hx hb dX2_refusal_37 (by decide) ?_
    exact W.iret (v := (-2)) hx hb hr (fun t ht hW => ⟨_, rfl, (by unfold mRefX; (split <;> first | rfl | (unfold mRef; rw [if_neg (fun q => hq_110 q.1)]))), ht⟩) (fun _ h => absurd h List.not_mem_nil) dX2_refusal_39
end
section
theorem kx_agN {n : Nat} {kd ok cn rc : Nat → Int32} {rs an : Nat → Int64} {fl : Nat → Int32} {t0 t1 t2 t3 t4 t5 : Int32} {c x : Int32} {a : Int64} (h : ¬ mRefX n kd ok rc c x a = 0) : (mRefX n kd ok rc c x a).toInt64 = mAgain (n, kd, ok, cn, rc, rs, an, fl, t0, t1, t2, t3, t4, t5) c x a := by
  unfold mRefX at h ⊢
  unfold mAgain
  dsimp only
  by_cases hx : 1 ≤ x ∧ x ≤ nI n
  · rw [if_pos hx] at h ⊢
    rw [if_pos hx, if_neg h]
  · rw [if_neg hx, if_neg hx]
theorem kx_ag0 {n : Nat} {kd ok cn rc : Nat → Int32} {rs an : Nat → Int64} {fl : Nat → Int32} {t0 t1 t2 t3 t4 t5 : Int32} {c x : Int32} {a : Int64} (h : mRefX n kd ok rc c x a = 0) : mAgain (n, kd, ok, cn, rc, rs, an, fl, t0, t1, t2, t3, t4, t5) c x a = mOut rs an fl (kd (mIx x)) (cn (mIx x)) c a := by
  obtain ⟨h1, h2⟩ := kx_x0 h
  unfold mAgain
  dsimp only
  rw [if_pos h1, if_pos h2]
theorem kx_caN {n : Nat} {kd ok cn rc : Nat → Int32} {rs an : Nat → Int64} {fl : Nat → Int32} {t0 t1 t2 t3 t4 t5 : Int32} {c x : Int32} {a : Int64} (h : ¬ mRefX n kd ok rc c x a = 0) : mCall (n, kd, ok, cn, rc, rs, an, fl, t0, t1, t2, t3, t4, t5) c x a = (mAgain (n, kd, ok, cn, rc, rs, an, fl, t0, t1, t2, t3, t4, t5) c x a, (n, kd, ok, cn, rc, rs, an, fl, t0, t1, t2, t3, t4 + 1, t5)) := by
  unfold mRefX at h
  unfold mCall mAgain
  dsimp only
  by_cases hx : 1 ≤ x ∧ x ≤ nI n
  · rw [if_pos hx] at h
    rw [if_pos hx, if_pos hx, if_neg h, if_neg h]
  · rw [if_neg hx, if_neg hx]
theorem kx_ca0 {n : Nat} {kd ok cn rc : Nat → Int32} {rs an : Nat → Int64} {fl : Nat → Int32} {t0 t1 t2 t3 t4 t5 : Int32} {c x : Int32} {a : Int64} (h : mRefX n kd ok rc c x a = 0) : mCall (n, kd, ok, cn, rc, rs, an, fl, t0, t1, t2, t3, t4, t5) c x a = (mAgain (n, kd, ok, cn, rc, rs, an, fl, t0, t1, t2, t3, t4, t5) c x a, if fl c.toNatClampNeg = 0 then (n, kd, ok, upd cn (mIx x) (cn (mIx x) + 1), mTkC rc c, mTkS rs c, an, fl, t0, t1, t2, t3, t4, t5 + 1) else (n, kd, upd ok (mIx x) 0, cn, mTkC rc c, mTkS rs c, an, fl, fl c.toNatClampNeg, c, x, t3 + 1, t4, t5)) := by
  obtain ⟨h1, h2⟩ := kx_x0 h
  unfold mCall mAgain
  dsimp only
  rw [if_pos h1, if_pos h1, if_pos h2, if_pos h2]
theorem kx_wy {n : Nat} {kd ok cn rc : Nat → Int32} {rs an : Nat → Int64} {fl : Nat → Int32} {t0 t1 t2 t3 t4 t5 : Int32} {c x : Int32} {a : Int64} {w : Int32} (h : mWay (n, kd, ok, cn, rc, rs, an, fl, t0, t1, t2, t3, t4, t5) c x a = w) : (¬ mRefX n kd ok rc c x a = 0 ∧ w = 2) ∨ (mRefX n kd ok rc c x a = 0 ∧ fl c.toNatClampNeg = 0 ∧ w = 0) ∨ (mRefX n kd ok rc c x a = 0 ∧ ¬ fl c.toNatClampNeg = 0 ∧ w = 1) := by
  subst h
  unfold mWay
  dsimp only
  by_cases h1 : mRefX n kd ok rc c x a = 0
  · by_cases h2 : fl c.toNatClampNeg = 0
    · exact Or.inr (Or.inl ⟨h1, h2, by rw [if_pos h1, if_pos h2]⟩)
    · exact Or.inr (Or.inr ⟨h1, h2, by rw [if_pos h1, if_neg h2]⟩)
  · exact Or.inl ⟨h1, by rw [if_neg h1]⟩
theorem iwX2_reckoned : ∀ w ∈ wsX20, w ∈ wsX2_reckoned := fun _ h => List.mem_cons_of_mem _ (List.mem_append_right _ h)
set_option maxHeartbeats 1000000 in
set_option maxRecDepth 100000 in
/-- reckoned(c, x, a) -/
theorem r_reckoned (l : Launch) (dC : Nat → ClassId) (dI : Nat → Nat → Nat) (h qs qm qa qf qk qt qd : Nat) (cs cm ca cf ck ct cd : ClassId) (n : Nat) (kd ok cn rc : Nat → Int32) (rs an : Nat → Int64) (fl : Nat → Int32) (t0 t1 t2 t3 t4 t5 th wy : Int32) (hn : n ≤ 200) (sz : Nat) (cz x : Int32) (a : Int64) : Met l yX2_reckoned wsX2_reckoned ({ frames := 2, cells := 0, slots := 0, locals := 45 }) (va_Pc [.ref h, .int cz, .int x, .long a] (rQ dC dI [(cs, .long), (cm, .int), (ca, .long), (cf, .int), (ck, .int), (ct, .boolean), (cd, .long)] (rW h qs qm qa qf qk qt qd cs cm ca cf ck ct cd n kd ok cn rc rs an fl t0 t1 t2 t3 t4 t5 th wy) sz)) (va_Ql (fun (r : Int64) (u : dM × Int32 × Int32) => r = mAgain (n, kd, ok, cn, rc, rs, an, fl, t0, t1, t2, t3, t4, t5) cz x a ∧ u = ((n, kd, ok, cn, rc, rs, an, fl, t0, t1, t2, t3, t4, t5), th, mWay (n, kd, ok, cn, rc, rs, an, fl, t0, t1, t2, t3, t4, t5) cz x a)) (fun u t => dAt dC dI (rWm h qs qm qa qf qk qt qd cs cm ca cf ck ct cd u) (va_A (rW h qs qm qa qf qk qt qd cs cm ca cf ck ct cd n kd ok cn rc rs an fl t0 t1 t2 t3 t4 t5 th wy) sz) t) (va_A (rW h qs qm qa qf qk qt qd cs cm ca cf ck ct cd n kd ok cn rc rs an fl t0 t1 t2 t3 t4 t5 th wy) sz)) 0 0 (va_A (rW h qs qm qa qf qk qt qd cs cm ca cf ck ct cd n kd ok cn rc rs an fl t0 t1 t2 t3 t4 t5 th wy) sz) := by
  refine Met.ofW (cc := cX2_reckoned) (maxL := 7) (ret := (some .long)) (by decide) rfl ?_
  intro p e s m args below meth c s₁ B hml hv
  obtain ⟨rfl, hsz, hP, hK, hD0⟩ := hv
  have hx := B.exec
  have hb := B.bytes
  have hr := B.returns
  have hts := atoms_spec (ws := wsX2_reckoned) B.pre
  have hown : s.vm.findClass RX2 = some m.cls := findClass_of_methodNamed B.named
  have hlocks := B.notSynchronized
  subst hsz
  have hD := hD0.self (sz := s.heap.size)
  generalize hAe : va_A (rW h qs qm qa qf qk qt qd cs cm ca cf ck ct cd n kd ok cn rc rs an fl t0 t1 t2 t3 t4 t5 th wy) s.heap.size = A at hD ⊢
  have hA : ∀ q : Nat, s.heap.size ≤ q → A q := fun q h => by rw [← hAe]; exact Or.inr h
  have hS : va_S A s.heap s.heap [] := va_S.rf
  have hl := lv_entry ([.ref h, .int cz, .int x, .long a]) (n := 7) (Nat.le_of_ble_eq_true rfl)
  rw [lg_entry_eq]
  generalize (lg_sl ([.ref h, .int cz, .int x, .long a]) ++ List.replicate (7 - (lg_sl ([.ref h, .int cz, .int x, .long a])).length) Slot.unset).toArray = ls at hl ⊢
  have hl : lv_has ls 7 [(0, .ref h), (1, .int cz), (2, .int x), (3, .long a)] := hl
  refine lv_aload_n hx hb dX2_reckoned_0 rfl (lv_at hl 0 rfl) ?_
  refine lv_iload_n hx hb dX2_reckoned_1 rfl (lv_at hl 1 rfl) ?_
  refine lv_iload_n hx hb dX2_reckoned_2 rfl (lv_at hl 2 rfl) ?_
  refine lv_lload_n hx hb dX2_reckoned_3 rfl (lv_at hl 3 rfl) ?_
  refine vp_callSi (W.runV (As := [.int cz, .int x, .long a]) (rest := []) ⟨hx, hb, hml, hown, hts⟩ (r_refusal l dC dI h qs qm qa qf qk qt qd cs cm ca cf ck ct cd n kd ok cn rc rs an fl t0 t1 t2 t3 t4 t5 th wy hn cz x a) (cwV 3 hts gX2_reckoned_X2_refusal rfl rfl rfl (by decide +kernel) ⟨Nat.le_of_ble_eq_true rfl, Nat.le_of_ble_eq_true rfl⟩) ⟨rP_bl, va_recv hK hP (ci := 2) (q0 := 0) rfl rfl, fun U hU hW => ⟨rfl, rP_at hU hW hP hK⟩⟩ rfl rfl hl.1 rfl (lv_room (Nat.le_of_ble_eq_true rfl)) dX2_reckoned_4 ⟨Nat.le_of_ble_eq_true rfl, Nat.le_of_ble_eq_true rfl⟩) (fun r_126 er_126 => ?_)
  refine lv_istore (lv' := [(5, .int r_126), (0, .ref h), (1, .int cz), (2, .int x), (3, .long a)]) hx hb dX2_reckoned_7 hl (by decide) rfl (fun ls hl => ?_)
  refine lv_aload_n hx hb dX2_reckoned_9 rfl (lv_at hl 1 rfl) ?_
  refine lv_iload hx hb dX2_reckoned_10 (lv_at hl 0 rfl) ?_
  refine lv_if_eq (tgt := 19) hx hb dX2_reckoned_12 (by decide) (fun c_127 => ?_) (fun c_127 => ?_)
  · have hr0 : mRefX n kd ok rc cz x a = 0 := er_126.symm.trans c_127
    obtain ⟨hxx, hrf⟩ := kx_x0 hr0
    have hc := kx_refc hrf
    refine lv_aload_n hx hb dX2_reckoned_19 rfl (lv_at hl 1 rfl) ?_
    refine va_get (D := (dC, dI)) (ci := 2) (v := .ref qf) (C := RX2) (T := TX2) (N := 16) hx hb hts iwX2_reckoned hown hK hP 0 rfl rfl 3 (by decide) (hts (.fieldLink RX2 20 "MainframeDeskModel" "failures" "[I") (by decide +kernel)) (fun _ h9 => h9) rfl dX2_reckoned_20 ?_
    refine lv_iload_n hx hb dX2_reckoned_23 rfl (lv_at hl 2 rfl) ?_
    refine va_iald hx hb hK hP 4 3 rfl rfl (kx_in hc (by decide)) dX2_reckoned_24 ?_
    refine lv_topi (fun v_128 ev_128 => ?_)
    refine lv_if_eq (tgt := 32) hx hb dX2_reckoned_25 (by decide) (fun c_129 => ?_) (fun c_129 => ?_)
    · refine lv_iconst (v := 0) hx hb dX2_reckoned_32 (by decide) ?_
      refine va_put (D := (dC, dI)) (ci := 2) (v := .int 0) (ty := .int) (C := RX2) (T := TX2) (N := 16) hx hb hts iwX2_reckoned tyX2 tyX2_ok nmX2 hown hK hP hD hS 0 rfl rfl 15 (by decide) (hts (.fieldLink RX2 54 "MainframeDeskModel" "way" "I") (by decide +kernel)) (fun _ h9 => h9) rfl (by decide +kernel) rfl rfl (Nat.le_of_ble_eq_true rfl) dX2_reckoned_33 (fun H locs hP hD hS => ?_)
      have hP : va_P (dC, dI) vwCl (rW h qs qm qa qf qk qt qd cs cm ca cf ck ct cd n kd ok cn rc rs an fl t0 t1 t2 t3 t4 t5 th 0) H := hP
      have hD : va_D A (rW h qs qm qa qf qk qt qd cs cm ca cf ck ct cd n kd ok cn rc rs an fl t0 t1 t2 t3 t4 t5 th 0) := hD
      refine lv_aload_n hx hb dX2_reckoned_36 rfl (lv_at hl 1 rfl) ?_
      refine va_get (D := (dC, dI)) (ci := 2) (v := .int 0) (C := RX2) (T := TX2) (N := 16) hx hb hts iwX2_reckoned hown hK hP 0 rfl rfl 15 (by decide) (hts (.fieldLink RX2 54 "MainframeDeskModel" "way" "I") (by decide +kernel)) (fun _ h9 => h9) rfl dX2_reckoned_37 ?_
      refine lv_iconst (v := 2) hx hb dX2_reckoned_40 (by decide) ?_
      refine lv_icmp_ne (tgt := 48) hx hb dX2_reckoned_41 (by decide) (fun _ => ?_) (fun h => absurd h (by decide))
      refine lv_aload_n hx hb dX2_reckoned_48 rfl (lv_at hl 1 rfl) ?_
      refine va_get (D := (dC, dI)) (ci := 2) (v := .int 0) (C := RX2) (T := TX2) (N := 16) hx hb hts iwX2_reckoned hown hK hP 0 rfl rfl 15 (by decide) (hts (.fieldLink RX2 54 "MainframeDeskModel" "way" "I") (by decide +kernel)) (fun _ h9 => h9) rfl dX2_reckoned_49 ?_
      refine lv_iconst (v := 1) hx hb dX2_reckoned_52 (by decide) ?_
      refine lv_icmp_ne (tgt := 67) hx hb dX2_reckoned_53 (by decide) (fun _ => ?_) (fun h => absurd h (by decide))
      refine lv_iload_n hx hb dX2_reckoned_67 rfl (lv_at hl 2 rfl) ?_
      refine vp_callSi (W.runS (As := [.int cz]) (rest := []) ⟨hx, hb, hml, hown, hts⟩ (r_rowOf l cz) (va_cwS 1 hts gX2_reckoned_X2_rowOf rfl rfl rfl (by decide +kernel) ⟨Nat.le_of_ble_eq_true rfl, Nat.le_of_ble_eq_true rfl⟩) ⟨fun _ _ _ _ q => q, fun _ _ _ => ⟨rfl, trivial⟩⟩ rfl rfl hl.1 rfl (lv_room (Nat.le_of_ble_eq_true rfl)) dX2_reckoned_68 ⟨Nat.le_of_ble_eq_true rfl, Nat.le_of_ble_eq_true rfl⟩) (fun r9 hr9 => ?_)
      rcases hr9 with ⟨h8_132, rfl⟩ | ⟨h8_132, rfl⟩
      · refine lv_istore (lv' := [(6, .int (mW4 cz)), (5, .int r_126), (0, .ref h), (1, .int cz), (2, .int x), (3, .long a)]) hx hb dX2_reckoned_71 hl (by decide) rfl (fun ls hl => ?_)
        refine lv_aload_n hx hb dX2_reckoned_73 rfl (lv_at hl 2 rfl) ?_
        refine va_get (D := (dC, dI)) (ci := 2) (v := .ref qa) (C := RX2) (T := TX2) (N := 16) hx hb hts iwX2_reckoned hown hK hP 0 rfl rfl 2 (by decide) (hts (.fieldLink RX2 17 "MainframeDeskModel" "answers" "[J") (by decide +kernel)) (fun _ h9 => h9) rfl dX2_reckoned_74 ?_
        refine lv_iload_n hx hb dX2_reckoned_77 rfl (lv_at hl 3 rfl) ?_
        refine va_lald hx hb hK hP 3 2 rfl rfl (kx_in hc (by decide)) dX2_reckoned_78 ?_
        refine lv_topl (fun v_142 ev_142 => ?_)
        refine lv_lload_n hx hb dX2_reckoned_79 rfl (lv_at hl 5 rfl) ?_
        refine lv_ladd hx hb dX2_reckoned_80 ?_
        refine lv_topl (fun z_143 ez_143 => ?_)
        refine lv_iload hx hb dX2_reckoned_81 (lv_at hl 0 rfl) ?_
        refine lv_iconst (v := (-1)) hx hb dX2_reckoned_83 (by decide) ?_
        refine lv_icmp_ne (tgt := 91) hx hb dX2_reckoned_84 (by decide) (fun c_144 => ?_) (fun c_144 => ?_)
        · refine lv_aload_n hx hb dX2_reckoned_91 rfl (lv_at hl 2 rfl) ?_
          refine va_get (D := (dC, dI)) (ci := 2) (v := .ref qs) (C := RX2) (T := TX2) (N := 16) hx hb hts iwX2_reckoned hown hK hP 0 rfl rfl 0 (by decide) (hts (.fieldLink RX2 7 "MainframeDeskModel" "sum" "[J") (by decide +kernel)) (fun _ h9 => h9) rfl dX2_reckoned_92 ?_
          refine lv_iload hx hb dX2_reckoned_95 (lv_at hl 0 rfl) ?_
          refine va_lald hx hb hK hP 1 0 rfl rfl (kx_w4 hc) dX2_reckoned_97 ?_
          refine lv_topl (fun v_145 ev_145 => ?_)
          refine lv_ladd hx hb dX2_reckoned_98 ?_
          refine lv_topl (fun z_146 ez_146 => ?_)
          refine lv_aload_n hx hb dX2_reckoned_99 rfl (lv_at hl 2 rfl) ?_
          refine va_get (D := (dC, dI)) (ci := 2) (v := .ref qk) (C := RX2) (T := TX2) (N := 16) hx hb hts iwX2_reckoned hown hK hP 0 rfl rfl 4 (by decide) (hts (.fieldLink RX2 23 "MainframeDeskModel" "kind" "[I") (by decide +kernel)) (fun _ h9 => h9) rfl dX2_reckoned_100 ?_
          refine lv_iload_n hx hb dX2_reckoned_103 rfl (lv_at hl 4 rfl) ?_
          refine lv_iconst (v := 1) hx hb dX2_reckoned_104 (by decide) ?_
          refine lv_isub hx hb dX2_reckoned_105 ?_
          refine va_iald hx hb hK hP 5 4 rfl rfl (kx_ix2 hn hxx) dX2_reckoned_106 ?_
          refine lv_topi (fun v_147 ev_147 => ?_)
          replace ev_147 : v_147 = kd (mIx x) := ev_147
          refine lv_iconst (v := 3) hx hb dX2_reckoned_107 (by decide) ?_
          refine lv_icmp_ne (tgt := 122) hx hb dX2_reckoned_108 (by decide) (fun c_148 => ?_) (fun c_148 => ?_)
          · refine lv_lconst (v := 0) hx hb dX2_reckoned_122 (by decide) ?_
            refine lv_ladd hx hb dX2_reckoned_123 ?_
            refine lv_topl (fun z_149 ez_149 => ?_)
            exact W.lret (v := z_149) hx hb hr (fun t ht hW => ⟨⟨_, ((n, kd, ok, cn, rc, rs, an, fl, t0, t1, t2, t3, t4, t5), th, 0), rfl, (by subst ev_128; subst ev_142; subst ez_143; subst ev_145; subst ez_146; subst ev_147; subst ez_149; refine ⟨?_, congrArg (fun z => ((n, kd, ok, cn, rc, rs, an, fl, t0, t1, t2, t3, t4, t5), th, z)) (by unfold mWay; dsimp only; rw [if_pos hr0, if_pos c_129])⟩; rw [kx_ag0 hr0]; unfold mOut; rw [if_pos c_129, if_neg c_148, if_pos h8_132]; simp only [mL, Int64.add_zero]), by rw [ht]; exact hP, hD⟩, hS.F ht⟩) hS.2.2 dX2_reckoned_124
          · refine lv_aload_n hx hb dX2_reckoned_111 rfl (lv_at hl 2 rfl) ?_
            refine va_get (D := (dC, dI)) (ci := 2) (v := .ref qd) (C := RX2) (T := TX2) (N := 16) hx hb hts iwX2_reckoned hown hK hP 0 rfl rfl 6 (by decide) (hts (.fieldLink RX2 30 "MainframeDeskModel" "answered" "[J") (by decide +kernel)) (fun _ h9 => h9) rfl dX2_reckoned_112 ?_
            refine lv_iload_n hx hb dX2_reckoned_115 rfl (lv_at hl 4 rfl) ?_
            refine lv_iconst (v := 1) hx hb dX2_reckoned_116 (by decide) ?_
            refine lv_isub hx hb dX2_reckoned_117 ?_
            refine va_lald hx hb hK hP 7 6 rfl rfl (kx_ix2 hn hxx) dX2_reckoned_118 ?_
            refine lv_topl (fun v_150 ev_150 => ?_)
            replace ev_150 : v_150 = (mL cn) (mIx x) := ev_150
            refine lv_goto (tgt := 123) hx hb dX2_reckoned_119 (by decide) ?_
            refine lv_ladd hx hb dX2_reckoned_123 ?_
            refine lv_topl (fun z_151 ez_151 => ?_)
            exact W.lret (v := z_151) hx hb hr (fun t ht hW => ⟨⟨_, ((n, kd, ok, cn, rc, rs, an, fl, t0, t1, t2, t3, t4, t5), th, 0), rfl, (by subst ev_128; subst ev_142; subst ez_143; subst ev_145; subst ez_146; subst ev_147; subst ev_150; subst ez_151; refine ⟨?_, congrArg (fun z => ((n, kd, ok, cn, rc, rs, an, fl, t0, t1, t2, t3, t4, t5), th, z)) (by unfold mWay; dsimp only; rw [if_pos hr0, if_pos c_129])⟩; rw [kx_ag0 hr0]; unfold mOut; rw [if_pos c_129, if_pos c_148, if_pos h8_132]; simp only [mL, Int64.add_zero]), by rw [ht]; exact hP, hD⟩, hS.F ht⟩) hS.2.2 dX2_reckoned_124
        · exact absurd c_144 (kx_w4n hc)
      · refine lv_istore (lv' := [(6, .int (-1)), (5, .int r_126), (0, .ref h), (1, .int cz), (2, .int x), (3, .long a)]) hx hb dX2_reckoned_71 hl (by decide) rfl (fun ls hl => ?_)
        refine lv_aload_n hx hb dX2_reckoned_73 rfl (lv_at hl 2 rfl) ?_
        refine va_get (D := (dC, dI)) (ci := 2) (v := .ref qa) (C := RX2) (T := TX2) (N := 16) hx hb hts iwX2_reckoned hown hK hP 0 rfl rfl 2 (by decide) (hts (.fieldLink RX2 17 "MainframeDeskModel" "answers" "[J") (by decide +kernel)) (fun _ h9 => h9) rfl dX2_reckoned_74 ?_
        refine lv_iload_n hx hb dX2_reckoned_77 rfl (lv_at hl 3 rfl) ?_
        refine va_lald hx hb hK hP 3 2 rfl rfl (kx_in hc (by decide)) dX2_reckoned_78 ?_
        refine lv_topl (fun v_133 ev_133 => ?_)
        refine lv_lload_n hx hb dX2_reckoned_79 rfl (lv_at hl 5 rfl) ?_
        refine lv_ladd hx hb dX2_reckoned_80 ?_
        refine lv_topl (fun z_134 ez_134 => ?_)
        refine lv_iload hx hb dX2_reckoned_81 (lv_at hl 0 rfl) ?_
        refine lv_iconst (v := (-1)) hx hb dX2_reckoned_83 (by decide) ?_
        refine lv_icmp_ne (tgt := 91) hx hb dX2_reckoned_84 (by decide) (fun h => absurd h (by decide)) (fun _ => ?_)
        refine lv_lconst (v := 0) hx hb dX2_reckoned_87 (by decide) ?_
        refine lv_goto (tgt := 98) hx hb dX2_reckoned_88 (by decide) ?_
        refine lv_ladd hx hb dX2_reckoned_98 ?_
        refine lv_topl (fun z_136 ez_136 => ?_)
        refine lv_aload_n hx hb dX2_reckoned_99 rfl (lv_at hl 2 rfl) ?_
        refine va_get (D := (dC, dI)) (ci := 2) (v := .ref qk) (C := RX2) (T := TX2) (N := 16) hx hb hts iwX2_reckoned hown hK hP 0 rfl rfl 4 (by decide) (hts (.fieldLink RX2 23 "MainframeDeskModel" "kind" "[I") (by decide +kernel)) (fun _ h9 => h9) rfl dX2_reckoned_100 ?_
        refine lv_iload_n hx hb dX2_reckoned_103 rfl (lv_at hl 4 rfl) ?_
        refine lv_iconst (v := 1) hx hb dX2_reckoned_104 (by decide) ?_
        refine lv_isub hx hb dX2_reckoned_105 ?_
        refine va_iald hx hb hK hP 5 4 rfl rfl (kx_ix2 hn hxx) dX2_reckoned_106 ?_
        refine lv_topi (fun v_137 ev_137 => ?_)
        replace ev_137 : v_137 = kd (mIx x) := ev_137
        refine lv_iconst (v := 3) hx hb dX2_reckoned_107 (by decide) ?_
        refine lv_icmp_ne (tgt := 122) hx hb dX2_reckoned_108 (by decide) (fun c_138 => ?_) (fun c_138 => ?_)
        · refine lv_lconst (v := 0) hx hb dX2_reckoned_122 (by decide) ?_
          refine lv_ladd hx hb dX2_reckoned_123 ?_
          refine lv_topl (fun z_139 ez_139 => ?_)
          exact W.lret (v := z_139) hx hb hr (fun t ht hW => ⟨⟨_, ((n, kd, ok, cn, rc, rs, an, fl, t0, t1, t2, t3, t4, t5), th, 0), rfl, (by subst ev_128; subst ev_133; subst ez_134; subst ez_136; subst ev_137; subst ez_139; refine ⟨?_, congrArg (fun z => ((n, kd, ok, cn, rc, rs, an, fl, t0, t1, t2, t3, t4, t5), th, z)) (by unfold mWay; dsimp only; rw [if_pos hr0, if_pos c_129])⟩; rw [kx_ag0 hr0]; unfold mOut; rw [if_pos c_129, if_neg c_138, if_neg h8_132]; simp only [mL, Int64.add_zero]), by rw [ht]; exact hP, hD⟩, hS.F ht⟩) hS.2.2 dX2_reckoned_124
        · refine lv_aload_n hx hb dX2_reckoned_111 rfl (lv_at hl 2 rfl) ?_
          refine va_get (D := (dC, dI)) (ci := 2) (v := .ref qd) (C := RX2) (T := TX2) (N := 16) hx hb hts iwX2_reckoned hown hK hP 0 rfl rfl 6 (by decide) (hts (.fieldLink RX2 30 "MainframeDeskModel" "answered" "[J") (by decide +kernel)) (fun _ h9 => h9) rfl dX2_reckoned_112 ?_
          refine lv_iload_n hx hb dX2_reckoned_115 rfl (lv_at hl 4 rfl) ?_
          refine lv_iconst (v := 1) hx hb dX2_reckoned_116 (by decide) ?_
          refine lv_isub hx hb dX2_reckoned_117 ?_
          refine va_lald hx hb hK hP 7 6 rfl rfl (kx_ix2 hn hxx) dX2_reckoned_118 ?_
          refine lv_topl (fun v_140 ev_140 => ?_)
          replace ev_140 : v_140 = (mL cn) (mIx x) := ev_140
          refine lv_goto (tgt := 123) hx hb dX2_reckoned_119 (by decide) ?_
          refine lv_ladd hx hb dX2_reckoned_123 ?_
          refine lv_topl (fun z_141 ez_141 => ?_)
          exact W.lret (v := z_141) hx hb hr (fun t ht hW => ⟨⟨_, ((n, kd, ok, cn, rc, rs, an, fl, t0, t1, t2, t3, t4, t5), th, 0), rfl, (by subst ev_128; subst ev_133; subst ez_134; subst ez_136; subst ev_137; subst ev_140; subst ez_141; refine ⟨?_, congrArg (fun z => ((n, kd, ok, cn, rc, rs, an, fl, t0, t1, t2, t3, t4, t5), th, z)) (by unfold mWay; dsimp only; rw [if_pos hr0, if_pos c_129])⟩; rw [kx_ag0 hr0]; unfold mOut; rw [if_pos c_129, if_pos c_138, if_neg h8_132]; simp only [mL, Int64.add_zero]), by rw [ht]; exact hP, hD⟩, hS.F ht⟩) hS.2.2 dX2_reckoned_124
    · refine lv_iconst (v := 1) hx hb dX2_reckoned_28 (by decide) ?_
      refine lv_goto (tgt := 33) hx hb dX2_reckoned_29 (by decide) ?_
      refine va_put (D := (dC, dI)) (ci := 2) (v := .int 1) (ty := .int) (C := RX2) (T := TX2) (N := 16) hx hb hts iwX2_reckoned tyX2 tyX2_ok nmX2 hown hK hP hD hS 0 rfl rfl 15 (by decide) (hts (.fieldLink RX2 54 "MainframeDeskModel" "way" "I") (by decide +kernel)) (fun _ h9 => h9) rfl (by decide +kernel) rfl rfl (Nat.le_of_ble_eq_true rfl) dX2_reckoned_33 (fun H locs hP hD hS => ?_)
      have hP : va_P (dC, dI) vwCl (rW h qs qm qa qf qk qt qd cs cm ca cf ck ct cd n kd ok cn rc rs an fl t0 t1 t2 t3 t4 t5 th 1) H := hP
      have hD : va_D A (rW h qs qm qa qf qk qt qd cs cm ca cf ck ct cd n kd ok cn rc rs an fl t0 t1 t2 t3 t4 t5 th 1) := hD
      refine lv_aload_n hx hb dX2_reckoned_36 rfl (lv_at hl 1 rfl) ?_
      refine va_get (D := (dC, dI)) (ci := 2) (v := .int 1) (C := RX2) (T := TX2) (N := 16) hx hb hts iwX2_reckoned hown hK hP 0 rfl rfl 15 (by decide) (hts (.fieldLink RX2 54 "MainframeDeskModel" "way" "I") (by decide +kernel)) (fun _ h9 => h9) rfl dX2_reckoned_37 ?_
      refine lv_iconst (v := 2) hx hb dX2_reckoned_40 (by decide) ?_
      refine lv_icmp_ne (tgt := 48) hx hb dX2_reckoned_41 (by decide) (fun _ => ?_) (fun h => absurd h (by decide))
      refine lv_aload_n hx hb dX2_reckoned_48 rfl (lv_at hl 1 rfl) ?_
      refine va_get (D := (dC, dI)) (ci := 2) (v := .int 1) (C := RX2) (T := TX2) (N := 16) hx hb hts iwX2_reckoned hown hK hP 0 rfl rfl 15 (by decide) (hts (.fieldLink RX2 54 "MainframeDeskModel" "way" "I") (by decide +kernel)) (fun _ h9 => h9) rfl dX2_reckoned_49 ?_
      refine lv_iconst (v := 1) hx hb dX2_reckoned_52 (by decide) ?_
      refine lv_icmp_ne (tgt := 67) hx hb dX2_reckoned_53 (by decide) (fun h => absurd h (by decide)) (fun _ => ?_)
      refine lv_bipush (v := (-10)) hx hb dX2_reckoned_56 (by decide) ?_
      refine lv_aload_n hx hb dX2_reckoned_58 rfl (lv_at hl 1 rfl) ?_
      refine va_get (D := (dC, dI)) (ci := 2) (v := .ref qf) (C := RX2) (T := TX2) (N := 16) hx hb hts iwX2_reckoned hown hK hP 0 rfl rfl 3 (by decide) (hts (.fieldLink RX2 20 "MainframeDeskModel" "failures" "[I") (by decide +kernel)) (fun _ h9 => h9) rfl dX2_reckoned_59 ?_
      refine lv_iload_n hx hb dX2_reckoned_62 rfl (lv_at hl 2 rfl) ?_
      refine va_iald hx hb hK hP 4 3 rfl rfl (kx_in hc (by decide)) dX2_reckoned_63 ?_
      refine lv_topi (fun v_154 ev_154 => ?_)
      refine lv_isub hx hb dX2_reckoned_64 ?_
      refine lv_topi (fun z_155 ez_155 => ?_)
      refine lv_i2l (v := z_155.toInt64) hx hb dX2_reckoned_65 rfl ?_
      exact W.lret (v := z_155.toInt64) hx hb hr (fun t ht hW => ⟨⟨_, ((n, kd, ok, cn, rc, rs, an, fl, t0, t1, t2, t3, t4, t5), th, 1), rfl, (by subst ev_128; subst ev_154; subst ez_155; refine ⟨?_, congrArg (fun z => ((n, kd, ok, cn, rc, rs, an, fl, t0, t1, t2, t3, t4, t5), th, z)) (by unfold mWay; dsimp only; rw [if_pos hr0, if_neg c_129])⟩; rw [kx_ag0 hr0]; unfold mOut; rw [if_neg c_129]), by rw [ht]; exact hP, hD⟩, hS.F ht⟩) hS.2.2 dX2_reckoned_66
  · refine lv_iconst (v := 2) hx hb dX2_reckoned_15 (by decide) ?_
    refine lv_goto (tgt := 33) hx hb dX2_reckoned_16 (by decide) ?_
    refine va_put (D := (dC, dI)) (ci := 2) (v := .int 2) (ty := .int) (C := RX2) (T := TX2) (N := 16) hx hb hts iwX2_reckoned tyX2 tyX2_ok nmX2 hown hK hP hD hS 0 rfl rfl 15 (by decide) (hts (.fieldLink RX2 54 "MainframeDeskModel" "way" "I") (by decide +kernel)) (fun _ h9 => h9) rfl (by decide +kernel) rfl rfl (Nat.le_of_ble_eq_true rfl) dX2_reckoned_33 (fun H locs hP hD hS => ?_)
    have hP : va_P (dC, dI) vwCl (rW h qs qm qa qf qk qt qd cs cm ca cf ck ct cd n kd ok cn rc rs an fl t0 t1 t2 t3 t4 t5 th 2) H := hP
    have hD : va_D A (rW h qs qm qa qf qk qt qd cs cm ca cf ck ct cd n kd ok cn rc rs an fl t0 t1 t2 t3 t4 t5 th 2) := hD
    refine lv_aload_n hx hb dX2_reckoned_36 rfl (lv_at hl 1 rfl) ?_
    refine va_get (D := (dC, dI)) (ci := 2) (v := .int 2) (C := RX2) (T := TX2) (N := 16) hx hb hts iwX2_reckoned hown hK hP 0 rfl rfl 15 (by decide) (hts (.fieldLink RX2 54 "MainframeDeskModel" "way" "I") (by decide +kernel)) (fun _ h9 => h9) rfl dX2_reckoned_37 ?_
    refine lv_iconst (v := 2) hx hb dX2_reckoned_40 (by decide) ?_
    refine lv_icmp_ne (tgt := 48) hx hb dX2_reckoned_41 (by decide) (fun h => absurd h (by decide)) (fun _ => ?_)
    refine lv_iload hx hb dX2_reckoned_44 (lv_at hl 0 rfl) ?_
    refine lv_i2l (v := r_126.toInt64) hx hb dX2_reckoned_46 rfl ?_
    exact W.lret (v := r_126.toInt64) hx hb hr (fun t ht hW => ⟨⟨_, ((n, kd, ok, cn, rc, rs, an, fl, t0, t1, t2, t3, t4, t5), th, 2), rfl, (by have hne : ¬ mRefX n kd ok rc cz x a = 0 := fun q => c_127 (er_126.trans q); refine ⟨?_, congrArg (fun z => ((n, kd, ok, cn, rc, rs, an, fl, t0, t1, t2, t3, t4, t5), th, z)) (by unfold mWay; dsimp only; rw [if_neg hne])⟩; rw [er_126]; exact kx_agN hne), by rw [ht]; exact hP, hD⟩, hS.F ht⟩) hS.2.2 dX2_reckoned_47
theorem iwX2_again : ∀ w ∈ wsX20, w ∈ wsX2_again := fun _ h => List.mem_cons_of_mem _ (List.mem_append_right _ h)
set_option maxHeartbeats 1000000 in
set_option maxRecDepth 100000 in
/-- again(c, x, a) -/
theorem r_again (l : Launch) (dC : Nat → ClassId) (dI : Nat → Nat → Nat) (h qs qm qa qf qk qt qd : Nat) (cs cm ca cf ck ct cd : ClassId) (n : Nat) (kd ok cn rc : Nat → Int32) (rs an : Nat → Int64) (fl : Nat → Int32) (t0 t1 t2 t3 t4 t5 th wy : Int32) (hn : n ≤ 200) (sz : Nat) (cz x : Int32) (a : Int64) : Met l yX2_again wsX2_again ({ frames := 3, cells := 0, slots := 0, locals := 71 }) (va_Pc [.ref h, .int cz, .int x, .long a] (rQ dC dI [(cs, .long), (cm, .int), (ca, .long), (cf, .int), (ck, .int), (ct, .boolean), (cd, .long)] (rW h qs qm qa qf qk qt qd cs cm ca cf ck ct cd n kd ok cn rc rs an fl t0 t1 t2 t3 t4 t5 th wy) sz)) (va_Ql (fun (r : Int64) (u : dM × Int32 × Int32) => r = mAgain (n, kd, ok, cn, rc, rs, an, fl, t0, t1, t2, t3, t4, t5) cz x a ∧ u.1 = (n, kd, ok, cn, rc, rs, an, fl, t0, t1, t2, t3, t4, t5)) (fun u t => dAt dC dI (rWm h qs qm qa qf qk qt qd cs cm ca cf ck ct cd u) (va_A (rW h qs qm qa qf qk qt qd cs cm ca cf ck ct cd n kd ok cn rc rs an fl t0 t1 t2 t3 t4 t5 th wy) sz) t) (va_A (rW h qs qm qa qf qk qt qd cs cm ca cf ck ct cd n kd ok cn rc rs an fl t0 t1 t2 t3 t4 t5 th wy) sz)) 0 0 (va_A (rW h qs qm qa qf qk qt qd cs cm ca cf ck ct cd n kd ok cn rc rs an fl t0 t1 t2 t3 t4 t5 th wy) sz) := by
  refine Met.ofW (cc := cX2_again) (maxL := 5) (ret := (some .long)) (by decide) rfl ?_
  intro p e s m args below meth c s₁ B hml hv
  obtain ⟨rfl, hsz, hP, hK, hD0⟩ := hv
  have hx := B.exec
  have hb := B.bytes
  have hr := B.returns
  have hts := atoms_spec (ws := wsX2_again) B.pre
  have hown : s.vm.findClass RX2 = some m.cls := findClass_of_methodNamed B.named
  have hlocks := B.notSynchronized
  subst hsz
  have hD := hD0.self (sz := s.heap.size)
  generalize hAe : va_A (rW h qs qm qa qf qk qt qd cs cm ca cf ck ct cd n kd ok cn rc rs an fl t0 t1 t2 t3 t4 t5 th wy) s.heap.size = A at hD ⊢
  have hA : ∀ q : Nat, s.heap.size ≤ q → A q := fun q h => by rw [← hAe]; exact Or.inr h
  have hS : va_S A s.heap s.heap [] := va_S.rf
  have hl := lv_entry ([.ref h, .int cz, .int x, .long a]) (n := 5) (Nat.le_of_ble_eq_true rfl)
  rw [lg_entry_eq]
  generalize (lg_sl ([.ref h, .int cz, .int x, .long a]) ++ List.replicate (5 - (lg_sl ([.ref h, .int cz, .int x, .long a])).length) Slot.unset).toArray = ls at hl ⊢
  have hl : lv_has ls 5 [(0, .ref h), (1, .int cz), (2, .int x), (3, .long a)] := hl
  refine lv_aload_n hx hb dX2_again_0 rfl (lv_at hl 0 rfl) ?_
  refine lv_iconst (v := 0) hx hb dX2_again_1 (by decide) ?_
  refine va_put (D := (dC, dI)) (ci := 2) (v := .int 0) (ty := .int) (C := RX2) (T := TX2) (N := 16) hx hb hts iwX2_again tyX2 tyX2_ok nmX2 hown hK hP hD hS 0 rfl rfl 8 (by decide) (hts (.fieldLink RX2 33 "MainframeDeskModel" "thrown" "I") (by decide +kernel)) (fun _ h9 => h9) rfl (by decide +kernel) rfl rfl (Nat.le_of_ble_eq_true rfl) dX2_again_2 (fun H locs hP hD hS => ?_)
  have hP : va_P (dC, dI) vwCl (rW h qs qm qa qf qk qt qd cs cm ca cf ck ct cd n kd ok cn rc rs an fl t0 t1 t2 t3 t4 t5 0 wy) H := hP
  have hD : va_D A (rW h qs qm qa qf qk qt qd cs cm ca cf ck ct cd n kd ok cn rc rs an fl t0 t1 t2 t3 t4 t5 0 wy) := hD
  refine lv_aload_n hx hb dX2_again_5 rfl (lv_at hl 0 rfl) ?_
  refine lv_iload_n hx hb dX2_again_6 rfl (lv_at hl 1 rfl) ?_
  refine lv_iload_n hx hb dX2_again_7 rfl (lv_at hl 2 rfl) ?_
  refine lv_lload_n hx hb dX2_again_8 rfl (lv_at hl 3 rfl) ?_
  have hFc := kx_fr hD hS hA
  refine va_calll (va_runV (As := [.int cz, .int x, .long a]) (rest := []) ⟨hx, hb, hml, hown, hts⟩ (r_reckoned l dC dI h qs qm qa qf qk qt qd cs cm ca cf ck ct cd n kd ok cn rc rs an fl t0 t1 t2 t3 t4 t5 0 wy hn H.size cz x a) (cwV 3 hts gX2_again_X2_reckoned rfl rfl rfl (by decide +kernel) ⟨Nat.le_of_ble_eq_true rfl, Nat.le_of_ble_eq_true rfl⟩) ⟨rQ_bl, va_recv hK hP (ci := 2) (q0 := 0) rfl rfl, fun U hU hW => ⟨rfl, rQ_at hU hW hP hK hD⟩⟩ rfl rfl hl.1 rfl (lv_room (Nat.le_of_ble_eq_true rfl)) dX2_again_9 ⟨Nat.le_of_ble_eq_true rfl, Nat.le_of_ble_eq_true rfl⟩) hS (fun q _ h => hFc q h) hFc (fun o_157 u t H locs ht hvm hw hB hz1 hk1 hS => ?_)
  obtain ⟨eo_157, hw⟩ := hw
  subst hw
  obtain ⟨hP, hD1⟩ := hB
  rw [ht] at hP
  have hP : va_P (dC, dI) vwCl (rW h qs qm qa qf qk qt qd cs cm ca cf ck ct cd n kd ok cn rc rs an fl t0 t1 t2 t3 t4 t5 0 (mWay (n, kd, ok, cn, rc, rs, an, fl, t0, t1, t2, t3, t4, t5) cz x a)) H := hP
  have hD : va_D A (rW h qs qm qa qf qk qt qd cs cm ca cf ck ct cd n kd ok cn rc rs an fl t0 t1 t2 t3 t4 t5 0 (mWay (n, kd, ok, cn, rc, rs, an, fl, t0, t1, t2, t3, t4, t5) cz x a)) := hD1.weaken (fun _ q _ h9 => hFc q.1 h9)
  generalize ewy : mWay (n, kd, ok, cn, rc, rs, an, fl, t0, t1, t2, t3, t4, t5) cz x a = wy9 at hP hD
  subst ewy
  exact W.lret (v := o_157) hx hb hr (fun t ht hW => ⟨⟨_, ((n, kd, ok, cn, rc, rs, an, fl, t0, t1, t2, t3, t4, t5), 0, mWay (n, kd, ok, cn, rc, rs, an, fl, t0, t1, t2, t3, t4, t5) cz x a), rfl, ⟨eo_157, rfl⟩, by rw [ht]; exact hP, hD⟩, hS.F ht⟩) hS.2.2 dX2_again_12
end
section
theorem iwX2_call : ∀ w ∈ wsX20, w ∈ wsX2_call := fun _ h => List.mem_cons_of_mem _ (List.mem_append_right _ h)
set_option maxHeartbeats 1000000 in
set_option maxRecDepth 100000 in
/-- call(c, x, a) -/
theorem r_call (l : Launch) (dC : Nat → ClassId) (dI : Nat → Nat → Nat) (h qs qm qa qf qk qt qd : Nat) (cs cm ca cf ck ct cd : ClassId) (n : Nat) (kd ok cn rc : Nat → Int32) (rs an : Nat → Int64) (fl : Nat → Int32) (t0 t1 t2 t3 t4 t5 th wy : Int32) (hn : n ≤ 200) (hcn : ∀ j, cn j < 1000000) (sz : Nat) (cz x : Int32) (a : Int64) : Met l yX2_call wsX2_call ({ frames := 3, cells := 0, slots := 0, locals := 71 }) (va_Pc [.ref h, .int cz, .int x, .long a] (rQ dC dI [(cs, .long), (cm, .int), (ca, .long), (cf, .int), (ck, .int), (ct, .boolean), (cd, .long)] (rW h qs qm qa qf qk qt qd cs cm ca cf ck ct cd n kd ok cn rc rs an fl t0 t1 t2 t3 t4 t5 th wy) sz)) (va_Ql (fun (r : Int64) (u : dM × Int32 × Int32) => (r, u.1) = mCall (n, kd, ok, cn, rc, rs, an, fl, t0, t1, t2, t3, t4, t5) cz x a) (fun u t => dAt dC dI (rWm h qs qm qa qf qk qt qd cs cm ca cf ck ct cd u) (va_A (rW h qs qm qa qf qk qt qd cs cm ca cf ck ct cd n kd ok cn rc rs an fl t0 t1 t2 t3 t4 t5 th wy) sz) t) (va_A (rW h qs qm qa qf qk qt qd cs cm ca cf ck ct cd n kd ok cn rc rs an fl t0 t1 t2 t3 t4 t5 th wy) sz)) 0 0 (va_A (rW h qs qm qa qf qk qt qd cs cm ca cf ck ct cd n kd ok cn rc rs an fl t0 t1 t2 t3 t4 t5 th wy) sz) := by
  refine Met.ofW (cc := cX2_call) (maxL := 8) (ret := (some .long)) (by decide) rfl ?_
  intro p e s m args below meth c s₁ B hml hv
  obtain ⟨rfl, hsz, hP, hK, hD0⟩ := hv
  have hx := B.exec
  have hb := B.bytes
  have hr := B.returns
  have hts := atoms_spec (ws := wsX2_call) B.pre
  have hown : s.vm.findClass RX2 = some m.cls := findClass_of_methodNamed B.named
  have hlocks := B.notSynchronized
  subst hsz
  have hD := hD0.self (sz := s.heap.size)
  generalize hAe : va_A (rW h qs qm qa qf qk qt qd cs cm ca cf ck ct cd n kd ok cn rc rs an fl t0 t1 t2 t3 t4 t5 th wy) s.heap.size = A at hD ⊢
  have hA : ∀ q : Nat, s.heap.size ≤ q → A q := fun q h => by rw [← hAe]; exact Or.inr h
  have hS : va_S A s.heap s.heap [] := va_S.rf
  have hl := lv_entry ([.ref h, .int cz, .int x, .long a]) (n := 8) (Nat.le_of_ble_eq_true rfl)
  rw [lg_entry_eq]
  generalize (lg_sl ([.ref h, .int cz, .int x, .long a]) ++ List.replicate (8 - (lg_sl ([.ref h, .int cz, .int x, .long a])).length) Slot.unset).toArray = ls at hl ⊢
  have hl : lv_has ls 8 [(0, .ref h), (1, .int cz), (2, .int x), (3, .long a)] := hl
  refine lv_aload_n hx hb dX2_call_0 rfl (lv_at hl 0 rfl) ?_
  refine lv_iconst (v := 0) hx hb dX2_call_1 (by decide) ?_
  refine va_put (D := (dC, dI)) (ci := 2) (v := .int 0) (ty := .int) (C := RX2) (T := TX2) (N := 16) hx hb hts iwX2_call tyX2 tyX2_ok nmX2 hown hK hP hD hS 0 rfl rfl 8 (by decide) (hts (.fieldLink RX2 33 "MainframeDeskModel" "thrown" "I") (by decide +kernel)) (fun _ h9 => h9) rfl (by decide +kernel) rfl rfl (Nat.le_of_ble_eq_true rfl) dX2_call_2 (fun H locs hP hD hS => ?_)
  have hP : va_P (dC, dI) vwCl (rW h qs qm qa qf qk qt qd cs cm ca cf ck ct cd n kd ok cn rc rs an fl t0 t1 t2 t3 t4 t5 0 wy) H := hP
  have hD : va_D A (rW h qs qm qa qf qk qt qd cs cm ca cf ck ct cd n kd ok cn rc rs an fl t0 t1 t2 t3 t4 t5 0 wy) := hD
  refine lv_aload_n hx hb dX2_call_5 rfl (lv_at hl 0 rfl) ?_
  refine lv_iload_n hx hb dX2_call_6 rfl (lv_at hl 1 rfl) ?_
  refine lv_iload_n hx hb dX2_call_7 rfl (lv_at hl 2 rfl) ?_
  refine lv_lload_n hx hb dX2_call_8 rfl (lv_at hl 3 rfl) ?_
  have hFc := kx_fr hD hS hA
  refine va_calll (va_runV (As := [.int cz, .int x, .long a]) (rest := []) ⟨hx, hb, hml, hown, hts⟩ (r_reckoned l dC dI h qs qm qa qf qk qt qd cs cm ca cf ck ct cd n kd ok cn rc rs an fl t0 t1 t2 t3 t4 t5 0 wy hn H.size cz x a) (cwV 3 hts gX2_call_X2_reckoned rfl rfl rfl (by decide +kernel) ⟨Nat.le_of_ble_eq_true rfl, Nat.le_of_ble_eq_true rfl⟩) ⟨rQ_bl, va_recv hK hP (ci := 2) (q0 := 0) rfl rfl, fun U hU hW => ⟨rfl, rQ_at hU hW hP hK hD⟩⟩ rfl rfl hl.1 rfl (lv_room (Nat.le_of_ble_eq_true rfl)) dX2_call_9 ⟨Nat.le_of_ble_eq_true rfl, Nat.le_of_ble_eq_true rfl⟩) hS (fun q _ h => hFc q h) hFc (fun o_158 u t H locs ht hvm hw hB hz1 hk1 hS => ?_)
  obtain ⟨eo_158, hw⟩ := hw
  subst hw
  obtain ⟨hP, hD1⟩ := hB
  rw [ht] at hP
  have hP : va_P (dC, dI) vwCl (rW h qs qm qa qf qk qt qd cs cm ca cf ck ct cd n kd ok cn rc rs an fl t0 t1 t2 t3 t4 t5 0 (mWay (n, kd, ok, cn, rc, rs, an, fl, t0, t1, t2, t3, t4, t5) cz x a)) H := hP
  have hD : va_D A (rW h qs qm qa qf qk qt qd cs cm ca cf ck ct cd n kd ok cn rc rs an fl t0 t1 t2 t3 t4 t5 0 (mWay (n, kd, ok, cn, rc, rs, an, fl, t0, t1, t2, t3, t4, t5) cz x a)) := hD1.weaken (fun _ q _ h9 => hFc q.1 h9)
  generalize ewy : mWay (n, kd, ok, cn, rc, rs, an, fl, t0, t1, t2, t3, t4, t5) cz x a = wy9 at hP hD
  refine lv_lstore (lv' := [(5, .long o_158), (0, .ref h), (1, .int cz), (2, .int x), (3, .long a)]) hx hb dX2_call_12 hl (by decide) rfl (fun ls hl => ?_)
  rcases kx_wy ewy with ⟨hrn, rfl⟩ | ⟨hr0, hfl, rfl⟩ | ⟨hr0, hfl, rfl⟩
  · refine lv_aload_n hx hb dX2_call_14 rfl (lv_at hl 1 rfl) ?_
    refine va_get (D := (dC, dI)) (ci := 2) (v := .int 2) (C := RX2) (T := TX2) (N := 16) hx hb hts iwX2_call hown hK hP 0 rfl rfl 15 (by decide) (hts (.fieldLink RX2 54 "MainframeDeskModel" "way" "I") (by decide +kernel)) (fun _ h9 => h9) rfl dX2_call_15 ?_
    refine lv_iconst (v := 2) hx hb dX2_call_18 (by decide) ?_
    refine lv_icmp_ne (tgt := 35) hx hb dX2_call_19 (by decide) (fun h => absurd h (by decide)) (fun _ => ?_)
    refine lv_aload_n hx hb dX2_call_22 rfl (lv_at hl 1 rfl) ?_
    refine lv_dup hx hb dX2_call_23 rfl ?_
    refine va_get (D := (dC, dI)) (ci := 2) (v := .int t4) (C := RX2) (T := TX2) (N := 16) hx hb hts iwX2_call hown hK hP 0 rfl rfl 13 (by decide) (hts (.fieldLink RX2 61 "MainframeDeskModel" "refused" "I") (by decide +kernel)) (fun _ h9 => h9) rfl dX2_call_24 ?_
    refine lv_iconst (v := 1) hx hb dX2_call_27 (by decide) ?_
    refine lv_iadd hx hb dX2_call_28 ?_
    refine lv_topi (fun z_160 ez_160 => ?_)
    refine va_put (D := (dC, dI)) (ci := 2) (v := .int z_160) (ty := .int) (C := RX2) (T := TX2) (N := 16) hx hb hts iwX2_call tyX2 tyX2_ok nmX2 hown hK hP hD hS 0 rfl rfl 13 (by decide) (hts (.fieldLink RX2 61 "MainframeDeskModel" "refused" "I") (by decide +kernel)) (fun _ h9 => h9) rfl (by decide +kernel) rfl rfl (Nat.le_of_ble_eq_true rfl) dX2_call_29 (fun H locs hP hD hS => ?_)
    have hP : va_P (dC, dI) vwCl (rW h qs qm qa qf qk qt qd cs cm ca cf ck ct cd n kd ok cn rc rs an fl t0 t1 t2 t3 z_160 t5 0 2) H := hP
    have hD : va_D A (rW h qs qm qa qf qk qt qd cs cm ca cf ck ct cd n kd ok cn rc rs an fl t0 t1 t2 t3 z_160 t5 0 2) := hD
    refine lv_lload hx hb dX2_call_32 (lv_at hl 0 rfl) ?_
    exact W.lret (v := o_158) hx hb hr (fun t ht hW => ⟨⟨_, ((n, kd, ok, cn, rc, rs, an, fl, t0, t1, t2, t3, z_160, t5), 0, 2), rfl, (by subst ez_160; rw [eo_158, kx_caN hrn]), by rw [ht]; exact hP, hD⟩, hS.F ht⟩) hS.2.2 dX2_call_34
  · obtain ⟨hxx, hrf⟩ := kx_x0 hr0
    have hc := kx_refc hrf
    refine lv_aload_n hx hb dX2_call_14 rfl (lv_at hl 1 rfl) ?_
    refine va_get (D := (dC, dI)) (ci := 2) (v := .int 0) (C := RX2) (T := TX2) (N := 16) hx hb hts iwX2_call hown hK hP 0 rfl rfl 15 (by decide) (hts (.fieldLink RX2 54 "MainframeDeskModel" "way" "I") (by decide +kernel)) (fun _ h9 => h9) rfl dX2_call_15 ?_
    refine lv_iconst (v := 2) hx hb dX2_call_18 (by decide) ?_
    refine lv_icmp_ne (tgt := 35) hx hb dX2_call_19 (by decide) (fun _ => ?_) (fun h => absurd h (by decide))
    refine lv_iload_n hx hb dX2_call_35 rfl (lv_at hl 2 rfl) ?_
    refine vp_callSi (W.runS (As := [.int cz]) (rest := []) ⟨hx, hb, hml, hown, hts⟩ (r_rowOf l cz) (va_cwS 1 hts gX2_call_X2_rowOf rfl rfl rfl (by decide +kernel) ⟨Nat.le_of_ble_eq_true rfl, Nat.le_of_ble_eq_true rfl⟩) ⟨fun _ _ _ _ q => q, fun _ _ _ => ⟨rfl, trivial⟩⟩ rfl rfl hl.1 rfl (lv_room (Nat.le_of_ble_eq_true rfl)) dX2_call_36 ⟨Nat.le_of_ble_eq_true rfl, Nat.le_of_ble_eq_true rfl⟩) (fun r9 hr9 => ?_)
    rcases hr9 with ⟨h8_162, rfl⟩ | ⟨h8_162, rfl⟩
    · refine lv_istore (lv' := [(7, .int (mW4 cz)), (5, .long o_158), (0, .ref h), (1, .int cz), (2, .int x), (3, .long a)]) hx hb dX2_call_39 hl (by decide) rfl (fun ls hl => ?_)
      refine lv_iload hx hb dX2_call_41 (lv_at hl 0 rfl) ?_
      refine lv_iconst (v := (-1)) hx hb dX2_call_43 (by decide) ?_
      refine lv_icmp_eq (tgt := 63) hx hb dX2_call_44 (by decide) (fun c_168 => ?_) (fun c_168 => ?_)
      · exact absurd c_168 (kx_w4n hc)
      · refine lv_aload_n hx hb dX2_call_47 rfl (lv_at hl 2 rfl) ?_
        refine va_get (D := (dC, dI)) (ci := 2) (v := .ref qs) (C := RX2) (T := TX2) (N := 16) hx hb hts iwX2_call hown hK hP 0 rfl rfl 0 (by decide) (hts (.fieldLink RX2 7 "MainframeDeskModel" "sum" "[J") (by decide +kernel)) (fun _ h9 => h9) rfl dX2_call_48 ?_
        refine lv_iload hx hb dX2_call_51 (lv_at hl 0 rfl) ?_
        refine lv_lconst (v := 0) hx hb dX2_call_53 (by decide) ?_
        refine va_last hx hb hK hP hD hS 1 0 rfl rfl (kx_w4 hc) dX2_call_54 (fun H locs hP hD hS => ?_)
        have hP : va_P (dC, dI) vwCl (rW h qs qm qa qf qk qt qd cs cm ca cf ck ct cd n kd ok cn rc (vp_updL rs (mW4 cz).toNatClampNeg 0) an fl t0 t1 t2 t3 t4 t5 0 0) H := hP
        have hD : va_D A (rW h qs qm qa qf qk qt qd cs cm ca cf ck ct cd n kd ok cn rc (vp_updL rs (mW4 cz).toNatClampNeg 0) an fl t0 t1 t2 t3 t4 t5 0 0) := hD
        refine lv_aload_n hx hb dX2_call_55 rfl (lv_at hl 2 rfl) ?_
        refine va_get (D := (dC, dI)) (ci := 2) (v := .ref qm) (C := RX2) (T := TX2) (N := 16) hx hb hts iwX2_call hown hK hP 0 rfl rfl 1 (by decide) (hts (.fieldLink RX2 13 "MainframeDeskModel" "many" "[I") (by decide +kernel)) (fun _ h9 => h9) rfl dX2_call_56 ?_
        refine lv_iload hx hb dX2_call_59 (lv_at hl 0 rfl) ?_
        refine lv_iconst (v := 0) hx hb dX2_call_61 (by decide) ?_
        refine va_iast hx hb hK hP hD hS 2 1 rfl rfl (kx_w4 hc) dX2_call_62 (fun H locs hP hD hS => ?_)
        have hP : va_P (dC, dI) vwCl (rW h qs qm qa qf qk qt qd cs cm ca cf ck ct cd n kd ok cn (upd rc (mW4 cz).toNatClampNeg 0) (vp_updL rs (mW4 cz).toNatClampNeg 0) an fl t0 t1 t2 t3 t4 t5 0 0) H := hP
        have hD : va_D A (rW h qs qm qa qf qk qt qd cs cm ca cf ck ct cd n kd ok cn (upd rc (mW4 cz).toNatClampNeg 0) (vp_updL rs (mW4 cz).toNatClampNeg 0) an fl t0 t1 t2 t3 t4 t5 0 0) := hD
        refine lv_aload_n hx hb dX2_call_63 rfl (lv_at hl 2 rfl) ?_
        refine va_get (D := (dC, dI)) (ci := 2) (v := .int 0) (C := RX2) (T := TX2) (N := 16) hx hb hts iwX2_call hown hK hP 0 rfl rfl 15 (by decide) (hts (.fieldLink RX2 54 "MainframeDeskModel" "way" "I") (by decide +kernel)) (fun _ h9 => h9) rfl dX2_call_64 ?_
        refine lv_if_ne (tgt := 95) hx hb dX2_call_67 (by decide) (fun h => absurd h (by decide)) (fun _ => ?_)
        refine lv_aload_n hx hb dX2_call_70 rfl (lv_at hl 2 rfl) ?_
        refine va_get (D := (dC, dI)) (ci := 2) (v := .ref qd) (C := RX2) (T := TX2) (N := 16) hx hb hts iwX2_call hown hK hP 0 rfl rfl 6 (by decide) (hts (.fieldLink RX2 30 "MainframeDeskModel" "answered" "[J") (by decide +kernel)) (fun _ h9 => h9) rfl dX2_call_71 ?_
        refine lv_iload_n hx hb dX2_call_74 rfl (lv_at hl 4 rfl) ?_
        refine lv_iconst (v := 1) hx hb dX2_call_75 (by decide) ?_
        refine lv_isub hx hb dX2_call_76 ?_
        refine lv_dup2_11 hx hb dX2_call_77 rfl rfl ?_
        refine va_lald hx hb hK hP 7 6 rfl rfl (kx_ix2 hn hxx) dX2_call_78 ?_
        refine lv_topl (fun v_170 ev_170 => ?_)
        replace ev_170 : v_170 = (mL cn) (mIx x) := ev_170
        refine lv_lconst (v := 1) hx hb dX2_call_79 (by decide) ?_
        refine lv_ladd hx hb dX2_call_80 ?_
        refine lv_topl (fun z_171 ez_171 => ?_)
        refine va_last hx hb hK hP hD hS 7 6 rfl rfl (kx_ix2 hn hxx) dX2_call_81 (fun H locs hP hD hS => ?_)
        rw [ez_171, ev_170] at hP hD
        have e9 := mL_up (hcn (mIx x))
        have hP : va_P (dC, dI) vwCl (rW h qs qm qa qf qk qt qd cs cm ca cf ck ct cd n kd ok (upd cn (mIx x) (cn (mIx x) + 1)) (upd rc (mW4 cz).toNatClampNeg 0) (vp_updL rs (mW4 cz).toNatClampNeg 0) an fl t0 t1 t2 t3 t4 t5 0 0) H := by unfold rW; rw [← e9]; exact hP
        have hD : va_D A (rW h qs qm qa qf qk qt qd cs cm ca cf ck ct cd n kd ok (upd cn (mIx x) (cn (mIx x) + 1)) (upd rc (mW4 cz).toNatClampNeg 0) (vp_updL rs (mW4 cz).toNatClampNeg 0) an fl t0 t1 t2 t3 t4 t5 0 0) := by unfold rW; rw [← e9]; exact hD
        refine lv_aload_n hx hb dX2_call_82 rfl (lv_at hl 2 rfl) ?_
        refine lv_dup hx hb dX2_call_83 rfl ?_
        refine va_get (D := (dC, dI)) (ci := 2) (v := .int t5) (C := RX2) (T := TX2) (N := 16) hx hb hts iwX2_call hown hK hP 0 rfl rfl 14 (by decide) (hts (.fieldLink RX2 64 "MainframeDeskModel" "done" "I") (by decide +kernel)) (fun _ h9 => h9) rfl dX2_call_84 ?_
        refine lv_iconst (v := 1) hx hb dX2_call_87 (by decide) ?_
        refine lv_iadd hx hb dX2_call_88 ?_
        refine lv_topi (fun z_172 ez_172 => ?_)
        refine va_put (D := (dC, dI)) (ci := 2) (v := .int z_172) (ty := .int) (C := RX2) (T := TX2) (N := 16) hx hb hts iwX2_call tyX2 tyX2_ok nmX2 hown hK hP hD hS 0 rfl rfl 14 (by decide) (hts (.fieldLink RX2 64 "MainframeDeskModel" "done" "I") (by decide +kernel)) (fun _ h9 => h9) rfl (by decide +kernel) rfl rfl (Nat.le_of_ble_eq_true rfl) dX2_call_89 (fun H locs hP hD hS => ?_)
        have hP : va_P (dC, dI) vwCl (rW h qs qm qa qf qk qt qd cs cm ca cf ck ct cd n kd ok (upd cn (mIx x) (cn (mIx x) + 1)) (upd rc (mW4 cz).toNatClampNeg 0) (vp_updL rs (mW4 cz).toNatClampNeg 0) an fl t0 t1 t2 t3 t4 z_172 0 0) H := hP
        have hD : va_D A (rW h qs qm qa qf qk qt qd cs cm ca cf ck ct cd n kd ok (upd cn (mIx x) (cn (mIx x) + 1)) (upd rc (mW4 cz).toNatClampNeg 0) (vp_updL rs (mW4 cz).toNatClampNeg 0) an fl t0 t1 t2 t3 t4 z_172 0 0) := hD
        refine lv_goto (tgt := 134) hx hb dX2_call_92 (by decide) ?_
        refine lv_lload hx hb dX2_call_134 (lv_at hl 1 rfl) ?_
        have e1 : mTkC rc cz = upd rc (mW4 cz).toNatClampNeg 0 := if_pos h8_162
        have e2 : mTkS rs cz = vp_updL rs (mW4 cz).toNatClampNeg 0 := if_pos h8_162
        have hP : va_P (dC, dI) vwCl (rW h qs qm qa qf qk qt qd cs cm ca cf ck ct cd n kd ok (upd cn (mIx x) (cn (mIx x) + 1)) (mTkC rc cz) (mTkS rs cz) an fl t0 t1 t2 t3 t4 z_172 0 0) H := by rw [e1, e2]; exact hP
        have hD : va_D A (rW h qs qm qa qf qk qt qd cs cm ca cf ck ct cd n kd ok (upd cn (mIx x) (cn (mIx x) + 1)) (mTkC rc cz) (mTkS rs cz) an fl t0 t1 t2 t3 t4 z_172 0 0) := by rw [e1, e2]; exact hD
        exact W.lret (v := o_158) hx hb hr (fun t ht hW => ⟨⟨_, ((n, kd, ok, upd cn (mIx x) (cn (mIx x) + 1), mTkC rc cz, mTkS rs cz, an, fl, t0, t1, t2, t3, t4, z_172), 0, 0), rfl, (by subst ev_170; subst ez_171; subst ez_172; rw [eo_158, kx_ca0 hr0, if_pos hfl]), by rw [ht]; exact hP, hD⟩, hS.F ht⟩) hS.2.2 dX2_call_136
    · refine lv_istore (lv' := [(7, .int (-1)), (5, .long o_158), (0, .ref h), (1, .int cz), (2, .int x), (3, .long a)]) hx hb dX2_call_39 hl (by decide) rfl (fun ls hl => ?_)
      refine lv_iload hx hb dX2_call_41 (lv_at hl 0 rfl) ?_
      refine lv_iconst (v := (-1)) hx hb dX2_call_43 (by decide) ?_
      refine lv_icmp_eq (tgt := 63) hx hb dX2_call_44 (by decide) (fun _ => ?_) (fun h => absurd h (by decide))
      refine lv_aload_n hx hb dX2_call_63 rfl (lv_at hl 2 rfl) ?_
      refine va_get (D := (dC, dI)) (ci := 2) (v := .int 0) (C := RX2) (T := TX2) (N := 16) hx hb hts iwX2_call hown hK hP 0 rfl rfl 15 (by decide) (hts (.fieldLink RX2 54 "MainframeDeskModel" "way" "I") (by decide +kernel)) (fun _ h9 => h9) rfl dX2_call_64 ?_
      refine lv_if_ne (tgt := 95) hx hb dX2_call_67 (by decide) (fun h => absurd h (by decide)) (fun _ => ?_)
      refine lv_aload_n hx hb dX2_call_70 rfl (lv_at hl 2 rfl) ?_
      refine va_get (D := (dC, dI)) (ci := 2) (v := .ref qd) (C := RX2) (T := TX2) (N := 16) hx hb hts iwX2_call hown hK hP 0 rfl rfl 6 (by decide) (hts (.fieldLink RX2 30 "MainframeDeskModel" "answered" "[J") (by decide +kernel)) (fun _ h9 => h9) rfl dX2_call_71 ?_
      refine lv_iload_n hx hb dX2_call_74 rfl (lv_at hl 4 rfl) ?_
      refine lv_iconst (v := 1) hx hb dX2_call_75 (by decide) ?_
      refine lv_isub hx hb dX2_call_76 ?_
      refine lv_dup2_11 hx hb dX2_call_77 rfl rfl ?_
      refine va_lald hx hb hK hP 7 6 rfl rfl (kx_ix2 hn hxx) dX2_call_78 ?_
      refine lv_topl (fun v_165 ev_165 => ?_)
      replace ev_165 : v_165 = (mL cn) (mIx x) := ev_165
      refine lv_lconst (v := 1) hx hb dX2_call_79 (by decide) ?_
      refine lv_ladd hx hb dX2_call_80 ?_
      refine lv_topl (fun z_166 ez_166 => ?_)
      refine va_last hx hb hK hP hD hS 7 6 rfl rfl (kx_ix2 hn hxx) dX2_call_81 (fun H locs hP hD hS => ?_)
      rw [ez_166, ev_165] at hP hD
      have e9 := mL_up (hcn (mIx x))
      have hP : va_P (dC, dI) vwCl (rW h qs qm qa qf qk qt qd cs cm ca cf ck ct cd n kd ok (upd cn (mIx x) (cn (mIx x) + 1)) rc rs an fl t0 t1 t2 t3 t4 t5 0 0) H := by unfold rW; rw [← e9]; exact hP
      have hD : va_D A (rW h qs qm qa qf qk qt qd cs cm ca cf ck ct cd n kd ok (upd cn (mIx x) (cn (mIx x) + 1)) rc rs an fl t0 t1 t2 t3 t4 t5 0 0) := by unfold rW; rw [← e9]; exact hD
      refine lv_aload_n hx hb dX2_call_82 rfl (lv_at hl 2 rfl) ?_
      refine lv_dup hx hb dX2_call_83 rfl ?_
      refine va_get (D := (dC, dI)) (ci := 2) (v := .int t5) (C := RX2) (T := TX2) (N := 16) hx hb hts iwX2_call hown hK hP 0 rfl rfl 14 (by decide) (hts (.fieldLink RX2 64 "MainframeDeskModel" "done" "I") (by decide +kernel)) (fun _ h9 => h9) rfl dX2_call_84 ?_
      refine lv_iconst (v := 1) hx hb dX2_call_87 (by decide) ?_
      refine lv_iadd hx hb dX2_call_88 ?_
      refine lv_topi (fun z_167 ez_167 => ?_)
      refine va_put (D := (dC, dI)) (ci := 2) (v := .int z_167) (ty := .int) (C := RX2) (T := TX2) (N := 16) hx hb hts iwX2_call tyX2 tyX2_ok nmX2 hown hK hP hD hS 0 rfl rfl 14 (by decide) (hts (.fieldLink RX2 64 "MainframeDeskModel" "done" "I") (by decide +kernel)) (fun _ h9 => h9) rfl (by decide +kernel) rfl rfl (Nat.le_of_ble_eq_true rfl) dX2_call_89 (fun H locs hP hD hS => ?_)
      have hP : va_P (dC, dI) vwCl (rW h qs qm qa qf qk qt qd cs cm ca cf ck ct cd n kd ok (upd cn (mIx x) (cn (mIx x) + 1)) rc rs an fl t0 t1 t2 t3 t4 z_167 0 0) H := hP
      have hD : va_D A (rW h qs qm qa qf qk qt qd cs cm ca cf ck ct cd n kd ok (upd cn (mIx x) (cn (mIx x) + 1)) rc rs an fl t0 t1 t2 t3 t4 z_167 0 0) := hD
      refine lv_goto (tgt := 134) hx hb dX2_call_92 (by decide) ?_
      refine lv_lload hx hb dX2_call_134 (lv_at hl 1 rfl) ?_
      have e1 : mTkC rc cz = rc := if_neg h8_162
      have e2 : mTkS rs cz = rs := if_neg h8_162
      have hP : va_P (dC, dI) vwCl (rW h qs qm qa qf qk qt qd cs cm ca cf ck ct cd n kd ok (upd cn (mIx x) (cn (mIx x) + 1)) (mTkC rc cz) (mTkS rs cz) an fl t0 t1 t2 t3 t4 z_167 0 0) H := by rw [e1, e2]; exact hP
      have hD : va_D A (rW h qs qm qa qf qk qt qd cs cm ca cf ck ct cd n kd ok (upd cn (mIx x) (cn (mIx x) + 1)) (mTkC rc cz) (mTkS rs cz) an fl t0 t1 t2 t3 t4 z_167 0 0) := by rw [e1, e2]; exact hD
      exact W.lret (v := o_158) hx hb hr (fun t ht hW => ⟨⟨_, ((n, kd, ok, upd cn (mIx x) (cn (mIx x) + 1), mTkC rc cz, mTkS rs cz, an, fl, t0, t1, t2, t3, t4, z_167), 0, 0), rfl, (by subst ev_165; subst ez_166; subst ez_167; rw [eo_158, kx_ca0 hr0, if_pos hfl]), by rw [ht]; exact hP, hD⟩, hS.F ht⟩) hS.2.2 dX2_call_136
  · obtain ⟨hxx, hrf⟩ := kx_x0 hr0
    have hc := kx_refc hrf
    refine lv_aload_n hx hb dX2_call_14 rfl (lv_at hl 1 rfl) ?_
    refine va_get (D := (dC, dI)) (ci := 2) (v := .int 1) (C := RX2) (T := TX2) (N := 16) hx hb hts iwX2_call hown hK hP 0 rfl rfl 15 (by decide) (hts (.fieldLink RX2 54 "MainframeDeskModel" "way" "I") (by decide +kernel)) (fun _ h9 => h9) rfl dX2_call_15 ?_
    refine lv_iconst (v := 2) hx hb dX2_call_18 (by decide) ?_
    refine lv_icmp_ne (tgt := 35) hx hb dX2_call_19 (by decide) (fun _ => ?_) (fun h => absurd h (by decide))
    refine lv_iload_n hx hb dX2_call_35 rfl (lv_at hl 2 rfl) ?_
    refine vp_callSi (W.runS (As := [.int cz]) (rest := []) ⟨hx, hb, hml, hown, hts⟩ (r_rowOf l cz) (va_cwS 1 hts gX2_call_X2_rowOf rfl rfl rfl (by decide +kernel) ⟨Nat.le_of_ble_eq_true rfl, Nat.le_of_ble_eq_true rfl⟩) ⟨fun _ _ _ _ q => q, fun _ _ _ => ⟨rfl, trivial⟩⟩ rfl rfl hl.1 rfl (lv_room (Nat.le_of_ble_eq_true rfl)) dX2_call_36 ⟨Nat.le_of_ble_eq_true rfl, Nat.le_of_ble_eq_true rfl⟩) (fun r9 hr9 => ?_)
    rcases hr9 with ⟨h8_174, rfl⟩ | ⟨h8_174, rfl⟩
    · refine lv_istore (lv' := [(7, .int (mW4 cz)), (5, .long o_158), (0, .ref h), (1, .int cz), (2, .int x), (3, .long a)]) hx hb dX2_call_39 hl (by decide) rfl (fun ls hl => ?_)
      refine lv_iload hx hb dX2_call_41 (lv_at hl 0 rfl) ?_
      refine lv_iconst (v := (-1)) hx hb dX2_call_43 (by decide) ?_
      refine lv_icmp_eq (tgt := 63) hx hb dX2_call_44 (by decide) (fun c_179 => ?_) (fun c_179 => ?_)
      · exact absurd c_179 (kx_w4n hc)
      · refine lv_aload_n hx hb dX2_call_47 rfl (lv_at hl 2 rfl) ?_
        refine va_get (D := (dC, dI)) (ci := 2) (v := .ref qs) (C := RX2) (T := TX2) (N := 16) hx hb hts iwX2_call hown hK hP 0 rfl rfl 0 (by decide) (hts (.fieldLink RX2 7 "MainframeDeskModel" "sum" "[J") (by decide +kernel)) (fun _ h9 => h9) rfl dX2_call_48 ?_
        refine lv_iload hx hb dX2_call_51 (lv_at hl 0 rfl) ?_
        refine lv_lconst (v := 0) hx hb dX2_call_53 (by decide) ?_
        refine va_last hx hb hK hP hD hS 1 0 rfl rfl (kx_w4 hc) dX2_call_54 (fun H locs hP hD hS => ?_)
        have hP : va_P (dC, dI) vwCl (rW h qs qm qa qf qk qt qd cs cm ca cf ck ct cd n kd ok cn rc (vp_updL rs (mW4 cz).toNatClampNeg 0) an fl t0 t1 t2 t3 t4 t5 0 1) H := hP
        have hD : va_D A (rW h qs qm qa qf qk qt qd cs cm ca cf ck ct cd n kd ok cn rc (vp_updL rs (mW4 cz).toNatClampNeg 0) an fl t0 t1 t2 t3 t4 t5 0 1) := hD
        refine lv_aload_n hx hb dX2_call_55 rfl (lv_at hl 2 rfl) ?_
        refine va_get (D := (dC, dI)) (ci := 2) (v := .ref qm) (C := RX2) (T := TX2) (N := 16) hx hb hts iwX2_call hown hK hP 0 rfl rfl 1 (by decide) (hts (.fieldLink RX2 13 "MainframeDeskModel" "many" "[I") (by decide +kernel)) (fun _ h9 => h9) rfl dX2_call_56 ?_
        refine lv_iload hx hb dX2_call_59 (lv_at hl 0 rfl) ?_
        refine lv_iconst (v := 0) hx hb dX2_call_61 (by decide) ?_
        refine va_iast hx hb hK hP hD hS 2 1 rfl rfl (kx_w4 hc) dX2_call_62 (fun H locs hP hD hS => ?_)
        have hP : va_P (dC, dI) vwCl (rW h qs qm qa qf qk qt qd cs cm ca cf ck ct cd n kd ok cn (upd rc (mW4 cz).toNatClampNeg 0) (vp_updL rs (mW4 cz).toNatClampNeg 0) an fl t0 t1 t2 t3 t4 t5 0 1) H := hP
        have hD : va_D A (rW h qs qm qa qf qk qt qd cs cm ca cf ck ct cd n kd ok cn (upd rc (mW4 cz).toNatClampNeg 0) (vp_updL rs (mW4 cz).toNatClampNeg 0) an fl t0 t1 t2 t3 t4 t5 0 1) := hD
        refine lv_aload_n hx hb dX2_call_63 rfl (lv_at hl 2 rfl) ?_
        refine va_get (D := (dC, dI)) (ci := 2) (v := .int 1) (C := RX2) (T := TX2) (N := 16) hx hb hts iwX2_call hown hK hP 0 rfl rfl 15 (by decide) (hts (.fieldLink RX2 54 "MainframeDeskModel" "way" "I") (by decide +kernel)) (fun _ h9 => h9) rfl dX2_call_64 ?_
        refine lv_if_ne (tgt := 95) hx hb dX2_call_67 (by decide) (fun _ => ?_) (fun h => absurd h (by decide))
        refine lv_aload_n hx hb dX2_call_95 rfl (lv_at hl 2 rfl) ?_
        refine va_get (D := (dC, dI)) (ci := 2) (v := .ref qt) (C := RX2) (T := TX2) (N := 16) hx hb hts iwX2_call hown hK hP 0 rfl rfl 5 (by decide) (hts (.fieldLink RX2 26 "MainframeDeskModel" "there" "[Z") (by decide +kernel)) (fun _ h9 => h9) rfl dX2_call_96 ?_
        refine lv_iload_n hx hb dX2_call_99 rfl (lv_at hl 4 rfl) ?_
        refine lv_iconst (v := 1) hx hb dX2_call_100 (by decide) ?_
        refine lv_isub hx hb dX2_call_101 ?_
        refine lv_iconst (v := 0) hx hb dX2_call_102 (by decide) ?_
        refine va_zast hx hb hK hP hD hS 6 5 rfl rfl (kx_ix2 hn hxx) dX2_call_103 (fun H locs hP hD hS => ?_)
        rw [kx_nb0] at hP hD
        have hP : va_P (dC, dI) vwCl (rW h qs qm qa qf qk qt qd cs cm ca cf ck ct cd n kd (upd ok (mIx x) 0) cn (upd rc (mW4 cz).toNatClampNeg 0) (vp_updL rs (mW4 cz).toNatClampNeg 0) an fl t0 t1 t2 t3 t4 t5 0 1) H := hP
        have hD : va_D A (rW h qs qm qa qf qk qt qd cs cm ca cf ck ct cd n kd (upd ok (mIx x) 0) cn (upd rc (mW4 cz).toNatClampNeg 0) (vp_updL rs (mW4 cz).toNatClampNeg 0) an fl t0 t1 t2 t3 t4 t5 0 1) := hD
        refine lv_aload_n hx hb dX2_call_104 rfl (lv_at hl 2 rfl) ?_
        refine lv_aload_n hx hb dX2_call_105 rfl (lv_at hl 2 rfl) ?_
        refine va_get (D := (dC, dI)) (ci := 2) (v := .ref qf) (C := RX2) (T := TX2) (N := 16) hx hb hts iwX2_call hown hK hP 0 rfl rfl 3 (by decide) (hts (.fieldLink RX2 20 "MainframeDeskModel" "failures" "[I") (by decide +kernel)) (fun _ h9 => h9) rfl dX2_call_106 ?_
        refine lv_iload_n hx hb dX2_call_109 rfl (lv_at hl 3 rfl) ?_
        refine va_iald hx hb hK hP 4 3 rfl rfl (kx_in hc (by decide)) dX2_call_110 ?_
        refine lv_topi (fun v_181 ev_181 => ?_)
        refine va_put (D := (dC, dI)) (ci := 2) (v := .int v_181) (ty := .int) (C := RX2) (T := TX2) (N := 16) hx hb hts iwX2_call tyX2 tyX2_ok nmX2 hown hK hP hD hS 0 rfl rfl 9 (by decide) (hts (.fieldLink RX2 67 "MainframeDeskModel" "latest" "I") (by decide +kernel)) (fun _ h9 => h9) rfl (by decide +kernel) rfl rfl (Nat.le_of_ble_eq_true rfl) dX2_call_111 (fun H locs hP hD hS => ?_)
        have hP : va_P (dC, dI) vwCl (rW h qs qm qa qf qk qt qd cs cm ca cf ck ct cd n kd (upd ok (mIx x) 0) cn (upd rc (mW4 cz).toNatClampNeg 0) (vp_updL rs (mW4 cz).toNatClampNeg 0) an fl v_181 t1 t2 t3 t4 t5 0 1) H := hP
        have hD : va_D A (rW h qs qm qa qf qk qt qd cs cm ca cf ck ct cd n kd (upd ok (mIx x) 0) cn (upd rc (mW4 cz).toNatClampNeg 0) (vp_updL rs (mW4 cz).toNatClampNeg 0) an fl v_181 t1 t2 t3 t4 t5 0 1) := hD
        refine lv_aload_n hx hb dX2_call_114 rfl (lv_at hl 2 rfl) ?_
        refine lv_iload_n hx hb dX2_call_115 rfl (lv_at hl 3 rfl) ?_
        refine va_put (D := (dC, dI)) (ci := 2) (v := .int cz) (ty := .int) (C := RX2) (T := TX2) (N := 16) hx hb hts iwX2_call tyX2 tyX2_ok nmX2 hown hK hP hD hS 0 rfl rfl 10 (by decide) (hts (.fieldLink RX2 70 "MainframeDeskModel" "latestCall" "I") (by decide +kernel)) (fun _ h9 => h9) rfl (by decide +kernel) rfl rfl (Nat.le_of_ble_eq_true rfl) dX2_call_116 (fun H locs hP hD hS => ?_)
        have hP : va_P (dC, dI) vwCl (rW h qs qm qa qf qk qt qd cs cm ca cf ck ct cd n kd (upd ok (mIx x) 0) cn (upd rc (mW4 cz).toNatClampNeg 0) (vp_updL rs (mW4 cz).toNatClampNeg 0) an fl v_181 cz t2 t3 t4 t5 0 1) H := hP
        have hD : va_D A (rW h qs qm qa qf qk qt qd cs cm ca cf ck ct cd n kd (upd ok (mIx x) 0) cn (upd rc (mW4 cz).toNatClampNeg 0) (vp_updL rs (mW4 cz).toNatClampNeg 0) an fl v_181 cz t2 t3 t4 t5 0 1) := hD
        refine lv_aload_n hx hb dX2_call_119 rfl (lv_at hl 2 rfl) ?_
        refine lv_iload_n hx hb dX2_call_120 rfl (lv_at hl 4 rfl) ?_
        refine va_put (D := (dC, dI)) (ci := 2) (v := .int x) (ty := .int) (C := RX2) (T := TX2) (N := 16) hx hb hts iwX2_call tyX2 tyX2_ok nmX2 hown hK hP hD hS 0 rfl rfl 11 (by decide) (hts (.fieldLink RX2 73 "MainframeDeskModel" "latestThing" "I") (by decide +kernel)) (fun _ h9 => h9) rfl (by decide +kernel) rfl rfl (Nat.le_of_ble_eq_true rfl) dX2_call_121 (fun H locs hP hD hS => ?_)
        have hP : va_P (dC, dI) vwCl (rW h qs qm qa qf qk qt qd cs cm ca cf ck ct cd n kd (upd ok (mIx x) 0) cn (upd rc (mW4 cz).toNatClampNeg 0) (vp_updL rs (mW4 cz).toNatClampNeg 0) an fl v_181 cz x t3 t4 t5 0 1) H := hP
        have hD : va_D A (rW h qs qm qa qf qk qt qd cs cm ca cf ck ct cd n kd (upd ok (mIx x) 0) cn (upd rc (mW4 cz).toNatClampNeg 0) (vp_updL rs (mW4 cz).toNatClampNeg 0) an fl v_181 cz x t3 t4 t5 0 1) := hD
        refine lv_aload_n hx hb dX2_call_124 rfl (lv_at hl 2 rfl) ?_
        refine lv_dup hx hb dX2_call_125 rfl ?_
        refine va_get (D := (dC, dI)) (ci := 2) (v := .int t3) (C := RX2) (T := TX2) (N := 16) hx hb hts iwX2_call hown hK hP 0 rfl rfl 12 (by decide) (hts (.fieldLink RX2 76 "MainframeDeskModel" "failed" "I") (by decide +kernel)) (fun _ h9 => h9) rfl dX2_call_126 ?_
        refine lv_iconst (v := 1) hx hb dX2_call_129 (by decide) ?_
        refine lv_iadd hx hb dX2_call_130 ?_
        refine lv_topi (fun z_182 ez_182 => ?_)
        refine va_put (D := (dC, dI)) (ci := 2) (v := .int z_182) (ty := .int) (C := RX2) (T := TX2) (N := 16) hx hb hts iwX2_call tyX2 tyX2_ok nmX2 hown hK hP hD hS 0 rfl rfl 12 (by decide) (hts (.fieldLink RX2 76 "MainframeDeskModel" "failed" "I") (by decide +kernel)) (fun _ h9 => h9) rfl (by decide +kernel) rfl rfl (Nat.le_of_ble_eq_true rfl) dX2_call_131 (fun H locs hP hD hS => ?_)
        have hP : va_P (dC, dI) vwCl (rW h qs qm qa qf qk qt qd cs cm ca cf ck ct cd n kd (upd ok (mIx x) 0) cn (upd rc (mW4 cz).toNatClampNeg 0) (vp_updL rs (mW4 cz).toNatClampNeg 0) an fl v_181 cz x z_182 t4 t5 0 1) H := hP
        have hD : va_D A (rW h qs qm qa qf qk qt qd cs cm ca cf ck ct cd n kd (upd ok (mIx x) 0) cn (upd rc (mW4 cz).toNatClampNeg 0) (vp_updL rs (mW4 cz).toNatClampNeg 0) an fl v_181 cz x z_182 t4 t5 0 1) := hD
        refine lv_lload hx hb dX2_call_134 (lv_at hl 1 rfl) ?_
        have e1 : mTkC rc cz = upd rc (mW4 cz).toNatClampNeg 0 := if_pos h8_174
        have e2 : mTkS rs cz = vp_updL rs (mW4 cz).toNatClampNeg 0 := if_pos h8_174
        have hP : va_P (dC, dI) vwCl (rW h qs qm qa qf qk qt qd cs cm ca cf ck ct cd n kd (upd ok (mIx x) 0) cn (mTkC rc cz) (mTkS rs cz) an fl v_181 cz x z_182 t4 t5 0 1) H := by rw [e1, e2]; exact hP
        have hD : va_D A (rW h qs qm qa qf qk qt qd cs cm ca cf ck ct cd n kd (upd ok (mIx x) 0) cn (mTkC rc cz) (mTkS rs cz) an fl v_181 cz x z_182 t4 t5 0 1) := by rw [e1, e2]; exact hD
        exact W.lret (v := o_158) hx hb hr (fun t ht hW => ⟨⟨_, ((n, kd, upd ok (mIx x) 0, cn, mTkC rc cz, mTkS rs cz, an, fl, v_181, cz, x, z_182, t4, t5), 0, 1), rfl, (by subst ev_181; subst ez_182; rw [eo_158, kx_ca0 hr0, if_neg hfl]), by rw [ht]; exact hP, hD⟩, hS.F ht⟩) hS.2.2 dX2_call_136
    · refine lv_istore (lv' := [(7, .int (-1)), (5, .long o_158), (0, .ref h), (1, .int cz), (2, .int x), (3, .long a)]) hx hb dX2_call_39 hl (by decide) rfl (fun ls hl => ?_)
      refine lv_iload hx hb dX2_call_41 (lv_at hl 0 rfl) ?_
      refine lv_iconst (v := (-1)) hx hb dX2_call_43 (by decide) ?_
      refine lv_icmp_eq (tgt := 63) hx hb dX2_call_44 (by decide) (fun _ => ?_) (fun h => absurd h (by decide))
      refine lv_aload_n hx hb dX2_call_63 rfl (lv_at hl 2 rfl) ?_
      refine va_get (D := (dC, dI)) (ci := 2) (v := .int 1) (C := RX2) (T := TX2) (N := 16) hx hb hts iwX2_call hown hK hP 0 rfl rfl 15 (by decide) (hts (.fieldLink RX2 54 "MainframeDeskModel" "way" "I") (by decide +kernel)) (fun _ h9 => h9) rfl dX2_call_64 ?_
      refine lv_if_ne (tgt := 95) hx hb dX2_call_67 (by decide) (fun _ => ?_) (fun h => absurd h (by decide))
      refine lv_aload_n hx hb dX2_call_95 rfl (lv_at hl 2 rfl) ?_
      refine va_get (D := (dC, dI)) (ci := 2) (v := .ref qt) (C := RX2) (T := TX2) (N := 16) hx hb hts iwX2_call hown hK hP 0 rfl rfl 5 (by decide) (hts (.fieldLink RX2 26 "MainframeDeskModel" "there" "[Z") (by decide +kernel)) (fun _ h9 => h9) rfl dX2_call_96 ?_
      refine lv_iload_n hx hb dX2_call_99 rfl (lv_at hl 4 rfl) ?_
      refine lv_iconst (v := 1) hx hb dX2_call_100 (by decide) ?_
      refine lv_isub hx hb dX2_call_101 ?_
      refine lv_iconst (v := 0) hx hb dX2_call_102 (by decide) ?_
      refine va_zast hx hb hK hP hD hS 6 5 rfl rfl (kx_ix2 hn hxx) dX2_call_103 (fun H locs hP hD hS => ?_)
      rw [kx_nb0] at hP hD
      have hP : va_P (dC, dI) vwCl (rW h qs qm qa qf qk qt qd cs cm ca cf ck ct cd n kd (upd ok (mIx x) 0) cn rc rs an fl t0 t1 t2 t3 t4 t5 0 1) H := hP
      have hD : va_D A (rW h qs qm qa qf qk qt qd cs cm ca cf ck ct cd n kd (upd ok (mIx x) 0) cn rc rs an fl t0 t1 t2 t3 t4 t5 0 1) := hD
      refine lv_aload_n hx hb dX2_call_104 rfl (lv_at hl 2 rfl) ?_
      refine lv_aload_n hx hb dX2_call_105 rfl (lv_at hl 2 rfl) ?_
      refine va_get (D := (dC, dI)) (ci := 2) (v := .ref qf) (C := RX2) (T := TX2) (N := 16) hx hb hts iwX2_call hown hK hP 0 rfl rfl 3 (by decide) (hts (.fieldLink RX2 20 "MainframeDeskModel" "failures" "[I") (by decide +kernel)) (fun _ h9 => h9) rfl dX2_call_106 ?_
      refine lv_iload_n hx hb dX2_call_109 rfl (lv_at hl 3 rfl) ?_
      refine va_iald hx hb hK hP 4 3 rfl rfl (kx_in hc (by decide)) dX2_call_110 ?_
      refine lv_topi (fun v_177 ev_177 => ?_)
      refine va_put (D := (dC, dI)) (ci := 2) (v := .int v_177) (ty := .int) (C := RX2) (T := TX2) (N := 16) hx hb hts iwX2_call tyX2 tyX2_ok nmX2 hown hK hP hD hS 0 rfl rfl 9 (by decide) (hts (.fieldLink RX2 67 "MainframeDeskModel" "latest" "I") (by decide +kernel)) (fun _ h9 => h9) rfl (by decide +kernel) rfl rfl (Nat.le_of_ble_eq_true rfl) dX2_call_111 (fun H locs hP hD hS => ?_)
      have hP : va_P (dC, dI) vwCl (rW h qs qm qa qf qk qt qd cs cm ca cf ck ct cd n kd (upd ok (mIx x) 0) cn rc rs an fl v_177 t1 t2 t3 t4 t5 0 1) H := hP
      have hD : va_D A (rW h qs qm qa qf qk qt qd cs cm ca cf ck ct cd n kd (upd ok (mIx x) 0) cn rc rs an fl v_177 t1 t2 t3 t4 t5 0 1) := hD
      refine lv_aload_n hx hb dX2_call_114 rfl (lv_at hl 2 rfl) ?_
      refine lv_iload_n hx hb dX2_call_115 rfl (lv_at hl 3 rfl) ?_
      refine va_put (D := (dC, dI)) (ci := 2) (v := .int cz) (ty := .int) (C := RX2) (T := TX2) (N := 16) hx hb hts iwX2_call tyX2 tyX2_ok nmX2 hown hK hP hD hS 0 rfl rfl 10 (by decide) (hts (.fieldLink RX2 70 "MainframeDeskModel" "latestCall" "I") (by decide +kernel)) (fun _ h9 => h9) rfl (by decide +kernel) rfl rfl (Nat.le_of_ble_eq_true rfl) dX2_call_116 (fun H locs hP hD hS => ?_)
      have hP : va_P (dC, dI) vwCl (rW h qs qm qa qf qk qt qd cs cm ca cf ck ct cd n kd (upd ok (mIx x) 0) cn rc rs an fl v_177 cz t2 t3 t4 t5 0 1) H := hP
      have hD : va_D A (rW h qs qm qa qf qk qt qd cs cm ca cf ck ct cd n kd (upd ok (mIx x) 0) cn rc rs an fl v_177 cz t2 t3 t4 t5 0 1) := hD
      refine lv_aload_n hx hb dX2_call_119 rfl (lv_at hl 2 rfl) ?_
      refine lv_iload_n hx hb dX2_call_120 rfl (lv_at hl 4 rfl) ?_
      refine va_put (D := (dC, dI)) (ci := 2) (v := .int x) (ty := .int) (C := RX2) (T := TX2) (N := 16) hx hb hts iwX2_call tyX2 tyX2_ok nmX2 hown hK hP hD hS 0 rfl rfl 11 (by decide) (hts (.fieldLink RX2 73 "MainframeDeskModel" "latestThing" "I") (by decide +kernel)) (fun _ h9 => h9) rfl (by decide +kernel) rfl rfl (Nat.le_of_ble_eq_true rfl) dX2_call_121 (fun H locs hP hD hS => ?_)
      have hP : va_P (dC, dI) vwCl (rW h qs qm qa qf qk qt qd cs cm ca cf ck ct cd n kd (upd ok (mIx x) 0) cn rc rs an fl v_177 cz x t3 t4 t5 0 1) H := hP
      have hD : va_D A (rW h qs qm qa qf qk qt qd cs cm ca cf ck ct cd n kd (upd ok (mIx x) 0) cn rc rs an fl v_177 cz x t3 t4 t5 0 1) := hD
      refine lv_aload_n hx hb dX2_call_124 rfl (lv_at hl 2 rfl) ?_
      refine lv_dup hx hb dX2_call_125 rfl ?_
      refine va_get (D := (dC, dI)) (ci := 2) (v := .int t3) (C := RX2) (T := TX2) (N := 16) hx hb hts iwX2_call hown hK hP 0 rfl rfl 12 (by decide) (hts (.fieldLink RX2 76 "MainframeDeskModel" "failed" "I") (by decide +kernel)) (fun _ h9 => h9) rfl dX2_call_126 ?_
      refine lv_iconst (v := 1) hx hb dX2_call_129 (by decide) ?_
      refine lv_iadd hx hb dX2_call_130 ?_
      refine lv_topi (fun z_178 ez_178 => ?_)
      refine va_put (D := (dC, dI)) (ci := 2) (v := .int z_178) (ty := .int) (C := RX2) (T := TX2) (N := 16) hx hb hts iwX2_call tyX2 tyX2_ok nmX2 hown hK hP hD hS 0 rfl rfl 12 (by decide) (hts (.fieldLink RX2 76 "MainframeDeskModel" "failed" "I") (by decide +kernel)) (fun _ h9 => h9) rfl (by decide +kernel) rfl rfl (Nat.le_of_ble_eq_true rfl) dX2_call_131 (fun H locs hP hD hS => ?_)
      have hP : va_P (dC, dI) vwCl (rW h qs qm qa qf qk qt qd cs cm ca cf ck ct cd n kd (upd ok (mIx x) 0) cn rc rs an fl v_177 cz x z_178 t4 t5 0 1) H := hP
      have hD : va_D A (rW h qs qm qa qf qk qt qd cs cm ca cf ck ct cd n kd (upd ok (mIx x) 0) cn rc rs an fl v_177 cz x z_178 t4 t5 0 1) := hD
      refine lv_lload hx hb dX2_call_134 (lv_at hl 1 rfl) ?_
      have e1 : mTkC rc cz = rc := if_neg h8_174
      have e2 : mTkS rs cz = rs := if_neg h8_174
      have hP : va_P (dC, dI) vwCl (rW h qs qm qa qf qk qt qd cs cm ca cf ck ct cd n kd (upd ok (mIx x) 0) cn (mTkC rc cz) (mTkS rs cz) an fl v_177 cz x z_178 t4 t5 0 1) H := by rw [e1, e2]; exact hP
      have hD : va_D A (rW h qs qm qa qf qk qt qd cs cm ca cf ck ct cd n kd (upd ok (mIx x) 0) cn (mTkC rc cz) (mTkS rs cz) an fl v_177 cz x z_178 t4 t5 0 1) := by rw [e1, e2]; exact hD
      exact W.lret (v := o_158) hx hb hr (fun t ht hW => ⟨⟨_, ((n, kd, upd ok (mIx x) 0, cn, mTkC rc cz, mTkS rs cz, an, fl, v_177, cz, x, z_178, t4, t5), 0, 1), rfl, (by subst ev_177; subst ez_178; rw [eo_158, kx_ca0 hr0, if_neg hfl]), by rw [ht]; exact hP, hD⟩, hS.F ht⟩) hS.2.2 dX2_call_136
end
section
theorem kx_le50 {x : Int32} (h1 : x ≤ 50) (h2 : ¬ x = 50) : x < 50 := by
  rcases Int32.lt_or_eq_of_le h1 with h | h
  · exact h
  · exact absurd h h2
theorem kx_7 {k : Int32} : (0 ≤ k ∧ k < 7) ↔ (0 ≤ k ∧ k ≤ 6) := by
  have e7 : (7 : Int32).toInt = 7 := by decide
  have e6 : (6 : Int32).toInt = 6 := by decide
  constructor
  · intro h
    refine ⟨h.1, Int32.le_iff_toInt_le.mpr ?_⟩
    have := Int32.lt_iff_toInt_lt.mp h.2
    omega
  · intro h
    refine ⟨h.1, Int32.lt_iff_toInt_lt.mpr ?_⟩
    have := Int32.le_iff_toInt_le.mp h.2
    omega
theorem iwX2_collect : ∀ w ∈ wsX20, w ∈ wsX2_collect := fun _ h => List.mem_cons_of_mem _ (List.mem_append_right _ h)
set_option maxHeartbeats 1000000 in
set_option maxRecDepth 100000 in
/-- collect(x, v) -/
theorem r_collect (l : Launch) (dC : Nat → ClassId) (dI : Nat → Nat → Nat) (h qs qm qa qf qk qt qd : Nat) (cs cm ca cf ck ct cd : ClassId) (n : Nat) (kd ok cn rc : Nat → Int32) (rs an : Nat → Int64) (fl : Nat → Int32) (t0 t1 t2 t3 t4 t5 th wy : Int32) (hrc : ∀ i, rc i ≤ 50) (sz : Nat) (x : Int32) (v : Int64) : Met l yX2_collect wsX2_collect ({ frames := 1, cells := 0, slots := 0, locals := 21 }) (va_Pc [.ref h, .int x, .long v] (rQ dC dI [(cs, .long), (cm, .int), (ca, .long), (cf, .int), (ck, .int), (ct, .boolean), (cd, .long)] (rW h qs qm qa qf qk qt qd cs cm ca cf ck ct cd n kd ok cn rc rs an fl t0 t1 t2 t3 t4 t5 th wy) sz)) (va_Qi (fun (r : Int32) (u : dM × Int32 × Int32) => (r, u.1) = mCollect (n, kd, ok, cn, rc, rs, an, fl, t0, t1, t2, t3, t4, t5) x v) (fun u t => dAt dC dI (rWm h qs qm qa qf qk qt qd cs cm ca cf ck ct cd u) (va_A (rW h qs qm qa qf qk qt qd cs cm ca cf ck ct cd n kd ok cn rc rs an fl t0 t1 t2 t3 t4 t5 th wy) sz) t) (va_A (rW h qs qm qa qf qk qt qd cs cm ca cf ck ct cd n kd ok cn rc rs an fl t0 t1 t2 t3 t4 t5 th wy) sz)) 0 0 (va_A (rW h qs qm qa qf qk qt qd cs cm ca cf ck ct cd n kd ok cn rc rs an fl t0 t1 t2 t3 t4 t5 th wy) sz) := by
  refine Met.ofW (cc := cX2_collect) (maxL := 4) (ret := (some .int)) (by decide) rfl ?_
  intro p e s m args below meth c s₁ B hml hv
  obtain ⟨rfl, hsz, hP, hK, hD0⟩ := hv
  have hx := B.exec
  have hb := B.bytes
  have hr := B.returns
  have hts := atoms_spec (ws := wsX2_collect) B.pre
  have hown : s.vm.findClass RX2 = some m.cls := findClass_of_methodNamed B.named
  have hlocks := B.notSynchronized
  subst hsz
  have hD := hD0.self (sz := s.heap.size)
  generalize hAe : va_A (rW h qs qm qa qf qk qt qd cs cm ca cf ck ct cd n kd ok cn rc rs an fl t0 t1 t2 t3 t4 t5 th wy) s.heap.size = A at hD ⊢
  have hA : ∀ q : Nat, s.heap.size ≤ q → A q := fun q h => by rw [← hAe]; exact Or.inr h
  have hS : va_S A s.heap s.heap [] := va_S.rf
  have hl := lv_entry ([.ref h, .int x, .long v]) (n := 4) (Nat.le_of_ble_eq_true rfl)
  rw [lg_entry_eq]
  generalize (lg_sl ([.ref h, .int x, .long v]) ++ List.replicate (4 - (lg_sl ([.ref h, .int x, .long v])).length) Slot.unset).toArray = ls at hl ⊢
  have hl : lv_has ls 4 [(0, .ref h), (1, .int x), (2, .long v)] := hl
  refine lv_aload_n hx hb dX2_collect_0 rfl (lv_at hl 0 rfl) ?_
  refine lv_iconst (v := 0) hx hb dX2_collect_1 (by decide) ?_
  refine va_put (D := (dC, dI)) (ci := 2) (v := .int 0) (ty := .int) (C := RX2) (T := TX2) (N := 16) hx hb hts iwX2_collect tyX2 tyX2_ok nmX2 hown hK hP hD hS 0 rfl rfl 8 (by decide) (hts (.fieldLink RX2 33 "MainframeDeskModel" "thrown" "I") (by decide +kernel)) (fun _ h9 => h9) rfl (by decide +kernel) rfl rfl (Nat.le_of_ble_eq_true rfl) dX2_collect_2 (fun H locs hP hD hS => ?_)
  have hP : va_P (dC, dI) vwCl (rW h qs qm qa qf qk qt qd cs cm ca cf ck ct cd n kd ok cn rc rs an fl t0 t1 t2 t3 t4 t5 0 wy) H := hP
  have hD : va_D A (rW h qs qm qa qf qk qt qd cs cm ca cf ck ct cd n kd ok cn rc rs an fl t0 t1 t2 t3 t4 t5 0 wy) := hD
  refine lv_iload_n hx hb dX2_collect_5 rfl (lv_at hl 1 rfl) ?_
  refine lv_iconst (v := 4) hx hb dX2_collect_6 (by decide) ?_
  refine vp_callSi (W.runS (As := [.int x, .int 4]) (rest := []) ⟨hx, hb, hml, hown, hts⟩ (r_below l x 4) (va_cwS 2 hts gX2_collect_X2_below rfl rfl rfl (by decide +kernel) ⟨Nat.le_of_ble_eq_true rfl, Nat.le_of_ble_eq_true rfl⟩) ⟨fun _ _ _ _ q => q, fun _ _ _ => ⟨rfl, trivial⟩⟩ rfl rfl hl.1 rfl (lv_room (Nat.le_of_ble_eq_true rfl)) dX2_collect_7 ⟨Nat.le_of_ble_eq_true rfl, Nat.le_of_ble_eq_true rfl⟩) (fun r9 hr9 => ?_)
  rcases hr9 with ⟨hq_183, rfl⟩ | ⟨hq_183, rfl⟩
  · refine lv_if_eq (tgt := 24) hx hb dX2_collect_10 (by decide) (fun h => absurd h (by decide)) (fun _ => ?_)
    refine lv_aload_n hx hb dX2_collect_13 rfl (lv_at hl 0 rfl) ?_
    refine va_get (D := (dC, dI)) (ci := 2) (v := .ref qm) (C := RX2) (T := TX2) (N := 16) hx hb hts iwX2_collect hown hK hP 0 rfl rfl 1 (by decide) (hts (.fieldLink RX2 13 "MainframeDeskModel" "many" "[I") (by decide +kernel)) (fun _ h9 => h9) rfl dX2_collect_14 ?_
    refine lv_iload_n hx hb dX2_collect_17 rfl (lv_at hl 1 rfl) ?_
    refine va_iald hx hb hK hP 2 1 rfl rfl (kx_in hq_183 (by decide)) dX2_collect_18 ?_
    refine lv_topi (fun v_185 ev_185 => ?_)
    refine lv_bipush (v := 50) hx hb dX2_collect_19 (by decide) ?_
    refine lv_icmp_ne (tgt := 26) hx hb dX2_collect_21 (by decide) (fun c_186 => ?_) (fun c_186 => ?_)
    · refine lv_aload_n hx hb dX2_collect_26 rfl (lv_at hl 0 rfl) ?_
      refine va_get (D := (dC, dI)) (ci := 2) (v := .ref qs) (C := RX2) (T := TX2) (N := 16) hx hb hts iwX2_collect hown hK hP 0 rfl rfl 0 (by decide) (hts (.fieldLink RX2 7 "MainframeDeskModel" "sum" "[J") (by decide +kernel)) (fun _ h9 => h9) rfl dX2_collect_27 ?_
      refine lv_iload_n hx hb dX2_collect_30 rfl (lv_at hl 1 rfl) ?_
      refine lv_dup2_11 hx hb dX2_collect_31 rfl rfl ?_
      refine va_lald hx hb hK hP 1 0 rfl rfl (kx_in hq_183 (by decide)) dX2_collect_32 ?_
      refine lv_topl (fun v_187 ev_187 => ?_)
      refine lv_lload_n hx hb dX2_collect_33 rfl (lv_at hl 2 rfl) ?_
      refine lv_ladd hx hb dX2_collect_34 ?_
      refine lv_topl (fun z_188 ez_188 => ?_)
      refine va_last hx hb hK hP hD hS 1 0 rfl rfl (kx_in hq_183 (by decide)) dX2_collect_35 (fun H locs hP hD hS => ?_)
      have hP : va_P (dC, dI) vwCl (rW h qs qm qa qf qk qt qd cs cm ca cf ck ct cd n kd ok cn rc (vp_updL rs x.toNatClampNeg z_188) an fl t0 t1 t2 t3 t4 t5 0 wy) H := hP
      have hD : va_D A (rW h qs qm qa qf qk qt qd cs cm ca cf ck ct cd n kd ok cn rc (vp_updL rs x.toNatClampNeg z_188) an fl t0 t1 t2 t3 t4 t5 0 wy) := hD
      refine lv_aload_n hx hb dX2_collect_36 rfl (lv_at hl 0 rfl) ?_
      refine va_get (D := (dC, dI)) (ci := 2) (v := .ref qm) (C := RX2) (T := TX2) (N := 16) hx hb hts iwX2_collect hown hK hP 0 rfl rfl 1 (by decide) (hts (.fieldLink RX2 13 "MainframeDeskModel" "many" "[I") (by decide +kernel)) (fun _ h9 => h9) rfl dX2_collect_37 ?_
      refine lv_iload_n hx hb dX2_collect_40 rfl (lv_at hl 1 rfl) ?_
      refine lv_dup2_11 hx hb dX2_collect_41 rfl rfl ?_
      refine va_iald hx hb hK hP 2 1 rfl rfl (kx_in hq_183 (by decide)) dX2_collect_42 ?_
      refine lv_topi (fun v_189 ev_189 => ?_)
      refine lv_iconst (v := 1) hx hb dX2_collect_43 (by decide) ?_
      refine lv_iadd hx hb dX2_collect_44 ?_
      refine lv_topi (fun z_190 ez_190 => ?_)
      refine va_iast hx hb hK hP hD hS 2 1 rfl rfl (kx_in hq_183 (by decide)) dX2_collect_45 (fun H locs hP hD hS => ?_)
      have hP : va_P (dC, dI) vwCl (rW h qs qm qa qf qk qt qd cs cm ca cf ck ct cd n kd ok cn (upd rc x.toNatClampNeg z_190) (vp_updL rs x.toNatClampNeg z_188) an fl t0 t1 t2 t3 t4 t5 0 wy) H := hP
      have hD : va_D A (rW h qs qm qa qf qk qt qd cs cm ca cf ck ct cd n kd ok cn (upd rc x.toNatClampNeg z_190) (vp_updL rs x.toNatClampNeg z_188) an fl t0 t1 t2 t3 t4 t5 0 wy) := hD
      refine lv_aload_n hx hb dX2_collect_46 rfl (lv_at hl 0 rfl) ?_
      refine va_get (D := (dC, dI)) (ci := 2) (v := .ref qm) (C := RX2) (T := TX2) (N := 16) hx hb hts iwX2_collect hown hK hP 0 rfl rfl 1 (by decide) (hts (.fieldLink RX2 13 "MainframeDeskModel" "many" "[I") (by decide +kernel)) (fun _ h9 => h9) rfl dX2_collect_47 ?_
      refine lv_iload_n hx hb dX2_collect_50 rfl (lv_at hl 1 rfl) ?_
      refine va_iald hx hb hK hP 2 1 rfl rfl (kx_in hq_183 (by decide)) dX2_collect_51 ?_
      refine lv_topi (fun v_191 ev_191 => ?_)
      rw [pk_us] at ev_191
      exact W.iret (v := v_191) hx hb hr (fun t ht hW => ⟨⟨_, ((n, kd, ok, cn, upd rc x.toNatClampNeg z_190, vp_updL rs x.toNatClampNeg z_188, an, fl, t0, t1, t2, t3, t4, t5), 0, wy), rfl, (by subst ev_185; subst ev_187; subst ez_188; subst ev_189; subst ez_190; subst ev_191; exact (if_pos ⟨hq_183, kx_le50 (hrc _) c_186⟩).symm), by rw [ht]; exact hP, hD⟩, hS.F ht⟩) hS.2.2 dX2_collect_52
    · refine lv_iconst (v := (-1)) hx hb dX2_collect_24 (by decide) ?_
      exact W.iret (v := (-1)) hx hb hr (fun t ht hW => ⟨⟨_, ((n, kd, ok, cn, rc, rs, an, fl, t0, t1, t2, t3, t4, t5), 0, wy), rfl, (by subst ev_185; exact (if_neg (fun q => by have q2 := q.2; rw [c_186] at q2; exact absurd q2 (by decide))).symm), by rw [ht]; exact hP, hD⟩, hS.F ht⟩) hS.2.2 dX2_collect_25
  · refine lv_if_eq (tgt := 24) hx hb dX2_collect_10 (by decide) (fun _ => ?_) (fun h => absurd h (by decide))
    refine lv_iconst (v := (-1)) hx hb dX2_collect_24 (by decide) ?_
    exact W.iret (v := (-1)) hx hb hr (fun t ht hW => ⟨⟨_, ((n, kd, ok, cn, rc, rs, an, fl, t0, t1, t2, t3, t4, t5), 0, wy), rfl, (by exact (if_neg (fun q => hq_183 q.1)).symm), by rw [ht]; exact hP, hD⟩, hS.F ht⟩) hS.2.2 dX2_collect_25
theorem iwX2_answer : ∀ w ∈ wsX20, w ∈ wsX2_answer := fun _ h => List.mem_cons_of_mem _ (List.mem_append_right _ h)
set_option maxHeartbeats 1000000 in
set_option maxRecDepth 100000 in
/-- answer(x, v) -/
theorem r_answer (l : Launch) (dC : Nat → ClassId) (dI : Nat → Nat → Nat) (h qs qm qa qf qk qt qd : Nat) (cs cm ca cf ck ct cd : ClassId) (n : Nat) (kd ok cn rc : Nat → Int32) (rs an : Nat → Int64) (fl : Nat → Int32) (t0 t1 t2 t3 t4 t5 th wy : Int32) (sz : Nat) (x : Int32) (v : Int64) : Met l yX2_answer wsX2_answer ({ frames := 1, cells := 0, slots := 0, locals := 21 }) (va_Pc [.ref h, .int x, .long v] (rQ dC dI [(cs, .long), (cm, .int), (ca, .long), (cf, .int), (ck, .int), (ct, .boolean), (cd, .long)] (rW h qs qm qa qf qk qt qd cs cm ca cf ck ct cd n kd ok cn rc rs an fl t0 t1 t2 t3 t4 t5 th wy) sz)) (va_Qi (fun (r : Int32) (u : dM × Int32 × Int32) => (r, u.1) = mAnswer (n, kd, ok, cn, rc, rs, an, fl, t0, t1, t2, t3, t4, t5) x v) (fun u t => dAt dC dI (rWm h qs qm qa qf qk qt qd cs cm ca cf ck ct cd u) (va_A (rW h qs qm qa qf qk qt qd cs cm ca cf ck ct cd n kd ok cn rc rs an fl t0 t1 t2 t3 t4 t5 th wy) sz) t) (va_A (rW h qs qm qa qf qk qt qd cs cm ca cf ck ct cd n kd ok cn rc rs an fl t0 t1 t2 t3 t4 t5 th wy) sz)) 0 0 (va_A (rW h qs qm qa qf qk qt qd cs cm ca cf ck ct cd n kd ok cn rc rs an fl t0 t1 t2 t3 t4 t5 th wy) sz) := by
  refine Met.ofW (cc := cX2_answer) (maxL := 4) (ret := (some .int)) (by decide) rfl ?_
  intro p e s m args below meth c s₁ B hml hv
  obtain ⟨rfl, hsz, hP, hK, hD0⟩ := hv
  have hx := B.exec
  have hb := B.bytes
  have hr := B.returns
  have hts := atoms_spec (ws := wsX2_answer) B.pre
  have hown : s.vm.findClass RX2 = some m.cls := findClass_of_methodNamed B.named
  have hlocks := B.notSynchronized
  subst hsz
  have hD := hD0.self (sz := s.heap.size)
  generalize hAe : va_A (rW h qs qm qa qf qk qt qd cs cm ca cf ck ct cd n kd ok cn rc rs an fl t0 t1 t2 t3 t4 t5 th wy) s.heap.size = A at hD ⊢
  have hA : ∀ q : Nat, s.heap.size ≤ q → A q := fun q h => by rw [← hAe]; exact Or.inr h
  have hS : va_S A s.heap s.heap [] := va_S.rf
  have hl := lv_entry ([.ref h, .int x, .long v]) (n := 4) (Nat.le_of_ble_eq_true rfl)
  rw [lg_entry_eq]
  generalize (lg_sl ([.ref h, .int x, .long v]) ++ List.replicate (4 - (lg_sl ([.ref h, .int x, .long v])).length) Slot.unset).toArray = ls at hl ⊢
  have hl : lv_has ls 4 [(0, .ref h), (1, .int x), (2, .long v)] := hl
  refine lv_aload_n hx hb dX2_answer_0 rfl (lv_at hl 0 rfl) ?_
  refine lv_iconst (v := 0) hx hb dX2_answer_1 (by decide) ?_
  refine va_put (D := (dC, dI)) (ci := 2) (v := .int 0) (ty := .int) (C := RX2) (T := TX2) (N := 16) hx hb hts iwX2_answer tyX2 tyX2_ok nmX2 hown hK hP hD hS 0 rfl rfl 8 (by decide) (hts (.fieldLink RX2 33 "MainframeDeskModel" "thrown" "I") (by decide +kernel)) (fun _ h9 => h9) rfl (by decide +kernel) rfl rfl (Nat.le_of_ble_eq_true rfl) dX2_answer_2 (fun H locs hP hD hS => ?_)
  have hP : va_P (dC, dI) vwCl (rW h qs qm qa qf qk qt qd cs cm ca cf ck ct cd n kd ok cn rc rs an fl t0 t1 t2 t3 t4 t5 0 wy) H := hP
  have hD : va_D A (rW h qs qm qa qf qk qt qd cs cm ca cf ck ct cd n kd ok cn rc rs an fl t0 t1 t2 t3 t4 t5 0 wy) := hD
  refine lv_iload_n hx hb dX2_answer_5 rfl (lv_at hl 1 rfl) ?_
  refine lv_bipush (v := 32) hx hb dX2_answer_6 (by decide) ?_
  refine vp_callSi (W.runS (As := [.int x, .int 32]) (rest := []) ⟨hx, hb, hml, hown, hts⟩ (r_below l x 32) (va_cwS 2 hts gX2_answer_X2_below rfl rfl rfl (by decide +kernel) ⟨Nat.le_of_ble_eq_true rfl, Nat.le_of_ble_eq_true rfl⟩) ⟨fun _ _ _ _ q => q, fun _ _ _ => ⟨rfl, trivial⟩⟩ rfl rfl hl.1 rfl (lv_room (Nat.le_of_ble_eq_true rfl)) dX2_answer_8 ⟨Nat.le_of_ble_eq_true rfl, Nat.le_of_ble_eq_true rfl⟩) (fun r9 hr9 => ?_)
  rcases hr9 with ⟨hq_193, rfl⟩ | ⟨hq_193, rfl⟩
  · refine lv_if_ne (tgt := 16) hx hb dX2_answer_11 (by decide) (fun _ => ?_) (fun h => absurd h (by decide))
    refine lv_aload_n hx hb dX2_answer_16 rfl (lv_at hl 0 rfl) ?_
    refine va_get (D := (dC, dI)) (ci := 2) (v := .ref qa) (C := RX2) (T := TX2) (N := 16) hx hb hts iwX2_answer hown hK hP 0 rfl rfl 2 (by decide) (hts (.fieldLink RX2 17 "MainframeDeskModel" "answers" "[J") (by decide +kernel)) (fun _ h9 => h9) rfl dX2_answer_17 ?_
    refine lv_iload_n hx hb dX2_answer_20 rfl (lv_at hl 1 rfl) ?_
    refine lv_lload_n hx hb dX2_answer_21 rfl (lv_at hl 2 rfl) ?_
    refine va_last hx hb hK hP hD hS 3 2 rfl rfl (kx_in hq_193 (by decide)) dX2_answer_22 (fun H locs hP hD hS => ?_)
    have hP : va_P (dC, dI) vwCl (rW h qs qm qa qf qk qt qd cs cm ca cf ck ct cd n kd ok cn rc rs (vp_updL an x.toNatClampNeg v) fl t0 t1 t2 t3 t4 t5 0 wy) H := hP
    have hD : va_D A (rW h qs qm qa qf qk qt qd cs cm ca cf ck ct cd n kd ok cn rc rs (vp_updL an x.toNatClampNeg v) fl t0 t1 t2 t3 t4 t5 0 wy) := hD
    refine lv_iconst (v := 1) hx hb dX2_answer_23 (by decide) ?_
    exact W.iret (v := 1) hx hb hr (fun t ht hW => ⟨⟨_, ((n, kd, ok, cn, rc, rs, vp_updL an x.toNatClampNeg v, fl, t0, t1, t2, t3, t4, t5), 0, wy), rfl, (by exact (if_pos hq_193).symm), by rw [ht]; exact hP, hD⟩, hS.F ht⟩) hS.2.2 dX2_answer_24
  · refine lv_if_ne (tgt := 16) hx hb dX2_answer_11 (by decide) (fun h => absurd h (by decide)) (fun _ => ?_)
    refine lv_iconst (v := (-1)) hx hb dX2_answer_14 (by decide) ?_
    exact W.iret (v := (-1)) hx hb hr (fun t ht hW => ⟨⟨_, ((n, kd, ok, cn, rc, rs, an, fl, t0, t1, t2, t3, t4, t5), 0, wy), rfl, (by exact (if_neg hq_193).symm), by rw [ht]; exact hP, hD⟩, hS.F ht⟩) hS.2.2 dX2_answer_15
theorem iwX2_fails : ∀ w ∈ wsX20, w ∈ wsX2_fails := fun _ h => List.mem_cons_of_mem _ (List.mem_append_right _ h)
set_option maxHeartbeats 1000000 in
set_option maxRecDepth 100000 in
/-- fails(x, k) -/
theorem r_fails (l : Launch) (dC : Nat → ClassId) (dI : Nat → Nat → Nat) (h qs qm qa qf qk qt qd : Nat) (cs cm ca cf ck ct cd : ClassId) (n : Nat) (kd ok cn rc : Nat → Int32) (rs an : Nat → Int64) (fl : Nat → Int32) (t0 t1 t2 t3 t4 t5 th wy : Int32) (sz : Nat) (x k : Int32) : Met l yX2_fails wsX2_fails ({ frames := 1, cells := 0, slots := 0, locals := 21 }) (va_Pc [.ref h, .int x, .int k] (rQ dC dI [(cs, .long), (cm, .int), (ca, .long), (cf, .int), (ck, .int), (ct, .boolean), (cd, .long)] (rW h qs qm qa qf qk qt qd cs cm ca cf ck ct cd n kd ok cn rc rs an fl t0 t1 t2 t3 t4 t5 th wy) sz)) (va_Qi (fun (r : Int32) (u : dM × Int32 × Int32) => (r, u.1) = mFails (n, kd, ok, cn, rc, rs, an, fl, t0, t1, t2, t3, t4, t5) x k) (fun u t => dAt dC dI (rWm h qs qm qa qf qk qt qd cs cm ca cf ck ct cd u) (va_A (rW h qs qm qa qf qk qt qd cs cm ca cf ck ct cd n kd ok cn rc rs an fl t0 t1 t2 t3 t4 t5 th wy) sz) t) (va_A (rW h qs qm qa qf qk qt qd cs cm ca cf ck ct cd n kd ok cn rc rs an fl t0 t1 t2 t3 t4 t5 th wy) sz)) 0 0 (va_A (rW h qs qm qa qf qk qt qd cs cm ca cf ck ct cd n kd ok cn rc rs an fl t0 t1 t2 t3 t4 t5 th wy) sz) := by
  refine Met.ofW (cc := cX2_fails) (maxL := 4) (ret := (some .int)) (by decide) rfl ?_
  intro p e s m args below meth c s₁ B hml hv
  obtain ⟨rfl, hsz, hP, hK, hD0⟩ := hv
  have hx := B.exec
  have hb := B.bytes
  have hr := B.returns
  have hts := atoms_spec (ws := wsX2_fails) B.pre
  have hown : s.vm.findClass RX2 = some m.cls := findClass_of_methodNamed B.named
  have hlocks := B.notSynchronized
  subst hsz
  have hD := hD0.self (sz := s.heap.size)
  generalize hAe : va_A (rW h qs qm qa qf qk qt qd cs cm ca cf ck ct cd n kd ok cn rc rs an fl t0 t1 t2 t3 t4 t5 th wy) s.heap.size = A at hD ⊢
  have hA : ∀ q : Nat, s.heap.size ≤ q → A q := fun q h => by rw [← hAe]; exact Or.inr h
  have hS : va_S A s.heap s.heap [] := va_S.rf
  have hl := lv_entry ([.ref h, .int x, .int k]) (n := 4) (Nat.le_of_ble_eq_true rfl)
  rw [lg_entry_eq]
  generalize (lg_sl ([.ref h, .int x, .int k]) ++ List.replicate (4 - (lg_sl ([.ref h, .int x, .int k])).length) Slot.unset).toArray = ls at hl ⊢
  have hl : lv_has ls 4 [(0, .ref h), (1, .int x), (2, .int k)] := hl
  refine lv_aload_n hx hb dX2_fails_0 rfl (lv_at hl 0 rfl) ?_
  refine lv_iconst (v := 0) hx hb dX2_fails_1 (by decide) ?_
  refine va_put (D := (dC, dI)) (ci := 2) (v := .int 0) (ty := .int) (C := RX2) (T := TX2) (N := 16) hx hb hts iwX2_fails tyX2 tyX2_ok nmX2 hown hK hP hD hS 0 rfl rfl 8 (by decide) (hts (.fieldLink RX2 33 "MainframeDeskModel" "thrown" "I") (by decide +kernel)) (fun _ h9 => h9) rfl (by decide +kernel) rfl rfl (Nat.le_of_ble_eq_true rfl) dX2_fails_2 (fun H locs hP hD hS => ?_)
  have hP : va_P (dC, dI) vwCl (rW h qs qm qa qf qk qt qd cs cm ca cf ck ct cd n kd ok cn rc rs an fl t0 t1 t2 t3 t4 t5 0 wy) H := hP
  have hD : va_D A (rW h qs qm qa qf qk qt qd cs cm ca cf ck ct cd n kd ok cn rc rs an fl t0 t1 t2 t3 t4 t5 0 wy) := hD
  refine lv_iload_n hx hb dX2_fails_5 rfl (lv_at hl 1 rfl) ?_
  refine lv_bipush (v := 32) hx hb dX2_fails_6 (by decide) ?_
  refine vp_callSi (W.runS (As := [.int x, .int 32]) (rest := []) ⟨hx, hb, hml, hown, hts⟩ (r_below l x 32) (va_cwS 2 hts gX2_fails_X2_below rfl rfl rfl (by decide +kernel) ⟨Nat.le_of_ble_eq_true rfl, Nat.le_of_ble_eq_true rfl⟩) ⟨fun _ _ _ _ q => q, fun _ _ _ => ⟨rfl, trivial⟩⟩ rfl rfl hl.1 rfl (lv_room (Nat.le_of_ble_eq_true rfl)) dX2_fails_8 ⟨Nat.le_of_ble_eq_true rfl, Nat.le_of_ble_eq_true rfl⟩) (fun r9 hr9 => ?_)
  rcases hr9 with ⟨hq_196, rfl⟩ | ⟨hq_196, rfl⟩
  · refine lv_if_eq (tgt := 23) hx hb dX2_fails_11 (by decide) (fun h => absurd h (by decide)) (fun _ => ?_)
    refine lv_iload_n hx hb dX2_fails_14 rfl (lv_at hl 2 rfl) ?_
    refine lv_bipush (v := 7) hx hb dX2_fails_15 (by decide) ?_
    refine vp_callSi (W.runS (As := [.int k, .int 7]) (rest := []) ⟨hx, hb, hml, hown, hts⟩ (r_below l k 7) (va_cwS 2 hts gX2_fails_X2_below rfl rfl rfl (by decide +kernel) ⟨Nat.le_of_ble_eq_true rfl, Nat.le_of_ble_eq_true rfl⟩) ⟨fun _ _ _ _ q => q, fun _ _ _ => ⟨rfl, trivial⟩⟩ rfl rfl hl.1 rfl (lv_room (Nat.le_of_ble_eq_true rfl)) dX2_fails_17 ⟨Nat.le_of_ble_eq_true rfl, Nat.le_of_ble_eq_true rfl⟩) (fun r9 hr9 => ?_)
    rcases hr9 with ⟨hq_198, rfl⟩ | ⟨hq_198, rfl⟩
    · refine lv_if_ne (tgt := 25) hx hb dX2_fails_20 (by decide) (fun _ => ?_) (fun h => absurd h (by decide))
      refine lv_aload_n hx hb dX2_fails_25 rfl (lv_at hl 0 rfl) ?_
      refine va_get (D := (dC, dI)) (ci := 2) (v := .ref qf) (C := RX2) (T := TX2) (N := 16) hx hb hts iwX2_fails hown hK hP 0 rfl rfl 3 (by decide) (hts (.fieldLink RX2 20 "MainframeDeskModel" "failures" "[I") (by decide +kernel)) (fun _ h9 => h9) rfl dX2_fails_26 ?_
      refine lv_iload_n hx hb dX2_fails_29 rfl (lv_at hl 1 rfl) ?_
      refine va_iald hx hb hK hP 4 3 rfl rfl (kx_in hq_196 (by decide)) dX2_fails_30 ?_
      refine lv_topi (fun v_200 ev_200 => ?_)
      refine lv_istore_n (lv' := [(3, .int v_200), (0, .ref h), (1, .int x), (2, .int k)]) hx hb dX2_fails_31 rfl hl (by decide) rfl (fun ls hl => ?_)
      refine lv_aload_n hx hb dX2_fails_32 rfl (lv_at hl 1 rfl) ?_
      refine va_get (D := (dC, dI)) (ci := 2) (v := .ref qf) (C := RX2) (T := TX2) (N := 16) hx hb hts iwX2_fails hown hK hP 0 rfl rfl 3 (by decide) (hts (.fieldLink RX2 20 "MainframeDeskModel" "failures" "[I") (by decide +kernel)) (fun _ h9 => h9) rfl dX2_fails_33 ?_
      refine lv_iload_n hx hb dX2_fails_36 rfl (lv_at hl 2 rfl) ?_
      refine lv_iload_n hx hb dX2_fails_37 rfl (lv_at hl 3 rfl) ?_
      refine va_iast hx hb hK hP hD hS 4 3 rfl rfl (kx_in hq_196 (by decide)) dX2_fails_38 (fun H locs hP hD hS => ?_)
      have hP : va_P (dC, dI) vwCl (rW h qs qm qa qf qk qt qd cs cm ca cf ck ct cd n kd ok cn rc rs an (upd fl x.toNatClampNeg k) t0 t1 t2 t3 t4 t5 0 wy) H := hP
      have hD : va_D A (rW h qs qm qa qf qk qt qd cs cm ca cf ck ct cd n kd ok cn rc rs an (upd fl x.toNatClampNeg k) t0 t1 t2 t3 t4 t5 0 wy) := hD
      refine lv_iload_n hx hb dX2_fails_39 rfl (lv_at hl 0 rfl) ?_
      exact W.iret (v := v_200) hx hb hr (fun t ht hW => ⟨⟨_, ((n, kd, ok, cn, rc, rs, an, upd fl x.toNatClampNeg k, t0, t1, t2, t3, t4, t5), 0, wy), rfl, (by subst ev_200; exact (if_pos ⟨hq_196, kx_7.mp hq_198⟩).symm), by rw [ht]; exact hP, hD⟩, hS.F ht⟩) hS.2.2 dX2_fails_40
    · refine lv_if_ne (tgt := 25) hx hb dX2_fails_20 (by decide) (fun h => absurd h (by decide)) (fun _ => ?_)
      refine lv_iconst (v := (-1)) hx hb dX2_fails_23 (by decide) ?_
      exact W.iret (v := (-1)) hx hb hr (fun t ht hW => ⟨⟨_, ((n, kd, ok, cn, rc, rs, an, fl, t0, t1, t2, t3, t4, t5), 0, wy), rfl, (by exact (if_neg (fun q => hq_198 (kx_7.mpr q.2))).symm), by rw [ht]; exact hP, hD⟩, hS.F ht⟩) hS.2.2 dX2_fails_24
  · refine lv_if_eq (tgt := 23) hx hb dX2_fails_11 (by decide) (fun _ => ?_) (fun h => absurd h (by decide))
    refine lv_iconst (v := (-1)) hx hb dX2_fails_23 (by decide) ?_
    exact W.iret (v := (-1)) hx hb hr (fun t ht hW => ⟨⟨_, ((n, kd, ok, cn, rc, rs, an, fl, t0, t1, t2, t3, t4, t5), 0, wy), rfl, (by exact (if_neg (fun q => hq_196 q.1)).symm), by rw [ht]; exact hP, hD⟩, hS.F ht⟩) hS.2.2 dX2_fails_24
theorem iwX2_make : ∀ w ∈ wsX20, w ∈ wsX2_make := fun _ h => List.mem_cons_of_mem _ (List.mem_append_right _ h)
set_option maxHeartbeats 1000000 in
set_option maxRecDepth 100000 in
/-- make(k) -/
theorem r_make (l : Launch) (dC : Nat → ClassId) (dI : Nat → Nat → Nat) (h qs qm qa qf qk qt qd : Nat) (cs cm ca cf ck ct cd : ClassId) (n : Nat) (kd ok cn rc : Nat → Int32) (rs an : Nat → Int64) (fl : Nat → Int32) (t0 t1 t2 t3 t4 t5 th wy : Int32) (hn : n ≤ 200) (sz : Nat) (k : Int32) : Met l yX2_make wsX2_make ({ frames := 1, cells := 0, slots := 0, locals := 21 }) (va_Pc [.ref h, .int k] (rQ dC dI [(cs, .long), (cm, .int), (ca, .long), (cf, .int), (ck, .int), (ct, .boolean), (cd, .long)] (rW h qs qm qa qf qk qt qd cs cm ca cf ck ct cd n kd ok cn rc rs an fl t0 t1 t2 t3 t4 t5 th wy) sz)) (va_Qi (fun (r : Int32) (u : dM × Int32 × Int32) => (r, u.1) = mMake (n, kd, ok, cn, rc, rs, an, fl, t0, t1, t2, t3, t4, t5) k) (fun u t => dAt dC dI (rWm h qs qm qa qf qk qt qd cs cm ca cf ck ct cd u) (va_A (rW h qs qm qa qf qk qt qd cs cm ca cf ck ct cd n kd ok cn rc rs an fl t0 t1 t2 t3 t4 t5 th wy) sz) t) (va_A (rW h qs qm qa qf qk qt qd cs cm ca cf ck ct cd n kd ok cn rc rs an fl t0 t1 t2 t3 t4 t5 th wy) sz)) 0 0 (va_A (rW h qs qm qa qf qk qt qd cs cm ca cf ck ct cd n kd ok cn rc rs an fl t0 t1 t2 t3 t4 t5 th wy) sz) := by
  refine Met.ofW (cc := cX2_make) (maxL := 2) (ret := (some .int)) (by decide) rfl ?_
  intro p e s m args below meth c s₁ B hml hv
  obtain ⟨rfl, hsz, hP, hK, hD0⟩ := hv
  have hx := B.exec
  have hb := B.bytes
  have hr := B.returns
  have hts := atoms_spec (ws := wsX2_make) B.pre
  have hown : s.vm.findClass RX2 = some m.cls := findClass_of_methodNamed B.named
  have hlocks := B.notSynchronized
  subst hsz
  have hD := hD0.self (sz := s.heap.size)
  generalize hAe : va_A (rW h qs qm qa qf qk qt qd cs cm ca cf ck ct cd n kd ok cn rc rs an fl t0 t1 t2 t3 t4 t5 th wy) s.heap.size = A at hD ⊢
  have hA : ∀ q : Nat, s.heap.size ≤ q → A q := fun q h => by rw [← hAe]; exact Or.inr h
  have hS : va_S A s.heap s.heap [] := va_S.rf
  have hl := lv_entry ([.ref h, .int k]) (n := 2) (Nat.le_of_ble_eq_true rfl)
  rw [lg_entry_eq]
  generalize (lg_sl ([.ref h, .int k]) ++ List.replicate (2 - (lg_sl ([.ref h, .int k])).length) Slot.unset).toArray = ls at hl ⊢
  have hl : lv_has ls 2 [(0, .ref h), (1, .int k)] := hl
  refine lv_aload_n hx hb dX2_make_0 rfl (lv_at hl 0 rfl) ?_
  refine lv_iconst (v := 0) hx hb dX2_make_1 (by decide) ?_
  refine va_put (D := (dC, dI)) (ci := 2) (v := .int 0) (ty := .int) (C := RX2) (T := TX2) (N := 16) hx hb hts iwX2_make tyX2 tyX2_ok nmX2 hown hK hP hD hS 0 rfl rfl 8 (by decide) (hts (.fieldLink RX2 33 "MainframeDeskModel" "thrown" "I") (by decide +kernel)) (fun _ h9 => h9) rfl (by decide +kernel) rfl rfl (Nat.le_of_ble_eq_true rfl) dX2_make_2 (fun H locs hP hD hS => ?_)
  have hP : va_P (dC, dI) vwCl (rW h qs qm qa qf qk qt qd cs cm ca cf ck ct cd n kd ok cn rc rs an fl t0 t1 t2 t3 t4 t5 0 wy) H := hP
  have hD : va_D A (rW h qs qm qa qf qk qt qd cs cm ca cf ck ct cd n kd ok cn rc rs an fl t0 t1 t2 t3 t4 t5 0 wy) := hD
  refine lv_iload_n hx hb dX2_make_5 rfl (lv_at hl 1 rfl) ?_
  refine lv_bipush (v := 8) hx hb dX2_make_6 (by decide) ?_
  refine vp_callSi (W.runS (As := [.int k, .int 8]) (rest := []) ⟨hx, hb, hml, hown, hts⟩ (r_below l k 8) (va_cwS 2 hts gX2_make_X2_below rfl rfl rfl (by decide +kernel) ⟨Nat.le_of_ble_eq_true rfl, Nat.le_of_ble_eq_true rfl⟩) ⟨fun _ _ _ _ q => q, fun _ _ _ => ⟨rfl, trivial⟩⟩ rfl rfl hl.1 rfl (lv_room (Nat.le_of_ble_eq_true rfl)) dX2_make_8 ⟨Nat.le_of_ble_eq_true rfl, Nat.le_of_ble_eq_true rfl⟩) (fun r9 hr9 => ?_)
  rcases hr9 with ⟨hq_203, rfl⟩ | ⟨hq_203, rfl⟩
  · refine lv_if_eq (tgt := 24) hx hb dX2_make_11 (by decide) (fun h => absurd h (by decide)) (fun _ => ?_)
    refine lv_aload_n hx hb dX2_make_14 rfl (lv_at hl 0 rfl) ?_
    refine va_get (D := (dC, dI)) (ci := 2) (v := .int (nI n)) (C := RX2) (T := TX2) (N := 16) hx hb hts iwX2_make hown hK hP 0 rfl rfl 7 (by decide) (hts (.fieldLink RX2 41 "MainframeDeskModel" "made" "I") (by decide +kernel)) (fun _ h9 => h9) rfl dX2_make_15 ?_
    refine lv_sipush (v := 200) hx hb dX2_make_18 (by decide) ?_
    refine lv_icmp_ne (tgt := 26) hx hb dX2_make_21 (by decide) (fun c_205 => ?_) (fun c_205 => ?_)
    · have hn2 : n < 200 := by
        rcases Nat.lt_or_ge n 200 with q | q
        · exact q
        · exact absurd (show nI n = 200 by rw [show n = 200 by omega]; rfl) c_205
      have hz8 : (nI n).toNatClampNeg = n := nI_clamp (by omega)
      refine lv_aload_n hx hb dX2_make_26 rfl (lv_at hl 0 rfl) ?_
      refine va_get (D := (dC, dI)) (ci := 2) (v := .ref qk) (C := RX2) (T := TX2) (N := 16) hx hb hts iwX2_make hown hK hP 0 rfl rfl 4 (by decide) (hts (.fieldLink RX2 23 "MainframeDeskModel" "kind" "[I") (by decide +kernel)) (fun _ h9 => h9) rfl dX2_make_27 ?_
      refine lv_aload_n hx hb dX2_make_30 rfl (lv_at hl 0 rfl) ?_
      refine va_get (D := (dC, dI)) (ci := 2) (v := .int (nI n)) (C := RX2) (T := TX2) (N := 16) hx hb hts iwX2_make hown hK hP 0 rfl rfl 7 (by decide) (hts (.fieldLink RX2 41 "MainframeDeskModel" "made" "I") (by decide +kernel)) (fun _ h9 => h9) rfl dX2_make_31 ?_
      refine lv_iload_n hx hb dX2_make_34 rfl (lv_at hl 1 rfl) ?_
      refine va_iast hx hb hK hP hD hS 5 4 rfl rfl (vp_in_nI hn2 (by omega)) dX2_make_35 (fun H locs hP hD hS => ?_)
      rw [hz8] at hP hD
      have hP : va_P (dC, dI) vwCl (rW h qs qm qa qf qk qt qd cs cm ca cf ck ct cd n (upd kd n k) ok cn rc rs an fl t0 t1 t2 t3 t4 t5 0 wy) H := hP
      have hD : va_D A (rW h qs qm qa qf qk qt qd cs cm ca cf ck ct cd n (upd kd n k) ok cn rc rs an fl t0 t1 t2 t3 t4 t5 0 wy) := hD
      refine lv_aload_n hx hb dX2_make_36 rfl (lv_at hl 0 rfl) ?_
      refine va_get (D := (dC, dI)) (ci := 2) (v := .ref qt) (C := RX2) (T := TX2) (N := 16) hx hb hts iwX2_make hown hK hP 0 rfl rfl 5 (by decide) (hts (.fieldLink RX2 26 "MainframeDeskModel" "there" "[Z") (by decide +kernel)) (fun _ h9 => h9) rfl dX2_make_37 ?_
      refine lv_aload_n hx hb dX2_make_40 rfl (lv_at hl 0 rfl) ?_
      refine va_get (D := (dC, dI)) (ci := 2) (v := .int (nI n)) (C := RX2) (T := TX2) (N := 16) hx hb hts iwX2_make hown hK hP 0 rfl rfl 7 (by decide) (hts (.fieldLink RX2 41 "MainframeDeskModel" "made" "I") (by decide +kernel)) (fun _ h9 => h9) rfl dX2_make_41 ?_
      refine lv_iconst (v := 1) hx hb dX2_make_44 (by decide) ?_
      refine va_zast hx hb hK hP hD hS 6 5 rfl rfl (vp_in_nI hn2 (by omega)) dX2_make_45 (fun H locs hP hD hS => ?_)
      rw [hz8] at hP hD
      rw [kx_nb1] at hP hD
      have hP : va_P (dC, dI) vwCl (rW h qs qm qa qf qk qt qd cs cm ca cf ck ct cd n (upd kd n k) (upd ok n 1) cn rc rs an fl t0 t1 t2 t3 t4 t5 0 wy) H := hP
      have hD : va_D A (rW h qs qm qa qf qk qt qd cs cm ca cf ck ct cd n (upd kd n k) (upd ok n 1) cn rc rs an fl t0 t1 t2 t3 t4 t5 0 wy) := hD
      refine lv_aload_n hx hb dX2_make_46 rfl (lv_at hl 0 rfl) ?_
      refine va_get (D := (dC, dI)) (ci := 2) (v := .ref qd) (C := RX2) (T := TX2) (N := 16) hx hb hts iwX2_make hown hK hP 0 rfl rfl 6 (by decide) (hts (.fieldLink RX2 30 "MainframeDeskModel" "answered" "[J") (by decide +kernel)) (fun _ h9 => h9) rfl dX2_make_47 ?_
      refine lv_aload_n hx hb dX2_make_50 rfl (lv_at hl 0 rfl) ?_
      refine va_get (D := (dC, dI)) (ci := 2) (v := .int (nI n)) (C := RX2) (T := TX2) (N := 16) hx hb hts iwX2_make hown hK hP 0 rfl rfl 7 (by decide) (hts (.fieldLink RX2 41 "MainframeDeskModel" "made" "I") (by decide +kernel)) (fun _ h9 => h9) rfl dX2_make_51 ?_
      refine lv_lconst (v := 0) hx hb dX2_make_54 (by decide) ?_
      refine va_last hx hb hK hP hD hS 7 6 rfl rfl (vp_in_nI hn2 (by omega)) dX2_make_55 (fun H locs hP hD hS => ?_)
      rw [hz8] at hP hD
      rw [mL_0] at hP hD
      have hP : va_P (dC, dI) vwCl (rW h qs qm qa qf qk qt qd cs cm ca cf ck ct cd n (upd kd n k) (upd ok n 1) (upd cn n 0) rc rs an fl t0 t1 t2 t3 t4 t5 0 wy) H := hP
      have hD : va_D A (rW h qs qm qa qf qk qt qd cs cm ca cf ck ct cd n (upd kd n k) (upd ok n 1) (upd cn n 0) rc rs an fl t0 t1 t2 t3 t4 t5 0 wy) := hD
      refine lv_aload_n hx hb dX2_make_56 rfl (lv_at hl 0 rfl) ?_
      refine lv_dup hx hb dX2_make_57 rfl ?_
      refine va_get (D := (dC, dI)) (ci := 2) (v := .int (nI n)) (C := RX2) (T := TX2) (N := 16) hx hb hts iwX2_make hown hK hP 0 rfl rfl 7 (by decide) (hts (.fieldLink RX2 41 "MainframeDeskModel" "made" "I") (by decide +kernel)) (fun _ h9 => h9) rfl dX2_make_58 ?_
      refine lv_iconst (v := 1) hx hb dX2_make_61 (by decide) ?_
      refine lv_iadd hx hb dX2_make_62 ?_
      refine lv_topi (fun z_206 ez_206 => ?_)
      rw [ez_206, nI_1] 
      refine va_put (D := (dC, dI)) (ci := 2) (v := .int (nI (n + 1))) (ty := .int) (C := RX2) (T := TX2) (N := 16) hx hb hts iwX2_make tyX2 tyX2_ok nmX2 hown hK hP hD hS 0 rfl rfl 7 (by decide) (hts (.fieldLink RX2 41 "MainframeDeskModel" "made" "I") (by decide +kernel)) (fun _ h9 => h9) rfl (by decide +kernel) rfl rfl (Nat.le_of_ble_eq_true rfl) dX2_make_63 (fun H locs hP hD hS => ?_)
      have hP : va_P (dC, dI) vwCl (rW h qs qm qa qf qk qt qd cs cm ca cf ck ct cd (n + 1) (upd kd n k) (upd ok n 1) (upd cn n 0) rc rs an fl t0 t1 t2 t3 t4 t5 0 wy) H := hP
      have hD : va_D A (rW h qs qm qa qf qk qt qd cs cm ca cf ck ct cd (n + 1) (upd kd n k) (upd ok n 1) (upd cn n 0) rc rs an fl t0 t1 t2 t3 t4 t5 0 wy) := hD
      refine lv_aload_n hx hb dX2_make_66 rfl (lv_at hl 0 rfl) ?_
      refine va_get (D := (dC, dI)) (ci := 2) (v := .int (nI (n + 1))) (C := RX2) (T := TX2) (N := 16) hx hb hts iwX2_make hown hK hP 0 rfl rfl 7 (by decide) (hts (.fieldLink RX2 41 "MainframeDeskModel" "made" "I") (by decide +kernel)) (fun _ h9 => h9) rfl dX2_make_67 ?_
      exact W.iret (v := nI (n + 1)) hx hb hr (fun t ht hW => ⟨⟨_, ((n + 1, upd kd n k, upd ok n 1, upd cn n 0, rc, rs, an, fl, t0, t1, t2, t3, t4, t5), 0, wy), rfl, (if_pos ⟨hq_203, hn2⟩).symm, by rw [ht]; exact hP, hD⟩, hS.F ht⟩) hS.2.2 dX2_make_70
    · refine lv_iconst (v := (-1)) hx hb dX2_make_24 (by decide) ?_
      exact W.iret (v := (-1)) hx hb hr (fun t ht hW => ⟨⟨_, ((n, kd, ok, cn, rc, rs, an, fl, t0, t1, t2, t3, t4, t5), 0, wy), rfl, (if_neg (fun q => absurd ((nI_eq (a := n) (b := 200) (by omega) (by omega)).mp c_205) (by omega))).symm, by rw [ht]; exact hP, hD⟩, hS.F ht⟩) hS.2.2 dX2_make_25
  · refine lv_if_eq (tgt := 24) hx hb dX2_make_11 (by decide) (fun _ => ?_) (fun h => absurd h (by decide))
    refine lv_iconst (v := (-1)) hx hb dX2_make_24 (by decide) ?_
    exact W.iret (v := (-1)) hx hb hr (fun t ht hW => ⟨⟨_, ((n, kd, ok, cn, rc, rs, an, fl, t0, t1, t2, t3, t4, t5), 0, wy), rfl, (if_neg (fun q => hq_203 q.1)).symm, by rw [ht]; exact hP, hD⟩, hS.F ht⟩) hS.2.2 dX2_make_25
theorem iwX2_told : ∀ w ∈ wsX20, w ∈ wsX2_told := fun _ h => List.mem_cons_of_mem _ (List.mem_append_right _ h)
set_option maxHeartbeats 1000000 in
set_option maxRecDepth 100000 in
/-- told(x) -/
theorem r_told (l : Launch) (dC : Nat → ClassId) (dI : Nat → Nat → Nat) (h qs qm qa qf qk qt qd : Nat) (cs cm ca cf ck ct cd : ClassId) (n : Nat) (kd ok cn rc : Nat → Int32) (rs an : Nat → Int64) (fl : Nat → Int32) (t0 t1 t2 t3 t4 t5 th wy : Int32) (sz : Nat) (x : Int32) : Met l yX2_told wsX2_told ({ frames := 0, cells := 0, slots := 0, locals := 0 }) (va_Pc [.ref h, .int x] (rQ dC dI [(cs, .long), (cm, .int), (ca, .long), (cf, .int), (ck, .int), (ct, .boolean), (cd, .long)] (rW h qs qm qa qf qk qt qd cs cm ca cf ck ct cd n kd ok cn rc rs an fl t0 t1 t2 t3 t4 t5 th wy) sz)) (va_Qi (fun (r : Int32) (u : dM × Int32 × Int32) => r = mTold (n, kd, ok, cn, rc, rs, an, fl, t0, t1, t2, t3, t4, t5) x ∧ u.1 = (n, kd, ok, cn, rc, rs, an, fl, t0, t1, t2, t3, t4, t5)) (fun u t => dAt dC dI (rWm h qs qm qa qf qk qt qd cs cm ca cf ck ct cd u) (va_A (rW h qs qm qa qf qk qt qd cs cm ca cf ck ct cd n kd ok cn rc rs an fl t0 t1 t2 t3 t4 t5 th wy) sz) t) (va_A (rW h qs qm qa qf qk qt qd cs cm ca cf ck ct cd n kd ok cn rc rs an fl t0 t1 t2 t3 t4 t5 th wy) sz)) 0 0 (va_A (rW h qs qm qa qf qk qt qd cs cm ca cf ck ct cd n kd ok cn rc rs an fl t0 t1 t2 t3 t4 t5 th wy) sz) := by
  refine Met.ofW (cc := cX2_told) (maxL := 2) (ret := (some .int)) (by decide) rfl ?_
  intro p e s m args below meth c s₁ B hml hv
  obtain ⟨rfl, hsz, hP, hK, hD0⟩ := hv
  have hx := B.exec
  have hb := B.bytes
  have hr := B.returns
  have hts := atoms_spec (ws := wsX2_told) B.pre
  have hown : s.vm.findClass RX2 = some m.cls := findClass_of_methodNamed B.named
  have hlocks := B.notSynchronized
  subst hsz
  have hD := hD0.self (sz := s.heap.size)
  generalize hAe : va_A (rW h qs qm qa qf qk qt qd cs cm ca cf ck ct cd n kd ok cn rc rs an fl t0 t1 t2 t3 t4 t5 th wy) s.heap.size = A at hD ⊢
  have hA : ∀ q : Nat, s.heap.size ≤ q → A q := fun q h => by rw [← hAe]; exact Or.inr h
  have hS : va_S A s.heap s.heap [] := va_S.rf
  have hl := lv_entry ([.ref h, .int x]) (n := 2) (Nat.le_of_ble_eq_true rfl)
  rw [lg_entry_eq]
  generalize (lg_sl ([.ref h, .int x]) ++ List.replicate (2 - (lg_sl ([.ref h, .int x])).length) Slot.unset).toArray = ls at hl ⊢
  have hl : lv_has ls 2 [(0, .ref h), (1, .int x)] := hl
  refine lv_aload_n hx hb dX2_told_0 rfl (lv_at hl 0 rfl) ?_
  refine lv_iconst (v := 0) hx hb dX2_told_1 (by decide) ?_
  refine va_put (D := (dC, dI)) (ci := 2) (v := .int 0) (ty := .int) (C := RX2) (T := TX2) (N := 16) hx hb hts iwX2_told tyX2 tyX2_ok nmX2 hown hK hP hD hS 0 rfl rfl 8 (by decide) (hts (.fieldLink RX2 33 "MainframeDeskModel" "thrown" "I") (by decide +kernel)) (fun _ h9 => h9) rfl (by decide +kernel) rfl rfl (Nat.le_of_ble_eq_true rfl) dX2_told_2 (fun H locs hP hD hS => ?_)
  have hP : va_P (dC, dI) vwCl (rW h qs qm qa qf qk qt qd cs cm ca cf ck ct cd n kd ok cn rc rs an fl t0 t1 t2 t3 t4 t5 0 wy) H := hP
  have hD : va_D A (rW h qs qm qa qf qk qt qd cs cm ca cf ck ct cd n kd ok cn rc rs an fl t0 t1 t2 t3 t4 t5 0 wy) := hD
  refine lv_iload_n hx hb dX2_told_5 rfl (lv_at hl 1 rfl) ?_
  by_cases hs_208 : x = 0
  · refine lv_tableIn (off := 38) (tgt := 44) hx hb dX2_told_6 (by rw [hs_208]; decide) (by rw [hs_208]; decide) (by rw [hs_208]; rfl) (by decide) ?_
    refine lv_aload_n hx hb dX2_told_44 rfl (lv_at hl 0 rfl) ?_
    refine va_get (D := (dC, dI)) (ci := 2) (v := .int t0) (C := RX2) (T := TX2) (N := 16) hx hb hts iwX2_told hown hK hP 0 rfl rfl 9 (by decide) (hts (.fieldLink RX2 67 "MainframeDeskModel" "latest" "I") (by decide +kernel)) (fun _ h9 => h9) rfl dX2_told_45 ?_
    exact W.iret (v := t0) hx hb hr (fun t ht hW => ⟨⟨_, ((n, kd, ok, cn, rc, rs, an, fl, t0, t1, t2, t3, t4, t5), 0, wy), rfl, ⟨(by unfold mTold; dsimp only; rw [if_pos hs_208]), rfl⟩, by rw [ht]; exact hP, hD⟩, hS.F ht⟩) hS.2.2 dX2_told_48
  · by_cases hs_209 : x = 1
    · refine lv_tableIn (off := 43) (tgt := 49) hx hb dX2_told_6 (by rw [hs_209]; decide) (by rw [hs_209]; decide) (by rw [hs_209]; rfl) (by decide) ?_
      refine lv_aload_n hx hb dX2_told_49 rfl (lv_at hl 0 rfl) ?_
      refine va_get (D := (dC, dI)) (ci := 2) (v := .int t1) (C := RX2) (T := TX2) (N := 16) hx hb hts iwX2_told hown hK hP 0 rfl rfl 10 (by decide) (hts (.fieldLink RX2 70 "MainframeDeskModel" "latestCall" "I") (by decide +kernel)) (fun _ h9 => h9) rfl dX2_told_50 ?_
      exact W.iret (v := t1) hx hb hr (fun t ht hW => ⟨⟨_, ((n, kd, ok, cn, rc, rs, an, fl, t0, t1, t2, t3, t4, t5), 0, wy), rfl, ⟨(by unfold mTold; dsimp only; rw [if_neg hs_208, if_pos hs_209]), rfl⟩, by rw [ht]; exact hP, hD⟩, hS.F ht⟩) hS.2.2 dX2_told_53
    · by_cases hs_210 : x = 2
      · refine lv_tableIn (off := 48) (tgt := 54) hx hb dX2_told_6 (by rw [hs_210]; decide) (by rw [hs_210]; decide) (by rw [hs_210]; rfl) (by decide) ?_
        refine lv_aload_n hx hb dX2_told_54 rfl (lv_at hl 0 rfl) ?_
        refine va_get (D := (dC, dI)) (ci := 2) (v := .int t2) (C := RX2) (T := TX2) (N := 16) hx hb hts iwX2_told hown hK hP 0 rfl rfl 11 (by decide) (hts (.fieldLink RX2 73 "MainframeDeskModel" "latestThing" "I") (by decide +kernel)) (fun _ h9 => h9) rfl dX2_told_55 ?_
        exact W.iret (v := t2) hx hb hr (fun t ht hW => ⟨⟨_, ((n, kd, ok, cn, rc, rs, an, fl, t0, t1, t2, t3, t4, t5), 0, wy), rfl, ⟨(by unfold mTold; dsimp only; rw [if_neg hs_208, if_neg hs_209, if_pos hs_210]), rfl⟩, by rw [ht]; exact hP, hD⟩, hS.F ht⟩) hS.2.2 dX2_told_58
      · by_cases hs_211 : x = 3
        · refine lv_tableIn (off := 53) (tgt := 59) hx hb dX2_told_6 (by rw [hs_211]; decide) (by rw [hs_211]; decide) (by rw [hs_211]; rfl) (by decide) ?_
          refine lv_aload_n hx hb dX2_told_59 rfl (lv_at hl 0 rfl) ?_
          refine va_get (D := (dC, dI)) (ci := 2) (v := .int t3) (C := RX2) (T := TX2) (N := 16) hx hb hts iwX2_told hown hK hP 0 rfl rfl 12 (by decide) (hts (.fieldLink RX2 76 "MainframeDeskModel" "failed" "I") (by decide +kernel)) (fun _ h9 => h9) rfl dX2_told_60 ?_
          exact W.iret (v := t3) hx hb hr (fun t ht hW => ⟨⟨_, ((n, kd, ok, cn, rc, rs, an, fl, t0, t1, t2, t3, t4, t5), 0, wy), rfl, ⟨(by unfold mTold; dsimp only; rw [if_neg hs_208, if_neg hs_209, if_neg hs_210, if_pos hs_211]), rfl⟩, by rw [ht]; exact hP, hD⟩, hS.F ht⟩) hS.2.2 dX2_told_63
        · by_cases hs_212 : x = 4
          · refine lv_tableIn (off := 58) (tgt := 64) hx hb dX2_told_6 (by rw [hs_212]; decide) (by rw [hs_212]; decide) (by rw [hs_212]; rfl) (by decide) ?_
            refine lv_aload_n hx hb dX2_told_64 rfl (lv_at hl 0 rfl) ?_
            refine va_get (D := (dC, dI)) (ci := 2) (v := .int t4) (C := RX2) (T := TX2) (N := 16) hx hb hts iwX2_told hown hK hP 0 rfl rfl 13 (by decide) (hts (.fieldLink RX2 61 "MainframeDeskModel" "refused" "I") (by decide +kernel)) (fun _ h9 => h9) rfl dX2_told_65 ?_
            exact W.iret (v := t4) hx hb hr (fun t ht hW => ⟨⟨_, ((n, kd, ok, cn, rc, rs, an, fl, t0, t1, t2, t3, t4, t5), 0, wy), rfl, ⟨(by unfold mTold; dsimp only; rw [if_neg hs_208, if_neg hs_209, if_neg hs_210, if_neg hs_211, if_pos hs_212]), rfl⟩, by rw [ht]; exact hP, hD⟩, hS.F ht⟩) hS.2.2 dX2_told_68
          · by_cases hs_213 : x = 5
            · refine lv_tableIn (off := 63) (tgt := 69) hx hb dX2_told_6 (by rw [hs_213]; decide) (by rw [hs_213]; decide) (by rw [hs_213]; rfl) (by decide) ?_
              refine lv_aload_n hx hb dX2_told_69 rfl (lv_at hl 0 rfl) ?_
              refine va_get (D := (dC, dI)) (ci := 2) (v := .int t5) (C := RX2) (T := TX2) (N := 16) hx hb hts iwX2_told hown hK hP 0 rfl rfl 14 (by decide) (hts (.fieldLink RX2 64 "MainframeDeskModel" "done" "I") (by decide +kernel)) (fun _ h9 => h9) rfl dX2_told_70 ?_
              exact W.iret (v := t5) hx hb hr (fun t ht hW => ⟨⟨_, ((n, kd, ok, cn, rc, rs, an, fl, t0, t1, t2, t3, t4, t5), 0, wy), rfl, ⟨(by unfold mTold; dsimp only; rw [if_neg hs_208, if_neg hs_209, if_neg hs_210, if_neg hs_211, if_neg hs_212, if_pos hs_213]), rfl⟩, by rw [ht]; exact hP, hD⟩, hS.F ht⟩) hS.2.2 dX2_told_73
            · have q0 : ¬ x.toInt = 0 := lv_neT hs_208 (by decide)
              have q1 : ¬ x.toInt = 1 := lv_neT hs_209 (by decide)
              have q2 : ¬ x.toInt = 2 := lv_neT hs_210 (by decide)
              have q3 : ¬ x.toInt = 3 := lv_neT hs_211 (by decide)
              have q4 : ¬ x.toInt = 4 := lv_neT hs_212 (by decide)
              have q5 : ¬ x.toInt = 5 := lv_neT hs_213 (by decide)
              refine lv_tableOut (tgt := 74) hx hb dX2_told_6 (by omega) (by decide) ?_
              refine lv_iconst (v := (-1)) hx hb dX2_told_74 (by decide) ?_
              exact W.iret (v := (-1)) hx hb hr (fun t ht hW => ⟨⟨_, ((n, kd, ok, cn, rc, rs, an, fl, t0, t1, t2, t3, t4, t5), 0, wy), rfl, ⟨(by unfold mTold; dsimp only; rw [if_neg hs_208, if_neg hs_209, if_neg hs_210, if_neg hs_211, if_neg hs_212, if_neg hs_213]), rfl⟩, by rw [ht]; exact hP, hD⟩, hS.F ht⟩) hS.2.2 dX2_told_75
theorem iwX2_drop : ∀ w ∈ wsX20, w ∈ wsX2_drop := fun _ h => List.mem_cons_of_mem _ (List.mem_append_right _ h)
set_option maxHeartbeats 1000000 in
set_option maxRecDepth 100000 in
/-- drop(x) -/
theorem r_drop (l : Launch) (dC : Nat → ClassId) (dI : Nat → Nat → Nat) (h qs qm qa qf qk qt qd : Nat) (cs cm ca cf ck ct cd : ClassId) (n : Nat) (kd ok cn rc : Nat → Int32) (rs an : Nat → Int64) (fl : Nat → Int32) (t0 t1 t2 t3 t4 t5 th wy : Int32) (hn : n ≤ 200) (sz : Nat) (x : Int32) : Met l yX2_drop wsX2_drop ({ frames := 0, cells := 0, slots := 0, locals := 0 }) (va_Pc [.ref h, .int x] (rQ dC dI [(cs, .long), (cm, .int), (ca, .long), (cf, .int), (ck, .int), (ct, .boolean), (cd, .long)] (rW h qs qm qa qf qk qt qd cs cm ca cf ck ct cd n kd ok cn rc rs an fl t0 t1 t2 t3 t4 t5 th wy) sz)) (va_Qi (fun (r : Int32) (u : dM × Int32 × Int32) => (r, u.1) = mDrop (n, kd, ok, cn, rc, rs, an, fl, t0, t1, t2, t3, t4, t5) x) (fun u t => dAt dC dI (rWm h qs qm qa qf qk qt qd cs cm ca cf ck ct cd u) (va_A (rW h qs qm qa qf qk qt qd cs cm ca cf ck ct cd n kd ok cn rc rs an fl t0 t1 t2 t3 t4 t5 th wy) sz) t) (va_A (rW h qs qm qa qf qk qt qd cs cm ca cf ck ct cd n kd ok cn rc rs an fl t0 t1 t2 t3 t4 t5 th wy) sz)) 0 0 (va_A (rW h qs qm qa qf qk qt qd cs cm ca cf ck ct cd n kd ok cn rc rs an fl t0 t1 t2 t3 t4 t5 th wy) sz) := by
  refine Met.ofW (cc := cX2_drop) (maxL := 2) (ret := (some .boolean)) (by decide) rfl ?_
  intro p e s m args below meth c s₁ B hml hv
  obtain ⟨rfl, hsz, hP, hK, hD0⟩ := hv
  have hx := B.exec
  have hb := B.bytes
  have hr := B.returns
  have hts := atoms_spec (ws := wsX2_drop) B.pre
  have hown : s.vm.findClass RX2 = some m.cls := findClass_of_methodNamed B.named
  have hlocks := B.notSynchronized
  subst hsz
  have hD := hD0.self (sz := s.heap.size)
  generalize hAe : va_A (rW h qs qm qa qf qk qt qd cs cm ca cf ck ct cd n kd ok cn rc rs an fl t0 t1 t2 t3 t4 t5 th wy) s.heap.size = A at hD ⊢
  have hA : ∀ q : Nat, s.heap.size ≤ q → A q := fun q h => by rw [← hAe]; exact Or.inr h
  have hS : va_S A s.heap s.heap [] := va_S.rf
  have hl := lv_entry ([.ref h, .int x]) (n := 2) (Nat.le_of_ble_eq_true rfl)
  rw [lg_entry_eq]
  generalize (lg_sl ([.ref h, .int x]) ++ List.replicate (2 - (lg_sl ([.ref h, .int x])).length) Slot.unset).toArray = ls at hl ⊢
  have hl : lv_has ls 2 [(0, .ref h), (1, .int x)] := hl
  refine lv_aload_n hx hb dX2_drop_0 rfl (lv_at hl 0 rfl) ?_
  refine lv_iconst (v := 0) hx hb dX2_drop_1 (by decide) ?_
  refine va_put (D := (dC, dI)) (ci := 2) (v := .int 0) (ty := .int) (C := RX2) (T := TX2) (N := 16) hx hb hts iwX2_drop tyX2 tyX2_ok nmX2 hown hK hP hD hS 0 rfl rfl 8 (by decide) (hts (.fieldLink RX2 33 "MainframeDeskModel" "thrown" "I") (by decide +kernel)) (fun _ h9 => h9) rfl (by decide +kernel) rfl rfl (Nat.le_of_ble_eq_true rfl) dX2_drop_2 (fun H locs hP hD hS => ?_)
  have hP : va_P (dC, dI) vwCl (rW h qs qm qa qf qk qt qd cs cm ca cf ck ct cd n kd ok cn rc rs an fl t0 t1 t2 t3 t4 t5 0 wy) H := hP
  have hD : va_D A (rW h qs qm qa qf qk qt qd cs cm ca cf ck ct cd n kd ok cn rc rs an fl t0 t1 t2 t3 t4 t5 0 wy) := hD
  refine lv_iload_n hx hb dX2_drop_5 rfl (lv_at hl 1 rfl) ?_
  refine lv_iconst (v := 1) hx hb dX2_drop_6 (by decide) ?_
  refine lv_icmp_lt (tgt := 29) hx hb dX2_drop_7 (by decide) (fun c_214 => ?_) (fun c_214 => ?_)
  · refine lv_iconst (v := 0) hx hb dX2_drop_29 (by decide) ?_
    exact W.zret (v := 0) hx hb hr rfl (fun t ht hW => ⟨⟨_, ((n, kd, ok, cn, rc, rs, an, fl, t0, t1, t2, t3, t4, t5), 0, wy), rfl, (by exact (if_neg (fun q => Int32.not_le.mpr c_214 q.1.1)).symm), by rw [ht]; exact hP, hD⟩, hS.F ht⟩) hS.2.2 dX2_drop_30
  · refine lv_iload_n hx hb dX2_drop_10 rfl (lv_at hl 1 rfl) ?_
    refine lv_aload_n hx hb dX2_drop_11 rfl (lv_at hl 0 rfl) ?_
    refine va_get (D := (dC, dI)) (ci := 2) (v := .int (nI n)) (C := RX2) (T := TX2) (N := 16) hx hb hts iwX2_drop hown hK hP 0 rfl rfl 7 (by decide) (hts (.fieldLink RX2 41 "MainframeDeskModel" "made" "I") (by decide +kernel)) (fun _ h9 => h9) rfl dX2_drop_12 ?_
    refine lv_icmp_gt (tgt := 29) hx hb dX2_drop_15 (by decide) (fun c_215 => ?_) (fun c_215 => ?_)
    · refine lv_iconst (v := 0) hx hb dX2_drop_29 (by decide) ?_
      exact W.zret (v := 0) hx hb hr rfl (fun t ht hW => ⟨⟨_, ((n, kd, ok, cn, rc, rs, an, fl, t0, t1, t2, t3, t4, t5), 0, wy), rfl, (by exact (if_neg (fun q => Int32.not_le.mpr c_215 q.1.2)).symm), by rw [ht]; exact hP, hD⟩, hS.F ht⟩) hS.2.2 dX2_drop_30
    · have hxx : 1 ≤ x ∧ x ≤ nI n := ⟨Int32.not_lt.mp c_214, Int32.not_lt.mp c_215⟩
      refine lv_aload_n hx hb dX2_drop_18 rfl (lv_at hl 0 rfl) ?_
      refine va_get (D := (dC, dI)) (ci := 2) (v := .ref qt) (C := RX2) (T := TX2) (N := 16) hx hb hts iwX2_drop hown hK hP 0 rfl rfl 5 (by decide) (hts (.fieldLink RX2 26 "MainframeDeskModel" "there" "[Z") (by decide +kernel)) (fun _ h9 => h9) rfl dX2_drop_19 ?_
      refine lv_iload_n hx hb dX2_drop_22 rfl (lv_at hl 1 rfl) ?_
      refine lv_iconst (v := 1) hx hb dX2_drop_23 (by decide) ?_
      refine lv_isub hx hb dX2_drop_24 ?_
      refine va_zald hx hb hK hP 6 5 rfl rfl (kx_ix2 hn hxx) dX2_drop_25 ?_
      refine lv_topi (fun v_216 ev_216 => ?_)
      replace ev_216 : v_216 = ok (mIx x) := ev_216
      refine lv_if_ne (tgt := 31) hx hb dX2_drop_26 (by decide) (fun c_217 => ?_) (fun c_217 => ?_)
      · refine lv_aload_n hx hb dX2_drop_31 rfl (lv_at hl 0 rfl) ?_
        refine va_get (D := (dC, dI)) (ci := 2) (v := .ref qt) (C := RX2) (T := TX2) (N := 16) hx hb hts iwX2_drop hown hK hP 0 rfl rfl 5 (by decide) (hts (.fieldLink RX2 26 "MainframeDeskModel" "there" "[Z") (by decide +kernel)) (fun _ h9 => h9) rfl dX2_drop_32 ?_
        refine lv_iload_n hx hb dX2_drop_35 rfl (lv_at hl 1 rfl) ?_
        refine lv_iconst (v := 1) hx hb dX2_drop_36 (by decide) ?_
        refine lv_isub hx hb dX2_drop_37 ?_
        refine lv_iconst (v := 0) hx hb dX2_drop_38 (by decide) ?_
        refine va_zast hx hb hK hP hD hS 6 5 rfl rfl (kx_ix2 hn hxx) dX2_drop_39 (fun H locs hP hD hS => ?_)
        rw [kx_nb0] at hP hD
        have hP : va_P (dC, dI) vwCl (rW h qs qm qa qf qk qt qd cs cm ca cf ck ct cd n kd (upd ok (mIx x) 0) cn rc rs an fl t0 t1 t2 t3 t4 t5 0 wy) H := hP
        have hD : va_D A (rW h qs qm qa qf qk qt qd cs cm ca cf ck ct cd n kd (upd ok (mIx x) 0) cn rc rs an fl t0 t1 t2 t3 t4 t5 0 wy) := hD
        refine lv_iconst (v := 1) hx hb dX2_drop_40 (by decide) ?_
        exact W.zret (v := 1) hx hb hr rfl (fun t ht hW => ⟨⟨_, ((n, kd, upd ok (mIx x) 0, cn, rc, rs, an, fl, t0, t1, t2, t3, t4, t5), 0, wy), rfl, (by subst ev_216; exact (if_pos ⟨hxx, c_217⟩).symm), by rw [ht]; exact hP, hD⟩, hS.F ht⟩) hS.2.2 dX2_drop_41
      · refine lv_iconst (v := 0) hx hb dX2_drop_29 (by decide) ?_
        exact W.zret (v := 0) hx hb hr rfl (fun t ht hW => ⟨⟨_, ((n, kd, ok, cn, rc, rs, an, fl, t0, t1, t2, t3, t4, t5), 0, wy), rfl, (by subst ev_216; exact (if_neg (fun q => q.2 c_217)).symm), by rw [ht]; exact hP, hD⟩, hS.F ht⟩) hS.2.2 dX2_drop_30
end
section
theorem iwX2_numbers : ∀ w ∈ wsX20, w ∈ wsX2_numbers := fun _ h => List.mem_cons_of_mem _ (List.mem_append_right _ h)
set_option maxHeartbeats 1000000 in
set_option maxRecDepth 100000 in
/-- numbers(k) -/
theorem r_numbers (l : Launch) (dC : Nat → ClassId) (dI : Nat → Nat → Nat) (h qs qm qa qf qk qt qd : Nat) (cs cm ca cf ck ct cd : ClassId) (n : Nat) (kd ok cn rc : Nat → Int32) (rs an : Nat → Int64) (fl : Nat → Int32) (t0 t1 t2 t3 t4 t5 th wy : Int32) (hn : n ≤ 200) (sz : Nat) (k : Int32) : Met l yX2_numbers wsX2_numbers ({ frames := 1, cells := 0, slots := 0, locals := 21 }) (va_Pc [.ref h, .int k] (rQ dC dI [(cs, .long), (cm, .int), (ca, .long), (cf, .int), (ck, .int), (ct, .boolean), (cd, .long)] (rW h qs qm qa qf qk qt qd cs cm ca cf ck ct cd n kd ok cn rc rs an fl t0 t1 t2 t3 t4 t5 th wy) sz)) (va_Qi (fun (r : Int32) (u : dM × Int32 × Int32) => r = mNumbers (n, kd, ok, cn, rc, rs, an, fl, t0, t1, t2, t3, t4, t5) k ∧ u.1 = (n, kd, ok, cn, rc, rs, an, fl, t0, t1, t2, t3, t4, t5)) (fun u t => dAt dC dI (rWm h qs qm qa qf qk qt qd cs cm ca cf ck ct cd u) (va_A (rW h qs qm qa qf qk qt qd cs cm ca cf ck ct cd n kd ok cn rc rs an fl t0 t1 t2 t3 t4 t5 th wy) sz) t) (va_A (rW h qs qm qa qf qk qt qd cs cm ca cf ck ct cd n kd ok cn rc rs an fl t0 t1 t2 t3 t4 t5 th wy) sz)) 0 0 (va_A (rW h qs qm qa qf qk qt qd cs cm ca cf ck ct cd n kd ok cn rc rs an fl t0 t1 t2 t3 t4 t5 th wy) sz) := by
  refine Met.ofW (cc := cX2_numbers) (maxL := 4) (ret := (some .int)) (by decide) rfl ?_
  intro p e s m args below meth c s₁ B hml hv
  obtain ⟨rfl, hsz, hP, hK, hD0⟩ := hv
  have hx := B.exec
  have hb := B.bytes
  have hr := B.returns
  have hts := atoms_spec (ws := wsX2_numbers) B.pre
  have hown : s.vm.findClass RX2 = some m.cls := findClass_of_methodNamed B.named
  have hlocks := B.notSynchronized
  subst hsz
  have hD := hD0.self (sz := s.heap.size)
  generalize hAe : va_A (rW h qs qm qa qf qk qt qd cs cm ca cf ck ct cd n kd ok cn rc rs an fl t0 t1 t2 t3 t4 t5 th wy) s.heap.size = A at hD ⊢
  have hA : ∀ q : Nat, s.heap.size ≤ q → A q := fun q h => by rw [← hAe]; exact Or.inr h
  have hS : va_S A s.heap s.heap [] := va_S.rf
  have hl := lv_entry ([.ref h, .int k]) (n := 4) (Nat.le_of_ble_eq_true rfl)
  rw [lg_entry_eq]
  generalize (lg_sl ([.ref h, .int k]) ++ List.replicate (4 - (lg_sl ([.ref h, .int k])).length) Slot.unset).toArray = ls at hl ⊢
  have hl : lv_has ls 4 [(0, .ref h), (1, .int k)] := hl
  refine lv_aload_n hx hb dX2_numbers_0 rfl (lv_at hl 0 rfl) ?_
  refine lv_iconst (v := 0) hx hb dX2_numbers_1 (by decide) ?_
  refine va_put (D := (dC, dI)) (ci := 2) (v := .int 0) (ty := .int) (C := RX2) (T := TX2) (N := 16) hx hb hts iwX2_numbers tyX2 tyX2_ok nmX2 hown hK hP hD hS 0 rfl rfl 8 (by decide) (hts (.fieldLink RX2 33 "MainframeDeskModel" "thrown" "I") (by decide +kernel)) (fun _ h9 => h9) rfl (by decide +kernel) rfl rfl (Nat.le_of_ble_eq_true rfl) dX2_numbers_2 (fun H locs hP hD hS => ?_)
  have hP : va_P (dC, dI) vwCl (rW h qs qm qa qf qk qt qd cs cm ca cf ck ct cd n kd ok cn rc rs an fl t0 t1 t2 t3 t4 t5 0 wy) H := hP
  have hD : va_D A (rW h qs qm qa qf qk qt qd cs cm ca cf ck ct cd n kd ok cn rc rs an fl t0 t1 t2 t3 t4 t5 0 wy) := hD
  refine lv_iload_n hx hb dX2_numbers_5 rfl (lv_at hl 1 rfl) ?_
  refine lv_bipush (v := 8) hx hb dX2_numbers_6 (by decide) ?_
  refine vp_callSi (W.runS (As := [.int k, .int 8]) (rest := []) ⟨hx, hb, hml, hown, hts⟩ (r_below l k 8) (va_cwS 2 hts gX2_numbers_X2_below rfl rfl rfl (by decide +kernel) ⟨Nat.le_of_ble_eq_true rfl, Nat.le_of_ble_eq_true rfl⟩) ⟨fun _ _ _ _ q => q, fun _ _ _ => ⟨rfl, trivial⟩⟩ rfl rfl hl.1 rfl (lv_room (Nat.le_of_ble_eq_true rfl)) dX2_numbers_8 ⟨Nat.le_of_ble_eq_true rfl, Nat.le_of_ble_eq_true rfl⟩) (fun r9 hr9 => ?_)
  rcases hr9 with ⟨hq_218, rfl⟩ | ⟨hq_218, rfl⟩
  · refine lv_if_ne (tgt := 16) hx hb dX2_numbers_11 (by decide) (fun _ => ?_) (fun h => absurd h (by decide))
    refine lv_iconst (v := 0) hx hb dX2_numbers_16 (by decide) ?_
    refine lv_istore_n (lv' := [(2, .int 0), (0, .ref h), (1, .int k)]) hx hb dX2_numbers_17 rfl hl (by decide) rfl (fun ls hl => ?_)
    refine lv_iconst (v := 0) hx hb dX2_numbers_18 (by decide) ?_
    refine lv_istore_n (lv' := [(3, .int 0), (2, .int 0), (0, .ref h), (1, .int k)]) hx hb dX2_numbers_19 rfl hl (by decide) rfl (fun ls hl => ?_)
    obtain ⟨x3, ex3⟩ : ∃ y : Int32, y = 0 := ⟨_, rfl⟩
    obtain ⟨x2, ex2⟩ : ∃ y : Int32, y = 0 := ⟨_, rfl⟩
    replace hl : lv_has ls 4 [(3, .int x3), (2, .int x2), (1, .int k), (0, .ref h)] := by rw [ex3, ex2]; exact lv_sub hl [0, 1, 3, 2] rfl
    obtain ⟨j, ej⟩ : ∃ j : Nat, j = 0 := ⟨_, rfl⟩
    have hx3 : x3 = nI j := by rw [ej, ex3]; rfl
    have hx2 : x2 = mCnt kd ok k j := by rw [ej, ex2]; rfl
    have hjn : j ≤ n := by omega
    obtain ⟨f, hf⟩ : ∃ f : Nat, n - j = f := ⟨_, rfl⟩
    clear ex3 ex2 ej
    induction f generalizing j x3 x2 ls with
    | zero =>
      refine lv_iload_n hx hb dX2_numbers_20 rfl (lv_at hl 0 rfl) ?_
      refine lv_aload_n hx hb dX2_numbers_21 rfl (lv_at hl 3 rfl) ?_
      refine va_get (D := (dC, dI)) (ci := 2) (v := .int (nI n)) (C := RX2) (T := TX2) (N := 16) hx hb hts iwX2_numbers hown hK hP 0 rfl rfl 7 (by decide) (hts (.fieldLink RX2 41 "MainframeDeskModel" "made" "I") (by decide +kernel)) (fun _ h9 => h9) rfl dX2_numbers_22 ?_
      refine lv_icmp_ge (tgt := 56) hx hb dX2_numbers_25 (by decide) (fun c_220 => ?_) (fun c_220 => ?_)
      · refine lv_iload_n hx hb dX2_numbers_56 rfl (lv_at hl 1 rfl) ?_
        exact W.iret (v := x2) hx hb hr (fun t ht hW => ⟨⟨_, ((n, kd, ok, cn, rc, rs, an, fl, t0, t1, t2, t3, t4, t5), 0, wy), rfl, ⟨(by unfold mNumbers; dsimp only; rw [if_pos hq_218, hx2, show j = n by omega]), rfl⟩, by rw [ht]; exact hP, hD⟩, hS.F ht⟩) hS.2.2 dX2_numbers_57
      · exact absurd (by rw [hx3]; exact nI_le (by omega) (by omega)) c_220
    | succ f ih =>
      have hz9 : vp_in x3 200 := by rw [hx3]; exact vp_in_nI (by omega) (by omega)
      have hz8 : x3.toNatClampNeg = j := by rw [hx3]; exact nI_clamp (by omega)
      refine lv_iload_n hx hb dX2_numbers_20 rfl (lv_at hl 0 rfl) ?_
      refine lv_aload_n hx hb dX2_numbers_21 rfl (lv_at hl 3 rfl) ?_
      refine va_get (D := (dC, dI)) (ci := 2) (v := .int (nI n)) (C := RX2) (T := TX2) (N := 16) hx hb hts iwX2_numbers hown hK hP 0 rfl rfl 7 (by decide) (hts (.fieldLink RX2 41 "MainframeDeskModel" "made" "I") (by decide +kernel)) (fun _ h9 => h9) rfl dX2_numbers_22 ?_
      refine lv_icmp_ge (tgt := 56) hx hb dX2_numbers_25 (by decide) (fun c_221 => ?_) (fun c_221 => ?_)
      · exact absurd c_221 (by rw [hx3]; exact nI_ge (by omega) (by omega))
      · refine lv_aload_n hx hb dX2_numbers_28 rfl (lv_at hl 3 rfl) ?_
        refine va_get (D := (dC, dI)) (ci := 2) (v := .ref qt) (C := RX2) (T := TX2) (N := 16) hx hb hts iwX2_numbers hown hK hP 0 rfl rfl 5 (by decide) (hts (.fieldLink RX2 26 "MainframeDeskModel" "there" "[Z") (by decide +kernel)) (fun _ h9 => h9) rfl dX2_numbers_29 ?_
        refine lv_iload_n hx hb dX2_numbers_32 rfl (lv_at hl 0 rfl) ?_
        refine va_zald hx hb hK hP 6 5 rfl rfl hz9 dX2_numbers_33 ?_
        refine lv_topi (fun v_222 ev_222 => ?_)
        refine lv_if_eq (tgt := 50) hx hb dX2_numbers_34 (by decide) (fun c_223 => ?_) (fun c_223 => ?_)
        · rw [hz8] at ev_222
          subst ev_222
          obtain ⟨i_224, ei_224⟩ : ∃ y : Int32, y = x3 + 1 := ⟨_, rfl⟩
          refine lv_iinc (v := i_224) (lv' := [(3, .int i_224), (2, .int x2), (1, .int k), (0, .ref h)]) hx hb dX2_numbers_50 hl (k := 0) rfl (by rw [ei_224]; rfl) (by decide) rfl (fun ls hl => ?_)
          refine lv_goto (tgt := 20) hx hb dX2_numbers_53 (by decide) ?_
          exact ih (j := j + 1) (x3 := i_224) (x2 := x2) (ls := ls) (hl := lv_sub hl [0, 1, 2, 3] rfl) (hx3 := by rw [ei_224, hx3]; exact nI_1 j) (hx2 := by unfold mCnt; rw [if_neg (fun q => q.1 c_223)]; exact hx2) (hjn := by omega) (hf := by omega)
        · refine lv_aload_n hx hb dX2_numbers_37 rfl (lv_at hl 3 rfl) ?_
          refine va_get (D := (dC, dI)) (ci := 2) (v := .ref qk) (C := RX2) (T := TX2) (N := 16) hx hb hts iwX2_numbers hown hK hP 0 rfl rfl 4 (by decide) (hts (.fieldLink RX2 23 "MainframeDeskModel" "kind" "[I") (by decide +kernel)) (fun _ h9 => h9) rfl dX2_numbers_38 ?_
          refine lv_iload_n hx hb dX2_numbers_41 rfl (lv_at hl 0 rfl) ?_
          refine va_iald hx hb hK hP 5 4 rfl rfl hz9 dX2_numbers_42 ?_
          refine lv_topi (fun v_225 ev_225 => ?_)
          refine lv_iload_n hx hb dX2_numbers_43 rfl (lv_at hl 2 rfl) ?_
          refine lv_icmp_ne (tgt := 50) hx hb dX2_numbers_44 (by decide) (fun c_226 => ?_) (fun c_226 => ?_)
          · rw [hz8] at ev_222
            subst ev_222
            rw [hz8] at ev_225
            subst ev_225
            obtain ⟨i_227, ei_227⟩ : ∃ y : Int32, y = x3 + 1 := ⟨_, rfl⟩
            refine lv_iinc (v := i_227) (lv' := [(3, .int i_227), (2, .int x2), (1, .int k), (0, .ref h)]) hx hb dX2_numbers_50 hl (k := 0) rfl (by rw [ei_227]; rfl) (by decide) rfl (fun ls hl => ?_)
            refine lv_goto (tgt := 20) hx hb dX2_numbers_53 (by decide) ?_
            exact ih (j := j + 1) (x3 := i_227) (x2 := x2) (ls := ls) (hl := lv_sub hl [0, 1, 2, 3] rfl) (hx3 := by rw [ei_227, hx3]; exact nI_1 j) (hx2 := by unfold mCnt; rw [if_neg (fun q => c_226 q.2)]; exact hx2) (hjn := by omega) (hf := by omega)
          · obtain ⟨i_228, ei_228⟩ : ∃ y : Int32, y = x2 + 1 := ⟨_, rfl⟩
            refine lv_iinc (v := i_228) (lv' := [(2, .int i_228), (3, .int x3), (1, .int k), (0, .ref h)]) hx hb dX2_numbers_47 hl (k := 1) rfl (by rw [ei_228]; rfl) (by decide) rfl (fun ls hl => ?_)
            rw [hz8] at ev_222
            subst ev_222
            rw [hz8] at ev_225
            subst ev_225
            obtain ⟨i_229, ei_229⟩ : ∃ y : Int32, y = x3 + 1 := ⟨_, rfl⟩
            refine lv_iinc (v := i_229) (lv' := [(3, .int i_229), (2, .int i_228), (1, .int k), (0, .ref h)]) hx hb dX2_numbers_50 hl (k := 1) rfl (by rw [ei_229]; rfl) (by decide) rfl (fun ls hl => ?_)
            refine lv_goto (tgt := 20) hx hb dX2_numbers_53 (by decide) ?_
            exact ih (j := j + 1) (x3 := i_229) (x2 := i_228) (ls := ls) (hl := lv_sub hl [0, 1, 2, 3] rfl) (hx3 := by rw [ei_229, hx3]; exact nI_1 j) (hx2 := by unfold mCnt; rw [if_pos ⟨c_223, c_226⟩, ei_228, hx2]) (hjn := by omega) (hf := by omega)
  · refine lv_if_ne (tgt := 16) hx hb dX2_numbers_11 (by decide) (fun h => absurd h (by decide)) (fun _ => ?_)
    refine lv_iconst (v := (-1)) hx hb dX2_numbers_14 (by decide) ?_
    exact W.iret (v := (-1)) hx hb hr (fun t ht hW => ⟨⟨_, ((n, kd, ok, cn, rc, rs, an, fl, t0, t1, t2, t3, t4, t5), 0, wy), rfl, ⟨(by unfold mNumbers; dsimp only; rw [if_neg hq_218]), rfl⟩, by rw [ht]; exact hP, hD⟩, hS.F ht⟩) hS.2.2 dX2_numbers_15
theorem mL_z : mL (fun _ => 0) = fun _ => 0 := by
  funext j
  rfl
theorem iwX2_init : ∀ w ∈ wsX20, w ∈ wsX2_init := fun _ h => List.mem_cons_of_mem _ (List.mem_append_right _ h)
set_option maxHeartbeats 1000000 in
set_option maxRecDepth 100000 in
/-- the reference, new -/
theorem r_init (l : Launch) (dC : Nat → ClassId) (dI : Nat → Nat → Nat) (h sz : Nat) : Met l yX2_init wsX2_init ({ frames := 1, cells := 7, slots := 672, locals := 12 }) (va_Pc [.ref h] (fun U => U.heap.size = sz ∧ va_P (dC, dI) vwCl [(h, .inr (2, [.null, .null, .null, .null, .null, .null, .null, .int 0, .int 0, .int 0, .int 0, .int 0, .int 0, .int 0, .int 0, .int 0]))] U.heap ∧ va_K (dC, dI) vwCl [] U ∧ va_D (fun _ => True) [(h, .inr (2, [.null, .null, .null, .null, .null, .null, .null, .int 0, .int 0, .int 0, .int 0, .int 0, .int 0, .int 0, .int 0, .int 0]))])) (va_Qv (fun (_ : Unit) => True) (fun _ t => ∃ (qs qm qa qf qk qt qd : Nat) (cs cm ca cf ck ct cd : ClassId), va_P (dC, dI) vwCl (rW h qs qm qa qf qk qt qd cs cm ca cf ck ct cd 0 (fun _ => 0) (fun _ => 0) (fun _ => 0) (fun _ => 0) (fun _ => 0) (fun _ => 0) (fun _ => 0) 0 0 0 0 0 0 0 0) t.heap ∧ va_K (dC, dI) vwCl [(cs, .long), (cm, .int), (ca, .long), (cf, .int), (ck, .int), (ct, .boolean), (cd, .long)] t ∧ va_D (va_A [(h, .inr (2, [.null, .null, .null, .null, .null, .null, .null, .int 0, .int 0, .int 0, .int 0, .int 0, .int 0, .int 0, .int 0, .int 0]))] sz) (rW h qs qm qa qf qk qt qd cs cm ca cf ck ct cd 0 (fun _ => 0) (fun _ => 0) (fun _ => 0) (fun _ => 0) (fun _ => 0) (fun _ => 0) (fun _ => 0) 0 0 0 0 0 0 0 0)) (va_A [(h, .inr (2, [.null, .null, .null, .null, .null, .null, .null, .int 0, .int 0, .int 0, .int 0, .int 0, .int 0, .int 0, .int 0, .int 0]))] sz)) 7 672 (va_A [(h, .inr (2, [.null, .null, .null, .null, .null, .null, .null, .int 0, .int 0, .int 0, .int 0, .int 0, .int 0, .int 0, .int 0, .int 0]))] sz) := by
  refine Met.ofW (cc := cX2_init) (maxL := 1) (ret := none) (by decide) rfl ?_
  intro p e s m args below meth c s₁ B hml hv
  obtain ⟨rfl, hsz, hP, hK, hD0⟩ := hv
  have hx := B.exec
  have hb := B.bytes
  have hr := B.returns
  have hts := atoms_spec (ws := wsX2_init) B.pre
  have hown : s.vm.findClass RX2 = some m.cls := findClass_of_methodNamed B.named
  have hlocks := B.notSynchronized
  have hin : meth.name = "<init>" := (name_of_methodNamed B.named B.method).1
  subst hsz
  have hD := hD0.self (sz := s.heap.size)
  generalize hAe : va_A ([(h, .inr (2, [.null, .null, .null, .null, .null, .null, .null, .int 0, .int 0, .int 0, .int 0, .int 0, .int 0, .int 0, .int 0, .int 0]))]) s.heap.size = A at hD ⊢
  have hA : ∀ q : Nat, s.heap.size ≤ q → A q := fun q h => by rw [← hAe]; exact Or.inr h
  have hS : va_S A s.heap s.heap [] := va_S.rf
  have hl := lv_entry ([.ref h]) (n := 1) (Nat.le_of_ble_eq_true rfl)
  rw [lg_entry_eq]
  generalize (lg_sl ([.ref h]) ++ List.replicate (1 - (lg_sl ([.ref h])).length) Slot.unset).toArray = ls at hl ⊢
  have hl : lv_has ls 1 [(0, .ref h)] := hl
  refine lv_aload_n hx hb dX2_init_0 rfl (lv_at hl 0 rfl) ?_
  refine W.objInit hx hb hown (hts (.methodLink RX2 1 objectInit) (by decide +kernel)) (hts (.instanceMethod objectInit) (by decide +kernel)) (hts _ (List.mem_cons_of_mem _ (List.mem_append_left _ (List.mem_of_getElem? (i := 2) rfl)))) rfl (by rw [hml]; exact hl.1) rfl dX2_init_1 (Nat.le_of_ble_eq_true rfl) (Nat.le_of_ble_eq_true rfl) ?_
  refine W.eq (g2 := F0 m 4 ls []) rfl ?_
  refine lv_aload_n hx hb dX2_init_4 rfl (lv_at hl 0 rfl) ?_
  refine lv_iconst (v := 4) hx hb dX2_init_5 (by decide) ?_
  refine va_newa (atype := .long) (ty := .long) (a0 := (4, .inr (.inl (fun _ => 0)))) (n := 4) (N' := 4) hx hb (hts (.arrayClass .long) (by decide +kernel)) rfl hK hP hD hS hA (fun _ => rfl) (by decide) (by decide) (by decide) (Nat.le_of_ble_eq_true rfl) (Nat.le_of_ble_eq_true rfl) dX2_init_6 (fun qs cs H hK hP hD hS => ?_)
  have hP : va_P (dC, dI) vwCl [(h, .inr (2, [.null, .null, .null, .null, .null, .null, .null, .int 0, .int 0, .int 0, .int 0, .int 0, .int 0, .int 0, .int 0, .int 0])), (qs, .inl (cs, (4, .inr (.inl (fun _ => 0)))))] H := hP
  have hD : va_D A [(h, .inr (2, [.null, .null, .null, .null, .null, .null, .null, .int 0, .int 0, .int 0, .int 0, .int 0, .int 0, .int 0, .int 0, .int 0])), (qs, .inl (cs, (4, .inr (.inl (fun _ => 0)))))] := hD
  have hK : va_K (dC, dI) vwCl [(cs, .long)] s := hK
  refine va_putF (D := (dC, dI)) (ci := 2) (v := .ref qs) (ty := .array .long) (C := RX2) (T := TX2) (N := 16) hx hb hts iwX2_init tyX2 tyX2_ok nmX2 hown hK hP hD hS 0 rfl rfl 0 (by decide) (hts (.fieldLink RX2 7 "MainframeDeskModel" "sum" "[J") (by decide +kernel)) (fun _ h9 => h9) rfl hin rfl (by decide +kernel) rfl rfl (Nat.le_of_ble_eq_true rfl) dX2_init_8 (fun H locs hP hD hS => ?_)
  have hP : va_P (dC, dI) vwCl [(h, .inr (2, [.ref qs, .null, .null, .null, .null, .null, .null, .int 0, .int 0, .int 0, .int 0, .int 0, .int 0, .int 0, .int 0, .int 0])), (qs, .inl (cs, (4, .inr (.inl (fun _ => 0)))))] H := hP
  have hD : va_D A [(h, .inr (2, [.ref qs, .null, .null, .null, .null, .null, .null, .int 0, .int 0, .int 0, .int 0, .int 0, .int 0, .int 0, .int 0, .int 0])), (qs, .inl (cs, (4, .inr (.inl (fun _ => 0)))))] := hD
  refine lv_aload_n hx hb dX2_init_11 rfl (lv_at hl 0 rfl) ?_
  refine lv_iconst (v := 4) hx hb dX2_init_12 (by decide) ?_
  refine va_newa (atype := .int) (ty := .int) (a0 := (4, .inl (fun _ => 0))) (n := 4) (N' := 4) hx hb (hts (.arrayClass .int) (by decide +kernel)) rfl hK hP hD hS hA (fun _ => rfl) (by decide) (by decide) (by decide) (Nat.le_of_ble_eq_true rfl) (Nat.le_of_ble_eq_true rfl) dX2_init_13 (fun qm cm H hK hP hD hS => ?_)
  have hP : va_P (dC, dI) vwCl [(h, .inr (2, [.ref qs, .null, .null, .null, .null, .null, .null, .int 0, .int 0, .int 0, .int 0, .int 0, .int 0, .int 0, .int 0, .int 0])), (qs, .inl (cs, (4, .inr (.inl (fun _ => 0))))), (qm, .inl (cm, (4, .inl (fun _ => 0))))] H := hP
  have hD : va_D A [(h, .inr (2, [.ref qs, .null, .null, .null, .null, .null, .null, .int 0, .int 0, .int 0, .int 0, .int 0, .int 0, .int 0, .int 0, .int 0])), (qs, .inl (cs, (4, .inr (.inl (fun _ => 0))))), (qm, .inl (cm, (4, .inl (fun _ => 0))))] := hD
  have hK : va_K (dC, dI) vwCl [(cs, .long), (cm, .int)] s := hK
  refine va_putF (D := (dC, dI)) (ci := 2) (v := .ref qm) (ty := .array .int) (C := RX2) (T := TX2) (N := 16) hx hb hts iwX2_init tyX2 tyX2_ok nmX2 hown hK hP hD hS 0 rfl rfl 1 (by decide) (hts (.fieldLink RX2 13 "MainframeDeskModel" "many" "[I") (by decide +kernel)) (fun _ h9 => h9) rfl hin rfl (by decide +kernel) rfl rfl (Nat.le_of_ble_eq_true rfl) dX2_init_15 (fun H locs hP hD hS => ?_)
  have hP : va_P (dC, dI) vwCl [(h, .inr (2, [.ref qs, .ref qm, .null, .null, .null, .null, .null, .int 0, .int 0, .int 0, .int 0, .int 0, .int 0, .int 0, .int 0, .int 0])), (qs, .inl (cs, (4, .inr (.inl (fun _ => 0))))), (qm, .inl (cm, (4, .inl (fun _ => 0))))] H := hP
  have hD : va_D A [(h, .inr (2, [.ref qs, .ref qm, .null, .null, .null, .null, .null, .int 0, .int 0, .int 0, .int 0, .int 0, .int 0, .int 0, .int 0, .int 0])), (qs, .inl (cs, (4, .inr (.inl (fun _ => 0))))), (qm, .inl (cm, (4, .inl (fun _ => 0))))] := hD
  refine lv_aload_n hx hb dX2_init_18 rfl (lv_at hl 0 rfl) ?_
  refine lv_bipush (v := 32) hx hb dX2_init_19 (by decide) ?_
  refine va_newa (atype := .long) (ty := .long) (a0 := (32, .inr (.inl (fun _ => 0)))) (n := 32) (N' := 32) hx hb (hts (.arrayClass .long) (by decide +kernel)) rfl hK hP hD hS hA (fun _ => rfl) (by decide) (by decide) (by decide) (Nat.le_of_ble_eq_true rfl) (Nat.le_of_ble_eq_true rfl) dX2_init_21 (fun qa ca H hK hP hD hS => ?_)
  have hP : va_P (dC, dI) vwCl [(h, .inr (2, [.ref qs, .ref qm, .null, .null, .null, .null, .null, .int 0, .int 0, .int 0, .int 0, .int 0, .int 0, .int 0, .int 0, .int 0])), (qs, .inl (cs, (4, .inr (.inl (fun _ => 0))))), (qm, .inl (cm, (4, .inl (fun _ => 0)))), (qa, .inl (ca, (32, .inr (.inl (fun _ => 0)))))] H := hP
  have hD : va_D A [(h, .inr (2, [.ref qs, .ref qm, .null, .null, .null, .null, .null, .int 0, .int 0, .int 0, .int 0, .int 0, .int 0, .int 0, .int 0, .int 0])), (qs, .inl (cs, (4, .inr (.inl (fun _ => 0))))), (qm, .inl (cm, (4, .inl (fun _ => 0)))), (qa, .inl (ca, (32, .inr (.inl (fun _ => 0)))))] := hD
  have hK : va_K (dC, dI) vwCl [(cs, .long), (cm, .int), (ca, .long)] s := hK
  refine va_putF (D := (dC, dI)) (ci := 2) (v := .ref qa) (ty := .array .long) (C := RX2) (T := TX2) (N := 16) hx hb hts iwX2_init tyX2 tyX2_ok nmX2 hown hK hP hD hS 0 rfl rfl 2 (by decide) (hts (.fieldLink RX2 17 "MainframeDeskModel" "answers" "[J") (by decide +kernel)) (fun _ h9 => h9) rfl hin rfl (by decide +kernel) rfl rfl (Nat.le_of_ble_eq_true rfl) dX2_init_23 (fun H locs hP hD hS => ?_)
  have hP : va_P (dC, dI) vwCl [(h, .inr (2, [.ref qs, .ref qm, .ref qa, .null, .null, .null, .null, .int 0, .int 0, .int 0, .int 0, .int 0, .int 0, .int 0, .int 0, .int 0])), (qs, .inl (cs, (4, .inr (.inl (fun _ => 0))))), (qm, .inl (cm, (4, .inl (fun _ => 0)))), (qa, .inl (ca, (32, .inr (.inl (fun _ => 0)))))] H := hP
  have hD : va_D A [(h, .inr (2, [.ref qs, .ref qm, .ref qa, .null, .null, .null, .null, .int 0, .int 0, .int 0, .int 0, .int 0, .int 0, .int 0, .int 0, .int 0])), (qs, .inl (cs, (4, .inr (.inl (fun _ => 0))))), (qm, .inl (cm, (4, .inl (fun _ => 0)))), (qa, .inl (ca, (32, .inr (.inl (fun _ => 0)))))] := hD
  refine lv_aload_n hx hb dX2_init_26 rfl (lv_at hl 0 rfl) ?_
  refine lv_bipush (v := 32) hx hb dX2_init_27 (by decide) ?_
  refine va_newa (atype := .int) (ty := .int) (a0 := (32, .inl (fun _ => 0))) (n := 32) (N' := 32) hx hb (hts (.arrayClass .int) (by decide +kernel)) rfl hK hP hD hS hA (fun _ => rfl) (by decide) (by decide) (by decide) (Nat.le_of_ble_eq_true rfl) (Nat.le_of_ble_eq_true rfl) dX2_init_29 (fun qf cf H hK hP hD hS => ?_)
  have hP : va_P (dC, dI) vwCl [(h, .inr (2, [.ref qs, .ref qm, .ref qa, .null, .null, .null, .null, .int 0, .int 0, .int 0, .int 0, .int 0, .int 0, .int 0, .int 0, .int 0])), (qs, .inl (cs, (4, .inr (.inl (fun _ => 0))))), (qm, .inl (cm, (4, .inl (fun _ => 0)))), (qa, .inl (ca, (32, .inr (.inl (fun _ => 0))))), (qf, .inl (cf, (32, .inl (fun _ => 0))))] H := hP
  have hD : va_D A [(h, .inr (2, [.ref qs, .ref qm, .ref qa, .null, .null, .null, .null, .int 0, .int 0, .int 0, .int 0, .int 0, .int 0, .int 0, .int 0, .int 0])), (qs, .inl (cs, (4, .inr (.inl (fun _ => 0))))), (qm, .inl (cm, (4, .inl (fun _ => 0)))), (qa, .inl (ca, (32, .inr (.inl (fun _ => 0))))), (qf, .inl (cf, (32, .inl (fun _ => 0))))] := hD
  have hK : va_K (dC, dI) vwCl [(cs, .long), (cm, .int), (ca, .long), (cf, .int)] s := hK
  refine va_putF (D := (dC, dI)) (ci := 2) (v := .ref qf) (ty := .array .int) (C := RX2) (T := TX2) (N := 16) hx hb hts iwX2_init tyX2 tyX2_ok nmX2 hown hK hP hD hS 0 rfl rfl 3 (by decide) (hts (.fieldLink RX2 20 "MainframeDeskModel" "failures" "[I") (by decide +kernel)) (fun _ h9 => h9) rfl hin rfl (by decide +kernel) rfl rfl (Nat.le_of_ble_eq_true rfl) dX2_init_31 (fun H locs hP hD hS => ?_)
  have hP : va_P (dC, dI) vwCl [(h, .inr (2, [.ref qs, .ref qm, .ref qa, .ref qf, .null, .null, .null, .int 0, .int 0, .int 0, .int 0, .int 0, .int 0, .int 0, .int 0, .int 0])), (qs, .inl (cs, (4, .inr (.inl (fun _ => 0))))), (qm, .inl (cm, (4, .inl (fun _ => 0)))), (qa, .inl (ca, (32, .inr (.inl (fun _ => 0))))), (qf, .inl (cf, (32, .inl (fun _ => 0))))] H := hP
  have hD : va_D A [(h, .inr (2, [.ref qs, .ref qm, .ref qa, .ref qf, .null, .null, .null, .int 0, .int 0, .int 0, .int 0, .int 0, .int 0, .int 0, .int 0, .int 0])), (qs, .inl (cs, (4, .inr (.inl (fun _ => 0))))), (qm, .inl (cm, (4, .inl (fun _ => 0)))), (qa, .inl (ca, (32, .inr (.inl (fun _ => 0))))), (qf, .inl (cf, (32, .inl (fun _ => 0))))] := hD
  refine lv_aload_n hx hb dX2_init_34 rfl (lv_at hl 0 rfl) ?_
  refine lv_sipush (v := 200) hx hb dX2_init_35 (by decide) ?_
  refine va_newa (atype := .int) (ty := .int) (a0 := (200, .inl (fun _ => 0))) (n := 200) (N' := 200) hx hb (hts (.arrayClass .int) (by decide +kernel)) rfl hK hP hD hS hA (fun _ => rfl) (by decide) (by decide) (by decide) (Nat.le_of_ble_eq_true rfl) (Nat.le_of_ble_eq_true rfl) dX2_init_38 (fun qk ck H hK hP hD hS => ?_)
  have hP : va_P (dC, dI) vwCl [(h, .inr (2, [.ref qs, .ref qm, .ref qa, .ref qf, .null, .null, .null, .int 0, .int 0, .int 0, .int 0, .int 0, .int 0, .int 0, .int 0, .int 0])), (qs, .inl (cs, (4, .inr (.inl (fun _ => 0))))), (qm, .inl (cm, (4, .inl (fun _ => 0)))), (qa, .inl (ca, (32, .inr (.inl (fun _ => 0))))), (qf, .inl (cf, (32, .inl (fun _ => 0)))), (qk, .inl (ck, (200, .inl (fun _ => 0))))] H := hP
  have hD : va_D A [(h, .inr (2, [.ref qs, .ref qm, .ref qa, .ref qf, .null, .null, .null, .int 0, .int 0, .int 0, .int 0, .int 0, .int 0, .int 0, .int 0, .int 0])), (qs, .inl (cs, (4, .inr (.inl (fun _ => 0))))), (qm, .inl (cm, (4, .inl (fun _ => 0)))), (qa, .inl (ca, (32, .inr (.inl (fun _ => 0))))), (qf, .inl (cf, (32, .inl (fun _ => 0)))), (qk, .inl (ck, (200, .inl (fun _ => 0))))] := hD
  have hK : va_K (dC, dI) vwCl [(cs, .long), (cm, .int), (ca, .long), (cf, .int), (ck, .int)] s := hK
  refine va_putF (D := (dC, dI)) (ci := 2) (v := .ref qk) (ty := .array .int) (C := RX2) (T := TX2) (N := 16) hx hb hts iwX2_init tyX2 tyX2_ok nmX2 hown hK hP hD hS 0 rfl rfl 4 (by decide) (hts (.fieldLink RX2 23 "MainframeDeskModel" "kind" "[I") (by decide +kernel)) (fun _ h9 => h9) rfl hin rfl (by decide +kernel) rfl rfl (Nat.le_of_ble_eq_true rfl) dX2_init_40 (fun H locs hP hD hS => ?_)
  have hP : va_P (dC, dI) vwCl [(h, .inr (2, [.ref qs, .ref qm, .ref qa, .ref qf, .ref qk, .null, .null, .int 0, .int 0, .int 0, .int 0, .int 0, .int 0, .int 0, .int 0, .int 0])), (qs, .inl (cs, (4, .inr (.inl (fun _ => 0))))), (qm, .inl (cm, (4, .inl (fun _ => 0)))), (qa, .inl (ca, (32, .inr (.inl (fun _ => 0))))), (qf, .inl (cf, (32, .inl (fun _ => 0)))), (qk, .inl (ck, (200, .inl (fun _ => 0))))] H := hP
  have hD : va_D A [(h, .inr (2, [.ref qs, .ref qm, .ref qa, .ref qf, .ref qk, .null, .null, .int 0, .int 0, .int 0, .int 0, .int 0, .int 0, .int 0, .int 0, .int 0])), (qs, .inl (cs, (4, .inr (.inl (fun _ => 0))))), (qm, .inl (cm, (4, .inl (fun _ => 0)))), (qa, .inl (ca, (32, .inr (.inl (fun _ => 0))))), (qf, .inl (cf, (32, .inl (fun _ => 0)))), (qk, .inl (ck, (200, .inl (fun _ => 0))))] := hD
  refine lv_aload_n hx hb dX2_init_43 rfl (lv_at hl 0 rfl) ?_
  refine lv_sipush (v := 200) hx hb dX2_init_44 (by decide) ?_
  refine va_newa (atype := .boolean) (ty := .boolean) (a0 := (200, .inl (fun _ => 0))) (n := 200) (N' := 200) hx hb (hts (.arrayClass .boolean) (by decide +kernel)) rfl hK hP hD hS hA (fun _ => rfl) (by decide) (by decide) (by decide) (Nat.le_of_ble_eq_true rfl) (Nat.le_of_ble_eq_true rfl) dX2_init_47 (fun qt ct H hK hP hD hS => ?_)
  have hP : va_P (dC, dI) vwCl [(h, .inr (2, [.ref qs, .ref qm, .ref qa, .ref qf, .ref qk, .null, .null, .int 0, .int 0, .int 0, .int 0, .int 0, .int 0, .int 0, .int 0, .int 0])), (qs, .inl (cs, (4, .inr (.inl (fun _ => 0))))), (qm, .inl (cm, (4, .inl (fun _ => 0)))), (qa, .inl (ca, (32, .inr (.inl (fun _ => 0))))), (qf, .inl (cf, (32, .inl (fun _ => 0)))), (qk, .inl (ck, (200, .inl (fun _ => 0)))), (qt, .inl (ct, (200, .inl (fun _ => 0))))] H := hP
  have hD : va_D A [(h, .inr (2, [.ref qs, .ref qm, .ref qa, .ref qf, .ref qk, .null, .null, .int 0, .int 0, .int 0, .int 0, .int 0, .int 0, .int 0, .int 0, .int 0])), (qs, .inl (cs, (4, .inr (.inl (fun _ => 0))))), (qm, .inl (cm, (4, .inl (fun _ => 0)))), (qa, .inl (ca, (32, .inr (.inl (fun _ => 0))))), (qf, .inl (cf, (32, .inl (fun _ => 0)))), (qk, .inl (ck, (200, .inl (fun _ => 0)))), (qt, .inl (ct, (200, .inl (fun _ => 0))))] := hD
  have hK : va_K (dC, dI) vwCl [(cs, .long), (cm, .int), (ca, .long), (cf, .int), (ck, .int), (ct, .boolean)] s := hK
  refine va_putF (D := (dC, dI)) (ci := 2) (v := .ref qt) (ty := .array .boolean) (C := RX2) (T := TX2) (N := 16) hx hb hts iwX2_init tyX2 tyX2_ok nmX2 hown hK hP hD hS 0 rfl rfl 5 (by decide) (hts (.fieldLink RX2 26 "MainframeDeskModel" "there" "[Z") (by decide +kernel)) (fun _ h9 => h9) rfl hin rfl (by decide +kernel) rfl rfl (Nat.le_of_ble_eq_true rfl) dX2_init_49 (fun H locs hP hD hS => ?_)
  have hP : va_P (dC, dI) vwCl [(h, .inr (2, [.ref qs, .ref qm, .ref qa, .ref qf, .ref qk, .ref qt, .null, .int 0, .int 0, .int 0, .int 0, .int 0, .int 0, .int 0, .int 0, .int 0])), (qs, .inl (cs, (4, .inr (.inl (fun _ => 0))))), (qm, .inl (cm, (4, .inl (fun _ => 0)))), (qa, .inl (ca, (32, .inr (.inl (fun _ => 0))))), (qf, .inl (cf, (32, .inl (fun _ => 0)))), (qk, .inl (ck, (200, .inl (fun _ => 0)))), (qt, .inl (ct, (200, .inl (fun _ => 0))))] H := hP
  have hD : va_D A [(h, .inr (2, [.ref qs, .ref qm, .ref qa, .ref qf, .ref qk, .ref qt, .null, .int 0, .int 0, .int 0, .int 0, .int 0, .int 0, .int 0, .int 0, .int 0])), (qs, .inl (cs, (4, .inr (.inl (fun _ => 0))))), (qm, .inl (cm, (4, .inl (fun _ => 0)))), (qa, .inl (ca, (32, .inr (.inl (fun _ => 0))))), (qf, .inl (cf, (32, .inl (fun _ => 0)))), (qk, .inl (ck, (200, .inl (fun _ => 0)))), (qt, .inl (ct, (200, .inl (fun _ => 0))))] := hD
  refine lv_aload_n hx hb dX2_init_52 rfl (lv_at hl 0 rfl) ?_
  refine lv_sipush (v := 200) hx hb dX2_init_53 (by decide) ?_
  refine va_newa (atype := .long) (ty := .long) (a0 := (200, .inr (.inl (fun _ => 0)))) (n := 200) (N' := 200) hx hb (hts (.arrayClass .long) (by decide +kernel)) rfl hK hP hD hS hA (fun _ => rfl) (by decide) (by decide) (by decide) (Nat.le_of_ble_eq_true rfl) (Nat.le_of_ble_eq_true rfl) dX2_init_56 (fun qd cd H hK hP hD hS => ?_)
  have hP : va_P (dC, dI) vwCl [(h, .inr (2, [.ref qs, .ref qm, .ref qa, .ref qf, .ref qk, .ref qt, .null, .int 0, .int 0, .int 0, .int 0, .int 0, .int 0, .int 0, .int 0, .int 0])), (qs, .inl (cs, (4, .inr (.inl (fun _ => 0))))), (qm, .inl (cm, (4, .inl (fun _ => 0)))), (qa, .inl (ca, (32, .inr (.inl (fun _ => 0))))), (qf, .inl (cf, (32, .inl (fun _ => 0)))), (qk, .inl (ck, (200, .inl (fun _ => 0)))), (qt, .inl (ct, (200, .inl (fun _ => 0)))), (qd, .inl (cd, (200, .inr (.inl (fun _ => 0)))))] H := hP
  have hD : va_D A [(h, .inr (2, [.ref qs, .ref qm, .ref qa, .ref qf, .ref qk, .ref qt, .null, .int 0, .int 0, .int 0, .int 0, .int 0, .int 0, .int 0, .int 0, .int 0])), (qs, .inl (cs, (4, .inr (.inl (fun _ => 0))))), (qm, .inl (cm, (4, .inl (fun _ => 0)))), (qa, .inl (ca, (32, .inr (.inl (fun _ => 0))))), (qf, .inl (cf, (32, .inl (fun _ => 0)))), (qk, .inl (ck, (200, .inl (fun _ => 0)))), (qt, .inl (ct, (200, .inl (fun _ => 0)))), (qd, .inl (cd, (200, .inr (.inl (fun _ => 0)))))] := hD
  have hK : va_K (dC, dI) vwCl [(cs, .long), (cm, .int), (ca, .long), (cf, .int), (ck, .int), (ct, .boolean), (cd, .long)] s := hK
  refine va_putF (D := (dC, dI)) (ci := 2) (v := .ref qd) (ty := .array .long) (C := RX2) (T := TX2) (N := 16) hx hb hts iwX2_init tyX2 tyX2_ok nmX2 hown hK hP hD hS 0 rfl rfl 6 (by decide) (hts (.fieldLink RX2 30 "MainframeDeskModel" "answered" "[J") (by decide +kernel)) (fun _ h9 => h9) rfl hin rfl (by decide +kernel) rfl rfl (Nat.le_of_ble_eq_true rfl) dX2_init_58 (fun H locs hP hD hS => ?_)
  have hP : va_P (dC, dI) vwCl [(h, .inr (2, [.ref qs, .ref qm, .ref qa, .ref qf, .ref qk, .ref qt, .ref qd, .int 0, .int 0, .int 0, .int 0, .int 0, .int 0, .int 0, .int 0, .int 0])), (qs, .inl (cs, (4, .inr (.inl (fun _ => 0))))), (qm, .inl (cm, (4, .inl (fun _ => 0)))), (qa, .inl (ca, (32, .inr (.inl (fun _ => 0))))), (qf, .inl (cf, (32, .inl (fun _ => 0)))), (qk, .inl (ck, (200, .inl (fun _ => 0)))), (qt, .inl (ct, (200, .inl (fun _ => 0)))), (qd, .inl (cd, (200, .inr (.inl (fun _ => 0)))))] H := hP
  have hD : va_D A [(h, .inr (2, [.ref qs, .ref qm, .ref qa, .ref qf, .ref qk, .ref qt, .ref qd, .int 0, .int 0, .int 0, .int 0, .int 0, .int 0, .int 0, .int 0, .int 0])), (qs, .inl (cs, (4, .inr (.inl (fun _ => 0))))), (qm, .inl (cm, (4, .inl (fun _ => 0)))), (qa, .inl (ca, (32, .inr (.inl (fun _ => 0))))), (qf, .inl (cf, (32, .inl (fun _ => 0)))), (qk, .inl (ck, (200, .inl (fun _ => 0)))), (qt, .inl (ct, (200, .inl (fun _ => 0)))), (qd, .inl (cd, (200, .inr (.inl (fun _ => 0)))))] := hD
  refine W.widen (k := 7) (n := 672) (Nat.le_of_ble_eq_true rfl) (Nat.le_of_ble_eq_true rfl) ?_
  have e0 : rW h qs qm qa qf qk qt qd cs cm ca cf ck ct cd 0 (fun _ => 0) (fun _ => 0) (fun _ => 0) (fun _ => 0) (fun _ => 0) (fun _ => 0) (fun _ => 0) 0 0 0 0 0 0 0 0 = [(h, .inr (2, [.ref qs, .ref qm, .ref qa, .ref qf, .ref qk, .ref qt, .ref qd, .int 0, .int 0, .int 0, .int 0, .int 0, .int 0, .int 0, .int 0, .int 0])), (qs, .inl (cs, (4, .inr (.inl (fun _ => 0))))), (qm, .inl (cm, (4, .inl (fun _ => 0)))), (qa, .inl (ca, (32, .inr (.inl (fun _ => 0))))), (qf, .inl (cf, (32, .inl (fun _ => 0)))), (qk, .inl (ck, (200, .inl (fun _ => 0)))), (qt, .inl (ct, (200, .inl (fun _ => 0)))), (qd, .inl (cd, (200, .inr (.inl (fun _ => 0)))))] := by unfold rW; rw [mL_z]; rfl
  exact W.vret hx hb hr (fun t ht hW => ⟨⟨(), rfl, trivial, qs, qm, qa, qf, qk, qt, qd, cs, cm, ca, cf, ck, ct, cd, by rw [ht, e0]; exact hP, va_K.moved hW.alike hK, by rw [e0]; exact hD⟩, hS.F ht⟩) hS.2.2 dX2_init_61
end
section
/-- what holds between the calls: at most 200 things, at most 50 numbers in a row, no thing answered more calls than were made -/
def lInv (M : dM) (t : Nat) : Prop := match M with
  | (n, _, _, cn, rc, _, _, _, _, _, _, _, _, _) => n ≤ 200 ∧ (∀ i, rc i ≤ 50) ∧ ∀ j, ∃ k : Nat, k ≤ t ∧ cn j = nI k
theorem lInv_up {M : dM} {t : Nat} (h : lInv M t) : lInv M (t + 1) := by
  obtain ⟨n, kd, ok, cn, rc, rs, an, fl, t0, t1, t2, t3, t4, t5⟩ := M
  obtain ⟨h1, h2, h3⟩ := h
  exact ⟨h1, h2, fun j => (h3 j).imp (fun k hk => ⟨by omega, hk.2⟩)⟩
theorem kx_inc {x : Int32} (h : x < 50) : x + 1 ≤ 50 := by
  have h1 := Int32.lt_iff_toInt_lt.mp h
  have e1 : (50 : Int32).toInt = 50 := by decide
  have e3 : (1 : Int32).toInt = 1 := by decide
  rw [e1] at h1
  have h2 := Int32.le_toInt x
  apply Int32.le_iff_toInt_le.mpr
  rw [Int32.toInt_add, e3, e1, Int.bmod_eq_of_le (by omega) (by omega)]
  omega
theorem inv_collect {M : dM} {t : Nat} {w : Int32} {v : Int64} (h : lInv M t) : lInv (mCollect M w v).2 (t + 1) := by
  have h0 := lInv_up h
  obtain ⟨n, kd, ok, cn, rc, rs, an, fl, t0, t1, t2, t3, t4, t5⟩ := M
  unfold mCollect
  dsimp only
  by_cases hc : (0 ≤ w ∧ w < 4) ∧ rc w.toNatClampNeg < 50
  · rw [if_pos hc]
    refine ⟨h0.1, fun i => ?_, h0.2.2⟩
    by_cases e : i = w.toNatClampNeg
    · subst e
      rw [pk_us]
      exact kx_inc hc.2
    · rw [pk_un e]
      exact h0.2.1 i
  · rw [if_neg hc]
    exact h0
theorem inv_answer {M : dM} {t : Nat} {w : Int32} {v : Int64} (h : lInv M t) : lInv (mAnswer M w v).2 (t + 1) := by
  have h0 := lInv_up h
  obtain ⟨n, kd, ok, cn, rc, rs, an, fl, t0, t1, t2, t3, t4, t5⟩ := M
  unfold mAnswer
  dsimp only
  by_cases hc : 0 ≤ w ∧ w < 32
  · rw [if_pos hc]
    exact h0
  · rw [if_neg hc]
    exact h0
theorem inv_fails {M : dM} {t : Nat} {w k : Int32} (h : lInv M t) : lInv (mFails M w k).2 (t + 1) := by
  have h0 := lInv_up h
  obtain ⟨n, kd, ok, cn, rc, rs, an, fl, t0, t1, t2, t3, t4, t5⟩ := M
  unfold mFails
  dsimp only
  by_cases hc : (0 ≤ w ∧ w < 32) ∧ 0 ≤ k ∧ k ≤ 6
  · rw [if_pos hc]
    exact h0
  · rw [if_neg hc]
    exact h0
theorem inv_make {M : dM} {t : Nat} {k : Int32} (h : lInv M t) : lInv (mMake M k).2 (t + 1) := by
  have h0 := lInv_up h
  obtain ⟨n, kd, ok, cn, rc, rs, an, fl, t0, t1, t2, t3, t4, t5⟩ := M
  unfold mMake
  dsimp only
  by_cases hc : (0 ≤ k ∧ k < 8) ∧ n < 200
  · rw [if_pos hc]
    refine ⟨by have := hc.2; omega, h0.2.1, fun j => ?_⟩
    by_cases e : j = n
    · subst e
      rw [pk_us]
      exact ⟨0, by omega, rfl⟩
    · rw [pk_un e]
      exact h0.2.2 j
  · rw [if_neg hc]
    exact h0
theorem inv_drop {M : dM} {t : Nat} {x : Int32} (h : lInv M t) : lInv (mDrop M x).2 (t + 1) := by
  have h0 := lInv_up h
  obtain ⟨n, kd, ok, cn, rc, rs, an, fl, t0, t1, t2, t3, t4, t5⟩ := M
  unfold mDrop
  dsimp only
  by_cases hc : (1 ≤ x ∧ x ≤ nI n) ∧ ¬ ok (mIx x) = 0
  · rw [if_pos hc]
    exact h0
  · rw [if_neg hc]
    exact h0
theorem inv_tk {rc : Nat → Int32} {c : Int32} (h : ∀ i, rc i ≤ 50) : ∀ i, mTkC rc c i ≤ 50 := by
  intro i
  unfold mTkC
  by_cases h8 : 8 ≤ c
  · rw [if_pos h8]
    by_cases e : i = (mW4 c).toNatClampNeg
    · subst e
      rw [pk_us]
      decide
    · rw [pk_un e]
      exact h i
  · rw [if_neg h8]
    exact h i
theorem inv_call {M : dM} {t : Nat} {c x : Int32} {a : Int64} (h : lInv M t) : lInv (mCall M c x a).2 (t + 1) := by
  have h0 := lInv_up h
  obtain ⟨n, kd, ok, cn, rc, rs, an, fl, t0, t1, t2, t3, t4, t5⟩ := M
  unfold mCall
  dsimp only
  by_cases hx : 1 ≤ x ∧ x ≤ nI n
  · rw [if_pos hx]
    by_cases hr : mRef rc (kd (mIx x)) (ok (mIx x)) c a = 0
    · rw [if_pos hr]
      dsimp only
      by_cases hf : fl c.toNatClampNeg = 0
      · rw [if_pos hf]
        refine ⟨h0.1, inv_tk h0.2.1, fun j => ?_⟩
        by_cases e : j = mIx x
        · rw [e, pk_us]
          obtain ⟨k, hk, ek⟩ := h.2.2 (mIx x)
          exact ⟨k + 1, by omega, by rw [ek]; exact nI_1 k⟩
        · rw [pk_un e]
          exact h0.2.2 j
      · rw [if_neg hf]
        exact ⟨h0.1, inv_tk h0.2.1, h0.2.2⟩
    · rw [if_neg hr]
      exact h0
  · rw [if_neg hx]
    exact h0
theorem inv_cn {cn : Nat → Int32} {t : Nat} (ht : t ≤ 512) (h : ∀ j, ∃ k : Nat, k ≤ t ∧ cn j = nI k) : ∀ j, cn j < 1000000 := fun j => by
  obtain ⟨k, hk, e⟩ := h j
  rw [e]
  exact nI_lt (a := k) (b := 1000000) (by omega) (by omega)
theorem lw_cmp {L t : Nat} (hL : L ≤ 2560) (h : 5 * t ≤ L) : nI L - 5 < nI (5 * t) ↔ L < 5 * t + 5 := by
  rw [Int32.lt_iff_toInt_lt, nI_toInt (by omega)]
  have e : (nI L - 5).toInt = (L : Int) - (5 : Nat) := pk_sub_toInt (a := L) (b := 5) (by omega) (by omega)
  rw [e]
  omega
theorem lw_in {L t k : Nat} (hL : L ≤ 2560) (h : 5 * t + k < L) : vp_in (nI (5 * t) + nI k) L := by
  rw [nI_add]
  exact vp_in_nI h (by omega)
set_option maxRecDepth 20000 in
theorem gL_law_X2_numbers : GoodIn lw_tbl (wsV RL 51 RX2 yX2_numbers wsX2_numbers) := goodIn_p _ [250, 206] rfl (by decide +kernel)
end
section
/-! THE CLAIM OUT OF ONE WALK OF THE LAW'S BODY. Your part is whole_start (and what it stands on); all else here is the same for every law, but numbers. -/
def R_law : String := "MainframeDeskLaw"
def lw_P (b : Addr) (xs : List Int32) (args : Array Value) (s : State) : Prop := args = #[.ref b] ∧ s.IntsAt b xs ∧ xs.length ≤ 2560 ∧ (Jvm.Cond.and given_1 narrow_1).before args s = true
def lw_Q (_ : Array Value) (s : State) (o : Outcome) (t : State) : Prop := o = .returned (some (.int 1)) ∧ Framed s o t [] 812163 6665758
def lw_Z (below : List Frame) (a : Array Value) (s : State) : State → Prop := fun t => ∃ o, t.status = .running ∧ Ended t below o ∧ lw_Q a s o t
/-- the law's own end, with 1 on the stack, nothing written that was there before, its room as the claim has it -/
theorem lw_ret {p : Program} {l : Launch} {e : Env} {s : State} {m : MethodId} {below : List Frame} {meth : Method} {c : Code} {b : Nat} (hx : p.tables.exec = Jvm.exec) (hb : c.code = code) (hr : meth.sig.returnType = ret) (hlocks : meth.locks = false) {pc : Nat} {H : Heap} {ls : Array Slot} (hdg : decode code pc = .ok (.ireturn, 1)) : W p l e room_1 s m #[Value.ref b] below meth c H [] 812163 6665758 (lw_Z below #[Value.ref b] s) (F0 m pc ls [.int 1]) := by
  intro T hT X
  obtain ⟨fs, hret, hrun, hended, hW, hframe⟩ := X.leave (v := some (.int 1)) (hlocks := hlocks) (fun h => by rw [hr] at h; cases h)
  have hmeth' : T.vm.method? m = some meth := X.method'
  refine ⟨T.setFrames fs, ?_, .returned (some (.int 1)), hrun, hended, rfl, ⟨_, rfl⟩, hW, hframe⟩
  jvm_step X.here [X.here.top, hx, hb, hdg, hmeth', hr, ret, narrow_b1]
  (try refine ⟨rfl, ?_⟩); (try refine ⟨rfl, ?_⟩)
  first | (intro acts; rw [hret _ acts rfl rfl rfl]) | rw [hret _ _ rfl rfl rfl]
  exact Steps.refl _
/-- what holds at the law's entry: the machine, the code, the tables' words (any of lw_tbl by 'hts w (by decide +kernel)'), the script of L ints xs at the cell b, what the Statement gives of the start (any of its parts by flat_of_before) -/
def lw_At (p : Program) (s : State) (m : MethodId) (meth : Method) (c : Code) (b L : Nat) (xs : Nat → Int32) : Prop :=
  p.tables.exec = Jvm.exec ∧ c.code = code ∧ meth.sig.returnType = ret ∧ c.maxLocals = 4 ∧ s.vm.findClass R_law = some m.cls ∧ (∀ w ∈ lw_tbl, w.before #[Value.ref b] s = true) ∧ va_X b L xs s s.heap ∧ b < s.heap.size ∧ meth.locks = false ∧ (Jvm.Cond.and given_1 narrow_1).before #[Value.ref b] s = true
end
section
set_option maxHeartbeats 4000000 in
set_option maxRecDepth 100000 in
/-- THE LAW'S LOOP: at its head, behind t calls, the desk and the reference hold one and the same mathematical value -/
theorem law_loop {p : Program} {l : Launch} {e : Env} {s : State} {m : MethodId} {below : List Frame} {meth : Method} {c : Code} {dC : Nat → ClassId} {dI : Nat → Nat → Nat} {b L : Nat} {xs : Nat → Int32} (hL : L ≤ 2560) (C0 : lw_At p s m meth c b L xs) (hN : dNw s)
    {h qT qC qS qA qF : Nat} {cT cC cS cA cF : ClassId} {g qs qm qa qf qk qt qd : Nat} {cs cm ca cf ck ct cd : ClassId} (hK : va_K (dC, dI) vwCl [(cT, .object "MainframeDesk$Thing"), (cC, .int), (cS, .long), (cA, .long), (cF, .int)] s) (hKm : va_K (dC, dI) vwCl [(cs, .long), (cm, .int), (ca, .long), (cf, .int), (ck, .int), (ct, .boolean), (cd, .long)] s) :
    ∀ (f t : Nat), L ≤ 5 * t + 5 * f → 5 * t ≤ L → ∀ (x3 : Int32), x3 = nI (5 * t) → ∀ (M : dM), lInv M t → ∀ (ad : Nat → Nat) (th wy : Int32) (H : Heap) (locs : List Loc) (cc ss : Nat), cc ≤ 14 + t → ss ≤ 1000 + 3 * t →
      va_P (dC, dI) vwCl (dWm h qT qC qS qA qF cT cC cS cA cF ad M) H → va_P (dC, dI) vwCl (rWm g qs qm qa qf qk qt qd cs cm ca cf ck ct cd (M, th, wy)) H → va_D (fun q : Nat => s.heap.size ≤ q) (dWm h qT qC qS qA qF cT cC cS cA cF ad M ++ rWm g qs qm qa qf qk qt qd cs cm ca cf ck ct cd (M, th, wy)) → va_S (fun q : Nat => s.heap.size ≤ q) s.heap H locs →
      ∀ (ls : Array Slot), lv_has ls 4 [(0, .ref b), (1, .ref h), (2, .ref g), (3, .int x3)] → W p l e room_1 s m #[Value.ref b] below meth c H locs cc ss (lw_Z below #[Value.ref b] s) (F0 m 18 ls []) := by
  obtain ⟨hx, hb, hr, hml, hown, hts0, hX, hbl, hlocks, hgv⟩ := C0
  have hown : s.vm.findClass RL = some m.cls := hown
  have hts : ∀ w ∈ wsL_law, w.before #[Value.ref b] s = true := fun w h9 => hts0 w (wsL_law_in w h9)
  have hk13 : (Cond.constantLong RL 13 4294967295).before #[Value.ref b] s = true := hts0 _ (by decide +kernel)
  have hA : ∀ q : Nat, s.heap.size ≤ q → (fun q : Nat => s.heap.size ≤ q) q := fun _ h9 => h9
  have hbA : ¬ (fun q : Nat => s.heap.size ≤ q) b := Nat.not_le.mpr hbl
  generalize hAe : (fun q : Nat => s.heap.size ≤ q) = A at hA hbA ⊢
  intro f
  induction f with
  | zero =>
    intro t h1 h2 x3 hx3 M hI ad th wy H locs cc ss hcc hss hP hPm hD hS ls hl
    obtain ⟨n, kd, ok, cn, rc, rs, an, fl, t0, t1, t2, t3, t4, t5⟩ := M
    have hP : va_P (dC, dI) vwCl (dW h qT qC qS qA qF cT cC cS cA cF ad n kd ok cn rc rs an fl t0 t1 t2 t3 t4 t5) H := hP
    have hPm : va_P (dC, dI) vwCl (rW g qs qm qa qf qk qt qd cs cm ca cf ck ct cd n kd ok cn rc rs an fl t0 t1 t2 t3 t4 t5 th wy) H := hPm
    have hD : va_D A (dW h qT qC qS qA qF cT cC cS cA cF ad n kd ok cn rc rs an fl t0 t1 t2 t3 t4 t5 ++ rW g qs qm qa qf qk qt qd cs cm ca cf ck ct cd n kd ok cn rc rs an fl t0 t1 t2 t3 t4 t5 th wy) := hD
    refine lv_iload_n hx hb dL_law_18 rfl (lv_at hl 3 rfl) ?_
    refine lv_aload_n hx hb dL_law_19 rfl (lv_at hl 0 rfl) ?_
    refine va_slen hx hb hX hbl hbA hS dL_law_20 ?_
    refine W.eq (g2 := F0 m 21 ls [.int (nI L), .int x3]) rfl ?_
    refine lv_iconst (v := 5) hx hb dL_law_21 (by decide) ?_
    refine lv_isub hx hb dL_law_22 ?_
    refine lv_topi (fun z_183 ez_183 => ?_)
    refine lv_icmp_gt (tgt := 489) hx hb dL_law_23 (by decide) (fun c_184 => ?_) (fun c_184 => ?_)
    · refine lv_iconst (v := 1) hx hb dL_law_489 (by decide) ?_
      subst hAe
      refine va_forget (fun q hq => hS.2.2 q hq) ?_
      refine W.widen (k := 812163) (n := 6665758) (by omega) (by omega) ?_
      exact lw_ret hx hb hr hlocks dL_law_490
    · exact absurd (by rw [ez_183, hx3]; exact (lw_cmp hL h2).mpr (by omega)) c_184
  | succ f ih =>
    intro t h1 h2 x3 hx3 M hI ad th wy H locs cc ss hcc hss hP hPm hD hS ls hl
    obtain ⟨n, kd, ok, cn, rc, rs, an, fl, t0, t1, t2, t3, t4, t5⟩ := M
    have hP : va_P (dC, dI) vwCl (dW h qT qC qS qA qF cT cC cS cA cF ad n kd ok cn rc rs an fl t0 t1 t2 t3 t4 t5) H := hP
    have hPm : va_P (dC, dI) vwCl (rW g qs qm qa qf qk qt qd cs cm ca cf ck ct cd n kd ok cn rc rs an fl t0 t1 t2 t3 t4 t5 th wy) H := hPm
    have hD : va_D A (dW h qT qC qS qA qF cT cC cS cA cF ad n kd ok cn rc rs an fl t0 t1 t2 t3 t4 t5 ++ rW g qs qm qa qf qk qt qd cs cm ca cf ck ct cd n kd ok cn rc rs an fl t0 t1 t2 t3 t4 t5 th wy) := hD
    refine lv_iload_n hx hb dL_law_18 rfl (lv_at hl 3 rfl) ?_
    refine lv_aload_n hx hb dL_law_19 rfl (lv_at hl 0 rfl) ?_
    refine va_slen hx hb hX hbl hbA hS dL_law_20 ?_
    refine W.eq (g2 := F0 m 21 ls [.int (nI L), .int x3]) rfl ?_
    refine lv_iconst (v := 5) hx hb dL_law_21 (by decide) ?_
    refine lv_isub hx hb dL_law_22 ?_
    refine lv_topi (fun z_185 ez_185 => ?_)
    refine lv_icmp_gt (tgt := 489) hx hb dL_law_23 (by decide) (fun c_186 => ?_) (fun c_186 => ?_)
    · refine lv_iconst (v := 1) hx hb dL_law_489 (by decide) ?_
      subst hAe
      refine va_forget (fun q hq => hS.2.2 q hq) ?_
      refine W.widen (k := 812163) (n := 6665758) (by omega) (by omega) ?_
      exact lw_ret hx hb hr hlocks dL_law_490
    · have hlt : 5 * t + 5 ≤ L := by
        rcases Nat.lt_or_ge L (5 * t + 5) with q | q
        · exact absurd (by rw [ez_185, hx3]; exact (lw_cmp hL h2).mpr q) c_186
        · exact q
      have h0in : vp_in x3 L := by rw [hx3]; exact vp_in_nI (by omega) (by omega)
      refine lv_aload_n hx hb dL_law_26 rfl (lv_at hl 0 rfl) ?_
      refine lv_iload_n hx hb dL_law_27 rfl (lv_at hl 3 rfl) ?_
      refine va_sld hx hb hX hbl hbA hS h0in dL_law_28 ?_
      refine lv_topi (fun v_187 ev_187 => ?_)
      refine lv_bipush (v := 15) hx hb dL_law_29 (by decide) ?_
      refine lv_iand hx hb dL_law_31 ?_
      refine lv_topi (fun z_188 ez_188 => ?_)
      by_cases hs_189 : z_188 = 0
      · refine lv_tableIn (off := 52) (tgt := 84) hx hb dL_law_32 (by rw [hs_189]; decide) (by rw [hs_189]; decide) (by rw [hs_189]; rfl) (by decide) ?_
        refine lv_aload_n hx hb dL_law_84 rfl (lv_at hl 1 rfl) ?_
        refine lv_aload_n hx hb dL_law_85 rfl (lv_at hl 0 rfl) ?_
        refine lv_iload_n hx hb dL_law_86 rfl (lv_at hl 3 rfl) ?_
        refine lv_iconst (v := 1) hx hb dL_law_87 (by decide) ?_
        refine lv_iadd hx hb dL_law_88 ?_
        refine lv_topi (fun z_190 ez_190 => ?_)
        have hz_190 : vp_in z_190 L := by rw [ez_190, hx3]; exact lw_in (k := 1) hL (by omega)
        refine va_sld hx hb hX hbl hbA hS hz_190 dL_law_89 ?_
        refine lv_topi (fun v_191 ev_191 => ?_)
        refine lv_aload_n hx hb dL_law_90 rfl (lv_at hl 0 rfl) ?_
        refine lv_iload_n hx hb dL_law_91 rfl (lv_at hl 3 rfl) ?_
        refine lv_iconst (v := 2) hx hb dL_law_92 (by decide) ?_
        refine lv_iadd hx hb dL_law_93 ?_
        refine lv_topi (fun z_192 ez_192 => ?_)
        have hz_192 : vp_in z_192 L := by rw [ez_192, hx3]; exact lw_in (k := 2) hL (by omega)
        refine va_sld hx hb hX hbl hbA hS hz_192 dL_law_94 ?_
        refine lv_topi (fun v_193 ev_193 => ?_)
        refine lv_i2l (v := v_193.toInt64) hx hb dL_law_95 rfl ?_
        refine lv_bipush (v := 32) hx hb dL_law_96 (by decide) ?_
        refine lv_lshl (v := v_193.toInt64 <<< ((32 : Int32).toInt64 &&& 63)) hx hb dL_law_98 rfl ?_
        refine lv_aload_n hx hb dL_law_99 rfl (lv_at hl 0 rfl) ?_
        refine lv_iload_n hx hb dL_law_100 rfl (lv_at hl 3 rfl) ?_
        refine lv_iconst (v := 3) hx hb dL_law_101 (by decide) ?_
        refine lv_iadd hx hb dL_law_102 ?_
        refine lv_topi (fun z_194 ez_194 => ?_)
        have hz_194 : vp_in z_194 L := by rw [ez_194, hx3]; exact lw_in (k := 3) hL (by omega)
        refine va_sld hx hb hX hbl hbA hS hz_194 dL_law_103 ?_
        refine lv_topi (fun v_195 ev_195 => ?_)
        refine lv_i2l (v := v_195.toInt64) hx hb dL_law_104 rfl ?_
        refine lv_ldc2 (v := 4294967295) hx hb hown hk13 dL_law_105 ?_
        refine lv_land hx hb dL_law_108 ?_
        refine lv_topl (fun z_196 ez_196 => ?_)
        refine lv_lor hx hb dL_law_109 ?_
        refine lv_topl (fun z_197 ez_197 => ?_)
        have hFc := kx_fr (kx_D1 hD) hS hA
        refine va_calli (va_runV (As := [.int v_191, .long z_197]) (rest := []) ⟨hx, hb, hml, hown, hts⟩ (c_collect l dC dI h qT qC qS qA qF cT cC cS cA cF ad n kd ok cn rc rs an fl t0 t1 t2 t3 t4 t5  H.size v_191 z_197) (cwV 2 hts gL_law_X1_collect rfl rfl rfl (by decide +kernel) ⟨Nat.le_of_ble_eq_true rfl, Nat.le_of_ble_eq_true rfl⟩) ⟨dQ_bl, va_recv hK hP (ci := 1) (q0 := 0) rfl rfl, fun U hU hW => ⟨rfl, dQ_at hU hW hP hK (kx_D1 hD) hN⟩⟩ rfl rfl hl.1 rfl (lv_room (Nat.le_of_ble_eq_true rfl)) dL_law_110 ⟨(show cc + 0 ≤ 812163 by omega), (show ss + 0 ≤ 6665758 by omega)⟩) hS (fun q _ h9 => hFc q h9) hFc (fun r_198 u t9 H1 locs ht hvm hw hB hz1 hk1 hS => ?_)
        obtain ⟨hP, hD1⟩ := hB
        rw [ht] at hP
        obtain ⟨hPm, hD⟩ := kx_jn hPm hD hk1 hFc hD1
        have hP : va_P (dC, dI) vwCl (dWm h qT qC qS qA qF cT cC cS cA cF ad u) H1 := hP
        generalize H1 = H at hP hPm hS ⊢
        have hD : va_D A (dWm h qT qC qS qA qF cT cC cS cA cF ad u ++ rW g qs qm qa qf qk qt qd cs cm ca cf ck ct cd n kd ok cn rc rs an fl t0 t1 t2 t3 t4 t5 th wy) := hD
        refine lv_aload_n hx hb dL_law_113 rfl (lv_at hl 2 rfl) ?_
        refine lv_aload_n hx hb dL_law_114 rfl (lv_at hl 0 rfl) ?_
        refine lv_iload_n hx hb dL_law_115 rfl (lv_at hl 3 rfl) ?_
        refine lv_iconst (v := 1) hx hb dL_law_116 (by decide) ?_
        refine lv_iadd hx hb dL_law_117 ?_
        refine lv_topi (fun z_199 ez_199 => ?_)
        have hh : z_190 = z_199 := ez_190.trans ez_199.symm
        subst hh
        refine va_sld hx hb hX hbl hbA hS hz_190 dL_law_118 ?_
        refine lv_topi (fun v_200 ev_200 => ?_)
        have hh : v_191 = v_200 := ev_191.trans ev_200.symm
        subst hh
        refine lv_aload_n hx hb dL_law_119 rfl (lv_at hl 0 rfl) ?_
        refine lv_iload_n hx hb dL_law_120 rfl (lv_at hl 3 rfl) ?_
        refine lv_iconst (v := 2) hx hb dL_law_121 (by decide) ?_
        refine lv_iadd hx hb dL_law_122 ?_
        refine lv_topi (fun z_201 ez_201 => ?_)
        have hh : z_192 = z_201 := ez_192.trans ez_201.symm
        subst hh
        refine va_sld hx hb hX hbl hbA hS hz_192 dL_law_123 ?_
        refine lv_topi (fun v_202 ev_202 => ?_)
        have hh : v_193 = v_202 := ev_193.trans ev_202.symm
        subst hh
        refine lv_i2l (v := v_193.toInt64) hx hb dL_law_124 rfl ?_
        refine lv_bipush (v := 32) hx hb dL_law_125 (by decide) ?_
        refine lv_lshl (v := v_193.toInt64 <<< ((32 : Int32).toInt64 &&& 63)) hx hb dL_law_127 rfl ?_
        refine lv_aload_n hx hb dL_law_128 rfl (lv_at hl 0 rfl) ?_
        refine lv_iload_n hx hb dL_law_129 rfl (lv_at hl 3 rfl) ?_
        refine lv_iconst (v := 3) hx hb dL_law_130 (by decide) ?_
        refine lv_iadd hx hb dL_law_131 ?_
        refine lv_topi (fun z_203 ez_203 => ?_)
        have hh : z_194 = z_203 := ez_194.trans ez_203.symm
        subst hh
        refine va_sld hx hb hX hbl hbA hS hz_194 dL_law_132 ?_
        refine lv_topi (fun v_204 ev_204 => ?_)
        have hh : v_195 = v_204 := ev_195.trans ev_204.symm
        subst hh
        refine lv_i2l (v := v_195.toInt64) hx hb dL_law_133 rfl ?_
        refine lv_ldc2 (v := 4294967295) hx hb hown hk13 dL_law_134 ?_
        refine lv_land hx hb dL_law_137 ?_
        refine lv_topl (fun z_205 ez_205 => ?_)
        have hh : z_196 = z_205 := ez_196.trans ez_205.symm
        subst hh
        refine lv_lor hx hb dL_law_138 ?_
        refine lv_topl (fun z_206 ez_206 => ?_)
        have hh : z_197 = z_206 := ez_197.trans ez_206.symm
        subst hh
        have hDx := kx_Dc hD
        have hFm := kx_fr (kx_D1 hDx) hS hA
        refine va_calli (va_runV (As := [.int v_191, .long z_197]) (rest := [.int r_198]) ⟨hx, hb, hml, hown, hts⟩ (r_collect l dC dI g qs qm qa qf qk qt qd cs cm ca cf ck ct cd n kd ok cn rc rs an fl t0 t1 t2 t3 t4 t5 th wy hI.2.1 H.size v_191 z_197) (cwV 2 hts gL_law_X2_collect rfl rfl rfl (by decide +kernel) ⟨Nat.le_of_ble_eq_true rfl, Nat.le_of_ble_eq_true rfl⟩) ⟨rQ_bl, va_recv hKm hPm (ci := 2) (q0 := 0) rfl rfl, fun U hU hW => ⟨rfl, rQ_at hU hW hPm hKm (kx_D1 hDx)⟩⟩ rfl rfl hl.1 rfl (lv_room (Nat.le_of_ble_eq_true rfl)) dL_law_139 ⟨(show cc + 0 + 0 ≤ 812163 by omega), (show ss + 0 + 0 ≤ 6665758 by omega)⟩) hS (fun q _ h9 => hFm q h9) hFm (fun r_207 u2 t8 H2 locs ht2 hvm2 hw2 hB2 hz2 hk2 hS => ?_)
        obtain ⟨u2, th2, wy2⟩ := u2
        obtain ⟨hPm, hDm⟩ := hB2
        rw [ht2] at hPm
        obtain ⟨hP, hDz⟩ := kx_jn hP hDx hk2 hFm hDm
        have hD := kx_Dc hDz
        have e1 : r_198 = r_207 := (Prod.mk.inj (hw.trans hw2.symm)).1
        have e2 : u = u2 := (Prod.mk.inj (hw.trans hw2.symm)).2
        subst e2
        have hi : lInv u (t + 1) := by rw [show u = (mCollect (n, kd, ok, cn, rc, rs, an, fl, t0, t1, t2, t3, t4, t5) v_191 z_197).2 from congrArg Prod.snd hw]; exact inv_collect hI
        refine lv_icmp_eq (tgt := 483) hx hb dL_law_142 (by decide) (fun c_208 => ?_) (fun c_208 => ?_)
        · obtain ⟨i_209, ei_209⟩ : ∃ y : Int32, y = x3 + 5 := ⟨_, rfl⟩
          refine lv_iinc (v := i_209) (lv' := [(3, .int i_209), (0, .ref b), (1, .ref h), (2, .ref g)]) hx hb dL_law_483 hl (k := 3) rfl (by rw [ei_209]; rfl) (by decide) rfl (fun ls hl => ?_)
          refine lv_goto (tgt := 18) hx hb dL_law_486 (by decide) ?_
          exact ih (t + 1) (by omega) (by omega) i_209 (by rw [ei_209, hx3]; exact nI_add (5 * t) 5) u hi ad th2 wy2 H2 locs _ _ (by omega) (by omega) hP hPm hD hS ls (lv_sub hl [1, 2, 3, 0] rfl)
        · exact absurd e1 c_208
      · by_cases hs_210 : z_188 = 1
        · refine lv_tableIn (off := 115) (tgt := 147) hx hb dL_law_32 (by rw [hs_210]; decide) (by rw [hs_210]; decide) (by rw [hs_210]; rfl) (by decide) ?_
          refine lv_aload_n hx hb dL_law_147 rfl (lv_at hl 1 rfl) ?_
          refine lv_aload_n hx hb dL_law_148 rfl (lv_at hl 0 rfl) ?_
          refine lv_iload_n hx hb dL_law_149 rfl (lv_at hl 3 rfl) ?_
          refine lv_iconst (v := 1) hx hb dL_law_150 (by decide) ?_
          refine lv_iadd hx hb dL_law_151 ?_
          refine lv_topi (fun z_211 ez_211 => ?_)
          have hz_211 : vp_in z_211 L := by rw [ez_211, hx3]; exact lw_in (k := 1) hL (by omega)
          refine va_sld hx hb hX hbl hbA hS hz_211 dL_law_152 ?_
          refine lv_topi (fun v_212 ev_212 => ?_)
          refine lv_aload_n hx hb dL_law_153 rfl (lv_at hl 0 rfl) ?_
          refine lv_iload_n hx hb dL_law_154 rfl (lv_at hl 3 rfl) ?_
          refine lv_iconst (v := 2) hx hb dL_law_155 (by decide) ?_
          refine lv_iadd hx hb dL_law_156 ?_
          refine lv_topi (fun z_213 ez_213 => ?_)
          have hz_213 : vp_in z_213 L := by rw [ez_213, hx3]; exact lw_in (k := 2) hL (by omega)
          refine va_sld hx hb hX hbl hbA hS hz_213 dL_law_157 ?_
          refine lv_topi (fun v_214 ev_214 => ?_)
          refine lv_i2l (v := v_214.toInt64) hx hb dL_law_158 rfl ?_
          refine lv_bipush (v := 32) hx hb dL_law_159 (by decide) ?_
          refine lv_lshl (v := v_214.toInt64 <<< ((32 : Int32).toInt64 &&& 63)) hx hb dL_law_161 rfl ?_
          refine lv_aload_n hx hb dL_law_162 rfl (lv_at hl 0 rfl) ?_
          refine lv_iload_n hx hb dL_law_163 rfl (lv_at hl 3 rfl) ?_
          refine lv_iconst (v := 3) hx hb dL_law_164 (by decide) ?_
          refine lv_iadd hx hb dL_law_165 ?_
          refine lv_topi (fun z_215 ez_215 => ?_)
          have hz_215 : vp_in z_215 L := by rw [ez_215, hx3]; exact lw_in (k := 3) hL (by omega)
          refine va_sld hx hb hX hbl hbA hS hz_215 dL_law_166 ?_
          refine lv_topi (fun v_216 ev_216 => ?_)
          refine lv_i2l (v := v_216.toInt64) hx hb dL_law_167 rfl ?_
          refine lv_ldc2 (v := 4294967295) hx hb hown hk13 dL_law_168 ?_
          refine lv_land hx hb dL_law_171 ?_
          refine lv_topl (fun z_217 ez_217 => ?_)
          refine lv_lor hx hb dL_law_172 ?_
          refine lv_topl (fun z_218 ez_218 => ?_)
          have hFc := kx_fr (kx_D1 hD) hS hA
          refine va_calli (va_runV (As := [.int v_212, .long z_218]) (rest := []) ⟨hx, hb, hml, hown, hts⟩ (c_answer l dC dI h qT qC qS qA qF cT cC cS cA cF ad n kd ok cn rc rs an fl t0 t1 t2 t3 t4 t5  H.size v_212 z_218) (cwV 2 hts gL_law_X1_answer rfl rfl rfl (by decide +kernel) ⟨Nat.le_of_ble_eq_true rfl, Nat.le_of_ble_eq_true rfl⟩) ⟨dQ_bl, va_recv hK hP (ci := 1) (q0 := 0) rfl rfl, fun U hU hW => ⟨rfl, dQ_at hU hW hP hK (kx_D1 hD) hN⟩⟩ rfl rfl hl.1 rfl (lv_room (Nat.le_of_ble_eq_true rfl)) dL_law_173 ⟨(show cc + 0 ≤ 812163 by omega), (show ss + 0 ≤ 6665758 by omega)⟩) hS (fun q _ h9 => hFc q h9) hFc (fun r_219 u t9 H1 locs ht hvm hw hB hz1 hk1 hS => ?_)
          obtain ⟨hP, hD1⟩ := hB
          rw [ht] at hP
          obtain ⟨hPm, hD⟩ := kx_jn hPm hD hk1 hFc hD1
          have hP : va_P (dC, dI) vwCl (dWm h qT qC qS qA qF cT cC cS cA cF ad u) H1 := hP
          generalize H1 = H at hP hPm hS ⊢
          have hD : va_D A (dWm h qT qC qS qA qF cT cC cS cA cF ad u ++ rW g qs qm qa qf qk qt qd cs cm ca cf ck ct cd n kd ok cn rc rs an fl t0 t1 t2 t3 t4 t5 th wy) := hD
          refine lv_aload_n hx hb dL_law_176 rfl (lv_at hl 2 rfl) ?_
          refine lv_aload_n hx hb dL_law_177 rfl (lv_at hl 0 rfl) ?_
          refine lv_iload_n hx hb dL_law_178 rfl (lv_at hl 3 rfl) ?_
          refine lv_iconst (v := 1) hx hb dL_law_179 (by decide) ?_
          refine lv_iadd hx hb dL_law_180 ?_
          refine lv_topi (fun z_220 ez_220 => ?_)
          have hh : z_211 = z_220 := ez_211.trans ez_220.symm
          subst hh
          refine va_sld hx hb hX hbl hbA hS hz_211 dL_law_181 ?_
          refine lv_topi (fun v_221 ev_221 => ?_)
          have hh : v_212 = v_221 := ev_212.trans ev_221.symm
          subst hh
          refine lv_aload_n hx hb dL_law_182 rfl (lv_at hl 0 rfl) ?_
          refine lv_iload_n hx hb dL_law_183 rfl (lv_at hl 3 rfl) ?_
          refine lv_iconst (v := 2) hx hb dL_law_184 (by decide) ?_
          refine lv_iadd hx hb dL_law_185 ?_
          refine lv_topi (fun z_222 ez_222 => ?_)
          have hh : z_213 = z_222 := ez_213.trans ez_222.symm
          subst hh
          refine va_sld hx hb hX hbl hbA hS hz_213 dL_law_186 ?_
          refine lv_topi (fun v_223 ev_223 => ?_)
          have hh : v_214 = v_223 := ev_214.trans ev_223.symm
          subst hh
          refine lv_i2l (v := v_214.toInt64) hx hb dL_law_187 rfl ?_
          refine lv_bipush (v := 32) hx hb dL_law_188 (by decide) ?_
          refine lv_lshl (v := v_214.toInt64 <<< ((32 : Int32).toInt64 &&& 63)) hx hb dL_law_190 rfl ?_
          refine lv_aload_n hx hb dL_law_191 rfl (lv_at hl 0 rfl) ?_
          refine lv_iload_n hx hb dL_law_192 rfl (lv_at hl 3 rfl) ?_
          refine lv_iconst (v := 3) hx hb dL_law_193 (by decide) ?_
          refine lv_iadd hx hb dL_law_194 ?_
          refine lv_topi (fun z_224 ez_224 => ?_)
          have hh : z_215 = z_224 := ez_215.trans ez_224.symm
          subst hh
          refine va_sld hx hb hX hbl hbA hS hz_215 dL_law_195 ?_
          refine lv_topi (fun v_225 ev_225 => ?_)
          have hh : v_216 = v_225 := ev_216.trans ev_225.symm
          subst hh
          refine lv_i2l (v := v_216.toInt64) hx hb dL_law_196 rfl ?_
          refine lv_ldc2 (v := 4294967295) hx hb hown hk13 dL_law_197 ?_
          refine lv_land hx hb dL_law_200 ?_
          refine lv_topl (fun z_226 ez_226 => ?_)
          have hh : z_217 = z_226 := ez_217.trans ez_226.symm
          subst hh
          refine lv_lor hx hb dL_law_201 ?_
          refine lv_topl (fun z_227 ez_227 => ?_)
          have hh : z_218 = z_227 := ez_218.trans ez_227.symm
          subst hh
          have hDx := kx_Dc hD
          have hFm := kx_fr (kx_D1 hDx) hS hA
          refine va_calli (va_runV (As := [.int v_212, .long z_218]) (rest := [.int r_219]) ⟨hx, hb, hml, hown, hts⟩ (r_answer l dC dI g qs qm qa qf qk qt qd cs cm ca cf ck ct cd n kd ok cn rc rs an fl t0 t1 t2 t3 t4 t5 th wy  H.size v_212 z_218) (cwV 2 hts gL_law_X2_answer rfl rfl rfl (by decide +kernel) ⟨Nat.le_of_ble_eq_true rfl, Nat.le_of_ble_eq_true rfl⟩) ⟨rQ_bl, va_recv hKm hPm (ci := 2) (q0 := 0) rfl rfl, fun U hU hW => ⟨rfl, rQ_at hU hW hPm hKm (kx_D1 hDx)⟩⟩ rfl rfl hl.1 rfl (lv_room (Nat.le_of_ble_eq_true rfl)) dL_law_202 ⟨(show cc + 0 + 0 ≤ 812163 by omega), (show ss + 0 + 0 ≤ 6665758 by omega)⟩) hS (fun q _ h9 => hFm q h9) hFm (fun r_228 u2 t8 H2 locs ht2 hvm2 hw2 hB2 hz2 hk2 hS => ?_)
          obtain ⟨u2, th2, wy2⟩ := u2
          obtain ⟨hPm, hDm⟩ := hB2
          rw [ht2] at hPm
          obtain ⟨hP, hDz⟩ := kx_jn hP hDx hk2 hFm hDm
          have hD := kx_Dc hDz
          have e1 : r_219 = r_228 := (Prod.mk.inj (hw.trans hw2.symm)).1
          have e2 : u = u2 := (Prod.mk.inj (hw.trans hw2.symm)).2
          subst e2
          have hi : lInv u (t + 1) := by rw [show u = (mAnswer (n, kd, ok, cn, rc, rs, an, fl, t0, t1, t2, t3, t4, t5) v_212 z_218).2 from congrArg Prod.snd hw]; exact inv_answer hI
          refine lv_icmp_eq (tgt := 483) hx hb dL_law_205 (by decide) (fun c_229 => ?_) (fun c_229 => ?_)
          · obtain ⟨i_230, ei_230⟩ : ∃ y : Int32, y = x3 + 5 := ⟨_, rfl⟩
            refine lv_iinc (v := i_230) (lv' := [(3, .int i_230), (0, .ref b), (1, .ref h), (2, .ref g)]) hx hb dL_law_483 hl (k := 3) rfl (by rw [ei_230]; rfl) (by decide) rfl (fun ls hl => ?_)
            refine lv_goto (tgt := 18) hx hb dL_law_486 (by decide) ?_
            exact ih (t + 1) (by omega) (by omega) i_230 (by rw [ei_230, hx3]; exact nI_add (5 * t) 5) u hi ad th2 wy2 H2 locs _ _ (by omega) (by omega) hP hPm hD hS ls (lv_sub hl [1, 2, 3, 0] rfl)
          · exact absurd e1 c_229
        · by_cases hs_231 : z_188 = 2
          · refine lv_tableIn (off := 178) (tgt := 210) hx hb dL_law_32 (by rw [hs_231]; decide) (by rw [hs_231]; decide) (by rw [hs_231]; rfl) (by decide) ?_
            refine lv_aload_n hx hb dL_law_210 rfl (lv_at hl 1 rfl) ?_
            refine lv_aload_n hx hb dL_law_211 rfl (lv_at hl 0 rfl) ?_
            refine lv_iload_n hx hb dL_law_212 rfl (lv_at hl 3 rfl) ?_
            refine lv_iconst (v := 1) hx hb dL_law_213 (by decide) ?_
            refine lv_iadd hx hb dL_law_214 ?_
            refine lv_topi (fun z_232 ez_232 => ?_)
            have hz_232 : vp_in z_232 L := by rw [ez_232, hx3]; exact lw_in (k := 1) hL (by omega)
            refine va_sld hx hb hX hbl hbA hS hz_232 dL_law_215 ?_
            refine lv_topi (fun v_233 ev_233 => ?_)
            refine lv_aload_n hx hb dL_law_216 rfl (lv_at hl 0 rfl) ?_
            refine lv_iload_n hx hb dL_law_217 rfl (lv_at hl 3 rfl) ?_
            refine lv_iconst (v := 2) hx hb dL_law_218 (by decide) ?_
            refine lv_iadd hx hb dL_law_219 ?_
            refine lv_topi (fun z_234 ez_234 => ?_)
            have hz_234 : vp_in z_234 L := by rw [ez_234, hx3]; exact lw_in (k := 2) hL (by omega)
            refine va_sld hx hb hX hbl hbA hS hz_234 dL_law_220 ?_
            refine lv_topi (fun v_235 ev_235 => ?_)
            have hFc := kx_fr (kx_D1 hD) hS hA
            refine va_calli (va_runV (As := [.int v_233, .int v_235]) (rest := []) ⟨hx, hb, hml, hown, hts⟩ (c_fails l dC dI h qT qC qS qA qF cT cC cS cA cF ad n kd ok cn rc rs an fl t0 t1 t2 t3 t4 t5  H.size v_233 v_235) (cwV 2 hts gL_law_X1_fails rfl rfl rfl (by decide +kernel) ⟨Nat.le_of_ble_eq_true rfl, Nat.le_of_ble_eq_true rfl⟩) ⟨dQ_bl, va_recv hK hP (ci := 1) (q0 := 0) rfl rfl, fun U hU hW => ⟨rfl, dQ_at hU hW hP hK (kx_D1 hD) hN⟩⟩ rfl rfl hl.1 rfl (lv_room (Nat.le_of_ble_eq_true rfl)) dL_law_221 ⟨(show cc + 0 ≤ 812163 by omega), (show ss + 0 ≤ 6665758 by omega)⟩) hS (fun q _ h9 => hFc q h9) hFc (fun r_236 u t9 H1 locs ht hvm hw hB hz1 hk1 hS => ?_)
            obtain ⟨hP, hD1⟩ := hB
            rw [ht] at hP
            obtain ⟨hPm, hD⟩ := kx_jn hPm hD hk1 hFc hD1
            have hP : va_P (dC, dI) vwCl (dWm h qT qC qS qA qF cT cC cS cA cF ad u) H1 := hP
            generalize H1 = H at hP hPm hS ⊢
            have hD : va_D A (dWm h qT qC qS qA qF cT cC cS cA cF ad u ++ rW g qs qm qa qf qk qt qd cs cm ca cf ck ct cd n kd ok cn rc rs an fl t0 t1 t2 t3 t4 t5 th wy) := hD
            refine lv_aload_n hx hb dL_law_224 rfl (lv_at hl 2 rfl) ?_
            refine lv_aload_n hx hb dL_law_225 rfl (lv_at hl 0 rfl) ?_
            refine lv_iload_n hx hb dL_law_226 rfl (lv_at hl 3 rfl) ?_
            refine lv_iconst (v := 1) hx hb dL_law_227 (by decide) ?_
            refine lv_iadd hx hb dL_law_228 ?_
            refine lv_topi (fun z_237 ez_237 => ?_)
            have hh : z_232 = z_237 := ez_232.trans ez_237.symm
            subst hh
            refine va_sld hx hb hX hbl hbA hS hz_232 dL_law_229 ?_
            refine lv_topi (fun v_238 ev_238 => ?_)
            have hh : v_233 = v_238 := ev_233.trans ev_238.symm
            subst hh
            refine lv_aload_n hx hb dL_law_230 rfl (lv_at hl 0 rfl) ?_
            refine lv_iload_n hx hb dL_law_231 rfl (lv_at hl 3 rfl) ?_
            refine lv_iconst (v := 2) hx hb dL_law_232 (by decide) ?_
            refine lv_iadd hx hb dL_law_233 ?_
            refine lv_topi (fun z_239 ez_239 => ?_)
            have hh : z_234 = z_239 := ez_234.trans ez_239.symm
            subst hh
            refine va_sld hx hb hX hbl hbA hS hz_234 dL_law_234 ?_
            refine lv_topi (fun v_240 ev_240 => ?_)
            have hh : v_235 = v_240 := ev_235.trans ev_240.symm
            subst hh
            have hDx := kx_Dc hD
            have hFm := kx_fr (kx_D1 hDx) hS hA
            refine va_calli (va_runV (As := [.int v_233, .int v_235]) (rest := [.int r_236]) ⟨hx, hb, hml, hown, hts⟩ (r_fails l dC dI g qs qm qa qf qk qt qd cs cm ca cf ck ct cd n kd ok cn rc rs an fl t0 t1 t2 t3 t4 t5 th wy  H.size v_233 v_235) (cwV 2 hts gL_law_X2_fails rfl rfl rfl (by decide +kernel) ⟨Nat.le_of_ble_eq_true rfl, Nat.le_of_ble_eq_true rfl⟩) ⟨rQ_bl, va_recv hKm hPm (ci := 2) (q0 := 0) rfl rfl, fun U hU hW => ⟨rfl, rQ_at hU hW hPm hKm (kx_D1 hDx)⟩⟩ rfl rfl hl.1 rfl (lv_room (Nat.le_of_ble_eq_true rfl)) dL_law_235 ⟨(show cc + 0 + 0 ≤ 812163 by omega), (show ss + 0 + 0 ≤ 6665758 by omega)⟩) hS (fun q _ h9 => hFm q h9) hFm (fun r_241 u2 t8 H2 locs ht2 hvm2 hw2 hB2 hz2 hk2 hS => ?_)
            obtain ⟨u2, th2, wy2⟩ := u2
            obtain ⟨hPm, hDm⟩ := hB2
            rw [ht2] at hPm
            obtain ⟨hP, hDz⟩ := kx_jn hP hDx hk2 hFm hDm
            have hD := kx_Dc hDz
            have e1 : r_236 = r_241 := (Prod.mk.inj (hw.trans hw2.symm)).1
            have e2 : u = u2 := (Prod.mk.inj (hw.trans hw2.symm)).2
            subst e2
            have hi : lInv u (t + 1) := by rw [show u = (mFails (n, kd, ok, cn, rc, rs, an, fl, t0, t1, t2, t3, t4, t5) v_233 v_235).2 from congrArg Prod.snd hw]; exact inv_fails hI
            refine lv_icmp_eq (tgt := 483) hx hb dL_law_238 (by decide) (fun c_242 => ?_) (fun c_242 => ?_)
            · obtain ⟨i_243, ei_243⟩ : ∃ y : Int32, y = x3 + 5 := ⟨_, rfl⟩
              refine lv_iinc (v := i_243) (lv' := [(3, .int i_243), (0, .ref b), (1, .ref h), (2, .ref g)]) hx hb dL_law_483 hl (k := 3) rfl (by rw [ei_243]; rfl) (by decide) rfl (fun ls hl => ?_)
              refine lv_goto (tgt := 18) hx hb dL_law_486 (by decide) ?_
              exact ih (t + 1) (by omega) (by omega) i_243 (by rw [ei_243, hx3]; exact nI_add (5 * t) 5) u hi ad th2 wy2 H2 locs _ _ (by omega) (by omega) hP hPm hD hS ls (lv_sub hl [1, 2, 3, 0] rfl)
            · exact absurd e1 c_242
          · by_cases hs_244 : z_188 = 3
            · refine lv_tableIn (off := 211) (tgt := 243) hx hb dL_law_32 (by rw [hs_244]; decide) (by rw [hs_244]; decide) (by rw [hs_244]; rfl) (by decide) ?_
              refine lv_aload_n hx hb dL_law_243 rfl (lv_at hl 1 rfl) ?_
              refine lv_aload_n hx hb dL_law_244 rfl (lv_at hl 0 rfl) ?_
              refine lv_iload_n hx hb dL_law_245 rfl (lv_at hl 3 rfl) ?_
              refine lv_iconst (v := 1) hx hb dL_law_246 (by decide) ?_
              refine lv_iadd hx hb dL_law_247 ?_
              refine lv_topi (fun z_245 ez_245 => ?_)
              have hz_245 : vp_in z_245 L := by rw [ez_245, hx3]; exact lw_in (k := 1) hL (by omega)
              refine va_sld hx hb hX hbl hbA hS hz_245 dL_law_248 ?_
              refine lv_topi (fun v_246 ev_246 => ?_)
              have hFc := kx_fr (kx_D1 hD) hS hA
              refine va_calli (va_runV (As := [.int v_246]) (rest := []) ⟨hx, hb, hml, hown, hts⟩ (c_make l dC dI h qT qC qS qA qF cT cC cS cA cF ad n kd ok cn rc rs an fl t0 t1 t2 t3 t4 t5 hI.1 H.size v_246) (cwV 1 hts gL_law_X1_make rfl rfl rfl (by decide +kernel) ⟨Nat.le_of_ble_eq_true rfl, Nat.le_of_ble_eq_true rfl⟩) ⟨dQ_bl, va_recv hK hP (ci := 1) (q0 := 0) rfl rfl, fun U hU hW => ⟨rfl, dQ_at hU hW hP hK (kx_D1 hD) hN⟩⟩ rfl rfl hl.1 rfl (lv_room (Nat.le_of_ble_eq_true rfl)) dL_law_249 ⟨(show cc + 1 ≤ 812163 by omega), (show ss + 3 ≤ 6665758 by omega)⟩) hS (fun q _ h9 => hFc q h9) hFc (fun r_247 u t9 H1 locs ht hvm hw hB hz1 hk1 hS => ?_)
              obtain ⟨u, ad1⟩ := u
              obtain ⟨hP, hD1⟩ := hB
              rw [ht] at hP
              obtain ⟨hPm, hD⟩ := kx_jn hPm hD hk1 hFc hD1
              have hP : va_P (dC, dI) vwCl (dWm h qT qC qS qA qF cT cC cS cA cF ad1 u) H1 := hP
              generalize H1 = H at hP hPm hS ⊢
              have hD : va_D A (dWm h qT qC qS qA qF cT cC cS cA cF ad1 u ++ rW g qs qm qa qf qk qt qd cs cm ca cf ck ct cd n kd ok cn rc rs an fl t0 t1 t2 t3 t4 t5 th wy) := hD
              refine lv_aload_n hx hb dL_law_252 rfl (lv_at hl 2 rfl) ?_
              refine lv_aload_n hx hb dL_law_253 rfl (lv_at hl 0 rfl) ?_
              refine lv_iload_n hx hb dL_law_254 rfl (lv_at hl 3 rfl) ?_
              refine lv_iconst (v := 1) hx hb dL_law_255 (by decide) ?_
              refine lv_iadd hx hb dL_law_256 ?_
              refine lv_topi (fun z_248 ez_248 => ?_)
              have hh : z_245 = z_248 := ez_245.trans ez_248.symm
              subst hh
              refine va_sld hx hb hX hbl hbA hS hz_245 dL_law_257 ?_
              refine lv_topi (fun v_249 ev_249 => ?_)
              have hh : v_246 = v_249 := ev_246.trans ev_249.symm
              subst hh
              have hDx := kx_Dc hD
              have hFm := kx_fr (kx_D1 hDx) hS hA
              refine va_calli (va_runV (As := [.int v_246]) (rest := [.int r_247]) ⟨hx, hb, hml, hown, hts⟩ (r_make l dC dI g qs qm qa qf qk qt qd cs cm ca cf ck ct cd n kd ok cn rc rs an fl t0 t1 t2 t3 t4 t5 th wy hI.1 H.size v_246) (cwV 1 hts gL_law_X2_make rfl rfl rfl (by decide +kernel) ⟨Nat.le_of_ble_eq_true rfl, Nat.le_of_ble_eq_true rfl⟩) ⟨rQ_bl, va_recv hKm hPm (ci := 2) (q0 := 0) rfl rfl, fun U hU hW => ⟨rfl, rQ_at hU hW hPm hKm (kx_D1 hDx)⟩⟩ rfl rfl hl.1 rfl (lv_room (Nat.le_of_ble_eq_true rfl)) dL_law_258 ⟨(show cc + 1 + 0 ≤ 812163 by omega), (show ss + 3 + 0 ≤ 6665758 by omega)⟩) hS (fun q _ h9 => hFm q h9) hFm (fun r_250 u2 t8 H2 locs ht2 hvm2 hw2 hB2 hz2 hk2 hS => ?_)
              obtain ⟨u2, th2, wy2⟩ := u2
              obtain ⟨hPm, hDm⟩ := hB2
              rw [ht2] at hPm
              obtain ⟨hP, hDz⟩ := kx_jn hP hDx hk2 hFm hDm
              have hD := kx_Dc hDz
              have e1 : r_247 = r_250 := (Prod.mk.inj (hw.trans hw2.symm)).1
              have e2 : u = u2 := (Prod.mk.inj (hw.trans hw2.symm)).2
              subst e2
              have hi : lInv u (t + 1) := by rw [show u = (mMake (n, kd, ok, cn, rc, rs, an, fl, t0, t1, t2, t3, t4, t5) v_246).2 from congrArg Prod.snd hw]; exact inv_make hI
              refine lv_icmp_eq (tgt := 483) hx hb dL_law_261 (by decide) (fun c_251 => ?_) (fun c_251 => ?_)
              · obtain ⟨i_252, ei_252⟩ : ∃ y : Int32, y = x3 + 5 := ⟨_, rfl⟩
                refine lv_iinc (v := i_252) (lv' := [(3, .int i_252), (0, .ref b), (1, .ref h), (2, .ref g)]) hx hb dL_law_483 hl (k := 3) rfl (by rw [ei_252]; rfl) (by decide) rfl (fun ls hl => ?_)
                refine lv_goto (tgt := 18) hx hb dL_law_486 (by decide) ?_
                exact ih (t + 1) (by omega) (by omega) i_252 (by rw [ei_252, hx3]; exact nI_add (5 * t) 5) u hi ad1 th2 wy2 H2 locs _ _ (by omega) (by omega) hP hPm hD hS ls (lv_sub hl [1, 2, 3, 0] rfl)
              · exact absurd e1 c_251
            · by_cases hs_253 : z_188 = 4
              · refine lv_tableIn (off := 234) (tgt := 266) hx hb dL_law_32 (by rw [hs_253]; decide) (by rw [hs_253]; decide) (by rw [hs_253]; rfl) (by decide) ?_
                refine lv_aload_n hx hb dL_law_266 rfl (lv_at hl 1 rfl) ?_
                refine lv_aload_n hx hb dL_law_267 rfl (lv_at hl 0 rfl) ?_
                refine lv_iload_n hx hb dL_law_268 rfl (lv_at hl 3 rfl) ?_
                refine lv_iconst (v := 1) hx hb dL_law_269 (by decide) ?_
                refine lv_iadd hx hb dL_law_270 ?_
                refine lv_topi (fun z_254 ez_254 => ?_)
                have hz_254 : vp_in z_254 L := by rw [ez_254, hx3]; exact lw_in (k := 1) hL (by omega)
                refine va_sld hx hb hX hbl hbA hS hz_254 dL_law_271 ?_
                refine lv_topi (fun v_255 ev_255 => ?_)
                refine lv_aload_n hx hb dL_law_272 rfl (lv_at hl 0 rfl) ?_
                refine lv_iload_n hx hb dL_law_273 rfl (lv_at hl 3 rfl) ?_
                refine lv_iconst (v := 2) hx hb dL_law_274 (by decide) ?_
                refine lv_iadd hx hb dL_law_275 ?_
                refine lv_topi (fun z_256 ez_256 => ?_)
                have hz_256 : vp_in z_256 L := by rw [ez_256, hx3]; exact lw_in (k := 2) hL (by omega)
                refine va_sld hx hb hX hbl hbA hS hz_256 dL_law_276 ?_
                refine lv_topi (fun v_257 ev_257 => ?_)
                refine lv_aload_n hx hb dL_law_277 rfl (lv_at hl 0 rfl) ?_
                refine lv_iload_n hx hb dL_law_278 rfl (lv_at hl 3 rfl) ?_
                refine lv_iconst (v := 3) hx hb dL_law_279 (by decide) ?_
                refine lv_iadd hx hb dL_law_280 ?_
                refine lv_topi (fun z_258 ez_258 => ?_)
                have hz_258 : vp_in z_258 L := by rw [ez_258, hx3]; exact lw_in (k := 3) hL (by omega)
                refine va_sld hx hb hX hbl hbA hS hz_258 dL_law_281 ?_
                refine lv_topi (fun v_259 ev_259 => ?_)
                refine lv_i2l (v := v_259.toInt64) hx hb dL_law_282 rfl ?_
                refine lv_bipush (v := 32) hx hb dL_law_283 (by decide) ?_
                refine lv_lshl (v := v_259.toInt64 <<< ((32 : Int32).toInt64 &&& 63)) hx hb dL_law_285 rfl ?_
                refine lv_aload_n hx hb dL_law_286 rfl (lv_at hl 0 rfl) ?_
                refine lv_iload_n hx hb dL_law_287 rfl (lv_at hl 3 rfl) ?_
                refine lv_iconst (v := 4) hx hb dL_law_288 (by decide) ?_
                refine lv_iadd hx hb dL_law_289 ?_
                refine lv_topi (fun z_260 ez_260 => ?_)
                have hz_260 : vp_in z_260 L := by rw [ez_260, hx3]; exact lw_in (k := 4) hL (by omega)
                refine va_sld hx hb hX hbl hbA hS hz_260 dL_law_290 ?_
                refine lv_topi (fun v_261 ev_261 => ?_)
                refine lv_i2l (v := v_261.toInt64) hx hb dL_law_291 rfl ?_
                refine lv_ldc2 (v := 4294967295) hx hb hown hk13 dL_law_292 ?_
                refine lv_land hx hb dL_law_295 ?_
                refine lv_topl (fun z_262 ez_262 => ?_)
                refine lv_lor hx hb dL_law_296 ?_
                refine lv_topl (fun z_263 ez_263 => ?_)
                have hFc := kx_fr (kx_D1 hD) hS hA
                refine va_calll (va_runV (As := [.int v_255, .int v_257, .long z_263]) (rest := []) ⟨hx, hb, hml, hown, hts⟩ (c_call l dC dI h qT qC qS qA qF cT cC cS cA cF ad n kd ok cn rc rs an fl t0 t1 t2 t3 t4 t5 hI.1 H.size v_255 v_257 z_263) (cwV 3 hts gL_law_X1_call rfl rfl rfl (by decide +kernel) ⟨Nat.le_of_ble_eq_true rfl, Nat.le_of_ble_eq_true rfl⟩) ⟨dQ_bl, va_recv hK hP (ci := 1) (q0 := 0) rfl rfl, fun U hU hW => ⟨rfl, dQ_at hU hW hP hK (kx_D1 hD) hN⟩⟩ rfl rfl hl.1 rfl (lv_room (Nat.le_of_ble_eq_true rfl)) dL_law_297 ⟨(show cc + 0 ≤ 812163 by omega), (show ss + 0 ≤ 6665758 by omega)⟩) hS (fun q _ h9 => hFc q h9) hFc (fun r_264 u t9 H1 locs ht hvm hw hB hz1 hk1 hS => ?_)
                obtain ⟨hP, hD1⟩ := hB
                rw [ht] at hP
                obtain ⟨hPm, hD⟩ := kx_jn hPm hD hk1 hFc hD1
                have hP : va_P (dC, dI) vwCl (dWm h qT qC qS qA qF cT cC cS cA cF ad u) H1 := hP
                generalize H1 = H at hP hPm hS ⊢
                have hD : va_D A (dWm h qT qC qS qA qF cT cC cS cA cF ad u ++ rW g qs qm qa qf qk qt qd cs cm ca cf ck ct cd n kd ok cn rc rs an fl t0 t1 t2 t3 t4 t5 th wy) := hD
                refine lv_aload_n hx hb dL_law_300 rfl (lv_at hl 2 rfl) ?_
                refine lv_aload_n hx hb dL_law_301 rfl (lv_at hl 0 rfl) ?_
                refine lv_iload_n hx hb dL_law_302 rfl (lv_at hl 3 rfl) ?_
                refine lv_iconst (v := 1) hx hb dL_law_303 (by decide) ?_
                refine lv_iadd hx hb dL_law_304 ?_
                refine lv_topi (fun z_265 ez_265 => ?_)
                have hh : z_254 = z_265 := ez_254.trans ez_265.symm
                subst hh
                refine va_sld hx hb hX hbl hbA hS hz_254 dL_law_305 ?_
                refine lv_topi (fun v_266 ev_266 => ?_)
                have hh : v_255 = v_266 := ev_255.trans ev_266.symm
                subst hh
                refine lv_aload_n hx hb dL_law_306 rfl (lv_at hl 0 rfl) ?_
                refine lv_iload_n hx hb dL_law_307 rfl (lv_at hl 3 rfl) ?_
                refine lv_iconst (v := 2) hx hb dL_law_308 (by decide) ?_
                refine lv_iadd hx hb dL_law_309 ?_
                refine lv_topi (fun z_267 ez_267 => ?_)
                have hh : z_256 = z_267 := ez_256.trans ez_267.symm
                subst hh
                refine va_sld hx hb hX hbl hbA hS hz_256 dL_law_310 ?_
                refine lv_topi (fun v_268 ev_268 => ?_)
                have hh : v_257 = v_268 := ev_257.trans ev_268.symm
                subst hh
                refine lv_aload_n hx hb dL_law_311 rfl (lv_at hl 0 rfl) ?_
                refine lv_iload_n hx hb dL_law_312 rfl (lv_at hl 3 rfl) ?_
                refine lv_iconst (v := 3) hx hb dL_law_313 (by decide) ?_
                refine lv_iadd hx hb dL_law_314 ?_
                refine lv_topi (fun z_269 ez_269 => ?_)
                have hh : z_258 = z_269 := ez_258.trans ez_269.symm
                subst hh
                refine va_sld hx hb hX hbl hbA hS hz_258 dL_law_315 ?_
                refine lv_topi (fun v_270 ev_270 => ?_)
                have hh : v_259 = v_270 := ev_259.trans ev_270.symm
                subst hh
                refine lv_i2l (v := v_259.toInt64) hx hb dL_law_316 rfl ?_
                refine lv_bipush (v := 32) hx hb dL_law_317 (by decide) ?_
                refine lv_lshl (v := v_259.toInt64 <<< ((32 : Int32).toInt64 &&& 63)) hx hb dL_law_319 rfl ?_
                refine lv_aload_n hx hb dL_law_320 rfl (lv_at hl 0 rfl) ?_
                refine lv_iload_n hx hb dL_law_321 rfl (lv_at hl 3 rfl) ?_
                refine lv_iconst (v := 4) hx hb dL_law_322 (by decide) ?_
                refine lv_iadd hx hb dL_law_323 ?_
                refine lv_topi (fun z_271 ez_271 => ?_)
                have hh : z_260 = z_271 := ez_260.trans ez_271.symm
                subst hh
                refine va_sld hx hb hX hbl hbA hS hz_260 dL_law_324 ?_
                refine lv_topi (fun v_272 ev_272 => ?_)
                have hh : v_261 = v_272 := ev_261.trans ev_272.symm
                subst hh
                refine lv_i2l (v := v_261.toInt64) hx hb dL_law_325 rfl ?_
                refine lv_ldc2 (v := 4294967295) hx hb hown hk13 dL_law_326 ?_
                refine lv_land hx hb dL_law_329 ?_
                refine lv_topl (fun z_273 ez_273 => ?_)
                have hh : z_262 = z_273 := ez_262.trans ez_273.symm
                subst hh
                refine lv_lor hx hb dL_law_330 ?_
                refine lv_topl (fun z_274 ez_274 => ?_)
                have hh : z_263 = z_274 := ez_263.trans ez_274.symm
                subst hh
                have hDx := kx_Dc hD
                have hFm := kx_fr (kx_D1 hDx) hS hA
                refine va_calll (va_runV (As := [.int v_255, .int v_257, .long z_263]) (rest := [.long r_264]) ⟨hx, hb, hml, hown, hts⟩ (r_call l dC dI g qs qm qa qf qk qt qd cs cm ca cf ck ct cd n kd ok cn rc rs an fl t0 t1 t2 t3 t4 t5 th wy hI.1 (inv_cn (by omega) hI.2.2) H.size v_255 v_257 z_263) (cwV 3 hts gL_law_X2_call rfl rfl rfl (by decide +kernel) ⟨Nat.le_of_ble_eq_true rfl, Nat.le_of_ble_eq_true rfl⟩) ⟨rQ_bl, va_recv hKm hPm (ci := 2) (q0 := 0) rfl rfl, fun U hU hW => ⟨rfl, rQ_at hU hW hPm hKm (kx_D1 hDx)⟩⟩ rfl rfl hl.1 rfl (lv_room (Nat.le_of_ble_eq_true rfl)) dL_law_331 ⟨(show cc + 0 + 0 ≤ 812163 by omega), (show ss + 0 + 0 ≤ 6665758 by omega)⟩) hS (fun q _ h9 => hFm q h9) hFm (fun r_275 u2 t8 H2 locs ht2 hvm2 hw2 hB2 hz2 hk2 hS => ?_)
                obtain ⟨u2, th2, wy2⟩ := u2
                obtain ⟨hPm, hDm⟩ := hB2
                rw [ht2] at hPm
                obtain ⟨hP, hDz⟩ := kx_jn hP hDx hk2 hFm hDm
                have hD := kx_Dc hDz
                have e1 : r_264 = r_275 := (Prod.mk.inj (hw.trans hw2.symm)).1
                have e2 : u = u2 := (Prod.mk.inj (hw.trans hw2.symm)).2
                subst e2
                have hi : lInv u (t + 1) := by rw [show u = (mCall (n, kd, ok, cn, rc, rs, an, fl, t0, t1, t2, t3, t4, t5) v_255 v_257 z_263).2 from congrArg Prod.snd hw]; exact inv_call hI
                refine W.lcmp hx hb dL_law_334 ?_
                refine lv_if_eq (tgt := 483) hx hb dL_law_335 (by decide) (fun c_276 => ?_) (fun c_276 => ?_)
                · obtain ⟨i_277, ei_277⟩ : ∃ y : Int32, y = x3 + 5 := ⟨_, rfl⟩
                  refine lv_iinc (v := i_277) (lv' := [(3, .int i_277), (0, .ref b), (1, .ref h), (2, .ref g)]) hx hb dL_law_483 hl (k := 3) rfl (by rw [ei_277]; rfl) (by decide) rfl (fun ls hl => ?_)
                  refine lv_goto (tgt := 18) hx hb dL_law_486 (by decide) ?_
                  exact ih (t + 1) (by omega) (by omega) i_277 (by rw [ei_277, hx3]; exact nI_add (5 * t) 5) u hi ad th2 wy2 H2 locs _ _ (by omega) (by omega) hP hPm hD hS ls (lv_sub hl [1, 2, 3, 0] rfl)
                · exact absurd ((lg_cmp_eq _ _).mpr e1) c_276
              · by_cases hs_278 : z_188 = 5
                · refine lv_tableIn (off := 308) (tgt := 340) hx hb dL_law_32 (by rw [hs_278]; decide) (by rw [hs_278]; decide) (by rw [hs_278]; rfl) (by decide) ?_
                  refine lv_aload_n hx hb dL_law_340 rfl (lv_at hl 1 rfl) ?_
                  refine lv_aload_n hx hb dL_law_341 rfl (lv_at hl 0 rfl) ?_
                  refine lv_iload_n hx hb dL_law_342 rfl (lv_at hl 3 rfl) ?_
                  refine lv_iconst (v := 1) hx hb dL_law_343 (by decide) ?_
                  refine lv_iadd hx hb dL_law_344 ?_
                  refine lv_topi (fun z_279 ez_279 => ?_)
                  have hz_279 : vp_in z_279 L := by rw [ez_279, hx3]; exact lw_in (k := 1) hL (by omega)
                  refine va_sld hx hb hX hbl hbA hS hz_279 dL_law_345 ?_
                  refine lv_topi (fun v_280 ev_280 => ?_)
                  refine vp_callSi (W.runV (As := [.int v_280]) (rest := []) ⟨hx, hb, hml, hown, hts⟩ (c_told l dC dI h qT qC qS qA qF cT cC cS cA cF ad n kd ok cn rc rs an fl t0 t1 t2 t3 t4 t5  v_280) (cwV 1 hts gL_law_X1_told rfl rfl rfl (by decide +kernel) ⟨Nat.le_of_ble_eq_true rfl, Nat.le_of_ble_eq_true rfl⟩) ⟨dP_bl, va_recv hK hP (ci := 1) (q0 := 0) rfl rfl, fun U hU hW => ⟨rfl, dP_at hU hW hP hK hN⟩⟩ rfl rfl hl.1 rfl (lv_room (Nat.le_of_ble_eq_true rfl)) dL_law_346 ⟨(show cc + 0 ≤ 812163 by omega), (show ss + 0 ≤ 6665758 by omega)⟩) (fun r_281 hw => ?_)
                  refine lv_aload_n hx hb dL_law_349 rfl (lv_at hl 2 rfl) ?_
                  refine lv_aload_n hx hb dL_law_350 rfl (lv_at hl 0 rfl) ?_
                  refine lv_iload_n hx hb dL_law_351 rfl (lv_at hl 3 rfl) ?_
                  refine lv_iconst (v := 1) hx hb dL_law_352 (by decide) ?_
                  refine lv_iadd hx hb dL_law_353 ?_
                  refine lv_topi (fun z_282 ez_282 => ?_)
                  have hh : z_279 = z_282 := ez_279.trans ez_282.symm
                  subst hh
                  refine va_sld hx hb hX hbl hbA hS hz_279 dL_law_354 ?_
                  refine lv_topi (fun v_283 ev_283 => ?_)
                  have hh : v_280 = v_283 := ev_280.trans ev_283.symm
                  subst hh
                  have hDx := kx_Dc hD
                  have hFm := kx_fr (kx_D1 hDx) hS hA
                  refine va_calli (va_runV (As := [.int v_280]) (rest := [.int r_281]) ⟨hx, hb, hml, hown, hts⟩ (r_told l dC dI g qs qm qa qf qk qt qd cs cm ca cf ck ct cd n kd ok cn rc rs an fl t0 t1 t2 t3 t4 t5 th wy  H.size v_280) (cwV 1 hts gL_law_X2_told rfl rfl rfl (by decide +kernel) ⟨Nat.le_of_ble_eq_true rfl, Nat.le_of_ble_eq_true rfl⟩) ⟨rQ_bl, va_recv hKm hPm (ci := 2) (q0 := 0) rfl rfl, fun U hU hW => ⟨rfl, rQ_at hU hW hPm hKm (kx_D1 hDx)⟩⟩ rfl rfl hl.1 rfl (lv_room (Nat.le_of_ble_eq_true rfl)) dL_law_355 ⟨(show cc + 0 ≤ 812163 by omega), (show ss + 0 ≤ 6665758 by omega)⟩) hS (fun q _ h9 => hFm q h9) hFm (fun r_284 u2 t8 H2 locs ht2 hvm2 hw2 hB2 hz2 hk2 hS => ?_)
                  obtain ⟨u2, th2, wy2⟩ := u2
                  obtain ⟨hPm, hDm⟩ := hB2
                  rw [ht2] at hPm
                  obtain ⟨hP, hDz⟩ := kx_jn hP hDx hk2 hFm hDm
                  have hD := kx_Dc hDz
                  have e1 : r_281 = r_284 := hw.trans hw2.1.symm
                  have e2 : (n, kd, ok, cn, rc, rs, an, fl, t0, t1, t2, t3, t4, t5) = u2 := hw2.2.symm
                  subst e2
                  have hi : lInv (n, kd, ok, cn, rc, rs, an, fl, t0, t1, t2, t3, t4, t5) (t + 1) := lInv_up hI
                  refine lv_icmp_eq (tgt := 483) hx hb dL_law_358 (by decide) (fun c_285 => ?_) (fun c_285 => ?_)
                  · obtain ⟨i_286, ei_286⟩ : ∃ y : Int32, y = x3 + 5 := ⟨_, rfl⟩
                    refine lv_iinc (v := i_286) (lv' := [(3, .int i_286), (0, .ref b), (1, .ref h), (2, .ref g)]) hx hb dL_law_483 hl (k := 3) rfl (by rw [ei_286]; rfl) (by decide) rfl (fun ls hl => ?_)
                    refine lv_goto (tgt := 18) hx hb dL_law_486 (by decide) ?_
                    exact ih (t + 1) (by omega) (by omega) i_286 (by rw [ei_286, hx3]; exact nI_add (5 * t) 5) (n, kd, ok, cn, rc, rs, an, fl, t0, t1, t2, t3, t4, t5) hi ad th2 wy2 H2 locs _ _ (by omega) (by omega) hP hPm hD hS ls (lv_sub hl [1, 2, 3, 0] rfl)
                  · exact absurd e1 c_285
                · by_cases hs_287 : z_188 = 6
                  · refine lv_tableIn (off := 331) (tgt := 363) hx hb dL_law_32 (by rw [hs_287]; decide) (by rw [hs_287]; decide) (by rw [hs_287]; rfl) (by decide) ?_
                    refine lv_aload_n hx hb dL_law_363 rfl (lv_at hl 1 rfl) ?_
                    refine lv_aload_n hx hb dL_law_364 rfl (lv_at hl 0 rfl) ?_
                    refine lv_iload_n hx hb dL_law_365 rfl (lv_at hl 3 rfl) ?_
                    refine lv_iconst (v := 1) hx hb dL_law_366 (by decide) ?_
                    refine lv_iadd hx hb dL_law_367 ?_
                    refine lv_topi (fun z_288 ez_288 => ?_)
                    have hz_288 : vp_in z_288 L := by rw [ez_288, hx3]; exact lw_in (k := 1) hL (by omega)
                    refine va_sld hx hb hX hbl hbA hS hz_288 dL_law_368 ?_
                    refine lv_topi (fun v_289 ev_289 => ?_)
                    have hFc := kx_fr (kx_D1 hD) hS hA
                    refine va_calli (va_runV (As := [.int v_289]) (rest := []) ⟨hx, hb, hml, hown, hts⟩ (c_drop l dC dI h qT qC qS qA qF cT cC cS cA cF ad n kd ok cn rc rs an fl t0 t1 t2 t3 t4 t5 hI.1 H.size v_289) (cwV 1 hts gL_law_X1_drop rfl rfl rfl (by decide +kernel) ⟨Nat.le_of_ble_eq_true rfl, Nat.le_of_ble_eq_true rfl⟩) ⟨dQ_bl, va_recv hK hP (ci := 1) (q0 := 0) rfl rfl, fun U hU hW => ⟨rfl, dQ_at hU hW hP hK (kx_D1 hD) hN⟩⟩ rfl rfl hl.1 rfl (lv_room (Nat.le_of_ble_eq_true rfl)) dL_law_369 ⟨(show cc + 0 ≤ 812163 by omega), (show ss + 0 ≤ 6665758 by omega)⟩) hS (fun q _ h9 => hFc q h9) hFc (fun r_290 u t9 H1 locs ht hvm hw hB hz1 hk1 hS => ?_)
                    obtain ⟨hP, hD1⟩ := hB
                    rw [ht] at hP
                    obtain ⟨hPm, hD⟩ := kx_jn hPm hD hk1 hFc hD1
                    have hP : va_P (dC, dI) vwCl (dWm h qT qC qS qA qF cT cC cS cA cF ad u) H1 := hP
                    generalize H1 = H at hP hPm hS ⊢
                    have hD : va_D A (dWm h qT qC qS qA qF cT cC cS cA cF ad u ++ rW g qs qm qa qf qk qt qd cs cm ca cf ck ct cd n kd ok cn rc rs an fl t0 t1 t2 t3 t4 t5 th wy) := hD
                    refine lv_aload_n hx hb dL_law_372 rfl (lv_at hl 2 rfl) ?_
                    refine lv_aload_n hx hb dL_law_373 rfl (lv_at hl 0 rfl) ?_
                    refine lv_iload_n hx hb dL_law_374 rfl (lv_at hl 3 rfl) ?_
                    refine lv_iconst (v := 1) hx hb dL_law_375 (by decide) ?_
                    refine lv_iadd hx hb dL_law_376 ?_
                    refine lv_topi (fun z_291 ez_291 => ?_)
                    have hh : z_288 = z_291 := ez_288.trans ez_291.symm
                    subst hh
                    refine va_sld hx hb hX hbl hbA hS hz_288 dL_law_377 ?_
                    refine lv_topi (fun v_292 ev_292 => ?_)
                    have hh : v_289 = v_292 := ev_289.trans ev_292.symm
                    subst hh
                    have hDx := kx_Dc hD
                    have hFm := kx_fr (kx_D1 hDx) hS hA
                    refine va_calli (va_runV (As := [.int v_289]) (rest := [.int r_290]) ⟨hx, hb, hml, hown, hts⟩ (r_drop l dC dI g qs qm qa qf qk qt qd cs cm ca cf ck ct cd n kd ok cn rc rs an fl t0 t1 t2 t3 t4 t5 th wy hI.1 H.size v_289) (cwV 1 hts gL_law_X2_drop rfl rfl rfl (by decide +kernel) ⟨Nat.le_of_ble_eq_true rfl, Nat.le_of_ble_eq_true rfl⟩) ⟨rQ_bl, va_recv hKm hPm (ci := 2) (q0 := 0) rfl rfl, fun U hU hW => ⟨rfl, rQ_at hU hW hPm hKm (kx_D1 hDx)⟩⟩ rfl rfl hl.1 rfl (lv_room (Nat.le_of_ble_eq_true rfl)) dL_law_378 ⟨(show cc + 0 + 0 ≤ 812163 by omega), (show ss + 0 + 0 ≤ 6665758 by omega)⟩) hS (fun q _ h9 => hFm q h9) hFm (fun r_293 u2 t8 H2 locs ht2 hvm2 hw2 hB2 hz2 hk2 hS => ?_)
                    obtain ⟨u2, th2, wy2⟩ := u2
                    obtain ⟨hPm, hDm⟩ := hB2
                    rw [ht2] at hPm
                    obtain ⟨hP, hDz⟩ := kx_jn hP hDx hk2 hFm hDm
                    have hD := kx_Dc hDz
                    have e1 : r_290 = r_293 := (Prod.mk.inj (hw.trans hw2.symm)).1
                    have e2 : u = u2 := (Prod.mk.inj (hw.trans hw2.symm)).2
                    subst e2
                    have hi : lInv u (t + 1) := by rw [show u = (mDrop (n, kd, ok, cn, rc, rs, an, fl, t0, t1, t2, t3, t4, t5) v_289).2 from congrArg Prod.snd hw]; exact inv_drop hI
                    refine lv_icmp_eq (tgt := 483) hx hb dL_law_381 (by decide) (fun c_294 => ?_) (fun c_294 => ?_)
                    · obtain ⟨i_295, ei_295⟩ : ∃ y : Int32, y = x3 + 5 := ⟨_, rfl⟩
                      refine lv_iinc (v := i_295) (lv' := [(3, .int i_295), (0, .ref b), (1, .ref h), (2, .ref g)]) hx hb dL_law_483 hl (k := 3) rfl (by rw [ei_295]; rfl) (by decide) rfl (fun ls hl => ?_)
                      refine lv_goto (tgt := 18) hx hb dL_law_486 (by decide) ?_
                      exact ih (t + 1) (by omega) (by omega) i_295 (by rw [ei_295, hx3]; exact nI_add (5 * t) 5) u hi ad th2 wy2 H2 locs _ _ (by omega) (by omega) hP hPm hD hS ls (lv_sub hl [1, 2, 3, 0] rfl)
                    · exact absurd e1 c_294
                  · by_cases hs_296 : z_188 = 7
                    · refine lv_tableIn (off := 354) (tgt := 386) hx hb dL_law_32 (by rw [hs_296]; decide) (by rw [hs_296]; decide) (by rw [hs_296]; rfl) (by decide) ?_
                      refine lv_aload_n hx hb dL_law_386 rfl (lv_at hl 1 rfl) ?_
                      refine lv_aload_n hx hb dL_law_387 rfl (lv_at hl 0 rfl) ?_
                      refine lv_iload_n hx hb dL_law_388 rfl (lv_at hl 3 rfl) ?_
                      refine lv_iconst (v := 1) hx hb dL_law_389 (by decide) ?_
                      refine lv_iadd hx hb dL_law_390 ?_
                      refine lv_topi (fun z_297 ez_297 => ?_)
                      have hz_297 : vp_in z_297 L := by rw [ez_297, hx3]; exact lw_in (k := 1) hL (by omega)
                      refine va_sld hx hb hX hbl hbA hS hz_297 dL_law_391 ?_
                      refine lv_topi (fun v_298 ev_298 => ?_)
                      refine vp_callSi (W.runV (As := [.int v_298]) (rest := []) ⟨hx, hb, hml, hown, hts⟩ (c_numbers l dC dI h qT qC qS qA qF cT cC cS cA cF ad n kd ok cn rc rs an fl t0 t1 t2 t3 t4 t5 hI.1 v_298) (cwV 1 hts gL_law_X1_numbers rfl rfl rfl (by decide +kernel) ⟨Nat.le_of_ble_eq_true rfl, Nat.le_of_ble_eq_true rfl⟩) ⟨dP_bl, va_recv hK hP (ci := 1) (q0 := 0) rfl rfl, fun U hU hW => ⟨rfl, dP_at hU hW hP hK hN⟩⟩ rfl rfl hl.1 rfl (lv_room (Nat.le_of_ble_eq_true rfl)) dL_law_392 ⟨(show cc + 0 ≤ 812163 by omega), (show ss + 0 ≤ 6665758 by omega)⟩) (fun r_299 hw => ?_)
                      refine lv_aload_n hx hb dL_law_395 rfl (lv_at hl 2 rfl) ?_
                      refine lv_aload_n hx hb dL_law_396 rfl (lv_at hl 0 rfl) ?_
                      refine lv_iload_n hx hb dL_law_397 rfl (lv_at hl 3 rfl) ?_
                      refine lv_iconst (v := 1) hx hb dL_law_398 (by decide) ?_
                      refine lv_iadd hx hb dL_law_399 ?_
                      refine lv_topi (fun z_300 ez_300 => ?_)
                      have hh : z_297 = z_300 := ez_297.trans ez_300.symm
                      subst hh
                      refine va_sld hx hb hX hbl hbA hS hz_297 dL_law_400 ?_
                      refine lv_topi (fun v_301 ev_301 => ?_)
                      have hh : v_298 = v_301 := ev_298.trans ev_301.symm
                      subst hh
                      have hDx := kx_Dc hD
                      have hFm := kx_fr (kx_D1 hDx) hS hA
                      refine va_calli (va_runV (As := [.int v_298]) (rest := [.int r_299]) ⟨hx, hb, hml, hown, hts0⟩ (r_numbers l dC dI g qs qm qa qf qk qt qd cs cm ca cf ck ct cd n kd ok cn rc rs an fl t0 t1 t2 t3 t4 t5 th wy hI.1 H.size v_298) (cwV 1 hts0 gL_law_X2_numbers rfl rfl rfl (by decide +kernel) ⟨Nat.le_of_ble_eq_true rfl, Nat.le_of_ble_eq_true rfl⟩) ⟨rQ_bl, va_recv hKm hPm (ci := 2) (q0 := 0) rfl rfl, fun U hU hW => ⟨rfl, rQ_at hU hW hPm hKm (kx_D1 hDx)⟩⟩ rfl rfl hl.1 rfl (lv_room (Nat.le_of_ble_eq_true rfl)) dL_law_401 ⟨(show cc + 0 ≤ 812163 by omega), (show ss + 0 ≤ 6665758 by omega)⟩) hS (fun q _ h9 => hFm q h9) hFm (fun r_302 u2 t8 H2 locs ht2 hvm2 hw2 hB2 hz2 hk2 hS => ?_)
                      obtain ⟨u2, th2, wy2⟩ := u2
                      obtain ⟨hPm, hDm⟩ := hB2
                      rw [ht2] at hPm
                      obtain ⟨hP, hDz⟩ := kx_jn hP hDx hk2 hFm hDm
                      have hD := kx_Dc hDz
                      have e1 : r_299 = r_302 := hw.trans hw2.1.symm
                      have e2 : (n, kd, ok, cn, rc, rs, an, fl, t0, t1, t2, t3, t4, t5) = u2 := hw2.2.symm
                      subst e2
                      have hi : lInv (n, kd, ok, cn, rc, rs, an, fl, t0, t1, t2, t3, t4, t5) (t + 1) := lInv_up hI
                      refine lv_icmp_eq (tgt := 483) hx hb dL_law_404 (by decide) (fun c_303 => ?_) (fun c_303 => ?_)
                      · obtain ⟨i_304, ei_304⟩ : ∃ y : Int32, y = x3 + 5 := ⟨_, rfl⟩
                        refine lv_iinc (v := i_304) (lv' := [(3, .int i_304), (0, .ref b), (1, .ref h), (2, .ref g)]) hx hb dL_law_483 hl (k := 3) rfl (by rw [ei_304]; rfl) (by decide) rfl (fun ls hl => ?_)
                        refine lv_goto (tgt := 18) hx hb dL_law_486 (by decide) ?_
                        exact ih (t + 1) (by omega) (by omega) i_304 (by rw [ei_304, hx3]; exact nI_add (5 * t) 5) (n, kd, ok, cn, rc, rs, an, fl, t0, t1, t2, t3, t4, t5) hi ad th2 wy2 H2 locs _ _ (by omega) (by omega) hP hPm hD hS ls (lv_sub hl [1, 2, 3, 0] rfl)
                      · exact absurd e1 c_303
                    · by_cases hs_305 : z_188 = 8
                      · refine lv_tableIn (off := 377) (tgt := 409) hx hb dL_law_32 (by rw [hs_305]; decide) (by rw [hs_305]; decide) (by rw [hs_305]; rfl) (by decide) ?_
                        refine lv_aload_n hx hb dL_law_409 rfl (lv_at hl 1 rfl) ?_
                        refine lv_aload_n hx hb dL_law_410 rfl (lv_at hl 0 rfl) ?_
                        refine lv_iload_n hx hb dL_law_411 rfl (lv_at hl 3 rfl) ?_
                        refine lv_iconst (v := 1) hx hb dL_law_412 (by decide) ?_
                        refine lv_iadd hx hb dL_law_413 ?_
                        refine lv_topi (fun z_306 ez_306 => ?_)
                        have hz_306 : vp_in z_306 L := by rw [ez_306, hx3]; exact lw_in (k := 1) hL (by omega)
                        refine va_sld hx hb hX hbl hbA hS hz_306 dL_law_414 ?_
                        refine lv_topi (fun v_307 ev_307 => ?_)
                        refine lv_aload_n hx hb dL_law_415 rfl (lv_at hl 0 rfl) ?_
                        refine lv_iload_n hx hb dL_law_416 rfl (lv_at hl 3 rfl) ?_
                        refine lv_iconst (v := 2) hx hb dL_law_417 (by decide) ?_
                        refine lv_iadd hx hb dL_law_418 ?_
                        refine lv_topi (fun z_308 ez_308 => ?_)
                        have hz_308 : vp_in z_308 L := by rw [ez_308, hx3]; exact lw_in (k := 2) hL (by omega)
                        refine va_sld hx hb hX hbl hbA hS hz_308 dL_law_419 ?_
                        refine lv_topi (fun v_309 ev_309 => ?_)
                        refine lv_aload_n hx hb dL_law_420 rfl (lv_at hl 0 rfl) ?_
                        refine lv_iload_n hx hb dL_law_421 rfl (lv_at hl 3 rfl) ?_
                        refine lv_iconst (v := 3) hx hb dL_law_422 (by decide) ?_
                        refine lv_iadd hx hb dL_law_423 ?_
                        refine lv_topi (fun z_310 ez_310 => ?_)
                        have hz_310 : vp_in z_310 L := by rw [ez_310, hx3]; exact lw_in (k := 3) hL (by omega)
                        refine va_sld hx hb hX hbl hbA hS hz_310 dL_law_424 ?_
                        refine lv_topi (fun v_311 ev_311 => ?_)
                        refine lv_i2l (v := v_311.toInt64) hx hb dL_law_425 rfl ?_
                        refine lv_bipush (v := 32) hx hb dL_law_426 (by decide) ?_
                        refine lv_lshl (v := v_311.toInt64 <<< ((32 : Int32).toInt64 &&& 63)) hx hb dL_law_428 rfl ?_
                        refine lv_aload_n hx hb dL_law_429 rfl (lv_at hl 0 rfl) ?_
                        refine lv_iload_n hx hb dL_law_430 rfl (lv_at hl 3 rfl) ?_
                        refine lv_iconst (v := 4) hx hb dL_law_431 (by decide) ?_
                        refine lv_iadd hx hb dL_law_432 ?_
                        refine lv_topi (fun z_312 ez_312 => ?_)
                        have hz_312 : vp_in z_312 L := by rw [ez_312, hx3]; exact lw_in (k := 4) hL (by omega)
                        refine va_sld hx hb hX hbl hbA hS hz_312 dL_law_433 ?_
                        refine lv_topi (fun v_313 ev_313 => ?_)
                        refine lv_i2l (v := v_313.toInt64) hx hb dL_law_434 rfl ?_
                        refine lv_ldc2 (v := 4294967295) hx hb hown hk13 dL_law_435 ?_
                        refine lv_land hx hb dL_law_438 ?_
                        refine lv_topl (fun z_314 ez_314 => ?_)
                        refine lv_lor hx hb dL_law_439 ?_
                        refine lv_topl (fun z_315 ez_315 => ?_)
                        refine vp_callSl (W.runV (As := [.int v_307, .int v_309, .long z_315]) (rest := []) ⟨hx, hb, hml, hown, hts⟩ (c_again l dC dI h qT qC qS qA qF cT cC cS cA cF ad n kd ok cn rc rs an fl t0 t1 t2 t3 t4 t5 hI.1 v_307 v_309 z_315) (cwV 3 hts gL_law_X1_again rfl rfl rfl (by decide +kernel) ⟨Nat.le_of_ble_eq_true rfl, Nat.le_of_ble_eq_true rfl⟩) ⟨dP_bl, va_recv hK hP (ci := 1) (q0 := 0) rfl rfl, fun U hU hW => ⟨rfl, dP_at hU hW hP hK hN⟩⟩ rfl rfl hl.1 rfl (lv_room (Nat.le_of_ble_eq_true rfl)) dL_law_440 ⟨(show cc + 0 ≤ 812163 by omega), (show ss + 0 ≤ 6665758 by omega)⟩) (fun r_316 hw => ?_)
                        refine lv_aload_n hx hb dL_law_443 rfl (lv_at hl 2 rfl) ?_
                        refine lv_aload_n hx hb dL_law_444 rfl (lv_at hl 0 rfl) ?_
                        refine lv_iload_n hx hb dL_law_445 rfl (lv_at hl 3 rfl) ?_
                        refine lv_iconst (v := 1) hx hb dL_law_446 (by decide) ?_
                        refine lv_iadd hx hb dL_law_447 ?_
                        refine lv_topi (fun z_317 ez_317 => ?_)
                        have hh : z_306 = z_317 := ez_306.trans ez_317.symm
                        subst hh
                        refine va_sld hx hb hX hbl hbA hS hz_306 dL_law_448 ?_
                        refine lv_topi (fun v_318 ev_318 => ?_)
                        have hh : v_307 = v_318 := ev_307.trans ev_318.symm
                        subst hh
                        refine lv_aload_n hx hb dL_law_449 rfl (lv_at hl 0 rfl) ?_
                        refine lv_iload_n hx hb dL_law_450 rfl (lv_at hl 3 rfl) ?_
                        refine lv_iconst (v := 2) hx hb dL_law_451 (by decide) ?_
                        refine lv_iadd hx hb dL_law_452 ?_
                        refine lv_topi (fun z_319 ez_319 => ?_)
                        have hh : z_308 = z_319 := ez_308.trans ez_319.symm
                        subst hh
                        refine va_sld hx hb hX hbl hbA hS hz_308 dL_law_453 ?_
                        refine lv_topi (fun v_320 ev_320 => ?_)
                        have hh : v_309 = v_320 := ev_309.trans ev_320.symm
                        subst hh
                        refine lv_aload_n hx hb dL_law_454 rfl (lv_at hl 0 rfl) ?_
                        refine lv_iload_n hx hb dL_law_455 rfl (lv_at hl 3 rfl) ?_
                        refine lv_iconst (v := 3) hx hb dL_law_456 (by decide) ?_
                        refine lv_iadd hx hb dL_law_457 ?_
                        refine lv_topi (fun z_321 ez_321 => ?_)
                        have hh : z_310 = z_321 := ez_310.trans ez_321.symm
                        subst hh
                        refine va_sld hx hb hX hbl hbA hS hz_310 dL_law_458 ?_
                        refine lv_topi (fun v_322 ev_322 => ?_)
                        have hh : v_311 = v_322 := ev_311.trans ev_322.symm
                        subst hh
                        refine lv_i2l (v := v_311.toInt64) hx hb dL_law_459 rfl ?_
                        refine lv_bipush (v := 32) hx hb dL_law_460 (by decide) ?_
                        refine lv_lshl (v := v_311.toInt64 <<< ((32 : Int32).toInt64 &&& 63)) hx hb dL_law_462 rfl ?_
                        refine lv_aload_n hx hb dL_law_463 rfl (lv_at hl 0 rfl) ?_
                        refine lv_iload_n hx hb dL_law_464 rfl (lv_at hl 3 rfl) ?_
                        refine lv_iconst (v := 4) hx hb dL_law_465 (by decide) ?_
                        refine lv_iadd hx hb dL_law_466 ?_
                        refine lv_topi (fun z_323 ez_323 => ?_)
                        have hh : z_312 = z_323 := ez_312.trans ez_323.symm
                        subst hh
                        refine va_sld hx hb hX hbl hbA hS hz_312 dL_law_467 ?_
                        refine lv_topi (fun v_324 ev_324 => ?_)
                        have hh : v_313 = v_324 := ev_313.trans ev_324.symm
                        subst hh
                        refine lv_i2l (v := v_313.toInt64) hx hb dL_law_468 rfl ?_
                        refine lv_ldc2 (v := 4294967295) hx hb hown hk13 dL_law_469 ?_
                        refine lv_land hx hb dL_law_472 ?_
                        refine lv_topl (fun z_325 ez_325 => ?_)
                        have hh : z_314 = z_325 := ez_314.trans ez_325.symm
                        subst hh
                        refine lv_lor hx hb dL_law_473 ?_
                        refine lv_topl (fun z_326 ez_326 => ?_)
                        have hh : z_315 = z_326 := ez_315.trans ez_326.symm
                        subst hh
                        have hDx := kx_Dc hD
                        have hFm := kx_fr (kx_D1 hDx) hS hA
                        refine va_calll (va_runV (As := [.int v_307, .int v_309, .long z_315]) (rest := [.long r_316]) ⟨hx, hb, hml, hown, hts⟩ (r_again l dC dI g qs qm qa qf qk qt qd cs cm ca cf ck ct cd n kd ok cn rc rs an fl t0 t1 t2 t3 t4 t5 th wy hI.1 H.size v_307 v_309 z_315) (cwV 3 hts gL_law_X2_again rfl rfl rfl (by decide +kernel) ⟨Nat.le_of_ble_eq_true rfl, Nat.le_of_ble_eq_true rfl⟩) ⟨rQ_bl, va_recv hKm hPm (ci := 2) (q0 := 0) rfl rfl, fun U hU hW => ⟨rfl, rQ_at hU hW hPm hKm (kx_D1 hDx)⟩⟩ rfl rfl hl.1 rfl (lv_room (Nat.le_of_ble_eq_true rfl)) dL_law_474 ⟨(show cc + 0 ≤ 812163 by omega), (show ss + 0 ≤ 6665758 by omega)⟩) hS (fun q _ h9 => hFm q h9) hFm (fun r_327 u2 t8 H2 locs ht2 hvm2 hw2 hB2 hz2 hk2 hS => ?_)
                        obtain ⟨u2, th2, wy2⟩ := u2
                        obtain ⟨hPm, hDm⟩ := hB2
                        rw [ht2] at hPm
                        obtain ⟨hP, hDz⟩ := kx_jn hP hDx hk2 hFm hDm
                        have hD := kx_Dc hDz
                        have e1 : r_316 = r_327 := hw.trans hw2.1.symm
                        have e2 : (n, kd, ok, cn, rc, rs, an, fl, t0, t1, t2, t3, t4, t5) = u2 := hw2.2.symm
                        subst e2
                        have hi : lInv (n, kd, ok, cn, rc, rs, an, fl, t0, t1, t2, t3, t4, t5) (t + 1) := lInv_up hI
                        refine W.lcmp hx hb dL_law_477 ?_
                        refine lv_if_eq (tgt := 483) hx hb dL_law_478 (by decide) (fun c_328 => ?_) (fun c_328 => ?_)
                        · obtain ⟨i_329, ei_329⟩ : ∃ y : Int32, y = x3 + 5 := ⟨_, rfl⟩
                          refine lv_iinc (v := i_329) (lv' := [(3, .int i_329), (0, .ref b), (1, .ref h), (2, .ref g)]) hx hb dL_law_483 hl (k := 3) rfl (by rw [ei_329]; rfl) (by decide) rfl (fun ls hl => ?_)
                          refine lv_goto (tgt := 18) hx hb dL_law_486 (by decide) ?_
                          exact ih (t + 1) (by omega) (by omega) i_329 (by rw [ei_329, hx3]; exact nI_add (5 * t) 5) (n, kd, ok, cn, rc, rs, an, fl, t0, t1, t2, t3, t4, t5) hi ad th2 wy2 H2 locs _ _ (by omega) (by omega) hP hPm hD hS ls (lv_sub hl [1, 2, 3, 0] rfl)
                        · exact absurd ((lg_cmp_eq _ _).mpr e1) c_328
                      · have q0 : ¬ z_188.toInt = 0 := lv_neT hs_189 (by decide)
                        have q1 : ¬ z_188.toInt = 1 := lv_neT hs_210 (by decide)
                        have q2 : ¬ z_188.toInt = 2 := lv_neT hs_231 (by decide)
                        have q3 : ¬ z_188.toInt = 3 := lv_neT hs_244 (by decide)
                        have q4 : ¬ z_188.toInt = 4 := lv_neT hs_253 (by decide)
                        have q5 : ¬ z_188.toInt = 5 := lv_neT hs_278 (by decide)
                        have q6 : ¬ z_188.toInt = 6 := lv_neT hs_287 (by decide)
                        have q7 : ¬ z_188.toInt = 7 := lv_neT hs_296 (by decide)
                        have q8 : ¬ z_188.toInt = 8 := lv_neT hs_305 (by decide)
                        refine lv_tableOut (tgt := 483) hx hb dL_law_32 (by omega) (by decide) ?_
                        obtain ⟨i_330, ei_330⟩ : ∃ y : Int32, y = x3 + 5 := ⟨_, rfl⟩
                        refine lv_iinc (v := i_330) (lv' := [(3, .int i_330), (0, .ref b), (1, .ref h), (2, .ref g)]) hx hb dL_law_483 hl (k := 3) rfl (by rw [ei_330]; rfl) (by decide) rfl (fun ls hl => ?_)
                        refine lv_goto (tgt := 18) hx hb dL_law_486 (by decide) ?_
                        exact ih (t + 1) (by omega) (by omega) i_330 (by rw [ei_330, hx3]; exact nI_add (5 * t) 5) (n, kd, ok, cn, rc, rs, an, fl, t0, t1, t2, t3, t4, t5) (lInv_up hI) ad th wy H locs _ _ (by omega) (by omega) hP hPm hD hS ls (lv_sub hl [1, 2, 3, 0] rfl)
end
section
set_option maxHeartbeats 4000000 in
set_option maxRecDepth 100000 in
/-- THE LAW, from its entry: a new desk, a new reference, the loop -/
theorem whole_start {p : Program} {e : Env} {s : State} {m : MethodId} {below : List Frame} {meth : Method} {c : Code} (l : Launch) {b L : Nat} {xs : Nat → Int32} (hL : L ≤ 2560) (C0 : lw_At p s m meth c b L xs) : W p l e room_1 s m #[Value.ref b] below meth c s.heap [] 0 0 (lw_Z below #[Value.ref b] s) (entryFrame m ([Value.ref b] : List Value).toArray 4) := by
  obtain ⟨hx, hb, hr, hml, hown, hts0, hX, hbl, hlocks, hgv⟩ := id C0
  have hown : s.vm.findClass RL = some m.cls := hown
  have hts : ∀ w ∈ wsL_law, w.before #[Value.ref b] s = true := fun w h9 => hts0 w (wsL_law_in w h9)
  have hN : dNw s := ⟨va_Nw.of rfl (hts0 _ (by decide +kernel)), va_Nw.of rfl (hts0 _ (by decide +kernel)), va_Nw.of rfl (hts0 _ (by decide +kernel)), va_Nw.of rfl (hts0 _ (by decide +kernel))⟩
  have hAO : va_AO "MainframeDesk$Thing" s := va_AO.of (hts0 (.arrayOver (.object "MainframeDesk$Thing")) (by decide +kernel))
  have hA : ∀ q : Nat, s.heap.size ≤ q → (fun q : Nat => s.heap.size ≤ q) q := fun _ h9 => h9
  obtain ⟨c0, iS0, hKn0⟩ := u_known (C := RX0) (T := TX0) (N := 3) (n := 3) hts inlX0 (hts (.instantiable RX0 3) (by decide +kernel))
  obtain ⟨c1, iS1, hKn1⟩ := u_known (C := RX1) (T := TX1) (N := 12) (n := 12) hts inlX1 (hts (.instantiable RX1 12) (by decide +kernel))
  obtain ⟨c2, iS2, hKn2⟩ := u_known (C := RX2) (T := TX2) (N := 16) (n := 16) hts inlX2 (hts (.instantiable RX2 16) (by decide +kernel))
  obtain ⟨dC, dI, hKc⟩ : ∃ (dC : Nat → ClassId) (dI : Nat → Nat → Nat), ∀ (k : Nat) (q : vw_C), vwCl[k]? = some q → u_Kn s q.1 q.2.1 q.2.2 (dC k) (dI k) := by
    refine ⟨fun k => if k = 0 then c0 else if k = 1 then c1 else c2, fun k => if k = 0 then iS0 else if k = 1 then iS1 else iS2, ?_⟩
    intro k q hq
    match k, hq with
    | 0, hq => cases hq; exact hKn0
    | 1, hq => cases hq; exact hKn1
    | 2, hq => cases hq; exact hKn2
    | k + 3, hq => simp [vwCl] at hq
  have hS : va_S (fun q : Nat => s.heap.size ≤ q) s.heap s.heap [] := va_S.rf
  have hK : va_K (dC, dI) vwCl [] s := ⟨hKc, fun k q h9 => by simp at h9⟩
  have hP : va_P (dC, dI) vwCl [] s.heap := fun k q h9 => by simp at h9
  have hD : va_D (fun q : Nat => s.heap.size ≤ q) [] := ⟨fun i j p q h9 => by simp at h9, fun k q h9 => by simp at h9⟩
  have hl := lv_entry ([.ref b]) (n := 4) (Nat.le_of_ble_eq_true rfl)
  rw [lg_entry_eq]
  generalize (lg_sl ([.ref b]) ++ List.replicate (4 - (lg_sl ([.ref b])).length) Slot.unset).toArray = ls at hl ⊢
  have hl : lv_has ls 4 [(0, .ref b)] := hl
  refine va_new (ci := 1) (fs := [.null, .int 0, .null, .null, .null, .null, .int 0, .int 0, .int 0, .int 0, .int 0, .int 0]) (C := RX1) (T := TX1) (N := 12) hx hb hts inlX1 tyX1 tyX1_ok hown (hts (.classLink RL 7 RX1) (by decide +kernel)) (hts (.instantiable RX1 12) (by decide +kernel)) (hts (.initialized RX1) (by decide +kernel)) hK hP hD hS hA rfl (fun j hj => by rcases (show j = 0 ∨ j = 1 ∨ j = 2 ∨ j = 3 ∨ j = 4 ∨ j = 5 ∨ j = 6 ∨ j = 7 ∨ j = 8 ∨ j = 9 ∨ j = 10 ∨ j = 11 by omega) with rfl | rfl | rfl | rfl | rfl | rfl | rfl | rfl | rfl | rfl | rfl | rfl <;> rfl) (Nat.le_of_ble_eq_true rfl) (Nat.le_of_ble_eq_true rfl) dL_law_0 (fun h H hP hD hS => ?_)
  have hP : va_P (dC, dI) vwCl [(h, .inr (1, [.null, .int 0, .null, .null, .null, .null, .int 0, .int 0, .int 0, .int 0, .int 0, .int 0]))] H := hP
  have hD : va_D (fun q : Nat => s.heap.size ≤ q) [(h, .inr (1, [.null, .int 0, .null, .null, .null, .null, .int 0, .int 0, .int 0, .int 0, .int 0, .int 0]))] := hD
  refine W.widen (k := 1) (n := 12) (by omega) (by omega) ?_
  refine lv_dup hx hb dL_law_3 rfl ?_
  have hFc := kx_fr hD hS hA
  refine va_callv (va_runI (As := []) (rest := [.ref h]) ⟨hx, hb, hml, hown, hts⟩ (c_deskInit l dC dI h H.size) (cwI 0 hts gL_law_X1_init rfl rfl rfl (hts (.initialized RX1) (by decide +kernel)) (hts (.methodLink RL 9 yX1_init) (by decide +kernel)) (hts (.instanceMethod yX1_init) (by decide +kernel)) rfl (by decide +kernel) ⟨Nat.le_of_ble_eq_true rfl, Nat.le_of_ble_eq_true rfl⟩) ⟨fun a U g mk q => by obtain ⟨q0, q1, qP, qK, qD, qA⟩ := q; exact ⟨q0, q1, qP, va_K.moved (u := U) (U := U.calling g mk a) (Vm.Alike.refl U.vm) qK, qD, va_AO.moved (u := U) (U := U.calling g mk a) (Vm.Alike.refl U.vm) qA⟩, fun U hU hW => ⟨rfl, by rw [hU], by rw [hU]; exact hP, va_K.moved hW.alike hK, hD.weaken (fun _ _ _ _ => trivial), va_AO.moved hW.alike hAO⟩⟩ rfl rfl hl.1 rfl (lv_room (Nat.le_of_ble_eq_true rfl)) dL_law_4 ⟨Nat.le_of_ble_eq_true rfl, Nat.le_of_ble_eq_true rfl⟩) hS (fun q _ h9 => hFc q h9) hFc (fun u t9 H1 locs ht hvm hw hB hz1 hk1 hS => ?_)
  obtain ⟨qT, qC, qS, qA, qF, cT, cC, cS, cA, cF, hP, hKd, hD1⟩ := hB
  rw [ht] at hP
  have hKd := va_K.moved hvm.symm hKd
  have hD : va_D (fun q : Nat => s.heap.size ≤ q) (dW h qT qC qS qA qF cT cC cS cA cF (fun _ => 0) 0 (fun _ => 0) (fun _ => 0) (fun _ => 0) (fun _ => 0) (fun _ => 0) (fun _ => 0) (fun _ => 0) 0 0 0 0 0 0) := hD1.weaken (fun _ q _ h9 => hFc q.1 h9)
  generalize H1 = H at hP hS ⊢
  refine W.widen (k := 6) (n := 284) (by omega) (by omega) ?_
  refine lv_astore_n (lv' := [(1, .ref h), (0, .ref b)]) hx hb dL_law_7 rfl hl (by decide) rfl (fun ls hl => ?_)
  refine va_new (ci := 2) (fs := [.null, .null, .null, .null, .null, .null, .null, .int 0, .int 0, .int 0, .int 0, .int 0, .int 0, .int 0, .int 0, .int 0]) (C := RX2) (T := TX2) (N := 16) hx hb hts inlX2 tyX2 tyX2_ok hown (hts (.classLink RL 10 RX2) (by decide +kernel)) (hts (.instantiable RX2 16) (by decide +kernel)) (hts (.initialized RX2) (by decide +kernel)) hK hP hD hS hA rfl (fun j hj => by rcases (show j = 0 ∨ j = 1 ∨ j = 2 ∨ j = 3 ∨ j = 4 ∨ j = 5 ∨ j = 6 ∨ j = 7 ∨ j = 8 ∨ j = 9 ∨ j = 10 ∨ j = 11 ∨ j = 12 ∨ j = 13 ∨ j = 14 ∨ j = 15 by omega) with rfl | rfl | rfl | rfl | rfl | rfl | rfl | rfl | rfl | rfl | rfl | rfl | rfl | rfl | rfl | rfl <;> rfl) (Nat.le_of_ble_eq_true rfl) (Nat.le_of_ble_eq_true rfl) dL_law_8 (fun g H hP hD hS => ?_)
  have hPd : va_P (dC, dI) vwCl (dW h qT qC qS qA qF cT cC cS cA cF (fun _ => 0) 0 (fun _ => 0) (fun _ => 0) (fun _ => 0) (fun _ => 0) (fun _ => 0) (fun _ => 0) (fun _ => 0) 0 0 0 0 0 0) H := kx_P1 hP
  have hPm : va_P (dC, dI) vwCl [(g, .inr (2, [.null, .null, .null, .null, .null, .null, .null, .int 0, .int 0, .int 0, .int 0, .int 0, .int 0, .int 0, .int 0, .int 0]))] H := kx_P2 hP
  have hD : va_D (fun q : Nat => s.heap.size ≤ q) ([(g, .inr (2, [.null, .null, .null, .null, .null, .null, .null, .int 0, .int 0, .int 0, .int 0, .int 0, .int 0, .int 0, .int 0, .int 0]))] ++ dW h qT qC qS qA qF cT cC cS cA cF (fun _ => 0) 0 (fun _ => 0) (fun _ => 0) (fun _ => 0) (fun _ => 0) (fun _ => 0) (fun _ => 0) (fun _ => 0) 0 0 0 0 0 0) := kx_Dc hD
  refine W.widen (k := 7) (n := 300) (by omega) (by omega) ?_
  refine lv_dup hx hb dL_law_11 rfl ?_
  have hFm := kx_fr (kx_D1 hD) hS hA
  refine va_callv (va_runI (As := []) (rest := [.ref g]) ⟨hx, hb, hml, hown, hts⟩ (r_init l dC dI g H.size) (cwI 0 hts gL_law_X2_init rfl rfl rfl (hts (.initialized RX2) (by decide +kernel)) (hts (.methodLink RL 12 yX2_init) (by decide +kernel)) (hts (.instanceMethod yX2_init) (by decide +kernel)) rfl (by decide +kernel) ⟨Nat.le_of_ble_eq_true rfl, Nat.le_of_ble_eq_true rfl⟩) ⟨fun a U g mk q => by obtain ⟨q0, q1, qP, qK, qD⟩ := q; exact ⟨q0, q1, qP, va_K.moved (u := U) (U := U.calling g mk a) (Vm.Alike.refl U.vm) qK, qD⟩, fun U hU hW => ⟨rfl, by rw [hU], by rw [hU]; exact hPm, va_K.moved hW.alike hK, (kx_D1 hD).weaken (fun _ _ _ _ => trivial)⟩⟩ rfl rfl hl.1 rfl (lv_room (Nat.le_of_ble_eq_true rfl)) dL_law_12 ⟨Nat.le_of_ble_eq_true rfl, Nat.le_of_ble_eq_true rfl⟩) hS (fun q _ h9 => hFm q h9) hFm (fun u2 t8 H2 locs ht2 hvm2 hw2 hB2 hz2 hk2 hS => ?_)
  obtain ⟨qs, qm, qa, qf, qk, qt, qd, cs, cm, ca, cf, ck, ct, cd, hPm, hKm, hDm⟩ := hB2
  rw [ht2] at hPm
  have hKm := va_K.moved hvm2.symm hKm
  obtain ⟨hPd, hDz⟩ := kx_jn hPd hD hk2 hFm hDm
  have hD := kx_Dc hDz
  refine W.widen (k := 14) (n := 1000) (by omega) (by omega) ?_
  refine lv_astore_n (lv' := [(2, .ref g), (1, .ref h), (0, .ref b)]) hx hb dL_law_15 rfl hl (by decide) rfl (fun ls hl => ?_)
  refine lv_iconst (v := 0) hx hb dL_law_16 (by decide) ?_
  refine lv_istore_n (lv' := [(3, .int 0), (2, .ref g), (1, .ref h), (0, .ref b)]) hx hb dL_law_17 rfl hl (by decide) rfl (fun ls hl => ?_)
  exact law_loop hL C0 hN hKd hKm (L + 1) 0 (by omega) (by omega) 0 rfl (0, (fun _ => 0), (fun _ => 0), (fun _ => 0), (fun _ => 0), (fun _ => 0), (fun _ => 0), (fun _ => 0), 0, 0, 0, 0, 0, 0) ⟨by omega, fun _ => (show (0 : Int32) ≤ 50 by decide), fun _ => ⟨0, by omega, rfl⟩⟩ (fun _ => 0) 0 0 H2 locs 14 1000 (by omega) (by omega) hPd hPm hD hS ls (lv_sub hl [3, 2, 1, 0] rfl)
end
section
set_option maxHeartbeats 4000000 in
theorem lw_walk (l : Launch) (b : Addr) (xs : List Int32) : MetFree l x (headSpec (Jvm.Cond.code x code maxLocals ret :: tables_1) room_1) (lw_P b xs) (fun _ _ _ _ _ => True) lw_Q := by
  refine MetFree.of_bodyS (code := code) (maxLocals := maxLocals) (ret := ret) (by decide) ?_ ?_
  · intro args s m h hn
    obtain ⟨meth, c, h1, h2, h3, h4, h5, h6, -, -⟩ := Cond.code_spec hn (atoms_spec (ws := Jvm.Cond.code x code maxLocals ret :: tables_1) h _ List.mem_cons_self)
    exact ⟨meth, c, h1, h2, h3, h4, h5, h6⟩
  · intro p e s m args below meth c s₁ B hml0 hP _
    obtain ⟨rfl, hx, hbd, hgv⟩ := hP
    obtain ⟨scr, harrAt, hlist, hof, hsmall⟩ := hx
    obtain ⟨hcb, hkn, -, -⟩ := State.arrayAt?_spec harrAt
    have hown : s.vm.findClass R_law = some m.cls := findClass_of_methodNamed B.named
    have hts0 : ∀ c ∈ (Jvm.Cond.code x code maxLocals ret :: tables_1), c.before #[Value.ref b] s = true := atoms_spec (ws := Jvm.Cond.code x code maxLocals ret :: tables_1) B.pre
    have hts : ∀ w ∈ lw_tbl, w.before #[Value.ref b] s = true := k2_hts_sels lw_privs (fun w hw => hts0 w (List.mem_cons_of_mem _ hw)) lw_privs_ok
    have hml : c.maxLocals = 4 := B.maxLocals_eq (hts0 _ List.mem_cons_self)
    have X₀ : Stand p l e room_1 s m #[Value.ref b] below meth c s₁ [] 0 0 := Stand.of_body B
    have hh0 : s₁.heap = s.heap := by rw [B.state]; rfl
    have hsz : scr.slots.size = xs.length := by rw [← Array.length_toList, hlist, List.length_map]
    have hval : ∀ j : Nat, j < xs.length → scr.slots[j]? = some (.int (xs.getD j 0)) := fun j hj => by
      rw [← Array.getElem?_toList, hlist]
      simp [hj]
    have hbl : b < s.heap.size := (Array.getElem?_eq_some_iff.mp hcb).1
    have hX : va_X b xs.length (fun j => xs.getD j 0) s s.heap := ⟨scr, hcb, hof, hkn, hsz, hval⟩
    have K : W p l e room_1 s m #[Value.ref b] below meth c s₁.heap [] 0 0 (lw_Z below #[Value.ref b] s) (entryFrame m ([Value.ref b] : List Value).toArray 4) := by
      rw [hh0]
      exact whole_start l hbd ⟨B.exec, B.bytes, B.returns, hml, hown, hts, hX, hbl, B.notSynchronized, hgv⟩
    obtain ⟨t, a1, o, b1, b2, b3⟩ := K s₁ rfl X₀
    exact ⟨t, o, a1, b1, b2, b3⟩
theorem lw_pre_spec {args : Array Value} {s : State} (h : (Jvm.Cond.and given_1 narrow_1).before args s = true) (hr : rest_1_c.before args s = true) : ∃ (b : Addr) (xs : List Int32), lw_P b xs args s := by
  have hs := flat_of_before _ h
  have hq := flat_of_before _ hr
  have hc : (Cond.count 1).before args s = true := hs _ (by decide +kernel)
  have harr : (Cond.arrayOf (.arg 0) .int).before args s = true := hs _ (by decide +kernel)
  have hle : (Cond.le (.length (.arg 0)) (.int 2560)).before args s = true := hs _ (by decide +kernel)
  have hlen : (Cond.isInt (.length (.arg 0))).before args s = true := hq _ (by decide +kernel)
  have hall : (Cond.all (.arg 0) (.isInt (.elem (.arg 0) (.index 0)))).before args s = true := hq _ (by decide +kernel)
  obtain ⟨b, xs, hb, hx⟩ := State.ints_of_pre rfl harr hlen hall
  have hsm : xs.length < 2 ^ 31 := hx.choose_spec.2.2.2
  have hev : (Term.length (.arg 0)).eval args s none [] s = some (.int xs.length.toInt32) := hx.length_eval hb
  have hv := Cond.le_ints hev (show (Term.int 2560).eval args s none [] s = some (.int 2560) from rfl)
  have hd : xs.length.toInt32 ≤ 2560 := by
    simpa [Cond.before, Cond.holds, hv] using hle
  have hN : xs.length ≤ 2560 := (Int32.ofNat_le_ofNat hsm (by decide)).mp (show Int32.ofNat xs.length ≤ Int32.ofNat 2560 from hd)
  exact ⟨b, xs, Cond.one_arg hc (show args[0]? = some (.ref b) from hb), hx, hN, h⟩
theorem lw_comes (l : Launch) : Comes l x (Jvm.Cond.code x code maxLocals ret :: tables_1) room_1 (fun tb e args s => Calls_1 tb e args s ∧ rest_1 tb e args s ∧ Pre_1 tb e args s)
    (fun _ _ args s o t => lw_Q args s o t) := by
  intro p e ha hc hk s m args below hf hfit hheap happ hpre
  obtain ⟨b, xs, hP⟩ := lw_pre_spec hpre.2.2 hpre.2.1
  obtain ⟨k, o, h1, h2, h3, hQ⟩ := lw_walk l b xs p e ha hc hk s m args below hf ((Spec.applies_iff_loose hf).mp happ).1 hP trivial
  exact ⟨k, o, h1, h2, h3, hQ⟩
theorem lw_frame {s t : State} {o : Outcome} {args : Array Value} (h : Framed s o t [] 812163 6665758) :
    Framed s o t (fieldLocs frame_1_writes args s ++ arrayLocs frame_1_arrays args s ++ staticLocs frame_1_statics s) 812163 6665758 := h
theorem lw_limb (L : Cond) (hL : ∀ (args : Array Value) (s t : State), L.after args s (.returned (some (.int 1))) t = true) :
    ArmFor flags0 classFile x code maxLocals ret World_1 tables_1 room_1 Calls_1 rest_1 Pre_1
      (fun tb e a s o t => postC L tb e a s o t ∧ Framed s o t (fieldLocs frame_1_writes a s ++ arrayLocs frame_1_arrays a s ++ staticLocs frame_1_statics s) 812163 6665758) := by
  intro l _ _ _ p e ha hc hk s m args below hf hfit hheap happ hpre
  obtain ⟨k, o, h1, h2, h3, rfl, hF⟩ := lw_comes l p e ha hc hk s m args below hf hfit hheap happ hpre
  exact ⟨k, _, h1, h2, h3, hL args s _, lw_frame hF⟩
theorem i_vc : Claimed_1_1 ∧ Claimed_1_2 := ⟨lw_limb limb_1_1 (fun args s t => by simp [limb_1_1, Cond.after, Cond.holds, Cond.value]), lw_limb limb_1_2 (fun args s t => Cond.after_iff.mpr (by
  first | (rw [show limb_1_2 = Cond.eq .result (.int 1) from rfl, Cond.eq_ints (x := 1) (y := 1) rfl rfl]; simp; done) | (simp [limb_1_2, Cond.value, Term.eval]; done)))⟩
end
