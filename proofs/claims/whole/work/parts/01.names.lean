-- ===== PART A: goes FIRST, ahead of the names: the tables' words, and 'selects' of the private methods out of them =====
/-- a private method of a class that the tables say can be made, by its rows of tables_1 -/
def lw_okq (q : MethodName × Nat) : Prop := (q.1.cls ≠ "java/lang/invoke/MethodHandle" ∧ q.1.cls ≠ "java/lang/invoke/VarHandle") ∧ Cond.instantiable q.1.cls q.2 ∈ tables_1 ∧ Cond.privateMethod q.1 ∈ tables_1 ∧ Cond.instanceMethod q.1 ∈ tables_1
theorem lw_p0 : lw_okq (⟨"MainframeDesk", "find", "(I)LMainframeDesk$Thing;"⟩, 12) := ⟨⟨by decide +kernel, by decide +kernel⟩, List.mem_of_getElem? (i := 5) (by decide +kernel), List.mem_of_getElem? (i := 95) (by decide +kernel), List.mem_of_getElem? (i := 96) (by decide +kernel)⟩
theorem lw_p1 : lw_okq (⟨"MainframeDesk", "refusalOf", "(ILMainframeDesk$Thing;J)I"⟩, 12) := ⟨⟨by decide +kernel, by decide +kernel⟩, List.mem_of_getElem? (i := 5) (by decide +kernel), List.mem_of_getElem? (i := 99) (by decide +kernel), List.mem_of_getElem? (i := 100) (by decide +kernel)⟩
theorem lw_p2 : lw_okq (⟨"MainframeDesk", "outcomeOf", "(ILMainframeDesk$Thing;J)J"⟩, 12) := ⟨⟨by decide +kernel, by decide +kernel⟩, List.mem_of_getElem? (i := 5) (by decide +kernel), List.mem_of_getElem? (i := 107) (by decide +kernel), List.mem_of_getElem? (i := 108) (by decide +kernel)⟩
theorem lw_p3 : lw_okq (⟨"MainframeDesk", "takeRow", "(I)V"⟩, 12) := ⟨⟨by decide +kernel, by decide +kernel⟩, List.mem_of_getElem? (i := 5) (by decide +kernel), List.mem_of_getElem? (i := 114) (by decide +kernel), List.mem_of_getElem? (i := 115) (by decide +kernel)⟩
theorem lw_p4 : lw_okq (⟨"MainframeDesk", "tell", "(II)V"⟩, 12) := ⟨⟨by decide +kernel, by decide +kernel⟩, List.mem_of_getElem? (i := 5) (by decide +kernel), List.mem_of_getElem? (i := 118) (by decide +kernel), List.mem_of_getElem? (i := 119) (by decide +kernel)⟩
theorem lw_p5 : lw_okq (⟨"MainframeDeskModel", "reckoned", "(IIJ)J"⟩, 16) := ⟨⟨by decide +kernel, by decide +kernel⟩, List.mem_of_getElem? (i := 138) (by decide +kernel), List.mem_of_getElem? (i := 217) (by decide +kernel), List.mem_of_getElem? (i := 218) (by decide +kernel)⟩
theorem lw_p6 : lw_okq (⟨"MainframeDeskModel", "refusal", "(IIJ)I"⟩, 16) := ⟨⟨by decide +kernel, by decide +kernel⟩, List.mem_of_getElem? (i := 138) (by decide +kernel), List.mem_of_getElem? (i := 221) (by decide +kernel), List.mem_of_getElem? (i := 222) (by decide +kernel)⟩
def lw_privs_1 : List (MethodName × Nat) := [(⟨"MainframeDesk", "find", "(I)LMainframeDesk$Thing;"⟩, 12), (⟨"MainframeDesk", "refusalOf", "(ILMainframeDesk$Thing;J)I"⟩, 12), (⟨"MainframeDesk", "outcomeOf", "(ILMainframeDesk$Thing;J)J"⟩, 12), (⟨"MainframeDesk", "takeRow", "(I)V"⟩, 12), (⟨"MainframeDesk", "tell", "(II)V"⟩, 12), (⟨"MainframeDeskModel", "reckoned", "(IIJ)J"⟩, 16), (⟨"MainframeDeskModel", "refusal", "(IIJ)I"⟩, 16)]
theorem lw_r1 : ∀ q ∈ lw_privs_1, lw_okq q := List.forall_mem_cons.mpr ⟨lw_p0, List.forall_mem_cons.mpr ⟨lw_p1, List.forall_mem_cons.mpr ⟨lw_p2, List.forall_mem_cons.mpr ⟨lw_p3, List.forall_mem_cons.mpr ⟨lw_p4, List.forall_mem_cons.mpr ⟨lw_p5, List.forall_mem_cons.mpr ⟨lw_p6, fun _ h => absurd h List.not_mem_nil⟩⟩⟩⟩⟩⟩⟩
def lw_privs : List (MethodName × Nat) := lw_privs_1
def lw_tbl : List Cond := k2_sels lw_privs ++ tables_1
theorem lw_privs_ok : ∀ q ∈ lw_privs, lw_okq q := lw_r1
/-! ===== BEGIN words of one list among another's, by their places ===== -/
theorem goodIn_r {big : List Cond} (ws : List Cond) (ps : List Nat) (hp : ws = ps.filterMap (fun i => big[i]?)) (h : ws.all goodWord = true) : GoodIn big ws := by
  intro w hw
  have h1 := List.all_eq_true.mp h w hw
  rw [hp] at hw
  obtain ⟨i, -, hi⟩ := List.mem_filterMap.mp hw
  have hm : w ∈ big := by first | exact List.mem_of_getElem? hi | exact List.getElem?_mem hi
  exact ⟨hm, good_of_word h1⟩
theorem goodIn_app {big a b : List Cond} (ha : GoodIn big a) (hb : GoodIn big b) : GoodIn big (a ++ b) := fun w h => (List.mem_append.mp h).elim (ha w) (hb w)
theorem goodIn_ca {big a b : List Cond} {c : Cond} (ha : GoodIn big (c :: a)) (hb : GoodIn big b) : GoodIn big (c :: (a ++ b)) := fun w h => (List.mem_cons.mp h).elim (fun e => ha w (List.mem_cons.mpr (Or.inl e))) (fun h => (List.mem_append.mp h).elim (fun h => ha w (List.mem_cons.mpr (Or.inr h))) (hb w))
theorem goodIn_sub {big ws : List Cond} (hm : ∀ w ∈ ws, w ∈ big) (h : ws.all goodWord = true) : GoodIn big ws := fun w hw => ⟨hm w hw, good_of_word (List.all_eq_true.mp h w hw)⟩
/-! ===== END ===== -/

/-! ===== BEGIN printed: names, fields, word lists, decode rows ===== -/
def RX0 : String := "MainframeDesk$Thing"
def TX0 : u_T := fun k => match k with
  | 0 => ("MainframeDesk$Thing", "kind", "I", true)
  | 1 => ("MainframeDesk$Thing", "there", "Z", false)
  | _ => ("MainframeDesk$Thing", "answered", "I", false)
def tyX0 : Nat → FieldType := fun k => match k with
  | 0 => .int
  | 1 => .boolean
  | _ => .int
abbrev wsX00 : List Cond := u_ws RX0 TX0 3
theorem nmX0 : ∀ a, a < 3 → ∀ b, b < 3 → a ≠ b → (TX0 a).2.1 ≠ (TX0 b).2.1 := by decide +kernel
theorem tyX0_ok : ∀ k, k < 3 → parseFieldDescriptor (TX0 k).2.2.1 = some (tyX0 k) := by decide +kernel
abbrev cX0_init : ByteArray := prog_2_method_1_code
def yX0_init : MethodName := ⟨RX0, "<init>", "(I)V"⟩
def RX1 : String := "MainframeDesk"
def TX1 : u_T := fun k => match k with
  | 0 => ("MainframeDesk", "things", "[LMainframeDesk$Thing;", true)
  | 1 => ("MainframeDesk", "made", "I", false)
  | 2 => ("MainframeDesk", "rowCounts", "[I", true)
  | 3 => ("MainframeDesk", "rowSums", "[J", true)
  | 4 => ("MainframeDesk", "answers", "[J", true)
  | 5 => ("MainframeDesk", "failures", "[I", true)
  | 6 => ("MainframeDesk", "latestFailure", "I", false)
  | 7 => ("MainframeDesk", "latestFailedCall", "I", false)
  | 8 => ("MainframeDesk", "latestEndedThing", "I", false)
  | 9 => ("MainframeDesk", "failureCount", "I", false)
  | 10 => ("MainframeDesk", "refusalCount", "I", false)
  | _ => ("MainframeDesk", "answerCount", "I", false)
def tyX1 : Nat → FieldType := fun k => match k with
  | 0 => .array (.object "MainframeDesk$Thing")
  | 1 => .int
  | 2 => .array .int
  | 3 => .array .long
  | 4 => .array .long
  | 5 => .array .int
  | 6 => .int
  | 7 => .int
  | 8 => .int
  | 9 => .int
  | 10 => .int
  | _ => .int
abbrev wsX10 : List Cond := u_ws RX1 TX1 12
theorem nmX1 : ∀ a, a < 12 → ∀ b, b < 12 → a ≠ b → (TX1 a).2.1 ≠ (TX1 b).2.1 := by decide +kernel
theorem tyX1_ok : ∀ k, k < 12 → parseFieldDescriptor (TX1 k).2.2.1 = some (tyX1 k) := by decide +kernel
abbrev cX1_init : ByteArray := prog_1_method_1_code
def yX1_init : MethodName := ⟨RX1, "<init>", "()V"⟩
abbrev cX1_collect : ByteArray := prog_1_method_2_code
def yX1_collect : MethodName := ⟨RX1, "collect", "(IJ)I"⟩
abbrev cX1_answer : ByteArray := prog_1_method_3_code
def yX1_answer : MethodName := ⟨RX1, "answer", "(IJ)I"⟩
abbrev cX1_fails : ByteArray := prog_1_method_4_code
def yX1_fails : MethodName := ⟨RX1, "fails", "(II)I"⟩
abbrev cX1_make : ByteArray := prog_1_method_5_code
def yX1_make : MethodName := ⟨RX1, "make", "(I)I"⟩
abbrev cX1_call : ByteArray := prog_1_method_6_code
def yX1_call : MethodName := ⟨RX1, "call", "(IIJ)J"⟩
abbrev cX1_told : ByteArray := prog_1_method_7_code
def yX1_told : MethodName := ⟨RX1, "told", "(I)I"⟩
abbrev cX1_drop : ByteArray := prog_1_method_8_code
def yX1_drop : MethodName := ⟨RX1, "drop", "(I)Z"⟩
abbrev cX1_numbers : ByteArray := prog_1_method_9_code
def yX1_numbers : MethodName := ⟨RX1, "numbers", "(I)I"⟩
abbrev cX1_again : ByteArray := prog_1_method_10_code
def yX1_again : MethodName := ⟨RX1, "again", "(IIJ)J"⟩
abbrev cX1_isWithin : ByteArray := prog_1_method_11_code
def yX1_isWithin : MethodName := ⟨RX1, "isWithin", "(II)Z"⟩
abbrev cX1_hasRow : ByteArray := prog_1_method_12_code
def yX1_hasRow : MethodName := ⟨RX1, "hasRow", "(I)Z"⟩
abbrev cX1_rowOf : ByteArray := prog_1_method_13_code
def yX1_rowOf : MethodName := ⟨RX1, "rowOf", "(I)I"⟩
abbrev cX1_find : ByteArray := prog_1_method_14_code
def yX1_find : MethodName := ⟨RX1, "find", "(I)LMainframeDesk$Thing;"⟩
abbrev cX1_refusalOf : ByteArray := prog_1_method_15_code
def yX1_refusalOf : MethodName := ⟨RX1, "refusalOf", "(ILMainframeDesk$Thing;J)I"⟩
abbrev cX1_outcomeOf : ByteArray := prog_1_method_16_code
def yX1_outcomeOf : MethodName := ⟨RX1, "outcomeOf", "(ILMainframeDesk$Thing;J)J"⟩
abbrev cX1_takeRow : ByteArray := prog_1_method_17_code
def yX1_takeRow : MethodName := ⟨RX1, "takeRow", "(I)V"⟩
abbrev cX1_tell : ByteArray := prog_1_method_18_code
def yX1_tell : MethodName := ⟨RX1, "tell", "(II)V"⟩
def RX2 : String := "MainframeDeskModel"
def TX2 : u_T := fun k => match k with
  | 0 => ("MainframeDeskModel", "sum", "[J", true)
  | 1 => ("MainframeDeskModel", "many", "[I", true)
  | 2 => ("MainframeDeskModel", "answers", "[J", true)
  | 3 => ("MainframeDeskModel", "failures", "[I", true)
  | 4 => ("MainframeDeskModel", "kind", "[I", true)
  | 5 => ("MainframeDeskModel", "there", "[Z", true)
  | 6 => ("MainframeDeskModel", "answered", "[J", true)
  | 7 => ("MainframeDeskModel", "made", "I", false)
  | 8 => ("MainframeDeskModel", "thrown", "I", false)
  | 9 => ("MainframeDeskModel", "latest", "I", false)
  | 10 => ("MainframeDeskModel", "latestCall", "I", false)
  | 11 => ("MainframeDeskModel", "latestThing", "I", false)
  | 12 => ("MainframeDeskModel", "failed", "I", false)
  | 13 => ("MainframeDeskModel", "refused", "I", false)
  | 14 => ("MainframeDeskModel", "done", "I", false)
  | _ => ("MainframeDeskModel", "way", "I", false)
def tyX2 : Nat → FieldType := fun k => match k with
  | 0 => .array .long
  | 1 => .array .int
  | 2 => .array .long
  | 3 => .array .int
  | 4 => .array .int
  | 5 => .array .boolean
  | 6 => .array .long
  | 7 => .int
  | 8 => .int
  | 9 => .int
  | 10 => .int
  | 11 => .int
  | 12 => .int
  | 13 => .int
  | 14 => .int
  | _ => .int
abbrev wsX20 : List Cond := u_ws RX2 TX2 16
theorem nmX2 : ∀ a, a < 16 → ∀ b, b < 16 → a ≠ b → (TX2 a).2.1 ≠ (TX2 b).2.1 := by decide +kernel
theorem tyX2_ok : ∀ k, k < 16 → parseFieldDescriptor (TX2 k).2.2.1 = some (tyX2 k) := by decide +kernel
abbrev cX2_init : ByteArray := prog_4_method_1_code
def yX2_init : MethodName := ⟨RX2, "<init>", "()V"⟩
abbrev cX2_below : ByteArray := prog_4_method_3_code
def yX2_below : MethodName := ⟨RX2, "below", "(II)Z"⟩
abbrev cX2_collect : ByteArray := prog_4_method_4_code
def yX2_collect : MethodName := ⟨RX2, "collect", "(IJ)I"⟩
abbrev cX2_answer : ByteArray := prog_4_method_5_code
def yX2_answer : MethodName := ⟨RX2, "answer", "(IJ)I"⟩
abbrev cX2_fails : ByteArray := prog_4_method_6_code
def yX2_fails : MethodName := ⟨RX2, "fails", "(II)I"⟩
abbrev cX2_make : ByteArray := prog_4_method_7_code
def yX2_make : MethodName := ⟨RX2, "make", "(I)I"⟩
abbrev cX2_rowOf : ByteArray := prog_4_method_8_code
def yX2_rowOf : MethodName := ⟨RX2, "rowOf", "(I)I"⟩
abbrev cX2_refusal : ByteArray := prog_4_method_9_code
def yX2_refusal : MethodName := ⟨RX2, "refusal", "(IIJ)I"⟩
abbrev cX2_reckoned : ByteArray := prog_4_method_10_code
def yX2_reckoned : MethodName := ⟨RX2, "reckoned", "(IIJ)J"⟩
abbrev cX2_again : ByteArray := prog_4_method_11_code
def yX2_again : MethodName := ⟨RX2, "again", "(IIJ)J"⟩
abbrev cX2_call : ByteArray := prog_4_method_12_code
def yX2_call : MethodName := ⟨RX2, "call", "(IIJ)J"⟩
abbrev cX2_told : ByteArray := prog_4_method_13_code
def yX2_told : MethodName := ⟨RX2, "told", "(I)I"⟩
abbrev cX2_drop : ByteArray := prog_4_method_14_code
def yX2_drop : MethodName := ⟨RX2, "drop", "(I)Z"⟩
def RL : String := "MainframeDeskLaw"
abbrev cL_law : ByteArray := code
def yL_law : MethodName := ⟨RL, "law", "([I)Z"⟩
def wsX0_init : List Cond := .code yX0_init cX0_init 2 none :: ([.methodLink RX0 1 objectInit, .instanceMethod objectInit, .code objectInit ⟨#[0xb1]⟩ 1 none, .fieldLink RX0 7 "MainframeDesk$Thing" "there" "Z", .fieldLink RX0 13 "MainframeDesk$Thing" "answered" "I", .fieldLink RX0 17 "MainframeDesk$Thing" "kind" "I"] ++ wsX00)
def wsX1_init : List Cond := .code yX1_init cX1_init 1 none :: ([.methodLink RX1 1 objectInit, .instanceMethod objectInit, .code objectInit ⟨#[0xb1]⟩ 1 none, .classLink RX1 9 RX0, .fieldLink RX1 11 "MainframeDesk" "things" "[LMainframeDesk$Thing;", .fieldLink RX1 15 "MainframeDesk" "made" "I", .arrayClass .int, .fieldLink RX1 19 "MainframeDesk" "rowCounts" "[I", .arrayClass .long, .fieldLink RX1 23 "MainframeDesk" "rowSums" "[J", .fieldLink RX1 27 "MainframeDesk" "answers" "[J", .fieldLink RX1 30 "MainframeDesk" "failures" "[I", .fieldLink RX1 33 "MainframeDesk" "latestFailure" "I", .fieldLink RX1 36 "MainframeDesk" "latestFailedCall" "I", .fieldLink RX1 39 "MainframeDesk" "latestEndedThing" "I", .fieldLink RX1 42 "MainframeDesk" "failureCount" "I", .fieldLink RX1 45 "MainframeDesk" "refusalCount" "I", .fieldLink RX1 48 "MainframeDesk" "answerCount" "I"] ++ wsX10)
def wsX1_isWithin : List Cond := .code yX1_isWithin cX1_isWithin 2 (some .boolean) :: ([])
def wsX1_collect : List Cond := .code yX1_collect cX1_collect 4 (some .int) :: ([.fieldLink RX1 19 "MainframeDesk" "rowCounts" "[I", .fieldLink RX1 23 "MainframeDesk" "rowSums" "[J", .methodLink RX1 51 yX1_isWithin, .static yX1_isWithin, .initialized RX1, .code yX1_isWithin cX1_isWithin 2 (some .boolean)] ++ wsX10)
def wsX1_answer : List Cond := .code yX1_answer cX1_answer 4 (some .int) :: ([.fieldLink RX1 27 "MainframeDesk" "answers" "[J", .methodLink RX1 51 yX1_isWithin, .static yX1_isWithin, .initialized RX1, .code yX1_isWithin cX1_isWithin 2 (some .boolean)] ++ wsX10)
def wsX1_fails : List Cond := .code yX1_fails cX1_fails 4 (some .int) :: ([.fieldLink RX1 30 "MainframeDesk" "failures" "[I", .methodLink RX1 51 yX1_isWithin, .static yX1_isWithin, .initialized RX1, .code yX1_isWithin cX1_isWithin 2 (some .boolean)] ++ wsX10)
def wsX1_make : List Cond := .code yX1_make cX1_make 2 (some .int) :: ([.fieldLink RX1 15 "MainframeDesk" "made" "I", .fieldLink RX1 11 "MainframeDesk" "things" "[LMainframeDesk$Thing;", .classLink RX1 9 RX0, .instantiable RX0 3, .initialized RX0, .methodLink RX1 51 yX1_isWithin, .static yX1_isWithin, .initialized RX1, .code yX1_isWithin cX1_isWithin 2 (some .boolean), .instanceMethod yX0_init, .code yX0_init cX0_init 2 none, .methodLink RX0 1 objectInit, .instanceMethod objectInit, .code objectInit ⟨#[0xb1]⟩ 1 none, .fieldLink RX0 7 "MainframeDesk$Thing" "there" "Z", .fieldLink RX0 13 "MainframeDesk$Thing" "answered" "I", .fieldLink RX0 17 "MainframeDesk$Thing" "kind" "I"] ++ wsX10 ++ wsX00)
def wsX1_find : List Cond := .code yX1_find cX1_find 2 (some (.object "MainframeDesk$Thing")) :: ([.fieldLink RX1 15 "MainframeDesk" "made" "I", .fieldLink RX1 11 "MainframeDesk" "things" "[LMainframeDesk$Thing;"] ++ wsX10)
def wsX1_rowOf : List Cond := .code yX1_rowOf cX1_rowOf 1 (some .int) :: ([])
def wsX1_refusalOf : List Cond := .code yX1_refusalOf cX1_refusalOf 6 (some .int) :: ([.constantLong RX1 87 (1000000), .fieldLink RX1 19 "MainframeDesk" "rowCounts" "[I", .methodLink RX1 51 yX1_isWithin, .static yX1_isWithin, .initialized RX1, .code yX1_isWithin cX1_isWithin 2 (some .boolean), .methodLink RX1 89 yX1_rowOf, .static yX1_rowOf, .code yX1_rowOf cX1_rowOf 1 (some .int)] ++ wsX00 ++ wsX10)
def wsX1_hasRow : List Cond := .code yX1_hasRow cX1_hasRow 1 (some .boolean) :: ([])
def wsX1_outcomeOf : List Cond := .code yX1_outcomeOf cX1_outcomeOf 7 (some .long) :: ([.fieldLink RX1 30 "MainframeDesk" "failures" "[I", .fieldLink RX1 27 "MainframeDesk" "answers" "[J", .fieldLink RX1 23 "MainframeDesk" "rowSums" "[J", .methodLink RX1 93 yX1_hasRow, .static yX1_hasRow, .initialized RX1, .code yX1_hasRow cX1_hasRow 1 (some .boolean), .methodLink RX1 89 yX1_rowOf, .static yX1_rowOf, .code yX1_rowOf cX1_rowOf 1 (some .int)] ++ wsX10 ++ wsX00)
def wsX1_takeRow : List Cond := .code yX1_takeRow cX1_takeRow 2 none :: ([.fieldLink RX1 19 "MainframeDesk" "rowCounts" "[I", .fieldLink RX1 23 "MainframeDesk" "rowSums" "[J", .methodLink RX1 93 yX1_hasRow, .static yX1_hasRow, .initialized RX1, .code yX1_hasRow cX1_hasRow 1 (some .boolean), .methodLink RX1 89 yX1_rowOf, .static yX1_rowOf, .code yX1_rowOf cX1_rowOf 1 (some .int)] ++ wsX10)
def wsX1_tell : List Cond := .code yX1_tell cX1_tell 3 none :: ([.fieldLink RX1 30 "MainframeDesk" "failures" "[I", .fieldLink RX1 33 "MainframeDesk" "latestFailure" "I", .fieldLink RX1 36 "MainframeDesk" "latestFailedCall" "I", .fieldLink RX1 39 "MainframeDesk" "latestEndedThing" "I", .fieldLink RX1 42 "MainframeDesk" "failureCount" "I"] ++ wsX10)
def wsX1_call_r1 : List Cond := [Cond.fieldLink RX1 45 "MainframeDesk" "refusalCount" "I", Cond.fieldLink RX1 30 "MainframeDesk" "failures" "[I", Cond.fieldLink RX1 48 "MainframeDesk" "answerCount" "I", Cond.methodLink RX1 58 yX1_find, Cond.instanceMethod yX1_find, Cond.selects RX1 yX1_find yX1_find, Cond.initialized RX1, Cond.code yX1_find cX1_find 2 (some (.object "MainframeDesk$Thing")), Cond.fieldLink RX1 15 "MainframeDesk" "made" "I", Cond.fieldLink RX1 11 "MainframeDesk" "things" "[LMainframeDesk$Thing;", Cond.methodLink RX1 62 yX1_refusalOf, Cond.instanceMethod yX1_refusalOf, Cond.selects RX1 yX1_refusalOf yX1_refusalOf, Cond.code yX1_refusalOf cX1_refusalOf 6 (some .int), Cond.constantLong RX1 87 (1000000), Cond.fieldLink RX1 19 "MainframeDesk" "rowCounts" "[I", Cond.methodLink RX1 51 yX1_isWithin, Cond.static yX1_isWithin, Cond.code yX1_isWithin cX1_isWithin 2 (some .boolean), Cond.methodLink RX1 89 yX1_rowOf, Cond.static yX1_rowOf, Cond.code yX1_rowOf cX1_rowOf 1 (some .int), Cond.methodLink RX1 66 yX1_outcomeOf, Cond.instanceMethod yX1_outcomeOf]
def wsX1_call_r2 : List Cond := [Cond.selects RX1 yX1_outcomeOf yX1_outcomeOf, Cond.code yX1_outcomeOf cX1_outcomeOf 7 (some .long), Cond.fieldLink RX1 27 "MainframeDesk" "answers" "[J", Cond.fieldLink RX1 23 "MainframeDesk" "rowSums" "[J", Cond.methodLink RX1 93 yX1_hasRow, Cond.static yX1_hasRow, Cond.code yX1_hasRow cX1_hasRow 1 (some .boolean), Cond.methodLink RX1 70 yX1_takeRow, Cond.instanceMethod yX1_takeRow, Cond.selects RX1 yX1_takeRow yX1_takeRow, Cond.code yX1_takeRow cX1_takeRow 2 none, Cond.methodLink RX1 80 yX1_tell, Cond.instanceMethod yX1_tell, Cond.selects RX1 yX1_tell yX1_tell, Cond.code yX1_tell cX1_tell 3 none, Cond.fieldLink RX1 33 "MainframeDesk" "latestFailure" "I", Cond.fieldLink RX1 36 "MainframeDesk" "latestFailedCall" "I", Cond.fieldLink RX1 39 "MainframeDesk" "latestEndedThing" "I", Cond.fieldLink RX1 42 "MainframeDesk" "failureCount" "I"]
def wsX1_call : List Cond := .code yX1_call cX1_call 9 (some .long) :: ((wsX1_call_r1 ++ wsX1_call_r2) ++ wsX10 ++ wsX00)
def wsX1_told : List Cond := .code yX1_told cX1_told 2 (some .int) :: ([.fieldLink RX1 33 "MainframeDesk" "latestFailure" "I", .fieldLink RX1 36 "MainframeDesk" "latestFailedCall" "I", .fieldLink RX1 39 "MainframeDesk" "latestEndedThing" "I", .fieldLink RX1 42 "MainframeDesk" "failureCount" "I", .fieldLink RX1 45 "MainframeDesk" "refusalCount" "I", .fieldLink RX1 48 "MainframeDesk" "answerCount" "I"] ++ wsX10)
def wsX1_drop : List Cond := .code yX1_drop cX1_drop 3 (some .boolean) :: ([.methodLink RX1 58 yX1_find, .instanceMethod yX1_find, .selects RX1 yX1_find yX1_find, .initialized RX1, .code yX1_find cX1_find 2 (some (.object "MainframeDesk$Thing")), .fieldLink RX1 15 "MainframeDesk" "made" "I", .fieldLink RX1 11 "MainframeDesk" "things" "[LMainframeDesk$Thing;"] ++ wsX00 ++ wsX10)
def wsX1_numbers : List Cond := .code yX1_numbers cX1_numbers 5 (some .int) :: ([.fieldLink RX1 15 "MainframeDesk" "made" "I", .methodLink RX1 51 yX1_isWithin, .static yX1_isWithin, .initialized RX1, .code yX1_isWithin cX1_isWithin 2 (some .boolean), .methodLink RX1 58 yX1_find, .instanceMethod yX1_find, .selects RX1 yX1_find yX1_find, .code yX1_find cX1_find 2 (some (.object "MainframeDesk$Thing")), .fieldLink RX1 11 "MainframeDesk" "things" "[LMainframeDesk$Thing;"] ++ wsX10 ++ wsX00)
def wsX1_again_r1 : List Cond := [Cond.methodLink RX1 58 yX1_find, Cond.instanceMethod yX1_find, Cond.selects RX1 yX1_find yX1_find, Cond.initialized RX1, Cond.code yX1_find cX1_find 2 (some (.object "MainframeDesk$Thing")), Cond.fieldLink RX1 15 "MainframeDesk" "made" "I", Cond.fieldLink RX1 11 "MainframeDesk" "things" "[LMainframeDesk$Thing;", Cond.methodLink RX1 62 yX1_refusalOf, Cond.instanceMethod yX1_refusalOf, Cond.selects RX1 yX1_refusalOf yX1_refusalOf, Cond.code yX1_refusalOf cX1_refusalOf 6 (some .int), Cond.constantLong RX1 87 (1000000), Cond.fieldLink RX1 19 "MainframeDesk" "rowCounts" "[I", Cond.methodLink RX1 51 yX1_isWithin, Cond.static yX1_isWithin, Cond.code yX1_isWithin cX1_isWithin 2 (some .boolean), Cond.methodLink RX1 89 yX1_rowOf, Cond.static yX1_rowOf, Cond.code yX1_rowOf cX1_rowOf 1 (some .int), Cond.methodLink RX1 66 yX1_outcomeOf, Cond.instanceMethod yX1_outcomeOf, Cond.selects RX1 yX1_outcomeOf yX1_outcomeOf, Cond.code yX1_outcomeOf cX1_outcomeOf 7 (some .long), Cond.fieldLink RX1 30 "MainframeDesk" "failures" "[I"]
def wsX1_again_r2 : List Cond := [Cond.fieldLink RX1 27 "MainframeDesk" "answers" "[J", Cond.fieldLink RX1 23 "MainframeDesk" "rowSums" "[J", Cond.methodLink RX1 93 yX1_hasRow, Cond.static yX1_hasRow, Cond.code yX1_hasRow cX1_hasRow 1 (some .boolean)]
def wsX1_again : List Cond := .code yX1_again cX1_again 7 (some .long) :: ((wsX1_again_r1 ++ wsX1_again_r2) ++ wsX10 ++ wsX00)
def wsX2_init : List Cond := .code yX2_init cX2_init 1 none :: ([.methodLink RX2 1 objectInit, .instanceMethod objectInit, .code objectInit ⟨#[0xb1]⟩ 1 none, .arrayClass .long, .fieldLink RX2 7 "MainframeDeskModel" "sum" "[J", .arrayClass .int, .fieldLink RX2 13 "MainframeDeskModel" "many" "[I", .fieldLink RX2 17 "MainframeDeskModel" "answers" "[J", .fieldLink RX2 20 "MainframeDeskModel" "failures" "[I", .fieldLink RX2 23 "MainframeDeskModel" "kind" "[I", .arrayClass .boolean, .fieldLink RX2 26 "MainframeDeskModel" "there" "[Z", .fieldLink RX2 30 "MainframeDeskModel" "answered" "[J"] ++ wsX20)
def wsX2_below : List Cond := .code yX2_below cX2_below 2 (some .boolean) :: ([])
def wsX2_collect : List Cond := .code yX2_collect cX2_collect 4 (some .int) :: ([.fieldLink RX2 33 "MainframeDeskModel" "thrown" "I", .fieldLink RX2 13 "MainframeDeskModel" "many" "[I", .fieldLink RX2 7 "MainframeDeskModel" "sum" "[J", .methodLink RX2 37 yX2_below, .static yX2_below, .initialized RX2, .code yX2_below cX2_below 2 (some .boolean)] ++ wsX20)
def wsX2_answer : List Cond := .code yX2_answer cX2_answer 4 (some .int) :: ([.fieldLink RX2 33 "MainframeDeskModel" "thrown" "I", .fieldLink RX2 17 "MainframeDeskModel" "answers" "[J", .methodLink RX2 37 yX2_below, .static yX2_below, .initialized RX2, .code yX2_below cX2_below 2 (some .boolean)] ++ wsX20)
def wsX2_fails : List Cond := .code yX2_fails cX2_fails 4 (some .int) :: ([.fieldLink RX2 33 "MainframeDeskModel" "thrown" "I", .fieldLink RX2 20 "MainframeDeskModel" "failures" "[I", .methodLink RX2 37 yX2_below, .static yX2_below, .initialized RX2, .code yX2_below cX2_below 2 (some .boolean)] ++ wsX20)
def wsX2_make : List Cond := .code yX2_make cX2_make 2 (some .int) :: ([.fieldLink RX2 33 "MainframeDeskModel" "thrown" "I", .fieldLink RX2 41 "MainframeDeskModel" "made" "I", .fieldLink RX2 23 "MainframeDeskModel" "kind" "[I", .fieldLink RX2 26 "MainframeDeskModel" "there" "[Z", .fieldLink RX2 30 "MainframeDeskModel" "answered" "[J", .methodLink RX2 37 yX2_below, .static yX2_below, .initialized RX2, .code yX2_below cX2_below 2 (some .boolean)] ++ wsX20)
def wsX2_rowOf : List Cond := .code yX2_rowOf cX2_rowOf 1 (some .int) :: ([])
def wsX2_refusal : List Cond := .code yX2_refusal cX2_refusal 5 (some .int) :: ([.fieldLink RX2 41 "MainframeDeskModel" "made" "I", .fieldLink RX2 23 "MainframeDeskModel" "kind" "[I", .constantLong RX2 44 (1000000), .fieldLink RX2 26 "MainframeDeskModel" "there" "[Z", .fieldLink RX2 13 "MainframeDeskModel" "many" "[I", .methodLink RX2 37 yX2_below, .static yX2_below, .initialized RX2, .code yX2_below cX2_below 2 (some .boolean), .methodLink RX2 46 yX2_rowOf, .static yX2_rowOf, .code yX2_rowOf cX2_rowOf 1 (some .int)] ++ wsX20)
def wsX2_reckoned : List Cond := .code yX2_reckoned cX2_reckoned 7 (some .long) :: ([.fieldLink RX2 20 "MainframeDeskModel" "failures" "[I", .fieldLink RX2 54 "MainframeDeskModel" "way" "I", .fieldLink RX2 17 "MainframeDeskModel" "answers" "[J", .fieldLink RX2 7 "MainframeDeskModel" "sum" "[J", .fieldLink RX2 23 "MainframeDeskModel" "kind" "[I", .fieldLink RX2 30 "MainframeDeskModel" "answered" "[J", .methodLink RX2 50 yX2_refusal, .instanceMethod yX2_refusal, .selects RX2 yX2_refusal yX2_refusal, .initialized RX2, .code yX2_refusal cX2_refusal 5 (some .int), .fieldLink RX2 41 "MainframeDeskModel" "made" "I", .constantLong RX2 44 (1000000), .fieldLink RX2 26 "MainframeDeskModel" "there" "[Z", .fieldLink RX2 13 "MainframeDeskModel" "many" "[I", .methodLink RX2 37 yX2_below, .static yX2_below, .code yX2_below cX2_below 2 (some .boolean), .methodLink RX2 46 yX2_rowOf, .static yX2_rowOf, .code yX2_rowOf cX2_rowOf 1 (some .int)] ++ wsX20)
def wsX2_again_r1 : List Cond := [Cond.fieldLink RX2 33 "MainframeDeskModel" "thrown" "I", Cond.methodLink RX2 57 yX2_reckoned, Cond.instanceMethod yX2_reckoned, Cond.selects RX2 yX2_reckoned yX2_reckoned, Cond.initialized RX2, Cond.code yX2_reckoned cX2_reckoned 7 (some .long), Cond.fieldLink RX2 20 "MainframeDeskModel" "failures" "[I", Cond.fieldLink RX2 54 "MainframeDeskModel" "way" "I", Cond.fieldLink RX2 17 "MainframeDeskModel" "answers" "[J", Cond.fieldLink RX2 7 "MainframeDeskModel" "sum" "[J", Cond.fieldLink RX2 23 "MainframeDeskModel" "kind" "[I", Cond.fieldLink RX2 30 "MainframeDeskModel" "answered" "[J", Cond.methodLink RX2 50 yX2_refusal, Cond.instanceMethod yX2_refusal, Cond.selects RX2 yX2_refusal yX2_refusal, Cond.code yX2_refusal cX2_refusal 5 (some .int), Cond.fieldLink RX2 41 "MainframeDeskModel" "made" "I", Cond.constantLong RX2 44 (1000000), Cond.fieldLink RX2 26 "MainframeDeskModel" "there" "[Z", Cond.fieldLink RX2 13 "MainframeDeskModel" "many" "[I", Cond.methodLink RX2 37 yX2_below, Cond.static yX2_below, Cond.code yX2_below cX2_below 2 (some .boolean), Cond.methodLink RX2 46 yX2_rowOf]
def wsX2_again_r2 : List Cond := [Cond.static yX2_rowOf, Cond.code yX2_rowOf cX2_rowOf 1 (some .int)]
def wsX2_again : List Cond := .code yX2_again cX2_again 5 (some .long) :: ((wsX2_again_r1 ++ wsX2_again_r2) ++ wsX20)
def wsX2_call_r1 : List Cond := [Cond.fieldLink RX2 33 "MainframeDeskModel" "thrown" "I", Cond.fieldLink RX2 54 "MainframeDeskModel" "way" "I", Cond.fieldLink RX2 61 "MainframeDeskModel" "refused" "I", Cond.fieldLink RX2 7 "MainframeDeskModel" "sum" "[J", Cond.fieldLink RX2 13 "MainframeDeskModel" "many" "[I", Cond.fieldLink RX2 30 "MainframeDeskModel" "answered" "[J", Cond.fieldLink RX2 64 "MainframeDeskModel" "done" "I", Cond.fieldLink RX2 26 "MainframeDeskModel" "there" "[Z", Cond.fieldLink RX2 20 "MainframeDeskModel" "failures" "[I", Cond.fieldLink RX2 67 "MainframeDeskModel" "latest" "I", Cond.fieldLink RX2 70 "MainframeDeskModel" "latestCall" "I", Cond.fieldLink RX2 73 "MainframeDeskModel" "latestThing" "I", Cond.fieldLink RX2 76 "MainframeDeskModel" "failed" "I", Cond.methodLink RX2 57 yX2_reckoned, Cond.instanceMethod yX2_reckoned, Cond.selects RX2 yX2_reckoned yX2_reckoned, Cond.initialized RX2, Cond.code yX2_reckoned cX2_reckoned 7 (some .long), Cond.fieldLink RX2 17 "MainframeDeskModel" "answers" "[J", Cond.fieldLink RX2 23 "MainframeDeskModel" "kind" "[I", Cond.methodLink RX2 50 yX2_refusal, Cond.instanceMethod yX2_refusal, Cond.selects RX2 yX2_refusal yX2_refusal, Cond.code yX2_refusal cX2_refusal 5 (some .int)]
def wsX2_call_r2 : List Cond := [Cond.fieldLink RX2 41 "MainframeDeskModel" "made" "I", Cond.constantLong RX2 44 (1000000), Cond.methodLink RX2 37 yX2_below, Cond.static yX2_below, Cond.code yX2_below cX2_below 2 (some .boolean), Cond.methodLink RX2 46 yX2_rowOf, Cond.static yX2_rowOf, Cond.code yX2_rowOf cX2_rowOf 1 (some .int)]
def wsX2_call : List Cond := .code yX2_call cX2_call 8 (some .long) :: ((wsX2_call_r1 ++ wsX2_call_r2) ++ wsX20)
def wsX2_told : List Cond := .code yX2_told cX2_told 2 (some .int) :: ([.fieldLink RX2 33 "MainframeDeskModel" "thrown" "I", .fieldLink RX2 67 "MainframeDeskModel" "latest" "I", .fieldLink RX2 70 "MainframeDeskModel" "latestCall" "I", .fieldLink RX2 73 "MainframeDeskModel" "latestThing" "I", .fieldLink RX2 76 "MainframeDeskModel" "failed" "I", .fieldLink RX2 61 "MainframeDeskModel" "refused" "I", .fieldLink RX2 64 "MainframeDeskModel" "done" "I"] ++ wsX20)
def wsX2_drop : List Cond := .code yX2_drop cX2_drop 2 (some .boolean) :: ([.fieldLink RX2 33 "MainframeDeskModel" "thrown" "I", .fieldLink RX2 41 "MainframeDeskModel" "made" "I", .fieldLink RX2 26 "MainframeDeskModel" "there" "[Z"] ++ wsX20)
def wsL_law_r1 : List Cond := [Cond.classLink RL 7 RX1, Cond.instantiable RX1 12, Cond.initialized RX1, Cond.classLink RL 10 RX2, Cond.instantiable RX2 16, Cond.initialized RX2, Cond.methodLink RL 9 yX1_init, Cond.instanceMethod yX1_init, Cond.code yX1_init cX1_init 1 none, Cond.methodLink RX1 1 objectInit, Cond.instanceMethod objectInit, Cond.code objectInit ⟨#[0xb1]⟩ 1 none, Cond.classLink RX1 9 RX0, Cond.fieldLink RX1 11 "MainframeDesk" "things" "[LMainframeDesk$Thing;", Cond.fieldLink RX1 15 "MainframeDesk" "made" "I", Cond.arrayClass .int, Cond.fieldLink RX1 19 "MainframeDesk" "rowCounts" "[I", Cond.arrayClass .long, Cond.fieldLink RX1 23 "MainframeDesk" "rowSums" "[J", Cond.fieldLink RX1 27 "MainframeDesk" "answers" "[J", Cond.fieldLink RX1 30 "MainframeDesk" "failures" "[I", Cond.fieldLink RX1 33 "MainframeDesk" "latestFailure" "I", Cond.fieldLink RX1 36 "MainframeDesk" "latestFailedCall" "I", Cond.fieldLink RX1 39 "MainframeDesk" "latestEndedThing" "I"]
def wsL_law_r2 : List Cond := [Cond.fieldLink RX1 42 "MainframeDesk" "failureCount" "I", Cond.fieldLink RX1 45 "MainframeDesk" "refusalCount" "I", Cond.fieldLink RX1 48 "MainframeDesk" "answerCount" "I", Cond.methodLink RL 12 yX2_init, Cond.instanceMethod yX2_init, Cond.code yX2_init cX2_init 1 none, Cond.methodLink RX2 1 objectInit, Cond.fieldLink RX2 7 "MainframeDeskModel" "sum" "[J", Cond.fieldLink RX2 13 "MainframeDeskModel" "many" "[I", Cond.fieldLink RX2 17 "MainframeDeskModel" "answers" "[J", Cond.fieldLink RX2 20 "MainframeDeskModel" "failures" "[I", Cond.fieldLink RX2 23 "MainframeDeskModel" "kind" "[I", Cond.arrayClass .boolean, Cond.fieldLink RX2 26 "MainframeDeskModel" "there" "[Z", Cond.fieldLink RX2 30 "MainframeDeskModel" "answered" "[J", Cond.methodLink RL 15 yX1_collect, Cond.instanceMethod yX1_collect, Cond.selects RX1 yX1_collect yX1_collect, Cond.code yX1_collect cX1_collect 4 (some .int), Cond.methodLink RX1 51 yX1_isWithin, Cond.static yX1_isWithin, Cond.code yX1_isWithin cX1_isWithin 2 (some .boolean), Cond.methodLink RL 19 yX2_collect, Cond.instanceMethod yX2_collect]
def wsL_law_r3 : List Cond := [Cond.selects RX2 yX2_collect yX2_collect, Cond.code yX2_collect cX2_collect 4 (some .int), Cond.fieldLink RX2 33 "MainframeDeskModel" "thrown" "I", Cond.methodLink RX2 37 yX2_below, Cond.static yX2_below, Cond.code yX2_below cX2_below 2 (some .boolean), Cond.methodLink RL 20 yX1_answer, Cond.instanceMethod yX1_answer, Cond.selects RX1 yX1_answer yX1_answer, Cond.code yX1_answer cX1_answer 4 (some .int), Cond.methodLink RL 23 yX2_answer, Cond.instanceMethod yX2_answer, Cond.selects RX2 yX2_answer yX2_answer, Cond.code yX2_answer cX2_answer 4 (some .int), Cond.methodLink RL 24 yX1_fails, Cond.instanceMethod yX1_fails, Cond.selects RX1 yX1_fails yX1_fails, Cond.code yX1_fails cX1_fails 4 (some .int), Cond.methodLink RL 28 yX2_fails, Cond.instanceMethod yX2_fails, Cond.selects RX2 yX2_fails yX2_fails, Cond.code yX2_fails cX2_fails 4 (some .int), Cond.methodLink RL 29 yX1_make, Cond.instanceMethod yX1_make]
def wsL_law_r4 : List Cond := [Cond.selects RX1 yX1_make yX1_make, Cond.code yX1_make cX1_make 2 (some .int), Cond.instantiable RX0 3, Cond.initialized RX0, Cond.instanceMethod yX0_init, Cond.code yX0_init cX0_init 2 none, Cond.methodLink RX0 1 objectInit, Cond.fieldLink RX0 7 "MainframeDesk$Thing" "there" "Z", Cond.fieldLink RX0 13 "MainframeDesk$Thing" "answered" "I", Cond.fieldLink RX0 17 "MainframeDesk$Thing" "kind" "I", Cond.methodLink RL 33 yX2_make, Cond.instanceMethod yX2_make, Cond.selects RX2 yX2_make yX2_make, Cond.code yX2_make cX2_make 2 (some .int), Cond.fieldLink RX2 41 "MainframeDeskModel" "made" "I", Cond.methodLink RL 34 yX1_call, Cond.instanceMethod yX1_call, Cond.selects RX1 yX1_call yX1_call, Cond.code yX1_call cX1_call 9 (some .long), Cond.methodLink RX1 58 yX1_find, Cond.instanceMethod yX1_find, Cond.selects RX1 yX1_find yX1_find, Cond.code yX1_find cX1_find 2 (some (.object "MainframeDesk$Thing")), Cond.methodLink RX1 62 yX1_refusalOf]
def wsL_law_r5 : List Cond := [Cond.instanceMethod yX1_refusalOf, Cond.selects RX1 yX1_refusalOf yX1_refusalOf, Cond.code yX1_refusalOf cX1_refusalOf 6 (some .int), Cond.constantLong RX1 87 (1000000), Cond.methodLink RX1 89 yX1_rowOf, Cond.static yX1_rowOf, Cond.code yX1_rowOf cX1_rowOf 1 (some .int), Cond.methodLink RX1 66 yX1_outcomeOf, Cond.instanceMethod yX1_outcomeOf, Cond.selects RX1 yX1_outcomeOf yX1_outcomeOf, Cond.code yX1_outcomeOf cX1_outcomeOf 7 (some .long), Cond.methodLink RX1 93 yX1_hasRow, Cond.static yX1_hasRow, Cond.code yX1_hasRow cX1_hasRow 1 (some .boolean), Cond.methodLink RX1 70 yX1_takeRow, Cond.instanceMethod yX1_takeRow, Cond.selects RX1 yX1_takeRow yX1_takeRow, Cond.code yX1_takeRow cX1_takeRow 2 none, Cond.methodLink RX1 80 yX1_tell, Cond.instanceMethod yX1_tell, Cond.selects RX1 yX1_tell yX1_tell, Cond.code yX1_tell cX1_tell 3 none, Cond.methodLink RL 38 yX2_call, Cond.instanceMethod yX2_call]
def wsL_law_r6 : List Cond := [Cond.selects RX2 yX2_call yX2_call, Cond.code yX2_call cX2_call 8 (some .long), Cond.fieldLink RX2 54 "MainframeDeskModel" "way" "I", Cond.fieldLink RX2 61 "MainframeDeskModel" "refused" "I", Cond.fieldLink RX2 64 "MainframeDeskModel" "done" "I", Cond.fieldLink RX2 67 "MainframeDeskModel" "latest" "I", Cond.fieldLink RX2 70 "MainframeDeskModel" "latestCall" "I", Cond.fieldLink RX2 73 "MainframeDeskModel" "latestThing" "I", Cond.fieldLink RX2 76 "MainframeDeskModel" "failed" "I", Cond.methodLink RX2 57 yX2_reckoned, Cond.instanceMethod yX2_reckoned, Cond.selects RX2 yX2_reckoned yX2_reckoned, Cond.code yX2_reckoned cX2_reckoned 7 (some .long), Cond.methodLink RX2 50 yX2_refusal, Cond.instanceMethod yX2_refusal, Cond.selects RX2 yX2_refusal yX2_refusal, Cond.code yX2_refusal cX2_refusal 5 (some .int), Cond.constantLong RX2 44 (1000000), Cond.methodLink RX2 46 yX2_rowOf, Cond.static yX2_rowOf, Cond.code yX2_rowOf cX2_rowOf 1 (some .int), Cond.methodLink RL 39 yX1_told, Cond.instanceMethod yX1_told, Cond.selects RX1 yX1_told yX1_told]
def wsL_law_r7 : List Cond := [Cond.code yX1_told cX1_told 2 (some .int), Cond.methodLink RL 42 yX2_told, Cond.instanceMethod yX2_told, Cond.selects RX2 yX2_told yX2_told, Cond.code yX2_told cX2_told 2 (some .int), Cond.methodLink RL 43 yX1_drop, Cond.instanceMethod yX1_drop, Cond.selects RX1 yX1_drop yX1_drop, Cond.code yX1_drop cX1_drop 3 (some .boolean), Cond.methodLink RL 47 yX2_drop, Cond.instanceMethod yX2_drop, Cond.selects RX2 yX2_drop yX2_drop, Cond.code yX2_drop cX2_drop 2 (some .boolean), Cond.methodLink RL 48 yX1_numbers, Cond.instanceMethod yX1_numbers, Cond.selects RX1 yX1_numbers yX1_numbers, Cond.code yX1_numbers cX1_numbers 5 (some .int), Cond.methodLink RL 52 yX1_again, Cond.instanceMethod yX1_again, Cond.selects RX1 yX1_again yX1_again, Cond.code yX1_again cX1_again 7 (some .long), Cond.methodLink RL 55 yX2_again, Cond.instanceMethod yX2_again, Cond.selects RX2 yX2_again yX2_again]
def wsL_law_r8 : List Cond := [Cond.code yX2_again cX2_again 5 (some .long)]
def wsL_law : List Cond := (wsL_law_r1 ++ (wsL_law_r2 ++ (wsL_law_r3 ++ (wsL_law_r4 ++ (wsL_law_r5 ++ (wsL_law_r6 ++ (wsL_law_r7 ++ wsL_law_r8))))))) ++ wsX10 ++ wsX20 ++ wsX00 ++ ([] : List Cond)
set_option maxRecDepth 20000 in
theorem wsL_law_in : ∀ w ∈ wsL_law, w ∈ lw_tbl := fun w h => (goodIn_p wsL_law [15, 18, 148, 63, 66, 203, 206, 70, 210, 74, 214, 78, 82, 218, 100, 104, 108, 112, 116, 119, 123, 127, 238, 226, 230, 234, 131, 242, 135, 246, 139, 143, 222] (by decide +kernel) (by decide +kernel) w h).1
theorem inlX0 : ∀ w ∈ wsX00, w ∈ wsL_law := fun _ h => List.mem_append_left _ (List.mem_append_right _ h)
theorem inX0 : ∀ w ∈ wsX00, w ∈ lw_tbl := fun w h => wsL_law_in w (inlX0 w h)
theorem inlX1 : ∀ w ∈ wsX10, w ∈ wsL_law := fun _ h => List.mem_append_left _ (List.mem_append_left _ (List.mem_append_left _ (List.mem_append_right _ h)))
theorem inX1 : ∀ w ∈ wsX10, w ∈ lw_tbl := fun w h => wsL_law_in w (inlX1 w h)
theorem inlX2 : ∀ w ∈ wsX20, w ∈ wsL_law := fun _ h => List.mem_append_left _ (List.mem_append_left _ (List.mem_append_right _ h))
theorem inX2 : ∀ w ∈ wsX20, w ∈ lw_tbl := fun w h => wsL_law_in w (inlX2 w h)
abbrev cX2_numbers : ByteArray := prog_4_method_15_code
def yX2_numbers : MethodName := ⟨RX2, "numbers", "(I)I"⟩
def wsX2_numbers : List Cond := .code yX2_numbers cX2_numbers 4 (some .int) :: ([.fieldLink RX2 33 "MainframeDeskModel" "thrown" "I", .fieldLink RX2 41 "MainframeDeskModel" "made" "I", .fieldLink RX2 26 "MainframeDeskModel" "there" "[Z", .fieldLink RX2 23 "MainframeDeskModel" "kind" "[I", .methodLink RX2 37 yX2_below, .static yX2_below, .initialized RX2, .code yX2_below cX2_below 2 (some .boolean)] ++ wsX20)
abbrev vwCl : List vw_C := [(RX0, TX0, 3), (RX1, TX1, 12), (RX2, TX2, 16)]
