/-! ===== BEGIN words of one list among another's, by their places ===== -/
theorem goodIn_r {big : List Cond} (ws : List Cond) (ps : List Nat) (hp : ws = ps.filterMap (fun i => big[i]?)) (h : ws.all goodWord = true) : GoodIn big ws := by
  intro w hw
  have h1 := List.all_eq_true.mp h w hw
  rw [hp] at hw
  obtain ⟨i, -, hi⟩ := List.mem_filterMap.mp hw
  have hm : w ∈ big := by first | exact List.mem_of_getElem? hi | exact List.getElem?_mem hi
  exact ⟨hm, good_of_word h1⟩
theorem goodIn_app {big a b : List Cond} (ha : GoodIn big a) (hb : GoodIn big b) : GoodIn big (a ++ b) := fun w h => (List.mem_append.mp h).elim (ha w) (hb w)
theorem goodIn_ca {big a b : List Cond} {c : Cond} (ha : GoodIn big (c :: a)) (hb : GoodIn big b) : GoodIn big (c :: (a ++ b)) := fun w h => (List.mem_cons.mp h).elim (fun e => ha w (List.mem_cons.mpr (Or.inl e))) (fun h => (List.mem_append.mp h).elim (fun h => ha w (List.mem_cons.mpr (Or.inr h))) (hb w))
theorem goodIn_sub {big ws : List Cond} (hm : ∀ w ∈ ws, w ∈ big) (h : ws.all goodWord = true) : GoodIn big ws := fun w hw => ⟨hm w hw, good_of_word (List.all_eq_true.mp h w hw)⟩
/-! ===== END ===== -/
/-! ===== BEGIN printed: names, fields, word lists, decode rows ===== -/
def RX0 : String := "TunerBench$Guard"
def TX0 : u_T := fun k => match k with
  | 0 => ("TunerBench$Guard", "what", "I", true)
  | 1 => ("TunerBench$Guard", "how", "I", true)
  | 2 => ("TunerBench$Guard", "copy", "I", true)
  | 3 => ("TunerBench$Guard", "mode", "I", true)
  | 4 => ("TunerBench$Guard", "stood", "Z", false)
  | _ => ("TunerBench$Guard", "rang", "I", false)
def tyX0 : Nat → FieldType := fun k => match k with
  | 0 => .int
  | 1 => .int
  | 2 => .int
  | 3 => .int
  | 4 => .boolean
  | _ => .int
abbrev wsX00 : List Cond := u_ws RX0 TX0 6
theorem nmX0 : ∀ a, a < 6 → ∀ b, b < 6 → a ≠ b → (TX0 a).2.1 ≠ (TX0 b).2.1 := by decide +kernel
theorem tyX0_ok : ∀ k, k < 6 → parseFieldDescriptor (TX0 k).2.2.1 = some (tyX0 k) := by decide +kernel
abbrev cX0_init : ByteArray := prog_2_method_1_code
def yX0_init : MethodName := ⟨RX0, "<init>", "(IIII)V"⟩
def RX1 : String := "TunerBench"
def TX1 : u_T := fun k => match k with
  | 0 => ("TunerBench", "values", "[[I", true)
  | 1 => ("TunerBench", "guards", "[LTunerBench$Guard;", true)
  | 2 => ("TunerBench", "denials", "I", false)
  | 3 => ("TunerBench", "latestTruth", "I", false)
  | _ => ("TunerBench", "changes", "I", false)
def tyX1 : Nat → FieldType := fun k => match k with
  | 0 => .array (.array .int)
  | 1 => .array (.object "TunerBench$Guard")
  | 2 => .int
  | 3 => .int
  | _ => .int
abbrev wsX10 : List Cond := u_ws RX1 TX1 5
theorem nmX1 : ∀ a, a < 5 → ∀ b, b < 5 → a ≠ b → (TX1 a).2.1 ≠ (TX1 b).2.1 := by decide +kernel
theorem tyX1_ok : ∀ k, k < 5 → parseFieldDescriptor (TX1 k).2.2.1 = some (tyX1 k) := by decide +kernel
abbrev cX1_init : ByteArray := prog_1_method_1_code
def yX1_init : MethodName := ⟨RX1, "<init>", "()V"⟩
abbrev cX1_put : ByteArray := prog_1_method_2_code
def yX1_put : MethodName := ⟨RX1, "put", "(IIII)Z"⟩
abbrev cX1_sort : ByteArray := prog_1_method_3_code
def yX1_sort : MethodName := ⟨RX1, "sort", "(II)I"⟩
abbrev cX1_quarters : ByteArray := prog_1_method_4_code
def yX1_quarters : MethodName := ⟨RX1, "quarters", "(II)I"⟩
abbrev cX1_holds : ByteArray := prog_1_method_5_code
def yX1_holds : MethodName := ⟨RX1, "holds", "(IIII)I"⟩
abbrev cX1_denies : ByteArray := prog_1_method_6_code
def yX1_denies : MethodName := ⟨RX1, "denies", "(IIII)I"⟩
abbrev cX1_pick : ByteArray := prog_1_method_7_code
def yX1_pick : MethodName := ⟨RX1, "pick", "(IIII)I"⟩
abbrev cX1_climb : ByteArray := prog_1_method_8_code
def yX1_climb : MethodName := ⟨RX1, "climb", "(III)I"⟩
abbrev cX1_first : ByteArray := prog_1_method_9_code
def yX1_first : MethodName := ⟨RX1, "first", "(IIIZ)I"⟩
abbrev cX1_best : ByteArray := prog_1_method_10_code
def yX1_best : MethodName := ⟨RX1, "best", "(IIZ)I"⟩
abbrev cX1_pass : ByteArray := prog_1_method_11_code
def yX1_pass : MethodName := ⟨RX1, "pass", "(IIII)I"⟩
abbrev cX1_within : ByteArray := prog_1_method_12_code
def yX1_within : MethodName := ⟨RX1, "within", "(IIII)I"⟩
abbrev cX1_guard : ByteArray := prog_1_method_13_code
def yX1_guard : MethodName := ⟨RX1, "guard", "(IIIII)Z"⟩
abbrev cX1_look : ByteArray := prog_1_method_14_code
def yX1_look : MethodName := ⟨RX1, "look", "()I"⟩
abbrev cX1_rings : ByteArray := prog_1_method_15_code
def yX1_rings : MethodName := ⟨RX1, "rings", "(I)I"⟩
abbrev cX1_strike : ByteArray := prog_1_method_16_code
def yX1_strike : MethodName := ⟨RX1, "strike", "(I)Z"⟩
abbrev cX1_count : ByteArray := prog_1_method_17_code
def yX1_count : MethodName := ⟨RX1, "count", "(I)I"⟩
abbrev cX1_isWhat : ByteArray := prog_1_method_18_code
def yX1_isWhat : MethodName := ⟨RX1, "isWhat", "(I)Z"⟩
abbrev cX1_isHow : ByteArray := prog_1_method_19_code
def yX1_isHow : MethodName := ⟨RX1, "isHow", "(I)Z"⟩
abbrev cX1_isQuestion : ByteArray := prog_1_method_20_code
def yX1_isQuestion : MethodName := ⟨RX1, "isQuestion", "(II)Z"⟩
abbrev cX1_isString : ByteArray := prog_1_method_21_code
def yX1_isString : MethodName := ⟨RX1, "isString", "(I)Z"⟩
abbrev cX1_isStringOrFork : ByteArray := prog_1_method_22_code
def yX1_isStringOrFork : MethodName := ⟨RX1, "isStringOrFork", "(I)Z"⟩
abbrev cX1_isGuard : ByteArray := prog_1_method_23_code
def yX1_isGuard : MethodName := ⟨RX1, "isGuard", "(I)Z"⟩
abbrev cX1_isMode : ByteArray := prog_1_method_24_code
def yX1_isMode : MethodName := ⟨RX1, "isMode", "(I)Z"⟩
abbrev cX1_isValue : ByteArray := prog_1_method_25_code
def yX1_isValue : MethodName := ⟨RX1, "isValue", "(II)Z"⟩
abbrev cX1_valueOf : ByteArray := prog_1_method_26_code
def yX1_valueOf : MethodName := ⟨RX1, "valueOf", "(II)I"⟩
abbrev cX1_sortOf : ByteArray := prog_1_method_27_code
def yX1_sortOf : MethodName := ⟨RX1, "sortOf", "(I)I"⟩
abbrev cX1_sizeOf : ByteArray := prog_1_method_28_code
def yX1_sizeOf : MethodName := ⟨RX1, "sizeOf", "(I)I"⟩
abbrev cX1_stands : ByteArray := prog_1_method_29_code
def yX1_stands : MethodName := ⟨RX1, "stands", "(IIII)Z"⟩
abbrev cX1_valueStands : ByteArray := prog_1_method_30_code
def yX1_valueStands : MethodName := ⟨RX1, "valueStands", "(III)Z"⟩
abbrev cX1_sizeStands : ByteArray := prog_1_method_31_code
def yX1_sizeStands : MethodName := ⟨RX1, "sizeStands", "(III)Z"⟩
abbrev cX1_changeWithNext : ByteArray := prog_1_method_32_code
def yX1_changeWithNext : MethodName := ⟨RX1, "changeWithNext", "(II)V"⟩
abbrev cX1_ringsNow : ByteArray := prog_1_method_33_code
def yX1_ringsNow : MethodName := ⟨RX1, "ringsNow", "(LTunerBench$Guard;)Z"⟩
abbrev cX1_isRung : ByteArray := prog_1_method_34_code
def yX1_isRung : MethodName := ⟨RX1, "isRung", "(IZZ)Z"⟩
abbrev cX1_guardsSet : ByteArray := prog_1_method_35_code
def yX1_guardsSet : MethodName := ⟨RX1, "guardsSet", "()I"⟩
def RX2 : String := "TunerBenchModel"
def TX2 : u_T := fun k => match k with
  | 0 => ("TunerBenchModel", "sorts", "[I", true)
  | 1 => ("TunerBenchModel", "quarters", "[I", true)
  | 2 => ("TunerBenchModel", "denials", "I", false)
  | 3 => ("TunerBenchModel", "latest", "I", false)
  | 4 => ("TunerBenchModel", "changes", "I", false)
  | 5 => ("TunerBenchModel", "guards", "I", false)
  | 6 => ("TunerBenchModel", "isSet", "[Z", true)
  | 7 => ("TunerBenchModel", "what", "[I", true)
  | 8 => ("TunerBenchModel", "how", "[I", true)
  | 9 => ("TunerBenchModel", "mode", "[I", true)
  | 10 => ("TunerBenchModel", "keptSort", "[I", true)
  | 11 => ("TunerBenchModel", "keptQuarters", "[I", true)
  | 12 => ("TunerBenchModel", "did", "[Z", true)
  | _ => ("TunerBenchModel", "rings", "[I", true)
def tyX2 : Nat → FieldType := fun k => match k with
  | 0 => .array .int
  | 1 => .array .int
  | 2 => .int
  | 3 => .int
  | 4 => .int
  | 5 => .int
  | 6 => .array .boolean
  | 7 => .array .int
  | 8 => .array .int
  | 9 => .array .int
  | 10 => .array .int
  | 11 => .array .int
  | 12 => .array .boolean
  | _ => .array .int
abbrev wsX20 : List Cond := u_ws RX2 TX2 14
theorem nmX2 : ∀ a, a < 14 → ∀ b, b < 14 → a ≠ b → (TX2 a).2.1 ≠ (TX2 b).2.1 := by decide +kernel
theorem tyX2_ok : ∀ k, k < 14 → parseFieldDescriptor (TX2 k).2.2.1 = some (tyX2 k) := by decide +kernel
abbrev cX2_init : ByteArray := prog_4_method_1_code
def yX2_init : MethodName := ⟨RX2, "<init>", "()V"⟩
abbrev cX2_in : ByteArray := prog_4_method_2_code
def yX2_in : MethodName := ⟨RX2, "in", "(III)Z"⟩
abbrev cX2_isString : ByteArray := prog_4_method_3_code
def yX2_isString : MethodName := ⟨RX2, "isString", "(I)Z"⟩
abbrev cX2_isStringOrFork : ByteArray := prog_4_method_4_code
def yX2_isStringOrFork : MethodName := ⟨RX2, "isStringOrFork", "(I)Z"⟩
abbrev cX2_isAsked : ByteArray := prog_4_method_5_code
def yX2_isAsked : MethodName := ⟨RX2, "isAsked", "(II)Z"⟩
abbrev cX2_at : ByteArray := prog_4_method_6_code
def yX2_at : MethodName := ⟨RX2, "at", "(II)I"⟩
abbrev cX2_place : ByteArray := prog_4_method_7_code
def yX2_place : MethodName := ⟨RX2, "place", "(II)I"⟩
abbrev cX2_goes : ByteArray := prog_4_method_8_code
def yX2_goes : MethodName := ⟨RX2, "goes", "(IIIII)Z"⟩
abbrev cX2_stands : ByteArray := prog_4_method_9_code
def yX2_stands : MethodName := ⟨RX2, "stands", "(IIII)Z"⟩
abbrev cX2_put : ByteArray := prog_4_method_10_code
def yX2_put : MethodName := ⟨RX2, "put", "(IIII)Z"⟩
abbrev cX2_sort : ByteArray := prog_4_method_11_code
def yX2_sort : MethodName := ⟨RX2, "sort", "(II)I"⟩
abbrev cX2_quarters : ByteArray := prog_4_method_12_code
def yX2_quarters : MethodName := ⟨RX2, "quarters", "(II)I"⟩
abbrev cX2_holds : ByteArray := prog_4_method_13_code
def yX2_holds : MethodName := ⟨RX2, "holds", "(IIII)I"⟩
abbrev cX2_denies : ByteArray := prog_4_method_14_code
def yX2_denies : MethodName := ⟨RX2, "denies", "(IIII)I"⟩
abbrev cX2_pick : ByteArray := prog_4_method_15_code
def yX2_pick : MethodName := ⟨RX2, "pick", "(IIII)I"⟩
abbrev cX2_climb : ByteArray := prog_4_method_16_code
def yX2_climb : MethodName := ⟨RX2, "climb", "(III)I"⟩
abbrev cX2_first : ByteArray := prog_4_method_17_code
def yX2_first : MethodName := ⟨RX2, "first", "(IIIZ)I"⟩
abbrev cX2_best : ByteArray := prog_4_method_18_code
def yX2_best : MethodName := ⟨RX2, "best", "(IIZ)I"⟩
abbrev cX2_pass : ByteArray := prog_4_method_19_code
def yX2_pass : MethodName := ⟨RX2, "pass", "(IIII)I"⟩
abbrev cX2_within : ByteArray := prog_4_method_20_code
def yX2_within : MethodName := ⟨RX2, "within", "(IIII)I"⟩
abbrev cX2_guard : ByteArray := prog_4_method_21_code
def yX2_guard : MethodName := ⟨RX2, "guard", "(IIIII)Z"⟩
abbrev cX2_look : ByteArray := prog_4_method_22_code
def yX2_look : MethodName := ⟨RX2, "look", "()I"⟩
abbrev cX2_rings : ByteArray := prog_4_method_23_code
def yX2_rings : MethodName := ⟨RX2, "rings", "(I)I"⟩
abbrev cX2_strike : ByteArray := prog_4_method_24_code
def yX2_strike : MethodName := ⟨RX2, "strike", "(I)Z"⟩
abbrev cX2_count : ByteArray := prog_4_method_25_code
def yX2_count : MethodName := ⟨RX2, "count", "(I)I"⟩
def RJ7 : String := "java/util/Arrays"
def TJ7 : u_T := fun k => match k with
  | _ => ("", "", "", false)
def tyJ7 : Nat → FieldType := fun k => match k with
  | _ => .int
abbrev wsJ70 : List Cond := u_ws RJ7 TJ7 0
theorem nmJ7 : ∀ a, a < 0 → ∀ b, b < 0 → a ≠ b → (TJ7 a).2.1 ≠ (TJ7 b).2.1 := by decide +kernel
theorem tyJ7_ok : ∀ k, k < 0 → parseFieldDescriptor (TJ7 k).2.2.1 = some (tyJ7 k) := by decide +kernel
abbrev cJ7_fill_53178 : ByteArray := prog_5_method_103_code
def yJ7_fill_53178 : MethodName := ⟨RJ7, "fill", "([II)V"⟩
def RL : String := "TunerBenchLaw"
abbrev cL_law : ByteArray := code
def yL_law : MethodName := ⟨RL, "law", "([I)Z"⟩
def wsX0_init : List Cond := .code yX0_init cX0_init 5 none :: ([.methodLink RX0 1 objectInit, .instanceMethod objectInit, .code objectInit ⟨#[0xb1]⟩ 1 none, .fieldLink RX0 7 "TunerBench$Guard" "stood" "Z", .fieldLink RX0 13 "TunerBench$Guard" "rang" "I", .fieldLink RX0 17 "TunerBench$Guard" "what" "I", .fieldLink RX0 20 "TunerBench$Guard" "how" "I", .fieldLink RX0 23 "TunerBench$Guard" "copy" "I", .fieldLink RX0 26 "TunerBench$Guard" "mode" "I"] ++ wsX00)
def wsJ7_fill_53178 : List Cond := .code yJ7_fill_53178 cJ7_fill_53178 4 none :: ([])
def wsX1_init : List Cond := .code yX1_init cX1_init 2 none :: ([.methodLink RX1 3 objectInit, .instanceMethod objectInit, .code objectInit ⟨#[0xb1]⟩ 1 none, .classLink RX1 9 "[[I", .arrayClass .int, .fieldLink RX1 11 "TunerBench" "values" "[[I", .classLink RX1 14 RX0, .fieldLink RX1 16 "TunerBench" "guards" "[LTunerBench$Guard;", .fieldLink RX1 20 "TunerBench" "denials" "I", .fieldLink RX1 24 "TunerBench" "latestTruth" "I", .fieldLink RX1 27 "TunerBench" "changes" "I", .constant RX1 30 (40003), .methodLink RX1 31 yJ7_fill_53178, .static yJ7_fill_53178, .initialized RJ7, .code yJ7_fill_53178 cJ7_fill_53178 4 none] ++ wsX10)
def wsX1_isWhat : List Cond := .code yX1_isWhat cX1_isWhat 1 (some .boolean) :: ([])
def wsX1_isString : List Cond := .code yX1_isString cX1_isString 1 (some .boolean) :: ([])
def wsX1_isStringOrFork : List Cond := .code yX1_isStringOrFork cX1_isStringOrFork 1 (some .boolean) :: ([.methodLink RX1 63 yX1_isString, .static yX1_isString, .initialized RX1, .code yX1_isString cX1_isString 1 (some .boolean)])
def wsX1_isValue : List Cond := .code yX1_isValue cX1_isValue 2 (some .boolean) :: ([.constant RX1 93 (-40000), .constant RX1 94 (40000)])
def wsX1_valueOf : List Cond := .code yX1_valueOf cX1_valueOf 2 (some .int) :: ([.constant RX1 95 (40002), .constant RX1 96 (40001), .constant RX1 97 (-40001), .constant RX1 30 (40003)])
def wsX1_put : List Cond := .code yX1_put cX1_put 5 (some .boolean) :: ([.fieldLink RX1 11 "TunerBench" "values" "[[I", .methodLink RX1 37 yX1_isWhat, .static yX1_isWhat, .initialized RX1, .code yX1_isWhat cX1_isWhat 1 (some .boolean), .methodLink RX1 41 yX1_isStringOrFork, .static yX1_isStringOrFork, .code yX1_isStringOrFork cX1_isStringOrFork 1 (some .boolean), .methodLink RX1 63 yX1_isString, .static yX1_isString, .code yX1_isString cX1_isString 1 (some .boolean), .methodLink RX1 44 yX1_isValue, .static yX1_isValue, .code yX1_isValue cX1_isValue 2 (some .boolean), .constant RX1 93 (-40000), .constant RX1 94 (40000), .methodLink RX1 48 yX1_valueOf, .static yX1_valueOf, .code yX1_valueOf cX1_valueOf 2 (some .int), .constant RX1 95 (40002), .constant RX1 96 (40001), .constant RX1 97 (-40001), .constant RX1 30 (40003)] ++ wsX10)
def wsX1_sortOf : List Cond := .code yX1_sortOf cX1_sortOf 1 (some .int) :: ([])
def wsX1_sort : List Cond := .code yX1_sort cX1_sort 3 (some .int) :: ([.fieldLink RX1 11 "TunerBench" "values" "[[I", .methodLink RX1 37 yX1_isWhat, .static yX1_isWhat, .initialized RX1, .code yX1_isWhat cX1_isWhat 1 (some .boolean), .methodLink RX1 41 yX1_isStringOrFork, .static yX1_isStringOrFork, .code yX1_isStringOrFork cX1_isStringOrFork 1 (some .boolean), .methodLink RX1 63 yX1_isString, .static yX1_isString, .code yX1_isString cX1_isString 1 (some .boolean), .methodLink RX1 52 yX1_sortOf, .static yX1_sortOf, .code yX1_sortOf cX1_sortOf 1 (some .int)] ++ wsX10)
def wsX1_quarters : List Cond := .code yX1_quarters cX1_quarters 4 (some .int) :: ([.fieldLink RX1 11 "TunerBench" "values" "[[I", .methodLink RX1 37 yX1_isWhat, .static yX1_isWhat, .initialized RX1, .code yX1_isWhat cX1_isWhat 1 (some .boolean), .methodLink RX1 41 yX1_isStringOrFork, .static yX1_isStringOrFork, .code yX1_isStringOrFork cX1_isStringOrFork 1 (some .boolean), .methodLink RX1 63 yX1_isString, .static yX1_isString, .code yX1_isString cX1_isString 1 (some .boolean), .methodLink RX1 52 yX1_sortOf, .static yX1_sortOf, .code yX1_sortOf cX1_sortOf 1 (some .int)] ++ wsX10)
def wsX1_isHow : List Cond := .code yX1_isHow cX1_isHow 1 (some .boolean) :: ([])
def wsX1_isQuestion : List Cond := .code yX1_isQuestion cX1_isQuestion 2 (some .boolean) :: ([.methodLink RX1 37 yX1_isWhat, .static yX1_isWhat, .initialized RX1, .code yX1_isWhat cX1_isWhat 1 (some .boolean), .methodLink RX1 90 yX1_isHow, .static yX1_isHow, .code yX1_isHow cX1_isHow 1 (some .boolean)])
def wsX1_sizeOf : List Cond := .code yX1_sizeOf cX1_sizeOf 1 (some .int) :: ([.constant RX1 95 (40002)])
def wsX1_sizeStands : List Cond := .code yX1_sizeStands cX1_sizeStands 3 (some .boolean) :: ([])
def wsX1_valueStands : List Cond := .code yX1_valueStands cX1_valueStands 3 (some .boolean) :: ([.constant RX1 30 (40003), .methodLink RX1 102 yX1_sizeOf, .static yX1_sizeOf, .initialized RX1, .code yX1_sizeOf cX1_sizeOf 1 (some .int), .constant RX1 95 (40002), .methodLink RX1 105 yX1_sizeStands, .static yX1_sizeStands, .code yX1_sizeStands cX1_sizeStands 3 (some .boolean)])
def wsX1_stands : List Cond := .code yX1_stands cX1_stands 5 (some .boolean) :: ([.fieldLink RX1 11 "TunerBench" "values" "[[I", .methodLink RX1 98 yX1_valueStands, .static yX1_valueStands, .initialized RX1, .code yX1_valueStands cX1_valueStands 3 (some .boolean), .constant RX1 30 (40003), .methodLink RX1 102 yX1_sizeOf, .static yX1_sizeOf, .code yX1_sizeOf cX1_sizeOf 1 (some .int), .constant RX1 95 (40002), .methodLink RX1 105 yX1_sizeStands, .static yX1_sizeStands, .code yX1_sizeStands cX1_sizeStands 3 (some .boolean)] ++ wsX10)
def wsX1_holds_r1 : List Cond := [Cond.fieldLink RX1 24 "TunerBench" "latestTruth" "I", Cond.methodLink RX1 56 yX1_isQuestion, Cond.static yX1_isQuestion, Cond.initialized RX1, Cond.code yX1_isQuestion cX1_isQuestion 2 (some .boolean), Cond.methodLink RX1 37 yX1_isWhat, Cond.static yX1_isWhat, Cond.code yX1_isWhat cX1_isWhat 1 (some .boolean), Cond.methodLink RX1 90 yX1_isHow, Cond.static yX1_isHow, Cond.code yX1_isHow cX1_isHow 1 (some .boolean), Cond.methodLink RX1 41 yX1_isStringOrFork, Cond.static yX1_isStringOrFork, Cond.code yX1_isStringOrFork cX1_isStringOrFork 1 (some .boolean), Cond.methodLink RX1 63 yX1_isString, Cond.static yX1_isString, Cond.code yX1_isString cX1_isString 1 (some .boolean), Cond.methodLink RX1 59 yX1_stands, Cond.instanceMethod yX1_stands, Cond.selects RX1 yX1_stands yX1_stands, Cond.code yX1_stands cX1_stands 5 (some .boolean), Cond.fieldLink RX1 11 "TunerBench" "values" "[[I", Cond.methodLink RX1 98 yX1_valueStands, Cond.static yX1_valueStands]
def wsX1_holds_r2 : List Cond := [Cond.code yX1_valueStands cX1_valueStands 3 (some .boolean), Cond.constant RX1 30 (40003), Cond.methodLink RX1 102 yX1_sizeOf, Cond.static yX1_sizeOf, Cond.code yX1_sizeOf cX1_sizeOf 1 (some .int), Cond.constant RX1 95 (40002), Cond.methodLink RX1 105 yX1_sizeStands, Cond.static yX1_sizeStands, Cond.code yX1_sizeStands cX1_sizeStands 3 (some .boolean)]
def wsX1_holds : List Cond := .code yX1_holds cX1_holds 5 (some .int) :: ((wsX1_holds_r1 ++ wsX1_holds_r2) ++ wsX10)
def wsX1_denies_r1 : List Cond := [Cond.fieldLink RX1 20 "TunerBench" "denials" "I", Cond.methodLink RX1 56 yX1_isQuestion, Cond.static yX1_isQuestion, Cond.initialized RX1, Cond.code yX1_isQuestion cX1_isQuestion 2 (some .boolean), Cond.methodLink RX1 37 yX1_isWhat, Cond.static yX1_isWhat, Cond.code yX1_isWhat cX1_isWhat 1 (some .boolean), Cond.methodLink RX1 90 yX1_isHow, Cond.static yX1_isHow, Cond.code yX1_isHow cX1_isHow 1 (some .boolean), Cond.methodLink RX1 41 yX1_isStringOrFork, Cond.static yX1_isStringOrFork, Cond.code yX1_isStringOrFork cX1_isStringOrFork 1 (some .boolean), Cond.methodLink RX1 63 yX1_isString, Cond.static yX1_isString, Cond.code yX1_isString cX1_isString 1 (some .boolean), Cond.methodLink RX1 59 yX1_stands, Cond.instanceMethod yX1_stands, Cond.selects RX1 yX1_stands yX1_stands, Cond.code yX1_stands cX1_stands 5 (some .boolean), Cond.fieldLink RX1 11 "TunerBench" "values" "[[I", Cond.methodLink RX1 98 yX1_valueStands, Cond.static yX1_valueStands]
def wsX1_denies_r2 : List Cond := [Cond.code yX1_valueStands cX1_valueStands 3 (some .boolean), Cond.constant RX1 30 (40003), Cond.methodLink RX1 102 yX1_sizeOf, Cond.static yX1_sizeOf, Cond.code yX1_sizeOf cX1_sizeOf 1 (some .int), Cond.constant RX1 95 (40002), Cond.methodLink RX1 105 yX1_sizeStands, Cond.static yX1_sizeStands, Cond.code yX1_sizeStands cX1_sizeStands 3 (some .boolean)]
def wsX1_denies : List Cond := .code yX1_denies cX1_denies 5 (some .int) :: ((wsX1_denies_r1 ++ wsX1_denies_r2) ++ wsX10)
def wsX1_pick_r1 : List Cond := [Cond.methodLink RX1 56 yX1_isQuestion, Cond.static yX1_isQuestion, Cond.initialized RX1, Cond.code yX1_isQuestion cX1_isQuestion 2 (some .boolean), Cond.methodLink RX1 37 yX1_isWhat, Cond.static yX1_isWhat, Cond.code yX1_isWhat cX1_isWhat 1 (some .boolean), Cond.methodLink RX1 90 yX1_isHow, Cond.static yX1_isHow, Cond.code yX1_isHow cX1_isHow 1 (some .boolean), Cond.methodLink RX1 41 yX1_isStringOrFork, Cond.static yX1_isStringOrFork, Cond.code yX1_isStringOrFork cX1_isStringOrFork 1 (some .boolean), Cond.methodLink RX1 63 yX1_isString, Cond.static yX1_isString, Cond.code yX1_isString cX1_isString 1 (some .boolean), Cond.methodLink RX1 59 yX1_stands, Cond.instanceMethod yX1_stands, Cond.selects RX1 yX1_stands yX1_stands, Cond.code yX1_stands cX1_stands 5 (some .boolean), Cond.fieldLink RX1 11 "TunerBench" "values" "[[I", Cond.methodLink RX1 98 yX1_valueStands, Cond.static yX1_valueStands, Cond.code yX1_valueStands cX1_valueStands 3 (some .boolean)]
def wsX1_pick_r2 : List Cond := [Cond.constant RX1 30 (40003), Cond.methodLink RX1 102 yX1_sizeOf, Cond.static yX1_sizeOf, Cond.code yX1_sizeOf cX1_sizeOf 1 (some .int), Cond.constant RX1 95 (40002), Cond.methodLink RX1 105 yX1_sizeStands, Cond.static yX1_sizeStands, Cond.code yX1_sizeStands cX1_sizeStands 3 (some .boolean)]
def wsX1_pick : List Cond := .code yX1_pick cX1_pick 5 (some .int) :: ((wsX1_pick_r1 ++ wsX1_pick_r2) ++ wsX10)
def wsX1_climb_r1 : List Cond := [Cond.methodLink RX1 56 yX1_isQuestion, Cond.static yX1_isQuestion, Cond.initialized RX1, Cond.code yX1_isQuestion cX1_isQuestion 2 (some .boolean), Cond.methodLink RX1 37 yX1_isWhat, Cond.static yX1_isWhat, Cond.code yX1_isWhat cX1_isWhat 1 (some .boolean), Cond.methodLink RX1 90 yX1_isHow, Cond.static yX1_isHow, Cond.code yX1_isHow cX1_isHow 1 (some .boolean), Cond.methodLink RX1 63 yX1_isString, Cond.static yX1_isString, Cond.code yX1_isString cX1_isString 1 (some .boolean), Cond.methodLink RX1 59 yX1_stands, Cond.instanceMethod yX1_stands, Cond.selects RX1 yX1_stands yX1_stands, Cond.code yX1_stands cX1_stands 5 (some .boolean), Cond.fieldLink RX1 11 "TunerBench" "values" "[[I", Cond.methodLink RX1 98 yX1_valueStands, Cond.static yX1_valueStands, Cond.code yX1_valueStands cX1_valueStands 3 (some .boolean), Cond.constant RX1 30 (40003), Cond.methodLink RX1 102 yX1_sizeOf, Cond.static yX1_sizeOf]
def wsX1_climb_r2 : List Cond := [Cond.code yX1_sizeOf cX1_sizeOf 1 (some .int), Cond.constant RX1 95 (40002), Cond.methodLink RX1 105 yX1_sizeStands, Cond.static yX1_sizeStands, Cond.code yX1_sizeStands cX1_sizeStands 3 (some .boolean)]
def wsX1_climb : List Cond := .code yX1_climb cX1_climb 5 (some .int) :: ((wsX1_climb_r1 ++ wsX1_climb_r2) ++ wsX10)
def wsX1_first_r1 : List Cond := [Cond.methodLink RX1 56 yX1_isQuestion, Cond.static yX1_isQuestion, Cond.initialized RX1, Cond.code yX1_isQuestion cX1_isQuestion 2 (some .boolean), Cond.methodLink RX1 37 yX1_isWhat, Cond.static yX1_isWhat, Cond.code yX1_isWhat cX1_isWhat 1 (some .boolean), Cond.methodLink RX1 90 yX1_isHow, Cond.static yX1_isHow, Cond.code yX1_isHow cX1_isHow 1 (some .boolean), Cond.methodLink RX1 63 yX1_isString, Cond.static yX1_isString, Cond.code yX1_isString cX1_isString 1 (some .boolean), Cond.methodLink RX1 59 yX1_stands, Cond.instanceMethod yX1_stands, Cond.selects RX1 yX1_stands yX1_stands, Cond.code yX1_stands cX1_stands 5 (some .boolean), Cond.fieldLink RX1 11 "TunerBench" "values" "[[I", Cond.methodLink RX1 98 yX1_valueStands, Cond.static yX1_valueStands, Cond.code yX1_valueStands cX1_valueStands 3 (some .boolean), Cond.constant RX1 30 (40003), Cond.methodLink RX1 102 yX1_sizeOf, Cond.static yX1_sizeOf]
def wsX1_first_r2 : List Cond := [Cond.code yX1_sizeOf cX1_sizeOf 1 (some .int), Cond.constant RX1 95 (40002), Cond.methodLink RX1 105 yX1_sizeStands, Cond.static yX1_sizeStands, Cond.code yX1_sizeStands cX1_sizeStands 3 (some .boolean)]
def wsX1_first : List Cond := .code yX1_first cX1_first 6 (some .int) :: ((wsX1_first_r1 ++ wsX1_first_r2) ++ wsX10)
def wsX1_best_r1 : List Cond := [Cond.methodLink RX1 56 yX1_isQuestion, Cond.static yX1_isQuestion, Cond.initialized RX1, Cond.code yX1_isQuestion cX1_isQuestion 2 (some .boolean), Cond.methodLink RX1 37 yX1_isWhat, Cond.static yX1_isWhat, Cond.code yX1_isWhat cX1_isWhat 1 (some .boolean), Cond.methodLink RX1 90 yX1_isHow, Cond.static yX1_isHow, Cond.code yX1_isHow cX1_isHow 1 (some .boolean), Cond.methodLink RX1 59 yX1_stands, Cond.instanceMethod yX1_stands, Cond.selects RX1 yX1_stands yX1_stands, Cond.code yX1_stands cX1_stands 5 (some .boolean), Cond.fieldLink RX1 11 "TunerBench" "values" "[[I", Cond.methodLink RX1 98 yX1_valueStands, Cond.static yX1_valueStands, Cond.code yX1_valueStands cX1_valueStands 3 (some .boolean), Cond.constant RX1 30 (40003), Cond.methodLink RX1 102 yX1_sizeOf, Cond.static yX1_sizeOf, Cond.code yX1_sizeOf cX1_sizeOf 1 (some .int), Cond.constant RX1 95 (40002), Cond.methodLink RX1 105 yX1_sizeStands]
def wsX1_best_r2 : List Cond := [Cond.static yX1_sizeStands, Cond.code yX1_sizeStands cX1_sizeStands 3 (some .boolean)]
def wsX1_best : List Cond := .code yX1_best cX1_best 6 (some .int) :: ((wsX1_best_r1 ++ wsX1_best_r2) ++ wsX10)
def wsX1_changeWithNext : List Cond := .code yX1_changeWithNext cX1_changeWithNext 5 none :: ([.fieldLink RX1 11 "TunerBench" "values" "[[I"] ++ wsX10)
def wsX1_pass_r1 : List Cond := [Cond.fieldLink RX1 27 "TunerBench" "changes" "I", Cond.methodLink RX1 56 yX1_isQuestion, Cond.static yX1_isQuestion, Cond.initialized RX1, Cond.code yX1_isQuestion cX1_isQuestion 2 (some .boolean), Cond.methodLink RX1 37 yX1_isWhat, Cond.static yX1_isWhat, Cond.code yX1_isWhat cX1_isWhat 1 (some .boolean), Cond.methodLink RX1 90 yX1_isHow, Cond.static yX1_isHow, Cond.code yX1_isHow cX1_isHow 1 (some .boolean), Cond.methodLink RX1 63 yX1_isString, Cond.static yX1_isString, Cond.code yX1_isString cX1_isString 1 (some .boolean), Cond.methodLink RX1 59 yX1_stands, Cond.instanceMethod yX1_stands, Cond.selects RX1 yX1_stands yX1_stands, Cond.code yX1_stands cX1_stands 5 (some .boolean), Cond.fieldLink RX1 11 "TunerBench" "values" "[[I", Cond.methodLink RX1 98 yX1_valueStands, Cond.static yX1_valueStands, Cond.code yX1_valueStands cX1_valueStands 3 (some .boolean), Cond.constant RX1 30 (40003), Cond.methodLink RX1 102 yX1_sizeOf]
def wsX1_pass_r2 : List Cond := [Cond.static yX1_sizeOf, Cond.code yX1_sizeOf cX1_sizeOf 1 (some .int), Cond.constant RX1 95 (40002), Cond.methodLink RX1 105 yX1_sizeStands, Cond.static yX1_sizeStands, Cond.code yX1_sizeStands cX1_sizeStands 3 (some .boolean), Cond.methodLink RX1 66 yX1_changeWithNext, Cond.instanceMethod yX1_changeWithNext, Cond.selects RX1 yX1_changeWithNext yX1_changeWithNext, Cond.code yX1_changeWithNext cX1_changeWithNext 5 none]
def wsX1_pass : List Cond := .code yX1_pass cX1_pass 7 (some .int) :: ((wsX1_pass_r1 ++ wsX1_pass_r2) ++ wsX10)
def wsX1_within_r1 : List Cond := [Cond.methodLink RX1 37 yX1_isWhat, Cond.static yX1_isWhat, Cond.initialized RX1, Cond.code yX1_isWhat cX1_isWhat 1 (some .boolean), Cond.methodLink RX1 63 yX1_isString, Cond.static yX1_isString, Cond.code yX1_isString cX1_isString 1 (some .boolean), Cond.methodLink RX1 41 yX1_isStringOrFork, Cond.static yX1_isStringOrFork, Cond.code yX1_isStringOrFork cX1_isStringOrFork 1 (some .boolean), Cond.methodLink RX1 59 yX1_stands, Cond.instanceMethod yX1_stands, Cond.selects RX1 yX1_stands yX1_stands, Cond.code yX1_stands cX1_stands 5 (some .boolean), Cond.fieldLink RX1 11 "TunerBench" "values" "[[I", Cond.methodLink RX1 98 yX1_valueStands, Cond.static yX1_valueStands, Cond.code yX1_valueStands cX1_valueStands 3 (some .boolean), Cond.constant RX1 30 (40003), Cond.methodLink RX1 102 yX1_sizeOf, Cond.static yX1_sizeOf, Cond.code yX1_sizeOf cX1_sizeOf 1 (some .int), Cond.constant RX1 95 (40002), Cond.methodLink RX1 105 yX1_sizeStands]
def wsX1_within_r2 : List Cond := [Cond.static yX1_sizeStands, Cond.code yX1_sizeStands cX1_sizeStands 3 (some .boolean)]
def wsX1_within : List Cond := .code yX1_within cX1_within 6 (some .int) :: ((wsX1_within_r1 ++ wsX1_within_r2) ++ wsX10)
def wsX1_isGuard : List Cond := .code yX1_isGuard cX1_isGuard 1 (some .boolean) :: ([])
def wsX1_isMode : List Cond := .code yX1_isMode cX1_isMode 1 (some .boolean) :: ([])
def wsX1_guard_r1 : List Cond := [Cond.fieldLink RX1 16 "TunerBench" "guards" "[LTunerBench$Guard;", Cond.classLink RX1 14 RX0, Cond.instantiable RX0 6, Cond.initialized RX0, Cond.fieldLink RX1 11 "TunerBench" "values" "[[I", Cond.methodLink RX1 70 yX1_isGuard, Cond.static yX1_isGuard, Cond.initialized RX1, Cond.code yX1_isGuard cX1_isGuard 1 (some .boolean), Cond.methodLink RX1 56 yX1_isQuestion, Cond.static yX1_isQuestion, Cond.code yX1_isQuestion cX1_isQuestion 2 (some .boolean), Cond.methodLink RX1 37 yX1_isWhat, Cond.static yX1_isWhat, Cond.code yX1_isWhat cX1_isWhat 1 (some .boolean), Cond.methodLink RX1 90 yX1_isHow, Cond.static yX1_isHow, Cond.code yX1_isHow cX1_isHow 1 (some .boolean), Cond.methodLink RX1 63 yX1_isString, Cond.static yX1_isString, Cond.code yX1_isString cX1_isString 1 (some .boolean), Cond.methodLink RX1 73 yX1_isMode, Cond.static yX1_isMode, Cond.code yX1_isMode cX1_isMode 1 (some .boolean)]
def wsX1_guard_r2 : List Cond := [Cond.instanceMethod yX0_init, Cond.code yX0_init cX0_init 5 none, Cond.methodLink RX0 1 objectInit, Cond.instanceMethod objectInit, Cond.code objectInit ⟨#[0xb1]⟩ 1 none, Cond.fieldLink RX0 7 "TunerBench$Guard" "stood" "Z", Cond.fieldLink RX0 13 "TunerBench$Guard" "rang" "I", Cond.fieldLink RX0 17 "TunerBench$Guard" "what" "I", Cond.fieldLink RX0 20 "TunerBench$Guard" "how" "I", Cond.fieldLink RX0 23 "TunerBench$Guard" "copy" "I", Cond.fieldLink RX0 26 "TunerBench$Guard" "mode" "I"]
def wsX1_guard : List Cond := .code yX1_guard cX1_guard 6 (some .boolean) :: ((wsX1_guard_r1 ++ wsX1_guard_r2) ++ wsX10 ++ wsX00)
def wsX1_isRung : List Cond := .code yX1_isRung cX1_isRung 3 (some .boolean) :: ([])
def wsX1_ringsNow : List Cond := .code yX1_ringsNow cX1_ringsNow 4 (some .boolean) :: ([.fieldLink RX1 11 "TunerBench" "values" "[[I", .methodLink RX1 98 yX1_valueStands, .static yX1_valueStands, .initialized RX1, .code yX1_valueStands cX1_valueStands 3 (some .boolean), .constant RX1 30 (40003), .methodLink RX1 102 yX1_sizeOf, .static yX1_sizeOf, .code yX1_sizeOf cX1_sizeOf 1 (some .int), .constant RX1 95 (40002), .methodLink RX1 105 yX1_sizeStands, .static yX1_sizeStands, .code yX1_sizeStands cX1_sizeStands 3 (some .boolean), .methodLink RX1 124 yX1_isRung, .static yX1_isRung, .code yX1_isRung cX1_isRung 3 (some .boolean)] ++ wsX00 ++ wsX10)
def wsX1_look : List Cond := .code yX1_look cX1_look 4 (some .int) :: ([.fieldLink RX1 16 "TunerBench" "guards" "[LTunerBench$Guard;", .methodLink RX1 79 yX1_ringsNow, .instanceMethod yX1_ringsNow, .selects RX1 yX1_ringsNow yX1_ringsNow, .initialized RX1, .code yX1_ringsNow cX1_ringsNow 4 (some .boolean), .fieldLink RX1 11 "TunerBench" "values" "[[I", .methodLink RX1 98 yX1_valueStands, .static yX1_valueStands, .code yX1_valueStands cX1_valueStands 3 (some .boolean), .constant RX1 30 (40003), .methodLink RX1 102 yX1_sizeOf, .static yX1_sizeOf, .code yX1_sizeOf cX1_sizeOf 1 (some .int), .constant RX1 95 (40002), .methodLink RX1 105 yX1_sizeStands, .static yX1_sizeStands, .code yX1_sizeStands cX1_sizeStands 3 (some .boolean), .methodLink RX1 124 yX1_isRung, .static yX1_isRung, .code yX1_isRung cX1_isRung 3 (some .boolean)] ++ wsX10 ++ wsX00)
def wsX1_rings : List Cond := .code yX1_rings cX1_rings 3 (some .int) :: ([.fieldLink RX1 16 "TunerBench" "guards" "[LTunerBench$Guard;", .methodLink RX1 70 yX1_isGuard, .static yX1_isGuard, .initialized RX1, .code yX1_isGuard cX1_isGuard 1 (some .boolean)] ++ wsX10 ++ wsX00)
def wsX1_strike : List Cond := .code yX1_strike cX1_strike 3 (some .boolean) :: ([.fieldLink RX1 11 "TunerBench" "values" "[[I", .methodLink RX1 63 yX1_isString, .static yX1_isString, .initialized RX1, .code yX1_isString cX1_isString 1 (some .boolean)] ++ wsX10)
def wsX1_guardsSet : List Cond := .code yX1_guardsSet cX1_guardsSet 3 (some .int) :: ([.fieldLink RX1 16 "TunerBench" "guards" "[LTunerBench$Guard;"] ++ wsX10)
def wsX1_count : List Cond := .code yX1_count cX1_count 2 (some .int) :: ([.fieldLink RX1 20 "TunerBench" "denials" "I", .fieldLink RX1 24 "TunerBench" "latestTruth" "I", .fieldLink RX1 27 "TunerBench" "changes" "I", .methodLink RX1 86 yX1_guardsSet, .instanceMethod yX1_guardsSet, .selects RX1 yX1_guardsSet yX1_guardsSet, .initialized RX1, .code yX1_guardsSet cX1_guardsSet 3 (some .int), .fieldLink RX1 16 "TunerBench" "guards" "[LTunerBench$Guard;"] ++ wsX10)
def wsX2_init : List Cond := .code yX2_init cX2_init 2 none :: ([.methodLink RX2 1 objectInit, .instanceMethod objectInit, .code objectInit ⟨#[0xb1]⟩ 1 none, .arrayClass .int, .fieldLink RX2 7 "TunerBenchModel" "sorts" "[I", .fieldLink RX2 13 "TunerBenchModel" "quarters" "[I", .fieldLink RX2 16 "TunerBenchModel" "latest" "I", .arrayClass .boolean, .fieldLink RX2 20 "TunerBenchModel" "isSet" "[Z", .fieldLink RX2 24 "TunerBenchModel" "what" "[I", .fieldLink RX2 27 "TunerBenchModel" "how" "[I", .fieldLink RX2 30 "TunerBenchModel" "mode" "[I", .fieldLink RX2 33 "TunerBenchModel" "keptSort" "[I", .fieldLink RX2 36 "TunerBenchModel" "keptQuarters" "[I", .fieldLink RX2 39 "TunerBenchModel" "did" "[Z", .fieldLink RX2 42 "TunerBenchModel" "rings" "[I"] ++ wsX20)
def wsX2_in : List Cond := .code yX2_in cX2_in 3 (some .boolean) :: ([])
def wsX2_isString : List Cond := .code yX2_isString cX2_isString 1 (some .boolean) :: ([.methodLink RX2 45 yX2_in, .static yX2_in, .initialized RX2, .code yX2_in cX2_in 3 (some .boolean)])
def wsX2_isStringOrFork : List Cond := .code yX2_isStringOrFork cX2_isStringOrFork 1 (some .boolean) :: ([.methodLink RX2 45 yX2_in, .static yX2_in, .initialized RX2, .code yX2_in cX2_in 3 (some .boolean)])
def wsX2_isAsked : List Cond := .code yX2_isAsked cX2_isAsked 2 (some .boolean) :: ([.methodLink RX2 45 yX2_in, .static yX2_in, .initialized RX2, .code yX2_in cX2_in 3 (some .boolean)])
def wsX2_at : List Cond := .code yX2_at cX2_at 2 (some .int) :: ([])
def wsX2_place : List Cond := .code yX2_place cX2_place 2 (some .int) :: ([.constant RX2 49 (1000000), .constant RX2 50 (-1000000)])
def wsX2_goes : List Cond := .code yX2_goes cX2_goes 7 (some .boolean) :: ([.methodLink RX2 51 yX2_place, .static yX2_place, .initialized RX2, .code yX2_place cX2_place 2 (some .int), .constant RX2 49 (1000000), .constant RX2 50 (-1000000)])
def wsX2_stands : List Cond := .code yX2_stands cX2_stands 7 (some .boolean) :: ([.fieldLink RX2 7 "TunerBenchModel" "sorts" "[I", .fieldLink RX2 13 "TunerBenchModel" "quarters" "[I", .methodLink RX2 55 yX2_at, .static yX2_at, .initialized RX2, .code yX2_at cX2_at 2 (some .int), .methodLink RX2 58 yX2_goes, .static yX2_goes, .code yX2_goes cX2_goes 7 (some .boolean), .methodLink RX2 51 yX2_place, .static yX2_place, .code yX2_place cX2_place 2 (some .int), .constant RX2 49 (1000000), .constant RX2 50 (-1000000)] ++ wsX20)
def wsX2_put : List Cond := .code yX2_put cX2_put 5 (some .boolean) :: ([.constant RX2 66 (-40000), .constant RX2 67 (40000), .fieldLink RX2 7 "TunerBenchModel" "sorts" "[I", .fieldLink RX2 13 "TunerBenchModel" "quarters" "[I", .methodLink RX2 45 yX2_in, .static yX2_in, .initialized RX2, .code yX2_in cX2_in 3 (some .boolean), .methodLink RX2 62 yX2_isStringOrFork, .static yX2_isStringOrFork, .code yX2_isStringOrFork cX2_isStringOrFork 1 (some .boolean), .methodLink RX2 55 yX2_at, .static yX2_at, .code yX2_at cX2_at 2 (some .int)] ++ wsX20)
def wsX2_sort : List Cond := .code yX2_sort cX2_sort 3 (some .int) :: ([.fieldLink RX2 7 "TunerBenchModel" "sorts" "[I", .methodLink RX2 45 yX2_in, .static yX2_in, .initialized RX2, .code yX2_in cX2_in 3 (some .boolean), .methodLink RX2 62 yX2_isStringOrFork, .static yX2_isStringOrFork, .code yX2_isStringOrFork cX2_isStringOrFork 1 (some .boolean), .methodLink RX2 55 yX2_at, .static yX2_at, .code yX2_at cX2_at 2 (some .int)] ++ wsX20)
def wsX2_quarters : List Cond := .code yX2_quarters cX2_quarters 3 (some .int) :: ([.fieldLink RX2 13 "TunerBenchModel" "quarters" "[I", .methodLink RX2 45 yX2_in, .static yX2_in, .initialized RX2, .code yX2_in cX2_in 3 (some .boolean), .methodLink RX2 62 yX2_isStringOrFork, .static yX2_isStringOrFork, .code yX2_isStringOrFork cX2_isStringOrFork 1 (some .boolean), .methodLink RX2 55 yX2_at, .static yX2_at, .code yX2_at cX2_at 2 (some .int)] ++ wsX20)
def wsX2_holds_r1 : List Cond := [Cond.fieldLink RX2 16 "TunerBenchModel" "latest" "I", Cond.methodLink RX2 68 yX2_isAsked, Cond.static yX2_isAsked, Cond.initialized RX2, Cond.code yX2_isAsked cX2_isAsked 2 (some .boolean), Cond.methodLink RX2 45 yX2_in, Cond.static yX2_in, Cond.code yX2_in cX2_in 3 (some .boolean), Cond.methodLink RX2 62 yX2_isStringOrFork, Cond.static yX2_isStringOrFork, Cond.code yX2_isStringOrFork cX2_isStringOrFork 1 (some .boolean), Cond.methodLink RX2 72 yX2_stands, Cond.instanceMethod yX2_stands, Cond.selects RX2 yX2_stands yX2_stands, Cond.code yX2_stands cX2_stands 7 (some .boolean), Cond.fieldLink RX2 7 "TunerBenchModel" "sorts" "[I", Cond.fieldLink RX2 13 "TunerBenchModel" "quarters" "[I", Cond.methodLink RX2 55 yX2_at, Cond.static yX2_at, Cond.code yX2_at cX2_at 2 (some .int), Cond.methodLink RX2 58 yX2_goes, Cond.static yX2_goes, Cond.code yX2_goes cX2_goes 7 (some .boolean), Cond.methodLink RX2 51 yX2_place]
def wsX2_holds_r2 : List Cond := [Cond.static yX2_place, Cond.code yX2_place cX2_place 2 (some .int), Cond.constant RX2 49 (1000000), Cond.constant RX2 50 (-1000000)]
def wsX2_holds : List Cond := .code yX2_holds cX2_holds 5 (some .int) :: ((wsX2_holds_r1 ++ wsX2_holds_r2) ++ wsX20)
def wsX2_denies_r1 : List Cond := [Cond.fieldLink RX2 76 "TunerBenchModel" "denials" "I", Cond.methodLink RX2 68 yX2_isAsked, Cond.static yX2_isAsked, Cond.initialized RX2, Cond.code yX2_isAsked cX2_isAsked 2 (some .boolean), Cond.methodLink RX2 45 yX2_in, Cond.static yX2_in, Cond.code yX2_in cX2_in 3 (some .boolean), Cond.methodLink RX2 62 yX2_isStringOrFork, Cond.static yX2_isStringOrFork, Cond.code yX2_isStringOrFork cX2_isStringOrFork 1 (some .boolean), Cond.methodLink RX2 72 yX2_stands, Cond.instanceMethod yX2_stands, Cond.selects RX2 yX2_stands yX2_stands, Cond.code yX2_stands cX2_stands 7 (some .boolean), Cond.fieldLink RX2 7 "TunerBenchModel" "sorts" "[I", Cond.fieldLink RX2 13 "TunerBenchModel" "quarters" "[I", Cond.methodLink RX2 55 yX2_at, Cond.static yX2_at, Cond.code yX2_at cX2_at 2 (some .int), Cond.methodLink RX2 58 yX2_goes, Cond.static yX2_goes, Cond.code yX2_goes cX2_goes 7 (some .boolean), Cond.methodLink RX2 51 yX2_place]
def wsX2_denies_r2 : List Cond := [Cond.static yX2_place, Cond.code yX2_place cX2_place 2 (some .int), Cond.constant RX2 49 (1000000), Cond.constant RX2 50 (-1000000)]
def wsX2_denies : List Cond := .code yX2_denies cX2_denies 5 (some .int) :: ((wsX2_denies_r1 ++ wsX2_denies_r2) ++ wsX20)
def wsX2_pick_r1 : List Cond := [Cond.methodLink RX2 68 yX2_isAsked, Cond.static yX2_isAsked, Cond.initialized RX2, Cond.code yX2_isAsked cX2_isAsked 2 (some .boolean), Cond.methodLink RX2 45 yX2_in, Cond.static yX2_in, Cond.code yX2_in cX2_in 3 (some .boolean), Cond.methodLink RX2 62 yX2_isStringOrFork, Cond.static yX2_isStringOrFork, Cond.code yX2_isStringOrFork cX2_isStringOrFork 1 (some .boolean), Cond.methodLink RX2 72 yX2_stands, Cond.instanceMethod yX2_stands, Cond.selects RX2 yX2_stands yX2_stands, Cond.code yX2_stands cX2_stands 7 (some .boolean), Cond.fieldLink RX2 7 "TunerBenchModel" "sorts" "[I", Cond.fieldLink RX2 13 "TunerBenchModel" "quarters" "[I", Cond.methodLink RX2 55 yX2_at, Cond.static yX2_at, Cond.code yX2_at cX2_at 2 (some .int), Cond.methodLink RX2 58 yX2_goes, Cond.static yX2_goes, Cond.code yX2_goes cX2_goes 7 (some .boolean), Cond.methodLink RX2 51 yX2_place, Cond.static yX2_place]
def wsX2_pick_r2 : List Cond := [Cond.code yX2_place cX2_place 2 (some .int), Cond.constant RX2 49 (1000000), Cond.constant RX2 50 (-1000000)]
def wsX2_pick : List Cond := .code yX2_pick cX2_pick 5 (some .int) :: ((wsX2_pick_r1 ++ wsX2_pick_r2) ++ wsX20)
def wsX2_climb_r1 : List Cond := [Cond.methodLink RX2 68 yX2_isAsked, Cond.static yX2_isAsked, Cond.initialized RX2, Cond.code yX2_isAsked cX2_isAsked 2 (some .boolean), Cond.methodLink RX2 45 yX2_in, Cond.static yX2_in, Cond.code yX2_in cX2_in 3 (some .boolean), Cond.methodLink RX2 79 yX2_isString, Cond.static yX2_isString, Cond.code yX2_isString cX2_isString 1 (some .boolean), Cond.methodLink RX2 72 yX2_stands, Cond.instanceMethod yX2_stands, Cond.selects RX2 yX2_stands yX2_stands, Cond.code yX2_stands cX2_stands 7 (some .boolean), Cond.fieldLink RX2 7 "TunerBenchModel" "sorts" "[I", Cond.fieldLink RX2 13 "TunerBenchModel" "quarters" "[I", Cond.methodLink RX2 55 yX2_at, Cond.static yX2_at, Cond.code yX2_at cX2_at 2 (some .int), Cond.methodLink RX2 58 yX2_goes, Cond.static yX2_goes, Cond.code yX2_goes cX2_goes 7 (some .boolean), Cond.methodLink RX2 51 yX2_place, Cond.static yX2_place]
def wsX2_climb_r2 : List Cond := [Cond.code yX2_place cX2_place 2 (some .int), Cond.constant RX2 49 (1000000), Cond.constant RX2 50 (-1000000)]
def wsX2_climb : List Cond := .code yX2_climb cX2_climb 5 (some .int) :: ((wsX2_climb_r1 ++ wsX2_climb_r2) ++ wsX20)
def wsX2_first_r1 : List Cond := [Cond.methodLink RX2 68 yX2_isAsked, Cond.static yX2_isAsked, Cond.initialized RX2, Cond.code yX2_isAsked cX2_isAsked 2 (some .boolean), Cond.methodLink RX2 45 yX2_in, Cond.static yX2_in, Cond.code yX2_in cX2_in 3 (some .boolean), Cond.methodLink RX2 79 yX2_isString, Cond.static yX2_isString, Cond.code yX2_isString cX2_isString 1 (some .boolean), Cond.methodLink RX2 72 yX2_stands, Cond.instanceMethod yX2_stands, Cond.selects RX2 yX2_stands yX2_stands, Cond.code yX2_stands cX2_stands 7 (some .boolean), Cond.fieldLink RX2 7 "TunerBenchModel" "sorts" "[I", Cond.fieldLink RX2 13 "TunerBenchModel" "quarters" "[I", Cond.methodLink RX2 55 yX2_at, Cond.static yX2_at, Cond.code yX2_at cX2_at 2 (some .int), Cond.methodLink RX2 58 yX2_goes, Cond.static yX2_goes, Cond.code yX2_goes cX2_goes 7 (some .boolean), Cond.methodLink RX2 51 yX2_place, Cond.static yX2_place]
def wsX2_first_r2 : List Cond := [Cond.code yX2_place cX2_place 2 (some .int), Cond.constant RX2 49 (1000000), Cond.constant RX2 50 (-1000000)]
def wsX2_first : List Cond := .code yX2_first cX2_first 6 (some .int) :: ((wsX2_first_r1 ++ wsX2_first_r2) ++ wsX20)
def wsX2_best : List Cond := .code yX2_best cX2_best 6 (some .int) :: ([.methodLink RX2 68 yX2_isAsked, .static yX2_isAsked, .initialized RX2, .code yX2_isAsked cX2_isAsked 2 (some .boolean), .methodLink RX2 45 yX2_in, .static yX2_in, .code yX2_in cX2_in 3 (some .boolean), .methodLink RX2 72 yX2_stands, .instanceMethod yX2_stands, .selects RX2 yX2_stands yX2_stands, .code yX2_stands cX2_stands 7 (some .boolean), .fieldLink RX2 7 "TunerBenchModel" "sorts" "[I", .fieldLink RX2 13 "TunerBenchModel" "quarters" "[I", .methodLink RX2 55 yX2_at, .static yX2_at, .code yX2_at cX2_at 2 (some .int), .methodLink RX2 58 yX2_goes, .static yX2_goes, .code yX2_goes cX2_goes 7 (some .boolean), .methodLink RX2 51 yX2_place, .static yX2_place, .code yX2_place cX2_place 2 (some .int), .constant RX2 49 (1000000), .constant RX2 50 (-1000000)] ++ wsX20)
def wsX2_pass_r1 : List Cond := [Cond.fieldLink RX2 7 "TunerBenchModel" "sorts" "[I", Cond.fieldLink RX2 13 "TunerBenchModel" "quarters" "[I", Cond.fieldLink RX2 82 "TunerBenchModel" "changes" "I", Cond.methodLink RX2 68 yX2_isAsked, Cond.static yX2_isAsked, Cond.initialized RX2, Cond.code yX2_isAsked cX2_isAsked 2 (some .boolean), Cond.methodLink RX2 45 yX2_in, Cond.static yX2_in, Cond.code yX2_in cX2_in 3 (some .boolean), Cond.methodLink RX2 79 yX2_isString, Cond.static yX2_isString, Cond.code yX2_isString cX2_isString 1 (some .boolean), Cond.methodLink RX2 72 yX2_stands, Cond.instanceMethod yX2_stands, Cond.selects RX2 yX2_stands yX2_stands, Cond.code yX2_stands cX2_stands 7 (some .boolean), Cond.methodLink RX2 55 yX2_at, Cond.static yX2_at, Cond.code yX2_at cX2_at 2 (some .int), Cond.methodLink RX2 58 yX2_goes, Cond.static yX2_goes, Cond.code yX2_goes cX2_goes 7 (some .boolean), Cond.methodLink RX2 51 yX2_place]
def wsX2_pass_r2 : List Cond := [Cond.static yX2_place, Cond.code yX2_place cX2_place 2 (some .int), Cond.constant RX2 49 (1000000), Cond.constant RX2 50 (-1000000)]
def wsX2_pass : List Cond := .code yX2_pass cX2_pass 10 (some .int) :: ((wsX2_pass_r1 ++ wsX2_pass_r2) ++ wsX20)
def wsX2_within_r1 : List Cond := [Cond.fieldLink RX2 7 "TunerBenchModel" "sorts" "[I", Cond.methodLink RX2 45 yX2_in, Cond.static yX2_in, Cond.initialized RX2, Cond.code yX2_in cX2_in 3 (some .boolean), Cond.methodLink RX2 79 yX2_isString, Cond.static yX2_isString, Cond.code yX2_isString cX2_isString 1 (some .boolean), Cond.methodLink RX2 62 yX2_isStringOrFork, Cond.static yX2_isStringOrFork, Cond.code yX2_isStringOrFork cX2_isStringOrFork 1 (some .boolean), Cond.methodLink RX2 72 yX2_stands, Cond.instanceMethod yX2_stands, Cond.selects RX2 yX2_stands yX2_stands, Cond.code yX2_stands cX2_stands 7 (some .boolean), Cond.fieldLink RX2 13 "TunerBenchModel" "quarters" "[I", Cond.methodLink RX2 55 yX2_at, Cond.static yX2_at, Cond.code yX2_at cX2_at 2 (some .int), Cond.methodLink RX2 58 yX2_goes, Cond.static yX2_goes, Cond.code yX2_goes cX2_goes 7 (some .boolean), Cond.methodLink RX2 51 yX2_place, Cond.static yX2_place]
def wsX2_within_r2 : List Cond := [Cond.code yX2_place cX2_place 2 (some .int), Cond.constant RX2 49 (1000000), Cond.constant RX2 50 (-1000000)]
def wsX2_within : List Cond := .code yX2_within cX2_within 6 (some .int) :: ((wsX2_within_r1 ++ wsX2_within_r2) ++ wsX20)
def wsX2_guard : List Cond := .code yX2_guard cX2_guard 6 (some .boolean) :: ([.fieldLink RX2 85 "TunerBenchModel" "guards" "I", .fieldLink RX2 20 "TunerBenchModel" "isSet" "[Z", .fieldLink RX2 24 "TunerBenchModel" "what" "[I", .fieldLink RX2 27 "TunerBenchModel" "how" "[I", .fieldLink RX2 30 "TunerBenchModel" "mode" "[I", .fieldLink RX2 33 "TunerBenchModel" "keptSort" "[I", .fieldLink RX2 7 "TunerBenchModel" "sorts" "[I", .fieldLink RX2 36 "TunerBenchModel" "keptQuarters" "[I", .fieldLink RX2 13 "TunerBenchModel" "quarters" "[I", .fieldLink RX2 39 "TunerBenchModel" "did" "[Z", .fieldLink RX2 42 "TunerBenchModel" "rings" "[I", .methodLink RX2 45 yX2_in, .static yX2_in, .initialized RX2, .code yX2_in cX2_in 3 (some .boolean), .methodLink RX2 68 yX2_isAsked, .static yX2_isAsked, .code yX2_isAsked cX2_isAsked 2 (some .boolean), .methodLink RX2 79 yX2_isString, .static yX2_isString, .code yX2_isString cX2_isString 1 (some .boolean), .methodLink RX2 55 yX2_at, .static yX2_at, .code yX2_at cX2_at 2 (some .int)] ++ wsX20)
def wsX2_look : List Cond := .code yX2_look cX2_look 6 (some .int) :: ([.fieldLink RX2 20 "TunerBenchModel" "isSet" "[Z", .fieldLink RX2 24 "TunerBenchModel" "what" "[I", .fieldLink RX2 27 "TunerBenchModel" "how" "[I", .fieldLink RX2 7 "TunerBenchModel" "sorts" "[I", .fieldLink RX2 13 "TunerBenchModel" "quarters" "[I", .fieldLink RX2 33 "TunerBenchModel" "keptSort" "[I", .fieldLink RX2 36 "TunerBenchModel" "keptQuarters" "[I", .fieldLink RX2 30 "TunerBenchModel" "mode" "[I", .fieldLink RX2 39 "TunerBenchModel" "did" "[Z", .fieldLink RX2 42 "TunerBenchModel" "rings" "[I", .methodLink RX2 55 yX2_at, .static yX2_at, .initialized RX2, .code yX2_at cX2_at 2 (some .int), .methodLink RX2 58 yX2_goes, .static yX2_goes, .code yX2_goes cX2_goes 7 (some .boolean), .methodLink RX2 51 yX2_place, .static yX2_place, .code yX2_place cX2_place 2 (some .int), .constant RX2 49 (1000000), .constant RX2 50 (-1000000)] ++ wsX20)
def wsX2_rings : List Cond := .code yX2_rings cX2_rings 2 (some .int) :: ([.fieldLink RX2 20 "TunerBenchModel" "isSet" "[Z", .fieldLink RX2 42 "TunerBenchModel" "rings" "[I", .methodLink RX2 45 yX2_in, .static yX2_in, .initialized RX2, .code yX2_in cX2_in 3 (some .boolean)] ++ wsX20)
def wsX2_strike : List Cond := .code yX2_strike cX2_strike 3 (some .boolean) :: ([.fieldLink RX2 7 "TunerBenchModel" "sorts" "[I", .fieldLink RX2 13 "TunerBenchModel" "quarters" "[I", .methodLink RX2 79 yX2_isString, .static yX2_isString, .initialized RX2, .code yX2_isString cX2_isString 1 (some .boolean), .methodLink RX2 45 yX2_in, .static yX2_in, .code yX2_in cX2_in 3 (some .boolean), .methodLink RX2 55 yX2_at, .static yX2_at, .code yX2_at cX2_at 2 (some .int)] ++ wsX20)
def wsX2_count : List Cond := .code yX2_count cX2_count 2 (some .int) :: ([.fieldLink RX2 76 "TunerBenchModel" "denials" "I", .fieldLink RX2 16 "TunerBenchModel" "latest" "I", .fieldLink RX2 85 "TunerBenchModel" "guards" "I", .fieldLink RX2 82 "TunerBenchModel" "changes" "I"] ++ wsX20)
def wsL_law_r1 : List Cond := [Cond.classLink RL 7 RX1, Cond.instantiable RX1 5, Cond.initialized RX1, Cond.classLink RL 10 RX2, Cond.instantiable RX2 14, Cond.initialized RX2, Cond.methodLink RL 9 yX1_init, Cond.instanceMethod yX1_init, Cond.code yX1_init cX1_init 2 none, Cond.methodLink RX1 3 objectInit, Cond.instanceMethod objectInit, Cond.code objectInit ⟨#[0xb1]⟩ 1 none, Cond.classLink RX1 9 "[[I", Cond.arrayClass .int, Cond.fieldLink RX1 11 "TunerBench" "values" "[[I", Cond.classLink RX1 14 RX0, Cond.fieldLink RX1 16 "TunerBench" "guards" "[LTunerBench$Guard;", Cond.fieldLink RX1 20 "TunerBench" "denials" "I", Cond.fieldLink RX1 24 "TunerBench" "latestTruth" "I", Cond.fieldLink RX1 27 "TunerBench" "changes" "I", Cond.constant RX1 30 (40003), Cond.methodLink RX1 31 yJ7_fill_53178, Cond.static yJ7_fill_53178, Cond.initialized RJ7]
def wsL_law_r2 : List Cond := [Cond.code yJ7_fill_53178 cJ7_fill_53178 4 none, Cond.methodLink RL 12 yX2_init, Cond.instanceMethod yX2_init, Cond.code yX2_init cX2_init 2 none, Cond.methodLink RX2 1 objectInit, Cond.fieldLink RX2 7 "TunerBenchModel" "sorts" "[I", Cond.fieldLink RX2 13 "TunerBenchModel" "quarters" "[I", Cond.fieldLink RX2 16 "TunerBenchModel" "latest" "I", Cond.arrayClass .boolean, Cond.fieldLink RX2 20 "TunerBenchModel" "isSet" "[Z", Cond.fieldLink RX2 24 "TunerBenchModel" "what" "[I", Cond.fieldLink RX2 27 "TunerBenchModel" "how" "[I", Cond.fieldLink RX2 30 "TunerBenchModel" "mode" "[I", Cond.fieldLink RX2 33 "TunerBenchModel" "keptSort" "[I", Cond.fieldLink RX2 36 "TunerBenchModel" "keptQuarters" "[I", Cond.fieldLink RX2 39 "TunerBenchModel" "did" "[Z", Cond.fieldLink RX2 42 "TunerBenchModel" "rings" "[I", Cond.methodLink RL 13 yX1_put, Cond.instanceMethod yX1_put, Cond.selects RX1 yX1_put yX1_put, Cond.code yX1_put cX1_put 5 (some .boolean), Cond.methodLink RX1 37 yX1_isWhat, Cond.static yX1_isWhat, Cond.code yX1_isWhat cX1_isWhat 1 (some .boolean)]
def wsL_law_r3 : List Cond := [Cond.methodLink RX1 41 yX1_isStringOrFork, Cond.static yX1_isStringOrFork, Cond.code yX1_isStringOrFork cX1_isStringOrFork 1 (some .boolean), Cond.methodLink RX1 63 yX1_isString, Cond.static yX1_isString, Cond.code yX1_isString cX1_isString 1 (some .boolean), Cond.methodLink RX1 44 yX1_isValue, Cond.static yX1_isValue, Cond.code yX1_isValue cX1_isValue 2 (some .boolean), Cond.constant RX1 93 (-40000), Cond.constant RX1 94 (40000), Cond.methodLink RX1 48 yX1_valueOf, Cond.static yX1_valueOf, Cond.code yX1_valueOf cX1_valueOf 2 (some .int), Cond.constant RX1 95 (40002), Cond.constant RX1 96 (40001), Cond.constant RX1 97 (-40001), Cond.methodLink RL 17 yX2_put, Cond.instanceMethod yX2_put, Cond.selects RX2 yX2_put yX2_put, Cond.code yX2_put cX2_put 5 (some .boolean), Cond.constant RX2 66 (-40000), Cond.constant RX2 67 (40000), Cond.methodLink RX2 45 yX2_in]
def wsL_law_r4 : List Cond := [Cond.static yX2_in, Cond.code yX2_in cX2_in 3 (some .boolean), Cond.methodLink RX2 62 yX2_isStringOrFork, Cond.static yX2_isStringOrFork, Cond.code yX2_isStringOrFork cX2_isStringOrFork 1 (some .boolean), Cond.methodLink RX2 55 yX2_at, Cond.static yX2_at, Cond.code yX2_at cX2_at 2 (some .int), Cond.methodLink RL 18 yX1_sort, Cond.instanceMethod yX1_sort, Cond.selects RX1 yX1_sort yX1_sort, Cond.code yX1_sort cX1_sort 3 (some .int), Cond.methodLink RX1 52 yX1_sortOf, Cond.static yX1_sortOf, Cond.code yX1_sortOf cX1_sortOf 1 (some .int), Cond.methodLink RL 22 yX2_sort, Cond.instanceMethod yX2_sort, Cond.selects RX2 yX2_sort yX2_sort, Cond.code yX2_sort cX2_sort 3 (some .int), Cond.methodLink RL 23 yX1_quarters, Cond.instanceMethod yX1_quarters, Cond.selects RX1 yX1_quarters yX1_quarters, Cond.code yX1_quarters cX1_quarters 4 (some .int), Cond.methodLink RL 26 yX2_quarters]
def wsL_law_r5 : List Cond := [Cond.instanceMethod yX2_quarters, Cond.selects RX2 yX2_quarters yX2_quarters, Cond.code yX2_quarters cX2_quarters 3 (some .int), Cond.methodLink RL 27 yX1_holds, Cond.instanceMethod yX1_holds, Cond.selects RX1 yX1_holds yX1_holds, Cond.code yX1_holds cX1_holds 5 (some .int), Cond.methodLink RX1 56 yX1_isQuestion, Cond.static yX1_isQuestion, Cond.code yX1_isQuestion cX1_isQuestion 2 (some .boolean), Cond.methodLink RX1 90 yX1_isHow, Cond.static yX1_isHow, Cond.code yX1_isHow cX1_isHow 1 (some .boolean), Cond.methodLink RX1 59 yX1_stands, Cond.instanceMethod yX1_stands, Cond.selects RX1 yX1_stands yX1_stands, Cond.code yX1_stands cX1_stands 5 (some .boolean), Cond.methodLink RX1 98 yX1_valueStands, Cond.static yX1_valueStands, Cond.code yX1_valueStands cX1_valueStands 3 (some .boolean), Cond.methodLink RX1 102 yX1_sizeOf, Cond.static yX1_sizeOf, Cond.code yX1_sizeOf cX1_sizeOf 1 (some .int), Cond.methodLink RX1 105 yX1_sizeStands]
def wsL_law_r6 : List Cond := [Cond.static yX1_sizeStands, Cond.code yX1_sizeStands cX1_sizeStands 3 (some .boolean), Cond.methodLink RL 31 yX2_holds, Cond.instanceMethod yX2_holds, Cond.selects RX2 yX2_holds yX2_holds, Cond.code yX2_holds cX2_holds 5 (some .int), Cond.methodLink RX2 68 yX2_isAsked, Cond.static yX2_isAsked, Cond.code yX2_isAsked cX2_isAsked 2 (some .boolean), Cond.methodLink RX2 72 yX2_stands, Cond.instanceMethod yX2_stands, Cond.selects RX2 yX2_stands yX2_stands, Cond.code yX2_stands cX2_stands 7 (some .boolean), Cond.methodLink RX2 58 yX2_goes, Cond.static yX2_goes, Cond.code yX2_goes cX2_goes 7 (some .boolean), Cond.methodLink RX2 51 yX2_place, Cond.static yX2_place, Cond.code yX2_place cX2_place 2 (some .int), Cond.constant RX2 49 (1000000), Cond.constant RX2 50 (-1000000), Cond.methodLink RL 32 yX1_denies, Cond.instanceMethod yX1_denies, Cond.selects RX1 yX1_denies yX1_denies]
def wsL_law_r7 : List Cond := [Cond.code yX1_denies cX1_denies 5 (some .int), Cond.methodLink RL 35 yX2_denies, Cond.instanceMethod yX2_denies, Cond.selects RX2 yX2_denies yX2_denies, Cond.code yX2_denies cX2_denies 5 (some .int), Cond.fieldLink RX2 76 "TunerBenchModel" "denials" "I", Cond.methodLink RL 36 yX1_pick, Cond.instanceMethod yX1_pick, Cond.selects RX1 yX1_pick yX1_pick, Cond.code yX1_pick cX1_pick 5 (some .int), Cond.methodLink RL 39 yX2_pick, Cond.instanceMethod yX2_pick, Cond.selects RX2 yX2_pick yX2_pick, Cond.code yX2_pick cX2_pick 5 (some .int), Cond.methodLink RL 40 yX1_climb, Cond.instanceMethod yX1_climb, Cond.selects RX1 yX1_climb yX1_climb, Cond.code yX1_climb cX1_climb 5 (some .int), Cond.methodLink RL 44 yX2_climb, Cond.instanceMethod yX2_climb, Cond.selects RX2 yX2_climb yX2_climb, Cond.code yX2_climb cX2_climb 5 (some .int), Cond.methodLink RX2 79 yX2_isString, Cond.static yX2_isString]
def wsL_law_r8 : List Cond := [Cond.code yX2_isString cX2_isString 1 (some .boolean), Cond.methodLink RL 45 yX1_first, Cond.instanceMethod yX1_first, Cond.selects RX1 yX1_first yX1_first, Cond.code yX1_first cX1_first 6 (some .int), Cond.methodLink RL 49 yX2_first, Cond.instanceMethod yX2_first, Cond.selects RX2 yX2_first yX2_first, Cond.code yX2_first cX2_first 6 (some .int), Cond.methodLink RL 50 yX1_best, Cond.instanceMethod yX1_best, Cond.selects RX1 yX1_best yX1_best, Cond.code yX1_best cX1_best 6 (some .int), Cond.methodLink RL 54 yX2_best, Cond.instanceMethod yX2_best, Cond.selects RX2 yX2_best yX2_best, Cond.code yX2_best cX2_best 6 (some .int), Cond.methodLink RL 55 yX1_pass, Cond.instanceMethod yX1_pass, Cond.selects RX1 yX1_pass yX1_pass, Cond.code yX1_pass cX1_pass 7 (some .int), Cond.methodLink RX1 66 yX1_changeWithNext, Cond.instanceMethod yX1_changeWithNext, Cond.selects RX1 yX1_changeWithNext yX1_changeWithNext]
def wsL_law_r9 : List Cond := [Cond.code yX1_changeWithNext cX1_changeWithNext 5 none, Cond.methodLink RL 58 yX2_pass, Cond.instanceMethod yX2_pass, Cond.selects RX2 yX2_pass yX2_pass, Cond.code yX2_pass cX2_pass 10 (some .int), Cond.fieldLink RX2 82 "TunerBenchModel" "changes" "I", Cond.methodLink RL 59 yX1_within, Cond.instanceMethod yX1_within, Cond.selects RX1 yX1_within yX1_within, Cond.code yX1_within cX1_within 6 (some .int), Cond.methodLink RL 62 yX2_within, Cond.instanceMethod yX2_within, Cond.selects RX2 yX2_within yX2_within, Cond.code yX2_within cX2_within 6 (some .int), Cond.methodLink RL 63 yX1_guard, Cond.instanceMethod yX1_guard, Cond.selects RX1 yX1_guard yX1_guard, Cond.code yX1_guard cX1_guard 6 (some .boolean), Cond.instantiable RX0 6, Cond.initialized RX0, Cond.methodLink RX1 70 yX1_isGuard, Cond.static yX1_isGuard, Cond.code yX1_isGuard cX1_isGuard 1 (some .boolean), Cond.methodLink RX1 73 yX1_isMode]
def wsL_law_r10 : List Cond := [Cond.static yX1_isMode, Cond.code yX1_isMode cX1_isMode 1 (some .boolean), Cond.instanceMethod yX0_init, Cond.code yX0_init cX0_init 5 none, Cond.methodLink RX0 1 objectInit, Cond.fieldLink RX0 7 "TunerBench$Guard" "stood" "Z", Cond.fieldLink RX0 13 "TunerBench$Guard" "rang" "I", Cond.fieldLink RX0 17 "TunerBench$Guard" "what" "I", Cond.fieldLink RX0 20 "TunerBench$Guard" "how" "I", Cond.fieldLink RX0 23 "TunerBench$Guard" "copy" "I", Cond.fieldLink RX0 26 "TunerBench$Guard" "mode" "I", Cond.methodLink RL 67 yX2_guard, Cond.instanceMethod yX2_guard, Cond.selects RX2 yX2_guard yX2_guard, Cond.code yX2_guard cX2_guard 6 (some .boolean), Cond.fieldLink RX2 85 "TunerBenchModel" "guards" "I", Cond.methodLink RL 68 yX1_look, Cond.instanceMethod yX1_look, Cond.selects RX1 yX1_look yX1_look, Cond.code yX1_look cX1_look 4 (some .int), Cond.methodLink RX1 79 yX1_ringsNow, Cond.instanceMethod yX1_ringsNow, Cond.selects RX1 yX1_ringsNow yX1_ringsNow, Cond.code yX1_ringsNow cX1_ringsNow 4 (some .boolean)]
def wsL_law_r11 : List Cond := [Cond.methodLink RX1 124 yX1_isRung, Cond.static yX1_isRung, Cond.code yX1_isRung cX1_isRung 3 (some .boolean), Cond.methodLink RL 72 yX2_look, Cond.instanceMethod yX2_look, Cond.selects RX2 yX2_look yX2_look, Cond.code yX2_look cX2_look 6 (some .int), Cond.methodLink RL 73 yX1_rings, Cond.instanceMethod yX1_rings, Cond.selects RX1 yX1_rings yX1_rings, Cond.code yX1_rings cX1_rings 3 (some .int), Cond.methodLink RL 77 yX2_rings, Cond.instanceMethod yX2_rings, Cond.selects RX2 yX2_rings yX2_rings, Cond.code yX2_rings cX2_rings 2 (some .int), Cond.methodLink RL 78 yX1_strike, Cond.instanceMethod yX1_strike, Cond.selects RX1 yX1_strike yX1_strike, Cond.code yX1_strike cX1_strike 3 (some .boolean), Cond.methodLink RL 82 yX2_strike, Cond.instanceMethod yX2_strike, Cond.selects RX2 yX2_strike yX2_strike, Cond.code yX2_strike cX2_strike 3 (some .boolean), Cond.methodLink RL 83 yX1_count]
def wsL_law_r12 : List Cond := [Cond.instanceMethod yX1_count, Cond.selects RX1 yX1_count yX1_count, Cond.code yX1_count cX1_count 2 (some .int), Cond.methodLink RX1 86 yX1_guardsSet, Cond.instanceMethod yX1_guardsSet, Cond.selects RX1 yX1_guardsSet yX1_guardsSet, Cond.code yX1_guardsSet cX1_guardsSet 3 (some .int), Cond.methodLink RL 86 yX2_count, Cond.instanceMethod yX2_count, Cond.selects RX2 yX2_count yX2_count, Cond.code yX2_count cX2_count 2 (some .int)]
def wsL_law : List Cond := (wsL_law_r1 ++ (wsL_law_r2 ++ (wsL_law_r3 ++ (wsL_law_r4 ++ (wsL_law_r5 ++ (wsL_law_r6 ++ (wsL_law_r7 ++ (wsL_law_r8 ++ (wsL_law_r9 ++ (wsL_law_r10 ++ (wsL_law_r11 ++ wsL_law_r12))))))))))) ++ wsX10 ++ wsX20 ++ wsX00 ++ ([] : List Cond)
set_option maxRecDepth 20000 in
theorem wsL_law_in : ∀ w ∈ wsL_law, w ∈ lw_tbl := fun w h => (goodIn_p wsL_law [14, 17, 25, 204, 46, 49, 52, 55, 58, 63, 253, 256, 259, 264, 70, 73, 268, 77, 272, 81, 84, 87, 91, 94, 97, 100, 276, 279, 283, 286, 289, 104, 295, 108, 299, 112, 303, 306, 116, 310, 120, 314, 124, 128, 318, 132, 322, 136, 139, 142, 146, 326, 176, 180, 183, 330, 187, 334, 191, 338, 195, 199, 342] (by decide +kernel) (by decide +kernel) w h).1
theorem inlX0 : ∀ w ∈ wsX00, w ∈ wsL_law := fun _ h => List.mem_append_left _ (List.mem_append_right _ h)
theorem inX0 : ∀ w ∈ wsX00, w ∈ lw_tbl := fun w h => wsL_law_in w (inlX0 w h)
theorem inlX1 : ∀ w ∈ wsX10, w ∈ wsL_law := fun _ h => List.mem_append_left _ (List.mem_append_left _ (List.mem_append_left _ (List.mem_append_right _ h)))
theorem inX1 : ∀ w ∈ wsX10, w ∈ lw_tbl := fun w h => wsL_law_in w (inlX1 w h)
theorem inlX2 : ∀ w ∈ wsX20, w ∈ wsL_law := fun _ h => List.mem_append_left _ (List.mem_append_left _ (List.mem_append_right _ h))
theorem inX2 : ∀ w ∈ wsX20, w ∈ lw_tbl := fun w h => wsL_law_in w (inlX2 w h)
theorem inJ7 : ∀ w ∈ wsJ70, w ∈ lw_tbl := by decide +kernel
theorem dX0_init_0 : decode cX0_init 0 = .ok (.aload_n 0, 1) := by decide +kernel
theorem dX0_init_1 : decode cX0_init 1 = .ok (.invokespecial 1, 3) := by decide +kernel
theorem dX0_init_4 : decode cX0_init 4 = .ok (.aload_n 0, 1) := by decide +kernel
theorem dX0_init_5 : decode cX0_init 5 = .ok (.iconst 0, 1) := by decide +kernel
theorem dX0_init_6 : decode cX0_init 6 = .ok (.putfield 7, 3) := by decide +kernel
theorem dX0_init_9 : decode cX0_init 9 = .ok (.aload_n 0, 1) := by decide +kernel
theorem dX0_init_10 : decode cX0_init 10 = .ok (.iconst 0, 1) := by decide +kernel
theorem dX0_init_11 : decode cX0_init 11 = .ok (.putfield 13, 3) := by decide +kernel
theorem dX0_init_14 : decode cX0_init 14 = .ok (.aload_n 0, 1) := by decide +kernel
theorem dX0_init_15 : decode cX0_init 15 = .ok (.iload_n 1, 1) := by decide +kernel
theorem dX0_init_16 : decode cX0_init 16 = .ok (.putfield 17, 3) := by decide +kernel
theorem dX0_init_19 : decode cX0_init 19 = .ok (.aload_n 0, 1) := by decide +kernel
theorem dX0_init_20 : decode cX0_init 20 = .ok (.iload_n 2, 1) := by decide +kernel
theorem dX0_init_21 : decode cX0_init 21 = .ok (.putfield 20, 3) := by decide +kernel
theorem dX0_init_24 : decode cX0_init 24 = .ok (.aload_n 0, 1) := by decide +kernel
theorem dX0_init_25 : decode cX0_init 25 = .ok (.iload_n 3, 1) := by decide +kernel
theorem dX0_init_26 : decode cX0_init 26 = .ok (.putfield 23, 3) := by decide +kernel
theorem dX0_init_29 : decode cX0_init 29 = .ok (.aload_n 0, 1) := by decide +kernel
theorem dX0_init_30 : decode cX0_init 30 = .ok (.iload 4, 2) := by decide +kernel
theorem dX0_init_32 : decode cX0_init 32 = .ok (.putfield 26, 3) := by decide +kernel
theorem dX0_init_35 : decode cX0_init 35 = .ok (.return_, 1) := by decide +kernel
set_option maxRecDepth 20000 in
theorem ggX1_init_J7_fill_53178 : GoodIn wsX1_init wsJ7_fill_53178 := goodIn_r _ [16] (by decide +kernel) (by decide +kernel)
set_option maxRecDepth 20000 in
theorem gX1_init_J7_fill_53178 : GoodIn wsX1_init (va_wsS RX1 31 yJ7_fill_53178 wsJ7_fill_53178) := goodIn_app (goodIn_of _ (by decide +kernel)) ggX1_init_J7_fill_53178
theorem dX1_init_0 : decode cX1_init 0 = .ok (.aload_n 0, 1) := by decide +kernel
theorem dX1_init_1 : decode cX1_init 1 = .ok (.invokespecial 3, 3) := by decide +kernel
theorem dX1_init_4 : decode cX1_init 4 = .ok (.aload_n 0, 1) := by decide +kernel
theorem dX1_init_5 : decode cX1_init 5 = .ok (.iconst 2, 1) := by decide +kernel
theorem dX1_init_6 : decode cX1_init 6 = .ok (.bipush 33, 2) := by decide +kernel
theorem dX1_init_8 : decode cX1_init 8 = .ok (.multianewarray 9 2, 4) := by decide +kernel
theorem dX1_init_12 : decode cX1_init 12 = .ok (.putfield 11, 3) := by decide +kernel
theorem dX1_init_15 : decode cX1_init 15 = .ok (.aload_n 0, 1) := by decide +kernel
theorem dX1_init_16 : decode cX1_init 16 = .ok (.bipush 8, 2) := by decide +kernel
theorem dX1_init_18 : decode cX1_init 18 = .ok (.anewarray 14, 3) := by decide +kernel
theorem dX1_init_21 : decode cX1_init 21 = .ok (.putfield 16, 3) := by decide +kernel
theorem dX1_init_24 : decode cX1_init 24 = .ok (.aload_n 0, 1) := by decide +kernel
theorem dX1_init_25 : decode cX1_init 25 = .ok (.iconst 0, 1) := by decide +kernel
theorem dX1_init_26 : decode cX1_init 26 = .ok (.putfield 20, 3) := by decide +kernel
theorem dX1_init_29 : decode cX1_init 29 = .ok (.aload_n 0, 1) := by decide +kernel
theorem dX1_init_30 : decode cX1_init 30 = .ok (.iconst (-1), 1) := by decide +kernel
theorem dX1_init_31 : decode cX1_init 31 = .ok (.putfield 24, 3) := by decide +kernel
theorem dX1_init_34 : decode cX1_init 34 = .ok (.aload_n 0, 1) := by decide +kernel
theorem dX1_init_35 : decode cX1_init 35 = .ok (.iconst 0, 1) := by decide +kernel
theorem dX1_init_36 : decode cX1_init 36 = .ok (.putfield 27, 3) := by decide +kernel
theorem dX1_init_39 : decode cX1_init 39 = .ok (.iconst 0, 1) := by decide +kernel
theorem dX1_init_40 : decode cX1_init 40 = .ok (.istore_n 1, 1) := by decide +kernel
theorem dX1_init_41 : decode cX1_init 41 = .ok (.iload_n 1, 1) := by decide +kernel
theorem dX1_init_42 : decode cX1_init 42 = .ok (.iconst 2, 1) := by decide +kernel
theorem dX1_init_43 : decode cX1_init 43 = .ok (.if_icmp .ge 20, 3) := by decide +kernel
theorem dX1_init_46 : decode cX1_init 46 = .ok (.aload_n 0, 1) := by decide +kernel
theorem dX1_init_47 : decode cX1_init 47 = .ok (.getfield 11, 3) := by decide +kernel
theorem dX1_init_50 : decode cX1_init 50 = .ok (.iload_n 1, 1) := by decide +kernel
theorem dX1_init_51 : decode cX1_init 51 = .ok (.aaload, 1) := by decide +kernel
theorem dX1_init_52 : decode cX1_init 52 = .ok (.ldc 30, 2) := by decide +kernel
theorem dX1_init_54 : decode cX1_init 54 = .ok (.invokestatic 31, 3) := by decide +kernel
theorem dX1_init_57 : decode cX1_init 57 = .ok (.iinc 1 1, 3) := by decide +kernel
theorem dX1_init_60 : decode cX1_init 60 = .ok (.goto (-19), 3) := by decide +kernel
theorem dX1_init_63 : decode cX1_init 63 = .ok (.return_, 1) := by decide +kernel
set_option maxRecDepth 20000 in
theorem ggX1_put_X1_isWhat : GoodIn wsX1_put wsX1_isWhat := goodIn_r _ [5] (by decide +kernel) (by decide +kernel)
set_option maxRecDepth 20000 in
theorem gX1_put_X1_isWhat : GoodIn wsX1_put (va_wsS RX1 37 yX1_isWhat wsX1_isWhat) := goodIn_app (goodIn_of _ (by decide +kernel)) ggX1_put_X1_isWhat
set_option maxRecDepth 20000 in
theorem ggX1_put_X1_isStringOrFork : GoodIn wsX1_put wsX1_isStringOrFork := goodIn_r _ [8, 9, 10, 4, 11] (by decide +kernel) (by decide +kernel)
set_option maxRecDepth 20000 in
theorem gX1_put_X1_isStringOrFork : GoodIn wsX1_put (va_wsS RX1 41 yX1_isStringOrFork wsX1_isStringOrFork) := goodIn_app (goodIn_of _ (by decide +kernel)) ggX1_put_X1_isStringOrFork
set_option maxRecDepth 20000 in
theorem ggX1_put_X1_isValue : GoodIn wsX1_put wsX1_isValue := goodIn_r _ [14, 15, 16] (by decide +kernel) (by decide +kernel)
set_option maxRecDepth 20000 in
theorem gX1_put_X1_isValue : GoodIn wsX1_put (va_wsS RX1 44 yX1_isValue wsX1_isValue) := goodIn_app (goodIn_of _ (by decide +kernel)) ggX1_put_X1_isValue
set_option maxRecDepth 20000 in
theorem ggX1_put_X1_valueOf : GoodIn wsX1_put wsX1_valueOf := goodIn_r _ [19, 20, 21, 22, 23] (by decide +kernel) (by decide +kernel)
set_option maxRecDepth 20000 in
theorem gX1_put_X1_valueOf : GoodIn wsX1_put (va_wsS RX1 48 yX1_valueOf wsX1_valueOf) := goodIn_app (goodIn_of _ (by decide +kernel)) ggX1_put_X1_valueOf
theorem dX1_put_0 : decode cX1_put 0 = .ok (.iload_n 1, 1) := by decide +kernel
theorem dX1_put_1 : decode cX1_put 1 = .ok (.invokestatic 37, 3) := by decide +kernel
theorem dX1_put_4 : decode cX1_put 4 = .ok (.ifCond .eq 19, 3) := by decide +kernel
theorem dX1_put_7 : decode cX1_put 7 = .ok (.iload_n 2, 1) := by decide +kernel
theorem dX1_put_8 : decode cX1_put 8 = .ok (.invokestatic 41, 3) := by decide +kernel
theorem dX1_put_11 : decode cX1_put 11 = .ok (.ifCond .eq 12, 3) := by decide +kernel
theorem dX1_put_14 : decode cX1_put 14 = .ok (.iload_n 3, 1) := by decide +kernel
theorem dX1_put_15 : decode cX1_put 15 = .ok (.iload 4, 2) := by decide +kernel
theorem dX1_put_17 : decode cX1_put 17 = .ok (.invokestatic 44, 3) := by decide +kernel
theorem dX1_put_20 : decode cX1_put 20 = .ok (.ifCond .ne 5, 3) := by decide +kernel
theorem dX1_put_23 : decode cX1_put 23 = .ok (.iconst 0, 1) := by decide +kernel
theorem dX1_put_24 : decode cX1_put 24 = .ok (.ireturn, 1) := by decide +kernel
theorem dX1_put_25 : decode cX1_put 25 = .ok (.aload_n 0, 1) := by decide +kernel
theorem dX1_put_26 : decode cX1_put 26 = .ok (.getfield 11, 3) := by decide +kernel
theorem dX1_put_29 : decode cX1_put 29 = .ok (.iload_n 1, 1) := by decide +kernel
theorem dX1_put_30 : decode cX1_put 30 = .ok (.aaload, 1) := by decide +kernel
theorem dX1_put_31 : decode cX1_put 31 = .ok (.iload_n 2, 1) := by decide +kernel
theorem dX1_put_32 : decode cX1_put 32 = .ok (.iload_n 3, 1) := by decide +kernel
theorem dX1_put_33 : decode cX1_put 33 = .ok (.iload 4, 2) := by decide +kernel
theorem dX1_put_35 : decode cX1_put 35 = .ok (.invokestatic 48, 3) := by decide +kernel
theorem dX1_put_38 : decode cX1_put 38 = .ok (.iastore, 1) := by decide +kernel
theorem dX1_put_39 : decode cX1_put 39 = .ok (.iconst 1, 1) := by decide +kernel
theorem dX1_put_40 : decode cX1_put 40 = .ok (.ireturn, 1) := by decide +kernel
set_option maxRecDepth 20000 in
theorem ggX1_sort_X1_isWhat : GoodIn wsX1_sort wsX1_isWhat := goodIn_r _ [5] (by decide +kernel) (by decide +kernel)
set_option maxRecDepth 20000 in
theorem gX1_sort_X1_isWhat : GoodIn wsX1_sort (va_wsS RX1 37 yX1_isWhat wsX1_isWhat) := goodIn_app (goodIn_of _ (by decide +kernel)) ggX1_sort_X1_isWhat
set_option maxRecDepth 20000 in
theorem ggX1_sort_X1_isStringOrFork : GoodIn wsX1_sort wsX1_isStringOrFork := goodIn_r _ [8, 9, 10, 4, 11] (by decide +kernel) (by decide +kernel)
set_option maxRecDepth 20000 in
theorem gX1_sort_X1_isStringOrFork : GoodIn wsX1_sort (va_wsS RX1 41 yX1_isStringOrFork wsX1_isStringOrFork) := goodIn_app (goodIn_of _ (by decide +kernel)) ggX1_sort_X1_isStringOrFork
set_option maxRecDepth 20000 in
theorem ggX1_sort_X1_sortOf : GoodIn wsX1_sort wsX1_sortOf := goodIn_r _ [14] (by decide +kernel) (by decide +kernel)
set_option maxRecDepth 20000 in
theorem gX1_sort_X1_sortOf : GoodIn wsX1_sort (va_wsS RX1 52 yX1_sortOf wsX1_sortOf) := goodIn_app (goodIn_of _ (by decide +kernel)) ggX1_sort_X1_sortOf
theorem dX1_sort_0 : decode cX1_sort 0 = .ok (.iload_n 1, 1) := by decide +kernel
theorem dX1_sort_1 : decode cX1_sort 1 = .ok (.invokestatic 37, 3) := by decide +kernel
theorem dX1_sort_4 : decode cX1_sort 4 = .ok (.ifCond .eq 10, 3) := by decide +kernel
theorem dX1_sort_7 : decode cX1_sort 7 = .ok (.iload_n 2, 1) := by decide +kernel
theorem dX1_sort_8 : decode cX1_sort 8 = .ok (.invokestatic 41, 3) := by decide +kernel
theorem dX1_sort_11 : decode cX1_sort 11 = .ok (.ifCond .ne 5, 3) := by decide +kernel
theorem dX1_sort_14 : decode cX1_sort 14 = .ok (.iconst (-1), 1) := by decide +kernel
theorem dX1_sort_15 : decode cX1_sort 15 = .ok (.ireturn, 1) := by decide +kernel
theorem dX1_sort_16 : decode cX1_sort 16 = .ok (.aload_n 0, 1) := by decide +kernel
theorem dX1_sort_17 : decode cX1_sort 17 = .ok (.getfield 11, 3) := by decide +kernel
theorem dX1_sort_20 : decode cX1_sort 20 = .ok (.iload_n 1, 1) := by decide +kernel
theorem dX1_sort_21 : decode cX1_sort 21 = .ok (.aaload, 1) := by decide +kernel
theorem dX1_sort_22 : decode cX1_sort 22 = .ok (.iload_n 2, 1) := by decide +kernel
theorem dX1_sort_23 : decode cX1_sort 23 = .ok (.iaload, 1) := by decide +kernel
theorem dX1_sort_24 : decode cX1_sort 24 = .ok (.invokestatic 52, 3) := by decide +kernel
theorem dX1_sort_27 : decode cX1_sort 27 = .ok (.ireturn, 1) := by decide +kernel
set_option maxRecDepth 20000 in
theorem ggX1_quarters_X1_isWhat : GoodIn wsX1_quarters wsX1_isWhat := goodIn_r _ [5] (by decide +kernel) (by decide +kernel)
set_option maxRecDepth 20000 in
theorem gX1_quarters_X1_isWhat : GoodIn wsX1_quarters (va_wsS RX1 37 yX1_isWhat wsX1_isWhat) := goodIn_app (goodIn_of _ (by decide +kernel)) ggX1_quarters_X1_isWhat
set_option maxRecDepth 20000 in
theorem ggX1_quarters_X1_isStringOrFork : GoodIn wsX1_quarters wsX1_isStringOrFork := goodIn_r _ [8, 9, 10, 4, 11] (by decide +kernel) (by decide +kernel)
set_option maxRecDepth 20000 in
theorem gX1_quarters_X1_isStringOrFork : GoodIn wsX1_quarters (va_wsS RX1 41 yX1_isStringOrFork wsX1_isStringOrFork) := goodIn_app (goodIn_of _ (by decide +kernel)) ggX1_quarters_X1_isStringOrFork
set_option maxRecDepth 20000 in
theorem ggX1_quarters_X1_sortOf : GoodIn wsX1_quarters wsX1_sortOf := goodIn_r _ [14] (by decide +kernel) (by decide +kernel)
set_option maxRecDepth 20000 in
theorem gX1_quarters_X1_sortOf : GoodIn wsX1_quarters (va_wsS RX1 52 yX1_sortOf wsX1_sortOf) := goodIn_app (goodIn_of _ (by decide +kernel)) ggX1_quarters_X1_sortOf
theorem dX1_quarters_0 : decode cX1_quarters 0 = .ok (.iload_n 1, 1) := by decide +kernel
theorem dX1_quarters_1 : decode cX1_quarters 1 = .ok (.invokestatic 37, 3) := by decide +kernel
theorem dX1_quarters_4 : decode cX1_quarters 4 = .ok (.ifCond .eq 10, 3) := by decide +kernel
theorem dX1_quarters_7 : decode cX1_quarters 7 = .ok (.iload_n 2, 1) := by decide +kernel
theorem dX1_quarters_8 : decode cX1_quarters 8 = .ok (.invokestatic 41, 3) := by decide +kernel
theorem dX1_quarters_11 : decode cX1_quarters 11 = .ok (.ifCond .ne 5, 3) := by decide +kernel
theorem dX1_quarters_14 : decode cX1_quarters 14 = .ok (.iconst 0, 1) := by decide +kernel
theorem dX1_quarters_15 : decode cX1_quarters 15 = .ok (.ireturn, 1) := by decide +kernel
theorem dX1_quarters_16 : decode cX1_quarters 16 = .ok (.aload_n 0, 1) := by decide +kernel
theorem dX1_quarters_17 : decode cX1_quarters 17 = .ok (.getfield 11, 3) := by decide +kernel
theorem dX1_quarters_20 : decode cX1_quarters 20 = .ok (.iload_n 1, 1) := by decide +kernel
theorem dX1_quarters_21 : decode cX1_quarters 21 = .ok (.aaload, 1) := by decide +kernel
theorem dX1_quarters_22 : decode cX1_quarters 22 = .ok (.iload_n 2, 1) := by decide +kernel
theorem dX1_quarters_23 : decode cX1_quarters 23 = .ok (.iaload, 1) := by decide +kernel
theorem dX1_quarters_24 : decode cX1_quarters 24 = .ok (.istore_n 3, 1) := by decide +kernel
theorem dX1_quarters_25 : decode cX1_quarters 25 = .ok (.iload_n 3, 1) := by decide +kernel
theorem dX1_quarters_26 : decode cX1_quarters 26 = .ok (.invokestatic 52, 3) := by decide +kernel
theorem dX1_quarters_29 : decode cX1_quarters 29 = .ok (.ifCond .ne 7, 3) := by decide +kernel
theorem dX1_quarters_32 : decode cX1_quarters 32 = .ok (.iload_n 3, 1) := by decide +kernel
theorem dX1_quarters_33 : decode cX1_quarters 33 = .ok (.goto 4, 3) := by decide +kernel
theorem dX1_quarters_36 : decode cX1_quarters 36 = .ok (.iconst 0, 1) := by decide +kernel
theorem dX1_quarters_37 : decode cX1_quarters 37 = .ok (.ireturn, 1) := by decide +kernel
set_option maxRecDepth 20000 in
theorem ggX1_holds_X1_isQuestion : GoodIn wsX1_holds wsX1_isQuestion := goodIn_r _ [5, 6, 7, 4, 8, 9, 10, 11] (by decide +kernel) (by decide +kernel)
set_option maxRecDepth 20000 in
theorem gX1_holds_X1_isQuestion : GoodIn wsX1_holds (va_wsS RX1 56 yX1_isQuestion wsX1_isQuestion) := goodIn_app (goodIn_of _ (by decide +kernel)) ggX1_holds_X1_isQuestion
set_option maxRecDepth 20000 in
theorem ggX1_holds_X1_isStringOrFork : GoodIn wsX1_holds wsX1_isStringOrFork := goodIn_r _ [14, 15, 16, 4, 17] (by decide +kernel) (by decide +kernel)
set_option maxRecDepth 20000 in
theorem gX1_holds_X1_isStringOrFork : GoodIn wsX1_holds (va_wsS RX1 41 yX1_isStringOrFork wsX1_isStringOrFork) := goodIn_app (goodIn_of _ (by decide +kernel)) ggX1_holds_X1_isStringOrFork
set_option maxRecDepth 20000 in
theorem ggX1_holds_X1_stands : GoodIn wsX1_holds wsX1_stands := goodIn_r _ [21, 22, 23, 24, 4, 25, 26, 27, 28, 29, 30, 31, 32, 33, 34, 35, 36, 37, 38] (by decide +kernel) (by decide +kernel)
set_option maxRecDepth 20000 in
theorem gX1_holds_X1_stands : GoodIn wsX1_holds (wsV RX1 59 RX1 yX1_stands wsX1_stands) := goodIn_app (goodIn_of _ (by decide +kernel)) ggX1_holds_X1_stands
theorem dX1_holds_0 : decode cX1_holds 0 = .ok (.iload_n 1, 1) := by decide +kernel
theorem dX1_holds_1 : decode cX1_holds 1 = .ok (.iload_n 2, 1) := by decide +kernel
theorem dX1_holds_2 : decode cX1_holds 2 = .ok (.invokestatic 56, 3) := by decide +kernel
theorem dX1_holds_5 : decode cX1_holds 5 = .ok (.ifCond .eq 18, 3) := by decide +kernel
theorem dX1_holds_8 : decode cX1_holds 8 = .ok (.iload_n 3, 1) := by decide +kernel
theorem dX1_holds_9 : decode cX1_holds 9 = .ok (.invokestatic 41, 3) := by decide +kernel
theorem dX1_holds_12 : decode cX1_holds 12 = .ok (.ifCond .eq 11, 3) := by decide +kernel
theorem dX1_holds_15 : decode cX1_holds 15 = .ok (.iload 4, 2) := by decide +kernel
theorem dX1_holds_17 : decode cX1_holds 17 = .ok (.invokestatic 41, 3) := by decide +kernel
theorem dX1_holds_20 : decode cX1_holds 20 = .ok (.ifCond .ne 5, 3) := by decide +kernel
theorem dX1_holds_23 : decode cX1_holds 23 = .ok (.iconst (-1), 1) := by decide +kernel
theorem dX1_holds_24 : decode cX1_holds 24 = .ok (.ireturn, 1) := by decide +kernel
theorem dX1_holds_25 : decode cX1_holds 25 = .ok (.aload_n 0, 1) := by decide +kernel
theorem dX1_holds_26 : decode cX1_holds 26 = .ok (.aload_n 0, 1) := by decide +kernel
theorem dX1_holds_27 : decode cX1_holds 27 = .ok (.iload_n 1, 1) := by decide +kernel
theorem dX1_holds_28 : decode cX1_holds 28 = .ok (.iload_n 2, 1) := by decide +kernel
theorem dX1_holds_29 : decode cX1_holds 29 = .ok (.iload_n 3, 1) := by decide +kernel
theorem dX1_holds_30 : decode cX1_holds 30 = .ok (.iload 4, 2) := by decide +kernel
theorem dX1_holds_32 : decode cX1_holds 32 = .ok (.invokevirtual 59, 3) := by decide +kernel
theorem dX1_holds_35 : decode cX1_holds 35 = .ok (.ifCond .eq 7, 3) := by decide +kernel
theorem dX1_holds_38 : decode cX1_holds 38 = .ok (.iconst 1, 1) := by decide +kernel
theorem dX1_holds_39 : decode cX1_holds 39 = .ok (.goto 4, 3) := by decide +kernel
theorem dX1_holds_42 : decode cX1_holds 42 = .ok (.iconst 0, 1) := by decide +kernel
theorem dX1_holds_43 : decode cX1_holds 43 = .ok (.putfield 24, 3) := by decide +kernel
theorem dX1_holds_46 : decode cX1_holds 46 = .ok (.aload_n 0, 1) := by decide +kernel
theorem dX1_holds_47 : decode cX1_holds 47 = .ok (.getfield 24, 3) := by decide +kernel
theorem dX1_holds_50 : decode cX1_holds 50 = .ok (.ireturn, 1) := by decide +kernel
set_option maxRecDepth 20000 in
theorem ggX1_denies_X1_isQuestion : GoodIn wsX1_denies wsX1_isQuestion := goodIn_r _ [5, 6, 7, 4, 8, 9, 10, 11] (by decide +kernel) (by decide +kernel)
set_option maxRecDepth 20000 in
theorem gX1_denies_X1_isQuestion : GoodIn wsX1_denies (va_wsS RX1 56 yX1_isQuestion wsX1_isQuestion) := goodIn_app (goodIn_of _ (by decide +kernel)) ggX1_denies_X1_isQuestion
set_option maxRecDepth 20000 in
theorem ggX1_denies_X1_isStringOrFork : GoodIn wsX1_denies wsX1_isStringOrFork := goodIn_r _ [14, 15, 16, 4, 17] (by decide +kernel) (by decide +kernel)
set_option maxRecDepth 20000 in
theorem gX1_denies_X1_isStringOrFork : GoodIn wsX1_denies (va_wsS RX1 41 yX1_isStringOrFork wsX1_isStringOrFork) := goodIn_app (goodIn_of _ (by decide +kernel)) ggX1_denies_X1_isStringOrFork
set_option maxRecDepth 20000 in
theorem ggX1_denies_X1_stands : GoodIn wsX1_denies wsX1_stands := goodIn_r _ [21, 22, 23, 24, 4, 25, 26, 27, 28, 29, 30, 31, 32, 33, 34, 35, 36, 37, 38] (by decide +kernel) (by decide +kernel)
set_option maxRecDepth 20000 in
theorem gX1_denies_X1_stands : GoodIn wsX1_denies (wsV RX1 59 RX1 yX1_stands wsX1_stands) := goodIn_app (goodIn_of _ (by decide +kernel)) ggX1_denies_X1_stands
theorem dX1_denies_0 : decode cX1_denies 0 = .ok (.iload_n 1, 1) := by decide +kernel
theorem dX1_denies_1 : decode cX1_denies 1 = .ok (.iload_n 2, 1) := by decide +kernel
theorem dX1_denies_2 : decode cX1_denies 2 = .ok (.invokestatic 56, 3) := by decide +kernel
theorem dX1_denies_5 : decode cX1_denies 5 = .ok (.ifCond .eq 18, 3) := by decide +kernel
theorem dX1_denies_8 : decode cX1_denies 8 = .ok (.iload_n 3, 1) := by decide +kernel
theorem dX1_denies_9 : decode cX1_denies 9 = .ok (.invokestatic 41, 3) := by decide +kernel
theorem dX1_denies_12 : decode cX1_denies 12 = .ok (.ifCond .eq 11, 3) := by decide +kernel
theorem dX1_denies_15 : decode cX1_denies 15 = .ok (.iload 4, 2) := by decide +kernel
theorem dX1_denies_17 : decode cX1_denies 17 = .ok (.invokestatic 41, 3) := by decide +kernel
theorem dX1_denies_20 : decode cX1_denies 20 = .ok (.ifCond .ne 5, 3) := by decide +kernel
theorem dX1_denies_23 : decode cX1_denies 23 = .ok (.iconst (-1), 1) := by decide +kernel
theorem dX1_denies_24 : decode cX1_denies 24 = .ok (.ireturn, 1) := by decide +kernel
theorem dX1_denies_25 : decode cX1_denies 25 = .ok (.aload_n 0, 1) := by decide +kernel
theorem dX1_denies_26 : decode cX1_denies 26 = .ok (.iload_n 1, 1) := by decide +kernel
theorem dX1_denies_27 : decode cX1_denies 27 = .ok (.iload_n 2, 1) := by decide +kernel
theorem dX1_denies_28 : decode cX1_denies 28 = .ok (.iload_n 3, 1) := by decide +kernel
theorem dX1_denies_29 : decode cX1_denies 29 = .ok (.iload 4, 2) := by decide +kernel
theorem dX1_denies_31 : decode cX1_denies 31 = .ok (.invokevirtual 59, 3) := by decide +kernel
theorem dX1_denies_34 : decode cX1_denies 34 = .ok (.ifCond .eq 5, 3) := by decide +kernel
theorem dX1_denies_37 : decode cX1_denies 37 = .ok (.iconst 0, 1) := by decide +kernel
theorem dX1_denies_38 : decode cX1_denies 38 = .ok (.ireturn, 1) := by decide +kernel
theorem dX1_denies_39 : decode cX1_denies 39 = .ok (.aload_n 0, 1) := by decide +kernel
theorem dX1_denies_40 : decode cX1_denies 40 = .ok (.dup, 1) := by decide +kernel
theorem dX1_denies_41 : decode cX1_denies 41 = .ok (.getfield 20, 3) := by decide +kernel
theorem dX1_denies_44 : decode cX1_denies 44 = .ok (.iconst 1, 1) := by decide +kernel
theorem dX1_denies_45 : decode cX1_denies 45 = .ok (.iadd, 1) := by decide +kernel
theorem dX1_denies_46 : decode cX1_denies 46 = .ok (.putfield 20, 3) := by decide +kernel
theorem dX1_denies_49 : decode cX1_denies 49 = .ok (.iconst 1, 1) := by decide +kernel
theorem dX1_denies_50 : decode cX1_denies 50 = .ok (.ireturn, 1) := by decide +kernel
set_option maxRecDepth 20000 in
theorem ggX1_pick_X1_isQuestion : GoodIn wsX1_pick wsX1_isQuestion := goodIn_r _ [4, 5, 6, 3, 7, 8, 9, 10] (by decide +kernel) (by decide +kernel)
set_option maxRecDepth 20000 in
theorem gX1_pick_X1_isQuestion : GoodIn wsX1_pick (va_wsS RX1 56 yX1_isQuestion wsX1_isQuestion) := goodIn_app (goodIn_of _ (by decide +kernel)) ggX1_pick_X1_isQuestion
set_option maxRecDepth 20000 in
theorem ggX1_pick_X1_isStringOrFork : GoodIn wsX1_pick wsX1_isStringOrFork := goodIn_r _ [13, 14, 15, 3, 16] (by decide +kernel) (by decide +kernel)
set_option maxRecDepth 20000 in
theorem gX1_pick_X1_isStringOrFork : GoodIn wsX1_pick (va_wsS RX1 41 yX1_isStringOrFork wsX1_isStringOrFork) := goodIn_app (goodIn_of _ (by decide +kernel)) ggX1_pick_X1_isStringOrFork
set_option maxRecDepth 20000 in
theorem ggX1_pick_X1_stands : GoodIn wsX1_pick wsX1_stands := goodIn_r _ [20, 21, 22, 23, 3, 24, 25, 26, 27, 28, 29, 30, 31, 32, 33, 34, 35, 36, 37] (by decide +kernel) (by decide +kernel)
set_option maxRecDepth 20000 in
theorem gX1_pick_X1_stands : GoodIn wsX1_pick (wsV RX1 59 RX1 yX1_stands wsX1_stands) := goodIn_app (goodIn_of _ (by decide +kernel)) ggX1_pick_X1_stands
theorem dX1_pick_0 : decode cX1_pick 0 = .ok (.iload_n 1, 1) := by decide +kernel
theorem dX1_pick_1 : decode cX1_pick 1 = .ok (.iload_n 2, 1) := by decide +kernel
theorem dX1_pick_2 : decode cX1_pick 2 = .ok (.invokestatic 56, 3) := by decide +kernel
theorem dX1_pick_5 : decode cX1_pick 5 = .ok (.ifCond .eq 18, 3) := by decide +kernel
theorem dX1_pick_8 : decode cX1_pick 8 = .ok (.iload_n 3, 1) := by decide +kernel
theorem dX1_pick_9 : decode cX1_pick 9 = .ok (.invokestatic 41, 3) := by decide +kernel
theorem dX1_pick_12 : decode cX1_pick 12 = .ok (.ifCond .eq 11, 3) := by decide +kernel
theorem dX1_pick_15 : decode cX1_pick 15 = .ok (.iload 4, 2) := by decide +kernel
theorem dX1_pick_17 : decode cX1_pick 17 = .ok (.invokestatic 41, 3) := by decide +kernel
theorem dX1_pick_20 : decode cX1_pick 20 = .ok (.ifCond .ne 5, 3) := by decide +kernel
theorem dX1_pick_23 : decode cX1_pick 23 = .ok (.iconst (-1), 1) := by decide +kernel
theorem dX1_pick_24 : decode cX1_pick 24 = .ok (.ireturn, 1) := by decide +kernel
theorem dX1_pick_25 : decode cX1_pick 25 = .ok (.aload_n 0, 1) := by decide +kernel
theorem dX1_pick_26 : decode cX1_pick 26 = .ok (.iload_n 1, 1) := by decide +kernel
theorem dX1_pick_27 : decode cX1_pick 27 = .ok (.iload_n 2, 1) := by decide +kernel
theorem dX1_pick_28 : decode cX1_pick 28 = .ok (.iload_n 3, 1) := by decide +kernel
theorem dX1_pick_29 : decode cX1_pick 29 = .ok (.iload 4, 2) := by decide +kernel
theorem dX1_pick_31 : decode cX1_pick 31 = .ok (.invokevirtual 59, 3) := by decide +kernel
theorem dX1_pick_34 : decode cX1_pick 34 = .ok (.ifCond .eq 7, 3) := by decide +kernel
theorem dX1_pick_37 : decode cX1_pick 37 = .ok (.iload_n 3, 1) := by decide +kernel
theorem dX1_pick_38 : decode cX1_pick 38 = .ok (.goto 5, 3) := by decide +kernel
theorem dX1_pick_41 : decode cX1_pick 41 = .ok (.iload 4, 2) := by decide +kernel
theorem dX1_pick_43 : decode cX1_pick 43 = .ok (.ireturn, 1) := by decide +kernel
set_option maxRecDepth 20000 in
theorem ggX1_climb_X1_isQuestion : GoodIn wsX1_climb wsX1_isQuestion := goodIn_r _ [4, 5, 6, 3, 7, 8, 9, 10] (by decide +kernel) (by decide +kernel)
set_option maxRecDepth 20000 in
theorem gX1_climb_X1_isQuestion : GoodIn wsX1_climb (va_wsS RX1 56 yX1_isQuestion wsX1_isQuestion) := goodIn_app (goodIn_of _ (by decide +kernel)) ggX1_climb_X1_isQuestion
set_option maxRecDepth 20000 in
theorem ggX1_climb_X1_isString : GoodIn wsX1_climb wsX1_isString := goodIn_r _ [13] (by decide +kernel) (by decide +kernel)
set_option maxRecDepth 20000 in
theorem gX1_climb_X1_isString : GoodIn wsX1_climb (va_wsS RX1 63 yX1_isString wsX1_isString) := goodIn_app (goodIn_of _ (by decide +kernel)) ggX1_climb_X1_isString
set_option maxRecDepth 20000 in
theorem ggX1_climb_X1_stands : GoodIn wsX1_climb wsX1_stands := goodIn_r _ [17, 18, 19, 20, 3, 21, 22, 23, 24, 25, 26, 27, 28, 29, 30, 31, 32, 33, 34] (by decide +kernel) (by decide +kernel)
set_option maxRecDepth 20000 in
theorem gX1_climb_X1_stands : GoodIn wsX1_climb (wsV RX1 59 RX1 yX1_stands wsX1_stands) := goodIn_app (goodIn_of _ (by decide +kernel)) ggX1_climb_X1_stands
theorem dX1_climb_0 : decode cX1_climb 0 = .ok (.iload_n 1, 1) := by decide +kernel
theorem dX1_climb_1 : decode cX1_climb 1 = .ok (.iload_n 2, 1) := by decide +kernel
theorem dX1_climb_2 : decode cX1_climb 2 = .ok (.invokestatic 56, 3) := by decide +kernel
theorem dX1_climb_5 : decode cX1_climb 5 = .ok (.ifCond .eq 10, 3) := by decide +kernel
theorem dX1_climb_8 : decode cX1_climb 8 = .ok (.iload_n 3, 1) := by decide +kernel
theorem dX1_climb_9 : decode cX1_climb 9 = .ok (.invokestatic 63, 3) := by decide +kernel
theorem dX1_climb_12 : decode cX1_climb 12 = .ok (.ifCond .ne 5, 3) := by decide +kernel
theorem dX1_climb_15 : decode cX1_climb 15 = .ok (.iconst (-1), 1) := by decide +kernel
theorem dX1_climb_16 : decode cX1_climb 16 = .ok (.ireturn, 1) := by decide +kernel
theorem dX1_climb_17 : decode cX1_climb 17 = .ok (.iload_n 3, 1) := by decide +kernel
theorem dX1_climb_18 : decode cX1_climb 18 = .ok (.istore 4, 2) := by decide +kernel
theorem dX1_climb_20 : decode cX1_climb 20 = .ok (.iload 4, 2) := by decide +kernel
theorem dX1_climb_22 : decode cX1_climb 22 = .ok (.bipush 31, 2) := by decide +kernel
theorem dX1_climb_24 : decode cX1_climb 24 = .ok (.if_icmp .ge 24, 3) := by decide +kernel
theorem dX1_climb_27 : decode cX1_climb 27 = .ok (.aload_n 0, 1) := by decide +kernel
theorem dX1_climb_28 : decode cX1_climb 28 = .ok (.iload_n 1, 1) := by decide +kernel
theorem dX1_climb_29 : decode cX1_climb 29 = .ok (.iload_n 2, 1) := by decide +kernel
theorem dX1_climb_30 : decode cX1_climb 30 = .ok (.iload 4, 2) := by decide +kernel
theorem dX1_climb_32 : decode cX1_climb 32 = .ok (.iload 4, 2) := by decide +kernel
theorem dX1_climb_34 : decode cX1_climb 34 = .ok (.iconst 1, 1) := by decide +kernel
theorem dX1_climb_35 : decode cX1_climb 35 = .ok (.iadd, 1) := by decide +kernel
theorem dX1_climb_36 : decode cX1_climb 36 = .ok (.invokevirtual 59, 3) := by decide +kernel
theorem dX1_climb_39 : decode cX1_climb 39 = .ok (.ifCond .eq 9, 3) := by decide +kernel
theorem dX1_climb_42 : decode cX1_climb 42 = .ok (.iinc 4 1, 3) := by decide +kernel
theorem dX1_climb_45 : decode cX1_climb 45 = .ok (.goto (-25), 3) := by decide +kernel
theorem dX1_climb_48 : decode cX1_climb 48 = .ok (.iload 4, 2) := by decide +kernel
theorem dX1_climb_50 : decode cX1_climb 50 = .ok (.ireturn, 1) := by decide +kernel
set_option maxRecDepth 20000 in
theorem ggX1_first_X1_isQuestion : GoodIn wsX1_first wsX1_isQuestion := goodIn_r _ [4, 5, 6, 3, 7, 8, 9, 10] (by decide +kernel) (by decide +kernel)
set_option maxRecDepth 20000 in
theorem gX1_first_X1_isQuestion : GoodIn wsX1_first (va_wsS RX1 56 yX1_isQuestion wsX1_isQuestion) := goodIn_app (goodIn_of _ (by decide +kernel)) ggX1_first_X1_isQuestion
set_option maxRecDepth 20000 in
theorem ggX1_first_X1_isString : GoodIn wsX1_first wsX1_isString := goodIn_r _ [13] (by decide +kernel) (by decide +kernel)
set_option maxRecDepth 20000 in
theorem gX1_first_X1_isString : GoodIn wsX1_first (va_wsS RX1 63 yX1_isString wsX1_isString) := goodIn_app (goodIn_of _ (by decide +kernel)) ggX1_first_X1_isString
set_option maxRecDepth 20000 in
theorem ggX1_first_X1_stands : GoodIn wsX1_first wsX1_stands := goodIn_r _ [17, 18, 19, 20, 3, 21, 22, 23, 24, 25, 26, 27, 28, 29, 30, 31, 32, 33, 34] (by decide +kernel) (by decide +kernel)
set_option maxRecDepth 20000 in
theorem gX1_first_X1_stands : GoodIn wsX1_first (wsV RX1 59 RX1 yX1_stands wsX1_stands) := goodIn_app (goodIn_of _ (by decide +kernel)) ggX1_first_X1_stands
theorem dX1_first_0 : decode cX1_first 0 = .ok (.iload_n 1, 1) := by decide +kernel
theorem dX1_first_1 : decode cX1_first 1 = .ok (.iload_n 2, 1) := by decide +kernel
theorem dX1_first_2 : decode cX1_first 2 = .ok (.invokestatic 56, 3) := by decide +kernel
theorem dX1_first_5 : decode cX1_first 5 = .ok (.ifCond .eq 10, 3) := by decide +kernel
theorem dX1_first_8 : decode cX1_first 8 = .ok (.iload_n 3, 1) := by decide +kernel
theorem dX1_first_9 : decode cX1_first 9 = .ok (.invokestatic 63, 3) := by decide +kernel
theorem dX1_first_12 : decode cX1_first 12 = .ok (.ifCond .ne 5, 3) := by decide +kernel
theorem dX1_first_15 : decode cX1_first 15 = .ok (.iconst (-1), 1) := by decide +kernel
theorem dX1_first_16 : decode cX1_first 16 = .ok (.ireturn, 1) := by decide +kernel
theorem dX1_first_17 : decode cX1_first 17 = .ok (.iload_n 3, 1) := by decide +kernel
theorem dX1_first_18 : decode cX1_first 18 = .ok (.istore 5, 2) := by decide +kernel
theorem dX1_first_20 : decode cX1_first 20 = .ok (.iload 5, 2) := by decide +kernel
theorem dX1_first_22 : decode cX1_first 22 = .ok (.bipush 32, 2) := by decide +kernel
theorem dX1_first_24 : decode cX1_first 24 = .ok (.if_icmp .ge 27, 3) := by decide +kernel
theorem dX1_first_27 : decode cX1_first 27 = .ok (.aload_n 0, 1) := by decide +kernel
theorem dX1_first_28 : decode cX1_first 28 = .ok (.iload_n 1, 1) := by decide +kernel
theorem dX1_first_29 : decode cX1_first 29 = .ok (.iload_n 2, 1) := by decide +kernel
theorem dX1_first_30 : decode cX1_first 30 = .ok (.iload 5, 2) := by decide +kernel
theorem dX1_first_32 : decode cX1_first 32 = .ok (.bipush 32, 2) := by decide +kernel
theorem dX1_first_34 : decode cX1_first 34 = .ok (.invokevirtual 59, 3) := by decide +kernel
theorem dX1_first_37 : decode cX1_first 37 = .ok (.iload 4, 2) := by decide +kernel
theorem dX1_first_39 : decode cX1_first 39 = .ok (.if_icmp .eq 6, 3) := by decide +kernel
theorem dX1_first_42 : decode cX1_first 42 = .ok (.iload 5, 2) := by decide +kernel
theorem dX1_first_44 : decode cX1_first 44 = .ok (.ireturn, 1) := by decide +kernel
theorem dX1_first_45 : decode cX1_first 45 = .ok (.iinc 5 1, 3) := by decide +kernel
theorem dX1_first_48 : decode cX1_first 48 = .ok (.goto (-28), 3) := by decide +kernel
theorem dX1_first_51 : decode cX1_first 51 = .ok (.iconst (-1), 1) := by decide +kernel
theorem dX1_first_52 : decode cX1_first 52 = .ok (.ireturn, 1) := by decide +kernel
set_option maxRecDepth 20000 in
theorem ggX1_best_X1_isQuestion : GoodIn wsX1_best wsX1_isQuestion := goodIn_r _ [4, 5, 6, 3, 7, 8, 9, 10] (by decide +kernel) (by decide +kernel)
set_option maxRecDepth 20000 in
theorem gX1_best_X1_isQuestion : GoodIn wsX1_best (va_wsS RX1 56 yX1_isQuestion wsX1_isQuestion) := goodIn_app (goodIn_of _ (by decide +kernel)) ggX1_best_X1_isQuestion
set_option maxRecDepth 20000 in
theorem ggX1_best_X1_stands : GoodIn wsX1_best wsX1_stands := goodIn_r _ [14, 15, 16, 17, 3, 18, 19, 20, 21, 22, 23, 24, 25, 26, 27, 28, 29, 30, 31] (by decide +kernel) (by decide +kernel)
set_option maxRecDepth 20000 in
theorem gX1_best_X1_stands : GoodIn wsX1_best (wsV RX1 59 RX1 yX1_stands wsX1_stands) := goodIn_app (goodIn_of _ (by decide +kernel)) ggX1_best_X1_stands
theorem dX1_best_0 : decode cX1_best 0 = .ok (.iload_n 1, 1) := by decide +kernel
theorem dX1_best_1 : decode cX1_best 1 = .ok (.iload_n 2, 1) := by decide +kernel
theorem dX1_best_2 : decode cX1_best 2 = .ok (.invokestatic 56, 3) := by decide +kernel
theorem dX1_best_5 : decode cX1_best 5 = .ok (.ifCond .ne 5, 3) := by decide +kernel
theorem dX1_best_8 : decode cX1_best 8 = .ok (.iconst (-1), 1) := by decide +kernel
theorem dX1_best_9 : decode cX1_best 9 = .ok (.ireturn, 1) := by decide +kernel
theorem dX1_best_10 : decode cX1_best 10 = .ok (.iconst 0, 1) := by decide +kernel
theorem dX1_best_11 : decode cX1_best 11 = .ok (.istore 4, 2) := by decide +kernel
theorem dX1_best_13 : decode cX1_best 13 = .ok (.iconst 1, 1) := by decide +kernel
theorem dX1_best_14 : decode cX1_best 14 = .ok (.istore 5, 2) := by decide +kernel
theorem dX1_best_16 : decode cX1_best 16 = .ok (.iload 5, 2) := by decide +kernel
theorem dX1_best_18 : decode cX1_best 18 = .ok (.bipush 32, 2) := by decide +kernel
theorem dX1_best_20 : decode cX1_best 20 = .ok (.if_icmp .ge 27, 3) := by decide +kernel
theorem dX1_best_23 : decode cX1_best 23 = .ok (.aload_n 0, 1) := by decide +kernel
theorem dX1_best_24 : decode cX1_best 24 = .ok (.iload_n 1, 1) := by decide +kernel
theorem dX1_best_25 : decode cX1_best 25 = .ok (.iload_n 2, 1) := by decide +kernel
theorem dX1_best_26 : decode cX1_best 26 = .ok (.iload 5, 2) := by decide +kernel
theorem dX1_best_28 : decode cX1_best 28 = .ok (.iload 4, 2) := by decide +kernel
theorem dX1_best_30 : decode cX1_best 30 = .ok (.invokevirtual 59, 3) := by decide +kernel
theorem dX1_best_33 : decode cX1_best 33 = .ok (.iload_n 3, 1) := by decide +kernel
theorem dX1_best_34 : decode cX1_best 34 = .ok (.if_icmp .eq 7, 3) := by decide +kernel
theorem dX1_best_37 : decode cX1_best 37 = .ok (.iload 5, 2) := by decide +kernel
theorem dX1_best_39 : decode cX1_best 39 = .ok (.istore 4, 2) := by decide +kernel
theorem dX1_best_41 : decode cX1_best 41 = .ok (.iinc 5 1, 3) := by decide +kernel
theorem dX1_best_44 : decode cX1_best 44 = .ok (.goto (-28), 3) := by decide +kernel
theorem dX1_best_47 : decode cX1_best 47 = .ok (.iload 4, 2) := by decide +kernel
theorem dX1_best_49 : decode cX1_best 49 = .ok (.ireturn, 1) := by decide +kernel
set_option maxRecDepth 20000 in
theorem ggX1_pass_X1_isQuestion : GoodIn wsX1_pass wsX1_isQuestion := goodIn_r _ [5, 6, 7, 4, 8, 9, 10, 11] (by decide +kernel) (by decide +kernel)
set_option maxRecDepth 20000 in
theorem gX1_pass_X1_isQuestion : GoodIn wsX1_pass (va_wsS RX1 56 yX1_isQuestion wsX1_isQuestion) := goodIn_app (goodIn_of _ (by decide +kernel)) ggX1_pass_X1_isQuestion
set_option maxRecDepth 20000 in
theorem ggX1_pass_X1_isString : GoodIn wsX1_pass wsX1_isString := goodIn_r _ [14] (by decide +kernel) (by decide +kernel)
set_option maxRecDepth 20000 in
theorem gX1_pass_X1_isString : GoodIn wsX1_pass (va_wsS RX1 63 yX1_isString wsX1_isString) := goodIn_app (goodIn_of _ (by decide +kernel)) ggX1_pass_X1_isString
set_option maxRecDepth 20000 in
theorem ggX1_pass_X1_stands : GoodIn wsX1_pass wsX1_stands := goodIn_r _ [18, 19, 20, 21, 4, 22, 23, 24, 25, 26, 27, 28, 29, 30, 35, 36, 37, 38, 39] (by decide +kernel) (by decide +kernel)
set_option maxRecDepth 20000 in
theorem gX1_pass_X1_stands : GoodIn wsX1_pass (wsV RX1 59 RX1 yX1_stands wsX1_stands) := goodIn_app (goodIn_of _ (by decide +kernel)) ggX1_pass_X1_stands
set_option maxRecDepth 20000 in
theorem ggX1_pass_X1_changeWithNext : GoodIn wsX1_pass wsX1_changeWithNext := goodIn_r _ [34, 19, 35, 36, 37, 38, 39] (by decide +kernel) (by decide +kernel)
set_option maxRecDepth 20000 in
theorem gX1_pass_X1_changeWithNext : GoodIn wsX1_pass (wsV RX1 66 RX1 yX1_changeWithNext wsX1_changeWithNext) := goodIn_app (goodIn_of _ (by decide +kernel)) ggX1_pass_X1_changeWithNext
theorem dX1_pass_0 : decode cX1_pass 0 = .ok (.iload_n 1, 1) := by decide +kernel
theorem dX1_pass_1 : decode cX1_pass 1 = .ok (.iload_n 2, 1) := by decide +kernel
theorem dX1_pass_2 : decode cX1_pass 2 = .ok (.invokestatic 56, 3) := by decide +kernel
theorem dX1_pass_5 : decode cX1_pass 5 = .ok (.ifCond .eq 24, 3) := by decide +kernel
theorem dX1_pass_8 : decode cX1_pass 8 = .ok (.iload_n 3, 1) := by decide +kernel
theorem dX1_pass_9 : decode cX1_pass 9 = .ok (.invokestatic 63, 3) := by decide +kernel
theorem dX1_pass_12 : decode cX1_pass 12 = .ok (.ifCond .eq 17, 3) := by decide +kernel
theorem dX1_pass_15 : decode cX1_pass 15 = .ok (.iload 4, 2) := by decide +kernel
theorem dX1_pass_17 : decode cX1_pass 17 = .ok (.invokestatic 63, 3) := by decide +kernel
theorem dX1_pass_20 : decode cX1_pass 20 = .ok (.ifCond .eq 9, 3) := by decide +kernel
theorem dX1_pass_23 : decode cX1_pass 23 = .ok (.iload_n 3, 1) := by decide +kernel
theorem dX1_pass_24 : decode cX1_pass 24 = .ok (.iload 4, 2) := by decide +kernel
theorem dX1_pass_26 : decode cX1_pass 26 = .ok (.if_icmp .le 5, 3) := by decide +kernel
theorem dX1_pass_29 : decode cX1_pass 29 = .ok (.iconst (-1), 1) := by decide +kernel
theorem dX1_pass_30 : decode cX1_pass 30 = .ok (.ireturn, 1) := by decide +kernel
theorem dX1_pass_31 : decode cX1_pass 31 = .ok (.iconst 0, 1) := by decide +kernel
theorem dX1_pass_32 : decode cX1_pass 32 = .ok (.istore 5, 2) := by decide +kernel
theorem dX1_pass_34 : decode cX1_pass 34 = .ok (.iload_n 3, 1) := by decide +kernel
theorem dX1_pass_35 : decode cX1_pass 35 = .ok (.istore 6, 2) := by decide +kernel
theorem dX1_pass_37 : decode cX1_pass 37 = .ok (.iload 6, 2) := by decide +kernel
theorem dX1_pass_39 : decode cX1_pass 39 = .ok (.iload 4, 2) := by decide +kernel
theorem dX1_pass_41 : decode cX1_pass 41 = .ok (.if_icmp .ge 34, 3) := by decide +kernel
theorem dX1_pass_44 : decode cX1_pass 44 = .ok (.aload_n 0, 1) := by decide +kernel
theorem dX1_pass_45 : decode cX1_pass 45 = .ok (.iload_n 1, 1) := by decide +kernel
theorem dX1_pass_46 : decode cX1_pass 46 = .ok (.iload_n 2, 1) := by decide +kernel
theorem dX1_pass_47 : decode cX1_pass 47 = .ok (.iload 6, 2) := by decide +kernel
theorem dX1_pass_49 : decode cX1_pass 49 = .ok (.iload 6, 2) := by decide +kernel
theorem dX1_pass_51 : decode cX1_pass 51 = .ok (.iconst 1, 1) := by decide +kernel
theorem dX1_pass_52 : decode cX1_pass 52 = .ok (.iadd, 1) := by decide +kernel
theorem dX1_pass_53 : decode cX1_pass 53 = .ok (.invokevirtual 59, 3) := by decide +kernel
theorem dX1_pass_56 : decode cX1_pass 56 = .ok (.ifCond .ne 13, 3) := by decide +kernel
theorem dX1_pass_59 : decode cX1_pass 59 = .ok (.aload_n 0, 1) := by decide +kernel
theorem dX1_pass_60 : decode cX1_pass 60 = .ok (.iload_n 1, 1) := by decide +kernel
theorem dX1_pass_61 : decode cX1_pass 61 = .ok (.iload 6, 2) := by decide +kernel
theorem dX1_pass_63 : decode cX1_pass 63 = .ok (.invokevirtual 66, 3) := by decide +kernel
theorem dX1_pass_66 : decode cX1_pass 66 = .ok (.iinc 5 1, 3) := by decide +kernel
theorem dX1_pass_69 : decode cX1_pass 69 = .ok (.iinc 6 1, 3) := by decide +kernel
theorem dX1_pass_72 : decode cX1_pass 72 = .ok (.goto (-35), 3) := by decide +kernel
theorem dX1_pass_75 : decode cX1_pass 75 = .ok (.aload_n 0, 1) := by decide +kernel
theorem dX1_pass_76 : decode cX1_pass 76 = .ok (.dup, 1) := by decide +kernel
theorem dX1_pass_77 : decode cX1_pass 77 = .ok (.getfield 27, 3) := by decide +kernel
theorem dX1_pass_80 : decode cX1_pass 80 = .ok (.iload 5, 2) := by decide +kernel
theorem dX1_pass_82 : decode cX1_pass 82 = .ok (.iadd, 1) := by decide +kernel
theorem dX1_pass_83 : decode cX1_pass 83 = .ok (.putfield 27, 3) := by decide +kernel
theorem dX1_pass_86 : decode cX1_pass 86 = .ok (.iload 5, 2) := by decide +kernel
theorem dX1_pass_88 : decode cX1_pass 88 = .ok (.ireturn, 1) := by decide +kernel
set_option maxRecDepth 20000 in
theorem ggX1_within_X1_isWhat : GoodIn wsX1_within wsX1_isWhat := goodIn_r _ [4] (by decide +kernel) (by decide +kernel)
set_option maxRecDepth 20000 in
theorem gX1_within_X1_isWhat : GoodIn wsX1_within (va_wsS RX1 37 yX1_isWhat wsX1_isWhat) := goodIn_app (goodIn_of _ (by decide +kernel)) ggX1_within_X1_isWhat
set_option maxRecDepth 20000 in
theorem ggX1_within_X1_isString : GoodIn wsX1_within wsX1_isString := goodIn_r _ [7] (by decide +kernel) (by decide +kernel)
set_option maxRecDepth 20000 in
theorem gX1_within_X1_isString : GoodIn wsX1_within (va_wsS RX1 63 yX1_isString wsX1_isString) := goodIn_app (goodIn_of _ (by decide +kernel)) ggX1_within_X1_isString
set_option maxRecDepth 20000 in
theorem ggX1_within_X1_isStringOrFork : GoodIn wsX1_within wsX1_isStringOrFork := goodIn_r _ [10, 5, 6, 3, 7] (by decide +kernel) (by decide +kernel)
set_option maxRecDepth 20000 in
theorem gX1_within_X1_isStringOrFork : GoodIn wsX1_within (va_wsS RX1 41 yX1_isStringOrFork wsX1_isStringOrFork) := goodIn_app (goodIn_of _ (by decide +kernel)) ggX1_within_X1_isStringOrFork
set_option maxRecDepth 20000 in
theorem ggX1_within_X1_stands : GoodIn wsX1_within wsX1_stands := goodIn_r _ [14, 15, 16, 17, 3, 18, 19, 20, 21, 22, 23, 24, 25, 26, 27, 28, 29, 30, 31] (by decide +kernel) (by decide +kernel)
set_option maxRecDepth 20000 in
theorem gX1_within_X1_stands : GoodIn wsX1_within (wsV RX1 59 RX1 yX1_stands wsX1_stands) := goodIn_app (goodIn_of _ (by decide +kernel)) ggX1_within_X1_stands
theorem dX1_within_0 : decode cX1_within 0 = .ok (.iload_n 1, 1) := by decide +kernel
theorem dX1_within_1 : decode cX1_within 1 = .ok (.invokestatic 37, 3) := by decide +kernel
theorem dX1_within_4 : decode cX1_within 4 = .ok (.ifCond .eq 25, 3) := by decide +kernel
theorem dX1_within_7 : decode cX1_within 7 = .ok (.iload_n 2, 1) := by decide +kernel
theorem dX1_within_8 : decode cX1_within 8 = .ok (.invokestatic 63, 3) := by decide +kernel
theorem dX1_within_11 : decode cX1_within 11 = .ok (.ifCond .eq 18, 3) := by decide +kernel
theorem dX1_within_14 : decode cX1_within 14 = .ok (.iload_n 3, 1) := by decide +kernel
theorem dX1_within_15 : decode cX1_within 15 = .ok (.invokestatic 41, 3) := by decide +kernel
theorem dX1_within_18 : decode cX1_within 18 = .ok (.ifCond .eq 11, 3) := by decide +kernel
theorem dX1_within_21 : decode cX1_within 21 = .ok (.iload 4, 2) := by decide +kernel
theorem dX1_within_23 : decode cX1_within 23 = .ok (.invokestatic 41, 3) := by decide +kernel
theorem dX1_within_26 : decode cX1_within 26 = .ok (.ifCond .ne 5, 3) := by decide +kernel
theorem dX1_within_29 : decode cX1_within 29 = .ok (.iconst (-1), 1) := by decide +kernel
theorem dX1_within_30 : decode cX1_within 30 = .ok (.ireturn, 1) := by decide +kernel
theorem dX1_within_31 : decode cX1_within 31 = .ok (.iconst 0, 1) := by decide +kernel
theorem dX1_within_32 : decode cX1_within 32 = .ok (.istore 5, 2) := by decide +kernel
theorem dX1_within_34 : decode cX1_within 34 = .ok (.aload_n 0, 1) := by decide +kernel
theorem dX1_within_35 : decode cX1_within 35 = .ok (.iload_n 1, 1) := by decide +kernel
theorem dX1_within_36 : decode cX1_within 36 = .ok (.iconst 3, 1) := by decide +kernel
theorem dX1_within_37 : decode cX1_within 37 = .ok (.iload_n 2, 1) := by decide +kernel
theorem dX1_within_38 : decode cX1_within 38 = .ok (.iload_n 3, 1) := by decide +kernel
theorem dX1_within_39 : decode cX1_within 39 = .ok (.invokevirtual 59, 3) := by decide +kernel
theorem dX1_within_42 : decode cX1_within 42 = .ok (.ifCond .eq 18, 3) := by decide +kernel
theorem dX1_within_45 : decode cX1_within 45 = .ok (.aload_n 0, 1) := by decide +kernel
theorem dX1_within_46 : decode cX1_within 46 = .ok (.iload_n 1, 1) := by decide +kernel
theorem dX1_within_47 : decode cX1_within 47 = .ok (.iconst 1, 1) := by decide +kernel
theorem dX1_within_48 : decode cX1_within 48 = .ok (.iload_n 2, 1) := by decide +kernel
theorem dX1_within_49 : decode cX1_within 49 = .ok (.iload 4, 2) := by decide +kernel
theorem dX1_within_51 : decode cX1_within 51 = .ok (.invokevirtual 59, 3) := by decide +kernel
theorem dX1_within_54 : decode cX1_within 54 = .ok (.ifCond .eq 6, 3) := by decide +kernel
theorem dX1_within_57 : decode cX1_within 57 = .ok (.iinc 5 1, 3) := by decide +kernel
theorem dX1_within_60 : decode cX1_within 60 = .ok (.aload_n 0, 1) := by decide +kernel
theorem dX1_within_61 : decode cX1_within 61 = .ok (.iload_n 1, 1) := by decide +kernel
theorem dX1_within_62 : decode cX1_within 62 = .ok (.iconst 0, 1) := by decide +kernel
theorem dX1_within_63 : decode cX1_within 63 = .ok (.iload_n 2, 1) := by decide +kernel
theorem dX1_within_64 : decode cX1_within 64 = .ok (.iload_n 3, 1) := by decide +kernel
theorem dX1_within_65 : decode cX1_within 65 = .ok (.invokevirtual 59, 3) := by decide +kernel
theorem dX1_within_68 : decode cX1_within 68 = .ok (.ifCond .ne 18, 3) := by decide +kernel
theorem dX1_within_71 : decode cX1_within 71 = .ok (.aload_n 0, 1) := by decide +kernel
theorem dX1_within_72 : decode cX1_within 72 = .ok (.iload_n 1, 1) := by decide +kernel
theorem dX1_within_73 : decode cX1_within 73 = .ok (.iconst 2, 1) := by decide +kernel
theorem dX1_within_74 : decode cX1_within 74 = .ok (.iload_n 2, 1) := by decide +kernel
theorem dX1_within_75 : decode cX1_within 75 = .ok (.iload 4, 2) := by decide +kernel
theorem dX1_within_77 : decode cX1_within 77 = .ok (.invokevirtual 59, 3) := by decide +kernel
theorem dX1_within_80 : decode cX1_within 80 = .ok (.ifCond .ne 6, 3) := by decide +kernel
theorem dX1_within_83 : decode cX1_within 83 = .ok (.iinc 5 2, 3) := by decide +kernel
theorem dX1_within_86 : decode cX1_within 86 = .ok (.aload_n 0, 1) := by decide +kernel
theorem dX1_within_87 : decode cX1_within 87 = .ok (.iload_n 1, 1) := by decide +kernel
theorem dX1_within_88 : decode cX1_within 88 = .ok (.iconst 0, 1) := by decide +kernel
theorem dX1_within_89 : decode cX1_within 89 = .ok (.iload_n 2, 1) := by decide +kernel
theorem dX1_within_90 : decode cX1_within 90 = .ok (.iload_n 3, 1) := by decide +kernel
theorem dX1_within_91 : decode cX1_within 91 = .ok (.invokevirtual 59, 3) := by decide +kernel
theorem dX1_within_94 : decode cX1_within 94 = .ok (.ifCond .ne 15, 3) := by decide +kernel
theorem dX1_within_97 : decode cX1_within 97 = .ok (.aload_n 0, 1) := by decide +kernel
theorem dX1_within_98 : decode cX1_within 98 = .ok (.iload_n 1, 1) := by decide +kernel
theorem dX1_within_99 : decode cX1_within 99 = .ok (.iconst 2, 1) := by decide +kernel
theorem dX1_within_100 : decode cX1_within 100 = .ok (.iload_n 2, 1) := by decide +kernel
theorem dX1_within_101 : decode cX1_within 101 = .ok (.iload 4, 2) := by decide +kernel
theorem dX1_within_103 : decode cX1_within 103 = .ok (.invokevirtual 59, 3) := by decide +kernel
theorem dX1_within_106 : decode cX1_within 106 = .ok (.ifCond .eq 6, 3) := by decide +kernel
theorem dX1_within_109 : decode cX1_within 109 = .ok (.iinc 5 4, 3) := by decide +kernel
theorem dX1_within_112 : decode cX1_within 112 = .ok (.aload_n 0, 1) := by decide +kernel
theorem dX1_within_113 : decode cX1_within 113 = .ok (.iload_n 1, 1) := by decide +kernel
theorem dX1_within_114 : decode cX1_within 114 = .ok (.iconst 5, 1) := by decide +kernel
theorem dX1_within_115 : decode cX1_within 115 = .ok (.iload_n 2, 1) := by decide +kernel
theorem dX1_within_116 : decode cX1_within 116 = .ok (.iload_n 2, 1) := by decide +kernel
theorem dX1_within_117 : decode cX1_within 117 = .ok (.invokevirtual 59, 3) := by decide +kernel
theorem dX1_within_120 : decode cX1_within 120 = .ok (.ifCond .eq 6, 3) := by decide +kernel
theorem dX1_within_123 : decode cX1_within 123 = .ok (.iinc 5 8, 3) := by decide +kernel
theorem dX1_within_126 : decode cX1_within 126 = .ok (.iload 5, 2) := by decide +kernel
theorem dX1_within_128 : decode cX1_within 128 = .ok (.ireturn, 1) := by decide +kernel
set_option maxRecDepth 20000 in
theorem ggX1_guard_X1_isGuard : GoodIn wsX1_guard wsX1_isGuard := goodIn_r _ [9] (by decide +kernel) (by decide +kernel)
set_option maxRecDepth 20000 in
theorem gX1_guard_X1_isGuard : GoodIn wsX1_guard (va_wsS RX1 70 yX1_isGuard wsX1_isGuard) := goodIn_app (goodIn_of _ (by decide +kernel)) ggX1_guard_X1_isGuard
set_option maxRecDepth 20000 in
theorem ggX1_guard_X1_isQuestion : GoodIn wsX1_guard wsX1_isQuestion := goodIn_r _ [12, 13, 14, 8, 15, 16, 17, 18] (by decide +kernel) (by decide +kernel)
set_option maxRecDepth 20000 in
theorem gX1_guard_X1_isQuestion : GoodIn wsX1_guard (va_wsS RX1 56 yX1_isQuestion wsX1_isQuestion) := goodIn_app (goodIn_of _ (by decide +kernel)) ggX1_guard_X1_isQuestion
set_option maxRecDepth 20000 in
theorem ggX1_guard_X1_isString : GoodIn wsX1_guard wsX1_isString := goodIn_r _ [21] (by decide +kernel) (by decide +kernel)
set_option maxRecDepth 20000 in
theorem gX1_guard_X1_isString : GoodIn wsX1_guard (va_wsS RX1 63 yX1_isString wsX1_isString) := goodIn_app (goodIn_of _ (by decide +kernel)) ggX1_guard_X1_isString
set_option maxRecDepth 20000 in
theorem ggX1_guard_X1_isMode : GoodIn wsX1_guard wsX1_isMode := goodIn_r _ [24] (by decide +kernel) (by decide +kernel)
set_option maxRecDepth 20000 in
theorem gX1_guard_X1_isMode : GoodIn wsX1_guard (va_wsS RX1 73 yX1_isMode wsX1_isMode) := goodIn_app (goodIn_of _ (by decide +kernel)) ggX1_guard_X1_isMode
set_option maxRecDepth 20000 in
theorem ggX1_guard_X0_init : GoodIn wsX1_guard wsX0_init := goodIn_r _ [26, 27, 28, 29, 30, 31, 32, 33, 34, 35, 41, 42, 43, 44, 45, 46] (by decide +kernel) (by decide +kernel)
set_option maxRecDepth 20000 in
theorem gX1_guard_X0_init_n76 : GoodIn wsX1_guard (wsX0_init) := ggX1_guard_X0_init
theorem dX1_guard_0 : decode cX1_guard 0 = .ok (.iload_n 1, 1) := by decide +kernel
theorem dX1_guard_1 : decode cX1_guard 1 = .ok (.invokestatic 70, 3) := by decide +kernel
theorem dX1_guard_4 : decode cX1_guard 4 = .ok (.ifCond .eq 27, 3) := by decide +kernel
theorem dX1_guard_7 : decode cX1_guard 7 = .ok (.iload_n 2, 1) := by decide +kernel
theorem dX1_guard_8 : decode cX1_guard 8 = .ok (.iload_n 3, 1) := by decide +kernel
theorem dX1_guard_9 : decode cX1_guard 9 = .ok (.invokestatic 56, 3) := by decide +kernel
theorem dX1_guard_12 : decode cX1_guard 12 = .ok (.ifCond .eq 19, 3) := by decide +kernel
theorem dX1_guard_15 : decode cX1_guard 15 = .ok (.iload 4, 2) := by decide +kernel
theorem dX1_guard_17 : decode cX1_guard 17 = .ok (.invokestatic 63, 3) := by decide +kernel
theorem dX1_guard_20 : decode cX1_guard 20 = .ok (.ifCond .eq 11, 3) := by decide +kernel
theorem dX1_guard_23 : decode cX1_guard 23 = .ok (.iload 5, 2) := by decide +kernel
theorem dX1_guard_25 : decode cX1_guard 25 = .ok (.invokestatic 73, 3) := by decide +kernel
theorem dX1_guard_28 : decode cX1_guard 28 = .ok (.ifCond .ne 5, 3) := by decide +kernel
theorem dX1_guard_31 : decode cX1_guard 31 = .ok (.iconst 0, 1) := by decide +kernel
theorem dX1_guard_32 : decode cX1_guard 32 = .ok (.ireturn, 1) := by decide +kernel
theorem dX1_guard_33 : decode cX1_guard 33 = .ok (.aload_n 0, 1) := by decide +kernel
theorem dX1_guard_34 : decode cX1_guard 34 = .ok (.getfield 16, 3) := by decide +kernel
theorem dX1_guard_37 : decode cX1_guard 37 = .ok (.iload_n 1, 1) := by decide +kernel
theorem dX1_guard_38 : decode cX1_guard 38 = .ok (.new 14, 3) := by decide +kernel
theorem dX1_guard_41 : decode cX1_guard 41 = .ok (.dup, 1) := by decide +kernel
theorem dX1_guard_42 : decode cX1_guard 42 = .ok (.iload_n 2, 1) := by decide +kernel
theorem dX1_guard_43 : decode cX1_guard 43 = .ok (.iload_n 3, 1) := by decide +kernel
theorem dX1_guard_44 : decode cX1_guard 44 = .ok (.aload_n 0, 1) := by decide +kernel
theorem dX1_guard_45 : decode cX1_guard 45 = .ok (.getfield 11, 3) := by decide +kernel
theorem dX1_guard_48 : decode cX1_guard 48 = .ok (.iload_n 2, 1) := by decide +kernel
theorem dX1_guard_49 : decode cX1_guard 49 = .ok (.aaload, 1) := by decide +kernel
theorem dX1_guard_50 : decode cX1_guard 50 = .ok (.iload 4, 2) := by decide +kernel
theorem dX1_guard_52 : decode cX1_guard 52 = .ok (.iaload, 1) := by decide +kernel
theorem dX1_guard_53 : decode cX1_guard 53 = .ok (.iload 5, 2) := by decide +kernel
theorem dX1_guard_55 : decode cX1_guard 55 = .ok (.invokespecial 76, 3) := by decide +kernel
theorem dX1_guard_58 : decode cX1_guard 58 = .ok (.aastore, 1) := by decide +kernel
theorem dX1_guard_59 : decode cX1_guard 59 = .ok (.iconst 1, 1) := by decide +kernel
theorem dX1_guard_60 : decode cX1_guard 60 = .ok (.ireturn, 1) := by decide +kernel
set_option maxRecDepth 20000 in
theorem ggX1_look_X1_ringsNow : GoodIn wsX1_look wsX1_ringsNow := goodIn_r _ [6, 7, 8, 9, 5, 10, 11, 12, 13, 14, 15, 16, 17, 18, 19, 20, 21, 27, 28, 29, 30, 31, 32, 22, 23, 24, 25, 26] (by decide +kernel) (by decide +kernel)
set_option maxRecDepth 20000 in
theorem gX1_look_X1_ringsNow : GoodIn wsX1_look (wsV RX1 79 RX1 yX1_ringsNow wsX1_ringsNow) := goodIn_app (goodIn_of _ (by decide +kernel)) ggX1_look_X1_ringsNow
theorem dX1_look_0 : decode cX1_look 0 = .ok (.iconst 0, 1) := by decide +kernel
theorem dX1_look_1 : decode cX1_look 1 = .ok (.istore_n 1, 1) := by decide +kernel
theorem dX1_look_2 : decode cX1_look 2 = .ok (.iconst 0, 1) := by decide +kernel
theorem dX1_look_3 : decode cX1_look 3 = .ok (.istore_n 2, 1) := by decide +kernel
theorem dX1_look_4 : decode cX1_look 4 = .ok (.iload_n 2, 1) := by decide +kernel
theorem dX1_look_5 : decode cX1_look 5 = .ok (.bipush 8, 2) := by decide +kernel
theorem dX1_look_7 : decode cX1_look 7 = .ok (.if_icmp .ge 34, 3) := by decide +kernel
theorem dX1_look_10 : decode cX1_look 10 = .ok (.aload_n 0, 1) := by decide +kernel
theorem dX1_look_11 : decode cX1_look 11 = .ok (.getfield 16, 3) := by decide +kernel
theorem dX1_look_14 : decode cX1_look 14 = .ok (.iload_n 2, 1) := by decide +kernel
theorem dX1_look_15 : decode cX1_look 15 = .ok (.aaload, 1) := by decide +kernel
theorem dX1_look_16 : decode cX1_look 16 = .ok (.astore_n 3, 1) := by decide +kernel
theorem dX1_look_17 : decode cX1_look 17 = .ok (.aload_n 3, 1) := by decide +kernel
theorem dX1_look_18 : decode cX1_look 18 = .ok (.ifnull 17, 3) := by decide +kernel
theorem dX1_look_21 : decode cX1_look 21 = .ok (.aload_n 0, 1) := by decide +kernel
theorem dX1_look_22 : decode cX1_look 22 = .ok (.aload_n 3, 1) := by decide +kernel
theorem dX1_look_23 : decode cX1_look 23 = .ok (.invokevirtual 79, 3) := by decide +kernel
theorem dX1_look_26 : decode cX1_look 26 = .ok (.ifCond .eq 9, 3) := by decide +kernel
theorem dX1_look_29 : decode cX1_look 29 = .ok (.iload_n 1, 1) := by decide +kernel
theorem dX1_look_30 : decode cX1_look 30 = .ok (.iconst 1, 1) := by decide +kernel
theorem dX1_look_31 : decode cX1_look 31 = .ok (.iload_n 2, 1) := by decide +kernel
theorem dX1_look_32 : decode cX1_look 32 = .ok (.ishl, 1) := by decide +kernel
theorem dX1_look_33 : decode cX1_look 33 = .ok (.iadd, 1) := by decide +kernel
theorem dX1_look_34 : decode cX1_look 34 = .ok (.istore_n 1, 1) := by decide +kernel
theorem dX1_look_35 : decode cX1_look 35 = .ok (.iinc 2 1, 3) := by decide +kernel
theorem dX1_look_38 : decode cX1_look 38 = .ok (.goto (-34), 3) := by decide +kernel
theorem dX1_look_41 : decode cX1_look 41 = .ok (.iload_n 1, 1) := by decide +kernel
theorem dX1_look_42 : decode cX1_look 42 = .ok (.ireturn, 1) := by decide +kernel
set_option maxRecDepth 20000 in
theorem ggX1_rings_X1_isGuard : GoodIn wsX1_rings wsX1_isGuard := goodIn_r _ [5] (by decide +kernel) (by decide +kernel)
set_option maxRecDepth 20000 in
theorem gX1_rings_X1_isGuard : GoodIn wsX1_rings (va_wsS RX1 70 yX1_isGuard wsX1_isGuard) := goodIn_app (goodIn_of _ (by decide +kernel)) ggX1_rings_X1_isGuard
theorem dX1_rings_0 : decode cX1_rings 0 = .ok (.iload_n 1, 1) := by decide +kernel
theorem dX1_rings_1 : decode cX1_rings 1 = .ok (.invokestatic 70, 3) := by decide +kernel
theorem dX1_rings_4 : decode cX1_rings 4 = .ok (.ifCond .ne 5, 3) := by decide +kernel
theorem dX1_rings_7 : decode cX1_rings 7 = .ok (.iconst (-1), 1) := by decide +kernel
theorem dX1_rings_8 : decode cX1_rings 8 = .ok (.ireturn, 1) := by decide +kernel
theorem dX1_rings_9 : decode cX1_rings 9 = .ok (.aload_n 0, 1) := by decide +kernel
theorem dX1_rings_10 : decode cX1_rings 10 = .ok (.getfield 16, 3) := by decide +kernel
theorem dX1_rings_13 : decode cX1_rings 13 = .ok (.iload_n 1, 1) := by decide +kernel
theorem dX1_rings_14 : decode cX1_rings 14 = .ok (.aaload, 1) := by decide +kernel
theorem dX1_rings_15 : decode cX1_rings 15 = .ok (.astore_n 2, 1) := by decide +kernel
theorem dX1_rings_16 : decode cX1_rings 16 = .ok (.aload_n 2, 1) := by decide +kernel
theorem dX1_rings_17 : decode cX1_rings 17 = .ok (.ifnonnull 7, 3) := by decide +kernel
theorem dX1_rings_20 : decode cX1_rings 20 = .ok (.iconst (-1), 1) := by decide +kernel
theorem dX1_rings_21 : decode cX1_rings 21 = .ok (.goto 7, 3) := by decide +kernel
theorem dX1_rings_24 : decode cX1_rings 24 = .ok (.aload_n 2, 1) := by decide +kernel
theorem dX1_rings_25 : decode cX1_rings 25 = .ok (.getfield 83, 3) := by decide +kernel
theorem dX1_rings_28 : decode cX1_rings 28 = .ok (.ireturn, 1) := by decide +kernel
set_option maxRecDepth 20000 in
theorem ggX1_strike_X1_isString : GoodIn wsX1_strike wsX1_isString := goodIn_r _ [5] (by decide +kernel) (by decide +kernel)
set_option maxRecDepth 20000 in
theorem gX1_strike_X1_isString : GoodIn wsX1_strike (va_wsS RX1 63 yX1_isString wsX1_isString) := goodIn_app (goodIn_of _ (by decide +kernel)) ggX1_strike_X1_isString
theorem dX1_strike_0 : decode cX1_strike 0 = .ok (.iload_n 1, 1) := by decide +kernel
theorem dX1_strike_1 : decode cX1_strike 1 = .ok (.invokestatic 63, 3) := by decide +kernel
theorem dX1_strike_4 : decode cX1_strike 4 = .ok (.ifCond .ne 5, 3) := by decide +kernel
theorem dX1_strike_7 : decode cX1_strike 7 = .ok (.iconst 0, 1) := by decide +kernel
theorem dX1_strike_8 : decode cX1_strike 8 = .ok (.ireturn, 1) := by decide +kernel
theorem dX1_strike_9 : decode cX1_strike 9 = .ok (.iconst 0, 1) := by decide +kernel
theorem dX1_strike_10 : decode cX1_strike 10 = .ok (.istore_n 2, 1) := by decide +kernel
theorem dX1_strike_11 : decode cX1_strike 11 = .ok (.iload_n 2, 1) := by decide +kernel
theorem dX1_strike_12 : decode cX1_strike 12 = .ok (.iconst 2, 1) := by decide +kernel
theorem dX1_strike_13 : decode cX1_strike 13 = .ok (.if_icmp .ge 26, 3) := by decide +kernel
theorem dX1_strike_16 : decode cX1_strike 16 = .ok (.aload_n 0, 1) := by decide +kernel
theorem dX1_strike_17 : decode cX1_strike 17 = .ok (.getfield 11, 3) := by decide +kernel
theorem dX1_strike_20 : decode cX1_strike 20 = .ok (.iload_n 2, 1) := by decide +kernel
theorem dX1_strike_21 : decode cX1_strike 21 = .ok (.aaload, 1) := by decide +kernel
theorem dX1_strike_22 : decode cX1_strike 22 = .ok (.bipush 32, 2) := by decide +kernel
theorem dX1_strike_24 : decode cX1_strike 24 = .ok (.aload_n 0, 1) := by decide +kernel
theorem dX1_strike_25 : decode cX1_strike 25 = .ok (.getfield 11, 3) := by decide +kernel
theorem dX1_strike_28 : decode cX1_strike 28 = .ok (.iload_n 2, 1) := by decide +kernel
theorem dX1_strike_29 : decode cX1_strike 29 = .ok (.aaload, 1) := by decide +kernel
theorem dX1_strike_30 : decode cX1_strike 30 = .ok (.iload_n 1, 1) := by decide +kernel
