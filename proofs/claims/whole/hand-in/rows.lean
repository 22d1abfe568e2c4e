section
-- ===== PART A: goes FIRST, ahead of the names: the tables' words, and 'selects' of the private methods out of them =====
/-- a private method of a class that the tables say can be made, by its rows of tables_1 -/
def lw_okq (q : MethodName × Nat) : Prop := (q.1.cls ≠ "java/lang/invoke/MethodHandle" ∧ q.1.cls ≠ "java/lang/invoke/VarHandle") ∧ Cond.instantiable q.1.cls q.2 ∈ tables_1 ∧ Cond.privateMethod q.1 ∈ tables_1 ∧ Cond.instanceMethod q.1 ∈ tables_1
theorem lw_p0 : lw_okq (⟨"TunerBench", "stands", "(IIII)Z"⟩, 5) := ⟨⟨by decide +kernel, by decide +kernel⟩, List.mem_of_getElem? (i := 6) (by decide +kernel), List.mem_of_getElem? (i := 84) (by decide +kernel), List.mem_of_getElem? (i := 85) (by decide +kernel)⟩
theorem lw_p1 : lw_okq (⟨"TunerBench", "changeWithNext", "(II)V"⟩, 5) := ⟨⟨by decide +kernel, by decide +kernel⟩, List.mem_of_getElem? (i := 6) (by decide +kernel), List.mem_of_getElem? (i := 121) (by decide +kernel), List.mem_of_getElem? (i := 122) (by decide +kernel)⟩
theorem lw_p2 : lw_okq (⟨"TunerBench", "ringsNow", "(LTunerBench$Guard;)Z"⟩, 5) := ⟨⟨by decide +kernel, by decide +kernel⟩, List.mem_of_getElem? (i := 6) (by decide +kernel), List.mem_of_getElem? (i := 173) (by decide +kernel), List.mem_of_getElem? (i := 174) (by decide +kernel)⟩
theorem lw_p3 : lw_okq (⟨"TunerBench", "guardsSet", "()I"⟩, 5) := ⟨⟨by decide +kernel, by decide +kernel⟩, List.mem_of_getElem? (i := 6) (by decide +kernel), List.mem_of_getElem? (i := 192) (by decide +kernel), List.mem_of_getElem? (i := 193) (by decide +kernel)⟩
theorem lw_p4 : lw_okq (⟨"TunerBenchModel", "stands", "(IIII)Z"⟩, 14) := ⟨⟨by decide +kernel, by decide +kernel⟩, List.mem_of_getElem? (i := 196) (by decide +kernel), List.mem_of_getElem? (i := 276) (by decide +kernel), List.mem_of_getElem? (i := 277) (by decide +kernel)⟩
def lw_privs_1 : List (MethodName × Nat) := [(⟨"TunerBench", "stands", "(IIII)Z"⟩, 5), (⟨"TunerBench", "changeWithNext", "(II)V"⟩, 5), (⟨"TunerBench", "ringsNow", "(LTunerBench$Guard;)Z"⟩, 5), (⟨"TunerBench", "guardsSet", "()I"⟩, 5), (⟨"TunerBenchModel", "stands", "(IIII)Z"⟩, 14)]
theorem lw_r1 : ∀ q ∈ lw_privs_1, lw_okq q := List.forall_mem_cons.mpr ⟨lw_p0, List.forall_mem_cons.mpr ⟨lw_p1, List.forall_mem_cons.mpr ⟨lw_p2, List.forall_mem_cons.mpr ⟨lw_p3, List.forall_mem_cons.mpr ⟨lw_p4, fun _ h => absurd h List.not_mem_nil⟩⟩⟩⟩⟩
def lw_privs : List (MethodName × Nat) := lw_privs_1
def lw_tbl : List Cond := k2_sels lw_privs ++ tables_1
theorem lw_privs_ok : ∀ q ∈ lw_privs, lw_okq q := lw_r1
end
section
/-! ===== BEGIN words of one list among another's, by their places ===== -/
theorem goodIn_r {big : List Cond} (ws : List Cond) (ps : List Nat) (hp : ws = ps.filterMap (fun i => big[i]?)) (h : ws.all goodWord = true) : GoodIn big ws := by
  intro w hw
  have h1 := List.all_eq_true.mp h w hw
  rw [hp] at hw
  obtain ⟨i, -, hi⟩ := List.mem_filterMap.mp hw
  have hm : w ∈ big := by first | exact List.mem_of_getElem? hi | exact List.getElem?_mem hi
  exact ⟨hm, good_of_word h1⟩
theorem goodIn_app {big a b : List Cond} (ha : GoodIn big a) (hb : GoodIn big b) : GoodIn big (a ++ b) := fun w h => (List.mem_append.mp h).elim (ha w) (hb w)
theorem goodIn_ca {big a b : List Cond} {c : Cond} (ha : GoodIn big (c :: a)) (hb : GoodIn big b) : GoodIn big (c :: (a ++ b)) := fun w h => (List.mem_cons.mp h).elim (fun e => ha w (List.mem_cons.mpr (Or.inl e))) (fun h => (List.mem_append.mp h).elim (fun h => ha w (List.mem_cons.mpr (Or.inr h))) (hb w))
theorem goodIn_sub {big ws : List Cond} (hm : ∀ w ∈ ws, w ∈ big) (h : ws.all goodWord = true) : GoodIn big ws := fun w hw => ⟨hm w hw, good_of_word (List.all_eq_true.mp h w hw)⟩
/-! ===== END ===== -/
/-! ===== BEGIN printed: names, fields, word lists, decode rows ===== -/
def RX0 : String := "TunerBench$Guard"
def TX0 : u_T := fun k => match k with
  | 0 => ("TunerBench$Guard", "what", "I", true)
  | 1 => ("TunerBench$Guard", "how", "I", true)
  | 2 => ("TunerBench$Guard", "copy", "I", true)
  | 3 => ("TunerBench$Guard", "mode", "I", true)
  | 4 => ("TunerBench$Guard", "stood", "Z", false)
  | _ => ("TunerBench$Guard", "rang", "I", false)
def tyX0 : Nat → FieldType := fun k => match k with
  | 0 => .int
  | 1 => .int
  | 2 => .int
  | 3 => .int
  | 4 => .boolean
  | _ => .int
abbrev wsX00 : List Cond := u_ws RX0 TX0 6
theorem nmX0 : ∀ a, a < 6 → ∀ b, b < 6 → a ≠ b → (TX0 a).2.1 ≠ (TX0 b).2.1 := by decide +kernel
theorem tyX0_ok : ∀ k, k < 6 → parseFieldDescriptor (TX0 k).2.2.1 = some (tyX0 k) := by decide +kernel
abbrev cX0_init : ByteArray := prog_2_method_1_code
def yX0_init : MethodName := ⟨RX0, "<init>", "(IIII)V"⟩
def RX1 : String := "TunerBench"
def TX1 : u_T := fun k => match k with
  | 0 => ("TunerBench", "values", "[[I", true)
  | 1 => ("TunerBench", "guards", "[LTunerBench$Guard;", true)
  | 2 => ("TunerBench", "denials", "I", false)
  | 3 => ("TunerBench", "latestTruth", "I", false)
  | _ => ("TunerBench", "changes", "I", false)
def tyX1 : Nat → FieldType := fun k => match k with
  | 0 => .array (.array .int)
  | 1 => .array (.object "TunerBench$Guard")
  | 2 => .int
  | 3 => .int
  | _ => .int
abbrev wsX10 : List Cond := u_ws RX1 TX1 5
theorem nmX1 : ∀ a, a < 5 → ∀ b, b < 5 → a ≠ b → (TX1 a).2.1 ≠ (TX1 b).2.1 := by decide +kernel
theorem tyX1_ok : ∀ k, k < 5 → parseFieldDescriptor (TX1 k).2.2.1 = some (tyX1 k) := by decide +kernel
abbrev cX1_init : ByteArray := prog_1_method_1_code
def yX1_init : MethodName := ⟨RX1, "<init>", "()V"⟩
abbrev cX1_put : ByteArray := prog_1_method_2_code
def yX1_put : MethodName := ⟨RX1, "put", "(IIII)Z"⟩
abbrev cX1_sort : ByteArray := prog_1_method_3_code
def yX1_sort : MethodName := ⟨RX1, "sort", "(II)I"⟩
abbrev cX1_quarters : ByteArray := prog_1_method_4_code
def yX1_quarters : MethodName := ⟨RX1, "quarters", "(II)I"⟩
abbrev cX1_holds : ByteArray := prog_1_method_5_code
def yX1_holds : MethodName := ⟨RX1, "holds", "(IIII)I"⟩
abbrev cX1_denies : ByteArray := prog_1_method_6_code
def yX1_denies : MethodName := ⟨RX1, "denies", "(IIII)I"⟩
abbrev cX1_pick : ByteArray := prog_1_method_7_code
def yX1_pick : MethodName := ⟨RX1, "pick", "(IIII)I"⟩
abbrev cX1_climb : ByteArray := prog_1_method_8_code
def yX1_climb : MethodName := ⟨RX1, "climb", "(III)I"⟩
abbrev cX1_first : ByteArray := prog_1_method_9_code
def yX1_first : MethodName := ⟨RX1, "first", "(IIIZ)I"⟩
abbrev cX1_best : ByteArray := prog_1_method_10_code
def yX1_best : MethodName := ⟨RX1, "best", "(IIZ)I"⟩
abbrev cX1_pass : ByteArray := prog_1_method_11_code
def yX1_pass : MethodName := ⟨RX1, "pass", "(IIII)I"⟩
abbrev cX1_within : ByteArray := prog_1_method_12_code
def yX1_within : MethodName := ⟨RX1, "within", "(IIII)I"⟩
abbrev cX1_guard : ByteArray := prog_1_method_13_code
def yX1_guard : MethodName := ⟨RX1, "guard", "(IIIII)Z"⟩
abbrev cX1_look : ByteArray := prog_1_method_14_code
def yX1_look : MethodName := ⟨RX1, "look", "()I"⟩
abbrev cX1_rings : ByteArray := prog_1_method_15_code
def yX1_rings : MethodName := ⟨RX1, "rings", "(I)I"⟩
abbrev cX1_strike : ByteArray := prog_1_method_16_code
def yX1_strike : MethodName := ⟨RX1, "strike", "(I)Z"⟩
abbrev cX1_count : ByteArray := prog_1_method_17_code
def yX1_count : MethodName := ⟨RX1, "count", "(I)I"⟩
abbrev cX1_isWhat : ByteArray := prog_1_method_18_code
def yX1_isWhat : MethodName := ⟨RX1, "isWhat", "(I)Z"⟩
abbrev cX1_isHow : ByteArray := prog_1_method_19_code
def yX1_isHow : MethodName := ⟨RX1, "isHow", "(I)Z"⟩
abbrev cX1_isQuestion : ByteArray := prog_1_method_20_code
def yX1_isQuestion : MethodName := ⟨RX1, "isQuestion", "(II)Z"⟩
abbrev cX1_isString : ByteArray := prog_1_method_21_code
def yX1_isString : MethodName := ⟨RX1, "isString", "(I)Z"⟩
abbrev cX1_isStringOrFork : ByteArray := prog_1_method_22_code
def yX1_isStringOrFork : MethodName := ⟨RX1, "isStringOrFork", "(I)Z"⟩
abbrev cX1_isGuard : ByteArray := prog_1_method_23_code
def yX1_isGuard : MethodName := ⟨RX1, "isGuard", "(I)Z"⟩
abbrev cX1_isMode : ByteArray := prog_1_method_24_code
def yX1_isMode : MethodName := ⟨RX1, "isMode", "(I)Z"⟩
abbrev cX1_isValue : ByteArray := prog_1_method_25_code
def yX1_isValue : MethodName := ⟨RX1, "isValue", "(II)Z"⟩
abbrev cX1_valueOf : ByteArray := prog_1_method_26_code
def yX1_valueOf : MethodName := ⟨RX1, "valueOf", "(II)I"⟩
abbrev cX1_sortOf : ByteArray := prog_1_method_27_code
def yX1_sortOf : MethodName := ⟨RX1, "sortOf", "(I)I"⟩
abbrev cX1_sizeOf : ByteArray := prog_1_method_28_code
def yX1_sizeOf : MethodName := ⟨RX1, "sizeOf", "(I)I"⟩
abbrev cX1_stands : ByteArray := prog_1_method_29_code
def yX1_stands : MethodName := ⟨RX1, "stands", "(IIII)Z"⟩
abbrev cX1_valueStands : ByteArray := prog_1_method_30_code
def yX1_valueStands : MethodName := ⟨RX1, "valueStands", "(III)Z"⟩
abbrev cX1_sizeStands : ByteArray := prog_1_method_31_code
def yX1_sizeStands : MethodName := ⟨RX1, "sizeStands", "(III)Z"⟩
abbrev cX1_changeWithNext : ByteArray := prog_1_method_32_code
def yX1_changeWithNext : MethodName := ⟨RX1, "changeWithNext", "(II)V"⟩
abbrev cX1_ringsNow : ByteArray := prog_1_method_33_code
def yX1_ringsNow : MethodName := ⟨RX1, "ringsNow", "(LTunerBench$Guard;)Z"⟩
abbrev cX1_isRung : ByteArray := prog_1_method_34_code
def yX1_isRung : MethodName := ⟨RX1, "isRung", "(IZZ)Z"⟩
abbrev cX1_guardsSet : ByteArray := prog_1_method_35_code
def yX1_guardsSet : MethodName := ⟨RX1, "guardsSet", "()I"⟩
def RX2 : String := "TunerBenchModel"
def TX2 : u_T := fun k => match k with
  | 0 => ("TunerBenchModel", "sorts", "[I", true)
  | 1 => ("TunerBenchModel", "quarters", "[I", true)
  | 2 => ("TunerBenchModel", "denials", "I", false)
  | 3 => ("TunerBenchModel", "latest", "I", false)
  | 4 => ("TunerBenchModel", "changes", "I", false)
  | 5 => ("TunerBenchModel", "guards", "I", false)
  | 6 => ("TunerBenchModel", "isSet", "[Z", true)
  | 7 => ("TunerBenchModel", "what", "[I", true)
  | 8 => ("TunerBenchModel", "how", "[I", true)
  | 9 => ("TunerBenchModel", "mode", "[I", true)
  | 10 => ("TunerBenchModel", "keptSort", "[I", true)
  | 11 => ("TunerBenchModel", "keptQuarters", "[I", true)
  | 12 => ("TunerBenchModel", "did", "[Z", true)
  | _ => ("TunerBenchModel", "rings", "[I", true)
def tyX2 : Nat → FieldType := fun k => match k with
  | 0 => .array .int
  | 1 => .array .int
  | 2 => .int
  | 3 => .int
  | 4 => .int
  | 5 => .int
  | 6 => .array .boolean
  | 7 => .array .int
  | 8 => .array .int
  | 9 => .array .int
  | 10 => .array .int
  | 11 => .array .int
  | 12 => .array .boolean
  | _ => .array .int
abbrev wsX20 : List Cond := u_ws RX2 TX2 14
theorem nmX2 : ∀ a, a < 14 → ∀ b, b < 14 → a ≠ b → (TX2 a).2.1 ≠ (TX2 b).2.1 := by decide +kernel
theorem tyX2_ok : ∀ k, k < 14 → parseFieldDescriptor (TX2 k).2.2.1 = some (tyX2 k) := by decide +kernel
abbrev cX2_init : ByteArray := prog_4_method_1_code
def yX2_init : MethodName := ⟨RX2, "<init>", "()V"⟩
abbrev cX2_in : ByteArray := prog_4_method_2_code
def yX2_in : MethodName := ⟨RX2, "in", "(III)Z"⟩
abbrev cX2_isString : ByteArray := prog_4_method_3_code
def yX2_isString : MethodName := ⟨RX2, "isString", "(I)Z"⟩
abbrev cX2_isStringOrFork : ByteArray := prog_4_method_4_code
def yX2_isStringOrFork : MethodName := ⟨RX2, "isStringOrFork", "(I)Z"⟩
abbrev cX2_isAsked : ByteArray := prog_4_method_5_code
def yX2_isAsked : MethodName := ⟨RX2, "isAsked", "(II)Z"⟩
abbrev cX2_at : ByteArray := prog_4_method_6_code
def yX2_at : MethodName := ⟨RX2, "at", "(II)I"⟩
abbrev cX2_place : ByteArray := prog_4_method_7_code
def yX2_place : MethodName := ⟨RX2, "place", "(II)I"⟩
abbrev cX2_goes : ByteArray := prog_4_method_8_code
def yX2_goes : MethodName := ⟨RX2, "goes", "(IIIII)Z"⟩
abbrev cX2_stands : ByteArray := prog_4_method_9_code
def yX2_stands : MethodName := ⟨RX2, "stands", "(IIII)Z"⟩
abbrev cX2_put : ByteArray := prog_4_method_10_code
def yX2_put : MethodName := ⟨RX2, "put", "(IIII)Z"⟩
abbrev cX2_sort : ByteArray := prog_4_method_11_code
def yX2_sort : MethodName := ⟨RX2, "sort", "(II)I"⟩
abbrev cX2_quarters : ByteArray := prog_4_method_12_code
def yX2_quarters : MethodName := ⟨RX2, "quarters", "(II)I"⟩
abbrev cX2_holds : ByteArray := prog_4_method_13_code
def yX2_holds : MethodName := ⟨RX2, "holds", "(IIII)I"⟩
abbrev cX2_denies : ByteArray := prog_4_method_14_code
def yX2_denies : MethodName := ⟨RX2, "denies", "(IIII)I"⟩
abbrev cX2_pick : ByteArray := prog_4_method_15_code
def yX2_pick : MethodName := ⟨RX2, "pick", "(IIII)I"⟩
abbrev cX2_climb : ByteArray := prog_4_method_16_code
def yX2_climb : MethodName := ⟨RX2, "climb", "(III)I"⟩
abbrev cX2_first : ByteArray := prog_4_method_17_code
def yX2_first : MethodName := ⟨RX2, "first", "(IIIZ)I"⟩
abbrev cX2_best : ByteArray := prog_4_method_18_code
def yX2_best : MethodName := ⟨RX2, "best", "(IIZ)I"⟩
abbrev cX2_pass : ByteArray := prog_4_method_19_code
def yX2_pass : MethodName := ⟨RX2, "pass", "(IIII)I"⟩
abbrev cX2_within : ByteArray := prog_4_method_20_code
def yX2_within : MethodName := ⟨RX2, "within", "(IIII)I"⟩
abbrev cX2_guard : ByteArray := prog_4_method_21_code
def yX2_guard : MethodName := ⟨RX2, "guard", "(IIIII)Z"⟩
abbrev cX2_look : ByteArray := prog_4_method_22_code
def yX2_look : MethodName := ⟨RX2, "look", "()I"⟩
abbrev cX2_rings : ByteArray := prog_4_method_23_code
def yX2_rings : MethodName := ⟨RX2, "rings", "(I)I"⟩
abbrev cX2_strike : ByteArray := prog_4_method_24_code
def yX2_strike : MethodName := ⟨RX2, "strike", "(I)Z"⟩
abbrev cX2_count : ByteArray := prog_4_method_25_code
def yX2_count : MethodName := ⟨RX2, "count", "(I)I"⟩
def RJ7 : String := "java/util/Arrays"
def TJ7 : u_T := fun k => match k with
  | _ => ("", "", "", false)
def tyJ7 : Nat → FieldType := fun k => match k with
  | _ => .int
abbrev wsJ70 : List Cond := u_ws RJ7 TJ7 0
theorem nmJ7 : ∀ a, a < 0 → ∀ b, b < 0 → a ≠ b → (TJ7 a).2.1 ≠ (TJ7 b).2.1 := by decide +kernel
theorem tyJ7_ok : ∀ k, k < 0 → parseFieldDescriptor (TJ7 k).2.2.1 = some (tyJ7 k) := by decide +kernel
abbrev cJ7_fill_53178 : ByteArray := prog_5_method_103_code
def yJ7_fill_53178 : MethodName := ⟨RJ7, "fill", "([II)V"⟩
def RL : String := "TunerBenchLaw"
abbrev cL_law : ByteArray := code
def yL_law : MethodName := ⟨RL, "law", "([I)Z"⟩
def wsX0_init : List Cond := .code yX0_init cX0_init 5 none :: ([.methodLink RX0 1 objectInit, .instanceMethod objectInit, .code objectInit ⟨#[0xb1]⟩ 1 none, .fieldLink RX0 7 "TunerBench$Guard" "stood" "Z", .fieldLink RX0 13 "TunerBench$Guard" "rang" "I", .fieldLink RX0 17 "TunerBench$Guard" "what" "I", .fieldLink RX0 20 "TunerBench$Guard" "how" "I", .fieldLink RX0 23 "TunerBench$Guard" "copy" "I", .fieldLink RX0 26 "TunerBench$Guard" "mode" "I"] ++ wsX00)
def wsJ7_fill_53178 : List Cond := .code yJ7_fill_53178 cJ7_fill_53178 4 none :: ([])
def wsX1_init : List Cond := .code yX1_init cX1_init 2 none :: ([.methodLink RX1 3 objectInit, .instanceMethod objectInit, .code objectInit ⟨#[0xb1]⟩ 1 none, .classLink RX1 9 "[[I", .arrayClass .int, .fieldLink RX1 11 "TunerBench" "values" "[[I", .classLink RX1 14 RX0, .fieldLink RX1 16 "TunerBench" "guards" "[LTunerBench$Guard;", .fieldLink RX1 20 "TunerBench" "denials" "I", .fieldLink RX1 24 "TunerBench" "latestTruth" "I", .fieldLink RX1 27 "TunerBench" "changes" "I", .constant RX1 30 (40003), .methodLink RX1 31 yJ7_fill_53178, .static yJ7_fill_53178, .initialized RJ7, .code yJ7_fill_53178 cJ7_fill_53178 4 none] ++ wsX10)
def wsX1_isWhat : List Cond := .code yX1_isWhat cX1_isWhat 1 (some .boolean) :: ([])
def wsX1_isString : List Cond := .code yX1_isString cX1_isString 1 (some .boolean) :: ([])
def wsX1_isStringOrFork : List Cond := .code yX1_isStringOrFork cX1_isStringOrFork 1 (some .boolean) :: ([.methodLink RX1 63 yX1_isString, .static yX1_isString, .initialized RX1, .code yX1_isString cX1_isString 1 (some .boolean)])
def wsX1_isValue : List Cond := .code yX1_isValue cX1_isValue 2 (some .boolean) :: ([.constant RX1 93 (-40000), .constant RX1 94 (40000)])
def wsX1_valueOf : List Cond := .code yX1_valueOf cX1_valueOf 2 (some .int) :: ([.constant RX1 95 (40002), .constant RX1 96 (40001), .constant RX1 97 (-40001), .constant RX1 30 (40003)])
def wsX1_put : List Cond := .code yX1_put cX1_put 5 (some .boolean) :: ([.fieldLink RX1 11 "TunerBench" "values" "[[I", .methodLink RX1 37 yX1_isWhat, .static yX1_isWhat, .initialized RX1, .code yX1_isWhat cX1_isWhat 1 (some .boolean), .methodLink RX1 41 yX1_isStringOrFork, .static yX1_isStringOrFork, .code yX1_isStringOrFork cX1_isStringOrFork 1 (some .boolean), .methodLink RX1 63 yX1_isString, .static yX1_isString, .code yX1_isString cX1_isString 1 (some .boolean), .methodLink RX1 44 yX1_isValue, .static yX1_isValue, .code yX1_isValue cX1_isValue 2 (some .boolean), .constant RX1 93 (-40000), .constant RX1 94 (40000), .methodLink RX1 48 yX1_valueOf, .static yX1_valueOf, .code yX1_valueOf cX1_valueOf 2 (some .int), .constant RX1 95 (40002), .constant RX1 96 (40001), .constant RX1 97 (-40001), .constant RX1 30 (40003)] ++ wsX10)
def wsX1_sortOf : List Cond := .code yX1_sortOf cX1_sortOf 1 (some .int) :: ([])
def wsX1_sort : List Cond := .code yX1_sort cX1_sort 3 (some .int) :: ([.fieldLink RX1 11 "TunerBench" "values" "[[I", .methodLink RX1 37 yX1_isWhat, .static yX1_isWhat, .initialized RX1, .code yX1_isWhat cX1_isWhat 1 (some .boolean), .methodLink RX1 41 yX1_isStringOrFork, .static yX1_isStringOrFork, .code yX1_isStringOrFork cX1_isStringOrFork 1 (some .boolean), .methodLink RX1 63 yX1_isString, .static yX1_isString, .code yX1_isString cX1_isString 1 (some .boolean), .methodLink RX1 52 yX1_sortOf, .static yX1_sortOf, .code yX1_sortOf cX1_sortOf 1 (some .int)] ++ wsX10)
def wsX1_quarters : List Cond := .code yX1_quarters cX1_quarters 4 (some .int) :: ([.fieldLink RX1 11 "TunerBench" "values" "[[I", .methodLink RX1 37 yX1_isWhat, .static yX1_isWhat, .initialized RX1, .code yX1_isWhat cX1_isWhat 1 (some .boolean), .methodLink RX1 41 yX1_isStringOrFork, .static yX1_isStringOrFork, .code yX1_isStringOrFork cX1_isStringOrFork 1 (some .boolean), .methodLink RX1 63 yX1_isString, .static yX1_isString, .code yX1_isString cX1_isString 1 (some .boolean), .methodLink RX1 52 yX1_sortOf, .static yX1_sortOf, .code yX1_sortOf cX1_sortOf 1 (some .int)] ++ wsX10)
def wsX1_isHow : List Cond := .code yX1_isHow cX1_isHow 1 (some .boolean) :: ([])
def wsX1_isQuestion : List Cond := .code yX1_isQuestion cX1_isQuestion 2 (some .boolean) :: ([.methodLink RX1 37 yX1_isWhat, .static yX1_isWhat, .initialized RX1, .code yX1_isWhat cX1_isWhat 1 (some .boolean), .methodLink RX1 90 yX1_isHow, .static yX1_isHow, .code yX1_isHow cX1_isHow 1 (some .boolean)])
def wsX1_sizeOf : List Cond := .code yX1_sizeOf cX1_sizeOf 1 (some .int) :: ([.constant RX1 95 (40002)])
def wsX1_sizeStands : List Cond := .code yX1_sizeStands cX1_sizeStands 3 (some .boolean) :: ([])
def wsX1_valueStands : List Cond := .code yX1_valueStands cX1_valueStands 3 (some .boolean) :: ([.constant RX1 30 (40003), .methodLink RX1 102 yX1_sizeOf, .static yX1_sizeOf, .initialized RX1, .code yX1_sizeOf cX1_sizeOf 1 (some .int), .constant RX1 95 (40002), .methodLink RX1 105 yX1_sizeStands, .static yX1_sizeStands, .code yX1_sizeStands cX1_sizeStands 3 (some .boolean)])
def wsX1_stands : List Cond := .code yX1_stands cX1_stands 5 (some .boolean) :: ([.fieldLink RX1 11 "TunerBench" "values" "[[I", .methodLink RX1 98 yX1_valueStands, .static yX1_valueStands, .initialized RX1, .code yX1_valueStands cX1_valueStands 3 (some .boolean), .constant RX1 30 (40003), .methodLink RX1 102 yX1_sizeOf, .static yX1_sizeOf, .code yX1_sizeOf cX1_sizeOf 1 (some .int), .constant RX1 95 (40002), .methodLink RX1 105 yX1_sizeStands, .static yX1_sizeStands, .code yX1_sizeStands cX1_sizeStands 3 (some .boolean)] ++ wsX10)
def wsX1_holds_r1 : List Cond := [Cond.fieldLink RX1 24 "TunerBench" "latestTruth" "I", Cond.methodLink RX1 56 yX1_isQuestion, Cond.static yX1_isQuestion, Cond.initialized RX1, Cond.code yX1_isQuestion cX1_isQuestion 2 (some .boolean), Cond.methodLink RX1 37 yX1_isWhat, Cond.static yX1_isWhat, Cond.code yX1_isWhat cX1_isWhat 1 (some .boolean), Cond.methodLink RX1 90 yX1_isHow, Cond.static yX1_isHow, Cond.code yX1_isHow cX1_isHow 1 (some .boolean), Cond.methodLink RX1 41 yX1_isStringOrFork, Cond.static yX1_isStringOrFork, Cond.code yX1_isStringOrFork cX1_isStringOrFork 1 (some .boolean), Cond.methodLink RX1 63 yX1_isString, Cond.static yX1_isString, Cond.code yX1_isString cX1_isString 1 (some .boolean), Cond.methodLink RX1 59 yX1_stands, Cond.instanceMethod yX1_stands, Cond.selects RX1 yX1_stands yX1_stands, Cond.code yX1_stands cX1_stands 5 (some .boolean), Cond.fieldLink RX1 11 "TunerBench" "values" "[[I", Cond.methodLink RX1 98 yX1_valueStands, Cond.static yX1_valueStands]
def wsX1_holds_r2 : List Cond := [Cond.code yX1_valueStands cX1_valueStands 3 (some .boolean), Cond.constant RX1 30 (40003), Cond.methodLink RX1 102 yX1_sizeOf, Cond.static yX1_sizeOf, Cond.code yX1_sizeOf cX1_sizeOf 1 (some .int), Cond.constant RX1 95 (40002), Cond.methodLink RX1 105 yX1_sizeStands, Cond.static yX1_sizeStands, Cond.code yX1_sizeStands cX1_sizeStands 3 (some .boolean)]
def wsX1_holds : List Cond := .code yX1_holds cX1_holds 5 (some .int) :: ((wsX1_holds_r1 ++ wsX1_holds_r2) ++ wsX10)
def wsX1_denies_r1 : List Cond := [Cond.fieldLink RX1 20 "TunerBench" "denials" "I", Cond.methodLink RX1 56 yX1_isQuestion, Cond.static yX1_isQuestion, Cond.initialized RX1, Cond.code yX1_isQuestion cX1_isQuestion 2 (some .boolean), Cond.methodLink RX1 37 yX1_isWhat, Cond.static yX1_isWhat, Cond.code yX1_isWhat cX1_isWhat 1 (some .boolean), Cond.methodLink RX1 90 yX1_isHow, Cond.static yX1_isHow, Cond.code yX1_isHow cX1_isHow 1 (some .boolean), Cond.methodLink RX1 41 yX1_isStringOrFork, Cond.static yX1_isStringOrFork, Cond.code yX1_isStringOrFork cX1_isStringOrFork 1 (some .boolean), Cond.methodLink RX1 63 yX1_isString, Cond.static yX1_isString, Cond.code yX1_isString cX1_isString 1 (some .boolean), Cond.methodLink RX1 59 yX1_stands, Cond.instanceMethod yX1_stands, Cond.selects RX1 yX1_stands yX1_stands, Cond.code yX1_stands cX1_stands 5 (some .boolean), Cond.fieldLink RX1 11 "TunerBench" "values" "[[I", Cond.methodLink RX1 98 yX1_valueStands, Cond.static yX1_valueStands]
def wsX1_denies_r2 : List Cond := [Cond.code yX1_valueStands cX1_valueStands 3 (some .boolean), Cond.constant RX1 30 (40003), Cond.methodLink RX1 102 yX1_sizeOf, Cond.static yX1_sizeOf, Cond.code yX1_sizeOf cX1_sizeOf 1 (some .int), Cond.constant RX1 95 (40002), Cond.methodLink RX1 105 yX1_sizeStands, Cond.static yX1_sizeStands, Cond.code yX1_sizeStands cX1_sizeStands 3 (some .boolean)]
def wsX1_denies : List Cond := .code yX1_denies cX1_denies 5 (some .int) :: ((wsX1_denies_r1 ++ wsX1_denies_r2) ++ wsX10)
def wsX1_pick_r1 : List Cond := [Cond.methodLink RX1 56 yX1_isQuestion, Cond.static yX1_isQuestion, Cond.initialized RX1, Cond.code yX1_isQuestion cX1_isQuestion 2 (some .boolean), Cond.methodLink RX1 37 yX1_isWhat, Cond.static yX1_isWhat, Cond.code yX1_isWhat cX1_isWhat 1 (some .boolean), Cond.methodLink RX1 90 yX1_isHow, Cond.static yX1_isHow, Cond.code yX1_isHow cX1_isHow 1 (some .boolean), Cond.methodLink RX1 41 yX1_isStringOrFork, Cond.static yX1_isStringOrFork, Cond.code yX1_isStringOrFork cX1_isStringOrFork 1 (some .boolean), Cond.methodLink RX1 63 yX1_isString, Cond.static yX1_isString, Cond.code yX1_isString cX1_isString 1 (some .boolean), Cond.methodLink RX1 59 yX1_stands, Cond.instanceMethod yX1_stands, Cond.selects RX1 yX1_stands yX1_stands, Cond.code yX1_stands cX1_stands 5 (some .boolean), Cond.fieldLink RX1 11 "TunerBench" "values" "[[I", Cond.methodLink RX1 98 yX1_valueStands, Cond.static yX1_valueStands, Cond.code yX1_valueStands cX1_valueStands 3 (some .boolean)]
def wsX1_pick_r2 : List Cond := [Cond.constant RX1 30 (40003), Cond.methodLink RX1 102 yX1_sizeOf, Cond.static yX1_sizeOf, Cond.code yX1_sizeOf cX1_sizeOf 1 (some .int), Cond.constant RX1 95 (40002), Cond.methodLink RX1 105 yX1_sizeStands, Cond.static yX1_sizeStands, Cond.code yX1_sizeStands cX1_sizeStands 3 (some .boolean)]
def wsX1_pick : List Cond := .code yX1_pick cX1_pick 5 (some .int) :: ((wsX1_pick_r1 ++ wsX1_pick_r2) ++ wsX10)
def wsX1_climb_r1 : List Cond := [Cond.methodLink RX1 56 yX1_isQuestion, Cond.static yX1_isQuestion, Cond.initialized RX1, Cond.code yX1_isQuestion cX1_isQuestion 2 (some .boolean), Cond.methodLink RX1 37 yX1_isWhat, Cond.static yX1_isWhat, Cond.code yX1_isWhat cX1_isWhat 1 (some .boolean), Cond.methodLink RX1 90 yX1_isHow, Cond.static yX1_isHow, Cond.code yX1_isHow cX1_isHow 1 (some .boolean), Cond.methodLink RX1 63 yX1_isString, Cond.static yX1_isString, Cond.code yX1_isString cX1_isString 1 (some .boolean), Cond.methodLink RX1 59 yX1_stands, Cond.instanceMethod yX1_stands, Cond.selects RX1 yX1_stands yX1_stands, Cond.code yX1_stands cX1_stands 5 (some .boolean), Cond.fieldLink RX1 11 "TunerBench" "values" "[[I", Cond.methodLink RX1 98 yX1_valueStands, Cond.static yX1_valueStands, Cond.code yX1_valueStands cX1_valueStands 3 (some .boolean), Cond.constant RX1 30 (40003), Cond.methodLink RX1 102 yX1_sizeOf, Cond.static yX1_sizeOf]
def wsX1_climb_r2 : List Cond := [Cond.code yX1_sizeOf cX1_sizeOf 1 (some .int), Cond.constant RX1 95 (40002), Cond.methodLink RX1 105 yX1_sizeStands, Cond.static yX1_sizeStands, Cond.code yX1_sizeStands cX1_sizeStands 3 (some .boolean)]
def wsX1_climb : List Cond := .code yX1_climb cX1_climb 5 (some .int) :: ((wsX1_climb_r1 ++ wsX1_climb_r2) ++ wsX10)
def wsX1_first_r1 : List Cond := [Cond.methodLink RX1 56 yX1_isQuestion, Cond.static yX1_isQuestion, Cond.initialized RX1, Cond.code yX1_isQuestion cX1_isQuestion 2 (some .boolean), Cond.methodLink RX1 37 yX1_isWhat, Cond.static yX1_isWhat, Cond.code yX1_isWhat cX1_isWhat 1 (some .boolean), Cond.methodLink RX1 90 yX1_isHow, Cond.static yX1_isHow, Cond.code yX1_isHow cX1_isHow 1 (some .boolean), Cond.methodLink RX1 63 yX1_isString, Cond.static yX1_isString, Cond.code yX1_isString cX1_isString 1 (some .boolean), Cond.methodLink RX1 59 yX1_stands, Cond.instanceMethod yX1_stands, Cond.selects RX1 yX1_stands yX1_stands, Cond.code yX1_stands cX1_stands 5 (some .boolean), Cond.fieldLink RX1 11 "TunerBench" "values" "[[I", Cond.methodLink RX1 98 yX1_valueStands, Cond.static yX1_valueStands, Cond.code yX1_valueStands cX1_valueStands 3 (some .boolean), Cond.constant RX1 30 (40003), Cond.methodLink RX1 102 yX1_sizeOf, Cond.static yX1_sizeOf]
def wsX1_first_r2 : List Cond := [Cond.code yX1_sizeOf cX1_sizeOf 1 (some .int), Cond.constant RX1 95 (40002), Cond.methodLink RX1 105 yX1_sizeStands, Cond.static yX1_sizeStands, Cond.code yX1_sizeStands cX1_sizeStands 3 (some .boolean)]
def wsX1_first : List Cond := .code yX1_first cX1_first 6 (some .int) :: ((wsX1_first_r1 ++ wsX1_first_r2) ++ wsX10)
def wsX1_best_r1 : List Cond := [Cond.methodLink RX1 56 yX1_isQuestion, Cond.static yX1_isQuestion, Cond.initialized RX1, Cond.code yX1_isQuestion cX1_isQuestion 2 (some .boolean), Cond.methodLink RX1 37 yX1_isWhat, Cond.static yX1_isWhat, Cond.code yX1_isWhat cX1_isWhat 1 (some .boolean), Cond.methodLink RX1 90 yX1_isHow, Cond.static yX1_isHow, Cond.code yX1_isHow cX1_isHow 1 (some .boolean), Cond.methodLink RX1 59 yX1_stands, Cond.instanceMethod yX1_stands, Cond.selects RX1 yX1_stands yX1_stands, Cond.code yX1_stands cX1_stands 5 (some .boolean), Cond.fieldLink RX1 11 "TunerBench" "values" "[[I", Cond.methodLink RX1 98 yX1_valueStands, Cond.static yX1_valueStands, Cond.code yX1_valueStands cX1_valueStands 3 (some .boolean), Cond.constant RX1 30 (40003), Cond.methodLink RX1 102 yX1_sizeOf, Cond.static yX1_sizeOf, Cond.code yX1_sizeOf cX1_sizeOf 1 (some .int), Cond.constant RX1 95 (40002), Cond.methodLink RX1 105 yX1_sizeStands]
def wsX1_best_r2 : List Cond := [Cond.static yX1_sizeStands, Cond.code yX1_sizeStands cX1_sizeStands 3 (some .boolean)]
def wsX1_best : List Cond := .code yX1_best cX1_best 6 (some .int) :: ((wsX1_best_r1 ++ wsX1_best_r2) ++ wsX10)
def wsX1_changeWithNext : List Cond := .code yX1_changeWithNext cX1_changeWithNext 5 none :: ([.fieldLink RX1 11 "TunerBench" "values" "[[I"] ++ wsX10)
def wsX1_pass_r1 : List Cond := [Cond.fieldLink RX1 27 "TunerBench" "changes" "I", Cond.methodLink RX1 56 yX1_isQuestion, Cond.static yX1_isQuestion, Cond.initialized RX1, Cond.code yX1_isQuestion cX1_isQuestion 2 (some .boolean), Cond.methodLink RX1 37 yX1_isWhat, Cond.static yX1_isWhat, Cond.code yX1_isWhat cX1_isWhat 1 (some .boolean), Cond.methodLink RX1 90 yX1_isHow, Cond.static yX1_isHow, Cond.code yX1_isHow cX1_isHow 1 (some .boolean), Cond.methodLink RX1 63 yX1_isString, Cond.static yX1_isString, Cond.code yX1_isString cX1_isString 1 (some .boolean), Cond.methodLink RX1 59 yX1_stands, Cond.instanceMethod yX1_stands, Cond.selects RX1 yX1_stands yX1_stands, Cond.code yX1_stands cX1_stands 5 (some .boolean), Cond.fieldLink RX1 11 "TunerBench" "values" "[[I", Cond.methodLink RX1 98 yX1_valueStands, Cond.static yX1_valueStands, Cond.code yX1_valueStands cX1_valueStands 3 (some .boolean), Cond.constant RX1 30 (40003), Cond.methodLink RX1 102 yX1_sizeOf]
def wsX1_pass_r2 : List Cond := [Cond.static yX1_sizeOf, Cond.code yX1_sizeOf cX1_sizeOf 1 (some .int), Cond.constant RX1 95 (40002), Cond.methodLink RX1 105 yX1_sizeStands, Cond.static yX1_sizeStands, Cond.code yX1_sizeStands cX1_sizeStands 3 (some .boolean), Cond.methodLink RX1 66 yX1_changeWithNext, Cond.instanceMethod yX1_changeWithNext, Cond.selects RX1 yX1_changeWithNext yX1_changeWithNext, Cond.code yX1_changeWithNext cX1_changeWithNext 5 none]
def wsX1_pass : List Cond := .code yX1_pass cX1_pass 7 (some .int) :: ((wsX1_pass_r1 ++ wsX1_pass_r2) ++ wsX10)
def wsX1_within_r1 : List Cond := [Cond.methodLink RX1 37 yX1_isWhat, Cond.static yX1_isWhat, Cond.initialized RX1, Cond.code yX1_isWhat cX1_isWhat 1 (some .boolean), Cond.methodLink RX1 63 yX1_isString, Cond.static yX1_isString, Cond.code yX1_isString cX1_isString 1 (some .boolean), Cond.methodLink RX1 41 yX1_isStringOrFork, Cond.static yX1_isStringOrFork, Cond.code yX1_isStringOrFork cX1_isStringOrFork 1 (some .boolean), Cond.methodLink RX1 59 yX1_stands, Cond.instanceMethod yX1_stands, Cond.selects RX1 yX1_stands yX1_stands, Cond.code yX1_stands cX1_stands 5 (some .boolean), Cond.fieldLink RX1 11 "TunerBench" "values" "[[I", Cond.methodLink RX1 98 yX1_valueStands, Cond.static yX1_valueStands, Cond.code yX1_valueStands cX1_valueStands 3 (some .boolean), Cond.constant RX1 30 (40003), Cond.methodLink RX1 102 yX1_sizeOf, Cond.static yX1_sizeOf, Cond.code yX1_sizeOf cX1_sizeOf 1 (some .int), Cond.constant RX1 95 (40002), Cond.methodLink RX1 105 yX1_sizeStands]
def wsX1_within_r2 : List Cond := [Cond.static yX1_sizeStands, Cond.code yX1_sizeStands cX1_sizeStands 3 (some .boolean)]
def wsX1_within : List Cond := .code yX1_within cX1_within 6 (some .int) :: ((wsX1_within_r1 ++ wsX1_within_r2) ++ wsX10)
def wsX1_isGuard : List Cond := .code yX1_isGuard cX1_isGuard 1 (some .boolean) :: ([])
def wsX1_isMode : List Cond := .code yX1_isMode cX1_isMode 1 (some .boolean) :: ([])
def wsX1_guard_r1 : List Cond := [Cond.fieldLink RX1 16 "TunerBench" "guards" "[LTunerBench$Guard;", Cond.classLink RX1 14 RX0, Cond.instantiable RX0 6, Cond.initialized RX0, Cond.fieldLink RX1 11 "TunerBench" "values" "[[I", Cond.methodLink RX1 70 yX1_isGuard, Cond.static yX1_isGuard, Cond.initialized RX1, Cond.code yX1_isGuard cX1_isGuard 1 (some .boolean), Cond.methodLink RX1 56 yX1_isQuestion, Cond.static yX1_isQuestion, Cond.code yX1_isQuestion cX1_isQuestion 2 (some .boolean), Cond.methodLink RX1 37 yX1_isWhat, Cond.static yX1_isWhat, Cond.code yX1_isWhat cX1_isWhat 1 (some .boolean), Cond.methodLink RX1 90 yX1_isHow, Cond.static yX1_isHow, Cond.code yX1_isHow cX1_isHow 1 (some .boolean), Cond.methodLink RX1 63 yX1_isString, Cond.static yX1_isString, Cond.code yX1_isString cX1_isString 1 (some .boolean), Cond.methodLink RX1 73 yX1_isMode, Cond.static yX1_isMode, Cond.code yX1_isMode cX1_isMode 1 (some .boolean)]
def wsX1_guard_r2 : List Cond := [Cond.instanceMethod yX0_init, Cond.code yX0_init cX0_init 5 none, Cond.methodLink RX0 1 objectInit, Cond.instanceMethod objectInit, Cond.code objectInit ⟨#[0xb1]⟩ 1 none, Cond.fieldLink RX0 7 "TunerBench$Guard" "stood" "Z", Cond.fieldLink RX0 13 "TunerBench$Guard" "rang" "I", Cond.fieldLink RX0 17 "TunerBench$Guard" "what" "I", Cond.fieldLink RX0 20 "TunerBench$Guard" "how" "I", Cond.fieldLink RX0 23 "TunerBench$Guard" "copy" "I", Cond.fieldLink RX0 26 "TunerBench$Guard" "mode" "I"]
def wsX1_guard : List Cond := .code yX1_guard cX1_guard 6 (some .boolean) :: ((wsX1_guard_r1 ++ wsX1_guard_r2) ++ wsX10 ++ wsX00)
def wsX1_isRung : List Cond := .code yX1_isRung cX1_isRung 3 (some .boolean) :: ([])
def wsX1_ringsNow : List Cond := .code yX1_ringsNow cX1_ringsNow 4 (some .boolean) :: ([.fieldLink RX1 11 "TunerBench" "values" "[[I", .methodLink RX1 98 yX1_valueStands, .static yX1_valueStands, .initialized RX1, .code yX1_valueStands cX1_valueStands 3 (some .boolean), .constant RX1 30 (40003), .methodLink RX1 102 yX1_sizeOf, .static yX1_sizeOf, .code yX1_sizeOf cX1_sizeOf 1 (some .int), .constant RX1 95 (40002), .methodLink RX1 105 yX1_sizeStands, .static yX1_sizeStands, .code yX1_sizeStands cX1_sizeStands 3 (some .boolean), .methodLink RX1 124 yX1_isRung, .static yX1_isRung, .code yX1_isRung cX1_isRung 3 (some .boolean)] ++ wsX00 ++ wsX10)
def wsX1_look : List Cond := .code yX1_look cX1_look 4 (some .int) :: ([.fieldLink RX1 16 "TunerBench" "guards" "[LTunerBench$Guard;", .methodLink RX1 79 yX1_ringsNow, .instanceMethod yX1_ringsNow, .selects RX1 yX1_ringsNow yX1_ringsNow, .initialized RX1, .code yX1_ringsNow cX1_ringsNow 4 (some .boolean), .fieldLink RX1 11 "TunerBench" "values" "[[I", .methodLink RX1 98 yX1_valueStands, .static yX1_valueStands, .code yX1_valueStands cX1_valueStands 3 (some .boolean), .constant RX1 30 (40003), .methodLink RX1 102 yX1_sizeOf, .static yX1_sizeOf, .code yX1_sizeOf cX1_sizeOf 1 (some .int), .constant RX1 95 (40002), .methodLink RX1 105 yX1_sizeStands, .static yX1_sizeStands, .code yX1_sizeStands cX1_sizeStands 3 (some .boolean), .methodLink RX1 124 yX1_isRung, .static yX1_isRung, .code yX1_isRung cX1_isRung 3 (some .boolean)] ++ wsX10 ++ wsX00)
def wsX1_rings : List Cond := .code yX1_rings cX1_rings 3 (some .int) :: ([.fieldLink RX1 16 "TunerBench" "guards" "[LTunerBench$Guard;", .methodLink RX1 70 yX1_isGuard, .static yX1_isGuard, .initialized RX1, .code yX1_isGuard cX1_isGuard 1 (some .boolean)] ++ wsX10 ++ wsX00)
def wsX1_strike : List Cond := .code yX1_strike cX1_strike 3 (some .boolean) :: ([.fieldLink RX1 11 "TunerBench" "values" "[[I", .methodLink RX1 63 yX1_isString, .static yX1_isString, .initialized RX1, .code yX1_isString cX1_isString 1 (some .boolean)] ++ wsX10)
def wsX1_guardsSet : List Cond := .code yX1_guardsSet cX1_guardsSet 3 (some .int) :: ([.fieldLink RX1 16 "TunerBench" "guards" "[LTunerBench$Guard;"] ++ wsX10)
def wsX1_count : List Cond := .code yX1_count cX1_count 2 (some .int) :: ([.fieldLink RX1 20 "TunerBench" "denials" "I", .fieldLink RX1 24 "TunerBench" "latestTruth" "I", .fieldLink RX1 27 "TunerBench" "changes" "I", .methodLink RX1 86 yX1_guardsSet, .instanceMethod yX1_guardsSet, .selects RX1 yX1_guardsSet yX1_guardsSet, .initialized RX1, .code yX1_guardsSet cX1_guardsSet 3 (some .int), .fieldLink RX1 16 "TunerBench" "guards" "[LTunerBench$Guard;"] ++ wsX10)
def wsX2_init : List Cond := .code yX2_init cX2_init 2 none :: ([.methodLink RX2 1 objectInit, .instanceMethod objectInit, .code objectInit ⟨#[0xb1]⟩ 1 none, .arrayClass .int, .fieldLink RX2 7 "TunerBenchModel" "sorts" "[I", .fieldLink RX2 13 "TunerBenchModel" "quarters" "[I", .fieldLink RX2 16 "TunerBenchModel" "latest" "I", .arrayClass .boolean, .fieldLink RX2 20 "TunerBenchModel" "isSet" "[Z", .fieldLink RX2 24 "TunerBenchModel" "what" "[I", .fieldLink RX2 27 "TunerBenchModel" "how" "[I", .fieldLink RX2 30 "TunerBenchModel" "mode" "[I", .fieldLink RX2 33 "TunerBenchModel" "keptSort" "[I", .fieldLink RX2 36 "TunerBenchModel" "keptQuarters" "[I", .fieldLink RX2 39 "TunerBenchModel" "did" "[Z", .fieldLink RX2 42 "TunerBenchModel" "rings" "[I"] ++ wsX20)
def wsX2_in : List Cond := .code yX2_in cX2_in 3 (some .boolean) :: ([])
def wsX2_isString : List Cond := .code yX2_isString cX2_isString 1 (some .boolean) :: ([.methodLink RX2 45 yX2_in, .static yX2_in, .initialized RX2, .code yX2_in cX2_in 3 (some .boolean)])
def wsX2_isStringOrFork : List Cond := .code yX2_isStringOrFork cX2_isStringOrFork 1 (some .boolean) :: ([.methodLink RX2 45 yX2_in, .static yX2_in, .initialized RX2, .code yX2_in cX2_in 3 (some .boolean)])
def wsX2_isAsked : List Cond := .code yX2_isAsked cX2_isAsked 2 (some .boolean) :: ([.methodLink RX2 45 yX2_in, .static yX2_in, .initialized RX2, .code yX2_in cX2_in 3 (some .boolean)])
def wsX2_at : List Cond := .code yX2_at cX2_at 2 (some .int) :: ([])
def wsX2_place : List Cond := .code yX2_place cX2_place 2 (some .int) :: ([.constant RX2 49 (1000000), .constant RX2 50 (-1000000)])
def wsX2_goes : List Cond := .code yX2_goes cX2_goes 7 (some .boolean) :: ([.methodLink RX2 51 yX2_place, .static yX2_place, .initialized RX2, .code yX2_place cX2_place 2 (some .int), .constant RX2 49 (1000000), .constant RX2 50 (-1000000)])
def wsX2_stands : List Cond := .code yX2_stands cX2_stands 7 (some .boolean) :: ([.fieldLink RX2 7 "TunerBenchModel" "sorts" "[I", .fieldLink RX2 13 "TunerBenchModel" "quarters" "[I", .methodLink RX2 55 yX2_at, .static yX2_at, .initialized RX2, .code yX2_at cX2_at 2 (some .int), .methodLink RX2 58 yX2_goes, .static yX2_goes, .code yX2_goes cX2_goes 7 (some .boolean), .methodLink RX2 51 yX2_place, .static yX2_place, .code yX2_place cX2_place 2 (some .int), .constant RX2 49 (1000000), .constant RX2 50 (-1000000)] ++ wsX20)
def wsX2_put : List Cond := .code yX2_put cX2_put 5 (some .boolean) :: ([.constant RX2 66 (-40000), .constant RX2 67 (40000), .fieldLink RX2 7 "TunerBenchModel" "sorts" "[I", .fieldLink RX2 13 "TunerBenchModel" "quarters" "[I", .methodLink RX2 45 yX2_in, .static yX2_in, .initialized RX2, .code yX2_in cX2_in 3 (some .boolean), .methodLink RX2 62 yX2_isStringOrFork, .static yX2_isStringOrFork, .code yX2_isStringOrFork cX2_isStringOrFork 1 (some .boolean), .methodLink RX2 55 yX2_at, .static yX2_at, .code yX2_at cX2_at 2 (some .int)] ++ wsX20)
def wsX2_sort : List Cond := .code yX2_sort cX2_sort 3 (some .int) :: ([.fieldLink RX2 7 "TunerBenchModel" "sorts" "[I", .methodLink RX2 45 yX2_in, .static yX2_in, .initialized RX2, .code yX2_in cX2_in 3 (some .boolean), .methodLink RX2 62 yX2_isStringOrFork, .static yX2_isStringOrFork, .code yX2_isStringOrFork cX2_isStringOrFork 1 (some .boolean), .methodLink RX2 55 yX2_at, .static yX2_at, .code yX2_at cX2_at 2 (some .int)] ++ wsX20)
def wsX2_quarters : List Cond := .code yX2_quarters cX2_quarters 3 (some .int) :: ([.fieldLink RX2 13 "TunerBenchModel" "quarters" "[I", .methodLink RX2 45 yX2_in, .static yX2_in, .initialized RX2, .code yX2_in cX2_in 3 (some .boolean), .methodLink RX2 62 yX2_isStringOrFork, .static yX2_isStringOrFork, .code yX2_isStringOrFork cX2_isStringOrFork 1 (some .boolean), .methodLink RX2 55 yX2_at, .static yX2_at, .code yX2_at cX2_at 2 (some .int)] ++ wsX20)
def wsX2_holds_r1 : List Cond := [Cond.fieldLink RX2 16 "TunerBenchModel" "latest" "I", Cond.methodLink RX2 68 yX2_isAsked, Cond.static yX2_isAsked, Cond.initialized RX2, Cond.code yX2_isAsked cX2_isAsked 2 (some .boolean), Cond.methodLink RX2 45 yX2_in, Cond.static yX2_in, Cond.code yX2_in cX2_in 3 (some .boolean), Cond.methodLink RX2 62 yX2_isStringOrFork, Cond.static yX2_isStringOrFork, Cond.code yX2_isStringOrFork cX2_isStringOrFork 1 (some .boolean), Cond.methodLink RX2 72 yX2_stands, Cond.instanceMethod yX2_stands, Cond.selects RX2 yX2_stands yX2_stands, Cond.code yX2_stands cX2_stands 7 (some .boolean), Cond.fieldLink RX2 7 "TunerBenchModel" "sorts" "[I", Cond.fieldLink RX2 13 "TunerBenchModel" "quarters" "[I", Cond.methodLink RX2 55 yX2_at, Cond.static yX2_at, Cond.code yX2_at cX2_at 2 (some .int), Cond.methodLink RX2 58 yX2_goes, Cond.static yX2_goes, Cond.code yX2_goes cX2_goes 7 (some .boolean), Cond.methodLink RX2 51 yX2_place]
def wsX2_holds_r2 : List Cond := [Cond.static yX2_place, Cond.code yX2_place cX2_place 2 (some .int), Cond.constant RX2 49 (1000000), Cond.constant RX2 50 (-1000000)]
def wsX2_holds : List Cond := .code yX2_holds cX2_holds 5 (some .int) :: ((wsX2_holds_r1 ++ wsX2_holds_r2) ++ wsX20)
def wsX2_denies_r1 : List Cond := [Cond.fieldLink RX2 76 "TunerBenchModel" "denials" "I", Cond.methodLink RX2 68 yX2_isAsked, Cond.static yX2_isAsked, Cond.initialized RX2, Cond.code yX2_isAsked cX2_isAsked 2 (some .boolean), Cond.methodLink RX2 45 yX2_in, Cond.static yX2_in, Cond.code yX2_in cX2_in 3 (some .boolean), Cond.methodLink RX2 62 yX2_isStringOrFork, Cond.static yX2_isStringOrFork, Cond.code yX2_isStringOrFork cX2_isStringOrFork 1 (some .boolean), Cond.methodLink RX2 72 yX2_stands, Cond.instanceMethod yX2_stands, Cond.selects RX2 yX2_stands yX2_stands, Cond.code yX2_stands cX2_stands 7 (some .boolean), Cond.fieldLink RX2 7 "TunerBenchModel" "sorts" "[I", Cond.fieldLink RX2 13 "TunerBenchModel" "quarters" "[I", Cond.methodLink RX2 55 yX2_at, Cond.static yX2_at, Cond.code yX2_at cX2_at 2 (some .int), Cond.methodLink RX2 58 yX2_goes, Cond.static yX2_goes, Cond.code yX2_goes cX2_goes 7 (some .boolean), Cond.methodLink RX2 51 yX2_place]
def wsX2_denies_r2 : List Cond := [Cond.static yX2_place, Cond.code yX2_place cX2_place 2 (some .int), Cond.constant RX2 49 (1000000), Cond.constant RX2 50 (-1000000)]
def wsX2_denies : List Cond := .code yX2_denies cX2_denies 5 (some .int) :: ((wsX2_denies_r1 ++ wsX2_denies_r2) ++ wsX20)
def wsX2_pick_r1 : List Cond := [Cond.methodLink RX2 68 yX2_isAsked, Cond.static yX2_isAsked, Cond.initialized RX2, Cond.code yX2_isAsked cX2_isAsked 2 (some .boolean), Cond.methodLink RX2 45 yX2_in, Cond.static yX2_in, Cond.code yX2_in cX2_in 3 (some .boolean), Cond.methodLink RX2 62 yX2_isStringOrFork, Cond.static yX2_isStringOrFork, Cond.code yX2_isStringOrFork cX2_isStringOrFork 1 (some .boolean), Cond.methodLink RX2 72 yX2_stands, Cond.instanceMethod yX2_stands, Cond.selects RX2 yX2_stands yX2_stands, Cond.code yX2_stands cX2_stands 7 (some .boolean), Cond.fieldLink RX2 7 "TunerBenchModel" "sorts" "[I", Cond.fieldLink RX2 13 "TunerBenchModel" "quarters" "[I", Cond.methodLink RX2 55 yX2_at, Cond.static yX2_at, Cond.code yX2_at cX2_at 2 (some .int), Cond.methodLink RX2 58 yX2_goes, Cond.static yX2_goes, Cond.code yX2_goes cX2_goes 7 (some .boolean), Cond.methodLink RX2 51 yX2_place, Cond.static yX2_place]
def wsX2_pick_r2 : List Cond := [Cond.code yX2_place cX2_place 2 (some .int), Cond.constant RX2 49 (1000000), Cond.constant RX2 50 (-1000000)]
def wsX2_pick : List Cond := .code yX2_pick cX2_pick 5 (some .int) :: ((wsX2_pick_r1 ++ wsX2_pick_r2) ++ wsX20)
def wsX2_climb_r1 : List Cond := [Cond.methodLink RX2 68 yX2_isAsked, Cond.static yX2_isAsked, Cond.initialized RX2, Cond.code yX2_isAsked cX2_isAsked 2 (some .boolean), Cond.methodLink RX2 45 yX2_in, Cond.static yX2_in, Cond.code yX2_in cX2_in 3 (some .boolean), Cond.methodLink RX2 79 yX2_isString, Cond.static yX2_isString, Cond.code yX2_isString cX2_isString 1 (some .boolean), Cond.methodLink RX2 72 yX2_stands, Cond.instanceMethod yX2_stands, Cond.selects RX2 yX2_stands yX2_stands, Cond.code yX2_stands cX2_stands 7 (some .boolean), Cond.fieldLink RX2 7 "TunerBenchModel" "sorts" "[I", Cond.fieldLink RX2 13 "TunerBenchModel" "quarters" "[I", Cond.methodLink RX2 55 yX2_at, Cond.static yX2_at, Cond.code yX2_at cX2_at 2 (some .int), Cond.methodLink RX2 58 yX2_goes, Cond.static yX2_goes, Cond.code yX2_goes cX2_goes 7 (some .boolean), Cond.methodLink RX2 51 yX2_place, Cond.static yX2_place]
def wsX2_climb_r2 : List Cond := [Cond.code yX2_place cX2_place 2 (some .int), Cond.constant RX2 49 (1000000), Cond.constant RX2 50 (-1000000)]
def wsX2_climb : List Cond := .code yX2_climb cX2_climb 5 (some .int) :: ((wsX2_climb_r1 ++ wsX2_climb_r2) ++ wsX20)
def wsX2_first_r1 : List Cond := [Cond.methodLink RX2 68 yX2_isAsked, Cond.static yX2_isAsked, Cond.initialized RX2, Cond.code yX2_isAsked cX2_isAsked 2 (some .boolean), Cond.methodLink RX2 45 yX2_in, Cond.static yX2_in, Cond.code yX2_in cX2_in 3 (some .boolean), Cond.methodLink RX2 79 yX2_isString, Cond.static yX2_isString, Cond.code yX2_isString cX2_isString 1 (some .boolean), Cond.methodLink RX2 72 yX2_stands, Cond.instanceMethod yX2_stands, Cond.selects RX2 yX2_stands yX2_stands, Cond.code yX2_stands cX2_stands 7 (some .boolean), Cond.fieldLink RX2 7 "TunerBenchModel" "sorts" "[I", Cond.fieldLink RX2 13 "TunerBenchModel" "quarters" "[I", Cond.methodLink RX2 55 yX2_at, Cond.static yX2_at, Cond.code yX2_at cX2_at 2 (some .int), Cond.methodLink RX2 58 yX2_goes, Cond.static yX2_goes, Cond.code yX2_goes cX2_goes 7 (some .boolean), Cond.methodLink RX2 51 yX2_place, Cond.static yX2_place]
def wsX2_first_r2 : List Cond := [Cond.code yX2_place cX2_place 2 (some .int), Cond.constant RX2 49 (1000000), Cond.constant RX2 50 (-1000000)]
def wsX2_first : List Cond := .code yX2_first cX2_first 6 (some .int) :: ((wsX2_first_r1 ++ wsX2_first_r2) ++ wsX20)
def wsX2_best : List Cond := .code yX2_best cX2_best 6 (some .int) :: ([.methodLink RX2 68 yX2_isAsked, .static yX2_isAsked, .initialized RX2, .code yX2_isAsked cX2_isAsked 2 (some .boolean), .methodLink RX2 45 yX2_in, .static yX2_in, .code yX2_in cX2_in 3 (some .boolean), .methodLink RX2 72 yX2_stands, .instanceMethod yX2_stands, .selects RX2 yX2_stands yX2_stands, .code yX2_stands cX2_stands 7 (some .boolean), .fieldLink RX2 7 "TunerBenchModel" "sorts" "[I", .fieldLink RX2 13 "TunerBenchModel" "quarters" "[I", .methodLink RX2 55 yX2_at, .static yX2_at, .code yX2_at cX2_at 2 (some .int), .methodLink RX2 58 yX2_goes, .static yX2_goes, .code yX2_goes cX2_goes 7 (some .boolean), .methodLink RX2 51 yX2_place, .static yX2_place, .code yX2_place cX2_place 2 (some .int), .constant RX2 49 (1000000), .constant RX2 50 (-1000000)] ++ wsX20)
def wsX2_pass_r1 : List Cond := [Cond.fieldLink RX2 7 "TunerBenchModel" "sorts" "[I", Cond.fieldLink RX2 13 "TunerBenchModel" "quarters" "[I", Cond.fieldLink RX2 82 "TunerBenchModel" "changes" "I", Cond.methodLink RX2 68 yX2_isAsked, Cond.static yX2_isAsked, Cond.initialized RX2, Cond.code yX2_isAsked cX2_isAsked 2 (some .boolean), Cond.methodLink RX2 45 yX2_in, Cond.static yX2_in, Cond.code yX2_in cX2_in 3 (some .boolean), Cond.methodLink RX2 79 yX2_isString, Cond.static yX2_isString, Cond.code yX2_isString cX2_isString 1 (some .boolean), Cond.methodLink RX2 72 yX2_stands, Cond.instanceMethod yX2_stands, Cond.selects RX2 yX2_stands yX2_stands, Cond.code yX2_stands cX2_stands 7 (some .boolean), Cond.methodLink RX2 55 yX2_at, Cond.static yX2_at, Cond.code yX2_at cX2_at 2 (some .int), Cond.methodLink RX2 58 yX2_goes, Cond.static yX2_goes, Cond.code yX2_goes cX2_goes 7 (some .boolean), Cond.methodLink RX2 51 yX2_place]
def wsX2_pass_r2 : List Cond := [Cond.static yX2_place, Cond.code yX2_place cX2_place 2 (some .int), Cond.constant RX2 49 (1000000), Cond.constant RX2 50 (-1000000)]
def wsX2_pass : List Cond := .code yX2_pass cX2_pass 10 (some .int) :: ((wsX2_pass_r1 ++ wsX2_pass_r2) ++ wsX20)
def wsX2_within_r1 : List Cond := [Cond.fieldLink RX2 7 "TunerBenchModel" "sorts" "[I", Cond.methodLink RX2 45 yX2_in, Cond.static yX2_in, Cond.initialized RX2, Cond.code yX2_in cX2_in 3 (some .boolean), Cond.methodLink RX2 79 yX2_isString, Cond.static yX2_isString, Cond.code yX2_isString cX2_isString 1 (some .boolean), Cond.methodLink RX2 62 yX2_isStringOrFork, Cond.static yX2_isStringOrFork, Cond.code yX2_isStringOrFork cX2_isStringOrFork 1 (some .boolean), Cond.methodLink RX2 72 yX2_stands, Cond.instanceMethod yX2_stands, Cond.selects RX2 yX2_stands yX2_stands, Cond.code yX2_stands cX2_stands 7 (some .boolean), Cond.fieldLink RX2 13 "TunerBenchModel" "quarters" "[I", Cond.methodLink RX2 55 yX2_at, Cond.static yX2_at, Cond.code yX2_at cX2_at 2 (some .int), Cond.methodLink RX2 58 yX2_goes, Cond.static yX2_goes, Cond.code yX2_goes cX2_goes 7 (some .boolean), Cond.methodLink RX2 51 yX2_place, Cond.static yX2_place]
def wsX2_within_r2 : List Cond := [Cond.code yX2_place cX2_place 2 (some .int), Cond.constant RX2 49 (1000000), Cond.constant RX2 50 (-1000000)]
def wsX2_within : List Cond := .code yX2_within cX2_within 6 (some .int) :: ((wsX2_within_r1 ++ wsX2_within_r2) ++ wsX20)
def wsX2_guard : List Cond := .code yX2_guard cX2_guard 6 (some .boolean) :: ([.fieldLink RX2 85 "TunerBenchModel" "guards" "I", .fieldLink RX2 20 "TunerBenchModel" "isSet" "[Z", .fieldLink RX2 24 "TunerBenchModel" "what" "[I", .fieldLink RX2 27 "TunerBenchModel" "how" "[I", .fieldLink RX2 30 "TunerBenchModel" "mode" "[I", .fieldLink RX2 33 "TunerBenchModel" "keptSort" "[I", .fieldLink RX2 7 "TunerBenchModel" "sorts" "[I", .fieldLink RX2 36 "TunerBenchModel" "keptQuarters" "[I", .fieldLink RX2 13 "TunerBenchModel" "quarters" "[I", .fieldLink RX2 39 "TunerBenchModel" "did" "[Z", .fieldLink RX2 42 "TunerBenchModel" "rings" "[I", .methodLink RX2 45 yX2_in, .static yX2_in, .initialized RX2, .code yX2_in cX2_in 3 (some .boolean), .methodLink RX2 68 yX2_isAsked, .static yX2_isAsked, .code yX2_isAsked cX2_isAsked 2 (some .boolean), .methodLink RX2 79 yX2_isString, .static yX2_isString, .code yX2_isString cX2_isString 1 (some .boolean), .methodLink RX2 55 yX2_at, .static yX2_at, .code yX2_at cX2_at 2 (some .int)] ++ wsX20)
def wsX2_look : List Cond := .code yX2_look cX2_look 6 (some .int) :: ([.fieldLink RX2 20 "TunerBenchModel" "isSet" "[Z", .fieldLink RX2 24 "TunerBenchModel" "what" "[I", .fieldLink RX2 27 "TunerBenchModel" "how" "[I", .fieldLink RX2 7 "TunerBenchModel" "sorts" "[I", .fieldLink RX2 13 "TunerBenchModel" "quarters" "[I", .fieldLink RX2 33 "TunerBenchModel" "keptSort" "[I", .fieldLink RX2 36 "TunerBenchModel" "keptQuarters" "[I", .fieldLink RX2 30 "TunerBenchModel" "mode" "[I", .fieldLink RX2 39 "TunerBenchModel" "did" "[Z", .fieldLink RX2 42 "TunerBenchModel" "rings" "[I", .methodLink RX2 55 yX2_at, .static yX2_at, .initialized RX2, .code yX2_at cX2_at 2 (some .int), .methodLink RX2 58 yX2_goes, .static yX2_goes, .code yX2_goes cX2_goes 7 (some .boolean), .methodLink RX2 51 yX2_place, .static yX2_place, .code yX2_place cX2_place 2 (some .int), .constant RX2 49 (1000000), .constant RX2 50 (-1000000)] ++ wsX20)
def wsX2_rings : List Cond := .code yX2_rings cX2_rings 2 (some .int) :: ([.fieldLink RX2 20 "TunerBenchModel" "isSet" "[Z", .fieldLink RX2 42 "TunerBenchModel" "rings" "[I", .methodLink RX2 45 yX2_in, .static yX2_in, .initialized RX2, .code yX2_in cX2_in 3 (some .boolean)] ++ wsX20)
def wsX2_strike : List Cond := .code yX2_strike cX2_strike 3 (some .boolean) :: ([.fieldLink RX2 7 "TunerBenchModel" "sorts" "[I", .fieldLink RX2 13 "TunerBenchModel" "quarters" "[I", .methodLink RX2 79 yX2_isString, .static yX2_isString, .initialized RX2, .code yX2_isString cX2_isString 1 (some .boolean), .methodLink RX2 45 yX2_in, .static yX2_in, .code yX2_in cX2_in 3 (some .boolean), .methodLink RX2 55 yX2_at, .static yX2_at, .code yX2_at cX2_at 2 (some .int)] ++ wsX20)
def wsX2_count : List Cond := .code yX2_count cX2_count 2 (some .int) :: ([.fieldLink RX2 76 "TunerBenchModel" "denials" "I", .fieldLink RX2 16 "TunerBenchModel" "latest" "I", .fieldLink RX2 85 "TunerBenchModel" "guards" "I", .fieldLink RX2 82 "TunerBenchModel" "changes" "I"] ++ wsX20)
def wsL_law_r1 : List Cond := [Cond.classLink RL 7 RX1, Cond.instantiable RX1 5, Cond.initialized RX1, Cond.classLink RL 10 RX2, Cond.instantiable RX2 14, Cond.initialized RX2, Cond.methodLink RL 9 yX1_init, Cond.instanceMethod yX1_init, Cond.code yX1_init cX1_init 2 none, Cond.methodLink RX1 3 objectInit, Cond.instanceMethod objectInit, Cond.code objectInit ⟨#[0xb1]⟩ 1 none, Cond.classLink RX1 9 "[[I", Cond.arrayClass .int, Cond.fieldLink RX1 11 "TunerBench" "values" "[[I", Cond.classLink RX1 14 RX0, Cond.fieldLink RX1 16 "TunerBench" "guards" "[LTunerBench$Guard;", Cond.fieldLink RX1 20 "TunerBench" "denials" "I", Cond.fieldLink RX1 24 "TunerBench" "latestTruth" "I", Cond.fieldLink RX1 27 "TunerBench" "changes" "I", Cond.constant RX1 30 (40003), Cond.methodLink RX1 31 yJ7_fill_53178, Cond.static yJ7_fill_53178, Cond.initialized RJ7]
def wsL_law_r2 : List Cond := [Cond.code yJ7_fill_53178 cJ7_fill_53178 4 none, Cond.methodLink RL 12 yX2_init, Cond.instanceMethod yX2_init, Cond.code yX2_init cX2_init 2 none, Cond.methodLink RX2 1 objectInit, Cond.fieldLink RX2 7 "TunerBenchModel" "sorts" "[I", Cond.fieldLink RX2 13 "TunerBenchModel" "quarters" "[I", Cond.fieldLink RX2 16 "TunerBenchModel" "latest" "I", Cond.arrayClass .boolean, Cond.fieldLink RX2 20 "TunerBenchModel" "isSet" "[Z", Cond.fieldLink RX2 24 "TunerBenchModel" "what" "[I", Cond.fieldLink RX2 27 "TunerBenchModel" "how" "[I", Cond.fieldLink RX2 30 "TunerBenchModel" "mode" "[I", Cond.fieldLink RX2 33 "TunerBenchModel" "keptSort" "[I", Cond.fieldLink RX2 36 "TunerBenchModel" "keptQuarters" "[I", Cond.fieldLink RX2 39 "TunerBenchModel" "did" "[Z", Cond.fieldLink RX2 42 "TunerBenchModel" "rings" "[I", Cond.methodLink RL 13 yX1_put, Cond.instanceMethod yX1_put, Cond.selects RX1 yX1_put yX1_put, Cond.code yX1_put cX1_put 5 (some .boolean), Cond.methodLink RX1 37 yX1_isWhat, Cond.static yX1_isWhat, Cond.code yX1_isWhat cX1_isWhat 1 (some .boolean)]
def wsL_law_r3 : List Cond := [Cond.methodLink RX1 41 yX1_isStringOrFork, Cond.static yX1_isStringOrFork, Cond.code yX1_isStringOrFork cX1_isStringOrFork 1 (some .boolean), Cond.methodLink RX1 63 yX1_isString, Cond.static yX1_isString, Cond.code yX1_isString cX1_isString 1 (some .boolean), Cond.methodLink RX1 44 yX1_isValue, Cond.static yX1_isValue, Cond.code yX1_isValue cX1_isValue 2 (some .boolean), Cond.constant RX1 93 (-40000), Cond.constant RX1 94 (40000), Cond.methodLink RX1 48 yX1_valueOf, Cond.static yX1_valueOf, Cond.code yX1_valueOf cX1_valueOf 2 (some .int), Cond.constant RX1 95 (40002), Cond.constant RX1 96 (40001), Cond.constant RX1 97 (-40001), Cond.methodLink RL 17 yX2_put, Cond.instanceMethod yX2_put, Cond.selects RX2 yX2_put yX2_put, Cond.code yX2_put cX2_put 5 (some .boolean), Cond.constant RX2 66 (-40000), Cond.constant RX2 67 (40000), Cond.methodLink RX2 45 yX2_in]
def wsL_law_r4 : List Cond := [Cond.static yX2_in, Cond.code yX2_in cX2_in 3 (some .boolean), Cond.methodLink RX2 62 yX2_isStringOrFork, Cond.static yX2_isStringOrFork, Cond.code yX2_isStringOrFork cX2_isStringOrFork 1 (some .boolean), Cond.methodLink RX2 55 yX2_at, Cond.static yX2_at, Cond.code yX2_at cX2_at 2 (some .int), Cond.methodLink RL 18 yX1_sort, Cond.instanceMethod yX1_sort, Cond.selects RX1 yX1_sort yX1_sort, Cond.code yX1_sort cX1_sort 3 (some .int), Cond.methodLink RX1 52 yX1_sortOf, Cond.static yX1_sortOf, Cond.code yX1_sortOf cX1_sortOf 1 (some .int), Cond.methodLink RL 22 yX2_sort, Cond.instanceMethod yX2_sort, Cond.selects RX2 yX2_sort yX2_sort, Cond.code yX2_sort cX2_sort 3 (some .int), Cond.methodLink RL 23 yX1_quarters, Cond.instanceMethod yX1_quarters, Cond.selects RX1 yX1_quarters yX1_quarters, Cond.code yX1_quarters cX1_quarters 4 (some .int), Cond.methodLink RL 26 yX2_quarters]
def wsL_law_r5 : List Cond := [Cond.instanceMethod yX2_quarters, Cond.selects RX2 yX2_quarters yX2_quarters, Cond.code yX2_quarters cX2_quarters 3 (some .int), Cond.methodLink RL 27 yX1_holds, Cond.instanceMethod yX1_holds, Cond.selects RX1 yX1_holds yX1_holds, Cond.code yX1_holds cX1_holds 5 (some .int), Cond.methodLink RX1 56 yX1_isQuestion, Cond.static yX1_isQuestion, Cond.code yX1_isQuestion cX1_isQuestion 2 (some .boolean), Cond.methodLink RX1 90 yX1_isHow, Cond.static yX1_isHow, Cond.code yX1_isHow cX1_isHow 1 (some .boolean), Cond.methodLink RX1 59 yX1_stands, Cond.instanceMethod yX1_stands, Cond.selects RX1 yX1_stands yX1_stands, Cond.code yX1_stands cX1_stands 5 (some .boolean), Cond.methodLink RX1 98 yX1_valueStands, Cond.static yX1_valueStands, Cond.code yX1_valueStands cX1_valueStands 3 (some .boolean), Cond.methodLink RX1 102 yX1_sizeOf, Cond.static yX1_sizeOf, Cond.code yX1_sizeOf cX1_sizeOf 1 (some .int), Cond.methodLink RX1 105 yX1_sizeStands]
def wsL_law_r6 : List Cond := [Cond.static yX1_sizeStands, Cond.code yX1_sizeStands cX1_sizeStands 3 (some .boolean), Cond.methodLink RL 31 yX2_holds, Cond.instanceMethod yX2_holds, Cond.selects RX2 yX2_holds yX2_holds, Cond.code yX2_holds cX2_holds 5 (some .int), Cond.methodLink RX2 68 yX2_isAsked, Cond.static yX2_isAsked, Cond.code yX2_isAsked cX2_isAsked 2 (some .boolean), Cond.methodLink RX2 72 yX2_stands, Cond.instanceMethod yX2_stands, Cond.selects RX2 yX2_stands yX2_stands, Cond.code yX2_stands cX2_stands 7 (some .boolean), Cond.methodLink RX2 58 yX2_goes, Cond.static yX2_goes, Cond.code yX2_goes cX2_goes 7 (some .boolean), Cond.methodLink RX2 51 yX2_place, Cond.static yX2_place, Cond.code yX2_place cX2_place 2 (some .int), Cond.constant RX2 49 (1000000), Cond.constant RX2 50 (-1000000), Cond.methodLink RL 32 yX1_denies, Cond.instanceMethod yX1_denies, Cond.selects RX1 yX1_denies yX1_denies]
def wsL_law_r7 : List Cond := [Cond.code yX1_denies cX1_denies 5 (some .int), Cond.methodLink RL 35 yX2_denies, Cond.instanceMethod yX2_denies, Cond.selects RX2 yX2_denies yX2_denies, Cond.code yX2_denies cX2_denies 5 (some .int), Cond.fieldLink RX2 76 "TunerBenchModel" "denials" "I", Cond.methodLink RL 36 yX1_pick, Cond.instanceMethod yX1_pick, Cond.selects RX1 yX1_pick yX1_pick, Cond.code yX1_pick cX1_pick 5 (some .int), Cond.methodLink RL 39 yX2_pick, Cond.instanceMethod yX2_pick, Cond.selects RX2 yX2_pick yX2_pick, Cond.code yX2_pick cX2_pick 5 (some .int), Cond.methodLink RL 40 yX1_climb, Cond.instanceMethod yX1_climb, Cond.selects RX1 yX1_climb yX1_climb, Cond.code yX1_climb cX1_climb 5 (some .int), Cond.methodLink RL 44 yX2_climb, Cond.instanceMethod yX2_climb, Cond.selects RX2 yX2_climb yX2_climb, Cond.code yX2_climb cX2_climb 5 (some .int), Cond.methodLink RX2 79 yX2_isString, Cond.static yX2_isString]
def wsL_law_r8 : List Cond := [Cond.code yX2_isString cX2_isString 1 (some .boolean), Cond.methodLink RL 45 yX1_first, Cond.instanceMethod yX1_first, Cond.selects RX1 yX1_first yX1_first, Cond.code yX1_first cX1_first 6 (some .int), Cond.methodLink RL 49 yX2_first, Cond.instanceMethod yX2_first, Cond.selects RX2 yX2_first yX2_first, Cond.code yX2_first cX2_first 6 (some .int), Cond.methodLink RL 50 yX1_best, Cond.instanceMethod yX1_best, Cond.selects RX1 yX1_best yX1_best, Cond.code yX1_best cX1_best 6 (some .int), Cond.methodLink RL 54 yX2_best, Cond.instanceMethod yX2_best, Cond.selects RX2 yX2_best yX2_best, Cond.code yX2_best cX2_best 6 (some .int), Cond.methodLink RL 55 yX1_pass, Cond.instanceMethod yX1_pass, Cond.selects RX1 yX1_pass yX1_pass, Cond.code yX1_pass cX1_pass 7 (some .int), Cond.methodLink RX1 66 yX1_changeWithNext, Cond.instanceMethod yX1_changeWithNext, Cond.selects RX1 yX1_changeWithNext yX1_changeWithNext]
def wsL_law_r9 : List Cond := [Cond.code yX1_changeWithNext cX1_changeWithNext 5 none, Cond.methodLink RL 58 yX2_pass, Cond.instanceMethod yX2_pass, Cond.selects RX2 yX2_pass yX2_pass, Cond.code yX2_pass cX2_pass 10 (some .int), Cond.fieldLink RX2 82 "TunerBenchModel" "changes" "I", Cond.methodLink RL 59 yX1_within, Cond.instanceMethod yX1_within, Cond.selects RX1 yX1_within yX1_within, Cond.code yX1_within cX1_within 6 (some .int), Cond.methodLink RL 62 yX2_within, Cond.instanceMethod yX2_within, Cond.selects RX2 yX2_within yX2_within, Cond.code yX2_within cX2_within 6 (some .int), Cond.methodLink RL 63 yX1_guard, Cond.instanceMethod yX1_guard, Cond.selects RX1 yX1_guard yX1_guard, Cond.code yX1_guard cX1_guard 6 (some .boolean), Cond.instantiable RX0 6, Cond.initialized RX0, Cond.methodLink RX1 70 yX1_isGuard, Cond.static yX1_isGuard, Cond.code yX1_isGuard cX1_isGuard 1 (some .boolean), Cond.methodLink RX1 73 yX1_isMode]
def wsL_law_r10 : List Cond := [Cond.static yX1_isMode, Cond.code yX1_isMode cX1_isMode 1 (some .boolean), Cond.instanceMethod yX0_init, Cond.code yX0_init cX0_init 5 none, Cond.methodLink RX0 1 objectInit, Cond.fieldLink RX0 7 "TunerBench$Guard" "stood" "Z", Cond.fieldLink RX0 13 "TunerBench$Guard" "rang" "I", Cond.fieldLink RX0 17 "TunerBench$Guard" "what" "I", Cond.fieldLink RX0 20 "TunerBench$Guard" "how" "I", Cond.fieldLink RX0 23 "TunerBench$Guard" "copy" "I", Cond.fieldLink RX0 26 "TunerBench$Guard" "mode" "I", Cond.methodLink RL 67 yX2_guard, Cond.instanceMethod yX2_guard, Cond.selects RX2 yX2_guard yX2_guard, Cond.code yX2_guard cX2_guard 6 (some .boolean), Cond.fieldLink RX2 85 "TunerBenchModel" "guards" "I", Cond.methodLink RL 68 yX1_look, Cond.instanceMethod yX1_look, Cond.selects RX1 yX1_look yX1_look, Cond.code yX1_look cX1_look 4 (some .int), Cond.methodLink RX1 79 yX1_ringsNow, Cond.instanceMethod yX1_ringsNow, Cond.selects RX1 yX1_ringsNow yX1_ringsNow, Cond.code yX1_ringsNow cX1_ringsNow 4 (some .boolean)]
def wsL_law_r11 : List Cond := [Cond.methodLink RX1 124 yX1_isRung, Cond.static yX1_isRung, Cond.code yX1_isRung cX1_isRung 3 (some .boolean), Cond.methodLink RL 72 yX2_look, Cond.instanceMethod yX2_look, Cond.selects RX2 yX2_look yX2_look, Cond.code yX2_look cX2_look 6 (some .int), Cond.methodLink RL 73 yX1_rings, Cond.instanceMethod yX1_rings, Cond.selects RX1 yX1_rings yX1_rings, Cond.code yX1_rings cX1_rings 3 (some .int), Cond.methodLink RL 77 yX2_rings, Cond.instanceMethod yX2_rings, Cond.selects RX2 yX2_rings yX2_rings, Cond.code yX2_rings cX2_rings 2 (some .int), Cond.methodLink RL 78 yX1_strike, Cond.instanceMethod yX1_strike, Cond.selects RX1 yX1_strike yX1_strike, Cond.code yX1_strike cX1_strike 3 (some .boolean), Cond.methodLink RL 82 yX2_strike, Cond.instanceMethod yX2_strike, Cond.selects RX2 yX2_strike yX2_strike, Cond.code yX2_strike cX2_strike 3 (some .boolean), Cond.methodLink RL 83 yX1_count]
def wsL_law_r12 : List Cond := [Cond.instanceMethod yX1_count, Cond.selects RX1 yX1_count yX1_count, Cond.code yX1_count cX1_count 2 (some .int), Cond.methodLink RX1 86 yX1_guardsSet, Cond.instanceMethod yX1_guardsSet, Cond.selects RX1 yX1_guardsSet yX1_guardsSet, Cond.code yX1_guardsSet cX1_guardsSet 3 (some .int), Cond.methodLink RL 86 yX2_count, Cond.instanceMethod yX2_count, Cond.selects RX2 yX2_count yX2_count, Cond.code yX2_count cX2_count 2 (some .int)]
def wsL_law : List Cond := (wsL_law_r1 ++ (wsL_law_r2 ++ (wsL_law_r3 ++ (wsL_law_r4 ++ (wsL_law_r5 ++ (wsL_law_r6 ++ (wsL_law_r7 ++ (wsL_law_r8 ++ (wsL_law_r9 ++ (wsL_law_r10 ++ (wsL_law_r11 ++ wsL_law_r12))))))))))) ++ wsX10 ++ wsX20 ++ wsX00 ++ ([] : List Cond)
set_option maxRecDepth 20000 in
theorem wsL_law_in : ∀ w ∈ wsL_law, w ∈ lw_tbl := fun w h => (goodIn_p wsL_law [14, 17, 25, 204, 46, 49, 52, 55, 58, 63, 253, 256, 259, 264, 70, 73, 268, 77, 272, 81, 84, 87, 91, 94, 97, 100, 276, 279, 283, 286, 289, 104, 295, 108, 299, 112, 303, 306, 116, 310, 120, 314, 124, 128, 318, 132, 322, 136, 139, 142, 146, 326, 176, 180, 183, 330, 187, 334, 191, 338, 195, 199, 342] (by decide +kernel) (by decide +kernel) w h).1
theorem inlX0 : ∀ w ∈ wsX00, w ∈ wsL_law := fun _ h => List.mem_append_left _ (List.mem_append_right _ h)
theorem inX0 : ∀ w ∈ wsX00, w ∈ lw_tbl := fun w h => wsL_law_in w (inlX0 w h)
theorem inlX1 : ∀ w ∈ wsX10, w ∈ wsL_law := fun _ h => List.mem_append_left _ (List.mem_append_left _ (List.mem_append_left _ (List.mem_append_right _ h)))
theorem inX1 : ∀ w ∈ wsX10, w ∈ lw_tbl := fun w h => wsL_law_in w (inlX1 w h)
theorem inlX2 : ∀ w ∈ wsX20, w ∈ wsL_law := fun _ h => List.mem_append_left _ (List.mem_append_left _ (List.mem_append_right _ h))
theorem inX2 : ∀ w ∈ wsX20, w ∈ lw_tbl := fun w h => wsL_law_in w (inlX2 w h)
theorem inJ7 : ∀ w ∈ wsJ70, w ∈ lw_tbl := by decide +kernel
theorem dX0_init_0 : decode cX0_init 0 = .ok (.aload_n 0, 1) := by decide +kernel
theorem dX0_init_1 : decode cX0_init 1 = .ok (.invokespecial 1, 3) := by decide +kernel
theorem dX0_init_4 : decode cX0_init 4 = .ok (.aload_n 0, 1) := by decide +kernel
theorem dX0_init_5 : decode cX0_init 5 = .ok (.iconst 0, 1) := by decide +kernel
theorem dX0_init_6 : decode cX0_init 6 = .ok (.putfield 7, 3) := by decide +kernel
theorem dX0_init_9 : decode cX0_init 9 = .ok (.aload_n 0, 1) := by decide +kernel
theorem dX0_init_10 : decode cX0_init 10 = .ok (.iconst 0, 1) := by decide +kernel
theorem dX0_init_11 : decode cX0_init 11 = .ok (.putfield 13, 3) := by decide +kernel
theorem dX0_init_14 : decode cX0_init 14 = .ok (.aload_n 0, 1) := by decide +kernel
theorem dX0_init_15 : decode cX0_init 15 = .ok (.iload_n 1, 1) := by decide +kernel
theorem dX0_init_16 : decode cX0_init 16 = .ok (.putfield 17, 3) := by decide +kernel
theorem dX0_init_19 : decode cX0_init 19 = .ok (.aload_n 0, 1) := by decide +kernel
theorem dX0_init_20 : decode cX0_init 20 = .ok (.iload_n 2, 1) := by decide +kernel
theorem dX0_init_21 : decode cX0_init 21 = .ok (.putfield 20, 3) := by decide +kernel
theorem dX0_init_24 : decode cX0_init 24 = .ok (.aload_n 0, 1) := by decide +kernel
theorem dX0_init_25 : decode cX0_init 25 = .ok (.iload_n 3, 1) := by decide +kernel
theorem dX0_init_26 : decode cX0_init 26 = .ok (.putfield 23, 3) := by decide +kernel
theorem dX0_init_29 : decode cX0_init 29 = .ok (.aload_n 0, 1) := by decide +kernel
theorem dX0_init_30 : decode cX0_init 30 = .ok (.iload 4, 2) := by decide +kernel
theorem dX0_init_32 : decode cX0_init 32 = .ok (.putfield 26, 3) := by decide +kernel
theorem dX0_init_35 : decode cX0_init 35 = .ok (.return_, 1) := by decide +kernel
set_option maxRecDepth 20000 in
theorem ggX1_init_J7_fill_53178 : GoodIn wsX1_init wsJ7_fill_53178 := goodIn_r _ [16] (by decide +kernel) (by decide +kernel)
set_option maxRecDepth 20000 in
theorem gX1_init_J7_fill_53178 : GoodIn wsX1_init (va_wsS RX1 31 yJ7_fill_53178 wsJ7_fill_53178) := goodIn_app (goodIn_of _ (by decide +kernel)) ggX1_init_J7_fill_53178
theorem dX1_init_0 : decode cX1_init 0 = .ok (.aload_n 0, 1) := by decide +kernel
theorem dX1_init_1 : decode cX1_init 1 = .ok (.invokespecial 3, 3) := by decide +kernel
theorem dX1_init_4 : decode cX1_init 4 = .ok (.aload_n 0, 1) := by decide +kernel
theorem dX1_init_5 : decode cX1_init 5 = .ok (.iconst 2, 1) := by decide +kernel
theorem dX1_init_6 : decode cX1_init 6 = .ok (.bipush 33, 2) := by decide +kernel
theorem dX1_init_8 : decode cX1_init 8 = .ok (.multianewarray 9 2, 4) := by decide +kernel
theorem dX1_init_12 : decode cX1_init 12 = .ok (.putfield 11, 3) := by decide +kernel
theorem dX1_init_15 : decode cX1_init 15 = .ok (.aload_n 0, 1) := by decide +kernel
theorem dX1_init_16 : decode cX1_init 16 = .ok (.bipush 8, 2) := by decide +kernel
theorem dX1_init_18 : decode cX1_init 18 = .ok (.anewarray 14, 3) := by decide +kernel
theorem dX1_init_21 : decode cX1_init 21 = .ok (.putfield 16, 3) := by decide +kernel
theorem dX1_init_24 : decode cX1_init 24 = .ok (.aload_n 0, 1) := by decide +kernel
theorem dX1_init_25 : decode cX1_init 25 = .ok (.iconst 0, 1) := by decide +kernel
theorem dX1_init_26 : decode cX1_init 26 = .ok (.putfield 20, 3) := by decide +kernel
theorem dX1_init_29 : decode cX1_init 29 = .ok (.aload_n 0, 1) := by decide +kernel
theorem dX1_init_30 : decode cX1_init 30 = .ok (.iconst (-1), 1) := by decide +kernel
theorem dX1_init_31 : decode cX1_init 31 = .ok (.putfield 24, 3) := by decide +kernel
theorem dX1_init_34 : decode cX1_init 34 = .ok (.aload_n 0, 1) := by decide +kernel
theorem dX1_init_35 : decode cX1_init 35 = .ok (.iconst 0, 1) := by decide +kernel
theorem dX1_init_36 : decode cX1_init 36 = .ok (.putfield 27, 3) := by decide +kernel
theorem dX1_init_39 : decode cX1_init 39 = .ok (.iconst 0, 1) := by decide +kernel
theorem dX1_init_40 : decode cX1_init 40 = .ok (.istore_n 1, 1) := by decide +kernel
theorem dX1_init_41 : decode cX1_init 41 = .ok (.iload_n 1, 1) := by decide +kernel
theorem dX1_init_42 : decode cX1_init 42 = .ok (.iconst 2, 1) := by decide +kernel
theorem dX1_init_43 : decode cX1_init 43 = .ok (.if_icmp .ge 20, 3) := by decide +kernel
theorem dX1_init_46 : decode cX1_init 46 = .ok (.aload_n 0, 1) := by decide +kernel
theorem dX1_init_47 : decode cX1_init 47 = .ok (.getfield 11, 3) := by decide +kernel
theorem dX1_init_50 : decode cX1_init 50 = .ok (.iload_n 1, 1) := by decide +kernel
theorem dX1_init_51 : decode cX1_init 51 = .ok (.aaload, 1) := by decide +kernel
theorem dX1_init_52 : decode cX1_init 52 = .ok (.ldc 30, 2) := by decide +kernel
theorem dX1_init_54 : decode cX1_init 54 = .ok (.invokestatic 31, 3) := by decide +kernel
theorem dX1_init_57 : decode cX1_init 57 = .ok (.iinc 1 1, 3) := by decide +kernel
theorem dX1_init_60 : decode cX1_init 60 = .ok (.goto (-19), 3) := by decide +kernel
theorem dX1_init_63 : decode cX1_init 63 = .ok (.return_, 1) := by decide +kernel
set_option maxRecDepth 20000 in
theorem ggX1_put_X1_isWhat : GoodIn wsX1_put wsX1_isWhat := goodIn_r _ [5] (by decide +kernel) (by decide +kernel)
set_option maxRecDepth 20000 in
theorem gX1_put_X1_isWhat : GoodIn wsX1_put (va_wsS RX1 37 yX1_isWhat wsX1_isWhat) := goodIn_app (goodIn_of _ (by decide +kernel)) ggX1_put_X1_isWhat
set_option maxRecDepth 20000 in
theorem ggX1_put_X1_isStringOrFork : GoodIn wsX1_put wsX1_isStringOrFork := goodIn_r _ [8, 9, 10, 4, 11] (by decide +kernel) (by decide +kernel)
set_option maxRecDepth 20000 in
theorem gX1_put_X1_isStringOrFork : GoodIn wsX1_put (va_wsS RX1 41 yX1_isStringOrFork wsX1_isStringOrFork) := goodIn_app (goodIn_of _ (by decide +kernel)) ggX1_put_X1_isStringOrFork
set_option maxRecDepth 20000 in
theorem ggX1_put_X1_isValue : GoodIn wsX1_put wsX1_isValue := goodIn_r _ [14, 15, 16] (by decide +kernel) (by decide +kernel)
set_option maxRecDepth 20000 in
theorem gX1_put_X1_isValue : GoodIn wsX1_put (va_wsS RX1 44 yX1_isValue wsX1_isValue) := goodIn_app (goodIn_of _ (by decide +kernel)) ggX1_put_X1_isValue
set_option maxRecDepth 20000 in
theorem ggX1_put_X1_valueOf : GoodIn wsX1_put wsX1_valueOf := goodIn_r _ [19, 20, 21, 22, 23] (by decide +kernel) (by decide +kernel)
set_option maxRecDepth 20000 in
theorem gX1_put_X1_valueOf : GoodIn wsX1_put (va_wsS RX1 48 yX1_valueOf wsX1_valueOf) := goodIn_app (goodIn_of _ (by decide +kernel)) ggX1_put_X1_valueOf
theorem dX1_put_0 : decode cX1_put 0 = .ok (.iload_n 1, 1) := by decide +kernel
theorem dX1_put_1 : decode cX1_put 1 = .ok (.invokestatic 37, 3) := by decide +kernel
theorem dX1_put_4 : decode cX1_put 4 = .ok (.ifCond .eq 19, 3) := by decide +kernel
theorem dX1_put_7 : decode cX1_put 7 = .ok (.iload_n 2, 1) := by decide +kernel
theorem dX1_put_8 : decode cX1_put 8 = .ok (.invokestatic 41, 3) := by decide +kernel
theorem dX1_put_11 : decode cX1_put 11 = .ok (.ifCond .eq 12, 3) := by decide +kernel
theorem dX1_put_14 : decode cX1_put 14 = .ok (.iload_n 3, 1) := by decide +kernel
theorem dX1_put_15 : decode cX1_put 15 = .ok (.iload 4, 2) := by decide +kernel
theorem dX1_put_17 : decode cX1_put 17 = .ok (.invokestatic 44, 3) := by decide +kernel
theorem dX1_put_20 : decode cX1_put 20 = .ok (.ifCond .ne 5, 3) := by decide +kernel
theorem dX1_put_23 : decode cX1_put 23 = .ok (.iconst 0, 1) := by decide +kernel
theorem dX1_put_24 : decode cX1_put 24 = .ok (.ireturn, 1) := by decide +kernel
theorem dX1_put_25 : decode cX1_put 25 = .ok (.aload_n 0, 1) := by decide +kernel
theorem dX1_put_26 : decode cX1_put 26 = .ok (.getfield 11, 3) := by decide +kernel
theorem dX1_put_29 : decode cX1_put 29 = .ok (.iload_n 1, 1) := by decide +kernel
theorem dX1_put_30 : decode cX1_put 30 = .ok (.aaload, 1) := by decide +kernel
theorem dX1_put_31 : decode cX1_put 31 = .ok (.iload_n 2, 1) := by decide +kernel
theorem dX1_put_32 : decode cX1_put 32 = .ok (.iload_n 3, 1) := by decide +kernel
theorem dX1_put_33 : decode cX1_put 33 = .ok (.iload 4, 2) := by decide +kernel
theorem dX1_put_35 : decode cX1_put 35 = .ok (.invokestatic 48, 3) := by decide +kernel
theorem dX1_put_38 : decode cX1_put 38 = .ok (.iastore, 1) := by decide +kernel
theorem dX1_put_39 : decode cX1_put 39 = .ok (.iconst 1, 1) := by decide +kernel
theorem dX1_put_40 : decode cX1_put 40 = .ok (.ireturn, 1) := by decide +kernel
set_option maxRecDepth 20000 in
theorem ggX1_sort_X1_isWhat : GoodIn wsX1_sort wsX1_isWhat := goodIn_r _ [5] (by decide +kernel) (by decide +kernel)
set_option maxRecDepth 20000 in
theorem gX1_sort_X1_isWhat : GoodIn wsX1_sort (va_wsS RX1 37 yX1_isWhat wsX1_isWhat) := goodIn_app (goodIn_of _ (by decide +kernel)) ggX1_sort_X1_isWhat
set_option maxRecDepth 20000 in
theorem ggX1_sort_X1_isStringOrFork : GoodIn wsX1_sort wsX1_isStringOrFork := goodIn_r _ [8, 9, 10, 4, 11] (by decide +kernel) (by decide +kernel)
set_option maxRecDepth 20000 in
theorem gX1_sort_X1_isStringOrFork : GoodIn wsX1_sort (va_wsS RX1 41 yX1_isStringOrFork wsX1_isStringOrFork) := goodIn_app (goodIn_of _ (by decide +kernel)) ggX1_sort_X1_isStringOrFork
set_option maxRecDepth 20000 in
theorem ggX1_sort_X1_sortOf : GoodIn wsX1_sort wsX1_sortOf := goodIn_r _ [14] (by decide +kernel) (by decide +kernel)
set_option maxRecDepth 20000 in
theorem gX1_sort_X1_sortOf : GoodIn wsX1_sort (va_wsS RX1 52 yX1_sortOf wsX1_sortOf) := goodIn_app (goodIn_of _ (by decide +kernel)) ggX1_sort_X1_sortOf
theorem dX1_sort_0 : decode cX1_sort 0 = .ok (.iload_n 1, 1) := by decide +kernel
theorem dX1_sort_1 : decode cX1_sort 1 = .ok (.invokestatic 37, 3) := by decide +kernel
theorem dX1_sort_4 : decode cX1_sort 4 = .ok (.ifCond .eq 10, 3) := by decide +kernel
theorem dX1_sort_7 : decode cX1_sort 7 = .ok (.iload_n 2, 1) := by decide +kernel
theorem dX1_sort_8 : decode cX1_sort 8 = .ok (.invokestatic 41, 3) := by decide +kernel
theorem dX1_sort_11 : decode cX1_sort 11 = .ok (.ifCond .ne 5, 3) := by decide +kernel
theorem dX1_sort_14 : decode cX1_sort 14 = .ok (.iconst (-1), 1) := by decide +kernel
theorem dX1_sort_15 : decode cX1_sort 15 = .ok (.ireturn, 1) := by decide +kernel
theorem dX1_sort_16 : decode cX1_sort 16 = .ok (.aload_n 0, 1) := by decide +kernel
theorem dX1_sort_17 : decode cX1_sort 17 = .ok (.getfield 11, 3) := by decide +kernel
theorem dX1_sort_20 : decode cX1_sort 20 = .ok (.iload_n 1, 1) := by decide +kernel
theorem dX1_sort_21 : decode cX1_sort 21 = .ok (.aaload, 1) := by decide +kernel
theorem dX1_sort_22 : decode cX1_sort 22 = .ok (.iload_n 2, 1) := by decide +kernel
theorem dX1_sort_23 : decode cX1_sort 23 = .ok (.iaload, 1) := by decide +kernel
theorem dX1_sort_24 : decode cX1_sort 24 = .ok (.invokestatic 52, 3) := by decide +kernel
theorem dX1_sort_27 : decode cX1_sort 27 = .ok (.ireturn, 1) := by decide +kernel
set_option maxRecDepth 20000 in
theorem ggX1_quarters_X1_isWhat : GoodIn wsX1_quarters wsX1_isWhat := goodIn_r _ [5] (by decide +kernel) (by decide +kernel)
set_option maxRecDepth 20000 in
theorem gX1_quarters_X1_isWhat : GoodIn wsX1_quarters (va_wsS RX1 37 yX1_isWhat wsX1_isWhat) := goodIn_app (goodIn_of _ (by decide +kernel)) ggX1_quarters_X1_isWhat
set_option maxRecDepth 20000 in
theorem ggX1_quarters_X1_isStringOrFork : GoodIn wsX1_quarters wsX1_isStringOrFork := goodIn_r _ [8, 9, 10, 4, 11] (by decide +kernel) (by decide +kernel)
set_option maxRecDepth 20000 in
theorem gX1_quarters_X1_isStringOrFork : GoodIn wsX1_quarters (va_wsS RX1 41 yX1_isStringOrFork wsX1_isStringOrFork) := goodIn_app (goodIn_of _ (by decide +kernel)) ggX1_quarters_X1_isStringOrFork
set_option maxRecDepth 20000 in
theorem ggX1_quarters_X1_sortOf : GoodIn wsX1_quarters wsX1_sortOf := goodIn_r _ [14] (by decide +kernel) (by decide +kernel)
set_option maxRecDepth 20000 in
theorem gX1_quarters_X1_sortOf : GoodIn wsX1_quarters (va_wsS RX1 52 yX1_sortOf wsX1_sortOf) := goodIn_app (goodIn_of _ (by decide +kernel)) ggX1_quarters_X1_sortOf
theorem dX1_quarters_0 : decode cX1_quarters 0 = .ok (.iload_n 1, 1) := by decide +kernel
theorem dX1_quarters_1 : decode cX1_quarters 1 = .ok (.invokestatic 37, 3) := by decide +kernel
theorem dX1_quarters_4 : decode cX1_quarters 4 = .ok (.ifCond .eq 10, 3) := by decide +kernel
theorem dX1_quarters_7 : decode cX1_quarters 7 = .ok (.iload_n 2, 1) := by decide +kernel
theorem dX1_quarters_8 : decode cX1_quarters 8 = .ok (.invokestatic 41, 3) := by decide +kernel
theorem dX1_quarters_11 : decode cX1_quarters 11 = .ok (.ifCond .ne 5, 3) := by decide +kernel
theorem dX1_quarters_14 : decode cX1_quarters 14 = .ok (.iconst 0, 1) := by decide +kernel
theorem dX1_quarters_15 : decode cX1_quarters 15 = .ok (.ireturn, 1) := by decide +kernel
theorem dX1_quarters_16 : decode cX1_quarters 16 = .ok (.aload_n 0, 1) := by decide +kernel
theorem dX1_quarters_17 : decode cX1_quarters 17 = .ok (.getfield 11, 3) := by decide +kernel
theorem dX1_quarters_20 : decode cX1_quarters 20 = .ok (.iload_n 1, 1) := by decide +kernel
theorem dX1_quarters_21 : decode cX1_quarters 21 = .ok (.aaload, 1) := by decide +kernel
theorem dX1_quarters_22 : decode cX1_quarters 22 = .ok (.iload_n 2, 1) := by decide +kernel
theorem dX1_quarters_23 : decode cX1_quarters 23 = .ok (.iaload, 1) := by decide +kernel
theorem dX1_quarters_24 : decode cX1_quarters 24 = .ok (.istore_n 3, 1) := by decide +kernel
theorem dX1_quarters_25 : decode cX1_quarters 25 = .ok (.iload_n 3, 1) := by decide +kernel
theorem dX1_quarters_26 : decode cX1_quarters 26 = .ok (.invokestatic 52, 3) := by decide +kernel
theorem dX1_quarters_29 : decode cX1_quarters 29 = .ok (.ifCond .ne 7, 3) := by decide +kernel
theorem dX1_quarters_32 : decode cX1_quarters 32 = .ok (.iload_n 3, 1) := by decide +kernel
theorem dX1_quarters_33 : decode cX1_quarters 33 = .ok (.goto 4, 3) := by decide +kernel
theorem dX1_quarters_36 : decode cX1_quarters 36 = .ok (.iconst 0, 1) := by decide +kernel
theorem dX1_quarters_37 : decode cX1_quarters 37 = .ok (.ireturn, 1) := by decide +kernel
set_option maxRecDepth 20000 in
theorem ggX1_holds_X1_isQuestion : GoodIn wsX1_holds wsX1_isQuestion := goodIn_r _ [5, 6, 7, 4, 8, 9, 10, 11] (by decide +kernel) (by decide +kernel)
set_option maxRecDepth 20000 in
theorem gX1_holds_X1_isQuestion : GoodIn wsX1_holds (va_wsS RX1 56 yX1_isQuestion wsX1_isQuestion) := goodIn_app (goodIn_of _ (by decide +kernel)) ggX1_holds_X1_isQuestion
set_option maxRecDepth 20000 in
theorem ggX1_holds_X1_isStringOrFork : GoodIn wsX1_holds wsX1_isStringOrFork := goodIn_r _ [14, 15, 16, 4, 17] (by decide +kernel) (by decide +kernel)
set_option maxRecDepth 20000 in
theorem gX1_holds_X1_isStringOrFork : GoodIn wsX1_holds (va_wsS RX1 41 yX1_isStringOrFork wsX1_isStringOrFork) := goodIn_app (goodIn_of _ (by decide +kernel)) ggX1_holds_X1_isStringOrFork
set_option maxRecDepth 20000 in
theorem ggX1_holds_X1_stands : GoodIn wsX1_holds wsX1_stands := goodIn_r _ [21, 22, 23, 24, 4, 25, 26, 27, 28, 29, 30, 31, 32, 33, 34, 35, 36, 37, 38] (by decide +kernel) (by decide +kernel)
set_option maxRecDepth 20000 in
theorem gX1_holds_X1_stands : GoodIn wsX1_holds (wsV RX1 59 RX1 yX1_stands wsX1_stands) := goodIn_app (goodIn_of _ (by decide +kernel)) ggX1_holds_X1_stands
theorem dX1_holds_0 : decode cX1_holds 0 = .ok (.iload_n 1, 1) := by decide +kernel
theorem dX1_holds_1 : decode cX1_holds 1 = .ok (.iload_n 2, 1) := by decide +kernel
theorem dX1_holds_2 : decode cX1_holds 2 = .ok (.invokestatic 56, 3) := by decide +kernel
theorem dX1_holds_5 : decode cX1_holds 5 = .ok (.ifCond .eq 18, 3) := by decide +kernel
theorem dX1_holds_8 : decode cX1_holds 8 = .ok (.iload_n 3, 1) := by decide +kernel
theorem dX1_holds_9 : decode cX1_holds 9 = .ok (.invokestatic 41, 3) := by decide +kernel
theorem dX1_holds_12 : decode cX1_holds 12 = .ok (.ifCond .eq 11, 3) := by decide +kernel
theorem dX1_holds_15 : decode cX1_holds 15 = .ok (.iload 4, 2) := by decide +kernel
theorem dX1_holds_17 : decode cX1_holds 17 = .ok (.invokestatic 41, 3) := by decide +kernel
theorem dX1_holds_20 : decode cX1_holds 20 = .ok (.ifCond .ne 5, 3) := by decide +kernel
theorem dX1_holds_23 : decode cX1_holds 23 = .ok (.iconst (-1), 1) := by decide +kernel
theorem dX1_holds_24 : decode cX1_holds 24 = .ok (.ireturn, 1) := by decide +kernel
theorem dX1_holds_25 : decode cX1_holds 25 = .ok (.aload_n 0, 1) := by decide +kernel
theorem dX1_holds_26 : decode cX1_holds 26 = .ok (.aload_n 0, 1) := by decide +kernel
theorem dX1_holds_27 : decode cX1_holds 27 = .ok (.iload_n 1, 1) := by decide +kernel
theorem dX1_holds_28 : decode cX1_holds 28 = .ok (.iload_n 2, 1) := by decide +kernel
theorem dX1_holds_29 : decode cX1_holds 29 = .ok (.iload_n 3, 1) := by decide +kernel
theorem dX1_holds_30 : decode cX1_holds 30 = .ok (.iload 4, 2) := by decide +kernel
theorem dX1_holds_32 : decode cX1_holds 32 = .ok (.invokevirtual 59, 3) := by decide +kernel
theorem dX1_holds_35 : decode cX1_holds 35 = .ok (.ifCond .eq 7, 3) := by decide +kernel
theorem dX1_holds_38 : decode cX1_holds 38 = .ok (.iconst 1, 1) := by decide +kernel
theorem dX1_holds_39 : decode cX1_holds 39 = .ok (.goto 4, 3) := by decide +kernel
theorem dX1_holds_42 : decode cX1_holds 42 = .ok (.iconst 0, 1) := by decide +kernel
theorem dX1_holds_43 : decode cX1_holds 43 = .ok (.putfield 24, 3) := by decide +kernel
theorem dX1_holds_46 : decode cX1_holds 46 = .ok (.aload_n 0, 1) := by decide +kernel
theorem dX1_holds_47 : decode cX1_holds 47 = .ok (.getfield 24, 3) := by decide +kernel
theorem dX1_holds_50 : decode cX1_holds 50 = .ok (.ireturn, 1) := by decide +kernel
set_option maxRecDepth 20000 in
theorem ggX1_denies_X1_isQuestion : GoodIn wsX1_denies wsX1_isQuestion := goodIn_r _ [5, 6, 7, 4, 8, 9, 10, 11] (by decide +kernel) (by decide +kernel)
set_option maxRecDepth 20000 in
theorem gX1_denies_X1_isQuestion : GoodIn wsX1_denies (va_wsS RX1 56 yX1_isQuestion wsX1_isQuestion) := goodIn_app (goodIn_of _ (by decide +kernel)) ggX1_denies_X1_isQuestion
set_option maxRecDepth 20000 in
theorem ggX1_denies_X1_isStringOrFork : GoodIn wsX1_denies wsX1_isStringOrFork := goodIn_r _ [14, 15, 16, 4, 17] (by decide +kernel) (by decide +kernel)
set_option maxRecDepth 20000 in
theorem gX1_denies_X1_isStringOrFork : GoodIn wsX1_denies (va_wsS RX1 41 yX1_isStringOrFork wsX1_isStringOrFork) := goodIn_app (goodIn_of _ (by decide +kernel)) ggX1_denies_X1_isStringOrFork
set_option maxRecDepth 20000 in
theorem ggX1_denies_X1_stands : GoodIn wsX1_denies wsX1_stands := goodIn_r _ [21, 22, 23, 24, 4, 25, 26, 27, 28, 29, 30, 31, 32, 33, 34, 35, 36, 37, 38] (by decide +kernel) (by decide +kernel)
set_option maxRecDepth 20000 in
theorem gX1_denies_X1_stands : GoodIn wsX1_denies (wsV RX1 59 RX1 yX1_stands wsX1_stands) := goodIn_app (goodIn_of _ (by decide +kernel)) ggX1_denies_X1_stands
theorem dX1_denies_0 : decode cX1_denies 0 = .ok (.iload_n 1, 1) := by decide +kernel
theorem dX1_denies_1 : decode cX1_denies 1 = .ok (.iload_n 2, 1) := by decide +kernel
theorem dX1_denies_2 : decode cX1_denies 2 = .ok (.invokestatic 56, 3) := by decide +kernel
theorem dX1_denies_5 : decode cX1_denies 5 = .ok (.ifCond .eq 18, 3) := by decide +kernel
theorem dX1_denies_8 : decode cX1_denies 8 = .ok (.iload_n 3, 1) := by decide +kernel
theorem dX1_denies_9 : decode cX1_denies 9 = .ok (.invokestatic 41, 3) := by decide +kernel
theorem dX1_denies_12 : decode cX1_denies 12 = .ok (.ifCond .eq 11, 3) := by decide +kernel
theorem dX1_denies_15 : decode cX1_denies 15 = .ok (.iload 4, 2) := by decide +kernel
theorem dX1_denies_17 : decode cX1_denies 17 = .ok (.invokestatic 41, 3) := by decide +kernel
theorem dX1_denies_20 : decode cX1_denies 20 = .ok (.ifCond .ne 5, 3) := by decide +kernel
theorem dX1_denies_23 : decode cX1_denies 23 = .ok (.iconst (-1), 1) := by decide +kernel
theorem dX1_denies_24 : decode cX1_denies 24 = .ok (.ireturn, 1) := by decide +kernel
theorem dX1_denies_25 : decode cX1_denies 25 = .ok (.aload_n 0, 1) := by decide +kernel
theorem dX1_denies_26 : decode cX1_denies 26 = .ok (.iload_n 1, 1) := by decide +kernel
theorem dX1_denies_27 : decode cX1_denies 27 = .ok (.iload_n 2, 1) := by decide +kernel
theorem dX1_denies_28 : decode cX1_denies 28 = .ok (.iload_n 3, 1) := by decide +kernel
theorem dX1_denies_29 : decode cX1_denies 29 = .ok (.iload 4, 2) := by decide +kernel
theorem dX1_denies_31 : decode cX1_denies 31 = .ok (.invokevirtual 59, 3) := by decide +kernel
theorem dX1_denies_34 : decode cX1_denies 34 = .ok (.ifCond .eq 5, 3) := by decide +kernel
theorem dX1_denies_37 : decode cX1_denies 37 = .ok (.iconst 0, 1) := by decide +kernel
theorem dX1_denies_38 : decode cX1_denies 38 = .ok (.ireturn, 1) := by decide +kernel
theorem dX1_denies_39 : decode cX1_denies 39 = .ok (.aload_n 0, 1) := by decide +kernel
theorem dX1_denies_40 : decode cX1_denies 40 = .ok (.dup, 1) := by decide +kernel
theorem dX1_denies_41 : decode cX1_denies 41 = .ok (.getfield 20, 3) := by decide +kernel
theorem dX1_denies_44 : decode cX1_denies 44 = .ok (.iconst 1, 1) := by decide +kernel
theorem dX1_denies_45 : decode cX1_denies 45 = .ok (.iadd, 1) := by decide +kernel
theorem dX1_denies_46 : decode cX1_denies 46 = .ok (.putfield 20, 3) := by decide +kernel
theorem dX1_denies_49 : decode cX1_denies 49 = .ok (.iconst 1, 1) := by decide +kernel
theorem dX1_denies_50 : decode cX1_denies 50 = .ok (.ireturn, 1) := by decide +kernel
set_option maxRecDepth 20000 in
theorem ggX1_pick_X1_isQuestion : GoodIn wsX1_pick wsX1_isQuestion := goodIn_r _ [4, 5, 6, 3, 7, 8, 9, 10] (by decide +kernel) (by decide +kernel)
set_option maxRecDepth 20000 in
theorem gX1_pick_X1_isQuestion : GoodIn wsX1_pick (va_wsS RX1 56 yX1_isQuestion wsX1_isQuestion) := goodIn_app (goodIn_of _ (by decide +kernel)) ggX1_pick_X1_isQuestion
set_option maxRecDepth 20000 in
theorem ggX1_pick_X1_isStringOrFork : GoodIn wsX1_pick wsX1_isStringOrFork := goodIn_r _ [13, 14, 15, 3, 16] (by decide +kernel) (by decide +kernel)
set_option maxRecDepth 20000 in
theorem gX1_pick_X1_isStringOrFork : GoodIn wsX1_pick (va_wsS RX1 41 yX1_isStringOrFork wsX1_isStringOrFork) := goodIn_app (goodIn_of _ (by decide +kernel)) ggX1_pick_X1_isStringOrFork
set_option maxRecDepth 20000 in
theorem ggX1_pick_X1_stands : GoodIn wsX1_pick wsX1_stands := goodIn_r _ [20, 21, 22, 23, 3, 24, 25, 26, 27, 28, 29, 30, 31, 32, 33, 34, 35, 36, 37] (by decide +kernel) (by decide +kernel)
set_option maxRecDepth 20000 in
theorem gX1_pick_X1_stands : GoodIn wsX1_pick (wsV RX1 59 RX1 yX1_stands wsX1_stands) := goodIn_app (goodIn_of _ (by decide +kernel)) ggX1_pick_X1_stands
theorem dX1_pick_0 : decode cX1_pick 0 = .ok (.iload_n 1, 1) := by decide +kernel
theorem dX1_pick_1 : decode cX1_pick 1 = .ok (.iload_n 2, 1) := by decide +kernel
theorem dX1_pick_2 : decode cX1_pick 2 = .ok (.invokestatic 56, 3) := by decide +kernel
theorem dX1_pick_5 : decode cX1_pick 5 = .ok (.ifCond .eq 18, 3) := by decide +kernel
theorem dX1_pick_8 : decode cX1_pick 8 = .ok (.iload_n 3, 1) := by decide +kernel
theorem dX1_pick_9 : decode cX1_pick 9 = .ok (.invokestatic 41, 3) := by decide +kernel
theorem dX1_pick_12 : decode cX1_pick 12 = .ok (.ifCond .eq 11, 3) := by decide +kernel
theorem dX1_pick_15 : decode cX1_pick 15 = .ok (.iload 4, 2) := by decide +kernel
theorem dX1_pick_17 : decode cX1_pick 17 = .ok (.invokestatic 41, 3) := by decide +kernel
theorem dX1_pick_20 : decode cX1_pick 20 = .ok (.ifCond .ne 5, 3) := by decide +kernel
theorem dX1_pick_23 : decode cX1_pick 23 = .ok (.iconst (-1), 1) := by decide +kernel
theorem dX1_pick_24 : decode cX1_pick 24 = .ok (.ireturn, 1) := by decide +kernel
theorem dX1_pick_25 : decode cX1_pick 25 = .ok (.aload_n 0, 1) := by decide +kernel
theorem dX1_pick_26 : decode cX1_pick 26 = .ok (.iload_n 1, 1) := by decide +kernel
theorem dX1_pick_27 : decode cX1_pick 27 = .ok (.iload_n 2, 1) := by decide +kernel
theorem dX1_pick_28 : decode cX1_pick 28 = .ok (.iload_n 3, 1) := by decide +kernel
theorem dX1_pick_29 : decode cX1_pick 29 = .ok (.iload 4, 2) := by decide +kernel
theorem dX1_pick_31 : decode cX1_pick 31 = .ok (.invokevirtual 59, 3) := by decide +kernel
theorem dX1_pick_34 : decode cX1_pick 34 = .ok (.ifCond .eq 7, 3) := by decide +kernel
theorem dX1_pick_37 : decode cX1_pick 37 = .ok (.iload_n 3, 1) := by decide +kernel
theorem dX1_pick_38 : decode cX1_pick 38 = .ok (.goto 5, 3) := by decide +kernel
theorem dX1_pick_41 : decode cX1_pick 41 = .ok (.iload 4, 2) := by decide +kernel
theorem dX1_pick_43 : decode cX1_pick 43 = .ok (.ireturn, 1) := by decide +kernel
set_option maxRecDepth 20000 in
theorem ggX1_climb_X1_isQuestion : GoodIn wsX1_climb wsX1_isQuestion := goodIn_r _ [4, 5, 6, 3, 7, 8, 9, 10] (by decide +kernel) (by decide +kernel)
set_option maxRecDepth 20000 in
theorem gX1_climb_X1_isQuestion : GoodIn wsX1_climb (va_wsS RX1 56 yX1_isQuestion wsX1_isQuestion) := goodIn_app (goodIn_of _ (by decide +kernel)) ggX1_climb_X1_isQuestion
set_option maxRecDepth 20000 in
theorem ggX1_climb_X1_isString : GoodIn wsX1_climb wsX1_isString := goodIn_r _ [13] (by decide +kernel) (by decide +kernel)
set_option maxRecDepth 20000 in
theorem gX1_climb_X1_isString : GoodIn wsX1_climb (va_wsS RX1 63 yX1_isString wsX1_isString) := goodIn_app (goodIn_of _ (by decide +kernel)) ggX1_climb_X1_isString
set_option maxRecDepth 20000 in
theorem ggX1_climb_X1_stands : GoodIn wsX1_climb wsX1_stands := goodIn_r _ [17, 18, 19, 20, 3, 21, 22, 23, 24, 25, 26, 27, 28, 29, 30, 31, 32, 33, 34] (by decide +kernel) (by decide +kernel)
set_option maxRecDepth 20000 in
theorem gX1_climb_X1_stands : GoodIn wsX1_climb (wsV RX1 59 RX1 yX1_stands wsX1_stands) := goodIn_app (goodIn_of _ (by decide +kernel)) ggX1_climb_X1_stands
theorem dX1_climb_0 : decode cX1_climb 0 = .ok (.iload_n 1, 1) := by decide +kernel
theorem dX1_climb_1 : decode cX1_climb 1 = .ok (.iload_n 2, 1) := by decide +kernel
theorem dX1_climb_2 : decode cX1_climb 2 = .ok (.invokestatic 56, 3) := by decide +kernel
theorem dX1_climb_5 : decode cX1_climb 5 = .ok (.ifCond .eq 10, 3) := by decide +kernel
theorem dX1_climb_8 : decode cX1_climb 8 = .ok (.iload_n 3, 1) := by decide +kernel
theorem dX1_climb_9 : decode cX1_climb 9 = .ok (.invokestatic 63, 3) := by decide +kernel
theorem dX1_climb_12 : decode cX1_climb 12 = .ok (.ifCond .ne 5, 3) := by decide +kernel
theorem dX1_climb_15 : decode cX1_climb 15 = .ok (.iconst (-1), 1) := by decide +kernel
theorem dX1_climb_16 : decode cX1_climb 16 = .ok (.ireturn, 1) := by decide +kernel
theorem dX1_climb_17 : decode cX1_climb 17 = .ok (.iload_n 3, 1) := by decide +kernel
theorem dX1_climb_18 : decode cX1_climb 18 = .ok (.istore 4, 2) := by decide +kernel
theorem dX1_climb_20 : decode cX1_climb 20 = .ok (.iload 4, 2) := by decide +kernel
theorem dX1_climb_22 : decode cX1_climb 22 = .ok (.bipush 31, 2) := by decide +kernel
theorem dX1_climb_24 : decode cX1_climb 24 = .ok (.if_icmp .ge 24, 3) := by decide +kernel
theorem dX1_climb_27 : decode cX1_climb 27 = .ok (.aload_n 0, 1) := by decide +kernel
theorem dX1_climb_28 : decode cX1_climb 28 = .ok (.iload_n 1, 1) := by decide +kernel
theorem dX1_climb_29 : decode cX1_climb 29 = .ok (.iload_n 2, 1) := by decide +kernel
theorem dX1_climb_30 : decode cX1_climb 30 = .ok (.iload 4, 2) := by decide +kernel
theorem dX1_climb_32 : decode cX1_climb 32 = .ok (.iload 4, 2) := by decide +kernel
theorem dX1_climb_34 : decode cX1_climb 34 = .ok (.iconst 1, 1) := by decide +kernel
theorem dX1_climb_35 : decode cX1_climb 35 = .ok (.iadd, 1) := by decide +kernel
theorem dX1_climb_36 : decode cX1_climb 36 = .ok (.invokevirtual 59, 3) := by decide +kernel
theorem dX1_climb_39 : decode cX1_climb 39 = .ok (.ifCond .eq 9, 3) := by decide +kernel
theorem dX1_climb_42 : decode cX1_climb 42 = .ok (.iinc 4 1, 3) := by decide +kernel
theorem dX1_climb_45 : decode cX1_climb 45 = .ok (.goto (-25), 3) := by decide +kernel
theorem dX1_climb_48 : decode cX1_climb 48 = .ok (.iload 4, 2) := by decide +kernel
theorem dX1_climb_50 : decode cX1_climb 50 = .ok (.ireturn, 1) := by decide +kernel
set_option maxRecDepth 20000 in
theorem ggX1_first_X1_isQuestion : GoodIn wsX1_first wsX1_isQuestion := goodIn_r _ [4, 5, 6, 3, 7, 8, 9, 10] (by decide +kernel) (by decide +kernel)
set_option maxRecDepth 20000 in
theorem gX1_first_X1_isQuestion : GoodIn wsX1_first (va_wsS RX1 56 yX1_isQuestion wsX1_isQuestion) := goodIn_app (goodIn_of _ (by decide +kernel)) ggX1_first_X1_isQuestion
set_option maxRecDepth 20000 in
theorem ggX1_first_X1_isString : GoodIn wsX1_first wsX1_isString := goodIn_r _ [13] (by decide +kernel) (by decide +kernel)
set_option maxRecDepth 20000 in
theorem gX1_first_X1_isString : GoodIn wsX1_first (va_wsS RX1 63 yX1_isString wsX1_isString) := goodIn_app (goodIn_of _ (by decide +kernel)) ggX1_first_X1_isString
set_option maxRecDepth 20000 in
theorem ggX1_first_X1_stands : GoodIn wsX1_first wsX1_stands := goodIn_r _ [17, 18, 19, 20, 3, 21, 22, 23, 24, 25, 26, 27, 28, 29, 30, 31, 32, 33, 34] (by decide +kernel) (by decide +kernel)
set_option maxRecDepth 20000 in
theorem gX1_first_X1_stands : GoodIn wsX1_first (wsV RX1 59 RX1 yX1_stands wsX1_stands) := goodIn_app (goodIn_of _ (by decide +kernel)) ggX1_first_X1_stands
theorem dX1_first_0 : decode cX1_first 0 = .ok (.iload_n 1, 1) := by decide +kernel
theorem dX1_first_1 : decode cX1_first 1 = .ok (.iload_n 2, 1) := by decide +kernel
theorem dX1_first_2 : decode cX1_first 2 = .ok (.invokestatic 56, 3) := by decide +kernel
theorem dX1_first_5 : decode cX1_first 5 = .ok (.ifCond .eq 10, 3) := by decide +kernel
theorem dX1_first_8 : decode cX1_first 8 = .ok (.iload_n 3, 1) := by decide +kernel
theorem dX1_first_9 : decode cX1_first 9 = .ok (.invokestatic 63, 3) := by decide +kernel
theorem dX1_first_12 : decode cX1_first 12 = .ok (.ifCond .ne 5, 3) := by decide +kernel
theorem dX1_first_15 : decode cX1_first 15 = .ok (.iconst (-1), 1) := by decide +kernel
theorem dX1_first_16 : decode cX1_first 16 = .ok (.ireturn, 1) := by decide +kernel
theorem dX1_first_17 : decode cX1_first 17 = .ok (.iload_n 3, 1) := by decide +kernel
theorem dX1_first_18 : decode cX1_first 18 = .ok (.istore 5, 2) := by decide +kernel
theorem dX1_first_20 : decode cX1_first 20 = .ok (.iload 5, 2) := by decide +kernel
theorem dX1_first_22 : decode cX1_first 22 = .ok (.bipush 32, 2) := by decide +kernel
theorem dX1_first_24 : decode cX1_first 24 = .ok (.if_icmp .ge 27, 3) := by decide +kernel
theorem dX1_first_27 : decode cX1_first 27 = .ok (.aload_n 0, 1) := by decide +kernel
theorem dX1_first_28 : decode cX1_first 28 = .ok (.iload_n 1, 1) := by decide +kernel
theorem dX1_first_29 : decode cX1_first 29 = .ok (.iload_n 2, 1) := by decide +kernel
theorem dX1_first_30 : decode cX1_first 30 = .ok (.iload 5, 2) := by decide +kernel
theorem dX1_first_32 : decode cX1_first 32 = .ok (.bipush 32, 2) := by decide +kernel
theorem dX1_first_34 : decode cX1_first 34 = .ok (.invokevirtual 59, 3) := by decide +kernel
theorem dX1_first_37 : decode cX1_first 37 = .ok (.iload 4, 2) := by decide +kernel
theorem dX1_first_39 : decode cX1_first 39 = .ok (.if_icmp .eq 6, 3) := by decide +kernel
theorem dX1_first_42 : decode cX1_first 42 = .ok (.iload 5, 2) := by decide +kernel
theorem dX1_first_44 : decode cX1_first 44 = .ok (.ireturn, 1) := by decide +kernel
theorem dX1_first_45 : decode cX1_first 45 = .ok (.iinc 5 1, 3) := by decide +kernel
theorem dX1_first_48 : decode cX1_first 48 = .ok (.goto (-28), 3) := by decide +kernel
theorem dX1_first_51 : decode cX1_first 51 = .ok (.iconst (-1), 1) := by decide +kernel
theorem dX1_first_52 : decode cX1_first 52 = .ok (.ireturn, 1) := by decide +kernel
set_option maxRecDepth 20000 in
theorem ggX1_best_X1_isQuestion : GoodIn wsX1_best wsX1_isQuestion := goodIn_r _ [4, 5, 6, 3, 7, 8, 9, 10] (by decide +kernel) (by decide +kernel)
set_option maxRecDepth 20000 in
theorem gX1_best_X1_isQuestion : GoodIn wsX1_best (va_wsS RX1 56 yX1_isQuestion wsX1_isQuestion) := goodIn_app (goodIn_of _ (by decide +kernel)) ggX1_best_X1_isQuestion
set_option maxRecDepth 20000 in
theorem ggX1_best_X1_stands : GoodIn wsX1_best wsX1_stands := goodIn_r _ [14, 15, 16, 17, 3, 18, 19, 20, 21, 22, 23, 24, 25, 26, 27, 28, 29, 30, 31] (by decide +kernel) (by decide +kernel)
set_option maxRecDepth 20000 in
theorem gX1_best_X1_stands : GoodIn wsX1_best (wsV RX1 59 RX1 yX1_stands wsX1_stands) := goodIn_app (goodIn_of _ (by decide +kernel)) ggX1_best_X1_stands
theorem dX1_best_0 : decode cX1_best 0 = .ok (.iload_n 1, 1) := by decide +kernel
theorem dX1_best_1 : decode cX1_best 1 = .ok (.iload_n 2, 1) := by decide +kernel
theorem dX1_best_2 : decode cX1_best 2 = .ok (.invokestatic 56, 3) := by decide +kernel
theorem dX1_best_5 : decode cX1_best 5 = .ok (.ifCond .ne 5, 3) := by decide +kernel
theorem dX1_best_8 : decode cX1_best 8 = .ok (.iconst (-1), 1) := by decide +kernel
theorem dX1_best_9 : decode cX1_best 9 = .ok (.ireturn, 1) := by decide +kernel
theorem dX1_best_10 : decode cX1_best 10 = .ok (.iconst 0, 1) := by decide +kernel
theorem dX1_best_11 : decode cX1_best 11 = .ok (.istore 4, 2) := by decide +kernel
theorem dX1_best_13 : decode cX1_best 13 = .ok (.iconst 1, 1) := by decide +kernel
theorem dX1_best_14 : decode cX1_best 14 = .ok (.istore 5, 2) := by decide +kernel
theorem dX1_best_16 : decode cX1_best 16 = .ok (.iload 5, 2) := by decide +kernel
theorem dX1_best_18 : decode cX1_best 18 = .ok (.bipush 32, 2) := by decide +kernel
theorem dX1_best_20 : decode cX1_best 20 = .ok (.if_icmp .ge 27, 3) := by decide +kernel
theorem dX1_best_23 : decode cX1_best 23 = .ok (.aload_n 0, 1) := by decide +kernel
theorem dX1_best_24 : decode cX1_best 24 = .ok (.iload_n 1, 1) := by decide +kernel
theorem dX1_best_25 : decode cX1_best 25 = .ok (.iload_n 2, 1) := by decide +kernel
theorem dX1_best_26 : decode cX1_best 26 = .ok (.iload 5, 2) := by decide +kernel
theorem dX1_best_28 : decode cX1_best 28 = .ok (.iload 4, 2) := by decide +kernel
theorem dX1_best_30 : decode cX1_best 30 = .ok (.invokevirtual 59, 3) := by decide +kernel
theorem dX1_best_33 : decode cX1_best 33 = .ok (.iload_n 3, 1) := by decide +kernel
theorem dX1_best_34 : decode cX1_best 34 = .ok (.if_icmp .eq 7, 3) := by decide +kernel
theorem dX1_best_37 : decode cX1_best 37 = .ok (.iload 5, 2) := by decide +kernel
theorem dX1_best_39 : decode cX1_best 39 = .ok (.istore 4, 2) := by decide +kernel
theorem dX1_best_41 : decode cX1_best 41 = .ok (.iinc 5 1, 3) := by decide +kernel
theorem dX1_best_44 : decode cX1_best 44 = .ok (.goto (-28), 3) := by decide +kernel
theorem dX1_best_47 : decode cX1_best 47 = .ok (.iload 4, 2) := by decide +kernel
theorem dX1_best_49 : decode cX1_best 49 = .ok (.ireturn, 1) := by decide +kernel
set_option maxRecDepth 20000 in
theorem ggX1_pass_X1_isQuestion : GoodIn wsX1_pass wsX1_isQuestion := goodIn_r _ [5, 6, 7, 4, 8, 9, 10, 11] (by decide +kernel) (by decide +kernel)
set_option maxRecDepth 20000 in
theorem gX1_pass_X1_isQuestion : GoodIn wsX1_pass (va_wsS RX1 56 yX1_isQuestion wsX1_isQuestion) := goodIn_app (goodIn_of _ (by decide +kernel)) ggX1_pass_X1_isQuestion
set_option maxRecDepth 20000 in
theorem ggX1_pass_X1_isString : GoodIn wsX1_pass wsX1_isString := goodIn_r _ [14] (by decide +kernel) (by decide +kernel)
set_option maxRecDepth 20000 in
theorem gX1_pass_X1_isString : GoodIn wsX1_pass (va_wsS RX1 63 yX1_isString wsX1_isString) := goodIn_app (goodIn_of _ (by decide +kernel)) ggX1_pass_X1_isString
set_option maxRecDepth 20000 in
theorem ggX1_pass_X1_stands : GoodIn wsX1_pass wsX1_stands := goodIn_r _ [18, 19, 20, 21, 4, 22, 23, 24, 25, 26, 27, 28, 29, 30, 35, 36, 37, 38, 39] (by decide +kernel) (by decide +kernel)
set_option maxRecDepth 20000 in
theorem gX1_pass_X1_stands : GoodIn wsX1_pass (wsV RX1 59 RX1 yX1_stands wsX1_stands) := goodIn_app (goodIn_of _ (by decide +kernel)) ggX1_pass_X1_stands
set_option maxRecDepth 20000 in
theorem ggX1_pass_X1_changeWithNext : GoodIn wsX1_pass wsX1_changeWithNext := goodIn_r _ [34, 19, 35, 36, 37, 38, 39] (by decide +kernel) (by decide +kernel)
set_option maxRecDepth 20000 in
theorem gX1_pass_X1_changeWithNext : GoodIn wsX1_pass (wsV RX1 66 RX1 yX1_changeWithNext wsX1_changeWithNext) := goodIn_app (goodIn_of _ (by decide +kernel)) ggX1_pass_X1_changeWithNext
theorem dX1_pass_0 : decode cX1_pass 0 = .ok (.iload_n 1, 1) := by decide +kernel
theorem dX1_pass_1 : decode cX1_pass 1 = .ok (.iload_n 2, 1) := by decide +kernel
theorem dX1_pass_2 : decode cX1_pass 2 = .ok (.invokestatic 56, 3) := by decide +kernel
theorem dX1_pass_5 : decode cX1_pass 5 = .ok (.ifCond .eq 24, 3) := by decide +kernel
theorem dX1_pass_8 : decode cX1_pass 8 = .ok (.iload_n 3, 1) := by decide +kernel
theorem dX1_pass_9 : decode cX1_pass 9 = .ok (.invokestatic 63, 3) := by decide +kernel
theorem dX1_pass_12 : decode cX1_pass 12 = .ok (.ifCond .eq 17, 3) := by decide +kernel
theorem dX1_pass_15 : decode cX1_pass 15 = .ok (.iload 4, 2) := by decide +kernel
theorem dX1_pass_17 : decode cX1_pass 17 = .ok (.invokestatic 63, 3) := by decide +kernel
theorem dX1_pass_20 : decode cX1_pass 20 = .ok (.ifCond .eq 9, 3) := by decide +kernel
theorem dX1_pass_23 : decode cX1_pass 23 = .ok (.iload_n 3, 1) := by decide +kernel
theorem dX1_pass_24 : decode cX1_pass 24 = .ok (.iload 4, 2) := by decide +kernel
theorem dX1_pass_26 : decode cX1_pass 26 = .ok (.if_icmp .le 5, 3) := by decide +kernel
theorem dX1_pass_29 : decode cX1_pass 29 = .ok (.iconst (-1), 1) := by decide +kernel
theorem dX1_pass_30 : decode cX1_pass 30 = .ok (.ireturn, 1) := by decide +kernel
theorem dX1_pass_31 : decode cX1_pass 31 = .ok (.iconst 0, 1) := by decide +kernel
theorem dX1_pass_32 : decode cX1_pass 32 = .ok (.istore 5, 2) := by decide +kernel
theorem dX1_pass_34 : decode cX1_pass 34 = .ok (.iload_n 3, 1) := by decide +kernel
theorem dX1_pass_35 : decode cX1_pass 35 = .ok (.istore 6, 2) := by decide +kernel
theorem dX1_pass_37 : decode cX1_pass 37 = .ok (.iload 6, 2) := by decide +kernel
theorem dX1_pass_39 : decode cX1_pass 39 = .ok (.iload 4, 2) := by decide +kernel
theorem dX1_pass_41 : decode cX1_pass 41 = .ok (.if_icmp .ge 34, 3) := by decide +kernel
theorem dX1_pass_44 : decode cX1_pass 44 = .ok (.aload_n 0, 1) := by decide +kernel
theorem dX1_pass_45 : decode cX1_pass 45 = .ok (.iload_n 1, 1) := by decide +kernel
theorem dX1_pass_46 : decode cX1_pass 46 = .ok (.iload_n 2, 1) := by decide +kernel
theorem dX1_pass_47 : decode cX1_pass 47 = .ok (.iload 6, 2) := by decide +kernel
theorem dX1_pass_49 : decode cX1_pass 49 = .ok (.iload 6, 2) := by decide +kernel
theorem dX1_pass_51 : decode cX1_pass 51 = .ok (.iconst 1, 1) := by decide +kernel
theorem dX1_pass_52 : decode cX1_pass 52 = .ok (.iadd, 1) := by decide +kernel
theorem dX1_pass_53 : decode cX1_pass 53 = .ok (.invokevirtual 59, 3) := by decide +kernel
theorem dX1_pass_56 : decode cX1_pass 56 = .ok (.ifCond .ne 13, 3) := by decide +kernel
theorem dX1_pass_59 : decode cX1_pass 59 = .ok (.aload_n 0, 1) := by decide +kernel
theorem dX1_pass_60 : decode cX1_pass 60 = .ok (.iload_n 1, 1) := by decide +kernel
theorem dX1_pass_61 : decode cX1_pass 61 = .ok (.iload 6, 2) := by decide +kernel
theorem dX1_pass_63 : decode cX1_pass 63 = .ok (.invokevirtual 66, 3) := by decide +kernel
theorem dX1_pass_66 : decode cX1_pass 66 = .ok (.iinc 5 1, 3) := by decide +kernel
theorem dX1_pass_69 : decode cX1_pass 69 = .ok (.iinc 6 1, 3) := by decide +kernel
theorem dX1_pass_72 : decode cX1_pass 72 = .ok (.goto (-35), 3) := by decide +kernel
theorem dX1_pass_75 : decode cX1_pass 75 = .ok (.aload_n 0, 1) := by decide +kernel
theorem dX1_pass_76 : decode cX1_pass 76 = .ok (.dup, 1) := by decide +kernel
theorem dX1_pass_77 : decode cX1_pass 77 = .ok (.getfield 27, 3) := by decide +kernel
theorem dX1_pass_80 : decode cX1_pass 80 = .ok (.iload 5, 2) := by decide +kernel
theorem dX1_pass_82 : decode cX1_pass 82 = .ok (.iadd, 1) := by decide +kernel
theorem dX1_pass_83 : decode cX1_pass 83 = .ok (.putfield 27, 3) := by decide +kernel
theorem dX1_pass_86 : decode cX1_pass 86 = .ok (.iload 5, 2) := by decide +kernel
theorem dX1_pass_88 : decode cX1_pass 88 = .ok (.ireturn, 1) := by decide +kernel
set_option maxRecDepth 20000 in
theorem ggX1_within_X1_isWhat : GoodIn wsX1_within wsX1_isWhat := goodIn_r _ [4] (by decide +kernel) (by decide +kernel)
set_option maxRecDepth 20000 in
theorem gX1_within_X1_isWhat : GoodIn wsX1_within (va_wsS RX1 37 yX1_isWhat wsX1_isWhat) := goodIn_app (goodIn_of _ (by decide +kernel)) ggX1_within_X1_isWhat
set_option maxRecDepth 20000 in
theorem ggX1_within_X1_isString : GoodIn wsX1_within wsX1_isString := goodIn_r _ [7] (by decide +kernel) (by decide +kernel)
set_option maxRecDepth 20000 in
theorem gX1_within_X1_isString : GoodIn wsX1_within (va_wsS RX1 63 yX1_isString wsX1_isString) := goodIn_app (goodIn_of _ (by decide +kernel)) ggX1_within_X1_isString
set_option maxRecDepth 20000 in
theorem ggX1_within_X1_isStringOrFork : GoodIn wsX1_within wsX1_isStringOrFork := goodIn_r _ [10, 5, 6, 3, 7] (by decide +kernel) (by decide +kernel)
set_option maxRecDepth 20000 in
theorem gX1_within_X1_isStringOrFork : GoodIn wsX1_within (va_wsS RX1 41 yX1_isStringOrFork wsX1_isStringOrFork) := goodIn_app (goodIn_of _ (by decide +kernel)) ggX1_within_X1_isStringOrFork
set_option maxRecDepth 20000 in
theorem ggX1_within_X1_stands : GoodIn wsX1_within wsX1_stands := goodIn_r _ [14, 15, 16, 17, 3, 18, 19, 20, 21, 22, 23, 24, 25, 26, 27, 28, 29, 30, 31] (by decide +kernel) (by decide +kernel)
set_option maxRecDepth 20000 in
theorem gX1_within_X1_stands : GoodIn wsX1_within (wsV RX1 59 RX1 yX1_stands wsX1_stands) := goodIn_app (goodIn_of _ (by decide +kernel)) ggX1_within_X1_stands
theorem dX1_within_0 : decode cX1_within 0 = .ok (.iload_n 1, 1) := by decide +kernel
theorem dX1_within_1 : decode cX1_within 1 = .ok (.invokestatic 37, 3) := by decide +kernel
theorem dX1_within_4 : decode cX1_within 4 = .ok (.ifCond .eq 25, 3) := by decide +kernel
theorem dX1_within_7 : decode cX1_within 7 = .ok (.iload_n 2, 1) := by decide +kernel
theorem dX1_within_8 : decode cX1_within 8 = .ok (.invokestatic 63, 3) := by decide +kernel
theorem dX1_within_11 : decode cX1_within 11 = .ok (.ifCond .eq 18, 3) := by decide +kernel
theorem dX1_within_14 : decode cX1_within 14 = .ok (.iload_n 3, 1) := by decide +kernel
theorem dX1_within_15 : decode cX1_within 15 = .ok (.invokestatic 41, 3) := by decide +kernel
theorem dX1_within_18 : decode cX1_within 18 = .ok (.ifCond .eq 11, 3) := by decide +kernel
theorem dX1_within_21 : decode cX1_within 21 = .ok (.iload 4, 2) := by decide +kernel
theorem dX1_within_23 : decode cX1_within 23 = .ok (.invokestatic 41, 3) := by decide +kernel
theorem dX1_within_26 : decode cX1_within 26 = .ok (.ifCond .ne 5, 3) := by decide +kernel
theorem dX1_within_29 : decode cX1_within 29 = .ok (.iconst (-1), 1) := by decide +kernel
theorem dX1_within_30 : decode cX1_within 30 = .ok (.ireturn, 1) := by decide +kernel
theorem dX1_within_31 : decode cX1_within 31 = .ok (.iconst 0, 1) := by decide +kernel
theorem dX1_within_32 : decode cX1_within 32 = .ok (.istore 5, 2) := by decide +kernel
theorem dX1_within_34 : decode cX1_within 34 = .ok (.aload_n 0, 1) := by decide +kernel
theorem dX1_within_35 : decode cX1_within 35 = .ok (.iload_n 1, 1) := by decide +kernel
theorem dX1_within_36 : decode cX1_within 36 = .ok (.iconst 3, 1) := by decide +kernel
theorem dX1_within_37 : decode cX1_within 37 = .ok (.iload_n 2, 1) := by decide +kernel
theorem dX1_within_38 : decode cX1_within 38 = .ok (.iload_n 3, 1) := by decide +kernel
theorem dX1_within_39 : decode cX1_within 39 = .ok (.invokevirtual 59, 3) := by decide +kernel
theorem dX1_within_42 : decode cX1_within 42 = .ok (.ifCond .eq 18, 3) := by decide +kernel
theorem dX1_within_45 : decode cX1_within 45 = .ok (.aload_n 0, 1) := by decide +kernel
theorem dX1_within_46 : decode cX1_within 46 = .ok (.iload_n 1, 1) := by decide +kernel
theorem dX1_within_47 : decode cX1_within 47 = .ok (.iconst 1, 1) := by decide +kernel
theorem dX1_within_48 : decode cX1_within 48 = .ok (.iload_n 2, 1) := by decide +kernel
theorem dX1_within_49 : decode cX1_within 49 = .ok (.iload 4, 2) := by decide +kernel
theorem dX1_within_51 : decode cX1_within 51 = .ok (.invokevirtual 59, 3) := by decide +kernel
theorem dX1_within_54 : decode cX1_within 54 = .ok (.ifCond .eq 6, 3) := by decide +kernel
theorem dX1_within_57 : decode cX1_within 57 = .ok (.iinc 5 1, 3) := by decide +kernel
theorem dX1_within_60 : decode cX1_within 60 = .ok (.aload_n 0, 1) := by decide +kernel
theorem dX1_within_61 : decode cX1_within 61 = .ok (.iload_n 1, 1) := by decide +kernel
theorem dX1_within_62 : decode cX1_within 62 = .ok (.iconst 0, 1) := by decide +kernel
theorem dX1_within_63 : decode cX1_within 63 = .ok (.iload_n 2, 1) := by decide +kernel
theorem dX1_within_64 : decode cX1_within 64 = .ok (.iload_n 3, 1) := by decide +kernel
theorem dX1_within_65 : decode cX1_within 65 = .ok (.invokevirtual 59, 3) := by decide +kernel
theorem dX1_within_68 : decode cX1_within 68 = .ok (.ifCond .ne 18, 3) := by decide +kernel
theorem dX1_within_71 : decode cX1_within 71 = .ok (.aload_n 0, 1) := by decide +kernel
theorem dX1_within_72 : decode cX1_within 72 = .ok (.iload_n 1, 1) := by decide +kernel
theorem dX1_within_73 : decode cX1_within 73 = .ok (.iconst 2, 1) := by decide +kernel
theorem dX1_within_74 : decode cX1_within 74 = .ok (.iload_n 2, 1) := by decide +kernel
theorem dX1_within_75 : decode cX1_within 75 = .ok (.iload 4, 2) := by decide +kernel
theorem dX1_within_77 : decode cX1_within 77 = .ok (.invokevirtual 59, 3) := by decide +kernel
theorem dX1_within_80 : decode cX1_within 80 = .ok (.ifCond .ne 6, 3) := by decide +kernel
theorem dX1_within_83 : decode cX1_within 83 = .ok (.iinc 5 2, 3) := by decide +kernel
theorem dX1_within_86 : decode cX1_within 86 = .ok (.aload_n 0, 1) := by decide +kernel
theorem dX1_within_87 : decode cX1_within 87 = .ok (.iload_n 1, 1) := by decide +kernel
theorem dX1_within_88 : decode cX1_within 88 = .ok (.iconst 0, 1) := by decide +kernel
theorem dX1_within_89 : decode cX1_within 89 = .ok (.iload_n 2, 1) := by decide +kernel
theorem dX1_within_90 : decode cX1_within 90 = .ok (.iload_n 3, 1) := by decide +kernel
theorem dX1_within_91 : decode cX1_within 91 = .ok (.invokevirtual 59, 3) := by decide +kernel
theorem dX1_within_94 : decode cX1_within 94 = .ok (.ifCond .ne 15, 3) := by decide +kernel
theorem dX1_within_97 : decode cX1_within 97 = .ok (.aload_n 0, 1) := by decide +kernel
theorem dX1_within_98 : decode cX1_within 98 = .ok (.iload_n 1, 1) := by decide +kernel
theorem dX1_within_99 : decode cX1_within 99 = .ok (.iconst 2, 1) := by decide +kernel
theorem dX1_within_100 : decode cX1_within 100 = .ok (.iload_n 2, 1) := by decide +kernel
theorem dX1_within_101 : decode cX1_within 101 = .ok (.iload 4, 2) := by decide +kernel
theorem dX1_within_103 : decode cX1_within 103 = .ok (.invokevirtual 59, 3) := by decide +kernel
theorem dX1_within_106 : decode cX1_within 106 = .ok (.ifCond .eq 6, 3) := by decide +kernel
theorem dX1_within_109 : decode cX1_within 109 = .ok (.iinc 5 4, 3) := by decide +kernel
theorem dX1_within_112 : decode cX1_within 112 = .ok (.aload_n 0, 1) := by decide +kernel
theorem dX1_within_113 : decode cX1_within 113 = .ok (.iload_n 1, 1) := by decide +kernel
theorem dX1_within_114 : decode cX1_within 114 = .ok (.iconst 5, 1) := by decide +kernel
theorem dX1_within_115 : decode cX1_within 115 = .ok (.iload_n 2, 1) := by decide +kernel
theorem dX1_within_116 : decode cX1_within 116 = .ok (.iload_n 2, 1) := by decide +kernel
theorem dX1_within_117 : decode cX1_within 117 = .ok (.invokevirtual 59, 3) := by decide +kernel
theorem dX1_within_120 : decode cX1_within 120 = .ok (.ifCond .eq 6, 3) := by decide +kernel
theorem dX1_within_123 : decode cX1_within 123 = .ok (.iinc 5 8, 3) := by decide +kernel
theorem dX1_within_126 : decode cX1_within 126 = .ok (.iload 5, 2) := by decide +kernel
theorem dX1_within_128 : decode cX1_within 128 = .ok (.ireturn, 1) := by decide +kernel
set_option maxRecDepth 20000 in
theorem ggX1_guard_X1_isGuard : GoodIn wsX1_guard wsX1_isGuard := goodIn_r _ [9] (by decide +kernel) (by decide +kernel)
set_option maxRecDepth 20000 in
theorem gX1_guard_X1_isGuard : GoodIn wsX1_guard (va_wsS RX1 70 yX1_isGuard wsX1_isGuard) := goodIn_app (goodIn_of _ (by decide +kernel)) ggX1_guard_X1_isGuard
set_option maxRecDepth 20000 in
theorem ggX1_guard_X1_isQuestion : GoodIn wsX1_guard wsX1_isQuestion := goodIn_r _ [12, 13, 14, 8, 15, 16, 17, 18] (by decide +kernel) (by decide +kernel)
set_option maxRecDepth 20000 in
theorem gX1_guard_X1_isQuestion : GoodIn wsX1_guard (va_wsS RX1 56 yX1_isQuestion wsX1_isQuestion) := goodIn_app (goodIn_of _ (by decide +kernel)) ggX1_guard_X1_isQuestion
set_option maxRecDepth 20000 in
theorem ggX1_guard_X1_isString : GoodIn wsX1_guard wsX1_isString := goodIn_r _ [21] (by decide +kernel) (by decide +kernel)
set_option maxRecDepth 20000 in
theorem gX1_guard_X1_isString : GoodIn wsX1_guard (va_wsS RX1 63 yX1_isString wsX1_isString) := goodIn_app (goodIn_of _ (by decide +kernel)) ggX1_guard_X1_isString
set_option maxRecDepth 20000 in
theorem ggX1_guard_X1_isMode : GoodIn wsX1_guard wsX1_isMode := goodIn_r _ [24] (by decide +kernel) (by decide +kernel)
set_option maxRecDepth 20000 in
theorem gX1_guard_X1_isMode : GoodIn wsX1_guard (va_wsS RX1 73 yX1_isMode wsX1_isMode) := goodIn_app (goodIn_of _ (by decide +kernel)) ggX1_guard_X1_isMode
set_option maxRecDepth 20000 in
theorem ggX1_guard_X0_init : GoodIn wsX1_guard wsX0_init := goodIn_r _ [26, 27, 28, 29, 30, 31, 32, 33, 34, 35, 41, 42, 43, 44, 45, 46] (by decide +kernel) (by decide +kernel)
set_option maxRecDepth 20000 in
theorem gX1_guard_X0_init_n76 : GoodIn wsX1_guard (wsX0_init) := ggX1_guard_X0_init
theorem dX1_guard_0 : decode cX1_guard 0 = .ok (.iload_n 1, 1) := by decide +kernel
theorem dX1_guard_1 : decode cX1_guard 1 = .ok (.invokestatic 70, 3) := by decide +kernel
theorem dX1_guard_4 : decode cX1_guard 4 = .ok (.ifCond .eq 27, 3) := by decide +kernel
theorem dX1_guard_7 : decode cX1_guard 7 = .ok (.iload_n 2, 1) := by decide +kernel
theorem dX1_guard_8 : decode cX1_guard 8 = .ok (.iload_n 3, 1) := by decide +kernel
theorem dX1_guard_9 : decode cX1_guard 9 = .ok (.invokestatic 56, 3) := by decide +kernel
theorem dX1_guard_12 : decode cX1_guard 12 = .ok (.ifCond .eq 19, 3) := by decide +kernel
theorem dX1_guard_15 : decode cX1_guard 15 = .ok (.iload 4, 2) := by decide +kernel
theorem dX1_guard_17 : decode cX1_guard 17 = .ok (.invokestatic 63, 3) := by decide +kernel
theorem dX1_guard_20 : decode cX1_guard 20 = .ok (.ifCond .eq 11, 3) := by decide +kernel
theorem dX1_guard_23 : decode cX1_guard 23 = .ok (.iload 5, 2) := by decide +kernel
theorem dX1_guard_25 : decode cX1_guard 25 = .ok (.invokestatic 73, 3) := by decide +kernel
theorem dX1_guard_28 : decode cX1_guard 28 = .ok (.ifCond .ne 5, 3) := by decide +kernel
theorem dX1_guard_31 : decode cX1_guard 31 = .ok (.iconst 0, 1) := by decide +kernel
theorem dX1_guard_32 : decode cX1_guard 32 = .ok (.ireturn, 1) := by decide +kernel
theorem dX1_guard_33 : decode cX1_guard 33 = .ok (.aload_n 0, 1) := by decide +kernel
theorem dX1_guard_34 : decode cX1_guard 34 = .ok (.getfield 16, 3) := by decide +kernel
theorem dX1_guard_37 : decode cX1_guard 37 = .ok (.iload_n 1, 1) := by decide +kernel
theorem dX1_guard_38 : decode cX1_guard 38 = .ok (.new 14, 3) := by decide +kernel
theorem dX1_guard_41 : decode cX1_guard 41 = .ok (.dup, 1) := by decide +kernel
theorem dX1_guard_42 : decode cX1_guard 42 = .ok (.iload_n 2, 1) := by decide +kernel
theorem dX1_guard_43 : decode cX1_guard 43 = .ok (.iload_n 3, 1) := by decide +kernel
theorem dX1_guard_44 : decode cX1_guard 44 = .ok (.aload_n 0, 1) := by decide +kernel
theorem dX1_guard_45 : decode cX1_guard 45 = .ok (.getfield 11, 3) := by decide +kernel
theorem dX1_guard_48 : decode cX1_guard 48 = .ok (.iload_n 2, 1) := by decide +kernel
theorem dX1_guard_49 : decode cX1_guard 49 = .ok (.aaload, 1) := by decide +kernel
theorem dX1_guard_50 : decode cX1_guard 50 = .ok (.iload 4, 2) := by decide +kernel
theorem dX1_guard_52 : decode cX1_guard 52 = .ok (.iaload, 1) := by decide +kernel
theorem dX1_guard_53 : decode cX1_guard 53 = .ok (.iload 5, 2) := by decide +kernel
theorem dX1_guard_55 : decode cX1_guard 55 = .ok (.invokespecial 76, 3) := by decide +kernel
theorem dX1_guard_58 : decode cX1_guard 58 = .ok (.aastore, 1) := by decide +kernel
theorem dX1_guard_59 : decode cX1_guard 59 = .ok (.iconst 1, 1) := by decide +kernel
theorem dX1_guard_60 : decode cX1_guard 60 = .ok (.ireturn, 1) := by decide +kernel
set_option maxRecDepth 20000 in
theorem ggX1_look_X1_ringsNow : GoodIn wsX1_look wsX1_ringsNow := goodIn_r _ [6, 7, 8, 9, 5, 10, 11, 12, 13, 14, 15, 16, 17, 18, 19, 20, 21, 27, 28, 29, 30, 31, 32, 22, 23, 24, 25, 26] (by decide +kernel) (by decide +kernel)
set_option maxRecDepth 20000 in
theorem gX1_look_X1_ringsNow : GoodIn wsX1_look (wsV RX1 79 RX1 yX1_ringsNow wsX1_ringsNow) := goodIn_app (goodIn_of _ (by decide +kernel)) ggX1_look_X1_ringsNow
theorem dX1_look_0 : decode cX1_look 0 = .ok (.iconst 0, 1) := by decide +kernel
theorem dX1_look_1 : decode cX1_look 1 = .ok (.istore_n 1, 1) := by decide +kernel
theorem dX1_look_2 : decode cX1_look 2 = .ok (.iconst 0, 1) := by decide +kernel
theorem dX1_look_3 : decode cX1_look 3 = .ok (.istore_n 2, 1) := by decide +kernel
theorem dX1_look_4 : decode cX1_look 4 = .ok (.iload_n 2, 1) := by decide +kernel
theorem dX1_look_5 : decode cX1_look 5 = .ok (.bipush 8, 2) := by decide +kernel
theorem dX1_look_7 : decode cX1_look 7 = .ok (.if_icmp .ge 34, 3) := by decide +kernel
theorem dX1_look_10 : decode cX1_look 10 = .ok (.aload_n 0, 1) := by decide +kernel
theorem dX1_look_11 : decode cX1_look 11 = .ok (.getfield 16, 3) := by decide +kernel
theorem dX1_look_14 : decode cX1_look 14 = .ok (.iload_n 2, 1) := by decide +kernel
theorem dX1_look_15 : decode cX1_look 15 = .ok (.aaload, 1) := by decide +kernel
theorem dX1_look_16 : decode cX1_look 16 = .ok (.astore_n 3, 1) := by decide +kernel
theorem dX1_look_17 : decode cX1_look 17 = .ok (.aload_n 3, 1) := by decide +kernel
theorem dX1_look_18 : decode cX1_look 18 = .ok (.ifnull 17, 3) := by decide +kernel
theorem dX1_look_21 : decode cX1_look 21 = .ok (.aload_n 0, 1) := by decide +kernel
theorem dX1_look_22 : decode cX1_look 22 = .ok (.aload_n 3, 1) := by decide +kernel
theorem dX1_look_23 : decode cX1_look 23 = .ok (.invokevirtual 79, 3) := by decide +kernel
theorem dX1_look_26 : decode cX1_look 26 = .ok (.ifCond .eq 9, 3) := by decide +kernel
theorem dX1_look_29 : decode cX1_look 29 = .ok (.iload_n 1, 1) := by decide +kernel
theorem dX1_look_30 : decode cX1_look 30 = .ok (.iconst 1, 1) := by decide +kernel
theorem dX1_look_31 : decode cX1_look 31 = .ok (.iload_n 2, 1) := by decide +kernel
theorem dX1_look_32 : decode cX1_look 32 = .ok (.ishl, 1) := by decide +kernel
theorem dX1_look_33 : decode cX1_look 33 = .ok (.iadd, 1) := by decide +kernel
theorem dX1_look_34 : decode cX1_look 34 = .ok (.istore_n 1, 1) := by decide +kernel
theorem dX1_look_35 : decode cX1_look 35 = .ok (.iinc 2 1, 3) := by decide +kernel
theorem dX1_look_38 : decode cX1_look 38 = .ok (.goto (-34), 3) := by decide +kernel
theorem dX1_look_41 : decode cX1_look 41 = .ok (.iload_n 1, 1) := by decide +kernel
theorem dX1_look_42 : decode cX1_look 42 = .ok (.ireturn, 1) := by decide +kernel
set_option maxRecDepth 20000 in
theorem ggX1_rings_X1_isGuard : GoodIn wsX1_rings wsX1_isGuard := goodIn_r _ [5] (by decide +kernel) (by decide +kernel)
set_option maxRecDepth 20000 in
theorem gX1_rings_X1_isGuard : GoodIn wsX1_rings (va_wsS RX1 70 yX1_isGuard wsX1_isGuard) := goodIn_app (goodIn_of _ (by decide +kernel)) ggX1_rings_X1_isGuard
theorem dX1_rings_0 : decode cX1_rings 0 = .ok (.iload_n 1, 1) := by decide +kernel
theorem dX1_rings_1 : decode cX1_rings 1 = .ok (.invokestatic 70, 3) := by decide +kernel
theorem dX1_rings_4 : decode cX1_rings 4 = .ok (.ifCond .ne 5, 3) := by decide +kernel
theorem dX1_rings_7 : decode cX1_rings 7 = .ok (.iconst (-1), 1) := by decide +kernel
theorem dX1_rings_8 : decode cX1_rings 8 = .ok (.ireturn, 1) := by decide +kernel
theorem dX1_rings_9 : decode cX1_rings 9 = .ok (.aload_n 0, 1) := by decide +kernel
theorem dX1_rings_10 : decode cX1_rings 10 = .ok (.getfield 16, 3) := by decide +kernel
theorem dX1_rings_13 : decode cX1_rings 13 = .ok (.iload_n 1, 1) := by decide +kernel
theorem dX1_rings_14 : decode cX1_rings 14 = .ok (.aaload, 1) := by decide +kernel
theorem dX1_rings_15 : decode cX1_rings 15 = .ok (.astore_n 2, 1) := by decide +kernel
theorem dX1_rings_16 : decode cX1_rings 16 = .ok (.aload_n 2, 1) := by decide +kernel
theorem dX1_rings_17 : decode cX1_rings 17 = .ok (.ifnonnull 7, 3) := by decide +kernel
theorem dX1_rings_20 : decode cX1_rings 20 = .ok (.iconst (-1), 1) := by decide +kernel
theorem dX1_rings_21 : decode cX1_rings 21 = .ok (.goto 7, 3) := by decide +kernel
theorem dX1_rings_24 : decode cX1_rings 24 = .ok (.aload_n 2, 1) := by decide +kernel
theorem dX1_rings_25 : decode cX1_rings 25 = .ok (.getfield 83, 3) := by decide +kernel
theorem dX1_rings_28 : decode cX1_rings 28 = .ok (.ireturn, 1) := by decide +kernel
set_option maxRecDepth 20000 in
theorem ggX1_strike_X1_isString : GoodIn wsX1_strike wsX1_isString := goodIn_r _ [5] (by decide +kernel) (by decide +kernel)
set_option maxRecDepth 20000 in
theorem gX1_strike_X1_isString : GoodIn wsX1_strike (va_wsS RX1 63 yX1_isString wsX1_isString) := goodIn_app (goodIn_of _ (by decide +kernel)) ggX1_strike_X1_isString
theorem dX1_strike_0 : decode cX1_strike 0 = .ok (.iload_n 1, 1) := by decide +kernel
theorem dX1_strike_1 : decode cX1_strike 1 = .ok (.invokestatic 63, 3) := by decide +kernel
theorem dX1_strike_4 : decode cX1_strike 4 = .ok (.ifCond .ne 5, 3) := by decide +kernel
theorem dX1_strike_7 : decode cX1_strike 7 = .ok (.iconst 0, 1) := by decide +kernel
theorem dX1_strike_8 : decode cX1_strike 8 = .ok (.ireturn, 1) := by decide +kernel
theorem dX1_strike_9 : decode cX1_strike 9 = .ok (.iconst 0, 1) := by decide +kernel
theorem dX1_strike_10 : decode cX1_strike 10 = .ok (.istore_n 2, 1) := by decide +kernel
theorem dX1_strike_11 : decode cX1_strike 11 = .ok (.iload_n 2, 1) := by decide +kernel
theorem dX1_strike_12 : decode cX1_strike 12 = .ok (.iconst 2, 1) := by decide +kernel
theorem dX1_strike_13 : decode cX1_strike 13 = .ok (.if_icmp .ge 26, 3) := by decide +kernel
theorem dX1_strike_16 : decode cX1_strike 16 = .ok (.aload_n 0, 1) := by decide +kernel
theorem dX1_strike_17 : decode cX1_strike 17 = .ok (.getfield 11, 3) := by decide +kernel
theorem dX1_strike_20 : decode cX1_strike 20 = .ok (.iload_n 2, 1) := by decide +kernel
theorem dX1_strike_21 : decode cX1_strike 21 = .ok (.aaload, 1) := by decide +kernel
theorem dX1_strike_22 : decode cX1_strike 22 = .ok (.bipush 32, 2) := by decide +kernel
theorem dX1_strike_24 : decode cX1_strike 24 = .ok (.aload_n 0, 1) := by decide +kernel
theorem dX1_strike_25 : decode cX1_strike 25 = .ok (.getfield 11, 3) := by decide +kernel
theorem dX1_strike_28 : decode cX1_strike 28 = .ok (.iload_n 2, 1) := by decide +kernel
theorem dX1_strike_29 : decode cX1_strike 29 = .ok (.aaload, 1) := by decide +kernel
theorem dX1_strike_30 : decode cX1_strike 30 = .ok (.iload_n 1, 1) := by decide +kernel
end
section
theorem dX1_strike_31 : decode cX1_strike 31 = .ok (.iaload, 1) := by decide +kernel
theorem dX1_strike_32 : decode cX1_strike 32 = .ok (.iastore, 1) := by decide +kernel
theorem dX1_strike_33 : decode cX1_strike 33 = .ok (.iinc 2 1, 3) := by decide +kernel
theorem dX1_strike_36 : decode cX1_strike 36 = .ok (.goto (-25), 3) := by decide +kernel
theorem dX1_strike_39 : decode cX1_strike 39 = .ok (.iconst 1, 1) := by decide +kernel
theorem dX1_strike_40 : decode cX1_strike 40 = .ok (.ireturn, 1) := by decide +kernel
set_option maxRecDepth 20000 in
theorem ggX1_count_X1_guardsSet : GoodIn wsX1_count wsX1_guardsSet := goodIn_r _ [8, 9, 10, 11, 12, 13, 14] (by decide +kernel) (by decide +kernel)
set_option maxRecDepth 20000 in
theorem gX1_count_X1_guardsSet : GoodIn wsX1_count (wsV RX1 86 RX1 yX1_guardsSet wsX1_guardsSet) := goodIn_app (goodIn_of _ (by decide +kernel)) ggX1_count_X1_guardsSet
theorem dX1_count_0 : decode cX1_count 0 = .ok (.iload_n 1, 1) := by decide +kernel
theorem dX1_count_1 : decode cX1_count 1 = .ok (.tableswitch 51 0 3 #[31, 36, 41, 46], 31) := by decide +kernel
theorem dX1_count_32 : decode cX1_count 32 = .ok (.aload_n 0, 1) := by decide +kernel
theorem dX1_count_33 : decode cX1_count 33 = .ok (.getfield 20, 3) := by decide +kernel
theorem dX1_count_36 : decode cX1_count 36 = .ok (.ireturn, 1) := by decide +kernel
theorem dX1_count_37 : decode cX1_count 37 = .ok (.aload_n 0, 1) := by decide +kernel
theorem dX1_count_38 : decode cX1_count 38 = .ok (.getfield 24, 3) := by decide +kernel
theorem dX1_count_41 : decode cX1_count 41 = .ok (.ireturn, 1) := by decide +kernel
theorem dX1_count_42 : decode cX1_count 42 = .ok (.aload_n 0, 1) := by decide +kernel
theorem dX1_count_43 : decode cX1_count 43 = .ok (.invokevirtual 86, 3) := by decide +kernel
theorem dX1_count_46 : decode cX1_count 46 = .ok (.ireturn, 1) := by decide +kernel
theorem dX1_count_47 : decode cX1_count 47 = .ok (.aload_n 0, 1) := by decide +kernel
theorem dX1_count_48 : decode cX1_count 48 = .ok (.getfield 27, 3) := by decide +kernel
theorem dX1_count_51 : decode cX1_count 51 = .ok (.ireturn, 1) := by decide +kernel
theorem dX1_count_52 : decode cX1_count 52 = .ok (.iconst (-1), 1) := by decide +kernel
theorem dX1_count_53 : decode cX1_count 53 = .ok (.ireturn, 1) := by decide +kernel
theorem dX1_isWhat_0 : decode cX1_isWhat 0 = .ok (.iload_n 0, 1) := by decide +kernel
theorem dX1_isWhat_1 : decode cX1_isWhat 1 = .ok (.ifCond .lt 12, 3) := by decide +kernel
theorem dX1_isWhat_4 : decode cX1_isWhat 4 = .ok (.iload_n 0, 1) := by decide +kernel
theorem dX1_isWhat_5 : decode cX1_isWhat 5 = .ok (.iconst 2, 1) := by decide +kernel
theorem dX1_isWhat_6 : decode cX1_isWhat 6 = .ok (.if_icmp .ge 7, 3) := by decide +kernel
theorem dX1_isWhat_9 : decode cX1_isWhat 9 = .ok (.iconst 1, 1) := by decide +kernel
theorem dX1_isWhat_10 : decode cX1_isWhat 10 = .ok (.goto 4, 3) := by decide +kernel
theorem dX1_isWhat_13 : decode cX1_isWhat 13 = .ok (.iconst 0, 1) := by decide +kernel
theorem dX1_isWhat_14 : decode cX1_isWhat 14 = .ok (.ireturn, 1) := by decide +kernel
theorem dX1_isHow_0 : decode cX1_isHow 0 = .ok (.iload_n 0, 1) := by decide +kernel
theorem dX1_isHow_1 : decode cX1_isHow 1 = .ok (.ifCond .lt 12, 3) := by decide +kernel
theorem dX1_isHow_4 : decode cX1_isHow 4 = .ok (.iload_n 0, 1) := by decide +kernel
theorem dX1_isHow_5 : decode cX1_isHow 5 = .ok (.iconst 5, 1) := by decide +kernel
theorem dX1_isHow_6 : decode cX1_isHow 6 = .ok (.if_icmp .gt 7, 3) := by decide +kernel
theorem dX1_isHow_9 : decode cX1_isHow 9 = .ok (.iconst 1, 1) := by decide +kernel
theorem dX1_isHow_10 : decode cX1_isHow 10 = .ok (.goto 4, 3) := by decide +kernel
theorem dX1_isHow_13 : decode cX1_isHow 13 = .ok (.iconst 0, 1) := by decide +kernel
theorem dX1_isHow_14 : decode cX1_isHow 14 = .ok (.ireturn, 1) := by decide +kernel
set_option maxRecDepth 20000 in
theorem ggX1_isQuestion_X1_isWhat : GoodIn wsX1_isQuestion wsX1_isWhat := goodIn_r _ [4] (by decide +kernel) (by decide +kernel)
set_option maxRecDepth 20000 in
theorem gX1_isQuestion_X1_isWhat : GoodIn wsX1_isQuestion (va_wsS RX1 37 yX1_isWhat wsX1_isWhat) := goodIn_app (goodIn_of _ (by decide +kernel)) ggX1_isQuestion_X1_isWhat
set_option maxRecDepth 20000 in
theorem ggX1_isQuestion_X1_isHow : GoodIn wsX1_isQuestion wsX1_isHow := goodIn_r _ [7] (by decide +kernel) (by decide +kernel)
set_option maxRecDepth 20000 in
theorem gX1_isQuestion_X1_isHow : GoodIn wsX1_isQuestion (va_wsS RX1 90 yX1_isHow wsX1_isHow) := goodIn_app (goodIn_of _ (by decide +kernel)) ggX1_isQuestion_X1_isHow
theorem dX1_isQuestion_0 : decode cX1_isQuestion 0 = .ok (.iload_n 0, 1) := by decide +kernel
theorem dX1_isQuestion_1 : decode cX1_isQuestion 1 = .ok (.invokestatic 37, 3) := by decide +kernel
theorem dX1_isQuestion_4 : decode cX1_isQuestion 4 = .ok (.ifCond .eq 14, 3) := by decide +kernel
theorem dX1_isQuestion_7 : decode cX1_isQuestion 7 = .ok (.iload_n 1, 1) := by decide +kernel
theorem dX1_isQuestion_8 : decode cX1_isQuestion 8 = .ok (.invokestatic 90, 3) := by decide +kernel
theorem dX1_isQuestion_11 : decode cX1_isQuestion 11 = .ok (.ifCond .eq 7, 3) := by decide +kernel
theorem dX1_isQuestion_14 : decode cX1_isQuestion 14 = .ok (.iconst 1, 1) := by decide +kernel
theorem dX1_isQuestion_15 : decode cX1_isQuestion 15 = .ok (.goto 4, 3) := by decide +kernel
theorem dX1_isQuestion_18 : decode cX1_isQuestion 18 = .ok (.iconst 0, 1) := by decide +kernel
theorem dX1_isQuestion_19 : decode cX1_isQuestion 19 = .ok (.ireturn, 1) := by decide +kernel
theorem dX1_isString_0 : decode cX1_isString 0 = .ok (.iload_n 0, 1) := by decide +kernel
theorem dX1_isString_1 : decode cX1_isString 1 = .ok (.ifCond .lt 13, 3) := by decide +kernel
theorem dX1_isString_4 : decode cX1_isString 4 = .ok (.iload_n 0, 1) := by decide +kernel
theorem dX1_isString_5 : decode cX1_isString 5 = .ok (.bipush 32, 2) := by decide +kernel
theorem dX1_isString_7 : decode cX1_isString 7 = .ok (.if_icmp .ge 7, 3) := by decide +kernel
theorem dX1_isString_10 : decode cX1_isString 10 = .ok (.iconst 1, 1) := by decide +kernel
theorem dX1_isString_11 : decode cX1_isString 11 = .ok (.goto 4, 3) := by decide +kernel
theorem dX1_isString_14 : decode cX1_isString 14 = .ok (.iconst 0, 1) := by decide +kernel
theorem dX1_isString_15 : decode cX1_isString 15 = .ok (.ireturn, 1) := by decide +kernel
set_option maxRecDepth 20000 in
theorem ggX1_isStringOrFork_X1_isString : GoodIn wsX1_isStringOrFork wsX1_isString := goodIn_r _ [4] (by decide +kernel) (by decide +kernel)
set_option maxRecDepth 20000 in
theorem gX1_isStringOrFork_X1_isString : GoodIn wsX1_isStringOrFork (va_wsS RX1 63 yX1_isString wsX1_isString) := goodIn_app (goodIn_of _ (by decide +kernel)) ggX1_isStringOrFork_X1_isString
theorem dX1_isStringOrFork_0 : decode cX1_isStringOrFork 0 = .ok (.iload_n 0, 1) := by decide +kernel
theorem dX1_isStringOrFork_1 : decode cX1_isStringOrFork 1 = .ok (.invokestatic 63, 3) := by decide +kernel
theorem dX1_isStringOrFork_4 : decode cX1_isStringOrFork 4 = .ok (.ifCond .ne 9, 3) := by decide +kernel
theorem dX1_isStringOrFork_7 : decode cX1_isStringOrFork 7 = .ok (.iload_n 0, 1) := by decide +kernel
theorem dX1_isStringOrFork_8 : decode cX1_isStringOrFork 8 = .ok (.bipush 32, 2) := by decide +kernel
theorem dX1_isStringOrFork_10 : decode cX1_isStringOrFork 10 = .ok (.if_icmp .ne 7, 3) := by decide +kernel
theorem dX1_isStringOrFork_13 : decode cX1_isStringOrFork 13 = .ok (.iconst 1, 1) := by decide +kernel
theorem dX1_isStringOrFork_14 : decode cX1_isStringOrFork 14 = .ok (.goto 4, 3) := by decide +kernel
theorem dX1_isStringOrFork_17 : decode cX1_isStringOrFork 17 = .ok (.iconst 0, 1) := by decide +kernel
theorem dX1_isStringOrFork_18 : decode cX1_isStringOrFork 18 = .ok (.ireturn, 1) := by decide +kernel
theorem dX1_isGuard_0 : decode cX1_isGuard 0 = .ok (.iload_n 0, 1) := by decide +kernel
theorem dX1_isGuard_1 : decode cX1_isGuard 1 = .ok (.ifCond .lt 13, 3) := by decide +kernel
theorem dX1_isGuard_4 : decode cX1_isGuard 4 = .ok (.iload_n 0, 1) := by decide +kernel
theorem dX1_isGuard_5 : decode cX1_isGuard 5 = .ok (.bipush 8, 2) := by decide +kernel
theorem dX1_isGuard_7 : decode cX1_isGuard 7 = .ok (.if_icmp .ge 7, 3) := by decide +kernel
theorem dX1_isGuard_10 : decode cX1_isGuard 10 = .ok (.iconst 1, 1) := by decide +kernel
theorem dX1_isGuard_11 : decode cX1_isGuard 11 = .ok (.goto 4, 3) := by decide +kernel
theorem dX1_isGuard_14 : decode cX1_isGuard 14 = .ok (.iconst 0, 1) := by decide +kernel
theorem dX1_isGuard_15 : decode cX1_isGuard 15 = .ok (.ireturn, 1) := by decide +kernel
theorem dX1_isMode_0 : decode cX1_isMode 0 = .ok (.iload_n 0, 1) := by decide +kernel
theorem dX1_isMode_1 : decode cX1_isMode 1 = .ok (.ifCond .lt 12, 3) := by decide +kernel
theorem dX1_isMode_4 : decode cX1_isMode 4 = .ok (.iload_n 0, 1) := by decide +kernel
theorem dX1_isMode_5 : decode cX1_isMode 5 = .ok (.iconst 2, 1) := by decide +kernel
theorem dX1_isMode_6 : decode cX1_isMode 6 = .ok (.if_icmp .gt 7, 3) := by decide +kernel
theorem dX1_isMode_9 : decode cX1_isMode 9 = .ok (.iconst 1, 1) := by decide +kernel
theorem dX1_isMode_10 : decode cX1_isMode 10 = .ok (.goto 4, 3) := by decide +kernel
theorem dX1_isMode_13 : decode cX1_isMode 13 = .ok (.iconst 0, 1) := by decide +kernel
theorem dX1_isMode_14 : decode cX1_isMode 14 = .ok (.ireturn, 1) := by decide +kernel
theorem dX1_isValue_0 : decode cX1_isValue 0 = .ok (.iload_n 0, 1) := by decide +kernel
theorem dX1_isValue_1 : decode cX1_isValue 1 = .ok (.ifCond .ne 21, 3) := by decide +kernel
theorem dX1_isValue_4 : decode cX1_isValue 4 = .ok (.iload_n 1, 1) := by decide +kernel
theorem dX1_isValue_5 : decode cX1_isValue 5 = .ok (.ldc 93, 2) := by decide +kernel
theorem dX1_isValue_7 : decode cX1_isValue 7 = .ok (.if_icmp .lt 13, 3) := by decide +kernel
theorem dX1_isValue_10 : decode cX1_isValue 10 = .ok (.iload_n 1, 1) := by decide +kernel
theorem dX1_isValue_11 : decode cX1_isValue 11 = .ok (.ldc 94, 2) := by decide +kernel
theorem dX1_isValue_13 : decode cX1_isValue 13 = .ok (.if_icmp .gt 7, 3) := by decide +kernel
theorem dX1_isValue_16 : decode cX1_isValue 16 = .ok (.iconst 1, 1) := by decide +kernel
theorem dX1_isValue_17 : decode cX1_isValue 17 = .ok (.goto 4, 3) := by decide +kernel
theorem dX1_isValue_20 : decode cX1_isValue 20 = .ok (.iconst 0, 1) := by decide +kernel
theorem dX1_isValue_21 : decode cX1_isValue 21 = .ok (.ireturn, 1) := by decide +kernel
theorem dX1_isValue_22 : decode cX1_isValue 22 = .ok (.iload_n 0, 1) := by decide +kernel
theorem dX1_isValue_23 : decode cX1_isValue 23 = .ok (.iconst 1, 1) := by decide +kernel
theorem dX1_isValue_24 : decode cX1_isValue 24 = .ok (.if_icmp .lt 12, 3) := by decide +kernel
theorem dX1_isValue_27 : decode cX1_isValue 27 = .ok (.iload_n 0, 1) := by decide +kernel
theorem dX1_isValue_28 : decode cX1_isValue 28 = .ok (.iconst 4, 1) := by decide +kernel
theorem dX1_isValue_29 : decode cX1_isValue 29 = .ok (.if_icmp .gt 7, 3) := by decide +kernel
theorem dX1_isValue_32 : decode cX1_isValue 32 = .ok (.iconst 1, 1) := by decide +kernel
theorem dX1_isValue_33 : decode cX1_isValue 33 = .ok (.goto 4, 3) := by decide +kernel
theorem dX1_isValue_36 : decode cX1_isValue 36 = .ok (.iconst 0, 1) := by decide +kernel
theorem dX1_isValue_37 : decode cX1_isValue 37 = .ok (.ireturn, 1) := by decide +kernel
theorem dX1_valueOf_0 : decode cX1_valueOf 0 = .ok (.iload_n 0, 1) := by decide +kernel
theorem dX1_valueOf_1 : decode cX1_valueOf 1 = .ok (.tableswitch 46 0 4 #[35, 46, 37, 40, 43], 35) := by decide +kernel
theorem dX1_valueOf_36 : decode cX1_valueOf 36 = .ok (.iload_n 1, 1) := by decide +kernel
theorem dX1_valueOf_37 : decode cX1_valueOf 37 = .ok (.ireturn, 1) := by decide +kernel
theorem dX1_valueOf_38 : decode cX1_valueOf 38 = .ok (.ldc 95, 2) := by decide +kernel
theorem dX1_valueOf_40 : decode cX1_valueOf 40 = .ok (.ireturn, 1) := by decide +kernel
theorem dX1_valueOf_41 : decode cX1_valueOf 41 = .ok (.ldc 96, 2) := by decide +kernel
theorem dX1_valueOf_43 : decode cX1_valueOf 43 = .ok (.ireturn, 1) := by decide +kernel
theorem dX1_valueOf_44 : decode cX1_valueOf 44 = .ok (.ldc 97, 2) := by decide +kernel
theorem dX1_valueOf_46 : decode cX1_valueOf 46 = .ok (.ireturn, 1) := by decide +kernel
theorem dX1_valueOf_47 : decode cX1_valueOf 47 = .ok (.ldc 30, 2) := by decide +kernel
theorem dX1_valueOf_49 : decode cX1_valueOf 49 = .ok (.ireturn, 1) := by decide +kernel
theorem dX1_sortOf_0 : decode cX1_sortOf 0 = .ok (.iload_n 0, 1) := by decide +kernel
theorem dX1_sortOf_1 : decode cX1_sortOf 1 = .ok (.lookupswitch 51 #[(-40001, 49), (40001, 47), (40002, 45), (40003, 43)], 43) := by decide +kernel
theorem dX1_sortOf_44 : decode cX1_sortOf 44 = .ok (.iconst 1, 1) := by decide +kernel
theorem dX1_sortOf_45 : decode cX1_sortOf 45 = .ok (.ireturn, 1) := by decide +kernel
theorem dX1_sortOf_46 : decode cX1_sortOf 46 = .ok (.iconst 2, 1) := by decide +kernel
theorem dX1_sortOf_47 : decode cX1_sortOf 47 = .ok (.ireturn, 1) := by decide +kernel
theorem dX1_sortOf_48 : decode cX1_sortOf 48 = .ok (.iconst 3, 1) := by decide +kernel
theorem dX1_sortOf_49 : decode cX1_sortOf 49 = .ok (.ireturn, 1) := by decide +kernel
theorem dX1_sortOf_50 : decode cX1_sortOf 50 = .ok (.iconst 4, 1) := by decide +kernel
theorem dX1_sortOf_51 : decode cX1_sortOf 51 = .ok (.ireturn, 1) := by decide +kernel
theorem dX1_sortOf_52 : decode cX1_sortOf 52 = .ok (.iconst 0, 1) := by decide +kernel
theorem dX1_sortOf_53 : decode cX1_sortOf 53 = .ok (.ireturn, 1) := by decide +kernel
theorem dX1_sizeOf_0 : decode cX1_sizeOf 0 = .ok (.iload_n 0, 1) := by decide +kernel
theorem dX1_sizeOf_1 : decode cX1_sizeOf 1 = .ok (.ldc 95, 2) := by decide +kernel
theorem dX1_sizeOf_3 : decode cX1_sizeOf 3 = .ok (.if_icmp .ne 7, 3) := by decide +kernel
theorem dX1_sizeOf_6 : decode cX1_sizeOf 6 = .ok (.iconst 0, 1) := by decide +kernel
theorem dX1_sizeOf_7 : decode cX1_sizeOf 7 = .ok (.goto 4, 3) := by decide +kernel
theorem dX1_sizeOf_10 : decode cX1_sizeOf 10 = .ok (.iload_n 0, 1) := by decide +kernel
theorem dX1_sizeOf_11 : decode cX1_sizeOf 11 = .ok (.ireturn, 1) := by decide +kernel
set_option maxRecDepth 20000 in
theorem ggX1_stands_X1_valueStands : GoodIn wsX1_stands wsX1_valueStands := goodIn_r _ [5, 6, 7, 8, 4, 9, 10, 11, 12, 13] (by decide +kernel) (by decide +kernel)
set_option maxRecDepth 20000 in
theorem gX1_stands_X1_valueStands : GoodIn wsX1_stands (va_wsS RX1 98 yX1_valueStands wsX1_valueStands) := goodIn_app (goodIn_of _ (by decide +kernel)) ggX1_stands_X1_valueStands
theorem dX1_stands_0 : decode cX1_stands 0 = .ok (.iload_n 2, 1) := by decide +kernel
theorem dX1_stands_1 : decode cX1_stands 1 = .ok (.aload_n 0, 1) := by decide +kernel
theorem dX1_stands_2 : decode cX1_stands 2 = .ok (.getfield 11, 3) := by decide +kernel
theorem dX1_stands_5 : decode cX1_stands 5 = .ok (.iload_n 1, 1) := by decide +kernel
theorem dX1_stands_6 : decode cX1_stands 6 = .ok (.aaload, 1) := by decide +kernel
theorem dX1_stands_7 : decode cX1_stands 7 = .ok (.iload_n 3, 1) := by decide +kernel
theorem dX1_stands_8 : decode cX1_stands 8 = .ok (.iaload, 1) := by decide +kernel
theorem dX1_stands_9 : decode cX1_stands 9 = .ok (.aload_n 0, 1) := by decide +kernel
theorem dX1_stands_10 : decode cX1_stands 10 = .ok (.getfield 11, 3) := by decide +kernel
theorem dX1_stands_13 : decode cX1_stands 13 = .ok (.iload_n 1, 1) := by decide +kernel
theorem dX1_stands_14 : decode cX1_stands 14 = .ok (.aaload, 1) := by decide +kernel
theorem dX1_stands_15 : decode cX1_stands 15 = .ok (.iload 4, 2) := by decide +kernel
theorem dX1_stands_17 : decode cX1_stands 17 = .ok (.iaload, 1) := by decide +kernel
theorem dX1_stands_18 : decode cX1_stands 18 = .ok (.invokestatic 98, 3) := by decide +kernel
theorem dX1_stands_21 : decode cX1_stands 21 = .ok (.ireturn, 1) := by decide +kernel
set_option maxRecDepth 20000 in
theorem ggX1_valueStands_X1_sizeOf : GoodIn wsX1_valueStands wsX1_sizeOf := goodIn_r _ [5, 6] (by decide +kernel) (by decide +kernel)
set_option maxRecDepth 20000 in
theorem gX1_valueStands_X1_sizeOf : GoodIn wsX1_valueStands (va_wsS RX1 102 yX1_sizeOf wsX1_sizeOf) := goodIn_app (goodIn_of _ (by decide +kernel)) ggX1_valueStands_X1_sizeOf
set_option maxRecDepth 20000 in
theorem ggX1_valueStands_X1_sizeStands : GoodIn wsX1_valueStands wsX1_sizeStands := goodIn_r _ [9] (by decide +kernel) (by decide +kernel)
set_option maxRecDepth 20000 in
theorem gX1_valueStands_X1_sizeStands : GoodIn wsX1_valueStands (va_wsS RX1 105 yX1_sizeStands wsX1_sizeStands) := goodIn_app (goodIn_of _ (by decide +kernel)) ggX1_valueStands_X1_sizeStands
theorem dX1_valueStands_0 : decode cX1_valueStands 0 = .ok (.iload_n 1, 1) := by decide +kernel
theorem dX1_valueStands_1 : decode cX1_valueStands 1 = .ok (.ldc 30, 2) := by decide +kernel
theorem dX1_valueStands_3 : decode cX1_valueStands 3 = .ok (.if_icmp .eq 9, 3) := by decide +kernel
theorem dX1_valueStands_6 : decode cX1_valueStands 6 = .ok (.iload_n 2, 1) := by decide +kernel
theorem dX1_valueStands_7 : decode cX1_valueStands 7 = .ok (.ldc 30, 2) := by decide +kernel
theorem dX1_valueStands_9 : decode cX1_valueStands 9 = .ok (.if_icmp .ne 14, 3) := by decide +kernel
theorem dX1_valueStands_12 : decode cX1_valueStands 12 = .ok (.iload_n 0, 1) := by decide +kernel
theorem dX1_valueStands_13 : decode cX1_valueStands 13 = .ok (.iconst 5, 1) := by decide +kernel
theorem dX1_valueStands_14 : decode cX1_valueStands 14 = .ok (.if_icmp .ne 7, 3) := by decide +kernel
theorem dX1_valueStands_17 : decode cX1_valueStands 17 = .ok (.iconst 1, 1) := by decide +kernel
theorem dX1_valueStands_18 : decode cX1_valueStands 18 = .ok (.goto 4, 3) := by decide +kernel
theorem dX1_valueStands_21 : decode cX1_valueStands 21 = .ok (.iconst 0, 1) := by decide +kernel
theorem dX1_valueStands_22 : decode cX1_valueStands 22 = .ok (.ireturn, 1) := by decide +kernel
theorem dX1_valueStands_23 : decode cX1_valueStands 23 = .ok (.iload_n 0, 1) := by decide +kernel
theorem dX1_valueStands_24 : decode cX1_valueStands 24 = .ok (.iload_n 1, 1) := by decide +kernel
theorem dX1_valueStands_25 : decode cX1_valueStands 25 = .ok (.invokestatic 102, 3) := by decide +kernel
theorem dX1_valueStands_28 : decode cX1_valueStands 28 = .ok (.iload_n 2, 1) := by decide +kernel
theorem dX1_valueStands_29 : decode cX1_valueStands 29 = .ok (.invokestatic 102, 3) := by decide +kernel
theorem dX1_valueStands_32 : decode cX1_valueStands 32 = .ok (.invokestatic 105, 3) := by decide +kernel
theorem dX1_valueStands_35 : decode cX1_valueStands 35 = .ok (.ireturn, 1) := by decide +kernel
theorem dX1_sizeStands_0 : decode cX1_sizeStands 0 = .ok (.iload_n 0, 1) := by decide +kernel
theorem dX1_sizeStands_1 : decode cX1_sizeStands 1 = .ok (.tableswitch 90 0 4 #[35, 46, 57, 68, 79], 35) := by decide +kernel
theorem dX1_sizeStands_36 : decode cX1_sizeStands 36 = .ok (.iload_n 1, 1) := by decide +kernel
theorem dX1_sizeStands_37 : decode cX1_sizeStands 37 = .ok (.iload_n 2, 1) := by decide +kernel
theorem dX1_sizeStands_38 : decode cX1_sizeStands 38 = .ok (.if_icmp .ge 7, 3) := by decide +kernel
theorem dX1_sizeStands_41 : decode cX1_sizeStands 41 = .ok (.iconst 1, 1) := by decide +kernel
theorem dX1_sizeStands_42 : decode cX1_sizeStands 42 = .ok (.goto 4, 3) := by decide +kernel
theorem dX1_sizeStands_45 : decode cX1_sizeStands 45 = .ok (.iconst 0, 1) := by decide +kernel
theorem dX1_sizeStands_46 : decode cX1_sizeStands 46 = .ok (.ireturn, 1) := by decide +kernel
theorem dX1_sizeStands_47 : decode cX1_sizeStands 47 = .ok (.iload_n 1, 1) := by decide +kernel
theorem dX1_sizeStands_48 : decode cX1_sizeStands 48 = .ok (.iload_n 2, 1) := by decide +kernel
theorem dX1_sizeStands_49 : decode cX1_sizeStands 49 = .ok (.if_icmp .gt 7, 3) := by decide +kernel
theorem dX1_sizeStands_52 : decode cX1_sizeStands 52 = .ok (.iconst 1, 1) := by decide +kernel
theorem dX1_sizeStands_53 : decode cX1_sizeStands 53 = .ok (.goto 4, 3) := by decide +kernel
theorem dX1_sizeStands_56 : decode cX1_sizeStands 56 = .ok (.iconst 0, 1) := by decide +kernel
theorem dX1_sizeStands_57 : decode cX1_sizeStands 57 = .ok (.ireturn, 1) := by decide +kernel
theorem dX1_sizeStands_58 : decode cX1_sizeStands 58 = .ok (.iload_n 1, 1) := by decide +kernel
theorem dX1_sizeStands_59 : decode cX1_sizeStands 59 = .ok (.iload_n 2, 1) := by decide +kernel
theorem dX1_sizeStands_60 : decode cX1_sizeStands 60 = .ok (.if_icmp .le 7, 3) := by decide +kernel
theorem dX1_sizeStands_63 : decode cX1_sizeStands 63 = .ok (.iconst 1, 1) := by decide +kernel
theorem dX1_sizeStands_64 : decode cX1_sizeStands 64 = .ok (.goto 4, 3) := by decide +kernel
theorem dX1_sizeStands_67 : decode cX1_sizeStands 67 = .ok (.iconst 0, 1) := by decide +kernel
theorem dX1_sizeStands_68 : decode cX1_sizeStands 68 = .ok (.ireturn, 1) := by decide +kernel
theorem dX1_sizeStands_69 : decode cX1_sizeStands 69 = .ok (.iload_n 1, 1) := by decide +kernel
theorem dX1_sizeStands_70 : decode cX1_sizeStands 70 = .ok (.iload_n 2, 1) := by decide +kernel
theorem dX1_sizeStands_71 : decode cX1_sizeStands 71 = .ok (.if_icmp .lt 7, 3) := by decide +kernel
theorem dX1_sizeStands_74 : decode cX1_sizeStands 74 = .ok (.iconst 1, 1) := by decide +kernel
theorem dX1_sizeStands_75 : decode cX1_sizeStands 75 = .ok (.goto 4, 3) := by decide +kernel
theorem dX1_sizeStands_78 : decode cX1_sizeStands 78 = .ok (.iconst 0, 1) := by decide +kernel
theorem dX1_sizeStands_79 : decode cX1_sizeStands 79 = .ok (.ireturn, 1) := by decide +kernel
theorem dX1_sizeStands_80 : decode cX1_sizeStands 80 = .ok (.iload_n 1, 1) := by decide +kernel
theorem dX1_sizeStands_81 : decode cX1_sizeStands 81 = .ok (.iload_n 2, 1) := by decide +kernel
theorem dX1_sizeStands_82 : decode cX1_sizeStands 82 = .ok (.if_icmp .ne 7, 3) := by decide +kernel
theorem dX1_sizeStands_85 : decode cX1_sizeStands 85 = .ok (.iconst 1, 1) := by decide +kernel
theorem dX1_sizeStands_86 : decode cX1_sizeStands 86 = .ok (.goto 4, 3) := by decide +kernel
theorem dX1_sizeStands_89 : decode cX1_sizeStands 89 = .ok (.iconst 0, 1) := by decide +kernel
theorem dX1_sizeStands_90 : decode cX1_sizeStands 90 = .ok (.ireturn, 1) := by decide +kernel
theorem dX1_sizeStands_91 : decode cX1_sizeStands 91 = .ok (.iload_n 1, 1) := by decide +kernel
theorem dX1_sizeStands_92 : decode cX1_sizeStands 92 = .ok (.iload_n 2, 1) := by decide +kernel
theorem dX1_sizeStands_93 : decode cX1_sizeStands 93 = .ok (.if_icmp .eq 7, 3) := by decide +kernel
theorem dX1_sizeStands_96 : decode cX1_sizeStands 96 = .ok (.iconst 1, 1) := by decide +kernel
theorem dX1_sizeStands_97 : decode cX1_sizeStands 97 = .ok (.goto 4, 3) := by decide +kernel
theorem dX1_sizeStands_100 : decode cX1_sizeStands 100 = .ok (.iconst 0, 1) := by decide +kernel
theorem dX1_sizeStands_101 : decode cX1_sizeStands 101 = .ok (.ireturn, 1) := by decide +kernel
theorem dX1_changeWithNext_0 : decode cX1_changeWithNext 0 = .ok (.aload_n 0, 1) := by decide +kernel
theorem dX1_changeWithNext_1 : decode cX1_changeWithNext 1 = .ok (.getfield 11, 3) := by decide +kernel
theorem dX1_changeWithNext_4 : decode cX1_changeWithNext 4 = .ok (.iload_n 1, 1) := by decide +kernel
theorem dX1_changeWithNext_5 : decode cX1_changeWithNext 5 = .ok (.aaload, 1) := by decide +kernel
theorem dX1_changeWithNext_6 : decode cX1_changeWithNext 6 = .ok (.astore_n 3, 1) := by decide +kernel
theorem dX1_changeWithNext_7 : decode cX1_changeWithNext 7 = .ok (.aload_n 3, 1) := by decide +kernel
theorem dX1_changeWithNext_8 : decode cX1_changeWithNext 8 = .ok (.iload_n 2, 1) := by decide +kernel
theorem dX1_changeWithNext_9 : decode cX1_changeWithNext 9 = .ok (.iaload, 1) := by decide +kernel
theorem dX1_changeWithNext_10 : decode cX1_changeWithNext 10 = .ok (.istore 4, 2) := by decide +kernel
theorem dX1_changeWithNext_12 : decode cX1_changeWithNext 12 = .ok (.aload_n 3, 1) := by decide +kernel
theorem dX1_changeWithNext_13 : decode cX1_changeWithNext 13 = .ok (.iload_n 2, 1) := by decide +kernel
theorem dX1_changeWithNext_14 : decode cX1_changeWithNext 14 = .ok (.aload_n 3, 1) := by decide +kernel
theorem dX1_changeWithNext_15 : decode cX1_changeWithNext 15 = .ok (.iload_n 2, 1) := by decide +kernel
theorem dX1_changeWithNext_16 : decode cX1_changeWithNext 16 = .ok (.iconst 1, 1) := by decide +kernel
theorem dX1_changeWithNext_17 : decode cX1_changeWithNext 17 = .ok (.iadd, 1) := by decide +kernel
theorem dX1_changeWithNext_18 : decode cX1_changeWithNext 18 = .ok (.iaload, 1) := by decide +kernel
theorem dX1_changeWithNext_19 : decode cX1_changeWithNext 19 = .ok (.iastore, 1) := by decide +kernel
theorem dX1_changeWithNext_20 : decode cX1_changeWithNext 20 = .ok (.aload_n 3, 1) := by decide +kernel
theorem dX1_changeWithNext_21 : decode cX1_changeWithNext 21 = .ok (.iload_n 2, 1) := by decide +kernel
theorem dX1_changeWithNext_22 : decode cX1_changeWithNext 22 = .ok (.iconst 1, 1) := by decide +kernel
theorem dX1_changeWithNext_23 : decode cX1_changeWithNext 23 = .ok (.iadd, 1) := by decide +kernel
theorem dX1_changeWithNext_24 : decode cX1_changeWithNext 24 = .ok (.iload 4, 2) := by decide +kernel
theorem dX1_changeWithNext_26 : decode cX1_changeWithNext 26 = .ok (.iastore, 1) := by decide +kernel
theorem dX1_changeWithNext_27 : decode cX1_changeWithNext 27 = .ok (.return_, 1) := by decide +kernel
set_option maxRecDepth 20000 in
theorem ggX1_ringsNow_X1_valueStands : GoodIn wsX1_ringsNow wsX1_valueStands := goodIn_r _ [5, 6, 7, 8, 4, 9, 10, 11, 12, 13] (by decide +kernel) (by decide +kernel)
set_option maxRecDepth 20000 in
theorem gX1_ringsNow_X1_valueStands : GoodIn wsX1_ringsNow (va_wsS RX1 98 yX1_valueStands wsX1_valueStands) := goodIn_app (goodIn_of _ (by decide +kernel)) ggX1_ringsNow_X1_valueStands
set_option maxRecDepth 20000 in
theorem ggX1_ringsNow_X1_isRung : GoodIn wsX1_ringsNow wsX1_isRung := goodIn_r _ [16] (by decide +kernel) (by decide +kernel)
set_option maxRecDepth 20000 in
theorem gX1_ringsNow_X1_isRung : GoodIn wsX1_ringsNow (va_wsS RX1 124 yX1_isRung wsX1_isRung) := goodIn_app (goodIn_of _ (by decide +kernel)) ggX1_ringsNow_X1_isRung
theorem dX1_ringsNow_0 : decode cX1_ringsNow 0 = .ok (.aload_n 1, 1) := by decide +kernel
theorem dX1_ringsNow_1 : decode cX1_ringsNow 1 = .ok (.getfield 108, 3) := by decide +kernel
theorem dX1_ringsNow_4 : decode cX1_ringsNow 4 = .ok (.aload_n 0, 1) := by decide +kernel
theorem dX1_ringsNow_5 : decode cX1_ringsNow 5 = .ok (.getfield 11, 3) := by decide +kernel
theorem dX1_ringsNow_8 : decode cX1_ringsNow 8 = .ok (.aload_n 1, 1) := by decide +kernel
theorem dX1_ringsNow_9 : decode cX1_ringsNow 9 = .ok (.getfield 111, 3) := by decide +kernel
theorem dX1_ringsNow_12 : decode cX1_ringsNow 12 = .ok (.aaload, 1) := by decide +kernel
theorem dX1_ringsNow_13 : decode cX1_ringsNow 13 = .ok (.bipush 32, 2) := by decide +kernel
theorem dX1_ringsNow_15 : decode cX1_ringsNow 15 = .ok (.iaload, 1) := by decide +kernel
theorem dX1_ringsNow_16 : decode cX1_ringsNow 16 = .ok (.aload_n 1, 1) := by decide +kernel
theorem dX1_ringsNow_17 : decode cX1_ringsNow 17 = .ok (.getfield 114, 3) := by decide +kernel
theorem dX1_ringsNow_20 : decode cX1_ringsNow 20 = .ok (.invokestatic 98, 3) := by decide +kernel
theorem dX1_ringsNow_23 : decode cX1_ringsNow 23 = .ok (.istore_n 2, 1) := by decide +kernel
theorem dX1_ringsNow_24 : decode cX1_ringsNow 24 = .ok (.aload_n 1, 1) := by decide +kernel
theorem dX1_ringsNow_25 : decode cX1_ringsNow 25 = .ok (.getfield 117, 3) := by decide +kernel
theorem dX1_ringsNow_28 : decode cX1_ringsNow 28 = .ok (.iload_n 2, 1) := by decide +kernel
theorem dX1_ringsNow_29 : decode cX1_ringsNow 29 = .ok (.aload_n 1, 1) := by decide +kernel
theorem dX1_ringsNow_30 : decode cX1_ringsNow 30 = .ok (.getfield 120, 3) := by decide +kernel
theorem dX1_ringsNow_33 : decode cX1_ringsNow 33 = .ok (.invokestatic 124, 3) := by decide +kernel
theorem dX1_ringsNow_36 : decode cX1_ringsNow 36 = .ok (.istore_n 3, 1) := by decide +kernel
theorem dX1_ringsNow_37 : decode cX1_ringsNow 37 = .ok (.aload_n 1, 1) := by decide +kernel
theorem dX1_ringsNow_38 : decode cX1_ringsNow 38 = .ok (.iload_n 2, 1) := by decide +kernel
theorem dX1_ringsNow_39 : decode cX1_ringsNow 39 = .ok (.putfield 120, 3) := by decide +kernel
theorem dX1_ringsNow_42 : decode cX1_ringsNow 42 = .ok (.iload_n 3, 1) := by decide +kernel
theorem dX1_ringsNow_43 : decode cX1_ringsNow 43 = .ok (.ifCond .eq 13, 3) := by decide +kernel
theorem dX1_ringsNow_46 : decode cX1_ringsNow 46 = .ok (.aload_n 1, 1) := by decide +kernel
theorem dX1_ringsNow_47 : decode cX1_ringsNow 47 = .ok (.dup, 1) := by decide +kernel
theorem dX1_ringsNow_48 : decode cX1_ringsNow 48 = .ok (.getfield 83, 3) := by decide +kernel
theorem dX1_ringsNow_51 : decode cX1_ringsNow 51 = .ok (.iconst 1, 1) := by decide +kernel
theorem dX1_ringsNow_52 : decode cX1_ringsNow 52 = .ok (.iadd, 1) := by decide +kernel
theorem dX1_ringsNow_53 : decode cX1_ringsNow 53 = .ok (.putfield 83, 3) := by decide +kernel
theorem dX1_ringsNow_56 : decode cX1_ringsNow 56 = .ok (.iload_n 3, 1) := by decide +kernel
theorem dX1_ringsNow_57 : decode cX1_ringsNow 57 = .ok (.ireturn, 1) := by decide +kernel
theorem dX1_isRung_0 : decode cX1_isRung 0 = .ok (.iload_n 0, 1) := by decide +kernel
theorem dX1_isRung_1 : decode cX1_isRung 1 = .ok (.lookupswitch 39 #[(0, 27), (1, 29)], 27) := by decide +kernel
theorem dX1_isRung_28 : decode cX1_isRung 28 = .ok (.iload_n 1, 1) := by decide +kernel
theorem dX1_isRung_29 : decode cX1_isRung 29 = .ok (.ireturn, 1) := by decide +kernel
theorem dX1_isRung_30 : decode cX1_isRung 30 = .ok (.iload_n 1, 1) := by decide +kernel
theorem dX1_isRung_31 : decode cX1_isRung 31 = .ok (.ifCond .ne 7, 3) := by decide +kernel
theorem dX1_isRung_34 : decode cX1_isRung 34 = .ok (.iconst 1, 1) := by decide +kernel
theorem dX1_isRung_35 : decode cX1_isRung 35 = .ok (.goto 4, 3) := by decide +kernel
theorem dX1_isRung_38 : decode cX1_isRung 38 = .ok (.iconst 0, 1) := by decide +kernel
theorem dX1_isRung_39 : decode cX1_isRung 39 = .ok (.ireturn, 1) := by decide +kernel
theorem dX1_isRung_40 : decode cX1_isRung 40 = .ok (.iload_n 1, 1) := by decide +kernel
theorem dX1_isRung_41 : decode cX1_isRung 41 = .ok (.iload_n 2, 1) := by decide +kernel
theorem dX1_isRung_42 : decode cX1_isRung 42 = .ok (.if_icmp .eq 7, 3) := by decide +kernel
theorem dX1_isRung_45 : decode cX1_isRung 45 = .ok (.iconst 1, 1) := by decide +kernel
theorem dX1_isRung_46 : decode cX1_isRung 46 = .ok (.goto 4, 3) := by decide +kernel
theorem dX1_isRung_49 : decode cX1_isRung 49 = .ok (.iconst 0, 1) := by decide +kernel
theorem dX1_isRung_50 : decode cX1_isRung 50 = .ok (.ireturn, 1) := by decide +kernel
theorem dX1_guardsSet_0 : decode cX1_guardsSet 0 = .ok (.iconst 0, 1) := by decide +kernel
theorem dX1_guardsSet_1 : decode cX1_guardsSet 1 = .ok (.istore_n 1, 1) := by decide +kernel
theorem dX1_guardsSet_2 : decode cX1_guardsSet 2 = .ok (.iconst 0, 1) := by decide +kernel
theorem dX1_guardsSet_3 : decode cX1_guardsSet 3 = .ok (.istore_n 2, 1) := by decide +kernel
theorem dX1_guardsSet_4 : decode cX1_guardsSet 4 = .ok (.iload_n 2, 1) := by decide +kernel
theorem dX1_guardsSet_5 : decode cX1_guardsSet 5 = .ok (.bipush 8, 2) := by decide +kernel
theorem dX1_guardsSet_7 : decode cX1_guardsSet 7 = .ok (.if_icmp .ge 21, 3) := by decide +kernel
theorem dX1_guardsSet_10 : decode cX1_guardsSet 10 = .ok (.aload_n 0, 1) := by decide +kernel
theorem dX1_guardsSet_11 : decode cX1_guardsSet 11 = .ok (.getfield 16, 3) := by decide +kernel
theorem dX1_guardsSet_14 : decode cX1_guardsSet 14 = .ok (.iload_n 2, 1) := by decide +kernel
theorem dX1_guardsSet_15 : decode cX1_guardsSet 15 = .ok (.aaload, 1) := by decide +kernel
theorem dX1_guardsSet_16 : decode cX1_guardsSet 16 = .ok (.ifnull 6, 3) := by decide +kernel
theorem dX1_guardsSet_19 : decode cX1_guardsSet 19 = .ok (.iinc 1 1, 3) := by decide +kernel
theorem dX1_guardsSet_22 : decode cX1_guardsSet 22 = .ok (.iinc 2 1, 3) := by decide +kernel
theorem dX1_guardsSet_25 : decode cX1_guardsSet 25 = .ok (.goto (-21), 3) := by decide +kernel
theorem dX1_guardsSet_28 : decode cX1_guardsSet 28 = .ok (.iload_n 1, 1) := by decide +kernel
theorem dX1_guardsSet_29 : decode cX1_guardsSet 29 = .ok (.ireturn, 1) := by decide +kernel
theorem dX2_init_0 : decode cX2_init 0 = .ok (.aload_n 0, 1) := by decide +kernel
theorem dX2_init_1 : decode cX2_init 1 = .ok (.invokespecial 1, 3) := by decide +kernel
theorem dX2_init_4 : decode cX2_init 4 = .ok (.aload_n 0, 1) := by decide +kernel
theorem dX2_init_5 : decode cX2_init 5 = .ok (.bipush 66, 2) := by decide +kernel
theorem dX2_init_7 : decode cX2_init 7 = .ok (.newarray .int, 2) := by decide +kernel
theorem dX2_init_9 : decode cX2_init 9 = .ok (.putfield 7, 3) := by decide +kernel
theorem dX2_init_12 : decode cX2_init 12 = .ok (.aload_n 0, 1) := by decide +kernel
theorem dX2_init_13 : decode cX2_init 13 = .ok (.bipush 66, 2) := by decide +kernel
theorem dX2_init_15 : decode cX2_init 15 = .ok (.newarray .int, 2) := by decide +kernel
theorem dX2_init_17 : decode cX2_init 17 = .ok (.putfield 13, 3) := by decide +kernel
theorem dX2_init_20 : decode cX2_init 20 = .ok (.aload_n 0, 1) := by decide +kernel
theorem dX2_init_21 : decode cX2_init 21 = .ok (.iconst (-1), 1) := by decide +kernel
theorem dX2_init_22 : decode cX2_init 22 = .ok (.putfield 16, 3) := by decide +kernel
theorem dX2_init_25 : decode cX2_init 25 = .ok (.aload_n 0, 1) := by decide +kernel
theorem dX2_init_26 : decode cX2_init 26 = .ok (.bipush 8, 2) := by decide +kernel
theorem dX2_init_28 : decode cX2_init 28 = .ok (.newarray .boolean, 2) := by decide +kernel
theorem dX2_init_30 : decode cX2_init 30 = .ok (.putfield 20, 3) := by decide +kernel
theorem dX2_init_33 : decode cX2_init 33 = .ok (.aload_n 0, 1) := by decide +kernel
theorem dX2_init_34 : decode cX2_init 34 = .ok (.bipush 8, 2) := by decide +kernel
theorem dX2_init_36 : decode cX2_init 36 = .ok (.newarray .int, 2) := by decide +kernel
theorem dX2_init_38 : decode cX2_init 38 = .ok (.putfield 24, 3) := by decide +kernel
theorem dX2_init_41 : decode cX2_init 41 = .ok (.aload_n 0, 1) := by decide +kernel
theorem dX2_init_42 : decode cX2_init 42 = .ok (.bipush 8, 2) := by decide +kernel
theorem dX2_init_44 : decode cX2_init 44 = .ok (.newarray .int, 2) := by decide +kernel
theorem dX2_init_46 : decode cX2_init 46 = .ok (.putfield 27, 3) := by decide +kernel
theorem dX2_init_49 : decode cX2_init 49 = .ok (.aload_n 0, 1) := by decide +kernel
theorem dX2_init_50 : decode cX2_init 50 = .ok (.bipush 8, 2) := by decide +kernel
theorem dX2_init_52 : decode cX2_init 52 = .ok (.newarray .int, 2) := by decide +kernel
theorem dX2_init_54 : decode cX2_init 54 = .ok (.putfield 30, 3) := by decide +kernel
theorem dX2_init_57 : decode cX2_init 57 = .ok (.aload_n 0, 1) := by decide +kernel
theorem dX2_init_58 : decode cX2_init 58 = .ok (.bipush 8, 2) := by decide +kernel
theorem dX2_init_60 : decode cX2_init 60 = .ok (.newarray .int, 2) := by decide +kernel
theorem dX2_init_62 : decode cX2_init 62 = .ok (.putfield 33, 3) := by decide +kernel
theorem dX2_init_65 : decode cX2_init 65 = .ok (.aload_n 0, 1) := by decide +kernel
theorem dX2_init_66 : decode cX2_init 66 = .ok (.bipush 8, 2) := by decide +kernel
theorem dX2_init_68 : decode cX2_init 68 = .ok (.newarray .int, 2) := by decide +kernel
theorem dX2_init_70 : decode cX2_init 70 = .ok (.putfield 36, 3) := by decide +kernel
theorem dX2_init_73 : decode cX2_init 73 = .ok (.aload_n 0, 1) := by decide +kernel
theorem dX2_init_74 : decode cX2_init 74 = .ok (.bipush 8, 2) := by decide +kernel
theorem dX2_init_76 : decode cX2_init 76 = .ok (.newarray .boolean, 2) := by decide +kernel
theorem dX2_init_78 : decode cX2_init 78 = .ok (.putfield 39, 3) := by decide +kernel
theorem dX2_init_81 : decode cX2_init 81 = .ok (.aload_n 0, 1) := by decide +kernel
theorem dX2_init_82 : decode cX2_init 82 = .ok (.bipush 8, 2) := by decide +kernel
theorem dX2_init_84 : decode cX2_init 84 = .ok (.newarray .int, 2) := by decide +kernel
theorem dX2_init_86 : decode cX2_init 86 = .ok (.putfield 42, 3) := by decide +kernel
theorem dX2_init_89 : decode cX2_init 89 = .ok (.iconst 0, 1) := by decide +kernel
theorem dX2_init_90 : decode cX2_init 90 = .ok (.istore_n 1, 1) := by decide +kernel
theorem dX2_init_91 : decode cX2_init 91 = .ok (.iload_n 1, 1) := by decide +kernel
theorem dX2_init_92 : decode cX2_init 92 = .ok (.aload_n 0, 1) := by decide +kernel
theorem dX2_init_93 : decode cX2_init 93 = .ok (.getfield 7, 3) := by decide +kernel
theorem dX2_init_96 : decode cX2_init 96 = .ok (.arraylength, 1) := by decide +kernel
theorem dX2_init_97 : decode cX2_init 97 = .ok (.if_icmp .ge 16, 3) := by decide +kernel
theorem dX2_init_100 : decode cX2_init 100 = .ok (.aload_n 0, 1) := by decide +kernel
theorem dX2_init_101 : decode cX2_init 101 = .ok (.getfield 7, 3) := by decide +kernel
theorem dX2_init_104 : decode cX2_init 104 = .ok (.iload_n 1, 1) := by decide +kernel
theorem dX2_init_105 : decode cX2_init 105 = .ok (.iconst 1, 1) := by decide +kernel
theorem dX2_init_106 : decode cX2_init 106 = .ok (.iastore, 1) := by decide +kernel
theorem dX2_init_107 : decode cX2_init 107 = .ok (.iinc 1 1, 3) := by decide +kernel
theorem dX2_init_110 : decode cX2_init 110 = .ok (.goto (-19), 3) := by decide +kernel
theorem dX2_init_113 : decode cX2_init 113 = .ok (.return_, 1) := by decide +kernel
theorem dX2_in_0 : decode cX2_in 0 = .ok (.iload_n 0, 1) := by decide +kernel
theorem dX2_in_1 : decode cX2_in 1 = .ok (.iload_n 1, 1) := by decide +kernel
theorem dX2_in_2 : decode cX2_in 2 = .ok (.if_icmp .lt 12, 3) := by decide +kernel
theorem dX2_in_5 : decode cX2_in 5 = .ok (.iload_n 0, 1) := by decide +kernel
theorem dX2_in_6 : decode cX2_in 6 = .ok (.iload_n 2, 1) := by decide +kernel
theorem dX2_in_7 : decode cX2_in 7 = .ok (.if_icmp .gt 7, 3) := by decide +kernel
theorem dX2_in_10 : decode cX2_in 10 = .ok (.iconst 1, 1) := by decide +kernel
theorem dX2_in_11 : decode cX2_in 11 = .ok (.goto 4, 3) := by decide +kernel
theorem dX2_in_14 : decode cX2_in 14 = .ok (.iconst 0, 1) := by decide +kernel
theorem dX2_in_15 : decode cX2_in 15 = .ok (.ireturn, 1) := by decide +kernel
set_option maxRecDepth 20000 in
theorem ggX2_isString_X2_in : GoodIn wsX2_isString wsX2_in := goodIn_r _ [4] (by decide +kernel) (by decide +kernel)
set_option maxRecDepth 20000 in
theorem gX2_isString_X2_in : GoodIn wsX2_isString (va_wsS RX2 45 yX2_in wsX2_in) := goodIn_app (goodIn_of _ (by decide +kernel)) ggX2_isString_X2_in
theorem dX2_isString_0 : decode cX2_isString 0 = .ok (.iload_n 0, 1) := by decide +kernel
theorem dX2_isString_1 : decode cX2_isString 1 = .ok (.iconst 0, 1) := by decide +kernel
theorem dX2_isString_2 : decode cX2_isString 2 = .ok (.bipush 31, 2) := by decide +kernel
theorem dX2_isString_4 : decode cX2_isString 4 = .ok (.invokestatic 45, 3) := by decide +kernel
theorem dX2_isString_7 : decode cX2_isString 7 = .ok (.ireturn, 1) := by decide +kernel
set_option maxRecDepth 20000 in
theorem ggX2_isStringOrFork_X2_in : GoodIn wsX2_isStringOrFork wsX2_in := goodIn_r _ [4] (by decide +kernel) (by decide +kernel)
set_option maxRecDepth 20000 in
theorem gX2_isStringOrFork_X2_in : GoodIn wsX2_isStringOrFork (va_wsS RX2 45 yX2_in wsX2_in) := goodIn_app (goodIn_of _ (by decide +kernel)) ggX2_isStringOrFork_X2_in
theorem dX2_isStringOrFork_0 : decode cX2_isStringOrFork 0 = .ok (.iload_n 0, 1) := by decide +kernel
theorem dX2_isStringOrFork_1 : decode cX2_isStringOrFork 1 = .ok (.iconst 0, 1) := by decide +kernel
theorem dX2_isStringOrFork_2 : decode cX2_isStringOrFork 2 = .ok (.bipush 32, 2) := by decide +kernel
theorem dX2_isStringOrFork_4 : decode cX2_isStringOrFork 4 = .ok (.invokestatic 45, 3) := by decide +kernel
theorem dX2_isStringOrFork_7 : decode cX2_isStringOrFork 7 = .ok (.ireturn, 1) := by decide +kernel
set_option maxRecDepth 20000 in
theorem ggX2_isAsked_X2_in : GoodIn wsX2_isAsked wsX2_in := goodIn_r _ [4] (by decide +kernel) (by decide +kernel)
set_option maxRecDepth 20000 in
theorem gX2_isAsked_X2_in : GoodIn wsX2_isAsked (va_wsS RX2 45 yX2_in wsX2_in) := goodIn_app (goodIn_of _ (by decide +kernel)) ggX2_isAsked_X2_in
theorem dX2_isAsked_0 : decode cX2_isAsked 0 = .ok (.iload_n 0, 1) := by decide +kernel
theorem dX2_isAsked_1 : decode cX2_isAsked 1 = .ok (.iconst 0, 1) := by decide +kernel
theorem dX2_isAsked_2 : decode cX2_isAsked 2 = .ok (.iconst 1, 1) := by decide +kernel
theorem dX2_isAsked_3 : decode cX2_isAsked 3 = .ok (.invokestatic 45, 3) := by decide +kernel
theorem dX2_isAsked_6 : decode cX2_isAsked 6 = .ok (.ifCond .eq 16, 3) := by decide +kernel
theorem dX2_isAsked_9 : decode cX2_isAsked 9 = .ok (.iload_n 1, 1) := by decide +kernel
theorem dX2_isAsked_10 : decode cX2_isAsked 10 = .ok (.iconst 0, 1) := by decide +kernel
theorem dX2_isAsked_11 : decode cX2_isAsked 11 = .ok (.iconst 5, 1) := by decide +kernel
theorem dX2_isAsked_12 : decode cX2_isAsked 12 = .ok (.invokestatic 45, 3) := by decide +kernel
theorem dX2_isAsked_15 : decode cX2_isAsked 15 = .ok (.ifCond .eq 7, 3) := by decide +kernel
theorem dX2_isAsked_18 : decode cX2_isAsked 18 = .ok (.iconst 1, 1) := by decide +kernel
theorem dX2_isAsked_19 : decode cX2_isAsked 19 = .ok (.goto 4, 3) := by decide +kernel
theorem dX2_isAsked_22 : decode cX2_isAsked 22 = .ok (.iconst 0, 1) := by decide +kernel
theorem dX2_isAsked_23 : decode cX2_isAsked 23 = .ok (.ireturn, 1) := by decide +kernel
theorem dX2_at_0 : decode cX2_at 0 = .ok (.bipush 33, 2) := by decide +kernel
theorem dX2_at_2 : decode cX2_at 2 = .ok (.iload_n 0, 1) := by decide +kernel
theorem dX2_at_3 : decode cX2_at 3 = .ok (.imul, 1) := by decide +kernel
theorem dX2_at_4 : decode cX2_at 4 = .ok (.iload_n 1, 1) := by decide +kernel
theorem dX2_at_5 : decode cX2_at 5 = .ok (.iadd, 1) := by decide +kernel
theorem dX2_at_6 : decode cX2_at 6 = .ok (.ireturn, 1) := by decide +kernel
theorem dX2_place_0 : decode cX2_place 0 = .ok (.iload_n 0, 1) := by decide +kernel
theorem dX2_place_1 : decode cX2_place 1 = .ok (.ifCond .ne 7, 3) := by decide +kernel
theorem dX2_place_4 : decode cX2_place 4 = .ok (.iload_n 1, 1) := by decide +kernel
theorem dX2_place_5 : decode cX2_place 5 = .ok (.goto 24, 3) := by decide +kernel
theorem dX2_place_8 : decode cX2_place 8 = .ok (.iload_n 0, 1) := by decide +kernel
theorem dX2_place_9 : decode cX2_place 9 = .ok (.iconst 3, 1) := by decide +kernel
theorem dX2_place_10 : decode cX2_place 10 = .ok (.if_icmp .ne 8, 3) := by decide +kernel
theorem dX2_place_13 : decode cX2_place 13 = .ok (.ldc 49, 2) := by decide +kernel
theorem dX2_place_15 : decode cX2_place 15 = .ok (.goto 14, 3) := by decide +kernel
theorem dX2_place_18 : decode cX2_place 18 = .ok (.iload_n 0, 1) := by decide +kernel
theorem dX2_place_19 : decode cX2_place 19 = .ok (.iconst 4, 1) := by decide +kernel
theorem dX2_place_20 : decode cX2_place 20 = .ok (.if_icmp .ne 8, 3) := by decide +kernel
theorem dX2_place_23 : decode cX2_place 23 = .ok (.ldc 50, 2) := by decide +kernel
theorem dX2_place_25 : decode cX2_place 25 = .ok (.goto 4, 3) := by decide +kernel
theorem dX2_place_28 : decode cX2_place 28 = .ok (.iconst 0, 1) := by decide +kernel
theorem dX2_place_29 : decode cX2_place 29 = .ok (.ireturn, 1) := by decide +kernel
set_option maxRecDepth 20000 in
theorem ggX2_goes_X2_place : GoodIn wsX2_goes wsX2_place := goodIn_r _ [4, 5, 6] (by decide +kernel) (by decide +kernel)
set_option maxRecDepth 20000 in
theorem gX2_goes_X2_place : GoodIn wsX2_goes (va_wsS RX2 51 yX2_place wsX2_place) := goodIn_app (goodIn_of _ (by decide +kernel)) ggX2_goes_X2_place
theorem dX2_goes_0 : decode cX2_goes 0 = .ok (.iload_n 1, 1) := by decide +kernel
theorem dX2_goes_1 : decode cX2_goes 1 = .ok (.iconst 1, 1) := by decide +kernel
theorem dX2_goes_2 : decode cX2_goes 2 = .ok (.if_icmp .eq 8, 3) := by decide +kernel
theorem dX2_goes_5 : decode cX2_goes 5 = .ok (.iload_n 3, 1) := by decide +kernel
theorem dX2_goes_6 : decode cX2_goes 6 = .ok (.iconst 1, 1) := by decide +kernel
theorem dX2_goes_7 : decode cX2_goes 7 = .ok (.if_icmp .ne 14, 3) := by decide +kernel
theorem dX2_goes_10 : decode cX2_goes 10 = .ok (.iload_n 0, 1) := by decide +kernel
theorem dX2_goes_11 : decode cX2_goes 11 = .ok (.iconst 5, 1) := by decide +kernel
theorem dX2_goes_12 : decode cX2_goes 12 = .ok (.if_icmp .ne 7, 3) := by decide +kernel
theorem dX2_goes_15 : decode cX2_goes 15 = .ok (.iconst 1, 1) := by decide +kernel
theorem dX2_goes_16 : decode cX2_goes 16 = .ok (.goto 4, 3) := by decide +kernel
theorem dX2_goes_19 : decode cX2_goes 19 = .ok (.iconst 0, 1) := by decide +kernel
theorem dX2_goes_20 : decode cX2_goes 20 = .ok (.ireturn, 1) := by decide +kernel
theorem dX2_goes_21 : decode cX2_goes 21 = .ok (.iload_n 1, 1) := by decide +kernel
theorem dX2_goes_22 : decode cX2_goes 22 = .ok (.iload_n 2, 1) := by decide +kernel
theorem dX2_goes_23 : decode cX2_goes 23 = .ok (.invokestatic 51, 3) := by decide +kernel
theorem dX2_goes_26 : decode cX2_goes 26 = .ok (.istore 5, 2) := by decide +kernel
theorem dX2_goes_28 : decode cX2_goes 28 = .ok (.iload_n 3, 1) := by decide +kernel
theorem dX2_goes_29 : decode cX2_goes 29 = .ok (.iload 4, 2) := by decide +kernel
theorem dX2_goes_31 : decode cX2_goes 31 = .ok (.invokestatic 51, 3) := by decide +kernel
theorem dX2_goes_34 : decode cX2_goes 34 = .ok (.istore 6, 2) := by decide +kernel
theorem dX2_goes_36 : decode cX2_goes 36 = .ok (.iload 5, 2) := by decide +kernel
theorem dX2_goes_38 : decode cX2_goes 38 = .ok (.iload 6, 2) := by decide +kernel
theorem dX2_goes_40 : decode cX2_goes 40 = .ok (.if_icmp .ne 24, 3) := by decide +kernel
theorem dX2_goes_43 : decode cX2_goes 43 = .ok (.iload_n 0, 1) := by decide +kernel
theorem dX2_goes_44 : decode cX2_goes 44 = .ok (.iconst 1, 1) := by decide +kernel
theorem dX2_goes_45 : decode cX2_goes 45 = .ok (.if_icmp .eq 13, 3) := by decide +kernel
theorem dX2_goes_48 : decode cX2_goes 48 = .ok (.iload_n 0, 1) := by decide +kernel
theorem dX2_goes_49 : decode cX2_goes 49 = .ok (.iconst 3, 1) := by decide +kernel
theorem dX2_goes_50 : decode cX2_goes 50 = .ok (.if_icmp .eq 8, 3) := by decide +kernel
theorem dX2_goes_53 : decode cX2_goes 53 = .ok (.iload_n 0, 1) := by decide +kernel
theorem dX2_goes_54 : decode cX2_goes 54 = .ok (.iconst 4, 1) := by decide +kernel
theorem dX2_goes_55 : decode cX2_goes 55 = .ok (.if_icmp .ne 7, 3) := by decide +kernel
theorem dX2_goes_58 : decode cX2_goes 58 = .ok (.iconst 1, 1) := by decide +kernel
theorem dX2_goes_59 : decode cX2_goes 59 = .ok (.goto 4, 3) := by decide +kernel
theorem dX2_goes_62 : decode cX2_goes 62 = .ok (.iconst 0, 1) := by decide +kernel
theorem dX2_goes_63 : decode cX2_goes 63 = .ok (.ireturn, 1) := by decide +kernel
theorem dX2_goes_64 : decode cX2_goes 64 = .ok (.iload_n 0, 1) := by decide +kernel
theorem dX2_goes_65 : decode cX2_goes 65 = .ok (.iconst 5, 1) := by decide +kernel
theorem dX2_goes_66 : decode cX2_goes 66 = .ok (.if_icmp .ne 5, 3) := by decide +kernel
theorem dX2_goes_69 : decode cX2_goes 69 = .ok (.iconst 1, 1) := by decide +kernel
theorem dX2_goes_70 : decode cX2_goes 70 = .ok (.ireturn, 1) := by decide +kernel
theorem dX2_goes_71 : decode cX2_goes 71 = .ok (.iload 5, 2) := by decide +kernel
theorem dX2_goes_73 : decode cX2_goes 73 = .ok (.iload 6, 2) := by decide +kernel
theorem dX2_goes_75 : decode cX2_goes 75 = .ok (.if_icmp .ge 20, 3) := by decide +kernel
theorem dX2_goes_78 : decode cX2_goes 78 = .ok (.iload_n 0, 1) := by decide +kernel
theorem dX2_goes_79 : decode cX2_goes 79 = .ok (.ifCond .eq 8, 3) := by decide +kernel
theorem dX2_goes_82 : decode cX2_goes 82 = .ok (.iload_n 0, 1) := by decide +kernel
theorem dX2_goes_83 : decode cX2_goes 83 = .ok (.iconst 1, 1) := by decide +kernel
theorem dX2_goes_84 : decode cX2_goes 84 = .ok (.if_icmp .ne 7, 3) := by decide +kernel
theorem dX2_goes_87 : decode cX2_goes 87 = .ok (.iconst 1, 1) := by decide +kernel
theorem dX2_goes_88 : decode cX2_goes 88 = .ok (.goto 22, 3) := by decide +kernel
theorem dX2_goes_91 : decode cX2_goes 91 = .ok (.iconst 0, 1) := by decide +kernel
theorem dX2_goes_92 : decode cX2_goes 92 = .ok (.goto 18, 3) := by decide +kernel
theorem dX2_goes_95 : decode cX2_goes 95 = .ok (.iload_n 0, 1) := by decide +kernel
theorem dX2_goes_96 : decode cX2_goes 96 = .ok (.iconst 2, 1) := by decide +kernel
theorem dX2_goes_97 : decode cX2_goes 97 = .ok (.if_icmp .eq 8, 3) := by decide +kernel
theorem dX2_goes_100 : decode cX2_goes 100 = .ok (.iload_n 0, 1) := by decide +kernel
theorem dX2_goes_101 : decode cX2_goes 101 = .ok (.iconst 3, 1) := by decide +kernel
theorem dX2_goes_102 : decode cX2_goes 102 = .ok (.if_icmp .ne 7, 3) := by decide +kernel
theorem dX2_goes_105 : decode cX2_goes 105 = .ok (.iconst 1, 1) := by decide +kernel
theorem dX2_goes_106 : decode cX2_goes 106 = .ok (.goto 4, 3) := by decide +kernel
theorem dX2_goes_109 : decode cX2_goes 109 = .ok (.iconst 0, 1) := by decide +kernel
theorem dX2_goes_110 : decode cX2_goes 110 = .ok (.ireturn, 1) := by decide +kernel
set_option maxRecDepth 20000 in
theorem ggX2_stands_X2_at : GoodIn wsX2_stands wsX2_at := goodIn_r _ [6] (by decide +kernel) (by decide +kernel)
set_option maxRecDepth 20000 in
theorem gX2_stands_X2_at : GoodIn wsX2_stands (va_wsS RX2 55 yX2_at wsX2_at) := goodIn_app (goodIn_of _ (by decide +kernel)) ggX2_stands_X2_at
set_option maxRecDepth 20000 in
theorem ggX2_stands_X2_goes : GoodIn wsX2_stands wsX2_goes := goodIn_r _ [9, 10, 11, 5, 12, 13, 14] (by decide +kernel) (by decide +kernel)
set_option maxRecDepth 20000 in
theorem gX2_stands_X2_goes : GoodIn wsX2_stands (va_wsS RX2 58 yX2_goes wsX2_goes) := goodIn_app (goodIn_of _ (by decide +kernel)) ggX2_stands_X2_goes
theorem dX2_stands_0 : decode cX2_stands 0 = .ok (.iload_n 1, 1) := by decide +kernel
theorem dX2_stands_1 : decode cX2_stands 1 = .ok (.iload_n 3, 1) := by decide +kernel
theorem dX2_stands_2 : decode cX2_stands 2 = .ok (.invokestatic 55, 3) := by decide +kernel
theorem dX2_stands_5 : decode cX2_stands 5 = .ok (.istore 5, 2) := by decide +kernel
theorem dX2_stands_7 : decode cX2_stands 7 = .ok (.iload_n 1, 1) := by decide +kernel
theorem dX2_stands_8 : decode cX2_stands 8 = .ok (.iload 4, 2) := by decide +kernel
theorem dX2_stands_10 : decode cX2_stands 10 = .ok (.invokestatic 55, 3) := by decide +kernel
theorem dX2_stands_13 : decode cX2_stands 13 = .ok (.istore 6, 2) := by decide +kernel
theorem dX2_stands_15 : decode cX2_stands 15 = .ok (.iload_n 2, 1) := by decide +kernel
theorem dX2_stands_16 : decode cX2_stands 16 = .ok (.aload_n 0, 1) := by decide +kernel
theorem dX2_stands_17 : decode cX2_stands 17 = .ok (.getfield 7, 3) := by decide +kernel
theorem dX2_stands_20 : decode cX2_stands 20 = .ok (.iload 5, 2) := by decide +kernel
theorem dX2_stands_22 : decode cX2_stands 22 = .ok (.iaload, 1) := by decide +kernel
theorem dX2_stands_23 : decode cX2_stands 23 = .ok (.aload_n 0, 1) := by decide +kernel
theorem dX2_stands_24 : decode cX2_stands 24 = .ok (.getfield 13, 3) := by decide +kernel
theorem dX2_stands_27 : decode cX2_stands 27 = .ok (.iload 5, 2) := by decide +kernel
theorem dX2_stands_29 : decode cX2_stands 29 = .ok (.iaload, 1) := by decide +kernel
theorem dX2_stands_30 : decode cX2_stands 30 = .ok (.aload_n 0, 1) := by decide +kernel
theorem dX2_stands_31 : decode cX2_stands 31 = .ok (.getfield 7, 3) := by decide +kernel
theorem dX2_stands_34 : decode cX2_stands 34 = .ok (.iload 6, 2) := by decide +kernel
theorem dX2_stands_36 : decode cX2_stands 36 = .ok (.iaload, 1) := by decide +kernel
theorem dX2_stands_37 : decode cX2_stands 37 = .ok (.aload_n 0, 1) := by decide +kernel
theorem dX2_stands_38 : decode cX2_stands 38 = .ok (.getfield 13, 3) := by decide +kernel
theorem dX2_stands_41 : decode cX2_stands 41 = .ok (.iload 6, 2) := by decide +kernel
theorem dX2_stands_43 : decode cX2_stands 43 = .ok (.iaload, 1) := by decide +kernel
theorem dX2_stands_44 : decode cX2_stands 44 = .ok (.invokestatic 58, 3) := by decide +kernel
theorem dX2_stands_47 : decode cX2_stands 47 = .ok (.ireturn, 1) := by decide +kernel
set_option maxRecDepth 20000 in
theorem ggX2_put_X2_in : GoodIn wsX2_put wsX2_in := goodIn_r _ [8] (by decide +kernel) (by decide +kernel)
set_option maxRecDepth 20000 in
theorem gX2_put_X2_in : GoodIn wsX2_put (va_wsS RX2 45 yX2_in wsX2_in) := goodIn_app (goodIn_of _ (by decide +kernel)) ggX2_put_X2_in
set_option maxRecDepth 20000 in
theorem ggX2_put_X2_isStringOrFork : GoodIn wsX2_put wsX2_isStringOrFork := goodIn_r _ [11, 5, 6, 7, 8] (by decide +kernel) (by decide +kernel)
set_option maxRecDepth 20000 in
theorem gX2_put_X2_isStringOrFork : GoodIn wsX2_put (va_wsS RX2 62 yX2_isStringOrFork wsX2_isStringOrFork) := goodIn_app (goodIn_of _ (by decide +kernel)) ggX2_put_X2_isStringOrFork
set_option maxRecDepth 20000 in
theorem ggX2_put_X2_at : GoodIn wsX2_put wsX2_at := goodIn_r _ [14] (by decide +kernel) (by decide +kernel)
set_option maxRecDepth 20000 in
theorem gX2_put_X2_at : GoodIn wsX2_put (va_wsS RX2 55 yX2_at wsX2_at) := goodIn_app (goodIn_of _ (by decide +kernel)) ggX2_put_X2_at
theorem dX2_put_0 : decode cX2_put 0 = .ok (.iload_n 1, 1) := by decide +kernel
theorem dX2_put_1 : decode cX2_put 1 = .ok (.iconst 0, 1) := by decide +kernel
theorem dX2_put_2 : decode cX2_put 2 = .ok (.iconst 1, 1) := by decide +kernel
theorem dX2_put_3 : decode cX2_put 3 = .ok (.invokestatic 45, 3) := by decide +kernel
theorem dX2_put_6 : decode cX2_put 6 = .ok (.ifCond .eq 19, 3) := by decide +kernel
theorem dX2_put_9 : decode cX2_put 9 = .ok (.iload_n 2, 1) := by decide +kernel
theorem dX2_put_10 : decode cX2_put 10 = .ok (.invokestatic 62, 3) := by decide +kernel
theorem dX2_put_13 : decode cX2_put 13 = .ok (.ifCond .eq 12, 3) := by decide +kernel
theorem dX2_put_16 : decode cX2_put 16 = .ok (.iload_n 3, 1) := by decide +kernel
theorem dX2_put_17 : decode cX2_put 17 = .ok (.iconst 0, 1) := by decide +kernel
theorem dX2_put_18 : decode cX2_put 18 = .ok (.iconst 4, 1) := by decide +kernel
theorem dX2_put_19 : decode cX2_put 19 = .ok (.invokestatic 45, 3) := by decide +kernel
theorem dX2_put_22 : decode cX2_put 22 = .ok (.ifCond .ne 5, 3) := by decide +kernel
theorem dX2_put_25 : decode cX2_put 25 = .ok (.iconst 0, 1) := by decide +kernel
theorem dX2_put_26 : decode cX2_put 26 = .ok (.ireturn, 1) := by decide +kernel
theorem dX2_put_27 : decode cX2_put 27 = .ok (.iload_n 3, 1) := by decide +kernel
theorem dX2_put_28 : decode cX2_put 28 = .ok (.ifCond .ne 17, 3) := by decide +kernel
theorem dX2_put_31 : decode cX2_put 31 = .ok (.iload 4, 2) := by decide +kernel
theorem dX2_put_33 : decode cX2_put 33 = .ok (.ldc 66, 2) := by decide +kernel
theorem dX2_put_35 : decode cX2_put 35 = .ok (.ldc 67, 2) := by decide +kernel
theorem dX2_put_37 : decode cX2_put 37 = .ok (.invokestatic 45, 3) := by decide +kernel
theorem dX2_put_40 : decode cX2_put 40 = .ok (.ifCond .ne 5, 3) := by decide +kernel
theorem dX2_put_43 : decode cX2_put 43 = .ok (.iconst 0, 1) := by decide +kernel
theorem dX2_put_44 : decode cX2_put 44 = .ok (.ireturn, 1) := by decide +kernel
theorem dX2_put_45 : decode cX2_put 45 = .ok (.aload_n 0, 1) := by decide +kernel
theorem dX2_put_46 : decode cX2_put 46 = .ok (.getfield 7, 3) := by decide +kernel
theorem dX2_put_49 : decode cX2_put 49 = .ok (.iload_n 1, 1) := by decide +kernel
theorem dX2_put_50 : decode cX2_put 50 = .ok (.iload_n 2, 1) := by decide +kernel
theorem dX2_put_51 : decode cX2_put 51 = .ok (.invokestatic 55, 3) := by decide +kernel
theorem dX2_put_54 : decode cX2_put 54 = .ok (.iload_n 3, 1) := by decide +kernel
theorem dX2_put_55 : decode cX2_put 55 = .ok (.iastore, 1) := by decide +kernel
theorem dX2_put_56 : decode cX2_put 56 = .ok (.aload_n 0, 1) := by decide +kernel
theorem dX2_put_57 : decode cX2_put 57 = .ok (.getfield 13, 3) := by decide +kernel
theorem dX2_put_60 : decode cX2_put 60 = .ok (.iload_n 1, 1) := by decide +kernel
theorem dX2_put_61 : decode cX2_put 61 = .ok (.iload_n 2, 1) := by decide +kernel
theorem dX2_put_62 : decode cX2_put 62 = .ok (.invokestatic 55, 3) := by decide +kernel
theorem dX2_put_65 : decode cX2_put 65 = .ok (.iload_n 3, 1) := by decide +kernel
theorem dX2_put_66 : decode cX2_put 66 = .ok (.ifCond .ne 8, 3) := by decide +kernel
theorem dX2_put_69 : decode cX2_put 69 = .ok (.iload 4, 2) := by decide +kernel
theorem dX2_put_71 : decode cX2_put 71 = .ok (.goto 4, 3) := by decide +kernel
theorem dX2_put_74 : decode cX2_put 74 = .ok (.iconst 0, 1) := by decide +kernel
theorem dX2_put_75 : decode cX2_put 75 = .ok (.iastore, 1) := by decide +kernel
theorem dX2_put_76 : decode cX2_put 76 = .ok (.iconst 1, 1) := by decide +kernel
theorem dX2_put_77 : decode cX2_put 77 = .ok (.ireturn, 1) := by decide +kernel
set_option maxRecDepth 20000 in
theorem ggX2_sort_X2_in : GoodIn wsX2_sort wsX2_in := goodIn_r _ [5] (by decide +kernel) (by decide +kernel)
set_option maxRecDepth 20000 in
theorem gX2_sort_X2_in : GoodIn wsX2_sort (va_wsS RX2 45 yX2_in wsX2_in) := goodIn_app (goodIn_of _ (by decide +kernel)) ggX2_sort_X2_in
set_option maxRecDepth 20000 in
theorem ggX2_sort_X2_isStringOrFork : GoodIn wsX2_sort wsX2_isStringOrFork := goodIn_r _ [8, 2, 3, 4, 5] (by decide +kernel) (by decide +kernel)
set_option maxRecDepth 20000 in
theorem gX2_sort_X2_isStringOrFork : GoodIn wsX2_sort (va_wsS RX2 62 yX2_isStringOrFork wsX2_isStringOrFork) := goodIn_app (goodIn_of _ (by decide +kernel)) ggX2_sort_X2_isStringOrFork
set_option maxRecDepth 20000 in
theorem ggX2_sort_X2_at : GoodIn wsX2_sort wsX2_at := goodIn_r _ [11] (by decide +kernel) (by decide +kernel)
set_option maxRecDepth 20000 in
theorem gX2_sort_X2_at : GoodIn wsX2_sort (va_wsS RX2 55 yX2_at wsX2_at) := goodIn_app (goodIn_of _ (by decide +kernel)) ggX2_sort_X2_at
theorem dX2_sort_0 : decode cX2_sort 0 = .ok (.iload_n 1, 1) := by decide +kernel
theorem dX2_sort_1 : decode cX2_sort 1 = .ok (.iconst 0, 1) := by decide +kernel
theorem dX2_sort_2 : decode cX2_sort 2 = .ok (.iconst 1, 1) := by decide +kernel
theorem dX2_sort_3 : decode cX2_sort 3 = .ok (.invokestatic 45, 3) := by decide +kernel
theorem dX2_sort_6 : decode cX2_sort 6 = .ok (.ifCond .eq 23, 3) := by decide +kernel
theorem dX2_sort_9 : decode cX2_sort 9 = .ok (.iload_n 2, 1) := by decide +kernel
theorem dX2_sort_10 : decode cX2_sort 10 = .ok (.invokestatic 62, 3) := by decide +kernel
theorem dX2_sort_13 : decode cX2_sort 13 = .ok (.ifCond .eq 16, 3) := by decide +kernel
theorem dX2_sort_16 : decode cX2_sort 16 = .ok (.aload_n 0, 1) := by decide +kernel
theorem dX2_sort_17 : decode cX2_sort 17 = .ok (.getfield 7, 3) := by decide +kernel
theorem dX2_sort_20 : decode cX2_sort 20 = .ok (.iload_n 1, 1) := by decide +kernel
theorem dX2_sort_21 : decode cX2_sort 21 = .ok (.iload_n 2, 1) := by decide +kernel
theorem dX2_sort_22 : decode cX2_sort 22 = .ok (.invokestatic 55, 3) := by decide +kernel
theorem dX2_sort_25 : decode cX2_sort 25 = .ok (.iaload, 1) := by decide +kernel
theorem dX2_sort_26 : decode cX2_sort 26 = .ok (.goto 4, 3) := by decide +kernel
theorem dX2_sort_29 : decode cX2_sort 29 = .ok (.iconst (-1), 1) := by decide +kernel
theorem dX2_sort_30 : decode cX2_sort 30 = .ok (.ireturn, 1) := by decide +kernel
set_option maxRecDepth 20000 in
theorem ggX2_quarters_X2_in : GoodIn wsX2_quarters wsX2_in := goodIn_r _ [5] (by decide +kernel) (by decide +kernel)
set_option maxRecDepth 20000 in
theorem gX2_quarters_X2_in : GoodIn wsX2_quarters (va_wsS RX2 45 yX2_in wsX2_in) := goodIn_app (goodIn_of _ (by decide +kernel)) ggX2_quarters_X2_in
set_option maxRecDepth 20000 in
theorem ggX2_quarters_X2_isStringOrFork : GoodIn wsX2_quarters wsX2_isStringOrFork := goodIn_r _ [8, 2, 3, 4, 5] (by decide +kernel) (by decide +kernel)
set_option maxRecDepth 20000 in
theorem gX2_quarters_X2_isStringOrFork : GoodIn wsX2_quarters (va_wsS RX2 62 yX2_isStringOrFork wsX2_isStringOrFork) := goodIn_app (goodIn_of _ (by decide +kernel)) ggX2_quarters_X2_isStringOrFork
set_option maxRecDepth 20000 in
theorem ggX2_quarters_X2_at : GoodIn wsX2_quarters wsX2_at := goodIn_r _ [11] (by decide +kernel) (by decide +kernel)
set_option maxRecDepth 20000 in
theorem gX2_quarters_X2_at : GoodIn wsX2_quarters (va_wsS RX2 55 yX2_at wsX2_at) := goodIn_app (goodIn_of _ (by decide +kernel)) ggX2_quarters_X2_at
theorem dX2_quarters_0 : decode cX2_quarters 0 = .ok (.iload_n 1, 1) := by decide +kernel
theorem dX2_quarters_1 : decode cX2_quarters 1 = .ok (.iconst 0, 1) := by decide +kernel
theorem dX2_quarters_2 : decode cX2_quarters 2 = .ok (.iconst 1, 1) := by decide +kernel
theorem dX2_quarters_3 : decode cX2_quarters 3 = .ok (.invokestatic 45, 3) := by decide +kernel
theorem dX2_quarters_6 : decode cX2_quarters 6 = .ok (.ifCond .eq 23, 3) := by decide +kernel
theorem dX2_quarters_9 : decode cX2_quarters 9 = .ok (.iload_n 2, 1) := by decide +kernel
theorem dX2_quarters_10 : decode cX2_quarters 10 = .ok (.invokestatic 62, 3) := by decide +kernel
theorem dX2_quarters_13 : decode cX2_quarters 13 = .ok (.ifCond .eq 16, 3) := by decide +kernel
theorem dX2_quarters_16 : decode cX2_quarters 16 = .ok (.aload_n 0, 1) := by decide +kernel
theorem dX2_quarters_17 : decode cX2_quarters 17 = .ok (.getfield 13, 3) := by decide +kernel
theorem dX2_quarters_20 : decode cX2_quarters 20 = .ok (.iload_n 1, 1) := by decide +kernel
theorem dX2_quarters_21 : decode cX2_quarters 21 = .ok (.iload_n 2, 1) := by decide +kernel
theorem dX2_quarters_22 : decode cX2_quarters 22 = .ok (.invokestatic 55, 3) := by decide +kernel
theorem dX2_quarters_25 : decode cX2_quarters 25 = .ok (.iaload, 1) := by decide +kernel
theorem dX2_quarters_26 : decode cX2_quarters 26 = .ok (.goto 4, 3) := by decide +kernel
theorem dX2_quarters_29 : decode cX2_quarters 29 = .ok (.iconst 0, 1) := by decide +kernel
theorem dX2_quarters_30 : decode cX2_quarters 30 = .ok (.ireturn, 1) := by decide +kernel
set_option maxRecDepth 20000 in
theorem ggX2_holds_X2_isAsked : GoodIn wsX2_holds wsX2_isAsked := goodIn_r _ [5, 6, 7, 4, 8] (by decide +kernel) (by decide +kernel)
set_option maxRecDepth 20000 in
theorem gX2_holds_X2_isAsked : GoodIn wsX2_holds (va_wsS RX2 68 yX2_isAsked wsX2_isAsked) := goodIn_app (goodIn_of _ (by decide +kernel)) ggX2_holds_X2_isAsked
set_option maxRecDepth 20000 in
theorem ggX2_holds_X2_isStringOrFork : GoodIn wsX2_holds wsX2_isStringOrFork := goodIn_r _ [11, 6, 7, 4, 8] (by decide +kernel) (by decide +kernel)
set_option maxRecDepth 20000 in
theorem gX2_holds_X2_isStringOrFork : GoodIn wsX2_holds (va_wsS RX2 62 yX2_isStringOrFork wsX2_isStringOrFork) := goodIn_app (goodIn_of _ (by decide +kernel)) ggX2_holds_X2_isStringOrFork
set_option maxRecDepth 20000 in
theorem ggX2_holds_X2_stands : GoodIn wsX2_holds wsX2_stands := goodIn_r _ [15, 16, 17, 18, 19, 4, 20, 21, 22, 23, 24, 25, 26, 27, 28, 29, 30, 31, 32, 33, 34, 35, 36, 37, 38, 39, 40, 41, 42] (by decide +kernel) (by decide +kernel)
set_option maxRecDepth 20000 in
theorem gX2_holds_X2_stands : GoodIn wsX2_holds (wsV RX2 72 RX2 yX2_stands wsX2_stands) := goodIn_app (goodIn_of _ (by decide +kernel)) ggX2_holds_X2_stands
theorem dX2_holds_0 : decode cX2_holds 0 = .ok (.iload_n 1, 1) := by decide +kernel
theorem dX2_holds_1 : decode cX2_holds 1 = .ok (.iload_n 2, 1) := by decide +kernel
theorem dX2_holds_2 : decode cX2_holds 2 = .ok (.invokestatic 68, 3) := by decide +kernel
theorem dX2_holds_5 : decode cX2_holds 5 = .ok (.ifCond .eq 18, 3) := by decide +kernel
theorem dX2_holds_8 : decode cX2_holds 8 = .ok (.iload_n 3, 1) := by decide +kernel
theorem dX2_holds_9 : decode cX2_holds 9 = .ok (.invokestatic 62, 3) := by decide +kernel
theorem dX2_holds_12 : decode cX2_holds 12 = .ok (.ifCond .eq 11, 3) := by decide +kernel
theorem dX2_holds_15 : decode cX2_holds 15 = .ok (.iload 4, 2) := by decide +kernel
theorem dX2_holds_17 : decode cX2_holds 17 = .ok (.invokestatic 62, 3) := by decide +kernel
theorem dX2_holds_20 : decode cX2_holds 20 = .ok (.ifCond .ne 5, 3) := by decide +kernel
theorem dX2_holds_23 : decode cX2_holds 23 = .ok (.iconst (-1), 1) := by decide +kernel
theorem dX2_holds_24 : decode cX2_holds 24 = .ok (.ireturn, 1) := by decide +kernel
theorem dX2_holds_25 : decode cX2_holds 25 = .ok (.aload_n 0, 1) := by decide +kernel
theorem dX2_holds_26 : decode cX2_holds 26 = .ok (.aload_n 0, 1) := by decide +kernel
theorem dX2_holds_27 : decode cX2_holds 27 = .ok (.iload_n 1, 1) := by decide +kernel
theorem dX2_holds_28 : decode cX2_holds 28 = .ok (.iload_n 2, 1) := by decide +kernel
theorem dX2_holds_29 : decode cX2_holds 29 = .ok (.iload_n 3, 1) := by decide +kernel
theorem dX2_holds_30 : decode cX2_holds 30 = .ok (.iload 4, 2) := by decide +kernel
theorem dX2_holds_32 : decode cX2_holds 32 = .ok (.invokevirtual 72, 3) := by decide +kernel
theorem dX2_holds_35 : decode cX2_holds 35 = .ok (.ifCond .eq 7, 3) := by decide +kernel
theorem dX2_holds_38 : decode cX2_holds 38 = .ok (.iconst 1, 1) := by decide +kernel
theorem dX2_holds_39 : decode cX2_holds 39 = .ok (.goto 4, 3) := by decide +kernel
theorem dX2_holds_42 : decode cX2_holds 42 = .ok (.iconst 0, 1) := by decide +kernel
theorem dX2_holds_43 : decode cX2_holds 43 = .ok (.putfield 16, 3) := by decide +kernel
theorem dX2_holds_46 : decode cX2_holds 46 = .ok (.aload_n 0, 1) := by decide +kernel
theorem dX2_holds_47 : decode cX2_holds 47 = .ok (.getfield 16, 3) := by decide +kernel
theorem dX2_holds_50 : decode cX2_holds 50 = .ok (.ireturn, 1) := by decide +kernel
set_option maxRecDepth 20000 in
theorem ggX2_denies_X2_isAsked : GoodIn wsX2_denies wsX2_isAsked := goodIn_r _ [5, 6, 7, 4, 8] (by decide +kernel) (by decide +kernel)
set_option maxRecDepth 20000 in
theorem gX2_denies_X2_isAsked : GoodIn wsX2_denies (va_wsS RX2 68 yX2_isAsked wsX2_isAsked) := goodIn_app (goodIn_of _ (by decide +kernel)) ggX2_denies_X2_isAsked
set_option maxRecDepth 20000 in
theorem ggX2_denies_X2_isStringOrFork : GoodIn wsX2_denies wsX2_isStringOrFork := goodIn_r _ [11, 6, 7, 4, 8] (by decide +kernel) (by decide +kernel)
set_option maxRecDepth 20000 in
theorem gX2_denies_X2_isStringOrFork : GoodIn wsX2_denies (va_wsS RX2 62 yX2_isStringOrFork wsX2_isStringOrFork) := goodIn_app (goodIn_of _ (by decide +kernel)) ggX2_denies_X2_isStringOrFork
set_option maxRecDepth 20000 in
theorem ggX2_denies_X2_stands : GoodIn wsX2_denies wsX2_stands := goodIn_r _ [15, 16, 17, 18, 19, 4, 20, 21, 22, 23, 24, 25, 26, 27, 28, 29, 30, 31, 32, 33, 34, 35, 36, 37, 38, 39, 40, 41, 42] (by decide +kernel) (by decide +kernel)
set_option maxRecDepth 20000 in
theorem gX2_denies_X2_stands : GoodIn wsX2_denies (wsV RX2 72 RX2 yX2_stands wsX2_stands) := goodIn_app (goodIn_of _ (by decide +kernel)) ggX2_denies_X2_stands
theorem dX2_denies_0 : decode cX2_denies 0 = .ok (.iload_n 1, 1) := by decide +kernel
theorem dX2_denies_1 : decode cX2_denies 1 = .ok (.iload_n 2, 1) := by decide +kernel
theorem dX2_denies_2 : decode cX2_denies 2 = .ok (.invokestatic 68, 3) := by decide +kernel
theorem dX2_denies_5 : decode cX2_denies 5 = .ok (.ifCond .eq 18, 3) := by decide +kernel
theorem dX2_denies_8 : decode cX2_denies 8 = .ok (.iload_n 3, 1) := by decide +kernel
theorem dX2_denies_9 : decode cX2_denies 9 = .ok (.invokestatic 62, 3) := by decide +kernel
theorem dX2_denies_12 : decode cX2_denies 12 = .ok (.ifCond .eq 11, 3) := by decide +kernel
theorem dX2_denies_15 : decode cX2_denies 15 = .ok (.iload 4, 2) := by decide +kernel
theorem dX2_denies_17 : decode cX2_denies 17 = .ok (.invokestatic 62, 3) := by decide +kernel
theorem dX2_denies_20 : decode cX2_denies 20 = .ok (.ifCond .ne 5, 3) := by decide +kernel
theorem dX2_denies_23 : decode cX2_denies 23 = .ok (.iconst (-1), 1) := by decide +kernel
theorem dX2_denies_24 : decode cX2_denies 24 = .ok (.ireturn, 1) := by decide +kernel
theorem dX2_denies_25 : decode cX2_denies 25 = .ok (.aload_n 0, 1) := by decide +kernel
theorem dX2_denies_26 : decode cX2_denies 26 = .ok (.iload_n 1, 1) := by decide +kernel
theorem dX2_denies_27 : decode cX2_denies 27 = .ok (.iload_n 2, 1) := by decide +kernel
theorem dX2_denies_28 : decode cX2_denies 28 = .ok (.iload_n 3, 1) := by decide +kernel
theorem dX2_denies_29 : decode cX2_denies 29 = .ok (.iload 4, 2) := by decide +kernel
theorem dX2_denies_31 : decode cX2_denies 31 = .ok (.invokevirtual 72, 3) := by decide +kernel
theorem dX2_denies_34 : decode cX2_denies 34 = .ok (.ifCond .eq 5, 3) := by decide +kernel
theorem dX2_denies_37 : decode cX2_denies 37 = .ok (.iconst 0, 1) := by decide +kernel
theorem dX2_denies_38 : decode cX2_denies 38 = .ok (.ireturn, 1) := by decide +kernel
theorem dX2_denies_39 : decode cX2_denies 39 = .ok (.aload_n 0, 1) := by decide +kernel
theorem dX2_denies_40 : decode cX2_denies 40 = .ok (.dup, 1) := by decide +kernel
theorem dX2_denies_41 : decode cX2_denies 41 = .ok (.getfield 76, 3) := by decide +kernel
theorem dX2_denies_44 : decode cX2_denies 44 = .ok (.iconst 1, 1) := by decide +kernel
theorem dX2_denies_45 : decode cX2_denies 45 = .ok (.iadd, 1) := by decide +kernel
theorem dX2_denies_46 : decode cX2_denies 46 = .ok (.putfield 76, 3) := by decide +kernel
theorem dX2_denies_49 : decode cX2_denies 49 = .ok (.iconst 1, 1) := by decide +kernel
theorem dX2_denies_50 : decode cX2_denies 50 = .ok (.ireturn, 1) := by decide +kernel
set_option maxRecDepth 20000 in
theorem ggX2_pick_X2_isAsked : GoodIn wsX2_pick wsX2_isAsked := goodIn_r _ [4, 5, 6, 3, 7] (by decide +kernel) (by decide +kernel)
set_option maxRecDepth 20000 in
theorem gX2_pick_X2_isAsked : GoodIn wsX2_pick (va_wsS RX2 68 yX2_isAsked wsX2_isAsked) := goodIn_app (goodIn_of _ (by decide +kernel)) ggX2_pick_X2_isAsked
set_option maxRecDepth 20000 in
theorem ggX2_pick_X2_isStringOrFork : GoodIn wsX2_pick wsX2_isStringOrFork := goodIn_r _ [10, 5, 6, 3, 7] (by decide +kernel) (by decide +kernel)
set_option maxRecDepth 20000 in
theorem gX2_pick_X2_isStringOrFork : GoodIn wsX2_pick (va_wsS RX2 62 yX2_isStringOrFork wsX2_isStringOrFork) := goodIn_app (goodIn_of _ (by decide +kernel)) ggX2_pick_X2_isStringOrFork
set_option maxRecDepth 20000 in
theorem ggX2_pick_X2_stands : GoodIn wsX2_pick wsX2_stands := goodIn_r _ [14, 15, 16, 17, 18, 3, 19, 20, 21, 22, 23, 24, 25, 26, 27, 28, 29, 30, 31, 32, 33, 34, 35, 36, 37, 38, 39, 40, 41] (by decide +kernel) (by decide +kernel)
set_option maxRecDepth 20000 in
theorem gX2_pick_X2_stands : GoodIn wsX2_pick (wsV RX2 72 RX2 yX2_stands wsX2_stands) := goodIn_app (goodIn_of _ (by decide +kernel)) ggX2_pick_X2_stands
theorem dX2_pick_0 : decode cX2_pick 0 = .ok (.iload_n 1, 1) := by decide +kernel
theorem dX2_pick_1 : decode cX2_pick 1 = .ok (.iload_n 2, 1) := by decide +kernel
theorem dX2_pick_2 : decode cX2_pick 2 = .ok (.invokestatic 68, 3) := by decide +kernel
theorem dX2_pick_5 : decode cX2_pick 5 = .ok (.ifCond .eq 18, 3) := by decide +kernel
theorem dX2_pick_8 : decode cX2_pick 8 = .ok (.iload_n 3, 1) := by decide +kernel
theorem dX2_pick_9 : decode cX2_pick 9 = .ok (.invokestatic 62, 3) := by decide +kernel
theorem dX2_pick_12 : decode cX2_pick 12 = .ok (.ifCond .eq 11, 3) := by decide +kernel
theorem dX2_pick_15 : decode cX2_pick 15 = .ok (.iload 4, 2) := by decide +kernel
theorem dX2_pick_17 : decode cX2_pick 17 = .ok (.invokestatic 62, 3) := by decide +kernel
theorem dX2_pick_20 : decode cX2_pick 20 = .ok (.ifCond .ne 5, 3) := by decide +kernel
theorem dX2_pick_23 : decode cX2_pick 23 = .ok (.iconst (-1), 1) := by decide +kernel
theorem dX2_pick_24 : decode cX2_pick 24 = .ok (.ireturn, 1) := by decide +kernel
theorem dX2_pick_25 : decode cX2_pick 25 = .ok (.aload_n 0, 1) := by decide +kernel
theorem dX2_pick_26 : decode cX2_pick 26 = .ok (.iload_n 1, 1) := by decide +kernel
theorem dX2_pick_27 : decode cX2_pick 27 = .ok (.iload_n 2, 1) := by decide +kernel
theorem dX2_pick_28 : decode cX2_pick 28 = .ok (.iload_n 3, 1) := by decide +kernel
theorem dX2_pick_29 : decode cX2_pick 29 = .ok (.iload 4, 2) := by decide +kernel
theorem dX2_pick_31 : decode cX2_pick 31 = .ok (.invokevirtual 72, 3) := by decide +kernel
theorem dX2_pick_34 : decode cX2_pick 34 = .ok (.ifCond .eq 7, 3) := by decide +kernel
theorem dX2_pick_37 : decode cX2_pick 37 = .ok (.iload_n 3, 1) := by decide +kernel
theorem dX2_pick_38 : decode cX2_pick 38 = .ok (.goto 5, 3) := by decide +kernel
theorem dX2_pick_41 : decode cX2_pick 41 = .ok (.iload 4, 2) := by decide +kernel
theorem dX2_pick_43 : decode cX2_pick 43 = .ok (.ireturn, 1) := by decide +kernel
set_option maxRecDepth 20000 in
theorem ggX2_climb_X2_isAsked : GoodIn wsX2_climb wsX2_isAsked := goodIn_r _ [4, 5, 6, 3, 7] (by decide +kernel) (by decide +kernel)
set_option maxRecDepth 20000 in
theorem gX2_climb_X2_isAsked : GoodIn wsX2_climb (va_wsS RX2 68 yX2_isAsked wsX2_isAsked) := goodIn_app (goodIn_of _ (by decide +kernel)) ggX2_climb_X2_isAsked
set_option maxRecDepth 20000 in
theorem ggX2_climb_X2_isString : GoodIn wsX2_climb wsX2_isString := goodIn_r _ [10, 5, 6, 3, 7] (by decide +kernel) (by decide +kernel)
set_option maxRecDepth 20000 in
theorem gX2_climb_X2_isString : GoodIn wsX2_climb (va_wsS RX2 79 yX2_isString wsX2_isString) := goodIn_app (goodIn_of _ (by decide +kernel)) ggX2_climb_X2_isString
set_option maxRecDepth 20000 in
theorem ggX2_climb_X2_stands : GoodIn wsX2_climb wsX2_stands := goodIn_r _ [14, 15, 16, 17, 18, 3, 19, 20, 21, 22, 23, 24, 25, 26, 27, 28, 29, 30, 31, 32, 33, 34, 35, 36, 37, 38, 39, 40, 41] (by decide +kernel) (by decide +kernel)
set_option maxRecDepth 20000 in
theorem gX2_climb_X2_stands : GoodIn wsX2_climb (wsV RX2 72 RX2 yX2_stands wsX2_stands) := goodIn_app (goodIn_of _ (by decide +kernel)) ggX2_climb_X2_stands
theorem dX2_climb_0 : decode cX2_climb 0 = .ok (.iload_n 1, 1) := by decide +kernel
theorem dX2_climb_1 : decode cX2_climb 1 = .ok (.iload_n 2, 1) := by decide +kernel
theorem dX2_climb_2 : decode cX2_climb 2 = .ok (.invokestatic 68, 3) := by decide +kernel
theorem dX2_climb_5 : decode cX2_climb 5 = .ok (.ifCond .eq 10, 3) := by decide +kernel
theorem dX2_climb_8 : decode cX2_climb 8 = .ok (.iload_n 3, 1) := by decide +kernel
theorem dX2_climb_9 : decode cX2_climb 9 = .ok (.invokestatic 79, 3) := by decide +kernel
theorem dX2_climb_12 : decode cX2_climb 12 = .ok (.ifCond .ne 5, 3) := by decide +kernel
theorem dX2_climb_15 : decode cX2_climb 15 = .ok (.iconst (-1), 1) := by decide +kernel
theorem dX2_climb_16 : decode cX2_climb 16 = .ok (.ireturn, 1) := by decide +kernel
theorem dX2_climb_17 : decode cX2_climb 17 = .ok (.iload_n 3, 1) := by decide +kernel
theorem dX2_climb_18 : decode cX2_climb 18 = .ok (.istore 4, 2) := by decide +kernel
theorem dX2_climb_20 : decode cX2_climb 20 = .ok (.iload 4, 2) := by decide +kernel
theorem dX2_climb_22 : decode cX2_climb 22 = .ok (.iconst 1, 1) := by decide +kernel
theorem dX2_climb_23 : decode cX2_climb 23 = .ok (.iadd, 1) := by decide +kernel
theorem dX2_climb_24 : decode cX2_climb 24 = .ok (.bipush 32, 2) := by decide +kernel
theorem dX2_climb_26 : decode cX2_climb 26 = .ok (.if_icmp .ge 24, 3) := by decide +kernel
theorem dX2_climb_29 : decode cX2_climb 29 = .ok (.aload_n 0, 1) := by decide +kernel
theorem dX2_climb_30 : decode cX2_climb 30 = .ok (.iload_n 1, 1) := by decide +kernel
theorem dX2_climb_31 : decode cX2_climb 31 = .ok (.iload_n 2, 1) := by decide +kernel
theorem dX2_climb_32 : decode cX2_climb 32 = .ok (.iload 4, 2) := by decide +kernel
theorem dX2_climb_34 : decode cX2_climb 34 = .ok (.iload 4, 2) := by decide +kernel
theorem dX2_climb_36 : decode cX2_climb 36 = .ok (.iconst 1, 1) := by decide +kernel
theorem dX2_climb_37 : decode cX2_climb 37 = .ok (.iadd, 1) := by decide +kernel
theorem dX2_climb_38 : decode cX2_climb 38 = .ok (.invokevirtual 72, 3) := by decide +kernel
theorem dX2_climb_41 : decode cX2_climb 41 = .ok (.ifCond .eq 9, 3) := by decide +kernel
theorem dX2_climb_44 : decode cX2_climb 44 = .ok (.iinc 4 1, 3) := by decide +kernel
theorem dX2_climb_47 : decode cX2_climb 47 = .ok (.goto (-27), 3) := by decide +kernel
theorem dX2_climb_50 : decode cX2_climb 50 = .ok (.iload 4, 2) := by decide +kernel
theorem dX2_climb_52 : decode cX2_climb 52 = .ok (.ireturn, 1) := by decide +kernel
set_option maxRecDepth 20000 in
theorem ggX2_first_X2_isAsked : GoodIn wsX2_first wsX2_isAsked := goodIn_r _ [4, 5, 6, 3, 7] (by decide +kernel) (by decide +kernel)
set_option maxRecDepth 20000 in
theorem gX2_first_X2_isAsked : GoodIn wsX2_first (va_wsS RX2 68 yX2_isAsked wsX2_isAsked) := goodIn_app (goodIn_of _ (by decide +kernel)) ggX2_first_X2_isAsked
set_option maxRecDepth 20000 in
theorem ggX2_first_X2_isString : GoodIn wsX2_first wsX2_isString := goodIn_r _ [10, 5, 6, 3, 7] (by decide +kernel) (by decide +kernel)
set_option maxRecDepth 20000 in
theorem gX2_first_X2_isString : GoodIn wsX2_first (va_wsS RX2 79 yX2_isString wsX2_isString) := goodIn_app (goodIn_of _ (by decide +kernel)) ggX2_first_X2_isString
set_option maxRecDepth 20000 in
theorem ggX2_first_X2_stands : GoodIn wsX2_first wsX2_stands := goodIn_r _ [14, 15, 16, 17, 18, 3, 19, 20, 21, 22, 23, 24, 25, 26, 27, 28, 29, 30, 31, 32, 33, 34, 35, 36, 37, 38, 39, 40, 41] (by decide +kernel) (by decide +kernel)
set_option maxRecDepth 20000 in
theorem gX2_first_X2_stands : GoodIn wsX2_first (wsV RX2 72 RX2 yX2_stands wsX2_stands) := goodIn_app (goodIn_of _ (by decide +kernel)) ggX2_first_X2_stands
theorem dX2_first_0 : decode cX2_first 0 = .ok (.iload_n 1, 1) := by decide +kernel
theorem dX2_first_1 : decode cX2_first 1 = .ok (.iload_n 2, 1) := by decide +kernel
theorem dX2_first_2 : decode cX2_first 2 = .ok (.invokestatic 68, 3) := by decide +kernel
theorem dX2_first_5 : decode cX2_first 5 = .ok (.ifCond .eq 10, 3) := by decide +kernel
theorem dX2_first_8 : decode cX2_first 8 = .ok (.iload_n 3, 1) := by decide +kernel
theorem dX2_first_9 : decode cX2_first 9 = .ok (.invokestatic 79, 3) := by decide +kernel
theorem dX2_first_12 : decode cX2_first 12 = .ok (.ifCond .ne 5, 3) := by decide +kernel
theorem dX2_first_15 : decode cX2_first 15 = .ok (.iconst (-1), 1) := by decide +kernel
theorem dX2_first_16 : decode cX2_first 16 = .ok (.ireturn, 1) := by decide +kernel
theorem dX2_first_17 : decode cX2_first 17 = .ok (.iload_n 3, 1) := by decide +kernel
theorem dX2_first_18 : decode cX2_first 18 = .ok (.istore 5, 2) := by decide +kernel
theorem dX2_first_20 : decode cX2_first 20 = .ok (.iload 5, 2) := by decide +kernel
theorem dX2_first_22 : decode cX2_first 22 = .ok (.bipush 32, 2) := by decide +kernel
theorem dX2_first_24 : decode cX2_first 24 = .ok (.if_icmp .ge 27, 3) := by decide +kernel
theorem dX2_first_27 : decode cX2_first 27 = .ok (.aload_n 0, 1) := by decide +kernel
theorem dX2_first_28 : decode cX2_first 28 = .ok (.iload_n 1, 1) := by decide +kernel
theorem dX2_first_29 : decode cX2_first 29 = .ok (.iload_n 2, 1) := by decide +kernel
theorem dX2_first_30 : decode cX2_first 30 = .ok (.iload 5, 2) := by decide +kernel
theorem dX2_first_32 : decode cX2_first 32 = .ok (.bipush 32, 2) := by decide +kernel
theorem dX2_first_34 : decode cX2_first 34 = .ok (.invokevirtual 72, 3) := by decide +kernel
theorem dX2_first_37 : decode cX2_first 37 = .ok (.iload 4, 2) := by decide +kernel
theorem dX2_first_39 : decode cX2_first 39 = .ok (.if_icmp .eq 6, 3) := by decide +kernel
theorem dX2_first_42 : decode cX2_first 42 = .ok (.iload 5, 2) := by decide +kernel
theorem dX2_first_44 : decode cX2_first 44 = .ok (.ireturn, 1) := by decide +kernel
theorem dX2_first_45 : decode cX2_first 45 = .ok (.iinc 5 1, 3) := by decide +kernel
theorem dX2_first_48 : decode cX2_first 48 = .ok (.goto (-28), 3) := by decide +kernel
theorem dX2_first_51 : decode cX2_first 51 = .ok (.iconst (-1), 1) := by decide +kernel
theorem dX2_first_52 : decode cX2_first 52 = .ok (.ireturn, 1) := by decide +kernel
set_option maxRecDepth 20000 in
theorem ggX2_best_X2_isAsked : GoodIn wsX2_best wsX2_isAsked := goodIn_r _ [4, 5, 6, 3, 7] (by decide +kernel) (by decide +kernel)
set_option maxRecDepth 20000 in
theorem gX2_best_X2_isAsked : GoodIn wsX2_best (va_wsS RX2 68 yX2_isAsked wsX2_isAsked) := goodIn_app (goodIn_of _ (by decide +kernel)) ggX2_best_X2_isAsked
set_option maxRecDepth 20000 in
theorem ggX2_best_X2_stands : GoodIn wsX2_best wsX2_stands := goodIn_r _ [11, 12, 13, 14, 15, 3, 16, 17, 18, 19, 20, 21, 22, 23, 24, 25, 26, 27, 28, 29, 30, 31, 32, 33, 34, 35, 36, 37, 38] (by decide +kernel) (by decide +kernel)
set_option maxRecDepth 20000 in
theorem gX2_best_X2_stands : GoodIn wsX2_best (wsV RX2 72 RX2 yX2_stands wsX2_stands) := goodIn_app (goodIn_of _ (by decide +kernel)) ggX2_best_X2_stands
theorem dX2_best_0 : decode cX2_best 0 = .ok (.iload_n 1, 1) := by decide +kernel
theorem dX2_best_1 : decode cX2_best 1 = .ok (.iload_n 2, 1) := by decide +kernel
theorem dX2_best_2 : decode cX2_best 2 = .ok (.invokestatic 68, 3) := by decide +kernel
theorem dX2_best_5 : decode cX2_best 5 = .ok (.ifCond .ne 5, 3) := by decide +kernel
theorem dX2_best_8 : decode cX2_best 8 = .ok (.iconst (-1), 1) := by decide +kernel
theorem dX2_best_9 : decode cX2_best 9 = .ok (.ireturn, 1) := by decide +kernel
theorem dX2_best_10 : decode cX2_best 10 = .ok (.iconst 0, 1) := by decide +kernel
theorem dX2_best_11 : decode cX2_best 11 = .ok (.istore 4, 2) := by decide +kernel
theorem dX2_best_13 : decode cX2_best 13 = .ok (.iconst 1, 1) := by decide +kernel
theorem dX2_best_14 : decode cX2_best 14 = .ok (.istore 5, 2) := by decide +kernel
theorem dX2_best_16 : decode cX2_best 16 = .ok (.iload 5, 2) := by decide +kernel
theorem dX2_best_18 : decode cX2_best 18 = .ok (.bipush 32, 2) := by decide +kernel
theorem dX2_best_20 : decode cX2_best 20 = .ok (.if_icmp .ge 27, 3) := by decide +kernel
theorem dX2_best_23 : decode cX2_best 23 = .ok (.aload_n 0, 1) := by decide +kernel
theorem dX2_best_24 : decode cX2_best 24 = .ok (.iload_n 1, 1) := by decide +kernel
theorem dX2_best_25 : decode cX2_best 25 = .ok (.iload_n 2, 1) := by decide +kernel
theorem dX2_best_26 : decode cX2_best 26 = .ok (.iload 5, 2) := by decide +kernel
theorem dX2_best_28 : decode cX2_best 28 = .ok (.iload 4, 2) := by decide +kernel
theorem dX2_best_30 : decode cX2_best 30 = .ok (.invokevirtual 72, 3) := by decide +kernel
theorem dX2_best_33 : decode cX2_best 33 = .ok (.iload_n 3, 1) := by decide +kernel
theorem dX2_best_34 : decode cX2_best 34 = .ok (.if_icmp .eq 7, 3) := by decide +kernel
theorem dX2_best_37 : decode cX2_best 37 = .ok (.iload 5, 2) := by decide +kernel
theorem dX2_best_39 : decode cX2_best 39 = .ok (.istore 4, 2) := by decide +kernel
theorem dX2_best_41 : decode cX2_best 41 = .ok (.iinc 5 1, 3) := by decide +kernel
theorem dX2_best_44 : decode cX2_best 44 = .ok (.goto (-28), 3) := by decide +kernel
theorem dX2_best_47 : decode cX2_best 47 = .ok (.iload 4, 2) := by decide +kernel
theorem dX2_best_49 : decode cX2_best 49 = .ok (.ireturn, 1) := by decide +kernel
set_option maxRecDepth 20000 in
theorem ggX2_pass_X2_isAsked : GoodIn wsX2_pass wsX2_isAsked := goodIn_r _ [7, 8, 9, 6, 10] (by decide +kernel) (by decide +kernel)
set_option maxRecDepth 20000 in
theorem gX2_pass_X2_isAsked : GoodIn wsX2_pass (va_wsS RX2 68 yX2_isAsked wsX2_isAsked) := goodIn_app (goodIn_of _ (by decide +kernel)) ggX2_pass_X2_isAsked
set_option maxRecDepth 20000 in
theorem ggX2_pass_X2_isString : GoodIn wsX2_pass wsX2_isString := goodIn_r _ [13, 8, 9, 6, 10] (by decide +kernel) (by decide +kernel)
set_option maxRecDepth 20000 in
theorem gX2_pass_X2_isString : GoodIn wsX2_pass (va_wsS RX2 79 yX2_isString wsX2_isString) := goodIn_app (goodIn_of _ (by decide +kernel)) ggX2_pass_X2_isString
set_option maxRecDepth 20000 in
theorem ggX2_pass_X2_stands : GoodIn wsX2_pass wsX2_stands := goodIn_r _ [17, 1, 2, 18, 19, 6, 20, 21, 22, 23, 24, 25, 26, 27, 28, 29, 30, 31, 32, 33, 34, 35, 36, 37, 38, 39, 40, 41, 42] (by decide +kernel) (by decide +kernel)
set_option maxRecDepth 20000 in
theorem gX2_pass_X2_stands : GoodIn wsX2_pass (wsV RX2 72 RX2 yX2_stands wsX2_stands) := goodIn_app (goodIn_of _ (by decide +kernel)) ggX2_pass_X2_stands
set_option maxRecDepth 20000 in
theorem ggX2_pass_X2_at : GoodIn wsX2_pass wsX2_at := goodIn_r _ [20] (by decide +kernel) (by decide +kernel)
set_option maxRecDepth 20000 in
theorem gX2_pass_X2_at : GoodIn wsX2_pass (va_wsS RX2 55 yX2_at wsX2_at) := goodIn_app (goodIn_of _ (by decide +kernel)) ggX2_pass_X2_at
theorem dX2_pass_0 : decode cX2_pass 0 = .ok (.iload_n 1, 1) := by decide +kernel
theorem dX2_pass_1 : decode cX2_pass 1 = .ok (.iload_n 2, 1) := by decide +kernel
theorem dX2_pass_2 : decode cX2_pass 2 = .ok (.invokestatic 68, 3) := by decide +kernel
theorem dX2_pass_5 : decode cX2_pass 5 = .ok (.ifCond .eq 24, 3) := by decide +kernel
theorem dX2_pass_8 : decode cX2_pass 8 = .ok (.iload_n 3, 1) := by decide +kernel
theorem dX2_pass_9 : decode cX2_pass 9 = .ok (.invokestatic 79, 3) := by decide +kernel
theorem dX2_pass_12 : decode cX2_pass 12 = .ok (.ifCond .eq 17, 3) := by decide +kernel
theorem dX2_pass_15 : decode cX2_pass 15 = .ok (.iload 4, 2) := by decide +kernel
theorem dX2_pass_17 : decode cX2_pass 17 = .ok (.invokestatic 79, 3) := by decide +kernel
theorem dX2_pass_20 : decode cX2_pass 20 = .ok (.ifCond .eq 9, 3) := by decide +kernel
theorem dX2_pass_23 : decode cX2_pass 23 = .ok (.iload_n 3, 1) := by decide +kernel
theorem dX2_pass_24 : decode cX2_pass 24 = .ok (.iload 4, 2) := by decide +kernel
theorem dX2_pass_26 : decode cX2_pass 26 = .ok (.if_icmp .le 5, 3) := by decide +kernel
theorem dX2_pass_29 : decode cX2_pass 29 = .ok (.iconst (-1), 1) := by decide +kernel
theorem dX2_pass_30 : decode cX2_pass 30 = .ok (.ireturn, 1) := by decide +kernel
theorem dX2_pass_31 : decode cX2_pass 31 = .ok (.iconst 0, 1) := by decide +kernel
theorem dX2_pass_32 : decode cX2_pass 32 = .ok (.istore 5, 2) := by decide +kernel
theorem dX2_pass_34 : decode cX2_pass 34 = .ok (.iload_n 3, 1) := by decide +kernel
theorem dX2_pass_35 : decode cX2_pass 35 = .ok (.istore 6, 2) := by decide +kernel
theorem dX2_pass_37 : decode cX2_pass 37 = .ok (.iload 6, 2) := by decide +kernel
theorem dX2_pass_39 : decode cX2_pass 39 = .ok (.iload 4, 2) := by decide +kernel
theorem dX2_pass_41 : decode cX2_pass 41 = .ok (.if_icmp .ge 110, 3) := by decide +kernel
theorem dX2_pass_44 : decode cX2_pass 44 = .ok (.aload_n 0, 1) := by decide +kernel
theorem dX2_pass_45 : decode cX2_pass 45 = .ok (.iload_n 1, 1) := by decide +kernel
theorem dX2_pass_46 : decode cX2_pass 46 = .ok (.iload_n 2, 1) := by decide +kernel
theorem dX2_pass_47 : decode cX2_pass 47 = .ok (.iload 6, 2) := by decide +kernel
theorem dX2_pass_49 : decode cX2_pass 49 = .ok (.iload 6, 2) := by decide +kernel
theorem dX2_pass_51 : decode cX2_pass 51 = .ok (.iconst 1, 1) := by decide +kernel
theorem dX2_pass_52 : decode cX2_pass 52 = .ok (.iadd, 1) := by decide +kernel
theorem dX2_pass_53 : decode cX2_pass 53 = .ok (.invokevirtual 72, 3) := by decide +kernel
theorem dX2_pass_56 : decode cX2_pass 56 = .ok (.ifCond .eq 6, 3) := by decide +kernel
theorem dX2_pass_59 : decode cX2_pass 59 = .ok (.goto 86, 3) := by decide +kernel
theorem dX2_pass_62 : decode cX2_pass 62 = .ok (.iload_n 1, 1) := by decide +kernel
theorem dX2_pass_63 : decode cX2_pass 63 = .ok (.iload 6, 2) := by decide +kernel
theorem dX2_pass_65 : decode cX2_pass 65 = .ok (.invokestatic 55, 3) := by decide +kernel
theorem dX2_pass_68 : decode cX2_pass 68 = .ok (.istore 7, 2) := by decide +kernel
theorem dX2_pass_70 : decode cX2_pass 70 = .ok (.aload_n 0, 1) := by decide +kernel
theorem dX2_pass_71 : decode cX2_pass 71 = .ok (.getfield 7, 3) := by decide +kernel
theorem dX2_pass_74 : decode cX2_pass 74 = .ok (.iload 7, 2) := by decide +kernel
theorem dX2_pass_76 : decode cX2_pass 76 = .ok (.iaload, 1) := by decide +kernel
theorem dX2_pass_77 : decode cX2_pass 77 = .ok (.istore 8, 2) := by decide +kernel
theorem dX2_pass_79 : decode cX2_pass 79 = .ok (.aload_n 0, 1) := by decide +kernel
theorem dX2_pass_80 : decode cX2_pass 80 = .ok (.getfield 13, 3) := by decide +kernel
theorem dX2_pass_83 : decode cX2_pass 83 = .ok (.iload 7, 2) := by decide +kernel
theorem dX2_pass_85 : decode cX2_pass 85 = .ok (.iaload, 1) := by decide +kernel
theorem dX2_pass_86 : decode cX2_pass 86 = .ok (.istore 9, 2) := by decide +kernel
theorem dX2_pass_88 : decode cX2_pass 88 = .ok (.aload_n 0, 1) := by decide +kernel
theorem dX2_pass_89 : decode cX2_pass 89 = .ok (.getfield 7, 3) := by decide +kernel
theorem dX2_pass_92 : decode cX2_pass 92 = .ok (.iload 7, 2) := by decide +kernel
theorem dX2_pass_94 : decode cX2_pass 94 = .ok (.aload_n 0, 1) := by decide +kernel
theorem dX2_pass_95 : decode cX2_pass 95 = .ok (.getfield 7, 3) := by decide +kernel
theorem dX2_pass_98 : decode cX2_pass 98 = .ok (.iload 7, 2) := by decide +kernel
theorem dX2_pass_100 : decode cX2_pass 100 = .ok (.iconst 1, 1) := by decide +kernel
theorem dX2_pass_101 : decode cX2_pass 101 = .ok (.iadd, 1) := by decide +kernel
theorem dX2_pass_102 : decode cX2_pass 102 = .ok (.iaload, 1) := by decide +kernel
theorem dX2_pass_103 : decode cX2_pass 103 = .ok (.iastore, 1) := by decide +kernel
theorem dX2_pass_104 : decode cX2_pass 104 = .ok (.aload_n 0, 1) := by decide +kernel
theorem dX2_pass_105 : decode cX2_pass 105 = .ok (.getfield 13, 3) := by decide +kernel
theorem dX2_pass_108 : decode cX2_pass 108 = .ok (.iload 7, 2) := by decide +kernel
theorem dX2_pass_110 : decode cX2_pass 110 = .ok (.aload_n 0, 1) := by decide +kernel
theorem dX2_pass_111 : decode cX2_pass 111 = .ok (.getfield 13, 3) := by decide +kernel
theorem dX2_pass_114 : decode cX2_pass 114 = .ok (.iload 7, 2) := by decide +kernel
end
section
theorem dX2_pass_116 : decode cX2_pass 116 = .ok (.iconst 1, 1) := by decide +kernel
theorem dX2_pass_117 : decode cX2_pass 117 = .ok (.iadd, 1) := by decide +kernel
theorem dX2_pass_118 : decode cX2_pass 118 = .ok (.iaload, 1) := by decide +kernel
theorem dX2_pass_119 : decode cX2_pass 119 = .ok (.iastore, 1) := by decide +kernel
theorem dX2_pass_120 : decode cX2_pass 120 = .ok (.aload_n 0, 1) := by decide +kernel
theorem dX2_pass_121 : decode cX2_pass 121 = .ok (.getfield 7, 3) := by decide +kernel
theorem dX2_pass_124 : decode cX2_pass 124 = .ok (.iload 7, 2) := by decide +kernel
theorem dX2_pass_126 : decode cX2_pass 126 = .ok (.iconst 1, 1) := by decide +kernel
theorem dX2_pass_127 : decode cX2_pass 127 = .ok (.iadd, 1) := by decide +kernel
theorem dX2_pass_128 : decode cX2_pass 128 = .ok (.iload 8, 2) := by decide +kernel
theorem dX2_pass_130 : decode cX2_pass 130 = .ok (.iastore, 1) := by decide +kernel
theorem dX2_pass_131 : decode cX2_pass 131 = .ok (.aload_n 0, 1) := by decide +kernel
theorem dX2_pass_132 : decode cX2_pass 132 = .ok (.getfield 13, 3) := by decide +kernel
theorem dX2_pass_135 : decode cX2_pass 135 = .ok (.iload 7, 2) := by decide +kernel
theorem dX2_pass_137 : decode cX2_pass 137 = .ok (.iconst 1, 1) := by decide +kernel
theorem dX2_pass_138 : decode cX2_pass 138 = .ok (.iadd, 1) := by decide +kernel
theorem dX2_pass_139 : decode cX2_pass 139 = .ok (.iload 9, 2) := by decide +kernel
theorem dX2_pass_141 : decode cX2_pass 141 = .ok (.iastore, 1) := by decide +kernel
theorem dX2_pass_142 : decode cX2_pass 142 = .ok (.iinc 5 1, 3) := by decide +kernel
theorem dX2_pass_145 : decode cX2_pass 145 = .ok (.iinc 6 1, 3) := by decide +kernel
theorem dX2_pass_148 : decode cX2_pass 148 = .ok (.goto (-111), 3) := by decide +kernel
theorem dX2_pass_151 : decode cX2_pass 151 = .ok (.aload_n 0, 1) := by decide +kernel
theorem dX2_pass_152 : decode cX2_pass 152 = .ok (.dup, 1) := by decide +kernel
theorem dX2_pass_153 : decode cX2_pass 153 = .ok (.getfield 82, 3) := by decide +kernel
theorem dX2_pass_156 : decode cX2_pass 156 = .ok (.iload 5, 2) := by decide +kernel
theorem dX2_pass_158 : decode cX2_pass 158 = .ok (.iadd, 1) := by decide +kernel
theorem dX2_pass_159 : decode cX2_pass 159 = .ok (.putfield 82, 3) := by decide +kernel
theorem dX2_pass_162 : decode cX2_pass 162 = .ok (.iload 5, 2) := by decide +kernel
theorem dX2_pass_164 : decode cX2_pass 164 = .ok (.ireturn, 1) := by decide +kernel
set_option maxRecDepth 20000 in
theorem ggX2_within_X2_in : GoodIn wsX2_within wsX2_in := goodIn_r _ [5] (by decide +kernel) (by decide +kernel)
set_option maxRecDepth 20000 in
theorem gX2_within_X2_in : GoodIn wsX2_within (va_wsS RX2 45 yX2_in wsX2_in) := goodIn_app (goodIn_of _ (by decide +kernel)) ggX2_within_X2_in
set_option maxRecDepth 20000 in
theorem ggX2_within_X2_isString : GoodIn wsX2_within wsX2_isString := goodIn_r _ [8, 2, 3, 4, 5] (by decide +kernel) (by decide +kernel)
set_option maxRecDepth 20000 in
theorem gX2_within_X2_isString : GoodIn wsX2_within (va_wsS RX2 79 yX2_isString wsX2_isString) := goodIn_app (goodIn_of _ (by decide +kernel)) ggX2_within_X2_isString
set_option maxRecDepth 20000 in
theorem ggX2_within_X2_isStringOrFork : GoodIn wsX2_within wsX2_isStringOrFork := goodIn_r _ [11, 2, 3, 4, 5] (by decide +kernel) (by decide +kernel)
set_option maxRecDepth 20000 in
theorem gX2_within_X2_isStringOrFork : GoodIn wsX2_within (va_wsS RX2 62 yX2_isStringOrFork wsX2_isStringOrFork) := goodIn_app (goodIn_of _ (by decide +kernel)) ggX2_within_X2_isStringOrFork
set_option maxRecDepth 20000 in
theorem ggX2_within_X2_stands : GoodIn wsX2_within wsX2_stands := goodIn_r _ [15, 1, 16, 17, 18, 4, 19, 20, 21, 22, 23, 24, 25, 26, 27, 28, 29, 30, 31, 32, 33, 34, 35, 36, 37, 38, 39, 40, 41] (by decide +kernel) (by decide +kernel)
set_option maxRecDepth 20000 in
theorem gX2_within_X2_stands : GoodIn wsX2_within (wsV RX2 72 RX2 yX2_stands wsX2_stands) := goodIn_app (goodIn_of _ (by decide +kernel)) ggX2_within_X2_stands
set_option maxRecDepth 20000 in
theorem ggX2_within_X2_at : GoodIn wsX2_within wsX2_at := goodIn_r _ [19] (by decide +kernel) (by decide +kernel)
set_option maxRecDepth 20000 in
theorem gX2_within_X2_at : GoodIn wsX2_within (va_wsS RX2 55 yX2_at wsX2_at) := goodIn_app (goodIn_of _ (by decide +kernel)) ggX2_within_X2_at
theorem dX2_within_0 : decode cX2_within 0 = .ok (.iload_n 1, 1) := by decide +kernel
theorem dX2_within_1 : decode cX2_within 1 = .ok (.iconst 0, 1) := by decide +kernel
theorem dX2_within_2 : decode cX2_within 2 = .ok (.iconst 1, 1) := by decide +kernel
theorem dX2_within_3 : decode cX2_within 3 = .ok (.invokestatic 45, 3) := by decide +kernel
theorem dX2_within_6 : decode cX2_within 6 = .ok (.ifCond .eq 25, 3) := by decide +kernel
theorem dX2_within_9 : decode cX2_within 9 = .ok (.iload_n 2, 1) := by decide +kernel
theorem dX2_within_10 : decode cX2_within 10 = .ok (.invokestatic 79, 3) := by decide +kernel
theorem dX2_within_13 : decode cX2_within 13 = .ok (.ifCond .eq 18, 3) := by decide +kernel
theorem dX2_within_16 : decode cX2_within 16 = .ok (.iload_n 3, 1) := by decide +kernel
theorem dX2_within_17 : decode cX2_within 17 = .ok (.invokestatic 62, 3) := by decide +kernel
theorem dX2_within_20 : decode cX2_within 20 = .ok (.ifCond .eq 11, 3) := by decide +kernel
theorem dX2_within_23 : decode cX2_within 23 = .ok (.iload 4, 2) := by decide +kernel
theorem dX2_within_25 : decode cX2_within 25 = .ok (.invokestatic 62, 3) := by decide +kernel
theorem dX2_within_28 : decode cX2_within 28 = .ok (.ifCond .ne 5, 3) := by decide +kernel
theorem dX2_within_31 : decode cX2_within 31 = .ok (.iconst (-1), 1) := by decide +kernel
theorem dX2_within_32 : decode cX2_within 32 = .ok (.ireturn, 1) := by decide +kernel
theorem dX2_within_33 : decode cX2_within 33 = .ok (.iconst 0, 1) := by decide +kernel
theorem dX2_within_34 : decode cX2_within 34 = .ok (.istore 5, 2) := by decide +kernel
theorem dX2_within_36 : decode cX2_within 36 = .ok (.aload_n 0, 1) := by decide +kernel
theorem dX2_within_37 : decode cX2_within 37 = .ok (.iload_n 1, 1) := by decide +kernel
theorem dX2_within_38 : decode cX2_within 38 = .ok (.iconst 3, 1) := by decide +kernel
theorem dX2_within_39 : decode cX2_within 39 = .ok (.iload_n 2, 1) := by decide +kernel
theorem dX2_within_40 : decode cX2_within 40 = .ok (.iload_n 3, 1) := by decide +kernel
theorem dX2_within_41 : decode cX2_within 41 = .ok (.invokevirtual 72, 3) := by decide +kernel
theorem dX2_within_44 : decode cX2_within 44 = .ok (.ifCond .eq 18, 3) := by decide +kernel
theorem dX2_within_47 : decode cX2_within 47 = .ok (.aload_n 0, 1) := by decide +kernel
theorem dX2_within_48 : decode cX2_within 48 = .ok (.iload_n 1, 1) := by decide +kernel
theorem dX2_within_49 : decode cX2_within 49 = .ok (.iconst 1, 1) := by decide +kernel
theorem dX2_within_50 : decode cX2_within 50 = .ok (.iload_n 2, 1) := by decide +kernel
theorem dX2_within_51 : decode cX2_within 51 = .ok (.iload 4, 2) := by decide +kernel
theorem dX2_within_53 : decode cX2_within 53 = .ok (.invokevirtual 72, 3) := by decide +kernel
theorem dX2_within_56 : decode cX2_within 56 = .ok (.ifCond .eq 6, 3) := by decide +kernel
theorem dX2_within_59 : decode cX2_within 59 = .ok (.iinc 5 1, 3) := by decide +kernel
theorem dX2_within_62 : decode cX2_within 62 = .ok (.aload_n 0, 1) := by decide +kernel
theorem dX2_within_63 : decode cX2_within 63 = .ok (.iload_n 1, 1) := by decide +kernel
theorem dX2_within_64 : decode cX2_within 64 = .ok (.iconst 0, 1) := by decide +kernel
theorem dX2_within_65 : decode cX2_within 65 = .ok (.iload_n 2, 1) := by decide +kernel
theorem dX2_within_66 : decode cX2_within 66 = .ok (.iload_n 3, 1) := by decide +kernel
theorem dX2_within_67 : decode cX2_within 67 = .ok (.invokevirtual 72, 3) := by decide +kernel
theorem dX2_within_70 : decode cX2_within 70 = .ok (.ifCond .ne 18, 3) := by decide +kernel
theorem dX2_within_73 : decode cX2_within 73 = .ok (.aload_n 0, 1) := by decide +kernel
theorem dX2_within_74 : decode cX2_within 74 = .ok (.iload_n 1, 1) := by decide +kernel
theorem dX2_within_75 : decode cX2_within 75 = .ok (.iconst 2, 1) := by decide +kernel
theorem dX2_within_76 : decode cX2_within 76 = .ok (.iload_n 2, 1) := by decide +kernel
theorem dX2_within_77 : decode cX2_within 77 = .ok (.iload 4, 2) := by decide +kernel
theorem dX2_within_79 : decode cX2_within 79 = .ok (.invokevirtual 72, 3) := by decide +kernel
theorem dX2_within_82 : decode cX2_within 82 = .ok (.ifCond .ne 6, 3) := by decide +kernel
theorem dX2_within_85 : decode cX2_within 85 = .ok (.iinc 5 2, 3) := by decide +kernel
theorem dX2_within_88 : decode cX2_within 88 = .ok (.aload_n 0, 1) := by decide +kernel
theorem dX2_within_89 : decode cX2_within 89 = .ok (.iload_n 1, 1) := by decide +kernel
theorem dX2_within_90 : decode cX2_within 90 = .ok (.iconst 0, 1) := by decide +kernel
theorem dX2_within_91 : decode cX2_within 91 = .ok (.iload_n 2, 1) := by decide +kernel
theorem dX2_within_92 : decode cX2_within 92 = .ok (.iload_n 3, 1) := by decide +kernel
theorem dX2_within_93 : decode cX2_within 93 = .ok (.invokevirtual 72, 3) := by decide +kernel
theorem dX2_within_96 : decode cX2_within 96 = .ok (.ifCond .ne 15, 3) := by decide +kernel
theorem dX2_within_99 : decode cX2_within 99 = .ok (.aload_n 0, 1) := by decide +kernel
theorem dX2_within_100 : decode cX2_within 100 = .ok (.iload_n 1, 1) := by decide +kernel
theorem dX2_within_101 : decode cX2_within 101 = .ok (.iconst 2, 1) := by decide +kernel
theorem dX2_within_102 : decode cX2_within 102 = .ok (.iload_n 2, 1) := by decide +kernel
theorem dX2_within_103 : decode cX2_within 103 = .ok (.iload 4, 2) := by decide +kernel
theorem dX2_within_105 : decode cX2_within 105 = .ok (.invokevirtual 72, 3) := by decide +kernel
theorem dX2_within_108 : decode cX2_within 108 = .ok (.ifCond .eq 6, 3) := by decide +kernel
theorem dX2_within_111 : decode cX2_within 111 = .ok (.iinc 5 4, 3) := by decide +kernel
theorem dX2_within_114 : decode cX2_within 114 = .ok (.aload_n 0, 1) := by decide +kernel
theorem dX2_within_115 : decode cX2_within 115 = .ok (.getfield 7, 3) := by decide +kernel
theorem dX2_within_118 : decode cX2_within 118 = .ok (.iload_n 1, 1) := by decide +kernel
theorem dX2_within_119 : decode cX2_within 119 = .ok (.iload_n 2, 1) := by decide +kernel
theorem dX2_within_120 : decode cX2_within 120 = .ok (.invokestatic 55, 3) := by decide +kernel
theorem dX2_within_123 : decode cX2_within 123 = .ok (.iaload, 1) := by decide +kernel
theorem dX2_within_124 : decode cX2_within 124 = .ok (.iconst 1, 1) := by decide +kernel
theorem dX2_within_125 : decode cX2_within 125 = .ok (.if_icmp .ne 6, 3) := by decide +kernel
theorem dX2_within_128 : decode cX2_within 128 = .ok (.iinc 5 8, 3) := by decide +kernel
theorem dX2_within_131 : decode cX2_within 131 = .ok (.iload 5, 2) := by decide +kernel
theorem dX2_within_133 : decode cX2_within 133 = .ok (.ireturn, 1) := by decide +kernel
set_option maxRecDepth 20000 in
theorem ggX2_guard_X2_in : GoodIn wsX2_guard wsX2_in := goodIn_r _ [15] (by decide +kernel) (by decide +kernel)
set_option maxRecDepth 20000 in
theorem gX2_guard_X2_in : GoodIn wsX2_guard (va_wsS RX2 45 yX2_in wsX2_in) := goodIn_app (goodIn_of _ (by decide +kernel)) ggX2_guard_X2_in
set_option maxRecDepth 20000 in
theorem ggX2_guard_X2_isAsked : GoodIn wsX2_guard wsX2_isAsked := goodIn_r _ [18, 12, 13, 14, 15] (by decide +kernel) (by decide +kernel)
set_option maxRecDepth 20000 in
theorem gX2_guard_X2_isAsked : GoodIn wsX2_guard (va_wsS RX2 68 yX2_isAsked wsX2_isAsked) := goodIn_app (goodIn_of _ (by decide +kernel)) ggX2_guard_X2_isAsked
set_option maxRecDepth 20000 in
theorem ggX2_guard_X2_isString : GoodIn wsX2_guard wsX2_isString := goodIn_r _ [21, 12, 13, 14, 15] (by decide +kernel) (by decide +kernel)
set_option maxRecDepth 20000 in
theorem gX2_guard_X2_isString : GoodIn wsX2_guard (va_wsS RX2 79 yX2_isString wsX2_isString) := goodIn_app (goodIn_of _ (by decide +kernel)) ggX2_guard_X2_isString
set_option maxRecDepth 20000 in
theorem ggX2_guard_X2_at : GoodIn wsX2_guard wsX2_at := goodIn_r _ [24] (by decide +kernel) (by decide +kernel)
set_option maxRecDepth 20000 in
theorem gX2_guard_X2_at : GoodIn wsX2_guard (va_wsS RX2 55 yX2_at wsX2_at) := goodIn_app (goodIn_of _ (by decide +kernel)) ggX2_guard_X2_at
theorem dX2_guard_0 : decode cX2_guard 0 = .ok (.iload_n 1, 1) := by decide +kernel
theorem dX2_guard_1 : decode cX2_guard 1 = .ok (.iconst 0, 1) := by decide +kernel
theorem dX2_guard_2 : decode cX2_guard 2 = .ok (.bipush 7, 2) := by decide +kernel
theorem dX2_guard_4 : decode cX2_guard 4 = .ok (.invokestatic 45, 3) := by decide +kernel
theorem dX2_guard_7 : decode cX2_guard 7 = .ok (.ifCond .eq 29, 3) := by decide +kernel
theorem dX2_guard_10 : decode cX2_guard 10 = .ok (.iload_n 2, 1) := by decide +kernel
theorem dX2_guard_11 : decode cX2_guard 11 = .ok (.iload_n 3, 1) := by decide +kernel
theorem dX2_guard_12 : decode cX2_guard 12 = .ok (.invokestatic 68, 3) := by decide +kernel
theorem dX2_guard_15 : decode cX2_guard 15 = .ok (.ifCond .eq 21, 3) := by decide +kernel
theorem dX2_guard_18 : decode cX2_guard 18 = .ok (.iload 4, 2) := by decide +kernel
theorem dX2_guard_20 : decode cX2_guard 20 = .ok (.invokestatic 79, 3) := by decide +kernel
theorem dX2_guard_23 : decode cX2_guard 23 = .ok (.ifCond .eq 13, 3) := by decide +kernel
theorem dX2_guard_26 : decode cX2_guard 26 = .ok (.iload 5, 2) := by decide +kernel
theorem dX2_guard_28 : decode cX2_guard 28 = .ok (.iconst 0, 1) := by decide +kernel
theorem dX2_guard_29 : decode cX2_guard 29 = .ok (.iconst 2, 1) := by decide +kernel
theorem dX2_guard_30 : decode cX2_guard 30 = .ok (.invokestatic 45, 3) := by decide +kernel
theorem dX2_guard_33 : decode cX2_guard 33 = .ok (.ifCond .ne 5, 3) := by decide +kernel
theorem dX2_guard_36 : decode cX2_guard 36 = .ok (.iconst 0, 1) := by decide +kernel
theorem dX2_guard_37 : decode cX2_guard 37 = .ok (.ireturn, 1) := by decide +kernel
theorem dX2_guard_38 : decode cX2_guard 38 = .ok (.aload_n 0, 1) := by decide +kernel
theorem dX2_guard_39 : decode cX2_guard 39 = .ok (.dup, 1) := by decide +kernel
theorem dX2_guard_40 : decode cX2_guard 40 = .ok (.getfield 85, 3) := by decide +kernel
theorem dX2_guard_43 : decode cX2_guard 43 = .ok (.aload_n 0, 1) := by decide +kernel
theorem dX2_guard_44 : decode cX2_guard 44 = .ok (.getfield 20, 3) := by decide +kernel
theorem dX2_guard_47 : decode cX2_guard 47 = .ok (.iload_n 1, 1) := by decide +kernel
theorem dX2_guard_48 : decode cX2_guard 48 = .ok (.baload, 1) := by decide +kernel
theorem dX2_guard_49 : decode cX2_guard 49 = .ok (.ifCond .eq 7, 3) := by decide +kernel
theorem dX2_guard_52 : decode cX2_guard 52 = .ok (.iconst 0, 1) := by decide +kernel
theorem dX2_guard_53 : decode cX2_guard 53 = .ok (.goto 4, 3) := by decide +kernel
theorem dX2_guard_56 : decode cX2_guard 56 = .ok (.iconst 1, 1) := by decide +kernel
theorem dX2_guard_57 : decode cX2_guard 57 = .ok (.iadd, 1) := by decide +kernel
theorem dX2_guard_58 : decode cX2_guard 58 = .ok (.putfield 85, 3) := by decide +kernel
theorem dX2_guard_61 : decode cX2_guard 61 = .ok (.aload_n 0, 1) := by decide +kernel
theorem dX2_guard_62 : decode cX2_guard 62 = .ok (.getfield 20, 3) := by decide +kernel
theorem dX2_guard_65 : decode cX2_guard 65 = .ok (.iload_n 1, 1) := by decide +kernel
theorem dX2_guard_66 : decode cX2_guard 66 = .ok (.iconst 1, 1) := by decide +kernel
theorem dX2_guard_67 : decode cX2_guard 67 = .ok (.bastore, 1) := by decide +kernel
theorem dX2_guard_68 : decode cX2_guard 68 = .ok (.aload_n 0, 1) := by decide +kernel
theorem dX2_guard_69 : decode cX2_guard 69 = .ok (.getfield 24, 3) := by decide +kernel
theorem dX2_guard_72 : decode cX2_guard 72 = .ok (.iload_n 1, 1) := by decide +kernel
theorem dX2_guard_73 : decode cX2_guard 73 = .ok (.iload_n 2, 1) := by decide +kernel
theorem dX2_guard_74 : decode cX2_guard 74 = .ok (.iastore, 1) := by decide +kernel
theorem dX2_guard_75 : decode cX2_guard 75 = .ok (.aload_n 0, 1) := by decide +kernel
theorem dX2_guard_76 : decode cX2_guard 76 = .ok (.getfield 27, 3) := by decide +kernel
theorem dX2_guard_79 : decode cX2_guard 79 = .ok (.iload_n 1, 1) := by decide +kernel
theorem dX2_guard_80 : decode cX2_guard 80 = .ok (.iload_n 3, 1) := by decide +kernel
theorem dX2_guard_81 : decode cX2_guard 81 = .ok (.iastore, 1) := by decide +kernel
theorem dX2_guard_82 : decode cX2_guard 82 = .ok (.aload_n 0, 1) := by decide +kernel
theorem dX2_guard_83 : decode cX2_guard 83 = .ok (.getfield 30, 3) := by decide +kernel
theorem dX2_guard_86 : decode cX2_guard 86 = .ok (.iload_n 1, 1) := by decide +kernel
theorem dX2_guard_87 : decode cX2_guard 87 = .ok (.iload 5, 2) := by decide +kernel
theorem dX2_guard_89 : decode cX2_guard 89 = .ok (.iastore, 1) := by decide +kernel
theorem dX2_guard_90 : decode cX2_guard 90 = .ok (.aload_n 0, 1) := by decide +kernel
theorem dX2_guard_91 : decode cX2_guard 91 = .ok (.getfield 33, 3) := by decide +kernel
theorem dX2_guard_94 : decode cX2_guard 94 = .ok (.iload_n 1, 1) := by decide +kernel
theorem dX2_guard_95 : decode cX2_guard 95 = .ok (.aload_n 0, 1) := by decide +kernel
theorem dX2_guard_96 : decode cX2_guard 96 = .ok (.getfield 7, 3) := by decide +kernel
theorem dX2_guard_99 : decode cX2_guard 99 = .ok (.iload_n 2, 1) := by decide +kernel
theorem dX2_guard_100 : decode cX2_guard 100 = .ok (.iload 4, 2) := by decide +kernel
theorem dX2_guard_102 : decode cX2_guard 102 = .ok (.invokestatic 55, 3) := by decide +kernel
theorem dX2_guard_105 : decode cX2_guard 105 = .ok (.iaload, 1) := by decide +kernel
theorem dX2_guard_106 : decode cX2_guard 106 = .ok (.iastore, 1) := by decide +kernel
theorem dX2_guard_107 : decode cX2_guard 107 = .ok (.aload_n 0, 1) := by decide +kernel
theorem dX2_guard_108 : decode cX2_guard 108 = .ok (.getfield 36, 3) := by decide +kernel
theorem dX2_guard_111 : decode cX2_guard 111 = .ok (.iload_n 1, 1) := by decide +kernel
theorem dX2_guard_112 : decode cX2_guard 112 = .ok (.aload_n 0, 1) := by decide +kernel
theorem dX2_guard_113 : decode cX2_guard 113 = .ok (.getfield 13, 3) := by decide +kernel
theorem dX2_guard_116 : decode cX2_guard 116 = .ok (.iload_n 2, 1) := by decide +kernel
theorem dX2_guard_117 : decode cX2_guard 117 = .ok (.iload 4, 2) := by decide +kernel
theorem dX2_guard_119 : decode cX2_guard 119 = .ok (.invokestatic 55, 3) := by decide +kernel
theorem dX2_guard_122 : decode cX2_guard 122 = .ok (.iaload, 1) := by decide +kernel
theorem dX2_guard_123 : decode cX2_guard 123 = .ok (.iastore, 1) := by decide +kernel
theorem dX2_guard_124 : decode cX2_guard 124 = .ok (.aload_n 0, 1) := by decide +kernel
theorem dX2_guard_125 : decode cX2_guard 125 = .ok (.getfield 39, 3) := by decide +kernel
theorem dX2_guard_128 : decode cX2_guard 128 = .ok (.iload_n 1, 1) := by decide +kernel
theorem dX2_guard_129 : decode cX2_guard 129 = .ok (.iconst 0, 1) := by decide +kernel
theorem dX2_guard_130 : decode cX2_guard 130 = .ok (.bastore, 1) := by decide +kernel
theorem dX2_guard_131 : decode cX2_guard 131 = .ok (.aload_n 0, 1) := by decide +kernel
theorem dX2_guard_132 : decode cX2_guard 132 = .ok (.getfield 42, 3) := by decide +kernel
theorem dX2_guard_135 : decode cX2_guard 135 = .ok (.iload_n 1, 1) := by decide +kernel
theorem dX2_guard_136 : decode cX2_guard 136 = .ok (.iconst 0, 1) := by decide +kernel
theorem dX2_guard_137 : decode cX2_guard 137 = .ok (.iastore, 1) := by decide +kernel
theorem dX2_guard_138 : decode cX2_guard 138 = .ok (.iconst 1, 1) := by decide +kernel
theorem dX2_guard_139 : decode cX2_guard 139 = .ok (.ireturn, 1) := by decide +kernel
set_option maxRecDepth 20000 in
theorem ggX2_look_X2_at : GoodIn wsX2_look wsX2_at := goodIn_r _ [14] (by decide +kernel) (by decide +kernel)
set_option maxRecDepth 20000 in
theorem gX2_look_X2_at : GoodIn wsX2_look (va_wsS RX2 55 yX2_at wsX2_at) := goodIn_app (goodIn_of _ (by decide +kernel)) ggX2_look_X2_at
set_option maxRecDepth 20000 in
theorem ggX2_look_X2_goes : GoodIn wsX2_look wsX2_goes := goodIn_r _ [17, 18, 19, 13, 20, 21, 22] (by decide +kernel) (by decide +kernel)
set_option maxRecDepth 20000 in
theorem gX2_look_X2_goes : GoodIn wsX2_look (va_wsS RX2 58 yX2_goes wsX2_goes) := goodIn_app (goodIn_of _ (by decide +kernel)) ggX2_look_X2_goes
theorem dX2_look_0 : decode cX2_look 0 = .ok (.iconst 0, 1) := by decide +kernel
theorem dX2_look_1 : decode cX2_look 1 = .ok (.istore_n 1, 1) := by decide +kernel
theorem dX2_look_2 : decode cX2_look 2 = .ok (.iconst 0, 1) := by decide +kernel
theorem dX2_look_3 : decode cX2_look 3 = .ok (.istore_n 2, 1) := by decide +kernel
theorem dX2_look_4 : decode cX2_look 4 = .ok (.iload_n 2, 1) := by decide +kernel
theorem dX2_look_5 : decode cX2_look 5 = .ok (.bipush 8, 2) := by decide +kernel
theorem dX2_look_7 : decode cX2_look 7 = .ok (.if_icmp .ge 155, 3) := by decide +kernel
theorem dX2_look_10 : decode cX2_look 10 = .ok (.aload_n 0, 1) := by decide +kernel
theorem dX2_look_11 : decode cX2_look 11 = .ok (.getfield 20, 3) := by decide +kernel
theorem dX2_look_14 : decode cX2_look 14 = .ok (.iload_n 2, 1) := by decide +kernel
theorem dX2_look_15 : decode cX2_look 15 = .ok (.baload, 1) := by decide +kernel
theorem dX2_look_16 : decode cX2_look 16 = .ok (.ifCond .ne 6, 3) := by decide +kernel
theorem dX2_look_19 : decode cX2_look 19 = .ok (.goto 137, 3) := by decide +kernel
theorem dX2_look_22 : decode cX2_look 22 = .ok (.aload_n 0, 1) := by decide +kernel
theorem dX2_look_23 : decode cX2_look 23 = .ok (.getfield 24, 3) := by decide +kernel
theorem dX2_look_26 : decode cX2_look 26 = .ok (.iload_n 2, 1) := by decide +kernel
theorem dX2_look_27 : decode cX2_look 27 = .ok (.iaload, 1) := by decide +kernel
theorem dX2_look_28 : decode cX2_look 28 = .ok (.bipush 32, 2) := by decide +kernel
theorem dX2_look_30 : decode cX2_look 30 = .ok (.invokestatic 55, 3) := by decide +kernel
theorem dX2_look_33 : decode cX2_look 33 = .ok (.istore_n 3, 1) := by decide +kernel
theorem dX2_look_34 : decode cX2_look 34 = .ok (.aload_n 0, 1) := by decide +kernel
theorem dX2_look_35 : decode cX2_look 35 = .ok (.getfield 27, 3) := by decide +kernel
theorem dX2_look_38 : decode cX2_look 38 = .ok (.iload_n 2, 1) := by decide +kernel
theorem dX2_look_39 : decode cX2_look 39 = .ok (.iaload, 1) := by decide +kernel
theorem dX2_look_40 : decode cX2_look 40 = .ok (.aload_n 0, 1) := by decide +kernel
theorem dX2_look_41 : decode cX2_look 41 = .ok (.getfield 7, 3) := by decide +kernel
theorem dX2_look_44 : decode cX2_look 44 = .ok (.iload_n 3, 1) := by decide +kernel
theorem dX2_look_45 : decode cX2_look 45 = .ok (.iaload, 1) := by decide +kernel
theorem dX2_look_46 : decode cX2_look 46 = .ok (.aload_n 0, 1) := by decide +kernel
theorem dX2_look_47 : decode cX2_look 47 = .ok (.getfield 13, 3) := by decide +kernel
theorem dX2_look_50 : decode cX2_look 50 = .ok (.iload_n 3, 1) := by decide +kernel
theorem dX2_look_51 : decode cX2_look 51 = .ok (.iaload, 1) := by decide +kernel
theorem dX2_look_52 : decode cX2_look 52 = .ok (.aload_n 0, 1) := by decide +kernel
theorem dX2_look_53 : decode cX2_look 53 = .ok (.getfield 33, 3) := by decide +kernel
theorem dX2_look_56 : decode cX2_look 56 = .ok (.iload_n 2, 1) := by decide +kernel
theorem dX2_look_57 : decode cX2_look 57 = .ok (.iaload, 1) := by decide +kernel
theorem dX2_look_58 : decode cX2_look 58 = .ok (.aload_n 0, 1) := by decide +kernel
theorem dX2_look_59 : decode cX2_look 59 = .ok (.getfield 36, 3) := by decide +kernel
theorem dX2_look_62 : decode cX2_look 62 = .ok (.iload_n 2, 1) := by decide +kernel
theorem dX2_look_63 : decode cX2_look 63 = .ok (.iaload, 1) := by decide +kernel
theorem dX2_look_64 : decode cX2_look 64 = .ok (.invokestatic 58, 3) := by decide +kernel
theorem dX2_look_67 : decode cX2_look 67 = .ok (.istore 4, 2) := by decide +kernel
theorem dX2_look_69 : decode cX2_look 69 = .ok (.aload_n 0, 1) := by decide +kernel
theorem dX2_look_70 : decode cX2_look 70 = .ok (.getfield 30, 3) := by decide +kernel
theorem dX2_look_73 : decode cX2_look 73 = .ok (.iload_n 2, 1) := by decide +kernel
theorem dX2_look_74 : decode cX2_look 74 = .ok (.iaload, 1) := by decide +kernel
theorem dX2_look_75 : decode cX2_look 75 = .ok (.ifCond .ne 8, 3) := by decide +kernel
theorem dX2_look_78 : decode cX2_look 78 = .ok (.iload 4, 2) := by decide +kernel
theorem dX2_look_80 : decode cX2_look 80 = .ok (.goto 42, 3) := by decide +kernel
theorem dX2_look_83 : decode cX2_look 83 = .ok (.aload_n 0, 1) := by decide +kernel
theorem dX2_look_84 : decode cX2_look 84 = .ok (.getfield 30, 3) := by decide +kernel
theorem dX2_look_87 : decode cX2_look 87 = .ok (.iload_n 2, 1) := by decide +kernel
theorem dX2_look_88 : decode cX2_look 88 = .ok (.iaload, 1) := by decide +kernel
theorem dX2_look_89 : decode cX2_look 89 = .ok (.iconst 1, 1) := by decide +kernel
theorem dX2_look_90 : decode cX2_look 90 = .ok (.if_icmp .ne 16, 3) := by decide +kernel
theorem dX2_look_93 : decode cX2_look 93 = .ok (.iload 4, 2) := by decide +kernel
theorem dX2_look_95 : decode cX2_look 95 = .ok (.ifCond .ne 7, 3) := by decide +kernel
theorem dX2_look_98 : decode cX2_look 98 = .ok (.iconst 1, 1) := by decide +kernel
theorem dX2_look_99 : decode cX2_look 99 = .ok (.goto 23, 3) := by decide +kernel
theorem dX2_look_102 : decode cX2_look 102 = .ok (.iconst 0, 1) := by decide +kernel
theorem dX2_look_103 : decode cX2_look 103 = .ok (.goto 19, 3) := by decide +kernel
theorem dX2_look_106 : decode cX2_look 106 = .ok (.iload 4, 2) := by decide +kernel
theorem dX2_look_108 : decode cX2_look 108 = .ok (.aload_n 0, 1) := by decide +kernel
theorem dX2_look_109 : decode cX2_look 109 = .ok (.getfield 39, 3) := by decide +kernel
theorem dX2_look_112 : decode cX2_look 112 = .ok (.iload_n 2, 1) := by decide +kernel
theorem dX2_look_113 : decode cX2_look 113 = .ok (.baload, 1) := by decide +kernel
theorem dX2_look_114 : decode cX2_look 114 = .ok (.if_icmp .eq 7, 3) := by decide +kernel
theorem dX2_look_117 : decode cX2_look 117 = .ok (.iconst 1, 1) := by decide +kernel
theorem dX2_look_118 : decode cX2_look 118 = .ok (.goto 4, 3) := by decide +kernel
theorem dX2_look_121 : decode cX2_look 121 = .ok (.iconst 0, 1) := by decide +kernel
theorem dX2_look_122 : decode cX2_look 122 = .ok (.istore 5, 2) := by decide +kernel
theorem dX2_look_124 : decode cX2_look 124 = .ok (.aload_n 0, 1) := by decide +kernel
theorem dX2_look_125 : decode cX2_look 125 = .ok (.getfield 39, 3) := by decide +kernel
theorem dX2_look_128 : decode cX2_look 128 = .ok (.iload_n 2, 1) := by decide +kernel
theorem dX2_look_129 : decode cX2_look 129 = .ok (.iload 4, 2) := by decide +kernel
theorem dX2_look_131 : decode cX2_look 131 = .ok (.bastore, 1) := by decide +kernel
theorem dX2_look_132 : decode cX2_look 132 = .ok (.iload 5, 2) := by decide +kernel
theorem dX2_look_134 : decode cX2_look 134 = .ok (.ifCond .ne 6, 3) := by decide +kernel
theorem dX2_look_137 : decode cX2_look 137 = .ok (.goto 19, 3) := by decide +kernel
theorem dX2_look_140 : decode cX2_look 140 = .ok (.aload_n 0, 1) := by decide +kernel
theorem dX2_look_141 : decode cX2_look 141 = .ok (.getfield 42, 3) := by decide +kernel
theorem dX2_look_144 : decode cX2_look 144 = .ok (.iload_n 2, 1) := by decide +kernel
theorem dX2_look_145 : decode cX2_look 145 = .ok (.dup2, 1) := by decide +kernel
theorem dX2_look_146 : decode cX2_look 146 = .ok (.iaload, 1) := by decide +kernel
theorem dX2_look_147 : decode cX2_look 147 = .ok (.iconst 1, 1) := by decide +kernel
theorem dX2_look_148 : decode cX2_look 148 = .ok (.iadd, 1) := by decide +kernel
theorem dX2_look_149 : decode cX2_look 149 = .ok (.iastore, 1) := by decide +kernel
theorem dX2_look_150 : decode cX2_look 150 = .ok (.iload_n 1, 1) := by decide +kernel
theorem dX2_look_151 : decode cX2_look 151 = .ok (.iconst 1, 1) := by decide +kernel
theorem dX2_look_152 : decode cX2_look 152 = .ok (.iload_n 2, 1) := by decide +kernel
theorem dX2_look_153 : decode cX2_look 153 = .ok (.ishl, 1) := by decide +kernel
theorem dX2_look_154 : decode cX2_look 154 = .ok (.iadd, 1) := by decide +kernel
theorem dX2_look_155 : decode cX2_look 155 = .ok (.istore_n 1, 1) := by decide +kernel
theorem dX2_look_156 : decode cX2_look 156 = .ok (.iinc 2 1, 3) := by decide +kernel
theorem dX2_look_159 : decode cX2_look 159 = .ok (.goto (-155), 3) := by decide +kernel
theorem dX2_look_162 : decode cX2_look 162 = .ok (.iload_n 1, 1) := by decide +kernel
theorem dX2_look_163 : decode cX2_look 163 = .ok (.ireturn, 1) := by decide +kernel
set_option maxRecDepth 20000 in
theorem ggX2_rings_X2_in : GoodIn wsX2_rings wsX2_in := goodIn_r _ [6] (by decide +kernel) (by decide +kernel)
set_option maxRecDepth 20000 in
theorem gX2_rings_X2_in : GoodIn wsX2_rings (va_wsS RX2 45 yX2_in wsX2_in) := goodIn_app (goodIn_of _ (by decide +kernel)) ggX2_rings_X2_in
theorem dX2_rings_0 : decode cX2_rings 0 = .ok (.iload_n 1, 1) := by decide +kernel
theorem dX2_rings_1 : decode cX2_rings 1 = .ok (.iconst 0, 1) := by decide +kernel
theorem dX2_rings_2 : decode cX2_rings 2 = .ok (.bipush 7, 2) := by decide +kernel
theorem dX2_rings_4 : decode cX2_rings 4 = .ok (.invokestatic 45, 3) := by decide +kernel
theorem dX2_rings_7 : decode cX2_rings 7 = .ok (.ifCond .eq 21, 3) := by decide +kernel
theorem dX2_rings_10 : decode cX2_rings 10 = .ok (.aload_n 0, 1) := by decide +kernel
theorem dX2_rings_11 : decode cX2_rings 11 = .ok (.getfield 20, 3) := by decide +kernel
theorem dX2_rings_14 : decode cX2_rings 14 = .ok (.iload_n 1, 1) := by decide +kernel
theorem dX2_rings_15 : decode cX2_rings 15 = .ok (.baload, 1) := by decide +kernel
theorem dX2_rings_16 : decode cX2_rings 16 = .ok (.ifCond .eq 12, 3) := by decide +kernel
theorem dX2_rings_19 : decode cX2_rings 19 = .ok (.aload_n 0, 1) := by decide +kernel
theorem dX2_rings_20 : decode cX2_rings 20 = .ok (.getfield 42, 3) := by decide +kernel
theorem dX2_rings_23 : decode cX2_rings 23 = .ok (.iload_n 1, 1) := by decide +kernel
theorem dX2_rings_24 : decode cX2_rings 24 = .ok (.iaload, 1) := by decide +kernel
theorem dX2_rings_25 : decode cX2_rings 25 = .ok (.goto 4, 3) := by decide +kernel
theorem dX2_rings_28 : decode cX2_rings 28 = .ok (.iconst (-1), 1) := by decide +kernel
theorem dX2_rings_29 : decode cX2_rings 29 = .ok (.ireturn, 1) := by decide +kernel
set_option maxRecDepth 20000 in
theorem ggX2_strike_X2_isString : GoodIn wsX2_strike wsX2_isString := goodIn_r _ [6, 7, 8, 5, 9] (by decide +kernel) (by decide +kernel)
set_option maxRecDepth 20000 in
theorem gX2_strike_X2_isString : GoodIn wsX2_strike (va_wsS RX2 79 yX2_isString wsX2_isString) := goodIn_app (goodIn_of _ (by decide +kernel)) ggX2_strike_X2_isString
set_option maxRecDepth 20000 in
theorem ggX2_strike_X2_at : GoodIn wsX2_strike wsX2_at := goodIn_r _ [12] (by decide +kernel) (by decide +kernel)
set_option maxRecDepth 20000 in
theorem gX2_strike_X2_at : GoodIn wsX2_strike (va_wsS RX2 55 yX2_at wsX2_at) := goodIn_app (goodIn_of _ (by decide +kernel)) ggX2_strike_X2_at
theorem dX2_strike_0 : decode cX2_strike 0 = .ok (.iload_n 1, 1) := by decide +kernel
theorem dX2_strike_1 : decode cX2_strike 1 = .ok (.invokestatic 79, 3) := by decide +kernel
theorem dX2_strike_4 : decode cX2_strike 4 = .ok (.ifCond .ne 5, 3) := by decide +kernel
theorem dX2_strike_7 : decode cX2_strike 7 = .ok (.iconst 0, 1) := by decide +kernel
theorem dX2_strike_8 : decode cX2_strike 8 = .ok (.ireturn, 1) := by decide +kernel
theorem dX2_strike_9 : decode cX2_strike 9 = .ok (.iconst 0, 1) := by decide +kernel
theorem dX2_strike_10 : decode cX2_strike 10 = .ok (.istore_n 2, 1) := by decide +kernel
theorem dX2_strike_11 : decode cX2_strike 11 = .ok (.iload_n 2, 1) := by decide +kernel
theorem dX2_strike_12 : decode cX2_strike 12 = .ok (.iconst 2, 1) := by decide +kernel
theorem dX2_strike_13 : decode cX2_strike 13 = .ok (.if_icmp .ge 51, 3) := by decide +kernel
theorem dX2_strike_16 : decode cX2_strike 16 = .ok (.aload_n 0, 1) := by decide +kernel
theorem dX2_strike_17 : decode cX2_strike 17 = .ok (.getfield 7, 3) := by decide +kernel
theorem dX2_strike_20 : decode cX2_strike 20 = .ok (.iload_n 2, 1) := by decide +kernel
theorem dX2_strike_21 : decode cX2_strike 21 = .ok (.bipush 32, 2) := by decide +kernel
theorem dX2_strike_23 : decode cX2_strike 23 = .ok (.invokestatic 55, 3) := by decide +kernel
theorem dX2_strike_26 : decode cX2_strike 26 = .ok (.aload_n 0, 1) := by decide +kernel
theorem dX2_strike_27 : decode cX2_strike 27 = .ok (.getfield 7, 3) := by decide +kernel
theorem dX2_strike_30 : decode cX2_strike 30 = .ok (.iload_n 2, 1) := by decide +kernel
theorem dX2_strike_31 : decode cX2_strike 31 = .ok (.iload_n 1, 1) := by decide +kernel
theorem dX2_strike_32 : decode cX2_strike 32 = .ok (.invokestatic 55, 3) := by decide +kernel
theorem dX2_strike_35 : decode cX2_strike 35 = .ok (.iaload, 1) := by decide +kernel
theorem dX2_strike_36 : decode cX2_strike 36 = .ok (.iastore, 1) := by decide +kernel
theorem dX2_strike_37 : decode cX2_strike 37 = .ok (.aload_n 0, 1) := by decide +kernel
theorem dX2_strike_38 : decode cX2_strike 38 = .ok (.getfield 13, 3) := by decide +kernel
theorem dX2_strike_41 : decode cX2_strike 41 = .ok (.iload_n 2, 1) := by decide +kernel
theorem dX2_strike_42 : decode cX2_strike 42 = .ok (.bipush 32, 2) := by decide +kernel
theorem dX2_strike_44 : decode cX2_strike 44 = .ok (.invokestatic 55, 3) := by decide +kernel
theorem dX2_strike_47 : decode cX2_strike 47 = .ok (.aload_n 0, 1) := by decide +kernel
theorem dX2_strike_48 : decode cX2_strike 48 = .ok (.getfield 13, 3) := by decide +kernel
theorem dX2_strike_51 : decode cX2_strike 51 = .ok (.iload_n 2, 1) := by decide +kernel
theorem dX2_strike_52 : decode cX2_strike 52 = .ok (.iload_n 1, 1) := by decide +kernel
theorem dX2_strike_53 : decode cX2_strike 53 = .ok (.invokestatic 55, 3) := by decide +kernel
theorem dX2_strike_56 : decode cX2_strike 56 = .ok (.iaload, 1) := by decide +kernel
theorem dX2_strike_57 : decode cX2_strike 57 = .ok (.iastore, 1) := by decide +kernel
theorem dX2_strike_58 : decode cX2_strike 58 = .ok (.iinc 2 1, 3) := by decide +kernel
theorem dX2_strike_61 : decode cX2_strike 61 = .ok (.goto (-50), 3) := by decide +kernel
theorem dX2_strike_64 : decode cX2_strike 64 = .ok (.iconst 1, 1) := by decide +kernel
theorem dX2_strike_65 : decode cX2_strike 65 = .ok (.ireturn, 1) := by decide +kernel
theorem dX2_count_0 : decode cX2_count 0 = .ok (.iload_n 1, 1) := by decide +kernel
theorem dX2_count_1 : decode cX2_count 1 = .ok (.tableswitch 51 0 3 #[31, 36, 41, 46], 31) := by decide +kernel
theorem dX2_count_32 : decode cX2_count 32 = .ok (.aload_n 0, 1) := by decide +kernel
theorem dX2_count_33 : decode cX2_count 33 = .ok (.getfield 76, 3) := by decide +kernel
theorem dX2_count_36 : decode cX2_count 36 = .ok (.ireturn, 1) := by decide +kernel
theorem dX2_count_37 : decode cX2_count 37 = .ok (.aload_n 0, 1) := by decide +kernel
theorem dX2_count_38 : decode cX2_count 38 = .ok (.getfield 16, 3) := by decide +kernel
theorem dX2_count_41 : decode cX2_count 41 = .ok (.ireturn, 1) := by decide +kernel
theorem dX2_count_42 : decode cX2_count 42 = .ok (.aload_n 0, 1) := by decide +kernel
theorem dX2_count_43 : decode cX2_count 43 = .ok (.getfield 85, 3) := by decide +kernel
theorem dX2_count_46 : decode cX2_count 46 = .ok (.ireturn, 1) := by decide +kernel
theorem dX2_count_47 : decode cX2_count 47 = .ok (.aload_n 0, 1) := by decide +kernel
theorem dX2_count_48 : decode cX2_count 48 = .ok (.getfield 82, 3) := by decide +kernel
theorem dX2_count_51 : decode cX2_count 51 = .ok (.ireturn, 1) := by decide +kernel
theorem dX2_count_52 : decode cX2_count 52 = .ok (.iconst (-1), 1) := by decide +kernel
theorem dX2_count_53 : decode cX2_count 53 = .ok (.ireturn, 1) := by decide +kernel
theorem dJ7_fill_53178_0 : decode cJ7_fill_53178 0 = .ok (.iconst 0, 1) := by decide +kernel
theorem dJ7_fill_53178_1 : decode cJ7_fill_53178 1 = .ok (.istore_n 2, 1) := by decide +kernel
theorem dJ7_fill_53178_2 : decode cJ7_fill_53178 2 = .ok (.aload_n 0, 1) := by decide +kernel
theorem dJ7_fill_53178_3 : decode cJ7_fill_53178 3 = .ok (.arraylength, 1) := by decide +kernel
theorem dJ7_fill_53178_4 : decode cJ7_fill_53178 4 = .ok (.istore_n 3, 1) := by decide +kernel
theorem dJ7_fill_53178_5 : decode cJ7_fill_53178 5 = .ok (.iload_n 2, 1) := by decide +kernel
theorem dJ7_fill_53178_6 : decode cJ7_fill_53178 6 = .ok (.iload_n 3, 1) := by decide +kernel
theorem dJ7_fill_53178_7 : decode cJ7_fill_53178 7 = .ok (.if_icmp .ge 13, 3) := by decide +kernel
theorem dJ7_fill_53178_10 : decode cJ7_fill_53178 10 = .ok (.aload_n 0, 1) := by decide +kernel
theorem dJ7_fill_53178_11 : decode cJ7_fill_53178 11 = .ok (.iload_n 2, 1) := by decide +kernel
theorem dJ7_fill_53178_12 : decode cJ7_fill_53178 12 = .ok (.iload_n 1, 1) := by decide +kernel
theorem dJ7_fill_53178_13 : decode cJ7_fill_53178 13 = .ok (.iastore, 1) := by decide +kernel
theorem dJ7_fill_53178_14 : decode cJ7_fill_53178 14 = .ok (.iinc 2 1, 3) := by decide +kernel
theorem dJ7_fill_53178_17 : decode cJ7_fill_53178 17 = .ok (.goto (-12), 3) := by decide +kernel
theorem dJ7_fill_53178_20 : decode cJ7_fill_53178 20 = .ok (.return_, 1) := by decide +kernel
set_option maxRecDepth 20000 in
theorem ggL_law_X1_init : GoodIn wsL_law wsX1_init := goodIn_r _ [8, 9, 10, 11, 12, 13, 14, 15, 16, 17, 18, 19, 20, 21, 22, 23, 24, 275, 276, 277, 278, 279] (by decide +kernel) (by decide +kernel)
set_option maxRecDepth 20000 in
theorem gL_law_X1_init : GoodIn wsL_law (wsX1_init) := ggL_law_X1_init
set_option maxRecDepth 20000 in
theorem ggL_law_X2_init : GoodIn wsL_law wsX2_init := goodIn_r _ [27, 28, 10, 11, 13, 29, 30, 31, 32, 33, 34, 35, 36, 37, 38, 39, 40, 280, 281, 282, 283, 284, 285, 286, 287, 288, 289, 290, 291, 292, 293] (by decide +kernel) (by decide +kernel)
set_option maxRecDepth 20000 in
theorem gL_law_X2_init : GoodIn wsL_law (wsX2_init) := ggL_law_X2_init
set_option maxRecDepth 20000 in
theorem ggL_law_X1_put : GoodIn wsL_law wsX1_put := goodIn_r _ [44, 14, 45, 46, 2, 47, 48, 49, 50, 51, 52, 53, 54, 55, 56, 57, 58, 59, 60, 61, 62, 63, 64, 20, 275, 276, 277, 278, 279] (by decide +kernel) (by decide +kernel)
set_option maxRecDepth 20000 in
theorem gL_law_X1_put : GoodIn wsL_law (wsV RL 13 RX1 yX1_put wsX1_put) := goodIn_app (goodIn_of _ (by decide +kernel)) ggL_law_X1_put
set_option maxRecDepth 20000 in
theorem ggL_law_X2_put : GoodIn wsL_law wsX2_put := goodIn_r _ [68, 69, 70, 29, 30, 71, 72, 5, 73, 74, 75, 76, 77, 78, 79, 280, 281, 282, 283, 284, 285, 286, 287, 288, 289, 290, 291, 292, 293] (by decide +kernel) (by decide +kernel)
set_option maxRecDepth 20000 in
theorem gL_law_X2_put : GoodIn wsL_law (wsV RL 17 RX2 yX2_put wsX2_put) := goodIn_app (goodIn_of _ (by decide +kernel)) ggL_law_X2_put
set_option maxRecDepth 20000 in
theorem ggL_law_X1_sort : GoodIn wsL_law wsX1_sort := goodIn_r _ [83, 14, 45, 46, 2, 47, 48, 49, 50, 51, 52, 53, 84, 85, 86, 275, 276, 277, 278, 279] (by decide +kernel) (by decide +kernel)
set_option maxRecDepth 20000 in
theorem gL_law_X1_sort : GoodIn wsL_law (wsV RL 18 RX1 yX1_sort wsX1_sort) := goodIn_app (goodIn_of _ (by decide +kernel)) ggL_law_X1_sort
set_option maxRecDepth 20000 in
theorem ggL_law_X2_sort : GoodIn wsL_law wsX2_sort := goodIn_r _ [90, 29, 71, 72, 5, 73, 74, 75, 76, 77, 78, 79, 280, 281, 282, 283, 284, 285, 286, 287, 288, 289, 290, 291, 292, 293] (by decide +kernel) (by decide +kernel)
set_option maxRecDepth 20000 in
theorem gL_law_X2_sort : GoodIn wsL_law (wsV RL 22 RX2 yX2_sort wsX2_sort) := goodIn_app (goodIn_of _ (by decide +kernel)) ggL_law_X2_sort
set_option maxRecDepth 20000 in
theorem ggL_law_X1_quarters : GoodIn wsL_law wsX1_quarters := goodIn_r _ [94, 14, 45, 46, 2, 47, 48, 49, 50, 51, 52, 53, 84, 85, 86, 275, 276, 277, 278, 279] (by decide +kernel) (by decide +kernel)
set_option maxRecDepth 20000 in
theorem gL_law_X1_quarters : GoodIn wsL_law (wsV RL 23 RX1 yX1_quarters wsX1_quarters) := goodIn_app (goodIn_of _ (by decide +kernel)) ggL_law_X1_quarters
set_option maxRecDepth 20000 in
theorem ggL_law_X2_quarters : GoodIn wsL_law wsX2_quarters := goodIn_r _ [98, 30, 71, 72, 5, 73, 74, 75, 76, 77, 78, 79, 280, 281, 282, 283, 284, 285, 286, 287, 288, 289, 290, 291, 292, 293] (by decide +kernel) (by decide +kernel)
set_option maxRecDepth 20000 in
theorem gL_law_X2_quarters : GoodIn wsL_law (wsV RL 26 RX2 yX2_quarters wsX2_quarters) := goodIn_app (goodIn_of _ (by decide +kernel)) ggL_law_X2_quarters
set_option maxRecDepth 20000 in
theorem ggL_law_X1_holds : GoodIn wsL_law wsX1_holds := goodIn_r _ [102, 18, 103, 104, 2, 105, 45, 46, 47, 106, 107, 108, 48, 49, 50, 51, 52, 53, 109, 110, 111, 112, 14, 113, 114, 115, 20, 116, 117, 118, 62, 119, 120, 121, 275, 276, 277, 278, 279] (by decide +kernel) (by decide +kernel)
set_option maxRecDepth 20000 in
theorem gL_law_X1_holds : GoodIn wsL_law (wsV RL 27 RX1 yX1_holds wsX1_holds) := goodIn_app (goodIn_of _ (by decide +kernel)) ggL_law_X1_holds
set_option maxRecDepth 20000 in
theorem ggL_law_X2_holds : GoodIn wsL_law wsX2_holds := goodIn_r _ [125, 31, 126, 127, 5, 128, 71, 72, 73, 74, 75, 76, 129, 130, 131, 132, 29, 30, 77, 78, 79, 133, 134, 135, 136, 137, 138, 139, 140, 280, 281, 282, 283, 284, 285, 286, 287, 288, 289, 290, 291, 292, 293] (by decide +kernel) (by decide +kernel)
set_option maxRecDepth 20000 in
theorem gL_law_X2_holds : GoodIn wsL_law (wsV RL 31 RX2 yX2_holds wsX2_holds) := goodIn_app (goodIn_of _ (by decide +kernel)) ggL_law_X2_holds
set_option maxRecDepth 20000 in
theorem ggL_law_X1_denies : GoodIn wsL_law wsX1_denies := goodIn_r _ [144, 17, 103, 104, 2, 105, 45, 46, 47, 106, 107, 108, 48, 49, 50, 51, 52, 53, 109, 110, 111, 112, 14, 113, 114, 115, 20, 116, 117, 118, 62, 119, 120, 121, 275, 276, 277, 278, 279] (by decide +kernel) (by decide +kernel)
set_option maxRecDepth 20000 in
theorem gL_law_X1_denies : GoodIn wsL_law (wsV RL 32 RX1 yX1_denies wsX1_denies) := goodIn_app (goodIn_of _ (by decide +kernel)) ggL_law_X1_denies
set_option maxRecDepth 20000 in
theorem ggL_law_X2_denies : GoodIn wsL_law wsX2_denies := goodIn_r _ [148, 149, 126, 127, 5, 128, 71, 72, 73, 74, 75, 76, 129, 130, 131, 132, 29, 30, 77, 78, 79, 133, 134, 135, 136, 137, 138, 139, 140, 280, 281, 282, 283, 284, 285, 286, 287, 288, 289, 290, 291, 292, 293] (by decide +kernel) (by decide +kernel)
set_option maxRecDepth 20000 in
theorem gL_law_X2_denies : GoodIn wsL_law (wsV RL 35 RX2 yX2_denies wsX2_denies) := goodIn_app (goodIn_of _ (by decide +kernel)) ggL_law_X2_denies
set_option maxRecDepth 20000 in
theorem ggL_law_X1_pick : GoodIn wsL_law wsX1_pick := goodIn_r _ [153, 103, 104, 2, 105, 45, 46, 47, 106, 107, 108, 48, 49, 50, 51, 52, 53, 109, 110, 111, 112, 14, 113, 114, 115, 20, 116, 117, 118, 62, 119, 120, 121, 275, 276, 277, 278, 279] (by decide +kernel) (by decide +kernel)
set_option maxRecDepth 20000 in
theorem gL_law_X1_pick : GoodIn wsL_law (wsV RL 36 RX1 yX1_pick wsX1_pick) := goodIn_app (goodIn_of _ (by decide +kernel)) ggL_law_X1_pick
set_option maxRecDepth 20000 in
theorem ggL_law_X2_pick : GoodIn wsL_law wsX2_pick := goodIn_r _ [157, 126, 127, 5, 128, 71, 72, 73, 74, 75, 76, 129, 130, 131, 132, 29, 30, 77, 78, 79, 133, 134, 135, 136, 137, 138, 139, 140, 280, 281, 282, 283, 284, 285, 286, 287, 288, 289, 290, 291, 292, 293] (by decide +kernel) (by decide +kernel)
set_option maxRecDepth 20000 in
theorem gL_law_X2_pick : GoodIn wsL_law (wsV RL 39 RX2 yX2_pick wsX2_pick) := goodIn_app (goodIn_of _ (by decide +kernel)) ggL_law_X2_pick
set_option maxRecDepth 20000 in
theorem ggL_law_X1_climb : GoodIn wsL_law wsX1_climb := goodIn_r _ [161, 103, 104, 2, 105, 45, 46, 47, 106, 107, 108, 51, 52, 53, 109, 110, 111, 112, 14, 113, 114, 115, 20, 116, 117, 118, 62, 119, 120, 121, 275, 276, 277, 278, 279] (by decide +kernel) (by decide +kernel)
set_option maxRecDepth 20000 in
theorem gL_law_X1_climb : GoodIn wsL_law (wsV RL 40 RX1 yX1_climb wsX1_climb) := goodIn_app (goodIn_of _ (by decide +kernel)) ggL_law_X1_climb
set_option maxRecDepth 20000 in
theorem ggL_law_X2_climb : GoodIn wsL_law wsX2_climb := goodIn_r _ [165, 126, 127, 5, 128, 71, 72, 73, 166, 167, 168, 129, 130, 131, 132, 29, 30, 77, 78, 79, 133, 134, 135, 136, 137, 138, 139, 140, 280, 281, 282, 283, 284, 285, 286, 287, 288, 289, 290, 291, 292, 293] (by decide +kernel) (by decide +kernel)
set_option maxRecDepth 20000 in
theorem gL_law_X2_climb : GoodIn wsL_law (wsV RL 44 RX2 yX2_climb wsX2_climb) := goodIn_app (goodIn_of _ (by decide +kernel)) ggL_law_X2_climb
set_option maxRecDepth 20000 in
theorem ggL_law_X1_first : GoodIn wsL_law wsX1_first := goodIn_r _ [172, 103, 104, 2, 105, 45, 46, 47, 106, 107, 108, 51, 52, 53, 109, 110, 111, 112, 14, 113, 114, 115, 20, 116, 117, 118, 62, 119, 120, 121, 275, 276, 277, 278, 279] (by decide +kernel) (by decide +kernel)
set_option maxRecDepth 20000 in
theorem gL_law_X1_first : GoodIn wsL_law (wsV RL 45 RX1 yX1_first wsX1_first) := goodIn_app (goodIn_of _ (by decide +kernel)) ggL_law_X1_first
set_option maxRecDepth 20000 in
theorem ggL_law_X2_first : GoodIn wsL_law wsX2_first := goodIn_r _ [176, 126, 127, 5, 128, 71, 72, 73, 166, 167, 168, 129, 130, 131, 132, 29, 30, 77, 78, 79, 133, 134, 135, 136, 137, 138, 139, 140, 280, 281, 282, 283, 284, 285, 286, 287, 288, 289, 290, 291, 292, 293] (by decide +kernel) (by decide +kernel)
set_option maxRecDepth 20000 in
theorem gL_law_X2_first : GoodIn wsL_law (wsV RL 49 RX2 yX2_first wsX2_first) := goodIn_app (goodIn_of _ (by decide +kernel)) ggL_law_X2_first
set_option maxRecDepth 20000 in
theorem ggL_law_X1_best : GoodIn wsL_law wsX1_best := goodIn_r _ [180, 103, 104, 2, 105, 45, 46, 47, 106, 107, 108, 109, 110, 111, 112, 14, 113, 114, 115, 20, 116, 117, 118, 62, 119, 120, 121, 275, 276, 277, 278, 279] (by decide +kernel) (by decide +kernel)
set_option maxRecDepth 20000 in
theorem gL_law_X1_best : GoodIn wsL_law (wsV RL 50 RX1 yX1_best wsX1_best) := goodIn_app (goodIn_of _ (by decide +kernel)) ggL_law_X1_best
set_option maxRecDepth 20000 in
theorem ggL_law_X2_best : GoodIn wsL_law wsX2_best := goodIn_r _ [184, 126, 127, 5, 128, 71, 72, 73, 129, 130, 131, 132, 29, 30, 77, 78, 79, 133, 134, 135, 136, 137, 138, 139, 140, 280, 281, 282, 283, 284, 285, 286, 287, 288, 289, 290, 291, 292, 293] (by decide +kernel) (by decide +kernel)
set_option maxRecDepth 20000 in
theorem gL_law_X2_best : GoodIn wsL_law (wsV RL 54 RX2 yX2_best wsX2_best) := goodIn_app (goodIn_of _ (by decide +kernel)) ggL_law_X2_best
set_option maxRecDepth 20000 in
theorem ggL_law_X1_pass : GoodIn wsL_law wsX1_pass := goodIn_r _ [188, 19, 103, 104, 2, 105, 45, 46, 47, 106, 107, 108, 51, 52, 53, 109, 110, 111, 112, 14, 113, 114, 115, 20, 116, 117, 118, 62, 119, 120, 121, 189, 190, 191, 192, 275, 276, 277, 278, 279] (by decide +kernel) (by decide +kernel)
set_option maxRecDepth 20000 in
theorem gL_law_X1_pass : GoodIn wsL_law (wsV RL 55 RX1 yX1_pass wsX1_pass) := goodIn_app (goodIn_of _ (by decide +kernel)) ggL_law_X1_pass
set_option maxRecDepth 20000 in
theorem ggL_law_X2_pass : GoodIn wsL_law wsX2_pass := goodIn_r _ [196, 29, 30, 197, 126, 127, 5, 128, 71, 72, 73, 166, 167, 168, 129, 130, 131, 132, 77, 78, 79, 133, 134, 135, 136, 137, 138, 139, 140, 280, 281, 282, 283, 284, 285, 286, 287, 288, 289, 290, 291, 292, 293] (by decide +kernel) (by decide +kernel)
set_option maxRecDepth 20000 in
theorem gL_law_X2_pass : GoodIn wsL_law (wsV RL 58 RX2 yX2_pass wsX2_pass) := goodIn_app (goodIn_of _ (by decide +kernel)) ggL_law_X2_pass
set_option maxRecDepth 20000 in
theorem ggL_law_X1_within : GoodIn wsL_law wsX1_within := goodIn_r _ [201, 45, 46, 2, 47, 51, 52, 53, 48, 49, 50, 109, 110, 111, 112, 14, 113, 114, 115, 20, 116, 117, 118, 62, 119, 120, 121, 275, 276, 277, 278, 279] (by decide +kernel) (by decide +kernel)
set_option maxRecDepth 20000 in
theorem gL_law_X1_within : GoodIn wsL_law (wsV RL 59 RX1 yX1_within wsX1_within) := goodIn_app (goodIn_of _ (by decide +kernel)) ggL_law_X1_within
set_option maxRecDepth 20000 in
theorem ggL_law_X2_within : GoodIn wsL_law wsX2_within := goodIn_r _ [205, 29, 71, 72, 5, 73, 166, 167, 168, 74, 75, 76, 129, 130, 131, 132, 30, 77, 78, 79, 133, 134, 135, 136, 137, 138, 139, 140, 280, 281, 282, 283, 284, 285, 286, 287, 288, 289, 290, 291, 292, 293] (by decide +kernel) (by decide +kernel)
set_option maxRecDepth 20000 in
theorem gL_law_X2_within : GoodIn wsL_law (wsV RL 62 RX2 yX2_within wsX2_within) := goodIn_app (goodIn_of _ (by decide +kernel)) ggL_law_X2_within
set_option maxRecDepth 20000 in
theorem ggL_law_X1_guard : GoodIn wsL_law wsX1_guard := goodIn_r _ [209, 16, 15, 210, 211, 14, 212, 213, 2, 214, 103, 104, 105, 45, 46, 47, 106, 107, 108, 51, 52, 53, 215, 216, 217, 218, 219, 220, 10, 11, 221, 222, 223, 224, 225, 226, 275, 276, 277, 278, 279, 294, 295, 296, 297, 298, 299] (by decide +kernel) (by decide +kernel)
set_option maxRecDepth 20000 in
theorem gL_law_X1_guard : GoodIn wsL_law (wsV RL 63 RX1 yX1_guard wsX1_guard) := goodIn_app (goodIn_of _ (by decide +kernel)) ggL_law_X1_guard
set_option maxRecDepth 20000 in
theorem ggL_law_X2_guard : GoodIn wsL_law wsX2_guard := goodIn_r _ [230, 231, 33, 34, 35, 36, 37, 29, 38, 30, 39, 40, 71, 72, 5, 73, 126, 127, 128, 166, 167, 168, 77, 78, 79, 280, 281, 282, 283, 284, 285, 286, 287, 288, 289, 290, 291, 292, 293] (by decide +kernel) (by decide +kernel)
set_option maxRecDepth 20000 in
theorem gL_law_X2_guard : GoodIn wsL_law (wsV RL 67 RX2 yX2_guard wsX2_guard) := goodIn_app (goodIn_of _ (by decide +kernel)) ggL_law_X2_guard
set_option maxRecDepth 20000 in
theorem ggL_law_X1_look : GoodIn wsL_law wsX1_look := goodIn_r _ [235, 16, 236, 237, 238, 2, 239, 14, 113, 114, 115, 20, 116, 117, 118, 62, 119, 120, 121, 240, 241, 242, 275, 276, 277, 278, 279, 294, 295, 296, 297, 298, 299] (by decide +kernel) (by decide +kernel)
set_option maxRecDepth 20000 in
theorem gL_law_X1_look : GoodIn wsL_law (wsV RL 68 RX1 yX1_look wsX1_look) := goodIn_app (goodIn_of _ (by decide +kernel)) ggL_law_X1_look
set_option maxRecDepth 20000 in
theorem ggL_law_X2_look : GoodIn wsL_law wsX2_look := goodIn_r _ [246, 33, 34, 35, 29, 30, 37, 38, 36, 39, 40, 77, 78, 5, 79, 133, 134, 135, 136, 137, 138, 139, 140, 280, 281, 282, 283, 284, 285, 286, 287, 288, 289, 290, 291, 292, 293] (by decide +kernel) (by decide +kernel)
set_option maxRecDepth 20000 in
theorem gL_law_X2_look : GoodIn wsL_law (wsV RL 72 RX2 yX2_look wsX2_look) := goodIn_app (goodIn_of _ (by decide +kernel)) ggL_law_X2_look
set_option maxRecDepth 20000 in
theorem ggL_law_X1_rings : GoodIn wsL_law wsX1_rings := goodIn_r _ [250, 16, 212, 213, 2, 214, 275, 276, 277, 278, 279, 294, 295, 296, 297, 298, 299] (by decide +kernel) (by decide +kernel)
set_option maxRecDepth 20000 in
theorem gL_law_X1_rings : GoodIn wsL_law (wsV RL 73 RX1 yX1_rings wsX1_rings) := goodIn_app (goodIn_of _ (by decide +kernel)) ggL_law_X1_rings
set_option maxRecDepth 20000 in
theorem ggL_law_X2_rings : GoodIn wsL_law wsX2_rings := goodIn_r _ [254, 33, 40, 71, 72, 5, 73, 280, 281, 282, 283, 284, 285, 286, 287, 288, 289, 290, 291, 292, 293] (by decide +kernel) (by decide +kernel)
set_option maxRecDepth 20000 in
theorem gL_law_X2_rings : GoodIn wsL_law (wsV RL 77 RX2 yX2_rings wsX2_rings) := goodIn_app (goodIn_of _ (by decide +kernel)) ggL_law_X2_rings
set_option maxRecDepth 20000 in
theorem ggL_law_X1_strike : GoodIn wsL_law wsX1_strike := goodIn_r _ [258, 14, 51, 52, 2, 53, 275, 276, 277, 278, 279] (by decide +kernel) (by decide +kernel)
set_option maxRecDepth 20000 in
theorem gL_law_X1_strike : GoodIn wsL_law (wsV RL 78 RX1 yX1_strike wsX1_strike) := goodIn_app (goodIn_of _ (by decide +kernel)) ggL_law_X1_strike
set_option maxRecDepth 20000 in
theorem ggL_law_X2_strike : GoodIn wsL_law wsX2_strike := goodIn_r _ [262, 29, 30, 166, 167, 5, 168, 71, 72, 73, 77, 78, 79, 280, 281, 282, 283, 284, 285, 286, 287, 288, 289, 290, 291, 292, 293] (by decide +kernel) (by decide +kernel)
set_option maxRecDepth 20000 in
theorem gL_law_X2_strike : GoodIn wsL_law (wsV RL 82 RX2 yX2_strike wsX2_strike) := goodIn_app (goodIn_of _ (by decide +kernel)) ggL_law_X2_strike
set_option maxRecDepth 20000 in
theorem ggL_law_X1_count : GoodIn wsL_law wsX1_count := goodIn_r _ [266, 17, 18, 19, 267, 268, 269, 2, 270, 16, 275, 276, 277, 278, 279] (by decide +kernel) (by decide +kernel)
set_option maxRecDepth 20000 in
theorem gL_law_X1_count : GoodIn wsL_law (wsV RL 83 RX1 yX1_count wsX1_count) := goodIn_app (goodIn_of _ (by decide +kernel)) ggL_law_X1_count
set_option maxRecDepth 20000 in
theorem ggL_law_X2_count : GoodIn wsL_law wsX2_count := goodIn_r _ [274, 149, 31, 231, 197, 280, 281, 282, 283, 284, 285, 286, 287, 288, 289, 290, 291, 292, 293] (by decide +kernel) (by decide +kernel)
set_option maxRecDepth 20000 in
theorem gL_law_X2_count : GoodIn wsL_law (wsV RL 86 RX2 yX2_count wsX2_count) := goodIn_app (goodIn_of _ (by decide +kernel)) ggL_law_X2_count
theorem dL_law_0 : decode cL_law 0 = .ok (.new 7, 3) := by decide +kernel
theorem dL_law_3 : decode cL_law 3 = .ok (.dup, 1) := by decide +kernel
theorem dL_law_4 : decode cL_law 4 = .ok (.invokespecial 9, 3) := by decide +kernel
theorem dL_law_7 : decode cL_law 7 = .ok (.astore_n 1, 1) := by decide +kernel
theorem dL_law_8 : decode cL_law 8 = .ok (.new 10, 3) := by decide +kernel
theorem dL_law_11 : decode cL_law 11 = .ok (.dup, 1) := by decide +kernel
theorem dL_law_12 : decode cL_law 12 = .ok (.invokespecial 12, 3) := by decide +kernel
theorem dL_law_15 : decode cL_law 15 = .ok (.astore_n 2, 1) := by decide +kernel
theorem dL_law_16 : decode cL_law 16 = .ok (.iconst 0, 1) := by decide +kernel
theorem dL_law_17 : decode cL_law 17 = .ok (.istore_n 3, 1) := by decide +kernel
theorem dL_law_18 : decode cL_law 18 = .ok (.iload_n 3, 1) := by decide +kernel
theorem dL_law_19 : decode cL_law 19 = .ok (.aload_n 0, 1) := by decide +kernel
theorem dL_law_20 : decode cL_law 20 = .ok (.arraylength, 1) := by decide +kernel
theorem dL_law_21 : decode cL_law 21 = .ok (.bipush 6, 2) := by decide +kernel
theorem dL_law_23 : decode cL_law 23 = .ok (.isub, 1) := by decide +kernel
theorem dL_law_24 : decode cL_law 24 = .ok (.if_icmp .gt 794, 3) := by decide +kernel
theorem dL_law_27 : decode cL_law 27 = .ok (.aload_n 0, 1) := by decide +kernel
theorem dL_law_28 : decode cL_law 28 = .ok (.iload_n 3, 1) := by decide +kernel
theorem dL_law_29 : decode cL_law 29 = .ok (.iaload, 1) := by decide +kernel
theorem dL_law_30 : decode cL_law 30 = .ok (.bipush 15, 2) := by decide +kernel
theorem dL_law_32 : decode cL_law 32 = .ok (.iand, 1) := by decide +kernel
theorem dL_law_33 : decode cL_law 33 = .ok (.tableswitch 779 0 15 #[79, 132, 165, 198, 251, 304, 357, 400, 469, 528, 581, 634, 697, 710, 733, 756], 79) := by decide +kernel
theorem dL_law_112 : decode cL_law 112 = .ok (.aload_n 1, 1) := by decide +kernel
theorem dL_law_113 : decode cL_law 113 = .ok (.aload_n 0, 1) := by decide +kernel
theorem dL_law_114 : decode cL_law 114 = .ok (.iload_n 3, 1) := by decide +kernel
theorem dL_law_115 : decode cL_law 115 = .ok (.iconst 1, 1) := by decide +kernel
theorem dL_law_116 : decode cL_law 116 = .ok (.iadd, 1) := by decide +kernel
theorem dL_law_117 : decode cL_law 117 = .ok (.iaload, 1) := by decide +kernel
theorem dL_law_118 : decode cL_law 118 = .ok (.aload_n 0, 1) := by decide +kernel
theorem dL_law_119 : decode cL_law 119 = .ok (.iload_n 3, 1) := by decide +kernel
theorem dL_law_120 : decode cL_law 120 = .ok (.iconst 2, 1) := by decide +kernel
theorem dL_law_121 : decode cL_law 121 = .ok (.iadd, 1) := by decide +kernel
theorem dL_law_122 : decode cL_law 122 = .ok (.iaload, 1) := by decide +kernel
theorem dL_law_123 : decode cL_law 123 = .ok (.aload_n 0, 1) := by decide +kernel
theorem dL_law_124 : decode cL_law 124 = .ok (.iload_n 3, 1) := by decide +kernel
theorem dL_law_125 : decode cL_law 125 = .ok (.iconst 3, 1) := by decide +kernel
theorem dL_law_126 : decode cL_law 126 = .ok (.iadd, 1) := by decide +kernel
theorem dL_law_127 : decode cL_law 127 = .ok (.iaload, 1) := by decide +kernel
theorem dL_law_128 : decode cL_law 128 = .ok (.aload_n 0, 1) := by decide +kernel
theorem dL_law_129 : decode cL_law 129 = .ok (.iload_n 3, 1) := by decide +kernel
theorem dL_law_130 : decode cL_law 130 = .ok (.iconst 4, 1) := by decide +kernel
theorem dL_law_131 : decode cL_law 131 = .ok (.iadd, 1) := by decide +kernel
theorem dL_law_132 : decode cL_law 132 = .ok (.iaload, 1) := by decide +kernel
theorem dL_law_133 : decode cL_law 133 = .ok (.invokevirtual 13, 3) := by decide +kernel
theorem dL_law_136 : decode cL_law 136 = .ok (.aload_n 2, 1) := by decide +kernel
theorem dL_law_137 : decode cL_law 137 = .ok (.aload_n 0, 1) := by decide +kernel
theorem dL_law_138 : decode cL_law 138 = .ok (.iload_n 3, 1) := by decide +kernel
theorem dL_law_139 : decode cL_law 139 = .ok (.iconst 1, 1) := by decide +kernel
theorem dL_law_140 : decode cL_law 140 = .ok (.iadd, 1) := by decide +kernel
theorem dL_law_141 : decode cL_law 141 = .ok (.iaload, 1) := by decide +kernel
theorem dL_law_142 : decode cL_law 142 = .ok (.aload_n 0, 1) := by decide +kernel
theorem dL_law_143 : decode cL_law 143 = .ok (.iload_n 3, 1) := by decide +kernel
theorem dL_law_144 : decode cL_law 144 = .ok (.iconst 2, 1) := by decide +kernel
theorem dL_law_145 : decode cL_law 145 = .ok (.iadd, 1) := by decide +kernel
theorem dL_law_146 : decode cL_law 146 = .ok (.iaload, 1) := by decide +kernel
theorem dL_law_147 : decode cL_law 147 = .ok (.aload_n 0, 1) := by decide +kernel
theorem dL_law_148 : decode cL_law 148 = .ok (.iload_n 3, 1) := by decide +kernel
theorem dL_law_149 : decode cL_law 149 = .ok (.iconst 3, 1) := by decide +kernel
theorem dL_law_150 : decode cL_law 150 = .ok (.iadd, 1) := by decide +kernel
theorem dL_law_151 : decode cL_law 151 = .ok (.iaload, 1) := by decide +kernel
theorem dL_law_152 : decode cL_law 152 = .ok (.aload_n 0, 1) := by decide +kernel
theorem dL_law_153 : decode cL_law 153 = .ok (.iload_n 3, 1) := by decide +kernel
theorem dL_law_154 : decode cL_law 154 = .ok (.iconst 4, 1) := by decide +kernel
theorem dL_law_155 : decode cL_law 155 = .ok (.iadd, 1) := by decide +kernel
theorem dL_law_156 : decode cL_law 156 = .ok (.iaload, 1) := by decide +kernel
theorem dL_law_157 : decode cL_law 157 = .ok (.invokevirtual 17, 3) := by decide +kernel
theorem dL_law_160 : decode cL_law 160 = .ok (.if_icmp .eq 652, 3) := by decide +kernel
theorem dL_law_163 : decode cL_law 163 = .ok (.iconst 0, 1) := by decide +kernel
theorem dL_law_164 : decode cL_law 164 = .ok (.ireturn, 1) := by decide +kernel
theorem dL_law_165 : decode cL_law 165 = .ok (.aload_n 1, 1) := by decide +kernel
theorem dL_law_166 : decode cL_law 166 = .ok (.aload_n 0, 1) := by decide +kernel
theorem dL_law_167 : decode cL_law 167 = .ok (.iload_n 3, 1) := by decide +kernel
theorem dL_law_168 : decode cL_law 168 = .ok (.iconst 1, 1) := by decide +kernel
theorem dL_law_169 : decode cL_law 169 = .ok (.iadd, 1) := by decide +kernel
theorem dL_law_170 : decode cL_law 170 = .ok (.iaload, 1) := by decide +kernel
theorem dL_law_171 : decode cL_law 171 = .ok (.aload_n 0, 1) := by decide +kernel
theorem dL_law_172 : decode cL_law 172 = .ok (.iload_n 3, 1) := by decide +kernel
theorem dL_law_173 : decode cL_law 173 = .ok (.iconst 2, 1) := by decide +kernel
theorem dL_law_174 : decode cL_law 174 = .ok (.iadd, 1) := by decide +kernel
theorem dL_law_175 : decode cL_law 175 = .ok (.iaload, 1) := by decide +kernel
theorem dL_law_176 : decode cL_law 176 = .ok (.invokevirtual 18, 3) := by decide +kernel
theorem dL_law_179 : decode cL_law 179 = .ok (.aload_n 2, 1) := by decide +kernel
theorem dL_law_180 : decode cL_law 180 = .ok (.aload_n 0, 1) := by decide +kernel
theorem dL_law_181 : decode cL_law 181 = .ok (.iload_n 3, 1) := by decide +kernel
theorem dL_law_182 : decode cL_law 182 = .ok (.iconst 1, 1) := by decide +kernel
theorem dL_law_183 : decode cL_law 183 = .ok (.iadd, 1) := by decide +kernel
theorem dL_law_184 : decode cL_law 184 = .ok (.iaload, 1) := by decide +kernel
theorem dL_law_185 : decode cL_law 185 = .ok (.aload_n 0, 1) := by decide +kernel
theorem dL_law_186 : decode cL_law 186 = .ok (.iload_n 3, 1) := by decide +kernel
theorem dL_law_187 : decode cL_law 187 = .ok (.iconst 2, 1) := by decide +kernel
theorem dL_law_188 : decode cL_law 188 = .ok (.iadd, 1) := by decide +kernel
theorem dL_law_189 : decode cL_law 189 = .ok (.iaload, 1) := by decide +kernel
theorem dL_law_190 : decode cL_law 190 = .ok (.invokevirtual 22, 3) := by decide +kernel
theorem dL_law_193 : decode cL_law 193 = .ok (.if_icmp .eq 619, 3) := by decide +kernel
theorem dL_law_196 : decode cL_law 196 = .ok (.iconst 0, 1) := by decide +kernel
theorem dL_law_197 : decode cL_law 197 = .ok (.ireturn, 1) := by decide +kernel
theorem dL_law_198 : decode cL_law 198 = .ok (.aload_n 1, 1) := by decide +kernel
theorem dL_law_199 : decode cL_law 199 = .ok (.aload_n 0, 1) := by decide +kernel
theorem dL_law_200 : decode cL_law 200 = .ok (.iload_n 3, 1) := by decide +kernel
theorem dL_law_201 : decode cL_law 201 = .ok (.iconst 1, 1) := by decide +kernel
theorem dL_law_202 : decode cL_law 202 = .ok (.iadd, 1) := by decide +kernel
theorem dL_law_203 : decode cL_law 203 = .ok (.iaload, 1) := by decide +kernel
theorem dL_law_204 : decode cL_law 204 = .ok (.aload_n 0, 1) := by decide +kernel
theorem dL_law_205 : decode cL_law 205 = .ok (.iload_n 3, 1) := by decide +kernel
theorem dL_law_206 : decode cL_law 206 = .ok (.iconst 2, 1) := by decide +kernel
theorem dL_law_207 : decode cL_law 207 = .ok (.iadd, 1) := by decide +kernel
theorem dL_law_208 : decode cL_law 208 = .ok (.iaload, 1) := by decide +kernel
theorem dL_law_209 : decode cL_law 209 = .ok (.invokevirtual 23, 3) := by decide +kernel
theorem dL_law_212 : decode cL_law 212 = .ok (.aload_n 2, 1) := by decide +kernel
theorem dL_law_213 : decode cL_law 213 = .ok (.aload_n 0, 1) := by decide +kernel
theorem dL_law_214 : decode cL_law 214 = .ok (.iload_n 3, 1) := by decide +kernel
theorem dL_law_215 : decode cL_law 215 = .ok (.iconst 1, 1) := by decide +kernel
theorem dL_law_216 : decode cL_law 216 = .ok (.iadd, 1) := by decide +kernel
theorem dL_law_217 : decode cL_law 217 = .ok (.iaload, 1) := by decide +kernel
theorem dL_law_218 : decode cL_law 218 = .ok (.aload_n 0, 1) := by decide +kernel
theorem dL_law_219 : decode cL_law 219 = .ok (.iload_n 3, 1) := by decide +kernel
theorem dL_law_220 : decode cL_law 220 = .ok (.iconst 2, 1) := by decide +kernel
theorem dL_law_221 : decode cL_law 221 = .ok (.iadd, 1) := by decide +kernel
theorem dL_law_222 : decode cL_law 222 = .ok (.iaload, 1) := by decide +kernel
theorem dL_law_223 : decode cL_law 223 = .ok (.invokevirtual 26, 3) := by decide +kernel
theorem dL_law_226 : decode cL_law 226 = .ok (.if_icmp .eq 586, 3) := by decide +kernel
theorem dL_law_229 : decode cL_law 229 = .ok (.iconst 0, 1) := by decide +kernel
theorem dL_law_230 : decode cL_law 230 = .ok (.ireturn, 1) := by decide +kernel
theorem dL_law_231 : decode cL_law 231 = .ok (.aload_n 1, 1) := by decide +kernel
theorem dL_law_232 : decode cL_law 232 = .ok (.aload_n 0, 1) := by decide +kernel
theorem dL_law_233 : decode cL_law 233 = .ok (.iload_n 3, 1) := by decide +kernel
theorem dL_law_234 : decode cL_law 234 = .ok (.iconst 1, 1) := by decide +kernel
theorem dL_law_235 : decode cL_law 235 = .ok (.iadd, 1) := by decide +kernel
theorem dL_law_236 : decode cL_law 236 = .ok (.iaload, 1) := by decide +kernel
theorem dL_law_237 : decode cL_law 237 = .ok (.aload_n 0, 1) := by decide +kernel
theorem dL_law_238 : decode cL_law 238 = .ok (.iload_n 3, 1) := by decide +kernel
theorem dL_law_239 : decode cL_law 239 = .ok (.iconst 2, 1) := by decide +kernel
theorem dL_law_240 : decode cL_law 240 = .ok (.iadd, 1) := by decide +kernel
theorem dL_law_241 : decode cL_law 241 = .ok (.iaload, 1) := by decide +kernel
theorem dL_law_242 : decode cL_law 242 = .ok (.aload_n 0, 1) := by decide +kernel
theorem dL_law_243 : decode cL_law 243 = .ok (.iload_n 3, 1) := by decide +kernel
theorem dL_law_244 : decode cL_law 244 = .ok (.iconst 3, 1) := by decide +kernel
theorem dL_law_245 : decode cL_law 245 = .ok (.iadd, 1) := by decide +kernel
theorem dL_law_246 : decode cL_law 246 = .ok (.iaload, 1) := by decide +kernel
theorem dL_law_247 : decode cL_law 247 = .ok (.aload_n 0, 1) := by decide +kernel
theorem dL_law_248 : decode cL_law 248 = .ok (.iload_n 3, 1) := by decide +kernel
theorem dL_law_249 : decode cL_law 249 = .ok (.iconst 4, 1) := by decide +kernel
theorem dL_law_250 : decode cL_law 250 = .ok (.iadd, 1) := by decide +kernel
theorem dL_law_251 : decode cL_law 251 = .ok (.iaload, 1) := by decide +kernel
theorem dL_law_252 : decode cL_law 252 = .ok (.invokevirtual 27, 3) := by decide +kernel
theorem dL_law_255 : decode cL_law 255 = .ok (.aload_n 2, 1) := by decide +kernel
theorem dL_law_256 : decode cL_law 256 = .ok (.aload_n 0, 1) := by decide +kernel
theorem dL_law_257 : decode cL_law 257 = .ok (.iload_n 3, 1) := by decide +kernel
theorem dL_law_258 : decode cL_law 258 = .ok (.iconst 1, 1) := by decide +kernel
theorem dL_law_259 : decode cL_law 259 = .ok (.iadd, 1) := by decide +kernel
theorem dL_law_260 : decode cL_law 260 = .ok (.iaload, 1) := by decide +kernel
theorem dL_law_261 : decode cL_law 261 = .ok (.aload_n 0, 1) := by decide +kernel
theorem dL_law_262 : decode cL_law 262 = .ok (.iload_n 3, 1) := by decide +kernel
theorem dL_law_263 : decode cL_law 263 = .ok (.iconst 2, 1) := by decide +kernel
theorem dL_law_264 : decode cL_law 264 = .ok (.iadd, 1) := by decide +kernel
theorem dL_law_265 : decode cL_law 265 = .ok (.iaload, 1) := by decide +kernel
theorem dL_law_266 : decode cL_law 266 = .ok (.aload_n 0, 1) := by decide +kernel
theorem dL_law_267 : decode cL_law 267 = .ok (.iload_n 3, 1) := by decide +kernel
theorem dL_law_268 : decode cL_law 268 = .ok (.iconst 3, 1) := by decide +kernel
theorem dL_law_269 : decode cL_law 269 = .ok (.iadd, 1) := by decide +kernel
theorem dL_law_270 : decode cL_law 270 = .ok (.iaload, 1) := by decide +kernel
theorem dL_law_271 : decode cL_law 271 = .ok (.aload_n 0, 1) := by decide +kernel
theorem dL_law_272 : decode cL_law 272 = .ok (.iload_n 3, 1) := by decide +kernel
theorem dL_law_273 : decode cL_law 273 = .ok (.iconst 4, 1) := by decide +kernel
theorem dL_law_274 : decode cL_law 274 = .ok (.iadd, 1) := by decide +kernel
theorem dL_law_275 : decode cL_law 275 = .ok (.iaload, 1) := by decide +kernel
theorem dL_law_276 : decode cL_law 276 = .ok (.invokevirtual 31, 3) := by decide +kernel
theorem dL_law_279 : decode cL_law 279 = .ok (.if_icmp .eq 533, 3) := by decide +kernel
theorem dL_law_282 : decode cL_law 282 = .ok (.iconst 0, 1) := by decide +kernel
theorem dL_law_283 : decode cL_law 283 = .ok (.ireturn, 1) := by decide +kernel
theorem dL_law_284 : decode cL_law 284 = .ok (.aload_n 1, 1) := by decide +kernel
theorem dL_law_285 : decode cL_law 285 = .ok (.aload_n 0, 1) := by decide +kernel
theorem dL_law_286 : decode cL_law 286 = .ok (.iload_n 3, 1) := by decide +kernel
theorem dL_law_287 : decode cL_law 287 = .ok (.iconst 1, 1) := by decide +kernel
theorem dL_law_288 : decode cL_law 288 = .ok (.iadd, 1) := by decide +kernel
theorem dL_law_289 : decode cL_law 289 = .ok (.iaload, 1) := by decide +kernel
theorem dL_law_290 : decode cL_law 290 = .ok (.aload_n 0, 1) := by decide +kernel
theorem dL_law_291 : decode cL_law 291 = .ok (.iload_n 3, 1) := by decide +kernel
theorem dL_law_292 : decode cL_law 292 = .ok (.iconst 2, 1) := by decide +kernel
theorem dL_law_293 : decode cL_law 293 = .ok (.iadd, 1) := by decide +kernel
theorem dL_law_294 : decode cL_law 294 = .ok (.iaload, 1) := by decide +kernel
theorem dL_law_295 : decode cL_law 295 = .ok (.aload_n 0, 1) := by decide +kernel
theorem dL_law_296 : decode cL_law 296 = .ok (.iload_n 3, 1) := by decide +kernel
theorem dL_law_297 : decode cL_law 297 = .ok (.iconst 3, 1) := by decide +kernel
theorem dL_law_298 : decode cL_law 298 = .ok (.iadd, 1) := by decide +kernel
theorem dL_law_299 : decode cL_law 299 = .ok (.iaload, 1) := by decide +kernel
theorem dL_law_300 : decode cL_law 300 = .ok (.aload_n 0, 1) := by decide +kernel
theorem dL_law_301 : decode cL_law 301 = .ok (.iload_n 3, 1) := by decide +kernel
theorem dL_law_302 : decode cL_law 302 = .ok (.iconst 4, 1) := by decide +kernel
theorem dL_law_303 : decode cL_law 303 = .ok (.iadd, 1) := by decide +kernel
theorem dL_law_304 : decode cL_law 304 = .ok (.iaload, 1) := by decide +kernel
theorem dL_law_305 : decode cL_law 305 = .ok (.invokevirtual 32, 3) := by decide +kernel
theorem dL_law_308 : decode cL_law 308 = .ok (.aload_n 2, 1) := by decide +kernel
theorem dL_law_309 : decode cL_law 309 = .ok (.aload_n 0, 1) := by decide +kernel
theorem dL_law_310 : decode cL_law 310 = .ok (.iload_n 3, 1) := by decide +kernel
theorem dL_law_311 : decode cL_law 311 = .ok (.iconst 1, 1) := by decide +kernel
theorem dL_law_312 : decode cL_law 312 = .ok (.iadd, 1) := by decide +kernel
theorem dL_law_313 : decode cL_law 313 = .ok (.iaload, 1) := by decide +kernel
theorem dL_law_314 : decode cL_law 314 = .ok (.aload_n 0, 1) := by decide +kernel
theorem dL_law_315 : decode cL_law 315 = .ok (.iload_n 3, 1) := by decide +kernel
theorem dL_law_316 : decode cL_law 316 = .ok (.iconst 2, 1) := by decide +kernel
theorem dL_law_317 : decode cL_law 317 = .ok (.iadd, 1) := by decide +kernel
theorem dL_law_318 : decode cL_law 318 = .ok (.iaload, 1) := by decide +kernel
theorem dL_law_319 : decode cL_law 319 = .ok (.aload_n 0, 1) := by decide +kernel
theorem dL_law_320 : decode cL_law 320 = .ok (.iload_n 3, 1) := by decide +kernel
theorem dL_law_321 : decode cL_law 321 = .ok (.iconst 3, 1) := by decide +kernel
theorem dL_law_322 : decode cL_law 322 = .ok (.iadd, 1) := by decide +kernel
theorem dL_law_323 : decode cL_law 323 = .ok (.iaload, 1) := by decide +kernel
theorem dL_law_324 : decode cL_law 324 = .ok (.aload_n 0, 1) := by decide +kernel
theorem dL_law_325 : decode cL_law 325 = .ok (.iload_n 3, 1) := by decide +kernel
theorem dL_law_326 : decode cL_law 326 = .ok (.iconst 4, 1) := by decide +kernel
theorem dL_law_327 : decode cL_law 327 = .ok (.iadd, 1) := by decide +kernel
theorem dL_law_328 : decode cL_law 328 = .ok (.iaload, 1) := by decide +kernel
theorem dL_law_329 : decode cL_law 329 = .ok (.invokevirtual 35, 3) := by decide +kernel
theorem dL_law_332 : decode cL_law 332 = .ok (.if_icmp .eq 480, 3) := by decide +kernel
theorem dL_law_335 : decode cL_law 335 = .ok (.iconst 0, 1) := by decide +kernel
theorem dL_law_336 : decode cL_law 336 = .ok (.ireturn, 1) := by decide +kernel
theorem dL_law_337 : decode cL_law 337 = .ok (.aload_n 1, 1) := by decide +kernel
theorem dL_law_338 : decode cL_law 338 = .ok (.aload_n 0, 1) := by decide +kernel
theorem dL_law_339 : decode cL_law 339 = .ok (.iload_n 3, 1) := by decide +kernel
theorem dL_law_340 : decode cL_law 340 = .ok (.iconst 1, 1) := by decide +kernel
theorem dL_law_341 : decode cL_law 341 = .ok (.iadd, 1) := by decide +kernel
theorem dL_law_342 : decode cL_law 342 = .ok (.iaload, 1) := by decide +kernel
theorem dL_law_343 : decode cL_law 343 = .ok (.aload_n 0, 1) := by decide +kernel
theorem dL_law_344 : decode cL_law 344 = .ok (.iload_n 3, 1) := by decide +kernel
theorem dL_law_345 : decode cL_law 345 = .ok (.iconst 2, 1) := by decide +kernel
theorem dL_law_346 : decode cL_law 346 = .ok (.iadd, 1) := by decide +kernel
theorem dL_law_347 : decode cL_law 347 = .ok (.iaload, 1) := by decide +kernel
theorem dL_law_348 : decode cL_law 348 = .ok (.aload_n 0, 1) := by decide +kernel
theorem dL_law_349 : decode cL_law 349 = .ok (.iload_n 3, 1) := by decide +kernel
theorem dL_law_350 : decode cL_law 350 = .ok (.iconst 3, 1) := by decide +kernel
theorem dL_law_351 : decode cL_law 351 = .ok (.iadd, 1) := by decide +kernel
theorem dL_law_352 : decode cL_law 352 = .ok (.iaload, 1) := by decide +kernel
theorem dL_law_353 : decode cL_law 353 = .ok (.aload_n 0, 1) := by decide +kernel
theorem dL_law_354 : decode cL_law 354 = .ok (.iload_n 3, 1) := by decide +kernel
theorem dL_law_355 : decode cL_law 355 = .ok (.iconst 4, 1) := by decide +kernel
theorem dL_law_356 : decode cL_law 356 = .ok (.iadd, 1) := by decide +kernel
theorem dL_law_357 : decode cL_law 357 = .ok (.iaload, 1) := by decide +kernel
theorem dL_law_358 : decode cL_law 358 = .ok (.invokevirtual 36, 3) := by decide +kernel
theorem dL_law_361 : decode cL_law 361 = .ok (.aload_n 2, 1) := by decide +kernel
theorem dL_law_362 : decode cL_law 362 = .ok (.aload_n 0, 1) := by decide +kernel
theorem dL_law_363 : decode cL_law 363 = .ok (.iload_n 3, 1) := by decide +kernel
theorem dL_law_364 : decode cL_law 364 = .ok (.iconst 1, 1) := by decide +kernel
theorem dL_law_365 : decode cL_law 365 = .ok (.iadd, 1) := by decide +kernel
theorem dL_law_366 : decode cL_law 366 = .ok (.iaload, 1) := by decide +kernel
theorem dL_law_367 : decode cL_law 367 = .ok (.aload_n 0, 1) := by decide +kernel
theorem dL_law_368 : decode cL_law 368 = .ok (.iload_n 3, 1) := by decide +kernel
theorem dL_law_369 : decode cL_law 369 = .ok (.iconst 2, 1) := by decide +kernel
theorem dL_law_370 : decode cL_law 370 = .ok (.iadd, 1) := by decide +kernel
theorem dL_law_371 : decode cL_law 371 = .ok (.iaload, 1) := by decide +kernel
theorem dL_law_372 : decode cL_law 372 = .ok (.aload_n 0, 1) := by decide +kernel
theorem dL_law_373 : decode cL_law 373 = .ok (.iload_n 3, 1) := by decide +kernel
theorem dL_law_374 : decode cL_law 374 = .ok (.iconst 3, 1) := by decide +kernel
theorem dL_law_375 : decode cL_law 375 = .ok (.iadd, 1) := by decide +kernel
theorem dL_law_376 : decode cL_law 376 = .ok (.iaload, 1) := by decide +kernel
theorem dL_law_377 : decode cL_law 377 = .ok (.aload_n 0, 1) := by decide +kernel
theorem dL_law_378 : decode cL_law 378 = .ok (.iload_n 3, 1) := by decide +kernel
theorem dL_law_379 : decode cL_law 379 = .ok (.iconst 4, 1) := by decide +kernel
theorem dL_law_380 : decode cL_law 380 = .ok (.iadd, 1) := by decide +kernel
theorem dL_law_381 : decode cL_law 381 = .ok (.iaload, 1) := by decide +kernel
theorem dL_law_382 : decode cL_law 382 = .ok (.invokevirtual 39, 3) := by decide +kernel
theorem dL_law_385 : decode cL_law 385 = .ok (.if_icmp .eq 427, 3) := by decide +kernel
theorem dL_law_388 : decode cL_law 388 = .ok (.iconst 0, 1) := by decide +kernel
theorem dL_law_389 : decode cL_law 389 = .ok (.ireturn, 1) := by decide +kernel
theorem dL_law_390 : decode cL_law 390 = .ok (.aload_n 1, 1) := by decide +kernel
theorem dL_law_391 : decode cL_law 391 = .ok (.aload_n 0, 1) := by decide +kernel
theorem dL_law_392 : decode cL_law 392 = .ok (.iload_n 3, 1) := by decide +kernel
theorem dL_law_393 : decode cL_law 393 = .ok (.iconst 1, 1) := by decide +kernel
theorem dL_law_394 : decode cL_law 394 = .ok (.iadd, 1) := by decide +kernel
theorem dL_law_395 : decode cL_law 395 = .ok (.iaload, 1) := by decide +kernel
theorem dL_law_396 : decode cL_law 396 = .ok (.aload_n 0, 1) := by decide +kernel
theorem dL_law_397 : decode cL_law 397 = .ok (.iload_n 3, 1) := by decide +kernel
theorem dL_law_398 : decode cL_law 398 = .ok (.iconst 2, 1) := by decide +kernel
theorem dL_law_399 : decode cL_law 399 = .ok (.iadd, 1) := by decide +kernel
theorem dL_law_400 : decode cL_law 400 = .ok (.iaload, 1) := by decide +kernel
theorem dL_law_401 : decode cL_law 401 = .ok (.aload_n 0, 1) := by decide +kernel
theorem dL_law_402 : decode cL_law 402 = .ok (.iload_n 3, 1) := by decide +kernel
theorem dL_law_403 : decode cL_law 403 = .ok (.iconst 3, 1) := by decide +kernel
theorem dL_law_404 : decode cL_law 404 = .ok (.iadd, 1) := by decide +kernel
theorem dL_law_405 : decode cL_law 405 = .ok (.iaload, 1) := by decide +kernel
theorem dL_law_406 : decode cL_law 406 = .ok (.invokevirtual 40, 3) := by decide +kernel
theorem dL_law_409 : decode cL_law 409 = .ok (.aload_n 2, 1) := by decide +kernel
theorem dL_law_410 : decode cL_law 410 = .ok (.aload_n 0, 1) := by decide +kernel
theorem dL_law_411 : decode cL_law 411 = .ok (.iload_n 3, 1) := by decide +kernel
theorem dL_law_412 : decode cL_law 412 = .ok (.iconst 1, 1) := by decide +kernel
theorem dL_law_413 : decode cL_law 413 = .ok (.iadd, 1) := by decide +kernel
theorem dL_law_414 : decode cL_law 414 = .ok (.iaload, 1) := by decide +kernel
theorem dL_law_415 : decode cL_law 415 = .ok (.aload_n 0, 1) := by decide +kernel
theorem dL_law_416 : decode cL_law 416 = .ok (.iload_n 3, 1) := by decide +kernel
theorem dL_law_417 : decode cL_law 417 = .ok (.iconst 2, 1) := by decide +kernel
theorem dL_law_418 : decode cL_law 418 = .ok (.iadd, 1) := by decide +kernel
theorem dL_law_419 : decode cL_law 419 = .ok (.iaload, 1) := by decide +kernel
theorem dL_law_420 : decode cL_law 420 = .ok (.aload_n 0, 1) := by decide +kernel
theorem dL_law_421 : decode cL_law 421 = .ok (.iload_n 3, 1) := by decide +kernel
theorem dL_law_422 : decode cL_law 422 = .ok (.iconst 3, 1) := by decide +kernel
theorem dL_law_423 : decode cL_law 423 = .ok (.iadd, 1) := by decide +kernel
theorem dL_law_424 : decode cL_law 424 = .ok (.iaload, 1) := by decide +kernel
theorem dL_law_425 : decode cL_law 425 = .ok (.invokevirtual 44, 3) := by decide +kernel
theorem dL_law_428 : decode cL_law 428 = .ok (.if_icmp .eq 384, 3) := by decide +kernel
theorem dL_law_431 : decode cL_law 431 = .ok (.iconst 0, 1) := by decide +kernel
theorem dL_law_432 : decode cL_law 432 = .ok (.ireturn, 1) := by decide +kernel
theorem dL_law_433 : decode cL_law 433 = .ok (.aload_n 1, 1) := by decide +kernel
theorem dL_law_434 : decode cL_law 434 = .ok (.aload_n 0, 1) := by decide +kernel
theorem dL_law_435 : decode cL_law 435 = .ok (.iload_n 3, 1) := by decide +kernel
theorem dL_law_436 : decode cL_law 436 = .ok (.iconst 1, 1) := by decide +kernel
theorem dL_law_437 : decode cL_law 437 = .ok (.iadd, 1) := by decide +kernel
theorem dL_law_438 : decode cL_law 438 = .ok (.iaload, 1) := by decide +kernel
theorem dL_law_439 : decode cL_law 439 = .ok (.aload_n 0, 1) := by decide +kernel
theorem dL_law_440 : decode cL_law 440 = .ok (.iload_n 3, 1) := by decide +kernel
theorem dL_law_441 : decode cL_law 441 = .ok (.iconst 2, 1) := by decide +kernel
theorem dL_law_442 : decode cL_law 442 = .ok (.iadd, 1) := by decide +kernel
theorem dL_law_443 : decode cL_law 443 = .ok (.iaload, 1) := by decide +kernel
theorem dL_law_444 : decode cL_law 444 = .ok (.aload_n 0, 1) := by decide +kernel
theorem dL_law_445 : decode cL_law 445 = .ok (.iload_n 3, 1) := by decide +kernel
theorem dL_law_446 : decode cL_law 446 = .ok (.iconst 3, 1) := by decide +kernel
theorem dL_law_447 : decode cL_law 447 = .ok (.iadd, 1) := by decide +kernel
theorem dL_law_448 : decode cL_law 448 = .ok (.iaload, 1) := by decide +kernel
theorem dL_law_449 : decode cL_law 449 = .ok (.aload_n 0, 1) := by decide +kernel
theorem dL_law_450 : decode cL_law 450 = .ok (.iload_n 3, 1) := by decide +kernel
theorem dL_law_451 : decode cL_law 451 = .ok (.iconst 4, 1) := by decide +kernel
theorem dL_law_452 : decode cL_law 452 = .ok (.iadd, 1) := by decide +kernel
theorem dL_law_453 : decode cL_law 453 = .ok (.iaload, 1) := by decide +kernel
theorem dL_law_454 : decode cL_law 454 = .ok (.ifCond .eq 7, 3) := by decide +kernel
theorem dL_law_457 : decode cL_law 457 = .ok (.iconst 1, 1) := by decide +kernel
theorem dL_law_458 : decode cL_law 458 = .ok (.goto 4, 3) := by decide +kernel
theorem dL_law_461 : decode cL_law 461 = .ok (.iconst 0, 1) := by decide +kernel
theorem dL_law_462 : decode cL_law 462 = .ok (.invokevirtual 45, 3) := by decide +kernel
theorem dL_law_465 : decode cL_law 465 = .ok (.aload_n 2, 1) := by decide +kernel
theorem dL_law_466 : decode cL_law 466 = .ok (.aload_n 0, 1) := by decide +kernel
theorem dL_law_467 : decode cL_law 467 = .ok (.iload_n 3, 1) := by decide +kernel
theorem dL_law_468 : decode cL_law 468 = .ok (.iconst 1, 1) := by decide +kernel
theorem dL_law_469 : decode cL_law 469 = .ok (.iadd, 1) := by decide +kernel
theorem dL_law_470 : decode cL_law 470 = .ok (.iaload, 1) := by decide +kernel
theorem dL_law_471 : decode cL_law 471 = .ok (.aload_n 0, 1) := by decide +kernel
theorem dL_law_472 : decode cL_law 472 = .ok (.iload_n 3, 1) := by decide +kernel
theorem dL_law_473 : decode cL_law 473 = .ok (.iconst 2, 1) := by decide +kernel
theorem dL_law_474 : decode cL_law 474 = .ok (.iadd, 1) := by decide +kernel
theorem dL_law_475 : decode cL_law 475 = .ok (.iaload, 1) := by decide +kernel
theorem dL_law_476 : decode cL_law 476 = .ok (.aload_n 0, 1) := by decide +kernel
theorem dL_law_477 : decode cL_law 477 = .ok (.iload_n 3, 1) := by decide +kernel
theorem dL_law_478 : decode cL_law 478 = .ok (.iconst 3, 1) := by decide +kernel
theorem dL_law_479 : decode cL_law 479 = .ok (.iadd, 1) := by decide +kernel
theorem dL_law_480 : decode cL_law 480 = .ok (.iaload, 1) := by decide +kernel
theorem dL_law_481 : decode cL_law 481 = .ok (.aload_n 0, 1) := by decide +kernel
theorem dL_law_482 : decode cL_law 482 = .ok (.iload_n 3, 1) := by decide +kernel
theorem dL_law_483 : decode cL_law 483 = .ok (.iconst 4, 1) := by decide +kernel
theorem dL_law_484 : decode cL_law 484 = .ok (.iadd, 1) := by decide +kernel
theorem dL_law_485 : decode cL_law 485 = .ok (.iaload, 1) := by decide +kernel
theorem dL_law_486 : decode cL_law 486 = .ok (.ifCond .eq 7, 3) := by decide +kernel
theorem dL_law_489 : decode cL_law 489 = .ok (.iconst 1, 1) := by decide +kernel
theorem dL_law_490 : decode cL_law 490 = .ok (.goto 4, 3) := by decide +kernel
theorem dL_law_493 : decode cL_law 493 = .ok (.iconst 0, 1) := by decide +kernel
theorem dL_law_494 : decode cL_law 494 = .ok (.invokevirtual 49, 3) := by decide +kernel
theorem dL_law_497 : decode cL_law 497 = .ok (.if_icmp .eq 315, 3) := by decide +kernel
theorem dL_law_500 : decode cL_law 500 = .ok (.iconst 0, 1) := by decide +kernel
theorem dL_law_501 : decode cL_law 501 = .ok (.ireturn, 1) := by decide +kernel
theorem dL_law_502 : decode cL_law 502 = .ok (.aload_n 1, 1) := by decide +kernel
theorem dL_law_503 : decode cL_law 503 = .ok (.aload_n 0, 1) := by decide +kernel
theorem dL_law_504 : decode cL_law 504 = .ok (.iload_n 3, 1) := by decide +kernel
theorem dL_law_505 : decode cL_law 505 = .ok (.iconst 1, 1) := by decide +kernel
theorem dL_law_506 : decode cL_law 506 = .ok (.iadd, 1) := by decide +kernel
theorem dL_law_507 : decode cL_law 507 = .ok (.iaload, 1) := by decide +kernel
theorem dL_law_508 : decode cL_law 508 = .ok (.aload_n 0, 1) := by decide +kernel
theorem dL_law_509 : decode cL_law 509 = .ok (.iload_n 3, 1) := by decide +kernel
theorem dL_law_510 : decode cL_law 510 = .ok (.iconst 2, 1) := by decide +kernel
theorem dL_law_511 : decode cL_law 511 = .ok (.iadd, 1) := by decide +kernel
theorem dL_law_512 : decode cL_law 512 = .ok (.iaload, 1) := by decide +kernel
theorem dL_law_513 : decode cL_law 513 = .ok (.aload_n 0, 1) := by decide +kernel
theorem dL_law_514 : decode cL_law 514 = .ok (.iload_n 3, 1) := by decide +kernel
theorem dL_law_515 : decode cL_law 515 = .ok (.iconst 3, 1) := by decide +kernel
theorem dL_law_516 : decode cL_law 516 = .ok (.iadd, 1) := by decide +kernel
theorem dL_law_517 : decode cL_law 517 = .ok (.iaload, 1) := by decide +kernel
theorem dL_law_518 : decode cL_law 518 = .ok (.ifCond .eq 7, 3) := by decide +kernel
theorem dL_law_521 : decode cL_law 521 = .ok (.iconst 1, 1) := by decide +kernel
theorem dL_law_522 : decode cL_law 522 = .ok (.goto 4, 3) := by decide +kernel
theorem dL_law_525 : decode cL_law 525 = .ok (.iconst 0, 1) := by decide +kernel
theorem dL_law_526 : decode cL_law 526 = .ok (.invokevirtual 50, 3) := by decide +kernel
theorem dL_law_529 : decode cL_law 529 = .ok (.aload_n 2, 1) := by decide +kernel
theorem dL_law_530 : decode cL_law 530 = .ok (.aload_n 0, 1) := by decide +kernel
theorem dL_law_531 : decode cL_law 531 = .ok (.iload_n 3, 1) := by decide +kernel
theorem dL_law_532 : decode cL_law 532 = .ok (.iconst 1, 1) := by decide +kernel
theorem dL_law_533 : decode cL_law 533 = .ok (.iadd, 1) := by decide +kernel
theorem dL_law_534 : decode cL_law 534 = .ok (.iaload, 1) := by decide +kernel
theorem dL_law_535 : decode cL_law 535 = .ok (.aload_n 0, 1) := by decide +kernel
theorem dL_law_536 : decode cL_law 536 = .ok (.iload_n 3, 1) := by decide +kernel
theorem dL_law_537 : decode cL_law 537 = .ok (.iconst 2, 1) := by decide +kernel
theorem dL_law_538 : decode cL_law 538 = .ok (.iadd, 1) := by decide +kernel
theorem dL_law_539 : decode cL_law 539 = .ok (.iaload, 1) := by decide +kernel
theorem dL_law_540 : decode cL_law 540 = .ok (.aload_n 0, 1) := by decide +kernel
theorem dL_law_541 : decode cL_law 541 = .ok (.iload_n 3, 1) := by decide +kernel
theorem dL_law_542 : decode cL_law 542 = .ok (.iconst 3, 1) := by decide +kernel
theorem dL_law_543 : decode cL_law 543 = .ok (.iadd, 1) := by decide +kernel
theorem dL_law_544 : decode cL_law 544 = .ok (.iaload, 1) := by decide +kernel
theorem dL_law_545 : decode cL_law 545 = .ok (.ifCond .eq 7, 3) := by decide +kernel
theorem dL_law_548 : decode cL_law 548 = .ok (.iconst 1, 1) := by decide +kernel
theorem dL_law_549 : decode cL_law 549 = .ok (.goto 4, 3) := by decide +kernel
theorem dL_law_552 : decode cL_law 552 = .ok (.iconst 0, 1) := by decide +kernel
theorem dL_law_553 : decode cL_law 553 = .ok (.invokevirtual 54, 3) := by decide +kernel
theorem dL_law_556 : decode cL_law 556 = .ok (.if_icmp .eq 256, 3) := by decide +kernel
theorem dL_law_559 : decode cL_law 559 = .ok (.iconst 0, 1) := by decide +kernel
theorem dL_law_560 : decode cL_law 560 = .ok (.ireturn, 1) := by decide +kernel
theorem dL_law_561 : decode cL_law 561 = .ok (.aload_n 1, 1) := by decide +kernel
theorem dL_law_562 : decode cL_law 562 = .ok (.aload_n 0, 1) := by decide +kernel
theorem dL_law_563 : decode cL_law 563 = .ok (.iload_n 3, 1) := by decide +kernel
theorem dL_law_564 : decode cL_law 564 = .ok (.iconst 1, 1) := by decide +kernel
theorem dL_law_565 : decode cL_law 565 = .ok (.iadd, 1) := by decide +kernel
theorem dL_law_566 : decode cL_law 566 = .ok (.iaload, 1) := by decide +kernel
theorem dL_law_567 : decode cL_law 567 = .ok (.aload_n 0, 1) := by decide +kernel
theorem dL_law_568 : decode cL_law 568 = .ok (.iload_n 3, 1) := by decide +kernel
theorem dL_law_569 : decode cL_law 569 = .ok (.iconst 2, 1) := by decide +kernel
theorem dL_law_570 : decode cL_law 570 = .ok (.iadd, 1) := by decide +kernel
theorem dL_law_571 : decode cL_law 571 = .ok (.iaload, 1) := by decide +kernel
theorem dL_law_572 : decode cL_law 572 = .ok (.aload_n 0, 1) := by decide +kernel
theorem dL_law_573 : decode cL_law 573 = .ok (.iload_n 3, 1) := by decide +kernel
theorem dL_law_574 : decode cL_law 574 = .ok (.iconst 3, 1) := by decide +kernel
theorem dL_law_575 : decode cL_law 575 = .ok (.iadd, 1) := by decide +kernel
theorem dL_law_576 : decode cL_law 576 = .ok (.iaload, 1) := by decide +kernel
theorem dL_law_577 : decode cL_law 577 = .ok (.aload_n 0, 1) := by decide +kernel
theorem dL_law_578 : decode cL_law 578 = .ok (.iload_n 3, 1) := by decide +kernel
theorem dL_law_579 : decode cL_law 579 = .ok (.iconst 4, 1) := by decide +kernel
theorem dL_law_580 : decode cL_law 580 = .ok (.iadd, 1) := by decide +kernel
theorem dL_law_581 : decode cL_law 581 = .ok (.iaload, 1) := by decide +kernel
theorem dL_law_582 : decode cL_law 582 = .ok (.invokevirtual 55, 3) := by decide +kernel
theorem dL_law_585 : decode cL_law 585 = .ok (.aload_n 2, 1) := by decide +kernel
theorem dL_law_586 : decode cL_law 586 = .ok (.aload_n 0, 1) := by decide +kernel
theorem dL_law_587 : decode cL_law 587 = .ok (.iload_n 3, 1) := by decide +kernel
theorem dL_law_588 : decode cL_law 588 = .ok (.iconst 1, 1) := by decide +kernel
theorem dL_law_589 : decode cL_law 589 = .ok (.iadd, 1) := by decide +kernel
theorem dL_law_590 : decode cL_law 590 = .ok (.iaload, 1) := by decide +kernel
theorem dL_law_591 : decode cL_law 591 = .ok (.aload_n 0, 1) := by decide +kernel
theorem dL_law_592 : decode cL_law 592 = .ok (.iload_n 3, 1) := by decide +kernel
theorem dL_law_593 : decode cL_law 593 = .ok (.iconst 2, 1) := by decide +kernel
theorem dL_law_594 : decode cL_law 594 = .ok (.iadd, 1) := by decide +kernel
theorem dL_law_595 : decode cL_law 595 = .ok (.iaload, 1) := by decide +kernel
theorem dL_law_596 : decode cL_law 596 = .ok (.aload_n 0, 1) := by decide +kernel
theorem dL_law_597 : decode cL_law 597 = .ok (.iload_n 3, 1) := by decide +kernel
theorem dL_law_598 : decode cL_law 598 = .ok (.iconst 3, 1) := by decide +kernel
theorem dL_law_599 : decode cL_law 599 = .ok (.iadd, 1) := by decide +kernel
end
section
theorem dL_law_600 : decode cL_law 600 = .ok (.iaload, 1) := by decide +kernel
theorem dL_law_601 : decode cL_law 601 = .ok (.aload_n 0, 1) := by decide +kernel
theorem dL_law_602 : decode cL_law 602 = .ok (.iload_n 3, 1) := by decide +kernel
theorem dL_law_603 : decode cL_law 603 = .ok (.iconst 4, 1) := by decide +kernel
theorem dL_law_604 : decode cL_law 604 = .ok (.iadd, 1) := by decide +kernel
theorem dL_law_605 : decode cL_law 605 = .ok (.iaload, 1) := by decide +kernel
theorem dL_law_606 : decode cL_law 606 = .ok (.invokevirtual 58, 3) := by decide +kernel
theorem dL_law_609 : decode cL_law 609 = .ok (.if_icmp .eq 203, 3) := by decide +kernel
theorem dL_law_612 : decode cL_law 612 = .ok (.iconst 0, 1) := by decide +kernel
theorem dL_law_613 : decode cL_law 613 = .ok (.ireturn, 1) := by decide +kernel
theorem dL_law_614 : decode cL_law 614 = .ok (.aload_n 1, 1) := by decide +kernel
theorem dL_law_615 : decode cL_law 615 = .ok (.aload_n 0, 1) := by decide +kernel
theorem dL_law_616 : decode cL_law 616 = .ok (.iload_n 3, 1) := by decide +kernel
theorem dL_law_617 : decode cL_law 617 = .ok (.iconst 1, 1) := by decide +kernel
theorem dL_law_618 : decode cL_law 618 = .ok (.iadd, 1) := by decide +kernel
theorem dL_law_619 : decode cL_law 619 = .ok (.iaload, 1) := by decide +kernel
theorem dL_law_620 : decode cL_law 620 = .ok (.aload_n 0, 1) := by decide +kernel
theorem dL_law_621 : decode cL_law 621 = .ok (.iload_n 3, 1) := by decide +kernel
theorem dL_law_622 : decode cL_law 622 = .ok (.iconst 2, 1) := by decide +kernel
theorem dL_law_623 : decode cL_law 623 = .ok (.iadd, 1) := by decide +kernel
theorem dL_law_624 : decode cL_law 624 = .ok (.iaload, 1) := by decide +kernel
theorem dL_law_625 : decode cL_law 625 = .ok (.aload_n 0, 1) := by decide +kernel
theorem dL_law_626 : decode cL_law 626 = .ok (.iload_n 3, 1) := by decide +kernel
theorem dL_law_627 : decode cL_law 627 = .ok (.iconst 3, 1) := by decide +kernel
theorem dL_law_628 : decode cL_law 628 = .ok (.iadd, 1) := by decide +kernel
theorem dL_law_629 : decode cL_law 629 = .ok (.iaload, 1) := by decide +kernel
theorem dL_law_630 : decode cL_law 630 = .ok (.aload_n 0, 1) := by decide +kernel
theorem dL_law_631 : decode cL_law 631 = .ok (.iload_n 3, 1) := by decide +kernel
theorem dL_law_632 : decode cL_law 632 = .ok (.iconst 4, 1) := by decide +kernel
theorem dL_law_633 : decode cL_law 633 = .ok (.iadd, 1) := by decide +kernel
theorem dL_law_634 : decode cL_law 634 = .ok (.iaload, 1) := by decide +kernel
theorem dL_law_635 : decode cL_law 635 = .ok (.invokevirtual 59, 3) := by decide +kernel
theorem dL_law_638 : decode cL_law 638 = .ok (.aload_n 2, 1) := by decide +kernel
theorem dL_law_639 : decode cL_law 639 = .ok (.aload_n 0, 1) := by decide +kernel
theorem dL_law_640 : decode cL_law 640 = .ok (.iload_n 3, 1) := by decide +kernel
theorem dL_law_641 : decode cL_law 641 = .ok (.iconst 1, 1) := by decide +kernel
theorem dL_law_642 : decode cL_law 642 = .ok (.iadd, 1) := by decide +kernel
theorem dL_law_643 : decode cL_law 643 = .ok (.iaload, 1) := by decide +kernel
theorem dL_law_644 : decode cL_law 644 = .ok (.aload_n 0, 1) := by decide +kernel
theorem dL_law_645 : decode cL_law 645 = .ok (.iload_n 3, 1) := by decide +kernel
theorem dL_law_646 : decode cL_law 646 = .ok (.iconst 2, 1) := by decide +kernel
theorem dL_law_647 : decode cL_law 647 = .ok (.iadd, 1) := by decide +kernel
theorem dL_law_648 : decode cL_law 648 = .ok (.iaload, 1) := by decide +kernel
theorem dL_law_649 : decode cL_law 649 = .ok (.aload_n 0, 1) := by decide +kernel
theorem dL_law_650 : decode cL_law 650 = .ok (.iload_n 3, 1) := by decide +kernel
theorem dL_law_651 : decode cL_law 651 = .ok (.iconst 3, 1) := by decide +kernel
theorem dL_law_652 : decode cL_law 652 = .ok (.iadd, 1) := by decide +kernel
theorem dL_law_653 : decode cL_law 653 = .ok (.iaload, 1) := by decide +kernel
theorem dL_law_654 : decode cL_law 654 = .ok (.aload_n 0, 1) := by decide +kernel
theorem dL_law_655 : decode cL_law 655 = .ok (.iload_n 3, 1) := by decide +kernel
theorem dL_law_656 : decode cL_law 656 = .ok (.iconst 4, 1) := by decide +kernel
theorem dL_law_657 : decode cL_law 657 = .ok (.iadd, 1) := by decide +kernel
theorem dL_law_658 : decode cL_law 658 = .ok (.iaload, 1) := by decide +kernel
theorem dL_law_659 : decode cL_law 659 = .ok (.invokevirtual 62, 3) := by decide +kernel
theorem dL_law_662 : decode cL_law 662 = .ok (.if_icmp .eq 150, 3) := by decide +kernel
theorem dL_law_665 : decode cL_law 665 = .ok (.iconst 0, 1) := by decide +kernel
theorem dL_law_666 : decode cL_law 666 = .ok (.ireturn, 1) := by decide +kernel
theorem dL_law_667 : decode cL_law 667 = .ok (.aload_n 1, 1) := by decide +kernel
theorem dL_law_668 : decode cL_law 668 = .ok (.aload_n 0, 1) := by decide +kernel
theorem dL_law_669 : decode cL_law 669 = .ok (.iload_n 3, 1) := by decide +kernel
theorem dL_law_670 : decode cL_law 670 = .ok (.iconst 1, 1) := by decide +kernel
theorem dL_law_671 : decode cL_law 671 = .ok (.iadd, 1) := by decide +kernel
theorem dL_law_672 : decode cL_law 672 = .ok (.iaload, 1) := by decide +kernel
theorem dL_law_673 : decode cL_law 673 = .ok (.aload_n 0, 1) := by decide +kernel
theorem dL_law_674 : decode cL_law 674 = .ok (.iload_n 3, 1) := by decide +kernel
theorem dL_law_675 : decode cL_law 675 = .ok (.iconst 2, 1) := by decide +kernel
theorem dL_law_676 : decode cL_law 676 = .ok (.iadd, 1) := by decide +kernel
theorem dL_law_677 : decode cL_law 677 = .ok (.iaload, 1) := by decide +kernel
theorem dL_law_678 : decode cL_law 678 = .ok (.aload_n 0, 1) := by decide +kernel
theorem dL_law_679 : decode cL_law 679 = .ok (.iload_n 3, 1) := by decide +kernel
theorem dL_law_680 : decode cL_law 680 = .ok (.iconst 3, 1) := by decide +kernel
theorem dL_law_681 : decode cL_law 681 = .ok (.iadd, 1) := by decide +kernel
theorem dL_law_682 : decode cL_law 682 = .ok (.iaload, 1) := by decide +kernel
theorem dL_law_683 : decode cL_law 683 = .ok (.aload_n 0, 1) := by decide +kernel
theorem dL_law_684 : decode cL_law 684 = .ok (.iload_n 3, 1) := by decide +kernel
theorem dL_law_685 : decode cL_law 685 = .ok (.iconst 4, 1) := by decide +kernel
theorem dL_law_686 : decode cL_law 686 = .ok (.iadd, 1) := by decide +kernel
theorem dL_law_687 : decode cL_law 687 = .ok (.iaload, 1) := by decide +kernel
theorem dL_law_688 : decode cL_law 688 = .ok (.aload_n 0, 1) := by decide +kernel
theorem dL_law_689 : decode cL_law 689 = .ok (.iload_n 3, 1) := by decide +kernel
theorem dL_law_690 : decode cL_law 690 = .ok (.iconst 5, 1) := by decide +kernel
theorem dL_law_691 : decode cL_law 691 = .ok (.iadd, 1) := by decide +kernel
theorem dL_law_692 : decode cL_law 692 = .ok (.iaload, 1) := by decide +kernel
theorem dL_law_693 : decode cL_law 693 = .ok (.invokevirtual 63, 3) := by decide +kernel
theorem dL_law_696 : decode cL_law 696 = .ok (.aload_n 2, 1) := by decide +kernel
theorem dL_law_697 : decode cL_law 697 = .ok (.aload_n 0, 1) := by decide +kernel
theorem dL_law_698 : decode cL_law 698 = .ok (.iload_n 3, 1) := by decide +kernel
theorem dL_law_699 : decode cL_law 699 = .ok (.iconst 1, 1) := by decide +kernel
theorem dL_law_700 : decode cL_law 700 = .ok (.iadd, 1) := by decide +kernel
theorem dL_law_701 : decode cL_law 701 = .ok (.iaload, 1) := by decide +kernel
theorem dL_law_702 : decode cL_law 702 = .ok (.aload_n 0, 1) := by decide +kernel
theorem dL_law_703 : decode cL_law 703 = .ok (.iload_n 3, 1) := by decide +kernel
theorem dL_law_704 : decode cL_law 704 = .ok (.iconst 2, 1) := by decide +kernel
theorem dL_law_705 : decode cL_law 705 = .ok (.iadd, 1) := by decide +kernel
theorem dL_law_706 : decode cL_law 706 = .ok (.iaload, 1) := by decide +kernel
theorem dL_law_707 : decode cL_law 707 = .ok (.aload_n 0, 1) := by decide +kernel
theorem dL_law_708 : decode cL_law 708 = .ok (.iload_n 3, 1) := by decide +kernel
theorem dL_law_709 : decode cL_law 709 = .ok (.iconst 3, 1) := by decide +kernel
theorem dL_law_710 : decode cL_law 710 = .ok (.iadd, 1) := by decide +kernel
theorem dL_law_711 : decode cL_law 711 = .ok (.iaload, 1) := by decide +kernel
theorem dL_law_712 : decode cL_law 712 = .ok (.aload_n 0, 1) := by decide +kernel
theorem dL_law_713 : decode cL_law 713 = .ok (.iload_n 3, 1) := by decide +kernel
theorem dL_law_714 : decode cL_law 714 = .ok (.iconst 4, 1) := by decide +kernel
theorem dL_law_715 : decode cL_law 715 = .ok (.iadd, 1) := by decide +kernel
theorem dL_law_716 : decode cL_law 716 = .ok (.iaload, 1) := by decide +kernel
theorem dL_law_717 : decode cL_law 717 = .ok (.aload_n 0, 1) := by decide +kernel
theorem dL_law_718 : decode cL_law 718 = .ok (.iload_n 3, 1) := by decide +kernel
theorem dL_law_719 : decode cL_law 719 = .ok (.iconst 5, 1) := by decide +kernel
theorem dL_law_720 : decode cL_law 720 = .ok (.iadd, 1) := by decide +kernel
theorem dL_law_721 : decode cL_law 721 = .ok (.iaload, 1) := by decide +kernel
theorem dL_law_722 : decode cL_law 722 = .ok (.invokevirtual 67, 3) := by decide +kernel
theorem dL_law_725 : decode cL_law 725 = .ok (.if_icmp .eq 87, 3) := by decide +kernel
theorem dL_law_728 : decode cL_law 728 = .ok (.iconst 0, 1) := by decide +kernel
theorem dL_law_729 : decode cL_law 729 = .ok (.ireturn, 1) := by decide +kernel
theorem dL_law_730 : decode cL_law 730 = .ok (.aload_n 1, 1) := by decide +kernel
theorem dL_law_731 : decode cL_law 731 = .ok (.invokevirtual 68, 3) := by decide +kernel
theorem dL_law_734 : decode cL_law 734 = .ok (.aload_n 2, 1) := by decide +kernel
theorem dL_law_735 : decode cL_law 735 = .ok (.invokevirtual 72, 3) := by decide +kernel
theorem dL_law_738 : decode cL_law 738 = .ok (.if_icmp .eq 74, 3) := by decide +kernel
theorem dL_law_741 : decode cL_law 741 = .ok (.iconst 0, 1) := by decide +kernel
theorem dL_law_742 : decode cL_law 742 = .ok (.ireturn, 1) := by decide +kernel
theorem dL_law_743 : decode cL_law 743 = .ok (.aload_n 1, 1) := by decide +kernel
theorem dL_law_744 : decode cL_law 744 = .ok (.aload_n 0, 1) := by decide +kernel
theorem dL_law_745 : decode cL_law 745 = .ok (.iload_n 3, 1) := by decide +kernel
theorem dL_law_746 : decode cL_law 746 = .ok (.iconst 1, 1) := by decide +kernel
theorem dL_law_747 : decode cL_law 747 = .ok (.iadd, 1) := by decide +kernel
theorem dL_law_748 : decode cL_law 748 = .ok (.iaload, 1) := by decide +kernel
theorem dL_law_749 : decode cL_law 749 = .ok (.invokevirtual 73, 3) := by decide +kernel
theorem dL_law_752 : decode cL_law 752 = .ok (.aload_n 2, 1) := by decide +kernel
theorem dL_law_753 : decode cL_law 753 = .ok (.aload_n 0, 1) := by decide +kernel
theorem dL_law_754 : decode cL_law 754 = .ok (.iload_n 3, 1) := by decide +kernel
theorem dL_law_755 : decode cL_law 755 = .ok (.iconst 1, 1) := by decide +kernel
theorem dL_law_756 : decode cL_law 756 = .ok (.iadd, 1) := by decide +kernel
theorem dL_law_757 : decode cL_law 757 = .ok (.iaload, 1) := by decide +kernel
theorem dL_law_758 : decode cL_law 758 = .ok (.invokevirtual 77, 3) := by decide +kernel
theorem dL_law_761 : decode cL_law 761 = .ok (.if_icmp .eq 51, 3) := by decide +kernel
theorem dL_law_764 : decode cL_law 764 = .ok (.iconst 0, 1) := by decide +kernel
theorem dL_law_765 : decode cL_law 765 = .ok (.ireturn, 1) := by decide +kernel
theorem dL_law_766 : decode cL_law 766 = .ok (.aload_n 1, 1) := by decide +kernel
theorem dL_law_767 : decode cL_law 767 = .ok (.aload_n 0, 1) := by decide +kernel
theorem dL_law_768 : decode cL_law 768 = .ok (.iload_n 3, 1) := by decide +kernel
theorem dL_law_769 : decode cL_law 769 = .ok (.iconst 1, 1) := by decide +kernel
theorem dL_law_770 : decode cL_law 770 = .ok (.iadd, 1) := by decide +kernel
theorem dL_law_771 : decode cL_law 771 = .ok (.iaload, 1) := by decide +kernel
theorem dL_law_772 : decode cL_law 772 = .ok (.invokevirtual 78, 3) := by decide +kernel
theorem dL_law_775 : decode cL_law 775 = .ok (.aload_n 2, 1) := by decide +kernel
theorem dL_law_776 : decode cL_law 776 = .ok (.aload_n 0, 1) := by decide +kernel
theorem dL_law_777 : decode cL_law 777 = .ok (.iload_n 3, 1) := by decide +kernel
theorem dL_law_778 : decode cL_law 778 = .ok (.iconst 1, 1) := by decide +kernel
theorem dL_law_779 : decode cL_law 779 = .ok (.iadd, 1) := by decide +kernel
theorem dL_law_780 : decode cL_law 780 = .ok (.iaload, 1) := by decide +kernel
theorem dL_law_781 : decode cL_law 781 = .ok (.invokevirtual 82, 3) := by decide +kernel
theorem dL_law_784 : decode cL_law 784 = .ok (.if_icmp .eq 28, 3) := by decide +kernel
theorem dL_law_787 : decode cL_law 787 = .ok (.iconst 0, 1) := by decide +kernel
theorem dL_law_788 : decode cL_law 788 = .ok (.ireturn, 1) := by decide +kernel
theorem dL_law_789 : decode cL_law 789 = .ok (.aload_n 1, 1) := by decide +kernel
theorem dL_law_790 : decode cL_law 790 = .ok (.aload_n 0, 1) := by decide +kernel
theorem dL_law_791 : decode cL_law 791 = .ok (.iload_n 3, 1) := by decide +kernel
theorem dL_law_792 : decode cL_law 792 = .ok (.iconst 1, 1) := by decide +kernel
theorem dL_law_793 : decode cL_law 793 = .ok (.iadd, 1) := by decide +kernel
theorem dL_law_794 : decode cL_law 794 = .ok (.iaload, 1) := by decide +kernel
theorem dL_law_795 : decode cL_law 795 = .ok (.invokevirtual 83, 3) := by decide +kernel
theorem dL_law_798 : decode cL_law 798 = .ok (.aload_n 2, 1) := by decide +kernel
theorem dL_law_799 : decode cL_law 799 = .ok (.aload_n 0, 1) := by decide +kernel
theorem dL_law_800 : decode cL_law 800 = .ok (.iload_n 3, 1) := by decide +kernel
theorem dL_law_801 : decode cL_law 801 = .ok (.iconst 1, 1) := by decide +kernel
theorem dL_law_802 : decode cL_law 802 = .ok (.iadd, 1) := by decide +kernel
theorem dL_law_803 : decode cL_law 803 = .ok (.iaload, 1) := by decide +kernel
theorem dL_law_804 : decode cL_law 804 = .ok (.invokevirtual 86, 3) := by decide +kernel
theorem dL_law_807 : decode cL_law 807 = .ok (.if_icmp .eq 5, 3) := by decide +kernel
theorem dL_law_810 : decode cL_law 810 = .ok (.iconst 0, 1) := by decide +kernel
theorem dL_law_811 : decode cL_law 811 = .ok (.ireturn, 1) := by decide +kernel
theorem dL_law_812 : decode cL_law 812 = .ok (.iinc 3 6, 3) := by decide +kernel
theorem dL_law_815 : decode cL_law 815 = .ok (.goto (-797), 3) := by decide +kernel
theorem dL_law_818 : decode cL_law 818 = .ok (.iconst 1, 1) := by decide +kernel
theorem dL_law_819 : decode cL_law 819 = .ok (.ireturn, 1) := by decide +kernel
abbrev vwCl : List vw_C := [(RX0, TX0, 6), (RX1, TX1, 5), (RX2, TX2, 14)]
end
section
/-! BASE: entries, ends and calls of readers and writers, over any world -/
def xMv (B : State → Prop) : Prop := (∀ u U : State, u.vm = U.vm → B u → B U) ∧ (∀ u U : State, u.WarmedH U.vm → B u → B U)
def xB0 : State → Prop := fun _ => True
theorem xMv0 : xMv xB0 := ⟨fun _ _ _ _ => trivial, fun _ _ _ _ => trivial⟩
def xR (D : va_G) (cl : List vw_C) (wd : va_W) (tys : List (ClassId × FieldType)) (B : State → Prop) (av : List Value) : Array Value → State → Prop := va_Pc av (fun U => va_P D cl wd U.heap ∧ va_K D cl tys U ∧ B U)
def xW (D : va_G) (cl : List vw_C) (wd : va_W) (tys : List (ClassId × FieldType)) (B : State → Prop) (sz : Nat) (av : List Value) : Array Value → State → Prop := va_Pc av (fun U => U.heap.size = sz ∧ va_P D cl wd U.heap ∧ va_K D cl tys U ∧ va_D (fun _ => True) wd ∧ B U)
def xQ {S : Type} (D : va_G) (cl : List vw_C) (post : Int32 → S → Prop) (ws' : S → va_W) (tys' : S → List (ClassId × FieldType)) (A : Nat → Prop) : Array Value → State → Outcome → State → Prop := va_Qi post (fun u t => va_P D cl (ws' u) t.heap ∧ va_K D cl (tys' u) t ∧ va_D A (ws' u)) A
def xQv {S : Type} (D : va_G) (cl : List vw_C) (post : S → Prop) (ws' : S → va_W) (tys' : S → List (ClassId × FieldType)) (A : Nat → Prop) : Array Value → State → Outcome → State → Prop := va_Qv post (fun u t => va_P D cl (ws' u) t.heap ∧ va_K D cl (tys' u) t ∧ va_D A (ws' u)) A
theorem xT_fb {av : List Value} : FrameBlind (va_Pc av (fun _ => True)) := fun _ _ _ _ q => q
theorem xR_fb {D : va_G} {cl : List vw_C} {wd : va_W} {tys : List (ClassId × FieldType)} {B : State → Prop} {av : List Value} (hB : xMv B) : FrameBlind (xR D cl wd tys B av) := fun a U g mk q => ⟨q.1, q.2.1, va_K.moved (u := U) (U := U.calling g mk a) (Vm.Alike.refl U.vm) q.2.2.1, hB.1 U (U.calling g mk a) rfl q.2.2.2⟩
theorem xW_fb {D : va_G} {cl : List vw_C} {wd : va_W} {tys : List (ClassId × FieldType)} {B : State → Prop} {sz : Nat} {av : List Value} (hB : xMv B) : FrameBlind (xW D cl wd tys B sz av) := fun a U g mk q => ⟨q.1, q.2.1, q.2.2.1, va_K.moved (u := U) (U := U.calling g mk a) (Vm.Alike.refl U.vm) q.2.2.2.1, q.2.2.2.2.1, hB.1 U (U.calling g mk a) rfl q.2.2.2.2.2⟩
section XBI
variable {l : Launch} {y : MethodName} {ws ws0 : List Cond} {rm : Room} {cc : ByteArray} {maxL mc ms sz : Nat} {ret : Option FieldType} {D : va_G} {cl : List vw_C} {wd : va_W} {tys : List (ClassId × FieldType)} {B : State → Prop} {av : List Value}
/-- a method that reads nothing -/
theorem xs_in {Qc : Array Value → State → Outcome → State → Prop} (hy : plainName y.cls = true) (hw : ws = Cond.code y cc maxL ret :: ws0) (hlen : (lg_sl av).length ≤ maxL)
    (body : ∀ (p : Program) (e : Env) (s : State) (m : MethodId) (below : List Frame) (meth : Method) (c : Code) (ls : Array Slot), p.tables.exec = Jvm.exec → c.code = cc → meth.sig.returnType = ret → c.maxLocals = maxL → (∀ w ∈ ws, w.before av.toArray s = true) → s.vm.findClass y.cls = some m.cls → meth.locks = false → lv_has ls maxL (lv_args 0 av) →
      W p l e rm s m av.toArray below meth c s.heap [] 0 0 (MQ below Qc av.toArray s 0 0 (fun _ => False)) (F0 m 0 ls [])) : Met l y ws rm (va_Pc av (fun _ => True)) Qc 0 0 (fun _ => False) := by
  refine Met.ofW (cc := cc) (maxL := maxL) (ret := ret) hy hw ?_
  intro p e s m args below meth c s₁ Bd hml hv
  obtain ⟨rfl, -⟩ := hv
  rw [lg_entry_eq]
  exact body p e s m below meth c _ Bd.exec Bd.bytes Bd.returns hml (atoms_spec (ws := ws) Bd.pre) (findClass_of_methodNamed Bd.named) Bd.notSynchronized (lv_entry av (n := maxL) hlen)
/-- a method that reads a world -/
theorem xr_in {Qc : Array Value → State → Outcome → State → Prop} (hy : plainName y.cls = true) (hw : ws = Cond.code y cc maxL ret :: ws0) (hlen : (lg_sl av).length ≤ maxL)
    (body : ∀ (p : Program) (e : Env) (s : State) (m : MethodId) (below : List Frame) (meth : Method) (c : Code) (ls : Array Slot), p.tables.exec = Jvm.exec → c.code = cc → meth.sig.returnType = ret → c.maxLocals = maxL → (∀ w ∈ ws, w.before av.toArray s = true) → s.vm.findClass y.cls = some m.cls → meth.locks = false → va_P D cl wd s.heap → va_K D cl tys s → B s → lv_has ls maxL (lv_args 0 av) →
      W p l e rm s m av.toArray below meth c s.heap [] 0 0 (MQ below Qc av.toArray s 0 0 (fun _ => False)) (F0 m 0 ls [])) : Met l y ws rm (xR D cl wd tys B av) Qc 0 0 (fun _ => False) := by
  refine Met.ofW (cc := cc) (maxL := maxL) (ret := ret) hy hw ?_
  intro p e s m args below meth c s₁ Bd hml hv
  obtain ⟨rfl, hP, hK, hB⟩ := hv
  rw [lg_entry_eq]
  exact body p e s m below meth c _ Bd.exec Bd.bytes Bd.returns hml (atoms_spec (ws := ws) Bd.pre) (findClass_of_methodNamed Bd.named) Bd.notSynchronized hP hK hB (lv_entry av (n := maxL) hlen)
/-- a method that writes in a world -/
theorem xw_in {Qf : (Nat → Prop) → Array Value → State → Outcome → State → Prop} (hy : plainName y.cls = true) (hw : ws = Cond.code y cc maxL ret :: ws0) (hlen : (lg_sl av).length ≤ maxL)
    (body : ∀ (p : Program) (e : Env) (s : State) (m : MethodId) (below : List Frame) (meth : Method) (c : Code) (ls : Array Slot) (A : Nat → Prop), p.tables.exec = Jvm.exec → c.code = cc → meth.sig.returnType = ret → c.maxLocals = maxL → (∀ w ∈ ws, w.before av.toArray s = true) → s.vm.findClass y.cls = some m.cls → meth.locks = false → meth.name = y.name → (∀ q : Nat, s.heap.size ≤ q → A q) → va_P D cl wd s.heap → va_K D cl tys s → va_D A wd → va_S A s.heap s.heap [] → B s → lv_has ls maxL (lv_args 0 av) →
      W p l e rm s m av.toArray below meth c s.heap [] 0 0 (MQ below (Qf A) av.toArray s mc ms A) (F0 m 0 ls [])) : Met l y ws rm (xW D cl wd tys B sz av) (Qf (va_A wd sz)) mc ms (va_A wd sz) := by
  refine Met.ofW (cc := cc) (maxL := maxL) (ret := ret) hy hw ?_
  intro p e s m args below meth c s₁ Bd hml hv
  obtain ⟨rfl, hsz, hP, hK, hD0, hB⟩ := hv
  subst hsz
  rw [lg_entry_eq]
  exact body p e s m below meth c _ (va_A wd s.heap.size) Bd.exec Bd.bytes Bd.returns hml (atoms_spec (ws := ws) Bd.pre) (findClass_of_methodNamed Bd.named) Bd.notSynchronized (name_of_methodNamed Bd.named Bd.method).1 (fun q h => Or.inr h) hP hK (hD0.self (sz := s.heap.size)) va_S.rf hB (lv_entry av (n := maxL) hlen)
end XBI
section XBC
variable {p : Program} {l : Launch} {e : Env} {R : Room} {s : State} {m : MethodId} {args : Array Value} {below : List Frame} {meth : Method} {c : Code} {H H0 : Heap} {locs : List Loc} {cells slots : Nat} {Q : State → Prop}
variable {cc : ByteArray} {pc : Nat} {ls : Array Slot} {st0 rest : List Value} {D : va_G} {cl : List vw_C} {A : Nat → Prop} {a : Nat} {tys : List (ClassId × FieldType)} {wd : va_W} {B : State → Prop}
variable {y : MethodName} {ws Ts : List Cond} {rm : Room} {bytes : ByteArray} {maxL nL mc ms n index : Nat} {ret : Option FieldType} {own C : String} {As : List Value} {r v : Int32} {b : Nat}
/-- the end of a reader -/
theorem xr_i (hx : p.tables.exec = Jvm.exec) (hb : c.code = cc) (hr : meth.sig.returnType = some .int) (hlk : meth.locks = false) (hdg : decode cc pc = .ok (.ireturn, 1)) (hv : v = r) : W p l e R s m args below meth c s.heap [] 0 0 (MQ below (QcRead r) args s 0 0 (fun _ => False)) (F0 m pc ls [.int v]) := by
  subst hv
  exact W.iret hx hb hr (fun t ht _ => ⟨rfl, ht⟩) (fun q h => by cases h) hdg hlk
theorem xr_z (hx : p.tables.exec = Jvm.exec) (hb : c.code = cc) (hr : meth.sig.returnType = some .boolean) (hlk : meth.locks = false) (hdg : decode cc pc = .ok (.ireturn, 1)) (hn : narrow .boolean (.int r) = .int r) (hv : v = r) : W p l e R s m args below meth c s.heap [] 0 0 (MQ below (QcRead r) args s 0 0 (fun _ => False)) (F0 m pc ls [.int v]) := by
  subst hv
  exact W.zret hx hb hr hn (fun t ht _ => ⟨rfl, ht⟩) (fun q h => by cases h) hdg hlk
theorem xw_i {S : Type} {post : Int32 → S → Prop} {ws' : S → va_W} {tys' : S → List (ClassId × FieldType)} (u : S) (hx : p.tables.exec = Jvm.exec) (hb : c.code = cc) (hr : meth.sig.returnType = some .int) (hlk : meth.locks = false) (hdg : decode cc pc = .ok (.ireturn, 1)) (hP : va_P D cl (ws' u) H) (hK : va_K D cl (tys' u) s) (hD : va_D A (ws' u)) (hS : va_S A s.heap H locs) (hv : post v u) : W p l e R s m args below meth c H locs cells slots (MQ below (xQ D cl post ws' tys' A) args s cells slots A) (F0 m pc ls [.int v]) :=
  W.iret hx hb hr (fun t ht hW => ⟨⟨v, u, rfl, hv, by rw [ht]; exact hP, va_K.moved hW.alike hK, hD⟩, hS.F ht⟩) hS.2.2 hdg hlk
theorem xw_z {S : Type} {post : Int32 → S → Prop} {ws' : S → va_W} {tys' : S → List (ClassId × FieldType)} (u : S) (hx : p.tables.exec = Jvm.exec) (hb : c.code = cc) (hr : meth.sig.returnType = some .boolean) (hlk : meth.locks = false) (hdg : decode cc pc = .ok (.ireturn, 1)) (hn : narrow .boolean (.int v) = .int v) (hP : va_P D cl (ws' u) H) (hK : va_K D cl (tys' u) s) (hD : va_D A (ws' u)) (hS : va_S A s.heap H locs) (hv : post v u) : W p l e R s m args below meth c H locs cells slots (MQ below (xQ D cl post ws' tys' A) args s cells slots A) (F0 m pc ls [.int v]) :=
  W.zret hx hb hr hn (fun t ht hW => ⟨⟨v, u, rfl, hv, by rw [ht]; exact hP, va_K.moved hW.alike hK, hD⟩, hS.F ht⟩) hS.2.2 hdg hlk
theorem xw_v {S : Type} {post : S → Prop} {ws' : S → va_W} {tys' : S → List (ClassId × FieldType)} (u : S) (hx : p.tables.exec = Jvm.exec) (hb : c.code = cc) (hr : meth.sig.returnType = none) (hlk : meth.locks = false) (hdg : decode cc pc = .ok (.return_, 1)) (hP : va_P D cl (ws' u) H) (hK : va_K D cl (tys' u) s) (hD : va_D A (ws' u)) (hS : va_S A s.heap H locs) (hv : post u) : W p l e R s m args below meth c H locs cells slots (MQ below (xQv D cl post ws' tys' A) args s cells slots A) (F0 m pc ls []) :=
  W.vret hx hb hr (fun t ht hW => ⟨⟨u, rfl, hv, by rw [ht]; exact hP, va_K.moved hW.alike hK, hD⟩, hS.F ht⟩) hS.2.2 hdg hlk
/-- a static method that reads nothing is called -/
theorem xc_T (S : CallFix p m c cc nL s args Ts own) (hM : Met l y ws rm (va_Pc As (fun _ => True)) (QcRead r) 0 0 (fun _ => False)) (cw : CallB R s args own index y bytes maxL ret ws rm 0 0 n ∧ (Cond.static y).before args s = true) (hn : As.length = n) (hsize : ls.size = nL) (hstack : st0 = As.reverse ++ rest) (hW : (rest.map fun v => v.category).sum ≤ 8) (hdg : decode cc pc = .ok (.invokestatic index, 3)) (hf : cells ≤ R.cells ∧ slots ≤ R.slots)
    (kk : W p l e R s m args below meth c H locs cells slots Q (F0 m (pc + 3) ls (.int r :: rest))) : W p l e R s m args below meth c H locs cells slots Q (F0 m pc ls st0) :=
  W.callR (W.runS (g := F0 m pc ls st0) S hM cw ⟨xT_fb, fun U _ _ => ⟨rfl, trivial⟩⟩ rfl hn hsize hstack (lv_room hW) hdg hf) kk
/-- a method of an object that reads a world is called -/
theorem xc_R (S : CallFix p m c cc nL s args Ts own) (hM : Met l y ws rm (xR D cl wd tys B (Value.ref b :: As)) (QcRead r) 0 0 (fun _ => False)) (cw : CallW R s args own C index y bytes maxL ret ws rm 0 0 n) (hmv : xMv B) (hB : B s) (hP : va_P D cl wd H) (hK : va_K D cl tys s) (hrc : ∃ cell : Cell, H[b]? = some cell ∧ cell.vm.isStatics = false ∧ s.vm.findClass C = some cell.cls) (hn : As.length = n) (hsize : ls.size = nL) (hstack : st0 = As.reverse ++ .ref b :: rest) (hW : (rest.map fun v => v.category).sum ≤ 8) (hdg : decode cc pc = .ok (.invokevirtual index, 3)) (hf : cells ≤ R.cells ∧ slots ≤ R.slots)
    (kk : W p l e R s m args below meth c H locs cells slots Q (F0 m (pc + 3) ls (.int r :: rest))) : W p l e R s m args below meth c H locs cells slots Q (F0 m pc ls st0) :=
  W.callR (W.runV (g := F0 m pc ls st0) S hM cw ⟨xR_fb hmv, hrc, fun U hU hW => ⟨rfl, by rw [hU]; exact hP, va_K.moved hW.alike hK, hmv.2 s U hW hB⟩⟩ rfl hn hsize hstack (lv_room hW) hdg hf) kk
/-- a part of a world -/
theorem xp_l {w1 w2 : va_W} (h : va_P D cl (w1 ++ w2) H) : va_P D cl w1 H := fun k q hk => h k q (by rw [List.getElem?_append_left (List.getElem?_eq_some_iff.mp hk).1]; exact hk)
theorem xd_l {w1 w2 : va_W} (h : va_D A (w1 ++ w2)) : va_D A w1 := by
  refine ⟨fun i j p q hi hj e => h.1 i j p q ?_ ?_ e, fun k q hk => h.2 k q ?_⟩
  · rw [List.getElem?_append_left (List.getElem?_eq_some_iff.mp hi).1]; exact hi
  · rw [List.getElem?_append_left (List.getElem?_eq_some_iff.mp hj).1]; exact hj
  · rw [List.getElem?_append_left (List.getElem?_eq_some_iff.mp hk).1]; exact hk
theorem xp_c {w1 w2 : va_W} (h : va_P D cl (w1 ++ w2) H) : va_P D cl (w2 ++ w1) H := va_P.swap (a := []) h
theorem xd_c {w1 w2 : va_W} (h : va_D A (w1 ++ w2)) : va_D A (w2 ++ w1) := va_D.swap (a := []) h
theorem x_rng (X : va_W) : (List.range X.length).map (fun i => X[i]?) = X.map some := by
  apply List.ext_getElem?
  intro i
  by_cases h : i < X.length
  · simp [h]
  · simp [h]
theorem x_fr {w rw : va_W} (hD : va_D A (w ++ rw)) (hS : va_S A H0 H locs) (hA : ∀ q, H0.size ≤ q → A q) : ∀ q, va_A w H.size q → A q := by
  rintro q (⟨k, e, hk⟩ | h)
  · exact (xd_l hD).2 k _ hk
  · exact hA q (Nat.le_trans hS.1 h)
/-- behind a call on a part of the world -/
theorem xj {A0 : Nat → Prop} {w w1 rw : va_W} {H1 : Heap} (hP : va_P D cl (w ++ rw) H) (hD : va_D A0 (w ++ rw)) (hk : ∀ q : Nat, q < H.size → ¬ va_A w H.size q → H1[q]? = H[q]?) (hF : ∀ q, va_A w H.size q → A0 q) (hP1 : va_P D cl w1 H1) (hD1 : va_D (va_A w H.size) w1) : va_P D cl (w1 ++ rw) H1 ∧ va_D A0 (w1 ++ rw) :=
  va_joinQ (X := w) (cx := w) (wr := []) (pl := rw) hP hD (List.range w.length) [] (x_rng w) rfl rfl (fun i h => by cases h) hk hF hP1 hD1
/-- a method of an object that writes in a part of the world is called -/
theorem xc_W {S0 : Type} {post : Int32 → S0 → Prop} {ws' : S0 → va_W} {tys' : S0 → List (ClassId × FieldType)} {rw : va_W} (S : CallFix p m c cc nL s args Ts own) (hM : Met l y ws rm (xW D cl wd tys B H.size (Value.ref b :: As)) (xQ D cl post ws' tys' (va_A wd H.size)) mc ms (va_A wd H.size)) (cw : CallW R s args own C index y bytes maxL ret ws rm mc ms n) (hmv : xMv B) (hB : B s) (hP : va_P D cl (wd ++ rw) H) (hK : va_K D cl tys s) (hD : va_D A (wd ++ rw)) (hS : va_S A H0 H locs) (hA : ∀ q, H0.size ≤ q → A q) (hrc : ∃ cell : Cell, H[b]? = some cell ∧ cell.vm.isStatics = false ∧ s.vm.findClass C = some cell.cls) (hn : As.length = n) (hsize : ls.size = nL) (hstack : st0 = As.reverse ++ .ref b :: rest) (hW : (rest.map fun v => v.category).sum ≤ 8) (hdg : decode cc pc = .ok (.invokevirtual index, 3)) (hf : cells + mc ≤ R.cells ∧ slots + ms ≤ R.slots)
    (kk : ∀ (r : Int32) (u : S0) (H1 : Heap) (locs1 : List Loc), post r u → va_P D cl (ws' u ++ rw) H1 → va_D A (ws' u ++ rw) → va_K D cl (tys' u) s → va_S A H0 H1 locs1 → W p l e R s m args below meth c H1 locs1 (cells + mc) (slots + ms) Q (F0 m (pc + 3) ls (.int r :: rest))) : W p l e R s m args below meth c H locs cells slots Q (F0 m pc ls st0) := by
  have hF := x_fr hD hS hA
  refine va_calli (va_runV (g := F0 m pc ls st0) S hM cw ⟨xW_fb hmv, hrc, fun U hU hW => ⟨rfl, by rw [hU], by rw [hU]; exact xp_l hP, va_K.moved hW.alike hK, (xd_l hD).weaken (fun _ _ _ _ => trivial), hmv.2 s U hW hB⟩⟩ rfl hn hsize hstack (lv_room hW) hdg hf) hS (fun q _ h => hF q h) hF (fun r u t H1 locs1 ht hvm hw hBu hz1 hk1 hS1 => ?_)
  obtain ⟨hP1, hK1, hD1⟩ := hBu
  rw [ht] at hP1
  obtain ⟨hP2, hD2⟩ := xj hP hD hk1 hF hP1 hD1
  exact kk r u H1 locs1 hw hP2 hD2 (va_K.moved hvm.symm hK1) hS1
theorem xc_Wv {S0 : Type} {post : S0 → Prop} {ws' : S0 → va_W} {tys' : S0 → List (ClassId × FieldType)} {rw : va_W} (S : CallFix p m c cc nL s args Ts own) (hM : Met l y ws rm (xW D cl wd tys B H.size (Value.ref b :: As)) (xQv D cl post ws' tys' (va_A wd H.size)) mc ms (va_A wd H.size)) (cw : CallW R s args own C index y bytes maxL ret ws rm mc ms n) (hmv : xMv B) (hB : B s) (hP : va_P D cl (wd ++ rw) H) (hK : va_K D cl tys s) (hD : va_D A (wd ++ rw)) (hS : va_S A H0 H locs) (hA : ∀ q, H0.size ≤ q → A q) (hrc : ∃ cell : Cell, H[b]? = some cell ∧ cell.vm.isStatics = false ∧ s.vm.findClass C = some cell.cls) (hn : As.length = n) (hsize : ls.size = nL) (hstack : st0 = As.reverse ++ .ref b :: rest) (hW : (rest.map fun v => v.category).sum ≤ 8) (hdg : decode cc pc = .ok (.invokevirtual index, 3)) (hf : cells + mc ≤ R.cells ∧ slots + ms ≤ R.slots)
    (kk : ∀ (u : S0) (H1 : Heap) (locs1 : List Loc), post u → va_P D cl (ws' u ++ rw) H1 → va_D A (ws' u ++ rw) → va_K D cl (tys' u) s → va_S A H0 H1 locs1 → W p l e R s m args below meth c H1 locs1 (cells + mc) (slots + ms) Q (F0 m (pc + 3) ls rest)) : W p l e R s m args below meth c H locs cells slots Q (F0 m pc ls st0) := by
  have hF := x_fr hD hS hA
  refine va_callv (va_runV (g := F0 m pc ls st0) S hM cw ⟨xW_fb hmv, hrc, fun U hU hW => ⟨rfl, by rw [hU], by rw [hU]; exact xp_l hP, va_K.moved hW.alike hK, (xd_l hD).weaken (fun _ _ _ _ => trivial), hmv.2 s U hW hB⟩⟩ rfl hn hsize hstack (lv_room hW) hdg hf) hS (fun q _ h => hF q h) hF (fun u t H1 locs1 ht hvm hw hBu hz1 hk1 hS1 => ?_)
  obtain ⟨hP1, hK1, hD1⟩ := hBu
  rw [ht] at hP1
  obtain ⟨hP2, hD2⟩ := xj hP hD hk1 hF hP1 hD1
  exact kk u H1 locs1 hw hP2 hD2 (va_K.moved hvm.symm hK1) hS1
/-- a constructor is called -/
theorem xc_I {S0 : Type} {post : S0 → Prop} {ws' : S0 → va_W} {tys' : S0 → List (ClassId × FieldType)} {rw : va_W} (S : CallFix p m c cc nL s args Ts own) (hM : Met l y ws rm (xW D cl wd tys B H.size (Value.ref b :: As)) (xQv D cl post ws' tys' (va_A wd H.size)) mc ms (va_A wd H.size)) (cw : CallB R s args own index y bytes maxL none ws rm mc ms n ∧ y.name = "<init>" ∧ (Cond.instanceMethod y).before args s = true) (hmv : xMv B) (hB : B s) (hP : va_P D cl (wd ++ rw) H) (hK : va_K D cl tys s) (hD : va_D A (wd ++ rw)) (hS : va_S A H0 H locs) (hA : ∀ q, H0.size ≤ q → A q) (hn : As.length = n) (hsize : ls.size = nL) (hstack : st0 = As.reverse ++ .ref b :: rest) (hW : (rest.map fun v => v.category).sum ≤ 8) (hdg : decode cc pc = .ok (.invokespecial index, 3)) (hf : cells + mc ≤ R.cells ∧ slots + ms ≤ R.slots)
    (kk : ∀ (u : S0) (H1 : Heap) (locs1 : List Loc), post u → va_P D cl (ws' u ++ rw) H1 → va_D A (ws' u ++ rw) → va_K D cl (tys' u) s → va_S A H0 H1 locs1 → W p l e R s m args below meth c H1 locs1 (cells + mc) (slots + ms) Q (F0 m (pc + 3) ls rest)) : W p l e R s m args below meth c H locs cells slots Q (F0 m pc ls st0) := by
  have hF := x_fr hD hS hA
  refine va_callv (va_runI (g := F0 m pc ls st0) S hM cw ⟨xW_fb hmv, fun U hU hW => ⟨rfl, by rw [hU], by rw [hU]; exact xp_l hP, va_K.moved hW.alike hK, (xd_l hD).weaken (fun _ _ _ _ => trivial), hmv.2 s U hW hB⟩⟩ rfl hn hsize hstack (lv_room hW) hdg hf) hS (fun q _ h => hF q h) hF (fun u t H1 locs1 ht hvm hw hBu hz1 hk1 hS1 => ?_)
  obtain ⟨hP1, hK1, hD1⟩ := hBu
  rw [ht] at hP1
  obtain ⟨hP2, hD2⟩ := xj hP hD hk1 hF hP1 hD1
  exact kk u H1 locs1 hw hP2 hD2 (va_K.moved hvm.symm hK1) hS1
/-- a constructor of a nest mate is called -/
theorem xc_IN {S0 : Type} {post : S0 → Prop} {ws' : S0 → va_W} {tys' : S0 → List (ClassId × FieldType)} {rw : va_W} {host : String} (S : CallFix p m c cc nL s args Ts own) (hM : Met l y ws rm (xW D cl wd tys B H.size (Value.ref b :: As)) (xQv D cl post ws' tys' (va_A wd H.size)) mc ms (va_A wd H.size)) (cw : va_CN R s args own index y host bytes maxL none ws rm mc ms n ∧ y.name = "<init>" ∧ (Cond.instanceMethod y).before args s = true) (hmv : xMv B) (hB : B s) (hP : va_P D cl (wd ++ rw) H) (hK : va_K D cl tys s) (hD : va_D A (wd ++ rw)) (hS : va_S A H0 H locs) (hA : ∀ q, H0.size ≤ q → A q) (hn : As.length = n) (hsize : ls.size = nL) (hstack : st0 = As.reverse ++ .ref b :: rest) (hW : (rest.map fun v => v.category).sum ≤ 8) (hdg : decode cc pc = .ok (.invokespecial index, 3)) (hf : cells + mc ≤ R.cells ∧ slots + ms ≤ R.slots)
    (kk : ∀ (u : S0) (H1 : Heap) (locs1 : List Loc), post u → va_P D cl (ws' u ++ rw) H1 → va_D A (ws' u ++ rw) → va_K D cl (tys' u) s → va_S A H0 H1 locs1 → W p l e R s m args below meth c H1 locs1 (cells + mc) (slots + ms) Q (F0 m (pc + 3) ls rest)) : W p l e R s m args below meth c H locs cells slots Q (F0 m pc ls st0) := by
  have hF := x_fr hD hS hA
  refine va_callv (va_runIN (g := F0 m pc ls st0) S hM cw ⟨xW_fb hmv, fun U hU hW => ⟨rfl, by rw [hU], by rw [hU]; exact xp_l hP, va_K.moved hW.alike hK, (xd_l hD).weaken (fun _ _ _ _ => trivial), hmv.2 s U hW hB⟩⟩ rfl hn hsize hstack (lv_room hW) hdg hf) hS (fun q _ h => hF q h) hF (fun u t H1 locs1 ht hvm hw hBu hz1 hk1 hS1 => ?_)
  obtain ⟨hP1, hK1, hD1⟩ := hBu
  rw [ht] at hP1
  obtain ⟨hP2, hD2⟩ := xj hP hD hk1 hF hP1 hD1
  exact kk u H1 locs1 hw hP2 hD2 (va_K.moved hvm.symm hK1) hS1
/-- a static method that writes in a part of the world is called -/
theorem xc_Sv {S0 : Type} {post : S0 → Prop} {ws' : S0 → va_W} {tys' : S0 → List (ClassId × FieldType)} {rw : va_W} (S : CallFix p m c cc nL s args Ts own) (hM : Met l y ws rm (xW D cl wd tys B H.size As) (xQv D cl post ws' tys' (va_A wd H.size)) mc ms (va_A wd H.size)) (cw : CallB R s args own index y bytes maxL ret ws rm mc ms n ∧ (Cond.static y).before args s = true) (hmv : xMv B) (hB : B s) (hP : va_P D cl (wd ++ rw) H) (hK : va_K D cl tys s) (hD : va_D A (wd ++ rw)) (hS : va_S A H0 H locs) (hA : ∀ q, H0.size ≤ q → A q) (hn : As.length = n) (hsize : ls.size = nL) (hstack : st0 = As.reverse ++ rest) (hW : (rest.map fun v => v.category).sum ≤ 8) (hdg : decode cc pc = .ok (.invokestatic index, 3)) (hf : cells + mc ≤ R.cells ∧ slots + ms ≤ R.slots)
    (kk : ∀ (u : S0) (H1 : Heap) (locs1 : List Loc), post u → va_P D cl (ws' u ++ rw) H1 → va_D A (ws' u ++ rw) → va_K D cl (tys' u) s → va_S A H0 H1 locs1 → W p l e R s m args below meth c H1 locs1 (cells + mc) (slots + ms) Q (F0 m (pc + 3) ls rest)) : W p l e R s m args below meth c H locs cells slots Q (F0 m pc ls st0) := by
  have hF := x_fr hD hS hA
  refine va_callv (va_runS (g := F0 m pc ls st0) S hM cw ⟨xW_fb hmv, fun U hU hW => ⟨rfl, by rw [hU], by rw [hU]; exact xp_l hP, va_K.moved hW.alike hK, (xd_l hD).weaken (fun _ _ _ _ => trivial), hmv.2 s U hW hB⟩⟩ rfl hn hsize hstack (lv_room hW) hdg hf) hS (fun q _ h => hF q h) hF (fun u t H1 locs1 ht hvm hw hBu hz1 hk1 hS1 => ?_)
  obtain ⟨hP1, hK1, hD1⟩ := hBu
  rw [ht] at hP1
  obtain ⟨hP2, hD2⟩ := xj hP hD hk1 hF hP1 hD1
  exact kk u H1 locs1 hw hP2 hD2 (va_K.moved hvm.symm hK1) hS1
/-- a row out of an array of arrays -/
theorem xa_ald (hx : p.tables.exec = Jvm.exec) (hb : c.code = cc) (hK : va_K D cl tys s) (hP : va_P D cl wd H) (q0 t0 : Nat) {cA : ClassId} {t : FieldType} {n : Nat} {f : Nat → Nat} (ha : wd[q0]? = some (a, .inl (cA, n, .inr (.inr (.inr (.inr (fun i => some (f i)))))))) (ht : tys[t0]? = some (cA, .array t)) {i : Int32} (hin : vp_in i n) (hdg : decode cc pc = .ok (.aaload, 1))
    (kk : W p l e R s m args below meth c H locs cells slots Q (F0 m (pc + 1) ls (.ref (f i.toNatClampNeg) :: rest))) : W p l e R s m args below meth c H locs cells slots Q (F0 m pc ls (.int i :: .ref a :: rest)) := by
  have hlt : i.toNatClampNeg < n := Nat.not_le.mp fun q => hin (Or.inr q)
  exact W.aald (v := va_rf (some (f i.toNatClampNeg))) (ty := .array t) hx hb (hP q0 _ ha) ((hK.2 t0 _ ht).1 n (fun j => va_rf (some (f j)))) rfl (fun q => by cases q) (by show ¬ (i < 0 ∨ (arrV _ _ _).slots.size ≤ _); rw [arrV_size]; exact hin) (by show (arrV _ _ _).slots[_]? = _; rw [arrV_read _ _ hlt]) rfl rfl hdg kk
end XBC
end
section
/-! PURE: what the methods answer, as functions of numbers -/
abbrev cn (x : Int32) : Nat := x.toNatClampNeg
def b2i (b : Bool) : Int32 := if b = true then 1 else 0
theorem b2i_t : b2i true = 1 := rfl
theorem b2i_f : b2i false = 0 := rfl
theorem b2i_e {b : Bool} (h : b2i b = 0) : b = false := by cases b <;> simp [b2i] at h <;> rfl
theorem b2i_n {b : Bool} (h : ¬ b2i b = 0) : b = true := by cases b <;> simp [b2i] at h <;> rfl
theorem b2i_eq {a b : Bool} (h : b2i a = b2i b) : a = b := by cases a <;> cases b <;> simp [b2i] at h <;> rfl
theorem b2i_ne {a b : Bool} (h : ¬ b2i a = b2i b) : (a != b) = true := by cases a <;> cases b <;> simp [b2i] at h <;> rfl
theorem b2i_nar (b : Bool) : narrow .boolean (.int (b2i b)) = .int (b2i b) := by cases b <;> rfl
theorem b2i_fit (b : Bool) : fits .boolean (.int (b2i b)) = true := by cases b <;> rfl
theorem b2i_vp (b : Bool) : vp_nar .boolean (b2i b) = b2i b := by cases b <;> rfl
def isWb (x : Int32) : Bool := !(decide (x < 0)) && !(decide (2 ≤ x))
def isHb (x : Int32) : Bool := !(decide (x < 0)) && !(decide (5 < x))
def isQb (w h : Int32) : Bool := isWb w && isHb h
def isSb (x : Int32) : Bool := !(decide (x < 0)) && !(decide (32 ≤ x))
def isFb (x : Int32) : Bool := isSb x || decide (x = 32)
def isGb (x : Int32) : Bool := !(decide (x < 0)) && !(decide (8 ≤ x))
def isMb (x : Int32) : Bool := !(decide (x < 0)) && !(decide (2 < x))
def isVb (so q : Int32) : Bool := if so = 0 then !(decide (q < -40000)) && !(decide (40000 < q)) else !(decide (so < 1)) && !(decide (4 < so))
def valF (so q : Int32) : Int32 := if so = 0 then q else if so = 2 then 40002 else if so = 3 then 40001 else if so = 4 then -40001 else 40003
def srtF (x : Int32) : Int32 := if x = 40003 then 1 else if x = 40002 then 2 else if x = 40001 then 3 else if x = -40001 then 4 else 0
def qrtF (x : Int32) : Int32 := if srtF x = 0 then x else 0
def sizF (x : Int32) : Int32 := if x = 40002 then 0 else x
def szsF (h a b : Int32) : Bool := if h = 0 then decide (a < b) else if h = 1 then decide (a ≤ b) else if h = 2 then decide (b < a) else if h = 3 then decide (b ≤ a) else if h = 4 then decide (a = b) else !decide (a = b)
def stnF (h a b : Int32) : Bool := if a = 40003 ∨ b = 40003 then decide (h = 5) else szsF h (sizF a) (sizF b)
def rungF (mo : Int32) (st d : Bool) : Bool := if mo = 0 then st else if mo = 1 then !st else st != d
/-- the model's -/
def inB (k lo hi : Int32) : Bool := !(decide (k < lo)) && !(decide (hi < k))
def plcF (so q : Int32) : Int32 := if so = 0 then q else if so = 3 then 1000000 else if so = 4 then -1000000 else 0
def goF (h as aq bs bq : Int32) : Bool := if as = 1 ∨ bs = 1 then decide (h = 5) else if plcF as aq = plcF bs bq then decide (h = 1) || decide (h = 3) || decide (h = 4) else if h = 5 then true else if plcF as aq < plcF bs bq then decide (h = 0) || decide (h = 1) else decide (h = 2) || decide (h = 3)
/-- values that are: sorts and quarters in range -/
def okV (x : Int32) : Prop := -40001 ≤ x ∧ x ≤ 40003
theorem i32_le (x y : Int32) : x ≤ y ↔ x.toInt ≤ y.toInt := Int32.le_iff_toInt_le
theorem i32_lt (x y : Int32) : x < y ↔ x.toInt < y.toInt := Int32.lt_iff_toInt_lt
theorem i32_eq (x y : Int32) : x = y ↔ x.toInt = y.toInt := ⟨fun h => by rw [h], fun h => Int32.toInt_inj.mp h⟩
theorem in01 (x : Int32) : inB x 0 1 = isWb x := by
  have : (1 < x) ↔ (2 ≤ x) := by rw [i32_lt, i32_le]; simp; omega
  simp [inB, isWb, this]
theorem in05 (x : Int32) : inB x 0 5 = isHb x := rfl
theorem in31 (x : Int32) : inB x 0 31 = isSb x := by
  have : (31 < x) ↔ (32 ≤ x) := by rw [i32_lt, i32_le]; simp; omega
  simp [inB, isSb, this]
theorem in32 (x : Int32) : inB x 0 32 = isFb x := by
  rw [Bool.eq_iff_iff]
  simp only [inB, isFb, isSb, Bool.and_eq_true, Bool.or_eq_true, Bool.not_eq_true', decide_eq_false_iff_not, decide_eq_true_eq, i32_lt, i32_le, i32_eq, show (0 : Int32).toInt = 0 by decide, show (32 : Int32).toInt = 32 by decide]
  omega
theorem in07 (x : Int32) : inB x 0 7 = isGb x := by
  have : (7 < x) ↔ (8 ≤ x) := by rw [i32_lt, i32_le]; simp; omega
  simp [inB, isGb, this]
theorem in02 (x : Int32) : inB x 0 2 = isMb x := rfl
theorem isW_in {x : Int32} (h : isWb x = true) : vp_in x 2 := by
  rw [vp_in_iff]
  simp [isWb] at h
  rw [i32_lt, i32_le] at h
  simp at h
  omega
theorem isS_in {x : Int32} (h : isSb x = true) : vp_in x 32 := by
  rw [vp_in_iff]
  simp [isSb] at h
  rw [i32_lt, i32_le] at h
  simp at h
  omega
theorem isF_in {x : Int32} (h : isFb x = true) : vp_in x 33 := by
  rw [vp_in_iff]
  simp [isFb, isSb] at h
  rw [i32_lt, i32_le, i32_eq] at h
  simp at h
  omega
theorem isG_in {x : Int32} (h : isGb x = true) : vp_in x 8 := by
  rw [vp_in_iff]
  simp [isGb] at h
  rw [i32_lt, i32_le] at h
  simp at h
  omega
theorem isQ_w {w h : Int32} (q : isQb w h = true) : vp_in w 2 := by
  simp [isQb] at q
  exact isW_in q.1
theorem vp_in_mono {x : Int32} {a b : Nat} (h : vp_in x a) (hab : a ≤ b) : vp_in x b := by
  rw [vp_in_iff] at h ⊢
  omega
theorem vp_lt {x : Int32} {n : Nat} (h : vp_in x n) : cn x < n := Nat.not_le.mp fun q => h (Or.inr q)
theorem nI_cn {j : Nat} (h : j < 2 ^ 31) : cn (nI j) = j := nI_clamp h
theorem isS_F {x : Int32} (h : isSb x = true) : isFb x = true := by simp [isFb, h]
theorem vpk {n : Nat} (k N : Nat) (hk : k = n) (h : n < N) (hN : N < 2 ^ 31) : vp_in (nI k) N := by subst hk; exact vp_in_nI h hN
/-- the model's comparing, on sorts and quarters, is the class's, on values -/
theorem ts_lit (x : Int32) (h : okV x) : x = 40003 ∨ x = 40002 ∨ x = 40001 ∨ x = -40001 ∨ (srtF x = 0 ∧ -40000 ≤ x.toInt ∧ x.toInt ≤ 40000) := by
  by_cases h1 : x = 40003
  · exact Or.inl h1
  by_cases h2 : x = 40002
  · exact Or.inr (Or.inl h2)
  by_cases h3 : x = 40001
  · exact Or.inr (Or.inr (Or.inl h3))
  by_cases h4 : x = -40001
  · exact Or.inr (Or.inr (Or.inr (Or.inl h4)))
  refine Or.inr (Or.inr (Or.inr (Or.inr ⟨by simp [srtF, h1, h2, h3, h4], ?_⟩)))
  obtain ⟨ha, hb⟩ := h
  rw [i32_le] at ha hb
  rw [i32_eq] at h1 h2 h3 h4
  simp at ha hb h1 h2 h3 h4
  omega
/-- where a value lies: the model's place against the class's size -/
theorem plc_or (x : Int32) (h : okV x) (hn : ¬ x = 40003) : srtF x ≠ 1 ∧ ((x = 40001 ∧ plcF (srtF x) (qrtF x) = 1000000 ∧ sizF x = 40001) ∨ (x = -40001 ∧ plcF (srtF x) (qrtF x) = -1000000 ∧ sizF x = -40001) ∨ (plcF (srtF x) (qrtF x) = sizF x ∧ -40000 ≤ (sizF x).toInt ∧ (sizF x).toInt ≤ 40000)) := by
  rcases ts_lit x h with e | e | e | e | ⟨e, e2, e3⟩
  · exact absurd e hn
  · subst e; exact ⟨by decide, Or.inr (Or.inr (by decide))⟩
  · subst e; exact ⟨by decide, Or.inl (by decide)⟩
  · subst e; exact ⟨by decide, Or.inr (Or.inl (by decide))⟩
  · have h2 : ¬ x = 40002 := by
      intro q; subst q; exact absurd e (by decide)
    refine ⟨by rw [e]; decide, Or.inr (Or.inr ?_)⟩
    have : sizF x = x := by simp [sizF, h2]
    rw [this]
    exact ⟨by simp [plcF, qrtF, e], e2, e3⟩
theorem plc_cmp (a b : Int32) (ha : okV a) (hb : okV b) (na : ¬ a = 40003) (nb : ¬ b = 40003) :
    (plcF (srtF a) (qrtF a) = plcF (srtF b) (qrtF b) ↔ sizF a = sizF b) ∧ (plcF (srtF a) (qrtF a) < plcF (srtF b) (qrtF b) ↔ sizF a < sizF b) := by
  obtain ⟨-, ca⟩ := plc_or a ha na
  obtain ⟨-, cb⟩ := plc_or b hb nb
  have t1 : (1000000 : Int32).toInt = 1000000 := by decide
  have t2 : (-1000000 : Int32).toInt = -1000000 := by decide
  have t3 : (40001 : Int32).toInt = 40001 := by decide
  have t4 : (-40001 : Int32).toInt = -40001 := by decide
  rw [i32_eq, i32_eq, i32_lt, i32_lt]
  rcases ca with ⟨-, e1, e2⟩ | ⟨-, e1, e2⟩ | ⟨e1, e2, e3⟩ <;> rcases cb with ⟨-, f1, f2⟩ | ⟨-, f1, f2⟩ | ⟨f1, f2, f3⟩ <;> rw [e1, f1] <;> (try rw [e2]) <;> (try rw [f2]) <;> (try rw [t1]) <;> (try rw [t2]) <;> (try rw [t3]) <;> (try rw [t4]) <;> omega
theorem go_stn (h a b : Int32) (hh : isHb h = true) (ha : okV a) (hb : okV b) : goF h (srtF a) (qrtF a) (srtF b) (qrtF b) = stnF h a b := by
  by_cases na : a = 40003
  · subst na; simp [goF, stnF, show srtF 40003 = 1 by decide]
  by_cases nb : b = 40003
  · subst nb; simp [goF, stnF, show srtF 40003 = 1 by decide]
  obtain ⟨ce, cl⟩ := plc_cmp a b ha hb na nb
  have sa := (plc_or a ha na).1
  have sb := (plc_or b hb nb).1
  have hx : ¬ (srtF a = 1 ∨ srtF b = 1) := fun q => q.elim sa sb
  have hy : ¬ (a = 40003 ∨ b = 40003) := fun q => q.elim na nb
  unfold goF stnF
  rw [if_neg hx, if_neg hy]
  generalize plcF (srtF a) (qrtF a) = A at ce cl ⊢
  generalize plcF (srtF b) (qrtF b) = C at ce cl ⊢
  generalize sizF a = a' at ce cl ⊢
  generalize sizF b = b' at ce cl ⊢
  have h6 : h = 0 ∨ h = 1 ∨ h = 2 ∨ h = 3 ∨ h = 4 ∨ h = 5 := by
    simp [isHb] at hh
    simp only [i32_le] at hh
    simp only [i32_eq]
    simp at hh ⊢
    omega
  by_cases q1 : A = C
  · have q2 := ce.mp q1
    subst q2
    rcases h6 with e | e | e | e | e | e <;> subst e <;> simp [q1, szsF]
  · have q2 : ¬ a' = b' := fun q => q1 (ce.mpr q)
    have q5 : a' < b' ∨ b' < a' := by
      rw [i32_eq] at q2
      rw [i32_lt, i32_lt]
      omega
    by_cases q3 : A < C
    · have q4 := cl.mp q3
      have q6 : a' ≤ b' := by rw [i32_lt] at q4; rw [i32_le]; omega
      have q7 : ¬ b' < a' := by rw [i32_lt] at q4 ⊢; omega
      have q8 : ¬ b' ≤ a' := by rw [i32_lt] at q4; rw [i32_le]; omega
      rcases h6 with e | e | e | e | e | e <;> subst e <;> simp [q1, q2, q3, q4, q6, q7, q8, szsF]
    · have q4 : ¬ a' < b' := fun q => q3 (cl.mpr q)
      have q5 : b' < a' := q5.resolve_left q4
      have q6 : ¬ a' ≤ b' := by rw [i32_lt] at q5; rw [i32_le]; omega
      have q8 : b' ≤ a' := by rw [i32_lt] at q5; rw [i32_le]; omega
      rcases h6 with e | e | e | e | e | e <;> subst e <;> simp [q1, q2, q3, q4, q5, q6, q8, szsF]
theorem val_ok {so q : Int32} (h : isVb so q = true) : okV (valF so q) ∧ srtF (valF so q) = so ∧ qrtF (valF so q) = (if so = 0 then q else 0) := by
  by_cases e : so = 0
  · subst e
    simp [isVb] at h
    have h1 : ¬ q = 40003 := by intro e; subst e; exact absurd h (by decide)
    have h2 : ¬ q = 40002 := by intro e; subst e; exact absurd h (by decide)
    have h3 : ¬ q = 40001 := by intro e; subst e; exact absurd h (by decide)
    have h4 : ¬ q = -40001 := by intro e; subst e; exact absurd h (by decide)
    have hs : srtF q = 0 := by simp [srtF, h1, h2, h3, h4]
    refine ⟨?_, by simp [valF, hs], by simp [valF, qrtF, hs]⟩
    simp only [valF, if_pos]
    simp only [i32_le] at h
    unfold okV
    simp only [i32_le]
    simp at h ⊢
    omega
  · simp [isVb, e] at h
    have h5 : so = 1 ∨ so = 2 ∨ so = 3 ∨ so = 4 := by
      simp only [i32_le] at h
      simp only [i32_eq]
      simp at h ⊢
      omega
    have v1 : valF 1 q = 40003 := rfl
    have v2 : valF 2 q = 40002 := rfl
    have v3 : valF 3 q = 40001 := rfl
    have v4 : valF 4 q = -40001 := rfl
    rcases h5 with e5 | e5 | e5 | e5 <;> subst e5 <;> rw [if_neg e]
    · rw [v1]; exact ⟨by unfold okV; decide, by decide, by decide⟩
    · rw [v2]; exact ⟨by unfold okV; decide, by decide, by decide⟩
    · rw [v3]; exact ⟨by unfold okV; decide, by decide, by decide⟩
    · rw [v4]; exact ⟨by unfold okV; decide, by decide, by decide⟩
end
section
/-! the static methods that read nothing -/
set_option maxHeartbeats 4000000 in
set_option maxRecDepth 100000 in
theorem c_X1_isWhat (l : Launch) (a0 : Int32) : Met l yX1_isWhat wsX1_isWhat ({ frames := 0, cells := 0, slots := 0, locals := 0 }) (va_Pc [.int a0] (fun _ => True)) (QcRead (b2i (isWb a0))) 0 0 (fun _ => False) := by
  refine xs_in (cc := cX1_isWhat) (maxL := 1) (ret := (some .boolean)) (by decide) rfl (Nat.le_of_ble_eq_true rfl) ?_
  intro p e s m below meth c ls hx hb hr hml hts hown hlk hl
  have hown : s.vm.findClass RX1 = some m.cls := hown
  have hl : lv_has ls 1 [(0, .int a0)] := hl
  refine lv_iload_n hx hb dX1_isWhat_0 rfl (lv_at hl 0 rfl) ?_
  refine lv_if_lt (tgt := 13) hx hb dX1_isWhat_1 (by decide) (fun c_1 => ?_) (fun c_1 => ?_)
  · refine lv_iconst (v := 0) hx hb dX1_isWhat_13 (by decide) ?_
    exact xr_z hx hb hr hlk dX1_isWhat_14 (b2i_nar _) (by simp [isWb, b2i, c_1])
  · refine lv_iload_n hx hb dX1_isWhat_4 rfl (lv_at hl 0 rfl) ?_
    refine lv_iconst (v := 2) hx hb dX1_isWhat_5 (by decide) ?_
    refine lv_icmp_ge (tgt := 13) hx hb dX1_isWhat_6 (by decide) (fun c_2 => ?_) (fun c_2 => ?_)
    · refine lv_iconst (v := 0) hx hb dX1_isWhat_13 (by decide) ?_
      exact xr_z hx hb hr hlk dX1_isWhat_14 (b2i_nar _) (by simp [isWb, b2i, c_1, c_2])
    · refine lv_iconst (v := 1) hx hb dX1_isWhat_9 (by decide) ?_
      refine lv_goto (tgt := 14) hx hb dX1_isWhat_10 (by decide) ?_
      exact xr_z hx hb hr hlk dX1_isWhat_14 (b2i_nar _) (by simp [isWb, b2i, c_1, c_2])
set_option maxHeartbeats 4000000 in
set_option maxRecDepth 100000 in
theorem c_X1_isHow (l : Launch) (a0 : Int32) : Met l yX1_isHow wsX1_isHow ({ frames := 0, cells := 0, slots := 0, locals := 0 }) (va_Pc [.int a0] (fun _ => True)) (QcRead (b2i (isHb a0))) 0 0 (fun _ => False) := by
  refine xs_in (cc := cX1_isHow) (maxL := 1) (ret := (some .boolean)) (by decide) rfl (Nat.le_of_ble_eq_true rfl) ?_
  intro p e s m below meth c ls hx hb hr hml hts hown hlk hl
  have hown : s.vm.findClass RX1 = some m.cls := hown
  have hl : lv_has ls 1 [(0, .int a0)] := hl
  refine lv_iload_n hx hb dX1_isHow_0 rfl (lv_at hl 0 rfl) ?_
  refine lv_if_lt (tgt := 13) hx hb dX1_isHow_1 (by decide) (fun c_1 => ?_) (fun c_1 => ?_)
  · refine lv_iconst (v := 0) hx hb dX1_isHow_13 (by decide) ?_
    exact xr_z hx hb hr hlk dX1_isHow_14 (b2i_nar _) (by simp [isHb, b2i, c_1])
  · refine lv_iload_n hx hb dX1_isHow_4 rfl (lv_at hl 0 rfl) ?_
    refine lv_iconst (v := 5) hx hb dX1_isHow_5 (by decide) ?_
    refine lv_icmp_gt (tgt := 13) hx hb dX1_isHow_6 (by decide) (fun c_2 => ?_) (fun c_2 => ?_)
    · refine lv_iconst (v := 0) hx hb dX1_isHow_13 (by decide) ?_
      exact xr_z hx hb hr hlk dX1_isHow_14 (b2i_nar _) (by simp [isHb, b2i, c_1, c_2])
    · refine lv_iconst (v := 1) hx hb dX1_isHow_9 (by decide) ?_
      refine lv_goto (tgt := 14) hx hb dX1_isHow_10 (by decide) ?_
      exact xr_z hx hb hr hlk dX1_isHow_14 (b2i_nar _) (by simp [isHb, b2i, c_1, c_2])
set_option maxHeartbeats 4000000 in
set_option maxRecDepth 100000 in
theorem c_X1_isQuestion (l : Launch) (a0 a1 : Int32) : Met l yX1_isQuestion wsX1_isQuestion ({ frames := 1, cells := 0, slots := 0, locals := 20 }) (va_Pc [.int a0, .int a1] (fun _ => True)) (QcRead (b2i (isQb a0 a1))) 0 0 (fun _ => False) := by
  refine xs_in (cc := cX1_isQuestion) (maxL := 2) (ret := (some .boolean)) (by decide) rfl (Nat.le_of_ble_eq_true rfl) ?_
  intro p e s m below meth c ls hx hb hr hml hts hown hlk hl
  have hown : s.vm.findClass RX1 = some m.cls := hown
  have hl : lv_has ls 2 [(0, .int a0), (1, .int a1)] := hl
  refine lv_iload_n hx hb dX1_isQuestion_0 rfl (lv_at hl 0 rfl) ?_
  refine xc_T (As := [.int a0]) (rest := []) ⟨hx, hb, hml, hown, hts⟩ (c_X1_isWhat l a0) (va_cwS 1 hts gX1_isQuestion_X1_isWhat rfl rfl rfl (by decide +kernel) ⟨Nat.le_of_ble_eq_true rfl, Nat.le_of_ble_eq_true rfl⟩) rfl hl.1 rfl (Nat.le_of_ble_eq_true rfl) dX1_isQuestion_1 ⟨Nat.zero_le _, Nat.zero_le _⟩ ?_
  refine lv_if_eq (tgt := 18) hx hb dX1_isQuestion_4 (by decide) (fun c_1 => ?_) (fun c_1 => ?_)
  · have c_1 := b2i_e c_1
    refine lv_iconst (v := 0) hx hb dX1_isQuestion_18 (by decide) ?_
    exact xr_z hx hb hr hlk dX1_isQuestion_19 (b2i_nar _) (by simp [isQb, b2i, c_1])
  · have c_1 := b2i_n c_1
    refine lv_iload_n hx hb dX1_isQuestion_7 rfl (lv_at hl 1 rfl) ?_
    refine xc_T (As := [.int a1]) (rest := []) ⟨hx, hb, hml, hown, hts⟩ (c_X1_isHow l a1) (va_cwS 1 hts gX1_isQuestion_X1_isHow rfl rfl rfl (by decide +kernel) ⟨Nat.le_of_ble_eq_true rfl, Nat.le_of_ble_eq_true rfl⟩) rfl hl.1 rfl (Nat.le_of_ble_eq_true rfl) dX1_isQuestion_8 ⟨Nat.zero_le _, Nat.zero_le _⟩ ?_
    refine lv_if_eq (tgt := 18) hx hb dX1_isQuestion_11 (by decide) (fun c_2 => ?_) (fun c_2 => ?_)
    · have c_2 := b2i_e c_2
      refine lv_iconst (v := 0) hx hb dX1_isQuestion_18 (by decide) ?_
      exact xr_z hx hb hr hlk dX1_isQuestion_19 (b2i_nar _) (by simp [isQb, b2i, c_1, c_2])
    · have c_2 := b2i_n c_2
      refine lv_iconst (v := 1) hx hb dX1_isQuestion_14 (by decide) ?_
      refine lv_goto (tgt := 19) hx hb dX1_isQuestion_15 (by decide) ?_
      exact xr_z hx hb hr hlk dX1_isQuestion_19 (b2i_nar _) (by simp [isQb, b2i, c_1, c_2])
set_option maxHeartbeats 4000000 in
set_option maxRecDepth 100000 in
theorem c_X1_isString (l : Launch) (a0 : Int32) : Met l yX1_isString wsX1_isString ({ frames := 0, cells := 0, slots := 0, locals := 0 }) (va_Pc [.int a0] (fun _ => True)) (QcRead (b2i (isSb a0))) 0 0 (fun _ => False) := by
  refine xs_in (cc := cX1_isString) (maxL := 1) (ret := (some .boolean)) (by decide) rfl (Nat.le_of_ble_eq_true rfl) ?_
  intro p e s m below meth c ls hx hb hr hml hts hown hlk hl
  have hown : s.vm.findClass RX1 = some m.cls := hown
  have hl : lv_has ls 1 [(0, .int a0)] := hl
  refine lv_iload_n hx hb dX1_isString_0 rfl (lv_at hl 0 rfl) ?_
  refine lv_if_lt (tgt := 14) hx hb dX1_isString_1 (by decide) (fun c_1 => ?_) (fun c_1 => ?_)
  · refine lv_iconst (v := 0) hx hb dX1_isString_14 (by decide) ?_
    exact xr_z hx hb hr hlk dX1_isString_15 (b2i_nar _) (by simp [isSb, b2i, c_1])
  · refine lv_iload_n hx hb dX1_isString_4 rfl (lv_at hl 0 rfl) ?_
    refine lv_bipush (v := 32) hx hb dX1_isString_5 (by decide) ?_
    refine lv_icmp_ge (tgt := 14) hx hb dX1_isString_7 (by decide) (fun c_2 => ?_) (fun c_2 => ?_)
    · refine lv_iconst (v := 0) hx hb dX1_isString_14 (by decide) ?_
      exact xr_z hx hb hr hlk dX1_isString_15 (b2i_nar _) (by simp [isSb, b2i, c_1, c_2])
    · refine lv_iconst (v := 1) hx hb dX1_isString_10 (by decide) ?_
      refine lv_goto (tgt := 15) hx hb dX1_isString_11 (by decide) ?_
      exact xr_z hx hb hr hlk dX1_isString_15 (b2i_nar _) (by simp [isSb, b2i, c_1, c_2])
set_option maxHeartbeats 4000000 in
set_option maxRecDepth 100000 in
theorem c_X1_isStringOrFork (l : Launch) (a0 : Int32) : Met l yX1_isStringOrFork wsX1_isStringOrFork ({ frames := 1, cells := 0, slots := 0, locals := 20 }) (va_Pc [.int a0] (fun _ => True)) (QcRead (b2i (isFb a0))) 0 0 (fun _ => False) := by
  refine xs_in (cc := cX1_isStringOrFork) (maxL := 1) (ret := (some .boolean)) (by decide) rfl (Nat.le_of_ble_eq_true rfl) ?_
  intro p e s m below meth c ls hx hb hr hml hts hown hlk hl
  have hown : s.vm.findClass RX1 = some m.cls := hown
  have hl : lv_has ls 1 [(0, .int a0)] := hl
  refine lv_iload_n hx hb dX1_isStringOrFork_0 rfl (lv_at hl 0 rfl) ?_
  refine xc_T (As := [.int a0]) (rest := []) ⟨hx, hb, hml, hown, hts⟩ (c_X1_isString l a0) (va_cwS 1 hts gX1_isStringOrFork_X1_isString rfl rfl rfl (by decide +kernel) ⟨Nat.le_of_ble_eq_true rfl, Nat.le_of_ble_eq_true rfl⟩) rfl hl.1 rfl (Nat.le_of_ble_eq_true rfl) dX1_isStringOrFork_1 ⟨Nat.zero_le _, Nat.zero_le _⟩ ?_
  refine lv_if_ne (tgt := 13) hx hb dX1_isStringOrFork_4 (by decide) (fun c_1 => ?_) (fun c_1 => ?_)
  · have c_1 := b2i_n c_1
    refine lv_iconst (v := 1) hx hb dX1_isStringOrFork_13 (by decide) ?_
    refine lv_goto (tgt := 18) hx hb dX1_isStringOrFork_14 (by decide) ?_
    exact xr_z hx hb hr hlk dX1_isStringOrFork_18 (b2i_nar _) (by simp [isFb, b2i, c_1])
  · have c_1 := b2i_e c_1
    refine lv_iload_n hx hb dX1_isStringOrFork_7 rfl (lv_at hl 0 rfl) ?_
    refine lv_bipush (v := 32) hx hb dX1_isStringOrFork_8 (by decide) ?_
    refine lv_icmp_ne (tgt := 17) hx hb dX1_isStringOrFork_10 (by decide) (fun c_2 => ?_) (fun c_2 => ?_)
    · refine lv_iconst (v := 0) hx hb dX1_isStringOrFork_17 (by decide) ?_
      exact xr_z hx hb hr hlk dX1_isStringOrFork_18 (b2i_nar _) (by simp [isFb, b2i, c_1, c_2])
    · refine lv_iconst (v := 1) hx hb dX1_isStringOrFork_13 (by decide) ?_
      refine lv_goto (tgt := 18) hx hb dX1_isStringOrFork_14 (by decide) ?_
      exact xr_z hx hb hr hlk dX1_isStringOrFork_18 (b2i_nar _) (by simp [isFb, b2i, c_1, c_2])
set_option maxHeartbeats 4000000 in
set_option maxRecDepth 100000 in
theorem c_X1_isGuard (l : Launch) (a0 : Int32) : Met l yX1_isGuard wsX1_isGuard ({ frames := 0, cells := 0, slots := 0, locals := 0 }) (va_Pc [.int a0] (fun _ => True)) (QcRead (b2i (isGb a0))) 0 0 (fun _ => False) := by
  refine xs_in (cc := cX1_isGuard) (maxL := 1) (ret := (some .boolean)) (by decide) rfl (Nat.le_of_ble_eq_true rfl) ?_
  intro p e s m below meth c ls hx hb hr hml hts hown hlk hl
  have hown : s.vm.findClass RX1 = some m.cls := hown
  have hl : lv_has ls 1 [(0, .int a0)] := hl
  refine lv_iload_n hx hb dX1_isGuard_0 rfl (lv_at hl 0 rfl) ?_
  refine lv_if_lt (tgt := 14) hx hb dX1_isGuard_1 (by decide) (fun c_1 => ?_) (fun c_1 => ?_)
  · refine lv_iconst (v := 0) hx hb dX1_isGuard_14 (by decide) ?_
    exact xr_z hx hb hr hlk dX1_isGuard_15 (b2i_nar _) (by simp [isGb, b2i, c_1])
  · refine lv_iload_n hx hb dX1_isGuard_4 rfl (lv_at hl 0 rfl) ?_
    refine lv_bipush (v := 8) hx hb dX1_isGuard_5 (by decide) ?_
    refine lv_icmp_ge (tgt := 14) hx hb dX1_isGuard_7 (by decide) (fun c_2 => ?_) (fun c_2 => ?_)
    · refine lv_iconst (v := 0) hx hb dX1_isGuard_14 (by decide) ?_
      exact xr_z hx hb hr hlk dX1_isGuard_15 (b2i_nar _) (by simp [isGb, b2i, c_1, c_2])
    · refine lv_iconst (v := 1) hx hb dX1_isGuard_10 (by decide) ?_
      refine lv_goto (tgt := 15) hx hb dX1_isGuard_11 (by decide) ?_
      exact xr_z hx hb hr hlk dX1_isGuard_15 (b2i_nar _) (by simp [isGb, b2i, c_1, c_2])
set_option maxHeartbeats 4000000 in
set_option maxRecDepth 100000 in
theorem c_X1_isMode (l : Launch) (a0 : Int32) : Met l yX1_isMode wsX1_isMode ({ frames := 0, cells := 0, slots := 0, locals := 0 }) (va_Pc [.int a0] (fun _ => True)) (QcRead (b2i (isMb a0))) 0 0 (fun _ => False) := by
  refine xs_in (cc := cX1_isMode) (maxL := 1) (ret := (some .boolean)) (by decide) rfl (Nat.le_of_ble_eq_true rfl) ?_
  intro p e s m below meth c ls hx hb hr hml hts hown hlk hl
  have hown : s.vm.findClass RX1 = some m.cls := hown
  have hl : lv_has ls 1 [(0, .int a0)] := hl
  refine lv_iload_n hx hb dX1_isMode_0 rfl (lv_at hl 0 rfl) ?_
  refine lv_if_lt (tgt := 13) hx hb dX1_isMode_1 (by decide) (fun c_1 => ?_) (fun c_1 => ?_)
  · refine lv_iconst (v := 0) hx hb dX1_isMode_13 (by decide) ?_
    exact xr_z hx hb hr hlk dX1_isMode_14 (b2i_nar _) (by simp [isMb, b2i, c_1])
  · refine lv_iload_n hx hb dX1_isMode_4 rfl (lv_at hl 0 rfl) ?_
    refine lv_iconst (v := 2) hx hb dX1_isMode_5 (by decide) ?_
    refine lv_icmp_gt (tgt := 13) hx hb dX1_isMode_6 (by decide) (fun c_2 => ?_) (fun c_2 => ?_)
    · refine lv_iconst (v := 0) hx hb dX1_isMode_13 (by decide) ?_
      exact xr_z hx hb hr hlk dX1_isMode_14 (b2i_nar _) (by simp [isMb, b2i, c_1, c_2])
    · refine lv_iconst (v := 1) hx hb dX1_isMode_9 (by decide) ?_
      refine lv_goto (tgt := 14) hx hb dX1_isMode_10 (by decide) ?_
      exact xr_z hx hb hr hlk dX1_isMode_14 (b2i_nar _) (by simp [isMb, b2i, c_1, c_2])
set_option maxHeartbeats 4000000 in
set_option maxRecDepth 100000 in
theorem c_X1_isValue (l : Launch) (a0 a1 : Int32) : Met l yX1_isValue wsX1_isValue ({ frames := 0, cells := 0, slots := 0, locals := 0 }) (va_Pc [.int a0, .int a1] (fun _ => True)) (QcRead (b2i (isVb a0 a1))) 0 0 (fun _ => False) := by
  refine xs_in (cc := cX1_isValue) (maxL := 2) (ret := (some .boolean)) (by decide) rfl (Nat.le_of_ble_eq_true rfl) ?_
  intro p e s m below meth c ls hx hb hr hml hts hown hlk hl
  have hown : s.vm.findClass RX1 = some m.cls := hown
  have hl : lv_has ls 2 [(0, .int a0), (1, .int a1)] := hl
  refine lv_iload_n hx hb dX1_isValue_0 rfl (lv_at hl 0 rfl) ?_
  refine lv_if_ne (tgt := 22) hx hb dX1_isValue_1 (by decide) (fun c_1 => ?_) (fun c_1 => ?_)
  · refine lv_iload_n hx hb dX1_isValue_22 rfl (lv_at hl 0 rfl) ?_
    refine lv_iconst (v := 1) hx hb dX1_isValue_23 (by decide) ?_
    refine lv_icmp_lt (tgt := 36) hx hb dX1_isValue_24 (by decide) (fun c_2 => ?_) (fun c_2 => ?_)
    · refine lv_iconst (v := 0) hx hb dX1_isValue_36 (by decide) ?_
      exact xr_z hx hb hr hlk dX1_isValue_37 (b2i_nar _) (by simp [isVb, b2i, c_1, c_2])
    · refine lv_iload_n hx hb dX1_isValue_27 rfl (lv_at hl 0 rfl) ?_
      refine lv_iconst (v := 4) hx hb dX1_isValue_28 (by decide) ?_
      refine lv_icmp_gt (tgt := 36) hx hb dX1_isValue_29 (by decide) (fun c_3 => ?_) (fun c_3 => ?_)
      · refine lv_iconst (v := 0) hx hb dX1_isValue_36 (by decide) ?_
        exact xr_z hx hb hr hlk dX1_isValue_37 (b2i_nar _) (by simp [isVb, b2i, c_1, c_2, c_3])
      · refine lv_iconst (v := 1) hx hb dX1_isValue_32 (by decide) ?_
        refine lv_goto (tgt := 37) hx hb dX1_isValue_33 (by decide) ?_
        exact xr_z hx hb hr hlk dX1_isValue_37 (b2i_nar _) (by simp [isVb, b2i, c_1, c_2, c_3])
  · refine lv_iload_n hx hb dX1_isValue_4 rfl (lv_at hl 1 rfl) ?_
    refine lv_ldc (v := -40000) hx hb hown (hts (.constant RX1 93 (-40000)) (by decide +kernel)) dX1_isValue_5 ?_
    refine lv_icmp_lt (tgt := 20) hx hb dX1_isValue_7 (by decide) (fun c_4 => ?_) (fun c_4 => ?_)
    · refine lv_iconst (v := 0) hx hb dX1_isValue_20 (by decide) ?_
      exact xr_z hx hb hr hlk dX1_isValue_21 (b2i_nar _) (by simp [isVb, b2i, c_1, c_4])
    · refine lv_iload_n hx hb dX1_isValue_10 rfl (lv_at hl 1 rfl) ?_
      refine lv_ldc (v := 40000) hx hb hown (hts (.constant RX1 94 (40000)) (by decide +kernel)) dX1_isValue_11 ?_
      refine lv_icmp_gt (tgt := 20) hx hb dX1_isValue_13 (by decide) (fun c_5 => ?_) (fun c_5 => ?_)
      · refine lv_iconst (v := 0) hx hb dX1_isValue_20 (by decide) ?_
        exact xr_z hx hb hr hlk dX1_isValue_21 (b2i_nar _) (by simp [isVb, b2i, c_1, c_4, c_5])
      · refine lv_iconst (v := 1) hx hb dX1_isValue_16 (by decide) ?_
        refine lv_goto (tgt := 21) hx hb dX1_isValue_17 (by decide) ?_
        exact xr_z hx hb hr hlk dX1_isValue_21 (b2i_nar _) (by simp [isVb, b2i, c_1, c_4, c_5])
set_option maxHeartbeats 4000000 in
set_option maxRecDepth 100000 in
theorem c_X1_valueOf (l : Launch) (a0 a1 : Int32) : Met l yX1_valueOf wsX1_valueOf ({ frames := 0, cells := 0, slots := 0, locals := 0 }) (va_Pc [.int a0, .int a1] (fun _ => True)) (QcRead (valF a0 a1)) 0 0 (fun _ => False) := by
  refine xs_in (cc := cX1_valueOf) (maxL := 2) (ret := (some .int)) (by decide) rfl (Nat.le_of_ble_eq_true rfl) ?_
  intro p e s m below meth c ls hx hb hr hml hts hown hlk hl
  have hown : s.vm.findClass RX1 = some m.cls := hown
  have hl : lv_has ls 2 [(0, .int a0), (1, .int a1)] := hl
  refine lv_iload_n hx hb dX1_valueOf_0 rfl (lv_at hl 0 rfl) ?_
  by_cases q_1 : a0 = 0
  · refine lv_tableIn (off := 35) (tgt := 36) hx hb dX1_valueOf_1 (by rw [q_1]; decide) (by rw [q_1]; decide) (by rw [q_1]; rfl) (by decide) ?_
    refine lv_iload_n hx hb dX1_valueOf_36 rfl (lv_at hl 1 rfl) ?_
    exact xr_i hx hb hr hlk dX1_valueOf_37 (by simp [valF, b2i, q_1])
  by_cases q_2 : a0 = 1
  · refine lv_tableIn (off := 46) (tgt := 47) hx hb dX1_valueOf_1 (by rw [q_2]; decide) (by rw [q_2]; decide) (by rw [q_2]; rfl) (by decide) ?_
    refine lv_ldc (v := 40003) hx hb hown (hts (.constant RX1 30 (40003)) (by decide +kernel)) dX1_valueOf_47 ?_
    exact xr_i hx hb hr hlk dX1_valueOf_49 (by simp [valF, b2i, q_2])
  by_cases q_3 : a0 = 2
  · refine lv_tableIn (off := 37) (tgt := 38) hx hb dX1_valueOf_1 (by rw [q_3]; decide) (by rw [q_3]; decide) (by rw [q_3]; rfl) (by decide) ?_
    refine lv_ldc (v := 40002) hx hb hown (hts (.constant RX1 95 (40002)) (by decide +kernel)) dX1_valueOf_38 ?_
    exact xr_i hx hb hr hlk dX1_valueOf_40 (by simp [valF, b2i, q_3])
  by_cases q_4 : a0 = 3
  · refine lv_tableIn (off := 40) (tgt := 41) hx hb dX1_valueOf_1 (by rw [q_4]; decide) (by rw [q_4]; decide) (by rw [q_4]; rfl) (by decide) ?_
    refine lv_ldc (v := 40001) hx hb hown (hts (.constant RX1 96 (40001)) (by decide +kernel)) dX1_valueOf_41 ?_
    exact xr_i hx hb hr hlk dX1_valueOf_43 (by simp [valF, b2i, q_4])
  by_cases q_5 : a0 = 4
  · refine lv_tableIn (off := 43) (tgt := 44) hx hb dX1_valueOf_1 (by rw [q_5]; decide) (by rw [q_5]; decide) (by rw [q_5]; rfl) (by decide) ?_
    refine lv_ldc (v := -40001) hx hb hown (hts (.constant RX1 97 (-40001)) (by decide +kernel)) dX1_valueOf_44 ?_
    exact xr_i hx hb hr hlk dX1_valueOf_46 (by simp [valF, b2i, q_5])
  refine lv_tableOut (tgt := 47) hx hb dX1_valueOf_1 (by simp only [i32_eq] at q_1 q_2 q_3 q_4 q_5; simp at q_1 q_2 q_3 q_4 q_5 ⊢; omega) (by decide) ?_
  refine lv_ldc (v := 40003) hx hb hown (hts (.constant RX1 30 (40003)) (by decide +kernel)) dX1_valueOf_47 ?_
  exact xr_i hx hb hr hlk dX1_valueOf_49 (by simp [valF, b2i, q_1, q_2, q_3, q_4, q_5])
set_option maxHeartbeats 4000000 in
set_option maxRecDepth 100000 in
theorem c_X1_sortOf (l : Launch) (a0 : Int32) : Met l yX1_sortOf wsX1_sortOf ({ frames := 0, cells := 0, slots := 0, locals := 0 }) (va_Pc [.int a0] (fun _ => True)) (QcRead (srtF a0)) 0 0 (fun _ => False) := by
  refine xs_in (cc := cX1_sortOf) (maxL := 1) (ret := (some .int)) (by decide) rfl (Nat.le_of_ble_eq_true rfl) ?_
  intro p e s m below meth c ls hx hb hr hml hts hown hlk hl
  have hown : s.vm.findClass RX1 = some m.cls := hown
  have hl : lv_has ls 1 [(0, .int a0)] := hl
  refine lv_iload_n hx hb dX1_sortOf_0 rfl (lv_at hl 0 rfl) ?_
  by_cases q_1 : a0 = -40001
  · refine lv_lookup (off := 49) (tgt := 50) hx hb dX1_sortOf_1 (by decide) (by rw [q_1]; rfl) (by decide) ?_
    refine lv_iconst (v := 4) hx hb dX1_sortOf_50 (by decide) ?_
    exact xr_i hx hb hr hlk dX1_sortOf_51 (by simp [srtF, b2i, q_1])
  by_cases q_2 : a0 = 40001
  · refine lv_lookup (off := 47) (tgt := 48) hx hb dX1_sortOf_1 (by decide) (by rw [q_2]; rfl) (by decide) ?_
    refine lv_iconst (v := 3) hx hb dX1_sortOf_48 (by decide) ?_
    exact xr_i hx hb hr hlk dX1_sortOf_49 (by simp [srtF, b2i, q_2])
  by_cases q_3 : a0 = 40002
  · refine lv_lookup (off := 45) (tgt := 46) hx hb dX1_sortOf_1 (by decide) (by rw [q_3]; rfl) (by decide) ?_
    refine lv_iconst (v := 2) hx hb dX1_sortOf_46 (by decide) ?_
    exact xr_i hx hb hr hlk dX1_sortOf_47 (by simp [srtF, b2i, q_3])
  by_cases q_4 : a0 = 40003
  · refine lv_lookup (off := 43) (tgt := 44) hx hb dX1_sortOf_1 (by decide) (by rw [q_4]; rfl) (by decide) ?_
    refine lv_iconst (v := 1) hx hb dX1_sortOf_44 (by decide) ?_
    exact xr_i hx hb hr hlk dX1_sortOf_45 (by simp [srtF, b2i, q_4])
  refine lv_lookup (off := 51) (tgt := 52) hx hb dX1_sortOf_1 (by decide) ((lv_osw q_1 (by decide)).trans ((lv_osw q_2 (by decide)).trans ((lv_osw q_3 (by decide)).trans ((lv_osw q_4 (by decide)).trans rfl)))) (by decide) ?_
  refine lv_iconst (v := 0) hx hb dX1_sortOf_52 (by decide) ?_
  exact xr_i hx hb hr hlk dX1_sortOf_53 (by simp [srtF, b2i, q_1, q_2, q_3, q_4])
set_option maxHeartbeats 4000000 in
set_option maxRecDepth 100000 in
theorem c_X1_sizeOf (l : Launch) (a0 : Int32) : Met l yX1_sizeOf wsX1_sizeOf ({ frames := 0, cells := 0, slots := 0, locals := 0 }) (va_Pc [.int a0] (fun _ => True)) (QcRead (sizF a0)) 0 0 (fun _ => False) := by
  refine xs_in (cc := cX1_sizeOf) (maxL := 1) (ret := (some .int)) (by decide) rfl (Nat.le_of_ble_eq_true rfl) ?_
  intro p e s m below meth c ls hx hb hr hml hts hown hlk hl
  have hown : s.vm.findClass RX1 = some m.cls := hown
  have hl : lv_has ls 1 [(0, .int a0)] := hl
  refine lv_iload_n hx hb dX1_sizeOf_0 rfl (lv_at hl 0 rfl) ?_
  refine lv_ldc (v := 40002) hx hb hown (hts (.constant RX1 95 (40002)) (by decide +kernel)) dX1_sizeOf_1 ?_
  refine lv_icmp_ne (tgt := 10) hx hb dX1_sizeOf_3 (by decide) (fun c_1 => ?_) (fun c_1 => ?_)
  · refine lv_iload_n hx hb dX1_sizeOf_10 rfl (lv_at hl 0 rfl) ?_
    exact xr_i hx hb hr hlk dX1_sizeOf_11 (by simp [sizF, b2i, c_1])
  · refine lv_iconst (v := 0) hx hb dX1_sizeOf_6 (by decide) ?_
    refine lv_goto (tgt := 11) hx hb dX1_sizeOf_7 (by decide) ?_
    exact xr_i hx hb hr hlk dX1_sizeOf_11 (by simp [sizF, b2i, c_1])
set_option maxHeartbeats 4000000 in
set_option maxRecDepth 100000 in
theorem c_X1_sizeStands (l : Launch) (a0 a1 a2 : Int32) : Met l yX1_sizeStands wsX1_sizeStands ({ frames := 0, cells := 0, slots := 0, locals := 0 }) (va_Pc [.int a0, .int a1, .int a2] (fun _ => True)) (QcRead (b2i (szsF a0 a1 a2))) 0 0 (fun _ => False) := by
  refine xs_in (cc := cX1_sizeStands) (maxL := 3) (ret := (some .boolean)) (by decide) rfl (Nat.le_of_ble_eq_true rfl) ?_
  intro p e s m below meth c ls hx hb hr hml hts hown hlk hl
  have hown : s.vm.findClass RX1 = some m.cls := hown
  have hl : lv_has ls 3 [(0, .int a0), (1, .int a1), (2, .int a2)] := hl
  refine lv_iload_n hx hb dX1_sizeStands_0 rfl (lv_at hl 0 rfl) ?_
  by_cases q_1 : a0 = 0
  · refine lv_tableIn (off := 35) (tgt := 36) hx hb dX1_sizeStands_1 (by rw [q_1]; decide) (by rw [q_1]; decide) (by rw [q_1]; rfl) (by decide) ?_
    refine lv_iload_n hx hb dX1_sizeStands_36 rfl (lv_at hl 1 rfl) ?_
    refine lv_iload_n hx hb dX1_sizeStands_37 rfl (lv_at hl 2 rfl) ?_
    refine lv_icmp_ge (tgt := 45) hx hb dX1_sizeStands_38 (by decide) (fun c_2 => ?_) (fun c_2 => ?_)
    · refine lv_iconst (v := 0) hx hb dX1_sizeStands_45 (by decide) ?_
      exact xr_z hx hb hr hlk dX1_sizeStands_46 (b2i_nar _) (by simp [szsF, b2i, q_1, c_2])
    · refine lv_iconst (v := 1) hx hb dX1_sizeStands_41 (by decide) ?_
      refine lv_goto (tgt := 46) hx hb dX1_sizeStands_42 (by decide) ?_
      exact xr_z hx hb hr hlk dX1_sizeStands_46 (b2i_nar _) (by simp [szsF, b2i, q_1, c_2])
  by_cases q_3 : a0 = 1
  · refine lv_tableIn (off := 46) (tgt := 47) hx hb dX1_sizeStands_1 (by rw [q_3]; decide) (by rw [q_3]; decide) (by rw [q_3]; rfl) (by decide) ?_
    refine lv_iload_n hx hb dX1_sizeStands_47 rfl (lv_at hl 1 rfl) ?_
    refine lv_iload_n hx hb dX1_sizeStands_48 rfl (lv_at hl 2 rfl) ?_
    refine lv_icmp_gt (tgt := 56) hx hb dX1_sizeStands_49 (by decide) (fun c_4 => ?_) (fun c_4 => ?_)
    · refine lv_iconst (v := 0) hx hb dX1_sizeStands_56 (by decide) ?_
      exact xr_z hx hb hr hlk dX1_sizeStands_57 (b2i_nar _) (by simp [szsF, b2i, q_3, c_4])
    · refine lv_iconst (v := 1) hx hb dX1_sizeStands_52 (by decide) ?_
      refine lv_goto (tgt := 57) hx hb dX1_sizeStands_53 (by decide) ?_
      exact xr_z hx hb hr hlk dX1_sizeStands_57 (b2i_nar _) (by simp [szsF, b2i, q_3, c_4])
  by_cases q_5 : a0 = 2
  · refine lv_tableIn (off := 57) (tgt := 58) hx hb dX1_sizeStands_1 (by rw [q_5]; decide) (by rw [q_5]; decide) (by rw [q_5]; rfl) (by decide) ?_
    refine lv_iload_n hx hb dX1_sizeStands_58 rfl (lv_at hl 1 rfl) ?_
    refine lv_iload_n hx hb dX1_sizeStands_59 rfl (lv_at hl 2 rfl) ?_
    refine lv_icmp_le (tgt := 67) hx hb dX1_sizeStands_60 (by decide) (fun c_6 => ?_) (fun c_6 => ?_)
    · refine lv_iconst (v := 0) hx hb dX1_sizeStands_67 (by decide) ?_
      exact xr_z hx hb hr hlk dX1_sizeStands_68 (b2i_nar _) (by simp [szsF, b2i, q_5, c_6])
    · refine lv_iconst (v := 1) hx hb dX1_sizeStands_63 (by decide) ?_
      refine lv_goto (tgt := 68) hx hb dX1_sizeStands_64 (by decide) ?_
      exact xr_z hx hb hr hlk dX1_sizeStands_68 (b2i_nar _) (by simp [szsF, b2i, q_5, c_6])
  by_cases q_7 : a0 = 3
  · refine lv_tableIn (off := 68) (tgt := 69) hx hb dX1_sizeStands_1 (by rw [q_7]; decide) (by rw [q_7]; decide) (by rw [q_7]; rfl) (by decide) ?_
    refine lv_iload_n hx hb dX1_sizeStands_69 rfl (lv_at hl 1 rfl) ?_
    refine lv_iload_n hx hb dX1_sizeStands_70 rfl (lv_at hl 2 rfl) ?_
    refine lv_icmp_lt (tgt := 78) hx hb dX1_sizeStands_71 (by decide) (fun c_8 => ?_) (fun c_8 => ?_)
    · refine lv_iconst (v := 0) hx hb dX1_sizeStands_78 (by decide) ?_
      exact xr_z hx hb hr hlk dX1_sizeStands_79 (b2i_nar _) (by simp [szsF, b2i, q_7, c_8])
    · refine lv_iconst (v := 1) hx hb dX1_sizeStands_74 (by decide) ?_
      refine lv_goto (tgt := 79) hx hb dX1_sizeStands_75 (by decide) ?_
      exact xr_z hx hb hr hlk dX1_sizeStands_79 (b2i_nar _) (by simp [szsF, b2i, q_7, c_8])
  by_cases q_9 : a0 = 4
  · refine lv_tableIn (off := 79) (tgt := 80) hx hb dX1_sizeStands_1 (by rw [q_9]; decide) (by rw [q_9]; decide) (by rw [q_9]; rfl) (by decide) ?_
    refine lv_iload_n hx hb dX1_sizeStands_80 rfl (lv_at hl 1 rfl) ?_
    refine lv_iload_n hx hb dX1_sizeStands_81 rfl (lv_at hl 2 rfl) ?_
    refine lv_icmp_ne (tgt := 89) hx hb dX1_sizeStands_82 (by decide) (fun c_10 => ?_) (fun c_10 => ?_)
    · refine lv_iconst (v := 0) hx hb dX1_sizeStands_89 (by decide) ?_
      exact xr_z hx hb hr hlk dX1_sizeStands_90 (b2i_nar _) (by simp [szsF, b2i, q_9, c_10])
    · refine lv_iconst (v := 1) hx hb dX1_sizeStands_85 (by decide) ?_
      refine lv_goto (tgt := 90) hx hb dX1_sizeStands_86 (by decide) ?_
      exact xr_z hx hb hr hlk dX1_sizeStands_90 (b2i_nar _) (by simp [szsF, b2i, q_9, c_10])
  refine lv_tableOut (tgt := 91) hx hb dX1_sizeStands_1 (by simp only [i32_eq] at q_1 q_3 q_5 q_7 q_9; simp at q_1 q_3 q_5 q_7 q_9 ⊢; omega) (by decide) ?_
  refine lv_iload_n hx hb dX1_sizeStands_91 rfl (lv_at hl 1 rfl) ?_
  refine lv_iload_n hx hb dX1_sizeStands_92 rfl (lv_at hl 2 rfl) ?_
  refine lv_icmp_eq (tgt := 100) hx hb dX1_sizeStands_93 (by decide) (fun c_11 => ?_) (fun c_11 => ?_)
  · refine lv_iconst (v := 0) hx hb dX1_sizeStands_100 (by decide) ?_
    exact xr_z hx hb hr hlk dX1_sizeStands_101 (b2i_nar _) (by simp [szsF, b2i, q_1, q_3, q_5, q_7, q_9, c_11])
  · refine lv_iconst (v := 1) hx hb dX1_sizeStands_96 (by decide) ?_
    refine lv_goto (tgt := 101) hx hb dX1_sizeStands_97 (by decide) ?_
    exact xr_z hx hb hr hlk dX1_sizeStands_101 (b2i_nar _) (by simp [szsF, b2i, q_1, q_3, q_5, q_7, q_9, c_11])
set_option maxHeartbeats 4000000 in
set_option maxRecDepth 100000 in
theorem c_X1_valueStands (l : Launch) (a0 a1 a2 : Int32) : Met l yX1_valueStands wsX1_valueStands ({ frames := 1, cells := 0, slots := 0, locals := 22 }) (va_Pc [.int a0, .int a1, .int a2] (fun _ => True)) (QcRead (b2i (stnF a0 a1 a2))) 0 0 (fun _ => False) := by
  refine xs_in (cc := cX1_valueStands) (maxL := 3) (ret := (some .boolean)) (by decide) rfl (Nat.le_of_ble_eq_true rfl) ?_
  intro p e s m below meth c ls hx hb hr hml hts hown hlk hl
  have hown : s.vm.findClass RX1 = some m.cls := hown
  have hl : lv_has ls 3 [(0, .int a0), (1, .int a1), (2, .int a2)] := hl
  refine lv_iload_n hx hb dX1_valueStands_0 rfl (lv_at hl 1 rfl) ?_
  refine lv_ldc (v := 40003) hx hb hown (hts (.constant RX1 30 (40003)) (by decide +kernel)) dX1_valueStands_1 ?_
  refine lv_icmp_eq (tgt := 12) hx hb dX1_valueStands_3 (by decide) (fun c_1 => ?_) (fun c_1 => ?_)
  · refine lv_iload_n hx hb dX1_valueStands_12 rfl (lv_at hl 0 rfl) ?_
    refine lv_iconst (v := 5) hx hb dX1_valueStands_13 (by decide) ?_
    refine lv_icmp_ne (tgt := 21) hx hb dX1_valueStands_14 (by decide) (fun c_2 => ?_) (fun c_2 => ?_)
    · refine lv_iconst (v := 0) hx hb dX1_valueStands_21 (by decide) ?_
      exact xr_z hx hb hr hlk dX1_valueStands_22 (b2i_nar _) (by simp [stnF, b2i, c_1, c_2])
    · refine lv_iconst (v := 1) hx hb dX1_valueStands_17 (by decide) ?_
      refine lv_goto (tgt := 22) hx hb dX1_valueStands_18 (by decide) ?_
      exact xr_z hx hb hr hlk dX1_valueStands_22 (b2i_nar _) (by simp [stnF, b2i, c_1, c_2])
  · refine lv_iload_n hx hb dX1_valueStands_6 rfl (lv_at hl 2 rfl) ?_
    refine lv_ldc (v := 40003) hx hb hown (hts (.constant RX1 30 (40003)) (by decide +kernel)) dX1_valueStands_7 ?_
    refine lv_icmp_ne (tgt := 23) hx hb dX1_valueStands_9 (by decide) (fun c_3 => ?_) (fun c_3 => ?_)
    · refine lv_iload_n hx hb dX1_valueStands_23 rfl (lv_at hl 0 rfl) ?_
      refine lv_iload_n hx hb dX1_valueStands_24 rfl (lv_at hl 1 rfl) ?_
      refine xc_T (As := [.int a1]) (rest := [.int a0]) ⟨hx, hb, hml, hown, hts⟩ (c_X1_sizeOf l a1) (va_cwS 1 hts gX1_valueStands_X1_sizeOf rfl rfl rfl (by decide +kernel) ⟨Nat.le_of_ble_eq_true rfl, Nat.le_of_ble_eq_true rfl⟩) rfl hl.1 rfl (Nat.le_of_ble_eq_true rfl) dX1_valueStands_25 ⟨Nat.zero_le _, Nat.zero_le _⟩ ?_
      refine lv_iload_n hx hb dX1_valueStands_28 rfl (lv_at hl 2 rfl) ?_
      refine xc_T (As := [.int a2]) (rest := [.int (sizF a1), .int a0]) ⟨hx, hb, hml, hown, hts⟩ (c_X1_sizeOf l a2) (va_cwS 1 hts gX1_valueStands_X1_sizeOf rfl rfl rfl (by decide +kernel) ⟨Nat.le_of_ble_eq_true rfl, Nat.le_of_ble_eq_true rfl⟩) rfl hl.1 rfl (Nat.le_of_ble_eq_true rfl) dX1_valueStands_29 ⟨Nat.zero_le _, Nat.zero_le _⟩ ?_
      refine xc_T (As := [.int a0, .int (sizF a1), .int (sizF a2)]) (rest := []) ⟨hx, hb, hml, hown, hts⟩ (c_X1_sizeStands l a0 (sizF a1) (sizF a2)) (va_cwS 3 hts gX1_valueStands_X1_sizeStands rfl rfl rfl (by decide +kernel) ⟨Nat.le_of_ble_eq_true rfl, Nat.le_of_ble_eq_true rfl⟩) rfl hl.1 rfl (Nat.le_of_ble_eq_true rfl) dX1_valueStands_32 ⟨Nat.zero_le _, Nat.zero_le _⟩ ?_
      exact xr_z hx hb hr hlk dX1_valueStands_35 (b2i_nar _) (by simp [stnF, b2i, c_1, c_3])
    · refine lv_iload_n hx hb dX1_valueStands_12 rfl (lv_at hl 0 rfl) ?_
      refine lv_iconst (v := 5) hx hb dX1_valueStands_13 (by decide) ?_
      refine lv_icmp_ne (tgt := 21) hx hb dX1_valueStands_14 (by decide) (fun c_4 => ?_) (fun c_4 => ?_)
      · refine lv_iconst (v := 0) hx hb dX1_valueStands_21 (by decide) ?_
        exact xr_z hx hb hr hlk dX1_valueStands_22 (b2i_nar _) (by simp [stnF, b2i, c_1, c_3, c_4])
      · refine lv_iconst (v := 1) hx hb dX1_valueStands_17 (by decide) ?_
        refine lv_goto (tgt := 22) hx hb dX1_valueStands_18 (by decide) ?_
        exact xr_z hx hb hr hlk dX1_valueStands_22 (b2i_nar _) (by simp [stnF, b2i, c_1, c_3, c_4])
set_option maxHeartbeats 4000000 in
set_option maxRecDepth 100000 in
theorem c_X2_in (l : Launch) (a0 a1 a2 : Int32) : Met l yX2_in wsX2_in ({ frames := 0, cells := 0, slots := 0, locals := 0 }) (va_Pc [.int a0, .int a1, .int a2] (fun _ => True)) (QcRead (b2i (inB a0 a1 a2))) 0 0 (fun _ => False) := by
  refine xs_in (cc := cX2_in) (maxL := 3) (ret := (some .boolean)) (by decide) rfl (Nat.le_of_ble_eq_true rfl) ?_
  intro p e s m below meth c ls hx hb hr hml hts hown hlk hl
  have hown : s.vm.findClass RX2 = some m.cls := hown
  have hl : lv_has ls 3 [(0, .int a0), (1, .int a1), (2, .int a2)] := hl
  refine lv_iload_n hx hb dX2_in_0 rfl (lv_at hl 0 rfl) ?_
  refine lv_iload_n hx hb dX2_in_1 rfl (lv_at hl 1 rfl) ?_
  refine lv_icmp_lt (tgt := 14) hx hb dX2_in_2 (by decide) (fun c_1 => ?_) (fun c_1 => ?_)
  · refine lv_iconst (v := 0) hx hb dX2_in_14 (by decide) ?_
    exact xr_z hx hb hr hlk dX2_in_15 (b2i_nar _) (by simp [inB, b2i, c_1])
  · refine lv_iload_n hx hb dX2_in_5 rfl (lv_at hl 0 rfl) ?_
    refine lv_iload_n hx hb dX2_in_6 rfl (lv_at hl 2 rfl) ?_
    refine lv_icmp_gt (tgt := 14) hx hb dX2_in_7 (by decide) (fun c_2 => ?_) (fun c_2 => ?_)
    · refine lv_iconst (v := 0) hx hb dX2_in_14 (by decide) ?_
      exact xr_z hx hb hr hlk dX2_in_15 (b2i_nar _) (by simp [inB, b2i, c_1, c_2])
    · refine lv_iconst (v := 1) hx hb dX2_in_10 (by decide) ?_
      refine lv_goto (tgt := 15) hx hb dX2_in_11 (by decide) ?_
      exact xr_z hx hb hr hlk dX2_in_15 (b2i_nar _) (by simp [inB, b2i, c_1, c_2])
set_option maxHeartbeats 4000000 in
set_option maxRecDepth 100000 in
theorem c_X2_isString (l : Launch) (a0 : Int32) : Met l yX2_isString wsX2_isString ({ frames := 1, cells := 0, slots := 0, locals := 22 }) (va_Pc [.int a0] (fun _ => True)) (QcRead (b2i (isSb a0))) 0 0 (fun _ => False) := by
  refine xs_in (cc := cX2_isString) (maxL := 1) (ret := (some .boolean)) (by decide) rfl (Nat.le_of_ble_eq_true rfl) ?_
  intro p e s m below meth c ls hx hb hr hml hts hown hlk hl
  have hown : s.vm.findClass RX2 = some m.cls := hown
  have hl : lv_has ls 1 [(0, .int a0)] := hl
  refine lv_iload_n hx hb dX2_isString_0 rfl (lv_at hl 0 rfl) ?_
  refine lv_iconst (v := 0) hx hb dX2_isString_1 (by decide) ?_
  refine lv_bipush (v := 31) hx hb dX2_isString_2 (by decide) ?_
  refine xc_T (As := [.int a0, .int 0, .int 31]) (rest := []) ⟨hx, hb, hml, hown, hts⟩ (c_X2_in l a0 0 31) (va_cwS 3 hts gX2_isString_X2_in rfl rfl rfl (by decide +kernel) ⟨Nat.le_of_ble_eq_true rfl, Nat.le_of_ble_eq_true rfl⟩) rfl hl.1 rfl (Nat.le_of_ble_eq_true rfl) dX2_isString_4 ⟨Nat.zero_le _, Nat.zero_le _⟩ ?_
  exact xr_z hx hb hr hlk dX2_isString_7 (b2i_nar _) (by rw [in31])
set_option maxHeartbeats 4000000 in
set_option maxRecDepth 100000 in
theorem c_X2_isStringOrFork (l : Launch) (a0 : Int32) : Met l yX2_isStringOrFork wsX2_isStringOrFork ({ frames := 1, cells := 0, slots := 0, locals := 22 }) (va_Pc [.int a0] (fun _ => True)) (QcRead (b2i (isFb a0))) 0 0 (fun _ => False) := by
  refine xs_in (cc := cX2_isStringOrFork) (maxL := 1) (ret := (some .boolean)) (by decide) rfl (Nat.le_of_ble_eq_true rfl) ?_
  intro p e s m below meth c ls hx hb hr hml hts hown hlk hl
  have hown : s.vm.findClass RX2 = some m.cls := hown
  have hl : lv_has ls 1 [(0, .int a0)] := hl
  refine lv_iload_n hx hb dX2_isStringOrFork_0 rfl (lv_at hl 0 rfl) ?_
  refine lv_iconst (v := 0) hx hb dX2_isStringOrFork_1 (by decide) ?_
  refine lv_bipush (v := 32) hx hb dX2_isStringOrFork_2 (by decide) ?_
  refine xc_T (As := [.int a0, .int 0, .int 32]) (rest := []) ⟨hx, hb, hml, hown, hts⟩ (c_X2_in l a0 0 32) (va_cwS 3 hts gX2_isStringOrFork_X2_in rfl rfl rfl (by decide +kernel) ⟨Nat.le_of_ble_eq_true rfl, Nat.le_of_ble_eq_true rfl⟩) rfl hl.1 rfl (Nat.le_of_ble_eq_true rfl) dX2_isStringOrFork_4 ⟨Nat.zero_le _, Nat.zero_le _⟩ ?_
  exact xr_z hx hb hr hlk dX2_isStringOrFork_7 (b2i_nar _) (by rw [in32])
set_option maxHeartbeats 4000000 in
set_option maxRecDepth 100000 in
theorem c_X2_isAsked (l : Launch) (a0 a1 : Int32) : Met l yX2_isAsked wsX2_isAsked ({ frames := 1, cells := 0, slots := 0, locals := 22 }) (va_Pc [.int a0, .int a1] (fun _ => True)) (QcRead (b2i (isQb a0 a1))) 0 0 (fun _ => False) := by
  refine xs_in (cc := cX2_isAsked) (maxL := 2) (ret := (some .boolean)) (by decide) rfl (Nat.le_of_ble_eq_true rfl) ?_
  intro p e s m below meth c ls hx hb hr hml hts hown hlk hl
  have hown : s.vm.findClass RX2 = some m.cls := hown
  have hl : lv_has ls 2 [(0, .int a0), (1, .int a1)] := hl
  refine lv_iload_n hx hb dX2_isAsked_0 rfl (lv_at hl 0 rfl) ?_
  refine lv_iconst (v := 0) hx hb dX2_isAsked_1 (by decide) ?_
  refine lv_iconst (v := 1) hx hb dX2_isAsked_2 (by decide) ?_
  refine xc_T (As := [.int a0, .int 0, .int 1]) (rest := []) ⟨hx, hb, hml, hown, hts⟩ (c_X2_in l a0 0 1) (va_cwS 3 hts gX2_isAsked_X2_in rfl rfl rfl (by decide +kernel) ⟨Nat.le_of_ble_eq_true rfl, Nat.le_of_ble_eq_true rfl⟩) rfl hl.1 rfl (Nat.le_of_ble_eq_true rfl) dX2_isAsked_3 ⟨Nat.zero_le _, Nat.zero_le _⟩ ?_
  refine lv_if_eq (tgt := 22) hx hb dX2_isAsked_6 (by decide) (fun c_1 => ?_) (fun c_1 => ?_)
  · have c_1 := b2i_e c_1
    refine lv_iconst (v := 0) hx hb dX2_isAsked_22 (by decide) ?_
    exact xr_z hx hb hr hlk dX2_isAsked_23 (b2i_nar _) (by (try rw [in01] at c_1); (try rw [in05] at c_1); simp [isQb, b2i, c_1])
  · have c_1 := b2i_n c_1
    refine lv_iload_n hx hb dX2_isAsked_9 rfl (lv_at hl 1 rfl) ?_
    refine lv_iconst (v := 0) hx hb dX2_isAsked_10 (by decide) ?_
    refine lv_iconst (v := 5) hx hb dX2_isAsked_11 (by decide) ?_
    refine xc_T (As := [.int a1, .int 0, .int 5]) (rest := []) ⟨hx, hb, hml, hown, hts⟩ (c_X2_in l a1 0 5) (va_cwS 3 hts gX2_isAsked_X2_in rfl rfl rfl (by decide +kernel) ⟨Nat.le_of_ble_eq_true rfl, Nat.le_of_ble_eq_true rfl⟩) rfl hl.1 rfl (Nat.le_of_ble_eq_true rfl) dX2_isAsked_12 ⟨Nat.zero_le _, Nat.zero_le _⟩ ?_
    refine lv_if_eq (tgt := 22) hx hb dX2_isAsked_15 (by decide) (fun c_2 => ?_) (fun c_2 => ?_)
    · have c_2 := b2i_e c_2
      refine lv_iconst (v := 0) hx hb dX2_isAsked_22 (by decide) ?_
      exact xr_z hx hb hr hlk dX2_isAsked_23 (b2i_nar _) (by (try rw [in01] at c_1); (try rw [in05] at c_1); (try rw [in01] at c_2); (try rw [in05] at c_2); simp [isQb, b2i, c_1, c_2])
    · have c_2 := b2i_n c_2
      refine lv_iconst (v := 1) hx hb dX2_isAsked_18 (by decide) ?_
      refine lv_goto (tgt := 23) hx hb dX2_isAsked_19 (by decide) ?_
      exact xr_z hx hb hr hlk dX2_isAsked_23 (b2i_nar _) (by (try rw [in01] at c_1); (try rw [in05] at c_1); (try rw [in01] at c_2); (try rw [in05] at c_2); simp [isQb, b2i, c_1, c_2])
set_option maxHeartbeats 4000000 in
set_option maxRecDepth 100000 in
theorem c_X2_at (l : Launch) (a0 a1 : Int32) : Met l yX2_at wsX2_at ({ frames := 0, cells := 0, slots := 0, locals := 0 }) (va_Pc [.int a0, .int a1] (fun _ => True)) (QcRead (33 * a0 + a1)) 0 0 (fun _ => False) := by
  refine xs_in (cc := cX2_at) (maxL := 2) (ret := (some .int)) (by decide) rfl (Nat.le_of_ble_eq_true rfl) ?_
  intro p e s m below meth c ls hx hb hr hml hts hown hlk hl
  have hown : s.vm.findClass RX2 = some m.cls := hown
  have hl : lv_has ls 2 [(0, .int a0), (1, .int a1)] := hl
  refine lv_bipush (v := 33) hx hb dX2_at_0 (by decide) ?_
  refine lv_iload_n hx hb dX2_at_2 rfl (lv_at hl 0 rfl) ?_
  refine lv_imul hx hb dX2_at_3 ?_
  refine lv_iload_n hx hb dX2_at_4 rfl (lv_at hl 1 rfl) ?_
  refine lv_iadd hx hb dX2_at_5 ?_
  exact xr_i hx hb hr hlk dX2_at_6 (by rfl)
set_option maxHeartbeats 4000000 in
set_option maxRecDepth 100000 in
theorem c_X2_place (l : Launch) (a0 a1 : Int32) : Met l yX2_place wsX2_place ({ frames := 0, cells := 0, slots := 0, locals := 0 }) (va_Pc [.int a0, .int a1] (fun _ => True)) (QcRead (plcF a0 a1)) 0 0 (fun _ => False) := by
  refine xs_in (cc := cX2_place) (maxL := 2) (ret := (some .int)) (by decide) rfl (Nat.le_of_ble_eq_true rfl) ?_
  intro p e s m below meth c ls hx hb hr hml hts hown hlk hl
  have hown : s.vm.findClass RX2 = some m.cls := hown
  have hl : lv_has ls 2 [(0, .int a0), (1, .int a1)] := hl
  refine lv_iload_n hx hb dX2_place_0 rfl (lv_at hl 0 rfl) ?_
  refine lv_if_ne (tgt := 8) hx hb dX2_place_1 (by decide) (fun c_1 => ?_) (fun c_1 => ?_)
  · refine lv_iload_n hx hb dX2_place_8 rfl (lv_at hl 0 rfl) ?_
    refine lv_iconst (v := 3) hx hb dX2_place_9 (by decide) ?_
    refine lv_icmp_ne (tgt := 18) hx hb dX2_place_10 (by decide) (fun c_2 => ?_) (fun c_2 => ?_)
    · refine lv_iload_n hx hb dX2_place_18 rfl (lv_at hl 0 rfl) ?_
      refine lv_iconst (v := 4) hx hb dX2_place_19 (by decide) ?_
      refine lv_icmp_ne (tgt := 28) hx hb dX2_place_20 (by decide) (fun c_3 => ?_) (fun c_3 => ?_)
      · refine lv_iconst (v := 0) hx hb dX2_place_28 (by decide) ?_
        exact xr_i hx hb hr hlk dX2_place_29 (by simp [plcF, b2i, c_1, c_2, c_3])
      · refine lv_ldc (v := -1000000) hx hb hown (hts (.constant RX2 50 (-1000000)) (by decide +kernel)) dX2_place_23 ?_
        refine lv_goto (tgt := 29) hx hb dX2_place_25 (by decide) ?_
        exact xr_i hx hb hr hlk dX2_place_29 (by simp [plcF, b2i, c_1, c_2, c_3])
    · refine lv_ldc (v := 1000000) hx hb hown (hts (.constant RX2 49 (1000000)) (by decide +kernel)) dX2_place_13 ?_
      refine lv_goto (tgt := 29) hx hb dX2_place_15 (by decide) ?_
      exact xr_i hx hb hr hlk dX2_place_29 (by simp [plcF, b2i, c_1, c_2])
  · refine lv_iload_n hx hb dX2_place_4 rfl (lv_at hl 1 rfl) ?_
    refine lv_goto (tgt := 29) hx hb dX2_place_5 (by decide) ?_
    exact xr_i hx hb hr hlk dX2_place_29 (by simp [plcF, b2i, c_1])
set_option maxHeartbeats 4000000 in
set_option maxRecDepth 100000 in
theorem c_X2_goes (l : Launch) (a0 a1 a2 a3 a4 : Int32) : Met l yX2_goes wsX2_goes ({ frames := 1, cells := 0, slots := 0, locals := 21 }) (va_Pc [.int a0, .int a1, .int a2, .int a3, .int a4] (fun _ => True)) (QcRead (b2i (goF a0 a1 a2 a3 a4))) 0 0 (fun _ => False) := by
  refine xs_in (cc := cX2_goes) (maxL := 7) (ret := (some .boolean)) (by decide) rfl (Nat.le_of_ble_eq_true rfl) ?_
  intro p e s m below meth c ls hx hb hr hml hts hown hlk hl
  have hown : s.vm.findClass RX2 = some m.cls := hown
  have hl : lv_has ls 7 [(0, .int a0), (1, .int a1), (2, .int a2), (3, .int a3), (4, .int a4)] := hl
  refine lv_iload_n hx hb dX2_goes_0 rfl (lv_at hl 1 rfl) ?_
  refine lv_iconst (v := 1) hx hb dX2_goes_1 (by decide) ?_
  refine lv_icmp_eq (tgt := 10) hx hb dX2_goes_2 (by decide) (fun c_1 => ?_) (fun c_1 => ?_)
  · refine lv_iload_n hx hb dX2_goes_10 rfl (lv_at hl 0 rfl) ?_
    refine lv_iconst (v := 5) hx hb dX2_goes_11 (by decide) ?_
    refine lv_icmp_ne (tgt := 19) hx hb dX2_goes_12 (by decide) (fun c_2 => ?_) (fun c_2 => ?_)
    · refine lv_iconst (v := 0) hx hb dX2_goes_19 (by decide) ?_
      exact xr_z hx hb hr hlk dX2_goes_20 (b2i_nar _) (by (try rw [← Int32.not_lt] at c_1); (try rw [← Int32.not_lt] at c_2); simp [goF, b2i, c_1, c_2])
    · refine lv_iconst (v := 1) hx hb dX2_goes_15 (by decide) ?_
      refine lv_goto (tgt := 20) hx hb dX2_goes_16 (by decide) ?_
      exact xr_z hx hb hr hlk dX2_goes_20 (b2i_nar _) (by (try rw [← Int32.not_lt] at c_1); (try rw [← Int32.not_lt] at c_2); simp [goF, b2i, c_1, c_2])
  · refine lv_iload_n hx hb dX2_goes_5 rfl (lv_at hl 3 rfl) ?_
    refine lv_iconst (v := 1) hx hb dX2_goes_6 (by decide) ?_
    refine lv_icmp_ne (tgt := 21) hx hb dX2_goes_7 (by decide) (fun c_3 => ?_) (fun c_3 => ?_)
    · refine lv_iload_n hx hb dX2_goes_21 rfl (lv_at hl 1 rfl) ?_
      refine lv_iload_n hx hb dX2_goes_22 rfl (lv_at hl 2 rfl) ?_
      refine xc_T (As := [.int a1, .int a2]) (rest := []) ⟨hx, hb, hml, hown, hts⟩ (c_X2_place l a1 a2) (va_cwS 2 hts gX2_goes_X2_place rfl rfl rfl (by decide +kernel) ⟨Nat.le_of_ble_eq_true rfl, Nat.le_of_ble_eq_true rfl⟩) rfl hl.1 rfl (Nat.le_of_ble_eq_true rfl) dX2_goes_23 ⟨Nat.zero_le _, Nat.zero_le _⟩ ?_
      refine lv_istore (lv' := [(5, .int (plcF a1 a2)), (0, .int a0), (1, .int a1), (2, .int a2), (3, .int a3), (4, .int a4)]) hx hb dX2_goes_26 hl (by decide) rfl (fun ls hl => ?_)
      refine lv_iload_n hx hb dX2_goes_28 rfl (lv_at hl 4 rfl) ?_
      refine lv_iload hx hb dX2_goes_29 (lv_at hl 5 rfl) ?_
      refine xc_T (As := [.int a3, .int a4]) (rest := []) ⟨hx, hb, hml, hown, hts⟩ (c_X2_place l a3 a4) (va_cwS 2 hts gX2_goes_X2_place rfl rfl rfl (by decide +kernel) ⟨Nat.le_of_ble_eq_true rfl, Nat.le_of_ble_eq_true rfl⟩) rfl hl.1 rfl (Nat.le_of_ble_eq_true rfl) dX2_goes_31 ⟨Nat.zero_le _, Nat.zero_le _⟩ ?_
      refine lv_istore (lv' := [(6, .int (plcF a3 a4)), (5, .int (plcF a1 a2)), (0, .int a0), (1, .int a1), (2, .int a2), (3, .int a3), (4, .int a4)]) hx hb dX2_goes_34 hl (by decide) rfl (fun ls hl => ?_)
      refine lv_iload hx hb dX2_goes_36 (lv_at hl 1 rfl) ?_
      refine lv_iload hx hb dX2_goes_38 (lv_at hl 0 rfl) ?_
      refine lv_icmp_ne (tgt := 64) hx hb dX2_goes_40 (by decide) (fun c_4 => ?_) (fun c_4 => ?_)
      · refine lv_iload_n hx hb dX2_goes_64 rfl (lv_at hl 2 rfl) ?_
        refine lv_iconst (v := 5) hx hb dX2_goes_65 (by decide) ?_
        refine lv_icmp_ne (tgt := 71) hx hb dX2_goes_66 (by decide) (fun c_5 => ?_) (fun c_5 => ?_)
        · refine lv_iload hx hb dX2_goes_71 (lv_at hl 1 rfl) ?_
          refine lv_iload hx hb dX2_goes_73 (lv_at hl 0 rfl) ?_
          refine lv_icmp_ge (tgt := 95) hx hb dX2_goes_75 (by decide) (fun c_6 => ?_) (fun c_6 => ?_)
          · refine lv_iload_n hx hb dX2_goes_95 rfl (lv_at hl 2 rfl) ?_
            refine lv_iconst (v := 2) hx hb dX2_goes_96 (by decide) ?_
            refine lv_icmp_eq (tgt := 105) hx hb dX2_goes_97 (by decide) (fun c_7 => ?_) (fun c_7 => ?_)
            · refine lv_iconst (v := 1) hx hb dX2_goes_105 (by decide) ?_
              refine lv_goto (tgt := 110) hx hb dX2_goes_106 (by decide) ?_
              exact xr_z hx hb hr hlk dX2_goes_110 (b2i_nar _) (by (try rw [← Int32.not_lt] at c_1); (try rw [← Int32.not_lt] at c_3); (try rw [← Int32.not_lt] at c_4); (try rw [← Int32.not_lt] at c_5); (try rw [← Int32.not_lt] at c_6); (try rw [← Int32.not_lt] at c_7); simp [goF, b2i, c_1, c_3, c_4, c_5, c_6, c_7])
            · refine lv_iload_n hx hb dX2_goes_100 rfl (lv_at hl 2 rfl) ?_
              refine lv_iconst (v := 3) hx hb dX2_goes_101 (by decide) ?_
              refine lv_icmp_ne (tgt := 109) hx hb dX2_goes_102 (by decide) (fun c_8 => ?_) (fun c_8 => ?_)
              · refine lv_iconst (v := 0) hx hb dX2_goes_109 (by decide) ?_
                exact xr_z hx hb hr hlk dX2_goes_110 (b2i_nar _) (by (try rw [← Int32.not_lt] at c_1); (try rw [← Int32.not_lt] at c_3); (try rw [← Int32.not_lt] at c_4); (try rw [← Int32.not_lt] at c_5); (try rw [← Int32.not_lt] at c_6); (try rw [← Int32.not_lt] at c_7); (try rw [← Int32.not_lt] at c_8); simp [goF, b2i, c_1, c_3, c_4, c_5, c_6, c_7, c_8])
              · refine lv_iconst (v := 1) hx hb dX2_goes_105 (by decide) ?_
                refine lv_goto (tgt := 110) hx hb dX2_goes_106 (by decide) ?_
                exact xr_z hx hb hr hlk dX2_goes_110 (b2i_nar _) (by (try rw [← Int32.not_lt] at c_1); (try rw [← Int32.not_lt] at c_3); (try rw [← Int32.not_lt] at c_4); (try rw [← Int32.not_lt] at c_5); (try rw [← Int32.not_lt] at c_6); (try rw [← Int32.not_lt] at c_7); (try rw [← Int32.not_lt] at c_8); simp [goF, b2i, c_1, c_3, c_4, c_5, c_6, c_7, c_8])
          · refine lv_iload_n hx hb dX2_goes_78 rfl (lv_at hl 2 rfl) ?_
            refine lv_if_eq (tgt := 87) hx hb dX2_goes_79 (by decide) (fun c_9 => ?_) (fun c_9 => ?_)
            · refine lv_iconst (v := 1) hx hb dX2_goes_87 (by decide) ?_
              refine lv_goto (tgt := 110) hx hb dX2_goes_88 (by decide) ?_
              exact xr_z hx hb hr hlk dX2_goes_110 (b2i_nar _) (by (try rw [← Int32.not_lt] at c_1); (try rw [← Int32.not_lt] at c_3); (try rw [← Int32.not_lt] at c_4); (try rw [← Int32.not_lt] at c_5); (try rw [← Int32.not_lt] at c_6); (try rw [← Int32.not_lt] at c_9); simp [goF, b2i, c_1, c_3, c_4, c_5, c_6, c_9])
            · refine lv_iload_n hx hb dX2_goes_82 rfl (lv_at hl 2 rfl) ?_
              refine lv_iconst (v := 1) hx hb dX2_goes_83 (by decide) ?_
              refine lv_icmp_ne (tgt := 91) hx hb dX2_goes_84 (by decide) (fun c_10 => ?_) (fun c_10 => ?_)
              · refine lv_iconst (v := 0) hx hb dX2_goes_91 (by decide) ?_
                refine lv_goto (tgt := 110) hx hb dX2_goes_92 (by decide) ?_
                exact xr_z hx hb hr hlk dX2_goes_110 (b2i_nar _) (by (try rw [← Int32.not_lt] at c_1); (try rw [← Int32.not_lt] at c_3); (try rw [← Int32.not_lt] at c_4); (try rw [← Int32.not_lt] at c_5); (try rw [← Int32.not_lt] at c_6); (try rw [← Int32.not_lt] at c_9); (try rw [← Int32.not_lt] at c_10); simp [goF, b2i, c_1, c_3, c_4, c_5, c_6, c_9, c_10])
              · refine lv_iconst (v := 1) hx hb dX2_goes_87 (by decide) ?_
                refine lv_goto (tgt := 110) hx hb dX2_goes_88 (by decide) ?_
                exact xr_z hx hb hr hlk dX2_goes_110 (b2i_nar _) (by (try rw [← Int32.not_lt] at c_1); (try rw [← Int32.not_lt] at c_3); (try rw [← Int32.not_lt] at c_4); (try rw [← Int32.not_lt] at c_5); (try rw [← Int32.not_lt] at c_6); (try rw [← Int32.not_lt] at c_9); (try rw [← Int32.not_lt] at c_10); simp [goF, b2i, c_1, c_3, c_4, c_5, c_6, c_9, c_10])
        · refine lv_iconst (v := 1) hx hb dX2_goes_69 (by decide) ?_
          exact xr_z hx hb hr hlk dX2_goes_70 (b2i_nar _) (by (try rw [← Int32.not_lt] at c_1); (try rw [← Int32.not_lt] at c_3); (try rw [← Int32.not_lt] at c_4); (try rw [← Int32.not_lt] at c_5); simp [goF, b2i, c_1, c_3, c_4, c_5])
      · refine lv_iload_n hx hb dX2_goes_43 rfl (lv_at hl 2 rfl) ?_
        refine lv_iconst (v := 1) hx hb dX2_goes_44 (by decide) ?_
        refine lv_icmp_eq (tgt := 58) hx hb dX2_goes_45 (by decide) (fun c_11 => ?_) (fun c_11 => ?_)
        · refine lv_iconst (v := 1) hx hb dX2_goes_58 (by decide) ?_
          refine lv_goto (tgt := 63) hx hb dX2_goes_59 (by decide) ?_
          exact xr_z hx hb hr hlk dX2_goes_63 (b2i_nar _) (by (try rw [← Int32.not_lt] at c_1); (try rw [← Int32.not_lt] at c_3); (try rw [← Int32.not_lt] at c_4); (try rw [← Int32.not_lt] at c_11); simp [goF, b2i, c_1, c_3, c_4, c_11])
        · refine lv_iload_n hx hb dX2_goes_48 rfl (lv_at hl 2 rfl) ?_
          refine lv_iconst (v := 3) hx hb dX2_goes_49 (by decide) ?_
          refine lv_icmp_eq (tgt := 58) hx hb dX2_goes_50 (by decide) (fun c_12 => ?_) (fun c_12 => ?_)
          · refine lv_iconst (v := 1) hx hb dX2_goes_58 (by decide) ?_
            refine lv_goto (tgt := 63) hx hb dX2_goes_59 (by decide) ?_
            exact xr_z hx hb hr hlk dX2_goes_63 (b2i_nar _) (by (try rw [← Int32.not_lt] at c_1); (try rw [← Int32.not_lt] at c_3); (try rw [← Int32.not_lt] at c_4); (try rw [← Int32.not_lt] at c_11); (try rw [← Int32.not_lt] at c_12); simp [goF, b2i, c_1, c_3, c_4, c_11, c_12])
          · refine lv_iload_n hx hb dX2_goes_53 rfl (lv_at hl 2 rfl) ?_
            refine lv_iconst (v := 4) hx hb dX2_goes_54 (by decide) ?_
            refine lv_icmp_ne (tgt := 62) hx hb dX2_goes_55 (by decide) (fun c_13 => ?_) (fun c_13 => ?_)
            · refine lv_iconst (v := 0) hx hb dX2_goes_62 (by decide) ?_
              exact xr_z hx hb hr hlk dX2_goes_63 (b2i_nar _) (by (try rw [← Int32.not_lt] at c_1); (try rw [← Int32.not_lt] at c_3); (try rw [← Int32.not_lt] at c_4); (try rw [← Int32.not_lt] at c_11); (try rw [← Int32.not_lt] at c_12); (try rw [← Int32.not_lt] at c_13); simp [goF, b2i, c_1, c_3, c_4, c_11, c_12, c_13])
            · refine lv_iconst (v := 1) hx hb dX2_goes_58 (by decide) ?_
              refine lv_goto (tgt := 63) hx hb dX2_goes_59 (by decide) ?_
              exact xr_z hx hb hr hlk dX2_goes_63 (b2i_nar _) (by (try rw [← Int32.not_lt] at c_1); (try rw [← Int32.not_lt] at c_3); (try rw [← Int32.not_lt] at c_4); (try rw [← Int32.not_lt] at c_11); (try rw [← Int32.not_lt] at c_12); (try rw [← Int32.not_lt] at c_13); simp [goF, b2i, c_1, c_3, c_4, c_11, c_12, c_13])
    · refine lv_iload_n hx hb dX2_goes_10 rfl (lv_at hl 0 rfl) ?_
      refine lv_iconst (v := 5) hx hb dX2_goes_11 (by decide) ?_
      refine lv_icmp_ne (tgt := 19) hx hb dX2_goes_12 (by decide) (fun c_14 => ?_) (fun c_14 => ?_)
      · refine lv_iconst (v := 0) hx hb dX2_goes_19 (by decide) ?_
        exact xr_z hx hb hr hlk dX2_goes_20 (b2i_nar _) (by (try rw [← Int32.not_lt] at c_1); (try rw [← Int32.not_lt] at c_3); (try rw [← Int32.not_lt] at c_14); simp [goF, b2i, c_1, c_3, c_14])
      · refine lv_iconst (v := 1) hx hb dX2_goes_15 (by decide) ?_
        refine lv_goto (tgt := 20) hx hb dX2_goes_16 (by decide) ?_
        exact xr_z hx hb hr hlk dX2_goes_20 (b2i_nar _) (by (try rw [← Int32.not_lt] at c_1); (try rw [← Int32.not_lt] at c_3); (try rw [← Int32.not_lt] at c_14); simp [goF, b2i, c_1, c_3, c_14])
set_option maxHeartbeats 4000000 in
set_option maxRecDepth 100000 in
theorem c_X1_isRung (l : Launch) (a0 : Int32) (b1 b2 : Bool) : Met l yX1_isRung wsX1_isRung ({ frames := 0, cells := 0, slots := 0, locals := 0 }) (va_Pc [.int a0, .int (b2i b1), .int (b2i b2)] (fun _ => True)) (QcRead (b2i (rungF a0 b1 b2))) 0 0 (fun _ => False) := by
  refine xs_in (cc := cX1_isRung) (maxL := 3) (ret := (some .boolean)) (by decide) rfl (Nat.le_of_ble_eq_true rfl) ?_
  intro p e s m below meth c ls hx hb hr hml hts hown hlk hl
  have hown : s.vm.findClass RX1 = some m.cls := hown
  have hl : lv_has ls 3 [(0, .int a0), (1, .int (b2i b1)), (2, .int (b2i b2))] := hl
  refine lv_iload_n hx hb dX1_isRung_0 rfl (lv_at hl 0 rfl) ?_
  by_cases q_1 : a0 = 0
  · refine lv_lookup (off := 27) (tgt := 28) hx hb dX1_isRung_1 (by decide) (by rw [q_1]; rfl) (by decide) ?_
    refine lv_iload_n hx hb dX1_isRung_28 rfl (lv_at hl 1 rfl) ?_
    exact xr_z hx hb hr hlk dX1_isRung_29 (b2i_nar _) (by simp [rungF, q_1])
  by_cases q_2 : a0 = 1
  · refine lv_lookup (off := 29) (tgt := 30) hx hb dX1_isRung_1 (by decide) (by rw [q_2]; rfl) (by decide) ?_
    refine lv_iload_n hx hb dX1_isRung_30 rfl (lv_at hl 1 rfl) ?_
    refine lv_if_ne (tgt := 38) hx hb dX1_isRung_31 (by decide) (fun c_3 => ?_) (fun c_3 => ?_)
    · have c_3 := b2i_n c_3
      refine lv_iconst (v := 0) hx hb dX1_isRung_38 (by decide) ?_
      exact xr_z hx hb hr hlk dX1_isRung_39 (b2i_nar _) (by simp [rungF, q_2, c_3]; try decide)
    · have c_3 := b2i_e c_3
      refine lv_iconst (v := 1) hx hb dX1_isRung_34 (by decide) ?_
      refine lv_goto (tgt := 39) hx hb dX1_isRung_35 (by decide) ?_
      exact xr_z hx hb hr hlk dX1_isRung_39 (b2i_nar _) (by simp [rungF, q_2, c_3]; try decide)
  refine lv_lookup (off := 39) (tgt := 40) hx hb dX1_isRung_1 (by decide) ((lv_osw q_1 (by decide)).trans ((lv_osw q_2 (by decide)).trans rfl)) (by decide) ?_
  refine lv_iload_n hx hb dX1_isRung_40 rfl (lv_at hl 1 rfl) ?_
  refine lv_iload_n hx hb dX1_isRung_41 rfl (lv_at hl 2 rfl) ?_
  refine lv_icmp_eq (tgt := 49) hx hb dX1_isRung_42 (by decide) (fun c_4 => ?_) (fun c_4 => ?_)
  · have c_4 := b2i_eq c_4
    refine lv_iconst (v := 0) hx hb dX1_isRung_49 (by decide) ?_
    exact xr_z hx hb hr hlk dX1_isRung_50 (b2i_nar _) (by simp [rungF, q_1, q_2, c_4]; try decide)
  · have c_4 := b2i_ne c_4
    refine lv_iconst (v := 1) hx hb dX1_isRung_45 (by decide) ?_
    refine lv_goto (tgt := 50) hx hb dX1_isRung_46 (by decide) ?_
    exact xr_z hx hb hr hlk dX1_isRung_50 (b2i_nar _) (by simp [rungF, q_1, q_2, c_4]; try decide)
end
section
/-! WORLD: the cells of the class's object and of the model's, as functions of one state: v (what, string) ↦ value; G guard ↦ (what, how, copy, mode, stood, rang) -/
abbrev cT (cV cI cG : ClassId) : List (ClassId × FieldType) := [(cV, .array .int), (cI, .int), (cG, .object "TunerBench$Guard")]
abbrev cb (a : Nat → Nat) (cV cI cG : ClassId) (v : Nat → Nat → Int32) (gg : Nat → Option Nat) (dn lt ch : Int32) : va_W := [(a 0, .inr (1, [.ref (a 1), .ref (a 4), .int dn, .int lt, .int ch])), (a 1, .inl (cV, 2, .inr (.inr (.inr (.inr (fun i => some (a (2 + i)))))))), (a 2, .inl (cI, 33, .inl (v 0))), (a 3, .inl (cI, 33, .inl (v 1))), (a 4, .inl (cG, 8, .inr (.inr (.inr (.inr gg)))))]
def up2 (v : Nat → Nat → Int32) (w k : Nat) (x : Int32) : Nat → Nat → Int32 := fun i j => if i = w ∧ j = k then x else v i j
theorem up2_row (v : Nat → Nat → Int32) (w k : Nat) (x : Int32) : up2 v w k x w = upd (v w) k x := by
  funext j
  simp [up2, upd]
theorem up2_oth (v : Nat → Nat → Int32) {w i : Nat} (k : Nat) (x : Int32) (h : i ≠ w) : up2 v w k x i = v i := by
  funext j
  simp [up2, h]
section XCB
variable {a : Nat → Nat} {cV cI cG : ClassId} {v : Nat → Nat → Int32} {gg : Nat → Option Nat} {dn lt ch : Int32} {k j : Nat} {x : Int32} {pl : va_W}
theorem cb_row (h : k < 2) : (cb a cV cI cG v gg dn lt ch)[2 + k]? = some (a (2 + k), .inl (cI, 33, .inl (v k))) := by
  rcases (show k = 0 ∨ k = 1 by omega) with rfl | rfl <;> rfl
theorem cb_set (h : k < 2) : (cb a cV cI cG v gg dn lt ch).set (2 + k) (a (2 + k), .inl (cI, 33, .inl (upd (v k) j x))) = cb a cV cI cG (up2 v k j x) gg dn lt ch := by
  rcases (show k = 0 ∨ k = 1 by omega) with rfl | rfl
  · show [_, _, _, _, _] = [_, _, _, _, _]
    rw [up2_row, up2_oth v j x (show (1 : Nat) ≠ 0 by decide)]
  · show [_, _, _, _, _] = [_, _, _, _, _]
    rw [up2_row, up2_oth v j x (show (0 : Nat) ≠ 1 by decide)]
theorem cp_row (h : k < 2) : (cb a cV cI cG v gg dn lt ch ++ pl)[2 + k]? = some (a (2 + k), .inl (cI, 33, .inl (v k))) := by
  rcases (show k = 0 ∨ k = 1 by omega) with rfl | rfl <;> rfl
end XCB
abbrev GT : Type := Int32 × Int32 × Int32 × Int32 × Bool × Int32
def gsel (G : Nat → Option GT) (f : GT → Int32) : Nat → Int32 := fun g => match G g with
  | none => 0
  | some t => f t
theorem gsel_up (G : Nat → Option GT) (f : GT → Int32) (g : Nat) (t : GT) : gsel (va_up G g (some t)) f = upd (gsel G f) g (f t) := by
  funext j
  by_cases h : j = g
  · subst h; simp [gsel, va_up, upd]
  · simp [gsel, va_up, upd, h]
theorem gsel_at {G : Nat → Option GT} {f : GT → Int32} {g : Nat} {t : GT} (h : G g = some t) : gsel G f g = f t := by simp [gsel, h]
abbrev mT (cI cZ : ClassId) : List (ClassId × FieldType) := [(cI, .int), (cZ, .boolean)]
abbrev mw (a : Nat → Nat) (cI cZ : ClassId) (fs fq fi fw fh fm fk fu fd fr : Nat → Int32) (dn lt ch gn : Int32) : va_W := [(a 0, .inr (2, [.ref (a 1), .ref (a 2), .int dn, .int lt, .int ch, .int gn, .ref (a 3), .ref (a 4), .ref (a 5), .ref (a 6), .ref (a 7), .ref (a 8), .ref (a 9), .ref (a 10)])), (a 1, .inl (cI, 66, .inl fs)), (a 2, .inl (cI, 66, .inl fq)), (a 3, .inl (cZ, 8, .inl fi)), (a 4, .inl (cI, 8, .inl fw)), (a 5, .inl (cI, 8, .inl fh)), (a 6, .inl (cI, 8, .inl fm)), (a 7, .inl (cI, 8, .inl fk)), (a 8, .inl (cI, 8, .inl fu)), (a 9, .inl (cZ, 8, .inl fd)), (a 10, .inl (cI, 8, .inl fr))]
def mso (v : Nat → Nat → Int32) : Nat → Int32 := fun i => srtF (v (i / 33) (i % 33))
def mqu (v : Nat → Nat → Int32) : Nat → Int32 := fun i => qrtF (v (i / 33) (i % 33))
def mis (G : Nat → Option GT) : Nat → Int32 := fun g => b2i (G g).isSome
abbrev mwh (G : Nat → Option GT) : Nat → Int32 := gsel G (fun t => t.1)
abbrev mho (G : Nat → Option GT) : Nat → Int32 := gsel G (fun t => t.2.1)
abbrev mmo (G : Nat → Option GT) : Nat → Int32 := gsel G (fun t => t.2.2.2.1)
abbrev mks (G : Nat → Option GT) : Nat → Int32 := gsel G (fun t => srtF t.2.2.1)
abbrev mkq (G : Nat → Option GT) : Nat → Int32 := gsel G (fun t => qrtF t.2.2.1)
abbrev mdi (G : Nat → Option GT) : Nat → Int32 := gsel G (fun t => b2i t.2.2.2.2.1)
abbrev mri (G : Nat → Option GT) : Nat → Int32 := gsel G (fun t => t.2.2.2.2.2)
abbrev mb (a : Nat → Nat) (cI cZ : ClassId) (v : Nat → Nat → Int32) (G : Nat → Option GT) (dn lt ch gn : Int32) : va_W := mw a cI cZ (mso v) (mqu v) (mis G) (mwh G) (mho G) (mmo G) (mks G) (mkq G) (mdi G) (mri G) dn lt ch gn
theorem mso_up (v : Nat → Nat → Int32) {w k : Nat} (x : Int32) (hk : k < 33) : mso (up2 v w k x) = upd (mso v) (33 * w + k) (srtF x) := by
  funext i
  by_cases h : i = 33 * w + k
  · subst h
    have h1 : (33 * w + k) / 33 = w := by omega
    have h2 : (33 * w + k) % 33 = k := by omega
    simp [mso, up2, upd, h1, h2]
  · have h1 : ¬ (i / 33 = w ∧ i % 33 = k) := by omega
    simp [mso, up2, upd, h, h1]
theorem mqu_up (v : Nat → Nat → Int32) {w k : Nat} (x : Int32) (hk : k < 33) : mqu (up2 v w k x) = upd (mqu v) (33 * w + k) (qrtF x) := by
  funext i
  by_cases h : i = 33 * w + k
  · subst h
    have h1 : (33 * w + k) / 33 = w := by omega
    have h2 : (33 * w + k) % 33 = k := by omega
    simp [mqu, up2, upd, h1, h2]
  · have h1 : ¬ (i / 33 = w ∧ i % 33 = k) := by omega
    simp [mqu, up2, upd, h, h1]
theorem mso_at (v : Nat → Nat → Int32) {w k : Nat} (hk : k < 33) : mso v (33 * w + k) = srtF (v w k) := by
  have h1 : (33 * w + k) / 33 = w := by omega
  have h2 : (33 * w + k) % 33 = k := by omega
  simp [mso, h1, h2]
theorem mqu_at (v : Nat → Nat → Int32) {w k : Nat} (hk : k < 33) : mqu v (33 * w + k) = qrtF (v w k) := by
  have h1 : (33 * w + k) / 33 = w := by omega
  have h2 : (33 * w + k) % 33 = k := by omega
  simp [mqu, h1, h2]
/-- a place in the model's rows -/
theorem at_eq {w x : Int32} (hw : vp_in w 2) (hx : vp_in x 33) : 33 * w + x = nI (33 * cn w + cn x) := by
  obtain ⟨i, hi, rfl⟩ := vp_in_of hw (by decide)
  obtain ⟨j, hj, rfl⟩ := vp_in_of hx (by decide)
  rw [nI_cn (by omega), nI_cn (by omega), ← nI_add, ← pk_mul]
  rfl
theorem at_in {w x : Int32} (hw : vp_in w 2) (hx : vp_in x 33) : vp_in (33 * w + x) 66 := by
  rw [at_eq hw hx]
  have := vp_lt hw
  have := vp_lt hx
  exact vp_in_nI (by omega) (by decide)
theorem at_cn {w x : Int32} (hw : vp_in w 2) (hx : vp_in x 33) : (33 * w + x).toNatClampNeg = 33 * cn w + cn x := by
  have h1 := vp_lt hw
  have h2 := vp_lt hx
  rw [at_eq hw hx]
  exact nI_clamp (by omega)
/-! SPEC: what each method answers and leaves -/
def sdF (v : Nat → Nat → Int32) (w h x y : Int32) : Bool := stnF h (v (cn w) (cn x)) (v (cn w) (cn y))
def aSort (v : Nat → Nat → Int32) (w x : Int32) : Int32 := if isWb w = true ∧ isFb x = true then srtF (v (cn w) (cn x)) else -1
def aQuar (v : Nat → Nat → Int32) (w x : Int32) : Int32 := if isWb w = true ∧ isFb x = true then qrtF (v (cn w) (cn x)) else 0
def aPut (w x so q : Int32) : Bool := isWb w && (isFb x && isVb so q)
def nPut (v : Nat → Nat → Int32) (w x so q : Int32) : Nat → Nat → Int32 := if aPut w x so q = true then up2 v (cn w) (cn x) (valF so q) else v
def qB (w h x y : Int32) : Bool := isQb w h && (isFb x && isFb y)
def aHold (v : Nat → Nat → Int32) (w h x y : Int32) : Int32 := if qB w h x y = true then b2i (sdF v w h x y) else -1
def nHold (v : Nat → Nat → Int32) (lt w h x y : Int32) : Int32 := if qB w h x y = true then b2i (sdF v w h x y) else lt
def aDeny (v : Nat → Nat → Int32) (w h x y : Int32) : Int32 := if qB w h x y = true then b2i (!sdF v w h x y) else -1
def nDeny (v : Nat → Nat → Int32) (dn w h x y : Int32) : Int32 := if qB w h x y = true then (if sdF v w h x y = true then dn else dn + 1) else dn
def aPick (v : Nat → Nat → Int32) (w h x y : Int32) : Int32 := if qB w h x y = true then (if sdF v w h x y = true then x else y) else -1
def clF (v : Nat → Nat → Int32) (w : Nat) (h : Int32) : Nat → Nat → Nat
  | 0, k => k
  | n + 1, k => if stnF h (v w k) (v w (k + 1)) = true then clF v w h n (k + 1) else k
def aClim (v : Nat → Nat → Int32) (w h x : Int32) : Int32 := if (isQb w h && isSb x) = true then nI (clF v (cn w) h (31 - cn x) (cn x)) else -1
def fsF (v : Nat → Nat → Int32) (w : Nat) (h : Int32) (nb : Bool) : Nat → Nat → Int32
  | 0, _ => -1
  | n + 1, k => if (stnF h (v w k) (v w 32) != nb) = true then nI k else fsF v w h nb n (k + 1)
def aFirs (v : Nat → Nat → Int32) (w h x : Int32) (nb : Bool) : Int32 := if (isQb w h && isSb x) = true then fsF v (cn w) h nb (32 - cn x) (cn x) else -1
def bsF (v : Nat → Nat → Int32) (w : Nat) (h : Int32) (nb : Bool) : Nat → Nat → Nat → Nat
  | 0, _, f => f
  | n + 1, k, f => if (stnF h (v w k) (v w f) != nb) = true then bsF v w h nb n (k + 1) k else bsF v w h nb n (k + 1) f
def aBest (v : Nat → Nat → Int32) (w h : Int32) (nb : Bool) : Int32 := if isQb w h = true then nI (bsF v (cn w) h nb 31 1 0) else -1
def swp (v : Nat → Nat → Int32) (w k : Nat) : Nat → Nat → Int32 := up2 (up2 v w k (v w (k + 1))) w (k + 1) (v w k)
def psF (w : Nat) (h : Int32) : Nat → Nat → (Nat → Nat → Int32) → Nat → (Nat → Nat → Int32) × Nat
  | 0, _, v, c => (v, c)
  | n + 1, k, v, c => if stnF h (v w k) (v w (k + 1)) = true then psF w h n (k + 1) v c else psF w h n (k + 1) (swp v w k) (c + 1)
def pB (w h x y : Int32) : Bool := isQb w h && (isSb x && (isSb y && decide (x ≤ y)))
def rPass (v : Nat → Nat → Int32) (w h x y : Int32) : (Nat → Nat → Int32) × Nat := psF (cn w) h (cn y - cn x) (cn x) v 0
def aPass (v : Nat → Nat → Int32) (w h x y : Int32) : Int32 := if pB w h x y = true then nI (rPass v w h x y).2 else -1
def nPass (v : Nat → Nat → Int32) (w h x y : Int32) : Nat → Nat → Int32 := if pB w h x y = true then (rPass v w h x y).1 else v
def hPass (v : Nat → Nat → Int32) (ch w h x y : Int32) : Int32 := if pB w h x y = true then ch + nI (rPass v w h x y).2 else ch
def wB (w x y z : Int32) : Bool := isWb w && (isSb x && (isFb y && isFb z))
def w1F (v : Nat → Nat → Int32) (w x y z : Int32) : Int32 := if sdF v w 3 x y = true ∧ sdF v w 1 x z = true then 1 else 0
def w2F (v : Nat → Nat → Int32) (w x y z : Int32) : Int32 := if sdF v w 0 x y = false ∧ sdF v w 2 x z = false then 2 else 0
def w3F (v : Nat → Nat → Int32) (w x y z : Int32) : Int32 := if sdF v w 0 x y = true ∨ sdF v w 2 x z = true then 4 else 0
def w4F (v : Nat → Nat → Int32) (w x : Int32) : Int32 := if v (cn w) (cn x) = 40003 then 8 else 0
def aWith (v : Nat → Nat → Int32) (w x y z : Int32) : Int32 := if wB w x y z = true then ((w1F v w x y z + w2F v w x y z) + w3F v w x y z) + w4F v w x else -1
def nStri (v : Nat → Nat → Int32) (x : Int32) : Nat → Nat → Int32 := if isSb x = true then up2 (up2 v 0 32 (v 0 (cn x))) 1 32 (v 1 (cn x)) else v
theorem sd5_self (v : Nat → Nat → Int32) (w x : Int32) : sdF v w 5 x x = decide (v (cn w) (cn x) = 40003) := by
  by_cases h : v (cn w) (cn x) = 40003
  · simp [sdF, stnF, h]
  · simp [sdF, stnF, szsF, h]
end
section
/-! the class: methods over its values -/
theorem isQ_h {w h : Int32} (q : isQb w h = true) : isHb h = true := by simp [isQb] at q; exact q.2
set_option maxHeartbeats 4000000 in
set_option maxRecDepth 100000 in
theorem c_X1_stands (l : Launch) (D : va_G) (a : Nat → Nat) (cV cI cG : ClassId) (v : Nat → Nat → Int32) (gg : Nat → Option Nat) (dn lt ch : Int32) (w h x y : Int32) (hw : vp_in w 2) (hx1 : vp_in x 33) (hy1 : vp_in y 33) : Met l yX1_stands wsX1_stands ({ frames := 2, cells := 0, slots := 0, locals := 44 }) (xR D vwCl (cb a cV cI cG v gg dn lt ch) (cT cV cI cG) xB0 [.ref (a 0), .int w, .int h, .int x, .int y]) (QcRead (b2i (sdF v w h x y))) 0 0 (fun _ => False) := by
  refine xr_in (cc := cX1_stands) (maxL := 5) (ret := (some .boolean)) (by decide) rfl (Nat.le_of_ble_eq_true rfl) ?_
  intro p e s m below meth c ls hx hb hr hml hts hown hlk hP hK hB hl
  have hown : s.vm.findClass RX1 = some m.cls := hown
  have hl : lv_has ls 5 [(0, .ref (a 0)), (1, .int w), (2, .int h), (3, .int x), (4, .int y)] := hl
  have hiF : ∀ w ∈ wsX10, w ∈ wsX1_stands := by decide +kernel
  refine lv_iload_n hx hb dX1_stands_0 rfl (lv_at hl 2 rfl) ?_
  refine lv_aload_n hx hb dX1_stands_1 rfl (lv_at hl 0 rfl) ?_
  refine va_get (D := D) (ci := 1) (v := .ref (a 1)) (C := RX1) (T := TX1) (N := 5) hx hb hts hiF hown hK hP 0 rfl rfl 0 (by decide) (hts (.fieldLink RX1 11 "TunerBench" "values" "[[I") (by decide +kernel)) (fun _ h9 => h9) rfl dX1_stands_2 ?_
  refine lv_iload_n hx hb dX1_stands_5 rfl (lv_at hl 1 rfl) ?_
  refine xa_ald (D := D) hx hb hK hP 1 0 rfl rfl hw dX1_stands_6 ?_
  refine lv_iload_n hx hb dX1_stands_7 rfl (lv_at hl 3 rfl) ?_
  refine va_iald (D := D) hx hb hK hP (2 + cn w) 1 (cb_row (vp_lt hw)) rfl hx1 dX1_stands_8 ?_
  refine lv_aload_n hx hb dX1_stands_9 rfl (lv_at hl 0 rfl) ?_
  refine va_get (D := D) (ci := 1) (v := .ref (a 1)) (C := RX1) (T := TX1) (N := 5) hx hb hts hiF hown hK hP 0 rfl rfl 0 (by decide) (hts (.fieldLink RX1 11 "TunerBench" "values" "[[I") (by decide +kernel)) (fun _ h9 => h9) rfl dX1_stands_10 ?_
  refine lv_iload_n hx hb dX1_stands_13 rfl (lv_at hl 1 rfl) ?_
  refine xa_ald (D := D) hx hb hK hP 1 0 rfl rfl hw dX1_stands_14 ?_
  refine lv_iload hx hb dX1_stands_15 (lv_at hl 4 rfl) ?_
  refine va_iald (D := D) hx hb hK hP (2 + cn w) 1 (cb_row (vp_lt hw)) rfl hy1 dX1_stands_17 ?_
  refine xc_T (As := [.int h, .int (v (cn w) (cn x)), .int (v (cn w) (cn y))]) (rest := []) ⟨hx, hb, hml, hown, hts⟩ (c_X1_valueStands l h (v (cn w) (cn x)) (v (cn w) (cn y))) (va_cwS 3 hts gX1_stands_X1_valueStands rfl rfl rfl (by decide +kernel) ⟨Nat.le_of_ble_eq_true rfl, Nat.le_of_ble_eq_true rfl⟩) rfl hl.1 rfl (Nat.le_of_ble_eq_true rfl) dX1_stands_18 ⟨Nat.zero_le _, Nat.zero_le _⟩ ?_
  exact xr_z hx hb hr hlk dX1_stands_21 (b2i_nar _) rfl
set_option maxHeartbeats 4000000 in
set_option maxRecDepth 100000 in
theorem c_X1_sort (l : Launch) (D : va_G) (a : Nat → Nat) (cV cI cG : ClassId) (v : Nat → Nat → Int32) (gg : Nat → Option Nat) (dn lt ch : Int32) (w x : Int32) : Met l yX1_sort wsX1_sort ({ frames := 2, cells := 0, slots := 0, locals := 40 }) (xR D vwCl (cb a cV cI cG v gg dn lt ch) (cT cV cI cG) xB0 [.ref (a 0), .int w, .int x]) (QcRead (aSort v w x)) 0 0 (fun _ => False) := by
  refine xr_in (cc := cX1_sort) (maxL := 3) (ret := (some .int)) (by decide) rfl (Nat.le_of_ble_eq_true rfl) ?_
  intro p e s m below meth c ls hx hb hr hml hts hown hlk hP hK hB hl
  have hown : s.vm.findClass RX1 = some m.cls := hown
  have hl : lv_has ls 3 [(0, .ref (a 0)), (1, .int w), (2, .int x)] := hl
  have hiF : ∀ w ∈ wsX10, w ∈ wsX1_sort := by decide +kernel
  refine lv_iload_n hx hb dX1_sort_0 rfl (lv_at hl 1 rfl) ?_
  refine xc_T (As := [.int w]) (rest := []) ⟨hx, hb, hml, hown, hts⟩ (c_X1_isWhat l w) (va_cwS 1 hts gX1_sort_X1_isWhat rfl rfl rfl (by decide +kernel) ⟨Nat.le_of_ble_eq_true rfl, Nat.le_of_ble_eq_true rfl⟩) rfl hl.1 rfl (Nat.le_of_ble_eq_true rfl) dX1_sort_1 ⟨Nat.zero_le _, Nat.zero_le _⟩ ?_
  refine lv_if_eq (tgt := 14) hx hb dX1_sort_4 (by decide) (fun c_1 => ?_) (fun c_1 => ?_)
  · have c_1 := b2i_e c_1
    refine lv_iconst (v := -1) hx hb dX1_sort_14 (by decide) ?_
    exact xr_i hx hb hr hlk dX1_sort_15 (by simp [aSort, c_1])
  · have c_1 := b2i_n c_1
    refine lv_iload_n hx hb dX1_sort_7 rfl (lv_at hl 2 rfl) ?_
    refine xc_T (As := [.int x]) (rest := []) ⟨hx, hb, hml, hown, hts⟩ (c_X1_isStringOrFork l x) (va_cwS 1 hts gX1_sort_X1_isStringOrFork rfl rfl rfl (by decide +kernel) ⟨Nat.le_of_ble_eq_true rfl, Nat.le_of_ble_eq_true rfl⟩) rfl hl.1 rfl (Nat.le_of_ble_eq_true rfl) dX1_sort_8 ⟨Nat.zero_le _, Nat.zero_le _⟩ ?_
    refine lv_if_ne (tgt := 16) hx hb dX1_sort_11 (by decide) (fun c_2 => ?_) (fun c_2 => ?_)
    · have c_2 := b2i_n c_2
      refine lv_aload_n hx hb dX1_sort_16 rfl (lv_at hl 0 rfl) ?_
      refine va_get (D := D) (ci := 1) (v := .ref (a 1)) (C := RX1) (T := TX1) (N := 5) hx hb hts hiF hown hK hP 0 rfl rfl 0 (by decide) (hts (.fieldLink RX1 11 "TunerBench" "values" "[[I") (by decide +kernel)) (fun _ h9 => h9) rfl dX1_sort_17 ?_
      refine lv_iload_n hx hb dX1_sort_20 rfl (lv_at hl 1 rfl) ?_
      refine xa_ald (D := D) hx hb hK hP 1 0 rfl rfl (isW_in c_1) dX1_sort_21 ?_
      refine lv_iload_n hx hb dX1_sort_22 rfl (lv_at hl 2 rfl) ?_
      refine va_iald (D := D) hx hb hK hP (2 + cn w) 1 (cb_row (vp_lt (isW_in c_1))) rfl (isF_in c_2) dX1_sort_23 ?_
      refine xc_T (As := [.int (v (cn w) (cn x))]) (rest := []) ⟨hx, hb, hml, hown, hts⟩ (c_X1_sortOf l (v (cn w) (cn x))) (va_cwS 1 hts gX1_sort_X1_sortOf rfl rfl rfl (by decide +kernel) ⟨Nat.le_of_ble_eq_true rfl, Nat.le_of_ble_eq_true rfl⟩) rfl hl.1 rfl (Nat.le_of_ble_eq_true rfl) dX1_sort_24 ⟨Nat.zero_le _, Nat.zero_le _⟩ ?_
      exact xr_i hx hb hr hlk dX1_sort_27 (by simp [aSort, c_1, c_2])
    · have c_2 := b2i_e c_2
      refine lv_iconst (v := -1) hx hb dX1_sort_14 (by decide) ?_
      exact xr_i hx hb hr hlk dX1_sort_15 (by simp [aSort, c_1, c_2])
set_option maxHeartbeats 4000000 in
set_option maxRecDepth 100000 in
theorem c_X1_quarters (l : Launch) (D : va_G) (a : Nat → Nat) (cV cI cG : ClassId) (v : Nat → Nat → Int32) (gg : Nat → Option Nat) (dn lt ch : Int32) (w x : Int32) : Met l yX1_quarters wsX1_quarters ({ frames := 2, cells := 0, slots := 0, locals := 40 }) (xR D vwCl (cb a cV cI cG v gg dn lt ch) (cT cV cI cG) xB0 [.ref (a 0), .int w, .int x]) (QcRead (aQuar v w x)) 0 0 (fun _ => False) := by
  refine xr_in (cc := cX1_quarters) (maxL := 4) (ret := (some .int)) (by decide) rfl (Nat.le_of_ble_eq_true rfl) ?_
  intro p e s m below meth c ls hx hb hr hml hts hown hlk hP hK hB hl
  have hown : s.vm.findClass RX1 = some m.cls := hown
  have hl : lv_has ls 4 [(0, .ref (a 0)), (1, .int w), (2, .int x)] := hl
  have hiF : ∀ w ∈ wsX10, w ∈ wsX1_quarters := by decide +kernel
  refine lv_iload_n hx hb dX1_quarters_0 rfl (lv_at hl 1 rfl) ?_
  refine xc_T (As := [.int w]) (rest := []) ⟨hx, hb, hml, hown, hts⟩ (c_X1_isWhat l w) (va_cwS 1 hts gX1_quarters_X1_isWhat rfl rfl rfl (by decide +kernel) ⟨Nat.le_of_ble_eq_true rfl, Nat.le_of_ble_eq_true rfl⟩) rfl hl.1 rfl (Nat.le_of_ble_eq_true rfl) dX1_quarters_1 ⟨Nat.zero_le _, Nat.zero_le _⟩ ?_
  refine lv_if_eq (tgt := 14) hx hb dX1_quarters_4 (by decide) (fun c_1 => ?_) (fun c_1 => ?_)
  · have c_1 := b2i_e c_1
    refine lv_iconst (v := 0) hx hb dX1_quarters_14 (by decide) ?_
    exact xr_i hx hb hr hlk dX1_quarters_15 (by simp [aQuar, qrtF, c_1])
  · have c_1 := b2i_n c_1
    refine lv_iload_n hx hb dX1_quarters_7 rfl (lv_at hl 2 rfl) ?_
    refine xc_T (As := [.int x]) (rest := []) ⟨hx, hb, hml, hown, hts⟩ (c_X1_isStringOrFork l x) (va_cwS 1 hts gX1_quarters_X1_isStringOrFork rfl rfl rfl (by decide +kernel) ⟨Nat.le_of_ble_eq_true rfl, Nat.le_of_ble_eq_true rfl⟩) rfl hl.1 rfl (Nat.le_of_ble_eq_true rfl) dX1_quarters_8 ⟨Nat.zero_le _, Nat.zero_le _⟩ ?_
    refine lv_if_ne (tgt := 16) hx hb dX1_quarters_11 (by decide) (fun c_2 => ?_) (fun c_2 => ?_)
    · have c_2 := b2i_n c_2
      refine lv_aload_n hx hb dX1_quarters_16 rfl (lv_at hl 0 rfl) ?_
      refine va_get (D := D) (ci := 1) (v := .ref (a 1)) (C := RX1) (T := TX1) (N := 5) hx hb hts hiF hown hK hP 0 rfl rfl 0 (by decide) (hts (.fieldLink RX1 11 "TunerBench" "values" "[[I") (by decide +kernel)) (fun _ h9 => h9) rfl dX1_quarters_17 ?_
      refine lv_iload_n hx hb dX1_quarters_20 rfl (lv_at hl 1 rfl) ?_
      refine xa_ald (D := D) hx hb hK hP 1 0 rfl rfl (isW_in c_1) dX1_quarters_21 ?_
      refine lv_iload_n hx hb dX1_quarters_22 rfl (lv_at hl 2 rfl) ?_
      refine va_iald (D := D) hx hb hK hP (2 + cn w) 1 (cb_row (vp_lt (isW_in c_1))) rfl (isF_in c_2) dX1_quarters_23 ?_
      refine lv_istore_n (lv' := [(3, .int (v (cn w) (cn x))), (0, .ref (a 0)), (1, .int w), (2, .int x)]) hx hb dX1_quarters_24 rfl hl (by decide) rfl (fun ls hl => ?_)
      refine lv_iload_n hx hb dX1_quarters_25 rfl (lv_at hl 0 rfl) ?_
      refine xc_T (As := [.int (v (cn w) (cn x))]) (rest := []) ⟨hx, hb, hml, hown, hts⟩ (c_X1_sortOf l (v (cn w) (cn x))) (va_cwS 1 hts gX1_quarters_X1_sortOf rfl rfl rfl (by decide +kernel) ⟨Nat.le_of_ble_eq_true rfl, Nat.le_of_ble_eq_true rfl⟩) rfl hl.1 rfl (Nat.le_of_ble_eq_true rfl) dX1_quarters_26 ⟨Nat.zero_le _, Nat.zero_le _⟩ ?_
      refine lv_if_ne (tgt := 36) hx hb dX1_quarters_29 (by decide) (fun c_3 => ?_) (fun c_3 => ?_)
      · refine lv_iconst (v := 0) hx hb dX1_quarters_36 (by decide) ?_
        exact xr_i hx hb hr hlk dX1_quarters_37 (by simp [aQuar, qrtF, c_1, c_2, c_3])
      · refine lv_iload_n hx hb dX1_quarters_32 rfl (lv_at hl 0 rfl) ?_
        refine lv_goto (tgt := 37) hx hb dX1_quarters_33 (by decide) ?_
        exact xr_i hx hb hr hlk dX1_quarters_37 (by simp [aQuar, qrtF, c_1, c_2, c_3])
    · have c_2 := b2i_e c_2
      refine lv_iconst (v := 0) hx hb dX1_quarters_14 (by decide) ?_
      exact xr_i hx hb hr hlk dX1_quarters_15 (by simp [aQuar, qrtF, c_1, c_2])
set_option maxHeartbeats 4000000 in
set_option maxRecDepth 100000 in
theorem c_X1_pick (l : Launch) (D : va_G) (a : Nat → Nat) (cV cI cG : ClassId) (v : Nat → Nat → Int32) (gg : Nat → Option Nat) (dn lt ch : Int32) (w h x y : Int32) : Met l yX1_pick wsX1_pick ({ frames := 3, cells := 0, slots := 0, locals := 68 }) (xR D vwCl (cb a cV cI cG v gg dn lt ch) (cT cV cI cG) xB0 [.ref (a 0), .int w, .int h, .int x, .int y]) (QcRead (aPick v w h x y)) 0 0 (fun _ => False) := by
  refine xr_in (cc := cX1_pick) (maxL := 5) (ret := (some .int)) (by decide) rfl (Nat.le_of_ble_eq_true rfl) ?_
  intro p e s m below meth c ls hx hb hr hml hts hown hlk hP hK hB hl
  have hown : s.vm.findClass RX1 = some m.cls := hown
  have hl : lv_has ls 5 [(0, .ref (a 0)), (1, .int w), (2, .int h), (3, .int x), (4, .int y)] := hl
  have hiF : ∀ w ∈ wsX10, w ∈ wsX1_pick := by decide +kernel
  refine lv_iload_n hx hb dX1_pick_0 rfl (lv_at hl 1 rfl) ?_
  refine lv_iload_n hx hb dX1_pick_1 rfl (lv_at hl 2 rfl) ?_
  refine xc_T (As := [.int w, .int h]) (rest := []) ⟨hx, hb, hml, hown, hts⟩ (c_X1_isQuestion l w h) (va_cwS 2 hts gX1_pick_X1_isQuestion rfl rfl rfl (by decide +kernel) ⟨Nat.le_of_ble_eq_true rfl, Nat.le_of_ble_eq_true rfl⟩) rfl hl.1 rfl (Nat.le_of_ble_eq_true rfl) dX1_pick_2 ⟨Nat.zero_le _, Nat.zero_le _⟩ ?_
  refine lv_if_eq (tgt := 23) hx hb dX1_pick_5 (by decide) (fun c_1 => ?_) (fun c_1 => ?_)
  · have c_1 := b2i_e c_1
    refine lv_iconst (v := -1) hx hb dX1_pick_23 (by decide) ?_
    exact xr_i hx hb hr hlk dX1_pick_24 (by simp [aPick, qB, c_1])
  · have c_1 := b2i_n c_1
    refine lv_iload_n hx hb dX1_pick_8 rfl (lv_at hl 3 rfl) ?_
    refine xc_T (As := [.int x]) (rest := []) ⟨hx, hb, hml, hown, hts⟩ (c_X1_isStringOrFork l x) (va_cwS 1 hts gX1_pick_X1_isStringOrFork rfl rfl rfl (by decide +kernel) ⟨Nat.le_of_ble_eq_true rfl, Nat.le_of_ble_eq_true rfl⟩) rfl hl.1 rfl (Nat.le_of_ble_eq_true rfl) dX1_pick_9 ⟨Nat.zero_le _, Nat.zero_le _⟩ ?_
    refine lv_if_eq (tgt := 23) hx hb dX1_pick_12 (by decide) (fun c_2 => ?_) (fun c_2 => ?_)
    · have c_2 := b2i_e c_2
      refine lv_iconst (v := -1) hx hb dX1_pick_23 (by decide) ?_
      exact xr_i hx hb hr hlk dX1_pick_24 (by simp [aPick, qB, c_1, c_2])
    · have c_2 := b2i_n c_2
      refine lv_iload hx hb dX1_pick_15 (lv_at hl 4 rfl) ?_
      refine xc_T (As := [.int y]) (rest := []) ⟨hx, hb, hml, hown, hts⟩ (c_X1_isStringOrFork l y) (va_cwS 1 hts gX1_pick_X1_isStringOrFork rfl rfl rfl (by decide +kernel) ⟨Nat.le_of_ble_eq_true rfl, Nat.le_of_ble_eq_true rfl⟩) rfl hl.1 rfl (Nat.le_of_ble_eq_true rfl) dX1_pick_17 ⟨Nat.zero_le _, Nat.zero_le _⟩ ?_
      refine lv_if_ne (tgt := 25) hx hb dX1_pick_20 (by decide) (fun c_3 => ?_) (fun c_3 => ?_)
      · have c_3 := b2i_n c_3
        refine lv_aload_n hx hb dX1_pick_25 rfl (lv_at hl 0 rfl) ?_
        refine lv_iload_n hx hb dX1_pick_26 rfl (lv_at hl 1 rfl) ?_
        refine lv_iload_n hx hb dX1_pick_27 rfl (lv_at hl 2 rfl) ?_
        refine lv_iload_n hx hb dX1_pick_28 rfl (lv_at hl 3 rfl) ?_
        refine lv_iload hx hb dX1_pick_29 (lv_at hl 4 rfl) ?_
        refine xc_R (As := [.int w, .int h, .int x, .int y]) (rest := []) ⟨hx, hb, hml, hown, hts⟩ (c_X1_stands l D a cV cI cG v gg dn lt ch w h x y (isQ_w c_1) (isF_in c_2) (isF_in c_3)) (cwV 4 hts gX1_pick_X1_stands rfl rfl rfl (by decide +kernel) ⟨Nat.le_of_ble_eq_true rfl, Nat.le_of_ble_eq_true rfl⟩) xMv0 trivial hP hK (va_recv hK hP (ci := 1) (q0 := 0) rfl rfl) rfl hl.1 rfl (Nat.le_of_ble_eq_true rfl) dX1_pick_31 ⟨Nat.zero_le _, Nat.zero_le _⟩ ?_
        refine lv_if_eq (tgt := 41) hx hb dX1_pick_34 (by decide) (fun c_4 => ?_) (fun c_4 => ?_)
        · have c_4 := b2i_e c_4
          refine lv_iload hx hb dX1_pick_41 (lv_at hl 4 rfl) ?_
          exact xr_i hx hb hr hlk dX1_pick_43 (by simp [aPick, qB, c_1, c_2, c_3, c_4])
        · have c_4 := b2i_n c_4
          refine lv_iload_n hx hb dX1_pick_37 rfl (lv_at hl 3 rfl) ?_
          refine lv_goto (tgt := 43) hx hb dX1_pick_38 (by decide) ?_
          exact xr_i hx hb hr hlk dX1_pick_43 (by simp [aPick, qB, c_1, c_2, c_3, c_4])
      · have c_3 := b2i_e c_3
        refine lv_iconst (v := -1) hx hb dX1_pick_23 (by decide) ?_
        exact xr_i hx hb hr hlk dX1_pick_24 (by simp [aPick, qB, c_1, c_2, c_3])
set_option maxHeartbeats 4000000 in
set_option maxRecDepth 100000 in
theorem c_X1_put (l : Launch) (D : va_G) (a : Nat → Nat) (cV cI cG : ClassId) (v : Nat → Nat → Int32) (gg : Nat → Option Nat) (dn lt ch : Int32) (sz : Nat) (w x so q : Int32) : Met l yX1_put wsX1_put ({ frames := 2, cells := 0, slots := 0, locals := 40 }) (xW D vwCl (cb a cV cI cG v gg dn lt ch) (cT cV cI cG) xB0 sz [.ref (a 0), .int w, .int x, .int so, .int q]) (xQ (S := Unit) D vwCl (fun r _ => r = b2i (aPut w x so q)) (fun _ => cb a cV cI cG (nPut v w x so q) gg dn lt ch) (fun _ => cT cV cI cG) (va_A (cb a cV cI cG v gg dn lt ch) sz)) 0 0 (va_A (cb a cV cI cG v gg dn lt ch) sz) := by
  refine xw_in (Qf := xQ (S := Unit) D vwCl (fun r _ => r = b2i (aPut w x so q)) (fun _ => cb a cV cI cG (nPut v w x so q) gg dn lt ch) (fun _ => cT cV cI cG)) (cc := cX1_put) (maxL := 5) (ret := (some .boolean)) (by decide) rfl (Nat.le_of_ble_eq_true rfl) ?_
  intro p e s m below meth c ls A hx hb hr hml hts hown hlk hnm hA hP hK hD hS hB hl
  have hown : s.vm.findClass RX1 = some m.cls := hown
  have hl : lv_has ls 5 [(0, .ref (a 0)), (1, .int w), (2, .int x), (3, .int so), (4, .int q)] := hl
  have hiF : ∀ w ∈ wsX10, w ∈ wsX1_put := by decide +kernel
  refine lv_iload_n hx hb dX1_put_0 rfl (lv_at hl 1 rfl) ?_
  refine xc_T (As := [.int w]) (rest := []) ⟨hx, hb, hml, hown, hts⟩ (c_X1_isWhat l w) (va_cwS 1 hts gX1_put_X1_isWhat rfl rfl rfl (by decide +kernel) ⟨Nat.le_of_ble_eq_true rfl, Nat.le_of_ble_eq_true rfl⟩) rfl hl.1 rfl (Nat.le_of_ble_eq_true rfl) dX1_put_1 ⟨Nat.zero_le _, Nat.zero_le _⟩ ?_
  refine lv_if_eq (tgt := 23) hx hb dX1_put_4 (by decide) (fun c_1 => ?_) (fun c_1 => ?_)
  · have c_1 := b2i_e c_1
    refine lv_iconst (v := 0) hx hb dX1_put_23 (by decide) ?_
    have e_v : v = nPut v w x so q := by simp [nPut, aPut, c_1]
    rw [e_v] at hP hD
    exact xw_z (S := Unit) () hx hb hr hlk dX1_put_24 (by decide) hP hK hD hS (by simp [nPut, aPut, b2i, c_1])
  · have c_1 := b2i_n c_1
    refine lv_iload_n hx hb dX1_put_7 rfl (lv_at hl 2 rfl) ?_
    refine xc_T (As := [.int x]) (rest := []) ⟨hx, hb, hml, hown, hts⟩ (c_X1_isStringOrFork l x) (va_cwS 1 hts gX1_put_X1_isStringOrFork rfl rfl rfl (by decide +kernel) ⟨Nat.le_of_ble_eq_true rfl, Nat.le_of_ble_eq_true rfl⟩) rfl hl.1 rfl (Nat.le_of_ble_eq_true rfl) dX1_put_8 ⟨Nat.zero_le _, Nat.zero_le _⟩ ?_
    refine lv_if_eq (tgt := 23) hx hb dX1_put_11 (by decide) (fun c_2 => ?_) (fun c_2 => ?_)
    · have c_2 := b2i_e c_2
      refine lv_iconst (v := 0) hx hb dX1_put_23 (by decide) ?_
      have e_v : v = nPut v w x so q := by simp [nPut, aPut, c_1, c_2]
      rw [e_v] at hP hD
      exact xw_z (S := Unit) () hx hb hr hlk dX1_put_24 (by decide) hP hK hD hS (by simp [nPut, aPut, b2i, c_1, c_2])
    · have c_2 := b2i_n c_2
      refine lv_iload_n hx hb dX1_put_14 rfl (lv_at hl 3 rfl) ?_
      refine lv_iload hx hb dX1_put_15 (lv_at hl 4 rfl) ?_
      refine xc_T (As := [.int so, .int q]) (rest := []) ⟨hx, hb, hml, hown, hts⟩ (c_X1_isValue l so q) (va_cwS 2 hts gX1_put_X1_isValue rfl rfl rfl (by decide +kernel) ⟨Nat.le_of_ble_eq_true rfl, Nat.le_of_ble_eq_true rfl⟩) rfl hl.1 rfl (Nat.le_of_ble_eq_true rfl) dX1_put_17 ⟨Nat.zero_le _, Nat.zero_le _⟩ ?_
      refine lv_if_ne (tgt := 25) hx hb dX1_put_20 (by decide) (fun c_3 => ?_) (fun c_3 => ?_)
      · have c_3 := b2i_n c_3
        refine lv_aload_n hx hb dX1_put_25 rfl (lv_at hl 0 rfl) ?_
        refine va_get (D := D) (ci := 1) (v := .ref (a 1)) (C := RX1) (T := TX1) (N := 5) hx hb hts hiF hown hK hP 0 rfl rfl 0 (by decide) (hts (.fieldLink RX1 11 "TunerBench" "values" "[[I") (by decide +kernel)) (fun _ h9 => h9) rfl dX1_put_26 ?_
        refine lv_iload_n hx hb dX1_put_29 rfl (lv_at hl 1 rfl) ?_
        refine xa_ald (D := D) hx hb hK hP 1 0 rfl rfl (isW_in c_1) dX1_put_30 ?_
        refine lv_iload_n hx hb dX1_put_31 rfl (lv_at hl 2 rfl) ?_
        refine lv_iload_n hx hb dX1_put_32 rfl (lv_at hl 3 rfl) ?_
        refine lv_iload hx hb dX1_put_33 (lv_at hl 4 rfl) ?_
        refine xc_T (As := [.int so, .int q]) (rest := [.int x, .ref (a (2 + cn w))]) ⟨hx, hb, hml, hown, hts⟩ (c_X1_valueOf l so q) (va_cwS 2 hts gX1_put_X1_valueOf rfl rfl rfl (by decide +kernel) ⟨Nat.le_of_ble_eq_true rfl, Nat.le_of_ble_eq_true rfl⟩) rfl hl.1 rfl (Nat.le_of_ble_eq_true rfl) dX1_put_35 ⟨Nat.zero_le _, Nat.zero_le _⟩ ?_
        refine va_iast (D := D) hx hb hK hP hD hS (2 + cn w) 1 (cb_row (vp_lt (isW_in c_1))) rfl (isF_in c_2) dX1_put_38 (fun H locs hP hD hS => ?_)
        rw [cb_set (vp_lt (isW_in c_1))] at hP hD
        have hP : va_P D vwCl (cb a cV cI cG (up2 v (cn w) (cn x) (valF so q)) gg dn lt ch) H := hP
        have hD : va_D A (cb a cV cI cG (up2 v (cn w) (cn x) (valF so q)) gg dn lt ch) := hD
        refine lv_iconst (v := 1) hx hb dX1_put_39 (by decide) ?_
        have e_v : up2 v (cn w) (cn x) (valF so q) = nPut v w x so q := by simp [nPut, aPut, c_1, c_2, c_3]
        rw [e_v] at hP hD
        exact xw_z (S := Unit) () hx hb hr hlk dX1_put_40 (by decide) hP hK hD hS (by simp [nPut, aPut, b2i, c_1, c_2, c_3])
      · have c_3 := b2i_e c_3
        refine lv_iconst (v := 0) hx hb dX1_put_23 (by decide) ?_
        have e_v : v = nPut v w x so q := by simp [nPut, aPut, c_1, c_2, c_3]
        rw [e_v] at hP hD
        exact xw_z (S := Unit) () hx hb hr hlk dX1_put_24 (by decide) hP hK hD hS (by simp [nPut, aPut, b2i, c_1, c_2, c_3])
set_option maxHeartbeats 4000000 in
set_option maxRecDepth 100000 in
theorem c_X1_holds (l : Launch) (D : va_G) (a : Nat → Nat) (cV cI cG : ClassId) (v : Nat → Nat → Int32) (gg : Nat → Option Nat) (dn lt ch : Int32) (sz : Nat) (w h x y : Int32) : Met l yX1_holds wsX1_holds ({ frames := 3, cells := 0, slots := 0, locals := 68 }) (xW D vwCl (cb a cV cI cG v gg dn lt ch) (cT cV cI cG) xB0 sz [.ref (a 0), .int w, .int h, .int x, .int y]) (xQ (S := Unit) D vwCl (fun r _ => r = aHold v w h x y) (fun _ => cb a cV cI cG v gg dn (nHold v lt w h x y) ch) (fun _ => cT cV cI cG) (va_A (cb a cV cI cG v gg dn lt ch) sz)) 0 0 (va_A (cb a cV cI cG v gg dn lt ch) sz) := by
  refine xw_in (Qf := xQ (S := Unit) D vwCl (fun r _ => r = aHold v w h x y) (fun _ => cb a cV cI cG v gg dn (nHold v lt w h x y) ch) (fun _ => cT cV cI cG)) (cc := cX1_holds) (maxL := 5) (ret := (some .int)) (by decide) rfl (Nat.le_of_ble_eq_true rfl) ?_
  intro p e s m below meth c ls A hx hb hr hml hts hown hlk hnm hA hP hK hD hS hB hl
  have hown : s.vm.findClass RX1 = some m.cls := hown
  have hl : lv_has ls 5 [(0, .ref (a 0)), (1, .int w), (2, .int h), (3, .int x), (4, .int y)] := hl
  have hiF : ∀ w ∈ wsX10, w ∈ wsX1_holds := by decide +kernel
  refine lv_iload_n hx hb dX1_holds_0 rfl (lv_at hl 1 rfl) ?_
  refine lv_iload_n hx hb dX1_holds_1 rfl (lv_at hl 2 rfl) ?_
  refine xc_T (As := [.int w, .int h]) (rest := []) ⟨hx, hb, hml, hown, hts⟩ (c_X1_isQuestion l w h) (va_cwS 2 hts gX1_holds_X1_isQuestion rfl rfl rfl (by decide +kernel) ⟨Nat.le_of_ble_eq_true rfl, Nat.le_of_ble_eq_true rfl⟩) rfl hl.1 rfl (Nat.le_of_ble_eq_true rfl) dX1_holds_2 ⟨Nat.zero_le _, Nat.zero_le _⟩ ?_
  refine lv_if_eq (tgt := 23) hx hb dX1_holds_5 (by decide) (fun c_1 => ?_) (fun c_1 => ?_)
  · have c_1 := b2i_e c_1
    refine lv_iconst (v := -1) hx hb dX1_holds_23 (by decide) ?_
    have e_lt : lt = nHold v lt w h x y := by simp [aHold, nHold, qB, b2i, c_1]
    rw [e_lt] at hP hD
    exact xw_i (S := Unit) () hx hb hr hlk dX1_holds_24 hP hK hD hS (by simp [aHold, nHold, qB, b2i, b2i, c_1])
  · have c_1 := b2i_n c_1
    refine lv_iload_n hx hb dX1_holds_8 rfl (lv_at hl 3 rfl) ?_
    refine xc_T (As := [.int x]) (rest := []) ⟨hx, hb, hml, hown, hts⟩ (c_X1_isStringOrFork l x) (va_cwS 1 hts gX1_holds_X1_isStringOrFork rfl rfl rfl (by decide +kernel) ⟨Nat.le_of_ble_eq_true rfl, Nat.le_of_ble_eq_true rfl⟩) rfl hl.1 rfl (Nat.le_of_ble_eq_true rfl) dX1_holds_9 ⟨Nat.zero_le _, Nat.zero_le _⟩ ?_
    refine lv_if_eq (tgt := 23) hx hb dX1_holds_12 (by decide) (fun c_2 => ?_) (fun c_2 => ?_)
    · have c_2 := b2i_e c_2
      refine lv_iconst (v := -1) hx hb dX1_holds_23 (by decide) ?_
      have e_lt : lt = nHold v lt w h x y := by simp [aHold, nHold, qB, b2i, c_1, c_2]
      rw [e_lt] at hP hD
      exact xw_i (S := Unit) () hx hb hr hlk dX1_holds_24 hP hK hD hS (by simp [aHold, nHold, qB, b2i, b2i, c_1, c_2])
    · have c_2 := b2i_n c_2
      refine lv_iload hx hb dX1_holds_15 (lv_at hl 4 rfl) ?_
      refine xc_T (As := [.int y]) (rest := []) ⟨hx, hb, hml, hown, hts⟩ (c_X1_isStringOrFork l y) (va_cwS 1 hts gX1_holds_X1_isStringOrFork rfl rfl rfl (by decide +kernel) ⟨Nat.le_of_ble_eq_true rfl, Nat.le_of_ble_eq_true rfl⟩) rfl hl.1 rfl (Nat.le_of_ble_eq_true rfl) dX1_holds_17 ⟨Nat.zero_le _, Nat.zero_le _⟩ ?_
      refine lv_if_ne (tgt := 25) hx hb dX1_holds_20 (by decide) (fun c_3 => ?_) (fun c_3 => ?_)
      · have c_3 := b2i_n c_3
        refine lv_aload_n hx hb dX1_holds_25 rfl (lv_at hl 0 rfl) ?_
        refine lv_aload_n hx hb dX1_holds_26 rfl (lv_at hl 0 rfl) ?_
        refine lv_iload_n hx hb dX1_holds_27 rfl (lv_at hl 1 rfl) ?_
        refine lv_iload_n hx hb dX1_holds_28 rfl (lv_at hl 2 rfl) ?_
        refine lv_iload_n hx hb dX1_holds_29 rfl (lv_at hl 3 rfl) ?_
        refine lv_iload hx hb dX1_holds_30 (lv_at hl 4 rfl) ?_
        refine xc_R (As := [.int w, .int h, .int x, .int y]) (rest := [.ref (a 0)]) ⟨hx, hb, hml, hown, hts⟩ (c_X1_stands l D a cV cI cG v gg dn lt ch w h x y (isQ_w c_1) (isF_in c_2) (isF_in c_3)) (cwV 4 hts gX1_holds_X1_stands rfl rfl rfl (by decide +kernel) ⟨Nat.le_of_ble_eq_true rfl, Nat.le_of_ble_eq_true rfl⟩) xMv0 trivial hP hK (va_recv hK hP (ci := 1) (q0 := 0) rfl rfl) rfl hl.1 rfl (Nat.le_of_ble_eq_true rfl) dX1_holds_32 ⟨Nat.zero_le _, Nat.zero_le _⟩ ?_
        refine lv_if_eq (tgt := 42) hx hb dX1_holds_35 (by decide) (fun c_4 => ?_) (fun c_4 => ?_)
        · have c_4 := b2i_e c_4
          refine lv_iconst (v := 0) hx hb dX1_holds_42 (by decide) ?_
          refine va_put (D := D) (ci := 1) (v := .int 0) (ty := .int) (C := RX1) (T := TX1) (N := 5) hx hb hts hiF tyX1 tyX1_ok nmX1 hown hK hP hD hS 0 rfl rfl 3 (by decide) (hts (.fieldLink RX1 24 "TunerBench" "latestTruth" "I") (by decide +kernel)) (fun _ h9 => h9) rfl (by decide +kernel) rfl rfl (Nat.le_of_ble_eq_true rfl) dX1_holds_43 (fun H locs hP hD hS => ?_)
          have hP : va_P D vwCl (cb a cV cI cG v gg dn 0 ch) H := hP
          have hD : va_D A (cb a cV cI cG v gg dn 0 ch) := hD
          refine lv_aload_n hx hb dX1_holds_46 rfl (lv_at hl 0 rfl) ?_
          refine va_get (D := D) (ci := 1) (v := .int 0) (C := RX1) (T := TX1) (N := 5) hx hb hts hiF hown hK hP 0 rfl rfl 3 (by decide) (hts (.fieldLink RX1 24 "TunerBench" "latestTruth" "I") (by decide +kernel)) (fun _ h9 => h9) rfl dX1_holds_47 ?_
          have e_lt : 0 = nHold v lt w h x y := by simp [aHold, nHold, qB, b2i, c_1, c_2, c_3, c_4]
          rw [e_lt] at hP hD
          exact xw_i (S := Unit) () hx hb hr hlk dX1_holds_50 hP hK hD hS (by simp [aHold, nHold, qB, b2i, b2i, c_1, c_2, c_3, c_4])
        · have c_4 := b2i_n c_4
          refine lv_iconst (v := 1) hx hb dX1_holds_38 (by decide) ?_
          refine lv_goto (tgt := 43) hx hb dX1_holds_39 (by decide) ?_
          refine va_put (D := D) (ci := 1) (v := .int 1) (ty := .int) (C := RX1) (T := TX1) (N := 5) hx hb hts hiF tyX1 tyX1_ok nmX1 hown hK hP hD hS 0 rfl rfl 3 (by decide) (hts (.fieldLink RX1 24 "TunerBench" "latestTruth" "I") (by decide +kernel)) (fun _ h9 => h9) rfl (by decide +kernel) rfl rfl (Nat.le_of_ble_eq_true rfl) dX1_holds_43 (fun H locs hP hD hS => ?_)
          have hP : va_P D vwCl (cb a cV cI cG v gg dn 1 ch) H := hP
          have hD : va_D A (cb a cV cI cG v gg dn 1 ch) := hD
          refine lv_aload_n hx hb dX1_holds_46 rfl (lv_at hl 0 rfl) ?_
          refine va_get (D := D) (ci := 1) (v := .int 1) (C := RX1) (T := TX1) (N := 5) hx hb hts hiF hown hK hP 0 rfl rfl 3 (by decide) (hts (.fieldLink RX1 24 "TunerBench" "latestTruth" "I") (by decide +kernel)) (fun _ h9 => h9) rfl dX1_holds_47 ?_
          have e_lt : 1 = nHold v lt w h x y := by simp [aHold, nHold, qB, b2i, c_1, c_2, c_3, c_4]
          rw [e_lt] at hP hD
          exact xw_i (S := Unit) () hx hb hr hlk dX1_holds_50 hP hK hD hS (by simp [aHold, nHold, qB, b2i, b2i, c_1, c_2, c_3, c_4])
      · have c_3 := b2i_e c_3
        refine lv_iconst (v := -1) hx hb dX1_holds_23 (by decide) ?_
        have e_lt : lt = nHold v lt w h x y := by simp [aHold, nHold, qB, b2i, c_1, c_2, c_3]
        rw [e_lt] at hP hD
        exact xw_i (S := Unit) () hx hb hr hlk dX1_holds_24 hP hK hD hS (by simp [aHold, nHold, qB, b2i, b2i, c_1, c_2, c_3])
set_option maxHeartbeats 4000000 in
set_option maxRecDepth 100000 in
theorem c_X1_denies (l : Launch) (D : va_G) (a : Nat → Nat) (cV cI cG : ClassId) (v : Nat → Nat → Int32) (gg : Nat → Option Nat) (dn lt ch : Int32) (sz : Nat) (w h x y : Int32) : Met l yX1_denies wsX1_denies ({ frames := 3, cells := 0, slots := 0, locals := 68 }) (xW D vwCl (cb a cV cI cG v gg dn lt ch) (cT cV cI cG) xB0 sz [.ref (a 0), .int w, .int h, .int x, .int y]) (xQ (S := Unit) D vwCl (fun r _ => r = aDeny v w h x y) (fun _ => cb a cV cI cG v gg (nDeny v dn w h x y) lt ch) (fun _ => cT cV cI cG) (va_A (cb a cV cI cG v gg dn lt ch) sz)) 0 0 (va_A (cb a cV cI cG v gg dn lt ch) sz) := by
  refine xw_in (Qf := xQ (S := Unit) D vwCl (fun r _ => r = aDeny v w h x y) (fun _ => cb a cV cI cG v gg (nDeny v dn w h x y) lt ch) (fun _ => cT cV cI cG)) (cc := cX1_denies) (maxL := 5) (ret := (some .int)) (by decide) rfl (Nat.le_of_ble_eq_true rfl) ?_
  intro p e s m below meth c ls A hx hb hr hml hts hown hlk hnm hA hP hK hD hS hB hl
  have hown : s.vm.findClass RX1 = some m.cls := hown
  have hl : lv_has ls 5 [(0, .ref (a 0)), (1, .int w), (2, .int h), (3, .int x), (4, .int y)] := hl
  have hiF : ∀ w ∈ wsX10, w ∈ wsX1_denies := by decide +kernel
  refine lv_iload_n hx hb dX1_denies_0 rfl (lv_at hl 1 rfl) ?_
  refine lv_iload_n hx hb dX1_denies_1 rfl (lv_at hl 2 rfl) ?_
  refine xc_T (As := [.int w, .int h]) (rest := []) ⟨hx, hb, hml, hown, hts⟩ (c_X1_isQuestion l w h) (va_cwS 2 hts gX1_denies_X1_isQuestion rfl rfl rfl (by decide +kernel) ⟨Nat.le_of_ble_eq_true rfl, Nat.le_of_ble_eq_true rfl⟩) rfl hl.1 rfl (Nat.le_of_ble_eq_true rfl) dX1_denies_2 ⟨Nat.zero_le _, Nat.zero_le _⟩ ?_
  refine lv_if_eq (tgt := 23) hx hb dX1_denies_5 (by decide) (fun c_1 => ?_) (fun c_1 => ?_)
  · have c_1 := b2i_e c_1
    refine lv_iconst (v := -1) hx hb dX1_denies_23 (by decide) ?_
    have e_dn : dn = nDeny v dn w h x y := by simp [aDeny, nDeny, qB, c_1]
    rw [e_dn] at hP hD
    exact xw_i (S := Unit) () hx hb hr hlk dX1_denies_24 hP hK hD hS (by simp [aDeny, nDeny, qB, b2i, c_1])
  · have c_1 := b2i_n c_1
    refine lv_iload_n hx hb dX1_denies_8 rfl (lv_at hl 3 rfl) ?_
    refine xc_T (As := [.int x]) (rest := []) ⟨hx, hb, hml, hown, hts⟩ (c_X1_isStringOrFork l x) (va_cwS 1 hts gX1_denies_X1_isStringOrFork rfl rfl rfl (by decide +kernel) ⟨Nat.le_of_ble_eq_true rfl, Nat.le_of_ble_eq_true rfl⟩) rfl hl.1 rfl (Nat.le_of_ble_eq_true rfl) dX1_denies_9 ⟨Nat.zero_le _, Nat.zero_le _⟩ ?_
    refine lv_if_eq (tgt := 23) hx hb dX1_denies_12 (by decide) (fun c_2 => ?_) (fun c_2 => ?_)
    · have c_2 := b2i_e c_2
      refine lv_iconst (v := -1) hx hb dX1_denies_23 (by decide) ?_
      have e_dn : dn = nDeny v dn w h x y := by simp [aDeny, nDeny, qB, c_1, c_2]
      rw [e_dn] at hP hD
      exact xw_i (S := Unit) () hx hb hr hlk dX1_denies_24 hP hK hD hS (by simp [aDeny, nDeny, qB, b2i, c_1, c_2])
    · have c_2 := b2i_n c_2
      refine lv_iload hx hb dX1_denies_15 (lv_at hl 4 rfl) ?_
      refine xc_T (As := [.int y]) (rest := []) ⟨hx, hb, hml, hown, hts⟩ (c_X1_isStringOrFork l y) (va_cwS 1 hts gX1_denies_X1_isStringOrFork rfl rfl rfl (by decide +kernel) ⟨Nat.le_of_ble_eq_true rfl, Nat.le_of_ble_eq_true rfl⟩) rfl hl.1 rfl (Nat.le_of_ble_eq_true rfl) dX1_denies_17 ⟨Nat.zero_le _, Nat.zero_le _⟩ ?_
      refine lv_if_ne (tgt := 25) hx hb dX1_denies_20 (by decide) (fun c_3 => ?_) (fun c_3 => ?_)
      · have c_3 := b2i_n c_3
        refine lv_aload_n hx hb dX1_denies_25 rfl (lv_at hl 0 rfl) ?_
        refine lv_iload_n hx hb dX1_denies_26 rfl (lv_at hl 1 rfl) ?_
        refine lv_iload_n hx hb dX1_denies_27 rfl (lv_at hl 2 rfl) ?_
        refine lv_iload_n hx hb dX1_denies_28 rfl (lv_at hl 3 rfl) ?_
        refine lv_iload hx hb dX1_denies_29 (lv_at hl 4 rfl) ?_
        refine xc_R (As := [.int w, .int h, .int x, .int y]) (rest := []) ⟨hx, hb, hml, hown, hts⟩ (c_X1_stands l D a cV cI cG v gg dn lt ch w h x y (isQ_w c_1) (isF_in c_2) (isF_in c_3)) (cwV 4 hts gX1_denies_X1_stands rfl rfl rfl (by decide +kernel) ⟨Nat.le_of_ble_eq_true rfl, Nat.le_of_ble_eq_true rfl⟩) xMv0 trivial hP hK (va_recv hK hP (ci := 1) (q0 := 0) rfl rfl) rfl hl.1 rfl (Nat.le_of_ble_eq_true rfl) dX1_denies_31 ⟨Nat.zero_le _, Nat.zero_le _⟩ ?_
        refine lv_if_eq (tgt := 39) hx hb dX1_denies_34 (by decide) (fun c_4 => ?_) (fun c_4 => ?_)
        · have c_4 := b2i_e c_4
          refine lv_aload_n hx hb dX1_denies_39 rfl (lv_at hl 0 rfl) ?_
          refine lv_dup hx hb dX1_denies_40 rfl ?_
          refine va_get (D := D) (ci := 1) (v := .int dn) (C := RX1) (T := TX1) (N := 5) hx hb hts hiF hown hK hP 0 rfl rfl 2 (by decide) (hts (.fieldLink RX1 20 "TunerBench" "denials" "I") (by decide +kernel)) (fun _ h9 => h9) rfl dX1_denies_41 ?_
          refine lv_iconst (v := 1) hx hb dX1_denies_44 (by decide) ?_
          refine lv_iadd hx hb dX1_denies_45 ?_
          refine va_put (D := D) (ci := 1) (v := .int (dn + 1)) (ty := .int) (C := RX1) (T := TX1) (N := 5) hx hb hts hiF tyX1 tyX1_ok nmX1 hown hK hP hD hS 0 rfl rfl 2 (by decide) (hts (.fieldLink RX1 20 "TunerBench" "denials" "I") (by decide +kernel)) (fun _ h9 => h9) rfl (by decide +kernel) rfl rfl (Nat.le_of_ble_eq_true rfl) dX1_denies_46 (fun H locs hP hD hS => ?_)
          have hP : va_P D vwCl (cb a cV cI cG v gg (dn + 1) lt ch) H := hP
          have hD : va_D A (cb a cV cI cG v gg (dn + 1) lt ch) := hD
          refine lv_iconst (v := 1) hx hb dX1_denies_49 (by decide) ?_
          have e_dn : dn + 1 = nDeny v dn w h x y := by simp [aDeny, nDeny, qB, c_1, c_2, c_3, c_4]
          rw [e_dn] at hP hD
          exact xw_i (S := Unit) () hx hb hr hlk dX1_denies_50 hP hK hD hS (by simp [aDeny, nDeny, qB, b2i, c_1, c_2, c_3, c_4])
        · have c_4 := b2i_n c_4
          refine lv_iconst (v := 0) hx hb dX1_denies_37 (by decide) ?_
          have e_dn : dn = nDeny v dn w h x y := by simp [aDeny, nDeny, qB, c_1, c_2, c_3, c_4]
          rw [e_dn] at hP hD
          exact xw_i (S := Unit) () hx hb hr hlk dX1_denies_38 hP hK hD hS (by simp [aDeny, nDeny, qB, b2i, c_1, c_2, c_3, c_4])
      · have c_3 := b2i_e c_3
        refine lv_iconst (v := -1) hx hb dX1_denies_23 (by decide) ?_
        have e_dn : dn = nDeny v dn w h x y := by simp [aDeny, nDeny, qB, c_1, c_2, c_3]
        rw [e_dn] at hP hD
        exact xw_i (S := Unit) () hx hb hr hlk dX1_denies_24 hP hK hD hS (by simp [aDeny, nDeny, qB, b2i, c_1, c_2, c_3])
set_option maxHeartbeats 4000000 in
set_option maxRecDepth 100000 in
theorem c_X1_climb (l : Launch) (D : va_G) (a : Nat → Nat) (cV cI cG : ClassId) (v : Nat → Nat → Int32) (gg : Nat → Option Nat) (dn lt ch : Int32) (w h x : Int32) : Met l yX1_climb wsX1_climb ({ frames := 3, cells := 0, slots := 0, locals := 68 }) (xR D vwCl (cb a cV cI cG v gg dn lt ch) (cT cV cI cG) xB0 [.ref (a 0), .int w, .int h, .int x]) (QcRead (aClim v w h x)) 0 0 (fun _ => False) := by
  refine xr_in (cc := cX1_climb) (maxL := 5) (ret := (some .int)) (by decide) rfl (Nat.le_of_ble_eq_true rfl) ?_
  intro p e s m below meth c ls hx hb hr hml hts hown hlk hP hK hB hl
  have hown : s.vm.findClass RX1 = some m.cls := hown
  have hl : lv_has ls 5 [(0, .ref (a 0)), (1, .int w), (2, .int h), (3, .int x)] := hl
  have hiF : ∀ w ∈ wsX10, w ∈ wsX1_climb := by decide +kernel
  have loop : vp_in w 2 → isHb h = true → ∀ (n k : Nat), k + n = 31 → nI (clF v (cn w) h n k) = aClim v w h x → ∀ ls : Array Slot, lv_has ls 5 [(4, .int (nI k)), (0, .ref (a 0)), (1, .int w), (2, .int h), (3, .int x)] → W p l e ({ frames := 3, cells := 0, slots := 0, locals := 68 }) s m ([.ref (a 0), .int w, .int h, .int x] : List Value).toArray below meth c s.heap [] 0 0 (MQ below (QcRead (aClim v w h x)) ([.ref (a 0), .int w, .int h, .int x] : List Value).toArray s 0 0 (fun _ => False)) (F0 m 20 ls []) := by
    intro hw hh n
    induction n with
    | zero =>
      intro k hk hres ls hl
      obtain rfl : k = 31 := by omega
      refine lv_iload hx hb dX1_climb_20 (lv_at hl 0 rfl) ?_
      refine lv_bipush (v := 31) hx hb dX1_climb_22 (by decide) ?_
      refine lv_icmp_ge (tgt := 48) hx hb dX1_climb_24 (by decide) (fun c_1 => ?_) (fun c_1 => absurd (by decide) c_1)
      refine lv_iload hx hb dX1_climb_48 (lv_at hl 0 rfl) ?_
      exact xr_i hx hb hr hlk dX1_climb_50 hres
    | succ n ih =>
      intro k hk hres ls hl
      refine lv_iload hx hb dX1_climb_20 (lv_at hl 0 rfl) ?_
      refine lv_bipush (v := 31) hx hb dX1_climb_22 (by decide) ?_
      refine lv_icmp_ge (tgt := 48) hx hb dX1_climb_24 (by decide) (fun c_2 => absurd c_2 (nI_ge (show k < 31 by omega) (by decide))) (fun c_2 => ?_)
      refine lv_aload_n hx hb dX1_climb_27 rfl (lv_at hl 1 rfl) ?_
      refine lv_iload_n hx hb dX1_climb_28 rfl (lv_at hl 2 rfl) ?_
      refine lv_iload_n hx hb dX1_climb_29 rfl (lv_at hl 3 rfl) ?_
      refine lv_iload hx hb dX1_climb_30 (lv_at hl 0 rfl) ?_
      refine lv_iload hx hb dX1_climb_32 (lv_at hl 0 rfl) ?_
      refine lv_iconst (v := 1) hx hb dX1_climb_34 (by decide) ?_
      refine lv_iadd hx hb dX1_climb_35 ?_
      rw [nI_1 k]
      refine xc_R (As := [.int w, .int h, .int (nI k), .int (nI (k + 1))]) (rest := []) ⟨hx, hb, hml, hown, hts⟩ (c_X1_stands l D a cV cI cG v gg dn lt ch w h (nI k) (nI (k + 1)) hw (vp_in_nI (show k < 33 by omega) (by decide)) (vp_in_nI (show k + 1 < 33 by omega) (by decide))) (cwV 4 hts gX1_climb_X1_stands rfl rfl rfl (by decide +kernel) ⟨Nat.le_of_ble_eq_true rfl, Nat.le_of_ble_eq_true rfl⟩) xMv0 trivial hP hK (va_recv hK hP (ci := 1) (q0 := 0) rfl rfl) rfl hl.1 rfl (Nat.le_of_ble_eq_true rfl) dX1_climb_36 ⟨Nat.zero_le _, Nat.zero_le _⟩ ?_
      refine lv_if_eq (tgt := 48) hx hb dX1_climb_39 (by decide) (fun c_3 => ?_) (fun c_3 => ?_)
      · have c_3 := b2i_e c_3
        have c_3 : stnF h (v (cn w) k) (v (cn w) (k + 1)) = false := by simpa [sdF, nI_cn (show k < 2 ^ 31 by omega), nI_cn (show k + 1 < 2 ^ 31 by omega)] using c_3
        refine lv_iload hx hb dX1_climb_48 (lv_at hl 0 rfl) ?_
        exact xr_i hx hb hr hlk dX1_climb_50 (by rw [← hres]; simp [clF, c_3])
      · have c_3 := b2i_n c_3
        have c_3 : stnF h (v (cn w) k) (v (cn w) (k + 1)) = true := by simpa [sdF, nI_cn (show k < 2 ^ 31 by omega), nI_cn (show k + 1 < 2 ^ 31 by omega)] using c_3
        refine lv_iinc (v := nI (k + 1)) (lv' := [(4, .int (nI (k + 1))), (0, .ref (a 0)), (1, .int w), (2, .int h), (3, .int x)]) hx hb dX1_climb_42 hl (k := 0) rfl (nI_1 k) (by decide) rfl (fun ls hl => ?_)
        refine lv_goto (tgt := 20) hx hb dX1_climb_45 (by decide) ?_
        refine ih (k + 1) (by omega) ?_ ls (lv_sub hl [0, 1, 2, 3, 4] rfl)
        rw [← hres]; simp [clF, c_3]
  refine lv_iload_n hx hb dX1_climb_0 rfl (lv_at hl 1 rfl) ?_
  refine lv_iload_n hx hb dX1_climb_1 rfl (lv_at hl 2 rfl) ?_
  refine xc_T (As := [.int w, .int h]) (rest := []) ⟨hx, hb, hml, hown, hts⟩ (c_X1_isQuestion l w h) (va_cwS 2 hts gX1_climb_X1_isQuestion rfl rfl rfl (by decide +kernel) ⟨Nat.le_of_ble_eq_true rfl, Nat.le_of_ble_eq_true rfl⟩) rfl hl.1 rfl (Nat.le_of_ble_eq_true rfl) dX1_climb_2 ⟨Nat.zero_le _, Nat.zero_le _⟩ ?_
  refine lv_if_eq (tgt := 15) hx hb dX1_climb_5 (by decide) (fun c_4 => ?_) (fun c_4 => ?_)
  · have c_4 := b2i_e c_4
    refine lv_iconst (v := -1) hx hb dX1_climb_15 (by decide) ?_
    exact xr_i hx hb hr hlk dX1_climb_16 (by simp [aClim, c_4])
  · have c_4 := b2i_n c_4
    refine lv_iload_n hx hb dX1_climb_8 rfl (lv_at hl 3 rfl) ?_
    refine xc_T (As := [.int x]) (rest := []) ⟨hx, hb, hml, hown, hts⟩ (c_X1_isString l x) (va_cwS 1 hts gX1_climb_X1_isString rfl rfl rfl (by decide +kernel) ⟨Nat.le_of_ble_eq_true rfl, Nat.le_of_ble_eq_true rfl⟩) rfl hl.1 rfl (Nat.le_of_ble_eq_true rfl) dX1_climb_9 ⟨Nat.zero_le _, Nat.zero_le _⟩ ?_
    refine lv_if_ne (tgt := 17) hx hb dX1_climb_12 (by decide) (fun c_5 => ?_) (fun c_5 => ?_)
    · have c_5 := b2i_n c_5
      refine lv_iload_n hx hb dX1_climb_17 rfl (lv_at hl 3 rfl) ?_
      refine lv_istore (lv' := [(4, .int x), (0, .ref (a 0)), (1, .int w), (2, .int h), (3, .int x)]) hx hb dX1_climb_18 hl (by decide) rfl (fun ls hl => ?_)
      obtain ⟨j, hj, ej⟩ := vp_in_of (isS_in c_5) (by decide)
      have hcj : cn x = j := by rw [ej]; exact nI_cn (by omega)
      refine loop (isQ_w c_4) (isQ_h c_4) (31 - j) j (by omega) ?_ ls ?_
      · simp [aClim, hcj, c_4, c_5]
      · rw [← ej]; exact lv_sub hl [0, 1, 2, 3, 4] rfl
    · have c_5 := b2i_e c_5
      refine lv_iconst (v := -1) hx hb dX1_climb_15 (by decide) ?_
      exact xr_i hx hb hr hlk dX1_climb_16 (by simp [aClim, c_4, c_5])
set_option maxHeartbeats 4000000 in
set_option maxRecDepth 100000 in
theorem c_X1_first (l : Launch) (D : va_G) (a : Nat → Nat) (cV cI cG : ClassId) (v : Nat → Nat → Int32) (gg : Nat → Option Nat) (dn lt ch : Int32) (w h x : Int32) (nb : Bool) : Met l yX1_first wsX1_first ({ frames := 3, cells := 0, slots := 0, locals := 68 }) (xR D vwCl (cb a cV cI cG v gg dn lt ch) (cT cV cI cG) xB0 [.ref (a 0), .int w, .int h, .int x, .int (b2i nb)]) (QcRead (aFirs v w h x nb)) 0 0 (fun _ => False) := by
  refine xr_in (cc := cX1_first) (maxL := 6) (ret := (some .int)) (by decide) rfl (Nat.le_of_ble_eq_true rfl) ?_
  intro p e s m below meth c ls hx hb hr hml hts hown hlk hP hK hB hl
  have hown : s.vm.findClass RX1 = some m.cls := hown
  have hl : lv_has ls 6 [(0, .ref (a 0)), (1, .int w), (2, .int h), (3, .int x), (4, .int (b2i nb))] := hl
  have hiF : ∀ w ∈ wsX10, w ∈ wsX1_first := by decide +kernel
  have loop : vp_in w 2 → isHb h = true → ∀ (n k : Nat), k + n = 32 → fsF v (cn w) h nb n k = aFirs v w h x nb → ∀ ls : Array Slot, lv_has ls 6 [(5, .int (nI k)), (0, .ref (a 0)), (1, .int w), (2, .int h), (3, .int x), (4, .int (b2i nb))] → W p l e ({ frames := 3, cells := 0, slots := 0, locals := 68 }) s m ([.ref (a 0), .int w, .int h, .int x, .int (b2i nb)] : List Value).toArray below meth c s.heap [] 0 0 (MQ below (QcRead (aFirs v w h x nb)) ([.ref (a 0), .int w, .int h, .int x, .int (b2i nb)] : List Value).toArray s 0 0 (fun _ => False)) (F0 m 20 ls []) := by
    intro hw hh n
    induction n with
    | zero =>
      intro k hk hres ls hl
      obtain rfl : k = 32 := by omega
      refine lv_iload hx hb dX1_first_20 (lv_at hl 0 rfl) ?_
      refine lv_bipush (v := 32) hx hb dX1_first_22 (by decide) ?_
      refine lv_icmp_ge (tgt := 51) hx hb dX1_first_24 (by decide) (fun c_1 => ?_) (fun c_1 => absurd (by decide) c_1)
      refine lv_iconst (v := -1) hx hb dX1_first_51 (by decide) ?_
      exact xr_i hx hb hr hlk dX1_first_52 hres
    | succ n ih =>
      intro k hk hres ls hl
      refine lv_iload hx hb dX1_first_20 (lv_at hl 0 rfl) ?_
      refine lv_bipush (v := 32) hx hb dX1_first_22 (by decide) ?_
      refine lv_icmp_ge (tgt := 51) hx hb dX1_first_24 (by decide) (fun c_2 => absurd c_2 (nI_ge (show k < 32 by omega) (by decide))) (fun c_2 => ?_)
      refine lv_aload_n hx hb dX1_first_27 rfl (lv_at hl 1 rfl) ?_
      refine lv_iload_n hx hb dX1_first_28 rfl (lv_at hl 2 rfl) ?_
      refine lv_iload_n hx hb dX1_first_29 rfl (lv_at hl 3 rfl) ?_
      refine lv_iload hx hb dX1_first_30 (lv_at hl 0 rfl) ?_
      refine lv_bipush (v := 32) hx hb dX1_first_32 (by decide) ?_
      refine xc_R (As := [.int w, .int h, .int (nI k), .int 32]) (rest := []) ⟨hx, hb, hml, hown, hts⟩ (c_X1_stands l D a cV cI cG v gg dn lt ch w h (nI k) 32 hw (vp_in_nI (show k < 33 by omega) (by decide)) (show vp_in (32) 33 by unfold vp_in; decide)) (cwV 4 hts gX1_first_X1_stands rfl rfl rfl (by decide +kernel) ⟨Nat.le_of_ble_eq_true rfl, Nat.le_of_ble_eq_true rfl⟩) xMv0 trivial hP hK (va_recv hK hP (ci := 1) (q0 := 0) rfl rfl) rfl hl.1 rfl (Nat.le_of_ble_eq_true rfl) dX1_first_34 ⟨Nat.zero_le _, Nat.zero_le _⟩ ?_
      refine lv_iload hx hb dX1_first_37 (lv_at hl 5 rfl) ?_
      refine lv_icmp_eq (tgt := 45) hx hb dX1_first_39 (by decide) (fun c_3 => ?_) (fun c_3 => ?_)
      · have c_3 : (stnF h (v (cn w) k) (v (cn w) 32) != nb) = false := by
          have q9 := b2i_eq c_3
          simpa [sdF, nI_cn (show k < 2 ^ 31 by omega), show cn 32 = 32 by decide] using q9
        refine lv_iinc (v := nI (k + 1)) (lv' := [(5, .int (nI (k + 1))), (0, .ref (a 0)), (1, .int w), (2, .int h), (3, .int x), (4, .int (b2i nb))]) hx hb dX1_first_45 hl (k := 0) rfl (nI_1 k) (by decide) rfl (fun ls hl => ?_)
        refine lv_goto (tgt := 20) hx hb dX1_first_48 (by decide) ?_
        refine ih (k + 1) (by omega) ?_ ls (lv_sub hl [0, 1, 2, 3, 4, 5] rfl)
        rw [← hres]; simp only [fsF, c_3]; simp
      · have c_3 : (stnF h (v (cn w) k) (v (cn w) 32) != nb) = true := by
          have q9 := b2i_ne c_3
          simpa [sdF, nI_cn (show k < 2 ^ 31 by omega), show cn 32 = 32 by decide] using q9
        refine lv_iload hx hb dX1_first_42 (lv_at hl 0 rfl) ?_
        exact xr_i hx hb hr hlk dX1_first_44 (by rw [← hres]; simp only [fsF, c_3]; simp)
  refine lv_iload_n hx hb dX1_first_0 rfl (lv_at hl 1 rfl) ?_
  refine lv_iload_n hx hb dX1_first_1 rfl (lv_at hl 2 rfl) ?_
  refine xc_T (As := [.int w, .int h]) (rest := []) ⟨hx, hb, hml, hown, hts⟩ (c_X1_isQuestion l w h) (va_cwS 2 hts gX1_first_X1_isQuestion rfl rfl rfl (by decide +kernel) ⟨Nat.le_of_ble_eq_true rfl, Nat.le_of_ble_eq_true rfl⟩) rfl hl.1 rfl (Nat.le_of_ble_eq_true rfl) dX1_first_2 ⟨Nat.zero_le _, Nat.zero_le _⟩ ?_
  refine lv_if_eq (tgt := 15) hx hb dX1_first_5 (by decide) (fun c_4 => ?_) (fun c_4 => ?_)
  · have c_4 := b2i_e c_4
    refine lv_iconst (v := -1) hx hb dX1_first_15 (by decide) ?_
    exact xr_i hx hb hr hlk dX1_first_16 (by simp [aFirs, c_4])
  · have c_4 := b2i_n c_4
    refine lv_iload_n hx hb dX1_first_8 rfl (lv_at hl 3 rfl) ?_
    refine xc_T (As := [.int x]) (rest := []) ⟨hx, hb, hml, hown, hts⟩ (c_X1_isString l x) (va_cwS 1 hts gX1_first_X1_isString rfl rfl rfl (by decide +kernel) ⟨Nat.le_of_ble_eq_true rfl, Nat.le_of_ble_eq_true rfl⟩) rfl hl.1 rfl (Nat.le_of_ble_eq_true rfl) dX1_first_9 ⟨Nat.zero_le _, Nat.zero_le _⟩ ?_
    refine lv_if_ne (tgt := 17) hx hb dX1_first_12 (by decide) (fun c_5 => ?_) (fun c_5 => ?_)
    · have c_5 := b2i_n c_5
      refine lv_iload_n hx hb dX1_first_17 rfl (lv_at hl 3 rfl) ?_
      refine lv_istore (lv' := [(5, .int x), (0, .ref (a 0)), (1, .int w), (2, .int h), (3, .int x), (4, .int (b2i nb))]) hx hb dX1_first_18 hl (by decide) rfl (fun ls hl => ?_)
      obtain ⟨j, hj, ej⟩ := vp_in_of (isS_in c_5) (by decide)
      have hcj : cn x = j := by rw [ej]; exact nI_cn (by omega)
      refine loop (isQ_w c_4) (isQ_h c_4) (32 - j) j (by omega) ?_ ls ?_
      · simp [aFirs, hcj, c_4, c_5]
      · rw [← ej]; exact lv_sub hl [0, 1, 2, 3, 4, 5] rfl
    · have c_5 := b2i_e c_5
      refine lv_iconst (v := -1) hx hb dX1_first_15 (by decide) ?_
      exact xr_i hx hb hr hlk dX1_first_16 (by simp [aFirs, c_4, c_5])
set_option maxHeartbeats 4000000 in
set_option maxRecDepth 100000 in
theorem c_X1_best (l : Launch) (D : va_G) (a : Nat → Nat) (cV cI cG : ClassId) (v : Nat → Nat → Int32) (gg : Nat → Option Nat) (dn lt ch : Int32) (w h : Int32) (nb : Bool) : Met l yX1_best wsX1_best ({ frames := 3, cells := 0, slots := 0, locals := 68 }) (xR D vwCl (cb a cV cI cG v gg dn lt ch) (cT cV cI cG) xB0 [.ref (a 0), .int w, .int h, .int (b2i nb)]) (QcRead (aBest v w h nb)) 0 0 (fun _ => False) := by
  refine xr_in (cc := cX1_best) (maxL := 6) (ret := (some .int)) (by decide) rfl (Nat.le_of_ble_eq_true rfl) ?_
  intro p e s m below meth c ls hx hb hr hml hts hown hlk hP hK hB hl
  have hown : s.vm.findClass RX1 = some m.cls := hown
  have hl : lv_has ls 6 [(0, .ref (a 0)), (1, .int w), (2, .int h), (3, .int (b2i nb))] := hl
  have hiF : ∀ w ∈ wsX10, w ∈ wsX1_best := by decide +kernel
  have loop : vp_in w 2 → isHb h = true → ∀ (n k f : Nat), k + n = 32 → f < 32 → nI (bsF v (cn w) h nb n k f) = aBest v w h nb → ∀ ls : Array Slot, lv_has ls 6 [(5, .int (nI k)), (4, .int (nI f)), (0, .ref (a 0)), (1, .int w), (2, .int h), (3, .int (b2i nb))] → W p l e ({ frames := 3, cells := 0, slots := 0, locals := 68 }) s m ([.ref (a 0), .int w, .int h, .int (b2i nb)] : List Value).toArray below meth c s.heap [] 0 0 (MQ below (QcRead (aBest v w h nb)) ([.ref (a 0), .int w, .int h, .int (b2i nb)] : List Value).toArray s 0 0 (fun _ => False)) (F0 m 16 ls []) := by
    intro hw hh n
    induction n with
    | zero =>
      intro k f hk hf hres ls hl
      obtain rfl : k = 32 := by omega
      refine lv_iload hx hb dX1_best_16 (lv_at hl 0 rfl) ?_
      refine lv_bipush (v := 32) hx hb dX1_best_18 (by decide) ?_
      refine lv_icmp_ge (tgt := 47) hx hb dX1_best_20 (by decide) (fun c_1 => ?_) (fun c_1 => absurd (by decide) c_1)
      refine lv_iload hx hb dX1_best_47 (lv_at hl 1 rfl) ?_
      exact xr_i hx hb hr hlk dX1_best_49 hres
    | succ n ih =>
      intro k f hk hf hres ls hl
      refine lv_iload hx hb dX1_best_16 (lv_at hl 0 rfl) ?_
      refine lv_bipush (v := 32) hx hb dX1_best_18 (by decide) ?_
      refine lv_icmp_ge (tgt := 47) hx hb dX1_best_20 (by decide) (fun c_2 => absurd c_2 (nI_ge (show k < 32 by omega) (by decide))) (fun c_2 => ?_)
      refine lv_aload_n hx hb dX1_best_23 rfl (lv_at hl 2 rfl) ?_
      refine lv_iload_n hx hb dX1_best_24 rfl (lv_at hl 3 rfl) ?_
      refine lv_iload_n hx hb dX1_best_25 rfl (lv_at hl 4 rfl) ?_
      refine lv_iload hx hb dX1_best_26 (lv_at hl 0 rfl) ?_
      refine lv_iload hx hb dX1_best_28 (lv_at hl 1 rfl) ?_
      refine xc_R (As := [.int w, .int h, .int (nI k), .int (nI f)]) (rest := []) ⟨hx, hb, hml, hown, hts⟩ (c_X1_stands l D a cV cI cG v gg dn lt ch w h (nI k) (nI f) hw (vp_in_nI (show k < 33 by omega) (by decide)) (vp_in_nI (show f < 33 by omega) (by decide))) (cwV 4 hts gX1_best_X1_stands rfl rfl rfl (by decide +kernel) ⟨Nat.le_of_ble_eq_true rfl, Nat.le_of_ble_eq_true rfl⟩) xMv0 trivial hP hK (va_recv hK hP (ci := 1) (q0 := 0) rfl rfl) rfl hl.1 rfl (Nat.le_of_ble_eq_true rfl) dX1_best_30 ⟨Nat.zero_le _, Nat.zero_le _⟩ ?_
      refine lv_iload_n hx hb dX1_best_33 rfl (lv_at hl 5 rfl) ?_
      refine lv_icmp_eq (tgt := 41) hx hb dX1_best_34 (by decide) (fun c_3 => ?_) (fun c_3 => ?_)
      · have c_3 : (stnF h (v (cn w) k) (v (cn w) f) != nb) = false := by
          have q9 := b2i_eq c_3
          simpa [sdF, nI_cn (show k < 2 ^ 31 by omega), nI_cn (show f < 2 ^ 31 by omega)] using q9
        refine lv_iinc (v := nI (k + 1)) (lv' := [(5, .int (nI (k + 1))), (4, .int (nI f)), (0, .ref (a 0)), (1, .int w), (2, .int h), (3, .int (b2i nb))]) hx hb dX1_best_41 hl (k := 0) rfl (nI_1 k) (by decide) rfl (fun ls hl => ?_)
        refine lv_goto (tgt := 16) hx hb dX1_best_44 (by decide) ?_
        refine ih (k + 1) f (by omega) (by omega) ?_ ls (lv_sub hl [0, 1, 2, 3, 4, 5] rfl)
        rw [← hres]; simp only [bsF, c_3]; simp
      · have c_3 : (stnF h (v (cn w) k) (v (cn w) f) != nb) = true := by
          have q9 := b2i_ne c_3
          simpa [sdF, nI_cn (show k < 2 ^ 31 by omega), nI_cn (show f < 2 ^ 31 by omega)] using q9
        refine lv_iload hx hb dX1_best_37 (lv_at hl 0 rfl) ?_
        refine lv_istore (lv' := [(4, .int (nI k)), (5, .int (nI k)), (0, .ref (a 0)), (1, .int w), (2, .int h), (3, .int (b2i nb))]) hx hb dX1_best_39 hl (by decide) rfl (fun ls hl => ?_)
        refine lv_iinc (v := nI (k + 1)) (lv' := [(5, .int (nI (k + 1))), (4, .int (nI k)), (0, .ref (a 0)), (1, .int w), (2, .int h), (3, .int (b2i nb))]) hx hb dX1_best_41 hl (k := 1) rfl (nI_1 k) (by decide) rfl (fun ls hl => ?_)
        refine lv_goto (tgt := 16) hx hb dX1_best_44 (by decide) ?_
        refine ih (k + 1) k (by omega) (by omega) ?_ ls (lv_sub hl [0, 1, 2, 3, 4, 5] rfl)
        rw [← hres]; simp only [bsF, c_3]; simp
  refine lv_iload_n hx hb dX1_best_0 rfl (lv_at hl 1 rfl) ?_
  refine lv_iload_n hx hb dX1_best_1 rfl (lv_at hl 2 rfl) ?_
  refine xc_T (As := [.int w, .int h]) (rest := []) ⟨hx, hb, hml, hown, hts⟩ (c_X1_isQuestion l w h) (va_cwS 2 hts gX1_best_X1_isQuestion rfl rfl rfl (by decide +kernel) ⟨Nat.le_of_ble_eq_true rfl, Nat.le_of_ble_eq_true rfl⟩) rfl hl.1 rfl (Nat.le_of_ble_eq_true rfl) dX1_best_2 ⟨Nat.zero_le _, Nat.zero_le _⟩ ?_
  refine lv_if_ne (tgt := 10) hx hb dX1_best_5 (by decide) (fun c_4 => ?_) (fun c_4 => ?_)
  · have c_4 := b2i_n c_4
    refine lv_iconst (v := 0) hx hb dX1_best_10 (by decide) ?_
    refine lv_istore (lv' := [(4, .int 0), (0, .ref (a 0)), (1, .int w), (2, .int h), (3, .int (b2i nb))]) hx hb dX1_best_11 hl (by decide) rfl (fun ls hl => ?_)
    refine lv_iconst (v := 1) hx hb dX1_best_13 (by decide) ?_
    refine lv_istore (lv' := [(5, .int 1), (4, .int 0), (0, .ref (a 0)), (1, .int w), (2, .int h), (3, .int (b2i nb))]) hx hb dX1_best_14 hl (by decide) rfl (fun ls hl => ?_)
    refine loop (isQ_w c_4) (isQ_h c_4) 31 1 0 (by omega) (by omega) ?_ ls (lv_sub hl [0, 1, 2, 3, 4, 5] rfl)
    simp [aBest, c_4]
  · have c_4 := b2i_e c_4
    refine lv_iconst (v := -1) hx hb dX1_best_8 (by decide) ?_
    exact xr_i hx hb hr hlk dX1_best_9 (by simp [aBest, c_4])
end
section
/-! the class: within, changeWithNext, pass, strike -/
set_option maxHeartbeats 4000000 in
set_option maxRecDepth 100000 in
theorem c_X1_within (l : Launch) (D : va_G) (a : Nat → Nat) (cV cI cG : ClassId) (v : Nat → Nat → Int32) (gg : Nat → Option Nat) (dn lt ch : Int32) (w x y z : Int32) : Met l yX1_within wsX1_within ({ frames := 3, cells := 0, slots := 0, locals := 68 }) (xR D vwCl (cb a cV cI cG v gg dn lt ch) (cT cV cI cG) xB0 [.ref (a 0), .int w, .int x, .int y, .int z]) (QcRead (aWith v w x y z)) 0 0 (fun _ => False) := by
  refine xr_in (cc := cX1_within) (maxL := 6) (ret := (some .int)) (by decide) rfl (Nat.le_of_ble_eq_true rfl) ?_
  intro p e s m below meth c ls hx hb hr hml hts hown hlk hP hK hB hl
  have hown : s.vm.findClass RX1 = some m.cls := hown
  have hl : lv_has ls 6 [(0, .ref (a 0)), (1, .int w), (2, .int x), (3, .int y), (4, .int z)] := hl
  have hiF : ∀ w ∈ wsX10, w ∈ wsX1_within := by decide +kernel
  have J0 : isWb w = true → isSb x = true → isFb y = true → isFb z = true → ∀ (u : Int32), u = aWith v w x y z → ∀ ls : Array Slot, lv_has ls 6 [(5, .int u), (0, .ref (a 0)), (1, .int w), (2, .int x), (3, .int y), (4, .int z)] → W p l e ({ frames := 3, cells := 0, slots := 0, locals := 68 }) s m ([.ref (a 0), .int w, .int x, .int y, .int z] : List Value).toArray below meth c s.heap [] 0 0 (MQ below (QcRead (aWith v w x y z)) ([.ref (a 0), .int w, .int x, .int y, .int z] : List Value).toArray s 0 0 (fun _ => False)) (F0 m 126 ls []) := by
    intro hw0 hx0 hy0 hz0 u hres ls hl
    refine lv_iload hx hb dX1_within_126 (lv_at hl 0 rfl) ?_
    exact xr_i hx hb hr hlk dX1_within_128 hres
  have J1 : isWb w = true → isSb x = true → isFb y = true → isFb z = true → ∀ (u : Int32), u + w4F v w x = aWith v w x y z → ∀ ls : Array Slot, lv_has ls 6 [(5, .int u), (0, .ref (a 0)), (1, .int w), (2, .int x), (3, .int y), (4, .int z)] → W p l e ({ frames := 3, cells := 0, slots := 0, locals := 68 }) s m ([.ref (a 0), .int w, .int x, .int y, .int z] : List Value).toArray below meth c s.heap [] 0 0 (MQ below (QcRead (aWith v w x y z)) ([.ref (a 0), .int w, .int x, .int y, .int z] : List Value).toArray s 0 0 (fun _ => False)) (F0 m 112 ls []) := by
    intro hw0 hx0 hy0 hz0 u hres ls hl
    refine lv_aload_n hx hb dX1_within_112 rfl (lv_at hl 1 rfl) ?_
    refine lv_iload_n hx hb dX1_within_113 rfl (lv_at hl 2 rfl) ?_
    refine lv_iconst (v := 5) hx hb dX1_within_114 (by decide) ?_
    refine lv_iload_n hx hb dX1_within_115 rfl (lv_at hl 3 rfl) ?_
    refine lv_iload_n hx hb dX1_within_116 rfl (lv_at hl 3 rfl) ?_
    refine xc_R (As := [.int w, .int 5, .int x, .int x]) (rest := []) ⟨hx, hb, hml, hown, hts⟩ (c_X1_stands l D a cV cI cG v gg dn lt ch w 5 x x (isW_in hw0) (isF_in (isS_F hx0)) (isF_in (isS_F hx0))) (cwV 4 hts gX1_within_X1_stands rfl rfl rfl (by decide +kernel) ⟨Nat.le_of_ble_eq_true rfl, Nat.le_of_ble_eq_true rfl⟩) xMv0 trivial hP hK (va_recv hK hP (ci := 1) (q0 := 0) rfl rfl) rfl hl.1 rfl (Nat.le_of_ble_eq_true rfl) dX1_within_117 ⟨Nat.zero_le _, Nat.zero_le _⟩ ?_
    refine lv_if_eq (tgt := 126) hx hb dX1_within_120 (by decide) (fun c_1 => ?_) (fun c_1 => ?_)
    · have c_1 := b2i_e c_1
      rw [sd5_self] at c_1; simp at c_1
      refine J0 hw0 hx0 hy0 hz0 _ ?_ ls (lv_sub hl [0, 1, 2, 3, 4, 5] rfl)
      rw [← hres]; simp [w4F, c_1]
    · have c_1 := b2i_n c_1
      rw [sd5_self] at c_1; simp at c_1
      refine lv_iinc (v := u + 8) (lv' := [(5, .int (u + 8)), (0, .ref (a 0)), (1, .int w), (2, .int x), (3, .int y), (4, .int z)]) hx hb dX1_within_123 hl (k := 0) rfl (rfl) (by decide) rfl (fun ls hl => ?_)
      refine J0 hw0 hx0 hy0 hz0 _ ?_ ls (lv_sub hl [0, 1, 2, 3, 4, 5] rfl)
      rw [← hres]; simp [w4F, c_1]
  have J2 : isWb w = true → isSb x = true → isFb y = true → isFb z = true → ∀ (u : Int32), (u + w3F v w x y z) + w4F v w x = aWith v w x y z → ∀ ls : Array Slot, lv_has ls 6 [(5, .int u), (0, .ref (a 0)), (1, .int w), (2, .int x), (3, .int y), (4, .int z)] → W p l e ({ frames := 3, cells := 0, slots := 0, locals := 68 }) s m ([.ref (a 0), .int w, .int x, .int y, .int z] : List Value).toArray below meth c s.heap [] 0 0 (MQ below (QcRead (aWith v w x y z)) ([.ref (a 0), .int w, .int x, .int y, .int z] : List Value).toArray s 0 0 (fun _ => False)) (F0 m 86 ls []) := by
    intro hw0 hx0 hy0 hz0 u hres ls hl
    refine lv_aload_n hx hb dX1_within_86 rfl (lv_at hl 1 rfl) ?_
    refine lv_iload_n hx hb dX1_within_87 rfl (lv_at hl 2 rfl) ?_
    refine lv_iconst (v := 0) hx hb dX1_within_88 (by decide) ?_
    refine lv_iload_n hx hb dX1_within_89 rfl (lv_at hl 3 rfl) ?_
    refine lv_iload_n hx hb dX1_within_90 rfl (lv_at hl 4 rfl) ?_
    refine xc_R (As := [.int w, .int 0, .int x, .int y]) (rest := []) ⟨hx, hb, hml, hown, hts⟩ (c_X1_stands l D a cV cI cG v gg dn lt ch w 0 x y (isW_in hw0) (isF_in (isS_F hx0)) (isF_in hy0)) (cwV 4 hts gX1_within_X1_stands rfl rfl rfl (by decide +kernel) ⟨Nat.le_of_ble_eq_true rfl, Nat.le_of_ble_eq_true rfl⟩) xMv0 trivial hP hK (va_recv hK hP (ci := 1) (q0 := 0) rfl rfl) rfl hl.1 rfl (Nat.le_of_ble_eq_true rfl) dX1_within_91 ⟨Nat.zero_le _, Nat.zero_le _⟩ ?_
    refine lv_if_ne (tgt := 109) hx hb dX1_within_94 (by decide) (fun c_2 => ?_) (fun c_2 => ?_)
    · have c_2 := b2i_n c_2
      refine lv_iinc (v := u + 4) (lv' := [(5, .int (u + 4)), (0, .ref (a 0)), (1, .int w), (2, .int x), (3, .int y), (4, .int z)]) hx hb dX1_within_109 hl (k := 0) rfl (rfl) (by decide) rfl (fun ls hl => ?_)
      refine J1 hw0 hx0 hy0 hz0 _ ?_ ls (lv_sub hl [0, 1, 2, 3, 4, 5] rfl)
      rw [← hres]; simp [w3F, c_2]
    · have c_2 := b2i_e c_2
      refine lv_aload_n hx hb dX1_within_97 rfl (lv_at hl 1 rfl) ?_
      refine lv_iload_n hx hb dX1_within_98 rfl (lv_at hl 2 rfl) ?_
      refine lv_iconst (v := 2) hx hb dX1_within_99 (by decide) ?_
      refine lv_iload_n hx hb dX1_within_100 rfl (lv_at hl 3 rfl) ?_
      refine lv_iload hx hb dX1_within_101 (lv_at hl 5 rfl) ?_
      refine xc_R (As := [.int w, .int 2, .int x, .int z]) (rest := []) ⟨hx, hb, hml, hown, hts⟩ (c_X1_stands l D a cV cI cG v gg dn lt ch w 2 x z (isW_in hw0) (isF_in (isS_F hx0)) (isF_in hz0)) (cwV 4 hts gX1_within_X1_stands rfl rfl rfl (by decide +kernel) ⟨Nat.le_of_ble_eq_true rfl, Nat.le_of_ble_eq_true rfl⟩) xMv0 trivial hP hK (va_recv hK hP (ci := 1) (q0 := 0) rfl rfl) rfl hl.1 rfl (Nat.le_of_ble_eq_true rfl) dX1_within_103 ⟨Nat.zero_le _, Nat.zero_le _⟩ ?_
      refine lv_if_eq (tgt := 112) hx hb dX1_within_106 (by decide) (fun c_3 => ?_) (fun c_3 => ?_)
      · have c_3 := b2i_e c_3
        refine J1 hw0 hx0 hy0 hz0 _ ?_ ls (lv_sub hl [0, 1, 2, 3, 4, 5] rfl)
        rw [← hres]; simp [w3F, c_2, c_3]
      · have c_3 := b2i_n c_3
        refine lv_iinc (v := u + 4) (lv' := [(5, .int (u + 4)), (0, .ref (a 0)), (1, .int w), (2, .int x), (3, .int y), (4, .int z)]) hx hb dX1_within_109 hl (k := 0) rfl (rfl) (by decide) rfl (fun ls hl => ?_)
        refine J1 hw0 hx0 hy0 hz0 _ ?_ ls (lv_sub hl [0, 1, 2, 3, 4, 5] rfl)
        rw [← hres]; simp [w3F, c_2, c_3]
  have J3 : isWb w = true → isSb x = true → isFb y = true → isFb z = true → ∀ (u : Int32), ((u + w2F v w x y z) + w3F v w x y z) + w4F v w x = aWith v w x y z → ∀ ls : Array Slot, lv_has ls 6 [(5, .int u), (0, .ref (a 0)), (1, .int w), (2, .int x), (3, .int y), (4, .int z)] → W p l e ({ frames := 3, cells := 0, slots := 0, locals := 68 }) s m ([.ref (a 0), .int w, .int x, .int y, .int z] : List Value).toArray below meth c s.heap [] 0 0 (MQ below (QcRead (aWith v w x y z)) ([.ref (a 0), .int w, .int x, .int y, .int z] : List Value).toArray s 0 0 (fun _ => False)) (F0 m 60 ls []) := by
    intro hw0 hx0 hy0 hz0 u hres ls hl
    refine lv_aload_n hx hb dX1_within_60 rfl (lv_at hl 1 rfl) ?_
    refine lv_iload_n hx hb dX1_within_61 rfl (lv_at hl 2 rfl) ?_
    refine lv_iconst (v := 0) hx hb dX1_within_62 (by decide) ?_
    refine lv_iload_n hx hb dX1_within_63 rfl (lv_at hl 3 rfl) ?_
    refine lv_iload_n hx hb dX1_within_64 rfl (lv_at hl 4 rfl) ?_
    refine xc_R (As := [.int w, .int 0, .int x, .int y]) (rest := []) ⟨hx, hb, hml, hown, hts⟩ (c_X1_stands l D a cV cI cG v gg dn lt ch w 0 x y (isW_in hw0) (isF_in (isS_F hx0)) (isF_in hy0)) (cwV 4 hts gX1_within_X1_stands rfl rfl rfl (by decide +kernel) ⟨Nat.le_of_ble_eq_true rfl, Nat.le_of_ble_eq_true rfl⟩) xMv0 trivial hP hK (va_recv hK hP (ci := 1) (q0 := 0) rfl rfl) rfl hl.1 rfl (Nat.le_of_ble_eq_true rfl) dX1_within_65 ⟨Nat.zero_le _, Nat.zero_le _⟩ ?_
    refine lv_if_ne (tgt := 86) hx hb dX1_within_68 (by decide) (fun c_4 => ?_) (fun c_4 => ?_)
    · have c_4 := b2i_n c_4
      refine J2 hw0 hx0 hy0 hz0 _ ?_ ls (lv_sub hl [0, 1, 2, 3, 4, 5] rfl)
      rw [← hres]; simp [w2F, c_4]
    · have c_4 := b2i_e c_4
      refine lv_aload_n hx hb dX1_within_71 rfl (lv_at hl 1 rfl) ?_
      refine lv_iload_n hx hb dX1_within_72 rfl (lv_at hl 2 rfl) ?_
      refine lv_iconst (v := 2) hx hb dX1_within_73 (by decide) ?_
      refine lv_iload_n hx hb dX1_within_74 rfl (lv_at hl 3 rfl) ?_
      refine lv_iload hx hb dX1_within_75 (lv_at hl 5 rfl) ?_
      refine xc_R (As := [.int w, .int 2, .int x, .int z]) (rest := []) ⟨hx, hb, hml, hown, hts⟩ (c_X1_stands l D a cV cI cG v gg dn lt ch w 2 x z (isW_in hw0) (isF_in (isS_F hx0)) (isF_in hz0)) (cwV 4 hts gX1_within_X1_stands rfl rfl rfl (by decide +kernel) ⟨Nat.le_of_ble_eq_true rfl, Nat.le_of_ble_eq_true rfl⟩) xMv0 trivial hP hK (va_recv hK hP (ci := 1) (q0 := 0) rfl rfl) rfl hl.1 rfl (Nat.le_of_ble_eq_true rfl) dX1_within_77 ⟨Nat.zero_le _, Nat.zero_le _⟩ ?_
      refine lv_if_ne (tgt := 86) hx hb dX1_within_80 (by decide) (fun c_5 => ?_) (fun c_5 => ?_)
      · have c_5 := b2i_n c_5
        refine J2 hw0 hx0 hy0 hz0 _ ?_ ls (lv_sub hl [0, 1, 2, 3, 4, 5] rfl)
        rw [← hres]; simp [w2F, c_4, c_5]
      · have c_5 := b2i_e c_5
        refine lv_iinc (v := u + 2) (lv' := [(5, .int (u + 2)), (0, .ref (a 0)), (1, .int w), (2, .int x), (3, .int y), (4, .int z)]) hx hb dX1_within_83 hl (k := 0) rfl (rfl) (by decide) rfl (fun ls hl => ?_)
        refine J2 hw0 hx0 hy0 hz0 _ ?_ ls (lv_sub hl [0, 1, 2, 3, 4, 5] rfl)
        rw [← hres]; simp [w2F, c_4, c_5]
  refine lv_iload_n hx hb dX1_within_0 rfl (lv_at hl 1 rfl) ?_
  refine xc_T (As := [.int w]) (rest := []) ⟨hx, hb, hml, hown, hts⟩ (c_X1_isWhat l w) (va_cwS 1 hts gX1_within_X1_isWhat rfl rfl rfl (by decide +kernel) ⟨Nat.le_of_ble_eq_true rfl, Nat.le_of_ble_eq_true rfl⟩) rfl hl.1 rfl (Nat.le_of_ble_eq_true rfl) dX1_within_1 ⟨Nat.zero_le _, Nat.zero_le _⟩ ?_
  refine lv_if_eq (tgt := 29) hx hb dX1_within_4 (by decide) (fun c_6 => ?_) (fun c_6 => ?_)
  · have c_6 := b2i_e c_6
    refine lv_iconst (v := -1) hx hb dX1_within_29 (by decide) ?_
    exact xr_i hx hb hr hlk dX1_within_30 (by simp [aWith, wB, c_6])
  · have c_6 := b2i_n c_6
    refine lv_iload_n hx hb dX1_within_7 rfl (lv_at hl 2 rfl) ?_
    refine xc_T (As := [.int x]) (rest := []) ⟨hx, hb, hml, hown, hts⟩ (c_X1_isString l x) (va_cwS 1 hts gX1_within_X1_isString rfl rfl rfl (by decide +kernel) ⟨Nat.le_of_ble_eq_true rfl, Nat.le_of_ble_eq_true rfl⟩) rfl hl.1 rfl (Nat.le_of_ble_eq_true rfl) dX1_within_8 ⟨Nat.zero_le _, Nat.zero_le _⟩ ?_
    refine lv_if_eq (tgt := 29) hx hb dX1_within_11 (by decide) (fun c_7 => ?_) (fun c_7 => ?_)
    · have c_7 := b2i_e c_7
      refine lv_iconst (v := -1) hx hb dX1_within_29 (by decide) ?_
      exact xr_i hx hb hr hlk dX1_within_30 (by simp [aWith, wB, c_6, c_7])
    · have c_7 := b2i_n c_7
      refine lv_iload_n hx hb dX1_within_14 rfl (lv_at hl 3 rfl) ?_
      refine xc_T (As := [.int y]) (rest := []) ⟨hx, hb, hml, hown, hts⟩ (c_X1_isStringOrFork l y) (va_cwS 1 hts gX1_within_X1_isStringOrFork rfl rfl rfl (by decide +kernel) ⟨Nat.le_of_ble_eq_true rfl, Nat.le_of_ble_eq_true rfl⟩) rfl hl.1 rfl (Nat.le_of_ble_eq_true rfl) dX1_within_15 ⟨Nat.zero_le _, Nat.zero_le _⟩ ?_
      refine lv_if_eq (tgt := 29) hx hb dX1_within_18 (by decide) (fun c_8 => ?_) (fun c_8 => ?_)
      · have c_8 := b2i_e c_8
        refine lv_iconst (v := -1) hx hb dX1_within_29 (by decide) ?_
        exact xr_i hx hb hr hlk dX1_within_30 (by simp [aWith, wB, c_6, c_7, c_8])
      · have c_8 := b2i_n c_8
        refine lv_iload hx hb dX1_within_21 (lv_at hl 4 rfl) ?_
        refine xc_T (As := [.int z]) (rest := []) ⟨hx, hb, hml, hown, hts⟩ (c_X1_isStringOrFork l z) (va_cwS 1 hts gX1_within_X1_isStringOrFork rfl rfl rfl (by decide +kernel) ⟨Nat.le_of_ble_eq_true rfl, Nat.le_of_ble_eq_true rfl⟩) rfl hl.1 rfl (Nat.le_of_ble_eq_true rfl) dX1_within_23 ⟨Nat.zero_le _, Nat.zero_le _⟩ ?_
        refine lv_if_ne (tgt := 31) hx hb dX1_within_26 (by decide) (fun c_9 => ?_) (fun c_9 => ?_)
        · have c_9 := b2i_n c_9
          refine lv_iconst (v := 0) hx hb dX1_within_31 (by decide) ?_
          refine lv_istore (lv' := [(5, .int 0), (0, .ref (a 0)), (1, .int w), (2, .int x), (3, .int y), (4, .int z)]) hx hb dX1_within_32 hl (by decide) rfl (fun ls hl => ?_)
          refine lv_aload_n hx hb dX1_within_34 rfl (lv_at hl 1 rfl) ?_
          refine lv_iload_n hx hb dX1_within_35 rfl (lv_at hl 2 rfl) ?_
          refine lv_iconst (v := 3) hx hb dX1_within_36 (by decide) ?_
          refine lv_iload_n hx hb dX1_within_37 rfl (lv_at hl 3 rfl) ?_
          refine lv_iload_n hx hb dX1_within_38 rfl (lv_at hl 4 rfl) ?_
          refine xc_R (As := [.int w, .int 3, .int x, .int y]) (rest := []) ⟨hx, hb, hml, hown, hts⟩ (c_X1_stands l D a cV cI cG v gg dn lt ch w 3 x y (isW_in c_6) (isF_in (isS_F c_7)) (isF_in c_8)) (cwV 4 hts gX1_within_X1_stands rfl rfl rfl (by decide +kernel) ⟨Nat.le_of_ble_eq_true rfl, Nat.le_of_ble_eq_true rfl⟩) xMv0 trivial hP hK (va_recv hK hP (ci := 1) (q0 := 0) rfl rfl) rfl hl.1 rfl (Nat.le_of_ble_eq_true rfl) dX1_within_39 ⟨Nat.zero_le _, Nat.zero_le _⟩ ?_
          refine lv_if_eq (tgt := 60) hx hb dX1_within_42 (by decide) (fun c_10 => ?_) (fun c_10 => ?_)
          · have c_10 := b2i_e c_10
            refine J3 c_6 c_7 c_8 c_9 _ ?_ ls (lv_sub hl [0, 1, 2, 3, 4, 5] rfl)
            simp [aWith, wB, w1F, c_6, c_7, c_8, c_9, c_10]
          · have c_10 := b2i_n c_10
            refine lv_aload_n hx hb dX1_within_45 rfl (lv_at hl 1 rfl) ?_
            refine lv_iload_n hx hb dX1_within_46 rfl (lv_at hl 2 rfl) ?_
            refine lv_iconst (v := 1) hx hb dX1_within_47 (by decide) ?_
            refine lv_iload_n hx hb dX1_within_48 rfl (lv_at hl 3 rfl) ?_
            refine lv_iload hx hb dX1_within_49 (lv_at hl 5 rfl) ?_
            refine xc_R (As := [.int w, .int 1, .int x, .int z]) (rest := []) ⟨hx, hb, hml, hown, hts⟩ (c_X1_stands l D a cV cI cG v gg dn lt ch w 1 x z (isW_in c_6) (isF_in (isS_F c_7)) (isF_in c_9)) (cwV 4 hts gX1_within_X1_stands rfl rfl rfl (by decide +kernel) ⟨Nat.le_of_ble_eq_true rfl, Nat.le_of_ble_eq_true rfl⟩) xMv0 trivial hP hK (va_recv hK hP (ci := 1) (q0 := 0) rfl rfl) rfl hl.1 rfl (Nat.le_of_ble_eq_true rfl) dX1_within_51 ⟨Nat.zero_le _, Nat.zero_le _⟩ ?_
            refine lv_if_eq (tgt := 60) hx hb dX1_within_54 (by decide) (fun c_11 => ?_) (fun c_11 => ?_)
            · have c_11 := b2i_e c_11
              refine J3 c_6 c_7 c_8 c_9 _ ?_ ls (lv_sub hl [0, 1, 2, 3, 4, 5] rfl)
              simp [aWith, wB, w1F, c_6, c_7, c_8, c_9, c_10, c_11]
            · have c_11 := b2i_n c_11
              refine lv_iinc (v := 0 + 1) (lv' := [(5, .int (0 + 1)), (0, .ref (a 0)), (1, .int w), (2, .int x), (3, .int y), (4, .int z)]) hx hb dX1_within_57 hl (k := 0) rfl (rfl) (by decide) rfl (fun ls hl => ?_)
              refine J3 c_6 c_7 c_8 c_9 _ ?_ ls (lv_sub hl [0, 1, 2, 3, 4, 5] rfl)
              simp [aWith, wB, w1F, c_6, c_7, c_8, c_9, c_10, c_11]
        · have c_9 := b2i_e c_9
          refine lv_iconst (v := -1) hx hb dX1_within_29 (by decide) ?_
          exact xr_i hx hb hr hlk dX1_within_30 (by simp [aWith, wB, c_6, c_7, c_8, c_9])
set_option maxHeartbeats 4000000 in
set_option maxRecDepth 100000 in
theorem c_X1_changeWithNext (l : Launch) (D : va_G) (a : Nat → Nat) (cV cI cG : ClassId) (v : Nat → Nat → Int32) (gg : Nat → Option Nat) (dn lt ch : Int32) (sz : Nat) (w : Int32) (k : Nat) (hw : vp_in w 2) (hk : k < 31) : Met l yX1_changeWithNext wsX1_changeWithNext ({ frames := 0, cells := 0, slots := 0, locals := 0 }) (xW D vwCl (cb a cV cI cG v gg dn lt ch) (cT cV cI cG) xB0 sz [.ref (a 0), .int w, .int (nI k)]) (xQv (S := Unit) D vwCl (fun _ => True) (fun _ => cb a cV cI cG (swp v (cn w) k) gg dn lt ch) (fun _ => cT cV cI cG) (va_A (cb a cV cI cG v gg dn lt ch) sz)) 0 0 (va_A (cb a cV cI cG v gg dn lt ch) sz) := by
  refine xw_in (Qf := xQv (S := Unit) D vwCl (fun _ => True) (fun _ => cb a cV cI cG (swp v (cn w) k) gg dn lt ch) (fun _ => cT cV cI cG)) (cc := cX1_changeWithNext) (maxL := 5) (ret := none) (by decide) rfl (Nat.le_of_ble_eq_true rfl) ?_
  intro p e s m below meth c ls A hx hb hr hml hts hown hlk hnm hA hP hK hD hS hB hl
  have hown : s.vm.findClass RX1 = some m.cls := hown
  have hl : lv_has ls 5 [(0, .ref (a 0)), (1, .int w), (2, .int (nI k))] := hl
  have hiF : ∀ w ∈ wsX10, w ∈ wsX1_changeWithNext := by decide +kernel
  refine lv_aload_n hx hb dX1_changeWithNext_0 rfl (lv_at hl 0 rfl) ?_
  refine va_get (D := D) (ci := 1) (v := .ref (a 1)) (C := RX1) (T := TX1) (N := 5) hx hb hts hiF hown hK hP 0 rfl rfl 0 (by decide) (hts (.fieldLink RX1 11 "TunerBench" "values" "[[I") (by decide +kernel)) (fun _ h9 => h9) rfl dX1_changeWithNext_1 ?_
  refine lv_iload_n hx hb dX1_changeWithNext_4 rfl (lv_at hl 1 rfl) ?_
  refine xa_ald (D := D) hx hb hK hP 1 0 rfl rfl hw dX1_changeWithNext_5 ?_
  refine lv_astore_n (lv' := [(3, .ref (a (2 + cn w))), (0, .ref (a 0)), (1, .int w), (2, .int (nI k))]) hx hb dX1_changeWithNext_6 rfl hl (by decide) rfl (fun ls hl => ?_)
  refine lv_aload_n hx hb dX1_changeWithNext_7 rfl (lv_at hl 0 rfl) ?_
  refine lv_iload_n hx hb dX1_changeWithNext_8 rfl (lv_at hl 3 rfl) ?_
  refine va_iald (D := D) hx hb hK hP (2 + cn w) 1 (cb_row (vp_lt hw)) rfl (vp_in_nI (show k < 33 by omega) (by decide)) dX1_changeWithNext_9 ?_
  refine lv_istore (lv' := [(4, .int (v (cn w) (cn (nI k)))), (3, .ref (a (2 + cn w))), (0, .ref (a 0)), (1, .int w), (2, .int (nI k))]) hx hb dX1_changeWithNext_10 hl (by decide) rfl (fun ls hl => ?_)
  refine lv_aload_n hx hb dX1_changeWithNext_12 rfl (lv_at hl 1 rfl) ?_
  refine lv_iload_n hx hb dX1_changeWithNext_13 rfl (lv_at hl 4 rfl) ?_
  refine lv_aload_n hx hb dX1_changeWithNext_14 rfl (lv_at hl 1 rfl) ?_
  refine lv_iload_n hx hb dX1_changeWithNext_15 rfl (lv_at hl 4 rfl) ?_
  refine lv_iconst (v := 1) hx hb dX1_changeWithNext_16 (by decide) ?_
  refine lv_iadd hx hb dX1_changeWithNext_17 ?_
  rw [nI_1 k]
  refine va_iald (D := D) hx hb hK hP (2 + cn w) 1 (cb_row (vp_lt hw)) rfl (vp_in_nI (show k + 1 < 33 by omega) (by decide)) dX1_changeWithNext_18 ?_
  refine va_iast (D := D) hx hb hK hP hD hS (2 + cn w) 1 (cb_row (vp_lt hw)) rfl (vp_in_nI (show k < 33 by omega) (by decide)) dX1_changeWithNext_19 (fun H locs hP hD hS => ?_)
  rw [cb_set (vp_lt hw)] at hP hD
  have hP : va_P D vwCl (cb a cV cI cG (up2 v (cn w) (cn (nI k)) (v (cn w) (cn (nI (k + 1))))) gg dn lt ch) H := hP
  have hD : va_D A (cb a cV cI cG (up2 v (cn w) (cn (nI k)) (v (cn w) (cn (nI (k + 1))))) gg dn lt ch) := hD
  refine lv_aload_n hx hb dX1_changeWithNext_20 rfl (lv_at hl 1 rfl) ?_
  refine lv_iload_n hx hb dX1_changeWithNext_21 rfl (lv_at hl 4 rfl) ?_
  refine lv_iconst (v := 1) hx hb dX1_changeWithNext_22 (by decide) ?_
  refine lv_iadd hx hb dX1_changeWithNext_23 ?_
  rw [nI_1 k]
  refine lv_iload hx hb dX1_changeWithNext_24 (lv_at hl 0 rfl) ?_
  refine va_iast (D := D) hx hb hK hP hD hS (2 + cn w) 1 (cb_row (vp_lt hw)) rfl (vp_in_nI (show k + 1 < 33 by omega) (by decide)) dX1_changeWithNext_26 (fun H locs hP hD hS => ?_)
  rw [cb_set (vp_lt hw)] at hP hD
  have hP : va_P D vwCl (cb a cV cI cG (up2 (up2 v (cn w) (cn (nI k)) (v (cn w) (cn (nI (k + 1))))) (cn w) (cn (nI (k + 1))) (v (cn w) (cn (nI k)))) gg dn lt ch) H := hP
  have hD : va_D A (cb a cV cI cG (up2 (up2 v (cn w) (cn (nI k)) (v (cn w) (cn (nI (k + 1))))) (cn w) (cn (nI (k + 1))) (v (cn w) (cn (nI k)))) gg dn lt ch) := hD
  have e_v : up2 (up2 v (cn w) (cn (nI k)) (v (cn w) (cn (nI (k + 1))))) (cn w) (cn (nI (k + 1))) (v (cn w) (cn (nI k))) = swp v (cn w) k := by simp only [swp, nI_cn (show k < 2 ^ 31 by omega), nI_cn (show k + 1 < 2 ^ 31 by omega)]
  rw [e_v] at hP hD
  exact xw_v (S := Unit) () hx hb hr hlk dX1_changeWithNext_27 hP hK hD hS trivial
set_option maxHeartbeats 4000000 in
set_option maxRecDepth 100000 in
theorem c_X1_pass (l : Launch) (D : va_G) (a : Nat → Nat) (cV cI cG : ClassId) (v : Nat → Nat → Int32) (gg : Nat → Option Nat) (dn lt ch : Int32) (sz : Nat) (w h x y : Int32) : Met l yX1_pass wsX1_pass ({ frames := 3, cells := 0, slots := 0, locals := 68 }) (xW D vwCl (cb a cV cI cG v gg dn lt ch) (cT cV cI cG) xB0 sz [.ref (a 0), .int w, .int h, .int x, .int y]) (xQ (S := Unit) D vwCl (fun r _ => r = aPass v w h x y) (fun _ => cb a cV cI cG (nPass v w h x y) gg dn lt (hPass v ch w h x y)) (fun _ => cT cV cI cG) (va_A (cb a cV cI cG v gg dn lt ch) sz)) 0 0 (va_A (cb a cV cI cG v gg dn lt ch) sz) := by
  refine xw_in (Qf := xQ (S := Unit) D vwCl (fun r _ => r = aPass v w h x y) (fun _ => cb a cV cI cG (nPass v w h x y) gg dn lt (hPass v ch w h x y)) (fun _ => cT cV cI cG)) (cc := cX1_pass) (maxL := 7) (ret := (some .int)) (by decide) rfl (Nat.le_of_ble_eq_true rfl) ?_
  intro p e s m below meth c ls A hx hb hr hml hts hown hlk hnm hA hP hK hD hS hB hl
  have hown : s.vm.findClass RX1 = some m.cls := hown
  have hl : lv_has ls 7 [(0, .ref (a 0)), (1, .int w), (2, .int h), (3, .int x), (4, .int y)] := hl
  have hiF : ∀ w ∈ wsX10, w ∈ wsX1_pass := by decide +kernel
  have loop : vp_in w 2 → isHb h = true → pB w h x y = true → y = nI (cn y) → cn y < 32 → ∀ (n k c1 : Nat) (v1 : Nat → Nat → Int32), k + n = cn y → psF (cn w) h n k v1 c1 = rPass v w h x y → ∀ (H : Heap) (locs : List Loc), va_P D vwCl (cb a cV cI cG v1 gg dn lt ch) H → va_D A (cb a cV cI cG v1 gg dn lt ch) → va_S A s.heap H locs → ∀ ls : Array Slot, lv_has ls 7 [(6, .int (nI k)), (5, .int (nI c1)), (0, .ref (a 0)), (1, .int w), (2, .int h), (3, .int x), (4, .int y)] → W p l e ({ frames := 3, cells := 0, slots := 0, locals := 68 }) s m ([.ref (a 0), .int w, .int h, .int x, .int y] : List Value).toArray below meth c H locs 0 0 (MQ below (xQ (S := Unit) D vwCl (fun r _ => r = aPass v w h x y) (fun _ => cb a cV cI cG (nPass v w h x y) gg dn lt (hPass v ch w h x y)) (fun _ => cT cV cI cG) A) ([.ref (a 0), .int w, .int h, .int x, .int y] : List Value).toArray s 0 0 A) (F0 m 37 ls []) := by
    intro hw hh hp hyn hy0 n
    induction n with
    | zero =>
      intro k c1 v1 hk hres H locs hP hD hS ls hl
      obtain rfl : k = cn y := by omega
      have hres : (v1, c1) = rPass v w h x y := hres
      refine lv_iload hx hb dX1_pass_37 (lv_at hl 0 rfl) ?_
      refine lv_iload hx hb dX1_pass_39 (lv_at hl 6 rfl) ?_
      refine lv_icmp_ge (tgt := 75) hx hb dX1_pass_41 (by decide) (fun c_1 => ?_) (fun c_1 => absurd (by rw [← hyn]; exact Int32.le_refl _) c_1)
      refine lv_aload_n hx hb dX1_pass_75 rfl (lv_at hl 2 rfl) ?_
      refine lv_dup hx hb dX1_pass_76 rfl ?_
      refine va_get (D := D) (ci := 1) (v := .int ch) (C := RX1) (T := TX1) (N := 5) hx hb hts hiF hown hK hP 0 rfl rfl 4 (by decide) (hts (.fieldLink RX1 27 "TunerBench" "changes" "I") (by decide +kernel)) (fun _ h9 => h9) rfl dX1_pass_77 ?_
      refine lv_iload hx hb dX1_pass_80 (lv_at hl 1 rfl) ?_
      refine lv_iadd hx hb dX1_pass_82 ?_
      refine va_put (D := D) (ci := 1) (v := .int (ch + (nI c1))) (ty := .int) (C := RX1) (T := TX1) (N := 5) hx hb hts hiF tyX1 tyX1_ok nmX1 hown hK hP hD hS 0 rfl rfl 4 (by decide) (hts (.fieldLink RX1 27 "TunerBench" "changes" "I") (by decide +kernel)) (fun _ h9 => h9) rfl (by decide +kernel) rfl rfl (Nat.le_of_ble_eq_true rfl) dX1_pass_83 (fun H locs hP hD hS => ?_)
      have hP : va_P D vwCl (cb a cV cI cG v1 gg dn lt (ch + (nI c1))) H := hP
      have hD : va_D A (cb a cV cI cG v1 gg dn lt (ch + (nI c1))) := hD
      refine lv_iload hx hb dX1_pass_86 (lv_at hl 1 rfl) ?_
      have e1 : v1 = nPass v w h x y := by simp only [nPass, hp, if_true]; rw [← hres]
      have e2 : ch + nI c1 = hPass v ch w h x y := by simp only [hPass, hp, if_true]; rw [← hres]
      rw [e1, e2] at hP hD
      exact xw_i (S := Unit) () hx hb hr hlk dX1_pass_88 hP hK hD hS (by simp only [aPass, hp, if_true]; rw [← hres])
    | succ n ih =>
      intro k c1 v1 hk hres H locs hP hD hS ls hl
      refine lv_iload hx hb dX1_pass_37 (lv_at hl 0 rfl) ?_
      refine lv_iload hx hb dX1_pass_39 (lv_at hl 6 rfl) ?_
      refine lv_icmp_ge (tgt := 75) hx hb dX1_pass_41 (by decide) (fun c_2 => absurd c_2 (by rw [hyn]; exact nI_ge (show k < cn y by omega) (by omega))) (fun c_2 => ?_)
      refine lv_aload_n hx hb dX1_pass_44 rfl (lv_at hl 2 rfl) ?_
      refine lv_iload_n hx hb dX1_pass_45 rfl (lv_at hl 3 rfl) ?_
      refine lv_iload_n hx hb dX1_pass_46 rfl (lv_at hl 4 rfl) ?_
      refine lv_iload hx hb dX1_pass_47 (lv_at hl 0 rfl) ?_
      refine lv_iload hx hb dX1_pass_49 (lv_at hl 0 rfl) ?_
      refine lv_iconst (v := 1) hx hb dX1_pass_51 (by decide) ?_
      refine lv_iadd hx hb dX1_pass_52 ?_
      rw [nI_1 k]
      refine xc_R (As := [.int w, .int h, .int (nI k), .int (nI (k + 1))]) (rest := []) ⟨hx, hb, hml, hown, hts⟩ (c_X1_stands l D a cV cI cG v1 gg dn lt ch w h (nI k) (nI (k + 1)) hw (vp_in_nI (show k < 33 by omega) (by decide)) (vp_in_nI (show k + 1 < 33 by omega) (by decide))) (cwV 4 hts gX1_pass_X1_stands rfl rfl rfl (by decide +kernel) ⟨Nat.le_of_ble_eq_true rfl, Nat.le_of_ble_eq_true rfl⟩) xMv0 trivial hP hK (va_recv hK hP (ci := 1) (q0 := 0) rfl rfl) rfl hl.1 rfl (Nat.le_of_ble_eq_true rfl) dX1_pass_53 ⟨Nat.zero_le _, Nat.zero_le _⟩ ?_
      refine lv_if_ne (tgt := 69) hx hb dX1_pass_56 (by decide) (fun c_3 => ?_) (fun c_3 => ?_)
      · have c_3 := b2i_n c_3
        have c_3 : stnF h (v1 (cn w) k) (v1 (cn w) (k + 1)) = true := by simpa [sdF, nI_cn (show k < 2 ^ 31 by omega), nI_cn (show k + 1 < 2 ^ 31 by omega)] using c_3
        refine lv_iinc (v := nI (k + 1)) (lv' := [(6, .int (nI (k + 1))), (5, .int (nI c1)), (0, .ref (a 0)), (1, .int w), (2, .int h), (3, .int x), (4, .int y)]) hx hb dX1_pass_69 hl (k := 0) rfl (nI_1 k) (by decide) rfl (fun ls hl => ?_)
        refine lv_goto (tgt := 37) hx hb dX1_pass_72 (by decide) ?_
        refine ih (k + 1) c1 v1 (by omega) ?_ H locs hP hD hS ls (lv_sub hl [0, 1, 2, 3, 4, 5, 6] rfl)
        rw [← hres]; simp [psF, c_3]
      · have c_3 := b2i_e c_3
        have c_3 : stnF h (v1 (cn w) k) (v1 (cn w) (k + 1)) = false := by simpa [sdF, nI_cn (show k < 2 ^ 31 by omega), nI_cn (show k + 1 < 2 ^ 31 by omega)] using c_3
        refine lv_aload_n hx hb dX1_pass_59 rfl (lv_at hl 2 rfl) ?_
        refine lv_iload_n hx hb dX1_pass_60 rfl (lv_at hl 3 rfl) ?_
        refine lv_iload hx hb dX1_pass_61 (lv_at hl 0 rfl) ?_
        have hPn := hP; rw [← List.append_nil (cb a cV cI cG v1 gg dn lt ch)] at hPn
        have hDn := hD; rw [← List.append_nil (cb a cV cI cG v1 gg dn lt ch)] at hDn
        refine xc_Wv (S0 := Unit) (rw := []) (As := [.int w, .int (nI k)]) (rest := []) ⟨hx, hb, hml, hown, hts⟩ (c_X1_changeWithNext l D a cV cI cG v1 gg dn lt ch H.size w k hw (by omega)) (cwV 2 hts gX1_pass_X1_changeWithNext rfl rfl rfl (by decide +kernel) ⟨Nat.le_of_ble_eq_true rfl, Nat.le_of_ble_eq_true rfl⟩) xMv0 trivial hPn hK hDn hS hA (va_recv hK hP (ci := 1) (q0 := 0) rfl rfl) rfl hl.1 rfl (Nat.le_of_ble_eq_true rfl) dX1_pass_63 ⟨Nat.zero_le _, Nat.zero_le _⟩ (fun _ H locs _ hP hD _ hS => ?_)
        rw [List.append_nil] at hP hD
        have hP : va_P D vwCl (cb a cV cI cG (swp v1 (cn w) k) gg dn lt ch) H := hP
        have hD : va_D A (cb a cV cI cG (swp v1 (cn w) k) gg dn lt ch) := hD
        refine lv_iinc (v := nI (c1 + 1)) (lv' := [(5, .int (nI (c1 + 1))), (6, .int (nI k)), (0, .ref (a 0)), (1, .int w), (2, .int h), (3, .int x), (4, .int y)]) hx hb dX1_pass_66 hl (k := 1) rfl (nI_1 c1) (by decide) rfl (fun ls hl => ?_)
        refine lv_iinc (v := nI (k + 1)) (lv' := [(6, .int (nI (k + 1))), (5, .int (nI (c1 + 1))), (0, .ref (a 0)), (1, .int w), (2, .int h), (3, .int x), (4, .int y)]) hx hb dX1_pass_69 hl (k := 1) rfl (nI_1 k) (by decide) rfl (fun ls hl => ?_)
        refine lv_goto (tgt := 37) hx hb dX1_pass_72 (by decide) ?_
        refine ih (k + 1) (c1 + 1) (swp v1 (cn w) k) (by omega) ?_ H locs hP hD hS ls (lv_sub hl [0, 1, 2, 3, 4, 5, 6] rfl)
        rw [← hres]; simp [psF, c_3]
  refine lv_iload_n hx hb dX1_pass_0 rfl (lv_at hl 1 rfl) ?_
  refine lv_iload_n hx hb dX1_pass_1 rfl (lv_at hl 2 rfl) ?_
  refine xc_T (As := [.int w, .int h]) (rest := []) ⟨hx, hb, hml, hown, hts⟩ (c_X1_isQuestion l w h) (va_cwS 2 hts gX1_pass_X1_isQuestion rfl rfl rfl (by decide +kernel) ⟨Nat.le_of_ble_eq_true rfl, Nat.le_of_ble_eq_true rfl⟩) rfl hl.1 rfl (Nat.le_of_ble_eq_true rfl) dX1_pass_2 ⟨Nat.zero_le _, Nat.zero_le _⟩ ?_
  refine lv_if_eq (tgt := 29) hx hb dX1_pass_5 (by decide) (fun c_4 => ?_) (fun c_4 => ?_)
  · have c_4 := b2i_e c_4
    refine lv_iconst (v := -1) hx hb dX1_pass_29 (by decide) ?_
    have e1 : v = nPass v w h x y := by simp [nPass, pB, c_4]
    have e2 : ch = hPass v ch w h x y := by simp [hPass, pB, c_4]
    rw [show (cb a cV cI cG v gg dn lt ch) = (cb a cV cI cG (nPass v w h x y) gg dn lt (hPass v ch w h x y)) from by rw [← e1, ← e2]] at hP hD
    exact xw_i (S := Unit) () hx hb hr hlk dX1_pass_30 hP hK hD hS (by simp [aPass, pB, c_4])
  · have c_4 := b2i_n c_4
    refine lv_iload_n hx hb dX1_pass_8 rfl (lv_at hl 3 rfl) ?_
    refine xc_T (As := [.int x]) (rest := []) ⟨hx, hb, hml, hown, hts⟩ (c_X1_isString l x) (va_cwS 1 hts gX1_pass_X1_isString rfl rfl rfl (by decide +kernel) ⟨Nat.le_of_ble_eq_true rfl, Nat.le_of_ble_eq_true rfl⟩) rfl hl.1 rfl (Nat.le_of_ble_eq_true rfl) dX1_pass_9 ⟨Nat.zero_le _, Nat.zero_le _⟩ ?_
    refine lv_if_eq (tgt := 29) hx hb dX1_pass_12 (by decide) (fun c_5 => ?_) (fun c_5 => ?_)
    · have c_5 := b2i_e c_5
      refine lv_iconst (v := -1) hx hb dX1_pass_29 (by decide) ?_
      have e1 : v = nPass v w h x y := by simp [nPass, pB, c_4, c_5]
      have e2 : ch = hPass v ch w h x y := by simp [hPass, pB, c_4, c_5]
      rw [show (cb a cV cI cG v gg dn lt ch) = (cb a cV cI cG (nPass v w h x y) gg dn lt (hPass v ch w h x y)) from by rw [← e1, ← e2]] at hP hD
      exact xw_i (S := Unit) () hx hb hr hlk dX1_pass_30 hP hK hD hS (by simp [aPass, pB, c_4, c_5])
    · have c_5 := b2i_n c_5
      refine lv_iload hx hb dX1_pass_15 (lv_at hl 4 rfl) ?_
      refine xc_T (As := [.int y]) (rest := []) ⟨hx, hb, hml, hown, hts⟩ (c_X1_isString l y) (va_cwS 1 hts gX1_pass_X1_isString rfl rfl rfl (by decide +kernel) ⟨Nat.le_of_ble_eq_true rfl, Nat.le_of_ble_eq_true rfl⟩) rfl hl.1 rfl (Nat.le_of_ble_eq_true rfl) dX1_pass_17 ⟨Nat.zero_le _, Nat.zero_le _⟩ ?_
      refine lv_if_eq (tgt := 29) hx hb dX1_pass_20 (by decide) (fun c_6 => ?_) (fun c_6 => ?_)
      · have c_6 := b2i_e c_6
        refine lv_iconst (v := -1) hx hb dX1_pass_29 (by decide) ?_
        have e1 : v = nPass v w h x y := by simp [nPass, pB, c_4, c_5, c_6]
        have e2 : ch = hPass v ch w h x y := by simp [hPass, pB, c_4, c_5, c_6]
        rw [show (cb a cV cI cG v gg dn lt ch) = (cb a cV cI cG (nPass v w h x y) gg dn lt (hPass v ch w h x y)) from by rw [← e1, ← e2]] at hP hD
        exact xw_i (S := Unit) () hx hb hr hlk dX1_pass_30 hP hK hD hS (by simp [aPass, pB, c_4, c_5, c_6])
      · have c_6 := b2i_n c_6
        refine lv_iload_n hx hb dX1_pass_23 rfl (lv_at hl 3 rfl) ?_
        refine lv_iload hx hb dX1_pass_24 (lv_at hl 4 rfl) ?_
        refine lv_icmp_le (tgt := 31) hx hb dX1_pass_26 (by decide) (fun c_7 => ?_) (fun c_7 => ?_)
        · refine lv_iconst (v := 0) hx hb dX1_pass_31 (by decide) ?_
          refine lv_istore (lv' := [(5, .int 0), (0, .ref (a 0)), (1, .int w), (2, .int h), (3, .int x), (4, .int y)]) hx hb dX1_pass_32 hl (by decide) rfl (fun ls hl => ?_)
          refine lv_iload_n hx hb dX1_pass_34 rfl (lv_at hl 4 rfl) ?_
          refine lv_istore (lv' := [(6, .int x), (5, .int 0), (0, .ref (a 0)), (1, .int w), (2, .int h), (3, .int x), (4, .int y)]) hx hb dX1_pass_35 hl (by decide) rfl (fun ls hl => ?_)
          obtain ⟨i0, hi0, ei0⟩ := vp_in_of (isS_in c_5) (by decide)
          obtain ⟨j0, hj0, ej0⟩ := vp_in_of (isS_in c_6) (by decide)
          have hci : cn x = i0 := by rw [ei0]; exact nI_cn (by omega)
          have hcj : cn y = j0 := by rw [ej0]; exact nI_cn (by omega)
          have hij : i0 ≤ j0 := by have q9 := c_7; rw [ei0, ej0] at q9; exact (nI_leI (by omega) (by omega)).mp q9
          refine loop (isQ_w c_4) (isQ_h c_4) (by simp [pB, c_4, c_5, c_6, c_7]) (by rw [hcj]; exact ej0) (by omega) (j0 - i0) i0 0 v (by omega) ?_ _ _ hP hD hS ls ?_
          · simp only [rPass, hci, hcj]
          · rw [← ei0]; exact lv_sub hl [0, 1, 2, 3, 4, 5, 6] rfl
        · refine lv_iconst (v := -1) hx hb dX1_pass_29 (by decide) ?_
          have e1 : v = nPass v w h x y := by simp [nPass, pB, c_4, c_5, c_6, c_7]
          have e2 : ch = hPass v ch w h x y := by simp [hPass, pB, c_4, c_5, c_6, c_7]
          rw [show (cb a cV cI cG v gg dn lt ch) = (cb a cV cI cG (nPass v w h x y) gg dn lt (hPass v ch w h x y)) from by rw [← e1, ← e2]] at hP hD
          exact xw_i (S := Unit) () hx hb hr hlk dX1_pass_30 hP hK hD hS (by simp [aPass, pB, c_4, c_5, c_6, c_7])
set_option maxHeartbeats 4000000 in
set_option maxRecDepth 100000 in
theorem c_X1_strike (l : Launch) (D : va_G) (a : Nat → Nat) (cV cI cG : ClassId) (v : Nat → Nat → Int32) (gg : Nat → Option Nat) (dn lt ch : Int32) (sz : Nat) (x : Int32) : Met l yX1_strike wsX1_strike ({ frames := 1, cells := 0, slots := 0, locals := 20 }) (xW D vwCl (cb a cV cI cG v gg dn lt ch) (cT cV cI cG) xB0 sz [.ref (a 0), .int x]) (xQ (S := Unit) D vwCl (fun r _ => r = b2i (isSb x)) (fun _ => cb a cV cI cG (nStri v x) gg dn lt ch) (fun _ => cT cV cI cG) (va_A (cb a cV cI cG v gg dn lt ch) sz)) 0 0 (va_A (cb a cV cI cG v gg dn lt ch) sz) := by
  refine xw_in (Qf := xQ (S := Unit) D vwCl (fun r _ => r = b2i (isSb x)) (fun _ => cb a cV cI cG (nStri v x) gg dn lt ch) (fun _ => cT cV cI cG)) (cc := cX1_strike) (maxL := 3) (ret := (some .boolean)) (by decide) rfl (Nat.le_of_ble_eq_true rfl) ?_
  intro p e s m below meth c ls A hx hb hr hml hts hown hlk hnm hA hP hK hD hS hB hl
  have hown : s.vm.findClass RX1 = some m.cls := hown
  have hl : lv_has ls 3 [(0, .ref (a 0)), (1, .int x)] := hl
  have hiF : ∀ w ∈ wsX10, w ∈ wsX1_strike := by decide +kernel
  refine lv_iload_n hx hb dX1_strike_0 rfl (lv_at hl 1 rfl) ?_
  refine xc_T (As := [.int x]) (rest := []) ⟨hx, hb, hml, hown, hts⟩ (c_X1_isString l x) (va_cwS 1 hts gX1_strike_X1_isString rfl rfl rfl (by decide +kernel) ⟨Nat.le_of_ble_eq_true rfl, Nat.le_of_ble_eq_true rfl⟩) rfl hl.1 rfl (Nat.le_of_ble_eq_true rfl) dX1_strike_1 ⟨Nat.zero_le _, Nat.zero_le _⟩ ?_
  refine lv_if_ne (tgt := 9) hx hb dX1_strike_4 (by decide) (fun c_1 => ?_) (fun c_1 => ?_)
  · have c_1 := b2i_n c_1
    refine lv_iconst (v := 0) hx hb dX1_strike_9 (by decide) ?_
    refine lv_istore_n (lv' := [(2, .int 0), (0, .ref (a 0)), (1, .int x)]) hx hb dX1_strike_10 rfl hl (by decide) rfl (fun ls hl => ?_)
    refine lv_iload_n hx hb dX1_strike_11 rfl (lv_at hl 0 rfl) ?_
    refine lv_iconst (v := 2) hx hb dX1_strike_12 (by decide) ?_
    refine lv_icmp_ge (tgt := 39) hx hb dX1_strike_13 (by decide) (fun c_2 => absurd c_2 (by decide)) (fun c_2 => ?_)
    refine lv_aload_n hx hb dX1_strike_16 rfl (lv_at hl 1 rfl) ?_
    refine va_get (D := D) (ci := 1) (v := .ref (a 1)) (C := RX1) (T := TX1) (N := 5) hx hb hts hiF hown hK hP 0 rfl rfl 0 (by decide) (hts (.fieldLink RX1 11 "TunerBench" "values" "[[I") (by decide +kernel)) (fun _ h9 => h9) rfl dX1_strike_17 ?_
    refine lv_iload_n hx hb dX1_strike_20 rfl (lv_at hl 0 rfl) ?_
    refine xa_ald (D := D) hx hb hK hP 1 0 rfl rfl (show vp_in (0) 2 by unfold vp_in; decide) dX1_strike_21 ?_
    refine lv_bipush (v := 32) hx hb dX1_strike_22 (by decide) ?_
    refine lv_aload_n hx hb dX1_strike_24 rfl (lv_at hl 1 rfl) ?_
    refine va_get (D := D) (ci := 1) (v := .ref (a 1)) (C := RX1) (T := TX1) (N := 5) hx hb hts hiF hown hK hP 0 rfl rfl 0 (by decide) (hts (.fieldLink RX1 11 "TunerBench" "values" "[[I") (by decide +kernel)) (fun _ h9 => h9) rfl dX1_strike_25 ?_
    refine lv_iload_n hx hb dX1_strike_28 rfl (lv_at hl 0 rfl) ?_
    refine xa_ald (D := D) hx hb hK hP 1 0 rfl rfl (show vp_in (0) 2 by unfold vp_in; decide) dX1_strike_29 ?_
    refine lv_iload_n hx hb dX1_strike_30 rfl (lv_at hl 2 rfl) ?_
    refine va_iald (D := D) hx hb hK hP (2 + cn 0) 1 (cb_row (vp_lt (show vp_in (0) 2 by unfold vp_in; decide))) rfl (isF_in (isS_F c_1)) dX1_strike_31 ?_
    refine va_iast (D := D) hx hb hK hP hD hS (2 + cn 0) 1 (cb_row (vp_lt (show vp_in (0) 2 by unfold vp_in; decide))) rfl (show vp_in (32) 33 by unfold vp_in; decide) dX1_strike_32 (fun H locs hP hD hS => ?_)
    rw [cb_set (vp_lt (show vp_in (0) 2 by unfold vp_in; decide))] at hP hD
    have hP : va_P D vwCl (cb a cV cI cG (up2 v (cn 0) (cn 32) (v (cn 0) (cn x))) gg dn lt ch) H := hP
    have hD : va_D A (cb a cV cI cG (up2 v (cn 0) (cn 32) (v (cn 0) (cn x))) gg dn lt ch) := hD
    refine lv_iinc (v := 0 + 1) (lv' := [(2, .int (0 + 1)), (0, .ref (a 0)), (1, .int x)]) hx hb dX1_strike_33 hl (k := 0) rfl (rfl) (by decide) rfl (fun ls hl => ?_)
    refine lv_goto (tgt := 11) hx hb dX1_strike_36 (by decide) ?_
    refine lv_iload_n hx hb dX1_strike_11 rfl (lv_at hl 0 rfl) ?_
    refine lv_iconst (v := 2) hx hb dX1_strike_12 (by decide) ?_
    refine lv_icmp_ge (tgt := 39) hx hb dX1_strike_13 (by decide) (fun c_3 => absurd c_3 (by decide)) (fun c_3 => ?_)
    refine lv_aload_n hx hb dX1_strike_16 rfl (lv_at hl 1 rfl) ?_
    refine va_get (D := D) (ci := 1) (v := .ref (a 1)) (C := RX1) (T := TX1) (N := 5) hx hb hts hiF hown hK hP 0 rfl rfl 0 (by decide) (hts (.fieldLink RX1 11 "TunerBench" "values" "[[I") (by decide +kernel)) (fun _ h9 => h9) rfl dX1_strike_17 ?_
    refine lv_iload_n hx hb dX1_strike_20 rfl (lv_at hl 0 rfl) ?_
    refine xa_ald (D := D) hx hb hK hP 1 0 rfl rfl (show vp_in (0 + 1) 2 by unfold vp_in; decide) dX1_strike_21 ?_
    refine lv_bipush (v := 32) hx hb dX1_strike_22 (by decide) ?_
    refine lv_aload_n hx hb dX1_strike_24 rfl (lv_at hl 1 rfl) ?_
    refine va_get (D := D) (ci := 1) (v := .ref (a 1)) (C := RX1) (T := TX1) (N := 5) hx hb hts hiF hown hK hP 0 rfl rfl 0 (by decide) (hts (.fieldLink RX1 11 "TunerBench" "values" "[[I") (by decide +kernel)) (fun _ h9 => h9) rfl dX1_strike_25 ?_
    refine lv_iload_n hx hb dX1_strike_28 rfl (lv_at hl 0 rfl) ?_
    refine xa_ald (D := D) hx hb hK hP 1 0 rfl rfl (show vp_in (0 + 1) 2 by unfold vp_in; decide) dX1_strike_29 ?_
    refine lv_iload_n hx hb dX1_strike_30 rfl (lv_at hl 2 rfl) ?_
    refine va_iald (D := D) hx hb hK hP (2 + cn (0 + 1)) 1 (cb_row (vp_lt (show vp_in (0 + 1) 2 by unfold vp_in; decide))) rfl (isF_in (isS_F c_1)) dX1_strike_31 ?_
    refine va_iast (D := D) hx hb hK hP hD hS (2 + cn (0 + 1)) 1 (cb_row (vp_lt (show vp_in (0 + 1) 2 by unfold vp_in; decide))) rfl (show vp_in (32) 33 by unfold vp_in; decide) dX1_strike_32 (fun H locs hP hD hS => ?_)
    rw [cb_set (vp_lt (show vp_in (0 + 1) 2 by unfold vp_in; decide))] at hP hD
    have hP : va_P D vwCl (cb a cV cI cG (up2 (up2 v (cn 0) (cn 32) (v (cn 0) (cn x))) (cn (0 + 1)) (cn 32) ((up2 v (cn 0) (cn 32) (v (cn 0) (cn x))) (cn (0 + 1)) (cn x))) gg dn lt ch) H := hP
    have hD : va_D A (cb a cV cI cG (up2 (up2 v (cn 0) (cn 32) (v (cn 0) (cn x))) (cn (0 + 1)) (cn 32) ((up2 v (cn 0) (cn 32) (v (cn 0) (cn x))) (cn (0 + 1)) (cn x))) gg dn lt ch) := hD
    refine lv_iinc (v := (0 + 1) + 1) (lv' := [(2, .int ((0 + 1) + 1)), (0, .ref (a 0)), (1, .int x)]) hx hb dX1_strike_33 hl (k := 0) rfl (rfl) (by decide) rfl (fun ls hl => ?_)
    refine lv_goto (tgt := 11) hx hb dX1_strike_36 (by decide) ?_
    refine lv_iload_n hx hb dX1_strike_11 rfl (lv_at hl 0 rfl) ?_
    refine lv_iconst (v := 2) hx hb dX1_strike_12 (by decide) ?_
    refine lv_icmp_ge (tgt := 39) hx hb dX1_strike_13 (by decide) (fun c_4 => ?_) (fun c_4 => absurd (by decide) c_4)
    refine lv_iconst (v := 1) hx hb dX1_strike_39 (by decide) ?_
    have e_v : up2 (up2 v (cn 0) (cn 32) (v (cn 0) (cn x))) (cn (0 + 1)) (cn 32) ((up2 v (cn 0) (cn 32) (v (cn 0) (cn x))) (cn (0 + 1)) (cn x)) = nStri v x := by
      simp only [nStri, c_1, if_true, show cn 0 = 0 by decide, show cn 1 = 1 by decide, show cn 32 = 32 by decide, show cn (0 + 1) = 1 by decide]
      rw [up2_oth v _ _ (show (1 : Nat) ≠ 0 by decide)]
    rw [e_v] at hP hD
    exact xw_z (S := Unit) () hx hb hr hlk dX1_strike_40 (by decide) hP hK hD hS (by simp [b2i, c_1])
  · have c_1 := b2i_e c_1
    refine lv_iconst (v := 0) hx hb dX1_strike_7 (by decide) ?_
    have e_v : v = nStri v x := by simp [nStri, c_1]
    rw [e_v] at hP hD
    exact xw_z (S := Unit) () hx hb hr hlk dX1_strike_8 (by decide) hP hK hD hS (by simp [b2i, c_1])
end
section
/-! the model: methods over its values -/
theorem isV_in (so q : Int32) : isVb so q = (inB so 0 4 && (!(decide (so = 0)) || inB q (-40000) 40000)) := by
  by_cases h : so = 0
  · subst h
    have : inB 0 0 4 = true := by decide
    simp [isVb, inB, this]
  · have h1 : (so < 1) ↔ (so < 0) := by
      rw [i32_eq] at h
      rw [i32_lt, i32_lt]
      simp at h ⊢
      omega
    simp [isVb, inB, h, h1]
theorem at_s (w : Int32) (k : Nat) : 33 * w + nI k + 1 = 33 * w + nI (k + 1) := by rw [Int32.add_assoc, nI_1]
theorem okS {v : Nat → Nat → Int32} {w k : Nat} (h : ∀ i j : Nat, okV (v i j)) (_ : True) : ∀ i j : Nat, okV (swp v w k i j) := by
  intro i j
  unfold swp up2
  by_cases h1 : i = w ∧ j = k + 1
  · simp only [h1, and_self, if_true]; exact h _ _
  · simp only [h1, if_false]
    by_cases h2 : i = w ∧ j = k
    · simp only [h2, and_self, if_true]; exact h _ _
    · simp only [h2, if_false]; exact h _ _
set_option maxHeartbeats 4000000 in
set_option maxRecDepth 100000 in
theorem c_X2_stands (l : Launch) (D : va_G) (a : Nat → Nat) (cI cZ : ClassId) (v : Nat → Nat → Int32) (G : Nat → Option GT) (dn lt ch gn : Int32) (w h x y : Int32) (hw : vp_in w 2) (hx1 : vp_in x 33) (hy1 : vp_in y 33) (hh : isHb h = true) (okv : ∀ i j : Nat, okV (v i j)) : Met l yX2_stands wsX2_stands ({ frames := 2, cells := 0, slots := 0, locals := 47 }) (xR D vwCl (mb a cI cZ v G dn lt ch gn) (mT cI cZ) xB0 [.ref (a 0), .int w, .int h, .int x, .int y]) (QcRead (b2i (sdF v w h x y))) 0 0 (fun _ => False) := by
  refine xr_in (cc := cX2_stands) (maxL := 7) (ret := (some .boolean)) (by decide) rfl (Nat.le_of_ble_eq_true rfl) ?_
  intro p e s m below meth c ls hx hb hr hml hts hown hlk hP hK hB hl
  have hown : s.vm.findClass RX2 = some m.cls := hown
  have hl : lv_has ls 7 [(0, .ref (a 0)), (1, .int w), (2, .int h), (3, .int x), (4, .int y)] := hl
  have hiF : ∀ w ∈ wsX20, w ∈ wsX2_stands := by decide +kernel
  refine lv_iload_n hx hb dX2_stands_0 rfl (lv_at hl 1 rfl) ?_
  refine lv_iload_n hx hb dX2_stands_1 rfl (lv_at hl 3 rfl) ?_
  refine xc_T (As := [.int w, .int x]) (rest := []) ⟨hx, hb, hml, hown, hts⟩ (c_X2_at l w x) (va_cwS 2 hts gX2_stands_X2_at rfl rfl rfl (by decide +kernel) ⟨Nat.le_of_ble_eq_true rfl, Nat.le_of_ble_eq_true rfl⟩) rfl hl.1 rfl (Nat.le_of_ble_eq_true rfl) dX2_stands_2 ⟨Nat.zero_le _, Nat.zero_le _⟩ ?_
  refine lv_istore (lv' := [(5, .int (33 * w + x)), (0, .ref (a 0)), (1, .int w), (2, .int h), (3, .int x), (4, .int y)]) hx hb dX2_stands_5 hl (by decide) rfl (fun ls hl => ?_)
  refine lv_iload_n hx hb dX2_stands_7 rfl (lv_at hl 2 rfl) ?_
  refine lv_iload hx hb dX2_stands_8 (lv_at hl 5 rfl) ?_
  refine xc_T (As := [.int w, .int y]) (rest := []) ⟨hx, hb, hml, hown, hts⟩ (c_X2_at l w y) (va_cwS 2 hts gX2_stands_X2_at rfl rfl rfl (by decide +kernel) ⟨Nat.le_of_ble_eq_true rfl, Nat.le_of_ble_eq_true rfl⟩) rfl hl.1 rfl (Nat.le_of_ble_eq_true rfl) dX2_stands_10 ⟨Nat.zero_le _, Nat.zero_le _⟩ ?_
  refine lv_istore (lv' := [(6, .int (33 * w + y)), (5, .int (33 * w + x)), (0, .ref (a 0)), (1, .int w), (2, .int h), (3, .int x), (4, .int y)]) hx hb dX2_stands_13 hl (by decide) rfl (fun ls hl => ?_)
  refine lv_iload_n hx hb dX2_stands_15 rfl (lv_at hl 4 rfl) ?_
  refine lv_aload_n hx hb dX2_stands_16 rfl (lv_at hl 2 rfl) ?_
  refine va_get (D := D) (ci := 2) (v := .ref (a 1)) (C := RX2) (T := TX2) (N := 14) hx hb hts hiF hown hK hP 0 rfl rfl 0 (by decide) (hts (.fieldLink RX2 7 "TunerBenchModel" "sorts" "[I") (by decide +kernel)) (fun _ h9 => h9) rfl dX2_stands_17 ?_
  refine lv_iload hx hb dX2_stands_20 (lv_at hl 1 rfl) ?_
  refine va_iald (D := D) hx hb hK hP 1 0 rfl rfl (at_in hw hx1) dX2_stands_22 ?_
  rw [at_cn hw hx1, mso_at v (vp_lt hx1)]
  refine lv_aload_n hx hb dX2_stands_23 rfl (lv_at hl 2 rfl) ?_
  refine va_get (D := D) (ci := 2) (v := .ref (a 2)) (C := RX2) (T := TX2) (N := 14) hx hb hts hiF hown hK hP 0 rfl rfl 1 (by decide) (hts (.fieldLink RX2 13 "TunerBenchModel" "quarters" "[I") (by decide +kernel)) (fun _ h9 => h9) rfl dX2_stands_24 ?_
  refine lv_iload hx hb dX2_stands_27 (lv_at hl 1 rfl) ?_
  refine va_iald (D := D) hx hb hK hP 2 0 rfl rfl (at_in hw hx1) dX2_stands_29 ?_
  rw [at_cn hw hx1, mqu_at v (vp_lt hx1)]
  refine lv_aload_n hx hb dX2_stands_30 rfl (lv_at hl 2 rfl) ?_
  refine va_get (D := D) (ci := 2) (v := .ref (a 1)) (C := RX2) (T := TX2) (N := 14) hx hb hts hiF hown hK hP 0 rfl rfl 0 (by decide) (hts (.fieldLink RX2 7 "TunerBenchModel" "sorts" "[I") (by decide +kernel)) (fun _ h9 => h9) rfl dX2_stands_31 ?_
  refine lv_iload hx hb dX2_stands_34 (lv_at hl 0 rfl) ?_
  refine va_iald (D := D) hx hb hK hP 1 0 rfl rfl (at_in hw hy1) dX2_stands_36 ?_
  rw [at_cn hw hy1, mso_at v (vp_lt hy1)]
  refine lv_aload_n hx hb dX2_stands_37 rfl (lv_at hl 2 rfl) ?_
  refine va_get (D := D) (ci := 2) (v := .ref (a 2)) (C := RX2) (T := TX2) (N := 14) hx hb hts hiF hown hK hP 0 rfl rfl 1 (by decide) (hts (.fieldLink RX2 13 "TunerBenchModel" "quarters" "[I") (by decide +kernel)) (fun _ h9 => h9) rfl dX2_stands_38 ?_
  refine lv_iload hx hb dX2_stands_41 (lv_at hl 0 rfl) ?_
  refine va_iald (D := D) hx hb hK hP 2 0 rfl rfl (at_in hw hy1) dX2_stands_43 ?_
  rw [at_cn hw hy1, mqu_at v (vp_lt hy1)]
  refine xc_T (As := [.int h, .int (srtF (v (cn w) (cn x))), .int (qrtF (v (cn w) (cn x))), .int (srtF (v (cn w) (cn y))), .int (qrtF (v (cn w) (cn y)))]) (rest := []) ⟨hx, hb, hml, hown, hts⟩ (c_X2_goes l h (srtF (v (cn w) (cn x))) (qrtF (v (cn w) (cn x))) (srtF (v (cn w) (cn y))) (qrtF (v (cn w) (cn y)))) (va_cwS 5 hts gX2_stands_X2_goes rfl rfl rfl (by decide +kernel) ⟨Nat.le_of_ble_eq_true rfl, Nat.le_of_ble_eq_true rfl⟩) rfl hl.1 rfl (Nat.le_of_ble_eq_true rfl) dX2_stands_44 ⟨Nat.zero_le _, Nat.zero_le _⟩ ?_
  exact xr_z hx hb hr hlk dX2_stands_47 (b2i_nar _) (by rw [go_stn h _ _ hh (okv _ _) (okv _ _)]; rfl)
set_option maxHeartbeats 4000000 in
set_option maxRecDepth 100000 in
theorem c_X2_sort (l : Launch) (D : va_G) (a : Nat → Nat) (cI cZ : ClassId) (v : Nat → Nat → Int32) (G : Nat → Option GT) (dn lt ch gn : Int32) (w x : Int32) : Met l yX2_sort wsX2_sort ({ frames := 2, cells := 0, slots := 0, locals := 42 }) (xR D vwCl (mb a cI cZ v G dn lt ch gn) (mT cI cZ) xB0 [.ref (a 0), .int w, .int x]) (QcRead (aSort v w x)) 0 0 (fun _ => False) := by
  refine xr_in (cc := cX2_sort) (maxL := 3) (ret := (some .int)) (by decide) rfl (Nat.le_of_ble_eq_true rfl) ?_
  intro p e s m below meth c ls hx hb hr hml hts hown hlk hP hK hB hl
  have hown : s.vm.findClass RX2 = some m.cls := hown
  have hl : lv_has ls 3 [(0, .ref (a 0)), (1, .int w), (2, .int x)] := hl
  have hiF : ∀ w ∈ wsX20, w ∈ wsX2_sort := by decide +kernel
  refine lv_iload_n hx hb dX2_sort_0 rfl (lv_at hl 1 rfl) ?_
  refine lv_iconst (v := 0) hx hb dX2_sort_1 (by decide) ?_
  refine lv_iconst (v := 1) hx hb dX2_sort_2 (by decide) ?_
  refine xc_T (As := [.int w, .int 0, .int 1]) (rest := []) ⟨hx, hb, hml, hown, hts⟩ (c_X2_in l w 0 1) (va_cwS 3 hts gX2_sort_X2_in rfl rfl rfl (by decide +kernel) ⟨Nat.le_of_ble_eq_true rfl, Nat.le_of_ble_eq_true rfl⟩) rfl hl.1 rfl (Nat.le_of_ble_eq_true rfl) dX2_sort_3 ⟨Nat.zero_le _, Nat.zero_le _⟩ ?_
  rw [in01]
  refine lv_if_eq (tgt := 29) hx hb dX2_sort_6 (by decide) (fun c_1 => ?_) (fun c_1 => ?_)
  · have c_1 := b2i_e c_1
    refine lv_iconst (v := -1) hx hb dX2_sort_29 (by decide) ?_
    exact xr_i hx hb hr hlk dX2_sort_30 (by simp [aSort, c_1])
  · have c_1 := b2i_n c_1
    refine lv_iload_n hx hb dX2_sort_9 rfl (lv_at hl 2 rfl) ?_
    refine xc_T (As := [.int x]) (rest := []) ⟨hx, hb, hml, hown, hts⟩ (c_X2_isStringOrFork l x) (va_cwS 1 hts gX2_sort_X2_isStringOrFork rfl rfl rfl (by decide +kernel) ⟨Nat.le_of_ble_eq_true rfl, Nat.le_of_ble_eq_true rfl⟩) rfl hl.1 rfl (Nat.le_of_ble_eq_true rfl) dX2_sort_10 ⟨Nat.zero_le _, Nat.zero_le _⟩ ?_
    refine lv_if_eq (tgt := 29) hx hb dX2_sort_13 (by decide) (fun c_2 => ?_) (fun c_2 => ?_)
    · have c_2 := b2i_e c_2
      refine lv_iconst (v := -1) hx hb dX2_sort_29 (by decide) ?_
      exact xr_i hx hb hr hlk dX2_sort_30 (by simp [aSort, c_1, c_2])
    · have c_2 := b2i_n c_2
      refine lv_aload_n hx hb dX2_sort_16 rfl (lv_at hl 0 rfl) ?_
      refine va_get (D := D) (ci := 2) (v := .ref (a 1)) (C := RX2) (T := TX2) (N := 14) hx hb hts hiF hown hK hP 0 rfl rfl 0 (by decide) (hts (.fieldLink RX2 7 "TunerBenchModel" "sorts" "[I") (by decide +kernel)) (fun _ h9 => h9) rfl dX2_sort_17 ?_
      refine lv_iload_n hx hb dX2_sort_20 rfl (lv_at hl 1 rfl) ?_
      refine lv_iload_n hx hb dX2_sort_21 rfl (lv_at hl 2 rfl) ?_
      refine xc_T (As := [.int w, .int x]) (rest := [.ref (a 1)]) ⟨hx, hb, hml, hown, hts⟩ (c_X2_at l w x) (va_cwS 2 hts gX2_sort_X2_at rfl rfl rfl (by decide +kernel) ⟨Nat.le_of_ble_eq_true rfl, Nat.le_of_ble_eq_true rfl⟩) rfl hl.1 rfl (Nat.le_of_ble_eq_true rfl) dX2_sort_22 ⟨Nat.zero_le _, Nat.zero_le _⟩ ?_
      refine va_iald (D := D) hx hb hK hP 1 0 rfl rfl (at_in (isW_in c_1) (isF_in c_2)) dX2_sort_25 ?_
      rw [at_cn (isW_in c_1) (isF_in c_2), mso_at v (vp_lt (isF_in c_2))]
      refine lv_goto (tgt := 30) hx hb dX2_sort_26 (by decide) ?_
      exact xr_i hx hb hr hlk dX2_sort_30 (by simp [aSort, c_1, c_2])
set_option maxHeartbeats 4000000 in
set_option maxRecDepth 100000 in
theorem c_X2_quarters (l : Launch) (D : va_G) (a : Nat → Nat) (cI cZ : ClassId) (v : Nat → Nat → Int32) (G : Nat → Option GT) (dn lt ch gn : Int32) (w x : Int32) : Met l yX2_quarters wsX2_quarters ({ frames := 2, cells := 0, slots := 0, locals := 42 }) (xR D vwCl (mb a cI cZ v G dn lt ch gn) (mT cI cZ) xB0 [.ref (a 0), .int w, .int x]) (QcRead (aQuar v w x)) 0 0 (fun _ => False) := by
  refine xr_in (cc := cX2_quarters) (maxL := 3) (ret := (some .int)) (by decide) rfl (Nat.le_of_ble_eq_true rfl) ?_
  intro p e s m below meth c ls hx hb hr hml hts hown hlk hP hK hB hl
  have hown : s.vm.findClass RX2 = some m.cls := hown
  have hl : lv_has ls 3 [(0, .ref (a 0)), (1, .int w), (2, .int x)] := hl
  have hiF : ∀ w ∈ wsX20, w ∈ wsX2_quarters := by decide +kernel
  refine lv_iload_n hx hb dX2_quarters_0 rfl (lv_at hl 1 rfl) ?_
  refine lv_iconst (v := 0) hx hb dX2_quarters_1 (by decide) ?_
  refine lv_iconst (v := 1) hx hb dX2_quarters_2 (by decide) ?_
  refine xc_T (As := [.int w, .int 0, .int 1]) (rest := []) ⟨hx, hb, hml, hown, hts⟩ (c_X2_in l w 0 1) (va_cwS 3 hts gX2_quarters_X2_in rfl rfl rfl (by decide +kernel) ⟨Nat.le_of_ble_eq_true rfl, Nat.le_of_ble_eq_true rfl⟩) rfl hl.1 rfl (Nat.le_of_ble_eq_true rfl) dX2_quarters_3 ⟨Nat.zero_le _, Nat.zero_le _⟩ ?_
  rw [in01]
  refine lv_if_eq (tgt := 29) hx hb dX2_quarters_6 (by decide) (fun c_1 => ?_) (fun c_1 => ?_)
  · have c_1 := b2i_e c_1
    refine lv_iconst (v := 0) hx hb dX2_quarters_29 (by decide) ?_
    exact xr_i hx hb hr hlk dX2_quarters_30 (by simp [aQuar, c_1])
  · have c_1 := b2i_n c_1
    refine lv_iload_n hx hb dX2_quarters_9 rfl (lv_at hl 2 rfl) ?_
    refine xc_T (As := [.int x]) (rest := []) ⟨hx, hb, hml, hown, hts⟩ (c_X2_isStringOrFork l x) (va_cwS 1 hts gX2_quarters_X2_isStringOrFork rfl rfl rfl (by decide +kernel) ⟨Nat.le_of_ble_eq_true rfl, Nat.le_of_ble_eq_true rfl⟩) rfl hl.1 rfl (Nat.le_of_ble_eq_true rfl) dX2_quarters_10 ⟨Nat.zero_le _, Nat.zero_le _⟩ ?_
    refine lv_if_eq (tgt := 29) hx hb dX2_quarters_13 (by decide) (fun c_2 => ?_) (fun c_2 => ?_)
    · have c_2 := b2i_e c_2
      refine lv_iconst (v := 0) hx hb dX2_quarters_29 (by decide) ?_
      exact xr_i hx hb hr hlk dX2_quarters_30 (by simp [aQuar, c_1, c_2])
    · have c_2 := b2i_n c_2
      refine lv_aload_n hx hb dX2_quarters_16 rfl (lv_at hl 0 rfl) ?_
      refine va_get (D := D) (ci := 2) (v := .ref (a 2)) (C := RX2) (T := TX2) (N := 14) hx hb hts hiF hown hK hP 0 rfl rfl 1 (by decide) (hts (.fieldLink RX2 13 "TunerBenchModel" "quarters" "[I") (by decide +kernel)) (fun _ h9 => h9) rfl dX2_quarters_17 ?_
      refine lv_iload_n hx hb dX2_quarters_20 rfl (lv_at hl 1 rfl) ?_
      refine lv_iload_n hx hb dX2_quarters_21 rfl (lv_at hl 2 rfl) ?_
      refine xc_T (As := [.int w, .int x]) (rest := [.ref (a 2)]) ⟨hx, hb, hml, hown, hts⟩ (c_X2_at l w x) (va_cwS 2 hts gX2_quarters_X2_at rfl rfl rfl (by decide +kernel) ⟨Nat.le_of_ble_eq_true rfl, Nat.le_of_ble_eq_true rfl⟩) rfl hl.1 rfl (Nat.le_of_ble_eq_true rfl) dX2_quarters_22 ⟨Nat.zero_le _, Nat.zero_le _⟩ ?_
      refine va_iald (D := D) hx hb hK hP 2 0 rfl rfl (at_in (isW_in c_1) (isF_in c_2)) dX2_quarters_25 ?_
      rw [at_cn (isW_in c_1) (isF_in c_2), mqu_at v (vp_lt (isF_in c_2))]
      refine lv_goto (tgt := 30) hx hb dX2_quarters_26 (by decide) ?_
      exact xr_i hx hb hr hlk dX2_quarters_30 (by simp [aQuar, c_1, c_2])
set_option maxHeartbeats 4000000 in
set_option maxRecDepth 100000 in
theorem c_X2_pick (l : Launch) (D : va_G) (a : Nat → Nat) (cI cZ : ClassId) (v : Nat → Nat → Int32) (G : Nat → Option GT) (dn lt ch gn : Int32) (w h x y : Int32) (okv : ∀ i j : Nat, okV (v i j)) : Met l yX2_pick wsX2_pick ({ frames := 3, cells := 0, slots := 0, locals := 73 }) (xR D vwCl (mb a cI cZ v G dn lt ch gn) (mT cI cZ) xB0 [.ref (a 0), .int w, .int h, .int x, .int y]) (QcRead (aPick v w h x y)) 0 0 (fun _ => False) := by
  refine xr_in (cc := cX2_pick) (maxL := 5) (ret := (some .int)) (by decide) rfl (Nat.le_of_ble_eq_true rfl) ?_
  intro p e s m below meth c ls hx hb hr hml hts hown hlk hP hK hB hl
  have hown : s.vm.findClass RX2 = some m.cls := hown
  have hl : lv_has ls 5 [(0, .ref (a 0)), (1, .int w), (2, .int h), (3, .int x), (4, .int y)] := hl
  have hiF : ∀ w ∈ wsX20, w ∈ wsX2_pick := by decide +kernel
  refine lv_iload_n hx hb dX2_pick_0 rfl (lv_at hl 1 rfl) ?_
  refine lv_iload_n hx hb dX2_pick_1 rfl (lv_at hl 2 rfl) ?_
  refine xc_T (As := [.int w, .int h]) (rest := []) ⟨hx, hb, hml, hown, hts⟩ (c_X2_isAsked l w h) (va_cwS 2 hts gX2_pick_X2_isAsked rfl rfl rfl (by decide +kernel) ⟨Nat.le_of_ble_eq_true rfl, Nat.le_of_ble_eq_true rfl⟩) rfl hl.1 rfl (Nat.le_of_ble_eq_true rfl) dX2_pick_2 ⟨Nat.zero_le _, Nat.zero_le _⟩ ?_
  refine lv_if_eq (tgt := 23) hx hb dX2_pick_5 (by decide) (fun c_1 => ?_) (fun c_1 => ?_)
  · have c_1 := b2i_e c_1
    refine lv_iconst (v := -1) hx hb dX2_pick_23 (by decide) ?_
    exact xr_i hx hb hr hlk dX2_pick_24 (by simp [aPick, qB, c_1])
  · have c_1 := b2i_n c_1
    refine lv_iload_n hx hb dX2_pick_8 rfl (lv_at hl 3 rfl) ?_
    refine xc_T (As := [.int x]) (rest := []) ⟨hx, hb, hml, hown, hts⟩ (c_X2_isStringOrFork l x) (va_cwS 1 hts gX2_pick_X2_isStringOrFork rfl rfl rfl (by decide +kernel) ⟨Nat.le_of_ble_eq_true rfl, Nat.le_of_ble_eq_true rfl⟩) rfl hl.1 rfl (Nat.le_of_ble_eq_true rfl) dX2_pick_9 ⟨Nat.zero_le _, Nat.zero_le _⟩ ?_
    refine lv_if_eq (tgt := 23) hx hb dX2_pick_12 (by decide) (fun c_2 => ?_) (fun c_2 => ?_)
    · have c_2 := b2i_e c_2
      refine lv_iconst (v := -1) hx hb dX2_pick_23 (by decide) ?_
      exact xr_i hx hb hr hlk dX2_pick_24 (by simp [aPick, qB, c_1, c_2])
    · have c_2 := b2i_n c_2
      refine lv_iload hx hb dX2_pick_15 (lv_at hl 4 rfl) ?_
      refine xc_T (As := [.int y]) (rest := []) ⟨hx, hb, hml, hown, hts⟩ (c_X2_isStringOrFork l y) (va_cwS 1 hts gX2_pick_X2_isStringOrFork rfl rfl rfl (by decide +kernel) ⟨Nat.le_of_ble_eq_true rfl, Nat.le_of_ble_eq_true rfl⟩) rfl hl.1 rfl (Nat.le_of_ble_eq_true rfl) dX2_pick_17 ⟨Nat.zero_le _, Nat.zero_le _⟩ ?_
      refine lv_if_ne (tgt := 25) hx hb dX2_pick_20 (by decide) (fun c_3 => ?_) (fun c_3 => ?_)
      · have c_3 := b2i_n c_3
        refine lv_aload_n hx hb dX2_pick_25 rfl (lv_at hl 0 rfl) ?_
        refine lv_iload_n hx hb dX2_pick_26 rfl (lv_at hl 1 rfl) ?_
        refine lv_iload_n hx hb dX2_pick_27 rfl (lv_at hl 2 rfl) ?_
        refine lv_iload_n hx hb dX2_pick_28 rfl (lv_at hl 3 rfl) ?_
        refine lv_iload hx hb dX2_pick_29 (lv_at hl 4 rfl) ?_
        refine xc_R (As := [.int w, .int h, .int x, .int y]) (rest := []) ⟨hx, hb, hml, hown, hts⟩ (c_X2_stands l D a cI cZ v G dn lt ch gn w h x y (isQ_w c_1) (isF_in c_2) (isF_in c_3) (isQ_h c_1) okv) (cwV 4 hts gX2_pick_X2_stands rfl rfl rfl (by decide +kernel) ⟨Nat.le_of_ble_eq_true rfl, Nat.le_of_ble_eq_true rfl⟩) xMv0 trivial hP hK (va_recv hK hP (ci := 2) (q0 := 0) rfl rfl) rfl hl.1 rfl (Nat.le_of_ble_eq_true rfl) dX2_pick_31 ⟨Nat.zero_le _, Nat.zero_le _⟩ ?_
        refine lv_if_eq (tgt := 41) hx hb dX2_pick_34 (by decide) (fun c_4 => ?_) (fun c_4 => ?_)
        · have c_4 := b2i_e c_4
          refine lv_iload hx hb dX2_pick_41 (lv_at hl 4 rfl) ?_
          exact xr_i hx hb hr hlk dX2_pick_43 (by simp [aPick, qB, c_1, c_2, c_3, c_4])
        · have c_4 := b2i_n c_4
          refine lv_iload_n hx hb dX2_pick_37 rfl (lv_at hl 3 rfl) ?_
          refine lv_goto (tgt := 43) hx hb dX2_pick_38 (by decide) ?_
          exact xr_i hx hb hr hlk dX2_pick_43 (by simp [aPick, qB, c_1, c_2, c_3, c_4])
      · have c_3 := b2i_e c_3
        refine lv_iconst (v := -1) hx hb dX2_pick_23 (by decide) ?_
        exact xr_i hx hb hr hlk dX2_pick_24 (by simp [aPick, qB, c_1, c_2, c_3])
set_option maxHeartbeats 4000000 in
set_option maxRecDepth 100000 in
theorem c_X2_holds (l : Launch) (D : va_G) (a : Nat → Nat) (cI cZ : ClassId) (v : Nat → Nat → Int32) (G : Nat → Option GT) (dn lt ch gn : Int32) (sz : Nat) (w h x y : Int32) (okv : ∀ i j : Nat, okV (v i j)) : Met l yX2_holds wsX2_holds ({ frames := 3, cells := 0, slots := 0, locals := 73 }) (xW D vwCl (mb a cI cZ v G dn lt ch gn) (mT cI cZ) xB0 sz [.ref (a 0), .int w, .int h, .int x, .int y]) (xQ (S := Unit) D vwCl (fun r _ => r = aHold v w h x y) (fun _ => mb a cI cZ v G dn (nHold v lt w h x y) ch gn) (fun _ => mT cI cZ) (va_A (mb a cI cZ v G dn lt ch gn) sz)) 0 0 (va_A (mb a cI cZ v G dn lt ch gn) sz) := by
  refine xw_in (Qf := xQ (S := Unit) D vwCl (fun r _ => r = aHold v w h x y) (fun _ => mb a cI cZ v G dn (nHold v lt w h x y) ch gn) (fun _ => mT cI cZ)) (cc := cX2_holds) (maxL := 5) (ret := (some .int)) (by decide) rfl (Nat.le_of_ble_eq_true rfl) ?_
  intro p e s m below meth c ls A hx hb hr hml hts hown hlk hnm hA hP hK hD hS hB hl
  have hown : s.vm.findClass RX2 = some m.cls := hown
  have hl : lv_has ls 5 [(0, .ref (a 0)), (1, .int w), (2, .int h), (3, .int x), (4, .int y)] := hl
  have hiF : ∀ w ∈ wsX20, w ∈ wsX2_holds := by decide +kernel
  refine lv_iload_n hx hb dX2_holds_0 rfl (lv_at hl 1 rfl) ?_
  refine lv_iload_n hx hb dX2_holds_1 rfl (lv_at hl 2 rfl) ?_
  refine xc_T (As := [.int w, .int h]) (rest := []) ⟨hx, hb, hml, hown, hts⟩ (c_X2_isAsked l w h) (va_cwS 2 hts gX2_holds_X2_isAsked rfl rfl rfl (by decide +kernel) ⟨Nat.le_of_ble_eq_true rfl, Nat.le_of_ble_eq_true rfl⟩) rfl hl.1 rfl (Nat.le_of_ble_eq_true rfl) dX2_holds_2 ⟨Nat.zero_le _, Nat.zero_le _⟩ ?_
  refine lv_if_eq (tgt := 23) hx hb dX2_holds_5 (by decide) (fun c_1 => ?_) (fun c_1 => ?_)
  · have c_1 := b2i_e c_1
    refine lv_iconst (v := -1) hx hb dX2_holds_23 (by decide) ?_
    have e_lt : lt = nHold v lt w h x y := by simp [aHold, nHold, qB, b2i, c_1]
    rw [e_lt] at hP hD
    exact xw_i (S := Unit) () hx hb hr hlk dX2_holds_24 hP hK hD hS (by simp [aHold, nHold, qB, b2i, b2i, c_1])
  · have c_1 := b2i_n c_1
    refine lv_iload_n hx hb dX2_holds_8 rfl (lv_at hl 3 rfl) ?_
    refine xc_T (As := [.int x]) (rest := []) ⟨hx, hb, hml, hown, hts⟩ (c_X2_isStringOrFork l x) (va_cwS 1 hts gX2_holds_X2_isStringOrFork rfl rfl rfl (by decide +kernel) ⟨Nat.le_of_ble_eq_true rfl, Nat.le_of_ble_eq_true rfl⟩) rfl hl.1 rfl (Nat.le_of_ble_eq_true rfl) dX2_holds_9 ⟨Nat.zero_le _, Nat.zero_le _⟩ ?_
    refine lv_if_eq (tgt := 23) hx hb dX2_holds_12 (by decide) (fun c_2 => ?_) (fun c_2 => ?_)
    · have c_2 := b2i_e c_2
      refine lv_iconst (v := -1) hx hb dX2_holds_23 (by decide) ?_
      have e_lt : lt = nHold v lt w h x y := by simp [aHold, nHold, qB, b2i, c_1, c_2]
      rw [e_lt] at hP hD
      exact xw_i (S := Unit) () hx hb hr hlk dX2_holds_24 hP hK hD hS (by simp [aHold, nHold, qB, b2i, b2i, c_1, c_2])
    · have c_2 := b2i_n c_2
      refine lv_iload hx hb dX2_holds_15 (lv_at hl 4 rfl) ?_
      refine xc_T (As := [.int y]) (rest := []) ⟨hx, hb, hml, hown, hts⟩ (c_X2_isStringOrFork l y) (va_cwS 1 hts gX2_holds_X2_isStringOrFork rfl rfl rfl (by decide +kernel) ⟨Nat.le_of_ble_eq_true rfl, Nat.le_of_ble_eq_true rfl⟩) rfl hl.1 rfl (Nat.le_of_ble_eq_true rfl) dX2_holds_17 ⟨Nat.zero_le _, Nat.zero_le _⟩ ?_
      refine lv_if_ne (tgt := 25) hx hb dX2_holds_20 (by decide) (fun c_3 => ?_) (fun c_3 => ?_)
      · have c_3 := b2i_n c_3
        refine lv_aload_n hx hb dX2_holds_25 rfl (lv_at hl 0 rfl) ?_
        refine lv_aload_n hx hb dX2_holds_26 rfl (lv_at hl 0 rfl) ?_
        refine lv_iload_n hx hb dX2_holds_27 rfl (lv_at hl 1 rfl) ?_
        refine lv_iload_n hx hb dX2_holds_28 rfl (lv_at hl 2 rfl) ?_
        refine lv_iload_n hx hb dX2_holds_29 rfl (lv_at hl 3 rfl) ?_
        refine lv_iload hx hb dX2_holds_30 (lv_at hl 4 rfl) ?_
        refine xc_R (As := [.int w, .int h, .int x, .int y]) (rest := [.ref (a 0)]) ⟨hx, hb, hml, hown, hts⟩ (c_X2_stands l D a cI cZ v G dn lt ch gn w h x y (isQ_w c_1) (isF_in c_2) (isF_in c_3) (isQ_h c_1) okv) (cwV 4 hts gX2_holds_X2_stands rfl rfl rfl (by decide +kernel) ⟨Nat.le_of_ble_eq_true rfl, Nat.le_of_ble_eq_true rfl⟩) xMv0 trivial hP hK (va_recv hK hP (ci := 2) (q0 := 0) rfl rfl) rfl hl.1 rfl (Nat.le_of_ble_eq_true rfl) dX2_holds_32 ⟨Nat.zero_le _, Nat.zero_le _⟩ ?_
        refine lv_if_eq (tgt := 42) hx hb dX2_holds_35 (by decide) (fun c_4 => ?_) (fun c_4 => ?_)
        · have c_4 := b2i_e c_4
          refine lv_iconst (v := 0) hx hb dX2_holds_42 (by decide) ?_
          refine va_put (D := D) (ci := 2) (v := .int 0) (ty := .int) (C := RX2) (T := TX2) (N := 14) hx hb hts hiF tyX2 tyX2_ok nmX2 hown hK hP hD hS 0 rfl rfl 3 (by decide) (hts (.fieldLink RX2 16 "TunerBenchModel" "latest" "I") (by decide +kernel)) (fun _ h9 => h9) rfl (by decide +kernel) rfl rfl (Nat.le_of_ble_eq_true rfl) dX2_holds_43 (fun H locs hP hD hS => ?_)
          have hP : va_P D vwCl (mb a cI cZ v G dn 0 ch gn) H := hP
          have hD : va_D A (mb a cI cZ v G dn 0 ch gn) := hD
          refine lv_aload_n hx hb dX2_holds_46 rfl (lv_at hl 0 rfl) ?_
          refine va_get (D := D) (ci := 2) (v := .int 0) (C := RX2) (T := TX2) (N := 14) hx hb hts hiF hown hK hP 0 rfl rfl 3 (by decide) (hts (.fieldLink RX2 16 "TunerBenchModel" "latest" "I") (by decide +kernel)) (fun _ h9 => h9) rfl dX2_holds_47 ?_
          have e_lt : 0 = nHold v lt w h x y := by simp [aHold, nHold, qB, b2i, c_1, c_2, c_3, c_4]
          rw [e_lt] at hP hD
          exact xw_i (S := Unit) () hx hb hr hlk dX2_holds_50 hP hK hD hS (by simp [aHold, nHold, qB, b2i, b2i, c_1, c_2, c_3, c_4])
        · have c_4 := b2i_n c_4
          refine lv_iconst (v := 1) hx hb dX2_holds_38 (by decide) ?_
          refine lv_goto (tgt := 43) hx hb dX2_holds_39 (by decide) ?_
          refine va_put (D := D) (ci := 2) (v := .int 1) (ty := .int) (C := RX2) (T := TX2) (N := 14) hx hb hts hiF tyX2 tyX2_ok nmX2 hown hK hP hD hS 0 rfl rfl 3 (by decide) (hts (.fieldLink RX2 16 "TunerBenchModel" "latest" "I") (by decide +kernel)) (fun _ h9 => h9) rfl (by decide +kernel) rfl rfl (Nat.le_of_ble_eq_true rfl) dX2_holds_43 (fun H locs hP hD hS => ?_)
          have hP : va_P D vwCl (mb a cI cZ v G dn 1 ch gn) H := hP
          have hD : va_D A (mb a cI cZ v G dn 1 ch gn) := hD
          refine lv_aload_n hx hb dX2_holds_46 rfl (lv_at hl 0 rfl) ?_
          refine va_get (D := D) (ci := 2) (v := .int 1) (C := RX2) (T := TX2) (N := 14) hx hb hts hiF hown hK hP 0 rfl rfl 3 (by decide) (hts (.fieldLink RX2 16 "TunerBenchModel" "latest" "I") (by decide +kernel)) (fun _ h9 => h9) rfl dX2_holds_47 ?_
          have e_lt : 1 = nHold v lt w h x y := by simp [aHold, nHold, qB, b2i, c_1, c_2, c_3, c_4]
          rw [e_lt] at hP hD
          exact xw_i (S := Unit) () hx hb hr hlk dX2_holds_50 hP hK hD hS (by simp [aHold, nHold, qB, b2i, b2i, c_1, c_2, c_3, c_4])
      · have c_3 := b2i_e c_3
        refine lv_iconst (v := -1) hx hb dX2_holds_23 (by decide) ?_
        have e_lt : lt = nHold v lt w h x y := by simp [aHold, nHold, qB, b2i, c_1, c_2, c_3]
        rw [e_lt] at hP hD
        exact xw_i (S := Unit) () hx hb hr hlk dX2_holds_24 hP hK hD hS (by simp [aHold, nHold, qB, b2i, b2i, c_1, c_2, c_3])
set_option maxHeartbeats 4000000 in
set_option maxRecDepth 100000 in
theorem c_X2_denies (l : Launch) (D : va_G) (a : Nat → Nat) (cI cZ : ClassId) (v : Nat → Nat → Int32) (G : Nat → Option GT) (dn lt ch gn : Int32) (sz : Nat) (w h x y : Int32) (okv : ∀ i j : Nat, okV (v i j)) : Met l yX2_denies wsX2_denies ({ frames := 3, cells := 0, slots := 0, locals := 73 }) (xW D vwCl (mb a cI cZ v G dn lt ch gn) (mT cI cZ) xB0 sz [.ref (a 0), .int w, .int h, .int x, .int y]) (xQ (S := Unit) D vwCl (fun r _ => r = aDeny v w h x y) (fun _ => mb a cI cZ v G (nDeny v dn w h x y) lt ch gn) (fun _ => mT cI cZ) (va_A (mb a cI cZ v G dn lt ch gn) sz)) 0 0 (va_A (mb a cI cZ v G dn lt ch gn) sz) := by
  refine xw_in (Qf := xQ (S := Unit) D vwCl (fun r _ => r = aDeny v w h x y) (fun _ => mb a cI cZ v G (nDeny v dn w h x y) lt ch gn) (fun _ => mT cI cZ)) (cc := cX2_denies) (maxL := 5) (ret := (some .int)) (by decide) rfl (Nat.le_of_ble_eq_true rfl) ?_
  intro p e s m below meth c ls A hx hb hr hml hts hown hlk hnm hA hP hK hD hS hB hl
  have hown : s.vm.findClass RX2 = some m.cls := hown
  have hl : lv_has ls 5 [(0, .ref (a 0)), (1, .int w), (2, .int h), (3, .int x), (4, .int y)] := hl
  have hiF : ∀ w ∈ wsX20, w ∈ wsX2_denies := by decide +kernel
  refine lv_iload_n hx hb dX2_denies_0 rfl (lv_at hl 1 rfl) ?_
  refine lv_iload_n hx hb dX2_denies_1 rfl (lv_at hl 2 rfl) ?_
  refine xc_T (As := [.int w, .int h]) (rest := []) ⟨hx, hb, hml, hown, hts⟩ (c_X2_isAsked l w h) (va_cwS 2 hts gX2_denies_X2_isAsked rfl rfl rfl (by decide +kernel) ⟨Nat.le_of_ble_eq_true rfl, Nat.le_of_ble_eq_true rfl⟩) rfl hl.1 rfl (Nat.le_of_ble_eq_true rfl) dX2_denies_2 ⟨Nat.zero_le _, Nat.zero_le _⟩ ?_
  refine lv_if_eq (tgt := 23) hx hb dX2_denies_5 (by decide) (fun c_1 => ?_) (fun c_1 => ?_)
  · have c_1 := b2i_e c_1
    refine lv_iconst (v := -1) hx hb dX2_denies_23 (by decide) ?_
    have e_dn : dn = nDeny v dn w h x y := by simp [aDeny, nDeny, qB, c_1]
    rw [e_dn] at hP hD
    exact xw_i (S := Unit) () hx hb hr hlk dX2_denies_24 hP hK hD hS (by simp [aDeny, nDeny, qB, b2i, c_1])
  · have c_1 := b2i_n c_1
    refine lv_iload_n hx hb dX2_denies_8 rfl (lv_at hl 3 rfl) ?_
    refine xc_T (As := [.int x]) (rest := []) ⟨hx, hb, hml, hown, hts⟩ (c_X2_isStringOrFork l x) (va_cwS 1 hts gX2_denies_X2_isStringOrFork rfl rfl rfl (by decide +kernel) ⟨Nat.le_of_ble_eq_true rfl, Nat.le_of_ble_eq_true rfl⟩) rfl hl.1 rfl (Nat.le_of_ble_eq_true rfl) dX2_denies_9 ⟨Nat.zero_le _, Nat.zero_le _⟩ ?_
    refine lv_if_eq (tgt := 23) hx hb dX2_denies_12 (by decide) (fun c_2 => ?_) (fun c_2 => ?_)
    · have c_2 := b2i_e c_2
      refine lv_iconst (v := -1) hx hb dX2_denies_23 (by decide) ?_
      have e_dn : dn = nDeny v dn w h x y := by simp [aDeny, nDeny, qB, c_1, c_2]
      rw [e_dn] at hP hD
      exact xw_i (S := Unit) () hx hb hr hlk dX2_denies_24 hP hK hD hS (by simp [aDeny, nDeny, qB, b2i, c_1, c_2])
    · have c_2 := b2i_n c_2
      refine lv_iload hx hb dX2_denies_15 (lv_at hl 4 rfl) ?_
      refine xc_T (As := [.int y]) (rest := []) ⟨hx, hb, hml, hown, hts⟩ (c_X2_isStringOrFork l y) (va_cwS 1 hts gX2_denies_X2_isStringOrFork rfl rfl rfl (by decide +kernel) ⟨Nat.le_of_ble_eq_true rfl, Nat.le_of_ble_eq_true rfl⟩) rfl hl.1 rfl (Nat.le_of_ble_eq_true rfl) dX2_denies_17 ⟨Nat.zero_le _, Nat.zero_le _⟩ ?_
      refine lv_if_ne (tgt := 25) hx hb dX2_denies_20 (by decide) (fun c_3 => ?_) (fun c_3 => ?_)
      · have c_3 := b2i_n c_3
        refine lv_aload_n hx hb dX2_denies_25 rfl (lv_at hl 0 rfl) ?_
        refine lv_iload_n hx hb dX2_denies_26 rfl (lv_at hl 1 rfl) ?_
        refine lv_iload_n hx hb dX2_denies_27 rfl (lv_at hl 2 rfl) ?_
        refine lv_iload_n hx hb dX2_denies_28 rfl (lv_at hl 3 rfl) ?_
        refine lv_iload hx hb dX2_denies_29 (lv_at hl 4 rfl) ?_
        refine xc_R (As := [.int w, .int h, .int x, .int y]) (rest := []) ⟨hx, hb, hml, hown, hts⟩ (c_X2_stands l D a cI cZ v G dn lt ch gn w h x y (isQ_w c_1) (isF_in c_2) (isF_in c_3) (isQ_h c_1) okv) (cwV 4 hts gX2_denies_X2_stands rfl rfl rfl (by decide +kernel) ⟨Nat.le_of_ble_eq_true rfl, Nat.le_of_ble_eq_true rfl⟩) xMv0 trivial hP hK (va_recv hK hP (ci := 2) (q0 := 0) rfl rfl) rfl hl.1 rfl (Nat.le_of_ble_eq_true rfl) dX2_denies_31 ⟨Nat.zero_le _, Nat.zero_le _⟩ ?_
        refine lv_if_eq (tgt := 39) hx hb dX2_denies_34 (by decide) (fun c_4 => ?_) (fun c_4 => ?_)
        · have c_4 := b2i_e c_4
          refine lv_aload_n hx hb dX2_denies_39 rfl (lv_at hl 0 rfl) ?_
          refine lv_dup hx hb dX2_denies_40 rfl ?_
          refine va_get (D := D) (ci := 2) (v := .int dn) (C := RX2) (T := TX2) (N := 14) hx hb hts hiF hown hK hP 0 rfl rfl 2 (by decide) (hts (.fieldLink RX2 76 "TunerBenchModel" "denials" "I") (by decide +kernel)) (fun _ h9 => h9) rfl dX2_denies_41 ?_
          refine lv_iconst (v := 1) hx hb dX2_denies_44 (by decide) ?_
          refine lv_iadd hx hb dX2_denies_45 ?_
          refine va_put (D := D) (ci := 2) (v := .int (dn + 1)) (ty := .int) (C := RX2) (T := TX2) (N := 14) hx hb hts hiF tyX2 tyX2_ok nmX2 hown hK hP hD hS 0 rfl rfl 2 (by decide) (hts (.fieldLink RX2 76 "TunerBenchModel" "denials" "I") (by decide +kernel)) (fun _ h9 => h9) rfl (by decide +kernel) rfl rfl (Nat.le_of_ble_eq_true rfl) dX2_denies_46 (fun H locs hP hD hS => ?_)
          have hP : va_P D vwCl (mb a cI cZ v G (dn + 1) lt ch gn) H := hP
          have hD : va_D A (mb a cI cZ v G (dn + 1) lt ch gn) := hD
          refine lv_iconst (v := 1) hx hb dX2_denies_49 (by decide) ?_
          have e_dn : dn + 1 = nDeny v dn w h x y := by simp [aDeny, nDeny, qB, c_1, c_2, c_3, c_4]
          rw [e_dn] at hP hD
          exact xw_i (S := Unit) () hx hb hr hlk dX2_denies_50 hP hK hD hS (by simp [aDeny, nDeny, qB, b2i, c_1, c_2, c_3, c_4])
        · have c_4 := b2i_n c_4
          refine lv_iconst (v := 0) hx hb dX2_denies_37 (by decide) ?_
          have e_dn : dn = nDeny v dn w h x y := by simp [aDeny, nDeny, qB, c_1, c_2, c_3, c_4]
          rw [e_dn] at hP hD
          exact xw_i (S := Unit) () hx hb hr hlk dX2_denies_38 hP hK hD hS (by simp [aDeny, nDeny, qB, b2i, c_1, c_2, c_3, c_4])
      · have c_3 := b2i_e c_3
        refine lv_iconst (v := -1) hx hb dX2_denies_23 (by decide) ?_
        have e_dn : dn = nDeny v dn w h x y := by simp [aDeny, nDeny, qB, c_1, c_2, c_3]
        rw [e_dn] at hP hD
        exact xw_i (S := Unit) () hx hb hr hlk dX2_denies_24 hP hK hD hS (by simp [aDeny, nDeny, qB, b2i, c_1, c_2, c_3])
set_option maxHeartbeats 4000000 in
set_option maxRecDepth 100000 in
theorem c_X2_put (l : Launch) (D : va_G) (a : Nat → Nat) (cI cZ : ClassId) (v : Nat → Nat → Int32) (G : Nat → Option GT) (dn lt ch gn : Int32) (sz : Nat) (w x so q : Int32) : Met l yX2_put wsX2_put ({ frames := 2, cells := 0, slots := 0, locals := 42 }) (xW D vwCl (mb a cI cZ v G dn lt ch gn) (mT cI cZ) xB0 sz [.ref (a 0), .int w, .int x, .int so, .int q]) (xQ (S := Unit) D vwCl (fun r _ => r = b2i (aPut w x so q)) (fun _ => mb a cI cZ (nPut v w x so q) G dn lt ch gn) (fun _ => mT cI cZ) (va_A (mb a cI cZ v G dn lt ch gn) sz)) 0 0 (va_A (mb a cI cZ v G dn lt ch gn) sz) := by
  refine xw_in (Qf := xQ (S := Unit) D vwCl (fun r _ => r = b2i (aPut w x so q)) (fun _ => mb a cI cZ (nPut v w x so q) G dn lt ch gn) (fun _ => mT cI cZ)) (cc := cX2_put) (maxL := 5) (ret := (some .boolean)) (by decide) rfl (Nat.le_of_ble_eq_true rfl) ?_
  intro p e s m below meth c ls A hx hb hr hml hts hown hlk hnm hA hP hK hD hS hB hl
  have hown : s.vm.findClass RX2 = some m.cls := hown
  have hl : lv_has ls 5 [(0, .ref (a 0)), (1, .int w), (2, .int x), (3, .int so), (4, .int q)] := hl
  have hiF : ∀ w ∈ wsX20, w ∈ wsX2_put := by decide +kernel
  refine lv_iload_n hx hb dX2_put_0 rfl (lv_at hl 1 rfl) ?_
  refine lv_iconst (v := 0) hx hb dX2_put_1 (by decide) ?_
  refine lv_iconst (v := 1) hx hb dX2_put_2 (by decide) ?_
  refine xc_T (As := [.int w, .int 0, .int 1]) (rest := []) ⟨hx, hb, hml, hown, hts⟩ (c_X2_in l w 0 1) (va_cwS 3 hts gX2_put_X2_in rfl rfl rfl (by decide +kernel) ⟨Nat.le_of_ble_eq_true rfl, Nat.le_of_ble_eq_true rfl⟩) rfl hl.1 rfl (Nat.le_of_ble_eq_true rfl) dX2_put_3 ⟨Nat.zero_le _, Nat.zero_le _⟩ ?_
  rw [in01]
  refine lv_if_eq (tgt := 25) hx hb dX2_put_6 (by decide) (fun c_1 => ?_) (fun c_1 => ?_)
  · have c_1 := b2i_e c_1
    refine lv_iconst (v := 0) hx hb dX2_put_25 (by decide) ?_
    have e_v : v = nPut v w x so q := by simp [nPut, aPut, isV_in, show inB 0 0 4 = true by decide, c_1]
    rw [e_v] at hP hD
    exact xw_z (S := Unit) () hx hb hr hlk dX2_put_26 (by decide) hP hK hD hS (by simp [aPut, isV_in, b2i, show inB 0 0 4 = true by decide, c_1])
  · have c_1 := b2i_n c_1
    refine lv_iload_n hx hb dX2_put_9 rfl (lv_at hl 2 rfl) ?_
    refine xc_T (As := [.int x]) (rest := []) ⟨hx, hb, hml, hown, hts⟩ (c_X2_isStringOrFork l x) (va_cwS 1 hts gX2_put_X2_isStringOrFork rfl rfl rfl (by decide +kernel) ⟨Nat.le_of_ble_eq_true rfl, Nat.le_of_ble_eq_true rfl⟩) rfl hl.1 rfl (Nat.le_of_ble_eq_true rfl) dX2_put_10 ⟨Nat.zero_le _, Nat.zero_le _⟩ ?_
    refine lv_if_eq (tgt := 25) hx hb dX2_put_13 (by decide) (fun c_2 => ?_) (fun c_2 => ?_)
    · have c_2 := b2i_e c_2
      refine lv_iconst (v := 0) hx hb dX2_put_25 (by decide) ?_
      have e_v : v = nPut v w x so q := by simp [nPut, aPut, isV_in, show inB 0 0 4 = true by decide, c_1, c_2]
      rw [e_v] at hP hD
      exact xw_z (S := Unit) () hx hb hr hlk dX2_put_26 (by decide) hP hK hD hS (by simp [aPut, isV_in, b2i, show inB 0 0 4 = true by decide, c_1, c_2])
    · have c_2 := b2i_n c_2
      refine lv_iload_n hx hb dX2_put_16 rfl (lv_at hl 3 rfl) ?_
      refine lv_iconst (v := 0) hx hb dX2_put_17 (by decide) ?_
      refine lv_iconst (v := 4) hx hb dX2_put_18 (by decide) ?_
      refine xc_T (As := [.int so, .int 0, .int 4]) (rest := []) ⟨hx, hb, hml, hown, hts⟩ (c_X2_in l so 0 4) (va_cwS 3 hts gX2_put_X2_in rfl rfl rfl (by decide +kernel) ⟨Nat.le_of_ble_eq_true rfl, Nat.le_of_ble_eq_true rfl⟩) rfl hl.1 rfl (Nat.le_of_ble_eq_true rfl) dX2_put_19 ⟨Nat.zero_le _, Nat.zero_le _⟩ ?_
      refine lv_if_ne (tgt := 27) hx hb dX2_put_22 (by decide) (fun c_3 => ?_) (fun c_3 => ?_)
      · have c_3 := b2i_n c_3
        refine lv_iload_n hx hb dX2_put_27 rfl (lv_at hl 3 rfl) ?_
        refine lv_if_ne (tgt := 45) hx hb dX2_put_28 (by decide) (fun c_4 => ?_) (fun c_4 => ?_)
        · refine lv_aload_n hx hb dX2_put_45 rfl (lv_at hl 0 rfl) ?_
          refine va_get (D := D) (ci := 2) (v := .ref (a 1)) (C := RX2) (T := TX2) (N := 14) hx hb hts hiF hown hK hP 0 rfl rfl 0 (by decide) (hts (.fieldLink RX2 7 "TunerBenchModel" "sorts" "[I") (by decide +kernel)) (fun _ h9 => h9) rfl dX2_put_46 ?_
          refine lv_iload_n hx hb dX2_put_49 rfl (lv_at hl 1 rfl) ?_
          refine lv_iload_n hx hb dX2_put_50 rfl (lv_at hl 2 rfl) ?_
          refine xc_T (As := [.int w, .int x]) (rest := [.ref (a 1)]) ⟨hx, hb, hml, hown, hts⟩ (c_X2_at l w x) (va_cwS 2 hts gX2_put_X2_at rfl rfl rfl (by decide +kernel) ⟨Nat.le_of_ble_eq_true rfl, Nat.le_of_ble_eq_true rfl⟩) rfl hl.1 rfl (Nat.le_of_ble_eq_true rfl) dX2_put_51 ⟨Nat.zero_le _, Nat.zero_le _⟩ ?_
          refine lv_iload_n hx hb dX2_put_54 rfl (lv_at hl 3 rfl) ?_
          refine va_iast (D := D) hx hb hK hP hD hS 1 0 rfl rfl (at_in (isW_in c_1) (isF_in c_2)) dX2_put_55 (fun H locs hP hD hS => ?_)
          have hP : va_P D vwCl (mw a cI cZ (upd (mso v) (cn (33 * w + x)) so) (mqu v) (mis G) (mwh G) (mho G) (mmo G) (mks G) (mkq G) (mdi G) (mri G) dn lt ch gn) H := hP
          have hD : va_D A (mw a cI cZ (upd (mso v) (cn (33 * w + x)) so) (mqu v) (mis G) (mwh G) (mho G) (mmo G) (mks G) (mkq G) (mdi G) (mri G) dn lt ch gn) := hD
          refine lv_aload_n hx hb dX2_put_56 rfl (lv_at hl 0 rfl) ?_
          refine va_get (D := D) (ci := 2) (v := .ref (a 2)) (C := RX2) (T := TX2) (N := 14) hx hb hts hiF hown hK hP 0 rfl rfl 1 (by decide) (hts (.fieldLink RX2 13 "TunerBenchModel" "quarters" "[I") (by decide +kernel)) (fun _ h9 => h9) rfl dX2_put_57 ?_
          refine lv_iload_n hx hb dX2_put_60 rfl (lv_at hl 1 rfl) ?_
          refine lv_iload_n hx hb dX2_put_61 rfl (lv_at hl 2 rfl) ?_
          refine xc_T (As := [.int w, .int x]) (rest := [.ref (a 2)]) ⟨hx, hb, hml, hown, hts⟩ (c_X2_at l w x) (va_cwS 2 hts gX2_put_X2_at rfl rfl rfl (by decide +kernel) ⟨Nat.le_of_ble_eq_true rfl, Nat.le_of_ble_eq_true rfl⟩) rfl hl.1 rfl (Nat.le_of_ble_eq_true rfl) dX2_put_62 ⟨Nat.zero_le _, Nat.zero_le _⟩ ?_
          refine lv_iload_n hx hb dX2_put_65 rfl (lv_at hl 3 rfl) ?_
          refine lv_if_ne (tgt := 74) hx hb dX2_put_66 (by decide) (fun c_5 => ?_) (fun c_5 => absurd c_5 c_4)
          refine lv_iconst (v := 0) hx hb dX2_put_74 (by decide) ?_
          refine va_iast (D := D) hx hb hK hP hD hS 2 0 rfl rfl (at_in (isW_in c_1) (isF_in c_2)) dX2_put_75 (fun H locs hP hD hS => ?_)
          have hP : va_P D vwCl (mw a cI cZ (upd (mso v) (cn (33 * w + x)) so) (upd (mqu v) (cn (33 * w + x)) 0) (mis G) (mwh G) (mho G) (mmo G) (mks G) (mkq G) (mdi G) (mri G) dn lt ch gn) H := hP
          have hD : va_D A (mw a cI cZ (upd (mso v) (cn (33 * w + x)) so) (upd (mqu v) (cn (33 * w + x)) 0) (mis G) (mwh G) (mho G) (mmo G) (mks G) (mkq G) (mdi G) (mri G) dn lt ch gn) := hD
          refine lv_iconst (v := 1) hx hb dX2_put_76 (by decide) ?_
          have hput : aPut w x so q = true := by simp [aPut, isV_in, show inB 0 0 4 = true by decide, c_1, c_2, c_3, c_4]
          have hv0 : isVb so q = true := by simp [isV_in, show inB 0 0 4 = true by decide, c_1, c_2, c_3, c_4]
          obtain ⟨-, hv1, hv2⟩ := val_ok hv0
          have e_s : upd (mso v) (cn (33 * w + x)) so = mso (nPut v w x so q) := by simp only [nPut, hput, if_true]; rw [mso_up _ _ (vp_lt (isF_in c_2)), hv1, ← at_cn (isW_in c_1) (isF_in c_2)]
          have e_q : upd (mqu v) (cn (33 * w + x)) 0 = mqu (nPut v w x so q) := by simp only [nPut, hput, if_true]; rw [mqu_up _ _ (vp_lt (isF_in c_2)), hv2, ← at_cn (isW_in c_1) (isF_in c_2)]; simp [c_4]
          rw [e_s, e_q] at hP hD
          exact xw_z (S := Unit) () hx hb hr hlk dX2_put_77 (by decide) hP hK hD hS (by simp [hput, b2i])
        · refine lv_iload hx hb dX2_put_31 (lv_at hl 4 rfl) ?_
          refine lv_ldc (v := -40000) hx hb hown (hts (.constant RX2 66 (-40000)) (by decide +kernel)) dX2_put_33 ?_
          refine lv_ldc (v := 40000) hx hb hown (hts (.constant RX2 67 (40000)) (by decide +kernel)) dX2_put_35 ?_
          refine xc_T (As := [.int q, .int (-40000), .int 40000]) (rest := []) ⟨hx, hb, hml, hown, hts⟩ (c_X2_in l q (-40000) 40000) (va_cwS 3 hts gX2_put_X2_in rfl rfl rfl (by decide +kernel) ⟨Nat.le_of_ble_eq_true rfl, Nat.le_of_ble_eq_true rfl⟩) rfl hl.1 rfl (Nat.le_of_ble_eq_true rfl) dX2_put_37 ⟨Nat.zero_le _, Nat.zero_le _⟩ ?_
          refine lv_if_ne (tgt := 45) hx hb dX2_put_40 (by decide) (fun c_6 => ?_) (fun c_6 => ?_)
          · have c_6 := b2i_n c_6
            refine lv_aload_n hx hb dX2_put_45 rfl (lv_at hl 0 rfl) ?_
            refine va_get (D := D) (ci := 2) (v := .ref (a 1)) (C := RX2) (T := TX2) (N := 14) hx hb hts hiF hown hK hP 0 rfl rfl 0 (by decide) (hts (.fieldLink RX2 7 "TunerBenchModel" "sorts" "[I") (by decide +kernel)) (fun _ h9 => h9) rfl dX2_put_46 ?_
            refine lv_iload_n hx hb dX2_put_49 rfl (lv_at hl 1 rfl) ?_
            refine lv_iload_n hx hb dX2_put_50 rfl (lv_at hl 2 rfl) ?_
            refine xc_T (As := [.int w, .int x]) (rest := [.ref (a 1)]) ⟨hx, hb, hml, hown, hts⟩ (c_X2_at l w x) (va_cwS 2 hts gX2_put_X2_at rfl rfl rfl (by decide +kernel) ⟨Nat.le_of_ble_eq_true rfl, Nat.le_of_ble_eq_true rfl⟩) rfl hl.1 rfl (Nat.le_of_ble_eq_true rfl) dX2_put_51 ⟨Nat.zero_le _, Nat.zero_le _⟩ ?_
            refine lv_iload_n hx hb dX2_put_54 rfl (lv_at hl 3 rfl) ?_
            refine va_iast (D := D) hx hb hK hP hD hS 1 0 rfl rfl (at_in (isW_in c_1) (isF_in c_2)) dX2_put_55 (fun H locs hP hD hS => ?_)
            have hP : va_P D vwCl (mw a cI cZ (upd (mso v) (cn (33 * w + x)) so) (mqu v) (mis G) (mwh G) (mho G) (mmo G) (mks G) (mkq G) (mdi G) (mri G) dn lt ch gn) H := hP
            have hD : va_D A (mw a cI cZ (upd (mso v) (cn (33 * w + x)) so) (mqu v) (mis G) (mwh G) (mho G) (mmo G) (mks G) (mkq G) (mdi G) (mri G) dn lt ch gn) := hD
            refine lv_aload_n hx hb dX2_put_56 rfl (lv_at hl 0 rfl) ?_
            refine va_get (D := D) (ci := 2) (v := .ref (a 2)) (C := RX2) (T := TX2) (N := 14) hx hb hts hiF hown hK hP 0 rfl rfl 1 (by decide) (hts (.fieldLink RX2 13 "TunerBenchModel" "quarters" "[I") (by decide +kernel)) (fun _ h9 => h9) rfl dX2_put_57 ?_
            refine lv_iload_n hx hb dX2_put_60 rfl (lv_at hl 1 rfl) ?_
            refine lv_iload_n hx hb dX2_put_61 rfl (lv_at hl 2 rfl) ?_
            refine xc_T (As := [.int w, .int x]) (rest := [.ref (a 2)]) ⟨hx, hb, hml, hown, hts⟩ (c_X2_at l w x) (va_cwS 2 hts gX2_put_X2_at rfl rfl rfl (by decide +kernel) ⟨Nat.le_of_ble_eq_true rfl, Nat.le_of_ble_eq_true rfl⟩) rfl hl.1 rfl (Nat.le_of_ble_eq_true rfl) dX2_put_62 ⟨Nat.zero_le _, Nat.zero_le _⟩ ?_
            refine lv_iload_n hx hb dX2_put_65 rfl (lv_at hl 3 rfl) ?_
            refine lv_if_ne (tgt := 74) hx hb dX2_put_66 (by decide) (fun c_7 => absurd c_4 c_7) (fun c_7 => ?_)
            refine lv_iload hx hb dX2_put_69 (lv_at hl 4 rfl) ?_
            refine lv_goto (tgt := 75) hx hb dX2_put_71 (by decide) ?_
            refine va_iast (D := D) hx hb hK hP hD hS 2 0 rfl rfl (at_in (isW_in c_1) (isF_in c_2)) dX2_put_75 (fun H locs hP hD hS => ?_)
            have hP : va_P D vwCl (mw a cI cZ (upd (mso v) (cn (33 * w + x)) so) (upd (mqu v) (cn (33 * w + x)) q) (mis G) (mwh G) (mho G) (mmo G) (mks G) (mkq G) (mdi G) (mri G) dn lt ch gn) H := hP
            have hD : va_D A (mw a cI cZ (upd (mso v) (cn (33 * w + x)) so) (upd (mqu v) (cn (33 * w + x)) q) (mis G) (mwh G) (mho G) (mmo G) (mks G) (mkq G) (mdi G) (mri G) dn lt ch gn) := hD
            refine lv_iconst (v := 1) hx hb dX2_put_76 (by decide) ?_
            have hput : aPut w x so q = true := by simp [aPut, isV_in, show inB 0 0 4 = true by decide, c_1, c_2, c_3, c_4, c_6]
            have hv0 : isVb so q = true := by simp [isV_in, show inB 0 0 4 = true by decide, c_1, c_2, c_3, c_4, c_6]
            obtain ⟨-, hv1, hv2⟩ := val_ok hv0
            have e_s : upd (mso v) (cn (33 * w + x)) so = mso (nPut v w x so q) := by simp only [nPut, hput, if_true]; rw [mso_up _ _ (vp_lt (isF_in c_2)), hv1, ← at_cn (isW_in c_1) (isF_in c_2)]
            have e_q : upd (mqu v) (cn (33 * w + x)) q = mqu (nPut v w x so q) := by simp only [nPut, hput, if_true]; rw [mqu_up _ _ (vp_lt (isF_in c_2)), hv2, ← at_cn (isW_in c_1) (isF_in c_2)]; simp [c_4]
            rw [e_s, e_q] at hP hD
            exact xw_z (S := Unit) () hx hb hr hlk dX2_put_77 (by decide) hP hK hD hS (by simp [hput, b2i])
          · have c_6 := b2i_e c_6
            refine lv_iconst (v := 0) hx hb dX2_put_43 (by decide) ?_
            have e_v : v = nPut v w x so q := by simp [nPut, aPut, isV_in, show inB 0 0 4 = true by decide, c_1, c_2, c_3, c_4, c_6]
            rw [e_v] at hP hD
            exact xw_z (S := Unit) () hx hb hr hlk dX2_put_44 (by decide) hP hK hD hS (by simp [aPut, isV_in, b2i, show inB 0 0 4 = true by decide, c_1, c_2, c_3, c_4, c_6])
      · have c_3 := b2i_e c_3
        refine lv_iconst (v := 0) hx hb dX2_put_25 (by decide) ?_
        have e_v : v = nPut v w x so q := by simp [nPut, aPut, isV_in, show inB 0 0 4 = true by decide, c_1, c_2, c_3]
        rw [e_v] at hP hD
        exact xw_z (S := Unit) () hx hb hr hlk dX2_put_26 (by decide) hP hK hD hS (by simp [aPut, isV_in, b2i, show inB 0 0 4 = true by decide, c_1, c_2, c_3])
end
section
/-! the model: its loops -/
set_option maxHeartbeats 4000000 in
set_option maxRecDepth 100000 in
theorem c_X2_climb (l : Launch) (D : va_G) (a : Nat → Nat) (cI cZ : ClassId) (v : Nat → Nat → Int32) (G : Nat → Option GT) (dn lt ch gn : Int32) (w h x : Int32) (okv : ∀ i j : Nat, okV (v i j)) : Met l yX2_climb wsX2_climb ({ frames := 3, cells := 0, slots := 0, locals := 73 }) (xR D vwCl (mb a cI cZ v G dn lt ch gn) (mT cI cZ) xB0 [.ref (a 0), .int w, .int h, .int x]) (QcRead (aClim v w h x)) 0 0 (fun _ => False) := by
  refine xr_in (cc := cX2_climb) (maxL := 5) (ret := (some .int)) (by decide) rfl (Nat.le_of_ble_eq_true rfl) ?_
  intro p e s m below meth c ls hx hb hr hml hts hown hlk hP hK hB hl
  have hown : s.vm.findClass RX2 = some m.cls := hown
  have hl : lv_has ls 5 [(0, .ref (a 0)), (1, .int w), (2, .int h), (3, .int x)] := hl
  have hiF : ∀ w ∈ wsX20, w ∈ wsX2_climb := by decide +kernel
  have loop : vp_in w 2 → isHb h = true → ∀ (n k : Nat), k + n = 31 → nI (clF v (cn w) h n k) = aClim v w h x → ∀ ls : Array Slot, lv_has ls 5 [(4, .int (nI k)), (0, .ref (a 0)), (1, .int w), (2, .int h), (3, .int x)] → W p l e ({ frames := 3, cells := 0, slots := 0, locals := 73 }) s m ([.ref (a 0), .int w, .int h, .int x] : List Value).toArray below meth c s.heap [] 0 0 (MQ below (QcRead (aClim v w h x)) ([.ref (a 0), .int w, .int h, .int x] : List Value).toArray s 0 0 (fun _ => False)) (F0 m 20 ls []) := by
    intro hw hh n
    induction n with
    | zero =>
      intro k hk hres ls hl
      obtain rfl : k = 31 := by omega
      refine lv_iload hx hb dX2_climb_20 (lv_at hl 0 rfl) ?_
      refine lv_iconst (v := 1) hx hb dX2_climb_22 (by decide) ?_
      refine lv_iadd hx hb dX2_climb_23 ?_
      refine lv_bipush (v := 32) hx hb dX2_climb_24 (by decide) ?_
      refine lv_icmp_ge (tgt := 50) hx hb dX2_climb_26 (by decide) (fun c_1 => ?_) (fun c_1 => absurd (by decide) c_1)
      refine lv_iload hx hb dX2_climb_50 (lv_at hl 0 rfl) ?_
      exact xr_i hx hb hr hlk dX2_climb_52 hres
    | succ n ih =>
      intro k hk hres ls hl
      refine lv_iload hx hb dX2_climb_20 (lv_at hl 0 rfl) ?_
      refine lv_iconst (v := 1) hx hb dX2_climb_22 (by decide) ?_
      refine lv_iadd hx hb dX2_climb_23 ?_
      rw [nI_1 k]
      refine lv_bipush (v := 32) hx hb dX2_climb_24 (by decide) ?_
      refine lv_icmp_ge (tgt := 50) hx hb dX2_climb_26 (by decide) (fun c_2 => absurd c_2 (nI_ge (show k + 1 < 32 by omega) (by decide))) (fun c_2 => ?_)
      refine lv_aload_n hx hb dX2_climb_29 rfl (lv_at hl 1 rfl) ?_
      refine lv_iload_n hx hb dX2_climb_30 rfl (lv_at hl 2 rfl) ?_
      refine lv_iload_n hx hb dX2_climb_31 rfl (lv_at hl 3 rfl) ?_
      refine lv_iload hx hb dX2_climb_32 (lv_at hl 0 rfl) ?_
      refine lv_iload hx hb dX2_climb_34 (lv_at hl 0 rfl) ?_
      refine lv_iconst (v := 1) hx hb dX2_climb_36 (by decide) ?_
      refine lv_iadd hx hb dX2_climb_37 ?_
      rw [nI_1 k]
      refine xc_R (As := [.int w, .int h, .int (nI k), .int (nI (k + 1))]) (rest := []) ⟨hx, hb, hml, hown, hts⟩ (c_X2_stands l D a cI cZ v G dn lt ch gn w h (nI k) (nI (k + 1)) hw (vp_in_nI (show k < 33 by omega) (by decide)) (vp_in_nI (show k + 1 < 33 by omega) (by decide)) hh okv) (cwV 4 hts gX2_climb_X2_stands rfl rfl rfl (by decide +kernel) ⟨Nat.le_of_ble_eq_true rfl, Nat.le_of_ble_eq_true rfl⟩) xMv0 trivial hP hK (va_recv hK hP (ci := 2) (q0 := 0) rfl rfl) rfl hl.1 rfl (Nat.le_of_ble_eq_true rfl) dX2_climb_38 ⟨Nat.zero_le _, Nat.zero_le _⟩ ?_
      refine lv_if_eq (tgt := 50) hx hb dX2_climb_41 (by decide) (fun c_3 => ?_) (fun c_3 => ?_)
      · have c_3 := b2i_e c_3
        have c_3 : stnF h (v (cn w) k) (v (cn w) (k + 1)) = false := by simpa [sdF, nI_cn (show k < 2 ^ 31 by omega), nI_cn (show k + 1 < 2 ^ 31 by omega)] using c_3
        refine lv_iload hx hb dX2_climb_50 (lv_at hl 0 rfl) ?_
        exact xr_i hx hb hr hlk dX2_climb_52 (by rw [← hres]; simp [clF, c_3])
      · have c_3 := b2i_n c_3
        have c_3 : stnF h (v (cn w) k) (v (cn w) (k + 1)) = true := by simpa [sdF, nI_cn (show k < 2 ^ 31 by omega), nI_cn (show k + 1 < 2 ^ 31 by omega)] using c_3
        refine lv_iinc (v := nI (k + 1)) (lv' := [(4, .int (nI (k + 1))), (0, .ref (a 0)), (1, .int w), (2, .int h), (3, .int x)]) hx hb dX2_climb_44 hl (k := 0) rfl (nI_1 k) (by decide) rfl (fun ls hl => ?_)
        refine lv_goto (tgt := 20) hx hb dX2_climb_47 (by decide) ?_
        refine ih (k + 1) (by omega) ?_ ls (lv_sub hl [0, 1, 2, 3, 4] rfl)
        rw [← hres]; simp [clF, c_3]
  refine lv_iload_n hx hb dX2_climb_0 rfl (lv_at hl 1 rfl) ?_
  refine lv_iload_n hx hb dX2_climb_1 rfl (lv_at hl 2 rfl) ?_
  refine xc_T (As := [.int w, .int h]) (rest := []) ⟨hx, hb, hml, hown, hts⟩ (c_X2_isAsked l w h) (va_cwS 2 hts gX2_climb_X2_isAsked rfl rfl rfl (by decide +kernel) ⟨Nat.le_of_ble_eq_true rfl, Nat.le_of_ble_eq_true rfl⟩) rfl hl.1 rfl (Nat.le_of_ble_eq_true rfl) dX2_climb_2 ⟨Nat.zero_le _, Nat.zero_le _⟩ ?_
  refine lv_if_eq (tgt := 15) hx hb dX2_climb_5 (by decide) (fun c_4 => ?_) (fun c_4 => ?_)
  · have c_4 := b2i_e c_4
    refine lv_iconst (v := -1) hx hb dX2_climb_15 (by decide) ?_
    exact xr_i hx hb hr hlk dX2_climb_16 (by simp [aClim, c_4])
  · have c_4 := b2i_n c_4
    refine lv_iload_n hx hb dX2_climb_8 rfl (lv_at hl 3 rfl) ?_
    refine xc_T (As := [.int x]) (rest := []) ⟨hx, hb, hml, hown, hts⟩ (c_X2_isString l x) (va_cwS 1 hts gX2_climb_X2_isString rfl rfl rfl (by decide +kernel) ⟨Nat.le_of_ble_eq_true rfl, Nat.le_of_ble_eq_true rfl⟩) rfl hl.1 rfl (Nat.le_of_ble_eq_true rfl) dX2_climb_9 ⟨Nat.zero_le _, Nat.zero_le _⟩ ?_
    refine lv_if_ne (tgt := 17) hx hb dX2_climb_12 (by decide) (fun c_5 => ?_) (fun c_5 => ?_)
    · have c_5 := b2i_n c_5
      refine lv_iload_n hx hb dX2_climb_17 rfl (lv_at hl 3 rfl) ?_
      refine lv_istore (lv' := [(4, .int x), (0, .ref (a 0)), (1, .int w), (2, .int h), (3, .int x)]) hx hb dX2_climb_18 hl (by decide) rfl (fun ls hl => ?_)
      obtain ⟨j, hj, ej⟩ := vp_in_of (isS_in c_5) (by decide)
      have hcj : cn x = j := by rw [ej]; exact nI_cn (by omega)
      refine loop (isQ_w c_4) (isQ_h c_4) (31 - j) j (by omega) ?_ ls ?_
      · simp [aClim, hcj, c_4, c_5]
      · rw [← ej]; exact lv_sub hl [0, 1, 2, 3, 4] rfl
    · have c_5 := b2i_e c_5
      refine lv_iconst (v := -1) hx hb dX2_climb_15 (by decide) ?_
      exact xr_i hx hb hr hlk dX2_climb_16 (by simp [aClim, c_4, c_5])
set_option maxHeartbeats 4000000 in
set_option maxRecDepth 100000 in
theorem c_X2_first (l : Launch) (D : va_G) (a : Nat → Nat) (cI cZ : ClassId) (v : Nat → Nat → Int32) (G : Nat → Option GT) (dn lt ch gn : Int32) (w h x : Int32) (nb : Bool) (okv : ∀ i j : Nat, okV (v i j)) : Met l yX2_first wsX2_first ({ frames := 3, cells := 0, slots := 0, locals := 73 }) (xR D vwCl (mb a cI cZ v G dn lt ch gn) (mT cI cZ) xB0 [.ref (a 0), .int w, .int h, .int x, .int (b2i nb)]) (QcRead (aFirs v w h x nb)) 0 0 (fun _ => False) := by
  refine xr_in (cc := cX2_first) (maxL := 6) (ret := (some .int)) (by decide) rfl (Nat.le_of_ble_eq_true rfl) ?_
  intro p e s m below meth c ls hx hb hr hml hts hown hlk hP hK hB hl
  have hown : s.vm.findClass RX2 = some m.cls := hown
  have hl : lv_has ls 6 [(0, .ref (a 0)), (1, .int w), (2, .int h), (3, .int x), (4, .int (b2i nb))] := hl
  have hiF : ∀ w ∈ wsX20, w ∈ wsX2_first := by decide +kernel
  have loop : vp_in w 2 → isHb h = true → ∀ (n k : Nat), k + n = 32 → fsF v (cn w) h nb n k = aFirs v w h x nb → ∀ ls : Array Slot, lv_has ls 6 [(5, .int (nI k)), (0, .ref (a 0)), (1, .int w), (2, .int h), (3, .int x), (4, .int (b2i nb))] → W p l e ({ frames := 3, cells := 0, slots := 0, locals := 73 }) s m ([.ref (a 0), .int w, .int h, .int x, .int (b2i nb)] : List Value).toArray below meth c s.heap [] 0 0 (MQ below (QcRead (aFirs v w h x nb)) ([.ref (a 0), .int w, .int h, .int x, .int (b2i nb)] : List Value).toArray s 0 0 (fun _ => False)) (F0 m 20 ls []) := by
    intro hw hh n
    induction n with
    | zero =>
      intro k hk hres ls hl
      obtain rfl : k = 32 := by omega
      refine lv_iload hx hb dX2_first_20 (lv_at hl 0 rfl) ?_
      refine lv_bipush (v := 32) hx hb dX2_first_22 (by decide) ?_
      refine lv_icmp_ge (tgt := 51) hx hb dX2_first_24 (by decide) (fun c_1 => ?_) (fun c_1 => absurd (by decide) c_1)
      refine lv_iconst (v := -1) hx hb dX2_first_51 (by decide) ?_
      exact xr_i hx hb hr hlk dX2_first_52 hres
    | succ n ih =>
      intro k hk hres ls hl
      refine lv_iload hx hb dX2_first_20 (lv_at hl 0 rfl) ?_
      refine lv_bipush (v := 32) hx hb dX2_first_22 (by decide) ?_
      refine lv_icmp_ge (tgt := 51) hx hb dX2_first_24 (by decide) (fun c_2 => absurd c_2 (nI_ge (show k < 32 by omega) (by decide))) (fun c_2 => ?_)
      refine lv_aload_n hx hb dX2_first_27 rfl (lv_at hl 1 rfl) ?_
      refine lv_iload_n hx hb dX2_first_28 rfl (lv_at hl 2 rfl) ?_
      refine lv_iload_n hx hb dX2_first_29 rfl (lv_at hl 3 rfl) ?_
      refine lv_iload hx hb dX2_first_30 (lv_at hl 0 rfl) ?_
      refine lv_bipush (v := 32) hx hb dX2_first_32 (by decide) ?_
      refine xc_R (As := [.int w, .int h, .int (nI k), .int 32]) (rest := []) ⟨hx, hb, hml, hown, hts⟩ (c_X2_stands l D a cI cZ v G dn lt ch gn w h (nI k) 32 hw (vp_in_nI (show k < 33 by omega) (by decide)) (show vp_in (32) 33 by unfold vp_in; decide) hh okv) (cwV 4 hts gX2_first_X2_stands rfl rfl rfl (by decide +kernel) ⟨Nat.le_of_ble_eq_true rfl, Nat.le_of_ble_eq_true rfl⟩) xMv0 trivial hP hK (va_recv hK hP (ci := 2) (q0 := 0) rfl rfl) rfl hl.1 rfl (Nat.le_of_ble_eq_true rfl) dX2_first_34 ⟨Nat.zero_le _, Nat.zero_le _⟩ ?_
      refine lv_iload hx hb dX2_first_37 (lv_at hl 5 rfl) ?_
      refine lv_icmp_eq (tgt := 45) hx hb dX2_first_39 (by decide) (fun c_3 => ?_) (fun c_3 => ?_)
      · have c_3 : (stnF h (v (cn w) k) (v (cn w) 32) != nb) = false := by
          have q9 := b2i_eq c_3
          simpa [sdF, nI_cn (show k < 2 ^ 31 by omega), show cn 32 = 32 by decide] using q9
        refine lv_iinc (v := nI (k + 1)) (lv' := [(5, .int (nI (k + 1))), (0, .ref (a 0)), (1, .int w), (2, .int h), (3, .int x), (4, .int (b2i nb))]) hx hb dX2_first_45 hl (k := 0) rfl (nI_1 k) (by decide) rfl (fun ls hl => ?_)
        refine lv_goto (tgt := 20) hx hb dX2_first_48 (by decide) ?_
        refine ih (k + 1) (by omega) ?_ ls (lv_sub hl [0, 1, 2, 3, 4, 5] rfl)
        rw [← hres]; simp only [fsF, c_3]; simp
      · have c_3 : (stnF h (v (cn w) k) (v (cn w) 32) != nb) = true := by
          have q9 := b2i_ne c_3
          simpa [sdF, nI_cn (show k < 2 ^ 31 by omega), show cn 32 = 32 by decide] using q9
        refine lv_iload hx hb dX2_first_42 (lv_at hl 0 rfl) ?_
        exact xr_i hx hb hr hlk dX2_first_44 (by rw [← hres]; simp only [fsF, c_3]; simp)
  refine lv_iload_n hx hb dX2_first_0 rfl (lv_at hl 1 rfl) ?_
  refine lv_iload_n hx hb dX2_first_1 rfl (lv_at hl 2 rfl) ?_
  refine xc_T (As := [.int w, .int h]) (rest := []) ⟨hx, hb, hml, hown, hts⟩ (c_X2_isAsked l w h) (va_cwS 2 hts gX2_first_X2_isAsked rfl rfl rfl (by decide +kernel) ⟨Nat.le_of_ble_eq_true rfl, Nat.le_of_ble_eq_true rfl⟩) rfl hl.1 rfl (Nat.le_of_ble_eq_true rfl) dX2_first_2 ⟨Nat.zero_le _, Nat.zero_le _⟩ ?_
  refine lv_if_eq (tgt := 15) hx hb dX2_first_5 (by decide) (fun c_4 => ?_) (fun c_4 => ?_)
  · have c_4 := b2i_e c_4
    refine lv_iconst (v := -1) hx hb dX2_first_15 (by decide) ?_
    exact xr_i hx hb hr hlk dX2_first_16 (by simp [aFirs, c_4])
  · have c_4 := b2i_n c_4
    refine lv_iload_n hx hb dX2_first_8 rfl (lv_at hl 3 rfl) ?_
    refine xc_T (As := [.int x]) (rest := []) ⟨hx, hb, hml, hown, hts⟩ (c_X2_isString l x) (va_cwS 1 hts gX2_first_X2_isString rfl rfl rfl (by decide +kernel) ⟨Nat.le_of_ble_eq_true rfl, Nat.le_of_ble_eq_true rfl⟩) rfl hl.1 rfl (Nat.le_of_ble_eq_true rfl) dX2_first_9 ⟨Nat.zero_le _, Nat.zero_le _⟩ ?_
    refine lv_if_ne (tgt := 17) hx hb dX2_first_12 (by decide) (fun c_5 => ?_) (fun c_5 => ?_)
    · have c_5 := b2i_n c_5
      refine lv_iload_n hx hb dX2_first_17 rfl (lv_at hl 3 rfl) ?_
      refine lv_istore (lv' := [(5, .int x), (0, .ref (a 0)), (1, .int w), (2, .int h), (3, .int x), (4, .int (b2i nb))]) hx hb dX2_first_18 hl (by decide) rfl (fun ls hl => ?_)
      obtain ⟨j, hj, ej⟩ := vp_in_of (isS_in c_5) (by decide)
      have hcj : cn x = j := by rw [ej]; exact nI_cn (by omega)
      refine loop (isQ_w c_4) (isQ_h c_4) (32 - j) j (by omega) ?_ ls ?_
      · simp [aFirs, hcj, c_4, c_5]
      · rw [← ej]; exact lv_sub hl [0, 1, 2, 3, 4, 5] rfl
    · have c_5 := b2i_e c_5
      refine lv_iconst (v := -1) hx hb dX2_first_15 (by decide) ?_
      exact xr_i hx hb hr hlk dX2_first_16 (by simp [aFirs, c_4, c_5])
set_option maxHeartbeats 4000000 in
set_option maxRecDepth 100000 in
theorem c_X2_best (l : Launch) (D : va_G) (a : Nat → Nat) (cI cZ : ClassId) (v : Nat → Nat → Int32) (G : Nat → Option GT) (dn lt ch gn : Int32) (w h : Int32) (nb : Bool) (okv : ∀ i j : Nat, okV (v i j)) : Met l yX2_best wsX2_best ({ frames := 3, cells := 0, slots := 0, locals := 73 }) (xR D vwCl (mb a cI cZ v G dn lt ch gn) (mT cI cZ) xB0 [.ref (a 0), .int w, .int h, .int (b2i nb)]) (QcRead (aBest v w h nb)) 0 0 (fun _ => False) := by
  refine xr_in (cc := cX2_best) (maxL := 6) (ret := (some .int)) (by decide) rfl (Nat.le_of_ble_eq_true rfl) ?_
  intro p e s m below meth c ls hx hb hr hml hts hown hlk hP hK hB hl
  have hown : s.vm.findClass RX2 = some m.cls := hown
  have hl : lv_has ls 6 [(0, .ref (a 0)), (1, .int w), (2, .int h), (3, .int (b2i nb))] := hl
  have hiF : ∀ w ∈ wsX20, w ∈ wsX2_best := by decide +kernel
  have loop : vp_in w 2 → isHb h = true → ∀ (n k f : Nat), k + n = 32 → f < 32 → nI (bsF v (cn w) h nb n k f) = aBest v w h nb → ∀ ls : Array Slot, lv_has ls 6 [(5, .int (nI k)), (4, .int (nI f)), (0, .ref (a 0)), (1, .int w), (2, .int h), (3, .int (b2i nb))] → W p l e ({ frames := 3, cells := 0, slots := 0, locals := 73 }) s m ([.ref (a 0), .int w, .int h, .int (b2i nb)] : List Value).toArray below meth c s.heap [] 0 0 (MQ below (QcRead (aBest v w h nb)) ([.ref (a 0), .int w, .int h, .int (b2i nb)] : List Value).toArray s 0 0 (fun _ => False)) (F0 m 16 ls []) := by
    intro hw hh n
    induction n with
    | zero =>
      intro k f hk hf hres ls hl
      obtain rfl : k = 32 := by omega
      refine lv_iload hx hb dX2_best_16 (lv_at hl 0 rfl) ?_
      refine lv_bipush (v := 32) hx hb dX2_best_18 (by decide) ?_
      refine lv_icmp_ge (tgt := 47) hx hb dX2_best_20 (by decide) (fun c_1 => ?_) (fun c_1 => absurd (by decide) c_1)
      refine lv_iload hx hb dX2_best_47 (lv_at hl 1 rfl) ?_
      exact xr_i hx hb hr hlk dX2_best_49 hres
    | succ n ih =>
      intro k f hk hf hres ls hl
      refine lv_iload hx hb dX2_best_16 (lv_at hl 0 rfl) ?_
      refine lv_bipush (v := 32) hx hb dX2_best_18 (by decide) ?_
      refine lv_icmp_ge (tgt := 47) hx hb dX2_best_20 (by decide) (fun c_2 => absurd c_2 (nI_ge (show k < 32 by omega) (by decide))) (fun c_2 => ?_)
      refine lv_aload_n hx hb dX2_best_23 rfl (lv_at hl 2 rfl) ?_
      refine lv_iload_n hx hb dX2_best_24 rfl (lv_at hl 3 rfl) ?_
      refine lv_iload_n hx hb dX2_best_25 rfl (lv_at hl 4 rfl) ?_
      refine lv_iload hx hb dX2_best_26 (lv_at hl 0 rfl) ?_
      refine lv_iload hx hb dX2_best_28 (lv_at hl 1 rfl) ?_
      refine xc_R (As := [.int w, .int h, .int (nI k), .int (nI f)]) (rest := []) ⟨hx, hb, hml, hown, hts⟩ (c_X2_stands l D a cI cZ v G dn lt ch gn w h (nI k) (nI f) hw (vp_in_nI (show k < 33 by omega) (by decide)) (vp_in_nI (show f < 33 by omega) (by decide)) hh okv) (cwV 4 hts gX2_best_X2_stands rfl rfl rfl (by decide +kernel) ⟨Nat.le_of_ble_eq_true rfl, Nat.le_of_ble_eq_true rfl⟩) xMv0 trivial hP hK (va_recv hK hP (ci := 2) (q0 := 0) rfl rfl) rfl hl.1 rfl (Nat.le_of_ble_eq_true rfl) dX2_best_30 ⟨Nat.zero_le _, Nat.zero_le _⟩ ?_
      refine lv_iload_n hx hb dX2_best_33 rfl (lv_at hl 5 rfl) ?_
      refine lv_icmp_eq (tgt := 41) hx hb dX2_best_34 (by decide) (fun c_3 => ?_) (fun c_3 => ?_)
      · have c_3 : (stnF h (v (cn w) k) (v (cn w) f) != nb) = false := by
          have q9 := b2i_eq c_3
          simpa [sdF, nI_cn (show k < 2 ^ 31 by omega), nI_cn (show f < 2 ^ 31 by omega)] using q9
        refine lv_iinc (v := nI (k + 1)) (lv' := [(5, .int (nI (k + 1))), (4, .int (nI f)), (0, .ref (a 0)), (1, .int w), (2, .int h), (3, .int (b2i nb))]) hx hb dX2_best_41 hl (k := 0) rfl (nI_1 k) (by decide) rfl (fun ls hl => ?_)
        refine lv_goto (tgt := 16) hx hb dX2_best_44 (by decide) ?_
        refine ih (k + 1) f (by omega) (by omega) ?_ ls (lv_sub hl [0, 1, 2, 3, 4, 5] rfl)
        rw [← hres]; simp only [bsF, c_3]; simp
      · have c_3 : (stnF h (v (cn w) k) (v (cn w) f) != nb) = true := by
          have q9 := b2i_ne c_3
          simpa [sdF, nI_cn (show k < 2 ^ 31 by omega), nI_cn (show f < 2 ^ 31 by omega)] using q9
        refine lv_iload hx hb dX2_best_37 (lv_at hl 0 rfl) ?_
        refine lv_istore (lv' := [(4, .int (nI k)), (5, .int (nI k)), (0, .ref (a 0)), (1, .int w), (2, .int h), (3, .int (b2i nb))]) hx hb dX2_best_39 hl (by decide) rfl (fun ls hl => ?_)
        refine lv_iinc (v := nI (k + 1)) (lv' := [(5, .int (nI (k + 1))), (4, .int (nI k)), (0, .ref (a 0)), (1, .int w), (2, .int h), (3, .int (b2i nb))]) hx hb dX2_best_41 hl (k := 1) rfl (nI_1 k) (by decide) rfl (fun ls hl => ?_)
        refine lv_goto (tgt := 16) hx hb dX2_best_44 (by decide) ?_
        refine ih (k + 1) k (by omega) (by omega) ?_ ls (lv_sub hl [0, 1, 2, 3, 4, 5] rfl)
        rw [← hres]; simp only [bsF, c_3]; simp
  refine lv_iload_n hx hb dX2_best_0 rfl (lv_at hl 1 rfl) ?_
  refine lv_iload_n hx hb dX2_best_1 rfl (lv_at hl 2 rfl) ?_
  refine xc_T (As := [.int w, .int h]) (rest := []) ⟨hx, hb, hml, hown, hts⟩ (c_X2_isAsked l w h) (va_cwS 2 hts gX2_best_X2_isAsked rfl rfl rfl (by decide +kernel) ⟨Nat.le_of_ble_eq_true rfl, Nat.le_of_ble_eq_true rfl⟩) rfl hl.1 rfl (Nat.le_of_ble_eq_true rfl) dX2_best_2 ⟨Nat.zero_le _, Nat.zero_le _⟩ ?_
  refine lv_if_ne (tgt := 10) hx hb dX2_best_5 (by decide) (fun c_4 => ?_) (fun c_4 => ?_)
  · have c_4 := b2i_n c_4
    refine lv_iconst (v := 0) hx hb dX2_best_10 (by decide) ?_
    refine lv_istore (lv' := [(4, .int 0), (0, .ref (a 0)), (1, .int w), (2, .int h), (3, .int (b2i nb))]) hx hb dX2_best_11 hl (by decide) rfl (fun ls hl => ?_)
    refine lv_iconst (v := 1) hx hb dX2_best_13 (by decide) ?_
    refine lv_istore (lv' := [(5, .int 1), (4, .int 0), (0, .ref (a 0)), (1, .int w), (2, .int h), (3, .int (b2i nb))]) hx hb dX2_best_14 hl (by decide) rfl (fun ls hl => ?_)
    refine loop (isQ_w c_4) (isQ_h c_4) 31 1 0 (by omega) (by omega) ?_ ls (lv_sub hl [0, 1, 2, 3, 4, 5] rfl)
    simp [aBest, c_4]
  · have c_4 := b2i_e c_4
    refine lv_iconst (v := -1) hx hb dX2_best_8 (by decide) ?_
    exact xr_i hx hb hr hlk dX2_best_9 (by simp [aBest, c_4])
theorem srt1 (z : Int32) : srtF z = 1 ↔ z = 40003 := by
  unfold srtF
  by_cases h : z = 40003
  · simp [h]
  · by_cases h2 : z = 40002
    · simp [h, h2]
    · by_cases h3 : z = 40001
      · simp [h, h2, h3]
      · by_cases h4 : z = -40001
        · simp [h, h2, h3, h4]
        · simp [h, h2, h3, h4]
set_option maxHeartbeats 4000000 in
set_option maxRecDepth 100000 in
theorem c_X2_within (l : Launch) (D : va_G) (a : Nat → Nat) (cI cZ : ClassId) (v : Nat → Nat → Int32) (G : Nat → Option GT) (dn lt ch gn : Int32) (w x y z : Int32) (okv : ∀ i j : Nat, okV (v i j)) : Met l yX2_within wsX2_within ({ frames := 3, cells := 0, slots := 0, locals := 73 }) (xR D vwCl (mb a cI cZ v G dn lt ch gn) (mT cI cZ) xB0 [.ref (a 0), .int w, .int x, .int y, .int z]) (QcRead (aWith v w x y z)) 0 0 (fun _ => False) := by
  refine xr_in (cc := cX2_within) (maxL := 6) (ret := (some .int)) (by decide) rfl (Nat.le_of_ble_eq_true rfl) ?_
  intro p e s m below meth c ls hx hb hr hml hts hown hlk hP hK hB hl
  have hown : s.vm.findClass RX2 = some m.cls := hown
  have hl : lv_has ls 6 [(0, .ref (a 0)), (1, .int w), (2, .int x), (3, .int y), (4, .int z)] := hl
  have hiF : ∀ w ∈ wsX20, w ∈ wsX2_within := by decide +kernel
  have J0 : isWb w = true → isSb x = true → isFb y = true → isFb z = true → ∀ (u : Int32), u = aWith v w x y z → ∀ ls : Array Slot, lv_has ls 6 [(5, .int u), (0, .ref (a 0)), (1, .int w), (2, .int x), (3, .int y), (4, .int z)] → W p l e ({ frames := 3, cells := 0, slots := 0, locals := 73 }) s m ([.ref (a 0), .int w, .int x, .int y, .int z] : List Value).toArray below meth c s.heap [] 0 0 (MQ below (QcRead (aWith v w x y z)) ([.ref (a 0), .int w, .int x, .int y, .int z] : List Value).toArray s 0 0 (fun _ => False)) (F0 m 131 ls []) := by
    intro hw0 hx0 hy0 hz0 u hres ls hl
    refine lv_iload hx hb dX2_within_131 (lv_at hl 0 rfl) ?_
    exact xr_i hx hb hr hlk dX2_within_133 hres
  have J1 : isWb w = true → isSb x = true → isFb y = true → isFb z = true → ∀ (u : Int32), u + w4F v w x = aWith v w x y z → ∀ ls : Array Slot, lv_has ls 6 [(5, .int u), (0, .ref (a 0)), (1, .int w), (2, .int x), (3, .int y), (4, .int z)] → W p l e ({ frames := 3, cells := 0, slots := 0, locals := 73 }) s m ([.ref (a 0), .int w, .int x, .int y, .int z] : List Value).toArray below meth c s.heap [] 0 0 (MQ below (QcRead (aWith v w x y z)) ([.ref (a 0), .int w, .int x, .int y, .int z] : List Value).toArray s 0 0 (fun _ => False)) (F0 m 114 ls []) := by
    intro hw0 hx0 hy0 hz0 u hres ls hl
    refine lv_aload_n hx hb dX2_within_114 rfl (lv_at hl 1 rfl) ?_
    refine va_get (D := D) (ci := 2) (v := .ref (a 1)) (C := RX2) (T := TX2) (N := 14) hx hb hts hiF hown hK hP 0 rfl rfl 0 (by decide) (hts (.fieldLink RX2 7 "TunerBenchModel" "sorts" "[I") (by decide +kernel)) (fun _ h9 => h9) rfl dX2_within_115 ?_
    refine lv_iload_n hx hb dX2_within_118 rfl (lv_at hl 2 rfl) ?_
    refine lv_iload_n hx hb dX2_within_119 rfl (lv_at hl 3 rfl) ?_
    refine xc_T (As := [.int w, .int x]) (rest := [.ref (a 1)]) ⟨hx, hb, hml, hown, hts⟩ (c_X2_at l w x) (va_cwS 2 hts gX2_within_X2_at rfl rfl rfl (by decide +kernel) ⟨Nat.le_of_ble_eq_true rfl, Nat.le_of_ble_eq_true rfl⟩) rfl hl.1 rfl (Nat.le_of_ble_eq_true rfl) dX2_within_120 ⟨Nat.zero_le _, Nat.zero_le _⟩ ?_
    refine va_iald (D := D) hx hb hK hP 1 0 rfl rfl (at_in (isW_in hw0) (isF_in (isS_F hx0))) dX2_within_123 ?_
    rw [at_cn (isW_in hw0) (isF_in (isS_F hx0)), mso_at v (vp_lt (isF_in (isS_F hx0)))]
    refine lv_iconst (v := 1) hx hb dX2_within_124 (by decide) ?_
    refine lv_icmp_ne (tgt := 131) hx hb dX2_within_125 (by decide) (fun c_1 => ?_) (fun c_1 => ?_)
    · rw [srt1] at c_1
      refine J0 hw0 hx0 hy0 hz0 _ ?_ ls (lv_sub hl [0, 1, 2, 3, 4, 5] rfl)
      rw [← hres]; simp [w4F, c_1]
    · rw [srt1] at c_1
      refine lv_iinc (v := u + 8) (lv' := [(5, .int (u + 8)), (0, .ref (a 0)), (1, .int w), (2, .int x), (3, .int y), (4, .int z)]) hx hb dX2_within_128 hl (k := 0) rfl (rfl) (by decide) rfl (fun ls hl => ?_)
      refine J0 hw0 hx0 hy0 hz0 _ ?_ ls (lv_sub hl [0, 1, 2, 3, 4, 5] rfl)
      rw [← hres]; simp [w4F, c_1]
  have J2 : isWb w = true → isSb x = true → isFb y = true → isFb z = true → ∀ (u : Int32), (u + w3F v w x y z) + w4F v w x = aWith v w x y z → ∀ ls : Array Slot, lv_has ls 6 [(5, .int u), (0, .ref (a 0)), (1, .int w), (2, .int x), (3, .int y), (4, .int z)] → W p l e ({ frames := 3, cells := 0, slots := 0, locals := 73 }) s m ([.ref (a 0), .int w, .int x, .int y, .int z] : List Value).toArray below meth c s.heap [] 0 0 (MQ below (QcRead (aWith v w x y z)) ([.ref (a 0), .int w, .int x, .int y, .int z] : List Value).toArray s 0 0 (fun _ => False)) (F0 m 88 ls []) := by
    intro hw0 hx0 hy0 hz0 u hres ls hl
    refine lv_aload_n hx hb dX2_within_88 rfl (lv_at hl 1 rfl) ?_
    refine lv_iload_n hx hb dX2_within_89 rfl (lv_at hl 2 rfl) ?_
    refine lv_iconst (v := 0) hx hb dX2_within_90 (by decide) ?_
    refine lv_iload_n hx hb dX2_within_91 rfl (lv_at hl 3 rfl) ?_
    refine lv_iload_n hx hb dX2_within_92 rfl (lv_at hl 4 rfl) ?_
    refine xc_R (As := [.int w, .int 0, .int x, .int y]) (rest := []) ⟨hx, hb, hml, hown, hts⟩ (c_X2_stands l D a cI cZ v G dn lt ch gn w 0 x y (isW_in hw0) (isF_in (isS_F hx0)) (isF_in hy0) (by decide) okv) (cwV 4 hts gX2_within_X2_stands rfl rfl rfl (by decide +kernel) ⟨Nat.le_of_ble_eq_true rfl, Nat.le_of_ble_eq_true rfl⟩) xMv0 trivial hP hK (va_recv hK hP (ci := 2) (q0 := 0) rfl rfl) rfl hl.1 rfl (Nat.le_of_ble_eq_true rfl) dX2_within_93 ⟨Nat.zero_le _, Nat.zero_le _⟩ ?_
    refine lv_if_ne (tgt := 111) hx hb dX2_within_96 (by decide) (fun c_2 => ?_) (fun c_2 => ?_)
    · have c_2 := b2i_n c_2
      refine lv_iinc (v := u + 4) (lv' := [(5, .int (u + 4)), (0, .ref (a 0)), (1, .int w), (2, .int x), (3, .int y), (4, .int z)]) hx hb dX2_within_111 hl (k := 0) rfl (rfl) (by decide) rfl (fun ls hl => ?_)
      refine J1 hw0 hx0 hy0 hz0 _ ?_ ls (lv_sub hl [0, 1, 2, 3, 4, 5] rfl)
      rw [← hres]; simp [w3F, c_2]
    · have c_2 := b2i_e c_2
      refine lv_aload_n hx hb dX2_within_99 rfl (lv_at hl 1 rfl) ?_
      refine lv_iload_n hx hb dX2_within_100 rfl (lv_at hl 2 rfl) ?_
      refine lv_iconst (v := 2) hx hb dX2_within_101 (by decide) ?_
      refine lv_iload_n hx hb dX2_within_102 rfl (lv_at hl 3 rfl) ?_
      refine lv_iload hx hb dX2_within_103 (lv_at hl 5 rfl) ?_
      refine xc_R (As := [.int w, .int 2, .int x, .int z]) (rest := []) ⟨hx, hb, hml, hown, hts⟩ (c_X2_stands l D a cI cZ v G dn lt ch gn w 2 x z (isW_in hw0) (isF_in (isS_F hx0)) (isF_in hz0) (by decide) okv) (cwV 4 hts gX2_within_X2_stands rfl rfl rfl (by decide +kernel) ⟨Nat.le_of_ble_eq_true rfl, Nat.le_of_ble_eq_true rfl⟩) xMv0 trivial hP hK (va_recv hK hP (ci := 2) (q0 := 0) rfl rfl) rfl hl.1 rfl (Nat.le_of_ble_eq_true rfl) dX2_within_105 ⟨Nat.zero_le _, Nat.zero_le _⟩ ?_
      refine lv_if_eq (tgt := 114) hx hb dX2_within_108 (by decide) (fun c_3 => ?_) (fun c_3 => ?_)
      · have c_3 := b2i_e c_3
        refine J1 hw0 hx0 hy0 hz0 _ ?_ ls (lv_sub hl [0, 1, 2, 3, 4, 5] rfl)
        rw [← hres]; simp [w3F, c_2, c_3]
      · have c_3 := b2i_n c_3
        refine lv_iinc (v := u + 4) (lv' := [(5, .int (u + 4)), (0, .ref (a 0)), (1, .int w), (2, .int x), (3, .int y), (4, .int z)]) hx hb dX2_within_111 hl (k := 0) rfl (rfl) (by decide) rfl (fun ls hl => ?_)
        refine J1 hw0 hx0 hy0 hz0 _ ?_ ls (lv_sub hl [0, 1, 2, 3, 4, 5] rfl)
        rw [← hres]; simp [w3F, c_2, c_3]
  have J3 : isWb w = true → isSb x = true → isFb y = true → isFb z = true → ∀ (u : Int32), ((u + w2F v w x y z) + w3F v w x y z) + w4F v w x = aWith v w x y z → ∀ ls : Array Slot, lv_has ls 6 [(5, .int u), (0, .ref (a 0)), (1, .int w), (2, .int x), (3, .int y), (4, .int z)] → W p l e ({ frames := 3, cells := 0, slots := 0, locals := 73 }) s m ([.ref (a 0), .int w, .int x, .int y, .int z] : List Value).toArray below meth c s.heap [] 0 0 (MQ below (QcRead (aWith v w x y z)) ([.ref (a 0), .int w, .int x, .int y, .int z] : List Value).toArray s 0 0 (fun _ => False)) (F0 m 62 ls []) := by
    intro hw0 hx0 hy0 hz0 u hres ls hl
    refine lv_aload_n hx hb dX2_within_62 rfl (lv_at hl 1 rfl) ?_
    refine lv_iload_n hx hb dX2_within_63 rfl (lv_at hl 2 rfl) ?_
    refine lv_iconst (v := 0) hx hb dX2_within_64 (by decide) ?_
    refine lv_iload_n hx hb dX2_within_65 rfl (lv_at hl 3 rfl) ?_
    refine lv_iload_n hx hb dX2_within_66 rfl (lv_at hl 4 rfl) ?_
    refine xc_R (As := [.int w, .int 0, .int x, .int y]) (rest := []) ⟨hx, hb, hml, hown, hts⟩ (c_X2_stands l D a cI cZ v G dn lt ch gn w 0 x y (isW_in hw0) (isF_in (isS_F hx0)) (isF_in hy0) (by decide) okv) (cwV 4 hts gX2_within_X2_stands rfl rfl rfl (by decide +kernel) ⟨Nat.le_of_ble_eq_true rfl, Nat.le_of_ble_eq_true rfl⟩) xMv0 trivial hP hK (va_recv hK hP (ci := 2) (q0 := 0) rfl rfl) rfl hl.1 rfl (Nat.le_of_ble_eq_true rfl) dX2_within_67 ⟨Nat.zero_le _, Nat.zero_le _⟩ ?_
    refine lv_if_ne (tgt := 88) hx hb dX2_within_70 (by decide) (fun c_4 => ?_) (fun c_4 => ?_)
    · have c_4 := b2i_n c_4
      refine J2 hw0 hx0 hy0 hz0 _ ?_ ls (lv_sub hl [0, 1, 2, 3, 4, 5] rfl)
      rw [← hres]; simp [w2F, c_4]
    · have c_4 := b2i_e c_4
      refine lv_aload_n hx hb dX2_within_73 rfl (lv_at hl 1 rfl) ?_
      refine lv_iload_n hx hb dX2_within_74 rfl (lv_at hl 2 rfl) ?_
      refine lv_iconst (v := 2) hx hb dX2_within_75 (by decide) ?_
      refine lv_iload_n hx hb dX2_within_76 rfl (lv_at hl 3 rfl) ?_
      refine lv_iload hx hb dX2_within_77 (lv_at hl 5 rfl) ?_
      refine xc_R (As := [.int w, .int 2, .int x, .int z]) (rest := []) ⟨hx, hb, hml, hown, hts⟩ (c_X2_stands l D a cI cZ v G dn lt ch gn w 2 x z (isW_in hw0) (isF_in (isS_F hx0)) (isF_in hz0) (by decide) okv) (cwV 4 hts gX2_within_X2_stands rfl rfl rfl (by decide +kernel) ⟨Nat.le_of_ble_eq_true rfl, Nat.le_of_ble_eq_true rfl⟩) xMv0 trivial hP hK (va_recv hK hP (ci := 2) (q0 := 0) rfl rfl) rfl hl.1 rfl (Nat.le_of_ble_eq_true rfl) dX2_within_79 ⟨Nat.zero_le _, Nat.zero_le _⟩ ?_
      refine lv_if_ne (tgt := 88) hx hb dX2_within_82 (by decide) (fun c_5 => ?_) (fun c_5 => ?_)
      · have c_5 := b2i_n c_5
        refine J2 hw0 hx0 hy0 hz0 _ ?_ ls (lv_sub hl [0, 1, 2, 3, 4, 5] rfl)
        rw [← hres]; simp [w2F, c_4, c_5]
      · have c_5 := b2i_e c_5
        refine lv_iinc (v := u + 2) (lv' := [(5, .int (u + 2)), (0, .ref (a 0)), (1, .int w), (2, .int x), (3, .int y), (4, .int z)]) hx hb dX2_within_85 hl (k := 0) rfl (rfl) (by decide) rfl (fun ls hl => ?_)
        refine J2 hw0 hx0 hy0 hz0 _ ?_ ls (lv_sub hl [0, 1, 2, 3, 4, 5] rfl)
        rw [← hres]; simp [w2F, c_4, c_5]
  refine lv_iload_n hx hb dX2_within_0 rfl (lv_at hl 1 rfl) ?_
  refine lv_iconst (v := 0) hx hb dX2_within_1 (by decide) ?_
  refine lv_iconst (v := 1) hx hb dX2_within_2 (by decide) ?_
  refine xc_T (As := [.int w, .int 0, .int 1]) (rest := []) ⟨hx, hb, hml, hown, hts⟩ (c_X2_in l w 0 1) (va_cwS 3 hts gX2_within_X2_in rfl rfl rfl (by decide +kernel) ⟨Nat.le_of_ble_eq_true rfl, Nat.le_of_ble_eq_true rfl⟩) rfl hl.1 rfl (Nat.le_of_ble_eq_true rfl) dX2_within_3 ⟨Nat.zero_le _, Nat.zero_le _⟩ ?_
  rw [in01]
  refine lv_if_eq (tgt := 31) hx hb dX2_within_6 (by decide) (fun c_6 => ?_) (fun c_6 => ?_)
  · have c_6 := b2i_e c_6
    refine lv_iconst (v := -1) hx hb dX2_within_31 (by decide) ?_
    exact xr_i hx hb hr hlk dX2_within_32 (by simp [aWith, wB, c_6])
  · have c_6 := b2i_n c_6
    refine lv_iload_n hx hb dX2_within_9 rfl (lv_at hl 2 rfl) ?_
    refine xc_T (As := [.int x]) (rest := []) ⟨hx, hb, hml, hown, hts⟩ (c_X2_isString l x) (va_cwS 1 hts gX2_within_X2_isString rfl rfl rfl (by decide +kernel) ⟨Nat.le_of_ble_eq_true rfl, Nat.le_of_ble_eq_true rfl⟩) rfl hl.1 rfl (Nat.le_of_ble_eq_true rfl) dX2_within_10 ⟨Nat.zero_le _, Nat.zero_le _⟩ ?_
    refine lv_if_eq (tgt := 31) hx hb dX2_within_13 (by decide) (fun c_7 => ?_) (fun c_7 => ?_)
    · have c_7 := b2i_e c_7
      refine lv_iconst (v := -1) hx hb dX2_within_31 (by decide) ?_
      exact xr_i hx hb hr hlk dX2_within_32 (by simp [aWith, wB, c_6, c_7])
    · have c_7 := b2i_n c_7
      refine lv_iload_n hx hb dX2_within_16 rfl (lv_at hl 3 rfl) ?_
      refine xc_T (As := [.int y]) (rest := []) ⟨hx, hb, hml, hown, hts⟩ (c_X2_isStringOrFork l y) (va_cwS 1 hts gX2_within_X2_isStringOrFork rfl rfl rfl (by decide +kernel) ⟨Nat.le_of_ble_eq_true rfl, Nat.le_of_ble_eq_true rfl⟩) rfl hl.1 rfl (Nat.le_of_ble_eq_true rfl) dX2_within_17 ⟨Nat.zero_le _, Nat.zero_le _⟩ ?_
      refine lv_if_eq (tgt := 31) hx hb dX2_within_20 (by decide) (fun c_8 => ?_) (fun c_8 => ?_)
      · have c_8 := b2i_e c_8
        refine lv_iconst (v := -1) hx hb dX2_within_31 (by decide) ?_
        exact xr_i hx hb hr hlk dX2_within_32 (by simp [aWith, wB, c_6, c_7, c_8])
      · have c_8 := b2i_n c_8
        refine lv_iload hx hb dX2_within_23 (lv_at hl 4 rfl) ?_
        refine xc_T (As := [.int z]) (rest := []) ⟨hx, hb, hml, hown, hts⟩ (c_X2_isStringOrFork l z) (va_cwS 1 hts gX2_within_X2_isStringOrFork rfl rfl rfl (by decide +kernel) ⟨Nat.le_of_ble_eq_true rfl, Nat.le_of_ble_eq_true rfl⟩) rfl hl.1 rfl (Nat.le_of_ble_eq_true rfl) dX2_within_25 ⟨Nat.zero_le _, Nat.zero_le _⟩ ?_
        refine lv_if_ne (tgt := 33) hx hb dX2_within_28 (by decide) (fun c_9 => ?_) (fun c_9 => ?_)
        · have c_9 := b2i_n c_9
          refine lv_iconst (v := 0) hx hb dX2_within_33 (by decide) ?_
          refine lv_istore (lv' := [(5, .int 0), (0, .ref (a 0)), (1, .int w), (2, .int x), (3, .int y), (4, .int z)]) hx hb dX2_within_34 hl (by decide) rfl (fun ls hl => ?_)
          refine lv_aload_n hx hb dX2_within_36 rfl (lv_at hl 1 rfl) ?_
          refine lv_iload_n hx hb dX2_within_37 rfl (lv_at hl 2 rfl) ?_
          refine lv_iconst (v := 3) hx hb dX2_within_38 (by decide) ?_
          refine lv_iload_n hx hb dX2_within_39 rfl (lv_at hl 3 rfl) ?_
          refine lv_iload_n hx hb dX2_within_40 rfl (lv_at hl 4 rfl) ?_
          refine xc_R (As := [.int w, .int 3, .int x, .int y]) (rest := []) ⟨hx, hb, hml, hown, hts⟩ (c_X2_stands l D a cI cZ v G dn lt ch gn w 3 x y (isW_in c_6) (isF_in (isS_F c_7)) (isF_in c_8) (by decide) okv) (cwV 4 hts gX2_within_X2_stands rfl rfl rfl (by decide +kernel) ⟨Nat.le_of_ble_eq_true rfl, Nat.le_of_ble_eq_true rfl⟩) xMv0 trivial hP hK (va_recv hK hP (ci := 2) (q0 := 0) rfl rfl) rfl hl.1 rfl (Nat.le_of_ble_eq_true rfl) dX2_within_41 ⟨Nat.zero_le _, Nat.zero_le _⟩ ?_
          refine lv_if_eq (tgt := 62) hx hb dX2_within_44 (by decide) (fun c_10 => ?_) (fun c_10 => ?_)
          · have c_10 := b2i_e c_10
            refine J3 c_6 c_7 c_8 c_9 _ ?_ ls (lv_sub hl [0, 1, 2, 3, 4, 5] rfl)
            simp [aWith, wB, w1F, c_6, c_7, c_8, c_9, c_10]
          · have c_10 := b2i_n c_10
            refine lv_aload_n hx hb dX2_within_47 rfl (lv_at hl 1 rfl) ?_
            refine lv_iload_n hx hb dX2_within_48 rfl (lv_at hl 2 rfl) ?_
            refine lv_iconst (v := 1) hx hb dX2_within_49 (by decide) ?_
            refine lv_iload_n hx hb dX2_within_50 rfl (lv_at hl 3 rfl) ?_
            refine lv_iload hx hb dX2_within_51 (lv_at hl 5 rfl) ?_
            refine xc_R (As := [.int w, .int 1, .int x, .int z]) (rest := []) ⟨hx, hb, hml, hown, hts⟩ (c_X2_stands l D a cI cZ v G dn lt ch gn w 1 x z (isW_in c_6) (isF_in (isS_F c_7)) (isF_in c_9) (by decide) okv) (cwV 4 hts gX2_within_X2_stands rfl rfl rfl (by decide +kernel) ⟨Nat.le_of_ble_eq_true rfl, Nat.le_of_ble_eq_true rfl⟩) xMv0 trivial hP hK (va_recv hK hP (ci := 2) (q0 := 0) rfl rfl) rfl hl.1 rfl (Nat.le_of_ble_eq_true rfl) dX2_within_53 ⟨Nat.zero_le _, Nat.zero_le _⟩ ?_
            refine lv_if_eq (tgt := 62) hx hb dX2_within_56 (by decide) (fun c_11 => ?_) (fun c_11 => ?_)
            · have c_11 := b2i_e c_11
              refine J3 c_6 c_7 c_8 c_9 _ ?_ ls (lv_sub hl [0, 1, 2, 3, 4, 5] rfl)
              simp [aWith, wB, w1F, c_6, c_7, c_8, c_9, c_10, c_11]
            · have c_11 := b2i_n c_11
              refine lv_iinc (v := 0 + 1) (lv' := [(5, .int (0 + 1)), (0, .ref (a 0)), (1, .int w), (2, .int x), (3, .int y), (4, .int z)]) hx hb dX2_within_59 hl (k := 0) rfl (rfl) (by decide) rfl (fun ls hl => ?_)
              refine J3 c_6 c_7 c_8 c_9 _ ?_ ls (lv_sub hl [0, 1, 2, 3, 4, 5] rfl)
              simp [aWith, wB, w1F, c_6, c_7, c_8, c_9, c_10, c_11]
        · have c_9 := b2i_e c_9
          refine lv_iconst (v := -1) hx hb dX2_within_31 (by decide) ?_
          exact xr_i hx hb hr hlk dX2_within_32 (by simp [aWith, wB, c_6, c_7, c_8, c_9])
set_option maxHeartbeats 4000000 in
set_option maxRecDepth 100000 in
theorem c_X2_pass (l : Launch) (D : va_G) (a : Nat → Nat) (cI cZ : ClassId) (v : Nat → Nat → Int32) (G : Nat → Option GT) (dn lt ch gn : Int32) (sz : Nat) (w h x y : Int32) (okv : ∀ i j : Nat, okV (v i j)) : Met l yX2_pass wsX2_pass ({ frames := 3, cells := 0, slots := 0, locals := 73 }) (xW D vwCl (mb a cI cZ v G dn lt ch gn) (mT cI cZ) xB0 sz [.ref (a 0), .int w, .int h, .int x, .int y]) (xQ (S := Unit) D vwCl (fun r _ => r = aPass v w h x y) (fun _ => mb a cI cZ (nPass v w h x y) G dn lt (hPass v ch w h x y) gn) (fun _ => mT cI cZ) (va_A (mb a cI cZ v G dn lt ch gn) sz)) 0 0 (va_A (mb a cI cZ v G dn lt ch gn) sz) := by
  refine xw_in (Qf := xQ (S := Unit) D vwCl (fun r _ => r = aPass v w h x y) (fun _ => mb a cI cZ (nPass v w h x y) G dn lt (hPass v ch w h x y) gn) (fun _ => mT cI cZ)) (cc := cX2_pass) (maxL := 10) (ret := (some .int)) (by decide) rfl (Nat.le_of_ble_eq_true rfl) ?_
  intro p e s m below meth c ls A hx hb hr hml hts hown hlk hnm hA hP hK hD hS hB hl
  have hown : s.vm.findClass RX2 = some m.cls := hown
  have hl : lv_has ls 10 [(0, .ref (a 0)), (1, .int w), (2, .int h), (3, .int x), (4, .int y)] := hl
  have hiF : ∀ w ∈ wsX20, w ∈ wsX2_pass := by decide +kernel
  have loop : vp_in w 2 → isHb h = true → pB w h x y = true → y = nI (cn y) → cn y < 32 → ∀ (n k c1 : Nat) (v1 : Nat → Nat → Int32), (∀ i j : Nat, okV (v1 i j)) → k + n = cn y → psF (cn w) h n k v1 c1 = rPass v w h x y → ∀ (H : Heap) (locs : List Loc), va_P D vwCl (mb a cI cZ v1 G dn lt ch gn) H → va_D A (mb a cI cZ v1 G dn lt ch gn) → va_S A s.heap H locs → ∀ ls : Array Slot, lv_has ls 10 [(6, .int (nI k)), (5, .int (nI c1)), (0, .ref (a 0)), (1, .int w), (2, .int h), (3, .int x), (4, .int y)] → W p l e ({ frames := 3, cells := 0, slots := 0, locals := 73 }) s m ([.ref (a 0), .int w, .int h, .int x, .int y] : List Value).toArray below meth c H locs 0 0 (MQ below (xQ (S := Unit) D vwCl (fun r _ => r = aPass v w h x y) (fun _ => mb a cI cZ (nPass v w h x y) G dn lt (hPass v ch w h x y) gn) (fun _ => mT cI cZ) A) ([.ref (a 0), .int w, .int h, .int x, .int y] : List Value).toArray s 0 0 A) (F0 m 37 ls []) := by
    intro hw hh hp hyn hy0 n
    induction n with
    | zero =>
      intro k c1 v1 ok1 hk hres H locs hP hD hS ls hl
      obtain rfl : k = cn y := by omega
      have hres : (v1, c1) = rPass v w h x y := hres
      refine lv_iload hx hb dX2_pass_37 (lv_at hl 0 rfl) ?_
      refine lv_iload hx hb dX2_pass_39 (lv_at hl 6 rfl) ?_
      refine lv_icmp_ge (tgt := 151) hx hb dX2_pass_41 (by decide) (fun c_1 => ?_) (fun c_1 => absurd (by rw [← hyn]; exact Int32.le_refl _) c_1)
      refine lv_aload_n hx hb dX2_pass_151 rfl (lv_at hl 2 rfl) ?_
      refine lv_dup hx hb dX2_pass_152 rfl ?_
      refine va_get (D := D) (ci := 2) (v := .int ch) (C := RX2) (T := TX2) (N := 14) hx hb hts hiF hown hK hP 0 rfl rfl 4 (by decide) (hts (.fieldLink RX2 82 "TunerBenchModel" "changes" "I") (by decide +kernel)) (fun _ h9 => h9) rfl dX2_pass_153 ?_
      refine lv_iload hx hb dX2_pass_156 (lv_at hl 1 rfl) ?_
      refine lv_iadd hx hb dX2_pass_158 ?_
      refine va_put (D := D) (ci := 2) (v := .int (ch + (nI c1))) (ty := .int) (C := RX2) (T := TX2) (N := 14) hx hb hts hiF tyX2 tyX2_ok nmX2 hown hK hP hD hS 0 rfl rfl 4 (by decide) (hts (.fieldLink RX2 82 "TunerBenchModel" "changes" "I") (by decide +kernel)) (fun _ h9 => h9) rfl (by decide +kernel) rfl rfl (Nat.le_of_ble_eq_true rfl) dX2_pass_159 (fun H locs hP hD hS => ?_)
      have hP : va_P D vwCl (mb a cI cZ v1 G dn lt (ch + (nI c1)) gn) H := hP
      have hD : va_D A (mb a cI cZ v1 G dn lt (ch + (nI c1)) gn) := hD
      refine lv_iload hx hb dX2_pass_162 (lv_at hl 1 rfl) ?_
      have e1 : v1 = nPass v w h x y := by simp only [nPass, hp, if_true]; rw [← hres]
      have e2 : ch + nI c1 = hPass v ch w h x y := by simp only [hPass, hp, if_true]; rw [← hres]
      rw [e1, e2] at hP hD
      exact xw_i (S := Unit) () hx hb hr hlk dX2_pass_164 hP hK hD hS (by simp only [aPass, hp, if_true]; rw [← hres])
    | succ n ih =>
      intro k c1 v1 ok1 hk hres H locs hP hD hS ls hl
      refine lv_iload hx hb dX2_pass_37 (lv_at hl 0 rfl) ?_
      refine lv_iload hx hb dX2_pass_39 (lv_at hl 6 rfl) ?_
      refine lv_icmp_ge (tgt := 151) hx hb dX2_pass_41 (by decide) (fun c_2 => absurd c_2 (by rw [hyn]; exact nI_ge (show k < cn y by omega) (by omega))) (fun c_2 => ?_)
      refine lv_aload_n hx hb dX2_pass_44 rfl (lv_at hl 2 rfl) ?_
      refine lv_iload_n hx hb dX2_pass_45 rfl (lv_at hl 3 rfl) ?_
      refine lv_iload_n hx hb dX2_pass_46 rfl (lv_at hl 4 rfl) ?_
      refine lv_iload hx hb dX2_pass_47 (lv_at hl 0 rfl) ?_
      refine lv_iload hx hb dX2_pass_49 (lv_at hl 0 rfl) ?_
      refine lv_iconst (v := 1) hx hb dX2_pass_51 (by decide) ?_
      refine lv_iadd hx hb dX2_pass_52 ?_
      rw [nI_1 k]
      refine xc_R (As := [.int w, .int h, .int (nI k), .int (nI (k + 1))]) (rest := []) ⟨hx, hb, hml, hown, hts⟩ (c_X2_stands l D a cI cZ v1 G dn lt ch gn w h (nI k) (nI (k + 1)) hw (vp_in_nI (show k < 33 by omega) (by decide)) (vp_in_nI (show k + 1 < 33 by omega) (by decide)) hh ok1) (cwV 4 hts gX2_pass_X2_stands rfl rfl rfl (by decide +kernel) ⟨Nat.le_of_ble_eq_true rfl, Nat.le_of_ble_eq_true rfl⟩) xMv0 trivial hP hK (va_recv hK hP (ci := 2) (q0 := 0) rfl rfl) rfl hl.1 rfl (Nat.le_of_ble_eq_true rfl) dX2_pass_53 ⟨Nat.zero_le _, Nat.zero_le _⟩ ?_
      refine lv_if_eq (tgt := 62) hx hb dX2_pass_56 (by decide) (fun c_3 => ?_) (fun c_3 => ?_)
      · have c_3 := b2i_e c_3
        have c_3 : stnF h (v1 (cn w) k) (v1 (cn w) (k + 1)) = false := by simpa [sdF, nI_cn (show k < 2 ^ 31 by omega), nI_cn (show k + 1 < 2 ^ 31 by omega)] using c_3
        refine lv_iload_n hx hb dX2_pass_62 rfl (lv_at hl 3 rfl) ?_
        refine lv_iload hx hb dX2_pass_63 (lv_at hl 0 rfl) ?_
        refine xc_T (As := [.int w, .int (nI k)]) (rest := []) ⟨hx, hb, hml, hown, hts⟩ (c_X2_at l w (nI k)) (va_cwS 2 hts gX2_pass_X2_at rfl rfl rfl (by decide +kernel) ⟨Nat.le_of_ble_eq_true rfl, Nat.le_of_ble_eq_true rfl⟩) rfl hl.1 rfl (Nat.le_of_ble_eq_true rfl) dX2_pass_65 ⟨Nat.zero_le _, Nat.zero_le _⟩ ?_
        refine lv_istore (lv' := [(7, .int (33 * w + (nI k))), (6, .int (nI k)), (5, .int (nI c1)), (0, .ref (a 0)), (1, .int w), (2, .int h), (3, .int x), (4, .int y)]) hx hb dX2_pass_68 hl (by decide) rfl (fun ls hl => ?_)
        refine lv_aload_n hx hb dX2_pass_70 rfl (lv_at hl 3 rfl) ?_
        refine va_get (D := D) (ci := 2) (v := .ref (a 1)) (C := RX2) (T := TX2) (N := 14) hx hb hts hiF hown hK hP 0 rfl rfl 0 (by decide) (hts (.fieldLink RX2 7 "TunerBenchModel" "sorts" "[I") (by decide +kernel)) (fun _ h9 => h9) rfl dX2_pass_71 ?_
        refine lv_iload hx hb dX2_pass_74 (lv_at hl 0 rfl) ?_
        refine va_iald (D := D) hx hb hK hP 1 0 rfl rfl (at_in hw (vp_in_nI (show k < 33 by omega) (by decide))) dX2_pass_76 ?_
        rw [at_cn hw (vp_in_nI (show k < 33 by omega) (by decide)), mso_at v1 (vp_lt (vp_in_nI (show k < 33 by omega) (by decide)))]
        refine lv_istore (lv' := [(8, .int (srtF (v1 (cn w) (cn (nI k))))), (7, .int (33 * w + (nI k))), (6, .int (nI k)), (5, .int (nI c1)), (0, .ref (a 0)), (1, .int w), (2, .int h), (3, .int x), (4, .int y)]) hx hb dX2_pass_77 hl (by decide) rfl (fun ls hl => ?_)
        refine lv_aload_n hx hb dX2_pass_79 rfl (lv_at hl 4 rfl) ?_
        refine va_get (D := D) (ci := 2) (v := .ref (a 2)) (C := RX2) (T := TX2) (N := 14) hx hb hts hiF hown hK hP 0 rfl rfl 1 (by decide) (hts (.fieldLink RX2 13 "TunerBenchModel" "quarters" "[I") (by decide +kernel)) (fun _ h9 => h9) rfl dX2_pass_80 ?_
        refine lv_iload hx hb dX2_pass_83 (lv_at hl 1 rfl) ?_
        refine va_iald (D := D) hx hb hK hP 2 0 rfl rfl (at_in hw (vp_in_nI (show k < 33 by omega) (by decide))) dX2_pass_85 ?_
        rw [at_cn hw (vp_in_nI (show k < 33 by omega) (by decide)), mqu_at v1 (vp_lt (vp_in_nI (show k < 33 by omega) (by decide)))]
        refine lv_istore (lv' := [(9, .int (qrtF (v1 (cn w) (cn (nI k))))), (8, .int (srtF (v1 (cn w) (cn (nI k))))), (7, .int (33 * w + (nI k))), (6, .int (nI k)), (5, .int (nI c1)), (0, .ref (a 0)), (1, .int w), (2, .int h), (3, .int x), (4, .int y)]) hx hb dX2_pass_86 hl (by decide) rfl (fun ls hl => ?_)
        refine lv_aload_n hx hb dX2_pass_88 rfl (lv_at hl 5 rfl) ?_
        refine va_get (D := D) (ci := 2) (v := .ref (a 1)) (C := RX2) (T := TX2) (N := 14) hx hb hts hiF hown hK hP 0 rfl rfl 0 (by decide) (hts (.fieldLink RX2 7 "TunerBenchModel" "sorts" "[I") (by decide +kernel)) (fun _ h9 => h9) rfl dX2_pass_89 ?_
        refine lv_iload hx hb dX2_pass_92 (lv_at hl 2 rfl) ?_
        refine lv_aload_n hx hb dX2_pass_94 rfl (lv_at hl 5 rfl) ?_
        refine va_get (D := D) (ci := 2) (v := .ref (a 1)) (C := RX2) (T := TX2) (N := 14) hx hb hts hiF hown hK hP 0 rfl rfl 0 (by decide) (hts (.fieldLink RX2 7 "TunerBenchModel" "sorts" "[I") (by decide +kernel)) (fun _ h9 => h9) rfl dX2_pass_95 ?_
        refine lv_iload hx hb dX2_pass_98 (lv_at hl 2 rfl) ?_
        refine lv_iconst (v := 1) hx hb dX2_pass_100 (by decide) ?_
        refine lv_iadd hx hb dX2_pass_101 ?_
        rw [at_s w k]
        refine va_iald (D := D) hx hb hK hP 1 0 rfl rfl (at_in hw (vp_in_nI (show k + 1 < 33 by omega) (by decide))) dX2_pass_102 ?_
        rw [at_cn hw (vp_in_nI (show k + 1 < 33 by omega) (by decide)), mso_at v1 (vp_lt (vp_in_nI (show k + 1 < 33 by omega) (by decide)))]
        refine va_iast (D := D) hx hb hK hP hD hS 1 0 rfl rfl (at_in hw (vp_in_nI (show k < 33 by omega) (by decide))) dX2_pass_103 (fun H locs hP hD hS => ?_)
        have hP : va_P D vwCl (mw a cI cZ (upd (mso v1) (cn (33 * w + (nI k))) (srtF (v1 (cn w) (cn (nI (k + 1)))))) (mqu v1) (mis G) (mwh G) (mho G) (mmo G) (mks G) (mkq G) (mdi G) (mri G) dn lt ch gn) H := hP
        have hD : va_D A (mw a cI cZ (upd (mso v1) (cn (33 * w + (nI k))) (srtF (v1 (cn w) (cn (nI (k + 1)))))) (mqu v1) (mis G) (mwh G) (mho G) (mmo G) (mks G) (mkq G) (mdi G) (mri G) dn lt ch gn) := hD
        refine lv_aload_n hx hb dX2_pass_104 rfl (lv_at hl 5 rfl) ?_
        refine va_get (D := D) (ci := 2) (v := .ref (a 2)) (C := RX2) (T := TX2) (N := 14) hx hb hts hiF hown hK hP 0 rfl rfl 1 (by decide) (hts (.fieldLink RX2 13 "TunerBenchModel" "quarters" "[I") (by decide +kernel)) (fun _ h9 => h9) rfl dX2_pass_105 ?_
        refine lv_iload hx hb dX2_pass_108 (lv_at hl 2 rfl) ?_
        refine lv_aload_n hx hb dX2_pass_110 rfl (lv_at hl 5 rfl) ?_
        refine va_get (D := D) (ci := 2) (v := .ref (a 2)) (C := RX2) (T := TX2) (N := 14) hx hb hts hiF hown hK hP 0 rfl rfl 1 (by decide) (hts (.fieldLink RX2 13 "TunerBenchModel" "quarters" "[I") (by decide +kernel)) (fun _ h9 => h9) rfl dX2_pass_111 ?_
        refine lv_iload hx hb dX2_pass_114 (lv_at hl 2 rfl) ?_
        refine lv_iconst (v := 1) hx hb dX2_pass_116 (by decide) ?_
        refine lv_iadd hx hb dX2_pass_117 ?_
        rw [at_s w k]
        refine va_iald (D := D) hx hb hK hP 2 0 rfl rfl (at_in hw (vp_in_nI (show k + 1 < 33 by omega) (by decide))) dX2_pass_118 ?_
        rw [at_cn hw (vp_in_nI (show k + 1 < 33 by omega) (by decide)), mqu_at v1 (vp_lt (vp_in_nI (show k + 1 < 33 by omega) (by decide)))]
        refine va_iast (D := D) hx hb hK hP hD hS 2 0 rfl rfl (at_in hw (vp_in_nI (show k < 33 by omega) (by decide))) dX2_pass_119 (fun H locs hP hD hS => ?_)
        have hP : va_P D vwCl (mw a cI cZ (upd (mso v1) (cn (33 * w + (nI k))) (srtF (v1 (cn w) (cn (nI (k + 1)))))) (upd (mqu v1) (cn (33 * w + (nI k))) (qrtF (v1 (cn w) (cn (nI (k + 1)))))) (mis G) (mwh G) (mho G) (mmo G) (mks G) (mkq G) (mdi G) (mri G) dn lt ch gn) H := hP
        have hD : va_D A (mw a cI cZ (upd (mso v1) (cn (33 * w + (nI k))) (srtF (v1 (cn w) (cn (nI (k + 1)))))) (upd (mqu v1) (cn (33 * w + (nI k))) (qrtF (v1 (cn w) (cn (nI (k + 1)))))) (mis G) (mwh G) (mho G) (mmo G) (mks G) (mkq G) (mdi G) (mri G) dn lt ch gn) := hD
        refine lv_aload_n hx hb dX2_pass_120 rfl (lv_at hl 5 rfl) ?_
        refine va_get (D := D) (ci := 2) (v := .ref (a 1)) (C := RX2) (T := TX2) (N := 14) hx hb hts hiF hown hK hP 0 rfl rfl 0 (by decide) (hts (.fieldLink RX2 7 "TunerBenchModel" "sorts" "[I") (by decide +kernel)) (fun _ h9 => h9) rfl dX2_pass_121 ?_
        refine lv_iload hx hb dX2_pass_124 (lv_at hl 2 rfl) ?_
        refine lv_iconst (v := 1) hx hb dX2_pass_126 (by decide) ?_
        refine lv_iadd hx hb dX2_pass_127 ?_
        rw [at_s w k]
        refine lv_iload hx hb dX2_pass_128 (lv_at hl 1 rfl) ?_
        refine va_iast (D := D) hx hb hK hP hD hS 1 0 rfl rfl (at_in hw (vp_in_nI (show k + 1 < 33 by omega) (by decide))) dX2_pass_130 (fun H locs hP hD hS => ?_)
        have hP : va_P D vwCl (mw a cI cZ (upd (upd (mso v1) (cn (33 * w + (nI k))) (srtF (v1 (cn w) (cn (nI (k + 1)))))) (cn (33 * w + (nI (k + 1)))) (srtF (v1 (cn w) (cn (nI k))))) (upd (mqu v1) (cn (33 * w + (nI k))) (qrtF (v1 (cn w) (cn (nI (k + 1)))))) (mis G) (mwh G) (mho G) (mmo G) (mks G) (mkq G) (mdi G) (mri G) dn lt ch gn) H := hP
        have hD : va_D A (mw a cI cZ (upd (upd (mso v1) (cn (33 * w + (nI k))) (srtF (v1 (cn w) (cn (nI (k + 1)))))) (cn (33 * w + (nI (k + 1)))) (srtF (v1 (cn w) (cn (nI k))))) (upd (mqu v1) (cn (33 * w + (nI k))) (qrtF (v1 (cn w) (cn (nI (k + 1)))))) (mis G) (mwh G) (mho G) (mmo G) (mks G) (mkq G) (mdi G) (mri G) dn lt ch gn) := hD
        refine lv_aload_n hx hb dX2_pass_131 rfl (lv_at hl 5 rfl) ?_
        refine va_get (D := D) (ci := 2) (v := .ref (a 2)) (C := RX2) (T := TX2) (N := 14) hx hb hts hiF hown hK hP 0 rfl rfl 1 (by decide) (hts (.fieldLink RX2 13 "TunerBenchModel" "quarters" "[I") (by decide +kernel)) (fun _ h9 => h9) rfl dX2_pass_132 ?_
        refine lv_iload hx hb dX2_pass_135 (lv_at hl 2 rfl) ?_
        refine lv_iconst (v := 1) hx hb dX2_pass_137 (by decide) ?_
        refine lv_iadd hx hb dX2_pass_138 ?_
        rw [at_s w k]
        refine lv_iload hx hb dX2_pass_139 (lv_at hl 0 rfl) ?_
        refine va_iast (D := D) hx hb hK hP hD hS 2 0 rfl rfl (at_in hw (vp_in_nI (show k + 1 < 33 by omega) (by decide))) dX2_pass_141 (fun H locs hP hD hS => ?_)
        have hP : va_P D vwCl (mw a cI cZ (upd (upd (mso v1) (cn (33 * w + (nI k))) (srtF (v1 (cn w) (cn (nI (k + 1)))))) (cn (33 * w + (nI (k + 1)))) (srtF (v1 (cn w) (cn (nI k))))) (upd (upd (mqu v1) (cn (33 * w + (nI k))) (qrtF (v1 (cn w) (cn (nI (k + 1)))))) (cn (33 * w + (nI (k + 1)))) (qrtF (v1 (cn w) (cn (nI k))))) (mis G) (mwh G) (mho G) (mmo G) (mks G) (mkq G) (mdi G) (mri G) dn lt ch gn) H := hP
        have hD : va_D A (mw a cI cZ (upd (upd (mso v1) (cn (33 * w + (nI k))) (srtF (v1 (cn w) (cn (nI (k + 1)))))) (cn (33 * w + (nI (k + 1)))) (srtF (v1 (cn w) (cn (nI k))))) (upd (upd (mqu v1) (cn (33 * w + (nI k))) (qrtF (v1 (cn w) (cn (nI (k + 1)))))) (cn (33 * w + (nI (k + 1)))) (qrtF (v1 (cn w) (cn (nI k))))) (mis G) (mwh G) (mho G) (mmo G) (mks G) (mkq G) (mdi G) (mri G) dn lt ch gn) := hD
        refine lv_iinc (v := nI (c1 + 1)) (lv' := [(5, .int (nI (c1 + 1))), (9, .int (qrtF (v1 (cn w) (cn (nI k))))), (8, .int (srtF (v1 (cn w) (cn (nI k))))), (7, .int (33 * w + (nI k))), (6, .int (nI k)), (0, .ref (a 0)), (1, .int w), (2, .int h), (3, .int x), (4, .int y)]) hx hb dX2_pass_142 hl (k := 4) rfl (nI_1 c1) (by decide) rfl (fun ls hl => ?_)
        refine lv_iinc (v := nI (k + 1)) (lv' := [(6, .int (nI (k + 1))), (5, .int (nI (c1 + 1))), (9, .int (qrtF (v1 (cn w) (cn (nI k))))), (8, .int (srtF (v1 (cn w) (cn (nI k))))), (7, .int (33 * w + (nI k))), (0, .ref (a 0)), (1, .int w), (2, .int h), (3, .int x), (4, .int y)]) hx hb dX2_pass_145 hl (k := 4) rfl (nI_1 k) (by decide) rfl (fun ls hl => ?_)
        refine lv_goto (tgt := 37) hx hb dX2_pass_148 (by decide) ?_
        have e_fs : upd (upd (mso v1) (cn (33 * w + (nI k))) (srtF (v1 (cn w) (cn (nI (k + 1)))))) (cn (33 * w + (nI (k + 1)))) (srtF (v1 (cn w) (cn (nI k)))) = mso (swp v1 (cn w) k) := by
          simp only [swp]
          rw [mso_up _ _ (show k + 1 < 33 by omega), mso_up _ _ (show k < 33 by omega)]
          have q1 : cn (33 * w + nI k) = 33 * cn w + cn (nI k) := at_cn hw (vp_in_nI (show k < 33 by omega) (by decide))
          have q2 : cn (33 * w + nI (k + 1)) = 33 * cn w + cn (nI (k + 1)) := at_cn hw (vp_in_nI (show k + 1 < 33 by omega) (by decide))
          simp only [nI_cn (show k < 2 ^ 31 by omega), nI_cn (show k + 1 < 2 ^ 31 by omega)] at q1 q2 ⊢
          rw [q1, q2]
        have e_fq : upd (upd (mqu v1) (cn (33 * w + (nI k))) (qrtF (v1 (cn w) (cn (nI (k + 1)))))) (cn (33 * w + (nI (k + 1)))) (qrtF (v1 (cn w) (cn (nI k)))) = mqu (swp v1 (cn w) k) := by
          simp only [swp]
          rw [mqu_up _ _ (show k + 1 < 33 by omega), mqu_up _ _ (show k < 33 by omega)]
          have q1 : cn (33 * w + nI k) = 33 * cn w + cn (nI k) := at_cn hw (vp_in_nI (show k < 33 by omega) (by decide))
          have q2 : cn (33 * w + nI (k + 1)) = 33 * cn w + cn (nI (k + 1)) := at_cn hw (vp_in_nI (show k + 1 < 33 by omega) (by decide))
          simp only [nI_cn (show k < 2 ^ 31 by omega), nI_cn (show k + 1 < 2 ^ 31 by omega)] at q1 q2 ⊢
          rw [q1, q2]
        rw [e_fs, e_fq] at hP hD
        refine ih (k + 1) (c1 + 1) (swp v1 (cn w) k) (okS ok1 trivial) (by omega) ?_ H locs hP hD hS ls (lv_sub hl [0, 1, 5, 6, 7, 8, 9] rfl)
        rw [← hres]; simp [psF, c_3]
      · have c_3 := b2i_n c_3
        have c_3 : stnF h (v1 (cn w) k) (v1 (cn w) (k + 1)) = true := by simpa [sdF, nI_cn (show k < 2 ^ 31 by omega), nI_cn (show k + 1 < 2 ^ 31 by omega)] using c_3
        refine lv_goto (tgt := 145) hx hb dX2_pass_59 (by decide) ?_
        refine lv_iinc (v := nI (k + 1)) (lv' := [(6, .int (nI (k + 1))), (5, .int (nI c1)), (0, .ref (a 0)), (1, .int w), (2, .int h), (3, .int x), (4, .int y)]) hx hb dX2_pass_145 hl (k := 0) rfl (nI_1 k) (by decide) rfl (fun ls hl => ?_)
        refine lv_goto (tgt := 37) hx hb dX2_pass_148 (by decide) ?_
        refine ih (k + 1) c1 v1 ok1 (by omega) ?_ H locs hP hD hS ls (lv_sub hl [0, 1, 2, 3, 4, 5, 6] rfl)
        rw [← hres]; simp [psF, c_3]
  refine lv_iload_n hx hb dX2_pass_0 rfl (lv_at hl 1 rfl) ?_
  refine lv_iload_n hx hb dX2_pass_1 rfl (lv_at hl 2 rfl) ?_
  refine xc_T (As := [.int w, .int h]) (rest := []) ⟨hx, hb, hml, hown, hts⟩ (c_X2_isAsked l w h) (va_cwS 2 hts gX2_pass_X2_isAsked rfl rfl rfl (by decide +kernel) ⟨Nat.le_of_ble_eq_true rfl, Nat.le_of_ble_eq_true rfl⟩) rfl hl.1 rfl (Nat.le_of_ble_eq_true rfl) dX2_pass_2 ⟨Nat.zero_le _, Nat.zero_le _⟩ ?_
  refine lv_if_eq (tgt := 29) hx hb dX2_pass_5 (by decide) (fun c_4 => ?_) (fun c_4 => ?_)
  · have c_4 := b2i_e c_4
    refine lv_iconst (v := -1) hx hb dX2_pass_29 (by decide) ?_
    have e1 : v = nPass v w h x y := by simp [nPass, pB, c_4]
    have e2 : ch = hPass v ch w h x y := by simp [hPass, pB, c_4]
    rw [show (mb a cI cZ v G dn lt ch gn) = (mb a cI cZ (nPass v w h x y) G dn lt (hPass v ch w h x y) gn) from by rw [← e1, ← e2]] at hP hD
    exact xw_i (S := Unit) () hx hb hr hlk dX2_pass_30 hP hK hD hS (by simp [aPass, pB, c_4])
  · have c_4 := b2i_n c_4
    refine lv_iload_n hx hb dX2_pass_8 rfl (lv_at hl 3 rfl) ?_
    refine xc_T (As := [.int x]) (rest := []) ⟨hx, hb, hml, hown, hts⟩ (c_X2_isString l x) (va_cwS 1 hts gX2_pass_X2_isString rfl rfl rfl (by decide +kernel) ⟨Nat.le_of_ble_eq_true rfl, Nat.le_of_ble_eq_true rfl⟩) rfl hl.1 rfl (Nat.le_of_ble_eq_true rfl) dX2_pass_9 ⟨Nat.zero_le _, Nat.zero_le _⟩ ?_
    refine lv_if_eq (tgt := 29) hx hb dX2_pass_12 (by decide) (fun c_5 => ?_) (fun c_5 => ?_)
    · have c_5 := b2i_e c_5
      refine lv_iconst (v := -1) hx hb dX2_pass_29 (by decide) ?_
      have e1 : v = nPass v w h x y := by simp [nPass, pB, c_4, c_5]
      have e2 : ch = hPass v ch w h x y := by simp [hPass, pB, c_4, c_5]
      rw [show (mb a cI cZ v G dn lt ch gn) = (mb a cI cZ (nPass v w h x y) G dn lt (hPass v ch w h x y) gn) from by rw [← e1, ← e2]] at hP hD
      exact xw_i (S := Unit) () hx hb hr hlk dX2_pass_30 hP hK hD hS (by simp [aPass, pB, c_4, c_5])
    · have c_5 := b2i_n c_5
      refine lv_iload hx hb dX2_pass_15 (lv_at hl 4 rfl) ?_
      refine xc_T (As := [.int y]) (rest := []) ⟨hx, hb, hml, hown, hts⟩ (c_X2_isString l y) (va_cwS 1 hts gX2_pass_X2_isString rfl rfl rfl (by decide +kernel) ⟨Nat.le_of_ble_eq_true rfl, Nat.le_of_ble_eq_true rfl⟩) rfl hl.1 rfl (Nat.le_of_ble_eq_true rfl) dX2_pass_17 ⟨Nat.zero_le _, Nat.zero_le _⟩ ?_
      refine lv_if_eq (tgt := 29) hx hb dX2_pass_20 (by decide) (fun c_6 => ?_) (fun c_6 => ?_)
      · have c_6 := b2i_e c_6
        refine lv_iconst (v := -1) hx hb dX2_pass_29 (by decide) ?_
        have e1 : v = nPass v w h x y := by simp [nPass, pB, c_4, c_5, c_6]
        have e2 : ch = hPass v ch w h x y := by simp [hPass, pB, c_4, c_5, c_6]
        rw [show (mb a cI cZ v G dn lt ch gn) = (mb a cI cZ (nPass v w h x y) G dn lt (hPass v ch w h x y) gn) from by rw [← e1, ← e2]] at hP hD
        exact xw_i (S := Unit) () hx hb hr hlk dX2_pass_30 hP hK hD hS (by simp [aPass, pB, c_4, c_5, c_6])
      · have c_6 := b2i_n c_6
        refine lv_iload_n hx hb dX2_pass_23 rfl (lv_at hl 3 rfl) ?_
        refine lv_iload hx hb dX2_pass_24 (lv_at hl 4 rfl) ?_
        refine lv_icmp_le (tgt := 31) hx hb dX2_pass_26 (by decide) (fun c_7 => ?_) (fun c_7 => ?_)
        · refine lv_iconst (v := 0) hx hb dX2_pass_31 (by decide) ?_
          refine lv_istore (lv' := [(5, .int 0), (0, .ref (a 0)), (1, .int w), (2, .int h), (3, .int x), (4, .int y)]) hx hb dX2_pass_32 hl (by decide) rfl (fun ls hl => ?_)
          refine lv_iload_n hx hb dX2_pass_34 rfl (lv_at hl 4 rfl) ?_
          refine lv_istore (lv' := [(6, .int x), (5, .int 0), (0, .ref (a 0)), (1, .int w), (2, .int h), (3, .int x), (4, .int y)]) hx hb dX2_pass_35 hl (by decide) rfl (fun ls hl => ?_)
          obtain ⟨i0, hi0, ei0⟩ := vp_in_of (isS_in c_5) (by decide)
          obtain ⟨j0, hj0, ej0⟩ := vp_in_of (isS_in c_6) (by decide)
          have hci : cn x = i0 := by rw [ei0]; exact nI_cn (by omega)
          have hcj : cn y = j0 := by rw [ej0]; exact nI_cn (by omega)
          have hij : i0 ≤ j0 := by have q9 := c_7; rw [ei0, ej0] at q9; exact (nI_leI (by omega) (by omega)).mp q9
          refine loop (isQ_w c_4) (isQ_h c_4) (by simp [pB, c_4, c_5, c_6, c_7]) (by rw [hcj]; exact ej0) (by omega) (j0 - i0) i0 0 v okv (by omega) ?_ _ _ hP hD hS ls ?_
          · simp only [rPass, hci, hcj]
          · rw [← ei0]; exact lv_sub hl [0, 1, 2, 3, 4, 5, 6] rfl
        · refine lv_iconst (v := -1) hx hb dX2_pass_29 (by decide) ?_
          have e1 : v = nPass v w h x y := by simp [nPass, pB, c_4, c_5, c_6, c_7]
          have e2 : ch = hPass v ch w h x y := by simp [hPass, pB, c_4, c_5, c_6, c_7]
          rw [show (mb a cI cZ v G dn lt ch gn) = (mb a cI cZ (nPass v w h x y) G dn lt (hPass v ch w h x y) gn) from by rw [← e1, ← e2]] at hP hD
          exact xw_i (S := Unit) () hx hb hr hlk dX2_pass_30 hP hK hD hS (by simp [aPass, pB, c_4, c_5, c_6, c_7])
set_option maxHeartbeats 4000000 in
set_option maxRecDepth 100000 in
theorem c_X2_strike (l : Launch) (D : va_G) (a : Nat → Nat) (cI cZ : ClassId) (v : Nat → Nat → Int32) (G : Nat → Option GT) (dn lt ch gn : Int32) (sz : Nat) (x : Int32) : Met l yX2_strike wsX2_strike ({ frames := 2, cells := 0, slots := 0, locals := 42 }) (xW D vwCl (mb a cI cZ v G dn lt ch gn) (mT cI cZ) xB0 sz [.ref (a 0), .int x]) (xQ (S := Unit) D vwCl (fun r _ => r = b2i (isSb x)) (fun _ => mb a cI cZ (nStri v x) G dn lt ch gn) (fun _ => mT cI cZ) (va_A (mb a cI cZ v G dn lt ch gn) sz)) 0 0 (va_A (mb a cI cZ v G dn lt ch gn) sz) := by
  refine xw_in (Qf := xQ (S := Unit) D vwCl (fun r _ => r = b2i (isSb x)) (fun _ => mb a cI cZ (nStri v x) G dn lt ch gn) (fun _ => mT cI cZ)) (cc := cX2_strike) (maxL := 3) (ret := (some .boolean)) (by decide) rfl (Nat.le_of_ble_eq_true rfl) ?_
  intro p e s m below meth c ls A hx hb hr hml hts hown hlk hnm hA hP hK hD hS hB hl
  have hown : s.vm.findClass RX2 = some m.cls := hown
  have hl : lv_has ls 3 [(0, .ref (a 0)), (1, .int x)] := hl
  have hiF : ∀ w ∈ wsX20, w ∈ wsX2_strike := by decide +kernel
  refine lv_iload_n hx hb dX2_strike_0 rfl (lv_at hl 1 rfl) ?_
  refine xc_T (As := [.int x]) (rest := []) ⟨hx, hb, hml, hown, hts⟩ (c_X2_isString l x) (va_cwS 1 hts gX2_strike_X2_isString rfl rfl rfl (by decide +kernel) ⟨Nat.le_of_ble_eq_true rfl, Nat.le_of_ble_eq_true rfl⟩) rfl hl.1 rfl (Nat.le_of_ble_eq_true rfl) dX2_strike_1 ⟨Nat.zero_le _, Nat.zero_le _⟩ ?_
  refine lv_if_ne (tgt := 9) hx hb dX2_strike_4 (by decide) (fun c_1 => ?_) (fun c_1 => ?_)
  · have c_1 := b2i_n c_1
    refine lv_iconst (v := 0) hx hb dX2_strike_9 (by decide) ?_
    refine lv_istore_n (lv' := [(2, .int 0), (0, .ref (a 0)), (1, .int x)]) hx hb dX2_strike_10 rfl hl (by decide) rfl (fun ls hl => ?_)
    refine lv_iload_n hx hb dX2_strike_11 rfl (lv_at hl 0 rfl) ?_
    refine lv_iconst (v := 2) hx hb dX2_strike_12 (by decide) ?_
    refine lv_icmp_ge (tgt := 64) hx hb dX2_strike_13 (by decide) (fun c_2 => absurd c_2 (by decide)) (fun c_2 => ?_)
    refine lv_aload_n hx hb dX2_strike_16 rfl (lv_at hl 1 rfl) ?_
    refine va_get (D := D) (ci := 2) (v := .ref (a 1)) (C := RX2) (T := TX2) (N := 14) hx hb hts hiF hown hK hP 0 rfl rfl 0 (by decide) (hts (.fieldLink RX2 7 "TunerBenchModel" "sorts" "[I") (by decide +kernel)) (fun _ h9 => h9) rfl dX2_strike_17 ?_
    refine lv_iload_n hx hb dX2_strike_20 rfl (lv_at hl 0 rfl) ?_
    refine lv_bipush (v := 32) hx hb dX2_strike_21 (by decide) ?_
    refine xc_T (As := [.int 0, .int 32]) (rest := [.ref (a 1)]) ⟨hx, hb, hml, hown, hts⟩ (c_X2_at l 0 32) (va_cwS 2 hts gX2_strike_X2_at rfl rfl rfl (by decide +kernel) ⟨Nat.le_of_ble_eq_true rfl, Nat.le_of_ble_eq_true rfl⟩) rfl hl.1 rfl (Nat.le_of_ble_eq_true rfl) dX2_strike_23 ⟨Nat.zero_le _, Nat.zero_le _⟩ ?_
    refine lv_aload_n hx hb dX2_strike_26 rfl (lv_at hl 1 rfl) ?_
    refine va_get (D := D) (ci := 2) (v := .ref (a 1)) (C := RX2) (T := TX2) (N := 14) hx hb hts hiF hown hK hP 0 rfl rfl 0 (by decide) (hts (.fieldLink RX2 7 "TunerBenchModel" "sorts" "[I") (by decide +kernel)) (fun _ h9 => h9) rfl dX2_strike_27 ?_
    refine lv_iload_n hx hb dX2_strike_30 rfl (lv_at hl 0 rfl) ?_
    refine lv_iload_n hx hb dX2_strike_31 rfl (lv_at hl 2 rfl) ?_
    refine xc_T (As := [.int 0, .int x]) (rest := [.ref (a 1), .int (33 * 0 + 32), .ref (a 1)]) ⟨hx, hb, hml, hown, hts⟩ (c_X2_at l 0 x) (va_cwS 2 hts gX2_strike_X2_at rfl rfl rfl (by decide +kernel) ⟨Nat.le_of_ble_eq_true rfl, Nat.le_of_ble_eq_true rfl⟩) rfl hl.1 rfl (Nat.le_of_ble_eq_true rfl) dX2_strike_32 ⟨Nat.zero_le _, Nat.zero_le _⟩ ?_
    refine va_iald (D := D) hx hb hK hP 1 0 rfl rfl (at_in (show vp_in (0) 2 by unfold vp_in; decide) (isF_in (isS_F c_1))) dX2_strike_35 ?_
    rw [at_cn (show vp_in (0) 2 by unfold vp_in; decide) (isF_in (isS_F c_1)), mso_at v (vp_lt (isF_in (isS_F c_1)))]
    refine va_iast (D := D) hx hb hK hP hD hS 1 0 rfl rfl (at_in (show vp_in (0) 2 by unfold vp_in; decide) (show vp_in (32) 33 by unfold vp_in; decide)) dX2_strike_36 (fun H locs hP hD hS => ?_)
    have hP : va_P D vwCl (mw a cI cZ (upd (mso v) (cn (33 * 0 + 32)) (srtF (v (cn 0) (cn x)))) (mqu v) (mis G) (mwh G) (mho G) (mmo G) (mks G) (mkq G) (mdi G) (mri G) dn lt ch gn) H := hP
    have hD : va_D A (mw a cI cZ (upd (mso v) (cn (33 * 0 + 32)) (srtF (v (cn 0) (cn x)))) (mqu v) (mis G) (mwh G) (mho G) (mmo G) (mks G) (mkq G) (mdi G) (mri G) dn lt ch gn) := hD
    refine lv_aload_n hx hb dX2_strike_37 rfl (lv_at hl 1 rfl) ?_
    refine va_get (D := D) (ci := 2) (v := .ref (a 2)) (C := RX2) (T := TX2) (N := 14) hx hb hts hiF hown hK hP 0 rfl rfl 1 (by decide) (hts (.fieldLink RX2 13 "TunerBenchModel" "quarters" "[I") (by decide +kernel)) (fun _ h9 => h9) rfl dX2_strike_38 ?_
    refine lv_iload_n hx hb dX2_strike_41 rfl (lv_at hl 0 rfl) ?_
    refine lv_bipush (v := 32) hx hb dX2_strike_42 (by decide) ?_
    refine xc_T (As := [.int 0, .int 32]) (rest := [.ref (a 2)]) ⟨hx, hb, hml, hown, hts⟩ (c_X2_at l 0 32) (va_cwS 2 hts gX2_strike_X2_at rfl rfl rfl (by decide +kernel) ⟨Nat.le_of_ble_eq_true rfl, Nat.le_of_ble_eq_true rfl⟩) rfl hl.1 rfl (Nat.le_of_ble_eq_true rfl) dX2_strike_44 ⟨Nat.zero_le _, Nat.zero_le _⟩ ?_
    refine lv_aload_n hx hb dX2_strike_47 rfl (lv_at hl 1 rfl) ?_
    refine va_get (D := D) (ci := 2) (v := .ref (a 2)) (C := RX2) (T := TX2) (N := 14) hx hb hts hiF hown hK hP 0 rfl rfl 1 (by decide) (hts (.fieldLink RX2 13 "TunerBenchModel" "quarters" "[I") (by decide +kernel)) (fun _ h9 => h9) rfl dX2_strike_48 ?_
    refine lv_iload_n hx hb dX2_strike_51 rfl (lv_at hl 0 rfl) ?_
    refine lv_iload_n hx hb dX2_strike_52 rfl (lv_at hl 2 rfl) ?_
    refine xc_T (As := [.int 0, .int x]) (rest := [.ref (a 2), .int (33 * 0 + 32), .ref (a 2)]) ⟨hx, hb, hml, hown, hts⟩ (c_X2_at l 0 x) (va_cwS 2 hts gX2_strike_X2_at rfl rfl rfl (by decide +kernel) ⟨Nat.le_of_ble_eq_true rfl, Nat.le_of_ble_eq_true rfl⟩) rfl hl.1 rfl (Nat.le_of_ble_eq_true rfl) dX2_strike_53 ⟨Nat.zero_le _, Nat.zero_le _⟩ ?_
    refine va_iald (D := D) hx hb hK hP 2 0 rfl rfl (at_in (show vp_in (0) 2 by unfold vp_in; decide) (isF_in (isS_F c_1))) dX2_strike_56 ?_
    rw [at_cn (show vp_in (0) 2 by unfold vp_in; decide) (isF_in (isS_F c_1)), mqu_at v (vp_lt (isF_in (isS_F c_1)))]
    refine va_iast (D := D) hx hb hK hP hD hS 2 0 rfl rfl (at_in (show vp_in (0) 2 by unfold vp_in; decide) (show vp_in (32) 33 by unfold vp_in; decide)) dX2_strike_57 (fun H locs hP hD hS => ?_)
    have hP : va_P D vwCl (mw a cI cZ (upd (mso v) (cn (33 * 0 + 32)) (srtF (v (cn 0) (cn x)))) (upd (mqu v) (cn (33 * 0 + 32)) (qrtF (v (cn 0) (cn x)))) (mis G) (mwh G) (mho G) (mmo G) (mks G) (mkq G) (mdi G) (mri G) dn lt ch gn) H := hP
    have hD : va_D A (mw a cI cZ (upd (mso v) (cn (33 * 0 + 32)) (srtF (v (cn 0) (cn x)))) (upd (mqu v) (cn (33 * 0 + 32)) (qrtF (v (cn 0) (cn x)))) (mis G) (mwh G) (mho G) (mmo G) (mks G) (mkq G) (mdi G) (mri G) dn lt ch gn) := hD
    refine lv_iinc (v := 0 + 1) (lv' := [(2, .int (0 + 1)), (0, .ref (a 0)), (1, .int x)]) hx hb dX2_strike_58 hl (k := 0) rfl (rfl) (by decide) rfl (fun ls hl => ?_)
    refine lv_goto (tgt := 11) hx hb dX2_strike_61 (by decide) ?_
    have e_fs : upd (mso v) (cn (33 * 0 + 32)) (srtF (v (cn 0) (cn x))) = mso (up2 v (cn 0) (cn 32) (v (cn 0) (cn x))) := by rw [mso_up v _ (vp_lt (show vp_in (32) 33 by unfold vp_in; decide)), ← at_cn (show vp_in (0) 2 by unfold vp_in; decide) (show vp_in (32) 33 by unfold vp_in; decide)]
    have e_fq : upd (mqu v) (cn (33 * 0 + 32)) (qrtF (v (cn 0) (cn x))) = mqu (up2 v (cn 0) (cn 32) (v (cn 0) (cn x))) := by rw [mqu_up v _ (vp_lt (show vp_in (32) 33 by unfold vp_in; decide)), ← at_cn (show vp_in (0) 2 by unfold vp_in; decide) (show vp_in (32) 33 by unfold vp_in; decide)]
    rw [e_fs, e_fq] at hP hD
    have hP : va_P D vwCl (mb a cI cZ (up2 v (cn 0) (cn 32) (v (cn 0) (cn x))) G dn lt ch gn) H := hP
    have hD : va_D A (mb a cI cZ (up2 v (cn 0) (cn 32) (v (cn 0) (cn x))) G dn lt ch gn) := hD
    refine lv_iload_n hx hb dX2_strike_11 rfl (lv_at hl 0 rfl) ?_
    refine lv_iconst (v := 2) hx hb dX2_strike_12 (by decide) ?_
    refine lv_icmp_ge (tgt := 64) hx hb dX2_strike_13 (by decide) (fun c_3 => absurd c_3 (by decide)) (fun c_3 => ?_)
    refine lv_aload_n hx hb dX2_strike_16 rfl (lv_at hl 1 rfl) ?_
    refine va_get (D := D) (ci := 2) (v := .ref (a 1)) (C := RX2) (T := TX2) (N := 14) hx hb hts hiF hown hK hP 0 rfl rfl 0 (by decide) (hts (.fieldLink RX2 7 "TunerBenchModel" "sorts" "[I") (by decide +kernel)) (fun _ h9 => h9) rfl dX2_strike_17 ?_
    refine lv_iload_n hx hb dX2_strike_20 rfl (lv_at hl 0 rfl) ?_
    refine lv_bipush (v := 32) hx hb dX2_strike_21 (by decide) ?_
    refine xc_T (As := [.int (0 + 1), .int 32]) (rest := [.ref (a 1)]) ⟨hx, hb, hml, hown, hts⟩ (c_X2_at l (0 + 1) 32) (va_cwS 2 hts gX2_strike_X2_at rfl rfl rfl (by decide +kernel) ⟨Nat.le_of_ble_eq_true rfl, Nat.le_of_ble_eq_true rfl⟩) rfl hl.1 rfl (Nat.le_of_ble_eq_true rfl) dX2_strike_23 ⟨Nat.zero_le _, Nat.zero_le _⟩ ?_
    refine lv_aload_n hx hb dX2_strike_26 rfl (lv_at hl 1 rfl) ?_
    refine va_get (D := D) (ci := 2) (v := .ref (a 1)) (C := RX2) (T := TX2) (N := 14) hx hb hts hiF hown hK hP 0 rfl rfl 0 (by decide) (hts (.fieldLink RX2 7 "TunerBenchModel" "sorts" "[I") (by decide +kernel)) (fun _ h9 => h9) rfl dX2_strike_27 ?_
    refine lv_iload_n hx hb dX2_strike_30 rfl (lv_at hl 0 rfl) ?_
    refine lv_iload_n hx hb dX2_strike_31 rfl (lv_at hl 2 rfl) ?_
    refine xc_T (As := [.int (0 + 1), .int x]) (rest := [.ref (a 1), .int (33 * (0 + 1) + 32), .ref (a 1)]) ⟨hx, hb, hml, hown, hts⟩ (c_X2_at l (0 + 1) x) (va_cwS 2 hts gX2_strike_X2_at rfl rfl rfl (by decide +kernel) ⟨Nat.le_of_ble_eq_true rfl, Nat.le_of_ble_eq_true rfl⟩) rfl hl.1 rfl (Nat.le_of_ble_eq_true rfl) dX2_strike_32 ⟨Nat.zero_le _, Nat.zero_le _⟩ ?_
    refine va_iald (D := D) hx hb hK hP 1 0 rfl rfl (at_in (show vp_in (0 + 1) 2 by unfold vp_in; decide) (isF_in (isS_F c_1))) dX2_strike_35 ?_
    rw [at_cn (show vp_in (0 + 1) 2 by unfold vp_in; decide) (isF_in (isS_F c_1)), mso_at (up2 v (cn 0) (cn 32) (v (cn 0) (cn x))) (vp_lt (isF_in (isS_F c_1)))]
    refine va_iast (D := D) hx hb hK hP hD hS 1 0 rfl rfl (at_in (show vp_in (0 + 1) 2 by unfold vp_in; decide) (show vp_in (32) 33 by unfold vp_in; decide)) dX2_strike_36 (fun H locs hP hD hS => ?_)
    have hP : va_P D vwCl (mw a cI cZ (upd (mso (up2 v (cn 0) (cn 32) (v (cn 0) (cn x)))) (cn (33 * (0 + 1) + 32)) (srtF ((up2 v (cn 0) (cn 32) (v (cn 0) (cn x))) (cn (0 + 1)) (cn x)))) (mqu (up2 v (cn 0) (cn 32) (v (cn 0) (cn x)))) (mis G) (mwh G) (mho G) (mmo G) (mks G) (mkq G) (mdi G) (mri G) dn lt ch gn) H := hP
    have hD : va_D A (mw a cI cZ (upd (mso (up2 v (cn 0) (cn 32) (v (cn 0) (cn x)))) (cn (33 * (0 + 1) + 32)) (srtF ((up2 v (cn 0) (cn 32) (v (cn 0) (cn x))) (cn (0 + 1)) (cn x)))) (mqu (up2 v (cn 0) (cn 32) (v (cn 0) (cn x)))) (mis G) (mwh G) (mho G) (mmo G) (mks G) (mkq G) (mdi G) (mri G) dn lt ch gn) := hD
    refine lv_aload_n hx hb dX2_strike_37 rfl (lv_at hl 1 rfl) ?_
    refine va_get (D := D) (ci := 2) (v := .ref (a 2)) (C := RX2) (T := TX2) (N := 14) hx hb hts hiF hown hK hP 0 rfl rfl 1 (by decide) (hts (.fieldLink RX2 13 "TunerBenchModel" "quarters" "[I") (by decide +kernel)) (fun _ h9 => h9) rfl dX2_strike_38 ?_
    refine lv_iload_n hx hb dX2_strike_41 rfl (lv_at hl 0 rfl) ?_
    refine lv_bipush (v := 32) hx hb dX2_strike_42 (by decide) ?_
    refine xc_T (As := [.int (0 + 1), .int 32]) (rest := [.ref (a 2)]) ⟨hx, hb, hml, hown, hts⟩ (c_X2_at l (0 + 1) 32) (va_cwS 2 hts gX2_strike_X2_at rfl rfl rfl (by decide +kernel) ⟨Nat.le_of_ble_eq_true rfl, Nat.le_of_ble_eq_true rfl⟩) rfl hl.1 rfl (Nat.le_of_ble_eq_true rfl) dX2_strike_44 ⟨Nat.zero_le _, Nat.zero_le _⟩ ?_
    refine lv_aload_n hx hb dX2_strike_47 rfl (lv_at hl 1 rfl) ?_
    refine va_get (D := D) (ci := 2) (v := .ref (a 2)) (C := RX2) (T := TX2) (N := 14) hx hb hts hiF hown hK hP 0 rfl rfl 1 (by decide) (hts (.fieldLink RX2 13 "TunerBenchModel" "quarters" "[I") (by decide +kernel)) (fun _ h9 => h9) rfl dX2_strike_48 ?_
    refine lv_iload_n hx hb dX2_strike_51 rfl (lv_at hl 0 rfl) ?_
    refine lv_iload_n hx hb dX2_strike_52 rfl (lv_at hl 2 rfl) ?_
    refine xc_T (As := [.int (0 + 1), .int x]) (rest := [.ref (a 2), .int (33 * (0 + 1) + 32), .ref (a 2)]) ⟨hx, hb, hml, hown, hts⟩ (c_X2_at l (0 + 1) x) (va_cwS 2 hts gX2_strike_X2_at rfl rfl rfl (by decide +kernel) ⟨Nat.le_of_ble_eq_true rfl, Nat.le_of_ble_eq_true rfl⟩) rfl hl.1 rfl (Nat.le_of_ble_eq_true rfl) dX2_strike_53 ⟨Nat.zero_le _, Nat.zero_le _⟩ ?_
    refine va_iald (D := D) hx hb hK hP 2 0 rfl rfl (at_in (show vp_in (0 + 1) 2 by unfold vp_in; decide) (isF_in (isS_F c_1))) dX2_strike_56 ?_
    rw [at_cn (show vp_in (0 + 1) 2 by unfold vp_in; decide) (isF_in (isS_F c_1)), mqu_at (up2 v (cn 0) (cn 32) (v (cn 0) (cn x))) (vp_lt (isF_in (isS_F c_1)))]
    refine va_iast (D := D) hx hb hK hP hD hS 2 0 rfl rfl (at_in (show vp_in (0 + 1) 2 by unfold vp_in; decide) (show vp_in (32) 33 by unfold vp_in; decide)) dX2_strike_57 (fun H locs hP hD hS => ?_)
    have hP : va_P D vwCl (mw a cI cZ (upd (mso (up2 v (cn 0) (cn 32) (v (cn 0) (cn x)))) (cn (33 * (0 + 1) + 32)) (srtF ((up2 v (cn 0) (cn 32) (v (cn 0) (cn x))) (cn (0 + 1)) (cn x)))) (upd (mqu (up2 v (cn 0) (cn 32) (v (cn 0) (cn x)))) (cn (33 * (0 + 1) + 32)) (qrtF ((up2 v (cn 0) (cn 32) (v (cn 0) (cn x))) (cn (0 + 1)) (cn x)))) (mis G) (mwh G) (mho G) (mmo G) (mks G) (mkq G) (mdi G) (mri G) dn lt ch gn) H := hP
    have hD : va_D A (mw a cI cZ (upd (mso (up2 v (cn 0) (cn 32) (v (cn 0) (cn x)))) (cn (33 * (0 + 1) + 32)) (srtF ((up2 v (cn 0) (cn 32) (v (cn 0) (cn x))) (cn (0 + 1)) (cn x)))) (upd (mqu (up2 v (cn 0) (cn 32) (v (cn 0) (cn x)))) (cn (33 * (0 + 1) + 32)) (qrtF ((up2 v (cn 0) (cn 32) (v (cn 0) (cn x))) (cn (0 + 1)) (cn x)))) (mis G) (mwh G) (mho G) (mmo G) (mks G) (mkq G) (mdi G) (mri G) dn lt ch gn) := hD
    refine lv_iinc (v := (0 + 1) + 1) (lv' := [(2, .int ((0 + 1) + 1)), (0, .ref (a 0)), (1, .int x)]) hx hb dX2_strike_58 hl (k := 0) rfl (rfl) (by decide) rfl (fun ls hl => ?_)
    refine lv_goto (tgt := 11) hx hb dX2_strike_61 (by decide) ?_
    have e_fs : upd (mso (up2 v (cn 0) (cn 32) (v (cn 0) (cn x)))) (cn (33 * (0 + 1) + 32)) (srtF ((up2 v (cn 0) (cn 32) (v (cn 0) (cn x))) (cn (0 + 1)) (cn x))) = mso (up2 (up2 v (cn 0) (cn 32) (v (cn 0) (cn x))) (cn (0 + 1)) (cn 32) ((up2 v (cn 0) (cn 32) (v (cn 0) (cn x))) (cn (0 + 1)) (cn x))) := by rw [mso_up (up2 v (cn 0) (cn 32) (v (cn 0) (cn x))) _ (vp_lt (show vp_in (32) 33 by unfold vp_in; decide)), ← at_cn (show vp_in (0 + 1) 2 by unfold vp_in; decide) (show vp_in (32) 33 by unfold vp_in; decide)]
    have e_fq : upd (mqu (up2 v (cn 0) (cn 32) (v (cn 0) (cn x)))) (cn (33 * (0 + 1) + 32)) (qrtF ((up2 v (cn 0) (cn 32) (v (cn 0) (cn x))) (cn (0 + 1)) (cn x))) = mqu (up2 (up2 v (cn 0) (cn 32) (v (cn 0) (cn x))) (cn (0 + 1)) (cn 32) ((up2 v (cn 0) (cn 32) (v (cn 0) (cn x))) (cn (0 + 1)) (cn x))) := by rw [mqu_up (up2 v (cn 0) (cn 32) (v (cn 0) (cn x))) _ (vp_lt (show vp_in (32) 33 by unfold vp_in; decide)), ← at_cn (show vp_in (0 + 1) 2 by unfold vp_in; decide) (show vp_in (32) 33 by unfold vp_in; decide)]
    rw [e_fs, e_fq] at hP hD
    have hP : va_P D vwCl (mb a cI cZ (up2 (up2 v (cn 0) (cn 32) (v (cn 0) (cn x))) (cn (0 + 1)) (cn 32) ((up2 v (cn 0) (cn 32) (v (cn 0) (cn x))) (cn (0 + 1)) (cn x))) G dn lt ch gn) H := hP
    have hD : va_D A (mb a cI cZ (up2 (up2 v (cn 0) (cn 32) (v (cn 0) (cn x))) (cn (0 + 1)) (cn 32) ((up2 v (cn 0) (cn 32) (v (cn 0) (cn x))) (cn (0 + 1)) (cn x))) G dn lt ch gn) := hD
    refine lv_iload_n hx hb dX2_strike_11 rfl (lv_at hl 0 rfl) ?_
    refine lv_iconst (v := 2) hx hb dX2_strike_12 (by decide) ?_
    refine lv_icmp_ge (tgt := 64) hx hb dX2_strike_13 (by decide) (fun c_4 => ?_) (fun c_4 => absurd (by decide) c_4)
    refine lv_iconst (v := 1) hx hb dX2_strike_64 (by decide) ?_
    have e_v : up2 (up2 v (cn 0) (cn 32) (v (cn 0) (cn x))) (cn (0 + 1)) (cn 32) ((up2 v (cn 0) (cn 32) (v (cn 0) (cn x))) (cn (0 + 1)) (cn x)) = nStri v x := by
      simp only [nStri, c_1, if_true, show cn 0 = 0 by decide, show cn 1 = 1 by decide, show cn 32 = 32 by decide, show cn (0 + 1) = 1 by decide]
      rw [up2_oth v _ _ (show (1 : Nat) ≠ 0 by decide)]
    rw [e_v] at hP hD
    exact xw_z (S := Unit) () hx hb hr hlk dX2_strike_65 (by decide) hP hK hD hS (by simp [b2i, c_1])
  · have c_1 := b2i_e c_1
    refine lv_iconst (v := 0) hx hb dX2_strike_7 (by decide) ?_
    have e_v : v = nStri v x := by simp [nStri, c_1]
    rw [e_v] at hP hD
    exact xw_z (S := Unit) () hx hb hr hlk dX2_strike_8 (by decide) hP hK hD hS (by simp [b2i, c_1])
end
section
/-! the class: guards are set -/
abbrev gE (t : GT) : va_E := .inr (0, [.int t.1, .int t.2.1, .int t.2.2.1, .int t.2.2.2.1, .int (b2i t.2.2.2.2.1), .int t.2.2.2.2.2])
def nT (U : State) : Prop := va_Nw (.methodLinkNest RX1 76 yX0_init "TunerBench") U ∧ va_Nw (.fieldLinkNest RX1 111 "TunerBench$Guard" "what" "I" "TunerBench") U ∧ va_Nw (.fieldLinkNest RX1 108 "TunerBench$Guard" "how" "I" "TunerBench") U ∧ va_Nw (.fieldLinkNest RX1 114 "TunerBench$Guard" "copy" "I" "TunerBench") U ∧ va_Nw (.fieldLinkNest RX1 117 "TunerBench$Guard" "mode" "I" "TunerBench") U ∧ va_Nw (.fieldLinkNest RX1 120 "TunerBench$Guard" "stood" "Z" "TunerBench") U ∧ va_Nw (.fieldLinkNest RX1 83 "TunerBench$Guard" "rang" "I" "TunerBench") U
theorem xMvN : xMv nT := ⟨fun u U h q => ⟨va_Nw.same rfl h q.1, va_Nw.same rfl h q.2.1, va_Nw.same rfl h q.2.2.1, va_Nw.same rfl h q.2.2.2.1, va_Nw.same rfl h q.2.2.2.2.1, va_Nw.same rfl h q.2.2.2.2.2.1, va_Nw.same rfl h q.2.2.2.2.2.2⟩, fun u U h q => ⟨va_Nw.warmM h q.1, va_Nw.warmF h q.2.1, va_Nw.warmF h q.2.2.1, va_Nw.warmF h q.2.2.2.1, va_Nw.warmF h q.2.2.2.2.1, va_Nw.warmF h q.2.2.2.2.2.1, va_Nw.warmF h q.2.2.2.2.2.2⟩⟩
def GR (G : Nat → Option GT) (gg : Nat → Option Nat) (L : List Nat) (f : Nat → va_E) : Prop := (∀ g : Nat, g < 8 → (G g = none ∧ gg g = none) ∨ ∃ (t : GT) (x : Nat), G g = some t ∧ gg g = some x ∧ x ∈ L ∧ f x = gE t) ∧ ∀ (i j x : Nat), i < 8 → j < 8 → gg i = some x → gg j = some x → i = j
def lst (v : Nat → Nat → Int32) (t : GT) : Bool := stnF t.2.1 (v (cn t.1) (cn 32)) t.2.2.1
def lrF (v : Nat → Nat → Int32) (t : GT) : Bool := rungF t.2.2.2.1 (lst v t) t.2.2.2.2.1
def lnx (v : Nat → Nat → Int32) (t : GT) : GT := (t.1, t.2.1, t.2.2.1, t.2.2.2.1, lst v t, if lrF v t = true then t.2.2.2.2.2 + 1 else t.2.2.2.2.2)
def lkG (v : Nat → Nat → Int32) (G : Nat → Option GT) (k : Nat) : Nat → Option GT := fun g => if g < k then (G g).map (lnx v) else G g
def lkA (v : Nat → Nat → Int32) (G : Nat → Option GT) (k : Nat) : Int32 := match G k with
  | none => 0
  | some t => if lrF v t = true then 1 <<< (nI k &&& 31) else 0
def lkS (v : Nat → Nat → Int32) (G : Nat → Option GT) : Nat → Int32
  | 0 => 0
  | k + 1 => lkS v G k + lkA v G k
def gB (g w h x mo : Int32) : Bool := isGb g && (isQb w h && (isSb x && isMb mo))
def nGua (v : Nat → Nat → Int32) (G : Nat → Option GT) (g w h x mo : Int32) : Nat → Option GT := if gB g w h x mo = true then va_up G (cn g) (some (w, h, v (cn w) (cn x), mo, false, 0)) else G
def aRin (G : Nat → Option GT) (g : Int32) : Int32 := if isGb g = true then (match G (cn g) with
  | none => -1
  | some t => t.2.2.2.2.2) else -1
def cntG (G : Nat → Option GT) : Nat → Nat
  | 0 => 0
  | k + 1 => cntG G k + (if (G k).isSome = true then 1 else 0)
def aCnt (dn lt gn ch q : Int32) : Int32 := if q = 0 then dn else if q = 1 then lt else if q = 2 then gn else if q = 3 then ch else -1
theorem x_nin {A : Nat → Prop} {q : Nat} {e : va_E} {X : va_W} {L : List Nat} {f : Nat → va_E} (hD : va_D A ([(q, e)] ++ (X ++ va_pl L f))) : q ∉ L := by
  intro h
  obtain ⟨k, hk⟩ := va_pl_get (X := X) (f := f) h
  have := hD.1 0 (k + 1) (q, e) (q, f q) rfl hk rfl
  omega
theorem cq_row {a : Nat → Nat} {cV cI cG : ClassId} {v : Nat → Nat → Int32} {gg : Nat → Option Nat} {dn lt ch : Int32} {k : Nat} {pl z : va_W} (h : k < 2) : ((cb a cV cI cG v gg dn lt ch ++ pl) ++ z)[2 + k]? = some (a (2 + k), .inl (cI, 33, .inl (v k))) := by
  rcases (show k = 0 ∨ k = 1 by omega) with rfl | rfl <;> rfl
set_option maxHeartbeats 4000000 in
set_option maxRecDepth 100000 in
theorem c_X0_init (l : Launch) (D : va_G) (b sz : Nat) (w h q mo : Int32) : Met l yX0_init wsX0_init ({ frames := 1, cells := 0, slots := 0, locals := 12 }) (xW D vwCl [(b, .inr (0, [.int 0, .int 0, .int 0, .int 0, .int 0, .int 0]))] [] xB0 sz [.ref b, .int w, .int h, .int q, .int mo]) (xQv (S := Unit) D vwCl (fun _ => True) (fun _ => [(b, gE (w, h, q, mo, false, 0))]) (fun _ => []) (va_A [(b, .inr (0, [.int 0, .int 0, .int 0, .int 0, .int 0, .int 0]))] sz)) 0 0 (va_A [(b, .inr (0, [.int 0, .int 0, .int 0, .int 0, .int 0, .int 0]))] sz) := by
  refine xw_in (Qf := xQv (S := Unit) D vwCl (fun _ => True) (fun _ => [(b, gE (w, h, q, mo, false, 0))]) (fun _ => [])) (cc := cX0_init) (maxL := 5) (ret := none) (by decide) rfl (Nat.le_of_ble_eq_true rfl) ?_
  intro p e s m below meth c ls A hx hb hr hml hts hown hlk hnm hA hP hK hD hS hB hl
  have hown : s.vm.findClass RX0 = some m.cls := hown
  have hin : meth.name = "<init>" := hnm
  have hl : lv_has ls 5 [(0, .ref b), (1, .int w), (2, .int h), (3, .int q), (4, .int mo)] := hl
  have hiF : ∀ w ∈ wsX00, w ∈ wsX0_init := by decide +kernel
  refine lv_aload_n hx hb dX0_init_0 rfl (lv_at hl 0 rfl) ?_
  refine W.objInit hx hb hown (hts (.methodLink RX0 1 objectInit) (by decide +kernel)) (hts (.instanceMethod objectInit) (by decide +kernel)) (hts _ (List.mem_cons_of_mem _ (List.mem_append_left _ (List.mem_of_getElem? (i := 2) rfl)))) rfl (by rw [hml]; exact hl.1) rfl dX0_init_1 (Nat.le_of_ble_eq_true rfl) (Nat.le_of_ble_eq_true rfl) ?_
  refine W.eq (g2 := F0 m 4 ls []) rfl ?_
  refine lv_aload_n hx hb dX0_init_4 rfl (lv_at hl 0 rfl) ?_
  refine lv_iconst (v := 0) hx hb dX0_init_5 (by decide) ?_
  refine va_put (D := D) (ci := 0) (v := .int 0) (ty := .boolean) (C := RX0) (T := TX0) (N := 6) hx hb hts hiF tyX0 tyX0_ok nmX0 hown hK hP hD hS 0 rfl rfl 4 (by decide) (hts (.fieldLink RX0 7 "TunerBench$Guard" "stood" "Z") (by decide +kernel)) (fun _ h9 => h9) rfl (by decide +kernel) rfl rfl (Nat.le_of_ble_eq_true rfl) dX0_init_6 (fun H locs hP hD hS => ?_)
  have hP : va_P D vwCl [(b, .inr (0, [.int 0, .int 0, .int 0, .int 0, .int 0, .int 0]))] H := hP
  have hD : va_D A [(b, .inr (0, [.int 0, .int 0, .int 0, .int 0, .int 0, .int 0]))] := hD
  refine lv_aload_n hx hb dX0_init_9 rfl (lv_at hl 0 rfl) ?_
  refine lv_iconst (v := 0) hx hb dX0_init_10 (by decide) ?_
  refine va_put (D := D) (ci := 0) (v := .int 0) (ty := .int) (C := RX0) (T := TX0) (N := 6) hx hb hts hiF tyX0 tyX0_ok nmX0 hown hK hP hD hS 0 rfl rfl 5 (by decide) (hts (.fieldLink RX0 13 "TunerBench$Guard" "rang" "I") (by decide +kernel)) (fun _ h9 => h9) rfl (by decide +kernel) rfl rfl (Nat.le_of_ble_eq_true rfl) dX0_init_11 (fun H locs hP hD hS => ?_)
  have hP : va_P D vwCl [(b, .inr (0, [.int 0, .int 0, .int 0, .int 0, .int 0, .int 0]))] H := hP
  have hD : va_D A [(b, .inr (0, [.int 0, .int 0, .int 0, .int 0, .int 0, .int 0]))] := hD
  refine lv_aload_n hx hb dX0_init_14 rfl (lv_at hl 0 rfl) ?_
  refine lv_iload_n hx hb dX0_init_15 rfl (lv_at hl 1 rfl) ?_
  refine va_putF (D := D) (ci := 0) (v := .int w) (ty := .int) (C := RX0) (T := TX0) (N := 6) hx hb hts hiF tyX0 tyX0_ok nmX0 hown hK hP hD hS 0 rfl rfl 0 (by decide) (hts (.fieldLink RX0 17 "TunerBench$Guard" "what" "I") (by decide +kernel)) (fun _ h9 => h9) rfl hin rfl (by decide +kernel) rfl rfl (Nat.le_of_ble_eq_true rfl) dX0_init_16 (fun H locs hP hD hS => ?_)
  have hP : va_P D vwCl [(b, .inr (0, [.int w, .int 0, .int 0, .int 0, .int 0, .int 0]))] H := hP
  have hD : va_D A [(b, .inr (0, [.int w, .int 0, .int 0, .int 0, .int 0, .int 0]))] := hD
  refine lv_aload_n hx hb dX0_init_19 rfl (lv_at hl 0 rfl) ?_
  refine lv_iload_n hx hb dX0_init_20 rfl (lv_at hl 2 rfl) ?_
  refine va_putF (D := D) (ci := 0) (v := .int h) (ty := .int) (C := RX0) (T := TX0) (N := 6) hx hb hts hiF tyX0 tyX0_ok nmX0 hown hK hP hD hS 0 rfl rfl 1 (by decide) (hts (.fieldLink RX0 20 "TunerBench$Guard" "how" "I") (by decide +kernel)) (fun _ h9 => h9) rfl hin rfl (by decide +kernel) rfl rfl (Nat.le_of_ble_eq_true rfl) dX0_init_21 (fun H locs hP hD hS => ?_)
  have hP : va_P D vwCl [(b, .inr (0, [.int w, .int h, .int 0, .int 0, .int 0, .int 0]))] H := hP
  have hD : va_D A [(b, .inr (0, [.int w, .int h, .int 0, .int 0, .int 0, .int 0]))] := hD
  refine lv_aload_n hx hb dX0_init_24 rfl (lv_at hl 0 rfl) ?_
  refine lv_iload_n hx hb dX0_init_25 rfl (lv_at hl 3 rfl) ?_
  refine va_putF (D := D) (ci := 0) (v := .int q) (ty := .int) (C := RX0) (T := TX0) (N := 6) hx hb hts hiF tyX0 tyX0_ok nmX0 hown hK hP hD hS 0 rfl rfl 2 (by decide) (hts (.fieldLink RX0 23 "TunerBench$Guard" "copy" "I") (by decide +kernel)) (fun _ h9 => h9) rfl hin rfl (by decide +kernel) rfl rfl (Nat.le_of_ble_eq_true rfl) dX0_init_26 (fun H locs hP hD hS => ?_)
  have hP : va_P D vwCl [(b, .inr (0, [.int w, .int h, .int q, .int 0, .int 0, .int 0]))] H := hP
  have hD : va_D A [(b, .inr (0, [.int w, .int h, .int q, .int 0, .int 0, .int 0]))] := hD
  refine lv_aload_n hx hb dX0_init_29 rfl (lv_at hl 0 rfl) ?_
  refine lv_iload hx hb dX0_init_30 (lv_at hl 4 rfl) ?_
  refine va_putF (D := D) (ci := 0) (v := .int mo) (ty := .int) (C := RX0) (T := TX0) (N := 6) hx hb hts hiF tyX0 tyX0_ok nmX0 hown hK hP hD hS 0 rfl rfl 3 (by decide) (hts (.fieldLink RX0 26 "TunerBench$Guard" "mode" "I") (by decide +kernel)) (fun _ h9 => h9) rfl hin rfl (by decide +kernel) rfl rfl (Nat.le_of_ble_eq_true rfl) dX0_init_32 (fun H locs hP hD hS => ?_)
  have hP : va_P D vwCl [(b, .inr (0, [.int w, .int h, .int q, .int mo, .int 0, .int 0]))] H := hP
  have hD : va_D A [(b, .inr (0, [.int w, .int h, .int q, .int mo, .int 0, .int 0]))] := hD
  exact xw_v (S := Unit) () hx hb hr hlk dX0_init_35 hP hK hD hS trivial
set_option maxHeartbeats 4000000 in
set_option maxRecDepth 100000 in
theorem c_X1_guard (l : Launch) (D : va_G) (a : Nat → Nat) (cV cI cG : ClassId) (v : Nat → Nat → Int32) (gg : Nat → Option Nat) (dn lt ch : Int32) (L : List Nat) (f : Nat → va_E) (sz : Nat) (g w h x mo : Int32) : Met l yX1_guard wsX1_guard ({ frames := 2, cells := 1, slots := 6, locals := 41 }) (xW D vwCl (cb a cV cI cG v gg dn lt ch ++ va_pl L f) (cT cV cI cG) nT sz [.ref (a 0), .int g, .int w, .int h, .int x, .int mo]) (xQ (S := Nat) D vwCl (fun r u => r = b2i (gB g w h x mo) ∧ (gB g w h x mo = true → u ∉ L)) (fun u => cond (gB g w h x mo) (cb a cV cI cG v (va_up gg (cn g) (some u)) dn lt ch ++ va_pl (L ++ [u]) (va_up f u (gE (w, h, v (cn w) (cn x), mo, false, 0)))) (cb a cV cI cG v gg dn lt ch ++ va_pl L f)) (fun _ => cT cV cI cG) (va_A (cb a cV cI cG v gg dn lt ch ++ va_pl L f) sz)) 1 6 (va_A (cb a cV cI cG v gg dn lt ch ++ va_pl L f) sz) := by
  refine xw_in (Qf := xQ (S := Nat) D vwCl (fun r u => r = b2i (gB g w h x mo) ∧ (gB g w h x mo = true → u ∉ L)) (fun u => cond (gB g w h x mo) (cb a cV cI cG v (va_up gg (cn g) (some u)) dn lt ch ++ va_pl (L ++ [u]) (va_up f u (gE (w, h, v (cn w) (cn x), mo, false, 0)))) (cb a cV cI cG v gg dn lt ch ++ va_pl L f)) (fun _ => cT cV cI cG)) (cc := cX1_guard) (maxL := 6) (ret := (some .boolean)) (by decide) rfl (Nat.le_of_ble_eq_true rfl) ?_
  intro p e s m below meth c ls A hx hb hr hml hts hown hlk hnm hA hP hK hD hS hB hl
  have hown : s.vm.findClass RX1 = some m.cls := hown
  have hl : lv_has ls 6 [(0, .ref (a 0)), (1, .int g), (2, .int w), (3, .int h), (4, .int x), (5, .int mo)] := hl
  have hiF : ∀ w ∈ wsX10, w ∈ wsX1_guard := by decide +kernel
  have hiG : ∀ w ∈ wsX00, w ∈ wsX1_guard := by decide +kernel
  refine lv_iload_n hx hb dX1_guard_0 rfl (lv_at hl 1 rfl) ?_
  refine xc_T (As := [.int g]) (rest := []) ⟨hx, hb, hml, hown, hts⟩ (c_X1_isGuard l g) (va_cwS 1 hts gX1_guard_X1_isGuard rfl rfl rfl (by decide +kernel) ⟨Nat.le_of_ble_eq_true rfl, Nat.le_of_ble_eq_true rfl⟩) rfl hl.1 rfl (Nat.le_of_ble_eq_true rfl) dX1_guard_1 ⟨Nat.zero_le _, Nat.zero_le _⟩ ?_
  refine lv_if_eq (tgt := 31) hx hb dX1_guard_4 (by decide) (fun c_1 => ?_) (fun c_1 => ?_)
  · have c_1 := b2i_e c_1
    refine lv_iconst (v := 0) hx hb dX1_guard_31 (by decide) ?_
    have hok : gB g w h x mo = false := by simp [gB, c_1]
    refine W.widen (k := 1) (n := 6) (Nat.zero_le _) (Nat.zero_le _) ?_
    exact xw_z (S := Nat) 0 hx hb hr hlk dX1_guard_32 (by decide) (by rw [hok]; exact hP) hK (by rw [hok]; exact hD) hS ⟨by rw [hok]; rfl, fun h9 => by rw [hok] at h9; cases h9⟩
  · have c_1 := b2i_n c_1
    refine lv_iload_n hx hb dX1_guard_7 rfl (lv_at hl 2 rfl) ?_
    refine lv_iload_n hx hb dX1_guard_8 rfl (lv_at hl 3 rfl) ?_
    refine xc_T (As := [.int w, .int h]) (rest := []) ⟨hx, hb, hml, hown, hts⟩ (c_X1_isQuestion l w h) (va_cwS 2 hts gX1_guard_X1_isQuestion rfl rfl rfl (by decide +kernel) ⟨Nat.le_of_ble_eq_true rfl, Nat.le_of_ble_eq_true rfl⟩) rfl hl.1 rfl (Nat.le_of_ble_eq_true rfl) dX1_guard_9 ⟨Nat.zero_le _, Nat.zero_le _⟩ ?_
    refine lv_if_eq (tgt := 31) hx hb dX1_guard_12 (by decide) (fun c_2 => ?_) (fun c_2 => ?_)
    · have c_2 := b2i_e c_2
      refine lv_iconst (v := 0) hx hb dX1_guard_31 (by decide) ?_
      have hok : gB g w h x mo = false := by simp [gB, c_1, c_2]
      refine W.widen (k := 1) (n := 6) (Nat.zero_le _) (Nat.zero_le _) ?_
      exact xw_z (S := Nat) 0 hx hb hr hlk dX1_guard_32 (by decide) (by rw [hok]; exact hP) hK (by rw [hok]; exact hD) hS ⟨by rw [hok]; rfl, fun h9 => by rw [hok] at h9; cases h9⟩
    · have c_2 := b2i_n c_2
      refine lv_iload hx hb dX1_guard_15 (lv_at hl 4 rfl) ?_
      refine xc_T (As := [.int x]) (rest := []) ⟨hx, hb, hml, hown, hts⟩ (c_X1_isString l x) (va_cwS 1 hts gX1_guard_X1_isString rfl rfl rfl (by decide +kernel) ⟨Nat.le_of_ble_eq_true rfl, Nat.le_of_ble_eq_true rfl⟩) rfl hl.1 rfl (Nat.le_of_ble_eq_true rfl) dX1_guard_17 ⟨Nat.zero_le _, Nat.zero_le _⟩ ?_
      refine lv_if_eq (tgt := 31) hx hb dX1_guard_20 (by decide) (fun c_3 => ?_) (fun c_3 => ?_)
      · have c_3 := b2i_e c_3
        refine lv_iconst (v := 0) hx hb dX1_guard_31 (by decide) ?_
        have hok : gB g w h x mo = false := by simp [gB, c_1, c_2, c_3]
        refine W.widen (k := 1) (n := 6) (Nat.zero_le _) (Nat.zero_le _) ?_
        exact xw_z (S := Nat) 0 hx hb hr hlk dX1_guard_32 (by decide) (by rw [hok]; exact hP) hK (by rw [hok]; exact hD) hS ⟨by rw [hok]; rfl, fun h9 => by rw [hok] at h9; cases h9⟩
      · have c_3 := b2i_n c_3
        refine lv_iload hx hb dX1_guard_23 (lv_at hl 5 rfl) ?_
        refine xc_T (As := [.int mo]) (rest := []) ⟨hx, hb, hml, hown, hts⟩ (c_X1_isMode l mo) (va_cwS 1 hts gX1_guard_X1_isMode rfl rfl rfl (by decide +kernel) ⟨Nat.le_of_ble_eq_true rfl, Nat.le_of_ble_eq_true rfl⟩) rfl hl.1 rfl (Nat.le_of_ble_eq_true rfl) dX1_guard_25 ⟨Nat.zero_le _, Nat.zero_le _⟩ ?_
        refine lv_if_ne (tgt := 33) hx hb dX1_guard_28 (by decide) (fun c_4 => ?_) (fun c_4 => ?_)
        · have c_4 := b2i_n c_4
          refine lv_aload_n hx hb dX1_guard_33 rfl (lv_at hl 0 rfl) ?_
          refine va_get (D := D) (ci := 1) (v := .ref (a 4)) (C := RX1) (T := TX1) (N := 5) hx hb hts hiF hown hK hP 0 rfl rfl 1 (by decide) (hts (.fieldLink RX1 16 "TunerBench" "guards" "[LTunerBench$Guard;") (by decide +kernel)) (fun _ h9 => h9) rfl dX1_guard_34 ?_
          refine lv_iload_n hx hb dX1_guard_37 rfl (lv_at hl 1 rfl) ?_
          refine va_new (D := D) (ci := 0) (fs := [.int 0, .int 0, .int 0, .int 0, .int 0, .int 0]) (C := RX0) (T := TX0) (N := 6) hx hb hts hiG tyX0 tyX0_ok hown (hts (.classLink RX1 14 RX0) (by decide +kernel)) (hts (.instantiable RX0 6) (by decide +kernel)) (hts (.initialized RX0) (by decide +kernel)) hK hP hD hS hA rfl (fun j hj => by rcases (show j = 0 ∨ j = 1 ∨ j = 2 ∨ j = 3 ∨ j = 4 ∨ j = 5 by omega) with rfl | rfl | rfl | rfl | rfl | rfl <;> rfl) (Nat.le_of_ble_eq_true rfl) (Nat.le_of_ble_eq_true rfl) dX1_guard_38 (fun q H hP hD hS => ?_)
          have hP : va_P D vwCl ((cb a cV cI cG v gg dn lt ch ++ va_pl L f) ++ [(q, .inr (0, [.int 0, .int 0, .int 0, .int 0, .int 0, .int 0]))]) H := hP
          have hD : va_D A ((cb a cV cI cG v gg dn lt ch ++ va_pl L f) ++ [(q, .inr (0, [.int 0, .int 0, .int 0, .int 0, .int 0, .int 0]))]) := hD
          refine W.widen (k := 1) (n := 6) (Nat.le_of_ble_eq_true rfl) (Nat.le_of_ble_eq_true rfl) ?_
          refine lv_dup hx hb dX1_guard_41 rfl ?_
          refine lv_iload_n hx hb dX1_guard_42 rfl (lv_at hl 2 rfl) ?_
          refine lv_iload_n hx hb dX1_guard_43 rfl (lv_at hl 3 rfl) ?_
          refine lv_aload_n hx hb dX1_guard_44 rfl (lv_at hl 0 rfl) ?_
          refine va_get (D := D) (ci := 1) (v := .ref (a 1)) (C := RX1) (T := TX1) (N := 5) hx hb hts hiF hown hK hP 0 rfl rfl 0 (by decide) (hts (.fieldLink RX1 11 "TunerBench" "values" "[[I") (by decide +kernel)) (fun _ h9 => h9) rfl dX1_guard_45 ?_
          refine lv_iload_n hx hb dX1_guard_48 rfl (lv_at hl 2 rfl) ?_
          refine xa_ald (D := D) hx hb hK hP 1 0 rfl rfl (isQ_w c_2) dX1_guard_49 ?_
          refine lv_iload hx hb dX1_guard_50 (lv_at hl 4 rfl) ?_
          refine va_iald (D := D) hx hb hK hP (2 + cn w) 1 (cq_row (vp_lt (isQ_w c_2))) rfl (isF_in (isS_F c_3)) dX1_guard_52 ?_
          refine lv_iload hx hb dX1_guard_53 (lv_at hl 5 rfl) ?_
          have hPn := xp_c hP
          have hDn := xd_c hD
          refine xc_IN (S0 := Unit) (rw := (cb a cV cI cG v gg dn lt ch ++ va_pl L f)) (As := [.int w, .int h, .int (v (cn w) (cn x)), .int mo]) (rest := [.ref q, .int g, .ref (a 4)]) ⟨hx, hb, hml, hown, hts⟩ (c_X0_init l D q H.size w h (v (cn w) (cn x)) mo) ⟨va_cnB 4 hts gX1_guard_X0_init_n76 rfl rfl rfl hB.1 (hts (.initialized RX0) (by decide +kernel)) (by decide +kernel) ⟨Nat.le_of_ble_eq_true rfl, Nat.le_of_ble_eq_true rfl⟩, rfl, hts (.instanceMethod yX0_init) (by decide +kernel)⟩ xMv0 trivial hPn (hK.sub (tys' := []) [] rfl) hDn hS hA rfl hl.1 rfl (Nat.le_of_ble_eq_true rfl) dX1_guard_55 ⟨Nat.le_of_ble_eq_true rfl, Nat.le_of_ble_eq_true rfl⟩ (fun _ H locs _ hP hD _ hS => ?_)
          have hP : va_P D vwCl ([(q, gE (w, h, v (cn w) (cn x), mo, false, 0))] ++ (cb a cV cI cG v gg dn lt ch ++ va_pl L f)) H := hP
          have hD : va_D A ([(q, gE (w, h, v (cn w) (cn x), mo, false, 0))] ++ (cb a cV cI cG v gg dn lt ch ++ va_pl L f)) := hD
          refine va_astq (D := D) hx hb hK hP hD hS 5 2 0 0 (r := (RX0, TX0, 6)) rfl rfl rfl rfl (isG_in c_1) dX1_guard_58 (fun H locs hP hD hS => ?_)
          have hP : va_P D vwCl ([(q, gE (w, h, v (cn w) (cn x), mo, false, 0))] ++ (cb a cV cI cG v (va_up gg (cn g) (some q)) dn lt ch ++ va_pl L f)) H := hP
          have hD : va_D A ([(q, gE (w, h, v (cn w) (cn x), mo, false, 0))] ++ (cb a cV cI cG v (va_up gg (cn g) (some q)) dn lt ch ++ va_pl L f)) := hD
          refine lv_iconst (v := 1) hx hb dX1_guard_59 (by decide) ?_
          have hok : gB g w h x mo = true := by simp [gB, c_1, c_2, c_3, c_4]
          have hq := x_nin hD
          have hP := xp_c hP
          have hD := xd_c hD
          rw [List.append_assoc, va_pl_push hq] at hP hD
          exact xw_z (S := Nat) q hx hb hr hlk dX1_guard_60 (by decide) (by rw [hok]; exact hP) hK (by rw [hok]; exact hD) hS ⟨by rw [hok]; rfl, fun _ => hq⟩
        · have c_4 := b2i_e c_4
          refine lv_iconst (v := 0) hx hb dX1_guard_31 (by decide) ?_
          have hok : gB g w h x mo = false := by simp [gB, c_1, c_2, c_3, c_4]
          refine W.widen (k := 1) (n := 6) (Nat.zero_le _) (Nat.zero_le _) ?_
          exact xw_z (S := Nat) 0 hx hb hr hlk dX1_guard_32 (by decide) (by rw [hok]; exact hP) hK (by rw [hok]; exact hD) hS ⟨by rw [hok]; rfl, fun h9 => by rw [hok] at h9; cases h9⟩
end
section
/-! the class: guards look -/
set_option maxHeartbeats 4000000 in
set_option maxRecDepth 100000 in
theorem c_X1_ringsNow (l : Launch) (D : va_G) (a : Nat → Nat) (cV cI cG : ClassId) (v : Nat → Nat → Int32) (gg : Nat → Option Nat) (dn lt ch : Int32) (L : List Nat) (f : Nat → va_E) (sz : Nat) (b : Nat) (tw th tc tm : Int32) (td : Bool) (tn : Int32) (hbL : b ∈ L) (hfb : f b = gE (tw, th, tc, tm, td, tn)) (htw : vp_in tw 2) : Met l yX1_ringsNow wsX1_ringsNow ({ frames := 2, cells := 0, slots := 0, locals := 44 }) (xW D vwCl (cb a cV cI cG v gg dn lt ch ++ va_pl L f) (cT cV cI cG) nT sz [.ref (a 0), .ref b]) (xQ (S := Unit) D vwCl (fun r _ => r = b2i (lrF v (tw, th, tc, tm, td, tn))) (fun _ => cb a cV cI cG v gg dn lt ch ++ va_pl L (va_up f b (gE (lnx v (tw, th, tc, tm, td, tn))))) (fun _ => cT cV cI cG) (va_A (cb a cV cI cG v gg dn lt ch ++ va_pl L f) sz)) 0 0 (va_A (cb a cV cI cG v gg dn lt ch ++ va_pl L f) sz) := by
  refine xw_in (Qf := xQ (S := Unit) D vwCl (fun r _ => r = b2i (lrF v (tw, th, tc, tm, td, tn))) (fun _ => cb a cV cI cG v gg dn lt ch ++ va_pl L (va_up f b (gE (lnx v (tw, th, tc, tm, td, tn))))) (fun _ => cT cV cI cG)) (cc := cX1_ringsNow) (maxL := 4) (ret := (some .boolean)) (by decide) rfl (Nat.le_of_ble_eq_true rfl) ?_
  intro p e s m below meth c ls A hx hb hr hml hts hown hlk hnm hA hP hK hD hS hB hl
  have hown : s.vm.findClass RX1 = some m.cls := hown
  have hl : lv_has ls 4 [(0, .ref (a 0)), (1, .ref b)] := hl
  have hiF : ∀ w ∈ wsX10, w ∈ wsX1_ringsNow := by decide +kernel
  have hiG : ∀ w ∈ wsX00, w ∈ wsX1_ringsNow := by decide +kernel
  obtain ⟨K_0, hk_0⟩ := va_pl_get (X := cb a cV cI cG v gg dn lt ch) (f := f) hbL
  have hk_1 := hk_0; rw [hfb] at hk_1
  refine lv_aload_n hx hb dX1_ringsNow_0 rfl (lv_at hl 1 rfl) ?_
  refine va_getN (D := D) (ci := 0) (v := .int th) (C := RX0) (T := TX0) (N := 6) (host := "TunerBench") hx hb hts hiG hown hK hP K_0 hk_1 rfl 1 (by decide) (va_Nw.use rfl hB.2.2.1) (fun _ h9 => h9) rfl dX1_ringsNow_1 ?_
  refine lv_aload_n hx hb dX1_ringsNow_4 rfl (lv_at hl 0 rfl) ?_
  refine va_get (D := D) (ci := 1) (v := .ref (a 1)) (C := RX1) (T := TX1) (N := 5) hx hb hts hiF hown hK hP 0 rfl rfl 0 (by decide) (hts (.fieldLink RX1 11 "TunerBench" "values" "[[I") (by decide +kernel)) (fun _ h9 => h9) rfl dX1_ringsNow_5 ?_
  refine lv_aload_n hx hb dX1_ringsNow_8 rfl (lv_at hl 1 rfl) ?_
  refine va_getN (D := D) (ci := 0) (v := .int tw) (C := RX0) (T := TX0) (N := 6) (host := "TunerBench") hx hb hts hiG hown hK hP K_0 hk_1 rfl 0 (by decide) (va_Nw.use rfl hB.2.1) (fun _ h9 => h9) rfl dX1_ringsNow_9 ?_
  refine xa_ald (D := D) hx hb hK hP 1 0 rfl rfl htw dX1_ringsNow_12 ?_
  refine lv_bipush (v := 32) hx hb dX1_ringsNow_13 (by decide) ?_
  refine va_iald (D := D) hx hb hK hP (2 + cn tw) 1 (cp_row (vp_lt htw)) rfl (show vp_in (32) 33 by unfold vp_in; decide) dX1_ringsNow_15 ?_
  refine lv_aload_n hx hb dX1_ringsNow_16 rfl (lv_at hl 1 rfl) ?_
  refine va_getN (D := D) (ci := 0) (v := .int tc) (C := RX0) (T := TX0) (N := 6) (host := "TunerBench") hx hb hts hiG hown hK hP K_0 hk_1 rfl 2 (by decide) (va_Nw.use rfl hB.2.2.2.1) (fun _ h9 => h9) rfl dX1_ringsNow_17 ?_
  refine xc_T (As := [.int th, .int (v (cn tw) (cn 32)), .int tc]) (rest := []) ⟨hx, hb, hml, hown, hts⟩ (c_X1_valueStands l th (v (cn tw) (cn 32)) tc) (va_cwS 3 hts gX1_ringsNow_X1_valueStands rfl rfl rfl (by decide +kernel) ⟨Nat.le_of_ble_eq_true rfl, Nat.le_of_ble_eq_true rfl⟩) rfl hl.1 rfl (Nat.le_of_ble_eq_true rfl) dX1_ringsNow_20 ⟨Nat.zero_le _, Nat.zero_le _⟩ ?_
  refine lv_istore_n (lv' := [(2, .int (b2i (stnF th (v (cn tw) (cn 32)) tc))), (0, .ref (a 0)), (1, .ref b)]) hx hb dX1_ringsNow_23 rfl hl (by decide) rfl (fun ls hl => ?_)
  refine lv_aload_n hx hb dX1_ringsNow_24 rfl (lv_at hl 2 rfl) ?_
  refine va_getN (D := D) (ci := 0) (v := .int tm) (C := RX0) (T := TX0) (N := 6) (host := "TunerBench") hx hb hts hiG hown hK hP K_0 hk_1 rfl 3 (by decide) (va_Nw.use rfl hB.2.2.2.2.1) (fun _ h9 => h9) rfl dX1_ringsNow_25 ?_
  refine lv_iload_n hx hb dX1_ringsNow_28 rfl (lv_at hl 0 rfl) ?_
  refine lv_aload_n hx hb dX1_ringsNow_29 rfl (lv_at hl 2 rfl) ?_
  refine va_getN (D := D) (ci := 0) (v := .int (b2i td)) (C := RX0) (T := TX0) (N := 6) (host := "TunerBench") hx hb hts hiG hown hK hP K_0 hk_1 rfl 4 (by decide) (va_Nw.use rfl hB.2.2.2.2.2.1) (fun _ h9 => h9) rfl dX1_ringsNow_30 ?_
  refine xc_T (As := [.int tm, .int (b2i (stnF th (v (cn tw) (cn 32)) tc)), .int (b2i td)]) (rest := []) ⟨hx, hb, hml, hown, hts⟩ (c_X1_isRung l tm (stnF th (v (cn tw) (cn 32)) tc) td) (va_cwS 3 hts gX1_ringsNow_X1_isRung rfl rfl rfl (by decide +kernel) ⟨Nat.le_of_ble_eq_true rfl, Nat.le_of_ble_eq_true rfl⟩) rfl hl.1 rfl (Nat.le_of_ble_eq_true rfl) dX1_ringsNow_33 ⟨Nat.zero_le _, Nat.zero_le _⟩ ?_
  refine lv_istore_n (lv' := [(3, .int (b2i (rungF tm (stnF th (v (cn tw) (cn 32)) tc) td))), (2, .int (b2i (stnF th (v (cn tw) (cn 32)) tc))), (0, .ref (a 0)), (1, .ref b)]) hx hb dX1_ringsNow_36 rfl hl (by decide) rfl (fun ls hl => ?_)
  refine lv_aload_n hx hb dX1_ringsNow_37 rfl (lv_at hl 3 rfl) ?_
  refine lv_iload_n hx hb dX1_ringsNow_38 rfl (lv_at hl 1 rfl) ?_
  have hD0 := hD
  refine va_putN (D := D) (ci := 0) (v := .int (b2i (stnF th (v (cn tw) (cn 32)) tc))) (ty := .boolean) (C := RX0) (T := TX0) (N := 6) (host := "TunerBench") hx hb hts hiG tyX0 tyX0_ok nmX0 hown hK hP hD hS K_0 hk_1 rfl 4 (by decide) (va_Nw.use rfl hB.2.2.2.2.2.1) (fun _ h9 => h9) rfl (by decide +kernel) (b2i_nar _) (b2i_fit _) (Nat.le_of_ble_eq_true rfl) dX1_ringsNow_39 (fun H locs hP hD hS => ?_)
  rw [va_pl_set hD0 hbL hk_0] at hP hD
  have hP : va_P D vwCl (cb a cV cI cG v gg dn lt ch ++ va_pl L (va_up f b (gE (tw, th, tc, tm, (stnF th (v (cn tw) (cn 32)) tc), tn)))) H := hP
  have hD : va_D A (cb a cV cI cG v gg dn lt ch ++ va_pl L (va_up f b (gE (tw, th, tc, tm, (stnF th (v (cn tw) (cn 32)) tc), tn)))) := hD
  obtain ⟨K_1, K_1_0⟩ := va_pl_get (X := cb a cV cI cG v gg dn lt ch) (f := va_up f b (gE (tw, th, tc, tm, (stnF th (v (cn tw) (cn 32)) tc), tn))) hbL
  have K_1_1 := K_1_0; rw [va_up_self] at K_1_1
  refine lv_iload_n hx hb dX1_ringsNow_42 rfl (lv_at hl 0 rfl) ?_
  refine lv_if_eq (tgt := 56) hx hb dX1_ringsNow_43 (by decide) (fun c_2 => ?_) (fun c_2 => ?_)
  · have c_2 := b2i_e c_2
    refine lv_iload_n hx hb dX1_ringsNow_56 rfl (lv_at hl 0 rfl) ?_
    have e_t : ((tw, th, tc, tm, (stnF th (v (cn tw) (cn 32)) tc), tn) : GT) = lnx v (tw, th, tc, tm, td, tn) := by simp [lnx, lrF, lst, c_2]
    rw [e_t] at hP hD
    exact xw_z (S := Unit) () hx hb hr hlk dX1_ringsNow_57 (b2i_nar _) hP hK hD hS rfl
  · have c_2 := b2i_n c_2
    refine lv_aload_n hx hb dX1_ringsNow_46 rfl (lv_at hl 3 rfl) ?_
    refine lv_dup hx hb dX1_ringsNow_47 rfl ?_
    refine va_getN (D := D) (ci := 0) (v := .int tn) (C := RX0) (T := TX0) (N := 6) (host := "TunerBench") hx hb hts hiG hown hK hP K_1 K_1_1 rfl 5 (by decide) (va_Nw.use rfl hB.2.2.2.2.2.2) (fun _ h9 => h9) rfl dX1_ringsNow_48 ?_
    refine lv_iconst (v := 1) hx hb dX1_ringsNow_51 (by decide) ?_
    refine lv_iadd hx hb dX1_ringsNow_52 ?_
    have hD0 := hD
    refine va_putN (D := D) (ci := 0) (v := .int (tn + 1)) (ty := .int) (C := RX0) (T := TX0) (N := 6) (host := "TunerBench") hx hb hts hiG tyX0 tyX0_ok nmX0 hown hK hP hD hS K_1 K_1_1 rfl 5 (by decide) (va_Nw.use rfl hB.2.2.2.2.2.2) (fun _ h9 => h9) rfl (by decide +kernel) rfl rfl (Nat.le_of_ble_eq_true rfl) dX1_ringsNow_53 (fun H locs hP hD hS => ?_)
    rw [va_pl_set hD0 hbL K_1_0] at hP hD
    rw [bx_uu] at hP hD
    have hP : va_P D vwCl (cb a cV cI cG v gg dn lt ch ++ va_pl L (va_up f b (gE (tw, th, tc, tm, (stnF th (v (cn tw) (cn 32)) tc), tn + 1)))) H := hP
    have hD : va_D A (cb a cV cI cG v gg dn lt ch ++ va_pl L (va_up f b (gE (tw, th, tc, tm, (stnF th (v (cn tw) (cn 32)) tc), tn + 1)))) := hD
    obtain ⟨K_3, K_3_0⟩ := va_pl_get (X := cb a cV cI cG v gg dn lt ch) (f := va_up f b (gE (tw, th, tc, tm, (stnF th (v (cn tw) (cn 32)) tc), tn + 1))) hbL
    have K_3_1 := K_3_0; rw [va_up_self] at K_3_1
    refine lv_iload_n hx hb dX1_ringsNow_56 rfl (lv_at hl 0 rfl) ?_
    have e_t : ((tw, th, tc, tm, (stnF th (v (cn tw) (cn 32)) tc), tn + 1) : GT) = lnx v (tw, th, tc, tm, td, tn) := by simp [lnx, lrF, lst, c_2]
    rw [e_t] at hP hD
    exact xw_z (S := Unit) () hx hb hr hlk dX1_ringsNow_57 (b2i_nar _) hP hK hD hS rfl
theorem lkG_0 (v : Nat → Nat → Int32) (G : Nat → Option GT) : lkG v G 0 = G := by funext g; simp [lkG]
theorem lkG_s (v : Nat → Nat → Int32) (G : Nat → Option GT) (k g : Nat) (h : g ≠ k) : lkG v G (k + 1) g = lkG v G k g := by
  by_cases q : g < k
  · simp [lkG, q, show g < k + 1 by omega]
  · simp [lkG, q, show ¬ g < k + 1 by omega]
theorem lkG_k (v : Nat → Nat → Int32) (G : Nat → Option GT) (k : Nat) : lkG v G (k + 1) k = (G k).map (lnx v) := by simp [lkG]
theorem GR_none {v : Nat → Nat → Int32} {G : Nat → Option GT} {gg : Nat → Option Nat} {L : List Nat} {f : Nat → va_E} {k : Nat} (hG : GR (lkG v G k) gg L f) (h : G k = none) (hk : k < 8) : GR (lkG v G (k + 1)) gg L f := by
  refine ⟨fun g hg => ?_, hG.2⟩
  by_cases e : g = k
  · subst e
    rcases hG.1 g hg with ⟨h1, h2⟩ | ⟨t, x, h1, -⟩
    · exact Or.inl ⟨by rw [lkG_k, h]; rfl, h2⟩
    · have : lkG v G g g = G g := by simp [lkG]
      rw [this, h] at h1
      cases h1
  · rw [lkG_s v G k g e]
    exact hG.1 g hg
theorem GR_step {v : Nat → Nat → Int32} {G : Nat → Option GT} {gg : Nat → Option Nat} {L : List Nat} {f : Nat → va_E} {k x : Nat} {t : GT} (hG : GR (lkG v G k) gg L f) (h : G k = some t) (h2 : gg k = some x) (h3 : x ∈ L) (hk : k < 8) : GR (lkG v G (k + 1)) gg L (va_up f x (gE (lnx v t))) := by
  refine ⟨fun g hg => ?_, hG.2⟩
  by_cases e : g = k
  · subst e
    exact Or.inr ⟨lnx v t, x, by rw [lkG_k, h]; rfl, h2, h3, va_up_self _ _ _⟩
  · rw [lkG_s v G k g e]
    rcases hG.1 g hg with q | ⟨t', x', q1, q2, q3, q4⟩
    · exact Or.inl q
    · refine Or.inr ⟨t', x', q1, q2, q3, ?_⟩
      have : x' ≠ x := fun q => e (hG.2 g k x hg hk (by rw [← q]; exact q2) h2)
      rw [va_up_ne _ _ this]
      exact q4
set_option maxHeartbeats 4000000 in
set_option maxRecDepth 100000 in
theorem c_X1_look (l : Launch) (D : va_G) (a : Nat → Nat) (cV cI cG : ClassId) (v : Nat → Nat → Int32) (gg : Nat → Option Nat) (dn lt ch : Int32) (L : List Nat) (f : Nat → va_E) (sz : Nat) (G : Nat → Option GT) (hGR : GR G gg L f) (hGw : ∀ (g : Nat) (t : GT), g < 8 → G g = some t → vp_in t.1 2) : Met l yX1_look wsX1_look ({ frames := 3, cells := 0, slots := 0, locals := 67 }) (xW D vwCl (cb a cV cI cG v gg dn lt ch ++ va_pl L f) (cT cV cI cG) nT sz [.ref (a 0)]) (xQ (S := (Nat → va_E)) D vwCl (fun r f9 => r = lkS v G 8 ∧ GR (lkG v G 8) gg L f9) (fun f9 => cb a cV cI cG v gg dn lt ch ++ va_pl L f9) (fun _ => cT cV cI cG) (va_A (cb a cV cI cG v gg dn lt ch ++ va_pl L f) sz)) 0 0 (va_A (cb a cV cI cG v gg dn lt ch ++ va_pl L f) sz) := by
  refine xw_in (Qf := xQ (S := (Nat → va_E)) D vwCl (fun r f9 => r = lkS v G 8 ∧ GR (lkG v G 8) gg L f9) (fun f9 => cb a cV cI cG v gg dn lt ch ++ va_pl L f9) (fun _ => cT cV cI cG)) (cc := cX1_look) (maxL := 4) (ret := (some .int)) (by decide) rfl (Nat.le_of_ble_eq_true rfl) ?_
  intro p e s m below meth c ls A hx hb hr hml hts hown hlk hnm hA hP hK hD hS hB hl
  have hown : s.vm.findClass RX1 = some m.cls := hown
  have hl : lv_has ls 4 [(0, .ref (a 0))] := hl
  have hiF : ∀ w ∈ wsX10, w ∈ wsX1_look := by decide +kernel
  have loop : ∀ (n k : Nat) (f1 : Nat → va_E), k + n = 8 → GR (lkG v G k) gg L f1 → ∀ (H : Heap) (locs : List Loc), va_P D vwCl (cb a cV cI cG v gg dn lt ch ++ va_pl L f1) H → va_D A (cb a cV cI cG v gg dn lt ch ++ va_pl L f1) → va_S A s.heap H locs → ∀ ls : Array Slot, lv_has ls 4 [(2, .int (nI k)), (1, .int (lkS v G k)), (0, .ref (a 0))] → W p l e ({ frames := 3, cells := 0, slots := 0, locals := 67 }) s m ([.ref (a 0)] : List Value).toArray below meth c H locs 0 0 (MQ below (xQ (S := Nat → va_E) D vwCl (fun r f9 => r = lkS v G 8 ∧ GR (lkG v G 8) gg L f9) (fun f9 => cb a cV cI cG v gg dn lt ch ++ va_pl L f9) (fun _ => cT cV cI cG) A) ([.ref (a 0)] : List Value).toArray s 0 0 A) (F0 m 4 ls []) := by
    intro n
    induction n with
    | zero =>
      intro k f1 hk hG H locs hP hD hS ls hl
      obtain rfl : k = 8 := by omega
      refine lv_iload_n hx hb dX1_look_4 rfl (lv_at hl 0 rfl) ?_
      refine lv_bipush (v := 8) hx hb dX1_look_5 (by decide) ?_
      refine lv_icmp_ge (tgt := 41) hx hb dX1_look_7 (by decide) (fun c_1 => ?_) (fun c_1 => absurd (by decide) c_1)
      refine lv_iload_n hx hb dX1_look_41 rfl (lv_at hl 1 rfl) ?_
      exact xw_i (S := Nat → va_E) f1 hx hb hr hlk dX1_look_42 hP hK hD hS ⟨rfl, hG⟩
    | succ n ih =>
      intro k f1 hk hG H locs hP hD hS ls hl
      refine lv_iload_n hx hb dX1_look_4 rfl (lv_at hl 0 rfl) ?_
      refine lv_bipush (v := 8) hx hb dX1_look_5 (by decide) ?_
      refine lv_icmp_ge (tgt := 41) hx hb dX1_look_7 (by decide) (fun c_2 => absurd c_2 (nI_ge (show k < 8 by omega) (by decide))) (fun c_2 => ?_)
      refine lv_aload_n hx hb dX1_look_10 rfl (lv_at hl 2 rfl) ?_
      refine va_get (D := D) (ci := 1) (v := .ref (a 4)) (C := RX1) (T := TX1) (N := 5) hx hb hts hiF hown hK hP 0 rfl rfl 1 (by decide) (hts (.fieldLink RX1 16 "TunerBench" "guards" "[LTunerBench$Guard;") (by decide +kernel)) (fun _ h9 => h9) rfl dX1_look_11 ?_
      refine lv_iload_n hx hb dX1_look_14 rfl (lv_at hl 0 rfl) ?_
      refine va_aldq (D := D) hx hb hK hP 4 2 rfl rfl (vp_in_nI (show k < 8 by omega) (by decide)) dX1_look_15 ?_
      rw [nI_clamp (show k < 2 ^ 31 by omega)]
      have hGk : lkG v G k k = G k := by simp [lkG]
      rcases hG.1 k (by omega) with ⟨hn1, hn2⟩ | ⟨t, x, ht1, ht2, ht3, ht4⟩
      · rw [hn2]
        rw [hGk] at hn1
        refine W.eq (g2 := F0 m 16 ls [.null]) rfl ?_
        refine lv_astore_nN (lv' := [(3, .null), (2, .int (nI k)), (1, .int (lkS v G k)), (0, .ref (a 0))]) hx hb dX1_look_16 rfl hl (by decide) rfl (fun ls hl => ?_)
        refine lv_aload_nN hx hb dX1_look_17 rfl (lv_at hl 0 rfl) ?_
        refine lv_ifnullN (tgt := 35) hx hb dX1_look_18 (by decide) ?_
        refine lv_iinc (v := nI (k + 1)) (lv' := [(2, .int (nI (k + 1))), (3, .null), (1, .int (lkS v G k)), (0, .ref (a 0))]) hx hb dX1_look_35 hl (k := 1) rfl (nI_1 k) (by decide) rfl (fun ls hl => ?_)
        refine lv_goto (tgt := 4) hx hb dX1_look_38 (by decide) ?_
        have e_s : lkS v G k = lkS v G (k + 1) := by simp [lkS, lkA, hn1]
        rw [e_s] at hl
        refine ih (k + 1) f1 (by omega) ?_ H locs hP hD hS ls (lv_sub hl [0, 2, 3] rfl)
        exact GR_none hG hn1 (by omega)
      · rw [ht2]
        rw [hGk] at ht1
        refine W.eq (g2 := F0 m 16 ls [.ref x]) rfl ?_
        obtain ⟨tw, th, tc, tm, td, tn⟩ := t
        have htw : vp_in tw 2 := hGw k _ (by omega) ht1
        refine lv_astore_n (lv' := [(3, .ref x), (2, .int (nI k)), (1, .int (lkS v G k)), (0, .ref (a 0))]) hx hb dX1_look_16 rfl hl (by decide) rfl (fun ls hl => ?_)
        refine lv_aload_n hx hb dX1_look_17 rfl (lv_at hl 0 rfl) ?_
        refine lv_ifnull hx hb dX1_look_18 ?_
        refine lv_aload_n hx hb dX1_look_21 rfl (lv_at hl 3 rfl) ?_
        refine lv_aload_n hx hb dX1_look_22 rfl (lv_at hl 0 rfl) ?_
        have hPn := hP; rw [← List.append_nil (cb a cV cI cG v gg dn lt ch ++ va_pl L f1)] at hPn
        have hDn := hD; rw [← List.append_nil (cb a cV cI cG v gg dn lt ch ++ va_pl L f1)] at hDn
        refine xc_W (S0 := Unit) (rw := []) (As := [.ref x]) (rest := []) ⟨hx, hb, hml, hown, hts⟩ (c_X1_ringsNow l D a cV cI cG v gg dn lt ch L f1 H.size x tw th tc tm td tn ht3 ht4 htw) (cwV 1 hts gX1_look_X1_ringsNow rfl rfl rfl (by decide +kernel) ⟨Nat.le_of_ble_eq_true rfl, Nat.le_of_ble_eq_true rfl⟩) xMvN hB hPn hK hDn hS hA (va_recv hK hP (ci := 1) (q0 := 0) rfl rfl) rfl hl.1 rfl (Nat.le_of_ble_eq_true rfl) dX1_look_23 ⟨Nat.zero_le _, Nat.zero_le _⟩ (fun r9 _ H locs hr9 hP hD _ hS => ?_)
        rw [List.append_nil] at hP hD
        rw [hr9]
        have hP : va_P D vwCl (cb a cV cI cG v gg dn lt ch ++ va_pl L (va_up f1 x (gE (lnx v (tw, th, tc, tm, td, tn))))) H := hP
        have hD : va_D A (cb a cV cI cG v gg dn lt ch ++ va_pl L (va_up f1 x (gE (lnx v (tw, th, tc, tm, td, tn))))) := hD
        refine lv_if_eq (tgt := 35) hx hb dX1_look_26 (by decide) (fun c_3 => ?_) (fun c_3 => ?_)
        · have c_3 := b2i_e c_3
          refine lv_iinc (v := nI (k + 1)) (lv' := [(2, .int (nI (k + 1))), (3, .ref x), (1, .int (lkS v G k)), (0, .ref (a 0))]) hx hb dX1_look_35 hl (k := 1) rfl (nI_1 k) (by decide) rfl (fun ls hl => ?_)
          refine lv_goto (tgt := 4) hx hb dX1_look_38 (by decide) ?_
          have e_s : lkS v G k = lkS v G (k + 1) := by simp [lkS, lkA, ht1, c_3]
          rw [e_s] at hl
          refine ih (k + 1) _ (by omega) ?_ H locs hP hD hS ls (lv_sub hl [0, 2, 3] rfl)
          exact GR_step hG ht1 ht2 ht3 (by omega)
        · have c_3 := b2i_n c_3
          refine lv_iload_n hx hb dX1_look_29 rfl (lv_at hl 2 rfl) ?_
          refine lv_iconst (v := 1) hx hb dX1_look_30 (by decide) ?_
          refine lv_iload_n hx hb dX1_look_31 rfl (lv_at hl 1 rfl) ?_
          refine lv_ishl hx hb dX1_look_32 ?_
          refine lv_iadd hx hb dX1_look_33 ?_
          refine lv_istore_n (lv' := [(1, .int ((lkS v G k) + (1 <<< ((nI k) &&& 31)))), (3, .ref x), (2, .int (nI k)), (0, .ref (a 0))]) hx hb dX1_look_34 rfl hl (by decide) rfl (fun ls hl => ?_)
          refine lv_iinc (v := nI (k + 1)) (lv' := [(2, .int (nI (k + 1))), (1, .int ((lkS v G k) + (1 <<< ((nI k) &&& 31)))), (3, .ref x), (0, .ref (a 0))]) hx hb dX1_look_35 hl (k := 2) rfl (nI_1 k) (by decide) rfl (fun ls hl => ?_)
          refine lv_goto (tgt := 4) hx hb dX1_look_38 (by decide) ?_
          have e_s : (lkS v G k) + (1 <<< ((nI k) &&& 31)) = lkS v G (k + 1) := by simp [lkS, lkA, ht1, c_3]
          rw [e_s] at hl
          refine ih (k + 1) _ (by omega) ?_ H locs hP hD hS ls (lv_sub hl [0, 1, 3] rfl)
          exact GR_step hG ht1 ht2 ht3 (by omega)
  refine lv_iconst (v := 0) hx hb dX1_look_0 (by decide) ?_
  refine lv_istore_n (lv' := [(1, .int 0), (0, .ref (a 0))]) hx hb dX1_look_1 rfl hl (by decide) rfl (fun ls hl => ?_)
  refine lv_iconst (v := 0) hx hb dX1_look_2 (by decide) ?_
  refine lv_istore_n (lv' := [(2, .int 0), (1, .int 0), (0, .ref (a 0))]) hx hb dX1_look_3 rfl hl (by decide) rfl (fun ls hl => ?_)
  refine loop 8 0 f (by omega) ?_ _ _ hP hD hS ls (lv_sub hl [0, 1, 2] rfl)
  rw [lkG_0]; exact hGR
end
section
/-! new int[2][33]: the machine's 'multianewarray' of two dimensions, unrolled for two rows -/
theorem xn_arr {E : CtlPost} {e : Env} {d : Bool} {acts : List Action} {s : State} {c comp : ClassId} {k : Class} {ty : FieldType} {n : Nat} {z : Value} {Q : Addr → Pre} (hk : s.vm.classes[c]? = some k) (hkind : k.kind = .array comp ty) (hl : ¬ n > e.platform.arrayLengthLimit) (hh : ¬ n * componentBytes ty > e.platform.maxHeapBytes) (hfit : fits ty z = true) (hdef : z.isDefault = true) (h1 : s.heap.size < e.platform.maxCells) (h2 : s.slotsUsed + n ≤ e.platform.maxSlots)
    (hq : Q s.heap.size d acts (s.pushCell { cls := c, slots := Array.replicate n z, vm := .none })) : wp (Jvm.newArray c n z) Q E e d acts s := by
  have hf : ∀ i v, (Array.replicate n z)[i]? = some v → s.fitsSlot c .none i v = true := by
    intro i v hv
    rw [Array.getElem?_replicate] at hv
    split at hv
    · cases hv
      simp [State.fitsSlot, State.slotType?, hk, hkind, hfit]
    · cases hv
  have ha : allocActs (Array.replicate n z) s.heap.size acts = acts := by
    have h9 : ((Array.replicate n z).all (·.isDefault)) = true := by
      rw [Array.all_replicate]
      split <;> simp [hdef]
    unfold allocActs
    rw [if_pos h9]
  simp only [Jvm.newArray, Jvm.arrayFits, wp_bind', W.ask, W.ite, hl, if_false, wp_pure', W.theClass, hk, hkind, hh, W.alloc, W.stop, Option.some.injEq, exists_eq_left', Array.size_replicate, ha]
  rw [if_neg (by omega)]
  exact ⟨h1, h2, hf, hq⟩
def mO (cA : ClassId) : Cell := { cls := cA, slots := Array.replicate 2 .null, vm := .none }
def mI (cI : ClassId) : Cell := { cls := cI, slots := Array.replicate 33 (.int 0), vm := .none }
def mS (T : State) (cA cI : ClassId) : State := ((((T.pushCell (mO cA)).pushCell (mI cI)).setCell T.heap.size ((mO cA).setSlot 0 (.ref (T.heap.size + 1)))).pushCell (mI cI)).setCell T.heap.size (((mO cA).setSlot 0 (.ref (T.heap.size + 1))).setSlot 1 (.ref (T.heap.size + 2)))
theorem mS_top (T : State) (g : JFrame) (cA cI : ClassId) : mS (T.setTop g) cA cI = (mS T cA cI).setTop g := by
  simp only [mS, State.heap_setTop, State.pushCell_setTop, State.setCell_setTop]
theorem xn_make {E : CtlPost} {e : Env} {d : Bool} {acts : List Action} {s : State} {cA cI cc : ClassId} {kA kI : Class} {Q : Addr → Pre} (hkA : s.vm.classes[cA]? = some kA) (hkindA : kA.kind = .array cI (.array .int)) (hkI : s.vm.classes[cI]? = some kI) (hkindI : kI.kind = .array cc .int)
    (hlim : e.platform.arrayLengthLimit = 2147483645 ∨ 33 ≤ e.platform.arrayLengthLimit) (hhp : 536870912 ≤ e.platform.maxHeapBytes) (h1 : s.heap.size + 3 ≤ e.platform.maxCells) (h2 : s.slotsUsed + 68 ≤ e.platform.maxSlots)
    (hq : ∀ d' acts', Q s.heap.size d' acts' (mS s cA cI)) : wp (multianewarray.make cA [2, 33]) Q E e d acts s := by
  have hl33 : 33 ≤ e.platform.arrayLengthLimit := by rcases hlim with h | h <;> omega
  have c2 : (2 : Int32).toNatClampNeg = 2 := by decide
  have c33 : (33 : Int32).toNatClampNeg = 33 := by decide
  have one : ∀ {s' : State} {Q' : Addr → Pre} {d' : Bool} {acts' : List Action}, s'.vm = s.vm → s'.heap.size < e.platform.maxCells → s'.slotsUsed + 33 ≤ e.platform.maxSlots → Q' s'.heap.size d' acts' (s'.pushCell (mI cI)) → wp (multianewarray.make cI [33]) Q' E e d' acts' s' := by
    intro s' Q' d' acts' hvm h3 h4 h5
    rw [multianewarray.make]
    simp only [wp_bind', W.ite, show ¬ (33 : Int32) < 0 by decide, if_false, wp_pure', W.theClass, hvm, hkI, hkindI, Option.some.injEq, exists_eq_left']
    rw [c33]
    exact xn_arr (by rw [hvm]; exact hkI) hkindI (by omega) (by show ¬ 33 * 4 > _; omega) rfl rfl h3 h4 h5
  rw [multianewarray.make]
  simp only [wp_bind', W.ite, show ¬ (2 : Int32) < 0 by decide, if_false, wp_pure', W.theClass, hkA, hkindA, Option.some.injEq, exists_eq_left']
  rw [c2]
  refine xn_arr hkA hkindA (by omega) (by show ¬ 2 * 4 > _; omega) rfl rfl (by omega) (by omega) ?_
  rw [show ({ cls := cA, slots := Array.replicate 2 Value.null, vm := .none } : Cell) = mO cA from rfl]
  rw [if_neg (by decide)]
  rw [wp_bind', Std.Legacy.Range.forIn_eq_forIn_range']
  show wp (forIn (List.range' 0 2 1) PUnit.unit _) _ E e d acts _
  rw [show List.range' 0 2 1 = [0, 1] from rfl]
  have hz0 : s.heap.size < (s.pushCell (mO cA)).heap.size := by simp
  have g1 : ((s.pushCell (mO cA)).pushCell (mI cI)).heap[s.heap.size]? = some (mO cA) := by
    rw [State.heap_pushCell_of_lt (h := hz0)]
    exact State.heap_pushCell_size _ _
  have g2 := State.heap_setCell_self g1 (x := (mO cA).setSlot 0 (.ref (s.heap.size + 1)))
  have hz1 : s.heap.size < (((s.pushCell (mO cA)).pushCell (mI cI)).setCell s.heap.size ((mO cA).setSlot 0 (.ref (s.heap.size + 1)))).heap.size := by simp [State.setCell]; omega
  simp only [List.forIn_cons, List.forIn_nil, wp_bind', wp_pure']
  refine one (by simp) (by simp; omega) (by simp [mO]; omega) ?_
  simp only [wp_bind', W.writeLoc, wp_pure']
  refine ⟨mO cA, g1, by simp [mO], by simp [mO], by simp [State.fitsSlot, State.slotType?, mO, hkA, hkindA, fits], ?_⟩
  refine one (by simp) (by simp [State.setCell]; omega) (by simp [mI, mO]; omega) ?_
  simp only [wp_bind', W.writeLoc, wp_pure']
  refine ⟨(mO cA).setSlot 0 (.ref (s.heap.size + 1)), ?_, by simp [mO, Cell.setSlot], by simp [mO, Cell.setSlot], by simp [State.fitsSlot, State.slotType?, mO, Cell.setSlot, hkA, hkindA, fits], ?_⟩
  · rw [State.heap_pushCell_of_lt (h := by simpa using hz1)]
    simpa using g2
  · have z1 : (s.pushCell (mO cA)).heap.size = s.heap.size + 1 := by simp
    have z2 : (((s.pushCell (mO cA)).pushCell (mI cI)).setCell s.heap.size ((mO cA).setSlot 0 (.ref (s.heap.size + 1)))).heap.size = s.heap.size + 2 := by simp [State.setCell]
    simp only [z1]
    simp only [z2]
    exact hq _ _
theorem mS_heap (T : State) (cA cI : ClassId) : (mS T cA cI).heap.size = T.heap.size + 3 ∧ (∀ q : Nat, q < T.heap.size → (mS T cA cI).heap[q]? = T.heap[q]?) ∧ (mS T cA cI).heap[T.heap.size]? = some (arrV cA 2 (fun i => va_rf (some (T.heap.size + 1 + i)))) ∧ (mS T cA cI).heap[T.heap.size + 1]? = some (arrV cI 33 (fun _ => .int 0)) ∧ (mS T cA cI).heap[T.heap.size + 2]? = some (arrV cI 33 (fun _ => .int 0)) := by
  have hO : ((mO cA).setSlot 0 (.ref (T.heap.size + 1))).setSlot 1 (.ref (T.heap.size + 2)) = arrV cA 2 (fun i => va_rf (some (T.heap.size + 1 + i))) := by
    simp [mO, Cell.setSlot, arrV, va_rf, Array.ofFn]
    rfl
  have hI : mI cI = arrV cI 33 (fun _ => .int 0) := arrV_new _ _ _
  have z1 : (T.pushCell (mO cA)).heap.size = T.heap.size + 1 := by simp
  have z2 : ((T.pushCell (mO cA)).pushCell (mI cI)).heap.size = T.heap.size + 2 := by simp
  have hz0 : T.heap.size < (T.pushCell (mO cA)).heap.size := by omega
  have g1 : ((T.pushCell (mO cA)).pushCell (mI cI)).heap[T.heap.size]? = some (mO cA) := by
    rw [State.heap_pushCell_of_lt (h := hz0)]
    exact State.heap_pushCell_size _ _
  have g1' : ((T.pushCell (mO cA)).pushCell (mI cI)).heap[T.heap.size + 1]? = some (mI cI) := by
    rw [← z1]
    exact State.heap_pushCell_size _ _
  have g0 : ∀ q : Nat, q < T.heap.size → ((T.pushCell (mO cA)).pushCell (mI cI)).heap[q]? = T.heap[q]? := fun q hq => by
    rw [State.heap_pushCell_of_lt (h := show q < (T.pushCell (mO cA)).heap.size by omega), State.heap_pushCell_of_lt (h := hq)]
  unfold mS
  generalize ((T.pushCell (mO cA)).pushCell (mI cI)) = S2 at z2 g1 g1' g0 ⊢
  have g2 := State.heap_setCell_self g1 (x := (mO cA).setSlot 0 (.ref (T.heap.size + 1)))
  have z3 : (S2.setCell T.heap.size ((mO cA).setSlot 0 (.ref (T.heap.size + 1)))).heap.size = T.heap.size + 2 := by simp [State.setCell, z2]
  have g3 : ∀ q : Nat, q ≠ T.heap.size → (S2.setCell T.heap.size ((mO cA).setSlot 0 (.ref (T.heap.size + 1)))).heap[q]? = S2.heap[q]? := fun q hq => State.heap_setCell_other (Ne.symm hq)
  rw [← hO, ← hI]
  generalize S2.setCell T.heap.size ((mO cA).setSlot 0 (.ref (T.heap.size + 1))) = S3 at z3 g2 g3 ⊢
  have g4 : (S3.pushCell (mI cI)).heap[T.heap.size]? = some ((mO cA).setSlot 0 (.ref (T.heap.size + 1))) := by
    rw [State.heap_pushCell_of_lt (h := show T.heap.size < S3.heap.size by omega)]
    exact g2
  refine ⟨by simp [State.setCell, z3], fun q hq => ?_, State.heap_setCell_self g4, ?_, ?_⟩
  · rw [State.heap_setCell_other (show T.heap.size ≠ q by omega), State.heap_pushCell_of_lt (h := show q < S3.heap.size by omega), g3 q (by omega)]
    exact g0 q hq
  · rw [State.heap_setCell_other (show T.heap.size ≠ T.heap.size + 1 by omega), State.heap_pushCell_of_lt (h := show T.heap.size + 1 < S3.heap.size by omega), g3 _ (by omega)]
    exact g1'
  · rw [State.heap_setCell_other (show T.heap.size ≠ T.heap.size + 2 by omega), ← z3]
    exact State.heap_pushCell_size _ _
section XMN
variable {p : Program} {l : Launch} {e : Env} {R : Room} {s : State} {m : MethodId} {args : Array Value} {below : List Frame} {meth : Method} {c : Code} {H H0 : Heap} {locs : List Loc} {cells slots : Nat} {Q : State → Prop}
variable {cc : ByteArray} {pc : Nat} {ls : Array Slot} {rest : List Value} {D : va_G} {cl : List vw_C} {A : Nat → Prop} {tys : List (ClassId × FieldType)} {wd : va_W}
theorem xw_mna (hexec : p.tables.exec = Jvm.exec) (hb : c.code = cc) {own : String} {index : Nat} (hown : s.vm.findClass own = some m.cls) (hclink : (Cond.classLink own index "[[I").before args s = true) (hover : (Cond.arrayOver (.array .int)).before #[] s = true) (harr : (Cond.arrayClass .int).before args s = true)
    (hcells : cells + 3 ≤ R.cells) (hslots : slots + 68 ≤ R.slots) (hdg : decode cc pc = .ok (.multianewarray index 2, 4))
    (kk : ∀ (cA cI : ClassId) (T1 : State) (L : List Loc), s.vm.findClass "[[I" = some cA → ArrOfT s cA (.array .int) → s.vm.findClass "[I" = some cI → ArrOfT s cI .int → T1.heap = H → (∀ q ∈ L, q.base = H.size) →
      W p l e R s m args below meth c (mS T1 cA cI).heap (locs ++ L) (cells + 3) (slots + 68) Q (F0 m (pc + 4) ls (.ref H.size :: rest))) : W p l e R s m args below meth c H locs cells slots Q (F0 m pc ls (.int 33 :: .int 2 :: rest)) := by
  intro T hT X
  subst hT; subst hb
  have hpl : e.platform.magicAccessors = ({} : Platform).magicAccessors := by rw [X.admits.platform]
  obtain ⟨cI, cA, kA, hcI, -, hkA, hkindA, hnameA⟩ := arrayOverA_spec (args := #[]) (first := s) (o := none) (idx := []) hover
  obtain ⟨cI', kI, cc', hcI', hkI, hkindI⟩ := Cond.arrayClass_spec harr
  have ec : cI' = cI := Option.some.inj (hcI'.symm.trans hcI)
  subst ec
  obtain ⟨c0, hfc0, hcl⟩ := Cond.classLink_spec hown hclink e.platform hpl
  have e0 : c0 = cA := Option.some.inj (hfc0.symm.trans hnameA)
  subst e0
  obtain ⟨hg₁, hwarm₁, hready₁⟩ := State.classEntry (e := e) X.warmed hcl
  generalize T.vm.noted m.cls index (.cls c0) = vm₁ at hg₁ hwarm₁ hready₁
  have hal : s.vm.Alike vm₁ := hwarm₁.alike
  obtain ⟨kA₁, hkA₁, heA⟩ := hal.2.2 _ _ hkA
  obtain ⟨kI₁, hkI₁, heI⟩ := hal.2.2 _ _ hkI
  have hkindA₁ : kA₁.kind = .array cI' (.array .int) := by rw [heA]; exact hkindA
  have hkindI₁ : kI₁.kind = .array cc' .int := by rw [heI]; exact hkindI
  have X₁ := X.noted hwarm₁
  obtain ⟨hr1, hr2⟩ := X.roomAbove hcells hslots
  have hlim : 33 ≤ e.platform.arrayLengthLimit := by rw [Launch.admits_arrayLengthLimit X.admits]; omega
  have hhp : 536870912 ≤ e.platform.maxHeapBytes := by rw [Launch.admits_maxHeapBytes X.admits]; omega
  have Xa := (X₁.pushed (mO c0)).pushed (mI cI')
  have hz0 : T.heap.size < ((T.setVm vm₁).pushCell (mO c0)).heap.size := by simp
  have g1 : (((T.setVm vm₁).pushCell (mO c0)).pushCell (mI cI')).heap[T.heap.size]? = some (mO c0) := by
    rw [State.heap_pushCell_of_lt (h := hz0)]
    exact State.heap_pushCell_size (T.setVm vm₁) _
  have Xb := (Xa.stored g1 0 (.ref (T.heap.size + 1))).pushed (mI cI')
  have g2 := State.heap_setCell_self g1 (x := (mO c0).setSlot 0 (.ref (T.heap.size + 1)))
  have hz1 : T.heap.size < ((((T.setVm vm₁).pushCell (mO c0)).pushCell (mI cI')).setCell T.heap.size ((mO c0).setSlot 0 (.ref (T.heap.size + 1)))).heap.size := by simp [State.setCell]; omega
  have Xc := Xb.stored (by rw [State.heap_pushCell_of_lt (h := hz1)]; exact g2) 1 (.ref (T.heap.size + 2))
  have hArrA : ArrOfT s c0 (.array .int) := fun n z => ⟨fun k h => (by cases h), kA, hkA, cI', hkindA⟩
  have hArrI : ArrOfT s cI' .int := fun n z => ⟨fun k h => (by cases h), kI, hkI, cc', hkindI⟩
  obtain ⟨t, a1, b1⟩ := kk c0 cI' (T.setVm vm₁) [⟨T.heap.size, 0⟩, ⟨T.heap.size, 1⟩] hnameA hArrA hcI hArrI rfl (fun q hq => by simp at hq; rcases hq with rfl | rfl <;> rfl) (mS (T.setVm vm₁) c0 cI') rfl (by
    have e1 : (mO c0).slots.size = 2 := by simp [mO]
    have e2 : (mI cI').slots.size = 33 := by simp [mI]
    rw [e1, e2, show slots + 2 + 33 + 33 = slots + 68 by omega, show cells + 1 + 1 + 1 = cells + 3 by omega, List.append_assoc] at Xc
    exact Xc)
  refine ⟨t, ?_, b1⟩
  have hTop : (mS (T.setVm vm₁) c0 cI').topJava?.isSome := Xc.here.top
  jvm_step X.here [hexec, hdg]
  simp only [multianewarray.sem, wp_bind', W.resolveClassAt_links (State.method?_setTop (F0 m pc ls (.int 33 :: .int 2 :: rest)) X.here.top) hg₁]
  rw [W.popN, if_neg (by decide)]
  refine ⟨F0 m pc ls (.int 33 :: .int 2 :: rest), State.topJava?_setTop' (s := T.setVm vm₁) _ X.here.top, [.int 2, .int 33], rest, rfl, rfl, ?_⟩
  simp only [List.mapM_cons, List.mapM_nil, wp_bind', wp_pure']
  refine xn_make (kA := kA₁) (kI := kI₁) (cI := cI') (cc := cc') hkA₁ hkindA₁ hkI₁ hkindI₁ (Or.inr hlim) hhp hr1 hr2 (fun d' acts' => ?_)
  have eS : ((T.setTop (F0 m pc ls (.int 33 :: .int 2 :: rest))).setVm vm₁).setTop { (F0 m pc ls (.int 33 :: .int 2 :: rest)) with stack := rest } = (T.setVm vm₁).setTop { (F0 m pc ls (.int 33 :: .int 2 :: rest)) with stack := rest } := by
    show ((T.setVm vm₁).setTop _).setTop _ = _
    rw [State.setTop_setTop]
  rw [eS, mS_top]
  simp only [wp_bind', W.mark, W.pushRef, State.topJava?_setTop' _ hTop, Option.some.injEq, exists_eq_left', State.setTop_setTop, State.heap_setTop]
  intro acts
  simp [jvm, hTop]
  exact a1
theorem xa_mna (hexec : p.tables.exec = Jvm.exec) (hb : c.code = cc) {own : String} {index : Nat} (hown : s.vm.findClass own = some m.cls) (hclink : (Cond.classLink own index "[[I").before args s = true) (hover : (Cond.arrayOver (.array .int)).before #[] s = true) (harr : (Cond.arrayClass .int).before args s = true)
    (hK : va_K D cl tys s) (hP : va_P D cl wd H) (hD : va_D A wd) (hS : va_S A H0 H locs) (hA : ∀ q, H0.size ≤ q → A q) (hcells : cells + 3 ≤ R.cells) (hslots : slots + 68 ≤ R.slots) (hdg : decode cc pc = .ok (.multianewarray index 2, 4))
    (kk : ∀ (q : Nat) (cA cI : ClassId) (H1 : Heap) (locs1 : List Loc), va_K D cl (tys ++ [(cA, .array .int), (cI, .int)]) s → va_P D cl (wd ++ [(q, .inl (cA, 2, .inr (.inr (.inr (.inr (fun i => some (q + 1 + i))))))), (q + 1, .inl (cI, 33, .inl (fun _ => 0))), (q + 2, .inl (cI, 33, .inl (fun _ => 0)))]) H1 → va_D A (wd ++ [(q, .inl (cA, 2, .inr (.inr (.inr (.inr (fun i => some (q + 1 + i))))))), (q + 1, .inl (cI, 33, .inl (fun _ => 0))), (q + 2, .inl (cI, 33, .inl (fun _ => 0)))]) → va_S A H0 H1 locs1 →
      W p l e R s m args below meth c H1 locs1 (cells + 3) (slots + 68) Q (F0 m (pc + 4) ls (.ref q :: rest))) : W p l e R s m args below meth c H locs cells slots Q (F0 m pc ls (.int 33 :: .int 2 :: rest)) := by
  refine xw_mna hexec hb hown hclink hover harr hcells hslots hdg (fun cA cI T1 L fA kA fI kI hT1 hL => ?_)
  obtain ⟨z, o, g0, g1, g2⟩ := mS_heap T1 cA cI
  rw [hT1] at z o g0 g1 g2
  generalize (mS T1 cA cI).heap = H1 at z o g0 g1 g2 ⊢
  have hlt : ∀ (k : Nat) (x : Nat × va_E), wd[k]? = some x → x.1 < H.size := fun k x hx => (hP k x hx).lt
  have hP0 : va_P D cl wd H1 := hP.kept (fun k x hx => o x.1 (hlt k x hx))
  refine kk H.size cA cI H1 (locs ++ L) ⟨hK.1, fun k x hx => ?_⟩ (hP0.app (fun k x hx => ?_)) (va_D.app hD ⟨fun i j x y hi hj hxy => ?_, fun k x hx => ?_⟩ (fun i j x y hi hj => ?_)) ⟨by have := hS.1; omega, fun x h1 h2 => (o x (Nat.lt_of_lt_of_le h1 hS.1)).trans (hS.2.1 x h1 h2), fun x hx => ?_⟩
  · by_cases hl : k < tys.length
    · rw [List.getElem?_append_left hl] at hx
      exact hK.2 k x hx
    · rw [List.getElem?_append_right (by omega)] at hx
      generalize k - tys.length = j at hx
      match j, hx with
      | 0, hx => cases hx; exact ⟨kA, fA⟩
      | 1, hx => cases hx; exact ⟨kI, fI⟩
      | j + 2, hx => simp at hx
  · match k, hx with
    | 0, hx => cases hx; exact g0
    | 1, hx => cases hx; exact g1
    | 2, hx => cases hx; exact g2
    | k + 3, hx => simp at hx
  · have hx9 : ∀ (k : Nat) (x : Nat × va_E), ([(H.size, .inl (cA, 2, .inr (.inr (.inr (.inr (fun i => some (H.size + 1 + i))))))), (H.size + 1, .inl (cI, 33, .inl (fun _ => 0))), (H.size + 2, .inl (cI, 33, .inl (fun _ => 0)))] : va_W)[k]? = some x → x.1 = H.size + k := fun k x hx => by
      match k, hx with
      | 0, hx => cases hx; rfl
      | 1, hx => cases hx; rfl
      | 2, hx => cases hx; rfl
      | k + 3, hx => simp at hx
    have := hx9 i x hi
    have := hx9 j y hj
    omega
  · match k, hx with
    | 0, hx => cases hx; exact hA _ hS.1
    | 1, hx => cases hx; exact hA _ (by have := hS.1; omega)
    | 2, hx => cases hx; exact hA _ (by have := hS.1; omega)
    | k + 3, hx => simp at hx
  · have h1 := hlt i x hi
    match j, hj with
    | 0, hj => cases hj; omega
    | 1, hj => cases hj; omega
    | 2, hj => cases hj; omega
    | j + 3, hj => simp at hj
  · rcases List.mem_append.mp hx with h | h
    · exact hS.2.2 x h
    · rw [hL x h]; exact hA _ hS.1
end XMN
end
section
/-! the class: rings, guardsSet, count -/
set_option maxHeartbeats 4000000 in
set_option maxRecDepth 100000 in
theorem c_X1_rings (l : Launch) (D : va_G) (a : Nat → Nat) (cV cI cG : ClassId) (v : Nat → Nat → Int32) (gg : Nat → Option Nat) (dn lt ch : Int32) (L : List Nat) (f : Nat → va_E) (G : Nat → Option GT) (hGR : GR G gg L f) (g : Int32) : Met l yX1_rings wsX1_rings ({ frames := 1, cells := 0, slots := 0, locals := 20 }) (xR D vwCl (cb a cV cI cG v gg dn lt ch ++ va_pl L f) (cT cV cI cG) nT [.ref (a 0), .int g]) (QcRead (aRin G g)) 0 0 (fun _ => False) := by
  refine xr_in (cc := cX1_rings) (maxL := 3) (ret := (some .int)) (by decide) rfl (Nat.le_of_ble_eq_true rfl) ?_
  intro p e s m below meth c ls hx hb hr hml hts hown hlk hP hK hB hl
  have hown : s.vm.findClass RX1 = some m.cls := hown
  have hl : lv_has ls 3 [(0, .ref (a 0)), (1, .int g)] := hl
  have hiF : ∀ w ∈ wsX10, w ∈ wsX1_rings := by decide +kernel
  have hiG : ∀ w ∈ wsX00, w ∈ wsX1_rings := by decide +kernel
  refine lv_iload_n hx hb dX1_rings_0 rfl (lv_at hl 1 rfl) ?_
  refine xc_T (As := [.int g]) (rest := []) ⟨hx, hb, hml, hown, hts⟩ (c_X1_isGuard l g) (va_cwS 1 hts gX1_rings_X1_isGuard rfl rfl rfl (by decide +kernel) ⟨Nat.le_of_ble_eq_true rfl, Nat.le_of_ble_eq_true rfl⟩) rfl hl.1 rfl (Nat.le_of_ble_eq_true rfl) dX1_rings_1 ⟨Nat.zero_le _, Nat.zero_le _⟩ ?_
  refine lv_if_ne (tgt := 9) hx hb dX1_rings_4 (by decide) (fun c_1 => ?_) (fun c_1 => ?_)
  · have c_1 := b2i_n c_1
    refine lv_aload_n hx hb dX1_rings_9 rfl (lv_at hl 0 rfl) ?_
    refine va_get (D := D) (ci := 1) (v := .ref (a 4)) (C := RX1) (T := TX1) (N := 5) hx hb hts hiF hown hK hP 0 rfl rfl 1 (by decide) (hts (.fieldLink RX1 16 "TunerBench" "guards" "[LTunerBench$Guard;") (by decide +kernel)) (fun _ h9 => h9) rfl dX1_rings_10 ?_
    refine lv_iload_n hx hb dX1_rings_13 rfl (lv_at hl 1 rfl) ?_
    refine va_aldq (D := D) hx hb hK hP 4 2 rfl rfl (isG_in c_1) dX1_rings_14 ?_
    rcases hGR.1 (cn g) (vp_lt (isG_in c_1)) with ⟨hn1, hn2⟩ | ⟨t, x, ht1, ht2, ht3, ht4⟩
    · rw [hn2]
      refine W.eq (g2 := F0 m 15 ls [.null]) rfl ?_
      refine lv_astore_nN (lv' := [(2, .null), (0, .ref (a 0)), (1, .int g)]) hx hb dX1_rings_15 rfl hl (by decide) rfl (fun ls hl => ?_)
      refine lv_aload_nN hx hb dX1_rings_16 rfl (lv_at hl 0 rfl) ?_
      refine lv_ifnonnullN hx hb dX1_rings_17 ?_
      refine lv_iconst (v := -1) hx hb dX1_rings_20 (by decide) ?_
      refine lv_goto (tgt := 28) hx hb dX1_rings_21 (by decide) ?_
      exact xr_i hx hb hr hlk dX1_rings_28 (by simp [aRin, c_1, hn1])
    · rw [ht2]
      refine W.eq (g2 := F0 m 15 ls [.ref x]) rfl ?_
      obtain ⟨tw, th, tc, tm, td, tn⟩ := t
      obtain ⟨K_0, hk_0⟩ := va_pl_get (X := cb a cV cI cG v gg dn lt ch) (f := f) ht3
      have hk_1 := hk_0; rw [ht4] at hk_1
      refine lv_astore_n (lv' := [(2, .ref x), (0, .ref (a 0)), (1, .int g)]) hx hb dX1_rings_15 rfl hl (by decide) rfl (fun ls hl => ?_)
      refine lv_aload_n hx hb dX1_rings_16 rfl (lv_at hl 0 rfl) ?_
      refine lv_ifnonnull (tgt := 24) hx hb dX1_rings_17 (by decide) ?_
      refine lv_aload_n hx hb dX1_rings_24 rfl (lv_at hl 0 rfl) ?_
      refine va_getN (D := D) (ci := 0) (v := .int tn) (C := RX0) (T := TX0) (N := 6) (host := "TunerBench") hx hb hts hiG hown hK hP K_0 hk_1 rfl 5 (by decide) (va_Nw.use rfl hB.2.2.2.2.2.2) (fun _ h9 => h9) rfl dX1_rings_25 ?_
      exact xr_i hx hb hr hlk dX1_rings_28 (by simp [aRin, c_1, ht1])
  · have c_1 := b2i_e c_1
    refine lv_iconst (v := -1) hx hb dX1_rings_7 (by decide) ?_
    exact xr_i hx hb hr hlk dX1_rings_8 (by simp [aRin, c_1])
set_option maxHeartbeats 4000000 in
set_option maxRecDepth 100000 in
theorem c_X1_guardsSet (l : Launch) (D : va_G) (a : Nat → Nat) (cV cI cG : ClassId) (v : Nat → Nat → Int32) (gg : Nat → Option Nat) (dn lt ch : Int32) (G : Nat → Option GT) (hgs : ∀ k : Nat, k < 8 → (gg k).isSome = (G k).isSome) : Met l yX1_guardsSet wsX1_guardsSet ({ frames := 0, cells := 0, slots := 0, locals := 0 }) (xR D vwCl (cb a cV cI cG v gg dn lt ch) (cT cV cI cG) xB0 [.ref (a 0)]) (QcRead (nI (cntG G 8))) 0 0 (fun _ => False) := by
  refine xr_in (cc := cX1_guardsSet) (maxL := 3) (ret := (some .int)) (by decide) rfl (Nat.le_of_ble_eq_true rfl) ?_
  intro p e s m below meth c ls hx hb hr hml hts hown hlk hP hK hB hl
  have hown : s.vm.findClass RX1 = some m.cls := hown
  have hl : lv_has ls 3 [(0, .ref (a 0))] := hl
  have hiF : ∀ w ∈ wsX10, w ∈ wsX1_guardsSet := by decide +kernel
  have loop : ∀ (n k : Nat), k + n = 8 → ∀ ls : Array Slot, lv_has ls 3 [(2, .int (nI k)), (1, .int (nI (cntG G k))), (0, .ref (a 0))] → W p l e ({ frames := 0, cells := 0, slots := 0, locals := 0 }) s m ([.ref (a 0)] : List Value).toArray below meth c s.heap [] 0 0 (MQ below (QcRead (nI (cntG G 8))) ([.ref (a 0)] : List Value).toArray s 0 0 (fun _ => False)) (F0 m 4 ls []) := by
    intro n
    induction n with
    | zero =>
      intro k hk ls hl
      obtain rfl : k = 8 := by omega
      refine lv_iload_n hx hb dX1_guardsSet_4 rfl (lv_at hl 0 rfl) ?_
      refine lv_bipush (v := 8) hx hb dX1_guardsSet_5 (by decide) ?_
      refine lv_icmp_ge (tgt := 28) hx hb dX1_guardsSet_7 (by decide) (fun c_1 => ?_) (fun c_1 => absurd (by decide) c_1)
      refine lv_iload_n hx hb dX1_guardsSet_28 rfl (lv_at hl 1 rfl) ?_
      exact xr_i hx hb hr hlk dX1_guardsSet_29 rfl
    | succ n ih =>
      intro k hk ls hl
      refine lv_iload_n hx hb dX1_guardsSet_4 rfl (lv_at hl 0 rfl) ?_
      refine lv_bipush (v := 8) hx hb dX1_guardsSet_5 (by decide) ?_
      refine lv_icmp_ge (tgt := 28) hx hb dX1_guardsSet_7 (by decide) (fun c_2 => absurd c_2 (nI_ge (show k < 8 by omega) (by decide))) (fun c_2 => ?_)
      refine lv_aload_n hx hb dX1_guardsSet_10 rfl (lv_at hl 2 rfl) ?_
      refine va_get (D := D) (ci := 1) (v := .ref (a 4)) (C := RX1) (T := TX1) (N := 5) hx hb hts hiF hown hK hP 0 rfl rfl 1 (by decide) (hts (.fieldLink RX1 16 "TunerBench" "guards" "[LTunerBench$Guard;") (by decide +kernel)) (fun _ h9 => h9) rfl dX1_guardsSet_11 ?_
      refine lv_iload_n hx hb dX1_guardsSet_14 rfl (lv_at hl 0 rfl) ?_
      refine va_aldq (D := D) hx hb hK hP 4 2 rfl rfl (vp_in_nI (show k < 8 by omega) (by decide)) dX1_guardsSet_15 ?_
      rw [nI_clamp (show k < 2 ^ 31 by omega)]
      have hgk := hgs k (by omega)
      rcases hgg : gg k with _ | x
      · rw [hgg] at hgk
        refine W.eq (g2 := F0 m 16 ls [.null]) rfl ?_
        refine lv_ifnullN (tgt := 22) hx hb dX1_guardsSet_16 (by decide) ?_
        refine lv_iinc (v := nI (k + 1)) (lv' := [(2, .int (nI (k + 1))), (1, .int (nI (cntG G k))), (0, .ref (a 0))]) hx hb dX1_guardsSet_22 hl (k := 0) rfl (nI_1 k) (by decide) rfl (fun ls hl => ?_)
        refine lv_goto (tgt := 4) hx hb dX1_guardsSet_25 (by decide) ?_
        have e_s : nI (cntG G k) = nI (cntG G (k + 1)) := by simp [cntG, ← hgk]
        rw [e_s] at hl
        exact ih (k + 1) (by omega) ls (lv_sub hl [0, 1, 2] rfl)
      · rw [hgg] at hgk
        refine W.eq (g2 := F0 m 16 ls [.ref x]) rfl ?_
        refine lv_ifnull hx hb dX1_guardsSet_16 ?_
        refine lv_iinc (v := nI (cntG G k + 1)) (lv' := [(1, .int (nI (cntG G k + 1))), (2, .int (nI k)), (0, .ref (a 0))]) hx hb dX1_guardsSet_19 hl (k := 1) rfl (nI_1 (cntG G k)) (by decide) rfl (fun ls hl => ?_)
        refine lv_iinc (v := nI (k + 1)) (lv' := [(2, .int (nI (k + 1))), (1, .int (nI (cntG G k + 1))), (0, .ref (a 0))]) hx hb dX1_guardsSet_22 hl (k := 1) rfl (nI_1 k) (by decide) rfl (fun ls hl => ?_)
        refine lv_goto (tgt := 4) hx hb dX1_guardsSet_25 (by decide) ?_
        have e_s : nI (cntG G k + 1) = nI (cntG G (k + 1)) := by simp [cntG, ← hgk]
        rw [e_s] at hl
        exact ih (k + 1) (by omega) ls (lv_sub hl [0, 1, 2] rfl)
  refine lv_iconst (v := 0) hx hb dX1_guardsSet_0 (by decide) ?_
  refine lv_istore_n (lv' := [(1, .int 0), (0, .ref (a 0))]) hx hb dX1_guardsSet_1 rfl hl (by decide) rfl (fun ls hl => ?_)
  refine lv_iconst (v := 0) hx hb dX1_guardsSet_2 (by decide) ?_
  refine lv_istore_n (lv' := [(2, .int 0), (1, .int 0), (0, .ref (a 0))]) hx hb dX1_guardsSet_3 rfl hl (by decide) rfl (fun ls hl => ?_)
  exact loop 8 0 (by omega) ls (lv_sub hl [0, 1, 2] rfl)
set_option maxHeartbeats 4000000 in
set_option maxRecDepth 100000 in
theorem c_X1_count (l : Launch) (D : va_G) (a : Nat → Nat) (cV cI cG : ClassId) (v : Nat → Nat → Int32) (gg : Nat → Option Nat) (dn lt ch : Int32) (G : Nat → Option GT) (hgs : ∀ k : Nat, k < 8 → (gg k).isSome = (G k).isSome) (q : Int32) : Met l yX1_count wsX1_count ({ frames := 1, cells := 0, slots := 0, locals := 22 }) (xR D vwCl (cb a cV cI cG v gg dn lt ch) (cT cV cI cG) xB0 [.ref (a 0), .int q]) (QcRead (aCnt dn lt (nI (cntG G 8)) ch q)) 0 0 (fun _ => False) := by
  refine xr_in (cc := cX1_count) (maxL := 2) (ret := (some .int)) (by decide) rfl (Nat.le_of_ble_eq_true rfl) ?_
  intro p e s m below meth c ls hx hb hr hml hts hown hlk hP hK hB hl
  have hown : s.vm.findClass RX1 = some m.cls := hown
  have hl : lv_has ls 2 [(0, .ref (a 0)), (1, .int q)] := hl
  have hiF : ∀ w ∈ wsX10, w ∈ wsX1_count := by decide +kernel
  refine lv_iload_n hx hb dX1_count_0 rfl (lv_at hl 1 rfl) ?_
  by_cases q_1 : q = 0
  · refine lv_tableIn (off := 31) (tgt := 32) hx hb dX1_count_1 (by rw [q_1]; decide) (by rw [q_1]; decide) (by rw [q_1]; rfl) (by decide) ?_
    refine lv_aload_n hx hb dX1_count_32 rfl (lv_at hl 0 rfl) ?_
    refine va_get (D := D) (ci := 1) (v := .int dn) (C := RX1) (T := TX1) (N := 5) hx hb hts hiF hown hK hP 0 rfl rfl 2 (by decide) (hts (.fieldLink RX1 20 "TunerBench" "denials" "I") (by decide +kernel)) (fun _ h9 => h9) rfl dX1_count_33 ?_
    exact xr_i hx hb hr hlk dX1_count_36 (by simp [aCnt, q_1])
  by_cases q_2 : q = 1
  · refine lv_tableIn (off := 36) (tgt := 37) hx hb dX1_count_1 (by rw [q_2]; decide) (by rw [q_2]; decide) (by rw [q_2]; rfl) (by decide) ?_
    refine lv_aload_n hx hb dX1_count_37 rfl (lv_at hl 0 rfl) ?_
    refine va_get (D := D) (ci := 1) (v := .int lt) (C := RX1) (T := TX1) (N := 5) hx hb hts hiF hown hK hP 0 rfl rfl 3 (by decide) (hts (.fieldLink RX1 24 "TunerBench" "latestTruth" "I") (by decide +kernel)) (fun _ h9 => h9) rfl dX1_count_38 ?_
    exact xr_i hx hb hr hlk dX1_count_41 (by simp [aCnt, q_2])
  by_cases q_3 : q = 2
  · refine lv_tableIn (off := 41) (tgt := 42) hx hb dX1_count_1 (by rw [q_3]; decide) (by rw [q_3]; decide) (by rw [q_3]; rfl) (by decide) ?_
    refine lv_aload_n hx hb dX1_count_42 rfl (lv_at hl 0 rfl) ?_
    refine xc_R (As := []) (rest := []) ⟨hx, hb, hml, hown, hts⟩ (c_X1_guardsSet l D a cV cI cG v gg dn lt ch G hgs) (cwV 0 hts gX1_count_X1_guardsSet rfl rfl rfl (by decide +kernel) ⟨Nat.le_of_ble_eq_true rfl, Nat.le_of_ble_eq_true rfl⟩) xMv0 trivial hP hK (va_recv hK hP (ci := 1) (q0 := 0) rfl rfl) rfl hl.1 rfl (Nat.le_of_ble_eq_true rfl) dX1_count_43 ⟨Nat.zero_le _, Nat.zero_le _⟩ ?_
    exact xr_i hx hb hr hlk dX1_count_46 (by simp [aCnt, q_3])
  by_cases q_4 : q = 3
  · refine lv_tableIn (off := 46) (tgt := 47) hx hb dX1_count_1 (by rw [q_4]; decide) (by rw [q_4]; decide) (by rw [q_4]; rfl) (by decide) ?_
    refine lv_aload_n hx hb dX1_count_47 rfl (lv_at hl 0 rfl) ?_
    refine va_get (D := D) (ci := 1) (v := .int ch) (C := RX1) (T := TX1) (N := 5) hx hb hts hiF hown hK hP 0 rfl rfl 4 (by decide) (hts (.fieldLink RX1 27 "TunerBench" "changes" "I") (by decide +kernel)) (fun _ h9 => h9) rfl dX1_count_48 ?_
    exact xr_i hx hb hr hlk dX1_count_51 (by simp [aCnt, q_4])
  refine lv_tableOut (tgt := 52) hx hb dX1_count_1 (by simp only [i32_eq] at q_1 q_2 q_3 q_4; simp at q_1 q_2 q_3 q_4 ⊢; omega) (by decide) ?_
  refine lv_iconst (v := -1) hx hb dX1_count_52 (by decide) ?_
  exact xr_i hx hb hr hlk dX1_count_53 (by simp [aCnt, q_1, q_2, q_3, q_4])
end
section
/-! Arrays.fill, TunerBench() -/
theorem arrV_congr {c : ClassId} {n : Nat} {f g : Nat → Value} (h : ∀ j, j < n → f j = g j) : arrV c n f = arrV c n g := by
  unfold arrV
  congr 1
  apply Array.ext
  · simp
  · intro i h1 h2
    simp at h1
    simpa using h i h1
theorem va_ci {D : va_G} {cl : List vw_C} {a n : Nat} {cA : ClassId} {f g : Nat → Int32} {H : Heap} (h : ∀ j, j < n → f j = g j) (hP : va_at D cl (a, .inl (cA, n, .inl f)) H) : va_at D cl (a, .inl (cA, n, .inl g)) H := by
  have e : vp_cell cA (n, .inl f) = vp_cell cA (n, .inl g) := by
    show arrV cA n (fun j => .int (f j)) = arrV cA n (fun j => .int (g j))
    exact arrV_congr (fun j hj => by rw [h j hj])
  show H[a]? = some (vp_cell cA (n, .inl g))
  rw [← e]
  exact hP
theorem va_cr {D : va_G} {cl : List vw_C} {a n : Nat} {cA : ClassId} {f g : Nat → Option Nat} {H : Heap} (h : ∀ j, j < n → f j = g j) (hP : va_at D cl (a, .inl (cA, n, .inr (.inr (.inr (.inr f))))) H) : va_at D cl (a, .inl (cA, n, .inr (.inr (.inr (.inr g))))) H := by
  have e : vp_cell cA (n, .inr (.inr (.inr (.inr f)))) = vp_cell cA (n, .inr (.inr (.inr (.inr g)))) := by
    show arrV cA n (fun j => va_rf (f j)) = arrV cA n (fun j => va_rf (g j))
    exact arrV_congr (fun j hj => by rw [h j hj])
  show H[a]? = some (vp_cell cA (n, .inr (.inr (.inr (.inr g)))))
  rw [← e]
  exact hP
theorem xd_ad {A : Nat → Prop} {ws ws' : va_W} (hD : va_D A ws) (h : ws.map (fun q => q.1) = ws'.map (fun q => q.1)) : va_D A ws' := by
  have hl : ws.length = ws'.length := by have := congrArg List.length h; simpa using this
  have key : ∀ (k : Nat) (q : Nat × va_E), ws'[k]? = some q → ∃ e : va_E, ws[k]? = some (q.1, e) := fun k q hk => by
    have h1 : (ws'.map (fun q => q.1))[k]? = some q.1 := by rw [List.getElem?_map, hk]; rfl
    rw [← h, List.getElem?_map] at h1
    cases hw : ws[k]? with
    | none => rw [hw] at h1; cases h1
    | some x =>
      rw [hw] at h1
      have : x.1 = q.1 := Option.some.inj h1
      exact ⟨x.2, by rw [← this]⟩
  refine ⟨fun i j p q hi hj e => ?_, fun k q hk => ?_⟩
  · obtain ⟨e1, h1⟩ := key i p hi
    obtain ⟨e2, h2⟩ := key j q hj
    exact hD.1 i j _ _ h1 h2 e
  · obtain ⟨e1, h1⟩ := key k q hk
    exact hD.2 k (q.1, e1) h1
def flF (f : Nat → Int32) (x : Int32) (k : Nat) : Nat → Int32 := fun j => if j < k then x else f j
theorem flF_up (f : Nat → Int32) (x : Int32) (k : Nat) : upd (flF f x k) k x = flF f x (k + 1) := by
  funext j
  by_cases h : j = k
  · subst h; simp [upd, flF]
  · by_cases h2 : j < k
    · simp [upd, flF, h, h2, show j < k + 1 by omega]
    · simp [upd, flF, h, h2, show ¬ j < k + 1 by omega]
theorem flF_0 (f : Nat → Int32) (x : Int32) : flF f x 0 = f := by funext j; simp [flF]
set_option maxHeartbeats 4000000 in
set_option maxRecDepth 100000 in
theorem c_J7_fill_53178 (l : Launch) (D : va_G) (b : Nat) (cI : ClassId) (f : Nat → Int32) (x : Int32) (sz : Nat) : Met l yJ7_fill_53178 wsJ7_fill_53178 ({ frames := 0, cells := 0, slots := 0, locals := 0 }) (xW D vwCl [(b, .inl (cI, 33, .inl f))] [(cI, .int)] xB0 sz [.ref b, .int x]) (xQv (S := Unit) D vwCl (fun _ => True) (fun _ => [(b, .inl (cI, 33, .inl (fun _ => x)))]) (fun _ => [(cI, .int)]) (va_A [(b, .inl (cI, 33, .inl f))] sz)) 0 0 (va_A [(b, .inl (cI, 33, .inl f))] sz) := by
  refine xw_in (Qf := xQv (S := Unit) D vwCl (fun _ => True) (fun _ => [(b, .inl (cI, 33, .inl (fun _ => x)))]) (fun _ => [(cI, .int)])) (cc := cJ7_fill_53178) (maxL := 4) (ret := none) (by decide) rfl (Nat.le_of_ble_eq_true rfl) ?_
  intro p e s m below meth c ls A hx hb hr hml hts hown hlk hnm hA hP hK hD hS hB hl
  have hl : lv_has ls 4 [(0, .ref b), (1, .int x)] := hl
  have loop : ∀ (n k : Nat), k + n = 33 → ∀ (H : Heap) (locs : List Loc), va_P D vwCl [(b, .inl (cI, 33, .inl (flF f x k)))] H → va_D A [(b, .inl (cI, 33, .inl (flF f x k)))] → va_S A s.heap H locs → ∀ ls : Array Slot, lv_has ls 4 [(2, .int (nI k)), (0, .ref b), (1, .int x), (3, .int 33)] → W p l e ({ frames := 0, cells := 0, slots := 0, locals := 0 }) s m ([.ref b, .int x] : List Value).toArray below meth c H locs 0 0 (MQ below ((xQv (S := Unit) D vwCl (fun _ => True) (fun _ => [(b, .inl (cI, 33, .inl (fun _ => x)))]) (fun _ => [(cI, .int)])) A) ([.ref b, .int x] : List Value).toArray s 0 0 A) (F0 m 5 ls []) := by
    intro n
    induction n with
    | zero =>
      intro k hk H locs hP hD hS ls hl
      obtain rfl : k = 33 := by omega
      refine lv_iload_n hx hb dJ7_fill_53178_5 rfl (lv_at hl 0 rfl) ?_
      refine lv_iload_n hx hb dJ7_fill_53178_6 rfl (lv_at hl 3 rfl) ?_
      refine lv_icmp_ge (tgt := 20) hx hb dJ7_fill_53178_7 (by decide) (fun c_1 => ?_) (fun c_1 => absurd (by decide) c_1)
      have hP : va_P D vwCl [(b, .inl (cI, 33, .inl (fun _ => x)))] H := fun k q hk => by
        match k, hk with
        | 0, hk => cases hk; exact va_ci (fun j hj => by simp [flF, hj]) (hP 0 _ rfl)
        | k + 1, hk => simp at hk
      have hD : va_D A [(b, .inl (cI, 33, .inl (fun _ => x)))] := xd_ad hD rfl
      exact xw_v (S := Unit) () hx hb hr hlk dJ7_fill_53178_20 hP hK hD hS trivial
    | succ n ih =>
      intro k hk H locs hP hD hS ls hl
      refine lv_iload_n hx hb dJ7_fill_53178_5 rfl (lv_at hl 0 rfl) ?_
      refine lv_iload_n hx hb dJ7_fill_53178_6 rfl (lv_at hl 3 rfl) ?_
      refine lv_icmp_ge (tgt := 20) hx hb dJ7_fill_53178_7 (by decide) (fun c_2 => absurd c_2 (nI_ge (show k < 33 by omega) (by decide))) (fun c_2 => ?_)
      refine lv_aload_n hx hb dJ7_fill_53178_10 rfl (lv_at hl 1 rfl) ?_
      refine lv_iload_n hx hb dJ7_fill_53178_11 rfl (lv_at hl 0 rfl) ?_
      refine lv_iload_n hx hb dJ7_fill_53178_12 rfl (lv_at hl 2 rfl) ?_
      refine va_iast (D := D) hx hb hK hP hD hS 0 0 rfl rfl (vp_in_nI (show k < 33 by omega) (by decide)) dJ7_fill_53178_13 (fun H locs hP hD hS => ?_)
      rw [nI_clamp (show k < 2 ^ 31 by omega)] at hP hD
      have hP : va_P D vwCl [(b, .inl (cI, 33, .inl (flF f x (k + 1))))] H := by rw [← flF_up]; exact hP
      have hD : va_D A [(b, .inl (cI, 33, .inl (flF f x (k + 1))))] := by rw [← flF_up]; exact hD
      refine lv_iinc (v := nI (k + 1)) (lv' := [(2, .int (nI (k + 1))), (0, .ref b), (1, .int x), (3, .int 33)]) hx hb dJ7_fill_53178_14 hl (k := 0) rfl (nI_1 k) (by decide) rfl (fun ls hl => ?_)
      refine lv_goto (tgt := 5) hx hb dJ7_fill_53178_17 (by decide) ?_
      exact ih (k + 1) (by omega) H locs hP hD hS ls (lv_sub hl [0, 1, 2, 3] rfl)
  refine lv_iconst (v := 0) hx hb dJ7_fill_53178_0 (by decide) ?_
  refine lv_istore_n (lv' := [(2, .int 0), (0, .ref b), (1, .int x)]) hx hb dJ7_fill_53178_1 rfl hl (by decide) rfl (fun ls hl => ?_)
  refine lv_aload_n hx hb dJ7_fill_53178_2 rfl (lv_at hl 1 rfl) ?_
  refine va_alen (D := D) hx hb hK hP 0 0 rfl rfl (v := 33) rfl dJ7_fill_53178_3 ?_
  refine lv_istore_n (lv' := [(3, .int 33), (2, .int 0), (0, .ref b), (1, .int x)]) hx hb dJ7_fill_53178_4 rfl hl (by decide) rfl (fun ls hl => ?_)
  exact loop 33 0 (by omega) _ _ (by rw [flF_0]; exact hP) (by rw [flF_0]; exact hD) hS ls (lv_sub hl [1, 2, 3, 0] rfl)
def iT (U : State) : Prop := va_AO "TunerBench$Guard" U ∧ (Cond.arrayOver (.array .int)).before #[] U = true
theorem xMvI : xMv iT := ⟨fun u U h q => ⟨va_AO.moved (by rw [h]; exact Vm.Alike.refl U.vm) q.1, over_moved (by rw [h]; exact Vm.Alike.refl U.vm) q.2⟩, fun u U hW q => ⟨va_AO.moved hW.alike q.1, over_moved hW.alike q.2⟩⟩
set_option maxHeartbeats 4000000 in
set_option maxRecDepth 100000 in
theorem c_X1_init (l : Launch) (D : va_G) (b sz : Nat) : Met l yX1_init wsX1_init ({ frames := 1, cells := 4, slots := 76, locals := 23 }) (xW D vwCl [(b, .inr (1, [.null, .null, .int 0, .int 0, .int 0]))] [] iT sz [.ref b]) (xQv (S := (Nat → Nat) × ClassId × ClassId × ClassId) D vwCl (fun u => u.1 0 = b) (fun u => cb u.1 u.2.1 u.2.2.1 u.2.2.2 (fun _ _ => 40003) (fun _ => none) 0 (-1) 0) (fun u => cT u.2.1 u.2.2.1 u.2.2.2) (va_A [(b, .inr (1, [.null, .null, .int 0, .int 0, .int 0]))] sz)) 4 76 (va_A [(b, .inr (1, [.null, .null, .int 0, .int 0, .int 0]))] sz) := by
  refine xw_in (Qf := xQv (S := (Nat → Nat) × ClassId × ClassId × ClassId) D vwCl (fun u => u.1 0 = b) (fun u => cb u.1 u.2.1 u.2.2.1 u.2.2.2 (fun _ _ => 40003) (fun _ => none) 0 (-1) 0) (fun u => cT u.2.1 u.2.2.1 u.2.2.2)) (cc := cX1_init) (maxL := 2) (ret := none) (by decide) rfl (Nat.le_of_ble_eq_true rfl) ?_
  intro p e s m below meth c ls A hx hb hr hml hts hown hlk hnm hA hP hK hD hS hB hl
  have hown : s.vm.findClass RX1 = some m.cls := hown
  have hin : meth.name = "<init>" := hnm
  have hl : lv_has ls 2 [(0, .ref b)] := hl
  have hiF : ∀ w ∈ wsX10, w ∈ wsX1_init := by decide +kernel
  refine lv_aload_n hx hb dX1_init_0 rfl (lv_at hl 0 rfl) ?_
  refine W.objInit hx hb hown (hts (.methodLink RX1 3 objectInit) (by decide +kernel)) (hts (.instanceMethod objectInit) (by decide +kernel)) (hts _ (List.mem_cons_of_mem _ (List.mem_append_left _ (List.mem_of_getElem? (i := 2) rfl)))) rfl (by rw [hml]; exact hl.1) rfl dX1_init_1 (Nat.le_of_ble_eq_true rfl) (Nat.le_of_ble_eq_true rfl) ?_
  refine W.eq (g2 := F0 m 4 ls []) rfl ?_
  refine lv_aload_n hx hb dX1_init_4 rfl (lv_at hl 0 rfl) ?_
  refine lv_iconst (v := 2) hx hb dX1_init_5 (by decide) ?_
  refine lv_bipush (v := 33) hx hb dX1_init_6 (by decide) ?_
  refine xa_mna (D := D) hx hb hown (hts (.classLink RX1 9 "[[I") (by decide +kernel)) hB.2 (hts (.arrayClass .int) (by decide +kernel)) hK hP hD hS hA (Nat.le_of_ble_eq_true rfl) (Nat.le_of_ble_eq_true rfl) dX1_init_8 (fun q cV cI H locs hK hP hD hS => ?_)
  have hP : va_P D vwCl [(b, .inr (1, [.null, .null, .int 0, .int 0, .int 0])), (q, .inl (cV, 2, .inr (.inr (.inr (.inr (fun i => some (q + 1 + i))))))), (q + 1, .inl (cI, 33, .inl (fun _ => 0))), (q + 2, .inl (cI, 33, .inl (fun _ => 0)))] H := hP
  have hD : va_D A [(b, .inr (1, [.null, .null, .int 0, .int 0, .int 0])), (q, .inl (cV, 2, .inr (.inr (.inr (.inr (fun i => some (q + 1 + i))))))), (q + 1, .inl (cI, 33, .inl (fun _ => 0))), (q + 2, .inl (cI, 33, .inl (fun _ => 0)))] := hD
  have hK : va_K D vwCl [(cV, .array .int), (cI, .int)] s := hK
  refine W.widen (k := 3) (n := 68) (Nat.le_of_ble_eq_true rfl) (Nat.le_of_ble_eq_true rfl) ?_
  refine va_putF (D := D) (ci := 1) (v := .ref q) (ty := .array (.array .int)) (C := RX1) (T := TX1) (N := 5) hx hb hts hiF tyX1 tyX1_ok nmX1 hown hK hP hD hS 0 rfl rfl 0 (by decide) (hts (.fieldLink RX1 11 "TunerBench" "values" "[[I") (by decide +kernel)) (fun _ h9 => h9) rfl hin rfl (by decide +kernel) rfl rfl (Nat.le_of_ble_eq_true rfl) dX1_init_12 (fun H locs hP hD hS => ?_)
  have hP : va_P D vwCl [(b, .inr (1, [.ref q, .null, .int 0, .int 0, .int 0])), (q, .inl (cV, 2, .inr (.inr (.inr (.inr (fun i => some (q + 1 + i))))))), (q + 1, .inl (cI, 33, .inl (fun _ => 0))), (q + 2, .inl (cI, 33, .inl (fun _ => 0)))] H := hP
  have hD : va_D A [(b, .inr (1, [.ref q, .null, .int 0, .int 0, .int 0])), (q, .inl (cV, 2, .inr (.inr (.inr (.inr (fun i => some (q + 1 + i))))))), (q + 1, .inl (cI, 33, .inl (fun _ => 0))), (q + 2, .inl (cI, 33, .inl (fun _ => 0)))] := hD
  refine lv_aload_n hx hb dX1_init_15 rfl (lv_at hl 0 rfl) ?_
  refine lv_bipush (v := 8) hx hb dX1_init_16 (by decide) ?_
  refine va_newq (D := D) (C := "TunerBench$Guard") hx hb hown (hts (.classLink RX1 14 RX0) (by decide +kernel)) hB.1 hK hP hD hS hA (by decide) (N' := 8) (by decide) (by decide) (Nat.le_of_ble_eq_true rfl) (Nat.le_of_ble_eq_true rfl) dX1_init_18 (fun q4 cG H hK hP hD hS => ?_)
  have hP : va_P D vwCl [(b, .inr (1, [.ref q, .null, .int 0, .int 0, .int 0])), (q, .inl (cV, 2, .inr (.inr (.inr (.inr (fun i => some (q + 1 + i))))))), (q + 1, .inl (cI, 33, .inl (fun _ => 0))), (q + 2, .inl (cI, 33, .inl (fun _ => 0))), (q4, .inl (cG, 8, .inr (.inr (.inr (.inr (fun _ => none))))))] H := hP
  have hD : va_D A [(b, .inr (1, [.ref q, .null, .int 0, .int 0, .int 0])), (q, .inl (cV, 2, .inr (.inr (.inr (.inr (fun i => some (q + 1 + i))))))), (q + 1, .inl (cI, 33, .inl (fun _ => 0))), (q + 2, .inl (cI, 33, .inl (fun _ => 0))), (q4, .inl (cG, 8, .inr (.inr (.inr (.inr (fun _ => none))))))] := hD
  have hK : va_K D vwCl (cT cV cI cG) s := hK
  refine W.widen (k := 4) (n := 76) (Nat.le_of_ble_eq_true rfl) (Nat.le_of_ble_eq_true rfl) ?_
  refine va_putF (D := D) (ci := 1) (v := .ref q4) (ty := .array (.object "TunerBench$Guard")) (C := RX1) (T := TX1) (N := 5) hx hb hts hiF tyX1 tyX1_ok nmX1 hown hK hP hD hS 0 rfl rfl 1 (by decide) (hts (.fieldLink RX1 16 "TunerBench" "guards" "[LTunerBench$Guard;") (by decide +kernel)) (fun _ h9 => h9) rfl hin rfl (by decide +kernel) rfl rfl (Nat.le_of_ble_eq_true rfl) dX1_init_21 (fun H locs hP hD hS => ?_)
  have hP : va_P D vwCl [(b, .inr (1, [.ref q, .ref q4, .int 0, .int 0, .int 0])), (q, .inl (cV, 2, .inr (.inr (.inr (.inr (fun i => some (q + 1 + i))))))), (q + 1, .inl (cI, 33, .inl (fun _ => 0))), (q + 2, .inl (cI, 33, .inl (fun _ => 0))), (q4, .inl (cG, 8, .inr (.inr (.inr (.inr (fun _ => none))))))] H := hP
  have hD : va_D A [(b, .inr (1, [.ref q, .ref q4, .int 0, .int 0, .int 0])), (q, .inl (cV, 2, .inr (.inr (.inr (.inr (fun i => some (q + 1 + i))))))), (q + 1, .inl (cI, 33, .inl (fun _ => 0))), (q + 2, .inl (cI, 33, .inl (fun _ => 0))), (q4, .inl (cG, 8, .inr (.inr (.inr (.inr (fun _ => none))))))] := hD
  refine lv_aload_n hx hb dX1_init_24 rfl (lv_at hl 0 rfl) ?_
  refine lv_iconst (v := 0) hx hb dX1_init_25 (by decide) ?_
  refine va_put (D := D) (ci := 1) (v := .int 0) (ty := .int) (C := RX1) (T := TX1) (N := 5) hx hb hts hiF tyX1 tyX1_ok nmX1 hown hK hP hD hS 0 rfl rfl 2 (by decide) (hts (.fieldLink RX1 20 "TunerBench" "denials" "I") (by decide +kernel)) (fun _ h9 => h9) rfl (by decide +kernel) rfl rfl (Nat.le_of_ble_eq_true rfl) dX1_init_26 (fun H locs hP hD hS => ?_)
  have hP : va_P D vwCl [(b, .inr (1, [.ref q, .ref q4, .int 0, .int 0, .int 0])), (q, .inl (cV, 2, .inr (.inr (.inr (.inr (fun i => some (q + 1 + i))))))), (q + 1, .inl (cI, 33, .inl (fun _ => 0))), (q + 2, .inl (cI, 33, .inl (fun _ => 0))), (q4, .inl (cG, 8, .inr (.inr (.inr (.inr (fun _ => none))))))] H := hP
  have hD : va_D A [(b, .inr (1, [.ref q, .ref q4, .int 0, .int 0, .int 0])), (q, .inl (cV, 2, .inr (.inr (.inr (.inr (fun i => some (q + 1 + i))))))), (q + 1, .inl (cI, 33, .inl (fun _ => 0))), (q + 2, .inl (cI, 33, .inl (fun _ => 0))), (q4, .inl (cG, 8, .inr (.inr (.inr (.inr (fun _ => none))))))] := hD
  refine lv_aload_n hx hb dX1_init_29 rfl (lv_at hl 0 rfl) ?_
  refine lv_iconst (v := -1) hx hb dX1_init_30 (by decide) ?_
  refine va_put (D := D) (ci := 1) (v := .int (-1)) (ty := .int) (C := RX1) (T := TX1) (N := 5) hx hb hts hiF tyX1 tyX1_ok nmX1 hown hK hP hD hS 0 rfl rfl 3 (by decide) (hts (.fieldLink RX1 24 "TunerBench" "latestTruth" "I") (by decide +kernel)) (fun _ h9 => h9) rfl (by decide +kernel) rfl rfl (Nat.le_of_ble_eq_true rfl) dX1_init_31 (fun H locs hP hD hS => ?_)
  have hP : va_P D vwCl [(b, .inr (1, [.ref q, .ref q4, .int 0, .int (-1), .int 0])), (q, .inl (cV, 2, .inr (.inr (.inr (.inr (fun i => some (q + 1 + i))))))), (q + 1, .inl (cI, 33, .inl (fun _ => 0))), (q + 2, .inl (cI, 33, .inl (fun _ => 0))), (q4, .inl (cG, 8, .inr (.inr (.inr (.inr (fun _ => none))))))] H := hP
  have hD : va_D A [(b, .inr (1, [.ref q, .ref q4, .int 0, .int (-1), .int 0])), (q, .inl (cV, 2, .inr (.inr (.inr (.inr (fun i => some (q + 1 + i))))))), (q + 1, .inl (cI, 33, .inl (fun _ => 0))), (q + 2, .inl (cI, 33, .inl (fun _ => 0))), (q4, .inl (cG, 8, .inr (.inr (.inr (.inr (fun _ => none))))))] := hD
  refine lv_aload_n hx hb dX1_init_34 rfl (lv_at hl 0 rfl) ?_
  refine lv_iconst (v := 0) hx hb dX1_init_35 (by decide) ?_
  refine va_put (D := D) (ci := 1) (v := .int 0) (ty := .int) (C := RX1) (T := TX1) (N := 5) hx hb hts hiF tyX1 tyX1_ok nmX1 hown hK hP hD hS 0 rfl rfl 4 (by decide) (hts (.fieldLink RX1 27 "TunerBench" "changes" "I") (by decide +kernel)) (fun _ h9 => h9) rfl (by decide +kernel) rfl rfl (Nat.le_of_ble_eq_true rfl) dX1_init_36 (fun H locs hP hD hS => ?_)
  have hP : va_P D vwCl [(b, .inr (1, [.ref q, .ref q4, .int 0, .int (-1), .int 0])), (q, .inl (cV, 2, .inr (.inr (.inr (.inr (fun i => some (q + 1 + i))))))), (q + 1, .inl (cI, 33, .inl (fun _ => 0))), (q + 2, .inl (cI, 33, .inl (fun _ => 0))), (q4, .inl (cG, 8, .inr (.inr (.inr (.inr (fun _ => none))))))] H := hP
  have hD : va_D A [(b, .inr (1, [.ref q, .ref q4, .int 0, .int (-1), .int 0])), (q, .inl (cV, 2, .inr (.inr (.inr (.inr (fun i => some (q + 1 + i))))))), (q + 1, .inl (cI, 33, .inl (fun _ => 0))), (q + 2, .inl (cI, 33, .inl (fun _ => 0))), (q4, .inl (cG, 8, .inr (.inr (.inr (.inr (fun _ => none))))))] := hD
  refine lv_iconst (v := 0) hx hb dX1_init_39 (by decide) ?_
  refine lv_istore_n (lv' := [(1, .int 0), (0, .ref b)]) hx hb dX1_init_40 rfl hl (by decide) rfl (fun ls hl => ?_)
  refine lv_iload_n hx hb dX1_init_41 rfl (lv_at hl 0 rfl) ?_
  refine lv_iconst (v := 2) hx hb dX1_init_42 (by decide) ?_
  refine lv_icmp_ge (tgt := 63) hx hb dX1_init_43 (by decide) (fun c_1 => absurd c_1 (by decide)) (fun c_1 => ?_)
  refine lv_aload_n hx hb dX1_init_46 rfl (lv_at hl 1 rfl) ?_
  refine va_get (D := D) (ci := 1) (v := .ref q) (C := RX1) (T := TX1) (N := 5) hx hb hts hiF hown hK hP 0 rfl rfl 0 (by decide) (hts (.fieldLink RX1 11 "TunerBench" "values" "[[I") (by decide +kernel)) (fun _ h9 => h9) rfl dX1_init_47 ?_
  refine lv_iload_n hx hb dX1_init_50 rfl (lv_at hl 0 rfl) ?_
  refine xa_ald (D := D) (f := fun i => q + 1 + i) hx hb hK hP 1 0 rfl rfl (show vp_in (0) 2 by unfold vp_in; decide) dX1_init_51 ?_
  refine W.eq (g2 := F0 m 52 ls [.ref (q + 1)]) (by rw [show (0 : Int32).toNatClampNeg = 0 by decide]) ?_
  refine lv_ldc (v := 40003) hx hb hown (hts (.constant RX1 30 (40003)) (by decide +kernel)) dX1_init_52 ?_
  have hPn : va_P D vwCl ([(q + 1, .inl (cI, 33, .inl (fun _ => 0)))] ++ [(b, .inr (1, [.ref q, .ref q4, .int 0, .int (-1), .int 0])), (q, .inl (cV, 2, .inr (.inr (.inr (.inr (fun i => some (q + 1 + i))))))), (q + 2, .inl (cI, 33, .inl (fun _ => 0))), (q4, .inl (cG, 8, .inr (.inr (.inr (.inr (fun _ => none))))))]) H := hP.sub [2, 0, 1, 3, 4] rfl
  have hDn : va_D A ([(q + 1, .inl (cI, 33, .inl (fun _ => 0)))] ++ [(b, .inr (1, [.ref q, .ref q4, .int 0, .int (-1), .int 0])), (q, .inl (cV, 2, .inr (.inr (.inr (.inr (fun i => some (q + 1 + i))))))), (q + 2, .inl (cI, 33, .inl (fun _ => 0))), (q4, .inl (cG, 8, .inr (.inr (.inr (.inr (fun _ => none))))))]) := hD.sub [2, 0, 1, 3, 4] (by decide) rfl
  refine xc_Sv (S0 := Unit) (rw := [(b, .inr (1, [.ref q, .ref q4, .int 0, .int (-1), .int 0])), (q, .inl (cV, 2, .inr (.inr (.inr (.inr (fun i => some (q + 1 + i))))))), (q + 2, .inl (cI, 33, .inl (fun _ => 0))), (q4, .inl (cG, 8, .inr (.inr (.inr (.inr (fun _ => none))))))]) (As := [.ref (q + 1), .int 40003]) (rest := []) ⟨hx, hb, hml, hown, hts⟩ (c_J7_fill_53178 l D (q + 1) cI (fun _ => 0) 40003 H.size) (va_cwS 2 hts gX1_init_J7_fill_53178 rfl rfl rfl (by decide +kernel) ⟨Nat.le_of_ble_eq_true rfl, Nat.le_of_ble_eq_true rfl⟩) xMv0 trivial hPn (hK.sub (tys' := [(cI, .int)]) [1] rfl) hDn hS hA rfl hl.1 rfl (Nat.le_of_ble_eq_true rfl) dX1_init_54 ⟨Nat.le_of_ble_eq_true rfl, Nat.le_of_ble_eq_true rfl⟩ (fun _ H locs _ hP hD _ hS => ?_)
  have hP : va_P D vwCl [(b, .inr (1, [.ref q, .ref q4, .int 0, .int (-1), .int 0])), (q, .inl (cV, 2, .inr (.inr (.inr (.inr (fun i => some (q + 1 + i))))))), (q + 1, .inl (cI, 33, .inl (fun _ => 40003))), (q + 2, .inl (cI, 33, .inl (fun _ => 0))), (q4, .inl (cG, 8, .inr (.inr (.inr (.inr (fun _ => none))))))] H := hP.sub [1, 2, 0, 3, 4] rfl
  have hD : va_D A [(b, .inr (1, [.ref q, .ref q4, .int 0, .int (-1), .int 0])), (q, .inl (cV, 2, .inr (.inr (.inr (.inr (fun i => some (q + 1 + i))))))), (q + 1, .inl (cI, 33, .inl (fun _ => 40003))), (q + 2, .inl (cI, 33, .inl (fun _ => 0))), (q4, .inl (cG, 8, .inr (.inr (.inr (.inr (fun _ => none))))))] := hD.sub [1, 2, 0, 3, 4] (by decide) rfl
  refine lv_iinc (v := 0 + 1) (lv' := [(1, .int (0 + 1)), (0, .ref b)]) hx hb dX1_init_57 hl (k := 0) rfl (rfl) (by decide) rfl (fun ls hl => ?_)
  refine lv_goto (tgt := 41) hx hb dX1_init_60 (by decide) ?_
  refine lv_iload_n hx hb dX1_init_41 rfl (lv_at hl 0 rfl) ?_
  refine lv_iconst (v := 2) hx hb dX1_init_42 (by decide) ?_
  refine lv_icmp_ge (tgt := 63) hx hb dX1_init_43 (by decide) (fun c_2 => absurd c_2 (by decide)) (fun c_2 => ?_)
  refine lv_aload_n hx hb dX1_init_46 rfl (lv_at hl 1 rfl) ?_
  refine va_get (D := D) (ci := 1) (v := .ref q) (C := RX1) (T := TX1) (N := 5) hx hb hts hiF hown hK hP 0 rfl rfl 0 (by decide) (hts (.fieldLink RX1 11 "TunerBench" "values" "[[I") (by decide +kernel)) (fun _ h9 => h9) rfl dX1_init_47 ?_
  refine lv_iload_n hx hb dX1_init_50 rfl (lv_at hl 0 rfl) ?_
  refine xa_ald (D := D) (f := fun i => q + 1 + i) hx hb hK hP 1 0 rfl rfl (show vp_in (0 + 1) 2 by unfold vp_in; decide) dX1_init_51 ?_
  refine W.eq (g2 := F0 m 52 ls [.ref (q + 2)]) (by rw [show (0 + 1 : Int32).toNatClampNeg = 1 by decide]) ?_
  refine lv_ldc (v := 40003) hx hb hown (hts (.constant RX1 30 (40003)) (by decide +kernel)) dX1_init_52 ?_
  have hPn : va_P D vwCl ([(q + 2, .inl (cI, 33, .inl (fun _ => 0)))] ++ [(b, .inr (1, [.ref q, .ref q4, .int 0, .int (-1), .int 0])), (q, .inl (cV, 2, .inr (.inr (.inr (.inr (fun i => some (q + 1 + i))))))), (q + 1, .inl (cI, 33, .inl (fun _ => 40003))), (q4, .inl (cG, 8, .inr (.inr (.inr (.inr (fun _ => none))))))]) H := hP.sub [3, 0, 1, 2, 4] rfl
  have hDn : va_D A ([(q + 2, .inl (cI, 33, .inl (fun _ => 0)))] ++ [(b, .inr (1, [.ref q, .ref q4, .int 0, .int (-1), .int 0])), (q, .inl (cV, 2, .inr (.inr (.inr (.inr (fun i => some (q + 1 + i))))))), (q + 1, .inl (cI, 33, .inl (fun _ => 40003))), (q4, .inl (cG, 8, .inr (.inr (.inr (.inr (fun _ => none))))))]) := hD.sub [3, 0, 1, 2, 4] (by decide) rfl
  refine xc_Sv (S0 := Unit) (rw := [(b, .inr (1, [.ref q, .ref q4, .int 0, .int (-1), .int 0])), (q, .inl (cV, 2, .inr (.inr (.inr (.inr (fun i => some (q + 1 + i))))))), (q + 1, .inl (cI, 33, .inl (fun _ => 40003))), (q4, .inl (cG, 8, .inr (.inr (.inr (.inr (fun _ => none))))))]) (As := [.ref (q + 2), .int 40003]) (rest := []) ⟨hx, hb, hml, hown, hts⟩ (c_J7_fill_53178 l D (q + 2) cI (fun _ => 0) 40003 H.size) (va_cwS 2 hts gX1_init_J7_fill_53178 rfl rfl rfl (by decide +kernel) ⟨Nat.le_of_ble_eq_true rfl, Nat.le_of_ble_eq_true rfl⟩) xMv0 trivial hPn (hK.sub (tys' := [(cI, .int)]) [1] rfl) hDn hS hA rfl hl.1 rfl (Nat.le_of_ble_eq_true rfl) dX1_init_54 ⟨Nat.le_of_ble_eq_true rfl, Nat.le_of_ble_eq_true rfl⟩ (fun _ H locs _ hP hD _ hS => ?_)
  have hP : va_P D vwCl [(b, .inr (1, [.ref q, .ref q4, .int 0, .int (-1), .int 0])), (q, .inl (cV, 2, .inr (.inr (.inr (.inr (fun i => some (q + 1 + i))))))), (q + 1, .inl (cI, 33, .inl (fun _ => 40003))), (q + 2, .inl (cI, 33, .inl (fun _ => 40003))), (q4, .inl (cG, 8, .inr (.inr (.inr (.inr (fun _ => none))))))] H := hP.sub [1, 2, 3, 0, 4] rfl
  have hD : va_D A [(b, .inr (1, [.ref q, .ref q4, .int 0, .int (-1), .int 0])), (q, .inl (cV, 2, .inr (.inr (.inr (.inr (fun i => some (q + 1 + i))))))), (q + 1, .inl (cI, 33, .inl (fun _ => 40003))), (q + 2, .inl (cI, 33, .inl (fun _ => 40003))), (q4, .inl (cG, 8, .inr (.inr (.inr (.inr (fun _ => none))))))] := hD.sub [1, 2, 3, 0, 4] (by decide) rfl
  refine lv_iinc (v := (0 + 1) + 1) (lv' := [(1, .int ((0 + 1) + 1)), (0, .ref b)]) hx hb dX1_init_57 hl (k := 0) rfl (rfl) (by decide) rfl (fun ls hl => ?_)
  refine lv_goto (tgt := 41) hx hb dX1_init_60 (by decide) ?_
  refine lv_iload_n hx hb dX1_init_41 rfl (lv_at hl 0 rfl) ?_
  refine lv_iconst (v := 2) hx hb dX1_init_42 (by decide) ?_
  refine lv_icmp_ge (tgt := 63) hx hb dX1_init_43 (by decide) (fun c_3 => ?_) (fun c_3 => absurd (by decide) c_3)
  have hP : va_P D vwCl (cb (fun i => if i = 0 then b else if i = 1 then q else if i = 2 then q + 1 else if i = 3 then q + 2 else q4) cV cI cG (fun _ _ => 40003) (fun _ => none) 0 (-1) 0) H := fun k x hk => by
    match k, hk with
    | 0, hk => cases hk; exact hP 0 _ rfl
    | 1, hk => cases hk; exact va_cr (fun j hj => by rcases (show j = 0 ∨ j = 1 by omega) with rfl | rfl <;> rfl) (hP 1 _ rfl)
    | 2, hk => cases hk; exact hP 2 _ rfl
    | 3, hk => cases hk; exact hP 3 _ rfl
    | 4, hk => cases hk; exact hP 4 _ rfl
    | k + 5, hk => simp at hk
  have hD : va_D A (cb (fun i => if i = 0 then b else if i = 1 then q else if i = 2 then q + 1 else if i = 3 then q + 2 else q4) cV cI cG (fun _ _ => 40003) (fun _ => none) 0 (-1) 0) := xd_ad hD rfl
  exact xw_v (S := (Nat → Nat) × ClassId × ClassId × ClassId) ((fun i => if i = 0 then b else if i = 1 then q else if i = 2 then q + 1 else if i = 3 then q + 2 else q4), cV, cI, cG) hx hb hr hlk dX1_init_63 hP hK hD hS rfl
end
section
/-! the model: rings, count, guard -/
set_option maxHeartbeats 4000000 in
set_option maxRecDepth 100000 in
theorem c_X2_rings (l : Launch) (D : va_G) (a : Nat → Nat) (cI cZ : ClassId) (v : Nat → Nat → Int32) (G : Nat → Option GT) (dn lt ch gn : Int32) (g : Int32) : Met l yX2_rings wsX2_rings ({ frames := 1, cells := 0, slots := 0, locals := 22 }) (xR D vwCl (mb a cI cZ v G dn lt ch gn) (mT cI cZ) xB0 [.ref (a 0), .int g]) (QcRead (aRin G g)) 0 0 (fun _ => False) := by
  refine xr_in (cc := cX2_rings) (maxL := 2) (ret := (some .int)) (by decide) rfl (Nat.le_of_ble_eq_true rfl) ?_
  intro p e s m below meth c ls hx hb hr hml hts hown hlk hP hK hB hl
  have hown : s.vm.findClass RX2 = some m.cls := hown
  have hl : lv_has ls 2 [(0, .ref (a 0)), (1, .int g)] := hl
  have hiF : ∀ w ∈ wsX20, w ∈ wsX2_rings := by decide +kernel
  refine lv_iload_n hx hb dX2_rings_0 rfl (lv_at hl 1 rfl) ?_
  refine lv_iconst (v := 0) hx hb dX2_rings_1 (by decide) ?_
  refine lv_bipush (v := 7) hx hb dX2_rings_2 (by decide) ?_
  refine xc_T (As := [.int g, .int 0, .int 7]) (rest := []) ⟨hx, hb, hml, hown, hts⟩ (c_X2_in l g 0 7) (va_cwS 3 hts gX2_rings_X2_in rfl rfl rfl (by decide +kernel) ⟨Nat.le_of_ble_eq_true rfl, Nat.le_of_ble_eq_true rfl⟩) rfl hl.1 rfl (Nat.le_of_ble_eq_true rfl) dX2_rings_4 ⟨Nat.zero_le _, Nat.zero_le _⟩ ?_
  rw [in07]
  refine lv_if_eq (tgt := 28) hx hb dX2_rings_7 (by decide) (fun c_1 => ?_) (fun c_1 => ?_)
  · have c_1 := b2i_e c_1
    refine lv_iconst (v := -1) hx hb dX2_rings_28 (by decide) ?_
    exact xr_i hx hb hr hlk dX2_rings_29 (by cases hG9 : G (cn g) <;> simp_all [aRin, gsel])
  · have c_1 := b2i_n c_1
    refine lv_aload_n hx hb dX2_rings_10 rfl (lv_at hl 0 rfl) ?_
    refine va_get (D := D) (ci := 2) (v := .ref (a 3)) (C := RX2) (T := TX2) (N := 14) hx hb hts hiF hown hK hP 0 rfl rfl 6 (by decide) (hts (.fieldLink RX2 20 "TunerBenchModel" "isSet" "[Z") (by decide +kernel)) (fun _ h9 => h9) rfl dX2_rings_11 ?_
    refine lv_iload_n hx hb dX2_rings_14 rfl (lv_at hl 1 rfl) ?_
    refine va_zald (D := D) hx hb hK hP 3 1 rfl rfl (isG_in c_1) dX2_rings_15 ?_
    rw [show mis G (cn g) = b2i ((G (cn g)).isSome) from rfl]
    refine lv_if_eq (tgt := 28) hx hb dX2_rings_16 (by decide) (fun c_2 => ?_) (fun c_2 => ?_)
    · have c_2 := b2i_e c_2
      refine lv_iconst (v := -1) hx hb dX2_rings_28 (by decide) ?_
      exact xr_i hx hb hr hlk dX2_rings_29 (by cases hG9 : G (cn g) <;> simp_all [aRin, gsel])
    · have c_2 := b2i_n c_2
      refine lv_aload_n hx hb dX2_rings_19 rfl (lv_at hl 0 rfl) ?_
      refine va_get (D := D) (ci := 2) (v := .ref (a 10)) (C := RX2) (T := TX2) (N := 14) hx hb hts hiF hown hK hP 0 rfl rfl 13 (by decide) (hts (.fieldLink RX2 42 "TunerBenchModel" "rings" "[I") (by decide +kernel)) (fun _ h9 => h9) rfl dX2_rings_20 ?_
      refine lv_iload_n hx hb dX2_rings_23 rfl (lv_at hl 1 rfl) ?_
      refine va_iald (D := D) hx hb hK hP 10 0 rfl rfl (isG_in c_1) dX2_rings_24 ?_
      refine lv_goto (tgt := 29) hx hb dX2_rings_25 (by decide) ?_
      exact xr_i hx hb hr hlk dX2_rings_29 (by cases hG9 : G (cn g) <;> simp_all [aRin, gsel])
set_option maxHeartbeats 4000000 in
set_option maxRecDepth 100000 in
theorem c_X2_count (l : Launch) (D : va_G) (a : Nat → Nat) (cI cZ : ClassId) (v : Nat → Nat → Int32) (G : Nat → Option GT) (dn lt ch gn : Int32) (q : Int32) : Met l yX2_count wsX2_count ({ frames := 0, cells := 0, slots := 0, locals := 0 }) (xR D vwCl (mb a cI cZ v G dn lt ch gn) (mT cI cZ) xB0 [.ref (a 0), .int q]) (QcRead (aCnt dn lt gn ch q)) 0 0 (fun _ => False) := by
  refine xr_in (cc := cX2_count) (maxL := 2) (ret := (some .int)) (by decide) rfl (Nat.le_of_ble_eq_true rfl) ?_
  intro p e s m below meth c ls hx hb hr hml hts hown hlk hP hK hB hl
  have hown : s.vm.findClass RX2 = some m.cls := hown
  have hl : lv_has ls 2 [(0, .ref (a 0)), (1, .int q)] := hl
  have hiF : ∀ w ∈ wsX20, w ∈ wsX2_count := by decide +kernel
  refine lv_iload_n hx hb dX2_count_0 rfl (lv_at hl 1 rfl) ?_
  by_cases q_1 : q = 0
  · refine lv_tableIn (off := 31) (tgt := 32) hx hb dX2_count_1 (by rw [q_1]; decide) (by rw [q_1]; decide) (by rw [q_1]; rfl) (by decide) ?_
    refine lv_aload_n hx hb dX2_count_32 rfl (lv_at hl 0 rfl) ?_
    refine va_get (D := D) (ci := 2) (v := .int dn) (C := RX2) (T := TX2) (N := 14) hx hb hts hiF hown hK hP 0 rfl rfl 2 (by decide) (hts (.fieldLink RX2 76 "TunerBenchModel" "denials" "I") (by decide +kernel)) (fun _ h9 => h9) rfl dX2_count_33 ?_
    exact xr_i hx hb hr hlk dX2_count_36 (by simp [aCnt, q_1])
  by_cases q_2 : q = 1
  · refine lv_tableIn (off := 36) (tgt := 37) hx hb dX2_count_1 (by rw [q_2]; decide) (by rw [q_2]; decide) (by rw [q_2]; rfl) (by decide) ?_
    refine lv_aload_n hx hb dX2_count_37 rfl (lv_at hl 0 rfl) ?_
    refine va_get (D := D) (ci := 2) (v := .int lt) (C := RX2) (T := TX2) (N := 14) hx hb hts hiF hown hK hP 0 rfl rfl 3 (by decide) (hts (.fieldLink RX2 16 "TunerBenchModel" "latest" "I") (by decide +kernel)) (fun _ h9 => h9) rfl dX2_count_38 ?_
    exact xr_i hx hb hr hlk dX2_count_41 (by simp [aCnt, q_2])
  by_cases q_3 : q = 2
  · refine lv_tableIn (off := 41) (tgt := 42) hx hb dX2_count_1 (by rw [q_3]; decide) (by rw [q_3]; decide) (by rw [q_3]; rfl) (by decide) ?_
    refine lv_aload_n hx hb dX2_count_42 rfl (lv_at hl 0 rfl) ?_
    refine va_get (D := D) (ci := 2) (v := .int gn) (C := RX2) (T := TX2) (N := 14) hx hb hts hiF hown hK hP 0 rfl rfl 5 (by decide) (hts (.fieldLink RX2 85 "TunerBenchModel" "guards" "I") (by decide +kernel)) (fun _ h9 => h9) rfl dX2_count_43 ?_
    exact xr_i hx hb hr hlk dX2_count_46 (by simp [aCnt, q_3])
  by_cases q_4 : q = 3
  · refine lv_tableIn (off := 46) (tgt := 47) hx hb dX2_count_1 (by rw [q_4]; decide) (by rw [q_4]; decide) (by rw [q_4]; rfl) (by decide) ?_
    refine lv_aload_n hx hb dX2_count_47 rfl (lv_at hl 0 rfl) ?_
    refine va_get (D := D) (ci := 2) (v := .int ch) (C := RX2) (T := TX2) (N := 14) hx hb hts hiF hown hK hP 0 rfl rfl 4 (by decide) (hts (.fieldLink RX2 82 "TunerBenchModel" "changes" "I") (by decide +kernel)) (fun _ h9 => h9) rfl dX2_count_48 ?_
    exact xr_i hx hb hr hlk dX2_count_51 (by simp [aCnt, q_4])
  refine lv_tableOut (tgt := 52) hx hb dX2_count_1 (by simp only [i32_eq] at q_1 q_2 q_3 q_4; simp at q_1 q_2 q_3 q_4 ⊢; omega) (by decide) ?_
  refine lv_iconst (v := -1) hx hb dX2_count_52 (by decide) ?_
  exact xr_i hx hb hr hlk dX2_count_53 (by simp [aCnt, q_1, q_2, q_3, q_4])
def hGua (G : Nat → Option GT) (gn g w h x mo : Int32) : Int32 := if gB g w h x mo = true then gn + (if (G (cn g)).isSome = true then 0 else 1) else gn
theorem mis_up (G : Nat → Option GT) (g : Nat) (t : GT) : mis (va_up G g (some t)) = upd (mis G) g 1 := by
  funext j
  by_cases h : j = g
  · subst h; simp [mis, va_up, upd, b2i]
  · simp [mis, va_up, upd, h]
theorem mis_same {G : Nat → Option GT} {g : Nat} {t t' : GT} (h : G g = some t) : mis (va_up G g (some t')) = mis G := by
  funext j
  by_cases e : j = g
  · subst e; simp [mis, va_up, h]
  · simp [mis, va_up, e]
theorem gsel_same {G : Nat → Option GT} {g : Nat} {t t' : GT} {f : GT → Int32} (h : G g = some t) (hf : f t' = f t) : gsel (va_up G g (some t')) f = gsel G f := by
  funext j
  by_cases e : j = g
  · subst e; simp [gsel, va_up, h, hf]
  · simp [gsel, va_up, e]
theorem lkG_up {v : Nat → Nat → Int32} {G : Nat → Option GT} {k : Nat} {t : GT} (h : G k = some t) : lkG v G (k + 1) = va_up (lkG v G k) k (some (lnx v t)) := by
  funext g
  by_cases e : g = k
  · subst e; rw [lkG_k, h]; simp [va_up]
  · rw [lkG_s v G k g e]; simp [va_up, e]
theorem lkG_no {v : Nat → Nat → Int32} {G : Nat → Option GT} {k : Nat} (h : G k = none) : lkG v G (k + 1) = lkG v G k := by
  funext g
  by_cases e : g = k
  · subst e; rw [lkG_k, h]; simp [lkG, h]
  · exact lkG_s v G k g e
set_option maxHeartbeats 4000000 in
set_option maxRecDepth 100000 in
theorem c_X2_guard (l : Launch) (D : va_G) (a : Nat → Nat) (cI cZ : ClassId) (v : Nat → Nat → Int32) (G : Nat → Option GT) (dn lt ch gn : Int32) (sz : Nat) (g w h x mo : Int32) : Met l yX2_guard wsX2_guard ({ frames := 2, cells := 0, slots := 0, locals := 43 }) (xW D vwCl (mb a cI cZ v G dn lt ch gn) (mT cI cZ) xB0 sz [.ref (a 0), .int g, .int w, .int h, .int x, .int mo]) (xQ (S := Unit) D vwCl (fun r _ => r = b2i (gB g w h x mo)) (fun _ => mb a cI cZ v (nGua v G g w h x mo) dn lt ch (hGua G gn g w h x mo)) (fun _ => mT cI cZ) (va_A (mb a cI cZ v G dn lt ch gn) sz)) 0 0 (va_A (mb a cI cZ v G dn lt ch gn) sz) := by
  refine xw_in (Qf := xQ (S := Unit) D vwCl (fun r _ => r = b2i (gB g w h x mo)) (fun _ => mb a cI cZ v (nGua v G g w h x mo) dn lt ch (hGua G gn g w h x mo)) (fun _ => mT cI cZ)) (cc := cX2_guard) (maxL := 6) (ret := (some .boolean)) (by decide) rfl (Nat.le_of_ble_eq_true rfl) ?_
  intro p e s m below meth c ls A hx hb hr hml hts hown hlk hnm hA hP hK hD hS hB hl
  have hown : s.vm.findClass RX2 = some m.cls := hown
  have hl : lv_has ls 6 [(0, .ref (a 0)), (1, .int g), (2, .int w), (3, .int h), (4, .int x), (5, .int mo)] := hl
  have hiF : ∀ w ∈ wsX20, w ∈ wsX2_guard := by decide +kernel
  refine lv_iload_n hx hb dX2_guard_0 rfl (lv_at hl 1 rfl) ?_
  refine lv_iconst (v := 0) hx hb dX2_guard_1 (by decide) ?_
  refine lv_bipush (v := 7) hx hb dX2_guard_2 (by decide) ?_
  refine xc_T (As := [.int g, .int 0, .int 7]) (rest := []) ⟨hx, hb, hml, hown, hts⟩ (c_X2_in l g 0 7) (va_cwS 3 hts gX2_guard_X2_in rfl rfl rfl (by decide +kernel) ⟨Nat.le_of_ble_eq_true rfl, Nat.le_of_ble_eq_true rfl⟩) rfl hl.1 rfl (Nat.le_of_ble_eq_true rfl) dX2_guard_4 ⟨Nat.zero_le _, Nat.zero_le _⟩ ?_
  rw [in07]
  refine lv_if_eq (tgt := 36) hx hb dX2_guard_7 (by decide) (fun c_1 => ?_) (fun c_1 => ?_)
  · have c_1 := b2i_e c_1
    refine lv_iconst (v := 0) hx hb dX2_guard_36 (by decide) ?_
    have e1 : G = nGua v G g w h x mo := by simp [nGua, gB, c_1]
    have e2 : gn = hGua G gn g w h x mo := by simp [hGua, gB, c_1]
    rw [show (mb a cI cZ v G dn lt ch gn) = (mb a cI cZ v (nGua v G g w h x mo) dn lt ch (hGua G gn g w h x mo)) from by rw [← e1, ← e2]] at hP hD
    exact xw_z (S := Unit) () hx hb hr hlk dX2_guard_37 (by decide) hP hK hD hS (by simp [gB, b2i, c_1])
  · have c_1 := b2i_n c_1
    refine lv_iload_n hx hb dX2_guard_10 rfl (lv_at hl 2 rfl) ?_
    refine lv_iload_n hx hb dX2_guard_11 rfl (lv_at hl 3 rfl) ?_
    refine xc_T (As := [.int w, .int h]) (rest := []) ⟨hx, hb, hml, hown, hts⟩ (c_X2_isAsked l w h) (va_cwS 2 hts gX2_guard_X2_isAsked rfl rfl rfl (by decide +kernel) ⟨Nat.le_of_ble_eq_true rfl, Nat.le_of_ble_eq_true rfl⟩) rfl hl.1 rfl (Nat.le_of_ble_eq_true rfl) dX2_guard_12 ⟨Nat.zero_le _, Nat.zero_le _⟩ ?_
    refine lv_if_eq (tgt := 36) hx hb dX2_guard_15 (by decide) (fun c_2 => ?_) (fun c_2 => ?_)
    · have c_2 := b2i_e c_2
      refine lv_iconst (v := 0) hx hb dX2_guard_36 (by decide) ?_
      have e1 : G = nGua v G g w h x mo := by simp [nGua, gB, c_1, c_2]
      have e2 : gn = hGua G gn g w h x mo := by simp [hGua, gB, c_1, c_2]
      rw [show (mb a cI cZ v G dn lt ch gn) = (mb a cI cZ v (nGua v G g w h x mo) dn lt ch (hGua G gn g w h x mo)) from by rw [← e1, ← e2]] at hP hD
      exact xw_z (S := Unit) () hx hb hr hlk dX2_guard_37 (by decide) hP hK hD hS (by simp [gB, b2i, c_1, c_2])
    · have c_2 := b2i_n c_2
      refine lv_iload hx hb dX2_guard_18 (lv_at hl 4 rfl) ?_
      refine xc_T (As := [.int x]) (rest := []) ⟨hx, hb, hml, hown, hts⟩ (c_X2_isString l x) (va_cwS 1 hts gX2_guard_X2_isString rfl rfl rfl (by decide +kernel) ⟨Nat.le_of_ble_eq_true rfl, Nat.le_of_ble_eq_true rfl⟩) rfl hl.1 rfl (Nat.le_of_ble_eq_true rfl) dX2_guard_20 ⟨Nat.zero_le _, Nat.zero_le _⟩ ?_
      refine lv_if_eq (tgt := 36) hx hb dX2_guard_23 (by decide) (fun c_3 => ?_) (fun c_3 => ?_)
      · have c_3 := b2i_e c_3
        refine lv_iconst (v := 0) hx hb dX2_guard_36 (by decide) ?_
        have e1 : G = nGua v G g w h x mo := by simp [nGua, gB, c_1, c_2, c_3]
        have e2 : gn = hGua G gn g w h x mo := by simp [hGua, gB, c_1, c_2, c_3]
        rw [show (mb a cI cZ v G dn lt ch gn) = (mb a cI cZ v (nGua v G g w h x mo) dn lt ch (hGua G gn g w h x mo)) from by rw [← e1, ← e2]] at hP hD
        exact xw_z (S := Unit) () hx hb hr hlk dX2_guard_37 (by decide) hP hK hD hS (by simp [gB, b2i, c_1, c_2, c_3])
      · have c_3 := b2i_n c_3
        refine lv_iload hx hb dX2_guard_26 (lv_at hl 5 rfl) ?_
        refine lv_iconst (v := 0) hx hb dX2_guard_28 (by decide) ?_
        refine lv_iconst (v := 2) hx hb dX2_guard_29 (by decide) ?_
        refine xc_T (As := [.int mo, .int 0, .int 2]) (rest := []) ⟨hx, hb, hml, hown, hts⟩ (c_X2_in l mo 0 2) (va_cwS 3 hts gX2_guard_X2_in rfl rfl rfl (by decide +kernel) ⟨Nat.le_of_ble_eq_true rfl, Nat.le_of_ble_eq_true rfl⟩) rfl hl.1 rfl (Nat.le_of_ble_eq_true rfl) dX2_guard_30 ⟨Nat.zero_le _, Nat.zero_le _⟩ ?_
        rw [in02]
        refine lv_if_ne (tgt := 38) hx hb dX2_guard_33 (by decide) (fun c_4 => ?_) (fun c_4 => ?_)
        · have c_4 := b2i_n c_4
          refine lv_aload_n hx hb dX2_guard_38 rfl (lv_at hl 0 rfl) ?_
          refine lv_dup hx hb dX2_guard_39 rfl ?_
          refine va_get (D := D) (ci := 2) (v := .int gn) (C := RX2) (T := TX2) (N := 14) hx hb hts hiF hown hK hP 0 rfl rfl 5 (by decide) (hts (.fieldLink RX2 85 "TunerBenchModel" "guards" "I") (by decide +kernel)) (fun _ h9 => h9) rfl dX2_guard_40 ?_
          refine lv_aload_n hx hb dX2_guard_43 rfl (lv_at hl 0 rfl) ?_
          refine va_get (D := D) (ci := 2) (v := .ref (a 3)) (C := RX2) (T := TX2) (N := 14) hx hb hts hiF hown hK hP 0 rfl rfl 6 (by decide) (hts (.fieldLink RX2 20 "TunerBenchModel" "isSet" "[Z") (by decide +kernel)) (fun _ h9 => h9) rfl dX2_guard_44 ?_
          refine lv_iload_n hx hb dX2_guard_47 rfl (lv_at hl 1 rfl) ?_
          refine va_zald (D := D) hx hb hK hP 3 1 rfl rfl (isG_in c_1) dX2_guard_48 ?_
          rw [show mis G (cn g) = b2i ((G (cn g)).isSome) from rfl]
          refine lv_if_eq (tgt := 56) hx hb dX2_guard_49 (by decide) (fun c_5 => ?_) (fun c_5 => ?_)
          · have c_5 := b2i_e c_5
            refine lv_iconst (v := 1) hx hb dX2_guard_56 (by decide) ?_
            refine lv_iadd hx hb dX2_guard_57 ?_
            refine va_put (D := D) (ci := 2) (v := .int (gn + 1)) (ty := .int) (C := RX2) (T := TX2) (N := 14) hx hb hts hiF tyX2 tyX2_ok nmX2 hown hK hP hD hS 0 rfl rfl 5 (by decide) (hts (.fieldLink RX2 85 "TunerBenchModel" "guards" "I") (by decide +kernel)) (fun _ h9 => h9) rfl (by decide +kernel) rfl rfl (Nat.le_of_ble_eq_true rfl) dX2_guard_58 (fun H locs hP hD hS => ?_)
            have hP : va_P D vwCl (mb a cI cZ v G dn lt ch (gn + 1)) H := hP
            have hD : va_D A (mb a cI cZ v G dn lt ch (gn + 1)) := hD
            refine lv_aload_n hx hb dX2_guard_61 rfl (lv_at hl 0 rfl) ?_
            refine va_get (D := D) (ci := 2) (v := .ref (a 3)) (C := RX2) (T := TX2) (N := 14) hx hb hts hiF hown hK hP 0 rfl rfl 6 (by decide) (hts (.fieldLink RX2 20 "TunerBenchModel" "isSet" "[Z") (by decide +kernel)) (fun _ h9 => h9) rfl dX2_guard_62 ?_
            refine lv_iload_n hx hb dX2_guard_65 rfl (lv_at hl 1 rfl) ?_
            refine lv_iconst (v := 1) hx hb dX2_guard_66 (by decide) ?_
            refine va_zast (D := D) hx hb hK hP hD hS 3 1 rfl rfl (isG_in c_1) dX2_guard_67 (fun H locs hP hD hS => ?_)
            rw [show vp_nar .boolean 1 = 1 from by decide] at hP hD
            have hP : va_P D vwCl (mw a cI cZ (mso v) (mqu v) (upd (mis G) (cn g) 1) (mwh G) (mho G) (mmo G) (mks G) (mkq G) (mdi G) (mri G) dn lt ch (gn + 1)) H := hP
            have hD : va_D A (mw a cI cZ (mso v) (mqu v) (upd (mis G) (cn g) 1) (mwh G) (mho G) (mmo G) (mks G) (mkq G) (mdi G) (mri G) dn lt ch (gn + 1)) := hD
            refine lv_aload_n hx hb dX2_guard_68 rfl (lv_at hl 0 rfl) ?_
            refine va_get (D := D) (ci := 2) (v := .ref (a 4)) (C := RX2) (T := TX2) (N := 14) hx hb hts hiF hown hK hP 0 rfl rfl 7 (by decide) (hts (.fieldLink RX2 24 "TunerBenchModel" "what" "[I") (by decide +kernel)) (fun _ h9 => h9) rfl dX2_guard_69 ?_
            refine lv_iload_n hx hb dX2_guard_72 rfl (lv_at hl 1 rfl) ?_
            refine lv_iload_n hx hb dX2_guard_73 rfl (lv_at hl 2 rfl) ?_
            refine va_iast (D := D) hx hb hK hP hD hS 4 0 rfl rfl (isG_in c_1) dX2_guard_74 (fun H locs hP hD hS => ?_)
            have hP : va_P D vwCl (mw a cI cZ (mso v) (mqu v) (upd (mis G) (cn g) 1) (upd (mwh G) (cn g) w) (mho G) (mmo G) (mks G) (mkq G) (mdi G) (mri G) dn lt ch (gn + 1)) H := hP
            have hD : va_D A (mw a cI cZ (mso v) (mqu v) (upd (mis G) (cn g) 1) (upd (mwh G) (cn g) w) (mho G) (mmo G) (mks G) (mkq G) (mdi G) (mri G) dn lt ch (gn + 1)) := hD
            refine lv_aload_n hx hb dX2_guard_75 rfl (lv_at hl 0 rfl) ?_
            refine va_get (D := D) (ci := 2) (v := .ref (a 5)) (C := RX2) (T := TX2) (N := 14) hx hb hts hiF hown hK hP 0 rfl rfl 8 (by decide) (hts (.fieldLink RX2 27 "TunerBenchModel" "how" "[I") (by decide +kernel)) (fun _ h9 => h9) rfl dX2_guard_76 ?_
            refine lv_iload_n hx hb dX2_guard_79 rfl (lv_at hl 1 rfl) ?_
            refine lv_iload_n hx hb dX2_guard_80 rfl (lv_at hl 3 rfl) ?_
            refine va_iast (D := D) hx hb hK hP hD hS 5 0 rfl rfl (isG_in c_1) dX2_guard_81 (fun H locs hP hD hS => ?_)
            have hP : va_P D vwCl (mw a cI cZ (mso v) (mqu v) (upd (mis G) (cn g) 1) (upd (mwh G) (cn g) w) (upd (mho G) (cn g) h) (mmo G) (mks G) (mkq G) (mdi G) (mri G) dn lt ch (gn + 1)) H := hP
            have hD : va_D A (mw a cI cZ (mso v) (mqu v) (upd (mis G) (cn g) 1) (upd (mwh G) (cn g) w) (upd (mho G) (cn g) h) (mmo G) (mks G) (mkq G) (mdi G) (mri G) dn lt ch (gn + 1)) := hD
            refine lv_aload_n hx hb dX2_guard_82 rfl (lv_at hl 0 rfl) ?_
            refine va_get (D := D) (ci := 2) (v := .ref (a 6)) (C := RX2) (T := TX2) (N := 14) hx hb hts hiF hown hK hP 0 rfl rfl 9 (by decide) (hts (.fieldLink RX2 30 "TunerBenchModel" "mode" "[I") (by decide +kernel)) (fun _ h9 => h9) rfl dX2_guard_83 ?_
            refine lv_iload_n hx hb dX2_guard_86 rfl (lv_at hl 1 rfl) ?_
            refine lv_iload hx hb dX2_guard_87 (lv_at hl 5 rfl) ?_
            refine va_iast (D := D) hx hb hK hP hD hS 6 0 rfl rfl (isG_in c_1) dX2_guard_89 (fun H locs hP hD hS => ?_)
            have hP : va_P D vwCl (mw a cI cZ (mso v) (mqu v) (upd (mis G) (cn g) 1) (upd (mwh G) (cn g) w) (upd (mho G) (cn g) h) (upd (mmo G) (cn g) mo) (mks G) (mkq G) (mdi G) (mri G) dn lt ch (gn + 1)) H := hP
            have hD : va_D A (mw a cI cZ (mso v) (mqu v) (upd (mis G) (cn g) 1) (upd (mwh G) (cn g) w) (upd (mho G) (cn g) h) (upd (mmo G) (cn g) mo) (mks G) (mkq G) (mdi G) (mri G) dn lt ch (gn + 1)) := hD
            refine lv_aload_n hx hb dX2_guard_90 rfl (lv_at hl 0 rfl) ?_
            refine va_get (D := D) (ci := 2) (v := .ref (a 7)) (C := RX2) (T := TX2) (N := 14) hx hb hts hiF hown hK hP 0 rfl rfl 10 (by decide) (hts (.fieldLink RX2 33 "TunerBenchModel" "keptSort" "[I") (by decide +kernel)) (fun _ h9 => h9) rfl dX2_guard_91 ?_
            refine lv_iload_n hx hb dX2_guard_94 rfl (lv_at hl 1 rfl) ?_
            refine lv_aload_n hx hb dX2_guard_95 rfl (lv_at hl 0 rfl) ?_
            refine va_get (D := D) (ci := 2) (v := .ref (a 1)) (C := RX2) (T := TX2) (N := 14) hx hb hts hiF hown hK hP 0 rfl rfl 0 (by decide) (hts (.fieldLink RX2 7 "TunerBenchModel" "sorts" "[I") (by decide +kernel)) (fun _ h9 => h9) rfl dX2_guard_96 ?_
            refine lv_iload_n hx hb dX2_guard_99 rfl (lv_at hl 2 rfl) ?_
            refine lv_iload hx hb dX2_guard_100 (lv_at hl 4 rfl) ?_
            refine xc_T (As := [.int w, .int x]) (rest := [.ref (a 1), .int g, .ref (a 7)]) ⟨hx, hb, hml, hown, hts⟩ (c_X2_at l w x) (va_cwS 2 hts gX2_guard_X2_at rfl rfl rfl (by decide +kernel) ⟨Nat.le_of_ble_eq_true rfl, Nat.le_of_ble_eq_true rfl⟩) rfl hl.1 rfl (Nat.le_of_ble_eq_true rfl) dX2_guard_102 ⟨Nat.zero_le _, Nat.zero_le _⟩ ?_
            refine va_iald (D := D) hx hb hK hP 1 0 rfl rfl (at_in (isQ_w c_2) (isF_in (isS_F c_3))) dX2_guard_105 ?_
            rw [at_cn (isQ_w c_2) (isF_in (isS_F c_3)), mso_at v (vp_lt (isF_in (isS_F c_3)))]
            refine va_iast (D := D) hx hb hK hP hD hS 7 0 rfl rfl (isG_in c_1) dX2_guard_106 (fun H locs hP hD hS => ?_)
            have hP : va_P D vwCl (mw a cI cZ (mso v) (mqu v) (upd (mis G) (cn g) 1) (upd (mwh G) (cn g) w) (upd (mho G) (cn g) h) (upd (mmo G) (cn g) mo) (upd (mks G) (cn g) (srtF (v (cn w) (cn x)))) (mkq G) (mdi G) (mri G) dn lt ch (gn + 1)) H := hP
            have hD : va_D A (mw a cI cZ (mso v) (mqu v) (upd (mis G) (cn g) 1) (upd (mwh G) (cn g) w) (upd (mho G) (cn g) h) (upd (mmo G) (cn g) mo) (upd (mks G) (cn g) (srtF (v (cn w) (cn x)))) (mkq G) (mdi G) (mri G) dn lt ch (gn + 1)) := hD
            refine lv_aload_n hx hb dX2_guard_107 rfl (lv_at hl 0 rfl) ?_
            refine va_get (D := D) (ci := 2) (v := .ref (a 8)) (C := RX2) (T := TX2) (N := 14) hx hb hts hiF hown hK hP 0 rfl rfl 11 (by decide) (hts (.fieldLink RX2 36 "TunerBenchModel" "keptQuarters" "[I") (by decide +kernel)) (fun _ h9 => h9) rfl dX2_guard_108 ?_
            refine lv_iload_n hx hb dX2_guard_111 rfl (lv_at hl 1 rfl) ?_
            refine lv_aload_n hx hb dX2_guard_112 rfl (lv_at hl 0 rfl) ?_
            refine va_get (D := D) (ci := 2) (v := .ref (a 2)) (C := RX2) (T := TX2) (N := 14) hx hb hts hiF hown hK hP 0 rfl rfl 1 (by decide) (hts (.fieldLink RX2 13 "TunerBenchModel" "quarters" "[I") (by decide +kernel)) (fun _ h9 => h9) rfl dX2_guard_113 ?_
            refine lv_iload_n hx hb dX2_guard_116 rfl (lv_at hl 2 rfl) ?_
            refine lv_iload hx hb dX2_guard_117 (lv_at hl 4 rfl) ?_
            refine xc_T (As := [.int w, .int x]) (rest := [.ref (a 2), .int g, .ref (a 8)]) ⟨hx, hb, hml, hown, hts⟩ (c_X2_at l w x) (va_cwS 2 hts gX2_guard_X2_at rfl rfl rfl (by decide +kernel) ⟨Nat.le_of_ble_eq_true rfl, Nat.le_of_ble_eq_true rfl⟩) rfl hl.1 rfl (Nat.le_of_ble_eq_true rfl) dX2_guard_119 ⟨Nat.zero_le _, Nat.zero_le _⟩ ?_
            refine va_iald (D := D) hx hb hK hP 2 0 rfl rfl (at_in (isQ_w c_2) (isF_in (isS_F c_3))) dX2_guard_122 ?_
            rw [at_cn (isQ_w c_2) (isF_in (isS_F c_3)), mqu_at v (vp_lt (isF_in (isS_F c_3)))]
            refine va_iast (D := D) hx hb hK hP hD hS 8 0 rfl rfl (isG_in c_1) dX2_guard_123 (fun H locs hP hD hS => ?_)
            have hP : va_P D vwCl (mw a cI cZ (mso v) (mqu v) (upd (mis G) (cn g) 1) (upd (mwh G) (cn g) w) (upd (mho G) (cn g) h) (upd (mmo G) (cn g) mo) (upd (mks G) (cn g) (srtF (v (cn w) (cn x)))) (upd (mkq G) (cn g) (qrtF (v (cn w) (cn x)))) (mdi G) (mri G) dn lt ch (gn + 1)) H := hP
            have hD : va_D A (mw a cI cZ (mso v) (mqu v) (upd (mis G) (cn g) 1) (upd (mwh G) (cn g) w) (upd (mho G) (cn g) h) (upd (mmo G) (cn g) mo) (upd (mks G) (cn g) (srtF (v (cn w) (cn x)))) (upd (mkq G) (cn g) (qrtF (v (cn w) (cn x)))) (mdi G) (mri G) dn lt ch (gn + 1)) := hD
            refine lv_aload_n hx hb dX2_guard_124 rfl (lv_at hl 0 rfl) ?_
            refine va_get (D := D) (ci := 2) (v := .ref (a 9)) (C := RX2) (T := TX2) (N := 14) hx hb hts hiF hown hK hP 0 rfl rfl 12 (by decide) (hts (.fieldLink RX2 39 "TunerBenchModel" "did" "[Z") (by decide +kernel)) (fun _ h9 => h9) rfl dX2_guard_125 ?_
            refine lv_iload_n hx hb dX2_guard_128 rfl (lv_at hl 1 rfl) ?_
            refine lv_iconst (v := 0) hx hb dX2_guard_129 (by decide) ?_
            refine va_zast (D := D) hx hb hK hP hD hS 9 1 rfl rfl (isG_in c_1) dX2_guard_130 (fun H locs hP hD hS => ?_)
            rw [show vp_nar .boolean 0 = 0 from by decide] at hP hD
            have hP : va_P D vwCl (mw a cI cZ (mso v) (mqu v) (upd (mis G) (cn g) 1) (upd (mwh G) (cn g) w) (upd (mho G) (cn g) h) (upd (mmo G) (cn g) mo) (upd (mks G) (cn g) (srtF (v (cn w) (cn x)))) (upd (mkq G) (cn g) (qrtF (v (cn w) (cn x)))) (upd (mdi G) (cn g) 0) (mri G) dn lt ch (gn + 1)) H := hP
            have hD : va_D A (mw a cI cZ (mso v) (mqu v) (upd (mis G) (cn g) 1) (upd (mwh G) (cn g) w) (upd (mho G) (cn g) h) (upd (mmo G) (cn g) mo) (upd (mks G) (cn g) (srtF (v (cn w) (cn x)))) (upd (mkq G) (cn g) (qrtF (v (cn w) (cn x)))) (upd (mdi G) (cn g) 0) (mri G) dn lt ch (gn + 1)) := hD
            refine lv_aload_n hx hb dX2_guard_131 rfl (lv_at hl 0 rfl) ?_
            refine va_get (D := D) (ci := 2) (v := .ref (a 10)) (C := RX2) (T := TX2) (N := 14) hx hb hts hiF hown hK hP 0 rfl rfl 13 (by decide) (hts (.fieldLink RX2 42 "TunerBenchModel" "rings" "[I") (by decide +kernel)) (fun _ h9 => h9) rfl dX2_guard_132 ?_
            refine lv_iload_n hx hb dX2_guard_135 rfl (lv_at hl 1 rfl) ?_
            refine lv_iconst (v := 0) hx hb dX2_guard_136 (by decide) ?_
            refine va_iast (D := D) hx hb hK hP hD hS 10 0 rfl rfl (isG_in c_1) dX2_guard_137 (fun H locs hP hD hS => ?_)
            have hP : va_P D vwCl (mw a cI cZ (mso v) (mqu v) (upd (mis G) (cn g) 1) (upd (mwh G) (cn g) w) (upd (mho G) (cn g) h) (upd (mmo G) (cn g) mo) (upd (mks G) (cn g) (srtF (v (cn w) (cn x)))) (upd (mkq G) (cn g) (qrtF (v (cn w) (cn x)))) (upd (mdi G) (cn g) 0) (upd (mri G) (cn g) 0) dn lt ch (gn + 1)) H := hP
            have hD : va_D A (mw a cI cZ (mso v) (mqu v) (upd (mis G) (cn g) 1) (upd (mwh G) (cn g) w) (upd (mho G) (cn g) h) (upd (mmo G) (cn g) mo) (upd (mks G) (cn g) (srtF (v (cn w) (cn x)))) (upd (mkq G) (cn g) (qrtF (v (cn w) (cn x)))) (upd (mdi G) (cn g) 0) (upd (mri G) (cn g) 0) dn lt ch (gn + 1)) := hD
            refine lv_iconst (v := 1) hx hb dX2_guard_138 (by decide) ?_
            have hok : gB g w h x mo = true := by simp [gB, c_1, c_2, c_3, c_4, c_5]
            have e1 : nGua v G g w h x mo = va_up G (cn g) (some (w, h, v (cn w) (cn x), mo, false, 0)) := by simp only [nGua, hok, if_true]
            have e2 : gn + 1 = hGua G gn g w h x mo := by simp [hGua, hok, c_5]
            have hP : va_P D vwCl (mb a cI cZ v (nGua v G g w h x mo) dn lt ch (hGua G gn g w h x mo)) H := by rw [e1, ← e2, mb, mis_up, mwh, mho, mmo, mks, mkq, mdi, mri]; simp only [gsel_up]; exact hP
            have hD : va_D A (mb a cI cZ v (nGua v G g w h x mo) dn lt ch (hGua G gn g w h x mo)) := xd_ad hD rfl
            exact xw_z (S := Unit) () hx hb hr hlk dX2_guard_139 (by decide) hP hK hD hS (by rw [hok]; rfl)
          · have c_5 := b2i_n c_5
            refine lv_iconst (v := 0) hx hb dX2_guard_52 (by decide) ?_
            refine lv_goto (tgt := 57) hx hb dX2_guard_53 (by decide) ?_
            refine lv_iadd hx hb dX2_guard_57 ?_
            refine va_put (D := D) (ci := 2) (v := .int (gn + 0)) (ty := .int) (C := RX2) (T := TX2) (N := 14) hx hb hts hiF tyX2 tyX2_ok nmX2 hown hK hP hD hS 0 rfl rfl 5 (by decide) (hts (.fieldLink RX2 85 "TunerBenchModel" "guards" "I") (by decide +kernel)) (fun _ h9 => h9) rfl (by decide +kernel) rfl rfl (Nat.le_of_ble_eq_true rfl) dX2_guard_58 (fun H locs hP hD hS => ?_)
            have hP : va_P D vwCl (mb a cI cZ v G dn lt ch (gn + 0)) H := hP
            have hD : va_D A (mb a cI cZ v G dn lt ch (gn + 0)) := hD
            refine lv_aload_n hx hb dX2_guard_61 rfl (lv_at hl 0 rfl) ?_
            refine va_get (D := D) (ci := 2) (v := .ref (a 3)) (C := RX2) (T := TX2) (N := 14) hx hb hts hiF hown hK hP 0 rfl rfl 6 (by decide) (hts (.fieldLink RX2 20 "TunerBenchModel" "isSet" "[Z") (by decide +kernel)) (fun _ h9 => h9) rfl dX2_guard_62 ?_
            refine lv_iload_n hx hb dX2_guard_65 rfl (lv_at hl 1 rfl) ?_
            refine lv_iconst (v := 1) hx hb dX2_guard_66 (by decide) ?_
            refine va_zast (D := D) hx hb hK hP hD hS 3 1 rfl rfl (isG_in c_1) dX2_guard_67 (fun H locs hP hD hS => ?_)
            rw [show vp_nar .boolean 1 = 1 from by decide] at hP hD
            have hP : va_P D vwCl (mw a cI cZ (mso v) (mqu v) (upd (mis G) (cn g) 1) (mwh G) (mho G) (mmo G) (mks G) (mkq G) (mdi G) (mri G) dn lt ch (gn + 0)) H := hP
            have hD : va_D A (mw a cI cZ (mso v) (mqu v) (upd (mis G) (cn g) 1) (mwh G) (mho G) (mmo G) (mks G) (mkq G) (mdi G) (mri G) dn lt ch (gn + 0)) := hD
            refine lv_aload_n hx hb dX2_guard_68 rfl (lv_at hl 0 rfl) ?_
            refine va_get (D := D) (ci := 2) (v := .ref (a 4)) (C := RX2) (T := TX2) (N := 14) hx hb hts hiF hown hK hP 0 rfl rfl 7 (by decide) (hts (.fieldLink RX2 24 "TunerBenchModel" "what" "[I") (by decide +kernel)) (fun _ h9 => h9) rfl dX2_guard_69 ?_
            refine lv_iload_n hx hb dX2_guard_72 rfl (lv_at hl 1 rfl) ?_
            refine lv_iload_n hx hb dX2_guard_73 rfl (lv_at hl 2 rfl) ?_
            refine va_iast (D := D) hx hb hK hP hD hS 4 0 rfl rfl (isG_in c_1) dX2_guard_74 (fun H locs hP hD hS => ?_)
            have hP : va_P D vwCl (mw a cI cZ (mso v) (mqu v) (upd (mis G) (cn g) 1) (upd (mwh G) (cn g) w) (mho G) (mmo G) (mks G) (mkq G) (mdi G) (mri G) dn lt ch (gn + 0)) H := hP
            have hD : va_D A (mw a cI cZ (mso v) (mqu v) (upd (mis G) (cn g) 1) (upd (mwh G) (cn g) w) (mho G) (mmo G) (mks G) (mkq G) (mdi G) (mri G) dn lt ch (gn + 0)) := hD
            refine lv_aload_n hx hb dX2_guard_75 rfl (lv_at hl 0 rfl) ?_
            refine va_get (D := D) (ci := 2) (v := .ref (a 5)) (C := RX2) (T := TX2) (N := 14) hx hb hts hiF hown hK hP 0 rfl rfl 8 (by decide) (hts (.fieldLink RX2 27 "TunerBenchModel" "how" "[I") (by decide +kernel)) (fun _ h9 => h9) rfl dX2_guard_76 ?_
            refine lv_iload_n hx hb dX2_guard_79 rfl (lv_at hl 1 rfl) ?_
            refine lv_iload_n hx hb dX2_guard_80 rfl (lv_at hl 3 rfl) ?_
            refine va_iast (D := D) hx hb hK hP hD hS 5 0 rfl rfl (isG_in c_1) dX2_guard_81 (fun H locs hP hD hS => ?_)
            have hP : va_P D vwCl (mw a cI cZ (mso v) (mqu v) (upd (mis G) (cn g) 1) (upd (mwh G) (cn g) w) (upd (mho G) (cn g) h) (mmo G) (mks G) (mkq G) (mdi G) (mri G) dn lt ch (gn + 0)) H := hP
            have hD : va_D A (mw a cI cZ (mso v) (mqu v) (upd (mis G) (cn g) 1) (upd (mwh G) (cn g) w) (upd (mho G) (cn g) h) (mmo G) (mks G) (mkq G) (mdi G) (mri G) dn lt ch (gn + 0)) := hD
            refine lv_aload_n hx hb dX2_guard_82 rfl (lv_at hl 0 rfl) ?_
            refine va_get (D := D) (ci := 2) (v := .ref (a 6)) (C := RX2) (T := TX2) (N := 14) hx hb hts hiF hown hK hP 0 rfl rfl 9 (by decide) (hts (.fieldLink RX2 30 "TunerBenchModel" "mode" "[I") (by decide +kernel)) (fun _ h9 => h9) rfl dX2_guard_83 ?_
            refine lv_iload_n hx hb dX2_guard_86 rfl (lv_at hl 1 rfl) ?_
            refine lv_iload hx hb dX2_guard_87 (lv_at hl 5 rfl) ?_
            refine va_iast (D := D) hx hb hK hP hD hS 6 0 rfl rfl (isG_in c_1) dX2_guard_89 (fun H locs hP hD hS => ?_)
            have hP : va_P D vwCl (mw a cI cZ (mso v) (mqu v) (upd (mis G) (cn g) 1) (upd (mwh G) (cn g) w) (upd (mho G) (cn g) h) (upd (mmo G) (cn g) mo) (mks G) (mkq G) (mdi G) (mri G) dn lt ch (gn + 0)) H := hP
            have hD : va_D A (mw a cI cZ (mso v) (mqu v) (upd (mis G) (cn g) 1) (upd (mwh G) (cn g) w) (upd (mho G) (cn g) h) (upd (mmo G) (cn g) mo) (mks G) (mkq G) (mdi G) (mri G) dn lt ch (gn + 0)) := hD
            refine lv_aload_n hx hb dX2_guard_90 rfl (lv_at hl 0 rfl) ?_
            refine va_get (D := D) (ci := 2) (v := .ref (a 7)) (C := RX2) (T := TX2) (N := 14) hx hb hts hiF hown hK hP 0 rfl rfl 10 (by decide) (hts (.fieldLink RX2 33 "TunerBenchModel" "keptSort" "[I") (by decide +kernel)) (fun _ h9 => h9) rfl dX2_guard_91 ?_
            refine lv_iload_n hx hb dX2_guard_94 rfl (lv_at hl 1 rfl) ?_
            refine lv_aload_n hx hb dX2_guard_95 rfl (lv_at hl 0 rfl) ?_
            refine va_get (D := D) (ci := 2) (v := .ref (a 1)) (C := RX2) (T := TX2) (N := 14) hx hb hts hiF hown hK hP 0 rfl rfl 0 (by decide) (hts (.fieldLink RX2 7 "TunerBenchModel" "sorts" "[I") (by decide +kernel)) (fun _ h9 => h9) rfl dX2_guard_96 ?_
            refine lv_iload_n hx hb dX2_guard_99 rfl (lv_at hl 2 rfl) ?_
            refine lv_iload hx hb dX2_guard_100 (lv_at hl 4 rfl) ?_
            refine xc_T (As := [.int w, .int x]) (rest := [.ref (a 1), .int g, .ref (a 7)]) ⟨hx, hb, hml, hown, hts⟩ (c_X2_at l w x) (va_cwS 2 hts gX2_guard_X2_at rfl rfl rfl (by decide +kernel) ⟨Nat.le_of_ble_eq_true rfl, Nat.le_of_ble_eq_true rfl⟩) rfl hl.1 rfl (Nat.le_of_ble_eq_true rfl) dX2_guard_102 ⟨Nat.zero_le _, Nat.zero_le _⟩ ?_
            refine va_iald (D := D) hx hb hK hP 1 0 rfl rfl (at_in (isQ_w c_2) (isF_in (isS_F c_3))) dX2_guard_105 ?_
            rw [at_cn (isQ_w c_2) (isF_in (isS_F c_3)), mso_at v (vp_lt (isF_in (isS_F c_3)))]
            refine va_iast (D := D) hx hb hK hP hD hS 7 0 rfl rfl (isG_in c_1) dX2_guard_106 (fun H locs hP hD hS => ?_)
            have hP : va_P D vwCl (mw a cI cZ (mso v) (mqu v) (upd (mis G) (cn g) 1) (upd (mwh G) (cn g) w) (upd (mho G) (cn g) h) (upd (mmo G) (cn g) mo) (upd (mks G) (cn g) (srtF (v (cn w) (cn x)))) (mkq G) (mdi G) (mri G) dn lt ch (gn + 0)) H := hP
            have hD : va_D A (mw a cI cZ (mso v) (mqu v) (upd (mis G) (cn g) 1) (upd (mwh G) (cn g) w) (upd (mho G) (cn g) h) (upd (mmo G) (cn g) mo) (upd (mks G) (cn g) (srtF (v (cn w) (cn x)))) (mkq G) (mdi G) (mri G) dn lt ch (gn + 0)) := hD
            refine lv_aload_n hx hb dX2_guard_107 rfl (lv_at hl 0 rfl) ?_
            refine va_get (D := D) (ci := 2) (v := .ref (a 8)) (C := RX2) (T := TX2) (N := 14) hx hb hts hiF hown hK hP 0 rfl rfl 11 (by decide) (hts (.fieldLink RX2 36 "TunerBenchModel" "keptQuarters" "[I") (by decide +kernel)) (fun _ h9 => h9) rfl dX2_guard_108 ?_
            refine lv_iload_n hx hb dX2_guard_111 rfl (lv_at hl 1 rfl) ?_
            refine lv_aload_n hx hb dX2_guard_112 rfl (lv_at hl 0 rfl) ?_
            refine va_get (D := D) (ci := 2) (v := .ref (a 2)) (C := RX2) (T := TX2) (N := 14) hx hb hts hiF hown hK hP 0 rfl rfl 1 (by decide) (hts (.fieldLink RX2 13 "TunerBenchModel" "quarters" "[I") (by decide +kernel)) (fun _ h9 => h9) rfl dX2_guard_113 ?_
            refine lv_iload_n hx hb dX2_guard_116 rfl (lv_at hl 2 rfl) ?_
            refine lv_iload hx hb dX2_guard_117 (lv_at hl 4 rfl) ?_
            refine xc_T (As := [.int w, .int x]) (rest := [.ref (a 2), .int g, .ref (a 8)]) ⟨hx, hb, hml, hown, hts⟩ (c_X2_at l w x) (va_cwS 2 hts gX2_guard_X2_at rfl rfl rfl (by decide +kernel) ⟨Nat.le_of_ble_eq_true rfl, Nat.le_of_ble_eq_true rfl⟩) rfl hl.1 rfl (Nat.le_of_ble_eq_true rfl) dX2_guard_119 ⟨Nat.zero_le _, Nat.zero_le _⟩ ?_
            refine va_iald (D := D) hx hb hK hP 2 0 rfl rfl (at_in (isQ_w c_2) (isF_in (isS_F c_3))) dX2_guard_122 ?_
            rw [at_cn (isQ_w c_2) (isF_in (isS_F c_3)), mqu_at v (vp_lt (isF_in (isS_F c_3)))]
            refine va_iast (D := D) hx hb hK hP hD hS 8 0 rfl rfl (isG_in c_1) dX2_guard_123 (fun H locs hP hD hS => ?_)
            have hP : va_P D vwCl (mw a cI cZ (mso v) (mqu v) (upd (mis G) (cn g) 1) (upd (mwh G) (cn g) w) (upd (mho G) (cn g) h) (upd (mmo G) (cn g) mo) (upd (mks G) (cn g) (srtF (v (cn w) (cn x)))) (upd (mkq G) (cn g) (qrtF (v (cn w) (cn x)))) (mdi G) (mri G) dn lt ch (gn + 0)) H := hP
            have hD : va_D A (mw a cI cZ (mso v) (mqu v) (upd (mis G) (cn g) 1) (upd (mwh G) (cn g) w) (upd (mho G) (cn g) h) (upd (mmo G) (cn g) mo) (upd (mks G) (cn g) (srtF (v (cn w) (cn x)))) (upd (mkq G) (cn g) (qrtF (v (cn w) (cn x)))) (mdi G) (mri G) dn lt ch (gn + 0)) := hD
            refine lv_aload_n hx hb dX2_guard_124 rfl (lv_at hl 0 rfl) ?_
            refine va_get (D := D) (ci := 2) (v := .ref (a 9)) (C := RX2) (T := TX2) (N := 14) hx hb hts hiF hown hK hP 0 rfl rfl 12 (by decide) (hts (.fieldLink RX2 39 "TunerBenchModel" "did" "[Z") (by decide +kernel)) (fun _ h9 => h9) rfl dX2_guard_125 ?_
            refine lv_iload_n hx hb dX2_guard_128 rfl (lv_at hl 1 rfl) ?_
            refine lv_iconst (v := 0) hx hb dX2_guard_129 (by decide) ?_
            refine va_zast (D := D) hx hb hK hP hD hS 9 1 rfl rfl (isG_in c_1) dX2_guard_130 (fun H locs hP hD hS => ?_)
            rw [show vp_nar .boolean 0 = 0 from by decide] at hP hD
            have hP : va_P D vwCl (mw a cI cZ (mso v) (mqu v) (upd (mis G) (cn g) 1) (upd (mwh G) (cn g) w) (upd (mho G) (cn g) h) (upd (mmo G) (cn g) mo) (upd (mks G) (cn g) (srtF (v (cn w) (cn x)))) (upd (mkq G) (cn g) (qrtF (v (cn w) (cn x)))) (upd (mdi G) (cn g) 0) (mri G) dn lt ch (gn + 0)) H := hP
            have hD : va_D A (mw a cI cZ (mso v) (mqu v) (upd (mis G) (cn g) 1) (upd (mwh G) (cn g) w) (upd (mho G) (cn g) h) (upd (mmo G) (cn g) mo) (upd (mks G) (cn g) (srtF (v (cn w) (cn x)))) (upd (mkq G) (cn g) (qrtF (v (cn w) (cn x)))) (upd (mdi G) (cn g) 0) (mri G) dn lt ch (gn + 0)) := hD
            refine lv_aload_n hx hb dX2_guard_131 rfl (lv_at hl 0 rfl) ?_
            refine va_get (D := D) (ci := 2) (v := .ref (a 10)) (C := RX2) (T := TX2) (N := 14) hx hb hts hiF hown hK hP 0 rfl rfl 13 (by decide) (hts (.fieldLink RX2 42 "TunerBenchModel" "rings" "[I") (by decide +kernel)) (fun _ h9 => h9) rfl dX2_guard_132 ?_
            refine lv_iload_n hx hb dX2_guard_135 rfl (lv_at hl 1 rfl) ?_
            refine lv_iconst (v := 0) hx hb dX2_guard_136 (by decide) ?_
            refine va_iast (D := D) hx hb hK hP hD hS 10 0 rfl rfl (isG_in c_1) dX2_guard_137 (fun H locs hP hD hS => ?_)
            have hP : va_P D vwCl (mw a cI cZ (mso v) (mqu v) (upd (mis G) (cn g) 1) (upd (mwh G) (cn g) w) (upd (mho G) (cn g) h) (upd (mmo G) (cn g) mo) (upd (mks G) (cn g) (srtF (v (cn w) (cn x)))) (upd (mkq G) (cn g) (qrtF (v (cn w) (cn x)))) (upd (mdi G) (cn g) 0) (upd (mri G) (cn g) 0) dn lt ch (gn + 0)) H := hP
            have hD : va_D A (mw a cI cZ (mso v) (mqu v) (upd (mis G) (cn g) 1) (upd (mwh G) (cn g) w) (upd (mho G) (cn g) h) (upd (mmo G) (cn g) mo) (upd (mks G) (cn g) (srtF (v (cn w) (cn x)))) (upd (mkq G) (cn g) (qrtF (v (cn w) (cn x)))) (upd (mdi G) (cn g) 0) (upd (mri G) (cn g) 0) dn lt ch (gn + 0)) := hD
            refine lv_iconst (v := 1) hx hb dX2_guard_138 (by decide) ?_
            have hok : gB g w h x mo = true := by simp [gB, c_1, c_2, c_3, c_4, c_5]
            have e1 : nGua v G g w h x mo = va_up G (cn g) (some (w, h, v (cn w) (cn x), mo, false, 0)) := by simp only [nGua, hok, if_true]
            have e2 : gn + 0 = hGua G gn g w h x mo := by simp [hGua, hok, c_5]
            have hP : va_P D vwCl (mb a cI cZ v (nGua v G g w h x mo) dn lt ch (hGua G gn g w h x mo)) H := by rw [e1, ← e2, mb, mis_up, mwh, mho, mmo, mks, mkq, mdi, mri]; simp only [gsel_up]; exact hP
            have hD : va_D A (mb a cI cZ v (nGua v G g w h x mo) dn lt ch (hGua G gn g w h x mo)) := xd_ad hD rfl
            exact xw_z (S := Unit) () hx hb hr hlk dX2_guard_139 (by decide) hP hK hD hS (by rw [hok]; rfl)
        · have c_4 := b2i_e c_4
          refine lv_iconst (v := 0) hx hb dX2_guard_36 (by decide) ?_
          have e1 : G = nGua v G g w h x mo := by simp [nGua, gB, c_1, c_2, c_3, c_4]
          have e2 : gn = hGua G gn g w h x mo := by simp [hGua, gB, c_1, c_2, c_3, c_4]
          rw [show (mb a cI cZ v G dn lt ch gn) = (mb a cI cZ v (nGua v G g w h x mo) dn lt ch (hGua G gn g w h x mo)) from by rw [← e1, ← e2]] at hP hD
          exact xw_z (S := Unit) () hx hb hr hlk dX2_guard_37 (by decide) hP hK hD hS (by simp [gB, b2i, c_1, c_2, c_3, c_4])
end
section
/-! the model: look -/
set_option maxHeartbeats 4000000 in
set_option maxRecDepth 100000 in
theorem c_X2_look (l : Launch) (D : va_G) (a : Nat → Nat) (cI cZ : ClassId) (v : Nat → Nat → Int32) (G : Nat → Option GT) (dn lt ch gn : Int32) (sz : Nat) (hGo : ∀ (g : Nat) (t : GT), g < 8 → G g = some t → vp_in t.1 2 ∧ isHb t.2.1 = true ∧ okV t.2.2.1) (okv : ∀ i j : Nat, okV (v i j)) : Met l yX2_look wsX2_look ({ frames := 2, cells := 0, slots := 0, locals := 47 }) (xW D vwCl (mb a cI cZ v G dn lt ch gn) (mT cI cZ) xB0 sz [.ref (a 0)]) (xQ (S := Unit) D vwCl (fun r _ => r = lkS v G 8) (fun _ => mb a cI cZ v (lkG v G 8) dn lt ch gn) (fun _ => mT cI cZ) (va_A (mb a cI cZ v G dn lt ch gn) sz)) 0 0 (va_A (mb a cI cZ v G dn lt ch gn) sz) := by
  refine xw_in (Qf := xQ (S := Unit) D vwCl (fun r _ => r = lkS v G 8) (fun _ => mb a cI cZ v (lkG v G 8) dn lt ch gn) (fun _ => mT cI cZ)) (cc := cX2_look) (maxL := 6) (ret := (some .int)) (by decide) rfl (Nat.le_of_ble_eq_true rfl) ?_
  intro p e s m below meth c ls A hx hb hr hml hts hown hlk hnm hA hP hK hD hS hB hl
  have hown : s.vm.findClass RX2 = some m.cls := hown
  have hl : lv_has ls 6 [(0, .ref (a 0))] := hl
  have hiF : ∀ w ∈ wsX20, w ∈ wsX2_look := by decide +kernel
  have loop : ∀ (n k : Nat), k + n = 8 → ∀ (H : Heap) (locs : List Loc), va_P D vwCl (mb a cI cZ v (lkG v G k) dn lt ch gn) H → va_D A (mb a cI cZ v (lkG v G k) dn lt ch gn) → va_S A s.heap H locs → ∀ ls : Array Slot, lv_has ls 6 [(2, .int (nI k)), (1, .int (lkS v G k)), (0, .ref (a 0))] → W p l e ({ frames := 2, cells := 0, slots := 0, locals := 47 }) s m ([.ref (a 0)] : List Value).toArray below meth c H locs 0 0 (MQ below ((xQ (S := Unit) D vwCl (fun r _ => r = lkS v G 8) (fun _ => mb a cI cZ v (lkG v G 8) dn lt ch gn) (fun _ => mT cI cZ)) A) ([.ref (a 0)] : List Value).toArray s 0 0 A) (F0 m 4 ls []) := by
    intro n
    induction n with
    | zero =>
      intro k hk H locs hP hD hS ls hl
      obtain rfl : k = 8 := by omega
      refine lv_iload_n hx hb dX2_look_4 rfl (lv_at hl 0 rfl) ?_
      refine lv_bipush (v := 8) hx hb dX2_look_5 (by decide) ?_
      refine lv_icmp_ge (tgt := 162) hx hb dX2_look_7 (by decide) (fun c_1 => ?_) (fun c_1 => absurd (by decide) c_1)
      refine lv_iload_n hx hb dX2_look_162 rfl (lv_at hl 1 rfl) ?_
      exact xw_i (S := Unit) () hx hb hr hlk dX2_look_163 hP hK hD hS rfl
    | succ n ih =>
      intro k hk H locs hP hD hS ls hl
      have hkk : lkG v G k k = G k := by simp [lkG]
      have hck : cn (nI k) = k := nI_clamp (show k < 2 ^ 31 by omega)
      rcases hGk : G k with _ | t
      · refine lv_iload_n hx hb dX2_look_4 rfl (lv_at hl 0 rfl) ?_
        refine lv_bipush (v := 8) hx hb dX2_look_5 (by decide) ?_
        refine lv_icmp_ge (tgt := 162) hx hb dX2_look_7 (by decide) (fun c_2 => absurd c_2 (nI_ge (show k < 8 by omega) (by decide))) (fun c_2 => ?_)
        refine lv_aload_n hx hb dX2_look_10 rfl (lv_at hl 2 rfl) ?_
        refine va_get (D := D) (ci := 2) (v := .ref (a 3)) (C := RX2) (T := TX2) (N := 14) hx hb hts hiF hown hK hP 0 rfl rfl 6 (by decide) (hts (.fieldLink RX2 20 "TunerBenchModel" "isSet" "[Z") (by decide +kernel)) (fun _ h9 => h9) rfl dX2_look_11 ?_
        refine lv_iload_n hx hb dX2_look_14 rfl (lv_at hl 0 rfl) ?_
        refine va_zald (D := D) hx hb hK hP 3 1 rfl rfl (vp_in_nI (show k < 8 by omega) (by decide)) dX2_look_15 ?_
        rw [show mis (lkG v G k) (cn (nI k)) = 0 from by rw [hck]; simp [mis, hkk, hGk]; rfl]
        refine lv_if_ne (tgt := 22) hx hb dX2_look_16 (by decide) (fun c_3 => absurd (by decide) c_3) (fun c_3 => ?_)
        refine lv_goto (tgt := 156) hx hb dX2_look_19 (by decide) ?_
        refine lv_iinc (v := nI (k + 1)) (lv' := [(2, .int (nI (k + 1))), (1, .int (lkS v G k)), (0, .ref (a 0))]) hx hb dX2_look_156 hl (k := 0) rfl (nI_1 k) (by decide) rfl (fun ls hl => ?_)
        refine lv_goto (tgt := 4) hx hb dX2_look_159 (by decide) ?_
        have e_s : lkS v G k = lkS v G (k + 1) := by simp [lkS, lkA, hGk]
        rw [e_s] at hl
        rw [← lkG_no (v := v) hGk] at hP hD
        exact ih (k + 1) (by omega) H locs hP hD hS ls (lv_sub hl [0, 1, 2] rfl)
      · obtain ⟨tw, th, tc, tm, td, tn⟩ := t
        obtain ⟨htw, hth, htc⟩ := hGo k _ (by omega) hGk
        have htw : vp_in tw 2 := htw
        have hth : isHb th = true := hth
        have htc : okV tc := htc
        refine lv_iload_n hx hb dX2_look_4 rfl (lv_at hl 0 rfl) ?_
        refine lv_bipush (v := 8) hx hb dX2_look_5 (by decide) ?_
        refine lv_icmp_ge (tgt := 162) hx hb dX2_look_7 (by decide) (fun c_4 => absurd c_4 (nI_ge (show k < 8 by omega) (by decide))) (fun c_4 => ?_)
        refine lv_aload_n hx hb dX2_look_10 rfl (lv_at hl 2 rfl) ?_
        refine va_get (D := D) (ci := 2) (v := .ref (a 3)) (C := RX2) (T := TX2) (N := 14) hx hb hts hiF hown hK hP 0 rfl rfl 6 (by decide) (hts (.fieldLink RX2 20 "TunerBenchModel" "isSet" "[Z") (by decide +kernel)) (fun _ h9 => h9) rfl dX2_look_11 ?_
        refine lv_iload_n hx hb dX2_look_14 rfl (lv_at hl 0 rfl) ?_
        refine va_zald (D := D) hx hb hK hP 3 1 rfl rfl (vp_in_nI (show k < 8 by omega) (by decide)) dX2_look_15 ?_
        rw [show mis (lkG v G k) (cn (nI k)) = 1 from by rw [hck]; simp [mis, hkk, hGk]; rfl]
        refine lv_if_ne (tgt := 22) hx hb dX2_look_16 (by decide) (fun c_5 => ?_) (fun c_5 => absurd c_5 (by decide))
        refine lv_aload_n hx hb dX2_look_22 rfl (lv_at hl 2 rfl) ?_
        refine va_get (D := D) (ci := 2) (v := .ref (a 4)) (C := RX2) (T := TX2) (N := 14) hx hb hts hiF hown hK hP 0 rfl rfl 7 (by decide) (hts (.fieldLink RX2 24 "TunerBenchModel" "what" "[I") (by decide +kernel)) (fun _ h9 => h9) rfl dX2_look_23 ?_
        refine lv_iload_n hx hb dX2_look_26 rfl (lv_at hl 0 rfl) ?_
        refine va_iald (D := D) hx hb hK hP 4 0 rfl rfl (vp_in_nI (show k < 8 by omega) (by decide)) dX2_look_27 ?_
        rw [show (mwh (lkG v G k)) (cn (nI k)) = tw from by rw [hck]; exact gsel_at (hkk.trans hGk)]
        refine lv_bipush (v := 32) hx hb dX2_look_28 (by decide) ?_
        refine xc_T (As := [.int tw, .int 32]) (rest := []) ⟨hx, hb, hml, hown, hts⟩ (c_X2_at l tw 32) (va_cwS 2 hts gX2_look_X2_at rfl rfl rfl (by decide +kernel) ⟨Nat.le_of_ble_eq_true rfl, Nat.le_of_ble_eq_true rfl⟩) rfl hl.1 rfl (Nat.le_of_ble_eq_true rfl) dX2_look_30 ⟨Nat.zero_le _, Nat.zero_le _⟩ ?_
        refine lv_istore_n (lv' := [(3, .int (33 * tw + 32)), (2, .int (nI k)), (1, .int (lkS v G k)), (0, .ref (a 0))]) hx hb dX2_look_33 rfl hl (by decide) rfl (fun ls hl => ?_)
        refine lv_aload_n hx hb dX2_look_34 rfl (lv_at hl 3 rfl) ?_
        refine va_get (D := D) (ci := 2) (v := .ref (a 5)) (C := RX2) (T := TX2) (N := 14) hx hb hts hiF hown hK hP 0 rfl rfl 8 (by decide) (hts (.fieldLink RX2 27 "TunerBenchModel" "how" "[I") (by decide +kernel)) (fun _ h9 => h9) rfl dX2_look_35 ?_
        refine lv_iload_n hx hb dX2_look_38 rfl (lv_at hl 1 rfl) ?_
        refine va_iald (D := D) hx hb hK hP 5 0 rfl rfl (vp_in_nI (show k < 8 by omega) (by decide)) dX2_look_39 ?_
        rw [show (mho (lkG v G k)) (cn (nI k)) = th from by rw [hck]; exact gsel_at (hkk.trans hGk)]
        refine lv_aload_n hx hb dX2_look_40 rfl (lv_at hl 3 rfl) ?_
        refine va_get (D := D) (ci := 2) (v := .ref (a 1)) (C := RX2) (T := TX2) (N := 14) hx hb hts hiF hown hK hP 0 rfl rfl 0 (by decide) (hts (.fieldLink RX2 7 "TunerBenchModel" "sorts" "[I") (by decide +kernel)) (fun _ h9 => h9) rfl dX2_look_41 ?_
        refine lv_iload_n hx hb dX2_look_44 rfl (lv_at hl 0 rfl) ?_
        refine va_iald (D := D) hx hb hK hP 1 0 rfl rfl (at_in htw (show vp_in (32) 33 by unfold vp_in; decide)) dX2_look_45 ?_
        rw [at_cn htw (show vp_in (32) 33 by unfold vp_in; decide), mso_at v (vp_lt (show vp_in (32) 33 by unfold vp_in; decide))]
        refine lv_aload_n hx hb dX2_look_46 rfl (lv_at hl 3 rfl) ?_
        refine va_get (D := D) (ci := 2) (v := .ref (a 2)) (C := RX2) (T := TX2) (N := 14) hx hb hts hiF hown hK hP 0 rfl rfl 1 (by decide) (hts (.fieldLink RX2 13 "TunerBenchModel" "quarters" "[I") (by decide +kernel)) (fun _ h9 => h9) rfl dX2_look_47 ?_
        refine lv_iload_n hx hb dX2_look_50 rfl (lv_at hl 0 rfl) ?_
        refine va_iald (D := D) hx hb hK hP 2 0 rfl rfl (at_in htw (show vp_in (32) 33 by unfold vp_in; decide)) dX2_look_51 ?_
        rw [at_cn htw (show vp_in (32) 33 by unfold vp_in; decide), mqu_at v (vp_lt (show vp_in (32) 33 by unfold vp_in; decide))]
        refine lv_aload_n hx hb dX2_look_52 rfl (lv_at hl 3 rfl) ?_
        refine va_get (D := D) (ci := 2) (v := .ref (a 7)) (C := RX2) (T := TX2) (N := 14) hx hb hts hiF hown hK hP 0 rfl rfl 10 (by decide) (hts (.fieldLink RX2 33 "TunerBenchModel" "keptSort" "[I") (by decide +kernel)) (fun _ h9 => h9) rfl dX2_look_53 ?_
        refine lv_iload_n hx hb dX2_look_56 rfl (lv_at hl 1 rfl) ?_
        refine va_iald (D := D) hx hb hK hP 7 0 rfl rfl (vp_in_nI (show k < 8 by omega) (by decide)) dX2_look_57 ?_
        rw [show (mks (lkG v G k)) (cn (nI k)) = srtF tc from by rw [hck]; exact gsel_at (hkk.trans hGk)]
        refine lv_aload_n hx hb dX2_look_58 rfl (lv_at hl 3 rfl) ?_
        refine va_get (D := D) (ci := 2) (v := .ref (a 8)) (C := RX2) (T := TX2) (N := 14) hx hb hts hiF hown hK hP 0 rfl rfl 11 (by decide) (hts (.fieldLink RX2 36 "TunerBenchModel" "keptQuarters" "[I") (by decide +kernel)) (fun _ h9 => h9) rfl dX2_look_59 ?_
        refine lv_iload_n hx hb dX2_look_62 rfl (lv_at hl 1 rfl) ?_
        refine va_iald (D := D) hx hb hK hP 8 0 rfl rfl (vp_in_nI (show k < 8 by omega) (by decide)) dX2_look_63 ?_
        rw [show (mkq (lkG v G k)) (cn (nI k)) = qrtF tc from by rw [hck]; exact gsel_at (hkk.trans hGk)]
        refine xc_T (As := [.int th, .int (srtF (v (cn tw) (cn 32))), .int (qrtF (v (cn tw) (cn 32))), .int (srtF tc), .int (qrtF tc)]) (rest := []) ⟨hx, hb, hml, hown, hts⟩ (c_X2_goes l th (srtF (v (cn tw) (cn 32))) (qrtF (v (cn tw) (cn 32))) (srtF tc) (qrtF tc)) (va_cwS 5 hts gX2_look_X2_goes rfl rfl rfl (by decide +kernel) ⟨Nat.le_of_ble_eq_true rfl, Nat.le_of_ble_eq_true rfl⟩) rfl hl.1 rfl (Nat.le_of_ble_eq_true rfl) dX2_look_64 ⟨Nat.zero_le _, Nat.zero_le _⟩ ?_
        rw [go_stn th _ _ hth (okv _ _) htc]
        refine lv_istore (lv' := [(4, .int (b2i (stnF th (v (cn tw) (cn 32)) tc))), (3, .int (33 * tw + 32)), (2, .int (nI k)), (1, .int (lkS v G k)), (0, .ref (a 0))]) hx hb dX2_look_67 hl (by decide) rfl (fun ls hl => ?_)
        refine lv_aload_n hx hb dX2_look_69 rfl (lv_at hl 4 rfl) ?_
        refine va_get (D := D) (ci := 2) (v := .ref (a 6)) (C := RX2) (T := TX2) (N := 14) hx hb hts hiF hown hK hP 0 rfl rfl 9 (by decide) (hts (.fieldLink RX2 30 "TunerBenchModel" "mode" "[I") (by decide +kernel)) (fun _ h9 => h9) rfl dX2_look_70 ?_
        refine lv_iload_n hx hb dX2_look_73 rfl (lv_at hl 2 rfl) ?_
        refine va_iald (D := D) hx hb hK hP 6 0 rfl rfl (vp_in_nI (show k < 8 by omega) (by decide)) dX2_look_74 ?_
        rw [show (mmo (lkG v G k)) (cn (nI k)) = tm from by rw [hck]; exact gsel_at (hkk.trans hGk)]
        refine lv_if_ne (tgt := 83) hx hb dX2_look_75 (by decide) (fun c_6 => ?_) (fun c_6 => ?_)
        · refine lv_aload_n hx hb dX2_look_83 rfl (lv_at hl 4 rfl) ?_
          refine va_get (D := D) (ci := 2) (v := .ref (a 6)) (C := RX2) (T := TX2) (N := 14) hx hb hts hiF hown hK hP 0 rfl rfl 9 (by decide) (hts (.fieldLink RX2 30 "TunerBenchModel" "mode" "[I") (by decide +kernel)) (fun _ h9 => h9) rfl dX2_look_84 ?_
          refine lv_iload_n hx hb dX2_look_87 rfl (lv_at hl 2 rfl) ?_
          refine va_iald (D := D) hx hb hK hP 6 0 rfl rfl (vp_in_nI (show k < 8 by omega) (by decide)) dX2_look_88 ?_
          rw [show (mmo (lkG v G k)) (cn (nI k)) = tm from by rw [hck]; exact gsel_at (hkk.trans hGk)]
          refine lv_iconst (v := 1) hx hb dX2_look_89 (by decide) ?_
          refine lv_icmp_ne (tgt := 106) hx hb dX2_look_90 (by decide) (fun c_7 => ?_) (fun c_7 => ?_)
          · refine lv_iload hx hb dX2_look_106 (lv_at hl 0 rfl) ?_
            refine lv_aload_n hx hb dX2_look_108 rfl (lv_at hl 4 rfl) ?_
            refine va_get (D := D) (ci := 2) (v := .ref (a 9)) (C := RX2) (T := TX2) (N := 14) hx hb hts hiF hown hK hP 0 rfl rfl 12 (by decide) (hts (.fieldLink RX2 39 "TunerBenchModel" "did" "[Z") (by decide +kernel)) (fun _ h9 => h9) rfl dX2_look_109 ?_
            refine lv_iload_n hx hb dX2_look_112 rfl (lv_at hl 2 rfl) ?_
            refine va_zald (D := D) hx hb hK hP 9 1 rfl rfl (vp_in_nI (show k < 8 by omega) (by decide)) dX2_look_113 ?_
            rw [show (mdi (lkG v G k)) (cn (nI k)) = b2i td from by rw [hck]; exact gsel_at (hkk.trans hGk)]
            refine lv_icmp_eq (tgt := 121) hx hb dX2_look_114 (by decide) (fun c_8 => ?_) (fun c_8 => ?_)
            · have c_8 := b2i_eq c_8
              refine lv_iconst (v := 0) hx hb dX2_look_121 (by decide) ?_
              refine lv_istore (lv' := [(5, .int 0), (4, .int (b2i (stnF th (v (cn tw) (cn 32)) tc))), (3, .int (33 * tw + 32)), (2, .int (nI k)), (1, .int (lkS v G k)), (0, .ref (a 0))]) hx hb dX2_look_122 hl (by decide) rfl (fun ls hl => ?_)
              refine lv_aload_n hx hb dX2_look_124 rfl (lv_at hl 5 rfl) ?_
              refine va_get (D := D) (ci := 2) (v := .ref (a 9)) (C := RX2) (T := TX2) (N := 14) hx hb hts hiF hown hK hP 0 rfl rfl 12 (by decide) (hts (.fieldLink RX2 39 "TunerBenchModel" "did" "[Z") (by decide +kernel)) (fun _ h9 => h9) rfl dX2_look_125 ?_
              refine lv_iload_n hx hb dX2_look_128 rfl (lv_at hl 3 rfl) ?_
              refine lv_iload hx hb dX2_look_129 (lv_at hl 1 rfl) ?_
              refine va_zast (D := D) hx hb hK hP hD hS 9 1 rfl rfl (vp_in_nI (show k < 8 by omega) (by decide)) dX2_look_131 (fun H locs hP hD hS => ?_)
              rw [show vp_nar .boolean (b2i (stnF th (v (cn tw) (cn 32)) tc)) = (b2i (stnF th (v (cn tw) (cn 32)) tc)) from b2i_vp _] at hP hD
              have hP : va_P D vwCl (mw a cI cZ (mso v) (mqu v) (mis (lkG v G k)) (mwh (lkG v G k)) (mho (lkG v G k)) (mmo (lkG v G k)) (mks (lkG v G k)) (mkq (lkG v G k)) (upd (mdi (lkG v G k)) (cn (nI k)) (b2i (stnF th (v (cn tw) (cn 32)) tc))) (mri (lkG v G k)) dn lt ch gn) H := hP
              have hD : va_D A (mw a cI cZ (mso v) (mqu v) (mis (lkG v G k)) (mwh (lkG v G k)) (mho (lkG v G k)) (mmo (lkG v G k)) (mks (lkG v G k)) (mkq (lkG v G k)) (upd (mdi (lkG v G k)) (cn (nI k)) (b2i (stnF th (v (cn tw) (cn 32)) tc))) (mri (lkG v G k)) dn lt ch gn) := hD
              refine lv_iload hx hb dX2_look_132 (lv_at hl 0 rfl) ?_
              refine lv_if_ne (tgt := 140) hx hb dX2_look_134 (by decide) (fun c_9 => absurd (by decide) c_9) (fun c_9 => ?_)
              refine lv_goto (tgt := 156) hx hb dX2_look_137 (by decide) ?_
              refine lv_iinc (v := nI (k + 1)) (lv' := [(2, .int (nI (k + 1))), (5, .int 0), (4, .int (b2i (stnF th (v (cn tw) (cn 32)) tc))), (3, .int (33 * tw + 32)), (1, .int (lkS v G k)), (0, .ref (a 0))]) hx hb dX2_look_156 hl (k := 3) rfl (nI_1 k) (by decide) rfl (fun ls hl => ?_)
              refine lv_goto (tgt := 4) hx hb dX2_look_159 (by decide) ?_
              have e_s : lkS v G k = lkS v G (k + 1) := by simp [lkS, lkA, hGk, lrF, lst, rungF, c_6, c_7, c_8]
              rw [e_s] at hl
              have e_l : lnx v (tw, th, tc, tm, td, tn) = (tw, th, tc, tm, stnF th (v (cn tw) (cn 32)) tc, tn) := by simp [lnx, lrF, lst, rungF, c_6, c_7, c_8]
              have hP : va_P D vwCl (mb a cI cZ v (lkG v G (k + 1)) dn lt ch gn) H := by
                have hq := hkk.trans hGk
                rw [lkG_up hGk, e_l, mb, mis_same hq, mwh, mho, mmo, mks, mkq, mdi, mri, gsel_same (t' := (tw, th, tc, tm, stnF th (v (cn tw) (cn 32)) tc, tn)) (f := fun t => t.1) hq rfl, gsel_same (t' := (tw, th, tc, tm, stnF th (v (cn tw) (cn 32)) tc, tn)) (f := fun t => t.2.1) hq rfl, gsel_same (t' := (tw, th, tc, tm, stnF th (v (cn tw) (cn 32)) tc, tn)) (f := fun t => t.2.2.2.1) hq rfl, gsel_same (t' := (tw, th, tc, tm, stnF th (v (cn tw) (cn 32)) tc, tn)) (f := fun t => srtF t.2.2.1) hq rfl, gsel_same (t' := (tw, th, tc, tm, stnF th (v (cn tw) (cn 32)) tc, tn)) (f := fun t => qrtF t.2.2.1) hq rfl, gsel_up _ (fun t => b2i t.2.2.2.2.1), gsel_same (t' := (tw, th, tc, tm, stnF th (v (cn tw) (cn 32)) tc, tn)) (f := fun t => t.2.2.2.2.2) hq rfl]
                rw [hck] at hP
                exact hP
              have hD : va_D A (mb a cI cZ v (lkG v G (k + 1)) dn lt ch gn) := xd_ad hD rfl
              exact ih (k + 1) (by omega) H locs hP hD hS ls (lv_sub hl [0, 4, 5] rfl)
            · have c_8 := b2i_ne c_8
              refine lv_iconst (v := 1) hx hb dX2_look_117 (by decide) ?_
              refine lv_goto (tgt := 122) hx hb dX2_look_118 (by decide) ?_
              refine lv_istore (lv' := [(5, .int 1), (4, .int (b2i (stnF th (v (cn tw) (cn 32)) tc))), (3, .int (33 * tw + 32)), (2, .int (nI k)), (1, .int (lkS v G k)), (0, .ref (a 0))]) hx hb dX2_look_122 hl (by decide) rfl (fun ls hl => ?_)
              refine lv_aload_n hx hb dX2_look_124 rfl (lv_at hl 5 rfl) ?_
              refine va_get (D := D) (ci := 2) (v := .ref (a 9)) (C := RX2) (T := TX2) (N := 14) hx hb hts hiF hown hK hP 0 rfl rfl 12 (by decide) (hts (.fieldLink RX2 39 "TunerBenchModel" "did" "[Z") (by decide +kernel)) (fun _ h9 => h9) rfl dX2_look_125 ?_
              refine lv_iload_n hx hb dX2_look_128 rfl (lv_at hl 3 rfl) ?_
              refine lv_iload hx hb dX2_look_129 (lv_at hl 1 rfl) ?_
              refine va_zast (D := D) hx hb hK hP hD hS 9 1 rfl rfl (vp_in_nI (show k < 8 by omega) (by decide)) dX2_look_131 (fun H locs hP hD hS => ?_)
              rw [show vp_nar .boolean (b2i (stnF th (v (cn tw) (cn 32)) tc)) = (b2i (stnF th (v (cn tw) (cn 32)) tc)) from b2i_vp _] at hP hD
              have hP : va_P D vwCl (mw a cI cZ (mso v) (mqu v) (mis (lkG v G k)) (mwh (lkG v G k)) (mho (lkG v G k)) (mmo (lkG v G k)) (mks (lkG v G k)) (mkq (lkG v G k)) (upd (mdi (lkG v G k)) (cn (nI k)) (b2i (stnF th (v (cn tw) (cn 32)) tc))) (mri (lkG v G k)) dn lt ch gn) H := hP
              have hD : va_D A (mw a cI cZ (mso v) (mqu v) (mis (lkG v G k)) (mwh (lkG v G k)) (mho (lkG v G k)) (mmo (lkG v G k)) (mks (lkG v G k)) (mkq (lkG v G k)) (upd (mdi (lkG v G k)) (cn (nI k)) (b2i (stnF th (v (cn tw) (cn 32)) tc))) (mri (lkG v G k)) dn lt ch gn) := hD
              refine lv_iload hx hb dX2_look_132 (lv_at hl 0 rfl) ?_
              refine lv_if_ne (tgt := 140) hx hb dX2_look_134 (by decide) (fun c_10 => ?_) (fun c_10 => absurd c_10 (by decide))
              refine lv_aload_n hx hb dX2_look_140 rfl (lv_at hl 5 rfl) ?_
              refine va_get (D := D) (ci := 2) (v := .ref (a 10)) (C := RX2) (T := TX2) (N := 14) hx hb hts hiF hown hK hP 0 rfl rfl 13 (by decide) (hts (.fieldLink RX2 42 "TunerBenchModel" "rings" "[I") (by decide +kernel)) (fun _ h9 => h9) rfl dX2_look_141 ?_
              refine lv_iload_n hx hb dX2_look_144 rfl (lv_at hl 3 rfl) ?_
              refine lv_dup2_11 hx hb dX2_look_145 rfl rfl ?_
              refine va_iald (D := D) hx hb hK hP 10 0 rfl rfl (vp_in_nI (show k < 8 by omega) (by decide)) dX2_look_146 ?_
              rw [show (mri (lkG v G k)) (cn (nI k)) = tn from by rw [hck]; exact gsel_at (hkk.trans hGk)]
              refine lv_iconst (v := 1) hx hb dX2_look_147 (by decide) ?_
              refine lv_iadd hx hb dX2_look_148 ?_
              refine va_iast (D := D) hx hb hK hP hD hS 10 0 rfl rfl (vp_in_nI (show k < 8 by omega) (by decide)) dX2_look_149 (fun H locs hP hD hS => ?_)
              have hP : va_P D vwCl (mw a cI cZ (mso v) (mqu v) (mis (lkG v G k)) (mwh (lkG v G k)) (mho (lkG v G k)) (mmo (lkG v G k)) (mks (lkG v G k)) (mkq (lkG v G k)) (upd (mdi (lkG v G k)) (cn (nI k)) (b2i (stnF th (v (cn tw) (cn 32)) tc))) (upd (mri (lkG v G k)) (cn (nI k)) (tn + 1)) dn lt ch gn) H := hP
              have hD : va_D A (mw a cI cZ (mso v) (mqu v) (mis (lkG v G k)) (mwh (lkG v G k)) (mho (lkG v G k)) (mmo (lkG v G k)) (mks (lkG v G k)) (mkq (lkG v G k)) (upd (mdi (lkG v G k)) (cn (nI k)) (b2i (stnF th (v (cn tw) (cn 32)) tc))) (upd (mri (lkG v G k)) (cn (nI k)) (tn + 1)) dn lt ch gn) := hD
              refine lv_iload_n hx hb dX2_look_150 rfl (lv_at hl 4 rfl) ?_
              refine lv_iconst (v := 1) hx hb dX2_look_151 (by decide) ?_
              refine lv_iload_n hx hb dX2_look_152 rfl (lv_at hl 3 rfl) ?_
              refine lv_ishl hx hb dX2_look_153 ?_
              refine lv_iadd hx hb dX2_look_154 ?_
              refine lv_istore_n (lv' := [(1, .int ((lkS v G k) + (1 <<< ((nI k) &&& 31)))), (5, .int 1), (4, .int (b2i (stnF th (v (cn tw) (cn 32)) tc))), (3, .int (33 * tw + 32)), (2, .int (nI k)), (0, .ref (a 0))]) hx hb dX2_look_155 rfl hl (by decide) rfl (fun ls hl => ?_)
              refine lv_iinc (v := nI (k + 1)) (lv' := [(2, .int (nI (k + 1))), (1, .int ((lkS v G k) + (1 <<< ((nI k) &&& 31)))), (5, .int 1), (4, .int (b2i (stnF th (v (cn tw) (cn 32)) tc))), (3, .int (33 * tw + 32)), (0, .ref (a 0))]) hx hb dX2_look_156 hl (k := 4) rfl (nI_1 k) (by decide) rfl (fun ls hl => ?_)
              refine lv_goto (tgt := 4) hx hb dX2_look_159 (by decide) ?_
              have e_s : (lkS v G k) + (1 <<< ((nI k) &&& 31)) = lkS v G (k + 1) := by simp [lkS, lkA, hGk, lrF, lst, rungF, c_6, c_7, c_8]
              rw [e_s] at hl
              have e_l : lnx v (tw, th, tc, tm, td, tn) = (tw, th, tc, tm, stnF th (v (cn tw) (cn 32)) tc, tn + 1) := by simp [lnx, lrF, lst, rungF, c_6, c_7, c_8]
              have hP : va_P D vwCl (mb a cI cZ v (lkG v G (k + 1)) dn lt ch gn) H := by
                have hq := hkk.trans hGk
                rw [lkG_up hGk, e_l, mb, mis_same hq, mwh, mho, mmo, mks, mkq, mdi, mri, gsel_same (t' := (tw, th, tc, tm, stnF th (v (cn tw) (cn 32)) tc, tn + 1)) (f := fun t => t.1) hq rfl, gsel_same (t' := (tw, th, tc, tm, stnF th (v (cn tw) (cn 32)) tc, tn + 1)) (f := fun t => t.2.1) hq rfl, gsel_same (t' := (tw, th, tc, tm, stnF th (v (cn tw) (cn 32)) tc, tn + 1)) (f := fun t => t.2.2.2.1) hq rfl, gsel_same (t' := (tw, th, tc, tm, stnF th (v (cn tw) (cn 32)) tc, tn + 1)) (f := fun t => srtF t.2.2.1) hq rfl, gsel_same (t' := (tw, th, tc, tm, stnF th (v (cn tw) (cn 32)) tc, tn + 1)) (f := fun t => qrtF t.2.2.1) hq rfl, gsel_up _ (fun t => b2i t.2.2.2.2.1), gsel_up _ (fun t => t.2.2.2.2.2)]
                rw [hck] at hP
                exact hP
              have hD : va_D A (mb a cI cZ v (lkG v G (k + 1)) dn lt ch gn) := xd_ad hD rfl
              exact ih (k + 1) (by omega) H locs hP hD hS ls (lv_sub hl [0, 1, 5] rfl)
          · refine lv_iload hx hb dX2_look_93 (lv_at hl 0 rfl) ?_
            refine lv_if_ne (tgt := 102) hx hb dX2_look_95 (by decide) (fun c_11 => ?_) (fun c_11 => ?_)
            · have c_11 := b2i_n c_11
              refine lv_iconst (v := 0) hx hb dX2_look_102 (by decide) ?_
              refine lv_goto (tgt := 122) hx hb dX2_look_103 (by decide) ?_
              refine lv_istore (lv' := [(5, .int 0), (4, .int (b2i (stnF th (v (cn tw) (cn 32)) tc))), (3, .int (33 * tw + 32)), (2, .int (nI k)), (1, .int (lkS v G k)), (0, .ref (a 0))]) hx hb dX2_look_122 hl (by decide) rfl (fun ls hl => ?_)
              refine lv_aload_n hx hb dX2_look_124 rfl (lv_at hl 5 rfl) ?_
              refine va_get (D := D) (ci := 2) (v := .ref (a 9)) (C := RX2) (T := TX2) (N := 14) hx hb hts hiF hown hK hP 0 rfl rfl 12 (by decide) (hts (.fieldLink RX2 39 "TunerBenchModel" "did" "[Z") (by decide +kernel)) (fun _ h9 => h9) rfl dX2_look_125 ?_
              refine lv_iload_n hx hb dX2_look_128 rfl (lv_at hl 3 rfl) ?_
              refine lv_iload hx hb dX2_look_129 (lv_at hl 1 rfl) ?_
              refine va_zast (D := D) hx hb hK hP hD hS 9 1 rfl rfl (vp_in_nI (show k < 8 by omega) (by decide)) dX2_look_131 (fun H locs hP hD hS => ?_)
              rw [show vp_nar .boolean (b2i (stnF th (v (cn tw) (cn 32)) tc)) = (b2i (stnF th (v (cn tw) (cn 32)) tc)) from b2i_vp _] at hP hD
              have hP : va_P D vwCl (mw a cI cZ (mso v) (mqu v) (mis (lkG v G k)) (mwh (lkG v G k)) (mho (lkG v G k)) (mmo (lkG v G k)) (mks (lkG v G k)) (mkq (lkG v G k)) (upd (mdi (lkG v G k)) (cn (nI k)) (b2i (stnF th (v (cn tw) (cn 32)) tc))) (mri (lkG v G k)) dn lt ch gn) H := hP
              have hD : va_D A (mw a cI cZ (mso v) (mqu v) (mis (lkG v G k)) (mwh (lkG v G k)) (mho (lkG v G k)) (mmo (lkG v G k)) (mks (lkG v G k)) (mkq (lkG v G k)) (upd (mdi (lkG v G k)) (cn (nI k)) (b2i (stnF th (v (cn tw) (cn 32)) tc))) (mri (lkG v G k)) dn lt ch gn) := hD
              refine lv_iload hx hb dX2_look_132 (lv_at hl 0 rfl) ?_
              refine lv_if_ne (tgt := 140) hx hb dX2_look_134 (by decide) (fun c_12 => absurd (by decide) c_12) (fun c_12 => ?_)
              refine lv_goto (tgt := 156) hx hb dX2_look_137 (by decide) ?_
              refine lv_iinc (v := nI (k + 1)) (lv' := [(2, .int (nI (k + 1))), (5, .int 0), (4, .int (b2i (stnF th (v (cn tw) (cn 32)) tc))), (3, .int (33 * tw + 32)), (1, .int (lkS v G k)), (0, .ref (a 0))]) hx hb dX2_look_156 hl (k := 3) rfl (nI_1 k) (by decide) rfl (fun ls hl => ?_)
              refine lv_goto (tgt := 4) hx hb dX2_look_159 (by decide) ?_
              have e_s : lkS v G k = lkS v G (k + 1) := by simp [lkS, lkA, hGk, lrF, lst, rungF, c_6, c_7, c_11]
              rw [e_s] at hl
              have e_l : lnx v (tw, th, tc, tm, td, tn) = (tw, th, tc, tm, stnF th (v (cn tw) (cn 32)) tc, tn) := by simp [lnx, lrF, lst, rungF, c_6, c_7, c_11]
              have hP : va_P D vwCl (mb a cI cZ v (lkG v G (k + 1)) dn lt ch gn) H := by
                have hq := hkk.trans hGk
                rw [lkG_up hGk, e_l, mb, mis_same hq, mwh, mho, mmo, mks, mkq, mdi, mri, gsel_same (t' := (tw, th, tc, tm, stnF th (v (cn tw) (cn 32)) tc, tn)) (f := fun t => t.1) hq rfl, gsel_same (t' := (tw, th, tc, tm, stnF th (v (cn tw) (cn 32)) tc, tn)) (f := fun t => t.2.1) hq rfl, gsel_same (t' := (tw, th, tc, tm, stnF th (v (cn tw) (cn 32)) tc, tn)) (f := fun t => t.2.2.2.1) hq rfl, gsel_same (t' := (tw, th, tc, tm, stnF th (v (cn tw) (cn 32)) tc, tn)) (f := fun t => srtF t.2.2.1) hq rfl, gsel_same (t' := (tw, th, tc, tm, stnF th (v (cn tw) (cn 32)) tc, tn)) (f := fun t => qrtF t.2.2.1) hq rfl, gsel_up _ (fun t => b2i t.2.2.2.2.1), gsel_same (t' := (tw, th, tc, tm, stnF th (v (cn tw) (cn 32)) tc, tn)) (f := fun t => t.2.2.2.2.2) hq rfl]
                rw [hck] at hP
                exact hP
              have hD : va_D A (mb a cI cZ v (lkG v G (k + 1)) dn lt ch gn) := xd_ad hD rfl
              exact ih (k + 1) (by omega) H locs hP hD hS ls (lv_sub hl [0, 4, 5] rfl)
            · have c_11 := b2i_e c_11
              refine lv_iconst (v := 1) hx hb dX2_look_98 (by decide) ?_
              refine lv_goto (tgt := 122) hx hb dX2_look_99 (by decide) ?_
              refine lv_istore (lv' := [(5, .int 1), (4, .int (b2i (stnF th (v (cn tw) (cn 32)) tc))), (3, .int (33 * tw + 32)), (2, .int (nI k)), (1, .int (lkS v G k)), (0, .ref (a 0))]) hx hb dX2_look_122 hl (by decide) rfl (fun ls hl => ?_)
              refine lv_aload_n hx hb dX2_look_124 rfl (lv_at hl 5 rfl) ?_
              refine va_get (D := D) (ci := 2) (v := .ref (a 9)) (C := RX2) (T := TX2) (N := 14) hx hb hts hiF hown hK hP 0 rfl rfl 12 (by decide) (hts (.fieldLink RX2 39 "TunerBenchModel" "did" "[Z") (by decide +kernel)) (fun _ h9 => h9) rfl dX2_look_125 ?_
              refine lv_iload_n hx hb dX2_look_128 rfl (lv_at hl 3 rfl) ?_
              refine lv_iload hx hb dX2_look_129 (lv_at hl 1 rfl) ?_
              refine va_zast (D := D) hx hb hK hP hD hS 9 1 rfl rfl (vp_in_nI (show k < 8 by omega) (by decide)) dX2_look_131 (fun H locs hP hD hS => ?_)
              rw [show vp_nar .boolean (b2i (stnF th (v (cn tw) (cn 32)) tc)) = (b2i (stnF th (v (cn tw) (cn 32)) tc)) from b2i_vp _] at hP hD
              have hP : va_P D vwCl (mw a cI cZ (mso v) (mqu v) (mis (lkG v G k)) (mwh (lkG v G k)) (mho (lkG v G k)) (mmo (lkG v G k)) (mks (lkG v G k)) (mkq (lkG v G k)) (upd (mdi (lkG v G k)) (cn (nI k)) (b2i (stnF th (v (cn tw) (cn 32)) tc))) (mri (lkG v G k)) dn lt ch gn) H := hP
              have hD : va_D A (mw a cI cZ (mso v) (mqu v) (mis (lkG v G k)) (mwh (lkG v G k)) (mho (lkG v G k)) (mmo (lkG v G k)) (mks (lkG v G k)) (mkq (lkG v G k)) (upd (mdi (lkG v G k)) (cn (nI k)) (b2i (stnF th (v (cn tw) (cn 32)) tc))) (mri (lkG v G k)) dn lt ch gn) := hD
              refine lv_iload hx hb dX2_look_132 (lv_at hl 0 rfl) ?_
              refine lv_if_ne (tgt := 140) hx hb dX2_look_134 (by decide) (fun c_13 => ?_) (fun c_13 => absurd c_13 (by decide))
              refine lv_aload_n hx hb dX2_look_140 rfl (lv_at hl 5 rfl) ?_
              refine va_get (D := D) (ci := 2) (v := .ref (a 10)) (C := RX2) (T := TX2) (N := 14) hx hb hts hiF hown hK hP 0 rfl rfl 13 (by decide) (hts (.fieldLink RX2 42 "TunerBenchModel" "rings" "[I") (by decide +kernel)) (fun _ h9 => h9) rfl dX2_look_141 ?_
              refine lv_iload_n hx hb dX2_look_144 rfl (lv_at hl 3 rfl) ?_
              refine lv_dup2_11 hx hb dX2_look_145 rfl rfl ?_
              refine va_iald (D := D) hx hb hK hP 10 0 rfl rfl (vp_in_nI (show k < 8 by omega) (by decide)) dX2_look_146 ?_
              rw [show (mri (lkG v G k)) (cn (nI k)) = tn from by rw [hck]; exact gsel_at (hkk.trans hGk)]
              refine lv_iconst (v := 1) hx hb dX2_look_147 (by decide) ?_
              refine lv_iadd hx hb dX2_look_148 ?_
              refine va_iast (D := D) hx hb hK hP hD hS 10 0 rfl rfl (vp_in_nI (show k < 8 by omega) (by decide)) dX2_look_149 (fun H locs hP hD hS => ?_)
              have hP : va_P D vwCl (mw a cI cZ (mso v) (mqu v) (mis (lkG v G k)) (mwh (lkG v G k)) (mho (lkG v G k)) (mmo (lkG v G k)) (mks (lkG v G k)) (mkq (lkG v G k)) (upd (mdi (lkG v G k)) (cn (nI k)) (b2i (stnF th (v (cn tw) (cn 32)) tc))) (upd (mri (lkG v G k)) (cn (nI k)) (tn + 1)) dn lt ch gn) H := hP
              have hD : va_D A (mw a cI cZ (mso v) (mqu v) (mis (lkG v G k)) (mwh (lkG v G k)) (mho (lkG v G k)) (mmo (lkG v G k)) (mks (lkG v G k)) (mkq (lkG v G k)) (upd (mdi (lkG v G k)) (cn (nI k)) (b2i (stnF th (v (cn tw) (cn 32)) tc))) (upd (mri (lkG v G k)) (cn (nI k)) (tn + 1)) dn lt ch gn) := hD
              refine lv_iload_n hx hb dX2_look_150 rfl (lv_at hl 4 rfl) ?_
              refine lv_iconst (v := 1) hx hb dX2_look_151 (by decide) ?_
              refine lv_iload_n hx hb dX2_look_152 rfl (lv_at hl 3 rfl) ?_
              refine lv_ishl hx hb dX2_look_153 ?_
              refine lv_iadd hx hb dX2_look_154 ?_
              refine lv_istore_n (lv' := [(1, .int ((lkS v G k) + (1 <<< ((nI k) &&& 31)))), (5, .int 1), (4, .int (b2i (stnF th (v (cn tw) (cn 32)) tc))), (3, .int (33 * tw + 32)), (2, .int (nI k)), (0, .ref (a 0))]) hx hb dX2_look_155 rfl hl (by decide) rfl (fun ls hl => ?_)
              refine lv_iinc (v := nI (k + 1)) (lv' := [(2, .int (nI (k + 1))), (1, .int ((lkS v G k) + (1 <<< ((nI k) &&& 31)))), (5, .int 1), (4, .int (b2i (stnF th (v (cn tw) (cn 32)) tc))), (3, .int (33 * tw + 32)), (0, .ref (a 0))]) hx hb dX2_look_156 hl (k := 4) rfl (nI_1 k) (by decide) rfl (fun ls hl => ?_)
              refine lv_goto (tgt := 4) hx hb dX2_look_159 (by decide) ?_
              have e_s : (lkS v G k) + (1 <<< ((nI k) &&& 31)) = lkS v G (k + 1) := by simp [lkS, lkA, hGk, lrF, lst, rungF, c_6, c_7, c_11]
              rw [e_s] at hl
              have e_l : lnx v (tw, th, tc, tm, td, tn) = (tw, th, tc, tm, stnF th (v (cn tw) (cn 32)) tc, tn + 1) := by simp [lnx, lrF, lst, rungF, c_6, c_7, c_11]
              have hP : va_P D vwCl (mb a cI cZ v (lkG v G (k + 1)) dn lt ch gn) H := by
                have hq := hkk.trans hGk
                rw [lkG_up hGk, e_l, mb, mis_same hq, mwh, mho, mmo, mks, mkq, mdi, mri, gsel_same (t' := (tw, th, tc, tm, stnF th (v (cn tw) (cn 32)) tc, tn + 1)) (f := fun t => t.1) hq rfl, gsel_same (t' := (tw, th, tc, tm, stnF th (v (cn tw) (cn 32)) tc, tn + 1)) (f := fun t => t.2.1) hq rfl, gsel_same (t' := (tw, th, tc, tm, stnF th (v (cn tw) (cn 32)) tc, tn + 1)) (f := fun t => t.2.2.2.1) hq rfl, gsel_same (t' := (tw, th, tc, tm, stnF th (v (cn tw) (cn 32)) tc, tn + 1)) (f := fun t => srtF t.2.2.1) hq rfl, gsel_same (t' := (tw, th, tc, tm, stnF th (v (cn tw) (cn 32)) tc, tn + 1)) (f := fun t => qrtF t.2.2.1) hq rfl, gsel_up _ (fun t => b2i t.2.2.2.2.1), gsel_up _ (fun t => t.2.2.2.2.2)]
                rw [hck] at hP
                exact hP
              have hD : va_D A (mb a cI cZ v (lkG v G (k + 1)) dn lt ch gn) := xd_ad hD rfl
              exact ih (k + 1) (by omega) H locs hP hD hS ls (lv_sub hl [0, 1, 5] rfl)
        · refine lv_iload hx hb dX2_look_78 (lv_at hl 0 rfl) ?_
          refine lv_goto (tgt := 122) hx hb dX2_look_80 (by decide) ?_
          refine lv_istore (lv' := [(5, .int (b2i (stnF th (v (cn tw) (cn 32)) tc))), (4, .int (b2i (stnF th (v (cn tw) (cn 32)) tc))), (3, .int (33 * tw + 32)), (2, .int (nI k)), (1, .int (lkS v G k)), (0, .ref (a 0))]) hx hb dX2_look_122 hl (by decide) rfl (fun ls hl => ?_)
          refine lv_aload_n hx hb dX2_look_124 rfl (lv_at hl 5 rfl) ?_
          refine va_get (D := D) (ci := 2) (v := .ref (a 9)) (C := RX2) (T := TX2) (N := 14) hx hb hts hiF hown hK hP 0 rfl rfl 12 (by decide) (hts (.fieldLink RX2 39 "TunerBenchModel" "did" "[Z") (by decide +kernel)) (fun _ h9 => h9) rfl dX2_look_125 ?_
          refine lv_iload_n hx hb dX2_look_128 rfl (lv_at hl 3 rfl) ?_
          refine lv_iload hx hb dX2_look_129 (lv_at hl 1 rfl) ?_
          refine va_zast (D := D) hx hb hK hP hD hS 9 1 rfl rfl (vp_in_nI (show k < 8 by omega) (by decide)) dX2_look_131 (fun H locs hP hD hS => ?_)
          rw [show vp_nar .boolean (b2i (stnF th (v (cn tw) (cn 32)) tc)) = (b2i (stnF th (v (cn tw) (cn 32)) tc)) from b2i_vp _] at hP hD
          have hP : va_P D vwCl (mw a cI cZ (mso v) (mqu v) (mis (lkG v G k)) (mwh (lkG v G k)) (mho (lkG v G k)) (mmo (lkG v G k)) (mks (lkG v G k)) (mkq (lkG v G k)) (upd (mdi (lkG v G k)) (cn (nI k)) (b2i (stnF th (v (cn tw) (cn 32)) tc))) (mri (lkG v G k)) dn lt ch gn) H := hP
          have hD : va_D A (mw a cI cZ (mso v) (mqu v) (mis (lkG v G k)) (mwh (lkG v G k)) (mho (lkG v G k)) (mmo (lkG v G k)) (mks (lkG v G k)) (mkq (lkG v G k)) (upd (mdi (lkG v G k)) (cn (nI k)) (b2i (stnF th (v (cn tw) (cn 32)) tc))) (mri (lkG v G k)) dn lt ch gn) := hD
          refine lv_iload hx hb dX2_look_132 (lv_at hl 0 rfl) ?_
          refine lv_if_ne (tgt := 140) hx hb dX2_look_134 (by decide) (fun c_14 => ?_) (fun c_14 => ?_)
          · have c_14 := b2i_n c_14
            refine lv_aload_n hx hb dX2_look_140 rfl (lv_at hl 5 rfl) ?_
            refine va_get (D := D) (ci := 2) (v := .ref (a 10)) (C := RX2) (T := TX2) (N := 14) hx hb hts hiF hown hK hP 0 rfl rfl 13 (by decide) (hts (.fieldLink RX2 42 "TunerBenchModel" "rings" "[I") (by decide +kernel)) (fun _ h9 => h9) rfl dX2_look_141 ?_
            refine lv_iload_n hx hb dX2_look_144 rfl (lv_at hl 3 rfl) ?_
            refine lv_dup2_11 hx hb dX2_look_145 rfl rfl ?_
            refine va_iald (D := D) hx hb hK hP 10 0 rfl rfl (vp_in_nI (show k < 8 by omega) (by decide)) dX2_look_146 ?_
            rw [show (mri (lkG v G k)) (cn (nI k)) = tn from by rw [hck]; exact gsel_at (hkk.trans hGk)]
            refine lv_iconst (v := 1) hx hb dX2_look_147 (by decide) ?_
            refine lv_iadd hx hb dX2_look_148 ?_
            refine va_iast (D := D) hx hb hK hP hD hS 10 0 rfl rfl (vp_in_nI (show k < 8 by omega) (by decide)) dX2_look_149 (fun H locs hP hD hS => ?_)
            have hP : va_P D vwCl (mw a cI cZ (mso v) (mqu v) (mis (lkG v G k)) (mwh (lkG v G k)) (mho (lkG v G k)) (mmo (lkG v G k)) (mks (lkG v G k)) (mkq (lkG v G k)) (upd (mdi (lkG v G k)) (cn (nI k)) (b2i (stnF th (v (cn tw) (cn 32)) tc))) (upd (mri (lkG v G k)) (cn (nI k)) (tn + 1)) dn lt ch gn) H := hP
            have hD : va_D A (mw a cI cZ (mso v) (mqu v) (mis (lkG v G k)) (mwh (lkG v G k)) (mho (lkG v G k)) (mmo (lkG v G k)) (mks (lkG v G k)) (mkq (lkG v G k)) (upd (mdi (lkG v G k)) (cn (nI k)) (b2i (stnF th (v (cn tw) (cn 32)) tc))) (upd (mri (lkG v G k)) (cn (nI k)) (tn + 1)) dn lt ch gn) := hD
            refine lv_iload_n hx hb dX2_look_150 rfl (lv_at hl 4 rfl) ?_
            refine lv_iconst (v := 1) hx hb dX2_look_151 (by decide) ?_
            refine lv_iload_n hx hb dX2_look_152 rfl (lv_at hl 3 rfl) ?_
            refine lv_ishl hx hb dX2_look_153 ?_
            refine lv_iadd hx hb dX2_look_154 ?_
            refine lv_istore_n (lv' := [(1, .int ((lkS v G k) + (1 <<< ((nI k) &&& 31)))), (5, .int (b2i (stnF th (v (cn tw) (cn 32)) tc))), (4, .int (b2i (stnF th (v (cn tw) (cn 32)) tc))), (3, .int (33 * tw + 32)), (2, .int (nI k)), (0, .ref (a 0))]) hx hb dX2_look_155 rfl hl (by decide) rfl (fun ls hl => ?_)
            refine lv_iinc (v := nI (k + 1)) (lv' := [(2, .int (nI (k + 1))), (1, .int ((lkS v G k) + (1 <<< ((nI k) &&& 31)))), (5, .int (b2i (stnF th (v (cn tw) (cn 32)) tc))), (4, .int (b2i (stnF th (v (cn tw) (cn 32)) tc))), (3, .int (33 * tw + 32)), (0, .ref (a 0))]) hx hb dX2_look_156 hl (k := 4) rfl (nI_1 k) (by decide) rfl (fun ls hl => ?_)
            refine lv_goto (tgt := 4) hx hb dX2_look_159 (by decide) ?_
            have e_s : (lkS v G k) + (1 <<< ((nI k) &&& 31)) = lkS v G (k + 1) := by simp [lkS, lkA, hGk, lrF, lst, rungF, c_6, c_14]
            rw [e_s] at hl
            have e_l : lnx v (tw, th, tc, tm, td, tn) = (tw, th, tc, tm, stnF th (v (cn tw) (cn 32)) tc, tn + 1) := by simp [lnx, lrF, lst, rungF, c_6, c_14]
            have hP : va_P D vwCl (mb a cI cZ v (lkG v G (k + 1)) dn lt ch gn) H := by
              have hq := hkk.trans hGk
              rw [lkG_up hGk, e_l, mb, mis_same hq, mwh, mho, mmo, mks, mkq, mdi, mri, gsel_same (t' := (tw, th, tc, tm, stnF th (v (cn tw) (cn 32)) tc, tn + 1)) (f := fun t => t.1) hq rfl, gsel_same (t' := (tw, th, tc, tm, stnF th (v (cn tw) (cn 32)) tc, tn + 1)) (f := fun t => t.2.1) hq rfl, gsel_same (t' := (tw, th, tc, tm, stnF th (v (cn tw) (cn 32)) tc, tn + 1)) (f := fun t => t.2.2.2.1) hq rfl, gsel_same (t' := (tw, th, tc, tm, stnF th (v (cn tw) (cn 32)) tc, tn + 1)) (f := fun t => srtF t.2.2.1) hq rfl, gsel_same (t' := (tw, th, tc, tm, stnF th (v (cn tw) (cn 32)) tc, tn + 1)) (f := fun t => qrtF t.2.2.1) hq rfl, gsel_up _ (fun t => b2i t.2.2.2.2.1), gsel_up _ (fun t => t.2.2.2.2.2)]
              rw [hck] at hP
              exact hP
            have hD : va_D A (mb a cI cZ v (lkG v G (k + 1)) dn lt ch gn) := xd_ad hD rfl
            exact ih (k + 1) (by omega) H locs hP hD hS ls (lv_sub hl [0, 1, 5] rfl)
          · have c_14 := b2i_e c_14
            refine lv_goto (tgt := 156) hx hb dX2_look_137 (by decide) ?_
            refine lv_iinc (v := nI (k + 1)) (lv' := [(2, .int (nI (k + 1))), (5, .int (b2i (stnF th (v (cn tw) (cn 32)) tc))), (4, .int (b2i (stnF th (v (cn tw) (cn 32)) tc))), (3, .int (33 * tw + 32)), (1, .int (lkS v G k)), (0, .ref (a 0))]) hx hb dX2_look_156 hl (k := 3) rfl (nI_1 k) (by decide) rfl (fun ls hl => ?_)
            refine lv_goto (tgt := 4) hx hb dX2_look_159 (by decide) ?_
            have e_s : lkS v G k = lkS v G (k + 1) := by simp [lkS, lkA, hGk, lrF, lst, rungF, c_6, c_14]
            rw [e_s] at hl
            have e_l : lnx v (tw, th, tc, tm, td, tn) = (tw, th, tc, tm, stnF th (v (cn tw) (cn 32)) tc, tn) := by simp [lnx, lrF, lst, rungF, c_6, c_14]
            have hP : va_P D vwCl (mb a cI cZ v (lkG v G (k + 1)) dn lt ch gn) H := by
              have hq := hkk.trans hGk
              rw [lkG_up hGk, e_l, mb, mis_same hq, mwh, mho, mmo, mks, mkq, mdi, mri, gsel_same (t' := (tw, th, tc, tm, stnF th (v (cn tw) (cn 32)) tc, tn)) (f := fun t => t.1) hq rfl, gsel_same (t' := (tw, th, tc, tm, stnF th (v (cn tw) (cn 32)) tc, tn)) (f := fun t => t.2.1) hq rfl, gsel_same (t' := (tw, th, tc, tm, stnF th (v (cn tw) (cn 32)) tc, tn)) (f := fun t => t.2.2.2.1) hq rfl, gsel_same (t' := (tw, th, tc, tm, stnF th (v (cn tw) (cn 32)) tc, tn)) (f := fun t => srtF t.2.2.1) hq rfl, gsel_same (t' := (tw, th, tc, tm, stnF th (v (cn tw) (cn 32)) tc, tn)) (f := fun t => qrtF t.2.2.1) hq rfl, gsel_up _ (fun t => b2i t.2.2.2.2.1), gsel_same (t' := (tw, th, tc, tm, stnF th (v (cn tw) (cn 32)) tc, tn)) (f := fun t => t.2.2.2.2.2) hq rfl]
              rw [hck] at hP
              exact hP
            have hD : va_D A (mb a cI cZ v (lkG v G (k + 1)) dn lt ch gn) := xd_ad hD rfl
            exact ih (k + 1) (by omega) H locs hP hD hS ls (lv_sub hl [0, 4, 5] rfl)
  refine lv_iconst (v := 0) hx hb dX2_look_0 (by decide) ?_
  refine lv_istore_n (lv' := [(1, .int 0), (0, .ref (a 0))]) hx hb dX2_look_1 rfl hl (by decide) rfl (fun ls hl => ?_)
  refine lv_iconst (v := 0) hx hb dX2_look_2 (by decide) ?_
  refine lv_istore_n (lv' := [(2, .int 0), (1, .int 0), (0, .ref (a 0))]) hx hb dX2_look_3 rfl hl (by decide) rfl (fun ls hl => ?_)
  refine loop 8 0 (by omega) _ _ ?_ ?_ hS ls (lv_sub hl [0, 1, 2] rfl)
  · rw [lkG_0]; exact hP
  · rw [lkG_0]; exact hD
end
section
/-! TunerBenchModel() -/
theorem mso_1 (j : Nat) : mso (fun _ _ => 40003) j = 1 := by
  show srtF 40003 = 1
  decide
theorem mqu_0 (j : Nat) : mqu (fun _ _ => 40003) j = 0 := by
  show qrtF 40003 = 0
  decide
theorem vpz (n : Nat) (cA : ClassId) : vp_cell cA (n, .inl (fun _ => 0)) = arrV cA n (fun _ => .int 0) := rfl
theorem hb_i (n : Nat) (h : n * 4 ≤ 536870912) : n * componentBytes .int ≤ 536870912 := h
theorem hb_z (n : Nat) (h : n * 1 ≤ 536870912) : n * componentBytes .boolean ≤ 536870912 := h
theorem mis_0 (j : Nat) : mis (fun _ => none) j = 0 := rfl
theorem gse_0 (f : GT → Int32) (j : Nat) : gsel (fun _ => none) f j = 0 := rfl
set_option maxHeartbeats 4000000 in
set_option maxRecDepth 100000 in
theorem c_X2_init (l : Launch) (D : va_G) (b sz : Nat) : Met l yX2_init wsX2_init ({ frames := 1, cells := 10, slots := 196, locals := 12 }) (xW D vwCl [(b, .inr (2, [.null, .null, .int 0, .int 0, .int 0, .int 0, .null, .null, .null, .null, .null, .null, .null, .null]))] [] xB0 sz [.ref b]) (xQv (S := (Nat → Nat) × ClassId × ClassId) D vwCl (fun u => u.1 0 = b) (fun u => mb u.1 u.2.1 u.2.2 (fun _ _ => 40003) (fun _ => none) 0 (-1) 0 0) (fun u => mT u.2.1 u.2.2) (va_A [(b, .inr (2, [.null, .null, .int 0, .int 0, .int 0, .int 0, .null, .null, .null, .null, .null, .null, .null, .null]))] sz)) 10 196 (va_A [(b, .inr (2, [.null, .null, .int 0, .int 0, .int 0, .int 0, .null, .null, .null, .null, .null, .null, .null, .null]))] sz) := by
  refine xw_in (Qf := xQv (S := (Nat → Nat) × ClassId × ClassId) D vwCl (fun u => u.1 0 = b) (fun u => mb u.1 u.2.1 u.2.2 (fun _ _ => 40003) (fun _ => none) 0 (-1) 0 0) (fun u => mT u.2.1 u.2.2)) (cc := cX2_init) (maxL := 2) (ret := none) (by decide) rfl (Nat.le_of_ble_eq_true rfl) ?_
  intro p e s m below meth c ls A hx hb hr hml hts hown hlk hnm hA hP hK hD hS hB hl
  have hown : s.vm.findClass RX2 = some m.cls := hown
  have hin : meth.name = "<init>" := hnm
  have hl : lv_has ls 2 [(0, .ref b)] := hl
  have hiF : ∀ w ∈ wsX20, w ∈ wsX2_init := by decide +kernel
  refine lv_aload_n hx hb dX2_init_0 rfl (lv_at hl 0 rfl) ?_
  refine W.objInit hx hb hown (hts (.methodLink RX2 1 objectInit) (by decide +kernel)) (hts (.instanceMethod objectInit) (by decide +kernel)) (hts _ (List.mem_cons_of_mem _ (List.mem_append_left _ (List.mem_of_getElem? (i := 2) rfl)))) rfl (by rw [hml]; exact hl.1) rfl dX2_init_1 (Nat.le_of_ble_eq_true rfl) (Nat.le_of_ble_eq_true rfl) ?_
  refine W.eq (g2 := F0 m 4 ls []) rfl ?_
  refine lv_aload_n hx hb dX2_init_4 rfl (lv_at hl 0 rfl) ?_
  refine lv_bipush (v := 66) hx hb dX2_init_5 (by decide) ?_
  refine va_newa (D := D) (atype := .int) (ty := .int) (a0 := (66, .inl (fun _ => 0))) (N' := 66) hx hb (hts (.arrayClass .int) (by decide +kernel)) rfl hK hP hD hS hA (vpz 66) (by decide) (by decide) (hb_i _ (by decide)) (Nat.le_of_ble_eq_true rfl) (Nat.le_of_ble_eq_true rfl) dX2_init_7 (fun q1 cI H hK hP hD hS => ?_)
  have hP : va_P D vwCl [(b, .inr (2, [.null, .null, .int 0, .int 0, .int 0, .int 0, .null, .null, .null, .null, .null, .null, .null, .null])), (q1, .inl (cI, 66, .inl (fun _ => 0)))] H := hP
  have hD : va_D A [(b, .inr (2, [.null, .null, .int 0, .int 0, .int 0, .int 0, .null, .null, .null, .null, .null, .null, .null, .null])), (q1, .inl (cI, 66, .inl (fun _ => 0)))] := hD
  have hK : va_K D vwCl [(cI, .int)] s := hK
  refine W.widen (k := 1) (n := 66) (Nat.le_of_ble_eq_true rfl) (Nat.le_of_ble_eq_true rfl) ?_
  refine va_putF (D := D) (ci := 2) (v := .ref q1) (ty := .array .int) (C := RX2) (T := TX2) (N := 14) hx hb hts hiF tyX2 tyX2_ok nmX2 hown hK hP hD hS 0 rfl rfl 0 (by decide) (hts (.fieldLink RX2 7 "TunerBenchModel" "sorts" "[I") (by decide +kernel)) (fun _ h9 => h9) rfl hin rfl (by decide +kernel) rfl rfl (Nat.le_of_ble_eq_true rfl) dX2_init_9 (fun H locs hP hD hS => ?_)
  have hP : va_P D vwCl [(b, .inr (2, [.ref q1, .null, .int 0, .int 0, .int 0, .int 0, .null, .null, .null, .null, .null, .null, .null, .null])), (q1, .inl (cI, 66, .inl (fun _ => 0)))] H := hP
  have hD : va_D A [(b, .inr (2, [.ref q1, .null, .int 0, .int 0, .int 0, .int 0, .null, .null, .null, .null, .null, .null, .null, .null])), (q1, .inl (cI, 66, .inl (fun _ => 0)))] := hD
  refine lv_aload_n hx hb dX2_init_12 rfl (lv_at hl 0 rfl) ?_
  refine lv_bipush (v := 66) hx hb dX2_init_13 (by decide) ?_
  refine va_newa (D := D) (atype := .int) (ty := .int) (a0 := (66, .inl (fun _ => 0))) (N' := 66) hx hb (hts (.arrayClass .int) (by decide +kernel)) rfl hK hP hD hS hA (vpz 66) (by decide) (by decide) (hb_i _ (by decide)) (Nat.le_of_ble_eq_true rfl) (Nat.le_of_ble_eq_true rfl) dX2_init_15 (fun q2 c9 H hK hP hD hS => ?_)
  obtain rfl : cI = c9 := Option.some.inj ((hK.2 0 (cI, .int) rfl).2.symm.trans (hK.2 1 (c9, .int) rfl).2)
  have hK := hK.sub (tys' := [(cI, .int)]) [0] rfl
  have hP : va_P D vwCl [(b, .inr (2, [.ref q1, .null, .int 0, .int 0, .int 0, .int 0, .null, .null, .null, .null, .null, .null, .null, .null])), (q1, .inl (cI, 66, .inl (fun _ => 0))), (q2, .inl (cI, 66, .inl (fun _ => 0)))] H := hP
  have hD : va_D A [(b, .inr (2, [.ref q1, .null, .int 0, .int 0, .int 0, .int 0, .null, .null, .null, .null, .null, .null, .null, .null])), (q1, .inl (cI, 66, .inl (fun _ => 0))), (q2, .inl (cI, 66, .inl (fun _ => 0)))] := hD
  have hK : va_K D vwCl [(cI, .int)] s := hK
  refine W.widen (k := 2) (n := 132) (Nat.le_of_ble_eq_true rfl) (Nat.le_of_ble_eq_true rfl) ?_
  refine va_putF (D := D) (ci := 2) (v := .ref q2) (ty := .array .int) (C := RX2) (T := TX2) (N := 14) hx hb hts hiF tyX2 tyX2_ok nmX2 hown hK hP hD hS 0 rfl rfl 1 (by decide) (hts (.fieldLink RX2 13 "TunerBenchModel" "quarters" "[I") (by decide +kernel)) (fun _ h9 => h9) rfl hin rfl (by decide +kernel) rfl rfl (Nat.le_of_ble_eq_true rfl) dX2_init_17 (fun H locs hP hD hS => ?_)
  have hP : va_P D vwCl [(b, .inr (2, [.ref q1, .ref q2, .int 0, .int 0, .int 0, .int 0, .null, .null, .null, .null, .null, .null, .null, .null])), (q1, .inl (cI, 66, .inl (fun _ => 0))), (q2, .inl (cI, 66, .inl (fun _ => 0)))] H := hP
  have hD : va_D A [(b, .inr (2, [.ref q1, .ref q2, .int 0, .int 0, .int 0, .int 0, .null, .null, .null, .null, .null, .null, .null, .null])), (q1, .inl (cI, 66, .inl (fun _ => 0))), (q2, .inl (cI, 66, .inl (fun _ => 0)))] := hD
  refine lv_aload_n hx hb dX2_init_20 rfl (lv_at hl 0 rfl) ?_
  refine lv_iconst (v := -1) hx hb dX2_init_21 (by decide) ?_
  refine va_put (D := D) (ci := 2) (v := .int (-1)) (ty := .int) (C := RX2) (T := TX2) (N := 14) hx hb hts hiF tyX2 tyX2_ok nmX2 hown hK hP hD hS 0 rfl rfl 3 (by decide) (hts (.fieldLink RX2 16 "TunerBenchModel" "latest" "I") (by decide +kernel)) (fun _ h9 => h9) rfl (by decide +kernel) rfl rfl (Nat.le_of_ble_eq_true rfl) dX2_init_22 (fun H locs hP hD hS => ?_)
  have hP : va_P D vwCl [(b, .inr (2, [.ref q1, .ref q2, .int 0, .int (-1), .int 0, .int 0, .null, .null, .null, .null, .null, .null, .null, .null])), (q1, .inl (cI, 66, .inl (fun _ => 0))), (q2, .inl (cI, 66, .inl (fun _ => 0)))] H := hP
  have hD : va_D A [(b, .inr (2, [.ref q1, .ref q2, .int 0, .int (-1), .int 0, .int 0, .null, .null, .null, .null, .null, .null, .null, .null])), (q1, .inl (cI, 66, .inl (fun _ => 0))), (q2, .inl (cI, 66, .inl (fun _ => 0)))] := hD
  refine lv_aload_n hx hb dX2_init_25 rfl (lv_at hl 0 rfl) ?_
  refine lv_bipush (v := 8) hx hb dX2_init_26 (by decide) ?_
  refine va_newa (D := D) (atype := .boolean) (ty := .boolean) (a0 := (8, .inl (fun _ => 0))) (N' := 8) hx hb (hts (.arrayClass .boolean) (by decide +kernel)) rfl hK hP hD hS hA (vpz 8) (by decide) (by decide) (hb_z _ (by decide)) (Nat.le_of_ble_eq_true rfl) (Nat.le_of_ble_eq_true rfl) dX2_init_28 (fun q3 cZ H hK hP hD hS => ?_)
  have hP : va_P D vwCl [(b, .inr (2, [.ref q1, .ref q2, .int 0, .int (-1), .int 0, .int 0, .null, .null, .null, .null, .null, .null, .null, .null])), (q1, .inl (cI, 66, .inl (fun _ => 0))), (q2, .inl (cI, 66, .inl (fun _ => 0))), (q3, .inl (cZ, 8, .inl (fun _ => 0)))] H := hP
  have hD : va_D A [(b, .inr (2, [.ref q1, .ref q2, .int 0, .int (-1), .int 0, .int 0, .null, .null, .null, .null, .null, .null, .null, .null])), (q1, .inl (cI, 66, .inl (fun _ => 0))), (q2, .inl (cI, 66, .inl (fun _ => 0))), (q3, .inl (cZ, 8, .inl (fun _ => 0)))] := hD
  have hK : va_K D vwCl [(cI, .int), (cZ, .boolean)] s := hK
  refine W.widen (k := 3) (n := 140) (Nat.le_of_ble_eq_true rfl) (Nat.le_of_ble_eq_true rfl) ?_
  refine va_putF (D := D) (ci := 2) (v := .ref q3) (ty := .array .boolean) (C := RX2) (T := TX2) (N := 14) hx hb hts hiF tyX2 tyX2_ok nmX2 hown hK hP hD hS 0 rfl rfl 6 (by decide) (hts (.fieldLink RX2 20 "TunerBenchModel" "isSet" "[Z") (by decide +kernel)) (fun _ h9 => h9) rfl hin rfl (by decide +kernel) rfl rfl (Nat.le_of_ble_eq_true rfl) dX2_init_30 (fun H locs hP hD hS => ?_)
  have hP : va_P D vwCl [(b, .inr (2, [.ref q1, .ref q2, .int 0, .int (-1), .int 0, .int 0, .ref q3, .null, .null, .null, .null, .null, .null, .null])), (q1, .inl (cI, 66, .inl (fun _ => 0))), (q2, .inl (cI, 66, .inl (fun _ => 0))), (q3, .inl (cZ, 8, .inl (fun _ => 0)))] H := hP
  have hD : va_D A [(b, .inr (2, [.ref q1, .ref q2, .int 0, .int (-1), .int 0, .int 0, .ref q3, .null, .null, .null, .null, .null, .null, .null])), (q1, .inl (cI, 66, .inl (fun _ => 0))), (q2, .inl (cI, 66, .inl (fun _ => 0))), (q3, .inl (cZ, 8, .inl (fun _ => 0)))] := hD
  refine lv_aload_n hx hb dX2_init_33 rfl (lv_at hl 0 rfl) ?_
  refine lv_bipush (v := 8) hx hb dX2_init_34 (by decide) ?_
  refine va_newa (D := D) (atype := .int) (ty := .int) (a0 := (8, .inl (fun _ => 0))) (N' := 8) hx hb (hts (.arrayClass .int) (by decide +kernel)) rfl hK hP hD hS hA (vpz 8) (by decide) (by decide) (hb_i _ (by decide)) (Nat.le_of_ble_eq_true rfl) (Nat.le_of_ble_eq_true rfl) dX2_init_36 (fun q4 c9 H hK hP hD hS => ?_)
  obtain rfl : cI = c9 := Option.some.inj ((hK.2 0 (cI, .int) rfl).2.symm.trans (hK.2 2 (c9, .int) rfl).2)
  have hK := hK.sub (tys' := [(cI, .int), (cZ, .boolean)]) [0, 1] rfl
  have hP : va_P D vwCl [(b, .inr (2, [.ref q1, .ref q2, .int 0, .int (-1), .int 0, .int 0, .ref q3, .null, .null, .null, .null, .null, .null, .null])), (q1, .inl (cI, 66, .inl (fun _ => 0))), (q2, .inl (cI, 66, .inl (fun _ => 0))), (q3, .inl (cZ, 8, .inl (fun _ => 0))), (q4, .inl (cI, 8, .inl (fun _ => 0)))] H := hP
  have hD : va_D A [(b, .inr (2, [.ref q1, .ref q2, .int 0, .int (-1), .int 0, .int 0, .ref q3, .null, .null, .null, .null, .null, .null, .null])), (q1, .inl (cI, 66, .inl (fun _ => 0))), (q2, .inl (cI, 66, .inl (fun _ => 0))), (q3, .inl (cZ, 8, .inl (fun _ => 0))), (q4, .inl (cI, 8, .inl (fun _ => 0)))] := hD
  have hK : va_K D vwCl [(cI, .int), (cZ, .boolean)] s := hK
  refine W.widen (k := 4) (n := 148) (Nat.le_of_ble_eq_true rfl) (Nat.le_of_ble_eq_true rfl) ?_
  refine va_putF (D := D) (ci := 2) (v := .ref q4) (ty := .array .int) (C := RX2) (T := TX2) (N := 14) hx hb hts hiF tyX2 tyX2_ok nmX2 hown hK hP hD hS 0 rfl rfl 7 (by decide) (hts (.fieldLink RX2 24 "TunerBenchModel" "what" "[I") (by decide +kernel)) (fun _ h9 => h9) rfl hin rfl (by decide +kernel) rfl rfl (Nat.le_of_ble_eq_true rfl) dX2_init_38 (fun H locs hP hD hS => ?_)
  have hP : va_P D vwCl [(b, .inr (2, [.ref q1, .ref q2, .int 0, .int (-1), .int 0, .int 0, .ref q3, .ref q4, .null, .null, .null, .null, .null, .null])), (q1, .inl (cI, 66, .inl (fun _ => 0))), (q2, .inl (cI, 66, .inl (fun _ => 0))), (q3, .inl (cZ, 8, .inl (fun _ => 0))), (q4, .inl (cI, 8, .inl (fun _ => 0)))] H := hP
  have hD : va_D A [(b, .inr (2, [.ref q1, .ref q2, .int 0, .int (-1), .int 0, .int 0, .ref q3, .ref q4, .null, .null, .null, .null, .null, .null])), (q1, .inl (cI, 66, .inl (fun _ => 0))), (q2, .inl (cI, 66, .inl (fun _ => 0))), (q3, .inl (cZ, 8, .inl (fun _ => 0))), (q4, .inl (cI, 8, .inl (fun _ => 0)))] := hD
  refine lv_aload_n hx hb dX2_init_41 rfl (lv_at hl 0 rfl) ?_
  refine lv_bipush (v := 8) hx hb dX2_init_42 (by decide) ?_
  refine va_newa (D := D) (atype := .int) (ty := .int) (a0 := (8, .inl (fun _ => 0))) (N' := 8) hx hb (hts (.arrayClass .int) (by decide +kernel)) rfl hK hP hD hS hA (vpz 8) (by decide) (by decide) (hb_i _ (by decide)) (Nat.le_of_ble_eq_true rfl) (Nat.le_of_ble_eq_true rfl) dX2_init_44 (fun q5 c9 H hK hP hD hS => ?_)
  obtain rfl : cI = c9 := Option.some.inj ((hK.2 0 (cI, .int) rfl).2.symm.trans (hK.2 2 (c9, .int) rfl).2)
  have hK := hK.sub (tys' := [(cI, .int), (cZ, .boolean)]) [0, 1] rfl
  have hP : va_P D vwCl [(b, .inr (2, [.ref q1, .ref q2, .int 0, .int (-1), .int 0, .int 0, .ref q3, .ref q4, .null, .null, .null, .null, .null, .null])), (q1, .inl (cI, 66, .inl (fun _ => 0))), (q2, .inl (cI, 66, .inl (fun _ => 0))), (q3, .inl (cZ, 8, .inl (fun _ => 0))), (q4, .inl (cI, 8, .inl (fun _ => 0))), (q5, .inl (cI, 8, .inl (fun _ => 0)))] H := hP
  have hD : va_D A [(b, .inr (2, [.ref q1, .ref q2, .int 0, .int (-1), .int 0, .int 0, .ref q3, .ref q4, .null, .null, .null, .null, .null, .null])), (q1, .inl (cI, 66, .inl (fun _ => 0))), (q2, .inl (cI, 66, .inl (fun _ => 0))), (q3, .inl (cZ, 8, .inl (fun _ => 0))), (q4, .inl (cI, 8, .inl (fun _ => 0))), (q5, .inl (cI, 8, .inl (fun _ => 0)))] := hD
  have hK : va_K D vwCl [(cI, .int), (cZ, .boolean)] s := hK
  refine W.widen (k := 5) (n := 156) (Nat.le_of_ble_eq_true rfl) (Nat.le_of_ble_eq_true rfl) ?_
  refine va_putF (D := D) (ci := 2) (v := .ref q5) (ty := .array .int) (C := RX2) (T := TX2) (N := 14) hx hb hts hiF tyX2 tyX2_ok nmX2 hown hK hP hD hS 0 rfl rfl 8 (by decide) (hts (.fieldLink RX2 27 "TunerBenchModel" "how" "[I") (by decide +kernel)) (fun _ h9 => h9) rfl hin rfl (by decide +kernel) rfl rfl (Nat.le_of_ble_eq_true rfl) dX2_init_46 (fun H locs hP hD hS => ?_)
  have hP : va_P D vwCl [(b, .inr (2, [.ref q1, .ref q2, .int 0, .int (-1), .int 0, .int 0, .ref q3, .ref q4, .ref q5, .null, .null, .null, .null, .null])), (q1, .inl (cI, 66, .inl (fun _ => 0))), (q2, .inl (cI, 66, .inl (fun _ => 0))), (q3, .inl (cZ, 8, .inl (fun _ => 0))), (q4, .inl (cI, 8, .inl (fun _ => 0))), (q5, .inl (cI, 8, .inl (fun _ => 0)))] H := hP
  have hD : va_D A [(b, .inr (2, [.ref q1, .ref q2, .int 0, .int (-1), .int 0, .int 0, .ref q3, .ref q4, .ref q5, .null, .null, .null, .null, .null])), (q1, .inl (cI, 66, .inl (fun _ => 0))), (q2, .inl (cI, 66, .inl (fun _ => 0))), (q3, .inl (cZ, 8, .inl (fun _ => 0))), (q4, .inl (cI, 8, .inl (fun _ => 0))), (q5, .inl (cI, 8, .inl (fun _ => 0)))] := hD
  refine lv_aload_n hx hb dX2_init_49 rfl (lv_at hl 0 rfl) ?_
  refine lv_bipush (v := 8) hx hb dX2_init_50 (by decide) ?_
  refine va_newa (D := D) (atype := .int) (ty := .int) (a0 := (8, .inl (fun _ => 0))) (N' := 8) hx hb (hts (.arrayClass .int) (by decide +kernel)) rfl hK hP hD hS hA (vpz 8) (by decide) (by decide) (hb_i _ (by decide)) (Nat.le_of_ble_eq_true rfl) (Nat.le_of_ble_eq_true rfl) dX2_init_52 (fun q6 c9 H hK hP hD hS => ?_)
  obtain rfl : cI = c9 := Option.some.inj ((hK.2 0 (cI, .int) rfl).2.symm.trans (hK.2 2 (c9, .int) rfl).2)
  have hK := hK.sub (tys' := [(cI, .int), (cZ, .boolean)]) [0, 1] rfl
  have hP : va_P D vwCl [(b, .inr (2, [.ref q1, .ref q2, .int 0, .int (-1), .int 0, .int 0, .ref q3, .ref q4, .ref q5, .null, .null, .null, .null, .null])), (q1, .inl (cI, 66, .inl (fun _ => 0))), (q2, .inl (cI, 66, .inl (fun _ => 0))), (q3, .inl (cZ, 8, .inl (fun _ => 0))), (q4, .inl (cI, 8, .inl (fun _ => 0))), (q5, .inl (cI, 8, .inl (fun _ => 0))), (q6, .inl (cI, 8, .inl (fun _ => 0)))] H := hP
  have hD : va_D A [(b, .inr (2, [.ref q1, .ref q2, .int 0, .int (-1), .int 0, .int 0, .ref q3, .ref q4, .ref q5, .null, .null, .null, .null, .null])), (q1, .inl (cI, 66, .inl (fun _ => 0))), (q2, .inl (cI, 66, .inl (fun _ => 0))), (q3, .inl (cZ, 8, .inl (fun _ => 0))), (q4, .inl (cI, 8, .inl (fun _ => 0))), (q5, .inl (cI, 8, .inl (fun _ => 0))), (q6, .inl (cI, 8, .inl (fun _ => 0)))] := hD
  have hK : va_K D vwCl [(cI, .int), (cZ, .boolean)] s := hK
  refine W.widen (k := 6) (n := 164) (Nat.le_of_ble_eq_true rfl) (Nat.le_of_ble_eq_true rfl) ?_
  refine va_putF (D := D) (ci := 2) (v := .ref q6) (ty := .array .int) (C := RX2) (T := TX2) (N := 14) hx hb hts hiF tyX2 tyX2_ok nmX2 hown hK hP hD hS 0 rfl rfl 9 (by decide) (hts (.fieldLink RX2 30 "TunerBenchModel" "mode" "[I") (by decide +kernel)) (fun _ h9 => h9) rfl hin rfl (by decide +kernel) rfl rfl (Nat.le_of_ble_eq_true rfl) dX2_init_54 (fun H locs hP hD hS => ?_)
  have hP : va_P D vwCl [(b, .inr (2, [.ref q1, .ref q2, .int 0, .int (-1), .int 0, .int 0, .ref q3, .ref q4, .ref q5, .ref q6, .null, .null, .null, .null])), (q1, .inl (cI, 66, .inl (fun _ => 0))), (q2, .inl (cI, 66, .inl (fun _ => 0))), (q3, .inl (cZ, 8, .inl (fun _ => 0))), (q4, .inl (cI, 8, .inl (fun _ => 0))), (q5, .inl (cI, 8, .inl (fun _ => 0))), (q6, .inl (cI, 8, .inl (fun _ => 0)))] H := hP
  have hD : va_D A [(b, .inr (2, [.ref q1, .ref q2, .int 0, .int (-1), .int 0, .int 0, .ref q3, .ref q4, .ref q5, .ref q6, .null, .null, .null, .null])), (q1, .inl (cI, 66, .inl (fun _ => 0))), (q2, .inl (cI, 66, .inl (fun _ => 0))), (q3, .inl (cZ, 8, .inl (fun _ => 0))), (q4, .inl (cI, 8, .inl (fun _ => 0))), (q5, .inl (cI, 8, .inl (fun _ => 0))), (q6, .inl (cI, 8, .inl (fun _ => 0)))] := hD
  refine lv_aload_n hx hb dX2_init_57 rfl (lv_at hl 0 rfl) ?_
  refine lv_bipush (v := 8) hx hb dX2_init_58 (by decide) ?_
  refine va_newa (D := D) (atype := .int) (ty := .int) (a0 := (8, .inl (fun _ => 0))) (N' := 8) hx hb (hts (.arrayClass .int) (by decide +kernel)) rfl hK hP hD hS hA (vpz 8) (by decide) (by decide) (hb_i _ (by decide)) (Nat.le_of_ble_eq_true rfl) (Nat.le_of_ble_eq_true rfl) dX2_init_60 (fun q7 c9 H hK hP hD hS => ?_)
  obtain rfl : cI = c9 := Option.some.inj ((hK.2 0 (cI, .int) rfl).2.symm.trans (hK.2 2 (c9, .int) rfl).2)
  have hK := hK.sub (tys' := [(cI, .int), (cZ, .boolean)]) [0, 1] rfl
  have hP : va_P D vwCl [(b, .inr (2, [.ref q1, .ref q2, .int 0, .int (-1), .int 0, .int 0, .ref q3, .ref q4, .ref q5, .ref q6, .null, .null, .null, .null])), (q1, .inl (cI, 66, .inl (fun _ => 0))), (q2, .inl (cI, 66, .inl (fun _ => 0))), (q3, .inl (cZ, 8, .inl (fun _ => 0))), (q4, .inl (cI, 8, .inl (fun _ => 0))), (q5, .inl (cI, 8, .inl (fun _ => 0))), (q6, .inl (cI, 8, .inl (fun _ => 0))), (q7, .inl (cI, 8, .inl (fun _ => 0)))] H := hP
  have hD : va_D A [(b, .inr (2, [.ref q1, .ref q2, .int 0, .int (-1), .int 0, .int 0, .ref q3, .ref q4, .ref q5, .ref q6, .null, .null, .null, .null])), (q1, .inl (cI, 66, .inl (fun _ => 0))), (q2, .inl (cI, 66, .inl (fun _ => 0))), (q3, .inl (cZ, 8, .inl (fun _ => 0))), (q4, .inl (cI, 8, .inl (fun _ => 0))), (q5, .inl (cI, 8, .inl (fun _ => 0))), (q6, .inl (cI, 8, .inl (fun _ => 0))), (q7, .inl (cI, 8, .inl (fun _ => 0)))] := hD
  have hK : va_K D vwCl [(cI, .int), (cZ, .boolean)] s := hK
  refine W.widen (k := 7) (n := 172) (Nat.le_of_ble_eq_true rfl) (Nat.le_of_ble_eq_true rfl) ?_
  refine va_putF (D := D) (ci := 2) (v := .ref q7) (ty := .array .int) (C := RX2) (T := TX2) (N := 14) hx hb hts hiF tyX2 tyX2_ok nmX2 hown hK hP hD hS 0 rfl rfl 10 (by decide) (hts (.fieldLink RX2 33 "TunerBenchModel" "keptSort" "[I") (by decide +kernel)) (fun _ h9 => h9) rfl hin rfl (by decide +kernel) rfl rfl (Nat.le_of_ble_eq_true rfl) dX2_init_62 (fun H locs hP hD hS => ?_)
  have hP : va_P D vwCl [(b, .inr (2, [.ref q1, .ref q2, .int 0, .int (-1), .int 0, .int 0, .ref q3, .ref q4, .ref q5, .ref q6, .ref q7, .null, .null, .null])), (q1, .inl (cI, 66, .inl (fun _ => 0))), (q2, .inl (cI, 66, .inl (fun _ => 0))), (q3, .inl (cZ, 8, .inl (fun _ => 0))), (q4, .inl (cI, 8, .inl (fun _ => 0))), (q5, .inl (cI, 8, .inl (fun _ => 0))), (q6, .inl (cI, 8, .inl (fun _ => 0))), (q7, .inl (cI, 8, .inl (fun _ => 0)))] H := hP
  have hD : va_D A [(b, .inr (2, [.ref q1, .ref q2, .int 0, .int (-1), .int 0, .int 0, .ref q3, .ref q4, .ref q5, .ref q6, .ref q7, .null, .null, .null])), (q1, .inl (cI, 66, .inl (fun _ => 0))), (q2, .inl (cI, 66, .inl (fun _ => 0))), (q3, .inl (cZ, 8, .inl (fun _ => 0))), (q4, .inl (cI, 8, .inl (fun _ => 0))), (q5, .inl (cI, 8, .inl (fun _ => 0))), (q6, .inl (cI, 8, .inl (fun _ => 0))), (q7, .inl (cI, 8, .inl (fun _ => 0)))] := hD
  refine lv_aload_n hx hb dX2_init_65 rfl (lv_at hl 0 rfl) ?_
  refine lv_bipush (v := 8) hx hb dX2_init_66 (by decide) ?_
  refine va_newa (D := D) (atype := .int) (ty := .int) (a0 := (8, .inl (fun _ => 0))) (N' := 8) hx hb (hts (.arrayClass .int) (by decide +kernel)) rfl hK hP hD hS hA (vpz 8) (by decide) (by decide) (hb_i _ (by decide)) (Nat.le_of_ble_eq_true rfl) (Nat.le_of_ble_eq_true rfl) dX2_init_68 (fun q8 c9 H hK hP hD hS => ?_)
  obtain rfl : cI = c9 := Option.some.inj ((hK.2 0 (cI, .int) rfl).2.symm.trans (hK.2 2 (c9, .int) rfl).2)
  have hK := hK.sub (tys' := [(cI, .int), (cZ, .boolean)]) [0, 1] rfl
  have hP : va_P D vwCl [(b, .inr (2, [.ref q1, .ref q2, .int 0, .int (-1), .int 0, .int 0, .ref q3, .ref q4, .ref q5, .ref q6, .ref q7, .null, .null, .null])), (q1, .inl (cI, 66, .inl (fun _ => 0))), (q2, .inl (cI, 66, .inl (fun _ => 0))), (q3, .inl (cZ, 8, .inl (fun _ => 0))), (q4, .inl (cI, 8, .inl (fun _ => 0))), (q5, .inl (cI, 8, .inl (fun _ => 0))), (q6, .inl (cI, 8, .inl (fun _ => 0))), (q7, .inl (cI, 8, .inl (fun _ => 0))), (q8, .inl (cI, 8, .inl (fun _ => 0)))] H := hP
  have hD : va_D A [(b, .inr (2, [.ref q1, .ref q2, .int 0, .int (-1), .int 0, .int 0, .ref q3, .ref q4, .ref q5, .ref q6, .ref q7, .null, .null, .null])), (q1, .inl (cI, 66, .inl (fun _ => 0))), (q2, .inl (cI, 66, .inl (fun _ => 0))), (q3, .inl (cZ, 8, .inl (fun _ => 0))), (q4, .inl (cI, 8, .inl (fun _ => 0))), (q5, .inl (cI, 8, .inl (fun _ => 0))), (q6, .inl (cI, 8, .inl (fun _ => 0))), (q7, .inl (cI, 8, .inl (fun _ => 0))), (q8, .inl (cI, 8, .inl (fun _ => 0)))] := hD
  have hK : va_K D vwCl [(cI, .int), (cZ, .boolean)] s := hK
  refine W.widen (k := 8) (n := 180) (Nat.le_of_ble_eq_true rfl) (Nat.le_of_ble_eq_true rfl) ?_
  refine va_putF (D := D) (ci := 2) (v := .ref q8) (ty := .array .int) (C := RX2) (T := TX2) (N := 14) hx hb hts hiF tyX2 tyX2_ok nmX2 hown hK hP hD hS 0 rfl rfl 11 (by decide) (hts (.fieldLink RX2 36 "TunerBenchModel" "keptQuarters" "[I") (by decide +kernel)) (fun _ h9 => h9) rfl hin rfl (by decide +kernel) rfl rfl (Nat.le_of_ble_eq_true rfl) dX2_init_70 (fun H locs hP hD hS => ?_)
  have hP : va_P D vwCl [(b, .inr (2, [.ref q1, .ref q2, .int 0, .int (-1), .int 0, .int 0, .ref q3, .ref q4, .ref q5, .ref q6, .ref q7, .ref q8, .null, .null])), (q1, .inl (cI, 66, .inl (fun _ => 0))), (q2, .inl (cI, 66, .inl (fun _ => 0))), (q3, .inl (cZ, 8, .inl (fun _ => 0))), (q4, .inl (cI, 8, .inl (fun _ => 0))), (q5, .inl (cI, 8, .inl (fun _ => 0))), (q6, .inl (cI, 8, .inl (fun _ => 0))), (q7, .inl (cI, 8, .inl (fun _ => 0))), (q8, .inl (cI, 8, .inl (fun _ => 0)))] H := hP
  have hD : va_D A [(b, .inr (2, [.ref q1, .ref q2, .int 0, .int (-1), .int 0, .int 0, .ref q3, .ref q4, .ref q5, .ref q6, .ref q7, .ref q8, .null, .null])), (q1, .inl (cI, 66, .inl (fun _ => 0))), (q2, .inl (cI, 66, .inl (fun _ => 0))), (q3, .inl (cZ, 8, .inl (fun _ => 0))), (q4, .inl (cI, 8, .inl (fun _ => 0))), (q5, .inl (cI, 8, .inl (fun _ => 0))), (q6, .inl (cI, 8, .inl (fun _ => 0))), (q7, .inl (cI, 8, .inl (fun _ => 0))), (q8, .inl (cI, 8, .inl (fun _ => 0)))] := hD
  refine lv_aload_n hx hb dX2_init_73 rfl (lv_at hl 0 rfl) ?_
  refine lv_bipush (v := 8) hx hb dX2_init_74 (by decide) ?_
  refine va_newa (D := D) (atype := .boolean) (ty := .boolean) (a0 := (8, .inl (fun _ => 0))) (N' := 8) hx hb (hts (.arrayClass .boolean) (by decide +kernel)) rfl hK hP hD hS hA (vpz 8) (by decide) (by decide) (hb_z _ (by decide)) (Nat.le_of_ble_eq_true rfl) (Nat.le_of_ble_eq_true rfl) dX2_init_76 (fun q9 c9 H hK hP hD hS => ?_)
  obtain rfl : cZ = c9 := Option.some.inj ((hK.2 1 (cZ, .boolean) rfl).2.symm.trans (hK.2 2 (c9, .boolean) rfl).2)
  have hK := hK.sub (tys' := [(cI, .int), (cZ, .boolean)]) [0, 1] rfl
  have hP : va_P D vwCl [(b, .inr (2, [.ref q1, .ref q2, .int 0, .int (-1), .int 0, .int 0, .ref q3, .ref q4, .ref q5, .ref q6, .ref q7, .ref q8, .null, .null])), (q1, .inl (cI, 66, .inl (fun _ => 0))), (q2, .inl (cI, 66, .inl (fun _ => 0))), (q3, .inl (cZ, 8, .inl (fun _ => 0))), (q4, .inl (cI, 8, .inl (fun _ => 0))), (q5, .inl (cI, 8, .inl (fun _ => 0))), (q6, .inl (cI, 8, .inl (fun _ => 0))), (q7, .inl (cI, 8, .inl (fun _ => 0))), (q8, .inl (cI, 8, .inl (fun _ => 0))), (q9, .inl (cZ, 8, .inl (fun _ => 0)))] H := hP
  have hD : va_D A [(b, .inr (2, [.ref q1, .ref q2, .int 0, .int (-1), .int 0, .int 0, .ref q3, .ref q4, .ref q5, .ref q6, .ref q7, .ref q8, .null, .null])), (q1, .inl (cI, 66, .inl (fun _ => 0))), (q2, .inl (cI, 66, .inl (fun _ => 0))), (q3, .inl (cZ, 8, .inl (fun _ => 0))), (q4, .inl (cI, 8, .inl (fun _ => 0))), (q5, .inl (cI, 8, .inl (fun _ => 0))), (q6, .inl (cI, 8, .inl (fun _ => 0))), (q7, .inl (cI, 8, .inl (fun _ => 0))), (q8, .inl (cI, 8, .inl (fun _ => 0))), (q9, .inl (cZ, 8, .inl (fun _ => 0)))] := hD
  have hK : va_K D vwCl [(cI, .int), (cZ, .boolean)] s := hK
  refine W.widen (k := 9) (n := 188) (Nat.le_of_ble_eq_true rfl) (Nat.le_of_ble_eq_true rfl) ?_
  refine va_putF (D := D) (ci := 2) (v := .ref q9) (ty := .array .boolean) (C := RX2) (T := TX2) (N := 14) hx hb hts hiF tyX2 tyX2_ok nmX2 hown hK hP hD hS 0 rfl rfl 12 (by decide) (hts (.fieldLink RX2 39 "TunerBenchModel" "did" "[Z") (by decide +kernel)) (fun _ h9 => h9) rfl hin rfl (by decide +kernel) rfl rfl (Nat.le_of_ble_eq_true rfl) dX2_init_78 (fun H locs hP hD hS => ?_)
  have hP : va_P D vwCl [(b, .inr (2, [.ref q1, .ref q2, .int 0, .int (-1), .int 0, .int 0, .ref q3, .ref q4, .ref q5, .ref q6, .ref q7, .ref q8, .ref q9, .null])), (q1, .inl (cI, 66, .inl (fun _ => 0))), (q2, .inl (cI, 66, .inl (fun _ => 0))), (q3, .inl (cZ, 8, .inl (fun _ => 0))), (q4, .inl (cI, 8, .inl (fun _ => 0))), (q5, .inl (cI, 8, .inl (fun _ => 0))), (q6, .inl (cI, 8, .inl (fun _ => 0))), (q7, .inl (cI, 8, .inl (fun _ => 0))), (q8, .inl (cI, 8, .inl (fun _ => 0))), (q9, .inl (cZ, 8, .inl (fun _ => 0)))] H := hP
  have hD : va_D A [(b, .inr (2, [.ref q1, .ref q2, .int 0, .int (-1), .int 0, .int 0, .ref q3, .ref q4, .ref q5, .ref q6, .ref q7, .ref q8, .ref q9, .null])), (q1, .inl (cI, 66, .inl (fun _ => 0))), (q2, .inl (cI, 66, .inl (fun _ => 0))), (q3, .inl (cZ, 8, .inl (fun _ => 0))), (q4, .inl (cI, 8, .inl (fun _ => 0))), (q5, .inl (cI, 8, .inl (fun _ => 0))), (q6, .inl (cI, 8, .inl (fun _ => 0))), (q7, .inl (cI, 8, .inl (fun _ => 0))), (q8, .inl (cI, 8, .inl (fun _ => 0))), (q9, .inl (cZ, 8, .inl (fun _ => 0)))] := hD
  refine lv_aload_n hx hb dX2_init_81 rfl (lv_at hl 0 rfl) ?_
  refine lv_bipush (v := 8) hx hb dX2_init_82 (by decide) ?_
  refine va_newa (D := D) (atype := .int) (ty := .int) (a0 := (8, .inl (fun _ => 0))) (N' := 8) hx hb (hts (.arrayClass .int) (by decide +kernel)) rfl hK hP hD hS hA (vpz 8) (by decide) (by decide) (hb_i _ (by decide)) (Nat.le_of_ble_eq_true rfl) (Nat.le_of_ble_eq_true rfl) dX2_init_84 (fun q10 c9 H hK hP hD hS => ?_)
  obtain rfl : cI = c9 := Option.some.inj ((hK.2 0 (cI, .int) rfl).2.symm.trans (hK.2 2 (c9, .int) rfl).2)
  have hK := hK.sub (tys' := [(cI, .int), (cZ, .boolean)]) [0, 1] rfl
  have hP : va_P D vwCl [(b, .inr (2, [.ref q1, .ref q2, .int 0, .int (-1), .int 0, .int 0, .ref q3, .ref q4, .ref q5, .ref q6, .ref q7, .ref q8, .ref q9, .null])), (q1, .inl (cI, 66, .inl (fun _ => 0))), (q2, .inl (cI, 66, .inl (fun _ => 0))), (q3, .inl (cZ, 8, .inl (fun _ => 0))), (q4, .inl (cI, 8, .inl (fun _ => 0))), (q5, .inl (cI, 8, .inl (fun _ => 0))), (q6, .inl (cI, 8, .inl (fun _ => 0))), (q7, .inl (cI, 8, .inl (fun _ => 0))), (q8, .inl (cI, 8, .inl (fun _ => 0))), (q9, .inl (cZ, 8, .inl (fun _ => 0))), (q10, .inl (cI, 8, .inl (fun _ => 0)))] H := hP
  have hD : va_D A [(b, .inr (2, [.ref q1, .ref q2, .int 0, .int (-1), .int 0, .int 0, .ref q3, .ref q4, .ref q5, .ref q6, .ref q7, .ref q8, .ref q9, .null])), (q1, .inl (cI, 66, .inl (fun _ => 0))), (q2, .inl (cI, 66, .inl (fun _ => 0))), (q3, .inl (cZ, 8, .inl (fun _ => 0))), (q4, .inl (cI, 8, .inl (fun _ => 0))), (q5, .inl (cI, 8, .inl (fun _ => 0))), (q6, .inl (cI, 8, .inl (fun _ => 0))), (q7, .inl (cI, 8, .inl (fun _ => 0))), (q8, .inl (cI, 8, .inl (fun _ => 0))), (q9, .inl (cZ, 8, .inl (fun _ => 0))), (q10, .inl (cI, 8, .inl (fun _ => 0)))] := hD
  have hK : va_K D vwCl [(cI, .int), (cZ, .boolean)] s := hK
  refine W.widen (k := 10) (n := 196) (Nat.le_of_ble_eq_true rfl) (Nat.le_of_ble_eq_true rfl) ?_
  refine va_putF (D := D) (ci := 2) (v := .ref q10) (ty := .array .int) (C := RX2) (T := TX2) (N := 14) hx hb hts hiF tyX2 tyX2_ok nmX2 hown hK hP hD hS 0 rfl rfl 13 (by decide) (hts (.fieldLink RX2 42 "TunerBenchModel" "rings" "[I") (by decide +kernel)) (fun _ h9 => h9) rfl hin rfl (by decide +kernel) rfl rfl (Nat.le_of_ble_eq_true rfl) dX2_init_86 (fun H locs hP hD hS => ?_)
  have hP : va_P D vwCl [(b, .inr (2, [.ref q1, .ref q2, .int 0, .int (-1), .int 0, .int 0, .ref q3, .ref q4, .ref q5, .ref q6, .ref q7, .ref q8, .ref q9, .ref q10])), (q1, .inl (cI, 66, .inl (fun _ => 0))), (q2, .inl (cI, 66, .inl (fun _ => 0))), (q3, .inl (cZ, 8, .inl (fun _ => 0))), (q4, .inl (cI, 8, .inl (fun _ => 0))), (q5, .inl (cI, 8, .inl (fun _ => 0))), (q6, .inl (cI, 8, .inl (fun _ => 0))), (q7, .inl (cI, 8, .inl (fun _ => 0))), (q8, .inl (cI, 8, .inl (fun _ => 0))), (q9, .inl (cZ, 8, .inl (fun _ => 0))), (q10, .inl (cI, 8, .inl (fun _ => 0)))] H := hP
  have hD : va_D A [(b, .inr (2, [.ref q1, .ref q2, .int 0, .int (-1), .int 0, .int 0, .ref q3, .ref q4, .ref q5, .ref q6, .ref q7, .ref q8, .ref q9, .ref q10])), (q1, .inl (cI, 66, .inl (fun _ => 0))), (q2, .inl (cI, 66, .inl (fun _ => 0))), (q3, .inl (cZ, 8, .inl (fun _ => 0))), (q4, .inl (cI, 8, .inl (fun _ => 0))), (q5, .inl (cI, 8, .inl (fun _ => 0))), (q6, .inl (cI, 8, .inl (fun _ => 0))), (q7, .inl (cI, 8, .inl (fun _ => 0))), (q8, .inl (cI, 8, .inl (fun _ => 0))), (q9, .inl (cZ, 8, .inl (fun _ => 0))), (q10, .inl (cI, 8, .inl (fun _ => 0)))] := hD
  refine lv_iconst (v := 0) hx hb dX2_init_89 (by decide) ?_
  refine lv_istore_n (lv' := [(1, .int 0), (0, .ref b)]) hx hb dX2_init_90 rfl hl (by decide) rfl (fun ls hl => ?_)
  have loop : ∀ (n k : Nat), k + n = 66 → ∀ (H : Heap) (locs : List Loc), va_P D vwCl [(b, .inr (2, [.ref q1, .ref q2, .int 0, .int (-1), .int 0, .int 0, .ref q3, .ref q4, .ref q5, .ref q6, .ref q7, .ref q8, .ref q9, .ref q10])), (q1, .inl (cI, 66, .inl (flF (fun _ => 0) 1 k))), (q2, .inl (cI, 66, .inl (fun _ => 0))), (q3, .inl (cZ, 8, .inl (fun _ => 0))), (q4, .inl (cI, 8, .inl (fun _ => 0))), (q5, .inl (cI, 8, .inl (fun _ => 0))), (q6, .inl (cI, 8, .inl (fun _ => 0))), (q7, .inl (cI, 8, .inl (fun _ => 0))), (q8, .inl (cI, 8, .inl (fun _ => 0))), (q9, .inl (cZ, 8, .inl (fun _ => 0))), (q10, .inl (cI, 8, .inl (fun _ => 0)))] H → va_D A [(b, .inr (2, [.ref q1, .ref q2, .int 0, .int (-1), .int 0, .int 0, .ref q3, .ref q4, .ref q5, .ref q6, .ref q7, .ref q8, .ref q9, .ref q10])), (q1, .inl (cI, 66, .inl (flF (fun _ => 0) 1 k))), (q2, .inl (cI, 66, .inl (fun _ => 0))), (q3, .inl (cZ, 8, .inl (fun _ => 0))), (q4, .inl (cI, 8, .inl (fun _ => 0))), (q5, .inl (cI, 8, .inl (fun _ => 0))), (q6, .inl (cI, 8, .inl (fun _ => 0))), (q7, .inl (cI, 8, .inl (fun _ => 0))), (q8, .inl (cI, 8, .inl (fun _ => 0))), (q9, .inl (cZ, 8, .inl (fun _ => 0))), (q10, .inl (cI, 8, .inl (fun _ => 0)))] → va_S A s.heap H locs → ∀ ls : Array Slot, lv_has ls 2 [(1, .int (nI k)), (0, .ref b)] → W p l e ({ frames := 1, cells := 10, slots := 196, locals := 12 }) s m ([.ref b] : List Value).toArray below meth c H locs 10 196 (MQ below (xQv (S := (Nat → Nat) × ClassId × ClassId) D vwCl (fun u => u.1 0 = b) (fun u => mb u.1 u.2.1 u.2.2 (fun _ _ => 40003) (fun _ => none) 0 (-1) 0 0) (fun u => mT u.2.1 u.2.2) A) ([.ref b] : List Value).toArray s 10 196 A) (F0 m 91 ls []) := by
    intro n
    induction n with
    | zero =>
      intro k hk H locs hP hD hS ls hl
      obtain rfl : k = 66 := by omega
      refine lv_iload_n hx hb dX2_init_91 rfl (lv_at hl 0 rfl) ?_
      refine lv_aload_n hx hb dX2_init_92 rfl (lv_at hl 1 rfl) ?_
      refine va_get (D := D) (ci := 2) (v := .ref q1) (C := RX2) (T := TX2) (N := 14) hx hb hts hiF hown hK hP 0 rfl rfl 0 (by decide) (hts (.fieldLink RX2 7 "TunerBenchModel" "sorts" "[I") (by decide +kernel)) (fun _ h9 => h9) rfl dX2_init_93 ?_
      refine va_alen (D := D) hx hb hK hP 1 0 rfl rfl (v := 66) rfl dX2_init_96 ?_
      refine lv_icmp_ge (tgt := 113) hx hb dX2_init_97 (by decide) (fun c_1 => ?_) (fun c_1 => absurd (by decide) c_1)
      have hP : va_P D vwCl (mb (fun i => if i = 0 then b else if i = 1 then q1 else if i = 2 then q2 else if i = 3 then q3 else if i = 4 then q4 else if i = 5 then q5 else if i = 6 then q6 else if i = 7 then q7 else if i = 8 then q8 else if i = 9 then q9 else q10) cI cZ (fun _ _ => 40003) (fun _ => none) 0 (-1) 0 0) H := fun k x hk => by
        match k, hk with
        | 0, hk => cases hk; exact hP 0 _ rfl
        | 1, hk => cases hk; exact va_ci (fun j hj => by rw [mso_1]; simp [flF, hj]) (hP 1 _ rfl)
        | 2, hk => cases hk; exact va_ci (fun j hj => (mqu_0 j).symm) (hP 2 _ rfl)
        | 3, hk => cases hk; exact va_ci (fun j hj => (mis_0 j).symm) (hP 3 _ rfl)
        | 4, hk => cases hk; exact va_ci (fun j hj => (gse_0 _ j).symm) (hP 4 _ rfl)
        | 5, hk => cases hk; exact va_ci (fun j hj => (gse_0 _ j).symm) (hP 5 _ rfl)
        | 6, hk => cases hk; exact va_ci (fun j hj => (gse_0 _ j).symm) (hP 6 _ rfl)
        | 7, hk => cases hk; exact va_ci (fun j hj => (gse_0 _ j).symm) (hP 7 _ rfl)
        | 8, hk => cases hk; exact va_ci (fun j hj => (gse_0 _ j).symm) (hP 8 _ rfl)
        | 9, hk => cases hk; exact va_ci (fun j hj => (gse_0 _ j).symm) (hP 9 _ rfl)
        | 10, hk => cases hk; exact va_ci (fun j hj => (gse_0 _ j).symm) (hP 10 _ rfl)
        | k + 11, hk => simp at hk
      have hD : va_D A (mb (fun i => if i = 0 then b else if i = 1 then q1 else if i = 2 then q2 else if i = 3 then q3 else if i = 4 then q4 else if i = 5 then q5 else if i = 6 then q6 else if i = 7 then q7 else if i = 8 then q8 else if i = 9 then q9 else q10) cI cZ (fun _ _ => 40003) (fun _ => none) 0 (-1) 0 0) := xd_ad hD rfl
      exact xw_v (S := (Nat → Nat) × ClassId × ClassId) ((fun i => if i = 0 then b else if i = 1 then q1 else if i = 2 then q2 else if i = 3 then q3 else if i = 4 then q4 else if i = 5 then q5 else if i = 6 then q6 else if i = 7 then q7 else if i = 8 then q8 else if i = 9 then q9 else q10), cI, cZ) hx hb hr hlk dX2_init_113 hP hK hD hS rfl
    | succ n ih =>
      intro k hk H locs hP hD hS ls hl
      refine lv_iload_n hx hb dX2_init_91 rfl (lv_at hl 0 rfl) ?_
      refine lv_aload_n hx hb dX2_init_92 rfl (lv_at hl 1 rfl) ?_
      refine va_get (D := D) (ci := 2) (v := .ref q1) (C := RX2) (T := TX2) (N := 14) hx hb hts hiF hown hK hP 0 rfl rfl 0 (by decide) (hts (.fieldLink RX2 7 "TunerBenchModel" "sorts" "[I") (by decide +kernel)) (fun _ h9 => h9) rfl dX2_init_93 ?_
      refine va_alen (D := D) hx hb hK hP 1 0 rfl rfl (v := 66) rfl dX2_init_96 ?_
      refine lv_icmp_ge (tgt := 113) hx hb dX2_init_97 (by decide) (fun c_2 => absurd c_2 (nI_ge (show k < 66 by omega) (by decide))) (fun c_2 => ?_)
      refine lv_aload_n hx hb dX2_init_100 rfl (lv_at hl 1 rfl) ?_
      refine va_get (D := D) (ci := 2) (v := .ref q1) (C := RX2) (T := TX2) (N := 14) hx hb hts hiF hown hK hP 0 rfl rfl 0 (by decide) (hts (.fieldLink RX2 7 "TunerBenchModel" "sorts" "[I") (by decide +kernel)) (fun _ h9 => h9) rfl dX2_init_101 ?_
      refine lv_iload_n hx hb dX2_init_104 rfl (lv_at hl 0 rfl) ?_
      refine lv_iconst (v := 1) hx hb dX2_init_105 (by decide) ?_
      refine va_iast (D := D) hx hb hK hP hD hS 1 0 rfl rfl (vp_in_nI (show k < 66 by omega) (by decide)) dX2_init_106 (fun H locs hP hD hS => ?_)
      rw [nI_clamp (show k < 2 ^ 31 by omega)] at hP hD
      have hP : va_P D vwCl [(b, .inr (2, [.ref q1, .ref q2, .int 0, .int (-1), .int 0, .int 0, .ref q3, .ref q4, .ref q5, .ref q6, .ref q7, .ref q8, .ref q9, .ref q10])), (q1, .inl (cI, 66, .inl (flF (fun _ => 0) 1 (k + 1)))), (q2, .inl (cI, 66, .inl (fun _ => 0))), (q3, .inl (cZ, 8, .inl (fun _ => 0))), (q4, .inl (cI, 8, .inl (fun _ => 0))), (q5, .inl (cI, 8, .inl (fun _ => 0))), (q6, .inl (cI, 8, .inl (fun _ => 0))), (q7, .inl (cI, 8, .inl (fun _ => 0))), (q8, .inl (cI, 8, .inl (fun _ => 0))), (q9, .inl (cZ, 8, .inl (fun _ => 0))), (q10, .inl (cI, 8, .inl (fun _ => 0)))] H := by rw [← flF_up]; exact hP
      have hD : va_D A [(b, .inr (2, [.ref q1, .ref q2, .int 0, .int (-1), .int 0, .int 0, .ref q3, .ref q4, .ref q5, .ref q6, .ref q7, .ref q8, .ref q9, .ref q10])), (q1, .inl (cI, 66, .inl (flF (fun _ => 0) 1 (k + 1)))), (q2, .inl (cI, 66, .inl (fun _ => 0))), (q3, .inl (cZ, 8, .inl (fun _ => 0))), (q4, .inl (cI, 8, .inl (fun _ => 0))), (q5, .inl (cI, 8, .inl (fun _ => 0))), (q6, .inl (cI, 8, .inl (fun _ => 0))), (q7, .inl (cI, 8, .inl (fun _ => 0))), (q8, .inl (cI, 8, .inl (fun _ => 0))), (q9, .inl (cZ, 8, .inl (fun _ => 0))), (q10, .inl (cI, 8, .inl (fun _ => 0)))] := by rw [← flF_up]; exact hD
      refine lv_iinc (v := nI (k + 1)) (lv' := [(1, .int (nI (k + 1))), (0, .ref b)]) hx hb dX2_init_107 hl (k := 0) rfl (nI_1 k) (by decide) rfl (fun ls hl => ?_)
      refine lv_goto (tgt := 91) hx hb dX2_init_110 (by decide) ?_
      exact ih (k + 1) (by omega) H locs hP hD hS ls (lv_sub hl [0, 1] rfl)
  exact loop 66 0 (by omega) _ _ (by rw [flF_0]; exact hP) (by rw [flF_0]; exact hD) hS ls (lv_sub hl [0, 1] rfl)
end
section
/-! THE CLAIM OUT OF ONE WALK OF THE LAW'S BODY. Your part is whole_start (and what it stands on); all else here is the same for every law, but numbers. -/
def R_law : String := "TunerBenchLaw"
def lw_P (b : Addr) (xs : List Int32) (args : Array Value) (s : State) : Prop := args = #[.ref b] ∧ s.IntsAt b xs ∧ xs.length ≤ 3072 ∧ (Jvm.Cond.and given_1 narrow_1).before args s = true
def lw_Q (_ : Array Value) (s : State) (o : Outcome) (t : State) : Prop := o = .returned (some (.int 1)) ∧ Framed s o t [] room_1.cells room_1.slots
def lw_Z (below : List Frame) (a : Array Value) (s : State) : State → Prop := fun t => ∃ o, t.status = .running ∧ Ended t below o ∧ lw_Q a s o t
/-- the law's own end, with 1 on the stack, nothing written that was there before, its room as the claim has it -/
theorem lw_ret {p : Program} {l : Launch} {e : Env} {s : State} {m : MethodId} {below : List Frame} {meth : Method} {c : Code} {b : Nat} (hx : p.tables.exec = Jvm.exec) (hb : c.code = code) (hr : meth.sig.returnType = ret) (hlocks : meth.locks = false) {pc : Nat} {H : Heap} {ls : Array Slot} (hdg : decode code pc = .ok (.ireturn, 1)) : W p l e room_1 s m #[Value.ref b] below meth c H [] room_1.cells room_1.slots (lw_Z below #[Value.ref b] s) (F0 m pc ls [.int 1]) := by
  intro T hT X
  obtain ⟨fs, hret, hrun, hended, hW, hframe⟩ := X.leave (v := some (.int 1)) (hlocks := hlocks) (fun h => by rw [hr] at h; cases h)
  have hmeth' : T.vm.method? m = some meth := X.method'
  refine ⟨T.setFrames fs, ?_, .returned (some (.int 1)), hrun, hended, rfl, ⟨_, rfl⟩, hW, hframe⟩
  jvm_step X.here [X.here.top, hx, hb, hdg, hmeth', hr, ret, narrow_b1]
  (try refine ⟨rfl, ?_⟩); (try refine ⟨rfl, ?_⟩)
  first | (intro acts; rw [hret _ acts rfl rfl rfl]) | rw [hret _ _ rfl rfl rfl]
  exact Steps.refl _
/-- what holds at the law's entry: the machine, the code, the tables' words (any of lw_tbl by 'hts w (by decide +kernel)'), the script of L ints xs at the cell b, what the Statement gives of the start (any of its parts by flat_of_before) -/
def lw_At (p : Program) (s : State) (m : MethodId) (meth : Method) (c : Code) (b L : Nat) (xs : Nat → Int32) : Prop :=
  p.tables.exec = Jvm.exec ∧ c.code = code ∧ meth.sig.returnType = ret ∧ c.maxLocals = 4 ∧ s.vm.findClass R_law = some m.cls ∧ (∀ w ∈ lw_tbl, w.before #[Value.ref b] s = true) ∧ va_X b L xs s s.heap ∧ b < s.heap.size ∧ meth.locks = false ∧ (Jvm.Cond.and given_1 narrow_1).before #[Value.ref b] s = true
/-- what the law's run takes of the room, at the most 3090 cells and 18730 slots, is there -/
theorem rm_c : 4000 ≤ room_1.cells := Nat.le_of_ble_eq_true rfl
theorem rm_s : 20000 ≤ room_1.slots := Nat.le_of_ble_eq_true rfl
/-! the invariant of the law's loop -/
abbrev lT (cV cI cG cJ cZ : ClassId) : List (ClassId × FieldType) := [(cV, .array .int), (cI, .int), (cG, .object "TunerBench$Guard"), (cJ, .int), (cZ, .boolean)]
abbrev lww (a bm : Nat → Nat) (cV cI cG cJ cZ : ClassId) (v : Nat → Nat → Int32) (G : Nat → Option GT) (gg : Nat → Option Nat) (L : List Nat) (f : Nat → va_E) (dn lt ch : Int32) : va_W := cb a cV cI cG v gg dn lt ch ++ (va_pl L f ++ mb bm cJ cZ v G dn lt ch (nI (cntG G 8)))
def gOk (G : Nat → Option GT) : Prop := ∀ (g : Nat) (t : GT), g < 8 → G g = some t → vp_in t.1 2 ∧ isHb t.2.1 = true ∧ okV t.2.2.1
def lInv (s : State) (D : va_G) (a bm : Nat → Nat) (cV cI cG cJ cZ : ClassId) (v : Nat → Nat → Int32) (G : Nat → Option GT) (gg : Nat → Option Nat) (L : List Nat) (f : Nat → va_E) (dn lt ch : Int32) (H : Heap) (locs : List Loc) : Prop :=
  va_P D vwCl (lww a bm cV cI cG cJ cZ v G gg L f dn lt ch) H ∧ va_D (fun q : Nat => s.heap.size ≤ q) (lww a bm cV cI cG cJ cZ v G gg L f dn lt ch) ∧ va_S (fun q : Nat => s.heap.size ≤ q) s.heap H locs ∧ GR G gg L f ∧ (∀ i j : Nat, okV (v i j)) ∧ gOk G
def lNext (p : Program) (l : Launch) (e : Env) (s : State) (m : MethodId) (below : List Frame) (meth : Method) (c : Code) (D : va_G) (a bm : Nat → Nat) (cV cI cG cJ cZ : ClassId) (b i ce se : Nat) : Prop :=
  ∀ (v : Nat → Nat → Int32) (G : Nat → Option GT) (gg : Nat → Option Nat) (L : List Nat) (f : Nat → va_E) (dn lt ch : Int32) (H : Heap) (locs : List Loc) (ls : Array Slot), lInv s D a bm cV cI cG cJ cZ v G gg L f dn lt ch H locs → lv_has ls 4 [(3, .int (nI i)), (0, .ref b), (1, .ref (a 0)), (2, .ref (bm 0))] → W p l e room_1 s m #[Value.ref b] below meth c H locs ce se (lw_Z below #[Value.ref b] s) (F0 m 812 ls [])
theorem ok_up {v : Nat → Nat → Int32} {w k : Nat} {x : Int32} (h : ∀ i j : Nat, okV (v i j)) (hx : okV x) : ∀ i j : Nat, okV (up2 v w k x i j) := by
  intro i j
  unfold up2
  by_cases h1 : i = w ∧ j = k
  · rw [if_pos h1]; exact hx
  · rw [if_neg h1]; exact h i j
theorem ok_put {v : Nat → Nat → Int32} {w x so q : Int32} (h : ∀ i j : Nat, okV (v i j)) : ∀ i j : Nat, okV (nPut v w x so q i j) := by
  unfold nPut
  by_cases h1 : aPut w x so q = true
  · rw [if_pos h1]
    simp [aPut] at h1
    exact ok_up h (val_ok h1.2.2).1
  · rw [if_neg h1]; exact h
theorem ok_ps {w : Nat} {h0 : Int32} : ∀ (n k : Nat) (v : Nat → Nat → Int32) (c : Nat), (∀ i j : Nat, okV (v i j)) → ∀ i j : Nat, okV ((psF w h0 n k v c).1 i j)
  | 0, _, _, _, h => h
  | n + 1, k, v, c, h => by
    unfold psF
    by_cases h1 : stnF h0 (v w k) (v w (k + 1)) = true
    · rw [if_pos h1]; exact ok_ps n (k + 1) v c h
    · rw [if_neg h1]; exact ok_ps n (k + 1) _ (c + 1) (okS h trivial)
theorem ok_pass {v : Nat → Nat → Int32} {w h0 x y : Int32} (h : ∀ i j : Nat, okV (v i j)) : ∀ i j : Nat, okV (nPass v w h0 x y i j) := by
  unfold nPass
  by_cases h1 : pB w h0 x y = true
  · rw [if_pos h1]; exact ok_ps _ _ v 0 h
  · rw [if_neg h1]; exact h
theorem ok_stri {v : Nat → Nat → Int32} {x : Int32} (h : ∀ i j : Nat, okV (v i j)) : ∀ i j : Nat, okV (nStri v x i j) := by
  unfold nStri
  by_cases h1 : isSb x = true
  · rw [if_pos h1]; exact ok_up (ok_up h (h _ _)) (h _ _)
  · rw [if_neg h1]; exact h
theorem gs_of {G : Nat → Option GT} {gg : Nat → Option Nat} {L : List Nat} {f : Nat → va_E} (h : GR G gg L f) : ∀ k : Nat, k < 8 → (gg k).isSome = (G k).isSome := fun k hk => by
  rcases h.1 k hk with ⟨h1, h2⟩ | ⟨t, x, h1, h2, -⟩
  · rw [h1, h2]; rfl
  · rw [h1, h2]; rfl
theorem cnt_up (G : Nat → Option GT) (k : Nat) (t : GT) : ∀ n : Nat, cntG (va_up G k (some t)) n = cntG G n + (if k < n ∧ (G k).isSome = false then 1 else 0)
  | 0 => by simp [cntG]
  | n + 1 => by
    have ih := cnt_up G k t n
    unfold cntG
    rw [ih]
    by_cases e : n = k
    · subst e
      cases hG : (G n).isSome <;> simp [va_up, hG]
    · have h1 : va_up G k (some t) n = G n := by simp [va_up, e]
      rw [h1]
      by_cases h2 : k < n
      · simp [h2, show k < n + 1 by omega]; omega
      · simp [h2, show ¬ k < n + 1 by omega]
theorem cnt_lk (v : Nat → Nat → Int32) (G : Nat → Option GT) (m : Nat) : ∀ n : Nat, cntG (lkG v G m) n = cntG G n
  | 0 => rfl
  | n + 1 => by
    have h1 : (lkG v G m n).isSome = (G n).isSome := by
      unfold lkG
      by_cases h : n < m
      · rw [if_pos h]; cases G n <;> rfl
      · rw [if_neg h]
    unfold cntG
    rw [cnt_lk v G m n, h1]
theorem gn_gua (v : Nat → Nat → Int32) (G : Nat → Option GT) (g w h x mo : Int32) : hGua G (nI (cntG G 8)) g w h x mo = nI (cntG (nGua v G g w h x mo) 8) := by
  unfold hGua nGua
  by_cases h1 : gB g w h x mo = true
  · rw [if_pos h1, if_pos h1, cnt_up]
    have h2 : isGb g = true := by simp [gB] at h1; exact h1.1
    have h3 := vp_lt (isG_in h2)
    cases hG : (G (cn g)).isSome
    · simp [h3, nI_1]
    · simp
  · rw [if_neg h1, if_neg h1]
theorem gok_gua {v : Nat → Nat → Int32} {G : Nat → Option GT} {g w h x mo : Int32} (hv : ∀ i j : Nat, okV (v i j)) (hG : gOk G) : gOk (nGua v G g w h x mo) := by
  unfold nGua
  by_cases h1 : gB g w h x mo = true
  · rw [if_pos h1]
    have h2 : isQb w h = true := by simp [gB] at h1; exact h1.2.1
    intro j t hj ht
    by_cases e : j = cn g
    · subst e
      rw [va_up_self] at ht
      cases ht
      exact ⟨isQ_w h2, isQ_h h2, hv _ _⟩
    · rw [va_up_ne _ _ e] at ht
      exact hG j t hj ht
  · rw [if_neg h1]; exact hG
theorem gok_lk {v : Nat → Nat → Int32} {G : Nat → Option GT} (hG : gOk G) : gOk (lkG v G 8) := by
  intro g t hg ht
  have : lkG v G 8 g = (G g).map (lnx v) := by simp [lkG, hg]
  rw [this] at ht
  cases h : G g with
  | none => rw [h] at ht; cases ht
  | some t0 =>
    rw [h] at ht
    cases ht
    exact hG g t0 hg h
theorem gr_gua {G : Nat → Option GT} {gg : Nat → Option Nat} {L : List Nat} {f : Nat → va_E} {k u : Nat} {t : GT} (hG : GR G gg L f) (hu : u ∉ L) (hk : k < 8) : GR (va_up G k (some t)) (va_up gg k (some u)) (L ++ [u]) (va_up f u (gE t)) := by
  have hno : ∀ (i x : Nat), i < 8 → gg i = some x → x ∈ L := fun i x hi hx => by
    rcases hG.1 i hi with ⟨-, h2⟩ | ⟨t', x', -, h2, h3, -⟩
    · rw [hx] at h2; cases h2
    · rw [hx] at h2; cases h2; exact h3
  refine ⟨fun g hg => ?_, fun i j x hi hj h1 h2 => ?_⟩
  · by_cases e : g = k
    · subst e
      exact Or.inr ⟨t, u, va_up_self _ _ _, va_up_self _ _ _, List.mem_append_right _ (List.mem_singleton.mpr rfl), va_up_self _ _ _⟩
    · rw [va_up_ne _ _ e, va_up_ne _ _ e]
      rcases hG.1 g hg with q | ⟨t', x', q1, q2, q3, q4⟩
      · exact Or.inl q
      · refine Or.inr ⟨t', x', q1, q2, List.mem_append_left _ q3, ?_⟩
        rw [va_up_ne _ _ (fun q => hu (by rw [← q]; exact q3))]
        exact q4
  · by_cases e1 : i = k
    · subst e1
      rw [va_up_self] at h1
      cases h1
      by_cases e2 : j = i
      · exact e2.symm
      · rw [va_up_ne _ _ e2] at h2
        exact absurd (hno j _ hj h2) hu
    · rw [va_up_ne _ _ e1] at h1
      by_cases e2 : j = k
      · subst e2
        rw [va_up_self] at h2
        cases h2
        exact absurd (hno i _ hi h1) hu
      · rw [va_up_ne _ _ e2] at h2
        exact hG.2 i j x hi hj h1 h2
end
section
/-! the law, case by case -/
set_option maxHeartbeats 4000000 in
set_option maxRecDepth 100000 in
theorem law_put {p : Program} {l : Launch} {e : Env} {s : State} {m : MethodId} {below : List Frame} {meth : Method} {c : Code} {b Ln : Nat} {xs : Nat → Int32} (hL : Ln ≤ 3072) (C0 : lw_At p s m meth c b Ln xs) {D : va_G} {a bm : Nat → Nat} {cV cI cG cJ cZ : ClassId} (hK : va_K D vwCl (lT cV cI cG cJ cZ) s) (hN : nT s) {i ce se : Nat} (hi : i + 6 ≤ Ln) (hce : ce + 1 ≤ room_1.cells) (hse : se + 6 ≤ room_1.slots) (nx : lNext p l e s m below meth c D a bm cV cI cG cJ cZ b i (ce + 1) (se + 6)) {v : Nat → Nat → Int32} {G : Nat → Option GT} {gg : Nat → Option Nat} {L : List Nat} {f : Nat → va_E} {dn lt ch : Int32} {H : Heap} {locs : List Loc} {ls : Array Slot} (hI : lInv s D a bm cV cI cG cJ cZ v G gg L f dn lt ch H locs) (hl : lv_has ls 4 [(3, .int (nI i)), (0, .ref b), (1, .ref (a 0)), (2, .ref (bm 0))]) : W p l e room_1 s m #[Value.ref b] below meth c H locs ce se (lw_Z below #[Value.ref b] s) (F0 m 112 ls []) := by
  obtain ⟨hx, hb, hr, hml, hown, hts, hX, hbl, hlocks, hgv⟩ := C0
  have hown : s.vm.findClass RL = some m.cls := hown
  have hts : ∀ w ∈ wsL_law, w.before #[Value.ref b] s = true := fun w h => hts w (wsL_law_in w h)
  have hA : ∀ q : Nat, s.heap.size ≤ q → (fun q : Nat => s.heap.size ≤ q) q := fun _ h => h
  have hbA : ¬ (fun q : Nat => s.heap.size ≤ q) b := Nat.not_le.mpr hbl
  have hro : ce ≤ room_1.cells ∧ se ≤ room_1.slots := ⟨by omega, by omega⟩
  have hro1 : ce + 1 ≤ room_1.cells ∧ se + 6 ≤ room_1.slots := ⟨hce, hse⟩
  obtain ⟨hP, hD, hS, hGR, okv, hGo⟩ := hI
  have hP : va_P D vwCl (cb a cV cI cG v gg dn lt ch ++ (va_pl L f ++ mb bm cJ cZ v G dn lt ch (nI (cntG G 8)))) H := hP
  have hD : va_D (fun q : Nat => s.heap.size ≤ q) (cb a cV cI cG v gg dn lt ch ++ (va_pl L f ++ mb bm cJ cZ v G dn lt ch (nI (cntG G 8)))) := hD
  refine lv_aload_n hx hb dL_law_112 rfl (lv_at hl 2 rfl) ?_
  refine lv_aload_n hx hb dL_law_113 rfl (lv_at hl 1 rfl) ?_
  refine lv_iload_n hx hb dL_law_114 rfl (lv_at hl 0 rfl) ?_
  refine lv_iconst (v := 1) hx hb dL_law_115 (by decide) ?_
  refine lv_iadd hx hb dL_law_116 ?_
  rw [show nI i + 1 = nI (i + 1) from nI_add i 1]
  refine va_sld hx hb hX hbl hbA hS (vp_in_nI (show i + 1 < Ln by omega) (by omega)) dL_law_117 ?_
  rw [nI_clamp (show i + 1 < 2 ^ 31 by omega)]
  refine lv_aload_n hx hb dL_law_118 rfl (lv_at hl 1 rfl) ?_
  refine lv_iload_n hx hb dL_law_119 rfl (lv_at hl 0 rfl) ?_
  refine lv_iconst (v := 2) hx hb dL_law_120 (by decide) ?_
  refine lv_iadd hx hb dL_law_121 ?_
  rw [show nI i + 2 = nI (i + 2) from nI_add i 2]
  refine va_sld hx hb hX hbl hbA hS (vp_in_nI (show i + 2 < Ln by omega) (by omega)) dL_law_122 ?_
  rw [nI_clamp (show i + 2 < 2 ^ 31 by omega)]
  refine lv_aload_n hx hb dL_law_123 rfl (lv_at hl 1 rfl) ?_
  refine lv_iload_n hx hb dL_law_124 rfl (lv_at hl 0 rfl) ?_
  refine lv_iconst (v := 3) hx hb dL_law_125 (by decide) ?_
  refine lv_iadd hx hb dL_law_126 ?_
  rw [show nI i + 3 = nI (i + 3) from nI_add i 3]
  refine va_sld hx hb hX hbl hbA hS (vp_in_nI (show i + 3 < Ln by omega) (by omega)) dL_law_127 ?_
  rw [nI_clamp (show i + 3 < 2 ^ 31 by omega)]
  refine lv_aload_n hx hb dL_law_128 rfl (lv_at hl 1 rfl) ?_
  refine lv_iload_n hx hb dL_law_129 rfl (lv_at hl 0 rfl) ?_
  refine lv_iconst (v := 4) hx hb dL_law_130 (by decide) ?_
  refine lv_iadd hx hb dL_law_131 ?_
  rw [show nI i + 4 = nI (i + 4) from nI_add i 4]
  refine va_sld hx hb hX hbl hbA hS (vp_in_nI (show i + 4 < Ln by omega) (by omega)) dL_law_132 ?_
  rw [nI_clamp (show i + 4 < 2 ^ 31 by omega)]
  refine xc_W (S0 := Unit) (rw := va_pl L f ++ mb bm cJ cZ v G dn lt ch (nI (cntG G 8))) (As := [.int (xs (i + 1)), .int (xs (i + 2)), .int (xs (i + 3)), .int (xs (i + 4))]) (rest := []) ⟨hx, hb, hml, hown, hts⟩ (c_X1_put l D a cV cI cG v gg dn lt ch H.size (xs (i + 1)) (xs (i + 2)) (xs (i + 3)) (xs (i + 4))) (cwV 4 hts gL_law_X1_put rfl rfl rfl (by decide +kernel) ⟨Nat.le_of_ble_eq_true rfl, Nat.le_of_ble_eq_true rfl⟩) xMv0 trivial hP (hK.sub (tys' := cT cV cI cG) [0, 1, 2] rfl) hD hS hA (va_recv hK hP (ci := 1) (q0 := 0) rfl rfl) rfl hl.1 rfl (Nat.le_of_ble_eq_true rfl) dL_law_133 hro (fun r1 _ H locs hr1 hP hD _ hS => ?_)
  rw [hr1]
  refine W.widen (k := ce) (n := se) (Nat.le_refl _) (Nat.le_refl _) ?_
  have hP : va_P D vwCl (cb a cV cI cG (nPut v (xs (i + 1)) (xs (i + 2)) (xs (i + 3)) (xs (i + 4))) gg dn lt ch ++ (va_pl L f ++ mb bm cJ cZ v G dn lt ch (nI (cntG G 8)))) H := hP
  have hD : va_D (fun q : Nat => s.heap.size ≤ q) (cb a cV cI cG (nPut v (xs (i + 1)) (xs (i + 2)) (xs (i + 3)) (xs (i + 4))) gg dn lt ch ++ (va_pl L f ++ mb bm cJ cZ v G dn lt ch (nI (cntG G 8)))) := hD
  refine lv_aload_n hx hb dL_law_136 rfl (lv_at hl 3 rfl) ?_
  refine lv_aload_n hx hb dL_law_137 rfl (lv_at hl 1 rfl) ?_
  refine lv_iload_n hx hb dL_law_138 rfl (lv_at hl 0 rfl) ?_
  refine lv_iconst (v := 1) hx hb dL_law_139 (by decide) ?_
  refine lv_iadd hx hb dL_law_140 ?_
  rw [show nI i + 1 = nI (i + 1) from nI_add i 1]
  refine va_sld hx hb hX hbl hbA hS (vp_in_nI (show i + 1 < Ln by omega) (by omega)) dL_law_141 ?_
  rw [nI_clamp (show i + 1 < 2 ^ 31 by omega)]
  refine lv_aload_n hx hb dL_law_142 rfl (lv_at hl 1 rfl) ?_
  refine lv_iload_n hx hb dL_law_143 rfl (lv_at hl 0 rfl) ?_
  refine lv_iconst (v := 2) hx hb dL_law_144 (by decide) ?_
  refine lv_iadd hx hb dL_law_145 ?_
  rw [show nI i + 2 = nI (i + 2) from nI_add i 2]
  refine va_sld hx hb hX hbl hbA hS (vp_in_nI (show i + 2 < Ln by omega) (by omega)) dL_law_146 ?_
  rw [nI_clamp (show i + 2 < 2 ^ 31 by omega)]
  refine lv_aload_n hx hb dL_law_147 rfl (lv_at hl 1 rfl) ?_
  refine lv_iload_n hx hb dL_law_148 rfl (lv_at hl 0 rfl) ?_
  refine lv_iconst (v := 3) hx hb dL_law_149 (by decide) ?_
  refine lv_iadd hx hb dL_law_150 ?_
  rw [show nI i + 3 = nI (i + 3) from nI_add i 3]
  refine va_sld hx hb hX hbl hbA hS (vp_in_nI (show i + 3 < Ln by omega) (by omega)) dL_law_151 ?_
  rw [nI_clamp (show i + 3 < 2 ^ 31 by omega)]
  refine lv_aload_n hx hb dL_law_152 rfl (lv_at hl 1 rfl) ?_
  refine lv_iload_n hx hb dL_law_153 rfl (lv_at hl 0 rfl) ?_
  refine lv_iconst (v := 4) hx hb dL_law_154 (by decide) ?_
  refine lv_iadd hx hb dL_law_155 ?_
  rw [show nI i + 4 = nI (i + 4) from nI_add i 4]
  refine va_sld hx hb hX hbl hbA hS (vp_in_nI (show i + 4 < Ln by omega) (by omega)) dL_law_156 ?_
  rw [nI_clamp (show i + 4 < 2 ^ 31 by omega)]
  have hPm := hP; rw [← List.append_assoc] at hPm
  have hPm := xp_c hPm
  have hDm := hD; rw [← List.append_assoc] at hDm
  have hDm := xd_c hDm
  refine xc_W (S0 := Unit) (rw := cb a cV cI cG (nPut v (xs (i + 1)) (xs (i + 2)) (xs (i + 3)) (xs (i + 4))) gg dn lt ch ++ va_pl L f) (As := [.int (xs (i + 1)), .int (xs (i + 2)), .int (xs (i + 3)), .int (xs (i + 4))]) (rest := [.int (b2i (aPut (xs (i + 1)) (xs (i + 2)) (xs (i + 3)) (xs (i + 4))))]) ⟨hx, hb, hml, hown, hts⟩ (c_X2_put l D bm cJ cZ v G dn lt ch (nI (cntG G 8)) H.size (xs (i + 1)) (xs (i + 2)) (xs (i + 3)) (xs (i + 4))) (cwV 4 hts gL_law_X2_put rfl rfl rfl (by decide +kernel) ⟨Nat.le_of_ble_eq_true rfl, Nat.le_of_ble_eq_true rfl⟩) xMv0 trivial hPm (hK.sub (tys' := mT cJ cZ) [3, 4] rfl) hDm hS hA (va_recv (hK.sub (tys' := mT cJ cZ) [3, 4] rfl) hPm (ci := 2) (q0 := 0) rfl rfl) rfl hl.1 rfl (Nat.le_of_ble_eq_true rfl) dL_law_157 hro (fun r2 _ H locs hr2 hP hD _ hS => ?_)
  rw [hr2]
  have hP := xp_c hP
  have hD := xd_c hD
  rw [List.append_assoc] at hP hD
  refine lv_icmp_eq (tgt := 812) hx hb dL_law_160 (by decide) (fun c_1 => ?_) (fun c_1 => absurd rfl c_1)
  refine W.widen (k := ce + 1) (n := se + 6) (by omega) (by omega) ?_
  exact nx (nPut v (xs (i + 1)) (xs (i + 2)) (xs (i + 3)) (xs (i + 4))) G gg L f dn lt ch H locs ls ⟨hP, hD, hS, hGR, (ok_put okv), hGo⟩ (lv_sub hl [0, 1, 2, 3] rfl)
set_option maxHeartbeats 4000000 in
set_option maxRecDepth 100000 in
theorem law_sort {p : Program} {l : Launch} {e : Env} {s : State} {m : MethodId} {below : List Frame} {meth : Method} {c : Code} {b Ln : Nat} {xs : Nat → Int32} (hL : Ln ≤ 3072) (C0 : lw_At p s m meth c b Ln xs) {D : va_G} {a bm : Nat → Nat} {cV cI cG cJ cZ : ClassId} (hK : va_K D vwCl (lT cV cI cG cJ cZ) s) (hN : nT s) {i ce se : Nat} (hi : i + 6 ≤ Ln) (hce : ce + 1 ≤ room_1.cells) (hse : se + 6 ≤ room_1.slots) (nx : lNext p l e s m below meth c D a bm cV cI cG cJ cZ b i (ce + 1) (se + 6)) {v : Nat → Nat → Int32} {G : Nat → Option GT} {gg : Nat → Option Nat} {L : List Nat} {f : Nat → va_E} {dn lt ch : Int32} {H : Heap} {locs : List Loc} {ls : Array Slot} (hI : lInv s D a bm cV cI cG cJ cZ v G gg L f dn lt ch H locs) (hl : lv_has ls 4 [(3, .int (nI i)), (0, .ref b), (1, .ref (a 0)), (2, .ref (bm 0))]) : W p l e room_1 s m #[Value.ref b] below meth c H locs ce se (lw_Z below #[Value.ref b] s) (F0 m 165 ls []) := by
  obtain ⟨hx, hb, hr, hml, hown, hts, hX, hbl, hlocks, hgv⟩ := C0
  have hown : s.vm.findClass RL = some m.cls := hown
  have hts : ∀ w ∈ wsL_law, w.before #[Value.ref b] s = true := fun w h => hts w (wsL_law_in w h)
  have hA : ∀ q : Nat, s.heap.size ≤ q → (fun q : Nat => s.heap.size ≤ q) q := fun _ h => h
  have hbA : ¬ (fun q : Nat => s.heap.size ≤ q) b := Nat.not_le.mpr hbl
  have hro : ce ≤ room_1.cells ∧ se ≤ room_1.slots := ⟨by omega, by omega⟩
  have hro1 : ce + 1 ≤ room_1.cells ∧ se + 6 ≤ room_1.slots := ⟨hce, hse⟩
  obtain ⟨hP, hD, hS, hGR, okv, hGo⟩ := hI
  have hP : va_P D vwCl (cb a cV cI cG v gg dn lt ch ++ (va_pl L f ++ mb bm cJ cZ v G dn lt ch (nI (cntG G 8)))) H := hP
  have hD : va_D (fun q : Nat => s.heap.size ≤ q) (cb a cV cI cG v gg dn lt ch ++ (va_pl L f ++ mb bm cJ cZ v G dn lt ch (nI (cntG G 8)))) := hD
  refine lv_aload_n hx hb dL_law_165 rfl (lv_at hl 2 rfl) ?_
  refine lv_aload_n hx hb dL_law_166 rfl (lv_at hl 1 rfl) ?_
  refine lv_iload_n hx hb dL_law_167 rfl (lv_at hl 0 rfl) ?_
  refine lv_iconst (v := 1) hx hb dL_law_168 (by decide) ?_
  refine lv_iadd hx hb dL_law_169 ?_
  rw [show nI i + 1 = nI (i + 1) from nI_add i 1]
  refine va_sld hx hb hX hbl hbA hS (vp_in_nI (show i + 1 < Ln by omega) (by omega)) dL_law_170 ?_
  rw [nI_clamp (show i + 1 < 2 ^ 31 by omega)]
  refine lv_aload_n hx hb dL_law_171 rfl (lv_at hl 1 rfl) ?_
  refine lv_iload_n hx hb dL_law_172 rfl (lv_at hl 0 rfl) ?_
  refine lv_iconst (v := 2) hx hb dL_law_173 (by decide) ?_
  refine lv_iadd hx hb dL_law_174 ?_
  rw [show nI i + 2 = nI (i + 2) from nI_add i 2]
  refine va_sld hx hb hX hbl hbA hS (vp_in_nI (show i + 2 < Ln by omega) (by omega)) dL_law_175 ?_
  rw [nI_clamp (show i + 2 < 2 ^ 31 by omega)]
  refine xc_R (wd := cb a cV cI cG v gg dn lt ch) (As := [.int (xs (i + 1)), .int (xs (i + 2))]) (rest := []) ⟨hx, hb, hml, hown, hts⟩ (c_X1_sort l D a cV cI cG v gg dn lt ch (xs (i + 1)) (xs (i + 2))) (cwV 2 hts gL_law_X1_sort rfl rfl rfl (by decide +kernel) ⟨Nat.le_of_ble_eq_true rfl, Nat.le_of_ble_eq_true rfl⟩) xMv0 trivial (xp_l hP) (hK.sub (tys' := cT cV cI cG) [0, 1, 2] rfl) (va_recv hK hP (ci := 1) (q0 := 0) rfl rfl) rfl hl.1 rfl (Nat.le_of_ble_eq_true rfl) dL_law_176 hro ?_
  refine lv_aload_n hx hb dL_law_179 rfl (lv_at hl 3 rfl) ?_
  refine lv_aload_n hx hb dL_law_180 rfl (lv_at hl 1 rfl) ?_
  refine lv_iload_n hx hb dL_law_181 rfl (lv_at hl 0 rfl) ?_
  refine lv_iconst (v := 1) hx hb dL_law_182 (by decide) ?_
  refine lv_iadd hx hb dL_law_183 ?_
  rw [show nI i + 1 = nI (i + 1) from nI_add i 1]
  refine va_sld hx hb hX hbl hbA hS (vp_in_nI (show i + 1 < Ln by omega) (by omega)) dL_law_184 ?_
  rw [nI_clamp (show i + 1 < 2 ^ 31 by omega)]
  refine lv_aload_n hx hb dL_law_185 rfl (lv_at hl 1 rfl) ?_
  refine lv_iload_n hx hb dL_law_186 rfl (lv_at hl 0 rfl) ?_
  refine lv_iconst (v := 2) hx hb dL_law_187 (by decide) ?_
  refine lv_iadd hx hb dL_law_188 ?_
  rw [show nI i + 2 = nI (i + 2) from nI_add i 2]
  refine va_sld hx hb hX hbl hbA hS (vp_in_nI (show i + 2 < Ln by omega) (by omega)) dL_law_189 ?_
  rw [nI_clamp (show i + 2 < 2 ^ 31 by omega)]
  have hPm := hP; rw [← List.append_assoc] at hPm
  have hPm := xp_c hPm
  refine xc_R (wd := mb bm cJ cZ v G dn lt ch (nI (cntG G 8))) (As := [.int (xs (i + 1)), .int (xs (i + 2))]) (rest := [.int (aSort v (xs (i + 1)) (xs (i + 2)))]) ⟨hx, hb, hml, hown, hts⟩ (c_X2_sort l D bm cJ cZ v G dn lt ch (nI (cntG G 8)) (xs (i + 1)) (xs (i + 2))) (cwV 2 hts gL_law_X2_sort rfl rfl rfl (by decide +kernel) ⟨Nat.le_of_ble_eq_true rfl, Nat.le_of_ble_eq_true rfl⟩) xMv0 trivial (xp_l hPm) (hK.sub (tys' := mT cJ cZ) [3, 4] rfl) (va_recv (hK.sub (tys' := mT cJ cZ) [3, 4] rfl) hPm (ci := 2) (q0 := 0) rfl rfl) rfl hl.1 rfl (Nat.le_of_ble_eq_true rfl) dL_law_190 hro ?_
  refine lv_icmp_eq (tgt := 812) hx hb dL_law_193 (by decide) (fun c_1 => ?_) (fun c_1 => absurd rfl c_1)
  refine W.widen (k := ce + 1) (n := se + 6) (by omega) (by omega) ?_
  exact nx v G gg L f dn lt ch H locs ls ⟨hP, hD, hS, hGR, okv, hGo⟩ (lv_sub hl [0, 1, 2, 3] rfl)
set_option maxHeartbeats 4000000 in
set_option maxRecDepth 100000 in
theorem law_quarters {p : Program} {l : Launch} {e : Env} {s : State} {m : MethodId} {below : List Frame} {meth : Method} {c : Code} {b Ln : Nat} {xs : Nat → Int32} (hL : Ln ≤ 3072) (C0 : lw_At p s m meth c b Ln xs) {D : va_G} {a bm : Nat → Nat} {cV cI cG cJ cZ : ClassId} (hK : va_K D vwCl (lT cV cI cG cJ cZ) s) (hN : nT s) {i ce se : Nat} (hi : i + 6 ≤ Ln) (hce : ce + 1 ≤ room_1.cells) (hse : se + 6 ≤ room_1.slots) (nx : lNext p l e s m below meth c D a bm cV cI cG cJ cZ b i (ce + 1) (se + 6)) {v : Nat → Nat → Int32} {G : Nat → Option GT} {gg : Nat → Option Nat} {L : List Nat} {f : Nat → va_E} {dn lt ch : Int32} {H : Heap} {locs : List Loc} {ls : Array Slot} (hI : lInv s D a bm cV cI cG cJ cZ v G gg L f dn lt ch H locs) (hl : lv_has ls 4 [(3, .int (nI i)), (0, .ref b), (1, .ref (a 0)), (2, .ref (bm 0))]) : W p l e room_1 s m #[Value.ref b] below meth c H locs ce se (lw_Z below #[Value.ref b] s) (F0 m 198 ls []) := by
  obtain ⟨hx, hb, hr, hml, hown, hts, hX, hbl, hlocks, hgv⟩ := C0
  have hown : s.vm.findClass RL = some m.cls := hown
  have hts : ∀ w ∈ wsL_law, w.before #[Value.ref b] s = true := fun w h => hts w (wsL_law_in w h)
  have hA : ∀ q : Nat, s.heap.size ≤ q → (fun q : Nat => s.heap.size ≤ q) q := fun _ h => h
  have hbA : ¬ (fun q : Nat => s.heap.size ≤ q) b := Nat.not_le.mpr hbl
  have hro : ce ≤ room_1.cells ∧ se ≤ room_1.slots := ⟨by omega, by omega⟩
  have hro1 : ce + 1 ≤ room_1.cells ∧ se + 6 ≤ room_1.slots := ⟨hce, hse⟩
  obtain ⟨hP, hD, hS, hGR, okv, hGo⟩ := hI
  have hP : va_P D vwCl (cb a cV cI cG v gg dn lt ch ++ (va_pl L f ++ mb bm cJ cZ v G dn lt ch (nI (cntG G 8)))) H := hP
  have hD : va_D (fun q : Nat => s.heap.size ≤ q) (cb a cV cI cG v gg dn lt ch ++ (va_pl L f ++ mb bm cJ cZ v G dn lt ch (nI (cntG G 8)))) := hD
  refine lv_aload_n hx hb dL_law_198 rfl (lv_at hl 2 rfl) ?_
  refine lv_aload_n hx hb dL_law_199 rfl (lv_at hl 1 rfl) ?_
  refine lv_iload_n hx hb dL_law_200 rfl (lv_at hl 0 rfl) ?_
  refine lv_iconst (v := 1) hx hb dL_law_201 (by decide) ?_
  refine lv_iadd hx hb dL_law_202 ?_
  rw [show nI i + 1 = nI (i + 1) from nI_add i 1]
  refine va_sld hx hb hX hbl hbA hS (vp_in_nI (show i + 1 < Ln by omega) (by omega)) dL_law_203 ?_
  rw [nI_clamp (show i + 1 < 2 ^ 31 by omega)]
  refine lv_aload_n hx hb dL_law_204 rfl (lv_at hl 1 rfl) ?_
  refine lv_iload_n hx hb dL_law_205 rfl (lv_at hl 0 rfl) ?_
  refine lv_iconst (v := 2) hx hb dL_law_206 (by decide) ?_
  refine lv_iadd hx hb dL_law_207 ?_
  rw [show nI i + 2 = nI (i + 2) from nI_add i 2]
  refine va_sld hx hb hX hbl hbA hS (vp_in_nI (show i + 2 < Ln by omega) (by omega)) dL_law_208 ?_
  rw [nI_clamp (show i + 2 < 2 ^ 31 by omega)]
  refine xc_R (wd := cb a cV cI cG v gg dn lt ch) (As := [.int (xs (i + 1)), .int (xs (i + 2))]) (rest := []) ⟨hx, hb, hml, hown, hts⟩ (c_X1_quarters l D a cV cI cG v gg dn lt ch (xs (i + 1)) (xs (i + 2))) (cwV 2 hts gL_law_X1_quarters rfl rfl rfl (by decide +kernel) ⟨Nat.le_of_ble_eq_true rfl, Nat.le_of_ble_eq_true rfl⟩) xMv0 trivial (xp_l hP) (hK.sub (tys' := cT cV cI cG) [0, 1, 2] rfl) (va_recv hK hP (ci := 1) (q0 := 0) rfl rfl) rfl hl.1 rfl (Nat.le_of_ble_eq_true rfl) dL_law_209 hro ?_
  refine lv_aload_n hx hb dL_law_212 rfl (lv_at hl 3 rfl) ?_
  refine lv_aload_n hx hb dL_law_213 rfl (lv_at hl 1 rfl) ?_
  refine lv_iload_n hx hb dL_law_214 rfl (lv_at hl 0 rfl) ?_
  refine lv_iconst (v := 1) hx hb dL_law_215 (by decide) ?_
  refine lv_iadd hx hb dL_law_216 ?_
  rw [show nI i + 1 = nI (i + 1) from nI_add i 1]
  refine va_sld hx hb hX hbl hbA hS (vp_in_nI (show i + 1 < Ln by omega) (by omega)) dL_law_217 ?_
  rw [nI_clamp (show i + 1 < 2 ^ 31 by omega)]
  refine lv_aload_n hx hb dL_law_218 rfl (lv_at hl 1 rfl) ?_
  refine lv_iload_n hx hb dL_law_219 rfl (lv_at hl 0 rfl) ?_
  refine lv_iconst (v := 2) hx hb dL_law_220 (by decide) ?_
  refine lv_iadd hx hb dL_law_221 ?_
  rw [show nI i + 2 = nI (i + 2) from nI_add i 2]
  refine va_sld hx hb hX hbl hbA hS (vp_in_nI (show i + 2 < Ln by omega) (by omega)) dL_law_222 ?_
  rw [nI_clamp (show i + 2 < 2 ^ 31 by omega)]
  have hPm := hP; rw [← List.append_assoc] at hPm
  have hPm := xp_c hPm
  refine xc_R (wd := mb bm cJ cZ v G dn lt ch (nI (cntG G 8))) (As := [.int (xs (i + 1)), .int (xs (i + 2))]) (rest := [.int (aQuar v (xs (i + 1)) (xs (i + 2)))]) ⟨hx, hb, hml, hown, hts⟩ (c_X2_quarters l D bm cJ cZ v G dn lt ch (nI (cntG G 8)) (xs (i + 1)) (xs (i + 2))) (cwV 2 hts gL_law_X2_quarters rfl rfl rfl (by decide +kernel) ⟨Nat.le_of_ble_eq_true rfl, Nat.le_of_ble_eq_true rfl⟩) xMv0 trivial (xp_l hPm) (hK.sub (tys' := mT cJ cZ) [3, 4] rfl) (va_recv (hK.sub (tys' := mT cJ cZ) [3, 4] rfl) hPm (ci := 2) (q0 := 0) rfl rfl) rfl hl.1 rfl (Nat.le_of_ble_eq_true rfl) dL_law_223 hro ?_
  refine lv_icmp_eq (tgt := 812) hx hb dL_law_226 (by decide) (fun c_1 => ?_) (fun c_1 => absurd rfl c_1)
  refine W.widen (k := ce + 1) (n := se + 6) (by omega) (by omega) ?_
  exact nx v G gg L f dn lt ch H locs ls ⟨hP, hD, hS, hGR, okv, hGo⟩ (lv_sub hl [0, 1, 2, 3] rfl)
set_option maxHeartbeats 4000000 in
set_option maxRecDepth 100000 in
theorem law_holds {p : Program} {l : Launch} {e : Env} {s : State} {m : MethodId} {below : List Frame} {meth : Method} {c : Code} {b Ln : Nat} {xs : Nat → Int32} (hL : Ln ≤ 3072) (C0 : lw_At p s m meth c b Ln xs) {D : va_G} {a bm : Nat → Nat} {cV cI cG cJ cZ : ClassId} (hK : va_K D vwCl (lT cV cI cG cJ cZ) s) (hN : nT s) {i ce se : Nat} (hi : i + 6 ≤ Ln) (hce : ce + 1 ≤ room_1.cells) (hse : se + 6 ≤ room_1.slots) (nx : lNext p l e s m below meth c D a bm cV cI cG cJ cZ b i (ce + 1) (se + 6)) {v : Nat → Nat → Int32} {G : Nat → Option GT} {gg : Nat → Option Nat} {L : List Nat} {f : Nat → va_E} {dn lt ch : Int32} {H : Heap} {locs : List Loc} {ls : Array Slot} (hI : lInv s D a bm cV cI cG cJ cZ v G gg L f dn lt ch H locs) (hl : lv_has ls 4 [(3, .int (nI i)), (0, .ref b), (1, .ref (a 0)), (2, .ref (bm 0))]) : W p l e room_1 s m #[Value.ref b] below meth c H locs ce se (lw_Z below #[Value.ref b] s) (F0 m 231 ls []) := by
  obtain ⟨hx, hb, hr, hml, hown, hts, hX, hbl, hlocks, hgv⟩ := C0
  have hown : s.vm.findClass RL = some m.cls := hown
  have hts : ∀ w ∈ wsL_law, w.before #[Value.ref b] s = true := fun w h => hts w (wsL_law_in w h)
  have hA : ∀ q : Nat, s.heap.size ≤ q → (fun q : Nat => s.heap.size ≤ q) q := fun _ h => h
  have hbA : ¬ (fun q : Nat => s.heap.size ≤ q) b := Nat.not_le.mpr hbl
  have hro : ce ≤ room_1.cells ∧ se ≤ room_1.slots := ⟨by omega, by omega⟩
  have hro1 : ce + 1 ≤ room_1.cells ∧ se + 6 ≤ room_1.slots := ⟨hce, hse⟩
  obtain ⟨hP, hD, hS, hGR, okv, hGo⟩ := hI
  have hP : va_P D vwCl (cb a cV cI cG v gg dn lt ch ++ (va_pl L f ++ mb bm cJ cZ v G dn lt ch (nI (cntG G 8)))) H := hP
  have hD : va_D (fun q : Nat => s.heap.size ≤ q) (cb a cV cI cG v gg dn lt ch ++ (va_pl L f ++ mb bm cJ cZ v G dn lt ch (nI (cntG G 8)))) := hD
  refine lv_aload_n hx hb dL_law_231 rfl (lv_at hl 2 rfl) ?_
  refine lv_aload_n hx hb dL_law_232 rfl (lv_at hl 1 rfl) ?_
  refine lv_iload_n hx hb dL_law_233 rfl (lv_at hl 0 rfl) ?_
  refine lv_iconst (v := 1) hx hb dL_law_234 (by decide) ?_
  refine lv_iadd hx hb dL_law_235 ?_
  rw [show nI i + 1 = nI (i + 1) from nI_add i 1]
  refine va_sld hx hb hX hbl hbA hS (vp_in_nI (show i + 1 < Ln by omega) (by omega)) dL_law_236 ?_
  rw [nI_clamp (show i + 1 < 2 ^ 31 by omega)]
  refine lv_aload_n hx hb dL_law_237 rfl (lv_at hl 1 rfl) ?_
  refine lv_iload_n hx hb dL_law_238 rfl (lv_at hl 0 rfl) ?_
  refine lv_iconst (v := 2) hx hb dL_law_239 (by decide) ?_
  refine lv_iadd hx hb dL_law_240 ?_
  rw [show nI i + 2 = nI (i + 2) from nI_add i 2]
  refine va_sld hx hb hX hbl hbA hS (vp_in_nI (show i + 2 < Ln by omega) (by omega)) dL_law_241 ?_
  rw [nI_clamp (show i + 2 < 2 ^ 31 by omega)]
  refine lv_aload_n hx hb dL_law_242 rfl (lv_at hl 1 rfl) ?_
  refine lv_iload_n hx hb dL_law_243 rfl (lv_at hl 0 rfl) ?_
  refine lv_iconst (v := 3) hx hb dL_law_244 (by decide) ?_
  refine lv_iadd hx hb dL_law_245 ?_
  rw [show nI i + 3 = nI (i + 3) from nI_add i 3]
  refine va_sld hx hb hX hbl hbA hS (vp_in_nI (show i + 3 < Ln by omega) (by omega)) dL_law_246 ?_
  rw [nI_clamp (show i + 3 < 2 ^ 31 by omega)]
  refine lv_aload_n hx hb dL_law_247 rfl (lv_at hl 1 rfl) ?_
  refine lv_iload_n hx hb dL_law_248 rfl (lv_at hl 0 rfl) ?_
  refine lv_iconst (v := 4) hx hb dL_law_249 (by decide) ?_
  refine lv_iadd hx hb dL_law_250 ?_
  rw [show nI i + 4 = nI (i + 4) from nI_add i 4]
  refine va_sld hx hb hX hbl hbA hS (vp_in_nI (show i + 4 < Ln by omega) (by omega)) dL_law_251 ?_
  rw [nI_clamp (show i + 4 < 2 ^ 31 by omega)]
  refine xc_W (S0 := Unit) (rw := va_pl L f ++ mb bm cJ cZ v G dn lt ch (nI (cntG G 8))) (As := [.int (xs (i + 1)), .int (xs (i + 2)), .int (xs (i + 3)), .int (xs (i + 4))]) (rest := []) ⟨hx, hb, hml, hown, hts⟩ (c_X1_holds l D a cV cI cG v gg dn lt ch H.size (xs (i + 1)) (xs (i + 2)) (xs (i + 3)) (xs (i + 4))) (cwV 4 hts gL_law_X1_holds rfl rfl rfl (by decide +kernel) ⟨Nat.le_of_ble_eq_true rfl, Nat.le_of_ble_eq_true rfl⟩) xMv0 trivial hP (hK.sub (tys' := cT cV cI cG) [0, 1, 2] rfl) hD hS hA (va_recv hK hP (ci := 1) (q0 := 0) rfl rfl) rfl hl.1 rfl (Nat.le_of_ble_eq_true rfl) dL_law_252 hro (fun r1 _ H locs hr1 hP hD _ hS => ?_)
  rw [hr1]
  refine W.widen (k := ce) (n := se) (Nat.le_refl _) (Nat.le_refl _) ?_
  have hP : va_P D vwCl (cb a cV cI cG v gg dn (nHold v lt (xs (i + 1)) (xs (i + 2)) (xs (i + 3)) (xs (i + 4))) ch ++ (va_pl L f ++ mb bm cJ cZ v G dn lt ch (nI (cntG G 8)))) H := hP
  have hD : va_D (fun q : Nat => s.heap.size ≤ q) (cb a cV cI cG v gg dn (nHold v lt (xs (i + 1)) (xs (i + 2)) (xs (i + 3)) (xs (i + 4))) ch ++ (va_pl L f ++ mb bm cJ cZ v G dn lt ch (nI (cntG G 8)))) := hD
  refine lv_aload_n hx hb dL_law_255 rfl (lv_at hl 3 rfl) ?_
  refine lv_aload_n hx hb dL_law_256 rfl (lv_at hl 1 rfl) ?_
  refine lv_iload_n hx hb dL_law_257 rfl (lv_at hl 0 rfl) ?_
  refine lv_iconst (v := 1) hx hb dL_law_258 (by decide) ?_
  refine lv_iadd hx hb dL_law_259 ?_
  rw [show nI i + 1 = nI (i + 1) from nI_add i 1]
  refine va_sld hx hb hX hbl hbA hS (vp_in_nI (show i + 1 < Ln by omega) (by omega)) dL_law_260 ?_
  rw [nI_clamp (show i + 1 < 2 ^ 31 by omega)]
  refine lv_aload_n hx hb dL_law_261 rfl (lv_at hl 1 rfl) ?_
  refine lv_iload_n hx hb dL_law_262 rfl (lv_at hl 0 rfl) ?_
  refine lv_iconst (v := 2) hx hb dL_law_263 (by decide) ?_
  refine lv_iadd hx hb dL_law_264 ?_
  rw [show nI i + 2 = nI (i + 2) from nI_add i 2]
  refine va_sld hx hb hX hbl hbA hS (vp_in_nI (show i + 2 < Ln by omega) (by omega)) dL_law_265 ?_
  rw [nI_clamp (show i + 2 < 2 ^ 31 by omega)]
  refine lv_aload_n hx hb dL_law_266 rfl (lv_at hl 1 rfl) ?_
  refine lv_iload_n hx hb dL_law_267 rfl (lv_at hl 0 rfl) ?_
  refine lv_iconst (v := 3) hx hb dL_law_268 (by decide) ?_
  refine lv_iadd hx hb dL_law_269 ?_
  rw [show nI i + 3 = nI (i + 3) from nI_add i 3]
  refine va_sld hx hb hX hbl hbA hS (vp_in_nI (show i + 3 < Ln by omega) (by omega)) dL_law_270 ?_
  rw [nI_clamp (show i + 3 < 2 ^ 31 by omega)]
  refine lv_aload_n hx hb dL_law_271 rfl (lv_at hl 1 rfl) ?_
  refine lv_iload_n hx hb dL_law_272 rfl (lv_at hl 0 rfl) ?_
  refine lv_iconst (v := 4) hx hb dL_law_273 (by decide) ?_
  refine lv_iadd hx hb dL_law_274 ?_
  rw [show nI i + 4 = nI (i + 4) from nI_add i 4]
  refine va_sld hx hb hX hbl hbA hS (vp_in_nI (show i + 4 < Ln by omega) (by omega)) dL_law_275 ?_
  rw [nI_clamp (show i + 4 < 2 ^ 31 by omega)]
  have hPm := hP; rw [← List.append_assoc] at hPm
  have hPm := xp_c hPm
  have hDm := hD; rw [← List.append_assoc] at hDm
  have hDm := xd_c hDm
  refine xc_W (S0 := Unit) (rw := cb a cV cI cG v gg dn (nHold v lt (xs (i + 1)) (xs (i + 2)) (xs (i + 3)) (xs (i + 4))) ch ++ va_pl L f) (As := [.int (xs (i + 1)), .int (xs (i + 2)), .int (xs (i + 3)), .int (xs (i + 4))]) (rest := [.int (aHold v (xs (i + 1)) (xs (i + 2)) (xs (i + 3)) (xs (i + 4)))]) ⟨hx, hb, hml, hown, hts⟩ (c_X2_holds l D bm cJ cZ v G dn lt ch (nI (cntG G 8)) H.size (xs (i + 1)) (xs (i + 2)) (xs (i + 3)) (xs (i + 4)) okv) (cwV 4 hts gL_law_X2_holds rfl rfl rfl (by decide +kernel) ⟨Nat.le_of_ble_eq_true rfl, Nat.le_of_ble_eq_true rfl⟩) xMv0 trivial hPm (hK.sub (tys' := mT cJ cZ) [3, 4] rfl) hDm hS hA (va_recv (hK.sub (tys' := mT cJ cZ) [3, 4] rfl) hPm (ci := 2) (q0 := 0) rfl rfl) rfl hl.1 rfl (Nat.le_of_ble_eq_true rfl) dL_law_276 hro (fun r2 _ H locs hr2 hP hD _ hS => ?_)
  rw [hr2]
  have hP := xp_c hP
  have hD := xd_c hD
  rw [List.append_assoc] at hP hD
  refine lv_icmp_eq (tgt := 812) hx hb dL_law_279 (by decide) (fun c_1 => ?_) (fun c_1 => absurd rfl c_1)
  refine W.widen (k := ce + 1) (n := se + 6) (by omega) (by omega) ?_
  exact nx v G gg L f dn (nHold v lt (xs (i + 1)) (xs (i + 2)) (xs (i + 3)) (xs (i + 4))) ch H locs ls ⟨hP, hD, hS, hGR, okv, hGo⟩ (lv_sub hl [0, 1, 2, 3] rfl)
set_option maxHeartbeats 4000000 in
set_option maxRecDepth 100000 in
theorem law_denies {p : Program} {l : Launch} {e : Env} {s : State} {m : MethodId} {below : List Frame} {meth : Method} {c : Code} {b Ln : Nat} {xs : Nat → Int32} (hL : Ln ≤ 3072) (C0 : lw_At p s m meth c b Ln xs) {D : va_G} {a bm : Nat → Nat} {cV cI cG cJ cZ : ClassId} (hK : va_K D vwCl (lT cV cI cG cJ cZ) s) (hN : nT s) {i ce se : Nat} (hi : i + 6 ≤ Ln) (hce : ce + 1 ≤ room_1.cells) (hse : se + 6 ≤ room_1.slots) (nx : lNext p l e s m below meth c D a bm cV cI cG cJ cZ b i (ce + 1) (se + 6)) {v : Nat → Nat → Int32} {G : Nat → Option GT} {gg : Nat → Option Nat} {L : List Nat} {f : Nat → va_E} {dn lt ch : Int32} {H : Heap} {locs : List Loc} {ls : Array Slot} (hI : lInv s D a bm cV cI cG cJ cZ v G gg L f dn lt ch H locs) (hl : lv_has ls 4 [(3, .int (nI i)), (0, .ref b), (1, .ref (a 0)), (2, .ref (bm 0))]) : W p l e room_1 s m #[Value.ref b] below meth c H locs ce se (lw_Z below #[Value.ref b] s) (F0 m 284 ls []) := by
  obtain ⟨hx, hb, hr, hml, hown, hts, hX, hbl, hlocks, hgv⟩ := C0
  have hown : s.vm.findClass RL = some m.cls := hown
  have hts : ∀ w ∈ wsL_law, w.before #[Value.ref b] s = true := fun w h => hts w (wsL_law_in w h)
  have hA : ∀ q : Nat, s.heap.size ≤ q → (fun q : Nat => s.heap.size ≤ q) q := fun _ h => h
  have hbA : ¬ (fun q : Nat => s.heap.size ≤ q) b := Nat.not_le.mpr hbl
  have hro : ce ≤ room_1.cells ∧ se ≤ room_1.slots := ⟨by omega, by omega⟩
  have hro1 : ce + 1 ≤ room_1.cells ∧ se + 6 ≤ room_1.slots := ⟨hce, hse⟩
  obtain ⟨hP, hD, hS, hGR, okv, hGo⟩ := hI
  have hP : va_P D vwCl (cb a cV cI cG v gg dn lt ch ++ (va_pl L f ++ mb bm cJ cZ v G dn lt ch (nI (cntG G 8)))) H := hP
  have hD : va_D (fun q : Nat => s.heap.size ≤ q) (cb a cV cI cG v gg dn lt ch ++ (va_pl L f ++ mb bm cJ cZ v G dn lt ch (nI (cntG G 8)))) := hD
  refine lv_aload_n hx hb dL_law_284 rfl (lv_at hl 2 rfl) ?_
  refine lv_aload_n hx hb dL_law_285 rfl (lv_at hl 1 rfl) ?_
  refine lv_iload_n hx hb dL_law_286 rfl (lv_at hl 0 rfl) ?_
  refine lv_iconst (v := 1) hx hb dL_law_287 (by decide) ?_
  refine lv_iadd hx hb dL_law_288 ?_
  rw [show nI i + 1 = nI (i + 1) from nI_add i 1]
  refine va_sld hx hb hX hbl hbA hS (vp_in_nI (show i + 1 < Ln by omega) (by omega)) dL_law_289 ?_
  rw [nI_clamp (show i + 1 < 2 ^ 31 by omega)]
  refine lv_aload_n hx hb dL_law_290 rfl (lv_at hl 1 rfl) ?_
  refine lv_iload_n hx hb dL_law_291 rfl (lv_at hl 0 rfl) ?_
  refine lv_iconst (v := 2) hx hb dL_law_292 (by decide) ?_
  refine lv_iadd hx hb dL_law_293 ?_
  rw [show nI i + 2 = nI (i + 2) from nI_add i 2]
  refine va_sld hx hb hX hbl hbA hS (vp_in_nI (show i + 2 < Ln by omega) (by omega)) dL_law_294 ?_
  rw [nI_clamp (show i + 2 < 2 ^ 31 by omega)]
  refine lv_aload_n hx hb dL_law_295 rfl (lv_at hl 1 rfl) ?_
  refine lv_iload_n hx hb dL_law_296 rfl (lv_at hl 0 rfl) ?_
  refine lv_iconst (v := 3) hx hb dL_law_297 (by decide) ?_
  refine lv_iadd hx hb dL_law_298 ?_
  rw [show nI i + 3 = nI (i + 3) from nI_add i 3]
  refine va_sld hx hb hX hbl hbA hS (vp_in_nI (show i + 3 < Ln by omega) (by omega)) dL_law_299 ?_
  rw [nI_clamp (show i + 3 < 2 ^ 31 by omega)]
  refine lv_aload_n hx hb dL_law_300 rfl (lv_at hl 1 rfl) ?_
  refine lv_iload_n hx hb dL_law_301 rfl (lv_at hl 0 rfl) ?_
  refine lv_iconst (v := 4) hx hb dL_law_302 (by decide) ?_
  refine lv_iadd hx hb dL_law_303 ?_
  rw [show nI i + 4 = nI (i + 4) from nI_add i 4]
  refine va_sld hx hb hX hbl hbA hS (vp_in_nI (show i + 4 < Ln by omega) (by omega)) dL_law_304 ?_
  rw [nI_clamp (show i + 4 < 2 ^ 31 by omega)]
  refine xc_W (S0 := Unit) (rw := va_pl L f ++ mb bm cJ cZ v G dn lt ch (nI (cntG G 8))) (As := [.int (xs (i + 1)), .int (xs (i + 2)), .int (xs (i + 3)), .int (xs (i + 4))]) (rest := []) ⟨hx, hb, hml, hown, hts⟩ (c_X1_denies l D a cV cI cG v gg dn lt ch H.size (xs (i + 1)) (xs (i + 2)) (xs (i + 3)) (xs (i + 4))) (cwV 4 hts gL_law_X1_denies rfl rfl rfl (by decide +kernel) ⟨Nat.le_of_ble_eq_true rfl, Nat.le_of_ble_eq_true rfl⟩) xMv0 trivial hP (hK.sub (tys' := cT cV cI cG) [0, 1, 2] rfl) hD hS hA (va_recv hK hP (ci := 1) (q0 := 0) rfl rfl) rfl hl.1 rfl (Nat.le_of_ble_eq_true rfl) dL_law_305 hro (fun r1 _ H locs hr1 hP hD _ hS => ?_)
  rw [hr1]
  refine W.widen (k := ce) (n := se) (Nat.le_refl _) (Nat.le_refl _) ?_
  have hP : va_P D vwCl (cb a cV cI cG v gg (nDeny v dn (xs (i + 1)) (xs (i + 2)) (xs (i + 3)) (xs (i + 4))) lt ch ++ (va_pl L f ++ mb bm cJ cZ v G dn lt ch (nI (cntG G 8)))) H := hP
  have hD : va_D (fun q : Nat => s.heap.size ≤ q) (cb a cV cI cG v gg (nDeny v dn (xs (i + 1)) (xs (i + 2)) (xs (i + 3)) (xs (i + 4))) lt ch ++ (va_pl L f ++ mb bm cJ cZ v G dn lt ch (nI (cntG G 8)))) := hD
  refine lv_aload_n hx hb dL_law_308 rfl (lv_at hl 3 rfl) ?_
  refine lv_aload_n hx hb dL_law_309 rfl (lv_at hl 1 rfl) ?_
  refine lv_iload_n hx hb dL_law_310 rfl (lv_at hl 0 rfl) ?_
  refine lv_iconst (v := 1) hx hb dL_law_311 (by decide) ?_
  refine lv_iadd hx hb dL_law_312 ?_
  rw [show nI i + 1 = nI (i + 1) from nI_add i 1]
  refine va_sld hx hb hX hbl hbA hS (vp_in_nI (show i + 1 < Ln by omega) (by omega)) dL_law_313 ?_
  rw [nI_clamp (show i + 1 < 2 ^ 31 by omega)]
  refine lv_aload_n hx hb dL_law_314 rfl (lv_at hl 1 rfl) ?_
  refine lv_iload_n hx hb dL_law_315 rfl (lv_at hl 0 rfl) ?_
  refine lv_iconst (v := 2) hx hb dL_law_316 (by decide) ?_
  refine lv_iadd hx hb dL_law_317 ?_
  rw [show nI i + 2 = nI (i + 2) from nI_add i 2]
  refine va_sld hx hb hX hbl hbA hS (vp_in_nI (show i + 2 < Ln by omega) (by omega)) dL_law_318 ?_
  rw [nI_clamp (show i + 2 < 2 ^ 31 by omega)]
  refine lv_aload_n hx hb dL_law_319 rfl (lv_at hl 1 rfl) ?_
  refine lv_iload_n hx hb dL_law_320 rfl (lv_at hl 0 rfl) ?_
  refine lv_iconst (v := 3) hx hb dL_law_321 (by decide) ?_
  refine lv_iadd hx hb dL_law_322 ?_
  rw [show nI i + 3 = nI (i + 3) from nI_add i 3]
  refine va_sld hx hb hX hbl hbA hS (vp_in_nI (show i + 3 < Ln by omega) (by omega)) dL_law_323 ?_
  rw [nI_clamp (show i + 3 < 2 ^ 31 by omega)]
  refine lv_aload_n hx hb dL_law_324 rfl (lv_at hl 1 rfl) ?_
  refine lv_iload_n hx hb dL_law_325 rfl (lv_at hl 0 rfl) ?_
  refine lv_iconst (v := 4) hx hb dL_law_326 (by decide) ?_
  refine lv_iadd hx hb dL_law_327 ?_
  rw [show nI i + 4 = nI (i + 4) from nI_add i 4]
  refine va_sld hx hb hX hbl hbA hS (vp_in_nI (show i + 4 < Ln by omega) (by omega)) dL_law_328 ?_
  rw [nI_clamp (show i + 4 < 2 ^ 31 by omega)]
  have hPm := hP; rw [← List.append_assoc] at hPm
  have hPm := xp_c hPm
  have hDm := hD; rw [← List.append_assoc] at hDm
  have hDm := xd_c hDm
  refine xc_W (S0 := Unit) (rw := cb a cV cI cG v gg (nDeny v dn (xs (i + 1)) (xs (i + 2)) (xs (i + 3)) (xs (i + 4))) lt ch ++ va_pl L f) (As := [.int (xs (i + 1)), .int (xs (i + 2)), .int (xs (i + 3)), .int (xs (i + 4))]) (rest := [.int (aDeny v (xs (i + 1)) (xs (i + 2)) (xs (i + 3)) (xs (i + 4)))]) ⟨hx, hb, hml, hown, hts⟩ (c_X2_denies l D bm cJ cZ v G dn lt ch (nI (cntG G 8)) H.size (xs (i + 1)) (xs (i + 2)) (xs (i + 3)) (xs (i + 4)) okv) (cwV 4 hts gL_law_X2_denies rfl rfl rfl (by decide +kernel) ⟨Nat.le_of_ble_eq_true rfl, Nat.le_of_ble_eq_true rfl⟩) xMv0 trivial hPm (hK.sub (tys' := mT cJ cZ) [3, 4] rfl) hDm hS hA (va_recv (hK.sub (tys' := mT cJ cZ) [3, 4] rfl) hPm (ci := 2) (q0 := 0) rfl rfl) rfl hl.1 rfl (Nat.le_of_ble_eq_true rfl) dL_law_329 hro (fun r2 _ H locs hr2 hP hD _ hS => ?_)
  rw [hr2]
  have hP := xp_c hP
  have hD := xd_c hD
  rw [List.append_assoc] at hP hD
  refine lv_icmp_eq (tgt := 812) hx hb dL_law_332 (by decide) (fun c_1 => ?_) (fun c_1 => absurd rfl c_1)
  refine W.widen (k := ce + 1) (n := se + 6) (by omega) (by omega) ?_
  exact nx v G gg L f (nDeny v dn (xs (i + 1)) (xs (i + 2)) (xs (i + 3)) (xs (i + 4))) lt ch H locs ls ⟨hP, hD, hS, hGR, okv, hGo⟩ (lv_sub hl [0, 1, 2, 3] rfl)
set_option maxHeartbeats 4000000 in
set_option maxRecDepth 100000 in
theorem law_pick {p : Program} {l : Launch} {e : Env} {s : State} {m : MethodId} {below : List Frame} {meth : Method} {c : Code} {b Ln : Nat} {xs : Nat → Int32} (hL : Ln ≤ 3072) (C0 : lw_At p s m meth c b Ln xs) {D : va_G} {a bm : Nat → Nat} {cV cI cG cJ cZ : ClassId} (hK : va_K D vwCl (lT cV cI cG cJ cZ) s) (hN : nT s) {i ce se : Nat} (hi : i + 6 ≤ Ln) (hce : ce + 1 ≤ room_1.cells) (hse : se + 6 ≤ room_1.slots) (nx : lNext p l e s m below meth c D a bm cV cI cG cJ cZ b i (ce + 1) (se + 6)) {v : Nat → Nat → Int32} {G : Nat → Option GT} {gg : Nat → Option Nat} {L : List Nat} {f : Nat → va_E} {dn lt ch : Int32} {H : Heap} {locs : List Loc} {ls : Array Slot} (hI : lInv s D a bm cV cI cG cJ cZ v G gg L f dn lt ch H locs) (hl : lv_has ls 4 [(3, .int (nI i)), (0, .ref b), (1, .ref (a 0)), (2, .ref (bm 0))]) : W p l e room_1 s m #[Value.ref b] below meth c H locs ce se (lw_Z below #[Value.ref b] s) (F0 m 337 ls []) := by
  obtain ⟨hx, hb, hr, hml, hown, hts, hX, hbl, hlocks, hgv⟩ := C0
  have hown : s.vm.findClass RL = some m.cls := hown
  have hts : ∀ w ∈ wsL_law, w.before #[Value.ref b] s = true := fun w h => hts w (wsL_law_in w h)
  have hA : ∀ q : Nat, s.heap.size ≤ q → (fun q : Nat => s.heap.size ≤ q) q := fun _ h => h
  have hbA : ¬ (fun q : Nat => s.heap.size ≤ q) b := Nat.not_le.mpr hbl
  have hro : ce ≤ room_1.cells ∧ se ≤ room_1.slots := ⟨by omega, by omega⟩
  have hro1 : ce + 1 ≤ room_1.cells ∧ se + 6 ≤ room_1.slots := ⟨hce, hse⟩
  obtain ⟨hP, hD, hS, hGR, okv, hGo⟩ := hI
  have hP : va_P D vwCl (cb a cV cI cG v gg dn lt ch ++ (va_pl L f ++ mb bm cJ cZ v G dn lt ch (nI (cntG G 8)))) H := hP
  have hD : va_D (fun q : Nat => s.heap.size ≤ q) (cb a cV cI cG v gg dn lt ch ++ (va_pl L f ++ mb bm cJ cZ v G dn lt ch (nI (cntG G 8)))) := hD
  refine lv_aload_n hx hb dL_law_337 rfl (lv_at hl 2 rfl) ?_
  refine lv_aload_n hx hb dL_law_338 rfl (lv_at hl 1 rfl) ?_
  refine lv_iload_n hx hb dL_law_339 rfl (lv_at hl 0 rfl) ?_
  refine lv_iconst (v := 1) hx hb dL_law_340 (by decide) ?_
  refine lv_iadd hx hb dL_law_341 ?_
  rw [show nI i + 1 = nI (i + 1) from nI_add i 1]
  refine va_sld hx hb hX hbl hbA hS (vp_in_nI (show i + 1 < Ln by omega) (by omega)) dL_law_342 ?_
  rw [nI_clamp (show i + 1 < 2 ^ 31 by omega)]
  refine lv_aload_n hx hb dL_law_343 rfl (lv_at hl 1 rfl) ?_
  refine lv_iload_n hx hb dL_law_344 rfl (lv_at hl 0 rfl) ?_
  refine lv_iconst (v := 2) hx hb dL_law_345 (by decide) ?_
  refine lv_iadd hx hb dL_law_346 ?_
  rw [show nI i + 2 = nI (i + 2) from nI_add i 2]
  refine va_sld hx hb hX hbl hbA hS (vp_in_nI (show i + 2 < Ln by omega) (by omega)) dL_law_347 ?_
  rw [nI_clamp (show i + 2 < 2 ^ 31 by omega)]
  refine lv_aload_n hx hb dL_law_348 rfl (lv_at hl 1 rfl) ?_
  refine lv_iload_n hx hb dL_law_349 rfl (lv_at hl 0 rfl) ?_
  refine lv_iconst (v := 3) hx hb dL_law_350 (by decide) ?_
  refine lv_iadd hx hb dL_law_351 ?_
  rw [show nI i + 3 = nI (i + 3) from nI_add i 3]
  refine va_sld hx hb hX hbl hbA hS (vp_in_nI (show i + 3 < Ln by omega) (by omega)) dL_law_352 ?_
  rw [nI_clamp (show i + 3 < 2 ^ 31 by omega)]
  refine lv_aload_n hx hb dL_law_353 rfl (lv_at hl 1 rfl) ?_
  refine lv_iload_n hx hb dL_law_354 rfl (lv_at hl 0 rfl) ?_
  refine lv_iconst (v := 4) hx hb dL_law_355 (by decide) ?_
  refine lv_iadd hx hb dL_law_356 ?_
  rw [show nI i + 4 = nI (i + 4) from nI_add i 4]
  refine va_sld hx hb hX hbl hbA hS (vp_in_nI (show i + 4 < Ln by omega) (by omega)) dL_law_357 ?_
  rw [nI_clamp (show i + 4 < 2 ^ 31 by omega)]
  refine xc_R (wd := cb a cV cI cG v gg dn lt ch) (As := [.int (xs (i + 1)), .int (xs (i + 2)), .int (xs (i + 3)), .int (xs (i + 4))]) (rest := []) ⟨hx, hb, hml, hown, hts⟩ (c_X1_pick l D a cV cI cG v gg dn lt ch (xs (i + 1)) (xs (i + 2)) (xs (i + 3)) (xs (i + 4))) (cwV 4 hts gL_law_X1_pick rfl rfl rfl (by decide +kernel) ⟨Nat.le_of_ble_eq_true rfl, Nat.le_of_ble_eq_true rfl⟩) xMv0 trivial (xp_l hP) (hK.sub (tys' := cT cV cI cG) [0, 1, 2] rfl) (va_recv hK hP (ci := 1) (q0 := 0) rfl rfl) rfl hl.1 rfl (Nat.le_of_ble_eq_true rfl) dL_law_358 hro ?_
  refine lv_aload_n hx hb dL_law_361 rfl (lv_at hl 3 rfl) ?_
  refine lv_aload_n hx hb dL_law_362 rfl (lv_at hl 1 rfl) ?_
  refine lv_iload_n hx hb dL_law_363 rfl (lv_at hl 0 rfl) ?_
  refine lv_iconst (v := 1) hx hb dL_law_364 (by decide) ?_
  refine lv_iadd hx hb dL_law_365 ?_
  rw [show nI i + 1 = nI (i + 1) from nI_add i 1]
  refine va_sld hx hb hX hbl hbA hS (vp_in_nI (show i + 1 < Ln by omega) (by omega)) dL_law_366 ?_
  rw [nI_clamp (show i + 1 < 2 ^ 31 by omega)]
  refine lv_aload_n hx hb dL_law_367 rfl (lv_at hl 1 rfl) ?_
  refine lv_iload_n hx hb dL_law_368 rfl (lv_at hl 0 rfl) ?_
  refine lv_iconst (v := 2) hx hb dL_law_369 (by decide) ?_
  refine lv_iadd hx hb dL_law_370 ?_
  rw [show nI i + 2 = nI (i + 2) from nI_add i 2]
  refine va_sld hx hb hX hbl hbA hS (vp_in_nI (show i + 2 < Ln by omega) (by omega)) dL_law_371 ?_
  rw [nI_clamp (show i + 2 < 2 ^ 31 by omega)]
  refine lv_aload_n hx hb dL_law_372 rfl (lv_at hl 1 rfl) ?_
  refine lv_iload_n hx hb dL_law_373 rfl (lv_at hl 0 rfl) ?_
  refine lv_iconst (v := 3) hx hb dL_law_374 (by decide) ?_
  refine lv_iadd hx hb dL_law_375 ?_
  rw [show nI i + 3 = nI (i + 3) from nI_add i 3]
  refine va_sld hx hb hX hbl hbA hS (vp_in_nI (show i + 3 < Ln by omega) (by omega)) dL_law_376 ?_
  rw [nI_clamp (show i + 3 < 2 ^ 31 by omega)]
  refine lv_aload_n hx hb dL_law_377 rfl (lv_at hl 1 rfl) ?_
  refine lv_iload_n hx hb dL_law_378 rfl (lv_at hl 0 rfl) ?_
  refine lv_iconst (v := 4) hx hb dL_law_379 (by decide) ?_
  refine lv_iadd hx hb dL_law_380 ?_
  rw [show nI i + 4 = nI (i + 4) from nI_add i 4]
  refine va_sld hx hb hX hbl hbA hS (vp_in_nI (show i + 4 < Ln by omega) (by omega)) dL_law_381 ?_
  rw [nI_clamp (show i + 4 < 2 ^ 31 by omega)]
  have hPm := hP; rw [← List.append_assoc] at hPm
  have hPm := xp_c hPm
  refine xc_R (wd := mb bm cJ cZ v G dn lt ch (nI (cntG G 8))) (As := [.int (xs (i + 1)), .int (xs (i + 2)), .int (xs (i + 3)), .int (xs (i + 4))]) (rest := [.int (aPick v (xs (i + 1)) (xs (i + 2)) (xs (i + 3)) (xs (i + 4)))]) ⟨hx, hb, hml, hown, hts⟩ (c_X2_pick l D bm cJ cZ v G dn lt ch (nI (cntG G 8)) (xs (i + 1)) (xs (i + 2)) (xs (i + 3)) (xs (i + 4)) okv) (cwV 4 hts gL_law_X2_pick rfl rfl rfl (by decide +kernel) ⟨Nat.le_of_ble_eq_true rfl, Nat.le_of_ble_eq_true rfl⟩) xMv0 trivial (xp_l hPm) (hK.sub (tys' := mT cJ cZ) [3, 4] rfl) (va_recv (hK.sub (tys' := mT cJ cZ) [3, 4] rfl) hPm (ci := 2) (q0 := 0) rfl rfl) rfl hl.1 rfl (Nat.le_of_ble_eq_true rfl) dL_law_382 hro ?_
  refine lv_icmp_eq (tgt := 812) hx hb dL_law_385 (by decide) (fun c_1 => ?_) (fun c_1 => absurd rfl c_1)
  refine W.widen (k := ce + 1) (n := se + 6) (by omega) (by omega) ?_
  exact nx v G gg L f dn lt ch H locs ls ⟨hP, hD, hS, hGR, okv, hGo⟩ (lv_sub hl [0, 1, 2, 3] rfl)
end
section
/-! the law, case by case -/
set_option maxHeartbeats 4000000 in
set_option maxRecDepth 100000 in
theorem law_climb {p : Program} {l : Launch} {e : Env} {s : State} {m : MethodId} {below : List Frame} {meth : Method} {c : Code} {b Ln : Nat} {xs : Nat → Int32} (hL : Ln ≤ 3072) (C0 : lw_At p s m meth c b Ln xs) {D : va_G} {a bm : Nat → Nat} {cV cI cG cJ cZ : ClassId} (hK : va_K D vwCl (lT cV cI cG cJ cZ) s) (hN : nT s) {i ce se : Nat} (hi : i + 6 ≤ Ln) (hce : ce + 1 ≤ room_1.cells) (hse : se + 6 ≤ room_1.slots) (nx : lNext p l e s m below meth c D a bm cV cI cG cJ cZ b i (ce + 1) (se + 6)) {v : Nat → Nat → Int32} {G : Nat → Option GT} {gg : Nat → Option Nat} {L : List Nat} {f : Nat → va_E} {dn lt ch : Int32} {H : Heap} {locs : List Loc} {ls : Array Slot} (hI : lInv s D a bm cV cI cG cJ cZ v G gg L f dn lt ch H locs) (hl : lv_has ls 4 [(3, .int (nI i)), (0, .ref b), (1, .ref (a 0)), (2, .ref (bm 0))]) : W p l e room_1 s m #[Value.ref b] below meth c H locs ce se (lw_Z below #[Value.ref b] s) (F0 m 390 ls []) := by
  obtain ⟨hx, hb, hr, hml, hown, hts, hX, hbl, hlocks, hgv⟩ := C0
  have hown : s.vm.findClass RL = some m.cls := hown
  have hts : ∀ w ∈ wsL_law, w.before #[Value.ref b] s = true := fun w h => hts w (wsL_law_in w h)
  have hA : ∀ q : Nat, s.heap.size ≤ q → (fun q : Nat => s.heap.size ≤ q) q := fun _ h => h
  have hbA : ¬ (fun q : Nat => s.heap.size ≤ q) b := Nat.not_le.mpr hbl
  have hro : ce ≤ room_1.cells ∧ se ≤ room_1.slots := ⟨by omega, by omega⟩
  have hro1 : ce + 1 ≤ room_1.cells ∧ se + 6 ≤ room_1.slots := ⟨hce, hse⟩
  obtain ⟨hP, hD, hS, hGR, okv, hGo⟩ := hI
  have hP : va_P D vwCl (cb a cV cI cG v gg dn lt ch ++ (va_pl L f ++ mb bm cJ cZ v G dn lt ch (nI (cntG G 8)))) H := hP
  have hD : va_D (fun q : Nat => s.heap.size ≤ q) (cb a cV cI cG v gg dn lt ch ++ (va_pl L f ++ mb bm cJ cZ v G dn lt ch (nI (cntG G 8)))) := hD
  refine lv_aload_n hx hb dL_law_390 rfl (lv_at hl 2 rfl) ?_
  refine lv_aload_n hx hb dL_law_391 rfl (lv_at hl 1 rfl) ?_
  refine lv_iload_n hx hb dL_law_392 rfl (lv_at hl 0 rfl) ?_
  refine lv_iconst (v := 1) hx hb dL_law_393 (by decide) ?_
  refine lv_iadd hx hb dL_law_394 ?_
  rw [show nI i + 1 = nI (i + 1) from nI_add i 1]
  refine va_sld hx hb hX hbl hbA hS (vp_in_nI (show i + 1 < Ln by omega) (by omega)) dL_law_395 ?_
  rw [nI_clamp (show i + 1 < 2 ^ 31 by omega)]
  refine lv_aload_n hx hb dL_law_396 rfl (lv_at hl 1 rfl) ?_
  refine lv_iload_n hx hb dL_law_397 rfl (lv_at hl 0 rfl) ?_
  refine lv_iconst (v := 2) hx hb dL_law_398 (by decide) ?_
  refine lv_iadd hx hb dL_law_399 ?_
  rw [show nI i + 2 = nI (i + 2) from nI_add i 2]
  refine va_sld hx hb hX hbl hbA hS (vp_in_nI (show i + 2 < Ln by omega) (by omega)) dL_law_400 ?_
  rw [nI_clamp (show i + 2 < 2 ^ 31 by omega)]
  refine lv_aload_n hx hb dL_law_401 rfl (lv_at hl 1 rfl) ?_
  refine lv_iload_n hx hb dL_law_402 rfl (lv_at hl 0 rfl) ?_
  refine lv_iconst (v := 3) hx hb dL_law_403 (by decide) ?_
  refine lv_iadd hx hb dL_law_404 ?_
  rw [show nI i + 3 = nI (i + 3) from nI_add i 3]
  refine va_sld hx hb hX hbl hbA hS (vp_in_nI (show i + 3 < Ln by omega) (by omega)) dL_law_405 ?_
  rw [nI_clamp (show i + 3 < 2 ^ 31 by omega)]
  refine xc_R (wd := cb a cV cI cG v gg dn lt ch) (As := [.int (xs (i + 1)), .int (xs (i + 2)), .int (xs (i + 3))]) (rest := []) ⟨hx, hb, hml, hown, hts⟩ (c_X1_climb l D a cV cI cG v gg dn lt ch (xs (i + 1)) (xs (i + 2)) (xs (i + 3))) (cwV 3 hts gL_law_X1_climb rfl rfl rfl (by decide +kernel) ⟨Nat.le_of_ble_eq_true rfl, Nat.le_of_ble_eq_true rfl⟩) xMv0 trivial (xp_l hP) (hK.sub (tys' := cT cV cI cG) [0, 1, 2] rfl) (va_recv hK hP (ci := 1) (q0 := 0) rfl rfl) rfl hl.1 rfl (Nat.le_of_ble_eq_true rfl) dL_law_406 hro ?_
  refine lv_aload_n hx hb dL_law_409 rfl (lv_at hl 3 rfl) ?_
  refine lv_aload_n hx hb dL_law_410 rfl (lv_at hl 1 rfl) ?_
  refine lv_iload_n hx hb dL_law_411 rfl (lv_at hl 0 rfl) ?_
  refine lv_iconst (v := 1) hx hb dL_law_412 (by decide) ?_
  refine lv_iadd hx hb dL_law_413 ?_
  rw [show nI i + 1 = nI (i + 1) from nI_add i 1]
  refine va_sld hx hb hX hbl hbA hS (vp_in_nI (show i + 1 < Ln by omega) (by omega)) dL_law_414 ?_
  rw [nI_clamp (show i + 1 < 2 ^ 31 by omega)]
  refine lv_aload_n hx hb dL_law_415 rfl (lv_at hl 1 rfl) ?_
  refine lv_iload_n hx hb dL_law_416 rfl (lv_at hl 0 rfl) ?_
  refine lv_iconst (v := 2) hx hb dL_law_417 (by decide) ?_
  refine lv_iadd hx hb dL_law_418 ?_
  rw [show nI i + 2 = nI (i + 2) from nI_add i 2]
  refine va_sld hx hb hX hbl hbA hS (vp_in_nI (show i + 2 < Ln by omega) (by omega)) dL_law_419 ?_
  rw [nI_clamp (show i + 2 < 2 ^ 31 by omega)]
  refine lv_aload_n hx hb dL_law_420 rfl (lv_at hl 1 rfl) ?_
  refine lv_iload_n hx hb dL_law_421 rfl (lv_at hl 0 rfl) ?_
  refine lv_iconst (v := 3) hx hb dL_law_422 (by decide) ?_
  refine lv_iadd hx hb dL_law_423 ?_
  rw [show nI i + 3 = nI (i + 3) from nI_add i 3]
  refine va_sld hx hb hX hbl hbA hS (vp_in_nI (show i + 3 < Ln by omega) (by omega)) dL_law_424 ?_
  rw [nI_clamp (show i + 3 < 2 ^ 31 by omega)]
  have hPm := hP; rw [← List.append_assoc] at hPm
  have hPm := xp_c hPm
  refine xc_R (wd := mb bm cJ cZ v G dn lt ch (nI (cntG G 8))) (As := [.int (xs (i + 1)), .int (xs (i + 2)), .int (xs (i + 3))]) (rest := [.int (aClim v (xs (i + 1)) (xs (i + 2)) (xs (i + 3)))]) ⟨hx, hb, hml, hown, hts⟩ (c_X2_climb l D bm cJ cZ v G dn lt ch (nI (cntG G 8)) (xs (i + 1)) (xs (i + 2)) (xs (i + 3)) okv) (cwV 3 hts gL_law_X2_climb rfl rfl rfl (by decide +kernel) ⟨Nat.le_of_ble_eq_true rfl, Nat.le_of_ble_eq_true rfl⟩) xMv0 trivial (xp_l hPm) (hK.sub (tys' := mT cJ cZ) [3, 4] rfl) (va_recv (hK.sub (tys' := mT cJ cZ) [3, 4] rfl) hPm (ci := 2) (q0 := 0) rfl rfl) rfl hl.1 rfl (Nat.le_of_ble_eq_true rfl) dL_law_425 hro ?_
  refine lv_icmp_eq (tgt := 812) hx hb dL_law_428 (by decide) (fun c_1 => ?_) (fun c_1 => absurd rfl c_1)
  refine W.widen (k := ce + 1) (n := se + 6) (by omega) (by omega) ?_
  exact nx v G gg L f dn lt ch H locs ls ⟨hP, hD, hS, hGR, okv, hGo⟩ (lv_sub hl [0, 1, 2, 3] rfl)
set_option maxHeartbeats 4000000 in
set_option maxRecDepth 100000 in
theorem law_first {p : Program} {l : Launch} {e : Env} {s : State} {m : MethodId} {below : List Frame} {meth : Method} {c : Code} {b Ln : Nat} {xs : Nat → Int32} (hL : Ln ≤ 3072) (C0 : lw_At p s m meth c b Ln xs) {D : va_G} {a bm : Nat → Nat} {cV cI cG cJ cZ : ClassId} (hK : va_K D vwCl (lT cV cI cG cJ cZ) s) (hN : nT s) {i ce se : Nat} (hi : i + 6 ≤ Ln) (hce : ce + 1 ≤ room_1.cells) (hse : se + 6 ≤ room_1.slots) (nx : lNext p l e s m below meth c D a bm cV cI cG cJ cZ b i (ce + 1) (se + 6)) {v : Nat → Nat → Int32} {G : Nat → Option GT} {gg : Nat → Option Nat} {L : List Nat} {f : Nat → va_E} {dn lt ch : Int32} {H : Heap} {locs : List Loc} {ls : Array Slot} (hI : lInv s D a bm cV cI cG cJ cZ v G gg L f dn lt ch H locs) (hl : lv_has ls 4 [(3, .int (nI i)), (0, .ref b), (1, .ref (a 0)), (2, .ref (bm 0))]) : W p l e room_1 s m #[Value.ref b] below meth c H locs ce se (lw_Z below #[Value.ref b] s) (F0 m 433 ls []) := by
  obtain ⟨hx, hb, hr, hml, hown, hts, hX, hbl, hlocks, hgv⟩ := C0
  have hown : s.vm.findClass RL = some m.cls := hown
  have hts : ∀ w ∈ wsL_law, w.before #[Value.ref b] s = true := fun w h => hts w (wsL_law_in w h)
  have hA : ∀ q : Nat, s.heap.size ≤ q → (fun q : Nat => s.heap.size ≤ q) q := fun _ h => h
  have hbA : ¬ (fun q : Nat => s.heap.size ≤ q) b := Nat.not_le.mpr hbl
  have hro : ce ≤ room_1.cells ∧ se ≤ room_1.slots := ⟨by omega, by omega⟩
  have hro1 : ce + 1 ≤ room_1.cells ∧ se + 6 ≤ room_1.slots := ⟨hce, hse⟩
  obtain ⟨hP, hD, hS, hGR, okv, hGo⟩ := hI
  have hP : va_P D vwCl (cb a cV cI cG v gg dn lt ch ++ (va_pl L f ++ mb bm cJ cZ v G dn lt ch (nI (cntG G 8)))) H := hP
  have hD : va_D (fun q : Nat => s.heap.size ≤ q) (cb a cV cI cG v gg dn lt ch ++ (va_pl L f ++ mb bm cJ cZ v G dn lt ch (nI (cntG G 8)))) := hD
  by_cases hz : xs (i + 4) = 0
  · refine lv_aload_n hx hb dL_law_433 rfl (lv_at hl 2 rfl) ?_
    refine lv_aload_n hx hb dL_law_434 rfl (lv_at hl 1 rfl) ?_
    refine lv_iload_n hx hb dL_law_435 rfl (lv_at hl 0 rfl) ?_
    refine lv_iconst (v := 1) hx hb dL_law_436 (by decide) ?_
    refine lv_iadd hx hb dL_law_437 ?_
    rw [show nI i + 1 = nI (i + 1) from nI_add i 1]
    refine va_sld hx hb hX hbl hbA hS (vp_in_nI (show i + 1 < Ln by omega) (by omega)) dL_law_438 ?_
    rw [nI_clamp (show i + 1 < 2 ^ 31 by omega)]
    refine lv_aload_n hx hb dL_law_439 rfl (lv_at hl 1 rfl) ?_
    refine lv_iload_n hx hb dL_law_440 rfl (lv_at hl 0 rfl) ?_
    refine lv_iconst (v := 2) hx hb dL_law_441 (by decide) ?_
    refine lv_iadd hx hb dL_law_442 ?_
    rw [show nI i + 2 = nI (i + 2) from nI_add i 2]
    refine va_sld hx hb hX hbl hbA hS (vp_in_nI (show i + 2 < Ln by omega) (by omega)) dL_law_443 ?_
    rw [nI_clamp (show i + 2 < 2 ^ 31 by omega)]
    refine lv_aload_n hx hb dL_law_444 rfl (lv_at hl 1 rfl) ?_
    refine lv_iload_n hx hb dL_law_445 rfl (lv_at hl 0 rfl) ?_
    refine lv_iconst (v := 3) hx hb dL_law_446 (by decide) ?_
    refine lv_iadd hx hb dL_law_447 ?_
    rw [show nI i + 3 = nI (i + 3) from nI_add i 3]
    refine va_sld hx hb hX hbl hbA hS (vp_in_nI (show i + 3 < Ln by omega) (by omega)) dL_law_448 ?_
    rw [nI_clamp (show i + 3 < 2 ^ 31 by omega)]
    refine lv_aload_n hx hb dL_law_449 rfl (lv_at hl 1 rfl) ?_
    refine lv_iload_n hx hb dL_law_450 rfl (lv_at hl 0 rfl) ?_
    refine lv_iconst (v := 4) hx hb dL_law_451 (by decide) ?_
    refine lv_iadd hx hb dL_law_452 ?_
    rw [show nI i + 4 = nI (i + 4) from nI_add i 4]
    refine va_sld hx hb hX hbl hbA hS (vp_in_nI (show i + 4 < Ln by omega) (by omega)) dL_law_453 ?_
    rw [nI_clamp (show i + 4 < 2 ^ 31 by omega)]
    refine lv_if_eq (tgt := 461) hx hb dL_law_454 (by decide) (fun c_1 => ?_) (fun c_1 => absurd hz c_1)
    refine lv_iconst (v := 0) hx hb dL_law_461 (by decide) ?_
    refine W.eq (g2 := F0 m 462 ls [.int (b2i false), .int (xs (i + 3)), .int (xs (i + 2)), .int (xs (i + 1)), .ref (a 0)]) rfl ?_
    refine xc_R (wd := cb a cV cI cG v gg dn lt ch) (As := [.int (xs (i + 1)), .int (xs (i + 2)), .int (xs (i + 3)), .int (b2i false)]) (rest := []) ⟨hx, hb, hml, hown, hts⟩ (c_X1_first l D a cV cI cG v gg dn lt ch (xs (i + 1)) (xs (i + 2)) (xs (i + 3)) false) (cwV 4 hts gL_law_X1_first rfl rfl rfl (by decide +kernel) ⟨Nat.le_of_ble_eq_true rfl, Nat.le_of_ble_eq_true rfl⟩) xMv0 trivial (xp_l hP) (hK.sub (tys' := cT cV cI cG) [0, 1, 2] rfl) (va_recv hK hP (ci := 1) (q0 := 0) rfl rfl) rfl hl.1 rfl (Nat.le_of_ble_eq_true rfl) dL_law_462 hro ?_
    refine lv_aload_n hx hb dL_law_465 rfl (lv_at hl 3 rfl) ?_
    refine lv_aload_n hx hb dL_law_466 rfl (lv_at hl 1 rfl) ?_
    refine lv_iload_n hx hb dL_law_467 rfl (lv_at hl 0 rfl) ?_
    refine lv_iconst (v := 1) hx hb dL_law_468 (by decide) ?_
    refine lv_iadd hx hb dL_law_469 ?_
    rw [show nI i + 1 = nI (i + 1) from nI_add i 1]
    refine va_sld hx hb hX hbl hbA hS (vp_in_nI (show i + 1 < Ln by omega) (by omega)) dL_law_470 ?_
    rw [nI_clamp (show i + 1 < 2 ^ 31 by omega)]
    refine lv_aload_n hx hb dL_law_471 rfl (lv_at hl 1 rfl) ?_
    refine lv_iload_n hx hb dL_law_472 rfl (lv_at hl 0 rfl) ?_
    refine lv_iconst (v := 2) hx hb dL_law_473 (by decide) ?_
    refine lv_iadd hx hb dL_law_474 ?_
    rw [show nI i + 2 = nI (i + 2) from nI_add i 2]
    refine va_sld hx hb hX hbl hbA hS (vp_in_nI (show i + 2 < Ln by omega) (by omega)) dL_law_475 ?_
    rw [nI_clamp (show i + 2 < 2 ^ 31 by omega)]
    refine lv_aload_n hx hb dL_law_476 rfl (lv_at hl 1 rfl) ?_
    refine lv_iload_n hx hb dL_law_477 rfl (lv_at hl 0 rfl) ?_
    refine lv_iconst (v := 3) hx hb dL_law_478 (by decide) ?_
    refine lv_iadd hx hb dL_law_479 ?_
    rw [show nI i + 3 = nI (i + 3) from nI_add i 3]
    refine va_sld hx hb hX hbl hbA hS (vp_in_nI (show i + 3 < Ln by omega) (by omega)) dL_law_480 ?_
    rw [nI_clamp (show i + 3 < 2 ^ 31 by omega)]
    refine lv_aload_n hx hb dL_law_481 rfl (lv_at hl 1 rfl) ?_
    refine lv_iload_n hx hb dL_law_482 rfl (lv_at hl 0 rfl) ?_
    refine lv_iconst (v := 4) hx hb dL_law_483 (by decide) ?_
    refine lv_iadd hx hb dL_law_484 ?_
    rw [show nI i + 4 = nI (i + 4) from nI_add i 4]
    refine va_sld hx hb hX hbl hbA hS (vp_in_nI (show i + 4 < Ln by omega) (by omega)) dL_law_485 ?_
    rw [nI_clamp (show i + 4 < 2 ^ 31 by omega)]
    refine lv_if_eq (tgt := 493) hx hb dL_law_486 (by decide) (fun c_2 => ?_) (fun c_2 => absurd hz c_2)
    refine lv_iconst (v := 0) hx hb dL_law_493 (by decide) ?_
    refine W.eq (g2 := F0 m 494 ls [.int (b2i false), .int (xs (i + 3)), .int (xs (i + 2)), .int (xs (i + 1)), .ref (bm 0), .int (aFirs v (xs (i + 1)) (xs (i + 2)) (xs (i + 3)) false)]) rfl ?_
    have hPm := hP; rw [← List.append_assoc] at hPm
    have hPm := xp_c hPm
    refine xc_R (wd := mb bm cJ cZ v G dn lt ch (nI (cntG G 8))) (As := [.int (xs (i + 1)), .int (xs (i + 2)), .int (xs (i + 3)), .int (b2i false)]) (rest := [.int (aFirs v (xs (i + 1)) (xs (i + 2)) (xs (i + 3)) false)]) ⟨hx, hb, hml, hown, hts⟩ (c_X2_first l D bm cJ cZ v G dn lt ch (nI (cntG G 8)) (xs (i + 1)) (xs (i + 2)) (xs (i + 3)) false okv) (cwV 4 hts gL_law_X2_first rfl rfl rfl (by decide +kernel) ⟨Nat.le_of_ble_eq_true rfl, Nat.le_of_ble_eq_true rfl⟩) xMv0 trivial (xp_l hPm) (hK.sub (tys' := mT cJ cZ) [3, 4] rfl) (va_recv (hK.sub (tys' := mT cJ cZ) [3, 4] rfl) hPm (ci := 2) (q0 := 0) rfl rfl) rfl hl.1 rfl (Nat.le_of_ble_eq_true rfl) dL_law_494 hro ?_
    refine lv_icmp_eq (tgt := 812) hx hb dL_law_497 (by decide) (fun c_3 => ?_) (fun c_3 => absurd rfl c_3)
    refine W.widen (k := ce + 1) (n := se + 6) (by omega) (by omega) ?_
    exact nx v G gg L f dn lt ch H locs ls ⟨hP, hD, hS, hGR, okv, hGo⟩ (lv_sub hl [0, 1, 2, 3] rfl)
  · refine lv_aload_n hx hb dL_law_433 rfl (lv_at hl 2 rfl) ?_
    refine lv_aload_n hx hb dL_law_434 rfl (lv_at hl 1 rfl) ?_
    refine lv_iload_n hx hb dL_law_435 rfl (lv_at hl 0 rfl) ?_
    refine lv_iconst (v := 1) hx hb dL_law_436 (by decide) ?_
    refine lv_iadd hx hb dL_law_437 ?_
    rw [show nI i + 1 = nI (i + 1) from nI_add i 1]
    refine va_sld hx hb hX hbl hbA hS (vp_in_nI (show i + 1 < Ln by omega) (by omega)) dL_law_438 ?_
    rw [nI_clamp (show i + 1 < 2 ^ 31 by omega)]
    refine lv_aload_n hx hb dL_law_439 rfl (lv_at hl 1 rfl) ?_
    refine lv_iload_n hx hb dL_law_440 rfl (lv_at hl 0 rfl) ?_
    refine lv_iconst (v := 2) hx hb dL_law_441 (by decide) ?_
    refine lv_iadd hx hb dL_law_442 ?_
    rw [show nI i + 2 = nI (i + 2) from nI_add i 2]
    refine va_sld hx hb hX hbl hbA hS (vp_in_nI (show i + 2 < Ln by omega) (by omega)) dL_law_443 ?_
    rw [nI_clamp (show i + 2 < 2 ^ 31 by omega)]
    refine lv_aload_n hx hb dL_law_444 rfl (lv_at hl 1 rfl) ?_
    refine lv_iload_n hx hb dL_law_445 rfl (lv_at hl 0 rfl) ?_
    refine lv_iconst (v := 3) hx hb dL_law_446 (by decide) ?_
    refine lv_iadd hx hb dL_law_447 ?_
    rw [show nI i + 3 = nI (i + 3) from nI_add i 3]
    refine va_sld hx hb hX hbl hbA hS (vp_in_nI (show i + 3 < Ln by omega) (by omega)) dL_law_448 ?_
    rw [nI_clamp (show i + 3 < 2 ^ 31 by omega)]
    refine lv_aload_n hx hb dL_law_449 rfl (lv_at hl 1 rfl) ?_
    refine lv_iload_n hx hb dL_law_450 rfl (lv_at hl 0 rfl) ?_
    refine lv_iconst (v := 4) hx hb dL_law_451 (by decide) ?_
    refine lv_iadd hx hb dL_law_452 ?_
    rw [show nI i + 4 = nI (i + 4) from nI_add i 4]
    refine va_sld hx hb hX hbl hbA hS (vp_in_nI (show i + 4 < Ln by omega) (by omega)) dL_law_453 ?_
    rw [nI_clamp (show i + 4 < 2 ^ 31 by omega)]
    refine lv_if_eq (tgt := 461) hx hb dL_law_454 (by decide) (fun c_4 => absurd c_4 hz) (fun c_4 => ?_)
    refine lv_iconst (v := 1) hx hb dL_law_457 (by decide) ?_
    refine lv_goto (tgt := 462) hx hb dL_law_458 (by decide) ?_
    refine W.eq (g2 := F0 m 462 ls [.int (b2i true), .int (xs (i + 3)), .int (xs (i + 2)), .int (xs (i + 1)), .ref (a 0)]) rfl ?_
    refine xc_R (wd := cb a cV cI cG v gg dn lt ch) (As := [.int (xs (i + 1)), .int (xs (i + 2)), .int (xs (i + 3)), .int (b2i true)]) (rest := []) ⟨hx, hb, hml, hown, hts⟩ (c_X1_first l D a cV cI cG v gg dn lt ch (xs (i + 1)) (xs (i + 2)) (xs (i + 3)) true) (cwV 4 hts gL_law_X1_first rfl rfl rfl (by decide +kernel) ⟨Nat.le_of_ble_eq_true rfl, Nat.le_of_ble_eq_true rfl⟩) xMv0 trivial (xp_l hP) (hK.sub (tys' := cT cV cI cG) [0, 1, 2] rfl) (va_recv hK hP (ci := 1) (q0 := 0) rfl rfl) rfl hl.1 rfl (Nat.le_of_ble_eq_true rfl) dL_law_462 hro ?_
    refine lv_aload_n hx hb dL_law_465 rfl (lv_at hl 3 rfl) ?_
    refine lv_aload_n hx hb dL_law_466 rfl (lv_at hl 1 rfl) ?_
    refine lv_iload_n hx hb dL_law_467 rfl (lv_at hl 0 rfl) ?_
    refine lv_iconst (v := 1) hx hb dL_law_468 (by decide) ?_
    refine lv_iadd hx hb dL_law_469 ?_
    rw [show nI i + 1 = nI (i + 1) from nI_add i 1]
    refine va_sld hx hb hX hbl hbA hS (vp_in_nI (show i + 1 < Ln by omega) (by omega)) dL_law_470 ?_
    rw [nI_clamp (show i + 1 < 2 ^ 31 by omega)]
    refine lv_aload_n hx hb dL_law_471 rfl (lv_at hl 1 rfl) ?_
    refine lv_iload_n hx hb dL_law_472 rfl (lv_at hl 0 rfl) ?_
    refine lv_iconst (v := 2) hx hb dL_law_473 (by decide) ?_
    refine lv_iadd hx hb dL_law_474 ?_
    rw [show nI i + 2 = nI (i + 2) from nI_add i 2]
    refine va_sld hx hb hX hbl hbA hS (vp_in_nI (show i + 2 < Ln by omega) (by omega)) dL_law_475 ?_
    rw [nI_clamp (show i + 2 < 2 ^ 31 by omega)]
    refine lv_aload_n hx hb dL_law_476 rfl (lv_at hl 1 rfl) ?_
    refine lv_iload_n hx hb dL_law_477 rfl (lv_at hl 0 rfl) ?_
    refine lv_iconst (v := 3) hx hb dL_law_478 (by decide) ?_
    refine lv_iadd hx hb dL_law_479 ?_
    rw [show nI i + 3 = nI (i + 3) from nI_add i 3]
    refine va_sld hx hb hX hbl hbA hS (vp_in_nI (show i + 3 < Ln by omega) (by omega)) dL_law_480 ?_
    rw [nI_clamp (show i + 3 < 2 ^ 31 by omega)]
    refine lv_aload_n hx hb dL_law_481 rfl (lv_at hl 1 rfl) ?_
    refine lv_iload_n hx hb dL_law_482 rfl (lv_at hl 0 rfl) ?_
    refine lv_iconst (v := 4) hx hb dL_law_483 (by decide) ?_
    refine lv_iadd hx hb dL_law_484 ?_
    rw [show nI i + 4 = nI (i + 4) from nI_add i 4]
    refine va_sld hx hb hX hbl hbA hS (vp_in_nI (show i + 4 < Ln by omega) (by omega)) dL_law_485 ?_
    rw [nI_clamp (show i + 4 < 2 ^ 31 by omega)]
    refine lv_if_eq (tgt := 493) hx hb dL_law_486 (by decide) (fun c_5 => absurd c_5 hz) (fun c_5 => ?_)
    refine lv_iconst (v := 1) hx hb dL_law_489 (by decide) ?_
    refine lv_goto (tgt := 494) hx hb dL_law_490 (by decide) ?_
    refine W.eq (g2 := F0 m 494 ls [.int (b2i true), .int (xs (i + 3)), .int (xs (i + 2)), .int (xs (i + 1)), .ref (bm 0), .int (aFirs v (xs (i + 1)) (xs (i + 2)) (xs (i + 3)) true)]) rfl ?_
    have hPm := hP; rw [← List.append_assoc] at hPm
    have hPm := xp_c hPm
    refine xc_R (wd := mb bm cJ cZ v G dn lt ch (nI (cntG G 8))) (As := [.int (xs (i + 1)), .int (xs (i + 2)), .int (xs (i + 3)), .int (b2i true)]) (rest := [.int (aFirs v (xs (i + 1)) (xs (i + 2)) (xs (i + 3)) true)]) ⟨hx, hb, hml, hown, hts⟩ (c_X2_first l D bm cJ cZ v G dn lt ch (nI (cntG G 8)) (xs (i + 1)) (xs (i + 2)) (xs (i + 3)) true okv) (cwV 4 hts gL_law_X2_first rfl rfl rfl (by decide +kernel) ⟨Nat.le_of_ble_eq_true rfl, Nat.le_of_ble_eq_true rfl⟩) xMv0 trivial (xp_l hPm) (hK.sub (tys' := mT cJ cZ) [3, 4] rfl) (va_recv (hK.sub (tys' := mT cJ cZ) [3, 4] rfl) hPm (ci := 2) (q0 := 0) rfl rfl) rfl hl.1 rfl (Nat.le_of_ble_eq_true rfl) dL_law_494 hro ?_
    refine lv_icmp_eq (tgt := 812) hx hb dL_law_497 (by decide) (fun c_6 => ?_) (fun c_6 => absurd rfl c_6)
    refine W.widen (k := ce + 1) (n := se + 6) (by omega) (by omega) ?_
    exact nx v G gg L f dn lt ch H locs ls ⟨hP, hD, hS, hGR, okv, hGo⟩ (lv_sub hl [0, 1, 2, 3] rfl)
set_option maxHeartbeats 4000000 in
set_option maxRecDepth 100000 in
theorem law_best {p : Program} {l : Launch} {e : Env} {s : State} {m : MethodId} {below : List Frame} {meth : Method} {c : Code} {b Ln : Nat} {xs : Nat → Int32} (hL : Ln ≤ 3072) (C0 : lw_At p s m meth c b Ln xs) {D : va_G} {a bm : Nat → Nat} {cV cI cG cJ cZ : ClassId} (hK : va_K D vwCl (lT cV cI cG cJ cZ) s) (hN : nT s) {i ce se : Nat} (hi : i + 6 ≤ Ln) (hce : ce + 1 ≤ room_1.cells) (hse : se + 6 ≤ room_1.slots) (nx : lNext p l e s m below meth c D a bm cV cI cG cJ cZ b i (ce + 1) (se + 6)) {v : Nat → Nat → Int32} {G : Nat → Option GT} {gg : Nat → Option Nat} {L : List Nat} {f : Nat → va_E} {dn lt ch : Int32} {H : Heap} {locs : List Loc} {ls : Array Slot} (hI : lInv s D a bm cV cI cG cJ cZ v G gg L f dn lt ch H locs) (hl : lv_has ls 4 [(3, .int (nI i)), (0, .ref b), (1, .ref (a 0)), (2, .ref (bm 0))]) : W p l e room_1 s m #[Value.ref b] below meth c H locs ce se (lw_Z below #[Value.ref b] s) (F0 m 502 ls []) := by
  obtain ⟨hx, hb, hr, hml, hown, hts, hX, hbl, hlocks, hgv⟩ := C0
  have hown : s.vm.findClass RL = some m.cls := hown
  have hts : ∀ w ∈ wsL_law, w.before #[Value.ref b] s = true := fun w h => hts w (wsL_law_in w h)
  have hA : ∀ q : Nat, s.heap.size ≤ q → (fun q : Nat => s.heap.size ≤ q) q := fun _ h => h
  have hbA : ¬ (fun q : Nat => s.heap.size ≤ q) b := Nat.not_le.mpr hbl
  have hro : ce ≤ room_1.cells ∧ se ≤ room_1.slots := ⟨by omega, by omega⟩
  have hro1 : ce + 1 ≤ room_1.cells ∧ se + 6 ≤ room_1.slots := ⟨hce, hse⟩
  obtain ⟨hP, hD, hS, hGR, okv, hGo⟩ := hI
  have hP : va_P D vwCl (cb a cV cI cG v gg dn lt ch ++ (va_pl L f ++ mb bm cJ cZ v G dn lt ch (nI (cntG G 8)))) H := hP
  have hD : va_D (fun q : Nat => s.heap.size ≤ q) (cb a cV cI cG v gg dn lt ch ++ (va_pl L f ++ mb bm cJ cZ v G dn lt ch (nI (cntG G 8)))) := hD
  by_cases hz : xs (i + 3) = 0
  · refine lv_aload_n hx hb dL_law_502 rfl (lv_at hl 2 rfl) ?_
    refine lv_aload_n hx hb dL_law_503 rfl (lv_at hl 1 rfl) ?_
    refine lv_iload_n hx hb dL_law_504 rfl (lv_at hl 0 rfl) ?_
    refine lv_iconst (v := 1) hx hb dL_law_505 (by decide) ?_
    refine lv_iadd hx hb dL_law_506 ?_
    rw [show nI i + 1 = nI (i + 1) from nI_add i 1]
    refine va_sld hx hb hX hbl hbA hS (vp_in_nI (show i + 1 < Ln by omega) (by omega)) dL_law_507 ?_
    rw [nI_clamp (show i + 1 < 2 ^ 31 by omega)]
    refine lv_aload_n hx hb dL_law_508 rfl (lv_at hl 1 rfl) ?_
    refine lv_iload_n hx hb dL_law_509 rfl (lv_at hl 0 rfl) ?_
    refine lv_iconst (v := 2) hx hb dL_law_510 (by decide) ?_
    refine lv_iadd hx hb dL_law_511 ?_
    rw [show nI i + 2 = nI (i + 2) from nI_add i 2]
    refine va_sld hx hb hX hbl hbA hS (vp_in_nI (show i + 2 < Ln by omega) (by omega)) dL_law_512 ?_
    rw [nI_clamp (show i + 2 < 2 ^ 31 by omega)]
    refine lv_aload_n hx hb dL_law_513 rfl (lv_at hl 1 rfl) ?_
    refine lv_iload_n hx hb dL_law_514 rfl (lv_at hl 0 rfl) ?_
    refine lv_iconst (v := 3) hx hb dL_law_515 (by decide) ?_
    refine lv_iadd hx hb dL_law_516 ?_
    rw [show nI i + 3 = nI (i + 3) from nI_add i 3]
    refine va_sld hx hb hX hbl hbA hS (vp_in_nI (show i + 3 < Ln by omega) (by omega)) dL_law_517 ?_
    rw [nI_clamp (show i + 3 < 2 ^ 31 by omega)]
    refine lv_if_eq (tgt := 525) hx hb dL_law_518 (by decide) (fun c_1 => ?_) (fun c_1 => absurd hz c_1)
    refine lv_iconst (v := 0) hx hb dL_law_525 (by decide) ?_
    refine W.eq (g2 := F0 m 526 ls [.int (b2i false), .int (xs (i + 2)), .int (xs (i + 1)), .ref (a 0)]) rfl ?_
    refine xc_R (wd := cb a cV cI cG v gg dn lt ch) (As := [.int (xs (i + 1)), .int (xs (i + 2)), .int (b2i false)]) (rest := []) ⟨hx, hb, hml, hown, hts⟩ (c_X1_best l D a cV cI cG v gg dn lt ch (xs (i + 1)) (xs (i + 2)) false) (cwV 3 hts gL_law_X1_best rfl rfl rfl (by decide +kernel) ⟨Nat.le_of_ble_eq_true rfl, Nat.le_of_ble_eq_true rfl⟩) xMv0 trivial (xp_l hP) (hK.sub (tys' := cT cV cI cG) [0, 1, 2] rfl) (va_recv hK hP (ci := 1) (q0 := 0) rfl rfl) rfl hl.1 rfl (Nat.le_of_ble_eq_true rfl) dL_law_526 hro ?_
    refine lv_aload_n hx hb dL_law_529 rfl (lv_at hl 3 rfl) ?_
    refine lv_aload_n hx hb dL_law_530 rfl (lv_at hl 1 rfl) ?_
    refine lv_iload_n hx hb dL_law_531 rfl (lv_at hl 0 rfl) ?_
    refine lv_iconst (v := 1) hx hb dL_law_532 (by decide) ?_
    refine lv_iadd hx hb dL_law_533 ?_
    rw [show nI i + 1 = nI (i + 1) from nI_add i 1]
    refine va_sld hx hb hX hbl hbA hS (vp_in_nI (show i + 1 < Ln by omega) (by omega)) dL_law_534 ?_
    rw [nI_clamp (show i + 1 < 2 ^ 31 by omega)]
    refine lv_aload_n hx hb dL_law_535 rfl (lv_at hl 1 rfl) ?_
    refine lv_iload_n hx hb dL_law_536 rfl (lv_at hl 0 rfl) ?_
    refine lv_iconst (v := 2) hx hb dL_law_537 (by decide) ?_
    refine lv_iadd hx hb dL_law_538 ?_
    rw [show nI i + 2 = nI (i + 2) from nI_add i 2]
    refine va_sld hx hb hX hbl hbA hS (vp_in_nI (show i + 2 < Ln by omega) (by omega)) dL_law_539 ?_
    rw [nI_clamp (show i + 2 < 2 ^ 31 by omega)]
    refine lv_aload_n hx hb dL_law_540 rfl (lv_at hl 1 rfl) ?_
    refine lv_iload_n hx hb dL_law_541 rfl (lv_at hl 0 rfl) ?_
    refine lv_iconst (v := 3) hx hb dL_law_542 (by decide) ?_
    refine lv_iadd hx hb dL_law_543 ?_
    rw [show nI i + 3 = nI (i + 3) from nI_add i 3]
    refine va_sld hx hb hX hbl hbA hS (vp_in_nI (show i + 3 < Ln by omega) (by omega)) dL_law_544 ?_
    rw [nI_clamp (show i + 3 < 2 ^ 31 by omega)]
    refine lv_if_eq (tgt := 552) hx hb dL_law_545 (by decide) (fun c_2 => ?_) (fun c_2 => absurd hz c_2)
    refine lv_iconst (v := 0) hx hb dL_law_552 (by decide) ?_
    refine W.eq (g2 := F0 m 553 ls [.int (b2i false), .int (xs (i + 2)), .int (xs (i + 1)), .ref (bm 0), .int (aBest v (xs (i + 1)) (xs (i + 2)) false)]) rfl ?_
    have hPm := hP; rw [← List.append_assoc] at hPm
    have hPm := xp_c hPm
    refine xc_R (wd := mb bm cJ cZ v G dn lt ch (nI (cntG G 8))) (As := [.int (xs (i + 1)), .int (xs (i + 2)), .int (b2i false)]) (rest := [.int (aBest v (xs (i + 1)) (xs (i + 2)) false)]) ⟨hx, hb, hml, hown, hts⟩ (c_X2_best l D bm cJ cZ v G dn lt ch (nI (cntG G 8)) (xs (i + 1)) (xs (i + 2)) false okv) (cwV 3 hts gL_law_X2_best rfl rfl rfl (by decide +kernel) ⟨Nat.le_of_ble_eq_true rfl, Nat.le_of_ble_eq_true rfl⟩) xMv0 trivial (xp_l hPm) (hK.sub (tys' := mT cJ cZ) [3, 4] rfl) (va_recv (hK.sub (tys' := mT cJ cZ) [3, 4] rfl) hPm (ci := 2) (q0 := 0) rfl rfl) rfl hl.1 rfl (Nat.le_of_ble_eq_true rfl) dL_law_553 hro ?_
    refine lv_icmp_eq (tgt := 812) hx hb dL_law_556 (by decide) (fun c_3 => ?_) (fun c_3 => absurd rfl c_3)
    refine W.widen (k := ce + 1) (n := se + 6) (by omega) (by omega) ?_
    exact nx v G gg L f dn lt ch H locs ls ⟨hP, hD, hS, hGR, okv, hGo⟩ (lv_sub hl [0, 1, 2, 3] rfl)
  · refine lv_aload_n hx hb dL_law_502 rfl (lv_at hl 2 rfl) ?_
    refine lv_aload_n hx hb dL_law_503 rfl (lv_at hl 1 rfl) ?_
    refine lv_iload_n hx hb dL_law_504 rfl (lv_at hl 0 rfl) ?_
    refine lv_iconst (v := 1) hx hb dL_law_505 (by decide) ?_
    refine lv_iadd hx hb dL_law_506 ?_
    rw [show nI i + 1 = nI (i + 1) from nI_add i 1]
    refine va_sld hx hb hX hbl hbA hS (vp_in_nI (show i + 1 < Ln by omega) (by omega)) dL_law_507 ?_
    rw [nI_clamp (show i + 1 < 2 ^ 31 by omega)]
    refine lv_aload_n hx hb dL_law_508 rfl (lv_at hl 1 rfl) ?_
    refine lv_iload_n hx hb dL_law_509 rfl (lv_at hl 0 rfl) ?_
    refine lv_iconst (v := 2) hx hb dL_law_510 (by decide) ?_
    refine lv_iadd hx hb dL_law_511 ?_
    rw [show nI i + 2 = nI (i + 2) from nI_add i 2]
    refine va_sld hx hb hX hbl hbA hS (vp_in_nI (show i + 2 < Ln by omega) (by omega)) dL_law_512 ?_
    rw [nI_clamp (show i + 2 < 2 ^ 31 by omega)]
    refine lv_aload_n hx hb dL_law_513 rfl (lv_at hl 1 rfl) ?_
    refine lv_iload_n hx hb dL_law_514 rfl (lv_at hl 0 rfl) ?_
    refine lv_iconst (v := 3) hx hb dL_law_515 (by decide) ?_
    refine lv_iadd hx hb dL_law_516 ?_
    rw [show nI i + 3 = nI (i + 3) from nI_add i 3]
    refine va_sld hx hb hX hbl hbA hS (vp_in_nI (show i + 3 < Ln by omega) (by omega)) dL_law_517 ?_
    rw [nI_clamp (show i + 3 < 2 ^ 31 by omega)]
    refine lv_if_eq (tgt := 525) hx hb dL_law_518 (by decide) (fun c_4 => absurd c_4 hz) (fun c_4 => ?_)
    refine lv_iconst (v := 1) hx hb dL_law_521 (by decide) ?_
    refine lv_goto (tgt := 526) hx hb dL_law_522 (by decide) ?_
    refine W.eq (g2 := F0 m 526 ls [.int (b2i true), .int (xs (i + 2)), .int (xs (i + 1)), .ref (a 0)]) rfl ?_
    refine xc_R (wd := cb a cV cI cG v gg dn lt ch) (As := [.int (xs (i + 1)), .int (xs (i + 2)), .int (b2i true)]) (rest := []) ⟨hx, hb, hml, hown, hts⟩ (c_X1_best l D a cV cI cG v gg dn lt ch (xs (i + 1)) (xs (i + 2)) true) (cwV 3 hts gL_law_X1_best rfl rfl rfl (by decide +kernel) ⟨Nat.le_of_ble_eq_true rfl, Nat.le_of_ble_eq_true rfl⟩) xMv0 trivial (xp_l hP) (hK.sub (tys' := cT cV cI cG) [0, 1, 2] rfl) (va_recv hK hP (ci := 1) (q0 := 0) rfl rfl) rfl hl.1 rfl (Nat.le_of_ble_eq_true rfl) dL_law_526 hro ?_
    refine lv_aload_n hx hb dL_law_529 rfl (lv_at hl 3 rfl) ?_
    refine lv_aload_n hx hb dL_law_530 rfl (lv_at hl 1 rfl) ?_
    refine lv_iload_n hx hb dL_law_531 rfl (lv_at hl 0 rfl) ?_
    refine lv_iconst (v := 1) hx hb dL_law_532 (by decide) ?_
    refine lv_iadd hx hb dL_law_533 ?_
    rw [show nI i + 1 = nI (i + 1) from nI_add i 1]
    refine va_sld hx hb hX hbl hbA hS (vp_in_nI (show i + 1 < Ln by omega) (by omega)) dL_law_534 ?_
    rw [nI_clamp (show i + 1 < 2 ^ 31 by omega)]
    refine lv_aload_n hx hb dL_law_535 rfl (lv_at hl 1 rfl) ?_
    refine lv_iload_n hx hb dL_law_536 rfl (lv_at hl 0 rfl) ?_
    refine lv_iconst (v := 2) hx hb dL_law_537 (by decide) ?_
    refine lv_iadd hx hb dL_law_538 ?_
    rw [show nI i + 2 = nI (i + 2) from nI_add i 2]
    refine va_sld hx hb hX hbl hbA hS (vp_in_nI (show i + 2 < Ln by omega) (by omega)) dL_law_539 ?_
    rw [nI_clamp (show i + 2 < 2 ^ 31 by omega)]
    refine lv_aload_n hx hb dL_law_540 rfl (lv_at hl 1 rfl) ?_
    refine lv_iload_n hx hb dL_law_541 rfl (lv_at hl 0 rfl) ?_
    refine lv_iconst (v := 3) hx hb dL_law_542 (by decide) ?_
    refine lv_iadd hx hb dL_law_543 ?_
    rw [show nI i + 3 = nI (i + 3) from nI_add i 3]
    refine va_sld hx hb hX hbl hbA hS (vp_in_nI (show i + 3 < Ln by omega) (by omega)) dL_law_544 ?_
    rw [nI_clamp (show i + 3 < 2 ^ 31 by omega)]
    refine lv_if_eq (tgt := 552) hx hb dL_law_545 (by decide) (fun c_5 => absurd c_5 hz) (fun c_5 => ?_)
    refine lv_iconst (v := 1) hx hb dL_law_548 (by decide) ?_
    refine lv_goto (tgt := 553) hx hb dL_law_549 (by decide) ?_
    refine W.eq (g2 := F0 m 553 ls [.int (b2i true), .int (xs (i + 2)), .int (xs (i + 1)), .ref (bm 0), .int (aBest v (xs (i + 1)) (xs (i + 2)) true)]) rfl ?_
    have hPm := hP; rw [← List.append_assoc] at hPm
    have hPm := xp_c hPm
    refine xc_R (wd := mb bm cJ cZ v G dn lt ch (nI (cntG G 8))) (As := [.int (xs (i + 1)), .int (xs (i + 2)), .int (b2i true)]) (rest := [.int (aBest v (xs (i + 1)) (xs (i + 2)) true)]) ⟨hx, hb, hml, hown, hts⟩ (c_X2_best l D bm cJ cZ v G dn lt ch (nI (cntG G 8)) (xs (i + 1)) (xs (i + 2)) true okv) (cwV 3 hts gL_law_X2_best rfl rfl rfl (by decide +kernel) ⟨Nat.le_of_ble_eq_true rfl, Nat.le_of_ble_eq_true rfl⟩) xMv0 trivial (xp_l hPm) (hK.sub (tys' := mT cJ cZ) [3, 4] rfl) (va_recv (hK.sub (tys' := mT cJ cZ) [3, 4] rfl) hPm (ci := 2) (q0 := 0) rfl rfl) rfl hl.1 rfl (Nat.le_of_ble_eq_true rfl) dL_law_553 hro ?_
    refine lv_icmp_eq (tgt := 812) hx hb dL_law_556 (by decide) (fun c_6 => ?_) (fun c_6 => absurd rfl c_6)
    refine W.widen (k := ce + 1) (n := se + 6) (by omega) (by omega) ?_
    exact nx v G gg L f dn lt ch H locs ls ⟨hP, hD, hS, hGR, okv, hGo⟩ (lv_sub hl [0, 1, 2, 3] rfl)
set_option maxHeartbeats 4000000 in
set_option maxRecDepth 100000 in
theorem law_pass {p : Program} {l : Launch} {e : Env} {s : State} {m : MethodId} {below : List Frame} {meth : Method} {c : Code} {b Ln : Nat} {xs : Nat → Int32} (hL : Ln ≤ 3072) (C0 : lw_At p s m meth c b Ln xs) {D : va_G} {a bm : Nat → Nat} {cV cI cG cJ cZ : ClassId} (hK : va_K D vwCl (lT cV cI cG cJ cZ) s) (hN : nT s) {i ce se : Nat} (hi : i + 6 ≤ Ln) (hce : ce + 1 ≤ room_1.cells) (hse : se + 6 ≤ room_1.slots) (nx : lNext p l e s m below meth c D a bm cV cI cG cJ cZ b i (ce + 1) (se + 6)) {v : Nat → Nat → Int32} {G : Nat → Option GT} {gg : Nat → Option Nat} {L : List Nat} {f : Nat → va_E} {dn lt ch : Int32} {H : Heap} {locs : List Loc} {ls : Array Slot} (hI : lInv s D a bm cV cI cG cJ cZ v G gg L f dn lt ch H locs) (hl : lv_has ls 4 [(3, .int (nI i)), (0, .ref b), (1, .ref (a 0)), (2, .ref (bm 0))]) : W p l e room_1 s m #[Value.ref b] below meth c H locs ce se (lw_Z below #[Value.ref b] s) (F0 m 561 ls []) := by
  obtain ⟨hx, hb, hr, hml, hown, hts, hX, hbl, hlocks, hgv⟩ := C0
  have hown : s.vm.findClass RL = some m.cls := hown
  have hts : ∀ w ∈ wsL_law, w.before #[Value.ref b] s = true := fun w h => hts w (wsL_law_in w h)
  have hA : ∀ q : Nat, s.heap.size ≤ q → (fun q : Nat => s.heap.size ≤ q) q := fun _ h => h
  have hbA : ¬ (fun q : Nat => s.heap.size ≤ q) b := Nat.not_le.mpr hbl
  have hro : ce ≤ room_1.cells ∧ se ≤ room_1.slots := ⟨by omega, by omega⟩
  have hro1 : ce + 1 ≤ room_1.cells ∧ se + 6 ≤ room_1.slots := ⟨hce, hse⟩
  obtain ⟨hP, hD, hS, hGR, okv, hGo⟩ := hI
  have hP : va_P D vwCl (cb a cV cI cG v gg dn lt ch ++ (va_pl L f ++ mb bm cJ cZ v G dn lt ch (nI (cntG G 8)))) H := hP
  have hD : va_D (fun q : Nat => s.heap.size ≤ q) (cb a cV cI cG v gg dn lt ch ++ (va_pl L f ++ mb bm cJ cZ v G dn lt ch (nI (cntG G 8)))) := hD
  refine lv_aload_n hx hb dL_law_561 rfl (lv_at hl 2 rfl) ?_
  refine lv_aload_n hx hb dL_law_562 rfl (lv_at hl 1 rfl) ?_
  refine lv_iload_n hx hb dL_law_563 rfl (lv_at hl 0 rfl) ?_
  refine lv_iconst (v := 1) hx hb dL_law_564 (by decide) ?_
  refine lv_iadd hx hb dL_law_565 ?_
  rw [show nI i + 1 = nI (i + 1) from nI_add i 1]
  refine va_sld hx hb hX hbl hbA hS (vp_in_nI (show i + 1 < Ln by omega) (by omega)) dL_law_566 ?_
  rw [nI_clamp (show i + 1 < 2 ^ 31 by omega)]
  refine lv_aload_n hx hb dL_law_567 rfl (lv_at hl 1 rfl) ?_
  refine lv_iload_n hx hb dL_law_568 rfl (lv_at hl 0 rfl) ?_
  refine lv_iconst (v := 2) hx hb dL_law_569 (by decide) ?_
  refine lv_iadd hx hb dL_law_570 ?_
  rw [show nI i + 2 = nI (i + 2) from nI_add i 2]
  refine va_sld hx hb hX hbl hbA hS (vp_in_nI (show i + 2 < Ln by omega) (by omega)) dL_law_571 ?_
  rw [nI_clamp (show i + 2 < 2 ^ 31 by omega)]
  refine lv_aload_n hx hb dL_law_572 rfl (lv_at hl 1 rfl) ?_
  refine lv_iload_n hx hb dL_law_573 rfl (lv_at hl 0 rfl) ?_
  refine lv_iconst (v := 3) hx hb dL_law_574 (by decide) ?_
  refine lv_iadd hx hb dL_law_575 ?_
  rw [show nI i + 3 = nI (i + 3) from nI_add i 3]
  refine va_sld hx hb hX hbl hbA hS (vp_in_nI (show i + 3 < Ln by omega) (by omega)) dL_law_576 ?_
  rw [nI_clamp (show i + 3 < 2 ^ 31 by omega)]
  refine lv_aload_n hx hb dL_law_577 rfl (lv_at hl 1 rfl) ?_
  refine lv_iload_n hx hb dL_law_578 rfl (lv_at hl 0 rfl) ?_
  refine lv_iconst (v := 4) hx hb dL_law_579 (by decide) ?_
  refine lv_iadd hx hb dL_law_580 ?_
  rw [show nI i + 4 = nI (i + 4) from nI_add i 4]
  refine va_sld hx hb hX hbl hbA hS (vp_in_nI (show i + 4 < Ln by omega) (by omega)) dL_law_581 ?_
  rw [nI_clamp (show i + 4 < 2 ^ 31 by omega)]
  refine xc_W (S0 := Unit) (rw := va_pl L f ++ mb bm cJ cZ v G dn lt ch (nI (cntG G 8))) (As := [.int (xs (i + 1)), .int (xs (i + 2)), .int (xs (i + 3)), .int (xs (i + 4))]) (rest := []) ⟨hx, hb, hml, hown, hts⟩ (c_X1_pass l D a cV cI cG v gg dn lt ch H.size (xs (i + 1)) (xs (i + 2)) (xs (i + 3)) (xs (i + 4))) (cwV 4 hts gL_law_X1_pass rfl rfl rfl (by decide +kernel) ⟨Nat.le_of_ble_eq_true rfl, Nat.le_of_ble_eq_true rfl⟩) xMv0 trivial hP (hK.sub (tys' := cT cV cI cG) [0, 1, 2] rfl) hD hS hA (va_recv hK hP (ci := 1) (q0 := 0) rfl rfl) rfl hl.1 rfl (Nat.le_of_ble_eq_true rfl) dL_law_582 hro (fun r1 _ H locs hr1 hP hD _ hS => ?_)
  rw [hr1]
  refine W.widen (k := ce) (n := se) (Nat.le_refl _) (Nat.le_refl _) ?_
  have hP : va_P D vwCl (cb a cV cI cG (nPass v (xs (i + 1)) (xs (i + 2)) (xs (i + 3)) (xs (i + 4))) gg dn lt (hPass v ch (xs (i + 1)) (xs (i + 2)) (xs (i + 3)) (xs (i + 4))) ++ (va_pl L f ++ mb bm cJ cZ v G dn lt ch (nI (cntG G 8)))) H := hP
  have hD : va_D (fun q : Nat => s.heap.size ≤ q) (cb a cV cI cG (nPass v (xs (i + 1)) (xs (i + 2)) (xs (i + 3)) (xs (i + 4))) gg dn lt (hPass v ch (xs (i + 1)) (xs (i + 2)) (xs (i + 3)) (xs (i + 4))) ++ (va_pl L f ++ mb bm cJ cZ v G dn lt ch (nI (cntG G 8)))) := hD
  refine lv_aload_n hx hb dL_law_585 rfl (lv_at hl 3 rfl) ?_
  refine lv_aload_n hx hb dL_law_586 rfl (lv_at hl 1 rfl) ?_
  refine lv_iload_n hx hb dL_law_587 rfl (lv_at hl 0 rfl) ?_
  refine lv_iconst (v := 1) hx hb dL_law_588 (by decide) ?_
  refine lv_iadd hx hb dL_law_589 ?_
  rw [show nI i + 1 = nI (i + 1) from nI_add i 1]
  refine va_sld hx hb hX hbl hbA hS (vp_in_nI (show i + 1 < Ln by omega) (by omega)) dL_law_590 ?_
  rw [nI_clamp (show i + 1 < 2 ^ 31 by omega)]
  refine lv_aload_n hx hb dL_law_591 rfl (lv_at hl 1 rfl) ?_
  refine lv_iload_n hx hb dL_law_592 rfl (lv_at hl 0 rfl) ?_
  refine lv_iconst (v := 2) hx hb dL_law_593 (by decide) ?_
  refine lv_iadd hx hb dL_law_594 ?_
  rw [show nI i + 2 = nI (i + 2) from nI_add i 2]
  refine va_sld hx hb hX hbl hbA hS (vp_in_nI (show i + 2 < Ln by omega) (by omega)) dL_law_595 ?_
  rw [nI_clamp (show i + 2 < 2 ^ 31 by omega)]
  refine lv_aload_n hx hb dL_law_596 rfl (lv_at hl 1 rfl) ?_
  refine lv_iload_n hx hb dL_law_597 rfl (lv_at hl 0 rfl) ?_
  refine lv_iconst (v := 3) hx hb dL_law_598 (by decide) ?_
  refine lv_iadd hx hb dL_law_599 ?_
  rw [show nI i + 3 = nI (i + 3) from nI_add i 3]
  refine va_sld hx hb hX hbl hbA hS (vp_in_nI (show i + 3 < Ln by omega) (by omega)) dL_law_600 ?_
  rw [nI_clamp (show i + 3 < 2 ^ 31 by omega)]
  refine lv_aload_n hx hb dL_law_601 rfl (lv_at hl 1 rfl) ?_
  refine lv_iload_n hx hb dL_law_602 rfl (lv_at hl 0 rfl) ?_
  refine lv_iconst (v := 4) hx hb dL_law_603 (by decide) ?_
  refine lv_iadd hx hb dL_law_604 ?_
  rw [show nI i + 4 = nI (i + 4) from nI_add i 4]
  refine va_sld hx hb hX hbl hbA hS (vp_in_nI (show i + 4 < Ln by omega) (by omega)) dL_law_605 ?_
  rw [nI_clamp (show i + 4 < 2 ^ 31 by omega)]
  have hPm := hP; rw [← List.append_assoc] at hPm
  have hPm := xp_c hPm
  have hDm := hD; rw [← List.append_assoc] at hDm
  have hDm := xd_c hDm
  refine xc_W (S0 := Unit) (rw := cb a cV cI cG (nPass v (xs (i + 1)) (xs (i + 2)) (xs (i + 3)) (xs (i + 4))) gg dn lt (hPass v ch (xs (i + 1)) (xs (i + 2)) (xs (i + 3)) (xs (i + 4))) ++ va_pl L f) (As := [.int (xs (i + 1)), .int (xs (i + 2)), .int (xs (i + 3)), .int (xs (i + 4))]) (rest := [.int (aPass v (xs (i + 1)) (xs (i + 2)) (xs (i + 3)) (xs (i + 4)))]) ⟨hx, hb, hml, hown, hts⟩ (c_X2_pass l D bm cJ cZ v G dn lt ch (nI (cntG G 8)) H.size (xs (i + 1)) (xs (i + 2)) (xs (i + 3)) (xs (i + 4)) okv) (cwV 4 hts gL_law_X2_pass rfl rfl rfl (by decide +kernel) ⟨Nat.le_of_ble_eq_true rfl, Nat.le_of_ble_eq_true rfl⟩) xMv0 trivial hPm (hK.sub (tys' := mT cJ cZ) [3, 4] rfl) hDm hS hA (va_recv (hK.sub (tys' := mT cJ cZ) [3, 4] rfl) hPm (ci := 2) (q0 := 0) rfl rfl) rfl hl.1 rfl (Nat.le_of_ble_eq_true rfl) dL_law_606 hro (fun r2 _ H locs hr2 hP hD _ hS => ?_)
  rw [hr2]
  have hP := xp_c hP
  have hD := xd_c hD
  rw [List.append_assoc] at hP hD
  refine lv_icmp_eq (tgt := 812) hx hb dL_law_609 (by decide) (fun c_1 => ?_) (fun c_1 => absurd rfl c_1)
  refine W.widen (k := ce + 1) (n := se + 6) (by omega) (by omega) ?_
  exact nx (nPass v (xs (i + 1)) (xs (i + 2)) (xs (i + 3)) (xs (i + 4))) G gg L f dn lt (hPass v ch (xs (i + 1)) (xs (i + 2)) (xs (i + 3)) (xs (i + 4))) H locs ls ⟨hP, hD, hS, hGR, (ok_pass okv), hGo⟩ (lv_sub hl [0, 1, 2, 3] rfl)
set_option maxHeartbeats 4000000 in
set_option maxRecDepth 100000 in
theorem law_within {p : Program} {l : Launch} {e : Env} {s : State} {m : MethodId} {below : List Frame} {meth : Method} {c : Code} {b Ln : Nat} {xs : Nat → Int32} (hL : Ln ≤ 3072) (C0 : lw_At p s m meth c b Ln xs) {D : va_G} {a bm : Nat → Nat} {cV cI cG cJ cZ : ClassId} (hK : va_K D vwCl (lT cV cI cG cJ cZ) s) (hN : nT s) {i ce se : Nat} (hi : i + 6 ≤ Ln) (hce : ce + 1 ≤ room_1.cells) (hse : se + 6 ≤ room_1.slots) (nx : lNext p l e s m below meth c D a bm cV cI cG cJ cZ b i (ce + 1) (se + 6)) {v : Nat → Nat → Int32} {G : Nat → Option GT} {gg : Nat → Option Nat} {L : List Nat} {f : Nat → va_E} {dn lt ch : Int32} {H : Heap} {locs : List Loc} {ls : Array Slot} (hI : lInv s D a bm cV cI cG cJ cZ v G gg L f dn lt ch H locs) (hl : lv_has ls 4 [(3, .int (nI i)), (0, .ref b), (1, .ref (a 0)), (2, .ref (bm 0))]) : W p l e room_1 s m #[Value.ref b] below meth c H locs ce se (lw_Z below #[Value.ref b] s) (F0 m 614 ls []) := by
  obtain ⟨hx, hb, hr, hml, hown, hts, hX, hbl, hlocks, hgv⟩ := C0
  have hown : s.vm.findClass RL = some m.cls := hown
  have hts : ∀ w ∈ wsL_law, w.before #[Value.ref b] s = true := fun w h => hts w (wsL_law_in w h)
  have hA : ∀ q : Nat, s.heap.size ≤ q → (fun q : Nat => s.heap.size ≤ q) q := fun _ h => h
  have hbA : ¬ (fun q : Nat => s.heap.size ≤ q) b := Nat.not_le.mpr hbl
  have hro : ce ≤ room_1.cells ∧ se ≤ room_1.slots := ⟨by omega, by omega⟩
  have hro1 : ce + 1 ≤ room_1.cells ∧ se + 6 ≤ room_1.slots := ⟨hce, hse⟩
  obtain ⟨hP, hD, hS, hGR, okv, hGo⟩ := hI
  have hP : va_P D vwCl (cb a cV cI cG v gg dn lt ch ++ (va_pl L f ++ mb bm cJ cZ v G dn lt ch (nI (cntG G 8)))) H := hP
  have hD : va_D (fun q : Nat => s.heap.size ≤ q) (cb a cV cI cG v gg dn lt ch ++ (va_pl L f ++ mb bm cJ cZ v G dn lt ch (nI (cntG G 8)))) := hD
  refine lv_aload_n hx hb dL_law_614 rfl (lv_at hl 2 rfl) ?_
  refine lv_aload_n hx hb dL_law_615 rfl (lv_at hl 1 rfl) ?_
  refine lv_iload_n hx hb dL_law_616 rfl (lv_at hl 0 rfl) ?_
  refine lv_iconst (v := 1) hx hb dL_law_617 (by decide) ?_
  refine lv_iadd hx hb dL_law_618 ?_
  rw [show nI i + 1 = nI (i + 1) from nI_add i 1]
  refine va_sld hx hb hX hbl hbA hS (vp_in_nI (show i + 1 < Ln by omega) (by omega)) dL_law_619 ?_
  rw [nI_clamp (show i + 1 < 2 ^ 31 by omega)]
  refine lv_aload_n hx hb dL_law_620 rfl (lv_at hl 1 rfl) ?_
  refine lv_iload_n hx hb dL_law_621 rfl (lv_at hl 0 rfl) ?_
  refine lv_iconst (v := 2) hx hb dL_law_622 (by decide) ?_
  refine lv_iadd hx hb dL_law_623 ?_
  rw [show nI i + 2 = nI (i + 2) from nI_add i 2]
  refine va_sld hx hb hX hbl hbA hS (vp_in_nI (show i + 2 < Ln by omega) (by omega)) dL_law_624 ?_
  rw [nI_clamp (show i + 2 < 2 ^ 31 by omega)]
  refine lv_aload_n hx hb dL_law_625 rfl (lv_at hl 1 rfl) ?_
  refine lv_iload_n hx hb dL_law_626 rfl (lv_at hl 0 rfl) ?_
  refine lv_iconst (v := 3) hx hb dL_law_627 (by decide) ?_
  refine lv_iadd hx hb dL_law_628 ?_
  rw [show nI i + 3 = nI (i + 3) from nI_add i 3]
  refine va_sld hx hb hX hbl hbA hS (vp_in_nI (show i + 3 < Ln by omega) (by omega)) dL_law_629 ?_
  rw [nI_clamp (show i + 3 < 2 ^ 31 by omega)]
  refine lv_aload_n hx hb dL_law_630 rfl (lv_at hl 1 rfl) ?_
  refine lv_iload_n hx hb dL_law_631 rfl (lv_at hl 0 rfl) ?_
  refine lv_iconst (v := 4) hx hb dL_law_632 (by decide) ?_
  refine lv_iadd hx hb dL_law_633 ?_
  rw [show nI i + 4 = nI (i + 4) from nI_add i 4]
  refine va_sld hx hb hX hbl hbA hS (vp_in_nI (show i + 4 < Ln by omega) (by omega)) dL_law_634 ?_
  rw [nI_clamp (show i + 4 < 2 ^ 31 by omega)]
  refine xc_R (wd := cb a cV cI cG v gg dn lt ch) (As := [.int (xs (i + 1)), .int (xs (i + 2)), .int (xs (i + 3)), .int (xs (i + 4))]) (rest := []) ⟨hx, hb, hml, hown, hts⟩ (c_X1_within l D a cV cI cG v gg dn lt ch (xs (i + 1)) (xs (i + 2)) (xs (i + 3)) (xs (i + 4))) (cwV 4 hts gL_law_X1_within rfl rfl rfl (by decide +kernel) ⟨Nat.le_of_ble_eq_true rfl, Nat.le_of_ble_eq_true rfl⟩) xMv0 trivial (xp_l hP) (hK.sub (tys' := cT cV cI cG) [0, 1, 2] rfl) (va_recv hK hP (ci := 1) (q0 := 0) rfl rfl) rfl hl.1 rfl (Nat.le_of_ble_eq_true rfl) dL_law_635 hro ?_
  refine lv_aload_n hx hb dL_law_638 rfl (lv_at hl 3 rfl) ?_
  refine lv_aload_n hx hb dL_law_639 rfl (lv_at hl 1 rfl) ?_
  refine lv_iload_n hx hb dL_law_640 rfl (lv_at hl 0 rfl) ?_
  refine lv_iconst (v := 1) hx hb dL_law_641 (by decide) ?_
  refine lv_iadd hx hb dL_law_642 ?_
  rw [show nI i + 1 = nI (i + 1) from nI_add i 1]
  refine va_sld hx hb hX hbl hbA hS (vp_in_nI (show i + 1 < Ln by omega) (by omega)) dL_law_643 ?_
  rw [nI_clamp (show i + 1 < 2 ^ 31 by omega)]
  refine lv_aload_n hx hb dL_law_644 rfl (lv_at hl 1 rfl) ?_
  refine lv_iload_n hx hb dL_law_645 rfl (lv_at hl 0 rfl) ?_
  refine lv_iconst (v := 2) hx hb dL_law_646 (by decide) ?_
  refine lv_iadd hx hb dL_law_647 ?_
  rw [show nI i + 2 = nI (i + 2) from nI_add i 2]
  refine va_sld hx hb hX hbl hbA hS (vp_in_nI (show i + 2 < Ln by omega) (by omega)) dL_law_648 ?_
  rw [nI_clamp (show i + 2 < 2 ^ 31 by omega)]
  refine lv_aload_n hx hb dL_law_649 rfl (lv_at hl 1 rfl) ?_
  refine lv_iload_n hx hb dL_law_650 rfl (lv_at hl 0 rfl) ?_
  refine lv_iconst (v := 3) hx hb dL_law_651 (by decide) ?_
  refine lv_iadd hx hb dL_law_652 ?_
  rw [show nI i + 3 = nI (i + 3) from nI_add i 3]
  refine va_sld hx hb hX hbl hbA hS (vp_in_nI (show i + 3 < Ln by omega) (by omega)) dL_law_653 ?_
  rw [nI_clamp (show i + 3 < 2 ^ 31 by omega)]
  refine lv_aload_n hx hb dL_law_654 rfl (lv_at hl 1 rfl) ?_
  refine lv_iload_n hx hb dL_law_655 rfl (lv_at hl 0 rfl) ?_
  refine lv_iconst (v := 4) hx hb dL_law_656 (by decide) ?_
  refine lv_iadd hx hb dL_law_657 ?_
  rw [show nI i + 4 = nI (i + 4) from nI_add i 4]
  refine va_sld hx hb hX hbl hbA hS (vp_in_nI (show i + 4 < Ln by omega) (by omega)) dL_law_658 ?_
  rw [nI_clamp (show i + 4 < 2 ^ 31 by omega)]
  have hPm := hP; rw [← List.append_assoc] at hPm
  have hPm := xp_c hPm
  refine xc_R (wd := mb bm cJ cZ v G dn lt ch (nI (cntG G 8))) (As := [.int (xs (i + 1)), .int (xs (i + 2)), .int (xs (i + 3)), .int (xs (i + 4))]) (rest := [.int (aWith v (xs (i + 1)) (xs (i + 2)) (xs (i + 3)) (xs (i + 4)))]) ⟨hx, hb, hml, hown, hts⟩ (c_X2_within l D bm cJ cZ v G dn lt ch (nI (cntG G 8)) (xs (i + 1)) (xs (i + 2)) (xs (i + 3)) (xs (i + 4)) okv) (cwV 4 hts gL_law_X2_within rfl rfl rfl (by decide +kernel) ⟨Nat.le_of_ble_eq_true rfl, Nat.le_of_ble_eq_true rfl⟩) xMv0 trivial (xp_l hPm) (hK.sub (tys' := mT cJ cZ) [3, 4] rfl) (va_recv (hK.sub (tys' := mT cJ cZ) [3, 4] rfl) hPm (ci := 2) (q0 := 0) rfl rfl) rfl hl.1 rfl (Nat.le_of_ble_eq_true rfl) dL_law_659 hro ?_
  refine lv_icmp_eq (tgt := 812) hx hb dL_law_662 (by decide) (fun c_1 => ?_) (fun c_1 => absurd rfl c_1)
  refine W.widen (k := ce + 1) (n := se + 6) (by omega) (by omega) ?_
  exact nx v G gg L f dn lt ch H locs ls ⟨hP, hD, hS, hGR, okv, hGo⟩ (lv_sub hl [0, 1, 2, 3] rfl)
set_option maxHeartbeats 4000000 in
set_option maxRecDepth 100000 in
theorem law_guard {p : Program} {l : Launch} {e : Env} {s : State} {m : MethodId} {below : List Frame} {meth : Method} {c : Code} {b Ln : Nat} {xs : Nat → Int32} (hL : Ln ≤ 3072) (C0 : lw_At p s m meth c b Ln xs) {D : va_G} {a bm : Nat → Nat} {cV cI cG cJ cZ : ClassId} (hK : va_K D vwCl (lT cV cI cG cJ cZ) s) (hN : nT s) {i ce se : Nat} (hi : i + 6 ≤ Ln) (hce : ce + 1 ≤ room_1.cells) (hse : se + 6 ≤ room_1.slots) (nx : lNext p l e s m below meth c D a bm cV cI cG cJ cZ b i (ce + 1) (se + 6)) {v : Nat → Nat → Int32} {G : Nat → Option GT} {gg : Nat → Option Nat} {L : List Nat} {f : Nat → va_E} {dn lt ch : Int32} {H : Heap} {locs : List Loc} {ls : Array Slot} (hI : lInv s D a bm cV cI cG cJ cZ v G gg L f dn lt ch H locs) (hl : lv_has ls 4 [(3, .int (nI i)), (0, .ref b), (1, .ref (a 0)), (2, .ref (bm 0))]) : W p l e room_1 s m #[Value.ref b] below meth c H locs ce se (lw_Z below #[Value.ref b] s) (F0 m 667 ls []) := by
  obtain ⟨hx, hb, hr, hml, hown, hts, hX, hbl, hlocks, hgv⟩ := C0
  have hown : s.vm.findClass RL = some m.cls := hown
  have hts : ∀ w ∈ wsL_law, w.before #[Value.ref b] s = true := fun w h => hts w (wsL_law_in w h)
  have hA : ∀ q : Nat, s.heap.size ≤ q → (fun q : Nat => s.heap.size ≤ q) q := fun _ h => h
  have hbA : ¬ (fun q : Nat => s.heap.size ≤ q) b := Nat.not_le.mpr hbl
  have hro : ce ≤ room_1.cells ∧ se ≤ room_1.slots := ⟨by omega, by omega⟩
  have hro1 : ce + 1 ≤ room_1.cells ∧ se + 6 ≤ room_1.slots := ⟨hce, hse⟩
  obtain ⟨hP, hD, hS, hGR, okv, hGo⟩ := hI
  have hP : va_P D vwCl (cb a cV cI cG v gg dn lt ch ++ (va_pl L f ++ mb bm cJ cZ v G dn lt ch (nI (cntG G 8)))) H := hP
  have hD : va_D (fun q : Nat => s.heap.size ≤ q) (cb a cV cI cG v gg dn lt ch ++ (va_pl L f ++ mb bm cJ cZ v G dn lt ch (nI (cntG G 8)))) := hD
  refine lv_aload_n hx hb dL_law_667 rfl (lv_at hl 2 rfl) ?_
  refine lv_aload_n hx hb dL_law_668 rfl (lv_at hl 1 rfl) ?_
  refine lv_iload_n hx hb dL_law_669 rfl (lv_at hl 0 rfl) ?_
  refine lv_iconst (v := 1) hx hb dL_law_670 (by decide) ?_
  refine lv_iadd hx hb dL_law_671 ?_
  rw [show nI i + 1 = nI (i + 1) from nI_add i 1]
  refine va_sld hx hb hX hbl hbA hS (vp_in_nI (show i + 1 < Ln by omega) (by omega)) dL_law_672 ?_
  rw [nI_clamp (show i + 1 < 2 ^ 31 by omega)]
  refine lv_aload_n hx hb dL_law_673 rfl (lv_at hl 1 rfl) ?_
  refine lv_iload_n hx hb dL_law_674 rfl (lv_at hl 0 rfl) ?_
  refine lv_iconst (v := 2) hx hb dL_law_675 (by decide) ?_
  refine lv_iadd hx hb dL_law_676 ?_
  rw [show nI i + 2 = nI (i + 2) from nI_add i 2]
  refine va_sld hx hb hX hbl hbA hS (vp_in_nI (show i + 2 < Ln by omega) (by omega)) dL_law_677 ?_
  rw [nI_clamp (show i + 2 < 2 ^ 31 by omega)]
  refine lv_aload_n hx hb dL_law_678 rfl (lv_at hl 1 rfl) ?_
  refine lv_iload_n hx hb dL_law_679 rfl (lv_at hl 0 rfl) ?_
  refine lv_iconst (v := 3) hx hb dL_law_680 (by decide) ?_
  refine lv_iadd hx hb dL_law_681 ?_
  rw [show nI i + 3 = nI (i + 3) from nI_add i 3]
  refine va_sld hx hb hX hbl hbA hS (vp_in_nI (show i + 3 < Ln by omega) (by omega)) dL_law_682 ?_
  rw [nI_clamp (show i + 3 < 2 ^ 31 by omega)]
  refine lv_aload_n hx hb dL_law_683 rfl (lv_at hl 1 rfl) ?_
  refine lv_iload_n hx hb dL_law_684 rfl (lv_at hl 0 rfl) ?_
  refine lv_iconst (v := 4) hx hb dL_law_685 (by decide) ?_
  refine lv_iadd hx hb dL_law_686 ?_
  rw [show nI i + 4 = nI (i + 4) from nI_add i 4]
  refine va_sld hx hb hX hbl hbA hS (vp_in_nI (show i + 4 < Ln by omega) (by omega)) dL_law_687 ?_
  rw [nI_clamp (show i + 4 < 2 ^ 31 by omega)]
  refine lv_aload_n hx hb dL_law_688 rfl (lv_at hl 1 rfl) ?_
  refine lv_iload_n hx hb dL_law_689 rfl (lv_at hl 0 rfl) ?_
  refine lv_iconst (v := 5) hx hb dL_law_690 (by decide) ?_
  refine lv_iadd hx hb dL_law_691 ?_
  rw [show nI i + 5 = nI (i + 5) from nI_add i 5]
  refine va_sld hx hb hX hbl hbA hS (vp_in_nI (show i + 5 < Ln by omega) (by omega)) dL_law_692 ?_
  rw [nI_clamp (show i + 5 < 2 ^ 31 by omega)]
  have hPa := hP; rw [← List.append_assoc] at hPa
  have hDa := hD; rw [← List.append_assoc] at hDa
  refine xc_W (S0 := Nat) (rw := mb bm cJ cZ v G dn lt ch (nI (cntG G 8))) (As := [.int (xs (i + 1)), .int (xs (i + 2)), .int (xs (i + 3)), .int (xs (i + 4)), .int (xs (i + 5))]) (rest := []) ⟨hx, hb, hml, hown, hts⟩ (c_X1_guard l D a cV cI cG v gg dn lt ch L f H.size (xs (i + 1)) (xs (i + 2)) (xs (i + 3)) (xs (i + 4)) (xs (i + 5))) (cwV 5 hts gL_law_X1_guard rfl rfl rfl (by decide +kernel) ⟨Nat.le_of_ble_eq_true rfl, Nat.le_of_ble_eq_true rfl⟩) xMvN hN hPa (hK.sub (tys' := cT cV cI cG) [0, 1, 2] rfl) hDa hS hA (va_recv hK hP (ci := 1) (q0 := 0) rfl rfl) rfl hl.1 rfl (Nat.le_of_ble_eq_true rfl) dL_law_693 hro1 (fun r1 u H locs hr1 hP hD _ hS => ?_)
  rw [hr1.1]
  obtain ⟨gg2, L2, f2, hP, hD, hGR⟩ : ∃ (gg2 : Nat → Option Nat) (L2 : List Nat) (f2 : Nat → va_E), va_P D vwCl ((cb a cV cI cG v gg2 dn lt ch ++ va_pl L2 f2) ++ mb bm cJ cZ v G dn lt ch (nI (cntG G 8))) H ∧ va_D (fun q : Nat => s.heap.size ≤ q) ((cb a cV cI cG v gg2 dn lt ch ++ va_pl L2 f2) ++ mb bm cJ cZ v G dn lt ch (nI (cntG G 8))) ∧ GR (nGua v G (xs (i + 1)) (xs (i + 2)) (xs (i + 3)) (xs (i + 4)) (xs (i + 5))) gg2 L2 f2 := by
    cases hok : gB (xs (i + 1)) (xs (i + 2)) (xs (i + 3)) (xs (i + 4)) (xs (i + 5))
    · rw [hok] at hP hD
      exact ⟨gg, L, f, hP, hD, by simp only [nGua, hok]; exact hGR⟩
    · have hu := hr1.2 hok
      rw [hok] at hP hD
      have h2 : isGb (xs (i + 1)) = true := by simp [gB] at hok; exact hok.1
      exact ⟨_, _, _, hP, hD, by simp only [nGua, hok, if_true]; exact gr_gua hGR hu (vp_lt (isG_in h2))⟩
  rw [List.append_assoc] at hP hD
  refine lv_aload_n hx hb dL_law_696 rfl (lv_at hl 3 rfl) ?_
  refine lv_aload_n hx hb dL_law_697 rfl (lv_at hl 1 rfl) ?_
  refine lv_iload_n hx hb dL_law_698 rfl (lv_at hl 0 rfl) ?_
  refine lv_iconst (v := 1) hx hb dL_law_699 (by decide) ?_
  refine lv_iadd hx hb dL_law_700 ?_
  rw [show nI i + 1 = nI (i + 1) from nI_add i 1]
  refine va_sld hx hb hX hbl hbA hS (vp_in_nI (show i + 1 < Ln by omega) (by omega)) dL_law_701 ?_
  rw [nI_clamp (show i + 1 < 2 ^ 31 by omega)]
  refine lv_aload_n hx hb dL_law_702 rfl (lv_at hl 1 rfl) ?_
  refine lv_iload_n hx hb dL_law_703 rfl (lv_at hl 0 rfl) ?_
  refine lv_iconst (v := 2) hx hb dL_law_704 (by decide) ?_
  refine lv_iadd hx hb dL_law_705 ?_
  rw [show nI i + 2 = nI (i + 2) from nI_add i 2]
  refine va_sld hx hb hX hbl hbA hS (vp_in_nI (show i + 2 < Ln by omega) (by omega)) dL_law_706 ?_
  rw [nI_clamp (show i + 2 < 2 ^ 31 by omega)]
  refine lv_aload_n hx hb dL_law_707 rfl (lv_at hl 1 rfl) ?_
  refine lv_iload_n hx hb dL_law_708 rfl (lv_at hl 0 rfl) ?_
  refine lv_iconst (v := 3) hx hb dL_law_709 (by decide) ?_
  refine lv_iadd hx hb dL_law_710 ?_
  rw [show nI i + 3 = nI (i + 3) from nI_add i 3]
  refine va_sld hx hb hX hbl hbA hS (vp_in_nI (show i + 3 < Ln by omega) (by omega)) dL_law_711 ?_
  rw [nI_clamp (show i + 3 < 2 ^ 31 by omega)]
  refine lv_aload_n hx hb dL_law_712 rfl (lv_at hl 1 rfl) ?_
  refine lv_iload_n hx hb dL_law_713 rfl (lv_at hl 0 rfl) ?_
  refine lv_iconst (v := 4) hx hb dL_law_714 (by decide) ?_
  refine lv_iadd hx hb dL_law_715 ?_
  rw [show nI i + 4 = nI (i + 4) from nI_add i 4]
  refine va_sld hx hb hX hbl hbA hS (vp_in_nI (show i + 4 < Ln by omega) (by omega)) dL_law_716 ?_
  rw [nI_clamp (show i + 4 < 2 ^ 31 by omega)]
  refine lv_aload_n hx hb dL_law_717 rfl (lv_at hl 1 rfl) ?_
  refine lv_iload_n hx hb dL_law_718 rfl (lv_at hl 0 rfl) ?_
  refine lv_iconst (v := 5) hx hb dL_law_719 (by decide) ?_
  refine lv_iadd hx hb dL_law_720 ?_
  rw [show nI i + 5 = nI (i + 5) from nI_add i 5]
  refine va_sld hx hb hX hbl hbA hS (vp_in_nI (show i + 5 < Ln by omega) (by omega)) dL_law_721 ?_
  rw [nI_clamp (show i + 5 < 2 ^ 31 by omega)]
  have hPm := hP; rw [← List.append_assoc] at hPm
  have hPm := xp_c hPm
  have hDm := hD; rw [← List.append_assoc] at hDm
  have hDm := xd_c hDm
  refine xc_W (S0 := Unit) (rw := cb a cV cI cG v gg2 dn lt ch ++ va_pl L2 f2) (As := [.int (xs (i + 1)), .int (xs (i + 2)), .int (xs (i + 3)), .int (xs (i + 4)), .int (xs (i + 5))]) (rest := [.int (b2i (gB (xs (i + 1)) (xs (i + 2)) (xs (i + 3)) (xs (i + 4)) (xs (i + 5))))]) ⟨hx, hb, hml, hown, hts⟩ (c_X2_guard l D bm cJ cZ v G dn lt ch (nI (cntG G 8)) H.size (xs (i + 1)) (xs (i + 2)) (xs (i + 3)) (xs (i + 4)) (xs (i + 5))) (cwV 5 hts gL_law_X2_guard rfl rfl rfl (by decide +kernel) ⟨Nat.le_of_ble_eq_true rfl, Nat.le_of_ble_eq_true rfl⟩) xMv0 trivial hPm (hK.sub (tys' := mT cJ cZ) [3, 4] rfl) hDm hS hA (va_recv (hK.sub (tys' := mT cJ cZ) [3, 4] rfl) hPm (ci := 2) (q0 := 0) rfl rfl) rfl hl.1 rfl (Nat.le_of_ble_eq_true rfl) dL_law_722 hro1 (fun r2 _ H locs hr2 hP hD _ hS => ?_)
  rw [hr2]
  have hP := xp_c hP
  have hD := xd_c hD
  rw [List.append_assoc] at hP hD
  refine lv_icmp_eq (tgt := 812) hx hb dL_law_725 (by decide) (fun c_1 => ?_) (fun c_1 => absurd rfl c_1)
  refine W.widen (k := ce + 1) (n := se + 6) (by omega) (by omega) ?_
  rw [gn_gua v] at hP hD
  exact nx v (nGua v G (xs (i + 1)) (xs (i + 2)) (xs (i + 3)) (xs (i + 4)) (xs (i + 5))) gg2 L2 f2 dn lt ch H locs ls ⟨hP, hD, hS, hGR, okv, (gok_gua okv hGo)⟩ (lv_sub hl [0, 1, 2, 3] rfl)
end
section
/-! the law, case by case -/
set_option maxHeartbeats 4000000 in
set_option maxRecDepth 100000 in
theorem law_look {p : Program} {l : Launch} {e : Env} {s : State} {m : MethodId} {below : List Frame} {meth : Method} {c : Code} {b Ln : Nat} {xs : Nat → Int32} (hL : Ln ≤ 3072) (C0 : lw_At p s m meth c b Ln xs) {D : va_G} {a bm : Nat → Nat} {cV cI cG cJ cZ : ClassId} (hK : va_K D vwCl (lT cV cI cG cJ cZ) s) (hN : nT s) {i ce se : Nat} (hi : i + 6 ≤ Ln) (hce : ce + 1 ≤ room_1.cells) (hse : se + 6 ≤ room_1.slots) (nx : lNext p l e s m below meth c D a bm cV cI cG cJ cZ b i (ce + 1) (se + 6)) {v : Nat → Nat → Int32} {G : Nat → Option GT} {gg : Nat → Option Nat} {L : List Nat} {f : Nat → va_E} {dn lt ch : Int32} {H : Heap} {locs : List Loc} {ls : Array Slot} (hI : lInv s D a bm cV cI cG cJ cZ v G gg L f dn lt ch H locs) (hl : lv_has ls 4 [(3, .int (nI i)), (0, .ref b), (1, .ref (a 0)), (2, .ref (bm 0))]) : W p l e room_1 s m #[Value.ref b] below meth c H locs ce se (lw_Z below #[Value.ref b] s) (F0 m 730 ls []) := by
  obtain ⟨hx, hb, hr, hml, hown, hts, hX, hbl, hlocks, hgv⟩ := C0
  have hown : s.vm.findClass RL = some m.cls := hown
  have hts : ∀ w ∈ wsL_law, w.before #[Value.ref b] s = true := fun w h => hts w (wsL_law_in w h)
  have hA : ∀ q : Nat, s.heap.size ≤ q → (fun q : Nat => s.heap.size ≤ q) q := fun _ h => h
  have hbA : ¬ (fun q : Nat => s.heap.size ≤ q) b := Nat.not_le.mpr hbl
  have hro : ce ≤ room_1.cells ∧ se ≤ room_1.slots := ⟨by omega, by omega⟩
  have hro1 : ce + 1 ≤ room_1.cells ∧ se + 6 ≤ room_1.slots := ⟨hce, hse⟩
  obtain ⟨hP, hD, hS, hGR, okv, hGo⟩ := hI
  have hP : va_P D vwCl (cb a cV cI cG v gg dn lt ch ++ (va_pl L f ++ mb bm cJ cZ v G dn lt ch (nI (cntG G 8)))) H := hP
  have hD : va_D (fun q : Nat => s.heap.size ≤ q) (cb a cV cI cG v gg dn lt ch ++ (va_pl L f ++ mb bm cJ cZ v G dn lt ch (nI (cntG G 8)))) := hD
  refine lv_aload_n hx hb dL_law_730 rfl (lv_at hl 2 rfl) ?_
  have hPa := hP; rw [← List.append_assoc] at hPa
  have hDa := hD; rw [← List.append_assoc] at hDa
  refine xc_W (S0 := Nat → va_E) (rw := mb bm cJ cZ v G dn lt ch (nI (cntG G 8))) (As := []) (rest := []) ⟨hx, hb, hml, hown, hts⟩ (c_X1_look l D a cV cI cG v gg dn lt ch L f H.size G hGR (fun g t hg ht => (hGo g t hg ht).1)) (cwV 0 hts gL_law_X1_look rfl rfl rfl (by decide +kernel) ⟨Nat.le_of_ble_eq_true rfl, Nat.le_of_ble_eq_true rfl⟩) xMvN hN hPa (hK.sub (tys' := cT cV cI cG) [0, 1, 2] rfl) hDa hS hA (va_recv hK hP (ci := 1) (q0 := 0) rfl rfl) rfl hl.1 rfl (Nat.le_of_ble_eq_true rfl) dL_law_731 hro (fun r1 f2 H locs hr1 hP hD _ hS => ?_)
  rw [hr1.1]
  have hGR := hr1.2
  refine W.widen (k := ce) (n := se) (Nat.le_refl _) (Nat.le_refl _) ?_
  rw [List.append_assoc] at hP hD
  have hP : va_P D vwCl (cb a cV cI cG v gg dn lt ch ++ (va_pl L f2 ++ mb bm cJ cZ v G dn lt ch (nI (cntG G 8)))) H := hP
  have hD : va_D (fun q : Nat => s.heap.size ≤ q) (cb a cV cI cG v gg dn lt ch ++ (va_pl L f2 ++ mb bm cJ cZ v G dn lt ch (nI (cntG G 8)))) := hD
  refine lv_aload_n hx hb dL_law_734 rfl (lv_at hl 3 rfl) ?_
  have hPm := hP; rw [← List.append_assoc] at hPm
  have hPm := xp_c hPm
  have hDm := hD; rw [← List.append_assoc] at hDm
  have hDm := xd_c hDm
  refine xc_W (S0 := Unit) (rw := cb a cV cI cG v gg dn lt ch ++ va_pl L f2) (As := []) (rest := [.int (lkS v G 8)]) ⟨hx, hb, hml, hown, hts⟩ (c_X2_look l D bm cJ cZ v G dn lt ch (nI (cntG G 8)) H.size hGo okv) (cwV 0 hts gL_law_X2_look rfl rfl rfl (by decide +kernel) ⟨Nat.le_of_ble_eq_true rfl, Nat.le_of_ble_eq_true rfl⟩) xMv0 trivial hPm (hK.sub (tys' := mT cJ cZ) [3, 4] rfl) hDm hS hA (va_recv (hK.sub (tys' := mT cJ cZ) [3, 4] rfl) hPm (ci := 2) (q0 := 0) rfl rfl) rfl hl.1 rfl (Nat.le_of_ble_eq_true rfl) dL_law_735 hro (fun r2 _ H locs hr2 hP hD _ hS => ?_)
  rw [hr2]
  have hP := xp_c hP
  have hD := xd_c hD
  rw [List.append_assoc] at hP hD
  refine lv_icmp_eq (tgt := 812) hx hb dL_law_738 (by decide) (fun c_1 => ?_) (fun c_1 => absurd rfl c_1)
  refine W.widen (k := ce + 1) (n := se + 6) (by omega) (by omega) ?_
  rw [← cnt_lk v G 8 8] at hP hD
  exact nx v (lkG v G 8) gg L f2 dn lt ch H locs ls ⟨hP, hD, hS, hGR, okv, (gok_lk hGo)⟩ (lv_sub hl [0, 1, 2, 3] rfl)
set_option maxHeartbeats 4000000 in
set_option maxRecDepth 100000 in
theorem law_rings {p : Program} {l : Launch} {e : Env} {s : State} {m : MethodId} {below : List Frame} {meth : Method} {c : Code} {b Ln : Nat} {xs : Nat → Int32} (hL : Ln ≤ 3072) (C0 : lw_At p s m meth c b Ln xs) {D : va_G} {a bm : Nat → Nat} {cV cI cG cJ cZ : ClassId} (hK : va_K D vwCl (lT cV cI cG cJ cZ) s) (hN : nT s) {i ce se : Nat} (hi : i + 6 ≤ Ln) (hce : ce + 1 ≤ room_1.cells) (hse : se + 6 ≤ room_1.slots) (nx : lNext p l e s m below meth c D a bm cV cI cG cJ cZ b i (ce + 1) (se + 6)) {v : Nat → Nat → Int32} {G : Nat → Option GT} {gg : Nat → Option Nat} {L : List Nat} {f : Nat → va_E} {dn lt ch : Int32} {H : Heap} {locs : List Loc} {ls : Array Slot} (hI : lInv s D a bm cV cI cG cJ cZ v G gg L f dn lt ch H locs) (hl : lv_has ls 4 [(3, .int (nI i)), (0, .ref b), (1, .ref (a 0)), (2, .ref (bm 0))]) : W p l e room_1 s m #[Value.ref b] below meth c H locs ce se (lw_Z below #[Value.ref b] s) (F0 m 743 ls []) := by
  obtain ⟨hx, hb, hr, hml, hown, hts, hX, hbl, hlocks, hgv⟩ := C0
  have hown : s.vm.findClass RL = some m.cls := hown
  have hts : ∀ w ∈ wsL_law, w.before #[Value.ref b] s = true := fun w h => hts w (wsL_law_in w h)
  have hA : ∀ q : Nat, s.heap.size ≤ q → (fun q : Nat => s.heap.size ≤ q) q := fun _ h => h
  have hbA : ¬ (fun q : Nat => s.heap.size ≤ q) b := Nat.not_le.mpr hbl
  have hro : ce ≤ room_1.cells ∧ se ≤ room_1.slots := ⟨by omega, by omega⟩
  have hro1 : ce + 1 ≤ room_1.cells ∧ se + 6 ≤ room_1.slots := ⟨hce, hse⟩
  obtain ⟨hP, hD, hS, hGR, okv, hGo⟩ := hI
  have hP : va_P D vwCl (cb a cV cI cG v gg dn lt ch ++ (va_pl L f ++ mb bm cJ cZ v G dn lt ch (nI (cntG G 8)))) H := hP
  have hD : va_D (fun q : Nat => s.heap.size ≤ q) (cb a cV cI cG v gg dn lt ch ++ (va_pl L f ++ mb bm cJ cZ v G dn lt ch (nI (cntG G 8)))) := hD
  refine lv_aload_n hx hb dL_law_743 rfl (lv_at hl 2 rfl) ?_
  refine lv_aload_n hx hb dL_law_744 rfl (lv_at hl 1 rfl) ?_
  refine lv_iload_n hx hb dL_law_745 rfl (lv_at hl 0 rfl) ?_
  refine lv_iconst (v := 1) hx hb dL_law_746 (by decide) ?_
  refine lv_iadd hx hb dL_law_747 ?_
  rw [show nI i + 1 = nI (i + 1) from nI_add i 1]
  refine va_sld hx hb hX hbl hbA hS (vp_in_nI (show i + 1 < Ln by omega) (by omega)) dL_law_748 ?_
  rw [nI_clamp (show i + 1 < 2 ^ 31 by omega)]
  have hPa := hP; rw [← List.append_assoc] at hPa
  refine xc_R (wd := cb a cV cI cG v gg dn lt ch ++ va_pl L f) (As := [.int (xs (i + 1))]) (rest := []) ⟨hx, hb, hml, hown, hts⟩ (c_X1_rings l D a cV cI cG v gg dn lt ch L f G hGR (xs (i + 1))) (cwV 1 hts gL_law_X1_rings rfl rfl rfl (by decide +kernel) ⟨Nat.le_of_ble_eq_true rfl, Nat.le_of_ble_eq_true rfl⟩) xMvN hN (xp_l hPa) (hK.sub (tys' := cT cV cI cG) [0, 1, 2] rfl) (va_recv hK hP (ci := 1) (q0 := 0) rfl rfl) rfl hl.1 rfl (Nat.le_of_ble_eq_true rfl) dL_law_749 hro ?_
  refine lv_aload_n hx hb dL_law_752 rfl (lv_at hl 3 rfl) ?_
  refine lv_aload_n hx hb dL_law_753 rfl (lv_at hl 1 rfl) ?_
  refine lv_iload_n hx hb dL_law_754 rfl (lv_at hl 0 rfl) ?_
  refine lv_iconst (v := 1) hx hb dL_law_755 (by decide) ?_
  refine lv_iadd hx hb dL_law_756 ?_
  rw [show nI i + 1 = nI (i + 1) from nI_add i 1]
  refine va_sld hx hb hX hbl hbA hS (vp_in_nI (show i + 1 < Ln by omega) (by omega)) dL_law_757 ?_
  rw [nI_clamp (show i + 1 < 2 ^ 31 by omega)]
  have hPm := hP; rw [← List.append_assoc] at hPm
  have hPm := xp_c hPm
  refine xc_R (wd := mb bm cJ cZ v G dn lt ch (nI (cntG G 8))) (As := [.int (xs (i + 1))]) (rest := [.int (aRin G (xs (i + 1)))]) ⟨hx, hb, hml, hown, hts⟩ (c_X2_rings l D bm cJ cZ v G dn lt ch (nI (cntG G 8)) (xs (i + 1))) (cwV 1 hts gL_law_X2_rings rfl rfl rfl (by decide +kernel) ⟨Nat.le_of_ble_eq_true rfl, Nat.le_of_ble_eq_true rfl⟩) xMv0 trivial (xp_l hPm) (hK.sub (tys' := mT cJ cZ) [3, 4] rfl) (va_recv (hK.sub (tys' := mT cJ cZ) [3, 4] rfl) hPm (ci := 2) (q0 := 0) rfl rfl) rfl hl.1 rfl (Nat.le_of_ble_eq_true rfl) dL_law_758 hro ?_
  refine lv_icmp_eq (tgt := 812) hx hb dL_law_761 (by decide) (fun c_1 => ?_) (fun c_1 => absurd rfl c_1)
  refine W.widen (k := ce + 1) (n := se + 6) (by omega) (by omega) ?_
  exact nx v G gg L f dn lt ch H locs ls ⟨hP, hD, hS, hGR, okv, hGo⟩ (lv_sub hl [0, 1, 2, 3] rfl)
set_option maxHeartbeats 4000000 in
set_option maxRecDepth 100000 in
theorem law_strike {p : Program} {l : Launch} {e : Env} {s : State} {m : MethodId} {below : List Frame} {meth : Method} {c : Code} {b Ln : Nat} {xs : Nat → Int32} (hL : Ln ≤ 3072) (C0 : lw_At p s m meth c b Ln xs) {D : va_G} {a bm : Nat → Nat} {cV cI cG cJ cZ : ClassId} (hK : va_K D vwCl (lT cV cI cG cJ cZ) s) (hN : nT s) {i ce se : Nat} (hi : i + 6 ≤ Ln) (hce : ce + 1 ≤ room_1.cells) (hse : se + 6 ≤ room_1.slots) (nx : lNext p l e s m below meth c D a bm cV cI cG cJ cZ b i (ce + 1) (se + 6)) {v : Nat → Nat → Int32} {G : Nat → Option GT} {gg : Nat → Option Nat} {L : List Nat} {f : Nat → va_E} {dn lt ch : Int32} {H : Heap} {locs : List Loc} {ls : Array Slot} (hI : lInv s D a bm cV cI cG cJ cZ v G gg L f dn lt ch H locs) (hl : lv_has ls 4 [(3, .int (nI i)), (0, .ref b), (1, .ref (a 0)), (2, .ref (bm 0))]) : W p l e room_1 s m #[Value.ref b] below meth c H locs ce se (lw_Z below #[Value.ref b] s) (F0 m 766 ls []) := by
  obtain ⟨hx, hb, hr, hml, hown, hts, hX, hbl, hlocks, hgv⟩ := C0
  have hown : s.vm.findClass RL = some m.cls := hown
  have hts : ∀ w ∈ wsL_law, w.before #[Value.ref b] s = true := fun w h => hts w (wsL_law_in w h)
  have hA : ∀ q : Nat, s.heap.size ≤ q → (fun q : Nat => s.heap.size ≤ q) q := fun _ h => h
  have hbA : ¬ (fun q : Nat => s.heap.size ≤ q) b := Nat.not_le.mpr hbl
  have hro : ce ≤ room_1.cells ∧ se ≤ room_1.slots := ⟨by omega, by omega⟩
  have hro1 : ce + 1 ≤ room_1.cells ∧ se + 6 ≤ room_1.slots := ⟨hce, hse⟩
  obtain ⟨hP, hD, hS, hGR, okv, hGo⟩ := hI
  have hP : va_P D vwCl (cb a cV cI cG v gg dn lt ch ++ (va_pl L f ++ mb bm cJ cZ v G dn lt ch (nI (cntG G 8)))) H := hP
  have hD : va_D (fun q : Nat => s.heap.size ≤ q) (cb a cV cI cG v gg dn lt ch ++ (va_pl L f ++ mb bm cJ cZ v G dn lt ch (nI (cntG G 8)))) := hD
  refine lv_aload_n hx hb dL_law_766 rfl (lv_at hl 2 rfl) ?_
  refine lv_aload_n hx hb dL_law_767 rfl (lv_at hl 1 rfl) ?_
  refine lv_iload_n hx hb dL_law_768 rfl (lv_at hl 0 rfl) ?_
  refine lv_iconst (v := 1) hx hb dL_law_769 (by decide) ?_
  refine lv_iadd hx hb dL_law_770 ?_
  rw [show nI i + 1 = nI (i + 1) from nI_add i 1]
  refine va_sld hx hb hX hbl hbA hS (vp_in_nI (show i + 1 < Ln by omega) (by omega)) dL_law_771 ?_
  rw [nI_clamp (show i + 1 < 2 ^ 31 by omega)]
  refine xc_W (S0 := Unit) (rw := va_pl L f ++ mb bm cJ cZ v G dn lt ch (nI (cntG G 8))) (As := [.int (xs (i + 1))]) (rest := []) ⟨hx, hb, hml, hown, hts⟩ (c_X1_strike l D a cV cI cG v gg dn lt ch H.size (xs (i + 1))) (cwV 1 hts gL_law_X1_strike rfl rfl rfl (by decide +kernel) ⟨Nat.le_of_ble_eq_true rfl, Nat.le_of_ble_eq_true rfl⟩) xMv0 trivial hP (hK.sub (tys' := cT cV cI cG) [0, 1, 2] rfl) hD hS hA (va_recv hK hP (ci := 1) (q0 := 0) rfl rfl) rfl hl.1 rfl (Nat.le_of_ble_eq_true rfl) dL_law_772 hro (fun r1 _ H locs hr1 hP hD _ hS => ?_)
  rw [hr1]
  refine W.widen (k := ce) (n := se) (Nat.le_refl _) (Nat.le_refl _) ?_
  have hP : va_P D vwCl (cb a cV cI cG (nStri v (xs (i + 1))) gg dn lt ch ++ (va_pl L f ++ mb bm cJ cZ v G dn lt ch (nI (cntG G 8)))) H := hP
  have hD : va_D (fun q : Nat => s.heap.size ≤ q) (cb a cV cI cG (nStri v (xs (i + 1))) gg dn lt ch ++ (va_pl L f ++ mb bm cJ cZ v G dn lt ch (nI (cntG G 8)))) := hD
  refine lv_aload_n hx hb dL_law_775 rfl (lv_at hl 3 rfl) ?_
  refine lv_aload_n hx hb dL_law_776 rfl (lv_at hl 1 rfl) ?_
  refine lv_iload_n hx hb dL_law_777 rfl (lv_at hl 0 rfl) ?_
  refine lv_iconst (v := 1) hx hb dL_law_778 (by decide) ?_
  refine lv_iadd hx hb dL_law_779 ?_
  rw [show nI i + 1 = nI (i + 1) from nI_add i 1]
  refine va_sld hx hb hX hbl hbA hS (vp_in_nI (show i + 1 < Ln by omega) (by omega)) dL_law_780 ?_
  rw [nI_clamp (show i + 1 < 2 ^ 31 by omega)]
  have hPm := hP; rw [← List.append_assoc] at hPm
  have hPm := xp_c hPm
  have hDm := hD; rw [← List.append_assoc] at hDm
  have hDm := xd_c hDm
  refine xc_W (S0 := Unit) (rw := cb a cV cI cG (nStri v (xs (i + 1))) gg dn lt ch ++ va_pl L f) (As := [.int (xs (i + 1))]) (rest := [.int (b2i (isSb (xs (i + 1))))]) ⟨hx, hb, hml, hown, hts⟩ (c_X2_strike l D bm cJ cZ v G dn lt ch (nI (cntG G 8)) H.size (xs (i + 1))) (cwV 1 hts gL_law_X2_strike rfl rfl rfl (by decide +kernel) ⟨Nat.le_of_ble_eq_true rfl, Nat.le_of_ble_eq_true rfl⟩) xMv0 trivial hPm (hK.sub (tys' := mT cJ cZ) [3, 4] rfl) hDm hS hA (va_recv (hK.sub (tys' := mT cJ cZ) [3, 4] rfl) hPm (ci := 2) (q0 := 0) rfl rfl) rfl hl.1 rfl (Nat.le_of_ble_eq_true rfl) dL_law_781 hro (fun r2 _ H locs hr2 hP hD _ hS => ?_)
  rw [hr2]
  have hP := xp_c hP
  have hD := xd_c hD
  rw [List.append_assoc] at hP hD
  refine lv_icmp_eq (tgt := 812) hx hb dL_law_784 (by decide) (fun c_1 => ?_) (fun c_1 => absurd rfl c_1)
  refine W.widen (k := ce + 1) (n := se + 6) (by omega) (by omega) ?_
  exact nx (nStri v (xs (i + 1))) G gg L f dn lt ch H locs ls ⟨hP, hD, hS, hGR, (ok_stri okv), hGo⟩ (lv_sub hl [0, 1, 2, 3] rfl)
set_option maxHeartbeats 4000000 in
set_option maxRecDepth 100000 in
theorem law_count {p : Program} {l : Launch} {e : Env} {s : State} {m : MethodId} {below : List Frame} {meth : Method} {c : Code} {b Ln : Nat} {xs : Nat → Int32} (hL : Ln ≤ 3072) (C0 : lw_At p s m meth c b Ln xs) {D : va_G} {a bm : Nat → Nat} {cV cI cG cJ cZ : ClassId} (hK : va_K D vwCl (lT cV cI cG cJ cZ) s) (hN : nT s) {i ce se : Nat} (hi : i + 6 ≤ Ln) (hce : ce + 1 ≤ room_1.cells) (hse : se + 6 ≤ room_1.slots) (nx : lNext p l e s m below meth c D a bm cV cI cG cJ cZ b i (ce + 1) (se + 6)) {v : Nat → Nat → Int32} {G : Nat → Option GT} {gg : Nat → Option Nat} {L : List Nat} {f : Nat → va_E} {dn lt ch : Int32} {H : Heap} {locs : List Loc} {ls : Array Slot} (hI : lInv s D a bm cV cI cG cJ cZ v G gg L f dn lt ch H locs) (hl : lv_has ls 4 [(3, .int (nI i)), (0, .ref b), (1, .ref (a 0)), (2, .ref (bm 0))]) : W p l e room_1 s m #[Value.ref b] below meth c H locs ce se (lw_Z below #[Value.ref b] s) (F0 m 789 ls []) := by
  obtain ⟨hx, hb, hr, hml, hown, hts, hX, hbl, hlocks, hgv⟩ := C0
  have hown : s.vm.findClass RL = some m.cls := hown
  have hts : ∀ w ∈ wsL_law, w.before #[Value.ref b] s = true := fun w h => hts w (wsL_law_in w h)
  have hA : ∀ q : Nat, s.heap.size ≤ q → (fun q : Nat => s.heap.size ≤ q) q := fun _ h => h
  have hbA : ¬ (fun q : Nat => s.heap.size ≤ q) b := Nat.not_le.mpr hbl
  have hro : ce ≤ room_1.cells ∧ se ≤ room_1.slots := ⟨by omega, by omega⟩
  have hro1 : ce + 1 ≤ room_1.cells ∧ se + 6 ≤ room_1.slots := ⟨hce, hse⟩
  obtain ⟨hP, hD, hS, hGR, okv, hGo⟩ := hI
  have hP : va_P D vwCl (cb a cV cI cG v gg dn lt ch ++ (va_pl L f ++ mb bm cJ cZ v G dn lt ch (nI (cntG G 8)))) H := hP
  have hD : va_D (fun q : Nat => s.heap.size ≤ q) (cb a cV cI cG v gg dn lt ch ++ (va_pl L f ++ mb bm cJ cZ v G dn lt ch (nI (cntG G 8)))) := hD
  refine lv_aload_n hx hb dL_law_789 rfl (lv_at hl 2 rfl) ?_
  refine lv_aload_n hx hb dL_law_790 rfl (lv_at hl 1 rfl) ?_
  refine lv_iload_n hx hb dL_law_791 rfl (lv_at hl 0 rfl) ?_
  refine lv_iconst (v := 1) hx hb dL_law_792 (by decide) ?_
  refine lv_iadd hx hb dL_law_793 ?_
  rw [show nI i + 1 = nI (i + 1) from nI_add i 1]
  refine va_sld hx hb hX hbl hbA hS (vp_in_nI (show i + 1 < Ln by omega) (by omega)) dL_law_794 ?_
  rw [nI_clamp (show i + 1 < 2 ^ 31 by omega)]
  refine xc_R (wd := cb a cV cI cG v gg dn lt ch) (As := [.int (xs (i + 1))]) (rest := []) ⟨hx, hb, hml, hown, hts⟩ (c_X1_count l D a cV cI cG v gg dn lt ch G (gs_of hGR) (xs (i + 1))) (cwV 1 hts gL_law_X1_count rfl rfl rfl (by decide +kernel) ⟨Nat.le_of_ble_eq_true rfl, Nat.le_of_ble_eq_true rfl⟩) xMv0 trivial (xp_l hP) (hK.sub (tys' := cT cV cI cG) [0, 1, 2] rfl) (va_recv hK hP (ci := 1) (q0 := 0) rfl rfl) rfl hl.1 rfl (Nat.le_of_ble_eq_true rfl) dL_law_795 hro ?_
  refine lv_aload_n hx hb dL_law_798 rfl (lv_at hl 3 rfl) ?_
  refine lv_aload_n hx hb dL_law_799 rfl (lv_at hl 1 rfl) ?_
  refine lv_iload_n hx hb dL_law_800 rfl (lv_at hl 0 rfl) ?_
  refine lv_iconst (v := 1) hx hb dL_law_801 (by decide) ?_
  refine lv_iadd hx hb dL_law_802 ?_
  rw [show nI i + 1 = nI (i + 1) from nI_add i 1]
  refine va_sld hx hb hX hbl hbA hS (vp_in_nI (show i + 1 < Ln by omega) (by omega)) dL_law_803 ?_
  rw [nI_clamp (show i + 1 < 2 ^ 31 by omega)]
  have hPm := hP; rw [← List.append_assoc] at hPm
  have hPm := xp_c hPm
  refine xc_R (wd := mb bm cJ cZ v G dn lt ch (nI (cntG G 8))) (As := [.int (xs (i + 1))]) (rest := [.int (aCnt dn lt (nI (cntG G 8)) ch (xs (i + 1)))]) ⟨hx, hb, hml, hown, hts⟩ (c_X2_count l D bm cJ cZ v G dn lt ch (nI (cntG G 8)) (xs (i + 1))) (cwV 1 hts gL_law_X2_count rfl rfl rfl (by decide +kernel) ⟨Nat.le_of_ble_eq_true rfl, Nat.le_of_ble_eq_true rfl⟩) xMv0 trivial (xp_l hPm) (hK.sub (tys' := mT cJ cZ) [3, 4] rfl) (va_recv (hK.sub (tys' := mT cJ cZ) [3, 4] rfl) hPm (ci := 2) (q0 := 0) rfl rfl) rfl hl.1 rfl (Nat.le_of_ble_eq_true rfl) dL_law_804 hro ?_
  refine lv_icmp_eq (tgt := 812) hx hb dL_law_807 (by decide) (fun c_1 => ?_) (fun c_1 => absurd rfl c_1)
  refine W.widen (k := ce + 1) (n := se + 6) (by omega) (by omega) ?_
  exact nx v G gg L f dn lt ch H locs ls ⟨hP, hD, hS, hGR, okv, hGo⟩ (lv_sub hl [0, 1, 2, 3] rfl)
end
section
set_option maxHeartbeats 4000000 in
set_option maxRecDepth 100000 in
theorem law_loop {p : Program} {l : Launch} {e : Env} {s : State} {m : MethodId} {below : List Frame} {meth : Method} {c : Code} {b Ln : Nat} {xs : Nat → Int32} (hL : Ln ≤ 3072) (C0 : lw_At p s m meth c b Ln xs) {D : va_G} {a bm : Nat → Nat} {cV cI cG cJ cZ : ClassId} (hK : va_K D vwCl (lT cV cI cG cJ cZ) s) (hN : nT s) :
    ∀ (n i : Nat), Ln < i + n → i ≤ Ln → ∀ (v : Nat → Nat → Int32) (G : Nat → Option GT) (gg : Nat → Option Nat) (L : List Nat) (f : Nat → va_E) (dn lt ch : Int32) (H : Heap) (locs : List Loc) (ls : Array Slot), lInv s D a bm cV cI cG cJ cZ v G gg L f dn lt ch H locs → lv_has ls 4 [(3, .int (nI i)), (0, .ref b), (1, .ref (a 0)), (2, .ref (bm 0))] → W p l e room_1 s m #[Value.ref b] below meth c H locs (16 + i) (291 + 6 * i) (lw_Z below #[Value.ref b] s) (F0 m 18 ls []) := by
  have C1 := C0
  have rc := rm_c
  have rs := rm_s
  obtain ⟨hx, hb, hr, hml, hown, hts, hX, hbl, hlocks, hgv⟩ := C0
  have hbA : ¬ (fun q : Nat => s.heap.size ≤ q) b := Nat.not_le.mpr hbl
  intro n
  induction n with
  | zero =>
    intro i h1 h2
    omega
  | succ n ih =>
    intro i h1 h2 v G gg L f dn lt ch H locs ls hI hl
    have hS := hI.2.2.1
    refine lv_iload_n hx hb dL_law_18 rfl (lv_at hl 0 rfl) ?_
    refine lv_aload_n hx hb dL_law_19 rfl (lv_at hl 1 rfl) ?_
    refine va_slen hx hb hX hbl hbA hS dL_law_20 ?_
    refine lv_bipush (v := 6) hx hb dL_law_21 (by decide) ?_
    refine lv_isub hx hb dL_law_23 ?_
    have hsub : (Int32.ofNat Ln - 6).toInt = (Ln : Int) - 6 := pk_sub_toInt (a := Ln) (b := 6) (by omega) (by decide)
    have hti : (nI i).toInt = (i : Int) := nI_toInt (by omega)
    refine lv_icmp_gt (tgt := 818) hx hb dL_law_24 (by decide) (fun c1 => ?_) (fun c1 => ?_)
    · refine lv_iconst (v := 1) hx hb dL_law_818 (by decide) ?_
      refine va_forget (fun q hq => hS.2.2 q hq) ?_
      refine W.widen (k := room_1.cells) (n := room_1.slots) (by omega) (by omega) ?_
      exact lw_ret hx hb hr hlocks dL_law_819
    · have hi6 : i + 6 ≤ Ln := by
        rw [i32_lt, hsub, hti] at c1
        omega
      have nx : lNext p l e s m below meth c D a bm cV cI cG cJ cZ b i (16 + i + 1) (291 + 6 * i + 6) := by
        intro v G gg L f dn lt ch H locs ls hI hl
        refine lv_iinc (v := nI (i + 6)) (lv' := [(3, .int (nI (i + 6))), (0, .ref b), (1, .ref (a 0)), (2, .ref (bm 0))]) hx hb dL_law_812 hl (k := 0) rfl (nI_add i 6) (by decide) rfl (fun ls hl => ?_)
        refine lv_goto (tgt := 18) hx hb dL_law_815 (by decide) ?_
        refine W.widen (k := 16 + (i + 6)) (n := 291 + 6 * (i + 6)) (by omega) (by omega) ?_
        exact ih (i + 6) (by omega) hi6 v G gg L f dn lt ch H locs ls hI hl
      refine lv_aload_n hx hb dL_law_27 rfl (lv_at hl 1 rfl) ?_
      refine lv_iload_n hx hb dL_law_28 rfl (lv_at hl 0 rfl) ?_
      refine va_sld hx hb hX hbl hbA hS (vp_in_nI (show i < Ln by omega) (by omega)) dL_law_29 ?_
      refine lv_bipush (v := 15) hx hb dL_law_30 (by decide) ?_
      refine lv_iand hx hb dL_law_32 ?_
      obtain ⟨j, hj, ej⟩ := pk_andE (xs (nI i).toNatClampNeg) (m := 15) 4 (by decide)
      rw [ej]
      have hce : 16 + i + 1 ≤ room_1.cells := by omega
      have hse : 291 + 6 * i + 6 ≤ room_1.slots := by omega
      have hj : j < 16 := hj
      rcases (show j = 0 ∨ j = 1 ∨ j = 2 ∨ j = 3 ∨ j = 4 ∨ j = 5 ∨ j = 6 ∨ j = 7 ∨ j = 8 ∨ j = 9 ∨ j = 10 ∨ j = 11 ∨ j = 12 ∨ j = 13 ∨ j = 14 ∨ j = 15 by omega) with rfl | rfl | rfl | rfl | rfl | rfl | rfl | rfl | rfl | rfl | rfl | rfl | rfl | rfl | rfl | rfl
      · refine lv_tableIn (off := 79) (tgt := 112) hx hb dL_law_33 (by decide) (by decide) (by decide) (by decide) ?_
        exact law_put hL C1 hK hN hi6 hce hse nx hI hl
      · refine lv_tableIn (off := 132) (tgt := 165) hx hb dL_law_33 (by decide) (by decide) (by decide) (by decide) ?_
        exact law_sort hL C1 hK hN hi6 hce hse nx hI hl
      · refine lv_tableIn (off := 165) (tgt := 198) hx hb dL_law_33 (by decide) (by decide) (by decide) (by decide) ?_
        exact law_quarters hL C1 hK hN hi6 hce hse nx hI hl
      · refine lv_tableIn (off := 198) (tgt := 231) hx hb dL_law_33 (by decide) (by decide) (by decide) (by decide) ?_
        exact law_holds hL C1 hK hN hi6 hce hse nx hI hl
      · refine lv_tableIn (off := 251) (tgt := 284) hx hb dL_law_33 (by decide) (by decide) (by decide) (by decide) ?_
        exact law_denies hL C1 hK hN hi6 hce hse nx hI hl
      · refine lv_tableIn (off := 304) (tgt := 337) hx hb dL_law_33 (by decide) (by decide) (by decide) (by decide) ?_
        exact law_pick hL C1 hK hN hi6 hce hse nx hI hl
      · refine lv_tableIn (off := 357) (tgt := 390) hx hb dL_law_33 (by decide) (by decide) (by decide) (by decide) ?_
        exact law_climb hL C1 hK hN hi6 hce hse nx hI hl
      · refine lv_tableIn (off := 400) (tgt := 433) hx hb dL_law_33 (by decide) (by decide) (by decide) (by decide) ?_
        exact law_first hL C1 hK hN hi6 hce hse nx hI hl
      · refine lv_tableIn (off := 469) (tgt := 502) hx hb dL_law_33 (by decide) (by decide) (by decide) (by decide) ?_
        exact law_best hL C1 hK hN hi6 hce hse nx hI hl
      · refine lv_tableIn (off := 528) (tgt := 561) hx hb dL_law_33 (by decide) (by decide) (by decide) (by decide) ?_
        exact law_pass hL C1 hK hN hi6 hce hse nx hI hl
      · refine lv_tableIn (off := 581) (tgt := 614) hx hb dL_law_33 (by decide) (by decide) (by decide) (by decide) ?_
        exact law_within hL C1 hK hN hi6 hce hse nx hI hl
      · refine lv_tableIn (off := 634) (tgt := 667) hx hb dL_law_33 (by decide) (by decide) (by decide) (by decide) ?_
        exact law_guard hL C1 hK hN hi6 hce hse nx hI hl
      · refine lv_tableIn (off := 697) (tgt := 730) hx hb dL_law_33 (by decide) (by decide) (by decide) (by decide) ?_
        exact law_look hL C1 hK hN hi6 hce hse nx hI hl
      · refine lv_tableIn (off := 710) (tgt := 743) hx hb dL_law_33 (by decide) (by decide) (by decide) (by decide) ?_
        exact law_rings hL C1 hK hN hi6 hce hse nx hI hl
      · refine lv_tableIn (off := 733) (tgt := 766) hx hb dL_law_33 (by decide) (by decide) (by decide) (by decide) ?_
        exact law_strike hL C1 hK hN hi6 hce hse nx hI hl
      · refine lv_tableIn (off := 756) (tgt := 789) hx hb dL_law_33 (by decide) (by decide) (by decide) (by decide) ?_
        exact law_count hL C1 hK hN hi6 hce hse nx hI hl
end
section
set_option maxHeartbeats 4000000 in
set_option maxRecDepth 100000 in
/-- THE LAW, from its entry -/
theorem whole_start {p : Program} {e : Env} {s : State} {m : MethodId} {below : List Frame} {meth : Method} {c : Code} (l : Launch) {b L : Nat} {xs : Nat → Int32} (hL : L ≤ 3072) (C0 : lw_At p s m meth c b L xs) : W p l e room_1 s m #[Value.ref b] below meth c s.heap [] 0 0 (lw_Z below #[Value.ref b] s) (entryFrame m ([Value.ref b] : List Value).toArray 4) := by
  obtain ⟨hx, hb, hr, hml, hown, hts0, hX, hbl, hlocks, hgv⟩ := id C0
  have hown : s.vm.findClass RL = some m.cls := hown
  have hts : ∀ w ∈ wsL_law, w.before #[Value.ref b] s = true := fun w h => hts0 w (wsL_law_in w h)
  have hA : ∀ q : Nat, s.heap.size ≤ q → (fun q : Nat => s.heap.size ≤ q) q := fun _ h => h
  have hN : nT s := ⟨va_Nw.of rfl (hts0 _ (by decide +kernel)), va_Nw.of rfl (hts0 _ (by decide +kernel)), va_Nw.of rfl (hts0 _ (by decide +kernel)), va_Nw.of rfl (hts0 _ (by decide +kernel)), va_Nw.of rfl (hts0 _ (by decide +kernel)), va_Nw.of rfl (hts0 _ (by decide +kernel)), va_Nw.of rfl (hts0 _ (by decide +kernel))⟩
  have hIT : iT s := ⟨va_AO.of (hts0 (.arrayOver (.object "TunerBench$Guard")) (by decide +kernel)), hts0 (.arrayOver (.array .int)) (by decide +kernel)⟩
  obtain ⟨c0, iS0, hKn0⟩ := u_known (C := RX0) (T := TX0) (N := 6) (n := 6) hts inlX0 (hts0 (.instantiable RX0 6) (by decide +kernel))
  obtain ⟨c1, iS1, hKn1⟩ := u_known (C := RX1) (T := TX1) (N := 5) (n := 5) hts inlX1 (hts0 (.instantiable RX1 5) (by decide +kernel))
  obtain ⟨c2, iS2, hKn2⟩ := u_known (C := RX2) (T := TX2) (N := 14) (n := 14) hts inlX2 (hts0 (.instantiable RX2 14) (by decide +kernel))
  obtain ⟨D, hKc⟩ : ∃ D : va_G, ∀ (k : Nat) (q : vw_C), vwCl[k]? = some q → u_Kn s q.1 q.2.1 q.2.2 (D.1 k) (D.2 k) := by
    refine ⟨(fun k => if k = 0 then c0 else if k = 1 then c1 else c2, fun k => if k = 0 then iS0 else if k = 1 then iS1 else iS2), ?_⟩
    intro k q hq
    match k, hq with
    | 0, hq => cases hq; exact hKn0
    | 1, hq => cases hq; exact hKn1
    | 2, hq => cases hq; exact hKn2
    | k + 3, hq => simp [vwCl] at hq
  have hS : va_S (fun q : Nat => s.heap.size ≤ q) s.heap s.heap [] := va_S.rf
  have hK : va_K D vwCl [] s := ⟨hKc, fun k q h => by simp at h⟩
  have hP : va_P D vwCl [] s.heap := fun k q h => by simp at h
  have hD : va_D (fun q : Nat => s.heap.size ≤ q) [] := ⟨fun i j p q h => by simp at h, fun k q h => by simp at h⟩
  have hl := lv_entry ([.ref b]) (n := 4) (Nat.le_of_ble_eq_true rfl)
  rw [lg_entry_eq]
  generalize (lg_sl ([.ref b]) ++ List.replicate (4 - (lg_sl ([.ref b])).length) Slot.unset).toArray = ls at hl ⊢
  have hl : lv_has ls 4 [(0, .ref b)] := hl
  refine va_new (D := D) (ci := 1) (fs := [.null, .null, .int 0, .int 0, .int 0]) (C := RX1) (T := TX1) (N := 5) hx hb hts inlX1 tyX1 tyX1_ok hown (hts (.classLink RL 7 RX1) (by decide +kernel)) (hts (.instantiable RX1 5) (by decide +kernel)) (hts (.initialized RX1) (by decide +kernel)) hK hP hD hS hA rfl (fun j hj => by rcases (show j = 0 ∨ j = 1 ∨ j = 2 ∨ j = 3 ∨ j = 4 by omega) with rfl | rfl | rfl | rfl | rfl <;> rfl) (Nat.le_of_ble_eq_true rfl) (Nat.le_of_ble_eq_true rfl) dL_law_0 (fun q1 H hP hD hS => ?_)
  have hP : va_P D vwCl ([(q1, .inr (1, [.null, .null, .int 0, .int 0, .int 0]))] ++ []) H := hP
  have hD : va_D (fun q : Nat => s.heap.size ≤ q) ([(q1, .inr (1, [.null, .null, .int 0, .int 0, .int 0]))] ++ []) := hD
  refine W.widen (k := 1) (n := 5) (Nat.le_of_ble_eq_true rfl) (Nat.le_of_ble_eq_true rfl) ?_
  refine lv_dup hx hb dL_law_3 rfl ?_
  refine xc_I (rw := []) (As := []) (rest := [.ref q1]) ⟨hx, hb, hml, hown, hts⟩ (c_X1_init l D q1 H.size) (cwI 0 hts gL_law_X1_init rfl rfl rfl (hts (.initialized RX1) (by decide +kernel)) (hts (.methodLink RL 9 yX1_init) (by decide +kernel)) (hts (.instanceMethod yX1_init) (by decide +kernel)) rfl (by decide +kernel) ⟨Nat.le_of_ble_eq_true rfl, Nat.le_of_ble_eq_true rfl⟩) xMvI hIT hP hK hD hS hA rfl hl.1 rfl (Nat.le_of_ble_eq_true rfl) dL_law_4 ⟨Nat.le_of_ble_eq_true rfl, Nat.le_of_ble_eq_true rfl⟩ (fun u H1 locs1 hu hPx hDx hK1 hSx => ?_)
  obtain ⟨a, cV, cI, cG⟩ := u
  have hu : a 0 = q1 := hu
  subst hu
  refine W.widen (k := 5) (n := 81) (Nat.le_of_ble_eq_true rfl) (Nat.le_of_ble_eq_true rfl) ?_
  clear hP hD hS
  have hP : va_P D vwCl (cb a cV cI cG (fun _ _ => 40003) (fun _ => none) 0 (-1) 0 ++ []) H1 := hPx
  have hD : va_D (fun q : Nat => s.heap.size ≤ q) (cb a cV cI cG (fun _ _ => 40003) (fun _ => none) 0 (-1) 0 ++ []) := hDx
  have hS := hSx
  rw [List.append_nil] at hP hD
  refine lv_astore_n (lv' := [(1, .ref (a 0)), (0, .ref b)]) hx hb dL_law_7 rfl hl (by decide) rfl (fun ls hl => ?_)
  refine va_new (D := D) (ci := 2) (fs := [.null, .null, .int 0, .int 0, .int 0, .int 0, .null, .null, .null, .null, .null, .null, .null, .null]) (C := RX2) (T := TX2) (N := 14) hx hb hts inlX2 tyX2 tyX2_ok hown (hts (.classLink RL 10 RX2) (by decide +kernel)) (hts (.instantiable RX2 14) (by decide +kernel)) (hts (.initialized RX2) (by decide +kernel)) hK hP hD hS hA rfl (fun j hj => by rcases (show j = 0 ∨ j = 1 ∨ j = 2 ∨ j = 3 ∨ j = 4 ∨ j = 5 ∨ j = 6 ∨ j = 7 ∨ j = 8 ∨ j = 9 ∨ j = 10 ∨ j = 11 ∨ j = 12 ∨ j = 13 by omega) with rfl | rfl | rfl | rfl | rfl | rfl | rfl | rfl | rfl | rfl | rfl | rfl | rfl | rfl <;> rfl) (Nat.le_of_ble_eq_true rfl) (Nat.le_of_ble_eq_true rfl) dL_law_8 (fun q2 H hP hD hS => ?_)
  have hP := xp_c hP
  have hD := xd_c hD
  refine W.widen (k := 6) (n := 95) (Nat.le_of_ble_eq_true rfl) (Nat.le_of_ble_eq_true rfl) ?_
  refine lv_dup hx hb dL_law_11 rfl ?_
  refine xc_I (rw := cb a cV cI cG (fun _ _ => 40003) (fun _ => none) 0 (-1) 0) (As := []) (rest := [.ref q2]) ⟨hx, hb, hml, hown, hts⟩ (c_X2_init l D q2 H.size) (cwI 0 hts gL_law_X2_init rfl rfl rfl (hts (.initialized RX2) (by decide +kernel)) (hts (.methodLink RL 12 yX2_init) (by decide +kernel)) (hts (.instanceMethod yX2_init) (by decide +kernel)) rfl (by decide +kernel) ⟨Nat.le_of_ble_eq_true rfl, Nat.le_of_ble_eq_true rfl⟩) xMv0 trivial hP hK hD hS hA rfl hl.1 rfl (Nat.le_of_ble_eq_true rfl) dL_law_12 ⟨Nat.le_of_ble_eq_true rfl, Nat.le_of_ble_eq_true rfl⟩ (fun u H3 locs3 hu hPy hDy hK2 hSy => ?_)
  obtain ⟨bm, cJ, cZ⟩ := u
  have hu : bm 0 = q2 := hu
  subst hu
  refine W.widen (k := 16) (n := 291) (Nat.le_of_ble_eq_true rfl) (Nat.le_of_ble_eq_true rfl) ?_
  have hP : va_P D vwCl (mb bm cJ cZ (fun _ _ => 40003) (fun _ => none) 0 (-1) 0 0 ++ cb a cV cI cG (fun _ _ => 40003) (fun _ => none) 0 (-1) 0) H3 := hPy
  have hD : va_D (fun q : Nat => s.heap.size ≤ q) (mb bm cJ cZ (fun _ _ => 40003) (fun _ => none) 0 (-1) 0 0 ++ cb a cV cI cG (fun _ _ => 40003) (fun _ => none) 0 (-1) 0) := hDy
  have hP : va_P D vwCl (lww a bm cV cI cG cJ cZ (fun _ _ => 40003) (fun _ => none) (fun _ => none) [] (fun _ => .inr (0, [])) 0 (-1) 0) H3 := xp_c hP
  have hD : va_D (fun q : Nat => s.heap.size ≤ q) (lww a bm cV cI cG cJ cZ (fun _ _ => 40003) (fun _ => none) (fun _ => none) [] (fun _ => .inr (0, [])) 0 (-1) 0) := xd_c hD
  have hK1 : va_K D vwCl (cT cV cI cG) s := hK1
  have hK2 : va_K D vwCl (mT cJ cZ) s := hK2
  have hK9 : va_K D vwCl (lT cV cI cG cJ cZ) s := hK1.app hK2
  refine lv_astore_n (lv' := [(2, .ref (bm 0)), (1, .ref (a 0)), (0, .ref b)]) hx hb dL_law_15 rfl hl (by decide) rfl (fun ls hl => ?_)
  refine lv_iconst (v := 0) hx hb dL_law_16 (by decide) ?_
  refine lv_istore_n (lv' := [(3, .int 0), (2, .ref (bm 0)), (1, .ref (a 0)), (0, .ref b)]) hx hb dL_law_17 rfl hl (by decide) rfl (fun ls hl => ?_)
  exact law_loop hL C0 hK9 hN (L + 1) 0 (by omega) (Nat.zero_le _) _ _ _ _ _ _ _ _ H3 locs3 ls ⟨hP, hD, hSy, ⟨fun g _ => Or.inl ⟨rfl, rfl⟩, fun i j x _ _ h => by cases h⟩, fun _ _ => by unfold okV; decide, fun g t _ h => by cases h⟩ (lv_sub hl [0, 3, 2, 1] rfl)
end
section
set_option maxHeartbeats 4000000 in
theorem lw_walk (l : Launch) (b : Addr) (xs : List Int32) : MetFree l x (headSpec (Jvm.Cond.code x code maxLocals ret :: tables_1) room_1) (lw_P b xs) (fun _ _ _ _ _ => True) lw_Q := by
  refine MetFree.of_bodyS (code := code) (maxLocals := maxLocals) (ret := ret) (by decide) ?_ ?_
  · intro args s m h hn
    obtain ⟨meth, c, h1, h2, h3, h4, h5, h6, -, -⟩ := Cond.code_spec hn (atoms_spec (ws := Jvm.Cond.code x code maxLocals ret :: tables_1) h _ List.mem_cons_self)
    exact ⟨meth, c, h1, h2, h3, h4, h5, h6⟩
  · intro p e s m args below meth c s₁ B hml0 hP _
    obtain ⟨rfl, hx, hbd, hgv⟩ := hP
    obtain ⟨scr, harrAt, hlist, hof, hsmall⟩ := hx
    obtain ⟨hcb, hkn, -, -⟩ := State.arrayAt?_spec harrAt
    have hown : s.vm.findClass R_law = some m.cls := findClass_of_methodNamed B.named
    have hts0 : ∀ c ∈ (Jvm.Cond.code x code maxLocals ret :: tables_1), c.before #[Value.ref b] s = true := atoms_spec (ws := Jvm.Cond.code x code maxLocals ret :: tables_1) B.pre
    have hts : ∀ w ∈ lw_tbl, w.before #[Value.ref b] s = true := k2_hts_sels lw_privs (fun w hw => hts0 w (List.mem_cons_of_mem _ hw)) lw_privs_ok
    have hml : c.maxLocals = 4 := B.maxLocals_eq (hts0 _ List.mem_cons_self)
    have X₀ : Stand p l e room_1 s m #[Value.ref b] below meth c s₁ [] 0 0 := Stand.of_body B
    have hh0 : s₁.heap = s.heap := by rw [B.state]; rfl
    have hsz : scr.slots.size = xs.length := by rw [← Array.length_toList, hlist, List.length_map]
    have hval : ∀ j : Nat, j < xs.length → scr.slots[j]? = some (.int (xs.getD j 0)) := fun j hj => by
      rw [← Array.getElem?_toList, hlist]
      simp [hj]
    have hbl : b < s.heap.size := (Array.getElem?_eq_some_iff.mp hcb).1
    have hX : va_X b xs.length (fun j => xs.getD j 0) s s.heap := ⟨scr, hcb, hof, hkn, hsz, hval⟩
    have K : W p l e room_1 s m #[Value.ref b] below meth c s₁.heap [] 0 0 (lw_Z below #[Value.ref b] s) (entryFrame m ([Value.ref b] : List Value).toArray 4) := by
      rw [hh0]
      exact whole_start l hbd ⟨B.exec, B.bytes, B.returns, hml, hown, hts, hX, hbl, B.notSynchronized, hgv⟩
    obtain ⟨t, a1, o, b1, b2, b3⟩ := K s₁ rfl X₀
    exact ⟨t, o, a1, b1, b2, b3⟩
theorem lw_pre_spec {args : Array Value} {s : State} (h : (Jvm.Cond.and given_1 narrow_1).before args s = true) (hr : rest_1_c.before args s = true) : ∃ (b : Addr) (xs : List Int32), lw_P b xs args s := by
  have hs := flat_of_before _ h
  have hq := flat_of_before _ hr
  have hc : (Cond.count 1).before args s = true := hs _ (by decide +kernel)
  have harr : (Cond.arrayOf (.arg 0) .int).before args s = true := hs _ (by decide +kernel)
  have hle : (Cond.le (.length (.arg 0)) (.int 3072)).before args s = true := hs _ (by decide +kernel)
  have hlen : (Cond.isInt (.length (.arg 0))).before args s = true := hq _ (by decide +kernel)
  have hall : (Cond.all (.arg 0) (.isInt (.elem (.arg 0) (.index 0)))).before args s = true := hq _ (by decide +kernel)
  obtain ⟨b, xs, hb, hx⟩ := State.ints_of_pre rfl harr hlen hall
  have hsm : xs.length < 2 ^ 31 := hx.choose_spec.2.2.2
  have hev : (Term.length (.arg 0)).eval args s none [] s = some (.int xs.length.toInt32) := hx.length_eval hb
  have hv := Cond.le_ints hev (show (Term.int 3072).eval args s none [] s = some (.int 3072) from rfl)
  have hd : xs.length.toInt32 ≤ 3072 := by
    simpa [Cond.before, Cond.holds, hv] using hle
  have hN : xs.length ≤ 3072 := (Int32.ofNat_le_ofNat hsm (by decide)).mp (show Int32.ofNat xs.length ≤ Int32.ofNat 3072 from hd)
  exact ⟨b, xs, Cond.one_arg hc (show args[0]? = some (.ref b) from hb), hx, hN, h⟩
theorem lw_comes (l : Launch) : Comes l x (Jvm.Cond.code x code maxLocals ret :: tables_1) room_1 (fun tb e args s => Calls_1 tb e args s ∧ rest_1 tb e args s ∧ Pre_1 tb e args s)
    (fun _ _ args s o t => lw_Q args s o t) := by
  intro p e ha hc hk s m args below hf hfit hheap happ hpre
  obtain ⟨b, xs, hP⟩ := lw_pre_spec hpre.2.2 hpre.2.1
  obtain ⟨k, o, h1, h2, h3, hQ⟩ := lw_walk l b xs p e ha hc hk s m args below hf ((Spec.applies_iff_loose hf).mp happ).1 hP trivial
  exact ⟨k, o, h1, h2, h3, hQ⟩
theorem lw_frame {s t : State} {o : Outcome} {args : Array Value} (h : Framed s o t [] room_1.cells room_1.slots) :
    Framed s o t (fieldLocs frame_1_writes args s ++ arrayLocs frame_1_arrays args s ++ staticLocs frame_1_statics s) room_1.cells room_1.slots := h
theorem lw_limb (L : Cond) (hL : ∀ (args : Array Value) (s t : State), L.after args s (.returned (some (.int 1))) t = true) :
    ArmFor flags0 classFile x code maxLocals ret World_1 tables_1 room_1 Calls_1 rest_1 Pre_1
      (fun tb e a s o t => postC L tb e a s o t ∧ Framed s o t (fieldLocs frame_1_writes a s ++ arrayLocs frame_1_arrays a s ++ staticLocs frame_1_statics s) room_1.cells room_1.slots) := by
  intro l _ _ _ p e ha hc hk s m args below hf hfit hheap happ hpre
  obtain ⟨k, o, h1, h2, h3, rfl, hF⟩ := lw_comes l p e ha hc hk s m args below hf hfit hheap happ hpre
  exact ⟨k, _, h1, h2, h3, hL args s _, lw_frame hF⟩
theorem i_vc : Claimed_1_1 ∧ Claimed_1_2 := ⟨lw_limb limb_1_1 (fun args s t => by simp [limb_1_1, Cond.after, Cond.holds, Cond.value]), lw_limb limb_1_2 (fun args s t => Cond.after_iff.mpr (by
  first | (rw [show limb_1_2 = Cond.eq .result (.int 1) from rfl, Cond.eq_ints (x := 1) (y := 1) rfl rfl]; simp; done) | (simp [limb_1_2, Cond.value, Term.eval]; done)))⟩
end
