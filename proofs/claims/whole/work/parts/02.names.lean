/-! ===== BEGIN words of one list among another's, by their places ===== -/
theorem goodIn_r {big : List Cond} (ws : List Cond) (ps : List Nat) (hp : ws = ps.filterMap (fun i => big[i]?)) (h : ws.all goodWord = true) : GoodIn big ws := by
  intro w hw
  have h1 := List.all_eq_true.mp h w hw
  rw [hp] at hw
  obtain ⟨i, -, hi⟩ := List.mem_filterMap.mp hw
  have hm : w ∈ big := by first | exact List.mem_of_getElem? hi | exact List.getElem?_mem hi
  exact ⟨hm, good_of_word h1⟩
theorem goodIn_app {big a b : List Cond} (ha : GoodIn big a) (hb : GoodIn big b) : GoodIn big (a ++ b) := fun w h => (List.mem_append.mp h).elim (ha w) (hb w)
theorem goodIn_ca {big a b : List Cond} {c : Cond} (ha : GoodIn big (c :: a)) (hb : GoodIn big b) : GoodIn big (c :: (a ++ b)) := fun w h => (List.mem_cons.mp h).elim (fun e => ha w (List.mem_cons.mpr (Or.inl e))) (fun h => (List.mem_append.mp h).elim (fun h => ha w (List.mem_cons.mpr (Or.inr h))) (hb w))
theorem goodIn_sub {big ws : List Cond} (hm : ∀ w ∈ ws, w ∈ big) (h : ws.all goodWord = true) : GoodIn big ws := fun w hw => ⟨hm w hw, good_of_word (List.all_eq_true.mp h w hw)⟩
/-! ===== END ===== -/

/-! ===== BEGIN printed: names, fields, word lists, decode rows ===== -/
def RX0 : String := "AeadBox$Stream"
def TX0 : u_T := fun k => match k with
  | 0 => ("AeadBox$Stream", "input", "[I", true)
  | _ => ("AeadBox$Stream", "block", "[I", true)
def tyX0 : Nat → FieldType := fun k => match k with
  | 0 => .array .int
  | _ => .array .int
abbrev wsX00 : List Cond := u_ws RX0 TX0 2
theorem nmX0 : ∀ a, a < 2 → ∀ b, b < 2 → a ≠ b → (TX0 a).2.1 ≠ (TX0 b).2.1 := by decide +kernel
theorem tyX0_ok : ∀ k, k < 2 → parseFieldDescriptor (TX0 k).2.2.1 = some (tyX0 k) := by decide +kernel
abbrev cX0_init : ByteArray := prog_2_method_1_code
def yX0_init : MethodName := ⟨RX0, "<init>", "()V"⟩
abbrev cX0_putKeyWord : ByteArray := prog_2_method_2_code
def yX0_putKeyWord : MethodName := ⟨RX0, "putKeyWord", "(II)V"⟩
abbrev cX0_putNonceWord : ByteArray := prog_2_method_3_code
def yX0_putNonceWord : MethodName := ⟨RX0, "putNonceWord", "(II)V"⟩
abbrev cX0_makeBlock : ByteArray := prog_2_method_4_code
def yX0_makeBlock : MethodName := ⟨RX0, "makeBlock", "(I)V"⟩
abbrev cX0_blockByte : ByteArray := prog_2_method_5_code
def yX0_blockByte : MethodName := ⟨RX0, "blockByte", "(I)I"⟩
abbrev cX0_doubleRound : ByteArray := prog_2_method_6_code
def yX0_doubleRound : MethodName := ⟨RX0, "doubleRound", "()V"⟩
abbrev cX0_quarterRound : ByteArray := prog_2_method_7_code
def yX0_quarterRound : MethodName := ⟨RX0, "quarterRound", "(IIII)V"⟩
abbrev cX0_addAndTurn : ByteArray := prog_2_method_8_code
def yX0_addAndTurn : MethodName := ⟨RX0, "addAndTurn", "(IIII)V"⟩
def RX1 : String := "AeadBox$TagMaker"
def TX1 : u_T := fun k => match k with
  | 0 => ("AeadBox$TagMaker", "factor", "[I", true)
  | 1 => ("AeadBox$TagMaker", "addend", "[I", true)
  | 2 => ("AeadBox$TagMaker", "hash", "[I", true)
  | 3 => ("AeadBox$TagMaker", "products", "[I", true)
  | 4 => ("AeadBox$TagMaker", "tagBytes", "[I", true)
  | _ => ("AeadBox$TagMaker", "taken", "I", false)
def tyX1 : Nat → FieldType := fun k => match k with
  | 0 => .array .int
  | 1 => .array .int
  | 2 => .array .int
  | 3 => .array .int
  | 4 => .array .int
  | _ => .int
abbrev wsX10 : List Cond := u_ws RX1 TX1 6
theorem nmX1 : ∀ a, a < 6 → ∀ b, b < 6 → a ≠ b → (TX1 a).2.1 ≠ (TX1 b).2.1 := by decide +kernel
theorem tyX1_ok : ∀ k, k < 6 → parseFieldDescriptor (TX1 k).2.2.1 = some (tyX1 k) := by decide +kernel
abbrev cX1_init : ByteArray := prog_3_method_1_code
def yX1_init : MethodName := ⟨RX1, "<init>", "()V"⟩
abbrev cX1_start : ByteArray := prog_3_method_2_code
def yX1_start : MethodName := ⟨RX1, "start", "(LAeadBox$Stream;)V"⟩
abbrev cX1_take : ByteArray := prog_3_method_3_code
def yX1_take : MethodName := ⟨RX1, "take", "(I)V"⟩
abbrev cX1_fillUp : ByteArray := prog_3_method_4_code
def yX1_fillUp : MethodName := ⟨RX1, "fillUp", "()V"⟩
abbrev cX1_takeCount : ByteArray := prog_3_method_5_code
def yX1_takeCount : MethodName := ⟨RX1, "takeCount", "(I)V"⟩
abbrev cX1_close : ByteArray := prog_3_method_6_code
def yX1_close : MethodName := ⟨RX1, "close", "()V"⟩
abbrev cX1_tagByte : ByteArray := prog_3_method_7_code
def yX1_tagByte : MethodName := ⟨RX1, "tagByte", "(I)I"⟩
abbrev cX1_factorMask : ByteArray := prog_3_method_8_code
def yX1_factorMask : MethodName := ⟨RX1, "factorMask", "(I)I"⟩
abbrev cX1_endChunk : ByteArray := prog_3_method_9_code
def yX1_endChunk : MethodName := ⟨RX1, "endChunk", "()V"⟩
abbrev cX1_multiply : ByteArray := prog_3_method_10_code
def yX1_multiply : MethodName := ⟨RX1, "multiply", "()V"⟩
abbrev cX1_carryProducts : ByteArray := prog_3_method_11_code
def yX1_carryProducts : MethodName := ⟨RX1, "carryProducts", "()V"⟩
abbrev cX1_addSmall : ByteArray := prog_3_method_12_code
def yX1_addSmall : MethodName := ⟨RX1, "addSmall", "(I)V"⟩
abbrev cX1_reachesModulus : ByteArray := prog_3_method_13_code
def yX1_reachesModulus : MethodName := ⟨RX1, "reachesModulus", "()Z"⟩
def RX2 : String := "AeadBox"
def TX2 : u_T := fun k => match k with
  | 0 => ("AeadBox", "stream", "LAeadBox$Stream;", true)
  | 1 => ("AeadBox", "tagMaker", "LAeadBox$TagMaker;", true)
  | 2 => ("AeadBox", "results", "[I", true)
  | 3 => ("AeadBox", "expectedTag", "[I", true)
  | 4 => ("AeadBox", "nowPhase", "I", false)
  | 5 => ("AeadBox", "direction", "I", false)
  | 6 => ("AeadBox", "dataCount", "I", false)
  | _ => ("AeadBox", "addedCount", "I", false)
def tyX2 : Nat → FieldType := fun k => match k with
  | 0 => .object "AeadBox$Stream"
  | 1 => .object "AeadBox$TagMaker"
  | 2 => .array .int
  | 3 => .array .int
  | 4 => .int
  | 5 => .int
  | 6 => .int
  | _ => .int
abbrev wsX20 : List Cond := u_ws RX2 TX2 8
theorem nmX2 : ∀ a, a < 8 → ∀ b, b < 8 → a ≠ b → (TX2 a).2.1 ≠ (TX2 b).2.1 := by decide +kernel
theorem tyX2_ok : ∀ k, k < 8 → parseFieldDescriptor (TX2 k).2.2.1 = some (tyX2 k) := by decide +kernel
abbrev cX2_init : ByteArray := prog_1_method_1_code
def yX2_init : MethodName := ⟨RX2, "<init>", "(I)V"⟩
abbrev cX2_setKeyWord : ByteArray := prog_1_method_2_code
def yX2_setKeyWord : MethodName := ⟨RX2, "setKeyWord", "(II)Z"⟩
abbrev cX2_setNonceWord : ByteArray := prog_1_method_3_code
def yX2_setNonceWord : MethodName := ⟨RX2, "setNonceWord", "(II)Z"⟩
abbrev cX2_begin : ByteArray := prog_1_method_4_code
def yX2_begin : MethodName := ⟨RX2, "begin", "(I)Z"⟩
abbrev cX2_aad : ByteArray := prog_1_method_5_code
def yX2_aad : MethodName := ⟨RX2, "aad", "(I)Z"⟩
abbrev cX2_data : ByteArray := prog_1_method_6_code
def yX2_data : MethodName := ⟨RX2, "data", "(I)I"⟩
abbrev cX2_finish : ByteArray := prog_1_method_7_code
def yX2_finish : MethodName := ⟨RX2, "finish", "()Z"⟩
abbrev cX2_expectTag : ByteArray := prog_1_method_8_code
def yX2_expectTag : MethodName := ⟨RX2, "expectTag", "(II)Z"⟩
abbrev cX2_verify : ByteArray := prog_1_method_9_code
def yX2_verify : MethodName := ⟨RX2, "verify", "()Z"⟩
abbrev cX2_tag : ByteArray := prog_1_method_10_code
def yX2_tag : MethodName := ⟨RX2, "tag", "(I)I"⟩
abbrev cX2_out : ByteArray := prog_1_method_11_code
def yX2_out : MethodName := ⟨RX2, "out", "(I)I"⟩
abbrev cX2_length : ByteArray := prog_1_method_12_code
def yX2_length : MethodName := ⟨RX2, "length", "()I"⟩
abbrev cX2_added : ByteArray := prog_1_method_13_code
def yX2_added : MethodName := ⟨RX2, "added", "()I"⟩
abbrev cX2_phase : ByteArray := prog_1_method_14_code
def yX2_phase : MethodName := ⟨RX2, "phase", "()I"⟩
abbrev cX2_reset : ByteArray := prog_1_method_15_code
def yX2_reset : MethodName := ⟨RX2, "reset", "()V"⟩
abbrev cX2_isByte : ByteArray := prog_1_method_16_code
def yX2_isByte : MethodName := ⟨RX2, "isByte", "(I)Z"⟩
abbrev cX2_isTagIndex : ByteArray := prog_1_method_17_code
def yX2_isTagIndex : MethodName := ⟨RX2, "isTagIndex", "(I)Z"⟩
abbrev cX2_isSealing : ByteArray := prog_1_method_18_code
def yX2_isSealing : MethodName := ⟨RX2, "isSealing", "()Z"⟩
abbrev cX2_takesData : ByteArray := prog_1_method_19_code
def yX2_takesData : MethodName := ⟨RX2, "takesData", "()Z"⟩
abbrev cX2_tellsResults : ByteArray := prog_1_method_20_code
def yX2_tellsResults : MethodName := ⟨RX2, "tellsResults", "()Z"⟩
abbrev cX2_nextStreamByte : ByteArray := prog_1_method_21_code
def yX2_nextStreamByte : MethodName := ⟨RX2, "nextStreamByte", "()I"⟩
abbrev cX2_clearExpectedTag : ByteArray := prog_1_method_22_code
def yX2_clearExpectedTag : MethodName := ⟨RX2, "clearExpectedTag", "()V"⟩
abbrev cX2_isTagAsExpected : ByteArray := prog_1_method_23_code
def yX2_isTagAsExpected : MethodName := ⟨RX2, "isTagAsExpected", "()Z"⟩
def RX3 : String := "AeadBoxModel"
def TX3 : u_T := fun k => match k with
  | 0 => ("AeadBoxModel", "code", "I", false)
  | 1 => ("AeadBoxModel", "cap", "I", true)
  | 2 => ("AeadBoxModel", "key", "[I", true)
  | 3 => ("AeadBoxModel", "nonce", "[I", true)
  | 4 => ("AeadBoxModel", "phase", "I", false)
  | 5 => ("AeadBoxModel", "opening", "Z", false)
  | 6 => ("AeadBoxModel", "first", "[I", true)
  | 7 => ("AeadBoxModel", "firstCount", "I", false)
  | 8 => ("AeadBoxModel", "came", "[I", true)
  | 9 => ("AeadBoxModel", "told", "[I", true)
  | 10 => ("AeadBoxModel", "count", "I", false)
  | 11 => ("AeadBoxModel", "expected", "[I", true)
  | 12 => ("AeadBoxModel", "start", "[I", true)
  | 13 => ("AeadBoxModel", "words", "[I", true)
  | 14 => ("AeadBoxModel", "hash", "[I", true)
  | 15 => ("AeadBoxModel", "factor", "[I", true)
  | 16 => ("AeadBoxModel", "product", "[I", true)
  | 17 => ("AeadBoxModel", "high", "[I", true)
  | 18 => ("AeadBoxModel", "result", "[I", true)
  | _ => ("AeadBoxModel", "sixteen", "[I", true)
def tyX3 : Nat → FieldType := fun k => match k with
  | 0 => .int
  | 1 => .int
  | 2 => .array .int
  | 3 => .array .int
  | 4 => .int
  | 5 => .boolean
  | 6 => .array .int
  | 7 => .int
  | 8 => .array .int
  | 9 => .array .int
  | 10 => .int
  | 11 => .array .int
  | 12 => .array .int
  | 13 => .array .int
  | 14 => .array .int
  | 15 => .array .int
  | 16 => .array .int
  | 17 => .array .int
  | 18 => .array .int
  | _ => .array .int
abbrev wsX30 : List Cond := u_ws RX3 TX3 20
theorem nmX3 : ∀ a, a < 20 → ∀ b, b < 20 → a ≠ b → (TX3 a).2.1 ≠ (TX3 b).2.1 := by decide +kernel
theorem tyX3_ok : ∀ k, k < 20 → parseFieldDescriptor (TX3 k).2.2.1 = some (tyX3 k) := by decide +kernel
abbrev cX3_init : ByteArray := prog_5_method_1_code
def yX3_init : MethodName := ⟨RX3, "<init>", "(I)V"⟩
abbrev cX3_isByte : ByteArray := prog_5_method_3_code
def yX3_isByte : MethodName := ⟨RX3, "isByte", "(I)Z"⟩
abbrev cX3_up : ByteArray := prog_5_method_4_code
def yX3_up : MethodName := ⟨RX3, "up", "(II)I"⟩
abbrev cX3_quarter : ByteArray := prog_5_method_5_code
def yX3_quarter : MethodName := ⟨RX3, "quarter", "(IIII)V"⟩
abbrev cX3_block : ByteArray := prog_5_method_6_code
def yX3_block : MethodName := ⟨RX3, "block", "(I)V"⟩
abbrev cX3_byteOf : ByteArray := prog_5_method_7_code
def yX3_byteOf : MethodName := ⟨RX3, "byteOf", "(I)I"⟩
abbrev cX3_carry : ByteArray := prog_5_method_8_code
def yX3_carry : MethodName := ⟨RX3, "carry", "()V"⟩
abbrev cX3_isAbove : ByteArray := prog_5_method_9_code
def yX3_isAbove : MethodName := ⟨RX3, "isAbove", "()Z"⟩
abbrev cX3_rest : ByteArray := prog_5_method_10_code
def yX3_rest : MethodName := ⟨RX3, "rest", "()V"⟩
abbrev cX3_take : ByteArray := prog_5_method_11_code
def yX3_take : MethodName := ⟨RX3, "take", "()V"⟩
abbrev cX3_tag0 : ByteArray := prog_5_method_12_code
def yX3_tag0 : MethodName := ⟨RX3, "tag0", "()V"⟩
abbrev cX3_setKeyWord : ByteArray := prog_5_method_13_code
def yX3_setKeyWord : MethodName := ⟨RX3, "setKeyWord", "(II)Z"⟩
abbrev cX3_setNonceWord : ByteArray := prog_5_method_14_code
def yX3_setNonceWord : MethodName := ⟨RX3, "setNonceWord", "(II)Z"⟩
abbrev cX3_begin : ByteArray := prog_5_method_15_code
def yX3_begin : MethodName := ⟨RX3, "begin", "(I)Z"⟩
abbrev cX3_aad : ByteArray := prog_5_method_16_code
def yX3_aad : MethodName := ⟨RX3, "aad", "(I)Z"⟩
abbrev cX3_data : ByteArray := prog_5_method_17_code
def yX3_data : MethodName := ⟨RX3, "data", "(I)I"⟩
abbrev cX3_finish : ByteArray := prog_5_method_18_code
def yX3_finish : MethodName := ⟨RX3, "finish", "()Z"⟩
abbrev cX3_isPlace : ByteArray := prog_5_method_19_code
def yX3_isPlace : MethodName := ⟨RX3, "isPlace", "(I)Z"⟩
abbrev cX3_expectTag : ByteArray := prog_5_method_20_code
def yX3_expectTag : MethodName := ⟨RX3, "expectTag", "(II)Z"⟩
abbrev cX3_verify : ByteArray := prog_5_method_21_code
def yX3_verify : MethodName := ⟨RX3, "verify", "()Z"⟩
abbrev cX3_tag : ByteArray := prog_5_method_22_code
def yX3_tag : MethodName := ⟨RX3, "tag", "(I)I"⟩
abbrev cX3_out : ByteArray := prog_5_method_23_code
def yX3_out : MethodName := ⟨RX3, "out", "(I)I"⟩
abbrev cX3_length : ByteArray := prog_5_method_24_code
def yX3_length : MethodName := ⟨RX3, "length", "()I"⟩
abbrev cX3_added : ByteArray := prog_5_method_25_code
def yX3_added : MethodName := ⟨RX3, "added", "()I"⟩
abbrev cX3_phase : ByteArray := prog_5_method_26_code
def yX3_phase : MethodName := ⟨RX3, "phase", "()I"⟩
abbrev cX3_reset : ByteArray := prog_5_method_27_code
def yX3_reset : MethodName := ⟨RX3, "reset", "()V"⟩
def RJ9 : String := "java/lang/Math"
def TJ9 : u_T := fun k => match k with
  | _ => ("", "", "", false)
def tyJ9 : Nat → FieldType := fun k => match k with
  | _ => .int
abbrev wsJ90 : List Cond := u_ws RJ9 TJ9 0
theorem nmJ9 : ∀ a, a < 0 → ∀ b, b < 0 → a ≠ b → (TJ9 a).2.1 ≠ (TJ9 b).2.1 := by decide +kernel
theorem tyJ9_ok : ∀ k, k < 0 → parseFieldDescriptor (TJ9 k).2.2.1 = some (tyJ9 k) := by decide +kernel
abbrev cJ9_max_7cf53 : ByteArray := prog_6_method_65_code
def yJ9_max_7cf53 : MethodName := ⟨RJ9, "max", "(II)I"⟩
abbrev cJ9_min_7cf53 : ByteArray := prog_6_method_69_code
def yJ9_min_7cf53 : MethodName := ⟨RJ9, "min", "(II)I"⟩
def RL : String := "AeadBoxLaw"
abbrev cL_cell : ByteArray := method_2_code
def yL_cell : MethodName := ⟨RL, "cell", "([II)I"⟩
abbrev cL_law : ByteArray := code
def yL_law : MethodName := ⟨RL, "law", "([I)Z"⟩
def wsX0_init : List Cond := .code yX0_init cX0_init 1 none :: ([.methodLink RX0 1 objectInit, .instanceMethod objectInit, .code objectInit ⟨#[0xb1]⟩ 1 none, .arrayClass .int, .fieldLink RX0 9 "AeadBox$Stream" "input" "[I", .fieldLink RX0 13 "AeadBox$Stream" "block" "[I", .constant RX0 16 (1634760805), .constant RX0 17 (857760878), .constant RX0 18 (2036477234), .constant RX0 19 (1797285236)] ++ wsX00)
def wsX0_putKeyWord : List Cond := .code yX0_putKeyWord cX0_putKeyWord 3 none :: ([.fieldLink RX0 9 "AeadBox$Stream" "input" "[I"] ++ wsX00)
def wsX0_putNonceWord : List Cond := .code yX0_putNonceWord cX0_putNonceWord 3 none :: ([.fieldLink RX0 9 "AeadBox$Stream" "input" "[I"] ++ wsX00)
def wsX0_addAndTurn : List Cond := .code yX0_addAndTurn cX0_addAndTurn 6 none :: ([.fieldLink RX0 13 "AeadBox$Stream" "block" "[I"] ++ wsX00)
def wsX0_quarterRound : List Cond := .code yX0_quarterRound cX0_quarterRound 5 none :: ([.methodLink RX0 27 yX0_addAndTurn, .instanceMethod yX0_addAndTurn, .selects RX0 yX0_addAndTurn yX0_addAndTurn, .initialized RX0, .code yX0_addAndTurn cX0_addAndTurn 6 none, .fieldLink RX0 13 "AeadBox$Stream" "block" "[I"] ++ wsX00)
def wsX0_doubleRound : List Cond := .code yX0_doubleRound cX0_doubleRound 1 none :: ([.methodLink RX0 23 yX0_quarterRound, .instanceMethod yX0_quarterRound, .selects RX0 yX0_quarterRound yX0_quarterRound, .initialized RX0, .code yX0_quarterRound cX0_quarterRound 5 none, .methodLink RX0 27 yX0_addAndTurn, .instanceMethod yX0_addAndTurn, .selects RX0 yX0_addAndTurn yX0_addAndTurn, .code yX0_addAndTurn cX0_addAndTurn 6 none, .fieldLink RX0 13 "AeadBox$Stream" "block" "[I"] ++ wsX00)
def wsX0_makeBlock : List Cond := .code yX0_makeBlock cX0_makeBlock 3 none :: ([.fieldLink RX0 9 "AeadBox$Stream" "input" "[I", .fieldLink RX0 13 "AeadBox$Stream" "block" "[I", .methodLink RX0 20 yX0_doubleRound, .instanceMethod yX0_doubleRound, .selects RX0 yX0_doubleRound yX0_doubleRound, .initialized RX0, .code yX0_doubleRound cX0_doubleRound 1 none, .methodLink RX0 23 yX0_quarterRound, .instanceMethod yX0_quarterRound, .selects RX0 yX0_quarterRound yX0_quarterRound, .code yX0_quarterRound cX0_quarterRound 5 none, .methodLink RX0 27 yX0_addAndTurn, .instanceMethod yX0_addAndTurn, .selects RX0 yX0_addAndTurn yX0_addAndTurn, .code yX0_addAndTurn cX0_addAndTurn 6 none] ++ wsX00)
def wsX0_blockByte : List Cond := .code yX0_blockByte cX0_blockByte 2 (some .int) :: ([.fieldLink RX0 13 "AeadBox$Stream" "block" "[I"] ++ wsX00)
def wsX1_init : List Cond := .code yX1_init cX1_init 1 none :: ([.methodLink RX1 1 objectInit, .instanceMethod objectInit, .code objectInit ⟨#[0xb1]⟩ 1 none, .arrayClass .int, .fieldLink RX1 9 "AeadBox$TagMaker" "factor" "[I", .fieldLink RX1 13 "AeadBox$TagMaker" "addend" "[I", .fieldLink RX1 16 "AeadBox$TagMaker" "hash" "[I", .fieldLink RX1 19 "AeadBox$TagMaker" "products" "[I", .fieldLink RX1 22 "AeadBox$TagMaker" "tagBytes" "[I", .fieldLink RX1 25 "AeadBox$TagMaker" "taken" "I"] ++ wsX10)
def wsX1_factorMask : List Cond := .code yX1_factorMask cX1_factorMask 1 (some .int) :: ([])
def wsX1_start : List Cond := .code yX1_start cX1_start 3 none :: ([.fieldLink RX1 9 "AeadBox$TagMaker" "factor" "[I", .fieldLink RX1 13 "AeadBox$TagMaker" "addend" "[I", .fieldLink RX1 16 "AeadBox$TagMaker" "hash" "[I", .fieldLink RX1 25 "AeadBox$TagMaker" "taken" "I", .methodLink RX1 29 yX0_blockByte, .instanceMethod yX0_blockByte, .selects RX0 yX0_blockByte yX0_blockByte, .initialized RX0, .code yX0_blockByte cX0_blockByte 2 (some .int), .fieldLink RX0 13 "AeadBox$Stream" "block" "[I", .methodLink RX1 35 yX1_factorMask, .static yX1_factorMask, .initialized RX1, .code yX1_factorMask cX1_factorMask 1 (some .int)] ++ wsX10 ++ wsX00)
def wsX1_multiply : List Cond := .code yX1_multiply cX1_multiply 4 none :: ([.fieldLink RX1 16 "AeadBox$TagMaker" "hash" "[I", .fieldLink RX1 9 "AeadBox$TagMaker" "factor" "[I", .fieldLink RX1 19 "AeadBox$TagMaker" "products" "[I"] ++ wsX10)
def wsX1_addSmall : List Cond := .code yX1_addSmall cX1_addSmall 4 none :: ([.fieldLink RX1 16 "AeadBox$TagMaker" "hash" "[I"] ++ wsX10)
def wsX1_carryProducts : List Cond := .code yX1_carryProducts cX1_carryProducts 3 none :: ([.fieldLink RX1 19 "AeadBox$TagMaker" "products" "[I", .fieldLink RX1 16 "AeadBox$TagMaker" "hash" "[I", .methodLink RX1 49 yX1_addSmall, .instanceMethod yX1_addSmall, .selects RX1 yX1_addSmall yX1_addSmall, .initialized RX1, .code yX1_addSmall cX1_addSmall 4 none] ++ wsX10)
def wsX1_endChunk : List Cond := .code yX1_endChunk cX1_endChunk 1 none :: ([.fieldLink RX1 16 "AeadBox$TagMaker" "hash" "[I", .fieldLink RX1 25 "AeadBox$TagMaker" "taken" "I", .methodLink RX1 52 yX1_multiply, .instanceMethod yX1_multiply, .selects RX1 yX1_multiply yX1_multiply, .initialized RX1, .code yX1_multiply cX1_multiply 4 none, .fieldLink RX1 9 "AeadBox$TagMaker" "factor" "[I", .fieldLink RX1 19 "AeadBox$TagMaker" "products" "[I", .methodLink RX1 55 yX1_carryProducts, .instanceMethod yX1_carryProducts, .selects RX1 yX1_carryProducts yX1_carryProducts, .code yX1_carryProducts cX1_carryProducts 3 none, .methodLink RX1 49 yX1_addSmall, .instanceMethod yX1_addSmall, .selects RX1 yX1_addSmall yX1_addSmall, .code yX1_addSmall cX1_addSmall 4 none] ++ wsX10)
def wsX1_take : List Cond := .code yX1_take cX1_take 2 none :: ([.fieldLink RX1 16 "AeadBox$TagMaker" "hash" "[I", .fieldLink RX1 25 "AeadBox$TagMaker" "taken" "I", .methodLink RX1 38 yX1_endChunk, .instanceMethod yX1_endChunk, .selects RX1 yX1_endChunk yX1_endChunk, .initialized RX1, .code yX1_endChunk cX1_endChunk 1 none, .methodLink RX1 52 yX1_multiply, .instanceMethod yX1_multiply, .selects RX1 yX1_multiply yX1_multiply, .code yX1_multiply cX1_multiply 4 none, .fieldLink RX1 9 "AeadBox$TagMaker" "factor" "[I", .fieldLink RX1 19 "AeadBox$TagMaker" "products" "[I", .methodLink RX1 55 yX1_carryProducts, .instanceMethod yX1_carryProducts, .selects RX1 yX1_carryProducts yX1_carryProducts, .code yX1_carryProducts cX1_carryProducts 3 none, .methodLink RX1 49 yX1_addSmall, .instanceMethod yX1_addSmall, .selects RX1 yX1_addSmall yX1_addSmall, .code yX1_addSmall cX1_addSmall 4 none] ++ wsX10)
def wsX1_fillUp : List Cond := .code yX1_fillUp cX1_fillUp 1 none :: ([.fieldLink RX1 25 "AeadBox$TagMaker" "taken" "I", .methodLink RX1 38 yX1_endChunk, .instanceMethod yX1_endChunk, .selects RX1 yX1_endChunk yX1_endChunk, .initialized RX1, .code yX1_endChunk cX1_endChunk 1 none, .fieldLink RX1 16 "AeadBox$TagMaker" "hash" "[I", .methodLink RX1 52 yX1_multiply, .instanceMethod yX1_multiply, .selects RX1 yX1_multiply yX1_multiply, .code yX1_multiply cX1_multiply 4 none, .fieldLink RX1 9 "AeadBox$TagMaker" "factor" "[I", .fieldLink RX1 19 "AeadBox$TagMaker" "products" "[I", .methodLink RX1 55 yX1_carryProducts, .instanceMethod yX1_carryProducts, .selects RX1 yX1_carryProducts yX1_carryProducts, .code yX1_carryProducts cX1_carryProducts 3 none, .methodLink RX1 49 yX1_addSmall, .instanceMethod yX1_addSmall, .selects RX1 yX1_addSmall yX1_addSmall, .code yX1_addSmall cX1_addSmall 4 none] ++ wsX10)
def wsX1_takeCount_r1 : List Cond := [Cond.methodLink RX1 41 yX1_take, Cond.instanceMethod yX1_take, Cond.selects RX1 yX1_take yX1_take, Cond.initialized RX1, Cond.code yX1_take cX1_take 2 none, Cond.fieldLink RX1 16 "AeadBox$TagMaker" "hash" "[I", Cond.fieldLink RX1 25 "AeadBox$TagMaker" "taken" "I", Cond.methodLink RX1 38 yX1_endChunk, Cond.instanceMethod yX1_endChunk, Cond.selects RX1 yX1_endChunk yX1_endChunk, Cond.code yX1_endChunk cX1_endChunk 1 none, Cond.methodLink RX1 52 yX1_multiply, Cond.instanceMethod yX1_multiply, Cond.selects RX1 yX1_multiply yX1_multiply, Cond.code yX1_multiply cX1_multiply 4 none, Cond.fieldLink RX1 9 "AeadBox$TagMaker" "factor" "[I", Cond.fieldLink RX1 19 "AeadBox$TagMaker" "products" "[I", Cond.methodLink RX1 55 yX1_carryProducts, Cond.instanceMethod yX1_carryProducts, Cond.selects RX1 yX1_carryProducts yX1_carryProducts, Cond.code yX1_carryProducts cX1_carryProducts 3 none, Cond.methodLink RX1 49 yX1_addSmall, Cond.instanceMethod yX1_addSmall, Cond.selects RX1 yX1_addSmall yX1_addSmall]
def wsX1_takeCount_r2 : List Cond := [Cond.code yX1_addSmall cX1_addSmall 4 none]
def wsX1_takeCount : List Cond := .code yX1_takeCount cX1_takeCount 3 none :: ((wsX1_takeCount_r1 ++ wsX1_takeCount_r2) ++ wsX10)
def wsX1_reachesModulus : List Cond := .code yX1_reachesModulus cX1_reachesModulus 3 (some .boolean) :: ([.fieldLink RX1 16 "AeadBox$TagMaker" "hash" "[I"] ++ wsX10)
def wsX1_close : List Cond := .code yX1_close cX1_close 3 none :: ([.fieldLink RX1 16 "AeadBox$TagMaker" "hash" "[I", .fieldLink RX1 13 "AeadBox$TagMaker" "addend" "[I", .fieldLink RX1 22 "AeadBox$TagMaker" "tagBytes" "[I", .methodLink RX1 45 yX1_reachesModulus, .instanceMethod yX1_reachesModulus, .selects RX1 yX1_reachesModulus yX1_reachesModulus, .initialized RX1, .code yX1_reachesModulus cX1_reachesModulus 3 (some .boolean), .methodLink RX1 49 yX1_addSmall, .instanceMethod yX1_addSmall, .selects RX1 yX1_addSmall yX1_addSmall, .code yX1_addSmall cX1_addSmall 4 none] ++ wsX10)
def wsX1_tagByte : List Cond := .code yX1_tagByte cX1_tagByte 2 (some .int) :: ([.fieldLink RX1 22 "AeadBox$TagMaker" "tagBytes" "[I"] ++ wsX10)
def wsX2_init_r1 : List Cond := [Cond.methodLink RX2 1 objectInit, Cond.instanceMethod objectInit, Cond.code objectInit ⟨#[0xb1]⟩ 1 none, Cond.classLink RX2 7 RX0, Cond.instantiable RX0 2, Cond.initialized RX0, Cond.fieldLink RX2 10 "AeadBox" "stream" "LAeadBox$Stream;", Cond.classLink RX2 16 RX1, Cond.instantiable RX1 6, Cond.initialized RX1, Cond.fieldLink RX2 19 "AeadBox" "tagMaker" "LAeadBox$TagMaker;", Cond.arrayClass .int, Cond.fieldLink RX2 23 "AeadBox" "expectedTag" "[I", Cond.fieldLink RX2 27 "AeadBox" "nowPhase" "I", Cond.fieldLink RX2 31 "AeadBox" "direction" "I", Cond.fieldLink RX2 34 "AeadBox" "dataCount" "I", Cond.fieldLink RX2 37 "AeadBox" "addedCount" "I", Cond.methodLink RX2 40 Lib.Math.min.name, Cond.static Lib.Math.min.name, Cond.initialized "java/lang/Math", Cond.code Lib.Math.min.name Lib.Math.min.code 2 (some .int), Cond.methodLink RX2 46 Lib.Math.max.name, Cond.static Lib.Math.max.name, Cond.code Lib.Math.max.name Lib.Math.max.code 2 (some .int)]
def wsX2_init_r2 : List Cond := [Cond.fieldLink RX2 49 "AeadBox" "results" "[I", Cond.methodLink RX2 9 yX0_init, Cond.instanceMethod yX0_init, Cond.code yX0_init cX0_init 1 none, Cond.methodLink RX0 1 objectInit, Cond.fieldLink RX0 9 "AeadBox$Stream" "input" "[I", Cond.fieldLink RX0 13 "AeadBox$Stream" "block" "[I", Cond.constant RX0 16 (1634760805), Cond.constant RX0 17 (857760878), Cond.constant RX0 18 (2036477234), Cond.constant RX0 19 (1797285236), Cond.instanceMethod yX1_init, Cond.code yX1_init cX1_init 1 none, Cond.methodLink RX1 1 objectInit, Cond.fieldLink RX1 9 "AeadBox$TagMaker" "factor" "[I", Cond.fieldLink RX1 13 "AeadBox$TagMaker" "addend" "[I", Cond.fieldLink RX1 16 "AeadBox$TagMaker" "hash" "[I", Cond.fieldLink RX1 19 "AeadBox$TagMaker" "products" "[I", Cond.fieldLink RX1 22 "AeadBox$TagMaker" "tagBytes" "[I", Cond.fieldLink RX1 25 "AeadBox$TagMaker" "taken" "I"]
def wsX2_init : List Cond := .code yX2_init cX2_init 2 none :: ((wsX2_init_r1 ++ wsX2_init_r2) ++ wsX00 ++ wsX20 ++ wsX10)
def wsX2_setKeyWord : List Cond := .code yX2_setKeyWord cX2_setKeyWord 3 (some .boolean) :: ([.fieldLink RX2 27 "AeadBox" "nowPhase" "I", .fieldLink RX2 10 "AeadBox" "stream" "LAeadBox$Stream;", .methodLink RX2 52 yX0_putKeyWord, .instanceMethod yX0_putKeyWord, .selects RX0 yX0_putKeyWord yX0_putKeyWord, .initialized RX0, .code yX0_putKeyWord cX0_putKeyWord 3 none, .fieldLink RX0 9 "AeadBox$Stream" "input" "[I"] ++ wsX20 ++ wsX00)
def wsX2_setNonceWord : List Cond := .code yX2_setNonceWord cX2_setNonceWord 3 (some .boolean) :: ([.fieldLink RX2 27 "AeadBox" "nowPhase" "I", .fieldLink RX2 10 "AeadBox" "stream" "LAeadBox$Stream;", .methodLink RX2 56 yX0_putNonceWord, .instanceMethod yX0_putNonceWord, .selects RX0 yX0_putNonceWord yX0_putNonceWord, .initialized RX0, .code yX0_putNonceWord cX0_putNonceWord 3 none, .fieldLink RX0 9 "AeadBox$Stream" "input" "[I"] ++ wsX20 ++ wsX00)
def wsX2_clearExpectedTag : List Cond := .code yX2_clearExpectedTag cX2_clearExpectedTag 2 none :: ([.fieldLink RX2 23 "AeadBox" "expectedTag" "[I"] ++ wsX20)
def wsX2_begin_r1 : List Cond := [Cond.fieldLink RX2 27 "AeadBox" "nowPhase" "I", Cond.fieldLink RX2 31 "AeadBox" "direction" "I", Cond.fieldLink RX2 34 "AeadBox" "dataCount" "I", Cond.fieldLink RX2 37 "AeadBox" "addedCount" "I", Cond.fieldLink RX2 10 "AeadBox" "stream" "LAeadBox$Stream;", Cond.fieldLink RX2 19 "AeadBox" "tagMaker" "LAeadBox$TagMaker;", Cond.methodLink RX2 59 yX2_clearExpectedTag, Cond.instanceMethod yX2_clearExpectedTag, Cond.selects RX2 yX2_clearExpectedTag yX2_clearExpectedTag, Cond.initialized RX2, Cond.code yX2_clearExpectedTag cX2_clearExpectedTag 2 none, Cond.fieldLink RX2 23 "AeadBox" "expectedTag" "[I", Cond.methodLink RX2 62 yX0_makeBlock, Cond.instanceMethod yX0_makeBlock, Cond.selects RX0 yX0_makeBlock yX0_makeBlock, Cond.initialized RX0, Cond.code yX0_makeBlock cX0_makeBlock 3 none, Cond.fieldLink RX0 9 "AeadBox$Stream" "input" "[I", Cond.fieldLink RX0 13 "AeadBox$Stream" "block" "[I", Cond.methodLink RX0 20 yX0_doubleRound, Cond.instanceMethod yX0_doubleRound, Cond.selects RX0 yX0_doubleRound yX0_doubleRound, Cond.code yX0_doubleRound cX0_doubleRound 1 none, Cond.methodLink RX0 23 yX0_quarterRound]
def wsX2_begin_r2 : List Cond := [Cond.instanceMethod yX0_quarterRound, Cond.selects RX0 yX0_quarterRound yX0_quarterRound, Cond.code yX0_quarterRound cX0_quarterRound 5 none, Cond.methodLink RX0 27 yX0_addAndTurn, Cond.instanceMethod yX0_addAndTurn, Cond.selects RX0 yX0_addAndTurn yX0_addAndTurn, Cond.code yX0_addAndTurn cX0_addAndTurn 6 none, Cond.methodLink RX2 66 yX1_start, Cond.instanceMethod yX1_start, Cond.selects RX1 yX1_start yX1_start, Cond.initialized RX1, Cond.code yX1_start cX1_start 3 none, Cond.fieldLink RX1 9 "AeadBox$TagMaker" "factor" "[I", Cond.fieldLink RX1 13 "AeadBox$TagMaker" "addend" "[I", Cond.fieldLink RX1 16 "AeadBox$TagMaker" "hash" "[I", Cond.fieldLink RX1 25 "AeadBox$TagMaker" "taken" "I", Cond.methodLink RX1 29 yX0_blockByte, Cond.instanceMethod yX0_blockByte, Cond.selects RX0 yX0_blockByte yX0_blockByte, Cond.code yX0_blockByte cX0_blockByte 2 (some .int), Cond.methodLink RX1 35 yX1_factorMask, Cond.static yX1_factorMask, Cond.code yX1_factorMask cX1_factorMask 1 (some .int)]
def wsX2_begin : List Cond := .code yX2_begin cX2_begin 2 (some .boolean) :: ((wsX2_begin_r1 ++ wsX2_begin_r2) ++ wsX20 ++ wsX00 ++ wsX10)
def wsX2_isByte : List Cond := .code yX2_isByte cX2_isByte 1 (some .boolean) :: ([])
def wsX2_aad_r1 : List Cond := [Cond.fieldLink RX2 27 "AeadBox" "nowPhase" "I", Cond.fieldLink RX2 37 "AeadBox" "addedCount" "I", Cond.fieldLink RX2 19 "AeadBox" "tagMaker" "LAeadBox$TagMaker;", Cond.methodLink RX2 70 yX2_isByte, Cond.static yX2_isByte, Cond.initialized RX2, Cond.code yX2_isByte cX2_isByte 1 (some .boolean), Cond.methodLink RX2 74 yX1_take, Cond.instanceMethod yX1_take, Cond.selects RX1 yX1_take yX1_take, Cond.initialized RX1, Cond.code yX1_take cX1_take 2 none, Cond.fieldLink RX1 16 "AeadBox$TagMaker" "hash" "[I", Cond.fieldLink RX1 25 "AeadBox$TagMaker" "taken" "I", Cond.methodLink RX1 38 yX1_endChunk, Cond.instanceMethod yX1_endChunk, Cond.selects RX1 yX1_endChunk yX1_endChunk, Cond.code yX1_endChunk cX1_endChunk 1 none, Cond.methodLink RX1 52 yX1_multiply, Cond.instanceMethod yX1_multiply, Cond.selects RX1 yX1_multiply yX1_multiply, Cond.code yX1_multiply cX1_multiply 4 none, Cond.fieldLink RX1 9 "AeadBox$TagMaker" "factor" "[I", Cond.fieldLink RX1 19 "AeadBox$TagMaker" "products" "[I"]
def wsX2_aad_r2 : List Cond := [Cond.methodLink RX1 55 yX1_carryProducts, Cond.instanceMethod yX1_carryProducts, Cond.selects RX1 yX1_carryProducts yX1_carryProducts, Cond.code yX1_carryProducts cX1_carryProducts 3 none, Cond.methodLink RX1 49 yX1_addSmall, Cond.instanceMethod yX1_addSmall, Cond.selects RX1 yX1_addSmall yX1_addSmall, Cond.code yX1_addSmall cX1_addSmall 4 none]
def wsX2_aad : List Cond := .code yX2_aad cX2_aad 2 (some .boolean) :: ((wsX2_aad_r1 ++ wsX2_aad_r2) ++ wsX20 ++ wsX10)
def wsX2_takesData : List Cond := .code yX2_takesData cX2_takesData 1 (some .boolean) :: ([.fieldLink RX2 27 "AeadBox" "nowPhase" "I"] ++ wsX20)
def wsX2_nextStreamByte_r1 : List Cond := [Cond.fieldLink RX2 34 "AeadBox" "dataCount" "I", Cond.fieldLink RX2 10 "AeadBox" "stream" "LAeadBox$Stream;", Cond.methodLink RX2 62 yX0_makeBlock, Cond.instanceMethod yX0_makeBlock, Cond.selects RX0 yX0_makeBlock yX0_makeBlock, Cond.initialized RX0, Cond.code yX0_makeBlock cX0_makeBlock 3 none, Cond.fieldLink RX0 9 "AeadBox$Stream" "input" "[I", Cond.fieldLink RX0 13 "AeadBox$Stream" "block" "[I", Cond.methodLink RX0 20 yX0_doubleRound, Cond.instanceMethod yX0_doubleRound, Cond.selects RX0 yX0_doubleRound yX0_doubleRound, Cond.code yX0_doubleRound cX0_doubleRound 1 none, Cond.methodLink RX0 23 yX0_quarterRound, Cond.instanceMethod yX0_quarterRound, Cond.selects RX0 yX0_quarterRound yX0_quarterRound, Cond.code yX0_quarterRound cX0_quarterRound 5 none, Cond.methodLink RX0 27 yX0_addAndTurn, Cond.instanceMethod yX0_addAndTurn, Cond.selects RX0 yX0_addAndTurn yX0_addAndTurn, Cond.code yX0_addAndTurn cX0_addAndTurn 6 none, Cond.methodLink RX2 110 yX0_blockByte, Cond.instanceMethod yX0_blockByte, Cond.selects RX0 yX0_blockByte yX0_blockByte]
def wsX2_nextStreamByte_r2 : List Cond := [Cond.code yX0_blockByte cX0_blockByte 2 (some .int)]
def wsX2_nextStreamByte : List Cond := .code yX2_nextStreamByte cX2_nextStreamByte 2 (some .int) :: ((wsX2_nextStreamByte_r1 ++ wsX2_nextStreamByte_r2) ++ wsX20 ++ wsX00)
def wsX2_isSealing : List Cond := .code yX2_isSealing cX2_isSealing 1 (some .boolean) :: ([.fieldLink RX2 31 "AeadBox" "direction" "I"] ++ wsX20)
def wsX2_data_r1 : List Cond := [Cond.fieldLink RX2 34 "AeadBox" "dataCount" "I", Cond.fieldLink RX2 49 "AeadBox" "results" "[I", Cond.fieldLink RX2 27 "AeadBox" "nowPhase" "I", Cond.fieldLink RX2 19 "AeadBox" "tagMaker" "LAeadBox$TagMaker;", Cond.methodLink RX2 77 yX2_takesData, Cond.instanceMethod yX2_takesData, Cond.selects RX2 yX2_takesData yX2_takesData, Cond.initialized RX2, Cond.code yX2_takesData cX2_takesData 1 (some .boolean), Cond.methodLink RX2 70 yX2_isByte, Cond.static yX2_isByte, Cond.code yX2_isByte cX2_isByte 1 (some .boolean), Cond.methodLink RX2 81 yX1_fillUp, Cond.instanceMethod yX1_fillUp, Cond.selects RX1 yX1_fillUp yX1_fillUp, Cond.initialized RX1, Cond.code yX1_fillUp cX1_fillUp 1 none, Cond.fieldLink RX1 25 "AeadBox$TagMaker" "taken" "I", Cond.methodLink RX1 38 yX1_endChunk, Cond.instanceMethod yX1_endChunk, Cond.selects RX1 yX1_endChunk yX1_endChunk, Cond.code yX1_endChunk cX1_endChunk 1 none, Cond.fieldLink RX1 16 "AeadBox$TagMaker" "hash" "[I", Cond.methodLink RX1 52 yX1_multiply]
def wsX2_data_r2 : List Cond := [Cond.instanceMethod yX1_multiply, Cond.selects RX1 yX1_multiply yX1_multiply, Cond.code yX1_multiply cX1_multiply 4 none, Cond.fieldLink RX1 9 "AeadBox$TagMaker" "factor" "[I", Cond.fieldLink RX1 19 "AeadBox$TagMaker" "products" "[I", Cond.methodLink RX1 55 yX1_carryProducts, Cond.instanceMethod yX1_carryProducts, Cond.selects RX1 yX1_carryProducts yX1_carryProducts, Cond.code yX1_carryProducts cX1_carryProducts 3 none, Cond.methodLink RX1 49 yX1_addSmall, Cond.instanceMethod yX1_addSmall, Cond.selects RX1 yX1_addSmall yX1_addSmall, Cond.code yX1_addSmall cX1_addSmall 4 none, Cond.methodLink RX2 84 yX2_nextStreamByte, Cond.instanceMethod yX2_nextStreamByte, Cond.selects RX2 yX2_nextStreamByte yX2_nextStreamByte, Cond.code yX2_nextStreamByte cX2_nextStreamByte 2 (some .int), Cond.fieldLink RX2 10 "AeadBox" "stream" "LAeadBox$Stream;", Cond.methodLink RX2 62 yX0_makeBlock, Cond.instanceMethod yX0_makeBlock, Cond.selects RX0 yX0_makeBlock yX0_makeBlock, Cond.initialized RX0, Cond.code yX0_makeBlock cX0_makeBlock 3 none, Cond.fieldLink RX0 9 "AeadBox$Stream" "input" "[I"]
def wsX2_data_r3 : List Cond := [Cond.fieldLink RX0 13 "AeadBox$Stream" "block" "[I", Cond.methodLink RX0 20 yX0_doubleRound, Cond.instanceMethod yX0_doubleRound, Cond.selects RX0 yX0_doubleRound yX0_doubleRound, Cond.code yX0_doubleRound cX0_doubleRound 1 none, Cond.methodLink RX0 23 yX0_quarterRound, Cond.instanceMethod yX0_quarterRound, Cond.selects RX0 yX0_quarterRound yX0_quarterRound, Cond.code yX0_quarterRound cX0_quarterRound 5 none, Cond.methodLink RX0 27 yX0_addAndTurn, Cond.instanceMethod yX0_addAndTurn, Cond.selects RX0 yX0_addAndTurn yX0_addAndTurn, Cond.code yX0_addAndTurn cX0_addAndTurn 6 none, Cond.methodLink RX2 110 yX0_blockByte, Cond.instanceMethod yX0_blockByte, Cond.selects RX0 yX0_blockByte yX0_blockByte, Cond.code yX0_blockByte cX0_blockByte 2 (some .int), Cond.methodLink RX2 88 yX2_isSealing, Cond.instanceMethod yX2_isSealing, Cond.selects RX2 yX2_isSealing yX2_isSealing, Cond.code yX2_isSealing cX2_isSealing 1 (some .boolean), Cond.fieldLink RX2 31 "AeadBox" "direction" "I", Cond.methodLink RX2 74 yX1_take, Cond.instanceMethod yX1_take]
def wsX2_data_r4 : List Cond := [Cond.selects RX1 yX1_take yX1_take, Cond.code yX1_take cX1_take 2 none]
def wsX2_data : List Cond := .code yX2_data cX2_data 3 (some .int) :: ((wsX2_data_r1 ++ (wsX2_data_r2 ++ (wsX2_data_r3 ++ wsX2_data_r4))) ++ wsX20 ++ wsX10 ++ wsX00)
def wsX2_finish_r1 : List Cond := [Cond.fieldLink RX2 19 "AeadBox" "tagMaker" "LAeadBox$TagMaker;", Cond.fieldLink RX2 37 "AeadBox" "addedCount" "I", Cond.fieldLink RX2 34 "AeadBox" "dataCount" "I", Cond.fieldLink RX2 27 "AeadBox" "nowPhase" "I", Cond.methodLink RX2 77 yX2_takesData, Cond.instanceMethod yX2_takesData, Cond.selects RX2 yX2_takesData yX2_takesData, Cond.initialized RX2, Cond.code yX2_takesData cX2_takesData 1 (some .boolean), Cond.methodLink RX2 81 yX1_fillUp, Cond.instanceMethod yX1_fillUp, Cond.selects RX1 yX1_fillUp yX1_fillUp, Cond.initialized RX1, Cond.code yX1_fillUp cX1_fillUp 1 none, Cond.fieldLink RX1 25 "AeadBox$TagMaker" "taken" "I", Cond.methodLink RX1 38 yX1_endChunk, Cond.instanceMethod yX1_endChunk, Cond.selects RX1 yX1_endChunk yX1_endChunk, Cond.code yX1_endChunk cX1_endChunk 1 none, Cond.fieldLink RX1 16 "AeadBox$TagMaker" "hash" "[I", Cond.methodLink RX1 52 yX1_multiply, Cond.instanceMethod yX1_multiply, Cond.selects RX1 yX1_multiply yX1_multiply, Cond.code yX1_multiply cX1_multiply 4 none]
def wsX2_finish_r2 : List Cond := [Cond.fieldLink RX1 9 "AeadBox$TagMaker" "factor" "[I", Cond.fieldLink RX1 19 "AeadBox$TagMaker" "products" "[I", Cond.methodLink RX1 55 yX1_carryProducts, Cond.instanceMethod yX1_carryProducts, Cond.selects RX1 yX1_carryProducts yX1_carryProducts, Cond.code yX1_carryProducts cX1_carryProducts 3 none, Cond.methodLink RX1 49 yX1_addSmall, Cond.instanceMethod yX1_addSmall, Cond.selects RX1 yX1_addSmall yX1_addSmall, Cond.code yX1_addSmall cX1_addSmall 4 none, Cond.methodLink RX2 91 yX1_takeCount, Cond.instanceMethod yX1_takeCount, Cond.selects RX1 yX1_takeCount yX1_takeCount, Cond.code yX1_takeCount cX1_takeCount 3 none, Cond.methodLink RX1 41 yX1_take, Cond.instanceMethod yX1_take, Cond.selects RX1 yX1_take yX1_take, Cond.code yX1_take cX1_take 2 none, Cond.methodLink RX2 94 yX1_close, Cond.instanceMethod yX1_close, Cond.selects RX1 yX1_close yX1_close, Cond.code yX1_close cX1_close 3 none, Cond.fieldLink RX1 13 "AeadBox$TagMaker" "addend" "[I", Cond.fieldLink RX1 22 "AeadBox$TagMaker" "tagBytes" "[I"]
def wsX2_finish_r3 : List Cond := [Cond.methodLink RX1 45 yX1_reachesModulus, Cond.instanceMethod yX1_reachesModulus, Cond.selects RX1 yX1_reachesModulus yX1_reachesModulus, Cond.code yX1_reachesModulus cX1_reachesModulus 3 (some .boolean)]
def wsX2_finish : List Cond := .code yX2_finish cX2_finish 1 (some .boolean) :: ((wsX2_finish_r1 ++ (wsX2_finish_r2 ++ wsX2_finish_r3)) ++ wsX20 ++ wsX10)
def wsX2_isTagIndex : List Cond := .code yX2_isTagIndex cX2_isTagIndex 1 (some .boolean) :: ([])
def wsX2_expectTag : List Cond := .code yX2_expectTag cX2_expectTag 3 (some .boolean) :: ([.fieldLink RX2 27 "AeadBox" "nowPhase" "I", .fieldLink RX2 23 "AeadBox" "expectedTag" "[I", .methodLink RX2 88 yX2_isSealing, .instanceMethod yX2_isSealing, .selects RX2 yX2_isSealing yX2_isSealing, .initialized RX2, .code yX2_isSealing cX2_isSealing 1 (some .boolean), .fieldLink RX2 31 "AeadBox" "direction" "I", .methodLink RX2 97 yX2_isTagIndex, .static yX2_isTagIndex, .code yX2_isTagIndex cX2_isTagIndex 1 (some .boolean), .methodLink RX2 70 yX2_isByte, .static yX2_isByte, .code yX2_isByte cX2_isByte 1 (some .boolean)] ++ wsX20)
def wsX2_isTagAsExpected : List Cond := .code yX2_isTagAsExpected cX2_isTagAsExpected 3 (some .boolean) :: ([.fieldLink RX2 23 "AeadBox" "expectedTag" "[I", .fieldLink RX2 19 "AeadBox" "tagMaker" "LAeadBox$TagMaker;", .methodLink RX2 103 yX1_tagByte, .instanceMethod yX1_tagByte, .selects RX1 yX1_tagByte yX1_tagByte, .initialized RX1, .code yX1_tagByte cX1_tagByte 2 (some .int), .fieldLink RX1 22 "AeadBox$TagMaker" "tagBytes" "[I"] ++ wsX20 ++ wsX10)
def wsX2_verify : List Cond := .code yX2_verify cX2_verify 1 (some .boolean) :: ([.fieldLink RX2 27 "AeadBox" "nowPhase" "I", .methodLink RX2 88 yX2_isSealing, .instanceMethod yX2_isSealing, .selects RX2 yX2_isSealing yX2_isSealing, .initialized RX2, .code yX2_isSealing cX2_isSealing 1 (some .boolean), .fieldLink RX2 31 "AeadBox" "direction" "I", .methodLink RX2 100 yX2_isTagAsExpected, .instanceMethod yX2_isTagAsExpected, .selects RX2 yX2_isTagAsExpected yX2_isTagAsExpected, .code yX2_isTagAsExpected cX2_isTagAsExpected 3 (some .boolean), .fieldLink RX2 23 "AeadBox" "expectedTag" "[I", .fieldLink RX2 19 "AeadBox" "tagMaker" "LAeadBox$TagMaker;", .methodLink RX2 103 yX1_tagByte, .instanceMethod yX1_tagByte, .selects RX1 yX1_tagByte yX1_tagByte, .initialized RX1, .code yX1_tagByte cX1_tagByte 2 (some .int), .fieldLink RX1 22 "AeadBox$TagMaker" "tagBytes" "[I"] ++ wsX20 ++ wsX10)
def wsX2_tag : List Cond := .code yX2_tag cX2_tag 2 (some .int) :: ([.fieldLink RX2 27 "AeadBox" "nowPhase" "I", .fieldLink RX2 19 "AeadBox" "tagMaker" "LAeadBox$TagMaker;", .methodLink RX2 88 yX2_isSealing, .instanceMethod yX2_isSealing, .selects RX2 yX2_isSealing yX2_isSealing, .initialized RX2, .code yX2_isSealing cX2_isSealing 1 (some .boolean), .fieldLink RX2 31 "AeadBox" "direction" "I", .methodLink RX2 97 yX2_isTagIndex, .static yX2_isTagIndex, .code yX2_isTagIndex cX2_isTagIndex 1 (some .boolean), .methodLink RX2 103 yX1_tagByte, .instanceMethod yX1_tagByte, .selects RX1 yX1_tagByte yX1_tagByte, .initialized RX1, .code yX1_tagByte cX1_tagByte 2 (some .int), .fieldLink RX1 22 "AeadBox$TagMaker" "tagBytes" "[I"] ++ wsX20 ++ wsX10)
def wsX2_tellsResults : List Cond := .code yX2_tellsResults cX2_tellsResults 1 (some .boolean) :: ([.fieldLink RX2 27 "AeadBox" "nowPhase" "I", .methodLink RX2 88 yX2_isSealing, .instanceMethod yX2_isSealing, .selects RX2 yX2_isSealing yX2_isSealing, .initialized RX2, .code yX2_isSealing cX2_isSealing 1 (some .boolean), .fieldLink RX2 31 "AeadBox" "direction" "I"] ++ wsX20)
def wsX2_out : List Cond := .code yX2_out cX2_out 2 (some .int) :: ([.fieldLink RX2 34 "AeadBox" "dataCount" "I", .fieldLink RX2 49 "AeadBox" "results" "[I", .methodLink RX2 107 yX2_tellsResults, .instanceMethod yX2_tellsResults, .selects RX2 yX2_tellsResults yX2_tellsResults, .initialized RX2, .code yX2_tellsResults cX2_tellsResults 1 (some .boolean), .fieldLink RX2 27 "AeadBox" "nowPhase" "I", .methodLink RX2 88 yX2_isSealing, .instanceMethod yX2_isSealing, .selects RX2 yX2_isSealing yX2_isSealing, .code yX2_isSealing cX2_isSealing 1 (some .boolean), .fieldLink RX2 31 "AeadBox" "direction" "I"] ++ wsX20)
def wsX2_length : List Cond := .code yX2_length cX2_length 1 (some .int) :: ([.fieldLink RX2 34 "AeadBox" "dataCount" "I"] ++ wsX20)
def wsX2_added : List Cond := .code yX2_added cX2_added 1 (some .int) :: ([.fieldLink RX2 37 "AeadBox" "addedCount" "I"] ++ wsX20)
def wsX2_phase : List Cond := .code yX2_phase cX2_phase 1 (some .int) :: ([.fieldLink RX2 27 "AeadBox" "nowPhase" "I"] ++ wsX20)
def wsX2_reset : List Cond := .code yX2_reset cX2_reset 1 none :: ([.fieldLink RX2 27 "AeadBox" "nowPhase" "I"] ++ wsX20)
def wsX3_init : List Cond := .code yX3_init cX3_init 2 none :: ([.methodLink RX3 1 objectInit, .instanceMethod objectInit, .code objectInit ⟨#[0xb1]⟩ 1 none, .arrayClass .int, .fieldLink RX3 7 "AeadBoxModel" "key" "[I", .fieldLink RX3 13 "AeadBoxModel" "nonce" "[I", .fieldLink RX3 16 "AeadBoxModel" "first" "[I", .fieldLink RX3 19 "AeadBoxModel" "came" "[I", .fieldLink RX3 22 "AeadBoxModel" "told" "[I", .fieldLink RX3 25 "AeadBoxModel" "expected" "[I", .fieldLink RX3 28 "AeadBoxModel" "start" "[I", .fieldLink RX3 31 "AeadBoxModel" "words" "[I", .fieldLink RX3 34 "AeadBoxModel" "hash" "[I", .fieldLink RX3 37 "AeadBoxModel" "factor" "[I", .fieldLink RX3 40 "AeadBoxModel" "product" "[I", .fieldLink RX3 43 "AeadBoxModel" "high" "[I", .fieldLink RX3 46 "AeadBoxModel" "result" "[I", .fieldLink RX3 49 "AeadBoxModel" "sixteen" "[I", .fieldLink RX3 52 "AeadBoxModel" "cap" "I"] ++ wsX30)
def wsX3_isByte : List Cond := .code yX3_isByte cX3_isByte 1 (some .boolean) :: ([])
def wsX3_up : List Cond := .code yX3_up cX3_up 2 (some .int) :: ([])
def wsX3_quarter : List Cond := .code yX3_quarter cX3_quarter 5 none :: ([.fieldLink RX3 31 "AeadBoxModel" "words" "[I", .methodLink RX3 59 yX3_up, .static yX3_up, .initialized RX3, .code yX3_up cX3_up 2 (some .int)] ++ wsX30)
def wsX3_block : List Cond := .code yX3_block cX3_block 4 none :: ([.fieldLink RX3 28 "AeadBoxModel" "start" "[I", .constant RX3 63 (1634760805), .constant RX3 64 (857760878), .constant RX3 65 (2036477234), .constant RX3 66 (1797285236), .fieldLink RX3 7 "AeadBoxModel" "key" "[I", .fieldLink RX3 13 "AeadBoxModel" "nonce" "[I", .fieldLink RX3 31 "AeadBoxModel" "words" "[I", .methodLink RX3 67 yX3_quarter, .instanceMethod yX3_quarter, .selects RX3 yX3_quarter yX3_quarter, .initialized RX3, .code yX3_quarter cX3_quarter 5 none, .methodLink RX3 59 yX3_up, .static yX3_up, .code yX3_up cX3_up 2 (some .int)] ++ wsX30)
def wsX3_byteOf : List Cond := .code yX3_byteOf cX3_byteOf 2 (some .int) :: ([.fieldLink RX3 31 "AeadBoxModel" "words" "[I"] ++ wsX30)
def wsX3_carry : List Cond := .code yX3_carry cX3_carry 3 none :: ([.fieldLink RX3 34 "AeadBoxModel" "hash" "[I"] ++ wsX30)
def wsX3_isAbove : List Cond := .code yX3_isAbove cX3_isAbove 3 (some .boolean) :: ([.fieldLink RX3 34 "AeadBoxModel" "hash" "[I"] ++ wsX30)
def wsX3_rest : List Cond := .code yX3_rest cX3_rest 4 none :: ([.fieldLink RX3 34 "AeadBoxModel" "hash" "[I", .fieldLink RX3 43 "AeadBoxModel" "high" "[I", .methodLink RX3 71 yX3_carry, .instanceMethod yX3_carry, .selects RX3 yX3_carry yX3_carry, .initialized RX3, .code yX3_carry cX3_carry 3 none, .methodLink RX3 74 yX3_isAbove, .instanceMethod yX3_isAbove, .selects RX3 yX3_isAbove yX3_isAbove, .code yX3_isAbove cX3_isAbove 3 (some .boolean)] ++ wsX30)
def wsX3_take : List Cond := .code yX3_take cX3_take 3 none :: ([.fieldLink RX3 34 "AeadBoxModel" "hash" "[I", .fieldLink RX3 49 "AeadBoxModel" "sixteen" "[I", .fieldLink RX3 40 "AeadBoxModel" "product" "[I", .fieldLink RX3 37 "AeadBoxModel" "factor" "[I", .methodLink RX3 71 yX3_carry, .instanceMethod yX3_carry, .selects RX3 yX3_carry yX3_carry, .initialized RX3, .code yX3_carry cX3_carry 3 none, .methodLink RX3 78 yX3_rest, .instanceMethod yX3_rest, .selects RX3 yX3_rest yX3_rest, .code yX3_rest cX3_rest 4 none, .fieldLink RX3 43 "AeadBoxModel" "high" "[I", .methodLink RX3 74 yX3_isAbove, .instanceMethod yX3_isAbove, .selects RX3 yX3_isAbove yX3_isAbove, .code yX3_isAbove cX3_isAbove 3 (some .boolean)] ++ wsX30)
def wsX3_tag0_r1 : List Cond := [Cond.fieldLink RX3 37 "AeadBoxModel" "factor" "[I", Cond.fieldLink RX3 46 "AeadBoxModel" "result" "[I", Cond.fieldLink RX3 34 "AeadBoxModel" "hash" "[I", Cond.fieldLink RX3 89 "AeadBoxModel" "firstCount" "I", Cond.fieldLink RX3 49 "AeadBoxModel" "sixteen" "[I", Cond.fieldLink RX3 16 "AeadBoxModel" "first" "[I", Cond.fieldLink RX3 95 "AeadBoxModel" "count" "I", Cond.fieldLink RX3 98 "AeadBoxModel" "opening" "Z", Cond.fieldLink RX3 19 "AeadBoxModel" "came" "[I", Cond.fieldLink RX3 22 "AeadBoxModel" "told" "[I", Cond.methodLink RX3 81 yX3_block, Cond.instanceMethod yX3_block, Cond.selects RX3 yX3_block yX3_block, Cond.initialized RX3, Cond.code yX3_block cX3_block 4 none, Cond.fieldLink RX3 28 "AeadBoxModel" "start" "[I", Cond.constant RX3 63 (1634760805), Cond.constant RX3 64 (857760878), Cond.constant RX3 65 (2036477234), Cond.constant RX3 66 (1797285236), Cond.fieldLink RX3 7 "AeadBoxModel" "key" "[I", Cond.fieldLink RX3 13 "AeadBoxModel" "nonce" "[I", Cond.fieldLink RX3 31 "AeadBoxModel" "words" "[I", Cond.methodLink RX3 67 yX3_quarter]
def wsX3_tag0_r2 : List Cond := [Cond.instanceMethod yX3_quarter, Cond.selects RX3 yX3_quarter yX3_quarter, Cond.code yX3_quarter cX3_quarter 5 none, Cond.methodLink RX3 59 yX3_up, Cond.static yX3_up, Cond.code yX3_up cX3_up 2 (some .int), Cond.methodLink RX3 85 yX3_byteOf, Cond.instanceMethod yX3_byteOf, Cond.selects RX3 yX3_byteOf yX3_byteOf, Cond.code yX3_byteOf cX3_byteOf 2 (some .int), Cond.methodLink RX3 92 yX3_take, Cond.instanceMethod yX3_take, Cond.selects RX3 yX3_take yX3_take, Cond.code yX3_take cX3_take 3 none, Cond.fieldLink RX3 40 "AeadBoxModel" "product" "[I", Cond.methodLink RX3 71 yX3_carry, Cond.instanceMethod yX3_carry, Cond.selects RX3 yX3_carry yX3_carry, Cond.code yX3_carry cX3_carry 3 none, Cond.methodLink RX3 78 yX3_rest, Cond.instanceMethod yX3_rest, Cond.selects RX3 yX3_rest yX3_rest, Cond.code yX3_rest cX3_rest 4 none, Cond.fieldLink RX3 43 "AeadBoxModel" "high" "[I"]
def wsX3_tag0_r3 : List Cond := [Cond.methodLink RX3 74 yX3_isAbove, Cond.instanceMethod yX3_isAbove, Cond.selects RX3 yX3_isAbove yX3_isAbove, Cond.code yX3_isAbove cX3_isAbove 3 (some .boolean)]
def wsX3_tag0 : List Cond := .code yX3_tag0 cX3_tag0 3 none :: ((wsX3_tag0_r1 ++ (wsX3_tag0_r2 ++ wsX3_tag0_r3)) ++ wsX30)
def wsX3_setKeyWord : List Cond := .code yX3_setKeyWord cX3_setKeyWord 3 (some .boolean) :: ([.fieldLink RX3 56 "AeadBoxModel" "code" "I", .fieldLink RX3 102 "AeadBoxModel" "phase" "I", .fieldLink RX3 7 "AeadBoxModel" "key" "[I"] ++ wsX30)
def wsX3_setNonceWord : List Cond := .code yX3_setNonceWord cX3_setNonceWord 3 (some .boolean) :: ([.fieldLink RX3 56 "AeadBoxModel" "code" "I", .fieldLink RX3 102 "AeadBoxModel" "phase" "I", .fieldLink RX3 13 "AeadBoxModel" "nonce" "[I"] ++ wsX30)
def wsX3_begin : List Cond := .code yX3_begin cX3_begin 3 (some .boolean) :: ([.fieldLink RX3 56 "AeadBoxModel" "code" "I", .fieldLink RX3 102 "AeadBoxModel" "phase" "I", .fieldLink RX3 98 "AeadBoxModel" "opening" "Z", .fieldLink RX3 89 "AeadBoxModel" "firstCount" "I", .fieldLink RX3 95 "AeadBoxModel" "count" "I", .fieldLink RX3 25 "AeadBoxModel" "expected" "[I"] ++ wsX30)
def wsX3_aad : List Cond := .code yX3_aad cX3_aad 2 (some .boolean) :: ([.fieldLink RX3 56 "AeadBoxModel" "code" "I", .fieldLink RX3 102 "AeadBoxModel" "phase" "I", .fieldLink RX3 89 "AeadBoxModel" "firstCount" "I", .fieldLink RX3 16 "AeadBoxModel" "first" "[I", .methodLink RX3 105 yX3_isByte, .static yX3_isByte, .initialized RX3, .code yX3_isByte cX3_isByte 1 (some .boolean)] ++ wsX30)
def wsX3_data_r1 : List Cond := [Cond.fieldLink RX3 56 "AeadBoxModel" "code" "I", Cond.fieldLink RX3 102 "AeadBoxModel" "phase" "I", Cond.fieldLink RX3 95 "AeadBoxModel" "count" "I", Cond.fieldLink RX3 52 "AeadBoxModel" "cap" "I", Cond.fieldLink RX3 19 "AeadBoxModel" "came" "[I", Cond.fieldLink RX3 22 "AeadBoxModel" "told" "[I", Cond.fieldLink RX3 98 "AeadBoxModel" "opening" "Z", Cond.methodLink RX3 105 yX3_isByte, Cond.static yX3_isByte, Cond.initialized RX3, Cond.code yX3_isByte cX3_isByte 1 (some .boolean), Cond.methodLink RX3 81 yX3_block, Cond.instanceMethod yX3_block, Cond.selects RX3 yX3_block yX3_block, Cond.code yX3_block cX3_block 4 none, Cond.fieldLink RX3 28 "AeadBoxModel" "start" "[I", Cond.constant RX3 63 (1634760805), Cond.constant RX3 64 (857760878), Cond.constant RX3 65 (2036477234), Cond.constant RX3 66 (1797285236), Cond.fieldLink RX3 7 "AeadBoxModel" "key" "[I", Cond.fieldLink RX3 13 "AeadBoxModel" "nonce" "[I", Cond.fieldLink RX3 31 "AeadBoxModel" "words" "[I", Cond.methodLink RX3 67 yX3_quarter]
def wsX3_data_r2 : List Cond := [Cond.instanceMethod yX3_quarter, Cond.selects RX3 yX3_quarter yX3_quarter, Cond.code yX3_quarter cX3_quarter 5 none, Cond.methodLink RX3 59 yX3_up, Cond.static yX3_up, Cond.code yX3_up cX3_up 2 (some .int), Cond.methodLink RX3 85 yX3_byteOf, Cond.instanceMethod yX3_byteOf, Cond.selects RX3 yX3_byteOf yX3_byteOf, Cond.code yX3_byteOf cX3_byteOf 2 (some .int)]
def wsX3_data : List Cond := .code yX3_data cX3_data 2 (some .int) :: ((wsX3_data_r1 ++ wsX3_data_r2) ++ wsX30)
def wsX3_finish : List Cond := .code yX3_finish cX3_finish 1 (some .boolean) :: ([.fieldLink RX3 56 "AeadBoxModel" "code" "I", .fieldLink RX3 102 "AeadBoxModel" "phase" "I"] ++ wsX30)
def wsX3_isPlace : List Cond := .code yX3_isPlace cX3_isPlace 1 (some .boolean) :: ([])
def wsX3_expectTag : List Cond := .code yX3_expectTag cX3_expectTag 3 (some .boolean) :: ([.fieldLink RX3 56 "AeadBoxModel" "code" "I", .fieldLink RX3 102 "AeadBoxModel" "phase" "I", .fieldLink RX3 98 "AeadBoxModel" "opening" "Z", .fieldLink RX3 25 "AeadBoxModel" "expected" "[I", .methodLink RX3 109 yX3_isPlace, .static yX3_isPlace, .initialized RX3, .code yX3_isPlace cX3_isPlace 1 (some .boolean), .methodLink RX3 105 yX3_isByte, .static yX3_isByte, .code yX3_isByte cX3_isByte 1 (some .boolean)] ++ wsX30)
def wsX3_verify_r1 : List Cond := [Cond.fieldLink RX3 56 "AeadBoxModel" "code" "I", Cond.fieldLink RX3 102 "AeadBoxModel" "phase" "I", Cond.fieldLink RX3 98 "AeadBoxModel" "opening" "Z", Cond.fieldLink RX3 46 "AeadBoxModel" "result" "[I", Cond.fieldLink RX3 25 "AeadBoxModel" "expected" "[I", Cond.methodLink RX3 112 yX3_tag0, Cond.instanceMethod yX3_tag0, Cond.selects RX3 yX3_tag0 yX3_tag0, Cond.initialized RX3, Cond.code yX3_tag0 cX3_tag0 3 none, Cond.fieldLink RX3 37 "AeadBoxModel" "factor" "[I", Cond.fieldLink RX3 34 "AeadBoxModel" "hash" "[I", Cond.fieldLink RX3 89 "AeadBoxModel" "firstCount" "I", Cond.fieldLink RX3 49 "AeadBoxModel" "sixteen" "[I", Cond.fieldLink RX3 16 "AeadBoxModel" "first" "[I", Cond.fieldLink RX3 95 "AeadBoxModel" "count" "I", Cond.fieldLink RX3 19 "AeadBoxModel" "came" "[I", Cond.fieldLink RX3 22 "AeadBoxModel" "told" "[I", Cond.methodLink RX3 81 yX3_block, Cond.instanceMethod yX3_block, Cond.selects RX3 yX3_block yX3_block, Cond.code yX3_block cX3_block 4 none, Cond.fieldLink RX3 28 "AeadBoxModel" "start" "[I", Cond.constant RX3 63 (1634760805)]
def wsX3_verify_r2 : List Cond := [Cond.constant RX3 64 (857760878), Cond.constant RX3 65 (2036477234), Cond.constant RX3 66 (1797285236), Cond.fieldLink RX3 7 "AeadBoxModel" "key" "[I", Cond.fieldLink RX3 13 "AeadBoxModel" "nonce" "[I", Cond.fieldLink RX3 31 "AeadBoxModel" "words" "[I", Cond.methodLink RX3 67 yX3_quarter, Cond.instanceMethod yX3_quarter, Cond.selects RX3 yX3_quarter yX3_quarter, Cond.code yX3_quarter cX3_quarter 5 none, Cond.methodLink RX3 59 yX3_up, Cond.static yX3_up, Cond.code yX3_up cX3_up 2 (some .int), Cond.methodLink RX3 85 yX3_byteOf, Cond.instanceMethod yX3_byteOf, Cond.selects RX3 yX3_byteOf yX3_byteOf, Cond.code yX3_byteOf cX3_byteOf 2 (some .int), Cond.methodLink RX3 92 yX3_take, Cond.instanceMethod yX3_take, Cond.selects RX3 yX3_take yX3_take, Cond.code yX3_take cX3_take 3 none, Cond.fieldLink RX3 40 "AeadBoxModel" "product" "[I", Cond.methodLink RX3 71 yX3_carry, Cond.instanceMethod yX3_carry]
def wsX3_verify_r3 : List Cond := [Cond.selects RX3 yX3_carry yX3_carry, Cond.code yX3_carry cX3_carry 3 none, Cond.methodLink RX3 78 yX3_rest, Cond.instanceMethod yX3_rest, Cond.selects RX3 yX3_rest yX3_rest, Cond.code yX3_rest cX3_rest 4 none, Cond.fieldLink RX3 43 "AeadBoxModel" "high" "[I", Cond.methodLink RX3 74 yX3_isAbove, Cond.instanceMethod yX3_isAbove, Cond.selects RX3 yX3_isAbove yX3_isAbove, Cond.code yX3_isAbove cX3_isAbove 3 (some .boolean)]
def wsX3_verify : List Cond := .code yX3_verify cX3_verify 2 (some .boolean) :: ((wsX3_verify_r1 ++ (wsX3_verify_r2 ++ wsX3_verify_r3)) ++ wsX30)
def wsX3_tag_r1 : List Cond := [Cond.fieldLink RX3 56 "AeadBoxModel" "code" "I", Cond.fieldLink RX3 102 "AeadBoxModel" "phase" "I", Cond.fieldLink RX3 98 "AeadBoxModel" "opening" "Z", Cond.fieldLink RX3 46 "AeadBoxModel" "result" "[I", Cond.methodLink RX3 109 yX3_isPlace, Cond.static yX3_isPlace, Cond.initialized RX3, Cond.code yX3_isPlace cX3_isPlace 1 (some .boolean), Cond.methodLink RX3 112 yX3_tag0, Cond.instanceMethod yX3_tag0, Cond.selects RX3 yX3_tag0 yX3_tag0, Cond.code yX3_tag0 cX3_tag0 3 none, Cond.fieldLink RX3 37 "AeadBoxModel" "factor" "[I", Cond.fieldLink RX3 34 "AeadBoxModel" "hash" "[I", Cond.fieldLink RX3 89 "AeadBoxModel" "firstCount" "I", Cond.fieldLink RX3 49 "AeadBoxModel" "sixteen" "[I", Cond.fieldLink RX3 16 "AeadBoxModel" "first" "[I", Cond.fieldLink RX3 95 "AeadBoxModel" "count" "I", Cond.fieldLink RX3 19 "AeadBoxModel" "came" "[I", Cond.fieldLink RX3 22 "AeadBoxModel" "told" "[I", Cond.methodLink RX3 81 yX3_block, Cond.instanceMethod yX3_block, Cond.selects RX3 yX3_block yX3_block, Cond.code yX3_block cX3_block 4 none]
def wsX3_tag_r2 : List Cond := [Cond.fieldLink RX3 28 "AeadBoxModel" "start" "[I", Cond.constant RX3 63 (1634760805), Cond.constant RX3 64 (857760878), Cond.constant RX3 65 (2036477234), Cond.constant RX3 66 (1797285236), Cond.fieldLink RX3 7 "AeadBoxModel" "key" "[I", Cond.fieldLink RX3 13 "AeadBoxModel" "nonce" "[I", Cond.fieldLink RX3 31 "AeadBoxModel" "words" "[I", Cond.methodLink RX3 67 yX3_quarter, Cond.instanceMethod yX3_quarter, Cond.selects RX3 yX3_quarter yX3_quarter, Cond.code yX3_quarter cX3_quarter 5 none, Cond.methodLink RX3 59 yX3_up, Cond.static yX3_up, Cond.code yX3_up cX3_up 2 (some .int), Cond.methodLink RX3 85 yX3_byteOf, Cond.instanceMethod yX3_byteOf, Cond.selects RX3 yX3_byteOf yX3_byteOf, Cond.code yX3_byteOf cX3_byteOf 2 (some .int), Cond.methodLink RX3 92 yX3_take, Cond.instanceMethod yX3_take, Cond.selects RX3 yX3_take yX3_take, Cond.code yX3_take cX3_take 3 none, Cond.fieldLink RX3 40 "AeadBoxModel" "product" "[I"]
def wsX3_tag_r3 : List Cond := [Cond.methodLink RX3 71 yX3_carry, Cond.instanceMethod yX3_carry, Cond.selects RX3 yX3_carry yX3_carry, Cond.code yX3_carry cX3_carry 3 none, Cond.methodLink RX3 78 yX3_rest, Cond.instanceMethod yX3_rest, Cond.selects RX3 yX3_rest yX3_rest, Cond.code yX3_rest cX3_rest 4 none, Cond.fieldLink RX3 43 "AeadBoxModel" "high" "[I", Cond.methodLink RX3 74 yX3_isAbove, Cond.instanceMethod yX3_isAbove, Cond.selects RX3 yX3_isAbove yX3_isAbove, Cond.code yX3_isAbove cX3_isAbove 3 (some .boolean)]
def wsX3_tag : List Cond := .code yX3_tag cX3_tag 2 (some .int) :: ((wsX3_tag_r1 ++ (wsX3_tag_r2 ++ wsX3_tag_r3)) ++ wsX30)
def wsX3_out : List Cond := .code yX3_out cX3_out 3 (some .int) :: ([.fieldLink RX3 56 "AeadBoxModel" "code" "I", .fieldLink RX3 102 "AeadBoxModel" "phase" "I", .fieldLink RX3 98 "AeadBoxModel" "opening" "Z", .fieldLink RX3 95 "AeadBoxModel" "count" "I", .fieldLink RX3 22 "AeadBoxModel" "told" "[I"] ++ wsX30)
def wsX3_length : List Cond := .code yX3_length cX3_length 1 (some .int) :: ([.fieldLink RX3 56 "AeadBoxModel" "code" "I", .fieldLink RX3 95 "AeadBoxModel" "count" "I"] ++ wsX30)
def wsX3_added : List Cond := .code yX3_added cX3_added 1 (some .int) :: ([.fieldLink RX3 56 "AeadBoxModel" "code" "I", .fieldLink RX3 89 "AeadBoxModel" "firstCount" "I"] ++ wsX30)
def wsX3_phase : List Cond := .code yX3_phase cX3_phase 1 (some .int) :: ([.fieldLink RX3 56 "AeadBoxModel" "code" "I", .fieldLink RX3 102 "AeadBoxModel" "phase" "I"] ++ wsX30)
def wsX3_reset : List Cond := .code yX3_reset cX3_reset 1 none :: ([.fieldLink RX3 56 "AeadBoxModel" "code" "I", .fieldLink RX3 102 "AeadBoxModel" "phase" "I"] ++ wsX30)
def wsJ9_max_7cf53 : List Cond := .code yJ9_max_7cf53 cJ9_max_7cf53 2 (some .int) :: ([])
def wsJ9_min_7cf53 : List Cond := .code yJ9_min_7cf53 cJ9_min_7cf53 2 (some .int) :: ([])
def wsL_cell : List Cond := .code yL_cell cL_cell 2 (some .int) :: ([])
def wsL_law_r1 : List Cond := [Cond.classLink RL 7 RX2, Cond.instantiable RX2 8, Cond.initialized RX2, Cond.classLink RL 18 RX3, Cond.instantiable RX3 20, Cond.initialized RX3, Cond.methodLink RL 9 yL_cell, Cond.static yL_cell, Cond.initialized RL, Cond.code yL_cell cL_cell 2 (some .int), Cond.methodLink RL 15 yX2_init, Cond.instanceMethod yX2_init, Cond.code yX2_init cX2_init 2 none, Cond.methodLink RX2 1 objectInit, Cond.instanceMethod objectInit, Cond.code objectInit ⟨#[0xb1]⟩ 1 none, Cond.classLink RX2 7 RX0, Cond.instantiable RX0 2, Cond.initialized RX0, Cond.fieldLink RX2 10 "AeadBox" "stream" "LAeadBox$Stream;", Cond.classLink RX2 16 RX1, Cond.instantiable RX1 6, Cond.initialized RX1, Cond.fieldLink RX2 19 "AeadBox" "tagMaker" "LAeadBox$TagMaker;"]
def wsL_law_r2 : List Cond := [Cond.arrayClass .int, Cond.fieldLink RX2 23 "AeadBox" "expectedTag" "[I", Cond.fieldLink RX2 27 "AeadBox" "nowPhase" "I", Cond.fieldLink RX2 31 "AeadBox" "direction" "I", Cond.fieldLink RX2 34 "AeadBox" "dataCount" "I", Cond.fieldLink RX2 37 "AeadBox" "addedCount" "I", Cond.methodLink RX2 40 Lib.Math.min.name, Cond.static Lib.Math.min.name, Cond.initialized "java/lang/Math", Cond.code Lib.Math.min.name Lib.Math.min.code 2 (some .int), Cond.methodLink RX2 46 Lib.Math.max.name, Cond.static Lib.Math.max.name, Cond.code Lib.Math.max.name Lib.Math.max.code 2 (some .int), Cond.fieldLink RX2 49 "AeadBox" "results" "[I", Cond.methodLink RX2 9 yX0_init, Cond.instanceMethod yX0_init, Cond.code yX0_init cX0_init 1 none, Cond.methodLink RX0 1 objectInit, Cond.fieldLink RX0 9 "AeadBox$Stream" "input" "[I", Cond.fieldLink RX0 13 "AeadBox$Stream" "block" "[I", Cond.constant RX0 16 (1634760805), Cond.constant RX0 17 (857760878), Cond.constant RX0 18 (2036477234), Cond.constant RX0 19 (1797285236)]
def wsL_law_r3 : List Cond := [Cond.instanceMethod yX1_init, Cond.code yX1_init cX1_init 1 none, Cond.methodLink RX1 1 objectInit, Cond.fieldLink RX1 9 "AeadBox$TagMaker" "factor" "[I", Cond.fieldLink RX1 13 "AeadBox$TagMaker" "addend" "[I", Cond.fieldLink RX1 16 "AeadBox$TagMaker" "hash" "[I", Cond.fieldLink RX1 19 "AeadBox$TagMaker" "products" "[I", Cond.fieldLink RX1 22 "AeadBox$TagMaker" "tagBytes" "[I", Cond.fieldLink RX1 25 "AeadBox$TagMaker" "taken" "I", Cond.methodLink RL 20 yX3_init, Cond.instanceMethod yX3_init, Cond.code yX3_init cX3_init 2 none, Cond.methodLink RX3 1 objectInit, Cond.fieldLink RX3 7 "AeadBoxModel" "key" "[I", Cond.fieldLink RX3 13 "AeadBoxModel" "nonce" "[I", Cond.fieldLink RX3 16 "AeadBoxModel" "first" "[I", Cond.fieldLink RX3 19 "AeadBoxModel" "came" "[I", Cond.fieldLink RX3 22 "AeadBoxModel" "told" "[I", Cond.fieldLink RX3 25 "AeadBoxModel" "expected" "[I", Cond.fieldLink RX3 28 "AeadBoxModel" "start" "[I", Cond.fieldLink RX3 31 "AeadBoxModel" "words" "[I", Cond.fieldLink RX3 34 "AeadBoxModel" "hash" "[I", Cond.fieldLink RX3 37 "AeadBoxModel" "factor" "[I", Cond.fieldLink RX3 40 "AeadBoxModel" "product" "[I"]
def wsL_law_r4 : List Cond := [Cond.fieldLink RX3 43 "AeadBoxModel" "high" "[I", Cond.fieldLink RX3 46 "AeadBoxModel" "result" "[I", Cond.fieldLink RX3 49 "AeadBoxModel" "sixteen" "[I", Cond.fieldLink RX3 52 "AeadBoxModel" "cap" "I", Cond.methodLink RL 21 yX2_setKeyWord, Cond.instanceMethod yX2_setKeyWord, Cond.selects RX2 yX2_setKeyWord yX2_setKeyWord, Cond.code yX2_setKeyWord cX2_setKeyWord 3 (some .boolean), Cond.methodLink RX2 52 yX0_putKeyWord, Cond.instanceMethod yX0_putKeyWord, Cond.selects RX0 yX0_putKeyWord yX0_putKeyWord, Cond.code yX0_putKeyWord cX0_putKeyWord 3 none, Cond.methodLink RL 25 yX3_setKeyWord, Cond.instanceMethod yX3_setKeyWord, Cond.selects RX3 yX3_setKeyWord yX3_setKeyWord, Cond.code yX3_setKeyWord cX3_setKeyWord 3 (some .boolean), Cond.fieldLink RX3 56 "AeadBoxModel" "code" "I", Cond.fieldLink RX3 102 "AeadBoxModel" "phase" "I", Cond.methodLink RL 26 yX2_setNonceWord, Cond.instanceMethod yX2_setNonceWord, Cond.selects RX2 yX2_setNonceWord yX2_setNonceWord, Cond.code yX2_setNonceWord cX2_setNonceWord 3 (some .boolean), Cond.methodLink RX2 56 yX0_putNonceWord, Cond.instanceMethod yX0_putNonceWord]
def wsL_law_r5 : List Cond := [Cond.selects RX0 yX0_putNonceWord yX0_putNonceWord, Cond.code yX0_putNonceWord cX0_putNonceWord 3 none, Cond.methodLink RL 29 yX3_setNonceWord, Cond.instanceMethod yX3_setNonceWord, Cond.selects RX3 yX3_setNonceWord yX3_setNonceWord, Cond.code yX3_setNonceWord cX3_setNonceWord 3 (some .boolean), Cond.methodLink RL 30 yX2_begin, Cond.instanceMethod yX2_begin, Cond.selects RX2 yX2_begin yX2_begin, Cond.code yX2_begin cX2_begin 2 (some .boolean), Cond.methodLink RX2 59 yX2_clearExpectedTag, Cond.instanceMethod yX2_clearExpectedTag, Cond.selects RX2 yX2_clearExpectedTag yX2_clearExpectedTag, Cond.code yX2_clearExpectedTag cX2_clearExpectedTag 2 none, Cond.methodLink RX2 62 yX0_makeBlock, Cond.instanceMethod yX0_makeBlock, Cond.selects RX0 yX0_makeBlock yX0_makeBlock, Cond.code yX0_makeBlock cX0_makeBlock 3 none, Cond.methodLink RX0 20 yX0_doubleRound, Cond.instanceMethod yX0_doubleRound, Cond.selects RX0 yX0_doubleRound yX0_doubleRound, Cond.code yX0_doubleRound cX0_doubleRound 1 none, Cond.methodLink RX0 23 yX0_quarterRound, Cond.instanceMethod yX0_quarterRound]
def wsL_law_r6 : List Cond := [Cond.selects RX0 yX0_quarterRound yX0_quarterRound, Cond.code yX0_quarterRound cX0_quarterRound 5 none, Cond.methodLink RX0 27 yX0_addAndTurn, Cond.instanceMethod yX0_addAndTurn, Cond.selects RX0 yX0_addAndTurn yX0_addAndTurn, Cond.code yX0_addAndTurn cX0_addAndTurn 6 none, Cond.methodLink RX2 66 yX1_start, Cond.instanceMethod yX1_start, Cond.selects RX1 yX1_start yX1_start, Cond.code yX1_start cX1_start 3 none, Cond.methodLink RX1 29 yX0_blockByte, Cond.instanceMethod yX0_blockByte, Cond.selects RX0 yX0_blockByte yX0_blockByte, Cond.code yX0_blockByte cX0_blockByte 2 (some .int), Cond.methodLink RX1 35 yX1_factorMask, Cond.static yX1_factorMask, Cond.code yX1_factorMask cX1_factorMask 1 (some .int), Cond.methodLink RL 34 yX3_begin, Cond.instanceMethod yX3_begin, Cond.selects RX3 yX3_begin yX3_begin, Cond.code yX3_begin cX3_begin 3 (some .boolean), Cond.fieldLink RX3 98 "AeadBoxModel" "opening" "Z", Cond.fieldLink RX3 89 "AeadBoxModel" "firstCount" "I", Cond.fieldLink RX3 95 "AeadBoxModel" "count" "I"]
def wsL_law_r7 : List Cond := [Cond.methodLink RL 35 yX2_aad, Cond.instanceMethod yX2_aad, Cond.selects RX2 yX2_aad yX2_aad, Cond.code yX2_aad cX2_aad 2 (some .boolean), Cond.methodLink RX2 70 yX2_isByte, Cond.static yX2_isByte, Cond.code yX2_isByte cX2_isByte 1 (some .boolean), Cond.methodLink RX2 74 yX1_take, Cond.instanceMethod yX1_take, Cond.selects RX1 yX1_take yX1_take, Cond.code yX1_take cX1_take 2 none, Cond.methodLink RX1 38 yX1_endChunk, Cond.instanceMethod yX1_endChunk, Cond.selects RX1 yX1_endChunk yX1_endChunk, Cond.code yX1_endChunk cX1_endChunk 1 none, Cond.methodLink RX1 52 yX1_multiply, Cond.instanceMethod yX1_multiply, Cond.selects RX1 yX1_multiply yX1_multiply, Cond.code yX1_multiply cX1_multiply 4 none, Cond.methodLink RX1 55 yX1_carryProducts, Cond.instanceMethod yX1_carryProducts, Cond.selects RX1 yX1_carryProducts yX1_carryProducts, Cond.code yX1_carryProducts cX1_carryProducts 3 none, Cond.methodLink RX1 49 yX1_addSmall]
def wsL_law_r8 : List Cond := [Cond.instanceMethod yX1_addSmall, Cond.selects RX1 yX1_addSmall yX1_addSmall, Cond.code yX1_addSmall cX1_addSmall 4 none, Cond.methodLink RL 38 yX3_aad, Cond.instanceMethod yX3_aad, Cond.selects RX3 yX3_aad yX3_aad, Cond.code yX3_aad cX3_aad 2 (some .boolean), Cond.methodLink RX3 105 yX3_isByte, Cond.static yX3_isByte, Cond.code yX3_isByte cX3_isByte 1 (some .boolean), Cond.methodLink RL 39 yX2_data, Cond.instanceMethod yX2_data, Cond.selects RX2 yX2_data yX2_data, Cond.code yX2_data cX2_data 3 (some .int), Cond.methodLink RX2 77 yX2_takesData, Cond.instanceMethod yX2_takesData, Cond.selects RX2 yX2_takesData yX2_takesData, Cond.code yX2_takesData cX2_takesData 1 (some .boolean), Cond.methodLink RX2 81 yX1_fillUp, Cond.instanceMethod yX1_fillUp, Cond.selects RX1 yX1_fillUp yX1_fillUp, Cond.code yX1_fillUp cX1_fillUp 1 none, Cond.methodLink RX2 84 yX2_nextStreamByte, Cond.instanceMethod yX2_nextStreamByte]
def wsL_law_r9 : List Cond := [Cond.selects RX2 yX2_nextStreamByte yX2_nextStreamByte, Cond.code yX2_nextStreamByte cX2_nextStreamByte 2 (some .int), Cond.methodLink RX2 110 yX0_blockByte, Cond.methodLink RX2 88 yX2_isSealing, Cond.instanceMethod yX2_isSealing, Cond.selects RX2 yX2_isSealing yX2_isSealing, Cond.code yX2_isSealing cX2_isSealing 1 (some .boolean), Cond.methodLink RL 43 yX3_data, Cond.instanceMethod yX3_data, Cond.selects RX3 yX3_data yX3_data, Cond.code yX3_data cX3_data 2 (some .int), Cond.methodLink RX3 81 yX3_block, Cond.instanceMethod yX3_block, Cond.selects RX3 yX3_block yX3_block, Cond.code yX3_block cX3_block 4 none, Cond.constant RX3 63 (1634760805), Cond.constant RX3 64 (857760878), Cond.constant RX3 65 (2036477234), Cond.constant RX3 66 (1797285236), Cond.methodLink RX3 67 yX3_quarter, Cond.instanceMethod yX3_quarter, Cond.selects RX3 yX3_quarter yX3_quarter, Cond.code yX3_quarter cX3_quarter 5 none, Cond.methodLink RX3 59 yX3_up]
def wsL_law_r10 : List Cond := [Cond.static yX3_up, Cond.code yX3_up cX3_up 2 (some .int), Cond.methodLink RX3 85 yX3_byteOf, Cond.instanceMethod yX3_byteOf, Cond.selects RX3 yX3_byteOf yX3_byteOf, Cond.code yX3_byteOf cX3_byteOf 2 (some .int), Cond.methodLink RL 44 yX2_finish, Cond.instanceMethod yX2_finish, Cond.selects RX2 yX2_finish yX2_finish, Cond.code yX2_finish cX2_finish 1 (some .boolean), Cond.methodLink RX2 91 yX1_takeCount, Cond.instanceMethod yX1_takeCount, Cond.selects RX1 yX1_takeCount yX1_takeCount, Cond.code yX1_takeCount cX1_takeCount 3 none, Cond.methodLink RX1 41 yX1_take, Cond.methodLink RX2 94 yX1_close, Cond.instanceMethod yX1_close, Cond.selects RX1 yX1_close yX1_close, Cond.code yX1_close cX1_close 3 none, Cond.methodLink RX1 45 yX1_reachesModulus, Cond.instanceMethod yX1_reachesModulus, Cond.selects RX1 yX1_reachesModulus yX1_reachesModulus, Cond.code yX1_reachesModulus cX1_reachesModulus 3 (some .boolean), Cond.methodLink RL 48 yX3_finish]
def wsL_law_r11 : List Cond := [Cond.instanceMethod yX3_finish, Cond.selects RX3 yX3_finish yX3_finish, Cond.code yX3_finish cX3_finish 1 (some .boolean), Cond.methodLink RL 49 yX2_expectTag, Cond.instanceMethod yX2_expectTag, Cond.selects RX2 yX2_expectTag yX2_expectTag, Cond.code yX2_expectTag cX2_expectTag 3 (some .boolean), Cond.methodLink RX2 97 yX2_isTagIndex, Cond.static yX2_isTagIndex, Cond.code yX2_isTagIndex cX2_isTagIndex 1 (some .boolean), Cond.methodLink RL 52 yX3_expectTag, Cond.instanceMethod yX3_expectTag, Cond.selects RX3 yX3_expectTag yX3_expectTag, Cond.code yX3_expectTag cX3_expectTag 3 (some .boolean), Cond.methodLink RX3 109 yX3_isPlace, Cond.static yX3_isPlace, Cond.code yX3_isPlace cX3_isPlace 1 (some .boolean), Cond.methodLink RL 53 yX2_verify, Cond.instanceMethod yX2_verify, Cond.selects RX2 yX2_verify yX2_verify, Cond.code yX2_verify cX2_verify 1 (some .boolean), Cond.methodLink RX2 100 yX2_isTagAsExpected, Cond.instanceMethod yX2_isTagAsExpected, Cond.selects RX2 yX2_isTagAsExpected yX2_isTagAsExpected]
def wsL_law_r12 : List Cond := [Cond.code yX2_isTagAsExpected cX2_isTagAsExpected 3 (some .boolean), Cond.methodLink RX2 103 yX1_tagByte, Cond.instanceMethod yX1_tagByte, Cond.selects RX1 yX1_tagByte yX1_tagByte, Cond.code yX1_tagByte cX1_tagByte 2 (some .int), Cond.methodLink RL 56 yX3_verify, Cond.instanceMethod yX3_verify, Cond.selects RX3 yX3_verify yX3_verify, Cond.code yX3_verify cX3_verify 2 (some .boolean), Cond.methodLink RX3 112 yX3_tag0, Cond.instanceMethod yX3_tag0, Cond.selects RX3 yX3_tag0 yX3_tag0, Cond.code yX3_tag0 cX3_tag0 3 none, Cond.methodLink RX3 92 yX3_take, Cond.instanceMethod yX3_take, Cond.selects RX3 yX3_take yX3_take, Cond.code yX3_take cX3_take 3 none, Cond.methodLink RX3 71 yX3_carry, Cond.instanceMethod yX3_carry, Cond.selects RX3 yX3_carry yX3_carry, Cond.code yX3_carry cX3_carry 3 none, Cond.methodLink RX3 78 yX3_rest, Cond.instanceMethod yX3_rest, Cond.selects RX3 yX3_rest yX3_rest]
def wsL_law_r13 : List Cond := [Cond.code yX3_rest cX3_rest 4 none, Cond.methodLink RX3 74 yX3_isAbove, Cond.instanceMethod yX3_isAbove, Cond.selects RX3 yX3_isAbove yX3_isAbove, Cond.code yX3_isAbove cX3_isAbove 3 (some .boolean), Cond.methodLink RL 57 yX2_tag, Cond.instanceMethod yX2_tag, Cond.selects RX2 yX2_tag yX2_tag, Cond.code yX2_tag cX2_tag 2 (some .int), Cond.methodLink RL 60 yX3_tag, Cond.instanceMethod yX3_tag, Cond.selects RX3 yX3_tag yX3_tag, Cond.code yX3_tag cX3_tag 2 (some .int), Cond.methodLink RL 61 yX2_out, Cond.instanceMethod yX2_out, Cond.selects RX2 yX2_out yX2_out, Cond.code yX2_out cX2_out 2 (some .int), Cond.methodLink RX2 107 yX2_tellsResults, Cond.instanceMethod yX2_tellsResults, Cond.selects RX2 yX2_tellsResults yX2_tellsResults, Cond.code yX2_tellsResults cX2_tellsResults 1 (some .boolean), Cond.methodLink RL 64 yX3_out, Cond.instanceMethod yX3_out, Cond.selects RX3 yX3_out yX3_out]
def wsL_law_r14 : List Cond := [Cond.code yX3_out cX3_out 3 (some .int), Cond.methodLink RL 65 yX2_length, Cond.instanceMethod yX2_length, Cond.selects RX2 yX2_length yX2_length, Cond.code yX2_length cX2_length 1 (some .int), Cond.methodLink RL 69 yX3_length, Cond.instanceMethod yX3_length, Cond.selects RX3 yX3_length yX3_length, Cond.code yX3_length cX3_length 1 (some .int), Cond.methodLink RL 70 yX2_added, Cond.instanceMethod yX2_added, Cond.selects RX2 yX2_added yX2_added, Cond.code yX2_added cX2_added 1 (some .int), Cond.methodLink RL 73 yX3_added, Cond.instanceMethod yX3_added, Cond.selects RX3 yX3_added yX3_added, Cond.code yX3_added cX3_added 1 (some .int), Cond.methodLink RL 74 yX2_phase, Cond.instanceMethod yX2_phase, Cond.selects RX2 yX2_phase yX2_phase, Cond.code yX2_phase cX2_phase 1 (some .int), Cond.methodLink RL 77 yX3_phase, Cond.instanceMethod yX3_phase, Cond.selects RX3 yX3_phase yX3_phase]
def wsL_law_r15 : List Cond := [Cond.code yX3_phase cX3_phase 1 (some .int), Cond.methodLink RL 78 yX2_reset, Cond.instanceMethod yX2_reset, Cond.selects RX2 yX2_reset yX2_reset, Cond.code yX2_reset cX2_reset 1 none, Cond.methodLink RL 81 yX3_reset, Cond.instanceMethod yX3_reset, Cond.selects RX3 yX3_reset yX3_reset, Cond.code yX3_reset cX3_reset 1 none]
def wsL_law : List Cond := (wsL_law_r1 ++ (wsL_law_r2 ++ (wsL_law_r3 ++ (wsL_law_r4 ++ (wsL_law_r5 ++ (wsL_law_r6 ++ (wsL_law_r7 ++ (wsL_law_r8 ++ (wsL_law_r9 ++ (wsL_law_r10 ++ (wsL_law_r11 ++ (wsL_law_r12 ++ (wsL_law_r13 ++ (wsL_law_r14 ++ wsL_law_r15)))))))))))))) ++ wsX20 ++ wsX30 ++ wsX00 ++ wsX10 ++ ([] : List Cond)
theorem mem_places {big ws : List Cond} (ps : List Nat) (h : ws = ps.filterMap (fun i => big[i]?)) : ∀ w ∈ ws, w ∈ big := by
  intro w hw
  rw [h] at hw
  obtain ⟨i, -, hi⟩ := List.mem_filterMap.mp hw
  exact List.mem_of_getElem? hi
set_option maxRecDepth 20000 in
theorem wsL_law_r1_in : ∀ w ∈ wsL_law_r1, w ∈ lw_tbl := mem_places [28, 29, 23, 276, 277, 27, 273, 274, 22, 275, 30, 31, 32, 33, 34, 35, 36, 37, 24, 85, 54, 55, 25, 86] (by decide +kernel)
set_option maxRecDepth 20000 in
theorem wsL_law_r2_in : ∀ w ∈ wsL_law_r2, w ∈ lw_tbl := mem_places [53, 88, 89, 90, 91, 92, 79, 80, 26, 81, 82, 83, 84, 87, 38, 39, 40, 41, 46, 47, 42, 43, 44, 45] (by decide +kernel)
set_option maxRecDepth 20000 in
theorem wsL_law_r3_in : ∀ w ∈ wsL_law_r3, w ∈ lw_tbl := mem_places [57, 58, 59, 60, 61, 62, 63, 64, 65, 278, 279, 280, 281, 284, 285, 288, 290, 291, 293, 294, 295, 296, 297, 298] (by decide +kernel)
set_option maxRecDepth 20000 in
theorem wsL_law_r4_in : ∀ w ∈ wsL_law_r4, w ∈ lw_tbl := mem_places [299, 300, 301, 283, 110, 111, 112, 113, 114, 115, 116, 117, 343, 344, 345, 346, 282, 286, 118, 119, 120, 121, 122, 123] (by decide +kernel)
set_option maxRecDepth 20000 in
theorem wsL_law_r5_in : ∀ w ∈ wsL_law_r5, w ∈ lw_tbl := mem_places [124, 125, 347, 348, 349, 350, 126, 127, 128, 129, 130, 132, 0, 133, 134, 135, 136, 137, 138, 140, 1, 141, 142, 144] (by decide +kernel)
set_option maxRecDepth 20000 in
theorem wsL_law_r6_in : ∀ w ∈ wsL_law_r6, w ∈ lw_tbl := mem_places [2, 145, 146, 148, 3, 149, 150, 151, 152, 153, 154, 155, 156, 157, 158, 159, 160, 351, 352, 353, 354, 287, 289, 292] (by decide +kernel)
set_option maxRecDepth 20000 in
theorem wsL_law_r7_in : ∀ w ∈ wsL_law_r7, w ∈ lw_tbl := mem_places [161, 162, 163, 164, 165, 166, 167, 168, 169, 170, 171, 172, 174, 4, 175, 176, 178, 5, 179, 180, 182, 6, 183, 184] (by decide +kernel)
set_option maxRecDepth 20000 in
theorem wsL_law_r8_in : ∀ w ∈ wsL_law_r8, w ∈ lw_tbl := mem_places [186, 7, 187, 355, 356, 357, 358, 359, 360, 361, 188, 189, 190, 191, 192, 194, 8, 195, 196, 197, 198, 199, 200, 202] (by decide +kernel)
set_option maxRecDepth 20000 in
theorem wsL_law_r9_in : ∀ w ∈ wsL_law_r9, w ∈ lw_tbl := mem_places [9, 203, 204, 205, 207, 10, 208, 362, 363, 364, 365, 366, 368, 14, 369, 370, 371, 372, 373, 374, 376, 15, 377, 378] (by decide +kernel)
set_option maxRecDepth 20000 in
theorem wsL_law_r10_in : ∀ w ∈ wsL_law_r10, w ∈ lw_tbl := mem_places [379, 380, 381, 383, 16, 384, 209, 210, 211, 212, 213, 214, 215, 216, 217, 218, 219, 220, 221, 222, 224, 11, 225, 385] (by decide +kernel)
set_option maxRecDepth 20000 in
theorem wsL_law_r11_in : ∀ w ∈ wsL_law_r11, w ∈ lw_tbl := mem_places [386, 387, 388, 226, 227, 228, 229, 230, 231, 232, 389, 390, 391, 392, 393, 394, 395, 233, 234, 235, 236, 237, 239, 12] (by decide +kernel)
set_option maxRecDepth 20000 in
theorem wsL_law_r12_in : ∀ w ∈ wsL_law_r12, w ∈ lw_tbl := mem_places [240, 241, 242, 243, 244, 396, 397, 398, 399, 400, 402, 17, 403, 404, 406, 18, 407, 408, 410, 19, 411, 412, 414, 20] (by decide +kernel)
set_option maxRecDepth 20000 in
theorem wsL_law_r13_in : ∀ w ∈ wsL_law_r13, w ∈ lw_tbl := mem_places [415, 416, 418, 21, 419, 245, 246, 247, 248, 420, 421, 422, 423, 249, 250, 251, 252, 253, 255, 13, 256, 424, 425, 426] (by decide +kernel)
set_option maxRecDepth 20000 in
theorem wsL_law_r14_in : ∀ w ∈ wsL_law_r14, w ∈ lw_tbl := mem_places [427, 257, 258, 259, 260, 428, 429, 430, 431, 261, 262, 263, 264, 432, 433, 434, 435, 265, 266, 267, 268, 436, 437, 438] (by decide +kernel)
set_option maxRecDepth 20000 in
theorem wsL_law_r15_in : ∀ w ∈ wsL_law_r15, w ∈ lw_tbl := mem_places [439, 269, 270, 271, 272, 440, 441, 442, 443] (by decide +kernel)
set_option maxRecDepth 20000 in
theorem wsX20_in : ∀ w ∈ wsX20, w ∈ lw_tbl := mem_places [93, 95, 97, 99, 101, 103, 105, 107] (by decide +kernel)
set_option maxRecDepth 20000 in
theorem wsX30_in : ∀ w ∈ wsX30, w ∈ lw_tbl := mem_places [302, 304, 306, 308, 310, 312, 314, 316, 318, 320, 322, 324, 326, 328, 330, 332, 334, 336, 338, 340] (by decide +kernel)
set_option maxRecDepth 20000 in
theorem wsX00_in : ∀ w ∈ wsX00, w ∈ lw_tbl := mem_places [48, 50] (by decide +kernel)
set_option maxRecDepth 20000 in
theorem wsX10_in : ∀ w ∈ wsX10, w ∈ lw_tbl := mem_places [66, 68, 70, 72, 74, 76] (by decide +kernel)
theorem wsL_law_in : ∀ w ∈ wsL_law, w ∈ lw_tbl := by
  intro w h
  unfold wsL_law at h
  simp only [List.mem_append, List.not_mem_nil, or_false] at h
  rcases h with ((((h | h | h | h | h | h | h | h | h | h | h | h | h | h | h) | h) | h) | h) | h
  · exact wsL_law_r1_in w h
  · exact wsL_law_r2_in w h
  · exact wsL_law_r3_in w h
  · exact wsL_law_r4_in w h
  · exact wsL_law_r5_in w h
  · exact wsL_law_r6_in w h
  · exact wsL_law_r7_in w h
  · exact wsL_law_r8_in w h
  · exact wsL_law_r9_in w h
  · exact wsL_law_r10_in w h
  · exact wsL_law_r11_in w h
  · exact wsL_law_r12_in w h
  · exact wsL_law_r13_in w h
  · exact wsL_law_r14_in w h
  · exact wsL_law_r15_in w h
  · exact wsX20_in w h
  · exact wsX30_in w h
  · exact wsX00_in w h
  · exact wsX10_in w h
theorem inlX0 : ∀ w ∈ wsX00, w ∈ wsL_law := fun _ h => List.mem_append_left _ (List.mem_append_left _ (List.mem_append_right _ h))
theorem inX0 : ∀ w ∈ wsX00, w ∈ lw_tbl := fun w h => wsL_law_in w (inlX0 w h)
theorem inlX1 : ∀ w ∈ wsX10, w ∈ wsL_law := fun _ h => List.mem_append_left _ (List.mem_append_right _ h)
theorem inX1 : ∀ w ∈ wsX10, w ∈ lw_tbl := fun w h => wsL_law_in w (inlX1 w h)
theorem inlX2 : ∀ w ∈ wsX20, w ∈ wsL_law := fun _ h => List.mem_append_left _ (List.mem_append_left _ (List.mem_append_left _ (List.mem_append_left _ (List.mem_append_right _ h))))
theorem inX2 : ∀ w ∈ wsX20, w ∈ lw_tbl := fun w h => wsL_law_in w (inlX2 w h)
theorem inlX3 : ∀ w ∈ wsX30, w ∈ wsL_law := fun _ h => List.mem_append_left _ (List.mem_append_left _ (List.mem_append_left _ (List.mem_append_right _ h)))
theorem inX3 : ∀ w ∈ wsX30, w ∈ lw_tbl := fun w h => wsL_law_in w (inlX3 w h)
theorem inJ9 : ∀ w ∈ wsJ90, w ∈ lw_tbl := by decide +kernel
