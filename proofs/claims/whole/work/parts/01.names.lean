def RX0 : String := "PatternTree"
def RX1 : String := "PatternTreeModel"
def RL : String := "PatternTreeLaw"
def RJ : String := "java/lang/Long"
def TX0 : u_T := fun k => match k with
  | 0 => ("PatternTree", "cares", "[J", true)
  | 1 => ("PatternTree", "wants", "[J", true)
  | 2 => ("PatternTree", "size", "I", false)
  | 3 => ("PatternTree", "length", "I", false)
  | 4 => ("PatternTree", "mask", "J", false)
  | 5 => ("PatternTree", "clash", "I", false)
  | _ => ("PatternTree", "surplus", "I", false)
def tyX0 : Nat → FieldType := fun k => match k with
  | 0 => .array .long
  | 1 => .array .long
  | 2 => .int
  | 3 => .int
  | 4 => .long
  | 5 => .int
  | _ => .int
theorem nmX0 : ∀ a, a < 7 → ∀ b, b < 7 → a ≠ b → (TX0 a).2.1 ≠ (TX0 b).2.1 := by decide +kernel
theorem tyX0_ok : ∀ k, k < 7 → parseFieldDescriptor (TX0 k).2.2.1 = some (tyX0 k) := by decide +kernel
def TX1 : u_T := fun k => match k with
  | 0 => ("PatternTreeModel", "care", "[J", true)
  | 1 => ("PatternTreeModel", "want", "[J", true)
  | 2 => ("PatternTreeModel", "many", "I", false)
  | 3 => ("PatternTreeModel", "length", "I", false)
  | 4 => ("PatternTreeModel", "clash", "I", false)
  | 5 => ("PatternTreeModel", "beyond", "I", false)
  | _ => ("PatternTreeModel", "thrown", "I", false)
def tyX1 : Nat → FieldType := fun k => match k with
  | 0 => .array .long
  | 1 => .array .long
  | 2 => .int
  | 3 => .int
  | 4 => .int
  | 5 => .int
  | _ => .int
theorem nmX1 : ∀ a, a < 7 → ∀ b, b < 7 → a ≠ b → (TX1 a).2.1 ≠ (TX1 b).2.1 := by decide +kernel
theorem tyX1_ok : ∀ k, k < 7 → parseFieldDescriptor (TX1 k).2.2.1 = some (tyX1 k) := by decide +kernel
abbrev vwCl : List vw_C := [(RX0, TX0, 7), (RX1, TX1, 7)]
abbrev cX0_init : ByteArray := prog_1_method_1_code
def yX0_init : MethodName := ⟨RX0, "<init>", "()V"⟩
abbrev cX0_lowestBits : ByteArray := prog_1_method_21_code
def yX0_lowestBits : MethodName := ⟨RX0, "lowestBits", "(I)J"⟩
abbrev cX0_decode : ByteArray := prog_1_method_6_code
def yX0_decode : MethodName := ⟨RX0, "decode", "(J)I"⟩
abbrev cX0_sharesWord : ByteArray := prog_1_method_16_code
def yX0_sharesWord : MethodName := ⟨RX0, "sharesWord", "(IJJ)Z"⟩
abbrev cX0_count : ByteArray := prog_1_method_11_code
def yX0_count : MethodName := ⟨RX0, "count", "(I)I"⟩
abbrev cL_clear : ByteArray := method_3_code
def yL_clear : MethodName := ⟨RL, "clear", "(LPatternTree;I)I"⟩
abbrev cX0_clear : ByteArray := prog_1_method_2_code
def yX0_clear : MethodName := ⟨RX0, "clear", "(I)V"⟩
abbrev cL_add : ByteArray := method_4_code
def yL_add : MethodName := ⟨RL, "add", "(LPatternTree;JJ[J)I"⟩
abbrev cX0_add : ByteArray := prog_1_method_3_code
def yX0_add : MethodName := ⟨RX0, "add", "(JJ)I"⟩
abbrev cX0_refuseStrayWant : ByteArray := prog_1_method_12_code
def yX0_refuseStrayWant : MethodName := ⟨RX0, "refuseStrayWant", "(JJ)V"⟩
abbrev cX0_append : ByteArray := prog_1_method_14_code
def yX0_append : MethodName := ⟨RX0, "append", "(JJ)I"⟩
abbrev cX0_firstSharing : ByteArray := prog_1_method_15_code
def yX0_firstSharing : MethodName := ⟨RX0, "firstSharing", "(JJ)I"⟩
abbrev cL_signs : ByteArray := method_5_code
def yL_signs : MethodName := ⟨RL, "signs", "(LPatternTree;J[J)I"⟩
abbrev cX0_signs : ByteArray := prog_1_method_4_code
def yX0_signs : MethodName := ⟨RX0, "signs", "(J)I"⟩
abbrev cL_drop : ByteArray := method_6_code
def yL_drop : MethodName := ⟨RL, "drop", "(LPatternTree;I)I"⟩
abbrev cX0_drop : ByteArray := prog_1_method_5_code
def yX0_drop : MethodName := ⟨RX0, "drop", "(I)V"⟩
abbrev cX0_refuseAbsent : ByteArray := prog_1_method_13_code
def yX0_refuseAbsent : MethodName := ⟨RX0, "refuseAbsent", "(I)V"⟩
abbrev cL_meets : ByteArray := method_7_code
def yL_meets : MethodName := ⟨RL, "meets", "(LPatternTree;JJ[J)I"⟩
abbrev cX0_meets : ByteArray := prog_1_method_7_code
def yX0_meets : MethodName := ⟨RX0, "meets", "(JJ)I"⟩
abbrev cL_free : ByteArray := method_8_code
def yL_free : MethodName := ⟨RL, "free", "(LPatternTree;JJ[J)I"⟩
abbrev cX0_free : ByteArray := prog_1_method_8_code
def yX0_free : MethodName := ⟨RX0, "free", "(JJ)J"⟩
abbrev cX0_freeWords : ByteArray := prog_1_method_17_code
def yX0_freeWords : MethodName := ⟨RX0, "freeWords", "(JJ)J"⟩
abbrev cX0_wordsOf : ByteArray := prog_1_method_19_code
def yX0_wordsOf : MethodName := ⟨RX0, "wordsOf", "(J)J"⟩
abbrev cJ_bitCount : ByteArray := prog_7_method_50_code
def yJ_bitCount : MethodName := ⟨RJ, "bitCount", "(J)I"⟩
abbrev cL_next : ByteArray := method_9_code
def yL_next : MethodName := ⟨RL, "next", "(LPatternTree;J[J)I"⟩
abbrev cX0_next : ByteArray := prog_1_method_9_code
def yX0_next : MethodName := ⟨RX0, "next", "(J)J"⟩
abbrev cX0_bitsFrom : ByteArray := prog_1_method_20_code
def yX0_bitsFrom : MethodName := ⟨RX0, "bitsFrom", "(I)J"⟩
abbrev cX0_leastFree : ByteArray := prog_1_method_18_code
def yX0_leastFree : MethodName := ⟨RX0, "leastFree", "(IJ)J"⟩
abbrev cL_told : ByteArray := method_10_code
def yL_told : MethodName := ⟨RL, "told", "(LPatternTree;II[J)I"⟩
abbrev cX0_told : ByteArray := prog_1_method_10_code
def yX0_told : MethodName := ⟨RX0, "told", "(II)J"⟩
abbrev cX1_init : ByteArray := prog_3_method_1_code
def yX1_init : MethodName := ⟨RX1, "<init>", "()V"⟩
abbrev cX1_thrown : ByteArray := prog_3_method_2_code
def yX1_thrown : MethodName := ⟨RX1, "thrown", "()I"⟩
abbrev cX1_clear : ByteArray := prog_3_method_10_code
def yX1_clear : MethodName := ⟨RX1, "clear", "(I)V"⟩
abbrev cX1_fail : ByteArray := prog_3_method_3_code
def yX1_fail : MethodName := ⟨RX1, "fail", "(I)I"⟩
abbrev cX1_add : ByteArray := prog_3_method_11_code
def yX1_add : MethodName := ⟨RX1, "add", "(JJ)I"⟩
abbrev cX1_wrong : ByteArray := prog_3_method_7_code
def yX1_wrong : MethodName := ⟨RX1, "wrong", "(JJ)Z"⟩
abbrev cX1_mask : ByteArray := prog_3_method_4_code
def yX1_mask : MethodName := ⟨RX1, "mask", "()J"⟩
abbrev cX1_first : ByteArray := prog_3_method_9_code
def yX1_first : MethodName := ⟨RX1, "first", "(JJ)I"⟩
abbrev cX1_meet : ByteArray := prog_3_method_8_code
def yX1_meet : MethodName := ⟨RX1, "meet", "(IJJ)Z"⟩
abbrev cX1_signs : ByteArray := prog_3_method_12_code
def yX1_signs : MethodName := ⟨RX1, "signs", "(J)I"⟩
abbrev cX1_drop : ByteArray := prog_3_method_13_code
def yX1_drop : MethodName := ⟨RX1, "drop", "(I)V"⟩
abbrev cX1_decode : ByteArray := prog_3_method_14_code
def yX1_decode : MethodName := ⟨RX1, "decode", "(J)I"⟩
abbrev cX1_meets : ByteArray := prog_3_method_15_code
def yX1_meets : MethodName := ⟨RX1, "meets", "(JJ)I"⟩
abbrev cX1_free : ByteArray := prog_3_method_17_code
def yX1_free : MethodName := ⟨RX1, "free", "(JJ)J"⟩
abbrev cX1_none : ByteArray := prog_3_method_16_code
def yX1_none : MethodName := ⟨RX1, "none", "(JJ)J"⟩
abbrev cX1_bits : ByteArray := prog_3_method_5_code
def yX1_bits : MethodName := ⟨RX1, "bits", "(J)I"⟩
abbrev cX1_power : ByteArray := prog_3_method_6_code
def yX1_power : MethodName := ⟨RX1, "power", "(I)J"⟩
abbrev cX1_next : ByteArray := prog_3_method_19_code
def yX1_next : MethodName := ⟨RX1, "next", "(J)J"⟩
abbrev cX1_some : ByteArray := prog_3_method_18_code
def yX1_some : MethodName := ⟨RX1, "some", "(JJ)Z"⟩
abbrev cX1_told : ByteArray := prog_3_method_20_code
def yX1_told : MethodName := ⟨RX1, "told", "(II)J"⟩
abbrev cX1_count : ByteArray := prog_3_method_21_code
def yX1_count : MethodName := ⟨RX1, "count", "(I)I"⟩
abbrev cL_law : ByteArray := code
def yL_law : MethodName := ⟨RL, "law", "([I)Z"⟩
/-- the words that all methods here lean on -/
def pt_all : List Cond := [
  .selects RX0 yX0_sharesWord yX0_sharesWord,
  .selects RX0 yX0_refuseStrayWant yX0_refuseStrayWant,
  .selects RX0 yX0_append yX0_append,
  .selects RX0 yX0_firstSharing yX0_firstSharing,
  .selects RX0 yX0_refuseAbsent yX0_refuseAbsent,
  .selects RX0 yX0_freeWords yX0_freeWords,
  .selects RX0 yX0_wordsOf yX0_wordsOf,
  .selects RX0 yX0_bitsFrom yX0_bitsFrom,
  .selects RX0 yX0_leastFree yX0_leastFree,
  .selects RX1 yX1_fail yX1_fail,
  .selects RX1 yX1_wrong yX1_wrong,
  .selects RX1 yX1_mask yX1_mask,
  .selects RX1 yX1_first yX1_first,
  .selects RX1 yX1_meet yX1_meet,
  .selects RX1 yX1_none yX1_none,
  .selects RX1 yX1_some yX1_some,
  .initialized RL,
  .initialized RX0,
  .initialized RX1,
  .initialized RJ,
  .classLink RL 8 RX0,
  .instantiable RX0 7,
  .methodLink RL 45 yX0_init,
  .instanceMethod yX0_init,
  .code yX0_init cX0_init 1 none,
  .methodLink RX0 1 objectInit,
  .instanceMethod objectInit,
  .code objectInit object_method_1_code 1 none,
  .methodLink RX0 23 yX0_lowestBits,
  .static yX0_lowestBits,
  .code yX0_lowestBits cX0_lowestBits 1 (some .long),
  .constantLong RX0 93 (-1),
  .fieldLink RX0 9 "PatternTree" "cares" "[J",
  .fieldLink RX0 13 "PatternTree" "wants" "[J",
  .fieldLink RX0 16 "PatternTree" "size" "I",
  .fieldLink RX0 20 "PatternTree" "length" "I",
  .fieldLink RX0 27 "PatternTree" "mask" "J",
  .fieldLink RX0 31 "PatternTree" "clash" "I",
  .fieldLink RX0 34 "PatternTree" "surplus" "I",
  .laysFinal RX0 "PatternTree" "cares" "[J",
  .laysFinal RX0 "PatternTree" "wants" "[J",
  .lays RX0 "PatternTree" "size" "I",
  .lays RX0 "PatternTree" "length" "I",
  .lays RX0 "PatternTree" "mask" "J",
  .lays RX0 "PatternTree" "clash" "I",
  .lays RX0 "PatternTree" "surplus" "I",
  .arrayClass .long,
  .methodLink RL 72 yX0_decode,
  .instanceMethod yX0_decode,
  .selects RX0 yX0_decode yX0_decode,
  .code yX0_decode cX0_decode 5 (some .int),
  .methodLink RX0 62 yX0_sharesWord,
  .instanceMethod yX0_sharesWord,
  .code yX0_sharesWord cX0_sharesWord 6 (some .boolean),
  .methodLink RL 89 yX0_count,
  .instanceMethod yX0_count,
  .selects RX0 yX0_count yX0_count,
  .code yX0_count cX0_count 2 (some .int),
  .methodLink RL 49 yL_clear,
  .static yL_clear,
  .codeWith yL_clear cL_clear 3 (some .int) [(0, 5, 8, 13)],
  .classLink RL 13 "java/lang/IllegalArgumentException",
  .methodLink RL 7 yX0_clear,
  .instanceMethod yX0_clear,
  .selects RX0 yX0_clear yX0_clear,
  .code yX0_clear cX0_clear 2 none,
  .classLink RX0 37 "java/lang/IllegalArgumentException",
  .methodLink RX0 41 ⟨"java/lang/IllegalArgumentException", "<init>", "(Ljava/lang/String;)V"⟩,
  .methodLink RL 61 yL_add,
  .static yL_add,
  .codeWith yL_add cL_add 7 (some .int) [(0, 11, 14, 13), (0, 11, 18, 19)],
  .classLink RL 19 "java/lang/IllegalStateException",
  .methodLink RL 15 yX0_add,
  .instanceMethod yX0_add,
  .selects RX0 yX0_add yX0_add,
  .code yX0_add cX0_add 5 (some .int),
  .methodLink RX0 44 yX0_refuseStrayWant,
  .instanceMethod yX0_refuseStrayWant,
  .code yX0_refuseStrayWant cX0_refuseStrayWant 5 none,
  .methodLink RX0 48 yX0_append,
  .instanceMethod yX0_append,
  .code yX0_append cX0_append 6 (some .int),
  .classLink RX0 99 "java/lang/IllegalStateException",
  .methodLink RX0 103 ⟨"java/lang/IllegalStateException", "<init>", "(Ljava/lang/String;)V"⟩,
  .methodLink RX0 66 yX0_firstSharing,
  .instanceMethod yX0_firstSharing,
  .code yX0_firstSharing cX0_firstSharing 6 (some .int),
  .methodLink RL 65 yL_signs,
  .static yL_signs,
  .codeWith yL_signs cL_signs 5 (some .int) [(0, 9, 12, 13), (0, 9, 16, 19)],
  .methodLink RL 21 yX0_signs,
  .instanceMethod yX0_signs,
  .selects RX0 yX0_signs yX0_signs,
  .code yX0_signs cX0_signs 12 (some .int),
  .constantLong RX0 54 3,
  .constantLong RX0 56 2,
  .methodLink RL 69 yL_drop,
  .static yL_drop,
  .codeWith yL_drop cL_drop 3 (some .int) [(0, 5, 8, 28)],
  .classLink RL 28 "java/util/NoSuchElementException",
  .methodLink RL 25 yX0_drop,
  .instanceMethod yX0_drop,
  .selects RX0 yX0_drop yX0_drop,
  .code yX0_drop cX0_drop 3 none,
  .methodLink RX0 58 yX0_refuseAbsent,
  .instanceMethod yX0_refuseAbsent,
  .code yX0_refuseAbsent cX0_refuseAbsent 2 none,
  .classLink RX0 80 "java/util/NoSuchElementException",
  .methodLink RX0 84 ⟨"java/util/NoSuchElementException", "<init>", "(Ljava/lang/String;)V"⟩,
  .methodLink RL 76 yL_meets,
  .static yL_meets,
  .codeWith yL_meets cL_meets 7 (some .int) [(0, 11, 14, 13)],
  .methodLink RL 30 yX0_meets,
  .instanceMethod yX0_meets,
  .selects RX0 yX0_meets yX0_meets,
  .code yX0_meets cX0_meets 5 (some .int),
  .methodLink RL 79 yL_free,
  .static yL_free,
  .codeWith yL_free cL_free 7 (some .int) [(0, 10, 13, 13)],
  .methodLink RL 33 yX0_free,
  .instanceMethod yX0_free,
  .selects RX0 yX0_free yX0_free,
  .code yX0_free cX0_free 5 (some .long),
  .methodLink RX0 69 yX0_freeWords,
  .instanceMethod yX0_freeWords,
  .code yX0_freeWords cX0_freeWords 8 (some .long),
  .methodLink RX0 106 yX0_wordsOf,
  .instanceMethod yX0_wordsOf,
  .code yX0_wordsOf cX0_wordsOf 4 (some .long),
  .methodLink RX0 87 yJ_bitCount,
  .static yJ_bitCount,
  .code yJ_bitCount cJ_bitCount 2 (some .int),
  .constantLong RJ 314 6148914691236517205,
  .constantLong RJ 316 3689348814741910323,
  .constantLong RJ 318 1085102592571150095,
  .methodLink RL 82 yL_next,
  .static yL_next,
  .codeWith yL_next cL_next 5 (some .int) [(0, 8, 11, 28)],
  .methodLink RL 37 yX0_next,
  .instanceMethod yX0_next,
  .selects RX0 yX0_next yX0_next,
  .code yX0_next cX0_next 8 (some .long),
  .methodLink RX0 73 yX0_bitsFrom,
  .instanceMethod yX0_bitsFrom,
  .code yX0_bitsFrom cX0_bitsFrom 2 (some .long),
  .methodLink RX0 76 yX0_leastFree,
  .instanceMethod yX0_leastFree,
  .code yX0_leastFree cX0_leastFree 7 (some .long),
  .methodLink RL 85 yL_told,
  .static yL_told,
  .codeWith yL_told cL_told 5 (some .int) [(0, 9, 12, 13), (0, 9, 16, 28)],
  .methodLink RL 41 yX0_told,
  .instanceMethod yX0_told,
  .selects RX0 yX0_told yX0_told,
  .code yX0_told cX0_told 3 (some .long),
  .classLink RL 46 RX1,
  .instantiable RX1 7,
  .methodLink RL 48 yX1_init,
  .instanceMethod yX1_init,
  .code yX1_init cX1_init 1 none,
  .methodLink RX1 1 objectInit,
  .fieldLink RX1 7 "PatternTreeModel" "care" "[J",
  .fieldLink RX1 13 "PatternTreeModel" "want" "[J",
  .fieldLink RX1 32 "PatternTreeModel" "many" "I",
  .fieldLink RX1 16 "PatternTreeModel" "length" "I",
  .fieldLink RX1 20 "PatternTreeModel" "clash" "I",
  .fieldLink RX1 58 "PatternTreeModel" "beyond" "I",
  .fieldLink RX1 23 "PatternTreeModel" "thrown" "I",
  .laysFinal RX1 "PatternTreeModel" "care" "[J",
  .laysFinal RX1 "PatternTreeModel" "want" "[J",
  .lays RX1 "PatternTreeModel" "many" "I",
  .lays RX1 "PatternTreeModel" "length" "I",
  .lays RX1 "PatternTreeModel" "clash" "I",
  .lays RX1 "PatternTreeModel" "beyond" "I",
  .lays RX1 "PatternTreeModel" "thrown" "I",
  .methodLink RL 55 yX1_thrown,
  .instanceMethod yX1_thrown,
  .selects RX1 yX1_thrown yX1_thrown,
  .code yX1_thrown cX1_thrown 1 (some .int),
  .methodLink RL 54 yX1_clear,
  .instanceMethod yX1_clear,
  .selects RX1 yX1_clear yX1_clear,
  .code yX1_clear cX1_clear 2 none,
  .methodLink RX1 39 yX1_fail,
  .instanceMethod yX1_fail,
  .code yX1_fail cX1_fail 2 (some .int),
  .methodLink RL 64 yX1_add,
  .instanceMethod yX1_add,
  .selects RX1 yX1_add yX1_add,
  .code yX1_add cX1_add 6 (some .int),
  .methodLink RX1 43 yX1_wrong,
  .instanceMethod yX1_wrong,
  .code yX1_wrong cX1_wrong 5 (some .boolean),
  .constantLong RX1 26 (-1),
  .methodLink RX1 28 yX1_mask,
  .instanceMethod yX1_mask,
  .code yX1_mask cX1_mask 1 (some .long),
  .methodLink RX1 47 yX1_first,
  .instanceMethod yX1_first,
  .code yX1_first cX1_first 6 (some .int),
  .methodLink RX1 35 yX1_meet,
  .instanceMethod yX1_meet,
  .code yX1_meet cX1_meet 6 (some .boolean),
  .methodLink RL 68 yX1_signs,
  .instanceMethod yX1_signs,
  .selects RX1 yX1_signs yX1_signs,
  .code yX1_signs cX1_signs 12 (some .int),
  .constantLong RX1 51 3,
  .constantLong RX1 53 2,
  .methodLink RX1 55 yX1_add,
  .methodLink RL 71 yX1_drop,
  .instanceMethod yX1_drop,
  .selects RX1 yX1_drop yX1_drop,
  .code yX1_drop cX1_drop 3 none,
  .methodLink RL 75 yX1_decode,
  .instanceMethod yX1_decode,
  .selects RX1 yX1_decode yX1_decode,
  .code yX1_decode cX1_decode 6 (some .int),
  .methodLink RL 78 yX1_meets,
  .instanceMethod yX1_meets,
  .selects RX1 yX1_meets yX1_meets,
  .code yX1_meets cX1_meets 5 (some .int),
  .methodLink RL 81 yX1_free,
  .instanceMethod yX1_free,
  .selects RX1 yX1_free yX1_free,
  .code yX1_free cX1_free 5 (some .long),
  .methodLink RX1 69 yX1_none,
  .instanceMethod yX1_none,
  .code yX1_none cX1_none 8 (some .long),
  .methodLink RX1 61 yX1_bits,
  .static yX1_bits,
  .code yX1_bits cX1_bits 4 (some .int),
  .methodLink RX1 65 yX1_power,
  .static yX1_power,
  .code yX1_power cX1_power 1 (some .long),
  .methodLink RL 84 yX1_next,
  .instanceMethod yX1_next,
  .selects RX1 yX1_next yX1_next,
  .code yX1_next cX1_next 13 (some .long),
  .methodLink RX1 73 yX1_some,
  .instanceMethod yX1_some,
  .code yX1_some cX1_some 5 (some .boolean),
  .methodLink RL 88 yX1_told,
  .instanceMethod yX1_told,
  .selects RX1 yX1_told yX1_told,
  .code yX1_told cX1_told 3 (some .long),
  .methodLink RL 93 yX1_count,
  .instanceMethod yX1_count,
  .selects RX1 yX1_count yX1_count,
  .code yX1_count cX1_count 2 (some .int),
  .constantLong RL 59 4294967295]
set_option maxRecDepth 20000 in
theorem pt_all_in : GoodIn lw_tbl pt_all := goodIn_p pt_all [31, 34, 37, 65, 69, 73, 81, 157, 161, 166, 186, 194, 205, 209, 232, 239, 243, 247, 250, 260, 264, 268, 276, 282, 309, 313, 317, 321, 325, 330, 334, 338, 342, 349, 353, 357, 361, 365, 368, 371, 375, 379, 383, 387] (by decide +kernel) (by decide +kernel)
abbrev wsX0_init : List Cond := .code yX0_init cX0_init 1 none :: pt_all
abbrev wsX0_lowestBits : List Cond := .code yX0_lowestBits cX0_lowestBits 1 (some .long) :: pt_all
abbrev wsX0_decode : List Cond := .code yX0_decode cX0_decode 5 (some .int) :: pt_all
abbrev wsX0_sharesWord : List Cond := .code yX0_sharesWord cX0_sharesWord 6 (some .boolean) :: pt_all
abbrev wsX0_count : List Cond := .code yX0_count cX0_count 2 (some .int) :: pt_all
abbrev wsL_clear : List Cond := .codeWith yL_clear cL_clear 3 (some .int) [(0, 5, 8, 13)] :: pt_all
abbrev wsX0_clear : List Cond := .code yX0_clear cX0_clear 2 none :: pt_all
abbrev wsL_add : List Cond := .codeWith yL_add cL_add 7 (some .int) [(0, 11, 14, 13), (0, 11, 18, 19)] :: pt_all
abbrev wsX0_add : List Cond := .code yX0_add cX0_add 5 (some .int) :: pt_all
abbrev wsX0_refuseStrayWant : List Cond := .code yX0_refuseStrayWant cX0_refuseStrayWant 5 none :: pt_all
abbrev wsX0_append : List Cond := .code yX0_append cX0_append 6 (some .int) :: pt_all
abbrev wsX0_firstSharing : List Cond := .code yX0_firstSharing cX0_firstSharing 6 (some .int) :: pt_all
abbrev wsL_signs : List Cond := .codeWith yL_signs cL_signs 5 (some .int) [(0, 9, 12, 13), (0, 9, 16, 19)] :: pt_all
abbrev wsX0_signs : List Cond := .code yX0_signs cX0_signs 12 (some .int) :: pt_all
abbrev wsL_drop : List Cond := .codeWith yL_drop cL_drop 3 (some .int) [(0, 5, 8, 28)] :: pt_all
abbrev wsX0_drop : List Cond := .code yX0_drop cX0_drop 3 none :: pt_all
abbrev wsX0_refuseAbsent : List Cond := .code yX0_refuseAbsent cX0_refuseAbsent 2 none :: pt_all
abbrev wsL_meets : List Cond := .codeWith yL_meets cL_meets 7 (some .int) [(0, 11, 14, 13)] :: pt_all
abbrev wsX0_meets : List Cond := .code yX0_meets cX0_meets 5 (some .int) :: pt_all
abbrev wsL_free : List Cond := .codeWith yL_free cL_free 7 (some .int) [(0, 10, 13, 13)] :: pt_all
abbrev wsX0_free : List Cond := .code yX0_free cX0_free 5 (some .long) :: pt_all
abbrev wsX0_freeWords : List Cond := .code yX0_freeWords cX0_freeWords 8 (some .long) :: pt_all
abbrev wsX0_wordsOf : List Cond := .code yX0_wordsOf cX0_wordsOf 4 (some .long) :: pt_all
abbrev wsJ_bitCount : List Cond := .code yJ_bitCount cJ_bitCount 2 (some .int) :: pt_all
abbrev wsL_next : List Cond := .codeWith yL_next cL_next 5 (some .int) [(0, 8, 11, 28)] :: pt_all
abbrev wsX0_next : List Cond := .code yX0_next cX0_next 8 (some .long) :: pt_all
abbrev wsX0_bitsFrom : List Cond := .code yX0_bitsFrom cX0_bitsFrom 2 (some .long) :: pt_all
abbrev wsX0_leastFree : List Cond := .code yX0_leastFree cX0_leastFree 7 (some .long) :: pt_all
abbrev wsL_told : List Cond := .codeWith yL_told cL_told 5 (some .int) [(0, 9, 12, 13), (0, 9, 16, 28)] :: pt_all
abbrev wsX0_told : List Cond := .code yX0_told cX0_told 3 (some .long) :: pt_all
abbrev wsX1_init : List Cond := .code yX1_init cX1_init 1 none :: pt_all
abbrev wsX1_thrown : List Cond := .code yX1_thrown cX1_thrown 1 (some .int) :: pt_all
abbrev wsX1_clear : List Cond := .code yX1_clear cX1_clear 2 none :: pt_all
abbrev wsX1_fail : List Cond := .code yX1_fail cX1_fail 2 (some .int) :: pt_all
abbrev wsX1_add : List Cond := .code yX1_add cX1_add 6 (some .int) :: pt_all
abbrev wsX1_wrong : List Cond := .code yX1_wrong cX1_wrong 5 (some .boolean) :: pt_all
abbrev wsX1_mask : List Cond := .code yX1_mask cX1_mask 1 (some .long) :: pt_all
abbrev wsX1_first : List Cond := .code yX1_first cX1_first 6 (some .int) :: pt_all
abbrev wsX1_meet : List Cond := .code yX1_meet cX1_meet 6 (some .boolean) :: pt_all
abbrev wsX1_signs : List Cond := .code yX1_signs cX1_signs 12 (some .int) :: pt_all
abbrev wsX1_drop : List Cond := .code yX1_drop cX1_drop 3 none :: pt_all
abbrev wsX1_decode : List Cond := .code yX1_decode cX1_decode 6 (some .int) :: pt_all
abbrev wsX1_meets : List Cond := .code yX1_meets cX1_meets 5 (some .int) :: pt_all
abbrev wsX1_free : List Cond := .code yX1_free cX1_free 5 (some .long) :: pt_all
abbrev wsX1_none : List Cond := .code yX1_none cX1_none 8 (some .long) :: pt_all
abbrev wsX1_bits : List Cond := .code yX1_bits cX1_bits 4 (some .int) :: pt_all
abbrev wsX1_power : List Cond := .code yX1_power cX1_power 1 (some .long) :: pt_all
abbrev wsX1_next : List Cond := .code yX1_next cX1_next 13 (some .long) :: pt_all
abbrev wsX1_some : List Cond := .code yX1_some cX1_some 5 (some .boolean) :: pt_all
abbrev wsX1_told : List Cond := .code yX1_told cX1_told 3 (some .long) :: pt_all
abbrev wsX1_count : List Cond := .code yX1_count cX1_count 2 (some .int) :: pt_all
theorem pw0 : (.selects RX0 yX0_sharesWord yX0_sharesWord : Cond) ∈ pt_all := List.mem_of_getElem? (i := 0) rfl
theorem pw1 : (.selects RX0 yX0_refuseStrayWant yX0_refuseStrayWant : Cond) ∈ pt_all := List.mem_of_getElem? (i := 1) rfl
theorem pw2 : (.selects RX0 yX0_append yX0_append : Cond) ∈ pt_all := List.mem_of_getElem? (i := 2) rfl
theorem pw3 : (.selects RX0 yX0_firstSharing yX0_firstSharing : Cond) ∈ pt_all := List.mem_of_getElem? (i := 3) rfl
theorem pw4 : (.selects RX0 yX0_refuseAbsent yX0_refuseAbsent : Cond) ∈ pt_all := List.mem_of_getElem? (i := 4) rfl
theorem pw5 : (.selects RX0 yX0_freeWords yX0_freeWords : Cond) ∈ pt_all := List.mem_of_getElem? (i := 5) rfl
theorem pw6 : (.selects RX0 yX0_wordsOf yX0_wordsOf : Cond) ∈ pt_all := List.mem_of_getElem? (i := 6) rfl
theorem pw7 : (.selects RX0 yX0_bitsFrom yX0_bitsFrom : Cond) ∈ pt_all := List.mem_of_getElem? (i := 7) rfl
theorem pw8 : (.selects RX0 yX0_leastFree yX0_leastFree : Cond) ∈ pt_all := List.mem_of_getElem? (i := 8) rfl
theorem pw9 : (.selects RX1 yX1_fail yX1_fail : Cond) ∈ pt_all := List.mem_of_getElem? (i := 9) rfl
theorem pw10 : (.selects RX1 yX1_wrong yX1_wrong : Cond) ∈ pt_all := List.mem_of_getElem? (i := 10) rfl
theorem pw11 : (.selects RX1 yX1_mask yX1_mask : Cond) ∈ pt_all := List.mem_of_getElem? (i := 11) rfl
theorem pw12 : (.selects RX1 yX1_first yX1_first : Cond) ∈ pt_all := List.mem_of_getElem? (i := 12) rfl
theorem pw13 : (.selects RX1 yX1_meet yX1_meet : Cond) ∈ pt_all := List.mem_of_getElem? (i := 13) rfl
theorem pw14 : (.selects RX1 yX1_none yX1_none : Cond) ∈ pt_all := List.mem_of_getElem? (i := 14) rfl
theorem pw15 : (.selects RX1 yX1_some yX1_some : Cond) ∈ pt_all := List.mem_of_getElem? (i := 15) rfl
theorem pw16 : (.initialized RL : Cond) ∈ pt_all := List.mem_of_getElem? (i := 16) rfl
theorem pw17 : (.initialized RX0 : Cond) ∈ pt_all := List.mem_of_getElem? (i := 17) rfl
theorem pw18 : (.initialized RX1 : Cond) ∈ pt_all := List.mem_of_getElem? (i := 18) rfl
theorem pw19 : (.initialized RJ : Cond) ∈ pt_all := List.mem_of_getElem? (i := 19) rfl
theorem pw20 : (.classLink RL 8 RX0 : Cond) ∈ pt_all := List.mem_of_getElem? (i := 20) rfl
theorem pw21 : (.instantiable RX0 7 : Cond) ∈ pt_all := List.mem_of_getElem? (i := 21) rfl
theorem pw22 : (.methodLink RL 45 yX0_init : Cond) ∈ pt_all := List.mem_of_getElem? (i := 22) rfl
theorem pw23 : (.instanceMethod yX0_init : Cond) ∈ pt_all := List.mem_of_getElem? (i := 23) rfl
theorem pw24 : (.code yX0_init cX0_init 1 none : Cond) ∈ pt_all := List.mem_of_getElem? (i := 24) rfl
theorem pw25 : (.methodLink RX0 1 objectInit : Cond) ∈ pt_all := List.mem_of_getElem? (i := 25) rfl
theorem pw26 : (.instanceMethod objectInit : Cond) ∈ pt_all := List.mem_of_getElem? (i := 26) rfl
theorem pw27 : (.code objectInit object_method_1_code 1 none : Cond) ∈ pt_all := List.mem_of_getElem? (i := 27) rfl
theorem pw28 : (.methodLink RX0 23 yX0_lowestBits : Cond) ∈ pt_all := List.mem_of_getElem? (i := 28) rfl
theorem pw29 : (.static yX0_lowestBits : Cond) ∈ pt_all := List.mem_of_getElem? (i := 29) rfl
theorem pw30 : (.code yX0_lowestBits cX0_lowestBits 1 (some .long) : Cond) ∈ pt_all := List.mem_of_getElem? (i := 30) rfl
theorem pw31 : (.constantLong RX0 93 (-1) : Cond) ∈ pt_all := List.mem_of_getElem? (i := 31) rfl
theorem pw32 : (.fieldLink RX0 9 "PatternTree" "cares" "[J" : Cond) ∈ pt_all := List.mem_of_getElem? (i := 32) rfl
theorem pw33 : (.fieldLink RX0 13 "PatternTree" "wants" "[J" : Cond) ∈ pt_all := List.mem_of_getElem? (i := 33) rfl
theorem pw34 : (.fieldLink RX0 16 "PatternTree" "size" "I" : Cond) ∈ pt_all := List.mem_of_getElem? (i := 34) rfl
theorem pw35 : (.fieldLink RX0 20 "PatternTree" "length" "I" : Cond) ∈ pt_all := List.mem_of_getElem? (i := 35) rfl
theorem pw36 : (.fieldLink RX0 27 "PatternTree" "mask" "J" : Cond) ∈ pt_all := List.mem_of_getElem? (i := 36) rfl
theorem pw37 : (.fieldLink RX0 31 "PatternTree" "clash" "I" : Cond) ∈ pt_all := List.mem_of_getElem? (i := 37) rfl
theorem pw38 : (.fieldLink RX0 34 "PatternTree" "surplus" "I" : Cond) ∈ pt_all := List.mem_of_getElem? (i := 38) rfl
theorem pw39 : (.laysFinal RX0 "PatternTree" "cares" "[J" : Cond) ∈ pt_all := List.mem_of_getElem? (i := 39) rfl
theorem pw40 : (.laysFinal RX0 "PatternTree" "wants" "[J" : Cond) ∈ pt_all := List.mem_of_getElem? (i := 40) rfl
theorem pw41 : (.lays RX0 "PatternTree" "size" "I" : Cond) ∈ pt_all := List.mem_of_getElem? (i := 41) rfl
theorem pw42 : (.lays RX0 "PatternTree" "length" "I" : Cond) ∈ pt_all := List.mem_of_getElem? (i := 42) rfl
theorem pw43 : (.lays RX0 "PatternTree" "mask" "J" : Cond) ∈ pt_all := List.mem_of_getElem? (i := 43) rfl
theorem pw44 : (.lays RX0 "PatternTree" "clash" "I" : Cond) ∈ pt_all := List.mem_of_getElem? (i := 44) rfl
theorem pw45 : (.lays RX0 "PatternTree" "surplus" "I" : Cond) ∈ pt_all := List.mem_of_getElem? (i := 45) rfl
theorem pw46 : (.arrayClass .long : Cond) ∈ pt_all := List.mem_of_getElem? (i := 46) rfl
theorem pw47 : (.methodLink RL 72 yX0_decode : Cond) ∈ pt_all := List.mem_of_getElem? (i := 47) rfl
theorem pw48 : (.instanceMethod yX0_decode : Cond) ∈ pt_all := List.mem_of_getElem? (i := 48) rfl
theorem pw49 : (.selects RX0 yX0_decode yX0_decode : Cond) ∈ pt_all := List.mem_of_getElem? (i := 49) rfl
theorem pw50 : (.code yX0_decode cX0_decode 5 (some .int) : Cond) ∈ pt_all := List.mem_of_getElem? (i := 50) rfl
theorem pw51 : (.methodLink RX0 62 yX0_sharesWord : Cond) ∈ pt_all := List.mem_of_getElem? (i := 51) rfl
theorem pw52 : (.instanceMethod yX0_sharesWord : Cond) ∈ pt_all := List.mem_of_getElem? (i := 52) rfl
theorem pw53 : (.code yX0_sharesWord cX0_sharesWord 6 (some .boolean) : Cond) ∈ pt_all := List.mem_of_getElem? (i := 53) rfl
theorem pw54 : (.methodLink RL 89 yX0_count : Cond) ∈ pt_all := List.mem_of_getElem? (i := 54) rfl
theorem pw55 : (.instanceMethod yX0_count : Cond) ∈ pt_all := List.mem_of_getElem? (i := 55) rfl
theorem pw56 : (.selects RX0 yX0_count yX0_count : Cond) ∈ pt_all := List.mem_of_getElem? (i := 56) rfl
theorem pw57 : (.code yX0_count cX0_count 2 (some .int) : Cond) ∈ pt_all := List.mem_of_getElem? (i := 57) rfl
theorem pw58 : (.methodLink RL 49 yL_clear : Cond) ∈ pt_all := List.mem_of_getElem? (i := 58) rfl
theorem pw59 : (.static yL_clear : Cond) ∈ pt_all := List.mem_of_getElem? (i := 59) rfl
theorem pw60 : (.codeWith yL_clear cL_clear 3 (some .int) [(0, 5, 8, 13)] : Cond) ∈ pt_all := List.mem_of_getElem? (i := 60) rfl
theorem pw61 : (.classLink RL 13 "java/lang/IllegalArgumentException" : Cond) ∈ pt_all := List.mem_of_getElem? (i := 61) rfl
theorem pw62 : (.methodLink RL 7 yX0_clear : Cond) ∈ pt_all := List.mem_of_getElem? (i := 62) rfl
theorem pw63 : (.instanceMethod yX0_clear : Cond) ∈ pt_all := List.mem_of_getElem? (i := 63) rfl
theorem pw64 : (.selects RX0 yX0_clear yX0_clear : Cond) ∈ pt_all := List.mem_of_getElem? (i := 64) rfl
theorem pw65 : (.code yX0_clear cX0_clear 2 none : Cond) ∈ pt_all := List.mem_of_getElem? (i := 65) rfl
theorem pw66 : (.classLink RX0 37 "java/lang/IllegalArgumentException" : Cond) ∈ pt_all := List.mem_of_getElem? (i := 66) rfl
theorem pw67 : (.methodLink RX0 41 ⟨"java/lang/IllegalArgumentException", "<init>", "(Ljava/lang/String;)V"⟩ : Cond) ∈ pt_all := List.mem_of_getElem? (i := 67) rfl
theorem pw68 : (.methodLink RL 61 yL_add : Cond) ∈ pt_all := List.mem_of_getElem? (i := 68) rfl
theorem pw69 : (.static yL_add : Cond) ∈ pt_all := List.mem_of_getElem? (i := 69) rfl
theorem pw70 : (.codeWith yL_add cL_add 7 (some .int) [(0, 11, 14, 13), (0, 11, 18, 19)] : Cond) ∈ pt_all := List.mem_of_getElem? (i := 70) rfl
theorem pw71 : (.classLink RL 19 "java/lang/IllegalStateException" : Cond) ∈ pt_all := List.mem_of_getElem? (i := 71) rfl
theorem pw72 : (.methodLink RL 15 yX0_add : Cond) ∈ pt_all := List.mem_of_getElem? (i := 72) rfl
theorem pw73 : (.instanceMethod yX0_add : Cond) ∈ pt_all := List.mem_of_getElem? (i := 73) rfl
theorem pw74 : (.selects RX0 yX0_add yX0_add : Cond) ∈ pt_all := List.mem_of_getElem? (i := 74) rfl
theorem pw75 : (.code yX0_add cX0_add 5 (some .int) : Cond) ∈ pt_all := List.mem_of_getElem? (i := 75) rfl
theorem pw76 : (.methodLink RX0 44 yX0_refuseStrayWant : Cond) ∈ pt_all := List.mem_of_getElem? (i := 76) rfl
theorem pw77 : (.instanceMethod yX0_refuseStrayWant : Cond) ∈ pt_all := List.mem_of_getElem? (i := 77) rfl
theorem pw78 : (.code yX0_refuseStrayWant cX0_refuseStrayWant 5 none : Cond) ∈ pt_all := List.mem_of_getElem? (i := 78) rfl
theorem pw79 : (.methodLink RX0 48 yX0_append : Cond) ∈ pt_all := List.mem_of_getElem? (i := 79) rfl
theorem pw80 : (.instanceMethod yX0_append : Cond) ∈ pt_all := List.mem_of_getElem? (i := 80) rfl
theorem pw81 : (.code yX0_append cX0_append 6 (some .int) : Cond) ∈ pt_all := List.mem_of_getElem? (i := 81) rfl
theorem pw82 : (.classLink RX0 99 "java/lang/IllegalStateException" : Cond) ∈ pt_all := List.mem_of_getElem? (i := 82) rfl
theorem pw83 : (.methodLink RX0 103 ⟨"java/lang/IllegalStateException", "<init>", "(Ljava/lang/String;)V"⟩ : Cond) ∈ pt_all := List.mem_of_getElem? (i := 83) rfl
theorem pw84 : (.methodLink RX0 66 yX0_firstSharing : Cond) ∈ pt_all := List.mem_of_getElem? (i := 84) rfl
theorem pw85 : (.instanceMethod yX0_firstSharing : Cond) ∈ pt_all := List.mem_of_getElem? (i := 85) rfl
theorem pw86 : (.code yX0_firstSharing cX0_firstSharing 6 (some .int) : Cond) ∈ pt_all := List.mem_of_getElem? (i := 86) rfl
theorem pw87 : (.methodLink RL 65 yL_signs : Cond) ∈ pt_all := List.mem_of_getElem? (i := 87) rfl
theorem pw88 : (.static yL_signs : Cond) ∈ pt_all := List.mem_of_getElem? (i := 88) rfl
theorem pw89 : (.codeWith yL_signs cL_signs 5 (some .int) [(0, 9, 12, 13), (0, 9, 16, 19)] : Cond) ∈ pt_all := List.mem_of_getElem? (i := 89) rfl
theorem pw90 : (.methodLink RL 21 yX0_signs : Cond) ∈ pt_all := List.mem_of_getElem? (i := 90) rfl
theorem pw91 : (.instanceMethod yX0_signs : Cond) ∈ pt_all := List.mem_of_getElem? (i := 91) rfl
theorem pw92 : (.selects RX0 yX0_signs yX0_signs : Cond) ∈ pt_all := List.mem_of_getElem? (i := 92) rfl
theorem pw93 : (.code yX0_signs cX0_signs 12 (some .int) : Cond) ∈ pt_all := List.mem_of_getElem? (i := 93) rfl
theorem pw94 : (.constantLong RX0 54 3 : Cond) ∈ pt_all := List.mem_of_getElem? (i := 94) rfl
theorem pw95 : (.constantLong RX0 56 2 : Cond) ∈ pt_all := List.mem_of_getElem? (i := 95) rfl
theorem pw96 : (.methodLink RL 69 yL_drop : Cond) ∈ pt_all := List.mem_of_getElem? (i := 96) rfl
theorem pw97 : (.static yL_drop : Cond) ∈ pt_all := List.mem_of_getElem? (i := 97) rfl
theorem pw98 : (.codeWith yL_drop cL_drop 3 (some .int) [(0, 5, 8, 28)] : Cond) ∈ pt_all := List.mem_of_getElem? (i := 98) rfl
theorem pw99 : (.classLink RL 28 "java/util/NoSuchElementException" : Cond) ∈ pt_all := List.mem_of_getElem? (i := 99) rfl
theorem pw100 : (.methodLink RL 25 yX0_drop : Cond) ∈ pt_all := List.mem_of_getElem? (i := 100) rfl
theorem pw101 : (.instanceMethod yX0_drop : Cond) ∈ pt_all := List.mem_of_getElem? (i := 101) rfl
theorem pw102 : (.selects RX0 yX0_drop yX0_drop : Cond) ∈ pt_all := List.mem_of_getElem? (i := 102) rfl
theorem pw103 : (.code yX0_drop cX0_drop 3 none : Cond) ∈ pt_all := List.mem_of_getElem? (i := 103) rfl
theorem pw104 : (.methodLink RX0 58 yX0_refuseAbsent : Cond) ∈ pt_all := List.mem_of_getElem? (i := 104) rfl
theorem pw105 : (.instanceMethod yX0_refuseAbsent : Cond) ∈ pt_all := List.mem_of_getElem? (i := 105) rfl
theorem pw106 : (.code yX0_refuseAbsent cX0_refuseAbsent 2 none : Cond) ∈ pt_all := List.mem_of_getElem? (i := 106) rfl
theorem pw107 : (.classLink RX0 80 "java/util/NoSuchElementException" : Cond) ∈ pt_all := List.mem_of_getElem? (i := 107) rfl
theorem pw108 : (.methodLink RX0 84 ⟨"java/util/NoSuchElementException", "<init>", "(Ljava/lang/String;)V"⟩ : Cond) ∈ pt_all := List.mem_of_getElem? (i := 108) rfl
theorem pw109 : (.methodLink RL 76 yL_meets : Cond) ∈ pt_all := List.mem_of_getElem? (i := 109) rfl
theorem pw110 : (.static yL_meets : Cond) ∈ pt_all := List.mem_of_getElem? (i := 110) rfl
theorem pw111 : (.codeWith yL_meets cL_meets 7 (some .int) [(0, 11, 14, 13)] : Cond) ∈ pt_all := List.mem_of_getElem? (i := 111) rfl
theorem pw112 : (.methodLink RL 30 yX0_meets : Cond) ∈ pt_all := List.mem_of_getElem? (i := 112) rfl
theorem pw113 : (.instanceMethod yX0_meets : Cond) ∈ pt_all := List.mem_of_getElem? (i := 113) rfl
theorem pw114 : (.selects RX0 yX0_meets yX0_meets : Cond) ∈ pt_all := List.mem_of_getElem? (i := 114) rfl
theorem pw115 : (.code yX0_meets cX0_meets 5 (some .int) : Cond) ∈ pt_all := List.mem_of_getElem? (i := 115) rfl
theorem pw116 : (.methodLink RL 79 yL_free : Cond) ∈ pt_all := List.mem_of_getElem? (i := 116) rfl
theorem pw117 : (.static yL_free : Cond) ∈ pt_all := List.mem_of_getElem? (i := 117) rfl
theorem pw118 : (.codeWith yL_free cL_free 7 (some .int) [(0, 10, 13, 13)] : Cond) ∈ pt_all := List.mem_of_getElem? (i := 118) rfl
theorem pw119 : (.methodLink RL 33 yX0_free : Cond) ∈ pt_all := List.mem_of_getElem? (i := 119) rfl
theorem pw120 : (.instanceMethod yX0_free : Cond) ∈ pt_all := List.mem_of_getElem? (i := 120) rfl
theorem pw121 : (.selects RX0 yX0_free yX0_free : Cond) ∈ pt_all := List.mem_of_getElem? (i := 121) rfl
theorem pw122 : (.code yX0_free cX0_free 5 (some .long) : Cond) ∈ pt_all := List.mem_of_getElem? (i := 122) rfl
theorem pw123 : (.methodLink RX0 69 yX0_freeWords : Cond) ∈ pt_all := List.mem_of_getElem? (i := 123) rfl
theorem pw124 : (.instanceMethod yX0_freeWords : Cond) ∈ pt_all := List.mem_of_getElem? (i := 124) rfl
theorem pw125 : (.code yX0_freeWords cX0_freeWords 8 (some .long) : Cond) ∈ pt_all := List.mem_of_getElem? (i := 125) rfl
theorem pw126 : (.methodLink RX0 106 yX0_wordsOf : Cond) ∈ pt_all := List.mem_of_getElem? (i := 126) rfl
theorem pw127 : (.instanceMethod yX0_wordsOf : Cond) ∈ pt_all := List.mem_of_getElem? (i := 127) rfl
theorem pw128 : (.code yX0_wordsOf cX0_wordsOf 4 (some .long) : Cond) ∈ pt_all := List.mem_of_getElem? (i := 128) rfl
theorem pw129 : (.methodLink RX0 87 yJ_bitCount : Cond) ∈ pt_all := List.mem_of_getElem? (i := 129) rfl
theorem pw130 : (.static yJ_bitCount : Cond) ∈ pt_all := List.mem_of_getElem? (i := 130) rfl
theorem pw131 : (.code yJ_bitCount cJ_bitCount 2 (some .int) : Cond) ∈ pt_all := List.mem_of_getElem? (i := 131) rfl
theorem pw132 : (.constantLong RJ 314 6148914691236517205 : Cond) ∈ pt_all := List.mem_of_getElem? (i := 132) rfl
theorem pw133 : (.constantLong RJ 316 3689348814741910323 : Cond) ∈ pt_all := List.mem_of_getElem? (i := 133) rfl
theorem pw134 : (.constantLong RJ 318 1085102592571150095 : Cond) ∈ pt_all := List.mem_of_getElem? (i := 134) rfl
theorem pw135 : (.methodLink RL 82 yL_next : Cond) ∈ pt_all := List.mem_of_getElem? (i := 135) rfl
theorem pw136 : (.static yL_next : Cond) ∈ pt_all := List.mem_of_getElem? (i := 136) rfl
theorem pw137 : (.codeWith yL_next cL_next 5 (some .int) [(0, 8, 11, 28)] : Cond) ∈ pt_all := List.mem_of_getElem? (i := 137) rfl
theorem pw138 : (.methodLink RL 37 yX0_next : Cond) ∈ pt_all := List.mem_of_getElem? (i := 138) rfl
theorem pw139 : (.instanceMethod yX0_next : Cond) ∈ pt_all := List.mem_of_getElem? (i := 139) rfl
theorem pw140 : (.selects RX0 yX0_next yX0_next : Cond) ∈ pt_all := List.mem_of_getElem? (i := 140) rfl
theorem pw141 : (.code yX0_next cX0_next 8 (some .long) : Cond) ∈ pt_all := List.mem_of_getElem? (i := 141) rfl
theorem pw142 : (.methodLink RX0 73 yX0_bitsFrom : Cond) ∈ pt_all := List.mem_of_getElem? (i := 142) rfl
theorem pw143 : (.instanceMethod yX0_bitsFrom : Cond) ∈ pt_all := List.mem_of_getElem? (i := 143) rfl
theorem pw144 : (.code yX0_bitsFrom cX0_bitsFrom 2 (some .long) : Cond) ∈ pt_all := List.mem_of_getElem? (i := 144) rfl
theorem pw145 : (.methodLink RX0 76 yX0_leastFree : Cond) ∈ pt_all := List.mem_of_getElem? (i := 145) rfl
theorem pw146 : (.instanceMethod yX0_leastFree : Cond) ∈ pt_all := List.mem_of_getElem? (i := 146) rfl
theorem pw147 : (.code yX0_leastFree cX0_leastFree 7 (some .long) : Cond) ∈ pt_all := List.mem_of_getElem? (i := 147) rfl
theorem pw148 : (.methodLink RL 85 yL_told : Cond) ∈ pt_all := List.mem_of_getElem? (i := 148) rfl
theorem pw149 : (.static yL_told : Cond) ∈ pt_all := List.mem_of_getElem? (i := 149) rfl
theorem pw150 : (.codeWith yL_told cL_told 5 (some .int) [(0, 9, 12, 13), (0, 9, 16, 28)] : Cond) ∈ pt_all := List.mem_of_getElem? (i := 150) rfl
theorem pw151 : (.methodLink RL 41 yX0_told : Cond) ∈ pt_all := List.mem_of_getElem? (i := 151) rfl
theorem pw152 : (.instanceMethod yX0_told : Cond) ∈ pt_all := List.mem_of_getElem? (i := 152) rfl
theorem pw153 : (.selects RX0 yX0_told yX0_told : Cond) ∈ pt_all := List.mem_of_getElem? (i := 153) rfl
theorem pw154 : (.code yX0_told cX0_told 3 (some .long) : Cond) ∈ pt_all := List.mem_of_getElem? (i := 154) rfl
theorem pw155 : (.classLink RL 46 RX1 : Cond) ∈ pt_all := List.mem_of_getElem? (i := 155) rfl
theorem pw156 : (.instantiable RX1 7 : Cond) ∈ pt_all := List.mem_of_getElem? (i := 156) rfl
theorem pw157 : (.methodLink RL 48 yX1_init : Cond) ∈ pt_all := List.mem_of_getElem? (i := 157) rfl
theorem pw158 : (.instanceMethod yX1_init : Cond) ∈ pt_all := List.mem_of_getElem? (i := 158) rfl
theorem pw159 : (.code yX1_init cX1_init 1 none : Cond) ∈ pt_all := List.mem_of_getElem? (i := 159) rfl
theorem pw160 : (.methodLink RX1 1 objectInit : Cond) ∈ pt_all := List.mem_of_getElem? (i := 160) rfl
theorem pw161 : (.fieldLink RX1 7 "PatternTreeModel" "care" "[J" : Cond) ∈ pt_all := List.mem_of_getElem? (i := 161) rfl
theorem pw162 : (.fieldLink RX1 13 "PatternTreeModel" "want" "[J" : Cond) ∈ pt_all := List.mem_of_getElem? (i := 162) rfl
theorem pw163 : (.fieldLink RX1 32 "PatternTreeModel" "many" "I" : Cond) ∈ pt_all := List.mem_of_getElem? (i := 163) rfl
theorem pw164 : (.fieldLink RX1 16 "PatternTreeModel" "length" "I" : Cond) ∈ pt_all := List.mem_of_getElem? (i := 164) rfl
theorem pw165 : (.fieldLink RX1 20 "PatternTreeModel" "clash" "I" : Cond) ∈ pt_all := List.mem_of_getElem? (i := 165) rfl
theorem pw166 : (.fieldLink RX1 58 "PatternTreeModel" "beyond" "I" : Cond) ∈ pt_all := List.mem_of_getElem? (i := 166) rfl
theorem pw167 : (.fieldLink RX1 23 "PatternTreeModel" "thrown" "I" : Cond) ∈ pt_all := List.mem_of_getElem? (i := 167) rfl
theorem pw168 : (.laysFinal RX1 "PatternTreeModel" "care" "[J" : Cond) ∈ pt_all := List.mem_of_getElem? (i := 168) rfl
theorem pw169 : (.laysFinal RX1 "PatternTreeModel" "want" "[J" : Cond) ∈ pt_all := List.mem_of_getElem? (i := 169) rfl
theorem pw170 : (.lays RX1 "PatternTreeModel" "many" "I" : Cond) ∈ pt_all := List.mem_of_getElem? (i := 170) rfl
theorem pw171 : (.lays RX1 "PatternTreeModel" "length" "I" : Cond) ∈ pt_all := List.mem_of_getElem? (i := 171) rfl
theorem pw172 : (.lays RX1 "PatternTreeModel" "clash" "I" : Cond) ∈ pt_all := List.mem_of_getElem? (i := 172) rfl
theorem pw173 : (.lays RX1 "PatternTreeModel" "beyond" "I" : Cond) ∈ pt_all := List.mem_of_getElem? (i := 173) rfl
theorem pw174 : (.lays RX1 "PatternTreeModel" "thrown" "I" : Cond) ∈ pt_all := List.mem_of_getElem? (i := 174) rfl
theorem pw175 : (.methodLink RL 55 yX1_thrown : Cond) ∈ pt_all := List.mem_of_getElem? (i := 175) rfl
theorem pw176 : (.instanceMethod yX1_thrown : Cond) ∈ pt_all := List.mem_of_getElem? (i := 176) rfl
theorem pw177 : (.selects RX1 yX1_thrown yX1_thrown : Cond) ∈ pt_all := List.mem_of_getElem? (i := 177) rfl
theorem pw178 : (.code yX1_thrown cX1_thrown 1 (some .int) : Cond) ∈ pt_all := List.mem_of_getElem? (i := 178) rfl
theorem pw179 : (.methodLink RL 54 yX1_clear : Cond) ∈ pt_all := List.mem_of_getElem? (i := 179) rfl
theorem pw180 : (.instanceMethod yX1_clear : Cond) ∈ pt_all := List.mem_of_getElem? (i := 180) rfl
theorem pw181 : (.selects RX1 yX1_clear yX1_clear : Cond) ∈ pt_all := List.mem_of_getElem? (i := 181) rfl
theorem pw182 : (.code yX1_clear cX1_clear 2 none : Cond) ∈ pt_all := List.mem_of_getElem? (i := 182) rfl
theorem pw183 : (.methodLink RX1 39 yX1_fail : Cond) ∈ pt_all := List.mem_of_getElem? (i := 183) rfl
theorem pw184 : (.instanceMethod yX1_fail : Cond) ∈ pt_all := List.mem_of_getElem? (i := 184) rfl
theorem pw185 : (.code yX1_fail cX1_fail 2 (some .int) : Cond) ∈ pt_all := List.mem_of_getElem? (i := 185) rfl
theorem pw186 : (.methodLink RL 64 yX1_add : Cond) ∈ pt_all := List.mem_of_getElem? (i := 186) rfl
theorem pw187 : (.instanceMethod yX1_add : Cond) ∈ pt_all := List.mem_of_getElem? (i := 187) rfl
theorem pw188 : (.selects RX1 yX1_add yX1_add : Cond) ∈ pt_all := List.mem_of_getElem? (i := 188) rfl
theorem pw189 : (.code yX1_add cX1_add 6 (some .int) : Cond) ∈ pt_all := List.mem_of_getElem? (i := 189) rfl
theorem pw190 : (.methodLink RX1 43 yX1_wrong : Cond) ∈ pt_all := List.mem_of_getElem? (i := 190) rfl
theorem pw191 : (.instanceMethod yX1_wrong : Cond) ∈ pt_all := List.mem_of_getElem? (i := 191) rfl
theorem pw192 : (.code yX1_wrong cX1_wrong 5 (some .boolean) : Cond) ∈ pt_all := List.mem_of_getElem? (i := 192) rfl
theorem pw193 : (.constantLong RX1 26 (-1) : Cond) ∈ pt_all := List.mem_of_getElem? (i := 193) rfl
theorem pw194 : (.methodLink RX1 28 yX1_mask : Cond) ∈ pt_all := List.mem_of_getElem? (i := 194) rfl
theorem pw195 : (.instanceMethod yX1_mask : Cond) ∈ pt_all := List.mem_of_getElem? (i := 195) rfl
theorem pw196 : (.code yX1_mask cX1_mask 1 (some .long) : Cond) ∈ pt_all := List.mem_of_getElem? (i := 196) rfl
theorem pw197 : (.methodLink RX1 47 yX1_first : Cond) ∈ pt_all := List.mem_of_getElem? (i := 197) rfl
theorem pw198 : (.instanceMethod yX1_first : Cond) ∈ pt_all := List.mem_of_getElem? (i := 198) rfl
theorem pw199 : (.code yX1_first cX1_first 6 (some .int) : Cond) ∈ pt_all := List.mem_of_getElem? (i := 199) rfl
theorem pw200 : (.methodLink RX1 35 yX1_meet : Cond) ∈ pt_all := List.mem_of_getElem? (i := 200) rfl
theorem pw201 : (.instanceMethod yX1_meet : Cond) ∈ pt_all := List.mem_of_getElem? (i := 201) rfl
theorem pw202 : (.code yX1_meet cX1_meet 6 (some .boolean) : Cond) ∈ pt_all := List.mem_of_getElem? (i := 202) rfl
theorem pw203 : (.methodLink RL 68 yX1_signs : Cond) ∈ pt_all := List.mem_of_getElem? (i := 203) rfl
theorem pw204 : (.instanceMethod yX1_signs : Cond) ∈ pt_all := List.mem_of_getElem? (i := 204) rfl
theorem pw205 : (.selects RX1 yX1_signs yX1_signs : Cond) ∈ pt_all := List.mem_of_getElem? (i := 205) rfl
theorem pw206 : (.code yX1_signs cX1_signs 12 (some .int) : Cond) ∈ pt_all := List.mem_of_getElem? (i := 206) rfl
theorem pw207 : (.constantLong RX1 51 3 : Cond) ∈ pt_all := List.mem_of_getElem? (i := 207) rfl
theorem pw208 : (.constantLong RX1 53 2 : Cond) ∈ pt_all := List.mem_of_getElem? (i := 208) rfl
theorem pw209 : (.methodLink RX1 55 yX1_add : Cond) ∈ pt_all := List.mem_of_getElem? (i := 209) rfl
theorem pw210 : (.methodLink RL 71 yX1_drop : Cond) ∈ pt_all := List.mem_of_getElem? (i := 210) rfl
theorem pw211 : (.instanceMethod yX1_drop : Cond) ∈ pt_all := List.mem_of_getElem? (i := 211) rfl
theorem pw212 : (.selects RX1 yX1_drop yX1_drop : Cond) ∈ pt_all := List.mem_of_getElem? (i := 212) rfl
theorem pw213 : (.code yX1_drop cX1_drop 3 none : Cond) ∈ pt_all := List.mem_of_getElem? (i := 213) rfl
theorem pw214 : (.methodLink RL 75 yX1_decode : Cond) ∈ pt_all := List.mem_of_getElem? (i := 214) rfl
theorem pw215 : (.instanceMethod yX1_decode : Cond) ∈ pt_all := List.mem_of_getElem? (i := 215) rfl
theorem pw216 : (.selects RX1 yX1_decode yX1_decode : Cond) ∈ pt_all := List.mem_of_getElem? (i := 216) rfl
theorem pw217 : (.code yX1_decode cX1_decode 6 (some .int) : Cond) ∈ pt_all := List.mem_of_getElem? (i := 217) rfl
theorem pw218 : (.methodLink RL 78 yX1_meets : Cond) ∈ pt_all := List.mem_of_getElem? (i := 218) rfl
theorem pw219 : (.instanceMethod yX1_meets : Cond) ∈ pt_all := List.mem_of_getElem? (i := 219) rfl
theorem pw220 : (.selects RX1 yX1_meets yX1_meets : Cond) ∈ pt_all := List.mem_of_getElem? (i := 220) rfl
theorem pw221 : (.code yX1_meets cX1_meets 5 (some .int) : Cond) ∈ pt_all := List.mem_of_getElem? (i := 221) rfl
theorem pw222 : (.methodLink RL 81 yX1_free : Cond) ∈ pt_all := List.mem_of_getElem? (i := 222) rfl
theorem pw223 : (.instanceMethod yX1_free : Cond) ∈ pt_all := List.mem_of_getElem? (i := 223) rfl
theorem pw224 : (.selects RX1 yX1_free yX1_free : Cond) ∈ pt_all := List.mem_of_getElem? (i := 224) rfl
theorem pw225 : (.code yX1_free cX1_free 5 (some .long) : Cond) ∈ pt_all := List.mem_of_getElem? (i := 225) rfl
theorem pw226 : (.methodLink RX1 69 yX1_none : Cond) ∈ pt_all := List.mem_of_getElem? (i := 226) rfl
theorem pw227 : (.instanceMethod yX1_none : Cond) ∈ pt_all := List.mem_of_getElem? (i := 227) rfl
theorem pw228 : (.code yX1_none cX1_none 8 (some .long) : Cond) ∈ pt_all := List.mem_of_getElem? (i := 228) rfl
theorem pw229 : (.methodLink RX1 61 yX1_bits : Cond) ∈ pt_all := List.mem_of_getElem? (i := 229) rfl
theorem pw230 : (.static yX1_bits : Cond) ∈ pt_all := List.mem_of_getElem? (i := 230) rfl
theorem pw231 : (.code yX1_bits cX1_bits 4 (some .int) : Cond) ∈ pt_all := List.mem_of_getElem? (i := 231) rfl
theorem pw232 : (.methodLink RX1 65 yX1_power : Cond) ∈ pt_all := List.mem_of_getElem? (i := 232) rfl
theorem pw233 : (.static yX1_power : Cond) ∈ pt_all := List.mem_of_getElem? (i := 233) rfl
theorem pw234 : (.code yX1_power cX1_power 1 (some .long) : Cond) ∈ pt_all := List.mem_of_getElem? (i := 234) rfl
theorem pw235 : (.methodLink RL 84 yX1_next : Cond) ∈ pt_all := List.mem_of_getElem? (i := 235) rfl
theorem pw236 : (.instanceMethod yX1_next : Cond) ∈ pt_all := List.mem_of_getElem? (i := 236) rfl
theorem pw237 : (.selects RX1 yX1_next yX1_next : Cond) ∈ pt_all := List.mem_of_getElem? (i := 237) rfl
theorem pw238 : (.code yX1_next cX1_next 13 (some .long) : Cond) ∈ pt_all := List.mem_of_getElem? (i := 238) rfl
theorem pw239 : (.methodLink RX1 73 yX1_some : Cond) ∈ pt_all := List.mem_of_getElem? (i := 239) rfl
theorem pw240 : (.instanceMethod yX1_some : Cond) ∈ pt_all := List.mem_of_getElem? (i := 240) rfl
theorem pw241 : (.code yX1_some cX1_some 5 (some .boolean) : Cond) ∈ pt_all := List.mem_of_getElem? (i := 241) rfl
theorem pw242 : (.methodLink RL 88 yX1_told : Cond) ∈ pt_all := List.mem_of_getElem? (i := 242) rfl
theorem pw243 : (.instanceMethod yX1_told : Cond) ∈ pt_all := List.mem_of_getElem? (i := 243) rfl
theorem pw244 : (.selects RX1 yX1_told yX1_told : Cond) ∈ pt_all := List.mem_of_getElem? (i := 244) rfl
theorem pw245 : (.code yX1_told cX1_told 3 (some .long) : Cond) ∈ pt_all := List.mem_of_getElem? (i := 245) rfl
theorem pw246 : (.methodLink RL 93 yX1_count : Cond) ∈ pt_all := List.mem_of_getElem? (i := 246) rfl
theorem pw247 : (.instanceMethod yX1_count : Cond) ∈ pt_all := List.mem_of_getElem? (i := 247) rfl
theorem pw248 : (.selects RX1 yX1_count yX1_count : Cond) ∈ pt_all := List.mem_of_getElem? (i := 248) rfl
theorem pw249 : (.code yX1_count cX1_count 2 (some .int) : Cond) ∈ pt_all := List.mem_of_getElem? (i := 249) rfl
theorem pw250 : (.constantLong RL 59 4294967295 : Cond) ∈ pt_all := List.mem_of_getElem? (i := 250) rfl
theorem pt_wsX0 : ∀ w ∈ u_ws RX0 TX0 7, w ∈ pt_all := by decide +kernel
theorem pt_wsX1 : ∀ w ∈ u_ws RX1 TX1 7, w ∈ pt_all := by decide +kernel
theorem pt_gin {c : Cond} {ws : List Cond} (h : ∀ w ∈ ws, w ∈ pt_all) : GoodIn (c :: pt_all) ws := fun w hw => ⟨List.mem_cons_of_mem _ (h w hw), (pt_all_in w (h w hw)).2⟩
theorem pt_gV {c : Cond} {own : String} {i : Nat} {C : String} {y : MethodName} {b : ByteArray} {n : Nat} {r : Option FieldType} (h1 : .methodLink own i y ∈ pt_all) (h2 : .instanceMethod y ∈ pt_all) (h3 : .selects C y y ∈ pt_all) (h4 : .initialized C ∈ pt_all) (h5 : .code y b n r ∈ pt_all) : GoodIn (c :: pt_all) (wsV own i C y (.code y b n r :: pt_all)) := pt_gin fun w hw => by
  simp only [wsV, List.cons_append, List.nil_append, List.mem_cons] at hw
  rcases hw with rfl | rfl | rfl | rfl | rfl | h
  · exact h1
  · exact h2
  · exact h3
  · exact h4
  · exact h5
  · exact h
theorem pt_gS {c : Cond} {own : String} {i : Nat} {y : MethodName} {b : ByteArray} {n : Nat} {r : Option FieldType} (h1 : .methodLink own i y ∈ pt_all) (h2 : .static y ∈ pt_all) (h4 : .initialized y.cls ∈ pt_all) (h5 : .code y b n r ∈ pt_all) : GoodIn (c :: pt_all) (va_wsS own i y (.code y b n r :: pt_all)) := pt_gin fun w hw => by
  simp only [va_wsS, List.cons_append, List.nil_append, List.mem_cons] at hw
  rcases hw with rfl | rfl | rfl | rfl | h
  · exact h1
  · exact h2
  · exact h4
  · exact h5
  · exact h
theorem pt_gW {c : Cond} {own : String} {i : Nat} {y : MethodName} {b : ByteArray} {n : Nat} {r : Option FieldType} {hh : List (Nat × Nat × Nat × Nat)} (h1 : .methodLink own i y ∈ pt_all) (h2 : .static y ∈ pt_all) (h4 : .initialized y.cls ∈ pt_all) (h5 : .codeWith y b n r hh ∈ pt_all) : GoodIn (c :: pt_all) (va_wsS own i y (.codeWith y b n r hh :: pt_all)) := pt_gin fun w hw => by
  simp only [va_wsS, List.cons_append, List.nil_append, List.mem_cons] at hw
  rcases hw with rfl | rfl | rfl | rfl | h
  · exact h1
  · exact h2
  · exact h4
  · exact h5
  · exact h
theorem pt_gI {c : Cond} {y : MethodName} {b : ByteArray} {n : Nat} {r : Option FieldType} (h5 : .code y b n r ∈ pt_all) : GoodIn (c :: pt_all) (.code y b n r :: pt_all) := pt_gin fun w hw => by
  rcases List.mem_cons.mp hw with rfl | h
  · exact h5
  · exact h
