section
-- ===== PART A: goes FIRST, ahead of the names: the tables' words, and 'selects' of the private methods out of them =====
/-- a private method of a class that the tables say can be made, by its rows of tables_1 -/
def lw_okq (q : MethodName × Nat) : Prop := (q.1.cls ≠ "java/lang/invoke/MethodHandle" ∧ q.1.cls ≠ "java/lang/invoke/VarHandle") ∧ Cond.instantiable q.1.cls q.2 ∈ tables_1 ∧ Cond.privateMethod q.1 ∈ tables_1 ∧ Cond.instanceMethod q.1 ∈ tables_1
theorem lw_p0 : lw_okq (⟨"PatternTree", "sharesWord", "(IJJ)Z"⟩, 7) := ⟨⟨by decide +kernel, by decide +kernel⟩, List.mem_of_getElem? (i := 11) (by decide +kernel), List.mem_of_getElem? (i := 50) (by decide +kernel), List.mem_of_getElem? (i := 51) (by decide +kernel)⟩
theorem lw_p1 : lw_okq (⟨"java/lang/Throwable", "fillInStackTrace", "(I)Ljava/lang/Throwable;"⟩, 6) := ⟨⟨by decide +kernel, by decide +kernel⟩, List.mem_of_getElem? (i := 104) (by decide +kernel), List.mem_of_getElem? (i := 102) (by decide +kernel), List.mem_of_getElem? (i := 103) (by decide +kernel)⟩
theorem lw_p2 : lw_okq (⟨"PatternTree", "refuseStrayWant", "(JJ)V"⟩, 7) := ⟨⟨by decide +kernel, by decide +kernel⟩, List.mem_of_getElem? (i := 11) (by decide +kernel), List.mem_of_getElem? (i := 142) (by decide +kernel), List.mem_of_getElem? (i := 143) (by decide +kernel)⟩
theorem lw_p3 : lw_okq (⟨"PatternTree", "append", "(JJ)I"⟩, 7) := ⟨⟨by decide +kernel, by decide +kernel⟩, List.mem_of_getElem? (i := 11) (by decide +kernel), List.mem_of_getElem? (i := 147) (by decide +kernel), List.mem_of_getElem? (i := 148) (by decide +kernel)⟩
theorem lw_p4 : lw_okq (⟨"PatternTree", "firstSharing", "(JJ)I"⟩, 7) := ⟨⟨by decide +kernel, by decide +kernel⟩, List.mem_of_getElem? (i := 11) (by decide +kernel), List.mem_of_getElem? (i := 167) (by decide +kernel), List.mem_of_getElem? (i := 168) (by decide +kernel)⟩
theorem lw_p5 : lw_okq (⟨"PatternTree", "refuseAbsent", "(I)V"⟩, 7) := ⟨⟨by decide +kernel, by decide +kernel⟩, List.mem_of_getElem? (i := 11) (by decide +kernel), List.mem_of_getElem? (i := 190) (by decide +kernel), List.mem_of_getElem? (i := 191) (by decide +kernel)⟩
theorem lw_p6 : lw_okq (⟨"PatternTree", "freeWords", "(JJ)J"⟩, 7) := ⟨⟨by decide +kernel, by decide +kernel⟩, List.mem_of_getElem? (i := 11) (by decide +kernel), List.mem_of_getElem? (i := 224) (by decide +kernel), List.mem_of_getElem? (i := 225) (by decide +kernel)⟩
theorem lw_p7 : lw_okq (⟨"PatternTree", "wordsOf", "(J)J"⟩, 7) := ⟨⟨by decide +kernel, by decide +kernel⟩, List.mem_of_getElem? (i := 11) (by decide +kernel), List.mem_of_getElem? (i := 228) (by decide +kernel), List.mem_of_getElem? (i := 229) (by decide +kernel)⟩
theorem lw_p8 : lw_okq (⟨"PatternTree", "bitsFrom", "(I)J"⟩, 7) := ⟨⟨by decide +kernel, by decide +kernel⟩, List.mem_of_getElem? (i := 11) (by decide +kernel), List.mem_of_getElem? (i := 245) (by decide +kernel), List.mem_of_getElem? (i := 246) (by decide +kernel)⟩
theorem lw_p9 : lw_okq (⟨"PatternTree", "leastFree", "(IJ)J"⟩, 7) := ⟨⟨by decide +kernel, by decide +kernel⟩, List.mem_of_getElem? (i := 11) (by decide +kernel), List.mem_of_getElem? (i := 249) (by decide +kernel), List.mem_of_getElem? (i := 250) (by decide +kernel)⟩
theorem lw_p10 : lw_okq (⟨"PatternTreeModel", "fail", "(I)I"⟩, 7) := ⟨⟨by decide +kernel, by decide +kernel⟩, List.mem_of_getElem? (i := 262) (by decide +kernel), List.mem_of_getElem? (i := 298) (by decide +kernel), List.mem_of_getElem? (i := 299) (by decide +kernel)⟩
theorem lw_p11 : lw_okq (⟨"PatternTreeModel", "wrong", "(JJ)Z"⟩, 7) := ⟨⟨by decide +kernel, by decide +kernel⟩, List.mem_of_getElem? (i := 262) (by decide +kernel), List.mem_of_getElem? (i := 306) (by decide +kernel), List.mem_of_getElem? (i := 307) (by decide +kernel)⟩
theorem lw_p12 : lw_okq (⟨"PatternTreeModel", "mask", "()J"⟩, 7) := ⟨⟨by decide +kernel, by decide +kernel⟩, List.mem_of_getElem? (i := 262) (by decide +kernel), List.mem_of_getElem? (i := 311) (by decide +kernel), List.mem_of_getElem? (i := 312) (by decide +kernel)⟩
theorem lw_p13 : lw_okq (⟨"PatternTreeModel", "first", "(JJ)I"⟩, 7) := ⟨⟨by decide +kernel, by decide +kernel⟩, List.mem_of_getElem? (i := 262) (by decide +kernel), List.mem_of_getElem? (i := 315) (by decide +kernel), List.mem_of_getElem? (i := 316) (by decide +kernel)⟩
theorem lw_p14 : lw_okq (⟨"PatternTreeModel", "meet", "(IJJ)Z"⟩, 7) := ⟨⟨by decide +kernel, by decide +kernel⟩, List.mem_of_getElem? (i := 262) (by decide +kernel), List.mem_of_getElem? (i := 319) (by decide +kernel), List.mem_of_getElem? (i := 320) (by decide +kernel)⟩
theorem lw_p15 : lw_okq (⟨"PatternTreeModel", "none", "(JJ)J"⟩, 7) := ⟨⟨by decide +kernel, by decide +kernel⟩, List.mem_of_getElem? (i := 262) (by decide +kernel), List.mem_of_getElem? (i := 346) (by decide +kernel), List.mem_of_getElem? (i := 347) (by decide +kernel)⟩
def lw_privs_1 : List (MethodName × Nat) := [(⟨"PatternTree", "sharesWord", "(IJJ)Z"⟩, 7), (⟨"java/lang/Throwable", "fillInStackTrace", "(I)Ljava/lang/Throwable;"⟩, 6), (⟨"PatternTree", "refuseStrayWant", "(JJ)V"⟩, 7), (⟨"PatternTree", "append", "(JJ)I"⟩, 7), (⟨"PatternTree", "firstSharing", "(JJ)I"⟩, 7), (⟨"PatternTree", "refuseAbsent", "(I)V"⟩, 7), (⟨"PatternTree", "freeWords", "(JJ)J"⟩, 7), (⟨"PatternTree", "wordsOf", "(J)J"⟩, 7), (⟨"PatternTree", "bitsFrom", "(I)J"⟩, 7), (⟨"PatternTree", "leastFree", "(IJ)J"⟩, 7), (⟨"PatternTreeModel", "fail", "(I)I"⟩, 7), (⟨"PatternTreeModel", "wrong", "(JJ)Z"⟩, 7), (⟨"PatternTreeModel", "mask", "()J"⟩, 7), (⟨"PatternTreeModel", "first", "(JJ)I"⟩, 7), (⟨"PatternTreeModel", "meet", "(IJJ)Z"⟩, 7), (⟨"PatternTreeModel", "none", "(JJ)J"⟩, 7)]
theorem lw_r1 : ∀ q ∈ lw_privs_1, lw_okq q := List.forall_mem_cons.mpr ⟨lw_p0, List.forall_mem_cons.mpr ⟨lw_p1, List.forall_mem_cons.mpr ⟨lw_p2, List.forall_mem_cons.mpr ⟨lw_p3, List.forall_mem_cons.mpr ⟨lw_p4, List.forall_mem_cons.mpr ⟨lw_p5, List.forall_mem_cons.mpr ⟨lw_p6, List.forall_mem_cons.mpr ⟨lw_p7, List.forall_mem_cons.mpr ⟨lw_p8, List.forall_mem_cons.mpr ⟨lw_p9, List.forall_mem_cons.mpr ⟨lw_p10, List.forall_mem_cons.mpr ⟨lw_p11, List.forall_mem_cons.mpr ⟨lw_p12, List.forall_mem_cons.mpr ⟨lw_p13, List.forall_mem_cons.mpr ⟨lw_p14, List.forall_mem_cons.mpr ⟨lw_p15, fun _ h => absurd h List.not_mem_nil⟩⟩⟩⟩⟩⟩⟩⟩⟩⟩⟩⟩⟩⟩⟩⟩
theorem lw_p16 : lw_okq (⟨"PatternTreeModel", "some", "(JJ)Z"⟩, 7) := ⟨⟨by decide +kernel, by decide +kernel⟩, List.mem_of_getElem? (i := 262) (by decide +kernel), List.mem_of_getElem? (i := 360) (by decide +kernel), List.mem_of_getElem? (i := 361) (by decide +kernel)⟩
def lw_privs_2 : List (MethodName × Nat) := [(⟨"PatternTreeModel", "some", "(JJ)Z"⟩, 7)]
theorem lw_r2 : ∀ q ∈ lw_privs_2, lw_okq q := List.forall_mem_cons.mpr ⟨lw_p16, fun _ h => absurd h List.not_mem_nil⟩
def lw_privs : List (MethodName × Nat) := lw_privs_1 ++ (lw_privs_2)
def lw_tbl : List Cond := k2_sels lw_privs ++ tables_1
theorem lw_privs_ok : ∀ q ∈ lw_privs, lw_okq q := by
  show ∀ q ∈ lw_privs_1 ++ (lw_privs_2), lw_okq q
  exact List.forall_mem_append.mpr ⟨lw_r1, lw_r2⟩
end
section
def RX0 : String := "PatternTree"
def RX1 : String := "PatternTreeModel"
def RL : String := "PatternTreeLaw"
def RJ : String := "java/lang/Long"
def TX0 : u_T := fun k => match k with
  | 0 => ("PatternTree", "cares", "[J", true)
  | 1 => ("PatternTree", "wants", "[J", true)
  | 2 => ("PatternTree", "size", "I", false)
  | 3 => ("PatternTree", "length", "I", false)
  | 4 => ("PatternTree", "mask", "J", false)
  | 5 => ("PatternTree", "clash", "I", false)
  | _ => ("PatternTree", "surplus", "I", false)
def tyX0 : Nat → FieldType := fun k => match k with
  | 0 => .array .long
  | 1 => .array .long
  | 2 => .int
  | 3 => .int
  | 4 => .long
  | 5 => .int
  | _ => .int
theorem nmX0 : ∀ a, a < 7 → ∀ b, b < 7 → a ≠ b → (TX0 a).2.1 ≠ (TX0 b).2.1 := by decide +kernel
theorem tyX0_ok : ∀ k, k < 7 → parseFieldDescriptor (TX0 k).2.2.1 = some (tyX0 k) := by decide +kernel
def TX1 : u_T := fun k => match k with
  | 0 => ("PatternTreeModel", "care", "[J", true)
  | 1 => ("PatternTreeModel", "want", "[J", true)
  | 2 => ("PatternTreeModel", "many", "I", false)
  | 3 => ("PatternTreeModel", "length", "I", false)
  | 4 => ("PatternTreeModel", "clash", "I", false)
  | 5 => ("PatternTreeModel", "beyond", "I", false)
  | _ => ("PatternTreeModel", "thrown", "I", false)
def tyX1 : Nat → FieldType := fun k => match k with
  | 0 => .array .long
  | 1 => .array .long
  | 2 => .int
  | 3 => .int
  | 4 => .int
  | 5 => .int
  | _ => .int
theorem nmX1 : ∀ a, a < 7 → ∀ b, b < 7 → a ≠ b → (TX1 a).2.1 ≠ (TX1 b).2.1 := by decide +kernel
theorem tyX1_ok : ∀ k, k < 7 → parseFieldDescriptor (TX1 k).2.2.1 = some (tyX1 k) := by decide +kernel
abbrev vwCl : List vw_C := [(RX0, TX0, 7), (RX1, TX1, 7)]
abbrev cX0_init : ByteArray := prog_1_method_1_code
def yX0_init : MethodName := ⟨RX0, "<init>", "()V"⟩
abbrev cX0_lowestBits : ByteArray := prog_1_method_21_code
def yX0_lowestBits : MethodName := ⟨RX0, "lowestBits", "(I)J"⟩
abbrev cX0_decode : ByteArray := prog_1_method_6_code
def yX0_decode : MethodName := ⟨RX0, "decode", "(J)I"⟩
abbrev cX0_sharesWord : ByteArray := prog_1_method_16_code
def yX0_sharesWord : MethodName := ⟨RX0, "sharesWord", "(IJJ)Z"⟩
abbrev cX0_count : ByteArray := prog_1_method_11_code
def yX0_count : MethodName := ⟨RX0, "count", "(I)I"⟩
abbrev cL_clear : ByteArray := method_3_code
def yL_clear : MethodName := ⟨RL, "clear", "(LPatternTree;I)I"⟩
abbrev cX0_clear : ByteArray := prog_1_method_2_code
def yX0_clear : MethodName := ⟨RX0, "clear", "(I)V"⟩
abbrev cL_add : ByteArray := method_4_code
def yL_add : MethodName := ⟨RL, "add", "(LPatternTree;JJ[J)I"⟩
abbrev cX0_add : ByteArray := prog_1_method_3_code
def yX0_add : MethodName := ⟨RX0, "add", "(JJ)I"⟩
abbrev cX0_refuseStrayWant : ByteArray := prog_1_method_12_code
def yX0_refuseStrayWant : MethodName := ⟨RX0, "refuseStrayWant", "(JJ)V"⟩
abbrev cX0_append : ByteArray := prog_1_method_14_code
def yX0_append : MethodName := ⟨RX0, "append", "(JJ)I"⟩
abbrev cX0_firstSharing : ByteArray := prog_1_method_15_code
def yX0_firstSharing : MethodName := ⟨RX0, "firstSharing", "(JJ)I"⟩
abbrev cL_signs : ByteArray := method_5_code
def yL_signs : MethodName := ⟨RL, "signs", "(LPatternTree;J[J)I"⟩
abbrev cX0_signs : ByteArray := prog_1_method_4_code
def yX0_signs : MethodName := ⟨RX0, "signs", "(J)I"⟩
abbrev cL_drop : ByteArray := method_6_code
def yL_drop : MethodName := ⟨RL, "drop", "(LPatternTree;I)I"⟩
abbrev cX0_drop : ByteArray := prog_1_method_5_code
def yX0_drop : MethodName := ⟨RX0, "drop", "(I)V"⟩
abbrev cX0_refuseAbsent : ByteArray := prog_1_method_13_code
def yX0_refuseAbsent : MethodName := ⟨RX0, "refuseAbsent", "(I)V"⟩
abbrev cL_meets : ByteArray := method_7_code
def yL_meets : MethodName := ⟨RL, "meets", "(LPatternTree;JJ[J)I"⟩
abbrev cX0_meets : ByteArray := prog_1_method_7_code
def yX0_meets : MethodName := ⟨RX0, "meets", "(JJ)I"⟩
abbrev cL_free : ByteArray := method_8_code
def yL_free : MethodName := ⟨RL, "free", "(LPatternTree;JJ[J)I"⟩
abbrev cX0_free : ByteArray := prog_1_method_8_code
def yX0_free : MethodName := ⟨RX0, "free", "(JJ)J"⟩
abbrev cX0_freeWords : ByteArray := prog_1_method_17_code
def yX0_freeWords : MethodName := ⟨RX0, "freeWords", "(JJ)J"⟩
abbrev cX0_wordsOf : ByteArray := prog_1_method_19_code
def yX0_wordsOf : MethodName := ⟨RX0, "wordsOf", "(J)J"⟩
abbrev cJ_bitCount : ByteArray := prog_7_method_50_code
def yJ_bitCount : MethodName := ⟨RJ, "bitCount", "(J)I"⟩
abbrev cL_next : ByteArray := method_9_code
def yL_next : MethodName := ⟨RL, "next", "(LPatternTree;J[J)I"⟩
abbrev cX0_next : ByteArray := prog_1_method_9_code
def yX0_next : MethodName := ⟨RX0, "next", "(J)J"⟩
abbrev cX0_bitsFrom : ByteArray := prog_1_method_20_code
def yX0_bitsFrom : MethodName := ⟨RX0, "bitsFrom", "(I)J"⟩
abbrev cX0_leastFree : ByteArray := prog_1_method_18_code
def yX0_leastFree : MethodName := ⟨RX0, "leastFree", "(IJ)J"⟩
abbrev cL_told : ByteArray := method_10_code
def yL_told : MethodName := ⟨RL, "told", "(LPatternTree;II[J)I"⟩
abbrev cX0_told : ByteArray := prog_1_method_10_code
def yX0_told : MethodName := ⟨RX0, "told", "(II)J"⟩
abbrev cX1_init : ByteArray := prog_3_method_1_code
def yX1_init : MethodName := ⟨RX1, "<init>", "()V"⟩
abbrev cX1_thrown : ByteArray := prog_3_method_2_code
def yX1_thrown : MethodName := ⟨RX1, "thrown", "()I"⟩
abbrev cX1_clear : ByteArray := prog_3_method_10_code
def yX1_clear : MethodName := ⟨RX1, "clear", "(I)V"⟩
abbrev cX1_fail : ByteArray := prog_3_method_3_code
def yX1_fail : MethodName := ⟨RX1, "fail", "(I)I"⟩
abbrev cX1_add : ByteArray := prog_3_method_11_code
def yX1_add : MethodName := ⟨RX1, "add", "(JJ)I"⟩
abbrev cX1_wrong : ByteArray := prog_3_method_7_code
def yX1_wrong : MethodName := ⟨RX1, "wrong", "(JJ)Z"⟩
abbrev cX1_mask : ByteArray := prog_3_method_4_code
def yX1_mask : MethodName := ⟨RX1, "mask", "()J"⟩
abbrev cX1_first : ByteArray := prog_3_method_9_code
def yX1_first : MethodName := ⟨RX1, "first", "(JJ)I"⟩
abbrev cX1_meet : ByteArray := prog_3_method_8_code
def yX1_meet : MethodName := ⟨RX1, "meet", "(IJJ)Z"⟩
abbrev cX1_signs : ByteArray := prog_3_method_12_code
def yX1_signs : MethodName := ⟨RX1, "signs", "(J)I"⟩
abbrev cX1_drop : ByteArray := prog_3_method_13_code
def yX1_drop : MethodName := ⟨RX1, "drop", "(I)V"⟩
abbrev cX1_decode : ByteArray := prog_3_method_14_code
def yX1_decode : MethodName := ⟨RX1, "decode", "(J)I"⟩
abbrev cX1_meets : ByteArray := prog_3_method_15_code
def yX1_meets : MethodName := ⟨RX1, "meets", "(JJ)I"⟩
abbrev cX1_free : ByteArray := prog_3_method_17_code
def yX1_free : MethodName := ⟨RX1, "free", "(JJ)J"⟩
abbrev cX1_none : ByteArray := prog_3_method_16_code
def yX1_none : MethodName := ⟨RX1, "none", "(JJ)J"⟩
abbrev cX1_bits : ByteArray := prog_3_method_5_code
def yX1_bits : MethodName := ⟨RX1, "bits", "(J)I"⟩
abbrev cX1_power : ByteArray := prog_3_method_6_code
def yX1_power : MethodName := ⟨RX1, "power", "(I)J"⟩
abbrev cX1_next : ByteArray := prog_3_method_19_code
def yX1_next : MethodName := ⟨RX1, "next", "(J)J"⟩
abbrev cX1_some : ByteArray := prog_3_method_18_code
def yX1_some : MethodName := ⟨RX1, "some", "(JJ)Z"⟩
abbrev cX1_told : ByteArray := prog_3_method_20_code
def yX1_told : MethodName := ⟨RX1, "told", "(II)J"⟩
abbrev cX1_count : ByteArray := prog_3_method_21_code
def yX1_count : MethodName := ⟨RX1, "count", "(I)I"⟩
abbrev cL_law : ByteArray := code
def yL_law : MethodName := ⟨RL, "law", "([I)Z"⟩
/-- the words that all methods here lean on -/
def pt_all : List Cond := [
  .selects RX0 yX0_sharesWord yX0_sharesWord,
  .selects RX0 yX0_refuseStrayWant yX0_refuseStrayWant,
  .selects RX0 yX0_append yX0_append,
  .selects RX0 yX0_firstSharing yX0_firstSharing,
  .selects RX0 yX0_refuseAbsent yX0_refuseAbsent,
  .selects RX0 yX0_freeWords yX0_freeWords,
  .selects RX0 yX0_wordsOf yX0_wordsOf,
  .selects RX0 yX0_bitsFrom yX0_bitsFrom,
  .selects RX0 yX0_leastFree yX0_leastFree,
  .selects RX1 yX1_fail yX1_fail,
  .selects RX1 yX1_wrong yX1_wrong,
  .selects RX1 yX1_mask yX1_mask,
  .selects RX1 yX1_first yX1_first,
  .selects RX1 yX1_meet yX1_meet,
  .selects RX1 yX1_none yX1_none,
  .selects RX1 yX1_some yX1_some,
  .initialized RL,
  .initialized RX0,
  .initialized RX1,
  .initialized RJ,
  .classLink RL 8 RX0,
  .instantiable RX0 7,
  .methodLink RL 45 yX0_init,
  .instanceMethod yX0_init,
  .code yX0_init cX0_init 1 none,
  .methodLink RX0 1 objectInit,
  .instanceMethod objectInit,
  .code objectInit object_method_1_code 1 none,
  .methodLink RX0 23 yX0_lowestBits,
  .static yX0_lowestBits,
  .code yX0_lowestBits cX0_lowestBits 1 (some .long),
  .constantLong RX0 93 (-1),
  .fieldLink RX0 9 "PatternTree" "cares" "[J",
  .fieldLink RX0 13 "PatternTree" "wants" "[J",
  .fieldLink RX0 16 "PatternTree" "size" "I",
  .fieldLink RX0 20 "PatternTree" "length" "I",
  .fieldLink RX0 27 "PatternTree" "mask" "J",
  .fieldLink RX0 31 "PatternTree" "clash" "I",
  .fieldLink RX0 34 "PatternTree" "surplus" "I",
  .laysFinal RX0 "PatternTree" "cares" "[J",
  .laysFinal RX0 "PatternTree" "wants" "[J",
  .lays RX0 "PatternTree" "size" "I",
  .lays RX0 "PatternTree" "length" "I",
  .lays RX0 "PatternTree" "mask" "J",
  .lays RX0 "PatternTree" "clash" "I",
  .lays RX0 "PatternTree" "surplus" "I",
  .arrayClass .long,
  .methodLink RL 72 yX0_decode,
  .instanceMethod yX0_decode,
  .selects RX0 yX0_decode yX0_decode,
  .code yX0_decode cX0_decode 5 (some .int),
  .methodLink RX0 62 yX0_sharesWord,
  .instanceMethod yX0_sharesWord,
  .code yX0_sharesWord cX0_sharesWord 6 (some .boolean),
  .methodLink RL 89 yX0_count,
  .instanceMethod yX0_count,
  .selects RX0 yX0_count yX0_count,
  .code yX0_count cX0_count 2 (some .int),
  .methodLink RL 49 yL_clear,
  .static yL_clear,
  .codeWith yL_clear cL_clear 3 (some .int) [(0, 5, 8, 13)],
  .classLink RL 13 "java/lang/IllegalArgumentException",
  .methodLink RL 7 yX0_clear,
  .instanceMethod yX0_clear,
  .selects RX0 yX0_clear yX0_clear,
  .code yX0_clear cX0_clear 2 none,
  .classLink RX0 37 "java/lang/IllegalArgumentException",
  .methodLink RX0 41 ⟨"java/lang/IllegalArgumentException", "<init>", "(Ljava/lang/String;)V"⟩,
  .methodLink RL 61 yL_add,
  .static yL_add,
  .codeWith yL_add cL_add 7 (some .int) [(0, 11, 14, 13), (0, 11, 18, 19)],
  .classLink RL 19 "java/lang/IllegalStateException",
  .methodLink RL 15 yX0_add,
  .instanceMethod yX0_add,
  .selects RX0 yX0_add yX0_add,
  .code yX0_add cX0_add 5 (some .int),
  .methodLink RX0 44 yX0_refuseStrayWant,
  .instanceMethod yX0_refuseStrayWant,
  .code yX0_refuseStrayWant cX0_refuseStrayWant 5 none,
  .methodLink RX0 48 yX0_append,
  .instanceMethod yX0_append,
  .code yX0_append cX0_append 6 (some .int),
  .classLink RX0 99 "java/lang/IllegalStateException",
  .methodLink RX0 103 ⟨"java/lang/IllegalStateException", "<init>", "(Ljava/lang/String;)V"⟩,
  .methodLink RX0 66 yX0_firstSharing,
  .instanceMethod yX0_firstSharing,
  .code yX0_firstSharing cX0_firstSharing 6 (some .int),
  .methodLink RL 65 yL_signs,
  .static yL_signs,
  .codeWith yL_signs cL_signs 5 (some .int) [(0, 9, 12, 13), (0, 9, 16, 19)],
  .methodLink RL 21 yX0_signs,
  .instanceMethod yX0_signs,
  .selects RX0 yX0_signs yX0_signs,
  .code yX0_signs cX0_signs 12 (some .int),
  .constantLong RX0 54 3,
  .constantLong RX0 56 2,
  .methodLink RL 69 yL_drop,
  .static yL_drop,
  .codeWith yL_drop cL_drop 3 (some .int) [(0, 5, 8, 28)],
  .classLink RL 28 "java/util/NoSuchElementException",
  .methodLink RL 25 yX0_drop,
  .instanceMethod yX0_drop,
  .selects RX0 yX0_drop yX0_drop,
  .code yX0_drop cX0_drop 3 none,
  .methodLink RX0 58 yX0_refuseAbsent,
  .instanceMethod yX0_refuseAbsent,
  .code yX0_refuseAbsent cX0_refuseAbsent 2 none,
  .classLink RX0 80 "java/util/NoSuchElementException",
  .methodLink RX0 84 ⟨"java/util/NoSuchElementException", "<init>", "(Ljava/lang/String;)V"⟩,
  .methodLink RL 76 yL_meets,
  .static yL_meets,
  .codeWith yL_meets cL_meets 7 (some .int) [(0, 11, 14, 13)],
  .methodLink RL 30 yX0_meets,
  .instanceMethod yX0_meets,
  .selects RX0 yX0_meets yX0_meets,
  .code yX0_meets cX0_meets 5 (some .int),
  .methodLink RL 79 yL_free,
  .static yL_free,
  .codeWith yL_free cL_free 7 (some .int) [(0, 10, 13, 13)],
  .methodLink RL 33 yX0_free,
  .instanceMethod yX0_free,
  .selects RX0 yX0_free yX0_free,
  .code yX0_free cX0_free 5 (some .long),
  .methodLink RX0 69 yX0_freeWords,
  .instanceMethod yX0_freeWords,
  .code yX0_freeWords cX0_freeWords 8 (some .long),
  .methodLink RX0 106 yX0_wordsOf,
  .instanceMethod yX0_wordsOf,
  .code yX0_wordsOf cX0_wordsOf 4 (some .long),
  .methodLink RX0 87 yJ_bitCount,
  .static yJ_bitCount,
  .code yJ_bitCount cJ_bitCount 2 (some .int),
  .constantLong RJ 314 6148914691236517205,
  .constantLong RJ 316 3689348814741910323,
  .constantLong RJ 318 1085102592571150095,
  .methodLink RL 82 yL_next,
  .static yL_next,
  .codeWith yL_next cL_next 5 (some .int) [(0, 8, 11, 28)],
  .methodLink RL 37 yX0_next,
  .instanceMethod yX0_next,
  .selects RX0 yX0_next yX0_next,
  .code yX0_next cX0_next 8 (some .long),
  .methodLink RX0 73 yX0_bitsFrom,
  .instanceMethod yX0_bitsFrom,
  .code yX0_bitsFrom cX0_bitsFrom 2 (some .long),
  .methodLink RX0 76 yX0_leastFree,
  .instanceMethod yX0_leastFree,
  .code yX0_leastFree cX0_leastFree 7 (some .long),
  .methodLink RL 85 yL_told,
  .static yL_told,
  .codeWith yL_told cL_told 5 (some .int) [(0, 9, 12, 13), (0, 9, 16, 28)],
  .methodLink RL 41 yX0_told,
  .instanceMethod yX0_told,
  .selects RX0 yX0_told yX0_told,
  .code yX0_told cX0_told 3 (some .long),
  .classLink RL 46 RX1,
  .instantiable RX1 7,
  .methodLink RL 48 yX1_init,
  .instanceMethod yX1_init,
  .code yX1_init cX1_init 1 none,
  .methodLink RX1 1 objectInit,
  .fieldLink RX1 7 "PatternTreeModel" "care" "[J",
  .fieldLink RX1 13 "PatternTreeModel" "want" "[J",
  .fieldLink RX1 32 "PatternTreeModel" "many" "I",
  .fieldLink RX1 16 "PatternTreeModel" "length" "I",
  .fieldLink RX1 20 "PatternTreeModel" "clash" "I",
  .fieldLink RX1 58 "PatternTreeModel" "beyond" "I",
  .fieldLink RX1 23 "PatternTreeModel" "thrown" "I",
  .laysFinal RX1 "PatternTreeModel" "care" "[J",
  .laysFinal RX1 "PatternTreeModel" "want" "[J",
  .lays RX1 "PatternTreeModel" "many" "I",
  .lays RX1 "PatternTreeModel" "length" "I",
  .lays RX1 "PatternTreeModel" "clash" "I",
  .lays RX1 "PatternTreeModel" "beyond" "I",
  .lays RX1 "PatternTreeModel" "thrown" "I",
  .methodLink RL 55 yX1_thrown,
  .instanceMethod yX1_thrown,
  .selects RX1 yX1_thrown yX1_thrown,
  .code yX1_thrown cX1_thrown 1 (some .int),
  .methodLink RL 54 yX1_clear,
  .instanceMethod yX1_clear,
  .selects RX1 yX1_clear yX1_clear,
  .code yX1_clear cX1_clear 2 none,
  .methodLink RX1 39 yX1_fail,
  .instanceMethod yX1_fail,
  .code yX1_fail cX1_fail 2 (some .int),
  .methodLink RL 64 yX1_add,
  .instanceMethod yX1_add,
  .selects RX1 yX1_add yX1_add,
  .code yX1_add cX1_add 6 (some .int),
  .methodLink RX1 43 yX1_wrong,
  .instanceMethod yX1_wrong,
  .code yX1_wrong cX1_wrong 5 (some .boolean),
  .constantLong RX1 26 (-1),
  .methodLink RX1 28 yX1_mask,
  .instanceMethod yX1_mask,
  .code yX1_mask cX1_mask 1 (some .long),
  .methodLink RX1 47 yX1_first,
  .instanceMethod yX1_first,
  .code yX1_first cX1_first 6 (some .int),
  .methodLink RX1 35 yX1_meet,
  .instanceMethod yX1_meet,
  .code yX1_meet cX1_meet 6 (some .boolean),
  .methodLink RL 68 yX1_signs,
  .instanceMethod yX1_signs,
  .selects RX1 yX1_signs yX1_signs,
  .code yX1_signs cX1_signs 12 (some .int),
  .constantLong RX1 51 3,
  .constantLong RX1 53 2,
  .methodLink RX1 55 yX1_add,
  .methodLink RL 71 yX1_drop,
  .instanceMethod yX1_drop,
  .selects RX1 yX1_drop yX1_drop,
  .code yX1_drop cX1_drop 3 none,
  .methodLink RL 75 yX1_decode,
  .instanceMethod yX1_decode,
  .selects RX1 yX1_decode yX1_decode,
  .code yX1_decode cX1_decode 6 (some .int),
  .methodLink RL 78 yX1_meets,
  .instanceMethod yX1_meets,
  .selects RX1 yX1_meets yX1_meets,
  .code yX1_meets cX1_meets 5 (some .int),
  .methodLink RL 81 yX1_free,
  .instanceMethod yX1_free,
  .selects RX1 yX1_free yX1_free,
  .code yX1_free cX1_free 5 (some .long),
  .methodLink RX1 69 yX1_none,
  .instanceMethod yX1_none,
  .code yX1_none cX1_none 8 (some .long),
  .methodLink RX1 61 yX1_bits,
  .static yX1_bits,
  .code yX1_bits cX1_bits 4 (some .int),
  .methodLink RX1 65 yX1_power,
  .static yX1_power,
  .code yX1_power cX1_power 1 (some .long),
  .methodLink RL 84 yX1_next,
  .instanceMethod yX1_next,
  .selects RX1 yX1_next yX1_next,
  .code yX1_next cX1_next 13 (some .long),
  .methodLink RX1 73 yX1_some,
  .instanceMethod yX1_some,
  .code yX1_some cX1_some 5 (some .boolean),
  .methodLink RL 88 yX1_told,
  .instanceMethod yX1_told,
  .selects RX1 yX1_told yX1_told,
  .code yX1_told cX1_told 3 (some .long),
  .methodLink RL 93 yX1_count,
  .instanceMethod yX1_count,
  .selects RX1 yX1_count yX1_count,
  .code yX1_count cX1_count 2 (some .int),
  .constantLong RL 59 4294967295]
set_option maxRecDepth 20000 in
theorem pt_all_in : GoodIn lw_tbl pt_all := goodIn_p pt_all [31, 34, 37, 65, 69, 73, 81, 157, 161, 166, 186, 194, 205, 209, 232, 239, 243, 247, 250, 260, 264, 268, 276, 282, 309, 313, 317, 321, 325, 330, 334, 338, 342, 349, 353, 357, 361, 365, 368, 371, 375, 379, 383, 387] (by decide +kernel) (by decide +kernel)
abbrev wsX0_init : List Cond := .code yX0_init cX0_init 1 none :: pt_all
abbrev wsX0_lowestBits : List Cond := .code yX0_lowestBits cX0_lowestBits 1 (some .long) :: pt_all
abbrev wsX0_decode : List Cond := .code yX0_decode cX0_decode 5 (some .int) :: pt_all
abbrev wsX0_sharesWord : List Cond := .code yX0_sharesWord cX0_sharesWord 6 (some .boolean) :: pt_all
abbrev wsX0_count : List Cond := .code yX0_count cX0_count 2 (some .int) :: pt_all
abbrev wsL_clear : List Cond := .codeWith yL_clear cL_clear 3 (some .int) [(0, 5, 8, 13)] :: pt_all
abbrev wsX0_clear : List Cond := .code yX0_clear cX0_clear 2 none :: pt_all
abbrev wsL_add : List Cond := .codeWith yL_add cL_add 7 (some .int) [(0, 11, 14, 13), (0, 11, 18, 19)] :: pt_all
abbrev wsX0_add : List Cond := .code yX0_add cX0_add 5 (some .int) :: pt_all
abbrev wsX0_refuseStrayWant : List Cond := .code yX0_refuseStrayWant cX0_refuseStrayWant 5 none :: pt_all
abbrev wsX0_append : List Cond := .code yX0_append cX0_append 6 (some .int) :: pt_all
abbrev wsX0_firstSharing : List Cond := .code yX0_firstSharing cX0_firstSharing 6 (some .int) :: pt_all
abbrev wsL_signs : List Cond := .codeWith yL_signs cL_signs 5 (some .int) [(0, 9, 12, 13), (0, 9, 16, 19)] :: pt_all
abbrev wsX0_signs : List Cond := .code yX0_signs cX0_signs 12 (some .int) :: pt_all
abbrev wsL_drop : List Cond := .codeWith yL_drop cL_drop 3 (some .int) [(0, 5, 8, 28)] :: pt_all
abbrev wsX0_drop : List Cond := .code yX0_drop cX0_drop 3 none :: pt_all
abbrev wsX0_refuseAbsent : List Cond := .code yX0_refuseAbsent cX0_refuseAbsent 2 none :: pt_all
abbrev wsL_meets : List Cond := .codeWith yL_meets cL_meets 7 (some .int) [(0, 11, 14, 13)] :: pt_all
abbrev wsX0_meets : List Cond := .code yX0_meets cX0_meets 5 (some .int) :: pt_all
abbrev wsL_free : List Cond := .codeWith yL_free cL_free 7 (some .int) [(0, 10, 13, 13)] :: pt_all
abbrev wsX0_free : List Cond := .code yX0_free cX0_free 5 (some .long) :: pt_all
abbrev wsX0_freeWords : List Cond := .code yX0_freeWords cX0_freeWords 8 (some .long) :: pt_all
abbrev wsX0_wordsOf : List Cond := .code yX0_wordsOf cX0_wordsOf 4 (some .long) :: pt_all
abbrev wsJ_bitCount : List Cond := .code yJ_bitCount cJ_bitCount 2 (some .int) :: pt_all
abbrev wsL_next : List Cond := .codeWith yL_next cL_next 5 (some .int) [(0, 8, 11, 28)] :: pt_all
abbrev wsX0_next : List Cond := .code yX0_next cX0_next 8 (some .long) :: pt_all
abbrev wsX0_bitsFrom : List Cond := .code yX0_bitsFrom cX0_bitsFrom 2 (some .long) :: pt_all
abbrev wsX0_leastFree : List Cond := .code yX0_leastFree cX0_leastFree 7 (some .long) :: pt_all
abbrev wsL_told : List Cond := .codeWith yL_told cL_told 5 (some .int) [(0, 9, 12, 13), (0, 9, 16, 28)] :: pt_all
abbrev wsX0_told : List Cond := .code yX0_told cX0_told 3 (some .long) :: pt_all
abbrev wsX1_init : List Cond := .code yX1_init cX1_init 1 none :: pt_all
abbrev wsX1_thrown : List Cond := .code yX1_thrown cX1_thrown 1 (some .int) :: pt_all
abbrev wsX1_clear : List Cond := .code yX1_clear cX1_clear 2 none :: pt_all
abbrev wsX1_fail : List Cond := .code yX1_fail cX1_fail 2 (some .int) :: pt_all
abbrev wsX1_add : List Cond := .code yX1_add cX1_add 6 (some .int) :: pt_all
abbrev wsX1_wrong : List Cond := .code yX1_wrong cX1_wrong 5 (some .boolean) :: pt_all
abbrev wsX1_mask : List Cond := .code yX1_mask cX1_mask 1 (some .long) :: pt_all
abbrev wsX1_first : List Cond := .code yX1_first cX1_first 6 (some .int) :: pt_all
abbrev wsX1_meet : List Cond := .code yX1_meet cX1_meet 6 (some .boolean) :: pt_all
abbrev wsX1_signs : List Cond := .code yX1_signs cX1_signs 12 (some .int) :: pt_all
abbrev wsX1_drop : List Cond := .code yX1_drop cX1_drop 3 none :: pt_all
abbrev wsX1_decode : List Cond := .code yX1_decode cX1_decode 6 (some .int) :: pt_all
abbrev wsX1_meets : List Cond := .code yX1_meets cX1_meets 5 (some .int) :: pt_all
abbrev wsX1_free : List Cond := .code yX1_free cX1_free 5 (some .long) :: pt_all
abbrev wsX1_none : List Cond := .code yX1_none cX1_none 8 (some .long) :: pt_all
abbrev wsX1_bits : List Cond := .code yX1_bits cX1_bits 4 (some .int) :: pt_all
abbrev wsX1_power : List Cond := .code yX1_power cX1_power 1 (some .long) :: pt_all
abbrev wsX1_next : List Cond := .code yX1_next cX1_next 13 (some .long) :: pt_all
abbrev wsX1_some : List Cond := .code yX1_some cX1_some 5 (some .boolean) :: pt_all
abbrev wsX1_told : List Cond := .code yX1_told cX1_told 3 (some .long) :: pt_all
abbrev wsX1_count : List Cond := .code yX1_count cX1_count 2 (some .int) :: pt_all
theorem pw0 : (.selects RX0 yX0_sharesWord yX0_sharesWord : Cond) ∈ pt_all := List.mem_of_getElem? (i := 0) rfl
theorem pw1 : (.selects RX0 yX0_refuseStrayWant yX0_refuseStrayWant : Cond) ∈ pt_all := List.mem_of_getElem? (i := 1) rfl
theorem pw2 : (.selects RX0 yX0_append yX0_append : Cond) ∈ pt_all := List.mem_of_getElem? (i := 2) rfl
theorem pw3 : (.selects RX0 yX0_firstSharing yX0_firstSharing : Cond) ∈ pt_all := List.mem_of_getElem? (i := 3) rfl
theorem pw4 : (.selects RX0 yX0_refuseAbsent yX0_refuseAbsent : Cond) ∈ pt_all := List.mem_of_getElem? (i := 4) rfl
theorem pw5 : (.selects RX0 yX0_freeWords yX0_freeWords : Cond) ∈ pt_all := List.mem_of_getElem? (i := 5) rfl
theorem pw6 : (.selects RX0 yX0_wordsOf yX0_wordsOf : Cond) ∈ pt_all := List.mem_of_getElem? (i := 6) rfl
theorem pw7 : (.selects RX0 yX0_bitsFrom yX0_bitsFrom : Cond) ∈ pt_all := List.mem_of_getElem? (i := 7) rfl
theorem pw8 : (.selects RX0 yX0_leastFree yX0_leastFree : Cond) ∈ pt_all := List.mem_of_getElem? (i := 8) rfl
theorem pw9 : (.selects RX1 yX1_fail yX1_fail : Cond) ∈ pt_all := List.mem_of_getElem? (i := 9) rfl
theorem pw10 : (.selects RX1 yX1_wrong yX1_wrong : Cond) ∈ pt_all := List.mem_of_getElem? (i := 10) rfl
theorem pw11 : (.selects RX1 yX1_mask yX1_mask : Cond) ∈ pt_all := List.mem_of_getElem? (i := 11) rfl
theorem pw12 : (.selects RX1 yX1_first yX1_first : Cond) ∈ pt_all := List.mem_of_getElem? (i := 12) rfl
theorem pw13 : (.selects RX1 yX1_meet yX1_meet : Cond) ∈ pt_all := List.mem_of_getElem? (i := 13) rfl
theorem pw14 : (.selects RX1 yX1_none yX1_none : Cond) ∈ pt_all := List.mem_of_getElem? (i := 14) rfl
theorem pw15 : (.selects RX1 yX1_some yX1_some : Cond) ∈ pt_all := List.mem_of_getElem? (i := 15) rfl
theorem pw16 : (.initialized RL : Cond) ∈ pt_all := List.mem_of_getElem? (i := 16) rfl
theorem pw17 : (.initialized RX0 : Cond) ∈ pt_all := List.mem_of_getElem? (i := 17) rfl
theorem pw18 : (.initialized RX1 : Cond) ∈ pt_all := List.mem_of_getElem? (i := 18) rfl
theorem pw19 : (.initialized RJ : Cond) ∈ pt_all := List.mem_of_getElem? (i := 19) rfl
theorem pw20 : (.classLink RL 8 RX0 : Cond) ∈ pt_all := List.mem_of_getElem? (i := 20) rfl
theorem pw21 : (.instantiable RX0 7 : Cond) ∈ pt_all := List.mem_of_getElem? (i := 21) rfl
theorem pw22 : (.methodLink RL 45 yX0_init : Cond) ∈ pt_all := List.mem_of_getElem? (i := 22) rfl
theorem pw23 : (.instanceMethod yX0_init : Cond) ∈ pt_all := List.mem_of_getElem? (i := 23) rfl
theorem pw24 : (.code yX0_init cX0_init 1 none : Cond) ∈ pt_all := List.mem_of_getElem? (i := 24) rfl
theorem pw25 : (.methodLink RX0 1 objectInit : Cond) ∈ pt_all := List.mem_of_getElem? (i := 25) rfl
theorem pw26 : (.instanceMethod objectInit : Cond) ∈ pt_all := List.mem_of_getElem? (i := 26) rfl
theorem pw27 : (.code objectInit object_method_1_code 1 none : Cond) ∈ pt_all := List.mem_of_getElem? (i := 27) rfl
theorem pw28 : (.methodLink RX0 23 yX0_lowestBits : Cond) ∈ pt_all := List.mem_of_getElem? (i := 28) rfl
theorem pw29 : (.static yX0_lowestBits : Cond) ∈ pt_all := List.mem_of_getElem? (i := 29) rfl
theorem pw30 : (.code yX0_lowestBits cX0_lowestBits 1 (some .long) : Cond) ∈ pt_all := List.mem_of_getElem? (i := 30) rfl
theorem pw31 : (.constantLong RX0 93 (-1) : Cond) ∈ pt_all := List.mem_of_getElem? (i := 31) rfl
theorem pw32 : (.fieldLink RX0 9 "PatternTree" "cares" "[J" : Cond) ∈ pt_all := List.mem_of_getElem? (i := 32) rfl
theorem pw33 : (.fieldLink RX0 13 "PatternTree" "wants" "[J" : Cond) ∈ pt_all := List.mem_of_getElem? (i := 33) rfl
theorem pw34 : (.fieldLink RX0 16 "PatternTree" "size" "I" : Cond) ∈ pt_all := List.mem_of_getElem? (i := 34) rfl
theorem pw35 : (.fieldLink RX0 20 "PatternTree" "length" "I" : Cond) ∈ pt_all := List.mem_of_getElem? (i := 35) rfl
theorem pw36 : (.fieldLink RX0 27 "PatternTree" "mask" "J" : Cond) ∈ pt_all := List.mem_of_getElem? (i := 36) rfl
theorem pw37 : (.fieldLink RX0 31 "PatternTree" "clash" "I" : Cond) ∈ pt_all := List.mem_of_getElem? (i := 37) rfl
theorem pw38 : (.fieldLink RX0 34 "PatternTree" "surplus" "I" : Cond) ∈ pt_all := List.mem_of_getElem? (i := 38) rfl
theorem pw39 : (.laysFinal RX0 "PatternTree" "cares" "[J" : Cond) ∈ pt_all := List.mem_of_getElem? (i := 39) rfl
theorem pw40 : (.laysFinal RX0 "PatternTree" "wants" "[J" : Cond) ∈ pt_all := List.mem_of_getElem? (i := 40) rfl
theorem pw41 : (.lays RX0 "PatternTree" "size" "I" : Cond) ∈ pt_all := List.mem_of_getElem? (i := 41) rfl
theorem pw42 : (.lays RX0 "PatternTree" "length" "I" : Cond) ∈ pt_all := List.mem_of_getElem? (i := 42) rfl
theorem pw43 : (.lays RX0 "PatternTree" "mask" "J" : Cond) ∈ pt_all := List.mem_of_getElem? (i := 43) rfl
theorem pw44 : (.lays RX0 "PatternTree" "clash" "I" : Cond) ∈ pt_all := List.mem_of_getElem? (i := 44) rfl
theorem pw45 : (.lays RX0 "PatternTree" "surplus" "I" : Cond) ∈ pt_all := List.mem_of_getElem? (i := 45) rfl
theorem pw46 : (.arrayClass .long : Cond) ∈ pt_all := List.mem_of_getElem? (i := 46) rfl
theorem pw47 : (.methodLink RL 72 yX0_decode : Cond) ∈ pt_all := List.mem_of_getElem? (i := 47) rfl
theorem pw48 : (.instanceMethod yX0_decode : Cond) ∈ pt_all := List.mem_of_getElem? (i := 48) rfl
theorem pw49 : (.selects RX0 yX0_decode yX0_decode : Cond) ∈ pt_all := List.mem_of_getElem? (i := 49) rfl
theorem pw50 : (.code yX0_decode cX0_decode 5 (some .int) : Cond) ∈ pt_all := List.mem_of_getElem? (i := 50) rfl
theorem pw51 : (.methodLink RX0 62 yX0_sharesWord : Cond) ∈ pt_all := List.mem_of_getElem? (i := 51) rfl
theorem pw52 : (.instanceMethod yX0_sharesWord : Cond) ∈ pt_all := List.mem_of_getElem? (i := 52) rfl
theorem pw53 : (.code yX0_sharesWord cX0_sharesWord 6 (some .boolean) : Cond) ∈ pt_all := List.mem_of_getElem? (i := 53) rfl
theorem pw54 : (.methodLink RL 89 yX0_count : Cond) ∈ pt_all := List.mem_of_getElem? (i := 54) rfl
theorem pw55 : (.instanceMethod yX0_count : Cond) ∈ pt_all := List.mem_of_getElem? (i := 55) rfl
theorem pw56 : (.selects RX0 yX0_count yX0_count : Cond) ∈ pt_all := List.mem_of_getElem? (i := 56) rfl
theorem pw57 : (.code yX0_count cX0_count 2 (some .int) : Cond) ∈ pt_all := List.mem_of_getElem? (i := 57) rfl
theorem pw58 : (.methodLink RL 49 yL_clear : Cond) ∈ pt_all := List.mem_of_getElem? (i := 58) rfl
theorem pw59 : (.static yL_clear : Cond) ∈ pt_all := List.mem_of_getElem? (i := 59) rfl
theorem pw60 : (.codeWith yL_clear cL_clear 3 (some .int) [(0, 5, 8, 13)] : Cond) ∈ pt_all := List.mem_of_getElem? (i := 60) rfl
theorem pw61 : (.classLink RL 13 "java/lang/IllegalArgumentException" : Cond) ∈ pt_all := List.mem_of_getElem? (i := 61) rfl
theorem pw62 : (.methodLink RL 7 yX0_clear : Cond) ∈ pt_all := List.mem_of_getElem? (i := 62) rfl
theorem pw63 : (.instanceMethod yX0_clear : Cond) ∈ pt_all := List.mem_of_getElem? (i := 63) rfl
theorem pw64 : (.selects RX0 yX0_clear yX0_clear : Cond) ∈ pt_all := List.mem_of_getElem? (i := 64) rfl
theorem pw65 : (.code yX0_clear cX0_clear 2 none : Cond) ∈ pt_all := List.mem_of_getElem? (i := 65) rfl
theorem pw66 : (.classLink RX0 37 "java/lang/IllegalArgumentException" : Cond) ∈ pt_all := List.mem_of_getElem? (i := 66) rfl
theorem pw67 : (.methodLink RX0 41 ⟨"java/lang/IllegalArgumentException", "<init>", "(Ljava/lang/String;)V"⟩ : Cond) ∈ pt_all := List.mem_of_getElem? (i := 67) rfl
theorem pw68 : (.methodLink RL 61 yL_add : Cond) ∈ pt_all := List.mem_of_getElem? (i := 68) rfl
theorem pw69 : (.static yL_add : Cond) ∈ pt_all := List.mem_of_getElem? (i := 69) rfl
theorem pw70 : (.codeWith yL_add cL_add 7 (some .int) [(0, 11, 14, 13), (0, 11, 18, 19)] : Cond) ∈ pt_all := List.mem_of_getElem? (i := 70) rfl
theorem pw71 : (.classLink RL 19 "java/lang/IllegalStateException" : Cond) ∈ pt_all := List.mem_of_getElem? (i := 71) rfl
theorem pw72 : (.methodLink RL 15 yX0_add : Cond) ∈ pt_all := List.mem_of_getElem? (i := 72) rfl
theorem pw73 : (.instanceMethod yX0_add : Cond) ∈ pt_all := List.mem_of_getElem? (i := 73) rfl
theorem pw74 : (.selects RX0 yX0_add yX0_add : Cond) ∈ pt_all := List.mem_of_getElem? (i := 74) rfl
theorem pw75 : (.code yX0_add cX0_add 5 (some .int) : Cond) ∈ pt_all := List.mem_of_getElem? (i := 75) rfl
theorem pw76 : (.methodLink RX0 44 yX0_refuseStrayWant : Cond) ∈ pt_all := List.mem_of_getElem? (i := 76) rfl
theorem pw77 : (.instanceMethod yX0_refuseStrayWant : Cond) ∈ pt_all := List.mem_of_getElem? (i := 77) rfl
theorem pw78 : (.code yX0_refuseStrayWant cX0_refuseStrayWant 5 none : Cond) ∈ pt_all := List.mem_of_getElem? (i := 78) rfl
theorem pw79 : (.methodLink RX0 48 yX0_append : Cond) ∈ pt_all := List.mem_of_getElem? (i := 79) rfl
theorem pw80 : (.instanceMethod yX0_append : Cond) ∈ pt_all := List.mem_of_getElem? (i := 80) rfl
theorem pw81 : (.code yX0_append cX0_append 6 (some .int) : Cond) ∈ pt_all := List.mem_of_getElem? (i := 81) rfl
theorem pw82 : (.classLink RX0 99 "java/lang/IllegalStateException" : Cond) ∈ pt_all := List.mem_of_getElem? (i := 82) rfl
theorem pw83 : (.methodLink RX0 103 ⟨"java/lang/IllegalStateException", "<init>", "(Ljava/lang/String;)V"⟩ : Cond) ∈ pt_all := List.mem_of_getElem? (i := 83) rfl
theorem pw84 : (.methodLink RX0 66 yX0_firstSharing : Cond) ∈ pt_all := List.mem_of_getElem? (i := 84) rfl
theorem pw85 : (.instanceMethod yX0_firstSharing : Cond) ∈ pt_all := List.mem_of_getElem? (i := 85) rfl
theorem pw86 : (.code yX0_firstSharing cX0_firstSharing 6 (some .int) : Cond) ∈ pt_all := List.mem_of_getElem? (i := 86) rfl
theorem pw87 : (.methodLink RL 65 yL_signs : Cond) ∈ pt_all := List.mem_of_getElem? (i := 87) rfl
theorem pw88 : (.static yL_signs : Cond) ∈ pt_all := List.mem_of_getElem? (i := 88) rfl
theorem pw89 : (.codeWith yL_signs cL_signs 5 (some .int) [(0, 9, 12, 13), (0, 9, 16, 19)] : Cond) ∈ pt_all := List.mem_of_getElem? (i := 89) rfl
theorem pw90 : (.methodLink RL 21 yX0_signs : Cond) ∈ pt_all := List.mem_of_getElem? (i := 90) rfl
theorem pw91 : (.instanceMethod yX0_signs : Cond) ∈ pt_all := List.mem_of_getElem? (i := 91) rfl
theorem pw92 : (.selects RX0 yX0_signs yX0_signs : Cond) ∈ pt_all := List.mem_of_getElem? (i := 92) rfl
theorem pw93 : (.code yX0_signs cX0_signs 12 (some .int) : Cond) ∈ pt_all := List.mem_of_getElem? (i := 93) rfl
theorem pw94 : (.constantLong RX0 54 3 : Cond) ∈ pt_all := List.mem_of_getElem? (i := 94) rfl
theorem pw95 : (.constantLong RX0 56 2 : Cond) ∈ pt_all := List.mem_of_getElem? (i := 95) rfl
theorem pw96 : (.methodLink RL 69 yL_drop : Cond) ∈ pt_all := List.mem_of_getElem? (i := 96) rfl
theorem pw97 : (.static yL_drop : Cond) ∈ pt_all := List.mem_of_getElem? (i := 97) rfl
theorem pw98 : (.codeWith yL_drop cL_drop 3 (some .int) [(0, 5, 8, 28)] : Cond) ∈ pt_all := List.mem_of_getElem? (i := 98) rfl
theorem pw99 : (.classLink RL 28 "java/util/NoSuchElementException" : Cond) ∈ pt_all := List.mem_of_getElem? (i := 99) rfl
theorem pw100 : (.methodLink RL 25 yX0_drop : Cond) ∈ pt_all := List.mem_of_getElem? (i := 100) rfl
theorem pw101 : (.instanceMethod yX0_drop : Cond) ∈ pt_all := List.mem_of_getElem? (i := 101) rfl
theorem pw102 : (.selects RX0 yX0_drop yX0_drop : Cond) ∈ pt_all := List.mem_of_getElem? (i := 102) rfl
theorem pw103 : (.code yX0_drop cX0_drop 3 none : Cond) ∈ pt_all := List.mem_of_getElem? (i := 103) rfl
theorem pw104 : (.methodLink RX0 58 yX0_refuseAbsent : Cond) ∈ pt_all := List.mem_of_getElem? (i := 104) rfl
theorem pw105 : (.instanceMethod yX0_refuseAbsent : Cond) ∈ pt_all := List.mem_of_getElem? (i := 105) rfl
theorem pw106 : (.code yX0_refuseAbsent cX0_refuseAbsent 2 none : Cond) ∈ pt_all := List.mem_of_getElem? (i := 106) rfl
theorem pw107 : (.classLink RX0 80 "java/util/NoSuchElementException" : Cond) ∈ pt_all := List.mem_of_getElem? (i := 107) rfl
theorem pw108 : (.methodLink RX0 84 ⟨"java/util/NoSuchElementException", "<init>", "(Ljava/lang/String;)V"⟩ : Cond) ∈ pt_all := List.mem_of_getElem? (i := 108) rfl
theorem pw109 : (.methodLink RL 76 yL_meets : Cond) ∈ pt_all := List.mem_of_getElem? (i := 109) rfl
theorem pw110 : (.static yL_meets : Cond) ∈ pt_all := List.mem_of_getElem? (i := 110) rfl
theorem pw111 : (.codeWith yL_meets cL_meets 7 (some .int) [(0, 11, 14, 13)] : Cond) ∈ pt_all := List.mem_of_getElem? (i := 111) rfl
theorem pw112 : (.methodLink RL 30 yX0_meets : Cond) ∈ pt_all := List.mem_of_getElem? (i := 112) rfl
theorem pw113 : (.instanceMethod yX0_meets : Cond) ∈ pt_all := List.mem_of_getElem? (i := 113) rfl
theorem pw114 : (.selects RX0 yX0_meets yX0_meets : Cond) ∈ pt_all := List.mem_of_getElem? (i := 114) rfl
theorem pw115 : (.code yX0_meets cX0_meets 5 (some .int) : Cond) ∈ pt_all := List.mem_of_getElem? (i := 115) rfl
theorem pw116 : (.methodLink RL 79 yL_free : Cond) ∈ pt_all := List.mem_of_getElem? (i := 116) rfl
theorem pw117 : (.static yL_free : Cond) ∈ pt_all := List.mem_of_getElem? (i := 117) rfl
theorem pw118 : (.codeWith yL_free cL_free 7 (some .int) [(0, 10, 13, 13)] : Cond) ∈ pt_all := List.mem_of_getElem? (i := 118) rfl
theorem pw119 : (.methodLink RL 33 yX0_free : Cond) ∈ pt_all := List.mem_of_getElem? (i := 119) rfl
theorem pw120 : (.instanceMethod yX0_free : Cond) ∈ pt_all := List.mem_of_getElem? (i := 120) rfl
theorem pw121 : (.selects RX0 yX0_free yX0_free : Cond) ∈ pt_all := List.mem_of_getElem? (i := 121) rfl
theorem pw122 : (.code yX0_free cX0_free 5 (some .long) : Cond) ∈ pt_all := List.mem_of_getElem? (i := 122) rfl
theorem pw123 : (.methodLink RX0 69 yX0_freeWords : Cond) ∈ pt_all := List.mem_of_getElem? (i := 123) rfl
theorem pw124 : (.instanceMethod yX0_freeWords : Cond) ∈ pt_all := List.mem_of_getElem? (i := 124) rfl
theorem pw125 : (.code yX0_freeWords cX0_freeWords 8 (some .long) : Cond) ∈ pt_all := List.mem_of_getElem? (i := 125) rfl
theorem pw126 : (.methodLink RX0 106 yX0_wordsOf : Cond) ∈ pt_all := List.mem_of_getElem? (i := 126) rfl
theorem pw127 : (.instanceMethod yX0_wordsOf : Cond) ∈ pt_all := List.mem_of_getElem? (i := 127) rfl
theorem pw128 : (.code yX0_wordsOf cX0_wordsOf 4 (some .long) : Cond) ∈ pt_all := List.mem_of_getElem? (i := 128) rfl
theorem pw129 : (.methodLink RX0 87 yJ_bitCount : Cond) ∈ pt_all := List.mem_of_getElem? (i := 129) rfl
theorem pw130 : (.static yJ_bitCount : Cond) ∈ pt_all := List.mem_of_getElem? (i := 130) rfl
theorem pw131 : (.code yJ_bitCount cJ_bitCount 2 (some .int) : Cond) ∈ pt_all := List.mem_of_getElem? (i := 131) rfl
theorem pw132 : (.constantLong RJ 314 6148914691236517205 : Cond) ∈ pt_all := List.mem_of_getElem? (i := 132) rfl
theorem pw133 : (.constantLong RJ 316 3689348814741910323 : Cond) ∈ pt_all := List.mem_of_getElem? (i := 133) rfl
theorem pw134 : (.constantLong RJ 318 1085102592571150095 : Cond) ∈ pt_all := List.mem_of_getElem? (i := 134) rfl
theorem pw135 : (.methodLink RL 82 yL_next : Cond) ∈ pt_all := List.mem_of_getElem? (i := 135) rfl
theorem pw136 : (.static yL_next : Cond) ∈ pt_all := List.mem_of_getElem? (i := 136) rfl
theorem pw137 : (.codeWith yL_next cL_next 5 (some .int) [(0, 8, 11, 28)] : Cond) ∈ pt_all := List.mem_of_getElem? (i := 137) rfl
theorem pw138 : (.methodLink RL 37 yX0_next : Cond) ∈ pt_all := List.mem_of_getElem? (i := 138) rfl
theorem pw139 : (.instanceMethod yX0_next : Cond) ∈ pt_all := List.mem_of_getElem? (i := 139) rfl
theorem pw140 : (.selects RX0 yX0_next yX0_next : Cond) ∈ pt_all := List.mem_of_getElem? (i := 140) rfl
theorem pw141 : (.code yX0_next cX0_next 8 (some .long) : Cond) ∈ pt_all := List.mem_of_getElem? (i := 141) rfl
theorem pw142 : (.methodLink RX0 73 yX0_bitsFrom : Cond) ∈ pt_all := List.mem_of_getElem? (i := 142) rfl
theorem pw143 : (.instanceMethod yX0_bitsFrom : Cond) ∈ pt_all := List.mem_of_getElem? (i := 143) rfl
theorem pw144 : (.code yX0_bitsFrom cX0_bitsFrom 2 (some .long) : Cond) ∈ pt_all := List.mem_of_getElem? (i := 144) rfl
theorem pw145 : (.methodLink RX0 76 yX0_leastFree : Cond) ∈ pt_all := List.mem_of_getElem? (i := 145) rfl
theorem pw146 : (.instanceMethod yX0_leastFree : Cond) ∈ pt_all := List.mem_of_getElem? (i := 146) rfl
theorem pw147 : (.code yX0_leastFree cX0_leastFree 7 (some .long) : Cond) ∈ pt_all := List.mem_of_getElem? (i := 147) rfl
theorem pw148 : (.methodLink RL 85 yL_told : Cond) ∈ pt_all := List.mem_of_getElem? (i := 148) rfl
theorem pw149 : (.static yL_told : Cond) ∈ pt_all := List.mem_of_getElem? (i := 149) rfl
theorem pw150 : (.codeWith yL_told cL_told 5 (some .int) [(0, 9, 12, 13), (0, 9, 16, 28)] : Cond) ∈ pt_all := List.mem_of_getElem? (i := 150) rfl
theorem pw151 : (.methodLink RL 41 yX0_told : Cond) ∈ pt_all := List.mem_of_getElem? (i := 151) rfl
theorem pw152 : (.instanceMethod yX0_told : Cond) ∈ pt_all := List.mem_of_getElem? (i := 152) rfl
theorem pw153 : (.selects RX0 yX0_told yX0_told : Cond) ∈ pt_all := List.mem_of_getElem? (i := 153) rfl
theorem pw154 : (.code yX0_told cX0_told 3 (some .long) : Cond) ∈ pt_all := List.mem_of_getElem? (i := 154) rfl
theorem pw155 : (.classLink RL 46 RX1 : Cond) ∈ pt_all := List.mem_of_getElem? (i := 155) rfl
theorem pw156 : (.instantiable RX1 7 : Cond) ∈ pt_all := List.mem_of_getElem? (i := 156) rfl
theorem pw157 : (.methodLink RL 48 yX1_init : Cond) ∈ pt_all := List.mem_of_getElem? (i := 157) rfl
theorem pw158 : (.instanceMethod yX1_init : Cond) ∈ pt_all := List.mem_of_getElem? (i := 158) rfl
theorem pw159 : (.code yX1_init cX1_init 1 none : Cond) ∈ pt_all := List.mem_of_getElem? (i := 159) rfl
theorem pw160 : (.methodLink RX1 1 objectInit : Cond) ∈ pt_all := List.mem_of_getElem? (i := 160) rfl
theorem pw161 : (.fieldLink RX1 7 "PatternTreeModel" "care" "[J" : Cond) ∈ pt_all := List.mem_of_getElem? (i := 161) rfl
theorem pw162 : (.fieldLink RX1 13 "PatternTreeModel" "want" "[J" : Cond) ∈ pt_all := List.mem_of_getElem? (i := 162) rfl
theorem pw163 : (.fieldLink RX1 32 "PatternTreeModel" "many" "I" : Cond) ∈ pt_all := List.mem_of_getElem? (i := 163) rfl
theorem pw164 : (.fieldLink RX1 16 "PatternTreeModel" "length" "I" : Cond) ∈ pt_all := List.mem_of_getElem? (i := 164) rfl
theorem pw165 : (.fieldLink RX1 20 "PatternTreeModel" "clash" "I" : Cond) ∈ pt_all := List.mem_of_getElem? (i := 165) rfl
theorem pw166 : (.fieldLink RX1 58 "PatternTreeModel" "beyond" "I" : Cond) ∈ pt_all := List.mem_of_getElem? (i := 166) rfl
theorem pw167 : (.fieldLink RX1 23 "PatternTreeModel" "thrown" "I" : Cond) ∈ pt_all := List.mem_of_getElem? (i := 167) rfl
theorem pw168 : (.laysFinal RX1 "PatternTreeModel" "care" "[J" : Cond) ∈ pt_all := List.mem_of_getElem? (i := 168) rfl
theorem pw169 : (.laysFinal RX1 "PatternTreeModel" "want" "[J" : Cond) ∈ pt_all := List.mem_of_getElem? (i := 169) rfl
theorem pw170 : (.lays RX1 "PatternTreeModel" "many" "I" : Cond) ∈ pt_all := List.mem_of_getElem? (i := 170) rfl
theorem pw171 : (.lays RX1 "PatternTreeModel" "length" "I" : Cond) ∈ pt_all := List.mem_of_getElem? (i := 171) rfl
theorem pw172 : (.lays RX1 "PatternTreeModel" "clash" "I" : Cond) ∈ pt_all := List.mem_of_getElem? (i := 172) rfl
theorem pw173 : (.lays RX1 "PatternTreeModel" "beyond" "I" : Cond) ∈ pt_all := List.mem_of_getElem? (i := 173) rfl
theorem pw174 : (.lays RX1 "PatternTreeModel" "thrown" "I" : Cond) ∈ pt_all := List.mem_of_getElem? (i := 174) rfl
theorem pw175 : (.methodLink RL 55 yX1_thrown : Cond) ∈ pt_all := List.mem_of_getElem? (i := 175) rfl
theorem pw176 : (.instanceMethod yX1_thrown : Cond) ∈ pt_all := List.mem_of_getElem? (i := 176) rfl
theorem pw177 : (.selects RX1 yX1_thrown yX1_thrown : Cond) ∈ pt_all := List.mem_of_getElem? (i := 177) rfl
theorem pw178 : (.code yX1_thrown cX1_thrown 1 (some .int) : Cond) ∈ pt_all := List.mem_of_getElem? (i := 178) rfl
theorem pw179 : (.methodLink RL 54 yX1_clear : Cond) ∈ pt_all := List.mem_of_getElem? (i := 179) rfl
theorem pw180 : (.instanceMethod yX1_clear : Cond) ∈ pt_all := List.mem_of_getElem? (i := 180) rfl
theorem pw181 : (.selects RX1 yX1_clear yX1_clear : Cond) ∈ pt_all := List.mem_of_getElem? (i := 181) rfl
theorem pw182 : (.code yX1_clear cX1_clear 2 none : Cond) ∈ pt_all := List.mem_of_getElem? (i := 182) rfl
theorem pw183 : (.methodLink RX1 39 yX1_fail : Cond) ∈ pt_all := List.mem_of_getElem? (i := 183) rfl
theorem pw184 : (.instanceMethod yX1_fail : Cond) ∈ pt_all := List.mem_of_getElem? (i := 184) rfl
theorem pw185 : (.code yX1_fail cX1_fail 2 (some .int) : Cond) ∈ pt_all := List.mem_of_getElem? (i := 185) rfl
theorem pw186 : (.methodLink RL 64 yX1_add : Cond) ∈ pt_all := List.mem_of_getElem? (i := 186) rfl
theorem pw187 : (.instanceMethod yX1_add : Cond) ∈ pt_all := List.mem_of_getElem? (i := 187) rfl
theorem pw188 : (.selects RX1 yX1_add yX1_add : Cond) ∈ pt_all := List.mem_of_getElem? (i := 188) rfl
theorem pw189 : (.code yX1_add cX1_add 6 (some .int) : Cond) ∈ pt_all := List.mem_of_getElem? (i := 189) rfl
theorem pw190 : (.methodLink RX1 43 yX1_wrong : Cond) ∈ pt_all := List.mem_of_getElem? (i := 190) rfl
theorem pw191 : (.instanceMethod yX1_wrong : Cond) ∈ pt_all := List.mem_of_getElem? (i := 191) rfl
theorem pw192 : (.code yX1_wrong cX1_wrong 5 (some .boolean) : Cond) ∈ pt_all := List.mem_of_getElem? (i := 192) rfl
theorem pw193 : (.constantLong RX1 26 (-1) : Cond) ∈ pt_all := List.mem_of_getElem? (i := 193) rfl
theorem pw194 : (.methodLink RX1 28 yX1_mask : Cond) ∈ pt_all := List.mem_of_getElem? (i := 194) rfl
theorem pw195 : (.instanceMethod yX1_mask : Cond) ∈ pt_all := List.mem_of_getElem? (i := 195) rfl
theorem pw196 : (.code yX1_mask cX1_mask 1 (some .long) : Cond) ∈ pt_all := List.mem_of_getElem? (i := 196) rfl
theorem pw197 : (.methodLink RX1 47 yX1_first : Cond) ∈ pt_all := List.mem_of_getElem? (i := 197) rfl
theorem pw198 : (.instanceMethod yX1_first : Cond) ∈ pt_all := List.mem_of_getElem? (i := 198) rfl
theorem pw199 : (.code yX1_first cX1_first 6 (some .int) : Cond) ∈ pt_all := List.mem_of_getElem? (i := 199) rfl
theorem pw200 : (.methodLink RX1 35 yX1_meet : Cond) ∈ pt_all := List.mem_of_getElem? (i := 200) rfl
theorem pw201 : (.instanceMethod yX1_meet : Cond) ∈ pt_all := List.mem_of_getElem? (i := 201) rfl
theorem pw202 : (.code yX1_meet cX1_meet 6 (some .boolean) : Cond) ∈ pt_all := List.mem_of_getElem? (i := 202) rfl
theorem pw203 : (.methodLink RL 68 yX1_signs : Cond) ∈ pt_all := List.mem_of_getElem? (i := 203) rfl
theorem pw204 : (.instanceMethod yX1_signs : Cond) ∈ pt_all := List.mem_of_getElem? (i := 204) rfl
theorem pw205 : (.selects RX1 yX1_signs yX1_signs : Cond) ∈ pt_all := List.mem_of_getElem? (i := 205) rfl
theorem pw206 : (.code yX1_signs cX1_signs 12 (some .int) : Cond) ∈ pt_all := List.mem_of_getElem? (i := 206) rfl
theorem pw207 : (.constantLong RX1 51 3 : Cond) ∈ pt_all := List.mem_of_getElem? (i := 207) rfl
theorem pw208 : (.constantLong RX1 53 2 : Cond) ∈ pt_all := List.mem_of_getElem? (i := 208) rfl
theorem pw209 : (.methodLink RX1 55 yX1_add : Cond) ∈ pt_all := List.mem_of_getElem? (i := 209) rfl
theorem pw210 : (.methodLink RL 71 yX1_drop : Cond) ∈ pt_all := List.mem_of_getElem? (i := 210) rfl
theorem pw211 : (.instanceMethod yX1_drop : Cond) ∈ pt_all := List.mem_of_getElem? (i := 211) rfl
theorem pw212 : (.selects RX1 yX1_drop yX1_drop : Cond) ∈ pt_all := List.mem_of_getElem? (i := 212) rfl
theorem pw213 : (.code yX1_drop cX1_drop 3 none : Cond) ∈ pt_all := List.mem_of_getElem? (i := 213) rfl
theorem pw214 : (.methodLink RL 75 yX1_decode : Cond) ∈ pt_all := List.mem_of_getElem? (i := 214) rfl
theorem pw215 : (.instanceMethod yX1_decode : Cond) ∈ pt_all := List.mem_of_getElem? (i := 215) rfl
theorem pw216 : (.selects RX1 yX1_decode yX1_decode : Cond) ∈ pt_all := List.mem_of_getElem? (i := 216) rfl
theorem pw217 : (.code yX1_decode cX1_decode 6 (some .int) : Cond) ∈ pt_all := List.mem_of_getElem? (i := 217) rfl
theorem pw218 : (.methodLink RL 78 yX1_meets : Cond) ∈ pt_all := List.mem_of_getElem? (i := 218) rfl
theorem pw219 : (.instanceMethod yX1_meets : Cond) ∈ pt_all := List.mem_of_getElem? (i := 219) rfl
theorem pw220 : (.selects RX1 yX1_meets yX1_meets : Cond) ∈ pt_all := List.mem_of_getElem? (i := 220) rfl
theorem pw221 : (.code yX1_meets cX1_meets 5 (some .int) : Cond) ∈ pt_all := List.mem_of_getElem? (i := 221) rfl
theorem pw222 : (.methodLink RL 81 yX1_free : Cond) ∈ pt_all := List.mem_of_getElem? (i := 222) rfl
theorem pw223 : (.instanceMethod yX1_free : Cond) ∈ pt_all := List.mem_of_getElem? (i := 223) rfl
theorem pw224 : (.selects RX1 yX1_free yX1_free : Cond) ∈ pt_all := List.mem_of_getElem? (i := 224) rfl
theorem pw225 : (.code yX1_free cX1_free 5 (some .long) : Cond) ∈ pt_all := List.mem_of_getElem? (i := 225) rfl
theorem pw226 : (.methodLink RX1 69 yX1_none : Cond) ∈ pt_all := List.mem_of_getElem? (i := 226) rfl
theorem pw227 : (.instanceMethod yX1_none : Cond) ∈ pt_all := List.mem_of_getElem? (i := 227) rfl
theorem pw228 : (.code yX1_none cX1_none 8 (some .long) : Cond) ∈ pt_all := List.mem_of_getElem? (i := 228) rfl
theorem pw229 : (.methodLink RX1 61 yX1_bits : Cond) ∈ pt_all := List.mem_of_getElem? (i := 229) rfl
theorem pw230 : (.static yX1_bits : Cond) ∈ pt_all := List.mem_of_getElem? (i := 230) rfl
theorem pw231 : (.code yX1_bits cX1_bits 4 (some .int) : Cond) ∈ pt_all := List.mem_of_getElem? (i := 231) rfl
theorem pw232 : (.methodLink RX1 65 yX1_power : Cond) ∈ pt_all := List.mem_of_getElem? (i := 232) rfl
theorem pw233 : (.static yX1_power : Cond) ∈ pt_all := List.mem_of_getElem? (i := 233) rfl
theorem pw234 : (.code yX1_power cX1_power 1 (some .long) : Cond) ∈ pt_all := List.mem_of_getElem? (i := 234) rfl
theorem pw235 : (.methodLink RL 84 yX1_next : Cond) ∈ pt_all := List.mem_of_getElem? (i := 235) rfl
theorem pw236 : (.instanceMethod yX1_next : Cond) ∈ pt_all := List.mem_of_getElem? (i := 236) rfl
theorem pw237 : (.selects RX1 yX1_next yX1_next : Cond) ∈ pt_all := List.mem_of_getElem? (i := 237) rfl
theorem pw238 : (.code yX1_next cX1_next 13 (some .long) : Cond) ∈ pt_all := List.mem_of_getElem? (i := 238) rfl
theorem pw239 : (.methodLink RX1 73 yX1_some : Cond) ∈ pt_all := List.mem_of_getElem? (i := 239) rfl
theorem pw240 : (.instanceMethod yX1_some : Cond) ∈ pt_all := List.mem_of_getElem? (i := 240) rfl
theorem pw241 : (.code yX1_some cX1_some 5 (some .boolean) : Cond) ∈ pt_all := List.mem_of_getElem? (i := 241) rfl
theorem pw242 : (.methodLink RL 88 yX1_told : Cond) ∈ pt_all := List.mem_of_getElem? (i := 242) rfl
theorem pw243 : (.instanceMethod yX1_told : Cond) ∈ pt_all := List.mem_of_getElem? (i := 243) rfl
theorem pw244 : (.selects RX1 yX1_told yX1_told : Cond) ∈ pt_all := List.mem_of_getElem? (i := 244) rfl
theorem pw245 : (.code yX1_told cX1_told 3 (some .long) : Cond) ∈ pt_all := List.mem_of_getElem? (i := 245) rfl
theorem pw246 : (.methodLink RL 93 yX1_count : Cond) ∈ pt_all := List.mem_of_getElem? (i := 246) rfl
theorem pw247 : (.instanceMethod yX1_count : Cond) ∈ pt_all := List.mem_of_getElem? (i := 247) rfl
theorem pw248 : (.selects RX1 yX1_count yX1_count : Cond) ∈ pt_all := List.mem_of_getElem? (i := 248) rfl
theorem pw249 : (.code yX1_count cX1_count 2 (some .int) : Cond) ∈ pt_all := List.mem_of_getElem? (i := 249) rfl
theorem pw250 : (.constantLong RL 59 4294967295 : Cond) ∈ pt_all := List.mem_of_getElem? (i := 250) rfl
theorem pt_wsX0 : ∀ w ∈ u_ws RX0 TX0 7, w ∈ pt_all := by decide +kernel
theorem pt_wsX1 : ∀ w ∈ u_ws RX1 TX1 7, w ∈ pt_all := by decide +kernel
theorem pt_gin {c : Cond} {ws : List Cond} (h : ∀ w ∈ ws, w ∈ pt_all) : GoodIn (c :: pt_all) ws := fun w hw => ⟨List.mem_cons_of_mem _ (h w hw), (pt_all_in w (h w hw)).2⟩
theorem pt_gV {c : Cond} {own : String} {i : Nat} {C : String} {y : MethodName} {b : ByteArray} {n : Nat} {r : Option FieldType} (h1 : .methodLink own i y ∈ pt_all) (h2 : .instanceMethod y ∈ pt_all) (h3 : .selects C y y ∈ pt_all) (h4 : .initialized C ∈ pt_all) (h5 : .code y b n r ∈ pt_all) : GoodIn (c :: pt_all) (wsV own i C y (.code y b n r :: pt_all)) := pt_gin fun w hw => by
  simp only [wsV, List.cons_append, List.nil_append, List.mem_cons] at hw
  rcases hw with rfl | rfl | rfl | rfl | rfl | h
  · exact h1
  · exact h2
  · exact h3
  · exact h4
  · exact h5
  · exact h
theorem pt_gS {c : Cond} {own : String} {i : Nat} {y : MethodName} {b : ByteArray} {n : Nat} {r : Option FieldType} (h1 : .methodLink own i y ∈ pt_all) (h2 : .static y ∈ pt_all) (h4 : .initialized y.cls ∈ pt_all) (h5 : .code y b n r ∈ pt_all) : GoodIn (c :: pt_all) (va_wsS own i y (.code y b n r :: pt_all)) := pt_gin fun w hw => by
  simp only [va_wsS, List.cons_append, List.nil_append, List.mem_cons] at hw
  rcases hw with rfl | rfl | rfl | rfl | h
  · exact h1
  · exact h2
  · exact h4
  · exact h5
  · exact h
theorem pt_gW {c : Cond} {own : String} {i : Nat} {y : MethodName} {b : ByteArray} {n : Nat} {r : Option FieldType} {hh : List (Nat × Nat × Nat × Nat)} (h1 : .methodLink own i y ∈ pt_all) (h2 : .static y ∈ pt_all) (h4 : .initialized y.cls ∈ pt_all) (h5 : .codeWith y b n r hh ∈ pt_all) : GoodIn (c :: pt_all) (va_wsS own i y (.codeWith y b n r hh :: pt_all)) := pt_gin fun w hw => by
  simp only [va_wsS, List.cons_append, List.nil_append, List.mem_cons] at hw
  rcases hw with rfl | rfl | rfl | rfl | h
  · exact h1
  · exact h2
  · exact h4
  · exact h5
  · exact h
theorem pt_gI {c : Cond} {y : MethodName} {b : ByteArray} {n : Nat} {r : Option FieldType} (h5 : .code y b n r ∈ pt_all) : GoodIn (c :: pt_all) (.code y b n r :: pt_all) := pt_gin fun w hw => by
  rcases List.mem_cons.mp hw with rfl | h
  · exact h5
  · exact h
end
section
/-! Pure: shifts of longs by name; sums of digits; Long.bitCount's steps add up the bits. -/
def pt_shl (x : Int64) (y : Int32) : Int64 := x <<< (y.toInt64 &&& 63)
def pt_ushr (x : Int64) (y : Int32) : Int64 := (x.toUInt64 >>> (y.toInt64.toUInt64 &&& Int64.toUInt64 63)).toInt64
def pt_u (x : Int64) : Nat := x.toUInt64.toNat
theorem pt_u_lt (x : Int64) : pt_u x < 18446744073709551616 := x.toUInt64.toNat_lt
theorem pt_u_inj {x y : Int64} (h : pt_u x = pt_u y) : x = y := congrArg UInt64.toInt64 (UInt64.toNat_inj.mp h)
theorem pt_u_lN {n : Nat} (h : n < 18446744073709551616) : pt_u (lN n) = n := Nat.mod_eq_of_lt h
theorem pt_u_of (x : Int64) : x = lN (pt_u x) := pt_u_inj (pt_u_lN (pt_u_lt x)).symm
theorem pt_u_add (x y : Int64) : pt_u (x + y) = (pt_u x + pt_u y) % 18446744073709551616 := by
  show (x.toUInt64 + y.toUInt64).toNat = _
  exact UInt64.toNat_add _ _
theorem pt_u_sub {x y : Int64} (h : pt_u y ≤ pt_u x) : pt_u (x - y) = pt_u x - pt_u y := by
  have e : pt_u (x - y) = (18446744073709551616 - pt_u y + pt_u x) % 18446744073709551616 := by
    show (x.toUInt64 - y.toUInt64).toNat = _
    exact UInt64.toNat_sub _ _
  have h1 := pt_u_lt x
  omega
theorem pt_u_and (x y : Int64) : pt_u (x &&& y) = pt_u x &&& pt_u y := by
  show (x.toUInt64 &&& y.toUInt64).toNat = _
  exact UInt64.toNat_and _ _
theorem pt_u_shr (x : Int64) {k : Nat} (hk : k < 64) : pt_u (pt_ushr x (nI k)) = pt_u x / 2 ^ k := by
  have h : ((nI k).toInt64.toUInt64 &&& Int64.toUInt64 63).toNat % 64 = k := by
    rw [nI_l (by omega), UInt64.toNat_and]
    have e : (lN k).toUInt64.toNat = k % 2 ^ 64 := rfl
    have e2 : (Int64.toUInt64 63).toNat = 2 ^ 6 - 1 := by decide
    rw [e, e2, Nat.and_two_pow_sub_one_eq_mod]
    omega
  show (x.toUInt64 >>> ((nI k).toInt64.toUInt64 &&& Int64.toUInt64 63)).toNat = _
  rw [UInt64.toNat_shiftRight, Nat.shiftRight_eq_div_pow, h]
  rfl
/-- the number whose digits to the base B are f 0, f 1, .. (k of them) -/
def pt_S (B : Nat) : Nat → (Nat → Nat) → Nat
  | 0, _ => 0
  | k + 1, f => f 0 + B * pt_S B k (fun j => f (j + 1))
theorem pt_S_congr {B : Nat} : ∀ (k : Nat) (f g : Nat → Nat), (∀ j, f j = g j) → pt_S B k f = pt_S B k g
  | 0, _, _, _ => rfl
  | k + 1, f, g, h => by
    have ih := pt_S_congr (B := B) k (fun j => f (j + 1)) (fun j => g (j + 1)) (fun j => h (j + 1))
    show f 0 + B * pt_S B k (fun j => f (j + 1)) = g 0 + B * pt_S B k (fun j => g (j + 1))
    rw [ih, h 0]
theorem pt_S_digits (B : Nat) : ∀ (k n : Nat), n < B ^ k → pt_S B k (fun j => n / B ^ j % B) = n
  | 0, n, h => by
    have : n = 0 := by simpa using h
    rw [this]; rfl
  | k + 1, n, h => by
    have hlt : n / B < B ^ k := Nat.div_lt_of_lt_mul (by rw [Nat.pow_succ'] at h; exact h)
    have ih := pt_S_digits B k (n / B) hlt
    have e : pt_S B k (fun j => n / B ^ (j + 1) % B) = pt_S B k (fun j => n / B / B ^ j % B) := pt_S_congr k _ _ (fun j => by rw [Nat.div_div_eq_div_mul, Nat.pow_succ'])
    show n / B ^ 0 % B + B * pt_S B k (fun j => n / B ^ (j + 1) % B) = n
    rw [e, ih, Nat.pow_zero, Nat.div_one]
    exact Nat.mod_add_div n B
theorem pt_S_lt (B : Nat) : ∀ (k : Nat) (f : Nat → Nat), (∀ j, f j < B) → pt_S B k f < B ^ k
  | 0, _, _ => by simp [pt_S]
  | k + 1, f, h => by
    have ih := pt_S_lt B k (fun j => f (j + 1)) (fun j => h (j + 1))
    have h0 := h 0
    show f 0 + B * pt_S B k (fun j => f (j + 1)) < B ^ (k + 1)
    generalize pt_S B k (fun j => f (j + 1)) = R at ih ⊢
    have m := Nat.mul_le_mul_left B (show R + 1 ≤ B ^ k from ih)
    rw [Nat.mul_add, Nat.mul_one] at m
    rw [Nat.pow_succ']
    omega
theorem pt_S_add (B : Nat) : ∀ (k : Nat) (f g : Nat → Nat), pt_S B k f + pt_S B k g = pt_S B k (fun j => f j + g j)
  | 0, _, _ => rfl
  | k + 1, f, g => by
    have ih := pt_S_add B k (fun j => f (j + 1)) (fun j => g (j + 1))
    show f 0 + B * pt_S B k (fun j => f (j + 1)) + (g 0 + B * pt_S B k (fun j => g (j + 1))) = f 0 + g 0 + B * pt_S B k (fun j => f (j + 1) + g (j + 1))
    rw [← ih, Nat.mul_add]
    omega
theorem pt_S_sub (B k : Nat) (f g : Nat → Nat) (h : ∀ j, g j ≤ f j) : pt_S B k g ≤ pt_S B k f ∧ pt_S B k f - pt_S B k g = pt_S B k (fun j => f j - g j) := by
  have e := pt_S_add B k (fun j => f j - g j) g
  have e2 : pt_S B k (fun j => f j - g j + g j) = pt_S B k f := pt_S_congr k _ _ (fun j => Nat.sub_add_cancel (h j))
  rw [e2] at e
  omega
theorem pt_S_tail (B : Nat) : ∀ (k : Nat) (f : Nat → Nat), f k = 0 → pt_S B (k + 1) f = pt_S B k f
  | 0, f, h => by
    show f 0 + B * 0 = 0
    rw [h]; rfl
  | k + 1, f, h => by
    have ih := pt_S_tail B k (fun j => f (j + 1)) h
    show f 0 + B * pt_S B (k + 1) (fun j => f (j + 1)) = f 0 + B * pt_S B k (fun j => f (j + 1))
    rw [ih]
theorem pt_S_div {B : Nat} (k : Nat) (f : Nat → Nat) (hB : 0 < B) (h0 : f 0 < B) (hk : f k = 0) : pt_S B k f / B = pt_S B k (fun j => f (j + 1)) := by
  have e := pt_S_tail B k f hk
  have e2 : pt_S B (k + 1) f = f 0 + B * pt_S B k (fun j => f (j + 1)) := rfl
  rw [← e, e2, Nat.add_mul_div_left _ _ hB, Nat.div_eq_of_lt h0, Nat.zero_add]
theorem pt_and_split {w P L c x y : Nat} (hP : 2 ^ w = P) (hL : L < P) (hc : c < P) : (L + P * x) &&& (c + P * y) = (L &&& c) + P * (x &&& y) := by
  subst hP
  rw [Nat.add_comm L, Nat.add_comm c, Nat.add_comm (L &&& c)]
  apply Nat.eq_of_testBit_eq
  intro j
  rw [Nat.testBit_and, Nat.testBit_two_pow_mul_add _ hL, Nat.testBit_two_pow_mul_add _ hc, Nat.testBit_two_pow_mul_add _ (Nat.and_lt_two_pow _ hc)]
  split <;> simp
theorem pt_S_hi4 : ∀ (k : Nat) (f : Nat → Nat), (∀ j, f j < 4) → (pt_S 4 k f / 2) &&& pt_S 4 k (fun _ => 1) = pt_S 4 k (fun j => f j / 2)
  | 0, _, _ => by simp [pt_S]
  | k + 1, f, h => by
    have ih := pt_S_hi4 k (fun j => f (j + 1)) (fun j => h (j + 1))
    have h0 := h 0
    show ((f 0 + 4 * pt_S 4 k (fun j => f (j + 1))) / 2) &&& (1 + 4 * pt_S 4 k (fun _ => 1)) = f 0 / 2 + 4 * pt_S 4 k (fun j => f (j + 1) / 2)
    rw [← ih]
    generalize pt_S 4 k (fun j => f (j + 1)) = R
    generalize pt_S 4 k (fun _ => 1) = M
    have e1 : (f 0 + 4 * R) / 2 = (f 0 / 2 + 2 * (R % 2)) + 4 * (R / 2) := by omega
    have e3 : (f 0 / 2 + 2 * (R % 2)) &&& 1 = (f 0 / 2 + 2 * (R % 2)) % 2 := Nat.and_two_pow_sub_one_eq_mod _ 1
    rw [e1, pt_and_split (w := 2) rfl (by omega) (by omega), e3]
    omega
theorem pt_S_hi16 : ∀ (k : Nat) (f : Nat → Nat), (∀ j, f j < 16) → (pt_S 16 k f / 4) &&& pt_S 16 k (fun _ => 3) = pt_S 16 k (fun j => f j / 4)
  | 0, _, _ => by simp [pt_S]
  | k + 1, f, h => by
    have ih := pt_S_hi16 k (fun j => f (j + 1)) (fun j => h (j + 1))
    have h0 := h 0
    show ((f 0 + 16 * pt_S 16 k (fun j => f (j + 1))) / 4) &&& (3 + 16 * pt_S 16 k (fun _ => 3)) = f 0 / 4 + 16 * pt_S 16 k (fun j => f (j + 1) / 4)
    rw [← ih]
    generalize pt_S 16 k (fun j => f (j + 1)) = R
    generalize pt_S 16 k (fun _ => 3) = M
    have e1 : (f 0 + 16 * R) / 4 = (f 0 / 4 + 4 * (R % 4)) + 16 * (R / 4) := by omega
    have e3 : (f 0 / 4 + 4 * (R % 4)) &&& 3 = (f 0 / 4 + 4 * (R % 4)) % 4 := Nat.and_two_pow_sub_one_eq_mod _ 2
    rw [e1, pt_and_split (w := 4) rfl (by omega) (by omega), e3]
    omega
theorem pt_S_lo16 : ∀ (k : Nat) (f : Nat → Nat), (∀ j, f j < 16) → pt_S 16 k f &&& pt_S 16 k (fun _ => 3) = pt_S 16 k (fun j => f j % 4)
  | 0, _, _ => by simp [pt_S]
  | k + 1, f, h => by
    have ih := pt_S_lo16 k (fun j => f (j + 1)) (fun j => h (j + 1))
    have h0 := h 0
    show (f 0 + 16 * pt_S 16 k (fun j => f (j + 1))) &&& (3 + 16 * pt_S 16 k (fun _ => 3)) = f 0 % 4 + 16 * pt_S 16 k (fun j => f (j + 1) % 4)
    have e3 : f 0 &&& 3 = f 0 % 4 := Nat.and_two_pow_sub_one_eq_mod _ 2
    rw [pt_and_split (w := 4) rfl h0 (by omega), e3, ih]
theorem pt_S_lo256 : ∀ (k : Nat) (f : Nat → Nat), (∀ j, f j < 256) → pt_S 256 k f &&& pt_S 256 k (fun _ => 15) = pt_S 256 k (fun j => f j % 16)
  | 0, _, _ => by simp [pt_S]
  | k + 1, f, h => by
    have ih := pt_S_lo256 k (fun j => f (j + 1)) (fun j => h (j + 1))
    have h0 := h 0
    show (f 0 + 256 * pt_S 256 k (fun j => f (j + 1))) &&& (15 + 256 * pt_S 256 k (fun _ => 15)) = f 0 % 16 + 256 * pt_S 256 k (fun j => f (j + 1) % 16)
    have e3 : f 0 &&& 15 = f 0 % 16 := Nat.and_two_pow_sub_one_eq_mod _ 4
    rw [pt_and_split (w := 8) rfl h0 (by omega), e3, ih]
theorem pt_S_pair16 : ∀ (k : Nat) (f : Nat → Nat), pt_S 4 (2 * k) f = pt_S 16 k (fun j => f (2 * j) + 4 * f (2 * j + 1))
  | 0, _ => rfl
  | k + 1, f => by
    have ih := pt_S_pair16 k (fun j => f (j + 2))
    have e : pt_S 4 (2 * (k + 1)) f = f 0 + 4 * (f 1 + 4 * pt_S 4 (2 * k) (fun j => f (j + 2))) := rfl
    have e2 : pt_S 16 (k + 1) (fun j => f (2 * j) + 4 * f (2 * j + 1)) = f 0 + 4 * f 1 + 16 * pt_S 16 k (fun j => f (2 * j + 2) + 4 * f (2 * j + 1 + 2)) := rfl
    rw [e, e2, ih]
    omega
theorem pt_S_pair256 : ∀ (k : Nat) (f : Nat → Nat), pt_S 16 (2 * k) f = pt_S 256 k (fun j => f (2 * j) + 16 * f (2 * j + 1))
  | 0, _ => rfl
  | k + 1, f => by
    have ih := pt_S_pair256 k (fun j => f (j + 2))
    have e : pt_S 16 (2 * (k + 1)) f = f 0 + 16 * (f 1 + 16 * pt_S 16 (2 * k) (fun j => f (j + 2))) := rfl
    have e2 : pt_S 256 (k + 1) (fun j => f (2 * j) + 16 * f (2 * j + 1)) = f 0 + 16 * f 1 + 256 * pt_S 256 k (fun j => f (2 * j + 2) + 16 * f (2 * j + 1 + 2)) := rfl
    rw [e, e2, ih]
    omega
/-- the sum of the first k -/
def pt_T (b : Nat → Nat) : Nat → Nat
  | 0 => 0
  | k + 1 => pt_T b k + b k
theorem pt_T_pair (b : Nat → Nat) : ∀ k, pt_T b (2 * k) = pt_T (fun j => b (2 * j) + b (2 * j + 1)) k
  | 0 => rfl
  | k + 1 => by
    have ih := pt_T_pair b k
    have e : pt_T b (2 * (k + 1)) = pt_T b (2 * k) + b (2 * k) + b (2 * k + 1) := rfl
    have e2 : pt_T (fun j => b (2 * j) + b (2 * j + 1)) (k + 1) = pt_T (fun j => b (2 * j) + b (2 * j + 1)) k + (b (2 * k) + b (2 * k + 1)) := rfl
    rw [e, e2, ih, Nat.add_assoc]
theorem pt_T_congr {b c : Nat → Nat} (h : ∀ j, b j = c j) : ∀ k, pt_T b k = pt_T c k
  | 0 => rfl
  | k + 1 => by
    show pt_T b k + b k = pt_T c k + c k
    rw [pt_T_congr h k, h k]
theorem pt_T_le {b : Nat → Nat} {m : Nat} (h : ∀ j, b j ≤ m) : ∀ k, pt_T b k ≤ m * k
  | 0 => Nat.le_refl _
  | k + 1 => by
    have ih := pt_T_le h k
    have h0 := h k
    show pt_T b k + b k ≤ m * (k + 1)
    rw [Nat.mul_add, Nat.mul_one]
    omega
/-- the digits at each stage, from the bits b: two of them, four, eight -/
def pt_d2 (b : Nat → Nat) (j : Nat) : Nat := b (2 * j) + b (2 * j + 1)
theorem pt_stage1 {n : Nat} (h : n < 18446744073709551616) :
    (n / 2 &&& 6148914691236517205) ≤ n ∧ n - (n / 2 &&& 6148914691236517205) = pt_S 4 32 (pt_d2 (fun i => n / 2 ^ i % 2)) := by
  have e0 : pt_S 4 32 (fun j => n / 4 ^ j % 4) = n := pt_S_digits 4 32 n (by exact h)
  have e1 := pt_S_hi4 32 (fun j => n / 4 ^ j % 4) (fun j => Nat.mod_lt _ (by decide))
  have em : pt_S 4 32 (fun _ => 2 - 1) = 6148914691236517205 := by decide
  have em' : pt_S 4 32 (fun _ => 1) = 6148914691236517205 := em
  rw [e0, em'] at e1
  obtain ⟨h1, h2⟩ := pt_S_sub 4 32 (fun j => n / 4 ^ j % 4) (fun j => n / 4 ^ j % 4 / 2) (fun j => Nat.div_le_self _ _)
  rw [e0] at h1 h2
  rw [e1]
  refine ⟨h1, h2.trans (pt_S_congr 32 _ _ (fun j => ?_))⟩
  show n / 4 ^ j % 4 - n / 4 ^ j % 4 / 2 = n / 2 ^ (2 * j) % 2 + n / 2 ^ (2 * j + 1) % 2
  have p4 : 4 ^ j = 2 ^ (2 * j) := by rw [Nat.pow_mul]
  rw [p4, Nat.pow_succ, ← Nat.div_div_eq_div_mul]
  omega
theorem pt_stage2 (c : Nat → Nat) (hc : ∀ j, c j ≤ 2) :
    (pt_S 4 32 c &&& 3689348814741910323) + (pt_S 4 32 c / 4 &&& 3689348814741910323) = pt_S 16 16 (pt_d2 c) := by
  have e0 := pt_S_pair16 16 c
  have e0' : pt_S 4 32 c = pt_S 16 16 (fun j => c (2 * j) + 4 * c (2 * j + 1)) := e0
  have hb : ∀ j, c (2 * j) + 4 * c (2 * j + 1) < 16 := fun j => by
    have := hc (2 * j)
    have := hc (2 * j + 1)
    omega
  have e1 := pt_S_lo16 16 (fun j => c (2 * j) + 4 * c (2 * j + 1)) hb
  have e2 := pt_S_hi16 16 (fun j => c (2 * j) + 4 * c (2 * j + 1)) hb
  have em : pt_S 16 16 (fun _ => 3) = 3689348814741910323 := by decide
  rw [em] at e1 e2
  rw [e0', e1, e2, pt_S_add]
  refine pt_S_congr 16 _ _ (fun j => ?_)
  show (c (2 * j) + 4 * c (2 * j + 1)) % 4 + (c (2 * j) + 4 * c (2 * j + 1)) / 4 = c (2 * j) + c (2 * j + 1)
  have := hc (2 * j)
  omega
theorem pt_stage3 (d : Nat → Nat) (hd : ∀ j, d j ≤ 4) (h16 : d 16 = 0) :
    pt_S 16 16 d + pt_S 16 16 d / 16 < 18446744073709551616 ∧ ((pt_S 16 16 d + pt_S 16 16 d / 16) &&& 1085102592571150095) = pt_S 256 8 (pt_d2 d) := by
  have e1 : pt_S 16 16 d / 16 = pt_S 16 16 (fun j => d (j + 1)) := pt_S_div 16 d (by decide) (by have := hd 0; omega) h16
  have hs : ∀ j, d j + d (j + 1) < 16 := fun j => by
    have := hd j
    have := hd (j + 1)
    omega
  have e2 : pt_S 16 16 (fun j => d j + d (j + 1)) = pt_S 256 8 (fun j => d (2 * j) + d (2 * j + 1) + 16 * (d (2 * j + 1) + d (2 * j + 1 + 1))) := pt_S_pair256 8 (fun j => d j + d (j + 1))
  have hlt := pt_S_lt 16 16 (fun j => d j + d (j + 1)) hs
  have e3 := pt_S_lo256 8 (fun j => d (2 * j) + d (2 * j + 1) + 16 * (d (2 * j + 1) + d (2 * j + 1 + 1))) (fun j => by
    have := hs (2 * j)
    have := hs (2 * j + 1)
    omega)
  have em : pt_S 256 8 (fun _ => 15) = 1085102592571150095 := by decide
  rw [em] at e3
  rw [e1, pt_S_add]
  refine ⟨hlt, ?_⟩
  rw [e2, e3]
  refine pt_S_congr 8 _ _ (fun j => ?_)
  show (d (2 * j) + d (2 * j + 1) + 16 * (d (2 * j + 1) + d (2 * j + 1 + 1))) % 16 = d (2 * j) + d (2 * j + 1)
  have := hs (2 * j)
  omega
theorem pt_stage4 (p : Nat → Nat) (hp : ∀ j, p j ≤ 8) (h8 : ∀ j, p (8 + j) = 0) :
    pt_S 256 8 p + pt_S 256 8 p / 2 ^ 8 < 18446744073709551616 ∧
    pt_S 256 8 p + pt_S 256 8 p / 2 ^ 8 + (pt_S 256 8 p + pt_S 256 8 p / 2 ^ 8) / 2 ^ 16 < 18446744073709551616 ∧
    ∃ t, pt_S 256 8 p + pt_S 256 8 p / 2 ^ 8 + (pt_S 256 8 p + pt_S 256 8 p / 2 ^ 8) / 2 ^ 16 + (pt_S 256 8 p + pt_S 256 8 p / 2 ^ 8 + (pt_S 256 8 p + pt_S 256 8 p / 2 ^ 8) / 2 ^ 16) / 2 ^ 32 = pt_S 256 8 t ∧ (∀ j, t j ≤ 64) ∧ t 0 = pt_T p 8 := by
  have z : ∀ j, 8 ≤ j → p j = 0 := fun j h => by
    have := h8 (j - 8)
    rwa [show 8 + (j - 8) = j by omega] at this
  have sh : ∀ (f : Nat → Nat), (∀ j, f j < 256) → (∀ j, 8 ≤ j → f j = 0) → pt_S 256 8 f / 256 = pt_S 256 8 (fun j => f (j + 1)) := fun f h1 h2 => pt_S_div 8 f (by decide) (h1 0) (h2 8 (by omega))
  have a1 : pt_S 256 8 p / 2 ^ 8 = pt_S 256 8 (fun j => p (j + 1)) := sh p (fun j => by have := hp j; omega) z
  rw [a1, pt_S_add]
  have hq : ∀ j, p j + p (j + 1) ≤ 16 := fun j => by
    have := hp j
    have := hp (j + 1)
    omega
  have zq : ∀ j, 8 ≤ j → p j + p (j + 1) = 0 := fun j h => by rw [z j h, z (j + 1) (by omega)]
  have l1 := pt_S_lt 256 8 (fun j => p j + p (j + 1)) (fun j => by have := hq j; omega)
  have a2 : pt_S 256 8 (fun j => p j + p (j + 1)) / 2 ^ 16 = pt_S 256 8 (fun j => p (j + 2) + p (j + 3)) := by
    rw [show (2 : Nat) ^ 16 = 256 * 256 from rfl, ← Nat.div_div_eq_div_mul, sh _ (fun j => by have := hq j; omega) zq]
    exact sh (fun j => p (j + 1) + p (j + 1 + 1)) (fun j => by have := hq (j + 1); omega) (fun j h => zq (j + 1) (by omega))
  rw [a2, pt_S_add]
  have hr : ∀ j, p j + p (j + 1) + (p (j + 2) + p (j + 3)) ≤ 32 := fun j => by
    have h1 : p j + p (j + 1) ≤ 16 := hq j
    have h2 : p (j + 2) + p (j + 3) ≤ 16 := hq (j + 2)
    omega
  have zr : ∀ j, 8 ≤ j → p j + p (j + 1) + (p (j + 2) + p (j + 3)) = 0 := fun j h => by rw [z j h, z (j + 1) (by omega), z (j + 2) (by omega), z (j + 3) (by omega)]
  have l2 := pt_S_lt 256 8 (fun j => p j + p (j + 1) + (p (j + 2) + p (j + 3))) (fun j => by have := hr j; omega)
  have a3 : pt_S 256 8 (fun j => p j + p (j + 1) + (p (j + 2) + p (j + 3))) / 2 ^ 32 = pt_S 256 8 (fun j => p (j + 4) + p (j + 5) + (p (j + 6) + p (j + 7))) := by
    rw [show (2 : Nat) ^ 32 = 256 * 256 * 256 * 256 from rfl, ← Nat.div_div_eq_div_mul, ← Nat.div_div_eq_div_mul, ← Nat.div_div_eq_div_mul, sh _ (fun j => by have := hr j; omega) zr]
    rw [sh (fun j => p (j + 1) + p (j + 1 + 1) + (p (j + 1 + 2) + p (j + 1 + 3))) (fun j => by have := hr (j + 1); omega) (fun j h => zr (j + 1) (by omega))]
    rw [sh (fun j => p (j + 1 + 1) + p (j + 1 + 1 + 1) + (p (j + 1 + 1 + 2) + p (j + 1 + 1 + 3))) (fun j => by have := hr (j + 1 + 1); omega) (fun j h => zr (j + 1 + 1) (by omega))]
    exact sh (fun j => p (j + 1 + 1 + 1) + p (j + 1 + 1 + 1 + 1) + (p (j + 1 + 1 + 1 + 2) + p (j + 1 + 1 + 1 + 3))) (fun j => by have := hr (j + 1 + 1 + 1); omega) (fun j h => zr (j + 1 + 1 + 1) (by omega))
  rw [a3, pt_S_add]
  refine ⟨l1, l2, _, rfl, fun j => ?_, ?_⟩
  · have h1 : p j + p (j + 1) + (p (j + 2) + p (j + 3)) ≤ 32 := hr j
    have h2 : p (j + 4) + p (j + 5) + (p (j + 6) + p (j + 7)) ≤ 32 := hr (j + 4)
    show p j + p (j + 1) + (p (j + 2) + p (j + 3)) + (p (j + 4) + p (j + 5) + (p (j + 6) + p (j + 7))) ≤ 64
    omega
  · show p 0 + p 1 + (p 2 + p 3) + (p 4 + p 5 + (p 6 + p 7)) = 0 + p 0 + p 1 + p 2 + p 3 + p 4 + p 5 + p 6 + p 7
    omega
/-- Long.bitCount's steps, as the machine has them -/
def pt_c1 (x : Int64) : Int64 := x - (pt_ushr x 1 &&& 6148914691236517205)
def pt_c2 (x : Int64) : Int64 := (x &&& 3689348814741910323) + (pt_ushr x 2 &&& 3689348814741910323)
def pt_c3 (x : Int64) : Int64 := (x + pt_ushr x 4) &&& 1085102592571150095
def pt_c4 (x : Int64) : Int64 := x + pt_ushr x 8
def pt_c5 (x : Int64) : Int64 := x + pt_ushr x 16
def pt_c6 (x : Int64) : Int64 := x + pt_ushr x 32
def pt_bc (x : Int64) : Int32 := (pt_c6 (pt_c5 (pt_c4 (pt_c3 (pt_c2 (pt_c1 x)))))).toInt32 &&& 127
/-- the reference's count of bits, after k of them -/
def pt_cnt (v : Int64) : Nat → Int32
  | 0 => 0
  | k + 1 => pt_cnt v k + (pt_ushr v (nI k) &&& 1).toInt32
def pt_bits (v : Int64) : Int32 := pt_cnt v 64
theorem pt_cnt_T (v : Int64) : ∀ k, k ≤ 64 → pt_cnt v k = nI (pt_T (fun i => pt_u v / 2 ^ i % 2) k)
  | 0, _ => rfl
  | k + 1, h => by
    have ih := pt_cnt_T v k (by omega)
    have e : pt_ushr v (nI k) &&& 1 = lN (pt_u v / 2 ^ k % 2) := by
      apply pt_u_inj
      have e1 : pt_u (1 : Int64) = 2 ^ 1 - 1 := by decide
      rw [pt_u_and, pt_u_shr v (by omega), e1, Nat.and_two_pow_sub_one_eq_mod, pt_u_lN (by omega)]
    show pt_cnt v k + (pt_ushr v (nI k) &&& 1).toInt32 = nI (pt_T (fun i => pt_u v / 2 ^ i % 2) k + pt_u v / 2 ^ k % 2)
    rw [ih, e, lN_i, nI_add]
set_option maxHeartbeats 4000000 in
set_option maxRecDepth 20000 in
theorem pt_bc_T (v : Int64) : pt_bc v = nI (pt_T (fun i => pt_u v / 2 ^ i % 2) 64) ∧ pt_T (fun i => pt_u v / 2 ^ i % 2) 64 ≤ 64 := by
  have hv := pt_u_lt v
  generalize hb : (fun i => pt_u v / 2 ^ i % 2) = b
  have hb1 : ∀ i, b i ≤ 1 := fun i => by
    rw [← hb]
    show pt_u v / 2 ^ i % 2 ≤ 1
    omega
  have hb0 : ∀ i, 64 ≤ i → b i = 0 := fun i hi => by
    rw [← hb]
    show pt_u v / 2 ^ i % 2 = 0
    have : 2 ^ 64 ≤ 2 ^ i := Nat.pow_le_pow_right (by decide) hi
    rw [Nat.div_eq_of_lt (by omega)]
  -- 1
  have m5 : pt_u (6148914691236517205 : Int64) = 6148914691236517205 := by decide +kernel
  have m3 : pt_u (3689348814741910323 : Int64) = 3689348814741910323 := by decide +kernel
  have mf : pt_u (1085102592571150095 : Int64) = 1085102592571150095 := by decide +kernel
  obtain ⟨s1, s1'⟩ := pt_stage1 hv
  rw [hb] at s1'
  have u1 : pt_u (pt_c1 v) = pt_S 4 32 (pt_d2 b) := by
    have e : pt_u (pt_ushr v 1 &&& 6148914691236517205) = pt_u v / 2 &&& 6148914691236517205 := by
      rw [pt_u_and, m5]
      exact congrArg (· &&& 6148914691236517205) (pt_u_shr v (k := 1) (by decide))
    show pt_u (v - (pt_ushr v 1 &&& 6148914691236517205)) = _
    rw [pt_u_sub (by rw [e]; exact s1), e]
    exact s1'
  have hc2 : ∀ j, pt_d2 b j ≤ 2 := fun j => by
    have := hb1 (2 * j)
    have := hb1 (2 * j + 1)
    show b (2 * j) + b (2 * j + 1) ≤ 2
    omega
  have hd4 : ∀ j, pt_d2 (pt_d2 b) j ≤ 4 := fun j => by
    have := hc2 (2 * j)
    have := hc2 (2 * j + 1)
    show pt_d2 b (2 * j) + pt_d2 b (2 * j + 1) ≤ 4
    omega
  have hp8 : ∀ j, pt_d2 (pt_d2 (pt_d2 b)) j ≤ 8 := fun j => by
    have := hd4 (2 * j)
    have := hd4 (2 * j + 1)
    show pt_d2 (pt_d2 b) (2 * j) + pt_d2 (pt_d2 b) (2 * j + 1) ≤ 8
    omega
  have zc : ∀ j, 32 ≤ j → pt_d2 b j = 0 := fun j h => by
    show b (2 * j) + b (2 * j + 1) = 0
    rw [hb0 _ (by omega), hb0 _ (by omega)]
  have zd : ∀ j, 16 ≤ j → pt_d2 (pt_d2 b) j = 0 := fun j h => by
    show pt_d2 b (2 * j) + pt_d2 b (2 * j + 1) = 0
    rw [zc _ (by omega), zc _ (by omega)]
  have zp : ∀ j, pt_d2 (pt_d2 (pt_d2 b)) (8 + j) = 0 := fun j => by
    show pt_d2 (pt_d2 b) (2 * (8 + j)) + pt_d2 (pt_d2 b) (2 * (8 + j) + 1) = 0
    rw [zd _ (by omega), zd _ (by omega)]
  -- 2
  have s2 := pt_stage2 (pt_d2 b) hc2
  have l2 := pt_S_lt 16 16 (pt_d2 (pt_d2 b)) (fun j => by have := hd4 j; omega)
  have u2 : pt_u (pt_c2 (pt_c1 v)) = pt_S 16 16 (pt_d2 (pt_d2 b)) := by
    have e : pt_u (pt_ushr (pt_c1 v) 2) = pt_S 4 32 (pt_d2 b) / 4 := by
      rw [← u1]
      exact pt_u_shr (pt_c1 v) (k := 2) (by decide)
    show pt_u ((pt_c1 v &&& 3689348814741910323) + (pt_ushr (pt_c1 v) 2 &&& 3689348814741910323)) = _
    rw [pt_u_add, pt_u_and, pt_u_and, m3, u1, e, s2]
    exact Nat.mod_eq_of_lt l2
  -- 3
  obtain ⟨l3, s3⟩ := pt_stage3 (pt_d2 (pt_d2 b)) hd4 (zd 16 (by omega))
  have u3 : pt_u (pt_c3 (pt_c2 (pt_c1 v))) = pt_S 256 8 (pt_d2 (pt_d2 (pt_d2 b))) := by
    have e : pt_u (pt_ushr (pt_c2 (pt_c1 v)) 4) = pt_S 16 16 (pt_d2 (pt_d2 b)) / 16 := by
      rw [← u2]
      exact pt_u_shr (pt_c2 (pt_c1 v)) (k := 4) (by decide)
    show pt_u ((pt_c2 (pt_c1 v) + pt_ushr (pt_c2 (pt_c1 v)) 4) &&& 1085102592571150095) = _
    rw [pt_u_and, pt_u_add, mf, u2, e, Nat.mod_eq_of_lt l3]
    exact s3
  -- 4, 5, 6
  obtain ⟨l4, l5, t, s6, ht, ht0⟩ := pt_stage4 (pt_d2 (pt_d2 (pt_d2 b))) hp8 zp
  generalize hX : pt_S 256 8 (pt_d2 (pt_d2 (pt_d2 b))) = X at u3 l4 l5 s6
  have u4 : pt_u (pt_c4 (pt_c3 (pt_c2 (pt_c1 v)))) = X + X / 2 ^ 8 := by
    have e : pt_u (pt_ushr (pt_c3 (pt_c2 (pt_c1 v))) 8) = X / 2 ^ 8 := by
      rw [← u3]
      exact pt_u_shr _ (k := 8) (by decide)
    show pt_u (pt_c3 (pt_c2 (pt_c1 v)) + pt_ushr (pt_c3 (pt_c2 (pt_c1 v))) 8) = _
    rw [pt_u_add, u3, e, Nat.mod_eq_of_lt l4]
  generalize hY : X + X / 2 ^ 8 = Y at u4 l4 l5 s6
  have u5 : pt_u (pt_c5 (pt_c4 (pt_c3 (pt_c2 (pt_c1 v))))) = Y + Y / 2 ^ 16 := by
    have e : pt_u (pt_ushr (pt_c4 (pt_c3 (pt_c2 (pt_c1 v)))) 16) = Y / 2 ^ 16 := by
      rw [← u4]
      exact pt_u_shr _ (k := 16) (by decide)
    show pt_u (pt_c4 (pt_c3 (pt_c2 (pt_c1 v))) + pt_ushr (pt_c4 (pt_c3 (pt_c2 (pt_c1 v)))) 16) = _
    rw [pt_u_add, u4, e, Nat.mod_eq_of_lt l5]
  generalize hZ : Y + Y / 2 ^ 16 = Z at u5 l5 s6
  have l6 := pt_S_lt 256 8 t (fun j => by have := ht j; omega)
  have u6 : pt_u (pt_c6 (pt_c5 (pt_c4 (pt_c3 (pt_c2 (pt_c1 v)))))) = pt_S 256 8 t := by
    have e : pt_u (pt_ushr (pt_c5 (pt_c4 (pt_c3 (pt_c2 (pt_c1 v))))) 32) = Z / 2 ^ 32 := by
      rw [← u5]
      exact pt_u_shr _ (k := 32) (by decide)
    show pt_u (pt_c5 (pt_c4 (pt_c3 (pt_c2 (pt_c1 v)))) + pt_ushr (pt_c5 (pt_c4 (pt_c3 (pt_c2 (pt_c1 v))))) 32) = _
    rw [pt_u_add, u5, e, s6]
    exact Nat.mod_eq_of_lt l6
  have hT : pt_T b 64 = pt_T (pt_d2 (pt_d2 (pt_d2 b))) 8 := (pt_T_pair b 32).trans ((pt_T_pair (pt_d2 b) 16).trans (pt_T_pair (pt_d2 (pt_d2 b)) 8))
  have hle : pt_T b 64 ≤ 1 * 64 := pt_T_le hb1 64
  refine ⟨?_, by omega⟩
  have e6 : pt_c6 (pt_c5 (pt_c4 (pt_c3 (pt_c2 (pt_c1 v))))) = lN (pt_S 256 8 t) := by rw [← u6]; exact pt_u_of _
  have eS : pt_S 256 8 t = t 0 + 256 * pt_S 256 7 (fun j => t (j + 1)) := rfl
  show (pt_c6 (pt_c5 (pt_c4 (pt_c3 (pt_c2 (pt_c1 v)))))).toInt32 &&& 127 = _
  rw [e6, lN_i, pk_and (nI (pt_S 256 8 t)) (m := 127) 7 (by decide)]
  have e7 : (nI (pt_S 256 8 t)).toBitVec.toNat = pt_S 256 8 t % 2 ^ 32 := rfl
  rw [e7, eS, hT, ← ht0]
  congr 1
  omega
theorem pt_bc_bits (v : Int64) : pt_bc v = pt_bits v := by
  rw [(pt_bc_T v).1]
  exact (pt_cnt_T v 64 (Nat.le_refl _)).symm
theorem pt_bits_N (v : Int64) : ∃ k, k ≤ 64 ∧ pt_bits v = nI k := ⟨_, (pt_bc_T v).2, by rw [← pt_bc_bits]; exact (pt_bc_T v).1⟩
end
