section
-- ===== PART A: goes FIRST, ahead of the names: the tables' words, and 'selects' of the private methods out of them =====
/-- a private method of a class that the tables say can be made, by its rows of tables_1 -/
def lw_okq (q : MethodName × Nat) : Prop := (q.1.cls ≠ "java/lang/invoke/MethodHandle" ∧ q.1.cls ≠ "java/lang/invoke/VarHandle") ∧ Cond.instantiable q.1.cls q.2 ∈ tables_1 ∧ Cond.privateMethod q.1 ∈ tables_1 ∧ Cond.instanceMethod q.1 ∈ tables_1
theorem lw_p0 : lw_okq (⟨"PatternTree", "sharesWord", "(IJJ)Z"⟩, 7) := ⟨⟨by decide +kernel, by decide +kernel⟩, List.mem_of_getElem? (i := 11) (by decide +kernel), List.mem_of_getElem? (i := 50) (by decide +kernel), List.mem_of_getElem? (i := 51) (by decide +kernel)⟩
theorem lw_p1 : lw_okq (⟨"java/lang/Throwable", "fillInStackTrace", "(I)Ljava/lang/Throwable;"⟩, 6) := ⟨⟨by decide +kernel, by decide +kernel⟩, List.mem_of_getElem? (i := 104) (by decide +kernel), List.mem_of_getElem? (i := 102) (by decide +kernel), List.mem_of_getElem? (i := 103) (by decide +kernel)⟩
theorem lw_p2 : lw_okq (⟨"PatternTree", "refuseStrayWant", "(JJ)V"⟩, 7) := ⟨⟨by decide +kernel, by decide +kernel⟩, List.mem_of_getElem? (i := 11) (by decide +kernel), List.mem_of_getElem? (i := 142) (by decide +kernel), List.mem_of_getElem? (i := 143) (by decide +kernel)⟩
theorem lw_p3 : lw_okq (⟨"PatternTree", "append", "(JJ)I"⟩, 7) := ⟨⟨by decide +kernel, by decide +kernel⟩, List.mem_of_getElem? (i := 11) (by decide +kernel), List.mem_of_getElem? (i := 147) (by decide +kernel), List.mem_of_getElem? (i := 148) (by decide +kernel)⟩
theorem lw_p4 : lw_okq (⟨"PatternTree", "firstSharing", "(JJ)I"⟩, 7) := ⟨⟨by decide +kernel, by decide +kernel⟩, List.mem_of_getElem? (i := 11) (by decide +kernel), List.mem_of_getElem? (i := 167) (by decide +kernel), List.mem_of_getElem? (i := 168) (by decide +kernel)⟩
theorem lw_p5 : lw_okq (⟨"PatternTree", "refuseAbsent", "(I)V"⟩, 7) := ⟨⟨by decide +kernel, by decide +kernel⟩, List.mem_of_getElem? (i := 11) (by decide +kernel), List.mem_of_getElem? (i := 190) (by decide +kernel), List.mem_of_getElem? (i := 191) (by decide +kernel)⟩
theorem lw_p6 : lw_okq (⟨"PatternTree", "freeWords", "(JJ)J"⟩, 7) := ⟨⟨by decide +kernel, by decide +kernel⟩, List.mem_of_getElem? (i := 11) (by decide +kernel), List.mem_of_getElem? (i := 224) (by decide +kernel), List.mem_of_getElem? (i := 225) (by decide +kernel)⟩
theorem lw_p7 : lw_okq (⟨"PatternTree", "wordsOf", "(J)J"⟩, 7) := ⟨⟨by decide +kernel, by decide +kernel⟩, List.mem_of_getElem? (i := 11) (by decide +kernel), List.mem_of_getElem? (i := 228) (by decide +kernel), List.mem_of_getElem? (i := 229) (by decide +kernel)⟩
theorem lw_p8 : lw_okq (⟨"PatternTree", "bitsFrom", "(I)J"⟩, 7) := ⟨⟨by decide +kernel, by decide +kernel⟩, List.mem_of_getElem? (i := 11) (by decide +kernel), List.mem_of_getElem? (i := 245) (by decide +kernel), List.mem_of_getElem? (i := 246) (by decide +kernel)⟩
theorem lw_p9 : lw_okq (⟨"PatternTree", "leastFree", "(IJ)J"⟩, 7) := ⟨⟨by decide +kernel, by decide +kernel⟩, List.mem_of_getElem? (i := 11) (by decide +kernel), List.mem_of_getElem? (i := 249) (by decide +kernel), List.mem_of_getElem? (i := 250) (by decide +kernel)⟩
theorem lw_p10 : lw_okq (⟨"PatternTreeModel", "fail", "(I)I"⟩, 7) := ⟨⟨by decide +kernel, by decide +kernel⟩, List.mem_of_getElem? (i := 262) (by decide +kernel), List.mem_of_getElem? (i := 298) (by decide +kernel), List.mem_of_getElem? (i := 299) (by decide +kernel)⟩
theorem lw_p11 : lw_okq (⟨"PatternTreeModel", "wrong", "(JJ)Z"⟩, 7) := ⟨⟨by decide +kernel, by decide +kernel⟩, List.mem_of_getElem? (i := 262) (by decide +kernel), List.mem_of_getElem? (i := 306) (by decide +kernel), List.mem_of_getElem? (i := 307) (by decide +kernel)⟩
theorem lw_p12 : lw_okq (⟨"PatternTreeModel", "mask", "()J"⟩, 7) := ⟨⟨by decide +kernel, by decide +kernel⟩, List.mem_of_getElem? (i := 262) (by decide +kernel), List.mem_of_getElem? (i := 311) (by decide +kernel), List.mem_of_getElem? (i := 312) (by decide +kernel)⟩
theorem lw_p13 : lw_okq (⟨"PatternTreeModel", "first", "(JJ)I"⟩, 7) := ⟨⟨by decide +kernel, by decide +kernel⟩, List.mem_of_getElem? (i := 262) (by decide +kernel), List.mem_of_getElem? (i := 315) (by decide +kernel), List.mem_of_getElem? (i := 316) (by decide +kernel)⟩
theorem lw_p14 : lw_okq (⟨"PatternTreeModel", "meet", "(IJJ)Z"⟩, 7) := ⟨⟨by decide +kernel, by decide +kernel⟩, List.mem_of_getElem? (i := 262) (by decide +kernel), List.mem_of_getElem? (i := 319) (by decide +kernel), List.mem_of_getElem? (i := 320) (by decide +kernel)⟩
theorem lw_p15 : lw_okq (⟨"PatternTreeModel", "none", "(JJ)J"⟩, 7) := ⟨⟨by decide +kernel, by decide +kernel⟩, List.mem_of_getElem? (i := 262) (by decide +kernel), List.mem_of_getElem? (i := 346) (by decide +kernel), List.mem_of_getElem? (i := 347) (by decide +kernel)⟩
def lw_privs_1 : List (MethodName × Nat) := [(⟨"PatternTree", "sharesWord", "(IJJ)Z"⟩, 7), (⟨"java/lang/Throwable", "fillInStackTrace", "(I)Ljava/lang/Throwable;"⟩, 6), (⟨"PatternTree", "refuseStrayWant", "(JJ)V"⟩, 7), (⟨"PatternTree", "append", "(JJ)I"⟩, 7), (⟨"PatternTree", "firstSharing", "(JJ)I"⟩, 7), (⟨"PatternTree", "refuseAbsent", "(I)V"⟩, 7), (⟨"PatternTree", "freeWords", "(JJ)J"⟩, 7), (⟨"PatternTree", "wordsOf", "(J)J"⟩, 7), (⟨"PatternTree", "bitsFrom", "(I)J"⟩, 7), (⟨"PatternTree", "leastFree", "(IJ)J"⟩, 7), (⟨"PatternTreeModel", "fail", "(I)I"⟩, 7), (⟨"PatternTreeModel", "wrong", "(JJ)Z"⟩, 7), (⟨"PatternTreeModel", "mask", "()J"⟩, 7), (⟨"PatternTreeModel", "first", "(JJ)I"⟩, 7), (⟨"PatternTreeModel", "meet", "(IJJ)Z"⟩, 7), (⟨"PatternTreeModel", "none", "(JJ)J"⟩, 7)]
theorem lw_r1 : ∀ q ∈ lw_privs_1, lw_okq q := List.forall_mem_cons.mpr ⟨lw_p0, List.forall_mem_cons.mpr ⟨lw_p1, List.forall_mem_cons.mpr ⟨lw_p2, List.forall_mem_cons.mpr ⟨lw_p3, List.forall_mem_cons.mpr ⟨lw_p4, List.forall_mem_cons.mpr ⟨lw_p5, List.forall_mem_cons.mpr ⟨lw_p6, List.forall_mem_cons.mpr ⟨lw_p7, List.forall_mem_cons.mpr ⟨lw_p8, List.forall_mem_cons.mpr ⟨lw_p9, List.forall_mem_cons.mpr ⟨lw_p10, List.forall_mem_cons.mpr ⟨lw_p11, List.forall_mem_cons.mpr ⟨lw_p12, List.forall_mem_cons.mpr ⟨lw_p13, List.forall_mem_cons.mpr ⟨lw_p14, List.forall_mem_cons.mpr ⟨lw_p15, fun _ h => absurd h List.not_mem_nil⟩⟩⟩⟩⟩⟩⟩⟩⟩⟩⟩⟩⟩⟩⟩⟩
theorem lw_p16 : lw_okq (⟨"PatternTreeModel", "some", "(JJ)Z"⟩, 7) := ⟨⟨by decide +kernel, by decide +kernel⟩, List.mem_of_getElem? (i := 262) (by decide +kernel), List.mem_of_getElem? (i := 360) (by decide +kernel), List.mem_of_getElem? (i := 361) (by decide +kernel)⟩
def lw_privs_2 : List (MethodName × Nat) := [(⟨"PatternTreeModel", "some", "(JJ)Z"⟩, 7)]
theorem lw_r2 : ∀ q ∈ lw_privs_2, lw_okq q := List.forall_mem_cons.mpr ⟨lw_p16, fun _ h => absurd h List.not_mem_nil⟩
def lw_privs : List (MethodName × Nat) := lw_privs_1 ++ (lw_privs_2)
def lw_tbl : List Cond := k2_sels lw_privs ++ tables_1
theorem lw_privs_ok : ∀ q ∈ lw_privs, lw_okq q := by
  show ∀ q ∈ lw_privs_1 ++ (lw_privs_2), lw_okq q
  exact List.forall_mem_append.mpr ⟨lw_r1, lw_r2⟩
end
section
def RX0 : String := "PatternTree"
def RX1 : String := "PatternTreeModel"
def RL : String := "PatternTreeLaw"
def RJ : String := "java/lang/Long"
def TX0 : u_T := fun k => match k with
  | 0 => ("PatternTree", "cares", "[J", true)
  | 1 => ("PatternTree", "wants", "[J", true)
  | 2 => ("PatternTree", "size", "I", false)
  | 3 => ("PatternTree", "length", "I", false)
  | 4 => ("PatternTree", "mask", "J", false)
  | 5 => ("PatternTree", "clash", "I", false)
  | _ => ("PatternTree", "surplus", "I", false)
def tyX0 : Nat → FieldType := fun k => match k with
  | 0 => .array .long
  | 1 => .array .long
  | 2 => .int
  | 3 => .int
  | 4 => .long
  | 5 => .int
  | _ => .int
theorem nmX0 : ∀ a, a < 7 → ∀ b, b < 7 → a ≠ b → (TX0 a).2.1 ≠ (TX0 b).2.1 := by decide +kernel
theorem tyX0_ok : ∀ k, k < 7 → parseFieldDescriptor (TX0 k).2.2.1 = some (tyX0 k) := by decide +kernel
def TX1 : u_T := fun k => match k with
  | 0 => ("PatternTreeModel", "care", "[J", true)
  | 1 => ("PatternTreeModel", "want", "[J", true)
  | 2 => ("PatternTreeModel", "many", "I", false)
  | 3 => ("PatternTreeModel", "length", "I", false)
  | 4 => ("PatternTreeModel", "clash", "I", false)
  | 5 => ("PatternTreeModel", "beyond", "I", false)
  | _ => ("PatternTreeModel", "thrown", "I", false)
def tyX1 : Nat → FieldType := fun k => match k with
  | 0 => .array .long
  | 1 => .array .long
  | 2 => .int
  | 3 => .int
  | 4 => .int
  | 5 => .int
  | _ => .int
theorem nmX1 : ∀ a, a < 7 → ∀ b, b < 7 → a ≠ b → (TX1 a).2.1 ≠ (TX1 b).2.1 := by decide +kernel
theorem tyX1_ok : ∀ k, k < 7 → parseFieldDescriptor (TX1 k).2.2.1 = some (tyX1 k) := by decide +kernel
abbrev vwCl : List vw_C := [(RX0, TX0, 7), (RX1, TX1, 7)]
abbrev cX0_init : ByteArray := prog_1_method_1_code
def yX0_init : MethodName := ⟨RX0, "<init>", "()V"⟩
abbrev cX0_lowestBits : ByteArray := prog_1_method_21_code
def yX0_lowestBits : MethodName := ⟨RX0, "lowestBits", "(I)J"⟩
abbrev cX0_decode : ByteArray := prog_1_method_6_code
def yX0_decode : MethodName := ⟨RX0, "decode", "(J)I"⟩
abbrev cX0_sharesWord : ByteArray := prog_1_method_16_code
def yX0_sharesWord : MethodName := ⟨RX0, "sharesWord", "(IJJ)Z"⟩
abbrev cX0_count : ByteArray := prog_1_method_11_code
def yX0_count : MethodName := ⟨RX0, "count", "(I)I"⟩
abbrev cL_clear : ByteArray := method_3_code
def yL_clear : MethodName := ⟨RL, "clear", "(LPatternTree;I)I"⟩
abbrev cX0_clear : ByteArray := prog_1_method_2_code
def yX0_clear : MethodName := ⟨RX0, "clear", "(I)V"⟩
abbrev cL_add : ByteArray := method_4_code
def yL_add : MethodName := ⟨RL, "add", "(LPatternTree;JJ[J)I"⟩
abbrev cX0_add : ByteArray := prog_1_method_3_code
def yX0_add : MethodName := ⟨RX0, "add", "(JJ)I"⟩
abbrev cX0_refuseStrayWant : ByteArray := prog_1_method_12_code
def yX0_refuseStrayWant : MethodName := ⟨RX0, "refuseStrayWant", "(JJ)V"⟩
abbrev cX0_append : ByteArray := prog_1_method_14_code
def yX0_append : MethodName := ⟨RX0, "append", "(JJ)I"⟩
abbrev cX0_firstSharing : ByteArray := prog_1_method_15_code
def yX0_firstSharing : MethodName := ⟨RX0, "firstSharing", "(JJ)I"⟩
abbrev cL_signs : ByteArray := method_5_code
def yL_signs : MethodName := ⟨RL, "signs", "(LPatternTree;J[J)I"⟩
abbrev cX0_signs : ByteArray := prog_1_method_4_code
def yX0_signs : MethodName := ⟨RX0, "signs", "(J)I"⟩
abbrev cL_drop : ByteArray := method_6_code
def yL_drop : MethodName := ⟨RL, "drop", "(LPatternTree;I)I"⟩
abbrev cX0_drop : ByteArray := prog_1_method_5_code
def yX0_drop : MethodName := ⟨RX0, "drop", "(I)V"⟩
abbrev cX0_refuseAbsent : ByteArray := prog_1_method_13_code
def yX0_refuseAbsent : MethodName := ⟨RX0, "refuseAbsent", "(I)V"⟩
abbrev cL_meets : ByteArray := method_7_code
def yL_meets : MethodName := ⟨RL, "meets", "(LPatternTree;JJ[J)I"⟩
abbrev cX0_meets : ByteArray := prog_1_method_7_code
def yX0_meets : MethodName := ⟨RX0, "meets", "(JJ)I"⟩
abbrev cL_free : ByteArray := method_8_code
def yL_free : MethodName := ⟨RL, "free", "(LPatternTree;JJ[J)I"⟩
abbrev cX0_free : ByteArray := prog_1_method_8_code
def yX0_free : MethodName := ⟨RX0, "free", "(JJ)J"⟩
abbrev cX0_freeWords : ByteArray := prog_1_method_17_code
def yX0_freeWords : MethodName := ⟨RX0, "freeWords", "(JJ)J"⟩
abbrev cX0_wordsOf : ByteArray := prog_1_method_19_code
def yX0_wordsOf : MethodName := ⟨RX0, "wordsOf", "(J)J"⟩
abbrev cJ_bitCount : ByteArray := prog_7_method_50_code
def yJ_bitCount : MethodName := ⟨RJ, "bitCount", "(J)I"⟩
abbrev cL_next : ByteArray := method_9_code
def yL_next : MethodName := ⟨RL, "next", "(LPatternTree;J[J)I"⟩
abbrev cX0_next : ByteArray := prog_1_method_9_code
def yX0_next : MethodName := ⟨RX0, "next", "(J)J"⟩
abbrev cX0_bitsFrom : ByteArray := prog_1_method_20_code
def yX0_bitsFrom : MethodName := ⟨RX0, "bitsFrom", "(I)J"⟩
abbrev cX0_leastFree : ByteArray := prog_1_method_18_code
def yX0_leastFree : MethodName := ⟨RX0, "leastFree", "(IJ)J"⟩
abbrev cL_told : ByteArray := method_10_code
def yL_told : MethodName := ⟨RL, "told", "(LPatternTree;II[J)I"⟩
abbrev cX0_told : ByteArray := prog_1_method_10_code
def yX0_told : MethodName := ⟨RX0, "told", "(II)J"⟩
abbrev cX1_init : ByteArray := prog_3_method_1_code
def yX1_init : MethodName := ⟨RX1, "<init>", "()V"⟩
abbrev cX1_thrown : ByteArray := prog_3_method_2_code
def yX1_thrown : MethodName := ⟨RX1, "thrown", "()I"⟩
abbrev cX1_clear : ByteArray := prog_3_method_10_code
def yX1_clear : MethodName := ⟨RX1, "clear", "(I)V"⟩
abbrev cX1_fail : ByteArray := prog_3_method_3_code
def yX1_fail : MethodName := ⟨RX1, "fail", "(I)I"⟩
abbrev cX1_add : ByteArray := prog_3_method_11_code
def yX1_add : MethodName := ⟨RX1, "add", "(JJ)I"⟩
abbrev cX1_wrong : ByteArray := prog_3_method_7_code
def yX1_wrong : MethodName := ⟨RX1, "wrong", "(JJ)Z"⟩
abbrev cX1_mask : ByteArray := prog_3_method_4_code
def yX1_mask : MethodName := ⟨RX1, "mask", "()J"⟩
abbrev cX1_first : ByteArray := prog_3_method_9_code
def yX1_first : MethodName := ⟨RX1, "first", "(JJ)I"⟩
abbrev cX1_meet : ByteArray := prog_3_method_8_code
def yX1_meet : MethodName := ⟨RX1, "meet", "(IJJ)Z"⟩
abbrev cX1_signs : ByteArray := prog_3_method_12_code
def yX1_signs : MethodName := ⟨RX1, "signs", "(J)I"⟩
abbrev cX1_drop : ByteArray := prog_3_method_13_code
def yX1_drop : MethodName := ⟨RX1, "drop", "(I)V"⟩
abbrev cX1_decode : ByteArray := prog_3_method_14_code
def yX1_decode : MethodName := ⟨RX1, "decode", "(J)I"⟩
abbrev cX1_meets : ByteArray := prog_3_method_15_code
def yX1_meets : MethodName := ⟨RX1, "meets", "(JJ)I"⟩
abbrev cX1_free : ByteArray := prog_3_method_17_code
def yX1_free : MethodName := ⟨RX1, "free", "(JJ)J"⟩
abbrev cX1_none : ByteArray := prog_3_method_16_code
def yX1_none : MethodName := ⟨RX1, "none", "(JJ)J"⟩
abbrev cX1_bits : ByteArray := prog_3_method_5_code
def yX1_bits : MethodName := ⟨RX1, "bits", "(J)I"⟩
abbrev cX1_power : ByteArray := prog_3_method_6_code
def yX1_power : MethodName := ⟨RX1, "power", "(I)J"⟩
abbrev cX1_next : ByteArray := prog_3_method_19_code
def yX1_next : MethodName := ⟨RX1, "next", "(J)J"⟩
abbrev cX1_some : ByteArray := prog_3_method_18_code
def yX1_some : MethodName := ⟨RX1, "some", "(JJ)Z"⟩
abbrev cX1_told : ByteArray := prog_3_method_20_code
def yX1_told : MethodName := ⟨RX1, "told", "(II)J"⟩
abbrev cX1_count : ByteArray := prog_3_method_21_code
def yX1_count : MethodName := ⟨RX1, "count", "(I)I"⟩
abbrev cL_law : ByteArray := code
def yL_law : MethodName := ⟨RL, "law", "([I)Z"⟩
/-- the words that all methods here lean on -/
def pt_all : List Cond := [
  .selects RX0 yX0_sharesWord yX0_sharesWord,
  .selects RX0 yX0_refuseStrayWant yX0_refuseStrayWant,
  .selects RX0 yX0_append yX0_append,
  .selects RX0 yX0_firstSharing yX0_firstSharing,
  .selects RX0 yX0_refuseAbsent yX0_refuseAbsent,
  .selects RX0 yX0_freeWords yX0_freeWords,
  .selects RX0 yX0_wordsOf yX0_wordsOf,
  .selects RX0 yX0_bitsFrom yX0_bitsFrom,
  .selects RX0 yX0_leastFree yX0_leastFree,
  .selects RX1 yX1_fail yX1_fail,
  .selects RX1 yX1_wrong yX1_wrong,
  .selects RX1 yX1_mask yX1_mask,
  .selects RX1 yX1_first yX1_first,
  .selects RX1 yX1_meet yX1_meet,
  .selects RX1 yX1_none yX1_none,
  .selects RX1 yX1_some yX1_some,
  .initialized RL,
  .initialized RX0,
  .initialized RX1,
  .initialized RJ,
  .classLink RL 8 RX0,
  .instantiable RX0 7,
  .methodLink RL 45 yX0_init,
  .instanceMethod yX0_init,
  .code yX0_init cX0_init 1 none,
  .methodLink RX0 1 objectInit,
  .instanceMethod objectInit,
  .code objectInit object_method_1_code 1 none,
  .methodLink RX0 23 yX0_lowestBits,
  .static yX0_lowestBits,
  .code yX0_lowestBits cX0_lowestBits 1 (some .long),
  .constantLong RX0 93 (-1),
  .fieldLink RX0 9 "PatternTree" "cares" "[J",
  .fieldLink RX0 13 "PatternTree" "wants" "[J",
  .fieldLink RX0 16 "PatternTree" "size" "I",
  .fieldLink RX0 20 "PatternTree" "length" "I",
  .fieldLink RX0 27 "PatternTree" "mask" "J",
  .fieldLink RX0 31 "PatternTree" "clash" "I",
  .fieldLink RX0 34 "PatternTree" "surplus" "I",
  .laysFinal RX0 "PatternTree" "cares" "[J",
  .laysFinal RX0 "PatternTree" "wants" "[J",
  .lays RX0 "PatternTree" "size" "I",
  .lays RX0 "PatternTree" "length" "I",
  .lays RX0 "PatternTree" "mask" "J",
  .lays RX0 "PatternTree" "clash" "I",
  .lays RX0 "PatternTree" "surplus" "I",
  .arrayClass .long,
  .methodLink RL 72 yX0_decode,
  .instanceMethod yX0_decode,
  .selects RX0 yX0_decode yX0_decode,
  .code yX0_decode cX0_decode 5 (some .int),
  .methodLink RX0 62 yX0_sharesWord,
  .instanceMethod yX0_sharesWord,
  .code yX0_sharesWord cX0_sharesWord 6 (some .boolean),
  .methodLink RL 89 yX0_count,
  .instanceMethod yX0_count,
  .selects RX0 yX0_count yX0_count,
  .code yX0_count cX0_count 2 (some .int),
  .methodLink RL 49 yL_clear,
  .static yL_clear,
  .codeWith yL_clear cL_clear 3 (some .int) [(0, 5, 8, 13)],
  .classLink RL 13 "java/lang/IllegalArgumentException",
  .methodLink RL 7 yX0_clear,
  .instanceMethod yX0_clear,
  .selects RX0 yX0_clear yX0_clear,
  .code yX0_clear cX0_clear 2 none,
  .classLink RX0 37 "java/lang/IllegalArgumentException",
  .methodLink RX0 41 ⟨"java/lang/IllegalArgumentException", "<init>", "(Ljava/lang/String;)V"⟩,
  .methodLink RL 61 yL_add,
  .static yL_add,
  .codeWith yL_add cL_add 7 (some .int) [(0, 11, 14, 13), (0, 11, 18, 19)],
  .classLink RL 19 "java/lang/IllegalStateException",
  .methodLink RL 15 yX0_add,
  .instanceMethod yX0_add,
  .selects RX0 yX0_add yX0_add,
  .code yX0_add cX0_add 5 (some .int),
  .methodLink RX0 44 yX0_refuseStrayWant,
  .instanceMethod yX0_refuseStrayWant,
  .code yX0_refuseStrayWant cX0_refuseStrayWant 5 none,
  .methodLink RX0 48 yX0_append,
  .instanceMethod yX0_append,
  .code yX0_append cX0_append 6 (some .int),
  .classLink RX0 99 "java/lang/IllegalStateException",
  .methodLink RX0 103 ⟨"java/lang/IllegalStateException", "<init>", "(Ljava/lang/String;)V"⟩,
  .methodLink RX0 66 yX0_firstSharing,
  .instanceMethod yX0_firstSharing,
  .code yX0_firstSharing cX0_firstSharing 6 (some .int),
  .methodLink RL 65 yL_signs,
  .static yL_signs,
  .codeWith yL_signs cL_signs 5 (some .int) [(0, 9, 12, 13), (0, 9, 16, 19)],
  .methodLink RL 21 yX0_signs,
  .instanceMethod yX0_signs,
  .selects RX0 yX0_signs yX0_signs,
  .code yX0_signs cX0_signs 12 (some .int),
  .constantLong RX0 54 3,
  .constantLong RX0 56 2,
  .methodLink RL 69 yL_drop,
  .static yL_drop,
  .codeWith yL_drop cL_drop 3 (some .int) [(0, 5, 8, 28)],
  .classLink RL 28 "java/util/NoSuchElementException",
  .methodLink RL 25 yX0_drop,
  .instanceMethod yX0_drop,
  .selects RX0 yX0_drop yX0_drop,
  .code yX0_drop cX0_drop 3 none,
  .methodLink RX0 58 yX0_refuseAbsent,
  .instanceMethod yX0_refuseAbsent,
  .code yX0_refuseAbsent cX0_refuseAbsent 2 none,
  .classLink RX0 80 "java/util/NoSuchElementException",
  .methodLink RX0 84 ⟨"java/util/NoSuchElementException", "<init>", "(Ljava/lang/String;)V"⟩,
  .methodLink RL 76 yL_meets,
  .static yL_meets,
  .codeWith yL_meets cL_meets 7 (some .int) [(0, 11, 14, 13)],
  .methodLink RL 30 yX0_meets,
  .instanceMethod yX0_meets,
  .selects RX0 yX0_meets yX0_meets,
  .code yX0_meets cX0_meets 5 (some .int),
  .methodLink RL 79 yL_free,
  .static yL_free,
  .codeWith yL_free cL_free 7 (some .int) [(0, 10, 13, 13)],
  .methodLink RL 33 yX0_free,
  .instanceMethod yX0_free,
  .selects RX0 yX0_free yX0_free,
  .code yX0_free cX0_free 5 (some .long),
  .methodLink RX0 69 yX0_freeWords,
  .instanceMethod yX0_freeWords,
  .code yX0_freeWords cX0_freeWords 8 (some .long),
  .methodLink RX0 106 yX0_wordsOf,
  .instanceMethod yX0_wordsOf,
  .code yX0_wordsOf cX0_wordsOf 4 (some .long),
  .methodLink RX0 87 yJ_bitCount,
  .static yJ_bitCount,
  .code yJ_bitCount cJ_bitCount 2 (some .int),
  .constantLong RJ 314 6148914691236517205,
  .constantLong RJ 316 3689348814741910323,
  .constantLong RJ 318 1085102592571150095,
  .methodLink RL 82 yL_next,
  .static yL_next,
  .codeWith yL_next cL_next 5 (some .int) [(0, 8, 11, 28)],
  .methodLink RL 37 yX0_next,
  .instanceMethod yX0_next,
  .selects RX0 yX0_next yX0_next,
  .code yX0_next cX0_next 8 (some .long),
  .methodLink RX0 73 yX0_bitsFrom,
  .instanceMethod yX0_bitsFrom,
  .code yX0_bitsFrom cX0_bitsFrom 2 (some .long),
  .methodLink RX0 76 yX0_leastFree,
  .instanceMethod yX0_leastFree,
  .code yX0_leastFree cX0_leastFree 7 (some .long),
  .methodLink RL 85 yL_told,
  .static yL_told,
  .codeWith yL_told cL_told 5 (some .int) [(0, 9, 12, 13), (0, 9, 16, 28)],
  .methodLink RL 41 yX0_told,
  .instanceMethod yX0_told,
  .selects RX0 yX0_told yX0_told,
  .code yX0_told cX0_told 3 (some .long),
  .classLink RL 46 RX1,
  .instantiable RX1 7,
  .methodLink RL 48 yX1_init,
  .instanceMethod yX1_init,
  .code yX1_init cX1_init 1 none,
  .methodLink RX1 1 objectInit,
  .fieldLink RX1 7 "PatternTreeModel" "care" "[J",
  .fieldLink RX1 13 "PatternTreeModel" "want" "[J",
  .fieldLink RX1 32 "PatternTreeModel" "many" "I",
  .fieldLink RX1 16 "PatternTreeModel" "length" "I",
  .fieldLink RX1 20 "PatternTreeModel" "clash" "I",
  .fieldLink RX1 58 "PatternTreeModel" "beyond" "I",
  .fieldLink RX1 23 "PatternTreeModel" "thrown" "I",
  .laysFinal RX1 "PatternTreeModel" "care" "[J",
  .laysFinal RX1 "PatternTreeModel" "want" "[J",
  .lays RX1 "PatternTreeModel" "many" "I",
  .lays RX1 "PatternTreeModel" "length" "I",
  .lays RX1 "PatternTreeModel" "clash" "I",
  .lays RX1 "PatternTreeModel" "beyond" "I",
  .lays RX1 "PatternTreeModel" "thrown" "I",
  .methodLink RL 55 yX1_thrown,
  .instanceMethod yX1_thrown,
  .selects RX1 yX1_thrown yX1_thrown,
  .code yX1_thrown cX1_thrown 1 (some .int),
  .methodLink RL 54 yX1_clear,
  .instanceMethod yX1_clear,
  .selects RX1 yX1_clear yX1_clear,
  .code yX1_clear cX1_clear 2 none,
  .methodLink RX1 39 yX1_fail,
  .instanceMethod yX1_fail,
  .code yX1_fail cX1_fail 2 (some .int),
  .methodLink RL 64 yX1_add,
  .instanceMethod yX1_add,
  .selects RX1 yX1_add yX1_add,
  .code yX1_add cX1_add 6 (some .int),
  .methodLink RX1 43 yX1_wrong,
  .instanceMethod yX1_wrong,
  .code yX1_wrong cX1_wrong 5 (some .boolean),
  .constantLong RX1 26 (-1),
  .methodLink RX1 28 yX1_mask,
  .instanceMethod yX1_mask,
  .code yX1_mask cX1_mask 1 (some .long),
  .methodLink RX1 47 yX1_first,
  .instanceMethod yX1_first,
  .code yX1_first cX1_first 6 (some .int),
  .methodLink RX1 35 yX1_meet,
  .instanceMethod yX1_meet,
  .code yX1_meet cX1_meet 6 (some .boolean),
  .methodLink RL 68 yX1_signs,
  .instanceMethod yX1_signs,
  .selects RX1 yX1_signs yX1_signs,
  .code yX1_signs cX1_signs 12 (some .int),
  .constantLong RX1 51 3,
  .constantLong RX1 53 2,
  .methodLink RX1 55 yX1_add,
  .methodLink RL 71 yX1_drop,
  .instanceMethod yX1_drop,
  .selects RX1 yX1_drop yX1_drop,
  .code yX1_drop cX1_drop 3 none,
  .methodLink RL 75 yX1_decode,
  .instanceMethod yX1_decode,
  .selects RX1 yX1_decode yX1_decode,
  .code yX1_decode cX1_decode 6 (some .int),
  .methodLink RL 78 yX1_meets,
  .instanceMethod yX1_meets,
  .selects RX1 yX1_meets yX1_meets,
  .code yX1_meets cX1_meets 5 (some .int),
  .methodLink RL 81 yX1_free,
  .instanceMethod yX1_free,
  .selects RX1 yX1_free yX1_free,
  .code yX1_free cX1_free 5 (some .long),
  .methodLink RX1 69 yX1_none,
  .instanceMethod yX1_none,
  .code yX1_none cX1_none 8 (some .long),
  .methodLink RX1 61 yX1_bits,
  .static yX1_bits,
  .code yX1_bits cX1_bits 4 (some .int),
  .methodLink RX1 65 yX1_power,
  .static yX1_power,
  .code yX1_power cX1_power 1 (some .long),
  .methodLink RL 84 yX1_next,
  .instanceMethod yX1_next,
  .selects RX1 yX1_next yX1_next,
  .code yX1_next cX1_next 13 (some .long),
  .methodLink RX1 73 yX1_some,
  .instanceMethod yX1_some,
  .code yX1_some cX1_some 5 (some .boolean),
  .methodLink RL 88 yX1_told,
  .instanceMethod yX1_told,
  .selects RX1 yX1_told yX1_told,
  .code yX1_told cX1_told 3 (some .long),
  .methodLink RL 93 yX1_count,
  .instanceMethod yX1_count,
  .selects RX1 yX1_count yX1_count,
  .code yX1_count cX1_count 2 (some .int),
  .constantLong RL 59 4294967295]
set_option maxRecDepth 20000 in
theorem pt_all_in : GoodIn lw_tbl pt_all := goodIn_p pt_all [31, 34, 37, 65, 69, 73, 81, 157, 161, 166, 186, 194, 205, 209, 232, 239, 243, 247, 250, 260, 264, 268, 276, 282, 309, 313, 317, 321, 325, 330, 334, 338, 342, 349, 353, 357, 361, 365, 368, 371, 375, 379, 383, 387] (by decide +kernel) (by decide +kernel)
abbrev wsX0_init : List Cond := .code yX0_init cX0_init 1 none :: pt_all
abbrev wsX0_lowestBits : List Cond := .code yX0_lowestBits cX0_lowestBits 1 (some .long) :: pt_all
abbrev wsX0_decode : List Cond := .code yX0_decode cX0_decode 5 (some .int) :: pt_all
abbrev wsX0_sharesWord : List Cond := .code yX0_sharesWord cX0_sharesWord 6 (some .boolean) :: pt_all
abbrev wsX0_count : List Cond := .code yX0_count cX0_count 2 (some .int) :: pt_all
abbrev wsL_clear : List Cond := .codeWith yL_clear cL_clear 3 (some .int) [(0, 5, 8, 13)] :: pt_all
abbrev wsX0_clear : List Cond := .code yX0_clear cX0_clear 2 none :: pt_all
abbrev wsL_add : List Cond := .codeWith yL_add cL_add 7 (some .int) [(0, 11, 14, 13), (0, 11, 18, 19)] :: pt_all
abbrev wsX0_add : List Cond := .code yX0_add cX0_add 5 (some .int) :: pt_all
abbrev wsX0_refuseStrayWant : List Cond := .code yX0_refuseStrayWant cX0_refuseStrayWant 5 none :: pt_all
abbrev wsX0_append : List Cond := .code yX0_append cX0_append 6 (some .int) :: pt_all
abbrev wsX0_firstSharing : List Cond := .code yX0_firstSharing cX0_firstSharing 6 (some .int) :: pt_all
abbrev wsL_signs : List Cond := .codeWith yL_signs cL_signs 5 (some .int) [(0, 9, 12, 13), (0, 9, 16, 19)] :: pt_all
abbrev wsX0_signs : List Cond := .code yX0_signs cX0_signs 12 (some .int) :: pt_all
abbrev wsL_drop : List Cond := .codeWith yL_drop cL_drop 3 (some .int) [(0, 5, 8, 28)] :: pt_all
abbrev wsX0_drop : List Cond := .code yX0_drop cX0_drop 3 none :: pt_all
abbrev wsX0_refuseAbsent : List Cond := .code yX0_refuseAbsent cX0_refuseAbsent 2 none :: pt_all
abbrev wsL_meets : List Cond := .codeWith yL_meets cL_meets 7 (some .int) [(0, 11, 14, 13)] :: pt_all
abbrev wsX0_meets : List Cond := .code yX0_meets cX0_meets 5 (some .int) :: pt_all
abbrev wsL_free : List Cond := .codeWith yL_free cL_free 7 (some .int) [(0, 10, 13, 13)] :: pt_all
abbrev wsX0_free : List Cond := .code yX0_free cX0_free 5 (some .long) :: pt_all
abbrev wsX0_freeWords : List Cond := .code yX0_freeWords cX0_freeWords 8 (some .long) :: pt_all
abbrev wsX0_wordsOf : List Cond := .code yX0_wordsOf cX0_wordsOf 4 (some .long) :: pt_all
abbrev wsJ_bitCount : List Cond := .code yJ_bitCount cJ_bitCount 2 (some .int) :: pt_all
abbrev wsL_next : List Cond := .codeWith yL_next cL_next 5 (some .int) [(0, 8, 11, 28)] :: pt_all
abbrev wsX0_next : List Cond := .code yX0_next cX0_next 8 (some .long) :: pt_all
abbrev wsX0_bitsFrom : List Cond := .code yX0_bitsFrom cX0_bitsFrom 2 (some .long) :: pt_all
abbrev wsX0_leastFree : List Cond := .code yX0_leastFree cX0_leastFree 7 (some .long) :: pt_all
abbrev wsL_told : List Cond := .codeWith yL_told cL_told 5 (some .int) [(0, 9, 12, 13), (0, 9, 16, 28)] :: pt_all
abbrev wsX0_told : List Cond := .code yX0_told cX0_told 3 (some .long) :: pt_all
abbrev wsX1_init : List Cond := .code yX1_init cX1_init 1 none :: pt_all
abbrev wsX1_thrown : List Cond := .code yX1_thrown cX1_thrown 1 (some .int) :: pt_all
abbrev wsX1_clear : List Cond := .code yX1_clear cX1_clear 2 none :: pt_all
abbrev wsX1_fail : List Cond := .code yX1_fail cX1_fail 2 (some .int) :: pt_all
abbrev wsX1_add : List Cond := .code yX1_add cX1_add 6 (some .int) :: pt_all
abbrev wsX1_wrong : List Cond := .code yX1_wrong cX1_wrong 5 (some .boolean) :: pt_all
abbrev wsX1_mask : List Cond := .code yX1_mask cX1_mask 1 (some .long) :: pt_all
abbrev wsX1_first : List Cond := .code yX1_first cX1_first 6 (some .int) :: pt_all
abbrev wsX1_meet : List Cond := .code yX1_meet cX1_meet 6 (some .boolean) :: pt_all
abbrev wsX1_signs : List Cond := .code yX1_signs cX1_signs 12 (some .int) :: pt_all
abbrev wsX1_drop : List Cond := .code yX1_drop cX1_drop 3 none :: pt_all
abbrev wsX1_decode : List Cond := .code yX1_decode cX1_decode 6 (some .int) :: pt_all
abbrev wsX1_meets : List Cond := .code yX1_meets cX1_meets 5 (some .int) :: pt_all
abbrev wsX1_free : List Cond := .code yX1_free cX1_free 5 (some .long) :: pt_all
abbrev wsX1_none : List Cond := .code yX1_none cX1_none 8 (some .long) :: pt_all
abbrev wsX1_bits : List Cond := .code yX1_bits cX1_bits 4 (some .int) :: pt_all
abbrev wsX1_power : List Cond := .code yX1_power cX1_power 1 (some .long) :: pt_all
abbrev wsX1_next : List Cond := .code yX1_next cX1_next 13 (some .long) :: pt_all
abbrev wsX1_some : List Cond := .code yX1_some cX1_some 5 (some .boolean) :: pt_all
abbrev wsX1_told : List Cond := .code yX1_told cX1_told 3 (some .long) :: pt_all
abbrev wsX1_count : List Cond := .code yX1_count cX1_count 2 (some .int) :: pt_all
theorem pw0 : (.selects RX0 yX0_sharesWord yX0_sharesWord : Cond) ∈ pt_all := List.mem_of_getElem? (i := 0) rfl
theorem pw1 : (.selects RX0 yX0_refuseStrayWant yX0_refuseStrayWant : Cond) ∈ pt_all := List.mem_of_getElem? (i := 1) rfl
theorem pw2 : (.selects RX0 yX0_append yX0_append : Cond) ∈ pt_all := List.mem_of_getElem? (i := 2) rfl
theorem pw3 : (.selects RX0 yX0_firstSharing yX0_firstSharing : Cond) ∈ pt_all := List.mem_of_getElem? (i := 3) rfl
theorem pw4 : (.selects RX0 yX0_refuseAbsent yX0_refuseAbsent : Cond) ∈ pt_all := List.mem_of_getElem? (i := 4) rfl
theorem pw5 : (.selects RX0 yX0_freeWords yX0_freeWords : Cond) ∈ pt_all := List.mem_of_getElem? (i := 5) rfl
theorem pw6 : (.selects RX0 yX0_wordsOf yX0_wordsOf : Cond) ∈ pt_all := List.mem_of_getElem? (i := 6) rfl
theorem pw7 : (.selects RX0 yX0_bitsFrom yX0_bitsFrom : Cond) ∈ pt_all := List.mem_of_getElem? (i := 7) rfl
theorem pw8 : (.selects RX0 yX0_leastFree yX0_leastFree : Cond) ∈ pt_all := List.mem_of_getElem? (i := 8) rfl
theorem pw9 : (.selects RX1 yX1_fail yX1_fail : Cond) ∈ pt_all := List.mem_of_getElem? (i := 9) rfl
theorem pw10 : (.selects RX1 yX1_wrong yX1_wrong : Cond) ∈ pt_all := List.mem_of_getElem? (i := 10) rfl
theorem pw11 : (.selects RX1 yX1_mask yX1_mask : Cond) ∈ pt_all := List.mem_of_getElem? (i := 11) rfl
theorem pw12 : (.selects RX1 yX1_first yX1_first : Cond) ∈ pt_all := List.mem_of_getElem? (i := 12) rfl
theorem pw13 : (.selects RX1 yX1_meet yX1_meet : Cond) ∈ pt_all := List.mem_of_getElem? (i := 13) rfl
theorem pw14 : (.selects RX1 yX1_none yX1_none : Cond) ∈ pt_all := List.mem_of_getElem? (i := 14) rfl
theorem pw15 : (.selects RX1 yX1_some yX1_some : Cond) ∈ pt_all := List.mem_of_getElem? (i := 15) rfl
theorem pw16 : (.initialized RL : Cond) ∈ pt_all := List.mem_of_getElem? (i := 16) rfl
theorem pw17 : (.initialized RX0 : Cond) ∈ pt_all := List.mem_of_getElem? (i := 17) rfl
theorem pw18 : (.initialized RX1 : Cond) ∈ pt_all := List.mem_of_getElem? (i := 18) rfl
theorem pw19 : (.initialized RJ : Cond) ∈ pt_all := List.mem_of_getElem? (i := 19) rfl
theorem pw20 : (.classLink RL 8 RX0 : Cond) ∈ pt_all := List.mem_of_getElem? (i := 20) rfl
theorem pw21 : (.instantiable RX0 7 : Cond) ∈ pt_all := List.mem_of_getElem? (i := 21) rfl
theorem pw22 : (.methodLink RL 45 yX0_init : Cond) ∈ pt_all := List.mem_of_getElem? (i := 22) rfl
theorem pw23 : (.instanceMethod yX0_init : Cond) ∈ pt_all := List.mem_of_getElem? (i := 23) rfl
theorem pw24 : (.code yX0_init cX0_init 1 none : Cond) ∈ pt_all := List.mem_of_getElem? (i := 24) rfl
theorem pw25 : (.methodLink RX0 1 objectInit : Cond) ∈ pt_all := List.mem_of_getElem? (i := 25) rfl
theorem pw26 : (.instanceMethod objectInit : Cond) ∈ pt_all := List.mem_of_getElem? (i := 26) rfl
theorem pw27 : (.code objectInit object_method_1_code 1 none : Cond) ∈ pt_all := List.mem_of_getElem? (i := 27) rfl
theorem pw28 : (.methodLink RX0 23 yX0_lowestBits : Cond) ∈ pt_all := List.mem_of_getElem? (i := 28) rfl
theorem pw29 : (.static yX0_lowestBits : Cond) ∈ pt_all := List.mem_of_getElem? (i := 29) rfl
theorem pw30 : (.code yX0_lowestBits cX0_lowestBits 1 (some .long) : Cond) ∈ pt_all := List.mem_of_getElem? (i := 30) rfl
theorem pw31 : (.constantLong RX0 93 (-1) : Cond) ∈ pt_all := List.mem_of_getElem? (i := 31) rfl
theorem pw32 : (.fieldLink RX0 9 "PatternTree" "cares" "[J" : Cond) ∈ pt_all := List.mem_of_getElem? (i := 32) rfl
theorem pw33 : (.fieldLink RX0 13 "PatternTree" "wants" "[J" : Cond) ∈ pt_all := List.mem_of_getElem? (i := 33) rfl
theorem pw34 : (.fieldLink RX0 16 "PatternTree" "size" "I" : Cond) ∈ pt_all := List.mem_of_getElem? (i := 34) rfl
theorem pw35 : (.fieldLink RX0 20 "PatternTree" "length" "I" : Cond) ∈ pt_all := List.mem_of_getElem? (i := 35) rfl
theorem pw36 : (.fieldLink RX0 27 "PatternTree" "mask" "J" : Cond) ∈ pt_all := List.mem_of_getElem? (i := 36) rfl
theorem pw37 : (.fieldLink RX0 31 "PatternTree" "clash" "I" : Cond) ∈ pt_all := List.mem_of_getElem? (i := 37) rfl
theorem pw38 : (.fieldLink RX0 34 "PatternTree" "surplus" "I" : Cond) ∈ pt_all := List.mem_of_getElem? (i := 38) rfl
theorem pw39 : (.laysFinal RX0 "PatternTree" "cares" "[J" : Cond) ∈ pt_all := List.mem_of_getElem? (i := 39) rfl
theorem pw40 : (.laysFinal RX0 "PatternTree" "wants" "[J" : Cond) ∈ pt_all := List.mem_of_getElem? (i := 40) rfl
theorem pw41 : (.lays RX0 "PatternTree" "size" "I" : Cond) ∈ pt_all := List.mem_of_getElem? (i := 41) rfl
theorem pw42 : (.lays RX0 "PatternTree" "length" "I" : Cond) ∈ pt_all := List.mem_of_getElem? (i := 42) rfl
theorem pw43 : (.lays RX0 "PatternTree" "mask" "J" : Cond) ∈ pt_all := List.mem_of_getElem? (i := 43) rfl
theorem pw44 : (.lays RX0 "PatternTree" "clash" "I" : Cond) ∈ pt_all := List.mem_of_getElem? (i := 44) rfl
theorem pw45 : (.lays RX0 "PatternTree" "surplus" "I" : Cond) ∈ pt_all := List.mem_of_getElem? (i := 45) rfl
theorem pw46 : (.arrayClass .long : Cond) ∈ pt_all := List.mem_of_getElem? (i := 46) rfl
theorem pw47 : (.methodLink RL 72 yX0_decode : Cond) ∈ pt_all := List.mem_of_getElem? (i := 47) rfl
theorem pw48 : (.instanceMethod yX0_decode : Cond) ∈ pt_all := List.mem_of_getElem? (i := 48) rfl
theorem pw49 : (.selects RX0 yX0_decode yX0_decode : Cond) ∈ pt_all := List.mem_of_getElem? (i := 49) rfl
theorem pw50 : (.code yX0_decode cX0_decode 5 (some .int) : Cond) ∈ pt_all := List.mem_of_getElem? (i := 50) rfl
theorem pw51 : (.methodLink RX0 62 yX0_sharesWord : Cond) ∈ pt_all := List.mem_of_getElem? (i := 51) rfl
theorem pw52 : (.instanceMethod yX0_sharesWord : Cond) ∈ pt_all := List.mem_of_getElem? (i := 52) rfl
theorem pw53 : (.code yX0_sharesWord cX0_sharesWord 6 (some .boolean) : Cond) ∈ pt_all := List.mem_of_getElem? (i := 53) rfl
theorem pw54 : (.methodLink RL 89 yX0_count : Cond) ∈ pt_all := List.mem_of_getElem? (i := 54) rfl
theorem pw55 : (.instanceMethod yX0_count : Cond) ∈ pt_all := List.mem_of_getElem? (i := 55) rfl
theorem pw56 : (.selects RX0 yX0_count yX0_count : Cond) ∈ pt_all := List.mem_of_getElem? (i := 56) rfl
theorem pw57 : (.code yX0_count cX0_count 2 (some .int) : Cond) ∈ pt_all := List.mem_of_getElem? (i := 57) rfl
theorem pw58 : (.methodLink RL 49 yL_clear : Cond) ∈ pt_all := List.mem_of_getElem? (i := 58) rfl
theorem pw59 : (.static yL_clear : Cond) ∈ pt_all := List.mem_of_getElem? (i := 59) rfl
theorem pw60 : (.codeWith yL_clear cL_clear 3 (some .int) [(0, 5, 8, 13)] : Cond) ∈ pt_all := List.mem_of_getElem? (i := 60) rfl
theorem pw61 : (.classLink RL 13 "java/lang/IllegalArgumentException" : Cond) ∈ pt_all := List.mem_of_getElem? (i := 61) rfl
theorem pw62 : (.methodLink RL 7 yX0_clear : Cond) ∈ pt_all := List.mem_of_getElem? (i := 62) rfl
theorem pw63 : (.instanceMethod yX0_clear : Cond) ∈ pt_all := List.mem_of_getElem? (i := 63) rfl
theorem pw64 : (.selects RX0 yX0_clear yX0_clear : Cond) ∈ pt_all := List.mem_of_getElem? (i := 64) rfl
theorem pw65 : (.code yX0_clear cX0_clear 2 none : Cond) ∈ pt_all := List.mem_of_getElem? (i := 65) rfl
theorem pw66 : (.classLink RX0 37 "java/lang/IllegalArgumentException" : Cond) ∈ pt_all := List.mem_of_getElem? (i := 66) rfl
theorem pw67 : (.methodLink RX0 41 ⟨"java/lang/IllegalArgumentException", "<init>", "(Ljava/lang/String;)V"⟩ : Cond) ∈ pt_all := List.mem_of_getElem? (i := 67) rfl
theorem pw68 : (.methodLink RL 61 yL_add : Cond) ∈ pt_all := List.mem_of_getElem? (i := 68) rfl
theorem pw69 : (.static yL_add : Cond) ∈ pt_all := List.mem_of_getElem? (i := 69) rfl
theorem pw70 : (.codeWith yL_add cL_add 7 (some .int) [(0, 11, 14, 13), (0, 11, 18, 19)] : Cond) ∈ pt_all := List.mem_of_getElem? (i := 70) rfl
theorem pw71 : (.classLink RL 19 "java/lang/IllegalStateException" : Cond) ∈ pt_all := List.mem_of_getElem? (i := 71) rfl
theorem pw72 : (.methodLink RL 15 yX0_add : Cond) ∈ pt_all := List.mem_of_getElem? (i := 72) rfl
theorem pw73 : (.instanceMethod yX0_add : Cond) ∈ pt_all := List.mem_of_getElem? (i := 73) rfl
theorem pw74 : (.selects RX0 yX0_add yX0_add : Cond) ∈ pt_all := List.mem_of_getElem? (i := 74) rfl
theorem pw75 : (.code yX0_add cX0_add 5 (some .int) : Cond) ∈ pt_all := List.mem_of_getElem? (i := 75) rfl
theorem pw76 : (.methodLink RX0 44 yX0_refuseStrayWant : Cond) ∈ pt_all := List.mem_of_getElem? (i := 76) rfl
theorem pw77 : (.instanceMethod yX0_refuseStrayWant : Cond) ∈ pt_all := List.mem_of_getElem? (i := 77) rfl
theorem pw78 : (.code yX0_refuseStrayWant cX0_refuseStrayWant 5 none : Cond) ∈ pt_all := List.mem_of_getElem? (i := 78) rfl
theorem pw79 : (.methodLink RX0 48 yX0_append : Cond) ∈ pt_all := List.mem_of_getElem? (i := 79) rfl
theorem pw80 : (.instanceMethod yX0_append : Cond) ∈ pt_all := List.mem_of_getElem? (i := 80) rfl
theorem pw81 : (.code yX0_append cX0_append 6 (some .int) : Cond) ∈ pt_all := List.mem_of_getElem? (i := 81) rfl
theorem pw82 : (.classLink RX0 99 "java/lang/IllegalStateException" : Cond) ∈ pt_all := List.mem_of_getElem? (i := 82) rfl
theorem pw83 : (.methodLink RX0 103 ⟨"java/lang/IllegalStateException", "<init>", "(Ljava/lang/String;)V"⟩ : Cond) ∈ pt_all := List.mem_of_getElem? (i := 83) rfl
theorem pw84 : (.methodLink RX0 66 yX0_firstSharing : Cond) ∈ pt_all := List.mem_of_getElem? (i := 84) rfl
theorem pw85 : (.instanceMethod yX0_firstSharing : Cond) ∈ pt_all := List.mem_of_getElem? (i := 85) rfl
theorem pw86 : (.code yX0_firstSharing cX0_firstSharing 6 (some .int) : Cond) ∈ pt_all := List.mem_of_getElem? (i := 86) rfl
theorem pw87 : (.methodLink RL 65 yL_signs : Cond) ∈ pt_all := List.mem_of_getElem? (i := 87) rfl
theorem pw88 : (.static yL_signs : Cond) ∈ pt_all := List.mem_of_getElem? (i := 88) rfl
theorem pw89 : (.codeWith yL_signs cL_signs 5 (some .int) [(0, 9, 12, 13), (0, 9, 16, 19)] : Cond) ∈ pt_all := List.mem_of_getElem? (i := 89) rfl
theorem pw90 : (.methodLink RL 21 yX0_signs : Cond) ∈ pt_all := List.mem_of_getElem? (i := 90) rfl
theorem pw91 : (.instanceMethod yX0_signs : Cond) ∈ pt_all := List.mem_of_getElem? (i := 91) rfl
theorem pw92 : (.selects RX0 yX0_signs yX0_signs : Cond) ∈ pt_all := List.mem_of_getElem? (i := 92) rfl
theorem pw93 : (.code yX0_signs cX0_signs 12 (some .int) : Cond) ∈ pt_all := List.mem_of_getElem? (i := 93) rfl
theorem pw94 : (.constantLong RX0 54 3 : Cond) ∈ pt_all := List.mem_of_getElem? (i := 94) rfl
theorem pw95 : (.constantLong RX0 56 2 : Cond) ∈ pt_all := List.mem_of_getElem? (i := 95) rfl
theorem pw96 : (.methodLink RL 69 yL_drop : Cond) ∈ pt_all := List.mem_of_getElem? (i := 96) rfl
theorem pw97 : (.static yL_drop : Cond) ∈ pt_all := List.mem_of_getElem? (i := 97) rfl
theorem pw98 : (.codeWith yL_drop cL_drop 3 (some .int) [(0, 5, 8, 28)] : Cond) ∈ pt_all := List.mem_of_getElem? (i := 98) rfl
theorem pw99 : (.classLink RL 28 "java/util/NoSuchElementException" : Cond) ∈ pt_all := List.mem_of_getElem? (i := 99) rfl
theorem pw100 : (.methodLink RL 25 yX0_drop : Cond) ∈ pt_all := List.mem_of_getElem? (i := 100) rfl
theorem pw101 : (.instanceMethod yX0_drop : Cond) ∈ pt_all := List.mem_of_getElem? (i := 101) rfl
theorem pw102 : (.selects RX0 yX0_drop yX0_drop : Cond) ∈ pt_all := List.mem_of_getElem? (i := 102) rfl
theorem pw103 : (.code yX0_drop cX0_drop 3 none : Cond) ∈ pt_all := List.mem_of_getElem? (i := 103) rfl
theorem pw104 : (.methodLink RX0 58 yX0_refuseAbsent : Cond) ∈ pt_all := List.mem_of_getElem? (i := 104) rfl
theorem pw105 : (.instanceMethod yX0_refuseAbsent : Cond) ∈ pt_all := List.mem_of_getElem? (i := 105) rfl
theorem pw106 : (.code yX0_refuseAbsent cX0_refuseAbsent 2 none : Cond) ∈ pt_all := List.mem_of_getElem? (i := 106) rfl
theorem pw107 : (.classLink RX0 80 "java/util/NoSuchElementException" : Cond) ∈ pt_all := List.mem_of_getElem? (i := 107) rfl
theorem pw108 : (.methodLink RX0 84 ⟨"java/util/NoSuchElementException", "<init>", "(Ljava/lang/String;)V"⟩ : Cond) ∈ pt_all := List.mem_of_getElem? (i := 108) rfl
theorem pw109 : (.methodLink RL 76 yL_meets : Cond) ∈ pt_all := List.mem_of_getElem? (i := 109) rfl
theorem pw110 : (.static yL_meets : Cond) ∈ pt_all := List.mem_of_getElem? (i := 110) rfl
theorem pw111 : (.codeWith yL_meets cL_meets 7 (some .int) [(0, 11, 14, 13)] : Cond) ∈ pt_all := List.mem_of_getElem? (i := 111) rfl
theorem pw112 : (.methodLink RL 30 yX0_meets : Cond) ∈ pt_all := List.mem_of_getElem? (i := 112) rfl
theorem pw113 : (.instanceMethod yX0_meets : Cond) ∈ pt_all := List.mem_of_getElem? (i := 113) rfl
theorem pw114 : (.selects RX0 yX0_meets yX0_meets : Cond) ∈ pt_all := List.mem_of_getElem? (i := 114) rfl
theorem pw115 : (.code yX0_meets cX0_meets 5 (some .int) : Cond) ∈ pt_all := List.mem_of_getElem? (i := 115) rfl
theorem pw116 : (.methodLink RL 79 yL_free : Cond) ∈ pt_all := List.mem_of_getElem? (i := 116) rfl
theorem pw117 : (.static yL_free : Cond) ∈ pt_all := List.mem_of_getElem? (i := 117) rfl
theorem pw118 : (.codeWith yL_free cL_free 7 (some .int) [(0, 10, 13, 13)] : Cond) ∈ pt_all := List.mem_of_getElem? (i := 118) rfl
theorem pw119 : (.methodLink RL 33 yX0_free : Cond) ∈ pt_all := List.mem_of_getElem? (i := 119) rfl
theorem pw120 : (.instanceMethod yX0_free : Cond) ∈ pt_all := List.mem_of_getElem? (i := 120) rfl
theorem pw121 : (.selects RX0 yX0_free yX0_free : Cond) ∈ pt_all := List.mem_of_getElem? (i := 121) rfl
theorem pw122 : (.code yX0_free cX0_free 5 (some .long) : Cond) ∈ pt_all := List.mem_of_getElem? (i := 122) rfl
theorem pw123 : (.methodLink RX0 69 yX0_freeWords : Cond) ∈ pt_all := List.mem_of_getElem? (i := 123) rfl
theorem pw124 : (.instanceMethod yX0_freeWords : Cond) ∈ pt_all := List.mem_of_getElem? (i := 124) rfl
theorem pw125 : (.code yX0_freeWords cX0_freeWords 8 (some .long) : Cond) ∈ pt_all := List.mem_of_getElem? (i := 125) rfl
theorem pw126 : (.methodLink RX0 106 yX0_wordsOf : Cond) ∈ pt_all := List.mem_of_getElem? (i := 126) rfl
theorem pw127 : (.instanceMethod yX0_wordsOf : Cond) ∈ pt_all := List.mem_of_getElem? (i := 127) rfl
theorem pw128 : (.code yX0_wordsOf cX0_wordsOf 4 (some .long) : Cond) ∈ pt_all := List.mem_of_getElem? (i := 128) rfl
theorem pw129 : (.methodLink RX0 87 yJ_bitCount : Cond) ∈ pt_all := List.mem_of_getElem? (i := 129) rfl
theorem pw130 : (.static yJ_bitCount : Cond) ∈ pt_all := List.mem_of_getElem? (i := 130) rfl
theorem pw131 : (.code yJ_bitCount cJ_bitCount 2 (some .int) : Cond) ∈ pt_all := List.mem_of_getElem? (i := 131) rfl
theorem pw132 : (.constantLong RJ 314 6148914691236517205 : Cond) ∈ pt_all := List.mem_of_getElem? (i := 132) rfl
theorem pw133 : (.constantLong RJ 316 3689348814741910323 : Cond) ∈ pt_all := List.mem_of_getElem? (i := 133) rfl
theorem pw134 : (.constantLong RJ 318 1085102592571150095 : Cond) ∈ pt_all := List.mem_of_getElem? (i := 134) rfl
theorem pw135 : (.methodLink RL 82 yL_next : Cond) ∈ pt_all := List.mem_of_getElem? (i := 135) rfl
theorem pw136 : (.static yL_next : Cond) ∈ pt_all := List.mem_of_getElem? (i := 136) rfl
theorem pw137 : (.codeWith yL_next cL_next 5 (some .int) [(0, 8, 11, 28)] : Cond) ∈ pt_all := List.mem_of_getElem? (i := 137) rfl
theorem pw138 : (.methodLink RL 37 yX0_next : Cond) ∈ pt_all := List.mem_of_getElem? (i := 138) rfl
theorem pw139 : (.instanceMethod yX0_next : Cond) ∈ pt_all := List.mem_of_getElem? (i := 139) rfl
theorem pw140 : (.selects RX0 yX0_next yX0_next : Cond) ∈ pt_all := List.mem_of_getElem? (i := 140) rfl
theorem pw141 : (.code yX0_next cX0_next 8 (some .long) : Cond) ∈ pt_all := List.mem_of_getElem? (i := 141) rfl
theorem pw142 : (.methodLink RX0 73 yX0_bitsFrom : Cond) ∈ pt_all := List.mem_of_getElem? (i := 142) rfl
theorem pw143 : (.instanceMethod yX0_bitsFrom : Cond) ∈ pt_all := List.mem_of_getElem? (i := 143) rfl
theorem pw144 : (.code yX0_bitsFrom cX0_bitsFrom 2 (some .long) : Cond) ∈ pt_all := List.mem_of_getElem? (i := 144) rfl
theorem pw145 : (.methodLink RX0 76 yX0_leastFree : Cond) ∈ pt_all := List.mem_of_getElem? (i := 145) rfl
theorem pw146 : (.instanceMethod yX0_leastFree : Cond) ∈ pt_all := List.mem_of_getElem? (i := 146) rfl
theorem pw147 : (.code yX0_leastFree cX0_leastFree 7 (some .long) : Cond) ∈ pt_all := List.mem_of_getElem? (i := 147) rfl
theorem pw148 : (.methodLink RL 85 yL_told : Cond) ∈ pt_all := List.mem_of_getElem? (i := 148) rfl
theorem pw149 : (.static yL_told : Cond) ∈ pt_all := List.mem_of_getElem? (i := 149) rfl
theorem pw150 : (.codeWith yL_told cL_told 5 (some .int) [(0, 9, 12, 13), (0, 9, 16, 28)] : Cond) ∈ pt_all := List.mem_of_getElem? (i := 150) rfl
theorem pw151 : (.methodLink RL 41 yX0_told : Cond) ∈ pt_all := List.mem_of_getElem? (i := 151) rfl
theorem pw152 : (.instanceMethod yX0_told : Cond) ∈ pt_all := List.mem_of_getElem? (i := 152) rfl
theorem pw153 : (.selects RX0 yX0_told yX0_told : Cond) ∈ pt_all := List.mem_of_getElem? (i := 153) rfl
theorem pw154 : (.code yX0_told cX0_told 3 (some .long) : Cond) ∈ pt_all := List.mem_of_getElem? (i := 154) rfl
theorem pw155 : (.classLink RL 46 RX1 : Cond) ∈ pt_all := List.mem_of_getElem? (i := 155) rfl
theorem pw156 : (.instantiable RX1 7 : Cond) ∈ pt_all := List.mem_of_getElem? (i := 156) rfl
theorem pw157 : (.methodLink RL 48 yX1_init : Cond) ∈ pt_all := List.mem_of_getElem? (i := 157) rfl
theorem pw158 : (.instanceMethod yX1_init : Cond) ∈ pt_all := List.mem_of_getElem? (i := 158) rfl
theorem pw159 : (.code yX1_init cX1_init 1 none : Cond) ∈ pt_all := List.mem_of_getElem? (i := 159) rfl
theorem pw160 : (.methodLink RX1 1 objectInit : Cond) ∈ pt_all := List.mem_of_getElem? (i := 160) rfl
theorem pw161 : (.fieldLink RX1 7 "PatternTreeModel" "care" "[J" : Cond) ∈ pt_all := List.mem_of_getElem? (i := 161) rfl
theorem pw162 : (.fieldLink RX1 13 "PatternTreeModel" "want" "[J" : Cond) ∈ pt_all := List.mem_of_getElem? (i := 162) rfl
theorem pw163 : (.fieldLink RX1 32 "PatternTreeModel" "many" "I" : Cond) ∈ pt_all := List.mem_of_getElem? (i := 163) rfl
theorem pw164 : (.fieldLink RX1 16 "PatternTreeModel" "length" "I" : Cond) ∈ pt_all := List.mem_of_getElem? (i := 164) rfl
theorem pw165 : (.fieldLink RX1 20 "PatternTreeModel" "clash" "I" : Cond) ∈ pt_all := List.mem_of_getElem? (i := 165) rfl
theorem pw166 : (.fieldLink RX1 58 "PatternTreeModel" "beyond" "I" : Cond) ∈ pt_all := List.mem_of_getElem? (i := 166) rfl
theorem pw167 : (.fieldLink RX1 23 "PatternTreeModel" "thrown" "I" : Cond) ∈ pt_all := List.mem_of_getElem? (i := 167) rfl
theorem pw168 : (.laysFinal RX1 "PatternTreeModel" "care" "[J" : Cond) ∈ pt_all := List.mem_of_getElem? (i := 168) rfl
theorem pw169 : (.laysFinal RX1 "PatternTreeModel" "want" "[J" : Cond) ∈ pt_all := List.mem_of_getElem? (i := 169) rfl
theorem pw170 : (.lays RX1 "PatternTreeModel" "many" "I" : Cond) ∈ pt_all := List.mem_of_getElem? (i := 170) rfl
theorem pw171 : (.lays RX1 "PatternTreeModel" "length" "I" : Cond) ∈ pt_all := List.mem_of_getElem? (i := 171) rfl
theorem pw172 : (.lays RX1 "PatternTreeModel" "clash" "I" : Cond) ∈ pt_all := List.mem_of_getElem? (i := 172) rfl
theorem pw173 : (.lays RX1 "PatternTreeModel" "beyond" "I" : Cond) ∈ pt_all := List.mem_of_getElem? (i := 173) rfl
theorem pw174 : (.lays RX1 "PatternTreeModel" "thrown" "I" : Cond) ∈ pt_all := List.mem_of_getElem? (i := 174) rfl
theorem pw175 : (.methodLink RL 55 yX1_thrown : Cond) ∈ pt_all := List.mem_of_getElem? (i := 175) rfl
theorem pw176 : (.instanceMethod yX1_thrown : Cond) ∈ pt_all := List.mem_of_getElem? (i := 176) rfl
theorem pw177 : (.selects RX1 yX1_thrown yX1_thrown : Cond) ∈ pt_all := List.mem_of_getElem? (i := 177) rfl
theorem pw178 : (.code yX1_thrown cX1_thrown 1 (some .int) : Cond) ∈ pt_all := List.mem_of_getElem? (i := 178) rfl
theorem pw179 : (.methodLink RL 54 yX1_clear : Cond) ∈ pt_all := List.mem_of_getElem? (i := 179) rfl
theorem pw180 : (.instanceMethod yX1_clear : Cond) ∈ pt_all := List.mem_of_getElem? (i := 180) rfl
theorem pw181 : (.selects RX1 yX1_clear yX1_clear : Cond) ∈ pt_all := List.mem_of_getElem? (i := 181) rfl
theorem pw182 : (.code yX1_clear cX1_clear 2 none : Cond) ∈ pt_all := List.mem_of_getElem? (i := 182) rfl
theorem pw183 : (.methodLink RX1 39 yX1_fail : Cond) ∈ pt_all := List.mem_of_getElem? (i := 183) rfl
theorem pw184 : (.instanceMethod yX1_fail : Cond) ∈ pt_all := List.mem_of_getElem? (i := 184) rfl
theorem pw185 : (.code yX1_fail cX1_fail 2 (some .int) : Cond) ∈ pt_all := List.mem_of_getElem? (i := 185) rfl
theorem pw186 : (.methodLink RL 64 yX1_add : Cond) ∈ pt_all := List.mem_of_getElem? (i := 186) rfl
theorem pw187 : (.instanceMethod yX1_add : Cond) ∈ pt_all := List.mem_of_getElem? (i := 187) rfl
theorem pw188 : (.selects RX1 yX1_add yX1_add : Cond) ∈ pt_all := List.mem_of_getElem? (i := 188) rfl
theorem pw189 : (.code yX1_add cX1_add 6 (some .int) : Cond) ∈ pt_all := List.mem_of_getElem? (i := 189) rfl
theorem pw190 : (.methodLink RX1 43 yX1_wrong : Cond) ∈ pt_all := List.mem_of_getElem? (i := 190) rfl
theorem pw191 : (.instanceMethod yX1_wrong : Cond) ∈ pt_all := List.mem_of_getElem? (i := 191) rfl
theorem pw192 : (.code yX1_wrong cX1_wrong 5 (some .boolean) : Cond) ∈ pt_all := List.mem_of_getElem? (i := 192) rfl
theorem pw193 : (.constantLong RX1 26 (-1) : Cond) ∈ pt_all := List.mem_of_getElem? (i := 193) rfl
theorem pw194 : (.methodLink RX1 28 yX1_mask : Cond) ∈ pt_all := List.mem_of_getElem? (i := 194) rfl
theorem pw195 : (.instanceMethod yX1_mask : Cond) ∈ pt_all := List.mem_of_getElem? (i := 195) rfl
theorem pw196 : (.code yX1_mask cX1_mask 1 (some .long) : Cond) ∈ pt_all := List.mem_of_getElem? (i := 196) rfl
theorem pw197 : (.methodLink RX1 47 yX1_first : Cond) ∈ pt_all := List.mem_of_getElem? (i := 197) rfl
theorem pw198 : (.instanceMethod yX1_first : Cond) ∈ pt_all := List.mem_of_getElem? (i := 198) rfl
theorem pw199 : (.code yX1_first cX1_first 6 (some .int) : Cond) ∈ pt_all := List.mem_of_getElem? (i := 199) rfl
theorem pw200 : (.methodLink RX1 35 yX1_meet : Cond) ∈ pt_all := List.mem_of_getElem? (i := 200) rfl
theorem pw201 : (.instanceMethod yX1_meet : Cond) ∈ pt_all := List.mem_of_getElem? (i := 201) rfl
theorem pw202 : (.code yX1_meet cX1_meet 6 (some .boolean) : Cond) ∈ pt_all := List.mem_of_getElem? (i := 202) rfl
theorem pw203 : (.methodLink RL 68 yX1_signs : Cond) ∈ pt_all := List.mem_of_getElem? (i := 203) rfl
theorem pw204 : (.instanceMethod yX1_signs : Cond) ∈ pt_all := List.mem_of_getElem? (i := 204) rfl
theorem pw205 : (.selects RX1 yX1_signs yX1_signs : Cond) ∈ pt_all := List.mem_of_getElem? (i := 205) rfl
theorem pw206 : (.code yX1_signs cX1_signs 12 (some .int) : Cond) ∈ pt_all := List.mem_of_getElem? (i := 206) rfl
theorem pw207 : (.constantLong RX1 51 3 : Cond) ∈ pt_all := List.mem_of_getElem? (i := 207) rfl
theorem pw208 : (.constantLong RX1 53 2 : Cond) ∈ pt_all := List.mem_of_getElem? (i := 208) rfl
theorem pw209 : (.methodLink RX1 55 yX1_add : Cond) ∈ pt_all := List.mem_of_getElem? (i := 209) rfl
theorem pw210 : (.methodLink RL 71 yX1_drop : Cond) ∈ pt_all := List.mem_of_getElem? (i := 210) rfl
theorem pw211 : (.instanceMethod yX1_drop : Cond) ∈ pt_all := List.mem_of_getElem? (i := 211) rfl
theorem pw212 : (.selects RX1 yX1_drop yX1_drop : Cond) ∈ pt_all := List.mem_of_getElem? (i := 212) rfl
theorem pw213 : (.code yX1_drop cX1_drop 3 none : Cond) ∈ pt_all := List.mem_of_getElem? (i := 213) rfl
theorem pw214 : (.methodLink RL 75 yX1_decode : Cond) ∈ pt_all := List.mem_of_getElem? (i := 214) rfl
theorem pw215 : (.instanceMethod yX1_decode : Cond) ∈ pt_all := List.mem_of_getElem? (i := 215) rfl
theorem pw216 : (.selects RX1 yX1_decode yX1_decode : Cond) ∈ pt_all := List.mem_of_getElem? (i := 216) rfl
theorem pw217 : (.code yX1_decode cX1_decode 6 (some .int) : Cond) ∈ pt_all := List.mem_of_getElem? (i := 217) rfl
theorem pw218 : (.methodLink RL 78 yX1_meets : Cond) ∈ pt_all := List.mem_of_getElem? (i := 218) rfl
theorem pw219 : (.instanceMethod yX1_meets : Cond) ∈ pt_all := List.mem_of_getElem? (i := 219) rfl
theorem pw220 : (.selects RX1 yX1_meets yX1_meets : Cond) ∈ pt_all := List.mem_of_getElem? (i := 220) rfl
theorem pw221 : (.code yX1_meets cX1_meets 5 (some .int) : Cond) ∈ pt_all := List.mem_of_getElem? (i := 221) rfl
theorem pw222 : (.methodLink RL 81 yX1_free : Cond) ∈ pt_all := List.mem_of_getElem? (i := 222) rfl
theorem pw223 : (.instanceMethod yX1_free : Cond) ∈ pt_all := List.mem_of_getElem? (i := 223) rfl
theorem pw224 : (.selects RX1 yX1_free yX1_free : Cond) ∈ pt_all := List.mem_of_getElem? (i := 224) rfl
theorem pw225 : (.code yX1_free cX1_free 5 (some .long) : Cond) ∈ pt_all := List.mem_of_getElem? (i := 225) rfl
theorem pw226 : (.methodLink RX1 69 yX1_none : Cond) ∈ pt_all := List.mem_of_getElem? (i := 226) rfl
theorem pw227 : (.instanceMethod yX1_none : Cond) ∈ pt_all := List.mem_of_getElem? (i := 227) rfl
theorem pw228 : (.code yX1_none cX1_none 8 (some .long) : Cond) ∈ pt_all := List.mem_of_getElem? (i := 228) rfl
theorem pw229 : (.methodLink RX1 61 yX1_bits : Cond) ∈ pt_all := List.mem_of_getElem? (i := 229) rfl
theorem pw230 : (.static yX1_bits : Cond) ∈ pt_all := List.mem_of_getElem? (i := 230) rfl
theorem pw231 : (.code yX1_bits cX1_bits 4 (some .int) : Cond) ∈ pt_all := List.mem_of_getElem? (i := 231) rfl
theorem pw232 : (.methodLink RX1 65 yX1_power : Cond) ∈ pt_all := List.mem_of_getElem? (i := 232) rfl
theorem pw233 : (.static yX1_power : Cond) ∈ pt_all := List.mem_of_getElem? (i := 233) rfl
theorem pw234 : (.code yX1_power cX1_power 1 (some .long) : Cond) ∈ pt_all := List.mem_of_getElem? (i := 234) rfl
theorem pw235 : (.methodLink RL 84 yX1_next : Cond) ∈ pt_all := List.mem_of_getElem? (i := 235) rfl
theorem pw236 : (.instanceMethod yX1_next : Cond) ∈ pt_all := List.mem_of_getElem? (i := 236) rfl
theorem pw237 : (.selects RX1 yX1_next yX1_next : Cond) ∈ pt_all := List.mem_of_getElem? (i := 237) rfl
theorem pw238 : (.code yX1_next cX1_next 13 (some .long) : Cond) ∈ pt_all := List.mem_of_getElem? (i := 238) rfl
theorem pw239 : (.methodLink RX1 73 yX1_some : Cond) ∈ pt_all := List.mem_of_getElem? (i := 239) rfl
theorem pw240 : (.instanceMethod yX1_some : Cond) ∈ pt_all := List.mem_of_getElem? (i := 240) rfl
theorem pw241 : (.code yX1_some cX1_some 5 (some .boolean) : Cond) ∈ pt_all := List.mem_of_getElem? (i := 241) rfl
theorem pw242 : (.methodLink RL 88 yX1_told : Cond) ∈ pt_all := List.mem_of_getElem? (i := 242) rfl
theorem pw243 : (.instanceMethod yX1_told : Cond) ∈ pt_all := List.mem_of_getElem? (i := 243) rfl
theorem pw244 : (.selects RX1 yX1_told yX1_told : Cond) ∈ pt_all := List.mem_of_getElem? (i := 244) rfl
theorem pw245 : (.code yX1_told cX1_told 3 (some .long) : Cond) ∈ pt_all := List.mem_of_getElem? (i := 245) rfl
theorem pw246 : (.methodLink RL 93 yX1_count : Cond) ∈ pt_all := List.mem_of_getElem? (i := 246) rfl
theorem pw247 : (.instanceMethod yX1_count : Cond) ∈ pt_all := List.mem_of_getElem? (i := 247) rfl
theorem pw248 : (.selects RX1 yX1_count yX1_count : Cond) ∈ pt_all := List.mem_of_getElem? (i := 248) rfl
theorem pw249 : (.code yX1_count cX1_count 2 (some .int) : Cond) ∈ pt_all := List.mem_of_getElem? (i := 249) rfl
theorem pw250 : (.constantLong RL 59 4294967295 : Cond) ∈ pt_all := List.mem_of_getElem? (i := 250) rfl
theorem pt_wsX0 : ∀ w ∈ u_ws RX0 TX0 7, w ∈ pt_all := by decide +kernel
theorem pt_wsX1 : ∀ w ∈ u_ws RX1 TX1 7, w ∈ pt_all := by decide +kernel
theorem pt_gin {c : Cond} {ws : List Cond} (h : ∀ w ∈ ws, w ∈ pt_all) : GoodIn (c :: pt_all) ws := fun w hw => ⟨List.mem_cons_of_mem _ (h w hw), (pt_all_in w (h w hw)).2⟩
theorem pt_gV {c : Cond} {own : String} {i : Nat} {C : String} {y : MethodName} {b : ByteArray} {n : Nat} {r : Option FieldType} (h1 : .methodLink own i y ∈ pt_all) (h2 : .instanceMethod y ∈ pt_all) (h3 : .selects C y y ∈ pt_all) (h4 : .initialized C ∈ pt_all) (h5 : .code y b n r ∈ pt_all) : GoodIn (c :: pt_all) (wsV own i C y (.code y b n r :: pt_all)) := pt_gin fun w hw => by
  simp only [wsV, List.cons_append, List.nil_append, List.mem_cons] at hw
  rcases hw with rfl | rfl | rfl | rfl | rfl | h
  · exact h1
  · exact h2
  · exact h3
  · exact h4
  · exact h5
  · exact h
theorem pt_gS {c : Cond} {own : String} {i : Nat} {y : MethodName} {b : ByteArray} {n : Nat} {r : Option FieldType} (h1 : .methodLink own i y ∈ pt_all) (h2 : .static y ∈ pt_all) (h4 : .initialized y.cls ∈ pt_all) (h5 : .code y b n r ∈ pt_all) : GoodIn (c :: pt_all) (va_wsS own i y (.code y b n r :: pt_all)) := pt_gin fun w hw => by
  simp only [va_wsS, List.cons_append, List.nil_append, List.mem_cons] at hw
  rcases hw with rfl | rfl | rfl | rfl | h
  · exact h1
  · exact h2
  · exact h4
  · exact h5
  · exact h
theorem pt_gW {c : Cond} {own : String} {i : Nat} {y : MethodName} {b : ByteArray} {n : Nat} {r : Option FieldType} {hh : List (Nat × Nat × Nat × Nat)} (h1 : .methodLink own i y ∈ pt_all) (h2 : .static y ∈ pt_all) (h4 : .initialized y.cls ∈ pt_all) (h5 : .codeWith y b n r hh ∈ pt_all) : GoodIn (c :: pt_all) (va_wsS own i y (.codeWith y b n r hh :: pt_all)) := pt_gin fun w hw => by
  simp only [va_wsS, List.cons_append, List.nil_append, List.mem_cons] at hw
  rcases hw with rfl | rfl | rfl | rfl | h
  · exact h1
  · exact h2
  · exact h4
  · exact h5
  · exact h
theorem pt_gI {c : Cond} {y : MethodName} {b : ByteArray} {n : Nat} {r : Option FieldType} (h5 : .code y b n r ∈ pt_all) : GoodIn (c :: pt_all) (.code y b n r :: pt_all) := pt_gin fun w hw => by
  rcases List.mem_cons.mp hw with rfl | h
  · exact h5
  · exact h
end
section
/-! Pure: shifts of longs by name; sums of digits; Long.bitCount's steps add up the bits. -/
def pt_shl (x : Int64) (y : Int32) : Int64 := x <<< (y.toInt64 &&& 63)
def pt_ushr (x : Int64) (y : Int32) : Int64 := (x.toUInt64 >>> (y.toInt64.toUInt64 &&& Int64.toUInt64 63)).toInt64
def pt_u (x : Int64) : Nat := x.toUInt64.toNat
theorem pt_u_lt (x : Int64) : pt_u x < 18446744073709551616 := x.toUInt64.toNat_lt
theorem pt_u_inj {x y : Int64} (h : pt_u x = pt_u y) : x = y := congrArg UInt64.toInt64 (UInt64.toNat_inj.mp h)
theorem pt_u_lN {n : Nat} (h : n < 18446744073709551616) : pt_u (lN n) = n := Nat.mod_eq_of_lt h
theorem pt_u_of (x : Int64) : x = lN (pt_u x) := pt_u_inj (pt_u_lN (pt_u_lt x)).symm
theorem pt_u_add (x y : Int64) : pt_u (x + y) = (pt_u x + pt_u y) % 18446744073709551616 := by
  show (x.toUInt64 + y.toUInt64).toNat = _
  exact UInt64.toNat_add _ _
theorem pt_u_sub {x y : Int64} (h : pt_u y ≤ pt_u x) : pt_u (x - y) = pt_u x - pt_u y := by
  have e : pt_u (x - y) = (18446744073709551616 - pt_u y + pt_u x) % 18446744073709551616 := by
    show (x.toUInt64 - y.toUInt64).toNat = _
    exact UInt64.toNat_sub _ _
  have h1 := pt_u_lt x
  omega
theorem pt_u_and (x y : Int64) : pt_u (x &&& y) = pt_u x &&& pt_u y := by
  show (x.toUInt64 &&& y.toUInt64).toNat = _
  exact UInt64.toNat_and _ _
theorem pt_u_shr (x : Int64) {k : Nat} (hk : k < 64) : pt_u (pt_ushr x (nI k)) = pt_u x / 2 ^ k := by
  have h : ((nI k).toInt64.toUInt64 &&& Int64.toUInt64 63).toNat % 64 = k := by
    rw [nI_l (by omega), UInt64.toNat_and]
    have e : (lN k).toUInt64.toNat = k % 2 ^ 64 := rfl
    have e2 : (Int64.toUInt64 63).toNat = 2 ^ 6 - 1 := by decide
    rw [e, e2, Nat.and_two_pow_sub_one_eq_mod]
    omega
  show (x.toUInt64 >>> ((nI k).toInt64.toUInt64 &&& Int64.toUInt64 63)).toNat = _
  rw [UInt64.toNat_shiftRight, Nat.shiftRight_eq_div_pow, h]
  rfl
/-- the number whose digits to the base B are f 0, f 1, .. (k of them) -/
def pt_S (B : Nat) : Nat → (Nat → Nat) → Nat
  | 0, _ => 0
  | k + 1, f => f 0 + B * pt_S B k (fun j => f (j + 1))
theorem pt_S_congr {B : Nat} : ∀ (k : Nat) (f g : Nat → Nat), (∀ j, f j = g j) → pt_S B k f = pt_S B k g
  | 0, _, _, _ => rfl
  | k + 1, f, g, h => by
    have ih := pt_S_congr (B := B) k (fun j => f (j + 1)) (fun j => g (j + 1)) (fun j => h (j + 1))
    show f 0 + B * pt_S B k (fun j => f (j + 1)) = g 0 + B * pt_S B k (fun j => g (j + 1))
    rw [ih, h 0]
theorem pt_S_digits (B : Nat) : ∀ (k n : Nat), n < B ^ k → pt_S B k (fun j => n / B ^ j % B) = n
  | 0, n, h => by
    have : n = 0 := by simpa using h
    rw [this]; rfl
  | k + 1, n, h => by
    have hlt : n / B < B ^ k := Nat.div_lt_of_lt_mul (by rw [Nat.pow_succ'] at h; exact h)
    have ih := pt_S_digits B k (n / B) hlt
    have e : pt_S B k (fun j => n / B ^ (j + 1) % B) = pt_S B k (fun j => n / B / B ^ j % B) := pt_S_congr k _ _ (fun j => by rw [Nat.div_div_eq_div_mul, Nat.pow_succ'])
    show n / B ^ 0 % B + B * pt_S B k (fun j => n / B ^ (j + 1) % B) = n
    rw [e, ih, Nat.pow_zero, Nat.div_one]
    exact Nat.mod_add_div n B
theorem pt_S_lt (B : Nat) : ∀ (k : Nat) (f : Nat → Nat), (∀ j, f j < B) → pt_S B k f < B ^ k
  | 0, _, _ => by simp [pt_S]
  | k + 1, f, h => by
    have ih := pt_S_lt B k (fun j => f (j + 1)) (fun j => h (j + 1))
    have h0 := h 0
    show f 0 + B * pt_S B k (fun j => f (j + 1)) < B ^ (k + 1)
    generalize pt_S B k (fun j => f (j + 1)) = R at ih ⊢
    have m := Nat.mul_le_mul_left B (show R + 1 ≤ B ^ k from ih)
    rw [Nat.mul_add, Nat.mul_one] at m
    rw [Nat.pow_succ']
    omega
theorem pt_S_add (B : Nat) : ∀ (k : Nat) (f g : Nat → Nat), pt_S B k f + pt_S B k g = pt_S B k (fun j => f j + g j)
  | 0, _, _ => rfl
  | k + 1, f, g => by
    have ih := pt_S_add B k (fun j => f (j + 1)) (fun j => g (j + 1))
    show f 0 + B * pt_S B k (fun j => f (j + 1)) + (g 0 + B * pt_S B k (fun j => g (j + 1))) = f 0 + g 0 + B * pt_S B k (fun j => f (j + 1) + g (j + 1))
    rw [← ih, Nat.mul_add]
    omega
theorem pt_S_sub (B k : Nat) (f g : Nat → Nat) (h : ∀ j, g j ≤ f j) : pt_S B k g ≤ pt_S B k f ∧ pt_S B k f - pt_S B k g = pt_S B k (fun j => f j - g j) := by
  have e := pt_S_add B k (fun j => f j - g j) g
  have e2 : pt_S B k (fun j => f j - g j + g j) = pt_S B k f := pt_S_congr k _ _ (fun j => Nat.sub_add_cancel (h j))
  rw [e2] at e
  omega
theorem pt_S_tail (B : Nat) : ∀ (k : Nat) (f : Nat → Nat), f k = 0 → pt_S B (k + 1) f = pt_S B k f
  | 0, f, h => by
    show f 0 + B * 0 = 0
    rw [h]; rfl
  | k + 1, f, h => by
    have ih := pt_S_tail B k (fun j => f (j + 1)) h
    show f 0 + B * pt_S B (k + 1) (fun j => f (j + 1)) = f 0 + B * pt_S B k (fun j => f (j + 1))
    rw [ih]
theorem pt_S_div {B : Nat} (k : Nat) (f : Nat → Nat) (hB : 0 < B) (h0 : f 0 < B) (hk : f k = 0) : pt_S B k f / B = pt_S B k (fun j => f (j + 1)) := by
  have e := pt_S_tail B k f hk
  have e2 : pt_S B (k + 1) f = f 0 + B * pt_S B k (fun j => f (j + 1)) := rfl
  rw [← e, e2, Nat.add_mul_div_left _ _ hB, Nat.div_eq_of_lt h0, Nat.zero_add]
theorem pt_and_split {w P L c x y : Nat} (hP : 2 ^ w = P) (hL : L < P) (hc : c < P) : (L + P * x) &&& (c + P * y) = (L &&& c) + P * (x &&& y) := by
  subst hP
  rw [Nat.add_comm L, Nat.add_comm c, Nat.add_comm (L &&& c)]
  apply Nat.eq_of_testBit_eq
  intro j
  rw [Nat.testBit_and, Nat.testBit_two_pow_mul_add _ hL, Nat.testBit_two_pow_mul_add _ hc, Nat.testBit_two_pow_mul_add _ (Nat.and_lt_two_pow _ hc)]
  split <;> simp
theorem pt_S_hi4 : ∀ (k : Nat) (f : Nat → Nat), (∀ j, f j < 4) → (pt_S 4 k f / 2) &&& pt_S 4 k (fun _ => 1) = pt_S 4 k (fun j => f j / 2)
  | 0, _, _ => by simp [pt_S]
  | k + 1, f, h => by
    have ih := pt_S_hi4 k (fun j => f (j + 1)) (fun j => h (j + 1))
    have h0 := h 0
    show ((f 0 + 4 * pt_S 4 k (fun j => f (j + 1))) / 2) &&& (1 + 4 * pt_S 4 k (fun _ => 1)) = f 0 / 2 + 4 * pt_S 4 k (fun j => f (j + 1) / 2)
    rw [← ih]
    generalize pt_S 4 k (fun j => f (j + 1)) = R
    generalize pt_S 4 k (fun _ => 1) = M
    have e1 : (f 0 + 4 * R) / 2 = (f 0 / 2 + 2 * (R % 2)) + 4 * (R / 2) := by omega
    have e3 : (f 0 / 2 + 2 * (R % 2)) &&& 1 = (f 0 / 2 + 2 * (R % 2)) % 2 := Nat.and_two_pow_sub_one_eq_mod _ 1
    rw [e1, pt_and_split (w := 2) rfl (by omega) (by omega), e3]
    omega
theorem pt_S_hi16 : ∀ (k : Nat) (f : Nat → Nat), (∀ j, f j < 16) → (pt_S 16 k f / 4) &&& pt_S 16 k (fun _ => 3) = pt_S 16 k (fun j => f j / 4)
  | 0, _, _ => by simp [pt_S]
  | k + 1, f, h => by
    have ih := pt_S_hi16 k (fun j => f (j + 1)) (fun j => h (j + 1))
    have h0 := h 0
    show ((f 0 + 16 * pt_S 16 k (fun j => f (j + 1))) / 4) &&& (3 + 16 * pt_S 16 k (fun _ => 3)) = f 0 / 4 + 16 * pt_S 16 k (fun j => f (j + 1) / 4)
    rw [← ih]
    generalize pt_S 16 k (fun j => f (j + 1)) = R
    generalize pt_S 16 k (fun _ => 3) = M
    have e1 : (f 0 + 16 * R) / 4 = (f 0 / 4 + 4 * (R % 4)) + 16 * (R / 4) := by omega
    have e3 : (f 0 / 4 + 4 * (R % 4)) &&& 3 = (f 0 / 4 + 4 * (R % 4)) % 4 := Nat.and_two_pow_sub_one_eq_mod _ 2
    rw [e1, pt_and_split (w := 4) rfl (by omega) (by omega), e3]
    omega
theorem pt_S_lo16 : ∀ (k : Nat) (f : Nat → Nat), (∀ j, f j < 16) → pt_S 16 k f &&& pt_S 16 k (fun _ => 3) = pt_S 16 k (fun j => f j % 4)
  | 0, _, _ => by simp [pt_S]
  | k + 1, f, h => by
    have ih := pt_S_lo16 k (fun j => f (j + 1)) (fun j => h (j + 1))
    have h0 := h 0
    show (f 0 + 16 * pt_S 16 k (fun j => f (j + 1))) &&& (3 + 16 * pt_S 16 k (fun _ => 3)) = f 0 % 4 + 16 * pt_S 16 k (fun j => f (j + 1) % 4)
    have e3 : f 0 &&& 3 = f 0 % 4 := Nat.and_two_pow_sub_one_eq_mod _ 2
    rw [pt_and_split (w := 4) rfl h0 (by omega), e3, ih]
theorem pt_S_lo256 : ∀ (k : Nat) (f : Nat → Nat), (∀ j, f j < 256) → pt_S 256 k f &&& pt_S 256 k (fun _ => 15) = pt_S 256 k (fun j => f j % 16)
  | 0, _, _ => by simp [pt_S]
  | k + 1, f, h => by
    have ih := pt_S_lo256 k (fun j => f (j + 1)) (fun j => h (j + 1))
    have h0 := h 0
    show (f 0 + 256 * pt_S 256 k (fun j => f (j + 1))) &&& (15 + 256 * pt_S 256 k (fun _ => 15)) = f 0 % 16 + 256 * pt_S 256 k (fun j => f (j + 1) % 16)
    have e3 : f 0 &&& 15 = f 0 % 16 := Nat.and_two_pow_sub_one_eq_mod _ 4
    rw [pt_and_split (w := 8) rfl h0 (by omega), e3, ih]
theorem pt_S_pair16 : ∀ (k : Nat) (f : Nat → Nat), pt_S 4 (2 * k) f = pt_S 16 k (fun j => f (2 * j) + 4 * f (2 * j + 1))
  | 0, _ => rfl
  | k + 1, f => by
    have ih := pt_S_pair16 k (fun j => f (j + 2))
    have e : pt_S 4 (2 * (k + 1)) f = f 0 + 4 * (f 1 + 4 * pt_S 4 (2 * k) (fun j => f (j + 2))) := rfl
    have e2 : pt_S 16 (k + 1) (fun j => f (2 * j) + 4 * f (2 * j + 1)) = f 0 + 4 * f 1 + 16 * pt_S 16 k (fun j => f (2 * j + 2) + 4 * f (2 * j + 1 + 2)) := rfl
    rw [e, e2, ih]
    omega
theorem pt_S_pair256 : ∀ (k : Nat) (f : Nat → Nat), pt_S 16 (2 * k) f = pt_S 256 k (fun j => f (2 * j) + 16 * f (2 * j + 1))
  | 0, _ => rfl
  | k + 1, f => by
    have ih := pt_S_pair256 k (fun j => f (j + 2))
    have e : pt_S 16 (2 * (k + 1)) f = f 0 + 16 * (f 1 + 16 * pt_S 16 (2 * k) (fun j => f (j + 2))) := rfl
    have e2 : pt_S 256 (k + 1) (fun j => f (2 * j) + 16 * f (2 * j + 1)) = f 0 + 16 * f 1 + 256 * pt_S 256 k (fun j => f (2 * j + 2) + 16 * f (2 * j + 1 + 2)) := rfl
    rw [e, e2, ih]
    omega
/-- the sum of the first k -/
def pt_T (b : Nat → Nat) : Nat → Nat
  | 0 => 0
  | k + 1 => pt_T b k + b k
theorem pt_T_pair (b : Nat → Nat) : ∀ k, pt_T b (2 * k) = pt_T (fun j => b (2 * j) + b (2 * j + 1)) k
  | 0 => rfl
  | k + 1 => by
    have ih := pt_T_pair b k
    have e : pt_T b (2 * (k + 1)) = pt_T b (2 * k) + b (2 * k) + b (2 * k + 1) := rfl
    have e2 : pt_T (fun j => b (2 * j) + b (2 * j + 1)) (k + 1) = pt_T (fun j => b (2 * j) + b (2 * j + 1)) k + (b (2 * k) + b (2 * k + 1)) := rfl
    rw [e, e2, ih, Nat.add_assoc]
theorem pt_T_congr {b c : Nat → Nat} (h : ∀ j, b j = c j) : ∀ k, pt_T b k = pt_T c k
  | 0 => rfl
  | k + 1 => by
    show pt_T b k + b k = pt_T c k + c k
    rw [pt_T_congr h k, h k]
theorem pt_T_le {b : Nat → Nat} {m : Nat} (h : ∀ j, b j ≤ m) : ∀ k, pt_T b k ≤ m * k
  | 0 => Nat.le_refl _
  | k + 1 => by
    have ih := pt_T_le h k
    have h0 := h k
    show pt_T b k + b k ≤ m * (k + 1)
    rw [Nat.mul_add, Nat.mul_one]
    omega
/-- the digits at each stage, from the bits b: two of them, four, eight -/
def pt_d2 (b : Nat → Nat) (j : Nat) : Nat := b (2 * j) + b (2 * j + 1)
theorem pt_stage1 {n : Nat} (h : n < 18446744073709551616) :
    (n / 2 &&& 6148914691236517205) ≤ n ∧ n - (n / 2 &&& 6148914691236517205) = pt_S 4 32 (pt_d2 (fun i => n / 2 ^ i % 2)) := by
  have e0 : pt_S 4 32 (fun j => n / 4 ^ j % 4) = n := pt_S_digits 4 32 n (by exact h)
  have e1 := pt_S_hi4 32 (fun j => n / 4 ^ j % 4) (fun j => Nat.mod_lt _ (by decide))
  have em : pt_S 4 32 (fun _ => 2 - 1) = 6148914691236517205 := by decide
  have em' : pt_S 4 32 (fun _ => 1) = 6148914691236517205 := em
  rw [e0, em'] at e1
  obtain ⟨h1, h2⟩ := pt_S_sub 4 32 (fun j => n / 4 ^ j % 4) (fun j => n / 4 ^ j % 4 / 2) (fun j => Nat.div_le_self _ _)
  rw [e0] at h1 h2
  rw [e1]
  refine ⟨h1, h2.trans (pt_S_congr 32 _ _ (fun j => ?_))⟩
  show n / 4 ^ j % 4 - n / 4 ^ j % 4 / 2 = n / 2 ^ (2 * j) % 2 + n / 2 ^ (2 * j + 1) % 2
  have p4 : 4 ^ j = 2 ^ (2 * j) := by rw [Nat.pow_mul]
  rw [p4, Nat.pow_succ, ← Nat.div_div_eq_div_mul]
  omega
theorem pt_stage2 (c : Nat → Nat) (hc : ∀ j, c j ≤ 2) :
    (pt_S 4 32 c &&& 3689348814741910323) + (pt_S 4 32 c / 4 &&& 3689348814741910323) = pt_S 16 16 (pt_d2 c) := by
  have e0 := pt_S_pair16 16 c
  have e0' : pt_S 4 32 c = pt_S 16 16 (fun j => c (2 * j) + 4 * c (2 * j + 1)) := e0
  have hb : ∀ j, c (2 * j) + 4 * c (2 * j + 1) < 16 := fun j => by
    have := hc (2 * j)
    have := hc (2 * j + 1)
    omega
  have e1 := pt_S_lo16 16 (fun j => c (2 * j) + 4 * c (2 * j + 1)) hb
  have e2 := pt_S_hi16 16 (fun j => c (2 * j) + 4 * c (2 * j + 1)) hb
  have em : pt_S 16 16 (fun _ => 3) = 3689348814741910323 := by decide
  rw [em] at e1 e2
  rw [e0', e1, e2, pt_S_add]
  refine pt_S_congr 16 _ _ (fun j => ?_)
  show (c (2 * j) + 4 * c (2 * j + 1)) % 4 + (c (2 * j) + 4 * c (2 * j + 1)) / 4 = c (2 * j) + c (2 * j + 1)
  have := hc (2 * j)
  omega
theorem pt_stage3 (d : Nat → Nat) (hd : ∀ j, d j ≤ 4) (h16 : d 16 = 0) :
    pt_S 16 16 d + pt_S 16 16 d / 16 < 18446744073709551616 ∧ ((pt_S 16 16 d + pt_S 16 16 d / 16) &&& 1085102592571150095) = pt_S 256 8 (pt_d2 d) := by
  have e1 : pt_S 16 16 d / 16 = pt_S 16 16 (fun j => d (j + 1)) := pt_S_div 16 d (by decide) (by have := hd 0; omega) h16
  have hs : ∀ j, d j + d (j + 1) < 16 := fun j => by
    have := hd j
    have := hd (j + 1)
    omega
  have e2 : pt_S 16 16 (fun j => d j + d (j + 1)) = pt_S 256 8 (fun j => d (2 * j) + d (2 * j + 1) + 16 * (d (2 * j + 1) + d (2 * j + 1 + 1))) := pt_S_pair256 8 (fun j => d j + d (j + 1))
  have hlt := pt_S_lt 16 16 (fun j => d j + d (j + 1)) hs
  have e3 := pt_S_lo256 8 (fun j => d (2 * j) + d (2 * j + 1) + 16 * (d (2 * j + 1) + d (2 * j + 1 + 1))) (fun j => by
    have := hs (2 * j)
    have := hs (2 * j + 1)
    omega)
  have em : pt_S 256 8 (fun _ => 15) = 1085102592571150095 := by decide
  rw [em] at e3
  rw [e1, pt_S_add]
  refine ⟨hlt, ?_⟩
  rw [e2, e3]
  refine pt_S_congr 8 _ _ (fun j => ?_)
  show (d (2 * j) + d (2 * j + 1) + 16 * (d (2 * j + 1) + d (2 * j + 1 + 1))) % 16 = d (2 * j) + d (2 * j + 1)
  have := hs (2 * j)
  omega
theorem pt_stage4 (p : Nat → Nat) (hp : ∀ j, p j ≤ 8) (h8 : ∀ j, p (8 + j) = 0) :
    pt_S 256 8 p + pt_S 256 8 p / 2 ^ 8 < 18446744073709551616 ∧
    pt_S 256 8 p + pt_S 256 8 p / 2 ^ 8 + (pt_S 256 8 p + pt_S 256 8 p / 2 ^ 8) / 2 ^ 16 < 18446744073709551616 ∧
    ∃ t, pt_S 256 8 p + pt_S 256 8 p / 2 ^ 8 + (pt_S 256 8 p + pt_S 256 8 p / 2 ^ 8) / 2 ^ 16 + (pt_S 256 8 p + pt_S 256 8 p / 2 ^ 8 + (pt_S 256 8 p + pt_S 256 8 p / 2 ^ 8) / 2 ^ 16) / 2 ^ 32 = pt_S 256 8 t ∧ (∀ j, t j ≤ 64) ∧ t 0 = pt_T p 8 := by
  have z : ∀ j, 8 ≤ j → p j = 0 := fun j h => by
    have := h8 (j - 8)
    rwa [show 8 + (j - 8) = j by omega] at this
  have sh : ∀ (f : Nat → Nat), (∀ j, f j < 256) → (∀ j, 8 ≤ j → f j = 0) → pt_S 256 8 f / 256 = pt_S 256 8 (fun j => f (j + 1)) := fun f h1 h2 => pt_S_div 8 f (by decide) (h1 0) (h2 8 (by omega))
  have a1 : pt_S 256 8 p / 2 ^ 8 = pt_S 256 8 (fun j => p (j + 1)) := sh p (fun j => by have := hp j; omega) z
  rw [a1, pt_S_add]
  have hq : ∀ j, p j + p (j + 1) ≤ 16 := fun j => by
    have := hp j
    have := hp (j + 1)
    omega
  have zq : ∀ j, 8 ≤ j → p j + p (j + 1) = 0 := fun j h => by rw [z j h, z (j + 1) (by omega)]
  have l1 := pt_S_lt 256 8 (fun j => p j + p (j + 1)) (fun j => by have := hq j; omega)
  have a2 : pt_S 256 8 (fun j => p j + p (j + 1)) / 2 ^ 16 = pt_S 256 8 (fun j => p (j + 2) + p (j + 3)) := by
    rw [show (2 : Nat) ^ 16 = 256 * 256 from rfl, ← Nat.div_div_eq_div_mul, sh _ (fun j => by have := hq j; omega) zq]
    exact sh (fun j => p (j + 1) + p (j + 1 + 1)) (fun j => by have := hq (j + 1); omega) (fun j h => zq (j + 1) (by omega))
  rw [a2, pt_S_add]
  have hr : ∀ j, p j + p (j + 1) + (p (j + 2) + p (j + 3)) ≤ 32 := fun j => by
    have h1 : p j + p (j + 1) ≤ 16 := hq j
    have h2 : p (j + 2) + p (j + 3) ≤ 16 := hq (j + 2)
    omega
  have zr : ∀ j, 8 ≤ j → p j + p (j + 1) + (p (j + 2) + p (j + 3)) = 0 := fun j h => by rw [z j h, z (j + 1) (by omega), z (j + 2) (by omega), z (j + 3) (by omega)]
  have l2 := pt_S_lt 256 8 (fun j => p j + p (j + 1) + (p (j + 2) + p (j + 3))) (fun j => by have := hr j; omega)
  have a3 : pt_S 256 8 (fun j => p j + p (j + 1) + (p (j + 2) + p (j + 3))) / 2 ^ 32 = pt_S 256 8 (fun j => p (j + 4) + p (j + 5) + (p (j + 6) + p (j + 7))) := by
    rw [show (2 : Nat) ^ 32 = 256 * 256 * 256 * 256 from rfl, ← Nat.div_div_eq_div_mul, ← Nat.div_div_eq_div_mul, ← Nat.div_div_eq_div_mul, sh _ (fun j => by have := hr j; omega) zr]
    rw [sh (fun j => p (j + 1) + p (j + 1 + 1) + (p (j + 1 + 2) + p (j + 1 + 3))) (fun j => by have := hr (j + 1); omega) (fun j h => zr (j + 1) (by omega))]
    rw [sh (fun j => p (j + 1 + 1) + p (j + 1 + 1 + 1) + (p (j + 1 + 1 + 2) + p (j + 1 + 1 + 3))) (fun j => by have := hr (j + 1 + 1); omega) (fun j h => zr (j + 1 + 1) (by omega))]
    exact sh (fun j => p (j + 1 + 1 + 1) + p (j + 1 + 1 + 1 + 1) + (p (j + 1 + 1 + 1 + 2) + p (j + 1 + 1 + 1 + 3))) (fun j => by have := hr (j + 1 + 1 + 1); omega) (fun j h => zr (j + 1 + 1 + 1) (by omega))
  rw [a3, pt_S_add]
  refine ⟨l1, l2, _, rfl, fun j => ?_, ?_⟩
  · have h1 : p j + p (j + 1) + (p (j + 2) + p (j + 3)) ≤ 32 := hr j
    have h2 : p (j + 4) + p (j + 5) + (p (j + 6) + p (j + 7)) ≤ 32 := hr (j + 4)
    show p j + p (j + 1) + (p (j + 2) + p (j + 3)) + (p (j + 4) + p (j + 5) + (p (j + 6) + p (j + 7))) ≤ 64
    omega
  · show p 0 + p 1 + (p 2 + p 3) + (p 4 + p 5 + (p 6 + p 7)) = 0 + p 0 + p 1 + p 2 + p 3 + p 4 + p 5 + p 6 + p 7
    omega
/-- Long.bitCount's steps, as the machine has them -/
def pt_c1 (x : Int64) : Int64 := x - (pt_ushr x 1 &&& 6148914691236517205)
def pt_c2 (x : Int64) : Int64 := (x &&& 3689348814741910323) + (pt_ushr x 2 &&& 3689348814741910323)
def pt_c3 (x : Int64) : Int64 := (x + pt_ushr x 4) &&& 1085102592571150095
def pt_c4 (x : Int64) : Int64 := x + pt_ushr x 8
def pt_c5 (x : Int64) : Int64 := x + pt_ushr x 16
def pt_c6 (x : Int64) : Int64 := x + pt_ushr x 32
def pt_bc (x : Int64) : Int32 := (pt_c6 (pt_c5 (pt_c4 (pt_c3 (pt_c2 (pt_c1 x)))))).toInt32 &&& 127
/-- the reference's count of bits, after k of them -/
def pt_cnt (v : Int64) : Nat → Int32
  | 0 => 0
  | k + 1 => pt_cnt v k + (pt_ushr v (nI k) &&& 1).toInt32
def pt_bits (v : Int64) : Int32 := pt_cnt v 64
theorem pt_cnt_T (v : Int64) : ∀ k, k ≤ 64 → pt_cnt v k = nI (pt_T (fun i => pt_u v / 2 ^ i % 2) k)
  | 0, _ => rfl
  | k + 1, h => by
    have ih := pt_cnt_T v k (by omega)
    have e : pt_ushr v (nI k) &&& 1 = lN (pt_u v / 2 ^ k % 2) := by
      apply pt_u_inj
      have e1 : pt_u (1 : Int64) = 2 ^ 1 - 1 := by decide
      rw [pt_u_and, pt_u_shr v (by omega), e1, Nat.and_two_pow_sub_one_eq_mod, pt_u_lN (by omega)]
    show pt_cnt v k + (pt_ushr v (nI k) &&& 1).toInt32 = nI (pt_T (fun i => pt_u v / 2 ^ i % 2) k + pt_u v / 2 ^ k % 2)
    rw [ih, e, lN_i, nI_add]
theorem pt_d2_le {b : Nat → Nat} {m m2 : Nat} (h : ∀ j, b j ≤ m) (e : m + m ≤ m2) : ∀ j, pt_d2 b j ≤ m2 := fun j => Nat.le_trans (Nat.add_le_add (h (2 * j)) (h (2 * j + 1))) e
theorem pt_d2_z {b : Nat → Nat} {m m2 : Nat} (h : ∀ j, m2 ≤ j → b j = 0) (e : m2 ≤ 2 * m) : ∀ j, m ≤ j → pt_d2 b j = 0 := fun j hj => by
  show b (2 * j) + b (2 * j + 1) = 0
  rw [h _ (by omega), h _ (by omega)]
theorem pt_fin {t r m : Nat} (h : t ≤ 64) (e : m = t + 256 * r) : m % 2 ^ 32 % 2 ^ 7 = t := by omega
set_option maxHeartbeats 4000000 in
set_option maxRecDepth 20000 in
theorem pt_bc_T (v : Int64) : pt_bc v = nI (pt_T (fun i => pt_u v / 2 ^ i % 2) 64) ∧ pt_T (fun i => pt_u v / 2 ^ i % 2) 64 ≤ 64 := by
  have hv := pt_u_lt v
  generalize hb : (fun i => pt_u v / 2 ^ i % 2) = b
  have hb1 : ∀ i, b i ≤ 1 := fun i => by
    rw [← hb]
    show pt_u v / 2 ^ i % 2 ≤ 1
    omega
  have hb0 : ∀ i, 64 ≤ i → b i = 0 := fun i hi => by
    rw [← hb]
    show pt_u v / 2 ^ i % 2 = 0
    have : 2 ^ 64 ≤ 2 ^ i := Nat.pow_le_pow_right (by decide) hi
    rw [Nat.div_eq_of_lt (by omega)]
  -- 1
  have m5 : pt_u (6148914691236517205 : Int64) = 6148914691236517205 := by decide +kernel
  have m3 : pt_u (3689348814741910323 : Int64) = 3689348814741910323 := by decide +kernel
  have mf : pt_u (1085102592571150095 : Int64) = 1085102592571150095 := by decide +kernel
  obtain ⟨s1, s1'⟩ := pt_stage1 hv
  rw [hb] at s1'
  have u1 : pt_u (pt_c1 v) = pt_S 4 32 (pt_d2 b) := by
    have e : pt_u (pt_ushr v 1 &&& 6148914691236517205) = pt_u v / 2 &&& 6148914691236517205 := by
      rw [pt_u_and, m5]
      exact congrArg (· &&& 6148914691236517205) (pt_u_shr v (k := 1) (by decide))
    show pt_u (v - (pt_ushr v 1 &&& 6148914691236517205)) = _
    rw [pt_u_sub (by rw [e]; exact s1), e]
    exact s1'
  have hc2 : ∀ j, pt_d2 b j ≤ 2 := pt_d2_le hb1 (by decide)
  have hd4 : ∀ j, pt_d2 (pt_d2 b) j ≤ 4 := pt_d2_le hc2 (by decide)
  have hp8 : ∀ j, pt_d2 (pt_d2 (pt_d2 b)) j ≤ 8 := pt_d2_le hd4 (by decide)
  have zc : ∀ j, 32 ≤ j → pt_d2 b j = 0 := pt_d2_z hb0 (by decide)
  have zd : ∀ j, 16 ≤ j → pt_d2 (pt_d2 b) j = 0 := pt_d2_z zc (by decide)
  have zp : ∀ j, pt_d2 (pt_d2 (pt_d2 b)) (8 + j) = 0 := fun j => pt_d2_z zd (m := 8) (by decide) _ (Nat.le_add_right _ _)
  -- 2
  have s2 := pt_stage2 (pt_d2 b) hc2
  have l2 := pt_S_lt 16 16 (pt_d2 (pt_d2 b)) (fun j => Nat.lt_of_le_of_lt (hd4 j) (by decide))
  have u2 : pt_u (pt_c2 (pt_c1 v)) = pt_S 16 16 (pt_d2 (pt_d2 b)) := by
    have e : pt_u (pt_ushr (pt_c1 v) 2) = pt_S 4 32 (pt_d2 b) / 4 := by
      rw [← u1]
      exact pt_u_shr (pt_c1 v) (k := 2) (by decide)
    show pt_u ((pt_c1 v &&& 3689348814741910323) + (pt_ushr (pt_c1 v) 2 &&& 3689348814741910323)) = _
    rw [pt_u_add, pt_u_and, pt_u_and, m3, u1, e, s2]
    exact Nat.mod_eq_of_lt l2
  -- 3
  obtain ⟨l3, s3⟩ := pt_stage3 (pt_d2 (pt_d2 b)) hd4 (zd 16 (Nat.le_refl _))
  have u3 : pt_u (pt_c3 (pt_c2 (pt_c1 v))) = pt_S 256 8 (pt_d2 (pt_d2 (pt_d2 b))) := by
    have e : pt_u (pt_ushr (pt_c2 (pt_c1 v)) 4) = pt_S 16 16 (pt_d2 (pt_d2 b)) / 16 := by
      rw [← u2]
      exact pt_u_shr (pt_c2 (pt_c1 v)) (k := 4) (by decide)
    show pt_u ((pt_c2 (pt_c1 v) + pt_ushr (pt_c2 (pt_c1 v)) 4) &&& 1085102592571150095) = _
    rw [pt_u_and, pt_u_add, mf, u2, e, Nat.mod_eq_of_lt l3]
    exact s3
  -- 4, 5, 6
  obtain ⟨l4, l5, t, s6, ht, ht0⟩ := pt_stage4 (pt_d2 (pt_d2 (pt_d2 b))) hp8 zp
  generalize hX : pt_S 256 8 (pt_d2 (pt_d2 (pt_d2 b))) = X at u3 l4 l5 s6
  have u4 : pt_u (pt_c4 (pt_c3 (pt_c2 (pt_c1 v)))) = X + X / 2 ^ 8 := by
    have e : pt_u (pt_ushr (pt_c3 (pt_c2 (pt_c1 v))) 8) = X / 2 ^ 8 := by
      rw [← u3]
      exact pt_u_shr _ (k := 8) (by decide)
    show pt_u (pt_c3 (pt_c2 (pt_c1 v)) + pt_ushr (pt_c3 (pt_c2 (pt_c1 v))) 8) = _
    rw [pt_u_add, u3, e, Nat.mod_eq_of_lt l4]
  generalize hY : X + X / 2 ^ 8 = Y at u4 l4 l5 s6
  have u5 : pt_u (pt_c5 (pt_c4 (pt_c3 (pt_c2 (pt_c1 v))))) = Y + Y / 2 ^ 16 := by
    have e : pt_u (pt_ushr (pt_c4 (pt_c3 (pt_c2 (pt_c1 v)))) 16) = Y / 2 ^ 16 := by
      rw [← u4]
      exact pt_u_shr _ (k := 16) (by decide)
    show pt_u (pt_c4 (pt_c3 (pt_c2 (pt_c1 v))) + pt_ushr (pt_c4 (pt_c3 (pt_c2 (pt_c1 v)))) 16) = _
    rw [pt_u_add, u4, e, Nat.mod_eq_of_lt l5]
  generalize hZ : Y + Y / 2 ^ 16 = Z at u5 l5 s6
  have l6 := pt_S_lt 256 8 t (fun j => Nat.lt_of_le_of_lt (ht j) (by decide))
  have u6 : pt_u (pt_c6 (pt_c5 (pt_c4 (pt_c3 (pt_c2 (pt_c1 v)))))) = pt_S 256 8 t := by
    have e : pt_u (pt_ushr (pt_c5 (pt_c4 (pt_c3 (pt_c2 (pt_c1 v))))) 32) = Z / 2 ^ 32 := by
      rw [← u5]
      exact pt_u_shr _ (k := 32) (by decide)
    show pt_u (pt_c5 (pt_c4 (pt_c3 (pt_c2 (pt_c1 v)))) + pt_ushr (pt_c5 (pt_c4 (pt_c3 (pt_c2 (pt_c1 v))))) 32) = _
    rw [pt_u_add, u5, e, s6]
    exact Nat.mod_eq_of_lt l6
  have hT : pt_T b 64 = pt_T (pt_d2 (pt_d2 (pt_d2 b))) 8 := (pt_T_pair b 32).trans ((pt_T_pair (pt_d2 b) 16).trans (pt_T_pair (pt_d2 (pt_d2 b)) 8))
  have hle : pt_T b 64 ≤ 1 * 64 := pt_T_le hb1 64
  refine ⟨?_, hle⟩
  have e6 : pt_c6 (pt_c5 (pt_c4 (pt_c3 (pt_c2 (pt_c1 v))))) = lN (pt_S 256 8 t) := by rw [← u6]; exact pt_u_of _
  have eS : pt_S 256 8 t = t 0 + 256 * pt_S 256 7 (fun j => t (j + 1)) := rfl
  show (pt_c6 (pt_c5 (pt_c4 (pt_c3 (pt_c2 (pt_c1 v)))))).toInt32 &&& 127 = _
  rw [e6, lN_i, pk_and (nI (pt_S 256 8 t)) (m := 127) 7 (by decide)]
  have e7 : (nI (pt_S 256 8 t)).toBitVec.toNat = pt_S 256 8 t % 2 ^ 32 := rfl
  rw [e7, hT, ← ht0]
  exact congrArg nI (pt_fin (ht 0) eS)
theorem pt_bc_bits (v : Int64) : pt_bc v = pt_bits v := by
  rw [(pt_bc_T v).1]
  exact (pt_cnt_T v 64 (Nat.le_refl _)).symm
theorem pt_bits_N (v : Int64) : ∃ k, k ≤ 64 ∧ pt_bits v = nI k := ⟨_, (pt_bc_T v).2, by rw [← pt_bc_bits]; exact (pt_bc_T v).1⟩
end
section
/-! Pure: bits of longs; masks; what the class and the reference ask of a row; the search for the first; the count of free words; the next free word. -/
def pt_b (x : Int64) (i : Nat) : Bool := x.toBitVec.getLsbD i
theorem pt_b_ext {x y : Int64} (h : ∀ i, i < 64 → pt_b x i = pt_b y i) : x = y := Int64.toBitVec_inj.mp (BitVec.eq_of_getLsbD_eq h)
theorem pt_b_and (x y : Int64) (i : Nat) : pt_b (x &&& y) i = (pt_b x i && pt_b y i) := by simp [pt_b]
theorem pt_b_or (x y : Int64) (i : Nat) : pt_b (x ||| y) i = (pt_b x i || pt_b y i) := by simp [pt_b]
theorem pt_b_xor (x y : Int64) (i : Nat) : pt_b (x ^^^ y) i = (pt_b x i ^^ pt_b y i) := by simp [pt_b]
theorem pt_b_0 (i : Nat) : pt_b 0 i = false := by
  have : (0 : Int64).toBitVec = 0#64 := by decide
  simp [pt_b, this]
theorem pt_b_m1 {i : Nat} (h : i < 64) : pt_b (-1) i = true := by
  have : (-1 : Int64).toBitVec = BitVec.allOnes 64 := by decide
  rw [pt_b, this, BitVec.getLsbD_allOnes, decide_eq_true h]
theorem pt_b_eq0 {x : Int64} : x = 0 ↔ ∀ i, i < 64 → pt_b x i = false :=
  ⟨fun h i _ => by rw [h]; exact pt_b_0 i, fun h => pt_b_ext fun i hi => by rw [h i hi, pt_b_0]⟩
theorem pt_bit_bv : ∀ p, p < 64 → (pt_shl 1 (nI p)).toBitVec = BitVec.twoPow 64 p := by decide +kernel
theorem pt_from_bv : ∀ p, p < 64 → (pt_shl (-1) (nI p)).toBitVec = BitVec.allOnes 64 <<< p := by decide +kernel
/-- the lowest n bits, as the class has them -/
def pt_mk (n : Nat) : Int64 := pt_ushr (-1) (64 - nI n)
theorem pt_mk_bv : ∀ n, n < 65 → 1 ≤ n → (pt_mk n).toBitVec = BitVec.allOnes 64 >>> (64 - n) := by decide +kernel
/-- .. and as the reference has them -/
theorem pt_mk_ref : ∀ n, n < 65 → 1 ≤ n → (if nI n = 64 then (-1 : Int64) else pt_shl 1 (nI n) - 1) = pt_mk n := by decide +kernel
theorem pt_b_bit {p : Nat} (hp : p < 64) (i : Nat) : pt_b (pt_shl 1 (nI p)) i = decide (p = i) := by
  rw [pt_b, pt_bit_bv p hp, BitVec.getLsbD_twoPow]
  simp [hp]
theorem pt_b_from {p : Nat} (hp : p < 64) {i : Nat} (hi : i < 64) : pt_b (pt_shl (-1) (nI p)) i = decide (p ≤ i) := by
  rw [pt_b, pt_from_bv p hp, BitVec.getLsbD_shiftLeft, BitVec.getLsbD_allOnes, decide_eq_true hi, decide_eq_true (show i - p < 64 by omega)]
  by_cases h : p ≤ i
  · rw [decide_eq_true h, decide_eq_false (show ¬ i < p by omega)]; rfl
  · rw [decide_eq_false h, decide_eq_true (show i < p by omega)]; rfl
theorem pt_b_mk {n : Nat} (h1 : 1 ≤ n) (h2 : n ≤ 64) (i : Nat) : pt_b (pt_mk n) i = decide (i < n) := by
  rw [pt_b, pt_mk_bv n (by omega) h1, BitVec.getLsbD_ushiftRight, BitVec.getLsbD_allOnes]
  by_cases h : i < n
  · rw [decide_eq_true h, decide_eq_true (show 64 - n + i < 64 by omega)]
  · rw [decide_eq_false h, decide_eq_false (show ¬ 64 - n + i < 64 by omega)]
theorem pt_b_u (x : Int64) (i : Nat) : pt_b x i = decide (pt_u x / 2 ^ i % 2 = 1) := by
  show x.toBitVec.toNat.testBit i = _
  rw [Nat.testBit_eq_decide_div_mod_eq]
  rfl
theorem pt_T_ge {b : Nat → Nat} {i : Nat} : ∀ k, i < k → b i ≤ pt_T b k
  | 0, h => by omega
  | k + 1, h => by
    show b i ≤ pt_T b k + b k
    by_cases e : i = k
    · rw [e]; omega
    · have := pt_T_ge (b := b) k (show i < k by omega)
      omega
/-- a long with a bit has bits to count -/
theorem pt_bits_ne {x : Int64} {i : Nat} (hi : i < 64) (h : pt_b x i = true) : ¬ pt_bits x = 0 := by
  rw [← pt_bc_bits, (pt_bc_T x).1]
  have hle := (pt_bc_T x).2
  have hge := pt_T_ge (b := fun i => pt_u x / 2 ^ i % 2) 64 hi
  rw [pt_b_u] at h
  have h : pt_u x / 2 ^ i % 2 = 1 := of_decide_eq_true h
  have hge : pt_u x / 2 ^ i % 2 ≤ pt_T (fun i => pt_u x / 2 ^ i % 2) 64 := hge
  exact nI_ne0 (by omega) (by omega)
/-- how many words have these bits told: 2 to the number of the open ones (2^64 as 0) -/
def pt_words (n : Nat) (c : Int64) : Int64 := if (64 : Int32) ≤ nI n - pt_bits c then 0 else pt_shl 1 (nI n - pt_bits c)
theorem pt_words_ref {n : Nat} (h : n ≤ 64) (c : Int64) : (if nI n - pt_bits c = 64 then (0 : Int64) else pt_shl 1 (nI n - pt_bits c)) = pt_words n c := by
  obtain ⟨k, hk, e⟩ := pt_bits_N c
  unfold pt_words
  rw [e]
  by_cases hkn : k ≤ n
  · rw [pk_sub hkn]
    by_cases e2 : n - k = 64
    · rw [e2, if_pos (show nI 64 = 64 from rfl), if_pos (show (64 : Int32) ≤ nI 64 from Int32.le_refl _)]
    · rw [if_neg (show ¬ nI (n - k) = (64 : Int32) from fun z => e2 ((nI_eq (by omega) (by omega)).mp (show nI (n - k) = nI 64 from z))), if_neg (show ¬ (64 : Int32) ≤ nI (n - k) from nI_ge (b := 64) (by omega) (by omega))]
  · have hn : (nI n - nI k).toInt = (n : Int) - k := pk_sub_toInt (by omega) (by omega)
    have h64 : (64 : Int32).toInt = 64 := by decide
    rw [if_neg, if_neg]
    · rw [Int32.le_iff_toInt_le, hn, h64]; omega
    · intro z
      have z2 := congrArg Int32.toInt z
      rw [hn] at z2
      have : (64 : Int32).toInt = 64 := by decide
      rw [this] at z2
      omega
/-- the row (care a, want b) shares a word with (c, w): no bit that both tell, and tell differently -/
def pt_sh (a b c w : Int64) : Prop := (a &&& c) &&& (b ^^^ w) = 0
theorem pt_sh_ref (a b c w m : Int64) : (((b ^^^ w) &&& a) &&& c) &&& m = 0 ↔ pt_sh a b (c &&& m) (w &&& m) := by
  have e : (((b ^^^ w) &&& a) &&& c) &&& m = (a &&& (c &&& m)) &&& (b ^^^ (w &&& m)) := by
    apply pt_b_ext
    intro i _
    simp only [pt_b_and, pt_b_xor]
    cases pt_b a i <;> cases pt_b b i <;> cases pt_b c i <;> cases pt_b w i <;> cases pt_b m i <;> rfl
  unfold pt_sh
  rw [e]
/-- a compare of longs that is 0 -/
theorem pt_cmp0 {x y : Int64} : lg_cmp x y = 0 ↔ x = y := lg_cmp_eq x y
/-- want is 1 where care isn't -/
def pt_stray (n : Nat) (c w : Int64) : Prop := ¬ w &&& (c ^^^ (-1)) &&& pt_mk n = 0
theorem pt_or_ref {a x m : Int64} (h : a &&& m = a) : (x ||| a) &&& m = a ||| (x &&& m) := by
  apply pt_b_ext
  intro i _
  have z := congrArg (fun y => pt_b y i) h
  simp only [pt_b_and, pt_b_or] at z ⊢
  revert z
  cases pt_b a i <;> cases pt_b x i <;> cases pt_b m i <;> decide
/-- decode: of a row inside its mask, want inside care -/
theorem pt_sh_dec {a b m : Int64} (w : Int64) (h1 : a &&& m = a) (h2 : b &&& a = b) : pt_sh a b m (w &&& m) ↔ w &&& a = b := by
  unfold pt_sh
  rw [pt_b_eq0]
  constructor
  · intro h
    apply pt_b_ext
    intro i hi
    have e := h i hi
    have e1 := congrArg (fun x => pt_b x i) h1
    have e2 := congrArg (fun x => pt_b x i) h2
    simp only [pt_b_and, pt_b_xor] at e e1 e2 ⊢
    revert e e1 e2
    cases pt_b a i <;> cases pt_b b i <;> cases pt_b w i <;> cases pt_b m i <;> decide
  · intro h i hi
    have e := congrArg (fun x => pt_b x i) h
    have e1 := congrArg (fun x => pt_b x i) h1
    simp only [pt_b_and, pt_b_xor] at e e1 ⊢
    revert e e1
    cases pt_b a i <;> cases pt_b b i <;> cases pt_b w i <;> cases pt_b m i <;> decide
/-- two rows that a word is of both share it -/
theorem pt_sh_two {a b a' b' m w : Int64} (h1 : a &&& m = a) (h : pt_sh a b m w) (h' : pt_sh a' b' m w) : (a &&& a') &&& (b ^^^ b') = 0 := by
  rw [pt_b_eq0]
  intro i hi
  have e := pt_b_eq0.mp h i hi
  have e' := pt_b_eq0.mp h' i hi
  have e1 := congrArg (fun x => pt_b x i) h1
  simp only [pt_b_and, pt_b_xor] at e e' e1 ⊢
  revert e e' e1
  cases pt_b a i <;> cases pt_b b i <;> cases pt_b a' i <;> cases pt_b b' i <;> cases pt_b w i <;> cases pt_b m i <;> decide
/-- r is the first of 0 .. n-1 of which P holds, -1 if of none -/
def pt_F (P : Nat → Prop) (n : Nat) (r : Int32) : Prop := (r = -1 ∧ ∀ j, j < n → ¬ P j) ∨ ∃ i, i < n ∧ P i ∧ (∀ j, j < i → ¬ P j) ∧ r = nI i
theorem pt_F_unique {P Q : Nat → Prop} {n : Nat} {r r' : Int32} (hPQ : ∀ j, j < n → (P j ↔ Q j)) (h : pt_F P n r) (h' : pt_F Q n r') : r = r' := by
  rcases h with ⟨e, h⟩ | ⟨i, hi, hp, hm, e⟩
  · rcases h' with ⟨e', -⟩ | ⟨i', hi', hp', -, -⟩
    · rw [e, e']
    · exact absurd ((hPQ i' hi').mpr hp') (h i' hi')
  · rcases h' with ⟨-, h'⟩ | ⟨i', hi', hp', hm', e'⟩
    · exact absurd ((hPQ i hi).mp hp) (h' i hi)
    · rcases Nat.lt_trichotomy i i' with z | z | z
      · exact absurd ((hPQ i hi).mp hp) (hm' i z)
      · rw [e, e', z]
      · exact absurd ((hPQ i' hi').mpr hp') (hm i' z)
theorem pt_F_neg {P : Nat → Prop} {n : Nat} {r : Int32} (hn : n ≤ 512) (h : pt_F P n r) : r < 0 ↔ r = -1 := by
  rcases h with ⟨e, -⟩ | ⟨i, hi, -, -, e⟩
  · rw [e]; decide
  · constructor
    · intro z; rw [e] at z; exact absurd z (nI_pos (by omega))
    · intro z; rw [z]; decide
theorem pt_F_none {P : Nat → Prop} {n : Nat} {r : Int32} (hn : n ≤ 512) (h : pt_F P n r) : r = -1 ↔ ∀ j, j < n → ¬ P j := by
  rcases h with ⟨e, h⟩ | ⟨i, hi, hp, -, e⟩
  · exact ⟨fun _ => h, fun _ => e⟩
  · constructor
    · intro z
      rw [e] at z
      have := nI_pos (n := i) (by omega)
      rw [z] at this
      exact absurd (by decide) this
    · intro z; exact absurd hp (z i hi)
/-- the free words of (c, w), after i rows -/
noncomputable def pt_fw (n : Nat) (fc fv : Nat → Int64) (c w : Int64) : Nat → Int64
  | 0 => pt_words n c
  | i + 1 => @ite _ (pt_sh (fc i) (fv i) c w) (Classical.propDecidable _) (pt_fw n fc fv c w i - pt_words n (fc i ||| c)) (pt_fw n fc fv c w i)
theorem pt_fw_yes {n : Nat} {fc fv : Nat → Int64} {c w : Int64} {i : Nat} (h : pt_sh (fc i) (fv i) c w) : pt_fw n fc fv c w (i + 1) = pt_fw n fc fv c w i - pt_words n (fc i ||| c) := if_pos h
theorem pt_fw_no {n : Nat} {fc fv : Nat → Int64} {c w : Int64} {i : Nat} (h : ¬ pt_sh (fc i) (fv i) c w) : pt_fw n fc fv c w (i + 1) = pt_fw n fc fv c w i := if_neg h
/-- what is always so of the rows -/
def pt_I (k n : Nat) (fc fv : Nat → Int64) : Prop :=
  k ≤ 512 ∧ 1 ≤ n ∧ n ≤ 64 ∧ (∀ j, j < k → fc j &&& pt_mk n = fc j) ∧ (∀ j, j < k → fv j &&& fc j = fv j) ∧ ∀ i j, i < j → j < k → ¬ (fc i &&& fc j) &&& (fv i ^^^ fv j) = 0
theorem pt_I_0 {fc fv : Nat → Int64} {n : Nat} (h1 : 1 ≤ n) (h2 : n ≤ 64) : pt_I 0 n fc fv :=
  ⟨by omega, h1, h2, fun j h => by omega, fun j h => by omega, fun i j _ h => by omega⟩
theorem pt_mk_and {n : Nat} (c : Int64) : (c &&& pt_mk n) &&& pt_mk n = c &&& pt_mk n := by
  rw [Int64.and_assoc, Int64.and_self]
theorem pt_I_add {k n : Nat} {fc fv : Nat → Int64} {c w : Int64} (h : pt_I k n fc fv) (hk : k < 512) (hw : w &&& (c ^^^ (-1)) &&& pt_mk n = 0)
    (hn : ∀ j, j < k → ¬ pt_sh (fc j) (fv j) (c &&& pt_mk n) (w &&& pt_mk n)) : pt_I (k + 1) n (vp_updL fc k (c &&& pt_mk n)) (vp_updL fv k (w &&& pt_mk n)) := by
  obtain ⟨-, h1, h2, h3, h4, h5⟩ := h
  refine ⟨by omega, h1, h2, fun j hj => ?_, fun j hj => ?_, fun i j hij hj => ?_⟩
  · by_cases e : j = k
    · rw [e, pk_uLs, pt_mk_and]
    · rw [pk_uLn e]; exact h3 j (by omega)
  · by_cases e : j = k
    · rw [e, pk_uLs, pk_uLs]
      apply pt_b_ext
      intro i hi
      have z := pt_b_eq0.mp hw i hi
      simp only [pt_b_and, pt_b_xor, pt_b_m1 hi] at z ⊢
      revert z
      cases pt_b w i <;> cases pt_b c i <;> cases pt_b (pt_mk n) i <;> decide
    · rw [pk_uLn e, pk_uLn e]; exact h4 j (by omega)
  · rw [pk_uLn (show i ≠ k by omega), pk_uLn (show i ≠ k by omega)]
    by_cases e : j = k
    · rw [e, pk_uLs, pk_uLs]; exact hn i (by omega)
    · rw [pk_uLn e, pk_uLn e]; exact h5 i j hij (by omega)
/-- the rows after row i has gone: those behind it up to (not with) t moved up -/
def pt_mv (f : Nat → Int64) (i t : Nat) : Nat → Int64 := fun j => if i ≤ j ∧ j + 1 < t then f (j + 1) else f j
theorem pt_mv_0 (f : Nat → Int64) (i : Nat) : pt_mv f i (i + 1) = f := by
  funext j
  unfold pt_mv
  rw [if_neg (by omega)]
theorem pt_mv_s (f : Nat → Int64) {i t : Nat} (h : i < t) : vp_updL (pt_mv f i t) (t - 1) (pt_mv f i t t) = pt_mv f i (t + 1) := by
  funext j
  unfold vp_updL pt_mv
  rw [if_neg (show ¬ (i ≤ t ∧ t + 1 < t) by omega)]
  by_cases e : j = t - 1
  · rw [if_pos e, if_pos (by omega), show j + 1 = t by omega]
  · rw [if_neg e]
    by_cases e2 : i ≤ j ∧ j + 1 < t
    · rw [if_pos e2, if_pos (by omega)]
    · rw [if_neg e2, if_neg (by omega)]
theorem pt_mv_in {f : Nat → Int64} {i k j : Nat} (hj : j < k - 1) : pt_mv f i k j = f (if i ≤ j then j + 1 else j) := by
  unfold pt_mv
  by_cases e : i ≤ j
  · rw [if_pos e, if_pos ⟨e, by omega⟩]
  · rw [if_neg e, if_neg (by omega)]
theorem pt_I_drop {k n : Nat} {fc fv : Nat → Int64} {i : Nat} (h : pt_I k n fc fv) (hi : i < k) : pt_I (k - 1) n (pt_mv fc i k) (pt_mv fv i k) := by
  obtain ⟨h0, h1, h2, h3, h4, h5⟩ := h
  have g : ∀ j, j < k - 1 → (if i ≤ j then j + 1 else j) < k := fun j hj => by split <;> omega
  refine ⟨by omega, h1, h2, fun j hj => ?_, fun j hj => ?_, fun a b hab hb => ?_⟩
  · rw [pt_mv_in hj]; exact h3 _ (g j hj)
  · rw [pt_mv_in hj, pt_mv_in hj]; exact h4 _ (g j hj)
  · rw [pt_mv_in hb, pt_mv_in hb, pt_mv_in (show a < k - 1 by omega), pt_mv_in (show a < k - 1 by omega)]
    refine h5 _ _ ?_ (g b hb)
    split <;> split <;> omega
/-- one word: what the reference counts for it is 1, less one for each row that it is of -/
theorem pt_words_mk {n : Nat} (h1 : 1 ≤ n) (h2 : n ≤ 64) : pt_words n (pt_mk n) = 1 := by
  have : ∀ n, n < 65 → 1 ≤ n → pt_words n (pt_mk n) = 1 := by decide +kernel
  exact this n (by omega) h1
theorem pt_one_le {k n : Nat} {fc fv : Nat → Int64} {w : Int64} (h : pt_I k n fc fv) : ∀ i, i ≤ k →
    (pt_fw n fc fv (pt_mk n) w i = 1 ∧ ∀ j, j < i → ¬ pt_sh (fc j) (fv j) (pt_mk n) w) ∨ (pt_fw n fc fv (pt_mk n) w i = 0 ∧ ∃ j, j < i ∧ pt_sh (fc j) (fv j) (pt_mk n) w)
  | 0, _ => Or.inl ⟨pt_words_mk h.2.1 h.2.2.1, fun j hj => by omega⟩
  | i + 1, hi => by
    have e : fc i ||| pt_mk n = pt_mk n := by
      have h3 := h.2.2.2.1 i (by omega)
      apply pt_b_ext
      intro b _
      have z := congrArg (fun x => pt_b x b) h3
      simp only [pt_b_and, pt_b_or] at z ⊢
      revert z
      cases pt_b (fc i) b <;> cases pt_b (pt_mk n) b <;> decide
    rcases pt_one_le h i (by omega) with ⟨e1, q1⟩ | ⟨e1, j, hj, q1⟩
    · by_cases s : pt_sh (fc i) (fv i) (pt_mk n) w
      · refine Or.inr ⟨?_, i, by omega, s⟩
        rw [pt_fw_yes s, e1, e, pt_words_mk h.2.1 h.2.2.1]
        decide
      · refine Or.inl ⟨by rw [pt_fw_no s, e1], fun j hj => ?_⟩
        by_cases z : j = i
        · rw [z]; exact s
        · exact q1 j (by omega)
    · by_cases s : pt_sh (fc i) (fv i) (pt_mk n) w
      · exact absurd (pt_sh_two (h.2.2.2.1 j (by omega)) q1 s) (h.2.2.2.2.2 j i hj (by omega))
      · exact Or.inr ⟨by rw [pt_fw_no s, e1], j, by omega, q1⟩
theorem pt_one {k n : Nat} {fc fv : Nat → Int64} {w : Int64} (h : pt_I k n fc fv) : pt_fw n fc fv (pt_mk n) w k = 0 ↔ ¬ ∀ j, j < k → ¬ pt_sh (fc j) (fv j) (pt_mk n) w := by
  rcases pt_one_le (w := w) h k (Nat.le_refl _) with ⟨e1, q1⟩ | ⟨e1, j, hj, q1⟩
  · rw [e1]
    exact ⟨fun z => absurd z (by decide), fun z => absurd q1 z⟩
  · exact ⟨fun _ z => z j hj q1, fun _ => e1⟩
/-- the bits from at on -/
def pt_up (n at_ : Nat) : Int64 := pt_mk n &&& pt_shl (-1) (nI at_)
def pt_rs (n : Nat) (w : Int64) (at_ : Nat) : Int64 := (w ||| pt_shl 1 (nI at_)) &&& pt_up n at_
/-- at this bit the word can be raised -/
def pt_N (k n : Nat) (fc fv : Nat → Int64) (w : Int64) (at_ : Nat) : Prop := pt_ushr w (nI at_) &&& 1 = 0 ∧ ¬ pt_fw n fc fv (pt_up n at_) (pt_rs n w at_) k = 0
/-- the bits below q settled -/
noncomputable def pt_lf (k n : Nat) (fc fv : Nat → Int64) : Nat → Int64 → Int64
  | 0, x => x
  | q + 1, x => pt_lf k n fc fv q (@ite _ (pt_fw n fc fv (pt_up n q) x k = 0) (Classical.propDecidable _) (x ||| pt_shl 1 (nI q)) x)
theorem pt_lf_yes {k n : Nat} {fc fv : Nat → Int64} {q : Nat} {x : Int64} (h : pt_fw n fc fv (pt_up n q) x k = 0) : pt_lf k n fc fv (q + 1) x = pt_lf k n fc fv q (x ||| pt_shl 1 (nI q)) := by
  show pt_lf k n fc fv q (@ite _ _ (Classical.propDecidable _) _ _) = _
  rw [if_pos h]
theorem pt_lf_no {k n : Nat} {fc fv : Nat → Int64} {q : Nat} {x : Int64} (h : ¬ pt_fw n fc fv (pt_up n q) x k = 0) : pt_lf k n fc fv (q + 1) x = pt_lf k n fc fv q x := by
  show pt_lf k n fc fv q (@ite _ _ (Classical.propDecidable _) _ _) = _
  rw [if_neg h]
theorem pt_up_mk {n p : Nat} : pt_up n p &&& pt_mk n = pt_up n p := by
  unfold pt_up
  apply pt_b_ext
  intro i _
  simp only [pt_b_and]
  cases pt_b (pt_mk n) i <;> cases pt_b (pt_shl (-1) (nI p)) i <;> rfl
theorem pt_b_up {n p i : Nat} (h1 : 1 ≤ n) (h2 : n ≤ 64) (hp : p < 64) (hi : i < 64) : pt_b (pt_up n p) i = (decide (i < n) && decide (p ≤ i)) := by
  unfold pt_up
  rw [pt_b_and, pt_b_mk h1 h2, pt_b_from hp hi]
/-- the reference's bits from p on -/
theorem pt_up_ref : ∀ p, p < 64 → (pt_shl 1 (nI p) - 1) ^^^ (-1) = pt_shl (-1) (nI p) := by decide +kernel
theorem pt_rs_ref {n p : Nat} (w : Int64) (h1 : 1 ≤ n) (h2 : n ≤ 64) (hp : p < n) : (w &&& pt_up n p) ||| pt_shl 1 (nI p) = pt_rs n w p := by
  unfold pt_rs
  apply pt_b_ext
  intro i hi
  simp only [pt_b_and, pt_b_or, pt_b_bit (show p < 64 by omega), pt_b_up h1 h2 (show p < 64 by omega) hi]
  by_cases e : p = i
  · rw [decide_eq_true e, decide_eq_true (show i < n by omega), decide_eq_true (show p ≤ i by omega)]
    cases pt_b w i <;> rfl
  · rw [decide_eq_false e]
    cases pt_b w i <;> cases decide (i < n) <;> cases decide (p ≤ i) <;> rfl
theorem pt_up_step {n q : Nat} (h1 : 1 ≤ n) (h2 : n ≤ 64) (hq : q + 1 < n) : pt_up n (q + 1) ||| pt_shl 1 (nI q) = pt_up n q := by
  apply pt_b_ext
  intro i hi
  simp only [pt_b_or, pt_b_bit (show q < 64 by omega), pt_b_up h1 h2 (show q + 1 < 64 by omega) hi, pt_b_up h1 h2 (show q < 64 by omega) hi]
  by_cases e : q = i
  · rw [decide_eq_true e, decide_eq_true (show i < n by omega), decide_eq_true (show q ≤ i by omega)]
    cases decide (q + 1 ≤ i) <;> rfl
  · rw [decide_eq_false e]
    by_cases e2 : q ≤ i
    · rw [decide_eq_true e2, decide_eq_true (show q + 1 ≤ i by omega)]
      cases decide (i < n) <;> rfl
    · rw [decide_eq_false e2, decide_eq_false (show ¬ q + 1 ≤ i by omega)]
      cases decide (i < n) <;> rfl
/-- bit p of w is 0, said in two ways -/
theorem pt_bit_ref (w : Int64) {p : Nat} (hp : p < 64) : w &&& pt_shl 1 (nI p) = 0 ↔ pt_ushr w (nI p) &&& 1 = 0 := by
  have e2 : pt_ushr w (nI p) &&& 1 = lN (pt_u w / 2 ^ p % 2) := by
    apply pt_u_inj
    have e1 : pt_u (1 : Int64) = 2 ^ 1 - 1 := by decide
    rw [pt_u_and, pt_u_shr w hp, e1, Nat.and_two_pow_sub_one_eq_mod, pt_u_lN (by omega)]
  have e3 : pt_ushr w (nI p) &&& 1 = 0 ↔ pt_b w p = false := by
    rw [e2, pt_b_u]
    constructor
    · intro z
      have z := congrArg pt_u z
      rw [pt_u_lN (by omega)] at z
      have z : pt_u w / 2 ^ p % 2 = 0 := z
      rw [z]; rfl
    · intro z
      have z := of_decide_eq_false z
      have z : pt_u w / 2 ^ p % 2 = 0 := by omega
      rw [z]; rfl
  rw [e3, pt_b_eq0]
  constructor
  · intro h
    have z := h p hp
    rw [pt_b_and, pt_b_bit hp, decide_eq_true rfl, Bool.and_true] at z
    exact z
  · intro h i hi
    rw [pt_b_and, pt_b_bit hp]
    by_cases e : p = i
    · rw [← e, h]; rfl
    · rw [decide_eq_false e, Bool.and_false]
/-- 'some' of the reference, of bits inside the mask that are not none, is: there are free words -/
theorem pt_bits_up {n p : Nat} (h1 : 1 ≤ n) (h2 : n ≤ 64) (hp : p < n) : ¬ pt_bits (pt_up n p) = 0 := by
  refine pt_bits_ne (i := p) (by omega) ?_
  rw [pt_b_up h1 h2 (by omega) (by omega), decide_eq_true hp, decide_eq_true (Nat.le_refl _)]
  rfl
theorem pt_bits_mk {n : Nat} (h1 : 1 ≤ n) (h2 : n ≤ 64) : ¬ pt_bits (pt_mk n) = 0 := by
  refine pt_bits_ne (i := 0) (by omega) ?_
  rw [pt_b_mk h1 h2, decide_eq_true (show 0 < n by omega)]
/-- signs: care and want after i of the digits of d -/
def pt_sc (d : Nat) : Nat → Int64
  | 0 => 0
  | i + 1 => if d / 3 ^ i % 3 = 2 then pt_sc d i else pt_sc d i ||| pt_shl 1 (nI i)
def pt_sw (d : Nat) : Nat → Int64
  | 0 => 0
  | i + 1 => if d / 3 ^ i % 3 = 1 then pt_sw d i ||| pt_shl 1 (nI i) else pt_sw d i
theorem pt_hi_mk {n i : Nat} (x : Int64) (h1 : 1 ≤ n) (h2 : n ≤ 64) (hi : n ≤ i) (hi2 : i < 64) : (x ||| pt_shl 1 (nI i)) &&& pt_mk n = x &&& pt_mk n := by
  apply pt_b_ext
  intro j hj
  simp only [pt_b_and, pt_b_or, pt_b_bit hi2, pt_b_mk h1 h2]
  by_cases e : i = j
  · rw [decide_eq_false (show ¬ j < n by omega), Bool.and_false, Bool.and_false]
  · rw [decide_eq_false e, Bool.or_false]
theorem pt_sc_mk {d n : Nat} (h1 : 1 ≤ n) (h2 : n ≤ 64) : ∀ i, i ≤ 40 → n ≤ i → pt_sc d i &&& pt_mk n = pt_sc d n &&& pt_mk n ∧ pt_sw d i &&& pt_mk n = pt_sw d n &&& pt_mk n
  | 0, _, h => by omega
  | i + 1, hi, h => by
    by_cases e : n = i + 1
    · rw [e]; exact ⟨rfl, rfl⟩
    · obtain ⟨a, b⟩ := pt_sc_mk (d := d) h1 h2 i (by omega) (by omega)
      have hs := fun x => pt_hi_mk x h1 h2 (show n ≤ i by omega) (by omega)
      constructor
      · show (if d / 3 ^ i % 3 = 2 then pt_sc d i else pt_sc d i ||| pt_shl 1 (nI i)) &&& pt_mk n = _
        split
        · exact a
        · rw [hs]; exact a
      · show (if d / 3 ^ i % 3 = 1 then pt_sw d i ||| pt_shl 1 (nI i) else pt_sw d i) &&& pt_mk n = _
        split
        · rw [hs]; exact b
        · exact b
/-- as many digits as the reference takes -/
def pt_sn (n : Nat) : Nat := if n < 40 then n else 40
theorem pt_signs {d n : Nat} (h1 : 1 ≤ n) (h2 : n ≤ 64) : pt_sc d (pt_sn n) &&& pt_mk n = pt_sc d 40 &&& pt_mk n ∧ pt_sw d (pt_sn n) &&& pt_mk n = pt_sw d 40 &&& pt_mk n := by
  unfold pt_sn
  split
  · obtain ⟨a, b⟩ := pt_sc_mk (d := d) h1 h2 40 (Nat.le_refl _) (by omega)
    exact ⟨a.symm, b.symm⟩
  · exact ⟨rfl, rfl⟩
theorem pt_sw_sc (d : Nat) : ∀ i, i ≤ 40 → pt_sw d i &&& (pt_sc d i ^^^ (-1)) = 0
  | 0, _ => show (0 : Int64) &&& (0 ^^^ (-1)) = 0 by decide
  | i + 1, hi => by
    have ih := pt_b_eq0.mp (pt_sw_sc d i (by omega))
    rw [pt_b_eq0]
    intro j hj
    have z := ih j hj
    show pt_b ((if d / 3 ^ i % 3 = 1 then pt_sw d i ||| pt_shl 1 (nI i) else pt_sw d i) &&& ((if d / 3 ^ i % 3 = 2 then pt_sc d i else pt_sc d i ||| pt_shl 1 (nI i)) ^^^ (-1))) j = false
    by_cases e1 : d / 3 ^ i % 3 = 1
    · rw [if_pos e1, if_neg (by omega)]
      simp only [pt_b_and, pt_b_or, pt_b_xor, pt_b_m1 hj] at z ⊢
      revert z
      cases pt_b (pt_sw d i) j <;> cases pt_b (pt_sc d i) j <;> cases pt_b (pt_shl 1 (nI i)) j <;> decide
    · rw [if_neg e1]
      split
      · exact z
      · simp only [pt_b_and, pt_b_or, pt_b_xor, pt_b_m1 hj] at z ⊢
        revert z
        cases pt_b (pt_sw d i) j <;> cases pt_b (pt_sc d i) j <;> cases pt_b (pt_shl 1 (nI i)) j <;> decide
theorem pt_F_hit {P : Nat → Prop} {i : Nat} (h : pt_F P i (-1)) (hs : P i) (hi : i ≤ 512) : pt_F P (i + 1) (nI i) := by
  rcases h with ⟨-, h⟩ | ⟨i0, hi0, -, -, e⟩
  · exact Or.inr ⟨i, Nat.lt_succ_self _, hs, h, rfl⟩
  · have z := nI_pos (n := i0) (by omega)
    rw [← e] at z
    exact absurd (by decide) z
theorem pt_F_miss {P : Nat → Prop} {i : Nat} {r : Int32} (h : pt_F P i r) (hs : ¬ P i) : pt_F P (i + 1) r := by
  rcases h with ⟨e, h⟩ | ⟨i0, hi0, hp, hm, e⟩
  · refine Or.inl ⟨e, fun j hj => ?_⟩
    by_cases z : j = i
    · rw [z]; exact hs
    · exact h j (by omega)
  · exact Or.inr ⟨i0, by omega, hp, hm, e⟩
theorem pt_I_two {k n : Nat} {fc fv : Nat → Int64} {w : Int64} {i : Nat} {r : Int32} (hI : pt_I k n fc fv) (hi : i < k) (hF : pt_F (fun j => pt_sh (fc j) (fv j) (pt_mk n) w) i r) (hr : ¬ r = -1) : ¬ pt_sh (fc i) (fv i) (pt_mk n) w := by
  rcases hF with ⟨e, -⟩ | ⟨i0, hi0, hp, -, -⟩
  · exact absurd e hr
  · intro hs
    exact hI.2.2.2.2.2 i0 i hi0 hi (pt_sh_two (hI.2.2.2.1 i0 (by omega)) hp hs)
theorem pt_len {x : Int32} (h1 : ¬ x < 1) (h2 : x ≤ 64) : ∃ a : Nat, 1 ≤ a ∧ a ≤ 64 ∧ x = nI a := by
  have h0 : ¬ x < 0 := fun z => h1 (by rw [Int32.lt_iff_toInt_lt] at z ⊢; have e1 : (1 : Int32).toInt = 1 := by decide
                                       have e0 : (0 : Int32).toInt = 0 := by decide
                                       omega)
  obtain ⟨a, ha, e⟩ := nI_of2 (M := 64) (n := 64) (by decide) h0 h2
  refine ⟨a, ?_, ha, e⟩
  rcases Nat.eq_zero_or_pos a with z | z
  · rw [e, z] at h1; exact absurd (by decide) h1
  · exact z
theorem pt_at {x : Int32} {k : Nat} (hk : k ≤ 512) (h1 : ¬ x < 0) (h2 : x < nI k) : ∃ i : Nat, i < k ∧ x = nI i := by
  obtain ⟨j, hj, e⟩ := nI_of h1
  rw [e] at h2
  exact ⟨j, (nI_ltI hj (by omega)).mp h2, e⟩
theorem pt_nI_ne {i : Nat} (h : i ≤ 512) : ¬ nI i = -1 := fun z => by
  have := nI_pos (n := i) (by omega)
  rw [z] at this
  exact this (by decide)
theorem pt_rs_mk {n p : Nat} {w : Int64} : pt_rs n w p &&& pt_mk n = pt_rs n w p := by
  unfold pt_rs
  rw [Int64.and_assoc, pt_up_mk]
theorem pt_or_mk {n q : Nat} {y : Int64} (hy : y &&& pt_mk n = y) (h1 : 1 ≤ n) (h2 : n ≤ 64) (hq : q < n) : (y ||| pt_shl 1 (nI q)) &&& pt_mk n = y ||| pt_shl 1 (nI q) := by
  apply pt_b_ext
  intro i hi
  have z := congrArg (fun x => pt_b x i) hy
  simp only [pt_b_and, pt_b_or, pt_b_bit (show q < 64 by omega), pt_b_mk h1 h2] at z ⊢
  by_cases e : q = i
  · rw [decide_eq_true e, decide_eq_true (show i < n by omega)]
    cases pt_b y i <;> rfl
  · rw [decide_eq_false e, Bool.or_false]; exact z
theorem pt_one_yes {k n : Nat} {fc fv : Nat → Int64} {w : Int64} (h : pt_I k n fc fv) (hs : ¬ pt_fw n fc fv (pt_mk n) w k = 0) : ∀ j, j < k → ¬ pt_sh (fc j) (fv j) (pt_mk n) w :=
  Classical.byContradiction fun z => hs ((pt_one h).mpr z)
theorem pt_d2ge {m : Nat} (h : 0 ≤ lg_cmp (lN (m % 3)) 2) : m % 3 = 2 := by
  have h := (lg_cmp_ge _ _).mp h
  have h := (pk_lLE (a := 2) (b := m % 3) (by decide) (by omega)).mp h
  omega
theorem pt_d2is {m : Nat} (h : m % 3 = 2) : 0 ≤ lg_cmp (lN (m % 3)) 2 := (lg_cmp_ge _ _).mpr (by rw [h]; exact Int64.le_refl _)
theorem pt_least_or (P : Nat → Prop) : ∀ n : Nat, (∃ i : Nat, i < n ∧ P i ∧ ∀ j, j < i → ¬ P j) ∨ ∀ j, j < n → ¬ P j
  | 0 => Or.inr fun j h => by omega
  | n + 1 => by
    rcases pt_least_or P n with ⟨i, h1, h2, h3⟩ | h
    · exact Or.inl ⟨i, by omega, h2, h3⟩
    · by_cases hp : P n
      · exact Or.inl ⟨n, Nat.lt_succ_self _, hp, h⟩
      · refine Or.inr fun j hj => ?_
        by_cases e : j = n
        · rw [e]; exact hp
        · exact h j (by omega)
theorem pt_F_all (P : Nat → Prop) (n : Nat) : ∃ r : Int32, pt_F P n r := by
  rcases pt_least_or P n with ⟨i, h1, h2, h3⟩ | h
  · exact ⟨nI i, Or.inr ⟨i, h1, h2, h3, rfl⟩⟩
  · exact ⟨-1, Or.inl ⟨rfl, h⟩⟩
end
section
/-! A method that throws for sure: its contract; its end by 'throw new E("..")'; a call of it, left uncaught or caught. -/
section PTA
variable {p : Program} {l : Launch} {e : Env} {R : Room} {s : State} {m : MethodId} {args : Array Value} {below : List Frame} {meth : Method} {c : Code} {H : Heap} {locs : List Loc} {cells slots : Nat} {Q : State → Prop}
/-- from every such start y throws an object of the class called E; Qx of the start and the end -/
def pt_Thr (l : Launch) (y : MethodName) (ws : List Cond) (rm : Room) (Pc : Array Value → State → Prop) (E : String) (Qx : State → State → Prop) (mc ms : Nat) (free : Addr → Prop) : Prop :=
  MetFree l y (headSpec ws rm) Pc (fun _ _ _ _ _ => True) (fun _ st o t => ∃ (q : Addr) (ce : Cell) (L : List Loc), o = .threw q ∧ t.heap[q]? = some ce ∧ ce.vm = .none ∧ st.vm.findClass E = some ce.cls ∧ Qx st t ∧ FrameEndT st o t L mc ms ∧ ∀ z ∈ L, free z.base)
/-- what the walk of such a body comes to -/
def pt_TQ (below : List Frame) (E : String) (Qx : State → State → Prop) (s : State) (mc ms : Nat) (free : Addr → Prop) : State → Prop := fun t =>
  t.status = .running ∧ ∃ (q : Addr) (ce : Cell) (L : List Loc), Ended t below (.threw q) ∧ t.heap[q]? = some ce ∧ ce.vm = .none ∧ s.vm.findClass E = some ce.cls ∧ Qx s t ∧ FrameEndT s (.threw q) t L mc ms ∧ ∀ z ∈ L, free z.base
theorem pt_Thr_ofW {y : MethodName} {ws ws' : List Cond} {rm : Room} {Pc : Array Value → State → Prop} {E : String} {Qx : State → State → Prop} {mc ms : Nat} {free : Addr → Prop} {cc : ByteArray} {maxL : Nat} {ret : Option FieldType}
    (hy : plainName y.cls = true) (hw : ws = Cond.code y cc maxL ret :: ws')
    (body : ∀ p e s m args below meth c s₁, BodyLoose p l y (headSpec ws rm) cc maxL ret e s m args below meth c s₁ → c.maxLocals = maxL → c.exceptionTable.toList = [] → Pc args s →
      W p l e (headSpec ws rm).room s m args below meth c s.heap [] 0 0 (pt_TQ below E Qx s mc ms free) (entryFrame m args maxL)) : pt_Thr l y ws rm Pc E Qx mc ms free := by
  refine MetFree.of_bodyS (code := cc) (maxLocals := maxL) (ret := ret) hy ?_ ?_
  · intro args s m h hn
    obtain ⟨meth, c, h1, h2, h3, h4, h5, h6, -, -⟩ := Cond.code_spec hn (atoms_spec (ws := ws) h _ (by rw [hw]; exact List.mem_cons_self))
    exact ⟨meth, c, h1, h2, h3, h4, h5, h6⟩
  · intro p e s m args below meth c s₁ B hml hP _
    have hh0 : s₁.heap = s.heap := by rw [B.state]; rfl
    have ht : c.exceptionTable.toList = [] := by
      have hne := B.noHandlers (atoms_spec (ws := ws) B.pre _ (by rw [hw]; exact List.mem_cons_self))
      rw [Array.isEmpty_iff.mp hne]
    obtain ⟨t, a1, b1, q, ce, L, b2, b3⟩ := body p e s m args below meth c s₁ B hml ht hP s₁ hh0 (Stand.of_body B)
    exact ⟨t, .threw q, a1, b1, b2, q, ce, L, rfl, b3⟩
/-- the same frame, as if its method had been called just now -/
theorem pt_again {T : State} (X : Stand p l e R s m args below meth c T locs cells slots) {R' : Room} (hf : R'.frames = R.frames) (hl : R'.locals = R.locals) (hc : cells + R'.cells ≤ R.cells) (hs : slots + R'.slots ≤ R.slots) :
    Stand p l e R' ((T.setVm s.vm).setFrames (.invoking m args :: below)) m args below meth c T [] 0 0 := by
  have htop : (T.setVm s.vm).topJava?.isSome := X.here.top
  have hF : ((T.setVm s.vm).setFrames (.invoking m args :: below)).frames = .invoking m args :: below := State.frames_setFrames _ (State.cur_lt_of_top htop)
  have hlim : e.platform.stackLimits (T.setVm s.vm).me = e.platform.stackLimits s.me := X.limits
  have hbyt : (T.setVm s.vm).me.stackBytes = s.me.stackBytes := X.bytes
  have hroom : ((T.setVm s.vm).setFrames (.invoking m args :: below)).hasRoom e.platform R' = true := by
    have h := X.room
    have hu : ((T.setVm s.vm).setFrames (.invoking m args :: below)).localsInUse = s.localsInUse := by
      rw [State.localsInUse_invoking hF (meth := meth) (c := c) X.method X.code, State.localsInUse_invoking X.frames X.method X.code]
    have q1 := X.heapSize
    have q2 := X.used
    have hh : ((T.setVm s.vm).setFrames (.invoking m args :: below)).heap = T.heap := rfl
    have hsu : ((T.setVm s.vm).setFrames (.invoking m args :: below)).slotsUsed = T.slotsUsed := rfl
    have hst : ((T.setVm s.vm).setFrames (.invoking m args :: below)).slotsTrue = true := X.book
    simp only [State.hasRoom, Bool.and_eq_true, decide_eq_true_eq] at h ⊢
    obtain ⟨⟨⟨⟨h1, h2, h3, h4, h5, h6⟩, h7⟩, h8⟩, -⟩ := h
    rw [X.frames, List.length_cons] at h2 h3
    rw [hF, hu, hh, hsu, List.length_cons, State.stackLimits_setFrames, State.stackBytes_setFrames, hlim, hbyt]
    exact ⟨⟨⟨⟨by omega, by omega, by omega, by omega, by omega, h6⟩, by omega⟩, by omega⟩, hst⟩
  obtain ⟨g₀, hg0⟩ := Option.isSome_iff_exists.mp htop
  obtain ⟨r, hr⟩ := State.topJava?_eq_some.mp hg0
  obtain ⟨t, ht, -⟩ := State.frames_cons hr
  have hdrop : T.heap.toList.drop T.heap.size = [] := List.drop_eq_nil_of_le (Nat.le_of_eq Array.length_toList)
  refine ⟨X.admits, X.cas, X.clock, hF, hroom, X.hears, X.method, X.code, X.here, X.tail, X.warmed, ?_, ?_, ?_⟩
  · rw [State.stackLimits_setFrames]; rfl
  · rw [State.stackBytes_setFrames]; rfl
  · refine ⟨?_, Nat.le_refl _, Nat.le_refl _, ?_, ?_, fun a c9 h9 => ⟨c9, h9, rfl, rfl, fun _ _ => rfl⟩⟩
    · show T.setVm s.vm = { ((T.setVm s.vm).setFrames (.invoking m args :: below)).setFrames (T.setVm s.vm).frames with heap := T.heap, slotsUsed := T.slotsUsed }
      rw [State.setFrames_setFrames, State.setFrames_self ht]
      rfl
    · show T.slotsUsed = T.slotsUsed + ((T.heap.toList.drop T.heap.size).map (·.slots.size)).sum
      rw [hdrop]; rfl
    · show ((T.heap.toList.drop T.heap.size).map (·.slots.size)).sum ≤ 0
      rw [hdrop]; exact Nat.le_refl _
end PTA
/-- an E is no nm -/
def pt_nc (E nm : String) (s : State) : Prop := ∃ a b, s.vm.findClass E = some a ∧ s.vm.findClass nm = some b ∧ s.vm.assignable a b = false
theorem pt_nc.moved {E nm : String} {s U : State} (hvm : s.vm.Alike U.vm) (h : pt_nc E nm s) : pt_nc E nm U := by
  obtain ⟨a, b, h1, h2, h3⟩ := h
  exact ⟨a, b, by rw [hvm.findClass]; exact h1, by rw [hvm.findClass]; exact h2, by rw [hvm.assignable]; exact h3⟩
section PTB
variable {p : Program} {l : Launch} {e : Env} {R : Room} {s : State} {m : MethodId} {args : Array Value} {below : List Frame} {meth : Method} {c : Code} {H : Heap} {locs : List Loc} {cells slots : Nat} {Q : State → Prop}
variable {y : MethodName} {bytes cc : ByteArray} {maxL nL mc ms n index : Nat} {ret : Option FieldType} {ws : List Cond} {rm : Room} {Pc : Array Value → State → Prop} {E : String} {Qx : State → State → Prop} {free : Addr → Prop} {Ts : List Cond} {own C : String} {b : Addr} {As rest : List Value} {g : JFrame}
def pt_PostT (E : String) (Qx : State → State → Prop) (mc ms : Nat) (free : Addr → Prop) : Pt → Array Value → Addr → Pt → Prop := fun A _ q B =>
  ∃ (st t : State) (L : List Loc) (ce : Cell), st.heap = A.U.heap ∧ st.vm = A.U.vm ∧ B.U.heap = t.heap ∧ B.U.vm = t.vm ∧ Qx st t ∧ t.heap[q]? = some ce ∧ ce.vm = .none ∧ A.U.vm.findClass E = some ce.cls ∧ B.locs = A.locs ++ L ∧ (∀ z ∈ L, free z.base) ∧ B.cells = A.cells + mc ∧ B.slots = A.slots + ms
theorem pt_backT (cb : CallB R s args own index y bytes maxL ret ws rm mc ms n) (hM : pt_Thr l y ws rm Pc E Qx mc ms free) (hbl : FrameBlind Pc) : BackT l R p e below s args y 3 8 (PreOf R mc ms Pc) (pt_PostT E Qx mc ms free) := by
  obtain ⟨hrc, hrs, hfr, hlo, hws, hcw, -, hini, -⟩ := cb
  refine BackT.of_free (S := headSpec ws rm) (P := Pc) (K := fun _ _ _ _ _ => True) (bytes := bytes) (maxL := maxL) (ret := ret) (E := fun _ _ _ _ L k n => k = mc ∧ n = ms ∧ ∀ z ∈ L, free z.base) hM hfr hlo ?_ ?_ (fun _ _ _ _ _ _ _ _ _ => trivial) ?_ ?_
  · intro m meth c A a X hp
    exact ⟨atoms_intro fun w hw => hws w hw _ _ X.warmed, hws _ hcw _ _ X.warmed, word_at X.warmed (Or.inl (by first | rfl | simp [Cond.onTables, Cond.keeps, Cond.steady])) hini, by rw [show (headSpec ws rm).room.cells = mc from hrc]; exact hp.1, by rw [show (headSpec ws rm).room.slots = ms from hrs]; exact hp.2.1⟩
  · intro m meth c A a g mk X hp
    exact hbl _ _ _ _ hp.2.2
  · intro a st o t h
    obtain ⟨q, ce, L, ho, h1, h2, h3, h4, h5, h6⟩ := h
    exact ⟨L, mc, ms, h5, rfl, rfl, h6⟩
  · intro m meth c A a g mk v t L k n X hp hq hF hE
    obtain ⟨e1, e2, hL⟩ := hE
    subst e1; subst e2
    obtain ⟨q, ce, L', ho, h1, h2, h3, h4, -, -⟩ := hq
    cases ho
    exact ⟨A.U.calling g mk a, t, L, ce, rfl, rfl, rfl, rfl, h4, h1, h2, h3, rfl, hL, rfl, rfl⟩
/-- the call has come back with q thrown over the caller's frame -/
def pt_RunT (p : Program) (l : Launch) (e : Env) (R : Room) (s : State) (m : MethodId) (args : Array Value) (below : List Frame) (meth : Method) (c : Code) (H : Heap) (locs : List Loc) (cells slots mc ms : Nat) (g : JFrame) (rest : List Value) (E : String) (Qx : State → State → Prop) (free : Addr → Prop) : Prop :=
  ∀ T : State, T.heap = H → Stand p l e R s m args below meth c T locs cells slots →
    ∃ (q : Addr) (st t T' : State) (L : List Loc) (ce : Cell), st.heap = H ∧ s.WarmedH st.vm ∧ Stand p l e R s m args below meth c T' (locs ++ L) (cells + mc) (slots + ms) ∧ (∀ z ∈ L, free z.base) ∧ T'.heap = t.heap ∧ T'.vm = t.vm ∧ Qx st t ∧ t.heap[q]? = some ce ∧ ce.vm = .none ∧ s.vm.findClass E = some ce.cls ∧
      Steps p.tables e below (T.setTop g) ((T'.setTop { g with stack := rest }).pushFrame (.throwing q))
theorem pt_runT (S : CallFix p m c cc nL s args Ts own) (hM : pt_Thr l y ws rm Pc E Qx mc ms free) (cw : CallW R s args own C index y bytes maxL ret ws rm mc ms n) (hp : PreV s H C b Pc As)
    (hg : g.method = m) (hn : As.length = n) (hsize : g.locals.size = nL) (hstack : g.stack = As.reverse ++ .ref b :: rest) (hW : 2 * g.monitorRoom + (rest.map fun v => v.category).sum ≤ 8) (hdg : decode cc g.pc = .ok (.invokevirtual index, 3)) (hf : cells + mc ≤ R.cells ∧ slots + ms ≤ R.slots) :
    pt_RunT p l e R s m args below meth c H locs cells slots mc ms g rest E Qx free := by
  have hK : BackT l R p e below s args y 3 8 (PreOf R mc ms Pc) (pt_PostT E Qx mc ms free) := pt_backT cw.1 hM hp.1
  obtain ⟨⟨-, -, -, -, -, -, hcode, -, hy, hlen, hl⟩, hin, hse⟩ := cw
  obtain ⟨hx, hb, hml, ho, -⟩ := S
  obtain ⟨-, ⟨cellB, hcB, hoB, hclB⟩, hPc⟩ := hp
  intro T hT X
  obtain ⟨mk, methM, hnamed, hmethM, hstM, habM⟩ := Cond.instanceMethod_spec hin
  obtain ⟨methM', cM, hmethM', -, -, -, -, -, -, hsigM⟩ := Cond.code_spec hnamed hcode
  cases hmethM.symm.trans hmethM'
  obtain ⟨c2, r2, m2, q1, q2, q3, q4, kP, hkP, hkPi⟩ := Cond.selects_spec hse
  cases hclB.symm.trans q1
  cases (State.methodFound?_of_named hnamed hy).symm.trans q2
  cases hnamed.symm.trans q3
  have hselP : selectMethod e.platform s.vm cellB.cls mk = .method mk := by rw [Launch.admits_selectMethod X.admits]; exact q4
  obtain ⟨vm₁, X₁, hstep₁⟩ := X.invokevirtual hx ho hl hnamed hmethM hstM hkP hkPi hy (a := b) (cell := cellB) (by rw [hT]; exact hcB)
    (fun z h => by rw [h] at hoB; cases hoB) hselP hmethM habM hkP hkPi (g := g) hg (argsL := As) (rest := rest) (hn.trans (hlen _ hsigM)) hstack (by rw [hb]; exact hdg)
  obtain ⟨q, B, X', ⟨st, t, L, ce, h1, h2, h3, h4, h5, h6, h7, h8, h9, h10, h11, h12⟩, hsteps⟩ := hK m meth c ⟨T.setVm vm₁, locs, cells, slots⟩ { g with stack := rest } (.invokevirtual index) mk (Value.ref b :: As).toArray X₁ hg (hsize.trans hml.symm) (by rw [hb]; exact hdg) hW (X₁.named hnamed) ⟨hf.1, hf.2, hPc (T.setVm vm₁) hT X₁.warmed⟩
  obtain ⟨U', l2, c2, s2⟩ := B
  dsimp only [Pt.U, Pt.locs, Pt.cells, Pt.slots] at X' h1 h2 h3 h4 h8 h9 h11 h12 hsteps
  subst h9; subst h11; subst h12
  have h8' : (T.setVm vm₁).vm.findClass E = some ce.cls := h8
  rw [X₁.warmed.alike.findClass] at h8'
  exact ⟨q, st, t, U', L, ce, h1.trans hT, by rw [h2]; exact X₁.warmed, X', h10, h3, h4, h5, h6, h7, h8', hstep₁ _ fun acts => by rw [doInvoke_state]; exact hsteps⟩
/-- nobody catches it here: the caller throws it on -/
theorem pt_out {pc : Nat} {ls : Array Slot} {st0 : List Value} {Qy : State → State → Prop} {free' : Addr → Prop} {mc' ms' : Nat} (hr : pt_RunT p l e R s m args below meth c H locs cells slots mc ms (F0 m pc ls st0) rest E Qx free) (hout : c.exceptionTable.toList = []) (hlocks : meth.locks = false)
    (hq : ∀ st t t' : State, st.heap = H → s.WarmedH st.vm → Qx st t → t'.heap = t.heap → t'.vm = t.vm → Qy s t') (h1 : ∀ z ∈ locs, free' z.base) (h2 : ∀ z, free z → free' z) (hc : cells + mc ≤ mc') (hs : slots + ms ≤ ms') :
    W p l e R s m args below meth c H locs cells slots (pt_TQ below E Qy s mc' ms' free') (F0 m pc ls st0) := by
  intro T hT X
  obtain ⟨q, st, t, T', L, ce, h0, hal, X', hL, e1, e2, hq1, hce, hcv, hcl, st1⟩ := hr T hT X
  obtain ⟨st2, hrun, hend, hW, hsm⟩ := X'.leaveThrown q (g := F0 m pc ls rest) rfl rfl rfl (by rw [hout]; intro x hx; cases hx) hlocks
  refine ⟨_, st1.trans st2, hrun, q, ce, locs ++ L, hend, ?_, hcv, hcl, hq st t _ h0 hal hq1 e1 e2, ⟨⟨q, rfl⟩, hW, hsm.mono hc hs⟩, fun z hz => ?_⟩
  · show T'.heap[q]? = some ce
    rw [e1]; exact hce
  · rcases List.mem_append.mp hz with h | h
    · exact h1 z h
    · exact h2 _ (hL z h)
/-- it is caught by the row x of this method's table, behind rows that don't take it -/
theorem pt_catch {pc : Nat} {ls : Array Slot} {st0 : List Value} {name : String} (hr : pt_RunT p l e R s m args below meth c H locs cells slots mc ms (F0 m pc ls st0) rest E Qx free)
    (hown : s.vm.findClass own = some m.cls) (pre : List ExceptionTableEntry) (x : ExceptionTableEntry) (suf : List ExceptionTableEntry) (hsplit : c.exceptionTable.toList = pre ++ x :: suf)
    (hpass : ∀ z ∈ pre, z.catchType ≠ 0 ∧ ∃ nm : String, (Cond.classLink own z.catchType nm).before args s = true ∧ pt_nc E nm s)
    (hx : covers x pc = true) (h0 : x.catchType ≠ 0) (hlink : (Cond.classLink own x.catchType name).before args s = true) (hcast : (Cond.castable E name).before args s = true)
    (kk : ∀ (q : Addr) (st t : State) (H1 : Heap) (L : List Loc), st.heap = H → s.WarmedH st.vm → t.heap = H1 → s.vm.Alike t.vm → Qx st t → (∀ z ∈ L, free z.base) → W p l e R s m args below meth c H1 (locs ++ L) (cells + mc) (slots + ms) Q (F0 m x.handlerPc ls [.ref q])) :
    W p l e R s m args below meth c H locs cells slots Q (F0 m pc ls st0) := by
  intro T hT X
  obtain ⟨q, st, t, T', L, ce, h9, hal, X', hL, e1, e2, hq1, hce, hcv, hcl, st1⟩ := hr T hT X
  have hpl : e.platform.magicAccessors = ({} : Platform).magicAccessors := by rw [X.admits.platform]
  obtain ⟨c3, c4, hc3, hc4, hasg⟩ := Cond.castable_spec hcast
  cases Option.some.inj (hc3.symm.trans hcl)
  obtain ⟨hrow, hk0⟩ := X'.catches_of_link hown h0 hlink hc4 hasg
  obtain ⟨vm', X2, st2⟩ := X'.thenCaughtThrough q (g := F0 m pc ls rest) rfl st1 (by rw [e1]; exact hce) (by rw [hcv]; rfl) hk0 pre x suf hsplit
    (fun z hz => by
      obtain ⟨hz0, nm, hl1, a8, b8, i1, i2, i3⟩ := hpass z hz
      obtain ⟨c6, hc6, hcl6⟩ := Cond.classLink_spec hown hl1 e.platform hpl
      cases Option.some.inj (i1.symm.trans hcl)
      cases Option.some.inj (i2.symm.trans hc6)
      exact Or.inr ⟨hz0, _, hcl6, i3⟩) hx hrow
  obtain ⟨t2, a1, b1⟩ := kk q st t T'.heap L h9 hal e1.symm (by rw [← e2]; exact X'.warmed.alike) hq1 hL (T'.setVm vm') rfl X2
  exact ⟨t2, st2.trans a1, b1⟩
end PTB
section PTC
variable {p : Program} {l : Launch} {e : Env} {R : Room} {s : State} {m : MethodId} {args : Array Value} {below : List Frame} {meth : Method} {c : Code} {H : Heap} {locs : List Loc} {cells slots : Nat} {Q : State → Prop}
/-- 'throw new E("text")': new; dup; ldc; invokespecial; athrow: at a place that no row of the table covers -/
theorem pt_throwS {cc : ByteArray} {pc : Nat} {ls : Array Slot} {rest : List Value} (hexec : p.tables.exec = Jvm.exec) (hb : c.code = cc) (hl : l.stackTraces = false) {own cls text : String} {names : List String} {ik is ic sa mc ms : Nat} {Qx : State → State → Prop} {free : Addr → Prop}
    (hown : s.vm.findClass own = some m.cls) (hcls : Bundle.fit cls = true) (hnames : ∀ n ∈ names, Bundle.fit n = true)
    (hall : ∀ U : State, U.heap = H → U.vm = s.vm → ∀ w ∈ Cond.classLink own ik cls :: Cond.initialized cls :: Bundle.ownAtoms own ic cls names, w.before args U = true)
    (hstr : vk_R own is text sa s) (hsize : ls.size = c.maxLocals)
    (d0 : decode cc pc = .ok (.new ik, 3)) (d3 : decode cc (pc + 3) = .ok (.dup, 1)) (d4 : decode cc (pc + 4) = .ok (.ldc is, 2)) (d6 : decode cc (pc + 6) = .ok (.invokespecial ic, 3)) (d9 : decode cc (pc + 9) = .ok (.athrow, 1))
    (hout : c.exceptionTable.toList = [])
    (hRf : names.length + 3 < R.frames) (hRl : (rest.map fun v => v.category).sum + (13 * (names.length + 1) + 43) ≤ R.locals) (hRc : cells + 1 ≤ R.cells) (hRs : slots + 6 ≤ R.slots) (hlocks : meth.locks = false)
    (hq : ∀ t : State, s.WarmedH t.vm → H.size ≤ t.heap.size → (∀ q : Nat, q < H.size → t.heap[q]? = H[q]?) → Qx s t)
    (hf : ∀ z ∈ locs, free z.base) (hc : cells + 1 ≤ mc) (hs : slots + 6 ≤ ms) :
    W p l e R s m args below meth c H locs cells slots (pt_TQ below cls Qx s mc ms free) (F0 m pc ls rest) := by
  intro T hT X
  have htr : e.platform.stackTraces = false := (show e.platform.stackTraces = l.stackTraces by rw [X.admits.platform]).trans hl
  have Y := pt_again X (R' := { frames := R.frames, locals := R.locals, cells := 1, slots := 6 }) rfl rfl hRc hRs
  generalize hA : (T.setVm s.vm).setFrames (.invoking m args :: below) = s' at Y
  have hvm : s'.vm = s.vm := by rw [← hA]; rfl
  have hhp : s'.heap = H := by rw [← hA]; exact hT
  have hW0 : s.WarmedH s'.vm := by rw [hvm]; exact State.WarmedH.refl s
  have h := hall s' hhp hvm
  have hat : ∀ w ∈ Bundle.ownAtoms own ic cls names, w.before args s' = true := fun w hw => h w (List.mem_cons_of_mem _ (List.mem_cons_of_mem _ hw))
  have hown' : s'.vm.findClass own = some m.cls := by rw [hvm]; exact hown
  have hins : (Cond.instantiable cls 6).before args s' = true := hat _ (by simp [Bundle.ownAtoms])
  obtain ⟨vm₁, cX, kX, hfX, hkX, -, -, X₁, st1⟩ := Y.newCold hexec (own := own) (C := cls) (index := ik) (n := 6) hown' (h _ List.mem_cons_self) hins (h _ (List.mem_cons_of_mem _ List.mem_cons_self))
    (g := F0 m pc ls rest) rfl (by rw [hb]; exact d0) (Nat.le_refl _) (Nat.le_refl _)
  generalize hT1 : (T.setVm vm₁).pushCell { cls := cX, slots := kX.instanceTypes.map defaultValue, vm := .none } = T1 at X₁ st1
  have hcat : (Value.ref T.heap.size).category = 1 := rfl
  have hcell : T1.heap[T.heap.size]? = some (freshCell cX kX) := by rw [← hT1]; exact State.heap_pushCell_size _ _
  have d3' : decode c.code (pc + 3) = .ok (.dup, 1) := by rw [hb]; exact d3
  have d4' : decode c.code (pc + 4) = .ok (.ldc is, 2) := by rw [hb]; exact d4
  have hstr' : vk_R own is text sa s' := vk_R.warm hW0 hstr
  have hnew : s'.heap.size ≤ T.heap.size := by rw [hhp, hT]; exact Nat.le_refl _
  obtain ⟨U, hsteps, hrun, hend, hW, hsame, ce, hce, hO⟩ := X₁.ctorThrowS hexec htr (own := own) (cls := cls) (names := names) (ic := ic) hown' hcls hnames hat (fun x hx => nomatch hx) hfX hkX hcell hnew (msg := .ref sa) rfl
    (g := { method := m, pc := pc + 6, locals := ls, stack := .ref sa :: .ref T.heap.size :: .ref T.heap.size :: rest, locked := none }) rfl hsize rfl rfl (rest := rest) rfl
    (by rw [hb]; exact d6) (by rw [hb]; exact d9) (by rw [hout]; intro x hx; cases hx) hRf (by simp only [List.map_cons, List.sum_cons, hcat]; omega) hlocks
  have hWs : s.WarmedH U.vm := State.WarmedH.trans hW0 hW
  have hcl : s.vm.findClass cls = some ce.cls := by
    have h9 := hO.cls
    rw [hvm] at h9
    exact h9
  have hold : s'.heap.size ≤ U.heap.size ∧ ∀ q : Nat, q < s'.heap.size → U.heap[q]? = s'.heap[q]? := by
    obtain ⟨-, h2, -, -, -, h6⟩ := hsame
    refine ⟨h2, fun q hq => ?_⟩
    obtain ⟨c9, i1, i2, i3, i4⟩ := h6 q _ (Array.getElem?_eq_getElem hq)
    have hsl : c9.slots = (s'.heap[q]).slots := Array.ext_getElem? fun i => i4 i fun hm => nomatch hm
    have h9 : c9 = s'.heap[q] := by
      rw [hsl] at i2
      exact i2
    have e5 : U.heap[q]? = some c9 := i1
    rw [e5, h9, Array.getElem?_eq_getElem hq]
  rw [hhp] at hold
  have hall2 : s.sameButNew ({ U with vm := s.vm } : State) locs mc ms := by
    subst hA
    obtain ⟨e1, e2⟩ := hsame
    rw [State.setFrames_setFrames] at e1
    have h2 : (T.setVm s.vm).sameButNew ({ U with vm := s.vm } : State) [] (0 + 1) (0 + 6) := ⟨e1, e2⟩
    have h3 := X.same.trans h2
    rw [List.append_nil] at h3
    exact h3.mono hc hs
  refine ⟨U, ?_, hrun, T.heap.size, ce, locs, hend, hce, hO.vm, hcl, hq U hWs hold.1 hold.2, ⟨⟨_, rfl⟩, hWs, hall2⟩, hf⟩
  refine st1 _ ?_
  show Steps p.tables e below (T1.setTop { method := m, pc := pc + 3, locals := ls, stack := .ref T.heap.size :: rest, locked := none }) _
  jvm_step X₁.here [X₁.here.top, hexec, d3', Value.category]
  exact X₁.ldcString hexec (own := own) (text := text) (index := is) (a := sa) hown' hstr'.1 hstr'.2
    (g := { method := m, pc := pc + 4, locals := ls, stack := .ref T.heap.size :: .ref T.heap.size :: rest, locked := none }) rfl d4' _ hsteps
end PTC
section PTD
variable {p : Program} {l : Launch} {e : Env} {R : Room} {s : State} {m : MethodId} {args : Array Value} {below : List Frame} {meth : Method} {c : Code} {H : Heap} {locs : List Loc} {cells slots : Nat}
variable {y : MethodName} {bytes cc : ByteArray} {maxL nL mc ms n index : Nat} {ret : Option FieldType} {ws ws' : List Cond} {rm : Room} {Pc : Array Value → State → Prop} {Qc : Array Value → State → Outcome → State → Prop} {free : Addr → Prop} {Ts : List Cond} {own : String} {As rest : List Value} {g : JFrame} {hh : List (Nat × Nat × Nat × Nat)}
/-- a static call of a method that has handlers, and returns -/
theorem pt_runSW (S : CallFix p m c cc nL s args Ts own) (hM : Met l y ws rm Pc Qc mc ms free) (hT : GoodIn Ts (va_wsS own index y ws)) (hw : ws = Cond.codeWith y bytes maxL ret hh :: ws') (hrc : rm.cells = mc) (hrs : rm.slots = ms)
    (hd : y.cls ≠ "java/lang/invoke/MethodHandle" ∧ y.cls ≠ "java/lang/invoke/VarHandle" ∧ (parseMethodDescriptor y.desc).map (fun d => d.parameters.length) = some n) (hR : rm.frames + 1 ≤ R.frames ∧ 8 + (maxL + 11) + rm.locals ≤ R.locals) (hp : PreS s H Pc As)
    (hg : g.method = m) (hn : As.length = n) (hsize : g.locals.size = nL) (hstack : g.stack = As.reverse ++ rest) (hW : 2 * g.monitorRoom + (rest.map fun v => v.category).sum ≤ 8) (hdg : decode cc g.pc = .ok (.invokestatic index, 3)) (hf : cells + mc ≤ R.cells ∧ slots + ms ≤ R.slots) :
    va_Run p l e R s m args below meth c H locs cells slots mc ms g rest (Qc As.toArray) free := by
  obtain ⟨hx, hb, hml, ho, ht⟩ := S
  have ok : ∀ w ∈ va_wsS own index y ws, w.before args s = true := fun w h => ht w (hT w h).1
  have hG : GoodIn Ts ws := fun w h => hT w (by unfold va_wsS; exact List.mem_append_right _ h)
  have hcm : Cond.codeWith y bytes maxL ret hh ∈ ws := by rw [hw]; exact List.mem_cons_self
  have hini : (Cond.initialized y.cls).before args s = true := ok _ (by simp [va_wsS])
  have hlink : (Cond.methodLink own index y).before args s = true := ok _ (by simp [va_wsS])
  have hstat : (Cond.static y).before args s = true := ok _ (by simp [va_wsS])
  have hcode : (Cond.codeWith y bytes maxL ret hh).before args s = true := ht _ (hG _ hcm).1
  have hK : Back l R p e below s args y 3 8 (PreOf R mc ms Pc) (PostOf Qc mc ms free) :=
    va_backW (hh := hh) (bytes := bytes) (maxL := maxL) (ret := ret) hM hp.1 hrc hrs hR.1 hR.2 (pay_in ht hG) hcm (fun a' U hW => word_at hW (Or.inl (by first | rfl | simp [Cond.onTables, Cond.keeps, Cond.steady])) hini)
  intro T hT2 X
  obtain ⟨mk, methM, cM, hnamed, hmethM, -, -, -, -, -, -, hsigM⟩ := Cond.codeWith_spec hcode
  have hstatic : methM.isStatic = true := Cond.static_spec hnamed hmethM hstat
  obtain ⟨kP, hkP, -⟩ := className_of_methodNamed hnamed
  have hinitP : kP.init = .initialized := Cond.initialized_spec (findClass_of_methodNamed hnamed) hkP hini
  have hlen : As.length = methM.sig.parameters.length := by
    have h2 := hd.2.2
    rw [hsigM] at h2
    exact hn.trans (Option.some.inj h2).symm
  obtain ⟨vm₁, X₁, hstep₁⟩ := X.invokestatic hx ho hlink hnamed hmethM hstatic hkP hinitP ⟨hd.1, hd.2.1⟩ (g := g) hg (argsL := As) (rest := rest) hlen hstack (by rw [hb]; exact hdg)
  obtain ⟨v, B, X', ⟨g', mk', t, L, e1, e2, hq, h1, hL, h2, h3⟩, hsteps⟩ := hK m meth c ⟨T.setVm vm₁, locs, cells, slots⟩ { g with stack := rest } (.invokestatic index) mk As.toArray X₁ hg (hsize.trans hml.symm) (by rw [hb]; exact hdg) hW (X₁.named hnamed) ⟨hf.1, hf.2, hp.2 (T.setVm vm₁) hT2 X₁.warmed⟩
  obtain ⟨U', l2, c2, s2⟩ := B
  dsimp only [Pt.U, Pt.locs, Pt.cells, Pt.slots] at X' e1 e2 h1 h2 h3 hsteps
  subst h1; subst h2; subst h3
  exact ⟨v, (T.setVm vm₁).calling g' mk' As.toArray, t, U', L, hT2, X', hL, e1, e2, hq, fun target h => hstep₁ _ fun acts => by rw [doInvoke_state]; exact hsteps.trans h⟩
end PTD
end
section
/-! What the throws lean on: the words of the start s0, true wherever s0 has only been added to. -/
def pt_ext (s0 U : State) : Prop := s0.WarmedH U.vm ∧ s0.heap.size ≤ U.heap.size ∧ ∀ q : Nat, q < s0.heap.size → U.heap[q]? = s0.heap[q]?
theorem pt_ext.same {s0 s U : State} (h : pt_ext s0 s) (hU : U.heap = s.heap) (hW : s.WarmedH U.vm) : pt_ext s0 U :=
  ⟨State.WarmedH.trans h.1 hW, by rw [hU]; exact h.2.1, by rw [hU]; exact h.2.2⟩
theorem pt_ext.on {s0 s U : State} {A : Nat → Prop} {H : Heap} {locs : List Loc} (h : pt_ext s0 s) (hS : va_S A s.heap H locs) (hA : ∀ q : Nat, A q → s0.heap.size ≤ q) (hU : U.heap = H) (hV : U.vm = s.vm) : pt_ext s0 U :=
  ⟨by rw [hV]; exact h.1, by rw [hU]; exact Nat.le_trans h.2.1 hS.1, fun q hq => by
    rw [hU, hS.2.1 q (Nat.lt_of_lt_of_le hq h.2.1) (fun z => Nat.not_lt.mpr (hA q z) hq)]
    exact h.2.2 q hq⟩
theorem pt_ext.on2 {s0 s U : State} {A : Nat → Prop} {H : Heap} {locs : List Loc} (h : pt_ext s0 s) (hS : va_S A s.heap H locs) (hA : ∀ q : Nat, A q → s0.heap.size ≤ q) (hU : U.heap = H) (hW : s.WarmedH U.vm) : pt_ext s0 U :=
  ⟨State.WarmedH.trans h.1 hW, by rw [hU]; exact Nat.le_trans h.2.1 hS.1, fun q hq => by
    rw [hU, hS.2.1 q (Nat.lt_of_lt_of_le hq h.2.1) (fun z => Nat.not_lt.mpr (hA q z) hq)]
    exact h.2.2 q hq⟩
theorem pt_As {s0 : State} {ws : va_W} {sz : Nat} (hD : va_D (fun q => s0.heap.size ≤ q) ws) (hsz : s0.heap.size ≤ sz) : ∀ q : Nat, va_A ws sz q → s0.heap.size ≤ q := fun q h => by
  rcases h with ⟨k, e, hk⟩ | h
  · exact hD.2 k _ hk
  · exact Nat.le_trans hsz h
theorem pt_S_thrown {A : Nat → Prop} {s t : State} {H : Heap} {locs : List Loc} (hS : va_S A s.heap H locs) (hz : H.size ≤ t.heap.size) (hk : ∀ q : Nat, q < H.size → t.heap[q]? = H[q]?) : va_F A s t :=
  ⟨Nat.le_trans hS.1 hz, fun q h1 h2 => by rw [hk q (Nat.lt_of_lt_of_le h1 hS.1)]; exact hS.2.1 q h1 h2⟩
theorem pt_F_same {A : Nat → Prop} {st s t t2 : State} (h1 : st.heap = s.heap) (h4 : t2.heap = t.heap) (h : va_F A st t) : va_F A s t2 :=
  ⟨by rw [h4, ← h1]; exact h.1, fun q a b => by rw [h4, ← h1]; exact h.2 q (by rw [h1]; exact a) b⟩
theorem pt_S_call {A A1 : Nat → Prop} {H0 H H1 : Heap} {locs L : List Loc} {st t : State} (hS : va_S A H0 H locs) (hA : ∀ q, A1 q → A q) (h1 : st.heap = H) (h3 : t.heap = H1) (hF : va_F A1 st t) (hL : ∀ z ∈ L, A1 z.base) :
    va_S A H0 H1 (locs ++ L) ∧ H.size ≤ H1.size ∧ ∀ q : Nat, q < H.size → ¬ A1 q → H1[q]? = H[q]? := by
  obtain ⟨hz, hk⟩ := hF
  rw [h1, h3] at hz hk
  refine ⟨⟨Nat.le_trans hS.1 hz, fun q a b => ?_, fun z hz2 => ?_⟩, hz, hk⟩
  · rw [hk q (Nat.lt_of_lt_of_le a hS.1) (fun z => b (hA q z))]; exact hS.2.1 q a b
  · rcases List.mem_append.mp hz2 with h | h
    · exact hS.2.2 z h
    · exact hA _ (hL z h)
/-- the table of a body with handlers -/
theorem pt_table {p : Program} {l : Launch} {y : MethodName} {S : Spec} {cc bytes : ByteArray} {maxL maxL' : Nat} {ret ret' : Option FieldType} {e : Env} {s s₁ : State} {m : MethodId} {args : Array Value} {below : List Frame} {meth : Method} {c : Code} {hh : List (Nat × Nat × Nat × Nat)}
    (B : BodyLoose p l y S cc maxL ret e s m args below meth c s₁) (h : (Cond.codeWith y bytes maxL' ret' hh).before args s = true) : c.exceptionTable.toList = tableOf hh := by
  obtain ⟨m9, meth9, c9, hn9, h1, h2, -, -, h6, -⟩ := Cond.codeWith_spec h
  cases Option.some.inj (hn9.symm.trans B.named)
  cases Option.some.inj (h1.symm.trans B.method)
  cases Option.some.inj (h2.symm.trans (Stand.of_body B).code)
  rw [← h6, table_eq]
/-- the two static fields that a new exception reads, and what lays them -/
theorem pt_stat_ext {s0 U : State} {a a' : Array Value} {C n d : String} (hx : pt_ext s0 U) (hl : (Cond.laysStatic C n d).before a s0 = true) :
    (Cond.laysStatic C n d).before a' U = true ∧ ((Cond.isRef (.static C n d)).before a s0 = true → (Cond.isRef (.static C n d)).before a' U = true) := by
  obtain ⟨c, k, i, f, ad, cell, h1, h2, h3, h4, h5, h6, h7, h8, h9⟩ := Cond.laysStatic_spec hl
  have hvm := hx.1.alike
  obtain ⟨k', hi', he⟩ := State.fieldFound?_setVm hvm h2
  have hi2 : U.fieldFound? C n d = some (c, k', i, f) := hi'
  have h5' : U.heap[ad]? = some cell := by rw [hx.2.2 ad (Array.getElem?_eq_some_iff.mp h5).1]; exact h5
  have h4' : k'.statics = some ad := by rw [he]; exact h4
  refine ⟨?_, fun h => ?_⟩
  · show (Cond.laysStatic C n d).holds a' U none U [] = true
    exact Cond.laysStatic_of (by rw [hvm.findClass]; exact h1) hi2 h3 h4' h5' h6 h7 h8 (by rw [he]; exact h9)
  · have e0 : (Term.static C n d).eval a s0 none [] s0 = cell.slots[f.slot]? := by simp [Term.eval, State.fieldNamed?, h2, h3, h4, h5, h6]
    have e1 : (Term.static C n d).eval a' U none [] U = cell.slots[f.slot]? := by simp [Term.eval, State.fieldNamed?, hi2, h3, h4', h5', h6]
    simp only [Cond.before, Cond.holds, Cond.value] at h ⊢
    rw [e0] at h
    rw [e1]
    exact h
/-- the words of the three throws -/
abbrev pt_exn : List String := ["java/lang/RuntimeException", "java/lang/Exception"]
def pt_xw : List Cond := (Cond.classLink RX0 37 "java/lang/IllegalArgumentException" :: Cond.initialized "java/lang/IllegalArgumentException" :: Bundle.ownAtoms RX0 41 "java/lang/IllegalArgumentException" pt_exn) ++
  (Cond.classLink RX0 99 "java/lang/IllegalStateException" :: Cond.initialized "java/lang/IllegalStateException" :: Bundle.ownAtoms RX0 103 "java/lang/IllegalStateException" pt_exn) ++
  (Cond.classLink RX0 80 "java/util/NoSuchElementException" :: Cond.initialized "java/util/NoSuchElementException" :: Bundle.ownAtoms RX0 84 "java/util/NoSuchElementException" pt_exn)
def pt_strs : List (Nat × String) := [(39, "a length is 1 to 64 bits"), (52, "the digits are below 0"), (82, "no free word from this one on"), (85, "what is 0, 1 or 2"), (95, "want is 1 where care is not"), (97, "no pattern of this number"), (101, "512 patterns are there"), (104, "clashes with a pattern")]
def pt_ncs : List (String × String) := [("java/lang/IllegalStateException", "java/lang/IllegalArgumentException"), ("java/util/NoSuchElementException", "java/lang/IllegalArgumentException")]
/-- what the throws need of the start -/
def pt_X (s0 : State) : Prop := (∀ w ∈ pt_xw, w.before #[] s0 = true) ∧ (∀ (k : Nat) (tx : String), (k, tx) ∈ pt_strs → ∃ a, vk_R RX0 k tx a s0) ∧ ∀ E nm : String, (E, nm) ∈ pt_ncs → pt_nc E nm s0
theorem pt_xw_in_iae : ∀ w ∈ Cond.classLink RX0 37 "java/lang/IllegalArgumentException" :: Cond.initialized "java/lang/IllegalArgumentException" :: Bundle.ownAtoms RX0 41 "java/lang/IllegalArgumentException" pt_exn, w ∈ pt_xw := fun _ h => List.mem_append_left _ (List.mem_append_left _ h)
theorem pt_xw_in_ise : ∀ w ∈ Cond.classLink RX0 99 "java/lang/IllegalStateException" :: Cond.initialized "java/lang/IllegalStateException" :: Bundle.ownAtoms RX0 103 "java/lang/IllegalStateException" pt_exn, w ∈ pt_xw := fun _ h => List.mem_append_left _ (List.mem_append_right _ h)
theorem pt_xw_in_nse : ∀ w ∈ Cond.classLink RX0 80 "java/util/NoSuchElementException" :: Cond.initialized "java/util/NoSuchElementException" :: Bundle.ownAtoms RX0 84 "java/util/NoSuchElementException" pt_exn, w ∈ pt_xw := fun _ h => List.mem_append_right _ h
/-- a word that the tables decide, and that warmer tables keep -/
def pt_tw (w : Cond) : Bool := w.onTables && w.keepsFace
theorem pt_tw_at {s0 U : State} {a a' : Array Value} {w : Cond} (hW : s0.WarmedH U.vm) (hw : pt_tw w = true) (h : w.before a s0 = true) : w.before a' U = true := by
  simp only [pt_tw, Bool.and_eq_true] at hw
  have h1 : w.before a (s0.setVm U.vm) = true := Cond.before_shiftedFace (State.Shifted.of_warmed hW) w hw.2 h
  rw [Cond.onTables_vm (A' := a') (U' := U) U.vm w hw.1, State.setVm_self] at h1
  exact h1
abbrev pt_hw : List Cond := [.laysStatic Bundle.tN "UNASSIGNED_STACK" Bundle.steD, .laysStatic Bundle.tN "SUPPRESSED_SENTINEL" Bundle.listD, .isRef (.static Bundle.tN "UNASSIGNED_STACK" Bundle.steD), .isRef (.static Bundle.tN "SUPPRESSED_SENTINEL" Bundle.listD)]
theorem pt_xw_all : ∀ w ∈ pt_xw, pt_tw w = true ∨ w ∈ pt_hw := by decide +kernel
theorem pt_hw_in : ∀ w ∈ pt_hw, w ∈ pt_xw := by decide +kernel
theorem pt_X_at {s0 U : State} (h : pt_X s0) (hx : pt_ext s0 U) (w : Cond) (hw : w ∈ pt_xw) (a : Array Value) : w.before a U = true := by
  rcases pt_xw_all w hw with h1 | h1
  · exact pt_tw_at hx.1 h1 (h.1 w hw)
  · have g := fun v hv => h.1 v (pt_hw_in v hv)
    simp only [pt_hw, List.mem_cons, List.not_mem_nil, or_false] at h1
    rcases h1 with rfl | rfl | rfl | rfl
    · exact (pt_stat_ext hx (g _ (by decide))).1
    · exact (pt_stat_ext hx (g _ (by decide))).1
    · exact (pt_stat_ext hx (g (.laysStatic Bundle.tN "UNASSIGNED_STACK" Bundle.steD) (by decide))).2 (g _ (by decide))
    · exact (pt_stat_ext hx (g (.laysStatic Bundle.tN "SUPPRESSED_SENTINEL" Bundle.listD) (by decide))).2 (g _ (by decide))
end
section
/-! What each call does, to the class and to the reference alike: number thrown, answer, rows behind it. -/
abbrev pt_st : Type := Nat × Nat × (Nat → Int64) × (Nat → Int64) × Int32 × Int32
def pt_Rclear (k n : Nat) (fc fv : Nat → Int64) (cl su : Int32) (x t : Int32) (u : pt_st) : Prop :=
  ((x < 1 ∨ ¬ x ≤ 64) ∧ t = 1 ∧ u = (k, n, fc, fv, cl, su)) ∨ ∃ a : Nat, 1 ≤ a ∧ a ≤ 64 ∧ x = nI a ∧ t = 0 ∧ u = (0, a, fc, fv, cl, su)
def pt_Rapp (k n : Nat) (fc fv : Nat → Int64) (cl su : Int32) (a b : Int64) (t : Int32) (o : Int64) (u : pt_st) : Prop :=
  (k = 512 ∧ t = 2 ∧ u = (k, n, fc, fv, -1, su)) ∨
  (k < 512 ∧ ∃ r : Int32, pt_F (fun j => pt_sh (fc j) (fv j) a b) k r ∧ ¬ r = -1 ∧ t = 2 ∧ u = (k, n, fc, fv, r, su)) ∨
  (k < 512 ∧ (∀ j, j < k → ¬ pt_sh (fc j) (fv j) a b) ∧ t = 0 ∧ o = (nI k).toInt64 ∧ u = (k + 1, n, vp_updL fc k a, vp_updL fv k b, cl, su))
def pt_Radd (k n : Nat) (fc fv : Nat → Int64) (cl su : Int32) (a b : Int64) (t : Int32) (o : Int64) (u : pt_st) : Prop :=
  (pt_stray n a b ∧ t = 1 ∧ u = (k, n, fc, fv, cl, su)) ∨ (¬ pt_stray n a b ∧ pt_Rapp k n fc fv cl su (a &&& pt_mk n) (b &&& pt_mk n) t o u)
def pt_Rsigns (k n : Nat) (fc fv : Nat → Int64) (cl su : Int32) (x : Int64) (t : Int32) (o : Int64) (u : pt_st) : Prop :=
  (x < 0 ∧ t = 1 ∧ u = (k, n, fc, fv, cl, su)) ∨ ∃ D : Nat, D < 2 ^ 63 ∧ x = lN D ∧ pt_Rapp k n fc fv cl su (pt_sc D 40 &&& pt_mk n) (pt_sw D 40 &&& pt_mk n) t o u
def pt_Rdrop (k n : Nat) (fc fv : Nat → Int64) (cl su : Int32) (x t : Int32) (u : pt_st) : Prop :=
  ((x < 0 ∨ ¬ x < nI k) ∧ t = 1 ∧ u = (k, n, fc, fv, cl, su)) ∨ ∃ i : Nat, i < k ∧ x = nI i ∧ t = 0 ∧ u = (k - 1, n, pt_mv fc i k, pt_mv fv i k, cl, su)
def pt_Rmeets (k n : Nat) (fc fv : Nat → Int64) (a b : Int64) (t : Int32) (o : Int64) : Prop :=
  (pt_stray n a b ∧ t = 1) ∨ (¬ pt_stray n a b ∧ t = 0 ∧ ∃ r : Int32, pt_F (fun j => pt_sh (fc j) (fv j) (a &&& pt_mk n) (b &&& pt_mk n)) k r ∧ o = r.toInt64)
def pt_Rfree (k n : Nat) (fc fv : Nat → Int64) (a b : Int64) (t : Int32) (o : Int64) : Prop :=
  (pt_stray n a b ∧ t = 1) ∨ (¬ pt_stray n a b ∧ t = 0 ∧ o = pt_fw n fc fv (a &&& pt_mk n) (b &&& pt_mk n) k)
def pt_Rnext (k n : Nat) (fc fv : Nat → Int64) (a : Int64) (t : Int32) (o : Int64) : Prop :=
  ((∀ j, j < k → ¬ pt_sh (fc j) (fv j) (pt_mk n) (a &&& pt_mk n)) ∧ t = 0 ∧ o = a &&& pt_mk n) ∨
  ((¬ ∀ j, j < k → ¬ pt_sh (fc j) (fv j) (pt_mk n) (a &&& pt_mk n)) ∧
    ((∃ i : Nat, i < n ∧ pt_N k n fc fv (a &&& pt_mk n) i ∧ (∀ j, j < i → ¬ pt_N k n fc fv (a &&& pt_mk n) j) ∧ t = 0 ∧ o = pt_lf k n fc fv i (pt_rs n (a &&& pt_mk n) i)) ∨
     ((∀ j, j < n → ¬ pt_N k n fc fv (a &&& pt_mk n) j) ∧ t = 1)))
def pt_Rtold (k n : Nat) (fc fv : Nat → Int64) (y x t : Int32) (o : Int64) : Prop :=
  ((x < 0 ∨ ¬ x ≤ 2) ∧ t = 1) ∨ (¬ x < 0 ∧ x ≤ 2 ∧ (y < 0 ∨ ¬ y < nI k) ∧ t = 2) ∨
  ∃ i : Nat, i < k ∧ y = nI i ∧ ¬ x < 0 ∧ x ≤ 2 ∧ t = 0 ∧ o = (if x = 0 then fc i else if x = 1 then fv i else (nI n - pt_bits (fc i)).toInt64)
theorem pt_Rclear_det {k n : Nat} {fc fv : Nat → Int64} {cl su x t t' : Int32} {u u' : pt_st} (h : pt_Rclear k n fc fv cl su x t u) (h' : pt_Rclear k n fc fv cl su x t' u') : t = t' ∧ u = u' := by
  have no : ∀ a : Nat, 1 ≤ a → a ≤ 64 → ¬ (nI a < 1 ∨ ¬ nI a ≤ 64) := fun a h1 h2 z => z.elim (fun z => nI_nlt (b := 1) h1 (by omega) z) (fun z => z (nI_le (b := 64) h2 (by decide)))
  rcases h with ⟨hb, rfl, rfl⟩ | ⟨a, h1, h2, rfl, rfl, rfl⟩
  · rcases h' with ⟨-, rfl, rfl⟩ | ⟨a', g1, g2, rfl, -, -⟩
    · exact ⟨rfl, rfl⟩
    · exact absurd hb (no a' g1 g2)
  · rcases h' with ⟨hb, -, -⟩ | ⟨a', g1, g2, e, rfl, rfl⟩
    · exact absurd hb (no a h1 h2)
    · have e := (nI_eq (by omega) (by omega)).mp e
      subst e
      exact ⟨rfl, rfl⟩
theorem pt_Rapp_det {k n : Nat} {fc fv : Nat → Int64} {cl su : Int32} {a b : Int64} {t t' : Int32} {o o' : Int64} {u u' : pt_st} (hk : k ≤ 512) (h : pt_Rapp k n fc fv cl su a b t o u) (h' : pt_Rapp k n fc fv cl su a b t' o' u') : t = t' ∧ u = u' ∧ (t = 0 → o = o') := by
  rcases h with ⟨e1, rfl, rfl⟩ | ⟨e1, r, hF, hr, rfl, rfl⟩ | ⟨e1, hno, rfl, rfl, rfl⟩
  · rcases h' with ⟨-, rfl, rfl⟩ | ⟨g, -⟩ | ⟨g, -⟩
    · exact ⟨rfl, rfl, fun z => absurd z (by decide)⟩
    · omega
    · omega
  · rcases h' with ⟨g, -⟩ | ⟨-, r', hF', -, rfl, rfl⟩ | ⟨-, hno', -⟩
    · omega
    · rw [pt_F_unique (fun _ _ => Iff.rfl) hF hF']
      exact ⟨rfl, rfl, fun z => absurd z (by decide)⟩
    · exact absurd ((pt_F_none hk hF).mpr hno') hr
  · rcases h' with ⟨g, -⟩ | ⟨-, r', hF', hr', -⟩ | ⟨-, -, rfl, rfl, rfl⟩
    · omega
    · exact absurd ((pt_F_none hk hF').mpr hno) hr'
    · exact ⟨rfl, rfl, fun _ => rfl⟩
theorem pt_Radd_det {k n : Nat} {fc fv : Nat → Int64} {cl su : Int32} {a b : Int64} {t t' : Int32} {o o' : Int64} {u u' : pt_st} (hk : k ≤ 512) (h : pt_Radd k n fc fv cl su a b t o u) (h' : pt_Radd k n fc fv cl su a b t' o' u') : t = t' ∧ u = u' ∧ (t = 0 → o = o') := by
  rcases h with ⟨hs, rfl, rfl⟩ | ⟨hs, h⟩
  · rcases h' with ⟨-, rfl, rfl⟩ | ⟨hs', -⟩
    · exact ⟨rfl, rfl, fun z => absurd z (by decide)⟩
    · exact absurd hs hs'
  · rcases h' with ⟨hs', -⟩ | ⟨-, h'⟩
    · exact absurd hs' hs
    · exact pt_Rapp_det hk h h'
theorem pt_Rsigns_det {k n : Nat} {fc fv : Nat → Int64} {cl su : Int32} {x : Int64} {t t' : Int32} {o o' : Int64} {u u' : pt_st} (hk : k ≤ 512) (h : pt_Rsigns k n fc fv cl su x t o u) (h' : pt_Rsigns k n fc fv cl su x t' o' u') : t = t' ∧ u = u' ∧ (t = 0 → o = o') := by
  have no : ∀ D : Nat, D < 2 ^ 63 → ¬ lN D < 0 := fun D hD z => absurd ((pk_lLT (b := 0) hD (by decide)).mp z) (Nat.not_lt_zero _)
  rcases h with ⟨hs, rfl, rfl⟩ | ⟨D, hD, rfl, h⟩
  · rcases h' with ⟨-, rfl, rfl⟩ | ⟨D, hD, rfl, -⟩
    · exact ⟨rfl, rfl, fun z => absurd z (by decide)⟩
    · exact absurd hs (no D hD)
  · rcases h' with ⟨hs', -⟩ | ⟨D', hD', e, h'⟩
    · exact absurd hs' (no D hD)
    · have e := (pk_lEQ hD hD').mp e
      subst e
      exact pt_Rapp_det hk h h'
theorem pt_Rdrop_det {k n : Nat} {fc fv : Nat → Int64} {cl su x t t' : Int32} {u u' : pt_st} (hk : k ≤ 512) (h : pt_Rdrop k n fc fv cl su x t u) (h' : pt_Rdrop k n fc fv cl su x t' u') : t = t' ∧ u = u' := by
  have no : ∀ i : Nat, i < k → ¬ (nI i < 0 ∨ ¬ nI i < nI k) := fun i h1 z => z.elim (fun z => nI_pos (by omega) z) (fun z => z (nI_lt h1 (by omega)))
  rcases h with ⟨hb, rfl, rfl⟩ | ⟨i, h1, rfl, rfl, rfl⟩
  · rcases h' with ⟨-, rfl, rfl⟩ | ⟨i, g1, rfl, -, -⟩
    · exact ⟨rfl, rfl⟩
    · exact absurd hb (no i g1)
  · rcases h' with ⟨hb, -, -⟩ | ⟨i', g1, e, rfl, rfl⟩
    · exact absurd hb (no i h1)
    · have e := (nI_eq (by omega) (by omega)).mp e
      subst e
      exact ⟨rfl, rfl⟩
theorem pt_Rmeets_det {k n : Nat} {fc fv : Nat → Int64} {a b : Int64} {t t' : Int32} {o o' : Int64} (h : pt_Rmeets k n fc fv a b t o) (h' : pt_Rmeets k n fc fv a b t' o') : t = t' ∧ (t = 0 → o = o') := by
  rcases h with ⟨hs, rfl⟩ | ⟨hs, rfl, r, hF, rfl⟩
  · rcases h' with ⟨-, rfl⟩ | ⟨hs', -⟩
    · exact ⟨rfl, fun z => absurd z (by decide)⟩
    · exact absurd hs hs'
  · rcases h' with ⟨hs', -⟩ | ⟨-, rfl, r', hF', rfl⟩
    · exact absurd hs' hs
    · exact ⟨rfl, fun _ => by rw [pt_F_unique (fun _ _ => Iff.rfl) hF hF']⟩
theorem pt_Rfree_det {k n : Nat} {fc fv : Nat → Int64} {a b : Int64} {t t' : Int32} {o o' : Int64} (h : pt_Rfree k n fc fv a b t o) (h' : pt_Rfree k n fc fv a b t' o') : t = t' ∧ (t = 0 → o = o') := by
  rcases h with ⟨hs, rfl⟩ | ⟨hs, rfl, rfl⟩
  · rcases h' with ⟨-, rfl⟩ | ⟨hs', -⟩
    · exact ⟨rfl, fun z => absurd z (by decide)⟩
    · exact absurd hs hs'
  · rcases h' with ⟨hs', -⟩ | ⟨-, rfl, rfl⟩
    · exact absurd hs' hs
    · exact ⟨rfl, fun _ => rfl⟩
theorem pt_Rnext_det {k n : Nat} {fc fv : Nat → Int64} {a : Int64} {t t' : Int32} {o o' : Int64} (h : pt_Rnext k n fc fv a t o) (h' : pt_Rnext k n fc fv a t' o') : t = t' ∧ (t = 0 → o = o') := by
  rcases h with ⟨hf, rfl, rfl⟩ | ⟨hf, ⟨i, hi, hN, hm, rfl, rfl⟩ | ⟨hN, rfl⟩⟩
  · rcases h' with ⟨-, rfl, rfl⟩ | ⟨hf', -⟩
    · exact ⟨rfl, fun _ => rfl⟩
    · exact absurd hf hf'
  · rcases h' with ⟨hf', -⟩ | ⟨-, ⟨i', hi', hN', hm', rfl, rfl⟩ | ⟨hN', -⟩⟩
    · exact absurd hf' hf
    · rcases Nat.lt_trichotomy i i' with z | z | z
      · exact absurd hN (hm' i z)
      · subst z; exact ⟨rfl, fun _ => rfl⟩
      · exact absurd hN' (hm i' z)
    · exact absurd hN (hN' i hi)
  · rcases h' with ⟨hf', -⟩ | ⟨-, ⟨i', hi', hN', hm', rfl, rfl⟩ | ⟨hN', rfl⟩⟩
    · exact absurd hf' hf
    · exact absurd hN' (hN i' hi')
    · exact ⟨rfl, fun z => absurd z (by decide)⟩
theorem pt_Rtold_det {k n : Nat} {fc fv : Nat → Int64} {y x t t' : Int32} {o o' : Int64} (hk : k ≤ 512) (h : pt_Rtold k n fc fv y x t o) (h' : pt_Rtold k n fc fv y x t' o') : t = t' ∧ (t = 0 → o = o') := by
  have nx : ¬ x < 0 → x ≤ 2 → ¬ (x < 0 ∨ ¬ x ≤ 2) := fun h1 h2 z => z.elim h1 (fun z => z h2)
  have no : ∀ i : Nat, i < k → ¬ (nI i < 0 ∨ ¬ nI i < nI k) := fun i h1 z => z.elim (fun z => nI_pos (by omega) z) (fun z => z (nI_lt h1 (by omega)))
  rcases h with ⟨hb, rfl⟩ | ⟨h1, h2, ha, rfl⟩ | ⟨i, hi, rfl, h1, h2, rfl, rfl⟩
  · rcases h' with ⟨-, rfl⟩ | ⟨g1, g2, -, -⟩ | ⟨i, -, -, g1, g2, -, -⟩
    · exact ⟨rfl, fun z => absurd z (by decide)⟩
    · exact absurd hb (nx g1 g2)
    · exact absurd hb (nx g1 g2)
  · rcases h' with ⟨hb, -⟩ | ⟨-, -, -, rfl⟩ | ⟨i, hi, rfl, -, -, -, -⟩
    · exact absurd hb (nx h1 h2)
    · exact ⟨rfl, fun z => absurd z (by decide)⟩
    · exact absurd ha (no i hi)
  · rcases h' with ⟨hb, -⟩ | ⟨-, -, ha, -⟩ | ⟨i', hi', e, -, -, rfl, rfl⟩
    · exact absurd hb (nx h1 h2)
    · exact absurd ha (no i hi)
    · have e := (nI_eq (by omega) (by omega)).mp e
      subst e
      exact ⟨rfl, fun _ => rfl⟩
/-- the rows stay as they must -/
abbrev pt_Iu (u : pt_st) : Prop := pt_I u.1 u.2.1 u.2.2.1 u.2.2.2.1
theorem pt_Rclear_I {k n : Nat} {fc fv : Nat → Int64} {cl su x t : Int32} {u : pt_st} (hI : pt_I k n fc fv) (h : pt_Rclear k n fc fv cl su x t u) : pt_Iu u := by
  rcases h with ⟨-, -, rfl⟩ | ⟨a, h1, h2, -, -, rfl⟩
  · exact hI
  · exact pt_I_0 h1 h2
theorem pt_Rapp_I {k n : Nat} {fc fv : Nat → Int64} {cl su : Int32} {a b : Int64} {t : Int32} {o : Int64} {u : pt_st} (hI : pt_I k n fc fv) (hab : ¬ pt_stray n a b) (h : pt_Rapp k n fc fv cl su (a &&& pt_mk n) (b &&& pt_mk n) t o u) : pt_Iu u := by
  rcases h with ⟨-, -, rfl⟩ | ⟨-, r, -, -, -, rfl⟩ | ⟨hk, hno, -, -, rfl⟩
  · exact hI
  · exact hI
  · exact pt_I_add hI hk (Classical.not_not.mp hab) hno
theorem pt_Radd_I {k n : Nat} {fc fv : Nat → Int64} {cl su : Int32} {a b : Int64} {t : Int32} {o : Int64} {u : pt_st} (hI : pt_I k n fc fv) (h : pt_Radd k n fc fv cl su a b t o u) : pt_Iu u := by
  rcases h with ⟨-, -, rfl⟩ | ⟨hs, h⟩
  · exact hI
  · exact pt_Rapp_I hI hs h
theorem pt_signs_fit (D i n : Nat) (hi : i ≤ 40) : ¬ pt_stray n (pt_sc D i) (pt_sw D i) := by
  unfold pt_stray
  rw [pt_sw_sc D i hi]
  intro z
  exact z (by apply pt_b_ext; intro j _; rw [pt_b_and, pt_b_0]; rfl)
theorem pt_Rsigns_I {k n : Nat} {fc fv : Nat → Int64} {cl su : Int32} {x : Int64} {t : Int32} {o : Int64} {u : pt_st} (hI : pt_I k n fc fv) (h : pt_Rsigns k n fc fv cl su x t o u) : pt_Iu u := by
  rcases h with ⟨-, -, rfl⟩ | ⟨D, -, -, h⟩
  · exact hI
  · exact pt_Rapp_I hI (pt_signs_fit D 40 n (Nat.le_refl _)) h
theorem pt_Rdrop_I {k n : Nat} {fc fv : Nat → Int64} {cl su x t : Int32} {u : pt_st} (hI : pt_I k n fc fv) (h : pt_Rdrop k n fc fv cl su x t u) : pt_Iu u := by
  rcases h with ⟨-, -, rfl⟩ | ⟨i, hi, -, -, rfl⟩
  · exact hI
  · exact pt_I_drop hI hi
theorem pt_Rsigns_of {k n : Nat} {fc fv : Nat → Int64} {cl su : Int32} {D M : Nat} {t : Int32} {o : Int64} {u : pt_st} (hn1 : 1 ≤ n) (hn2 : n ≤ 64) (hM : M = pt_sn n) (h : pt_Radd k n fc fv cl su (pt_sc D M) (pt_sw D M) t o u) :
    pt_Rapp k n fc fv cl su (pt_sc D 40 &&& pt_mk n) (pt_sw D 40 &&& pt_mk n) t o u := by
  rcases h with ⟨hs, -⟩ | ⟨-, h⟩
  · exact absurd hs (pt_signs_fit D M n (by rw [hM]; unfold pt_sn; split <;> omega))
  · obtain ⟨e1, e2⟩ := pt_signs (d := D) hn1 hn2
    rw [hM, e1, e2] at h
    exact h
end
section
theorem dX0_init_0 : decode cX0_init 0 = .ok (.aload_n 0, 1) := by decide +kernel
theorem dX0_init_1 : decode cX0_init 1 = .ok (.invokespecial 1, 3) := by decide +kernel
theorem dX0_init_4 : decode cX0_init 4 = .ok (.aload_n 0, 1) := by decide +kernel
theorem dX0_init_5 : decode cX0_init 5 = .ok (.sipush 512, 3) := by decide +kernel
theorem dX0_init_8 : decode cX0_init 8 = .ok (.newarray .long, 2) := by decide +kernel
theorem dX0_init_10 : decode cX0_init 10 = .ok (.putfield 9, 3) := by decide +kernel
theorem dX0_init_13 : decode cX0_init 13 = .ok (.aload_n 0, 1) := by decide +kernel
theorem dX0_init_14 : decode cX0_init 14 = .ok (.sipush 512, 3) := by decide +kernel
theorem dX0_init_17 : decode cX0_init 17 = .ok (.newarray .long, 2) := by decide +kernel
theorem dX0_init_19 : decode cX0_init 19 = .ok (.putfield 13, 3) := by decide +kernel
theorem dX0_init_22 : decode cX0_init 22 = .ok (.aload_n 0, 1) := by decide +kernel
theorem dX0_init_23 : decode cX0_init 23 = .ok (.iconst 0, 1) := by decide +kernel
theorem dX0_init_24 : decode cX0_init 24 = .ok (.putfield 16, 3) := by decide +kernel
theorem dX0_init_27 : decode cX0_init 27 = .ok (.aload_n 0, 1) := by decide +kernel
theorem dX0_init_28 : decode cX0_init 28 = .ok (.bipush 32, 2) := by decide +kernel
theorem dX0_init_30 : decode cX0_init 30 = .ok (.putfield 20, 3) := by decide +kernel
theorem dX0_init_33 : decode cX0_init 33 = .ok (.aload_n 0, 1) := by decide +kernel
theorem dX0_init_34 : decode cX0_init 34 = .ok (.bipush 32, 2) := by decide +kernel
theorem dX0_init_36 : decode cX0_init 36 = .ok (.invokestatic 23, 3) := by decide +kernel
theorem dX0_init_39 : decode cX0_init 39 = .ok (.putfield 27, 3) := by decide +kernel
theorem dX0_init_42 : decode cX0_init 42 = .ok (.aload_n 0, 1) := by decide +kernel
theorem dX0_init_43 : decode cX0_init 43 = .ok (.iconst (-1), 1) := by decide +kernel
theorem dX0_init_44 : decode cX0_init 44 = .ok (.putfield 31, 3) := by decide +kernel
theorem dX0_init_47 : decode cX0_init 47 = .ok (.aload_n 0, 1) := by decide +kernel
theorem dX0_init_48 : decode cX0_init 48 = .ok (.iconst 0, 1) := by decide +kernel
theorem dX0_init_49 : decode cX0_init 49 = .ok (.putfield 34, 3) := by decide +kernel
theorem dX0_init_52 : decode cX0_init 52 = .ok (.return_, 1) := by decide +kernel
theorem dX0_lowestBits_0 : decode cX0_lowestBits 0 = .ok (.ldc2_w 93, 3) := by decide +kernel
theorem dX0_lowestBits_3 : decode cX0_lowestBits 3 = .ok (.bipush 64, 2) := by decide +kernel
theorem dX0_lowestBits_5 : decode cX0_lowestBits 5 = .ok (.iload_n 0, 1) := by decide +kernel
theorem dX0_lowestBits_6 : decode cX0_lowestBits 6 = .ok (.isub, 1) := by decide +kernel
theorem dX0_lowestBits_7 : decode cX0_lowestBits 7 = .ok (.lushr, 1) := by decide +kernel
theorem dX0_lowestBits_8 : decode cX0_lowestBits 8 = .ok (.lreturn, 1) := by decide +kernel
theorem dX0_decode_0 : decode cX0_decode 0 = .ok (.iconst (-1), 1) := by decide +kernel
theorem dX0_decode_1 : decode cX0_decode 1 = .ok (.istore_n 3, 1) := by decide +kernel
theorem dX0_decode_2 : decode cX0_decode 2 = .ok (.iconst 0, 1) := by decide +kernel
theorem dX0_decode_3 : decode cX0_decode 3 = .ok (.istore 4, 2) := by decide +kernel
theorem dX0_decode_5 : decode cX0_decode 5 = .ok (.iload 4, 2) := by decide +kernel
theorem dX0_decode_7 : decode cX0_decode 7 = .ok (.aload_n 0, 1) := by decide +kernel
theorem dX0_decode_8 : decode cX0_decode 8 = .ok (.getfield 16, 3) := by decide +kernel
theorem dX0_decode_11 : decode cX0_decode 11 = .ok (.if_icmp .ge 49, 3) := by decide +kernel
theorem dX0_decode_14 : decode cX0_decode 14 = .ok (.aload_n 0, 1) := by decide +kernel
theorem dX0_decode_15 : decode cX0_decode 15 = .ok (.iload 4, 2) := by decide +kernel
theorem dX0_decode_17 : decode cX0_decode 17 = .ok (.aload_n 0, 1) := by decide +kernel
theorem dX0_decode_18 : decode cX0_decode 18 = .ok (.getfield 27, 3) := by decide +kernel
theorem dX0_decode_21 : decode cX0_decode 21 = .ok (.lload_n 1, 1) := by decide +kernel
theorem dX0_decode_22 : decode cX0_decode 22 = .ok (.aload_n 0, 1) := by decide +kernel
theorem dX0_decode_23 : decode cX0_decode 23 = .ok (.getfield 27, 3) := by decide +kernel
theorem dX0_decode_26 : decode cX0_decode 26 = .ok (.land, 1) := by decide +kernel
theorem dX0_decode_27 : decode cX0_decode 27 = .ok (.invokevirtual 62, 3) := by decide +kernel
theorem dX0_decode_30 : decode cX0_decode 30 = .ok (.ifCond .eq 24, 3) := by decide +kernel
theorem dX0_decode_33 : decode cX0_decode 33 = .ok (.iload_n 3, 1) := by decide +kernel
theorem dX0_decode_34 : decode cX0_decode 34 = .ok (.iconst (-1), 1) := by decide +kernel
theorem dX0_decode_35 : decode cX0_decode 35 = .ok (.if_icmp .ne 9, 3) := by decide +kernel
theorem dX0_decode_38 : decode cX0_decode 38 = .ok (.iload 4, 2) := by decide +kernel
theorem dX0_decode_40 : decode cX0_decode 40 = .ok (.istore_n 3, 1) := by decide +kernel
theorem dX0_decode_41 : decode cX0_decode 41 = .ok (.goto 13, 3) := by decide +kernel
theorem dX0_decode_44 : decode cX0_decode 44 = .ok (.aload_n 0, 1) := by decide +kernel
theorem dX0_decode_45 : decode cX0_decode 45 = .ok (.dup, 1) := by decide +kernel
theorem dX0_decode_46 : decode cX0_decode 46 = .ok (.getfield 34, 3) := by decide +kernel
theorem dX0_decode_49 : decode cX0_decode 49 = .ok (.iconst 1, 1) := by decide +kernel
theorem dX0_decode_50 : decode cX0_decode 50 = .ok (.iadd, 1) := by decide +kernel
theorem dX0_decode_51 : decode cX0_decode 51 = .ok (.putfield 34, 3) := by decide +kernel
theorem dX0_decode_54 : decode cX0_decode 54 = .ok (.iinc 4 1, 3) := by decide +kernel
theorem dX0_decode_57 : decode cX0_decode 57 = .ok (.goto (-52), 3) := by decide +kernel
theorem dX0_decode_60 : decode cX0_decode 60 = .ok (.iload_n 3, 1) := by decide +kernel
theorem dX0_decode_61 : decode cX0_decode 61 = .ok (.ireturn, 1) := by decide +kernel
theorem dX0_sharesWord_0 : decode cX0_sharesWord 0 = .ok (.aload_n 0, 1) := by decide +kernel
theorem dX0_sharesWord_1 : decode cX0_sharesWord 1 = .ok (.getfield 9, 3) := by decide +kernel
theorem dX0_sharesWord_4 : decode cX0_sharesWord 4 = .ok (.iload_n 1, 1) := by decide +kernel
theorem dX0_sharesWord_5 : decode cX0_sharesWord 5 = .ok (.laload, 1) := by decide +kernel
theorem dX0_sharesWord_6 : decode cX0_sharesWord 6 = .ok (.lload_n 2, 1) := by decide +kernel
theorem dX0_sharesWord_7 : decode cX0_sharesWord 7 = .ok (.land, 1) := by decide +kernel
theorem dX0_sharesWord_8 : decode cX0_sharesWord 8 = .ok (.aload_n 0, 1) := by decide +kernel
theorem dX0_sharesWord_9 : decode cX0_sharesWord 9 = .ok (.getfield 13, 3) := by decide +kernel
theorem dX0_sharesWord_12 : decode cX0_sharesWord 12 = .ok (.iload_n 1, 1) := by decide +kernel
theorem dX0_sharesWord_13 : decode cX0_sharesWord 13 = .ok (.laload, 1) := by decide +kernel
theorem dX0_sharesWord_14 : decode cX0_sharesWord 14 = .ok (.lload 4, 2) := by decide +kernel
theorem dX0_sharesWord_16 : decode cX0_sharesWord 16 = .ok (.lxor, 1) := by decide +kernel
theorem dX0_sharesWord_17 : decode cX0_sharesWord 17 = .ok (.land, 1) := by decide +kernel
theorem dX0_sharesWord_18 : decode cX0_sharesWord 18 = .ok (.lconst 0, 1) := by decide +kernel
theorem dX0_sharesWord_19 : decode cX0_sharesWord 19 = .ok (.lcmp, 1) := by decide +kernel
theorem dX0_sharesWord_20 : decode cX0_sharesWord 20 = .ok (.ifCond .ne 7, 3) := by decide +kernel
theorem dX0_sharesWord_23 : decode cX0_sharesWord 23 = .ok (.iconst 1, 1) := by decide +kernel
theorem dX0_sharesWord_24 : decode cX0_sharesWord 24 = .ok (.goto 4, 3) := by decide +kernel
theorem dX0_sharesWord_27 : decode cX0_sharesWord 27 = .ok (.iconst 0, 1) := by decide +kernel
theorem dX0_sharesWord_28 : decode cX0_sharesWord 28 = .ok (.ireturn, 1) := by decide +kernel
theorem dX0_count_0 : decode cX0_count 0 = .ok (.iload_n 1, 1) := by decide +kernel
theorem dX0_count_1 : decode cX0_count 1 = .ok (.tableswitch 51 0 3 #[31, 36, 41, 46], 31) := by decide +kernel
theorem dX0_count_32 : decode cX0_count 32 = .ok (.aload_n 0, 1) := by decide +kernel
theorem dX0_count_33 : decode cX0_count 33 = .ok (.getfield 16, 3) := by decide +kernel
theorem dX0_count_36 : decode cX0_count 36 = .ok (.ireturn, 1) := by decide +kernel
theorem dX0_count_37 : decode cX0_count 37 = .ok (.aload_n 0, 1) := by decide +kernel
theorem dX0_count_38 : decode cX0_count 38 = .ok (.getfield 20, 3) := by decide +kernel
theorem dX0_count_41 : decode cX0_count 41 = .ok (.ireturn, 1) := by decide +kernel
theorem dX0_count_42 : decode cX0_count 42 = .ok (.aload_n 0, 1) := by decide +kernel
theorem dX0_count_43 : decode cX0_count 43 = .ok (.getfield 31, 3) := by decide +kernel
theorem dX0_count_46 : decode cX0_count 46 = .ok (.ireturn, 1) := by decide +kernel
theorem dX0_count_47 : decode cX0_count 47 = .ok (.aload_n 0, 1) := by decide +kernel
theorem dX0_count_48 : decode cX0_count 48 = .ok (.getfield 34, 3) := by decide +kernel
theorem dX0_count_51 : decode cX0_count 51 = .ok (.ireturn, 1) := by decide +kernel
theorem dX0_count_52 : decode cX0_count 52 = .ok (.iconst (-1), 1) := by decide +kernel
theorem dX0_count_53 : decode cX0_count 53 = .ok (.ireturn, 1) := by decide +kernel
theorem dL_clear_0 : decode cL_clear 0 = .ok (.aload_n 0, 1) := by decide +kernel
theorem dL_clear_1 : decode cL_clear 1 = .ok (.iload_n 1, 1) := by decide +kernel
theorem dL_clear_2 : decode cL_clear 2 = .ok (.invokevirtual 7, 3) := by decide +kernel
theorem dL_clear_5 : decode cL_clear 5 = .ok (.goto 6, 3) := by decide +kernel
theorem dL_clear_8 : decode cL_clear 8 = .ok (.astore_n 2, 1) := by decide +kernel
theorem dL_clear_9 : decode cL_clear 9 = .ok (.iconst 1, 1) := by decide +kernel
theorem dL_clear_10 : decode cL_clear 10 = .ok (.ireturn, 1) := by decide +kernel
theorem dL_clear_11 : decode cL_clear 11 = .ok (.iconst 0, 1) := by decide +kernel
theorem dL_clear_12 : decode cL_clear 12 = .ok (.ireturn, 1) := by decide +kernel
theorem dX0_clear_0 : decode cX0_clear 0 = .ok (.iload_n 1, 1) := by decide +kernel
theorem dX0_clear_1 : decode cX0_clear 1 = .ok (.iconst 1, 1) := by decide +kernel
theorem dX0_clear_2 : decode cX0_clear 2 = .ok (.if_icmp .lt 9, 3) := by decide +kernel
theorem dX0_clear_5 : decode cX0_clear 5 = .ok (.iload_n 1, 1) := by decide +kernel
theorem dX0_clear_6 : decode cX0_clear 6 = .ok (.bipush 64, 2) := by decide +kernel
theorem dX0_clear_8 : decode cX0_clear 8 = .ok (.if_icmp .le 13, 3) := by decide +kernel
theorem dX0_clear_11 : decode cX0_clear 11 = .ok (.new 37, 3) := by decide +kernel
theorem dX0_clear_14 : decode cX0_clear 14 = .ok (.dup, 1) := by decide +kernel
theorem dX0_clear_15 : decode cX0_clear 15 = .ok (.ldc 39, 2) := by decide +kernel
theorem dX0_clear_17 : decode cX0_clear 17 = .ok (.invokespecial 41, 3) := by decide +kernel
theorem dX0_clear_20 : decode cX0_clear 20 = .ok (.athrow, 1) := by decide +kernel
theorem dX0_clear_21 : decode cX0_clear 21 = .ok (.aload_n 0, 1) := by decide +kernel
theorem dX0_clear_22 : decode cX0_clear 22 = .ok (.iconst 0, 1) := by decide +kernel
theorem dX0_clear_23 : decode cX0_clear 23 = .ok (.putfield 16, 3) := by decide +kernel
theorem dX0_clear_26 : decode cX0_clear 26 = .ok (.aload_n 0, 1) := by decide +kernel
theorem dX0_clear_27 : decode cX0_clear 27 = .ok (.iload_n 1, 1) := by decide +kernel
theorem dX0_clear_28 : decode cX0_clear 28 = .ok (.putfield 20, 3) := by decide +kernel
theorem dX0_clear_31 : decode cX0_clear 31 = .ok (.aload_n 0, 1) := by decide +kernel
theorem dX0_clear_32 : decode cX0_clear 32 = .ok (.iload_n 1, 1) := by decide +kernel
theorem dX0_clear_33 : decode cX0_clear 33 = .ok (.invokestatic 23, 3) := by decide +kernel
theorem dX0_clear_36 : decode cX0_clear 36 = .ok (.putfield 27, 3) := by decide +kernel
theorem dX0_clear_39 : decode cX0_clear 39 = .ok (.return_, 1) := by decide +kernel
theorem dL_add_0 : decode cL_add 0 = .ok (.aload 5, 2) := by decide +kernel
theorem dL_add_2 : decode cL_add 2 = .ok (.iconst 0, 1) := by decide +kernel
theorem dL_add_3 : decode cL_add 3 = .ok (.aload_n 0, 1) := by decide +kernel
theorem dL_add_4 : decode cL_add 4 = .ok (.lload_n 1, 1) := by decide +kernel
theorem dL_add_5 : decode cL_add 5 = .ok (.lload_n 3, 1) := by decide +kernel
theorem dL_add_6 : decode cL_add 6 = .ok (.invokevirtual 15, 3) := by decide +kernel
theorem dL_add_9 : decode cL_add 9 = .ok (.i2l, 1) := by decide +kernel
theorem dL_add_10 : decode cL_add 10 = .ok (.lastore, 1) := by decide +kernel
theorem dL_add_11 : decode cL_add 11 = .ok (.goto 11, 3) := by decide +kernel
theorem dL_add_14 : decode cL_add 14 = .ok (.astore 6, 2) := by decide +kernel
theorem dL_add_16 : decode cL_add 16 = .ok (.iconst 1, 1) := by decide +kernel
theorem dL_add_17 : decode cL_add 17 = .ok (.ireturn, 1) := by decide +kernel
theorem dL_add_18 : decode cL_add 18 = .ok (.astore 6, 2) := by decide +kernel
theorem dL_add_20 : decode cL_add 20 = .ok (.iconst 2, 1) := by decide +kernel
theorem dL_add_21 : decode cL_add 21 = .ok (.ireturn, 1) := by decide +kernel
theorem dL_add_22 : decode cL_add 22 = .ok (.iconst 0, 1) := by decide +kernel
theorem dL_add_23 : decode cL_add 23 = .ok (.ireturn, 1) := by decide +kernel
theorem dX0_add_0 : decode cX0_add 0 = .ok (.aload_n 0, 1) := by decide +kernel
theorem dX0_add_1 : decode cX0_add 1 = .ok (.lload_n 1, 1) := by decide +kernel
theorem dX0_add_2 : decode cX0_add 2 = .ok (.lload_n 3, 1) := by decide +kernel
theorem dX0_add_3 : decode cX0_add 3 = .ok (.invokevirtual 44, 3) := by decide +kernel
theorem dX0_add_6 : decode cX0_add 6 = .ok (.aload_n 0, 1) := by decide +kernel
theorem dX0_add_7 : decode cX0_add 7 = .ok (.lload_n 1, 1) := by decide +kernel
theorem dX0_add_8 : decode cX0_add 8 = .ok (.aload_n 0, 1) := by decide +kernel
theorem dX0_add_9 : decode cX0_add 9 = .ok (.getfield 27, 3) := by decide +kernel
theorem dX0_add_12 : decode cX0_add 12 = .ok (.land, 1) := by decide +kernel
theorem dX0_add_13 : decode cX0_add 13 = .ok (.lload_n 3, 1) := by decide +kernel
theorem dX0_add_14 : decode cX0_add 14 = .ok (.aload_n 0, 1) := by decide +kernel
theorem dX0_add_15 : decode cX0_add 15 = .ok (.getfield 27, 3) := by decide +kernel
theorem dX0_add_18 : decode cX0_add 18 = .ok (.land, 1) := by decide +kernel
theorem dX0_add_19 : decode cX0_add 19 = .ok (.invokevirtual 48, 3) := by decide +kernel
theorem dX0_add_22 : decode cX0_add 22 = .ok (.ireturn, 1) := by decide +kernel
theorem dX0_refuseStrayWant_0 : decode cX0_refuseStrayWant 0 = .ok (.lload_n 3, 1) := by decide +kernel
theorem dX0_refuseStrayWant_1 : decode cX0_refuseStrayWant 1 = .ok (.lload_n 1, 1) := by decide +kernel
theorem dX0_refuseStrayWant_2 : decode cX0_refuseStrayWant 2 = .ok (.ldc2_w 93, 3) := by decide +kernel
theorem dX0_refuseStrayWant_5 : decode cX0_refuseStrayWant 5 = .ok (.lxor, 1) := by decide +kernel
theorem dX0_refuseStrayWant_6 : decode cX0_refuseStrayWant 6 = .ok (.land, 1) := by decide +kernel
theorem dX0_refuseStrayWant_7 : decode cX0_refuseStrayWant 7 = .ok (.aload_n 0, 1) := by decide +kernel
theorem dX0_refuseStrayWant_8 : decode cX0_refuseStrayWant 8 = .ok (.getfield 27, 3) := by decide +kernel
theorem dX0_refuseStrayWant_11 : decode cX0_refuseStrayWant 11 = .ok (.land, 1) := by decide +kernel
theorem dX0_refuseStrayWant_12 : decode cX0_refuseStrayWant 12 = .ok (.lconst 0, 1) := by decide +kernel
theorem dX0_refuseStrayWant_13 : decode cX0_refuseStrayWant 13 = .ok (.lcmp, 1) := by decide +kernel
theorem dX0_refuseStrayWant_14 : decode cX0_refuseStrayWant 14 = .ok (.ifCond .eq 13, 3) := by decide +kernel
theorem dX0_refuseStrayWant_17 : decode cX0_refuseStrayWant 17 = .ok (.new 37, 3) := by decide +kernel
theorem dX0_refuseStrayWant_20 : decode cX0_refuseStrayWant 20 = .ok (.dup, 1) := by decide +kernel
theorem dX0_refuseStrayWant_21 : decode cX0_refuseStrayWant 21 = .ok (.ldc 95, 2) := by decide +kernel
theorem dX0_refuseStrayWant_23 : decode cX0_refuseStrayWant 23 = .ok (.invokespecial 41, 3) := by decide +kernel
theorem dX0_refuseStrayWant_26 : decode cX0_refuseStrayWant 26 = .ok (.athrow, 1) := by decide +kernel
theorem dX0_refuseStrayWant_27 : decode cX0_refuseStrayWant 27 = .ok (.return_, 1) := by decide +kernel
theorem dX0_append_0 : decode cX0_append 0 = .ok (.aload_n 0, 1) := by decide +kernel
theorem dX0_append_1 : decode cX0_append 1 = .ok (.getfield 16, 3) := by decide +kernel
theorem dX0_append_4 : decode cX0_append 4 = .ok (.sipush 512, 3) := by decide +kernel
theorem dX0_append_7 : decode cX0_append 7 = .ok (.if_icmp .lt 18, 3) := by decide +kernel
theorem dX0_append_10 : decode cX0_append 10 = .ok (.aload_n 0, 1) := by decide +kernel
theorem dX0_append_11 : decode cX0_append 11 = .ok (.iconst (-1), 1) := by decide +kernel
theorem dX0_append_12 : decode cX0_append 12 = .ok (.putfield 31, 3) := by decide +kernel
theorem dX0_append_15 : decode cX0_append 15 = .ok (.new 99, 3) := by decide +kernel
theorem dX0_append_18 : decode cX0_append 18 = .ok (.dup, 1) := by decide +kernel
theorem dX0_append_19 : decode cX0_append 19 = .ok (.ldc 101, 2) := by decide +kernel
theorem dX0_append_21 : decode cX0_append 21 = .ok (.invokespecial 103, 3) := by decide +kernel
theorem dX0_append_24 : decode cX0_append 24 = .ok (.athrow, 1) := by decide +kernel
theorem dX0_append_25 : decode cX0_append 25 = .ok (.aload_n 0, 1) := by decide +kernel
theorem dX0_append_26 : decode cX0_append 26 = .ok (.lload_n 1, 1) := by decide +kernel
theorem dX0_append_27 : decode cX0_append 27 = .ok (.lload_n 3, 1) := by decide +kernel
theorem dX0_append_28 : decode cX0_append 28 = .ok (.invokevirtual 66, 3) := by decide +kernel
theorem dX0_append_31 : decode cX0_append 31 = .ok (.istore 5, 2) := by decide +kernel
theorem dX0_append_33 : decode cX0_append 33 = .ok (.iload 5, 2) := by decide +kernel
theorem dX0_append_35 : decode cX0_append 35 = .ok (.iconst (-1), 1) := by decide +kernel
theorem dX0_append_36 : decode cX0_append 36 = .ok (.if_icmp .eq 19, 3) := by decide +kernel
theorem dX0_append_39 : decode cX0_append 39 = .ok (.aload_n 0, 1) := by decide +kernel
theorem dX0_append_40 : decode cX0_append 40 = .ok (.iload 5, 2) := by decide +kernel
theorem dX0_append_42 : decode cX0_append 42 = .ok (.putfield 31, 3) := by decide +kernel
theorem dX0_append_45 : decode cX0_append 45 = .ok (.new 99, 3) := by decide +kernel
theorem dX0_append_48 : decode cX0_append 48 = .ok (.dup, 1) := by decide +kernel
theorem dX0_append_49 : decode cX0_append 49 = .ok (.ldc 104, 2) := by decide +kernel
theorem dX0_append_51 : decode cX0_append 51 = .ok (.invokespecial 103, 3) := by decide +kernel
theorem dX0_append_54 : decode cX0_append 54 = .ok (.athrow, 1) := by decide +kernel
theorem dX0_append_55 : decode cX0_append 55 = .ok (.aload_n 0, 1) := by decide +kernel
theorem dX0_append_56 : decode cX0_append 56 = .ok (.getfield 9, 3) := by decide +kernel
theorem dX0_append_59 : decode cX0_append 59 = .ok (.aload_n 0, 1) := by decide +kernel
theorem dX0_append_60 : decode cX0_append 60 = .ok (.getfield 16, 3) := by decide +kernel
theorem dX0_append_63 : decode cX0_append 63 = .ok (.lload_n 1, 1) := by decide +kernel
theorem dX0_append_64 : decode cX0_append 64 = .ok (.lastore, 1) := by decide +kernel
theorem dX0_append_65 : decode cX0_append 65 = .ok (.aload_n 0, 1) := by decide +kernel
theorem dX0_append_66 : decode cX0_append 66 = .ok (.getfield 13, 3) := by decide +kernel
theorem dX0_append_69 : decode cX0_append 69 = .ok (.aload_n 0, 1) := by decide +kernel
theorem dX0_append_70 : decode cX0_append 70 = .ok (.getfield 16, 3) := by decide +kernel
theorem dX0_append_73 : decode cX0_append 73 = .ok (.lload_n 3, 1) := by decide +kernel
theorem dX0_append_74 : decode cX0_append 74 = .ok (.lastore, 1) := by decide +kernel
theorem dX0_append_75 : decode cX0_append 75 = .ok (.aload_n 0, 1) := by decide +kernel
theorem dX0_append_76 : decode cX0_append 76 = .ok (.dup, 1) := by decide +kernel
theorem dX0_append_77 : decode cX0_append 77 = .ok (.getfield 16, 3) := by decide +kernel
theorem dX0_append_80 : decode cX0_append 80 = .ok (.iconst 1, 1) := by decide +kernel
theorem dX0_append_81 : decode cX0_append 81 = .ok (.iadd, 1) := by decide +kernel
theorem dX0_append_82 : decode cX0_append 82 = .ok (.putfield 16, 3) := by decide +kernel
theorem dX0_append_85 : decode cX0_append 85 = .ok (.aload_n 0, 1) := by decide +kernel
theorem dX0_append_86 : decode cX0_append 86 = .ok (.getfield 16, 3) := by decide +kernel
theorem dX0_append_89 : decode cX0_append 89 = .ok (.iconst 1, 1) := by decide +kernel
theorem dX0_append_90 : decode cX0_append 90 = .ok (.isub, 1) := by decide +kernel
theorem dX0_append_91 : decode cX0_append 91 = .ok (.ireturn, 1) := by decide +kernel
theorem dX0_firstSharing_0 : decode cX0_firstSharing 0 = .ok (.iconst 0, 1) := by decide +kernel
theorem dX0_firstSharing_1 : decode cX0_firstSharing 1 = .ok (.istore 5, 2) := by decide +kernel
theorem dX0_firstSharing_3 : decode cX0_firstSharing 3 = .ok (.iload 5, 2) := by decide +kernel
theorem dX0_firstSharing_5 : decode cX0_firstSharing 5 = .ok (.aload_n 0, 1) := by decide +kernel
theorem dX0_firstSharing_6 : decode cX0_firstSharing 6 = .ok (.getfield 16, 3) := by decide +kernel
theorem dX0_firstSharing_9 : decode cX0_firstSharing 9 = .ok (.if_icmp .ge 23, 3) := by decide +kernel
theorem dX0_firstSharing_12 : decode cX0_firstSharing 12 = .ok (.aload_n 0, 1) := by decide +kernel
theorem dX0_firstSharing_13 : decode cX0_firstSharing 13 = .ok (.iload 5, 2) := by decide +kernel
theorem dX0_firstSharing_15 : decode cX0_firstSharing 15 = .ok (.lload_n 1, 1) := by decide +kernel
theorem dX0_firstSharing_16 : decode cX0_firstSharing 16 = .ok (.lload_n 3, 1) := by decide +kernel
theorem dX0_firstSharing_17 : decode cX0_firstSharing 17 = .ok (.invokevirtual 62, 3) := by decide +kernel
theorem dX0_firstSharing_20 : decode cX0_firstSharing 20 = .ok (.ifCond .eq 6, 3) := by decide +kernel
theorem dX0_firstSharing_23 : decode cX0_firstSharing 23 = .ok (.iload 5, 2) := by decide +kernel
theorem dX0_firstSharing_25 : decode cX0_firstSharing 25 = .ok (.ireturn, 1) := by decide +kernel
theorem dX0_firstSharing_26 : decode cX0_firstSharing 26 = .ok (.iinc 5 1, 3) := by decide +kernel
theorem dX0_firstSharing_29 : decode cX0_firstSharing 29 = .ok (.goto (-26), 3) := by decide +kernel
theorem dX0_firstSharing_32 : decode cX0_firstSharing 32 = .ok (.iconst (-1), 1) := by decide +kernel
theorem dX0_firstSharing_33 : decode cX0_firstSharing 33 = .ok (.ireturn, 1) := by decide +kernel
theorem dL_signs_0 : decode cL_signs 0 = .ok (.aload_n 3, 1) := by decide +kernel
theorem dL_signs_1 : decode cL_signs 1 = .ok (.iconst 0, 1) := by decide +kernel
theorem dL_signs_2 : decode cL_signs 2 = .ok (.aload_n 0, 1) := by decide +kernel
theorem dL_signs_3 : decode cL_signs 3 = .ok (.lload_n 1, 1) := by decide +kernel
theorem dL_signs_4 : decode cL_signs 4 = .ok (.invokevirtual 21, 3) := by decide +kernel
theorem dL_signs_7 : decode cL_signs 7 = .ok (.i2l, 1) := by decide +kernel
theorem dL_signs_8 : decode cL_signs 8 = .ok (.lastore, 1) := by decide +kernel
theorem dL_signs_9 : decode cL_signs 9 = .ok (.goto 11, 3) := by decide +kernel
theorem dL_signs_12 : decode cL_signs 12 = .ok (.astore 4, 2) := by decide +kernel
theorem dL_signs_14 : decode cL_signs 14 = .ok (.iconst 1, 1) := by decide +kernel
theorem dL_signs_15 : decode cL_signs 15 = .ok (.ireturn, 1) := by decide +kernel
theorem dL_signs_16 : decode cL_signs 16 = .ok (.astore 4, 2) := by decide +kernel
theorem dL_signs_18 : decode cL_signs 18 = .ok (.iconst 2, 1) := by decide +kernel
theorem dL_signs_19 : decode cL_signs 19 = .ok (.ireturn, 1) := by decide +kernel
theorem dL_signs_20 : decode cL_signs 20 = .ok (.iconst 0, 1) := by decide +kernel
theorem dL_signs_21 : decode cL_signs 21 = .ok (.ireturn, 1) := by decide +kernel
theorem dX0_signs_0 : decode cX0_signs 0 = .ok (.lload_n 1, 1) := by decide +kernel
theorem dX0_signs_1 : decode cX0_signs 1 = .ok (.lconst 0, 1) := by decide +kernel
theorem dX0_signs_2 : decode cX0_signs 2 = .ok (.lcmp, 1) := by decide +kernel
theorem dX0_signs_3 : decode cX0_signs 3 = .ok (.ifCond .ge 13, 3) := by decide +kernel
theorem dX0_signs_6 : decode cX0_signs 6 = .ok (.new 37, 3) := by decide +kernel
theorem dX0_signs_9 : decode cX0_signs 9 = .ok (.dup, 1) := by decide +kernel
theorem dX0_signs_10 : decode cX0_signs 10 = .ok (.ldc 52, 2) := by decide +kernel
theorem dX0_signs_12 : decode cX0_signs 12 = .ok (.invokespecial 41, 3) := by decide +kernel
theorem dX0_signs_15 : decode cX0_signs 15 = .ok (.athrow, 1) := by decide +kernel
theorem dX0_signs_16 : decode cX0_signs 16 = .ok (.lconst 0, 1) := by decide +kernel
theorem dX0_signs_17 : decode cX0_signs 17 = .ok (.lstore_n 3, 1) := by decide +kernel
theorem dX0_signs_18 : decode cX0_signs 18 = .ok (.lconst 0, 1) := by decide +kernel
theorem dX0_signs_19 : decode cX0_signs 19 = .ok (.lstore 5, 2) := by decide +kernel
theorem dX0_signs_21 : decode cX0_signs 21 = .ok (.lload_n 1, 1) := by decide +kernel
theorem dX0_signs_22 : decode cX0_signs 22 = .ok (.lstore 7, 2) := by decide +kernel
theorem dX0_signs_24 : decode cX0_signs 24 = .ok (.iconst 0, 1) := by decide +kernel
theorem dX0_signs_25 : decode cX0_signs 25 = .ok (.istore 9, 2) := by decide +kernel
theorem dX0_signs_27 : decode cX0_signs 27 = .ok (.iload 9, 2) := by decide +kernel
theorem dX0_signs_29 : decode cX0_signs 29 = .ok (.bipush 40, 2) := by decide +kernel
theorem dX0_signs_31 : decode cX0_signs 31 = .ok (.if_icmp .ge 57, 3) := by decide +kernel
theorem dX0_signs_34 : decode cX0_signs 34 = .ok (.lload 7, 2) := by decide +kernel
theorem dX0_signs_36 : decode cX0_signs 36 = .ok (.ldc2_w 54, 3) := by decide +kernel
theorem dX0_signs_39 : decode cX0_signs 39 = .ok (.lrem, 1) := by decide +kernel
theorem dX0_signs_40 : decode cX0_signs 40 = .ok (.lstore 10, 2) := by decide +kernel
theorem dX0_signs_42 : decode cX0_signs 42 = .ok (.lload 10, 2) := by decide +kernel
theorem dX0_signs_44 : decode cX0_signs 44 = .ok (.ldc2_w 56, 3) := by decide +kernel
theorem dX0_signs_47 : decode cX0_signs 47 = .ok (.lcmp, 1) := by decide +kernel
theorem dX0_signs_48 : decode cX0_signs 48 = .ok (.ifCond .eq 10, 3) := by decide +kernel
theorem dX0_signs_51 : decode cX0_signs 51 = .ok (.lload_n 3, 1) := by decide +kernel
theorem dX0_signs_52 : decode cX0_signs 52 = .ok (.lconst 1, 1) := by decide +kernel
theorem dX0_signs_53 : decode cX0_signs 53 = .ok (.iload 9, 2) := by decide +kernel
theorem dX0_signs_55 : decode cX0_signs 55 = .ok (.lshl, 1) := by decide +kernel
theorem dX0_signs_56 : decode cX0_signs 56 = .ok (.lor, 1) := by decide +kernel
theorem dX0_signs_57 : decode cX0_signs 57 = .ok (.lstore_n 3, 1) := by decide +kernel
theorem dX0_signs_58 : decode cX0_signs 58 = .ok (.lload 10, 2) := by decide +kernel
theorem dX0_signs_60 : decode cX0_signs 60 = .ok (.lconst 1, 1) := by decide +kernel
theorem dX0_signs_61 : decode cX0_signs 61 = .ok (.lcmp, 1) := by decide +kernel
theorem dX0_signs_62 : decode cX0_signs 62 = .ok (.ifCond .ne 12, 3) := by decide +kernel
theorem dX0_signs_65 : decode cX0_signs 65 = .ok (.lload 5, 2) := by decide +kernel
theorem dX0_signs_67 : decode cX0_signs 67 = .ok (.lconst 1, 1) := by decide +kernel
theorem dX0_signs_68 : decode cX0_signs 68 = .ok (.iload 9, 2) := by decide +kernel
theorem dX0_signs_70 : decode cX0_signs 70 = .ok (.lshl, 1) := by decide +kernel
theorem dX0_signs_71 : decode cX0_signs 71 = .ok (.lor, 1) := by decide +kernel
theorem dX0_signs_72 : decode cX0_signs 72 = .ok (.lstore 5, 2) := by decide +kernel
theorem dX0_signs_74 : decode cX0_signs 74 = .ok (.lload 7, 2) := by decide +kernel
theorem dX0_signs_76 : decode cX0_signs 76 = .ok (.ldc2_w 54, 3) := by decide +kernel
theorem dX0_signs_79 : decode cX0_signs 79 = .ok (.ldiv, 1) := by decide +kernel
theorem dX0_signs_80 : decode cX0_signs 80 = .ok (.lstore 7, 2) := by decide +kernel
theorem dX0_signs_82 : decode cX0_signs 82 = .ok (.iinc 9 1, 3) := by decide +kernel
theorem dX0_signs_85 : decode cX0_signs 85 = .ok (.goto (-58), 3) := by decide +kernel
theorem dX0_signs_88 : decode cX0_signs 88 = .ok (.aload_n 0, 1) := by decide +kernel
theorem dX0_signs_89 : decode cX0_signs 89 = .ok (.lload_n 3, 1) := by decide +kernel
theorem dX0_signs_90 : decode cX0_signs 90 = .ok (.aload_n 0, 1) := by decide +kernel
theorem dX0_signs_91 : decode cX0_signs 91 = .ok (.getfield 27, 3) := by decide +kernel
theorem dX0_signs_94 : decode cX0_signs 94 = .ok (.land, 1) := by decide +kernel
theorem dX0_signs_95 : decode cX0_signs 95 = .ok (.lload 5, 2) := by decide +kernel
theorem dX0_signs_97 : decode cX0_signs 97 = .ok (.aload_n 0, 1) := by decide +kernel
theorem dX0_signs_98 : decode cX0_signs 98 = .ok (.getfield 27, 3) := by decide +kernel
theorem dX0_signs_101 : decode cX0_signs 101 = .ok (.land, 1) := by decide +kernel
theorem dX0_signs_102 : decode cX0_signs 102 = .ok (.invokevirtual 48, 3) := by decide +kernel
theorem dX0_signs_105 : decode cX0_signs 105 = .ok (.ireturn, 1) := by decide +kernel
theorem dL_drop_0 : decode cL_drop 0 = .ok (.aload_n 0, 1) := by decide +kernel
theorem dL_drop_1 : decode cL_drop 1 = .ok (.iload_n 1, 1) := by decide +kernel
theorem dL_drop_2 : decode cL_drop 2 = .ok (.invokevirtual 25, 3) := by decide +kernel
theorem dL_drop_5 : decode cL_drop 5 = .ok (.goto 6, 3) := by decide +kernel
theorem dL_drop_8 : decode cL_drop 8 = .ok (.astore_n 2, 1) := by decide +kernel
theorem dL_drop_9 : decode cL_drop 9 = .ok (.iconst 1, 1) := by decide +kernel
theorem dL_drop_10 : decode cL_drop 10 = .ok (.ireturn, 1) := by decide +kernel
theorem dL_drop_11 : decode cL_drop 11 = .ok (.iconst 0, 1) := by decide +kernel
theorem dL_drop_12 : decode cL_drop 12 = .ok (.ireturn, 1) := by decide +kernel
theorem dX0_drop_0 : decode cX0_drop 0 = .ok (.aload_n 0, 1) := by decide +kernel
theorem dX0_drop_1 : decode cX0_drop 1 = .ok (.iload_n 1, 1) := by decide +kernel
theorem dX0_drop_2 : decode cX0_drop 2 = .ok (.invokevirtual 58, 3) := by decide +kernel
theorem dX0_drop_5 : decode cX0_drop 5 = .ok (.iload_n 1, 1) := by decide +kernel
theorem dX0_drop_6 : decode cX0_drop 6 = .ok (.iconst 1, 1) := by decide +kernel
theorem dX0_drop_7 : decode cX0_drop 7 = .ok (.iadd, 1) := by decide +kernel
theorem dX0_drop_8 : decode cX0_drop 8 = .ok (.istore_n 2, 1) := by decide +kernel
theorem dX0_drop_9 : decode cX0_drop 9 = .ok (.iload_n 2, 1) := by decide +kernel
theorem dX0_drop_10 : decode cX0_drop 10 = .ok (.aload_n 0, 1) := by decide +kernel
theorem dX0_drop_11 : decode cX0_drop 11 = .ok (.getfield 16, 3) := by decide +kernel
theorem dX0_drop_14 : decode cX0_drop 14 = .ok (.if_icmp .ge 37, 3) := by decide +kernel
theorem dX0_drop_17 : decode cX0_drop 17 = .ok (.aload_n 0, 1) := by decide +kernel
theorem dX0_drop_18 : decode cX0_drop 18 = .ok (.getfield 9, 3) := by decide +kernel
theorem dX0_drop_21 : decode cX0_drop 21 = .ok (.iload_n 2, 1) := by decide +kernel
theorem dX0_drop_22 : decode cX0_drop 22 = .ok (.iconst 1, 1) := by decide +kernel
theorem dX0_drop_23 : decode cX0_drop 23 = .ok (.isub, 1) := by decide +kernel
theorem dX0_drop_24 : decode cX0_drop 24 = .ok (.aload_n 0, 1) := by decide +kernel
theorem dX0_drop_25 : decode cX0_drop 25 = .ok (.getfield 9, 3) := by decide +kernel
theorem dX0_drop_28 : decode cX0_drop 28 = .ok (.iload_n 2, 1) := by decide +kernel
theorem dX0_drop_29 : decode cX0_drop 29 = .ok (.laload, 1) := by decide +kernel
theorem dX0_drop_30 : decode cX0_drop 30 = .ok (.lastore, 1) := by decide +kernel
theorem dX0_drop_31 : decode cX0_drop 31 = .ok (.aload_n 0, 1) := by decide +kernel
theorem dX0_drop_32 : decode cX0_drop 32 = .ok (.getfield 13, 3) := by decide +kernel
theorem dX0_drop_35 : decode cX0_drop 35 = .ok (.iload_n 2, 1) := by decide +kernel
theorem dX0_drop_36 : decode cX0_drop 36 = .ok (.iconst 1, 1) := by decide +kernel
theorem dX0_drop_37 : decode cX0_drop 37 = .ok (.isub, 1) := by decide +kernel
theorem dX0_drop_38 : decode cX0_drop 38 = .ok (.aload_n 0, 1) := by decide +kernel
theorem dX0_drop_39 : decode cX0_drop 39 = .ok (.getfield 13, 3) := by decide +kernel
theorem dX0_drop_42 : decode cX0_drop 42 = .ok (.iload_n 2, 1) := by decide +kernel
theorem dX0_drop_43 : decode cX0_drop 43 = .ok (.laload, 1) := by decide +kernel
theorem dX0_drop_44 : decode cX0_drop 44 = .ok (.lastore, 1) := by decide +kernel
theorem dX0_drop_45 : decode cX0_drop 45 = .ok (.iinc 2 1, 3) := by decide +kernel
theorem dX0_drop_48 : decode cX0_drop 48 = .ok (.goto (-39), 3) := by decide +kernel
theorem dX0_drop_51 : decode cX0_drop 51 = .ok (.aload_n 0, 1) := by decide +kernel
theorem dX0_drop_52 : decode cX0_drop 52 = .ok (.dup, 1) := by decide +kernel
theorem dX0_drop_53 : decode cX0_drop 53 = .ok (.getfield 16, 3) := by decide +kernel
theorem dX0_drop_56 : decode cX0_drop 56 = .ok (.iconst 1, 1) := by decide +kernel
theorem dX0_drop_57 : decode cX0_drop 57 = .ok (.isub, 1) := by decide +kernel
theorem dX0_drop_58 : decode cX0_drop 58 = .ok (.putfield 16, 3) := by decide +kernel
theorem dX0_drop_61 : decode cX0_drop 61 = .ok (.return_, 1) := by decide +kernel
theorem dX0_refuseAbsent_0 : decode cX0_refuseAbsent 0 = .ok (.iload_n 1, 1) := by decide +kernel
theorem dX0_refuseAbsent_1 : decode cX0_refuseAbsent 1 = .ok (.ifCond .lt 11, 3) := by decide +kernel
theorem dX0_refuseAbsent_4 : decode cX0_refuseAbsent 4 = .ok (.iload_n 1, 1) := by decide +kernel
theorem dX0_refuseAbsent_5 : decode cX0_refuseAbsent 5 = .ok (.aload_n 0, 1) := by decide +kernel
theorem dX0_refuseAbsent_6 : decode cX0_refuseAbsent 6 = .ok (.getfield 16, 3) := by decide +kernel
theorem dX0_refuseAbsent_9 : decode cX0_refuseAbsent 9 = .ok (.if_icmp .lt 13, 3) := by decide +kernel
theorem dX0_refuseAbsent_12 : decode cX0_refuseAbsent 12 = .ok (.new 80, 3) := by decide +kernel
theorem dX0_refuseAbsent_15 : decode cX0_refuseAbsent 15 = .ok (.dup, 1) := by decide +kernel
theorem dX0_refuseAbsent_16 : decode cX0_refuseAbsent 16 = .ok (.ldc 97, 2) := by decide +kernel
theorem dX0_refuseAbsent_18 : decode cX0_refuseAbsent 18 = .ok (.invokespecial 84, 3) := by decide +kernel
theorem dX0_refuseAbsent_21 : decode cX0_refuseAbsent 21 = .ok (.athrow, 1) := by decide +kernel
theorem dX0_refuseAbsent_22 : decode cX0_refuseAbsent 22 = .ok (.return_, 1) := by decide +kernel
theorem dL_meets_0 : decode cL_meets 0 = .ok (.aload 5, 2) := by decide +kernel
theorem dL_meets_2 : decode cL_meets 2 = .ok (.iconst 0, 1) := by decide +kernel
theorem dL_meets_3 : decode cL_meets 3 = .ok (.aload_n 0, 1) := by decide +kernel
theorem dL_meets_4 : decode cL_meets 4 = .ok (.lload_n 1, 1) := by decide +kernel
theorem dL_meets_5 : decode cL_meets 5 = .ok (.lload_n 3, 1) := by decide +kernel
theorem dL_meets_6 : decode cL_meets 6 = .ok (.invokevirtual 30, 3) := by decide +kernel
theorem dL_meets_9 : decode cL_meets 9 = .ok (.i2l, 1) := by decide +kernel
theorem dL_meets_10 : decode cL_meets 10 = .ok (.lastore, 1) := by decide +kernel
theorem dL_meets_11 : decode cL_meets 11 = .ok (.goto 7, 3) := by decide +kernel
theorem dL_meets_14 : decode cL_meets 14 = .ok (.astore 6, 2) := by decide +kernel
theorem dL_meets_16 : decode cL_meets 16 = .ok (.iconst 1, 1) := by decide +kernel
theorem dL_meets_17 : decode cL_meets 17 = .ok (.ireturn, 1) := by decide +kernel
theorem dL_meets_18 : decode cL_meets 18 = .ok (.iconst 0, 1) := by decide +kernel
theorem dL_meets_19 : decode cL_meets 19 = .ok (.ireturn, 1) := by decide +kernel
theorem dX0_meets_0 : decode cX0_meets 0 = .ok (.aload_n 0, 1) := by decide +kernel
theorem dX0_meets_1 : decode cX0_meets 1 = .ok (.lload_n 1, 1) := by decide +kernel
theorem dX0_meets_2 : decode cX0_meets 2 = .ok (.lload_n 3, 1) := by decide +kernel
theorem dX0_meets_3 : decode cX0_meets 3 = .ok (.invokevirtual 44, 3) := by decide +kernel
theorem dX0_meets_6 : decode cX0_meets 6 = .ok (.aload_n 0, 1) := by decide +kernel
theorem dX0_meets_7 : decode cX0_meets 7 = .ok (.lload_n 1, 1) := by decide +kernel
theorem dX0_meets_8 : decode cX0_meets 8 = .ok (.aload_n 0, 1) := by decide +kernel
theorem dX0_meets_9 : decode cX0_meets 9 = .ok (.getfield 27, 3) := by decide +kernel
theorem dX0_meets_12 : decode cX0_meets 12 = .ok (.land, 1) := by decide +kernel
theorem dX0_meets_13 : decode cX0_meets 13 = .ok (.lload_n 3, 1) := by decide +kernel
theorem dX0_meets_14 : decode cX0_meets 14 = .ok (.aload_n 0, 1) := by decide +kernel
theorem dX0_meets_15 : decode cX0_meets 15 = .ok (.getfield 27, 3) := by decide +kernel
theorem dX0_meets_18 : decode cX0_meets 18 = .ok (.land, 1) := by decide +kernel
theorem dX0_meets_19 : decode cX0_meets 19 = .ok (.invokevirtual 66, 3) := by decide +kernel
theorem dX0_meets_22 : decode cX0_meets 22 = .ok (.ireturn, 1) := by decide +kernel
theorem dL_free_0 : decode cL_free 0 = .ok (.aload 5, 2) := by decide +kernel
theorem dL_free_2 : decode cL_free 2 = .ok (.iconst 0, 1) := by decide +kernel
theorem dL_free_3 : decode cL_free 3 = .ok (.aload_n 0, 1) := by decide +kernel
theorem dL_free_4 : decode cL_free 4 = .ok (.lload_n 1, 1) := by decide +kernel
theorem dL_free_5 : decode cL_free 5 = .ok (.lload_n 3, 1) := by decide +kernel
theorem dL_free_6 : decode cL_free 6 = .ok (.invokevirtual 33, 3) := by decide +kernel
theorem dL_free_9 : decode cL_free 9 = .ok (.lastore, 1) := by decide +kernel
theorem dL_free_10 : decode cL_free 10 = .ok (.goto 7, 3) := by decide +kernel
theorem dL_free_13 : decode cL_free 13 = .ok (.astore 6, 2) := by decide +kernel
theorem dL_free_15 : decode cL_free 15 = .ok (.iconst 1, 1) := by decide +kernel
theorem dL_free_16 : decode cL_free 16 = .ok (.ireturn, 1) := by decide +kernel
theorem dL_free_17 : decode cL_free 17 = .ok (.iconst 0, 1) := by decide +kernel
theorem dL_free_18 : decode cL_free 18 = .ok (.ireturn, 1) := by decide +kernel
theorem dX0_free_0 : decode cX0_free 0 = .ok (.aload_n 0, 1) := by decide +kernel
theorem dX0_free_1 : decode cX0_free 1 = .ok (.lload_n 1, 1) := by decide +kernel
theorem dX0_free_2 : decode cX0_free 2 = .ok (.lload_n 3, 1) := by decide +kernel
theorem dX0_free_3 : decode cX0_free 3 = .ok (.invokevirtual 44, 3) := by decide +kernel
theorem dX0_free_6 : decode cX0_free 6 = .ok (.aload_n 0, 1) := by decide +kernel
theorem dX0_free_7 : decode cX0_free 7 = .ok (.lload_n 1, 1) := by decide +kernel
theorem dX0_free_8 : decode cX0_free 8 = .ok (.aload_n 0, 1) := by decide +kernel
theorem dX0_free_9 : decode cX0_free 9 = .ok (.getfield 27, 3) := by decide +kernel
theorem dX0_free_12 : decode cX0_free 12 = .ok (.land, 1) := by decide +kernel
theorem dX0_free_13 : decode cX0_free 13 = .ok (.lload_n 3, 1) := by decide +kernel
theorem dX0_free_14 : decode cX0_free 14 = .ok (.aload_n 0, 1) := by decide +kernel
theorem dX0_free_15 : decode cX0_free 15 = .ok (.getfield 27, 3) := by decide +kernel
theorem dX0_free_18 : decode cX0_free 18 = .ok (.land, 1) := by decide +kernel
theorem dX0_free_19 : decode cX0_free 19 = .ok (.invokevirtual 69, 3) := by decide +kernel
theorem dX0_free_22 : decode cX0_free 22 = .ok (.lreturn, 1) := by decide +kernel
theorem dX0_freeWords_0 : decode cX0_freeWords 0 = .ok (.aload_n 0, 1) := by decide +kernel
theorem dX0_freeWords_1 : decode cX0_freeWords 1 = .ok (.lload_n 1, 1) := by decide +kernel
theorem dX0_freeWords_2 : decode cX0_freeWords 2 = .ok (.invokevirtual 106, 3) := by decide +kernel
theorem dX0_freeWords_5 : decode cX0_freeWords 5 = .ok (.lstore 5, 2) := by decide +kernel
theorem dX0_freeWords_7 : decode cX0_freeWords 7 = .ok (.iconst 0, 1) := by decide +kernel
theorem dX0_freeWords_8 : decode cX0_freeWords 8 = .ok (.istore 7, 2) := by decide +kernel
theorem dX0_freeWords_10 : decode cX0_freeWords 10 = .ok (.iload 7, 2) := by decide +kernel
theorem dX0_freeWords_12 : decode cX0_freeWords 12 = .ok (.aload_n 0, 1) := by decide +kernel
theorem dX0_freeWords_13 : decode cX0_freeWords 13 = .ok (.getfield 16, 3) := by decide +kernel
theorem dX0_freeWords_16 : decode cX0_freeWords 16 = .ok (.if_icmp .ge 38, 3) := by decide +kernel
theorem dX0_freeWords_19 : decode cX0_freeWords 19 = .ok (.aload_n 0, 1) := by decide +kernel
theorem dX0_freeWords_20 : decode cX0_freeWords 20 = .ok (.iload 7, 2) := by decide +kernel
theorem dX0_freeWords_22 : decode cX0_freeWords 22 = .ok (.lload_n 1, 1) := by decide +kernel
theorem dX0_freeWords_23 : decode cX0_freeWords 23 = .ok (.lload_n 3, 1) := by decide +kernel
theorem dX0_freeWords_24 : decode cX0_freeWords 24 = .ok (.invokevirtual 62, 3) := by decide +kernel
theorem dX0_freeWords_27 : decode cX0_freeWords 27 = .ok (.ifCond .eq 21, 3) := by decide +kernel
theorem dX0_freeWords_30 : decode cX0_freeWords 30 = .ok (.lload 5, 2) := by decide +kernel
theorem dX0_freeWords_32 : decode cX0_freeWords 32 = .ok (.aload_n 0, 1) := by decide +kernel
theorem dX0_freeWords_33 : decode cX0_freeWords 33 = .ok (.aload_n 0, 1) := by decide +kernel
theorem dX0_freeWords_34 : decode cX0_freeWords 34 = .ok (.getfield 9, 3) := by decide +kernel
theorem dX0_freeWords_37 : decode cX0_freeWords 37 = .ok (.iload 7, 2) := by decide +kernel
theorem dX0_freeWords_39 : decode cX0_freeWords 39 = .ok (.laload, 1) := by decide +kernel
theorem dX0_freeWords_40 : decode cX0_freeWords 40 = .ok (.lload_n 1, 1) := by decide +kernel
theorem dX0_freeWords_41 : decode cX0_freeWords 41 = .ok (.lor, 1) := by decide +kernel
theorem dX0_freeWords_42 : decode cX0_freeWords 42 = .ok (.invokevirtual 106, 3) := by decide +kernel
theorem dX0_freeWords_45 : decode cX0_freeWords 45 = .ok (.lsub, 1) := by decide +kernel
theorem dX0_freeWords_46 : decode cX0_freeWords 46 = .ok (.lstore 5, 2) := by decide +kernel
theorem dX0_freeWords_48 : decode cX0_freeWords 48 = .ok (.iinc 7 1, 3) := by decide +kernel
theorem dX0_freeWords_51 : decode cX0_freeWords 51 = .ok (.goto (-41), 3) := by decide +kernel
theorem dX0_freeWords_54 : decode cX0_freeWords 54 = .ok (.lload 5, 2) := by decide +kernel
end
section
theorem dX0_freeWords_56 : decode cX0_freeWords 56 = .ok (.lreturn, 1) := by decide +kernel
theorem dX0_wordsOf_0 : decode cX0_wordsOf 0 = .ok (.aload_n 0, 1) := by decide +kernel
theorem dX0_wordsOf_1 : decode cX0_wordsOf 1 = .ok (.getfield 20, 3) := by decide +kernel
theorem dX0_wordsOf_4 : decode cX0_wordsOf 4 = .ok (.lload_n 1, 1) := by decide +kernel
theorem dX0_wordsOf_5 : decode cX0_wordsOf 5 = .ok (.invokestatic 87, 3) := by decide +kernel
theorem dX0_wordsOf_8 : decode cX0_wordsOf 8 = .ok (.isub, 1) := by decide +kernel
theorem dX0_wordsOf_9 : decode cX0_wordsOf 9 = .ok (.istore_n 3, 1) := by decide +kernel
theorem dX0_wordsOf_10 : decode cX0_wordsOf 10 = .ok (.iload_n 3, 1) := by decide +kernel
theorem dX0_wordsOf_11 : decode cX0_wordsOf 11 = .ok (.bipush 64, 2) := by decide +kernel
theorem dX0_wordsOf_13 : decode cX0_wordsOf 13 = .ok (.if_icmp .lt 7, 3) := by decide +kernel
theorem dX0_wordsOf_16 : decode cX0_wordsOf 16 = .ok (.lconst 0, 1) := by decide +kernel
theorem dX0_wordsOf_17 : decode cX0_wordsOf 17 = .ok (.goto 6, 3) := by decide +kernel
theorem dX0_wordsOf_20 : decode cX0_wordsOf 20 = .ok (.lconst 1, 1) := by decide +kernel
theorem dX0_wordsOf_21 : decode cX0_wordsOf 21 = .ok (.iload_n 3, 1) := by decide +kernel
theorem dX0_wordsOf_22 : decode cX0_wordsOf 22 = .ok (.lshl, 1) := by decide +kernel
theorem dX0_wordsOf_23 : decode cX0_wordsOf 23 = .ok (.lreturn, 1) := by decide +kernel
theorem dL_next_0 : decode cL_next 0 = .ok (.aload_n 3, 1) := by decide +kernel
theorem dL_next_1 : decode cL_next 1 = .ok (.iconst 0, 1) := by decide +kernel
theorem dL_next_2 : decode cL_next 2 = .ok (.aload_n 0, 1) := by decide +kernel
theorem dL_next_3 : decode cL_next 3 = .ok (.lload_n 1, 1) := by decide +kernel
theorem dL_next_4 : decode cL_next 4 = .ok (.invokevirtual 37, 3) := by decide +kernel
theorem dL_next_7 : decode cL_next 7 = .ok (.lastore, 1) := by decide +kernel
theorem dL_next_8 : decode cL_next 8 = .ok (.goto 7, 3) := by decide +kernel
theorem dL_next_11 : decode cL_next 11 = .ok (.astore 4, 2) := by decide +kernel
theorem dL_next_13 : decode cL_next 13 = .ok (.iconst 1, 1) := by decide +kernel
theorem dL_next_14 : decode cL_next 14 = .ok (.ireturn, 1) := by decide +kernel
theorem dL_next_15 : decode cL_next 15 = .ok (.iconst 0, 1) := by decide +kernel
theorem dL_next_16 : decode cL_next 16 = .ok (.ireturn, 1) := by decide +kernel
theorem dX0_next_0 : decode cX0_next 0 = .ok (.lload_n 1, 1) := by decide +kernel
theorem dX0_next_1 : decode cX0_next 1 = .ok (.aload_n 0, 1) := by decide +kernel
theorem dX0_next_2 : decode cX0_next 2 = .ok (.getfield 27, 3) := by decide +kernel
theorem dX0_next_5 : decode cX0_next 5 = .ok (.land, 1) := by decide +kernel
theorem dX0_next_6 : decode cX0_next 6 = .ok (.lstore_n 3, 1) := by decide +kernel
theorem dX0_next_7 : decode cX0_next 7 = .ok (.aload_n 0, 1) := by decide +kernel
theorem dX0_next_8 : decode cX0_next 8 = .ok (.aload_n 0, 1) := by decide +kernel
theorem dX0_next_9 : decode cX0_next 9 = .ok (.getfield 27, 3) := by decide +kernel
theorem dX0_next_12 : decode cX0_next 12 = .ok (.lload_n 3, 1) := by decide +kernel
theorem dX0_next_13 : decode cX0_next 13 = .ok (.invokevirtual 66, 3) := by decide +kernel
theorem dX0_next_16 : decode cX0_next 16 = .ok (.iconst (-1), 1) := by decide +kernel
theorem dX0_next_17 : decode cX0_next 17 = .ok (.if_icmp .ne 5, 3) := by decide +kernel
theorem dX0_next_20 : decode cX0_next 20 = .ok (.lload_n 3, 1) := by decide +kernel
theorem dX0_next_21 : decode cX0_next 21 = .ok (.lreturn, 1) := by decide +kernel
theorem dX0_next_22 : decode cX0_next 22 = .ok (.iconst 0, 1) := by decide +kernel
theorem dX0_next_23 : decode cX0_next 23 = .ok (.istore 5, 2) := by decide +kernel
theorem dX0_next_25 : decode cX0_next 25 = .ok (.iload 5, 2) := by decide +kernel
theorem dX0_next_27 : decode cX0_next 27 = .ok (.aload_n 0, 1) := by decide +kernel
theorem dX0_next_28 : decode cX0_next 28 = .ok (.getfield 20, 3) := by decide +kernel
theorem dX0_next_31 : decode cX0_next 31 = .ok (.if_icmp .ge 61, 3) := by decide +kernel
theorem dX0_next_34 : decode cX0_next 34 = .ok (.lload_n 3, 1) := by decide +kernel
theorem dX0_next_35 : decode cX0_next 35 = .ok (.lconst 1, 1) := by decide +kernel
theorem dX0_next_36 : decode cX0_next 36 = .ok (.iload 5, 2) := by decide +kernel
theorem dX0_next_38 : decode cX0_next 38 = .ok (.lshl, 1) := by decide +kernel
theorem dX0_next_39 : decode cX0_next 39 = .ok (.lor, 1) := by decide +kernel
theorem dX0_next_40 : decode cX0_next 40 = .ok (.aload_n 0, 1) := by decide +kernel
theorem dX0_next_41 : decode cX0_next 41 = .ok (.iload 5, 2) := by decide +kernel
theorem dX0_next_43 : decode cX0_next 43 = .ok (.invokevirtual 73, 3) := by decide +kernel
theorem dX0_next_46 : decode cX0_next 46 = .ok (.land, 1) := by decide +kernel
theorem dX0_next_47 : decode cX0_next 47 = .ok (.lstore 6, 2) := by decide +kernel
theorem dX0_next_49 : decode cX0_next 49 = .ok (.lload_n 3, 1) := by decide +kernel
theorem dX0_next_50 : decode cX0_next 50 = .ok (.iload 5, 2) := by decide +kernel
theorem dX0_next_52 : decode cX0_next 52 = .ok (.lushr, 1) := by decide +kernel
theorem dX0_next_53 : decode cX0_next 53 = .ok (.lconst 1, 1) := by decide +kernel
theorem dX0_next_54 : decode cX0_next 54 = .ok (.land, 1) := by decide +kernel
theorem dX0_next_55 : decode cX0_next 55 = .ok (.lconst 0, 1) := by decide +kernel
theorem dX0_next_56 : decode cX0_next 56 = .ok (.lcmp, 1) := by decide +kernel
theorem dX0_next_57 : decode cX0_next 57 = .ok (.ifCond .ne 29, 3) := by decide +kernel
theorem dX0_next_60 : decode cX0_next 60 = .ok (.aload_n 0, 1) := by decide +kernel
theorem dX0_next_61 : decode cX0_next 61 = .ok (.aload_n 0, 1) := by decide +kernel
theorem dX0_next_62 : decode cX0_next 62 = .ok (.iload 5, 2) := by decide +kernel
theorem dX0_next_64 : decode cX0_next 64 = .ok (.invokevirtual 73, 3) := by decide +kernel
theorem dX0_next_67 : decode cX0_next 67 = .ok (.lload 6, 2) := by decide +kernel
theorem dX0_next_69 : decode cX0_next 69 = .ok (.invokevirtual 69, 3) := by decide +kernel
theorem dX0_next_72 : decode cX0_next 72 = .ok (.lconst 0, 1) := by decide +kernel
theorem dX0_next_73 : decode cX0_next 73 = .ok (.lcmp, 1) := by decide +kernel
theorem dX0_next_74 : decode cX0_next 74 = .ok (.ifCond .eq 12, 3) := by decide +kernel
theorem dX0_next_77 : decode cX0_next 77 = .ok (.aload_n 0, 1) := by decide +kernel
theorem dX0_next_78 : decode cX0_next 78 = .ok (.iload 5, 2) := by decide +kernel
theorem dX0_next_80 : decode cX0_next 80 = .ok (.lload 6, 2) := by decide +kernel
theorem dX0_next_82 : decode cX0_next 82 = .ok (.invokevirtual 76, 3) := by decide +kernel
theorem dX0_next_85 : decode cX0_next 85 = .ok (.lreturn, 1) := by decide +kernel
theorem dX0_next_86 : decode cX0_next 86 = .ok (.iinc 5 1, 3) := by decide +kernel
theorem dX0_next_89 : decode cX0_next 89 = .ok (.goto (-64), 3) := by decide +kernel
theorem dX0_next_92 : decode cX0_next 92 = .ok (.new 80, 3) := by decide +kernel
theorem dX0_next_95 : decode cX0_next 95 = .ok (.dup, 1) := by decide +kernel
theorem dX0_next_96 : decode cX0_next 96 = .ok (.ldc 82, 2) := by decide +kernel
theorem dX0_next_98 : decode cX0_next 98 = .ok (.invokespecial 84, 3) := by decide +kernel
theorem dX0_next_101 : decode cX0_next 101 = .ok (.athrow, 1) := by decide +kernel
theorem dX0_bitsFrom_0 : decode cX0_bitsFrom 0 = .ok (.aload_n 0, 1) := by decide +kernel
theorem dX0_bitsFrom_1 : decode cX0_bitsFrom 1 = .ok (.getfield 27, 3) := by decide +kernel
theorem dX0_bitsFrom_4 : decode cX0_bitsFrom 4 = .ok (.ldc2_w 93, 3) := by decide +kernel
theorem dX0_bitsFrom_7 : decode cX0_bitsFrom 7 = .ok (.iload_n 1, 1) := by decide +kernel
theorem dX0_bitsFrom_8 : decode cX0_bitsFrom 8 = .ok (.lshl, 1) := by decide +kernel
theorem dX0_bitsFrom_9 : decode cX0_bitsFrom 9 = .ok (.land, 1) := by decide +kernel
theorem dX0_bitsFrom_10 : decode cX0_bitsFrom 10 = .ok (.lreturn, 1) := by decide +kernel
theorem dX0_leastFree_0 : decode cX0_leastFree 0 = .ok (.lload_n 2, 1) := by decide +kernel
theorem dX0_leastFree_1 : decode cX0_leastFree 1 = .ok (.lstore 4, 2) := by decide +kernel
theorem dX0_leastFree_3 : decode cX0_leastFree 3 = .ok (.iload_n 1, 1) := by decide +kernel
theorem dX0_leastFree_4 : decode cX0_leastFree 4 = .ok (.iconst 1, 1) := by decide +kernel
theorem dX0_leastFree_5 : decode cX0_leastFree 5 = .ok (.isub, 1) := by decide +kernel
theorem dX0_leastFree_6 : decode cX0_leastFree 6 = .ok (.istore 6, 2) := by decide +kernel
theorem dX0_leastFree_8 : decode cX0_leastFree 8 = .ok (.iload 6, 2) := by decide +kernel
theorem dX0_leastFree_10 : decode cX0_leastFree 10 = .ok (.ifCond .lt 35, 3) := by decide +kernel
theorem dX0_leastFree_13 : decode cX0_leastFree 13 = .ok (.aload_n 0, 1) := by decide +kernel
theorem dX0_leastFree_14 : decode cX0_leastFree 14 = .ok (.aload_n 0, 1) := by decide +kernel
theorem dX0_leastFree_15 : decode cX0_leastFree 15 = .ok (.iload 6, 2) := by decide +kernel
theorem dX0_leastFree_17 : decode cX0_leastFree 17 = .ok (.invokevirtual 73, 3) := by decide +kernel
theorem dX0_leastFree_20 : decode cX0_leastFree 20 = .ok (.lload 4, 2) := by decide +kernel
theorem dX0_leastFree_22 : decode cX0_leastFree 22 = .ok (.invokevirtual 69, 3) := by decide +kernel
theorem dX0_leastFree_25 : decode cX0_leastFree 25 = .ok (.lconst 0, 1) := by decide +kernel
theorem dX0_leastFree_26 : decode cX0_leastFree 26 = .ok (.lcmp, 1) := by decide +kernel
theorem dX0_leastFree_27 : decode cX0_leastFree 27 = .ok (.ifCond .ne 12, 3) := by decide +kernel
theorem dX0_leastFree_30 : decode cX0_leastFree 30 = .ok (.lload 4, 2) := by decide +kernel
theorem dX0_leastFree_32 : decode cX0_leastFree 32 = .ok (.lconst 1, 1) := by decide +kernel
theorem dX0_leastFree_33 : decode cX0_leastFree 33 = .ok (.iload 6, 2) := by decide +kernel
theorem dX0_leastFree_35 : decode cX0_leastFree 35 = .ok (.lshl, 1) := by decide +kernel
theorem dX0_leastFree_36 : decode cX0_leastFree 36 = .ok (.lor, 1) := by decide +kernel
theorem dX0_leastFree_37 : decode cX0_leastFree 37 = .ok (.lstore 4, 2) := by decide +kernel
theorem dX0_leastFree_39 : decode cX0_leastFree 39 = .ok (.iinc 6 (-1), 3) := by decide +kernel
theorem dX0_leastFree_42 : decode cX0_leastFree 42 = .ok (.goto (-34), 3) := by decide +kernel
theorem dX0_leastFree_45 : decode cX0_leastFree 45 = .ok (.lload 4, 2) := by decide +kernel
theorem dX0_leastFree_47 : decode cX0_leastFree 47 = .ok (.lreturn, 1) := by decide +kernel
theorem dL_told_0 : decode cL_told 0 = .ok (.aload_n 3, 1) := by decide +kernel
theorem dL_told_1 : decode cL_told 1 = .ok (.iconst 0, 1) := by decide +kernel
theorem dL_told_2 : decode cL_told 2 = .ok (.aload_n 0, 1) := by decide +kernel
theorem dL_told_3 : decode cL_told 3 = .ok (.iload_n 1, 1) := by decide +kernel
theorem dL_told_4 : decode cL_told 4 = .ok (.iload_n 2, 1) := by decide +kernel
theorem dL_told_5 : decode cL_told 5 = .ok (.invokevirtual 41, 3) := by decide +kernel
theorem dL_told_8 : decode cL_told 8 = .ok (.lastore, 1) := by decide +kernel
theorem dL_told_9 : decode cL_told 9 = .ok (.goto 11, 3) := by decide +kernel
theorem dL_told_12 : decode cL_told 12 = .ok (.astore 4, 2) := by decide +kernel
theorem dL_told_14 : decode cL_told 14 = .ok (.iconst 1, 1) := by decide +kernel
theorem dL_told_15 : decode cL_told 15 = .ok (.ireturn, 1) := by decide +kernel
theorem dL_told_16 : decode cL_told 16 = .ok (.astore 4, 2) := by decide +kernel
theorem dL_told_18 : decode cL_told 18 = .ok (.iconst 2, 1) := by decide +kernel
theorem dL_told_19 : decode cL_told 19 = .ok (.ireturn, 1) := by decide +kernel
theorem dL_told_20 : decode cL_told 20 = .ok (.iconst 0, 1) := by decide +kernel
theorem dL_told_21 : decode cL_told 21 = .ok (.ireturn, 1) := by decide +kernel
theorem dX0_told_0 : decode cX0_told 0 = .ok (.iload_n 2, 1) := by decide +kernel
theorem dX0_told_1 : decode cX0_told 1 = .ok (.ifCond .lt 8, 3) := by decide +kernel
theorem dX0_told_4 : decode cX0_told 4 = .ok (.iload_n 2, 1) := by decide +kernel
theorem dX0_told_5 : decode cX0_told 5 = .ok (.iconst 2, 1) := by decide +kernel
theorem dX0_told_6 : decode cX0_told 6 = .ok (.if_icmp .le 13, 3) := by decide +kernel
theorem dX0_told_9 : decode cX0_told 9 = .ok (.new 37, 3) := by decide +kernel
theorem dX0_told_12 : decode cX0_told 12 = .ok (.dup, 1) := by decide +kernel
theorem dX0_told_13 : decode cX0_told 13 = .ok (.ldc 85, 2) := by decide +kernel
theorem dX0_told_15 : decode cX0_told 15 = .ok (.invokespecial 41, 3) := by decide +kernel
theorem dX0_told_18 : decode cX0_told 18 = .ok (.athrow, 1) := by decide +kernel
theorem dX0_told_19 : decode cX0_told 19 = .ok (.aload_n 0, 1) := by decide +kernel
theorem dX0_told_20 : decode cX0_told 20 = .ok (.iload_n 1, 1) := by decide +kernel
theorem dX0_told_21 : decode cX0_told 21 = .ok (.invokevirtual 58, 3) := by decide +kernel
theorem dX0_told_24 : decode cX0_told 24 = .ok (.iload_n 2, 1) := by decide +kernel
theorem dX0_told_25 : decode cX0_told 25 = .ok (.ifCond .ne 10, 3) := by decide +kernel
theorem dX0_told_28 : decode cX0_told 28 = .ok (.aload_n 0, 1) := by decide +kernel
theorem dX0_told_29 : decode cX0_told 29 = .ok (.getfield 9, 3) := by decide +kernel
theorem dX0_told_32 : decode cX0_told 32 = .ok (.iload_n 1, 1) := by decide +kernel
theorem dX0_told_33 : decode cX0_told 33 = .ok (.laload, 1) := by decide +kernel
theorem dX0_told_34 : decode cX0_told 34 = .ok (.lreturn, 1) := by decide +kernel
theorem dX0_told_35 : decode cX0_told 35 = .ok (.iload_n 2, 1) := by decide +kernel
theorem dX0_told_36 : decode cX0_told 36 = .ok (.iconst 1, 1) := by decide +kernel
theorem dX0_told_37 : decode cX0_told 37 = .ok (.if_icmp .ne 10, 3) := by decide +kernel
theorem dX0_told_40 : decode cX0_told 40 = .ok (.aload_n 0, 1) := by decide +kernel
theorem dX0_told_41 : decode cX0_told 41 = .ok (.getfield 13, 3) := by decide +kernel
theorem dX0_told_44 : decode cX0_told 44 = .ok (.iload_n 1, 1) := by decide +kernel
theorem dX0_told_45 : decode cX0_told 45 = .ok (.laload, 1) := by decide +kernel
theorem dX0_told_46 : decode cX0_told 46 = .ok (.lreturn, 1) := by decide +kernel
theorem dX0_told_47 : decode cX0_told 47 = .ok (.aload_n 0, 1) := by decide +kernel
theorem dX0_told_48 : decode cX0_told 48 = .ok (.getfield 20, 3) := by decide +kernel
theorem dX0_told_51 : decode cX0_told 51 = .ok (.aload_n 0, 1) := by decide +kernel
theorem dX0_told_52 : decode cX0_told 52 = .ok (.getfield 9, 3) := by decide +kernel
theorem dX0_told_55 : decode cX0_told 55 = .ok (.iload_n 1, 1) := by decide +kernel
theorem dX0_told_56 : decode cX0_told 56 = .ok (.laload, 1) := by decide +kernel
theorem dX0_told_57 : decode cX0_told 57 = .ok (.invokestatic 87, 3) := by decide +kernel
theorem dX0_told_60 : decode cX0_told 60 = .ok (.isub, 1) := by decide +kernel
theorem dX0_told_61 : decode cX0_told 61 = .ok (.i2l, 1) := by decide +kernel
theorem dX0_told_62 : decode cX0_told 62 = .ok (.lreturn, 1) := by decide +kernel
theorem dX1_init_0 : decode cX1_init 0 = .ok (.aload_n 0, 1) := by decide +kernel
theorem dX1_init_1 : decode cX1_init 1 = .ok (.invokespecial 1, 3) := by decide +kernel
theorem dX1_init_4 : decode cX1_init 4 = .ok (.aload_n 0, 1) := by decide +kernel
theorem dX1_init_5 : decode cX1_init 5 = .ok (.sipush 512, 3) := by decide +kernel
theorem dX1_init_8 : decode cX1_init 8 = .ok (.newarray .long, 2) := by decide +kernel
theorem dX1_init_10 : decode cX1_init 10 = .ok (.putfield 7, 3) := by decide +kernel
theorem dX1_init_13 : decode cX1_init 13 = .ok (.aload_n 0, 1) := by decide +kernel
theorem dX1_init_14 : decode cX1_init 14 = .ok (.sipush 512, 3) := by decide +kernel
theorem dX1_init_17 : decode cX1_init 17 = .ok (.newarray .long, 2) := by decide +kernel
theorem dX1_init_19 : decode cX1_init 19 = .ok (.putfield 13, 3) := by decide +kernel
theorem dX1_init_22 : decode cX1_init 22 = .ok (.aload_n 0, 1) := by decide +kernel
theorem dX1_init_23 : decode cX1_init 23 = .ok (.bipush 32, 2) := by decide +kernel
theorem dX1_init_25 : decode cX1_init 25 = .ok (.putfield 16, 3) := by decide +kernel
theorem dX1_init_28 : decode cX1_init 28 = .ok (.aload_n 0, 1) := by decide +kernel
theorem dX1_init_29 : decode cX1_init 29 = .ok (.iconst (-1), 1) := by decide +kernel
theorem dX1_init_30 : decode cX1_init 30 = .ok (.putfield 20, 3) := by decide +kernel
theorem dX1_init_33 : decode cX1_init 33 = .ok (.return_, 1) := by decide +kernel
theorem dX1_thrown_0 : decode cX1_thrown 0 = .ok (.aload_n 0, 1) := by decide +kernel
theorem dX1_thrown_1 : decode cX1_thrown 1 = .ok (.getfield 23, 3) := by decide +kernel
theorem dX1_thrown_4 : decode cX1_thrown 4 = .ok (.ireturn, 1) := by decide +kernel
theorem dX1_clear_0 : decode cX1_clear 0 = .ok (.aload_n 0, 1) := by decide +kernel
theorem dX1_clear_1 : decode cX1_clear 1 = .ok (.iconst 0, 1) := by decide +kernel
theorem dX1_clear_2 : decode cX1_clear 2 = .ok (.putfield 23, 3) := by decide +kernel
theorem dX1_clear_5 : decode cX1_clear 5 = .ok (.iload_n 1, 1) := by decide +kernel
theorem dX1_clear_6 : decode cX1_clear 6 = .ok (.iconst 1, 1) := by decide +kernel
theorem dX1_clear_7 : decode cX1_clear 7 = .ok (.if_icmp .lt 9, 3) := by decide +kernel
theorem dX1_clear_10 : decode cX1_clear 10 = .ok (.iload_n 1, 1) := by decide +kernel
theorem dX1_clear_11 : decode cX1_clear 11 = .ok (.bipush 64, 2) := by decide +kernel
theorem dX1_clear_13 : decode cX1_clear 13 = .ok (.if_icmp .le 12, 3) := by decide +kernel
theorem dX1_clear_16 : decode cX1_clear 16 = .ok (.aload_n 0, 1) := by decide +kernel
theorem dX1_clear_17 : decode cX1_clear 17 = .ok (.iconst 1, 1) := by decide +kernel
theorem dX1_clear_18 : decode cX1_clear 18 = .ok (.invokevirtual 39, 3) := by decide +kernel
theorem dX1_clear_21 : decode cX1_clear 21 = .ok (.pop, 1) := by decide +kernel
theorem dX1_clear_22 : decode cX1_clear 22 = .ok (.goto 13, 3) := by decide +kernel
theorem dX1_clear_25 : decode cX1_clear 25 = .ok (.aload_n 0, 1) := by decide +kernel
theorem dX1_clear_26 : decode cX1_clear 26 = .ok (.iconst 0, 1) := by decide +kernel
theorem dX1_clear_27 : decode cX1_clear 27 = .ok (.putfield 32, 3) := by decide +kernel
theorem dX1_clear_30 : decode cX1_clear 30 = .ok (.aload_n 0, 1) := by decide +kernel
theorem dX1_clear_31 : decode cX1_clear 31 = .ok (.iload_n 1, 1) := by decide +kernel
theorem dX1_clear_32 : decode cX1_clear 32 = .ok (.putfield 16, 3) := by decide +kernel
theorem dX1_clear_35 : decode cX1_clear 35 = .ok (.return_, 1) := by decide +kernel
theorem dX1_fail_0 : decode cX1_fail 0 = .ok (.aload_n 0, 1) := by decide +kernel
theorem dX1_fail_1 : decode cX1_fail 1 = .ok (.iload_n 1, 1) := by decide +kernel
theorem dX1_fail_2 : decode cX1_fail 2 = .ok (.putfield 23, 3) := by decide +kernel
theorem dX1_fail_5 : decode cX1_fail 5 = .ok (.iconst 0, 1) := by decide +kernel
theorem dX1_fail_6 : decode cX1_fail 6 = .ok (.ireturn, 1) := by decide +kernel
theorem dX1_add_0 : decode cX1_add 0 = .ok (.aload_n 0, 1) := by decide +kernel
theorem dX1_add_1 : decode cX1_add 1 = .ok (.iconst 0, 1) := by decide +kernel
theorem dX1_add_2 : decode cX1_add 2 = .ok (.putfield 23, 3) := by decide +kernel
theorem dX1_add_5 : decode cX1_add 5 = .ok (.aload_n 0, 1) := by decide +kernel
theorem dX1_add_6 : decode cX1_add 6 = .ok (.lload_n 1, 1) := by decide +kernel
theorem dX1_add_7 : decode cX1_add 7 = .ok (.lload_n 3, 1) := by decide +kernel
theorem dX1_add_8 : decode cX1_add 8 = .ok (.invokevirtual 43, 3) := by decide +kernel
theorem dX1_add_11 : decode cX1_add 11 = .ok (.ifCond .eq 9, 3) := by decide +kernel
theorem dX1_add_14 : decode cX1_add 14 = .ok (.aload_n 0, 1) := by decide +kernel
theorem dX1_add_15 : decode cX1_add 15 = .ok (.iconst 1, 1) := by decide +kernel
theorem dX1_add_16 : decode cX1_add 16 = .ok (.invokevirtual 39, 3) := by decide +kernel
theorem dX1_add_19 : decode cX1_add 19 = .ok (.ireturn, 1) := by decide +kernel
theorem dX1_add_20 : decode cX1_add 20 = .ok (.aload_n 0, 1) := by decide +kernel
theorem dX1_add_21 : decode cX1_add 21 = .ok (.getfield 32, 3) := by decide +kernel
theorem dX1_add_24 : decode cX1_add 24 = .ok (.sipush 512, 3) := by decide +kernel
theorem dX1_add_27 : decode cX1_add 27 = .ok (.if_icmp .ne 7, 3) := by decide +kernel
theorem dX1_add_30 : decode cX1_add 30 = .ok (.iconst (-1), 1) := by decide +kernel
theorem dX1_add_31 : decode cX1_add 31 = .ok (.goto 9, 3) := by decide +kernel
theorem dX1_add_34 : decode cX1_add 34 = .ok (.aload_n 0, 1) := by decide +kernel
theorem dX1_add_35 : decode cX1_add 35 = .ok (.lload_n 1, 1) := by decide +kernel
theorem dX1_add_36 : decode cX1_add 36 = .ok (.lload_n 3, 1) := by decide +kernel
theorem dX1_add_37 : decode cX1_add 37 = .ok (.invokevirtual 47, 3) := by decide +kernel
theorem dX1_add_40 : decode cX1_add 40 = .ok (.istore 5, 2) := by decide +kernel
theorem dX1_add_42 : decode cX1_add 42 = .ok (.aload_n 0, 1) := by decide +kernel
theorem dX1_add_43 : decode cX1_add 43 = .ok (.getfield 32, 3) := by decide +kernel
theorem dX1_add_46 : decode cX1_add 46 = .ok (.sipush 512, 3) := by decide +kernel
theorem dX1_add_49 : decode cX1_add 49 = .ok (.if_icmp .eq 8, 3) := by decide +kernel
theorem dX1_add_52 : decode cX1_add 52 = .ok (.iload 5, 2) := by decide +kernel
theorem dX1_add_54 : decode cX1_add 54 = .ok (.ifCond .lt 15, 3) := by decide +kernel
theorem dX1_add_57 : decode cX1_add 57 = .ok (.aload_n 0, 1) := by decide +kernel
theorem dX1_add_58 : decode cX1_add 58 = .ok (.iload 5, 2) := by decide +kernel
theorem dX1_add_60 : decode cX1_add 60 = .ok (.putfield 20, 3) := by decide +kernel
theorem dX1_add_63 : decode cX1_add 63 = .ok (.aload_n 0, 1) := by decide +kernel
theorem dX1_add_64 : decode cX1_add 64 = .ok (.iconst 2, 1) := by decide +kernel
theorem dX1_add_65 : decode cX1_add 65 = .ok (.invokevirtual 39, 3) := by decide +kernel
theorem dX1_add_68 : decode cX1_add 68 = .ok (.ireturn, 1) := by decide +kernel
theorem dX1_add_69 : decode cX1_add 69 = .ok (.aload_n 0, 1) := by decide +kernel
theorem dX1_add_70 : decode cX1_add 70 = .ok (.getfield 7, 3) := by decide +kernel
theorem dX1_add_73 : decode cX1_add 73 = .ok (.aload_n 0, 1) := by decide +kernel
theorem dX1_add_74 : decode cX1_add 74 = .ok (.getfield 32, 3) := by decide +kernel
theorem dX1_add_77 : decode cX1_add 77 = .ok (.lload_n 1, 1) := by decide +kernel
theorem dX1_add_78 : decode cX1_add 78 = .ok (.aload_n 0, 1) := by decide +kernel
theorem dX1_add_79 : decode cX1_add 79 = .ok (.invokevirtual 28, 3) := by decide +kernel
theorem dX1_add_82 : decode cX1_add 82 = .ok (.land, 1) := by decide +kernel
theorem dX1_add_83 : decode cX1_add 83 = .ok (.lastore, 1) := by decide +kernel
theorem dX1_add_84 : decode cX1_add 84 = .ok (.aload_n 0, 1) := by decide +kernel
theorem dX1_add_85 : decode cX1_add 85 = .ok (.getfield 13, 3) := by decide +kernel
theorem dX1_add_88 : decode cX1_add 88 = .ok (.aload_n 0, 1) := by decide +kernel
theorem dX1_add_89 : decode cX1_add 89 = .ok (.getfield 32, 3) := by decide +kernel
theorem dX1_add_92 : decode cX1_add 92 = .ok (.lload_n 3, 1) := by decide +kernel
theorem dX1_add_93 : decode cX1_add 93 = .ok (.aload_n 0, 1) := by decide +kernel
theorem dX1_add_94 : decode cX1_add 94 = .ok (.invokevirtual 28, 3) := by decide +kernel
theorem dX1_add_97 : decode cX1_add 97 = .ok (.land, 1) := by decide +kernel
theorem dX1_add_98 : decode cX1_add 98 = .ok (.lastore, 1) := by decide +kernel
theorem dX1_add_99 : decode cX1_add 99 = .ok (.aload_n 0, 1) := by decide +kernel
theorem dX1_add_100 : decode cX1_add 100 = .ok (.dup, 1) := by decide +kernel
theorem dX1_add_101 : decode cX1_add 101 = .ok (.getfield 32, 3) := by decide +kernel
theorem dX1_add_104 : decode cX1_add 104 = .ok (.iconst 1, 1) := by decide +kernel
theorem dX1_add_105 : decode cX1_add 105 = .ok (.iadd, 1) := by decide +kernel
theorem dX1_add_106 : decode cX1_add 106 = .ok (.putfield 32, 3) := by decide +kernel
theorem dX1_add_109 : decode cX1_add 109 = .ok (.aload_n 0, 1) := by decide +kernel
theorem dX1_add_110 : decode cX1_add 110 = .ok (.getfield 32, 3) := by decide +kernel
theorem dX1_add_113 : decode cX1_add 113 = .ok (.iconst 1, 1) := by decide +kernel
theorem dX1_add_114 : decode cX1_add 114 = .ok (.isub, 1) := by decide +kernel
theorem dX1_add_115 : decode cX1_add 115 = .ok (.ireturn, 1) := by decide +kernel
theorem dX1_wrong_0 : decode cX1_wrong 0 = .ok (.lload_n 3, 1) := by decide +kernel
theorem dX1_wrong_1 : decode cX1_wrong 1 = .ok (.lload_n 1, 1) := by decide +kernel
theorem dX1_wrong_2 : decode cX1_wrong 2 = .ok (.ldc2_w 26, 3) := by decide +kernel
theorem dX1_wrong_5 : decode cX1_wrong 5 = .ok (.lxor, 1) := by decide +kernel
theorem dX1_wrong_6 : decode cX1_wrong 6 = .ok (.land, 1) := by decide +kernel
theorem dX1_wrong_7 : decode cX1_wrong 7 = .ok (.aload_n 0, 1) := by decide +kernel
theorem dX1_wrong_8 : decode cX1_wrong 8 = .ok (.invokevirtual 28, 3) := by decide +kernel
theorem dX1_wrong_11 : decode cX1_wrong 11 = .ok (.land, 1) := by decide +kernel
theorem dX1_wrong_12 : decode cX1_wrong 12 = .ok (.lconst 0, 1) := by decide +kernel
theorem dX1_wrong_13 : decode cX1_wrong 13 = .ok (.lcmp, 1) := by decide +kernel
theorem dX1_wrong_14 : decode cX1_wrong 14 = .ok (.ifCond .eq 7, 3) := by decide +kernel
theorem dX1_wrong_17 : decode cX1_wrong 17 = .ok (.iconst 1, 1) := by decide +kernel
theorem dX1_wrong_18 : decode cX1_wrong 18 = .ok (.goto 4, 3) := by decide +kernel
theorem dX1_wrong_21 : decode cX1_wrong 21 = .ok (.iconst 0, 1) := by decide +kernel
theorem dX1_wrong_22 : decode cX1_wrong 22 = .ok (.ireturn, 1) := by decide +kernel
theorem dX1_mask_0 : decode cX1_mask 0 = .ok (.aload_n 0, 1) := by decide +kernel
theorem dX1_mask_1 : decode cX1_mask 1 = .ok (.getfield 16, 3) := by decide +kernel
theorem dX1_mask_4 : decode cX1_mask 4 = .ok (.bipush 64, 2) := by decide +kernel
theorem dX1_mask_6 : decode cX1_mask 6 = .ok (.if_icmp .ne 9, 3) := by decide +kernel
theorem dX1_mask_9 : decode cX1_mask 9 = .ok (.ldc2_w 26, 3) := by decide +kernel
theorem dX1_mask_12 : decode cX1_mask 12 = .ok (.goto 11, 3) := by decide +kernel
theorem dX1_mask_15 : decode cX1_mask 15 = .ok (.lconst 1, 1) := by decide +kernel
theorem dX1_mask_16 : decode cX1_mask 16 = .ok (.aload_n 0, 1) := by decide +kernel
theorem dX1_mask_17 : decode cX1_mask 17 = .ok (.getfield 16, 3) := by decide +kernel
theorem dX1_mask_20 : decode cX1_mask 20 = .ok (.lshl, 1) := by decide +kernel
theorem dX1_mask_21 : decode cX1_mask 21 = .ok (.lconst 1, 1) := by decide +kernel
theorem dX1_mask_22 : decode cX1_mask 22 = .ok (.lsub, 1) := by decide +kernel
theorem dX1_mask_23 : decode cX1_mask 23 = .ok (.lreturn, 1) := by decide +kernel
theorem dX1_first_0 : decode cX1_first 0 = .ok (.iconst 0, 1) := by decide +kernel
theorem dX1_first_1 : decode cX1_first 1 = .ok (.istore 5, 2) := by decide +kernel
theorem dX1_first_3 : decode cX1_first 3 = .ok (.iload 5, 2) := by decide +kernel
theorem dX1_first_5 : decode cX1_first 5 = .ok (.aload_n 0, 1) := by decide +kernel
theorem dX1_first_6 : decode cX1_first 6 = .ok (.getfield 32, 3) := by decide +kernel
theorem dX1_first_9 : decode cX1_first 9 = .ok (.if_icmp .ge 23, 3) := by decide +kernel
theorem dX1_first_12 : decode cX1_first 12 = .ok (.aload_n 0, 1) := by decide +kernel
theorem dX1_first_13 : decode cX1_first 13 = .ok (.iload 5, 2) := by decide +kernel
theorem dX1_first_15 : decode cX1_first 15 = .ok (.lload_n 1, 1) := by decide +kernel
theorem dX1_first_16 : decode cX1_first 16 = .ok (.lload_n 3, 1) := by decide +kernel
theorem dX1_first_17 : decode cX1_first 17 = .ok (.invokevirtual 35, 3) := by decide +kernel
theorem dX1_first_20 : decode cX1_first 20 = .ok (.ifCond .eq 6, 3) := by decide +kernel
theorem dX1_first_23 : decode cX1_first 23 = .ok (.iload 5, 2) := by decide +kernel
theorem dX1_first_25 : decode cX1_first 25 = .ok (.ireturn, 1) := by decide +kernel
theorem dX1_first_26 : decode cX1_first 26 = .ok (.iinc 5 1, 3) := by decide +kernel
theorem dX1_first_29 : decode cX1_first 29 = .ok (.goto (-26), 3) := by decide +kernel
theorem dX1_first_32 : decode cX1_first 32 = .ok (.iconst (-1), 1) := by decide +kernel
theorem dX1_first_33 : decode cX1_first 33 = .ok (.ireturn, 1) := by decide +kernel
theorem dX1_meet_0 : decode cX1_meet 0 = .ok (.aload_n 0, 1) := by decide +kernel
theorem dX1_meet_1 : decode cX1_meet 1 = .ok (.getfield 13, 3) := by decide +kernel
theorem dX1_meet_4 : decode cX1_meet 4 = .ok (.iload_n 1, 1) := by decide +kernel
theorem dX1_meet_5 : decode cX1_meet 5 = .ok (.laload, 1) := by decide +kernel
theorem dX1_meet_6 : decode cX1_meet 6 = .ok (.lload 4, 2) := by decide +kernel
theorem dX1_meet_8 : decode cX1_meet 8 = .ok (.lxor, 1) := by decide +kernel
theorem dX1_meet_9 : decode cX1_meet 9 = .ok (.aload_n 0, 1) := by decide +kernel
theorem dX1_meet_10 : decode cX1_meet 10 = .ok (.getfield 7, 3) := by decide +kernel
theorem dX1_meet_13 : decode cX1_meet 13 = .ok (.iload_n 1, 1) := by decide +kernel
theorem dX1_meet_14 : decode cX1_meet 14 = .ok (.laload, 1) := by decide +kernel
theorem dX1_meet_15 : decode cX1_meet 15 = .ok (.land, 1) := by decide +kernel
theorem dX1_meet_16 : decode cX1_meet 16 = .ok (.lload_n 2, 1) := by decide +kernel
theorem dX1_meet_17 : decode cX1_meet 17 = .ok (.land, 1) := by decide +kernel
theorem dX1_meet_18 : decode cX1_meet 18 = .ok (.aload_n 0, 1) := by decide +kernel
theorem dX1_meet_19 : decode cX1_meet 19 = .ok (.invokevirtual 28, 3) := by decide +kernel
theorem dX1_meet_22 : decode cX1_meet 22 = .ok (.land, 1) := by decide +kernel
theorem dX1_meet_23 : decode cX1_meet 23 = .ok (.lconst 0, 1) := by decide +kernel
theorem dX1_meet_24 : decode cX1_meet 24 = .ok (.lcmp, 1) := by decide +kernel
theorem dX1_meet_25 : decode cX1_meet 25 = .ok (.ifCond .ne 7, 3) := by decide +kernel
theorem dX1_meet_28 : decode cX1_meet 28 = .ok (.iconst 1, 1) := by decide +kernel
theorem dX1_meet_29 : decode cX1_meet 29 = .ok (.goto 4, 3) := by decide +kernel
theorem dX1_meet_32 : decode cX1_meet 32 = .ok (.iconst 0, 1) := by decide +kernel
theorem dX1_meet_33 : decode cX1_meet 33 = .ok (.ireturn, 1) := by decide +kernel
theorem dX1_signs_0 : decode cX1_signs 0 = .ok (.aload_n 0, 1) := by decide +kernel
theorem dX1_signs_1 : decode cX1_signs 1 = .ok (.iconst 0, 1) := by decide +kernel
theorem dX1_signs_2 : decode cX1_signs 2 = .ok (.putfield 23, 3) := by decide +kernel
theorem dX1_signs_5 : decode cX1_signs 5 = .ok (.lload_n 1, 1) := by decide +kernel
theorem dX1_signs_6 : decode cX1_signs 6 = .ok (.lconst 0, 1) := by decide +kernel
theorem dX1_signs_7 : decode cX1_signs 7 = .ok (.lcmp, 1) := by decide +kernel
theorem dX1_signs_8 : decode cX1_signs 8 = .ok (.ifCond .ge 9, 3) := by decide +kernel
theorem dX1_signs_11 : decode cX1_signs 11 = .ok (.aload_n 0, 1) := by decide +kernel
theorem dX1_signs_12 : decode cX1_signs 12 = .ok (.iconst 1, 1) := by decide +kernel
theorem dX1_signs_13 : decode cX1_signs 13 = .ok (.invokevirtual 39, 3) := by decide +kernel
theorem dX1_signs_16 : decode cX1_signs 16 = .ok (.ireturn, 1) := by decide +kernel
theorem dX1_signs_17 : decode cX1_signs 17 = .ok (.lconst 0, 1) := by decide +kernel
theorem dX1_signs_18 : decode cX1_signs 18 = .ok (.lstore_n 3, 1) := by decide +kernel
theorem dX1_signs_19 : decode cX1_signs 19 = .ok (.lconst 0, 1) := by decide +kernel
theorem dX1_signs_20 : decode cX1_signs 20 = .ok (.lstore 5, 2) := by decide +kernel
theorem dX1_signs_22 : decode cX1_signs 22 = .ok (.lload_n 1, 1) := by decide +kernel
theorem dX1_signs_23 : decode cX1_signs 23 = .ok (.lstore 7, 2) := by decide +kernel
theorem dX1_signs_25 : decode cX1_signs 25 = .ok (.iconst 0, 1) := by decide +kernel
theorem dX1_signs_26 : decode cX1_signs 26 = .ok (.istore 9, 2) := by decide +kernel
theorem dX1_signs_28 : decode cX1_signs 28 = .ok (.iload 9, 2) := by decide +kernel
theorem dX1_signs_30 : decode cX1_signs 30 = .ok (.bipush 40, 2) := by decide +kernel
theorem dX1_signs_32 : decode cX1_signs 32 = .ok (.if_icmp .ge 66, 3) := by decide +kernel
theorem dX1_signs_35 : decode cX1_signs 35 = .ok (.iload 9, 2) := by decide +kernel
theorem dX1_signs_37 : decode cX1_signs 37 = .ok (.aload_n 0, 1) := by decide +kernel
theorem dX1_signs_38 : decode cX1_signs 38 = .ok (.getfield 16, 3) := by decide +kernel
theorem dX1_signs_41 : decode cX1_signs 41 = .ok (.if_icmp .ge 57, 3) := by decide +kernel
theorem dX1_signs_44 : decode cX1_signs 44 = .ok (.lload 7, 2) := by decide +kernel
theorem dX1_signs_46 : decode cX1_signs 46 = .ok (.ldc2_w 51, 3) := by decide +kernel
theorem dX1_signs_49 : decode cX1_signs 49 = .ok (.lrem, 1) := by decide +kernel
theorem dX1_signs_50 : decode cX1_signs 50 = .ok (.lstore 10, 2) := by decide +kernel
theorem dX1_signs_52 : decode cX1_signs 52 = .ok (.lload 7, 2) := by decide +kernel
theorem dX1_signs_54 : decode cX1_signs 54 = .ok (.ldc2_w 51, 3) := by decide +kernel
theorem dX1_signs_57 : decode cX1_signs 57 = .ok (.ldiv, 1) := by decide +kernel
theorem dX1_signs_58 : decode cX1_signs 58 = .ok (.lstore 7, 2) := by decide +kernel
theorem dX1_signs_60 : decode cX1_signs 60 = .ok (.lload 10, 2) := by decide +kernel
theorem dX1_signs_62 : decode cX1_signs 62 = .ok (.ldc2_w 53, 3) := by decide +kernel
theorem dX1_signs_65 : decode cX1_signs 65 = .ok (.lcmp, 1) := by decide +kernel
theorem dX1_signs_66 : decode cX1_signs 66 = .ok (.ifCond .ge 10, 3) := by decide +kernel
theorem dX1_signs_69 : decode cX1_signs 69 = .ok (.lload_n 3, 1) := by decide +kernel
theorem dX1_signs_70 : decode cX1_signs 70 = .ok (.lconst 1, 1) := by decide +kernel
theorem dX1_signs_71 : decode cX1_signs 71 = .ok (.iload 9, 2) := by decide +kernel
theorem dX1_signs_73 : decode cX1_signs 73 = .ok (.lshl, 1) := by decide +kernel
theorem dX1_signs_74 : decode cX1_signs 74 = .ok (.lor, 1) := by decide +kernel
theorem dX1_signs_75 : decode cX1_signs 75 = .ok (.lstore_n 3, 1) := by decide +kernel
theorem dX1_signs_76 : decode cX1_signs 76 = .ok (.lload 10, 2) := by decide +kernel
theorem dX1_signs_78 : decode cX1_signs 78 = .ok (.lconst 1, 1) := by decide +kernel
theorem dX1_signs_79 : decode cX1_signs 79 = .ok (.lcmp, 1) := by decide +kernel
theorem dX1_signs_80 : decode cX1_signs 80 = .ok (.ifCond .ne 12, 3) := by decide +kernel
theorem dX1_signs_83 : decode cX1_signs 83 = .ok (.lload 5, 2) := by decide +kernel
theorem dX1_signs_85 : decode cX1_signs 85 = .ok (.lconst 1, 1) := by decide +kernel
theorem dX1_signs_86 : decode cX1_signs 86 = .ok (.iload 9, 2) := by decide +kernel
theorem dX1_signs_88 : decode cX1_signs 88 = .ok (.lshl, 1) := by decide +kernel
theorem dX1_signs_89 : decode cX1_signs 89 = .ok (.lor, 1) := by decide +kernel
theorem dX1_signs_90 : decode cX1_signs 90 = .ok (.lstore 5, 2) := by decide +kernel
theorem dX1_signs_92 : decode cX1_signs 92 = .ok (.iinc 9 1, 3) := by decide +kernel
theorem dX1_signs_95 : decode cX1_signs 95 = .ok (.goto (-67), 3) := by decide +kernel
theorem dX1_signs_98 : decode cX1_signs 98 = .ok (.aload_n 0, 1) := by decide +kernel
theorem dX1_signs_99 : decode cX1_signs 99 = .ok (.lload_n 3, 1) := by decide +kernel
theorem dX1_signs_100 : decode cX1_signs 100 = .ok (.lload 5, 2) := by decide +kernel
theorem dX1_signs_102 : decode cX1_signs 102 = .ok (.invokevirtual 55, 3) := by decide +kernel
theorem dX1_signs_105 : decode cX1_signs 105 = .ok (.ireturn, 1) := by decide +kernel
theorem dX1_drop_0 : decode cX1_drop 0 = .ok (.aload_n 0, 1) := by decide +kernel
theorem dX1_drop_1 : decode cX1_drop 1 = .ok (.iconst 0, 1) := by decide +kernel
theorem dX1_drop_2 : decode cX1_drop 2 = .ok (.putfield 23, 3) := by decide +kernel
theorem dX1_drop_5 : decode cX1_drop 5 = .ok (.iload_n 1, 1) := by decide +kernel
theorem dX1_drop_6 : decode cX1_drop 6 = .ok (.ifCond .lt 11, 3) := by decide +kernel
theorem dX1_drop_9 : decode cX1_drop 9 = .ok (.iload_n 1, 1) := by decide +kernel
theorem dX1_drop_10 : decode cX1_drop 10 = .ok (.aload_n 0, 1) := by decide +kernel
theorem dX1_drop_11 : decode cX1_drop 11 = .ok (.getfield 32, 3) := by decide +kernel
theorem dX1_drop_14 : decode cX1_drop 14 = .ok (.if_icmp .lt 10, 3) := by decide +kernel
theorem dX1_drop_17 : decode cX1_drop 17 = .ok (.aload_n 0, 1) := by decide +kernel
theorem dX1_drop_18 : decode cX1_drop 18 = .ok (.iconst 1, 1) := by decide +kernel
theorem dX1_drop_19 : decode cX1_drop 19 = .ok (.invokevirtual 39, 3) := by decide +kernel
theorem dX1_drop_22 : decode cX1_drop 22 = .ok (.pop, 1) := by decide +kernel
theorem dX1_drop_23 : decode cX1_drop 23 = .ok (.return_, 1) := by decide +kernel
theorem dX1_drop_24 : decode cX1_drop 24 = .ok (.iload_n 1, 1) := by decide +kernel
theorem dX1_drop_25 : decode cX1_drop 25 = .ok (.istore_n 2, 1) := by decide +kernel
theorem dX1_drop_26 : decode cX1_drop 26 = .ok (.iload_n 2, 1) := by decide +kernel
theorem dX1_drop_27 : decode cX1_drop 27 = .ok (.iconst 1, 1) := by decide +kernel
theorem dX1_drop_28 : decode cX1_drop 28 = .ok (.iadd, 1) := by decide +kernel
theorem dX1_drop_29 : decode cX1_drop 29 = .ok (.aload_n 0, 1) := by decide +kernel
theorem dX1_drop_30 : decode cX1_drop 30 = .ok (.getfield 32, 3) := by decide +kernel
theorem dX1_drop_33 : decode cX1_drop 33 = .ok (.if_icmp .ge 37, 3) := by decide +kernel
theorem dX1_drop_36 : decode cX1_drop 36 = .ok (.aload_n 0, 1) := by decide +kernel
theorem dX1_drop_37 : decode cX1_drop 37 = .ok (.getfield 7, 3) := by decide +kernel
theorem dX1_drop_40 : decode cX1_drop 40 = .ok (.iload_n 2, 1) := by decide +kernel
theorem dX1_drop_41 : decode cX1_drop 41 = .ok (.aload_n 0, 1) := by decide +kernel
theorem dX1_drop_42 : decode cX1_drop 42 = .ok (.getfield 7, 3) := by decide +kernel
theorem dX1_drop_45 : decode cX1_drop 45 = .ok (.iload_n 2, 1) := by decide +kernel
theorem dX1_drop_46 : decode cX1_drop 46 = .ok (.iconst 1, 1) := by decide +kernel
theorem dX1_drop_47 : decode cX1_drop 47 = .ok (.iadd, 1) := by decide +kernel
theorem dX1_drop_48 : decode cX1_drop 48 = .ok (.laload, 1) := by decide +kernel
theorem dX1_drop_49 : decode cX1_drop 49 = .ok (.lastore, 1) := by decide +kernel
theorem dX1_drop_50 : decode cX1_drop 50 = .ok (.aload_n 0, 1) := by decide +kernel
theorem dX1_drop_51 : decode cX1_drop 51 = .ok (.getfield 13, 3) := by decide +kernel
theorem dX1_drop_54 : decode cX1_drop 54 = .ok (.iload_n 2, 1) := by decide +kernel
theorem dX1_drop_55 : decode cX1_drop 55 = .ok (.aload_n 0, 1) := by decide +kernel
theorem dX1_drop_56 : decode cX1_drop 56 = .ok (.getfield 13, 3) := by decide +kernel
theorem dX1_drop_59 : decode cX1_drop 59 = .ok (.iload_n 2, 1) := by decide +kernel
theorem dX1_drop_60 : decode cX1_drop 60 = .ok (.iconst 1, 1) := by decide +kernel
theorem dX1_drop_61 : decode cX1_drop 61 = .ok (.iadd, 1) := by decide +kernel
theorem dX1_drop_62 : decode cX1_drop 62 = .ok (.laload, 1) := by decide +kernel
theorem dX1_drop_63 : decode cX1_drop 63 = .ok (.lastore, 1) := by decide +kernel
theorem dX1_drop_64 : decode cX1_drop 64 = .ok (.iinc 2 1, 3) := by decide +kernel
theorem dX1_drop_67 : decode cX1_drop 67 = .ok (.goto (-41), 3) := by decide +kernel
theorem dX1_drop_70 : decode cX1_drop 70 = .ok (.aload_n 0, 1) := by decide +kernel
theorem dX1_drop_71 : decode cX1_drop 71 = .ok (.dup, 1) := by decide +kernel
theorem dX1_drop_72 : decode cX1_drop 72 = .ok (.getfield 32, 3) := by decide +kernel
theorem dX1_drop_75 : decode cX1_drop 75 = .ok (.iconst 1, 1) := by decide +kernel
theorem dX1_drop_76 : decode cX1_drop 76 = .ok (.isub, 1) := by decide +kernel
theorem dX1_drop_77 : decode cX1_drop 77 = .ok (.putfield 32, 3) := by decide +kernel
theorem dX1_drop_80 : decode cX1_drop 80 = .ok (.return_, 1) := by decide +kernel
theorem dX1_decode_0 : decode cX1_decode 0 = .ok (.aload_n 0, 1) := by decide +kernel
theorem dX1_decode_1 : decode cX1_decode 1 = .ok (.iconst 0, 1) := by decide +kernel
theorem dX1_decode_2 : decode cX1_decode 2 = .ok (.putfield 23, 3) := by decide +kernel
theorem dX1_decode_5 : decode cX1_decode 5 = .ok (.iconst 0, 1) := by decide +kernel
theorem dX1_decode_6 : decode cX1_decode 6 = .ok (.istore_n 3, 1) := by decide +kernel
theorem dX1_decode_7 : decode cX1_decode 7 = .ok (.iconst (-1), 1) := by decide +kernel
theorem dX1_decode_8 : decode cX1_decode 8 = .ok (.istore 4, 2) := by decide +kernel
theorem dX1_decode_10 : decode cX1_decode 10 = .ok (.iconst 0, 1) := by decide +kernel
theorem dX1_decode_11 : decode cX1_decode 11 = .ok (.istore 5, 2) := by decide +kernel
theorem dX1_decode_13 : decode cX1_decode 13 = .ok (.iload 5, 2) := by decide +kernel
end
section
theorem dX1_decode_15 : decode cX1_decode 15 = .ok (.aload_n 0, 1) := by decide +kernel
theorem dX1_decode_16 : decode cX1_decode 16 = .ok (.getfield 32, 3) := by decide +kernel
theorem dX1_decode_19 : decode cX1_decode 19 = .ok (.if_icmp .ge 43, 3) := by decide +kernel
theorem dX1_decode_22 : decode cX1_decode 22 = .ok (.lload_n 1, 1) := by decide +kernel
theorem dX1_decode_23 : decode cX1_decode 23 = .ok (.aload_n 0, 1) := by decide +kernel
theorem dX1_decode_24 : decode cX1_decode 24 = .ok (.getfield 7, 3) := by decide +kernel
theorem dX1_decode_27 : decode cX1_decode 27 = .ok (.iload 5, 2) := by decide +kernel
theorem dX1_decode_29 : decode cX1_decode 29 = .ok (.laload, 1) := by decide +kernel
theorem dX1_decode_30 : decode cX1_decode 30 = .ok (.land, 1) := by decide +kernel
theorem dX1_decode_31 : decode cX1_decode 31 = .ok (.aload_n 0, 1) := by decide +kernel
theorem dX1_decode_32 : decode cX1_decode 32 = .ok (.getfield 13, 3) := by decide +kernel
theorem dX1_decode_35 : decode cX1_decode 35 = .ok (.iload 5, 2) := by decide +kernel
theorem dX1_decode_37 : decode cX1_decode 37 = .ok (.laload, 1) := by decide +kernel
theorem dX1_decode_38 : decode cX1_decode 38 = .ok (.lcmp, 1) := by decide +kernel
theorem dX1_decode_39 : decode cX1_decode 39 = .ok (.ifCond .eq 6, 3) := by decide +kernel
theorem dX1_decode_42 : decode cX1_decode 42 = .ok (.goto 14, 3) := by decide +kernel
theorem dX1_decode_45 : decode cX1_decode 45 = .ok (.iload_n 3, 1) := by decide +kernel
theorem dX1_decode_46 : decode cX1_decode 46 = .ok (.ifCond .ne 7, 3) := by decide +kernel
theorem dX1_decode_49 : decode cX1_decode 49 = .ok (.iload 5, 2) := by decide +kernel
theorem dX1_decode_51 : decode cX1_decode 51 = .ok (.istore 4, 2) := by decide +kernel
theorem dX1_decode_53 : decode cX1_decode 53 = .ok (.iinc 3 1, 3) := by decide +kernel
theorem dX1_decode_56 : decode cX1_decode 56 = .ok (.iinc 5 1, 3) := by decide +kernel
theorem dX1_decode_59 : decode cX1_decode 59 = .ok (.goto (-46), 3) := by decide +kernel
theorem dX1_decode_62 : decode cX1_decode 62 = .ok (.iload_n 3, 1) := by decide +kernel
theorem dX1_decode_63 : decode cX1_decode 63 = .ok (.iconst 1, 1) := by decide +kernel
theorem dX1_decode_64 : decode cX1_decode 64 = .ok (.if_icmp .le 15, 3) := by decide +kernel
theorem dX1_decode_67 : decode cX1_decode 67 = .ok (.aload_n 0, 1) := by decide +kernel
theorem dX1_decode_68 : decode cX1_decode 68 = .ok (.dup, 1) := by decide +kernel
theorem dX1_decode_69 : decode cX1_decode 69 = .ok (.getfield 58, 3) := by decide +kernel
theorem dX1_decode_72 : decode cX1_decode 72 = .ok (.iload_n 3, 1) := by decide +kernel
theorem dX1_decode_73 : decode cX1_decode 73 = .ok (.iconst 1, 1) := by decide +kernel
theorem dX1_decode_74 : decode cX1_decode 74 = .ok (.isub, 1) := by decide +kernel
theorem dX1_decode_75 : decode cX1_decode 75 = .ok (.iadd, 1) := by decide +kernel
theorem dX1_decode_76 : decode cX1_decode 76 = .ok (.putfield 58, 3) := by decide +kernel
theorem dX1_decode_79 : decode cX1_decode 79 = .ok (.iload 4, 2) := by decide +kernel
theorem dX1_decode_81 : decode cX1_decode 81 = .ok (.ireturn, 1) := by decide +kernel
theorem dX1_meets_0 : decode cX1_meets 0 = .ok (.aload_n 0, 1) := by decide +kernel
theorem dX1_meets_1 : decode cX1_meets 1 = .ok (.iconst 0, 1) := by decide +kernel
theorem dX1_meets_2 : decode cX1_meets 2 = .ok (.putfield 23, 3) := by decide +kernel
theorem dX1_meets_5 : decode cX1_meets 5 = .ok (.aload_n 0, 1) := by decide +kernel
theorem dX1_meets_6 : decode cX1_meets 6 = .ok (.lload_n 1, 1) := by decide +kernel
theorem dX1_meets_7 : decode cX1_meets 7 = .ok (.lload_n 3, 1) := by decide +kernel
theorem dX1_meets_8 : decode cX1_meets 8 = .ok (.invokevirtual 43, 3) := by decide +kernel
theorem dX1_meets_11 : decode cX1_meets 11 = .ok (.ifCond .eq 11, 3) := by decide +kernel
theorem dX1_meets_14 : decode cX1_meets 14 = .ok (.aload_n 0, 1) := by decide +kernel
theorem dX1_meets_15 : decode cX1_meets 15 = .ok (.iconst 1, 1) := by decide +kernel
theorem dX1_meets_16 : decode cX1_meets 16 = .ok (.invokevirtual 39, 3) := by decide +kernel
theorem dX1_meets_19 : decode cX1_meets 19 = .ok (.goto 9, 3) := by decide +kernel
theorem dX1_meets_22 : decode cX1_meets 22 = .ok (.aload_n 0, 1) := by decide +kernel
theorem dX1_meets_23 : decode cX1_meets 23 = .ok (.lload_n 1, 1) := by decide +kernel
theorem dX1_meets_24 : decode cX1_meets 24 = .ok (.lload_n 3, 1) := by decide +kernel
theorem dX1_meets_25 : decode cX1_meets 25 = .ok (.invokevirtual 47, 3) := by decide +kernel
theorem dX1_meets_28 : decode cX1_meets 28 = .ok (.ireturn, 1) := by decide +kernel
theorem dX1_free_0 : decode cX1_free 0 = .ok (.aload_n 0, 1) := by decide +kernel
theorem dX1_free_1 : decode cX1_free 1 = .ok (.iconst 0, 1) := by decide +kernel
theorem dX1_free_2 : decode cX1_free 2 = .ok (.putfield 23, 3) := by decide +kernel
theorem dX1_free_5 : decode cX1_free 5 = .ok (.aload_n 0, 1) := by decide +kernel
theorem dX1_free_6 : decode cX1_free 6 = .ok (.lload_n 1, 1) := by decide +kernel
theorem dX1_free_7 : decode cX1_free 7 = .ok (.lload_n 3, 1) := by decide +kernel
theorem dX1_free_8 : decode cX1_free 8 = .ok (.invokevirtual 43, 3) := by decide +kernel
theorem dX1_free_11 : decode cX1_free 11 = .ok (.ifCond .eq 12, 3) := by decide +kernel
theorem dX1_free_14 : decode cX1_free 14 = .ok (.aload_n 0, 1) := by decide +kernel
theorem dX1_free_15 : decode cX1_free 15 = .ok (.iconst 1, 1) := by decide +kernel
theorem dX1_free_16 : decode cX1_free 16 = .ok (.invokevirtual 39, 3) := by decide +kernel
theorem dX1_free_19 : decode cX1_free 19 = .ok (.i2l, 1) := by decide +kernel
theorem dX1_free_20 : decode cX1_free 20 = .ok (.goto 9, 3) := by decide +kernel
theorem dX1_free_23 : decode cX1_free 23 = .ok (.aload_n 0, 1) := by decide +kernel
theorem dX1_free_24 : decode cX1_free 24 = .ok (.lload_n 1, 1) := by decide +kernel
theorem dX1_free_25 : decode cX1_free 25 = .ok (.lload_n 3, 1) := by decide +kernel
theorem dX1_free_26 : decode cX1_free 26 = .ok (.invokevirtual 69, 3) := by decide +kernel
theorem dX1_free_29 : decode cX1_free 29 = .ok (.lreturn, 1) := by decide +kernel
theorem dX1_none_0 : decode cX1_none 0 = .ok (.aload_n 0, 1) := by decide +kernel
theorem dX1_none_1 : decode cX1_none 1 = .ok (.getfield 16, 3) := by decide +kernel
theorem dX1_none_4 : decode cX1_none 4 = .ok (.lload_n 1, 1) := by decide +kernel
theorem dX1_none_5 : decode cX1_none 5 = .ok (.aload_n 0, 1) := by decide +kernel
theorem dX1_none_6 : decode cX1_none 6 = .ok (.invokevirtual 28, 3) := by decide +kernel
theorem dX1_none_9 : decode cX1_none 9 = .ok (.land, 1) := by decide +kernel
theorem dX1_none_10 : decode cX1_none 10 = .ok (.invokestatic 61, 3) := by decide +kernel
theorem dX1_none_13 : decode cX1_none 13 = .ok (.isub, 1) := by decide +kernel
theorem dX1_none_14 : decode cX1_none 14 = .ok (.invokestatic 65, 3) := by decide +kernel
theorem dX1_none_17 : decode cX1_none 17 = .ok (.lstore 5, 2) := by decide +kernel
theorem dX1_none_19 : decode cX1_none 19 = .ok (.iconst 0, 1) := by decide +kernel
theorem dX1_none_20 : decode cX1_none 20 = .ok (.istore 7, 2) := by decide +kernel
theorem dX1_none_22 : decode cX1_none 22 = .ok (.iload 7, 2) := by decide +kernel
theorem dX1_none_24 : decode cX1_none 24 = .ok (.aload_n 0, 1) := by decide +kernel
theorem dX1_none_25 : decode cX1_none 25 = .ok (.getfield 32, 3) := by decide +kernel
theorem dX1_none_28 : decode cX1_none 28 = .ok (.if_icmp .ge 50, 3) := by decide +kernel
theorem dX1_none_31 : decode cX1_none 31 = .ok (.aload_n 0, 1) := by decide +kernel
theorem dX1_none_32 : decode cX1_none 32 = .ok (.iload 7, 2) := by decide +kernel
theorem dX1_none_34 : decode cX1_none 34 = .ok (.lload_n 1, 1) := by decide +kernel
theorem dX1_none_35 : decode cX1_none 35 = .ok (.lload_n 3, 1) := by decide +kernel
theorem dX1_none_36 : decode cX1_none 36 = .ok (.invokevirtual 35, 3) := by decide +kernel
theorem dX1_none_39 : decode cX1_none 39 = .ok (.ifCond .eq 33, 3) := by decide +kernel
theorem dX1_none_42 : decode cX1_none 42 = .ok (.lload 5, 2) := by decide +kernel
theorem dX1_none_44 : decode cX1_none 44 = .ok (.aload_n 0, 1) := by decide +kernel
theorem dX1_none_45 : decode cX1_none 45 = .ok (.getfield 16, 3) := by decide +kernel
theorem dX1_none_48 : decode cX1_none 48 = .ok (.lload_n 1, 1) := by decide +kernel
theorem dX1_none_49 : decode cX1_none 49 = .ok (.aload_n 0, 1) := by decide +kernel
theorem dX1_none_50 : decode cX1_none 50 = .ok (.getfield 7, 3) := by decide +kernel
theorem dX1_none_53 : decode cX1_none 53 = .ok (.iload 7, 2) := by decide +kernel
theorem dX1_none_55 : decode cX1_none 55 = .ok (.laload, 1) := by decide +kernel
theorem dX1_none_56 : decode cX1_none 56 = .ok (.lor, 1) := by decide +kernel
theorem dX1_none_57 : decode cX1_none 57 = .ok (.aload_n 0, 1) := by decide +kernel
theorem dX1_none_58 : decode cX1_none 58 = .ok (.invokevirtual 28, 3) := by decide +kernel
theorem dX1_none_61 : decode cX1_none 61 = .ok (.land, 1) := by decide +kernel
theorem dX1_none_62 : decode cX1_none 62 = .ok (.invokestatic 61, 3) := by decide +kernel
theorem dX1_none_65 : decode cX1_none 65 = .ok (.isub, 1) := by decide +kernel
theorem dX1_none_66 : decode cX1_none 66 = .ok (.invokestatic 65, 3) := by decide +kernel
theorem dX1_none_69 : decode cX1_none 69 = .ok (.lsub, 1) := by decide +kernel
theorem dX1_none_70 : decode cX1_none 70 = .ok (.lstore 5, 2) := by decide +kernel
theorem dX1_none_72 : decode cX1_none 72 = .ok (.iinc 7 1, 3) := by decide +kernel
theorem dX1_none_75 : decode cX1_none 75 = .ok (.goto (-53), 3) := by decide +kernel
theorem dX1_none_78 : decode cX1_none 78 = .ok (.lload 5, 2) := by decide +kernel
theorem dX1_none_80 : decode cX1_none 80 = .ok (.lreturn, 1) := by decide +kernel
theorem dX1_bits_0 : decode cX1_bits 0 = .ok (.iconst 0, 1) := by decide +kernel
theorem dX1_bits_1 : decode cX1_bits 1 = .ok (.istore_n 2, 1) := by decide +kernel
theorem dX1_bits_2 : decode cX1_bits 2 = .ok (.iconst 0, 1) := by decide +kernel
theorem dX1_bits_3 : decode cX1_bits 3 = .ok (.istore_n 3, 1) := by decide +kernel
theorem dX1_bits_4 : decode cX1_bits 4 = .ok (.iload_n 3, 1) := by decide +kernel
theorem dX1_bits_5 : decode cX1_bits 5 = .ok (.bipush 64, 2) := by decide +kernel
theorem dX1_bits_7 : decode cX1_bits 7 = .ok (.if_icmp .ge 18, 3) := by decide +kernel
theorem dX1_bits_10 : decode cX1_bits 10 = .ok (.iload_n 2, 1) := by decide +kernel
theorem dX1_bits_11 : decode cX1_bits 11 = .ok (.lload_n 0, 1) := by decide +kernel
theorem dX1_bits_12 : decode cX1_bits 12 = .ok (.iload_n 3, 1) := by decide +kernel
theorem dX1_bits_13 : decode cX1_bits 13 = .ok (.lushr, 1) := by decide +kernel
theorem dX1_bits_14 : decode cX1_bits 14 = .ok (.lconst 1, 1) := by decide +kernel
theorem dX1_bits_15 : decode cX1_bits 15 = .ok (.land, 1) := by decide +kernel
theorem dX1_bits_16 : decode cX1_bits 16 = .ok (.l2i, 1) := by decide +kernel
theorem dX1_bits_17 : decode cX1_bits 17 = .ok (.iadd, 1) := by decide +kernel
theorem dX1_bits_18 : decode cX1_bits 18 = .ok (.istore_n 2, 1) := by decide +kernel
theorem dX1_bits_19 : decode cX1_bits 19 = .ok (.iinc 3 1, 3) := by decide +kernel
theorem dX1_bits_22 : decode cX1_bits 22 = .ok (.goto (-18), 3) := by decide +kernel
theorem dX1_bits_25 : decode cX1_bits 25 = .ok (.iload_n 2, 1) := by decide +kernel
theorem dX1_bits_26 : decode cX1_bits 26 = .ok (.ireturn, 1) := by decide +kernel
theorem dX1_power_0 : decode cX1_power 0 = .ok (.iload_n 0, 1) := by decide +kernel
theorem dX1_power_1 : decode cX1_power 1 = .ok (.bipush 64, 2) := by decide +kernel
theorem dX1_power_3 : decode cX1_power 3 = .ok (.if_icmp .ne 7, 3) := by decide +kernel
theorem dX1_power_6 : decode cX1_power 6 = .ok (.lconst 0, 1) := by decide +kernel
theorem dX1_power_7 : decode cX1_power 7 = .ok (.goto 6, 3) := by decide +kernel
theorem dX1_power_10 : decode cX1_power 10 = .ok (.lconst 1, 1) := by decide +kernel
theorem dX1_power_11 : decode cX1_power 11 = .ok (.iload_n 0, 1) := by decide +kernel
theorem dX1_power_12 : decode cX1_power 12 = .ok (.lshl, 1) := by decide +kernel
theorem dX1_power_13 : decode cX1_power 13 = .ok (.lreturn, 1) := by decide +kernel
theorem dX1_next_0 : decode cX1_next 0 = .ok (.aload_n 0, 1) := by decide +kernel
theorem dX1_next_1 : decode cX1_next 1 = .ok (.iconst 0, 1) := by decide +kernel
theorem dX1_next_2 : decode cX1_next 2 = .ok (.putfield 23, 3) := by decide +kernel
theorem dX1_next_5 : decode cX1_next 5 = .ok (.lload_n 1, 1) := by decide +kernel
theorem dX1_next_6 : decode cX1_next 6 = .ok (.aload_n 0, 1) := by decide +kernel
theorem dX1_next_7 : decode cX1_next 7 = .ok (.invokevirtual 28, 3) := by decide +kernel
theorem dX1_next_10 : decode cX1_next 10 = .ok (.land, 1) := by decide +kernel
theorem dX1_next_11 : decode cX1_next 11 = .ok (.lstore_n 3, 1) := by decide +kernel
theorem dX1_next_12 : decode cX1_next 12 = .ok (.aload_n 0, 1) := by decide +kernel
theorem dX1_next_13 : decode cX1_next 13 = .ok (.aload_n 0, 1) := by decide +kernel
theorem dX1_next_14 : decode cX1_next 14 = .ok (.invokevirtual 28, 3) := by decide +kernel
theorem dX1_next_17 : decode cX1_next 17 = .ok (.lload_n 3, 1) := by decide +kernel
theorem dX1_next_18 : decode cX1_next 18 = .ok (.invokevirtual 73, 3) := by decide +kernel
theorem dX1_next_21 : decode cX1_next 21 = .ok (.ifCond .eq 5, 3) := by decide +kernel
theorem dX1_next_24 : decode cX1_next 24 = .ok (.lload_n 3, 1) := by decide +kernel
theorem dX1_next_25 : decode cX1_next 25 = .ok (.lreturn, 1) := by decide +kernel
theorem dX1_next_26 : decode cX1_next 26 = .ok (.iconst 0, 1) := by decide +kernel
theorem dX1_next_27 : decode cX1_next 27 = .ok (.istore 5, 2) := by decide +kernel
theorem dX1_next_29 : decode cX1_next 29 = .ok (.iload 5, 2) := by decide +kernel
theorem dX1_next_31 : decode cX1_next 31 = .ok (.aload_n 0, 1) := by decide +kernel
theorem dX1_next_32 : decode cX1_next 32 = .ok (.getfield 16, 3) := by decide +kernel
theorem dX1_next_35 : decode cX1_next 35 = .ok (.if_icmp .ge 114, 3) := by decide +kernel
theorem dX1_next_38 : decode cX1_next 38 = .ok (.lconst 1, 1) := by decide +kernel
theorem dX1_next_39 : decode cX1_next 39 = .ok (.iload 5, 2) := by decide +kernel
theorem dX1_next_41 : decode cX1_next 41 = .ok (.lshl, 1) := by decide +kernel
theorem dX1_next_42 : decode cX1_next 42 = .ok (.lstore 6, 2) := by decide +kernel
theorem dX1_next_44 : decode cX1_next 44 = .ok (.lload_n 3, 1) := by decide +kernel
theorem dX1_next_45 : decode cX1_next 45 = .ok (.lload 6, 2) := by decide +kernel
theorem dX1_next_47 : decode cX1_next 47 = .ok (.land, 1) := by decide +kernel
theorem dX1_next_48 : decode cX1_next 48 = .ok (.lconst 0, 1) := by decide +kernel
theorem dX1_next_49 : decode cX1_next 49 = .ok (.lcmp, 1) := by decide +kernel
theorem dX1_next_50 : decode cX1_next 50 = .ok (.ifCond .eq 6, 3) := by decide +kernel
theorem dX1_next_53 : decode cX1_next 53 = .ok (.goto 90, 3) := by decide +kernel
theorem dX1_next_56 : decode cX1_next 56 = .ok (.aload_n 0, 1) := by decide +kernel
theorem dX1_next_57 : decode cX1_next 57 = .ok (.invokevirtual 28, 3) := by decide +kernel
theorem dX1_next_60 : decode cX1_next 60 = .ok (.lload 6, 2) := by decide +kernel
theorem dX1_next_62 : decode cX1_next 62 = .ok (.lconst 1, 1) := by decide +kernel
theorem dX1_next_63 : decode cX1_next 63 = .ok (.lsub, 1) := by decide +kernel
theorem dX1_next_64 : decode cX1_next 64 = .ok (.ldc2_w 26, 3) := by decide +kernel
theorem dX1_next_67 : decode cX1_next 67 = .ok (.lxor, 1) := by decide +kernel
theorem dX1_next_68 : decode cX1_next 68 = .ok (.land, 1) := by decide +kernel
theorem dX1_next_69 : decode cX1_next 69 = .ok (.lstore 8, 2) := by decide +kernel
theorem dX1_next_71 : decode cX1_next 71 = .ok (.lload_n 3, 1) := by decide +kernel
theorem dX1_next_72 : decode cX1_next 72 = .ok (.lload 8, 2) := by decide +kernel
theorem dX1_next_74 : decode cX1_next 74 = .ok (.land, 1) := by decide +kernel
theorem dX1_next_75 : decode cX1_next 75 = .ok (.lload 6, 2) := by decide +kernel
theorem dX1_next_77 : decode cX1_next 77 = .ok (.lor, 1) := by decide +kernel
theorem dX1_next_78 : decode cX1_next 78 = .ok (.lstore 10, 2) := by decide +kernel
theorem dX1_next_80 : decode cX1_next 80 = .ok (.aload_n 0, 1) := by decide +kernel
theorem dX1_next_81 : decode cX1_next 81 = .ok (.lload 8, 2) := by decide +kernel
theorem dX1_next_83 : decode cX1_next 83 = .ok (.lload 10, 2) := by decide +kernel
theorem dX1_next_85 : decode cX1_next 85 = .ok (.invokevirtual 73, 3) := by decide +kernel
theorem dX1_next_88 : decode cX1_next 88 = .ok (.ifCond .ne 6, 3) := by decide +kernel
theorem dX1_next_91 : decode cX1_next 91 = .ok (.goto 52, 3) := by decide +kernel
theorem dX1_next_94 : decode cX1_next 94 = .ok (.iload 5, 2) := by decide +kernel
theorem dX1_next_96 : decode cX1_next 96 = .ok (.iconst 1, 1) := by decide +kernel
theorem dX1_next_97 : decode cX1_next 97 = .ok (.isub, 1) := by decide +kernel
theorem dX1_next_98 : decode cX1_next 98 = .ok (.istore 12, 2) := by decide +kernel
theorem dX1_next_100 : decode cX1_next 100 = .ok (.iload 12, 2) := by decide +kernel
theorem dX1_next_102 : decode cX1_next 102 = .ok (.ifCond .lt 38, 3) := by decide +kernel
theorem dX1_next_105 : decode cX1_next 105 = .ok (.lload 8, 2) := by decide +kernel
theorem dX1_next_107 : decode cX1_next 107 = .ok (.lconst 1, 1) := by decide +kernel
theorem dX1_next_108 : decode cX1_next 108 = .ok (.iload 12, 2) := by decide +kernel
theorem dX1_next_110 : decode cX1_next 110 = .ok (.lshl, 1) := by decide +kernel
theorem dX1_next_111 : decode cX1_next 111 = .ok (.lor, 1) := by decide +kernel
theorem dX1_next_112 : decode cX1_next 112 = .ok (.lstore 8, 2) := by decide +kernel
theorem dX1_next_114 : decode cX1_next 114 = .ok (.aload_n 0, 1) := by decide +kernel
theorem dX1_next_115 : decode cX1_next 115 = .ok (.lload 8, 2) := by decide +kernel
theorem dX1_next_117 : decode cX1_next 117 = .ok (.lload 10, 2) := by decide +kernel
theorem dX1_next_119 : decode cX1_next 119 = .ok (.invokevirtual 73, 3) := by decide +kernel
theorem dX1_next_122 : decode cX1_next 122 = .ok (.ifCond .ne 12, 3) := by decide +kernel
theorem dX1_next_125 : decode cX1_next 125 = .ok (.lload 10, 2) := by decide +kernel
theorem dX1_next_127 : decode cX1_next 127 = .ok (.lconst 1, 1) := by decide +kernel
theorem dX1_next_128 : decode cX1_next 128 = .ok (.iload 12, 2) := by decide +kernel
theorem dX1_next_130 : decode cX1_next 130 = .ok (.lshl, 1) := by decide +kernel
theorem dX1_next_131 : decode cX1_next 131 = .ok (.lor, 1) := by decide +kernel
theorem dX1_next_132 : decode cX1_next 132 = .ok (.lstore 10, 2) := by decide +kernel
theorem dX1_next_134 : decode cX1_next 134 = .ok (.iinc 12 (-1), 3) := by decide +kernel
theorem dX1_next_137 : decode cX1_next 137 = .ok (.goto (-37), 3) := by decide +kernel
theorem dX1_next_140 : decode cX1_next 140 = .ok (.lload 10, 2) := by decide +kernel
theorem dX1_next_142 : decode cX1_next 142 = .ok (.lreturn, 1) := by decide +kernel
theorem dX1_next_143 : decode cX1_next 143 = .ok (.iinc 5 1, 3) := by decide +kernel
theorem dX1_next_146 : decode cX1_next 146 = .ok (.goto (-117), 3) := by decide +kernel
theorem dX1_next_149 : decode cX1_next 149 = .ok (.aload_n 0, 1) := by decide +kernel
theorem dX1_next_150 : decode cX1_next 150 = .ok (.iconst 1, 1) := by decide +kernel
theorem dX1_next_151 : decode cX1_next 151 = .ok (.invokevirtual 39, 3) := by decide +kernel
theorem dX1_next_154 : decode cX1_next 154 = .ok (.i2l, 1) := by decide +kernel
theorem dX1_next_155 : decode cX1_next 155 = .ok (.lreturn, 1) := by decide +kernel
theorem dX1_some_0 : decode cX1_some 0 = .ok (.aload_n 0, 1) := by decide +kernel
theorem dX1_some_1 : decode cX1_some 1 = .ok (.lload_n 1, 1) := by decide +kernel
theorem dX1_some_2 : decode cX1_some 2 = .ok (.lload_n 3, 1) := by decide +kernel
theorem dX1_some_3 : decode cX1_some 3 = .ok (.invokevirtual 69, 3) := by decide +kernel
theorem dX1_some_6 : decode cX1_some 6 = .ok (.lconst 0, 1) := by decide +kernel
theorem dX1_some_7 : decode cX1_some 7 = .ok (.lcmp, 1) := by decide +kernel
theorem dX1_some_8 : decode cX1_some 8 = .ok (.ifCond .ne 31, 3) := by decide +kernel
theorem dX1_some_11 : decode cX1_some 11 = .ok (.lload_n 1, 1) := by decide +kernel
theorem dX1_some_12 : decode cX1_some 12 = .ok (.aload_n 0, 1) := by decide +kernel
theorem dX1_some_13 : decode cX1_some 13 = .ok (.invokevirtual 28, 3) := by decide +kernel
theorem dX1_some_16 : decode cX1_some 16 = .ok (.land, 1) := by decide +kernel
theorem dX1_some_17 : decode cX1_some 17 = .ok (.invokestatic 61, 3) := by decide +kernel
theorem dX1_some_20 : decode cX1_some 20 = .ok (.ifCond .ne 23, 3) := by decide +kernel
theorem dX1_some_23 : decode cX1_some 23 = .ok (.aload_n 0, 1) := by decide +kernel
theorem dX1_some_24 : decode cX1_some 24 = .ok (.getfield 16, 3) := by decide +kernel
theorem dX1_some_27 : decode cX1_some 27 = .ok (.bipush 64, 2) := by decide +kernel
theorem dX1_some_29 : decode cX1_some 29 = .ok (.if_icmp .ne 14, 3) := by decide +kernel
theorem dX1_some_32 : decode cX1_some 32 = .ok (.aload_n 0, 1) := by decide +kernel
theorem dX1_some_33 : decode cX1_some 33 = .ok (.getfield 32, 3) := by decide +kernel
theorem dX1_some_36 : decode cX1_some 36 = .ok (.ifCond .ne 7, 3) := by decide +kernel
theorem dX1_some_39 : decode cX1_some 39 = .ok (.iconst 1, 1) := by decide +kernel
theorem dX1_some_40 : decode cX1_some 40 = .ok (.goto 4, 3) := by decide +kernel
theorem dX1_some_43 : decode cX1_some 43 = .ok (.iconst 0, 1) := by decide +kernel
theorem dX1_some_44 : decode cX1_some 44 = .ok (.ireturn, 1) := by decide +kernel
theorem dX1_told_0 : decode cX1_told 0 = .ok (.aload_n 0, 1) := by decide +kernel
theorem dX1_told_1 : decode cX1_told 1 = .ok (.iconst 0, 1) := by decide +kernel
theorem dX1_told_2 : decode cX1_told 2 = .ok (.putfield 23, 3) := by decide +kernel
theorem dX1_told_5 : decode cX1_told 5 = .ok (.iload_n 2, 1) := by decide +kernel
theorem dX1_told_6 : decode cX1_told 6 = .ok (.ifCond .lt 8, 3) := by decide +kernel
theorem dX1_told_9 : decode cX1_told 9 = .ok (.iload_n 2, 1) := by decide +kernel
theorem dX1_told_10 : decode cX1_told 10 = .ok (.iconst 2, 1) := by decide +kernel
theorem dX1_told_11 : decode cX1_told 11 = .ok (.if_icmp .le 10, 3) := by decide +kernel
theorem dX1_told_14 : decode cX1_told 14 = .ok (.aload_n 0, 1) := by decide +kernel
theorem dX1_told_15 : decode cX1_told 15 = .ok (.iconst 1, 1) := by decide +kernel
theorem dX1_told_16 : decode cX1_told 16 = .ok (.invokevirtual 39, 3) := by decide +kernel
theorem dX1_told_19 : decode cX1_told 19 = .ok (.i2l, 1) := by decide +kernel
theorem dX1_told_20 : decode cX1_told 20 = .ok (.lreturn, 1) := by decide +kernel
theorem dX1_told_21 : decode cX1_told 21 = .ok (.iload_n 1, 1) := by decide +kernel
theorem dX1_told_22 : decode cX1_told 22 = .ok (.ifCond .lt 11, 3) := by decide +kernel
theorem dX1_told_25 : decode cX1_told 25 = .ok (.iload_n 1, 1) := by decide +kernel
theorem dX1_told_26 : decode cX1_told 26 = .ok (.aload_n 0, 1) := by decide +kernel
theorem dX1_told_27 : decode cX1_told 27 = .ok (.getfield 32, 3) := by decide +kernel
theorem dX1_told_30 : decode cX1_told 30 = .ok (.if_icmp .lt 10, 3) := by decide +kernel
theorem dX1_told_33 : decode cX1_told 33 = .ok (.aload_n 0, 1) := by decide +kernel
theorem dX1_told_34 : decode cX1_told 34 = .ok (.iconst 2, 1) := by decide +kernel
theorem dX1_told_35 : decode cX1_told 35 = .ok (.invokevirtual 39, 3) := by decide +kernel
theorem dX1_told_38 : decode cX1_told 38 = .ok (.i2l, 1) := by decide +kernel
theorem dX1_told_39 : decode cX1_told 39 = .ok (.lreturn, 1) := by decide +kernel
theorem dX1_told_40 : decode cX1_told 40 = .ok (.iload_n 2, 1) := by decide +kernel
theorem dX1_told_41 : decode cX1_told 41 = .ok (.ifCond .ne 12, 3) := by decide +kernel
theorem dX1_told_44 : decode cX1_told 44 = .ok (.aload_n 0, 1) := by decide +kernel
theorem dX1_told_45 : decode cX1_told 45 = .ok (.getfield 7, 3) := by decide +kernel
theorem dX1_told_48 : decode cX1_told 48 = .ok (.iload_n 1, 1) := by decide +kernel
theorem dX1_told_49 : decode cX1_told 49 = .ok (.laload, 1) := by decide +kernel
theorem dX1_told_50 : decode cX1_told 50 = .ok (.goto 32, 3) := by decide +kernel
theorem dX1_told_53 : decode cX1_told 53 = .ok (.iload_n 2, 1) := by decide +kernel
theorem dX1_told_54 : decode cX1_told 54 = .ok (.iconst 1, 1) := by decide +kernel
theorem dX1_told_55 : decode cX1_told 55 = .ok (.if_icmp .ne 12, 3) := by decide +kernel
theorem dX1_told_58 : decode cX1_told 58 = .ok (.aload_n 0, 1) := by decide +kernel
theorem dX1_told_59 : decode cX1_told 59 = .ok (.getfield 13, 3) := by decide +kernel
theorem dX1_told_62 : decode cX1_told 62 = .ok (.iload_n 1, 1) := by decide +kernel
theorem dX1_told_63 : decode cX1_told 63 = .ok (.laload, 1) := by decide +kernel
theorem dX1_told_64 : decode cX1_told 64 = .ok (.goto 18, 3) := by decide +kernel
theorem dX1_told_67 : decode cX1_told 67 = .ok (.aload_n 0, 1) := by decide +kernel
theorem dX1_told_68 : decode cX1_told 68 = .ok (.getfield 16, 3) := by decide +kernel
theorem dX1_told_71 : decode cX1_told 71 = .ok (.aload_n 0, 1) := by decide +kernel
theorem dX1_told_72 : decode cX1_told 72 = .ok (.getfield 7, 3) := by decide +kernel
theorem dX1_told_75 : decode cX1_told 75 = .ok (.iload_n 1, 1) := by decide +kernel
theorem dX1_told_76 : decode cX1_told 76 = .ok (.laload, 1) := by decide +kernel
theorem dX1_told_77 : decode cX1_told 77 = .ok (.invokestatic 61, 3) := by decide +kernel
theorem dX1_told_80 : decode cX1_told 80 = .ok (.isub, 1) := by decide +kernel
theorem dX1_told_81 : decode cX1_told 81 = .ok (.i2l, 1) := by decide +kernel
theorem dX1_told_82 : decode cX1_told 82 = .ok (.lreturn, 1) := by decide +kernel
theorem dX1_count_0 : decode cX1_count 0 = .ok (.aload_n 0, 1) := by decide +kernel
theorem dX1_count_1 : decode cX1_count 1 = .ok (.iconst 0, 1) := by decide +kernel
theorem dX1_count_2 : decode cX1_count 2 = .ok (.putfield 23, 3) := by decide +kernel
theorem dX1_count_5 : decode cX1_count 5 = .ok (.iload_n 1, 1) := by decide +kernel
theorem dX1_count_6 : decode cX1_count 6 = .ok (.ifCond .ne 10, 3) := by decide +kernel
theorem dX1_count_9 : decode cX1_count 9 = .ok (.aload_n 0, 1) := by decide +kernel
theorem dX1_count_10 : decode cX1_count 10 = .ok (.getfield 32, 3) := by decide +kernel
theorem dX1_count_13 : decode cX1_count 13 = .ok (.goto 40, 3) := by decide +kernel
theorem dX1_count_16 : decode cX1_count 16 = .ok (.iload_n 1, 1) := by decide +kernel
theorem dX1_count_17 : decode cX1_count 17 = .ok (.iconst 1, 1) := by decide +kernel
theorem dX1_count_18 : decode cX1_count 18 = .ok (.if_icmp .ne 10, 3) := by decide +kernel
theorem dX1_count_21 : decode cX1_count 21 = .ok (.aload_n 0, 1) := by decide +kernel
theorem dX1_count_22 : decode cX1_count 22 = .ok (.getfield 16, 3) := by decide +kernel
theorem dX1_count_25 : decode cX1_count 25 = .ok (.goto 28, 3) := by decide +kernel
theorem dX1_count_28 : decode cX1_count 28 = .ok (.iload_n 1, 1) := by decide +kernel
theorem dX1_count_29 : decode cX1_count 29 = .ok (.iconst 2, 1) := by decide +kernel
theorem dX1_count_30 : decode cX1_count 30 = .ok (.if_icmp .ne 10, 3) := by decide +kernel
theorem dX1_count_33 : decode cX1_count 33 = .ok (.aload_n 0, 1) := by decide +kernel
theorem dX1_count_34 : decode cX1_count 34 = .ok (.getfield 20, 3) := by decide +kernel
theorem dX1_count_37 : decode cX1_count 37 = .ok (.goto 16, 3) := by decide +kernel
theorem dX1_count_40 : decode cX1_count 40 = .ok (.iload_n 1, 1) := by decide +kernel
theorem dX1_count_41 : decode cX1_count 41 = .ok (.iconst 3, 1) := by decide +kernel
theorem dX1_count_42 : decode cX1_count 42 = .ok (.if_icmp .ne 10, 3) := by decide +kernel
theorem dX1_count_45 : decode cX1_count 45 = .ok (.aload_n 0, 1) := by decide +kernel
theorem dX1_count_46 : decode cX1_count 46 = .ok (.getfield 58, 3) := by decide +kernel
theorem dX1_count_49 : decode cX1_count 49 = .ok (.goto 4, 3) := by decide +kernel
theorem dX1_count_52 : decode cX1_count 52 = .ok (.iconst (-1), 1) := by decide +kernel
theorem dX1_count_53 : decode cX1_count 53 = .ok (.ireturn, 1) := by decide +kernel
theorem dL_law_0 : decode cL_law 0 = .ok (.new 8, 3) := by decide +kernel
theorem dL_law_3 : decode cL_law 3 = .ok (.dup, 1) := by decide +kernel
theorem dL_law_4 : decode cL_law 4 = .ok (.invokespecial 45, 3) := by decide +kernel
theorem dL_law_7 : decode cL_law 7 = .ok (.astore_n 1, 1) := by decide +kernel
theorem dL_law_8 : decode cL_law 8 = .ok (.new 46, 3) := by decide +kernel
theorem dL_law_11 : decode cL_law 11 = .ok (.dup, 1) := by decide +kernel
theorem dL_law_12 : decode cL_law 12 = .ok (.invokespecial 48, 3) := by decide +kernel
theorem dL_law_15 : decode cL_law 15 = .ok (.astore_n 2, 1) := by decide +kernel
theorem dL_law_16 : decode cL_law 16 = .ok (.iconst 1, 1) := by decide +kernel
theorem dL_law_17 : decode cL_law 17 = .ok (.newarray .long, 2) := by decide +kernel
theorem dL_law_19 : decode cL_law 19 = .ok (.astore_n 3, 1) := by decide +kernel
theorem dL_law_20 : decode cL_law 20 = .ok (.iconst 0, 1) := by decide +kernel
theorem dL_law_21 : decode cL_law 21 = .ok (.istore 4, 2) := by decide +kernel
theorem dL_law_23 : decode cL_law 23 = .ok (.iload 4, 2) := by decide +kernel
theorem dL_law_25 : decode cL_law 25 = .ok (.aload_n 0, 1) := by decide +kernel
theorem dL_law_26 : decode cL_law 26 = .ok (.arraylength, 1) := by decide +kernel
theorem dL_law_27 : decode cL_law 27 = .ok (.iconst 5, 1) := by decide +kernel
theorem dL_law_28 : decode cL_law 28 = .ok (.isub, 1) := by decide +kernel
theorem dL_law_29 : decode cL_law 29 = .ok (.if_icmp .gt 860, 3) := by decide +kernel
theorem dL_law_32 : decode cL_law 32 = .ok (.aload_n 0, 1) := by decide +kernel
theorem dL_law_33 : decode cL_law 33 = .ok (.iload 4, 2) := by decide +kernel
theorem dL_law_35 : decode cL_law 35 = .ok (.iaload, 1) := by decide +kernel
theorem dL_law_36 : decode cL_law 36 = .ok (.bipush 15, 2) := by decide +kernel
theorem dL_law_38 : decode cL_law 38 = .ok (.iand, 1) := by decide +kernel
theorem dL_law_39 : decode cL_law 39 = .ok (.tableswitch 844 0 9 #[53, 89, 221, 309, 345, 402, 534, 665, 752, 819], 53) := by decide +kernel
theorem dL_law_92 : decode cL_law 92 = .ok (.aload_n 1, 1) := by decide +kernel
theorem dL_law_93 : decode cL_law 93 = .ok (.aload_n 0, 1) := by decide +kernel
theorem dL_law_94 : decode cL_law 94 = .ok (.iload 4, 2) := by decide +kernel
theorem dL_law_96 : decode cL_law 96 = .ok (.iconst 1, 1) := by decide +kernel
theorem dL_law_97 : decode cL_law 97 = .ok (.iadd, 1) := by decide +kernel
theorem dL_law_98 : decode cL_law 98 = .ok (.iaload, 1) := by decide +kernel
theorem dL_law_99 : decode cL_law 99 = .ok (.invokestatic 49, 3) := by decide +kernel
theorem dL_law_102 : decode cL_law 102 = .ok (.istore 5, 2) := by decide +kernel
theorem dL_law_104 : decode cL_law 104 = .ok (.aload_n 2, 1) := by decide +kernel
theorem dL_law_105 : decode cL_law 105 = .ok (.aload_n 0, 1) := by decide +kernel
theorem dL_law_106 : decode cL_law 106 = .ok (.iload 4, 2) := by decide +kernel
theorem dL_law_108 : decode cL_law 108 = .ok (.iconst 1, 1) := by decide +kernel
theorem dL_law_109 : decode cL_law 109 = .ok (.iadd, 1) := by decide +kernel
theorem dL_law_110 : decode cL_law 110 = .ok (.iaload, 1) := by decide +kernel
theorem dL_law_111 : decode cL_law 111 = .ok (.invokevirtual 54, 3) := by decide +kernel
theorem dL_law_114 : decode cL_law 114 = .ok (.aload_n 2, 1) := by decide +kernel
theorem dL_law_115 : decode cL_law 115 = .ok (.invokevirtual 55, 3) := by decide +kernel
theorem dL_law_118 : decode cL_law 118 = .ok (.iload 5, 2) := by decide +kernel
theorem dL_law_120 : decode cL_law 120 = .ok (.if_icmp .eq 5, 3) := by decide +kernel
theorem dL_law_123 : decode cL_law 123 = .ok (.iconst 0, 1) := by decide +kernel
theorem dL_law_124 : decode cL_law 124 = .ok (.ireturn, 1) := by decide +kernel
theorem dL_law_125 : decode cL_law 125 = .ok (.goto 758, 3) := by decide +kernel
theorem dL_law_128 : decode cL_law 128 = .ok (.aload_n 1, 1) := by decide +kernel
theorem dL_law_129 : decode cL_law 129 = .ok (.aload_n 0, 1) := by decide +kernel
theorem dL_law_130 : decode cL_law 130 = .ok (.iload 4, 2) := by decide +kernel
theorem dL_law_132 : decode cL_law 132 = .ok (.iconst 1, 1) := by decide +kernel
theorem dL_law_133 : decode cL_law 133 = .ok (.iadd, 1) := by decide +kernel
theorem dL_law_134 : decode cL_law 134 = .ok (.iaload, 1) := by decide +kernel
theorem dL_law_135 : decode cL_law 135 = .ok (.i2l, 1) := by decide +kernel
theorem dL_law_136 : decode cL_law 136 = .ok (.bipush 32, 2) := by decide +kernel
theorem dL_law_138 : decode cL_law 138 = .ok (.lshl, 1) := by decide +kernel
theorem dL_law_139 : decode cL_law 139 = .ok (.aload_n 0, 1) := by decide +kernel
theorem dL_law_140 : decode cL_law 140 = .ok (.iload 4, 2) := by decide +kernel
theorem dL_law_142 : decode cL_law 142 = .ok (.iconst 2, 1) := by decide +kernel
theorem dL_law_143 : decode cL_law 143 = .ok (.iadd, 1) := by decide +kernel
theorem dL_law_144 : decode cL_law 144 = .ok (.iaload, 1) := by decide +kernel
theorem dL_law_145 : decode cL_law 145 = .ok (.i2l, 1) := by decide +kernel
theorem dL_law_146 : decode cL_law 146 = .ok (.ldc2_w 59, 3) := by decide +kernel
theorem dL_law_149 : decode cL_law 149 = .ok (.land, 1) := by decide +kernel
theorem dL_law_150 : decode cL_law 150 = .ok (.lor, 1) := by decide +kernel
theorem dL_law_151 : decode cL_law 151 = .ok (.aload_n 0, 1) := by decide +kernel
theorem dL_law_152 : decode cL_law 152 = .ok (.iload 4, 2) := by decide +kernel
theorem dL_law_154 : decode cL_law 154 = .ok (.iconst 3, 1) := by decide +kernel
theorem dL_law_155 : decode cL_law 155 = .ok (.iadd, 1) := by decide +kernel
theorem dL_law_156 : decode cL_law 156 = .ok (.iaload, 1) := by decide +kernel
theorem dL_law_157 : decode cL_law 157 = .ok (.i2l, 1) := by decide +kernel
theorem dL_law_158 : decode cL_law 158 = .ok (.bipush 32, 2) := by decide +kernel
theorem dL_law_160 : decode cL_law 160 = .ok (.lshl, 1) := by decide +kernel
theorem dL_law_161 : decode cL_law 161 = .ok (.aload_n 0, 1) := by decide +kernel
theorem dL_law_162 : decode cL_law 162 = .ok (.iload 4, 2) := by decide +kernel
theorem dL_law_164 : decode cL_law 164 = .ok (.iconst 4, 1) := by decide +kernel
theorem dL_law_165 : decode cL_law 165 = .ok (.iadd, 1) := by decide +kernel
theorem dL_law_166 : decode cL_law 166 = .ok (.iaload, 1) := by decide +kernel
theorem dL_law_167 : decode cL_law 167 = .ok (.i2l, 1) := by decide +kernel
theorem dL_law_168 : decode cL_law 168 = .ok (.ldc2_w 59, 3) := by decide +kernel
theorem dL_law_171 : decode cL_law 171 = .ok (.land, 1) := by decide +kernel
theorem dL_law_172 : decode cL_law 172 = .ok (.lor, 1) := by decide +kernel
theorem dL_law_173 : decode cL_law 173 = .ok (.aload_n 3, 1) := by decide +kernel
theorem dL_law_174 : decode cL_law 174 = .ok (.invokestatic 61, 3) := by decide +kernel
theorem dL_law_177 : decode cL_law 177 = .ok (.istore 5, 2) := by decide +kernel
theorem dL_law_179 : decode cL_law 179 = .ok (.aload_n 2, 1) := by decide +kernel
theorem dL_law_180 : decode cL_law 180 = .ok (.aload_n 0, 1) := by decide +kernel
theorem dL_law_181 : decode cL_law 181 = .ok (.iload 4, 2) := by decide +kernel
theorem dL_law_183 : decode cL_law 183 = .ok (.iconst 1, 1) := by decide +kernel
theorem dL_law_184 : decode cL_law 184 = .ok (.iadd, 1) := by decide +kernel
theorem dL_law_185 : decode cL_law 185 = .ok (.iaload, 1) := by decide +kernel
theorem dL_law_186 : decode cL_law 186 = .ok (.i2l, 1) := by decide +kernel
theorem dL_law_187 : decode cL_law 187 = .ok (.bipush 32, 2) := by decide +kernel
theorem dL_law_189 : decode cL_law 189 = .ok (.lshl, 1) := by decide +kernel
theorem dL_law_190 : decode cL_law 190 = .ok (.aload_n 0, 1) := by decide +kernel
theorem dL_law_191 : decode cL_law 191 = .ok (.iload 4, 2) := by decide +kernel
theorem dL_law_193 : decode cL_law 193 = .ok (.iconst 2, 1) := by decide +kernel
theorem dL_law_194 : decode cL_law 194 = .ok (.iadd, 1) := by decide +kernel
theorem dL_law_195 : decode cL_law 195 = .ok (.iaload, 1) := by decide +kernel
theorem dL_law_196 : decode cL_law 196 = .ok (.i2l, 1) := by decide +kernel
theorem dL_law_197 : decode cL_law 197 = .ok (.ldc2_w 59, 3) := by decide +kernel
theorem dL_law_200 : decode cL_law 200 = .ok (.land, 1) := by decide +kernel
theorem dL_law_201 : decode cL_law 201 = .ok (.lor, 1) := by decide +kernel
theorem dL_law_202 : decode cL_law 202 = .ok (.aload_n 0, 1) := by decide +kernel
theorem dL_law_203 : decode cL_law 203 = .ok (.iload 4, 2) := by decide +kernel
theorem dL_law_205 : decode cL_law 205 = .ok (.iconst 3, 1) := by decide +kernel
theorem dL_law_206 : decode cL_law 206 = .ok (.iadd, 1) := by decide +kernel
theorem dL_law_207 : decode cL_law 207 = .ok (.iaload, 1) := by decide +kernel
theorem dL_law_208 : decode cL_law 208 = .ok (.i2l, 1) := by decide +kernel
theorem dL_law_209 : decode cL_law 209 = .ok (.bipush 32, 2) := by decide +kernel
theorem dL_law_211 : decode cL_law 211 = .ok (.lshl, 1) := by decide +kernel
theorem dL_law_212 : decode cL_law 212 = .ok (.aload_n 0, 1) := by decide +kernel
theorem dL_law_213 : decode cL_law 213 = .ok (.iload 4, 2) := by decide +kernel
theorem dL_law_215 : decode cL_law 215 = .ok (.iconst 4, 1) := by decide +kernel
theorem dL_law_216 : decode cL_law 216 = .ok (.iadd, 1) := by decide +kernel
theorem dL_law_217 : decode cL_law 217 = .ok (.iaload, 1) := by decide +kernel
theorem dL_law_218 : decode cL_law 218 = .ok (.i2l, 1) := by decide +kernel
theorem dL_law_219 : decode cL_law 219 = .ok (.ldc2_w 59, 3) := by decide +kernel
theorem dL_law_222 : decode cL_law 222 = .ok (.land, 1) := by decide +kernel
theorem dL_law_223 : decode cL_law 223 = .ok (.lor, 1) := by decide +kernel
theorem dL_law_224 : decode cL_law 224 = .ok (.invokevirtual 64, 3) := by decide +kernel
theorem dL_law_227 : decode cL_law 227 = .ok (.istore 6, 2) := by decide +kernel
theorem dL_law_229 : decode cL_law 229 = .ok (.aload_n 2, 1) := by decide +kernel
theorem dL_law_230 : decode cL_law 230 = .ok (.invokevirtual 55, 3) := by decide +kernel
theorem dL_law_233 : decode cL_law 233 = .ok (.iload 5, 2) := by decide +kernel
theorem dL_law_235 : decode cL_law 235 = .ok (.if_icmp .eq 5, 3) := by decide +kernel
theorem dL_law_238 : decode cL_law 238 = .ok (.iconst 0, 1) := by decide +kernel
theorem dL_law_239 : decode cL_law 239 = .ok (.ireturn, 1) := by decide +kernel
theorem dL_law_240 : decode cL_law 240 = .ok (.iload 5, 2) := by decide +kernel
theorem dL_law_242 : decode cL_law 242 = .ok (.ifCond .ne 15, 3) := by decide +kernel
theorem dL_law_245 : decode cL_law 245 = .ok (.aload_n 3, 1) := by decide +kernel
theorem dL_law_246 : decode cL_law 246 = .ok (.iconst 0, 1) := by decide +kernel
theorem dL_law_247 : decode cL_law 247 = .ok (.laload, 1) := by decide +kernel
theorem dL_law_248 : decode cL_law 248 = .ok (.iload 6, 2) := by decide +kernel
theorem dL_law_250 : decode cL_law 250 = .ok (.i2l, 1) := by decide +kernel
theorem dL_law_251 : decode cL_law 251 = .ok (.lcmp, 1) := by decide +kernel
theorem dL_law_252 : decode cL_law 252 = .ok (.ifCond .eq 5, 3) := by decide +kernel
theorem dL_law_255 : decode cL_law 255 = .ok (.iconst 0, 1) := by decide +kernel
theorem dL_law_256 : decode cL_law 256 = .ok (.ireturn, 1) := by decide +kernel
theorem dL_law_257 : decode cL_law 257 = .ok (.goto 626, 3) := by decide +kernel
theorem dL_law_260 : decode cL_law 260 = .ok (.aload_n 1, 1) := by decide +kernel
theorem dL_law_261 : decode cL_law 261 = .ok (.aload_n 0, 1) := by decide +kernel
theorem dL_law_262 : decode cL_law 262 = .ok (.iload 4, 2) := by decide +kernel
theorem dL_law_264 : decode cL_law 264 = .ok (.iconst 1, 1) := by decide +kernel
theorem dL_law_265 : decode cL_law 265 = .ok (.iadd, 1) := by decide +kernel
end
section
theorem dL_law_266 : decode cL_law 266 = .ok (.iaload, 1) := by decide +kernel
theorem dL_law_267 : decode cL_law 267 = .ok (.i2l, 1) := by decide +kernel
theorem dL_law_268 : decode cL_law 268 = .ok (.bipush 32, 2) := by decide +kernel
theorem dL_law_270 : decode cL_law 270 = .ok (.lshl, 1) := by decide +kernel
theorem dL_law_271 : decode cL_law 271 = .ok (.aload_n 0, 1) := by decide +kernel
theorem dL_law_272 : decode cL_law 272 = .ok (.iload 4, 2) := by decide +kernel
theorem dL_law_274 : decode cL_law 274 = .ok (.iconst 2, 1) := by decide +kernel
theorem dL_law_275 : decode cL_law 275 = .ok (.iadd, 1) := by decide +kernel
theorem dL_law_276 : decode cL_law 276 = .ok (.iaload, 1) := by decide +kernel
theorem dL_law_277 : decode cL_law 277 = .ok (.i2l, 1) := by decide +kernel
theorem dL_law_278 : decode cL_law 278 = .ok (.ldc2_w 59, 3) := by decide +kernel
theorem dL_law_281 : decode cL_law 281 = .ok (.land, 1) := by decide +kernel
theorem dL_law_282 : decode cL_law 282 = .ok (.lor, 1) := by decide +kernel
theorem dL_law_283 : decode cL_law 283 = .ok (.aload_n 3, 1) := by decide +kernel
theorem dL_law_284 : decode cL_law 284 = .ok (.invokestatic 65, 3) := by decide +kernel
theorem dL_law_287 : decode cL_law 287 = .ok (.istore 5, 2) := by decide +kernel
theorem dL_law_289 : decode cL_law 289 = .ok (.aload_n 2, 1) := by decide +kernel
theorem dL_law_290 : decode cL_law 290 = .ok (.aload_n 0, 1) := by decide +kernel
theorem dL_law_291 : decode cL_law 291 = .ok (.iload 4, 2) := by decide +kernel
theorem dL_law_293 : decode cL_law 293 = .ok (.iconst 1, 1) := by decide +kernel
theorem dL_law_294 : decode cL_law 294 = .ok (.iadd, 1) := by decide +kernel
theorem dL_law_295 : decode cL_law 295 = .ok (.iaload, 1) := by decide +kernel
theorem dL_law_296 : decode cL_law 296 = .ok (.i2l, 1) := by decide +kernel
theorem dL_law_297 : decode cL_law 297 = .ok (.bipush 32, 2) := by decide +kernel
theorem dL_law_299 : decode cL_law 299 = .ok (.lshl, 1) := by decide +kernel
theorem dL_law_300 : decode cL_law 300 = .ok (.aload_n 0, 1) := by decide +kernel
theorem dL_law_301 : decode cL_law 301 = .ok (.iload 4, 2) := by decide +kernel
theorem dL_law_303 : decode cL_law 303 = .ok (.iconst 2, 1) := by decide +kernel
theorem dL_law_304 : decode cL_law 304 = .ok (.iadd, 1) := by decide +kernel
theorem dL_law_305 : decode cL_law 305 = .ok (.iaload, 1) := by decide +kernel
theorem dL_law_306 : decode cL_law 306 = .ok (.i2l, 1) := by decide +kernel
theorem dL_law_307 : decode cL_law 307 = .ok (.ldc2_w 59, 3) := by decide +kernel
theorem dL_law_310 : decode cL_law 310 = .ok (.land, 1) := by decide +kernel
theorem dL_law_311 : decode cL_law 311 = .ok (.lor, 1) := by decide +kernel
theorem dL_law_312 : decode cL_law 312 = .ok (.invokevirtual 68, 3) := by decide +kernel
theorem dL_law_315 : decode cL_law 315 = .ok (.istore 6, 2) := by decide +kernel
theorem dL_law_317 : decode cL_law 317 = .ok (.aload_n 2, 1) := by decide +kernel
theorem dL_law_318 : decode cL_law 318 = .ok (.invokevirtual 55, 3) := by decide +kernel
theorem dL_law_321 : decode cL_law 321 = .ok (.iload 5, 2) := by decide +kernel
theorem dL_law_323 : decode cL_law 323 = .ok (.if_icmp .eq 5, 3) := by decide +kernel
theorem dL_law_326 : decode cL_law 326 = .ok (.iconst 0, 1) := by decide +kernel
theorem dL_law_327 : decode cL_law 327 = .ok (.ireturn, 1) := by decide +kernel
theorem dL_law_328 : decode cL_law 328 = .ok (.iload 5, 2) := by decide +kernel
theorem dL_law_330 : decode cL_law 330 = .ok (.ifCond .ne 15, 3) := by decide +kernel
theorem dL_law_333 : decode cL_law 333 = .ok (.aload_n 3, 1) := by decide +kernel
theorem dL_law_334 : decode cL_law 334 = .ok (.iconst 0, 1) := by decide +kernel
theorem dL_law_335 : decode cL_law 335 = .ok (.laload, 1) := by decide +kernel
theorem dL_law_336 : decode cL_law 336 = .ok (.iload 6, 2) := by decide +kernel
theorem dL_law_338 : decode cL_law 338 = .ok (.i2l, 1) := by decide +kernel
theorem dL_law_339 : decode cL_law 339 = .ok (.lcmp, 1) := by decide +kernel
theorem dL_law_340 : decode cL_law 340 = .ok (.ifCond .eq 5, 3) := by decide +kernel
theorem dL_law_343 : decode cL_law 343 = .ok (.iconst 0, 1) := by decide +kernel
theorem dL_law_344 : decode cL_law 344 = .ok (.ireturn, 1) := by decide +kernel
theorem dL_law_345 : decode cL_law 345 = .ok (.goto 538, 3) := by decide +kernel
theorem dL_law_348 : decode cL_law 348 = .ok (.aload_n 1, 1) := by decide +kernel
theorem dL_law_349 : decode cL_law 349 = .ok (.aload_n 0, 1) := by decide +kernel
theorem dL_law_350 : decode cL_law 350 = .ok (.iload 4, 2) := by decide +kernel
theorem dL_law_352 : decode cL_law 352 = .ok (.iconst 1, 1) := by decide +kernel
theorem dL_law_353 : decode cL_law 353 = .ok (.iadd, 1) := by decide +kernel
theorem dL_law_354 : decode cL_law 354 = .ok (.iaload, 1) := by decide +kernel
theorem dL_law_355 : decode cL_law 355 = .ok (.invokestatic 69, 3) := by decide +kernel
theorem dL_law_358 : decode cL_law 358 = .ok (.istore 5, 2) := by decide +kernel
theorem dL_law_360 : decode cL_law 360 = .ok (.aload_n 2, 1) := by decide +kernel
theorem dL_law_361 : decode cL_law 361 = .ok (.aload_n 0, 1) := by decide +kernel
theorem dL_law_362 : decode cL_law 362 = .ok (.iload 4, 2) := by decide +kernel
theorem dL_law_364 : decode cL_law 364 = .ok (.iconst 1, 1) := by decide +kernel
theorem dL_law_365 : decode cL_law 365 = .ok (.iadd, 1) := by decide +kernel
theorem dL_law_366 : decode cL_law 366 = .ok (.iaload, 1) := by decide +kernel
theorem dL_law_367 : decode cL_law 367 = .ok (.invokevirtual 71, 3) := by decide +kernel
theorem dL_law_370 : decode cL_law 370 = .ok (.aload_n 2, 1) := by decide +kernel
theorem dL_law_371 : decode cL_law 371 = .ok (.invokevirtual 55, 3) := by decide +kernel
theorem dL_law_374 : decode cL_law 374 = .ok (.iload 5, 2) := by decide +kernel
theorem dL_law_376 : decode cL_law 376 = .ok (.if_icmp .eq 5, 3) := by decide +kernel
theorem dL_law_379 : decode cL_law 379 = .ok (.iconst 0, 1) := by decide +kernel
theorem dL_law_380 : decode cL_law 380 = .ok (.ireturn, 1) := by decide +kernel
theorem dL_law_381 : decode cL_law 381 = .ok (.goto 502, 3) := by decide +kernel
theorem dL_law_384 : decode cL_law 384 = .ok (.aload_n 1, 1) := by decide +kernel
theorem dL_law_385 : decode cL_law 385 = .ok (.aload_n 0, 1) := by decide +kernel
theorem dL_law_386 : decode cL_law 386 = .ok (.iload 4, 2) := by decide +kernel
theorem dL_law_388 : decode cL_law 388 = .ok (.iconst 1, 1) := by decide +kernel
theorem dL_law_389 : decode cL_law 389 = .ok (.iadd, 1) := by decide +kernel
theorem dL_law_390 : decode cL_law 390 = .ok (.iaload, 1) := by decide +kernel
theorem dL_law_391 : decode cL_law 391 = .ok (.i2l, 1) := by decide +kernel
theorem dL_law_392 : decode cL_law 392 = .ok (.bipush 32, 2) := by decide +kernel
theorem dL_law_394 : decode cL_law 394 = .ok (.lshl, 1) := by decide +kernel
theorem dL_law_395 : decode cL_law 395 = .ok (.aload_n 0, 1) := by decide +kernel
theorem dL_law_396 : decode cL_law 396 = .ok (.iload 4, 2) := by decide +kernel
theorem dL_law_398 : decode cL_law 398 = .ok (.iconst 2, 1) := by decide +kernel
theorem dL_law_399 : decode cL_law 399 = .ok (.iadd, 1) := by decide +kernel
theorem dL_law_400 : decode cL_law 400 = .ok (.iaload, 1) := by decide +kernel
theorem dL_law_401 : decode cL_law 401 = .ok (.i2l, 1) := by decide +kernel
theorem dL_law_402 : decode cL_law 402 = .ok (.ldc2_w 59, 3) := by decide +kernel
theorem dL_law_405 : decode cL_law 405 = .ok (.land, 1) := by decide +kernel
theorem dL_law_406 : decode cL_law 406 = .ok (.lor, 1) := by decide +kernel
theorem dL_law_407 : decode cL_law 407 = .ok (.invokevirtual 72, 3) := by decide +kernel
theorem dL_law_410 : decode cL_law 410 = .ok (.aload_n 2, 1) := by decide +kernel
theorem dL_law_411 : decode cL_law 411 = .ok (.aload_n 0, 1) := by decide +kernel
theorem dL_law_412 : decode cL_law 412 = .ok (.iload 4, 2) := by decide +kernel
theorem dL_law_414 : decode cL_law 414 = .ok (.iconst 1, 1) := by decide +kernel
theorem dL_law_415 : decode cL_law 415 = .ok (.iadd, 1) := by decide +kernel
theorem dL_law_416 : decode cL_law 416 = .ok (.iaload, 1) := by decide +kernel
theorem dL_law_417 : decode cL_law 417 = .ok (.i2l, 1) := by decide +kernel
theorem dL_law_418 : decode cL_law 418 = .ok (.bipush 32, 2) := by decide +kernel
theorem dL_law_420 : decode cL_law 420 = .ok (.lshl, 1) := by decide +kernel
theorem dL_law_421 : decode cL_law 421 = .ok (.aload_n 0, 1) := by decide +kernel
theorem dL_law_422 : decode cL_law 422 = .ok (.iload 4, 2) := by decide +kernel
theorem dL_law_424 : decode cL_law 424 = .ok (.iconst 2, 1) := by decide +kernel
theorem dL_law_425 : decode cL_law 425 = .ok (.iadd, 1) := by decide +kernel
theorem dL_law_426 : decode cL_law 426 = .ok (.iaload, 1) := by decide +kernel
theorem dL_law_427 : decode cL_law 427 = .ok (.i2l, 1) := by decide +kernel
theorem dL_law_428 : decode cL_law 428 = .ok (.ldc2_w 59, 3) := by decide +kernel
theorem dL_law_431 : decode cL_law 431 = .ok (.land, 1) := by decide +kernel
theorem dL_law_432 : decode cL_law 432 = .ok (.lor, 1) := by decide +kernel
theorem dL_law_433 : decode cL_law 433 = .ok (.invokevirtual 75, 3) := by decide +kernel
theorem dL_law_436 : decode cL_law 436 = .ok (.if_icmp .eq 447, 3) := by decide +kernel
theorem dL_law_439 : decode cL_law 439 = .ok (.iconst 0, 1) := by decide +kernel
theorem dL_law_440 : decode cL_law 440 = .ok (.ireturn, 1) := by decide +kernel
theorem dL_law_441 : decode cL_law 441 = .ok (.aload_n 1, 1) := by decide +kernel
theorem dL_law_442 : decode cL_law 442 = .ok (.aload_n 0, 1) := by decide +kernel
theorem dL_law_443 : decode cL_law 443 = .ok (.iload 4, 2) := by decide +kernel
theorem dL_law_445 : decode cL_law 445 = .ok (.iconst 1, 1) := by decide +kernel
theorem dL_law_446 : decode cL_law 446 = .ok (.iadd, 1) := by decide +kernel
theorem dL_law_447 : decode cL_law 447 = .ok (.iaload, 1) := by decide +kernel
theorem dL_law_448 : decode cL_law 448 = .ok (.i2l, 1) := by decide +kernel
theorem dL_law_449 : decode cL_law 449 = .ok (.bipush 32, 2) := by decide +kernel
theorem dL_law_451 : decode cL_law 451 = .ok (.lshl, 1) := by decide +kernel
theorem dL_law_452 : decode cL_law 452 = .ok (.aload_n 0, 1) := by decide +kernel
theorem dL_law_453 : decode cL_law 453 = .ok (.iload 4, 2) := by decide +kernel
theorem dL_law_455 : decode cL_law 455 = .ok (.iconst 2, 1) := by decide +kernel
theorem dL_law_456 : decode cL_law 456 = .ok (.iadd, 1) := by decide +kernel
theorem dL_law_457 : decode cL_law 457 = .ok (.iaload, 1) := by decide +kernel
theorem dL_law_458 : decode cL_law 458 = .ok (.i2l, 1) := by decide +kernel
theorem dL_law_459 : decode cL_law 459 = .ok (.ldc2_w 59, 3) := by decide +kernel
theorem dL_law_462 : decode cL_law 462 = .ok (.land, 1) := by decide +kernel
theorem dL_law_463 : decode cL_law 463 = .ok (.lor, 1) := by decide +kernel
theorem dL_law_464 : decode cL_law 464 = .ok (.aload_n 0, 1) := by decide +kernel
theorem dL_law_465 : decode cL_law 465 = .ok (.iload 4, 2) := by decide +kernel
theorem dL_law_467 : decode cL_law 467 = .ok (.iconst 3, 1) := by decide +kernel
theorem dL_law_468 : decode cL_law 468 = .ok (.iadd, 1) := by decide +kernel
theorem dL_law_469 : decode cL_law 469 = .ok (.iaload, 1) := by decide +kernel
theorem dL_law_470 : decode cL_law 470 = .ok (.i2l, 1) := by decide +kernel
theorem dL_law_471 : decode cL_law 471 = .ok (.bipush 32, 2) := by decide +kernel
theorem dL_law_473 : decode cL_law 473 = .ok (.lshl, 1) := by decide +kernel
theorem dL_law_474 : decode cL_law 474 = .ok (.aload_n 0, 1) := by decide +kernel
theorem dL_law_475 : decode cL_law 475 = .ok (.iload 4, 2) := by decide +kernel
theorem dL_law_477 : decode cL_law 477 = .ok (.iconst 4, 1) := by decide +kernel
theorem dL_law_478 : decode cL_law 478 = .ok (.iadd, 1) := by decide +kernel
theorem dL_law_479 : decode cL_law 479 = .ok (.iaload, 1) := by decide +kernel
theorem dL_law_480 : decode cL_law 480 = .ok (.i2l, 1) := by decide +kernel
theorem dL_law_481 : decode cL_law 481 = .ok (.ldc2_w 59, 3) := by decide +kernel
theorem dL_law_484 : decode cL_law 484 = .ok (.land, 1) := by decide +kernel
theorem dL_law_485 : decode cL_law 485 = .ok (.lor, 1) := by decide +kernel
theorem dL_law_486 : decode cL_law 486 = .ok (.aload_n 3, 1) := by decide +kernel
theorem dL_law_487 : decode cL_law 487 = .ok (.invokestatic 76, 3) := by decide +kernel
theorem dL_law_490 : decode cL_law 490 = .ok (.istore 5, 2) := by decide +kernel
theorem dL_law_492 : decode cL_law 492 = .ok (.aload_n 2, 1) := by decide +kernel
theorem dL_law_493 : decode cL_law 493 = .ok (.aload_n 0, 1) := by decide +kernel
theorem dL_law_494 : decode cL_law 494 = .ok (.iload 4, 2) := by decide +kernel
theorem dL_law_496 : decode cL_law 496 = .ok (.iconst 1, 1) := by decide +kernel
theorem dL_law_497 : decode cL_law 497 = .ok (.iadd, 1) := by decide +kernel
theorem dL_law_498 : decode cL_law 498 = .ok (.iaload, 1) := by decide +kernel
theorem dL_law_499 : decode cL_law 499 = .ok (.i2l, 1) := by decide +kernel
theorem dL_law_500 : decode cL_law 500 = .ok (.bipush 32, 2) := by decide +kernel
theorem dL_law_502 : decode cL_law 502 = .ok (.lshl, 1) := by decide +kernel
theorem dL_law_503 : decode cL_law 503 = .ok (.aload_n 0, 1) := by decide +kernel
theorem dL_law_504 : decode cL_law 504 = .ok (.iload 4, 2) := by decide +kernel
theorem dL_law_506 : decode cL_law 506 = .ok (.iconst 2, 1) := by decide +kernel
theorem dL_law_507 : decode cL_law 507 = .ok (.iadd, 1) := by decide +kernel
theorem dL_law_508 : decode cL_law 508 = .ok (.iaload, 1) := by decide +kernel
theorem dL_law_509 : decode cL_law 509 = .ok (.i2l, 1) := by decide +kernel
theorem dL_law_510 : decode cL_law 510 = .ok (.ldc2_w 59, 3) := by decide +kernel
theorem dL_law_513 : decode cL_law 513 = .ok (.land, 1) := by decide +kernel
theorem dL_law_514 : decode cL_law 514 = .ok (.lor, 1) := by decide +kernel
theorem dL_law_515 : decode cL_law 515 = .ok (.aload_n 0, 1) := by decide +kernel
theorem dL_law_516 : decode cL_law 516 = .ok (.iload 4, 2) := by decide +kernel
theorem dL_law_518 : decode cL_law 518 = .ok (.iconst 3, 1) := by decide +kernel
theorem dL_law_519 : decode cL_law 519 = .ok (.iadd, 1) := by decide +kernel
theorem dL_law_520 : decode cL_law 520 = .ok (.iaload, 1) := by decide +kernel
theorem dL_law_521 : decode cL_law 521 = .ok (.i2l, 1) := by decide +kernel
theorem dL_law_522 : decode cL_law 522 = .ok (.bipush 32, 2) := by decide +kernel
theorem dL_law_524 : decode cL_law 524 = .ok (.lshl, 1) := by decide +kernel
theorem dL_law_525 : decode cL_law 525 = .ok (.aload_n 0, 1) := by decide +kernel
theorem dL_law_526 : decode cL_law 526 = .ok (.iload 4, 2) := by decide +kernel
theorem dL_law_528 : decode cL_law 528 = .ok (.iconst 4, 1) := by decide +kernel
theorem dL_law_529 : decode cL_law 529 = .ok (.iadd, 1) := by decide +kernel
theorem dL_law_530 : decode cL_law 530 = .ok (.iaload, 1) := by decide +kernel
theorem dL_law_531 : decode cL_law 531 = .ok (.i2l, 1) := by decide +kernel
theorem dL_law_532 : decode cL_law 532 = .ok (.ldc2_w 59, 3) := by decide +kernel
theorem dL_law_535 : decode cL_law 535 = .ok (.land, 1) := by decide +kernel
theorem dL_law_536 : decode cL_law 536 = .ok (.lor, 1) := by decide +kernel
theorem dL_law_537 : decode cL_law 537 = .ok (.invokevirtual 78, 3) := by decide +kernel
theorem dL_law_540 : decode cL_law 540 = .ok (.istore 6, 2) := by decide +kernel
theorem dL_law_542 : decode cL_law 542 = .ok (.aload_n 2, 1) := by decide +kernel
theorem dL_law_543 : decode cL_law 543 = .ok (.invokevirtual 55, 3) := by decide +kernel
theorem dL_law_546 : decode cL_law 546 = .ok (.iload 5, 2) := by decide +kernel
theorem dL_law_548 : decode cL_law 548 = .ok (.if_icmp .eq 5, 3) := by decide +kernel
theorem dL_law_551 : decode cL_law 551 = .ok (.iconst 0, 1) := by decide +kernel
theorem dL_law_552 : decode cL_law 552 = .ok (.ireturn, 1) := by decide +kernel
theorem dL_law_553 : decode cL_law 553 = .ok (.iload 5, 2) := by decide +kernel
theorem dL_law_555 : decode cL_law 555 = .ok (.ifCond .ne 15, 3) := by decide +kernel
theorem dL_law_558 : decode cL_law 558 = .ok (.aload_n 3, 1) := by decide +kernel
theorem dL_law_559 : decode cL_law 559 = .ok (.iconst 0, 1) := by decide +kernel
theorem dL_law_560 : decode cL_law 560 = .ok (.laload, 1) := by decide +kernel
theorem dL_law_561 : decode cL_law 561 = .ok (.iload 6, 2) := by decide +kernel
theorem dL_law_563 : decode cL_law 563 = .ok (.i2l, 1) := by decide +kernel
theorem dL_law_564 : decode cL_law 564 = .ok (.lcmp, 1) := by decide +kernel
theorem dL_law_565 : decode cL_law 565 = .ok (.ifCond .eq 5, 3) := by decide +kernel
theorem dL_law_568 : decode cL_law 568 = .ok (.iconst 0, 1) := by decide +kernel
theorem dL_law_569 : decode cL_law 569 = .ok (.ireturn, 1) := by decide +kernel
theorem dL_law_570 : decode cL_law 570 = .ok (.goto 313, 3) := by decide +kernel
theorem dL_law_573 : decode cL_law 573 = .ok (.aload_n 1, 1) := by decide +kernel
theorem dL_law_574 : decode cL_law 574 = .ok (.aload_n 0, 1) := by decide +kernel
theorem dL_law_575 : decode cL_law 575 = .ok (.iload 4, 2) := by decide +kernel
theorem dL_law_577 : decode cL_law 577 = .ok (.iconst 1, 1) := by decide +kernel
theorem dL_law_578 : decode cL_law 578 = .ok (.iadd, 1) := by decide +kernel
theorem dL_law_579 : decode cL_law 579 = .ok (.iaload, 1) := by decide +kernel
theorem dL_law_580 : decode cL_law 580 = .ok (.i2l, 1) := by decide +kernel
theorem dL_law_581 : decode cL_law 581 = .ok (.bipush 32, 2) := by decide +kernel
theorem dL_law_583 : decode cL_law 583 = .ok (.lshl, 1) := by decide +kernel
theorem dL_law_584 : decode cL_law 584 = .ok (.aload_n 0, 1) := by decide +kernel
theorem dL_law_585 : decode cL_law 585 = .ok (.iload 4, 2) := by decide +kernel
theorem dL_law_587 : decode cL_law 587 = .ok (.iconst 2, 1) := by decide +kernel
theorem dL_law_588 : decode cL_law 588 = .ok (.iadd, 1) := by decide +kernel
theorem dL_law_589 : decode cL_law 589 = .ok (.iaload, 1) := by decide +kernel
theorem dL_law_590 : decode cL_law 590 = .ok (.i2l, 1) := by decide +kernel
theorem dL_law_591 : decode cL_law 591 = .ok (.ldc2_w 59, 3) := by decide +kernel
theorem dL_law_594 : decode cL_law 594 = .ok (.land, 1) := by decide +kernel
theorem dL_law_595 : decode cL_law 595 = .ok (.lor, 1) := by decide +kernel
theorem dL_law_596 : decode cL_law 596 = .ok (.aload_n 0, 1) := by decide +kernel
theorem dL_law_597 : decode cL_law 597 = .ok (.iload 4, 2) := by decide +kernel
theorem dL_law_599 : decode cL_law 599 = .ok (.iconst 3, 1) := by decide +kernel
theorem dL_law_600 : decode cL_law 600 = .ok (.iadd, 1) := by decide +kernel
theorem dL_law_601 : decode cL_law 601 = .ok (.iaload, 1) := by decide +kernel
theorem dL_law_602 : decode cL_law 602 = .ok (.i2l, 1) := by decide +kernel
theorem dL_law_603 : decode cL_law 603 = .ok (.bipush 32, 2) := by decide +kernel
theorem dL_law_605 : decode cL_law 605 = .ok (.lshl, 1) := by decide +kernel
theorem dL_law_606 : decode cL_law 606 = .ok (.aload_n 0, 1) := by decide +kernel
theorem dL_law_607 : decode cL_law 607 = .ok (.iload 4, 2) := by decide +kernel
theorem dL_law_609 : decode cL_law 609 = .ok (.iconst 4, 1) := by decide +kernel
theorem dL_law_610 : decode cL_law 610 = .ok (.iadd, 1) := by decide +kernel
theorem dL_law_611 : decode cL_law 611 = .ok (.iaload, 1) := by decide +kernel
theorem dL_law_612 : decode cL_law 612 = .ok (.i2l, 1) := by decide +kernel
theorem dL_law_613 : decode cL_law 613 = .ok (.ldc2_w 59, 3) := by decide +kernel
theorem dL_law_616 : decode cL_law 616 = .ok (.land, 1) := by decide +kernel
theorem dL_law_617 : decode cL_law 617 = .ok (.lor, 1) := by decide +kernel
theorem dL_law_618 : decode cL_law 618 = .ok (.aload_n 3, 1) := by decide +kernel
theorem dL_law_619 : decode cL_law 619 = .ok (.invokestatic 79, 3) := by decide +kernel
theorem dL_law_622 : decode cL_law 622 = .ok (.istore 5, 2) := by decide +kernel
theorem dL_law_624 : decode cL_law 624 = .ok (.aload_n 2, 1) := by decide +kernel
theorem dL_law_625 : decode cL_law 625 = .ok (.aload_n 0, 1) := by decide +kernel
theorem dL_law_626 : decode cL_law 626 = .ok (.iload 4, 2) := by decide +kernel
theorem dL_law_628 : decode cL_law 628 = .ok (.iconst 1, 1) := by decide +kernel
theorem dL_law_629 : decode cL_law 629 = .ok (.iadd, 1) := by decide +kernel
theorem dL_law_630 : decode cL_law 630 = .ok (.iaload, 1) := by decide +kernel
theorem dL_law_631 : decode cL_law 631 = .ok (.i2l, 1) := by decide +kernel
theorem dL_law_632 : decode cL_law 632 = .ok (.bipush 32, 2) := by decide +kernel
theorem dL_law_634 : decode cL_law 634 = .ok (.lshl, 1) := by decide +kernel
theorem dL_law_635 : decode cL_law 635 = .ok (.aload_n 0, 1) := by decide +kernel
theorem dL_law_636 : decode cL_law 636 = .ok (.iload 4, 2) := by decide +kernel
theorem dL_law_638 : decode cL_law 638 = .ok (.iconst 2, 1) := by decide +kernel
theorem dL_law_639 : decode cL_law 639 = .ok (.iadd, 1) := by decide +kernel
theorem dL_law_640 : decode cL_law 640 = .ok (.iaload, 1) := by decide +kernel
theorem dL_law_641 : decode cL_law 641 = .ok (.i2l, 1) := by decide +kernel
theorem dL_law_642 : decode cL_law 642 = .ok (.ldc2_w 59, 3) := by decide +kernel
theorem dL_law_645 : decode cL_law 645 = .ok (.land, 1) := by decide +kernel
theorem dL_law_646 : decode cL_law 646 = .ok (.lor, 1) := by decide +kernel
theorem dL_law_647 : decode cL_law 647 = .ok (.aload_n 0, 1) := by decide +kernel
theorem dL_law_648 : decode cL_law 648 = .ok (.iload 4, 2) := by decide +kernel
theorem dL_law_650 : decode cL_law 650 = .ok (.iconst 3, 1) := by decide +kernel
theorem dL_law_651 : decode cL_law 651 = .ok (.iadd, 1) := by decide +kernel
theorem dL_law_652 : decode cL_law 652 = .ok (.iaload, 1) := by decide +kernel
theorem dL_law_653 : decode cL_law 653 = .ok (.i2l, 1) := by decide +kernel
theorem dL_law_654 : decode cL_law 654 = .ok (.bipush 32, 2) := by decide +kernel
theorem dL_law_656 : decode cL_law 656 = .ok (.lshl, 1) := by decide +kernel
theorem dL_law_657 : decode cL_law 657 = .ok (.aload_n 0, 1) := by decide +kernel
theorem dL_law_658 : decode cL_law 658 = .ok (.iload 4, 2) := by decide +kernel
theorem dL_law_660 : decode cL_law 660 = .ok (.iconst 4, 1) := by decide +kernel
theorem dL_law_661 : decode cL_law 661 = .ok (.iadd, 1) := by decide +kernel
theorem dL_law_662 : decode cL_law 662 = .ok (.iaload, 1) := by decide +kernel
theorem dL_law_663 : decode cL_law 663 = .ok (.i2l, 1) := by decide +kernel
theorem dL_law_664 : decode cL_law 664 = .ok (.ldc2_w 59, 3) := by decide +kernel
theorem dL_law_667 : decode cL_law 667 = .ok (.land, 1) := by decide +kernel
theorem dL_law_668 : decode cL_law 668 = .ok (.lor, 1) := by decide +kernel
theorem dL_law_669 : decode cL_law 669 = .ok (.invokevirtual 81, 3) := by decide +kernel
theorem dL_law_672 : decode cL_law 672 = .ok (.lstore 6, 2) := by decide +kernel
theorem dL_law_674 : decode cL_law 674 = .ok (.aload_n 2, 1) := by decide +kernel
theorem dL_law_675 : decode cL_law 675 = .ok (.invokevirtual 55, 3) := by decide +kernel
theorem dL_law_678 : decode cL_law 678 = .ok (.iload 5, 2) := by decide +kernel
theorem dL_law_680 : decode cL_law 680 = .ok (.if_icmp .eq 5, 3) := by decide +kernel
theorem dL_law_683 : decode cL_law 683 = .ok (.iconst 0, 1) := by decide +kernel
theorem dL_law_684 : decode cL_law 684 = .ok (.ireturn, 1) := by decide +kernel
theorem dL_law_685 : decode cL_law 685 = .ok (.iload 5, 2) := by decide +kernel
theorem dL_law_687 : decode cL_law 687 = .ok (.ifCond .ne 14, 3) := by decide +kernel
theorem dL_law_690 : decode cL_law 690 = .ok (.aload_n 3, 1) := by decide +kernel
theorem dL_law_691 : decode cL_law 691 = .ok (.iconst 0, 1) := by decide +kernel
theorem dL_law_692 : decode cL_law 692 = .ok (.laload, 1) := by decide +kernel
theorem dL_law_693 : decode cL_law 693 = .ok (.lload 6, 2) := by decide +kernel
theorem dL_law_695 : decode cL_law 695 = .ok (.lcmp, 1) := by decide +kernel
theorem dL_law_696 : decode cL_law 696 = .ok (.ifCond .eq 5, 3) := by decide +kernel
theorem dL_law_699 : decode cL_law 699 = .ok (.iconst 0, 1) := by decide +kernel
theorem dL_law_700 : decode cL_law 700 = .ok (.ireturn, 1) := by decide +kernel
theorem dL_law_701 : decode cL_law 701 = .ok (.goto 182, 3) := by decide +kernel
theorem dL_law_704 : decode cL_law 704 = .ok (.aload_n 1, 1) := by decide +kernel
theorem dL_law_705 : decode cL_law 705 = .ok (.aload_n 0, 1) := by decide +kernel
theorem dL_law_706 : decode cL_law 706 = .ok (.iload 4, 2) := by decide +kernel
theorem dL_law_708 : decode cL_law 708 = .ok (.iconst 1, 1) := by decide +kernel
theorem dL_law_709 : decode cL_law 709 = .ok (.iadd, 1) := by decide +kernel
theorem dL_law_710 : decode cL_law 710 = .ok (.iaload, 1) := by decide +kernel
theorem dL_law_711 : decode cL_law 711 = .ok (.i2l, 1) := by decide +kernel
theorem dL_law_712 : decode cL_law 712 = .ok (.bipush 32, 2) := by decide +kernel
theorem dL_law_714 : decode cL_law 714 = .ok (.lshl, 1) := by decide +kernel
theorem dL_law_715 : decode cL_law 715 = .ok (.aload_n 0, 1) := by decide +kernel
theorem dL_law_716 : decode cL_law 716 = .ok (.iload 4, 2) := by decide +kernel
theorem dL_law_718 : decode cL_law 718 = .ok (.iconst 2, 1) := by decide +kernel
theorem dL_law_719 : decode cL_law 719 = .ok (.iadd, 1) := by decide +kernel
theorem dL_law_720 : decode cL_law 720 = .ok (.iaload, 1) := by decide +kernel
theorem dL_law_721 : decode cL_law 721 = .ok (.i2l, 1) := by decide +kernel
theorem dL_law_722 : decode cL_law 722 = .ok (.ldc2_w 59, 3) := by decide +kernel
theorem dL_law_725 : decode cL_law 725 = .ok (.land, 1) := by decide +kernel
theorem dL_law_726 : decode cL_law 726 = .ok (.lor, 1) := by decide +kernel
theorem dL_law_727 : decode cL_law 727 = .ok (.aload_n 3, 1) := by decide +kernel
theorem dL_law_728 : decode cL_law 728 = .ok (.invokestatic 82, 3) := by decide +kernel
theorem dL_law_731 : decode cL_law 731 = .ok (.istore 5, 2) := by decide +kernel
theorem dL_law_733 : decode cL_law 733 = .ok (.aload_n 2, 1) := by decide +kernel
theorem dL_law_734 : decode cL_law 734 = .ok (.aload_n 0, 1) := by decide +kernel
theorem dL_law_735 : decode cL_law 735 = .ok (.iload 4, 2) := by decide +kernel
theorem dL_law_737 : decode cL_law 737 = .ok (.iconst 1, 1) := by decide +kernel
theorem dL_law_738 : decode cL_law 738 = .ok (.iadd, 1) := by decide +kernel
theorem dL_law_739 : decode cL_law 739 = .ok (.iaload, 1) := by decide +kernel
theorem dL_law_740 : decode cL_law 740 = .ok (.i2l, 1) := by decide +kernel
theorem dL_law_741 : decode cL_law 741 = .ok (.bipush 32, 2) := by decide +kernel
theorem dL_law_743 : decode cL_law 743 = .ok (.lshl, 1) := by decide +kernel
theorem dL_law_744 : decode cL_law 744 = .ok (.aload_n 0, 1) := by decide +kernel
theorem dL_law_745 : decode cL_law 745 = .ok (.iload 4, 2) := by decide +kernel
theorem dL_law_747 : decode cL_law 747 = .ok (.iconst 2, 1) := by decide +kernel
theorem dL_law_748 : decode cL_law 748 = .ok (.iadd, 1) := by decide +kernel
theorem dL_law_749 : decode cL_law 749 = .ok (.iaload, 1) := by decide +kernel
theorem dL_law_750 : decode cL_law 750 = .ok (.i2l, 1) := by decide +kernel
theorem dL_law_751 : decode cL_law 751 = .ok (.ldc2_w 59, 3) := by decide +kernel
theorem dL_law_754 : decode cL_law 754 = .ok (.land, 1) := by decide +kernel
theorem dL_law_755 : decode cL_law 755 = .ok (.lor, 1) := by decide +kernel
theorem dL_law_756 : decode cL_law 756 = .ok (.invokevirtual 84, 3) := by decide +kernel
theorem dL_law_759 : decode cL_law 759 = .ok (.lstore 6, 2) := by decide +kernel
theorem dL_law_761 : decode cL_law 761 = .ok (.aload_n 2, 1) := by decide +kernel
theorem dL_law_762 : decode cL_law 762 = .ok (.invokevirtual 55, 3) := by decide +kernel
theorem dL_law_765 : decode cL_law 765 = .ok (.iload 5, 2) := by decide +kernel
theorem dL_law_767 : decode cL_law 767 = .ok (.if_icmp .eq 5, 3) := by decide +kernel
theorem dL_law_770 : decode cL_law 770 = .ok (.iconst 0, 1) := by decide +kernel
theorem dL_law_771 : decode cL_law 771 = .ok (.ireturn, 1) := by decide +kernel
theorem dL_law_772 : decode cL_law 772 = .ok (.iload 5, 2) := by decide +kernel
theorem dL_law_774 : decode cL_law 774 = .ok (.ifCond .ne 14, 3) := by decide +kernel
theorem dL_law_777 : decode cL_law 777 = .ok (.aload_n 3, 1) := by decide +kernel
theorem dL_law_778 : decode cL_law 778 = .ok (.iconst 0, 1) := by decide +kernel
theorem dL_law_779 : decode cL_law 779 = .ok (.laload, 1) := by decide +kernel
theorem dL_law_780 : decode cL_law 780 = .ok (.lload 6, 2) := by decide +kernel
theorem dL_law_782 : decode cL_law 782 = .ok (.lcmp, 1) := by decide +kernel
theorem dL_law_783 : decode cL_law 783 = .ok (.ifCond .eq 5, 3) := by decide +kernel
theorem dL_law_786 : decode cL_law 786 = .ok (.iconst 0, 1) := by decide +kernel
theorem dL_law_787 : decode cL_law 787 = .ok (.ireturn, 1) := by decide +kernel
theorem dL_law_788 : decode cL_law 788 = .ok (.goto 95, 3) := by decide +kernel
theorem dL_law_791 : decode cL_law 791 = .ok (.aload_n 1, 1) := by decide +kernel
theorem dL_law_792 : decode cL_law 792 = .ok (.aload_n 0, 1) := by decide +kernel
theorem dL_law_793 : decode cL_law 793 = .ok (.iload 4, 2) := by decide +kernel
theorem dL_law_795 : decode cL_law 795 = .ok (.iconst 1, 1) := by decide +kernel
theorem dL_law_796 : decode cL_law 796 = .ok (.iadd, 1) := by decide +kernel
theorem dL_law_797 : decode cL_law 797 = .ok (.iaload, 1) := by decide +kernel
theorem dL_law_798 : decode cL_law 798 = .ok (.aload_n 0, 1) := by decide +kernel
theorem dL_law_799 : decode cL_law 799 = .ok (.iload 4, 2) := by decide +kernel
theorem dL_law_801 : decode cL_law 801 = .ok (.iconst 2, 1) := by decide +kernel
theorem dL_law_802 : decode cL_law 802 = .ok (.iadd, 1) := by decide +kernel
theorem dL_law_803 : decode cL_law 803 = .ok (.iaload, 1) := by decide +kernel
theorem dL_law_804 : decode cL_law 804 = .ok (.aload_n 3, 1) := by decide +kernel
theorem dL_law_805 : decode cL_law 805 = .ok (.invokestatic 85, 3) := by decide +kernel
theorem dL_law_808 : decode cL_law 808 = .ok (.istore 5, 2) := by decide +kernel
theorem dL_law_810 : decode cL_law 810 = .ok (.aload_n 2, 1) := by decide +kernel
theorem dL_law_811 : decode cL_law 811 = .ok (.aload_n 0, 1) := by decide +kernel
theorem dL_law_812 : decode cL_law 812 = .ok (.iload 4, 2) := by decide +kernel
theorem dL_law_814 : decode cL_law 814 = .ok (.iconst 1, 1) := by decide +kernel
theorem dL_law_815 : decode cL_law 815 = .ok (.iadd, 1) := by decide +kernel
theorem dL_law_816 : decode cL_law 816 = .ok (.iaload, 1) := by decide +kernel
theorem dL_law_817 : decode cL_law 817 = .ok (.aload_n 0, 1) := by decide +kernel
theorem dL_law_818 : decode cL_law 818 = .ok (.iload 4, 2) := by decide +kernel
theorem dL_law_820 : decode cL_law 820 = .ok (.iconst 2, 1) := by decide +kernel
theorem dL_law_821 : decode cL_law 821 = .ok (.iadd, 1) := by decide +kernel
theorem dL_law_822 : decode cL_law 822 = .ok (.iaload, 1) := by decide +kernel
theorem dL_law_823 : decode cL_law 823 = .ok (.invokevirtual 88, 3) := by decide +kernel
theorem dL_law_826 : decode cL_law 826 = .ok (.lstore 6, 2) := by decide +kernel
theorem dL_law_828 : decode cL_law 828 = .ok (.aload_n 2, 1) := by decide +kernel
theorem dL_law_829 : decode cL_law 829 = .ok (.invokevirtual 55, 3) := by decide +kernel
theorem dL_law_832 : decode cL_law 832 = .ok (.iload 5, 2) := by decide +kernel
theorem dL_law_834 : decode cL_law 834 = .ok (.if_icmp .eq 5, 3) := by decide +kernel
theorem dL_law_837 : decode cL_law 837 = .ok (.iconst 0, 1) := by decide +kernel
theorem dL_law_838 : decode cL_law 838 = .ok (.ireturn, 1) := by decide +kernel
theorem dL_law_839 : decode cL_law 839 = .ok (.iload 5, 2) := by decide +kernel
theorem dL_law_841 : decode cL_law 841 = .ok (.ifCond .ne 14, 3) := by decide +kernel
theorem dL_law_844 : decode cL_law 844 = .ok (.aload_n 3, 1) := by decide +kernel
theorem dL_law_845 : decode cL_law 845 = .ok (.iconst 0, 1) := by decide +kernel
theorem dL_law_846 : decode cL_law 846 = .ok (.laload, 1) := by decide +kernel
theorem dL_law_847 : decode cL_law 847 = .ok (.lload 6, 2) := by decide +kernel
theorem dL_law_849 : decode cL_law 849 = .ok (.lcmp, 1) := by decide +kernel
theorem dL_law_850 : decode cL_law 850 = .ok (.ifCond .eq 5, 3) := by decide +kernel
theorem dL_law_853 : decode cL_law 853 = .ok (.iconst 0, 1) := by decide +kernel
theorem dL_law_854 : decode cL_law 854 = .ok (.ireturn, 1) := by decide +kernel
theorem dL_law_855 : decode cL_law 855 = .ok (.goto 28, 3) := by decide +kernel
theorem dL_law_858 : decode cL_law 858 = .ok (.aload_n 1, 1) := by decide +kernel
theorem dL_law_859 : decode cL_law 859 = .ok (.aload_n 0, 1) := by decide +kernel
theorem dL_law_860 : decode cL_law 860 = .ok (.iload 4, 2) := by decide +kernel
theorem dL_law_862 : decode cL_law 862 = .ok (.iconst 1, 1) := by decide +kernel
theorem dL_law_863 : decode cL_law 863 = .ok (.iadd, 1) := by decide +kernel
theorem dL_law_864 : decode cL_law 864 = .ok (.iaload, 1) := by decide +kernel
theorem dL_law_865 : decode cL_law 865 = .ok (.invokevirtual 89, 3) := by decide +kernel
theorem dL_law_868 : decode cL_law 868 = .ok (.aload_n 2, 1) := by decide +kernel
theorem dL_law_869 : decode cL_law 869 = .ok (.aload_n 0, 1) := by decide +kernel
theorem dL_law_870 : decode cL_law 870 = .ok (.iload 4, 2) := by decide +kernel
theorem dL_law_872 : decode cL_law 872 = .ok (.iconst 1, 1) := by decide +kernel
theorem dL_law_873 : decode cL_law 873 = .ok (.iadd, 1) := by decide +kernel
theorem dL_law_874 : decode cL_law 874 = .ok (.iaload, 1) := by decide +kernel
theorem dL_law_875 : decode cL_law 875 = .ok (.invokevirtual 93, 3) := by decide +kernel
theorem dL_law_878 : decode cL_law 878 = .ok (.if_icmp .eq 5, 3) := by decide +kernel
theorem dL_law_881 : decode cL_law 881 = .ok (.iconst 0, 1) := by decide +kernel
theorem dL_law_882 : decode cL_law 882 = .ok (.ireturn, 1) := by decide +kernel
theorem dL_law_883 : decode cL_law 883 = .ok (.iinc 4 5, 3) := by decide +kernel
theorem dL_law_886 : decode cL_law 886 = .ok (.goto (-863), 3) := by decide +kernel
theorem dL_law_889 : decode cL_law 889 = .ok (.iconst 1, 1) := by decide +kernel
theorem dL_law_890 : decode cL_law 890 = .ok (.ireturn, 1) := by decide +kernel
theorem dJ_bitCount_0 : decode cJ_bitCount 0 = .ok (.lload_n 0, 1) := by decide +kernel
theorem dJ_bitCount_1 : decode cJ_bitCount 1 = .ok (.lload_n 0, 1) := by decide +kernel
theorem dJ_bitCount_2 : decode cJ_bitCount 2 = .ok (.iconst 1, 1) := by decide +kernel
theorem dJ_bitCount_3 : decode cJ_bitCount 3 = .ok (.lushr, 1) := by decide +kernel
theorem dJ_bitCount_4 : decode cJ_bitCount 4 = .ok (.ldc2_w 314, 3) := by decide +kernel
theorem dJ_bitCount_7 : decode cJ_bitCount 7 = .ok (.land, 1) := by decide +kernel
theorem dJ_bitCount_8 : decode cJ_bitCount 8 = .ok (.lsub, 1) := by decide +kernel
theorem dJ_bitCount_9 : decode cJ_bitCount 9 = .ok (.lstore_n 0, 1) := by decide +kernel
theorem dJ_bitCount_10 : decode cJ_bitCount 10 = .ok (.lload_n 0, 1) := by decide +kernel
theorem dJ_bitCount_11 : decode cJ_bitCount 11 = .ok (.ldc2_w 316, 3) := by decide +kernel
theorem dJ_bitCount_14 : decode cJ_bitCount 14 = .ok (.land, 1) := by decide +kernel
theorem dJ_bitCount_15 : decode cJ_bitCount 15 = .ok (.lload_n 0, 1) := by decide +kernel
theorem dJ_bitCount_16 : decode cJ_bitCount 16 = .ok (.iconst 2, 1) := by decide +kernel
theorem dJ_bitCount_17 : decode cJ_bitCount 17 = .ok (.lushr, 1) := by decide +kernel
theorem dJ_bitCount_18 : decode cJ_bitCount 18 = .ok (.ldc2_w 316, 3) := by decide +kernel
theorem dJ_bitCount_21 : decode cJ_bitCount 21 = .ok (.land, 1) := by decide +kernel
theorem dJ_bitCount_22 : decode cJ_bitCount 22 = .ok (.ladd, 1) := by decide +kernel
theorem dJ_bitCount_23 : decode cJ_bitCount 23 = .ok (.lstore_n 0, 1) := by decide +kernel
theorem dJ_bitCount_24 : decode cJ_bitCount 24 = .ok (.lload_n 0, 1) := by decide +kernel
theorem dJ_bitCount_25 : decode cJ_bitCount 25 = .ok (.lload_n 0, 1) := by decide +kernel
theorem dJ_bitCount_26 : decode cJ_bitCount 26 = .ok (.iconst 4, 1) := by decide +kernel
theorem dJ_bitCount_27 : decode cJ_bitCount 27 = .ok (.lushr, 1) := by decide +kernel
theorem dJ_bitCount_28 : decode cJ_bitCount 28 = .ok (.ladd, 1) := by decide +kernel
theorem dJ_bitCount_29 : decode cJ_bitCount 29 = .ok (.ldc2_w 318, 3) := by decide +kernel
theorem dJ_bitCount_32 : decode cJ_bitCount 32 = .ok (.land, 1) := by decide +kernel
theorem dJ_bitCount_33 : decode cJ_bitCount 33 = .ok (.lstore_n 0, 1) := by decide +kernel
theorem dJ_bitCount_34 : decode cJ_bitCount 34 = .ok (.lload_n 0, 1) := by decide +kernel
theorem dJ_bitCount_35 : decode cJ_bitCount 35 = .ok (.lload_n 0, 1) := by decide +kernel
theorem dJ_bitCount_36 : decode cJ_bitCount 36 = .ok (.bipush 8, 2) := by decide +kernel
theorem dJ_bitCount_38 : decode cJ_bitCount 38 = .ok (.lushr, 1) := by decide +kernel
theorem dJ_bitCount_39 : decode cJ_bitCount 39 = .ok (.ladd, 1) := by decide +kernel
theorem dJ_bitCount_40 : decode cJ_bitCount 40 = .ok (.lstore_n 0, 1) := by decide +kernel
theorem dJ_bitCount_41 : decode cJ_bitCount 41 = .ok (.lload_n 0, 1) := by decide +kernel
theorem dJ_bitCount_42 : decode cJ_bitCount 42 = .ok (.lload_n 0, 1) := by decide +kernel
theorem dJ_bitCount_43 : decode cJ_bitCount 43 = .ok (.bipush 16, 2) := by decide +kernel
theorem dJ_bitCount_45 : decode cJ_bitCount 45 = .ok (.lushr, 1) := by decide +kernel
theorem dJ_bitCount_46 : decode cJ_bitCount 46 = .ok (.ladd, 1) := by decide +kernel
theorem dJ_bitCount_47 : decode cJ_bitCount 47 = .ok (.lstore_n 0, 1) := by decide +kernel
theorem dJ_bitCount_48 : decode cJ_bitCount 48 = .ok (.lload_n 0, 1) := by decide +kernel
theorem dJ_bitCount_49 : decode cJ_bitCount 49 = .ok (.lload_n 0, 1) := by decide +kernel
theorem dJ_bitCount_50 : decode cJ_bitCount 50 = .ok (.bipush 32, 2) := by decide +kernel
theorem dJ_bitCount_52 : decode cJ_bitCount 52 = .ok (.lushr, 1) := by decide +kernel
theorem dJ_bitCount_53 : decode cJ_bitCount 53 = .ok (.ladd, 1) := by decide +kernel
theorem dJ_bitCount_54 : decode cJ_bitCount 54 = .ok (.lstore_n 0, 1) := by decide +kernel
theorem dJ_bitCount_55 : decode cJ_bitCount 55 = .ok (.lload_n 0, 1) := by decide +kernel
theorem dJ_bitCount_56 : decode cJ_bitCount 56 = .ok (.l2i, 1) := by decide +kernel
theorem dJ_bitCount_57 : decode cJ_bitCount 57 = .ok (.bipush 127, 2) := by decide +kernel
theorem dJ_bitCount_59 : decode cJ_bitCount 59 = .ok (.iand, 1) := by decide +kernel
theorem dJ_bitCount_60 : decode cJ_bitCount 60 = .ok (.ireturn, 1) := by decide +kernel
end
section
set_option maxHeartbeats 4000000 in
set_option maxRecDepth 100000 in
/-- Long.bitCount -/
theorem c_bitCount (l : Launch) (dC : Nat → ClassId) (dI : Nat → Nat → Nat) (a : Int64)  : Met l yJ_bitCount wsJ_bitCount ({ frames := 0, cells := 0, slots := 0, locals := 0 }) (va_Pc [.long a] (fun U => va_P (dC, dI) vwCl [] U.heap ∧ va_K (dC, dI) vwCl [] U)) (vp_Si (fun r : Int32 => r = pt_bits a)) 0 0 (fun _ => False) := by
  refine va_MetF (cc := cJ_bitCount) (maxL := 2) (ret := (some .int)) (by decide) rfl ?_
  intro p e s m args below meth c s₁ B hml hv
  obtain ⟨ha, hP, hK⟩ := hv
  have hx := B.exec
  have hb := B.bytes
  have hr := B.returns
  have hts := atoms_spec (ws := wsJ_bitCount) B.pre
  have hown : s.vm.findClass RJ = some m.cls := findClass_of_methodNamed B.named
  have hlocks := B.notSynchronized
  have hl := lv_entry ([.long a]) (n := 2) (Nat.le_of_ble_eq_true rfl)
  refine W.eq (show entryFrame m args 2 = entryFrame m ([.long a] : List Value).toArray 2 by rw [ha]) ?_
  rw [lg_entry_eq]
  generalize (lg_sl ([.long a]) ++ List.replicate (2 - (lg_sl ([.long a])).length) Slot.unset).toArray = ls at hl ⊢
  have hl : lv_has ls 2 [(0, .long a)] := hl
  generalize hQ : MQ below (vp_Si (fun r : Int32 => r = pt_bits a)) args s 0 0 (fun _ => False) = Q
  refine lv_lload_n hx hb dJ_bitCount_0 rfl (lv_at hl 0 rfl) ?_
  refine lv_lload_n hx hb dJ_bitCount_1 rfl (lv_at hl 0 rfl) ?_
  refine lv_iconst (v := 1) hx hb dJ_bitCount_2 (by decide) ?_
  refine lv_lushr (v := pt_ushr a 1) hx hb dJ_bitCount_3 rfl ?_
  refine lv_ldc2 (v := 6148914691236517205) hx hb hown (hts _ (List.mem_cons_of_mem _ pw132)) dJ_bitCount_4 ?_
  refine lv_land hx hb dJ_bitCount_7 ?_
  refine lv_lsub hx hb dJ_bitCount_8 ?_
  refine W.eq (g2 := F0 m 9 ls [.long (pt_c1 a)]) rfl ?_
  refine lv_lstore_n (lv' := [(0, .long (pt_c1 a))]) hx hb dJ_bitCount_9 rfl hl (by decide) rfl (fun ls hl => ?_)
  refine lv_lload_n hx hb dJ_bitCount_10 rfl (lv_at hl 0 rfl) ?_
  refine lv_ldc2 (v := 3689348814741910323) hx hb hown (hts _ (List.mem_cons_of_mem _ pw133)) dJ_bitCount_11 ?_
  refine lv_land hx hb dJ_bitCount_14 ?_
  refine lv_lload_n hx hb dJ_bitCount_15 rfl (lv_at hl 0 rfl) ?_
  refine lv_iconst (v := 2) hx hb dJ_bitCount_16 (by decide) ?_
  refine lv_lushr (v := pt_ushr (pt_c1 a) 2) hx hb dJ_bitCount_17 rfl ?_
  refine lv_ldc2 (v := 3689348814741910323) hx hb hown (hts _ (List.mem_cons_of_mem _ pw133)) dJ_bitCount_18 ?_
  refine lv_land hx hb dJ_bitCount_21 ?_
  refine lv_ladd hx hb dJ_bitCount_22 ?_
  refine W.eq (g2 := F0 m 23 ls [.long (pt_c2 (pt_c1 a))]) rfl ?_
  refine lv_lstore_n (lv' := [(0, .long (pt_c2 (pt_c1 a)))]) hx hb dJ_bitCount_23 rfl hl (by decide) rfl (fun ls hl => ?_)
  refine lv_lload_n hx hb dJ_bitCount_24 rfl (lv_at hl 0 rfl) ?_
  refine lv_lload_n hx hb dJ_bitCount_25 rfl (lv_at hl 0 rfl) ?_
  refine lv_iconst (v := 4) hx hb dJ_bitCount_26 (by decide) ?_
  refine lv_lushr (v := pt_ushr (pt_c2 (pt_c1 a)) 4) hx hb dJ_bitCount_27 rfl ?_
  refine lv_ladd hx hb dJ_bitCount_28 ?_
  refine lv_ldc2 (v := 1085102592571150095) hx hb hown (hts _ (List.mem_cons_of_mem _ pw134)) dJ_bitCount_29 ?_
  refine lv_land hx hb dJ_bitCount_32 ?_
  refine W.eq (g2 := F0 m 33 ls [.long (pt_c3 (pt_c2 (pt_c1 a)))]) rfl ?_
  refine lv_lstore_n (lv' := [(0, .long (pt_c3 (pt_c2 (pt_c1 a))))]) hx hb dJ_bitCount_33 rfl hl (by decide) rfl (fun ls hl => ?_)
  refine lv_lload_n hx hb dJ_bitCount_34 rfl (lv_at hl 0 rfl) ?_
  refine lv_lload_n hx hb dJ_bitCount_35 rfl (lv_at hl 0 rfl) ?_
  refine lv_bipush (v := 8) hx hb dJ_bitCount_36 (by decide) ?_
  refine lv_lushr (v := pt_ushr (pt_c3 (pt_c2 (pt_c1 a))) 8) hx hb dJ_bitCount_38 rfl ?_
  refine lv_ladd hx hb dJ_bitCount_39 ?_
  refine W.eq (g2 := F0 m 40 ls [.long (pt_c4 (pt_c3 (pt_c2 (pt_c1 a))))]) rfl ?_
  refine lv_lstore_n (lv' := [(0, .long (pt_c4 (pt_c3 (pt_c2 (pt_c1 a)))))]) hx hb dJ_bitCount_40 rfl hl (by decide) rfl (fun ls hl => ?_)
  refine lv_lload_n hx hb dJ_bitCount_41 rfl (lv_at hl 0 rfl) ?_
  refine lv_lload_n hx hb dJ_bitCount_42 rfl (lv_at hl 0 rfl) ?_
  refine lv_bipush (v := 16) hx hb dJ_bitCount_43 (by decide) ?_
  refine lv_lushr (v := pt_ushr (pt_c4 (pt_c3 (pt_c2 (pt_c1 a)))) 16) hx hb dJ_bitCount_45 rfl ?_
  refine lv_ladd hx hb dJ_bitCount_46 ?_
  refine W.eq (g2 := F0 m 47 ls [.long (pt_c5 (pt_c4 (pt_c3 (pt_c2 (pt_c1 a)))))]) rfl ?_
  refine lv_lstore_n (lv' := [(0, .long (pt_c5 (pt_c4 (pt_c3 (pt_c2 (pt_c1 a))))))]) hx hb dJ_bitCount_47 rfl hl (by decide) rfl (fun ls hl => ?_)
  refine lv_lload_n hx hb dJ_bitCount_48 rfl (lv_at hl 0 rfl) ?_
  refine lv_lload_n hx hb dJ_bitCount_49 rfl (lv_at hl 0 rfl) ?_
  refine lv_bipush (v := 32) hx hb dJ_bitCount_50 (by decide) ?_
  refine lv_lushr (v := pt_ushr (pt_c5 (pt_c4 (pt_c3 (pt_c2 (pt_c1 a))))) 32) hx hb dJ_bitCount_52 rfl ?_
  refine lv_ladd hx hb dJ_bitCount_53 ?_
  refine W.eq (g2 := F0 m 54 ls [.long (pt_c6 (pt_c5 (pt_c4 (pt_c3 (pt_c2 (pt_c1 a))))))]) rfl ?_
  refine lv_lstore_n (lv' := [(0, .long (pt_c6 (pt_c5 (pt_c4 (pt_c3 (pt_c2 (pt_c1 a)))))))]) hx hb dJ_bitCount_54 rfl hl (by decide) rfl (fun ls hl => ?_)
  refine lv_lload_n hx hb dJ_bitCount_55 rfl (lv_at hl 0 rfl) ?_
  refine lv_l2i (v := (pt_c6 (pt_c5 (pt_c4 (pt_c3 (pt_c2 (pt_c1 a)))))).toInt32) hx hb dJ_bitCount_56 rfl ?_
  refine lv_bipush (v := 127) hx hb dJ_bitCount_57 (by decide) ?_
  refine lv_iand hx hb dJ_bitCount_59 ?_
  rw [← hQ]
  exact W.iret (v := ((pt_c6 (pt_c5 (pt_c4 (pt_c3 (pt_c2 (pt_c1 a)))))).toInt32) &&& 127) hx hb hr (fun t ht hW => ⟨((pt_c6 (pt_c5 (pt_c4 (pt_c3 (pt_c2 (pt_c1 a)))))).toInt32) &&& 127, rfl, pt_bc_bits a, ht⟩) t_nil dJ_bitCount_60
set_option maxHeartbeats 4000000 in
set_option maxRecDepth 100000 in
/-- lowestBits(n) -/
theorem c_lowestBits (l : Launch) (dC : Nat → ClassId) (dI : Nat → Nat → Nat) (n : Nat)  : Met l yX0_lowestBits wsX0_lowestBits ({ frames := 0, cells := 0, slots := 0, locals := 0 }) (va_Pc [.int (nI n)] (fun U => va_P (dC, dI) vwCl [] U.heap ∧ va_K (dC, dI) vwCl [] U)) (vp_Sl (fun r : Int64 => r = pt_mk n)) 0 0 (fun _ => False) := by
  refine Met.ofW (cc := cX0_lowestBits) (maxL := 1) (ret := (some .long)) (by decide) rfl ?_
  intro p e s m args below meth c s₁ B hml hv
  obtain ⟨ha, hP, hK⟩ := hv
  have hx := B.exec
  have hb := B.bytes
  have hr := B.returns
  have hts := atoms_spec (ws := wsX0_lowestBits) B.pre
  have hown : s.vm.findClass RX0 = some m.cls := findClass_of_methodNamed B.named
  have hlocks := B.notSynchronized
  have hl := lv_entry ([.int (nI n)]) (n := 1) (Nat.le_of_ble_eq_true rfl)
  refine W.eq (show entryFrame m args 1 = entryFrame m ([.int (nI n)] : List Value).toArray 1 by rw [ha]) ?_
  rw [lg_entry_eq]
  generalize (lg_sl ([.int (nI n)]) ++ List.replicate (1 - (lg_sl ([.int (nI n)])).length) Slot.unset).toArray = ls at hl ⊢
  have hl : lv_has ls 1 [(0, .int (nI n))] := hl
  generalize hQ : MQ below (vp_Sl (fun r : Int64 => r = pt_mk n)) args s 0 0 (fun _ => False) = Q
  refine lv_ldc2 (v := (-1)) hx hb hown (hts _ (List.mem_cons_of_mem _ pw31)) dX0_lowestBits_0 ?_
  refine lv_bipush (v := 64) hx hb dX0_lowestBits_3 (by decide) ?_
  refine lv_iload_n hx hb dX0_lowestBits_5 rfl (lv_at hl 0 rfl) ?_
  refine lv_isub hx hb dX0_lowestBits_6 ?_
  refine lv_lushr (v := pt_ushr (-1) (64 - (nI n))) hx hb dX0_lowestBits_7 rfl ?_
  rw [← hQ]
  exact W.lret (v := pt_ushr (-1) (64 - (nI n))) hx hb hr (fun t ht hW => ⟨pt_ushr (-1) (64 - (nI n)), rfl, rfl, ht⟩) t_nil dX0_lowestBits_8
set_option maxHeartbeats 4000000 in
set_option maxRecDepth 100000 in
/-- bitsFrom(at) -/
theorem c_bitsFrom (l : Launch) (dC : Nat → ClassId) (dI : Nat → Nat → Nat) (h0 c0 w0 : Nat) (kc kw : ClassId) (k n : Nat) (fc fv : Nat → Int64) (cl su : Int32) (q : Nat)  : Met l yX0_bitsFrom wsX0_bitsFrom ({ frames := 0, cells := 0, slots := 0, locals := 0 }) (va_Pc [.ref h0, .int (nI q)] (fun U => va_P (dC, dI) vwCl [(h0, .inr (0, [.ref c0, .ref w0, .int (nI k), .int (nI n), .long (pt_mk n), .int cl, .int su])), (c0, .inl (kc, 512, .inr (.inl fc))), (w0, .inl (kw, 512, .inr (.inl fv)))] U.heap ∧ va_K (dC, dI) vwCl [(kc, .long), (kw, .long)] U)) (vp_Sl (fun r : Int64 => r = pt_up n q)) 0 0 (fun _ => False) := by
  refine Met.ofW (cc := cX0_bitsFrom) (maxL := 2) (ret := (some .long)) (by decide) rfl ?_
  intro p e s m args below meth c s₁ B hml hv
  obtain ⟨ha, hP, hK⟩ := hv
  have hx := B.exec
  have hb := B.bytes
  have hr := B.returns
  have hts := atoms_spec (ws := wsX0_bitsFrom) B.pre
  have hown : s.vm.findClass RX0 = some m.cls := findClass_of_methodNamed B.named
  have hlocks := B.notSynchronized
  have hl := lv_entry ([.ref h0, .int (nI q)]) (n := 2) (Nat.le_of_ble_eq_true rfl)
  refine W.eq (show entryFrame m args 2 = entryFrame m ([.ref h0, .int (nI q)] : List Value).toArray 2 by rw [ha]) ?_
  rw [lg_entry_eq]
  generalize (lg_sl ([.ref h0, .int (nI q)]) ++ List.replicate (2 - (lg_sl ([.ref h0, .int (nI q)])).length) Slot.unset).toArray = ls at hl ⊢
  have hl : lv_has ls 2 [(0, .ref h0), (1, .int (nI q))] := hl
  generalize hQ : MQ below (vp_Sl (fun r : Int64 => r = pt_up n q)) args s 0 0 (fun _ => False) = Q
  refine lv_aload_n hx hb dX0_bitsFrom_0 rfl (lv_at hl 0 rfl) ?_
  refine va_get (D := (dC, dI)) (ci := 0) (v := .long (pt_mk n)) (C := RX0) (T := TX0) (N := 7) hx hb hts (fun w h => List.mem_cons_of_mem _ (pt_wsX0 w h)) hown hK hP 0 rfl rfl 4 (by decide) (hts _ (List.mem_cons_of_mem _ pw36)) (fun _ h9 => h9) rfl dX0_bitsFrom_1 ?_
  refine lv_ldc2 (v := (-1)) hx hb hown (hts _ (List.mem_cons_of_mem _ pw31)) dX0_bitsFrom_4 ?_
  refine lv_iload_n hx hb dX0_bitsFrom_7 rfl (lv_at hl 1 rfl) ?_
  refine lv_lshl (v := pt_shl (-1) (nI q)) hx hb dX0_bitsFrom_8 rfl ?_
  refine lv_land hx hb dX0_bitsFrom_9 ?_
  rw [← hQ]
  exact W.lret (v := (pt_mk n) &&& (pt_shl (-1) (nI q))) hx hb hr (fun t ht hW => ⟨(pt_mk n) &&& (pt_shl (-1) (nI q)), rfl, rfl, ht⟩) t_nil dX0_bitsFrom_10
set_option maxHeartbeats 4000000 in
set_option maxRecDepth 100000 in
/-- sharesWord(i, care, want) -/
theorem c_sharesWord (l : Launch) (dC : Nat → ClassId) (dI : Nat → Nat → Nat) (h0 c0 w0 : Nat) (kc kw : ClassId) (k n : Nat) (fc fv : Nat → Int64) (cl su : Int32) (i : Nat) (a b : Int64) (hi : i < 512) : Met l yX0_sharesWord wsX0_sharesWord ({ frames := 0, cells := 0, slots := 0, locals := 0 }) (va_Pc [.ref h0, .int (nI i), .long a, .long b] (fun U => va_P (dC, dI) vwCl [(h0, .inr (0, [.ref c0, .ref w0, .int (nI k), .int (nI n), .long (pt_mk n), .int cl, .int su])), (c0, .inl (kc, 512, .inr (.inl fc))), (w0, .inl (kw, 512, .inr (.inl fv)))] U.heap ∧ va_K (dC, dI) vwCl [(kc, .long), (kw, .long)] U)) (vp_Si (fun r : Int32 => (r = 1 ∧ pt_sh (fc i) (fv i) a b) ∨ (r = 0 ∧ ¬ pt_sh (fc i) (fv i) a b))) 0 0 (fun _ => False) := by
  refine Met.ofW (cc := cX0_sharesWord) (maxL := 6) (ret := (some .boolean)) (by decide) rfl ?_
  intro p e s m args below meth c s₁ B hml hv
  obtain ⟨ha, hP, hK⟩ := hv
  have hx := B.exec
  have hb := B.bytes
  have hr := B.returns
  have hts := atoms_spec (ws := wsX0_sharesWord) B.pre
  have hown : s.vm.findClass RX0 = some m.cls := findClass_of_methodNamed B.named
  have hlocks := B.notSynchronized
  have hl := lv_entry ([.ref h0, .int (nI i), .long a, .long b]) (n := 6) (Nat.le_of_ble_eq_true rfl)
  refine W.eq (show entryFrame m args 6 = entryFrame m ([.ref h0, .int (nI i), .long a, .long b] : List Value).toArray 6 by rw [ha]) ?_
  rw [lg_entry_eq]
  generalize (lg_sl ([.ref h0, .int (nI i), .long a, .long b]) ++ List.replicate (6 - (lg_sl ([.ref h0, .int (nI i), .long a, .long b])).length) Slot.unset).toArray = ls at hl ⊢
  have hl : lv_has ls 6 [(0, .ref h0), (1, .int (nI i)), (2, .long a), (4, .long b)] := hl
  generalize hQ : MQ below (vp_Si (fun r : Int32 => (r = 1 ∧ pt_sh (fc i) (fv i) a b) ∨ (r = 0 ∧ ¬ pt_sh (fc i) (fv i) a b))) args s 0 0 (fun _ => False) = Q
  refine lv_aload_n hx hb dX0_sharesWord_0 rfl (lv_at hl 0 rfl) ?_
  refine va_get (D := (dC, dI)) (ci := 0) (v := .ref c0) (C := RX0) (T := TX0) (N := 7) hx hb hts (fun w h => List.mem_cons_of_mem _ (pt_wsX0 w h)) hown hK hP 0 rfl rfl 0 (by decide) (hts _ (List.mem_cons_of_mem _ pw32)) (fun _ h9 => h9) rfl dX0_sharesWord_1 ?_
  refine lv_iload_n hx hb dX0_sharesWord_4 rfl (lv_at hl 1 rfl) ?_
  refine va_lald hx hb hK hP 1 0 rfl rfl (vp_in_nI hi (by decide)) dX0_sharesWord_5 ?_
  rw [nI_clamp (by omega)]
  refine lv_lload_n hx hb dX0_sharesWord_6 rfl (lv_at hl 2 rfl) ?_
  refine lv_land hx hb dX0_sharesWord_7 ?_
  refine lv_aload_n hx hb dX0_sharesWord_8 rfl (lv_at hl 0 rfl) ?_
  refine va_get (D := (dC, dI)) (ci := 0) (v := .ref w0) (C := RX0) (T := TX0) (N := 7) hx hb hts (fun w h => List.mem_cons_of_mem _ (pt_wsX0 w h)) hown hK hP 0 rfl rfl 1 (by decide) (hts _ (List.mem_cons_of_mem _ pw33)) (fun _ h9 => h9) rfl dX0_sharesWord_9 ?_
  refine lv_iload_n hx hb dX0_sharesWord_12 rfl (lv_at hl 1 rfl) ?_
  refine va_lald hx hb hK hP 2 1 rfl rfl (vp_in_nI hi (by decide)) dX0_sharesWord_13 ?_
  rw [nI_clamp (by omega)]
  refine lv_lload hx hb dX0_sharesWord_14 (lv_at hl 3 rfl) ?_
  refine lv_lxor hx hb dX0_sharesWord_16 ?_
  refine lv_land hx hb dX0_sharesWord_17 ?_
  refine lv_lconst (v := 0) hx hb dX0_sharesWord_18 (by decide) ?_
  refine W.lcmp hx hb dX0_sharesWord_19 ?_
  refine lv_if_ne (tgt := 27) hx hb dX0_sharesWord_20 (by decide) (fun h1 => ?_) (fun h1 => ?_)
  · refine lv_iconst (v := 0) hx hb dX0_sharesWord_27 (by decide) ?_
    rw [← hQ]
    exact W.zret (v := 0) hx hb hr narrow_b0 (fun t ht hW => ⟨0, rfl, Or.inr ⟨rfl, fun q => h1 (pt_cmp0.mpr q)⟩, ht⟩) t_nil dX0_sharesWord_28
  · refine lv_iconst (v := 1) hx hb dX0_sharesWord_23 (by decide) ?_
    refine lv_goto (tgt := 28) hx hb dX0_sharesWord_24 (by decide) ?_
    rw [← hQ]
    exact W.zret (v := 1) hx hb hr narrow_b1 (fun t ht hW => ⟨1, rfl, Or.inl ⟨rfl, pt_cmp0.mp h1⟩, ht⟩) t_nil dX0_sharesWord_28
set_option maxHeartbeats 4000000 in
set_option maxRecDepth 100000 in
/-- firstSharing -/
theorem c_firstSharing (l : Launch) (dC : Nat → ClassId) (dI : Nat → Nat → Nat) (h0 c0 w0 : Nat) (kc kw : ClassId) (k n : Nat) (fc fv : Nat → Int64) (cl su : Int32) (a b : Int64) (hk : k ≤ 512) : Met l yX0_firstSharing wsX0_firstSharing ({ frames := 1, cells := 0, slots := 0, locals := 25 }) (va_Pc [.ref h0, .long a, .long b] (fun U => va_P (dC, dI) vwCl [(h0, .inr (0, [.ref c0, .ref w0, .int (nI k), .int (nI n), .long (pt_mk n), .int cl, .int su])), (c0, .inl (kc, 512, .inr (.inl fc))), (w0, .inl (kw, 512, .inr (.inl fv)))] U.heap ∧ va_K (dC, dI) vwCl [(kc, .long), (kw, .long)] U)) (vp_Si (fun r : Int32 => pt_F (fun j => pt_sh (fc j) (fv j) a b) k r)) 0 0 (fun _ => False) := by
  refine Met.ofW (cc := cX0_firstSharing) (maxL := 6) (ret := (some .int)) (by decide) rfl ?_
  intro p e s m args below meth c s₁ B hml hv
  obtain ⟨ha, hP, hK⟩ := hv
  have hx := B.exec
  have hb := B.bytes
  have hr := B.returns
  have hts := atoms_spec (ws := wsX0_firstSharing) B.pre
  have hown : s.vm.findClass RX0 = some m.cls := findClass_of_methodNamed B.named
  have hlocks := B.notSynchronized
  have hl := lv_entry ([.ref h0, .long a, .long b]) (n := 6) (Nat.le_of_ble_eq_true rfl)
  refine W.eq (show entryFrame m args 6 = entryFrame m ([.ref h0, .long a, .long b] : List Value).toArray 6 by rw [ha]) ?_
  rw [lg_entry_eq]
  generalize (lg_sl ([.ref h0, .long a, .long b]) ++ List.replicate (6 - (lg_sl ([.ref h0, .long a, .long b])).length) Slot.unset).toArray = ls at hl ⊢
  have hl : lv_has ls 6 [(0, .ref h0), (1, .long a), (3, .long b)] := hl
  generalize hQ : MQ below (vp_Si (fun r : Int32 => pt_F (fun j => pt_sh (fc j) (fv j) a b) k r)) args s 0 0 (fun _ => False) = Q
  refine lv_iconst (v := 0) hx hb dX0_firstSharing_0 (by decide) ?_
  refine lv_istore (lv' := [(5, .int 0), (0, .ref h0), (1, .long a), (3, .long b)]) hx hb dX0_firstSharing_1 hl (by decide) rfl (fun ls hl => ?_)
  have loop : ∀ (d i : Nat) (ls : Array Slot), k - i = d → i ≤ k → (∀ j, j < i → ¬ pt_sh (fc j) (fv j) a b) → lv_has ls 6 [(5, .int (nI i)), (0, .ref h0), (1, .long a), (3, .long b)] → W p l e (headSpec wsX0_firstSharing ({ frames := 1, cells := 0, slots := 0, locals := 25 })).room s m args below meth c s.heap [] 0 0 Q (F0 m 3 ls []) := by
    intro d
    induction d with
    | zero =>
      intro i ls hd hik hno hl
      refine lv_iload hx hb dX0_firstSharing_3 (lv_at hl 0 rfl) ?_
      refine lv_aload_n hx hb dX0_firstSharing_5 rfl (lv_at hl 1 rfl) ?_
      refine va_get (D := (dC, dI)) (ci := 0) (v := .int (nI k)) (C := RX0) (T := TX0) (N := 7) hx hb hts (fun w h => List.mem_cons_of_mem _ (pt_wsX0 w h)) hown hK hP 0 rfl rfl 2 (by decide) (hts _ (List.mem_cons_of_mem _ pw34)) (fun _ h9 => h9) rfl dX0_firstSharing_6 ?_
      refine lv_icmp_ge (tgt := 32) hx hb dX0_firstSharing_9 (by decide) (fun h1 => ?_) (fun h1 => absurd (nI_le (by omega) (by omega)) h1)
      refine lv_iconst (v := (-1)) hx hb dX0_firstSharing_32 (by decide) ?_
      rw [← hQ]
      exact W.iret (v := (-1)) hx hb hr (fun t ht hW => ⟨(-1), rfl, Or.inl ⟨rfl, fun j hj => hno j (by omega)⟩, ht⟩) t_nil dX0_firstSharing_33
    | succ d ih =>
      intro i ls hd hik hno hl
      refine lv_iload hx hb dX0_firstSharing_3 (lv_at hl 0 rfl) ?_
      refine lv_aload_n hx hb dX0_firstSharing_5 rfl (lv_at hl 1 rfl) ?_
      refine va_get (D := (dC, dI)) (ci := 0) (v := .int (nI k)) (C := RX0) (T := TX0) (N := 7) hx hb hts (fun w h => List.mem_cons_of_mem _ (pt_wsX0 w h)) hown hK hP 0 rfl rfl 2 (by decide) (hts _ (List.mem_cons_of_mem _ pw34)) (fun _ h9 => h9) rfl dX0_firstSharing_6 ?_
      refine lv_icmp_ge (tgt := 32) hx hb dX0_firstSharing_9 (by decide) (fun h1 => absurd h1 (nI_ge (by omega) (by omega))) (fun h1 => ?_)
      refine lv_aload_n hx hb dX0_firstSharing_12 rfl (lv_at hl 1 rfl) ?_
      refine lv_iload hx hb dX0_firstSharing_13 (lv_at hl 0 rfl) ?_
      refine lv_lload_n hx hb dX0_firstSharing_15 rfl (lv_at hl 2 rfl) ?_
      refine lv_lload_n hx hb dX0_firstSharing_16 rfl (lv_at hl 3 rfl) ?_
      refine vp_callSi (W.runV (As := [.int (nI i), .long a, .long b]) (rest := []) ⟨hx, hb, hml, hown, hts⟩ (c_sharesWord l dC dI h0 c0 w0 kc kw k n fc fv cl su i a b (by omega)) (cwV 3 hts (pt_gV pw51 pw52 pw0 pw17 pw53) rfl rfl rfl (by decide +kernel) ⟨Nat.le_of_ble_eq_true rfl, Nat.le_of_ble_eq_true rfl⟩) ⟨fun a U g mk q => by obtain ⟨q0, qP, qK⟩ := q; exact ⟨q0, qP, va_K.moved (u := U) (U := U.calling g mk a) (Vm.Alike.refl U.vm) qK⟩, va_recv hK hP (ci := 0) (q0 := 0) rfl rfl, fun U hU hW => ⟨rfl, by rw [hU]; exact hP, va_K.moved hW.alike hK⟩⟩ rfl rfl hl.1 rfl (lv_room (Nat.le_of_ble_eq_true rfl)) dX0_firstSharing_17 ⟨Nat.zero_le _, Nat.zero_le _⟩) (fun r1 hw => ?_)
      rcases hw with ⟨rfl, hs⟩ | ⟨rfl, hs⟩
      · refine lv_if_eq (tgt := 26) hx hb dX0_firstSharing_20 (by decide) (fun h2 => absurd h2 (by decide)) (fun h2 => ?_)
        refine lv_iload hx hb dX0_firstSharing_23 (lv_at hl 0 rfl) ?_
        rw [← hQ]
        exact W.iret (v := nI i) hx hb hr (fun t ht hW => ⟨nI i, rfl, Or.inr ⟨i, by omega, hs, hno, rfl⟩, ht⟩) t_nil dX0_firstSharing_25
      · refine lv_if_eq (tgt := 26) hx hb dX0_firstSharing_20 (by decide) (fun h2 => ?_) (fun h2 => absurd rfl h2)
        refine lv_iinc (v := nI (i + 1)) (lv' := [(5, .int (nI (i + 1))), (0, .ref h0), (1, .long a), (3, .long b)]) hx hb dX0_firstSharing_26 hl (k := 0) rfl (by rw [nI_succ]; rfl) (by decide) rfl (fun ls hl => ?_)
        refine lv_goto (tgt := 3) hx hb dX0_firstSharing_29 (by decide) ?_
        exact ih (i + 1) ls (by omega) (by omega) (lt_s hno hs) (lv_sub hl [0, 1, 2, 3] rfl)
  exact loop k 0 ls (by omega) (by omega) lt_0 (lv_sub hl [0, 1, 2, 3] rfl)
set_option maxHeartbeats 4000000 in
set_option maxRecDepth 100000 in
/-- wordsOf(care) -/
theorem c_wordsOf (l : Launch) (dC : Nat → ClassId) (dI : Nat → Nat → Nat) (h0 c0 w0 : Nat) (kc kw : ClassId) (k n : Nat) (fc fv : Nat → Int64) (cl su : Int32) (a : Int64)  : Met l yX0_wordsOf wsX0_wordsOf ({ frames := 1, cells := 0, slots := 0, locals := 21 }) (va_Pc [.ref h0, .long a] (fun U => va_P (dC, dI) vwCl [(h0, .inr (0, [.ref c0, .ref w0, .int (nI k), .int (nI n), .long (pt_mk n), .int cl, .int su])), (c0, .inl (kc, 512, .inr (.inl fc))), (w0, .inl (kw, 512, .inr (.inl fv)))] U.heap ∧ va_K (dC, dI) vwCl [(kc, .long), (kw, .long)] U)) (vp_Sl (fun r : Int64 => r = pt_words n a)) 0 0 (fun _ => False) := by
  refine Met.ofW (cc := cX0_wordsOf) (maxL := 4) (ret := (some .long)) (by decide) rfl ?_
  intro p e s m args below meth c s₁ B hml hv
  obtain ⟨ha, hP, hK⟩ := hv
  have hx := B.exec
  have hb := B.bytes
  have hr := B.returns
  have hts := atoms_spec (ws := wsX0_wordsOf) B.pre
  have hown : s.vm.findClass RX0 = some m.cls := findClass_of_methodNamed B.named
  have hlocks := B.notSynchronized
  have hl := lv_entry ([.ref h0, .long a]) (n := 4) (Nat.le_of_ble_eq_true rfl)
  refine W.eq (show entryFrame m args 4 = entryFrame m ([.ref h0, .long a] : List Value).toArray 4 by rw [ha]) ?_
  rw [lg_entry_eq]
  generalize (lg_sl ([.ref h0, .long a]) ++ List.replicate (4 - (lg_sl ([.ref h0, .long a])).length) Slot.unset).toArray = ls at hl ⊢
  have hl : lv_has ls 4 [(0, .ref h0), (1, .long a)] := hl
  generalize hQ : MQ below (vp_Sl (fun r : Int64 => r = pt_words n a)) args s 0 0 (fun _ => False) = Q
  refine lv_aload_n hx hb dX0_wordsOf_0 rfl (lv_at hl 0 rfl) ?_
  refine va_get (D := (dC, dI)) (ci := 0) (v := .int (nI n)) (C := RX0) (T := TX0) (N := 7) hx hb hts (fun w h => List.mem_cons_of_mem _ (pt_wsX0 w h)) hown hK hP 0 rfl rfl 3 (by decide) (hts _ (List.mem_cons_of_mem _ pw35)) (fun _ h9 => h9) rfl dX0_wordsOf_1 ?_
  refine lv_lload_n hx hb dX0_wordsOf_4 rfl (lv_at hl 1 rfl) ?_
  refine vp_callSi (W.runS (As := [.long a]) (rest := [.int (nI n)]) ⟨hx, hb, hml, hown, hts⟩ (c_bitCount l dC dI a) (va_cwS 1 hts (pt_gS pw129 pw130 pw19 pw131) rfl rfl rfl (by decide +kernel) ⟨Nat.le_of_ble_eq_true rfl, Nat.le_of_ble_eq_true rfl⟩) ⟨fun a U g mk q => by obtain ⟨q0, qP, qK⟩ := q; exact ⟨q0, qP, va_K.moved (u := U) (U := U.calling g mk a) (Vm.Alike.refl U.vm) qK⟩, fun U hU hW => ⟨rfl, by rw [hU]; exact (hP.sub (ws' := ([] : va_W)) [] rfl), va_K.moved hW.alike (hK.sub (tys' := []) [] rfl)⟩⟩ rfl rfl hl.1 rfl (lv_room (Nat.le_of_ble_eq_true rfl)) dX0_wordsOf_5 ⟨Nat.zero_le _, Nat.zero_le _⟩) (fun r1 hw => ?_)
  subst hw
  refine lv_isub hx hb dX0_wordsOf_8 ?_
  refine lv_istore_n (lv' := [(3, .int ((nI n) - (pt_bits a))), (0, .ref h0), (1, .long a)]) hx hb dX0_wordsOf_9 rfl hl (by decide) rfl (fun ls hl => ?_)
  refine lv_iload_n hx hb dX0_wordsOf_10 rfl (lv_at hl 0 rfl) ?_
  refine lv_bipush (v := 64) hx hb dX0_wordsOf_11 (by decide) ?_
  refine lv_icmp_lt (tgt := 20) hx hb dX0_wordsOf_13 (by decide) (fun h1 => ?_) (fun h1 => ?_)
  · refine lv_lconst (v := 1) hx hb dX0_wordsOf_20 (by decide) ?_
    refine lv_iload_n hx hb dX0_wordsOf_21 rfl (lv_at hl 0 rfl) ?_
    refine lv_lshl (v := pt_shl 1 ((nI n) - (pt_bits a))) hx hb dX0_wordsOf_22 rfl ?_
    rw [← hQ]
    exact W.lret (v := pt_shl 1 ((nI n) - (pt_bits a))) hx hb hr (fun t ht hW => ⟨pt_shl 1 ((nI n) - (pt_bits a)), rfl, by unfold pt_words; rw [if_neg (Int32.not_le.mpr h1)], ht⟩) t_nil dX0_wordsOf_23
  · refine lv_lconst (v := 0) hx hb dX0_wordsOf_16 (by decide) ?_
    refine lv_goto (tgt := 23) hx hb dX0_wordsOf_17 (by decide) ?_
    rw [← hQ]
    exact W.lret (v := 0) hx hb hr (fun t ht hW => ⟨0, rfl, by unfold pt_words; rw [if_pos (Int32.not_lt.mp h1)], ht⟩) t_nil dX0_wordsOf_23
set_option maxHeartbeats 4000000 in
set_option maxRecDepth 100000 in
/-- freeWords(care, want) -/
theorem c_freeWords (l : Launch) (dC : Nat → ClassId) (dI : Nat → Nat → Nat) (h0 c0 w0 : Nat) (kc kw : ClassId) (k n : Nat) (fc fv : Nat → Int64) (cl su : Int32) (a b : Int64) (hk : k ≤ 512) : Met l yX0_freeWords wsX0_freeWords ({ frames := 2, cells := 0, slots := 0, locals := 44 }) (va_Pc [.ref h0, .long a, .long b] (fun U => va_P (dC, dI) vwCl [(h0, .inr (0, [.ref c0, .ref w0, .int (nI k), .int (nI n), .long (pt_mk n), .int cl, .int su])), (c0, .inl (kc, 512, .inr (.inl fc))), (w0, .inl (kw, 512, .inr (.inl fv)))] U.heap ∧ va_K (dC, dI) vwCl [(kc, .long), (kw, .long)] U)) (vp_Sl (fun r : Int64 => r = pt_fw n fc fv a b k)) 0 0 (fun _ => False) := by
  refine Met.ofW (cc := cX0_freeWords) (maxL := 8) (ret := (some .long)) (by decide) rfl ?_
  intro p e s m args below meth c s₁ B hml hv
  obtain ⟨ha, hP, hK⟩ := hv
  have hx := B.exec
  have hb := B.bytes
  have hr := B.returns
  have hts := atoms_spec (ws := wsX0_freeWords) B.pre
  have hown : s.vm.findClass RX0 = some m.cls := findClass_of_methodNamed B.named
  have hlocks := B.notSynchronized
  have hl := lv_entry ([.ref h0, .long a, .long b]) (n := 8) (Nat.le_of_ble_eq_true rfl)
  refine W.eq (show entryFrame m args 8 = entryFrame m ([.ref h0, .long a, .long b] : List Value).toArray 8 by rw [ha]) ?_
  rw [lg_entry_eq]
  generalize (lg_sl ([.ref h0, .long a, .long b]) ++ List.replicate (8 - (lg_sl ([.ref h0, .long a, .long b])).length) Slot.unset).toArray = ls at hl ⊢
  have hl : lv_has ls 8 [(0, .ref h0), (1, .long a), (3, .long b)] := hl
  generalize hQ : MQ below (vp_Sl (fun r : Int64 => r = pt_fw n fc fv a b k)) args s 0 0 (fun _ => False) = Q
  refine lv_aload_n hx hb dX0_freeWords_0 rfl (lv_at hl 0 rfl) ?_
  refine lv_lload_n hx hb dX0_freeWords_1 rfl (lv_at hl 1 rfl) ?_
  refine vp_callSl (W.runV (As := [.long a]) (rest := []) ⟨hx, hb, hml, hown, hts⟩ (c_wordsOf l dC dI h0 c0 w0 kc kw k n fc fv cl su a) (cwV 1 hts (pt_gV pw126 pw127 pw6 pw17 pw128) rfl rfl rfl (by decide +kernel) ⟨Nat.le_of_ble_eq_true rfl, Nat.le_of_ble_eq_true rfl⟩) ⟨fun a U g mk q => by obtain ⟨q0, qP, qK⟩ := q; exact ⟨q0, qP, va_K.moved (u := U) (U := U.calling g mk a) (Vm.Alike.refl U.vm) qK⟩, va_recv hK hP (ci := 0) (q0 := 0) rfl rfl, fun U hU hW => ⟨rfl, by rw [hU]; exact hP, va_K.moved hW.alike hK⟩⟩ rfl rfl hl.1 rfl (lv_room (Nat.le_of_ble_eq_true rfl)) dX0_freeWords_2 ⟨Nat.zero_le _, Nat.zero_le _⟩) (fun r1 hw => ?_)
  subst hw
  refine lv_lstore (lv' := [(5, .long (pt_words n a)), (0, .ref h0), (1, .long a), (3, .long b)]) hx hb dX0_freeWords_5 hl (by decide) rfl (fun ls hl => ?_)
  refine lv_iconst (v := 0) hx hb dX0_freeWords_7 (by decide) ?_
  refine lv_istore (lv' := [(7, .int 0), (5, .long (pt_words n a)), (0, .ref h0), (1, .long a), (3, .long b)]) hx hb dX0_freeWords_8 hl (by decide) rfl (fun ls hl => ?_)
  have loop : ∀ (d i : Nat) (ls : Array Slot), k - i = d → i ≤ k → lv_has ls 8 [(7, .int (nI i)), (5, .long (pt_fw n fc fv a b i)), (0, .ref h0), (1, .long a), (3, .long b)] → W p l e (headSpec wsX0_freeWords ({ frames := 2, cells := 0, slots := 0, locals := 44 })).room s m args below meth c s.heap [] 0 0 Q (F0 m 10 ls []) := by
    intro d
    induction d with
    | zero =>
      intro i ls hd hik hl
      have hik2 : i = k := by omega
      refine lv_iload hx hb dX0_freeWords_10 (lv_at hl 0 rfl) ?_
      refine lv_aload_n hx hb dX0_freeWords_12 rfl (lv_at hl 2 rfl) ?_
      refine va_get (D := (dC, dI)) (ci := 0) (v := .int (nI k)) (C := RX0) (T := TX0) (N := 7) hx hb hts (fun w h => List.mem_cons_of_mem _ (pt_wsX0 w h)) hown hK hP 0 rfl rfl 2 (by decide) (hts _ (List.mem_cons_of_mem _ pw34)) (fun _ h9 => h9) rfl dX0_freeWords_13 ?_
      refine lv_icmp_ge (tgt := 54) hx hb dX0_freeWords_16 (by decide) (fun h1 => ?_) (fun h1 => absurd (nI_le (by omega) (by omega)) h1)
      refine lv_lload hx hb dX0_freeWords_54 (lv_at hl 1 rfl) ?_
      rw [← hQ]
      exact W.lret (v := pt_fw n fc fv a b i) hx hb hr (fun t ht hW => ⟨pt_fw n fc fv a b i, rfl, by rw [hik2], ht⟩) t_nil dX0_freeWords_56
    | succ d ih =>
      intro i ls hd hik hl
      refine lv_iload hx hb dX0_freeWords_10 (lv_at hl 0 rfl) ?_
      refine lv_aload_n hx hb dX0_freeWords_12 rfl (lv_at hl 2 rfl) ?_
      refine va_get (D := (dC, dI)) (ci := 0) (v := .int (nI k)) (C := RX0) (T := TX0) (N := 7) hx hb hts (fun w h => List.mem_cons_of_mem _ (pt_wsX0 w h)) hown hK hP 0 rfl rfl 2 (by decide) (hts _ (List.mem_cons_of_mem _ pw34)) (fun _ h9 => h9) rfl dX0_freeWords_13 ?_
      refine lv_icmp_ge (tgt := 54) hx hb dX0_freeWords_16 (by decide) (fun h1 => absurd h1 (nI_ge (by omega) (by omega))) (fun h1 => ?_)
      refine lv_aload_n hx hb dX0_freeWords_19 rfl (lv_at hl 2 rfl) ?_
      refine lv_iload hx hb dX0_freeWords_20 (lv_at hl 0 rfl) ?_
      refine lv_lload_n hx hb dX0_freeWords_22 rfl (lv_at hl 3 rfl) ?_
      refine lv_lload_n hx hb dX0_freeWords_23 rfl (lv_at hl 4 rfl) ?_
      refine vp_callSi (W.runV (As := [.int (nI i), .long a, .long b]) (rest := []) ⟨hx, hb, hml, hown, hts⟩ (c_sharesWord l dC dI h0 c0 w0 kc kw k n fc fv cl su i a b (by omega)) (cwV 3 hts (pt_gV pw51 pw52 pw0 pw17 pw53) rfl rfl rfl (by decide +kernel) ⟨Nat.le_of_ble_eq_true rfl, Nat.le_of_ble_eq_true rfl⟩) ⟨fun a U g mk q => by obtain ⟨q0, qP, qK⟩ := q; exact ⟨q0, qP, va_K.moved (u := U) (U := U.calling g mk a) (Vm.Alike.refl U.vm) qK⟩, va_recv hK hP (ci := 0) (q0 := 0) rfl rfl, fun U hU hW => ⟨rfl, by rw [hU]; exact hP, va_K.moved hW.alike hK⟩⟩ rfl rfl hl.1 rfl (lv_room (Nat.le_of_ble_eq_true rfl)) dX0_freeWords_24 ⟨Nat.zero_le _, Nat.zero_le _⟩) (fun r2 hw => ?_)
      rcases hw with ⟨rfl, hs⟩ | ⟨rfl, hs⟩
      · refine lv_if_eq (tgt := 48) hx hb dX0_freeWords_27 (by decide) (fun h2 => absurd h2 (by decide)) (fun h2 => ?_)
        refine lv_lload hx hb dX0_freeWords_30 (lv_at hl 1 rfl) ?_
        refine lv_aload_n hx hb dX0_freeWords_32 rfl (lv_at hl 2 rfl) ?_
        refine lv_aload_n hx hb dX0_freeWords_33 rfl (lv_at hl 2 rfl) ?_
        refine va_get (D := (dC, dI)) (ci := 0) (v := .ref c0) (C := RX0) (T := TX0) (N := 7) hx hb hts (fun w h => List.mem_cons_of_mem _ (pt_wsX0 w h)) hown hK hP 0 rfl rfl 0 (by decide) (hts _ (List.mem_cons_of_mem _ pw32)) (fun _ h9 => h9) rfl dX0_freeWords_34 ?_
        refine lv_iload hx hb dX0_freeWords_37 (lv_at hl 0 rfl) ?_
        refine va_lald hx hb hK hP 1 0 rfl rfl (vp_in_nI (by omega) (by decide)) dX0_freeWords_39 ?_
        rw [nI_clamp (by omega)]
        refine lv_lload_n hx hb dX0_freeWords_40 rfl (lv_at hl 3 rfl) ?_
        refine lv_lor hx hb dX0_freeWords_41 ?_
        refine vp_callSl (W.runV (As := [.long ((fc i) ||| a)]) (rest := [.long (pt_fw n fc fv a b i)]) ⟨hx, hb, hml, hown, hts⟩ (c_wordsOf l dC dI h0 c0 w0 kc kw k n fc fv cl su (fc i ||| a)) (cwV 1 hts (pt_gV pw126 pw127 pw6 pw17 pw128) rfl rfl rfl (by decide +kernel) ⟨Nat.le_of_ble_eq_true rfl, Nat.le_of_ble_eq_true rfl⟩) ⟨fun a U g mk q => by obtain ⟨q0, qP, qK⟩ := q; exact ⟨q0, qP, va_K.moved (u := U) (U := U.calling g mk a) (Vm.Alike.refl U.vm) qK⟩, va_recv hK hP (ci := 0) (q0 := 0) rfl rfl, fun U hU hW => ⟨rfl, by rw [hU]; exact hP, va_K.moved hW.alike hK⟩⟩ rfl rfl hl.1 rfl (lv_room (Nat.le_of_ble_eq_true rfl)) dX0_freeWords_42 ⟨Nat.zero_le _, Nat.zero_le _⟩) (fun r3 hw2 => ?_)
        subst hw2
        refine lv_lsub hx hb dX0_freeWords_45 ?_
        rw [← pt_fw_yes hs]
        refine lv_lstore (lv' := [(5, .long (pt_fw n fc fv a b (i + 1))), (7, .int (nI i)), (0, .ref h0), (1, .long a), (3, .long b)]) hx hb dX0_freeWords_46 hl (by decide) rfl (fun ls hl => ?_)
        refine lv_iinc (v := nI (i + 1)) (lv' := [(7, .int (nI (i + 1))), (5, .long (pt_fw n fc fv a b (i + 1))), (0, .ref h0), (1, .long a), (3, .long b)]) hx hb dX0_freeWords_48 hl (k := 1) rfl (by rw [nI_succ]; rfl) (by decide) rfl (fun ls hl => ?_)
        refine lv_goto (tgt := 10) hx hb dX0_freeWords_51 (by decide) ?_
        exact ih (i + 1) ls (by omega) (by omega) (lv_sub hl [0, 1, 2, 3, 4] rfl)
      · refine lv_if_eq (tgt := 48) hx hb dX0_freeWords_27 (by decide) (fun h2 => ?_) (fun h2 => absurd rfl h2)
        refine lv_iinc (v := nI (i + 1)) (lv' := [(7, .int (nI (i + 1))), (5, .long (pt_fw n fc fv a b i)), (0, .ref h0), (1, .long a), (3, .long b)]) hx hb dX0_freeWords_48 hl (k := 0) rfl (by rw [nI_succ]; rfl) (by decide) rfl (fun ls hl => ?_)
        refine lv_goto (tgt := 10) hx hb dX0_freeWords_51 (by decide) ?_
        rw [← pt_fw_no hs] at hl
        exact ih (i + 1) ls (by omega) (by omega) (lv_sub hl [0, 1, 2, 3, 4] rfl)
  exact loop k 0 ls (by omega) (by omega) (lv_sub hl [0, 1, 2, 3, 4] rfl)
set_option maxHeartbeats 4000000 in
set_option maxRecDepth 100000 in
/-- leastFree(top, start) -/
theorem c_leastFree (l : Launch) (dC : Nat → ClassId) (dI : Nat → Nat → Nat) (h0 c0 w0 : Nat) (kc kw : ClassId) (k n : Nat) (fc fv : Nat → Int64) (cl su : Int32) (t : Nat) (a : Int64) (hk : k ≤ 512) (ht : t ≤ 64) : Met l yX0_leastFree wsX0_leastFree ({ frames := 3, cells := 0, slots := 0, locals := 71 }) (va_Pc [.ref h0, .int (nI t), .long a] (fun U => va_P (dC, dI) vwCl [(h0, .inr (0, [.ref c0, .ref w0, .int (nI k), .int (nI n), .long (pt_mk n), .int cl, .int su])), (c0, .inl (kc, 512, .inr (.inl fc))), (w0, .inl (kw, 512, .inr (.inl fv)))] U.heap ∧ va_K (dC, dI) vwCl [(kc, .long), (kw, .long)] U)) (vp_Sl (fun r : Int64 => r = pt_lf k n fc fv t a)) 0 0 (fun _ => False) := by
  refine Met.ofW (cc := cX0_leastFree) (maxL := 7) (ret := (some .long)) (by decide) rfl ?_
  intro p e s m args below meth c s₁ B hml hv
  obtain ⟨ha, hP, hK⟩ := hv
  have hx := B.exec
  have hb := B.bytes
  have hr := B.returns
  have hts := atoms_spec (ws := wsX0_leastFree) B.pre
  have hown : s.vm.findClass RX0 = some m.cls := findClass_of_methodNamed B.named
  have hlocks := B.notSynchronized
  have hl := lv_entry ([.ref h0, .int (nI t), .long a]) (n := 7) (Nat.le_of_ble_eq_true rfl)
  refine W.eq (show entryFrame m args 7 = entryFrame m ([.ref h0, .int (nI t), .long a] : List Value).toArray 7 by rw [ha]) ?_
  rw [lg_entry_eq]
  generalize (lg_sl ([.ref h0, .int (nI t), .long a]) ++ List.replicate (7 - (lg_sl ([.ref h0, .int (nI t), .long a])).length) Slot.unset).toArray = ls at hl ⊢
  have hl : lv_has ls 7 [(0, .ref h0), (1, .int (nI t)), (2, .long a)] := hl
  generalize hQ : MQ below (vp_Sl (fun r : Int64 => r = pt_lf k n fc fv t a)) args s 0 0 (fun _ => False) = Q
  refine lv_lload_n hx hb dX0_leastFree_0 rfl (lv_at hl 2 rfl) ?_
  refine lv_lstore (lv' := [(4, .long a), (0, .ref h0), (1, .int (nI t)), (2, .long a)]) hx hb dX0_leastFree_1 hl (by decide) rfl (fun ls hl => ?_)
  refine lv_iload_n hx hb dX0_leastFree_3 rfl (lv_at hl 2 rfl) ?_
  refine lv_iconst (v := 1) hx hb dX0_leastFree_4 (by decide) ?_
  refine lv_isub hx hb dX0_leastFree_5 ?_
  refine lv_istore (lv' := [(6, .int ((nI t) - 1)), (4, .long a), (0, .ref h0), (1, .int (nI t)), (2, .long a)]) hx hb dX0_leastFree_6 hl (by decide) rfl (fun ls hl => ?_)
  have loop : ∀ (q : Nat) (x : Int64) (ls : Array Slot), q ≤ 64 → pt_lf k n fc fv q x = pt_lf k n fc fv t a → lv_has ls 7 [(6, .int (nI q - 1)), (4, .long x), (0, .ref h0)] → W p l e (headSpec wsX0_leastFree ({ frames := 3, cells := 0, slots := 0, locals := 71 })).room s m args below meth c s.heap [] 0 0 Q (F0 m 8 ls []) := by
    intro q
    induction q with
    | zero =>
      intro x ls hq hx0 hl
      refine lv_iload hx hb dX0_leastFree_8 (lv_at hl 0 rfl) ?_
      refine lv_if_lt (tgt := 45) hx hb dX0_leastFree_10 (by decide) (fun h1 => ?_) (fun h1 => absurd (by decide) h1)
      refine lv_lload hx hb dX0_leastFree_45 (lv_at hl 1 rfl) ?_
      rw [← hQ]
      exact W.lret (v := x) hx hb hr (fun t ht hW => ⟨x, rfl, hx0, ht⟩) t_nil dX0_leastFree_47
    | succ q ih =>
      intro x ls hq hx0 hl
      rw [nI_pred] at hl
      refine lv_iload hx hb dX0_leastFree_8 (lv_at hl 0 rfl) ?_
      refine lv_if_lt (tgt := 45) hx hb dX0_leastFree_10 (by decide) (fun h1 => absurd h1 (nI_pos (by omega))) (fun h1 => ?_)
      refine lv_aload_n hx hb dX0_leastFree_13 rfl (lv_at hl 2 rfl) ?_
      refine lv_aload_n hx hb dX0_leastFree_14 rfl (lv_at hl 2 rfl) ?_
      refine lv_iload hx hb dX0_leastFree_15 (lv_at hl 0 rfl) ?_
      refine vp_callSl (W.runV (As := [.int (nI q)]) (rest := [.ref h0]) ⟨hx, hb, hml, hown, hts⟩ (c_bitsFrom l dC dI h0 c0 w0 kc kw k n fc fv cl su q) (cwV 1 hts (pt_gV pw142 pw143 pw7 pw17 pw144) rfl rfl rfl (by decide +kernel) ⟨Nat.le_of_ble_eq_true rfl, Nat.le_of_ble_eq_true rfl⟩) ⟨fun a U g mk q => by obtain ⟨q0, qP, qK⟩ := q; exact ⟨q0, qP, va_K.moved (u := U) (U := U.calling g mk a) (Vm.Alike.refl U.vm) qK⟩, va_recv hK hP (ci := 0) (q0 := 0) rfl rfl, fun U hU hW => ⟨rfl, by rw [hU]; exact hP, va_K.moved hW.alike hK⟩⟩ rfl rfl hl.1 rfl (lv_room (Nat.le_of_ble_eq_true rfl)) dX0_leastFree_17 ⟨Nat.zero_le _, Nat.zero_le _⟩) (fun r1 hw => ?_)
      subst hw
      refine lv_lload hx hb dX0_leastFree_20 (lv_at hl 1 rfl) ?_
      refine vp_callSl (W.runV (As := [.long (pt_up n q), .long x]) (rest := []) ⟨hx, hb, hml, hown, hts⟩ (c_freeWords l dC dI h0 c0 w0 kc kw k n fc fv cl su (pt_up n q) x hk) (cwV 2 hts (pt_gV pw123 pw124 pw5 pw17 pw125) rfl rfl rfl (by decide +kernel) ⟨Nat.le_of_ble_eq_true rfl, Nat.le_of_ble_eq_true rfl⟩) ⟨fun a U g mk q => by obtain ⟨q0, qP, qK⟩ := q; exact ⟨q0, qP, va_K.moved (u := U) (U := U.calling g mk a) (Vm.Alike.refl U.vm) qK⟩, va_recv hK hP (ci := 0) (q0 := 0) rfl rfl, fun U hU hW => ⟨rfl, by rw [hU]; exact hP, va_K.moved hW.alike hK⟩⟩ rfl rfl hl.1 rfl (lv_room (Nat.le_of_ble_eq_true rfl)) dX0_leastFree_22 ⟨Nat.zero_le _, Nat.zero_le _⟩) (fun r2 hw => ?_)
      subst hw
      refine lv_lconst (v := 0) hx hb dX0_leastFree_25 (by decide) ?_
      refine W.lcmp hx hb dX0_leastFree_26 ?_
      refine lv_if_ne (tgt := 39) hx hb dX0_leastFree_27 (by decide) (fun h2 => ?_) (fun h2 => ?_)
      · refine lv_iinc (v := nI q - 1) (lv' := [(6, .int (nI q - 1)), (4, .long x), (0, .ref h0)]) hx hb dX0_leastFree_39 hl (k := 0) rfl (by rw [Int32.sub_eq_add_neg]; rfl) (by decide) rfl (fun ls hl => ?_)
        refine lv_goto (tgt := 8) hx hb dX0_leastFree_42 (by decide) ?_
        exact ih x ls (by omega) ((pt_lf_no (fun z => h2 (pt_cmp0.mpr z))).symm.trans hx0) (lv_sub hl [0, 1, 2] rfl)
      · refine lv_lload hx hb dX0_leastFree_30 (lv_at hl 1 rfl) ?_
        refine lv_lconst (v := 1) hx hb dX0_leastFree_32 (by decide) ?_
        refine lv_iload hx hb dX0_leastFree_33 (lv_at hl 0 rfl) ?_
        refine lv_lshl (v := pt_shl 1 (nI q)) hx hb dX0_leastFree_35 rfl ?_
        refine lv_lor hx hb dX0_leastFree_36 ?_
        refine lv_lstore (lv' := [(4, .long (x ||| (pt_shl 1 (nI q)))), (6, .int (nI q)), (0, .ref h0)]) hx hb dX0_leastFree_37 hl (by decide) rfl (fun ls hl => ?_)
        refine lv_iinc (v := nI q - 1) (lv' := [(6, .int (nI q - 1)), (4, .long (x ||| (pt_shl 1 (nI q)))), (0, .ref h0)]) hx hb dX0_leastFree_39 hl (k := 1) rfl (by rw [Int32.sub_eq_add_neg]; rfl) (by decide) rfl (fun ls hl => ?_)
        refine lv_goto (tgt := 8) hx hb dX0_leastFree_42 (by decide) ?_
        exact ih (x ||| pt_shl 1 (nI q)) ls (by omega) ((pt_lf_yes (pt_cmp0.mp h2)).symm.trans hx0) (lv_sub hl [0, 1, 2] rfl)
  exact loop t a ls ht rfl (lv_sub hl [0, 1, 2] rfl)
end
section
set_option maxHeartbeats 4000000 in
set_option maxRecDepth 100000 in
/-- the reference: mask() -/
theorem c_mmask (l : Launch) (dC : Nat → ClassId) (dI : Nat → Nat → Nat) (g0 a0 b0 : Nat) (ja jb : ClassId) (k n : Nat) (fc fv : Nat → Int64) (cl su th : Int32)  (hn1 : 1 ≤ n) (hn2 : n ≤ 64) : Met l yX1_mask wsX1_mask ({ frames := 0, cells := 0, slots := 0, locals := 0 }) (va_Pc [.ref g0] (fun U => va_P (dC, dI) vwCl [(g0, .inr (1, [.ref a0, .ref b0, .int (nI k), .int (nI n), .int cl, .int su, .int th])), (a0, .inl (ja, 512, .inr (.inl fc))), (b0, .inl (jb, 512, .inr (.inl fv)))] U.heap ∧ va_K (dC, dI) vwCl [(ja, .long), (jb, .long)] U)) (vp_Sl (fun r : Int64 => r = pt_mk n)) 0 0 (fun _ => False) := by
  refine Met.ofW (cc := cX1_mask) (maxL := 1) (ret := (some .long)) (by decide) rfl ?_
  intro p e s m args below meth c s₁ B hml hv
  obtain ⟨ha, hP, hK⟩ := hv
  have hx := B.exec
  have hb := B.bytes
  have hr := B.returns
  have hts := atoms_spec (ws := wsX1_mask) B.pre
  have hown : s.vm.findClass RX1 = some m.cls := findClass_of_methodNamed B.named
  have hlocks := B.notSynchronized
  have hl := lv_entry ([.ref g0]) (n := 1) (Nat.le_of_ble_eq_true rfl)
  refine W.eq (show entryFrame m args 1 = entryFrame m ([.ref g0] : List Value).toArray 1 by rw [ha]) ?_
  rw [lg_entry_eq]
  generalize (lg_sl ([.ref g0]) ++ List.replicate (1 - (lg_sl ([.ref g0])).length) Slot.unset).toArray = ls at hl ⊢
  have hl : lv_has ls 1 [(0, .ref g0)] := hl
  generalize hQ : MQ below (vp_Sl (fun r : Int64 => r = pt_mk n)) args s 0 0 (fun _ => False) = Q
  refine lv_aload_n hx hb dX1_mask_0 rfl (lv_at hl 0 rfl) ?_
  refine va_get (D := (dC, dI)) (ci := 1) (v := .int (nI n)) (C := RX1) (T := TX1) (N := 7) hx hb hts (fun w h => List.mem_cons_of_mem _ (pt_wsX1 w h)) hown hK hP 0 rfl rfl 3 (by decide) (hts _ (List.mem_cons_of_mem _ pw164)) (fun _ h9 => h9) rfl dX1_mask_1 ?_
  refine lv_bipush (v := 64) hx hb dX1_mask_4 (by decide) ?_
  refine lv_icmp_ne (tgt := 15) hx hb dX1_mask_6 (by decide) (fun h1 => ?_) (fun h1 => ?_)
  · refine lv_lconst (v := 1) hx hb dX1_mask_15 (by decide) ?_
    refine lv_aload_n hx hb dX1_mask_16 rfl (lv_at hl 0 rfl) ?_
    refine va_get (D := (dC, dI)) (ci := 1) (v := .int (nI n)) (C := RX1) (T := TX1) (N := 7) hx hb hts (fun w h => List.mem_cons_of_mem _ (pt_wsX1 w h)) hown hK hP 0 rfl rfl 3 (by decide) (hts _ (List.mem_cons_of_mem _ pw164)) (fun _ h9 => h9) rfl dX1_mask_17 ?_
    refine lv_lshl (v := pt_shl 1 (nI n)) hx hb dX1_mask_20 rfl ?_
    refine lv_lconst (v := 1) hx hb dX1_mask_21 (by decide) ?_
    refine lv_lsub hx hb dX1_mask_22 ?_
    rw [← hQ]
    exact W.lret (v := (pt_shl 1 (nI n)) - 1) hx hb hr (fun t ht hW => ⟨(pt_shl 1 (nI n)) - 1, rfl, by rw [← pt_mk_ref n (by omega) hn1, if_neg h1], ht⟩) t_nil dX1_mask_23
  · refine lv_ldc2 (v := (-1)) hx hb hown (hts _ (List.mem_cons_of_mem _ pw193)) dX1_mask_9 ?_
    refine lv_goto (tgt := 23) hx hb dX1_mask_12 (by decide) ?_
    rw [← hQ]
    exact W.lret (v := (-1)) hx hb hr (fun t ht hW => ⟨(-1), rfl, by rw [← pt_mk_ref n (by omega) hn1, if_pos h1], ht⟩) t_nil dX1_mask_23
set_option maxHeartbeats 4000000 in
set_option maxRecDepth 100000 in
/-- the reference: bits(v) -/
theorem c_bits (l : Launch) (dC : Nat → ClassId) (dI : Nat → Nat → Nat) (v : Int64)  : Met l yX1_bits wsX1_bits ({ frames := 0, cells := 0, slots := 0, locals := 0 }) (va_Pc [.long v] (fun U => va_P (dC, dI) vwCl [] U.heap ∧ va_K (dC, dI) vwCl [] U)) (vp_Si (fun r : Int32 => r = pt_bits v)) 0 0 (fun _ => False) := by
  refine Met.ofW (cc := cX1_bits) (maxL := 4) (ret := (some .int)) (by decide) rfl ?_
  intro p e s m args below meth c s₁ B hml hv
  obtain ⟨ha, hP, hK⟩ := hv
  have hx := B.exec
  have hb := B.bytes
  have hr := B.returns
  have hts := atoms_spec (ws := wsX1_bits) B.pre
  have hown : s.vm.findClass RX1 = some m.cls := findClass_of_methodNamed B.named
  have hlocks := B.notSynchronized
  have hl := lv_entry ([.long v]) (n := 4) (Nat.le_of_ble_eq_true rfl)
  refine W.eq (show entryFrame m args 4 = entryFrame m ([.long v] : List Value).toArray 4 by rw [ha]) ?_
  rw [lg_entry_eq]
  generalize (lg_sl ([.long v]) ++ List.replicate (4 - (lg_sl ([.long v])).length) Slot.unset).toArray = ls at hl ⊢
  have hl : lv_has ls 4 [(0, .long v)] := hl
  generalize hQ : MQ below (vp_Si (fun r : Int32 => r = pt_bits v)) args s 0 0 (fun _ => False) = Q
  refine lv_iconst (v := 0) hx hb dX1_bits_0 (by decide) ?_
  refine lv_istore_n (lv' := [(2, .int 0), (0, .long v)]) hx hb dX1_bits_1 rfl hl (by decide) rfl (fun ls hl => ?_)
  refine lv_iconst (v := 0) hx hb dX1_bits_2 (by decide) ?_
  refine lv_istore_n (lv' := [(3, .int 0), (2, .int 0), (0, .long v)]) hx hb dX1_bits_3 rfl hl (by decide) rfl (fun ls hl => ?_)
  have loop : ∀ (d i : Nat) (ls : Array Slot), 64 - i = d → i ≤ 64 → lv_has ls 4 [(3, .int (nI i)), (2, .int (pt_cnt v i)), (0, .long v)] → W p l e (headSpec wsX1_bits ({ frames := 0, cells := 0, slots := 0, locals := 0 })).room s m args below meth c s.heap [] 0 0 Q (F0 m 4 ls []) := by
    intro d
    induction d with
    | zero =>
      intro i ls hd hi hl
      have hi2 : i = 64 := by omega
      refine lv_iload_n hx hb dX1_bits_4 rfl (lv_at hl 0 rfl) ?_
      refine lv_bipush (v := 64) hx hb dX1_bits_5 (by decide) ?_
      refine lv_icmp_ge (tgt := 25) hx hb dX1_bits_7 (by decide) (fun h1 => ?_) (fun h1 => absurd (nI_le (a := 64) (by omega) (by omega)) h1)
      refine lv_iload_n hx hb dX1_bits_25 rfl (lv_at hl 1 rfl) ?_
      rw [← hQ]
      exact W.iret (v := pt_cnt v i) hx hb hr (fun t ht hW => ⟨pt_cnt v i, rfl, by rw [hi2]; rfl, ht⟩) t_nil dX1_bits_26
    | succ d ih =>
      intro i ls hd hi hl
      refine lv_iload_n hx hb dX1_bits_4 rfl (lv_at hl 0 rfl) ?_
      refine lv_bipush (v := 64) hx hb dX1_bits_5 (by decide) ?_
      refine lv_icmp_ge (tgt := 25) hx hb dX1_bits_7 (by decide) (fun h1 => absurd h1 (nI_ge (b := 64) (by omega) (by omega))) (fun h1 => ?_)
      refine lv_iload_n hx hb dX1_bits_10 rfl (lv_at hl 1 rfl) ?_
      refine lv_lload_n hx hb dX1_bits_11 rfl (lv_at hl 2 rfl) ?_
      refine lv_iload_n hx hb dX1_bits_12 rfl (lv_at hl 0 rfl) ?_
      refine lv_lushr (v := pt_ushr v (nI i)) hx hb dX1_bits_13 rfl ?_
      refine lv_lconst (v := 1) hx hb dX1_bits_14 (by decide) ?_
      refine lv_land hx hb dX1_bits_15 ?_
      refine lv_l2i (v := ((pt_ushr v (nI i)) &&& 1).toInt32) hx hb dX1_bits_16 rfl ?_
      refine lv_iadd hx hb dX1_bits_17 ?_
      refine W.eq (g2 := F0 m 18 ls [.int (pt_cnt v (i + 1))]) rfl ?_
      refine lv_istore_n (lv' := [(2, .int (pt_cnt v (i + 1))), (3, .int (nI i)), (0, .long v)]) hx hb dX1_bits_18 rfl hl (by decide) rfl (fun ls hl => ?_)
      refine lv_iinc (v := nI (i + 1)) (lv' := [(3, .int (nI (i + 1))), (2, .int (pt_cnt v (i + 1))), (0, .long v)]) hx hb dX1_bits_19 hl (k := 1) rfl (by rw [nI_succ]; rfl) (by decide) rfl (fun ls hl => ?_)
      refine lv_goto (tgt := 4) hx hb dX1_bits_22 (by decide) ?_
      exact ih (i + 1) ls (by omega) (by omega) (lv_sub hl [0, 1, 2] rfl)
  exact loop 64 0 ls (by omega) (by omega) (lv_sub hl [0, 1, 2] rfl)
set_option maxHeartbeats 4000000 in
set_option maxRecDepth 100000 in
/-- the reference: power(n) -/
theorem c_power (l : Launch) (dC : Nat → ClassId) (dI : Nat → Nat → Nat) (x : Int32)  : Met l yX1_power wsX1_power ({ frames := 0, cells := 0, slots := 0, locals := 0 }) (va_Pc [.int x] (fun U => va_P (dC, dI) vwCl [] U.heap ∧ va_K (dC, dI) vwCl [] U)) (vp_Sl (fun r : Int64 => r = if x = 64 then (0 : Int64) else pt_shl 1 x)) 0 0 (fun _ => False) := by
  refine Met.ofW (cc := cX1_power) (maxL := 1) (ret := (some .long)) (by decide) rfl ?_
  intro p e s m args below meth c s₁ B hml hv
  obtain ⟨ha, hP, hK⟩ := hv
  have hx := B.exec
  have hb := B.bytes
  have hr := B.returns
  have hts := atoms_spec (ws := wsX1_power) B.pre
  have hown : s.vm.findClass RX1 = some m.cls := findClass_of_methodNamed B.named
  have hlocks := B.notSynchronized
  have hl := lv_entry ([.int x]) (n := 1) (Nat.le_of_ble_eq_true rfl)
  refine W.eq (show entryFrame m args 1 = entryFrame m ([.int x] : List Value).toArray 1 by rw [ha]) ?_
  rw [lg_entry_eq]
  generalize (lg_sl ([.int x]) ++ List.replicate (1 - (lg_sl ([.int x])).length) Slot.unset).toArray = ls at hl ⊢
  have hl : lv_has ls 1 [(0, .int x)] := hl
  generalize hQ : MQ below (vp_Sl (fun r : Int64 => r = if x = 64 then (0 : Int64) else pt_shl 1 x)) args s 0 0 (fun _ => False) = Q
  refine lv_iload_n hx hb dX1_power_0 rfl (lv_at hl 0 rfl) ?_
  refine lv_bipush (v := 64) hx hb dX1_power_1 (by decide) ?_
  refine lv_icmp_ne (tgt := 10) hx hb dX1_power_3 (by decide) (fun h1 => ?_) (fun h1 => ?_)
  · refine lv_lconst (v := 1) hx hb dX1_power_10 (by decide) ?_
    refine lv_iload_n hx hb dX1_power_11 rfl (lv_at hl 0 rfl) ?_
    refine lv_lshl (v := pt_shl 1 x) hx hb dX1_power_12 rfl ?_
    rw [← hQ]
    exact W.lret (v := pt_shl 1 x) hx hb hr (fun t ht hW => ⟨pt_shl 1 x, rfl, (if_neg h1).symm, ht⟩) t_nil dX1_power_13
  · refine lv_lconst (v := 0) hx hb dX1_power_6 (by decide) ?_
    refine lv_goto (tgt := 13) hx hb dX1_power_7 (by decide) ?_
    rw [← hQ]
    exact W.lret (v := 0) hx hb hr (fun t ht hW => ⟨0, rfl, (if_pos h1).symm, ht⟩) t_nil dX1_power_13
set_option maxHeartbeats 4000000 in
set_option maxRecDepth 100000 in
/-- the reference: wrong(c, w) -/
theorem c_wrong (l : Launch) (dC : Nat → ClassId) (dI : Nat → Nat → Nat) (g0 a0 b0 : Nat) (ja jb : ClassId) (k n : Nat) (fc fv : Nat → Int64) (cl su th : Int32) (a b : Int64)  (hn1 : 1 ≤ n) (hn2 : n ≤ 64) : Met l yX1_wrong wsX1_wrong ({ frames := 1, cells := 0, slots := 0, locals := 20 }) (va_Pc [.ref g0, .long a, .long b] (fun U => va_P (dC, dI) vwCl [(g0, .inr (1, [.ref a0, .ref b0, .int (nI k), .int (nI n), .int cl, .int su, .int th])), (a0, .inl (ja, 512, .inr (.inl fc))), (b0, .inl (jb, 512, .inr (.inl fv)))] U.heap ∧ va_K (dC, dI) vwCl [(ja, .long), (jb, .long)] U)) (vp_Si (fun r : Int32 => (r = 1 ∧ pt_stray n a b) ∨ (r = 0 ∧ ¬ pt_stray n a b))) 0 0 (fun _ => False) := by
  refine Met.ofW (cc := cX1_wrong) (maxL := 5) (ret := (some .boolean)) (by decide) rfl ?_
  intro p e s m args below meth c s₁ B hml hv
  obtain ⟨ha, hP, hK⟩ := hv
  have hx := B.exec
  have hb := B.bytes
  have hr := B.returns
  have hts := atoms_spec (ws := wsX1_wrong) B.pre
  have hown : s.vm.findClass RX1 = some m.cls := findClass_of_methodNamed B.named
  have hlocks := B.notSynchronized
  have hl := lv_entry ([.ref g0, .long a, .long b]) (n := 5) (Nat.le_of_ble_eq_true rfl)
  refine W.eq (show entryFrame m args 5 = entryFrame m ([.ref g0, .long a, .long b] : List Value).toArray 5 by rw [ha]) ?_
  rw [lg_entry_eq]
  generalize (lg_sl ([.ref g0, .long a, .long b]) ++ List.replicate (5 - (lg_sl ([.ref g0, .long a, .long b])).length) Slot.unset).toArray = ls at hl ⊢
  have hl : lv_has ls 5 [(0, .ref g0), (1, .long a), (3, .long b)] := hl
  generalize hQ : MQ below (vp_Si (fun r : Int32 => (r = 1 ∧ pt_stray n a b) ∨ (r = 0 ∧ ¬ pt_stray n a b))) args s 0 0 (fun _ => False) = Q
  refine lv_lload_n hx hb dX1_wrong_0 rfl (lv_at hl 2 rfl) ?_
  refine lv_lload_n hx hb dX1_wrong_1 rfl (lv_at hl 1 rfl) ?_
  refine lv_ldc2 (v := (-1)) hx hb hown (hts _ (List.mem_cons_of_mem _ pw193)) dX1_wrong_2 ?_
  refine lv_lxor hx hb dX1_wrong_5 ?_
  refine lv_land hx hb dX1_wrong_6 ?_
  refine lv_aload_n hx hb dX1_wrong_7 rfl (lv_at hl 0 rfl) ?_
  refine vp_callSl (W.runV (As := []) (rest := [.long (b &&& (a ^^^ (-1)))]) ⟨hx, hb, hml, hown, hts⟩ (c_mmask l dC dI g0 a0 b0 ja jb k n fc fv cl su th hn1 hn2) (cwV 0 hts (pt_gV pw194 pw195 pw11 pw18 pw196) rfl rfl rfl (by decide +kernel) ⟨Nat.le_of_ble_eq_true rfl, Nat.le_of_ble_eq_true rfl⟩) ⟨fun a U g mk q => by obtain ⟨q0, qP, qK⟩ := q; exact ⟨q0, qP, va_K.moved (u := U) (U := U.calling g mk a) (Vm.Alike.refl U.vm) qK⟩, va_recv hK hP (ci := 1) (q0 := 0) rfl rfl, fun U hU hW => ⟨rfl, by rw [hU]; exact hP, va_K.moved hW.alike hK⟩⟩ rfl rfl hl.1 rfl (lv_room (Nat.le_of_ble_eq_true rfl)) dX1_wrong_8 ⟨Nat.zero_le _, Nat.zero_le _⟩) (fun r1 hw => ?_)
  subst hw
  refine lv_land hx hb dX1_wrong_11 ?_
  refine lv_lconst (v := 0) hx hb dX1_wrong_12 (by decide) ?_
  refine W.lcmp hx hb dX1_wrong_13 ?_
  refine lv_if_eq (tgt := 21) hx hb dX1_wrong_14 (by decide) (fun h1 => ?_) (fun h1 => ?_)
  · refine lv_iconst (v := 0) hx hb dX1_wrong_21 (by decide) ?_
    rw [← hQ]
    exact W.zret (v := 0) hx hb hr narrow_b0 (fun t ht hW => ⟨0, rfl, Or.inr ⟨rfl, fun z => z (pt_cmp0.mp h1)⟩, ht⟩) t_nil dX1_wrong_22
  · refine lv_iconst (v := 1) hx hb dX1_wrong_17 (by decide) ?_
    refine lv_goto (tgt := 22) hx hb dX1_wrong_18 (by decide) ?_
    rw [← hQ]
    exact W.zret (v := 1) hx hb hr narrow_b1 (fun t ht hW => ⟨1, rfl, Or.inl ⟨rfl, fun z => h1 (pt_cmp0.mpr z)⟩, ht⟩) t_nil dX1_wrong_22
set_option maxHeartbeats 4000000 in
set_option maxRecDepth 100000 in
/-- the reference: meet(i, c, w) -/
theorem c_meet (l : Launch) (dC : Nat → ClassId) (dI : Nat → Nat → Nat) (g0 a0 b0 : Nat) (ja jb : ClassId) (k n : Nat) (fc fv : Nat → Int64) (cl su th : Int32) (i : Nat) (a b : Int64) (hi : i < 512) (hn1 : 1 ≤ n) (hn2 : n ≤ 64) : Met l yX1_meet wsX1_meet ({ frames := 1, cells := 0, slots := 0, locals := 20 }) (va_Pc [.ref g0, .int (nI i), .long a, .long b] (fun U => va_P (dC, dI) vwCl [(g0, .inr (1, [.ref a0, .ref b0, .int (nI k), .int (nI n), .int cl, .int su, .int th])), (a0, .inl (ja, 512, .inr (.inl fc))), (b0, .inl (jb, 512, .inr (.inl fv)))] U.heap ∧ va_K (dC, dI) vwCl [(ja, .long), (jb, .long)] U)) (vp_Si (fun r : Int32 => (r = 1 ∧ pt_sh (fc i) (fv i) (a &&& pt_mk n) (b &&& pt_mk n)) ∨ (r = 0 ∧ ¬ pt_sh (fc i) (fv i) (a &&& pt_mk n) (b &&& pt_mk n)))) 0 0 (fun _ => False) := by
  refine Met.ofW (cc := cX1_meet) (maxL := 6) (ret := (some .boolean)) (by decide) rfl ?_
  intro p e s m args below meth c s₁ B hml hv
  obtain ⟨ha, hP, hK⟩ := hv
  have hx := B.exec
  have hb := B.bytes
  have hr := B.returns
  have hts := atoms_spec (ws := wsX1_meet) B.pre
  have hown : s.vm.findClass RX1 = some m.cls := findClass_of_methodNamed B.named
  have hlocks := B.notSynchronized
  have hl := lv_entry ([.ref g0, .int (nI i), .long a, .long b]) (n := 6) (Nat.le_of_ble_eq_true rfl)
  refine W.eq (show entryFrame m args 6 = entryFrame m ([.ref g0, .int (nI i), .long a, .long b] : List Value).toArray 6 by rw [ha]) ?_
  rw [lg_entry_eq]
  generalize (lg_sl ([.ref g0, .int (nI i), .long a, .long b]) ++ List.replicate (6 - (lg_sl ([.ref g0, .int (nI i), .long a, .long b])).length) Slot.unset).toArray = ls at hl ⊢
  have hl : lv_has ls 6 [(0, .ref g0), (1, .int (nI i)), (2, .long a), (4, .long b)] := hl
  generalize hQ : MQ below (vp_Si (fun r : Int32 => (r = 1 ∧ pt_sh (fc i) (fv i) (a &&& pt_mk n) (b &&& pt_mk n)) ∨ (r = 0 ∧ ¬ pt_sh (fc i) (fv i) (a &&& pt_mk n) (b &&& pt_mk n)))) args s 0 0 (fun _ => False) = Q
  refine lv_aload_n hx hb dX1_meet_0 rfl (lv_at hl 0 rfl) ?_
  refine va_get (D := (dC, dI)) (ci := 1) (v := .ref b0) (C := RX1) (T := TX1) (N := 7) hx hb hts (fun w h => List.mem_cons_of_mem _ (pt_wsX1 w h)) hown hK hP 0 rfl rfl 1 (by decide) (hts _ (List.mem_cons_of_mem _ pw162)) (fun _ h9 => h9) rfl dX1_meet_1 ?_
  refine lv_iload_n hx hb dX1_meet_4 rfl (lv_at hl 1 rfl) ?_
  refine va_lald hx hb hK hP 2 1 rfl rfl (vp_in_nI hi (by decide)) dX1_meet_5 ?_
  rw [nI_clamp (by omega)]
  refine lv_lload hx hb dX1_meet_6 (lv_at hl 3 rfl) ?_
  refine lv_lxor hx hb dX1_meet_8 ?_
  refine lv_aload_n hx hb dX1_meet_9 rfl (lv_at hl 0 rfl) ?_
  refine va_get (D := (dC, dI)) (ci := 1) (v := .ref a0) (C := RX1) (T := TX1) (N := 7) hx hb hts (fun w h => List.mem_cons_of_mem _ (pt_wsX1 w h)) hown hK hP 0 rfl rfl 0 (by decide) (hts _ (List.mem_cons_of_mem _ pw161)) (fun _ h9 => h9) rfl dX1_meet_10 ?_
  refine lv_iload_n hx hb dX1_meet_13 rfl (lv_at hl 1 rfl) ?_
  refine va_lald hx hb hK hP 1 0 rfl rfl (vp_in_nI hi (by decide)) dX1_meet_14 ?_
  rw [nI_clamp (by omega)]
  refine lv_land hx hb dX1_meet_15 ?_
  refine lv_lload_n hx hb dX1_meet_16 rfl (lv_at hl 2 rfl) ?_
  refine lv_land hx hb dX1_meet_17 ?_
  refine lv_aload_n hx hb dX1_meet_18 rfl (lv_at hl 0 rfl) ?_
  refine vp_callSl (W.runV (As := []) (rest := [.long ((((fv i) ^^^ b) &&& (fc i)) &&& a)]) ⟨hx, hb, hml, hown, hts⟩ (c_mmask l dC dI g0 a0 b0 ja jb k n fc fv cl su th hn1 hn2) (cwV 0 hts (pt_gV pw194 pw195 pw11 pw18 pw196) rfl rfl rfl (by decide +kernel) ⟨Nat.le_of_ble_eq_true rfl, Nat.le_of_ble_eq_true rfl⟩) ⟨fun a U g mk q => by obtain ⟨q0, qP, qK⟩ := q; exact ⟨q0, qP, va_K.moved (u := U) (U := U.calling g mk a) (Vm.Alike.refl U.vm) qK⟩, va_recv hK hP (ci := 1) (q0 := 0) rfl rfl, fun U hU hW => ⟨rfl, by rw [hU]; exact hP, va_K.moved hW.alike hK⟩⟩ rfl rfl hl.1 rfl (lv_room (Nat.le_of_ble_eq_true rfl)) dX1_meet_19 ⟨Nat.zero_le _, Nat.zero_le _⟩) (fun r1 hw => ?_)
  subst hw
  refine lv_land hx hb dX1_meet_22 ?_
  refine lv_lconst (v := 0) hx hb dX1_meet_23 (by decide) ?_
  refine W.lcmp hx hb dX1_meet_24 ?_
  refine lv_if_ne (tgt := 32) hx hb dX1_meet_25 (by decide) (fun h1 => ?_) (fun h1 => ?_)
  · refine lv_iconst (v := 0) hx hb dX1_meet_32 (by decide) ?_
    rw [← hQ]
    exact W.zret (v := 0) hx hb hr narrow_b0 (fun t ht hW => ⟨0, rfl, Or.inr ⟨rfl, fun z => h1 (pt_cmp0.mpr ((pt_sh_ref _ _ _ _ _).mpr z))⟩, ht⟩) t_nil dX1_meet_33
  · refine lv_iconst (v := 1) hx hb dX1_meet_28 (by decide) ?_
    refine lv_goto (tgt := 33) hx hb dX1_meet_29 (by decide) ?_
    rw [← hQ]
    exact W.zret (v := 1) hx hb hr narrow_b1 (fun t ht hW => ⟨1, rfl, Or.inl ⟨rfl, (pt_sh_ref _ _ _ _ _).mp (pt_cmp0.mp h1)⟩, ht⟩) t_nil dX1_meet_33
set_option maxHeartbeats 4000000 in
set_option maxRecDepth 100000 in
/-- first -/
theorem c_first (l : Launch) (dC : Nat → ClassId) (dI : Nat → Nat → Nat) (g0 a0 b0 : Nat) (ja jb : ClassId) (k n : Nat) (fc fv : Nat → Int64) (cl su th : Int32) (a b : Int64) (hk : k ≤ 512) (hn1 : 1 ≤ n) (hn2 : n ≤ 64) : Met l yX1_first wsX1_first ({ frames := 2, cells := 0, slots := 0, locals := 45 }) (va_Pc [.ref g0, .long a, .long b] (fun U => va_P (dC, dI) vwCl [(g0, .inr (1, [.ref a0, .ref b0, .int (nI k), .int (nI n), .int cl, .int su, .int th])), (a0, .inl (ja, 512, .inr (.inl fc))), (b0, .inl (jb, 512, .inr (.inl fv)))] U.heap ∧ va_K (dC, dI) vwCl [(ja, .long), (jb, .long)] U)) (vp_Si (fun r : Int32 => pt_F (fun j => pt_sh (fc j) (fv j) (a &&& pt_mk n) (b &&& pt_mk n)) k r)) 0 0 (fun _ => False) := by
  refine Met.ofW (cc := cX1_first) (maxL := 6) (ret := (some .int)) (by decide) rfl ?_
  intro p e s m args below meth c s₁ B hml hv
  obtain ⟨ha, hP, hK⟩ := hv
  have hx := B.exec
  have hb := B.bytes
  have hr := B.returns
  have hts := atoms_spec (ws := wsX1_first) B.pre
  have hown : s.vm.findClass RX1 = some m.cls := findClass_of_methodNamed B.named
  have hlocks := B.notSynchronized
  have hl := lv_entry ([.ref g0, .long a, .long b]) (n := 6) (Nat.le_of_ble_eq_true rfl)
  refine W.eq (show entryFrame m args 6 = entryFrame m ([.ref g0, .long a, .long b] : List Value).toArray 6 by rw [ha]) ?_
  rw [lg_entry_eq]
  generalize (lg_sl ([.ref g0, .long a, .long b]) ++ List.replicate (6 - (lg_sl ([.ref g0, .long a, .long b])).length) Slot.unset).toArray = ls at hl ⊢
  have hl : lv_has ls 6 [(0, .ref g0), (1, .long a), (3, .long b)] := hl
  generalize hQ : MQ below (vp_Si (fun r : Int32 => pt_F (fun j => pt_sh (fc j) (fv j) (a &&& pt_mk n) (b &&& pt_mk n)) k r)) args s 0 0 (fun _ => False) = Q
  refine lv_iconst (v := 0) hx hb dX1_first_0 (by decide) ?_
  refine lv_istore (lv' := [(5, .int 0), (0, .ref g0), (1, .long a), (3, .long b)]) hx hb dX1_first_1 hl (by decide) rfl (fun ls hl => ?_)
  have loop : ∀ (d i : Nat) (ls : Array Slot), k - i = d → i ≤ k → (∀ j, j < i → ¬ pt_sh (fc j) (fv j) (a &&& pt_mk n) (b &&& pt_mk n)) → lv_has ls 6 [(5, .int (nI i)), (0, .ref g0), (1, .long a), (3, .long b)] → W p l e (headSpec wsX1_first ({ frames := 2, cells := 0, slots := 0, locals := 45 })).room s m args below meth c s.heap [] 0 0 Q (F0 m 3 ls []) := by
    intro d
    induction d with
    | zero =>
      intro i ls hd hik hno hl
      refine lv_iload hx hb dX1_first_3 (lv_at hl 0 rfl) ?_
      refine lv_aload_n hx hb dX1_first_5 rfl (lv_at hl 1 rfl) ?_
      refine va_get (D := (dC, dI)) (ci := 1) (v := .int (nI k)) (C := RX1) (T := TX1) (N := 7) hx hb hts (fun w h => List.mem_cons_of_mem _ (pt_wsX1 w h)) hown hK hP 0 rfl rfl 2 (by decide) (hts _ (List.mem_cons_of_mem _ pw163)) (fun _ h9 => h9) rfl dX1_first_6 ?_
      refine lv_icmp_ge (tgt := 32) hx hb dX1_first_9 (by decide) (fun h1 => ?_) (fun h1 => absurd (nI_le (by omega) (by omega)) h1)
      refine lv_iconst (v := (-1)) hx hb dX1_first_32 (by decide) ?_
      rw [← hQ]
      exact W.iret (v := (-1)) hx hb hr (fun t ht hW => ⟨(-1), rfl, Or.inl ⟨rfl, fun j hj => hno j (by omega)⟩, ht⟩) t_nil dX1_first_33
    | succ d ih =>
      intro i ls hd hik hno hl
      refine lv_iload hx hb dX1_first_3 (lv_at hl 0 rfl) ?_
      refine lv_aload_n hx hb dX1_first_5 rfl (lv_at hl 1 rfl) ?_
      refine va_get (D := (dC, dI)) (ci := 1) (v := .int (nI k)) (C := RX1) (T := TX1) (N := 7) hx hb hts (fun w h => List.mem_cons_of_mem _ (pt_wsX1 w h)) hown hK hP 0 rfl rfl 2 (by decide) (hts _ (List.mem_cons_of_mem _ pw163)) (fun _ h9 => h9) rfl dX1_first_6 ?_
      refine lv_icmp_ge (tgt := 32) hx hb dX1_first_9 (by decide) (fun h1 => absurd h1 (nI_ge (by omega) (by omega))) (fun h1 => ?_)
      refine lv_aload_n hx hb dX1_first_12 rfl (lv_at hl 1 rfl) ?_
      refine lv_iload hx hb dX1_first_13 (lv_at hl 0 rfl) ?_
      refine lv_lload_n hx hb dX1_first_15 rfl (lv_at hl 2 rfl) ?_
      refine lv_lload_n hx hb dX1_first_16 rfl (lv_at hl 3 rfl) ?_
      refine vp_callSi (W.runV (As := [.int (nI i), .long a, .long b]) (rest := []) ⟨hx, hb, hml, hown, hts⟩ (c_meet l dC dI g0 a0 b0 ja jb k n fc fv cl su th i a b (by omega) hn1 hn2) (cwV 3 hts (pt_gV pw200 pw201 pw13 pw18 pw202) rfl rfl rfl (by decide +kernel) ⟨Nat.le_of_ble_eq_true rfl, Nat.le_of_ble_eq_true rfl⟩) ⟨fun a U g mk q => by obtain ⟨q0, qP, qK⟩ := q; exact ⟨q0, qP, va_K.moved (u := U) (U := U.calling g mk a) (Vm.Alike.refl U.vm) qK⟩, va_recv hK hP (ci := 1) (q0 := 0) rfl rfl, fun U hU hW => ⟨rfl, by rw [hU]; exact hP, va_K.moved hW.alike hK⟩⟩ rfl rfl hl.1 rfl (lv_room (Nat.le_of_ble_eq_true rfl)) dX1_first_17 ⟨Nat.zero_le _, Nat.zero_le _⟩) (fun r1 hw => ?_)
      rcases hw with ⟨rfl, hs⟩ | ⟨rfl, hs⟩
      · refine lv_if_eq (tgt := 26) hx hb dX1_first_20 (by decide) (fun h2 => absurd h2 (by decide)) (fun h2 => ?_)
        refine lv_iload hx hb dX1_first_23 (lv_at hl 0 rfl) ?_
        rw [← hQ]
        exact W.iret (v := nI i) hx hb hr (fun t ht hW => ⟨nI i, rfl, Or.inr ⟨i, by omega, hs, hno, rfl⟩, ht⟩) t_nil dX1_first_25
      · refine lv_if_eq (tgt := 26) hx hb dX1_first_20 (by decide) (fun h2 => ?_) (fun h2 => absurd rfl h2)
        refine lv_iinc (v := nI (i + 1)) (lv' := [(5, .int (nI (i + 1))), (0, .ref g0), (1, .long a), (3, .long b)]) hx hb dX1_first_26 hl (k := 0) rfl (by rw [nI_succ]; rfl) (by decide) rfl (fun ls hl => ?_)
        refine lv_goto (tgt := 3) hx hb dX1_first_29 (by decide) ?_
        exact ih (i + 1) ls (by omega) (by omega) (lt_s hno hs) (lv_sub hl [0, 1, 2, 3] rfl)
  exact loop k 0 ls (by omega) (by omega) lt_0 (lv_sub hl [0, 1, 2, 3] rfl)
set_option maxHeartbeats 4000000 in
set_option maxRecDepth 100000 in
/-- the reference: none(c, w) -/
theorem c_none (l : Launch) (dC : Nat → ClassId) (dI : Nat → Nat → Nat) (g0 a0 b0 : Nat) (ja jb : ClassId) (k n : Nat) (fc fv : Nat → Int64) (cl su th : Int32) (a b : Int64) (hI : pt_I k n fc fv) : Met l yX1_none wsX1_none ({ frames := 2, cells := 0, slots := 0, locals := 45 }) (va_Pc [.ref g0, .long a, .long b] (fun U => va_P (dC, dI) vwCl [(g0, .inr (1, [.ref a0, .ref b0, .int (nI k), .int (nI n), .int cl, .int su, .int th])), (a0, .inl (ja, 512, .inr (.inl fc))), (b0, .inl (jb, 512, .inr (.inl fv)))] U.heap ∧ va_K (dC, dI) vwCl [(ja, .long), (jb, .long)] U)) (vp_Sl (fun r : Int64 => r = pt_fw n fc fv (a &&& pt_mk n) (b &&& pt_mk n) k)) 0 0 (fun _ => False) := by
  refine Met.ofW (cc := cX1_none) (maxL := 8) (ret := (some .long)) (by decide) rfl ?_
  intro p e s m args below meth c s₁ B hml hv
  obtain ⟨ha, hP, hK⟩ := hv
  have hx := B.exec
  have hb := B.bytes
  have hr := B.returns
  have hts := atoms_spec (ws := wsX1_none) B.pre
  have hown : s.vm.findClass RX1 = some m.cls := findClass_of_methodNamed B.named
  have hlocks := B.notSynchronized
  have hl := lv_entry ([.ref g0, .long a, .long b]) (n := 8) (Nat.le_of_ble_eq_true rfl)
  refine W.eq (show entryFrame m args 8 = entryFrame m ([.ref g0, .long a, .long b] : List Value).toArray 8 by rw [ha]) ?_
  rw [lg_entry_eq]
  generalize (lg_sl ([.ref g0, .long a, .long b]) ++ List.replicate (8 - (lg_sl ([.ref g0, .long a, .long b])).length) Slot.unset).toArray = ls at hl ⊢
  have hl : lv_has ls 8 [(0, .ref g0), (1, .long a), (3, .long b)] := hl
  generalize hQ : MQ below (vp_Sl (fun r : Int64 => r = pt_fw n fc fv (a &&& pt_mk n) (b &&& pt_mk n) k)) args s 0 0 (fun _ => False) = Q
  have hn1 := hI.2.1
  have hn2 := hI.2.2.1
  have hk := hI.1
  refine lv_aload_n hx hb dX1_none_0 rfl (lv_at hl 0 rfl) ?_
  refine va_get (D := (dC, dI)) (ci := 1) (v := .int (nI n)) (C := RX1) (T := TX1) (N := 7) hx hb hts (fun w h => List.mem_cons_of_mem _ (pt_wsX1 w h)) hown hK hP 0 rfl rfl 3 (by decide) (hts _ (List.mem_cons_of_mem _ pw164)) (fun _ h9 => h9) rfl dX1_none_1 ?_
  refine lv_lload_n hx hb dX1_none_4 rfl (lv_at hl 1 rfl) ?_
  refine lv_aload_n hx hb dX1_none_5 rfl (lv_at hl 0 rfl) ?_
  refine vp_callSl (W.runV (As := []) (rest := [.long a, .int (nI n)]) ⟨hx, hb, hml, hown, hts⟩ (c_mmask l dC dI g0 a0 b0 ja jb k n fc fv cl su th hn1 hn2) (cwV 0 hts (pt_gV pw194 pw195 pw11 pw18 pw196) rfl rfl rfl (by decide +kernel) ⟨Nat.le_of_ble_eq_true rfl, Nat.le_of_ble_eq_true rfl⟩) ⟨fun a U g mk q => by obtain ⟨q0, qP, qK⟩ := q; exact ⟨q0, qP, va_K.moved (u := U) (U := U.calling g mk a) (Vm.Alike.refl U.vm) qK⟩, va_recv hK hP (ci := 1) (q0 := 0) rfl rfl, fun U hU hW => ⟨rfl, by rw [hU]; exact hP, va_K.moved hW.alike hK⟩⟩ rfl rfl hl.1 rfl (lv_room (Nat.le_of_ble_eq_true rfl)) dX1_none_6 ⟨Nat.zero_le _, Nat.zero_le _⟩) (fun r1 hw => ?_)
  subst hw
  refine lv_land hx hb dX1_none_9 ?_
  refine vp_callSi (W.runS (As := [.long (a &&& (pt_mk n))]) (rest := [.int (nI n)]) ⟨hx, hb, hml, hown, hts⟩ (c_bits l dC dI (a &&& pt_mk n)) (va_cwS 1 hts (pt_gS pw229 pw230 pw18 pw231) rfl rfl rfl (by decide +kernel) ⟨Nat.le_of_ble_eq_true rfl, Nat.le_of_ble_eq_true rfl⟩) ⟨fun a U g mk q => by obtain ⟨q0, qP, qK⟩ := q; exact ⟨q0, qP, va_K.moved (u := U) (U := U.calling g mk a) (Vm.Alike.refl U.vm) qK⟩, fun U hU hW => ⟨rfl, by rw [hU]; exact (hP.sub (ws' := ([] : va_W)) [] rfl), va_K.moved hW.alike (hK.sub (tys' := []) [] rfl)⟩⟩ rfl rfl hl.1 rfl (lv_room (Nat.le_of_ble_eq_true rfl)) dX1_none_10 ⟨Nat.zero_le _, Nat.zero_le _⟩) (fun r2 hw => ?_)
  subst hw
  refine lv_isub hx hb dX1_none_13 ?_
  refine vp_callSl (W.runS (As := [.int ((nI n) - (pt_bits (a &&& pt_mk n)))]) (rest := []) ⟨hx, hb, hml, hown, hts⟩ (c_power l dC dI (nI n - pt_bits (a &&& pt_mk n))) (va_cwS 1 hts (pt_gS pw232 pw233 pw18 pw234) rfl rfl rfl (by decide +kernel) ⟨Nat.le_of_ble_eq_true rfl, Nat.le_of_ble_eq_true rfl⟩) ⟨fun a U g mk q => by obtain ⟨q0, qP, qK⟩ := q; exact ⟨q0, qP, va_K.moved (u := U) (U := U.calling g mk a) (Vm.Alike.refl U.vm) qK⟩, fun U hU hW => ⟨rfl, by rw [hU]; exact (hP.sub (ws' := ([] : va_W)) [] rfl), va_K.moved hW.alike (hK.sub (tys' := []) [] rfl)⟩⟩ rfl rfl hl.1 rfl (lv_room (Nat.le_of_ble_eq_true rfl)) dX1_none_14 ⟨Nat.zero_le _, Nat.zero_le _⟩) (fun r3 hw => ?_)
  rw [pt_words_ref hn2] at hw
  subst hw
  refine lv_lstore (lv' := [(5, .long (pt_words n (a &&& pt_mk n))), (0, .ref g0), (1, .long a), (3, .long b)]) hx hb dX1_none_17 hl (by decide) rfl (fun ls hl => ?_)
  refine lv_iconst (v := 0) hx hb dX1_none_19 (by decide) ?_
  refine lv_istore (lv' := [(7, .int 0), (5, .long (pt_words n (a &&& pt_mk n))), (0, .ref g0), (1, .long a), (3, .long b)]) hx hb dX1_none_20 hl (by decide) rfl (fun ls hl => ?_)
  have loop : ∀ (d i : Nat) (ls : Array Slot), k - i = d → i ≤ k → lv_has ls 8 [(7, .int (nI i)), (5, .long (pt_fw n fc fv (a &&& pt_mk n) (b &&& pt_mk n) i)), (0, .ref g0), (1, .long a), (3, .long b)] → W p l e (headSpec wsX1_none ({ frames := 2, cells := 0, slots := 0, locals := 45 })).room s m args below meth c s.heap [] 0 0 Q (F0 m 22 ls []) := by
    intro d
    induction d with
    | zero =>
      intro i ls hd hik hl
      have hik2 : i = k := by omega
      refine lv_iload hx hb dX1_none_22 (lv_at hl 0 rfl) ?_
      refine lv_aload_n hx hb dX1_none_24 rfl (lv_at hl 2 rfl) ?_
      refine va_get (D := (dC, dI)) (ci := 1) (v := .int (nI k)) (C := RX1) (T := TX1) (N := 7) hx hb hts (fun w h => List.mem_cons_of_mem _ (pt_wsX1 w h)) hown hK hP 0 rfl rfl 2 (by decide) (hts _ (List.mem_cons_of_mem _ pw163)) (fun _ h9 => h9) rfl dX1_none_25 ?_
      refine lv_icmp_ge (tgt := 78) hx hb dX1_none_28 (by decide) (fun h1 => ?_) (fun h1 => absurd (nI_le (by omega) (by omega)) h1)
      refine lv_lload hx hb dX1_none_78 (lv_at hl 1 rfl) ?_
      rw [← hQ]
      exact W.lret (v := pt_fw n fc fv (a &&& pt_mk n) (b &&& pt_mk n) i) hx hb hr (fun t ht hW => ⟨pt_fw n fc fv (a &&& pt_mk n) (b &&& pt_mk n) i, rfl, by rw [hik2], ht⟩) t_nil dX1_none_80
    | succ d ih =>
      intro i ls hd hik hl
      refine lv_iload hx hb dX1_none_22 (lv_at hl 0 rfl) ?_
      refine lv_aload_n hx hb dX1_none_24 rfl (lv_at hl 2 rfl) ?_
      refine va_get (D := (dC, dI)) (ci := 1) (v := .int (nI k)) (C := RX1) (T := TX1) (N := 7) hx hb hts (fun w h => List.mem_cons_of_mem _ (pt_wsX1 w h)) hown hK hP 0 rfl rfl 2 (by decide) (hts _ (List.mem_cons_of_mem _ pw163)) (fun _ h9 => h9) rfl dX1_none_25 ?_
      refine lv_icmp_ge (tgt := 78) hx hb dX1_none_28 (by decide) (fun h1 => absurd h1 (nI_ge (by omega) (by omega))) (fun h1 => ?_)
      refine lv_aload_n hx hb dX1_none_31 rfl (lv_at hl 2 rfl) ?_
      refine lv_iload hx hb dX1_none_32 (lv_at hl 0 rfl) ?_
      refine lv_lload_n hx hb dX1_none_34 rfl (lv_at hl 3 rfl) ?_
      refine lv_lload_n hx hb dX1_none_35 rfl (lv_at hl 4 rfl) ?_
      refine vp_callSi (W.runV (As := [.int (nI i), .long a, .long b]) (rest := []) ⟨hx, hb, hml, hown, hts⟩ (c_meet l dC dI g0 a0 b0 ja jb k n fc fv cl su th i a b (by omega) hn1 hn2) (cwV 3 hts (pt_gV pw200 pw201 pw13 pw18 pw202) rfl rfl rfl (by decide +kernel) ⟨Nat.le_of_ble_eq_true rfl, Nat.le_of_ble_eq_true rfl⟩) ⟨fun a U g mk q => by obtain ⟨q0, qP, qK⟩ := q; exact ⟨q0, qP, va_K.moved (u := U) (U := U.calling g mk a) (Vm.Alike.refl U.vm) qK⟩, va_recv hK hP (ci := 1) (q0 := 0) rfl rfl, fun U hU hW => ⟨rfl, by rw [hU]; exact hP, va_K.moved hW.alike hK⟩⟩ rfl rfl hl.1 rfl (lv_room (Nat.le_of_ble_eq_true rfl)) dX1_none_36 ⟨Nat.zero_le _, Nat.zero_le _⟩) (fun r4 hw => ?_)
      rcases hw with ⟨rfl, hs⟩ | ⟨rfl, hs⟩
      · refine lv_if_eq (tgt := 72) hx hb dX1_none_39 (by decide) (fun h2 => absurd h2 (by decide)) (fun h2 => ?_)
        refine lv_lload hx hb dX1_none_42 (lv_at hl 1 rfl) ?_
        refine lv_aload_n hx hb dX1_none_44 rfl (lv_at hl 2 rfl) ?_
        refine va_get (D := (dC, dI)) (ci := 1) (v := .int (nI n)) (C := RX1) (T := TX1) (N := 7) hx hb hts (fun w h => List.mem_cons_of_mem _ (pt_wsX1 w h)) hown hK hP 0 rfl rfl 3 (by decide) (hts _ (List.mem_cons_of_mem _ pw164)) (fun _ h9 => h9) rfl dX1_none_45 ?_
        refine lv_lload_n hx hb dX1_none_48 rfl (lv_at hl 3 rfl) ?_
        refine lv_aload_n hx hb dX1_none_49 rfl (lv_at hl 2 rfl) ?_
        refine va_get (D := (dC, dI)) (ci := 1) (v := .ref a0) (C := RX1) (T := TX1) (N := 7) hx hb hts (fun w h => List.mem_cons_of_mem _ (pt_wsX1 w h)) hown hK hP 0 rfl rfl 0 (by decide) (hts _ (List.mem_cons_of_mem _ pw161)) (fun _ h9 => h9) rfl dX1_none_50 ?_
        refine lv_iload hx hb dX1_none_53 (lv_at hl 0 rfl) ?_
        refine va_lald hx hb hK hP 1 0 rfl rfl (vp_in_nI (by omega) (by decide)) dX1_none_55 ?_
        rw [nI_clamp (by omega)]
        refine lv_lor hx hb dX1_none_56 ?_
        refine lv_aload_n hx hb dX1_none_57 rfl (lv_at hl 2 rfl) ?_
        refine vp_callSl (W.runV (As := []) (rest := [.long (a ||| (fc i)), .int (nI n), .long (pt_fw n fc fv (a &&& pt_mk n) (b &&& pt_mk n) i)]) ⟨hx, hb, hml, hown, hts⟩ (c_mmask l dC dI g0 a0 b0 ja jb k n fc fv cl su th hn1 hn2) (cwV 0 hts (pt_gV pw194 pw195 pw11 pw18 pw196) rfl rfl rfl (by decide +kernel) ⟨Nat.le_of_ble_eq_true rfl, Nat.le_of_ble_eq_true rfl⟩) ⟨fun a U g mk q => by obtain ⟨q0, qP, qK⟩ := q; exact ⟨q0, qP, va_K.moved (u := U) (U := U.calling g mk a) (Vm.Alike.refl U.vm) qK⟩, va_recv hK hP (ci := 1) (q0 := 0) rfl rfl, fun U hU hW => ⟨rfl, by rw [hU]; exact hP, va_K.moved hW.alike hK⟩⟩ rfl rfl hl.1 rfl (lv_room (Nat.le_of_ble_eq_true rfl)) dX1_none_58 ⟨Nat.zero_le _, Nat.zero_le _⟩) (fun r5 hw => ?_)
        subst hw
        refine lv_land hx hb dX1_none_61 ?_
        refine vp_callSi (W.runS (As := [.long ((a ||| (fc i)) &&& (pt_mk n))]) (rest := [.int (nI n), .long (pt_fw n fc fv (a &&& pt_mk n) (b &&& pt_mk n) i)]) ⟨hx, hb, hml, hown, hts⟩ (c_bits l dC dI ((a ||| fc i) &&& pt_mk n)) (va_cwS 1 hts (pt_gS pw229 pw230 pw18 pw231) rfl rfl rfl (by decide +kernel) ⟨Nat.le_of_ble_eq_true rfl, Nat.le_of_ble_eq_true rfl⟩) ⟨fun a U g mk q => by obtain ⟨q0, qP, qK⟩ := q; exact ⟨q0, qP, va_K.moved (u := U) (U := U.calling g mk a) (Vm.Alike.refl U.vm) qK⟩, fun U hU hW => ⟨rfl, by rw [hU]; exact (hP.sub (ws' := ([] : va_W)) [] rfl), va_K.moved hW.alike (hK.sub (tys' := []) [] rfl)⟩⟩ rfl rfl hl.1 rfl (lv_room (Nat.le_of_ble_eq_true rfl)) dX1_none_62 ⟨Nat.zero_le _, Nat.zero_le _⟩) (fun r6 hw => ?_)
        rw [pt_or_ref (hI.2.2.2.1 i (by omega))] at hw
        subst hw
        refine lv_isub hx hb dX1_none_65 ?_
        refine vp_callSl (W.runS (As := [.int ((nI n) - (pt_bits (fc i ||| (a &&& pt_mk n))))]) (rest := [.long (pt_fw n fc fv (a &&& pt_mk n) (b &&& pt_mk n) i)]) ⟨hx, hb, hml, hown, hts⟩ (c_power l dC dI (nI n - pt_bits (fc i ||| (a &&& pt_mk n)))) (va_cwS 1 hts (pt_gS pw232 pw233 pw18 pw234) rfl rfl rfl (by decide +kernel) ⟨Nat.le_of_ble_eq_true rfl, Nat.le_of_ble_eq_true rfl⟩) ⟨fun a U g mk q => by obtain ⟨q0, qP, qK⟩ := q; exact ⟨q0, qP, va_K.moved (u := U) (U := U.calling g mk a) (Vm.Alike.refl U.vm) qK⟩, fun U hU hW => ⟨rfl, by rw [hU]; exact (hP.sub (ws' := ([] : va_W)) [] rfl), va_K.moved hW.alike (hK.sub (tys' := []) [] rfl)⟩⟩ rfl rfl hl.1 rfl (lv_room (Nat.le_of_ble_eq_true rfl)) dX1_none_66 ⟨Nat.zero_le _, Nat.zero_le _⟩) (fun r7 hw => ?_)
        rw [pt_words_ref hn2] at hw
        subst hw
        refine lv_lsub hx hb dX1_none_69 ?_
        rw [← pt_fw_yes hs]
        refine lv_lstore (lv' := [(5, .long (pt_fw n fc fv (a &&& pt_mk n) (b &&& pt_mk n) (i + 1))), (7, .int (nI i)), (0, .ref g0), (1, .long a), (3, .long b)]) hx hb dX1_none_70 hl (by decide) rfl (fun ls hl => ?_)
        refine lv_iinc (v := nI (i + 1)) (lv' := [(7, .int (nI (i + 1))), (5, .long (pt_fw n fc fv (a &&& pt_mk n) (b &&& pt_mk n) (i + 1))), (0, .ref g0), (1, .long a), (3, .long b)]) hx hb dX1_none_72 hl (k := 1) rfl (by rw [nI_succ]; rfl) (by decide) rfl (fun ls hl => ?_)
        refine lv_goto (tgt := 22) hx hb dX1_none_75 (by decide) ?_
        exact ih (i + 1) ls (by omega) (by omega) (lv_sub hl [0, 1, 2, 3, 4] rfl)
      · refine lv_if_eq (tgt := 72) hx hb dX1_none_39 (by decide) (fun h2 => ?_) (fun h2 => absurd rfl h2)
        refine lv_iinc (v := nI (i + 1)) (lv' := [(7, .int (nI (i + 1))), (5, .long (pt_fw n fc fv (a &&& pt_mk n) (b &&& pt_mk n) i)), (0, .ref g0), (1, .long a), (3, .long b)]) hx hb dX1_none_72 hl (k := 0) rfl (by rw [nI_succ]; rfl) (by decide) rfl (fun ls hl => ?_)
        refine lv_goto (tgt := 22) hx hb dX1_none_75 (by decide) ?_
        rw [← pt_fw_no hs] at hl
        exact ih (i + 1) ls (by omega) (by omega) (lv_sub hl [0, 1, 2, 3, 4] rfl)
  exact loop k 0 ls (by omega) (by omega) (lv_sub hl [0, 1, 2, 3, 4] rfl)
set_option maxHeartbeats 4000000 in
set_option maxRecDepth 100000 in
/-- the reference: some(c, w) -/
theorem c_some (l : Launch) (dC : Nat → ClassId) (dI : Nat → Nat → Nat) (g0 a0 b0 : Nat) (ja jb : ClassId) (k n : Nat) (fc fv : Nat → Int64) (cl su th : Int32) (a b : Int64) (hI : pt_I k n fc fv) (hb0 : ¬ pt_bits (a &&& pt_mk n) = 0) : Met l yX1_some wsX1_some ({ frames := 3, cells := 0, slots := 0, locals := 72 }) (va_Pc [.ref g0, .long a, .long b] (fun U => va_P (dC, dI) vwCl [(g0, .inr (1, [.ref a0, .ref b0, .int (nI k), .int (nI n), .int cl, .int su, .int th])), (a0, .inl (ja, 512, .inr (.inl fc))), (b0, .inl (jb, 512, .inr (.inl fv)))] U.heap ∧ va_K (dC, dI) vwCl [(ja, .long), (jb, .long)] U)) (vp_Si (fun r : Int32 => (r = 1 ∧ ¬ pt_fw n fc fv (a &&& pt_mk n) (b &&& pt_mk n) k = 0) ∨ (r = 0 ∧ pt_fw n fc fv (a &&& pt_mk n) (b &&& pt_mk n) k = 0))) 0 0 (fun _ => False) := by
  refine Met.ofW (cc := cX1_some) (maxL := 5) (ret := (some .boolean)) (by decide) rfl ?_
  intro p e s m args below meth c s₁ B hml hv
  obtain ⟨ha, hP, hK⟩ := hv
  have hx := B.exec
  have hb := B.bytes
  have hr := B.returns
  have hts := atoms_spec (ws := wsX1_some) B.pre
  have hown : s.vm.findClass RX1 = some m.cls := findClass_of_methodNamed B.named
  have hlocks := B.notSynchronized
  have hl := lv_entry ([.ref g0, .long a, .long b]) (n := 5) (Nat.le_of_ble_eq_true rfl)
  refine W.eq (show entryFrame m args 5 = entryFrame m ([.ref g0, .long a, .long b] : List Value).toArray 5 by rw [ha]) ?_
  rw [lg_entry_eq]
  generalize (lg_sl ([.ref g0, .long a, .long b]) ++ List.replicate (5 - (lg_sl ([.ref g0, .long a, .long b])).length) Slot.unset).toArray = ls at hl ⊢
  have hl : lv_has ls 5 [(0, .ref g0), (1, .long a), (3, .long b)] := hl
  generalize hQ : MQ below (vp_Si (fun r : Int32 => (r = 1 ∧ ¬ pt_fw n fc fv (a &&& pt_mk n) (b &&& pt_mk n) k = 0) ∨ (r = 0 ∧ pt_fw n fc fv (a &&& pt_mk n) (b &&& pt_mk n) k = 0))) args s 0 0 (fun _ => False) = Q
  have hn1 := hI.2.1
  have hn2 := hI.2.2.1
  refine lv_aload_n hx hb dX1_some_0 rfl (lv_at hl 0 rfl) ?_
  refine lv_lload_n hx hb dX1_some_1 rfl (lv_at hl 1 rfl) ?_
  refine lv_lload_n hx hb dX1_some_2 rfl (lv_at hl 2 rfl) ?_
  refine vp_callSl (W.runV (As := [.long a, .long b]) (rest := []) ⟨hx, hb, hml, hown, hts⟩ (c_none l dC dI g0 a0 b0 ja jb k n fc fv cl su th a b hI) (cwV 2 hts (pt_gV pw226 pw227 pw14 pw18 pw228) rfl rfl rfl (by decide +kernel) ⟨Nat.le_of_ble_eq_true rfl, Nat.le_of_ble_eq_true rfl⟩) ⟨fun a U g mk q => by obtain ⟨q0, qP, qK⟩ := q; exact ⟨q0, qP, va_K.moved (u := U) (U := U.calling g mk a) (Vm.Alike.refl U.vm) qK⟩, va_recv hK hP (ci := 1) (q0 := 0) rfl rfl, fun U hU hW => ⟨rfl, by rw [hU]; exact hP, va_K.moved hW.alike hK⟩⟩ rfl rfl hl.1 rfl (lv_room (Nat.le_of_ble_eq_true rfl)) dX1_some_3 ⟨Nat.zero_le _, Nat.zero_le _⟩) (fun r1 hw => ?_)
  subst hw
  refine lv_lconst (v := 0) hx hb dX1_some_6 (by decide) ?_
  refine W.lcmp hx hb dX1_some_7 ?_
  refine lv_if_ne (tgt := 39) hx hb dX1_some_8 (by decide) (fun h1 => ?_) (fun h1 => ?_)
  · refine lv_iconst (v := 1) hx hb dX1_some_39 (by decide) ?_
    refine lv_goto (tgt := 44) hx hb dX1_some_40 (by decide) ?_
    rw [← hQ]
    exact W.zret (v := 1) hx hb hr narrow_b1 (fun t ht hW => ⟨1, rfl, Or.inl ⟨rfl, fun z => h1 (pt_cmp0.mpr z)⟩, ht⟩) t_nil dX1_some_44
  · refine lv_lload_n hx hb dX1_some_11 rfl (lv_at hl 1 rfl) ?_
    refine lv_aload_n hx hb dX1_some_12 rfl (lv_at hl 0 rfl) ?_
    refine vp_callSl (W.runV (As := []) (rest := [.long a]) ⟨hx, hb, hml, hown, hts⟩ (c_mmask l dC dI g0 a0 b0 ja jb k n fc fv cl su th hn1 hn2) (cwV 0 hts (pt_gV pw194 pw195 pw11 pw18 pw196) rfl rfl rfl (by decide +kernel) ⟨Nat.le_of_ble_eq_true rfl, Nat.le_of_ble_eq_true rfl⟩) ⟨fun a U g mk q => by obtain ⟨q0, qP, qK⟩ := q; exact ⟨q0, qP, va_K.moved (u := U) (U := U.calling g mk a) (Vm.Alike.refl U.vm) qK⟩, va_recv hK hP (ci := 1) (q0 := 0) rfl rfl, fun U hU hW => ⟨rfl, by rw [hU]; exact hP, va_K.moved hW.alike hK⟩⟩ rfl rfl hl.1 rfl (lv_room (Nat.le_of_ble_eq_true rfl)) dX1_some_13 ⟨Nat.zero_le _, Nat.zero_le _⟩) (fun r2 hw => ?_)
    subst hw
    refine lv_land hx hb dX1_some_16 ?_
    refine vp_callSi (W.runS (As := [.long (a &&& (pt_mk n))]) (rest := []) ⟨hx, hb, hml, hown, hts⟩ (c_bits l dC dI (a &&& pt_mk n)) (va_cwS 1 hts (pt_gS pw229 pw230 pw18 pw231) rfl rfl rfl (by decide +kernel) ⟨Nat.le_of_ble_eq_true rfl, Nat.le_of_ble_eq_true rfl⟩) ⟨fun a U g mk q => by obtain ⟨q0, qP, qK⟩ := q; exact ⟨q0, qP, va_K.moved (u := U) (U := U.calling g mk a) (Vm.Alike.refl U.vm) qK⟩, fun U hU hW => ⟨rfl, by rw [hU]; exact (hP.sub (ws' := ([] : va_W)) [] rfl), va_K.moved hW.alike (hK.sub (tys' := []) [] rfl)⟩⟩ rfl rfl hl.1 rfl (lv_room (Nat.le_of_ble_eq_true rfl)) dX1_some_17 ⟨Nat.zero_le _, Nat.zero_le _⟩) (fun r3 hw => ?_)
    subst hw
    refine lv_if_ne (tgt := 43) hx hb dX1_some_20 (by decide) (fun h2 => ?_) (fun h2 => absurd h2 hb0)
    refine lv_iconst (v := 0) hx hb dX1_some_43 (by decide) ?_
    rw [← hQ]
    exact W.zret (v := 0) hx hb hr narrow_b0 (fun t ht hW => ⟨0, rfl, Or.inr ⟨rfl, pt_cmp0.mp h1⟩, ht⟩) t_nil dX1_some_44
set_option maxHeartbeats 4000000 in
set_option maxRecDepth 100000 in
/-- the reference: thrown() -/
theorem c_thrown (l : Launch) (dC : Nat → ClassId) (dI : Nat → Nat → Nat) (g0 a0 b0 : Nat) (ja jb : ClassId) (k n : Nat) (fc fv : Nat → Int64) (cl su th : Int32)  : Met l yX1_thrown wsX1_thrown ({ frames := 0, cells := 0, slots := 0, locals := 0 }) (va_Pc [.ref g0] (fun U => va_P (dC, dI) vwCl [(g0, .inr (1, [.ref a0, .ref b0, .int (nI k), .int (nI n), .int cl, .int su, .int th])), (a0, .inl (ja, 512, .inr (.inl fc))), (b0, .inl (jb, 512, .inr (.inl fv)))] U.heap ∧ va_K (dC, dI) vwCl [(ja, .long), (jb, .long)] U)) (vp_Si (fun r : Int32 => r = th)) 0 0 (fun _ => False) := by
  refine Met.ofW (cc := cX1_thrown) (maxL := 1) (ret := (some .int)) (by decide) rfl ?_
  intro p e s m args below meth c s₁ B hml hv
  obtain ⟨ha, hP, hK⟩ := hv
  have hx := B.exec
  have hb := B.bytes
  have hr := B.returns
  have hts := atoms_spec (ws := wsX1_thrown) B.pre
  have hown : s.vm.findClass RX1 = some m.cls := findClass_of_methodNamed B.named
  have hlocks := B.notSynchronized
  have hl := lv_entry ([.ref g0]) (n := 1) (Nat.le_of_ble_eq_true rfl)
  refine W.eq (show entryFrame m args 1 = entryFrame m ([.ref g0] : List Value).toArray 1 by rw [ha]) ?_
  rw [lg_entry_eq]
  generalize (lg_sl ([.ref g0]) ++ List.replicate (1 - (lg_sl ([.ref g0])).length) Slot.unset).toArray = ls at hl ⊢
  have hl : lv_has ls 1 [(0, .ref g0)] := hl
  generalize hQ : MQ below (vp_Si (fun r : Int32 => r = th)) args s 0 0 (fun _ => False) = Q
  refine lv_aload_n hx hb dX1_thrown_0 rfl (lv_at hl 0 rfl) ?_
  refine va_get (D := (dC, dI)) (ci := 1) (v := .int th) (C := RX1) (T := TX1) (N := 7) hx hb hts (fun w h => List.mem_cons_of_mem _ (pt_wsX1 w h)) hown hK hP 0 rfl rfl 6 (by decide) (hts _ (List.mem_cons_of_mem _ pw167)) (fun _ h9 => h9) rfl dX1_thrown_1 ?_
  rw [← hQ]
  exact W.iret (v := th) hx hb hr (fun t ht hW => ⟨th, rfl, rfl, ht⟩) t_nil dX1_thrown_4
end
section
set_option maxHeartbeats 4000000 in
set_option maxRecDepth 100000 in
/-- refuseStrayWant(care, want) lets it pass -/
theorem c_refuseStrayWant (l : Launch) (dC : Nat → ClassId) (dI : Nat → Nat → Nat) (h0 c0 w0 : Nat) (kc kw : ClassId) (k n : Nat) (fc fv : Nat → Int64) (cl su : Int32) (a b : Int64) (hst : ¬ pt_stray n a b) : Met l yX0_refuseStrayWant wsX0_refuseStrayWant ({ frames := 0, cells := 0, slots := 0, locals := 0 }) (va_Pc [.ref h0, .long a, .long b] (fun U => va_P (dC, dI) vwCl [(h0, .inr (0, [.ref c0, .ref w0, .int (nI k), .int (nI n), .long (pt_mk n), .int cl, .int su])), (c0, .inl (kc, 512, .inr (.inl fc))), (w0, .inl (kw, 512, .inr (.inl fv)))] U.heap ∧ va_K (dC, dI) vwCl [(kc, .long), (kw, .long)] U)) (va_Sv (fun _ : Unit => True)) 0 0 (fun _ => False) := by
  refine Met.ofW (cc := cX0_refuseStrayWant) (maxL := 5) (ret := none) (by decide) rfl ?_
  intro p e s m args below meth c s₁ B hml hv
  obtain ⟨ha, hP, hK⟩ := hv
  have hx := B.exec
  have hb := B.bytes
  have hr := B.returns
  have hts := atoms_spec (ws := wsX0_refuseStrayWant) B.pre
  have hown : s.vm.findClass RX0 = some m.cls := findClass_of_methodNamed B.named
  have hlocks := B.notSynchronized
  have hl := lv_entry ([.ref h0, .long a, .long b]) (n := 5) (Nat.le_of_ble_eq_true rfl)
  refine W.eq (show entryFrame m args 5 = entryFrame m ([.ref h0, .long a, .long b] : List Value).toArray 5 by rw [ha]) ?_
  rw [lg_entry_eq]
  generalize (lg_sl ([.ref h0, .long a, .long b]) ++ List.replicate (5 - (lg_sl ([.ref h0, .long a, .long b])).length) Slot.unset).toArray = ls at hl ⊢
  have hl : lv_has ls 5 [(0, .ref h0), (1, .long a), (3, .long b)] := hl
  generalize hQ : MQ below (va_Sv (fun _ : Unit => True)) args s 0 0 (fun _ => False) = Q
  refine lv_lload_n hx hb dX0_refuseStrayWant_0 rfl (lv_at hl 2 rfl) ?_
  refine lv_lload_n hx hb dX0_refuseStrayWant_1 rfl (lv_at hl 1 rfl) ?_
  refine lv_ldc2 (v := (-1)) hx hb hown (hts _ (List.mem_cons_of_mem _ pw31)) dX0_refuseStrayWant_2 ?_
  refine lv_lxor hx hb dX0_refuseStrayWant_5 ?_
  refine lv_land hx hb dX0_refuseStrayWant_6 ?_
  refine lv_aload_n hx hb dX0_refuseStrayWant_7 rfl (lv_at hl 0 rfl) ?_
  refine va_get (D := (dC, dI)) (ci := 0) (v := .long (pt_mk n)) (C := RX0) (T := TX0) (N := 7) hx hb hts (fun w h => List.mem_cons_of_mem _ (pt_wsX0 w h)) hown hK hP 0 rfl rfl 4 (by decide) (hts _ (List.mem_cons_of_mem _ pw36)) (fun _ h9 => h9) rfl dX0_refuseStrayWant_8 ?_
  refine lv_land hx hb dX0_refuseStrayWant_11 ?_
  refine lv_lconst (v := 0) hx hb dX0_refuseStrayWant_12 (by decide) ?_
  refine W.lcmp hx hb dX0_refuseStrayWant_13 ?_
  refine lv_if_eq (tgt := 27) hx hb dX0_refuseStrayWant_14 (by decide) (fun h1 => ?_) (fun h1 => absurd (fun z => h1 (pt_cmp0.mpr z)) hst)
  rw [← hQ]
  exact W.vret hx hb hr (fun t ht hW => ⟨rfl, trivial, ht⟩) t_nil dX0_refuseStrayWant_27
set_option maxHeartbeats 4000000 in
set_option maxRecDepth 100000 in
/-- refuseStrayWant(care, want) refuses -/
theorem t_refuseStrayWant (l : Launch) (hl9 : l.stackTraces = false) (dC : Nat → ClassId) (dI : Nat → Nat → Nat) (s0 : State) (h0X : pt_X s0) (h0 c0 w0 : Nat) (kc kw : ClassId) (k n : Nat) (fc fv : Nat → Int64) (cl su : Int32) (a b : Int64) (sz : Nat) (hst : pt_stray n a b) : pt_Thr l yX0_refuseStrayWant wsX0_refuseStrayWant ({ frames := 6, cells := 1, slots := 6, locals := 82 }) (va_Pc [.ref h0, .long a, .long b] (fun U => U.heap.size = sz ∧ va_P (dC, dI) vwCl [(h0, .inr (0, [.ref c0, .ref w0, .int (nI k), .int (nI n), .long (pt_mk n), .int cl, .int su])), (c0, .inl (kc, 512, .inr (.inl fc))), (w0, .inl (kw, 512, .inr (.inl fv)))] U.heap ∧ va_K (dC, dI) vwCl [(kc, .long), (kw, .long)] U ∧ va_D (fun q => s0.heap.size ≤ q) [(h0, .inr (0, [.ref c0, .ref w0, .int (nI k), .int (nI n), .long (pt_mk n), .int cl, .int su])), (c0, .inl (kc, 512, .inr (.inl fc))), (w0, .inl (kw, 512, .inr (.inl fv)))] ∧ pt_ext s0 U)) "java/lang/IllegalArgumentException" (fun st t => va_P (dC, dI) vwCl [(h0, .inr (0, [.ref c0, .ref w0, .int (nI k), .int (nI n), .long (pt_mk n), .int cl, .int su])), (c0, .inl (kc, 512, .inr (.inl fc))), (w0, .inl (kw, 512, .inr (.inl fv)))] t.heap ∧ va_K (dC, dI) vwCl [(kc, .long), (kw, .long)] t ∧ va_D (va_A [(h0, .inr (0, [.ref c0, .ref w0, .int (nI k), .int (nI n), .long (pt_mk n), .int cl, .int su])), (c0, .inl (kc, 512, .inr (.inl fc))), (w0, .inl (kw, 512, .inr (.inl fv)))] sz) [(h0, .inr (0, [.ref c0, .ref w0, .int (nI k), .int (nI n), .long (pt_mk n), .int cl, .int su])), (c0, .inl (kc, 512, .inr (.inl fc))), (w0, .inl (kw, 512, .inr (.inl fv)))] ∧ va_F (va_A [(h0, .inr (0, [.ref c0, .ref w0, .int (nI k), .int (nI n), .long (pt_mk n), .int cl, .int su])), (c0, .inl (kc, 512, .inr (.inl fc))), (w0, .inl (kw, 512, .inr (.inl fv)))] sz) st t) 1 6 (va_A [(h0, .inr (0, [.ref c0, .ref w0, .int (nI k), .int (nI n), .long (pt_mk n), .int cl, .int su])), (c0, .inl (kc, 512, .inr (.inl fc))), (w0, .inl (kw, 512, .inr (.inl fv)))] sz) := by
  refine pt_Thr_ofW (cc := cX0_refuseStrayWant) (maxL := 5) (ret := none) (by decide) rfl ?_
  intro p e s m args below meth c s₁ B hml hnoh hv
  obtain ⟨ha, hsz, hP, hK, hD0, hext⟩ := hv
  subst hsz
  have hx := B.exec
  have hb := B.bytes
  have hr := B.returns
  have hts := atoms_spec (ws := wsX0_refuseStrayWant) B.pre
  have hown : s.vm.findClass RX0 = some m.cls := findClass_of_methodNamed B.named
  have hlocks := B.notSynchronized
  have hl := lv_entry ([.ref h0, .long a, .long b]) (n := 5) (Nat.le_of_ble_eq_true rfl)
  refine W.eq (show entryFrame m args 5 = entryFrame m ([.ref h0, .long a, .long b] : List Value).toArray 5 by rw [ha]) ?_
  rw [lg_entry_eq]
  generalize (lg_sl ([.ref h0, .long a, .long b]) ++ List.replicate (5 - (lg_sl ([.ref h0, .long a, .long b])).length) Slot.unset).toArray = ls at hl ⊢
  have hl : lv_has ls 5 [(0, .ref h0), (1, .long a), (3, .long b)] := hl
  have hD := hD0.self (sz := s.heap.size)
  have hAs : ∀ q : Nat, va_A [(h0, .inr (0, [.ref c0, .ref w0, .int (nI k), .int (nI n), .long (pt_mk n), .int cl, .int su])), (c0, .inl (kc, 512, .inr (.inl fc))), (w0, .inl (kw, 512, .inr (.inl fv)))] s.heap.size q → s0.heap.size ≤ q := pt_As hD0 hext.2.1
  generalize hAe : va_A [(h0, .inr (0, [.ref c0, .ref w0, .int (nI k), .int (nI n), .long (pt_mk n), .int cl, .int su])), (c0, .inl (kc, 512, .inr (.inl fc))), (w0, .inl (kw, 512, .inr (.inl fv)))] s.heap.size = A at hD hAs ⊢
  have hA : ∀ q : Nat, s.heap.size ≤ q → A q := fun q h => by rw [← hAe]; exact Or.inr h
  have hS : va_S A s.heap s.heap [] := va_S.rf
  have hP : va_P (dC, dI) vwCl [(h0, .inr (0, [.ref c0, .ref w0, .int (nI k), .int (nI n), .long (pt_mk n), .int cl, .int su])), (c0, .inl (kc, 512, .inr (.inl fc))), (w0, .inl (kw, 512, .inr (.inl fv)))] s.heap := hP
  generalize hQ : pt_TQ below "java/lang/IllegalArgumentException" (fun st t => va_P (dC, dI) vwCl [(h0, .inr (0, [.ref c0, .ref w0, .int (nI k), .int (nI n), .long (pt_mk n), .int cl, .int su])), (c0, .inl (kc, 512, .inr (.inl fc))), (w0, .inl (kw, 512, .inr (.inl fv)))] t.heap ∧ va_K (dC, dI) vwCl [(kc, .long), (kw, .long)] t ∧ va_D A [(h0, .inr (0, [.ref c0, .ref w0, .int (nI k), .int (nI n), .long (pt_mk n), .int cl, .int su])), (c0, .inl (kc, 512, .inr (.inl fc))), (w0, .inl (kw, 512, .inr (.inl fv)))] ∧ va_F A st t) s 1 6 A = Q
  refine lv_lload_n hx hb dX0_refuseStrayWant_0 rfl (lv_at hl 2 rfl) ?_
  refine lv_lload_n hx hb dX0_refuseStrayWant_1 rfl (lv_at hl 1 rfl) ?_
  refine lv_ldc2 (v := (-1)) hx hb hown (hts _ (List.mem_cons_of_mem _ pw31)) dX0_refuseStrayWant_2 ?_
  refine lv_lxor hx hb dX0_refuseStrayWant_5 ?_
  refine lv_land hx hb dX0_refuseStrayWant_6 ?_
  refine lv_aload_n hx hb dX0_refuseStrayWant_7 rfl (lv_at hl 0 rfl) ?_
  refine va_get (D := (dC, dI)) (ci := 0) (v := .long (pt_mk n)) (C := RX0) (T := TX0) (N := 7) hx hb hts (fun w h => List.mem_cons_of_mem _ (pt_wsX0 w h)) hown hK hP 0 rfl rfl 4 (by decide) (hts _ (List.mem_cons_of_mem _ pw36)) (fun _ h9 => h9) rfl dX0_refuseStrayWant_8 ?_
  refine lv_land hx hb dX0_refuseStrayWant_11 ?_
  refine lv_lconst (v := 0) hx hb dX0_refuseStrayWant_12 (by decide) ?_
  refine W.lcmp hx hb dX0_refuseStrayWant_13 ?_
  refine lv_if_eq (tgt := 27) hx hb dX0_refuseStrayWant_14 (by decide) (fun h1 => absurd (pt_cmp0.mp h1) hst) (fun h1 => ?_)
  obtain ⟨sa, hstr⟩ := h0X.2.1 95 "want is 1 where care is not" (by decide)
  rw [← hQ]
  exact pt_throwS (own := RX0) (cls := "java/lang/IllegalArgumentException") (text := "want is 1 where care is not") (names := ["java/lang/RuntimeException", "java/lang/Exception"]) (ik := 37) (is := 95) (ic := 41) (sa := sa) hx hb hl9 hown (by decide) (by decide) (fun U hU hV w hw => pt_X_at h0X (hext.on hS hAs hU hV) w (pt_xw_in_iae w hw) _) (vk_R.warm hext.1 hstr) (hl.1.trans hml.symm) dX0_refuseStrayWant_17 dX0_refuseStrayWant_20 dX0_refuseStrayWant_21 dX0_refuseStrayWant_23 dX0_refuseStrayWant_26 hnoh (by decide) (by decide) (by decide) (by decide) hlocks (fun t hW hz hk => ⟨hP.kept (fun k q hq => hk _ ((hP k q hq).lt)), va_K.moved hW.alike hK, hD, pt_S_thrown hS hz hk⟩) hS.2.2 (by decide) (by decide)
set_option maxHeartbeats 4000000 in
set_option maxRecDepth 100000 in
/-- refuseAbsent(i) lets it pass -/
theorem c_refuseAbsent (l : Launch) (dC : Nat → ClassId) (dI : Nat → Nat → Nat) (h0 c0 w0 : Nat) (kc kw : ClassId) (k n : Nat) (fc fv : Nat → Int64) (cl su : Int32) (i : Nat) (hi : i < k) (hk : k ≤ 512) : Met l yX0_refuseAbsent wsX0_refuseAbsent ({ frames := 0, cells := 0, slots := 0, locals := 0 }) (va_Pc [.ref h0, .int (nI i)] (fun U => va_P (dC, dI) vwCl [(h0, .inr (0, [.ref c0, .ref w0, .int (nI k), .int (nI n), .long (pt_mk n), .int cl, .int su])), (c0, .inl (kc, 512, .inr (.inl fc))), (w0, .inl (kw, 512, .inr (.inl fv)))] U.heap ∧ va_K (dC, dI) vwCl [(kc, .long), (kw, .long)] U)) (va_Sv (fun _ : Unit => True)) 0 0 (fun _ => False) := by
  refine Met.ofW (cc := cX0_refuseAbsent) (maxL := 2) (ret := none) (by decide) rfl ?_
  intro p e s m args below meth c s₁ B hml hv
  obtain ⟨ha, hP, hK⟩ := hv
  have hx := B.exec
  have hb := B.bytes
  have hr := B.returns
  have hts := atoms_spec (ws := wsX0_refuseAbsent) B.pre
  have hown : s.vm.findClass RX0 = some m.cls := findClass_of_methodNamed B.named
  have hlocks := B.notSynchronized
  have hl := lv_entry ([.ref h0, .int (nI i)]) (n := 2) (Nat.le_of_ble_eq_true rfl)
  refine W.eq (show entryFrame m args 2 = entryFrame m ([.ref h0, .int (nI i)] : List Value).toArray 2 by rw [ha]) ?_
  rw [lg_entry_eq]
  generalize (lg_sl ([.ref h0, .int (nI i)]) ++ List.replicate (2 - (lg_sl ([.ref h0, .int (nI i)])).length) Slot.unset).toArray = ls at hl ⊢
  have hl : lv_has ls 2 [(0, .ref h0), (1, .int (nI i))] := hl
  generalize hQ : MQ below (va_Sv (fun _ : Unit => True)) args s 0 0 (fun _ => False) = Q
  refine lv_iload_n hx hb dX0_refuseAbsent_0 rfl (lv_at hl 1 rfl) ?_
  refine lv_if_lt (tgt := 12) hx hb dX0_refuseAbsent_1 (by decide) (fun h1 => absurd h1 (nI_pos (by omega))) (fun h1 => ?_)
  refine lv_iload_n hx hb dX0_refuseAbsent_4 rfl (lv_at hl 1 rfl) ?_
  refine lv_aload_n hx hb dX0_refuseAbsent_5 rfl (lv_at hl 0 rfl) ?_
  refine va_get (D := (dC, dI)) (ci := 0) (v := .int (nI k)) (C := RX0) (T := TX0) (N := 7) hx hb hts (fun w h => List.mem_cons_of_mem _ (pt_wsX0 w h)) hown hK hP 0 rfl rfl 2 (by decide) (hts _ (List.mem_cons_of_mem _ pw34)) (fun _ h9 => h9) rfl dX0_refuseAbsent_6 ?_
  refine lv_icmp_lt (tgt := 22) hx hb dX0_refuseAbsent_9 (by decide) (fun h2 => ?_) (fun h2 => absurd (nI_lt hi (by omega)) h2)
  rw [← hQ]
  exact W.vret hx hb hr (fun t ht hW => ⟨rfl, trivial, ht⟩) t_nil dX0_refuseAbsent_22
set_option maxHeartbeats 4000000 in
set_option maxRecDepth 100000 in
/-- refuseAbsent(i) refuses -/
theorem t_refuseAbsent (l : Launch) (hl9 : l.stackTraces = false) (dC : Nat → ClassId) (dI : Nat → Nat → Nat) (s0 : State) (h0X : pt_X s0) (h0 c0 w0 : Nat) (kc kw : ClassId) (k n : Nat) (fc fv : Nat → Int64) (cl su : Int32) (x : Int32) (sz : Nat) (hab : x < 0 ∨ ¬ x < nI k) : pt_Thr l yX0_refuseAbsent wsX0_refuseAbsent ({ frames := 6, cells := 1, slots := 6, locals := 82 }) (va_Pc [.ref h0, .int x] (fun U => U.heap.size = sz ∧ va_P (dC, dI) vwCl [(h0, .inr (0, [.ref c0, .ref w0, .int (nI k), .int (nI n), .long (pt_mk n), .int cl, .int su])), (c0, .inl (kc, 512, .inr (.inl fc))), (w0, .inl (kw, 512, .inr (.inl fv)))] U.heap ∧ va_K (dC, dI) vwCl [(kc, .long), (kw, .long)] U ∧ va_D (fun q => s0.heap.size ≤ q) [(h0, .inr (0, [.ref c0, .ref w0, .int (nI k), .int (nI n), .long (pt_mk n), .int cl, .int su])), (c0, .inl (kc, 512, .inr (.inl fc))), (w0, .inl (kw, 512, .inr (.inl fv)))] ∧ pt_ext s0 U)) "java/util/NoSuchElementException" (fun st t => va_P (dC, dI) vwCl [(h0, .inr (0, [.ref c0, .ref w0, .int (nI k), .int (nI n), .long (pt_mk n), .int cl, .int su])), (c0, .inl (kc, 512, .inr (.inl fc))), (w0, .inl (kw, 512, .inr (.inl fv)))] t.heap ∧ va_K (dC, dI) vwCl [(kc, .long), (kw, .long)] t ∧ va_D (va_A [(h0, .inr (0, [.ref c0, .ref w0, .int (nI k), .int (nI n), .long (pt_mk n), .int cl, .int su])), (c0, .inl (kc, 512, .inr (.inl fc))), (w0, .inl (kw, 512, .inr (.inl fv)))] sz) [(h0, .inr (0, [.ref c0, .ref w0, .int (nI k), .int (nI n), .long (pt_mk n), .int cl, .int su])), (c0, .inl (kc, 512, .inr (.inl fc))), (w0, .inl (kw, 512, .inr (.inl fv)))] ∧ va_F (va_A [(h0, .inr (0, [.ref c0, .ref w0, .int (nI k), .int (nI n), .long (pt_mk n), .int cl, .int su])), (c0, .inl (kc, 512, .inr (.inl fc))), (w0, .inl (kw, 512, .inr (.inl fv)))] sz) st t) 1 6 (va_A [(h0, .inr (0, [.ref c0, .ref w0, .int (nI k), .int (nI n), .long (pt_mk n), .int cl, .int su])), (c0, .inl (kc, 512, .inr (.inl fc))), (w0, .inl (kw, 512, .inr (.inl fv)))] sz) := by
  refine pt_Thr_ofW (cc := cX0_refuseAbsent) (maxL := 2) (ret := none) (by decide) rfl ?_
  intro p e s m args below meth c s₁ B hml hnoh hv
  obtain ⟨ha, hsz, hP, hK, hD0, hext⟩ := hv
  subst hsz
  have hx := B.exec
  have hb := B.bytes
  have hr := B.returns
  have hts := atoms_spec (ws := wsX0_refuseAbsent) B.pre
  have hown : s.vm.findClass RX0 = some m.cls := findClass_of_methodNamed B.named
  have hlocks := B.notSynchronized
  have hl := lv_entry ([.ref h0, .int x]) (n := 2) (Nat.le_of_ble_eq_true rfl)
  refine W.eq (show entryFrame m args 2 = entryFrame m ([.ref h0, .int x] : List Value).toArray 2 by rw [ha]) ?_
  rw [lg_entry_eq]
  generalize (lg_sl ([.ref h0, .int x]) ++ List.replicate (2 - (lg_sl ([.ref h0, .int x])).length) Slot.unset).toArray = ls at hl ⊢
  have hl : lv_has ls 2 [(0, .ref h0), (1, .int x)] := hl
  have hD := hD0.self (sz := s.heap.size)
  have hAs : ∀ q : Nat, va_A [(h0, .inr (0, [.ref c0, .ref w0, .int (nI k), .int (nI n), .long (pt_mk n), .int cl, .int su])), (c0, .inl (kc, 512, .inr (.inl fc))), (w0, .inl (kw, 512, .inr (.inl fv)))] s.heap.size q → s0.heap.size ≤ q := pt_As hD0 hext.2.1
  generalize hAe : va_A [(h0, .inr (0, [.ref c0, .ref w0, .int (nI k), .int (nI n), .long (pt_mk n), .int cl, .int su])), (c0, .inl (kc, 512, .inr (.inl fc))), (w0, .inl (kw, 512, .inr (.inl fv)))] s.heap.size = A at hD hAs ⊢
  have hA : ∀ q : Nat, s.heap.size ≤ q → A q := fun q h => by rw [← hAe]; exact Or.inr h
  have hS : va_S A s.heap s.heap [] := va_S.rf
  have hP : va_P (dC, dI) vwCl [(h0, .inr (0, [.ref c0, .ref w0, .int (nI k), .int (nI n), .long (pt_mk n), .int cl, .int su])), (c0, .inl (kc, 512, .inr (.inl fc))), (w0, .inl (kw, 512, .inr (.inl fv)))] s.heap := hP
  generalize hQ : pt_TQ below "java/util/NoSuchElementException" (fun st t => va_P (dC, dI) vwCl [(h0, .inr (0, [.ref c0, .ref w0, .int (nI k), .int (nI n), .long (pt_mk n), .int cl, .int su])), (c0, .inl (kc, 512, .inr (.inl fc))), (w0, .inl (kw, 512, .inr (.inl fv)))] t.heap ∧ va_K (dC, dI) vwCl [(kc, .long), (kw, .long)] t ∧ va_D A [(h0, .inr (0, [.ref c0, .ref w0, .int (nI k), .int (nI n), .long (pt_mk n), .int cl, .int su])), (c0, .inl (kc, 512, .inr (.inl fc))), (w0, .inl (kw, 512, .inr (.inl fv)))] ∧ va_F A st t) s 1 6 A = Q
  refine lv_iload_n hx hb dX0_refuseAbsent_0 rfl (lv_at hl 1 rfl) ?_
  refine lv_if_lt (tgt := 12) hx hb dX0_refuseAbsent_1 (by decide) (fun h1 => ?_) (fun h1 => ?_)
  · obtain ⟨sa, hstr⟩ := h0X.2.1 97 "no pattern of this number" (by decide)
    rw [← hQ]
    exact pt_throwS (own := RX0) (cls := "java/util/NoSuchElementException") (text := "no pattern of this number") (names := ["java/lang/RuntimeException", "java/lang/Exception"]) (ik := 80) (is := 97) (ic := 84) (sa := sa) hx hb hl9 hown (by decide) (by decide) (fun U hU hV w hw => pt_X_at h0X (hext.on hS hAs hU hV) w (pt_xw_in_nse w hw) _) (vk_R.warm hext.1 hstr) (hl.1.trans hml.symm) dX0_refuseAbsent_12 dX0_refuseAbsent_15 dX0_refuseAbsent_16 dX0_refuseAbsent_18 dX0_refuseAbsent_21 hnoh (by decide) (by decide) (by decide) (by decide) hlocks (fun t hW hz hk => ⟨hP.kept (fun k q hq => hk _ ((hP k q hq).lt)), va_K.moved hW.alike hK, hD, pt_S_thrown hS hz hk⟩) hS.2.2 (by decide) (by decide)
  · refine lv_iload_n hx hb dX0_refuseAbsent_4 rfl (lv_at hl 1 rfl) ?_
    refine lv_aload_n hx hb dX0_refuseAbsent_5 rfl (lv_at hl 0 rfl) ?_
    refine va_get (D := (dC, dI)) (ci := 0) (v := .int (nI k)) (C := RX0) (T := TX0) (N := 7) hx hb hts (fun w h => List.mem_cons_of_mem _ (pt_wsX0 w h)) hown hK hP 0 rfl rfl 2 (by decide) (hts _ (List.mem_cons_of_mem _ pw34)) (fun _ h9 => h9) rfl dX0_refuseAbsent_6 ?_
    refine lv_icmp_lt (tgt := 22) hx hb dX0_refuseAbsent_9 (by decide) (fun h2 => (hab.elim (fun z => absurd z h1) (fun z => absurd h2 z))) (fun h2 => ?_)
    obtain ⟨sa, hstr⟩ := h0X.2.1 97 "no pattern of this number" (by decide)
    rw [← hQ]
    exact pt_throwS (own := RX0) (cls := "java/util/NoSuchElementException") (text := "no pattern of this number") (names := ["java/lang/RuntimeException", "java/lang/Exception"]) (ik := 80) (is := 97) (ic := 84) (sa := sa) hx hb hl9 hown (by decide) (by decide) (fun U hU hV w hw => pt_X_at h0X (hext.on hS hAs hU hV) w (pt_xw_in_nse w hw) _) (vk_R.warm hext.1 hstr) (hl.1.trans hml.symm) dX0_refuseAbsent_12 dX0_refuseAbsent_15 dX0_refuseAbsent_16 dX0_refuseAbsent_18 dX0_refuseAbsent_21 hnoh (by decide) (by decide) (by decide) (by decide) hlocks (fun t hW hz hk => ⟨hP.kept (fun k q hq => hk _ ((hP k q hq).lt)), va_K.moved hW.alike hK, hD, pt_S_thrown hS hz hk⟩) hS.2.2 (by decide) (by decide)
set_option maxHeartbeats 4000000 in
set_option maxRecDepth 100000 in
/-- PatternTree() -/
theorem c_init (l : Launch) (dC : Nat → ClassId) (dI : Nat → Nat → Nat) (h0 : Nat) (sz : Nat)  : Met l yX0_init wsX0_init ({ frames := 1, cells := 2, slots := 1024, locals := 20 }) (va_Pc [.ref h0] (fun U => U.heap.size = sz ∧ va_P (dC, dI) vwCl [(h0, .inr (0, [.null, .null, .int 0, .int 0, .long 0, .int 0, .int 0]))] U.heap ∧ va_K (dC, dI) vwCl [] U ∧ va_D (fun _ => True) [(h0, .inr (0, [.null, .null, .int 0, .int 0, .long 0, .int 0, .int 0]))])) (va_Qv (fun _ => True) (fun (u : Nat × Nat × ClassId × ClassId) (t : State) => match u with | (c0, w0, kc, kw) => va_P (dC, dI) vwCl [(h0, .inr (0, [.ref c0, .ref w0, .int 0, .int 32, .long (pt_mk 32), .int (-1), .int 0])), (c0, .inl (kc, 512, .inr (.inl (fun _ => 0)))), (w0, .inl (kw, 512, .inr (.inl (fun _ => 0))))] t.heap ∧ va_K (dC, dI) vwCl [(kc, .long), (kw, .long)] t ∧ va_D (va_A [(h0, .inr (0, [.null, .null, .int 0, .int 0, .long 0, .int 0, .int 0]))] sz) [(h0, .inr (0, [.ref c0, .ref w0, .int 0, .int 32, .long (pt_mk 32), .int (-1), .int 0])), (c0, .inl (kc, 512, .inr (.inl (fun _ => 0)))), (w0, .inl (kw, 512, .inr (.inl (fun _ => 0))))]) (va_A [(h0, .inr (0, [.null, .null, .int 0, .int 0, .long 0, .int 0, .int 0]))] sz)) 2 1024 (va_A [(h0, .inr (0, [.null, .null, .int 0, .int 0, .long 0, .int 0, .int 0]))] sz) := by
  refine Met.ofW (cc := cX0_init) (maxL := 1) (ret := none) (by decide) rfl ?_
  intro p e s m args below meth c s₁ B hml hv
  obtain ⟨ha, hsz, hP, hK, hD0⟩ := hv
  subst hsz
  have hx := B.exec
  have hb := B.bytes
  have hr := B.returns
  have hts := atoms_spec (ws := wsX0_init) B.pre
  have hown : s.vm.findClass RX0 = some m.cls := findClass_of_methodNamed B.named
  have hlocks := B.notSynchronized
  have hl := lv_entry ([.ref h0]) (n := 1) (Nat.le_of_ble_eq_true rfl)
  refine W.eq (show entryFrame m args 1 = entryFrame m ([.ref h0] : List Value).toArray 1 by rw [ha]) ?_
  rw [lg_entry_eq]
  generalize (lg_sl ([.ref h0]) ++ List.replicate (1 - (lg_sl ([.ref h0])).length) Slot.unset).toArray = ls at hl ⊢
  have hl : lv_has ls 1 [(0, .ref h0)] := hl
  have hin : meth.name = "<init>" := (name_of_methodNamed B.named B.method).1
  have hD := hD0.self (sz := s.heap.size)
  generalize hAe : va_A [(h0, .inr (0, [.null, .null, .int 0, .int 0, .long 0, .int 0, .int 0]))] s.heap.size = A at hD ⊢
  have hA : ∀ q : Nat, s.heap.size ≤ q → A q := fun q h => by rw [← hAe]; exact Or.inr h
  have hS : va_S A s.heap s.heap [] := va_S.rf
  generalize hQ : MQ below (va_Qv (fun _ => True) (fun (u : Nat × Nat × ClassId × ClassId) (t : State) => match u with | (c0, w0, kc, kw) => va_P (dC, dI) vwCl [(h0, .inr (0, [.ref c0, .ref w0, .int 0, .int 32, .long (pt_mk 32), .int (-1), .int 0])), (c0, .inl (kc, 512, .inr (.inl (fun _ => 0)))), (w0, .inl (kw, 512, .inr (.inl (fun _ => 0))))] t.heap ∧ va_K (dC, dI) vwCl [(kc, .long), (kw, .long)] t ∧ va_D A [(h0, .inr (0, [.ref c0, .ref w0, .int 0, .int 32, .long (pt_mk 32), .int (-1), .int 0])), (c0, .inl (kc, 512, .inr (.inl (fun _ => 0)))), (w0, .inl (kw, 512, .inr (.inl (fun _ => 0))))]) A) args s 2 1024 A = Q
  have hP : va_P (dC, dI) vwCl [(h0, .inr (0, [.null, .null, .int 0, .int 0, .long 0, .int 0, .int 0]))] s.heap := hP
  refine lv_aload_n hx hb dX0_init_0 rfl (lv_at hl 0 rfl) ?_
  refine W.objInit hx hb hown (hts _ (List.mem_cons_of_mem _ pw25)) (hts _ (List.mem_cons_of_mem _ pw26)) (hts (.code objectInit ⟨#[0xb1]⟩ 1 none) (List.mem_cons_of_mem _ pw27)) rfl (by rw [hml]; exact hl.1) rfl dX0_init_1 (Nat.le_of_ble_eq_true rfl) (Nat.le_of_ble_eq_true rfl) ?_
  refine W.eq (g2 := F0 m 4 ls []) rfl ?_
  refine lv_aload_n hx hb dX0_init_4 rfl (lv_at hl 0 rfl) ?_
  refine lv_sipush (v := 512) hx hb dX0_init_5 (by decide) ?_
  refine va_newa (atype := .long) (N' := 512) (a0 := (512, .inr (.inl (fun _ => 0)))) (ty := .long) (n := 512) hx hb (hts _ (List.mem_cons_of_mem _ pw46)) rfl hK hP hD hS hA (fun _ => rfl) (by decide) (by decide) (by decide) (by decide) (by decide) dX0_init_8 (fun c0 kc H hK hP hD hS => ?_)
  have hP : va_P (dC, dI) vwCl [(h0, .inr (0, [.null, .null, .int 0, .int 0, .long 0, .int 0, .int 0])), (c0, .inl (kc, 512, .inr (.inl (fun _ => 0))))] H := hP
  have hD : va_D A [(h0, .inr (0, [.null, .null, .int 0, .int 0, .long 0, .int 0, .int 0])), (c0, .inl (kc, 512, .inr (.inl (fun _ => 0))))] := hD
  have hK : va_K (dC, dI) vwCl [(kc, .long)] s := hK
  refine va_putF (D := (dC, dI)) (ci := 0) (v := .ref c0) (ty := (.array .long)) (C := RX0) (T := TX0) (N := 7) hx hb hts (fun w h => List.mem_cons_of_mem _ (pt_wsX0 w h)) tyX0 tyX0_ok nmX0 hown hK hP hD hS 0 rfl rfl 0 (by decide) (hts _ (List.mem_cons_of_mem _ pw32)) (fun _ h9 => h9) rfl hin rfl (by decide +kernel) rfl rfl (Nat.le_of_ble_eq_true rfl) dX0_init_10 (fun H locs hP hD hS => ?_)
  have hP : va_P (dC, dI) vwCl [(h0, .inr (0, [.ref c0, .null, .int 0, .int 0, .long 0, .int 0, .int 0])), (c0, .inl (kc, 512, .inr (.inl (fun _ => 0))))] H := hP
  have hD : va_D A [(h0, .inr (0, [.ref c0, .null, .int 0, .int 0, .long 0, .int 0, .int 0])), (c0, .inl (kc, 512, .inr (.inl (fun _ => 0))))] := hD
  refine lv_aload_n hx hb dX0_init_13 rfl (lv_at hl 0 rfl) ?_
  refine lv_sipush (v := 512) hx hb dX0_init_14 (by decide) ?_
  refine va_newa (atype := .long) (N' := 512) (a0 := (512, .inr (.inl (fun _ => 0)))) (ty := .long) (n := 512) hx hb (hts _ (List.mem_cons_of_mem _ pw46)) rfl hK hP hD hS hA (fun _ => rfl) (by decide) (by decide) (by decide) (by decide) (by decide) dX0_init_17 (fun w0 kw H hK hP hD hS => ?_)
  have hP : va_P (dC, dI) vwCl [(h0, .inr (0, [.ref c0, .null, .int 0, .int 0, .long 0, .int 0, .int 0])), (c0, .inl (kc, 512, .inr (.inl (fun _ => 0)))), (w0, .inl (kw, 512, .inr (.inl (fun _ => 0))))] H := hP
  have hD : va_D A [(h0, .inr (0, [.ref c0, .null, .int 0, .int 0, .long 0, .int 0, .int 0])), (c0, .inl (kc, 512, .inr (.inl (fun _ => 0)))), (w0, .inl (kw, 512, .inr (.inl (fun _ => 0))))] := hD
  have hK : va_K (dC, dI) vwCl [(kc, .long), (kw, .long)] s := hK
  refine va_putF (D := (dC, dI)) (ci := 0) (v := .ref w0) (ty := (.array .long)) (C := RX0) (T := TX0) (N := 7) hx hb hts (fun w h => List.mem_cons_of_mem _ (pt_wsX0 w h)) tyX0 tyX0_ok nmX0 hown hK hP hD hS 0 rfl rfl 1 (by decide) (hts _ (List.mem_cons_of_mem _ pw33)) (fun _ h9 => h9) rfl hin rfl (by decide +kernel) rfl rfl (Nat.le_of_ble_eq_true rfl) dX0_init_19 (fun H locs hP hD hS => ?_)
  have hP : va_P (dC, dI) vwCl [(h0, .inr (0, [.ref c0, .ref w0, .int 0, .int 0, .long 0, .int 0, .int 0])), (c0, .inl (kc, 512, .inr (.inl (fun _ => 0)))), (w0, .inl (kw, 512, .inr (.inl (fun _ => 0))))] H := hP
  have hD : va_D A [(h0, .inr (0, [.ref c0, .ref w0, .int 0, .int 0, .long 0, .int 0, .int 0])), (c0, .inl (kc, 512, .inr (.inl (fun _ => 0)))), (w0, .inl (kw, 512, .inr (.inl (fun _ => 0))))] := hD
  refine lv_aload_n hx hb dX0_init_22 rfl (lv_at hl 0 rfl) ?_
  refine lv_iconst (v := 0) hx hb dX0_init_23 (by decide) ?_
  refine va_put (D := (dC, dI)) (ci := 0) (v := .int 0) (ty := .int) (C := RX0) (T := TX0) (N := 7) hx hb hts (fun w h => List.mem_cons_of_mem _ (pt_wsX0 w h)) tyX0 tyX0_ok nmX0 hown hK hP hD hS 0 rfl rfl 2 (by decide) (hts _ (List.mem_cons_of_mem _ pw34)) (fun _ h9 => h9) rfl (by decide +kernel) rfl rfl (Nat.le_of_ble_eq_true rfl) dX0_init_24 (fun H locs hP hD hS => ?_)
  have hP : va_P (dC, dI) vwCl [(h0, .inr (0, [.ref c0, .ref w0, .int 0, .int 0, .long 0, .int 0, .int 0])), (c0, .inl (kc, 512, .inr (.inl (fun _ => 0)))), (w0, .inl (kw, 512, .inr (.inl (fun _ => 0))))] H := hP
  have hD : va_D A [(h0, .inr (0, [.ref c0, .ref w0, .int 0, .int 0, .long 0, .int 0, .int 0])), (c0, .inl (kc, 512, .inr (.inl (fun _ => 0)))), (w0, .inl (kw, 512, .inr (.inl (fun _ => 0))))] := hD
  refine lv_aload_n hx hb dX0_init_27 rfl (lv_at hl 0 rfl) ?_
  refine lv_bipush (v := 32) hx hb dX0_init_28 (by decide) ?_
  refine va_put (D := (dC, dI)) (ci := 0) (v := .int 32) (ty := .int) (C := RX0) (T := TX0) (N := 7) hx hb hts (fun w h => List.mem_cons_of_mem _ (pt_wsX0 w h)) tyX0 tyX0_ok nmX0 hown hK hP hD hS 0 rfl rfl 3 (by decide) (hts _ (List.mem_cons_of_mem _ pw35)) (fun _ h9 => h9) rfl (by decide +kernel) rfl rfl (Nat.le_of_ble_eq_true rfl) dX0_init_30 (fun H locs hP hD hS => ?_)
  have hP : va_P (dC, dI) vwCl [(h0, .inr (0, [.ref c0, .ref w0, .int 0, .int 32, .long 0, .int 0, .int 0])), (c0, .inl (kc, 512, .inr (.inl (fun _ => 0)))), (w0, .inl (kw, 512, .inr (.inl (fun _ => 0))))] H := hP
  have hD : va_D A [(h0, .inr (0, [.ref c0, .ref w0, .int 0, .int 32, .long 0, .int 0, .int 0])), (c0, .inl (kc, 512, .inr (.inl (fun _ => 0)))), (w0, .inl (kw, 512, .inr (.inl (fun _ => 0))))] := hD
  refine lv_aload_n hx hb dX0_init_33 rfl (lv_at hl 0 rfl) ?_
  refine lv_bipush (v := 32) hx hb dX0_init_34 (by decide) ?_
  refine vp_callSl (W.runS (As := [.int 32]) (rest := [.ref h0]) ⟨hx, hb, hml, hown, hts⟩ (c_lowestBits l dC dI 32) (va_cwS 1 hts (pt_gS pw28 pw29 pw17 pw30) rfl rfl rfl (by decide +kernel) ⟨Nat.le_of_ble_eq_true rfl, Nat.le_of_ble_eq_true rfl⟩) ⟨fun a U g mk q => by obtain ⟨q0, qP, qK⟩ := q; exact ⟨q0, qP, va_K.moved (u := U) (U := U.calling g mk a) (Vm.Alike.refl U.vm) qK⟩, fun U hU hW => ⟨rfl, by rw [hU]; exact (hP.sub (ws' := ([] : va_W)) [] rfl), va_K.moved hW.alike (hK.sub (tys' := []) [] rfl)⟩⟩ rfl rfl hl.1 rfl (lv_room (Nat.le_of_ble_eq_true rfl)) dX0_init_36 ⟨by decide, by decide⟩) (fun r1 hw => ?_)
  subst hw
  refine va_put (D := (dC, dI)) (ci := 0) (v := .long (pt_mk 32)) (ty := .long) (C := RX0) (T := TX0) (N := 7) hx hb hts (fun w h => List.mem_cons_of_mem _ (pt_wsX0 w h)) tyX0 tyX0_ok nmX0 hown hK hP hD hS 0 rfl rfl 4 (by decide) (hts _ (List.mem_cons_of_mem _ pw36)) (fun _ h9 => h9) rfl (by decide +kernel) rfl rfl (Nat.le_of_ble_eq_true rfl) dX0_init_39 (fun H locs hP hD hS => ?_)
  have hP : va_P (dC, dI) vwCl [(h0, .inr (0, [.ref c0, .ref w0, .int 0, .int 32, .long (pt_mk 32), .int 0, .int 0])), (c0, .inl (kc, 512, .inr (.inl (fun _ => 0)))), (w0, .inl (kw, 512, .inr (.inl (fun _ => 0))))] H := hP
  have hD : va_D A [(h0, .inr (0, [.ref c0, .ref w0, .int 0, .int 32, .long (pt_mk 32), .int 0, .int 0])), (c0, .inl (kc, 512, .inr (.inl (fun _ => 0)))), (w0, .inl (kw, 512, .inr (.inl (fun _ => 0))))] := hD
  refine lv_aload_n hx hb dX0_init_42 rfl (lv_at hl 0 rfl) ?_
  refine lv_iconst (v := (-1)) hx hb dX0_init_43 (by decide) ?_
  refine va_put (D := (dC, dI)) (ci := 0) (v := .int (-1)) (ty := .int) (C := RX0) (T := TX0) (N := 7) hx hb hts (fun w h => List.mem_cons_of_mem _ (pt_wsX0 w h)) tyX0 tyX0_ok nmX0 hown hK hP hD hS 0 rfl rfl 5 (by decide) (hts _ (List.mem_cons_of_mem _ pw37)) (fun _ h9 => h9) rfl (by decide +kernel) rfl rfl (Nat.le_of_ble_eq_true rfl) dX0_init_44 (fun H locs hP hD hS => ?_)
  have hP : va_P (dC, dI) vwCl [(h0, .inr (0, [.ref c0, .ref w0, .int 0, .int 32, .long (pt_mk 32), .int (-1), .int 0])), (c0, .inl (kc, 512, .inr (.inl (fun _ => 0)))), (w0, .inl (kw, 512, .inr (.inl (fun _ => 0))))] H := hP
  have hD : va_D A [(h0, .inr (0, [.ref c0, .ref w0, .int 0, .int 32, .long (pt_mk 32), .int (-1), .int 0])), (c0, .inl (kc, 512, .inr (.inl (fun _ => 0)))), (w0, .inl (kw, 512, .inr (.inl (fun _ => 0))))] := hD
  refine lv_aload_n hx hb dX0_init_47 rfl (lv_at hl 0 rfl) ?_
  refine lv_iconst (v := 0) hx hb dX0_init_48 (by decide) ?_
  refine va_put (D := (dC, dI)) (ci := 0) (v := .int 0) (ty := .int) (C := RX0) (T := TX0) (N := 7) hx hb hts (fun w h => List.mem_cons_of_mem _ (pt_wsX0 w h)) tyX0 tyX0_ok nmX0 hown hK hP hD hS 0 rfl rfl 6 (by decide) (hts _ (List.mem_cons_of_mem _ pw38)) (fun _ h9 => h9) rfl (by decide +kernel) rfl rfl (Nat.le_of_ble_eq_true rfl) dX0_init_49 (fun H locs hP hD hS => ?_)
  have hP : va_P (dC, dI) vwCl [(h0, .inr (0, [.ref c0, .ref w0, .int 0, .int 32, .long (pt_mk 32), .int (-1), .int 0])), (c0, .inl (kc, 512, .inr (.inl (fun _ => 0)))), (w0, .inl (kw, 512, .inr (.inl (fun _ => 0))))] H := hP
  have hD : va_D A [(h0, .inr (0, [.ref c0, .ref w0, .int 0, .int 32, .long (pt_mk 32), .int (-1), .int 0])), (c0, .inl (kc, 512, .inr (.inl (fun _ => 0)))), (w0, .inl (kw, 512, .inr (.inl (fun _ => 0))))] := hD
  rw [← hQ]
  refine W.widen (k := 2) (n := 1024) (by omega) (by omega) ?_
  exact W.vret hx hb hr (fun t ht hW => ⟨⟨(c0, w0, kc, kw), rfl, trivial, by rw [ht]; exact hP, va_K.moved hW.alike hK, hD⟩, hS.F ht⟩) hS.2.2 dX0_init_52
set_option maxHeartbeats 4000000 in
set_option maxRecDepth 100000 in
/-- clear(n) -/
theorem c_clear (l : Launch) (dC : Nat → ClassId) (dI : Nat → Nat → Nat) (h0 c0 w0 : Nat) (kc kw : ClassId) (k n : Nat) (fc fv : Nat → Int64) (cl su : Int32) (a : Nat) (sz : Nat) (hn1 : 1 ≤ a) (hn2 : a ≤ 64) : Met l yX0_clear wsX0_clear ({ frames := 1, cells := 0, slots := 0, locals := 20 }) (va_Pc [.ref h0, .int (nI a)] (fun U => U.heap.size = sz ∧ va_P (dC, dI) vwCl [(h0, .inr (0, [.ref c0, .ref w0, .int (nI k), .int (nI n), .long (pt_mk n), .int cl, .int su])), (c0, .inl (kc, 512, .inr (.inl fc))), (w0, .inl (kw, 512, .inr (.inl fv)))] U.heap ∧ va_K (dC, dI) vwCl [(kc, .long), (kw, .long)] U ∧ va_D (fun _ => True) [(h0, .inr (0, [.ref c0, .ref w0, .int (nI k), .int (nI n), .long (pt_mk n), .int cl, .int su])), (c0, .inl (kc, 512, .inr (.inl fc))), (w0, .inl (kw, 512, .inr (.inl fv)))])) (va_Qv (fun _ => True) (fun (u : Unit) (t : State) => match u with | _ => va_P (dC, dI) vwCl [(h0, .inr (0, [.ref c0, .ref w0, .int 0, .int (nI a), .long (pt_mk a), .int cl, .int su])), (c0, .inl (kc, 512, .inr (.inl fc))), (w0, .inl (kw, 512, .inr (.inl fv)))] t.heap ∧ va_K (dC, dI) vwCl [(kc, .long), (kw, .long)] t ∧ va_D (va_A [(h0, .inr (0, [.ref c0, .ref w0, .int (nI k), .int (nI n), .long (pt_mk n), .int cl, .int su])), (c0, .inl (kc, 512, .inr (.inl fc))), (w0, .inl (kw, 512, .inr (.inl fv)))] sz) [(h0, .inr (0, [.ref c0, .ref w0, .int 0, .int (nI a), .long (pt_mk a), .int cl, .int su])), (c0, .inl (kc, 512, .inr (.inl fc))), (w0, .inl (kw, 512, .inr (.inl fv)))]) (va_A [(h0, .inr (0, [.ref c0, .ref w0, .int (nI k), .int (nI n), .long (pt_mk n), .int cl, .int su])), (c0, .inl (kc, 512, .inr (.inl fc))), (w0, .inl (kw, 512, .inr (.inl fv)))] sz)) 0 0 (va_A [(h0, .inr (0, [.ref c0, .ref w0, .int (nI k), .int (nI n), .long (pt_mk n), .int cl, .int su])), (c0, .inl (kc, 512, .inr (.inl fc))), (w0, .inl (kw, 512, .inr (.inl fv)))] sz) := by
  refine Met.ofW (cc := cX0_clear) (maxL := 2) (ret := none) (by decide) rfl ?_
  intro p e s m args below meth c s₁ B hml hv
  obtain ⟨ha, hsz, hP, hK, hD0⟩ := hv
  subst hsz
  have hx := B.exec
  have hb := B.bytes
  have hr := B.returns
  have hts := atoms_spec (ws := wsX0_clear) B.pre
  have hown : s.vm.findClass RX0 = some m.cls := findClass_of_methodNamed B.named
  have hlocks := B.notSynchronized
  have hl := lv_entry ([.ref h0, .int (nI a)]) (n := 2) (Nat.le_of_ble_eq_true rfl)
  refine W.eq (show entryFrame m args 2 = entryFrame m ([.ref h0, .int (nI a)] : List Value).toArray 2 by rw [ha]) ?_
  rw [lg_entry_eq]
  generalize (lg_sl ([.ref h0, .int (nI a)]) ++ List.replicate (2 - (lg_sl ([.ref h0, .int (nI a)])).length) Slot.unset).toArray = ls at hl ⊢
  have hl : lv_has ls 2 [(0, .ref h0), (1, .int (nI a))] := hl
  have hD := hD0.self (sz := s.heap.size)
  generalize hAe : va_A [(h0, .inr (0, [.ref c0, .ref w0, .int (nI k), .int (nI n), .long (pt_mk n), .int cl, .int su])), (c0, .inl (kc, 512, .inr (.inl fc))), (w0, .inl (kw, 512, .inr (.inl fv)))] s.heap.size = A at hD ⊢
  have hA : ∀ q : Nat, s.heap.size ≤ q → A q := fun q h => by rw [← hAe]; exact Or.inr h
  have hS : va_S A s.heap s.heap [] := va_S.rf
  generalize hQ : MQ below (va_Qv (fun _ => True) (fun (u : Unit) (t : State) => match u with | _ => va_P (dC, dI) vwCl [(h0, .inr (0, [.ref c0, .ref w0, .int 0, .int (nI a), .long (pt_mk a), .int cl, .int su])), (c0, .inl (kc, 512, .inr (.inl fc))), (w0, .inl (kw, 512, .inr (.inl fv)))] t.heap ∧ va_K (dC, dI) vwCl [(kc, .long), (kw, .long)] t ∧ va_D A [(h0, .inr (0, [.ref c0, .ref w0, .int 0, .int (nI a), .long (pt_mk a), .int cl, .int su])), (c0, .inl (kc, 512, .inr (.inl fc))), (w0, .inl (kw, 512, .inr (.inl fv)))]) A) args s 0 0 A = Q
  have hP : va_P (dC, dI) vwCl [(h0, .inr (0, [.ref c0, .ref w0, .int (nI k), .int (nI n), .long (pt_mk n), .int cl, .int su])), (c0, .inl (kc, 512, .inr (.inl fc))), (w0, .inl (kw, 512, .inr (.inl fv)))] s.heap := hP
  refine lv_iload_n hx hb dX0_clear_0 rfl (lv_at hl 1 rfl) ?_
  refine lv_iconst (v := 1) hx hb dX0_clear_1 (by decide) ?_
  refine lv_icmp_lt (tgt := 11) hx hb dX0_clear_2 (by decide) (fun h1 => absurd h1 (nI_nlt (b := 1) hn1 (by omega))) (fun h1 => ?_)
  refine lv_iload_n hx hb dX0_clear_5 rfl (lv_at hl 1 rfl) ?_
  refine lv_bipush (v := 64) hx hb dX0_clear_6 (by decide) ?_
  refine lv_icmp_le (tgt := 21) hx hb dX0_clear_8 (by decide) (fun h2 => ?_) (fun h2 => absurd (nI_le (b := 64) hn2 (by decide)) h2)
  refine lv_aload_n hx hb dX0_clear_21 rfl (lv_at hl 0 rfl) ?_
  refine lv_iconst (v := 0) hx hb dX0_clear_22 (by decide) ?_
  refine va_put (D := (dC, dI)) (ci := 0) (v := .int 0) (ty := .int) (C := RX0) (T := TX0) (N := 7) hx hb hts (fun w h => List.mem_cons_of_mem _ (pt_wsX0 w h)) tyX0 tyX0_ok nmX0 hown hK hP hD hS 0 rfl rfl 2 (by decide) (hts _ (List.mem_cons_of_mem _ pw34)) (fun _ h9 => h9) rfl (by decide +kernel) rfl rfl (Nat.le_of_ble_eq_true rfl) dX0_clear_23 (fun H locs hP hD hS => ?_)
  have hP : va_P (dC, dI) vwCl [(h0, .inr (0, [.ref c0, .ref w0, .int 0, .int (nI n), .long (pt_mk n), .int cl, .int su])), (c0, .inl (kc, 512, .inr (.inl fc))), (w0, .inl (kw, 512, .inr (.inl fv)))] H := hP
  have hD : va_D A [(h0, .inr (0, [.ref c0, .ref w0, .int 0, .int (nI n), .long (pt_mk n), .int cl, .int su])), (c0, .inl (kc, 512, .inr (.inl fc))), (w0, .inl (kw, 512, .inr (.inl fv)))] := hD
  refine lv_aload_n hx hb dX0_clear_26 rfl (lv_at hl 0 rfl) ?_
  refine lv_iload_n hx hb dX0_clear_27 rfl (lv_at hl 1 rfl) ?_
  refine va_put (D := (dC, dI)) (ci := 0) (v := .int (nI a)) (ty := .int) (C := RX0) (T := TX0) (N := 7) hx hb hts (fun w h => List.mem_cons_of_mem _ (pt_wsX0 w h)) tyX0 tyX0_ok nmX0 hown hK hP hD hS 0 rfl rfl 3 (by decide) (hts _ (List.mem_cons_of_mem _ pw35)) (fun _ h9 => h9) rfl (by decide +kernel) rfl rfl (Nat.le_of_ble_eq_true rfl) dX0_clear_28 (fun H locs hP hD hS => ?_)
  have hP : va_P (dC, dI) vwCl [(h0, .inr (0, [.ref c0, .ref w0, .int 0, .int (nI a), .long (pt_mk n), .int cl, .int su])), (c0, .inl (kc, 512, .inr (.inl fc))), (w0, .inl (kw, 512, .inr (.inl fv)))] H := hP
  have hD : va_D A [(h0, .inr (0, [.ref c0, .ref w0, .int 0, .int (nI a), .long (pt_mk n), .int cl, .int su])), (c0, .inl (kc, 512, .inr (.inl fc))), (w0, .inl (kw, 512, .inr (.inl fv)))] := hD
  refine lv_aload_n hx hb dX0_clear_31 rfl (lv_at hl 0 rfl) ?_
  refine lv_iload_n hx hb dX0_clear_32 rfl (lv_at hl 1 rfl) ?_
  refine vp_callSl (W.runS (As := [.int (nI a)]) (rest := [.ref h0]) ⟨hx, hb, hml, hown, hts⟩ (c_lowestBits l dC dI a) (va_cwS 1 hts (pt_gS pw28 pw29 pw17 pw30) rfl rfl rfl (by decide +kernel) ⟨Nat.le_of_ble_eq_true rfl, Nat.le_of_ble_eq_true rfl⟩) ⟨fun a U g mk q => by obtain ⟨q0, qP, qK⟩ := q; exact ⟨q0, qP, va_K.moved (u := U) (U := U.calling g mk a) (Vm.Alike.refl U.vm) qK⟩, fun U hU hW => ⟨rfl, by rw [hU]; exact (hP.sub (ws' := ([] : va_W)) [] rfl), va_K.moved hW.alike (hK.sub (tys' := []) [] rfl)⟩⟩ rfl rfl hl.1 rfl (lv_room (Nat.le_of_ble_eq_true rfl)) dX0_clear_33 ⟨Nat.zero_le _, Nat.zero_le _⟩) (fun r1 hw => ?_)
  subst hw
  refine va_put (D := (dC, dI)) (ci := 0) (v := .long (pt_mk a)) (ty := .long) (C := RX0) (T := TX0) (N := 7) hx hb hts (fun w h => List.mem_cons_of_mem _ (pt_wsX0 w h)) tyX0 tyX0_ok nmX0 hown hK hP hD hS 0 rfl rfl 4 (by decide) (hts _ (List.mem_cons_of_mem _ pw36)) (fun _ h9 => h9) rfl (by decide +kernel) rfl rfl (Nat.le_of_ble_eq_true rfl) dX0_clear_36 (fun H locs hP hD hS => ?_)
  have hP : va_P (dC, dI) vwCl [(h0, .inr (0, [.ref c0, .ref w0, .int 0, .int (nI a), .long (pt_mk a), .int cl, .int su])), (c0, .inl (kc, 512, .inr (.inl fc))), (w0, .inl (kw, 512, .inr (.inl fv)))] H := hP
  have hD : va_D A [(h0, .inr (0, [.ref c0, .ref w0, .int 0, .int (nI a), .long (pt_mk a), .int cl, .int su])), (c0, .inl (kc, 512, .inr (.inl fc))), (w0, .inl (kw, 512, .inr (.inl fv)))] := hD
  rw [← hQ]
  exact W.vret hx hb hr (fun t ht hW => ⟨⟨(), rfl, trivial, by rw [ht]; exact hP, va_K.moved hW.alike hK, hD⟩, hS.F ht⟩) hS.2.2 dX0_clear_39
set_option maxHeartbeats 4000000 in
set_option maxRecDepth 100000 in
/-- clear(n), n out of range -/
theorem t_clear (l : Launch) (hl9 : l.stackTraces = false) (dC : Nat → ClassId) (dI : Nat → Nat → Nat) (s0 : State) (h0X : pt_X s0) (h0 c0 w0 : Nat) (kc kw : ClassId) (k n : Nat) (fc fv : Nat → Int64) (cl su : Int32) (x : Int32) (sz : Nat) (hbad : x < 1 ∨ ¬ x ≤ 64) : pt_Thr l yX0_clear wsX0_clear ({ frames := 6, cells := 1, slots := 6, locals := 82 }) (va_Pc [.ref h0, .int x] (fun U => U.heap.size = sz ∧ va_P (dC, dI) vwCl [(h0, .inr (0, [.ref c0, .ref w0, .int (nI k), .int (nI n), .long (pt_mk n), .int cl, .int su])), (c0, .inl (kc, 512, .inr (.inl fc))), (w0, .inl (kw, 512, .inr (.inl fv)))] U.heap ∧ va_K (dC, dI) vwCl [(kc, .long), (kw, .long)] U ∧ va_D (fun q => s0.heap.size ≤ q) [(h0, .inr (0, [.ref c0, .ref w0, .int (nI k), .int (nI n), .long (pt_mk n), .int cl, .int su])), (c0, .inl (kc, 512, .inr (.inl fc))), (w0, .inl (kw, 512, .inr (.inl fv)))] ∧ pt_ext s0 U)) "java/lang/IllegalArgumentException" (fun st t => va_P (dC, dI) vwCl [(h0, .inr (0, [.ref c0, .ref w0, .int (nI k), .int (nI n), .long (pt_mk n), .int cl, .int su])), (c0, .inl (kc, 512, .inr (.inl fc))), (w0, .inl (kw, 512, .inr (.inl fv)))] t.heap ∧ va_K (dC, dI) vwCl [(kc, .long), (kw, .long)] t ∧ va_D (va_A [(h0, .inr (0, [.ref c0, .ref w0, .int (nI k), .int (nI n), .long (pt_mk n), .int cl, .int su])), (c0, .inl (kc, 512, .inr (.inl fc))), (w0, .inl (kw, 512, .inr (.inl fv)))] sz) [(h0, .inr (0, [.ref c0, .ref w0, .int (nI k), .int (nI n), .long (pt_mk n), .int cl, .int su])), (c0, .inl (kc, 512, .inr (.inl fc))), (w0, .inl (kw, 512, .inr (.inl fv)))] ∧ va_F (va_A [(h0, .inr (0, [.ref c0, .ref w0, .int (nI k), .int (nI n), .long (pt_mk n), .int cl, .int su])), (c0, .inl (kc, 512, .inr (.inl fc))), (w0, .inl (kw, 512, .inr (.inl fv)))] sz) st t) 1 6 (va_A [(h0, .inr (0, [.ref c0, .ref w0, .int (nI k), .int (nI n), .long (pt_mk n), .int cl, .int su])), (c0, .inl (kc, 512, .inr (.inl fc))), (w0, .inl (kw, 512, .inr (.inl fv)))] sz) := by
  refine pt_Thr_ofW (cc := cX0_clear) (maxL := 2) (ret := none) (by decide) rfl ?_
  intro p e s m args below meth c s₁ B hml hnoh hv
  obtain ⟨ha, hsz, hP, hK, hD0, hext⟩ := hv
  subst hsz
  have hx := B.exec
  have hb := B.bytes
  have hr := B.returns
  have hts := atoms_spec (ws := wsX0_clear) B.pre
  have hown : s.vm.findClass RX0 = some m.cls := findClass_of_methodNamed B.named
  have hlocks := B.notSynchronized
  have hl := lv_entry ([.ref h0, .int x]) (n := 2) (Nat.le_of_ble_eq_true rfl)
  refine W.eq (show entryFrame m args 2 = entryFrame m ([.ref h0, .int x] : List Value).toArray 2 by rw [ha]) ?_
  rw [lg_entry_eq]
  generalize (lg_sl ([.ref h0, .int x]) ++ List.replicate (2 - (lg_sl ([.ref h0, .int x])).length) Slot.unset).toArray = ls at hl ⊢
  have hl : lv_has ls 2 [(0, .ref h0), (1, .int x)] := hl
  have hD := hD0.self (sz := s.heap.size)
  have hAs : ∀ q : Nat, va_A [(h0, .inr (0, [.ref c0, .ref w0, .int (nI k), .int (nI n), .long (pt_mk n), .int cl, .int su])), (c0, .inl (kc, 512, .inr (.inl fc))), (w0, .inl (kw, 512, .inr (.inl fv)))] s.heap.size q → s0.heap.size ≤ q := pt_As hD0 hext.2.1
  generalize hAe : va_A [(h0, .inr (0, [.ref c0, .ref w0, .int (nI k), .int (nI n), .long (pt_mk n), .int cl, .int su])), (c0, .inl (kc, 512, .inr (.inl fc))), (w0, .inl (kw, 512, .inr (.inl fv)))] s.heap.size = A at hD hAs ⊢
  have hA : ∀ q : Nat, s.heap.size ≤ q → A q := fun q h => by rw [← hAe]; exact Or.inr h
  have hS : va_S A s.heap s.heap [] := va_S.rf
  have hP : va_P (dC, dI) vwCl [(h0, .inr (0, [.ref c0, .ref w0, .int (nI k), .int (nI n), .long (pt_mk n), .int cl, .int su])), (c0, .inl (kc, 512, .inr (.inl fc))), (w0, .inl (kw, 512, .inr (.inl fv)))] s.heap := hP
  generalize hQ : pt_TQ below "java/lang/IllegalArgumentException" (fun st t => va_P (dC, dI) vwCl [(h0, .inr (0, [.ref c0, .ref w0, .int (nI k), .int (nI n), .long (pt_mk n), .int cl, .int su])), (c0, .inl (kc, 512, .inr (.inl fc))), (w0, .inl (kw, 512, .inr (.inl fv)))] t.heap ∧ va_K (dC, dI) vwCl [(kc, .long), (kw, .long)] t ∧ va_D A [(h0, .inr (0, [.ref c0, .ref w0, .int (nI k), .int (nI n), .long (pt_mk n), .int cl, .int su])), (c0, .inl (kc, 512, .inr (.inl fc))), (w0, .inl (kw, 512, .inr (.inl fv)))] ∧ va_F A st t) s 1 6 A = Q
  refine lv_iload_n hx hb dX0_clear_0 rfl (lv_at hl 1 rfl) ?_
  refine lv_iconst (v := 1) hx hb dX0_clear_1 (by decide) ?_
  refine lv_icmp_lt (tgt := 11) hx hb dX0_clear_2 (by decide) (fun h1 => ?_) (fun h1 => ?_)
  · obtain ⟨sa, hstr⟩ := h0X.2.1 39 "a length is 1 to 64 bits" (by decide)
    rw [← hQ]
    exact pt_throwS (own := RX0) (cls := "java/lang/IllegalArgumentException") (text := "a length is 1 to 64 bits") (names := ["java/lang/RuntimeException", "java/lang/Exception"]) (ik := 37) (is := 39) (ic := 41) (sa := sa) hx hb hl9 hown (by decide) (by decide) (fun U hU hV w hw => pt_X_at h0X (hext.on hS hAs hU hV) w (pt_xw_in_iae w hw) _) (vk_R.warm hext.1 hstr) (hl.1.trans hml.symm) dX0_clear_11 dX0_clear_14 dX0_clear_15 dX0_clear_17 dX0_clear_20 hnoh (by decide) (by decide) (by decide) (by decide) hlocks (fun t hW hz hk => ⟨hP.kept (fun k q hq => hk _ ((hP k q hq).lt)), va_K.moved hW.alike hK, hD, pt_S_thrown hS hz hk⟩) hS.2.2 (by decide) (by decide)
  · refine lv_iload_n hx hb dX0_clear_5 rfl (lv_at hl 1 rfl) ?_
    refine lv_bipush (v := 64) hx hb dX0_clear_6 (by decide) ?_
    refine lv_icmp_le (tgt := 21) hx hb dX0_clear_8 (by decide) (fun h2 => (hbad.elim (fun z => absurd z h1) (fun z => absurd h2 z))) (fun h2 => ?_)
    obtain ⟨sa, hstr⟩ := h0X.2.1 39 "a length is 1 to 64 bits" (by decide)
    rw [← hQ]
    exact pt_throwS (own := RX0) (cls := "java/lang/IllegalArgumentException") (text := "a length is 1 to 64 bits") (names := ["java/lang/RuntimeException", "java/lang/Exception"]) (ik := 37) (is := 39) (ic := 41) (sa := sa) hx hb hl9 hown (by decide) (by decide) (fun U hU hV w hw => pt_X_at h0X (hext.on hS hAs hU hV) w (pt_xw_in_iae w hw) _) (vk_R.warm hext.1 hstr) (hl.1.trans hml.symm) dX0_clear_11 dX0_clear_14 dX0_clear_15 dX0_clear_17 dX0_clear_20 hnoh (by decide) (by decide) (by decide) (by decide) hlocks (fun t hW hz hk => ⟨hP.kept (fun k q hq => hk _ ((hP k q hq).lt)), va_K.moved hW.alike hK, hD, pt_S_thrown hS hz hk⟩) hS.2.2 (by decide) (by decide)
set_option maxHeartbeats 4000000 in
set_option maxRecDepth 100000 in
/-- append(care, want) takes it -/
theorem c_append (l : Launch) (dC : Nat → ClassId) (dI : Nat → Nat → Nat) (h0 c0 w0 : Nat) (kc kw : ClassId) (k n : Nat) (fc fv : Nat → Int64) (cl su : Int32) (a b : Int64) (sz : Nat) (hk : k < 512) (hno : ∀ j, j < k → ¬ pt_sh (fc j) (fv j) a b) : Met l yX0_append wsX0_append ({ frames := 2, cells := 0, slots := 0, locals := 50 }) (va_Pc [.ref h0, .long a, .long b] (fun U => U.heap.size = sz ∧ va_P (dC, dI) vwCl [(h0, .inr (0, [.ref c0, .ref w0, .int (nI k), .int (nI n), .long (pt_mk n), .int cl, .int su])), (c0, .inl (kc, 512, .inr (.inl fc))), (w0, .inl (kw, 512, .inr (.inl fv)))] U.heap ∧ va_K (dC, dI) vwCl [(kc, .long), (kw, .long)] U ∧ va_D (fun _ => True) [(h0, .inr (0, [.ref c0, .ref w0, .int (nI k), .int (nI n), .long (pt_mk n), .int cl, .int su])), (c0, .inl (kc, 512, .inr (.inl fc))), (w0, .inl (kw, 512, .inr (.inl fv)))])) (va_Qi (fun (r : Int32) _ => r = nI k) (fun (u : Unit) (t : State) => match u with | _ => va_P (dC, dI) vwCl [(h0, .inr (0, [.ref c0, .ref w0, .int (nI (k + 1)), .int (nI n), .long (pt_mk n), .int cl, .int su])), (c0, .inl (kc, 512, .inr (.inl (vp_updL fc k a)))), (w0, .inl (kw, 512, .inr (.inl (vp_updL fv k b))))] t.heap ∧ va_K (dC, dI) vwCl [(kc, .long), (kw, .long)] t ∧ va_D (va_A [(h0, .inr (0, [.ref c0, .ref w0, .int (nI k), .int (nI n), .long (pt_mk n), .int cl, .int su])), (c0, .inl (kc, 512, .inr (.inl fc))), (w0, .inl (kw, 512, .inr (.inl fv)))] sz) [(h0, .inr (0, [.ref c0, .ref w0, .int (nI (k + 1)), .int (nI n), .long (pt_mk n), .int cl, .int su])), (c0, .inl (kc, 512, .inr (.inl (vp_updL fc k a)))), (w0, .inl (kw, 512, .inr (.inl (vp_updL fv k b))))]) (va_A [(h0, .inr (0, [.ref c0, .ref w0, .int (nI k), .int (nI n), .long (pt_mk n), .int cl, .int su])), (c0, .inl (kc, 512, .inr (.inl fc))), (w0, .inl (kw, 512, .inr (.inl fv)))] sz)) 0 0 (va_A [(h0, .inr (0, [.ref c0, .ref w0, .int (nI k), .int (nI n), .long (pt_mk n), .int cl, .int su])), (c0, .inl (kc, 512, .inr (.inl fc))), (w0, .inl (kw, 512, .inr (.inl fv)))] sz) := by
  refine Met.ofW (cc := cX0_append) (maxL := 6) (ret := (some .int)) (by decide) rfl ?_
  intro p e s m args below meth c s₁ B hml hv
  obtain ⟨ha, hsz, hP, hK, hD0⟩ := hv
  subst hsz
  have hx := B.exec
  have hb := B.bytes
  have hr := B.returns
  have hts := atoms_spec (ws := wsX0_append) B.pre
  have hown : s.vm.findClass RX0 = some m.cls := findClass_of_methodNamed B.named
  have hlocks := B.notSynchronized
  have hl := lv_entry ([.ref h0, .long a, .long b]) (n := 6) (Nat.le_of_ble_eq_true rfl)
  refine W.eq (show entryFrame m args 6 = entryFrame m ([.ref h0, .long a, .long b] : List Value).toArray 6 by rw [ha]) ?_
  rw [lg_entry_eq]
  generalize (lg_sl ([.ref h0, .long a, .long b]) ++ List.replicate (6 - (lg_sl ([.ref h0, .long a, .long b])).length) Slot.unset).toArray = ls at hl ⊢
  have hl : lv_has ls 6 [(0, .ref h0), (1, .long a), (3, .long b)] := hl
  have hD := hD0.self (sz := s.heap.size)
  generalize hAe : va_A [(h0, .inr (0, [.ref c0, .ref w0, .int (nI k), .int (nI n), .long (pt_mk n), .int cl, .int su])), (c0, .inl (kc, 512, .inr (.inl fc))), (w0, .inl (kw, 512, .inr (.inl fv)))] s.heap.size = A at hD ⊢
  have hA : ∀ q : Nat, s.heap.size ≤ q → A q := fun q h => by rw [← hAe]; exact Or.inr h
  have hS : va_S A s.heap s.heap [] := va_S.rf
  generalize hQ : MQ below (va_Qi (fun (r : Int32) _ => r = nI k) (fun (u : Unit) (t : State) => match u with | _ => va_P (dC, dI) vwCl [(h0, .inr (0, [.ref c0, .ref w0, .int (nI (k + 1)), .int (nI n), .long (pt_mk n), .int cl, .int su])), (c0, .inl (kc, 512, .inr (.inl (vp_updL fc k a)))), (w0, .inl (kw, 512, .inr (.inl (vp_updL fv k b))))] t.heap ∧ va_K (dC, dI) vwCl [(kc, .long), (kw, .long)] t ∧ va_D A [(h0, .inr (0, [.ref c0, .ref w0, .int (nI (k + 1)), .int (nI n), .long (pt_mk n), .int cl, .int su])), (c0, .inl (kc, 512, .inr (.inl (vp_updL fc k a)))), (w0, .inl (kw, 512, .inr (.inl (vp_updL fv k b))))]) A) args s 0 0 A = Q
  have hP : va_P (dC, dI) vwCl [(h0, .inr (0, [.ref c0, .ref w0, .int (nI k), .int (nI n), .long (pt_mk n), .int cl, .int su])), (c0, .inl (kc, 512, .inr (.inl fc))), (w0, .inl (kw, 512, .inr (.inl fv)))] s.heap := hP
  refine lv_aload_n hx hb dX0_append_0 rfl (lv_at hl 0 rfl) ?_
  refine va_get (D := (dC, dI)) (ci := 0) (v := .int (nI k)) (C := RX0) (T := TX0) (N := 7) hx hb hts (fun w h => List.mem_cons_of_mem _ (pt_wsX0 w h)) hown hK hP 0 rfl rfl 2 (by decide) (hts _ (List.mem_cons_of_mem _ pw34)) (fun _ h9 => h9) rfl dX0_append_1 ?_
  refine lv_sipush (v := 512) hx hb dX0_append_4 (by decide) ?_
  refine lv_icmp_lt (tgt := 25) hx hb dX0_append_7 (by decide) (fun h1 => ?_) (fun h1 => absurd (nI_lt (b := 512) hk (by decide)) h1)
  refine lv_aload_n hx hb dX0_append_25 rfl (lv_at hl 0 rfl) ?_
  refine lv_lload_n hx hb dX0_append_26 rfl (lv_at hl 1 rfl) ?_
  refine lv_lload_n hx hb dX0_append_27 rfl (lv_at hl 2 rfl) ?_
  refine vp_callSi (W.runV (As := [.long a, .long b]) (rest := []) ⟨hx, hb, hml, hown, hts⟩ (c_firstSharing l dC dI h0 c0 w0 kc kw k n fc fv cl su a b (by omega)) (cwV 2 hts (pt_gV pw84 pw85 pw3 pw17 pw86) rfl rfl rfl (by decide +kernel) ⟨Nat.le_of_ble_eq_true rfl, Nat.le_of_ble_eq_true rfl⟩) ⟨fun a U g mk q => by obtain ⟨q0, qP, qK⟩ := q; exact ⟨q0, qP, va_K.moved (u := U) (U := U.calling g mk a) (Vm.Alike.refl U.vm) qK⟩, va_recv hK hP (ci := 0) (q0 := 0) rfl rfl, fun U hU hW => ⟨rfl, by rw [hU]; exact hP, va_K.moved hW.alike hK⟩⟩ rfl rfl hl.1 rfl (lv_room (Nat.le_of_ble_eq_true rfl)) dX0_append_28 ⟨Nat.zero_le _, Nat.zero_le _⟩) (fun r1 hw => ?_)
  have hr1 : r1 = -1 := (pt_F_none (by omega) hw).mpr hno
  refine lv_istore (lv' := [(5, .int r1), (0, .ref h0), (1, .long a), (3, .long b)]) hx hb dX0_append_31 hl (by decide) rfl (fun ls hl => ?_)
  refine lv_iload hx hb dX0_append_33 (lv_at hl 0 rfl) ?_
  refine lv_iconst (v := (-1)) hx hb dX0_append_35 (by decide) ?_
  refine lv_icmp_eq (tgt := 55) hx hb dX0_append_36 (by decide) (fun h2 => ?_) (fun h2 => absurd hr1 h2)
  refine lv_aload_n hx hb dX0_append_55 rfl (lv_at hl 1 rfl) ?_
  refine va_get (D := (dC, dI)) (ci := 0) (v := .ref c0) (C := RX0) (T := TX0) (N := 7) hx hb hts (fun w h => List.mem_cons_of_mem _ (pt_wsX0 w h)) hown hK hP 0 rfl rfl 0 (by decide) (hts _ (List.mem_cons_of_mem _ pw32)) (fun _ h9 => h9) rfl dX0_append_56 ?_
  refine lv_aload_n hx hb dX0_append_59 rfl (lv_at hl 1 rfl) ?_
  refine va_get (D := (dC, dI)) (ci := 0) (v := .int (nI k)) (C := RX0) (T := TX0) (N := 7) hx hb hts (fun w h => List.mem_cons_of_mem _ (pt_wsX0 w h)) hown hK hP 0 rfl rfl 2 (by decide) (hts _ (List.mem_cons_of_mem _ pw34)) (fun _ h9 => h9) rfl dX0_append_60 ?_
  refine lv_lload_n hx hb dX0_append_63 rfl (lv_at hl 2 rfl) ?_
  refine va_last hx hb hK hP hD hS 1 0 rfl rfl (vp_in_nI hk (by decide)) dX0_append_64 (fun H locs hP hD hS => ?_)
  rw [nI_clamp (by omega)] at hP hD
  have hP : va_P (dC, dI) vwCl [(h0, .inr (0, [.ref c0, .ref w0, .int (nI k), .int (nI n), .long (pt_mk n), .int cl, .int su])), (c0, .inl (kc, 512, .inr (.inl (vp_updL fc k a)))), (w0, .inl (kw, 512, .inr (.inl fv)))] H := hP
  have hD : va_D A [(h0, .inr (0, [.ref c0, .ref w0, .int (nI k), .int (nI n), .long (pt_mk n), .int cl, .int su])), (c0, .inl (kc, 512, .inr (.inl (vp_updL fc k a)))), (w0, .inl (kw, 512, .inr (.inl fv)))] := hD
  refine lv_aload_n hx hb dX0_append_65 rfl (lv_at hl 1 rfl) ?_
  refine va_get (D := (dC, dI)) (ci := 0) (v := .ref w0) (C := RX0) (T := TX0) (N := 7) hx hb hts (fun w h => List.mem_cons_of_mem _ (pt_wsX0 w h)) hown hK hP 0 rfl rfl 1 (by decide) (hts _ (List.mem_cons_of_mem _ pw33)) (fun _ h9 => h9) rfl dX0_append_66 ?_
  refine lv_aload_n hx hb dX0_append_69 rfl (lv_at hl 1 rfl) ?_
  refine va_get (D := (dC, dI)) (ci := 0) (v := .int (nI k)) (C := RX0) (T := TX0) (N := 7) hx hb hts (fun w h => List.mem_cons_of_mem _ (pt_wsX0 w h)) hown hK hP 0 rfl rfl 2 (by decide) (hts _ (List.mem_cons_of_mem _ pw34)) (fun _ h9 => h9) rfl dX0_append_70 ?_
  refine lv_lload_n hx hb dX0_append_73 rfl (lv_at hl 3 rfl) ?_
  refine va_last hx hb hK hP hD hS 2 1 rfl rfl (vp_in_nI hk (by decide)) dX0_append_74 (fun H locs hP hD hS => ?_)
  rw [nI_clamp (by omega)] at hP hD
  have hP : va_P (dC, dI) vwCl [(h0, .inr (0, [.ref c0, .ref w0, .int (nI k), .int (nI n), .long (pt_mk n), .int cl, .int su])), (c0, .inl (kc, 512, .inr (.inl (vp_updL fc k a)))), (w0, .inl (kw, 512, .inr (.inl (vp_updL fv k b))))] H := hP
  have hD : va_D A [(h0, .inr (0, [.ref c0, .ref w0, .int (nI k), .int (nI n), .long (pt_mk n), .int cl, .int su])), (c0, .inl (kc, 512, .inr (.inl (vp_updL fc k a)))), (w0, .inl (kw, 512, .inr (.inl (vp_updL fv k b))))] := hD
  refine lv_aload_n hx hb dX0_append_75 rfl (lv_at hl 1 rfl) ?_
  refine lv_dup hx hb dX0_append_76 rfl ?_
  refine va_get (D := (dC, dI)) (ci := 0) (v := .int (nI k)) (C := RX0) (T := TX0) (N := 7) hx hb hts (fun w h => List.mem_cons_of_mem _ (pt_wsX0 w h)) hown hK hP 0 rfl rfl 2 (by decide) (hts _ (List.mem_cons_of_mem _ pw34)) (fun _ h9 => h9) rfl dX0_append_77 ?_
  refine lv_iconst (v := 1) hx hb dX0_append_80 (by decide) ?_
  refine lv_iadd hx hb dX0_append_81 ?_
  rw [nI_1]
  refine va_put (D := (dC, dI)) (ci := 0) (v := .int (nI (k + 1))) (ty := .int) (C := RX0) (T := TX0) (N := 7) hx hb hts (fun w h => List.mem_cons_of_mem _ (pt_wsX0 w h)) tyX0 tyX0_ok nmX0 hown hK hP hD hS 0 rfl rfl 2 (by decide) (hts _ (List.mem_cons_of_mem _ pw34)) (fun _ h9 => h9) rfl (by decide +kernel) rfl rfl (Nat.le_of_ble_eq_true rfl) dX0_append_82 (fun H locs hP hD hS => ?_)
  have hP : va_P (dC, dI) vwCl [(h0, .inr (0, [.ref c0, .ref w0, .int (nI (k + 1)), .int (nI n), .long (pt_mk n), .int cl, .int su])), (c0, .inl (kc, 512, .inr (.inl (vp_updL fc k a)))), (w0, .inl (kw, 512, .inr (.inl (vp_updL fv k b))))] H := hP
  have hD : va_D A [(h0, .inr (0, [.ref c0, .ref w0, .int (nI (k + 1)), .int (nI n), .long (pt_mk n), .int cl, .int su])), (c0, .inl (kc, 512, .inr (.inl (vp_updL fc k a)))), (w0, .inl (kw, 512, .inr (.inl (vp_updL fv k b))))] := hD
  refine lv_aload_n hx hb dX0_append_85 rfl (lv_at hl 1 rfl) ?_
  refine va_get (D := (dC, dI)) (ci := 0) (v := .int (nI (k + 1))) (C := RX0) (T := TX0) (N := 7) hx hb hts (fun w h => List.mem_cons_of_mem _ (pt_wsX0 w h)) hown hK hP 0 rfl rfl 2 (by decide) (hts _ (List.mem_cons_of_mem _ pw34)) (fun _ h9 => h9) rfl dX0_append_86 ?_
  refine lv_iconst (v := 1) hx hb dX0_append_89 (by decide) ?_
  refine lv_isub hx hb dX0_append_90 ?_
  rw [nI_pred]
  rw [← hQ]
  exact W.iret (v := nI k) hx hb hr (fun t ht hW => ⟨⟨nI k, (), rfl, rfl, by rw [ht]; exact hP, va_K.moved hW.alike hK, hD⟩, hS.F ht⟩) hS.2.2 dX0_append_91
set_option maxHeartbeats 4000000 in
set_option maxRecDepth 100000 in
/-- append(care, want) refuses -/
theorem t_append (l : Launch) (hl9 : l.stackTraces = false) (dC : Nat → ClassId) (dI : Nat → Nat → Nat) (s0 : State) (h0X : pt_X s0) (h0 c0 w0 : Nat) (kc kw : ClassId) (k n : Nat) (fc fv : Nat → Int64) (cl su : Int32) (a b : Int64) (sz : Nat) (r : Int32) (hrf : (k = 512 ∧ r = -1) ∨ (k < 512 ∧ pt_F (fun j => pt_sh (fc j) (fv j) a b) k r ∧ ¬ r = -1)) : pt_Thr l yX0_append wsX0_append ({ frames := 6, cells := 1, slots := 6, locals := 82 }) (va_Pc [.ref h0, .long a, .long b] (fun U => U.heap.size = sz ∧ va_P (dC, dI) vwCl [(h0, .inr (0, [.ref c0, .ref w0, .int (nI k), .int (nI n), .long (pt_mk n), .int cl, .int su])), (c0, .inl (kc, 512, .inr (.inl fc))), (w0, .inl (kw, 512, .inr (.inl fv)))] U.heap ∧ va_K (dC, dI) vwCl [(kc, .long), (kw, .long)] U ∧ va_D (fun q => s0.heap.size ≤ q) [(h0, .inr (0, [.ref c0, .ref w0, .int (nI k), .int (nI n), .long (pt_mk n), .int cl, .int su])), (c0, .inl (kc, 512, .inr (.inl fc))), (w0, .inl (kw, 512, .inr (.inl fv)))] ∧ pt_ext s0 U)) "java/lang/IllegalStateException" (fun st t => va_P (dC, dI) vwCl [(h0, .inr (0, [.ref c0, .ref w0, .int (nI k), .int (nI n), .long (pt_mk n), .int r, .int su])), (c0, .inl (kc, 512, .inr (.inl fc))), (w0, .inl (kw, 512, .inr (.inl fv)))] t.heap ∧ va_K (dC, dI) vwCl [(kc, .long), (kw, .long)] t ∧ va_D (va_A [(h0, .inr (0, [.ref c0, .ref w0, .int (nI k), .int (nI n), .long (pt_mk n), .int cl, .int su])), (c0, .inl (kc, 512, .inr (.inl fc))), (w0, .inl (kw, 512, .inr (.inl fv)))] sz) [(h0, .inr (0, [.ref c0, .ref w0, .int (nI k), .int (nI n), .long (pt_mk n), .int r, .int su])), (c0, .inl (kc, 512, .inr (.inl fc))), (w0, .inl (kw, 512, .inr (.inl fv)))] ∧ va_F (va_A [(h0, .inr (0, [.ref c0, .ref w0, .int (nI k), .int (nI n), .long (pt_mk n), .int cl, .int su])), (c0, .inl (kc, 512, .inr (.inl fc))), (w0, .inl (kw, 512, .inr (.inl fv)))] sz) st t) 1 6 (va_A [(h0, .inr (0, [.ref c0, .ref w0, .int (nI k), .int (nI n), .long (pt_mk n), .int cl, .int su])), (c0, .inl (kc, 512, .inr (.inl fc))), (w0, .inl (kw, 512, .inr (.inl fv)))] sz) := by
  refine pt_Thr_ofW (cc := cX0_append) (maxL := 6) (ret := (some .int)) (by decide) rfl ?_
  intro p e s m args below meth c s₁ B hml hnoh hv
  obtain ⟨ha, hsz, hP, hK, hD0, hext⟩ := hv
  subst hsz
  have hx := B.exec
  have hb := B.bytes
  have hr := B.returns
  have hts := atoms_spec (ws := wsX0_append) B.pre
  have hown : s.vm.findClass RX0 = some m.cls := findClass_of_methodNamed B.named
  have hlocks := B.notSynchronized
  have hl := lv_entry ([.ref h0, .long a, .long b]) (n := 6) (Nat.le_of_ble_eq_true rfl)
  refine W.eq (show entryFrame m args 6 = entryFrame m ([.ref h0, .long a, .long b] : List Value).toArray 6 by rw [ha]) ?_
  rw [lg_entry_eq]
  generalize (lg_sl ([.ref h0, .long a, .long b]) ++ List.replicate (6 - (lg_sl ([.ref h0, .long a, .long b])).length) Slot.unset).toArray = ls at hl ⊢
  have hl : lv_has ls 6 [(0, .ref h0), (1, .long a), (3, .long b)] := hl
  have hD := hD0.self (sz := s.heap.size)
  have hAs : ∀ q : Nat, va_A [(h0, .inr (0, [.ref c0, .ref w0, .int (nI k), .int (nI n), .long (pt_mk n), .int cl, .int su])), (c0, .inl (kc, 512, .inr (.inl fc))), (w0, .inl (kw, 512, .inr (.inl fv)))] s.heap.size q → s0.heap.size ≤ q := pt_As hD0 hext.2.1
  generalize hAe : va_A [(h0, .inr (0, [.ref c0, .ref w0, .int (nI k), .int (nI n), .long (pt_mk n), .int cl, .int su])), (c0, .inl (kc, 512, .inr (.inl fc))), (w0, .inl (kw, 512, .inr (.inl fv)))] s.heap.size = A at hD hAs ⊢
  have hA : ∀ q : Nat, s.heap.size ≤ q → A q := fun q h => by rw [← hAe]; exact Or.inr h
  have hS : va_S A s.heap s.heap [] := va_S.rf
  have hP : va_P (dC, dI) vwCl [(h0, .inr (0, [.ref c0, .ref w0, .int (nI k), .int (nI n), .long (pt_mk n), .int cl, .int su])), (c0, .inl (kc, 512, .inr (.inl fc))), (w0, .inl (kw, 512, .inr (.inl fv)))] s.heap := hP
  generalize hQ : pt_TQ below "java/lang/IllegalStateException" (fun st t => va_P (dC, dI) vwCl [(h0, .inr (0, [.ref c0, .ref w0, .int (nI k), .int (nI n), .long (pt_mk n), .int r, .int su])), (c0, .inl (kc, 512, .inr (.inl fc))), (w0, .inl (kw, 512, .inr (.inl fv)))] t.heap ∧ va_K (dC, dI) vwCl [(kc, .long), (kw, .long)] t ∧ va_D A [(h0, .inr (0, [.ref c0, .ref w0, .int (nI k), .int (nI n), .long (pt_mk n), .int r, .int su])), (c0, .inl (kc, 512, .inr (.inl fc))), (w0, .inl (kw, 512, .inr (.inl fv)))] ∧ va_F A st t) s 1 6 A = Q
  rcases hrf with ⟨hk, rfl⟩ | ⟨hk, hF, hne⟩
  · refine lv_aload_n hx hb dX0_append_0 rfl (lv_at hl 0 rfl) ?_
    refine va_get (D := (dC, dI)) (ci := 0) (v := .int (nI k)) (C := RX0) (T := TX0) (N := 7) hx hb hts (fun w h => List.mem_cons_of_mem _ (pt_wsX0 w h)) hown hK hP 0 rfl rfl 2 (by decide) (hts _ (List.mem_cons_of_mem _ pw34)) (fun _ h9 => h9) rfl dX0_append_1 ?_
    refine lv_sipush (v := 512) hx hb dX0_append_4 (by decide) ?_
    refine lv_icmp_lt (tgt := 25) hx hb dX0_append_7 (by decide) (fun h1 => absurd h1 (nI_nlt (b := 512) (by omega) (by omega))) (fun h1 => ?_)
    refine lv_aload_n hx hb dX0_append_10 rfl (lv_at hl 0 rfl) ?_
    refine lv_iconst (v := (-1)) hx hb dX0_append_11 (by decide) ?_
    refine va_put (D := (dC, dI)) (ci := 0) (v := .int (-1)) (ty := .int) (C := RX0) (T := TX0) (N := 7) hx hb hts (fun w h => List.mem_cons_of_mem _ (pt_wsX0 w h)) tyX0 tyX0_ok nmX0 hown hK hP hD hS 0 rfl rfl 5 (by decide) (hts _ (List.mem_cons_of_mem _ pw37)) (fun _ h9 => h9) rfl (by decide +kernel) rfl rfl (Nat.le_of_ble_eq_true rfl) dX0_append_12 (fun H locs hP hD hS => ?_)
    have hP : va_P (dC, dI) vwCl [(h0, .inr (0, [.ref c0, .ref w0, .int (nI k), .int (nI n), .long (pt_mk n), .int (-1), .int su])), (c0, .inl (kc, 512, .inr (.inl fc))), (w0, .inl (kw, 512, .inr (.inl fv)))] H := hP
    have hD : va_D A [(h0, .inr (0, [.ref c0, .ref w0, .int (nI k), .int (nI n), .long (pt_mk n), .int (-1), .int su])), (c0, .inl (kc, 512, .inr (.inl fc))), (w0, .inl (kw, 512, .inr (.inl fv)))] := hD
    obtain ⟨sa, hstr⟩ := h0X.2.1 101 "512 patterns are there" (by decide)
    rw [← hQ]
    exact pt_throwS (own := RX0) (cls := "java/lang/IllegalStateException") (text := "512 patterns are there") (names := ["java/lang/RuntimeException", "java/lang/Exception"]) (ik := 99) (is := 101) (ic := 103) (sa := sa) hx hb hl9 hown (by decide) (by decide) (fun U hU hV w hw => pt_X_at h0X (hext.on hS hAs hU hV) w (pt_xw_in_ise w hw) _) (vk_R.warm hext.1 hstr) (hl.1.trans hml.symm) dX0_append_15 dX0_append_18 dX0_append_19 dX0_append_21 dX0_append_24 hnoh (by decide) (by decide) (by decide) (by decide) hlocks (fun t hW hz hk => ⟨hP.kept (fun k q hq => hk _ ((hP k q hq).lt)), va_K.moved hW.alike hK, hD, pt_S_thrown hS hz hk⟩) hS.2.2 (by decide) (by decide)
  · refine lv_aload_n hx hb dX0_append_0 rfl (lv_at hl 0 rfl) ?_
    refine va_get (D := (dC, dI)) (ci := 0) (v := .int (nI k)) (C := RX0) (T := TX0) (N := 7) hx hb hts (fun w h => List.mem_cons_of_mem _ (pt_wsX0 w h)) hown hK hP 0 rfl rfl 2 (by decide) (hts _ (List.mem_cons_of_mem _ pw34)) (fun _ h9 => h9) rfl dX0_append_1 ?_
    refine lv_sipush (v := 512) hx hb dX0_append_4 (by decide) ?_
    refine lv_icmp_lt (tgt := 25) hx hb dX0_append_7 (by decide) (fun h1 => ?_) (fun h1 => absurd (nI_lt (b := 512) hk (by decide)) h1)
    refine lv_aload_n hx hb dX0_append_25 rfl (lv_at hl 0 rfl) ?_
    refine lv_lload_n hx hb dX0_append_26 rfl (lv_at hl 1 rfl) ?_
    refine lv_lload_n hx hb dX0_append_27 rfl (lv_at hl 2 rfl) ?_
    refine vp_callSi (W.runV (As := [.long a, .long b]) (rest := []) ⟨hx, hb, hml, hown, hts⟩ (c_firstSharing l dC dI h0 c0 w0 kc kw k n fc fv cl su a b (by omega)) (cwV 2 hts (pt_gV pw84 pw85 pw3 pw17 pw86) rfl rfl rfl (by decide +kernel) ⟨Nat.le_of_ble_eq_true rfl, Nat.le_of_ble_eq_true rfl⟩) ⟨fun a U g mk q => by obtain ⟨q0, qP, qK⟩ := q; exact ⟨q0, qP, va_K.moved (u := U) (U := U.calling g mk a) (Vm.Alike.refl U.vm) qK⟩, va_recv hK hP (ci := 0) (q0 := 0) rfl rfl, fun U hU hW => ⟨rfl, by rw [hU]; exact hP, va_K.moved hW.alike hK⟩⟩ rfl rfl hl.1 rfl (lv_room (Nat.le_of_ble_eq_true rfl)) dX0_append_28 ⟨Nat.zero_le _, Nat.zero_le _⟩) (fun r1 hw => ?_)
    obtain rfl : r1 = r := pt_F_unique (fun _ _ => Iff.rfl) hw hF
    refine lv_istore (lv' := [(5, .int r1), (0, .ref h0), (1, .long a), (3, .long b)]) hx hb dX0_append_31 hl (by decide) rfl (fun ls hl => ?_)
    refine lv_iload hx hb dX0_append_33 (lv_at hl 0 rfl) ?_
    refine lv_iconst (v := (-1)) hx hb dX0_append_35 (by decide) ?_
    refine lv_icmp_eq (tgt := 55) hx hb dX0_append_36 (by decide) (fun h2 => absurd h2 hne) (fun h2 => ?_)
    refine lv_aload_n hx hb dX0_append_39 rfl (lv_at hl 1 rfl) ?_
    refine lv_iload hx hb dX0_append_40 (lv_at hl 0 rfl) ?_
    refine va_put (D := (dC, dI)) (ci := 0) (v := .int r1) (ty := .int) (C := RX0) (T := TX0) (N := 7) hx hb hts (fun w h => List.mem_cons_of_mem _ (pt_wsX0 w h)) tyX0 tyX0_ok nmX0 hown hK hP hD hS 0 rfl rfl 5 (by decide) (hts _ (List.mem_cons_of_mem _ pw37)) (fun _ h9 => h9) rfl (by decide +kernel) rfl rfl (Nat.le_of_ble_eq_true rfl) dX0_append_42 (fun H locs hP hD hS => ?_)
    have hP : va_P (dC, dI) vwCl [(h0, .inr (0, [.ref c0, .ref w0, .int (nI k), .int (nI n), .long (pt_mk n), .int r1, .int su])), (c0, .inl (kc, 512, .inr (.inl fc))), (w0, .inl (kw, 512, .inr (.inl fv)))] H := hP
    have hD : va_D A [(h0, .inr (0, [.ref c0, .ref w0, .int (nI k), .int (nI n), .long (pt_mk n), .int r1, .int su])), (c0, .inl (kc, 512, .inr (.inl fc))), (w0, .inl (kw, 512, .inr (.inl fv)))] := hD
    obtain ⟨sa, hstr⟩ := h0X.2.1 104 "clashes with a pattern" (by decide)
    rw [← hQ]
    exact pt_throwS (own := RX0) (cls := "java/lang/IllegalStateException") (text := "clashes with a pattern") (names := ["java/lang/RuntimeException", "java/lang/Exception"]) (ik := 99) (is := 104) (ic := 103) (sa := sa) hx hb hl9 hown (by decide) (by decide) (fun U hU hV w hw => pt_X_at h0X (hext.on hS hAs hU hV) w (pt_xw_in_ise w hw) _) (vk_R.warm hext.1 hstr) (hl.1.trans hml.symm) dX0_append_45 dX0_append_48 dX0_append_49 dX0_append_51 dX0_append_54 hnoh (by decide) (by decide) (by decide) (by decide) hlocks (fun t hW hz hk => ⟨hP.kept (fun k q hq => hk _ ((hP k q hq).lt)), va_K.moved hW.alike hK, hD, pt_S_thrown hS hz hk⟩) hS.2.2 (by decide) (by decide)
set_option maxHeartbeats 4000000 in
set_option maxRecDepth 100000 in
/-- add(care, want) takes it -/
theorem c_add (l : Launch) (dC : Nat → ClassId) (dI : Nat → Nat → Nat) (h0 c0 w0 : Nat) (kc kw : ClassId) (k n : Nat) (fc fv : Nat → Int64) (cl su : Int32) (a b : Int64) (sz : Nat) (hst : ¬ pt_stray n a b) (hk : k < 512) (hno : ∀ j, j < k → ¬ pt_sh (fc j) (fv j) (a &&& pt_mk n) (b &&& pt_mk n)) : Met l yX0_add wsX0_add ({ frames := 3, cells := 0, slots := 0, locals := 75 }) (va_Pc [.ref h0, .long a, .long b] (fun U => U.heap.size = sz ∧ va_P (dC, dI) vwCl [(h0, .inr (0, [.ref c0, .ref w0, .int (nI k), .int (nI n), .long (pt_mk n), .int cl, .int su])), (c0, .inl (kc, 512, .inr (.inl fc))), (w0, .inl (kw, 512, .inr (.inl fv)))] U.heap ∧ va_K (dC, dI) vwCl [(kc, .long), (kw, .long)] U ∧ va_D (fun _ => True) [(h0, .inr (0, [.ref c0, .ref w0, .int (nI k), .int (nI n), .long (pt_mk n), .int cl, .int su])), (c0, .inl (kc, 512, .inr (.inl fc))), (w0, .inl (kw, 512, .inr (.inl fv)))])) (va_Qi (fun (r : Int32) _ => r = nI k) (fun (u : Unit) (t : State) => match u with | _ => va_P (dC, dI) vwCl [(h0, .inr (0, [.ref c0, .ref w0, .int (nI (k + 1)), .int (nI n), .long (pt_mk n), .int cl, .int su])), (c0, .inl (kc, 512, .inr (.inl (vp_updL fc k (a &&& pt_mk n))))), (w0, .inl (kw, 512, .inr (.inl (vp_updL fv k (b &&& pt_mk n)))))] t.heap ∧ va_K (dC, dI) vwCl [(kc, .long), (kw, .long)] t ∧ va_D (va_A [(h0, .inr (0, [.ref c0, .ref w0, .int (nI k), .int (nI n), .long (pt_mk n), .int cl, .int su])), (c0, .inl (kc, 512, .inr (.inl fc))), (w0, .inl (kw, 512, .inr (.inl fv)))] sz) [(h0, .inr (0, [.ref c0, .ref w0, .int (nI (k + 1)), .int (nI n), .long (pt_mk n), .int cl, .int su])), (c0, .inl (kc, 512, .inr (.inl (vp_updL fc k (a &&& pt_mk n))))), (w0, .inl (kw, 512, .inr (.inl (vp_updL fv k (b &&& pt_mk n)))))]) (va_A [(h0, .inr (0, [.ref c0, .ref w0, .int (nI k), .int (nI n), .long (pt_mk n), .int cl, .int su])), (c0, .inl (kc, 512, .inr (.inl fc))), (w0, .inl (kw, 512, .inr (.inl fv)))] sz)) 0 0 (va_A [(h0, .inr (0, [.ref c0, .ref w0, .int (nI k), .int (nI n), .long (pt_mk n), .int cl, .int su])), (c0, .inl (kc, 512, .inr (.inl fc))), (w0, .inl (kw, 512, .inr (.inl fv)))] sz) := by
  refine Met.ofW (cc := cX0_add) (maxL := 5) (ret := (some .int)) (by decide) rfl ?_
  intro p e s m args below meth c s₁ B hml hv
  obtain ⟨ha, hsz, hP, hK, hD0⟩ := hv
  subst hsz
  have hx := B.exec
  have hb := B.bytes
  have hr := B.returns
  have hts := atoms_spec (ws := wsX0_add) B.pre
  have hown : s.vm.findClass RX0 = some m.cls := findClass_of_methodNamed B.named
  have hlocks := B.notSynchronized
  have hl := lv_entry ([.ref h0, .long a, .long b]) (n := 5) (Nat.le_of_ble_eq_true rfl)
  refine W.eq (show entryFrame m args 5 = entryFrame m ([.ref h0, .long a, .long b] : List Value).toArray 5 by rw [ha]) ?_
  rw [lg_entry_eq]
  generalize (lg_sl ([.ref h0, .long a, .long b]) ++ List.replicate (5 - (lg_sl ([.ref h0, .long a, .long b])).length) Slot.unset).toArray = ls at hl ⊢
  have hl : lv_has ls 5 [(0, .ref h0), (1, .long a), (3, .long b)] := hl
  have hD := hD0.self (sz := s.heap.size)
  generalize hAe : va_A [(h0, .inr (0, [.ref c0, .ref w0, .int (nI k), .int (nI n), .long (pt_mk n), .int cl, .int su])), (c0, .inl (kc, 512, .inr (.inl fc))), (w0, .inl (kw, 512, .inr (.inl fv)))] s.heap.size = A at hD ⊢
  have hA : ∀ q : Nat, s.heap.size ≤ q → A q := fun q h => by rw [← hAe]; exact Or.inr h
  have hS : va_S A s.heap s.heap [] := va_S.rf
  generalize hQ : MQ below (va_Qi (fun (r : Int32) _ => r = nI k) (fun (u : Unit) (t : State) => match u with | _ => va_P (dC, dI) vwCl [(h0, .inr (0, [.ref c0, .ref w0, .int (nI (k + 1)), .int (nI n), .long (pt_mk n), .int cl, .int su])), (c0, .inl (kc, 512, .inr (.inl (vp_updL fc k (a &&& pt_mk n))))), (w0, .inl (kw, 512, .inr (.inl (vp_updL fv k (b &&& pt_mk n)))))] t.heap ∧ va_K (dC, dI) vwCl [(kc, .long), (kw, .long)] t ∧ va_D A [(h0, .inr (0, [.ref c0, .ref w0, .int (nI (k + 1)), .int (nI n), .long (pt_mk n), .int cl, .int su])), (c0, .inl (kc, 512, .inr (.inl (vp_updL fc k (a &&& pt_mk n))))), (w0, .inl (kw, 512, .inr (.inl (vp_updL fv k (b &&& pt_mk n)))))]) A) args s 0 0 A = Q
  have hP : va_P (dC, dI) vwCl [(h0, .inr (0, [.ref c0, .ref w0, .int (nI k), .int (nI n), .long (pt_mk n), .int cl, .int su])), (c0, .inl (kc, 512, .inr (.inl fc))), (w0, .inl (kw, 512, .inr (.inl fv)))] s.heap := hP
  refine lv_aload_n hx hb dX0_add_0 rfl (lv_at hl 0 rfl) ?_
  refine lv_lload_n hx hb dX0_add_1 rfl (lv_at hl 1 rfl) ?_
  refine lv_lload_n hx hb dX0_add_2 rfl (lv_at hl 2 rfl) ?_
  refine va_csv (W.runV (As := [.long a, .long b]) (rest := []) ⟨hx, hb, hml, hown, hts⟩ (c_refuseStrayWant l dC dI h0 c0 w0 kc kw k n fc fv cl su a b hst) (cwV 2 hts (pt_gV pw76 pw77 pw1 pw17 pw78) rfl rfl rfl (by decide +kernel) ⟨Nat.le_of_ble_eq_true rfl, Nat.le_of_ble_eq_true rfl⟩) ⟨fun a U g mk q => by obtain ⟨q0, qP, qK⟩ := q; exact ⟨q0, qP, va_K.moved (u := U) (U := U.calling g mk a) (Vm.Alike.refl U.vm) qK⟩, va_recv hK hP (ci := 0) (q0 := 0) rfl rfl, fun U hU hW => ⟨rfl, by rw [hU]; exact hP, va_K.moved hW.alike hK⟩⟩ rfl rfl hl.1 rfl (lv_room (Nat.le_of_ble_eq_true rfl)) dX0_add_3 ⟨Nat.zero_le _, Nat.zero_le _⟩) (fun hw => ?_)
  refine lv_aload_n hx hb dX0_add_6 rfl (lv_at hl 0 rfl) ?_
  refine lv_lload_n hx hb dX0_add_7 rfl (lv_at hl 1 rfl) ?_
  refine lv_aload_n hx hb dX0_add_8 rfl (lv_at hl 0 rfl) ?_
  refine va_get (D := (dC, dI)) (ci := 0) (v := .long (pt_mk n)) (C := RX0) (T := TX0) (N := 7) hx hb hts (fun w h => List.mem_cons_of_mem _ (pt_wsX0 w h)) hown hK hP 0 rfl rfl 4 (by decide) (hts _ (List.mem_cons_of_mem _ pw36)) (fun _ h9 => h9) rfl dX0_add_9 ?_
  refine lv_land hx hb dX0_add_12 ?_
  refine lv_lload_n hx hb dX0_add_13 rfl (lv_at hl 2 rfl) ?_
  refine lv_aload_n hx hb dX0_add_14 rfl (lv_at hl 0 rfl) ?_
  refine va_get (D := (dC, dI)) (ci := 0) (v := .long (pt_mk n)) (C := RX0) (T := TX0) (N := 7) hx hb hts (fun w h => List.mem_cons_of_mem _ (pt_wsX0 w h)) hown hK hP 0 rfl rfl 4 (by decide) (hts _ (List.mem_cons_of_mem _ pw36)) (fun _ h9 => h9) rfl dX0_add_15 ?_
  refine lv_land hx hb dX0_add_18 ?_
  have hPc := hP.sub (ws' := [(h0, .inr (0, [.ref c0, .ref w0, .int (nI k), .int (nI n), .long (pt_mk n), .int cl, .int su])), (c0, .inl (kc, 512, .inr (.inl fc))), (w0, .inl (kw, 512, .inr (.inl fv)))]) [0, 1, 2] rfl
  have hDc := hD.sub (ws' := [(h0, .inr (0, [.ref c0, .ref w0, .int (nI k), .int (nI n), .long (pt_mk n), .int cl, .int su])), (c0, .inl (kc, 512, .inr (.inl fc))), (w0, .inl (kw, 512, .inr (.inl fv)))]) [0, 1, 2] (by decide) rfl
  have hKc := hK.sub (tys' := [(kc, .long), (kw, .long)]) [0, 1] rfl
  have hFc := va_free (wc := [(h0, .inr (0, [.ref c0, .ref w0, .int (nI k), .int (nI n), .long (pt_mk n), .int cl, .int su])), (c0, .inl (kc, 512, .inr (.inl fc))), (w0, .inl (kw, 512, .inr (.inl fv)))]) hD hS hA [0, 1, 2] rfl
  refine va_calli (va_runV (As := [.long (a &&& (pt_mk n)), .long (b &&& (pt_mk n))]) (rest := []) ⟨hx, hb, hml, hown, hts⟩ (c_append l dC dI h0 c0 w0 kc kw k n fc fv cl su (a &&& pt_mk n) (b &&& pt_mk n) s.heap.size hk hno) (cwV 2 hts (pt_gV pw79 pw80 pw2 pw17 pw81) rfl rfl rfl (by decide +kernel) ⟨Nat.le_of_ble_eq_true rfl, Nat.le_of_ble_eq_true rfl⟩) ⟨fun a U g mk q => by obtain ⟨q0, q1, qP, qK, qD⟩ := q; exact ⟨q0, q1, qP, va_K.moved (u := U) (U := U.calling g mk a) (Vm.Alike.refl U.vm) qK, qD⟩, va_recv hK hP (ci := 0) (q0 := 0) rfl rfl, fun U hU hW => ⟨rfl, by rw [hU], by rw [hU]; exact hPc, va_K.moved hW.alike hKc, hDc.weaken (fun _ _ _ _ => trivial)⟩⟩ rfl rfl hl.1 rfl (lv_room (Nat.le_of_ble_eq_true rfl)) dX0_add_19 ⟨Nat.zero_le _, Nat.zero_le _⟩) hS (fun q _ h => hFc q h) hFc (fun r2 u t H1 locs ht hvm hw hB hz1 hk1 hS => ?_)
  obtain ⟨hP1, hK1, hD1⟩ := hB
  rw [ht] at hP1
  obtain ⟨hP, hD⟩ := va_join (wr := ([] : va_W)) (w1 := [(h0, .inr (0, [.ref c0, .ref w0, .int (nI (k + 1)), .int (nI n), .long (pt_mk n), .int cl, .int su])), (c0, .inl (kc, 512, .inr (.inl (vp_updL fc k (a &&& pt_mk n))))), (w0, .inl (kw, 512, .inr (.inl (vp_updL fv k (b &&& pt_mk n)))))]) hP hD [0, 1, 2] [] rfl rfl (by decide) (by decide) hk1 hFc hP1 hD1
  generalize H1 = H at hP hS ⊢
  have hP : va_P (dC, dI) vwCl [(h0, .inr (0, [.ref c0, .ref w0, .int (nI (k + 1)), .int (nI n), .long (pt_mk n), .int cl, .int su])), (c0, .inl (kc, 512, .inr (.inl (vp_updL fc k (a &&& pt_mk n))))), (w0, .inl (kw, 512, .inr (.inl (vp_updL fv k (b &&& pt_mk n)))))] H := hP
  have hD : va_D A [(h0, .inr (0, [.ref c0, .ref w0, .int (nI (k + 1)), .int (nI n), .long (pt_mk n), .int cl, .int su])), (c0, .inl (kc, 512, .inr (.inl (vp_updL fc k (a &&& pt_mk n))))), (w0, .inl (kw, 512, .inr (.inl (vp_updL fv k (b &&& pt_mk n)))))] := hD
  subst hw
  rw [← hQ]
  exact W.iret (v := nI k) hx hb hr (fun t ht hW => ⟨⟨nI k, (), rfl, rfl, by rw [ht]; exact hP, va_K.moved hW.alike hK, hD⟩, hS.F ht⟩) hS.2.2 dX0_add_22
set_option maxHeartbeats 4000000 in
set_option maxRecDepth 100000 in
/-- add(care, want): bad -/
theorem t_add_bad (l : Launch) (hl9 : l.stackTraces = false) (dC : Nat → ClassId) (dI : Nat → Nat → Nat) (s0 : State) (h0X : pt_X s0) (h0 c0 w0 : Nat) (kc kw : ClassId) (k n : Nat) (fc fv : Nat → Int64) (cl su : Int32) (a b : Int64) (sz : Nat) (hst : pt_stray n a b) : pt_Thr l yX0_add wsX0_add ({ frames := 7, cells := 1, slots := 6, locals := 106 }) (va_Pc [.ref h0, .long a, .long b] (fun U => U.heap.size = sz ∧ va_P (dC, dI) vwCl [(h0, .inr (0, [.ref c0, .ref w0, .int (nI k), .int (nI n), .long (pt_mk n), .int cl, .int su])), (c0, .inl (kc, 512, .inr (.inl fc))), (w0, .inl (kw, 512, .inr (.inl fv)))] U.heap ∧ va_K (dC, dI) vwCl [(kc, .long), (kw, .long)] U ∧ va_D (fun q => s0.heap.size ≤ q) [(h0, .inr (0, [.ref c0, .ref w0, .int (nI k), .int (nI n), .long (pt_mk n), .int cl, .int su])), (c0, .inl (kc, 512, .inr (.inl fc))), (w0, .inl (kw, 512, .inr (.inl fv)))] ∧ pt_ext s0 U)) "java/lang/IllegalArgumentException" (fun st t => va_P (dC, dI) vwCl [(h0, .inr (0, [.ref c0, .ref w0, .int (nI k), .int (nI n), .long (pt_mk n), .int cl, .int su])), (c0, .inl (kc, 512, .inr (.inl fc))), (w0, .inl (kw, 512, .inr (.inl fv)))] t.heap ∧ va_K (dC, dI) vwCl [(kc, .long), (kw, .long)] t ∧ va_D (va_A [(h0, .inr (0, [.ref c0, .ref w0, .int (nI k), .int (nI n), .long (pt_mk n), .int cl, .int su])), (c0, .inl (kc, 512, .inr (.inl fc))), (w0, .inl (kw, 512, .inr (.inl fv)))] sz) [(h0, .inr (0, [.ref c0, .ref w0, .int (nI k), .int (nI n), .long (pt_mk n), .int cl, .int su])), (c0, .inl (kc, 512, .inr (.inl fc))), (w0, .inl (kw, 512, .inr (.inl fv)))] ∧ va_F (va_A [(h0, .inr (0, [.ref c0, .ref w0, .int (nI k), .int (nI n), .long (pt_mk n), .int cl, .int su])), (c0, .inl (kc, 512, .inr (.inl fc))), (w0, .inl (kw, 512, .inr (.inl fv)))] sz) st t) 1 6 (va_A [(h0, .inr (0, [.ref c0, .ref w0, .int (nI k), .int (nI n), .long (pt_mk n), .int cl, .int su])), (c0, .inl (kc, 512, .inr (.inl fc))), (w0, .inl (kw, 512, .inr (.inl fv)))] sz) := by
  refine pt_Thr_ofW (cc := cX0_add) (maxL := 5) (ret := (some .int)) (by decide) rfl ?_
  intro p e s m args below meth c s₁ B hml hnoh hv
  obtain ⟨ha, hsz, hP, hK, hD0, hext⟩ := hv
  subst hsz
  have hx := B.exec
  have hb := B.bytes
  have hr := B.returns
  have hts := atoms_spec (ws := wsX0_add) B.pre
  have hown : s.vm.findClass RX0 = some m.cls := findClass_of_methodNamed B.named
  have hlocks := B.notSynchronized
  have hl := lv_entry ([.ref h0, .long a, .long b]) (n := 5) (Nat.le_of_ble_eq_true rfl)
  refine W.eq (show entryFrame m args 5 = entryFrame m ([.ref h0, .long a, .long b] : List Value).toArray 5 by rw [ha]) ?_
  rw [lg_entry_eq]
  generalize (lg_sl ([.ref h0, .long a, .long b]) ++ List.replicate (5 - (lg_sl ([.ref h0, .long a, .long b])).length) Slot.unset).toArray = ls at hl ⊢
  have hl : lv_has ls 5 [(0, .ref h0), (1, .long a), (3, .long b)] := hl
  have hD := hD0.self (sz := s.heap.size)
  have hAs : ∀ q : Nat, va_A [(h0, .inr (0, [.ref c0, .ref w0, .int (nI k), .int (nI n), .long (pt_mk n), .int cl, .int su])), (c0, .inl (kc, 512, .inr (.inl fc))), (w0, .inl (kw, 512, .inr (.inl fv)))] s.heap.size q → s0.heap.size ≤ q := pt_As hD0 hext.2.1
  generalize hAe : va_A [(h0, .inr (0, [.ref c0, .ref w0, .int (nI k), .int (nI n), .long (pt_mk n), .int cl, .int su])), (c0, .inl (kc, 512, .inr (.inl fc))), (w0, .inl (kw, 512, .inr (.inl fv)))] s.heap.size = A at hD hAs ⊢
  have hA : ∀ q : Nat, s.heap.size ≤ q → A q := fun q h => by rw [← hAe]; exact Or.inr h
  have hS : va_S A s.heap s.heap [] := va_S.rf
  have hP : va_P (dC, dI) vwCl [(h0, .inr (0, [.ref c0, .ref w0, .int (nI k), .int (nI n), .long (pt_mk n), .int cl, .int su])), (c0, .inl (kc, 512, .inr (.inl fc))), (w0, .inl (kw, 512, .inr (.inl fv)))] s.heap := hP
  generalize hQ : pt_TQ below "java/lang/IllegalArgumentException" (fun st t => va_P (dC, dI) vwCl [(h0, .inr (0, [.ref c0, .ref w0, .int (nI k), .int (nI n), .long (pt_mk n), .int cl, .int su])), (c0, .inl (kc, 512, .inr (.inl fc))), (w0, .inl (kw, 512, .inr (.inl fv)))] t.heap ∧ va_K (dC, dI) vwCl [(kc, .long), (kw, .long)] t ∧ va_D A [(h0, .inr (0, [.ref c0, .ref w0, .int (nI k), .int (nI n), .long (pt_mk n), .int cl, .int su])), (c0, .inl (kc, 512, .inr (.inl fc))), (w0, .inl (kw, 512, .inr (.inl fv)))] ∧ va_F A st t) s 1 6 A = Q
  refine lv_aload_n hx hb dX0_add_0 rfl (lv_at hl 0 rfl) ?_
  refine lv_lload_n hx hb dX0_add_1 rfl (lv_at hl 1 rfl) ?_
  refine lv_lload_n hx hb dX0_add_2 rfl (lv_at hl 2 rfl) ?_
  rw [← hQ, ← hAe]
  exact pt_out (pt_runT (As := [.long a, .long b]) (rest := []) ⟨hx, hb, hml, hown, hts⟩ (t_refuseStrayWant l hl9 dC dI s0 h0X h0 c0 w0 kc kw k n fc fv cl su a b s.heap.size hst) (cwV 2 hts (pt_gV pw76 pw77 pw1 pw17 pw78) rfl rfl rfl (by decide +kernel) ⟨Nat.le_of_ble_eq_true rfl, Nat.le_of_ble_eq_true rfl⟩) ⟨fun a U g mk q => by obtain ⟨q0, q1, qP, qK, qD, qX⟩ := q; exact ⟨q0, q1, qP, va_K.moved (u := U) (U := U.calling g mk a) (Vm.Alike.refl U.vm) qK, qD, qX⟩, va_recv hK hP (ci := 0) (q0 := 0) rfl rfl, fun U hU hW => ⟨rfl, by rw [hU], by rw [hU]; exact hP, va_K.moved hW.alike hK, hD0, hext.same hU hW⟩⟩ rfl rfl hl.1 rfl (lv_room (Nat.le_of_ble_eq_true rfl)) dX0_add_3 ⟨by decide, by decide⟩) hnoh hlocks (fun st t t2 h1 h2 h3 h4 h5 => ⟨by rw [h4]; exact h3.1, va_K.moved (by rw [h5]; exact Vm.Alike.refl _) h3.2.1, h3.2.2.1, pt_F_same h1 h4 h3.2.2.2⟩) t_nil (fun _ h => h) (by decide) (by decide)
set_option maxHeartbeats 4000000 in
set_option maxRecDepth 100000 in
/-- add(care, want): refused -/
theorem t_add_ref (l : Launch) (hl9 : l.stackTraces = false) (dC : Nat → ClassId) (dI : Nat → Nat → Nat) (s0 : State) (h0X : pt_X s0) (h0 c0 w0 : Nat) (kc kw : ClassId) (k n : Nat) (fc fv : Nat → Int64) (cl su : Int32) (a b : Int64) (sz : Nat) (hst : ¬ pt_stray n a b) (r : Int32) (hrf : (k = 512 ∧ r = -1) ∨ (k < 512 ∧ pt_F (fun j => pt_sh (fc j) (fv j) (a &&& pt_mk n) (b &&& pt_mk n)) k r ∧ ¬ r = -1)) : pt_Thr l yX0_add wsX0_add ({ frames := 7, cells := 1, slots := 6, locals := 107 }) (va_Pc [.ref h0, .long a, .long b] (fun U => U.heap.size = sz ∧ va_P (dC, dI) vwCl [(h0, .inr (0, [.ref c0, .ref w0, .int (nI k), .int (nI n), .long (pt_mk n), .int cl, .int su])), (c0, .inl (kc, 512, .inr (.inl fc))), (w0, .inl (kw, 512, .inr (.inl fv)))] U.heap ∧ va_K (dC, dI) vwCl [(kc, .long), (kw, .long)] U ∧ va_D (fun q => s0.heap.size ≤ q) [(h0, .inr (0, [.ref c0, .ref w0, .int (nI k), .int (nI n), .long (pt_mk n), .int cl, .int su])), (c0, .inl (kc, 512, .inr (.inl fc))), (w0, .inl (kw, 512, .inr (.inl fv)))] ∧ pt_ext s0 U)) "java/lang/IllegalStateException" (fun st t => va_P (dC, dI) vwCl [(h0, .inr (0, [.ref c0, .ref w0, .int (nI k), .int (nI n), .long (pt_mk n), .int r, .int su])), (c0, .inl (kc, 512, .inr (.inl fc))), (w0, .inl (kw, 512, .inr (.inl fv)))] t.heap ∧ va_K (dC, dI) vwCl [(kc, .long), (kw, .long)] t ∧ va_D (va_A [(h0, .inr (0, [.ref c0, .ref w0, .int (nI k), .int (nI n), .long (pt_mk n), .int cl, .int su])), (c0, .inl (kc, 512, .inr (.inl fc))), (w0, .inl (kw, 512, .inr (.inl fv)))] sz) [(h0, .inr (0, [.ref c0, .ref w0, .int (nI k), .int (nI n), .long (pt_mk n), .int r, .int su])), (c0, .inl (kc, 512, .inr (.inl fc))), (w0, .inl (kw, 512, .inr (.inl fv)))] ∧ va_F (va_A [(h0, .inr (0, [.ref c0, .ref w0, .int (nI k), .int (nI n), .long (pt_mk n), .int cl, .int su])), (c0, .inl (kc, 512, .inr (.inl fc))), (w0, .inl (kw, 512, .inr (.inl fv)))] sz) st t) 1 6 (va_A [(h0, .inr (0, [.ref c0, .ref w0, .int (nI k), .int (nI n), .long (pt_mk n), .int cl, .int su])), (c0, .inl (kc, 512, .inr (.inl fc))), (w0, .inl (kw, 512, .inr (.inl fv)))] sz) := by
  refine pt_Thr_ofW (cc := cX0_add) (maxL := 5) (ret := (some .int)) (by decide) rfl ?_
  intro p e s m args below meth c s₁ B hml hnoh hv
  obtain ⟨ha, hsz, hP, hK, hD0, hext⟩ := hv
  subst hsz
  have hx := B.exec
  have hb := B.bytes
  have hr := B.returns
  have hts := atoms_spec (ws := wsX0_add) B.pre
  have hown : s.vm.findClass RX0 = some m.cls := findClass_of_methodNamed B.named
  have hlocks := B.notSynchronized
  have hl := lv_entry ([.ref h0, .long a, .long b]) (n := 5) (Nat.le_of_ble_eq_true rfl)
  refine W.eq (show entryFrame m args 5 = entryFrame m ([.ref h0, .long a, .long b] : List Value).toArray 5 by rw [ha]) ?_
  rw [lg_entry_eq]
  generalize (lg_sl ([.ref h0, .long a, .long b]) ++ List.replicate (5 - (lg_sl ([.ref h0, .long a, .long b])).length) Slot.unset).toArray = ls at hl ⊢
  have hl : lv_has ls 5 [(0, .ref h0), (1, .long a), (3, .long b)] := hl
  have hD := hD0.self (sz := s.heap.size)
  have hAs : ∀ q : Nat, va_A [(h0, .inr (0, [.ref c0, .ref w0, .int (nI k), .int (nI n), .long (pt_mk n), .int cl, .int su])), (c0, .inl (kc, 512, .inr (.inl fc))), (w0, .inl (kw, 512, .inr (.inl fv)))] s.heap.size q → s0.heap.size ≤ q := pt_As hD0 hext.2.1
  generalize hAe : va_A [(h0, .inr (0, [.ref c0, .ref w0, .int (nI k), .int (nI n), .long (pt_mk n), .int cl, .int su])), (c0, .inl (kc, 512, .inr (.inl fc))), (w0, .inl (kw, 512, .inr (.inl fv)))] s.heap.size = A at hD hAs ⊢
  have hA : ∀ q : Nat, s.heap.size ≤ q → A q := fun q h => by rw [← hAe]; exact Or.inr h
  have hS : va_S A s.heap s.heap [] := va_S.rf
  have hP : va_P (dC, dI) vwCl [(h0, .inr (0, [.ref c0, .ref w0, .int (nI k), .int (nI n), .long (pt_mk n), .int cl, .int su])), (c0, .inl (kc, 512, .inr (.inl fc))), (w0, .inl (kw, 512, .inr (.inl fv)))] s.heap := hP
  generalize hQ : pt_TQ below "java/lang/IllegalStateException" (fun st t => va_P (dC, dI) vwCl [(h0, .inr (0, [.ref c0, .ref w0, .int (nI k), .int (nI n), .long (pt_mk n), .int r, .int su])), (c0, .inl (kc, 512, .inr (.inl fc))), (w0, .inl (kw, 512, .inr (.inl fv)))] t.heap ∧ va_K (dC, dI) vwCl [(kc, .long), (kw, .long)] t ∧ va_D A [(h0, .inr (0, [.ref c0, .ref w0, .int (nI k), .int (nI n), .long (pt_mk n), .int r, .int su])), (c0, .inl (kc, 512, .inr (.inl fc))), (w0, .inl (kw, 512, .inr (.inl fv)))] ∧ va_F A st t) s 1 6 A = Q
  refine lv_aload_n hx hb dX0_add_0 rfl (lv_at hl 0 rfl) ?_
  refine lv_lload_n hx hb dX0_add_1 rfl (lv_at hl 1 rfl) ?_
  refine lv_lload_n hx hb dX0_add_2 rfl (lv_at hl 2 rfl) ?_
  refine va_csv (W.runV (As := [.long a, .long b]) (rest := []) ⟨hx, hb, hml, hown, hts⟩ (c_refuseStrayWant l dC dI h0 c0 w0 kc kw k n fc fv cl su a b hst) (cwV 2 hts (pt_gV pw76 pw77 pw1 pw17 pw78) rfl rfl rfl (by decide +kernel) ⟨Nat.le_of_ble_eq_true rfl, Nat.le_of_ble_eq_true rfl⟩) ⟨fun a U g mk q => by obtain ⟨q0, qP, qK⟩ := q; exact ⟨q0, qP, va_K.moved (u := U) (U := U.calling g mk a) (Vm.Alike.refl U.vm) qK⟩, va_recv hK hP (ci := 0) (q0 := 0) rfl rfl, fun U hU hW => ⟨rfl, by rw [hU]; exact hP, va_K.moved hW.alike hK⟩⟩ rfl rfl hl.1 rfl (lv_room (Nat.le_of_ble_eq_true rfl)) dX0_add_3 ⟨Nat.zero_le _, Nat.zero_le _⟩) (fun hw => ?_)
  refine lv_aload_n hx hb dX0_add_6 rfl (lv_at hl 0 rfl) ?_
  refine lv_lload_n hx hb dX0_add_7 rfl (lv_at hl 1 rfl) ?_
  refine lv_aload_n hx hb dX0_add_8 rfl (lv_at hl 0 rfl) ?_
  refine va_get (D := (dC, dI)) (ci := 0) (v := .long (pt_mk n)) (C := RX0) (T := TX0) (N := 7) hx hb hts (fun w h => List.mem_cons_of_mem _ (pt_wsX0 w h)) hown hK hP 0 rfl rfl 4 (by decide) (hts _ (List.mem_cons_of_mem _ pw36)) (fun _ h9 => h9) rfl dX0_add_9 ?_
  refine lv_land hx hb dX0_add_12 ?_
  refine lv_lload_n hx hb dX0_add_13 rfl (lv_at hl 2 rfl) ?_
  refine lv_aload_n hx hb dX0_add_14 rfl (lv_at hl 0 rfl) ?_
  refine va_get (D := (dC, dI)) (ci := 0) (v := .long (pt_mk n)) (C := RX0) (T := TX0) (N := 7) hx hb hts (fun w h => List.mem_cons_of_mem _ (pt_wsX0 w h)) hown hK hP 0 rfl rfl 4 (by decide) (hts _ (List.mem_cons_of_mem _ pw36)) (fun _ h9 => h9) rfl dX0_add_15 ?_
  refine lv_land hx hb dX0_add_18 ?_
  rw [← hQ, ← hAe]
  exact pt_out (pt_runT (As := [.long (a &&& (pt_mk n)), .long (b &&& (pt_mk n))]) (rest := []) ⟨hx, hb, hml, hown, hts⟩ (t_append l hl9 dC dI s0 h0X h0 c0 w0 kc kw k n fc fv cl su (a &&& pt_mk n) (b &&& pt_mk n) s.heap.size r hrf) (cwV 2 hts (pt_gV pw79 pw80 pw2 pw17 pw81) rfl rfl rfl (by decide +kernel) ⟨Nat.le_of_ble_eq_true rfl, Nat.le_of_ble_eq_true rfl⟩) ⟨fun a U g mk q => by obtain ⟨q0, q1, qP, qK, qD, qX⟩ := q; exact ⟨q0, q1, qP, va_K.moved (u := U) (U := U.calling g mk a) (Vm.Alike.refl U.vm) qK, qD, qX⟩, va_recv hK hP (ci := 0) (q0 := 0) rfl rfl, fun U hU hW => ⟨rfl, by rw [hU], by rw [hU]; exact hP, va_K.moved hW.alike hK, hD0, hext.same hU hW⟩⟩ rfl rfl hl.1 rfl (lv_room (Nat.le_of_ble_eq_true rfl)) dX0_add_19 ⟨by decide, by decide⟩) hnoh hlocks (fun st t t2 h1 h2 h3 h4 h5 => ⟨by rw [h4]; exact h3.1, va_K.moved (by rw [h5]; exact Vm.Alike.refl _) h3.2.1, h3.2.2.1, pt_F_same h1 h4 h3.2.2.2⟩) t_nil (fun _ h => h) (by decide) (by decide)
set_option maxHeartbeats 4000000 in
set_option maxRecDepth 100000 in
/-- signs(digits) takes it -/
theorem c_signs (l : Launch) (dC : Nat → ClassId) (dI : Nat → Nat → Nat) (h0 c0 w0 : Nat) (kc kw : ClassId) (k n : Nat) (fc fv : Nat → Int64) (cl su : Int32) (D : Nat) (sz : Nat) (hDb : D < 2 ^ 63) (hk : k < 512) (hno : ∀ j, j < k → ¬ pt_sh (fc j) (fv j) (pt_sc D 40 &&& pt_mk n) (pt_sw D 40 &&& pt_mk n)) : Met l yX0_signs wsX0_signs ({ frames := 3, cells := 0, slots := 0, locals := 75 }) (va_Pc [.ref h0, .long (lN D)] (fun U => U.heap.size = sz ∧ va_P (dC, dI) vwCl [(h0, .inr (0, [.ref c0, .ref w0, .int (nI k), .int (nI n), .long (pt_mk n), .int cl, .int su])), (c0, .inl (kc, 512, .inr (.inl fc))), (w0, .inl (kw, 512, .inr (.inl fv)))] U.heap ∧ va_K (dC, dI) vwCl [(kc, .long), (kw, .long)] U ∧ va_D (fun _ => True) [(h0, .inr (0, [.ref c0, .ref w0, .int (nI k), .int (nI n), .long (pt_mk n), .int cl, .int su])), (c0, .inl (kc, 512, .inr (.inl fc))), (w0, .inl (kw, 512, .inr (.inl fv)))])) (va_Qi (fun (r : Int32) _ => r = nI k) (fun (u : Unit) (t : State) => match u with | _ => va_P (dC, dI) vwCl [(h0, .inr (0, [.ref c0, .ref w0, .int (nI (k + 1)), .int (nI n), .long (pt_mk n), .int cl, .int su])), (c0, .inl (kc, 512, .inr (.inl (vp_updL fc k (pt_sc D 40 &&& pt_mk n))))), (w0, .inl (kw, 512, .inr (.inl (vp_updL fv k (pt_sw D 40 &&& pt_mk n)))))] t.heap ∧ va_K (dC, dI) vwCl [(kc, .long), (kw, .long)] t ∧ va_D (va_A [(h0, .inr (0, [.ref c0, .ref w0, .int (nI k), .int (nI n), .long (pt_mk n), .int cl, .int su])), (c0, .inl (kc, 512, .inr (.inl fc))), (w0, .inl (kw, 512, .inr (.inl fv)))] sz) [(h0, .inr (0, [.ref c0, .ref w0, .int (nI (k + 1)), .int (nI n), .long (pt_mk n), .int cl, .int su])), (c0, .inl (kc, 512, .inr (.inl (vp_updL fc k (pt_sc D 40 &&& pt_mk n))))), (w0, .inl (kw, 512, .inr (.inl (vp_updL fv k (pt_sw D 40 &&& pt_mk n)))))]) (va_A [(h0, .inr (0, [.ref c0, .ref w0, .int (nI k), .int (nI n), .long (pt_mk n), .int cl, .int su])), (c0, .inl (kc, 512, .inr (.inl fc))), (w0, .inl (kw, 512, .inr (.inl fv)))] sz)) 0 0 (va_A [(h0, .inr (0, [.ref c0, .ref w0, .int (nI k), .int (nI n), .long (pt_mk n), .int cl, .int su])), (c0, .inl (kc, 512, .inr (.inl fc))), (w0, .inl (kw, 512, .inr (.inl fv)))] sz) := by
  refine Met.ofW (cc := cX0_signs) (maxL := 12) (ret := (some .int)) (by decide) rfl ?_
  intro p e s m args below meth c s₁ B hml hv
  obtain ⟨ha, hsz, hP, hK, hD0⟩ := hv
  subst hsz
  have hx := B.exec
  have hb := B.bytes
  have hr := B.returns
  have hts := atoms_spec (ws := wsX0_signs) B.pre
  have hown : s.vm.findClass RX0 = some m.cls := findClass_of_methodNamed B.named
  have hlocks := B.notSynchronized
  have hl := lv_entry ([.ref h0, .long (lN D)]) (n := 12) (Nat.le_of_ble_eq_true rfl)
  refine W.eq (show entryFrame m args 12 = entryFrame m ([.ref h0, .long (lN D)] : List Value).toArray 12 by rw [ha]) ?_
  rw [lg_entry_eq]
  generalize (lg_sl ([.ref h0, .long (lN D)]) ++ List.replicate (12 - (lg_sl ([.ref h0, .long (lN D)])).length) Slot.unset).toArray = ls at hl ⊢
  have hl : lv_has ls 12 [(0, .ref h0), (1, .long (lN D))] := hl
  have hD := hD0.self (sz := s.heap.size)
  generalize hAe : va_A [(h0, .inr (0, [.ref c0, .ref w0, .int (nI k), .int (nI n), .long (pt_mk n), .int cl, .int su])), (c0, .inl (kc, 512, .inr (.inl fc))), (w0, .inl (kw, 512, .inr (.inl fv)))] s.heap.size = A at hD ⊢
  have hA : ∀ q : Nat, s.heap.size ≤ q → A q := fun q h => by rw [← hAe]; exact Or.inr h
  have hS : va_S A s.heap s.heap [] := va_S.rf
  generalize hQ : MQ below (va_Qi (fun (r : Int32) _ => r = nI k) (fun (u : Unit) (t : State) => match u with | _ => va_P (dC, dI) vwCl [(h0, .inr (0, [.ref c0, .ref w0, .int (nI (k + 1)), .int (nI n), .long (pt_mk n), .int cl, .int su])), (c0, .inl (kc, 512, .inr (.inl (vp_updL fc k (pt_sc D 40 &&& pt_mk n))))), (w0, .inl (kw, 512, .inr (.inl (vp_updL fv k (pt_sw D 40 &&& pt_mk n)))))] t.heap ∧ va_K (dC, dI) vwCl [(kc, .long), (kw, .long)] t ∧ va_D A [(h0, .inr (0, [.ref c0, .ref w0, .int (nI (k + 1)), .int (nI n), .long (pt_mk n), .int cl, .int su])), (c0, .inl (kc, 512, .inr (.inl (vp_updL fc k (pt_sc D 40 &&& pt_mk n))))), (w0, .inl (kw, 512, .inr (.inl (vp_updL fv k (pt_sw D 40 &&& pt_mk n)))))]) A) args s 0 0 A = Q
  have hP : va_P (dC, dI) vwCl [(h0, .inr (0, [.ref c0, .ref w0, .int (nI k), .int (nI n), .long (pt_mk n), .int cl, .int su])), (c0, .inl (kc, 512, .inr (.inl fc))), (w0, .inl (kw, 512, .inr (.inl fv)))] s.heap := hP
  refine lv_lload_n hx hb dX0_signs_0 rfl (lv_at hl 1 rfl) ?_
  refine lv_lconst (v := 0) hx hb dX0_signs_1 (by decide) ?_
  refine W.lcmp hx hb dX0_signs_2 ?_
  refine lv_if_ge (tgt := 16) hx hb dX0_signs_3 (by decide) (fun h1 => ?_) (fun h1 => absurd ((lg_cmp_ge _ _).mpr ((pk_lLE (a := 0) (by decide) hDb).mpr (Nat.zero_le _))) h1)
  refine lv_lconst (v := 0) hx hb dX0_signs_16 (by decide) ?_
  refine lv_lstore_n (lv' := [(3, .long 0), (0, .ref h0), (1, .long (lN D))]) hx hb dX0_signs_17 rfl hl (by decide) rfl (fun ls hl => ?_)
  refine lv_lconst (v := 0) hx hb dX0_signs_18 (by decide) ?_
  refine lv_lstore (lv' := [(5, .long 0), (3, .long 0), (0, .ref h0), (1, .long (lN D))]) hx hb dX0_signs_19 hl (by decide) rfl (fun ls hl => ?_)
  refine lv_lload_n hx hb dX0_signs_21 rfl (lv_at hl 3 rfl) ?_
  refine lv_lstore (lv' := [(7, .long (lN D)), (5, .long 0), (3, .long 0), (0, .ref h0), (1, .long (lN D))]) hx hb dX0_signs_22 hl (by decide) rfl (fun ls hl => ?_)
  refine lv_iconst (v := 0) hx hb dX0_signs_24 (by decide) ?_
  refine lv_istore (lv' := [(9, .int 0), (7, .long (lN D)), (5, .long 0), (3, .long 0), (0, .ref h0), (1, .long (lN D))]) hx hb dX0_signs_25 hl (by decide) rfl (fun ls hl => ?_)
  have loop : ∀ (d i : Nat) (ls : Array Slot), 40 - i = d → i ≤ 40 → lv_has ls 12 [(9, .int (nI i)), (7, .long (lN (D / 3 ^ i))), (5, .long (pt_sw D i)), (3, .long (pt_sc D i)), (0, .ref h0), (1, .long (lN D))] → W p l e (headSpec wsX0_signs ({ frames := 3, cells := 0, slots := 0, locals := 75 })).room s m args below meth c s.heap [] 0 0 Q (F0 m 27 ls []) := by
    intro d
    induction d with
    | zero =>
      intro i ls hd hi hl
      obtain rfl : i = 40 := by omega
      refine lv_iload hx hb dX0_signs_27 (lv_at hl 0 rfl) ?_
      refine lv_bipush (v := 40) hx hb dX0_signs_29 (by decide) ?_
      refine lv_icmp_ge (tgt := 88) hx hb dX0_signs_31 (by decide) (fun h1 => ?_) (fun h1 => absurd (nI_le (a := 40) (b := 40) (by decide) (by decide)) h1)
      refine lv_aload_n hx hb dX0_signs_88 rfl (lv_at hl 4 rfl) ?_
      refine lv_lload_n hx hb dX0_signs_89 rfl (lv_at hl 3 rfl) ?_
      refine lv_aload_n hx hb dX0_signs_90 rfl (lv_at hl 4 rfl) ?_
      refine va_get (D := (dC, dI)) (ci := 0) (v := .long (pt_mk n)) (C := RX0) (T := TX0) (N := 7) hx hb hts (fun w h => List.mem_cons_of_mem _ (pt_wsX0 w h)) hown hK hP 0 rfl rfl 4 (by decide) (hts _ (List.mem_cons_of_mem _ pw36)) (fun _ h9 => h9) rfl dX0_signs_91 ?_
      refine lv_land hx hb dX0_signs_94 ?_
      refine lv_lload hx hb dX0_signs_95 (lv_at hl 2 rfl) ?_
      refine lv_aload_n hx hb dX0_signs_97 rfl (lv_at hl 4 rfl) ?_
      refine va_get (D := (dC, dI)) (ci := 0) (v := .long (pt_mk n)) (C := RX0) (T := TX0) (N := 7) hx hb hts (fun w h => List.mem_cons_of_mem _ (pt_wsX0 w h)) hown hK hP 0 rfl rfl 4 (by decide) (hts _ (List.mem_cons_of_mem _ pw36)) (fun _ h9 => h9) rfl dX0_signs_98 ?_
      refine lv_land hx hb dX0_signs_101 ?_
      have hPc := hP.sub (ws' := [(h0, .inr (0, [.ref c0, .ref w0, .int (nI k), .int (nI n), .long (pt_mk n), .int cl, .int su])), (c0, .inl (kc, 512, .inr (.inl fc))), (w0, .inl (kw, 512, .inr (.inl fv)))]) [0, 1, 2] rfl
      have hDc := hD.sub (ws' := [(h0, .inr (0, [.ref c0, .ref w0, .int (nI k), .int (nI n), .long (pt_mk n), .int cl, .int su])), (c0, .inl (kc, 512, .inr (.inl fc))), (w0, .inl (kw, 512, .inr (.inl fv)))]) [0, 1, 2] (by decide) rfl
      have hKc := hK.sub (tys' := [(kc, .long), (kw, .long)]) [0, 1] rfl
      have hFc := va_free (wc := [(h0, .inr (0, [.ref c0, .ref w0, .int (nI k), .int (nI n), .long (pt_mk n), .int cl, .int su])), (c0, .inl (kc, 512, .inr (.inl fc))), (w0, .inl (kw, 512, .inr (.inl fv)))]) hD hS hA [0, 1, 2] rfl
      refine va_calli (va_runV (As := [.long ((pt_sc D 40) &&& (pt_mk n)), .long ((pt_sw D 40) &&& (pt_mk n))]) (rest := []) ⟨hx, hb, hml, hown, hts⟩ (c_append l dC dI h0 c0 w0 kc kw k n fc fv cl su (pt_sc D 40 &&& pt_mk n) (pt_sw D 40 &&& pt_mk n) s.heap.size hk hno) (cwV 2 hts (pt_gV pw79 pw80 pw2 pw17 pw81) rfl rfl rfl (by decide +kernel) ⟨Nat.le_of_ble_eq_true rfl, Nat.le_of_ble_eq_true rfl⟩) ⟨fun a U g mk q => by obtain ⟨q0, q1, qP, qK, qD⟩ := q; exact ⟨q0, q1, qP, va_K.moved (u := U) (U := U.calling g mk a) (Vm.Alike.refl U.vm) qK, qD⟩, va_recv hK hP (ci := 0) (q0 := 0) rfl rfl, fun U hU hW => ⟨rfl, by rw [hU], by rw [hU]; exact hPc, va_K.moved hW.alike hKc, hDc.weaken (fun _ _ _ _ => trivial)⟩⟩ rfl rfl hl.1 rfl (lv_room (Nat.le_of_ble_eq_true rfl)) dX0_signs_102 ⟨Nat.zero_le _, Nat.zero_le _⟩) hS (fun q _ h => hFc q h) hFc (fun r1 u t H1 locs ht hvm hw hB hz1 hk1 hS => ?_)
      obtain ⟨hP1, hK1, hD1⟩ := hB
      rw [ht] at hP1
      obtain ⟨hP, hD⟩ := va_join (wr := ([] : va_W)) (w1 := [(h0, .inr (0, [.ref c0, .ref w0, .int (nI (k + 1)), .int (nI n), .long (pt_mk n), .int cl, .int su])), (c0, .inl (kc, 512, .inr (.inl (vp_updL fc k (pt_sc D 40 &&& pt_mk n))))), (w0, .inl (kw, 512, .inr (.inl (vp_updL fv k (pt_sw D 40 &&& pt_mk n)))))]) hP hD [0, 1, 2] [] rfl rfl (by decide) (by decide) hk1 hFc hP1 hD1
      generalize H1 = H at hP hS ⊢
      have hP : va_P (dC, dI) vwCl [(h0, .inr (0, [.ref c0, .ref w0, .int (nI (k + 1)), .int (nI n), .long (pt_mk n), .int cl, .int su])), (c0, .inl (kc, 512, .inr (.inl (vp_updL fc k (pt_sc D 40 &&& pt_mk n))))), (w0, .inl (kw, 512, .inr (.inl (vp_updL fv k (pt_sw D 40 &&& pt_mk n)))))] H := hP
      have hD : va_D A [(h0, .inr (0, [.ref c0, .ref w0, .int (nI (k + 1)), .int (nI n), .long (pt_mk n), .int cl, .int su])), (c0, .inl (kc, 512, .inr (.inl (vp_updL fc k (pt_sc D 40 &&& pt_mk n))))), (w0, .inl (kw, 512, .inr (.inl (vp_updL fv k (pt_sw D 40 &&& pt_mk n)))))] := hD
      subst hw
      rw [← hQ]
      exact W.iret (v := nI k) hx hb hr (fun t ht hW => ⟨⟨nI k, (), rfl, rfl, by rw [ht]; exact hP, va_K.moved hW.alike hK, hD⟩, hS.F ht⟩) hS.2.2 dX0_signs_105
    | succ d ih =>
      intro i ls hd hi hl
      have hDi : D / 3 ^ i < 2 ^ 63 := Nat.lt_of_le_of_lt (Nat.div_le_self _ _) hDb
      refine lv_iload hx hb dX0_signs_27 (lv_at hl 0 rfl) ?_
      refine lv_bipush (v := 40) hx hb dX0_signs_29 (by decide) ?_
      refine lv_icmp_ge (tgt := 88) hx hb dX0_signs_31 (by decide) (fun h1 => absurd h1 (nI_ge (b := 40) (by omega) (by decide))) (fun h1 => ?_)
      refine lv_lload hx hb dX0_signs_34 (lv_at hl 1 rfl) ?_
      refine lv_ldc2 (v := 3) hx hb hown (hts _ (List.mem_cons_of_mem _ pw94)) dX0_signs_36 ?_
      refine lv_lrem hx hb dX0_signs_39 (by decide) ?_
      rw [show lN (D / 3 ^ i) - lN (D / 3 ^ i) / 3 * 3 = lN (D / 3 ^ i % 3) from pk_lRem (b := 3) hDi (by decide) (by decide)]
      refine lv_lstore (lv' := [(10, .long (lN (D / 3 ^ i % 3))), (9, .int (nI i)), (7, .long (lN (D / 3 ^ i))), (5, .long (pt_sw D i)), (3, .long (pt_sc D i)), (0, .ref h0), (1, .long (lN D))]) hx hb dX0_signs_40 hl (by decide) rfl (fun ls hl => ?_)
      refine lv_lload hx hb dX0_signs_42 (lv_at hl 0 rfl) ?_
      refine lv_ldc2 (v := 2) hx hb hown (hts _ (List.mem_cons_of_mem _ pw95)) dX0_signs_44 ?_
      refine W.lcmp hx hb dX0_signs_47 ?_
      refine lv_if_eq (tgt := 58) hx hb dX0_signs_48 (by decide) (fun h2 => ?_) (fun h2 => ?_)
      · refine lv_lload hx hb dX0_signs_58 (lv_at hl 0 rfl) ?_
        refine lv_lconst (v := 1) hx hb dX0_signs_60 (by decide) ?_
        refine W.lcmp hx hb dX0_signs_61 ?_
        refine lv_if_ne (tgt := 74) hx hb dX0_signs_62 (by decide) (fun h3 => ?_) (fun h3 => ?_)
        · refine lv_lload hx hb dX0_signs_74 (lv_at hl 2 rfl) ?_
          refine lv_ldc2 (v := 3) hx hb hown (hts _ (List.mem_cons_of_mem _ pw94)) dX0_signs_76 ?_
          refine lv_ldiv hx hb dX0_signs_79 (by decide) ?_
          rw [show lN (D / 3 ^ i) / 3 = lN (D / 3 ^ (i + 1)) from (pk_lDiv (b := 3) hDi (by decide) (by decide)).trans (congrArg lN (by rw [Nat.div_div_eq_div_mul, Nat.pow_succ]))]
          refine lv_lstore (lv' := [(7, .long (lN (D / 3 ^ (i + 1)))), (10, .long (lN (D / 3 ^ i % 3))), (9, .int (nI i)), (5, .long (pt_sw D i)), (3, .long (pt_sc D i)), (0, .ref h0), (1, .long (lN D))]) hx hb dX0_signs_80 hl (by decide) rfl (fun ls hl => ?_)
          refine lv_iinc (v := nI (i + 1)) (lv' := [(9, .int (nI (i + 1))), (7, .long (lN (D / 3 ^ (i + 1)))), (10, .long (lN (D / 3 ^ i % 3))), (5, .long (pt_sw D i)), (3, .long (pt_sc D i)), (0, .ref h0), (1, .long (lN D))]) hx hb dX0_signs_82 hl (k := 2) rfl (by rw [nI_succ]; rfl) (by decide) rfl (fun ls hl => ?_)
          refine lv_goto (tgt := 27) hx hb dX0_signs_85 (by decide) ?_
          have hl := lv_sub hl [0, 1, 3, 4, 5, 6] rfl
          have hl : lv_has ls 12 [(9, .int (nI (i + 1))), (7, .long (lN (D / 3 ^ (i + 1)))), (5, .long (pt_sw D (i + 1))), (3, .long (pt_sc D (i + 1))), (0, .ref h0), (1, .long (lN D))] := by
            rw [show pt_sw D (i + 1) = pt_sw D i from if_neg (fun z => h3 (pt_cmp0.mpr (by rw [z]; rfl))), show pt_sc D (i + 1) = pt_sc D i from if_pos ((pk_lEQ (b := 2) (by omega) (by decide)).mp (pt_cmp0.mp h2))]
            exact hl
          exact ih (i + 1) ls (by omega) (by omega) hl
        · refine lv_lload hx hb dX0_signs_65 (lv_at hl 3 rfl) ?_
          refine lv_lconst (v := 1) hx hb dX0_signs_67 (by decide) ?_
          refine lv_iload hx hb dX0_signs_68 (lv_at hl 1 rfl) ?_
          refine lv_lshl (v := pt_shl 1 (nI i)) hx hb dX0_signs_70 rfl ?_
          refine lv_lor hx hb dX0_signs_71 ?_
          refine lv_lstore (lv' := [(5, .long ((pt_sw D i) ||| (pt_shl 1 (nI i)))), (10, .long (lN (D / 3 ^ i % 3))), (9, .int (nI i)), (7, .long (lN (D / 3 ^ i))), (3, .long (pt_sc D i)), (0, .ref h0), (1, .long (lN D))]) hx hb dX0_signs_72 hl (by decide) rfl (fun ls hl => ?_)
          refine lv_lload hx hb dX0_signs_74 (lv_at hl 3 rfl) ?_
          refine lv_ldc2 (v := 3) hx hb hown (hts _ (List.mem_cons_of_mem _ pw94)) dX0_signs_76 ?_
          refine lv_ldiv hx hb dX0_signs_79 (by decide) ?_
          rw [show lN (D / 3 ^ i) / 3 = lN (D / 3 ^ (i + 1)) from (pk_lDiv (b := 3) hDi (by decide) (by decide)).trans (congrArg lN (by rw [Nat.div_div_eq_div_mul, Nat.pow_succ]))]
          refine lv_lstore (lv' := [(7, .long (lN (D / 3 ^ (i + 1)))), (5, .long ((pt_sw D i) ||| (pt_shl 1 (nI i)))), (10, .long (lN (D / 3 ^ i % 3))), (9, .int (nI i)), (3, .long (pt_sc D i)), (0, .ref h0), (1, .long (lN D))]) hx hb dX0_signs_80 hl (by decide) rfl (fun ls hl => ?_)
          refine lv_iinc (v := nI (i + 1)) (lv' := [(9, .int (nI (i + 1))), (7, .long (lN (D / 3 ^ (i + 1)))), (5, .long ((pt_sw D i) ||| (pt_shl 1 (nI i)))), (10, .long (lN (D / 3 ^ i % 3))), (3, .long (pt_sc D i)), (0, .ref h0), (1, .long (lN D))]) hx hb dX0_signs_82 hl (k := 3) rfl (by rw [nI_succ]; rfl) (by decide) rfl (fun ls hl => ?_)
          refine lv_goto (tgt := 27) hx hb dX0_signs_85 (by decide) ?_
          have hl := lv_sub hl [0, 1, 2, 4, 5, 6] rfl
          have hl : lv_has ls 12 [(9, .int (nI (i + 1))), (7, .long (lN (D / 3 ^ (i + 1)))), (5, .long (pt_sw D (i + 1))), (3, .long (pt_sc D (i + 1))), (0, .ref h0), (1, .long (lN D))] := by
            rw [show pt_sw D (i + 1) = (pt_sw D i) ||| (pt_shl 1 (nI i)) from if_pos ((pk_lEQ (b := 1) (by omega) (by decide)).mp (pt_cmp0.mp h3)), show pt_sc D (i + 1) = pt_sc D i from if_pos ((pk_lEQ (b := 2) (by omega) (by decide)).mp (pt_cmp0.mp h2))]
            exact hl
          exact ih (i + 1) ls (by omega) (by omega) hl
      · refine lv_lload_n hx hb dX0_signs_51 rfl (lv_at hl 4 rfl) ?_
        refine lv_lconst (v := 1) hx hb dX0_signs_52 (by decide) ?_
        refine lv_iload hx hb dX0_signs_53 (lv_at hl 1 rfl) ?_
        refine lv_lshl (v := pt_shl 1 (nI i)) hx hb dX0_signs_55 rfl ?_
        refine lv_lor hx hb dX0_signs_56 ?_
        refine lv_lstore_n (lv' := [(3, .long ((pt_sc D i) ||| (pt_shl 1 (nI i)))), (10, .long (lN (D / 3 ^ i % 3))), (9, .int (nI i)), (7, .long (lN (D / 3 ^ i))), (5, .long (pt_sw D i)), (0, .ref h0), (1, .long (lN D))]) hx hb dX0_signs_57 rfl hl (by decide) rfl (fun ls hl => ?_)
        refine lv_lload hx hb dX0_signs_58 (lv_at hl 1 rfl) ?_
        refine lv_lconst (v := 1) hx hb dX0_signs_60 (by decide) ?_
        refine W.lcmp hx hb dX0_signs_61 ?_
        refine lv_if_ne (tgt := 74) hx hb dX0_signs_62 (by decide) (fun h3 => ?_) (fun h3 => ?_)
        · refine lv_lload hx hb dX0_signs_74 (lv_at hl 3 rfl) ?_
          refine lv_ldc2 (v := 3) hx hb hown (hts _ (List.mem_cons_of_mem _ pw94)) dX0_signs_76 ?_
          refine lv_ldiv hx hb dX0_signs_79 (by decide) ?_
          rw [show lN (D / 3 ^ i) / 3 = lN (D / 3 ^ (i + 1)) from (pk_lDiv (b := 3) hDi (by decide) (by decide)).trans (congrArg lN (by rw [Nat.div_div_eq_div_mul, Nat.pow_succ]))]
          refine lv_lstore (lv' := [(7, .long (lN (D / 3 ^ (i + 1)))), (3, .long ((pt_sc D i) ||| (pt_shl 1 (nI i)))), (10, .long (lN (D / 3 ^ i % 3))), (9, .int (nI i)), (5, .long (pt_sw D i)), (0, .ref h0), (1, .long (lN D))]) hx hb dX0_signs_80 hl (by decide) rfl (fun ls hl => ?_)
          refine lv_iinc (v := nI (i + 1)) (lv' := [(9, .int (nI (i + 1))), (7, .long (lN (D / 3 ^ (i + 1)))), (3, .long ((pt_sc D i) ||| (pt_shl 1 (nI i)))), (10, .long (lN (D / 3 ^ i % 3))), (5, .long (pt_sw D i)), (0, .ref h0), (1, .long (lN D))]) hx hb dX0_signs_82 hl (k := 3) rfl (by rw [nI_succ]; rfl) (by decide) rfl (fun ls hl => ?_)
          refine lv_goto (tgt := 27) hx hb dX0_signs_85 (by decide) ?_
          have hl := lv_sub hl [0, 1, 4, 2, 5, 6] rfl
          have hl : lv_has ls 12 [(9, .int (nI (i + 1))), (7, .long (lN (D / 3 ^ (i + 1)))), (5, .long (pt_sw D (i + 1))), (3, .long (pt_sc D (i + 1))), (0, .ref h0), (1, .long (lN D))] := by
            rw [show pt_sw D (i + 1) = pt_sw D i from if_neg (fun z => h3 (pt_cmp0.mpr (by rw [z]; rfl))), show pt_sc D (i + 1) = (pt_sc D i) ||| (pt_shl 1 (nI i)) from if_neg (fun z => h2 (pt_cmp0.mpr (by rw [z]; rfl)))]
            exact hl
          exact ih (i + 1) ls (by omega) (by omega) hl
        · refine lv_lload hx hb dX0_signs_65 (lv_at hl 4 rfl) ?_
          refine lv_lconst (v := 1) hx hb dX0_signs_67 (by decide) ?_
          refine lv_iload hx hb dX0_signs_68 (lv_at hl 2 rfl) ?_
          refine lv_lshl (v := pt_shl 1 (nI i)) hx hb dX0_signs_70 rfl ?_
          refine lv_lor hx hb dX0_signs_71 ?_
          refine lv_lstore (lv' := [(5, .long ((pt_sw D i) ||| (pt_shl 1 (nI i)))), (3, .long ((pt_sc D i) ||| (pt_shl 1 (nI i)))), (10, .long (lN (D / 3 ^ i % 3))), (9, .int (nI i)), (7, .long (lN (D / 3 ^ i))), (0, .ref h0), (1, .long (lN D))]) hx hb dX0_signs_72 hl (by decide) rfl (fun ls hl => ?_)
          refine lv_lload hx hb dX0_signs_74 (lv_at hl 4 rfl) ?_
          refine lv_ldc2 (v := 3) hx hb hown (hts _ (List.mem_cons_of_mem _ pw94)) dX0_signs_76 ?_
          refine lv_ldiv hx hb dX0_signs_79 (by decide) ?_
          rw [show lN (D / 3 ^ i) / 3 = lN (D / 3 ^ (i + 1)) from (pk_lDiv (b := 3) hDi (by decide) (by decide)).trans (congrArg lN (by rw [Nat.div_div_eq_div_mul, Nat.pow_succ]))]
          refine lv_lstore (lv' := [(7, .long (lN (D / 3 ^ (i + 1)))), (5, .long ((pt_sw D i) ||| (pt_shl 1 (nI i)))), (3, .long ((pt_sc D i) ||| (pt_shl 1 (nI i)))), (10, .long (lN (D / 3 ^ i % 3))), (9, .int (nI i)), (0, .ref h0), (1, .long (lN D))]) hx hb dX0_signs_80 hl (by decide) rfl (fun ls hl => ?_)
          refine lv_iinc (v := nI (i + 1)) (lv' := [(9, .int (nI (i + 1))), (7, .long (lN (D / 3 ^ (i + 1)))), (5, .long ((pt_sw D i) ||| (pt_shl 1 (nI i)))), (3, .long ((pt_sc D i) ||| (pt_shl 1 (nI i)))), (10, .long (lN (D / 3 ^ i % 3))), (0, .ref h0), (1, .long (lN D))]) hx hb dX0_signs_82 hl (k := 4) rfl (by rw [nI_succ]; rfl) (by decide) rfl (fun ls hl => ?_)
          refine lv_goto (tgt := 27) hx hb dX0_signs_85 (by decide) ?_
          have hl := lv_sub hl [0, 1, 2, 3, 5, 6] rfl
          have hl : lv_has ls 12 [(9, .int (nI (i + 1))), (7, .long (lN (D / 3 ^ (i + 1)))), (5, .long (pt_sw D (i + 1))), (3, .long (pt_sc D (i + 1))), (0, .ref h0), (1, .long (lN D))] := by
            rw [show pt_sw D (i + 1) = (pt_sw D i) ||| (pt_shl 1 (nI i)) from if_pos ((pk_lEQ (b := 1) (by omega) (by decide)).mp (pt_cmp0.mp h3)), show pt_sc D (i + 1) = (pt_sc D i) ||| (pt_shl 1 (nI i)) from if_neg (fun z => h2 (pt_cmp0.mpr (by rw [z]; rfl)))]
            exact hl
          exact ih (i + 1) ls (by omega) (by omega) hl
  have hl : lv_has ls 12 [(9, .int (nI 0)), (7, .long (lN (D / 3 ^ 0))), (5, .long (pt_sw D 0)), (3, .long (pt_sc D 0)), (0, .ref h0), (1, .long (lN D))] := by
    rw [Nat.pow_zero, Nat.div_one]
    exact lv_sub hl [0, 1, 2, 3, 4, 5] rfl
  exact loop 40 0 ls (by omega) (by omega) hl
set_option maxHeartbeats 4000000 in
set_option maxRecDepth 100000 in
/-- signs(digits): refused -/
theorem t_signs_ref (l : Launch) (hl9 : l.stackTraces = false) (dC : Nat → ClassId) (dI : Nat → Nat → Nat) (s0 : State) (h0X : pt_X s0) (h0 c0 w0 : Nat) (kc kw : ClassId) (k n : Nat) (fc fv : Nat → Int64) (cl su : Int32) (D : Nat) (sz : Nat) (hDb : D < 2 ^ 63) (r : Int32) (hrf : (k = 512 ∧ r = -1) ∨ (k < 512 ∧ pt_F (fun j => pt_sh (fc j) (fv j) (pt_sc D 40 &&& pt_mk n) (pt_sw D 40 &&& pt_mk n)) k r ∧ ¬ r = -1)) : pt_Thr l yX0_signs wsX0_signs ({ frames := 7, cells := 1, slots := 6, locals := 107 }) (va_Pc [.ref h0, .long (lN D)] (fun U => U.heap.size = sz ∧ va_P (dC, dI) vwCl [(h0, .inr (0, [.ref c0, .ref w0, .int (nI k), .int (nI n), .long (pt_mk n), .int cl, .int su])), (c0, .inl (kc, 512, .inr (.inl fc))), (w0, .inl (kw, 512, .inr (.inl fv)))] U.heap ∧ va_K (dC, dI) vwCl [(kc, .long), (kw, .long)] U ∧ va_D (fun q => s0.heap.size ≤ q) [(h0, .inr (0, [.ref c0, .ref w0, .int (nI k), .int (nI n), .long (pt_mk n), .int cl, .int su])), (c0, .inl (kc, 512, .inr (.inl fc))), (w0, .inl (kw, 512, .inr (.inl fv)))] ∧ pt_ext s0 U)) "java/lang/IllegalStateException" (fun st t => va_P (dC, dI) vwCl [(h0, .inr (0, [.ref c0, .ref w0, .int (nI k), .int (nI n), .long (pt_mk n), .int r, .int su])), (c0, .inl (kc, 512, .inr (.inl fc))), (w0, .inl (kw, 512, .inr (.inl fv)))] t.heap ∧ va_K (dC, dI) vwCl [(kc, .long), (kw, .long)] t ∧ va_D (va_A [(h0, .inr (0, [.ref c0, .ref w0, .int (nI k), .int (nI n), .long (pt_mk n), .int cl, .int su])), (c0, .inl (kc, 512, .inr (.inl fc))), (w0, .inl (kw, 512, .inr (.inl fv)))] sz) [(h0, .inr (0, [.ref c0, .ref w0, .int (nI k), .int (nI n), .long (pt_mk n), .int r, .int su])), (c0, .inl (kc, 512, .inr (.inl fc))), (w0, .inl (kw, 512, .inr (.inl fv)))] ∧ va_F (va_A [(h0, .inr (0, [.ref c0, .ref w0, .int (nI k), .int (nI n), .long (pt_mk n), .int cl, .int su])), (c0, .inl (kc, 512, .inr (.inl fc))), (w0, .inl (kw, 512, .inr (.inl fv)))] sz) st t) 1 6 (va_A [(h0, .inr (0, [.ref c0, .ref w0, .int (nI k), .int (nI n), .long (pt_mk n), .int cl, .int su])), (c0, .inl (kc, 512, .inr (.inl fc))), (w0, .inl (kw, 512, .inr (.inl fv)))] sz) := by
  refine pt_Thr_ofW (cc := cX0_signs) (maxL := 12) (ret := (some .int)) (by decide) rfl ?_
  intro p e s m args below meth c s₁ B hml hnoh hv
  obtain ⟨ha, hsz, hP, hK, hD0, hext⟩ := hv
  subst hsz
  have hx := B.exec
  have hb := B.bytes
  have hr := B.returns
  have hts := atoms_spec (ws := wsX0_signs) B.pre
  have hown : s.vm.findClass RX0 = some m.cls := findClass_of_methodNamed B.named
  have hlocks := B.notSynchronized
  have hl := lv_entry ([.ref h0, .long (lN D)]) (n := 12) (Nat.le_of_ble_eq_true rfl)
  refine W.eq (show entryFrame m args 12 = entryFrame m ([.ref h0, .long (lN D)] : List Value).toArray 12 by rw [ha]) ?_
  rw [lg_entry_eq]
  generalize (lg_sl ([.ref h0, .long (lN D)]) ++ List.replicate (12 - (lg_sl ([.ref h0, .long (lN D)])).length) Slot.unset).toArray = ls at hl ⊢
  have hl : lv_has ls 12 [(0, .ref h0), (1, .long (lN D))] := hl
  have hD := hD0.self (sz := s.heap.size)
  have hAs : ∀ q : Nat, va_A [(h0, .inr (0, [.ref c0, .ref w0, .int (nI k), .int (nI n), .long (pt_mk n), .int cl, .int su])), (c0, .inl (kc, 512, .inr (.inl fc))), (w0, .inl (kw, 512, .inr (.inl fv)))] s.heap.size q → s0.heap.size ≤ q := pt_As hD0 hext.2.1
  generalize hAe : va_A [(h0, .inr (0, [.ref c0, .ref w0, .int (nI k), .int (nI n), .long (pt_mk n), .int cl, .int su])), (c0, .inl (kc, 512, .inr (.inl fc))), (w0, .inl (kw, 512, .inr (.inl fv)))] s.heap.size = A at hD hAs ⊢
  have hA : ∀ q : Nat, s.heap.size ≤ q → A q := fun q h => by rw [← hAe]; exact Or.inr h
  have hS : va_S A s.heap s.heap [] := va_S.rf
  have hP : va_P (dC, dI) vwCl [(h0, .inr (0, [.ref c0, .ref w0, .int (nI k), .int (nI n), .long (pt_mk n), .int cl, .int su])), (c0, .inl (kc, 512, .inr (.inl fc))), (w0, .inl (kw, 512, .inr (.inl fv)))] s.heap := hP
  generalize hQ : pt_TQ below "java/lang/IllegalStateException" (fun st t => va_P (dC, dI) vwCl [(h0, .inr (0, [.ref c0, .ref w0, .int (nI k), .int (nI n), .long (pt_mk n), .int r, .int su])), (c0, .inl (kc, 512, .inr (.inl fc))), (w0, .inl (kw, 512, .inr (.inl fv)))] t.heap ∧ va_K (dC, dI) vwCl [(kc, .long), (kw, .long)] t ∧ va_D A [(h0, .inr (0, [.ref c0, .ref w0, .int (nI k), .int (nI n), .long (pt_mk n), .int r, .int su])), (c0, .inl (kc, 512, .inr (.inl fc))), (w0, .inl (kw, 512, .inr (.inl fv)))] ∧ va_F A st t) s 1 6 A = Q
  refine lv_lload_n hx hb dX0_signs_0 rfl (lv_at hl 1 rfl) ?_
  refine lv_lconst (v := 0) hx hb dX0_signs_1 (by decide) ?_
  refine W.lcmp hx hb dX0_signs_2 ?_
  refine lv_if_ge (tgt := 16) hx hb dX0_signs_3 (by decide) (fun h1 => ?_) (fun h1 => absurd ((lg_cmp_ge _ _).mpr ((pk_lLE (a := 0) (by decide) hDb).mpr (Nat.zero_le _))) h1)
  refine lv_lconst (v := 0) hx hb dX0_signs_16 (by decide) ?_
  refine lv_lstore_n (lv' := [(3, .long 0), (0, .ref h0), (1, .long (lN D))]) hx hb dX0_signs_17 rfl hl (by decide) rfl (fun ls hl => ?_)
  refine lv_lconst (v := 0) hx hb dX0_signs_18 (by decide) ?_
  refine lv_lstore (lv' := [(5, .long 0), (3, .long 0), (0, .ref h0), (1, .long (lN D))]) hx hb dX0_signs_19 hl (by decide) rfl (fun ls hl => ?_)
  refine lv_lload_n hx hb dX0_signs_21 rfl (lv_at hl 3 rfl) ?_
  refine lv_lstore (lv' := [(7, .long (lN D)), (5, .long 0), (3, .long 0), (0, .ref h0), (1, .long (lN D))]) hx hb dX0_signs_22 hl (by decide) rfl (fun ls hl => ?_)
  refine lv_iconst (v := 0) hx hb dX0_signs_24 (by decide) ?_
  refine lv_istore (lv' := [(9, .int 0), (7, .long (lN D)), (5, .long 0), (3, .long 0), (0, .ref h0), (1, .long (lN D))]) hx hb dX0_signs_25 hl (by decide) rfl (fun ls hl => ?_)
  have loop : ∀ (d i : Nat) (ls : Array Slot), 40 - i = d → i ≤ 40 → lv_has ls 12 [(9, .int (nI i)), (7, .long (lN (D / 3 ^ i))), (5, .long (pt_sw D i)), (3, .long (pt_sc D i)), (0, .ref h0), (1, .long (lN D))] → W p l e (headSpec wsX0_signs ({ frames := 7, cells := 1, slots := 6, locals := 107 })).room s m args below meth c s.heap [] 0 0 Q (F0 m 27 ls []) := by
    intro d
    induction d with
    | zero =>
      intro i ls hd hi hl
      obtain rfl : i = 40 := by omega
      refine lv_iload hx hb dX0_signs_27 (lv_at hl 0 rfl) ?_
      refine lv_bipush (v := 40) hx hb dX0_signs_29 (by decide) ?_
      refine lv_icmp_ge (tgt := 88) hx hb dX0_signs_31 (by decide) (fun h1 => ?_) (fun h1 => absurd (nI_le (a := 40) (b := 40) (by decide) (by decide)) h1)
      refine lv_aload_n hx hb dX0_signs_88 rfl (lv_at hl 4 rfl) ?_
      refine lv_lload_n hx hb dX0_signs_89 rfl (lv_at hl 3 rfl) ?_
      refine lv_aload_n hx hb dX0_signs_90 rfl (lv_at hl 4 rfl) ?_
      refine va_get (D := (dC, dI)) (ci := 0) (v := .long (pt_mk n)) (C := RX0) (T := TX0) (N := 7) hx hb hts (fun w h => List.mem_cons_of_mem _ (pt_wsX0 w h)) hown hK hP 0 rfl rfl 4 (by decide) (hts _ (List.mem_cons_of_mem _ pw36)) (fun _ h9 => h9) rfl dX0_signs_91 ?_
      refine lv_land hx hb dX0_signs_94 ?_
      refine lv_lload hx hb dX0_signs_95 (lv_at hl 2 rfl) ?_
      refine lv_aload_n hx hb dX0_signs_97 rfl (lv_at hl 4 rfl) ?_
      refine va_get (D := (dC, dI)) (ci := 0) (v := .long (pt_mk n)) (C := RX0) (T := TX0) (N := 7) hx hb hts (fun w h => List.mem_cons_of_mem _ (pt_wsX0 w h)) hown hK hP 0 rfl rfl 4 (by decide) (hts _ (List.mem_cons_of_mem _ pw36)) (fun _ h9 => h9) rfl dX0_signs_98 ?_
      refine lv_land hx hb dX0_signs_101 ?_
      rw [← hQ, ← hAe]
      exact pt_out (pt_runT (As := [.long ((pt_sc D 40) &&& (pt_mk n)), .long ((pt_sw D 40) &&& (pt_mk n))]) (rest := []) ⟨hx, hb, hml, hown, hts⟩ (t_append l hl9 dC dI s0 h0X h0 c0 w0 kc kw k n fc fv cl su (pt_sc D 40 &&& pt_mk n) (pt_sw D 40 &&& pt_mk n) s.heap.size r hrf) (cwV 2 hts (pt_gV pw79 pw80 pw2 pw17 pw81) rfl rfl rfl (by decide +kernel) ⟨Nat.le_of_ble_eq_true rfl, Nat.le_of_ble_eq_true rfl⟩) ⟨fun a U g mk q => by obtain ⟨q0, q1, qP, qK, qD, qX⟩ := q; exact ⟨q0, q1, qP, va_K.moved (u := U) (U := U.calling g mk a) (Vm.Alike.refl U.vm) qK, qD, qX⟩, va_recv hK hP (ci := 0) (q0 := 0) rfl rfl, fun U hU hW => ⟨rfl, by rw [hU], by rw [hU]; exact hP, va_K.moved hW.alike hK, hD0, hext.same hU hW⟩⟩ rfl rfl hl.1 rfl (lv_room (Nat.le_of_ble_eq_true rfl)) dX0_signs_102 ⟨by decide, by decide⟩) hnoh hlocks (fun st t t2 h1 h2 h3 h4 h5 => ⟨by rw [h4]; exact h3.1, va_K.moved (by rw [h5]; exact Vm.Alike.refl _) h3.2.1, h3.2.2.1, pt_F_same h1 h4 h3.2.2.2⟩) t_nil (fun _ h => h) (by decide) (by decide)
    | succ d ih =>
      intro i ls hd hi hl
      have hDi : D / 3 ^ i < 2 ^ 63 := Nat.lt_of_le_of_lt (Nat.div_le_self _ _) hDb
      refine lv_iload hx hb dX0_signs_27 (lv_at hl 0 rfl) ?_
      refine lv_bipush (v := 40) hx hb dX0_signs_29 (by decide) ?_
      refine lv_icmp_ge (tgt := 88) hx hb dX0_signs_31 (by decide) (fun h1 => absurd h1 (nI_ge (b := 40) (by omega) (by decide))) (fun h1 => ?_)
      refine lv_lload hx hb dX0_signs_34 (lv_at hl 1 rfl) ?_
      refine lv_ldc2 (v := 3) hx hb hown (hts _ (List.mem_cons_of_mem _ pw94)) dX0_signs_36 ?_
      refine lv_lrem hx hb dX0_signs_39 (by decide) ?_
      rw [show lN (D / 3 ^ i) - lN (D / 3 ^ i) / 3 * 3 = lN (D / 3 ^ i % 3) from pk_lRem (b := 3) hDi (by decide) (by decide)]
      refine lv_lstore (lv' := [(10, .long (lN (D / 3 ^ i % 3))), (9, .int (nI i)), (7, .long (lN (D / 3 ^ i))), (5, .long (pt_sw D i)), (3, .long (pt_sc D i)), (0, .ref h0), (1, .long (lN D))]) hx hb dX0_signs_40 hl (by decide) rfl (fun ls hl => ?_)
      refine lv_lload hx hb dX0_signs_42 (lv_at hl 0 rfl) ?_
      refine lv_ldc2 (v := 2) hx hb hown (hts _ (List.mem_cons_of_mem _ pw95)) dX0_signs_44 ?_
      refine W.lcmp hx hb dX0_signs_47 ?_
      refine lv_if_eq (tgt := 58) hx hb dX0_signs_48 (by decide) (fun h2 => ?_) (fun h2 => ?_)
      · refine lv_lload hx hb dX0_signs_58 (lv_at hl 0 rfl) ?_
        refine lv_lconst (v := 1) hx hb dX0_signs_60 (by decide) ?_
        refine W.lcmp hx hb dX0_signs_61 ?_
        refine lv_if_ne (tgt := 74) hx hb dX0_signs_62 (by decide) (fun h3 => ?_) (fun h3 => ?_)
        · refine lv_lload hx hb dX0_signs_74 (lv_at hl 2 rfl) ?_
          refine lv_ldc2 (v := 3) hx hb hown (hts _ (List.mem_cons_of_mem _ pw94)) dX0_signs_76 ?_
          refine lv_ldiv hx hb dX0_signs_79 (by decide) ?_
          rw [show lN (D / 3 ^ i) / 3 = lN (D / 3 ^ (i + 1)) from (pk_lDiv (b := 3) hDi (by decide) (by decide)).trans (congrArg lN (by rw [Nat.div_div_eq_div_mul, Nat.pow_succ]))]
          refine lv_lstore (lv' := [(7, .long (lN (D / 3 ^ (i + 1)))), (10, .long (lN (D / 3 ^ i % 3))), (9, .int (nI i)), (5, .long (pt_sw D i)), (3, .long (pt_sc D i)), (0, .ref h0), (1, .long (lN D))]) hx hb dX0_signs_80 hl (by decide) rfl (fun ls hl => ?_)
          refine lv_iinc (v := nI (i + 1)) (lv' := [(9, .int (nI (i + 1))), (7, .long (lN (D / 3 ^ (i + 1)))), (10, .long (lN (D / 3 ^ i % 3))), (5, .long (pt_sw D i)), (3, .long (pt_sc D i)), (0, .ref h0), (1, .long (lN D))]) hx hb dX0_signs_82 hl (k := 2) rfl (by rw [nI_succ]; rfl) (by decide) rfl (fun ls hl => ?_)
          refine lv_goto (tgt := 27) hx hb dX0_signs_85 (by decide) ?_
          have hl := lv_sub hl [0, 1, 3, 4, 5, 6] rfl
          have hl : lv_has ls 12 [(9, .int (nI (i + 1))), (7, .long (lN (D / 3 ^ (i + 1)))), (5, .long (pt_sw D (i + 1))), (3, .long (pt_sc D (i + 1))), (0, .ref h0), (1, .long (lN D))] := by
            rw [show pt_sw D (i + 1) = pt_sw D i from if_neg (fun z => h3 (pt_cmp0.mpr (by rw [z]; rfl))), show pt_sc D (i + 1) = pt_sc D i from if_pos ((pk_lEQ (b := 2) (by omega) (by decide)).mp (pt_cmp0.mp h2))]
            exact hl
          exact ih (i + 1) ls (by omega) (by omega) hl
        · refine lv_lload hx hb dX0_signs_65 (lv_at hl 3 rfl) ?_
          refine lv_lconst (v := 1) hx hb dX0_signs_67 (by decide) ?_
          refine lv_iload hx hb dX0_signs_68 (lv_at hl 1 rfl) ?_
          refine lv_lshl (v := pt_shl 1 (nI i)) hx hb dX0_signs_70 rfl ?_
          refine lv_lor hx hb dX0_signs_71 ?_
          refine lv_lstore (lv' := [(5, .long ((pt_sw D i) ||| (pt_shl 1 (nI i)))), (10, .long (lN (D / 3 ^ i % 3))), (9, .int (nI i)), (7, .long (lN (D / 3 ^ i))), (3, .long (pt_sc D i)), (0, .ref h0), (1, .long (lN D))]) hx hb dX0_signs_72 hl (by decide) rfl (fun ls hl => ?_)
          refine lv_lload hx hb dX0_signs_74 (lv_at hl 3 rfl) ?_
          refine lv_ldc2 (v := 3) hx hb hown (hts _ (List.mem_cons_of_mem _ pw94)) dX0_signs_76 ?_
          refine lv_ldiv hx hb dX0_signs_79 (by decide) ?_
          rw [show lN (D / 3 ^ i) / 3 = lN (D / 3 ^ (i + 1)) from (pk_lDiv (b := 3) hDi (by decide) (by decide)).trans (congrArg lN (by rw [Nat.div_div_eq_div_mul, Nat.pow_succ]))]
          refine lv_lstore (lv' := [(7, .long (lN (D / 3 ^ (i + 1)))), (5, .long ((pt_sw D i) ||| (pt_shl 1 (nI i)))), (10, .long (lN (D / 3 ^ i % 3))), (9, .int (nI i)), (3, .long (pt_sc D i)), (0, .ref h0), (1, .long (lN D))]) hx hb dX0_signs_80 hl (by decide) rfl (fun ls hl => ?_)
          refine lv_iinc (v := nI (i + 1)) (lv' := [(9, .int (nI (i + 1))), (7, .long (lN (D / 3 ^ (i + 1)))), (5, .long ((pt_sw D i) ||| (pt_shl 1 (nI i)))), (10, .long (lN (D / 3 ^ i % 3))), (3, .long (pt_sc D i)), (0, .ref h0), (1, .long (lN D))]) hx hb dX0_signs_82 hl (k := 3) rfl (by rw [nI_succ]; rfl) (by decide) rfl (fun ls hl => ?_)
          refine lv_goto (tgt := 27) hx hb dX0_signs_85 (by decide) ?_
          have hl := lv_sub hl [0, 1, 2, 4, 5, 6] rfl
          have hl : lv_has ls 12 [(9, .int (nI (i + 1))), (7, .long (lN (D / 3 ^ (i + 1)))), (5, .long (pt_sw D (i + 1))), (3, .long (pt_sc D (i + 1))), (0, .ref h0), (1, .long (lN D))] := by
            rw [show pt_sw D (i + 1) = (pt_sw D i) ||| (pt_shl 1 (nI i)) from if_pos ((pk_lEQ (b := 1) (by omega) (by decide)).mp (pt_cmp0.mp h3)), show pt_sc D (i + 1) = pt_sc D i from if_pos ((pk_lEQ (b := 2) (by omega) (by decide)).mp (pt_cmp0.mp h2))]
            exact hl
          exact ih (i + 1) ls (by omega) (by omega) hl
      · refine lv_lload_n hx hb dX0_signs_51 rfl (lv_at hl 4 rfl) ?_
        refine lv_lconst (v := 1) hx hb dX0_signs_52 (by decide) ?_
        refine lv_iload hx hb dX0_signs_53 (lv_at hl 1 rfl) ?_
        refine lv_lshl (v := pt_shl 1 (nI i)) hx hb dX0_signs_55 rfl ?_
        refine lv_lor hx hb dX0_signs_56 ?_
        refine lv_lstore_n (lv' := [(3, .long ((pt_sc D i) ||| (pt_shl 1 (nI i)))), (10, .long (lN (D / 3 ^ i % 3))), (9, .int (nI i)), (7, .long (lN (D / 3 ^ i))), (5, .long (pt_sw D i)), (0, .ref h0), (1, .long (lN D))]) hx hb dX0_signs_57 rfl hl (by decide) rfl (fun ls hl => ?_)
        refine lv_lload hx hb dX0_signs_58 (lv_at hl 1 rfl) ?_
        refine lv_lconst (v := 1) hx hb dX0_signs_60 (by decide) ?_
        refine W.lcmp hx hb dX0_signs_61 ?_
        refine lv_if_ne (tgt := 74) hx hb dX0_signs_62 (by decide) (fun h3 => ?_) (fun h3 => ?_)
        · refine lv_lload hx hb dX0_signs_74 (lv_at hl 3 rfl) ?_
          refine lv_ldc2 (v := 3) hx hb hown (hts _ (List.mem_cons_of_mem _ pw94)) dX0_signs_76 ?_
          refine lv_ldiv hx hb dX0_signs_79 (by decide) ?_
          rw [show lN (D / 3 ^ i) / 3 = lN (D / 3 ^ (i + 1)) from (pk_lDiv (b := 3) hDi (by decide) (by decide)).trans (congrArg lN (by rw [Nat.div_div_eq_div_mul, Nat.pow_succ]))]
          refine lv_lstore (lv' := [(7, .long (lN (D / 3 ^ (i + 1)))), (3, .long ((pt_sc D i) ||| (pt_shl 1 (nI i)))), (10, .long (lN (D / 3 ^ i % 3))), (9, .int (nI i)), (5, .long (pt_sw D i)), (0, .ref h0), (1, .long (lN D))]) hx hb dX0_signs_80 hl (by decide) rfl (fun ls hl => ?_)
          refine lv_iinc (v := nI (i + 1)) (lv' := [(9, .int (nI (i + 1))), (7, .long (lN (D / 3 ^ (i + 1)))), (3, .long ((pt_sc D i) ||| (pt_shl 1 (nI i)))), (10, .long (lN (D / 3 ^ i % 3))), (5, .long (pt_sw D i)), (0, .ref h0), (1, .long (lN D))]) hx hb dX0_signs_82 hl (k := 3) rfl (by rw [nI_succ]; rfl) (by decide) rfl (fun ls hl => ?_)
          refine lv_goto (tgt := 27) hx hb dX0_signs_85 (by decide) ?_
          have hl := lv_sub hl [0, 1, 4, 2, 5, 6] rfl
          have hl : lv_has ls 12 [(9, .int (nI (i + 1))), (7, .long (lN (D / 3 ^ (i + 1)))), (5, .long (pt_sw D (i + 1))), (3, .long (pt_sc D (i + 1))), (0, .ref h0), (1, .long (lN D))] := by
            rw [show pt_sw D (i + 1) = pt_sw D i from if_neg (fun z => h3 (pt_cmp0.mpr (by rw [z]; rfl))), show pt_sc D (i + 1) = (pt_sc D i) ||| (pt_shl 1 (nI i)) from if_neg (fun z => h2 (pt_cmp0.mpr (by rw [z]; rfl)))]
            exact hl
          exact ih (i + 1) ls (by omega) (by omega) hl
        · refine lv_lload hx hb dX0_signs_65 (lv_at hl 4 rfl) ?_
          refine lv_lconst (v := 1) hx hb dX0_signs_67 (by decide) ?_
          refine lv_iload hx hb dX0_signs_68 (lv_at hl 2 rfl) ?_
          refine lv_lshl (v := pt_shl 1 (nI i)) hx hb dX0_signs_70 rfl ?_
          refine lv_lor hx hb dX0_signs_71 ?_
          refine lv_lstore (lv' := [(5, .long ((pt_sw D i) ||| (pt_shl 1 (nI i)))), (3, .long ((pt_sc D i) ||| (pt_shl 1 (nI i)))), (10, .long (lN (D / 3 ^ i % 3))), (9, .int (nI i)), (7, .long (lN (D / 3 ^ i))), (0, .ref h0), (1, .long (lN D))]) hx hb dX0_signs_72 hl (by decide) rfl (fun ls hl => ?_)
          refine lv_lload hx hb dX0_signs_74 (lv_at hl 4 rfl) ?_
          refine lv_ldc2 (v := 3) hx hb hown (hts _ (List.mem_cons_of_mem _ pw94)) dX0_signs_76 ?_
          refine lv_ldiv hx hb dX0_signs_79 (by decide) ?_
          rw [show lN (D / 3 ^ i) / 3 = lN (D / 3 ^ (i + 1)) from (pk_lDiv (b := 3) hDi (by decide) (by decide)).trans (congrArg lN (by rw [Nat.div_div_eq_div_mul, Nat.pow_succ]))]
          refine lv_lstore (lv' := [(7, .long (lN (D / 3 ^ (i + 1)))), (5, .long ((pt_sw D i) ||| (pt_shl 1 (nI i)))), (3, .long ((pt_sc D i) ||| (pt_shl 1 (nI i)))), (10, .long (lN (D / 3 ^ i % 3))), (9, .int (nI i)), (0, .ref h0), (1, .long (lN D))]) hx hb dX0_signs_80 hl (by decide) rfl (fun ls hl => ?_)
          refine lv_iinc (v := nI (i + 1)) (lv' := [(9, .int (nI (i + 1))), (7, .long (lN (D / 3 ^ (i + 1)))), (5, .long ((pt_sw D i) ||| (pt_shl 1 (nI i)))), (3, .long ((pt_sc D i) ||| (pt_shl 1 (nI i)))), (10, .long (lN (D / 3 ^ i % 3))), (0, .ref h0), (1, .long (lN D))]) hx hb dX0_signs_82 hl (k := 4) rfl (by rw [nI_succ]; rfl) (by decide) rfl (fun ls hl => ?_)
          refine lv_goto (tgt := 27) hx hb dX0_signs_85 (by decide) ?_
          have hl := lv_sub hl [0, 1, 2, 3, 5, 6] rfl
          have hl : lv_has ls 12 [(9, .int (nI (i + 1))), (7, .long (lN (D / 3 ^ (i + 1)))), (5, .long (pt_sw D (i + 1))), (3, .long (pt_sc D (i + 1))), (0, .ref h0), (1, .long (lN D))] := by
            rw [show pt_sw D (i + 1) = (pt_sw D i) ||| (pt_shl 1 (nI i)) from if_pos ((pk_lEQ (b := 1) (by omega) (by decide)).mp (pt_cmp0.mp h3)), show pt_sc D (i + 1) = (pt_sc D i) ||| (pt_shl 1 (nI i)) from if_neg (fun z => h2 (pt_cmp0.mpr (by rw [z]; rfl)))]
            exact hl
          exact ih (i + 1) ls (by omega) (by omega) hl
  have hl : lv_has ls 12 [(9, .int (nI 0)), (7, .long (lN (D / 3 ^ 0))), (5, .long (pt_sw D 0)), (3, .long (pt_sc D 0)), (0, .ref h0), (1, .long (lN D))] := by
    rw [Nat.pow_zero, Nat.div_one]
    exact lv_sub hl [0, 1, 2, 3, 4, 5] rfl
  exact loop 40 0 ls (by omega) (by omega) hl
set_option maxHeartbeats 4000000 in
set_option maxRecDepth 100000 in
/-- signs(digits): bad -/
theorem t_signs_bad (l : Launch) (hl9 : l.stackTraces = false) (dC : Nat → ClassId) (dI : Nat → Nat → Nat) (s0 : State) (h0X : pt_X s0) (h0 c0 w0 : Nat) (kc kw : ClassId) (k n : Nat) (fc fv : Nat → Int64) (cl su : Int32) (x : Int64) (sz : Nat) (hx0 : x < 0) : pt_Thr l yX0_signs wsX0_signs ({ frames := 6, cells := 1, slots := 6, locals := 82 }) (va_Pc [.ref h0, .long x] (fun U => U.heap.size = sz ∧ va_P (dC, dI) vwCl [(h0, .inr (0, [.ref c0, .ref w0, .int (nI k), .int (nI n), .long (pt_mk n), .int cl, .int su])), (c0, .inl (kc, 512, .inr (.inl fc))), (w0, .inl (kw, 512, .inr (.inl fv)))] U.heap ∧ va_K (dC, dI) vwCl [(kc, .long), (kw, .long)] U ∧ va_D (fun q => s0.heap.size ≤ q) [(h0, .inr (0, [.ref c0, .ref w0, .int (nI k), .int (nI n), .long (pt_mk n), .int cl, .int su])), (c0, .inl (kc, 512, .inr (.inl fc))), (w0, .inl (kw, 512, .inr (.inl fv)))] ∧ pt_ext s0 U)) "java/lang/IllegalArgumentException" (fun st t => va_P (dC, dI) vwCl [(h0, .inr (0, [.ref c0, .ref w0, .int (nI k), .int (nI n), .long (pt_mk n), .int cl, .int su])), (c0, .inl (kc, 512, .inr (.inl fc))), (w0, .inl (kw, 512, .inr (.inl fv)))] t.heap ∧ va_K (dC, dI) vwCl [(kc, .long), (kw, .long)] t ∧ va_D (va_A [(h0, .inr (0, [.ref c0, .ref w0, .int (nI k), .int (nI n), .long (pt_mk n), .int cl, .int su])), (c0, .inl (kc, 512, .inr (.inl fc))), (w0, .inl (kw, 512, .inr (.inl fv)))] sz) [(h0, .inr (0, [.ref c0, .ref w0, .int (nI k), .int (nI n), .long (pt_mk n), .int cl, .int su])), (c0, .inl (kc, 512, .inr (.inl fc))), (w0, .inl (kw, 512, .inr (.inl fv)))] ∧ va_F (va_A [(h0, .inr (0, [.ref c0, .ref w0, .int (nI k), .int (nI n), .long (pt_mk n), .int cl, .int su])), (c0, .inl (kc, 512, .inr (.inl fc))), (w0, .inl (kw, 512, .inr (.inl fv)))] sz) st t) 1 6 (va_A [(h0, .inr (0, [.ref c0, .ref w0, .int (nI k), .int (nI n), .long (pt_mk n), .int cl, .int su])), (c0, .inl (kc, 512, .inr (.inl fc))), (w0, .inl (kw, 512, .inr (.inl fv)))] sz) := by
  refine pt_Thr_ofW (cc := cX0_signs) (maxL := 12) (ret := (some .int)) (by decide) rfl ?_
  intro p e s m args below meth c s₁ B hml hnoh hv
  obtain ⟨ha, hsz, hP, hK, hD0, hext⟩ := hv
  subst hsz
  have hx := B.exec
  have hb := B.bytes
  have hr := B.returns
  have hts := atoms_spec (ws := wsX0_signs) B.pre
  have hown : s.vm.findClass RX0 = some m.cls := findClass_of_methodNamed B.named
  have hlocks := B.notSynchronized
  have hl := lv_entry ([.ref h0, .long x]) (n := 12) (Nat.le_of_ble_eq_true rfl)
  refine W.eq (show entryFrame m args 12 = entryFrame m ([.ref h0, .long x] : List Value).toArray 12 by rw [ha]) ?_
  rw [lg_entry_eq]
  generalize (lg_sl ([.ref h0, .long x]) ++ List.replicate (12 - (lg_sl ([.ref h0, .long x])).length) Slot.unset).toArray = ls at hl ⊢
  have hl : lv_has ls 12 [(0, .ref h0), (1, .long x)] := hl
  have hD := hD0.self (sz := s.heap.size)
  have hAs : ∀ q : Nat, va_A [(h0, .inr (0, [.ref c0, .ref w0, .int (nI k), .int (nI n), .long (pt_mk n), .int cl, .int su])), (c0, .inl (kc, 512, .inr (.inl fc))), (w0, .inl (kw, 512, .inr (.inl fv)))] s.heap.size q → s0.heap.size ≤ q := pt_As hD0 hext.2.1
  generalize hAe : va_A [(h0, .inr (0, [.ref c0, .ref w0, .int (nI k), .int (nI n), .long (pt_mk n), .int cl, .int su])), (c0, .inl (kc, 512, .inr (.inl fc))), (w0, .inl (kw, 512, .inr (.inl fv)))] s.heap.size = A at hD hAs ⊢
  have hA : ∀ q : Nat, s.heap.size ≤ q → A q := fun q h => by rw [← hAe]; exact Or.inr h
  have hS : va_S A s.heap s.heap [] := va_S.rf
  have hP : va_P (dC, dI) vwCl [(h0, .inr (0, [.ref c0, .ref w0, .int (nI k), .int (nI n), .long (pt_mk n), .int cl, .int su])), (c0, .inl (kc, 512, .inr (.inl fc))), (w0, .inl (kw, 512, .inr (.inl fv)))] s.heap := hP
  generalize hQ : pt_TQ below "java/lang/IllegalArgumentException" (fun st t => va_P (dC, dI) vwCl [(h0, .inr (0, [.ref c0, .ref w0, .int (nI k), .int (nI n), .long (pt_mk n), .int cl, .int su])), (c0, .inl (kc, 512, .inr (.inl fc))), (w0, .inl (kw, 512, .inr (.inl fv)))] t.heap ∧ va_K (dC, dI) vwCl [(kc, .long), (kw, .long)] t ∧ va_D A [(h0, .inr (0, [.ref c0, .ref w0, .int (nI k), .int (nI n), .long (pt_mk n), .int cl, .int su])), (c0, .inl (kc, 512, .inr (.inl fc))), (w0, .inl (kw, 512, .inr (.inl fv)))] ∧ va_F A st t) s 1 6 A = Q
  refine lv_lload_n hx hb dX0_signs_0 rfl (lv_at hl 1 rfl) ?_
  refine lv_lconst (v := 0) hx hb dX0_signs_1 (by decide) ?_
  refine W.lcmp hx hb dX0_signs_2 ?_
  refine lv_if_ge (tgt := 16) hx hb dX0_signs_3 (by decide) (fun h1 => absurd ((lg_cmp_ge _ _).mp h1) (Int64.not_le.mpr hx0)) (fun h1 => ?_)
  obtain ⟨sa, hstr⟩ := h0X.2.1 52 "the digits are below 0" (by decide)
  rw [← hQ]
  exact pt_throwS (own := RX0) (cls := "java/lang/IllegalArgumentException") (text := "the digits are below 0") (names := ["java/lang/RuntimeException", "java/lang/Exception"]) (ik := 37) (is := 52) (ic := 41) (sa := sa) hx hb hl9 hown (by decide) (by decide) (fun U hU hV w hw => pt_X_at h0X (hext.on hS hAs hU hV) w (pt_xw_in_iae w hw) _) (vk_R.warm hext.1 hstr) (hl.1.trans hml.symm) dX0_signs_6 dX0_signs_9 dX0_signs_10 dX0_signs_12 dX0_signs_15 hnoh (by decide) (by decide) (by decide) (by decide) hlocks (fun t hW hz hk => ⟨hP.kept (fun k q hq => hk _ ((hP k q hq).lt)), va_K.moved hW.alike hK, hD, pt_S_thrown hS hz hk⟩) hS.2.2 (by decide) (by decide)
end
section
set_option maxHeartbeats 4000000 in
set_option maxRecDepth 100000 in
/-- drop(i) -/
theorem c_drop (l : Launch) (dC : Nat → ClassId) (dI : Nat → Nat → Nat) (h0 c0 w0 : Nat) (kc kw : ClassId) (k n : Nat) (fc fv : Nat → Int64) (cl su : Int32) (i : Nat) (sz : Nat) (hi : i < k) (hk : k ≤ 512) : Met l yX0_drop wsX0_drop ({ frames := 1, cells := 0, slots := 0, locals := 21 }) (va_Pc [.ref h0, .int (nI i)] (fun U => U.heap.size = sz ∧ va_P (dC, dI) vwCl [(h0, .inr (0, [.ref c0, .ref w0, .int (nI k), .int (nI n), .long (pt_mk n), .int cl, .int su])), (c0, .inl (kc, 512, .inr (.inl fc))), (w0, .inl (kw, 512, .inr (.inl fv)))] U.heap ∧ va_K (dC, dI) vwCl [(kc, .long), (kw, .long)] U ∧ va_D (fun _ => True) [(h0, .inr (0, [.ref c0, .ref w0, .int (nI k), .int (nI n), .long (pt_mk n), .int cl, .int su])), (c0, .inl (kc, 512, .inr (.inl fc))), (w0, .inl (kw, 512, .inr (.inl fv)))])) (va_Qv (fun _ => True) (fun (u : Unit) (t : State) => match u with | _ => va_P (dC, dI) vwCl [(h0, .inr (0, [.ref c0, .ref w0, .int (nI (k - 1)), .int (nI n), .long (pt_mk n), .int cl, .int su])), (c0, .inl (kc, 512, .inr (.inl (pt_mv fc i k)))), (w0, .inl (kw, 512, .inr (.inl (pt_mv fv i k))))] t.heap ∧ va_K (dC, dI) vwCl [(kc, .long), (kw, .long)] t ∧ va_D (va_A [(h0, .inr (0, [.ref c0, .ref w0, .int (nI k), .int (nI n), .long (pt_mk n), .int cl, .int su])), (c0, .inl (kc, 512, .inr (.inl fc))), (w0, .inl (kw, 512, .inr (.inl fv)))] sz) [(h0, .inr (0, [.ref c0, .ref w0, .int (nI (k - 1)), .int (nI n), .long (pt_mk n), .int cl, .int su])), (c0, .inl (kc, 512, .inr (.inl (pt_mv fc i k)))), (w0, .inl (kw, 512, .inr (.inl (pt_mv fv i k))))]) (va_A [(h0, .inr (0, [.ref c0, .ref w0, .int (nI k), .int (nI n), .long (pt_mk n), .int cl, .int su])), (c0, .inl (kc, 512, .inr (.inl fc))), (w0, .inl (kw, 512, .inr (.inl fv)))] sz)) 0 0 (va_A [(h0, .inr (0, [.ref c0, .ref w0, .int (nI k), .int (nI n), .long (pt_mk n), .int cl, .int su])), (c0, .inl (kc, 512, .inr (.inl fc))), (w0, .inl (kw, 512, .inr (.inl fv)))] sz) := by
  refine Met.ofW (cc := cX0_drop) (maxL := 3) (ret := none) (by decide) rfl ?_
  intro p e s m args below meth c s₁ B hml hv
  obtain ⟨ha, hsz, hP, hK, hD0⟩ := hv
  subst hsz
  have hx := B.exec
  have hb := B.bytes
  have hr := B.returns
  have hts := atoms_spec (ws := wsX0_drop) B.pre
  have hown : s.vm.findClass RX0 = some m.cls := findClass_of_methodNamed B.named
  have hlocks := B.notSynchronized
  have hl := lv_entry ([.ref h0, .int (nI i)]) (n := 3) (Nat.le_of_ble_eq_true rfl)
  refine W.eq (show entryFrame m args 3 = entryFrame m ([.ref h0, .int (nI i)] : List Value).toArray 3 by rw [ha]) ?_
  rw [lg_entry_eq]
  generalize (lg_sl ([.ref h0, .int (nI i)]) ++ List.replicate (3 - (lg_sl ([.ref h0, .int (nI i)])).length) Slot.unset).toArray = ls at hl ⊢
  have hl : lv_has ls 3 [(0, .ref h0), (1, .int (nI i))] := hl
  have hD := hD0.self (sz := s.heap.size)
  generalize hAe : va_A [(h0, .inr (0, [.ref c0, .ref w0, .int (nI k), .int (nI n), .long (pt_mk n), .int cl, .int su])), (c0, .inl (kc, 512, .inr (.inl fc))), (w0, .inl (kw, 512, .inr (.inl fv)))] s.heap.size = A at hD ⊢
  have hA : ∀ q : Nat, s.heap.size ≤ q → A q := fun q h => by rw [← hAe]; exact Or.inr h
  have hS : va_S A s.heap s.heap [] := va_S.rf
  generalize hQ : MQ below (va_Qv (fun _ => True) (fun (u : Unit) (t : State) => match u with | _ => va_P (dC, dI) vwCl [(h0, .inr (0, [.ref c0, .ref w0, .int (nI (k - 1)), .int (nI n), .long (pt_mk n), .int cl, .int su])), (c0, .inl (kc, 512, .inr (.inl (pt_mv fc i k)))), (w0, .inl (kw, 512, .inr (.inl (pt_mv fv i k))))] t.heap ∧ va_K (dC, dI) vwCl [(kc, .long), (kw, .long)] t ∧ va_D A [(h0, .inr (0, [.ref c0, .ref w0, .int (nI (k - 1)), .int (nI n), .long (pt_mk n), .int cl, .int su])), (c0, .inl (kc, 512, .inr (.inl (pt_mv fc i k)))), (w0, .inl (kw, 512, .inr (.inl (pt_mv fv i k))))]) A) args s 0 0 A = Q
  have hP : va_P (dC, dI) vwCl [(h0, .inr (0, [.ref c0, .ref w0, .int (nI k), .int (nI n), .long (pt_mk n), .int cl, .int su])), (c0, .inl (kc, 512, .inr (.inl fc))), (w0, .inl (kw, 512, .inr (.inl fv)))] s.heap := hP
  refine lv_aload_n hx hb dX0_drop_0 rfl (lv_at hl 0 rfl) ?_
  refine lv_iload_n hx hb dX0_drop_1 rfl (lv_at hl 1 rfl) ?_
  refine va_csv (W.runV (As := [.int (nI i)]) (rest := []) ⟨hx, hb, hml, hown, hts⟩ (c_refuseAbsent l dC dI h0 c0 w0 kc kw k n fc fv cl su i hi hk) (cwV 1 hts (pt_gV pw104 pw105 pw4 pw17 pw106) rfl rfl rfl (by decide +kernel) ⟨Nat.le_of_ble_eq_true rfl, Nat.le_of_ble_eq_true rfl⟩) ⟨fun a U g mk q => by obtain ⟨q0, qP, qK⟩ := q; exact ⟨q0, qP, va_K.moved (u := U) (U := U.calling g mk a) (Vm.Alike.refl U.vm) qK⟩, va_recv hK hP (ci := 0) (q0 := 0) rfl rfl, fun U hU hW => ⟨rfl, by rw [hU]; exact hP, va_K.moved hW.alike hK⟩⟩ rfl rfl hl.1 rfl (lv_room (Nat.le_of_ble_eq_true rfl)) dX0_drop_2 ⟨Nat.zero_le _, Nat.zero_le _⟩) (fun hw => ?_)
  refine lv_iload_n hx hb dX0_drop_5 rfl (lv_at hl 1 rfl) ?_
  refine lv_iconst (v := 1) hx hb dX0_drop_6 (by decide) ?_
  refine lv_iadd hx hb dX0_drop_7 ?_
  rw [nI_1]
  refine lv_istore_n (lv' := [(2, .int (nI (i + 1))), (0, .ref h0), (1, .int (nI i))]) hx hb dX0_drop_8 rfl hl (by decide) rfl (fun ls hl => ?_)
  have loop : ∀ (d t : Nat) (H : Heap) (locs : List Loc) (ls : Array Slot), k - t = d → i < t → t ≤ k → va_P (dC, dI) vwCl [(h0, .inr (0, [.ref c0, .ref w0, .int (nI k), .int (nI n), .long (pt_mk n), .int cl, .int su])), (c0, .inl (kc, 512, .inr (.inl (pt_mv fc i t)))), (w0, .inl (kw, 512, .inr (.inl (pt_mv fv i t))))] H → va_D A [(h0, .inr (0, [.ref c0, .ref w0, .int (nI k), .int (nI n), .long (pt_mk n), .int cl, .int su])), (c0, .inl (kc, 512, .inr (.inl (pt_mv fc i t)))), (w0, .inl (kw, 512, .inr (.inl (pt_mv fv i t))))] → va_S A s.heap H locs → lv_has ls 3 [(2, .int (nI t)), (0, .ref h0), (1, .int (nI i))] → W p l e (headSpec wsX0_drop ({ frames := 1, cells := 0, slots := 0, locals := 21 })).room s m args below meth c H locs 0 0 Q (F0 m 9 ls []) := by
    intro d
    induction d with
    | zero =>
      intro t H locs ls hd hit htk hP hD hS hl
      obtain rfl : t = k := by omega
      refine lv_iload_n hx hb dX0_drop_9 rfl (lv_at hl 0 rfl) ?_
      refine lv_aload_n hx hb dX0_drop_10 rfl (lv_at hl 1 rfl) ?_
      refine va_get (D := (dC, dI)) (ci := 0) (v := .int (nI t)) (C := RX0) (T := TX0) (N := 7) hx hb hts (fun w h => List.mem_cons_of_mem _ (pt_wsX0 w h)) hown hK hP 0 rfl rfl 2 (by decide) (hts _ (List.mem_cons_of_mem _ pw34)) (fun _ h9 => h9) rfl dX0_drop_11 ?_
      refine lv_icmp_ge (tgt := 51) hx hb dX0_drop_14 (by decide) (fun h1 => ?_) (fun h1 => absurd (nI_le (by omega) (by omega)) h1)
      refine lv_aload_n hx hb dX0_drop_51 rfl (lv_at hl 1 rfl) ?_
      refine lv_dup hx hb dX0_drop_52 rfl ?_
      refine va_get (D := (dC, dI)) (ci := 0) (v := .int (nI t)) (C := RX0) (T := TX0) (N := 7) hx hb hts (fun w h => List.mem_cons_of_mem _ (pt_wsX0 w h)) hown hK hP 0 rfl rfl 2 (by decide) (hts _ (List.mem_cons_of_mem _ pw34)) (fun _ h9 => h9) rfl dX0_drop_53 ?_
      refine lv_iconst (v := 1) hx hb dX0_drop_56 (by decide) ?_
      refine lv_isub hx hb dX0_drop_57 ?_
      rw [show nI t - 1 = nI (t - 1) from pk_sub (b := 1) (by omega)]
      refine va_put (D := (dC, dI)) (ci := 0) (v := .int (nI (t - 1))) (ty := .int) (C := RX0) (T := TX0) (N := 7) hx hb hts (fun w h => List.mem_cons_of_mem _ (pt_wsX0 w h)) tyX0 tyX0_ok nmX0 hown hK hP hD hS 0 rfl rfl 2 (by decide) (hts _ (List.mem_cons_of_mem _ pw34)) (fun _ h9 => h9) rfl (by decide +kernel) rfl rfl (Nat.le_of_ble_eq_true rfl) dX0_drop_58 (fun H locs hP hD hS => ?_)
      have hP : va_P (dC, dI) vwCl [(h0, .inr (0, [.ref c0, .ref w0, .int (nI (t - 1)), .int (nI n), .long (pt_mk n), .int cl, .int su])), (c0, .inl (kc, 512, .inr (.inl (pt_mv fc i t)))), (w0, .inl (kw, 512, .inr (.inl (pt_mv fv i t))))] H := hP
      have hD : va_D A [(h0, .inr (0, [.ref c0, .ref w0, .int (nI (t - 1)), .int (nI n), .long (pt_mk n), .int cl, .int su])), (c0, .inl (kc, 512, .inr (.inl (pt_mv fc i t)))), (w0, .inl (kw, 512, .inr (.inl (pt_mv fv i t))))] := hD
      rw [← hQ]
      exact W.vret hx hb hr (fun t ht hW => ⟨⟨(), rfl, trivial, by rw [ht]; exact hP, va_K.moved hW.alike hK, hD⟩, hS.F ht⟩) hS.2.2 dX0_drop_61
    | succ d ih =>
      intro t H locs ls hd hit htk hP hD hS hl
      refine lv_iload_n hx hb dX0_drop_9 rfl (lv_at hl 0 rfl) ?_
      refine lv_aload_n hx hb dX0_drop_10 rfl (lv_at hl 1 rfl) ?_
      refine va_get (D := (dC, dI)) (ci := 0) (v := .int (nI k)) (C := RX0) (T := TX0) (N := 7) hx hb hts (fun w h => List.mem_cons_of_mem _ (pt_wsX0 w h)) hown hK hP 0 rfl rfl 2 (by decide) (hts _ (List.mem_cons_of_mem _ pw34)) (fun _ h9 => h9) rfl dX0_drop_11 ?_
      refine lv_icmp_ge (tgt := 51) hx hb dX0_drop_14 (by decide) (fun h1 => absurd h1 (nI_ge (by omega) (by omega))) (fun h1 => ?_)
      refine lv_aload_n hx hb dX0_drop_17 rfl (lv_at hl 1 rfl) ?_
      refine va_get (D := (dC, dI)) (ci := 0) (v := .ref c0) (C := RX0) (T := TX0) (N := 7) hx hb hts (fun w h => List.mem_cons_of_mem _ (pt_wsX0 w h)) hown hK hP 0 rfl rfl 0 (by decide) (hts _ (List.mem_cons_of_mem _ pw32)) (fun _ h9 => h9) rfl dX0_drop_18 ?_
      refine lv_iload_n hx hb dX0_drop_21 rfl (lv_at hl 0 rfl) ?_
      refine lv_iconst (v := 1) hx hb dX0_drop_22 (by decide) ?_
      refine lv_isub hx hb dX0_drop_23 ?_
      rw [show nI t - 1 = nI (t - 1) from pk_sub (b := 1) (by omega)]
      refine lv_aload_n hx hb dX0_drop_24 rfl (lv_at hl 1 rfl) ?_
      refine va_get (D := (dC, dI)) (ci := 0) (v := .ref c0) (C := RX0) (T := TX0) (N := 7) hx hb hts (fun w h => List.mem_cons_of_mem _ (pt_wsX0 w h)) hown hK hP 0 rfl rfl 0 (by decide) (hts _ (List.mem_cons_of_mem _ pw32)) (fun _ h9 => h9) rfl dX0_drop_25 ?_
      refine lv_iload_n hx hb dX0_drop_28 rfl (lv_at hl 0 rfl) ?_
      refine va_lald hx hb hK hP 1 0 rfl rfl (vp_in_nI (by omega) (by decide)) dX0_drop_29 ?_
      rw [nI_clamp (by omega)]
      refine va_last hx hb hK hP hD hS 1 0 rfl rfl (vp_in_nI (by omega) (by decide)) dX0_drop_30 (fun H locs hP hD hS => ?_)
      rw [nI_clamp (by omega)] at hP hD
      have hP : va_P (dC, dI) vwCl [(h0, .inr (0, [.ref c0, .ref w0, .int (nI k), .int (nI n), .long (pt_mk n), .int cl, .int su])), (c0, .inl (kc, 512, .inr (.inl (vp_updL (pt_mv fc i t) (t - 1) ((pt_mv fc i t) t))))), (w0, .inl (kw, 512, .inr (.inl (pt_mv fv i t))))] H := hP
      have hD : va_D A [(h0, .inr (0, [.ref c0, .ref w0, .int (nI k), .int (nI n), .long (pt_mk n), .int cl, .int su])), (c0, .inl (kc, 512, .inr (.inl (vp_updL (pt_mv fc i t) (t - 1) ((pt_mv fc i t) t))))), (w0, .inl (kw, 512, .inr (.inl (pt_mv fv i t))))] := hD
      rw [pt_mv_s fc (by omega)] at hP hD
      refine lv_aload_n hx hb dX0_drop_31 rfl (lv_at hl 1 rfl) ?_
      refine va_get (D := (dC, dI)) (ci := 0) (v := .ref w0) (C := RX0) (T := TX0) (N := 7) hx hb hts (fun w h => List.mem_cons_of_mem _ (pt_wsX0 w h)) hown hK hP 0 rfl rfl 1 (by decide) (hts _ (List.mem_cons_of_mem _ pw33)) (fun _ h9 => h9) rfl dX0_drop_32 ?_
      refine lv_iload_n hx hb dX0_drop_35 rfl (lv_at hl 0 rfl) ?_
      refine lv_iconst (v := 1) hx hb dX0_drop_36 (by decide) ?_
      refine lv_isub hx hb dX0_drop_37 ?_
      rw [show nI t - 1 = nI (t - 1) from pk_sub (b := 1) (by omega)]
      refine lv_aload_n hx hb dX0_drop_38 rfl (lv_at hl 1 rfl) ?_
      refine va_get (D := (dC, dI)) (ci := 0) (v := .ref w0) (C := RX0) (T := TX0) (N := 7) hx hb hts (fun w h => List.mem_cons_of_mem _ (pt_wsX0 w h)) hown hK hP 0 rfl rfl 1 (by decide) (hts _ (List.mem_cons_of_mem _ pw33)) (fun _ h9 => h9) rfl dX0_drop_39 ?_
      refine lv_iload_n hx hb dX0_drop_42 rfl (lv_at hl 0 rfl) ?_
      refine va_lald hx hb hK hP 2 1 rfl rfl (vp_in_nI (by omega) (by decide)) dX0_drop_43 ?_
      rw [nI_clamp (by omega)]
      refine va_last hx hb hK hP hD hS 2 1 rfl rfl (vp_in_nI (by omega) (by decide)) dX0_drop_44 (fun H locs hP hD hS => ?_)
      rw [nI_clamp (by omega)] at hP hD
      have hP : va_P (dC, dI) vwCl [(h0, .inr (0, [.ref c0, .ref w0, .int (nI k), .int (nI n), .long (pt_mk n), .int cl, .int su])), (c0, .inl (kc, 512, .inr (.inl (pt_mv fc i (t + 1))))), (w0, .inl (kw, 512, .inr (.inl (vp_updL (pt_mv fv i t) (t - 1) ((pt_mv fv i t) t)))))] H := hP
      have hD : va_D A [(h0, .inr (0, [.ref c0, .ref w0, .int (nI k), .int (nI n), .long (pt_mk n), .int cl, .int su])), (c0, .inl (kc, 512, .inr (.inl (pt_mv fc i (t + 1))))), (w0, .inl (kw, 512, .inr (.inl (vp_updL (pt_mv fv i t) (t - 1) ((pt_mv fv i t) t)))))] := hD
      rw [pt_mv_s fv (by omega)] at hP hD
      refine lv_iinc (v := nI (t + 1)) (lv' := [(2, .int (nI (t + 1))), (0, .ref h0), (1, .int (nI i))]) hx hb dX0_drop_45 hl (k := 0) rfl (by rw [nI_succ]; rfl) (by decide) rfl (fun ls hl => ?_)
      refine lv_goto (tgt := 9) hx hb dX0_drop_48 (by decide) ?_
      exact ih (t + 1) H locs ls (by omega) (by omega) (by omega) hP hD hS (lv_sub hl [0, 1, 2] rfl)
  exact loop (k - (i + 1)) (i + 1) s.heap [] ls rfl (by omega) (by omega) (by rw [pt_mv_0, pt_mv_0]; exact hP) (by rw [pt_mv_0, pt_mv_0]; exact hD) hS (lv_sub hl [0, 1, 2] rfl)
set_option maxHeartbeats 4000000 in
set_option maxRecDepth 100000 in
/-- drop(i): not there -/
theorem t_drop (l : Launch) (hl9 : l.stackTraces = false) (dC : Nat → ClassId) (dI : Nat → Nat → Nat) (s0 : State) (h0X : pt_X s0) (h0 c0 w0 : Nat) (kc kw : ClassId) (k n : Nat) (fc fv : Nat → Int64) (cl su : Int32) (x : Int32) (sz : Nat) (hab : x < 0 ∨ ¬ x < nI k) : pt_Thr l yX0_drop wsX0_drop ({ frames := 7, cells := 1, slots := 6, locals := 103 }) (va_Pc [.ref h0, .int x] (fun U => U.heap.size = sz ∧ va_P (dC, dI) vwCl [(h0, .inr (0, [.ref c0, .ref w0, .int (nI k), .int (nI n), .long (pt_mk n), .int cl, .int su])), (c0, .inl (kc, 512, .inr (.inl fc))), (w0, .inl (kw, 512, .inr (.inl fv)))] U.heap ∧ va_K (dC, dI) vwCl [(kc, .long), (kw, .long)] U ∧ va_D (fun q => s0.heap.size ≤ q) [(h0, .inr (0, [.ref c0, .ref w0, .int (nI k), .int (nI n), .long (pt_mk n), .int cl, .int su])), (c0, .inl (kc, 512, .inr (.inl fc))), (w0, .inl (kw, 512, .inr (.inl fv)))] ∧ pt_ext s0 U)) "java/util/NoSuchElementException" (fun st t => va_P (dC, dI) vwCl [(h0, .inr (0, [.ref c0, .ref w0, .int (nI k), .int (nI n), .long (pt_mk n), .int cl, .int su])), (c0, .inl (kc, 512, .inr (.inl fc))), (w0, .inl (kw, 512, .inr (.inl fv)))] t.heap ∧ va_K (dC, dI) vwCl [(kc, .long), (kw, .long)] t ∧ va_D (va_A [(h0, .inr (0, [.ref c0, .ref w0, .int (nI k), .int (nI n), .long (pt_mk n), .int cl, .int su])), (c0, .inl (kc, 512, .inr (.inl fc))), (w0, .inl (kw, 512, .inr (.inl fv)))] sz) [(h0, .inr (0, [.ref c0, .ref w0, .int (nI k), .int (nI n), .long (pt_mk n), .int cl, .int su])), (c0, .inl (kc, 512, .inr (.inl fc))), (w0, .inl (kw, 512, .inr (.inl fv)))] ∧ va_F (va_A [(h0, .inr (0, [.ref c0, .ref w0, .int (nI k), .int (nI n), .long (pt_mk n), .int cl, .int su])), (c0, .inl (kc, 512, .inr (.inl fc))), (w0, .inl (kw, 512, .inr (.inl fv)))] sz) st t) 1 6 (va_A [(h0, .inr (0, [.ref c0, .ref w0, .int (nI k), .int (nI n), .long (pt_mk n), .int cl, .int su])), (c0, .inl (kc, 512, .inr (.inl fc))), (w0, .inl (kw, 512, .inr (.inl fv)))] sz) := by
  refine pt_Thr_ofW (cc := cX0_drop) (maxL := 3) (ret := none) (by decide) rfl ?_
  intro p e s m args below meth c s₁ B hml hnoh hv
  obtain ⟨ha, hsz, hP, hK, hD0, hext⟩ := hv
  subst hsz
  have hx := B.exec
  have hb := B.bytes
  have hr := B.returns
  have hts := atoms_spec (ws := wsX0_drop) B.pre
  have hown : s.vm.findClass RX0 = some m.cls := findClass_of_methodNamed B.named
  have hlocks := B.notSynchronized
  have hl := lv_entry ([.ref h0, .int x]) (n := 3) (Nat.le_of_ble_eq_true rfl)
  refine W.eq (show entryFrame m args 3 = entryFrame m ([.ref h0, .int x] : List Value).toArray 3 by rw [ha]) ?_
  rw [lg_entry_eq]
  generalize (lg_sl ([.ref h0, .int x]) ++ List.replicate (3 - (lg_sl ([.ref h0, .int x])).length) Slot.unset).toArray = ls at hl ⊢
  have hl : lv_has ls 3 [(0, .ref h0), (1, .int x)] := hl
  have hD := hD0.self (sz := s.heap.size)
  have hAs : ∀ q : Nat, va_A [(h0, .inr (0, [.ref c0, .ref w0, .int (nI k), .int (nI n), .long (pt_mk n), .int cl, .int su])), (c0, .inl (kc, 512, .inr (.inl fc))), (w0, .inl (kw, 512, .inr (.inl fv)))] s.heap.size q → s0.heap.size ≤ q := pt_As hD0 hext.2.1
  generalize hAe : va_A [(h0, .inr (0, [.ref c0, .ref w0, .int (nI k), .int (nI n), .long (pt_mk n), .int cl, .int su])), (c0, .inl (kc, 512, .inr (.inl fc))), (w0, .inl (kw, 512, .inr (.inl fv)))] s.heap.size = A at hD hAs ⊢
  have hA : ∀ q : Nat, s.heap.size ≤ q → A q := fun q h => by rw [← hAe]; exact Or.inr h
  have hS : va_S A s.heap s.heap [] := va_S.rf
  have hP : va_P (dC, dI) vwCl [(h0, .inr (0, [.ref c0, .ref w0, .int (nI k), .int (nI n), .long (pt_mk n), .int cl, .int su])), (c0, .inl (kc, 512, .inr (.inl fc))), (w0, .inl (kw, 512, .inr (.inl fv)))] s.heap := hP
  generalize hQ : pt_TQ below "java/util/NoSuchElementException" (fun st t => va_P (dC, dI) vwCl [(h0, .inr (0, [.ref c0, .ref w0, .int (nI k), .int (nI n), .long (pt_mk n), .int cl, .int su])), (c0, .inl (kc, 512, .inr (.inl fc))), (w0, .inl (kw, 512, .inr (.inl fv)))] t.heap ∧ va_K (dC, dI) vwCl [(kc, .long), (kw, .long)] t ∧ va_D A [(h0, .inr (0, [.ref c0, .ref w0, .int (nI k), .int (nI n), .long (pt_mk n), .int cl, .int su])), (c0, .inl (kc, 512, .inr (.inl fc))), (w0, .inl (kw, 512, .inr (.inl fv)))] ∧ va_F A st t) s 1 6 A = Q
  refine lv_aload_n hx hb dX0_drop_0 rfl (lv_at hl 0 rfl) ?_
  refine lv_iload_n hx hb dX0_drop_1 rfl (lv_at hl 1 rfl) ?_
  rw [← hQ, ← hAe]
  exact pt_out (pt_runT (As := [.int x]) (rest := []) ⟨hx, hb, hml, hown, hts⟩ (t_refuseAbsent l hl9 dC dI s0 h0X h0 c0 w0 kc kw k n fc fv cl su x s.heap.size hab) (cwV 1 hts (pt_gV pw104 pw105 pw4 pw17 pw106) rfl rfl rfl (by decide +kernel) ⟨Nat.le_of_ble_eq_true rfl, Nat.le_of_ble_eq_true rfl⟩) ⟨fun a U g mk q => by obtain ⟨q0, q1, qP, qK, qD, qX⟩ := q; exact ⟨q0, q1, qP, va_K.moved (u := U) (U := U.calling g mk a) (Vm.Alike.refl U.vm) qK, qD, qX⟩, va_recv hK hP (ci := 0) (q0 := 0) rfl rfl, fun U hU hW => ⟨rfl, by rw [hU], by rw [hU]; exact hP, va_K.moved hW.alike hK, hD0, hext.same hU hW⟩⟩ rfl rfl hl.1 rfl (lv_room (Nat.le_of_ble_eq_true rfl)) dX0_drop_2 ⟨by decide, by decide⟩) hnoh hlocks (fun st t t2 h1 h2 h3 h4 h5 => ⟨by rw [h4]; exact h3.1, va_K.moved (by rw [h5]; exact Vm.Alike.refl _) h3.2.1, h3.2.2.1, pt_F_same h1 h4 h3.2.2.2⟩) t_nil (fun _ h => h) (by decide) (by decide)
set_option maxHeartbeats 4000000 in
set_option maxRecDepth 100000 in
/-- decode(word) -/
theorem c_decode (l : Launch) (dC : Nat → ClassId) (dI : Nat → Nat → Nat) (h0 c0 w0 : Nat) (kc kw : ClassId) (k n : Nat) (fc fv : Nat → Int64) (cl su : Int32) (a : Int64) (hI : pt_I k n fc fv) : Met l yX0_decode wsX0_decode ({ frames := 1, cells := 0, slots := 0, locals := 25 }) (va_Pc [.ref h0, .long a] (fun U => va_P (dC, dI) vwCl [(h0, .inr (0, [.ref c0, .ref w0, .int (nI k), .int (nI n), .long (pt_mk n), .int cl, .int su])), (c0, .inl (kc, 512, .inr (.inl fc))), (w0, .inl (kw, 512, .inr (.inl fv)))] U.heap ∧ va_K (dC, dI) vwCl [(kc, .long), (kw, .long)] U)) (vp_Si (fun r : Int32 => pt_F (fun j => pt_sh (fc j) (fv j) (pt_mk n) (a &&& pt_mk n)) k r)) 0 0 (fun _ => False) := by
  refine Met.ofW (cc := cX0_decode) (maxL := 5) (ret := (some .int)) (by decide) rfl ?_
  intro p e s m args below meth c s₁ B hml hv
  obtain ⟨ha, hP, hK⟩ := hv
  have hx := B.exec
  have hb := B.bytes
  have hr := B.returns
  have hts := atoms_spec (ws := wsX0_decode) B.pre
  have hown : s.vm.findClass RX0 = some m.cls := findClass_of_methodNamed B.named
  have hlocks := B.notSynchronized
  have hl := lv_entry ([.ref h0, .long a]) (n := 5) (Nat.le_of_ble_eq_true rfl)
  refine W.eq (show entryFrame m args 5 = entryFrame m ([.ref h0, .long a] : List Value).toArray 5 by rw [ha]) ?_
  rw [lg_entry_eq]
  generalize (lg_sl ([.ref h0, .long a]) ++ List.replicate (5 - (lg_sl ([.ref h0, .long a])).length) Slot.unset).toArray = ls at hl ⊢
  have hl : lv_has ls 5 [(0, .ref h0), (1, .long a)] := hl
  generalize hQ : MQ below (vp_Si (fun r : Int32 => pt_F (fun j => pt_sh (fc j) (fv j) (pt_mk n) (a &&& pt_mk n)) k r)) args s 0 0 (fun _ => False) = Q
  have hk := hI.1
  refine lv_iconst (v := (-1)) hx hb dX0_decode_0 (by decide) ?_
  refine lv_istore_n (lv' := [(3, .int (-1)), (0, .ref h0), (1, .long a)]) hx hb dX0_decode_1 rfl hl (by decide) rfl (fun ls hl => ?_)
  refine lv_iconst (v := 0) hx hb dX0_decode_2 (by decide) ?_
  refine lv_istore (lv' := [(4, .int 0), (3, .int (-1)), (0, .ref h0), (1, .long a)]) hx hb dX0_decode_3 hl (by decide) rfl (fun ls hl => ?_)
  have loop : ∀ (d i : Nat) (r : Int32) (ls : Array Slot), k - i = d → i ≤ k → pt_F (fun j => pt_sh (fc j) (fv j) (pt_mk n) (a &&& pt_mk n)) i r → lv_has ls 5 [(4, .int (nI i)), (3, .int r), (0, .ref h0), (1, .long a)] → W p l e (headSpec wsX0_decode ({ frames := 1, cells := 0, slots := 0, locals := 25 })).room s m args below meth c s.heap [] 0 0 Q (F0 m 5 ls []) := by
    intro d
    induction d with
    | zero =>
      intro i r ls hd hik hF hl
      obtain rfl : i = k := by omega
      refine lv_iload hx hb dX0_decode_5 (lv_at hl 0 rfl) ?_
      refine lv_aload_n hx hb dX0_decode_7 rfl (lv_at hl 2 rfl) ?_
      refine va_get (D := (dC, dI)) (ci := 0) (v := .int (nI i)) (C := RX0) (T := TX0) (N := 7) hx hb hts (fun w h => List.mem_cons_of_mem _ (pt_wsX0 w h)) hown hK hP 0 rfl rfl 2 (by decide) (hts _ (List.mem_cons_of_mem _ pw34)) (fun _ h9 => h9) rfl dX0_decode_8 ?_
      refine lv_icmp_ge (tgt := 60) hx hb dX0_decode_11 (by decide) (fun h1 => ?_) (fun h1 => absurd (nI_le (by omega) (by omega)) h1)
      refine lv_iload_n hx hb dX0_decode_60 rfl (lv_at hl 1 rfl) ?_
      rw [← hQ]
      exact W.iret (v := r) hx hb hr (fun t ht hW => ⟨r, rfl, hF, ht⟩) t_nil dX0_decode_61
    | succ d ih =>
      intro i r ls hd hik hF hl
      refine lv_iload hx hb dX0_decode_5 (lv_at hl 0 rfl) ?_
      refine lv_aload_n hx hb dX0_decode_7 rfl (lv_at hl 2 rfl) ?_
      refine va_get (D := (dC, dI)) (ci := 0) (v := .int (nI k)) (C := RX0) (T := TX0) (N := 7) hx hb hts (fun w h => List.mem_cons_of_mem _ (pt_wsX0 w h)) hown hK hP 0 rfl rfl 2 (by decide) (hts _ (List.mem_cons_of_mem _ pw34)) (fun _ h9 => h9) rfl dX0_decode_8 ?_
      refine lv_icmp_ge (tgt := 60) hx hb dX0_decode_11 (by decide) (fun h1 => absurd h1 (nI_ge (by omega) (by omega))) (fun h1 => ?_)
      refine lv_aload_n hx hb dX0_decode_14 rfl (lv_at hl 2 rfl) ?_
      refine lv_iload hx hb dX0_decode_15 (lv_at hl 0 rfl) ?_
      refine lv_aload_n hx hb dX0_decode_17 rfl (lv_at hl 2 rfl) ?_
      refine va_get (D := (dC, dI)) (ci := 0) (v := .long (pt_mk n)) (C := RX0) (T := TX0) (N := 7) hx hb hts (fun w h => List.mem_cons_of_mem _ (pt_wsX0 w h)) hown hK hP 0 rfl rfl 4 (by decide) (hts _ (List.mem_cons_of_mem _ pw36)) (fun _ h9 => h9) rfl dX0_decode_18 ?_
      refine lv_lload_n hx hb dX0_decode_21 rfl (lv_at hl 3 rfl) ?_
      refine lv_aload_n hx hb dX0_decode_22 rfl (lv_at hl 2 rfl) ?_
      refine va_get (D := (dC, dI)) (ci := 0) (v := .long (pt_mk n)) (C := RX0) (T := TX0) (N := 7) hx hb hts (fun w h => List.mem_cons_of_mem _ (pt_wsX0 w h)) hown hK hP 0 rfl rfl 4 (by decide) (hts _ (List.mem_cons_of_mem _ pw36)) (fun _ h9 => h9) rfl dX0_decode_23 ?_
      refine lv_land hx hb dX0_decode_26 ?_
      refine vp_callSi (W.runV (As := [.int (nI i), .long (pt_mk n), .long (a &&& (pt_mk n))]) (rest := []) ⟨hx, hb, hml, hown, hts⟩ (c_sharesWord l dC dI h0 c0 w0 kc kw k n fc fv cl su i (pt_mk n) (a &&& pt_mk n) (by omega)) (cwV 3 hts (pt_gV pw51 pw52 pw0 pw17 pw53) rfl rfl rfl (by decide +kernel) ⟨Nat.le_of_ble_eq_true rfl, Nat.le_of_ble_eq_true rfl⟩) ⟨fun a U g mk q => by obtain ⟨q0, qP, qK⟩ := q; exact ⟨q0, qP, va_K.moved (u := U) (U := U.calling g mk a) (Vm.Alike.refl U.vm) qK⟩, va_recv hK hP (ci := 0) (q0 := 0) rfl rfl, fun U hU hW => ⟨rfl, by rw [hU]; exact hP, va_K.moved hW.alike hK⟩⟩ rfl rfl hl.1 rfl (lv_room (Nat.le_of_ble_eq_true rfl)) dX0_decode_27 ⟨Nat.zero_le _, Nat.zero_le _⟩) (fun r1 hw => ?_)
      rcases hw with ⟨rfl, hs⟩ | ⟨rfl, hs⟩
      · refine lv_if_eq (tgt := 54) hx hb dX0_decode_30 (by decide) (fun h2 => absurd h2 (by decide)) (fun h2 => ?_)
        refine lv_iload_n hx hb dX0_decode_33 rfl (lv_at hl 1 rfl) ?_
        refine lv_iconst (v := (-1)) hx hb dX0_decode_34 (by decide) ?_
        refine lv_icmp_ne (tgt := 44) hx hb dX0_decode_35 (by decide) (fun h3 => absurd hs (pt_I_two hI (by omega) hF h3)) (fun h3 => ?_)
        refine lv_iload hx hb dX0_decode_38 (lv_at hl 0 rfl) ?_
        refine lv_istore_n (lv' := [(3, .int (nI i)), (4, .int (nI i)), (0, .ref h0), (1, .long a)]) hx hb dX0_decode_40 rfl hl (by decide) rfl (fun ls hl => ?_)
        refine lv_goto (tgt := 54) hx hb dX0_decode_41 (by decide) ?_
        refine lv_iinc (v := nI (i + 1)) (lv' := [(4, .int (nI (i + 1))), (3, .int (nI i)), (0, .ref h0), (1, .long a)]) hx hb dX0_decode_54 hl (k := 1) rfl (by rw [nI_succ]; rfl) (by decide) rfl (fun ls hl => ?_)
        refine lv_goto (tgt := 5) hx hb dX0_decode_57 (by decide) ?_
        exact ih (i + 1) (nI i) ls (by omega) (by omega) (pt_F_hit (h3 ▸ hF) hs (by omega)) (lv_sub hl [0, 1, 2, 3] rfl)
      · refine lv_if_eq (tgt := 54) hx hb dX0_decode_30 (by decide) (fun h2 => ?_) (fun h2 => absurd rfl h2)
        refine lv_iinc (v := nI (i + 1)) (lv' := [(4, .int (nI (i + 1))), (3, .int r), (0, .ref h0), (1, .long a)]) hx hb dX0_decode_54 hl (k := 0) rfl (by rw [nI_succ]; rfl) (by decide) rfl (fun ls hl => ?_)
        refine lv_goto (tgt := 5) hx hb dX0_decode_57 (by decide) ?_
        exact ih (i + 1) r ls (by omega) (by omega) (pt_F_miss hF hs) (lv_sub hl [0, 1, 2, 3] rfl)
  exact loop k 0 (-1) ls (by omega) (by omega) (Or.inl ⟨rfl, lt_0⟩) (lv_sub hl [0, 1, 2, 3] rfl)
set_option maxHeartbeats 4000000 in
set_option maxRecDepth 100000 in
/-- meets(care, want) -/
theorem c_meets (l : Launch) (dC : Nat → ClassId) (dI : Nat → Nat → Nat) (h0 c0 w0 : Nat) (kc kw : ClassId) (k n : Nat) (fc fv : Nat → Int64) (cl su : Int32) (a b : Int64) (hst : ¬ pt_stray n a b) (hk : k ≤ 512) : Met l yX0_meets wsX0_meets ({ frames := 2, cells := 0, slots := 0, locals := 50 }) (va_Pc [.ref h0, .long a, .long b] (fun U => va_P (dC, dI) vwCl [(h0, .inr (0, [.ref c0, .ref w0, .int (nI k), .int (nI n), .long (pt_mk n), .int cl, .int su])), (c0, .inl (kc, 512, .inr (.inl fc))), (w0, .inl (kw, 512, .inr (.inl fv)))] U.heap ∧ va_K (dC, dI) vwCl [(kc, .long), (kw, .long)] U)) (vp_Si (fun r : Int32 => pt_F (fun j => pt_sh (fc j) (fv j) (a &&& pt_mk n) (b &&& pt_mk n)) k r)) 0 0 (fun _ => False) := by
  refine Met.ofW (cc := cX0_meets) (maxL := 5) (ret := (some .int)) (by decide) rfl ?_
  intro p e s m args below meth c s₁ B hml hv
  obtain ⟨ha, hP, hK⟩ := hv
  have hx := B.exec
  have hb := B.bytes
  have hr := B.returns
  have hts := atoms_spec (ws := wsX0_meets) B.pre
  have hown : s.vm.findClass RX0 = some m.cls := findClass_of_methodNamed B.named
  have hlocks := B.notSynchronized
  have hl := lv_entry ([.ref h0, .long a, .long b]) (n := 5) (Nat.le_of_ble_eq_true rfl)
  refine W.eq (show entryFrame m args 5 = entryFrame m ([.ref h0, .long a, .long b] : List Value).toArray 5 by rw [ha]) ?_
  rw [lg_entry_eq]
  generalize (lg_sl ([.ref h0, .long a, .long b]) ++ List.replicate (5 - (lg_sl ([.ref h0, .long a, .long b])).length) Slot.unset).toArray = ls at hl ⊢
  have hl : lv_has ls 5 [(0, .ref h0), (1, .long a), (3, .long b)] := hl
  generalize hQ : MQ below (vp_Si (fun r : Int32 => pt_F (fun j => pt_sh (fc j) (fv j) (a &&& pt_mk n) (b &&& pt_mk n)) k r)) args s 0 0 (fun _ => False) = Q
  refine lv_aload_n hx hb dX0_meets_0 rfl (lv_at hl 0 rfl) ?_
  refine lv_lload_n hx hb dX0_meets_1 rfl (lv_at hl 1 rfl) ?_
  refine lv_lload_n hx hb dX0_meets_2 rfl (lv_at hl 2 rfl) ?_
  refine va_csv (W.runV (As := [.long a, .long b]) (rest := []) ⟨hx, hb, hml, hown, hts⟩ (c_refuseStrayWant l dC dI h0 c0 w0 kc kw k n fc fv cl su a b hst) (cwV 2 hts (pt_gV pw76 pw77 pw1 pw17 pw78) rfl rfl rfl (by decide +kernel) ⟨Nat.le_of_ble_eq_true rfl, Nat.le_of_ble_eq_true rfl⟩) ⟨fun a U g mk q => by obtain ⟨q0, qP, qK⟩ := q; exact ⟨q0, qP, va_K.moved (u := U) (U := U.calling g mk a) (Vm.Alike.refl U.vm) qK⟩, va_recv hK hP (ci := 0) (q0 := 0) rfl rfl, fun U hU hW => ⟨rfl, by rw [hU]; exact hP, va_K.moved hW.alike hK⟩⟩ rfl rfl hl.1 rfl (lv_room (Nat.le_of_ble_eq_true rfl)) dX0_meets_3 ⟨Nat.zero_le _, Nat.zero_le _⟩) (fun hw => ?_)
  refine lv_aload_n hx hb dX0_meets_6 rfl (lv_at hl 0 rfl) ?_
  refine lv_lload_n hx hb dX0_meets_7 rfl (lv_at hl 1 rfl) ?_
  refine lv_aload_n hx hb dX0_meets_8 rfl (lv_at hl 0 rfl) ?_
  refine va_get (D := (dC, dI)) (ci := 0) (v := .long (pt_mk n)) (C := RX0) (T := TX0) (N := 7) hx hb hts (fun w h => List.mem_cons_of_mem _ (pt_wsX0 w h)) hown hK hP 0 rfl rfl 4 (by decide) (hts _ (List.mem_cons_of_mem _ pw36)) (fun _ h9 => h9) rfl dX0_meets_9 ?_
  refine lv_land hx hb dX0_meets_12 ?_
  refine lv_lload_n hx hb dX0_meets_13 rfl (lv_at hl 2 rfl) ?_
  refine lv_aload_n hx hb dX0_meets_14 rfl (lv_at hl 0 rfl) ?_
  refine va_get (D := (dC, dI)) (ci := 0) (v := .long (pt_mk n)) (C := RX0) (T := TX0) (N := 7) hx hb hts (fun w h => List.mem_cons_of_mem _ (pt_wsX0 w h)) hown hK hP 0 rfl rfl 4 (by decide) (hts _ (List.mem_cons_of_mem _ pw36)) (fun _ h9 => h9) rfl dX0_meets_15 ?_
  refine lv_land hx hb dX0_meets_18 ?_
  refine vp_callSi (W.runV (As := [.long (a &&& (pt_mk n)), .long (b &&& (pt_mk n))]) (rest := []) ⟨hx, hb, hml, hown, hts⟩ (c_firstSharing l dC dI h0 c0 w0 kc kw k n fc fv cl su (a &&& pt_mk n) (b &&& pt_mk n) hk) (cwV 2 hts (pt_gV pw84 pw85 pw3 pw17 pw86) rfl rfl rfl (by decide +kernel) ⟨Nat.le_of_ble_eq_true rfl, Nat.le_of_ble_eq_true rfl⟩) ⟨fun a U g mk q => by obtain ⟨q0, qP, qK⟩ := q; exact ⟨q0, qP, va_K.moved (u := U) (U := U.calling g mk a) (Vm.Alike.refl U.vm) qK⟩, va_recv hK hP (ci := 0) (q0 := 0) rfl rfl, fun U hU hW => ⟨rfl, by rw [hU]; exact hP, va_K.moved hW.alike hK⟩⟩ rfl rfl hl.1 rfl (lv_room (Nat.le_of_ble_eq_true rfl)) dX0_meets_19 ⟨Nat.zero_le _, Nat.zero_le _⟩) (fun r2 hw2 => ?_)
  rw [← hQ]
  exact W.iret (v := r2) hx hb hr (fun t ht hW => ⟨r2, rfl, hw2, ht⟩) t_nil dX0_meets_22
set_option maxHeartbeats 4000000 in
set_option maxRecDepth 100000 in
/-- meets(care, want): bad -/
theorem t_meets_bad (l : Launch) (hl9 : l.stackTraces = false) (dC : Nat → ClassId) (dI : Nat → Nat → Nat) (s0 : State) (h0X : pt_X s0) (h0 c0 w0 : Nat) (kc kw : ClassId) (k n : Nat) (fc fv : Nat → Int64) (cl su : Int32) (a b : Int64) (sz : Nat) (hst : pt_stray n a b) : pt_Thr l yX0_meets wsX0_meets ({ frames := 7, cells := 1, slots := 6, locals := 106 }) (va_Pc [.ref h0, .long a, .long b] (fun U => U.heap.size = sz ∧ va_P (dC, dI) vwCl [(h0, .inr (0, [.ref c0, .ref w0, .int (nI k), .int (nI n), .long (pt_mk n), .int cl, .int su])), (c0, .inl (kc, 512, .inr (.inl fc))), (w0, .inl (kw, 512, .inr (.inl fv)))] U.heap ∧ va_K (dC, dI) vwCl [(kc, .long), (kw, .long)] U ∧ va_D (fun q => s0.heap.size ≤ q) [(h0, .inr (0, [.ref c0, .ref w0, .int (nI k), .int (nI n), .long (pt_mk n), .int cl, .int su])), (c0, .inl (kc, 512, .inr (.inl fc))), (w0, .inl (kw, 512, .inr (.inl fv)))] ∧ pt_ext s0 U)) "java/lang/IllegalArgumentException" (fun st t => va_P (dC, dI) vwCl [(h0, .inr (0, [.ref c0, .ref w0, .int (nI k), .int (nI n), .long (pt_mk n), .int cl, .int su])), (c0, .inl (kc, 512, .inr (.inl fc))), (w0, .inl (kw, 512, .inr (.inl fv)))] t.heap ∧ va_K (dC, dI) vwCl [(kc, .long), (kw, .long)] t ∧ va_D (va_A [(h0, .inr (0, [.ref c0, .ref w0, .int (nI k), .int (nI n), .long (pt_mk n), .int cl, .int su])), (c0, .inl (kc, 512, .inr (.inl fc))), (w0, .inl (kw, 512, .inr (.inl fv)))] sz) [(h0, .inr (0, [.ref c0, .ref w0, .int (nI k), .int (nI n), .long (pt_mk n), .int cl, .int su])), (c0, .inl (kc, 512, .inr (.inl fc))), (w0, .inl (kw, 512, .inr (.inl fv)))] ∧ va_F (va_A [(h0, .inr (0, [.ref c0, .ref w0, .int (nI k), .int (nI n), .long (pt_mk n), .int cl, .int su])), (c0, .inl (kc, 512, .inr (.inl fc))), (w0, .inl (kw, 512, .inr (.inl fv)))] sz) st t) 1 6 (va_A [(h0, .inr (0, [.ref c0, .ref w0, .int (nI k), .int (nI n), .long (pt_mk n), .int cl, .int su])), (c0, .inl (kc, 512, .inr (.inl fc))), (w0, .inl (kw, 512, .inr (.inl fv)))] sz) := by
  refine pt_Thr_ofW (cc := cX0_meets) (maxL := 5) (ret := (some .int)) (by decide) rfl ?_
  intro p e s m args below meth c s₁ B hml hnoh hv
  obtain ⟨ha, hsz, hP, hK, hD0, hext⟩ := hv
  subst hsz
  have hx := B.exec
  have hb := B.bytes
  have hr := B.returns
  have hts := atoms_spec (ws := wsX0_meets) B.pre
  have hown : s.vm.findClass RX0 = some m.cls := findClass_of_methodNamed B.named
  have hlocks := B.notSynchronized
  have hl := lv_entry ([.ref h0, .long a, .long b]) (n := 5) (Nat.le_of_ble_eq_true rfl)
  refine W.eq (show entryFrame m args 5 = entryFrame m ([.ref h0, .long a, .long b] : List Value).toArray 5 by rw [ha]) ?_
  rw [lg_entry_eq]
  generalize (lg_sl ([.ref h0, .long a, .long b]) ++ List.replicate (5 - (lg_sl ([.ref h0, .long a, .long b])).length) Slot.unset).toArray = ls at hl ⊢
  have hl : lv_has ls 5 [(0, .ref h0), (1, .long a), (3, .long b)] := hl
  have hD := hD0.self (sz := s.heap.size)
  have hAs : ∀ q : Nat, va_A [(h0, .inr (0, [.ref c0, .ref w0, .int (nI k), .int (nI n), .long (pt_mk n), .int cl, .int su])), (c0, .inl (kc, 512, .inr (.inl fc))), (w0, .inl (kw, 512, .inr (.inl fv)))] s.heap.size q → s0.heap.size ≤ q := pt_As hD0 hext.2.1
  generalize hAe : va_A [(h0, .inr (0, [.ref c0, .ref w0, .int (nI k), .int (nI n), .long (pt_mk n), .int cl, .int su])), (c0, .inl (kc, 512, .inr (.inl fc))), (w0, .inl (kw, 512, .inr (.inl fv)))] s.heap.size = A at hD hAs ⊢
  have hA : ∀ q : Nat, s.heap.size ≤ q → A q := fun q h => by rw [← hAe]; exact Or.inr h
  have hS : va_S A s.heap s.heap [] := va_S.rf
  have hP : va_P (dC, dI) vwCl [(h0, .inr (0, [.ref c0, .ref w0, .int (nI k), .int (nI n), .long (pt_mk n), .int cl, .int su])), (c0, .inl (kc, 512, .inr (.inl fc))), (w0, .inl (kw, 512, .inr (.inl fv)))] s.heap := hP
  generalize hQ : pt_TQ below "java/lang/IllegalArgumentException" (fun st t => va_P (dC, dI) vwCl [(h0, .inr (0, [.ref c0, .ref w0, .int (nI k), .int (nI n), .long (pt_mk n), .int cl, .int su])), (c0, .inl (kc, 512, .inr (.inl fc))), (w0, .inl (kw, 512, .inr (.inl fv)))] t.heap ∧ va_K (dC, dI) vwCl [(kc, .long), (kw, .long)] t ∧ va_D A [(h0, .inr (0, [.ref c0, .ref w0, .int (nI k), .int (nI n), .long (pt_mk n), .int cl, .int su])), (c0, .inl (kc, 512, .inr (.inl fc))), (w0, .inl (kw, 512, .inr (.inl fv)))] ∧ va_F A st t) s 1 6 A = Q
  refine lv_aload_n hx hb dX0_meets_0 rfl (lv_at hl 0 rfl) ?_
  refine lv_lload_n hx hb dX0_meets_1 rfl (lv_at hl 1 rfl) ?_
  refine lv_lload_n hx hb dX0_meets_2 rfl (lv_at hl 2 rfl) ?_
  rw [← hQ, ← hAe]
  exact pt_out (pt_runT (As := [.long a, .long b]) (rest := []) ⟨hx, hb, hml, hown, hts⟩ (t_refuseStrayWant l hl9 dC dI s0 h0X h0 c0 w0 kc kw k n fc fv cl su a b s.heap.size hst) (cwV 2 hts (pt_gV pw76 pw77 pw1 pw17 pw78) rfl rfl rfl (by decide +kernel) ⟨Nat.le_of_ble_eq_true rfl, Nat.le_of_ble_eq_true rfl⟩) ⟨fun a U g mk q => by obtain ⟨q0, q1, qP, qK, qD, qX⟩ := q; exact ⟨q0, q1, qP, va_K.moved (u := U) (U := U.calling g mk a) (Vm.Alike.refl U.vm) qK, qD, qX⟩, va_recv hK hP (ci := 0) (q0 := 0) rfl rfl, fun U hU hW => ⟨rfl, by rw [hU], by rw [hU]; exact hP, va_K.moved hW.alike hK, hD0, hext.same hU hW⟩⟩ rfl rfl hl.1 rfl (lv_room (Nat.le_of_ble_eq_true rfl)) dX0_meets_3 ⟨by decide, by decide⟩) hnoh hlocks (fun st t t2 h1 h2 h3 h4 h5 => ⟨by rw [h4]; exact h3.1, va_K.moved (by rw [h5]; exact Vm.Alike.refl _) h3.2.1, h3.2.2.1, pt_F_same h1 h4 h3.2.2.2⟩) t_nil (fun _ h => h) (by decide) (by decide)
set_option maxHeartbeats 4000000 in
set_option maxRecDepth 100000 in
/-- free(care, want) -/
theorem c_free (l : Launch) (dC : Nat → ClassId) (dI : Nat → Nat → Nat) (h0 c0 w0 : Nat) (kc kw : ClassId) (k n : Nat) (fc fv : Nat → Int64) (cl su : Int32) (a b : Int64) (hst : ¬ pt_stray n a b) (hk : k ≤ 512) : Met l yX0_free wsX0_free ({ frames := 3, cells := 0, slots := 0, locals := 71 }) (va_Pc [.ref h0, .long a, .long b] (fun U => va_P (dC, dI) vwCl [(h0, .inr (0, [.ref c0, .ref w0, .int (nI k), .int (nI n), .long (pt_mk n), .int cl, .int su])), (c0, .inl (kc, 512, .inr (.inl fc))), (w0, .inl (kw, 512, .inr (.inl fv)))] U.heap ∧ va_K (dC, dI) vwCl [(kc, .long), (kw, .long)] U)) (vp_Sl (fun r : Int64 => r = pt_fw n fc fv (a &&& pt_mk n) (b &&& pt_mk n) k)) 0 0 (fun _ => False) := by
  refine Met.ofW (cc := cX0_free) (maxL := 5) (ret := (some .long)) (by decide) rfl ?_
  intro p e s m args below meth c s₁ B hml hv
  obtain ⟨ha, hP, hK⟩ := hv
  have hx := B.exec
  have hb := B.bytes
  have hr := B.returns
  have hts := atoms_spec (ws := wsX0_free) B.pre
  have hown : s.vm.findClass RX0 = some m.cls := findClass_of_methodNamed B.named
  have hlocks := B.notSynchronized
  have hl := lv_entry ([.ref h0, .long a, .long b]) (n := 5) (Nat.le_of_ble_eq_true rfl)
  refine W.eq (show entryFrame m args 5 = entryFrame m ([.ref h0, .long a, .long b] : List Value).toArray 5 by rw [ha]) ?_
  rw [lg_entry_eq]
  generalize (lg_sl ([.ref h0, .long a, .long b]) ++ List.replicate (5 - (lg_sl ([.ref h0, .long a, .long b])).length) Slot.unset).toArray = ls at hl ⊢
  have hl : lv_has ls 5 [(0, .ref h0), (1, .long a), (3, .long b)] := hl
  generalize hQ : MQ below (vp_Sl (fun r : Int64 => r = pt_fw n fc fv (a &&& pt_mk n) (b &&& pt_mk n) k)) args s 0 0 (fun _ => False) = Q
  refine lv_aload_n hx hb dX0_free_0 rfl (lv_at hl 0 rfl) ?_
  refine lv_lload_n hx hb dX0_free_1 rfl (lv_at hl 1 rfl) ?_
  refine lv_lload_n hx hb dX0_free_2 rfl (lv_at hl 2 rfl) ?_
  refine va_csv (W.runV (As := [.long a, .long b]) (rest := []) ⟨hx, hb, hml, hown, hts⟩ (c_refuseStrayWant l dC dI h0 c0 w0 kc kw k n fc fv cl su a b hst) (cwV 2 hts (pt_gV pw76 pw77 pw1 pw17 pw78) rfl rfl rfl (by decide +kernel) ⟨Nat.le_of_ble_eq_true rfl, Nat.le_of_ble_eq_true rfl⟩) ⟨fun a U g mk q => by obtain ⟨q0, qP, qK⟩ := q; exact ⟨q0, qP, va_K.moved (u := U) (U := U.calling g mk a) (Vm.Alike.refl U.vm) qK⟩, va_recv hK hP (ci := 0) (q0 := 0) rfl rfl, fun U hU hW => ⟨rfl, by rw [hU]; exact hP, va_K.moved hW.alike hK⟩⟩ rfl rfl hl.1 rfl (lv_room (Nat.le_of_ble_eq_true rfl)) dX0_free_3 ⟨Nat.zero_le _, Nat.zero_le _⟩) (fun hw => ?_)
  refine lv_aload_n hx hb dX0_free_6 rfl (lv_at hl 0 rfl) ?_
  refine lv_lload_n hx hb dX0_free_7 rfl (lv_at hl 1 rfl) ?_
  refine lv_aload_n hx hb dX0_free_8 rfl (lv_at hl 0 rfl) ?_
  refine va_get (D := (dC, dI)) (ci := 0) (v := .long (pt_mk n)) (C := RX0) (T := TX0) (N := 7) hx hb hts (fun w h => List.mem_cons_of_mem _ (pt_wsX0 w h)) hown hK hP 0 rfl rfl 4 (by decide) (hts _ (List.mem_cons_of_mem _ pw36)) (fun _ h9 => h9) rfl dX0_free_9 ?_
  refine lv_land hx hb dX0_free_12 ?_
  refine lv_lload_n hx hb dX0_free_13 rfl (lv_at hl 2 rfl) ?_
  refine lv_aload_n hx hb dX0_free_14 rfl (lv_at hl 0 rfl) ?_
  refine va_get (D := (dC, dI)) (ci := 0) (v := .long (pt_mk n)) (C := RX0) (T := TX0) (N := 7) hx hb hts (fun w h => List.mem_cons_of_mem _ (pt_wsX0 w h)) hown hK hP 0 rfl rfl 4 (by decide) (hts _ (List.mem_cons_of_mem _ pw36)) (fun _ h9 => h9) rfl dX0_free_15 ?_
  refine lv_land hx hb dX0_free_18 ?_
  refine vp_callSl (W.runV (As := [.long (a &&& (pt_mk n)), .long (b &&& (pt_mk n))]) (rest := []) ⟨hx, hb, hml, hown, hts⟩ (c_freeWords l dC dI h0 c0 w0 kc kw k n fc fv cl su (a &&& pt_mk n) (b &&& pt_mk n) hk) (cwV 2 hts (pt_gV pw123 pw124 pw5 pw17 pw125) rfl rfl rfl (by decide +kernel) ⟨Nat.le_of_ble_eq_true rfl, Nat.le_of_ble_eq_true rfl⟩) ⟨fun a U g mk q => by obtain ⟨q0, qP, qK⟩ := q; exact ⟨q0, qP, va_K.moved (u := U) (U := U.calling g mk a) (Vm.Alike.refl U.vm) qK⟩, va_recv hK hP (ci := 0) (q0 := 0) rfl rfl, fun U hU hW => ⟨rfl, by rw [hU]; exact hP, va_K.moved hW.alike hK⟩⟩ rfl rfl hl.1 rfl (lv_room (Nat.le_of_ble_eq_true rfl)) dX0_free_19 ⟨Nat.zero_le _, Nat.zero_le _⟩) (fun r2 hw2 => ?_)
  rw [← hQ]
  exact W.lret (v := r2) hx hb hr (fun t ht hW => ⟨r2, rfl, hw2, ht⟩) t_nil dX0_free_22
set_option maxHeartbeats 4000000 in
set_option maxRecDepth 100000 in
/-- free(care, want): bad -/
theorem t_free_bad (l : Launch) (hl9 : l.stackTraces = false) (dC : Nat → ClassId) (dI : Nat → Nat → Nat) (s0 : State) (h0X : pt_X s0) (h0 c0 w0 : Nat) (kc kw : ClassId) (k n : Nat) (fc fv : Nat → Int64) (cl su : Int32) (a b : Int64) (sz : Nat) (hst : pt_stray n a b) : pt_Thr l yX0_free wsX0_free ({ frames := 7, cells := 1, slots := 6, locals := 106 }) (va_Pc [.ref h0, .long a, .long b] (fun U => U.heap.size = sz ∧ va_P (dC, dI) vwCl [(h0, .inr (0, [.ref c0, .ref w0, .int (nI k), .int (nI n), .long (pt_mk n), .int cl, .int su])), (c0, .inl (kc, 512, .inr (.inl fc))), (w0, .inl (kw, 512, .inr (.inl fv)))] U.heap ∧ va_K (dC, dI) vwCl [(kc, .long), (kw, .long)] U ∧ va_D (fun q => s0.heap.size ≤ q) [(h0, .inr (0, [.ref c0, .ref w0, .int (nI k), .int (nI n), .long (pt_mk n), .int cl, .int su])), (c0, .inl (kc, 512, .inr (.inl fc))), (w0, .inl (kw, 512, .inr (.inl fv)))] ∧ pt_ext s0 U)) "java/lang/IllegalArgumentException" (fun st t => va_P (dC, dI) vwCl [(h0, .inr (0, [.ref c0, .ref w0, .int (nI k), .int (nI n), .long (pt_mk n), .int cl, .int su])), (c0, .inl (kc, 512, .inr (.inl fc))), (w0, .inl (kw, 512, .inr (.inl fv)))] t.heap ∧ va_K (dC, dI) vwCl [(kc, .long), (kw, .long)] t ∧ va_D (va_A [(h0, .inr (0, [.ref c0, .ref w0, .int (nI k), .int (nI n), .long (pt_mk n), .int cl, .int su])), (c0, .inl (kc, 512, .inr (.inl fc))), (w0, .inl (kw, 512, .inr (.inl fv)))] sz) [(h0, .inr (0, [.ref c0, .ref w0, .int (nI k), .int (nI n), .long (pt_mk n), .int cl, .int su])), (c0, .inl (kc, 512, .inr (.inl fc))), (w0, .inl (kw, 512, .inr (.inl fv)))] ∧ va_F (va_A [(h0, .inr (0, [.ref c0, .ref w0, .int (nI k), .int (nI n), .long (pt_mk n), .int cl, .int su])), (c0, .inl (kc, 512, .inr (.inl fc))), (w0, .inl (kw, 512, .inr (.inl fv)))] sz) st t) 1 6 (va_A [(h0, .inr (0, [.ref c0, .ref w0, .int (nI k), .int (nI n), .long (pt_mk n), .int cl, .int su])), (c0, .inl (kc, 512, .inr (.inl fc))), (w0, .inl (kw, 512, .inr (.inl fv)))] sz) := by
  refine pt_Thr_ofW (cc := cX0_free) (maxL := 5) (ret := (some .long)) (by decide) rfl ?_
  intro p e s m args below meth c s₁ B hml hnoh hv
  obtain ⟨ha, hsz, hP, hK, hD0, hext⟩ := hv
  subst hsz
  have hx := B.exec
  have hb := B.bytes
  have hr := B.returns
  have hts := atoms_spec (ws := wsX0_free) B.pre
  have hown : s.vm.findClass RX0 = some m.cls := findClass_of_methodNamed B.named
  have hlocks := B.notSynchronized
  have hl := lv_entry ([.ref h0, .long a, .long b]) (n := 5) (Nat.le_of_ble_eq_true rfl)
  refine W.eq (show entryFrame m args 5 = entryFrame m ([.ref h0, .long a, .long b] : List Value).toArray 5 by rw [ha]) ?_
  rw [lg_entry_eq]
  generalize (lg_sl ([.ref h0, .long a, .long b]) ++ List.replicate (5 - (lg_sl ([.ref h0, .long a, .long b])).length) Slot.unset).toArray = ls at hl ⊢
  have hl : lv_has ls 5 [(0, .ref h0), (1, .long a), (3, .long b)] := hl
  have hD := hD0.self (sz := s.heap.size)
  have hAs : ∀ q : Nat, va_A [(h0, .inr (0, [.ref c0, .ref w0, .int (nI k), .int (nI n), .long (pt_mk n), .int cl, .int su])), (c0, .inl (kc, 512, .inr (.inl fc))), (w0, .inl (kw, 512, .inr (.inl fv)))] s.heap.size q → s0.heap.size ≤ q := pt_As hD0 hext.2.1
  generalize hAe : va_A [(h0, .inr (0, [.ref c0, .ref w0, .int (nI k), .int (nI n), .long (pt_mk n), .int cl, .int su])), (c0, .inl (kc, 512, .inr (.inl fc))), (w0, .inl (kw, 512, .inr (.inl fv)))] s.heap.size = A at hD hAs ⊢
  have hA : ∀ q : Nat, s.heap.size ≤ q → A q := fun q h => by rw [← hAe]; exact Or.inr h
  have hS : va_S A s.heap s.heap [] := va_S.rf
  have hP : va_P (dC, dI) vwCl [(h0, .inr (0, [.ref c0, .ref w0, .int (nI k), .int (nI n), .long (pt_mk n), .int cl, .int su])), (c0, .inl (kc, 512, .inr (.inl fc))), (w0, .inl (kw, 512, .inr (.inl fv)))] s.heap := hP
  generalize hQ : pt_TQ below "java/lang/IllegalArgumentException" (fun st t => va_P (dC, dI) vwCl [(h0, .inr (0, [.ref c0, .ref w0, .int (nI k), .int (nI n), .long (pt_mk n), .int cl, .int su])), (c0, .inl (kc, 512, .inr (.inl fc))), (w0, .inl (kw, 512, .inr (.inl fv)))] t.heap ∧ va_K (dC, dI) vwCl [(kc, .long), (kw, .long)] t ∧ va_D A [(h0, .inr (0, [.ref c0, .ref w0, .int (nI k), .int (nI n), .long (pt_mk n), .int cl, .int su])), (c0, .inl (kc, 512, .inr (.inl fc))), (w0, .inl (kw, 512, .inr (.inl fv)))] ∧ va_F A st t) s 1 6 A = Q
  refine lv_aload_n hx hb dX0_free_0 rfl (lv_at hl 0 rfl) ?_
  refine lv_lload_n hx hb dX0_free_1 rfl (lv_at hl 1 rfl) ?_
  refine lv_lload_n hx hb dX0_free_2 rfl (lv_at hl 2 rfl) ?_
  rw [← hQ, ← hAe]
  exact pt_out (pt_runT (As := [.long a, .long b]) (rest := []) ⟨hx, hb, hml, hown, hts⟩ (t_refuseStrayWant l hl9 dC dI s0 h0X h0 c0 w0 kc kw k n fc fv cl su a b s.heap.size hst) (cwV 2 hts (pt_gV pw76 pw77 pw1 pw17 pw78) rfl rfl rfl (by decide +kernel) ⟨Nat.le_of_ble_eq_true rfl, Nat.le_of_ble_eq_true rfl⟩) ⟨fun a U g mk q => by obtain ⟨q0, q1, qP, qK, qD, qX⟩ := q; exact ⟨q0, q1, qP, va_K.moved (u := U) (U := U.calling g mk a) (Vm.Alike.refl U.vm) qK, qD, qX⟩, va_recv hK hP (ci := 0) (q0 := 0) rfl rfl, fun U hU hW => ⟨rfl, by rw [hU], by rw [hU]; exact hP, va_K.moved hW.alike hK, hD0, hext.same hU hW⟩⟩ rfl rfl hl.1 rfl (lv_room (Nat.le_of_ble_eq_true rfl)) dX0_free_3 ⟨by decide, by decide⟩) hnoh hlocks (fun st t t2 h1 h2 h3 h4 h5 => ⟨by rw [h4]; exact h3.1, va_K.moved (by rw [h5]; exact Vm.Alike.refl _) h3.2.1, h3.2.2.1, pt_F_same h1 h4 h3.2.2.2⟩) t_nil (fun _ h => h) (by decide) (by decide)
set_option maxHeartbeats 4000000 in
set_option maxRecDepth 100000 in
/-- next(word): the word itself -/
theorem c_next_free (l : Launch) (dC : Nat → ClassId) (dI : Nat → Nat → Nat) (h0 c0 w0 : Nat) (kc kw : ClassId) (k n : Nat) (fc fv : Nat → Int64) (cl su : Int32) (a : Int64) (hk : k ≤ 512) (hfree : ∀ j, j < k → ¬ pt_sh (fc j) (fv j) (pt_mk n) (a &&& pt_mk n)) : Met l yX0_next wsX0_next ({ frames := 2, cells := 0, slots := 0, locals := 50 }) (va_Pc [.ref h0, .long a] (fun U => va_P (dC, dI) vwCl [(h0, .inr (0, [.ref c0, .ref w0, .int (nI k), .int (nI n), .long (pt_mk n), .int cl, .int su])), (c0, .inl (kc, 512, .inr (.inl fc))), (w0, .inl (kw, 512, .inr (.inl fv)))] U.heap ∧ va_K (dC, dI) vwCl [(kc, .long), (kw, .long)] U)) (vp_Sl (fun r : Int64 => r = a &&& pt_mk n)) 0 0 (fun _ => False) := by
  refine Met.ofW (cc := cX0_next) (maxL := 8) (ret := (some .long)) (by decide) rfl ?_
  intro p e s m args below meth c s₁ B hml hv
  obtain ⟨ha, hP, hK⟩ := hv
  have hx := B.exec
  have hb := B.bytes
  have hr := B.returns
  have hts := atoms_spec (ws := wsX0_next) B.pre
  have hown : s.vm.findClass RX0 = some m.cls := findClass_of_methodNamed B.named
  have hlocks := B.notSynchronized
  have hl := lv_entry ([.ref h0, .long a]) (n := 8) (Nat.le_of_ble_eq_true rfl)
  refine W.eq (show entryFrame m args 8 = entryFrame m ([.ref h0, .long a] : List Value).toArray 8 by rw [ha]) ?_
  rw [lg_entry_eq]
  generalize (lg_sl ([.ref h0, .long a]) ++ List.replicate (8 - (lg_sl ([.ref h0, .long a])).length) Slot.unset).toArray = ls at hl ⊢
  have hl : lv_has ls 8 [(0, .ref h0), (1, .long a)] := hl
  generalize hQ : MQ below (vp_Sl (fun r : Int64 => r = a &&& pt_mk n)) args s 0 0 (fun _ => False) = Q
  refine lv_lload_n hx hb dX0_next_0 rfl (lv_at hl 1 rfl) ?_
  refine lv_aload_n hx hb dX0_next_1 rfl (lv_at hl 0 rfl) ?_
  refine va_get (D := (dC, dI)) (ci := 0) (v := .long (pt_mk n)) (C := RX0) (T := TX0) (N := 7) hx hb hts (fun w h => List.mem_cons_of_mem _ (pt_wsX0 w h)) hown hK hP 0 rfl rfl 4 (by decide) (hts _ (List.mem_cons_of_mem _ pw36)) (fun _ h9 => h9) rfl dX0_next_2 ?_
  refine lv_land hx hb dX0_next_5 ?_
  refine lv_lstore_n (lv' := [(3, .long (a &&& (pt_mk n))), (0, .ref h0), (1, .long a)]) hx hb dX0_next_6 rfl hl (by decide) rfl (fun ls hl => ?_)
  refine lv_aload_n hx hb dX0_next_7 rfl (lv_at hl 1 rfl) ?_
  refine lv_aload_n hx hb dX0_next_8 rfl (lv_at hl 1 rfl) ?_
  refine va_get (D := (dC, dI)) (ci := 0) (v := .long (pt_mk n)) (C := RX0) (T := TX0) (N := 7) hx hb hts (fun w h => List.mem_cons_of_mem _ (pt_wsX0 w h)) hown hK hP 0 rfl rfl 4 (by decide) (hts _ (List.mem_cons_of_mem _ pw36)) (fun _ h9 => h9) rfl dX0_next_9 ?_
  refine lv_lload_n hx hb dX0_next_12 rfl (lv_at hl 0 rfl) ?_
  refine vp_callSi (W.runV (As := [.long (pt_mk n), .long (a &&& (pt_mk n))]) (rest := []) ⟨hx, hb, hml, hown, hts⟩ (c_firstSharing l dC dI h0 c0 w0 kc kw k n fc fv cl su (pt_mk n) (a &&& pt_mk n) hk) (cwV 2 hts (pt_gV pw84 pw85 pw3 pw17 pw86) rfl rfl rfl (by decide +kernel) ⟨Nat.le_of_ble_eq_true rfl, Nat.le_of_ble_eq_true rfl⟩) ⟨fun a U g mk q => by obtain ⟨q0, qP, qK⟩ := q; exact ⟨q0, qP, va_K.moved (u := U) (U := U.calling g mk a) (Vm.Alike.refl U.vm) qK⟩, va_recv hK hP (ci := 0) (q0 := 0) rfl rfl, fun U hU hW => ⟨rfl, by rw [hU]; exact hP, va_K.moved hW.alike hK⟩⟩ rfl rfl hl.1 rfl (lv_room (Nat.le_of_ble_eq_true rfl)) dX0_next_13 ⟨Nat.zero_le _, Nat.zero_le _⟩) (fun r1 hw => ?_)
  refine lv_iconst (v := (-1)) hx hb dX0_next_16 (by decide) ?_
  refine lv_icmp_ne (tgt := 22) hx hb dX0_next_17 (by decide) (fun h1 => absurd ((pt_F_none hk hw).mpr hfree) h1) (fun h1 => ?_)
  refine lv_lload_n hx hb dX0_next_20 rfl (lv_at hl 0 rfl) ?_
  rw [← hQ]
  exact W.lret (v := a &&& (pt_mk n)) hx hb hr (fun t ht hW => ⟨a &&& (pt_mk n), rfl, rfl, ht⟩) t_nil dX0_next_21
set_option maxHeartbeats 4000000 in
set_option maxRecDepth 100000 in
/-- next(word): a greater one -/
theorem c_next_at (l : Launch) (dC : Nat → ClassId) (dI : Nat → Nat → Nat) (h0 c0 w0 : Nat) (kc kw : ClassId) (k n : Nat) (fc fv : Nat → Int64) (cl su : Int32) (a : Int64) (i : Nat) (hk : k ≤ 512) (hn2 : n ≤ 64) (hmet : ¬ ∀ j, j < k → ¬ pt_sh (fc j) (fv j) (pt_mk n) (a &&& pt_mk n)) (hin : i < n) (hit : pt_N k n fc fv (a &&& pt_mk n) i) (hlow : ∀ j, j < i → ¬ pt_N k n fc fv (a &&& pt_mk n) j) : Met l yX0_next wsX0_next ({ frames := 4, cells := 0, slots := 0, locals := 97 }) (va_Pc [.ref h0, .long a] (fun U => va_P (dC, dI) vwCl [(h0, .inr (0, [.ref c0, .ref w0, .int (nI k), .int (nI n), .long (pt_mk n), .int cl, .int su])), (c0, .inl (kc, 512, .inr (.inl fc))), (w0, .inl (kw, 512, .inr (.inl fv)))] U.heap ∧ va_K (dC, dI) vwCl [(kc, .long), (kw, .long)] U)) (vp_Sl (fun r : Int64 => r = pt_lf k n fc fv i (pt_rs n (a &&& pt_mk n) i))) 0 0 (fun _ => False) := by
  refine Met.ofW (cc := cX0_next) (maxL := 8) (ret := (some .long)) (by decide) rfl ?_
  intro p e s m args below meth c s₁ B hml hv
  obtain ⟨ha, hP, hK⟩ := hv
  have hx := B.exec
  have hb := B.bytes
  have hr := B.returns
  have hts := atoms_spec (ws := wsX0_next) B.pre
  have hown : s.vm.findClass RX0 = some m.cls := findClass_of_methodNamed B.named
  have hlocks := B.notSynchronized
  have hl := lv_entry ([.ref h0, .long a]) (n := 8) (Nat.le_of_ble_eq_true rfl)
  refine W.eq (show entryFrame m args 8 = entryFrame m ([.ref h0, .long a] : List Value).toArray 8 by rw [ha]) ?_
  rw [lg_entry_eq]
  generalize (lg_sl ([.ref h0, .long a]) ++ List.replicate (8 - (lg_sl ([.ref h0, .long a])).length) Slot.unset).toArray = ls at hl ⊢
  have hl : lv_has ls 8 [(0, .ref h0), (1, .long a)] := hl
  generalize hQ : MQ below (vp_Sl (fun r : Int64 => r = pt_lf k n fc fv i (pt_rs n (a &&& pt_mk n) i))) args s 0 0 (fun _ => False) = Q
  refine lv_lload_n hx hb dX0_next_0 rfl (lv_at hl 1 rfl) ?_
  refine lv_aload_n hx hb dX0_next_1 rfl (lv_at hl 0 rfl) ?_
  refine va_get (D := (dC, dI)) (ci := 0) (v := .long (pt_mk n)) (C := RX0) (T := TX0) (N := 7) hx hb hts (fun w h => List.mem_cons_of_mem _ (pt_wsX0 w h)) hown hK hP 0 rfl rfl 4 (by decide) (hts _ (List.mem_cons_of_mem _ pw36)) (fun _ h9 => h9) rfl dX0_next_2 ?_
  refine lv_land hx hb dX0_next_5 ?_
  refine lv_lstore_n (lv' := [(3, .long (a &&& (pt_mk n))), (0, .ref h0), (1, .long a)]) hx hb dX0_next_6 rfl hl (by decide) rfl (fun ls hl => ?_)
  refine lv_aload_n hx hb dX0_next_7 rfl (lv_at hl 1 rfl) ?_
  refine lv_aload_n hx hb dX0_next_8 rfl (lv_at hl 1 rfl) ?_
  refine va_get (D := (dC, dI)) (ci := 0) (v := .long (pt_mk n)) (C := RX0) (T := TX0) (N := 7) hx hb hts (fun w h => List.mem_cons_of_mem _ (pt_wsX0 w h)) hown hK hP 0 rfl rfl 4 (by decide) (hts _ (List.mem_cons_of_mem _ pw36)) (fun _ h9 => h9) rfl dX0_next_9 ?_
  refine lv_lload_n hx hb dX0_next_12 rfl (lv_at hl 0 rfl) ?_
  refine vp_callSi (W.runV (As := [.long (pt_mk n), .long (a &&& (pt_mk n))]) (rest := []) ⟨hx, hb, hml, hown, hts⟩ (c_firstSharing l dC dI h0 c0 w0 kc kw k n fc fv cl su (pt_mk n) (a &&& pt_mk n) hk) (cwV 2 hts (pt_gV pw84 pw85 pw3 pw17 pw86) rfl rfl rfl (by decide +kernel) ⟨Nat.le_of_ble_eq_true rfl, Nat.le_of_ble_eq_true rfl⟩) ⟨fun a U g mk q => by obtain ⟨q0, qP, qK⟩ := q; exact ⟨q0, qP, va_K.moved (u := U) (U := U.calling g mk a) (Vm.Alike.refl U.vm) qK⟩, va_recv hK hP (ci := 0) (q0 := 0) rfl rfl, fun U hU hW => ⟨rfl, by rw [hU]; exact hP, va_K.moved hW.alike hK⟩⟩ rfl rfl hl.1 rfl (lv_room (Nat.le_of_ble_eq_true rfl)) dX0_next_13 ⟨Nat.zero_le _, Nat.zero_le _⟩) (fun r1 hw => ?_)
  refine lv_iconst (v := (-1)) hx hb dX0_next_16 (by decide) ?_
  refine lv_icmp_ne (tgt := 22) hx hb dX0_next_17 (by decide) (fun h1 => ?_) (fun h1 => absurd ((pt_F_none hk hw).mp h1) hmet)
  refine lv_iconst (v := 0) hx hb dX0_next_22 (by decide) ?_
  refine lv_istore (lv' := [(5, .int 0), (3, .long (a &&& (pt_mk n))), (0, .ref h0), (1, .long a)]) hx hb dX0_next_23 hl (by decide) rfl (fun ls hl => ?_)
  have loop : ∀ (d t : Nat) (ls : Array Slot), i - t = d → t ≤ i → lv_has ls 8 [(5, .int (nI t)), (3, .long (a &&& pt_mk n)), (0, .ref h0), (1, .long a)] → W p l e (headSpec wsX0_next ({ frames := 4, cells := 0, slots := 0, locals := 97 })).room s m args below meth c s.heap [] 0 0 Q (F0 m 25 ls []) := by
    intro d
    induction d with
    | zero =>
      intro t ls hd htk hl
      obtain rfl : t = i := by omega
      refine lv_iload hx hb dX0_next_25 (lv_at hl 0 rfl) ?_
      refine lv_aload_n hx hb dX0_next_27 rfl (lv_at hl 2 rfl) ?_
      refine va_get (D := (dC, dI)) (ci := 0) (v := .int (nI n)) (C := RX0) (T := TX0) (N := 7) hx hb hts (fun w h => List.mem_cons_of_mem _ (pt_wsX0 w h)) hown hK hP 0 rfl rfl 3 (by decide) (hts _ (List.mem_cons_of_mem _ pw35)) (fun _ h9 => h9) rfl dX0_next_28 ?_
      refine lv_icmp_ge (tgt := 92) hx hb dX0_next_31 (by decide) (fun h1 => absurd h1 (nI_ge hin (by omega))) (fun h1 => ?_)
      refine lv_lload_n hx hb dX0_next_34 rfl (lv_at hl 1 rfl) ?_
      refine lv_lconst (v := 1) hx hb dX0_next_35 (by decide) ?_
      refine lv_iload hx hb dX0_next_36 (lv_at hl 0 rfl) ?_
      refine lv_lshl (v := pt_shl 1 (nI t)) hx hb dX0_next_38 rfl ?_
      refine lv_lor hx hb dX0_next_39 ?_
      refine lv_aload_n hx hb dX0_next_40 rfl (lv_at hl 2 rfl) ?_
      refine lv_iload hx hb dX0_next_41 (lv_at hl 0 rfl) ?_
      refine vp_callSl (W.runV (As := [.int (nI t)]) (rest := [.long ((a &&& pt_mk n) ||| (pt_shl 1 (nI t)))]) ⟨hx, hb, hml, hown, hts⟩ (c_bitsFrom l dC dI h0 c0 w0 kc kw k n fc fv cl su t) (cwV 1 hts (pt_gV pw142 pw143 pw7 pw17 pw144) rfl rfl rfl (by decide +kernel) ⟨Nat.le_of_ble_eq_true rfl, Nat.le_of_ble_eq_true rfl⟩) ⟨fun a U g mk q => by obtain ⟨q0, qP, qK⟩ := q; exact ⟨q0, qP, va_K.moved (u := U) (U := U.calling g mk a) (Vm.Alike.refl U.vm) qK⟩, va_recv hK hP (ci := 0) (q0 := 0) rfl rfl, fun U hU hW => ⟨rfl, by rw [hU]; exact hP, va_K.moved hW.alike hK⟩⟩ rfl rfl hl.1 rfl (lv_room (Nat.le_of_ble_eq_true rfl)) dX0_next_43 ⟨Nat.zero_le _, Nat.zero_le _⟩) (fun r2 hw => ?_)
      subst hw
      refine lv_land hx hb dX0_next_46 ?_
      refine lv_lstore (lv' := [(6, .long (((a &&& pt_mk n) ||| (pt_shl 1 (nI t))) &&& (pt_up n t))), (5, .int (nI t)), (3, .long (a &&& pt_mk n)), (0, .ref h0), (1, .long a)]) hx hb dX0_next_47 hl (by decide) rfl (fun ls hl => ?_)
      refine lv_lload_n hx hb dX0_next_49 rfl (lv_at hl 2 rfl) ?_
      refine lv_iload hx hb dX0_next_50 (lv_at hl 1 rfl) ?_
      refine lv_lushr (v := pt_ushr (a &&& pt_mk n) (nI t)) hx hb dX0_next_52 rfl ?_
      refine lv_lconst (v := 1) hx hb dX0_next_53 (by decide) ?_
      refine lv_land hx hb dX0_next_54 ?_
      refine lv_lconst (v := 0) hx hb dX0_next_55 (by decide) ?_
      refine W.lcmp hx hb dX0_next_56 ?_
      refine lv_if_ne (tgt := 86) hx hb dX0_next_57 (by decide) (fun h2 => ?_) (fun h2 => ?_)
      · exact absurd (pt_cmp0.mpr hit.1) h2
      · refine lv_aload_n hx hb dX0_next_60 rfl (lv_at hl 3 rfl) ?_
        refine lv_aload_n hx hb dX0_next_61 rfl (lv_at hl 3 rfl) ?_
        refine lv_iload hx hb dX0_next_62 (lv_at hl 1 rfl) ?_
        refine vp_callSl (W.runV (As := [.int (nI t)]) (rest := [.ref h0]) ⟨hx, hb, hml, hown, hts⟩ (c_bitsFrom l dC dI h0 c0 w0 kc kw k n fc fv cl su t) (cwV 1 hts (pt_gV pw142 pw143 pw7 pw17 pw144) rfl rfl rfl (by decide +kernel) ⟨Nat.le_of_ble_eq_true rfl, Nat.le_of_ble_eq_true rfl⟩) ⟨fun a U g mk q => by obtain ⟨q0, qP, qK⟩ := q; exact ⟨q0, qP, va_K.moved (u := U) (U := U.calling g mk a) (Vm.Alike.refl U.vm) qK⟩, va_recv hK hP (ci := 0) (q0 := 0) rfl rfl, fun U hU hW => ⟨rfl, by rw [hU]; exact hP, va_K.moved hW.alike hK⟩⟩ rfl rfl hl.1 rfl (lv_room (Nat.le_of_ble_eq_true rfl)) dX0_next_64 ⟨Nat.zero_le _, Nat.zero_le _⟩) (fun r3 hw => ?_)
        subst hw
        refine lv_lload hx hb dX0_next_67 (lv_at hl 0 rfl) ?_
        refine vp_callSl (W.runV (As := [.long (pt_up n t), .long (((a &&& pt_mk n) ||| (pt_shl 1 (nI t))) &&& (pt_up n t))]) (rest := []) ⟨hx, hb, hml, hown, hts⟩ (c_freeWords l dC dI h0 c0 w0 kc kw k n fc fv cl su (pt_up n t) (pt_rs n (a &&& pt_mk n) t) hk) (cwV 2 hts (pt_gV pw123 pw124 pw5 pw17 pw125) rfl rfl rfl (by decide +kernel) ⟨Nat.le_of_ble_eq_true rfl, Nat.le_of_ble_eq_true rfl⟩) ⟨fun a U g mk q => by obtain ⟨q0, qP, qK⟩ := q; exact ⟨q0, qP, va_K.moved (u := U) (U := U.calling g mk a) (Vm.Alike.refl U.vm) qK⟩, va_recv hK hP (ci := 0) (q0 := 0) rfl rfl, fun U hU hW => ⟨rfl, by rw [hU]; exact hP, va_K.moved hW.alike hK⟩⟩ rfl rfl hl.1 rfl (lv_room (Nat.le_of_ble_eq_true rfl)) dX0_next_69 ⟨Nat.zero_le _, Nat.zero_le _⟩) (fun r4 hw => ?_)
        subst hw
        refine lv_lconst (v := 0) hx hb dX0_next_72 (by decide) ?_
        refine W.lcmp hx hb dX0_next_73 ?_
        refine lv_if_eq (tgt := 86) hx hb dX0_next_74 (by decide) (fun h3 => ?_) (fun h3 => ?_)
        · exact absurd (pt_cmp0.mp h3) hit.2
        · refine lv_aload_n hx hb dX0_next_77 rfl (lv_at hl 3 rfl) ?_
          refine lv_iload hx hb dX0_next_78 (lv_at hl 1 rfl) ?_
          refine lv_lload hx hb dX0_next_80 (lv_at hl 0 rfl) ?_
          refine vp_callSl (W.runV (As := [.int (nI t), .long (((a &&& pt_mk n) ||| (pt_shl 1 (nI t))) &&& (pt_up n t))]) (rest := []) ⟨hx, hb, hml, hown, hts⟩ (c_leastFree l dC dI h0 c0 w0 kc kw k n fc fv cl su t (pt_rs n (a &&& pt_mk n) t) hk (by omega)) (cwV 2 hts (pt_gV pw145 pw146 pw8 pw17 pw147) rfl rfl rfl (by decide +kernel) ⟨Nat.le_of_ble_eq_true rfl, Nat.le_of_ble_eq_true rfl⟩) ⟨fun a U g mk q => by obtain ⟨q0, qP, qK⟩ := q; exact ⟨q0, qP, va_K.moved (u := U) (U := U.calling g mk a) (Vm.Alike.refl U.vm) qK⟩, va_recv hK hP (ci := 0) (q0 := 0) rfl rfl, fun U hU hW => ⟨rfl, by rw [hU]; exact hP, va_K.moved hW.alike hK⟩⟩ rfl rfl hl.1 rfl (lv_room (Nat.le_of_ble_eq_true rfl)) dX0_next_82 ⟨Nat.zero_le _, Nat.zero_le _⟩) (fun r5 hw => ?_)
          rw [← hQ]
          exact W.lret (v := r5) hx hb hr (fun t ht hW => ⟨r5, rfl, hw, ht⟩) t_nil dX0_next_85
    | succ d ih =>
      intro t ls hd htk hl
      have hnone : ∀ j, j < i → ¬ pt_N k n fc fv (a &&& pt_mk n) j := hlow
      refine lv_iload hx hb dX0_next_25 (lv_at hl 0 rfl) ?_
      refine lv_aload_n hx hb dX0_next_27 rfl (lv_at hl 2 rfl) ?_
      refine va_get (D := (dC, dI)) (ci := 0) (v := .int (nI n)) (C := RX0) (T := TX0) (N := 7) hx hb hts (fun w h => List.mem_cons_of_mem _ (pt_wsX0 w h)) hown hK hP 0 rfl rfl 3 (by decide) (hts _ (List.mem_cons_of_mem _ pw35)) (fun _ h9 => h9) rfl dX0_next_28 ?_
      refine lv_icmp_ge (tgt := 92) hx hb dX0_next_31 (by decide) (fun h1 => absurd h1 (nI_ge (by omega) (by omega))) (fun h1 => ?_)
      refine lv_lload_n hx hb dX0_next_34 rfl (lv_at hl 1 rfl) ?_
      refine lv_lconst (v := 1) hx hb dX0_next_35 (by decide) ?_
      refine lv_iload hx hb dX0_next_36 (lv_at hl 0 rfl) ?_
      refine lv_lshl (v := pt_shl 1 (nI t)) hx hb dX0_next_38 rfl ?_
      refine lv_lor hx hb dX0_next_39 ?_
      refine lv_aload_n hx hb dX0_next_40 rfl (lv_at hl 2 rfl) ?_
      refine lv_iload hx hb dX0_next_41 (lv_at hl 0 rfl) ?_
      refine vp_callSl (W.runV (As := [.int (nI t)]) (rest := [.long ((a &&& pt_mk n) ||| (pt_shl 1 (nI t)))]) ⟨hx, hb, hml, hown, hts⟩ (c_bitsFrom l dC dI h0 c0 w0 kc kw k n fc fv cl su t) (cwV 1 hts (pt_gV pw142 pw143 pw7 pw17 pw144) rfl rfl rfl (by decide +kernel) ⟨Nat.le_of_ble_eq_true rfl, Nat.le_of_ble_eq_true rfl⟩) ⟨fun a U g mk q => by obtain ⟨q0, qP, qK⟩ := q; exact ⟨q0, qP, va_K.moved (u := U) (U := U.calling g mk a) (Vm.Alike.refl U.vm) qK⟩, va_recv hK hP (ci := 0) (q0 := 0) rfl rfl, fun U hU hW => ⟨rfl, by rw [hU]; exact hP, va_K.moved hW.alike hK⟩⟩ rfl rfl hl.1 rfl (lv_room (Nat.le_of_ble_eq_true rfl)) dX0_next_43 ⟨Nat.zero_le _, Nat.zero_le _⟩) (fun r6 hw => ?_)
      subst hw
      refine lv_land hx hb dX0_next_46 ?_
      refine lv_lstore (lv' := [(6, .long (((a &&& pt_mk n) ||| (pt_shl 1 (nI t))) &&& (pt_up n t))), (5, .int (nI t)), (3, .long (a &&& pt_mk n)), (0, .ref h0), (1, .long a)]) hx hb dX0_next_47 hl (by decide) rfl (fun ls hl => ?_)
      refine lv_lload_n hx hb dX0_next_49 rfl (lv_at hl 2 rfl) ?_
      refine lv_iload hx hb dX0_next_50 (lv_at hl 1 rfl) ?_
      refine lv_lushr (v := pt_ushr (a &&& pt_mk n) (nI t)) hx hb dX0_next_52 rfl ?_
      refine lv_lconst (v := 1) hx hb dX0_next_53 (by decide) ?_
      refine lv_land hx hb dX0_next_54 ?_
      refine lv_lconst (v := 0) hx hb dX0_next_55 (by decide) ?_
      refine W.lcmp hx hb dX0_next_56 ?_
      refine lv_if_ne (tgt := 86) hx hb dX0_next_57 (by decide) (fun h2 => ?_) (fun h2 => ?_)
      · refine lv_iinc (v := nI (t + 1)) (lv' := [(5, .int (nI (t + 1))), (6, .long (((a &&& pt_mk n) ||| (pt_shl 1 (nI t))) &&& (pt_up n t))), (3, .long (a &&& pt_mk n)), (0, .ref h0), (1, .long a)]) hx hb dX0_next_86 hl (k := 1) rfl (by rw [nI_succ]; rfl) (by decide) rfl (fun ls hl => ?_)
        refine lv_goto (tgt := 25) hx hb dX0_next_89 (by decide) ?_
        exact ih (t + 1) ls (by omega) (by omega) (lv_sub hl [0, 2, 3, 4] rfl)
      · refine lv_aload_n hx hb dX0_next_60 rfl (lv_at hl 3 rfl) ?_
        refine lv_aload_n hx hb dX0_next_61 rfl (lv_at hl 3 rfl) ?_
        refine lv_iload hx hb dX0_next_62 (lv_at hl 1 rfl) ?_
        refine vp_callSl (W.runV (As := [.int (nI t)]) (rest := [.ref h0]) ⟨hx, hb, hml, hown, hts⟩ (c_bitsFrom l dC dI h0 c0 w0 kc kw k n fc fv cl su t) (cwV 1 hts (pt_gV pw142 pw143 pw7 pw17 pw144) rfl rfl rfl (by decide +kernel) ⟨Nat.le_of_ble_eq_true rfl, Nat.le_of_ble_eq_true rfl⟩) ⟨fun a U g mk q => by obtain ⟨q0, qP, qK⟩ := q; exact ⟨q0, qP, va_K.moved (u := U) (U := U.calling g mk a) (Vm.Alike.refl U.vm) qK⟩, va_recv hK hP (ci := 0) (q0 := 0) rfl rfl, fun U hU hW => ⟨rfl, by rw [hU]; exact hP, va_K.moved hW.alike hK⟩⟩ rfl rfl hl.1 rfl (lv_room (Nat.le_of_ble_eq_true rfl)) dX0_next_64 ⟨Nat.zero_le _, Nat.zero_le _⟩) (fun r7 hw => ?_)
        subst hw
        refine lv_lload hx hb dX0_next_67 (lv_at hl 0 rfl) ?_
        refine vp_callSl (W.runV (As := [.long (pt_up n t), .long (((a &&& pt_mk n) ||| (pt_shl 1 (nI t))) &&& (pt_up n t))]) (rest := []) ⟨hx, hb, hml, hown, hts⟩ (c_freeWords l dC dI h0 c0 w0 kc kw k n fc fv cl su (pt_up n t) (pt_rs n (a &&& pt_mk n) t) hk) (cwV 2 hts (pt_gV pw123 pw124 pw5 pw17 pw125) rfl rfl rfl (by decide +kernel) ⟨Nat.le_of_ble_eq_true rfl, Nat.le_of_ble_eq_true rfl⟩) ⟨fun a U g mk q => by obtain ⟨q0, qP, qK⟩ := q; exact ⟨q0, qP, va_K.moved (u := U) (U := U.calling g mk a) (Vm.Alike.refl U.vm) qK⟩, va_recv hK hP (ci := 0) (q0 := 0) rfl rfl, fun U hU hW => ⟨rfl, by rw [hU]; exact hP, va_K.moved hW.alike hK⟩⟩ rfl rfl hl.1 rfl (lv_room (Nat.le_of_ble_eq_true rfl)) dX0_next_69 ⟨Nat.zero_le _, Nat.zero_le _⟩) (fun r8 hw => ?_)
        subst hw
        refine lv_lconst (v := 0) hx hb dX0_next_72 (by decide) ?_
        refine W.lcmp hx hb dX0_next_73 ?_
        refine lv_if_eq (tgt := 86) hx hb dX0_next_74 (by decide) (fun h3 => ?_) (fun h3 => ?_)
        · refine lv_iinc (v := nI (t + 1)) (lv' := [(5, .int (nI (t + 1))), (6, .long (((a &&& pt_mk n) ||| (pt_shl 1 (nI t))) &&& (pt_up n t))), (3, .long (a &&& pt_mk n)), (0, .ref h0), (1, .long a)]) hx hb dX0_next_86 hl (k := 1) rfl (by rw [nI_succ]; rfl) (by decide) rfl (fun ls hl => ?_)
          refine lv_goto (tgt := 25) hx hb dX0_next_89 (by decide) ?_
          exact ih (t + 1) ls (by omega) (by omega) (lv_sub hl [0, 2, 3, 4] rfl)
        · exact absurd ⟨pt_cmp0.mp h2, fun z => h3 (pt_cmp0.mpr z)⟩ (hnone t (by omega))
  exact loop i 0 ls (by omega) (by omega) (lv_sub hl [0, 1, 2, 3] rfl)
set_option maxHeartbeats 4000000 in
set_option maxRecDepth 100000 in
/-- next(word): not there -/
theorem t_next (l : Launch) (hl9 : l.stackTraces = false) (dC : Nat → ClassId) (dI : Nat → Nat → Nat) (s0 : State) (h0X : pt_X s0) (h0 c0 w0 : Nat) (kc kw : ClassId) (k n : Nat) (fc fv : Nat → Int64) (cl su : Int32) (a : Int64) (sz : Nat) (hk : k ≤ 512) (hn2 : n ≤ 64) (hmet : ¬ ∀ j, j < k → ¬ pt_sh (fc j) (fv j) (pt_mk n) (a &&& pt_mk n)) (hnone : ∀ j, j < n → ¬ pt_N k n fc fv (a &&& pt_mk n) j) : pt_Thr l yX0_next wsX0_next ({ frames := 6, cells := 1, slots := 6, locals := 82 }) (va_Pc [.ref h0, .long a] (fun U => U.heap.size = sz ∧ va_P (dC, dI) vwCl [(h0, .inr (0, [.ref c0, .ref w0, .int (nI k), .int (nI n), .long (pt_mk n), .int cl, .int su])), (c0, .inl (kc, 512, .inr (.inl fc))), (w0, .inl (kw, 512, .inr (.inl fv)))] U.heap ∧ va_K (dC, dI) vwCl [(kc, .long), (kw, .long)] U ∧ va_D (fun q => s0.heap.size ≤ q) [(h0, .inr (0, [.ref c0, .ref w0, .int (nI k), .int (nI n), .long (pt_mk n), .int cl, .int su])), (c0, .inl (kc, 512, .inr (.inl fc))), (w0, .inl (kw, 512, .inr (.inl fv)))] ∧ pt_ext s0 U)) "java/util/NoSuchElementException" (fun st t => va_P (dC, dI) vwCl [(h0, .inr (0, [.ref c0, .ref w0, .int (nI k), .int (nI n), .long (pt_mk n), .int cl, .int su])), (c0, .inl (kc, 512, .inr (.inl fc))), (w0, .inl (kw, 512, .inr (.inl fv)))] t.heap ∧ va_K (dC, dI) vwCl [(kc, .long), (kw, .long)] t ∧ va_D (va_A [(h0, .inr (0, [.ref c0, .ref w0, .int (nI k), .int (nI n), .long (pt_mk n), .int cl, .int su])), (c0, .inl (kc, 512, .inr (.inl fc))), (w0, .inl (kw, 512, .inr (.inl fv)))] sz) [(h0, .inr (0, [.ref c0, .ref w0, .int (nI k), .int (nI n), .long (pt_mk n), .int cl, .int su])), (c0, .inl (kc, 512, .inr (.inl fc))), (w0, .inl (kw, 512, .inr (.inl fv)))] ∧ va_F (va_A [(h0, .inr (0, [.ref c0, .ref w0, .int (nI k), .int (nI n), .long (pt_mk n), .int cl, .int su])), (c0, .inl (kc, 512, .inr (.inl fc))), (w0, .inl (kw, 512, .inr (.inl fv)))] sz) st t) 1 6 (va_A [(h0, .inr (0, [.ref c0, .ref w0, .int (nI k), .int (nI n), .long (pt_mk n), .int cl, .int su])), (c0, .inl (kc, 512, .inr (.inl fc))), (w0, .inl (kw, 512, .inr (.inl fv)))] sz) := by
  refine pt_Thr_ofW (cc := cX0_next) (maxL := 8) (ret := (some .long)) (by decide) rfl ?_
  intro p e s m args below meth c s₁ B hml hnoh hv
  obtain ⟨ha, hsz, hP, hK, hD0, hext⟩ := hv
  subst hsz
  have hx := B.exec
  have hb := B.bytes
  have hr := B.returns
  have hts := atoms_spec (ws := wsX0_next) B.pre
  have hown : s.vm.findClass RX0 = some m.cls := findClass_of_methodNamed B.named
  have hlocks := B.notSynchronized
  have hl := lv_entry ([.ref h0, .long a]) (n := 8) (Nat.le_of_ble_eq_true rfl)
  refine W.eq (show entryFrame m args 8 = entryFrame m ([.ref h0, .long a] : List Value).toArray 8 by rw [ha]) ?_
  rw [lg_entry_eq]
  generalize (lg_sl ([.ref h0, .long a]) ++ List.replicate (8 - (lg_sl ([.ref h0, .long a])).length) Slot.unset).toArray = ls at hl ⊢
  have hl : lv_has ls 8 [(0, .ref h0), (1, .long a)] := hl
  have hD := hD0.self (sz := s.heap.size)
  have hAs : ∀ q : Nat, va_A [(h0, .inr (0, [.ref c0, .ref w0, .int (nI k), .int (nI n), .long (pt_mk n), .int cl, .int su])), (c0, .inl (kc, 512, .inr (.inl fc))), (w0, .inl (kw, 512, .inr (.inl fv)))] s.heap.size q → s0.heap.size ≤ q := pt_As hD0 hext.2.1
  generalize hAe : va_A [(h0, .inr (0, [.ref c0, .ref w0, .int (nI k), .int (nI n), .long (pt_mk n), .int cl, .int su])), (c0, .inl (kc, 512, .inr (.inl fc))), (w0, .inl (kw, 512, .inr (.inl fv)))] s.heap.size = A at hD hAs ⊢
  have hA : ∀ q : Nat, s.heap.size ≤ q → A q := fun q h => by rw [← hAe]; exact Or.inr h
  have hS : va_S A s.heap s.heap [] := va_S.rf
  have hP : va_P (dC, dI) vwCl [(h0, .inr (0, [.ref c0, .ref w0, .int (nI k), .int (nI n), .long (pt_mk n), .int cl, .int su])), (c0, .inl (kc, 512, .inr (.inl fc))), (w0, .inl (kw, 512, .inr (.inl fv)))] s.heap := hP
  generalize hQ : pt_TQ below "java/util/NoSuchElementException" (fun st t => va_P (dC, dI) vwCl [(h0, .inr (0, [.ref c0, .ref w0, .int (nI k), .int (nI n), .long (pt_mk n), .int cl, .int su])), (c0, .inl (kc, 512, .inr (.inl fc))), (w0, .inl (kw, 512, .inr (.inl fv)))] t.heap ∧ va_K (dC, dI) vwCl [(kc, .long), (kw, .long)] t ∧ va_D A [(h0, .inr (0, [.ref c0, .ref w0, .int (nI k), .int (nI n), .long (pt_mk n), .int cl, .int su])), (c0, .inl (kc, 512, .inr (.inl fc))), (w0, .inl (kw, 512, .inr (.inl fv)))] ∧ va_F A st t) s 1 6 A = Q
  refine lv_lload_n hx hb dX0_next_0 rfl (lv_at hl 1 rfl) ?_
  refine lv_aload_n hx hb dX0_next_1 rfl (lv_at hl 0 rfl) ?_
  refine va_get (D := (dC, dI)) (ci := 0) (v := .long (pt_mk n)) (C := RX0) (T := TX0) (N := 7) hx hb hts (fun w h => List.mem_cons_of_mem _ (pt_wsX0 w h)) hown hK hP 0 rfl rfl 4 (by decide) (hts _ (List.mem_cons_of_mem _ pw36)) (fun _ h9 => h9) rfl dX0_next_2 ?_
  refine lv_land hx hb dX0_next_5 ?_
  refine lv_lstore_n (lv' := [(3, .long (a &&& (pt_mk n))), (0, .ref h0), (1, .long a)]) hx hb dX0_next_6 rfl hl (by decide) rfl (fun ls hl => ?_)
  refine lv_aload_n hx hb dX0_next_7 rfl (lv_at hl 1 rfl) ?_
  refine lv_aload_n hx hb dX0_next_8 rfl (lv_at hl 1 rfl) ?_
  refine va_get (D := (dC, dI)) (ci := 0) (v := .long (pt_mk n)) (C := RX0) (T := TX0) (N := 7) hx hb hts (fun w h => List.mem_cons_of_mem _ (pt_wsX0 w h)) hown hK hP 0 rfl rfl 4 (by decide) (hts _ (List.mem_cons_of_mem _ pw36)) (fun _ h9 => h9) rfl dX0_next_9 ?_
  refine lv_lload_n hx hb dX0_next_12 rfl (lv_at hl 0 rfl) ?_
  refine vp_callSi (W.runV (As := [.long (pt_mk n), .long (a &&& (pt_mk n))]) (rest := []) ⟨hx, hb, hml, hown, hts⟩ (c_firstSharing l dC dI h0 c0 w0 kc kw k n fc fv cl su (pt_mk n) (a &&& pt_mk n) hk) (cwV 2 hts (pt_gV pw84 pw85 pw3 pw17 pw86) rfl rfl rfl (by decide +kernel) ⟨Nat.le_of_ble_eq_true rfl, Nat.le_of_ble_eq_true rfl⟩) ⟨fun a U g mk q => by obtain ⟨q0, qP, qK⟩ := q; exact ⟨q0, qP, va_K.moved (u := U) (U := U.calling g mk a) (Vm.Alike.refl U.vm) qK⟩, va_recv hK hP (ci := 0) (q0 := 0) rfl rfl, fun U hU hW => ⟨rfl, by rw [hU]; exact hP, va_K.moved hW.alike hK⟩⟩ rfl rfl hl.1 rfl (lv_room (Nat.le_of_ble_eq_true rfl)) dX0_next_13 ⟨Nat.zero_le _, Nat.zero_le _⟩) (fun r1 hw => ?_)
  refine lv_iconst (v := (-1)) hx hb dX0_next_16 (by decide) ?_
  refine lv_icmp_ne (tgt := 22) hx hb dX0_next_17 (by decide) (fun h1 => ?_) (fun h1 => absurd ((pt_F_none hk hw).mp h1) hmet)
  refine lv_iconst (v := 0) hx hb dX0_next_22 (by decide) ?_
  refine lv_istore (lv' := [(5, .int 0), (3, .long (a &&& (pt_mk n))), (0, .ref h0), (1, .long a)]) hx hb dX0_next_23 hl (by decide) rfl (fun ls hl => ?_)
  have loop : ∀ (d t : Nat) (ls : Array Slot), n - t = d → t ≤ n → lv_has ls 8 [(5, .int (nI t)), (3, .long (a &&& pt_mk n)), (0, .ref h0), (1, .long a)] → W p l e (headSpec wsX0_next ({ frames := 6, cells := 1, slots := 6, locals := 82 })).room s m args below meth c s.heap [] 0 0 Q (F0 m 25 ls []) := by
    intro d
    induction d with
    | zero =>
      intro t ls hd htk hl
      obtain rfl : t = n := by omega
      refine lv_iload hx hb dX0_next_25 (lv_at hl 0 rfl) ?_
      refine lv_aload_n hx hb dX0_next_27 rfl (lv_at hl 2 rfl) ?_
      refine va_get (D := (dC, dI)) (ci := 0) (v := .int (nI t)) (C := RX0) (T := TX0) (N := 7) hx hb hts (fun w h => List.mem_cons_of_mem _ (pt_wsX0 w h)) hown hK hP 0 rfl rfl 3 (by decide) (hts _ (List.mem_cons_of_mem _ pw35)) (fun _ h9 => h9) rfl dX0_next_28 ?_
      refine lv_icmp_ge (tgt := 92) hx hb dX0_next_31 (by decide) (fun h1 => ?_) (fun h1 => absurd (nI_le (by omega) (by omega)) h1)
      obtain ⟨sa, hstr⟩ := h0X.2.1 82 "no free word from this one on" (by decide)
      rw [← hQ]
      exact pt_throwS (own := RX0) (cls := "java/util/NoSuchElementException") (text := "no free word from this one on") (names := ["java/lang/RuntimeException", "java/lang/Exception"]) (ik := 80) (is := 82) (ic := 84) (sa := sa) hx hb hl9 hown (by decide) (by decide) (fun U hU hV w hw => pt_X_at h0X (hext.on hS hAs hU hV) w (pt_xw_in_nse w hw) _) (vk_R.warm hext.1 hstr) (hl.1.trans hml.symm) dX0_next_92 dX0_next_95 dX0_next_96 dX0_next_98 dX0_next_101 hnoh (by decide) (by decide) (by decide) (by decide) hlocks (fun t hW hz hk => ⟨hP.kept (fun k q hq => hk _ ((hP k q hq).lt)), va_K.moved hW.alike hK, hD, pt_S_thrown hS hz hk⟩) hS.2.2 (by decide) (by decide)
    | succ d ih =>
      intro t ls hd htk hl
      refine lv_iload hx hb dX0_next_25 (lv_at hl 0 rfl) ?_
      refine lv_aload_n hx hb dX0_next_27 rfl (lv_at hl 2 rfl) ?_
      refine va_get (D := (dC, dI)) (ci := 0) (v := .int (nI n)) (C := RX0) (T := TX0) (N := 7) hx hb hts (fun w h => List.mem_cons_of_mem _ (pt_wsX0 w h)) hown hK hP 0 rfl rfl 3 (by decide) (hts _ (List.mem_cons_of_mem _ pw35)) (fun _ h9 => h9) rfl dX0_next_28 ?_
      refine lv_icmp_ge (tgt := 92) hx hb dX0_next_31 (by decide) (fun h1 => absurd h1 (nI_ge (by omega) (by omega))) (fun h1 => ?_)
      refine lv_lload_n hx hb dX0_next_34 rfl (lv_at hl 1 rfl) ?_
      refine lv_lconst (v := 1) hx hb dX0_next_35 (by decide) ?_
      refine lv_iload hx hb dX0_next_36 (lv_at hl 0 rfl) ?_
      refine lv_lshl (v := pt_shl 1 (nI t)) hx hb dX0_next_38 rfl ?_
      refine lv_lor hx hb dX0_next_39 ?_
      refine lv_aload_n hx hb dX0_next_40 rfl (lv_at hl 2 rfl) ?_
      refine lv_iload hx hb dX0_next_41 (lv_at hl 0 rfl) ?_
      refine vp_callSl (W.runV (As := [.int (nI t)]) (rest := [.long ((a &&& pt_mk n) ||| (pt_shl 1 (nI t)))]) ⟨hx, hb, hml, hown, hts⟩ (c_bitsFrom l dC dI h0 c0 w0 kc kw k n fc fv cl su t) (cwV 1 hts (pt_gV pw142 pw143 pw7 pw17 pw144) rfl rfl rfl (by decide +kernel) ⟨Nat.le_of_ble_eq_true rfl, Nat.le_of_ble_eq_true rfl⟩) ⟨fun a U g mk q => by obtain ⟨q0, qP, qK⟩ := q; exact ⟨q0, qP, va_K.moved (u := U) (U := U.calling g mk a) (Vm.Alike.refl U.vm) qK⟩, va_recv hK hP (ci := 0) (q0 := 0) rfl rfl, fun U hU hW => ⟨rfl, by rw [hU]; exact hP, va_K.moved hW.alike hK⟩⟩ rfl rfl hl.1 rfl (lv_room (Nat.le_of_ble_eq_true rfl)) dX0_next_43 ⟨Nat.zero_le _, Nat.zero_le _⟩) (fun r2 hw => ?_)
      subst hw
      refine lv_land hx hb dX0_next_46 ?_
      refine lv_lstore (lv' := [(6, .long (((a &&& pt_mk n) ||| (pt_shl 1 (nI t))) &&& (pt_up n t))), (5, .int (nI t)), (3, .long (a &&& pt_mk n)), (0, .ref h0), (1, .long a)]) hx hb dX0_next_47 hl (by decide) rfl (fun ls hl => ?_)
      refine lv_lload_n hx hb dX0_next_49 rfl (lv_at hl 2 rfl) ?_
      refine lv_iload hx hb dX0_next_50 (lv_at hl 1 rfl) ?_
      refine lv_lushr (v := pt_ushr (a &&& pt_mk n) (nI t)) hx hb dX0_next_52 rfl ?_
      refine lv_lconst (v := 1) hx hb dX0_next_53 (by decide) ?_
      refine lv_land hx hb dX0_next_54 ?_
      refine lv_lconst (v := 0) hx hb dX0_next_55 (by decide) ?_
      refine W.lcmp hx hb dX0_next_56 ?_
      refine lv_if_ne (tgt := 86) hx hb dX0_next_57 (by decide) (fun h2 => ?_) (fun h2 => ?_)
      · refine lv_iinc (v := nI (t + 1)) (lv' := [(5, .int (nI (t + 1))), (6, .long (((a &&& pt_mk n) ||| (pt_shl 1 (nI t))) &&& (pt_up n t))), (3, .long (a &&& pt_mk n)), (0, .ref h0), (1, .long a)]) hx hb dX0_next_86 hl (k := 1) rfl (by rw [nI_succ]; rfl) (by decide) rfl (fun ls hl => ?_)
        refine lv_goto (tgt := 25) hx hb dX0_next_89 (by decide) ?_
        exact ih (t + 1) ls (by omega) (by omega) (lv_sub hl [0, 2, 3, 4] rfl)
      · refine lv_aload_n hx hb dX0_next_60 rfl (lv_at hl 3 rfl) ?_
        refine lv_aload_n hx hb dX0_next_61 rfl (lv_at hl 3 rfl) ?_
        refine lv_iload hx hb dX0_next_62 (lv_at hl 1 rfl) ?_
        refine vp_callSl (W.runV (As := [.int (nI t)]) (rest := [.ref h0]) ⟨hx, hb, hml, hown, hts⟩ (c_bitsFrom l dC dI h0 c0 w0 kc kw k n fc fv cl su t) (cwV 1 hts (pt_gV pw142 pw143 pw7 pw17 pw144) rfl rfl rfl (by decide +kernel) ⟨Nat.le_of_ble_eq_true rfl, Nat.le_of_ble_eq_true rfl⟩) ⟨fun a U g mk q => by obtain ⟨q0, qP, qK⟩ := q; exact ⟨q0, qP, va_K.moved (u := U) (U := U.calling g mk a) (Vm.Alike.refl U.vm) qK⟩, va_recv hK hP (ci := 0) (q0 := 0) rfl rfl, fun U hU hW => ⟨rfl, by rw [hU]; exact hP, va_K.moved hW.alike hK⟩⟩ rfl rfl hl.1 rfl (lv_room (Nat.le_of_ble_eq_true rfl)) dX0_next_64 ⟨Nat.zero_le _, Nat.zero_le _⟩) (fun r3 hw => ?_)
        subst hw
        refine lv_lload hx hb dX0_next_67 (lv_at hl 0 rfl) ?_
        refine vp_callSl (W.runV (As := [.long (pt_up n t), .long (((a &&& pt_mk n) ||| (pt_shl 1 (nI t))) &&& (pt_up n t))]) (rest := []) ⟨hx, hb, hml, hown, hts⟩ (c_freeWords l dC dI h0 c0 w0 kc kw k n fc fv cl su (pt_up n t) (pt_rs n (a &&& pt_mk n) t) hk) (cwV 2 hts (pt_gV pw123 pw124 pw5 pw17 pw125) rfl rfl rfl (by decide +kernel) ⟨Nat.le_of_ble_eq_true rfl, Nat.le_of_ble_eq_true rfl⟩) ⟨fun a U g mk q => by obtain ⟨q0, qP, qK⟩ := q; exact ⟨q0, qP, va_K.moved (u := U) (U := U.calling g mk a) (Vm.Alike.refl U.vm) qK⟩, va_recv hK hP (ci := 0) (q0 := 0) rfl rfl, fun U hU hW => ⟨rfl, by rw [hU]; exact hP, va_K.moved hW.alike hK⟩⟩ rfl rfl hl.1 rfl (lv_room (Nat.le_of_ble_eq_true rfl)) dX0_next_69 ⟨Nat.zero_le _, Nat.zero_le _⟩) (fun r4 hw => ?_)
        subst hw
        refine lv_lconst (v := 0) hx hb dX0_next_72 (by decide) ?_
        refine W.lcmp hx hb dX0_next_73 ?_
        refine lv_if_eq (tgt := 86) hx hb dX0_next_74 (by decide) (fun h3 => ?_) (fun h3 => ?_)
        · refine lv_iinc (v := nI (t + 1)) (lv' := [(5, .int (nI (t + 1))), (6, .long (((a &&& pt_mk n) ||| (pt_shl 1 (nI t))) &&& (pt_up n t))), (3, .long (a &&& pt_mk n)), (0, .ref h0), (1, .long a)]) hx hb dX0_next_86 hl (k := 1) rfl (by rw [nI_succ]; rfl) (by decide) rfl (fun ls hl => ?_)
          refine lv_goto (tgt := 25) hx hb dX0_next_89 (by decide) ?_
          exact ih (t + 1) ls (by omega) (by omega) (lv_sub hl [0, 2, 3, 4] rfl)
        · exact absurd ⟨pt_cmp0.mp h2, fun z => h3 (pt_cmp0.mpr z)⟩ (hnone t (by omega))
  exact loop n 0 ls (by omega) (by omega) (lv_sub hl [0, 1, 2, 3] rfl)
set_option maxHeartbeats 4000000 in
set_option maxRecDepth 100000 in
/-- told(i, what) -/
theorem c_told (l : Launch) (dC : Nat → ClassId) (dI : Nat → Nat → Nat) (h0 c0 w0 : Nat) (kc kw : ClassId) (k n : Nat) (fc fv : Nat → Int64) (cl su : Int32) (i : Nat) (x : Int32) (hw1 : ¬ x < 0) (hw2 : x ≤ 2) (hi : i < k) (hk : k ≤ 512) : Met l yX0_told wsX0_told ({ frames := 1, cells := 0, slots := 0, locals := 21 }) (va_Pc [.ref h0, .int (nI i), .int x] (fun U => va_P (dC, dI) vwCl [(h0, .inr (0, [.ref c0, .ref w0, .int (nI k), .int (nI n), .long (pt_mk n), .int cl, .int su])), (c0, .inl (kc, 512, .inr (.inl fc))), (w0, .inl (kw, 512, .inr (.inl fv)))] U.heap ∧ va_K (dC, dI) vwCl [(kc, .long), (kw, .long)] U)) (vp_Sl (fun r : Int64 => r = (if x = 0 then fc i else if x = 1 then fv i else (nI n - pt_bits (fc i)).toInt64))) 0 0 (fun _ => False) := by
  refine Met.ofW (cc := cX0_told) (maxL := 3) (ret := (some .long)) (by decide) rfl ?_
  intro p e s m args below meth c s₁ B hml hv
  obtain ⟨ha, hP, hK⟩ := hv
  have hx := B.exec
  have hb := B.bytes
  have hr := B.returns
  have hts := atoms_spec (ws := wsX0_told) B.pre
  have hown : s.vm.findClass RX0 = some m.cls := findClass_of_methodNamed B.named
  have hlocks := B.notSynchronized
  have hl := lv_entry ([.ref h0, .int (nI i), .int x]) (n := 3) (Nat.le_of_ble_eq_true rfl)
  refine W.eq (show entryFrame m args 3 = entryFrame m ([.ref h0, .int (nI i), .int x] : List Value).toArray 3 by rw [ha]) ?_
  rw [lg_entry_eq]
  generalize (lg_sl ([.ref h0, .int (nI i), .int x]) ++ List.replicate (3 - (lg_sl ([.ref h0, .int (nI i), .int x])).length) Slot.unset).toArray = ls at hl ⊢
  have hl : lv_has ls 3 [(0, .ref h0), (1, .int (nI i)), (2, .int x)] := hl
  generalize hQ : MQ below (vp_Sl (fun r : Int64 => r = (if x = 0 then fc i else if x = 1 then fv i else (nI n - pt_bits (fc i)).toInt64))) args s 0 0 (fun _ => False) = Q
  refine lv_iload_n hx hb dX0_told_0 rfl (lv_at hl 2 rfl) ?_
  refine lv_if_lt (tgt := 9) hx hb dX0_told_1 (by decide) (fun h1 => absurd h1 hw1) (fun h1 => ?_)
  refine lv_iload_n hx hb dX0_told_4 rfl (lv_at hl 2 rfl) ?_
  refine lv_iconst (v := 2) hx hb dX0_told_5 (by decide) ?_
  refine lv_icmp_le (tgt := 19) hx hb dX0_told_6 (by decide) (fun h2 => ?_) (fun h2 => absurd hw2 h2)
  refine lv_aload_n hx hb dX0_told_19 rfl (lv_at hl 0 rfl) ?_
  refine lv_iload_n hx hb dX0_told_20 rfl (lv_at hl 1 rfl) ?_
  refine va_csv (W.runV (As := [.int (nI i)]) (rest := []) ⟨hx, hb, hml, hown, hts⟩ (c_refuseAbsent l dC dI h0 c0 w0 kc kw k n fc fv cl su i hi hk) (cwV 1 hts (pt_gV pw104 pw105 pw4 pw17 pw106) rfl rfl rfl (by decide +kernel) ⟨Nat.le_of_ble_eq_true rfl, Nat.le_of_ble_eq_true rfl⟩) ⟨fun a U g mk q => by obtain ⟨q0, qP, qK⟩ := q; exact ⟨q0, qP, va_K.moved (u := U) (U := U.calling g mk a) (Vm.Alike.refl U.vm) qK⟩, va_recv hK hP (ci := 0) (q0 := 0) rfl rfl, fun U hU hW => ⟨rfl, by rw [hU]; exact hP, va_K.moved hW.alike hK⟩⟩ rfl rfl hl.1 rfl (lv_room (Nat.le_of_ble_eq_true rfl)) dX0_told_21 ⟨Nat.zero_le _, Nat.zero_le _⟩) (fun hw => ?_)
  refine lv_iload_n hx hb dX0_told_24 rfl (lv_at hl 2 rfl) ?_
  refine lv_if_ne (tgt := 35) hx hb dX0_told_25 (by decide) (fun h3 => ?_) (fun h3 => ?_)
  · refine lv_iload_n hx hb dX0_told_35 rfl (lv_at hl 2 rfl) ?_
    refine lv_iconst (v := 1) hx hb dX0_told_36 (by decide) ?_
    refine lv_icmp_ne (tgt := 47) hx hb dX0_told_37 (by decide) (fun h4 => ?_) (fun h4 => ?_)
    · refine lv_aload_n hx hb dX0_told_47 rfl (lv_at hl 0 rfl) ?_
      refine va_get (D := (dC, dI)) (ci := 0) (v := .int (nI n)) (C := RX0) (T := TX0) (N := 7) hx hb hts (fun w h => List.mem_cons_of_mem _ (pt_wsX0 w h)) hown hK hP 0 rfl rfl 3 (by decide) (hts _ (List.mem_cons_of_mem _ pw35)) (fun _ h9 => h9) rfl dX0_told_48 ?_
      refine lv_aload_n hx hb dX0_told_51 rfl (lv_at hl 0 rfl) ?_
      refine va_get (D := (dC, dI)) (ci := 0) (v := .ref c0) (C := RX0) (T := TX0) (N := 7) hx hb hts (fun w h => List.mem_cons_of_mem _ (pt_wsX0 w h)) hown hK hP 0 rfl rfl 0 (by decide) (hts _ (List.mem_cons_of_mem _ pw32)) (fun _ h9 => h9) rfl dX0_told_52 ?_
      refine lv_iload_n hx hb dX0_told_55 rfl (lv_at hl 1 rfl) ?_
      refine va_lald hx hb hK hP 1 0 rfl rfl (vp_in_nI (by omega) (by decide)) dX0_told_56 ?_
      rw [nI_clamp (by omega)]
      refine vp_callSi (W.runS (As := [.long (fc i)]) (rest := [.int (nI n)]) ⟨hx, hb, hml, hown, hts⟩ (c_bitCount l dC dI (fc i)) (va_cwS 1 hts (pt_gS pw129 pw130 pw19 pw131) rfl rfl rfl (by decide +kernel) ⟨Nat.le_of_ble_eq_true rfl, Nat.le_of_ble_eq_true rfl⟩) ⟨fun a U g mk q => by obtain ⟨q0, qP, qK⟩ := q; exact ⟨q0, qP, va_K.moved (u := U) (U := U.calling g mk a) (Vm.Alike.refl U.vm) qK⟩, fun U hU hW => ⟨rfl, by rw [hU]; exact (hP.sub (ws' := ([] : va_W)) [] rfl), va_K.moved hW.alike (hK.sub (tys' := []) [] rfl)⟩⟩ rfl rfl hl.1 rfl (lv_room (Nat.le_of_ble_eq_true rfl)) dX0_told_57 ⟨Nat.zero_le _, Nat.zero_le _⟩) (fun r2 hw => ?_)
      subst hw
      refine lv_isub hx hb dX0_told_60 ?_
      refine lv_i2l (v := ((nI n) - (pt_bits (fc i))).toInt64) hx hb dX0_told_61 rfl ?_
      rw [← hQ]
      exact W.lret (v := ((nI n) - (pt_bits (fc i))).toInt64) hx hb hr (fun t ht hW => ⟨((nI n) - (pt_bits (fc i))).toInt64, rfl, by rw [if_neg h3, if_neg h4], ht⟩) t_nil dX0_told_62
    · refine lv_aload_n hx hb dX0_told_40 rfl (lv_at hl 0 rfl) ?_
      refine va_get (D := (dC, dI)) (ci := 0) (v := .ref w0) (C := RX0) (T := TX0) (N := 7) hx hb hts (fun w h => List.mem_cons_of_mem _ (pt_wsX0 w h)) hown hK hP 0 rfl rfl 1 (by decide) (hts _ (List.mem_cons_of_mem _ pw33)) (fun _ h9 => h9) rfl dX0_told_41 ?_
      refine lv_iload_n hx hb dX0_told_44 rfl (lv_at hl 1 rfl) ?_
      refine va_lald hx hb hK hP 2 1 rfl rfl (vp_in_nI (by omega) (by decide)) dX0_told_45 ?_
      rw [nI_clamp (by omega)]
      rw [← hQ]
      exact W.lret (v := fv i) hx hb hr (fun t ht hW => ⟨fv i, rfl, by rw [if_neg h3, if_pos h4], ht⟩) t_nil dX0_told_46
  · refine lv_aload_n hx hb dX0_told_28 rfl (lv_at hl 0 rfl) ?_
    refine va_get (D := (dC, dI)) (ci := 0) (v := .ref c0) (C := RX0) (T := TX0) (N := 7) hx hb hts (fun w h => List.mem_cons_of_mem _ (pt_wsX0 w h)) hown hK hP 0 rfl rfl 0 (by decide) (hts _ (List.mem_cons_of_mem _ pw32)) (fun _ h9 => h9) rfl dX0_told_29 ?_
    refine lv_iload_n hx hb dX0_told_32 rfl (lv_at hl 1 rfl) ?_
    refine va_lald hx hb hK hP 1 0 rfl rfl (vp_in_nI (by omega) (by decide)) dX0_told_33 ?_
    rw [nI_clamp (by omega)]
    rw [← hQ]
    exact W.lret (v := fc i) hx hb hr (fun t ht hW => ⟨fc i, rfl, by rw [if_pos h3], ht⟩) t_nil dX0_told_34
set_option maxHeartbeats 4000000 in
set_option maxRecDepth 100000 in
/-- told(i, what): bad -/
theorem t_told_bad (l : Launch) (hl9 : l.stackTraces = false) (dC : Nat → ClassId) (dI : Nat → Nat → Nat) (s0 : State) (h0X : pt_X s0) (h0 c0 w0 : Nat) (kc kw : ClassId) (k n : Nat) (fc fv : Nat → Int64) (cl su : Int32) (y x : Int32) (sz : Nat) (hbad : x < 0 ∨ ¬ x ≤ 2) : pt_Thr l yX0_told wsX0_told ({ frames := 6, cells := 1, slots := 6, locals := 82 }) (va_Pc [.ref h0, .int y, .int x] (fun U => U.heap.size = sz ∧ va_P (dC, dI) vwCl [(h0, .inr (0, [.ref c0, .ref w0, .int (nI k), .int (nI n), .long (pt_mk n), .int cl, .int su])), (c0, .inl (kc, 512, .inr (.inl fc))), (w0, .inl (kw, 512, .inr (.inl fv)))] U.heap ∧ va_K (dC, dI) vwCl [(kc, .long), (kw, .long)] U ∧ va_D (fun q => s0.heap.size ≤ q) [(h0, .inr (0, [.ref c0, .ref w0, .int (nI k), .int (nI n), .long (pt_mk n), .int cl, .int su])), (c0, .inl (kc, 512, .inr (.inl fc))), (w0, .inl (kw, 512, .inr (.inl fv)))] ∧ pt_ext s0 U)) "java/lang/IllegalArgumentException" (fun st t => va_P (dC, dI) vwCl [(h0, .inr (0, [.ref c0, .ref w0, .int (nI k), .int (nI n), .long (pt_mk n), .int cl, .int su])), (c0, .inl (kc, 512, .inr (.inl fc))), (w0, .inl (kw, 512, .inr (.inl fv)))] t.heap ∧ va_K (dC, dI) vwCl [(kc, .long), (kw, .long)] t ∧ va_D (va_A [(h0, .inr (0, [.ref c0, .ref w0, .int (nI k), .int (nI n), .long (pt_mk n), .int cl, .int su])), (c0, .inl (kc, 512, .inr (.inl fc))), (w0, .inl (kw, 512, .inr (.inl fv)))] sz) [(h0, .inr (0, [.ref c0, .ref w0, .int (nI k), .int (nI n), .long (pt_mk n), .int cl, .int su])), (c0, .inl (kc, 512, .inr (.inl fc))), (w0, .inl (kw, 512, .inr (.inl fv)))] ∧ va_F (va_A [(h0, .inr (0, [.ref c0, .ref w0, .int (nI k), .int (nI n), .long (pt_mk n), .int cl, .int su])), (c0, .inl (kc, 512, .inr (.inl fc))), (w0, .inl (kw, 512, .inr (.inl fv)))] sz) st t) 1 6 (va_A [(h0, .inr (0, [.ref c0, .ref w0, .int (nI k), .int (nI n), .long (pt_mk n), .int cl, .int su])), (c0, .inl (kc, 512, .inr (.inl fc))), (w0, .inl (kw, 512, .inr (.inl fv)))] sz) := by
  refine pt_Thr_ofW (cc := cX0_told) (maxL := 3) (ret := (some .long)) (by decide) rfl ?_
  intro p e s m args below meth c s₁ B hml hnoh hv
  obtain ⟨ha, hsz, hP, hK, hD0, hext⟩ := hv
  subst hsz
  have hx := B.exec
  have hb := B.bytes
  have hr := B.returns
  have hts := atoms_spec (ws := wsX0_told) B.pre
  have hown : s.vm.findClass RX0 = some m.cls := findClass_of_methodNamed B.named
  have hlocks := B.notSynchronized
  have hl := lv_entry ([.ref h0, .int y, .int x]) (n := 3) (Nat.le_of_ble_eq_true rfl)
  refine W.eq (show entryFrame m args 3 = entryFrame m ([.ref h0, .int y, .int x] : List Value).toArray 3 by rw [ha]) ?_
  rw [lg_entry_eq]
  generalize (lg_sl ([.ref h0, .int y, .int x]) ++ List.replicate (3 - (lg_sl ([.ref h0, .int y, .int x])).length) Slot.unset).toArray = ls at hl ⊢
  have hl : lv_has ls 3 [(0, .ref h0), (1, .int y), (2, .int x)] := hl
  have hD := hD0.self (sz := s.heap.size)
  have hAs : ∀ q : Nat, va_A [(h0, .inr (0, [.ref c0, .ref w0, .int (nI k), .int (nI n), .long (pt_mk n), .int cl, .int su])), (c0, .inl (kc, 512, .inr (.inl fc))), (w0, .inl (kw, 512, .inr (.inl fv)))] s.heap.size q → s0.heap.size ≤ q := pt_As hD0 hext.2.1
  generalize hAe : va_A [(h0, .inr (0, [.ref c0, .ref w0, .int (nI k), .int (nI n), .long (pt_mk n), .int cl, .int su])), (c0, .inl (kc, 512, .inr (.inl fc))), (w0, .inl (kw, 512, .inr (.inl fv)))] s.heap.size = A at hD hAs ⊢
  have hA : ∀ q : Nat, s.heap.size ≤ q → A q := fun q h => by rw [← hAe]; exact Or.inr h
  have hS : va_S A s.heap s.heap [] := va_S.rf
  have hP : va_P (dC, dI) vwCl [(h0, .inr (0, [.ref c0, .ref w0, .int (nI k), .int (nI n), .long (pt_mk n), .int cl, .int su])), (c0, .inl (kc, 512, .inr (.inl fc))), (w0, .inl (kw, 512, .inr (.inl fv)))] s.heap := hP
  generalize hQ : pt_TQ below "java/lang/IllegalArgumentException" (fun st t => va_P (dC, dI) vwCl [(h0, .inr (0, [.ref c0, .ref w0, .int (nI k), .int (nI n), .long (pt_mk n), .int cl, .int su])), (c0, .inl (kc, 512, .inr (.inl fc))), (w0, .inl (kw, 512, .inr (.inl fv)))] t.heap ∧ va_K (dC, dI) vwCl [(kc, .long), (kw, .long)] t ∧ va_D A [(h0, .inr (0, [.ref c0, .ref w0, .int (nI k), .int (nI n), .long (pt_mk n), .int cl, .int su])), (c0, .inl (kc, 512, .inr (.inl fc))), (w0, .inl (kw, 512, .inr (.inl fv)))] ∧ va_F A st t) s 1 6 A = Q
  refine lv_iload_n hx hb dX0_told_0 rfl (lv_at hl 2 rfl) ?_
  refine lv_if_lt (tgt := 9) hx hb dX0_told_1 (by decide) (fun h1 => ?_) (fun h1 => ?_)
  · obtain ⟨sa, hstr⟩ := h0X.2.1 85 "what is 0, 1 or 2" (by decide)
    rw [← hQ]
    exact pt_throwS (own := RX0) (cls := "java/lang/IllegalArgumentException") (text := "what is 0, 1 or 2") (names := ["java/lang/RuntimeException", "java/lang/Exception"]) (ik := 37) (is := 85) (ic := 41) (sa := sa) hx hb hl9 hown (by decide) (by decide) (fun U hU hV w hw => pt_X_at h0X (hext.on hS hAs hU hV) w (pt_xw_in_iae w hw) _) (vk_R.warm hext.1 hstr) (hl.1.trans hml.symm) dX0_told_9 dX0_told_12 dX0_told_13 dX0_told_15 dX0_told_18 hnoh (by decide) (by decide) (by decide) (by decide) hlocks (fun t hW hz hk => ⟨hP.kept (fun k q hq => hk _ ((hP k q hq).lt)), va_K.moved hW.alike hK, hD, pt_S_thrown hS hz hk⟩) hS.2.2 (by decide) (by decide)
  · refine lv_iload_n hx hb dX0_told_4 rfl (lv_at hl 2 rfl) ?_
    refine lv_iconst (v := 2) hx hb dX0_told_5 (by decide) ?_
    refine lv_icmp_le (tgt := 19) hx hb dX0_told_6 (by decide) (fun h2 => (hbad.elim (fun z => absurd z h1) (fun z => absurd h2 z))) (fun h2 => ?_)
    obtain ⟨sa, hstr⟩ := h0X.2.1 85 "what is 0, 1 or 2" (by decide)
    rw [← hQ]
    exact pt_throwS (own := RX0) (cls := "java/lang/IllegalArgumentException") (text := "what is 0, 1 or 2") (names := ["java/lang/RuntimeException", "java/lang/Exception"]) (ik := 37) (is := 85) (ic := 41) (sa := sa) hx hb hl9 hown (by decide) (by decide) (fun U hU hV w hw => pt_X_at h0X (hext.on hS hAs hU hV) w (pt_xw_in_iae w hw) _) (vk_R.warm hext.1 hstr) (hl.1.trans hml.symm) dX0_told_9 dX0_told_12 dX0_told_13 dX0_told_15 dX0_told_18 hnoh (by decide) (by decide) (by decide) (by decide) hlocks (fun t hW hz hk => ⟨hP.kept (fun k q hq => hk _ ((hP k q hq).lt)), va_K.moved hW.alike hK, hD, pt_S_thrown hS hz hk⟩) hS.2.2 (by decide) (by decide)
set_option maxHeartbeats 4000000 in
set_option maxRecDepth 100000 in
/-- told(i, what): not there -/
theorem t_told_abs (l : Launch) (hl9 : l.stackTraces = false) (dC : Nat → ClassId) (dI : Nat → Nat → Nat) (s0 : State) (h0X : pt_X s0) (h0 c0 w0 : Nat) (kc kw : ClassId) (k n : Nat) (fc fv : Nat → Int64) (cl su : Int32) (y x : Int32) (sz : Nat) (hw1 : ¬ x < 0) (hw2 : x ≤ 2) (hab : y < 0 ∨ ¬ y < nI k) : pt_Thr l yX0_told wsX0_told ({ frames := 7, cells := 1, slots := 6, locals := 103 }) (va_Pc [.ref h0, .int y, .int x] (fun U => U.heap.size = sz ∧ va_P (dC, dI) vwCl [(h0, .inr (0, [.ref c0, .ref w0, .int (nI k), .int (nI n), .long (pt_mk n), .int cl, .int su])), (c0, .inl (kc, 512, .inr (.inl fc))), (w0, .inl (kw, 512, .inr (.inl fv)))] U.heap ∧ va_K (dC, dI) vwCl [(kc, .long), (kw, .long)] U ∧ va_D (fun q => s0.heap.size ≤ q) [(h0, .inr (0, [.ref c0, .ref w0, .int (nI k), .int (nI n), .long (pt_mk n), .int cl, .int su])), (c0, .inl (kc, 512, .inr (.inl fc))), (w0, .inl (kw, 512, .inr (.inl fv)))] ∧ pt_ext s0 U)) "java/util/NoSuchElementException" (fun st t => va_P (dC, dI) vwCl [(h0, .inr (0, [.ref c0, .ref w0, .int (nI k), .int (nI n), .long (pt_mk n), .int cl, .int su])), (c0, .inl (kc, 512, .inr (.inl fc))), (w0, .inl (kw, 512, .inr (.inl fv)))] t.heap ∧ va_K (dC, dI) vwCl [(kc, .long), (kw, .long)] t ∧ va_D (va_A [(h0, .inr (0, [.ref c0, .ref w0, .int (nI k), .int (nI n), .long (pt_mk n), .int cl, .int su])), (c0, .inl (kc, 512, .inr (.inl fc))), (w0, .inl (kw, 512, .inr (.inl fv)))] sz) [(h0, .inr (0, [.ref c0, .ref w0, .int (nI k), .int (nI n), .long (pt_mk n), .int cl, .int su])), (c0, .inl (kc, 512, .inr (.inl fc))), (w0, .inl (kw, 512, .inr (.inl fv)))] ∧ va_F (va_A [(h0, .inr (0, [.ref c0, .ref w0, .int (nI k), .int (nI n), .long (pt_mk n), .int cl, .int su])), (c0, .inl (kc, 512, .inr (.inl fc))), (w0, .inl (kw, 512, .inr (.inl fv)))] sz) st t) 1 6 (va_A [(h0, .inr (0, [.ref c0, .ref w0, .int (nI k), .int (nI n), .long (pt_mk n), .int cl, .int su])), (c0, .inl (kc, 512, .inr (.inl fc))), (w0, .inl (kw, 512, .inr (.inl fv)))] sz) := by
  refine pt_Thr_ofW (cc := cX0_told) (maxL := 3) (ret := (some .long)) (by decide) rfl ?_
  intro p e s m args below meth c s₁ B hml hnoh hv
  obtain ⟨ha, hsz, hP, hK, hD0, hext⟩ := hv
  subst hsz
  have hx := B.exec
  have hb := B.bytes
  have hr := B.returns
  have hts := atoms_spec (ws := wsX0_told) B.pre
  have hown : s.vm.findClass RX0 = some m.cls := findClass_of_methodNamed B.named
  have hlocks := B.notSynchronized
  have hl := lv_entry ([.ref h0, .int y, .int x]) (n := 3) (Nat.le_of_ble_eq_true rfl)
  refine W.eq (show entryFrame m args 3 = entryFrame m ([.ref h0, .int y, .int x] : List Value).toArray 3 by rw [ha]) ?_
  rw [lg_entry_eq]
  generalize (lg_sl ([.ref h0, .int y, .int x]) ++ List.replicate (3 - (lg_sl ([.ref h0, .int y, .int x])).length) Slot.unset).toArray = ls at hl ⊢
  have hl : lv_has ls 3 [(0, .ref h0), (1, .int y), (2, .int x)] := hl
  have hD := hD0.self (sz := s.heap.size)
  have hAs : ∀ q : Nat, va_A [(h0, .inr (0, [.ref c0, .ref w0, .int (nI k), .int (nI n), .long (pt_mk n), .int cl, .int su])), (c0, .inl (kc, 512, .inr (.inl fc))), (w0, .inl (kw, 512, .inr (.inl fv)))] s.heap.size q → s0.heap.size ≤ q := pt_As hD0 hext.2.1
  generalize hAe : va_A [(h0, .inr (0, [.ref c0, .ref w0, .int (nI k), .int (nI n), .long (pt_mk n), .int cl, .int su])), (c0, .inl (kc, 512, .inr (.inl fc))), (w0, .inl (kw, 512, .inr (.inl fv)))] s.heap.size = A at hD hAs ⊢
  have hA : ∀ q : Nat, s.heap.size ≤ q → A q := fun q h => by rw [← hAe]; exact Or.inr h
  have hS : va_S A s.heap s.heap [] := va_S.rf
  have hP : va_P (dC, dI) vwCl [(h0, .inr (0, [.ref c0, .ref w0, .int (nI k), .int (nI n), .long (pt_mk n), .int cl, .int su])), (c0, .inl (kc, 512, .inr (.inl fc))), (w0, .inl (kw, 512, .inr (.inl fv)))] s.heap := hP
  generalize hQ : pt_TQ below "java/util/NoSuchElementException" (fun st t => va_P (dC, dI) vwCl [(h0, .inr (0, [.ref c0, .ref w0, .int (nI k), .int (nI n), .long (pt_mk n), .int cl, .int su])), (c0, .inl (kc, 512, .inr (.inl fc))), (w0, .inl (kw, 512, .inr (.inl fv)))] t.heap ∧ va_K (dC, dI) vwCl [(kc, .long), (kw, .long)] t ∧ va_D A [(h0, .inr (0, [.ref c0, .ref w0, .int (nI k), .int (nI n), .long (pt_mk n), .int cl, .int su])), (c0, .inl (kc, 512, .inr (.inl fc))), (w0, .inl (kw, 512, .inr (.inl fv)))] ∧ va_F A st t) s 1 6 A = Q
  refine lv_iload_n hx hb dX0_told_0 rfl (lv_at hl 2 rfl) ?_
  refine lv_if_lt (tgt := 9) hx hb dX0_told_1 (by decide) (fun h1 => absurd h1 hw1) (fun h1 => ?_)
  refine lv_iload_n hx hb dX0_told_4 rfl (lv_at hl 2 rfl) ?_
  refine lv_iconst (v := 2) hx hb dX0_told_5 (by decide) ?_
  refine lv_icmp_le (tgt := 19) hx hb dX0_told_6 (by decide) (fun h2 => ?_) (fun h2 => absurd hw2 h2)
  refine lv_aload_n hx hb dX0_told_19 rfl (lv_at hl 0 rfl) ?_
  refine lv_iload_n hx hb dX0_told_20 rfl (lv_at hl 1 rfl) ?_
  rw [← hQ, ← hAe]
  exact pt_out (pt_runT (As := [.int y]) (rest := []) ⟨hx, hb, hml, hown, hts⟩ (t_refuseAbsent l hl9 dC dI s0 h0X h0 c0 w0 kc kw k n fc fv cl su y s.heap.size hab) (cwV 1 hts (pt_gV pw104 pw105 pw4 pw17 pw106) rfl rfl rfl (by decide +kernel) ⟨Nat.le_of_ble_eq_true rfl, Nat.le_of_ble_eq_true rfl⟩) ⟨fun a U g mk q => by obtain ⟨q0, q1, qP, qK, qD, qX⟩ := q; exact ⟨q0, q1, qP, va_K.moved (u := U) (U := U.calling g mk a) (Vm.Alike.refl U.vm) qK, qD, qX⟩, va_recv hK hP (ci := 0) (q0 := 0) rfl rfl, fun U hU hW => ⟨rfl, by rw [hU], by rw [hU]; exact hP, va_K.moved hW.alike hK, hD0, hext.same hU hW⟩⟩ rfl rfl hl.1 rfl (lv_room (Nat.le_of_ble_eq_true rfl)) dX0_told_21 ⟨by decide, by decide⟩) hnoh hlocks (fun st t t2 h1 h2 h3 h4 h5 => ⟨by rw [h4]; exact h3.1, va_K.moved (by rw [h5]; exact Vm.Alike.refl _) h3.2.1, h3.2.2.1, pt_F_same h1 h4 h3.2.2.2⟩) t_nil (fun _ h => h) (by decide) (by decide)
set_option maxHeartbeats 4000000 in
set_option maxRecDepth 100000 in
/-- count(what) -/
theorem c_count (l : Launch) (dC : Nat → ClassId) (dI : Nat → Nat → Nat) (h0 c0 w0 : Nat) (kc kw : ClassId) (k n : Nat) (fc fv : Nat → Int64) (cl su : Int32) (x : Int32)  : Met l yX0_count wsX0_count ({ frames := 0, cells := 0, slots := 0, locals := 0 }) (va_Pc [.ref h0, .int x] (fun U => va_P (dC, dI) vwCl [(h0, .inr (0, [.ref c0, .ref w0, .int (nI k), .int (nI n), .long (pt_mk n), .int cl, .int su])), (c0, .inl (kc, 512, .inr (.inl fc))), (w0, .inl (kw, 512, .inr (.inl fv)))] U.heap ∧ va_K (dC, dI) vwCl [(kc, .long), (kw, .long)] U)) (vp_Si (fun r : Int32 => r = (if x = 0 then nI k else if x = 1 then nI n else if x = 2 then cl else if x = 3 then su else -1))) 0 0 (fun _ => False) := by
  refine Met.ofW (cc := cX0_count) (maxL := 2) (ret := (some .int)) (by decide) rfl ?_
  intro p e s m args below meth c s₁ B hml hv
  obtain ⟨ha, hP, hK⟩ := hv
  have hx := B.exec
  have hb := B.bytes
  have hr := B.returns
  have hts := atoms_spec (ws := wsX0_count) B.pre
  have hown : s.vm.findClass RX0 = some m.cls := findClass_of_methodNamed B.named
  have hlocks := B.notSynchronized
  have hl := lv_entry ([.ref h0, .int x]) (n := 2) (Nat.le_of_ble_eq_true rfl)
  refine W.eq (show entryFrame m args 2 = entryFrame m ([.ref h0, .int x] : List Value).toArray 2 by rw [ha]) ?_
  rw [lg_entry_eq]
  generalize (lg_sl ([.ref h0, .int x]) ++ List.replicate (2 - (lg_sl ([.ref h0, .int x])).length) Slot.unset).toArray = ls at hl ⊢
  have hl : lv_has ls 2 [(0, .ref h0), (1, .int x)] := hl
  generalize hQ : MQ below (vp_Si (fun r : Int32 => r = (if x = 0 then nI k else if x = 1 then nI n else if x = 2 then cl else if x = 3 then su else -1))) args s 0 0 (fun _ => False) = Q
  refine lv_iload_n hx hb dX0_count_0 rfl (lv_at hl 1 rfl) ?_
  by_cases c0 : x = 0
  · refine lv_tableIn (off := 31) (tgt := 32) hx hb dX0_count_1 (by rw [c0]; decide) (by rw [c0]; decide) (by rw [c0]; decide) (by decide) ?_
    refine lv_aload_n hx hb dX0_count_32 rfl (lv_at hl 0 rfl) ?_
    refine va_get (D := (dC, dI)) (ci := 0) (v := .int (nI k)) (C := RX0) (T := TX0) (N := 7) hx hb hts (fun w h => List.mem_cons_of_mem _ (pt_wsX0 w h)) hown hK hP 0 rfl rfl 2 (by decide) (hts _ (List.mem_cons_of_mem _ pw34)) (fun _ h9 => h9) rfl dX0_count_33 ?_
    rw [← hQ]
    exact W.iret (v := nI k) hx hb hr (fun t ht hW => ⟨nI k, rfl, by rw [if_pos c0], ht⟩) t_nil dX0_count_36
  by_cases c1 : x = 1
  · refine lv_tableIn (off := 36) (tgt := 37) hx hb dX0_count_1 (by rw [c1]; decide) (by rw [c1]; decide) (by rw [c1]; decide) (by decide) ?_
    refine lv_aload_n hx hb dX0_count_37 rfl (lv_at hl 0 rfl) ?_
    refine va_get (D := (dC, dI)) (ci := 0) (v := .int (nI n)) (C := RX0) (T := TX0) (N := 7) hx hb hts (fun w h => List.mem_cons_of_mem _ (pt_wsX0 w h)) hown hK hP 0 rfl rfl 3 (by decide) (hts _ (List.mem_cons_of_mem _ pw35)) (fun _ h9 => h9) rfl dX0_count_38 ?_
    rw [← hQ]
    exact W.iret (v := nI n) hx hb hr (fun t ht hW => ⟨nI n, rfl, by rw [if_neg c0, if_pos c1], ht⟩) t_nil dX0_count_41
  by_cases c2 : x = 2
  · refine lv_tableIn (off := 41) (tgt := 42) hx hb dX0_count_1 (by rw [c2]; decide) (by rw [c2]; decide) (by rw [c2]; decide) (by decide) ?_
    refine lv_aload_n hx hb dX0_count_42 rfl (lv_at hl 0 rfl) ?_
    refine va_get (D := (dC, dI)) (ci := 0) (v := .int cl) (C := RX0) (T := TX0) (N := 7) hx hb hts (fun w h => List.mem_cons_of_mem _ (pt_wsX0 w h)) hown hK hP 0 rfl rfl 5 (by decide) (hts _ (List.mem_cons_of_mem _ pw37)) (fun _ h9 => h9) rfl dX0_count_43 ?_
    rw [← hQ]
    exact W.iret (v := cl) hx hb hr (fun t ht hW => ⟨cl, rfl, by rw [if_neg c0, if_neg c1, if_pos c2], ht⟩) t_nil dX0_count_46
  by_cases c3 : x = 3
  · refine lv_tableIn (off := 46) (tgt := 47) hx hb dX0_count_1 (by rw [c3]; decide) (by rw [c3]; decide) (by rw [c3]; decide) (by decide) ?_
    refine lv_aload_n hx hb dX0_count_47 rfl (lv_at hl 0 rfl) ?_
    refine va_get (D := (dC, dI)) (ci := 0) (v := .int su) (C := RX0) (T := TX0) (N := 7) hx hb hts (fun w h => List.mem_cons_of_mem _ (pt_wsX0 w h)) hown hK hP 0 rfl rfl 6 (by decide) (hts _ (List.mem_cons_of_mem _ pw38)) (fun _ h9 => h9) rfl dX0_count_48 ?_
    rw [← hQ]
    exact W.iret (v := su) hx hb hr (fun t ht hW => ⟨su, rfl, by rw [if_neg c0, if_neg c1, if_neg c2, if_pos c3], ht⟩) t_nil dX0_count_51
  have q0 := lv_neT c0 (show (0 : Int32).toInt = 0 by decide)
  have q1 := lv_neT c1 (show (1 : Int32).toInt = 1 by decide)
  have q2 := lv_neT c2 (show (2 : Int32).toInt = 2 by decide)
  have q3 := lv_neT c3 (show (3 : Int32).toInt = 3 by decide)
  refine lv_tableOut (tgt := 52) hx hb dX0_count_1 (by omega) (by decide) ?_
  refine lv_iconst (v := (-1)) hx hb dX0_count_52 (by decide) ?_
  rw [← hQ]
  exact W.iret (v := (-1)) hx hb hr (fun t ht hW => ⟨(-1), rfl, by rw [if_neg c0, if_neg c1, if_neg c2, if_neg c3], ht⟩) t_nil dX0_count_53
end
section
set_option maxHeartbeats 4000000 in
set_option maxRecDepth 100000 in
/-- the reference: fail(k) -/
theorem c_fail (l : Launch) (dC : Nat → ClassId) (dI : Nat → Nat → Nat) (g0 a0 b0 : Nat) (ja jb : ClassId) (k9 n9 : Int32) (fc fv : Nat → Int64) (cl su th : Int32) (x : Int32) (sz : Nat)  : Met l yX1_fail wsX1_fail ({ frames := 0, cells := 0, slots := 0, locals := 0 }) (va_Pc [.ref g0, .int x] (fun U => U.heap.size = sz ∧ va_P (dC, dI) vwCl [(g0, .inr (1, [.ref a0, .ref b0, .int k9, .int n9, .int cl, .int su, .int th])), (a0, .inl (ja, 512, .inr (.inl fc))), (b0, .inl (jb, 512, .inr (.inl fv)))] U.heap ∧ va_K (dC, dI) vwCl [(ja, .long), (jb, .long)] U ∧ va_D (fun _ => True) [(g0, .inr (1, [.ref a0, .ref b0, .int k9, .int n9, .int cl, .int su, .int th])), (a0, .inl (ja, 512, .inr (.inl fc))), (b0, .inl (jb, 512, .inr (.inl fv)))])) (va_Qi (fun (r : Int32) _ => r = 0) (fun (u : Unit) (t : State) => match u with | _ => va_P (dC, dI) vwCl [(g0, .inr (1, [.ref a0, .ref b0, .int k9, .int n9, .int cl, .int su, .int x])), (a0, .inl (ja, 512, .inr (.inl fc))), (b0, .inl (jb, 512, .inr (.inl fv)))] t.heap ∧ va_K (dC, dI) vwCl [(ja, .long), (jb, .long)] t ∧ va_D (va_A [(g0, .inr (1, [.ref a0, .ref b0, .int k9, .int n9, .int cl, .int su, .int th])), (a0, .inl (ja, 512, .inr (.inl fc))), (b0, .inl (jb, 512, .inr (.inl fv)))] sz) [(g0, .inr (1, [.ref a0, .ref b0, .int k9, .int n9, .int cl, .int su, .int x])), (a0, .inl (ja, 512, .inr (.inl fc))), (b0, .inl (jb, 512, .inr (.inl fv)))]) (va_A [(g0, .inr (1, [.ref a0, .ref b0, .int k9, .int n9, .int cl, .int su, .int th])), (a0, .inl (ja, 512, .inr (.inl fc))), (b0, .inl (jb, 512, .inr (.inl fv)))] sz)) 0 0 (va_A [(g0, .inr (1, [.ref a0, .ref b0, .int k9, .int n9, .int cl, .int su, .int th])), (a0, .inl (ja, 512, .inr (.inl fc))), (b0, .inl (jb, 512, .inr (.inl fv)))] sz) := by
  refine Met.ofW (cc := cX1_fail) (maxL := 2) (ret := (some .int)) (by decide) rfl ?_
  intro p e s m args below meth c s₁ B hml hv
  obtain ⟨ha, hsz, hP, hK, hD0⟩ := hv
  subst hsz
  have hx := B.exec
  have hb := B.bytes
  have hr := B.returns
  have hts := atoms_spec (ws := wsX1_fail) B.pre
  have hown : s.vm.findClass RX1 = some m.cls := findClass_of_methodNamed B.named
  have hlocks := B.notSynchronized
  have hl := lv_entry ([.ref g0, .int x]) (n := 2) (Nat.le_of_ble_eq_true rfl)
  refine W.eq (show entryFrame m args 2 = entryFrame m ([.ref g0, .int x] : List Value).toArray 2 by rw [ha]) ?_
  rw [lg_entry_eq]
  generalize (lg_sl ([.ref g0, .int x]) ++ List.replicate (2 - (lg_sl ([.ref g0, .int x])).length) Slot.unset).toArray = ls at hl ⊢
  have hl : lv_has ls 2 [(0, .ref g0), (1, .int x)] := hl
  have hD := hD0.self (sz := s.heap.size)
  generalize hAe : va_A [(g0, .inr (1, [.ref a0, .ref b0, .int k9, .int n9, .int cl, .int su, .int th])), (a0, .inl (ja, 512, .inr (.inl fc))), (b0, .inl (jb, 512, .inr (.inl fv)))] s.heap.size = A at hD ⊢
  have hA : ∀ q : Nat, s.heap.size ≤ q → A q := fun q h => by rw [← hAe]; exact Or.inr h
  have hS : va_S A s.heap s.heap [] := va_S.rf
  generalize hQ : MQ below (va_Qi (fun (r : Int32) _ => r = 0) (fun (u : Unit) (t : State) => match u with | _ => va_P (dC, dI) vwCl [(g0, .inr (1, [.ref a0, .ref b0, .int k9, .int n9, .int cl, .int su, .int x])), (a0, .inl (ja, 512, .inr (.inl fc))), (b0, .inl (jb, 512, .inr (.inl fv)))] t.heap ∧ va_K (dC, dI) vwCl [(ja, .long), (jb, .long)] t ∧ va_D A [(g0, .inr (1, [.ref a0, .ref b0, .int k9, .int n9, .int cl, .int su, .int x])), (a0, .inl (ja, 512, .inr (.inl fc))), (b0, .inl (jb, 512, .inr (.inl fv)))]) A) args s 0 0 A = Q
  have hP : va_P (dC, dI) vwCl [(g0, .inr (1, [.ref a0, .ref b0, .int k9, .int n9, .int cl, .int su, .int th])), (a0, .inl (ja, 512, .inr (.inl fc))), (b0, .inl (jb, 512, .inr (.inl fv)))] s.heap := hP
  refine lv_aload_n hx hb dX1_fail_0 rfl (lv_at hl 0 rfl) ?_
  refine lv_iload_n hx hb dX1_fail_1 rfl (lv_at hl 1 rfl) ?_
  refine va_put (D := (dC, dI)) (ci := 1) (v := .int x) (ty := .int) (C := RX1) (T := TX1) (N := 7) hx hb hts (fun w h => List.mem_cons_of_mem _ (pt_wsX1 w h)) tyX1 tyX1_ok nmX1 hown hK hP hD hS 0 rfl rfl 6 (by decide) (hts _ (List.mem_cons_of_mem _ pw167)) (fun _ h9 => h9) rfl (by decide +kernel) rfl rfl (Nat.le_of_ble_eq_true rfl) dX1_fail_2 (fun H locs hP hD hS => ?_)
  have hP : va_P (dC, dI) vwCl [(g0, .inr (1, [.ref a0, .ref b0, .int k9, .int n9, .int cl, .int su, .int x])), (a0, .inl (ja, 512, .inr (.inl fc))), (b0, .inl (jb, 512, .inr (.inl fv)))] H := hP
  have hD : va_D A [(g0, .inr (1, [.ref a0, .ref b0, .int k9, .int n9, .int cl, .int su, .int x])), (a0, .inl (ja, 512, .inr (.inl fc))), (b0, .inl (jb, 512, .inr (.inl fv)))] := hD
  refine lv_iconst (v := 0) hx hb dX1_fail_5 (by decide) ?_
  rw [← hQ]
  exact W.iret (v := 0) hx hb hr (fun t ht hW => ⟨⟨0, (), rfl, rfl, by rw [ht]; exact hP, va_K.moved hW.alike hK, hD⟩, hS.F ht⟩) hS.2.2 dX1_fail_6
set_option maxHeartbeats 4000000 in
set_option maxRecDepth 100000 in
/-- PatternTreeModel() -/
theorem c_minit (l : Launch) (dC : Nat → ClassId) (dI : Nat → Nat → Nat) (g0 : Nat) (sz : Nat)  : Met l yX1_init wsX1_init ({ frames := 1, cells := 2, slots := 1024, locals := 20 }) (va_Pc [.ref g0] (fun U => U.heap.size = sz ∧ va_P (dC, dI) vwCl [(g0, .inr (1, [.null, .null, .int 0, .int 0, .int 0, .int 0, .int 0]))] U.heap ∧ va_K (dC, dI) vwCl [] U ∧ va_D (fun _ => True) [(g0, .inr (1, [.null, .null, .int 0, .int 0, .int 0, .int 0, .int 0]))])) (va_Qv (fun _ => True) (fun (u : Nat × Nat × ClassId × ClassId) (t : State) => match u with | (a0, b0, ja, jb) => va_P (dC, dI) vwCl [(g0, .inr (1, [.ref a0, .ref b0, .int 0, .int 32, .int (-1), .int 0, .int 0])), (a0, .inl (ja, 512, .inr (.inl (fun _ => 0)))), (b0, .inl (jb, 512, .inr (.inl (fun _ => 0))))] t.heap ∧ va_K (dC, dI) vwCl [(ja, .long), (jb, .long)] t ∧ va_D (va_A [(g0, .inr (1, [.null, .null, .int 0, .int 0, .int 0, .int 0, .int 0]))] sz) [(g0, .inr (1, [.ref a0, .ref b0, .int 0, .int 32, .int (-1), .int 0, .int 0])), (a0, .inl (ja, 512, .inr (.inl (fun _ => 0)))), (b0, .inl (jb, 512, .inr (.inl (fun _ => 0))))]) (va_A [(g0, .inr (1, [.null, .null, .int 0, .int 0, .int 0, .int 0, .int 0]))] sz)) 2 1024 (va_A [(g0, .inr (1, [.null, .null, .int 0, .int 0, .int 0, .int 0, .int 0]))] sz) := by
  refine Met.ofW (cc := cX1_init) (maxL := 1) (ret := none) (by decide) rfl ?_
  intro p e s m args below meth c s₁ B hml hv
  obtain ⟨ha, hsz, hP, hK, hD0⟩ := hv
  subst hsz
  have hx := B.exec
  have hb := B.bytes
  have hr := B.returns
  have hts := atoms_spec (ws := wsX1_init) B.pre
  have hown : s.vm.findClass RX1 = some m.cls := findClass_of_methodNamed B.named
  have hlocks := B.notSynchronized
  have hl := lv_entry ([.ref g0]) (n := 1) (Nat.le_of_ble_eq_true rfl)
  refine W.eq (show entryFrame m args 1 = entryFrame m ([.ref g0] : List Value).toArray 1 by rw [ha]) ?_
  rw [lg_entry_eq]
  generalize (lg_sl ([.ref g0]) ++ List.replicate (1 - (lg_sl ([.ref g0])).length) Slot.unset).toArray = ls at hl ⊢
  have hl : lv_has ls 1 [(0, .ref g0)] := hl
  have hin : meth.name = "<init>" := (name_of_methodNamed B.named B.method).1
  have hD := hD0.self (sz := s.heap.size)
  generalize hAe : va_A [(g0, .inr (1, [.null, .null, .int 0, .int 0, .int 0, .int 0, .int 0]))] s.heap.size = A at hD ⊢
  have hA : ∀ q : Nat, s.heap.size ≤ q → A q := fun q h => by rw [← hAe]; exact Or.inr h
  have hS : va_S A s.heap s.heap [] := va_S.rf
  generalize hQ : MQ below (va_Qv (fun _ => True) (fun (u : Nat × Nat × ClassId × ClassId) (t : State) => match u with | (a0, b0, ja, jb) => va_P (dC, dI) vwCl [(g0, .inr (1, [.ref a0, .ref b0, .int 0, .int 32, .int (-1), .int 0, .int 0])), (a0, .inl (ja, 512, .inr (.inl (fun _ => 0)))), (b0, .inl (jb, 512, .inr (.inl (fun _ => 0))))] t.heap ∧ va_K (dC, dI) vwCl [(ja, .long), (jb, .long)] t ∧ va_D A [(g0, .inr (1, [.ref a0, .ref b0, .int 0, .int 32, .int (-1), .int 0, .int 0])), (a0, .inl (ja, 512, .inr (.inl (fun _ => 0)))), (b0, .inl (jb, 512, .inr (.inl (fun _ => 0))))]) A) args s 2 1024 A = Q
  have hP : va_P (dC, dI) vwCl [(g0, .inr (1, [.null, .null, .int 0, .int 0, .int 0, .int 0, .int 0]))] s.heap := hP
  refine lv_aload_n hx hb dX1_init_0 rfl (lv_at hl 0 rfl) ?_
  refine W.objInit hx hb hown (hts _ (List.mem_cons_of_mem _ pw160)) (hts _ (List.mem_cons_of_mem _ pw26)) (hts (.code objectInit ⟨#[0xb1]⟩ 1 none) (List.mem_cons_of_mem _ pw27)) rfl (by rw [hml]; exact hl.1) rfl dX1_init_1 (Nat.le_of_ble_eq_true rfl) (Nat.le_of_ble_eq_true rfl) ?_
  refine W.eq (g2 := F0 m 4 ls []) rfl ?_
  refine lv_aload_n hx hb dX1_init_4 rfl (lv_at hl 0 rfl) ?_
  refine lv_sipush (v := 512) hx hb dX1_init_5 (by decide) ?_
  refine va_newa (atype := .long) (N' := 512) (a0 := (512, .inr (.inl (fun _ => 0)))) (ty := .long) (n := 512) hx hb (hts _ (List.mem_cons_of_mem _ pw46)) rfl hK hP hD hS hA (fun _ => rfl) (by decide) (by decide) (by decide) (by decide) (by decide) dX1_init_8 (fun a0 ja H hK hP hD hS => ?_)
  have hP : va_P (dC, dI) vwCl [(g0, .inr (1, [.null, .null, .int 0, .int 0, .int 0, .int 0, .int 0])), (a0, .inl (ja, 512, .inr (.inl (fun _ => 0))))] H := hP
  have hD : va_D A [(g0, .inr (1, [.null, .null, .int 0, .int 0, .int 0, .int 0, .int 0])), (a0, .inl (ja, 512, .inr (.inl (fun _ => 0))))] := hD
  have hK : va_K (dC, dI) vwCl [(ja, .long)] s := hK
  refine va_putF (D := (dC, dI)) (ci := 1) (v := .ref a0) (ty := (.array .long)) (C := RX1) (T := TX1) (N := 7) hx hb hts (fun w h => List.mem_cons_of_mem _ (pt_wsX1 w h)) tyX1 tyX1_ok nmX1 hown hK hP hD hS 0 rfl rfl 0 (by decide) (hts _ (List.mem_cons_of_mem _ pw161)) (fun _ h9 => h9) rfl hin rfl (by decide +kernel) rfl rfl (Nat.le_of_ble_eq_true rfl) dX1_init_10 (fun H locs hP hD hS => ?_)
  have hP : va_P (dC, dI) vwCl [(g0, .inr (1, [.ref a0, .null, .int 0, .int 0, .int 0, .int 0, .int 0])), (a0, .inl (ja, 512, .inr (.inl (fun _ => 0))))] H := hP
  have hD : va_D A [(g0, .inr (1, [.ref a0, .null, .int 0, .int 0, .int 0, .int 0, .int 0])), (a0, .inl (ja, 512, .inr (.inl (fun _ => 0))))] := hD
  refine lv_aload_n hx hb dX1_init_13 rfl (lv_at hl 0 rfl) ?_
  refine lv_sipush (v := 512) hx hb dX1_init_14 (by decide) ?_
  refine va_newa (atype := .long) (N' := 512) (a0 := (512, .inr (.inl (fun _ => 0)))) (ty := .long) (n := 512) hx hb (hts _ (List.mem_cons_of_mem _ pw46)) rfl hK hP hD hS hA (fun _ => rfl) (by decide) (by decide) (by decide) (by decide) (by decide) dX1_init_17 (fun b0 jb H hK hP hD hS => ?_)
  have hP : va_P (dC, dI) vwCl [(g0, .inr (1, [.ref a0, .null, .int 0, .int 0, .int 0, .int 0, .int 0])), (a0, .inl (ja, 512, .inr (.inl (fun _ => 0)))), (b0, .inl (jb, 512, .inr (.inl (fun _ => 0))))] H := hP
  have hD : va_D A [(g0, .inr (1, [.ref a0, .null, .int 0, .int 0, .int 0, .int 0, .int 0])), (a0, .inl (ja, 512, .inr (.inl (fun _ => 0)))), (b0, .inl (jb, 512, .inr (.inl (fun _ => 0))))] := hD
  have hK : va_K (dC, dI) vwCl [(ja, .long), (jb, .long)] s := hK
  refine va_putF (D := (dC, dI)) (ci := 1) (v := .ref b0) (ty := (.array .long)) (C := RX1) (T := TX1) (N := 7) hx hb hts (fun w h => List.mem_cons_of_mem _ (pt_wsX1 w h)) tyX1 tyX1_ok nmX1 hown hK hP hD hS 0 rfl rfl 1 (by decide) (hts _ (List.mem_cons_of_mem _ pw162)) (fun _ h9 => h9) rfl hin rfl (by decide +kernel) rfl rfl (Nat.le_of_ble_eq_true rfl) dX1_init_19 (fun H locs hP hD hS => ?_)
  have hP : va_P (dC, dI) vwCl [(g0, .inr (1, [.ref a0, .ref b0, .int 0, .int 0, .int 0, .int 0, .int 0])), (a0, .inl (ja, 512, .inr (.inl (fun _ => 0)))), (b0, .inl (jb, 512, .inr (.inl (fun _ => 0))))] H := hP
  have hD : va_D A [(g0, .inr (1, [.ref a0, .ref b0, .int 0, .int 0, .int 0, .int 0, .int 0])), (a0, .inl (ja, 512, .inr (.inl (fun _ => 0)))), (b0, .inl (jb, 512, .inr (.inl (fun _ => 0))))] := hD
  refine lv_aload_n hx hb dX1_init_22 rfl (lv_at hl 0 rfl) ?_
  refine lv_bipush (v := 32) hx hb dX1_init_23 (by decide) ?_
  refine va_put (D := (dC, dI)) (ci := 1) (v := .int 32) (ty := .int) (C := RX1) (T := TX1) (N := 7) hx hb hts (fun w h => List.mem_cons_of_mem _ (pt_wsX1 w h)) tyX1 tyX1_ok nmX1 hown hK hP hD hS 0 rfl rfl 3 (by decide) (hts _ (List.mem_cons_of_mem _ pw164)) (fun _ h9 => h9) rfl (by decide +kernel) rfl rfl (Nat.le_of_ble_eq_true rfl) dX1_init_25 (fun H locs hP hD hS => ?_)
  have hP : va_P (dC, dI) vwCl [(g0, .inr (1, [.ref a0, .ref b0, .int 0, .int 32, .int 0, .int 0, .int 0])), (a0, .inl (ja, 512, .inr (.inl (fun _ => 0)))), (b0, .inl (jb, 512, .inr (.inl (fun _ => 0))))] H := hP
  have hD : va_D A [(g0, .inr (1, [.ref a0, .ref b0, .int 0, .int 32, .int 0, .int 0, .int 0])), (a0, .inl (ja, 512, .inr (.inl (fun _ => 0)))), (b0, .inl (jb, 512, .inr (.inl (fun _ => 0))))] := hD
  refine lv_aload_n hx hb dX1_init_28 rfl (lv_at hl 0 rfl) ?_
  refine lv_iconst (v := (-1)) hx hb dX1_init_29 (by decide) ?_
  refine va_put (D := (dC, dI)) (ci := 1) (v := .int (-1)) (ty := .int) (C := RX1) (T := TX1) (N := 7) hx hb hts (fun w h => List.mem_cons_of_mem _ (pt_wsX1 w h)) tyX1 tyX1_ok nmX1 hown hK hP hD hS 0 rfl rfl 4 (by decide) (hts _ (List.mem_cons_of_mem _ pw165)) (fun _ h9 => h9) rfl (by decide +kernel) rfl rfl (Nat.le_of_ble_eq_true rfl) dX1_init_30 (fun H locs hP hD hS => ?_)
  have hP : va_P (dC, dI) vwCl [(g0, .inr (1, [.ref a0, .ref b0, .int 0, .int 32, .int (-1), .int 0, .int 0])), (a0, .inl (ja, 512, .inr (.inl (fun _ => 0)))), (b0, .inl (jb, 512, .inr (.inl (fun _ => 0))))] H := hP
  have hD : va_D A [(g0, .inr (1, [.ref a0, .ref b0, .int 0, .int 32, .int (-1), .int 0, .int 0])), (a0, .inl (ja, 512, .inr (.inl (fun _ => 0)))), (b0, .inl (jb, 512, .inr (.inl (fun _ => 0))))] := hD
  rw [← hQ]
  refine W.widen (k := 2) (n := 1024) (by omega) (by omega) ?_
  exact W.vret hx hb hr (fun t ht hW => ⟨⟨(a0, b0, ja, jb), rfl, trivial, by rw [ht]; exact hP, va_K.moved hW.alike hK, hD⟩, hS.F ht⟩) hS.2.2 dX1_init_33
set_option maxHeartbeats 4000000 in
set_option maxRecDepth 100000 in
/-- the reference: clear(n) -/
theorem c_mclear (l : Launch) (dC : Nat → ClassId) (dI : Nat → Nat → Nat) (g0 a0 b0 : Nat) (ja jb : ClassId) (k n : Nat) (fc fv : Nat → Int64) (cl su th : Int32) (x : Int32) (sz : Nat)  : Met l yX1_clear wsX1_clear ({ frames := 1, cells := 0, slots := 0, locals := 21 }) (va_Pc [.ref g0, .int x] (fun U => U.heap.size = sz ∧ va_P (dC, dI) vwCl [(g0, .inr (1, [.ref a0, .ref b0, .int (nI k), .int (nI n), .int cl, .int su, .int th])), (a0, .inl (ja, 512, .inr (.inl fc))), (b0, .inl (jb, 512, .inr (.inl fv)))] U.heap ∧ va_K (dC, dI) vwCl [(ja, .long), (jb, .long)] U ∧ va_D (fun _ => True) [(g0, .inr (1, [.ref a0, .ref b0, .int (nI k), .int (nI n), .int cl, .int su, .int th])), (a0, .inl (ja, 512, .inr (.inl fc))), (b0, .inl (jb, 512, .inr (.inl fv)))])) (va_Qv (fun u => pt_Rclear k n fc fv cl su x u.2 u.1) (fun (u : pt_st × Int32) (t : State) => match u with | ((k2, n2, fc2, fv2, cl2, su2), th2) => va_P (dC, dI) vwCl [(g0, .inr (1, [.ref a0, .ref b0, .int (nI k2), .int (nI n2), .int cl2, .int su2, .int th2])), (a0, .inl (ja, 512, .inr (.inl fc2))), (b0, .inl (jb, 512, .inr (.inl fv2)))] t.heap ∧ va_K (dC, dI) vwCl [(ja, .long), (jb, .long)] t ∧ va_D (va_A [(g0, .inr (1, [.ref a0, .ref b0, .int (nI k), .int (nI n), .int cl, .int su, .int th])), (a0, .inl (ja, 512, .inr (.inl fc))), (b0, .inl (jb, 512, .inr (.inl fv)))] sz) [(g0, .inr (1, [.ref a0, .ref b0, .int (nI k2), .int (nI n2), .int cl2, .int su2, .int th2])), (a0, .inl (ja, 512, .inr (.inl fc2))), (b0, .inl (jb, 512, .inr (.inl fv2)))]) (va_A [(g0, .inr (1, [.ref a0, .ref b0, .int (nI k), .int (nI n), .int cl, .int su, .int th])), (a0, .inl (ja, 512, .inr (.inl fc))), (b0, .inl (jb, 512, .inr (.inl fv)))] sz)) 0 0 (va_A [(g0, .inr (1, [.ref a0, .ref b0, .int (nI k), .int (nI n), .int cl, .int su, .int th])), (a0, .inl (ja, 512, .inr (.inl fc))), (b0, .inl (jb, 512, .inr (.inl fv)))] sz) := by
  refine Met.ofW (cc := cX1_clear) (maxL := 2) (ret := none) (by decide) rfl ?_
  intro p e s m args below meth c s₁ B hml hv
  obtain ⟨ha, hsz, hP, hK, hD0⟩ := hv
  subst hsz
  have hx := B.exec
  have hb := B.bytes
  have hr := B.returns
  have hts := atoms_spec (ws := wsX1_clear) B.pre
  have hown : s.vm.findClass RX1 = some m.cls := findClass_of_methodNamed B.named
  have hlocks := B.notSynchronized
  have hl := lv_entry ([.ref g0, .int x]) (n := 2) (Nat.le_of_ble_eq_true rfl)
  refine W.eq (show entryFrame m args 2 = entryFrame m ([.ref g0, .int x] : List Value).toArray 2 by rw [ha]) ?_
  rw [lg_entry_eq]
  generalize (lg_sl ([.ref g0, .int x]) ++ List.replicate (2 - (lg_sl ([.ref g0, .int x])).length) Slot.unset).toArray = ls at hl ⊢
  have hl : lv_has ls 2 [(0, .ref g0), (1, .int x)] := hl
  have hD := hD0.self (sz := s.heap.size)
  generalize hAe : va_A [(g0, .inr (1, [.ref a0, .ref b0, .int (nI k), .int (nI n), .int cl, .int su, .int th])), (a0, .inl (ja, 512, .inr (.inl fc))), (b0, .inl (jb, 512, .inr (.inl fv)))] s.heap.size = A at hD ⊢
  have hA : ∀ q : Nat, s.heap.size ≤ q → A q := fun q h => by rw [← hAe]; exact Or.inr h
  have hS : va_S A s.heap s.heap [] := va_S.rf
  generalize hQ : MQ below (va_Qv (fun u => pt_Rclear k n fc fv cl su x u.2 u.1) (fun (u : pt_st × Int32) (t : State) => match u with | ((k2, n2, fc2, fv2, cl2, su2), th2) => va_P (dC, dI) vwCl [(g0, .inr (1, [.ref a0, .ref b0, .int (nI k2), .int (nI n2), .int cl2, .int su2, .int th2])), (a0, .inl (ja, 512, .inr (.inl fc2))), (b0, .inl (jb, 512, .inr (.inl fv2)))] t.heap ∧ va_K (dC, dI) vwCl [(ja, .long), (jb, .long)] t ∧ va_D A [(g0, .inr (1, [.ref a0, .ref b0, .int (nI k2), .int (nI n2), .int cl2, .int su2, .int th2])), (a0, .inl (ja, 512, .inr (.inl fc2))), (b0, .inl (jb, 512, .inr (.inl fv2)))]) A) args s 0 0 A = Q
  have hP : va_P (dC, dI) vwCl [(g0, .inr (1, [.ref a0, .ref b0, .int (nI k), .int (nI n), .int cl, .int su, .int th])), (a0, .inl (ja, 512, .inr (.inl fc))), (b0, .inl (jb, 512, .inr (.inl fv)))] s.heap := hP
  refine lv_aload_n hx hb dX1_clear_0 rfl (lv_at hl 0 rfl) ?_
  refine lv_iconst (v := 0) hx hb dX1_clear_1 (by decide) ?_
  refine va_put (D := (dC, dI)) (ci := 1) (v := .int 0) (ty := .int) (C := RX1) (T := TX1) (N := 7) hx hb hts (fun w h => List.mem_cons_of_mem _ (pt_wsX1 w h)) tyX1 tyX1_ok nmX1 hown hK hP hD hS 0 rfl rfl 6 (by decide) (hts _ (List.mem_cons_of_mem _ pw167)) (fun _ h9 => h9) rfl (by decide +kernel) rfl rfl (Nat.le_of_ble_eq_true rfl) dX1_clear_2 (fun H locs hP hD hS => ?_)
  have hP : va_P (dC, dI) vwCl [(g0, .inr (1, [.ref a0, .ref b0, .int (nI k), .int (nI n), .int cl, .int su, .int 0])), (a0, .inl (ja, 512, .inr (.inl fc))), (b0, .inl (jb, 512, .inr (.inl fv)))] H := hP
  have hD : va_D A [(g0, .inr (1, [.ref a0, .ref b0, .int (nI k), .int (nI n), .int cl, .int su, .int 0])), (a0, .inl (ja, 512, .inr (.inl fc))), (b0, .inl (jb, 512, .inr (.inl fv)))] := hD
  refine lv_iload_n hx hb dX1_clear_5 rfl (lv_at hl 1 rfl) ?_
  refine lv_iconst (v := 1) hx hb dX1_clear_6 (by decide) ?_
  refine lv_icmp_lt (tgt := 16) hx hb dX1_clear_7 (by decide) (fun h1 => ?_) (fun h1 => ?_)
  · refine lv_aload_n hx hb dX1_clear_16 rfl (lv_at hl 0 rfl) ?_
    refine lv_iconst (v := 1) hx hb dX1_clear_17 (by decide) ?_
    have hPc := hP.sub (ws' := [(g0, .inr (1, [.ref a0, .ref b0, .int (nI k), .int (nI n), .int cl, .int su, .int 0])), (a0, .inl (ja, 512, .inr (.inl fc))), (b0, .inl (jb, 512, .inr (.inl fv)))]) [0, 1, 2] rfl
    have hDc := hD.sub (ws' := [(g0, .inr (1, [.ref a0, .ref b0, .int (nI k), .int (nI n), .int cl, .int su, .int 0])), (a0, .inl (ja, 512, .inr (.inl fc))), (b0, .inl (jb, 512, .inr (.inl fv)))]) [0, 1, 2] (by decide) rfl
    have hKc := hK.sub (tys' := [(ja, .long), (jb, .long)]) [0, 1] rfl
    have hFc := va_free (wc := [(g0, .inr (1, [.ref a0, .ref b0, .int (nI k), .int (nI n), .int cl, .int su, .int 0])), (a0, .inl (ja, 512, .inr (.inl fc))), (b0, .inl (jb, 512, .inr (.inl fv)))]) hD hS hA [0, 1, 2] rfl
    refine va_calli (va_runV (As := [.int 1]) (rest := []) ⟨hx, hb, hml, hown, hts⟩ (c_fail l dC dI g0 a0 b0 ja jb (nI k) (nI n) fc fv cl su 0 1 H.size ) (cwV 1 hts (pt_gV pw183 pw184 pw9 pw18 pw185) rfl rfl rfl (by decide +kernel) ⟨Nat.le_of_ble_eq_true rfl, Nat.le_of_ble_eq_true rfl⟩) ⟨fun a U g mk q => by obtain ⟨q0, q1, qP, qK, qD⟩ := q; exact ⟨q0, q1, qP, va_K.moved (u := U) (U := U.calling g mk a) (Vm.Alike.refl U.vm) qK, qD⟩, va_recv hK hP (ci := 1) (q0 := 0) rfl rfl, fun U hU hW => ⟨rfl, by rw [hU], by rw [hU]; exact hPc, va_K.moved hW.alike hKc, hDc.weaken (fun _ _ _ _ => trivial)⟩⟩ rfl rfl hl.1 rfl (lv_room (Nat.le_of_ble_eq_true rfl)) dX1_clear_18 ⟨Nat.zero_le _, Nat.zero_le _⟩) hS (fun q _ h => hFc q h) hFc (fun r1 u t H1 locs ht hvm hw hB hz1 hk1 hS => ?_)
    obtain ⟨hP1, hK1, hD1⟩ := hB
    rw [ht] at hP1
    obtain ⟨hP, hD⟩ := va_join (wr := ([] : va_W)) (w1 := [(g0, .inr (1, [.ref a0, .ref b0, .int (nI k), .int (nI n), .int cl, .int su, .int 1])), (a0, .inl (ja, 512, .inr (.inl fc))), (b0, .inl (jb, 512, .inr (.inl fv)))]) hP hD [0, 1, 2] [] rfl rfl (by decide) (by decide) hk1 hFc hP1 hD1
    generalize H1 = H at hP hS ⊢
    have hP : va_P (dC, dI) vwCl [(g0, .inr (1, [.ref a0, .ref b0, .int (nI k), .int (nI n), .int cl, .int su, .int 1])), (a0, .inl (ja, 512, .inr (.inl fc))), (b0, .inl (jb, 512, .inr (.inl fv)))] H := hP
    have hD : va_D A [(g0, .inr (1, [.ref a0, .ref b0, .int (nI k), .int (nI n), .int cl, .int su, .int 1])), (a0, .inl (ja, 512, .inr (.inl fc))), (b0, .inl (jb, 512, .inr (.inl fv)))] := hD
    subst hw
    refine lv_pop hx hb dX1_clear_21 rfl ?_
    refine lv_goto (tgt := 35) hx hb dX1_clear_22 (by decide) ?_
    rw [← hQ]
    exact W.vret hx hb hr (fun t ht hW => ⟨⟨((k, n, fc, fv, cl, su), 1), rfl, Or.inl ⟨Or.inl h1, rfl, rfl⟩, by rw [ht]; exact hP, va_K.moved hW.alike hK, hD⟩, hS.F ht⟩) hS.2.2 dX1_clear_35
  · refine lv_iload_n hx hb dX1_clear_10 rfl (lv_at hl 1 rfl) ?_
    refine lv_bipush (v := 64) hx hb dX1_clear_11 (by decide) ?_
    refine lv_icmp_le (tgt := 25) hx hb dX1_clear_13 (by decide) (fun h2 => ?_) (fun h2 => ?_)
    · obtain ⟨a, hn1, hn2, rfl⟩ := pt_len h1 h2
      refine lv_aload_n hx hb dX1_clear_25 rfl (lv_at hl 0 rfl) ?_
      refine lv_iconst (v := 0) hx hb dX1_clear_26 (by decide) ?_
      refine va_put (D := (dC, dI)) (ci := 1) (v := .int 0) (ty := .int) (C := RX1) (T := TX1) (N := 7) hx hb hts (fun w h => List.mem_cons_of_mem _ (pt_wsX1 w h)) tyX1 tyX1_ok nmX1 hown hK hP hD hS 0 rfl rfl 2 (by decide) (hts _ (List.mem_cons_of_mem _ pw163)) (fun _ h9 => h9) rfl (by decide +kernel) rfl rfl (Nat.le_of_ble_eq_true rfl) dX1_clear_27 (fun H locs hP hD hS => ?_)
      have hP : va_P (dC, dI) vwCl [(g0, .inr (1, [.ref a0, .ref b0, .int 0, .int (nI n), .int cl, .int su, .int 0])), (a0, .inl (ja, 512, .inr (.inl fc))), (b0, .inl (jb, 512, .inr (.inl fv)))] H := hP
      have hD : va_D A [(g0, .inr (1, [.ref a0, .ref b0, .int 0, .int (nI n), .int cl, .int su, .int 0])), (a0, .inl (ja, 512, .inr (.inl fc))), (b0, .inl (jb, 512, .inr (.inl fv)))] := hD
      refine lv_aload_n hx hb dX1_clear_30 rfl (lv_at hl 0 rfl) ?_
      refine lv_iload_n hx hb dX1_clear_31 rfl (lv_at hl 1 rfl) ?_
      refine va_put (D := (dC, dI)) (ci := 1) (v := .int (nI a)) (ty := .int) (C := RX1) (T := TX1) (N := 7) hx hb hts (fun w h => List.mem_cons_of_mem _ (pt_wsX1 w h)) tyX1 tyX1_ok nmX1 hown hK hP hD hS 0 rfl rfl 3 (by decide) (hts _ (List.mem_cons_of_mem _ pw164)) (fun _ h9 => h9) rfl (by decide +kernel) rfl rfl (Nat.le_of_ble_eq_true rfl) dX1_clear_32 (fun H locs hP hD hS => ?_)
      have hP : va_P (dC, dI) vwCl [(g0, .inr (1, [.ref a0, .ref b0, .int 0, .int (nI a), .int cl, .int su, .int 0])), (a0, .inl (ja, 512, .inr (.inl fc))), (b0, .inl (jb, 512, .inr (.inl fv)))] H := hP
      have hD : va_D A [(g0, .inr (1, [.ref a0, .ref b0, .int 0, .int (nI a), .int cl, .int su, .int 0])), (a0, .inl (ja, 512, .inr (.inl fc))), (b0, .inl (jb, 512, .inr (.inl fv)))] := hD
      rw [← hQ]
      exact W.vret hx hb hr (fun t ht hW => ⟨⟨((0, a, fc, fv, cl, su), 0), rfl, Or.inr ⟨a, hn1, hn2, rfl, rfl, rfl⟩, by rw [ht]; exact hP, va_K.moved hW.alike hK, hD⟩, hS.F ht⟩) hS.2.2 dX1_clear_35
    · refine lv_aload_n hx hb dX1_clear_16 rfl (lv_at hl 0 rfl) ?_
      refine lv_iconst (v := 1) hx hb dX1_clear_17 (by decide) ?_
      have hPc := hP.sub (ws' := [(g0, .inr (1, [.ref a0, .ref b0, .int (nI k), .int (nI n), .int cl, .int su, .int 0])), (a0, .inl (ja, 512, .inr (.inl fc))), (b0, .inl (jb, 512, .inr (.inl fv)))]) [0, 1, 2] rfl
      have hDc := hD.sub (ws' := [(g0, .inr (1, [.ref a0, .ref b0, .int (nI k), .int (nI n), .int cl, .int su, .int 0])), (a0, .inl (ja, 512, .inr (.inl fc))), (b0, .inl (jb, 512, .inr (.inl fv)))]) [0, 1, 2] (by decide) rfl
      have hKc := hK.sub (tys' := [(ja, .long), (jb, .long)]) [0, 1] rfl
      have hFc := va_free (wc := [(g0, .inr (1, [.ref a0, .ref b0, .int (nI k), .int (nI n), .int cl, .int su, .int 0])), (a0, .inl (ja, 512, .inr (.inl fc))), (b0, .inl (jb, 512, .inr (.inl fv)))]) hD hS hA [0, 1, 2] rfl
      refine va_calli (va_runV (As := [.int 1]) (rest := []) ⟨hx, hb, hml, hown, hts⟩ (c_fail l dC dI g0 a0 b0 ja jb (nI k) (nI n) fc fv cl su 0 1 H.size ) (cwV 1 hts (pt_gV pw183 pw184 pw9 pw18 pw185) rfl rfl rfl (by decide +kernel) ⟨Nat.le_of_ble_eq_true rfl, Nat.le_of_ble_eq_true rfl⟩) ⟨fun a U g mk q => by obtain ⟨q0, q1, qP, qK, qD⟩ := q; exact ⟨q0, q1, qP, va_K.moved (u := U) (U := U.calling g mk a) (Vm.Alike.refl U.vm) qK, qD⟩, va_recv hK hP (ci := 1) (q0 := 0) rfl rfl, fun U hU hW => ⟨rfl, by rw [hU], by rw [hU]; exact hPc, va_K.moved hW.alike hKc, hDc.weaken (fun _ _ _ _ => trivial)⟩⟩ rfl rfl hl.1 rfl (lv_room (Nat.le_of_ble_eq_true rfl)) dX1_clear_18 ⟨Nat.zero_le _, Nat.zero_le _⟩) hS (fun q _ h => hFc q h) hFc (fun r2 u t H1 locs ht hvm hw hB hz1 hk1 hS => ?_)
      obtain ⟨hP1, hK1, hD1⟩ := hB
      rw [ht] at hP1
      obtain ⟨hP, hD⟩ := va_join (wr := ([] : va_W)) (w1 := [(g0, .inr (1, [.ref a0, .ref b0, .int (nI k), .int (nI n), .int cl, .int su, .int 1])), (a0, .inl (ja, 512, .inr (.inl fc))), (b0, .inl (jb, 512, .inr (.inl fv)))]) hP hD [0, 1, 2] [] rfl rfl (by decide) (by decide) hk1 hFc hP1 hD1
      generalize H1 = H at hP hS ⊢
      have hP : va_P (dC, dI) vwCl [(g0, .inr (1, [.ref a0, .ref b0, .int (nI k), .int (nI n), .int cl, .int su, .int 1])), (a0, .inl (ja, 512, .inr (.inl fc))), (b0, .inl (jb, 512, .inr (.inl fv)))] H := hP
      have hD : va_D A [(g0, .inr (1, [.ref a0, .ref b0, .int (nI k), .int (nI n), .int cl, .int su, .int 1])), (a0, .inl (ja, 512, .inr (.inl fc))), (b0, .inl (jb, 512, .inr (.inl fv)))] := hD
      subst hw
      refine lv_pop hx hb dX1_clear_21 rfl ?_
      refine lv_goto (tgt := 35) hx hb dX1_clear_22 (by decide) ?_
      rw [← hQ]
      exact W.vret hx hb hr (fun t ht hW => ⟨⟨((k, n, fc, fv, cl, su), 1), rfl, Or.inl ⟨Or.inr h2, rfl, rfl⟩, by rw [ht]; exact hP, va_K.moved hW.alike hK, hD⟩, hS.F ht⟩) hS.2.2 dX1_clear_35
set_option maxHeartbeats 4000000 in
set_option maxRecDepth 100000 in
/-- the reference: add(c, w) -/
theorem c_madd (l : Launch) (dC : Nat → ClassId) (dI : Nat → Nat → Nat) (g0 a0 b0 : Nat) (ja jb : ClassId) (k n : Nat) (fc fv : Nat → Int64) (cl su th : Int32) (a b : Int64) (sz : Nat) (hI : pt_I k n fc fv) : Met l yX1_add wsX1_add ({ frames := 3, cells := 0, slots := 0, locals := 70 }) (va_Pc [.ref g0, .long a, .long b] (fun U => U.heap.size = sz ∧ va_P (dC, dI) vwCl [(g0, .inr (1, [.ref a0, .ref b0, .int (nI k), .int (nI n), .int cl, .int su, .int th])), (a0, .inl (ja, 512, .inr (.inl fc))), (b0, .inl (jb, 512, .inr (.inl fv)))] U.heap ∧ va_K (dC, dI) vwCl [(ja, .long), (jb, .long)] U ∧ va_D (fun _ => True) [(g0, .inr (1, [.ref a0, .ref b0, .int (nI k), .int (nI n), .int cl, .int su, .int th])), (a0, .inl (ja, 512, .inr (.inl fc))), (b0, .inl (jb, 512, .inr (.inl fv)))])) (va_Qi (fun (r : Int32) u => pt_Radd k n fc fv cl su a b u.2 r.toInt64 u.1) (fun (u : pt_st × Int32) (t : State) => match u with | ((k2, n2, fc2, fv2, cl2, su2), th2) => va_P (dC, dI) vwCl [(g0, .inr (1, [.ref a0, .ref b0, .int (nI k2), .int (nI n2), .int cl2, .int su2, .int th2])), (a0, .inl (ja, 512, .inr (.inl fc2))), (b0, .inl (jb, 512, .inr (.inl fv2)))] t.heap ∧ va_K (dC, dI) vwCl [(ja, .long), (jb, .long)] t ∧ va_D (va_A [(g0, .inr (1, [.ref a0, .ref b0, .int (nI k), .int (nI n), .int cl, .int su, .int th])), (a0, .inl (ja, 512, .inr (.inl fc))), (b0, .inl (jb, 512, .inr (.inl fv)))] sz) [(g0, .inr (1, [.ref a0, .ref b0, .int (nI k2), .int (nI n2), .int cl2, .int su2, .int th2])), (a0, .inl (ja, 512, .inr (.inl fc2))), (b0, .inl (jb, 512, .inr (.inl fv2)))]) (va_A [(g0, .inr (1, [.ref a0, .ref b0, .int (nI k), .int (nI n), .int cl, .int su, .int th])), (a0, .inl (ja, 512, .inr (.inl fc))), (b0, .inl (jb, 512, .inr (.inl fv)))] sz)) 0 0 (va_A [(g0, .inr (1, [.ref a0, .ref b0, .int (nI k), .int (nI n), .int cl, .int su, .int th])), (a0, .inl (ja, 512, .inr (.inl fc))), (b0, .inl (jb, 512, .inr (.inl fv)))] sz) := by
  refine Met.ofW (cc := cX1_add) (maxL := 6) (ret := (some .int)) (by decide) rfl ?_
  intro p e s m args below meth c s₁ B hml hv
  obtain ⟨ha, hsz, hP, hK, hD0⟩ := hv
  subst hsz
  have hx := B.exec
  have hb := B.bytes
  have hr := B.returns
  have hts := atoms_spec (ws := wsX1_add) B.pre
  have hown : s.vm.findClass RX1 = some m.cls := findClass_of_methodNamed B.named
  have hlocks := B.notSynchronized
  have hl := lv_entry ([.ref g0, .long a, .long b]) (n := 6) (Nat.le_of_ble_eq_true rfl)
  refine W.eq (show entryFrame m args 6 = entryFrame m ([.ref g0, .long a, .long b] : List Value).toArray 6 by rw [ha]) ?_
  rw [lg_entry_eq]
  generalize (lg_sl ([.ref g0, .long a, .long b]) ++ List.replicate (6 - (lg_sl ([.ref g0, .long a, .long b])).length) Slot.unset).toArray = ls at hl ⊢
  have hl : lv_has ls 6 [(0, .ref g0), (1, .long a), (3, .long b)] := hl
  have hD := hD0.self (sz := s.heap.size)
  generalize hAe : va_A [(g0, .inr (1, [.ref a0, .ref b0, .int (nI k), .int (nI n), .int cl, .int su, .int th])), (a0, .inl (ja, 512, .inr (.inl fc))), (b0, .inl (jb, 512, .inr (.inl fv)))] s.heap.size = A at hD ⊢
  have hA : ∀ q : Nat, s.heap.size ≤ q → A q := fun q h => by rw [← hAe]; exact Or.inr h
  have hS : va_S A s.heap s.heap [] := va_S.rf
  generalize hQ : MQ below (va_Qi (fun (r : Int32) u => pt_Radd k n fc fv cl su a b u.2 r.toInt64 u.1) (fun (u : pt_st × Int32) (t : State) => match u with | ((k2, n2, fc2, fv2, cl2, su2), th2) => va_P (dC, dI) vwCl [(g0, .inr (1, [.ref a0, .ref b0, .int (nI k2), .int (nI n2), .int cl2, .int su2, .int th2])), (a0, .inl (ja, 512, .inr (.inl fc2))), (b0, .inl (jb, 512, .inr (.inl fv2)))] t.heap ∧ va_K (dC, dI) vwCl [(ja, .long), (jb, .long)] t ∧ va_D A [(g0, .inr (1, [.ref a0, .ref b0, .int (nI k2), .int (nI n2), .int cl2, .int su2, .int th2])), (a0, .inl (ja, 512, .inr (.inl fc2))), (b0, .inl (jb, 512, .inr (.inl fv2)))]) A) args s 0 0 A = Q
  have hP : va_P (dC, dI) vwCl [(g0, .inr (1, [.ref a0, .ref b0, .int (nI k), .int (nI n), .int cl, .int su, .int th])), (a0, .inl (ja, 512, .inr (.inl fc))), (b0, .inl (jb, 512, .inr (.inl fv)))] s.heap := hP
  have hn1 := hI.2.1
  have hn2 := hI.2.2.1
  have hk := hI.1
  refine lv_aload_n hx hb dX1_add_0 rfl (lv_at hl 0 rfl) ?_
  refine lv_iconst (v := 0) hx hb dX1_add_1 (by decide) ?_
  refine va_put (D := (dC, dI)) (ci := 1) (v := .int 0) (ty := .int) (C := RX1) (T := TX1) (N := 7) hx hb hts (fun w h => List.mem_cons_of_mem _ (pt_wsX1 w h)) tyX1 tyX1_ok nmX1 hown hK hP hD hS 0 rfl rfl 6 (by decide) (hts _ (List.mem_cons_of_mem _ pw167)) (fun _ h9 => h9) rfl (by decide +kernel) rfl rfl (Nat.le_of_ble_eq_true rfl) dX1_add_2 (fun H locs hP hD hS => ?_)
  have hP : va_P (dC, dI) vwCl [(g0, .inr (1, [.ref a0, .ref b0, .int (nI k), .int (nI n), .int cl, .int su, .int 0])), (a0, .inl (ja, 512, .inr (.inl fc))), (b0, .inl (jb, 512, .inr (.inl fv)))] H := hP
  have hD : va_D A [(g0, .inr (1, [.ref a0, .ref b0, .int (nI k), .int (nI n), .int cl, .int su, .int 0])), (a0, .inl (ja, 512, .inr (.inl fc))), (b0, .inl (jb, 512, .inr (.inl fv)))] := hD
  refine lv_aload_n hx hb dX1_add_5 rfl (lv_at hl 0 rfl) ?_
  refine lv_lload_n hx hb dX1_add_6 rfl (lv_at hl 1 rfl) ?_
  refine lv_lload_n hx hb dX1_add_7 rfl (lv_at hl 2 rfl) ?_
  refine vp_callSi (W.runV (As := [.long a, .long b]) (rest := []) ⟨hx, hb, hml, hown, hts⟩ (c_wrong l dC dI g0 a0 b0 ja jb k n fc fv cl su 0 a b hn1 hn2) (cwV 2 hts (pt_gV pw190 pw191 pw10 pw18 pw192) rfl rfl rfl (by decide +kernel) ⟨Nat.le_of_ble_eq_true rfl, Nat.le_of_ble_eq_true rfl⟩) ⟨fun a U g mk q => by obtain ⟨q0, qP, qK⟩ := q; exact ⟨q0, qP, va_K.moved (u := U) (U := U.calling g mk a) (Vm.Alike.refl U.vm) qK⟩, va_recv hK hP (ci := 1) (q0 := 0) rfl rfl, fun U hU hW => ⟨rfl, by rw [hU]; exact hP, va_K.moved hW.alike hK⟩⟩ rfl rfl hl.1 rfl (lv_room (Nat.le_of_ble_eq_true rfl)) dX1_add_8 ⟨Nat.zero_le _, Nat.zero_le _⟩) (fun r1 hw => ?_)
  rcases hw with ⟨rfl, hst⟩ | ⟨rfl, hst⟩
  · refine lv_if_eq (tgt := 20) hx hb dX1_add_11 (by decide) (fun h1 => absurd h1 (by decide)) (fun h1 => ?_)
    refine lv_aload_n hx hb dX1_add_14 rfl (lv_at hl 0 rfl) ?_
    refine lv_iconst (v := 1) hx hb dX1_add_15 (by decide) ?_
    have hPc := hP.sub (ws' := [(g0, .inr (1, [.ref a0, .ref b0, .int (nI k), .int (nI n), .int cl, .int su, .int 0])), (a0, .inl (ja, 512, .inr (.inl fc))), (b0, .inl (jb, 512, .inr (.inl fv)))]) [0, 1, 2] rfl
    have hDc := hD.sub (ws' := [(g0, .inr (1, [.ref a0, .ref b0, .int (nI k), .int (nI n), .int cl, .int su, .int 0])), (a0, .inl (ja, 512, .inr (.inl fc))), (b0, .inl (jb, 512, .inr (.inl fv)))]) [0, 1, 2] (by decide) rfl
    have hKc := hK.sub (tys' := [(ja, .long), (jb, .long)]) [0, 1] rfl
    have hFc := va_free (wc := [(g0, .inr (1, [.ref a0, .ref b0, .int (nI k), .int (nI n), .int cl, .int su, .int 0])), (a0, .inl (ja, 512, .inr (.inl fc))), (b0, .inl (jb, 512, .inr (.inl fv)))]) hD hS hA [0, 1, 2] rfl
    refine va_calli (va_runV (As := [.int 1]) (rest := []) ⟨hx, hb, hml, hown, hts⟩ (c_fail l dC dI g0 a0 b0 ja jb (nI k) (nI n) fc fv cl su 0 1 H.size ) (cwV 1 hts (pt_gV pw183 pw184 pw9 pw18 pw185) rfl rfl rfl (by decide +kernel) ⟨Nat.le_of_ble_eq_true rfl, Nat.le_of_ble_eq_true rfl⟩) ⟨fun a U g mk q => by obtain ⟨q0, q1, qP, qK, qD⟩ := q; exact ⟨q0, q1, qP, va_K.moved (u := U) (U := U.calling g mk a) (Vm.Alike.refl U.vm) qK, qD⟩, va_recv hK hP (ci := 1) (q0 := 0) rfl rfl, fun U hU hW => ⟨rfl, by rw [hU], by rw [hU]; exact hPc, va_K.moved hW.alike hKc, hDc.weaken (fun _ _ _ _ => trivial)⟩⟩ rfl rfl hl.1 rfl (lv_room (Nat.le_of_ble_eq_true rfl)) dX1_add_16 ⟨Nat.zero_le _, Nat.zero_le _⟩) hS (fun q _ h => hFc q h) hFc (fun r2 u t H1 locs ht hvm hw hB hz1 hk1 hS => ?_)
    obtain ⟨hP1, hK1, hD1⟩ := hB
    rw [ht] at hP1
    obtain ⟨hP, hD⟩ := va_join (wr := ([] : va_W)) (w1 := [(g0, .inr (1, [.ref a0, .ref b0, .int (nI k), .int (nI n), .int cl, .int su, .int 1])), (a0, .inl (ja, 512, .inr (.inl fc))), (b0, .inl (jb, 512, .inr (.inl fv)))]) hP hD [0, 1, 2] [] rfl rfl (by decide) (by decide) hk1 hFc hP1 hD1
    generalize H1 = H at hP hS ⊢
    have hP : va_P (dC, dI) vwCl [(g0, .inr (1, [.ref a0, .ref b0, .int (nI k), .int (nI n), .int cl, .int su, .int 1])), (a0, .inl (ja, 512, .inr (.inl fc))), (b0, .inl (jb, 512, .inr (.inl fv)))] H := hP
    have hD : va_D A [(g0, .inr (1, [.ref a0, .ref b0, .int (nI k), .int (nI n), .int cl, .int su, .int 1])), (a0, .inl (ja, 512, .inr (.inl fc))), (b0, .inl (jb, 512, .inr (.inl fv)))] := hD
    subst hw
    rw [← hQ]
    exact W.iret (v := 0) hx hb hr (fun t ht hW => ⟨⟨0, ((k, n, fc, fv, cl, su), 1), rfl, Or.inl ⟨hst, rfl, rfl⟩, by rw [ht]; exact hP, va_K.moved hW.alike hK, hD⟩, hS.F ht⟩) hS.2.2 dX1_add_19
  · refine lv_if_eq (tgt := 20) hx hb dX1_add_11 (by decide) (fun h1 => ?_) (fun h1 => absurd rfl h1)
    refine lv_aload_n hx hb dX1_add_20 rfl (lv_at hl 0 rfl) ?_
    refine va_get (D := (dC, dI)) (ci := 1) (v := .int (nI k)) (C := RX1) (T := TX1) (N := 7) hx hb hts (fun w h => List.mem_cons_of_mem _ (pt_wsX1 w h)) hown hK hP 0 rfl rfl 2 (by decide) (hts _ (List.mem_cons_of_mem _ pw163)) (fun _ h9 => h9) rfl dX1_add_21 ?_
    refine lv_sipush (v := 512) hx hb dX1_add_24 (by decide) ?_
    refine lv_icmp_ne (tgt := 34) hx hb dX1_add_27 (by decide) (fun h2 => ?_) (fun h2 => ?_)
    · have hk5 : k < 512 := Nat.lt_of_le_of_ne hk (fun z => h2 (by rw [z]; rfl))
      refine lv_aload_n hx hb dX1_add_34 rfl (lv_at hl 0 rfl) ?_
      refine lv_lload_n hx hb dX1_add_35 rfl (lv_at hl 1 rfl) ?_
      refine lv_lload_n hx hb dX1_add_36 rfl (lv_at hl 2 rfl) ?_
      refine vp_callSi (W.runV (As := [.long a, .long b]) (rest := []) ⟨hx, hb, hml, hown, hts⟩ (c_first l dC dI g0 a0 b0 ja jb k n fc fv cl su 0 a b hk hn1 hn2) (cwV 2 hts (pt_gV pw197 pw198 pw12 pw18 pw199) rfl rfl rfl (by decide +kernel) ⟨Nat.le_of_ble_eq_true rfl, Nat.le_of_ble_eq_true rfl⟩) ⟨fun a U g mk q => by obtain ⟨q0, qP, qK⟩ := q; exact ⟨q0, qP, va_K.moved (u := U) (U := U.calling g mk a) (Vm.Alike.refl U.vm) qK⟩, va_recv hK hP (ci := 1) (q0 := 0) rfl rfl, fun U hU hW => ⟨rfl, by rw [hU]; exact hP, va_K.moved hW.alike hK⟩⟩ rfl rfl hl.1 rfl (lv_room (Nat.le_of_ble_eq_true rfl)) dX1_add_37 ⟨Nat.zero_le _, Nat.zero_le _⟩) (fun r3 hF => ?_)
      refine lv_istore (lv' := [(5, .int r3), (0, .ref g0), (1, .long a), (3, .long b)]) hx hb dX1_add_40 hl (by decide) rfl (fun ls hl => ?_)
      refine lv_aload_n hx hb dX1_add_42 rfl (lv_at hl 1 rfl) ?_
      refine va_get (D := (dC, dI)) (ci := 1) (v := .int (nI k)) (C := RX1) (T := TX1) (N := 7) hx hb hts (fun w h => List.mem_cons_of_mem _ (pt_wsX1 w h)) hown hK hP 0 rfl rfl 2 (by decide) (hts _ (List.mem_cons_of_mem _ pw163)) (fun _ h9 => h9) rfl dX1_add_43 ?_
      refine lv_sipush (v := 512) hx hb dX1_add_46 (by decide) ?_
      refine lv_icmp_eq (tgt := 57) hx hb dX1_add_49 (by decide) (fun h3 => absurd h3 h2) (fun h3 => ?_)
      refine lv_iload hx hb dX1_add_52 (lv_at hl 0 rfl) ?_
      refine lv_if_lt (tgt := 69) hx hb dX1_add_54 (by decide) (fun h4 => ?_) (fun h4 => ?_)
      · have hno := (pt_F_none hk hF).mp ((pt_F_neg hk hF).mp h4)
        refine lv_aload_n hx hb dX1_add_69 rfl (lv_at hl 1 rfl) ?_
        refine va_get (D := (dC, dI)) (ci := 1) (v := .ref a0) (C := RX1) (T := TX1) (N := 7) hx hb hts (fun w h => List.mem_cons_of_mem _ (pt_wsX1 w h)) hown hK hP 0 rfl rfl 0 (by decide) (hts _ (List.mem_cons_of_mem _ pw161)) (fun _ h9 => h9) rfl dX1_add_70 ?_
        refine lv_aload_n hx hb dX1_add_73 rfl (lv_at hl 1 rfl) ?_
        refine va_get (D := (dC, dI)) (ci := 1) (v := .int (nI k)) (C := RX1) (T := TX1) (N := 7) hx hb hts (fun w h => List.mem_cons_of_mem _ (pt_wsX1 w h)) hown hK hP 0 rfl rfl 2 (by decide) (hts _ (List.mem_cons_of_mem _ pw163)) (fun _ h9 => h9) rfl dX1_add_74 ?_
        refine lv_lload_n hx hb dX1_add_77 rfl (lv_at hl 2 rfl) ?_
        refine lv_aload_n hx hb dX1_add_78 rfl (lv_at hl 1 rfl) ?_
        refine vp_callSl (W.runV (As := []) (rest := [.long a, .int (nI k), .ref a0]) ⟨hx, hb, hml, hown, hts⟩ (c_mmask l dC dI g0 a0 b0 ja jb k n fc fv cl su 0 hn1 hn2) (cwV 0 hts (pt_gV pw194 pw195 pw11 pw18 pw196) rfl rfl rfl (by decide +kernel) ⟨Nat.le_of_ble_eq_true rfl, Nat.le_of_ble_eq_true rfl⟩) ⟨fun a U g mk q => by obtain ⟨q0, qP, qK⟩ := q; exact ⟨q0, qP, va_K.moved (u := U) (U := U.calling g mk a) (Vm.Alike.refl U.vm) qK⟩, va_recv hK hP (ci := 1) (q0 := 0) rfl rfl, fun U hU hW => ⟨rfl, by rw [hU]; exact hP, va_K.moved hW.alike hK⟩⟩ rfl rfl hl.1 rfl (lv_room (Nat.le_of_ble_eq_true rfl)) dX1_add_79 ⟨Nat.zero_le _, Nat.zero_le _⟩) (fun r4 hw => ?_)
        subst hw
        refine lv_land hx hb dX1_add_82 ?_
        refine va_last hx hb hK hP hD hS 1 0 rfl rfl (vp_in_nI hk5 (by decide)) dX1_add_83 (fun H locs hP hD hS => ?_)
        rw [nI_clamp (by omega)] at hP hD
        have hP : va_P (dC, dI) vwCl [(g0, .inr (1, [.ref a0, .ref b0, .int (nI k), .int (nI n), .int cl, .int su, .int 0])), (a0, .inl (ja, 512, .inr (.inl (vp_updL fc k (a &&& (pt_mk n)))))), (b0, .inl (jb, 512, .inr (.inl fv)))] H := hP
        have hD : va_D A [(g0, .inr (1, [.ref a0, .ref b0, .int (nI k), .int (nI n), .int cl, .int su, .int 0])), (a0, .inl (ja, 512, .inr (.inl (vp_updL fc k (a &&& (pt_mk n)))))), (b0, .inl (jb, 512, .inr (.inl fv)))] := hD
        refine lv_aload_n hx hb dX1_add_84 rfl (lv_at hl 1 rfl) ?_
        refine va_get (D := (dC, dI)) (ci := 1) (v := .ref b0) (C := RX1) (T := TX1) (N := 7) hx hb hts (fun w h => List.mem_cons_of_mem _ (pt_wsX1 w h)) hown hK hP 0 rfl rfl 1 (by decide) (hts _ (List.mem_cons_of_mem _ pw162)) (fun _ h9 => h9) rfl dX1_add_85 ?_
        refine lv_aload_n hx hb dX1_add_88 rfl (lv_at hl 1 rfl) ?_
        refine va_get (D := (dC, dI)) (ci := 1) (v := .int (nI k)) (C := RX1) (T := TX1) (N := 7) hx hb hts (fun w h => List.mem_cons_of_mem _ (pt_wsX1 w h)) hown hK hP 0 rfl rfl 2 (by decide) (hts _ (List.mem_cons_of_mem _ pw163)) (fun _ h9 => h9) rfl dX1_add_89 ?_
        refine lv_lload_n hx hb dX1_add_92 rfl (lv_at hl 3 rfl) ?_
        refine lv_aload_n hx hb dX1_add_93 rfl (lv_at hl 1 rfl) ?_
        refine vp_callSl (W.runV (As := []) (rest := [.long b, .int (nI k), .ref b0]) ⟨hx, hb, hml, hown, hts⟩ (c_mmask l dC dI g0 a0 b0 ja jb k n (vp_updL fc k (a &&& (pt_mk n))) fv cl su 0 hn1 hn2) (cwV 0 hts (pt_gV pw194 pw195 pw11 pw18 pw196) rfl rfl rfl (by decide +kernel) ⟨Nat.le_of_ble_eq_true rfl, Nat.le_of_ble_eq_true rfl⟩) ⟨fun a U g mk q => by obtain ⟨q0, qP, qK⟩ := q; exact ⟨q0, qP, va_K.moved (u := U) (U := U.calling g mk a) (Vm.Alike.refl U.vm) qK⟩, va_recv hK hP (ci := 1) (q0 := 0) rfl rfl, fun U hU hW => ⟨rfl, by rw [hU]; exact hP, va_K.moved hW.alike hK⟩⟩ rfl rfl hl.1 rfl (lv_room (Nat.le_of_ble_eq_true rfl)) dX1_add_94 ⟨Nat.zero_le _, Nat.zero_le _⟩) (fun r5 hw => ?_)
        subst hw
        refine lv_land hx hb dX1_add_97 ?_
        refine va_last hx hb hK hP hD hS 2 1 rfl rfl (vp_in_nI hk5 (by decide)) dX1_add_98 (fun H locs hP hD hS => ?_)
        rw [nI_clamp (by omega)] at hP hD
        have hP : va_P (dC, dI) vwCl [(g0, .inr (1, [.ref a0, .ref b0, .int (nI k), .int (nI n), .int cl, .int su, .int 0])), (a0, .inl (ja, 512, .inr (.inl (vp_updL fc k (a &&& (pt_mk n)))))), (b0, .inl (jb, 512, .inr (.inl (vp_updL fv k (b &&& (pt_mk n))))))] H := hP
        have hD : va_D A [(g0, .inr (1, [.ref a0, .ref b0, .int (nI k), .int (nI n), .int cl, .int su, .int 0])), (a0, .inl (ja, 512, .inr (.inl (vp_updL fc k (a &&& (pt_mk n)))))), (b0, .inl (jb, 512, .inr (.inl (vp_updL fv k (b &&& (pt_mk n))))))] := hD
        refine lv_aload_n hx hb dX1_add_99 rfl (lv_at hl 1 rfl) ?_
        refine lv_dup hx hb dX1_add_100 rfl ?_
        refine va_get (D := (dC, dI)) (ci := 1) (v := .int (nI k)) (C := RX1) (T := TX1) (N := 7) hx hb hts (fun w h => List.mem_cons_of_mem _ (pt_wsX1 w h)) hown hK hP 0 rfl rfl 2 (by decide) (hts _ (List.mem_cons_of_mem _ pw163)) (fun _ h9 => h9) rfl dX1_add_101 ?_
        refine lv_iconst (v := 1) hx hb dX1_add_104 (by decide) ?_
        refine lv_iadd hx hb dX1_add_105 ?_
        rw [nI_1]
        refine va_put (D := (dC, dI)) (ci := 1) (v := .int (nI (k + 1))) (ty := .int) (C := RX1) (T := TX1) (N := 7) hx hb hts (fun w h => List.mem_cons_of_mem _ (pt_wsX1 w h)) tyX1 tyX1_ok nmX1 hown hK hP hD hS 0 rfl rfl 2 (by decide) (hts _ (List.mem_cons_of_mem _ pw163)) (fun _ h9 => h9) rfl (by decide +kernel) rfl rfl (Nat.le_of_ble_eq_true rfl) dX1_add_106 (fun H locs hP hD hS => ?_)
        have hP : va_P (dC, dI) vwCl [(g0, .inr (1, [.ref a0, .ref b0, .int (nI (k + 1)), .int (nI n), .int cl, .int su, .int 0])), (a0, .inl (ja, 512, .inr (.inl (vp_updL fc k (a &&& (pt_mk n)))))), (b0, .inl (jb, 512, .inr (.inl (vp_updL fv k (b &&& (pt_mk n))))))] H := hP
        have hD : va_D A [(g0, .inr (1, [.ref a0, .ref b0, .int (nI (k + 1)), .int (nI n), .int cl, .int su, .int 0])), (a0, .inl (ja, 512, .inr (.inl (vp_updL fc k (a &&& (pt_mk n)))))), (b0, .inl (jb, 512, .inr (.inl (vp_updL fv k (b &&& (pt_mk n))))))] := hD
        refine lv_aload_n hx hb dX1_add_109 rfl (lv_at hl 1 rfl) ?_
        refine va_get (D := (dC, dI)) (ci := 1) (v := .int (nI (k + 1))) (C := RX1) (T := TX1) (N := 7) hx hb hts (fun w h => List.mem_cons_of_mem _ (pt_wsX1 w h)) hown hK hP 0 rfl rfl 2 (by decide) (hts _ (List.mem_cons_of_mem _ pw163)) (fun _ h9 => h9) rfl dX1_add_110 ?_
        refine lv_iconst (v := 1) hx hb dX1_add_113 (by decide) ?_
        refine lv_isub hx hb dX1_add_114 ?_
        rw [nI_pred]
        rw [← hQ]
        exact W.iret (v := nI k) hx hb hr (fun t ht hW => ⟨⟨nI k, ((k + 1, n, vp_updL fc k (a &&& pt_mk n), vp_updL fv k (b &&& pt_mk n), cl, su), 0), rfl, Or.inr ⟨hst, Or.inr (Or.inr ⟨hk5, hno, rfl, rfl, rfl⟩)⟩, by rw [ht]; exact hP, va_K.moved hW.alike hK, hD⟩, hS.F ht⟩) hS.2.2 dX1_add_115
      · refine lv_aload_n hx hb dX1_add_57 rfl (lv_at hl 1 rfl) ?_
        refine lv_iload hx hb dX1_add_58 (lv_at hl 0 rfl) ?_
        refine va_put (D := (dC, dI)) (ci := 1) (v := .int r3) (ty := .int) (C := RX1) (T := TX1) (N := 7) hx hb hts (fun w h => List.mem_cons_of_mem _ (pt_wsX1 w h)) tyX1 tyX1_ok nmX1 hown hK hP hD hS 0 rfl rfl 4 (by decide) (hts _ (List.mem_cons_of_mem _ pw165)) (fun _ h9 => h9) rfl (by decide +kernel) rfl rfl (Nat.le_of_ble_eq_true rfl) dX1_add_60 (fun H locs hP hD hS => ?_)
        have hP : va_P (dC, dI) vwCl [(g0, .inr (1, [.ref a0, .ref b0, .int (nI k), .int (nI n), .int r3, .int su, .int 0])), (a0, .inl (ja, 512, .inr (.inl fc))), (b0, .inl (jb, 512, .inr (.inl fv)))] H := hP
        have hD : va_D A [(g0, .inr (1, [.ref a0, .ref b0, .int (nI k), .int (nI n), .int r3, .int su, .int 0])), (a0, .inl (ja, 512, .inr (.inl fc))), (b0, .inl (jb, 512, .inr (.inl fv)))] := hD
        refine lv_aload_n hx hb dX1_add_63 rfl (lv_at hl 1 rfl) ?_
        refine lv_iconst (v := 2) hx hb dX1_add_64 (by decide) ?_
        have hPc := hP.sub (ws' := [(g0, .inr (1, [.ref a0, .ref b0, .int (nI k), .int (nI n), .int r3, .int su, .int 0])), (a0, .inl (ja, 512, .inr (.inl fc))), (b0, .inl (jb, 512, .inr (.inl fv)))]) [0, 1, 2] rfl
        have hDc := hD.sub (ws' := [(g0, .inr (1, [.ref a0, .ref b0, .int (nI k), .int (nI n), .int r3, .int su, .int 0])), (a0, .inl (ja, 512, .inr (.inl fc))), (b0, .inl (jb, 512, .inr (.inl fv)))]) [0, 1, 2] (by decide) rfl
        have hKc := hK.sub (tys' := [(ja, .long), (jb, .long)]) [0, 1] rfl
        have hFc := va_free (wc := [(g0, .inr (1, [.ref a0, .ref b0, .int (nI k), .int (nI n), .int r3, .int su, .int 0])), (a0, .inl (ja, 512, .inr (.inl fc))), (b0, .inl (jb, 512, .inr (.inl fv)))]) hD hS hA [0, 1, 2] rfl
        refine va_calli (va_runV (As := [.int 2]) (rest := []) ⟨hx, hb, hml, hown, hts⟩ (c_fail l dC dI g0 a0 b0 ja jb (nI k) (nI n) fc fv r3 su 0 2 H.size ) (cwV 1 hts (pt_gV pw183 pw184 pw9 pw18 pw185) rfl rfl rfl (by decide +kernel) ⟨Nat.le_of_ble_eq_true rfl, Nat.le_of_ble_eq_true rfl⟩) ⟨fun a U g mk q => by obtain ⟨q0, q1, qP, qK, qD⟩ := q; exact ⟨q0, q1, qP, va_K.moved (u := U) (U := U.calling g mk a) (Vm.Alike.refl U.vm) qK, qD⟩, va_recv hK hP (ci := 1) (q0 := 0) rfl rfl, fun U hU hW => ⟨rfl, by rw [hU], by rw [hU]; exact hPc, va_K.moved hW.alike hKc, hDc.weaken (fun _ _ _ _ => trivial)⟩⟩ rfl rfl hl.1 rfl (lv_room (Nat.le_of_ble_eq_true rfl)) dX1_add_65 ⟨Nat.zero_le _, Nat.zero_le _⟩) hS (fun q _ h => hFc q h) hFc (fun r6 u t H1 locs ht hvm hw hB hz1 hk1 hS => ?_)
        obtain ⟨hP1, hK1, hD1⟩ := hB
        rw [ht] at hP1
        obtain ⟨hP, hD⟩ := va_join (wr := ([] : va_W)) (w1 := [(g0, .inr (1, [.ref a0, .ref b0, .int (nI k), .int (nI n), .int r3, .int su, .int 2])), (a0, .inl (ja, 512, .inr (.inl fc))), (b0, .inl (jb, 512, .inr (.inl fv)))]) hP hD [0, 1, 2] [] rfl rfl (by decide) (by decide) hk1 hFc hP1 hD1
        generalize H1 = H at hP hS ⊢
        have hP : va_P (dC, dI) vwCl [(g0, .inr (1, [.ref a0, .ref b0, .int (nI k), .int (nI n), .int r3, .int su, .int 2])), (a0, .inl (ja, 512, .inr (.inl fc))), (b0, .inl (jb, 512, .inr (.inl fv)))] H := hP
        have hD : va_D A [(g0, .inr (1, [.ref a0, .ref b0, .int (nI k), .int (nI n), .int r3, .int su, .int 2])), (a0, .inl (ja, 512, .inr (.inl fc))), (b0, .inl (jb, 512, .inr (.inl fv)))] := hD
        subst hw
        rw [← hQ]
        exact W.iret (v := 0) hx hb hr (fun t ht hW => ⟨⟨0, ((k, n, fc, fv, r3, su), 2), rfl, Or.inr ⟨hst, Or.inr (Or.inl ⟨hk5, r3, hF, fun z => h4 ((pt_F_neg hk hF).mpr z), rfl, rfl⟩)⟩, by rw [ht]; exact hP, va_K.moved hW.alike hK, hD⟩, hS.F ht⟩) hS.2.2 dX1_add_68
    · have hk5 : k = 512 := (nI_eq (b := 512) (by omega) (by decide)).mp h2
      refine lv_iconst (v := (-1)) hx hb dX1_add_30 (by decide) ?_
      refine lv_goto (tgt := 40) hx hb dX1_add_31 (by decide) ?_
      refine lv_istore (lv' := [(5, .int (-1)), (0, .ref g0), (1, .long a), (3, .long b)]) hx hb dX1_add_40 hl (by decide) rfl (fun ls hl => ?_)
      refine lv_aload_n hx hb dX1_add_42 rfl (lv_at hl 1 rfl) ?_
      refine va_get (D := (dC, dI)) (ci := 1) (v := .int (nI k)) (C := RX1) (T := TX1) (N := 7) hx hb hts (fun w h => List.mem_cons_of_mem _ (pt_wsX1 w h)) hown hK hP 0 rfl rfl 2 (by decide) (hts _ (List.mem_cons_of_mem _ pw163)) (fun _ h9 => h9) rfl dX1_add_43 ?_
      refine lv_sipush (v := 512) hx hb dX1_add_46 (by decide) ?_
      refine lv_icmp_eq (tgt := 57) hx hb dX1_add_49 (by decide) (fun h3 => ?_) (fun h3 => absurd h2 h3)
      refine lv_aload_n hx hb dX1_add_57 rfl (lv_at hl 1 rfl) ?_
      refine lv_iload hx hb dX1_add_58 (lv_at hl 0 rfl) ?_
      refine va_put (D := (dC, dI)) (ci := 1) (v := .int (-1)) (ty := .int) (C := RX1) (T := TX1) (N := 7) hx hb hts (fun w h => List.mem_cons_of_mem _ (pt_wsX1 w h)) tyX1 tyX1_ok nmX1 hown hK hP hD hS 0 rfl rfl 4 (by decide) (hts _ (List.mem_cons_of_mem _ pw165)) (fun _ h9 => h9) rfl (by decide +kernel) rfl rfl (Nat.le_of_ble_eq_true rfl) dX1_add_60 (fun H locs hP hD hS => ?_)
      have hP : va_P (dC, dI) vwCl [(g0, .inr (1, [.ref a0, .ref b0, .int (nI k), .int (nI n), .int (-1), .int su, .int 0])), (a0, .inl (ja, 512, .inr (.inl fc))), (b0, .inl (jb, 512, .inr (.inl fv)))] H := hP
      have hD : va_D A [(g0, .inr (1, [.ref a0, .ref b0, .int (nI k), .int (nI n), .int (-1), .int su, .int 0])), (a0, .inl (ja, 512, .inr (.inl fc))), (b0, .inl (jb, 512, .inr (.inl fv)))] := hD
      refine lv_aload_n hx hb dX1_add_63 rfl (lv_at hl 1 rfl) ?_
      refine lv_iconst (v := 2) hx hb dX1_add_64 (by decide) ?_
      have hPc := hP.sub (ws' := [(g0, .inr (1, [.ref a0, .ref b0, .int (nI k), .int (nI n), .int (-1), .int su, .int 0])), (a0, .inl (ja, 512, .inr (.inl fc))), (b0, .inl (jb, 512, .inr (.inl fv)))]) [0, 1, 2] rfl
      have hDc := hD.sub (ws' := [(g0, .inr (1, [.ref a0, .ref b0, .int (nI k), .int (nI n), .int (-1), .int su, .int 0])), (a0, .inl (ja, 512, .inr (.inl fc))), (b0, .inl (jb, 512, .inr (.inl fv)))]) [0, 1, 2] (by decide) rfl
      have hKc := hK.sub (tys' := [(ja, .long), (jb, .long)]) [0, 1] rfl
      have hFc := va_free (wc := [(g0, .inr (1, [.ref a0, .ref b0, .int (nI k), .int (nI n), .int (-1), .int su, .int 0])), (a0, .inl (ja, 512, .inr (.inl fc))), (b0, .inl (jb, 512, .inr (.inl fv)))]) hD hS hA [0, 1, 2] rfl
      refine va_calli (va_runV (As := [.int 2]) (rest := []) ⟨hx, hb, hml, hown, hts⟩ (c_fail l dC dI g0 a0 b0 ja jb (nI k) (nI n) fc fv (-1) su 0 2 H.size ) (cwV 1 hts (pt_gV pw183 pw184 pw9 pw18 pw185) rfl rfl rfl (by decide +kernel) ⟨Nat.le_of_ble_eq_true rfl, Nat.le_of_ble_eq_true rfl⟩) ⟨fun a U g mk q => by obtain ⟨q0, q1, qP, qK, qD⟩ := q; exact ⟨q0, q1, qP, va_K.moved (u := U) (U := U.calling g mk a) (Vm.Alike.refl U.vm) qK, qD⟩, va_recv hK hP (ci := 1) (q0 := 0) rfl rfl, fun U hU hW => ⟨rfl, by rw [hU], by rw [hU]; exact hPc, va_K.moved hW.alike hKc, hDc.weaken (fun _ _ _ _ => trivial)⟩⟩ rfl rfl hl.1 rfl (lv_room (Nat.le_of_ble_eq_true rfl)) dX1_add_65 ⟨Nat.zero_le _, Nat.zero_le _⟩) hS (fun q _ h => hFc q h) hFc (fun r7 u t H1 locs ht hvm hw hB hz1 hk1 hS => ?_)
      obtain ⟨hP1, hK1, hD1⟩ := hB
      rw [ht] at hP1
      obtain ⟨hP, hD⟩ := va_join (wr := ([] : va_W)) (w1 := [(g0, .inr (1, [.ref a0, .ref b0, .int (nI k), .int (nI n), .int (-1), .int su, .int 2])), (a0, .inl (ja, 512, .inr (.inl fc))), (b0, .inl (jb, 512, .inr (.inl fv)))]) hP hD [0, 1, 2] [] rfl rfl (by decide) (by decide) hk1 hFc hP1 hD1
      generalize H1 = H at hP hS ⊢
      have hP : va_P (dC, dI) vwCl [(g0, .inr (1, [.ref a0, .ref b0, .int (nI k), .int (nI n), .int (-1), .int su, .int 2])), (a0, .inl (ja, 512, .inr (.inl fc))), (b0, .inl (jb, 512, .inr (.inl fv)))] H := hP
      have hD : va_D A [(g0, .inr (1, [.ref a0, .ref b0, .int (nI k), .int (nI n), .int (-1), .int su, .int 2])), (a0, .inl (ja, 512, .inr (.inl fc))), (b0, .inl (jb, 512, .inr (.inl fv)))] := hD
      subst hw
      rw [← hQ]
      exact W.iret (v := 0) hx hb hr (fun t ht hW => ⟨⟨0, ((k, n, fc, fv, -1, su), 2), rfl, Or.inr ⟨hst, Or.inl ⟨hk5, rfl, rfl⟩⟩, by rw [ht]; exact hP, va_K.moved hW.alike hK, hD⟩, hS.F ht⟩) hS.2.2 dX1_add_68
set_option maxHeartbeats 4000000 in
set_option maxRecDepth 100000 in
/-- the reference: signs(digits) -/
theorem c_msigns (l : Launch) (dC : Nat → ClassId) (dI : Nat → Nat → Nat) (g0 a0 b0 : Nat) (ja jb : ClassId) (k n : Nat) (fc fv : Nat → Int64) (cl su th : Int32) (x : Int64) (sz : Nat) (hI : pt_I k n fc fv) : Met l yX1_signs wsX1_signs ({ frames := 4, cells := 0, slots := 0, locals := 95 }) (va_Pc [.ref g0, .long x] (fun U => U.heap.size = sz ∧ va_P (dC, dI) vwCl [(g0, .inr (1, [.ref a0, .ref b0, .int (nI k), .int (nI n), .int cl, .int su, .int th])), (a0, .inl (ja, 512, .inr (.inl fc))), (b0, .inl (jb, 512, .inr (.inl fv)))] U.heap ∧ va_K (dC, dI) vwCl [(ja, .long), (jb, .long)] U ∧ va_D (fun _ => True) [(g0, .inr (1, [.ref a0, .ref b0, .int (nI k), .int (nI n), .int cl, .int su, .int th])), (a0, .inl (ja, 512, .inr (.inl fc))), (b0, .inl (jb, 512, .inr (.inl fv)))])) (va_Qi (fun (r : Int32) u => pt_Rsigns k n fc fv cl su x u.2 r.toInt64 u.1) (fun (u : pt_st × Int32) (t : State) => match u with | ((k2, n2, fc2, fv2, cl2, su2), th2) => va_P (dC, dI) vwCl [(g0, .inr (1, [.ref a0, .ref b0, .int (nI k2), .int (nI n2), .int cl2, .int su2, .int th2])), (a0, .inl (ja, 512, .inr (.inl fc2))), (b0, .inl (jb, 512, .inr (.inl fv2)))] t.heap ∧ va_K (dC, dI) vwCl [(ja, .long), (jb, .long)] t ∧ va_D (va_A [(g0, .inr (1, [.ref a0, .ref b0, .int (nI k), .int (nI n), .int cl, .int su, .int th])), (a0, .inl (ja, 512, .inr (.inl fc))), (b0, .inl (jb, 512, .inr (.inl fv)))] sz) [(g0, .inr (1, [.ref a0, .ref b0, .int (nI k2), .int (nI n2), .int cl2, .int su2, .int th2])), (a0, .inl (ja, 512, .inr (.inl fc2))), (b0, .inl (jb, 512, .inr (.inl fv2)))]) (va_A [(g0, .inr (1, [.ref a0, .ref b0, .int (nI k), .int (nI n), .int cl, .int su, .int th])), (a0, .inl (ja, 512, .inr (.inl fc))), (b0, .inl (jb, 512, .inr (.inl fv)))] sz)) 0 0 (va_A [(g0, .inr (1, [.ref a0, .ref b0, .int (nI k), .int (nI n), .int cl, .int su, .int th])), (a0, .inl (ja, 512, .inr (.inl fc))), (b0, .inl (jb, 512, .inr (.inl fv)))] sz) := by
  refine Met.ofW (cc := cX1_signs) (maxL := 12) (ret := (some .int)) (by decide) rfl ?_
  intro p e s m args below meth c s₁ B hml hv
  obtain ⟨ha, hsz, hP, hK, hD0⟩ := hv
  subst hsz
  have hx := B.exec
  have hb := B.bytes
  have hr := B.returns
  have hts := atoms_spec (ws := wsX1_signs) B.pre
  have hown : s.vm.findClass RX1 = some m.cls := findClass_of_methodNamed B.named
  have hlocks := B.notSynchronized
  have hl := lv_entry ([.ref g0, .long x]) (n := 12) (Nat.le_of_ble_eq_true rfl)
  refine W.eq (show entryFrame m args 12 = entryFrame m ([.ref g0, .long x] : List Value).toArray 12 by rw [ha]) ?_
  rw [lg_entry_eq]
  generalize (lg_sl ([.ref g0, .long x]) ++ List.replicate (12 - (lg_sl ([.ref g0, .long x])).length) Slot.unset).toArray = ls at hl ⊢
  have hl : lv_has ls 12 [(0, .ref g0), (1, .long x)] := hl
  have hD := hD0.self (sz := s.heap.size)
  generalize hAe : va_A [(g0, .inr (1, [.ref a0, .ref b0, .int (nI k), .int (nI n), .int cl, .int su, .int th])), (a0, .inl (ja, 512, .inr (.inl fc))), (b0, .inl (jb, 512, .inr (.inl fv)))] s.heap.size = A at hD ⊢
  have hA : ∀ q : Nat, s.heap.size ≤ q → A q := fun q h => by rw [← hAe]; exact Or.inr h
  have hS : va_S A s.heap s.heap [] := va_S.rf
  generalize hQ : MQ below (va_Qi (fun (r : Int32) u => pt_Rsigns k n fc fv cl su x u.2 r.toInt64 u.1) (fun (u : pt_st × Int32) (t : State) => match u with | ((k2, n2, fc2, fv2, cl2, su2), th2) => va_P (dC, dI) vwCl [(g0, .inr (1, [.ref a0, .ref b0, .int (nI k2), .int (nI n2), .int cl2, .int su2, .int th2])), (a0, .inl (ja, 512, .inr (.inl fc2))), (b0, .inl (jb, 512, .inr (.inl fv2)))] t.heap ∧ va_K (dC, dI) vwCl [(ja, .long), (jb, .long)] t ∧ va_D A [(g0, .inr (1, [.ref a0, .ref b0, .int (nI k2), .int (nI n2), .int cl2, .int su2, .int th2])), (a0, .inl (ja, 512, .inr (.inl fc2))), (b0, .inl (jb, 512, .inr (.inl fv2)))]) A) args s 0 0 A = Q
  have hP : va_P (dC, dI) vwCl [(g0, .inr (1, [.ref a0, .ref b0, .int (nI k), .int (nI n), .int cl, .int su, .int th])), (a0, .inl (ja, 512, .inr (.inl fc))), (b0, .inl (jb, 512, .inr (.inl fv)))] s.heap := hP
  have hn1 := hI.2.1
  have hn2 := hI.2.2.1
  refine lv_aload_n hx hb dX1_signs_0 rfl (lv_at hl 0 rfl) ?_
  refine lv_iconst (v := 0) hx hb dX1_signs_1 (by decide) ?_
  refine va_put (D := (dC, dI)) (ci := 1) (v := .int 0) (ty := .int) (C := RX1) (T := TX1) (N := 7) hx hb hts (fun w h => List.mem_cons_of_mem _ (pt_wsX1 w h)) tyX1 tyX1_ok nmX1 hown hK hP hD hS 0 rfl rfl 6 (by decide) (hts _ (List.mem_cons_of_mem _ pw167)) (fun _ h9 => h9) rfl (by decide +kernel) rfl rfl (Nat.le_of_ble_eq_true rfl) dX1_signs_2 (fun H locs hP hD hS => ?_)
  have hP : va_P (dC, dI) vwCl [(g0, .inr (1, [.ref a0, .ref b0, .int (nI k), .int (nI n), .int cl, .int su, .int 0])), (a0, .inl (ja, 512, .inr (.inl fc))), (b0, .inl (jb, 512, .inr (.inl fv)))] H := hP
  have hD : va_D A [(g0, .inr (1, [.ref a0, .ref b0, .int (nI k), .int (nI n), .int cl, .int su, .int 0])), (a0, .inl (ja, 512, .inr (.inl fc))), (b0, .inl (jb, 512, .inr (.inl fv)))] := hD
  refine lv_lload_n hx hb dX1_signs_5 rfl (lv_at hl 1 rfl) ?_
  refine lv_lconst (v := 0) hx hb dX1_signs_6 (by decide) ?_
  refine W.lcmp hx hb dX1_signs_7 ?_
  refine lv_if_ge (tgt := 17) hx hb dX1_signs_8 (by decide) (fun h1 => ?_) (fun h1 => ?_)
  · obtain ⟨D, hDb, rfl⟩ := pk_lOf (Int64.not_lt.mpr ((lg_cmp_ge _ _).mp h1))
    obtain ⟨M, hM⟩ : ∃ M, M = pt_sn n := ⟨_, rfl⟩
    have hM1 : M ≤ 40 := by rw [hM]; unfold pt_sn; split <;> omega
    have hM2 : M ≤ n := by rw [hM]; unfold pt_sn; split <;> omega
    have hM3 : M = 40 ∨ M = n := by rw [hM]; unfold pt_sn; split <;> omega
    refine lv_lconst (v := 0) hx hb dX1_signs_17 (by decide) ?_
    refine lv_lstore_n (lv' := [(3, .long 0), (0, .ref g0), (1, .long (lN D))]) hx hb dX1_signs_18 rfl hl (by decide) rfl (fun ls hl => ?_)
    refine lv_lconst (v := 0) hx hb dX1_signs_19 (by decide) ?_
    refine lv_lstore (lv' := [(5, .long 0), (3, .long 0), (0, .ref g0), (1, .long (lN D))]) hx hb dX1_signs_20 hl (by decide) rfl (fun ls hl => ?_)
    refine lv_lload_n hx hb dX1_signs_22 rfl (lv_at hl 3 rfl) ?_
    refine lv_lstore (lv' := [(7, .long (lN D)), (5, .long 0), (3, .long 0), (0, .ref g0), (1, .long (lN D))]) hx hb dX1_signs_23 hl (by decide) rfl (fun ls hl => ?_)
    refine lv_iconst (v := 0) hx hb dX1_signs_25 (by decide) ?_
    refine lv_istore (lv' := [(9, .int 0), (7, .long (lN D)), (5, .long 0), (3, .long 0), (0, .ref g0), (1, .long (lN D))]) hx hb dX1_signs_26 hl (by decide) rfl (fun ls hl => ?_)
    have loop : ∀ (d i : Nat) (ls : Array Slot), M - i = d → i ≤ M → lv_has ls 12 [(9, .int (nI i)), (7, .long (lN (D / 3 ^ i))), (5, .long (pt_sw D i)), (3, .long (pt_sc D i)), (0, .ref g0), (1, .long (lN D))] → W p l e (headSpec wsX1_signs ({ frames := 4, cells := 0, slots := 0, locals := 95 })).room s m args below meth c H locs 0 0 Q (F0 m 28 ls []) := by
      intro d
      induction d with
      | zero =>
        intro i ls hd hi hl
        have hiM : i = M := by omega
        rw [hiM] at hl
        refine lv_iload hx hb dX1_signs_28 (lv_at hl 0 rfl) ?_
        refine lv_bipush (v := 40) hx hb dX1_signs_30 (by decide) ?_
        refine lv_icmp_ge (tgt := 98) hx hb dX1_signs_32 (by decide) (fun h2 => ?_) (fun h2 => ?_)
        · refine lv_aload_n hx hb dX1_signs_98 rfl (lv_at hl 4 rfl) ?_
          refine lv_lload_n hx hb dX1_signs_99 rfl (lv_at hl 3 rfl) ?_
          refine lv_lload hx hb dX1_signs_100 (lv_at hl 2 rfl) ?_
          have hPc := hP.sub (ws' := [(g0, .inr (1, [.ref a0, .ref b0, .int (nI k), .int (nI n), .int cl, .int su, .int 0])), (a0, .inl (ja, 512, .inr (.inl fc))), (b0, .inl (jb, 512, .inr (.inl fv)))]) [0, 1, 2] rfl
          have hDc := hD.sub (ws' := [(g0, .inr (1, [.ref a0, .ref b0, .int (nI k), .int (nI n), .int cl, .int su, .int 0])), (a0, .inl (ja, 512, .inr (.inl fc))), (b0, .inl (jb, 512, .inr (.inl fv)))]) [0, 1, 2] (by decide) rfl
          have hKc := hK.sub (tys' := [(ja, .long), (jb, .long)]) [0, 1] rfl
          have hFc := va_free (wc := [(g0, .inr (1, [.ref a0, .ref b0, .int (nI k), .int (nI n), .int cl, .int su, .int 0])), (a0, .inl (ja, 512, .inr (.inl fc))), (b0, .inl (jb, 512, .inr (.inl fv)))]) hD hS hA [0, 1, 2] rfl
          refine va_calli (va_runV (As := [.long (pt_sc D M), .long (pt_sw D M)]) (rest := []) ⟨hx, hb, hml, hown, hts⟩ (c_madd l dC dI g0 a0 b0 ja jb k n fc fv cl su 0 (pt_sc D M) (pt_sw D M) H.size hI) (cwV 2 hts (pt_gV pw209 pw187 pw188 pw18 pw189) rfl rfl rfl (by decide +kernel) ⟨Nat.le_of_ble_eq_true rfl, Nat.le_of_ble_eq_true rfl⟩) ⟨fun a U g mk q => by obtain ⟨q0, q1, qP, qK, qD⟩ := q; exact ⟨q0, q1, qP, va_K.moved (u := U) (U := U.calling g mk a) (Vm.Alike.refl U.vm) qK, qD⟩, va_recv hK hP (ci := 1) (q0 := 0) rfl rfl, fun U hU hW => ⟨rfl, by rw [hU], by rw [hU]; exact hPc, va_K.moved hW.alike hKc, hDc.weaken (fun _ _ _ _ => trivial)⟩⟩ rfl rfl hl.1 rfl (lv_room (Nat.le_of_ble_eq_true rfl)) dX1_signs_102 ⟨Nat.zero_le _, Nat.zero_le _⟩) hS (fun q _ h => hFc q h) hFc (fun r1 u t H1 locs ht hvm hw hB hz1 hk1 hS => ?_)
          obtain ⟨⟨k2, n2, fc2, fv2, cl2, su2⟩, th2⟩ := u
          obtain ⟨hP1, hK1, hD1⟩ := hB
          rw [ht] at hP1
          obtain ⟨hP, hD⟩ := va_join (wr := ([] : va_W)) (w1 := [(g0, .inr (1, [.ref a0, .ref b0, .int (nI k2), .int (nI n2), .int cl2, .int su2, .int th2])), (a0, .inl (ja, 512, .inr (.inl fc2))), (b0, .inl (jb, 512, .inr (.inl fv2)))]) hP hD [0, 1, 2] [] rfl rfl (by decide) (by decide) hk1 hFc hP1 hD1
          generalize H1 = H at hP hS ⊢
          have hP : va_P (dC, dI) vwCl [(g0, .inr (1, [.ref a0, .ref b0, .int (nI k2), .int (nI n2), .int cl2, .int su2, .int th2])), (a0, .inl (ja, 512, .inr (.inl fc2))), (b0, .inl (jb, 512, .inr (.inl fv2)))] H := hP
          have hD : va_D A [(g0, .inr (1, [.ref a0, .ref b0, .int (nI k2), .int (nI n2), .int cl2, .int su2, .int th2])), (a0, .inl (ja, 512, .inr (.inl fc2))), (b0, .inl (jb, 512, .inr (.inl fv2)))] := hD
          rw [← hQ]
          exact W.iret (v := r1) hx hb hr (fun t ht hW => ⟨⟨r1, ((k2, n2, fc2, fv2, cl2, su2), th2), rfl, Or.inr ⟨D, hDb, rfl, pt_Rsigns_of hn1 hn2 hM hw⟩, by rw [ht]; exact hP, va_K.moved hW.alike hK, hD⟩, hS.F ht⟩) hS.2.2 dX1_signs_105
        · refine lv_iload hx hb dX1_signs_35 (lv_at hl 0 rfl) ?_
          refine lv_aload_n hx hb dX1_signs_37 rfl (lv_at hl 4 rfl) ?_
          refine va_get (D := (dC, dI)) (ci := 1) (v := .int (nI n)) (C := RX1) (T := TX1) (N := 7) hx hb hts (fun w h => List.mem_cons_of_mem _ (pt_wsX1 w h)) hown hK hP 0 rfl rfl 3 (by decide) (hts _ (List.mem_cons_of_mem _ pw164)) (fun _ h9 => h9) rfl dX1_signs_38 ?_
          refine lv_icmp_ge (tgt := 98) hx hb dX1_signs_41 (by decide) (fun h3 => ?_) (fun h3 => (hM3.elim (fun z => absurd (nI_le (a := 40) (by omega) (by omega)) h2) (fun z => absurd (nI_le (by omega) (by omega)) h3)))
          refine lv_aload_n hx hb dX1_signs_98 rfl (lv_at hl 4 rfl) ?_
          refine lv_lload_n hx hb dX1_signs_99 rfl (lv_at hl 3 rfl) ?_
          refine lv_lload hx hb dX1_signs_100 (lv_at hl 2 rfl) ?_
          have hPc := hP.sub (ws' := [(g0, .inr (1, [.ref a0, .ref b0, .int (nI k), .int (nI n), .int cl, .int su, .int 0])), (a0, .inl (ja, 512, .inr (.inl fc))), (b0, .inl (jb, 512, .inr (.inl fv)))]) [0, 1, 2] rfl
          have hDc := hD.sub (ws' := [(g0, .inr (1, [.ref a0, .ref b0, .int (nI k), .int (nI n), .int cl, .int su, .int 0])), (a0, .inl (ja, 512, .inr (.inl fc))), (b0, .inl (jb, 512, .inr (.inl fv)))]) [0, 1, 2] (by decide) rfl
          have hKc := hK.sub (tys' := [(ja, .long), (jb, .long)]) [0, 1] rfl
          have hFc := va_free (wc := [(g0, .inr (1, [.ref a0, .ref b0, .int (nI k), .int (nI n), .int cl, .int su, .int 0])), (a0, .inl (ja, 512, .inr (.inl fc))), (b0, .inl (jb, 512, .inr (.inl fv)))]) hD hS hA [0, 1, 2] rfl
          refine va_calli (va_runV (As := [.long (pt_sc D M), .long (pt_sw D M)]) (rest := []) ⟨hx, hb, hml, hown, hts⟩ (c_madd l dC dI g0 a0 b0 ja jb k n fc fv cl su 0 (pt_sc D M) (pt_sw D M) H.size hI) (cwV 2 hts (pt_gV pw209 pw187 pw188 pw18 pw189) rfl rfl rfl (by decide +kernel) ⟨Nat.le_of_ble_eq_true rfl, Nat.le_of_ble_eq_true rfl⟩) ⟨fun a U g mk q => by obtain ⟨q0, q1, qP, qK, qD⟩ := q; exact ⟨q0, q1, qP, va_K.moved (u := U) (U := U.calling g mk a) (Vm.Alike.refl U.vm) qK, qD⟩, va_recv hK hP (ci := 1) (q0 := 0) rfl rfl, fun U hU hW => ⟨rfl, by rw [hU], by rw [hU]; exact hPc, va_K.moved hW.alike hKc, hDc.weaken (fun _ _ _ _ => trivial)⟩⟩ rfl rfl hl.1 rfl (lv_room (Nat.le_of_ble_eq_true rfl)) dX1_signs_102 ⟨Nat.zero_le _, Nat.zero_le _⟩) hS (fun q _ h => hFc q h) hFc (fun r2 u t H1 locs ht hvm hw hB hz1 hk1 hS => ?_)
          obtain ⟨⟨k2, n2, fc2, fv2, cl2, su2⟩, th2⟩ := u
          obtain ⟨hP1, hK1, hD1⟩ := hB
          rw [ht] at hP1
          obtain ⟨hP, hD⟩ := va_join (wr := ([] : va_W)) (w1 := [(g0, .inr (1, [.ref a0, .ref b0, .int (nI k2), .int (nI n2), .int cl2, .int su2, .int th2])), (a0, .inl (ja, 512, .inr (.inl fc2))), (b0, .inl (jb, 512, .inr (.inl fv2)))]) hP hD [0, 1, 2] [] rfl rfl (by decide) (by decide) hk1 hFc hP1 hD1
          generalize H1 = H at hP hS ⊢
          have hP : va_P (dC, dI) vwCl [(g0, .inr (1, [.ref a0, .ref b0, .int (nI k2), .int (nI n2), .int cl2, .int su2, .int th2])), (a0, .inl (ja, 512, .inr (.inl fc2))), (b0, .inl (jb, 512, .inr (.inl fv2)))] H := hP
          have hD : va_D A [(g0, .inr (1, [.ref a0, .ref b0, .int (nI k2), .int (nI n2), .int cl2, .int su2, .int th2])), (a0, .inl (ja, 512, .inr (.inl fc2))), (b0, .inl (jb, 512, .inr (.inl fv2)))] := hD
          rw [← hQ]
          exact W.iret (v := r2) hx hb hr (fun t ht hW => ⟨⟨r2, ((k2, n2, fc2, fv2, cl2, su2), th2), rfl, Or.inr ⟨D, hDb, rfl, pt_Rsigns_of hn1 hn2 hM hw⟩, by rw [ht]; exact hP, va_K.moved hW.alike hK, hD⟩, hS.F ht⟩) hS.2.2 dX1_signs_105
      | succ d ih =>
        intro i ls hd hi hl
        have hDi : D / 3 ^ i < 2 ^ 63 := Nat.lt_of_le_of_lt (Nat.div_le_self _ _) hDb
        refine lv_iload hx hb dX1_signs_28 (lv_at hl 0 rfl) ?_
        refine lv_bipush (v := 40) hx hb dX1_signs_30 (by decide) ?_
        refine lv_icmp_ge (tgt := 98) hx hb dX1_signs_32 (by decide) (fun h2 => absurd h2 (nI_ge (b := 40) (by omega) (by decide))) (fun h2 => ?_)
        refine lv_iload hx hb dX1_signs_35 (lv_at hl 0 rfl) ?_
        refine lv_aload_n hx hb dX1_signs_37 rfl (lv_at hl 4 rfl) ?_
        refine va_get (D := (dC, dI)) (ci := 1) (v := .int (nI n)) (C := RX1) (T := TX1) (N := 7) hx hb hts (fun w h => List.mem_cons_of_mem _ (pt_wsX1 w h)) hown hK hP 0 rfl rfl 3 (by decide) (hts _ (List.mem_cons_of_mem _ pw164)) (fun _ h9 => h9) rfl dX1_signs_38 ?_
        refine lv_icmp_ge (tgt := 98) hx hb dX1_signs_41 (by decide) (fun h3 => absurd h3 (nI_ge (by omega) (by omega))) (fun h3 => ?_)
        refine lv_lload hx hb dX1_signs_44 (lv_at hl 1 rfl) ?_
        refine lv_ldc2 (v := 3) hx hb hown (hts _ (List.mem_cons_of_mem _ pw207)) dX1_signs_46 ?_
        refine lv_lrem hx hb dX1_signs_49 (by decide) ?_
        rw [show lN (D / 3 ^ i) - lN (D / 3 ^ i) / 3 * 3 = lN (D / 3 ^ i % 3) from pk_lRem (b := 3) hDi (by decide) (by decide)]
        refine lv_lstore (lv' := [(10, .long (lN (D / 3 ^ i % 3))), (9, .int (nI i)), (7, .long (lN (D / 3 ^ i))), (5, .long (pt_sw D i)), (3, .long (pt_sc D i)), (0, .ref g0), (1, .long (lN D))]) hx hb dX1_signs_50 hl (by decide) rfl (fun ls hl => ?_)
        refine lv_lload hx hb dX1_signs_52 (lv_at hl 2 rfl) ?_
        refine lv_ldc2 (v := 3) hx hb hown (hts _ (List.mem_cons_of_mem _ pw207)) dX1_signs_54 ?_
        refine lv_ldiv hx hb dX1_signs_57 (by decide) ?_
        rw [show lN (D / 3 ^ i) / 3 = lN (D / 3 ^ (i + 1)) from (pk_lDiv (b := 3) hDi (by decide) (by decide)).trans (congrArg lN (by rw [Nat.div_div_eq_div_mul, Nat.pow_succ]))]
        refine lv_lstore (lv' := [(7, .long (lN (D / 3 ^ (i + 1)))), (10, .long (lN (D / 3 ^ i % 3))), (9, .int (nI i)), (5, .long (pt_sw D i)), (3, .long (pt_sc D i)), (0, .ref g0), (1, .long (lN D))]) hx hb dX1_signs_58 hl (by decide) rfl (fun ls hl => ?_)
        refine lv_lload hx hb dX1_signs_60 (lv_at hl 1 rfl) ?_
        refine lv_ldc2 (v := 2) hx hb hown (hts _ (List.mem_cons_of_mem _ pw208)) dX1_signs_62 ?_
        refine W.lcmp hx hb dX1_signs_65 ?_
        refine lv_if_ge (tgt := 76) hx hb dX1_signs_66 (by decide) (fun h4 => ?_) (fun h4 => ?_)
        · refine lv_lload hx hb dX1_signs_76 (lv_at hl 1 rfl) ?_
          refine lv_lconst (v := 1) hx hb dX1_signs_78 (by decide) ?_
          refine W.lcmp hx hb dX1_signs_79 ?_
          refine lv_if_ne (tgt := 92) hx hb dX1_signs_80 (by decide) (fun h5 => ?_) (fun h5 => ?_)
          · refine lv_iinc (v := nI (i + 1)) (lv' := [(9, .int (nI (i + 1))), (7, .long (lN (D / 3 ^ (i + 1)))), (10, .long (lN (D / 3 ^ i % 3))), (5, .long (pt_sw D i)), (3, .long (pt_sc D i)), (0, .ref g0), (1, .long (lN D))]) hx hb dX1_signs_92 hl (k := 2) rfl (by rw [nI_succ]; rfl) (by decide) rfl (fun ls hl => ?_)
            refine lv_goto (tgt := 28) hx hb dX1_signs_95 (by decide) ?_
            have hl := lv_sub hl [0, 1, 3, 4, 5, 6] rfl
            have hl : lv_has ls 12 [(9, .int (nI (i + 1))), (7, .long (lN (D / 3 ^ (i + 1)))), (5, .long (pt_sw D (i + 1))), (3, .long (pt_sc D (i + 1))), (0, .ref g0), (1, .long (lN D))] := by
              rw [show pt_sw D (i + 1) = pt_sw D i from if_neg (fun z => h5 (pt_cmp0.mpr (by rw [z]; rfl))), show pt_sc D (i + 1) = pt_sc D i from if_pos (pt_d2ge h4)]
              exact hl
            exact ih (i + 1) ls (by omega) (by omega) hl
          · refine lv_lload hx hb dX1_signs_83 (lv_at hl 3 rfl) ?_
            refine lv_lconst (v := 1) hx hb dX1_signs_85 (by decide) ?_
            refine lv_iload hx hb dX1_signs_86 (lv_at hl 2 rfl) ?_
            refine lv_lshl (v := pt_shl 1 (nI i)) hx hb dX1_signs_88 rfl ?_
            refine lv_lor hx hb dX1_signs_89 ?_
            refine lv_lstore (lv' := [(5, .long ((pt_sw D i) ||| (pt_shl 1 (nI i)))), (7, .long (lN (D / 3 ^ (i + 1)))), (10, .long (lN (D / 3 ^ i % 3))), (9, .int (nI i)), (3, .long (pt_sc D i)), (0, .ref g0), (1, .long (lN D))]) hx hb dX1_signs_90 hl (by decide) rfl (fun ls hl => ?_)
            refine lv_iinc (v := nI (i + 1)) (lv' := [(9, .int (nI (i + 1))), (5, .long ((pt_sw D i) ||| (pt_shl 1 (nI i)))), (7, .long (lN (D / 3 ^ (i + 1)))), (10, .long (lN (D / 3 ^ i % 3))), (3, .long (pt_sc D i)), (0, .ref g0), (1, .long (lN D))]) hx hb dX1_signs_92 hl (k := 3) rfl (by rw [nI_succ]; rfl) (by decide) rfl (fun ls hl => ?_)
            refine lv_goto (tgt := 28) hx hb dX1_signs_95 (by decide) ?_
            have hl := lv_sub hl [0, 2, 1, 4, 5, 6] rfl
            have hl : lv_has ls 12 [(9, .int (nI (i + 1))), (7, .long (lN (D / 3 ^ (i + 1)))), (5, .long (pt_sw D (i + 1))), (3, .long (pt_sc D (i + 1))), (0, .ref g0), (1, .long (lN D))] := by
              rw [show pt_sw D (i + 1) = (pt_sw D i) ||| (pt_shl 1 (nI i)) from if_pos ((pk_lEQ (b := 1) (by omega) (by decide)).mp (pt_cmp0.mp h5)), show pt_sc D (i + 1) = pt_sc D i from if_pos (pt_d2ge h4)]
              exact hl
            exact ih (i + 1) ls (by omega) (by omega) hl
        · refine lv_lload_n hx hb dX1_signs_69 rfl (lv_at hl 4 rfl) ?_
          refine lv_lconst (v := 1) hx hb dX1_signs_70 (by decide) ?_
          refine lv_iload hx hb dX1_signs_71 (lv_at hl 2 rfl) ?_
          refine lv_lshl (v := pt_shl 1 (nI i)) hx hb dX1_signs_73 rfl ?_
          refine lv_lor hx hb dX1_signs_74 ?_
          refine lv_lstore_n (lv' := [(3, .long ((pt_sc D i) ||| (pt_shl 1 (nI i)))), (7, .long (lN (D / 3 ^ (i + 1)))), (10, .long (lN (D / 3 ^ i % 3))), (9, .int (nI i)), (5, .long (pt_sw D i)), (0, .ref g0), (1, .long (lN D))]) hx hb dX1_signs_75 rfl hl (by decide) rfl (fun ls hl => ?_)
          refine lv_lload hx hb dX1_signs_76 (lv_at hl 2 rfl) ?_
          refine lv_lconst (v := 1) hx hb dX1_signs_78 (by decide) ?_
          refine W.lcmp hx hb dX1_signs_79 ?_
          refine lv_if_ne (tgt := 92) hx hb dX1_signs_80 (by decide) (fun h5 => ?_) (fun h5 => ?_)
          · refine lv_iinc (v := nI (i + 1)) (lv' := [(9, .int (nI (i + 1))), (3, .long ((pt_sc D i) ||| (pt_shl 1 (nI i)))), (7, .long (lN (D / 3 ^ (i + 1)))), (10, .long (lN (D / 3 ^ i % 3))), (5, .long (pt_sw D i)), (0, .ref g0), (1, .long (lN D))]) hx hb dX1_signs_92 hl (k := 3) rfl (by rw [nI_succ]; rfl) (by decide) rfl (fun ls hl => ?_)
            refine lv_goto (tgt := 28) hx hb dX1_signs_95 (by decide) ?_
            have hl := lv_sub hl [0, 2, 4, 1, 5, 6] rfl
            have hl : lv_has ls 12 [(9, .int (nI (i + 1))), (7, .long (lN (D / 3 ^ (i + 1)))), (5, .long (pt_sw D (i + 1))), (3, .long (pt_sc D (i + 1))), (0, .ref g0), (1, .long (lN D))] := by
              rw [show pt_sw D (i + 1) = pt_sw D i from if_neg (fun z => h5 (pt_cmp0.mpr (by rw [z]; rfl))), show pt_sc D (i + 1) = (pt_sc D i) ||| (pt_shl 1 (nI i)) from if_neg (fun z => h4 (pt_d2is z))]
              exact hl
            exact ih (i + 1) ls (by omega) (by omega) hl
          · refine lv_lload hx hb dX1_signs_83 (lv_at hl 4 rfl) ?_
            refine lv_lconst (v := 1) hx hb dX1_signs_85 (by decide) ?_
            refine lv_iload hx hb dX1_signs_86 (lv_at hl 3 rfl) ?_
            refine lv_lshl (v := pt_shl 1 (nI i)) hx hb dX1_signs_88 rfl ?_
            refine lv_lor hx hb dX1_signs_89 ?_
            refine lv_lstore (lv' := [(5, .long ((pt_sw D i) ||| (pt_shl 1 (nI i)))), (3, .long ((pt_sc D i) ||| (pt_shl 1 (nI i)))), (7, .long (lN (D / 3 ^ (i + 1)))), (10, .long (lN (D / 3 ^ i % 3))), (9, .int (nI i)), (0, .ref g0), (1, .long (lN D))]) hx hb dX1_signs_90 hl (by decide) rfl (fun ls hl => ?_)
            refine lv_iinc (v := nI (i + 1)) (lv' := [(9, .int (nI (i + 1))), (5, .long ((pt_sw D i) ||| (pt_shl 1 (nI i)))), (3, .long ((pt_sc D i) ||| (pt_shl 1 (nI i)))), (7, .long (lN (D / 3 ^ (i + 1)))), (10, .long (lN (D / 3 ^ i % 3))), (0, .ref g0), (1, .long (lN D))]) hx hb dX1_signs_92 hl (k := 4) rfl (by rw [nI_succ]; rfl) (by decide) rfl (fun ls hl => ?_)
            refine lv_goto (tgt := 28) hx hb dX1_signs_95 (by decide) ?_
            have hl := lv_sub hl [0, 3, 1, 2, 5, 6] rfl
            have hl : lv_has ls 12 [(9, .int (nI (i + 1))), (7, .long (lN (D / 3 ^ (i + 1)))), (5, .long (pt_sw D (i + 1))), (3, .long (pt_sc D (i + 1))), (0, .ref g0), (1, .long (lN D))] := by
              rw [show pt_sw D (i + 1) = (pt_sw D i) ||| (pt_shl 1 (nI i)) from if_pos ((pk_lEQ (b := 1) (by omega) (by decide)).mp (pt_cmp0.mp h5)), show pt_sc D (i + 1) = (pt_sc D i) ||| (pt_shl 1 (nI i)) from if_neg (fun z => h4 (pt_d2is z))]
              exact hl
            exact ih (i + 1) ls (by omega) (by omega) hl
    have hl : lv_has ls 12 [(9, .int (nI 0)), (7, .long (lN (D / 3 ^ 0))), (5, .long (pt_sw D 0)), (3, .long (pt_sc D 0)), (0, .ref g0), (1, .long (lN D))] := by
      rw [Nat.pow_zero, Nat.div_one]
      exact lv_sub hl [0, 1, 2, 3, 4, 5] rfl
    exact loop M 0 ls (by omega) (by omega) hl
  · refine lv_aload_n hx hb dX1_signs_11 rfl (lv_at hl 0 rfl) ?_
    refine lv_iconst (v := 1) hx hb dX1_signs_12 (by decide) ?_
    have hPc := hP.sub (ws' := [(g0, .inr (1, [.ref a0, .ref b0, .int (nI k), .int (nI n), .int cl, .int su, .int 0])), (a0, .inl (ja, 512, .inr (.inl fc))), (b0, .inl (jb, 512, .inr (.inl fv)))]) [0, 1, 2] rfl
    have hDc := hD.sub (ws' := [(g0, .inr (1, [.ref a0, .ref b0, .int (nI k), .int (nI n), .int cl, .int su, .int 0])), (a0, .inl (ja, 512, .inr (.inl fc))), (b0, .inl (jb, 512, .inr (.inl fv)))]) [0, 1, 2] (by decide) rfl
    have hKc := hK.sub (tys' := [(ja, .long), (jb, .long)]) [0, 1] rfl
    have hFc := va_free (wc := [(g0, .inr (1, [.ref a0, .ref b0, .int (nI k), .int (nI n), .int cl, .int su, .int 0])), (a0, .inl (ja, 512, .inr (.inl fc))), (b0, .inl (jb, 512, .inr (.inl fv)))]) hD hS hA [0, 1, 2] rfl
    refine va_calli (va_runV (As := [.int 1]) (rest := []) ⟨hx, hb, hml, hown, hts⟩ (c_fail l dC dI g0 a0 b0 ja jb (nI k) (nI n) fc fv cl su 0 1 H.size ) (cwV 1 hts (pt_gV pw183 pw184 pw9 pw18 pw185) rfl rfl rfl (by decide +kernel) ⟨Nat.le_of_ble_eq_true rfl, Nat.le_of_ble_eq_true rfl⟩) ⟨fun a U g mk q => by obtain ⟨q0, q1, qP, qK, qD⟩ := q; exact ⟨q0, q1, qP, va_K.moved (u := U) (U := U.calling g mk a) (Vm.Alike.refl U.vm) qK, qD⟩, va_recv hK hP (ci := 1) (q0 := 0) rfl rfl, fun U hU hW => ⟨rfl, by rw [hU], by rw [hU]; exact hPc, va_K.moved hW.alike hKc, hDc.weaken (fun _ _ _ _ => trivial)⟩⟩ rfl rfl hl.1 rfl (lv_room (Nat.le_of_ble_eq_true rfl)) dX1_signs_13 ⟨Nat.zero_le _, Nat.zero_le _⟩) hS (fun q _ h => hFc q h) hFc (fun r3 u t H1 locs ht hvm hw hB hz1 hk1 hS => ?_)
    obtain ⟨hP1, hK1, hD1⟩ := hB
    rw [ht] at hP1
    obtain ⟨hP, hD⟩ := va_join (wr := ([] : va_W)) (w1 := [(g0, .inr (1, [.ref a0, .ref b0, .int (nI k), .int (nI n), .int cl, .int su, .int 1])), (a0, .inl (ja, 512, .inr (.inl fc))), (b0, .inl (jb, 512, .inr (.inl fv)))]) hP hD [0, 1, 2] [] rfl rfl (by decide) (by decide) hk1 hFc hP1 hD1
    generalize H1 = H at hP hS ⊢
    have hP : va_P (dC, dI) vwCl [(g0, .inr (1, [.ref a0, .ref b0, .int (nI k), .int (nI n), .int cl, .int su, .int 1])), (a0, .inl (ja, 512, .inr (.inl fc))), (b0, .inl (jb, 512, .inr (.inl fv)))] H := hP
    have hD : va_D A [(g0, .inr (1, [.ref a0, .ref b0, .int (nI k), .int (nI n), .int cl, .int su, .int 1])), (a0, .inl (ja, 512, .inr (.inl fc))), (b0, .inl (jb, 512, .inr (.inl fv)))] := hD
    subst hw
    rw [← hQ]
    exact W.iret (v := 0) hx hb hr (fun t ht hW => ⟨⟨0, ((k, n, fc, fv, cl, su), 1), rfl, Or.inl ⟨Int64.not_le.mp (fun z => h1 ((lg_cmp_ge _ _).mpr z)), rfl, rfl⟩, by rw [ht]; exact hP, va_K.moved hW.alike hK, hD⟩, hS.F ht⟩) hS.2.2 dX1_signs_16
end
section
set_option maxHeartbeats 4000000 in
set_option maxRecDepth 100000 in
/-- the reference: drop(i) -/
theorem c_mdrop (l : Launch) (dC : Nat → ClassId) (dI : Nat → Nat → Nat) (g0 a0 b0 : Nat) (ja jb : ClassId) (k n : Nat) (fc fv : Nat → Int64) (cl su th : Int32) (x : Int32) (sz : Nat) (hk : k ≤ 512) : Met l yX1_drop wsX1_drop ({ frames := 1, cells := 0, slots := 0, locals := 21 }) (va_Pc [.ref g0, .int x] (fun U => U.heap.size = sz ∧ va_P (dC, dI) vwCl [(g0, .inr (1, [.ref a0, .ref b0, .int (nI k), .int (nI n), .int cl, .int su, .int th])), (a0, .inl (ja, 512, .inr (.inl fc))), (b0, .inl (jb, 512, .inr (.inl fv)))] U.heap ∧ va_K (dC, dI) vwCl [(ja, .long), (jb, .long)] U ∧ va_D (fun _ => True) [(g0, .inr (1, [.ref a0, .ref b0, .int (nI k), .int (nI n), .int cl, .int su, .int th])), (a0, .inl (ja, 512, .inr (.inl fc))), (b0, .inl (jb, 512, .inr (.inl fv)))])) (va_Qv (fun u => pt_Rdrop k n fc fv cl su x u.2 u.1) (fun (u : pt_st × Int32) (t : State) => match u with | ((k2, n2, fc2, fv2, cl2, su2), th2) => va_P (dC, dI) vwCl [(g0, .inr (1, [.ref a0, .ref b0, .int (nI k2), .int (nI n2), .int cl2, .int su2, .int th2])), (a0, .inl (ja, 512, .inr (.inl fc2))), (b0, .inl (jb, 512, .inr (.inl fv2)))] t.heap ∧ va_K (dC, dI) vwCl [(ja, .long), (jb, .long)] t ∧ va_D (va_A [(g0, .inr (1, [.ref a0, .ref b0, .int (nI k), .int (nI n), .int cl, .int su, .int th])), (a0, .inl (ja, 512, .inr (.inl fc))), (b0, .inl (jb, 512, .inr (.inl fv)))] sz) [(g0, .inr (1, [.ref a0, .ref b0, .int (nI k2), .int (nI n2), .int cl2, .int su2, .int th2])), (a0, .inl (ja, 512, .inr (.inl fc2))), (b0, .inl (jb, 512, .inr (.inl fv2)))]) (va_A [(g0, .inr (1, [.ref a0, .ref b0, .int (nI k), .int (nI n), .int cl, .int su, .int th])), (a0, .inl (ja, 512, .inr (.inl fc))), (b0, .inl (jb, 512, .inr (.inl fv)))] sz)) 0 0 (va_A [(g0, .inr (1, [.ref a0, .ref b0, .int (nI k), .int (nI n), .int cl, .int su, .int th])), (a0, .inl (ja, 512, .inr (.inl fc))), (b0, .inl (jb, 512, .inr (.inl fv)))] sz) := by
  refine Met.ofW (cc := cX1_drop) (maxL := 3) (ret := none) (by decide) rfl ?_
  intro p e s m args below meth c s₁ B hml hv
  obtain ⟨ha, hsz, hP, hK, hD0⟩ := hv
  subst hsz
  have hx := B.exec
  have hb := B.bytes
  have hr := B.returns
  have hts := atoms_spec (ws := wsX1_drop) B.pre
  have hown : s.vm.findClass RX1 = some m.cls := findClass_of_methodNamed B.named
  have hlocks := B.notSynchronized
  have hl := lv_entry ([.ref g0, .int x]) (n := 3) (Nat.le_of_ble_eq_true rfl)
  refine W.eq (show entryFrame m args 3 = entryFrame m ([.ref g0, .int x] : List Value).toArray 3 by rw [ha]) ?_
  rw [lg_entry_eq]
  generalize (lg_sl ([.ref g0, .int x]) ++ List.replicate (3 - (lg_sl ([.ref g0, .int x])).length) Slot.unset).toArray = ls at hl ⊢
  have hl : lv_has ls 3 [(0, .ref g0), (1, .int x)] := hl
  have hD := hD0.self (sz := s.heap.size)
  generalize hAe : va_A [(g0, .inr (1, [.ref a0, .ref b0, .int (nI k), .int (nI n), .int cl, .int su, .int th])), (a0, .inl (ja, 512, .inr (.inl fc))), (b0, .inl (jb, 512, .inr (.inl fv)))] s.heap.size = A at hD ⊢
  have hA : ∀ q : Nat, s.heap.size ≤ q → A q := fun q h => by rw [← hAe]; exact Or.inr h
  have hS : va_S A s.heap s.heap [] := va_S.rf
  generalize hQ : MQ below (va_Qv (fun u => pt_Rdrop k n fc fv cl su x u.2 u.1) (fun (u : pt_st × Int32) (t : State) => match u with | ((k2, n2, fc2, fv2, cl2, su2), th2) => va_P (dC, dI) vwCl [(g0, .inr (1, [.ref a0, .ref b0, .int (nI k2), .int (nI n2), .int cl2, .int su2, .int th2])), (a0, .inl (ja, 512, .inr (.inl fc2))), (b0, .inl (jb, 512, .inr (.inl fv2)))] t.heap ∧ va_K (dC, dI) vwCl [(ja, .long), (jb, .long)] t ∧ va_D A [(g0, .inr (1, [.ref a0, .ref b0, .int (nI k2), .int (nI n2), .int cl2, .int su2, .int th2])), (a0, .inl (ja, 512, .inr (.inl fc2))), (b0, .inl (jb, 512, .inr (.inl fv2)))]) A) args s 0 0 A = Q
  have hP : va_P (dC, dI) vwCl [(g0, .inr (1, [.ref a0, .ref b0, .int (nI k), .int (nI n), .int cl, .int su, .int th])), (a0, .inl (ja, 512, .inr (.inl fc))), (b0, .inl (jb, 512, .inr (.inl fv)))] s.heap := hP
  refine lv_aload_n hx hb dX1_drop_0 rfl (lv_at hl 0 rfl) ?_
  refine lv_iconst (v := 0) hx hb dX1_drop_1 (by decide) ?_
  refine va_put (D := (dC, dI)) (ci := 1) (v := .int 0) (ty := .int) (C := RX1) (T := TX1) (N := 7) hx hb hts (fun w h => List.mem_cons_of_mem _ (pt_wsX1 w h)) tyX1 tyX1_ok nmX1 hown hK hP hD hS 0 rfl rfl 6 (by decide) (hts _ (List.mem_cons_of_mem _ pw167)) (fun _ h9 => h9) rfl (by decide +kernel) rfl rfl (Nat.le_of_ble_eq_true rfl) dX1_drop_2 (fun H locs hP hD hS => ?_)
  have hP : va_P (dC, dI) vwCl [(g0, .inr (1, [.ref a0, .ref b0, .int (nI k), .int (nI n), .int cl, .int su, .int 0])), (a0, .inl (ja, 512, .inr (.inl fc))), (b0, .inl (jb, 512, .inr (.inl fv)))] H := hP
  have hD : va_D A [(g0, .inr (1, [.ref a0, .ref b0, .int (nI k), .int (nI n), .int cl, .int su, .int 0])), (a0, .inl (ja, 512, .inr (.inl fc))), (b0, .inl (jb, 512, .inr (.inl fv)))] := hD
  refine lv_iload_n hx hb dX1_drop_5 rfl (lv_at hl 1 rfl) ?_
  refine lv_if_lt (tgt := 17) hx hb dX1_drop_6 (by decide) (fun h1 => ?_) (fun h1 => ?_)
  · refine lv_aload_n hx hb dX1_drop_17 rfl (lv_at hl 0 rfl) ?_
    refine lv_iconst (v := 1) hx hb dX1_drop_18 (by decide) ?_
    have hPc := hP.sub (ws' := [(g0, .inr (1, [.ref a0, .ref b0, .int (nI k), .int (nI n), .int cl, .int su, .int 0])), (a0, .inl (ja, 512, .inr (.inl fc))), (b0, .inl (jb, 512, .inr (.inl fv)))]) [0, 1, 2] rfl
    have hDc := hD.sub (ws' := [(g0, .inr (1, [.ref a0, .ref b0, .int (nI k), .int (nI n), .int cl, .int su, .int 0])), (a0, .inl (ja, 512, .inr (.inl fc))), (b0, .inl (jb, 512, .inr (.inl fv)))]) [0, 1, 2] (by decide) rfl
    have hKc := hK.sub (tys' := [(ja, .long), (jb, .long)]) [0, 1] rfl
    have hFc := va_free (wc := [(g0, .inr (1, [.ref a0, .ref b0, .int (nI k), .int (nI n), .int cl, .int su, .int 0])), (a0, .inl (ja, 512, .inr (.inl fc))), (b0, .inl (jb, 512, .inr (.inl fv)))]) hD hS hA [0, 1, 2] rfl
    refine va_calli (va_runV (As := [.int 1]) (rest := []) ⟨hx, hb, hml, hown, hts⟩ (c_fail l dC dI g0 a0 b0 ja jb (nI k) (nI n) fc fv cl su 0 1 H.size ) (cwV 1 hts (pt_gV pw183 pw184 pw9 pw18 pw185) rfl rfl rfl (by decide +kernel) ⟨Nat.le_of_ble_eq_true rfl, Nat.le_of_ble_eq_true rfl⟩) ⟨fun a U g mk q => by obtain ⟨q0, q1, qP, qK, qD⟩ := q; exact ⟨q0, q1, qP, va_K.moved (u := U) (U := U.calling g mk a) (Vm.Alike.refl U.vm) qK, qD⟩, va_recv hK hP (ci := 1) (q0 := 0) rfl rfl, fun U hU hW => ⟨rfl, by rw [hU], by rw [hU]; exact hPc, va_K.moved hW.alike hKc, hDc.weaken (fun _ _ _ _ => trivial)⟩⟩ rfl rfl hl.1 rfl (lv_room (Nat.le_of_ble_eq_true rfl)) dX1_drop_19 ⟨Nat.zero_le _, Nat.zero_le _⟩) hS (fun q _ h => hFc q h) hFc (fun r1 u t H1 locs ht hvm hw hB hz1 hk1 hS => ?_)
    obtain ⟨hP1, hK1, hD1⟩ := hB
    rw [ht] at hP1
    obtain ⟨hP, hD⟩ := va_join (wr := ([] : va_W)) (w1 := [(g0, .inr (1, [.ref a0, .ref b0, .int (nI k), .int (nI n), .int cl, .int su, .int 1])), (a0, .inl (ja, 512, .inr (.inl fc))), (b0, .inl (jb, 512, .inr (.inl fv)))]) hP hD [0, 1, 2] [] rfl rfl (by decide) (by decide) hk1 hFc hP1 hD1
    generalize H1 = H at hP hS ⊢
    have hP : va_P (dC, dI) vwCl [(g0, .inr (1, [.ref a0, .ref b0, .int (nI k), .int (nI n), .int cl, .int su, .int 1])), (a0, .inl (ja, 512, .inr (.inl fc))), (b0, .inl (jb, 512, .inr (.inl fv)))] H := hP
    have hD : va_D A [(g0, .inr (1, [.ref a0, .ref b0, .int (nI k), .int (nI n), .int cl, .int su, .int 1])), (a0, .inl (ja, 512, .inr (.inl fc))), (b0, .inl (jb, 512, .inr (.inl fv)))] := hD
    subst hw
    refine lv_pop hx hb dX1_drop_22 rfl ?_
    rw [← hQ]
    exact W.vret hx hb hr (fun t ht hW => ⟨⟨((k, n, fc, fv, cl, su), 1), rfl, Or.inl ⟨Or.inl h1, rfl, rfl⟩, by rw [ht]; exact hP, va_K.moved hW.alike hK, hD⟩, hS.F ht⟩) hS.2.2 dX1_drop_23
  · refine lv_iload_n hx hb dX1_drop_9 rfl (lv_at hl 1 rfl) ?_
    refine lv_aload_n hx hb dX1_drop_10 rfl (lv_at hl 0 rfl) ?_
    refine va_get (D := (dC, dI)) (ci := 1) (v := .int (nI k)) (C := RX1) (T := TX1) (N := 7) hx hb hts (fun w h => List.mem_cons_of_mem _ (pt_wsX1 w h)) hown hK hP 0 rfl rfl 2 (by decide) (hts _ (List.mem_cons_of_mem _ pw163)) (fun _ h9 => h9) rfl dX1_drop_11 ?_
    refine lv_icmp_lt (tgt := 24) hx hb dX1_drop_14 (by decide) (fun h2 => ?_) (fun h2 => ?_)
    · obtain ⟨i, hi, rfl⟩ := pt_at hk h1 h2
      refine lv_iload_n hx hb dX1_drop_24 rfl (lv_at hl 1 rfl) ?_
      refine lv_istore_n (lv' := [(2, .int (nI i)), (0, .ref g0), (1, .int (nI i))]) hx hb dX1_drop_25 rfl hl (by decide) rfl (fun ls hl => ?_)
      have loop : ∀ (d t : Nat) (H : Heap) (locs : List Loc) (ls : Array Slot), k - (t + 1) = d → i ≤ t → t + 1 ≤ k → va_P (dC, dI) vwCl [(g0, .inr (1, [.ref a0, .ref b0, .int (nI k), .int (nI n), .int cl, .int su, .int 0])), (a0, .inl (ja, 512, .inr (.inl (pt_mv fc i (t + 1))))), (b0, .inl (jb, 512, .inr (.inl (pt_mv fv i (t + 1)))))] H → va_D A [(g0, .inr (1, [.ref a0, .ref b0, .int (nI k), .int (nI n), .int cl, .int su, .int 0])), (a0, .inl (ja, 512, .inr (.inl (pt_mv fc i (t + 1))))), (b0, .inl (jb, 512, .inr (.inl (pt_mv fv i (t + 1)))))] → va_S A s.heap H locs → lv_has ls 3 [(2, .int (nI t)), (0, .ref g0), (1, .int (nI i))] → W p l e (headSpec wsX1_drop ({ frames := 1, cells := 0, slots := 0, locals := 21 })).room s m args below meth c H locs 0 0 Q (F0 m 26 ls []) := by
        intro d
        induction d with
        | zero =>
          intro t H locs ls hd hit htk hP hD hS hl
          refine lv_iload_n hx hb dX1_drop_26 rfl (lv_at hl 0 rfl) ?_
          refine lv_iconst (v := 1) hx hb dX1_drop_27 (by decide) ?_
          refine lv_iadd hx hb dX1_drop_28 ?_
          rw [nI_1]
          refine lv_aload_n hx hb dX1_drop_29 rfl (lv_at hl 1 rfl) ?_
          refine va_get (D := (dC, dI)) (ci := 1) (v := .int (nI k)) (C := RX1) (T := TX1) (N := 7) hx hb hts (fun w h => List.mem_cons_of_mem _ (pt_wsX1 w h)) hown hK hP 0 rfl rfl 2 (by decide) (hts _ (List.mem_cons_of_mem _ pw163)) (fun _ h9 => h9) rfl dX1_drop_30 ?_
          refine lv_icmp_ge (tgt := 70) hx hb dX1_drop_33 (by decide) (fun h3 => ?_) (fun h3 => absurd (nI_le (by omega) (by omega)) h3)
          refine lv_aload_n hx hb dX1_drop_70 rfl (lv_at hl 1 rfl) ?_
          refine lv_dup hx hb dX1_drop_71 rfl ?_
          refine va_get (D := (dC, dI)) (ci := 1) (v := .int (nI k)) (C := RX1) (T := TX1) (N := 7) hx hb hts (fun w h => List.mem_cons_of_mem _ (pt_wsX1 w h)) hown hK hP 0 rfl rfl 2 (by decide) (hts _ (List.mem_cons_of_mem _ pw163)) (fun _ h9 => h9) rfl dX1_drop_72 ?_
          refine lv_iconst (v := 1) hx hb dX1_drop_75 (by decide) ?_
          refine lv_isub hx hb dX1_drop_76 ?_
          rw [show nI k - 1 = nI (k - 1) from pk_sub (b := 1) (by omega)]
          refine va_put (D := (dC, dI)) (ci := 1) (v := .int (nI (k - 1))) (ty := .int) (C := RX1) (T := TX1) (N := 7) hx hb hts (fun w h => List.mem_cons_of_mem _ (pt_wsX1 w h)) tyX1 tyX1_ok nmX1 hown hK hP hD hS 0 rfl rfl 2 (by decide) (hts _ (List.mem_cons_of_mem _ pw163)) (fun _ h9 => h9) rfl (by decide +kernel) rfl rfl (Nat.le_of_ble_eq_true rfl) dX1_drop_77 (fun H locs hP hD hS => ?_)
          have hP : va_P (dC, dI) vwCl [(g0, .inr (1, [.ref a0, .ref b0, .int (nI (k - 1)), .int (nI n), .int cl, .int su, .int 0])), (a0, .inl (ja, 512, .inr (.inl (pt_mv fc i (t + 1))))), (b0, .inl (jb, 512, .inr (.inl (pt_mv fv i (t + 1)))))] H := hP
          have hD : va_D A [(g0, .inr (1, [.ref a0, .ref b0, .int (nI (k - 1)), .int (nI n), .int cl, .int su, .int 0])), (a0, .inl (ja, 512, .inr (.inl (pt_mv fc i (t + 1))))), (b0, .inl (jb, 512, .inr (.inl (pt_mv fv i (t + 1)))))] := hD
          rw [show t + 1 = k by omega] at hP hD
          rw [← hQ]
          exact W.vret hx hb hr (fun t ht hW => ⟨⟨((k - 1, n, pt_mv fc i k, pt_mv fv i k, cl, su), 0), rfl, Or.inr ⟨i, hi, rfl, rfl, rfl⟩, by rw [ht]; exact hP, va_K.moved hW.alike hK, hD⟩, hS.F ht⟩) hS.2.2 dX1_drop_80
        | succ d ih =>
          intro t H locs ls hd hit htk hP hD hS hl
          refine lv_iload_n hx hb dX1_drop_26 rfl (lv_at hl 0 rfl) ?_
          refine lv_iconst (v := 1) hx hb dX1_drop_27 (by decide) ?_
          refine lv_iadd hx hb dX1_drop_28 ?_
          rw [nI_1]
          refine lv_aload_n hx hb dX1_drop_29 rfl (lv_at hl 1 rfl) ?_
          refine va_get (D := (dC, dI)) (ci := 1) (v := .int (nI k)) (C := RX1) (T := TX1) (N := 7) hx hb hts (fun w h => List.mem_cons_of_mem _ (pt_wsX1 w h)) hown hK hP 0 rfl rfl 2 (by decide) (hts _ (List.mem_cons_of_mem _ pw163)) (fun _ h9 => h9) rfl dX1_drop_30 ?_
          refine lv_icmp_ge (tgt := 70) hx hb dX1_drop_33 (by decide) (fun h3 => absurd h3 (nI_ge (by omega) (by omega))) (fun h3 => ?_)
          refine lv_aload_n hx hb dX1_drop_36 rfl (lv_at hl 1 rfl) ?_
          refine va_get (D := (dC, dI)) (ci := 1) (v := .ref a0) (C := RX1) (T := TX1) (N := 7) hx hb hts (fun w h => List.mem_cons_of_mem _ (pt_wsX1 w h)) hown hK hP 0 rfl rfl 0 (by decide) (hts _ (List.mem_cons_of_mem _ pw161)) (fun _ h9 => h9) rfl dX1_drop_37 ?_
          refine lv_iload_n hx hb dX1_drop_40 rfl (lv_at hl 0 rfl) ?_
          refine lv_aload_n hx hb dX1_drop_41 rfl (lv_at hl 1 rfl) ?_
          refine va_get (D := (dC, dI)) (ci := 1) (v := .ref a0) (C := RX1) (T := TX1) (N := 7) hx hb hts (fun w h => List.mem_cons_of_mem _ (pt_wsX1 w h)) hown hK hP 0 rfl rfl 0 (by decide) (hts _ (List.mem_cons_of_mem _ pw161)) (fun _ h9 => h9) rfl dX1_drop_42 ?_
          refine lv_iload_n hx hb dX1_drop_45 rfl (lv_at hl 0 rfl) ?_
          refine lv_iconst (v := 1) hx hb dX1_drop_46 (by decide) ?_
          refine lv_iadd hx hb dX1_drop_47 ?_
          rw [nI_1]
          refine va_lald hx hb hK hP 1 0 rfl rfl (vp_in_nI (by omega) (by decide)) dX1_drop_48 ?_
          rw [nI_clamp (by omega)]
          refine va_last hx hb hK hP hD hS 1 0 rfl rfl (vp_in_nI (by omega) (by decide)) dX1_drop_49 (fun H locs hP hD hS => ?_)
          rw [nI_clamp (by omega)] at hP hD
          have hP : va_P (dC, dI) vwCl [(g0, .inr (1, [.ref a0, .ref b0, .int (nI k), .int (nI n), .int cl, .int su, .int 0])), (a0, .inl (ja, 512, .inr (.inl (vp_updL (pt_mv fc i (t + 1)) t ((pt_mv fc i (t + 1)) (t + 1)))))), (b0, .inl (jb, 512, .inr (.inl (pt_mv fv i (t + 1)))))] H := hP
          have hD : va_D A [(g0, .inr (1, [.ref a0, .ref b0, .int (nI k), .int (nI n), .int cl, .int su, .int 0])), (a0, .inl (ja, 512, .inr (.inl (vp_updL (pt_mv fc i (t + 1)) t ((pt_mv fc i (t + 1)) (t + 1)))))), (b0, .inl (jb, 512, .inr (.inl (pt_mv fv i (t + 1)))))] := hD
          rw [show vp_updL (pt_mv fc i (t + 1)) t (pt_mv fc i (t + 1) (t + 1)) = pt_mv fc i (t + 1 + 1) from pt_mv_s fc (by omega)] at hP hD
          refine lv_aload_n hx hb dX1_drop_50 rfl (lv_at hl 1 rfl) ?_
          refine va_get (D := (dC, dI)) (ci := 1) (v := .ref b0) (C := RX1) (T := TX1) (N := 7) hx hb hts (fun w h => List.mem_cons_of_mem _ (pt_wsX1 w h)) hown hK hP 0 rfl rfl 1 (by decide) (hts _ (List.mem_cons_of_mem _ pw162)) (fun _ h9 => h9) rfl dX1_drop_51 ?_
          refine lv_iload_n hx hb dX1_drop_54 rfl (lv_at hl 0 rfl) ?_
          refine lv_aload_n hx hb dX1_drop_55 rfl (lv_at hl 1 rfl) ?_
          refine va_get (D := (dC, dI)) (ci := 1) (v := .ref b0) (C := RX1) (T := TX1) (N := 7) hx hb hts (fun w h => List.mem_cons_of_mem _ (pt_wsX1 w h)) hown hK hP 0 rfl rfl 1 (by decide) (hts _ (List.mem_cons_of_mem _ pw162)) (fun _ h9 => h9) rfl dX1_drop_56 ?_
          refine lv_iload_n hx hb dX1_drop_59 rfl (lv_at hl 0 rfl) ?_
          refine lv_iconst (v := 1) hx hb dX1_drop_60 (by decide) ?_
          refine lv_iadd hx hb dX1_drop_61 ?_
          rw [nI_1]
          refine va_lald hx hb hK hP 2 1 rfl rfl (vp_in_nI (by omega) (by decide)) dX1_drop_62 ?_
          rw [nI_clamp (by omega)]
          refine va_last hx hb hK hP hD hS 2 1 rfl rfl (vp_in_nI (by omega) (by decide)) dX1_drop_63 (fun H locs hP hD hS => ?_)
          rw [nI_clamp (by omega)] at hP hD
          have hP : va_P (dC, dI) vwCl [(g0, .inr (1, [.ref a0, .ref b0, .int (nI k), .int (nI n), .int cl, .int su, .int 0])), (a0, .inl (ja, 512, .inr (.inl (pt_mv fc i (t + 1 + 1))))), (b0, .inl (jb, 512, .inr (.inl (vp_updL (pt_mv fv i (t + 1)) t ((pt_mv fv i (t + 1)) (t + 1))))))] H := hP
          have hD : va_D A [(g0, .inr (1, [.ref a0, .ref b0, .int (nI k), .int (nI n), .int cl, .int su, .int 0])), (a0, .inl (ja, 512, .inr (.inl (pt_mv fc i (t + 1 + 1))))), (b0, .inl (jb, 512, .inr (.inl (vp_updL (pt_mv fv i (t + 1)) t ((pt_mv fv i (t + 1)) (t + 1))))))] := hD
          rw [show vp_updL (pt_mv fv i (t + 1)) t (pt_mv fv i (t + 1) (t + 1)) = pt_mv fv i (t + 1 + 1) from pt_mv_s fv (by omega)] at hP hD
          refine lv_iinc (v := nI (t + 1)) (lv' := [(2, .int (nI (t + 1))), (0, .ref g0), (1, .int (nI i))]) hx hb dX1_drop_64 hl (k := 0) rfl (by rw [nI_succ]; rfl) (by decide) rfl (fun ls hl => ?_)
          refine lv_goto (tgt := 26) hx hb dX1_drop_67 (by decide) ?_
          exact ih (t + 1) H locs ls (by omega) (by omega) (by omega) hP hD hS (lv_sub hl [0, 1, 2] rfl)
      exact loop (k - (i + 1)) i H locs ls rfl (by omega) (by omega) (by rw [pt_mv_0, pt_mv_0]; exact hP) (by rw [pt_mv_0, pt_mv_0]; exact hD) hS (lv_sub hl [0, 1, 2] rfl)
    · refine lv_aload_n hx hb dX1_drop_17 rfl (lv_at hl 0 rfl) ?_
      refine lv_iconst (v := 1) hx hb dX1_drop_18 (by decide) ?_
      have hPc := hP.sub (ws' := [(g0, .inr (1, [.ref a0, .ref b0, .int (nI k), .int (nI n), .int cl, .int su, .int 0])), (a0, .inl (ja, 512, .inr (.inl fc))), (b0, .inl (jb, 512, .inr (.inl fv)))]) [0, 1, 2] rfl
      have hDc := hD.sub (ws' := [(g0, .inr (1, [.ref a0, .ref b0, .int (nI k), .int (nI n), .int cl, .int su, .int 0])), (a0, .inl (ja, 512, .inr (.inl fc))), (b0, .inl (jb, 512, .inr (.inl fv)))]) [0, 1, 2] (by decide) rfl
      have hKc := hK.sub (tys' := [(ja, .long), (jb, .long)]) [0, 1] rfl
      have hFc := va_free (wc := [(g0, .inr (1, [.ref a0, .ref b0, .int (nI k), .int (nI n), .int cl, .int su, .int 0])), (a0, .inl (ja, 512, .inr (.inl fc))), (b0, .inl (jb, 512, .inr (.inl fv)))]) hD hS hA [0, 1, 2] rfl
      refine va_calli (va_runV (As := [.int 1]) (rest := []) ⟨hx, hb, hml, hown, hts⟩ (c_fail l dC dI g0 a0 b0 ja jb (nI k) (nI n) fc fv cl su 0 1 H.size ) (cwV 1 hts (pt_gV pw183 pw184 pw9 pw18 pw185) rfl rfl rfl (by decide +kernel) ⟨Nat.le_of_ble_eq_true rfl, Nat.le_of_ble_eq_true rfl⟩) ⟨fun a U g mk q => by obtain ⟨q0, q1, qP, qK, qD⟩ := q; exact ⟨q0, q1, qP, va_K.moved (u := U) (U := U.calling g mk a) (Vm.Alike.refl U.vm) qK, qD⟩, va_recv hK hP (ci := 1) (q0 := 0) rfl rfl, fun U hU hW => ⟨rfl, by rw [hU], by rw [hU]; exact hPc, va_K.moved hW.alike hKc, hDc.weaken (fun _ _ _ _ => trivial)⟩⟩ rfl rfl hl.1 rfl (lv_room (Nat.le_of_ble_eq_true rfl)) dX1_drop_19 ⟨Nat.zero_le _, Nat.zero_le _⟩) hS (fun q _ h => hFc q h) hFc (fun r2 u t H1 locs ht hvm hw hB hz1 hk1 hS => ?_)
      obtain ⟨hP1, hK1, hD1⟩ := hB
      rw [ht] at hP1
      obtain ⟨hP, hD⟩ := va_join (wr := ([] : va_W)) (w1 := [(g0, .inr (1, [.ref a0, .ref b0, .int (nI k), .int (nI n), .int cl, .int su, .int 1])), (a0, .inl (ja, 512, .inr (.inl fc))), (b0, .inl (jb, 512, .inr (.inl fv)))]) hP hD [0, 1, 2] [] rfl rfl (by decide) (by decide) hk1 hFc hP1 hD1
      generalize H1 = H at hP hS ⊢
      have hP : va_P (dC, dI) vwCl [(g0, .inr (1, [.ref a0, .ref b0, .int (nI k), .int (nI n), .int cl, .int su, .int 1])), (a0, .inl (ja, 512, .inr (.inl fc))), (b0, .inl (jb, 512, .inr (.inl fv)))] H := hP
      have hD : va_D A [(g0, .inr (1, [.ref a0, .ref b0, .int (nI k), .int (nI n), .int cl, .int su, .int 1])), (a0, .inl (ja, 512, .inr (.inl fc))), (b0, .inl (jb, 512, .inr (.inl fv)))] := hD
      subst hw
      refine lv_pop hx hb dX1_drop_22 rfl ?_
      rw [← hQ]
      exact W.vret hx hb hr (fun t ht hW => ⟨⟨((k, n, fc, fv, cl, su), 1), rfl, Or.inl ⟨Or.inr h2, rfl, rfl⟩, by rw [ht]; exact hP, va_K.moved hW.alike hK, hD⟩, hS.F ht⟩) hS.2.2 dX1_drop_23
set_option maxHeartbeats 4000000 in
set_option maxRecDepth 100000 in
/-- the reference: decode(word) -/
theorem c_mdecode (l : Launch) (dC : Nat → ClassId) (dI : Nat → Nat → Nat) (g0 a0 b0 : Nat) (ja jb : ClassId) (k n : Nat) (fc fv : Nat → Int64) (cl su th : Int32) (a : Int64) (sz : Nat) (hI : pt_I k n fc fv) : Met l yX1_decode wsX1_decode ({ frames := 0, cells := 0, slots := 0, locals := 0 }) (va_Pc [.ref g0, .long a] (fun U => U.heap.size = sz ∧ va_P (dC, dI) vwCl [(g0, .inr (1, [.ref a0, .ref b0, .int (nI k), .int (nI n), .int cl, .int su, .int th])), (a0, .inl (ja, 512, .inr (.inl fc))), (b0, .inl (jb, 512, .inr (.inl fv)))] U.heap ∧ va_K (dC, dI) vwCl [(ja, .long), (jb, .long)] U ∧ va_D (fun _ => True) [(g0, .inr (1, [.ref a0, .ref b0, .int (nI k), .int (nI n), .int cl, .int su, .int th])), (a0, .inl (ja, 512, .inr (.inl fc))), (b0, .inl (jb, 512, .inr (.inl fv)))])) (va_Qi (fun (r : Int32) _ => pt_F (fun j => pt_sh (fc j) (fv j) (pt_mk n) (a &&& pt_mk n)) k r) (fun (u : Unit) (t : State) => match u with | _ => va_P (dC, dI) vwCl [(g0, .inr (1, [.ref a0, .ref b0, .int (nI k), .int (nI n), .int cl, .int su, .int 0])), (a0, .inl (ja, 512, .inr (.inl fc))), (b0, .inl (jb, 512, .inr (.inl fv)))] t.heap ∧ va_K (dC, dI) vwCl [(ja, .long), (jb, .long)] t ∧ va_D (va_A [(g0, .inr (1, [.ref a0, .ref b0, .int (nI k), .int (nI n), .int cl, .int su, .int th])), (a0, .inl (ja, 512, .inr (.inl fc))), (b0, .inl (jb, 512, .inr (.inl fv)))] sz) [(g0, .inr (1, [.ref a0, .ref b0, .int (nI k), .int (nI n), .int cl, .int su, .int 0])), (a0, .inl (ja, 512, .inr (.inl fc))), (b0, .inl (jb, 512, .inr (.inl fv)))]) (va_A [(g0, .inr (1, [.ref a0, .ref b0, .int (nI k), .int (nI n), .int cl, .int su, .int th])), (a0, .inl (ja, 512, .inr (.inl fc))), (b0, .inl (jb, 512, .inr (.inl fv)))] sz)) 0 0 (va_A [(g0, .inr (1, [.ref a0, .ref b0, .int (nI k), .int (nI n), .int cl, .int su, .int th])), (a0, .inl (ja, 512, .inr (.inl fc))), (b0, .inl (jb, 512, .inr (.inl fv)))] sz) := by
  refine Met.ofW (cc := cX1_decode) (maxL := 6) (ret := (some .int)) (by decide) rfl ?_
  intro p e s m args below meth c s₁ B hml hv
  obtain ⟨ha, hsz, hP, hK, hD0⟩ := hv
  subst hsz
  have hx := B.exec
  have hb := B.bytes
  have hr := B.returns
  have hts := atoms_spec (ws := wsX1_decode) B.pre
  have hown : s.vm.findClass RX1 = some m.cls := findClass_of_methodNamed B.named
  have hlocks := B.notSynchronized
  have hl := lv_entry ([.ref g0, .long a]) (n := 6) (Nat.le_of_ble_eq_true rfl)
  refine W.eq (show entryFrame m args 6 = entryFrame m ([.ref g0, .long a] : List Value).toArray 6 by rw [ha]) ?_
  rw [lg_entry_eq]
  generalize (lg_sl ([.ref g0, .long a]) ++ List.replicate (6 - (lg_sl ([.ref g0, .long a])).length) Slot.unset).toArray = ls at hl ⊢
  have hl : lv_has ls 6 [(0, .ref g0), (1, .long a)] := hl
  have hD := hD0.self (sz := s.heap.size)
  generalize hAe : va_A [(g0, .inr (1, [.ref a0, .ref b0, .int (nI k), .int (nI n), .int cl, .int su, .int th])), (a0, .inl (ja, 512, .inr (.inl fc))), (b0, .inl (jb, 512, .inr (.inl fv)))] s.heap.size = A at hD ⊢
  have hA : ∀ q : Nat, s.heap.size ≤ q → A q := fun q h => by rw [← hAe]; exact Or.inr h
  have hS : va_S A s.heap s.heap [] := va_S.rf
  generalize hQ : MQ below (va_Qi (fun (r : Int32) _ => pt_F (fun j => pt_sh (fc j) (fv j) (pt_mk n) (a &&& pt_mk n)) k r) (fun (u : Unit) (t : State) => match u with | _ => va_P (dC, dI) vwCl [(g0, .inr (1, [.ref a0, .ref b0, .int (nI k), .int (nI n), .int cl, .int su, .int 0])), (a0, .inl (ja, 512, .inr (.inl fc))), (b0, .inl (jb, 512, .inr (.inl fv)))] t.heap ∧ va_K (dC, dI) vwCl [(ja, .long), (jb, .long)] t ∧ va_D A [(g0, .inr (1, [.ref a0, .ref b0, .int (nI k), .int (nI n), .int cl, .int su, .int 0])), (a0, .inl (ja, 512, .inr (.inl fc))), (b0, .inl (jb, 512, .inr (.inl fv)))]) A) args s 0 0 A = Q
  have hP : va_P (dC, dI) vwCl [(g0, .inr (1, [.ref a0, .ref b0, .int (nI k), .int (nI n), .int cl, .int su, .int th])), (a0, .inl (ja, 512, .inr (.inl fc))), (b0, .inl (jb, 512, .inr (.inl fv)))] s.heap := hP
  have hk := hI.1
  refine lv_aload_n hx hb dX1_decode_0 rfl (lv_at hl 0 rfl) ?_
  refine lv_iconst (v := 0) hx hb dX1_decode_1 (by decide) ?_
  refine va_put (D := (dC, dI)) (ci := 1) (v := .int 0) (ty := .int) (C := RX1) (T := TX1) (N := 7) hx hb hts (fun w h => List.mem_cons_of_mem _ (pt_wsX1 w h)) tyX1 tyX1_ok nmX1 hown hK hP hD hS 0 rfl rfl 6 (by decide) (hts _ (List.mem_cons_of_mem _ pw167)) (fun _ h9 => h9) rfl (by decide +kernel) rfl rfl (Nat.le_of_ble_eq_true rfl) dX1_decode_2 (fun H locs hP hD hS => ?_)
  have hP : va_P (dC, dI) vwCl [(g0, .inr (1, [.ref a0, .ref b0, .int (nI k), .int (nI n), .int cl, .int su, .int 0])), (a0, .inl (ja, 512, .inr (.inl fc))), (b0, .inl (jb, 512, .inr (.inl fv)))] H := hP
  have hD : va_D A [(g0, .inr (1, [.ref a0, .ref b0, .int (nI k), .int (nI n), .int cl, .int su, .int 0])), (a0, .inl (ja, 512, .inr (.inl fc))), (b0, .inl (jb, 512, .inr (.inl fv)))] := hD
  refine lv_iconst (v := 0) hx hb dX1_decode_5 (by decide) ?_
  refine lv_istore_n (lv' := [(3, .int 0), (0, .ref g0), (1, .long a)]) hx hb dX1_decode_6 rfl hl (by decide) rfl (fun ls hl => ?_)
  refine lv_iconst (v := (-1)) hx hb dX1_decode_7 (by decide) ?_
  refine lv_istore (lv' := [(4, .int (-1)), (3, .int 0), (0, .ref g0), (1, .long a)]) hx hb dX1_decode_8 hl (by decide) rfl (fun ls hl => ?_)
  refine lv_iconst (v := 0) hx hb dX1_decode_10 (by decide) ?_
  refine lv_istore (lv' := [(5, .int 0), (4, .int (-1)), (3, .int 0), (0, .ref g0), (1, .long a)]) hx hb dX1_decode_11 hl (by decide) rfl (fun ls hl => ?_)
  have loop : ∀ (d i : Nat) (r q : Int32) (ls : Array Slot), k - i = d → i ≤ k → pt_F (fun j => pt_sh (fc j) (fv j) (pt_mk n) (a &&& pt_mk n)) i r → ((r = -1 ∧ q = 0) ∨ (¬ r = -1 ∧ q = 1)) → lv_has ls 6 [(5, .int (nI i)), (4, .int r), (3, .int q), (0, .ref g0), (1, .long a)] → W p l e (headSpec wsX1_decode ({ frames := 0, cells := 0, slots := 0, locals := 0 })).room s m args below meth c H locs 0 0 Q (F0 m 13 ls []) := by
    intro d
    induction d with
    | zero =>
      intro i r q ls hd hik hF hq hl
      have hik2 : i = k := by omega
      rw [hik2] at hF
      refine lv_iload hx hb dX1_decode_13 (lv_at hl 0 rfl) ?_
      refine lv_aload_n hx hb dX1_decode_15 rfl (lv_at hl 3 rfl) ?_
      refine va_get (D := (dC, dI)) (ci := 1) (v := .int (nI k)) (C := RX1) (T := TX1) (N := 7) hx hb hts (fun w h => List.mem_cons_of_mem _ (pt_wsX1 w h)) hown hK hP 0 rfl rfl 2 (by decide) (hts _ (List.mem_cons_of_mem _ pw163)) (fun _ h9 => h9) rfl dX1_decode_16 ?_
      refine lv_icmp_ge (tgt := 62) hx hb dX1_decode_19 (by decide) (fun h1 => ?_) (fun h1 => absurd (nI_le (by omega) (by omega)) h1)
      refine lv_iload_n hx hb dX1_decode_62 rfl (lv_at hl 2 rfl) ?_
      refine lv_iconst (v := 1) hx hb dX1_decode_63 (by decide) ?_
      refine lv_icmp_le (tgt := 79) hx hb dX1_decode_64 (by decide) (fun h2 => ?_) (fun h2 => absurd (by rcases hq with ⟨-, z⟩ | ⟨-, z⟩ <;> rw [z] <;> decide) h2)
      refine lv_iload hx hb dX1_decode_79 (lv_at hl 1 rfl) ?_
      rw [← hQ]
      exact W.iret (v := r) hx hb hr (fun t ht hW => ⟨⟨r, (), rfl, hF, by rw [ht]; exact hP, va_K.moved hW.alike hK, hD⟩, hS.F ht⟩) hS.2.2 dX1_decode_81
    | succ d ih =>
      intro i r q ls hd hik hF hq hl
      refine lv_iload hx hb dX1_decode_13 (lv_at hl 0 rfl) ?_
      refine lv_aload_n hx hb dX1_decode_15 rfl (lv_at hl 3 rfl) ?_
      refine va_get (D := (dC, dI)) (ci := 1) (v := .int (nI k)) (C := RX1) (T := TX1) (N := 7) hx hb hts (fun w h => List.mem_cons_of_mem _ (pt_wsX1 w h)) hown hK hP 0 rfl rfl 2 (by decide) (hts _ (List.mem_cons_of_mem _ pw163)) (fun _ h9 => h9) rfl dX1_decode_16 ?_
      refine lv_icmp_ge (tgt := 62) hx hb dX1_decode_19 (by decide) (fun h1 => absurd h1 (nI_ge (by omega) (by omega))) (fun h1 => ?_)
      refine lv_lload_n hx hb dX1_decode_22 rfl (lv_at hl 4 rfl) ?_
      refine lv_aload_n hx hb dX1_decode_23 rfl (lv_at hl 3 rfl) ?_
      refine va_get (D := (dC, dI)) (ci := 1) (v := .ref a0) (C := RX1) (T := TX1) (N := 7) hx hb hts (fun w h => List.mem_cons_of_mem _ (pt_wsX1 w h)) hown hK hP 0 rfl rfl 0 (by decide) (hts _ (List.mem_cons_of_mem _ pw161)) (fun _ h9 => h9) rfl dX1_decode_24 ?_
      refine lv_iload hx hb dX1_decode_27 (lv_at hl 0 rfl) ?_
      refine va_lald hx hb hK hP 1 0 rfl rfl (vp_in_nI (by omega) (by decide)) dX1_decode_29 ?_
      rw [nI_clamp (by omega)]
      refine lv_land hx hb dX1_decode_30 ?_
      refine lv_aload_n hx hb dX1_decode_31 rfl (lv_at hl 3 rfl) ?_
      refine va_get (D := (dC, dI)) (ci := 1) (v := .ref b0) (C := RX1) (T := TX1) (N := 7) hx hb hts (fun w h => List.mem_cons_of_mem _ (pt_wsX1 w h)) hown hK hP 0 rfl rfl 1 (by decide) (hts _ (List.mem_cons_of_mem _ pw162)) (fun _ h9 => h9) rfl dX1_decode_32 ?_
      refine lv_iload hx hb dX1_decode_35 (lv_at hl 0 rfl) ?_
      refine va_lald hx hb hK hP 2 1 rfl rfl (vp_in_nI (by omega) (by decide)) dX1_decode_37 ?_
      rw [nI_clamp (by omega)]
      refine W.lcmp hx hb dX1_decode_38 ?_
      have hdec := pt_sh_dec (a := fc i) (b := fv i) a (hI.2.2.2.1 i (by omega)) (hI.2.2.2.2.1 i (by omega))
      refine lv_if_eq (tgt := 45) hx hb dX1_decode_39 (by decide) (fun h2 => ?_) (fun h2 => ?_)
      · have hs := hdec.mpr (pt_cmp0.mp h2)
        rcases hq with ⟨hr1, rfl⟩ | ⟨hr1, -⟩
        · refine lv_iload_n hx hb dX1_decode_45 rfl (lv_at hl 2 rfl) ?_
          refine lv_if_ne (tgt := 53) hx hb dX1_decode_46 (by decide) (fun h3 => absurd rfl h3) (fun h3 => ?_)
          refine lv_iload hx hb dX1_decode_49 (lv_at hl 0 rfl) ?_
          refine lv_istore (lv' := [(4, .int (nI i)), (5, .int (nI i)), (3, .int 0), (0, .ref g0), (1, .long a)]) hx hb dX1_decode_51 hl (by decide) rfl (fun ls hl => ?_)
          refine lv_iinc (v := 1) (lv' := [(3, .int 1), (4, .int (nI i)), (5, .int (nI i)), (0, .ref g0), (1, .long a)]) hx hb dX1_decode_53 hl (k := 2) rfl (by decide) (by decide) rfl (fun ls hl => ?_)
          refine lv_iinc (v := nI (i + 1)) (lv' := [(5, .int (nI (i + 1))), (3, .int 1), (4, .int (nI i)), (0, .ref g0), (1, .long a)]) hx hb dX1_decode_56 hl (k := 2) rfl (by rw [nI_succ]; rfl) (by decide) rfl (fun ls hl => ?_)
          refine lv_goto (tgt := 13) hx hb dX1_decode_59 (by decide) ?_
          exact ih (i + 1) (nI i) 1 ls (by omega) (by omega) (pt_F_hit (hr1 ▸ hF) hs (by omega)) (Or.inr ⟨pt_nI_ne (by omega), rfl⟩) (lv_sub hl [0, 2, 1, 3, 4] rfl)
        · exact absurd hs (pt_I_two hI (by omega) hF hr1)
      · refine lv_goto (tgt := 56) hx hb dX1_decode_42 (by decide) ?_
        refine lv_iinc (v := nI (i + 1)) (lv' := [(5, .int (nI (i + 1))), (4, .int r), (3, .int q), (0, .ref g0), (1, .long a)]) hx hb dX1_decode_56 hl (k := 0) rfl (by rw [nI_succ]; rfl) (by decide) rfl (fun ls hl => ?_)
        refine lv_goto (tgt := 13) hx hb dX1_decode_59 (by decide) ?_
        exact ih (i + 1) r q ls (by omega) (by omega) (pt_F_miss hF (fun z => h2 (pt_cmp0.mpr (hdec.mp z)))) hq (lv_sub hl [0, 1, 2, 3, 4] rfl)
  exact loop k 0 (-1) 0 ls (by omega) (by omega) (Or.inl ⟨rfl, lt_0⟩) (Or.inl ⟨rfl, rfl⟩) (lv_sub hl [0, 1, 2, 3, 4] rfl)
set_option maxHeartbeats 4000000 in
set_option maxRecDepth 100000 in
/-- the reference: meets(c, w) -/
theorem c_mmeets (l : Launch) (dC : Nat → ClassId) (dI : Nat → Nat → Nat) (g0 a0 b0 : Nat) (ja jb : ClassId) (k n : Nat) (fc fv : Nat → Int64) (cl su th : Int32) (a b : Int64) (sz : Nat) (hI : pt_I k n fc fv) : Met l yX1_meets wsX1_meets ({ frames := 3, cells := 0, slots := 0, locals := 70 }) (va_Pc [.ref g0, .long a, .long b] (fun U => U.heap.size = sz ∧ va_P (dC, dI) vwCl [(g0, .inr (1, [.ref a0, .ref b0, .int (nI k), .int (nI n), .int cl, .int su, .int th])), (a0, .inl (ja, 512, .inr (.inl fc))), (b0, .inl (jb, 512, .inr (.inl fv)))] U.heap ∧ va_K (dC, dI) vwCl [(ja, .long), (jb, .long)] U ∧ va_D (fun _ => True) [(g0, .inr (1, [.ref a0, .ref b0, .int (nI k), .int (nI n), .int cl, .int su, .int th])), (a0, .inl (ja, 512, .inr (.inl fc))), (b0, .inl (jb, 512, .inr (.inl fv)))])) (va_Qi (fun (r : Int32) u => pt_Rmeets k n fc fv a b u r.toInt64) (fun (u : Int32) (t : State) => match u with | th2 => va_P (dC, dI) vwCl [(g0, .inr (1, [.ref a0, .ref b0, .int (nI k), .int (nI n), .int cl, .int su, .int th2])), (a0, .inl (ja, 512, .inr (.inl fc))), (b0, .inl (jb, 512, .inr (.inl fv)))] t.heap ∧ va_K (dC, dI) vwCl [(ja, .long), (jb, .long)] t ∧ va_D (va_A [(g0, .inr (1, [.ref a0, .ref b0, .int (nI k), .int (nI n), .int cl, .int su, .int th])), (a0, .inl (ja, 512, .inr (.inl fc))), (b0, .inl (jb, 512, .inr (.inl fv)))] sz) [(g0, .inr (1, [.ref a0, .ref b0, .int (nI k), .int (nI n), .int cl, .int su, .int th2])), (a0, .inl (ja, 512, .inr (.inl fc))), (b0, .inl (jb, 512, .inr (.inl fv)))]) (va_A [(g0, .inr (1, [.ref a0, .ref b0, .int (nI k), .int (nI n), .int cl, .int su, .int th])), (a0, .inl (ja, 512, .inr (.inl fc))), (b0, .inl (jb, 512, .inr (.inl fv)))] sz)) 0 0 (va_A [(g0, .inr (1, [.ref a0, .ref b0, .int (nI k), .int (nI n), .int cl, .int su, .int th])), (a0, .inl (ja, 512, .inr (.inl fc))), (b0, .inl (jb, 512, .inr (.inl fv)))] sz) := by
  refine Met.ofW (cc := cX1_meets) (maxL := 5) (ret := (some .int)) (by decide) rfl ?_
  intro p e s m args below meth c s₁ B hml hv
  obtain ⟨ha, hsz, hP, hK, hD0⟩ := hv
  subst hsz
  have hx := B.exec
  have hb := B.bytes
  have hr := B.returns
  have hts := atoms_spec (ws := wsX1_meets) B.pre
  have hown : s.vm.findClass RX1 = some m.cls := findClass_of_methodNamed B.named
  have hlocks := B.notSynchronized
  have hl := lv_entry ([.ref g0, .long a, .long b]) (n := 5) (Nat.le_of_ble_eq_true rfl)
  refine W.eq (show entryFrame m args 5 = entryFrame m ([.ref g0, .long a, .long b] : List Value).toArray 5 by rw [ha]) ?_
  rw [lg_entry_eq]
  generalize (lg_sl ([.ref g0, .long a, .long b]) ++ List.replicate (5 - (lg_sl ([.ref g0, .long a, .long b])).length) Slot.unset).toArray = ls at hl ⊢
  have hl : lv_has ls 5 [(0, .ref g0), (1, .long a), (3, .long b)] := hl
  have hD := hD0.self (sz := s.heap.size)
  generalize hAe : va_A [(g0, .inr (1, [.ref a0, .ref b0, .int (nI k), .int (nI n), .int cl, .int su, .int th])), (a0, .inl (ja, 512, .inr (.inl fc))), (b0, .inl (jb, 512, .inr (.inl fv)))] s.heap.size = A at hD ⊢
  have hA : ∀ q : Nat, s.heap.size ≤ q → A q := fun q h => by rw [← hAe]; exact Or.inr h
  have hS : va_S A s.heap s.heap [] := va_S.rf
  generalize hQ : MQ below (va_Qi (fun (r : Int32) u => pt_Rmeets k n fc fv a b u r.toInt64) (fun (u : Int32) (t : State) => match u with | th2 => va_P (dC, dI) vwCl [(g0, .inr (1, [.ref a0, .ref b0, .int (nI k), .int (nI n), .int cl, .int su, .int th2])), (a0, .inl (ja, 512, .inr (.inl fc))), (b0, .inl (jb, 512, .inr (.inl fv)))] t.heap ∧ va_K (dC, dI) vwCl [(ja, .long), (jb, .long)] t ∧ va_D A [(g0, .inr (1, [.ref a0, .ref b0, .int (nI k), .int (nI n), .int cl, .int su, .int th2])), (a0, .inl (ja, 512, .inr (.inl fc))), (b0, .inl (jb, 512, .inr (.inl fv)))]) A) args s 0 0 A = Q
  have hP : va_P (dC, dI) vwCl [(g0, .inr (1, [.ref a0, .ref b0, .int (nI k), .int (nI n), .int cl, .int su, .int th])), (a0, .inl (ja, 512, .inr (.inl fc))), (b0, .inl (jb, 512, .inr (.inl fv)))] s.heap := hP
  have hn1 := hI.2.1
  have hn2 := hI.2.2.1
  have hk := hI.1
  refine lv_aload_n hx hb dX1_meets_0 rfl (lv_at hl 0 rfl) ?_
  refine lv_iconst (v := 0) hx hb dX1_meets_1 (by decide) ?_
  refine va_put (D := (dC, dI)) (ci := 1) (v := .int 0) (ty := .int) (C := RX1) (T := TX1) (N := 7) hx hb hts (fun w h => List.mem_cons_of_mem _ (pt_wsX1 w h)) tyX1 tyX1_ok nmX1 hown hK hP hD hS 0 rfl rfl 6 (by decide) (hts _ (List.mem_cons_of_mem _ pw167)) (fun _ h9 => h9) rfl (by decide +kernel) rfl rfl (Nat.le_of_ble_eq_true rfl) dX1_meets_2 (fun H locs hP hD hS => ?_)
  have hP : va_P (dC, dI) vwCl [(g0, .inr (1, [.ref a0, .ref b0, .int (nI k), .int (nI n), .int cl, .int su, .int 0])), (a0, .inl (ja, 512, .inr (.inl fc))), (b0, .inl (jb, 512, .inr (.inl fv)))] H := hP
  have hD : va_D A [(g0, .inr (1, [.ref a0, .ref b0, .int (nI k), .int (nI n), .int cl, .int su, .int 0])), (a0, .inl (ja, 512, .inr (.inl fc))), (b0, .inl (jb, 512, .inr (.inl fv)))] := hD
  refine lv_aload_n hx hb dX1_meets_5 rfl (lv_at hl 0 rfl) ?_
  refine lv_lload_n hx hb dX1_meets_6 rfl (lv_at hl 1 rfl) ?_
  refine lv_lload_n hx hb dX1_meets_7 rfl (lv_at hl 2 rfl) ?_
  refine vp_callSi (W.runV (As := [.long a, .long b]) (rest := []) ⟨hx, hb, hml, hown, hts⟩ (c_wrong l dC dI g0 a0 b0 ja jb k n fc fv cl su 0 a b hn1 hn2) (cwV 2 hts (pt_gV pw190 pw191 pw10 pw18 pw192) rfl rfl rfl (by decide +kernel) ⟨Nat.le_of_ble_eq_true rfl, Nat.le_of_ble_eq_true rfl⟩) ⟨fun a U g mk q => by obtain ⟨q0, qP, qK⟩ := q; exact ⟨q0, qP, va_K.moved (u := U) (U := U.calling g mk a) (Vm.Alike.refl U.vm) qK⟩, va_recv hK hP (ci := 1) (q0 := 0) rfl rfl, fun U hU hW => ⟨rfl, by rw [hU]; exact hP, va_K.moved hW.alike hK⟩⟩ rfl rfl hl.1 rfl (lv_room (Nat.le_of_ble_eq_true rfl)) dX1_meets_8 ⟨Nat.zero_le _, Nat.zero_le _⟩) (fun r1 hw => ?_)
  rcases hw with ⟨rfl, hst⟩ | ⟨rfl, hst⟩
  · refine lv_if_eq (tgt := 22) hx hb dX1_meets_11 (by decide) (fun h1 => absurd h1 (by decide)) (fun h1 => ?_)
    refine lv_aload_n hx hb dX1_meets_14 rfl (lv_at hl 0 rfl) ?_
    refine lv_iconst (v := 1) hx hb dX1_meets_15 (by decide) ?_
    have hPc := hP.sub (ws' := [(g0, .inr (1, [.ref a0, .ref b0, .int (nI k), .int (nI n), .int cl, .int su, .int 0])), (a0, .inl (ja, 512, .inr (.inl fc))), (b0, .inl (jb, 512, .inr (.inl fv)))]) [0, 1, 2] rfl
    have hDc := hD.sub (ws' := [(g0, .inr (1, [.ref a0, .ref b0, .int (nI k), .int (nI n), .int cl, .int su, .int 0])), (a0, .inl (ja, 512, .inr (.inl fc))), (b0, .inl (jb, 512, .inr (.inl fv)))]) [0, 1, 2] (by decide) rfl
    have hKc := hK.sub (tys' := [(ja, .long), (jb, .long)]) [0, 1] rfl
    have hFc := va_free (wc := [(g0, .inr (1, [.ref a0, .ref b0, .int (nI k), .int (nI n), .int cl, .int su, .int 0])), (a0, .inl (ja, 512, .inr (.inl fc))), (b0, .inl (jb, 512, .inr (.inl fv)))]) hD hS hA [0, 1, 2] rfl
    refine va_calli (va_runV (As := [.int 1]) (rest := []) ⟨hx, hb, hml, hown, hts⟩ (c_fail l dC dI g0 a0 b0 ja jb (nI k) (nI n) fc fv cl su 0 1 H.size ) (cwV 1 hts (pt_gV pw183 pw184 pw9 pw18 pw185) rfl rfl rfl (by decide +kernel) ⟨Nat.le_of_ble_eq_true rfl, Nat.le_of_ble_eq_true rfl⟩) ⟨fun a U g mk q => by obtain ⟨q0, q1, qP, qK, qD⟩ := q; exact ⟨q0, q1, qP, va_K.moved (u := U) (U := U.calling g mk a) (Vm.Alike.refl U.vm) qK, qD⟩, va_recv hK hP (ci := 1) (q0 := 0) rfl rfl, fun U hU hW => ⟨rfl, by rw [hU], by rw [hU]; exact hPc, va_K.moved hW.alike hKc, hDc.weaken (fun _ _ _ _ => trivial)⟩⟩ rfl rfl hl.1 rfl (lv_room (Nat.le_of_ble_eq_true rfl)) dX1_meets_16 ⟨Nat.zero_le _, Nat.zero_le _⟩) hS (fun q _ h => hFc q h) hFc (fun r2 u t H1 locs ht hvm hw hB hz1 hk1 hS => ?_)
    obtain ⟨hP1, hK1, hD1⟩ := hB
    rw [ht] at hP1
    obtain ⟨hP, hD⟩ := va_join (wr := ([] : va_W)) (w1 := [(g0, .inr (1, [.ref a0, .ref b0, .int (nI k), .int (nI n), .int cl, .int su, .int 1])), (a0, .inl (ja, 512, .inr (.inl fc))), (b0, .inl (jb, 512, .inr (.inl fv)))]) hP hD [0, 1, 2] [] rfl rfl (by decide) (by decide) hk1 hFc hP1 hD1
    generalize H1 = H at hP hS ⊢
    have hP : va_P (dC, dI) vwCl [(g0, .inr (1, [.ref a0, .ref b0, .int (nI k), .int (nI n), .int cl, .int su, .int 1])), (a0, .inl (ja, 512, .inr (.inl fc))), (b0, .inl (jb, 512, .inr (.inl fv)))] H := hP
    have hD : va_D A [(g0, .inr (1, [.ref a0, .ref b0, .int (nI k), .int (nI n), .int cl, .int su, .int 1])), (a0, .inl (ja, 512, .inr (.inl fc))), (b0, .inl (jb, 512, .inr (.inl fv)))] := hD
    subst hw
    refine lv_goto (tgt := 28) hx hb dX1_meets_19 (by decide) ?_
    rw [← hQ]
    exact W.iret (v := 0) hx hb hr (fun t ht hW => ⟨⟨0, 1, rfl, Or.inl ⟨hst, rfl⟩, by rw [ht]; exact hP, va_K.moved hW.alike hK, hD⟩, hS.F ht⟩) hS.2.2 dX1_meets_28
  · refine lv_if_eq (tgt := 22) hx hb dX1_meets_11 (by decide) (fun h1 => ?_) (fun h1 => absurd rfl h1)
    refine lv_aload_n hx hb dX1_meets_22 rfl (lv_at hl 0 rfl) ?_
    refine lv_lload_n hx hb dX1_meets_23 rfl (lv_at hl 1 rfl) ?_
    refine lv_lload_n hx hb dX1_meets_24 rfl (lv_at hl 2 rfl) ?_
    refine vp_callSi (W.runV (As := [.long a, .long b]) (rest := []) ⟨hx, hb, hml, hown, hts⟩ (c_first l dC dI g0 a0 b0 ja jb k n fc fv cl su 0 a b hk hn1 hn2) (cwV 2 hts (pt_gV pw197 pw198 pw12 pw18 pw199) rfl rfl rfl (by decide +kernel) ⟨Nat.le_of_ble_eq_true rfl, Nat.le_of_ble_eq_true rfl⟩) ⟨fun a U g mk q => by obtain ⟨q0, qP, qK⟩ := q; exact ⟨q0, qP, va_K.moved (u := U) (U := U.calling g mk a) (Vm.Alike.refl U.vm) qK⟩, va_recv hK hP (ci := 1) (q0 := 0) rfl rfl, fun U hU hW => ⟨rfl, by rw [hU]; exact hP, va_K.moved hW.alike hK⟩⟩ rfl rfl hl.1 rfl (lv_room (Nat.le_of_ble_eq_true rfl)) dX1_meets_25 ⟨Nat.zero_le _, Nat.zero_le _⟩) (fun r3 hF => ?_)
    rw [← hQ]
    exact W.iret (v := r3) hx hb hr (fun t ht hW => ⟨⟨r3, 0, rfl, Or.inr ⟨hst, rfl, r3, hF, rfl⟩, by rw [ht]; exact hP, va_K.moved hW.alike hK, hD⟩, hS.F ht⟩) hS.2.2 dX1_meets_28
set_option maxHeartbeats 4000000 in
set_option maxRecDepth 100000 in
/-- the reference: free(c, w) -/
theorem c_mfree (l : Launch) (dC : Nat → ClassId) (dI : Nat → Nat → Nat) (g0 a0 b0 : Nat) (ja jb : ClassId) (k n : Nat) (fc fv : Nat → Int64) (cl su th : Int32) (a b : Int64) (sz : Nat) (hI : pt_I k n fc fv) : Met l yX1_free wsX1_free ({ frames := 3, cells := 0, slots := 0, locals := 72 }) (va_Pc [.ref g0, .long a, .long b] (fun U => U.heap.size = sz ∧ va_P (dC, dI) vwCl [(g0, .inr (1, [.ref a0, .ref b0, .int (nI k), .int (nI n), .int cl, .int su, .int th])), (a0, .inl (ja, 512, .inr (.inl fc))), (b0, .inl (jb, 512, .inr (.inl fv)))] U.heap ∧ va_K (dC, dI) vwCl [(ja, .long), (jb, .long)] U ∧ va_D (fun _ => True) [(g0, .inr (1, [.ref a0, .ref b0, .int (nI k), .int (nI n), .int cl, .int su, .int th])), (a0, .inl (ja, 512, .inr (.inl fc))), (b0, .inl (jb, 512, .inr (.inl fv)))])) (va_Ql (fun (r : Int64) u => pt_Rfree k n fc fv a b u r) (fun (u : Int32) (t : State) => match u with | th2 => va_P (dC, dI) vwCl [(g0, .inr (1, [.ref a0, .ref b0, .int (nI k), .int (nI n), .int cl, .int su, .int th2])), (a0, .inl (ja, 512, .inr (.inl fc))), (b0, .inl (jb, 512, .inr (.inl fv)))] t.heap ∧ va_K (dC, dI) vwCl [(ja, .long), (jb, .long)] t ∧ va_D (va_A [(g0, .inr (1, [.ref a0, .ref b0, .int (nI k), .int (nI n), .int cl, .int su, .int th])), (a0, .inl (ja, 512, .inr (.inl fc))), (b0, .inl (jb, 512, .inr (.inl fv)))] sz) [(g0, .inr (1, [.ref a0, .ref b0, .int (nI k), .int (nI n), .int cl, .int su, .int th2])), (a0, .inl (ja, 512, .inr (.inl fc))), (b0, .inl (jb, 512, .inr (.inl fv)))]) (va_A [(g0, .inr (1, [.ref a0, .ref b0, .int (nI k), .int (nI n), .int cl, .int su, .int th])), (a0, .inl (ja, 512, .inr (.inl fc))), (b0, .inl (jb, 512, .inr (.inl fv)))] sz)) 0 0 (va_A [(g0, .inr (1, [.ref a0, .ref b0, .int (nI k), .int (nI n), .int cl, .int su, .int th])), (a0, .inl (ja, 512, .inr (.inl fc))), (b0, .inl (jb, 512, .inr (.inl fv)))] sz) := by
  refine Met.ofW (cc := cX1_free) (maxL := 5) (ret := (some .long)) (by decide) rfl ?_
  intro p e s m args below meth c s₁ B hml hv
  obtain ⟨ha, hsz, hP, hK, hD0⟩ := hv
  subst hsz
  have hx := B.exec
  have hb := B.bytes
  have hr := B.returns
  have hts := atoms_spec (ws := wsX1_free) B.pre
  have hown : s.vm.findClass RX1 = some m.cls := findClass_of_methodNamed B.named
  have hlocks := B.notSynchronized
  have hl := lv_entry ([.ref g0, .long a, .long b]) (n := 5) (Nat.le_of_ble_eq_true rfl)
  refine W.eq (show entryFrame m args 5 = entryFrame m ([.ref g0, .long a, .long b] : List Value).toArray 5 by rw [ha]) ?_
  rw [lg_entry_eq]
  generalize (lg_sl ([.ref g0, .long a, .long b]) ++ List.replicate (5 - (lg_sl ([.ref g0, .long a, .long b])).length) Slot.unset).toArray = ls at hl ⊢
  have hl : lv_has ls 5 [(0, .ref g0), (1, .long a), (3, .long b)] := hl
  have hD := hD0.self (sz := s.heap.size)
  generalize hAe : va_A [(g0, .inr (1, [.ref a0, .ref b0, .int (nI k), .int (nI n), .int cl, .int su, .int th])), (a0, .inl (ja, 512, .inr (.inl fc))), (b0, .inl (jb, 512, .inr (.inl fv)))] s.heap.size = A at hD ⊢
  have hA : ∀ q : Nat, s.heap.size ≤ q → A q := fun q h => by rw [← hAe]; exact Or.inr h
  have hS : va_S A s.heap s.heap [] := va_S.rf
  generalize hQ : MQ below (va_Ql (fun (r : Int64) u => pt_Rfree k n fc fv a b u r) (fun (u : Int32) (t : State) => match u with | th2 => va_P (dC, dI) vwCl [(g0, .inr (1, [.ref a0, .ref b0, .int (nI k), .int (nI n), .int cl, .int su, .int th2])), (a0, .inl (ja, 512, .inr (.inl fc))), (b0, .inl (jb, 512, .inr (.inl fv)))] t.heap ∧ va_K (dC, dI) vwCl [(ja, .long), (jb, .long)] t ∧ va_D A [(g0, .inr (1, [.ref a0, .ref b0, .int (nI k), .int (nI n), .int cl, .int su, .int th2])), (a0, .inl (ja, 512, .inr (.inl fc))), (b0, .inl (jb, 512, .inr (.inl fv)))]) A) args s 0 0 A = Q
  have hP : va_P (dC, dI) vwCl [(g0, .inr (1, [.ref a0, .ref b0, .int (nI k), .int (nI n), .int cl, .int su, .int th])), (a0, .inl (ja, 512, .inr (.inl fc))), (b0, .inl (jb, 512, .inr (.inl fv)))] s.heap := hP
  have hn1 := hI.2.1
  have hn2 := hI.2.2.1
  have hk := hI.1
  refine lv_aload_n hx hb dX1_free_0 rfl (lv_at hl 0 rfl) ?_
  refine lv_iconst (v := 0) hx hb dX1_free_1 (by decide) ?_
  refine va_put (D := (dC, dI)) (ci := 1) (v := .int 0) (ty := .int) (C := RX1) (T := TX1) (N := 7) hx hb hts (fun w h => List.mem_cons_of_mem _ (pt_wsX1 w h)) tyX1 tyX1_ok nmX1 hown hK hP hD hS 0 rfl rfl 6 (by decide) (hts _ (List.mem_cons_of_mem _ pw167)) (fun _ h9 => h9) rfl (by decide +kernel) rfl rfl (Nat.le_of_ble_eq_true rfl) dX1_free_2 (fun H locs hP hD hS => ?_)
  have hP : va_P (dC, dI) vwCl [(g0, .inr (1, [.ref a0, .ref b0, .int (nI k), .int (nI n), .int cl, .int su, .int 0])), (a0, .inl (ja, 512, .inr (.inl fc))), (b0, .inl (jb, 512, .inr (.inl fv)))] H := hP
  have hD : va_D A [(g0, .inr (1, [.ref a0, .ref b0, .int (nI k), .int (nI n), .int cl, .int su, .int 0])), (a0, .inl (ja, 512, .inr (.inl fc))), (b0, .inl (jb, 512, .inr (.inl fv)))] := hD
  refine lv_aload_n hx hb dX1_free_5 rfl (lv_at hl 0 rfl) ?_
  refine lv_lload_n hx hb dX1_free_6 rfl (lv_at hl 1 rfl) ?_
  refine lv_lload_n hx hb dX1_free_7 rfl (lv_at hl 2 rfl) ?_
  refine vp_callSi (W.runV (As := [.long a, .long b]) (rest := []) ⟨hx, hb, hml, hown, hts⟩ (c_wrong l dC dI g0 a0 b0 ja jb k n fc fv cl su 0 a b hn1 hn2) (cwV 2 hts (pt_gV pw190 pw191 pw10 pw18 pw192) rfl rfl rfl (by decide +kernel) ⟨Nat.le_of_ble_eq_true rfl, Nat.le_of_ble_eq_true rfl⟩) ⟨fun a U g mk q => by obtain ⟨q0, qP, qK⟩ := q; exact ⟨q0, qP, va_K.moved (u := U) (U := U.calling g mk a) (Vm.Alike.refl U.vm) qK⟩, va_recv hK hP (ci := 1) (q0 := 0) rfl rfl, fun U hU hW => ⟨rfl, by rw [hU]; exact hP, va_K.moved hW.alike hK⟩⟩ rfl rfl hl.1 rfl (lv_room (Nat.le_of_ble_eq_true rfl)) dX1_free_8 ⟨Nat.zero_le _, Nat.zero_le _⟩) (fun r1 hw => ?_)
  rcases hw with ⟨rfl, hst⟩ | ⟨rfl, hst⟩
  · refine lv_if_eq (tgt := 23) hx hb dX1_free_11 (by decide) (fun h1 => absurd h1 (by decide)) (fun h1 => ?_)
    refine lv_aload_n hx hb dX1_free_14 rfl (lv_at hl 0 rfl) ?_
    refine lv_iconst (v := 1) hx hb dX1_free_15 (by decide) ?_
    have hPc := hP.sub (ws' := [(g0, .inr (1, [.ref a0, .ref b0, .int (nI k), .int (nI n), .int cl, .int su, .int 0])), (a0, .inl (ja, 512, .inr (.inl fc))), (b0, .inl (jb, 512, .inr (.inl fv)))]) [0, 1, 2] rfl
    have hDc := hD.sub (ws' := [(g0, .inr (1, [.ref a0, .ref b0, .int (nI k), .int (nI n), .int cl, .int su, .int 0])), (a0, .inl (ja, 512, .inr (.inl fc))), (b0, .inl (jb, 512, .inr (.inl fv)))]) [0, 1, 2] (by decide) rfl
    have hKc := hK.sub (tys' := [(ja, .long), (jb, .long)]) [0, 1] rfl
    have hFc := va_free (wc := [(g0, .inr (1, [.ref a0, .ref b0, .int (nI k), .int (nI n), .int cl, .int su, .int 0])), (a0, .inl (ja, 512, .inr (.inl fc))), (b0, .inl (jb, 512, .inr (.inl fv)))]) hD hS hA [0, 1, 2] rfl
    refine va_calli (va_runV (As := [.int 1]) (rest := []) ⟨hx, hb, hml, hown, hts⟩ (c_fail l dC dI g0 a0 b0 ja jb (nI k) (nI n) fc fv cl su 0 1 H.size ) (cwV 1 hts (pt_gV pw183 pw184 pw9 pw18 pw185) rfl rfl rfl (by decide +kernel) ⟨Nat.le_of_ble_eq_true rfl, Nat.le_of_ble_eq_true rfl⟩) ⟨fun a U g mk q => by obtain ⟨q0, q1, qP, qK, qD⟩ := q; exact ⟨q0, q1, qP, va_K.moved (u := U) (U := U.calling g mk a) (Vm.Alike.refl U.vm) qK, qD⟩, va_recv hK hP (ci := 1) (q0 := 0) rfl rfl, fun U hU hW => ⟨rfl, by rw [hU], by rw [hU]; exact hPc, va_K.moved hW.alike hKc, hDc.weaken (fun _ _ _ _ => trivial)⟩⟩ rfl rfl hl.1 rfl (lv_room (Nat.le_of_ble_eq_true rfl)) dX1_free_16 ⟨Nat.zero_le _, Nat.zero_le _⟩) hS (fun q _ h => hFc q h) hFc (fun r2 u t H1 locs ht hvm hw hB hz1 hk1 hS => ?_)
    obtain ⟨hP1, hK1, hD1⟩ := hB
    rw [ht] at hP1
    obtain ⟨hP, hD⟩ := va_join (wr := ([] : va_W)) (w1 := [(g0, .inr (1, [.ref a0, .ref b0, .int (nI k), .int (nI n), .int cl, .int su, .int 1])), (a0, .inl (ja, 512, .inr (.inl fc))), (b0, .inl (jb, 512, .inr (.inl fv)))]) hP hD [0, 1, 2] [] rfl rfl (by decide) (by decide) hk1 hFc hP1 hD1
    generalize H1 = H at hP hS ⊢
    have hP : va_P (dC, dI) vwCl [(g0, .inr (1, [.ref a0, .ref b0, .int (nI k), .int (nI n), .int cl, .int su, .int 1])), (a0, .inl (ja, 512, .inr (.inl fc))), (b0, .inl (jb, 512, .inr (.inl fv)))] H := hP
    have hD : va_D A [(g0, .inr (1, [.ref a0, .ref b0, .int (nI k), .int (nI n), .int cl, .int su, .int 1])), (a0, .inl (ja, 512, .inr (.inl fc))), (b0, .inl (jb, 512, .inr (.inl fv)))] := hD
    subst hw
    refine lv_i2l (v := (0 : Int32).toInt64) hx hb dX1_free_19 rfl ?_
    refine lv_goto (tgt := 29) hx hb dX1_free_20 (by decide) ?_
    rw [← hQ]
    exact W.lret (v := (0 : Int32).toInt64) hx hb hr (fun t ht hW => ⟨⟨(0 : Int32).toInt64, 1, rfl, Or.inl ⟨hst, rfl⟩, by rw [ht]; exact hP, va_K.moved hW.alike hK, hD⟩, hS.F ht⟩) hS.2.2 dX1_free_29
  · refine lv_if_eq (tgt := 23) hx hb dX1_free_11 (by decide) (fun h1 => ?_) (fun h1 => absurd rfl h1)
    refine lv_aload_n hx hb dX1_free_23 rfl (lv_at hl 0 rfl) ?_
    refine lv_lload_n hx hb dX1_free_24 rfl (lv_at hl 1 rfl) ?_
    refine lv_lload_n hx hb dX1_free_25 rfl (lv_at hl 2 rfl) ?_
    refine vp_callSl (W.runV (As := [.long a, .long b]) (rest := []) ⟨hx, hb, hml, hown, hts⟩ (c_none l dC dI g0 a0 b0 ja jb k n fc fv cl su 0 a b hI) (cwV 2 hts (pt_gV pw226 pw227 pw14 pw18 pw228) rfl rfl rfl (by decide +kernel) ⟨Nat.le_of_ble_eq_true rfl, Nat.le_of_ble_eq_true rfl⟩) ⟨fun a U g mk q => by obtain ⟨q0, qP, qK⟩ := q; exact ⟨q0, qP, va_K.moved (u := U) (U := U.calling g mk a) (Vm.Alike.refl U.vm) qK⟩, va_recv hK hP (ci := 1) (q0 := 0) rfl rfl, fun U hU hW => ⟨rfl, by rw [hU]; exact hP, va_K.moved hW.alike hK⟩⟩ rfl rfl hl.1 rfl (lv_room (Nat.le_of_ble_eq_true rfl)) dX1_free_26 ⟨Nat.zero_le _, Nat.zero_le _⟩) (fun r3 hw => ?_)
    rw [← hQ]
    exact W.lret (v := r3) hx hb hr (fun t ht hW => ⟨⟨r3, 0, rfl, Or.inr ⟨hst, rfl, hw⟩, by rw [ht]; exact hP, va_K.moved hW.alike hK, hD⟩, hS.F ht⟩) hS.2.2 dX1_free_29
set_option maxHeartbeats 4000000 in
set_option maxRecDepth 100000 in
/-- the reference: next(word) -/
theorem c_mnext (l : Launch) (dC : Nat → ClassId) (dI : Nat → Nat → Nat) (g0 a0 b0 : Nat) (ja jb : ClassId) (k n : Nat) (fc fv : Nat → Int64) (cl su th : Int32) (a : Int64) (sz : Nat) (hI : pt_I k n fc fv) : Met l yX1_next wsX1_next ({ frames := 4, cells := 0, slots := 0, locals := 96 }) (va_Pc [.ref g0, .long a] (fun U => U.heap.size = sz ∧ va_P (dC, dI) vwCl [(g0, .inr (1, [.ref a0, .ref b0, .int (nI k), .int (nI n), .int cl, .int su, .int th])), (a0, .inl (ja, 512, .inr (.inl fc))), (b0, .inl (jb, 512, .inr (.inl fv)))] U.heap ∧ va_K (dC, dI) vwCl [(ja, .long), (jb, .long)] U ∧ va_D (fun _ => True) [(g0, .inr (1, [.ref a0, .ref b0, .int (nI k), .int (nI n), .int cl, .int su, .int th])), (a0, .inl (ja, 512, .inr (.inl fc))), (b0, .inl (jb, 512, .inr (.inl fv)))])) (va_Ql (fun (r : Int64) u => pt_Rnext k n fc fv a u r) (fun (u : Int32) (t : State) => match u with | th2 => va_P (dC, dI) vwCl [(g0, .inr (1, [.ref a0, .ref b0, .int (nI k), .int (nI n), .int cl, .int su, .int th2])), (a0, .inl (ja, 512, .inr (.inl fc))), (b0, .inl (jb, 512, .inr (.inl fv)))] t.heap ∧ va_K (dC, dI) vwCl [(ja, .long), (jb, .long)] t ∧ va_D (va_A [(g0, .inr (1, [.ref a0, .ref b0, .int (nI k), .int (nI n), .int cl, .int su, .int th])), (a0, .inl (ja, 512, .inr (.inl fc))), (b0, .inl (jb, 512, .inr (.inl fv)))] sz) [(g0, .inr (1, [.ref a0, .ref b0, .int (nI k), .int (nI n), .int cl, .int su, .int th2])), (a0, .inl (ja, 512, .inr (.inl fc))), (b0, .inl (jb, 512, .inr (.inl fv)))]) (va_A [(g0, .inr (1, [.ref a0, .ref b0, .int (nI k), .int (nI n), .int cl, .int su, .int th])), (a0, .inl (ja, 512, .inr (.inl fc))), (b0, .inl (jb, 512, .inr (.inl fv)))] sz)) 0 0 (va_A [(g0, .inr (1, [.ref a0, .ref b0, .int (nI k), .int (nI n), .int cl, .int su, .int th])), (a0, .inl (ja, 512, .inr (.inl fc))), (b0, .inl (jb, 512, .inr (.inl fv)))] sz) := by
  refine Met.ofW (cc := cX1_next) (maxL := 13) (ret := (some .long)) (by decide) rfl ?_
  intro p e s m args below meth c s₁ B hml hv
  obtain ⟨ha, hsz, hP, hK, hD0⟩ := hv
  subst hsz
  have hx := B.exec
  have hb := B.bytes
  have hr := B.returns
  have hts := atoms_spec (ws := wsX1_next) B.pre
  have hown : s.vm.findClass RX1 = some m.cls := findClass_of_methodNamed B.named
  have hlocks := B.notSynchronized
  have hl := lv_entry ([.ref g0, .long a]) (n := 13) (Nat.le_of_ble_eq_true rfl)
  refine W.eq (show entryFrame m args 13 = entryFrame m ([.ref g0, .long a] : List Value).toArray 13 by rw [ha]) ?_
  rw [lg_entry_eq]
  generalize (lg_sl ([.ref g0, .long a]) ++ List.replicate (13 - (lg_sl ([.ref g0, .long a])).length) Slot.unset).toArray = ls at hl ⊢
  have hl : lv_has ls 13 [(0, .ref g0), (1, .long a)] := hl
  have hD := hD0.self (sz := s.heap.size)
  generalize hAe : va_A [(g0, .inr (1, [.ref a0, .ref b0, .int (nI k), .int (nI n), .int cl, .int su, .int th])), (a0, .inl (ja, 512, .inr (.inl fc))), (b0, .inl (jb, 512, .inr (.inl fv)))] s.heap.size = A at hD ⊢
  have hA : ∀ q : Nat, s.heap.size ≤ q → A q := fun q h => by rw [← hAe]; exact Or.inr h
  have hS : va_S A s.heap s.heap [] := va_S.rf
  generalize hQ : MQ below (va_Ql (fun (r : Int64) u => pt_Rnext k n fc fv a u r) (fun (u : Int32) (t : State) => match u with | th2 => va_P (dC, dI) vwCl [(g0, .inr (1, [.ref a0, .ref b0, .int (nI k), .int (nI n), .int cl, .int su, .int th2])), (a0, .inl (ja, 512, .inr (.inl fc))), (b0, .inl (jb, 512, .inr (.inl fv)))] t.heap ∧ va_K (dC, dI) vwCl [(ja, .long), (jb, .long)] t ∧ va_D A [(g0, .inr (1, [.ref a0, .ref b0, .int (nI k), .int (nI n), .int cl, .int su, .int th2])), (a0, .inl (ja, 512, .inr (.inl fc))), (b0, .inl (jb, 512, .inr (.inl fv)))]) A) args s 0 0 A = Q
  have hP : va_P (dC, dI) vwCl [(g0, .inr (1, [.ref a0, .ref b0, .int (nI k), .int (nI n), .int cl, .int su, .int th])), (a0, .inl (ja, 512, .inr (.inl fc))), (b0, .inl (jb, 512, .inr (.inl fv)))] s.heap := hP
  have hn1 := hI.2.1
  have hn2 := hI.2.2.1
  have hk := hI.1
  refine lv_aload_n hx hb dX1_next_0 rfl (lv_at hl 0 rfl) ?_
  refine lv_iconst (v := 0) hx hb dX1_next_1 (by decide) ?_
  refine va_put (D := (dC, dI)) (ci := 1) (v := .int 0) (ty := .int) (C := RX1) (T := TX1) (N := 7) hx hb hts (fun w h => List.mem_cons_of_mem _ (pt_wsX1 w h)) tyX1 tyX1_ok nmX1 hown hK hP hD hS 0 rfl rfl 6 (by decide) (hts _ (List.mem_cons_of_mem _ pw167)) (fun _ h9 => h9) rfl (by decide +kernel) rfl rfl (Nat.le_of_ble_eq_true rfl) dX1_next_2 (fun H locs hP hD hS => ?_)
  have hP : va_P (dC, dI) vwCl [(g0, .inr (1, [.ref a0, .ref b0, .int (nI k), .int (nI n), .int cl, .int su, .int 0])), (a0, .inl (ja, 512, .inr (.inl fc))), (b0, .inl (jb, 512, .inr (.inl fv)))] H := hP
  have hD : va_D A [(g0, .inr (1, [.ref a0, .ref b0, .int (nI k), .int (nI n), .int cl, .int su, .int 0])), (a0, .inl (ja, 512, .inr (.inl fc))), (b0, .inl (jb, 512, .inr (.inl fv)))] := hD
  refine lv_lload_n hx hb dX1_next_5 rfl (lv_at hl 1 rfl) ?_
  refine lv_aload_n hx hb dX1_next_6 rfl (lv_at hl 0 rfl) ?_
  refine vp_callSl (W.runV (As := []) (rest := [.long a]) ⟨hx, hb, hml, hown, hts⟩ (c_mmask l dC dI g0 a0 b0 ja jb k n fc fv cl su 0 hn1 hn2) (cwV 0 hts (pt_gV pw194 pw195 pw11 pw18 pw196) rfl rfl rfl (by decide +kernel) ⟨Nat.le_of_ble_eq_true rfl, Nat.le_of_ble_eq_true rfl⟩) ⟨fun a U g mk q => by obtain ⟨q0, qP, qK⟩ := q; exact ⟨q0, qP, va_K.moved (u := U) (U := U.calling g mk a) (Vm.Alike.refl U.vm) qK⟩, va_recv hK hP (ci := 1) (q0 := 0) rfl rfl, fun U hU hW => ⟨rfl, by rw [hU]; exact hP, va_K.moved hW.alike hK⟩⟩ rfl rfl hl.1 rfl (lv_room (Nat.le_of_ble_eq_true rfl)) dX1_next_7 ⟨Nat.zero_le _, Nat.zero_le _⟩) (fun r1 hw => ?_)
  subst hw
  refine lv_land hx hb dX1_next_10 ?_
  refine lv_lstore_n (lv' := [(3, .long (a &&& (pt_mk n))), (0, .ref g0), (1, .long a)]) hx hb dX1_next_11 rfl hl (by decide) rfl (fun ls hl => ?_)
  refine lv_aload_n hx hb dX1_next_12 rfl (lv_at hl 1 rfl) ?_
  refine lv_aload_n hx hb dX1_next_13 rfl (lv_at hl 1 rfl) ?_
  refine vp_callSl (W.runV (As := []) (rest := [.ref g0]) ⟨hx, hb, hml, hown, hts⟩ (c_mmask l dC dI g0 a0 b0 ja jb k n fc fv cl su 0 hn1 hn2) (cwV 0 hts (pt_gV pw194 pw195 pw11 pw18 pw196) rfl rfl rfl (by decide +kernel) ⟨Nat.le_of_ble_eq_true rfl, Nat.le_of_ble_eq_true rfl⟩) ⟨fun a U g mk q => by obtain ⟨q0, qP, qK⟩ := q; exact ⟨q0, qP, va_K.moved (u := U) (U := U.calling g mk a) (Vm.Alike.refl U.vm) qK⟩, va_recv hK hP (ci := 1) (q0 := 0) rfl rfl, fun U hU hW => ⟨rfl, by rw [hU]; exact hP, va_K.moved hW.alike hK⟩⟩ rfl rfl hl.1 rfl (lv_room (Nat.le_of_ble_eq_true rfl)) dX1_next_14 ⟨Nat.zero_le _, Nat.zero_le _⟩) (fun r2 hw => ?_)
  subst hw
  refine lv_lload_n hx hb dX1_next_17 rfl (lv_at hl 0 rfl) ?_
  refine vp_callSi (W.runV (As := [.long (pt_mk n), .long (a &&& (pt_mk n))]) (rest := []) ⟨hx, hb, hml, hown, hts⟩ (c_some l dC dI g0 a0 b0 ja jb k n fc fv cl su 0 (pt_mk n) (a &&& pt_mk n) hI (by rw [Int64.and_self]; exact pt_bits_mk hn1 hn2)) (cwV 2 hts (pt_gV pw239 pw240 pw15 pw18 pw241) rfl rfl rfl (by decide +kernel) ⟨Nat.le_of_ble_eq_true rfl, Nat.le_of_ble_eq_true rfl⟩) ⟨fun a U g mk q => by obtain ⟨q0, qP, qK⟩ := q; exact ⟨q0, qP, va_K.moved (u := U) (U := U.calling g mk a) (Vm.Alike.refl U.vm) qK⟩, va_recv hK hP (ci := 1) (q0 := 0) rfl rfl, fun U hU hW => ⟨rfl, by rw [hU]; exact hP, va_K.moved hW.alike hK⟩⟩ rfl rfl hl.1 rfl (lv_room (Nat.le_of_ble_eq_true rfl)) dX1_next_18 ⟨Nat.zero_le _, Nat.zero_le _⟩) (fun r3 hw => ?_)
  rw [Int64.and_self, pt_mk_and] at hw
  rcases hw with ⟨rfl, hs⟩ | ⟨rfl, hs⟩
  · refine lv_if_eq (tgt := 26) hx hb dX1_next_21 (by decide) (fun h1 => absurd h1 (by decide)) (fun h1 => ?_)
    refine lv_lload_n hx hb dX1_next_24 rfl (lv_at hl 0 rfl) ?_
    rw [← hQ]
    exact W.lret (v := a &&& (pt_mk n)) hx hb hr (fun t9 ht hW => ⟨⟨a &&& (pt_mk n), 0, rfl, Or.inl ⟨pt_one_yes hI hs, rfl, rfl⟩, by rw [ht]; exact hP, va_K.moved hW.alike hK, hD⟩, hS.F ht⟩) hS.2.2 dX1_next_25
  · refine lv_if_eq (tgt := 26) hx hb dX1_next_21 (by decide) (fun h1 => ?_) (fun h1 => absurd rfl h1)
    have hmet := (pt_one hI).mp hs
    refine lv_iconst (v := 0) hx hb dX1_next_26 (by decide) ?_
    refine lv_istore (lv' := [(5, .int 0), (3, .long (a &&& (pt_mk n))), (0, .ref g0), (1, .long a)]) hx hb dX1_next_27 hl (by decide) rfl (fun ls hl => ?_)
    have loop : ∀ (d t : Nat) (ls : Array Slot), n - t = d → t ≤ n → (∀ j, j < t → ¬ pt_N k n fc fv (a &&& pt_mk n) j) → lv_has ls 13 [(5, .int (nI t)), (3, .long (a &&& pt_mk n)), (0, .ref g0), (1, .long a)] → W p l e (headSpec wsX1_next ({ frames := 4, cells := 0, slots := 0, locals := 96 })).room s m args below meth c H locs 0 0 Q (F0 m 29 ls []) := by
      intro d
      induction d with
      | zero =>
        intro t ls hd htn hno hl
        refine lv_iload hx hb dX1_next_29 (lv_at hl 0 rfl) ?_
        refine lv_aload_n hx hb dX1_next_31 rfl (lv_at hl 2 rfl) ?_
        refine va_get (D := (dC, dI)) (ci := 1) (v := .int (nI n)) (C := RX1) (T := TX1) (N := 7) hx hb hts (fun w h => List.mem_cons_of_mem _ (pt_wsX1 w h)) hown hK hP 0 rfl rfl 3 (by decide) (hts _ (List.mem_cons_of_mem _ pw164)) (fun _ h9 => h9) rfl dX1_next_32 ?_
        refine lv_icmp_ge (tgt := 149) hx hb dX1_next_35 (by decide) (fun h2 => ?_) (fun h2 => absurd (nI_le (by omega) (by omega)) h2)
        refine lv_aload_n hx hb dX1_next_149 rfl (lv_at hl 2 rfl) ?_
        refine lv_iconst (v := 1) hx hb dX1_next_150 (by decide) ?_
        have hPc := hP.sub (ws' := [(g0, .inr (1, [.ref a0, .ref b0, .int (nI k), .int (nI n), .int cl, .int su, .int 0])), (a0, .inl (ja, 512, .inr (.inl fc))), (b0, .inl (jb, 512, .inr (.inl fv)))]) [0, 1, 2] rfl
        have hDc := hD.sub (ws' := [(g0, .inr (1, [.ref a0, .ref b0, .int (nI k), .int (nI n), .int cl, .int su, .int 0])), (a0, .inl (ja, 512, .inr (.inl fc))), (b0, .inl (jb, 512, .inr (.inl fv)))]) [0, 1, 2] (by decide) rfl
        have hKc := hK.sub (tys' := [(ja, .long), (jb, .long)]) [0, 1] rfl
        have hFc := va_free (wc := [(g0, .inr (1, [.ref a0, .ref b0, .int (nI k), .int (nI n), .int cl, .int su, .int 0])), (a0, .inl (ja, 512, .inr (.inl fc))), (b0, .inl (jb, 512, .inr (.inl fv)))]) hD hS hA [0, 1, 2] rfl
        refine va_calli (va_runV (As := [.int 1]) (rest := []) ⟨hx, hb, hml, hown, hts⟩ (c_fail l dC dI g0 a0 b0 ja jb (nI k) (nI n) fc fv cl su 0 1 H.size ) (cwV 1 hts (pt_gV pw183 pw184 pw9 pw18 pw185) rfl rfl rfl (by decide +kernel) ⟨Nat.le_of_ble_eq_true rfl, Nat.le_of_ble_eq_true rfl⟩) ⟨fun a U g mk q => by obtain ⟨q0, q1, qP, qK, qD⟩ := q; exact ⟨q0, q1, qP, va_K.moved (u := U) (U := U.calling g mk a) (Vm.Alike.refl U.vm) qK, qD⟩, va_recv hK hP (ci := 1) (q0 := 0) rfl rfl, fun U hU hW => ⟨rfl, by rw [hU], by rw [hU]; exact hPc, va_K.moved hW.alike hKc, hDc.weaken (fun _ _ _ _ => trivial)⟩⟩ rfl rfl hl.1 rfl (lv_room (Nat.le_of_ble_eq_true rfl)) dX1_next_151 ⟨Nat.zero_le _, Nat.zero_le _⟩) hS (fun q _ h => hFc q h) hFc (fun r4 u t H1 locs ht hvm hw hB hz1 hk1 hS => ?_)
        obtain ⟨hP1, hK1, hD1⟩ := hB
        rw [ht] at hP1
        obtain ⟨hP, hD⟩ := va_join (wr := ([] : va_W)) (w1 := [(g0, .inr (1, [.ref a0, .ref b0, .int (nI k), .int (nI n), .int cl, .int su, .int 1])), (a0, .inl (ja, 512, .inr (.inl fc))), (b0, .inl (jb, 512, .inr (.inl fv)))]) hP hD [0, 1, 2] [] rfl rfl (by decide) (by decide) hk1 hFc hP1 hD1
        generalize H1 = H at hP hS ⊢
        have hP : va_P (dC, dI) vwCl [(g0, .inr (1, [.ref a0, .ref b0, .int (nI k), .int (nI n), .int cl, .int su, .int 1])), (a0, .inl (ja, 512, .inr (.inl fc))), (b0, .inl (jb, 512, .inr (.inl fv)))] H := hP
        have hD : va_D A [(g0, .inr (1, [.ref a0, .ref b0, .int (nI k), .int (nI n), .int cl, .int su, .int 1])), (a0, .inl (ja, 512, .inr (.inl fc))), (b0, .inl (jb, 512, .inr (.inl fv)))] := hD
        subst hw
        refine lv_i2l (v := (0 : Int32).toInt64) hx hb dX1_next_154 rfl ?_
        rw [← hQ]
        exact W.lret (v := (0 : Int32).toInt64) hx hb hr (fun t9 ht hW => ⟨⟨(0 : Int32).toInt64, 1, rfl, Or.inr ⟨hmet, Or.inr ⟨fun j hj => hno j (by omega), rfl⟩⟩, by rw [ht]; exact hP, va_K.moved hW.alike hK, hD⟩, hS.F ht⟩) hS.2.2 dX1_next_155
      | succ d ih =>
        intro t ls hd htn hno hl
        refine lv_iload hx hb dX1_next_29 (lv_at hl 0 rfl) ?_
        refine lv_aload_n hx hb dX1_next_31 rfl (lv_at hl 2 rfl) ?_
        refine va_get (D := (dC, dI)) (ci := 1) (v := .int (nI n)) (C := RX1) (T := TX1) (N := 7) hx hb hts (fun w h => List.mem_cons_of_mem _ (pt_wsX1 w h)) hown hK hP 0 rfl rfl 3 (by decide) (hts _ (List.mem_cons_of_mem _ pw164)) (fun _ h9 => h9) rfl dX1_next_32 ?_
        refine lv_icmp_ge (tgt := 149) hx hb dX1_next_35 (by decide) (fun h2 => absurd h2 (nI_ge (by omega) (by omega))) (fun h2 => ?_)
        refine lv_lconst (v := 1) hx hb dX1_next_38 (by decide) ?_
        refine lv_iload hx hb dX1_next_39 (lv_at hl 0 rfl) ?_
        refine lv_lshl (v := pt_shl 1 (nI t)) hx hb dX1_next_41 rfl ?_
        refine lv_lstore (lv' := [(6, .long (pt_shl 1 (nI t))), (5, .int (nI t)), (3, .long (a &&& pt_mk n)), (0, .ref g0), (1, .long a)]) hx hb dX1_next_42 hl (by decide) rfl (fun ls hl => ?_)
        refine lv_lload_n hx hb dX1_next_44 rfl (lv_at hl 2 rfl) ?_
        refine lv_lload hx hb dX1_next_45 (lv_at hl 0 rfl) ?_
        refine lv_land hx hb dX1_next_47 ?_
        refine lv_lconst (v := 0) hx hb dX1_next_48 (by decide) ?_
        refine W.lcmp hx hb dX1_next_49 ?_
        refine lv_if_eq (tgt := 56) hx hb dX1_next_50 (by decide) (fun h3 => ?_) (fun h3 => ?_)
        · refine lv_aload_n hx hb dX1_next_56 rfl (lv_at hl 3 rfl) ?_
          refine vp_callSl (W.runV (As := []) (rest := []) ⟨hx, hb, hml, hown, hts⟩ (c_mmask l dC dI g0 a0 b0 ja jb k n fc fv cl su 0 hn1 hn2) (cwV 0 hts (pt_gV pw194 pw195 pw11 pw18 pw196) rfl rfl rfl (by decide +kernel) ⟨Nat.le_of_ble_eq_true rfl, Nat.le_of_ble_eq_true rfl⟩) ⟨fun a U g mk q => by obtain ⟨q0, qP, qK⟩ := q; exact ⟨q0, qP, va_K.moved (u := U) (U := U.calling g mk a) (Vm.Alike.refl U.vm) qK⟩, va_recv hK hP (ci := 1) (q0 := 0) rfl rfl, fun U hU hW => ⟨rfl, by rw [hU]; exact hP, va_K.moved hW.alike hK⟩⟩ rfl rfl hl.1 rfl (lv_room (Nat.le_of_ble_eq_true rfl)) dX1_next_57 ⟨Nat.zero_le _, Nat.zero_le _⟩) (fun r5 hw => ?_)
          subst hw
          refine lv_lload hx hb dX1_next_60 (lv_at hl 0 rfl) ?_
          refine lv_lconst (v := 1) hx hb dX1_next_62 (by decide) ?_
          refine lv_lsub hx hb dX1_next_63 ?_
          refine lv_ldc2 (v := (-1)) hx hb hown (hts _ (List.mem_cons_of_mem _ pw193)) dX1_next_64 ?_
          refine lv_lxor hx hb dX1_next_67 ?_
          refine lv_land hx hb dX1_next_68 ?_
          rw [show pt_mk n &&& ((pt_shl 1 (nI t) - 1) ^^^ (-1)) = pt_up n t from congrArg (pt_mk n &&& ·) (pt_up_ref t (by omega))]
          refine lv_lstore (lv' := [(8, .long (pt_up n t)), (6, .long (pt_shl 1 (nI t))), (5, .int (nI t)), (3, .long (a &&& pt_mk n)), (0, .ref g0), (1, .long a)]) hx hb dX1_next_69 hl (by decide) rfl (fun ls hl => ?_)
          refine lv_lload_n hx hb dX1_next_71 rfl (lv_at hl 3 rfl) ?_
          refine lv_lload hx hb dX1_next_72 (lv_at hl 0 rfl) ?_
          refine lv_land hx hb dX1_next_74 ?_
          refine lv_lload hx hb dX1_next_75 (lv_at hl 1 rfl) ?_
          refine lv_lor hx hb dX1_next_77 ?_
          rw [pt_rs_ref (a &&& pt_mk n) hn1 hn2 (by omega)]
          refine lv_lstore (lv' := [(10, .long (pt_rs n (a &&& pt_mk n) t)), (8, .long (pt_up n t)), (6, .long (pt_shl 1 (nI t))), (5, .int (nI t)), (3, .long (a &&& pt_mk n)), (0, .ref g0), (1, .long a)]) hx hb dX1_next_78 hl (by decide) rfl (fun ls hl => ?_)
          refine lv_aload_n hx hb dX1_next_80 rfl (lv_at hl 5 rfl) ?_
          refine lv_lload hx hb dX1_next_81 (lv_at hl 1 rfl) ?_
          refine lv_lload hx hb dX1_next_83 (lv_at hl 0 rfl) ?_
          refine vp_callSi (W.runV (As := [.long (pt_up n t), .long (pt_rs n (a &&& pt_mk n) t)]) (rest := []) ⟨hx, hb, hml, hown, hts⟩ (c_some l dC dI g0 a0 b0 ja jb k n fc fv cl su 0 (pt_up n t) (pt_rs n (a &&& pt_mk n) t) hI (by rw [pt_up_mk]; exact pt_bits_up hn1 hn2 (by omega))) (cwV 2 hts (pt_gV pw239 pw240 pw15 pw18 pw241) rfl rfl rfl (by decide +kernel) ⟨Nat.le_of_ble_eq_true rfl, Nat.le_of_ble_eq_true rfl⟩) ⟨fun a U g mk q => by obtain ⟨q0, qP, qK⟩ := q; exact ⟨q0, qP, va_K.moved (u := U) (U := U.calling g mk a) (Vm.Alike.refl U.vm) qK⟩, va_recv hK hP (ci := 1) (q0 := 0) rfl rfl, fun U hU hW => ⟨rfl, by rw [hU]; exact hP, va_K.moved hW.alike hK⟩⟩ rfl rfl hl.1 rfl (lv_room (Nat.le_of_ble_eq_true rfl)) dX1_next_85 ⟨Nat.zero_le _, Nat.zero_le _⟩) (fun r6 hw => ?_)
          rw [pt_up_mk, pt_rs_mk] at hw
          rcases hw with ⟨rfl, hs2⟩ | ⟨rfl, hs2⟩
          · refine lv_if_ne (tgt := 94) hx hb dX1_next_88 (by decide) (fun h4 => ?_) (fun h4 => absurd h4 (by decide))
            refine lv_iload hx hb dX1_next_94 (lv_at hl 3 rfl) ?_
            refine lv_iconst (v := 1) hx hb dX1_next_96 (by decide) ?_
            refine lv_isub hx hb dX1_next_97 ?_
            refine lv_istore (lv' := [(12, .int ((nI t) - 1)), (10, .long (pt_rs n (a &&& pt_mk n) t)), (8, .long (pt_up n t)), (6, .long (pt_shl 1 (nI t))), (5, .int (nI t)), (3, .long (a &&& pt_mk n)), (0, .ref g0), (1, .long a)]) hx hb dX1_next_98 hl (by decide) rfl (fun ls hl => ?_)
            have loop2 : ∀ (q : Nat) (y : Int64) (ls : Array Slot), q ≤ t → y &&& pt_mk n = y → pt_lf k n fc fv q y = pt_lf k n fc fv t (pt_rs n (a &&& pt_mk n) t) → lv_has ls 13 [(12, .int (nI q - 1)), (10, .long y), (8, .long (pt_up n q)), (0, .ref g0)] → W p l e (headSpec wsX1_next ({ frames := 4, cells := 0, slots := 0, locals := 96 })).room s m args below meth c H locs 0 0 Q (F0 m 100 ls []) := by
              intro q
              induction q with
              | zero =>
                intro y ls hq hym hy hl
                refine lv_iload hx hb dX1_next_100 (lv_at hl 0 rfl) ?_
                refine lv_if_lt (tgt := 140) hx hb dX1_next_102 (by decide) (fun h4 => ?_) (fun h4 => absurd (by decide) h4)
                refine lv_lload hx hb dX1_next_140 (lv_at hl 1 rfl) ?_
                rw [← hQ]
                exact W.lret (v := y) hx hb hr (fun t9 ht hW => ⟨⟨y, 0, rfl, Or.inr ⟨hmet, Or.inl ⟨t, by omega, ⟨(pt_bit_ref _ (by omega)).mp (pt_cmp0.mp h3), hs2⟩, hno, rfl, hy⟩⟩, by rw [ht]; exact hP, va_K.moved hW.alike hK, hD⟩, hS.F ht⟩) hS.2.2 dX1_next_142
              | succ q ih2 =>
                intro y ls hq hym hy hl
                rw [nI_pred] at hl
                refine lv_iload hx hb dX1_next_100 (lv_at hl 0 rfl) ?_
                refine lv_if_lt (tgt := 140) hx hb dX1_next_102 (by decide) (fun h4 => absurd h4 (nI_pos (by omega))) (fun h4 => ?_)
                refine lv_lload hx hb dX1_next_105 (lv_at hl 2 rfl) ?_
                refine lv_lconst (v := 1) hx hb dX1_next_107 (by decide) ?_
                refine lv_iload hx hb dX1_next_108 (lv_at hl 0 rfl) ?_
                refine lv_lshl (v := pt_shl 1 (nI q)) hx hb dX1_next_110 rfl ?_
                refine lv_lor hx hb dX1_next_111 ?_
                rw [pt_up_step hn1 hn2 (by omega)]
                refine lv_lstore (lv' := [(8, .long (pt_up n q)), (12, .int (nI q)), (10, .long y), (0, .ref g0)]) hx hb dX1_next_112 hl (by decide) rfl (fun ls hl => ?_)
                refine lv_aload_n hx hb dX1_next_114 rfl (lv_at hl 3 rfl) ?_
                refine lv_lload hx hb dX1_next_115 (lv_at hl 0 rfl) ?_
                refine lv_lload hx hb dX1_next_117 (lv_at hl 2 rfl) ?_
                refine vp_callSi (W.runV (As := [.long (pt_up n q), .long y]) (rest := []) ⟨hx, hb, hml, hown, hts⟩ (c_some l dC dI g0 a0 b0 ja jb k n fc fv cl su 0 (pt_up n q) y hI (by rw [pt_up_mk]; exact pt_bits_up hn1 hn2 (by omega))) (cwV 2 hts (pt_gV pw239 pw240 pw15 pw18 pw241) rfl rfl rfl (by decide +kernel) ⟨Nat.le_of_ble_eq_true rfl, Nat.le_of_ble_eq_true rfl⟩) ⟨fun a U g mk q => by obtain ⟨q0, qP, qK⟩ := q; exact ⟨q0, qP, va_K.moved (u := U) (U := U.calling g mk a) (Vm.Alike.refl U.vm) qK⟩, va_recv hK hP (ci := 1) (q0 := 0) rfl rfl, fun U hU hW => ⟨rfl, by rw [hU]; exact hP, va_K.moved hW.alike hK⟩⟩ rfl rfl hl.1 rfl (lv_room (Nat.le_of_ble_eq_true rfl)) dX1_next_119 ⟨Nat.zero_le _, Nat.zero_le _⟩) (fun r7 hw => ?_)
                rw [pt_up_mk, hym] at hw
                rcases hw with ⟨rfl, hs3⟩ | ⟨rfl, hs3⟩
                · refine lv_if_ne (tgt := 134) hx hb dX1_next_122 (by decide) (fun h5 => ?_) (fun h5 => absurd h5 (by decide))
                  refine lv_iinc (v := nI q - 1) (lv' := [(12, .int (nI q - 1)), (8, .long (pt_up n q)), (10, .long y), (0, .ref g0)]) hx hb dX1_next_134 hl (k := 1) rfl (by rw [Int32.sub_eq_add_neg]; rfl) (by decide) rfl (fun ls hl => ?_)
                  refine lv_goto (tgt := 100) hx hb dX1_next_137 (by decide) ?_
                  exact ih2 y ls (by omega) hym ((pt_lf_no hs3).symm.trans hy) (lv_sub hl [0, 2, 1, 3] rfl)
                · refine lv_if_ne (tgt := 134) hx hb dX1_next_122 (by decide) (fun h5 => absurd rfl h5) (fun h5 => ?_)
                  refine lv_lload hx hb dX1_next_125 (lv_at hl 2 rfl) ?_
                  refine lv_lconst (v := 1) hx hb dX1_next_127 (by decide) ?_
                  refine lv_iload hx hb dX1_next_128 (lv_at hl 1 rfl) ?_
                  refine lv_lshl (v := pt_shl 1 (nI q)) hx hb dX1_next_130 rfl ?_
                  refine lv_lor hx hb dX1_next_131 ?_
                  refine lv_lstore (lv' := [(10, .long (y ||| (pt_shl 1 (nI q)))), (8, .long (pt_up n q)), (12, .int (nI q)), (0, .ref g0)]) hx hb dX1_next_132 hl (by decide) rfl (fun ls hl => ?_)
                  refine lv_iinc (v := nI q - 1) (lv' := [(12, .int (nI q - 1)), (10, .long (y ||| (pt_shl 1 (nI q)))), (8, .long (pt_up n q)), (0, .ref g0)]) hx hb dX1_next_134 hl (k := 2) rfl (by rw [Int32.sub_eq_add_neg]; rfl) (by decide) rfl (fun ls hl => ?_)
                  refine lv_goto (tgt := 100) hx hb dX1_next_137 (by decide) ?_
                  exact ih2 (y ||| pt_shl 1 (nI q)) ls (by omega) (pt_or_mk hym hn1 hn2 (by omega)) ((pt_lf_yes hs3).symm.trans hy) (lv_sub hl [0, 1, 2, 3] rfl)
            exact loop2 t (pt_rs n (a &&& pt_mk n) t) ls (by omega) pt_rs_mk rfl (lv_sub hl [0, 1, 2, 6] rfl)
          · refine lv_if_ne (tgt := 94) hx hb dX1_next_88 (by decide) (fun h4 => absurd rfl h4) (fun h4 => ?_)
            refine lv_goto (tgt := 143) hx hb dX1_next_91 (by decide) ?_
            refine lv_iinc (v := nI (t + 1)) (lv' := [(5, .int (nI (t + 1))), (10, .long (pt_rs n (a &&& pt_mk n) t)), (8, .long (pt_up n t)), (6, .long (pt_shl 1 (nI t))), (3, .long (a &&& pt_mk n)), (0, .ref g0), (1, .long a)]) hx hb dX1_next_143 hl (k := 3) rfl (by rw [nI_succ]; rfl) (by decide) rfl (fun ls hl => ?_)
            refine lv_goto (tgt := 29) hx hb dX1_next_146 (by decide) ?_
            exact ih (t + 1) ls (by omega) (by omega) (lt_s hno (fun z => z.2 hs2)) (lv_sub hl [0, 4, 5, 6] rfl)
        · refine lv_goto (tgt := 143) hx hb dX1_next_53 (by decide) ?_
          refine lv_iinc (v := nI (t + 1)) (lv' := [(5, .int (nI (t + 1))), (6, .long (pt_shl 1 (nI t))), (3, .long (a &&& pt_mk n)), (0, .ref g0), (1, .long a)]) hx hb dX1_next_143 hl (k := 1) rfl (by rw [nI_succ]; rfl) (by decide) rfl (fun ls hl => ?_)
          refine lv_goto (tgt := 29) hx hb dX1_next_146 (by decide) ?_
          exact ih (t + 1) ls (by omega) (by omega) (lt_s hno (fun z => h3 (pt_cmp0.mpr ((pt_bit_ref _ (by omega)).mpr z.1)))) (lv_sub hl [0, 2, 3, 4] rfl)
    exact loop n 0 ls (by omega) (by omega) lt_0 (lv_sub hl [0, 1, 2, 3] rfl)
set_option maxHeartbeats 4000000 in
set_option maxRecDepth 100000 in
/-- the reference: told(i, what) -/
theorem c_mtold (l : Launch) (dC : Nat → ClassId) (dI : Nat → Nat → Nat) (g0 a0 b0 : Nat) (ja jb : ClassId) (k n : Nat) (fc fv : Nat → Int64) (cl su th : Int32) (y x : Int32) (sz : Nat) (hk : k ≤ 512) : Met l yX1_told wsX1_told ({ frames := 1, cells := 0, slots := 0, locals := 23 }) (va_Pc [.ref g0, .int y, .int x] (fun U => U.heap.size = sz ∧ va_P (dC, dI) vwCl [(g0, .inr (1, [.ref a0, .ref b0, .int (nI k), .int (nI n), .int cl, .int su, .int th])), (a0, .inl (ja, 512, .inr (.inl fc))), (b0, .inl (jb, 512, .inr (.inl fv)))] U.heap ∧ va_K (dC, dI) vwCl [(ja, .long), (jb, .long)] U ∧ va_D (fun _ => True) [(g0, .inr (1, [.ref a0, .ref b0, .int (nI k), .int (nI n), .int cl, .int su, .int th])), (a0, .inl (ja, 512, .inr (.inl fc))), (b0, .inl (jb, 512, .inr (.inl fv)))])) (va_Ql (fun (r : Int64) u => pt_Rtold k n fc fv y x u r) (fun (u : Int32) (t : State) => match u with | th2 => va_P (dC, dI) vwCl [(g0, .inr (1, [.ref a0, .ref b0, .int (nI k), .int (nI n), .int cl, .int su, .int th2])), (a0, .inl (ja, 512, .inr (.inl fc))), (b0, .inl (jb, 512, .inr (.inl fv)))] t.heap ∧ va_K (dC, dI) vwCl [(ja, .long), (jb, .long)] t ∧ va_D (va_A [(g0, .inr (1, [.ref a0, .ref b0, .int (nI k), .int (nI n), .int cl, .int su, .int th])), (a0, .inl (ja, 512, .inr (.inl fc))), (b0, .inl (jb, 512, .inr (.inl fv)))] sz) [(g0, .inr (1, [.ref a0, .ref b0, .int (nI k), .int (nI n), .int cl, .int su, .int th2])), (a0, .inl (ja, 512, .inr (.inl fc))), (b0, .inl (jb, 512, .inr (.inl fv)))]) (va_A [(g0, .inr (1, [.ref a0, .ref b0, .int (nI k), .int (nI n), .int cl, .int su, .int th])), (a0, .inl (ja, 512, .inr (.inl fc))), (b0, .inl (jb, 512, .inr (.inl fv)))] sz)) 0 0 (va_A [(g0, .inr (1, [.ref a0, .ref b0, .int (nI k), .int (nI n), .int cl, .int su, .int th])), (a0, .inl (ja, 512, .inr (.inl fc))), (b0, .inl (jb, 512, .inr (.inl fv)))] sz) := by
  refine Met.ofW (cc := cX1_told) (maxL := 3) (ret := (some .long)) (by decide) rfl ?_
  intro p e s m args below meth c s₁ B hml hv
  obtain ⟨ha, hsz, hP, hK, hD0⟩ := hv
  subst hsz
  have hx := B.exec
  have hb := B.bytes
  have hr := B.returns
  have hts := atoms_spec (ws := wsX1_told) B.pre
  have hown : s.vm.findClass RX1 = some m.cls := findClass_of_methodNamed B.named
  have hlocks := B.notSynchronized
  have hl := lv_entry ([.ref g0, .int y, .int x]) (n := 3) (Nat.le_of_ble_eq_true rfl)
  refine W.eq (show entryFrame m args 3 = entryFrame m ([.ref g0, .int y, .int x] : List Value).toArray 3 by rw [ha]) ?_
  rw [lg_entry_eq]
  generalize (lg_sl ([.ref g0, .int y, .int x]) ++ List.replicate (3 - (lg_sl ([.ref g0, .int y, .int x])).length) Slot.unset).toArray = ls at hl ⊢
  have hl : lv_has ls 3 [(0, .ref g0), (1, .int y), (2, .int x)] := hl
  have hD := hD0.self (sz := s.heap.size)
  generalize hAe : va_A [(g0, .inr (1, [.ref a0, .ref b0, .int (nI k), .int (nI n), .int cl, .int su, .int th])), (a0, .inl (ja, 512, .inr (.inl fc))), (b0, .inl (jb, 512, .inr (.inl fv)))] s.heap.size = A at hD ⊢
  have hA : ∀ q : Nat, s.heap.size ≤ q → A q := fun q h => by rw [← hAe]; exact Or.inr h
  have hS : va_S A s.heap s.heap [] := va_S.rf
  generalize hQ : MQ below (va_Ql (fun (r : Int64) u => pt_Rtold k n fc fv y x u r) (fun (u : Int32) (t : State) => match u with | th2 => va_P (dC, dI) vwCl [(g0, .inr (1, [.ref a0, .ref b0, .int (nI k), .int (nI n), .int cl, .int su, .int th2])), (a0, .inl (ja, 512, .inr (.inl fc))), (b0, .inl (jb, 512, .inr (.inl fv)))] t.heap ∧ va_K (dC, dI) vwCl [(ja, .long), (jb, .long)] t ∧ va_D A [(g0, .inr (1, [.ref a0, .ref b0, .int (nI k), .int (nI n), .int cl, .int su, .int th2])), (a0, .inl (ja, 512, .inr (.inl fc))), (b0, .inl (jb, 512, .inr (.inl fv)))]) A) args s 0 0 A = Q
  have hP : va_P (dC, dI) vwCl [(g0, .inr (1, [.ref a0, .ref b0, .int (nI k), .int (nI n), .int cl, .int su, .int th])), (a0, .inl (ja, 512, .inr (.inl fc))), (b0, .inl (jb, 512, .inr (.inl fv)))] s.heap := hP
  refine lv_aload_n hx hb dX1_told_0 rfl (lv_at hl 0 rfl) ?_
  refine lv_iconst (v := 0) hx hb dX1_told_1 (by decide) ?_
  refine va_put (D := (dC, dI)) (ci := 1) (v := .int 0) (ty := .int) (C := RX1) (T := TX1) (N := 7) hx hb hts (fun w h => List.mem_cons_of_mem _ (pt_wsX1 w h)) tyX1 tyX1_ok nmX1 hown hK hP hD hS 0 rfl rfl 6 (by decide) (hts _ (List.mem_cons_of_mem _ pw167)) (fun _ h9 => h9) rfl (by decide +kernel) rfl rfl (Nat.le_of_ble_eq_true rfl) dX1_told_2 (fun H locs hP hD hS => ?_)
  have hP : va_P (dC, dI) vwCl [(g0, .inr (1, [.ref a0, .ref b0, .int (nI k), .int (nI n), .int cl, .int su, .int 0])), (a0, .inl (ja, 512, .inr (.inl fc))), (b0, .inl (jb, 512, .inr (.inl fv)))] H := hP
  have hD : va_D A [(g0, .inr (1, [.ref a0, .ref b0, .int (nI k), .int (nI n), .int cl, .int su, .int 0])), (a0, .inl (ja, 512, .inr (.inl fc))), (b0, .inl (jb, 512, .inr (.inl fv)))] := hD
  refine lv_iload_n hx hb dX1_told_5 rfl (lv_at hl 2 rfl) ?_
  refine lv_if_lt (tgt := 14) hx hb dX1_told_6 (by decide) (fun h1 => ?_) (fun h1 => ?_)
  · refine lv_aload_n hx hb dX1_told_14 rfl (lv_at hl 0 rfl) ?_
    refine lv_iconst (v := 1) hx hb dX1_told_15 (by decide) ?_
    have hPc := hP.sub (ws' := [(g0, .inr (1, [.ref a0, .ref b0, .int (nI k), .int (nI n), .int cl, .int su, .int 0])), (a0, .inl (ja, 512, .inr (.inl fc))), (b0, .inl (jb, 512, .inr (.inl fv)))]) [0, 1, 2] rfl
    have hDc := hD.sub (ws' := [(g0, .inr (1, [.ref a0, .ref b0, .int (nI k), .int (nI n), .int cl, .int su, .int 0])), (a0, .inl (ja, 512, .inr (.inl fc))), (b0, .inl (jb, 512, .inr (.inl fv)))]) [0, 1, 2] (by decide) rfl
    have hKc := hK.sub (tys' := [(ja, .long), (jb, .long)]) [0, 1] rfl
    have hFc := va_free (wc := [(g0, .inr (1, [.ref a0, .ref b0, .int (nI k), .int (nI n), .int cl, .int su, .int 0])), (a0, .inl (ja, 512, .inr (.inl fc))), (b0, .inl (jb, 512, .inr (.inl fv)))]) hD hS hA [0, 1, 2] rfl
    refine va_calli (va_runV (As := [.int 1]) (rest := []) ⟨hx, hb, hml, hown, hts⟩ (c_fail l dC dI g0 a0 b0 ja jb (nI k) (nI n) fc fv cl su 0 1 H.size ) (cwV 1 hts (pt_gV pw183 pw184 pw9 pw18 pw185) rfl rfl rfl (by decide +kernel) ⟨Nat.le_of_ble_eq_true rfl, Nat.le_of_ble_eq_true rfl⟩) ⟨fun a U g mk q => by obtain ⟨q0, q1, qP, qK, qD⟩ := q; exact ⟨q0, q1, qP, va_K.moved (u := U) (U := U.calling g mk a) (Vm.Alike.refl U.vm) qK, qD⟩, va_recv hK hP (ci := 1) (q0 := 0) rfl rfl, fun U hU hW => ⟨rfl, by rw [hU], by rw [hU]; exact hPc, va_K.moved hW.alike hKc, hDc.weaken (fun _ _ _ _ => trivial)⟩⟩ rfl rfl hl.1 rfl (lv_room (Nat.le_of_ble_eq_true rfl)) dX1_told_16 ⟨Nat.zero_le _, Nat.zero_le _⟩) hS (fun q _ h => hFc q h) hFc (fun r1 u t H1 locs ht hvm hw hB hz1 hk1 hS => ?_)
    obtain ⟨hP1, hK1, hD1⟩ := hB
    rw [ht] at hP1
    obtain ⟨hP, hD⟩ := va_join (wr := ([] : va_W)) (w1 := [(g0, .inr (1, [.ref a0, .ref b0, .int (nI k), .int (nI n), .int cl, .int su, .int 1])), (a0, .inl (ja, 512, .inr (.inl fc))), (b0, .inl (jb, 512, .inr (.inl fv)))]) hP hD [0, 1, 2] [] rfl rfl (by decide) (by decide) hk1 hFc hP1 hD1
    generalize H1 = H at hP hS ⊢
    have hP : va_P (dC, dI) vwCl [(g0, .inr (1, [.ref a0, .ref b0, .int (nI k), .int (nI n), .int cl, .int su, .int 1])), (a0, .inl (ja, 512, .inr (.inl fc))), (b0, .inl (jb, 512, .inr (.inl fv)))] H := hP
    have hD : va_D A [(g0, .inr (1, [.ref a0, .ref b0, .int (nI k), .int (nI n), .int cl, .int su, .int 1])), (a0, .inl (ja, 512, .inr (.inl fc))), (b0, .inl (jb, 512, .inr (.inl fv)))] := hD
    subst hw
    refine lv_i2l (v := (0 : Int32).toInt64) hx hb dX1_told_19 rfl ?_
    rw [← hQ]
    exact W.lret (v := (0 : Int32).toInt64) hx hb hr (fun t ht hW => ⟨⟨(0 : Int32).toInt64, 1, rfl, Or.inl ⟨Or.inl h1, rfl⟩, by rw [ht]; exact hP, va_K.moved hW.alike hK, hD⟩, hS.F ht⟩) hS.2.2 dX1_told_20
  · refine lv_iload_n hx hb dX1_told_9 rfl (lv_at hl 2 rfl) ?_
    refine lv_iconst (v := 2) hx hb dX1_told_10 (by decide) ?_
    refine lv_icmp_le (tgt := 21) hx hb dX1_told_11 (by decide) (fun h2 => ?_) (fun h2 => ?_)
    · refine lv_iload_n hx hb dX1_told_21 rfl (lv_at hl 1 rfl) ?_
      refine lv_if_lt (tgt := 33) hx hb dX1_told_22 (by decide) (fun h3 => ?_) (fun h3 => ?_)
      · refine lv_aload_n hx hb dX1_told_33 rfl (lv_at hl 0 rfl) ?_
        refine lv_iconst (v := 2) hx hb dX1_told_34 (by decide) ?_
        have hPc := hP.sub (ws' := [(g0, .inr (1, [.ref a0, .ref b0, .int (nI k), .int (nI n), .int cl, .int su, .int 0])), (a0, .inl (ja, 512, .inr (.inl fc))), (b0, .inl (jb, 512, .inr (.inl fv)))]) [0, 1, 2] rfl
        have hDc := hD.sub (ws' := [(g0, .inr (1, [.ref a0, .ref b0, .int (nI k), .int (nI n), .int cl, .int su, .int 0])), (a0, .inl (ja, 512, .inr (.inl fc))), (b0, .inl (jb, 512, .inr (.inl fv)))]) [0, 1, 2] (by decide) rfl
        have hKc := hK.sub (tys' := [(ja, .long), (jb, .long)]) [0, 1] rfl
        have hFc := va_free (wc := [(g0, .inr (1, [.ref a0, .ref b0, .int (nI k), .int (nI n), .int cl, .int su, .int 0])), (a0, .inl (ja, 512, .inr (.inl fc))), (b0, .inl (jb, 512, .inr (.inl fv)))]) hD hS hA [0, 1, 2] rfl
        refine va_calli (va_runV (As := [.int 2]) (rest := []) ⟨hx, hb, hml, hown, hts⟩ (c_fail l dC dI g0 a0 b0 ja jb (nI k) (nI n) fc fv cl su 0 2 H.size ) (cwV 1 hts (pt_gV pw183 pw184 pw9 pw18 pw185) rfl rfl rfl (by decide +kernel) ⟨Nat.le_of_ble_eq_true rfl, Nat.le_of_ble_eq_true rfl⟩) ⟨fun a U g mk q => by obtain ⟨q0, q1, qP, qK, qD⟩ := q; exact ⟨q0, q1, qP, va_K.moved (u := U) (U := U.calling g mk a) (Vm.Alike.refl U.vm) qK, qD⟩, va_recv hK hP (ci := 1) (q0 := 0) rfl rfl, fun U hU hW => ⟨rfl, by rw [hU], by rw [hU]; exact hPc, va_K.moved hW.alike hKc, hDc.weaken (fun _ _ _ _ => trivial)⟩⟩ rfl rfl hl.1 rfl (lv_room (Nat.le_of_ble_eq_true rfl)) dX1_told_35 ⟨Nat.zero_le _, Nat.zero_le _⟩) hS (fun q _ h => hFc q h) hFc (fun r2 u t H1 locs ht hvm hw hB hz1 hk1 hS => ?_)
        obtain ⟨hP1, hK1, hD1⟩ := hB
        rw [ht] at hP1
        obtain ⟨hP, hD⟩ := va_join (wr := ([] : va_W)) (w1 := [(g0, .inr (1, [.ref a0, .ref b0, .int (nI k), .int (nI n), .int cl, .int su, .int 2])), (a0, .inl (ja, 512, .inr (.inl fc))), (b0, .inl (jb, 512, .inr (.inl fv)))]) hP hD [0, 1, 2] [] rfl rfl (by decide) (by decide) hk1 hFc hP1 hD1
        generalize H1 = H at hP hS ⊢
        have hP : va_P (dC, dI) vwCl [(g0, .inr (1, [.ref a0, .ref b0, .int (nI k), .int (nI n), .int cl, .int su, .int 2])), (a0, .inl (ja, 512, .inr (.inl fc))), (b0, .inl (jb, 512, .inr (.inl fv)))] H := hP
        have hD : va_D A [(g0, .inr (1, [.ref a0, .ref b0, .int (nI k), .int (nI n), .int cl, .int su, .int 2])), (a0, .inl (ja, 512, .inr (.inl fc))), (b0, .inl (jb, 512, .inr (.inl fv)))] := hD
        subst hw
        refine lv_i2l (v := (0 : Int32).toInt64) hx hb dX1_told_38 rfl ?_
        rw [← hQ]
        exact W.lret (v := (0 : Int32).toInt64) hx hb hr (fun t ht hW => ⟨⟨(0 : Int32).toInt64, 2, rfl, Or.inr (Or.inl ⟨h1, h2, Or.inl h3, rfl⟩), by rw [ht]; exact hP, va_K.moved hW.alike hK, hD⟩, hS.F ht⟩) hS.2.2 dX1_told_39
      · refine lv_iload_n hx hb dX1_told_25 rfl (lv_at hl 1 rfl) ?_
        refine lv_aload_n hx hb dX1_told_26 rfl (lv_at hl 0 rfl) ?_
        refine va_get (D := (dC, dI)) (ci := 1) (v := .int (nI k)) (C := RX1) (T := TX1) (N := 7) hx hb hts (fun w h => List.mem_cons_of_mem _ (pt_wsX1 w h)) hown hK hP 0 rfl rfl 2 (by decide) (hts _ (List.mem_cons_of_mem _ pw163)) (fun _ h9 => h9) rfl dX1_told_27 ?_
        refine lv_icmp_lt (tgt := 40) hx hb dX1_told_30 (by decide) (fun h4 => ?_) (fun h4 => ?_)
        · obtain ⟨i, hi, rfl⟩ := pt_at hk h3 h4
          refine lv_iload_n hx hb dX1_told_40 rfl (lv_at hl 2 rfl) ?_
          refine lv_if_ne (tgt := 53) hx hb dX1_told_41 (by decide) (fun h5 => ?_) (fun h5 => ?_)
          · refine lv_iload_n hx hb dX1_told_53 rfl (lv_at hl 2 rfl) ?_
            refine lv_iconst (v := 1) hx hb dX1_told_54 (by decide) ?_
            refine lv_icmp_ne (tgt := 67) hx hb dX1_told_55 (by decide) (fun h6 => ?_) (fun h6 => ?_)
            · refine lv_aload_n hx hb dX1_told_67 rfl (lv_at hl 0 rfl) ?_
              refine va_get (D := (dC, dI)) (ci := 1) (v := .int (nI n)) (C := RX1) (T := TX1) (N := 7) hx hb hts (fun w h => List.mem_cons_of_mem _ (pt_wsX1 w h)) hown hK hP 0 rfl rfl 3 (by decide) (hts _ (List.mem_cons_of_mem _ pw164)) (fun _ h9 => h9) rfl dX1_told_68 ?_
              refine lv_aload_n hx hb dX1_told_71 rfl (lv_at hl 0 rfl) ?_
              refine va_get (D := (dC, dI)) (ci := 1) (v := .ref a0) (C := RX1) (T := TX1) (N := 7) hx hb hts (fun w h => List.mem_cons_of_mem _ (pt_wsX1 w h)) hown hK hP 0 rfl rfl 0 (by decide) (hts _ (List.mem_cons_of_mem _ pw161)) (fun _ h9 => h9) rfl dX1_told_72 ?_
              refine lv_iload_n hx hb dX1_told_75 rfl (lv_at hl 1 rfl) ?_
              refine va_lald hx hb hK hP 1 0 rfl rfl (vp_in_nI (by omega) (by decide)) dX1_told_76 ?_
              rw [nI_clamp (by omega)]
              refine vp_callSi (W.runS (As := [.long (fc i)]) (rest := [.int (nI n)]) ⟨hx, hb, hml, hown, hts⟩ (c_bits l dC dI (fc i)) (va_cwS 1 hts (pt_gS pw229 pw230 pw18 pw231) rfl rfl rfl (by decide +kernel) ⟨Nat.le_of_ble_eq_true rfl, Nat.le_of_ble_eq_true rfl⟩) ⟨fun a U g mk q => by obtain ⟨q0, qP, qK⟩ := q; exact ⟨q0, qP, va_K.moved (u := U) (U := U.calling g mk a) (Vm.Alike.refl U.vm) qK⟩, fun U hU hW => ⟨rfl, by rw [hU]; exact (hP.sub (ws' := ([] : va_W)) [] rfl), va_K.moved hW.alike (hK.sub (tys' := []) [] rfl)⟩⟩ rfl rfl hl.1 rfl (lv_room (Nat.le_of_ble_eq_true rfl)) dX1_told_77 ⟨Nat.zero_le _, Nat.zero_le _⟩) (fun r3 hw => ?_)
              subst hw
              refine lv_isub hx hb dX1_told_80 ?_
              refine lv_i2l (v := ((nI n) - (pt_bits (fc i))).toInt64) hx hb dX1_told_81 rfl ?_
              rw [← hQ]
              exact W.lret (v := ((nI n) - (pt_bits (fc i))).toInt64) hx hb hr (fun t ht hW => ⟨⟨((nI n) - (pt_bits (fc i))).toInt64, 0, rfl, Or.inr (Or.inr ⟨i, hi, rfl, h1, h2, rfl, by rw [if_neg h5, if_neg h6]⟩), by rw [ht]; exact hP, va_K.moved hW.alike hK, hD⟩, hS.F ht⟩) hS.2.2 dX1_told_82
            · refine lv_aload_n hx hb dX1_told_58 rfl (lv_at hl 0 rfl) ?_
              refine va_get (D := (dC, dI)) (ci := 1) (v := .ref b0) (C := RX1) (T := TX1) (N := 7) hx hb hts (fun w h => List.mem_cons_of_mem _ (pt_wsX1 w h)) hown hK hP 0 rfl rfl 1 (by decide) (hts _ (List.mem_cons_of_mem _ pw162)) (fun _ h9 => h9) rfl dX1_told_59 ?_
              refine lv_iload_n hx hb dX1_told_62 rfl (lv_at hl 1 rfl) ?_
              refine va_lald hx hb hK hP 2 1 rfl rfl (vp_in_nI (by omega) (by decide)) dX1_told_63 ?_
              rw [nI_clamp (by omega)]
              refine lv_goto (tgt := 82) hx hb dX1_told_64 (by decide) ?_
              rw [← hQ]
              exact W.lret (v := fv i) hx hb hr (fun t ht hW => ⟨⟨fv i, 0, rfl, Or.inr (Or.inr ⟨i, hi, rfl, h1, h2, rfl, by rw [if_neg h5, if_pos h6]⟩), by rw [ht]; exact hP, va_K.moved hW.alike hK, hD⟩, hS.F ht⟩) hS.2.2 dX1_told_82
          · refine lv_aload_n hx hb dX1_told_44 rfl (lv_at hl 0 rfl) ?_
            refine va_get (D := (dC, dI)) (ci := 1) (v := .ref a0) (C := RX1) (T := TX1) (N := 7) hx hb hts (fun w h => List.mem_cons_of_mem _ (pt_wsX1 w h)) hown hK hP 0 rfl rfl 0 (by decide) (hts _ (List.mem_cons_of_mem _ pw161)) (fun _ h9 => h9) rfl dX1_told_45 ?_
            refine lv_iload_n hx hb dX1_told_48 rfl (lv_at hl 1 rfl) ?_
            refine va_lald hx hb hK hP 1 0 rfl rfl (vp_in_nI (by omega) (by decide)) dX1_told_49 ?_
            rw [nI_clamp (by omega)]
            refine lv_goto (tgt := 82) hx hb dX1_told_50 (by decide) ?_
            rw [← hQ]
            exact W.lret (v := fc i) hx hb hr (fun t ht hW => ⟨⟨fc i, 0, rfl, Or.inr (Or.inr ⟨i, hi, rfl, h1, h2, rfl, by rw [if_pos h5]⟩), by rw [ht]; exact hP, va_K.moved hW.alike hK, hD⟩, hS.F ht⟩) hS.2.2 dX1_told_82
        · refine lv_aload_n hx hb dX1_told_33 rfl (lv_at hl 0 rfl) ?_
          refine lv_iconst (v := 2) hx hb dX1_told_34 (by decide) ?_
          have hPc := hP.sub (ws' := [(g0, .inr (1, [.ref a0, .ref b0, .int (nI k), .int (nI n), .int cl, .int su, .int 0])), (a0, .inl (ja, 512, .inr (.inl fc))), (b0, .inl (jb, 512, .inr (.inl fv)))]) [0, 1, 2] rfl
          have hDc := hD.sub (ws' := [(g0, .inr (1, [.ref a0, .ref b0, .int (nI k), .int (nI n), .int cl, .int su, .int 0])), (a0, .inl (ja, 512, .inr (.inl fc))), (b0, .inl (jb, 512, .inr (.inl fv)))]) [0, 1, 2] (by decide) rfl
          have hKc := hK.sub (tys' := [(ja, .long), (jb, .long)]) [0, 1] rfl
          have hFc := va_free (wc := [(g0, .inr (1, [.ref a0, .ref b0, .int (nI k), .int (nI n), .int cl, .int su, .int 0])), (a0, .inl (ja, 512, .inr (.inl fc))), (b0, .inl (jb, 512, .inr (.inl fv)))]) hD hS hA [0, 1, 2] rfl
          refine va_calli (va_runV (As := [.int 2]) (rest := []) ⟨hx, hb, hml, hown, hts⟩ (c_fail l dC dI g0 a0 b0 ja jb (nI k) (nI n) fc fv cl su 0 2 H.size ) (cwV 1 hts (pt_gV pw183 pw184 pw9 pw18 pw185) rfl rfl rfl (by decide +kernel) ⟨Nat.le_of_ble_eq_true rfl, Nat.le_of_ble_eq_true rfl⟩) ⟨fun a U g mk q => by obtain ⟨q0, q1, qP, qK, qD⟩ := q; exact ⟨q0, q1, qP, va_K.moved (u := U) (U := U.calling g mk a) (Vm.Alike.refl U.vm) qK, qD⟩, va_recv hK hP (ci := 1) (q0 := 0) rfl rfl, fun U hU hW => ⟨rfl, by rw [hU], by rw [hU]; exact hPc, va_K.moved hW.alike hKc, hDc.weaken (fun _ _ _ _ => trivial)⟩⟩ rfl rfl hl.1 rfl (lv_room (Nat.le_of_ble_eq_true rfl)) dX1_told_35 ⟨Nat.zero_le _, Nat.zero_le _⟩) hS (fun q _ h => hFc q h) hFc (fun r4 u t H1 locs ht hvm hw hB hz1 hk1 hS => ?_)
          obtain ⟨hP1, hK1, hD1⟩ := hB
          rw [ht] at hP1
          obtain ⟨hP, hD⟩ := va_join (wr := ([] : va_W)) (w1 := [(g0, .inr (1, [.ref a0, .ref b0, .int (nI k), .int (nI n), .int cl, .int su, .int 2])), (a0, .inl (ja, 512, .inr (.inl fc))), (b0, .inl (jb, 512, .inr (.inl fv)))]) hP hD [0, 1, 2] [] rfl rfl (by decide) (by decide) hk1 hFc hP1 hD1
          generalize H1 = H at hP hS ⊢
          have hP : va_P (dC, dI) vwCl [(g0, .inr (1, [.ref a0, .ref b0, .int (nI k), .int (nI n), .int cl, .int su, .int 2])), (a0, .inl (ja, 512, .inr (.inl fc))), (b0, .inl (jb, 512, .inr (.inl fv)))] H := hP
          have hD : va_D A [(g0, .inr (1, [.ref a0, .ref b0, .int (nI k), .int (nI n), .int cl, .int su, .int 2])), (a0, .inl (ja, 512, .inr (.inl fc))), (b0, .inl (jb, 512, .inr (.inl fv)))] := hD
          subst hw
          refine lv_i2l (v := (0 : Int32).toInt64) hx hb dX1_told_38 rfl ?_
          rw [← hQ]
          exact W.lret (v := (0 : Int32).toInt64) hx hb hr (fun t ht hW => ⟨⟨(0 : Int32).toInt64, 2, rfl, Or.inr (Or.inl ⟨h1, h2, Or.inr h4, rfl⟩), by rw [ht]; exact hP, va_K.moved hW.alike hK, hD⟩, hS.F ht⟩) hS.2.2 dX1_told_39
    · refine lv_aload_n hx hb dX1_told_14 rfl (lv_at hl 0 rfl) ?_
      refine lv_iconst (v := 1) hx hb dX1_told_15 (by decide) ?_
      have hPc := hP.sub (ws' := [(g0, .inr (1, [.ref a0, .ref b0, .int (nI k), .int (nI n), .int cl, .int su, .int 0])), (a0, .inl (ja, 512, .inr (.inl fc))), (b0, .inl (jb, 512, .inr (.inl fv)))]) [0, 1, 2] rfl
      have hDc := hD.sub (ws' := [(g0, .inr (1, [.ref a0, .ref b0, .int (nI k), .int (nI n), .int cl, .int su, .int 0])), (a0, .inl (ja, 512, .inr (.inl fc))), (b0, .inl (jb, 512, .inr (.inl fv)))]) [0, 1, 2] (by decide) rfl
      have hKc := hK.sub (tys' := [(ja, .long), (jb, .long)]) [0, 1] rfl
      have hFc := va_free (wc := [(g0, .inr (1, [.ref a0, .ref b0, .int (nI k), .int (nI n), .int cl, .int su, .int 0])), (a0, .inl (ja, 512, .inr (.inl fc))), (b0, .inl (jb, 512, .inr (.inl fv)))]) hD hS hA [0, 1, 2] rfl
      refine va_calli (va_runV (As := [.int 1]) (rest := []) ⟨hx, hb, hml, hown, hts⟩ (c_fail l dC dI g0 a0 b0 ja jb (nI k) (nI n) fc fv cl su 0 1 H.size ) (cwV 1 hts (pt_gV pw183 pw184 pw9 pw18 pw185) rfl rfl rfl (by decide +kernel) ⟨Nat.le_of_ble_eq_true rfl, Nat.le_of_ble_eq_true rfl⟩) ⟨fun a U g mk q => by obtain ⟨q0, q1, qP, qK, qD⟩ := q; exact ⟨q0, q1, qP, va_K.moved (u := U) (U := U.calling g mk a) (Vm.Alike.refl U.vm) qK, qD⟩, va_recv hK hP (ci := 1) (q0 := 0) rfl rfl, fun U hU hW => ⟨rfl, by rw [hU], by rw [hU]; exact hPc, va_K.moved hW.alike hKc, hDc.weaken (fun _ _ _ _ => trivial)⟩⟩ rfl rfl hl.1 rfl (lv_room (Nat.le_of_ble_eq_true rfl)) dX1_told_16 ⟨Nat.zero_le _, Nat.zero_le _⟩) hS (fun q _ h => hFc q h) hFc (fun r5 u t H1 locs ht hvm hw hB hz1 hk1 hS => ?_)
      obtain ⟨hP1, hK1, hD1⟩ := hB
      rw [ht] at hP1
      obtain ⟨hP, hD⟩ := va_join (wr := ([] : va_W)) (w1 := [(g0, .inr (1, [.ref a0, .ref b0, .int (nI k), .int (nI n), .int cl, .int su, .int 1])), (a0, .inl (ja, 512, .inr (.inl fc))), (b0, .inl (jb, 512, .inr (.inl fv)))]) hP hD [0, 1, 2] [] rfl rfl (by decide) (by decide) hk1 hFc hP1 hD1
      generalize H1 = H at hP hS ⊢
      have hP : va_P (dC, dI) vwCl [(g0, .inr (1, [.ref a0, .ref b0, .int (nI k), .int (nI n), .int cl, .int su, .int 1])), (a0, .inl (ja, 512, .inr (.inl fc))), (b0, .inl (jb, 512, .inr (.inl fv)))] H := hP
      have hD : va_D A [(g0, .inr (1, [.ref a0, .ref b0, .int (nI k), .int (nI n), .int cl, .int su, .int 1])), (a0, .inl (ja, 512, .inr (.inl fc))), (b0, .inl (jb, 512, .inr (.inl fv)))] := hD
      subst hw
      refine lv_i2l (v := (0 : Int32).toInt64) hx hb dX1_told_19 rfl ?_
      rw [← hQ]
      exact W.lret (v := (0 : Int32).toInt64) hx hb hr (fun t ht hW => ⟨⟨(0 : Int32).toInt64, 1, rfl, Or.inl ⟨Or.inr h2, rfl⟩, by rw [ht]; exact hP, va_K.moved hW.alike hK, hD⟩, hS.F ht⟩) hS.2.2 dX1_told_20
set_option maxHeartbeats 4000000 in
set_option maxRecDepth 100000 in
/-- the reference: count(what) -/
theorem c_mcount (l : Launch) (dC : Nat → ClassId) (dI : Nat → Nat → Nat) (g0 a0 b0 : Nat) (ja jb : ClassId) (k n : Nat) (fc fv : Nat → Int64) (cl su th : Int32) (x : Int32) (sz : Nat)  : Met l yX1_count wsX1_count ({ frames := 0, cells := 0, slots := 0, locals := 0 }) (va_Pc [.ref g0, .int x] (fun U => U.heap.size = sz ∧ va_P (dC, dI) vwCl [(g0, .inr (1, [.ref a0, .ref b0, .int (nI k), .int (nI n), .int cl, .int su, .int th])), (a0, .inl (ja, 512, .inr (.inl fc))), (b0, .inl (jb, 512, .inr (.inl fv)))] U.heap ∧ va_K (dC, dI) vwCl [(ja, .long), (jb, .long)] U ∧ va_D (fun _ => True) [(g0, .inr (1, [.ref a0, .ref b0, .int (nI k), .int (nI n), .int cl, .int su, .int th])), (a0, .inl (ja, 512, .inr (.inl fc))), (b0, .inl (jb, 512, .inr (.inl fv)))])) (va_Qi (fun (r : Int32) _ => r = (if x = 0 then nI k else if x = 1 then nI n else if x = 2 then cl else if x = 3 then su else -1)) (fun (u : Unit) (t : State) => match u with | _ => va_P (dC, dI) vwCl [(g0, .inr (1, [.ref a0, .ref b0, .int (nI k), .int (nI n), .int cl, .int su, .int 0])), (a0, .inl (ja, 512, .inr (.inl fc))), (b0, .inl (jb, 512, .inr (.inl fv)))] t.heap ∧ va_K (dC, dI) vwCl [(ja, .long), (jb, .long)] t ∧ va_D (va_A [(g0, .inr (1, [.ref a0, .ref b0, .int (nI k), .int (nI n), .int cl, .int su, .int th])), (a0, .inl (ja, 512, .inr (.inl fc))), (b0, .inl (jb, 512, .inr (.inl fv)))] sz) [(g0, .inr (1, [.ref a0, .ref b0, .int (nI k), .int (nI n), .int cl, .int su, .int 0])), (a0, .inl (ja, 512, .inr (.inl fc))), (b0, .inl (jb, 512, .inr (.inl fv)))]) (va_A [(g0, .inr (1, [.ref a0, .ref b0, .int (nI k), .int (nI n), .int cl, .int su, .int th])), (a0, .inl (ja, 512, .inr (.inl fc))), (b0, .inl (jb, 512, .inr (.inl fv)))] sz)) 0 0 (va_A [(g0, .inr (1, [.ref a0, .ref b0, .int (nI k), .int (nI n), .int cl, .int su, .int th])), (a0, .inl (ja, 512, .inr (.inl fc))), (b0, .inl (jb, 512, .inr (.inl fv)))] sz) := by
  refine Met.ofW (cc := cX1_count) (maxL := 2) (ret := (some .int)) (by decide) rfl ?_
  intro p e s m args below meth c s₁ B hml hv
  obtain ⟨ha, hsz, hP, hK, hD0⟩ := hv
  subst hsz
  have hx := B.exec
  have hb := B.bytes
  have hr := B.returns
  have hts := atoms_spec (ws := wsX1_count) B.pre
  have hown : s.vm.findClass RX1 = some m.cls := findClass_of_methodNamed B.named
  have hlocks := B.notSynchronized
  have hl := lv_entry ([.ref g0, .int x]) (n := 2) (Nat.le_of_ble_eq_true rfl)
  refine W.eq (show entryFrame m args 2 = entryFrame m ([.ref g0, .int x] : List Value).toArray 2 by rw [ha]) ?_
  rw [lg_entry_eq]
  generalize (lg_sl ([.ref g0, .int x]) ++ List.replicate (2 - (lg_sl ([.ref g0, .int x])).length) Slot.unset).toArray = ls at hl ⊢
  have hl : lv_has ls 2 [(0, .ref g0), (1, .int x)] := hl
  have hD := hD0.self (sz := s.heap.size)
  generalize hAe : va_A [(g0, .inr (1, [.ref a0, .ref b0, .int (nI k), .int (nI n), .int cl, .int su, .int th])), (a0, .inl (ja, 512, .inr (.inl fc))), (b0, .inl (jb, 512, .inr (.inl fv)))] s.heap.size = A at hD ⊢
  have hA : ∀ q : Nat, s.heap.size ≤ q → A q := fun q h => by rw [← hAe]; exact Or.inr h
  have hS : va_S A s.heap s.heap [] := va_S.rf
  generalize hQ : MQ below (va_Qi (fun (r : Int32) _ => r = (if x = 0 then nI k else if x = 1 then nI n else if x = 2 then cl else if x = 3 then su else -1)) (fun (u : Unit) (t : State) => match u with | _ => va_P (dC, dI) vwCl [(g0, .inr (1, [.ref a0, .ref b0, .int (nI k), .int (nI n), .int cl, .int su, .int 0])), (a0, .inl (ja, 512, .inr (.inl fc))), (b0, .inl (jb, 512, .inr (.inl fv)))] t.heap ∧ va_K (dC, dI) vwCl [(ja, .long), (jb, .long)] t ∧ va_D A [(g0, .inr (1, [.ref a0, .ref b0, .int (nI k), .int (nI n), .int cl, .int su, .int 0])), (a0, .inl (ja, 512, .inr (.inl fc))), (b0, .inl (jb, 512, .inr (.inl fv)))]) A) args s 0 0 A = Q
  have hP : va_P (dC, dI) vwCl [(g0, .inr (1, [.ref a0, .ref b0, .int (nI k), .int (nI n), .int cl, .int su, .int th])), (a0, .inl (ja, 512, .inr (.inl fc))), (b0, .inl (jb, 512, .inr (.inl fv)))] s.heap := hP
  refine lv_aload_n hx hb dX1_count_0 rfl (lv_at hl 0 rfl) ?_
  refine lv_iconst (v := 0) hx hb dX1_count_1 (by decide) ?_
  refine va_put (D := (dC, dI)) (ci := 1) (v := .int 0) (ty := .int) (C := RX1) (T := TX1) (N := 7) hx hb hts (fun w h => List.mem_cons_of_mem _ (pt_wsX1 w h)) tyX1 tyX1_ok nmX1 hown hK hP hD hS 0 rfl rfl 6 (by decide) (hts _ (List.mem_cons_of_mem _ pw167)) (fun _ h9 => h9) rfl (by decide +kernel) rfl rfl (Nat.le_of_ble_eq_true rfl) dX1_count_2 (fun H locs hP hD hS => ?_)
  have hP : va_P (dC, dI) vwCl [(g0, .inr (1, [.ref a0, .ref b0, .int (nI k), .int (nI n), .int cl, .int su, .int 0])), (a0, .inl (ja, 512, .inr (.inl fc))), (b0, .inl (jb, 512, .inr (.inl fv)))] H := hP
  have hD : va_D A [(g0, .inr (1, [.ref a0, .ref b0, .int (nI k), .int (nI n), .int cl, .int su, .int 0])), (a0, .inl (ja, 512, .inr (.inl fc))), (b0, .inl (jb, 512, .inr (.inl fv)))] := hD
  refine lv_iload_n hx hb dX1_count_5 rfl (lv_at hl 1 rfl) ?_
  refine lv_if_ne (tgt := 16) hx hb dX1_count_6 (by decide) (fun h0 => ?_) (fun h0 => ?_)
  · refine lv_iload_n hx hb dX1_count_16 rfl (lv_at hl 1 rfl) ?_
    refine lv_iconst (v := 1) hx hb dX1_count_17 (by decide) ?_
    refine lv_icmp_ne (tgt := 28) hx hb dX1_count_18 (by decide) (fun h1 => ?_) (fun h1 => ?_)
    · refine lv_iload_n hx hb dX1_count_28 rfl (lv_at hl 1 rfl) ?_
      refine lv_iconst (v := 2) hx hb dX1_count_29 (by decide) ?_
      refine lv_icmp_ne (tgt := 40) hx hb dX1_count_30 (by decide) (fun h2 => ?_) (fun h2 => ?_)
      · refine lv_iload_n hx hb dX1_count_40 rfl (lv_at hl 1 rfl) ?_
        refine lv_iconst (v := 3) hx hb dX1_count_41 (by decide) ?_
        refine lv_icmp_ne (tgt := 52) hx hb dX1_count_42 (by decide) (fun h3 => ?_) (fun h3 => ?_)
        · refine lv_iconst (v := (-1)) hx hb dX1_count_52 (by decide) ?_
          rw [← hQ]
          exact W.iret (v := (-1)) hx hb hr (fun t ht hW => ⟨⟨(-1), (), rfl, by rw [if_neg h0, if_neg h1, if_neg h2, if_neg h3], by rw [ht]; exact hP, va_K.moved hW.alike hK, hD⟩, hS.F ht⟩) hS.2.2 dX1_count_53
        · refine lv_aload_n hx hb dX1_count_45 rfl (lv_at hl 0 rfl) ?_
          refine va_get (D := (dC, dI)) (ci := 1) (v := .int su) (C := RX1) (T := TX1) (N := 7) hx hb hts (fun w h => List.mem_cons_of_mem _ (pt_wsX1 w h)) hown hK hP 0 rfl rfl 5 (by decide) (hts _ (List.mem_cons_of_mem _ pw166)) (fun _ h9 => h9) rfl dX1_count_46 ?_
          refine lv_goto (tgt := 53) hx hb dX1_count_49 (by decide) ?_
          rw [← hQ]
          exact W.iret (v := su) hx hb hr (fun t ht hW => ⟨⟨su, (), rfl, by rw [if_neg h0, if_neg h1, if_neg h2, if_pos h3], by rw [ht]; exact hP, va_K.moved hW.alike hK, hD⟩, hS.F ht⟩) hS.2.2 dX1_count_53
      · refine lv_aload_n hx hb dX1_count_33 rfl (lv_at hl 0 rfl) ?_
        refine va_get (D := (dC, dI)) (ci := 1) (v := .int cl) (C := RX1) (T := TX1) (N := 7) hx hb hts (fun w h => List.mem_cons_of_mem _ (pt_wsX1 w h)) hown hK hP 0 rfl rfl 4 (by decide) (hts _ (List.mem_cons_of_mem _ pw165)) (fun _ h9 => h9) rfl dX1_count_34 ?_
        refine lv_goto (tgt := 53) hx hb dX1_count_37 (by decide) ?_
        rw [← hQ]
        exact W.iret (v := cl) hx hb hr (fun t ht hW => ⟨⟨cl, (), rfl, by rw [if_neg h0, if_neg h1, if_pos h2], by rw [ht]; exact hP, va_K.moved hW.alike hK, hD⟩, hS.F ht⟩) hS.2.2 dX1_count_53
    · refine lv_aload_n hx hb dX1_count_21 rfl (lv_at hl 0 rfl) ?_
      refine va_get (D := (dC, dI)) (ci := 1) (v := .int (nI n)) (C := RX1) (T := TX1) (N := 7) hx hb hts (fun w h => List.mem_cons_of_mem _ (pt_wsX1 w h)) hown hK hP 0 rfl rfl 3 (by decide) (hts _ (List.mem_cons_of_mem _ pw164)) (fun _ h9 => h9) rfl dX1_count_22 ?_
      refine lv_goto (tgt := 53) hx hb dX1_count_25 (by decide) ?_
      rw [← hQ]
      exact W.iret (v := nI n) hx hb hr (fun t ht hW => ⟨⟨nI n, (), rfl, by rw [if_neg h0, if_pos h1], by rw [ht]; exact hP, va_K.moved hW.alike hK, hD⟩, hS.F ht⟩) hS.2.2 dX1_count_53
  · refine lv_aload_n hx hb dX1_count_9 rfl (lv_at hl 0 rfl) ?_
    refine va_get (D := (dC, dI)) (ci := 1) (v := .int (nI k)) (C := RX1) (T := TX1) (N := 7) hx hb hts (fun w h => List.mem_cons_of_mem _ (pt_wsX1 w h)) hown hK hP 0 rfl rfl 2 (by decide) (hts _ (List.mem_cons_of_mem _ pw163)) (fun _ h9 => h9) rfl dX1_count_10 ?_
    refine lv_goto (tgt := 53) hx hb dX1_count_13 (by decide) ?_
    rw [← hQ]
    exact W.iret (v := nI k) hx hb hr (fun t ht hW => ⟨⟨nI k, (), rfl, by rw [if_pos h0], by rw [ht]; exact hP, va_K.moved hW.alike hK, hD⟩, hS.F ht⟩) hS.2.2 dX1_count_53
end
section
set_option maxHeartbeats 4000000 in
set_option maxRecDepth 100000 in
/-- the law: clear -/
theorem c_Lclear (l : Launch) (hl9 : l.stackTraces = false) (dC : Nat → ClassId) (dI : Nat → Nat → Nat) (s0 : State) (h0X : pt_X s0) (h0 c0 w0 : Nat) (kc kw : ClassId) (k n : Nat) (fc fv : Nat → Int64) (cl su : Int32) (x : Int32) (sz : Nat)  : Met l yL_clear wsL_clear ({ frames := 7, cells := 1, slots := 6, locals := 103 }) (va_Pc [.ref h0, .int x] (fun U => U.heap.size = sz ∧ va_P (dC, dI) vwCl [(h0, .inr (0, [.ref c0, .ref w0, .int (nI k), .int (nI n), .long (pt_mk n), .int cl, .int su])), (c0, .inl (kc, 512, .inr (.inl fc))), (w0, .inl (kw, 512, .inr (.inl fv)))] U.heap ∧ va_K (dC, dI) vwCl [(kc, .long), (kw, .long)] U ∧ va_D (fun q => s0.heap.size ≤ q) [(h0, .inr (0, [.ref c0, .ref w0, .int (nI k), .int (nI n), .long (pt_mk n), .int cl, .int su])), (c0, .inl (kc, 512, .inr (.inl fc))), (w0, .inl (kw, 512, .inr (.inl fv)))] ∧ pt_ext s0 U)) (va_Qi (fun (r : Int32) u => pt_Rclear k n fc fv cl su x r u) (fun (u : pt_st) (t : State) => match u with | (k2, n2, fc2, fv2, cl2, su2) => va_P (dC, dI) vwCl [(h0, .inr (0, [.ref c0, .ref w0, .int (nI k2), .int (nI n2), .long (pt_mk n2), .int cl2, .int su2])), (c0, .inl (kc, 512, .inr (.inl fc2))), (w0, .inl (kw, 512, .inr (.inl fv2)))] t.heap ∧ va_K (dC, dI) vwCl [(kc, .long), (kw, .long)] t ∧ va_D (va_A [(h0, .inr (0, [.ref c0, .ref w0, .int (nI k), .int (nI n), .long (pt_mk n), .int cl, .int su])), (c0, .inl (kc, 512, .inr (.inl fc))), (w0, .inl (kw, 512, .inr (.inl fv)))] sz) [(h0, .inr (0, [.ref c0, .ref w0, .int (nI k2), .int (nI n2), .long (pt_mk n2), .int cl2, .int su2])), (c0, .inl (kc, 512, .inr (.inl fc2))), (w0, .inl (kw, 512, .inr (.inl fv2)))]) (va_A [(h0, .inr (0, [.ref c0, .ref w0, .int (nI k), .int (nI n), .long (pt_mk n), .int cl, .int su])), (c0, .inl (kc, 512, .inr (.inl fc))), (w0, .inl (kw, 512, .inr (.inl fv)))] sz)) 1 6 (va_A [(h0, .inr (0, [.ref c0, .ref w0, .int (nI k), .int (nI n), .long (pt_mk n), .int cl, .int su])), (c0, .inl (kc, 512, .inr (.inl fc))), (w0, .inl (kw, 512, .inr (.inl fv)))] sz) := by
  refine va_MetW (hh := [(0, 5, 8, 13)]) (cc := cL_clear) (maxL := 3) (ret := (some .int)) (by decide) rfl ?_
  intro p e s m args below meth c s₁ B hml hv
  obtain ⟨ha, hsz, hP, hK, hD0, hext⟩ := hv
  subst hsz
  have hx := B.exec
  have hb := B.bytes
  have hr := B.returns
  have hts := atoms_spec (ws := wsL_clear) B.pre
  have hown : s.vm.findClass RL = some m.cls := findClass_of_methodNamed B.named
  have hlocks := B.notSynchronized
  have hl := lv_entry ([.ref h0, .int x]) (n := 3) (Nat.le_of_ble_eq_true rfl)
  refine W.eq (show entryFrame m args 3 = entryFrame m ([.ref h0, .int x] : List Value).toArray 3 by rw [ha]) ?_
  rw [lg_entry_eq]
  generalize (lg_sl ([.ref h0, .int x]) ++ List.replicate (3 - (lg_sl ([.ref h0, .int x])).length) Slot.unset).toArray = ls at hl ⊢
  have hl : lv_has ls 3 [(0, .ref h0), (1, .int x)] := hl
  have htab : c.exceptionTable.toList = tableOf [(0, 5, 8, 13)] := pt_table B (hts _ List.mem_cons_self)
  have hD := hD0.self (sz := s.heap.size)
  have hAs : ∀ q : Nat, va_A [(h0, .inr (0, [.ref c0, .ref w0, .int (nI k), .int (nI n), .long (pt_mk n), .int cl, .int su])), (c0, .inl (kc, 512, .inr (.inl fc))), (w0, .inl (kw, 512, .inr (.inl fv)))] s.heap.size q → s0.heap.size ≤ q := pt_As hD0 hext.2.1
  generalize hAe : va_A [(h0, .inr (0, [.ref c0, .ref w0, .int (nI k), .int (nI n), .long (pt_mk n), .int cl, .int su])), (c0, .inl (kc, 512, .inr (.inl fc))), (w0, .inl (kw, 512, .inr (.inl fv)))] s.heap.size = A at hD hAs ⊢
  have hA : ∀ q : Nat, s.heap.size ≤ q → A q := fun q h => by rw [← hAe]; exact Or.inr h
  have hS : va_S A s.heap s.heap [] := va_S.rf
  have hP : va_P (dC, dI) vwCl [(h0, .inr (0, [.ref c0, .ref w0, .int (nI k), .int (nI n), .long (pt_mk n), .int cl, .int su])), (c0, .inl (kc, 512, .inr (.inl fc))), (w0, .inl (kw, 512, .inr (.inl fv)))] s.heap := hP
  generalize hQ : MQ below (va_Qi (fun (r : Int32) u => pt_Rclear k n fc fv cl su x r u) (fun (u : pt_st) (t : State) => match u with | (k2, n2, fc2, fv2, cl2, su2) => va_P (dC, dI) vwCl [(h0, .inr (0, [.ref c0, .ref w0, .int (nI k2), .int (nI n2), .long (pt_mk n2), .int cl2, .int su2])), (c0, .inl (kc, 512, .inr (.inl fc2))), (w0, .inl (kw, 512, .inr (.inl fv2)))] t.heap ∧ va_K (dC, dI) vwCl [(kc, .long), (kw, .long)] t ∧ va_D A [(h0, .inr (0, [.ref c0, .ref w0, .int (nI k2), .int (nI n2), .long (pt_mk n2), .int cl2, .int su2])), (c0, .inl (kc, 512, .inr (.inl fc2))), (w0, .inl (kw, 512, .inr (.inl fv2)))]) A) args s 1 6 A = Q
  refine lv_aload_n hx hb dL_clear_0 rfl (lv_at hl 0 rfl) ?_
  refine lv_iload_n hx hb dL_clear_1 rfl (lv_at hl 1 rfl) ?_
  by_cases hbad : x < 1 ∨ ¬ x ≤ 64
  · have hPc := hP.sub (ws' := [(h0, .inr (0, [.ref c0, .ref w0, .int (nI k), .int (nI n), .long (pt_mk n), .int cl, .int su])), (c0, .inl (kc, 512, .inr (.inl fc))), (w0, .inl (kw, 512, .inr (.inl fv)))]) [0, 1, 2] rfl
    have hDc := hD.sub (ws' := [(h0, .inr (0, [.ref c0, .ref w0, .int (nI k), .int (nI n), .long (pt_mk n), .int cl, .int su])), (c0, .inl (kc, 512, .inr (.inl fc))), (w0, .inl (kw, 512, .inr (.inl fv)))]) [0, 1, 2] (by decide) rfl
    have hKc := hK.sub (tys' := [(kc, .long), (kw, .long)]) [0, 1] rfl
    have hFc := va_free (wc := [(h0, .inr (0, [.ref c0, .ref w0, .int (nI k), .int (nI n), .long (pt_mk n), .int cl, .int su])), (c0, .inl (kc, 512, .inr (.inl fc))), (w0, .inl (kw, 512, .inr (.inl fv)))]) hD hS hA [0, 1, 2] rfl
    refine pt_catch (own := RL) (name := "java/lang/IllegalArgumentException") (pt_runT (As := [.int x]) (rest := []) ⟨hx, hb, hml, hown, hts⟩ (t_clear l hl9 dC dI s0 h0X h0 c0 w0 kc kw k n fc fv cl su x s.heap.size hbad) (cwV 1 hts (pt_gV pw62 pw63 pw64 pw17 pw65) rfl rfl rfl (by decide +kernel) ⟨Nat.le_of_ble_eq_true rfl, Nat.le_of_ble_eq_true rfl⟩) ⟨fun a U g mk q => by obtain ⟨q0, q1, qP, qK, qD, qX⟩ := q; exact ⟨q0, q1, qP, va_K.moved (u := U) (U := U.calling g mk a) (Vm.Alike.refl U.vm) qK, qD, qX⟩, va_recv hK hP (ci := 0) (q0 := 0) rfl rfl, fun U hU hW => ⟨rfl, by rw [hU], by rw [hU]; exact hPc, va_K.moved hW.alike hKc, hDc.weaken (fun _ _ _ h => hAs _ h), hext.on2 hS hAs hU hW⟩⟩ rfl rfl hl.1 rfl (lv_room (Nat.le_of_ble_eq_true rfl)) dL_clear_2 ⟨by decide, by decide⟩) hown [] ⟨0, 5, 8, 13⟩ [] (by rw [htab]; rfl) (fun z hz => nomatch hz) (by decide) (by decide) (hts _ (List.mem_cons_of_mem _ pw61)) (pt_X_at h0X hext (.castable "java/lang/IllegalArgumentException" "java/lang/IllegalArgumentException") (by decide) _) (fun q st t H1 L h1 h2 h3 h4 hq hL => ?_)
    obtain ⟨hP1, hK1, hD1, hF1⟩ := hq
    rw [h3] at hP1
    obtain ⟨hS, hz1, hk1⟩ := pt_S_call hS hFc h1 h3 hF1 hL
    obtain ⟨hP, hD⟩ := va_join (wr := ([] : va_W)) (w1 := [(h0, .inr (0, [.ref c0, .ref w0, .int (nI k), .int (nI n), .long (pt_mk n), .int cl, .int su])), (c0, .inl (kc, 512, .inr (.inl fc))), (w0, .inl (kw, 512, .inr (.inl fv)))]) hP hD [0, 1, 2] [] rfl rfl (by decide) (by decide) hk1 hFc hP1 hD1
    generalize H1 = H at hP hS ⊢
    refine W.eq (g2 := F0 m 8 ls [.ref q]) rfl ?_
    refine lv_astore_n (lv' := [(2, .ref q), (0, .ref h0), (1, .int x)]) hx hb dL_clear_8 rfl hl (by decide) rfl (fun ls hl => ?_)
    refine lv_iconst (v := 1) hx hb dL_clear_9 (by decide) ?_
    rw [← hQ]
    refine W.widen (k := 1) (n := 6) (by omega) (by omega) ?_
    exact W.iret (v := 1) hx hb hr (fun t ht hW => ⟨⟨1, (k, n, fc, fv, cl, su), rfl, Or.inl ⟨hbad, rfl, rfl⟩, by rw [ht]; exact hP, va_K.moved hW.alike hK, hD⟩, hS.F ht⟩) hS.2.2 dL_clear_10
  obtain ⟨a, hn1, hn2, rfl⟩ := pt_len (fun z => hbad (Or.inl z)) (Classical.not_not.mp fun z => hbad (Or.inr z))
  have hPc := hP.sub (ws' := [(h0, .inr (0, [.ref c0, .ref w0, .int (nI k), .int (nI n), .long (pt_mk n), .int cl, .int su])), (c0, .inl (kc, 512, .inr (.inl fc))), (w0, .inl (kw, 512, .inr (.inl fv)))]) [0, 1, 2] rfl
  have hDc := hD.sub (ws' := [(h0, .inr (0, [.ref c0, .ref w0, .int (nI k), .int (nI n), .long (pt_mk n), .int cl, .int su])), (c0, .inl (kc, 512, .inr (.inl fc))), (w0, .inl (kw, 512, .inr (.inl fv)))]) [0, 1, 2] (by decide) rfl
  have hKc := hK.sub (tys' := [(kc, .long), (kw, .long)]) [0, 1] rfl
  have hFc := va_free (wc := [(h0, .inr (0, [.ref c0, .ref w0, .int (nI k), .int (nI n), .long (pt_mk n), .int cl, .int su])), (c0, .inl (kc, 512, .inr (.inl fc))), (w0, .inl (kw, 512, .inr (.inl fv)))]) hD hS hA [0, 1, 2] rfl
  refine va_callv (va_runV (As := [.int (nI a)]) (rest := []) ⟨hx, hb, hml, hown, hts⟩ (c_clear l dC dI h0 c0 w0 kc kw k n fc fv cl su a s.heap.size hn1 hn2) (cwV 1 hts (pt_gV pw62 pw63 pw64 pw17 pw65) rfl rfl rfl (by decide +kernel) ⟨Nat.le_of_ble_eq_true rfl, Nat.le_of_ble_eq_true rfl⟩) ⟨fun a U g mk q => by obtain ⟨q0, q1, qP, qK, qD⟩ := q; exact ⟨q0, q1, qP, va_K.moved (u := U) (U := U.calling g mk a) (Vm.Alike.refl U.vm) qK, qD⟩, va_recv hK hP (ci := 0) (q0 := 0) rfl rfl, fun U hU hW => ⟨rfl, by rw [hU], by rw [hU]; exact hPc, va_K.moved hW.alike hKc, hDc.weaken (fun _ _ _ _ => trivial)⟩⟩ rfl rfl hl.1 rfl (lv_room (Nat.le_of_ble_eq_true rfl)) dL_clear_2 ⟨Nat.zero_le _, Nat.zero_le _⟩) hS (fun q _ h => hFc q h) hFc (fun  u t H1 locs ht hvm hw hB hz1 hk1 hS => ?_)
  obtain ⟨hP1, hK1, hD1⟩ := hB
  rw [ht] at hP1
  obtain ⟨hP, hD⟩ := va_join (wr := ([] : va_W)) (w1 := [(h0, .inr (0, [.ref c0, .ref w0, .int 0, .int (nI a), .long (pt_mk a), .int cl, .int su])), (c0, .inl (kc, 512, .inr (.inl fc))), (w0, .inl (kw, 512, .inr (.inl fv)))]) hP hD [0, 1, 2] [] rfl rfl (by decide) (by decide) hk1 hFc hP1 hD1
  generalize H1 = H at hP hS ⊢
  have hP : va_P (dC, dI) vwCl [(h0, .inr (0, [.ref c0, .ref w0, .int 0, .int (nI a), .long (pt_mk a), .int cl, .int su])), (c0, .inl (kc, 512, .inr (.inl fc))), (w0, .inl (kw, 512, .inr (.inl fv)))] H := hP
  have hD : va_D A [(h0, .inr (0, [.ref c0, .ref w0, .int 0, .int (nI a), .long (pt_mk a), .int cl, .int su])), (c0, .inl (kc, 512, .inr (.inl fc))), (w0, .inl (kw, 512, .inr (.inl fv)))] := hD
  refine lv_goto (tgt := 11) hx hb dL_clear_5 (by decide) ?_
  refine lv_iconst (v := 0) hx hb dL_clear_11 (by decide) ?_
  rw [← hQ]
  refine W.widen (k := 1) (n := 6) (by omega) (by omega) ?_
  exact W.iret (v := 0) hx hb hr (fun t ht hW => ⟨⟨0, (0, a, fc, fv, cl, su), rfl, Or.inr ⟨a, hn1, hn2, rfl, rfl, rfl⟩, by rw [ht]; exact hP, va_K.moved hW.alike hK, hD⟩, hS.F ht⟩) hS.2.2 dL_clear_12
set_option maxHeartbeats 4000000 in
set_option maxRecDepth 100000 in
/-- the law: drop -/
theorem c_Ldrop (l : Launch) (hl9 : l.stackTraces = false) (dC : Nat → ClassId) (dI : Nat → Nat → Nat) (s0 : State) (h0X : pt_X s0) (h0 c0 w0 : Nat) (kc kw : ClassId) (k n : Nat) (fc fv : Nat → Int64) (cl su : Int32) (x : Int32) (sz : Nat) (hk : k ≤ 512) : Met l yL_drop wsL_drop ({ frames := 8, cells := 1, slots := 6, locals := 125 }) (va_Pc [.ref h0, .int x] (fun U => U.heap.size = sz ∧ va_P (dC, dI) vwCl [(h0, .inr (0, [.ref c0, .ref w0, .int (nI k), .int (nI n), .long (pt_mk n), .int cl, .int su])), (c0, .inl (kc, 512, .inr (.inl fc))), (w0, .inl (kw, 512, .inr (.inl fv)))] U.heap ∧ va_K (dC, dI) vwCl [(kc, .long), (kw, .long)] U ∧ va_D (fun q => s0.heap.size ≤ q) [(h0, .inr (0, [.ref c0, .ref w0, .int (nI k), .int (nI n), .long (pt_mk n), .int cl, .int su])), (c0, .inl (kc, 512, .inr (.inl fc))), (w0, .inl (kw, 512, .inr (.inl fv)))] ∧ pt_ext s0 U)) (va_Qi (fun (r : Int32) u => pt_Rdrop k n fc fv cl su x r u) (fun (u : pt_st) (t : State) => match u with | (k2, n2, fc2, fv2, cl2, su2) => va_P (dC, dI) vwCl [(h0, .inr (0, [.ref c0, .ref w0, .int (nI k2), .int (nI n2), .long (pt_mk n2), .int cl2, .int su2])), (c0, .inl (kc, 512, .inr (.inl fc2))), (w0, .inl (kw, 512, .inr (.inl fv2)))] t.heap ∧ va_K (dC, dI) vwCl [(kc, .long), (kw, .long)] t ∧ va_D (va_A [(h0, .inr (0, [.ref c0, .ref w0, .int (nI k), .int (nI n), .long (pt_mk n), .int cl, .int su])), (c0, .inl (kc, 512, .inr (.inl fc))), (w0, .inl (kw, 512, .inr (.inl fv)))] sz) [(h0, .inr (0, [.ref c0, .ref w0, .int (nI k2), .int (nI n2), .long (pt_mk n2), .int cl2, .int su2])), (c0, .inl (kc, 512, .inr (.inl fc2))), (w0, .inl (kw, 512, .inr (.inl fv2)))]) (va_A [(h0, .inr (0, [.ref c0, .ref w0, .int (nI k), .int (nI n), .long (pt_mk n), .int cl, .int su])), (c0, .inl (kc, 512, .inr (.inl fc))), (w0, .inl (kw, 512, .inr (.inl fv)))] sz)) 1 6 (va_A [(h0, .inr (0, [.ref c0, .ref w0, .int (nI k), .int (nI n), .long (pt_mk n), .int cl, .int su])), (c0, .inl (kc, 512, .inr (.inl fc))), (w0, .inl (kw, 512, .inr (.inl fv)))] sz) := by
  refine va_MetW (hh := [(0, 5, 8, 28)]) (cc := cL_drop) (maxL := 3) (ret := (some .int)) (by decide) rfl ?_
  intro p e s m args below meth c s₁ B hml hv
  obtain ⟨ha, hsz, hP, hK, hD0, hext⟩ := hv
  subst hsz
  have hx := B.exec
  have hb := B.bytes
  have hr := B.returns
  have hts := atoms_spec (ws := wsL_drop) B.pre
  have hown : s.vm.findClass RL = some m.cls := findClass_of_methodNamed B.named
  have hlocks := B.notSynchronized
  have hl := lv_entry ([.ref h0, .int x]) (n := 3) (Nat.le_of_ble_eq_true rfl)
  refine W.eq (show entryFrame m args 3 = entryFrame m ([.ref h0, .int x] : List Value).toArray 3 by rw [ha]) ?_
  rw [lg_entry_eq]
  generalize (lg_sl ([.ref h0, .int x]) ++ List.replicate (3 - (lg_sl ([.ref h0, .int x])).length) Slot.unset).toArray = ls at hl ⊢
  have hl : lv_has ls 3 [(0, .ref h0), (1, .int x)] := hl
  have htab : c.exceptionTable.toList = tableOf [(0, 5, 8, 28)] := pt_table B (hts _ List.mem_cons_self)
  have hD := hD0.self (sz := s.heap.size)
  have hAs : ∀ q : Nat, va_A [(h0, .inr (0, [.ref c0, .ref w0, .int (nI k), .int (nI n), .long (pt_mk n), .int cl, .int su])), (c0, .inl (kc, 512, .inr (.inl fc))), (w0, .inl (kw, 512, .inr (.inl fv)))] s.heap.size q → s0.heap.size ≤ q := pt_As hD0 hext.2.1
  generalize hAe : va_A [(h0, .inr (0, [.ref c0, .ref w0, .int (nI k), .int (nI n), .long (pt_mk n), .int cl, .int su])), (c0, .inl (kc, 512, .inr (.inl fc))), (w0, .inl (kw, 512, .inr (.inl fv)))] s.heap.size = A at hD hAs ⊢
  have hA : ∀ q : Nat, s.heap.size ≤ q → A q := fun q h => by rw [← hAe]; exact Or.inr h
  have hS : va_S A s.heap s.heap [] := va_S.rf
  have hP : va_P (dC, dI) vwCl [(h0, .inr (0, [.ref c0, .ref w0, .int (nI k), .int (nI n), .long (pt_mk n), .int cl, .int su])), (c0, .inl (kc, 512, .inr (.inl fc))), (w0, .inl (kw, 512, .inr (.inl fv)))] s.heap := hP
  generalize hQ : MQ below (va_Qi (fun (r : Int32) u => pt_Rdrop k n fc fv cl su x r u) (fun (u : pt_st) (t : State) => match u with | (k2, n2, fc2, fv2, cl2, su2) => va_P (dC, dI) vwCl [(h0, .inr (0, [.ref c0, .ref w0, .int (nI k2), .int (nI n2), .long (pt_mk n2), .int cl2, .int su2])), (c0, .inl (kc, 512, .inr (.inl fc2))), (w0, .inl (kw, 512, .inr (.inl fv2)))] t.heap ∧ va_K (dC, dI) vwCl [(kc, .long), (kw, .long)] t ∧ va_D A [(h0, .inr (0, [.ref c0, .ref w0, .int (nI k2), .int (nI n2), .long (pt_mk n2), .int cl2, .int su2])), (c0, .inl (kc, 512, .inr (.inl fc2))), (w0, .inl (kw, 512, .inr (.inl fv2)))]) A) args s 1 6 A = Q
  refine lv_aload_n hx hb dL_drop_0 rfl (lv_at hl 0 rfl) ?_
  refine lv_iload_n hx hb dL_drop_1 rfl (lv_at hl 1 rfl) ?_
  by_cases hab : x < 0 ∨ ¬ x < nI k
  · have hPc := hP.sub (ws' := [(h0, .inr (0, [.ref c0, .ref w0, .int (nI k), .int (nI n), .long (pt_mk n), .int cl, .int su])), (c0, .inl (kc, 512, .inr (.inl fc))), (w0, .inl (kw, 512, .inr (.inl fv)))]) [0, 1, 2] rfl
    have hDc := hD.sub (ws' := [(h0, .inr (0, [.ref c0, .ref w0, .int (nI k), .int (nI n), .long (pt_mk n), .int cl, .int su])), (c0, .inl (kc, 512, .inr (.inl fc))), (w0, .inl (kw, 512, .inr (.inl fv)))]) [0, 1, 2] (by decide) rfl
    have hKc := hK.sub (tys' := [(kc, .long), (kw, .long)]) [0, 1] rfl
    have hFc := va_free (wc := [(h0, .inr (0, [.ref c0, .ref w0, .int (nI k), .int (nI n), .long (pt_mk n), .int cl, .int su])), (c0, .inl (kc, 512, .inr (.inl fc))), (w0, .inl (kw, 512, .inr (.inl fv)))]) hD hS hA [0, 1, 2] rfl
    refine pt_catch (own := RL) (name := "java/util/NoSuchElementException") (pt_runT (As := [.int x]) (rest := []) ⟨hx, hb, hml, hown, hts⟩ (t_drop l hl9 dC dI s0 h0X h0 c0 w0 kc kw k n fc fv cl su x s.heap.size hab) (cwV 1 hts (pt_gV pw100 pw101 pw102 pw17 pw103) rfl rfl rfl (by decide +kernel) ⟨Nat.le_of_ble_eq_true rfl, Nat.le_of_ble_eq_true rfl⟩) ⟨fun a U g mk q => by obtain ⟨q0, q1, qP, qK, qD, qX⟩ := q; exact ⟨q0, q1, qP, va_K.moved (u := U) (U := U.calling g mk a) (Vm.Alike.refl U.vm) qK, qD, qX⟩, va_recv hK hP (ci := 0) (q0 := 0) rfl rfl, fun U hU hW => ⟨rfl, by rw [hU], by rw [hU]; exact hPc, va_K.moved hW.alike hKc, hDc.weaken (fun _ _ _ h => hAs _ h), hext.on2 hS hAs hU hW⟩⟩ rfl rfl hl.1 rfl (lv_room (Nat.le_of_ble_eq_true rfl)) dL_drop_2 ⟨by decide, by decide⟩) hown [] ⟨0, 5, 8, 28⟩ [] (by rw [htab]; rfl) (fun z hz => nomatch hz) (by decide) (by decide) (hts _ (List.mem_cons_of_mem _ pw99)) (pt_X_at h0X hext (.castable "java/util/NoSuchElementException" "java/util/NoSuchElementException") (by decide) _) (fun q st t H1 L h1 h2 h3 h4 hq hL => ?_)
    obtain ⟨hP1, hK1, hD1, hF1⟩ := hq
    rw [h3] at hP1
    obtain ⟨hS, hz1, hk1⟩ := pt_S_call hS hFc h1 h3 hF1 hL
    obtain ⟨hP, hD⟩ := va_join (wr := ([] : va_W)) (w1 := [(h0, .inr (0, [.ref c0, .ref w0, .int (nI k), .int (nI n), .long (pt_mk n), .int cl, .int su])), (c0, .inl (kc, 512, .inr (.inl fc))), (w0, .inl (kw, 512, .inr (.inl fv)))]) hP hD [0, 1, 2] [] rfl rfl (by decide) (by decide) hk1 hFc hP1 hD1
    generalize H1 = H at hP hS ⊢
    refine W.eq (g2 := F0 m 8 ls [.ref q]) rfl ?_
    refine lv_astore_n (lv' := [(2, .ref q), (0, .ref h0), (1, .int x)]) hx hb dL_drop_8 rfl hl (by decide) rfl (fun ls hl => ?_)
    refine lv_iconst (v := 1) hx hb dL_drop_9 (by decide) ?_
    rw [← hQ]
    refine W.widen (k := 1) (n := 6) (by omega) (by omega) ?_
    exact W.iret (v := 1) hx hb hr (fun t ht hW => ⟨⟨1, (k, n, fc, fv, cl, su), rfl, Or.inl ⟨hab, rfl, rfl⟩, by rw [ht]; exact hP, va_K.moved hW.alike hK, hD⟩, hS.F ht⟩) hS.2.2 dL_drop_10
  obtain ⟨i, hi, rfl⟩ := pt_at hk (fun z => hab (Or.inl z)) (Classical.not_not.mp fun z => hab (Or.inr z))
  have hPc := hP.sub (ws' := [(h0, .inr (0, [.ref c0, .ref w0, .int (nI k), .int (nI n), .long (pt_mk n), .int cl, .int su])), (c0, .inl (kc, 512, .inr (.inl fc))), (w0, .inl (kw, 512, .inr (.inl fv)))]) [0, 1, 2] rfl
  have hDc := hD.sub (ws' := [(h0, .inr (0, [.ref c0, .ref w0, .int (nI k), .int (nI n), .long (pt_mk n), .int cl, .int su])), (c0, .inl (kc, 512, .inr (.inl fc))), (w0, .inl (kw, 512, .inr (.inl fv)))]) [0, 1, 2] (by decide) rfl
  have hKc := hK.sub (tys' := [(kc, .long), (kw, .long)]) [0, 1] rfl
  have hFc := va_free (wc := [(h0, .inr (0, [.ref c0, .ref w0, .int (nI k), .int (nI n), .long (pt_mk n), .int cl, .int su])), (c0, .inl (kc, 512, .inr (.inl fc))), (w0, .inl (kw, 512, .inr (.inl fv)))]) hD hS hA [0, 1, 2] rfl
  refine va_callv (va_runV (As := [.int (nI i)]) (rest := []) ⟨hx, hb, hml, hown, hts⟩ (c_drop l dC dI h0 c0 w0 kc kw k n fc fv cl su i s.heap.size hi hk) (cwV 1 hts (pt_gV pw100 pw101 pw102 pw17 pw103) rfl rfl rfl (by decide +kernel) ⟨Nat.le_of_ble_eq_true rfl, Nat.le_of_ble_eq_true rfl⟩) ⟨fun a U g mk q => by obtain ⟨q0, q1, qP, qK, qD⟩ := q; exact ⟨q0, q1, qP, va_K.moved (u := U) (U := U.calling g mk a) (Vm.Alike.refl U.vm) qK, qD⟩, va_recv hK hP (ci := 0) (q0 := 0) rfl rfl, fun U hU hW => ⟨rfl, by rw [hU], by rw [hU]; exact hPc, va_K.moved hW.alike hKc, hDc.weaken (fun _ _ _ _ => trivial)⟩⟩ rfl rfl hl.1 rfl (lv_room (Nat.le_of_ble_eq_true rfl)) dL_drop_2 ⟨Nat.zero_le _, Nat.zero_le _⟩) hS (fun q _ h => hFc q h) hFc (fun  u t H1 locs ht hvm hw hB hz1 hk1 hS => ?_)
  obtain ⟨hP1, hK1, hD1⟩ := hB
  rw [ht] at hP1
  obtain ⟨hP, hD⟩ := va_join (wr := ([] : va_W)) (w1 := [(h0, .inr (0, [.ref c0, .ref w0, .int (nI (k - 1)), .int (nI n), .long (pt_mk n), .int cl, .int su])), (c0, .inl (kc, 512, .inr (.inl (pt_mv fc i k)))), (w0, .inl (kw, 512, .inr (.inl (pt_mv fv i k))))]) hP hD [0, 1, 2] [] rfl rfl (by decide) (by decide) hk1 hFc hP1 hD1
  generalize H1 = H at hP hS ⊢
  have hP : va_P (dC, dI) vwCl [(h0, .inr (0, [.ref c0, .ref w0, .int (nI (k - 1)), .int (nI n), .long (pt_mk n), .int cl, .int su])), (c0, .inl (kc, 512, .inr (.inl (pt_mv fc i k)))), (w0, .inl (kw, 512, .inr (.inl (pt_mv fv i k))))] H := hP
  have hD : va_D A [(h0, .inr (0, [.ref c0, .ref w0, .int (nI (k - 1)), .int (nI n), .long (pt_mk n), .int cl, .int su])), (c0, .inl (kc, 512, .inr (.inl (pt_mv fc i k)))), (w0, .inl (kw, 512, .inr (.inl (pt_mv fv i k))))] := hD
  refine lv_goto (tgt := 11) hx hb dL_drop_5 (by decide) ?_
  refine lv_iconst (v := 0) hx hb dL_drop_11 (by decide) ?_
  rw [← hQ]
  refine W.widen (k := 1) (n := 6) (by omega) (by omega) ?_
  exact W.iret (v := 0) hx hb hr (fun t ht hW => ⟨⟨0, (k - 1, n, pt_mv fc i k, pt_mv fv i k, cl, su), rfl, Or.inr ⟨i, hi, rfl, rfl, rfl⟩, by rw [ht]; exact hP, va_K.moved hW.alike hK, hD⟩, hS.F ht⟩) hS.2.2 dL_drop_12
set_option maxHeartbeats 4000000 in
set_option maxRecDepth 100000 in
/-- the law: add -/
theorem c_Ladd (l : Launch) (hl9 : l.stackTraces = false) (dC : Nat → ClassId) (dI : Nat → Nat → Nat) (s0 : State) (h0X : pt_X s0) (h0 c0 w0 : Nat) (kc kw : ClassId) (k n : Nat) (fc fv : Nat → Int64) (cl su : Int32) (o0 : Nat) (ko : ClassId) (fo : Nat → Int64) (a b : Int64) (sz : Nat) (hk : k ≤ 512) : Met l yL_add wsL_add ({ frames := 8, cells := 1, slots := 6, locals := 131 }) (va_Pc [.ref h0, .long a, .long b, .ref o0] (fun U => U.heap.size = sz ∧ va_P (dC, dI) vwCl [(h0, .inr (0, [.ref c0, .ref w0, .int (nI k), .int (nI n), .long (pt_mk n), .int cl, .int su])), (c0, .inl (kc, 512, .inr (.inl fc))), (w0, .inl (kw, 512, .inr (.inl fv))), (o0, .inl (ko, 1, .inr (.inl fo)))] U.heap ∧ va_K (dC, dI) vwCl [(kc, .long), (kw, .long), (ko, .long)] U ∧ va_D (fun q => s0.heap.size ≤ q) [(h0, .inr (0, [.ref c0, .ref w0, .int (nI k), .int (nI n), .long (pt_mk n), .int cl, .int su])), (c0, .inl (kc, 512, .inr (.inl fc))), (w0, .inl (kw, 512, .inr (.inl fv))), (o0, .inl (ko, 1, .inr (.inl fo)))] ∧ pt_ext s0 U)) (va_Qi (fun (r : Int32) u => pt_Radd k n fc fv cl su a b r (u.2 0) u.1) (fun (u : pt_st × (Nat → Int64)) (t : State) => match u with | ((k2, n2, fc2, fv2, cl2, su2), fo2) => va_P (dC, dI) vwCl [(h0, .inr (0, [.ref c0, .ref w0, .int (nI k2), .int (nI n2), .long (pt_mk n2), .int cl2, .int su2])), (c0, .inl (kc, 512, .inr (.inl fc2))), (w0, .inl (kw, 512, .inr (.inl fv2))), (o0, .inl (ko, 1, .inr (.inl fo2)))] t.heap ∧ va_K (dC, dI) vwCl [(kc, .long), (kw, .long), (ko, .long)] t ∧ va_D (va_A [(h0, .inr (0, [.ref c0, .ref w0, .int (nI k), .int (nI n), .long (pt_mk n), .int cl, .int su])), (c0, .inl (kc, 512, .inr (.inl fc))), (w0, .inl (kw, 512, .inr (.inl fv))), (o0, .inl (ko, 1, .inr (.inl fo)))] sz) [(h0, .inr (0, [.ref c0, .ref w0, .int (nI k2), .int (nI n2), .long (pt_mk n2), .int cl2, .int su2])), (c0, .inl (kc, 512, .inr (.inl fc2))), (w0, .inl (kw, 512, .inr (.inl fv2))), (o0, .inl (ko, 1, .inr (.inl fo2)))]) (va_A [(h0, .inr (0, [.ref c0, .ref w0, .int (nI k), .int (nI n), .long (pt_mk n), .int cl, .int su])), (c0, .inl (kc, 512, .inr (.inl fc))), (w0, .inl (kw, 512, .inr (.inl fv))), (o0, .inl (ko, 1, .inr (.inl fo)))] sz)) 1 6 (va_A [(h0, .inr (0, [.ref c0, .ref w0, .int (nI k), .int (nI n), .long (pt_mk n), .int cl, .int su])), (c0, .inl (kc, 512, .inr (.inl fc))), (w0, .inl (kw, 512, .inr (.inl fv))), (o0, .inl (ko, 1, .inr (.inl fo)))] sz) := by
  refine va_MetW (hh := [(0, 11, 14, 13), (0, 11, 18, 19)]) (cc := cL_add) (maxL := 7) (ret := (some .int)) (by decide) rfl ?_
  intro p e s m args below meth c s₁ B hml hv
  obtain ⟨ha, hsz, hP, hK, hD0, hext⟩ := hv
  subst hsz
  have hx := B.exec
  have hb := B.bytes
  have hr := B.returns
  have hts := atoms_spec (ws := wsL_add) B.pre
  have hown : s.vm.findClass RL = some m.cls := findClass_of_methodNamed B.named
  have hlocks := B.notSynchronized
  have hl := lv_entry ([.ref h0, .long a, .long b, .ref o0]) (n := 7) (Nat.le_of_ble_eq_true rfl)
  refine W.eq (show entryFrame m args 7 = entryFrame m ([.ref h0, .long a, .long b, .ref o0] : List Value).toArray 7 by rw [ha]) ?_
  rw [lg_entry_eq]
  generalize (lg_sl ([.ref h0, .long a, .long b, .ref o0]) ++ List.replicate (7 - (lg_sl ([.ref h0, .long a, .long b, .ref o0])).length) Slot.unset).toArray = ls at hl ⊢
  have hl : lv_has ls 7 [(0, .ref h0), (1, .long a), (3, .long b), (5, .ref o0)] := hl
  have htab : c.exceptionTable.toList = tableOf [(0, 11, 14, 13), (0, 11, 18, 19)] := pt_table B (hts _ List.mem_cons_self)
  have hD := hD0.self (sz := s.heap.size)
  have hAs : ∀ q : Nat, va_A [(h0, .inr (0, [.ref c0, .ref w0, .int (nI k), .int (nI n), .long (pt_mk n), .int cl, .int su])), (c0, .inl (kc, 512, .inr (.inl fc))), (w0, .inl (kw, 512, .inr (.inl fv))), (o0, .inl (ko, 1, .inr (.inl fo)))] s.heap.size q → s0.heap.size ≤ q := pt_As hD0 hext.2.1
  generalize hAe : va_A [(h0, .inr (0, [.ref c0, .ref w0, .int (nI k), .int (nI n), .long (pt_mk n), .int cl, .int su])), (c0, .inl (kc, 512, .inr (.inl fc))), (w0, .inl (kw, 512, .inr (.inl fv))), (o0, .inl (ko, 1, .inr (.inl fo)))] s.heap.size = A at hD hAs ⊢
  have hA : ∀ q : Nat, s.heap.size ≤ q → A q := fun q h => by rw [← hAe]; exact Or.inr h
  have hS : va_S A s.heap s.heap [] := va_S.rf
  have hP : va_P (dC, dI) vwCl [(h0, .inr (0, [.ref c0, .ref w0, .int (nI k), .int (nI n), .long (pt_mk n), .int cl, .int su])), (c0, .inl (kc, 512, .inr (.inl fc))), (w0, .inl (kw, 512, .inr (.inl fv))), (o0, .inl (ko, 1, .inr (.inl fo)))] s.heap := hP
  generalize hQ : MQ below (va_Qi (fun (r : Int32) u => pt_Radd k n fc fv cl su a b r (u.2 0) u.1) (fun (u : pt_st × (Nat → Int64)) (t : State) => match u with | ((k2, n2, fc2, fv2, cl2, su2), fo2) => va_P (dC, dI) vwCl [(h0, .inr (0, [.ref c0, .ref w0, .int (nI k2), .int (nI n2), .long (pt_mk n2), .int cl2, .int su2])), (c0, .inl (kc, 512, .inr (.inl fc2))), (w0, .inl (kw, 512, .inr (.inl fv2))), (o0, .inl (ko, 1, .inr (.inl fo2)))] t.heap ∧ va_K (dC, dI) vwCl [(kc, .long), (kw, .long), (ko, .long)] t ∧ va_D A [(h0, .inr (0, [.ref c0, .ref w0, .int (nI k2), .int (nI n2), .long (pt_mk n2), .int cl2, .int su2])), (c0, .inl (kc, 512, .inr (.inl fc2))), (w0, .inl (kw, 512, .inr (.inl fv2))), (o0, .inl (ko, 1, .inr (.inl fo2)))]) A) args s 1 6 A = Q
  refine lv_aload hx hb dL_add_0 (lv_at hl 3 rfl) ?_
  refine lv_iconst (v := 0) hx hb dL_add_2 (by decide) ?_
  refine lv_aload_n hx hb dL_add_3 rfl (lv_at hl 0 rfl) ?_
  refine lv_lload_n hx hb dL_add_4 rfl (lv_at hl 1 rfl) ?_
  refine lv_lload_n hx hb dL_add_5 rfl (lv_at hl 2 rfl) ?_
  by_cases hst : pt_stray n a b
  · have hPc := hP.sub (ws' := [(h0, .inr (0, [.ref c0, .ref w0, .int (nI k), .int (nI n), .long (pt_mk n), .int cl, .int su])), (c0, .inl (kc, 512, .inr (.inl fc))), (w0, .inl (kw, 512, .inr (.inl fv)))]) [0, 1, 2] rfl
    have hDc := hD.sub (ws' := [(h0, .inr (0, [.ref c0, .ref w0, .int (nI k), .int (nI n), .long (pt_mk n), .int cl, .int su])), (c0, .inl (kc, 512, .inr (.inl fc))), (w0, .inl (kw, 512, .inr (.inl fv)))]) [0, 1, 2] (by decide) rfl
    have hKc := hK.sub (tys' := [(kc, .long), (kw, .long)]) [0, 1] rfl
    have hFc := va_free (wc := [(h0, .inr (0, [.ref c0, .ref w0, .int (nI k), .int (nI n), .long (pt_mk n), .int cl, .int su])), (c0, .inl (kc, 512, .inr (.inl fc))), (w0, .inl (kw, 512, .inr (.inl fv)))]) hD hS hA [0, 1, 2] rfl
    refine pt_catch (own := RL) (name := "java/lang/IllegalArgumentException") (pt_runT (As := [.long a, .long b]) (rest := [.int 0, .ref o0]) ⟨hx, hb, hml, hown, hts⟩ (t_add_bad l hl9 dC dI s0 h0X h0 c0 w0 kc kw k n fc fv cl su a b s.heap.size hst) (cwV 2 hts (pt_gV pw72 pw73 pw74 pw17 pw75) rfl rfl rfl (by decide +kernel) ⟨Nat.le_of_ble_eq_true rfl, Nat.le_of_ble_eq_true rfl⟩) ⟨fun a U g mk q => by obtain ⟨q0, q1, qP, qK, qD, qX⟩ := q; exact ⟨q0, q1, qP, va_K.moved (u := U) (U := U.calling g mk a) (Vm.Alike.refl U.vm) qK, qD, qX⟩, va_recv hK hP (ci := 0) (q0 := 0) rfl rfl, fun U hU hW => ⟨rfl, by rw [hU], by rw [hU]; exact hPc, va_K.moved hW.alike hKc, hDc.weaken (fun _ _ _ h => hAs _ h), hext.on2 hS hAs hU hW⟩⟩ rfl rfl hl.1 rfl (lv_room (Nat.le_of_ble_eq_true rfl)) dL_add_6 ⟨by decide, by decide⟩) hown [] ⟨0, 11, 14, 13⟩ [⟨0, 11, 18, 19⟩] (by rw [htab]; rfl) (fun z hz => nomatch hz) (by decide) (by decide) (hts _ (List.mem_cons_of_mem _ pw61)) (pt_X_at h0X hext (.castable "java/lang/IllegalArgumentException" "java/lang/IllegalArgumentException") (by decide) _) (fun q st t H1 L h1 h2 h3 h4 hq hL => ?_)
    obtain ⟨hP1, hK1, hD1, hF1⟩ := hq
    rw [h3] at hP1
    obtain ⟨hS, hz1, hk1⟩ := pt_S_call hS hFc h1 h3 hF1 hL
    obtain ⟨hP, hD⟩ := va_join (wr := [(o0, .inl (ko, 1, .inr (.inl fo)))]) (w1 := [(h0, .inr (0, [.ref c0, .ref w0, .int (nI k), .int (nI n), .long (pt_mk n), .int cl, .int su])), (c0, .inl (kc, 512, .inr (.inl fc))), (w0, .inl (kw, 512, .inr (.inl fv)))]) hP hD [0, 1, 2] [3] rfl rfl (by decide) (by decide) hk1 hFc hP1 hD1
    generalize H1 = H at hP hS ⊢
    have hP := hP.sub (ws' := [(h0, .inr (0, [.ref c0, .ref w0, .int (nI k), .int (nI n), .long (pt_mk n), .int cl, .int su])), (c0, .inl (kc, 512, .inr (.inl fc))), (w0, .inl (kw, 512, .inr (.inl fv))), (o0, .inl (ko, 1, .inr (.inl fo)))]) [1, 2, 3, 0] rfl
    have hD := hD.sub (ws' := [(h0, .inr (0, [.ref c0, .ref w0, .int (nI k), .int (nI n), .long (pt_mk n), .int cl, .int su])), (c0, .inl (kc, 512, .inr (.inl fc))), (w0, .inl (kw, 512, .inr (.inl fv))), (o0, .inl (ko, 1, .inr (.inl fo)))]) [1, 2, 3, 0] (by decide) rfl
    refine W.eq (g2 := F0 m 14 ls [.ref q]) rfl ?_
    refine lv_astore (lv' := [(6, .ref q), (0, .ref h0), (1, .long a), (3, .long b), (5, .ref o0)]) hx hb dL_add_14 hl (by decide) rfl (fun ls hl => ?_)
    refine lv_iconst (v := 1) hx hb dL_add_16 (by decide) ?_
    rw [← hQ]
    refine W.widen (k := 1) (n := 6) (by omega) (by omega) ?_
    exact W.iret (v := 1) hx hb hr (fun t ht hW => ⟨⟨1, ((k, n, fc, fv, cl, su), fo), rfl, Or.inl ⟨hst, rfl, rfl⟩, by rw [ht]; exact hP, va_K.moved hW.alike hK, hD⟩, hS.F ht⟩) hS.2.2 dL_add_17
  obtain ⟨r0, hF⟩ := pt_F_all (fun j => pt_sh (fc j) (fv j) (a &&& pt_mk n) (b &&& pt_mk n)) k
  by_cases hk5 : k = 512
  · have hPc := hP.sub (ws' := [(h0, .inr (0, [.ref c0, .ref w0, .int (nI k), .int (nI n), .long (pt_mk n), .int cl, .int su])), (c0, .inl (kc, 512, .inr (.inl fc))), (w0, .inl (kw, 512, .inr (.inl fv)))]) [0, 1, 2] rfl
    have hDc := hD.sub (ws' := [(h0, .inr (0, [.ref c0, .ref w0, .int (nI k), .int (nI n), .long (pt_mk n), .int cl, .int su])), (c0, .inl (kc, 512, .inr (.inl fc))), (w0, .inl (kw, 512, .inr (.inl fv)))]) [0, 1, 2] (by decide) rfl
    have hKc := hK.sub (tys' := [(kc, .long), (kw, .long)]) [0, 1] rfl
    have hFc := va_free (wc := [(h0, .inr (0, [.ref c0, .ref w0, .int (nI k), .int (nI n), .long (pt_mk n), .int cl, .int su])), (c0, .inl (kc, 512, .inr (.inl fc))), (w0, .inl (kw, 512, .inr (.inl fv)))]) hD hS hA [0, 1, 2] rfl
    refine pt_catch (own := RL) (name := "java/lang/IllegalStateException") (pt_runT (As := [.long a, .long b]) (rest := [.int 0, .ref o0]) ⟨hx, hb, hml, hown, hts⟩ (t_add_ref l hl9 dC dI s0 h0X h0 c0 w0 kc kw k n fc fv cl su a b s.heap.size hst (-1) (Or.inl ⟨hk5, rfl⟩)) (cwV 2 hts (pt_gV pw72 pw73 pw74 pw17 pw75) rfl rfl rfl (by decide +kernel) ⟨Nat.le_of_ble_eq_true rfl, Nat.le_of_ble_eq_true rfl⟩) ⟨fun a U g mk q => by obtain ⟨q0, q1, qP, qK, qD, qX⟩ := q; exact ⟨q0, q1, qP, va_K.moved (u := U) (U := U.calling g mk a) (Vm.Alike.refl U.vm) qK, qD, qX⟩, va_recv hK hP (ci := 0) (q0 := 0) rfl rfl, fun U hU hW => ⟨rfl, by rw [hU], by rw [hU]; exact hPc, va_K.moved hW.alike hKc, hDc.weaken (fun _ _ _ h => hAs _ h), hext.on2 hS hAs hU hW⟩⟩ rfl rfl hl.1 rfl (lv_room (Nat.le_of_ble_eq_true rfl)) dL_add_6 ⟨by decide, by decide⟩) hown [⟨0, 11, 14, 13⟩] ⟨0, 11, 18, 19⟩ [] (by rw [htab]; rfl) (fun z hz => by rw [List.mem_singleton] at hz; subst hz; exact ⟨by decide, "java/lang/IllegalArgumentException", (hts _ (List.mem_cons_of_mem _ pw61)), (h0X.2.2 "java/lang/IllegalStateException" "java/lang/IllegalArgumentException" (by decide)).moved hext.1.alike⟩) (by decide) (by decide) (hts _ (List.mem_cons_of_mem _ pw71)) (pt_X_at h0X hext (.castable "java/lang/IllegalStateException" "java/lang/IllegalStateException") (by decide) _) (fun q st t H1 L h1 h2 h3 h4 hq hL => ?_)
    obtain ⟨hP1, hK1, hD1, hF1⟩ := hq
    rw [h3] at hP1
    obtain ⟨hS, hz1, hk1⟩ := pt_S_call hS hFc h1 h3 hF1 hL
    obtain ⟨hP, hD⟩ := va_join (wr := [(o0, .inl (ko, 1, .inr (.inl fo)))]) (w1 := [(h0, .inr (0, [.ref c0, .ref w0, .int (nI k), .int (nI n), .long (pt_mk n), .int (-1), .int su])), (c0, .inl (kc, 512, .inr (.inl fc))), (w0, .inl (kw, 512, .inr (.inl fv)))]) hP hD [0, 1, 2] [3] rfl rfl (by decide) (by decide) hk1 hFc hP1 hD1
    generalize H1 = H at hP hS ⊢
    have hP := hP.sub (ws' := [(h0, .inr (0, [.ref c0, .ref w0, .int (nI k), .int (nI n), .long (pt_mk n), .int (-1), .int su])), (c0, .inl (kc, 512, .inr (.inl fc))), (w0, .inl (kw, 512, .inr (.inl fv))), (o0, .inl (ko, 1, .inr (.inl fo)))]) [1, 2, 3, 0] rfl
    have hD := hD.sub (ws' := [(h0, .inr (0, [.ref c0, .ref w0, .int (nI k), .int (nI n), .long (pt_mk n), .int (-1), .int su])), (c0, .inl (kc, 512, .inr (.inl fc))), (w0, .inl (kw, 512, .inr (.inl fv))), (o0, .inl (ko, 1, .inr (.inl fo)))]) [1, 2, 3, 0] (by decide) rfl
    refine W.eq (g2 := F0 m 18 ls [.ref q]) rfl ?_
    refine lv_astore (lv' := [(6, .ref q), (0, .ref h0), (1, .long a), (3, .long b), (5, .ref o0)]) hx hb dL_add_18 hl (by decide) rfl (fun ls hl => ?_)
    refine lv_iconst (v := 2) hx hb dL_add_20 (by decide) ?_
    rw [← hQ]
    refine W.widen (k := 1) (n := 6) (by omega) (by omega) ?_
    exact W.iret (v := 2) hx hb hr (fun t ht hW => ⟨⟨2, ((k, n, fc, fv, -1, su), fo), rfl, Or.inr ⟨hst, Or.inl ⟨hk5, rfl, rfl⟩⟩, by rw [ht]; exact hP, va_K.moved hW.alike hK, hD⟩, hS.F ht⟩) hS.2.2 dL_add_21
  have hk6 : k < 512 := Nat.lt_of_le_of_ne hk hk5
  by_cases hr0 : r0 = -1
  · have hno := (pt_F_none hk hF).mp hr0
    have hPc := hP.sub (ws' := [(h0, .inr (0, [.ref c0, .ref w0, .int (nI k), .int (nI n), .long (pt_mk n), .int cl, .int su])), (c0, .inl (kc, 512, .inr (.inl fc))), (w0, .inl (kw, 512, .inr (.inl fv)))]) [0, 1, 2] rfl
    have hDc := hD.sub (ws' := [(h0, .inr (0, [.ref c0, .ref w0, .int (nI k), .int (nI n), .long (pt_mk n), .int cl, .int su])), (c0, .inl (kc, 512, .inr (.inl fc))), (w0, .inl (kw, 512, .inr (.inl fv)))]) [0, 1, 2] (by decide) rfl
    have hKc := hK.sub (tys' := [(kc, .long), (kw, .long)]) [0, 1] rfl
    have hFc := va_free (wc := [(h0, .inr (0, [.ref c0, .ref w0, .int (nI k), .int (nI n), .long (pt_mk n), .int cl, .int su])), (c0, .inl (kc, 512, .inr (.inl fc))), (w0, .inl (kw, 512, .inr (.inl fv)))]) hD hS hA [0, 1, 2] rfl
    refine va_calli (va_runV (As := [.long a, .long b]) (rest := [.int 0, .ref o0]) ⟨hx, hb, hml, hown, hts⟩ (c_add l dC dI h0 c0 w0 kc kw k n fc fv cl su a b s.heap.size hst hk6 hno) (cwV 2 hts (pt_gV pw72 pw73 pw74 pw17 pw75) rfl rfl rfl (by decide +kernel) ⟨Nat.le_of_ble_eq_true rfl, Nat.le_of_ble_eq_true rfl⟩) ⟨fun a U g mk q => by obtain ⟨q0, q1, qP, qK, qD⟩ := q; exact ⟨q0, q1, qP, va_K.moved (u := U) (U := U.calling g mk a) (Vm.Alike.refl U.vm) qK, qD⟩, va_recv hK hP (ci := 0) (q0 := 0) rfl rfl, fun U hU hW => ⟨rfl, by rw [hU], by rw [hU]; exact hPc, va_K.moved hW.alike hKc, hDc.weaken (fun _ _ _ _ => trivial)⟩⟩ rfl rfl hl.1 rfl (lv_room (Nat.le_of_ble_eq_true rfl)) dL_add_6 ⟨Nat.zero_le _, Nat.zero_le _⟩) hS (fun q _ h => hFc q h) hFc (fun r1 u t H1 locs ht hvm hw hB hz1 hk1 hS => ?_)
    obtain ⟨hP1, hK1, hD1⟩ := hB
    rw [ht] at hP1
    obtain ⟨hP, hD⟩ := va_join (wr := [(o0, .inl (ko, 1, .inr (.inl fo)))]) (w1 := [(h0, .inr (0, [.ref c0, .ref w0, .int (nI (k + 1)), .int (nI n), .long (pt_mk n), .int cl, .int su])), (c0, .inl (kc, 512, .inr (.inl (vp_updL fc k (a &&& pt_mk n))))), (w0, .inl (kw, 512, .inr (.inl (vp_updL fv k (b &&& pt_mk n)))))]) hP hD [0, 1, 2] [3] rfl rfl (by decide) (by decide) hk1 hFc hP1 hD1
    generalize H1 = H at hP hS ⊢
    have hP := hP.sub (ws' := [(h0, .inr (0, [.ref c0, .ref w0, .int (nI (k + 1)), .int (nI n), .long (pt_mk n), .int cl, .int su])), (c0, .inl (kc, 512, .inr (.inl (vp_updL fc k (a &&& pt_mk n))))), (w0, .inl (kw, 512, .inr (.inl (vp_updL fv k (b &&& pt_mk n))))), (o0, .inl (ko, 1, .inr (.inl fo)))]) [1, 2, 3, 0] rfl
    have hD := hD.sub (ws' := [(h0, .inr (0, [.ref c0, .ref w0, .int (nI (k + 1)), .int (nI n), .long (pt_mk n), .int cl, .int su])), (c0, .inl (kc, 512, .inr (.inl (vp_updL fc k (a &&& pt_mk n))))), (w0, .inl (kw, 512, .inr (.inl (vp_updL fv k (b &&& pt_mk n))))), (o0, .inl (ko, 1, .inr (.inl fo)))]) [1, 2, 3, 0] (by decide) rfl
    have hP : va_P (dC, dI) vwCl [(h0, .inr (0, [.ref c0, .ref w0, .int (nI (k + 1)), .int (nI n), .long (pt_mk n), .int cl, .int su])), (c0, .inl (kc, 512, .inr (.inl (vp_updL fc k (a &&& pt_mk n))))), (w0, .inl (kw, 512, .inr (.inl (vp_updL fv k (b &&& pt_mk n))))), (o0, .inl (ko, 1, .inr (.inl fo)))] H := hP
    have hD : va_D A [(h0, .inr (0, [.ref c0, .ref w0, .int (nI (k + 1)), .int (nI n), .long (pt_mk n), .int cl, .int su])), (c0, .inl (kc, 512, .inr (.inl (vp_updL fc k (a &&& pt_mk n))))), (w0, .inl (kw, 512, .inr (.inl (vp_updL fv k (b &&& pt_mk n))))), (o0, .inl (ko, 1, .inr (.inl fo)))] := hD
    subst hw
    refine lv_i2l (v := (nI k).toInt64) hx hb dL_add_9 rfl ?_
    refine va_last hx hb hK hP hD hS 3 2 rfl rfl (vp_in_nI (n := 0) (by decide) (by decide)) dL_add_10 (fun H locs hP hD hS => ?_)
    rw [show Int32.toNatClampNeg 0 = 0 by decide] at hP hD
    have hP : va_P (dC, dI) vwCl [(h0, .inr (0, [.ref c0, .ref w0, .int (nI (k + 1)), .int (nI n), .long (pt_mk n), .int cl, .int su])), (c0, .inl (kc, 512, .inr (.inl (vp_updL fc k (a &&& pt_mk n))))), (w0, .inl (kw, 512, .inr (.inl (vp_updL fv k (b &&& pt_mk n))))), (o0, .inl (ko, 1, .inr (.inl (vp_updL fo 0 ((nI k).toInt64)))))] H := hP
    have hD : va_D A [(h0, .inr (0, [.ref c0, .ref w0, .int (nI (k + 1)), .int (nI n), .long (pt_mk n), .int cl, .int su])), (c0, .inl (kc, 512, .inr (.inl (vp_updL fc k (a &&& pt_mk n))))), (w0, .inl (kw, 512, .inr (.inl (vp_updL fv k (b &&& pt_mk n))))), (o0, .inl (ko, 1, .inr (.inl (vp_updL fo 0 ((nI k).toInt64)))))] := hD
    refine lv_goto (tgt := 22) hx hb dL_add_11 (by decide) ?_
    refine lv_iconst (v := 0) hx hb dL_add_22 (by decide) ?_
    rw [← hQ]
    refine W.widen (k := 1) (n := 6) (by omega) (by omega) ?_
    exact W.iret (v := 0) hx hb hr (fun t ht hW => ⟨⟨0, ((k + 1, n, vp_updL fc k (a &&& pt_mk n), vp_updL fv k (b &&& pt_mk n), cl, su), vp_updL fo 0 (nI k).toInt64), rfl, Or.inr ⟨hst, Or.inr (Or.inr ⟨hk6, hno, rfl, (pk_uLs : vp_updL fo 0 (nI k).toInt64 0 = (nI k).toInt64), rfl⟩)⟩, by rw [ht]; exact hP, va_K.moved hW.alike hK, hD⟩, hS.F ht⟩) hS.2.2 dL_add_23
  · have hPc := hP.sub (ws' := [(h0, .inr (0, [.ref c0, .ref w0, .int (nI k), .int (nI n), .long (pt_mk n), .int cl, .int su])), (c0, .inl (kc, 512, .inr (.inl fc))), (w0, .inl (kw, 512, .inr (.inl fv)))]) [0, 1, 2] rfl
    have hDc := hD.sub (ws' := [(h0, .inr (0, [.ref c0, .ref w0, .int (nI k), .int (nI n), .long (pt_mk n), .int cl, .int su])), (c0, .inl (kc, 512, .inr (.inl fc))), (w0, .inl (kw, 512, .inr (.inl fv)))]) [0, 1, 2] (by decide) rfl
    have hKc := hK.sub (tys' := [(kc, .long), (kw, .long)]) [0, 1] rfl
    have hFc := va_free (wc := [(h0, .inr (0, [.ref c0, .ref w0, .int (nI k), .int (nI n), .long (pt_mk n), .int cl, .int su])), (c0, .inl (kc, 512, .inr (.inl fc))), (w0, .inl (kw, 512, .inr (.inl fv)))]) hD hS hA [0, 1, 2] rfl
    refine pt_catch (own := RL) (name := "java/lang/IllegalStateException") (pt_runT (As := [.long a, .long b]) (rest := [.int 0, .ref o0]) ⟨hx, hb, hml, hown, hts⟩ (t_add_ref l hl9 dC dI s0 h0X h0 c0 w0 kc kw k n fc fv cl su a b s.heap.size hst r0 (Or.inr ⟨hk6, hF, hr0⟩)) (cwV 2 hts (pt_gV pw72 pw73 pw74 pw17 pw75) rfl rfl rfl (by decide +kernel) ⟨Nat.le_of_ble_eq_true rfl, Nat.le_of_ble_eq_true rfl⟩) ⟨fun a U g mk q => by obtain ⟨q0, q1, qP, qK, qD, qX⟩ := q; exact ⟨q0, q1, qP, va_K.moved (u := U) (U := U.calling g mk a) (Vm.Alike.refl U.vm) qK, qD, qX⟩, va_recv hK hP (ci := 0) (q0 := 0) rfl rfl, fun U hU hW => ⟨rfl, by rw [hU], by rw [hU]; exact hPc, va_K.moved hW.alike hKc, hDc.weaken (fun _ _ _ h => hAs _ h), hext.on2 hS hAs hU hW⟩⟩ rfl rfl hl.1 rfl (lv_room (Nat.le_of_ble_eq_true rfl)) dL_add_6 ⟨by decide, by decide⟩) hown [⟨0, 11, 14, 13⟩] ⟨0, 11, 18, 19⟩ [] (by rw [htab]; rfl) (fun z hz => by rw [List.mem_singleton] at hz; subst hz; exact ⟨by decide, "java/lang/IllegalArgumentException", (hts _ (List.mem_cons_of_mem _ pw61)), (h0X.2.2 "java/lang/IllegalStateException" "java/lang/IllegalArgumentException" (by decide)).moved hext.1.alike⟩) (by decide) (by decide) (hts _ (List.mem_cons_of_mem _ pw71)) (pt_X_at h0X hext (.castable "java/lang/IllegalStateException" "java/lang/IllegalStateException") (by decide) _) (fun q st t H1 L h1 h2 h3 h4 hq hL => ?_)
    obtain ⟨hP1, hK1, hD1, hF1⟩ := hq
    rw [h3] at hP1
    obtain ⟨hS, hz1, hk1⟩ := pt_S_call hS hFc h1 h3 hF1 hL
    obtain ⟨hP, hD⟩ := va_join (wr := [(o0, .inl (ko, 1, .inr (.inl fo)))]) (w1 := [(h0, .inr (0, [.ref c0, .ref w0, .int (nI k), .int (nI n), .long (pt_mk n), .int r0, .int su])), (c0, .inl (kc, 512, .inr (.inl fc))), (w0, .inl (kw, 512, .inr (.inl fv)))]) hP hD [0, 1, 2] [3] rfl rfl (by decide) (by decide) hk1 hFc hP1 hD1
    generalize H1 = H at hP hS ⊢
    have hP := hP.sub (ws' := [(h0, .inr (0, [.ref c0, .ref w0, .int (nI k), .int (nI n), .long (pt_mk n), .int r0, .int su])), (c0, .inl (kc, 512, .inr (.inl fc))), (w0, .inl (kw, 512, .inr (.inl fv))), (o0, .inl (ko, 1, .inr (.inl fo)))]) [1, 2, 3, 0] rfl
    have hD := hD.sub (ws' := [(h0, .inr (0, [.ref c0, .ref w0, .int (nI k), .int (nI n), .long (pt_mk n), .int r0, .int su])), (c0, .inl (kc, 512, .inr (.inl fc))), (w0, .inl (kw, 512, .inr (.inl fv))), (o0, .inl (ko, 1, .inr (.inl fo)))]) [1, 2, 3, 0] (by decide) rfl
    refine W.eq (g2 := F0 m 18 ls [.ref q]) rfl ?_
    refine lv_astore (lv' := [(6, .ref q), (0, .ref h0), (1, .long a), (3, .long b), (5, .ref o0)]) hx hb dL_add_18 hl (by decide) rfl (fun ls hl => ?_)
    refine lv_iconst (v := 2) hx hb dL_add_20 (by decide) ?_
    rw [← hQ]
    refine W.widen (k := 1) (n := 6) (by omega) (by omega) ?_
    exact W.iret (v := 2) hx hb hr (fun t ht hW => ⟨⟨2, ((k, n, fc, fv, r0, su), fo), rfl, Or.inr ⟨hst, Or.inr (Or.inl ⟨hk6, r0, hF, hr0, rfl, rfl⟩)⟩, by rw [ht]; exact hP, va_K.moved hW.alike hK, hD⟩, hS.F ht⟩) hS.2.2 dL_add_21
set_option maxHeartbeats 4000000 in
set_option maxRecDepth 100000 in
/-- the law: signs -/
theorem c_Lsigns (l : Launch) (hl9 : l.stackTraces = false) (dC : Nat → ClassId) (dI : Nat → Nat → Nat) (s0 : State) (h0X : pt_X s0) (h0 c0 w0 : Nat) (kc kw : ClassId) (k n : Nat) (fc fv : Nat → Int64) (cl su : Int32) (o0 : Nat) (ko : ClassId) (fo : Nat → Int64) (x : Int64) (sz : Nat) (hk : k ≤ 512) : Met l yL_signs wsL_signs ({ frames := 8, cells := 1, slots := 6, locals := 138 }) (va_Pc [.ref h0, .long x, .ref o0] (fun U => U.heap.size = sz ∧ va_P (dC, dI) vwCl [(h0, .inr (0, [.ref c0, .ref w0, .int (nI k), .int (nI n), .long (pt_mk n), .int cl, .int su])), (c0, .inl (kc, 512, .inr (.inl fc))), (w0, .inl (kw, 512, .inr (.inl fv))), (o0, .inl (ko, 1, .inr (.inl fo)))] U.heap ∧ va_K (dC, dI) vwCl [(kc, .long), (kw, .long), (ko, .long)] U ∧ va_D (fun q => s0.heap.size ≤ q) [(h0, .inr (0, [.ref c0, .ref w0, .int (nI k), .int (nI n), .long (pt_mk n), .int cl, .int su])), (c0, .inl (kc, 512, .inr (.inl fc))), (w0, .inl (kw, 512, .inr (.inl fv))), (o0, .inl (ko, 1, .inr (.inl fo)))] ∧ pt_ext s0 U)) (va_Qi (fun (r : Int32) u => pt_Rsigns k n fc fv cl su x r (u.2 0) u.1) (fun (u : pt_st × (Nat → Int64)) (t : State) => match u with | ((k2, n2, fc2, fv2, cl2, su2), fo2) => va_P (dC, dI) vwCl [(h0, .inr (0, [.ref c0, .ref w0, .int (nI k2), .int (nI n2), .long (pt_mk n2), .int cl2, .int su2])), (c0, .inl (kc, 512, .inr (.inl fc2))), (w0, .inl (kw, 512, .inr (.inl fv2))), (o0, .inl (ko, 1, .inr (.inl fo2)))] t.heap ∧ va_K (dC, dI) vwCl [(kc, .long), (kw, .long), (ko, .long)] t ∧ va_D (va_A [(h0, .inr (0, [.ref c0, .ref w0, .int (nI k), .int (nI n), .long (pt_mk n), .int cl, .int su])), (c0, .inl (kc, 512, .inr (.inl fc))), (w0, .inl (kw, 512, .inr (.inl fv))), (o0, .inl (ko, 1, .inr (.inl fo)))] sz) [(h0, .inr (0, [.ref c0, .ref w0, .int (nI k2), .int (nI n2), .long (pt_mk n2), .int cl2, .int su2])), (c0, .inl (kc, 512, .inr (.inl fc2))), (w0, .inl (kw, 512, .inr (.inl fv2))), (o0, .inl (ko, 1, .inr (.inl fo2)))]) (va_A [(h0, .inr (0, [.ref c0, .ref w0, .int (nI k), .int (nI n), .long (pt_mk n), .int cl, .int su])), (c0, .inl (kc, 512, .inr (.inl fc))), (w0, .inl (kw, 512, .inr (.inl fv))), (o0, .inl (ko, 1, .inr (.inl fo)))] sz)) 1 6 (va_A [(h0, .inr (0, [.ref c0, .ref w0, .int (nI k), .int (nI n), .long (pt_mk n), .int cl, .int su])), (c0, .inl (kc, 512, .inr (.inl fc))), (w0, .inl (kw, 512, .inr (.inl fv))), (o0, .inl (ko, 1, .inr (.inl fo)))] sz) := by
  refine va_MetW (hh := [(0, 9, 12, 13), (0, 9, 16, 19)]) (cc := cL_signs) (maxL := 5) (ret := (some .int)) (by decide) rfl ?_
  intro p e s m args below meth c s₁ B hml hv
  obtain ⟨ha, hsz, hP, hK, hD0, hext⟩ := hv
  subst hsz
  have hx := B.exec
  have hb := B.bytes
  have hr := B.returns
  have hts := atoms_spec (ws := wsL_signs) B.pre
  have hown : s.vm.findClass RL = some m.cls := findClass_of_methodNamed B.named
  have hlocks := B.notSynchronized
  have hl := lv_entry ([.ref h0, .long x, .ref o0]) (n := 5) (Nat.le_of_ble_eq_true rfl)
  refine W.eq (show entryFrame m args 5 = entryFrame m ([.ref h0, .long x, .ref o0] : List Value).toArray 5 by rw [ha]) ?_
  rw [lg_entry_eq]
  generalize (lg_sl ([.ref h0, .long x, .ref o0]) ++ List.replicate (5 - (lg_sl ([.ref h0, .long x, .ref o0])).length) Slot.unset).toArray = ls at hl ⊢
  have hl : lv_has ls 5 [(0, .ref h0), (1, .long x), (3, .ref o0)] := hl
  have htab : c.exceptionTable.toList = tableOf [(0, 9, 12, 13), (0, 9, 16, 19)] := pt_table B (hts _ List.mem_cons_self)
  have hD := hD0.self (sz := s.heap.size)
  have hAs : ∀ q : Nat, va_A [(h0, .inr (0, [.ref c0, .ref w0, .int (nI k), .int (nI n), .long (pt_mk n), .int cl, .int su])), (c0, .inl (kc, 512, .inr (.inl fc))), (w0, .inl (kw, 512, .inr (.inl fv))), (o0, .inl (ko, 1, .inr (.inl fo)))] s.heap.size q → s0.heap.size ≤ q := pt_As hD0 hext.2.1
  generalize hAe : va_A [(h0, .inr (0, [.ref c0, .ref w0, .int (nI k), .int (nI n), .long (pt_mk n), .int cl, .int su])), (c0, .inl (kc, 512, .inr (.inl fc))), (w0, .inl (kw, 512, .inr (.inl fv))), (o0, .inl (ko, 1, .inr (.inl fo)))] s.heap.size = A at hD hAs ⊢
  have hA : ∀ q : Nat, s.heap.size ≤ q → A q := fun q h => by rw [← hAe]; exact Or.inr h
  have hS : va_S A s.heap s.heap [] := va_S.rf
  have hP : va_P (dC, dI) vwCl [(h0, .inr (0, [.ref c0, .ref w0, .int (nI k), .int (nI n), .long (pt_mk n), .int cl, .int su])), (c0, .inl (kc, 512, .inr (.inl fc))), (w0, .inl (kw, 512, .inr (.inl fv))), (o0, .inl (ko, 1, .inr (.inl fo)))] s.heap := hP
  generalize hQ : MQ below (va_Qi (fun (r : Int32) u => pt_Rsigns k n fc fv cl su x r (u.2 0) u.1) (fun (u : pt_st × (Nat → Int64)) (t : State) => match u with | ((k2, n2, fc2, fv2, cl2, su2), fo2) => va_P (dC, dI) vwCl [(h0, .inr (0, [.ref c0, .ref w0, .int (nI k2), .int (nI n2), .long (pt_mk n2), .int cl2, .int su2])), (c0, .inl (kc, 512, .inr (.inl fc2))), (w0, .inl (kw, 512, .inr (.inl fv2))), (o0, .inl (ko, 1, .inr (.inl fo2)))] t.heap ∧ va_K (dC, dI) vwCl [(kc, .long), (kw, .long), (ko, .long)] t ∧ va_D A [(h0, .inr (0, [.ref c0, .ref w0, .int (nI k2), .int (nI n2), .long (pt_mk n2), .int cl2, .int su2])), (c0, .inl (kc, 512, .inr (.inl fc2))), (w0, .inl (kw, 512, .inr (.inl fv2))), (o0, .inl (ko, 1, .inr (.inl fo2)))]) A) args s 1 6 A = Q
  refine lv_aload_n hx hb dL_signs_0 rfl (lv_at hl 2 rfl) ?_
  refine lv_iconst (v := 0) hx hb dL_signs_1 (by decide) ?_
  refine lv_aload_n hx hb dL_signs_2 rfl (lv_at hl 0 rfl) ?_
  refine lv_lload_n hx hb dL_signs_3 rfl (lv_at hl 1 rfl) ?_
  by_cases hx0 : x < 0
  · have hPc := hP.sub (ws' := [(h0, .inr (0, [.ref c0, .ref w0, .int (nI k), .int (nI n), .long (pt_mk n), .int cl, .int su])), (c0, .inl (kc, 512, .inr (.inl fc))), (w0, .inl (kw, 512, .inr (.inl fv)))]) [0, 1, 2] rfl
    have hDc := hD.sub (ws' := [(h0, .inr (0, [.ref c0, .ref w0, .int (nI k), .int (nI n), .long (pt_mk n), .int cl, .int su])), (c0, .inl (kc, 512, .inr (.inl fc))), (w0, .inl (kw, 512, .inr (.inl fv)))]) [0, 1, 2] (by decide) rfl
    have hKc := hK.sub (tys' := [(kc, .long), (kw, .long)]) [0, 1] rfl
    have hFc := va_free (wc := [(h0, .inr (0, [.ref c0, .ref w0, .int (nI k), .int (nI n), .long (pt_mk n), .int cl, .int su])), (c0, .inl (kc, 512, .inr (.inl fc))), (w0, .inl (kw, 512, .inr (.inl fv)))]) hD hS hA [0, 1, 2] rfl
    refine pt_catch (own := RL) (name := "java/lang/IllegalArgumentException") (pt_runT (As := [.long x]) (rest := [.int 0, .ref o0]) ⟨hx, hb, hml, hown, hts⟩ (t_signs_bad l hl9 dC dI s0 h0X h0 c0 w0 kc kw k n fc fv cl su x s.heap.size hx0) (cwV 1 hts (pt_gV pw90 pw91 pw92 pw17 pw93) rfl rfl rfl (by decide +kernel) ⟨Nat.le_of_ble_eq_true rfl, Nat.le_of_ble_eq_true rfl⟩) ⟨fun a U g mk q => by obtain ⟨q0, q1, qP, qK, qD, qX⟩ := q; exact ⟨q0, q1, qP, va_K.moved (u := U) (U := U.calling g mk a) (Vm.Alike.refl U.vm) qK, qD, qX⟩, va_recv hK hP (ci := 0) (q0 := 0) rfl rfl, fun U hU hW => ⟨rfl, by rw [hU], by rw [hU]; exact hPc, va_K.moved hW.alike hKc, hDc.weaken (fun _ _ _ h => hAs _ h), hext.on2 hS hAs hU hW⟩⟩ rfl rfl hl.1 rfl (lv_room (Nat.le_of_ble_eq_true rfl)) dL_signs_4 ⟨by decide, by decide⟩) hown [] ⟨0, 9, 12, 13⟩ [⟨0, 9, 16, 19⟩] (by rw [htab]; rfl) (fun z hz => nomatch hz) (by decide) (by decide) (hts _ (List.mem_cons_of_mem _ pw61)) (pt_X_at h0X hext (.castable "java/lang/IllegalArgumentException" "java/lang/IllegalArgumentException") (by decide) _) (fun q st t H1 L h1 h2 h3 h4 hq hL => ?_)
    obtain ⟨hP1, hK1, hD1, hF1⟩ := hq
    rw [h3] at hP1
    obtain ⟨hS, hz1, hk1⟩ := pt_S_call hS hFc h1 h3 hF1 hL
    obtain ⟨hP, hD⟩ := va_join (wr := [(o0, .inl (ko, 1, .inr (.inl fo)))]) (w1 := [(h0, .inr (0, [.ref c0, .ref w0, .int (nI k), .int (nI n), .long (pt_mk n), .int cl, .int su])), (c0, .inl (kc, 512, .inr (.inl fc))), (w0, .inl (kw, 512, .inr (.inl fv)))]) hP hD [0, 1, 2] [3] rfl rfl (by decide) (by decide) hk1 hFc hP1 hD1
    generalize H1 = H at hP hS ⊢
    have hP := hP.sub (ws' := [(h0, .inr (0, [.ref c0, .ref w0, .int (nI k), .int (nI n), .long (pt_mk n), .int cl, .int su])), (c0, .inl (kc, 512, .inr (.inl fc))), (w0, .inl (kw, 512, .inr (.inl fv))), (o0, .inl (ko, 1, .inr (.inl fo)))]) [1, 2, 3, 0] rfl
    have hD := hD.sub (ws' := [(h0, .inr (0, [.ref c0, .ref w0, .int (nI k), .int (nI n), .long (pt_mk n), .int cl, .int su])), (c0, .inl (kc, 512, .inr (.inl fc))), (w0, .inl (kw, 512, .inr (.inl fv))), (o0, .inl (ko, 1, .inr (.inl fo)))]) [1, 2, 3, 0] (by decide) rfl
    refine W.eq (g2 := F0 m 12 ls [.ref q]) rfl ?_
    refine lv_astore (lv' := [(4, .ref q), (0, .ref h0), (1, .long x), (3, .ref o0)]) hx hb dL_signs_12 hl (by decide) rfl (fun ls hl => ?_)
    refine lv_iconst (v := 1) hx hb dL_signs_14 (by decide) ?_
    rw [← hQ]
    refine W.widen (k := 1) (n := 6) (by omega) (by omega) ?_
    exact W.iret (v := 1) hx hb hr (fun t ht hW => ⟨⟨1, ((k, n, fc, fv, cl, su), fo), rfl, Or.inl ⟨hx0, rfl, rfl⟩, by rw [ht]; exact hP, va_K.moved hW.alike hK, hD⟩, hS.F ht⟩) hS.2.2 dL_signs_15
  obtain ⟨D, hDb, rfl⟩ := pk_lOf hx0
  obtain ⟨r0, hF⟩ := pt_F_all (fun j => pt_sh (fc j) (fv j) (pt_sc D 40 &&& pt_mk n) (pt_sw D 40 &&& pt_mk n)) k
  by_cases hk5 : k = 512
  · have hPc := hP.sub (ws' := [(h0, .inr (0, [.ref c0, .ref w0, .int (nI k), .int (nI n), .long (pt_mk n), .int cl, .int su])), (c0, .inl (kc, 512, .inr (.inl fc))), (w0, .inl (kw, 512, .inr (.inl fv)))]) [0, 1, 2] rfl
    have hDc := hD.sub (ws' := [(h0, .inr (0, [.ref c0, .ref w0, .int (nI k), .int (nI n), .long (pt_mk n), .int cl, .int su])), (c0, .inl (kc, 512, .inr (.inl fc))), (w0, .inl (kw, 512, .inr (.inl fv)))]) [0, 1, 2] (by decide) rfl
    have hKc := hK.sub (tys' := [(kc, .long), (kw, .long)]) [0, 1] rfl
    have hFc := va_free (wc := [(h0, .inr (0, [.ref c0, .ref w0, .int (nI k), .int (nI n), .long (pt_mk n), .int cl, .int su])), (c0, .inl (kc, 512, .inr (.inl fc))), (w0, .inl (kw, 512, .inr (.inl fv)))]) hD hS hA [0, 1, 2] rfl
    refine pt_catch (own := RL) (name := "java/lang/IllegalStateException") (pt_runT (As := [.long (lN D)]) (rest := [.int 0, .ref o0]) ⟨hx, hb, hml, hown, hts⟩ (t_signs_ref l hl9 dC dI s0 h0X h0 c0 w0 kc kw k n fc fv cl su D s.heap.size hDb (-1) (Or.inl ⟨hk5, rfl⟩)) (cwV 1 hts (pt_gV pw90 pw91 pw92 pw17 pw93) rfl rfl rfl (by decide +kernel) ⟨Nat.le_of_ble_eq_true rfl, Nat.le_of_ble_eq_true rfl⟩) ⟨fun a U g mk q => by obtain ⟨q0, q1, qP, qK, qD, qX⟩ := q; exact ⟨q0, q1, qP, va_K.moved (u := U) (U := U.calling g mk a) (Vm.Alike.refl U.vm) qK, qD, qX⟩, va_recv hK hP (ci := 0) (q0 := 0) rfl rfl, fun U hU hW => ⟨rfl, by rw [hU], by rw [hU]; exact hPc, va_K.moved hW.alike hKc, hDc.weaken (fun _ _ _ h => hAs _ h), hext.on2 hS hAs hU hW⟩⟩ rfl rfl hl.1 rfl (lv_room (Nat.le_of_ble_eq_true rfl)) dL_signs_4 ⟨by decide, by decide⟩) hown [⟨0, 9, 12, 13⟩] ⟨0, 9, 16, 19⟩ [] (by rw [htab]; rfl) (fun z hz => by rw [List.mem_singleton] at hz; subst hz; exact ⟨by decide, "java/lang/IllegalArgumentException", (hts _ (List.mem_cons_of_mem _ pw61)), (h0X.2.2 "java/lang/IllegalStateException" "java/lang/IllegalArgumentException" (by decide)).moved hext.1.alike⟩) (by decide) (by decide) (hts _ (List.mem_cons_of_mem _ pw71)) (pt_X_at h0X hext (.castable "java/lang/IllegalStateException" "java/lang/IllegalStateException") (by decide) _) (fun q st t H1 L h1 h2 h3 h4 hq hL => ?_)
    obtain ⟨hP1, hK1, hD1, hF1⟩ := hq
    rw [h3] at hP1
    obtain ⟨hS, hz1, hk1⟩ := pt_S_call hS hFc h1 h3 hF1 hL
    obtain ⟨hP, hD⟩ := va_join (wr := [(o0, .inl (ko, 1, .inr (.inl fo)))]) (w1 := [(h0, .inr (0, [.ref c0, .ref w0, .int (nI k), .int (nI n), .long (pt_mk n), .int (-1), .int su])), (c0, .inl (kc, 512, .inr (.inl fc))), (w0, .inl (kw, 512, .inr (.inl fv)))]) hP hD [0, 1, 2] [3] rfl rfl (by decide) (by decide) hk1 hFc hP1 hD1
    generalize H1 = H at hP hS ⊢
    have hP := hP.sub (ws' := [(h0, .inr (0, [.ref c0, .ref w0, .int (nI k), .int (nI n), .long (pt_mk n), .int (-1), .int su])), (c0, .inl (kc, 512, .inr (.inl fc))), (w0, .inl (kw, 512, .inr (.inl fv))), (o0, .inl (ko, 1, .inr (.inl fo)))]) [1, 2, 3, 0] rfl
    have hD := hD.sub (ws' := [(h0, .inr (0, [.ref c0, .ref w0, .int (nI k), .int (nI n), .long (pt_mk n), .int (-1), .int su])), (c0, .inl (kc, 512, .inr (.inl fc))), (w0, .inl (kw, 512, .inr (.inl fv))), (o0, .inl (ko, 1, .inr (.inl fo)))]) [1, 2, 3, 0] (by decide) rfl
    refine W.eq (g2 := F0 m 16 ls [.ref q]) rfl ?_
    refine lv_astore (lv' := [(4, .ref q), (0, .ref h0), (1, .long (lN D)), (3, .ref o0)]) hx hb dL_signs_16 hl (by decide) rfl (fun ls hl => ?_)
    refine lv_iconst (v := 2) hx hb dL_signs_18 (by decide) ?_
    rw [← hQ]
    refine W.widen (k := 1) (n := 6) (by omega) (by omega) ?_
    exact W.iret (v := 2) hx hb hr (fun t ht hW => ⟨⟨2, ((k, n, fc, fv, -1, su), fo), rfl, Or.inr ⟨D, hDb, rfl, Or.inl ⟨hk5, rfl, rfl⟩⟩, by rw [ht]; exact hP, va_K.moved hW.alike hK, hD⟩, hS.F ht⟩) hS.2.2 dL_signs_19
  have hk6 : k < 512 := Nat.lt_of_le_of_ne hk hk5
  by_cases hr0 : r0 = -1
  · have hno := (pt_F_none hk hF).mp hr0
    have hPc := hP.sub (ws' := [(h0, .inr (0, [.ref c0, .ref w0, .int (nI k), .int (nI n), .long (pt_mk n), .int cl, .int su])), (c0, .inl (kc, 512, .inr (.inl fc))), (w0, .inl (kw, 512, .inr (.inl fv)))]) [0, 1, 2] rfl
    have hDc := hD.sub (ws' := [(h0, .inr (0, [.ref c0, .ref w0, .int (nI k), .int (nI n), .long (pt_mk n), .int cl, .int su])), (c0, .inl (kc, 512, .inr (.inl fc))), (w0, .inl (kw, 512, .inr (.inl fv)))]) [0, 1, 2] (by decide) rfl
    have hKc := hK.sub (tys' := [(kc, .long), (kw, .long)]) [0, 1] rfl
    have hFc := va_free (wc := [(h0, .inr (0, [.ref c0, .ref w0, .int (nI k), .int (nI n), .long (pt_mk n), .int cl, .int su])), (c0, .inl (kc, 512, .inr (.inl fc))), (w0, .inl (kw, 512, .inr (.inl fv)))]) hD hS hA [0, 1, 2] rfl
    refine va_calli (va_runV (As := [.long (lN D)]) (rest := [.int 0, .ref o0]) ⟨hx, hb, hml, hown, hts⟩ (c_signs l dC dI h0 c0 w0 kc kw k n fc fv cl su D s.heap.size hDb hk6 hno) (cwV 1 hts (pt_gV pw90 pw91 pw92 pw17 pw93) rfl rfl rfl (by decide +kernel) ⟨Nat.le_of_ble_eq_true rfl, Nat.le_of_ble_eq_true rfl⟩) ⟨fun a U g mk q => by obtain ⟨q0, q1, qP, qK, qD⟩ := q; exact ⟨q0, q1, qP, va_K.moved (u := U) (U := U.calling g mk a) (Vm.Alike.refl U.vm) qK, qD⟩, va_recv hK hP (ci := 0) (q0 := 0) rfl rfl, fun U hU hW => ⟨rfl, by rw [hU], by rw [hU]; exact hPc, va_K.moved hW.alike hKc, hDc.weaken (fun _ _ _ _ => trivial)⟩⟩ rfl rfl hl.1 rfl (lv_room (Nat.le_of_ble_eq_true rfl)) dL_signs_4 ⟨Nat.zero_le _, Nat.zero_le _⟩) hS (fun q _ h => hFc q h) hFc (fun r1 u t H1 locs ht hvm hw hB hz1 hk1 hS => ?_)
    obtain ⟨hP1, hK1, hD1⟩ := hB
    rw [ht] at hP1
    obtain ⟨hP, hD⟩ := va_join (wr := [(o0, .inl (ko, 1, .inr (.inl fo)))]) (w1 := [(h0, .inr (0, [.ref c0, .ref w0, .int (nI (k + 1)), .int (nI n), .long (pt_mk n), .int cl, .int su])), (c0, .inl (kc, 512, .inr (.inl (vp_updL fc k (pt_sc D 40 &&& pt_mk n))))), (w0, .inl (kw, 512, .inr (.inl (vp_updL fv k (pt_sw D 40 &&& pt_mk n)))))]) hP hD [0, 1, 2] [3] rfl rfl (by decide) (by decide) hk1 hFc hP1 hD1
    generalize H1 = H at hP hS ⊢
    have hP := hP.sub (ws' := [(h0, .inr (0, [.ref c0, .ref w0, .int (nI (k + 1)), .int (nI n), .long (pt_mk n), .int cl, .int su])), (c0, .inl (kc, 512, .inr (.inl (vp_updL fc k (pt_sc D 40 &&& pt_mk n))))), (w0, .inl (kw, 512, .inr (.inl (vp_updL fv k (pt_sw D 40 &&& pt_mk n))))), (o0, .inl (ko, 1, .inr (.inl fo)))]) [1, 2, 3, 0] rfl
    have hD := hD.sub (ws' := [(h0, .inr (0, [.ref c0, .ref w0, .int (nI (k + 1)), .int (nI n), .long (pt_mk n), .int cl, .int su])), (c0, .inl (kc, 512, .inr (.inl (vp_updL fc k (pt_sc D 40 &&& pt_mk n))))), (w0, .inl (kw, 512, .inr (.inl (vp_updL fv k (pt_sw D 40 &&& pt_mk n))))), (o0, .inl (ko, 1, .inr (.inl fo)))]) [1, 2, 3, 0] (by decide) rfl
    have hP : va_P (dC, dI) vwCl [(h0, .inr (0, [.ref c0, .ref w0, .int (nI (k + 1)), .int (nI n), .long (pt_mk n), .int cl, .int su])), (c0, .inl (kc, 512, .inr (.inl (vp_updL fc k (pt_sc D 40 &&& pt_mk n))))), (w0, .inl (kw, 512, .inr (.inl (vp_updL fv k (pt_sw D 40 &&& pt_mk n))))), (o0, .inl (ko, 1, .inr (.inl fo)))] H := hP
    have hD : va_D A [(h0, .inr (0, [.ref c0, .ref w0, .int (nI (k + 1)), .int (nI n), .long (pt_mk n), .int cl, .int su])), (c0, .inl (kc, 512, .inr (.inl (vp_updL fc k (pt_sc D 40 &&& pt_mk n))))), (w0, .inl (kw, 512, .inr (.inl (vp_updL fv k (pt_sw D 40 &&& pt_mk n))))), (o0, .inl (ko, 1, .inr (.inl fo)))] := hD
    subst hw
    refine lv_i2l (v := (nI k).toInt64) hx hb dL_signs_7 rfl ?_
    refine va_last hx hb hK hP hD hS 3 2 rfl rfl (vp_in_nI (n := 0) (by decide) (by decide)) dL_signs_8 (fun H locs hP hD hS => ?_)
    rw [show Int32.toNatClampNeg 0 = 0 by decide] at hP hD
    have hP : va_P (dC, dI) vwCl [(h0, .inr (0, [.ref c0, .ref w0, .int (nI (k + 1)), .int (nI n), .long (pt_mk n), .int cl, .int su])), (c0, .inl (kc, 512, .inr (.inl (vp_updL fc k (pt_sc D 40 &&& pt_mk n))))), (w0, .inl (kw, 512, .inr (.inl (vp_updL fv k (pt_sw D 40 &&& pt_mk n))))), (o0, .inl (ko, 1, .inr (.inl (vp_updL fo 0 ((nI k).toInt64)))))] H := hP
    have hD : va_D A [(h0, .inr (0, [.ref c0, .ref w0, .int (nI (k + 1)), .int (nI n), .long (pt_mk n), .int cl, .int su])), (c0, .inl (kc, 512, .inr (.inl (vp_updL fc k (pt_sc D 40 &&& pt_mk n))))), (w0, .inl (kw, 512, .inr (.inl (vp_updL fv k (pt_sw D 40 &&& pt_mk n))))), (o0, .inl (ko, 1, .inr (.inl (vp_updL fo 0 ((nI k).toInt64)))))] := hD
    refine lv_goto (tgt := 20) hx hb dL_signs_9 (by decide) ?_
    refine lv_iconst (v := 0) hx hb dL_signs_20 (by decide) ?_
    rw [← hQ]
    refine W.widen (k := 1) (n := 6) (by omega) (by omega) ?_
    exact W.iret (v := 0) hx hb hr (fun t ht hW => ⟨⟨0, ((k + 1, n, vp_updL fc k (pt_sc D 40 &&& pt_mk n), vp_updL fv k (pt_sw D 40 &&& pt_mk n), cl, su), vp_updL fo 0 (nI k).toInt64), rfl, Or.inr ⟨D, hDb, rfl, Or.inr (Or.inr ⟨hk6, hno, rfl, (pk_uLs : vp_updL fo 0 (nI k).toInt64 0 = (nI k).toInt64), rfl⟩)⟩, by rw [ht]; exact hP, va_K.moved hW.alike hK, hD⟩, hS.F ht⟩) hS.2.2 dL_signs_21
  · have hPc := hP.sub (ws' := [(h0, .inr (0, [.ref c0, .ref w0, .int (nI k), .int (nI n), .long (pt_mk n), .int cl, .int su])), (c0, .inl (kc, 512, .inr (.inl fc))), (w0, .inl (kw, 512, .inr (.inl fv)))]) [0, 1, 2] rfl
    have hDc := hD.sub (ws' := [(h0, .inr (0, [.ref c0, .ref w0, .int (nI k), .int (nI n), .long (pt_mk n), .int cl, .int su])), (c0, .inl (kc, 512, .inr (.inl fc))), (w0, .inl (kw, 512, .inr (.inl fv)))]) [0, 1, 2] (by decide) rfl
    have hKc := hK.sub (tys' := [(kc, .long), (kw, .long)]) [0, 1] rfl
    have hFc := va_free (wc := [(h0, .inr (0, [.ref c0, .ref w0, .int (nI k), .int (nI n), .long (pt_mk n), .int cl, .int su])), (c0, .inl (kc, 512, .inr (.inl fc))), (w0, .inl (kw, 512, .inr (.inl fv)))]) hD hS hA [0, 1, 2] rfl
    refine pt_catch (own := RL) (name := "java/lang/IllegalStateException") (pt_runT (As := [.long (lN D)]) (rest := [.int 0, .ref o0]) ⟨hx, hb, hml, hown, hts⟩ (t_signs_ref l hl9 dC dI s0 h0X h0 c0 w0 kc kw k n fc fv cl su D s.heap.size hDb r0 (Or.inr ⟨hk6, hF, hr0⟩)) (cwV 1 hts (pt_gV pw90 pw91 pw92 pw17 pw93) rfl rfl rfl (by decide +kernel) ⟨Nat.le_of_ble_eq_true rfl, Nat.le_of_ble_eq_true rfl⟩) ⟨fun a U g mk q => by obtain ⟨q0, q1, qP, qK, qD, qX⟩ := q; exact ⟨q0, q1, qP, va_K.moved (u := U) (U := U.calling g mk a) (Vm.Alike.refl U.vm) qK, qD, qX⟩, va_recv hK hP (ci := 0) (q0 := 0) rfl rfl, fun U hU hW => ⟨rfl, by rw [hU], by rw [hU]; exact hPc, va_K.moved hW.alike hKc, hDc.weaken (fun _ _ _ h => hAs _ h), hext.on2 hS hAs hU hW⟩⟩ rfl rfl hl.1 rfl (lv_room (Nat.le_of_ble_eq_true rfl)) dL_signs_4 ⟨by decide, by decide⟩) hown [⟨0, 9, 12, 13⟩] ⟨0, 9, 16, 19⟩ [] (by rw [htab]; rfl) (fun z hz => by rw [List.mem_singleton] at hz; subst hz; exact ⟨by decide, "java/lang/IllegalArgumentException", (hts _ (List.mem_cons_of_mem _ pw61)), (h0X.2.2 "java/lang/IllegalStateException" "java/lang/IllegalArgumentException" (by decide)).moved hext.1.alike⟩) (by decide) (by decide) (hts _ (List.mem_cons_of_mem _ pw71)) (pt_X_at h0X hext (.castable "java/lang/IllegalStateException" "java/lang/IllegalStateException") (by decide) _) (fun q st t H1 L h1 h2 h3 h4 hq hL => ?_)
    obtain ⟨hP1, hK1, hD1, hF1⟩ := hq
    rw [h3] at hP1
    obtain ⟨hS, hz1, hk1⟩ := pt_S_call hS hFc h1 h3 hF1 hL
    obtain ⟨hP, hD⟩ := va_join (wr := [(o0, .inl (ko, 1, .inr (.inl fo)))]) (w1 := [(h0, .inr (0, [.ref c0, .ref w0, .int (nI k), .int (nI n), .long (pt_mk n), .int r0, .int su])), (c0, .inl (kc, 512, .inr (.inl fc))), (w0, .inl (kw, 512, .inr (.inl fv)))]) hP hD [0, 1, 2] [3] rfl rfl (by decide) (by decide) hk1 hFc hP1 hD1
    generalize H1 = H at hP hS ⊢
    have hP := hP.sub (ws' := [(h0, .inr (0, [.ref c0, .ref w0, .int (nI k), .int (nI n), .long (pt_mk n), .int r0, .int su])), (c0, .inl (kc, 512, .inr (.inl fc))), (w0, .inl (kw, 512, .inr (.inl fv))), (o0, .inl (ko, 1, .inr (.inl fo)))]) [1, 2, 3, 0] rfl
    have hD := hD.sub (ws' := [(h0, .inr (0, [.ref c0, .ref w0, .int (nI k), .int (nI n), .long (pt_mk n), .int r0, .int su])), (c0, .inl (kc, 512, .inr (.inl fc))), (w0, .inl (kw, 512, .inr (.inl fv))), (o0, .inl (ko, 1, .inr (.inl fo)))]) [1, 2, 3, 0] (by decide) rfl
    refine W.eq (g2 := F0 m 16 ls [.ref q]) rfl ?_
    refine lv_astore (lv' := [(4, .ref q), (0, .ref h0), (1, .long (lN D)), (3, .ref o0)]) hx hb dL_signs_16 hl (by decide) rfl (fun ls hl => ?_)
    refine lv_iconst (v := 2) hx hb dL_signs_18 (by decide) ?_
    rw [← hQ]
    refine W.widen (k := 1) (n := 6) (by omega) (by omega) ?_
    exact W.iret (v := 2) hx hb hr (fun t ht hW => ⟨⟨2, ((k, n, fc, fv, r0, su), fo), rfl, Or.inr ⟨D, hDb, rfl, Or.inr (Or.inl ⟨hk6, r0, hF, hr0, rfl, rfl⟩)⟩, by rw [ht]; exact hP, va_K.moved hW.alike hK, hD⟩, hS.F ht⟩) hS.2.2 dL_signs_19
set_option maxHeartbeats 4000000 in
set_option maxRecDepth 100000 in
/-- the law: meets -/
theorem c_Lmeets (l : Launch) (hl9 : l.stackTraces = false) (dC : Nat → ClassId) (dI : Nat → Nat → Nat) (s0 : State) (h0X : pt_X s0) (h0 c0 w0 : Nat) (kc kw : ClassId) (k n : Nat) (fc fv : Nat → Int64) (cl su : Int32) (o0 : Nat) (ko : ClassId) (fo : Nat → Int64) (a b : Int64) (sz : Nat) (hk : k ≤ 512) : Met l yL_meets wsL_meets ({ frames := 8, cells := 1, slots := 6, locals := 130 }) (va_Pc [.ref h0, .long a, .long b, .ref o0] (fun U => U.heap.size = sz ∧ va_P (dC, dI) vwCl [(h0, .inr (0, [.ref c0, .ref w0, .int (nI k), .int (nI n), .long (pt_mk n), .int cl, .int su])), (c0, .inl (kc, 512, .inr (.inl fc))), (w0, .inl (kw, 512, .inr (.inl fv))), (o0, .inl (ko, 1, .inr (.inl fo)))] U.heap ∧ va_K (dC, dI) vwCl [(kc, .long), (kw, .long), (ko, .long)] U ∧ va_D (fun q => s0.heap.size ≤ q) [(h0, .inr (0, [.ref c0, .ref w0, .int (nI k), .int (nI n), .long (pt_mk n), .int cl, .int su])), (c0, .inl (kc, 512, .inr (.inl fc))), (w0, .inl (kw, 512, .inr (.inl fv))), (o0, .inl (ko, 1, .inr (.inl fo)))] ∧ pt_ext s0 U)) (va_Qi (fun (r : Int32) u => pt_Rmeets k n fc fv a b r (u 0)) (fun (u : Nat → Int64) (t : State) => match u with | fo2 => va_P (dC, dI) vwCl [(h0, .inr (0, [.ref c0, .ref w0, .int (nI k), .int (nI n), .long (pt_mk n), .int cl, .int su])), (c0, .inl (kc, 512, .inr (.inl fc))), (w0, .inl (kw, 512, .inr (.inl fv))), (o0, .inl (ko, 1, .inr (.inl fo2)))] t.heap ∧ va_K (dC, dI) vwCl [(kc, .long), (kw, .long), (ko, .long)] t ∧ va_D (va_A [(h0, .inr (0, [.ref c0, .ref w0, .int (nI k), .int (nI n), .long (pt_mk n), .int cl, .int su])), (c0, .inl (kc, 512, .inr (.inl fc))), (w0, .inl (kw, 512, .inr (.inl fv))), (o0, .inl (ko, 1, .inr (.inl fo)))] sz) [(h0, .inr (0, [.ref c0, .ref w0, .int (nI k), .int (nI n), .long (pt_mk n), .int cl, .int su])), (c0, .inl (kc, 512, .inr (.inl fc))), (w0, .inl (kw, 512, .inr (.inl fv))), (o0, .inl (ko, 1, .inr (.inl fo2)))]) (va_A [(h0, .inr (0, [.ref c0, .ref w0, .int (nI k), .int (nI n), .long (pt_mk n), .int cl, .int su])), (c0, .inl (kc, 512, .inr (.inl fc))), (w0, .inl (kw, 512, .inr (.inl fv))), (o0, .inl (ko, 1, .inr (.inl fo)))] sz)) 1 6 (va_A [(h0, .inr (0, [.ref c0, .ref w0, .int (nI k), .int (nI n), .long (pt_mk n), .int cl, .int su])), (c0, .inl (kc, 512, .inr (.inl fc))), (w0, .inl (kw, 512, .inr (.inl fv))), (o0, .inl (ko, 1, .inr (.inl fo)))] sz) := by
  refine va_MetW (hh := [(0, 11, 14, 13)]) (cc := cL_meets) (maxL := 7) (ret := (some .int)) (by decide) rfl ?_
  intro p e s m args below meth c s₁ B hml hv
  obtain ⟨ha, hsz, hP, hK, hD0, hext⟩ := hv
  subst hsz
  have hx := B.exec
  have hb := B.bytes
  have hr := B.returns
  have hts := atoms_spec (ws := wsL_meets) B.pre
  have hown : s.vm.findClass RL = some m.cls := findClass_of_methodNamed B.named
  have hlocks := B.notSynchronized
  have hl := lv_entry ([.ref h0, .long a, .long b, .ref o0]) (n := 7) (Nat.le_of_ble_eq_true rfl)
  refine W.eq (show entryFrame m args 7 = entryFrame m ([.ref h0, .long a, .long b, .ref o0] : List Value).toArray 7 by rw [ha]) ?_
  rw [lg_entry_eq]
  generalize (lg_sl ([.ref h0, .long a, .long b, .ref o0]) ++ List.replicate (7 - (lg_sl ([.ref h0, .long a, .long b, .ref o0])).length) Slot.unset).toArray = ls at hl ⊢
  have hl : lv_has ls 7 [(0, .ref h0), (1, .long a), (3, .long b), (5, .ref o0)] := hl
  have htab : c.exceptionTable.toList = tableOf [(0, 11, 14, 13)] := pt_table B (hts _ List.mem_cons_self)
  have hD := hD0.self (sz := s.heap.size)
  have hAs : ∀ q : Nat, va_A [(h0, .inr (0, [.ref c0, .ref w0, .int (nI k), .int (nI n), .long (pt_mk n), .int cl, .int su])), (c0, .inl (kc, 512, .inr (.inl fc))), (w0, .inl (kw, 512, .inr (.inl fv))), (o0, .inl (ko, 1, .inr (.inl fo)))] s.heap.size q → s0.heap.size ≤ q := pt_As hD0 hext.2.1
  generalize hAe : va_A [(h0, .inr (0, [.ref c0, .ref w0, .int (nI k), .int (nI n), .long (pt_mk n), .int cl, .int su])), (c0, .inl (kc, 512, .inr (.inl fc))), (w0, .inl (kw, 512, .inr (.inl fv))), (o0, .inl (ko, 1, .inr (.inl fo)))] s.heap.size = A at hD hAs ⊢
  have hA : ∀ q : Nat, s.heap.size ≤ q → A q := fun q h => by rw [← hAe]; exact Or.inr h
  have hS : va_S A s.heap s.heap [] := va_S.rf
  have hP : va_P (dC, dI) vwCl [(h0, .inr (0, [.ref c0, .ref w0, .int (nI k), .int (nI n), .long (pt_mk n), .int cl, .int su])), (c0, .inl (kc, 512, .inr (.inl fc))), (w0, .inl (kw, 512, .inr (.inl fv))), (o0, .inl (ko, 1, .inr (.inl fo)))] s.heap := hP
  generalize hQ : MQ below (va_Qi (fun (r : Int32) u => pt_Rmeets k n fc fv a b r (u 0)) (fun (u : Nat → Int64) (t : State) => match u with | fo2 => va_P (dC, dI) vwCl [(h0, .inr (0, [.ref c0, .ref w0, .int (nI k), .int (nI n), .long (pt_mk n), .int cl, .int su])), (c0, .inl (kc, 512, .inr (.inl fc))), (w0, .inl (kw, 512, .inr (.inl fv))), (o0, .inl (ko, 1, .inr (.inl fo2)))] t.heap ∧ va_K (dC, dI) vwCl [(kc, .long), (kw, .long), (ko, .long)] t ∧ va_D A [(h0, .inr (0, [.ref c0, .ref w0, .int (nI k), .int (nI n), .long (pt_mk n), .int cl, .int su])), (c0, .inl (kc, 512, .inr (.inl fc))), (w0, .inl (kw, 512, .inr (.inl fv))), (o0, .inl (ko, 1, .inr (.inl fo2)))]) A) args s 1 6 A = Q
  refine lv_aload hx hb dL_meets_0 (lv_at hl 3 rfl) ?_
  refine lv_iconst (v := 0) hx hb dL_meets_2 (by decide) ?_
  refine lv_aload_n hx hb dL_meets_3 rfl (lv_at hl 0 rfl) ?_
  refine lv_lload_n hx hb dL_meets_4 rfl (lv_at hl 1 rfl) ?_
  refine lv_lload_n hx hb dL_meets_5 rfl (lv_at hl 2 rfl) ?_
  by_cases hst : pt_stray n a b
  · have hPc := hP.sub (ws' := [(h0, .inr (0, [.ref c0, .ref w0, .int (nI k), .int (nI n), .long (pt_mk n), .int cl, .int su])), (c0, .inl (kc, 512, .inr (.inl fc))), (w0, .inl (kw, 512, .inr (.inl fv)))]) [0, 1, 2] rfl
    have hDc := hD.sub (ws' := [(h0, .inr (0, [.ref c0, .ref w0, .int (nI k), .int (nI n), .long (pt_mk n), .int cl, .int su])), (c0, .inl (kc, 512, .inr (.inl fc))), (w0, .inl (kw, 512, .inr (.inl fv)))]) [0, 1, 2] (by decide) rfl
    have hKc := hK.sub (tys' := [(kc, .long), (kw, .long)]) [0, 1] rfl
    have hFc := va_free (wc := [(h0, .inr (0, [.ref c0, .ref w0, .int (nI k), .int (nI n), .long (pt_mk n), .int cl, .int su])), (c0, .inl (kc, 512, .inr (.inl fc))), (w0, .inl (kw, 512, .inr (.inl fv)))]) hD hS hA [0, 1, 2] rfl
    refine pt_catch (own := RL) (name := "java/lang/IllegalArgumentException") (pt_runT (As := [.long a, .long b]) (rest := [.int 0, .ref o0]) ⟨hx, hb, hml, hown, hts⟩ (t_meets_bad l hl9 dC dI s0 h0X h0 c0 w0 kc kw k n fc fv cl su a b s.heap.size hst) (cwV 2 hts (pt_gV pw112 pw113 pw114 pw17 pw115) rfl rfl rfl (by decide +kernel) ⟨Nat.le_of_ble_eq_true rfl, Nat.le_of_ble_eq_true rfl⟩) ⟨fun a U g mk q => by obtain ⟨q0, q1, qP, qK, qD, qX⟩ := q; exact ⟨q0, q1, qP, va_K.moved (u := U) (U := U.calling g mk a) (Vm.Alike.refl U.vm) qK, qD, qX⟩, va_recv hK hP (ci := 0) (q0 := 0) rfl rfl, fun U hU hW => ⟨rfl, by rw [hU], by rw [hU]; exact hPc, va_K.moved hW.alike hKc, hDc.weaken (fun _ _ _ h => hAs _ h), hext.on2 hS hAs hU hW⟩⟩ rfl rfl hl.1 rfl (lv_room (Nat.le_of_ble_eq_true rfl)) dL_meets_6 ⟨by decide, by decide⟩) hown [] ⟨0, 11, 14, 13⟩ [] (by rw [htab]; rfl) (fun z hz => nomatch hz) (by decide) (by decide) (hts _ (List.mem_cons_of_mem _ pw61)) (pt_X_at h0X hext (.castable "java/lang/IllegalArgumentException" "java/lang/IllegalArgumentException") (by decide) _) (fun q st t H1 L h1 h2 h3 h4 hq hL => ?_)
    obtain ⟨hP1, hK1, hD1, hF1⟩ := hq
    rw [h3] at hP1
    obtain ⟨hS, hz1, hk1⟩ := pt_S_call hS hFc h1 h3 hF1 hL
    obtain ⟨hP, hD⟩ := va_join (wr := [(o0, .inl (ko, 1, .inr (.inl fo)))]) (w1 := [(h0, .inr (0, [.ref c0, .ref w0, .int (nI k), .int (nI n), .long (pt_mk n), .int cl, .int su])), (c0, .inl (kc, 512, .inr (.inl fc))), (w0, .inl (kw, 512, .inr (.inl fv)))]) hP hD [0, 1, 2] [3] rfl rfl (by decide) (by decide) hk1 hFc hP1 hD1
    generalize H1 = H at hP hS ⊢
    have hP := hP.sub (ws' := [(h0, .inr (0, [.ref c0, .ref w0, .int (nI k), .int (nI n), .long (pt_mk n), .int cl, .int su])), (c0, .inl (kc, 512, .inr (.inl fc))), (w0, .inl (kw, 512, .inr (.inl fv))), (o0, .inl (ko, 1, .inr (.inl fo)))]) [1, 2, 3, 0] rfl
    have hD := hD.sub (ws' := [(h0, .inr (0, [.ref c0, .ref w0, .int (nI k), .int (nI n), .long (pt_mk n), .int cl, .int su])), (c0, .inl (kc, 512, .inr (.inl fc))), (w0, .inl (kw, 512, .inr (.inl fv))), (o0, .inl (ko, 1, .inr (.inl fo)))]) [1, 2, 3, 0] (by decide) rfl
    refine W.eq (g2 := F0 m 14 ls [.ref q]) rfl ?_
    refine lv_astore (lv' := [(6, .ref q), (0, .ref h0), (1, .long a), (3, .long b), (5, .ref o0)]) hx hb dL_meets_14 hl (by decide) rfl (fun ls hl => ?_)
    refine lv_iconst (v := 1) hx hb dL_meets_16 (by decide) ?_
    rw [← hQ]
    refine W.widen (k := 1) (n := 6) (by omega) (by omega) ?_
    exact W.iret (v := 1) hx hb hr (fun t ht hW => ⟨⟨1, fo, rfl, Or.inl ⟨hst, rfl⟩, by rw [ht]; exact hP, va_K.moved hW.alike hK, hD⟩, hS.F ht⟩) hS.2.2 dL_meets_17
  refine vp_callSi (W.runV (As := [.long a, .long b]) (rest := [.int 0, .ref o0]) ⟨hx, hb, hml, hown, hts⟩ (c_meets l dC dI h0 c0 w0 kc kw k n fc fv cl su a b hst hk) (cwV 2 hts (pt_gV pw112 pw113 pw114 pw17 pw115) rfl rfl rfl (by decide +kernel) ⟨Nat.le_of_ble_eq_true rfl, Nat.le_of_ble_eq_true rfl⟩) ⟨fun a U g mk q => by obtain ⟨q0, qP, qK⟩ := q; exact ⟨q0, qP, va_K.moved (u := U) (U := U.calling g mk a) (Vm.Alike.refl U.vm) qK⟩, va_recv hK hP (ci := 0) (q0 := 0) rfl rfl, fun U hU hW => ⟨rfl, by rw [hU]; exact (hP.sub (ws' := [(h0, .inr (0, [.ref c0, .ref w0, .int (nI k), .int (nI n), .long (pt_mk n), .int cl, .int su])), (c0, .inl (kc, 512, .inr (.inl fc))), (w0, .inl (kw, 512, .inr (.inl fv)))]) [0, 1, 2] rfl), va_K.moved hW.alike (hK.sub (tys' := [(kc, .long), (kw, .long)]) [0, 1] rfl)⟩⟩ rfl rfl hl.1 rfl (lv_room (Nat.le_of_ble_eq_true rfl)) dL_meets_6 ⟨Nat.zero_le _, Nat.zero_le _⟩) (fun r1 hw => ?_)
  refine lv_i2l (v := r1.toInt64) hx hb dL_meets_9 rfl ?_
  refine va_last hx hb hK hP hD hS 3 2 rfl rfl (vp_in_nI (n := 0) (by decide) (by decide)) dL_meets_10 (fun H locs hP hD hS => ?_)
  rw [show Int32.toNatClampNeg 0 = 0 by decide] at hP hD
  have hP : va_P (dC, dI) vwCl [(h0, .inr (0, [.ref c0, .ref w0, .int (nI k), .int (nI n), .long (pt_mk n), .int cl, .int su])), (c0, .inl (kc, 512, .inr (.inl fc))), (w0, .inl (kw, 512, .inr (.inl fv))), (o0, .inl (ko, 1, .inr (.inl (vp_updL fo 0 r1.toInt64))))] H := hP
  have hD : va_D A [(h0, .inr (0, [.ref c0, .ref w0, .int (nI k), .int (nI n), .long (pt_mk n), .int cl, .int su])), (c0, .inl (kc, 512, .inr (.inl fc))), (w0, .inl (kw, 512, .inr (.inl fv))), (o0, .inl (ko, 1, .inr (.inl (vp_updL fo 0 r1.toInt64))))] := hD
  refine lv_goto (tgt := 18) hx hb dL_meets_11 (by decide) ?_
  refine lv_iconst (v := 0) hx hb dL_meets_18 (by decide) ?_
  rw [← hQ]
  refine W.widen (k := 1) (n := 6) (by omega) (by omega) ?_
  exact W.iret (v := 0) hx hb hr (fun t ht hW => ⟨⟨0, vp_updL fo 0 r1.toInt64, rfl, Or.inr ⟨hst, rfl, r1, hw, pk_uLs⟩, by rw [ht]; exact hP, va_K.moved hW.alike hK, hD⟩, hS.F ht⟩) hS.2.2 dL_meets_19
set_option maxHeartbeats 4000000 in
set_option maxRecDepth 100000 in
/-- the law: free -/
theorem c_Lfree (l : Launch) (hl9 : l.stackTraces = false) (dC : Nat → ClassId) (dI : Nat → Nat → Nat) (s0 : State) (h0X : pt_X s0) (h0 c0 w0 : Nat) (kc kw : ClassId) (k n : Nat) (fc fv : Nat → Int64) (cl su : Int32) (o0 : Nat) (ko : ClassId) (fo : Nat → Int64) (a b : Int64) (sz : Nat) (hk : k ≤ 512) : Met l yL_free wsL_free ({ frames := 8, cells := 1, slots := 6, locals := 130 }) (va_Pc [.ref h0, .long a, .long b, .ref o0] (fun U => U.heap.size = sz ∧ va_P (dC, dI) vwCl [(h0, .inr (0, [.ref c0, .ref w0, .int (nI k), .int (nI n), .long (pt_mk n), .int cl, .int su])), (c0, .inl (kc, 512, .inr (.inl fc))), (w0, .inl (kw, 512, .inr (.inl fv))), (o0, .inl (ko, 1, .inr (.inl fo)))] U.heap ∧ va_K (dC, dI) vwCl [(kc, .long), (kw, .long), (ko, .long)] U ∧ va_D (fun q => s0.heap.size ≤ q) [(h0, .inr (0, [.ref c0, .ref w0, .int (nI k), .int (nI n), .long (pt_mk n), .int cl, .int su])), (c0, .inl (kc, 512, .inr (.inl fc))), (w0, .inl (kw, 512, .inr (.inl fv))), (o0, .inl (ko, 1, .inr (.inl fo)))] ∧ pt_ext s0 U)) (va_Qi (fun (r : Int32) u => pt_Rfree k n fc fv a b r (u 0)) (fun (u : Nat → Int64) (t : State) => match u with | fo2 => va_P (dC, dI) vwCl [(h0, .inr (0, [.ref c0, .ref w0, .int (nI k), .int (nI n), .long (pt_mk n), .int cl, .int su])), (c0, .inl (kc, 512, .inr (.inl fc))), (w0, .inl (kw, 512, .inr (.inl fv))), (o0, .inl (ko, 1, .inr (.inl fo2)))] t.heap ∧ va_K (dC, dI) vwCl [(kc, .long), (kw, .long), (ko, .long)] t ∧ va_D (va_A [(h0, .inr (0, [.ref c0, .ref w0, .int (nI k), .int (nI n), .long (pt_mk n), .int cl, .int su])), (c0, .inl (kc, 512, .inr (.inl fc))), (w0, .inl (kw, 512, .inr (.inl fv))), (o0, .inl (ko, 1, .inr (.inl fo)))] sz) [(h0, .inr (0, [.ref c0, .ref w0, .int (nI k), .int (nI n), .long (pt_mk n), .int cl, .int su])), (c0, .inl (kc, 512, .inr (.inl fc))), (w0, .inl (kw, 512, .inr (.inl fv))), (o0, .inl (ko, 1, .inr (.inl fo2)))]) (va_A [(h0, .inr (0, [.ref c0, .ref w0, .int (nI k), .int (nI n), .long (pt_mk n), .int cl, .int su])), (c0, .inl (kc, 512, .inr (.inl fc))), (w0, .inl (kw, 512, .inr (.inl fv))), (o0, .inl (ko, 1, .inr (.inl fo)))] sz)) 1 6 (va_A [(h0, .inr (0, [.ref c0, .ref w0, .int (nI k), .int (nI n), .long (pt_mk n), .int cl, .int su])), (c0, .inl (kc, 512, .inr (.inl fc))), (w0, .inl (kw, 512, .inr (.inl fv))), (o0, .inl (ko, 1, .inr (.inl fo)))] sz) := by
  refine va_MetW (hh := [(0, 10, 13, 13)]) (cc := cL_free) (maxL := 7) (ret := (some .int)) (by decide) rfl ?_
  intro p e s m args below meth c s₁ B hml hv
  obtain ⟨ha, hsz, hP, hK, hD0, hext⟩ := hv
  subst hsz
  have hx := B.exec
  have hb := B.bytes
  have hr := B.returns
  have hts := atoms_spec (ws := wsL_free) B.pre
  have hown : s.vm.findClass RL = some m.cls := findClass_of_methodNamed B.named
  have hlocks := B.notSynchronized
  have hl := lv_entry ([.ref h0, .long a, .long b, .ref o0]) (n := 7) (Nat.le_of_ble_eq_true rfl)
  refine W.eq (show entryFrame m args 7 = entryFrame m ([.ref h0, .long a, .long b, .ref o0] : List Value).toArray 7 by rw [ha]) ?_
  rw [lg_entry_eq]
  generalize (lg_sl ([.ref h0, .long a, .long b, .ref o0]) ++ List.replicate (7 - (lg_sl ([.ref h0, .long a, .long b, .ref o0])).length) Slot.unset).toArray = ls at hl ⊢
  have hl : lv_has ls 7 [(0, .ref h0), (1, .long a), (3, .long b), (5, .ref o0)] := hl
  have htab : c.exceptionTable.toList = tableOf [(0, 10, 13, 13)] := pt_table B (hts _ List.mem_cons_self)
  have hD := hD0.self (sz := s.heap.size)
  have hAs : ∀ q : Nat, va_A [(h0, .inr (0, [.ref c0, .ref w0, .int (nI k), .int (nI n), .long (pt_mk n), .int cl, .int su])), (c0, .inl (kc, 512, .inr (.inl fc))), (w0, .inl (kw, 512, .inr (.inl fv))), (o0, .inl (ko, 1, .inr (.inl fo)))] s.heap.size q → s0.heap.size ≤ q := pt_As hD0 hext.2.1
  generalize hAe : va_A [(h0, .inr (0, [.ref c0, .ref w0, .int (nI k), .int (nI n), .long (pt_mk n), .int cl, .int su])), (c0, .inl (kc, 512, .inr (.inl fc))), (w0, .inl (kw, 512, .inr (.inl fv))), (o0, .inl (ko, 1, .inr (.inl fo)))] s.heap.size = A at hD hAs ⊢
  have hA : ∀ q : Nat, s.heap.size ≤ q → A q := fun q h => by rw [← hAe]; exact Or.inr h
  have hS : va_S A s.heap s.heap [] := va_S.rf
  have hP : va_P (dC, dI) vwCl [(h0, .inr (0, [.ref c0, .ref w0, .int (nI k), .int (nI n), .long (pt_mk n), .int cl, .int su])), (c0, .inl (kc, 512, .inr (.inl fc))), (w0, .inl (kw, 512, .inr (.inl fv))), (o0, .inl (ko, 1, .inr (.inl fo)))] s.heap := hP
  generalize hQ : MQ below (va_Qi (fun (r : Int32) u => pt_Rfree k n fc fv a b r (u 0)) (fun (u : Nat → Int64) (t : State) => match u with | fo2 => va_P (dC, dI) vwCl [(h0, .inr (0, [.ref c0, .ref w0, .int (nI k), .int (nI n), .long (pt_mk n), .int cl, .int su])), (c0, .inl (kc, 512, .inr (.inl fc))), (w0, .inl (kw, 512, .inr (.inl fv))), (o0, .inl (ko, 1, .inr (.inl fo2)))] t.heap ∧ va_K (dC, dI) vwCl [(kc, .long), (kw, .long), (ko, .long)] t ∧ va_D A [(h0, .inr (0, [.ref c0, .ref w0, .int (nI k), .int (nI n), .long (pt_mk n), .int cl, .int su])), (c0, .inl (kc, 512, .inr (.inl fc))), (w0, .inl (kw, 512, .inr (.inl fv))), (o0, .inl (ko, 1, .inr (.inl fo2)))]) A) args s 1 6 A = Q
  refine lv_aload hx hb dL_free_0 (lv_at hl 3 rfl) ?_
  refine lv_iconst (v := 0) hx hb dL_free_2 (by decide) ?_
  refine lv_aload_n hx hb dL_free_3 rfl (lv_at hl 0 rfl) ?_
  refine lv_lload_n hx hb dL_free_4 rfl (lv_at hl 1 rfl) ?_
  refine lv_lload_n hx hb dL_free_5 rfl (lv_at hl 2 rfl) ?_
  by_cases hst : pt_stray n a b
  · have hPc := hP.sub (ws' := [(h0, .inr (0, [.ref c0, .ref w0, .int (nI k), .int (nI n), .long (pt_mk n), .int cl, .int su])), (c0, .inl (kc, 512, .inr (.inl fc))), (w0, .inl (kw, 512, .inr (.inl fv)))]) [0, 1, 2] rfl
    have hDc := hD.sub (ws' := [(h0, .inr (0, [.ref c0, .ref w0, .int (nI k), .int (nI n), .long (pt_mk n), .int cl, .int su])), (c0, .inl (kc, 512, .inr (.inl fc))), (w0, .inl (kw, 512, .inr (.inl fv)))]) [0, 1, 2] (by decide) rfl
    have hKc := hK.sub (tys' := [(kc, .long), (kw, .long)]) [0, 1] rfl
    have hFc := va_free (wc := [(h0, .inr (0, [.ref c0, .ref w0, .int (nI k), .int (nI n), .long (pt_mk n), .int cl, .int su])), (c0, .inl (kc, 512, .inr (.inl fc))), (w0, .inl (kw, 512, .inr (.inl fv)))]) hD hS hA [0, 1, 2] rfl
    refine pt_catch (own := RL) (name := "java/lang/IllegalArgumentException") (pt_runT (As := [.long a, .long b]) (rest := [.int 0, .ref o0]) ⟨hx, hb, hml, hown, hts⟩ (t_free_bad l hl9 dC dI s0 h0X h0 c0 w0 kc kw k n fc fv cl su a b s.heap.size hst) (cwV 2 hts (pt_gV pw119 pw120 pw121 pw17 pw122) rfl rfl rfl (by decide +kernel) ⟨Nat.le_of_ble_eq_true rfl, Nat.le_of_ble_eq_true rfl⟩) ⟨fun a U g mk q => by obtain ⟨q0, q1, qP, qK, qD, qX⟩ := q; exact ⟨q0, q1, qP, va_K.moved (u := U) (U := U.calling g mk a) (Vm.Alike.refl U.vm) qK, qD, qX⟩, va_recv hK hP (ci := 0) (q0 := 0) rfl rfl, fun U hU hW => ⟨rfl, by rw [hU], by rw [hU]; exact hPc, va_K.moved hW.alike hKc, hDc.weaken (fun _ _ _ h => hAs _ h), hext.on2 hS hAs hU hW⟩⟩ rfl rfl hl.1 rfl (lv_room (Nat.le_of_ble_eq_true rfl)) dL_free_6 ⟨by decide, by decide⟩) hown [] ⟨0, 10, 13, 13⟩ [] (by rw [htab]; rfl) (fun z hz => nomatch hz) (by decide) (by decide) (hts _ (List.mem_cons_of_mem _ pw61)) (pt_X_at h0X hext (.castable "java/lang/IllegalArgumentException" "java/lang/IllegalArgumentException") (by decide) _) (fun q st t H1 L h1 h2 h3 h4 hq hL => ?_)
    obtain ⟨hP1, hK1, hD1, hF1⟩ := hq
    rw [h3] at hP1
    obtain ⟨hS, hz1, hk1⟩ := pt_S_call hS hFc h1 h3 hF1 hL
    obtain ⟨hP, hD⟩ := va_join (wr := [(o0, .inl (ko, 1, .inr (.inl fo)))]) (w1 := [(h0, .inr (0, [.ref c0, .ref w0, .int (nI k), .int (nI n), .long (pt_mk n), .int cl, .int su])), (c0, .inl (kc, 512, .inr (.inl fc))), (w0, .inl (kw, 512, .inr (.inl fv)))]) hP hD [0, 1, 2] [3] rfl rfl (by decide) (by decide) hk1 hFc hP1 hD1
    generalize H1 = H at hP hS ⊢
    have hP := hP.sub (ws' := [(h0, .inr (0, [.ref c0, .ref w0, .int (nI k), .int (nI n), .long (pt_mk n), .int cl, .int su])), (c0, .inl (kc, 512, .inr (.inl fc))), (w0, .inl (kw, 512, .inr (.inl fv))), (o0, .inl (ko, 1, .inr (.inl fo)))]) [1, 2, 3, 0] rfl
    have hD := hD.sub (ws' := [(h0, .inr (0, [.ref c0, .ref w0, .int (nI k), .int (nI n), .long (pt_mk n), .int cl, .int su])), (c0, .inl (kc, 512, .inr (.inl fc))), (w0, .inl (kw, 512, .inr (.inl fv))), (o0, .inl (ko, 1, .inr (.inl fo)))]) [1, 2, 3, 0] (by decide) rfl
    refine W.eq (g2 := F0 m 13 ls [.ref q]) rfl ?_
    refine lv_astore (lv' := [(6, .ref q), (0, .ref h0), (1, .long a), (3, .long b), (5, .ref o0)]) hx hb dL_free_13 hl (by decide) rfl (fun ls hl => ?_)
    refine lv_iconst (v := 1) hx hb dL_free_15 (by decide) ?_
    rw [← hQ]
    refine W.widen (k := 1) (n := 6) (by omega) (by omega) ?_
    exact W.iret (v := 1) hx hb hr (fun t ht hW => ⟨⟨1, fo, rfl, Or.inl ⟨hst, rfl⟩, by rw [ht]; exact hP, va_K.moved hW.alike hK, hD⟩, hS.F ht⟩) hS.2.2 dL_free_16
  refine vp_callSl (W.runV (As := [.long a, .long b]) (rest := [.int 0, .ref o0]) ⟨hx, hb, hml, hown, hts⟩ (c_free l dC dI h0 c0 w0 kc kw k n fc fv cl su a b hst hk) (cwV 2 hts (pt_gV pw119 pw120 pw121 pw17 pw122) rfl rfl rfl (by decide +kernel) ⟨Nat.le_of_ble_eq_true rfl, Nat.le_of_ble_eq_true rfl⟩) ⟨fun a U g mk q => by obtain ⟨q0, qP, qK⟩ := q; exact ⟨q0, qP, va_K.moved (u := U) (U := U.calling g mk a) (Vm.Alike.refl U.vm) qK⟩, va_recv hK hP (ci := 0) (q0 := 0) rfl rfl, fun U hU hW => ⟨rfl, by rw [hU]; exact (hP.sub (ws' := [(h0, .inr (0, [.ref c0, .ref w0, .int (nI k), .int (nI n), .long (pt_mk n), .int cl, .int su])), (c0, .inl (kc, 512, .inr (.inl fc))), (w0, .inl (kw, 512, .inr (.inl fv)))]) [0, 1, 2] rfl), va_K.moved hW.alike (hK.sub (tys' := [(kc, .long), (kw, .long)]) [0, 1] rfl)⟩⟩ rfl rfl hl.1 rfl (lv_room (Nat.le_of_ble_eq_true rfl)) dL_free_6 ⟨Nat.zero_le _, Nat.zero_le _⟩) (fun r1 hw => ?_)
  refine va_last hx hb hK hP hD hS 3 2 rfl rfl (vp_in_nI (n := 0) (by decide) (by decide)) dL_free_9 (fun H locs hP hD hS => ?_)
  rw [show Int32.toNatClampNeg 0 = 0 by decide] at hP hD
  have hP : va_P (dC, dI) vwCl [(h0, .inr (0, [.ref c0, .ref w0, .int (nI k), .int (nI n), .long (pt_mk n), .int cl, .int su])), (c0, .inl (kc, 512, .inr (.inl fc))), (w0, .inl (kw, 512, .inr (.inl fv))), (o0, .inl (ko, 1, .inr (.inl (vp_updL fo 0 r1))))] H := hP
  have hD : va_D A [(h0, .inr (0, [.ref c0, .ref w0, .int (nI k), .int (nI n), .long (pt_mk n), .int cl, .int su])), (c0, .inl (kc, 512, .inr (.inl fc))), (w0, .inl (kw, 512, .inr (.inl fv))), (o0, .inl (ko, 1, .inr (.inl (vp_updL fo 0 r1))))] := hD
  refine lv_goto (tgt := 17) hx hb dL_free_10 (by decide) ?_
  refine lv_iconst (v := 0) hx hb dL_free_17 (by decide) ?_
  rw [← hQ]
  refine W.widen (k := 1) (n := 6) (by omega) (by omega) ?_
  exact W.iret (v := 0) hx hb hr (fun t ht hW => ⟨⟨0, vp_updL fo 0 r1, rfl, Or.inr ⟨hst, rfl, pk_uLs.trans hw⟩, by rw [ht]; exact hP, va_K.moved hW.alike hK, hD⟩, hS.F ht⟩) hS.2.2 dL_free_18
set_option maxHeartbeats 4000000 in
set_option maxRecDepth 100000 in
/-- the law: next -/
theorem c_Lnext (l : Launch) (hl9 : l.stackTraces = false) (dC : Nat → ClassId) (dI : Nat → Nat → Nat) (s0 : State) (h0X : pt_X s0) (h0 c0 w0 : Nat) (kc kw : ClassId) (k n : Nat) (fc fv : Nat → Int64) (cl su : Int32) (o0 : Nat) (ko : ClassId) (fo : Nat → Int64) (a : Int64) (sz : Nat) (hk : k ≤ 512) (hn2 : n ≤ 64) : Met l yL_next wsL_next ({ frames := 7, cells := 1, slots := 6, locals := 124 }) (va_Pc [.ref h0, .long a, .ref o0] (fun U => U.heap.size = sz ∧ va_P (dC, dI) vwCl [(h0, .inr (0, [.ref c0, .ref w0, .int (nI k), .int (nI n), .long (pt_mk n), .int cl, .int su])), (c0, .inl (kc, 512, .inr (.inl fc))), (w0, .inl (kw, 512, .inr (.inl fv))), (o0, .inl (ko, 1, .inr (.inl fo)))] U.heap ∧ va_K (dC, dI) vwCl [(kc, .long), (kw, .long), (ko, .long)] U ∧ va_D (fun q => s0.heap.size ≤ q) [(h0, .inr (0, [.ref c0, .ref w0, .int (nI k), .int (nI n), .long (pt_mk n), .int cl, .int su])), (c0, .inl (kc, 512, .inr (.inl fc))), (w0, .inl (kw, 512, .inr (.inl fv))), (o0, .inl (ko, 1, .inr (.inl fo)))] ∧ pt_ext s0 U)) (va_Qi (fun (r : Int32) u => pt_Rnext k n fc fv a r (u 0)) (fun (u : Nat → Int64) (t : State) => match u with | fo2 => va_P (dC, dI) vwCl [(h0, .inr (0, [.ref c0, .ref w0, .int (nI k), .int (nI n), .long (pt_mk n), .int cl, .int su])), (c0, .inl (kc, 512, .inr (.inl fc))), (w0, .inl (kw, 512, .inr (.inl fv))), (o0, .inl (ko, 1, .inr (.inl fo2)))] t.heap ∧ va_K (dC, dI) vwCl [(kc, .long), (kw, .long), (ko, .long)] t ∧ va_D (va_A [(h0, .inr (0, [.ref c0, .ref w0, .int (nI k), .int (nI n), .long (pt_mk n), .int cl, .int su])), (c0, .inl (kc, 512, .inr (.inl fc))), (w0, .inl (kw, 512, .inr (.inl fv))), (o0, .inl (ko, 1, .inr (.inl fo)))] sz) [(h0, .inr (0, [.ref c0, .ref w0, .int (nI k), .int (nI n), .long (pt_mk n), .int cl, .int su])), (c0, .inl (kc, 512, .inr (.inl fc))), (w0, .inl (kw, 512, .inr (.inl fv))), (o0, .inl (ko, 1, .inr (.inl fo2)))]) (va_A [(h0, .inr (0, [.ref c0, .ref w0, .int (nI k), .int (nI n), .long (pt_mk n), .int cl, .int su])), (c0, .inl (kc, 512, .inr (.inl fc))), (w0, .inl (kw, 512, .inr (.inl fv))), (o0, .inl (ko, 1, .inr (.inl fo)))] sz)) 1 6 (va_A [(h0, .inr (0, [.ref c0, .ref w0, .int (nI k), .int (nI n), .long (pt_mk n), .int cl, .int su])), (c0, .inl (kc, 512, .inr (.inl fc))), (w0, .inl (kw, 512, .inr (.inl fv))), (o0, .inl (ko, 1, .inr (.inl fo)))] sz) := by
  refine va_MetW (hh := [(0, 8, 11, 28)]) (cc := cL_next) (maxL := 5) (ret := (some .int)) (by decide) rfl ?_
  intro p e s m args below meth c s₁ B hml hv
  obtain ⟨ha, hsz, hP, hK, hD0, hext⟩ := hv
  subst hsz
  have hx := B.exec
  have hb := B.bytes
  have hr := B.returns
  have hts := atoms_spec (ws := wsL_next) B.pre
  have hown : s.vm.findClass RL = some m.cls := findClass_of_methodNamed B.named
  have hlocks := B.notSynchronized
  have hl := lv_entry ([.ref h0, .long a, .ref o0]) (n := 5) (Nat.le_of_ble_eq_true rfl)
  refine W.eq (show entryFrame m args 5 = entryFrame m ([.ref h0, .long a, .ref o0] : List Value).toArray 5 by rw [ha]) ?_
  rw [lg_entry_eq]
  generalize (lg_sl ([.ref h0, .long a, .ref o0]) ++ List.replicate (5 - (lg_sl ([.ref h0, .long a, .ref o0])).length) Slot.unset).toArray = ls at hl ⊢
  have hl : lv_has ls 5 [(0, .ref h0), (1, .long a), (3, .ref o0)] := hl
  have htab : c.exceptionTable.toList = tableOf [(0, 8, 11, 28)] := pt_table B (hts _ List.mem_cons_self)
  have hD := hD0.self (sz := s.heap.size)
  have hAs : ∀ q : Nat, va_A [(h0, .inr (0, [.ref c0, .ref w0, .int (nI k), .int (nI n), .long (pt_mk n), .int cl, .int su])), (c0, .inl (kc, 512, .inr (.inl fc))), (w0, .inl (kw, 512, .inr (.inl fv))), (o0, .inl (ko, 1, .inr (.inl fo)))] s.heap.size q → s0.heap.size ≤ q := pt_As hD0 hext.2.1
  generalize hAe : va_A [(h0, .inr (0, [.ref c0, .ref w0, .int (nI k), .int (nI n), .long (pt_mk n), .int cl, .int su])), (c0, .inl (kc, 512, .inr (.inl fc))), (w0, .inl (kw, 512, .inr (.inl fv))), (o0, .inl (ko, 1, .inr (.inl fo)))] s.heap.size = A at hD hAs ⊢
  have hA : ∀ q : Nat, s.heap.size ≤ q → A q := fun q h => by rw [← hAe]; exact Or.inr h
  have hS : va_S A s.heap s.heap [] := va_S.rf
  have hP : va_P (dC, dI) vwCl [(h0, .inr (0, [.ref c0, .ref w0, .int (nI k), .int (nI n), .long (pt_mk n), .int cl, .int su])), (c0, .inl (kc, 512, .inr (.inl fc))), (w0, .inl (kw, 512, .inr (.inl fv))), (o0, .inl (ko, 1, .inr (.inl fo)))] s.heap := hP
  generalize hQ : MQ below (va_Qi (fun (r : Int32) u => pt_Rnext k n fc fv a r (u 0)) (fun (u : Nat → Int64) (t : State) => match u with | fo2 => va_P (dC, dI) vwCl [(h0, .inr (0, [.ref c0, .ref w0, .int (nI k), .int (nI n), .long (pt_mk n), .int cl, .int su])), (c0, .inl (kc, 512, .inr (.inl fc))), (w0, .inl (kw, 512, .inr (.inl fv))), (o0, .inl (ko, 1, .inr (.inl fo2)))] t.heap ∧ va_K (dC, dI) vwCl [(kc, .long), (kw, .long), (ko, .long)] t ∧ va_D A [(h0, .inr (0, [.ref c0, .ref w0, .int (nI k), .int (nI n), .long (pt_mk n), .int cl, .int su])), (c0, .inl (kc, 512, .inr (.inl fc))), (w0, .inl (kw, 512, .inr (.inl fv))), (o0, .inl (ko, 1, .inr (.inl fo2)))]) A) args s 1 6 A = Q
  refine lv_aload_n hx hb dL_next_0 rfl (lv_at hl 2 rfl) ?_
  refine lv_iconst (v := 0) hx hb dL_next_1 (by decide) ?_
  refine lv_aload_n hx hb dL_next_2 rfl (lv_at hl 0 rfl) ?_
  refine lv_lload_n hx hb dL_next_3 rfl (lv_at hl 1 rfl) ?_
  by_cases hfree : ∀ j, j < k → ¬ pt_sh (fc j) (fv j) (pt_mk n) (a &&& pt_mk n)
  · refine vp_callSl (W.runV (As := [.long a]) (rest := [.int 0, .ref o0]) ⟨hx, hb, hml, hown, hts⟩ (c_next_free l dC dI h0 c0 w0 kc kw k n fc fv cl su a hk hfree) (cwV 1 hts (pt_gV pw138 pw139 pw140 pw17 pw141) rfl rfl rfl (by decide +kernel) ⟨Nat.le_of_ble_eq_true rfl, Nat.le_of_ble_eq_true rfl⟩) ⟨fun a U g mk q => by obtain ⟨q0, qP, qK⟩ := q; exact ⟨q0, qP, va_K.moved (u := U) (U := U.calling g mk a) (Vm.Alike.refl U.vm) qK⟩, va_recv hK hP (ci := 0) (q0 := 0) rfl rfl, fun U hU hW => ⟨rfl, by rw [hU]; exact (hP.sub (ws' := [(h0, .inr (0, [.ref c0, .ref w0, .int (nI k), .int (nI n), .long (pt_mk n), .int cl, .int su])), (c0, .inl (kc, 512, .inr (.inl fc))), (w0, .inl (kw, 512, .inr (.inl fv)))]) [0, 1, 2] rfl), va_K.moved hW.alike (hK.sub (tys' := [(kc, .long), (kw, .long)]) [0, 1] rfl)⟩⟩ rfl rfl hl.1 rfl (lv_room (Nat.le_of_ble_eq_true rfl)) dL_next_4 ⟨Nat.zero_le _, Nat.zero_le _⟩) (fun r1 hw => ?_)
    refine va_last hx hb hK hP hD hS 3 2 rfl rfl (vp_in_nI (n := 0) (by decide) (by decide)) dL_next_7 (fun H locs hP hD hS => ?_)
    rw [show Int32.toNatClampNeg 0 = 0 by decide] at hP hD
    have hP : va_P (dC, dI) vwCl [(h0, .inr (0, [.ref c0, .ref w0, .int (nI k), .int (nI n), .long (pt_mk n), .int cl, .int su])), (c0, .inl (kc, 512, .inr (.inl fc))), (w0, .inl (kw, 512, .inr (.inl fv))), (o0, .inl (ko, 1, .inr (.inl (vp_updL fo 0 r1))))] H := hP
    have hD : va_D A [(h0, .inr (0, [.ref c0, .ref w0, .int (nI k), .int (nI n), .long (pt_mk n), .int cl, .int su])), (c0, .inl (kc, 512, .inr (.inl fc))), (w0, .inl (kw, 512, .inr (.inl fv))), (o0, .inl (ko, 1, .inr (.inl (vp_updL fo 0 r1))))] := hD
    refine lv_goto (tgt := 15) hx hb dL_next_8 (by decide) ?_
    refine lv_iconst (v := 0) hx hb dL_next_15 (by decide) ?_
    rw [← hQ]
    refine W.widen (k := 1) (n := 6) (by omega) (by omega) ?_
    exact W.iret (v := 0) hx hb hr (fun t ht hW => ⟨⟨0, vp_updL fo 0 r1, rfl, Or.inl ⟨hfree, rfl, pk_uLs.trans hw⟩, by rw [ht]; exact hP, va_K.moved hW.alike hK, hD⟩, hS.F ht⟩) hS.2.2 dL_next_16
  rcases pt_least_or (pt_N k n fc fv (a &&& pt_mk n)) n with ⟨i, hin, hit, hlow⟩ | hnone
  · refine vp_callSl (W.runV (As := [.long a]) (rest := [.int 0, .ref o0]) ⟨hx, hb, hml, hown, hts⟩ (c_next_at l dC dI h0 c0 w0 kc kw k n fc fv cl su a i hk hn2 hfree hin hit hlow) (cwV 1 hts (pt_gV pw138 pw139 pw140 pw17 pw141) rfl rfl rfl (by decide +kernel) ⟨Nat.le_of_ble_eq_true rfl, Nat.le_of_ble_eq_true rfl⟩) ⟨fun a U g mk q => by obtain ⟨q0, qP, qK⟩ := q; exact ⟨q0, qP, va_K.moved (u := U) (U := U.calling g mk a) (Vm.Alike.refl U.vm) qK⟩, va_recv hK hP (ci := 0) (q0 := 0) rfl rfl, fun U hU hW => ⟨rfl, by rw [hU]; exact (hP.sub (ws' := [(h0, .inr (0, [.ref c0, .ref w0, .int (nI k), .int (nI n), .long (pt_mk n), .int cl, .int su])), (c0, .inl (kc, 512, .inr (.inl fc))), (w0, .inl (kw, 512, .inr (.inl fv)))]) [0, 1, 2] rfl), va_K.moved hW.alike (hK.sub (tys' := [(kc, .long), (kw, .long)]) [0, 1] rfl)⟩⟩ rfl rfl hl.1 rfl (lv_room (Nat.le_of_ble_eq_true rfl)) dL_next_4 ⟨Nat.zero_le _, Nat.zero_le _⟩) (fun r2 hw => ?_)
    refine va_last hx hb hK hP hD hS 3 2 rfl rfl (vp_in_nI (n := 0) (by decide) (by decide)) dL_next_7 (fun H locs hP hD hS => ?_)
    rw [show Int32.toNatClampNeg 0 = 0 by decide] at hP hD
    have hP : va_P (dC, dI) vwCl [(h0, .inr (0, [.ref c0, .ref w0, .int (nI k), .int (nI n), .long (pt_mk n), .int cl, .int su])), (c0, .inl (kc, 512, .inr (.inl fc))), (w0, .inl (kw, 512, .inr (.inl fv))), (o0, .inl (ko, 1, .inr (.inl (vp_updL fo 0 r2))))] H := hP
    have hD : va_D A [(h0, .inr (0, [.ref c0, .ref w0, .int (nI k), .int (nI n), .long (pt_mk n), .int cl, .int su])), (c0, .inl (kc, 512, .inr (.inl fc))), (w0, .inl (kw, 512, .inr (.inl fv))), (o0, .inl (ko, 1, .inr (.inl (vp_updL fo 0 r2))))] := hD
    refine lv_goto (tgt := 15) hx hb dL_next_8 (by decide) ?_
    refine lv_iconst (v := 0) hx hb dL_next_15 (by decide) ?_
    rw [← hQ]
    refine W.widen (k := 1) (n := 6) (by omega) (by omega) ?_
    exact W.iret (v := 0) hx hb hr (fun t ht hW => ⟨⟨0, vp_updL fo 0 r2, rfl, Or.inr ⟨hfree, Or.inl ⟨i, hin, hit, hlow, rfl, pk_uLs.trans hw⟩⟩, by rw [ht]; exact hP, va_K.moved hW.alike hK, hD⟩, hS.F ht⟩) hS.2.2 dL_next_16
  · have hPc := hP.sub (ws' := [(h0, .inr (0, [.ref c0, .ref w0, .int (nI k), .int (nI n), .long (pt_mk n), .int cl, .int su])), (c0, .inl (kc, 512, .inr (.inl fc))), (w0, .inl (kw, 512, .inr (.inl fv)))]) [0, 1, 2] rfl
    have hDc := hD.sub (ws' := [(h0, .inr (0, [.ref c0, .ref w0, .int (nI k), .int (nI n), .long (pt_mk n), .int cl, .int su])), (c0, .inl (kc, 512, .inr (.inl fc))), (w0, .inl (kw, 512, .inr (.inl fv)))]) [0, 1, 2] (by decide) rfl
    have hKc := hK.sub (tys' := [(kc, .long), (kw, .long)]) [0, 1] rfl
    have hFc := va_free (wc := [(h0, .inr (0, [.ref c0, .ref w0, .int (nI k), .int (nI n), .long (pt_mk n), .int cl, .int su])), (c0, .inl (kc, 512, .inr (.inl fc))), (w0, .inl (kw, 512, .inr (.inl fv)))]) hD hS hA [0, 1, 2] rfl
    refine pt_catch (own := RL) (name := "java/util/NoSuchElementException") (pt_runT (As := [.long a]) (rest := [.int 0, .ref o0]) ⟨hx, hb, hml, hown, hts⟩ (t_next l hl9 dC dI s0 h0X h0 c0 w0 kc kw k n fc fv cl su a s.heap.size hk hn2 hfree hnone) (cwV 1 hts (pt_gV pw138 pw139 pw140 pw17 pw141) rfl rfl rfl (by decide +kernel) ⟨Nat.le_of_ble_eq_true rfl, Nat.le_of_ble_eq_true rfl⟩) ⟨fun a U g mk q => by obtain ⟨q0, q1, qP, qK, qD, qX⟩ := q; exact ⟨q0, q1, qP, va_K.moved (u := U) (U := U.calling g mk a) (Vm.Alike.refl U.vm) qK, qD, qX⟩, va_recv hK hP (ci := 0) (q0 := 0) rfl rfl, fun U hU hW => ⟨rfl, by rw [hU], by rw [hU]; exact hPc, va_K.moved hW.alike hKc, hDc.weaken (fun _ _ _ h => hAs _ h), hext.on2 hS hAs hU hW⟩⟩ rfl rfl hl.1 rfl (lv_room (Nat.le_of_ble_eq_true rfl)) dL_next_4 ⟨by decide, by decide⟩) hown [] ⟨0, 8, 11, 28⟩ [] (by rw [htab]; rfl) (fun z hz => nomatch hz) (by decide) (by decide) (hts _ (List.mem_cons_of_mem _ pw99)) (pt_X_at h0X hext (.castable "java/util/NoSuchElementException" "java/util/NoSuchElementException") (by decide) _) (fun q st t H1 L h1 h2 h3 h4 hq hL => ?_)
    obtain ⟨hP1, hK1, hD1, hF1⟩ := hq
    rw [h3] at hP1
    obtain ⟨hS, hz1, hk1⟩ := pt_S_call hS hFc h1 h3 hF1 hL
    obtain ⟨hP, hD⟩ := va_join (wr := [(o0, .inl (ko, 1, .inr (.inl fo)))]) (w1 := [(h0, .inr (0, [.ref c0, .ref w0, .int (nI k), .int (nI n), .long (pt_mk n), .int cl, .int su])), (c0, .inl (kc, 512, .inr (.inl fc))), (w0, .inl (kw, 512, .inr (.inl fv)))]) hP hD [0, 1, 2] [3] rfl rfl (by decide) (by decide) hk1 hFc hP1 hD1
    generalize H1 = H at hP hS ⊢
    have hP := hP.sub (ws' := [(h0, .inr (0, [.ref c0, .ref w0, .int (nI k), .int (nI n), .long (pt_mk n), .int cl, .int su])), (c0, .inl (kc, 512, .inr (.inl fc))), (w0, .inl (kw, 512, .inr (.inl fv))), (o0, .inl (ko, 1, .inr (.inl fo)))]) [1, 2, 3, 0] rfl
    have hD := hD.sub (ws' := [(h0, .inr (0, [.ref c0, .ref w0, .int (nI k), .int (nI n), .long (pt_mk n), .int cl, .int su])), (c0, .inl (kc, 512, .inr (.inl fc))), (w0, .inl (kw, 512, .inr (.inl fv))), (o0, .inl (ko, 1, .inr (.inl fo)))]) [1, 2, 3, 0] (by decide) rfl
    refine W.eq (g2 := F0 m 11 ls [.ref q]) rfl ?_
    refine lv_astore (lv' := [(4, .ref q), (0, .ref h0), (1, .long a), (3, .ref o0)]) hx hb dL_next_11 hl (by decide) rfl (fun ls hl => ?_)
    refine lv_iconst (v := 1) hx hb dL_next_13 (by decide) ?_
    rw [← hQ]
    refine W.widen (k := 1) (n := 6) (by omega) (by omega) ?_
    exact W.iret (v := 1) hx hb hr (fun t ht hW => ⟨⟨1, fo, rfl, Or.inr ⟨hfree, Or.inr ⟨hnone, rfl⟩⟩, by rw [ht]; exact hP, va_K.moved hW.alike hK, hD⟩, hS.F ht⟩) hS.2.2 dL_next_14
set_option maxHeartbeats 4000000 in
set_option maxRecDepth 100000 in
/-- the law: told -/
theorem c_Ltold (l : Launch) (hl9 : l.stackTraces = false) (dC : Nat → ClassId) (dI : Nat → Nat → Nat) (s0 : State) (h0X : pt_X s0) (h0 c0 w0 : Nat) (kc kw : ClassId) (k n : Nat) (fc fv : Nat → Int64) (cl su : Int32) (o0 : Nat) (ko : ClassId) (fo : Nat → Int64) (y x : Int32) (sz : Nat) (hk : k ≤ 512) : Met l yL_told wsL_told ({ frames := 8, cells := 1, slots := 6, locals := 125 }) (va_Pc [.ref h0, .int y, .int x, .ref o0] (fun U => U.heap.size = sz ∧ va_P (dC, dI) vwCl [(h0, .inr (0, [.ref c0, .ref w0, .int (nI k), .int (nI n), .long (pt_mk n), .int cl, .int su])), (c0, .inl (kc, 512, .inr (.inl fc))), (w0, .inl (kw, 512, .inr (.inl fv))), (o0, .inl (ko, 1, .inr (.inl fo)))] U.heap ∧ va_K (dC, dI) vwCl [(kc, .long), (kw, .long), (ko, .long)] U ∧ va_D (fun q => s0.heap.size ≤ q) [(h0, .inr (0, [.ref c0, .ref w0, .int (nI k), .int (nI n), .long (pt_mk n), .int cl, .int su])), (c0, .inl (kc, 512, .inr (.inl fc))), (w0, .inl (kw, 512, .inr (.inl fv))), (o0, .inl (ko, 1, .inr (.inl fo)))] ∧ pt_ext s0 U)) (va_Qi (fun (r : Int32) u => pt_Rtold k n fc fv y x r (u 0)) (fun (u : Nat → Int64) (t : State) => match u with | fo2 => va_P (dC, dI) vwCl [(h0, .inr (0, [.ref c0, .ref w0, .int (nI k), .int (nI n), .long (pt_mk n), .int cl, .int su])), (c0, .inl (kc, 512, .inr (.inl fc))), (w0, .inl (kw, 512, .inr (.inl fv))), (o0, .inl (ko, 1, .inr (.inl fo2)))] t.heap ∧ va_K (dC, dI) vwCl [(kc, .long), (kw, .long), (ko, .long)] t ∧ va_D (va_A [(h0, .inr (0, [.ref c0, .ref w0, .int (nI k), .int (nI n), .long (pt_mk n), .int cl, .int su])), (c0, .inl (kc, 512, .inr (.inl fc))), (w0, .inl (kw, 512, .inr (.inl fv))), (o0, .inl (ko, 1, .inr (.inl fo)))] sz) [(h0, .inr (0, [.ref c0, .ref w0, .int (nI k), .int (nI n), .long (pt_mk n), .int cl, .int su])), (c0, .inl (kc, 512, .inr (.inl fc))), (w0, .inl (kw, 512, .inr (.inl fv))), (o0, .inl (ko, 1, .inr (.inl fo2)))]) (va_A [(h0, .inr (0, [.ref c0, .ref w0, .int (nI k), .int (nI n), .long (pt_mk n), .int cl, .int su])), (c0, .inl (kc, 512, .inr (.inl fc))), (w0, .inl (kw, 512, .inr (.inl fv))), (o0, .inl (ko, 1, .inr (.inl fo)))] sz)) 1 6 (va_A [(h0, .inr (0, [.ref c0, .ref w0, .int (nI k), .int (nI n), .long (pt_mk n), .int cl, .int su])), (c0, .inl (kc, 512, .inr (.inl fc))), (w0, .inl (kw, 512, .inr (.inl fv))), (o0, .inl (ko, 1, .inr (.inl fo)))] sz) := by
  refine va_MetW (hh := [(0, 9, 12, 13), (0, 9, 16, 28)]) (cc := cL_told) (maxL := 5) (ret := (some .int)) (by decide) rfl ?_
  intro p e s m args below meth c s₁ B hml hv
  obtain ⟨ha, hsz, hP, hK, hD0, hext⟩ := hv
  subst hsz
  have hx := B.exec
  have hb := B.bytes
  have hr := B.returns
  have hts := atoms_spec (ws := wsL_told) B.pre
  have hown : s.vm.findClass RL = some m.cls := findClass_of_methodNamed B.named
  have hlocks := B.notSynchronized
  have hl := lv_entry ([.ref h0, .int y, .int x, .ref o0]) (n := 5) (Nat.le_of_ble_eq_true rfl)
  refine W.eq (show entryFrame m args 5 = entryFrame m ([.ref h0, .int y, .int x, .ref o0] : List Value).toArray 5 by rw [ha]) ?_
  rw [lg_entry_eq]
  generalize (lg_sl ([.ref h0, .int y, .int x, .ref o0]) ++ List.replicate (5 - (lg_sl ([.ref h0, .int y, .int x, .ref o0])).length) Slot.unset).toArray = ls at hl ⊢
  have hl : lv_has ls 5 [(0, .ref h0), (1, .int y), (2, .int x), (3, .ref o0)] := hl
  have htab : c.exceptionTable.toList = tableOf [(0, 9, 12, 13), (0, 9, 16, 28)] := pt_table B (hts _ List.mem_cons_self)
  have hD := hD0.self (sz := s.heap.size)
  have hAs : ∀ q : Nat, va_A [(h0, .inr (0, [.ref c0, .ref w0, .int (nI k), .int (nI n), .long (pt_mk n), .int cl, .int su])), (c0, .inl (kc, 512, .inr (.inl fc))), (w0, .inl (kw, 512, .inr (.inl fv))), (o0, .inl (ko, 1, .inr (.inl fo)))] s.heap.size q → s0.heap.size ≤ q := pt_As hD0 hext.2.1
  generalize hAe : va_A [(h0, .inr (0, [.ref c0, .ref w0, .int (nI k), .int (nI n), .long (pt_mk n), .int cl, .int su])), (c0, .inl (kc, 512, .inr (.inl fc))), (w0, .inl (kw, 512, .inr (.inl fv))), (o0, .inl (ko, 1, .inr (.inl fo)))] s.heap.size = A at hD hAs ⊢
  have hA : ∀ q : Nat, s.heap.size ≤ q → A q := fun q h => by rw [← hAe]; exact Or.inr h
  have hS : va_S A s.heap s.heap [] := va_S.rf
  have hP : va_P (dC, dI) vwCl [(h0, .inr (0, [.ref c0, .ref w0, .int (nI k), .int (nI n), .long (pt_mk n), .int cl, .int su])), (c0, .inl (kc, 512, .inr (.inl fc))), (w0, .inl (kw, 512, .inr (.inl fv))), (o0, .inl (ko, 1, .inr (.inl fo)))] s.heap := hP
  generalize hQ : MQ below (va_Qi (fun (r : Int32) u => pt_Rtold k n fc fv y x r (u 0)) (fun (u : Nat → Int64) (t : State) => match u with | fo2 => va_P (dC, dI) vwCl [(h0, .inr (0, [.ref c0, .ref w0, .int (nI k), .int (nI n), .long (pt_mk n), .int cl, .int su])), (c0, .inl (kc, 512, .inr (.inl fc))), (w0, .inl (kw, 512, .inr (.inl fv))), (o0, .inl (ko, 1, .inr (.inl fo2)))] t.heap ∧ va_K (dC, dI) vwCl [(kc, .long), (kw, .long), (ko, .long)] t ∧ va_D A [(h0, .inr (0, [.ref c0, .ref w0, .int (nI k), .int (nI n), .long (pt_mk n), .int cl, .int su])), (c0, .inl (kc, 512, .inr (.inl fc))), (w0, .inl (kw, 512, .inr (.inl fv))), (o0, .inl (ko, 1, .inr (.inl fo2)))]) A) args s 1 6 A = Q
  refine lv_aload_n hx hb dL_told_0 rfl (lv_at hl 3 rfl) ?_
  refine lv_iconst (v := 0) hx hb dL_told_1 (by decide) ?_
  refine lv_aload_n hx hb dL_told_2 rfl (lv_at hl 0 rfl) ?_
  refine lv_iload_n hx hb dL_told_3 rfl (lv_at hl 1 rfl) ?_
  refine lv_iload_n hx hb dL_told_4 rfl (lv_at hl 2 rfl) ?_
  by_cases hbad : x < 0 ∨ ¬ x ≤ 2
  · have hPc := hP.sub (ws' := [(h0, .inr (0, [.ref c0, .ref w0, .int (nI k), .int (nI n), .long (pt_mk n), .int cl, .int su])), (c0, .inl (kc, 512, .inr (.inl fc))), (w0, .inl (kw, 512, .inr (.inl fv)))]) [0, 1, 2] rfl
    have hDc := hD.sub (ws' := [(h0, .inr (0, [.ref c0, .ref w0, .int (nI k), .int (nI n), .long (pt_mk n), .int cl, .int su])), (c0, .inl (kc, 512, .inr (.inl fc))), (w0, .inl (kw, 512, .inr (.inl fv)))]) [0, 1, 2] (by decide) rfl
    have hKc := hK.sub (tys' := [(kc, .long), (kw, .long)]) [0, 1] rfl
    have hFc := va_free (wc := [(h0, .inr (0, [.ref c0, .ref w0, .int (nI k), .int (nI n), .long (pt_mk n), .int cl, .int su])), (c0, .inl (kc, 512, .inr (.inl fc))), (w0, .inl (kw, 512, .inr (.inl fv)))]) hD hS hA [0, 1, 2] rfl
    refine pt_catch (own := RL) (name := "java/lang/IllegalArgumentException") (pt_runT (As := [.int y, .int x]) (rest := [.int 0, .ref o0]) ⟨hx, hb, hml, hown, hts⟩ (t_told_bad l hl9 dC dI s0 h0X h0 c0 w0 kc kw k n fc fv cl su y x s.heap.size hbad) (cwV 2 hts (pt_gV pw151 pw152 pw153 pw17 pw154) rfl rfl rfl (by decide +kernel) ⟨Nat.le_of_ble_eq_true rfl, Nat.le_of_ble_eq_true rfl⟩) ⟨fun a U g mk q => by obtain ⟨q0, q1, qP, qK, qD, qX⟩ := q; exact ⟨q0, q1, qP, va_K.moved (u := U) (U := U.calling g mk a) (Vm.Alike.refl U.vm) qK, qD, qX⟩, va_recv hK hP (ci := 0) (q0 := 0) rfl rfl, fun U hU hW => ⟨rfl, by rw [hU], by rw [hU]; exact hPc, va_K.moved hW.alike hKc, hDc.weaken (fun _ _ _ h => hAs _ h), hext.on2 hS hAs hU hW⟩⟩ rfl rfl hl.1 rfl (lv_room (Nat.le_of_ble_eq_true rfl)) dL_told_5 ⟨by decide, by decide⟩) hown [] ⟨0, 9, 12, 13⟩ [⟨0, 9, 16, 28⟩] (by rw [htab]; rfl) (fun z hz => nomatch hz) (by decide) (by decide) (hts _ (List.mem_cons_of_mem _ pw61)) (pt_X_at h0X hext (.castable "java/lang/IllegalArgumentException" "java/lang/IllegalArgumentException") (by decide) _) (fun q st t H1 L h1 h2 h3 h4 hq hL => ?_)
    obtain ⟨hP1, hK1, hD1, hF1⟩ := hq
    rw [h3] at hP1
    obtain ⟨hS, hz1, hk1⟩ := pt_S_call hS hFc h1 h3 hF1 hL
    obtain ⟨hP, hD⟩ := va_join (wr := [(o0, .inl (ko, 1, .inr (.inl fo)))]) (w1 := [(h0, .inr (0, [.ref c0, .ref w0, .int (nI k), .int (nI n), .long (pt_mk n), .int cl, .int su])), (c0, .inl (kc, 512, .inr (.inl fc))), (w0, .inl (kw, 512, .inr (.inl fv)))]) hP hD [0, 1, 2] [3] rfl rfl (by decide) (by decide) hk1 hFc hP1 hD1
    generalize H1 = H at hP hS ⊢
    have hP := hP.sub (ws' := [(h0, .inr (0, [.ref c0, .ref w0, .int (nI k), .int (nI n), .long (pt_mk n), .int cl, .int su])), (c0, .inl (kc, 512, .inr (.inl fc))), (w0, .inl (kw, 512, .inr (.inl fv))), (o0, .inl (ko, 1, .inr (.inl fo)))]) [1, 2, 3, 0] rfl
    have hD := hD.sub (ws' := [(h0, .inr (0, [.ref c0, .ref w0, .int (nI k), .int (nI n), .long (pt_mk n), .int cl, .int su])), (c0, .inl (kc, 512, .inr (.inl fc))), (w0, .inl (kw, 512, .inr (.inl fv))), (o0, .inl (ko, 1, .inr (.inl fo)))]) [1, 2, 3, 0] (by decide) rfl
    refine W.eq (g2 := F0 m 12 ls [.ref q]) rfl ?_
    refine lv_astore (lv' := [(4, .ref q), (0, .ref h0), (1, .int y), (2, .int x), (3, .ref o0)]) hx hb dL_told_12 hl (by decide) rfl (fun ls hl => ?_)
    refine lv_iconst (v := 1) hx hb dL_told_14 (by decide) ?_
    rw [← hQ]
    refine W.widen (k := 1) (n := 6) (by omega) (by omega) ?_
    exact W.iret (v := 1) hx hb hr (fun t ht hW => ⟨⟨1, fo, rfl, Or.inl ⟨hbad, rfl⟩, by rw [ht]; exact hP, va_K.moved hW.alike hK, hD⟩, hS.F ht⟩) hS.2.2 dL_told_15
  have hw1 : ¬ x < 0 := fun z => hbad (Or.inl z)
  have hw2 : x ≤ 2 := Classical.not_not.mp fun z => hbad (Or.inr z)
  by_cases hab : y < 0 ∨ ¬ y < nI k
  · have hPc := hP.sub (ws' := [(h0, .inr (0, [.ref c0, .ref w0, .int (nI k), .int (nI n), .long (pt_mk n), .int cl, .int su])), (c0, .inl (kc, 512, .inr (.inl fc))), (w0, .inl (kw, 512, .inr (.inl fv)))]) [0, 1, 2] rfl
    have hDc := hD.sub (ws' := [(h0, .inr (0, [.ref c0, .ref w0, .int (nI k), .int (nI n), .long (pt_mk n), .int cl, .int su])), (c0, .inl (kc, 512, .inr (.inl fc))), (w0, .inl (kw, 512, .inr (.inl fv)))]) [0, 1, 2] (by decide) rfl
    have hKc := hK.sub (tys' := [(kc, .long), (kw, .long)]) [0, 1] rfl
    have hFc := va_free (wc := [(h0, .inr (0, [.ref c0, .ref w0, .int (nI k), .int (nI n), .long (pt_mk n), .int cl, .int su])), (c0, .inl (kc, 512, .inr (.inl fc))), (w0, .inl (kw, 512, .inr (.inl fv)))]) hD hS hA [0, 1, 2] rfl
    refine pt_catch (own := RL) (name := "java/util/NoSuchElementException") (pt_runT (As := [.int y, .int x]) (rest := [.int 0, .ref o0]) ⟨hx, hb, hml, hown, hts⟩ (t_told_abs l hl9 dC dI s0 h0X h0 c0 w0 kc kw k n fc fv cl su y x s.heap.size hw1 hw2 hab) (cwV 2 hts (pt_gV pw151 pw152 pw153 pw17 pw154) rfl rfl rfl (by decide +kernel) ⟨Nat.le_of_ble_eq_true rfl, Nat.le_of_ble_eq_true rfl⟩) ⟨fun a U g mk q => by obtain ⟨q0, q1, qP, qK, qD, qX⟩ := q; exact ⟨q0, q1, qP, va_K.moved (u := U) (U := U.calling g mk a) (Vm.Alike.refl U.vm) qK, qD, qX⟩, va_recv hK hP (ci := 0) (q0 := 0) rfl rfl, fun U hU hW => ⟨rfl, by rw [hU], by rw [hU]; exact hPc, va_K.moved hW.alike hKc, hDc.weaken (fun _ _ _ h => hAs _ h), hext.on2 hS hAs hU hW⟩⟩ rfl rfl hl.1 rfl (lv_room (Nat.le_of_ble_eq_true rfl)) dL_told_5 ⟨by decide, by decide⟩) hown [⟨0, 9, 12, 13⟩] ⟨0, 9, 16, 28⟩ [] (by rw [htab]; rfl) (fun z hz => by rw [List.mem_singleton] at hz; subst hz; exact ⟨by decide, "java/lang/IllegalArgumentException", (hts _ (List.mem_cons_of_mem _ pw61)), (h0X.2.2 "java/util/NoSuchElementException" "java/lang/IllegalArgumentException" (by decide)).moved hext.1.alike⟩) (by decide) (by decide) (hts _ (List.mem_cons_of_mem _ pw99)) (pt_X_at h0X hext (.castable "java/util/NoSuchElementException" "java/util/NoSuchElementException") (by decide) _) (fun q st t H1 L h1 h2 h3 h4 hq hL => ?_)
    obtain ⟨hP1, hK1, hD1, hF1⟩ := hq
    rw [h3] at hP1
    obtain ⟨hS, hz1, hk1⟩ := pt_S_call hS hFc h1 h3 hF1 hL
    obtain ⟨hP, hD⟩ := va_join (wr := [(o0, .inl (ko, 1, .inr (.inl fo)))]) (w1 := [(h0, .inr (0, [.ref c0, .ref w0, .int (nI k), .int (nI n), .long (pt_mk n), .int cl, .int su])), (c0, .inl (kc, 512, .inr (.inl fc))), (w0, .inl (kw, 512, .inr (.inl fv)))]) hP hD [0, 1, 2] [3] rfl rfl (by decide) (by decide) hk1 hFc hP1 hD1
    generalize H1 = H at hP hS ⊢
    have hP := hP.sub (ws' := [(h0, .inr (0, [.ref c0, .ref w0, .int (nI k), .int (nI n), .long (pt_mk n), .int cl, .int su])), (c0, .inl (kc, 512, .inr (.inl fc))), (w0, .inl (kw, 512, .inr (.inl fv))), (o0, .inl (ko, 1, .inr (.inl fo)))]) [1, 2, 3, 0] rfl
    have hD := hD.sub (ws' := [(h0, .inr (0, [.ref c0, .ref w0, .int (nI k), .int (nI n), .long (pt_mk n), .int cl, .int su])), (c0, .inl (kc, 512, .inr (.inl fc))), (w0, .inl (kw, 512, .inr (.inl fv))), (o0, .inl (ko, 1, .inr (.inl fo)))]) [1, 2, 3, 0] (by decide) rfl
    refine W.eq (g2 := F0 m 16 ls [.ref q]) rfl ?_
    refine lv_astore (lv' := [(4, .ref q), (0, .ref h0), (1, .int y), (2, .int x), (3, .ref o0)]) hx hb dL_told_16 hl (by decide) rfl (fun ls hl => ?_)
    refine lv_iconst (v := 2) hx hb dL_told_18 (by decide) ?_
    rw [← hQ]
    refine W.widen (k := 1) (n := 6) (by omega) (by omega) ?_
    exact W.iret (v := 2) hx hb hr (fun t ht hW => ⟨⟨2, fo, rfl, Or.inr (Or.inl ⟨hw1, hw2, hab, rfl⟩), by rw [ht]; exact hP, va_K.moved hW.alike hK, hD⟩, hS.F ht⟩) hS.2.2 dL_told_19
  obtain ⟨i, hi, rfl⟩ := pt_at hk (fun z => hab (Or.inl z)) (Classical.not_not.mp fun z => hab (Or.inr z))
  refine vp_callSl (W.runV (As := [.int (nI i), .int x]) (rest := [.int 0, .ref o0]) ⟨hx, hb, hml, hown, hts⟩ (c_told l dC dI h0 c0 w0 kc kw k n fc fv cl su i x hw1 hw2 hi hk) (cwV 2 hts (pt_gV pw151 pw152 pw153 pw17 pw154) rfl rfl rfl (by decide +kernel) ⟨Nat.le_of_ble_eq_true rfl, Nat.le_of_ble_eq_true rfl⟩) ⟨fun a U g mk q => by obtain ⟨q0, qP, qK⟩ := q; exact ⟨q0, qP, va_K.moved (u := U) (U := U.calling g mk a) (Vm.Alike.refl U.vm) qK⟩, va_recv hK hP (ci := 0) (q0 := 0) rfl rfl, fun U hU hW => ⟨rfl, by rw [hU]; exact (hP.sub (ws' := [(h0, .inr (0, [.ref c0, .ref w0, .int (nI k), .int (nI n), .long (pt_mk n), .int cl, .int su])), (c0, .inl (kc, 512, .inr (.inl fc))), (w0, .inl (kw, 512, .inr (.inl fv)))]) [0, 1, 2] rfl), va_K.moved hW.alike (hK.sub (tys' := [(kc, .long), (kw, .long)]) [0, 1] rfl)⟩⟩ rfl rfl hl.1 rfl (lv_room (Nat.le_of_ble_eq_true rfl)) dL_told_5 ⟨Nat.zero_le _, Nat.zero_le _⟩) (fun r1 hw => ?_)
  refine va_last hx hb hK hP hD hS 3 2 rfl rfl (vp_in_nI (n := 0) (by decide) (by decide)) dL_told_8 (fun H locs hP hD hS => ?_)
  rw [show Int32.toNatClampNeg 0 = 0 by decide] at hP hD
  have hP : va_P (dC, dI) vwCl [(h0, .inr (0, [.ref c0, .ref w0, .int (nI k), .int (nI n), .long (pt_mk n), .int cl, .int su])), (c0, .inl (kc, 512, .inr (.inl fc))), (w0, .inl (kw, 512, .inr (.inl fv))), (o0, .inl (ko, 1, .inr (.inl (vp_updL fo 0 r1))))] H := hP
  have hD : va_D A [(h0, .inr (0, [.ref c0, .ref w0, .int (nI k), .int (nI n), .long (pt_mk n), .int cl, .int su])), (c0, .inl (kc, 512, .inr (.inl fc))), (w0, .inl (kw, 512, .inr (.inl fv))), (o0, .inl (ko, 1, .inr (.inl (vp_updL fo 0 r1))))] := hD
  refine lv_goto (tgt := 20) hx hb dL_told_9 (by decide) ?_
  refine lv_iconst (v := 0) hx hb dL_told_20 (by decide) ?_
  rw [← hQ]
  refine W.widen (k := 1) (n := 6) (by omega) (by omega) ?_
  exact W.iret (v := 0) hx hb hr (fun t ht hW => ⟨⟨0, vp_updL fo 0 r1, rfl, Or.inr (Or.inr ⟨i, hi, rfl, hw1, hw2, rfl, pk_uLs.trans hw⟩), by rw [ht]; exact hP, va_K.moved hW.alike hK, hD⟩, hS.F ht⟩) hS.2.2 dL_told_21
end
