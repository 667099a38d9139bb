section
-- ===== PART A: goes FIRST, ahead of the names: the tables' words, and 'selects' of the private methods out of them =====
/-- a private method of a class that the tables say can be made, by its rows of tables_1 -/
def lw_okq (q : MethodName × Nat) : Prop := (q.1.cls ≠ "java/lang/invoke/MethodHandle" ∧ q.1.cls ≠ "java/lang/invoke/VarHandle") ∧ Cond.instantiable q.1.cls q.2 ∈ tables_1 ∧ Cond.privateMethod q.1 ∈ tables_1 ∧ Cond.instanceMethod q.1 ∈ tables_1
theorem lw_p0 : lw_okq (⟨"PatternTree", "sharesWord", "(IJJ)Z"⟩, 7) := ⟨⟨by decide +kernel, by decide +kernel⟩, List.mem_of_getElem? (i := 11) (by decide +kernel), List.mem_of_getElem? (i := 50) (by decide +kernel), List.mem_of_getElem? (i := 51) (by decide +kernel)⟩
theorem lw_p1 : lw_okq (⟨"java/lang/Throwable", "fillInStackTrace", "(I)Ljava/lang/Throwable;"⟩, 6) := ⟨⟨by decide +kernel, by decide +kernel⟩, List.mem_of_getElem? (i := 104) (by decide +kernel), List.mem_of_getElem? (i := 102) (by decide +kernel), List.mem_of_getElem? (i := 103) (by decide +kernel)⟩
theorem lw_p2 : lw_okq (⟨"PatternTree", "refuseStrayWant", "(JJ)V"⟩, 7) := ⟨⟨by decide +kernel, by decide +kernel⟩, List.mem_of_getElem? (i := 11) (by decide +kernel), List.mem_of_getElem? (i := 142) (by decide +kernel), List.mem_of_getElem? (i := 143) (by decide +kernel)⟩
theorem lw_p3 : lw_okq (⟨"PatternTree", "append", "(JJ)I"⟩, 7) := ⟨⟨by decide +kernel, by decide +kernel⟩, List.mem_of_getElem? (i := 11) (by decide +kernel), List.mem_of_getElem? (i := 147) (by decide +kernel), List.mem_of_getElem? (i := 148) (by decide +kernel)⟩
theorem lw_p4 : lw_okq (⟨"PatternTree", "firstSharing", "(JJ)I"⟩, 7) := ⟨⟨by decide +kernel, by decide +kernel⟩, List.mem_of_getElem? (i := 11) (by decide +kernel), List.mem_of_getElem? (i := 167) (by decide +kernel), List.mem_of_getElem? (i := 168) (by decide +kernel)⟩
theorem lw_p5 : lw_okq (⟨"PatternTree", "refuseAbsent", "(I)V"⟩, 7) := ⟨⟨by decide +kernel, by decide +kernel⟩, List.mem_of_getElem? (i := 11) (by decide +kernel), List.mem_of_getElem? (i := 190) (by decide +kernel), List.mem_of_getElem? (i := 191) (by decide +kernel)⟩
theorem lw_p6 : lw_okq (⟨"PatternTree", "freeWords", "(JJ)J"⟩, 7) := ⟨⟨by decide +kernel, by decide +kernel⟩, List.mem_of_getElem? (i := 11) (by decide +kernel), List.mem_of_getElem? (i := 224) (by decide +kernel), List.mem_of_getElem? (i := 225) (by decide +kernel)⟩
theorem lw_p7 : lw_okq (⟨"PatternTree", "wordsOf", "(J)J"⟩, 7) := ⟨⟨by decide +kernel, by decide +kernel⟩, List.mem_of_getElem? (i := 11) (by decide +kernel), List.mem_of_getElem? (i := 228) (by decide +kernel), List.mem_of_getElem? (i := 229) (by decide +kernel)⟩
theorem lw_p8 : lw_okq (⟨"PatternTree", "bitsFrom", "(I)J"⟩, 7) := ⟨⟨by decide +kernel, by decide +kernel⟩, List.mem_of_getElem? (i := 11) (by decide +kernel), List.mem_of_getElem? (i := 245) (by decide +kernel), List.mem_of_getElem? (i := 246) (by decide +kernel)⟩
theorem lw_p9 : lw_okq (⟨"PatternTree", "leastFree", "(IJ)J"⟩, 7) := ⟨⟨by decide +kernel, by decide +kernel⟩, List.mem_of_getElem? (i := 11) (by decide +kernel), List.mem_of_getElem? (i := 249) (by decide +kernel), List.mem_of_getElem? (i := 250) (by decide +kernel)⟩
theorem lw_p10 : lw_okq (⟨"PatternTreeModel", "fail", "(I)I"⟩, 7) := ⟨⟨by decide +kernel, by decide +kernel⟩, List.mem_of_getElem? (i := 262) (by decide +kernel), List.mem_of_getElem? (i := 298) (by decide +kernel), List.mem_of_getElem? (i := 299) (by decide +kernel)⟩
theorem lw_p11 : lw_okq (⟨"PatternTreeModel", "wrong", "(JJ)Z"⟩, 7) := ⟨⟨by decide +kernel, by decide +kernel⟩, List.mem_of_getElem? (i := 262) (by decide +kernel), List.mem_of_getElem? (i := 306) (by decide +kernel), List.mem_of_getElem? (i := 307) (by decide +kernel)⟩
theorem lw_p12 : lw_okq (⟨"PatternTreeModel", "mask", "()J"⟩, 7) := ⟨⟨by decide +kernel, by decide +kernel⟩, List.mem_of_getElem? (i := 262) (by decide +kernel), List.mem_of_getElem? (i := 311) (by decide +kernel), List.mem_of_getElem? (i := 312) (by decide +kernel)⟩
theorem lw_p13 : lw_okq (⟨"PatternTreeModel", "first", "(JJ)I"⟩, 7) := ⟨⟨by decide +kernel, by decide +kernel⟩, List.mem_of_getElem? (i := 262) (by decide +kernel), List.mem_of_getElem? (i := 315) (by decide +kernel), List.mem_of_getElem? (i := 316) (by decide +kernel)⟩
theorem lw_p14 : lw_okq (⟨"PatternTreeModel", "meet", "(IJJ)Z"⟩, 7) := ⟨⟨by decide +kernel, by decide +kernel⟩, List.mem_of_getElem? (i := 262) (by decide +kernel), List.mem_of_getElem? (i := 319) (by decide +kernel), List.mem_of_getElem? (i := 320) (by decide +kernel)⟩
theorem lw_p15 : lw_okq (⟨"PatternTreeModel", "none", "(JJ)J"⟩, 7) := ⟨⟨by decide +kernel, by decide +kernel⟩, List.mem_of_getElem? (i := 262) (by decide +kernel), List.mem_of_getElem? (i := 346) (by decide +kernel), List.mem_of_getElem? (i := 347) (by decide +kernel)⟩
def lw_privs_1 : List (MethodName × Nat) := [(⟨"PatternTree", "sharesWord", "(IJJ)Z"⟩, 7), (⟨"java/lang/Throwable", "fillInStackTrace", "(I)Ljava/lang/Throwable;"⟩, 6), (⟨"PatternTree", "refuseStrayWant", "(JJ)V"⟩, 7), (⟨"PatternTree", "append", "(JJ)I"⟩, 7), (⟨"PatternTree", "firstSharing", "(JJ)I"⟩, 7), (⟨"PatternTree", "refuseAbsent", "(I)V"⟩, 7), (⟨"PatternTree", "freeWords", "(JJ)J"⟩, 7), (⟨"PatternTree", "wordsOf", "(J)J"⟩, 7), (⟨"PatternTree", "bitsFrom", "(I)J"⟩, 7), (⟨"PatternTree", "leastFree", "(IJ)J"⟩, 7), (⟨"PatternTreeModel", "fail", "(I)I"⟩, 7), (⟨"PatternTreeModel", "wrong", "(JJ)Z"⟩, 7), (⟨"PatternTreeModel", "mask", "()J"⟩, 7), (⟨"PatternTreeModel", "first", "(JJ)I"⟩, 7), (⟨"PatternTreeModel", "meet", "(IJJ)Z"⟩, 7), (⟨"PatternTreeModel", "none", "(JJ)J"⟩, 7)]
theorem lw_r1 : ∀ q ∈ lw_privs_1, lw_okq q := List.forall_mem_cons.mpr ⟨lw_p0, List.forall_mem_cons.mpr ⟨lw_p1, List.forall_mem_cons.mpr ⟨lw_p2, List.forall_mem_cons.mpr ⟨lw_p3, List.forall_mem_cons.mpr ⟨lw_p4, List.forall_mem_cons.mpr ⟨lw_p5, List.forall_mem_cons.mpr ⟨lw_p6, List.forall_mem_cons.mpr ⟨lw_p7, List.forall_mem_cons.mpr ⟨lw_p8, List.forall_mem_cons.mpr ⟨lw_p9, List.forall_mem_cons.mpr ⟨lw_p10, List.forall_mem_cons.mpr ⟨lw_p11, List.forall_mem_cons.mpr ⟨lw_p12, List.forall_mem_cons.mpr ⟨lw_p13, List.forall_mem_cons.mpr ⟨lw_p14, List.forall_mem_cons.mpr ⟨lw_p15, fun _ h => absurd h List.not_mem_nil⟩⟩⟩⟩⟩⟩⟩⟩⟩⟩⟩⟩⟩⟩⟩⟩
theorem lw_p16 : lw_okq (⟨"PatternTreeModel", "some", "(JJ)Z"⟩, 7) := ⟨⟨by decide +kernel, by decide +kernel⟩, List.mem_of_getElem? (i := 262) (by decide +kernel), List.mem_of_getElem? (i := 360) (by decide +kernel), List.mem_of_getElem? (i := 361) (by decide +kernel)⟩
def lw_privs_2 : List (MethodName × Nat) := [(⟨"PatternTreeModel", "some", "(JJ)Z"⟩, 7)]
theorem lw_r2 : ∀ q ∈ lw_privs_2, lw_okq q := List.forall_mem_cons.mpr ⟨lw_p16, fun _ h => absurd h List.not_mem_nil⟩
def lw_privs : List (MethodName × Nat) := lw_privs_1 ++ (lw_privs_2)
def lw_tbl : List Cond := k2_sels lw_privs ++ tables_1
theorem lw_privs_ok : ∀ q ∈ lw_privs, lw_okq q := by
  show ∀ q ∈ lw_privs_1 ++ (lw_privs_2), lw_okq q
  exact List.forall_mem_append.mpr ⟨lw_r1, lw_r2⟩
end
section
def RX0 : String := "PatternTree"
def RX1 : String := "PatternTreeModel"
def RL : String := "PatternTreeLaw"
def RJ : String := "java/lang/Long"
def TX0 : u_T := fun k => match k with
  | 0 => ("PatternTree", "cares", "[J", true)
  | 1 => ("PatternTree", "wants", "[J", true)
  | 2 => ("PatternTree", "size", "I", false)
  | 3 => ("PatternTree", "length", "I", false)
  | 4 => ("PatternTree", "mask", "J", false)
  | 5 => ("PatternTree", "clash", "I", false)
  | _ => ("PatternTree", "surplus", "I", false)
def tyX0 : Nat → FieldType := fun k => match k with
  | 0 => .array .long
  | 1 => .array .long
  | 2 => .int
  | 3 => .int
  | 4 => .long
  | 5 => .int
  | _ => .int
theorem nmX0 : ∀ a, a < 7 → ∀ b, b < 7 → a ≠ b → (TX0 a).2.1 ≠ (TX0 b).2.1 := by decide +kernel
theorem tyX0_ok : ∀ k, k < 7 → parseFieldDescriptor (TX0 k).2.2.1 = some (tyX0 k) := by decide +kernel
def TX1 : u_T := fun k => match k with
  | 0 => ("PatternTreeModel", "care", "[J", true)
  | 1 => ("PatternTreeModel", "want", "[J", true)
  | 2 => ("PatternTreeModel", "many", "I", false)
  | 3 => ("PatternTreeModel", "length", "I", false)
  | 4 => ("PatternTreeModel", "clash", "I", false)
  | 5 => ("PatternTreeModel", "beyond", "I", false)
  | _ => ("PatternTreeModel", "thrown", "I", false)
def tyX1 : Nat → FieldType := fun k => match k with
  | 0 => .array .long
  | 1 => .array .long
  | 2 => .int
  | 3 => .int
  | 4 => .int
  | 5 => .int
  | _ => .int
theorem nmX1 : ∀ a, a < 7 → ∀ b, b < 7 → a ≠ b → (TX1 a).2.1 ≠ (TX1 b).2.1 := by decide +kernel
theorem tyX1_ok : ∀ k, k < 7 → parseFieldDescriptor (TX1 k).2.2.1 = some (tyX1 k) := by decide +kernel
abbrev vwCl : List vw_C := [(RX0, TX0, 7), (RX1, TX1, 7)]
abbrev cX0_init : ByteArray := prog_1_method_1_code
def yX0_init : MethodName := ⟨RX0, "<init>", "()V"⟩
abbrev cX0_lowestBits : ByteArray := prog_1_method_21_code
def yX0_lowestBits : MethodName := ⟨RX0, "lowestBits", "(I)J"⟩
abbrev cX0_decode : ByteArray := prog_1_method_6_code
def yX0_decode : MethodName := ⟨RX0, "decode", "(J)I"⟩
abbrev cX0_sharesWord : ByteArray := prog_1_method_16_code
def yX0_sharesWord : MethodName := ⟨RX0, "sharesWord", "(IJJ)Z"⟩
abbrev cX0_count : ByteArray := prog_1_method_11_code
def yX0_count : MethodName := ⟨RX0, "count", "(I)I"⟩
abbrev cL_clear : ByteArray := method_3_code
def yL_clear : MethodName := ⟨RL, "clear", "(LPatternTree;I)I"⟩
abbrev cX0_clear : ByteArray := prog_1_method_2_code
def yX0_clear : MethodName := ⟨RX0, "clear", "(I)V"⟩
abbrev cL_add : ByteArray := method_4_code
def yL_add : MethodName := ⟨RL, "add", "(LPatternTree;JJ[J)I"⟩
abbrev cX0_add : ByteArray := prog_1_method_3_code
def yX0_add : MethodName := ⟨RX0, "add", "(JJ)I"⟩
abbrev cX0_refuseStrayWant : ByteArray := prog_1_method_12_code
def yX0_refuseStrayWant : MethodName := ⟨RX0, "refuseStrayWant", "(JJ)V"⟩
abbrev cX0_append : ByteArray := prog_1_method_14_code
def yX0_append : MethodName := ⟨RX0, "append", "(JJ)I"⟩
abbrev cX0_firstSharing : ByteArray := prog_1_method_15_code
def yX0_firstSharing : MethodName := ⟨RX0, "firstSharing", "(JJ)I"⟩
abbrev cL_signs : ByteArray := method_5_code
def yL_signs : MethodName := ⟨RL, "signs", "(LPatternTree;J[J)I"⟩
abbrev cX0_signs : ByteArray := prog_1_method_4_code
def yX0_signs : MethodName := ⟨RX0, "signs", "(J)I"⟩
abbrev cL_drop : ByteArray := method_6_code
def yL_drop : MethodName := ⟨RL, "drop", "(LPatternTree;I)I"⟩
abbrev cX0_drop : ByteArray := prog_1_method_5_code
def yX0_drop : MethodName := ⟨RX0, "drop", "(I)V"⟩
abbrev cX0_refuseAbsent : ByteArray := prog_1_method_13_code
def yX0_refuseAbsent : MethodName := ⟨RX0, "refuseAbsent", "(I)V"⟩
abbrev cL_meets : ByteArray := method_7_code
def yL_meets : MethodName := ⟨RL, "meets", "(LPatternTree;JJ[J)I"⟩
abbrev cX0_meets : ByteArray := prog_1_method_7_code
def yX0_meets : MethodName := ⟨RX0, "meets", "(JJ)I"⟩
abbrev cL_free : ByteArray := method_8_code
def yL_free : MethodName := ⟨RL, "free", "(LPatternTree;JJ[J)I"⟩
abbrev cX0_free : ByteArray := prog_1_method_8_code
def yX0_free : MethodName := ⟨RX0, "free", "(JJ)J"⟩
abbrev cX0_freeWords : ByteArray := prog_1_method_17_code
def yX0_freeWords : MethodName := ⟨RX0, "freeWords", "(JJ)J"⟩
abbrev cX0_wordsOf : ByteArray := prog_1_method_19_code
def yX0_wordsOf : MethodName := ⟨RX0, "wordsOf", "(J)J"⟩
abbrev cJ_bitCount : ByteArray := prog_7_method_50_code
def yJ_bitCount : MethodName := ⟨RJ, "bitCount", "(J)I"⟩
abbrev cL_next : ByteArray := method_9_code
def yL_next : MethodName := ⟨RL, "next", "(LPatternTree;J[J)I"⟩
abbrev cX0_next : ByteArray := prog_1_method_9_code
def yX0_next : MethodName := ⟨RX0, "next", "(J)J"⟩
abbrev cX0_bitsFrom : ByteArray := prog_1_method_20_code
def yX0_bitsFrom : MethodName := ⟨RX0, "bitsFrom", "(I)J"⟩
abbrev cX0_leastFree : ByteArray := prog_1_method_18_code
def yX0_leastFree : MethodName := ⟨RX0, "leastFree", "(IJ)J"⟩
abbrev cL_told : ByteArray := method_10_code
def yL_told : MethodName := ⟨RL, "told", "(LPatternTree;II[J)I"⟩
abbrev cX0_told : ByteArray := prog_1_method_10_code
def yX0_told : MethodName := ⟨RX0, "told", "(II)J"⟩
abbrev cX1_init : ByteArray := prog_3_method_1_code
def yX1_init : MethodName := ⟨RX1, "<init>", "()V"⟩
abbrev cX1_thrown : ByteArray := prog_3_method_2_code
def yX1_thrown : MethodName := ⟨RX1, "thrown", "()I"⟩
abbrev cX1_clear : ByteArray := prog_3_method_10_code
def yX1_clear : MethodName := ⟨RX1, "clear", "(I)V"⟩
abbrev cX1_fail : ByteArray := prog_3_method_3_code
def yX1_fail : MethodName := ⟨RX1, "fail", "(I)I"⟩
abbrev cX1_add : ByteArray := prog_3_method_11_code
def yX1_add : MethodName := ⟨RX1, "add", "(JJ)I"⟩
abbrev cX1_wrong : ByteArray := prog_3_method_7_code
def yX1_wrong : MethodName := ⟨RX1, "wrong", "(JJ)Z"⟩
abbrev cX1_mask : ByteArray := prog_3_method_4_code
def yX1_mask : MethodName := ⟨RX1, "mask", "()J"⟩
abbrev cX1_first : ByteArray := prog_3_method_9_code
def yX1_first : MethodName := ⟨RX1, "first", "(JJ)I"⟩
abbrev cX1_meet : ByteArray := prog_3_method_8_code
def yX1_meet : MethodName := ⟨RX1, "meet", "(IJJ)Z"⟩
abbrev cX1_signs : ByteArray := prog_3_method_12_code
def yX1_signs : MethodName := ⟨RX1, "signs", "(J)I"⟩
abbrev cX1_drop : ByteArray := prog_3_method_13_code
def yX1_drop : MethodName := ⟨RX1, "drop", "(I)V"⟩
abbrev cX1_decode : ByteArray := prog_3_method_14_code
def yX1_decode : MethodName := ⟨RX1, "decode", "(J)I"⟩
abbrev cX1_meets : ByteArray := prog_3_method_15_code
def yX1_meets : MethodName := ⟨RX1, "meets", "(JJ)I"⟩
abbrev cX1_free : ByteArray := prog_3_method_17_code
def yX1_free : MethodName := ⟨RX1, "free", "(JJ)J"⟩
abbrev cX1_none : ByteArray := prog_3_method_16_code
def yX1_none : MethodName := ⟨RX1, "none", "(JJ)J"⟩
abbrev cX1_bits : ByteArray := prog_3_method_5_code
def yX1_bits : MethodName := ⟨RX1, "bits", "(J)I"⟩
abbrev cX1_power : ByteArray := prog_3_method_6_code
def yX1_power : MethodName := ⟨RX1, "power", "(I)J"⟩
abbrev cX1_next : ByteArray := prog_3_method_19_code
def yX1_next : MethodName := ⟨RX1, "next", "(J)J"⟩
abbrev cX1_some : ByteArray := prog_3_method_18_code
def yX1_some : MethodName := ⟨RX1, "some", "(JJ)Z"⟩
abbrev cX1_told : ByteArray := prog_3_method_20_code
def yX1_told : MethodName := ⟨RX1, "told", "(II)J"⟩
abbrev cX1_count : ByteArray := prog_3_method_21_code
def yX1_count : MethodName := ⟨RX1, "count", "(I)I"⟩
abbrev cL_law : ByteArray := code
def yL_law : MethodName := ⟨RL, "law", "([I)Z"⟩
/-- the words that all methods here lean on -/
def pt_all : List Cond := [
  .selects RX0 yX0_sharesWord yX0_sharesWord,
  .selects RX0 yX0_refuseStrayWant yX0_refuseStrayWant,
  .selects RX0 yX0_append yX0_append,
  .selects RX0 yX0_firstSharing yX0_firstSharing,
  .selects RX0 yX0_refuseAbsent yX0_refuseAbsent,
  .selects RX0 yX0_freeWords yX0_freeWords,
  .selects RX0 yX0_wordsOf yX0_wordsOf,
  .selects RX0 yX0_bitsFrom yX0_bitsFrom,
  .selects RX0 yX0_leastFree yX0_leastFree,
  .selects RX1 yX1_fail yX1_fail,
  .selects RX1 yX1_wrong yX1_wrong,
  .selects RX1 yX1_mask yX1_mask,
  .selects RX1 yX1_first yX1_first,
  .selects RX1 yX1_meet yX1_meet,
  .selects RX1 yX1_none yX1_none,
  .selects RX1 yX1_some yX1_some,
  .initialized RL,
  .initialized RX0,
  .initialized RX1,
  .initialized RJ,
  .classLink RL 8 RX0,
  .instantiable RX0 7,
  .methodLink RL 45 yX0_init,
  .instanceMethod yX0_init,
  .code yX0_init cX0_init 1 none,
  .methodLink RX0 1 objectInit,
  .instanceMethod objectInit,
  .code objectInit object_method_1_code 1 none,
  .methodLink RX0 23 yX0_lowestBits,
  .static yX0_lowestBits,
  .code yX0_lowestBits cX0_lowestBits 1 (some .long),
  .constantLong RX0 93 (-1),
  .fieldLink RX0 9 "PatternTree" "cares" "[J",
  .fieldLink RX0 13 "PatternTree" "wants" "[J",
  .fieldLink RX0 16 "PatternTree" "size" "I",
  .fieldLink RX0 20 "PatternTree" "length" "I",
  .fieldLink RX0 27 "PatternTree" "mask" "J",
  .fieldLink RX0 31 "PatternTree" "clash" "I",
  .fieldLink RX0 34 "PatternTree" "surplus" "I",
  .laysFinal RX0 "PatternTree" "cares" "[J",
  .laysFinal RX0 "PatternTree" "wants" "[J",
  .lays RX0 "PatternTree" "size" "I",
  .lays RX0 "PatternTree" "length" "I",
  .lays RX0 "PatternTree" "mask" "J",
  .lays RX0 "PatternTree" "clash" "I",
  .lays RX0 "PatternTree" "surplus" "I",
  .arrayClass .long,
  .methodLink RL 72 yX0_decode,
  .instanceMethod yX0_decode,
  .selects RX0 yX0_decode yX0_decode,
  .code yX0_decode cX0_decode 5 (some .int),
  .methodLink RX0 62 yX0_sharesWord,
  .instanceMethod yX0_sharesWord,
  .code yX0_sharesWord cX0_sharesWord 6 (some .boolean),
  .methodLink RL 89 yX0_count,
  .instanceMethod yX0_count,
  .selects RX0 yX0_count yX0_count,
  .code yX0_count cX0_count 2 (some .int),
  .methodLink RL 49 yL_clear,
  .static yL_clear,
  .codeWith yL_clear cL_clear 3 (some .int) [(0, 5, 8, 13)],
  .classLink RL 13 "java/lang/IllegalArgumentException",
  .methodLink RL 7 yX0_clear,
  .instanceMethod yX0_clear,
  .selects RX0 yX0_clear yX0_clear,
  .code yX0_clear cX0_clear 2 none,
  .classLink RX0 37 "java/lang/IllegalArgumentException",
  .methodLink RX0 41 ⟨"java/lang/IllegalArgumentException", "<init>", "(Ljava/lang/String;)V"⟩,
  .methodLink RL 61 yL_add,
  .static yL_add,
  .codeWith yL_add cL_add 7 (some .int) [(0, 11, 14, 13), (0, 11, 18, 19)],
  .classLink RL 19 "java/lang/IllegalStateException",
  .methodLink RL 15 yX0_add,
  .instanceMethod yX0_add,
  .selects RX0 yX0_add yX0_add,
  .code yX0_add cX0_add 5 (some .int),
  .methodLink RX0 44 yX0_refuseStrayWant,
  .instanceMethod yX0_refuseStrayWant,
  .code yX0_refuseStrayWant cX0_refuseStrayWant 5 none,
  .methodLink RX0 48 yX0_append,
  .instanceMethod yX0_append,
  .code yX0_append cX0_append 6 (some .int),
  .classLink RX0 99 "java/lang/IllegalStateException",
  .methodLink RX0 103 ⟨"java/lang/IllegalStateException", "<init>", "(Ljava/lang/String;)V"⟩,
  .methodLink RX0 66 yX0_firstSharing,
  .instanceMethod yX0_firstSharing,
  .code yX0_firstSharing cX0_firstSharing 6 (some .int),
  .methodLink RL 65 yL_signs,
  .static yL_signs,
  .codeWith yL_signs cL_signs 5 (some .int) [(0, 9, 12, 13), (0, 9, 16, 19)],
  .methodLink RL 21 yX0_signs,
  .instanceMethod yX0_signs,
  .selects RX0 yX0_signs yX0_signs,
  .code yX0_signs cX0_signs 12 (some .int),
  .constantLong RX0 54 3,
  .constantLong RX0 56 2,
  .methodLink RL 69 yL_drop,
  .static yL_drop,
  .codeWith yL_drop cL_drop 3 (some .int) [(0, 5, 8, 28)],
  .classLink RL 28 "java/util/NoSuchElementException",
  .methodLink RL 25 yX0_drop,
  .instanceMethod yX0_drop,
  .selects RX0 yX0_drop yX0_drop,
  .code yX0_drop cX0_drop 3 none,
  .methodLink RX0 58 yX0_refuseAbsent,
  .instanceMethod yX0_refuseAbsent,
  .code yX0_refuseAbsent cX0_refuseAbsent 2 none,
  .classLink RX0 80 "java/util/NoSuchElementException",
  .methodLink RX0 84 ⟨"java/util/NoSuchElementException", "<init>", "(Ljava/lang/String;)V"⟩,
  .methodLink RL 76 yL_meets,
  .static yL_meets,
  .codeWith yL_meets cL_meets 7 (some .int) [(0, 11, 14, 13)],
  .methodLink RL 30 yX0_meets,
  .instanceMethod yX0_meets,
  .selects RX0 yX0_meets yX0_meets,
  .code yX0_meets cX0_meets 5 (some .int),
  .methodLink RL 79 yL_free,
  .static yL_free,
  .codeWith yL_free cL_free 7 (some .int) [(0, 10, 13, 13)],
  .methodLink RL 33 yX0_free,
  .instanceMethod yX0_free,
  .selects RX0 yX0_free yX0_free,
  .code yX0_free cX0_free 5 (some .long),
  .methodLink RX0 69 yX0_freeWords,
  .instanceMethod yX0_freeWords,
  .code yX0_freeWords cX0_freeWords 8 (some .long),
  .methodLink RX0 106 yX0_wordsOf,
  .instanceMethod yX0_wordsOf,
  .code yX0_wordsOf cX0_wordsOf 4 (some .long),
  .methodLink RX0 87 yJ_bitCount,
  .static yJ_bitCount,
  .code yJ_bitCount cJ_bitCount 2 (some .int),
  .constantLong RJ 314 6148914691236517205,
  .constantLong RJ 316 3689348814741910323,
  .constantLong RJ 318 1085102592571150095,
  .methodLink RL 82 yL_next,
  .static yL_next,
  .codeWith yL_next cL_next 5 (some .int) [(0, 8, 11, 28)],
  .methodLink RL 37 yX0_next,
  .instanceMethod yX0_next,
  .selects RX0 yX0_next yX0_next,
  .code yX0_next cX0_next 8 (some .long),
  .methodLink RX0 73 yX0_bitsFrom,
  .instanceMethod yX0_bitsFrom,
  .code yX0_bitsFrom cX0_bitsFrom 2 (some .long),
  .methodLink RX0 76 yX0_leastFree,
  .instanceMethod yX0_leastFree,
  .code yX0_leastFree cX0_leastFree 7 (some .long),
  .methodLink RL 85 yL_told,
  .static yL_told,
  .codeWith yL_told cL_told 5 (some .int) [(0, 9, 12, 13), (0, 9, 16, 28)],
  .methodLink RL 41 yX0_told,
  .instanceMethod yX0_told,
  .selects RX0 yX0_told yX0_told,
  .code yX0_told cX0_told 3 (some .long),
  .classLink RL 46 RX1,
  .instantiable RX1 7,
  .methodLink RL 48 yX1_init,
  .instanceMethod yX1_init,
  .code yX1_init cX1_init 1 none,
  .methodLink RX1 1 objectInit,
  .fieldLink RX1 7 "PatternTreeModel" "care" "[J",
  .fieldLink RX1 13 "PatternTreeModel" "want" "[J",
  .fieldLink RX1 32 "PatternTreeModel" "many" "I",
  .fieldLink RX1 16 "PatternTreeModel" "length" "I",
  .fieldLink RX1 20 "PatternTreeModel" "clash" "I",
  .fieldLink RX1 58 "PatternTreeModel" "beyond" "I",
  .fieldLink RX1 23 "PatternTreeModel" "thrown" "I",
  .laysFinal RX1 "PatternTreeModel" "care" "[J",
  .laysFinal RX1 "PatternTreeModel" "want" "[J",
  .lays RX1 "PatternTreeModel" "many" "I",
  .lays RX1 "PatternTreeModel" "length" "I",
  .lays RX1 "PatternTreeModel" "clash" "I",
  .lays RX1 "PatternTreeModel" "beyond" "I",
  .lays RX1 "PatternTreeModel" "thrown" "I",
  .methodLink RL 55 yX1_thrown,
  .instanceMethod yX1_thrown,
  .selects RX1 yX1_thrown yX1_thrown,
  .code yX1_thrown cX1_thrown 1 (some .int),
  .methodLink RL 54 yX1_clear,
  .instanceMethod yX1_clear,
  .selects RX1 yX1_clear yX1_clear,
  .code yX1_clear cX1_clear 2 none,
  .methodLink RX1 39 yX1_fail,
  .instanceMethod yX1_fail,
  .code yX1_fail cX1_fail 2 (some .int),
  .methodLink RL 64 yX1_add,
  .instanceMethod yX1_add,
  .selects RX1 yX1_add yX1_add,
  .code yX1_add cX1_add 6 (some .int),
  .methodLink RX1 43 yX1_wrong,
  .instanceMethod yX1_wrong,
  .code yX1_wrong cX1_wrong 5 (some .boolean),
  .constantLong RX1 26 (-1),
  .methodLink RX1 28 yX1_mask,
  .instanceMethod yX1_mask,
  .code yX1_mask cX1_mask 1 (some .long),
  .methodLink RX1 47 yX1_first,
  .instanceMethod yX1_first,
  .code yX1_first cX1_first 6 (some .int),
  .methodLink RX1 35 yX1_meet,
  .instanceMethod yX1_meet,
  .code yX1_meet cX1_meet 6 (some .boolean),
  .methodLink RL 68 yX1_signs,
  .instanceMethod yX1_signs,
  .selects RX1 yX1_signs yX1_signs,
  .code yX1_signs cX1_signs 12 (some .int),
  .constantLong RX1 51 3,
  .constantLong RX1 53 2,
  .methodLink RX1 55 yX1_add,
  .methodLink RL 71 yX1_drop,
  .instanceMethod yX1_drop,
  .selects RX1 yX1_drop yX1_drop,
  .code yX1_drop cX1_drop 3 none,
  .methodLink RL 75 yX1_decode,
  .instanceMethod yX1_decode,
  .selects RX1 yX1_decode yX1_decode,
  .code yX1_decode cX1_decode 6 (some .int),
  .methodLink RL 78 yX1_meets,
  .instanceMethod yX1_meets,
  .selects RX1 yX1_meets yX1_meets,
  .code yX1_meets cX1_meets 5 (some .int),
  .methodLink RL 81 yX1_free,
  .instanceMethod yX1_free,
  .selects RX1 yX1_free yX1_free,
  .code yX1_free cX1_free 5 (some .long),
  .methodLink RX1 69 yX1_none,
  .instanceMethod yX1_none,
  .code yX1_none cX1_none 8 (some .long),
  .methodLink RX1 61 yX1_bits,
  .static yX1_bits,
  .code yX1_bits cX1_bits 4 (some .int),
  .methodLink RX1 65 yX1_power,
  .static yX1_power,
  .code yX1_power cX1_power 1 (some .long),
  .methodLink RL 84 yX1_next,
  .instanceMethod yX1_next,
  .selects RX1 yX1_next yX1_next,
  .code yX1_next cX1_next 13 (some .long),
  .methodLink RX1 73 yX1_some,
  .instanceMethod yX1_some,
  .code yX1_some cX1_some 5 (some .boolean),
  .methodLink RL 88 yX1_told,
  .instanceMethod yX1_told,
  .selects RX1 yX1_told yX1_told,
  .code yX1_told cX1_told 3 (some .long),
  .methodLink RL 93 yX1_count,
  .instanceMethod yX1_count,
  .selects RX1 yX1_count yX1_count,
  .code yX1_count cX1_count 2 (some .int),
  .constantLong RL 59 4294967295]
set_option maxRecDepth 20000 in
theorem pt_all_in : GoodIn lw_tbl pt_all := goodIn_p pt_all [31, 34, 37, 65, 69, 73, 81, 157, 161, 166, 186, 194, 205, 209, 232, 239, 243, 247, 250, 260, 264, 268, 276, 282, 309, 313, 317, 321, 325, 330, 334, 338, 342, 349, 353, 357, 361, 365, 368, 371, 375, 379, 383, 387] (by decide +kernel) (by decide +kernel)
abbrev wsX0_init : List Cond := .code yX0_init cX0_init 1 none :: pt_all
abbrev wsX0_lowestBits : List Cond := .code yX0_lowestBits cX0_lowestBits 1 (some .long) :: pt_all
abbrev wsX0_decode : List Cond := .code yX0_decode cX0_decode 5 (some .int) :: pt_all
abbrev wsX0_sharesWord : List Cond := .code yX0_sharesWord cX0_sharesWord 6 (some .boolean) :: pt_all
abbrev wsX0_count : List Cond := .code yX0_count cX0_count 2 (some .int) :: pt_all
abbrev wsL_clear : List Cond := .codeWith yL_clear cL_clear 3 (some .int) [(0, 5, 8, 13)] :: pt_all
abbrev wsX0_clear : List Cond := .code yX0_clear cX0_clear 2 none :: pt_all
abbrev wsL_add : List Cond := .codeWith yL_add cL_add 7 (some .int) [(0, 11, 14, 13), (0, 11, 18, 19)] :: pt_all
abbrev wsX0_add : List Cond := .code yX0_add cX0_add 5 (some .int) :: pt_all
abbrev wsX0_refuseStrayWant : List Cond := .code yX0_refuseStrayWant cX0_refuseStrayWant 5 none :: pt_all
abbrev wsX0_append : List Cond := .code yX0_append cX0_append 6 (some .int) :: pt_all
abbrev wsX0_firstSharing : List Cond := .code yX0_firstSharing cX0_firstSharing 6 (some .int) :: pt_all
abbrev wsL_signs : List Cond := .codeWith yL_signs cL_signs 5 (some .int) [(0, 9, 12, 13), (0, 9, 16, 19)] :: pt_all
abbrev wsX0_signs : List Cond := .code yX0_signs cX0_signs 12 (some .int) :: pt_all
abbrev wsL_drop : List Cond := .codeWith yL_drop cL_drop 3 (some .int) [(0, 5, 8, 28)] :: pt_all
abbrev wsX0_drop : List Cond := .code yX0_drop cX0_drop 3 none :: pt_all
abbrev wsX0_refuseAbsent : List Cond := .code yX0_refuseAbsent cX0_refuseAbsent 2 none :: pt_all
abbrev wsL_meets : List Cond := .codeWith yL_meets cL_meets 7 (some .int) [(0, 11, 14, 13)] :: pt_all
abbrev wsX0_meets : List Cond := .code yX0_meets cX0_meets 5 (some .int) :: pt_all
abbrev wsL_free : List Cond := .codeWith yL_free cL_free 7 (some .int) [(0, 10, 13, 13)] :: pt_all
abbrev wsX0_free : List Cond := .code yX0_free cX0_free 5 (some .long) :: pt_all
abbrev wsX0_freeWords : List Cond := .code yX0_freeWords cX0_freeWords 8 (some .long) :: pt_all
abbrev wsX0_wordsOf : List Cond := .code yX0_wordsOf cX0_wordsOf 4 (some .long) :: pt_all
abbrev wsJ_bitCount : List Cond := .code yJ_bitCount cJ_bitCount 2 (some .int) :: pt_all
abbrev wsL_next : List Cond := .codeWith yL_next cL_next 5 (some .int) [(0, 8, 11, 28)] :: pt_all
abbrev wsX0_next : List Cond := .code yX0_next cX0_next 8 (some .long) :: pt_all
abbrev wsX0_bitsFrom : List Cond := .code yX0_bitsFrom cX0_bitsFrom 2 (some .long) :: pt_all
abbrev wsX0_leastFree : List Cond := .code yX0_leastFree cX0_leastFree 7 (some .long) :: pt_all
abbrev wsL_told : List Cond := .codeWith yL_told cL_told 5 (some .int) [(0, 9, 12, 13), (0, 9, 16, 28)] :: pt_all
abbrev wsX0_told : List Cond := .code yX0_told cX0_told 3 (some .long) :: pt_all
abbrev wsX1_init : List Cond := .code yX1_init cX1_init 1 none :: pt_all
abbrev wsX1_thrown : List Cond := .code yX1_thrown cX1_thrown 1 (some .int) :: pt_all
abbrev wsX1_clear : List Cond := .code yX1_clear cX1_clear 2 none :: pt_all
abbrev wsX1_fail : List Cond := .code yX1_fail cX1_fail 2 (some .int) :: pt_all
abbrev wsX1_add : List Cond := .code yX1_add cX1_add 6 (some .int) :: pt_all
abbrev wsX1_wrong : List Cond := .code yX1_wrong cX1_wrong 5 (some .boolean) :: pt_all
abbrev wsX1_mask : List Cond := .code yX1_mask cX1_mask 1 (some .long) :: pt_all
abbrev wsX1_first : List Cond := .code yX1_first cX1_first 6 (some .int) :: pt_all
abbrev wsX1_meet : List Cond := .code yX1_meet cX1_meet 6 (some .boolean) :: pt_all
abbrev wsX1_signs : List Cond := .code yX1_signs cX1_signs 12 (some .int) :: pt_all
abbrev wsX1_drop : List Cond := .code yX1_drop cX1_drop 3 none :: pt_all
abbrev wsX1_decode : List Cond := .code yX1_decode cX1_decode 6 (some .int) :: pt_all
abbrev wsX1_meets : List Cond := .code yX1_meets cX1_meets 5 (some .int) :: pt_all
abbrev wsX1_free : List Cond := .code yX1_free cX1_free 5 (some .long) :: pt_all
abbrev wsX1_none : List Cond := .code yX1_none cX1_none 8 (some .long) :: pt_all
abbrev wsX1_bits : List Cond := .code yX1_bits cX1_bits 4 (some .int) :: pt_all
abbrev wsX1_power : List Cond := .code yX1_power cX1_power 1 (some .long) :: pt_all
abbrev wsX1_next : List Cond := .code yX1_next cX1_next 13 (some .long) :: pt_all
abbrev wsX1_some : List Cond := .code yX1_some cX1_some 5 (some .boolean) :: pt_all
abbrev wsX1_told : List Cond := .code yX1_told cX1_told 3 (some .long) :: pt_all
abbrev wsX1_count : List Cond := .code yX1_count cX1_count 2 (some .int) :: pt_all
theorem pw0 : (.selects RX0 yX0_sharesWord yX0_sharesWord : Cond) ∈ pt_all := List.mem_of_getElem? (i := 0) rfl
theorem pw1 : (.selects RX0 yX0_refuseStrayWant yX0_refuseStrayWant : Cond) ∈ pt_all := List.mem_of_getElem? (i := 1) rfl
theorem pw2 : (.selects RX0 yX0_append yX0_append : Cond) ∈ pt_all := List.mem_of_getElem? (i := 2) rfl
theorem pw3 : (.selects RX0 yX0_firstSharing yX0_firstSharing : Cond) ∈ pt_all := List.mem_of_getElem? (i := 3) rfl
theorem pw4 : (.selects RX0 yX0_refuseAbsent yX0_refuseAbsent : Cond) ∈ pt_all := List.mem_of_getElem? (i := 4) rfl
theorem pw5 : (.selects RX0 yX0_freeWords yX0_freeWords : Cond) ∈ pt_all := List.mem_of_getElem? (i := 5) rfl
theorem pw6 : (.selects RX0 yX0_wordsOf yX0_wordsOf : Cond) ∈ pt_all := List.mem_of_getElem? (i := 6) rfl
theorem pw7 : (.selects RX0 yX0_bitsFrom yX0_bitsFrom : Cond) ∈ pt_all := List.mem_of_getElem? (i := 7) rfl
theorem pw8 : (.selects RX0 yX0_leastFree yX0_leastFree : Cond) ∈ pt_all := List.mem_of_getElem? (i := 8) rfl
theorem pw9 : (.selects RX1 yX1_fail yX1_fail : Cond) ∈ pt_all := List.mem_of_getElem? (i := 9) rfl
theorem pw10 : (.selects RX1 yX1_wrong yX1_wrong : Cond) ∈ pt_all := List.mem_of_getElem? (i := 10) rfl
theorem pw11 : (.selects RX1 yX1_mask yX1_mask : Cond) ∈ pt_all := List.mem_of_getElem? (i := 11) rfl
theorem pw12 : (.selects RX1 yX1_first yX1_first : Cond) ∈ pt_all := List.mem_of_getElem? (i := 12) rfl
theorem pw13 : (.selects RX1 yX1_meet yX1_meet : Cond) ∈ pt_all := List.mem_of_getElem? (i := 13) rfl
theorem pw14 : (.selects RX1 yX1_none yX1_none : Cond) ∈ pt_all := List.mem_of_getElem? (i := 14) rfl
theorem pw15 : (.selects RX1 yX1_some yX1_some : Cond) ∈ pt_all := List.mem_of_getElem? (i := 15) rfl
theorem pw16 : (.initialized RL : Cond) ∈ pt_all := List.mem_of_getElem? (i := 16) rfl
theorem pw17 : (.initialized RX0 : Cond) ∈ pt_all := List.mem_of_getElem? (i := 17) rfl
theorem pw18 : (.initialized RX1 : Cond) ∈ pt_all := List.mem_of_getElem? (i := 18) rfl
theorem pw19 : (.initialized RJ : Cond) ∈ pt_all := List.mem_of_getElem? (i := 19) rfl
theorem pw20 : (.classLink RL 8 RX0 : Cond) ∈ pt_all := List.mem_of_getElem? (i := 20) rfl
theorem pw21 : (.instantiable RX0 7 : Cond) ∈ pt_all := List.mem_of_getElem? (i := 21) rfl
theorem pw22 : (.methodLink RL 45 yX0_init : Cond) ∈ pt_all := List.mem_of_getElem? (i := 22) rfl
theorem pw23 : (.instanceMethod yX0_init : Cond) ∈ pt_all := List.mem_of_getElem? (i := 23) rfl
theorem pw24 : (.code yX0_init cX0_init 1 none : Cond) ∈ pt_all := List.mem_of_getElem? (i := 24) rfl
theorem pw25 : (.methodLink RX0 1 objectInit : Cond) ∈ pt_all := List.mem_of_getElem? (i := 25) rfl
theorem pw26 : (.instanceMethod objectInit : Cond) ∈ pt_all := List.mem_of_getElem? (i := 26) rfl
theorem pw27 : (.code objectInit object_method_1_code 1 none : Cond) ∈ pt_all := List.mem_of_getElem? (i := 27) rfl
theorem pw28 : (.methodLink RX0 23 yX0_lowestBits : Cond) ∈ pt_all := List.mem_of_getElem? (i := 28) rfl
theorem pw29 : (.static yX0_lowestBits : Cond) ∈ pt_all := List.mem_of_getElem? (i := 29) rfl
theorem pw30 : (.code yX0_lowestBits cX0_lowestBits 1 (some .long) : Cond) ∈ pt_all := List.mem_of_getElem? (i := 30) rfl
theorem pw31 : (.constantLong RX0 93 (-1) : Cond) ∈ pt_all := List.mem_of_getElem? (i := 31) rfl
theorem pw32 : (.fieldLink RX0 9 "PatternTree" "cares" "[J" : Cond) ∈ pt_all := List.mem_of_getElem? (i := 32) rfl
theorem pw33 : (.fieldLink RX0 13 "PatternTree" "wants" "[J" : Cond) ∈ pt_all := List.mem_of_getElem? (i := 33) rfl
theorem pw34 : (.fieldLink RX0 16 "PatternTree" "size" "I" : Cond) ∈ pt_all := List.mem_of_getElem? (i := 34) rfl
theorem pw35 : (.fieldLink RX0 20 "PatternTree" "length" "I" : Cond) ∈ pt_all := List.mem_of_getElem? (i := 35) rfl
theorem pw36 : (.fieldLink RX0 27 "PatternTree" "mask" "J" : Cond) ∈ pt_all := List.mem_of_getElem? (i := 36) rfl
theorem pw37 : (.fieldLink RX0 31 "PatternTree" "clash" "I" : Cond) ∈ pt_all := List.mem_of_getElem? (i := 37) rfl
theorem pw38 : (.fieldLink RX0 34 "PatternTree" "surplus" "I" : Cond) ∈ pt_all := List.mem_of_getElem? (i := 38) rfl
theorem pw39 : (.laysFinal RX0 "PatternTree" "cares" "[J" : Cond) ∈ pt_all := List.mem_of_getElem? (i := 39) rfl
theorem pw40 : (.laysFinal RX0 "PatternTree" "wants" "[J" : Cond) ∈ pt_all := List.mem_of_getElem? (i := 40) rfl
theorem pw41 : (.lays RX0 "PatternTree" "size" "I" : Cond) ∈ pt_all := List.mem_of_getElem? (i := 41) rfl
theorem pw42 : (.lays RX0 "PatternTree" "length" "I" : Cond) ∈ pt_all := List.mem_of_getElem? (i := 42) rfl
theorem pw43 : (.lays RX0 "PatternTree" "mask" "J" : Cond) ∈ pt_all := List.mem_of_getElem? (i := 43) rfl
theorem pw44 : (.lays RX0 "PatternTree" "clash" "I" : Cond) ∈ pt_all := List.mem_of_getElem? (i := 44) rfl
theorem pw45 : (.lays RX0 "PatternTree" "surplus" "I" : Cond) ∈ pt_all := List.mem_of_getElem? (i := 45) rfl
theorem pw46 : (.arrayClass .long : Cond) ∈ pt_all := List.mem_of_getElem? (i := 46) rfl
theorem pw47 : (.methodLink RL 72 yX0_decode : Cond) ∈ pt_all := List.mem_of_getElem? (i := 47) rfl
theorem pw48 : (.instanceMethod yX0_decode : Cond) ∈ pt_all := List.mem_of_getElem? (i := 48) rfl
theorem pw49 : (.selects RX0 yX0_decode yX0_decode : Cond) ∈ pt_all := List.mem_of_getElem? (i := 49) rfl
theorem pw50 : (.code yX0_decode cX0_decode 5 (some .int) : Cond) ∈ pt_all := List.mem_of_getElem? (i := 50) rfl
theorem pw51 : (.methodLink RX0 62 yX0_sharesWord : Cond) ∈ pt_all := List.mem_of_getElem? (i := 51) rfl
theorem pw52 : (.instanceMethod yX0_sharesWord : Cond) ∈ pt_all := List.mem_of_getElem? (i := 52) rfl
theorem pw53 : (.code yX0_sharesWord cX0_sharesWord 6 (some .boolean) : Cond) ∈ pt_all := List.mem_of_getElem? (i := 53) rfl
theorem pw54 : (.methodLink RL 89 yX0_count : Cond) ∈ pt_all := List.mem_of_getElem? (i := 54) rfl
theorem pw55 : (.instanceMethod yX0_count : Cond) ∈ pt_all := List.mem_of_getElem? (i := 55) rfl
theorem pw56 : (.selects RX0 yX0_count yX0_count : Cond) ∈ pt_all := List.mem_of_getElem? (i := 56) rfl
theorem pw57 : (.code yX0_count cX0_count 2 (some .int) : Cond) ∈ pt_all := List.mem_of_getElem? (i := 57) rfl
theorem pw58 : (.methodLink RL 49 yL_clear : Cond) ∈ pt_all := List.mem_of_getElem? (i := 58) rfl
theorem pw59 : (.static yL_clear : Cond) ∈ pt_all := List.mem_of_getElem? (i := 59) rfl
theorem pw60 : (.codeWith yL_clear cL_clear 3 (some .int) [(0, 5, 8, 13)] : Cond) ∈ pt_all := List.mem_of_getElem? (i := 60) rfl
theorem pw61 : (.classLink RL 13 "java/lang/IllegalArgumentException" : Cond) ∈ pt_all := List.mem_of_getElem? (i := 61) rfl
theorem pw62 : (.methodLink RL 7 yX0_clear : Cond) ∈ pt_all := List.mem_of_getElem? (i := 62) rfl
theorem pw63 : (.instanceMethod yX0_clear : Cond) ∈ pt_all := List.mem_of_getElem? (i := 63) rfl
theorem pw64 : (.selects RX0 yX0_clear yX0_clear : Cond) ∈ pt_all := List.mem_of_getElem? (i := 64) rfl
theorem pw65 : (.code yX0_clear cX0_clear 2 none : Cond) ∈ pt_all := List.mem_of_getElem? (i := 65) rfl
theorem pw66 : (.classLink RX0 37 "java/lang/IllegalArgumentException" : Cond) ∈ pt_all := List.mem_of_getElem? (i := 66) rfl
theorem pw67 : (.methodLink RX0 41 ⟨"java/lang/IllegalArgumentException", "<init>", "(Ljava/lang/String;)V"⟩ : Cond) ∈ pt_all := List.mem_of_getElem? (i := 67) rfl
theorem pw68 : (.methodLink RL 61 yL_add : Cond) ∈ pt_all := List.mem_of_getElem? (i := 68) rfl
theorem pw69 : (.static yL_add : Cond) ∈ pt_all := List.mem_of_getElem? (i := 69) rfl
theorem pw70 : (.codeWith yL_add cL_add 7 (some .int) [(0, 11, 14, 13), (0, 11, 18, 19)] : Cond) ∈ pt_all := List.mem_of_getElem? (i := 70) rfl
theorem pw71 : (.classLink RL 19 "java/lang/IllegalStateException" : Cond) ∈ pt_all := List.mem_of_getElem? (i := 71) rfl
theorem pw72 : (.methodLink RL 15 yX0_add : Cond) ∈ pt_all := List.mem_of_getElem? (i := 72) rfl
theorem pw73 : (.instanceMethod yX0_add : Cond) ∈ pt_all := List.mem_of_getElem? (i := 73) rfl
theorem pw74 : (.selects RX0 yX0_add yX0_add : Cond) ∈ pt_all := List.mem_of_getElem? (i := 74) rfl
theorem pw75 : (.code yX0_add cX0_add 5 (some .int) : Cond) ∈ pt_all := List.mem_of_getElem? (i := 75) rfl
theorem pw76 : (.methodLink RX0 44 yX0_refuseStrayWant : Cond) ∈ pt_all := List.mem_of_getElem? (i := 76) rfl
theorem pw77 : (.instanceMethod yX0_refuseStrayWant : Cond) ∈ pt_all := List.mem_of_getElem? (i := 77) rfl
theorem pw78 : (.code yX0_refuseStrayWant cX0_refuseStrayWant 5 none : Cond) ∈ pt_all := List.mem_of_getElem? (i := 78) rfl
theorem pw79 : (.methodLink RX0 48 yX0_append : Cond) ∈ pt_all := List.mem_of_getElem? (i := 79) rfl
theorem pw80 : (.instanceMethod yX0_append : Cond) ∈ pt_all := List.mem_of_getElem? (i := 80) rfl
theorem pw81 : (.code yX0_append cX0_append 6 (some .int) : Cond) ∈ pt_all := List.mem_of_getElem? (i := 81) rfl
theorem pw82 : (.classLink RX0 99 "java/lang/IllegalStateException" : Cond) ∈ pt_all := List.mem_of_getElem? (i := 82) rfl
theorem pw83 : (.methodLink RX0 103 ⟨"java/lang/IllegalStateException", "<init>", "(Ljava/lang/String;)V"⟩ : Cond) ∈ pt_all := List.mem_of_getElem? (i := 83) rfl
theorem pw84 : (.methodLink RX0 66 yX0_firstSharing : Cond) ∈ pt_all := List.mem_of_getElem? (i := 84) rfl
theorem pw85 : (.instanceMethod yX0_firstSharing : Cond) ∈ pt_all := List.mem_of_getElem? (i := 85) rfl
theorem pw86 : (.code yX0_firstSharing cX0_firstSharing 6 (some .int) : Cond) ∈ pt_all := List.mem_of_getElem? (i := 86) rfl
theorem pw87 : (.methodLink RL 65 yL_signs : Cond) ∈ pt_all := List.mem_of_getElem? (i := 87) rfl
theorem pw88 : (.static yL_signs : Cond) ∈ pt_all := List.mem_of_getElem? (i := 88) rfl
theorem pw89 : (.codeWith yL_signs cL_signs 5 (some .int) [(0, 9, 12, 13), (0, 9, 16, 19)] : Cond) ∈ pt_all := List.mem_of_getElem? (i := 89) rfl
theorem pw90 : (.methodLink RL 21 yX0_signs : Cond) ∈ pt_all := List.mem_of_getElem? (i := 90) rfl
theorem pw91 : (.instanceMethod yX0_signs : Cond) ∈ pt_all := List.mem_of_getElem? (i := 91) rfl
theorem pw92 : (.selects RX0 yX0_signs yX0_signs : Cond) ∈ pt_all := List.mem_of_getElem? (i := 92) rfl
theorem pw93 : (.code yX0_signs cX0_signs 12 (some .int) : Cond) ∈ pt_all := List.mem_of_getElem? (i := 93) rfl
theorem pw94 : (.constantLong RX0 54 3 : Cond) ∈ pt_all := List.mem_of_getElem? (i := 94) rfl
theorem pw95 : (.constantLong RX0 56 2 : Cond) ∈ pt_all := List.mem_of_getElem? (i := 95) rfl
theorem pw96 : (.methodLink RL 69 yL_drop : Cond) ∈ pt_all := List.mem_of_getElem? (i := 96) rfl
theorem pw97 : (.static yL_drop : Cond) ∈ pt_all := List.mem_of_getElem? (i := 97) rfl
theorem pw98 : (.codeWith yL_drop cL_drop 3 (some .int) [(0, 5, 8, 28)] : Cond) ∈ pt_all := List.mem_of_getElem? (i := 98) rfl
theorem pw99 : (.classLink RL 28 "java/util/NoSuchElementException" : Cond) ∈ pt_all := List.mem_of_getElem? (i := 99) rfl
theorem pw100 : (.methodLink RL 25 yX0_drop : Cond) ∈ pt_all := List.mem_of_getElem? (i := 100) rfl
theorem pw101 : (.instanceMethod yX0_drop : Cond) ∈ pt_all := List.mem_of_getElem? (i := 101) rfl
theorem pw102 : (.selects RX0 yX0_drop yX0_drop : Cond) ∈ pt_all := List.mem_of_getElem? (i := 102) rfl
theorem pw103 : (.code yX0_drop cX0_drop 3 none : Cond) ∈ pt_all := List.mem_of_getElem? (i := 103) rfl
theorem pw104 : (.methodLink RX0 58 yX0_refuseAbsent : Cond) ∈ pt_all := List.mem_of_getElem? (i := 104) rfl
theorem pw105 : (.instanceMethod yX0_refuseAbsent : Cond) ∈ pt_all := List.mem_of_getElem? (i := 105) rfl
theorem pw106 : (.code yX0_refuseAbsent cX0_refuseAbsent 2 none : Cond) ∈ pt_all := List.mem_of_getElem? (i := 106) rfl
theorem pw107 : (.classLink RX0 80 "java/util/NoSuchElementException" : Cond) ∈ pt_all := List.mem_of_getElem? (i := 107) rfl
theorem pw108 : (.methodLink RX0 84 ⟨"java/util/NoSuchElementException", "<init>", "(Ljava/lang/String;)V"⟩ : Cond) ∈ pt_all := List.mem_of_getElem? (i := 108) rfl
theorem pw109 : (.methodLink RL 76 yL_meets : Cond) ∈ pt_all := List.mem_of_getElem? (i := 109) rfl
theorem pw110 : (.static yL_meets : Cond) ∈ pt_all := List.mem_of_getElem? (i := 110) rfl
theorem pw111 : (.codeWith yL_meets cL_meets 7 (some .int) [(0, 11, 14, 13)] : Cond) ∈ pt_all := List.mem_of_getElem? (i := 111) rfl
theorem pw112 : (.methodLink RL 30 yX0_meets : Cond) ∈ pt_all := List.mem_of_getElem? (i := 112) rfl
theorem pw113 : (.instanceMethod yX0_meets : Cond) ∈ pt_all := List.mem_of_getElem? (i := 113) rfl
theorem pw114 : (.selects RX0 yX0_meets yX0_meets : Cond) ∈ pt_all := List.mem_of_getElem? (i := 114) rfl
theorem pw115 : (.code yX0_meets cX0_meets 5 (some .int) : Cond) ∈ pt_all := List.mem_of_getElem? (i := 115) rfl
theorem pw116 : (.methodLink RL 79 yL_free : Cond) ∈ pt_all := List.mem_of_getElem? (i := 116) rfl
theorem pw117 : (.static yL_free : Cond) ∈ pt_all := List.mem_of_getElem? (i := 117) rfl
theorem pw118 : (.codeWith yL_free cL_free 7 (some .int) [(0, 10, 13, 13)] : Cond) ∈ pt_all := List.mem_of_getElem? (i := 118) rfl
theorem pw119 : (.methodLink RL 33 yX0_free : Cond) ∈ pt_all := List.mem_of_getElem? (i := 119) rfl
theorem pw120 : (.instanceMethod yX0_free : Cond) ∈ pt_all := List.mem_of_getElem? (i := 120) rfl
theorem pw121 : (.selects RX0 yX0_free yX0_free : Cond) ∈ pt_all := List.mem_of_getElem? (i := 121) rfl
theorem pw122 : (.code yX0_free cX0_free 5 (some .long) : Cond) ∈ pt_all := List.mem_of_getElem? (i := 122) rfl
theorem pw123 : (.methodLink RX0 69 yX0_freeWords : Cond) ∈ pt_all := List.mem_of_getElem? (i := 123) rfl
theorem pw124 : (.instanceMethod yX0_freeWords : Cond) ∈ pt_all := List.mem_of_getElem? (i := 124) rfl
theorem pw125 : (.code yX0_freeWords cX0_freeWords 8 (some .long) : Cond) ∈ pt_all := List.mem_of_getElem? (i := 125) rfl
theorem pw126 : (.methodLink RX0 106 yX0_wordsOf : Cond) ∈ pt_all := List.mem_of_getElem? (i := 126) rfl
theorem pw127 : (.instanceMethod yX0_wordsOf : Cond) ∈ pt_all := List.mem_of_getElem? (i := 127) rfl
theorem pw128 : (.code yX0_wordsOf cX0_wordsOf 4 (some .long) : Cond) ∈ pt_all := List.mem_of_getElem? (i := 128) rfl
theorem pw129 : (.methodLink RX0 87 yJ_bitCount : Cond) ∈ pt_all := List.mem_of_getElem? (i := 129) rfl
theorem pw130 : (.static yJ_bitCount : Cond) ∈ pt_all := List.mem_of_getElem? (i := 130) rfl
theorem pw131 : (.code yJ_bitCount cJ_bitCount 2 (some .int) : Cond) ∈ pt_all := List.mem_of_getElem? (i := 131) rfl
theorem pw132 : (.constantLong RJ 314 6148914691236517205 : Cond) ∈ pt_all := List.mem_of_getElem? (i := 132) rfl
theorem pw133 : (.constantLong RJ 316 3689348814741910323 : Cond) ∈ pt_all := List.mem_of_getElem? (i := 133) rfl
theorem pw134 : (.constantLong RJ 318 1085102592571150095 : Cond) ∈ pt_all := List.mem_of_getElem? (i := 134) rfl
theorem pw135 : (.methodLink RL 82 yL_next : Cond) ∈ pt_all := List.mem_of_getElem? (i := 135) rfl
theorem pw136 : (.static yL_next : Cond) ∈ pt_all := List.mem_of_getElem? (i := 136) rfl
theorem pw137 : (.codeWith yL_next cL_next 5 (some .int) [(0, 8, 11, 28)] : Cond) ∈ pt_all := List.mem_of_getElem? (i := 137) rfl
theorem pw138 : (.methodLink RL 37 yX0_next : Cond) ∈ pt_all := List.mem_of_getElem? (i := 138) rfl
theorem pw139 : (.instanceMethod yX0_next : Cond) ∈ pt_all := List.mem_of_getElem? (i := 139) rfl
theorem pw140 : (.selects RX0 yX0_next yX0_next : Cond) ∈ pt_all := List.mem_of_getElem? (i := 140) rfl
theorem pw141 : (.code yX0_next cX0_next 8 (some .long) : Cond) ∈ pt_all := List.mem_of_getElem? (i := 141) rfl
theorem pw142 : (.methodLink RX0 73 yX0_bitsFrom : Cond) ∈ pt_all := List.mem_of_getElem? (i := 142) rfl
theorem pw143 : (.instanceMethod yX0_bitsFrom : Cond) ∈ pt_all := List.mem_of_getElem? (i := 143) rfl
theorem pw144 : (.code yX0_bitsFrom cX0_bitsFrom 2 (some .long) : Cond) ∈ pt_all := List.mem_of_getElem? (i := 144) rfl
theorem pw145 : (.methodLink RX0 76 yX0_leastFree : Cond) ∈ pt_all := List.mem_of_getElem? (i := 145) rfl
theorem pw146 : (.instanceMethod yX0_leastFree : Cond) ∈ pt_all := List.mem_of_getElem? (i := 146) rfl
theorem pw147 : (.code yX0_leastFree cX0_leastFree 7 (some .long) : Cond) ∈ pt_all := List.mem_of_getElem? (i := 147) rfl
theorem pw148 : (.methodLink RL 85 yL_told : Cond) ∈ pt_all := List.mem_of_getElem? (i := 148) rfl
theorem pw149 : (.static yL_told : Cond) ∈ pt_all := List.mem_of_getElem? (i := 149) rfl
theorem pw150 : (.codeWith yL_told cL_told 5 (some .int) [(0, 9, 12, 13), (0, 9, 16, 28)] : Cond) ∈ pt_all := List.mem_of_getElem? (i := 150) rfl
theorem pw151 : (.methodLink RL 41 yX0_told : Cond) ∈ pt_all := List.mem_of_getElem? (i := 151) rfl
theorem pw152 : (.instanceMethod yX0_told : Cond) ∈ pt_all := List.mem_of_getElem? (i := 152) rfl
theorem pw153 : (.selects RX0 yX0_told yX0_told : Cond) ∈ pt_all := List.mem_of_getElem? (i := 153) rfl
theorem pw154 : (.code yX0_told cX0_told 3 (some .long) : Cond) ∈ pt_all := List.mem_of_getElem? (i := 154) rfl
theorem pw155 : (.classLink RL 46 RX1 : Cond) ∈ pt_all := List.mem_of_getElem? (i := 155) rfl
theorem pw156 : (.instantiable RX1 7 : Cond) ∈ pt_all := List.mem_of_getElem? (i := 156) rfl
theorem pw157 : (.methodLink RL 48 yX1_init : Cond) ∈ pt_all := List.mem_of_getElem? (i := 157) rfl
theorem pw158 : (.instanceMethod yX1_init : Cond) ∈ pt_all := List.mem_of_getElem? (i := 158) rfl
theorem pw159 : (.code yX1_init cX1_init 1 none : Cond) ∈ pt_all := List.mem_of_getElem? (i := 159) rfl
theorem pw160 : (.methodLink RX1 1 objectInit : Cond) ∈ pt_all := List.mem_of_getElem? (i := 160) rfl
theorem pw161 : (.fieldLink RX1 7 "PatternTreeModel" "care" "[J" : Cond) ∈ pt_all := List.mem_of_getElem? (i := 161) rfl
theorem pw162 : (.fieldLink RX1 13 "PatternTreeModel" "want" "[J" : Cond) ∈ pt_all := List.mem_of_getElem? (i := 162) rfl
theorem pw163 : (.fieldLink RX1 32 "PatternTreeModel" "many" "I" : Cond) ∈ pt_all := List.mem_of_getElem? (i := 163) rfl
theorem pw164 : (.fieldLink RX1 16 "PatternTreeModel" "length" "I" : Cond) ∈ pt_all := List.mem_of_getElem? (i := 164) rfl
theorem pw165 : (.fieldLink RX1 20 "PatternTreeModel" "clash" "I" : Cond) ∈ pt_all := List.mem_of_getElem? (i := 165) rfl
theorem pw166 : (.fieldLink RX1 58 "PatternTreeModel" "beyond" "I" : Cond) ∈ pt_all := List.mem_of_getElem? (i := 166) rfl
theorem pw167 : (.fieldLink RX1 23 "PatternTreeModel" "thrown" "I" : Cond) ∈ pt_all := List.mem_of_getElem? (i := 167) rfl
theorem pw168 : (.laysFinal RX1 "PatternTreeModel" "care" "[J" : Cond) ∈ pt_all := List.mem_of_getElem? (i := 168) rfl
theorem pw169 : (.laysFinal RX1 "PatternTreeModel" "want" "[J" : Cond) ∈ pt_all := List.mem_of_getElem? (i := 169) rfl
theorem pw170 : (.lays RX1 "PatternTreeModel" "many" "I" : Cond) ∈ pt_all := List.mem_of_getElem? (i := 170) rfl
theorem pw171 : (.lays RX1 "PatternTreeModel" "length" "I" : Cond) ∈ pt_all := List.mem_of_getElem? (i := 171) rfl
theorem pw172 : (.lays RX1 "PatternTreeModel" "clash" "I" : Cond) ∈ pt_all := List.mem_of_getElem? (i := 172) rfl
theorem pw173 : (.lays RX1 "PatternTreeModel" "beyond" "I" : Cond) ∈ pt_all := List.mem_of_getElem? (i := 173) rfl
theorem pw174 : (.lays RX1 "PatternTreeModel" "thrown" "I" : Cond) ∈ pt_all := List.mem_of_getElem? (i := 174) rfl
theorem pw175 : (.methodLink RL 55 yX1_thrown : Cond) ∈ pt_all := List.mem_of_getElem? (i := 175) rfl
theorem pw176 : (.instanceMethod yX1_thrown : Cond) ∈ pt_all := List.mem_of_getElem? (i := 176) rfl
theorem pw177 : (.selects RX1 yX1_thrown yX1_thrown : Cond) ∈ pt_all := List.mem_of_getElem? (i := 177) rfl
theorem pw178 : (.code yX1_thrown cX1_thrown 1 (some .int) : Cond) ∈ pt_all := List.mem_of_getElem? (i := 178) rfl
theorem pw179 : (.methodLink RL 54 yX1_clear : Cond) ∈ pt_all := List.mem_of_getElem? (i := 179) rfl
theorem pw180 : (.instanceMethod yX1_clear : Cond) ∈ pt_all := List.mem_of_getElem? (i := 180) rfl
theorem pw181 : (.selects RX1 yX1_clear yX1_clear : Cond) ∈ pt_all := List.mem_of_getElem? (i := 181) rfl
theorem pw182 : (.code yX1_clear cX1_clear 2 none : Cond) ∈ pt_all := List.mem_of_getElem? (i := 182) rfl
theorem pw183 : (.methodLink RX1 39 yX1_fail : Cond) ∈ pt_all := List.mem_of_getElem? (i := 183) rfl
theorem pw184 : (.instanceMethod yX1_fail : Cond) ∈ pt_all := List.mem_of_getElem? (i := 184) rfl
theorem pw185 : (.code yX1_fail cX1_fail 2 (some .int) : Cond) ∈ pt_all := List.mem_of_getElem? (i := 185) rfl
theorem pw186 : (.methodLink RL 64 yX1_add : Cond) ∈ pt_all := List.mem_of_getElem? (i := 186) rfl
theorem pw187 : (.instanceMethod yX1_add : Cond) ∈ pt_all := List.mem_of_getElem? (i := 187) rfl
theorem pw188 : (.selects RX1 yX1_add yX1_add : Cond) ∈ pt_all := List.mem_of_getElem? (i := 188) rfl
theorem pw189 : (.code yX1_add cX1_add 6 (some .int) : Cond) ∈ pt_all := List.mem_of_getElem? (i := 189) rfl
theorem pw190 : (.methodLink RX1 43 yX1_wrong : Cond) ∈ pt_all := List.mem_of_getElem? (i := 190) rfl
theorem pw191 : (.instanceMethod yX1_wrong : Cond) ∈ pt_all := List.mem_of_getElem? (i := 191) rfl
theorem pw192 : (.code yX1_wrong cX1_wrong 5 (some .boolean) : Cond) ∈ pt_all := List.mem_of_getElem? (i := 192) rfl
theorem pw193 : (.constantLong RX1 26 (-1) : Cond) ∈ pt_all := List.mem_of_getElem? (i := 193) rfl
theorem pw194 : (.methodLink RX1 28 yX1_mask : Cond) ∈ pt_all := List.mem_of_getElem? (i := 194) rfl
theorem pw195 : (.instanceMethod yX1_mask : Cond) ∈ pt_all := List.mem_of_getElem? (i := 195) rfl
theorem pw196 : (.code yX1_mask cX1_mask 1 (some .long) : Cond) ∈ pt_all := List.mem_of_getElem? (i := 196) rfl
theorem pw197 : (.methodLink RX1 47 yX1_first : Cond) ∈ pt_all := List.mem_of_getElem? (i := 197) rfl
theorem pw198 : (.instanceMethod yX1_first : Cond) ∈ pt_all := List.mem_of_getElem? (i := 198) rfl
theorem pw199 : (.code yX1_first cX1_first 6 (some .int) : Cond) ∈ pt_all := List.mem_of_getElem? (i := 199) rfl
theorem pw200 : (.methodLink RX1 35 yX1_meet : Cond) ∈ pt_all := List.mem_of_getElem? (i := 200) rfl
theorem pw201 : (.instanceMethod yX1_meet : Cond) ∈ pt_all := List.mem_of_getElem? (i := 201) rfl
theorem pw202 : (.code yX1_meet cX1_meet 6 (some .boolean) : Cond) ∈ pt_all := List.mem_of_getElem? (i := 202) rfl
theorem pw203 : (.methodLink RL 68 yX1_signs : Cond) ∈ pt_all := List.mem_of_getElem? (i := 203) rfl
theorem pw204 : (.instanceMethod yX1_signs : Cond) ∈ pt_all := List.mem_of_getElem? (i := 204) rfl
theorem pw205 : (.selects RX1 yX1_signs yX1_signs : Cond) ∈ pt_all := List.mem_of_getElem? (i := 205) rfl
theorem pw206 : (.code yX1_signs cX1_signs 12 (some .int) : Cond) ∈ pt_all := List.mem_of_getElem? (i := 206) rfl
theorem pw207 : (.constantLong RX1 51 3 : Cond) ∈ pt_all := List.mem_of_getElem? (i := 207) rfl
theorem pw208 : (.constantLong RX1 53 2 : Cond) ∈ pt_all := List.mem_of_getElem? (i := 208) rfl
theorem pw209 : (.methodLink RX1 55 yX1_add : Cond) ∈ pt_all := List.mem_of_getElem? (i := 209) rfl
theorem pw210 : (.methodLink RL 71 yX1_drop : Cond) ∈ pt_all := List.mem_of_getElem? (i := 210) rfl
theorem pw211 : (.instanceMethod yX1_drop : Cond) ∈ pt_all := List.mem_of_getElem? (i := 211) rfl
theorem pw212 : (.selects RX1 yX1_drop yX1_drop : Cond) ∈ pt_all := List.mem_of_getElem? (i := 212) rfl
theorem pw213 : (.code yX1_drop cX1_drop 3 none : Cond) ∈ pt_all := List.mem_of_getElem? (i := 213) rfl
theorem pw214 : (.methodLink RL 75 yX1_decode : Cond) ∈ pt_all := List.mem_of_getElem? (i := 214) rfl
theorem pw215 : (.instanceMethod yX1_decode : Cond) ∈ pt_all := List.mem_of_getElem? (i := 215) rfl
theorem pw216 : (.selects RX1 yX1_decode yX1_decode : Cond) ∈ pt_all := List.mem_of_getElem? (i := 216) rfl
theorem pw217 : (.code yX1_decode cX1_decode 6 (some .int) : Cond) ∈ pt_all := List.mem_of_getElem? (i := 217) rfl
theorem pw218 : (.methodLink RL 78 yX1_meets : Cond) ∈ pt_all := List.mem_of_getElem? (i := 218) rfl
theorem pw219 : (.instanceMethod yX1_meets : Cond) ∈ pt_all := List.mem_of_getElem? (i := 219) rfl
theorem pw220 : (.selects RX1 yX1_meets yX1_meets : Cond) ∈ pt_all := List.mem_of_getElem? (i := 220) rfl
theorem pw221 : (.code yX1_meets cX1_meets 5 (some .int) : Cond) ∈ pt_all := List.mem_of_getElem? (i := 221) rfl
theorem pw222 : (.methodLink RL 81 yX1_free : Cond) ∈ pt_all := List.mem_of_getElem? (i := 222) rfl
theorem pw223 : (.instanceMethod yX1_free : Cond) ∈ pt_all := List.mem_of_getElem? (i := 223) rfl
theorem pw224 : (.selects RX1 yX1_free yX1_free : Cond) ∈ pt_all := List.mem_of_getElem? (i := 224) rfl
theorem pw225 : (.code yX1_free cX1_free 5 (some .long) : Cond) ∈ pt_all := List.mem_of_getElem? (i := 225) rfl
theorem pw226 : (.methodLink RX1 69 yX1_none : Cond) ∈ pt_all := List.mem_of_getElem? (i := 226) rfl
theorem pw227 : (.instanceMethod yX1_none : Cond) ∈ pt_all := List.mem_of_getElem? (i := 227) rfl
theorem pw228 : (.code yX1_none cX1_none 8 (some .long) : Cond) ∈ pt_all := List.mem_of_getElem? (i := 228) rfl
theorem pw229 : (.methodLink RX1 61 yX1_bits : Cond) ∈ pt_all := List.mem_of_getElem? (i := 229) rfl
theorem pw230 : (.static yX1_bits : Cond) ∈ pt_all := List.mem_of_getElem? (i := 230) rfl
theorem pw231 : (.code yX1_bits cX1_bits 4 (some .int) : Cond) ∈ pt_all := List.mem_of_getElem? (i := 231) rfl
theorem pw232 : (.methodLink RX1 65 yX1_power : Cond) ∈ pt_all := List.mem_of_getElem? (i := 232) rfl
theorem pw233 : (.static yX1_power : Cond) ∈ pt_all := List.mem_of_getElem? (i := 233) rfl
theorem pw234 : (.code yX1_power cX1_power 1 (some .long) : Cond) ∈ pt_all := List.mem_of_getElem? (i := 234) rfl
theorem pw235 : (.methodLink RL 84 yX1_next : Cond) ∈ pt_all := List.mem_of_getElem? (i := 235) rfl
theorem pw236 : (.instanceMethod yX1_next : Cond) ∈ pt_all := List.mem_of_getElem? (i := 236) rfl
theorem pw237 : (.selects RX1 yX1_next yX1_next : Cond) ∈ pt_all := List.mem_of_getElem? (i := 237) rfl
theorem pw238 : (.code yX1_next cX1_next 13 (some .long) : Cond) ∈ pt_all := List.mem_of_getElem? (i := 238) rfl
theorem pw239 : (.methodLink RX1 73 yX1_some : Cond) ∈ pt_all := List.mem_of_getElem? (i := 239) rfl
theorem pw240 : (.instanceMethod yX1_some : Cond) ∈ pt_all := List.mem_of_getElem? (i := 240) rfl
theorem pw241 : (.code yX1_some cX1_some 5 (some .boolean) : Cond) ∈ pt_all := List.mem_of_getElem? (i := 241) rfl
theorem pw242 : (.methodLink RL 88 yX1_told : Cond) ∈ pt_all := List.mem_of_getElem? (i := 242) rfl
theorem pw243 : (.instanceMethod yX1_told : Cond) ∈ pt_all := List.mem_of_getElem? (i := 243) rfl
theorem pw244 : (.selects RX1 yX1_told yX1_told : Cond) ∈ pt_all := List.mem_of_getElem? (i := 244) rfl
theorem pw245 : (.code yX1_told cX1_told 3 (some .long) : Cond) ∈ pt_all := List.mem_of_getElem? (i := 245) rfl
theorem pw246 : (.methodLink RL 93 yX1_count : Cond) ∈ pt_all := List.mem_of_getElem? (i := 246) rfl
theorem pw247 : (.instanceMethod yX1_count : Cond) ∈ pt_all := List.mem_of_getElem? (i := 247) rfl
theorem pw248 : (.selects RX1 yX1_count yX1_count : Cond) ∈ pt_all := List.mem_of_getElem? (i := 248) rfl
theorem pw249 : (.code yX1_count cX1_count 2 (some .int) : Cond) ∈ pt_all := List.mem_of_getElem? (i := 249) rfl
theorem pw250 : (.constantLong RL 59 4294967295 : Cond) ∈ pt_all := List.mem_of_getElem? (i := 250) rfl
theorem pt_wsX0 : ∀ w ∈ u_ws RX0 TX0 7, w ∈ pt_all := by decide +kernel
theorem pt_wsX1 : ∀ w ∈ u_ws RX1 TX1 7, w ∈ pt_all := by decide +kernel
theorem pt_gin {c : Cond} {ws : List Cond} (h : ∀ w ∈ ws, w ∈ pt_all) : GoodIn (c :: pt_all) ws := fun w hw => ⟨List.mem_cons_of_mem _ (h w hw), (pt_all_in w (h w hw)).2⟩
theorem pt_gV {c : Cond} {own : String} {i : Nat} {C : String} {y : MethodName} {b : ByteArray} {n : Nat} {r : Option FieldType} (h1 : .methodLink own i y ∈ pt_all) (h2 : .instanceMethod y ∈ pt_all) (h3 : .selects C y y ∈ pt_all) (h4 : .initialized C ∈ pt_all) (h5 : .code y b n r ∈ pt_all) : GoodIn (c :: pt_all) (wsV own i C y (.code y b n r :: pt_all)) := pt_gin fun w hw => by
  simp only [wsV, List.cons_append, List.nil_append, List.mem_cons] at hw
  rcases hw with rfl | rfl | rfl | rfl | rfl | h
  · exact h1
  · exact h2
  · exact h3
  · exact h4
  · exact h5
  · exact h
theorem pt_gS {c : Cond} {own : String} {i : Nat} {y : MethodName} {b : ByteArray} {n : Nat} {r : Option FieldType} (h1 : .methodLink own i y ∈ pt_all) (h2 : .static y ∈ pt_all) (h4 : .initialized y.cls ∈ pt_all) (h5 : .code y b n r ∈ pt_all) : GoodIn (c :: pt_all) (va_wsS own i y (.code y b n r :: pt_all)) := pt_gin fun w hw => by
  simp only [va_wsS, List.cons_append, List.nil_append, List.mem_cons] at hw
  rcases hw with rfl | rfl | rfl | rfl | h
  · exact h1
  · exact h2
  · exact h4
  · exact h5
  · exact h
theorem pt_gW {c : Cond} {own : String} {i : Nat} {y : MethodName} {b : ByteArray} {n : Nat} {r : Option FieldType} {hh : List (Nat × Nat × Nat × Nat)} (h1 : .methodLink own i y ∈ pt_all) (h2 : .static y ∈ pt_all) (h4 : .initialized y.cls ∈ pt_all) (h5 : .codeWith y b n r hh ∈ pt_all) : GoodIn (c :: pt_all) (va_wsS own i y (.codeWith y b n r hh :: pt_all)) := pt_gin fun w hw => by
  simp only [va_wsS, List.cons_append, List.nil_append, List.mem_cons] at hw
  rcases hw with rfl | rfl | rfl | rfl | h
  · exact h1
  · exact h2
  · exact h4
  · exact h5
  · exact h
theorem pt_gI {c : Cond} {y : MethodName} {b : ByteArray} {n : Nat} {r : Option FieldType} (h5 : .code y b n r ∈ pt_all) : GoodIn (c :: pt_all) (.code y b n r :: pt_all) := pt_gin fun w hw => by
  rcases List.mem_cons.mp hw with rfl | h
  · exact h5
  · exact h
end
section
/-! Pure: shifts of longs by name; sums of digits; Long.bitCount's steps add up the bits. -/
def pt_shl (x : Int64) (y : Int32) : Int64 := x <<< (y.toInt64 &&& 63)
def pt_ushr (x : Int64) (y : Int32) : Int64 := (x.toUInt64 >>> (y.toInt64.toUInt64 &&& Int64.toUInt64 63)).toInt64
def pt_u (x : Int64) : Nat := x.toUInt64.toNat
theorem pt_u_lt (x : Int64) : pt_u x < 18446744073709551616 := x.toUInt64.toNat_lt
theorem pt_u_inj {x y : Int64} (h : pt_u x = pt_u y) : x = y := congrArg UInt64.toInt64 (UInt64.toNat_inj.mp h)
theorem pt_u_lN {n : Nat} (h : n < 18446744073709551616) : pt_u (lN n) = n := Nat.mod_eq_of_lt h
theorem pt_u_of (x : Int64) : x = lN (pt_u x) := pt_u_inj (pt_u_lN (pt_u_lt x)).symm
theorem pt_u_add (x y : Int64) : pt_u (x + y) = (pt_u x + pt_u y) % 18446744073709551616 := by
  show (x.toUInt64 + y.toUInt64).toNat = _
  exact UInt64.toNat_add _ _
theorem pt_u_sub {x y : Int64} (h : pt_u y ≤ pt_u x) : pt_u (x - y) = pt_u x - pt_u y := by
  have e : pt_u (x - y) = (18446744073709551616 - pt_u y + pt_u x) % 18446744073709551616 := by
    show (x.toUInt64 - y.toUInt64).toNat = _
    exact UInt64.toNat_sub _ _
  have h1 := pt_u_lt x
  omega
theorem pt_u_and (x y : Int64) : pt_u (x &&& y) = pt_u x &&& pt_u y := by
  show (x.toUInt64 &&& y.toUInt64).toNat = _
  exact UInt64.toNat_and _ _
theorem pt_u_shr (x : Int64) {k : Nat} (hk : k < 64) : pt_u (pt_ushr x (nI k)) = pt_u x / 2 ^ k := by
  have h : ((nI k).toInt64.toUInt64 &&& Int64.toUInt64 63).toNat % 64 = k := by
    rw [nI_l (by omega), UInt64.toNat_and]
    have e : (lN k).toUInt64.toNat = k % 2 ^ 64 := rfl
    have e2 : (Int64.toUInt64 63).toNat = 2 ^ 6 - 1 := by decide
    rw [e, e2, Nat.and_two_pow_sub_one_eq_mod]
    omega
  show (x.toUInt64 >>> ((nI k).toInt64.toUInt64 &&& Int64.toUInt64 63)).toNat = _
  rw [UInt64.toNat_shiftRight, Nat.shiftRight_eq_div_pow, h]
  rfl
/-- the number whose digits to the base B are f 0, f 1, .. (k of them) -/
def pt_S (B : Nat) : Nat → (Nat → Nat) → Nat
  | 0, _ => 0
  | k + 1, f => f 0 + B * pt_S B k (fun j => f (j + 1))
theorem pt_S_congr {B : Nat} : ∀ (k : Nat) (f g : Nat → Nat), (∀ j, f j = g j) → pt_S B k f = pt_S B k g
  | 0, _, _, _ => rfl
  | k + 1, f, g, h => by
    have ih := pt_S_congr (B := B) k (fun j => f (j + 1)) (fun j => g (j + 1)) (fun j => h (j + 1))
    show f 0 + B * pt_S B k (fun j => f (j + 1)) = g 0 + B * pt_S B k (fun j => g (j + 1))
    rw [ih, h 0]
theorem pt_S_digits (B : Nat) : ∀ (k n : Nat), n < B ^ k → pt_S B k (fun j => n / B ^ j % B) = n
  | 0, n, h => by
    have : n = 0 := by simpa using h
    rw [this]; rfl
  | k + 1, n, h => by
    have hlt : n / B < B ^ k := Nat.div_lt_of_lt_mul (by rw [Nat.pow_succ'] at h; exact h)
    have ih := pt_S_digits B k (n / B) hlt
    have e : pt_S B k (fun j => n / B ^ (j + 1) % B) = pt_S B k (fun j => n / B / B ^ j % B) := pt_S_congr k _ _ (fun j => by rw [Nat.div_div_eq_div_mul, Nat.pow_succ'])
    show n / B ^ 0 % B + B * pt_S B k (fun j => n / B ^ (j + 1) % B) = n
    rw [e, ih, Nat.pow_zero, Nat.div_one]
    exact Nat.mod_add_div n B
theorem pt_S_lt (B : Nat) : ∀ (k : Nat) (f : Nat → Nat), (∀ j, f j < B) → pt_S B k f < B ^ k
  | 0, _, _ => by simp [pt_S]
  | k + 1, f, h => by
    have ih := pt_S_lt B k (fun j => f (j + 1)) (fun j => h (j + 1))
    have h0 := h 0
    show f 0 + B * pt_S B k (fun j => f (j + 1)) < B ^ (k + 1)
    generalize pt_S B k (fun j => f (j + 1)) = R at ih ⊢
    have m := Nat.mul_le_mul_left B (show R + 1 ≤ B ^ k from ih)
    rw [Nat.mul_add, Nat.mul_one] at m
    rw [Nat.pow_succ']
    omega
theorem pt_S_add (B : Nat) : ∀ (k : Nat) (f g : Nat → Nat), pt_S B k f + pt_S B k g = pt_S B k (fun j => f j + g j)
  | 0, _, _ => rfl
  | k + 1, f, g => by
    have ih := pt_S_add B k (fun j => f (j + 1)) (fun j => g (j + 1))
    show f 0 + B * pt_S B k (fun j => f (j + 1)) + (g 0 + B * pt_S B k (fun j => g (j + 1))) = f 0 + g 0 + B * pt_S B k (fun j => f (j + 1) + g (j + 1))
    rw [← ih, Nat.mul_add]
    omega
theorem pt_S_sub (B k : Nat) (f g : Nat → Nat) (h : ∀ j, g j ≤ f j) : pt_S B k g ≤ pt_S B k f ∧ pt_S B k f - pt_S B k g = pt_S B k (fun j => f j - g j) := by
  have e := pt_S_add B k (fun j => f j - g j) g
  have e2 : pt_S B k (fun j => f j - g j + g j) = pt_S B k f := pt_S_congr k _ _ (fun j => Nat.sub_add_cancel (h j))
  rw [e2] at e
  omega
theorem pt_S_tail (B : Nat) : ∀ (k : Nat) (f : Nat → Nat), f k = 0 → pt_S B (k + 1) f = pt_S B k f
  | 0, f, h => by
    show f 0 + B * 0 = 0
    rw [h]; rfl
  | k + 1, f, h => by
    have ih := pt_S_tail B k (fun j => f (j + 1)) h
    show f 0 + B * pt_S B (k + 1) (fun j => f (j + 1)) = f 0 + B * pt_S B k (fun j => f (j + 1))
    rw [ih]
theorem pt_S_div {B : Nat} (k : Nat) (f : Nat → Nat) (hB : 0 < B) (h0 : f 0 < B) (hk : f k = 0) : pt_S B k f / B = pt_S B k (fun j => f (j + 1)) := by
  have e := pt_S_tail B k f hk
  have e2 : pt_S B (k + 1) f = f 0 + B * pt_S B k (fun j => f (j + 1)) := rfl
  rw [← e, e2, Nat.add_mul_div_left _ _ hB, Nat.div_eq_of_lt h0, Nat.zero_add]
theorem pt_and_split {w P L c x y : Nat} (hP : 2 ^ w = P) (hL : L < P) (hc : c < P) : (L + P * x) &&& (c + P * y) = (L &&& c) + P * (x &&& y) := by
  subst hP
  rw [Nat.add_comm L, Nat.add_comm c, Nat.add_comm (L &&& c)]
  apply Nat.eq_of_testBit_eq
  intro j
  rw [Nat.testBit_and, Nat.testBit_two_pow_mul_add _ hL, Nat.testBit_two_pow_mul_add _ hc, Nat.testBit_two_pow_mul_add _ (Nat.and_lt_two_pow _ hc)]
  split <;> simp
theorem pt_S_hi4 : ∀ (k : Nat) (f : Nat → Nat), (∀ j, f j < 4) → (pt_S 4 k f / 2) &&& pt_S 4 k (fun _ => 1) = pt_S 4 k (fun j => f j / 2)
  | 0, _, _ => by simp [pt_S]
  | k + 1, f, h => by
    have ih := pt_S_hi4 k (fun j => f (j + 1)) (fun j => h (j + 1))
    have h0 := h 0
    show ((f 0 + 4 * pt_S 4 k (fun j => f (j + 1))) / 2) &&& (1 + 4 * pt_S 4 k (fun _ => 1)) = f 0 / 2 + 4 * pt_S 4 k (fun j => f (j + 1) / 2)
    rw [← ih]
    generalize pt_S 4 k (fun j => f (j + 1)) = R
    generalize pt_S 4 k (fun _ => 1) = M
    have e1 : (f 0 + 4 * R) / 2 = (f 0 / 2 + 2 * (R % 2)) + 4 * (R / 2) := by omega
    have e3 : (f 0 / 2 + 2 * (R % 2)) &&& 1 = (f 0 / 2 + 2 * (R % 2)) % 2 := Nat.and_two_pow_sub_one_eq_mod _ 1
    rw [e1, pt_and_split (w := 2) rfl (by omega) (by omega), e3]
    omega
theorem pt_S_hi16 : ∀ (k : Nat) (f : Nat → Nat), (∀ j, f j < 16) → (pt_S 16 k f / 4) &&& pt_S 16 k (fun _ => 3) = pt_S 16 k (fun j => f j / 4)
  | 0, _, _ => by simp [pt_S]
  | k + 1, f, h => by
    have ih := pt_S_hi16 k (fun j => f (j + 1)) (fun j => h (j + 1))
    have h0 := h 0
    show ((f 0 + 16 * pt_S 16 k (fun j => f (j + 1))) / 4) &&& (3 + 16 * pt_S 16 k (fun _ => 3)) = f 0 / 4 + 16 * pt_S 16 k (fun j => f (j + 1) / 4)
    rw [← ih]
    generalize pt_S 16 k (fun j => f (j + 1)) = R
    generalize pt_S 16 k (fun _ => 3) = M
    have e1 : (f 0 + 16 * R) / 4 = (f 0 / 4 + 4 * (R % 4)) + 16 * (R / 4) := by omega
    have e3 : (f 0 / 4 + 4 * (R % 4)) &&& 3 = (f 0 / 4 + 4 * (R % 4)) % 4 := Nat.and_two_pow_sub_one_eq_mod _ 2
    rw [e1, pt_and_split (w := 4) rfl (by omega) (by omega), e3]
    omega
theorem pt_S_lo16 : ∀ (k : Nat) (f : Nat → Nat), (∀ j, f j < 16) → pt_S 16 k f &&& pt_S 16 k (fun _ => 3) = pt_S 16 k (fun j => f j % 4)
  | 0, _, _ => by simp [pt_S]
  | k + 1, f, h => by
    have ih := pt_S_lo16 k (fun j => f (j + 1)) (fun j => h (j + 1))
    have h0 := h 0
    show (f 0 + 16 * pt_S 16 k (fun j => f (j + 1))) &&& (3 + 16 * pt_S 16 k (fun _ => 3)) = f 0 % 4 + 16 * pt_S 16 k (fun j => f (j + 1) % 4)
    have e3 : f 0 &&& 3 = f 0 % 4 := Nat.and_two_pow_sub_one_eq_mod _ 2
    rw [pt_and_split (w := 4) rfl h0 (by omega), e3, ih]
theorem pt_S_lo256 : ∀ (k : Nat) (f : Nat → Nat), (∀ j, f j < 256) → pt_S 256 k f &&& pt_S 256 k (fun _ => 15) = pt_S 256 k (fun j => f j % 16)
  | 0, _, _ => by simp [pt_S]
  | k + 1, f, h => by
    have ih := pt_S_lo256 k (fun j => f (j + 1)) (fun j => h (j + 1))
    have h0 := h 0
    show (f 0 + 256 * pt_S 256 k (fun j => f (j + 1))) &&& (15 + 256 * pt_S 256 k (fun _ => 15)) = f 0 % 16 + 256 * pt_S 256 k (fun j => f (j + 1) % 16)
    have e3 : f 0 &&& 15 = f 0 % 16 := Nat.and_two_pow_sub_one_eq_mod _ 4
    rw [pt_and_split (w := 8) rfl h0 (by omega), e3, ih]
theorem pt_S_pair16 : ∀ (k : Nat) (f : Nat → Nat), pt_S 4 (2 * k) f = pt_S 16 k (fun j => f (2 * j) + 4 * f (2 * j + 1))
  | 0, _ => rfl
  | k + 1, f => by
    have ih := pt_S_pair16 k (fun j => f (j + 2))
    have e : pt_S 4 (2 * (k + 1)) f = f 0 + 4 * (f 1 + 4 * pt_S 4 (2 * k) (fun j => f (j + 2))) := rfl
    have e2 : pt_S 16 (k + 1) (fun j => f (2 * j) + 4 * f (2 * j + 1)) = f 0 + 4 * f 1 + 16 * pt_S 16 k (fun j => f (2 * j + 2) + 4 * f (2 * j + 1 + 2)) := rfl
    rw [e, e2, ih]
    omega
theorem pt_S_pair256 : ∀ (k : Nat) (f : Nat → Nat), pt_S 16 (2 * k) f = pt_S 256 k (fun j => f (2 * j) + 16 * f (2 * j + 1))
  | 0, _ => rfl
  | k + 1, f => by
    have ih := pt_S_pair256 k (fun j => f (j + 2))
    have e : pt_S 16 (2 * (k + 1)) f = f 0 + 16 * (f 1 + 16 * pt_S 16 (2 * k) (fun j => f (j + 2))) := rfl
    have e2 : pt_S 256 (k + 1) (fun j => f (2 * j) + 16 * f (2 * j + 1)) = f 0 + 16 * f 1 + 256 * pt_S 256 k (fun j => f (2 * j + 2) + 16 * f (2 * j + 1 + 2)) := rfl
    rw [e, e2, ih]
    omega
/-- the sum of the first k -/
def pt_T (b : Nat → Nat) : Nat → Nat
  | 0 => 0
  | k + 1 => pt_T b k + b k
theorem pt_T_pair (b : Nat → Nat) : ∀ k, pt_T b (2 * k) = pt_T (fun j => b (2 * j) + b (2 * j + 1)) k
  | 0 => rfl
  | k + 1 => by
    have ih := pt_T_pair b k
    have e : pt_T b (2 * (k + 1)) = pt_T b (2 * k) + b (2 * k) + b (2 * k + 1) := rfl
    have e2 : pt_T (fun j => b (2 * j) + b (2 * j + 1)) (k + 1) = pt_T (fun j => b (2 * j) + b (2 * j + 1)) k + (b (2 * k) + b (2 * k + 1)) := rfl
    rw [e, e2, ih, Nat.add_assoc]
theorem pt_T_congr {b c : Nat → Nat} (h : ∀ j, b j = c j) : ∀ k, pt_T b k = pt_T c k
  | 0 => rfl
  | k + 1 => by
    show pt_T b k + b k = pt_T c k + c k
    rw [pt_T_congr h k, h k]
theorem pt_T_le {b : Nat → Nat} {m : Nat} (h : ∀ j, b j ≤ m) : ∀ k, pt_T b k ≤ m * k
  | 0 => Nat.le_refl _
  | k + 1 => by
    have ih := pt_T_le h k
    have h0 := h k
    show pt_T b k + b k ≤ m * (k + 1)
    rw [Nat.mul_add, Nat.mul_one]
    omega
/-- the digits at each stage, from the bits b: two of them, four, eight -/
def pt_d2 (b : Nat → Nat) (j : Nat) : Nat := b (2 * j) + b (2 * j + 1)
theorem pt_stage1 {n : Nat} (h : n < 18446744073709551616) :
    (n / 2 &&& 6148914691236517205) ≤ n ∧ n - (n / 2 &&& 6148914691236517205) = pt_S 4 32 (pt_d2 (fun i => n / 2 ^ i % 2)) := by
  have e0 : pt_S 4 32 (fun j => n / 4 ^ j % 4) = n := pt_S_digits 4 32 n (by exact h)
  have e1 := pt_S_hi4 32 (fun j => n / 4 ^ j % 4) (fun j => Nat.mod_lt _ (by decide))
  have em : pt_S 4 32 (fun _ => 2 - 1) = 6148914691236517205 := by decide
  have em' : pt_S 4 32 (fun _ => 1) = 6148914691236517205 := em
  rw [e0, em'] at e1
  obtain ⟨h1, h2⟩ := pt_S_sub 4 32 (fun j => n / 4 ^ j % 4) (fun j => n / 4 ^ j % 4 / 2) (fun j => Nat.div_le_self _ _)
  rw [e0] at h1 h2
  rw [e1]
  refine ⟨h1, h2.trans (pt_S_congr 32 _ _ (fun j => ?_))⟩
  show n / 4 ^ j % 4 - n / 4 ^ j % 4 / 2 = n / 2 ^ (2 * j) % 2 + n / 2 ^ (2 * j + 1) % 2
  have p4 : 4 ^ j = 2 ^ (2 * j) := by rw [Nat.pow_mul]
  rw [p4, Nat.pow_succ, ← Nat.div_div_eq_div_mul]
  omega
theorem pt_stage2 (c : Nat → Nat) (hc : ∀ j, c j ≤ 2) :
    (pt_S 4 32 c &&& 3689348814741910323) + (pt_S 4 32 c / 4 &&& 3689348814741910323) = pt_S 16 16 (pt_d2 c) := by
  have e0 := pt_S_pair16 16 c
  have e0' : pt_S 4 32 c = pt_S 16 16 (fun j => c (2 * j) + 4 * c (2 * j + 1)) := e0
  have hb : ∀ j, c (2 * j) + 4 * c (2 * j + 1) < 16 := fun j => by
    have := hc (2 * j)
    have := hc (2 * j + 1)
    omega
  have e1 := pt_S_lo16 16 (fun j => c (2 * j) + 4 * c (2 * j + 1)) hb
  have e2 := pt_S_hi16 16 (fun j => c (2 * j) + 4 * c (2 * j + 1)) hb
  have em : pt_S 16 16 (fun _ => 3) = 3689348814741910323 := by decide
  rw [em] at e1 e2
  rw [e0', e1, e2, pt_S_add]
  refine pt_S_congr 16 _ _ (fun j => ?_)
  show (c (2 * j) + 4 * c (2 * j + 1)) % 4 + (c (2 * j) + 4 * c (2 * j + 1)) / 4 = c (2 * j) + c (2 * j + 1)
  have := hc (2 * j)
  omega
theorem pt_stage3 (d : Nat → Nat) (hd : ∀ j, d j ≤ 4) (h16 : d 16 = 0) :
    pt_S 16 16 d + pt_S 16 16 d / 16 < 18446744073709551616 ∧ ((pt_S 16 16 d + pt_S 16 16 d / 16) &&& 1085102592571150095) = pt_S 256 8 (pt_d2 d) := by
  have e1 : pt_S 16 16 d / 16 = pt_S 16 16 (fun j => d (j + 1)) := pt_S_div 16 d (by decide) (by have := hd 0; omega) h16
  have hs : ∀ j, d j + d (j + 1) < 16 := fun j => by
    have := hd j
    have := hd (j + 1)
    omega
  have e2 : pt_S 16 16 (fun j => d j + d (j + 1)) = pt_S 256 8 (fun j => d (2 * j) + d (2 * j + 1) + 16 * (d (2 * j + 1) + d (2 * j + 1 + 1))) := pt_S_pair256 8 (fun j => d j + d (j + 1))
  have hlt := pt_S_lt 16 16 (fun j => d j + d (j + 1)) hs
  have e3 := pt_S_lo256 8 (fun j => d (2 * j) + d (2 * j + 1) + 16 * (d (2 * j + 1) + d (2 * j + 1 + 1))) (fun j => by
    have := hs (2 * j)
    have := hs (2 * j + 1)
    omega)
  have em : pt_S 256 8 (fun _ => 15) = 1085102592571150095 := by decide
  rw [em] at e3
  rw [e1, pt_S_add]
  refine ⟨hlt, ?_⟩
  rw [e2, e3]
  refine pt_S_congr 8 _ _ (fun j => ?_)
  show (d (2 * j) + d (2 * j + 1) + 16 * (d (2 * j + 1) + d (2 * j + 1 + 1))) % 16 = d (2 * j) + d (2 * j + 1)
  have := hs (2 * j)
  omega
theorem pt_stage4 (p : Nat → Nat) (hp : ∀ j, p j ≤ 8) (h8 : ∀ j, p (8 + j) = 0) :
    pt_S 256 8 p + pt_S 256 8 p / 2 ^ 8 < 18446744073709551616 ∧
    pt_S 256 8 p + pt_S 256 8 p / 2 ^ 8 + (pt_S 256 8 p + pt_S 256 8 p / 2 ^ 8) / 2 ^ 16 < 18446744073709551616 ∧
    ∃ t, pt_S 256 8 p + pt_S 256 8 p / 2 ^ 8 + (pt_S 256 8 p + pt_S 256 8 p / 2 ^ 8) / 2 ^ 16 + (pt_S 256 8 p + pt_S 256 8 p / 2 ^ 8 + (pt_S 256 8 p + pt_S 256 8 p / 2 ^ 8) / 2 ^ 16) / 2 ^ 32 = pt_S 256 8 t ∧ (∀ j, t j ≤ 64) ∧ t 0 = pt_T p 8 := by
  have z : ∀ j, 8 ≤ j → p j = 0 := fun j h => by
    have := h8 (j - 8)
    rwa [show 8 + (j - 8) = j by omega] at this
  have sh : ∀ (f : Nat → Nat), (∀ j, f j < 256) → (∀ j, 8 ≤ j → f j = 0) → pt_S 256 8 f / 256 = pt_S 256 8 (fun j => f (j + 1)) := fun f h1 h2 => pt_S_div 8 f (by decide) (h1 0) (h2 8 (by omega))
  have a1 : pt_S 256 8 p / 2 ^ 8 = pt_S 256 8 (fun j => p (j + 1)) := sh p (fun j => by have := hp j; omega) z
  rw [a1, pt_S_add]
  have hq : ∀ j, p j + p (j + 1) ≤ 16 := fun j => by
    have := hp j
    have := hp (j + 1)
    omega
  have zq : ∀ j, 8 ≤ j → p j + p (j + 1) = 0 := fun j h => by rw [z j h, z (j + 1) (by omega)]
  have l1 := pt_S_lt 256 8 (fun j => p j + p (j + 1)) (fun j => by have := hq j; omega)
  have a2 : pt_S 256 8 (fun j => p j + p (j + 1)) / 2 ^ 16 = pt_S 256 8 (fun j => p (j + 2) + p (j + 3)) := by
    rw [show (2 : Nat) ^ 16 = 256 * 256 from rfl, ← Nat.div_div_eq_div_mul, sh _ (fun j => by have := hq j; omega) zq]
    exact sh (fun j => p (j + 1) + p (j + 1 + 1)) (fun j => by have := hq (j + 1); omega) (fun j h => zq (j + 1) (by omega))
  rw [a2, pt_S_add]
  have hr : ∀ j, p j + p (j + 1) + (p (j + 2) + p (j + 3)) ≤ 32 := fun j => by
    have h1 : p j + p (j + 1) ≤ 16 := hq j
    have h2 : p (j + 2) + p (j + 3) ≤ 16 := hq (j + 2)
    omega
  have zr : ∀ j, 8 ≤ j → p j + p (j + 1) + (p (j + 2) + p (j + 3)) = 0 := fun j h => by rw [z j h, z (j + 1) (by omega), z (j + 2) (by omega), z (j + 3) (by omega)]
  have l2 := pt_S_lt 256 8 (fun j => p j + p (j + 1) + (p (j + 2) + p (j + 3))) (fun j => by have := hr j; omega)
  have a3 : pt_S 256 8 (fun j => p j + p (j + 1) + (p (j + 2) + p (j + 3))) / 2 ^ 32 = pt_S 256 8 (fun j => p (j + 4) + p (j + 5) + (p (j + 6) + p (j + 7))) := by
    rw [show (2 : Nat) ^ 32 = 256 * 256 * 256 * 256 from rfl, ← Nat.div_div_eq_div_mul, ← Nat.div_div_eq_div_mul, ← Nat.div_div_eq_div_mul, sh _ (fun j => by have := hr j; omega) zr]
    rw [sh (fun j => p (j + 1) + p (j + 1 + 1) + (p (j + 1 + 2) + p (j + 1 + 3))) (fun j => by have := hr (j + 1); omega) (fun j h => zr (j + 1) (by omega))]
    rw [sh (fun j => p (j + 1 + 1) + p (j + 1 + 1 + 1) + (p (j + 1 + 1 + 2) + p (j + 1 + 1 + 3))) (fun j => by have := hr (j + 1 + 1); omega) (fun j h => zr (j + 1 + 1) (by omega))]
    exact sh (fun j => p (j + 1 + 1 + 1) + p (j + 1 + 1 + 1 + 1) + (p (j + 1 + 1 + 1 + 2) + p (j + 1 + 1 + 1 + 3))) (fun j => by have := hr (j + 1 + 1 + 1); omega) (fun j h => zr (j + 1 + 1 + 1) (by omega))
  rw [a3, pt_S_add]
  refine ⟨l1, l2, _, rfl, fun j => ?_, ?_⟩
  · have h1 : p j + p (j + 1) + (p (j + 2) + p (j + 3)) ≤ 32 := hr j
    have h2 : p (j + 4) + p (j + 5) + (p (j + 6) + p (j + 7)) ≤ 32 := hr (j + 4)
    show p j + p (j + 1) + (p (j + 2) + p (j + 3)) + (p (j + 4) + p (j + 5) + (p (j + 6) + p (j + 7))) ≤ 64
    omega
  · show p 0 + p 1 + (p 2 + p 3) + (p 4 + p 5 + (p 6 + p 7)) = 0 + p 0 + p 1 + p 2 + p 3 + p 4 + p 5 + p 6 + p 7
    omega
/-- Long.bitCount's steps, as the machine has them -/
def pt_c1 (x : Int64) : Int64 := x - (pt_ushr x 1 &&& 6148914691236517205)
def pt_c2 (x : Int64) : Int64 := (x &&& 3689348814741910323) + (pt_ushr x 2 &&& 3689348814741910323)
def pt_c3 (x : Int64) : Int64 := (x + pt_ushr x 4) &&& 1085102592571150095
def pt_c4 (x : Int64) : Int64 := x + pt_ushr x 8
def pt_c5 (x : Int64) : Int64 := x + pt_ushr x 16
def pt_c6 (x : Int64) : Int64 := x + pt_ushr x 32
def pt_bc (x : Int64) : Int32 := (pt_c6 (pt_c5 (pt_c4 (pt_c3 (pt_c2 (pt_c1 x)))))).toInt32 &&& 127
/-- the reference's count of bits, after k of them -/
def pt_cnt (v : Int64) : Nat → Int32
  | 0 => 0
  | k + 1 => pt_cnt v k + (pt_ushr v (nI k) &&& 1).toInt32
def pt_bits (v : Int64) : Int32 := pt_cnt v 64
theorem pt_cnt_T (v : Int64) : ∀ k, k ≤ 64 → pt_cnt v k = nI (pt_T (fun i => pt_u v / 2 ^ i % 2) k)
  | 0, _ => rfl
  | k + 1, h => by
    have ih := pt_cnt_T v k (by omega)
    have e : pt_ushr v (nI k) &&& 1 = lN (pt_u v / 2 ^ k % 2) := by
      apply pt_u_inj
      have e1 : pt_u (1 : Int64) = 2 ^ 1 - 1 := by decide
      rw [pt_u_and, pt_u_shr v (by omega), e1, Nat.and_two_pow_sub_one_eq_mod, pt_u_lN (by omega)]
    show pt_cnt v k + (pt_ushr v (nI k) &&& 1).toInt32 = nI (pt_T (fun i => pt_u v / 2 ^ i % 2) k + pt_u v / 2 ^ k % 2)
    rw [ih, e, lN_i, nI_add]
theorem pt_d2_le {b : Nat → Nat} {m m2 : Nat} (h : ∀ j, b j ≤ m) (e : m + m ≤ m2) : ∀ j, pt_d2 b j ≤ m2 := fun j => Nat.le_trans (Nat.add_le_add (h (2 * j)) (h (2 * j + 1))) e
theorem pt_d2_z {b : Nat → Nat} {m m2 : Nat} (h : ∀ j, m2 ≤ j → b j = 0) (e : m2 ≤ 2 * m) : ∀ j, m ≤ j → pt_d2 b j = 0 := fun j hj => by
  show b (2 * j) + b (2 * j + 1) = 0
  rw [h _ (by omega), h _ (by omega)]
theorem pt_fin {t r m : Nat} (h : t ≤ 64) (e : m = t + 256 * r) : m % 2 ^ 32 % 2 ^ 7 = t := by omega
set_option maxHeartbeats 4000000 in
set_option maxRecDepth 20000 in
theorem pt_bc_T (v : Int64) : pt_bc v = nI (pt_T (fun i => pt_u v / 2 ^ i % 2) 64) ∧ pt_T (fun i => pt_u v / 2 ^ i % 2) 64 ≤ 64 := by
  have hv := pt_u_lt v
  generalize hb : (fun i => pt_u v / 2 ^ i % 2) = b
  have hb1 : ∀ i, b i ≤ 1 := fun i => by
    rw [← hb]
    show pt_u v / 2 ^ i % 2 ≤ 1
    omega
  have hb0 : ∀ i, 64 ≤ i → b i = 0 := fun i hi => by
    rw [← hb]
    show pt_u v / 2 ^ i % 2 = 0
    have : 2 ^ 64 ≤ 2 ^ i := Nat.pow_le_pow_right (by decide) hi
    rw [Nat.div_eq_of_lt (by omega)]
  -- 1
  have m5 : pt_u (6148914691236517205 : Int64) = 6148914691236517205 := by decide +kernel
  have m3 : pt_u (3689348814741910323 : Int64) = 3689348814741910323 := by decide +kernel
  have mf : pt_u (1085102592571150095 : Int64) = 1085102592571150095 := by decide +kernel
  obtain ⟨s1, s1'⟩ := pt_stage1 hv
  rw [hb] at s1'
  have u1 : pt_u (pt_c1 v) = pt_S 4 32 (pt_d2 b) := by
    have e : pt_u (pt_ushr v 1 &&& 6148914691236517205) = pt_u v / 2 &&& 6148914691236517205 := by
      rw [pt_u_and, m5]
      exact congrArg (· &&& 6148914691236517205) (pt_u_shr v (k := 1) (by decide))
    show pt_u (v - (pt_ushr v 1 &&& 6148914691236517205)) = _
    rw [pt_u_sub (by rw [e]; exact s1), e]
    exact s1'
  have hc2 : ∀ j, pt_d2 b j ≤ 2 := pt_d2_le hb1 (by decide)
  have hd4 : ∀ j, pt_d2 (pt_d2 b) j ≤ 4 := pt_d2_le hc2 (by decide)
  have hp8 : ∀ j, pt_d2 (pt_d2 (pt_d2 b)) j ≤ 8 := pt_d2_le hd4 (by decide)
  have zc : ∀ j, 32 ≤ j → pt_d2 b j = 0 := pt_d2_z hb0 (by decide)
  have zd : ∀ j, 16 ≤ j → pt_d2 (pt_d2 b) j = 0 := pt_d2_z zc (by decide)
  have zp : ∀ j, pt_d2 (pt_d2 (pt_d2 b)) (8 + j) = 0 := fun j => pt_d2_z zd (m := 8) (by decide) _ (Nat.le_add_right _ _)
  -- 2
  have s2 := pt_stage2 (pt_d2 b) hc2
  have l2 := pt_S_lt 16 16 (pt_d2 (pt_d2 b)) (fun j => Nat.lt_of_le_of_lt (hd4 j) (by decide))
  have u2 : pt_u (pt_c2 (pt_c1 v)) = pt_S 16 16 (pt_d2 (pt_d2 b)) := by
    have e : pt_u (pt_ushr (pt_c1 v) 2) = pt_S 4 32 (pt_d2 b) / 4 := by
      rw [← u1]
      exact pt_u_shr (pt_c1 v) (k := 2) (by decide)
    show pt_u ((pt_c1 v &&& 3689348814741910323) + (pt_ushr (pt_c1 v) 2 &&& 3689348814741910323)) = _
    rw [pt_u_add, pt_u_and, pt_u_and, m3, u1, e, s2]
    exact Nat.mod_eq_of_lt l2
  -- 3
  obtain ⟨l3, s3⟩ := pt_stage3 (pt_d2 (pt_d2 b)) hd4 (zd 16 (Nat.le_refl _))
  have u3 : pt_u (pt_c3 (pt_c2 (pt_c1 v))) = pt_S 256 8 (pt_d2 (pt_d2 (pt_d2 b))) := by
    have e : pt_u (pt_ushr (pt_c2 (pt_c1 v)) 4) = pt_S 16 16 (pt_d2 (pt_d2 b)) / 16 := by
      rw [← u2]
      exact pt_u_shr (pt_c2 (pt_c1 v)) (k := 4) (by decide)
    show pt_u ((pt_c2 (pt_c1 v) + pt_ushr (pt_c2 (pt_c1 v)) 4) &&& 1085102592571150095) = _
    rw [pt_u_and, pt_u_add, mf, u2, e, Nat.mod_eq_of_lt l3]
    exact s3
  -- 4, 5, 6
  obtain ⟨l4, l5, t, s6, ht, ht0⟩ := pt_stage4 (pt_d2 (pt_d2 (pt_d2 b))) hp8 zp
  generalize hX : pt_S 256 8 (pt_d2 (pt_d2 (pt_d2 b))) = X at u3 l4 l5 s6
  have u4 : pt_u (pt_c4 (pt_c3 (pt_c2 (pt_c1 v)))) = X + X / 2 ^ 8 := by
    have e : pt_u (pt_ushr (pt_c3 (pt_c2 (pt_c1 v))) 8) = X / 2 ^ 8 := by
      rw [← u3]
      exact pt_u_shr _ (k := 8) (by decide)
    show pt_u (pt_c3 (pt_c2 (pt_c1 v)) + pt_ushr (pt_c3 (pt_c2 (pt_c1 v))) 8) = _
    rw [pt_u_add, u3, e, Nat.mod_eq_of_lt l4]
  generalize hY : X + X / 2 ^ 8 = Y at u4 l4 l5 s6
  have u5 : pt_u (pt_c5 (pt_c4 (pt_c3 (pt_c2 (pt_c1 v))))) = Y + Y / 2 ^ 16 := by
    have e : pt_u (pt_ushr (pt_c4 (pt_c3 (pt_c2 (pt_c1 v)))) 16) = Y / 2 ^ 16 := by
      rw [← u4]
      exact pt_u_shr _ (k := 16) (by decide)
    show pt_u (pt_c4 (pt_c3 (pt_c2 (pt_c1 v))) + pt_ushr (pt_c4 (pt_c3 (pt_c2 (pt_c1 v)))) 16) = _
    rw [pt_u_add, u4, e, Nat.mod_eq_of_lt l5]
  generalize hZ : Y + Y / 2 ^ 16 = Z at u5 l5 s6
  have l6 := pt_S_lt 256 8 t (fun j => Nat.lt_of_le_of_lt (ht j) (by decide))
  have u6 : pt_u (pt_c6 (pt_c5 (pt_c4 (pt_c3 (pt_c2 (pt_c1 v)))))) = pt_S 256 8 t := by
    have e : pt_u (pt_ushr (pt_c5 (pt_c4 (pt_c3 (pt_c2 (pt_c1 v))))) 32) = Z / 2 ^ 32 := by
      rw [← u5]
      exact pt_u_shr _ (k := 32) (by decide)
    show pt_u (pt_c5 (pt_c4 (pt_c3 (pt_c2 (pt_c1 v)))) + pt_ushr (pt_c5 (pt_c4 (pt_c3 (pt_c2 (pt_c1 v))))) 32) = _
    rw [pt_u_add, u5, e, s6]
    exact Nat.mod_eq_of_lt l6
  have hT : pt_T b 64 = pt_T (pt_d2 (pt_d2 (pt_d2 b))) 8 := (pt_T_pair b 32).trans ((pt_T_pair (pt_d2 b) 16).trans (pt_T_pair (pt_d2 (pt_d2 b)) 8))
  have hle : pt_T b 64 ≤ 1 * 64 := pt_T_le hb1 64
  refine ⟨?_, hle⟩
  have e6 : pt_c6 (pt_c5 (pt_c4 (pt_c3 (pt_c2 (pt_c1 v))))) = lN (pt_S 256 8 t) := by rw [← u6]; exact pt_u_of _
  have eS : pt_S 256 8 t = t 0 + 256 * pt_S 256 7 (fun j => t (j + 1)) := rfl
  show (pt_c6 (pt_c5 (pt_c4 (pt_c3 (pt_c2 (pt_c1 v)))))).toInt32 &&& 127 = _
  rw [e6, lN_i, pk_and (nI (pt_S 256 8 t)) (m := 127) 7 (by decide)]
  have e7 : (nI (pt_S 256 8 t)).toBitVec.toNat = pt_S 256 8 t % 2 ^ 32 := rfl
  rw [e7, hT, ← ht0]
  exact congrArg nI (pt_fin (ht 0) eS)
theorem pt_bc_bits (v : Int64) : pt_bc v = pt_bits v := by
  rw [(pt_bc_T v).1]
  exact (pt_cnt_T v 64 (Nat.le_refl _)).symm
theorem pt_bits_N (v : Int64) : ∃ k, k ≤ 64 ∧ pt_bits v = nI k := ⟨_, (pt_bc_T v).2, by rw [← pt_bc_bits]; exact (pt_bc_T v).1⟩
end
section
/-! Pure: bits of longs; masks; what the class and the reference ask of a row; the search for the first; the count of free words; the next free word. -/
def pt_b (x : Int64) (i : Nat) : Bool := x.toBitVec.getLsbD i
theorem pt_b_ext {x y : Int64} (h : ∀ i, i < 64 → pt_b x i = pt_b y i) : x = y := Int64.toBitVec_inj.mp (BitVec.eq_of_getLsbD_eq h)
theorem pt_b_and (x y : Int64) (i : Nat) : pt_b (x &&& y) i = (pt_b x i && pt_b y i) := by simp [pt_b]
theorem pt_b_or (x y : Int64) (i : Nat) : pt_b (x ||| y) i = (pt_b x i || pt_b y i) := by simp [pt_b]
theorem pt_b_xor (x y : Int64) (i : Nat) : pt_b (x ^^^ y) i = (pt_b x i ^^ pt_b y i) := by simp [pt_b]
theorem pt_b_0 (i : Nat) : pt_b 0 i = false := by
  have : (0 : Int64).toBitVec = 0#64 := by decide
  simp [pt_b, this]
theorem pt_b_m1 {i : Nat} (h : i < 64) : pt_b (-1) i = true := by
  have : (-1 : Int64).toBitVec = BitVec.allOnes 64 := by decide
  rw [pt_b, this, BitVec.getLsbD_allOnes, decide_eq_true h]
theorem pt_b_eq0 {x : Int64} : x = 0 ↔ ∀ i, i < 64 → pt_b x i = false :=
  ⟨fun h i _ => by rw [h]; exact pt_b_0 i, fun h => pt_b_ext fun i hi => by rw [h i hi, pt_b_0]⟩
theorem pt_bit_bv : ∀ p, p < 64 → (pt_shl 1 (nI p)).toBitVec = BitVec.twoPow 64 p := by decide +kernel
theorem pt_from_bv : ∀ p, p < 64 → (pt_shl (-1) (nI p)).toBitVec = BitVec.allOnes 64 <<< p := by decide +kernel
/-- the lowest n bits, as the class has them -/
def pt_mk (n : Nat) : Int64 := pt_ushr (-1) (64 - nI n)
theorem pt_mk_bv : ∀ n, n < 65 → 1 ≤ n → (pt_mk n).toBitVec = BitVec.allOnes 64 >>> (64 - n) := by decide +kernel
/-- .. and as the reference has them -/
theorem pt_mk_ref : ∀ n, n < 65 → 1 ≤ n → (if nI n = 64 then (-1 : Int64) else pt_shl 1 (nI n) - 1) = pt_mk n := by decide +kernel
theorem pt_b_bit {p : Nat} (hp : p < 64) (i : Nat) : pt_b (pt_shl 1 (nI p)) i = decide (p = i) := by
  rw [pt_b, pt_bit_bv p hp, BitVec.getLsbD_twoPow]
  simp [hp]
theorem pt_b_from {p : Nat} (hp : p < 64) {i : Nat} (hi : i < 64) : pt_b (pt_shl (-1) (nI p)) i = decide (p ≤ i) := by
  rw [pt_b, pt_from_bv p hp, BitVec.getLsbD_shiftLeft, BitVec.getLsbD_allOnes, decide_eq_true hi, decide_eq_true (show i - p < 64 by omega)]
  by_cases h : p ≤ i
  · rw [decide_eq_true h, decide_eq_false (show ¬ i < p by omega)]; rfl
  · rw [decide_eq_false h, decide_eq_true (show i < p by omega)]; rfl
theorem pt_b_mk {n : Nat} (h1 : 1 ≤ n) (h2 : n ≤ 64) (i : Nat) : pt_b (pt_mk n) i = decide (i < n) := by
  rw [pt_b, pt_mk_bv n (by omega) h1, BitVec.getLsbD_ushiftRight, BitVec.getLsbD_allOnes]
  by_cases h : i < n
  · rw [decide_eq_true h, decide_eq_true (show 64 - n + i < 64 by omega)]
  · rw [decide_eq_false h, decide_eq_false (show ¬ 64 - n + i < 64 by omega)]
theorem pt_b_u (x : Int64) (i : Nat) : pt_b x i = decide (pt_u x / 2 ^ i % 2 = 1) := by
  show x.toBitVec.toNat.testBit i = _
  rw [Nat.testBit_eq_decide_div_mod_eq]
  rfl
theorem pt_T_ge {b : Nat → Nat} {i : Nat} : ∀ k, i < k → b i ≤ pt_T b k
  | 0, h => by omega
  | k + 1, h => by
    show b i ≤ pt_T b k + b k
    by_cases e : i = k
    · rw [e]; omega
    · have := pt_T_ge (b := b) k (show i < k by omega)
      omega
/-- a long with a bit has bits to count -/
theorem pt_bits_ne {x : Int64} {i : Nat} (hi : i < 64) (h : pt_b x i = true) : ¬ pt_bits x = 0 := by
  rw [← pt_bc_bits, (pt_bc_T x).1]
  have hle := (pt_bc_T x).2
  have hge := pt_T_ge (b := fun i => pt_u x / 2 ^ i % 2) 64 hi
  rw [pt_b_u] at h
  have h : pt_u x / 2 ^ i % 2 = 1 := of_decide_eq_true h
  have hge : pt_u x / 2 ^ i % 2 ≤ pt_T (fun i => pt_u x / 2 ^ i % 2) 64 := hge
  exact nI_ne0 (by omega) (by omega)
/-- how many words have these bits told: 2 to the number of the open ones (2^64 as 0) -/
def pt_words (n : Nat) (c : Int64) : Int64 := if (64 : Int32) ≤ nI n - pt_bits c then 0 else pt_shl 1 (nI n - pt_bits c)
theorem pt_words_ref {n : Nat} (h : n ≤ 64) (c : Int64) : (if nI n - pt_bits c = 64 then (0 : Int64) else pt_shl 1 (nI n - pt_bits c)) = pt_words n c := by
  obtain ⟨k, hk, e⟩ := pt_bits_N c
  unfold pt_words
  rw [e]
  by_cases hkn : k ≤ n
  · rw [pk_sub hkn]
    by_cases e2 : n - k = 64
    · rw [e2, if_pos (show nI 64 = 64 from rfl), if_pos (show (64 : Int32) ≤ nI 64 from Int32.le_refl _)]
    · rw [if_neg (show ¬ nI (n - k) = (64 : Int32) from fun z => e2 ((nI_eq (by omega) (by omega)).mp (show nI (n - k) = nI 64 from z))), if_neg (show ¬ (64 : Int32) ≤ nI (n - k) from nI_ge (b := 64) (by omega) (by omega))]
  · have hn : (nI n - nI k).toInt = (n : Int) - k := pk_sub_toInt (by omega) (by omega)
    have h64 : (64 : Int32).toInt = 64 := by decide
    rw [if_neg, if_neg]
    · rw [Int32.le_iff_toInt_le, hn, h64]; omega
    · intro z
      have z2 := congrArg Int32.toInt z
      rw [hn] at z2
      have : (64 : Int32).toInt = 64 := by decide
      rw [this] at z2
      omega
/-- the row (care a, want b) shares a word with (c, w): no bit that both tell, and tell differently -/
def pt_sh (a b c w : Int64) : Prop := (a &&& c) &&& (b ^^^ w) = 0
theorem pt_sh_ref (a b c w m : Int64) : (((b ^^^ w) &&& a) &&& c) &&& m = 0 ↔ pt_sh a b (c &&& m) (w &&& m) := by
  have e : (((b ^^^ w) &&& a) &&& c) &&& m = (a &&& (c &&& m)) &&& (b ^^^ (w &&& m)) := by
    apply pt_b_ext
    intro i _
    simp only [pt_b_and, pt_b_xor]
    cases pt_b a i <;> cases pt_b b i <;> cases pt_b c i <;> cases pt_b w i <;> cases pt_b m i <;> rfl
  unfold pt_sh
  rw [e]
/-- a compare of longs that is 0 -/
theorem pt_cmp0 {x y : Int64} : lg_cmp x y = 0 ↔ x = y := lg_cmp_eq x y
/-- want is 1 where care isn't -/
def pt_stray (n : Nat) (c w : Int64) : Prop := ¬ w &&& (c ^^^ (-1)) &&& pt_mk n = 0
theorem pt_or_ref {a x m : Int64} (h : a &&& m = a) : (x ||| a) &&& m = a ||| (x &&& m) := by
  apply pt_b_ext
  intro i _
  have z := congrArg (fun y => pt_b y i) h
  simp only [pt_b_and, pt_b_or] at z ⊢
  revert z
  cases pt_b a i <;> cases pt_b x i <;> cases pt_b m i <;> decide
/-- decode: of a row inside its mask, want inside care -/
theorem pt_sh_dec {a b m : Int64} (w : Int64) (h1 : a &&& m = a) (h2 : b &&& a = b) : pt_sh a b m (w &&& m) ↔ w &&& a = b := by
  unfold pt_sh
  rw [pt_b_eq0]
  constructor
  · intro h
    apply pt_b_ext
    intro i hi
    have e := h i hi
    have e1 := congrArg (fun x => pt_b x i) h1
    have e2 := congrArg (fun x => pt_b x i) h2
    simp only [pt_b_and, pt_b_xor] at e e1 e2 ⊢
    revert e e1 e2
    cases pt_b a i <;> cases pt_b b i <;> cases pt_b w i <;> cases pt_b m i <;> decide
  · intro h i hi
    have e := congrArg (fun x => pt_b x i) h
    have e1 := congrArg (fun x => pt_b x i) h1
    simp only [pt_b_and, pt_b_xor] at e e1 ⊢
    revert e e1
    cases pt_b a i <;> cases pt_b b i <;> cases pt_b w i <;> cases pt_b m i <;> decide
/-- two rows that a word is of both share it -/
theorem pt_sh_two {a b a' b' m w : Int64} (h1 : a &&& m = a) (h : pt_sh a b m w) (h' : pt_sh a' b' m w) : (a &&& a') &&& (b ^^^ b') = 0 := by
  rw [pt_b_eq0]
  intro i hi
  have e := pt_b_eq0.mp h i hi
  have e' := pt_b_eq0.mp h' i hi
  have e1 := congrArg (fun x => pt_b x i) h1
  simp only [pt_b_and, pt_b_xor] at e e' e1 ⊢
  revert e e' e1
  cases pt_b a i <;> cases pt_b b i <;> cases pt_b a' i <;> cases pt_b b' i <;> cases pt_b w i <;> cases pt_b m i <;> decide
/-- r is the first of 0 .. n-1 of which P holds, -1 if of none -/
def pt_F (P : Nat → Prop) (n : Nat) (r : Int32) : Prop := (r = -1 ∧ ∀ j, j < n → ¬ P j) ∨ ∃ i, i < n ∧ P i ∧ (∀ j, j < i → ¬ P j) ∧ r = nI i
theorem pt_F_unique {P Q : Nat → Prop} {n : Nat} {r r' : Int32} (hPQ : ∀ j, j < n → (P j ↔ Q j)) (h : pt_F P n r) (h' : pt_F Q n r') : r = r' := by
  rcases h with ⟨e, h⟩ | ⟨i, hi, hp, hm, e⟩
  · rcases h' with ⟨e', -⟩ | ⟨i', hi', hp', -, -⟩
    · rw [e, e']
    · exact absurd ((hPQ i' hi').mpr hp') (h i' hi')
  · rcases h' with ⟨-, h'⟩ | ⟨i', hi', hp', hm', e'⟩
    · exact absurd ((hPQ i hi).mp hp) (h' i hi)
    · rcases Nat.lt_trichotomy i i' with z | z | z
      · exact absurd ((hPQ i hi).mp hp) (hm' i z)
      · rw [e, e', z]
      · exact absurd ((hPQ i' hi').mpr hp') (hm i' z)
theorem pt_F_neg {P : Nat → Prop} {n : Nat} {r : Int32} (hn : n ≤ 512) (h : pt_F P n r) : r < 0 ↔ r = -1 := by
  rcases h with ⟨e, -⟩ | ⟨i, hi, -, -, e⟩
  · rw [e]; decide
  · constructor
    · intro z; rw [e] at z; exact absurd z (nI_pos (by omega))
    · intro z; rw [z]; decide
theorem pt_F_none {P : Nat → Prop} {n : Nat} {r : Int32} (hn : n ≤ 512) (h : pt_F P n r) : r = -1 ↔ ∀ j, j < n → ¬ P j := by
  rcases h with ⟨e, h⟩ | ⟨i, hi, hp, -, e⟩
  · exact ⟨fun _ => h, fun _ => e⟩
  · constructor
    · intro z
      rw [e] at z
      have := nI_pos (n := i) (by omega)
      rw [z] at this
      exact absurd (by decide) this
    · intro z; exact absurd hp (z i hi)
/-- the free words of (c, w), after i rows -/
noncomputable def pt_fw (n : Nat) (fc fv : Nat → Int64) (c w : Int64) : Nat → Int64
  | 0 => pt_words n c
  | i + 1 => @ite _ (pt_sh (fc i) (fv i) c w) (Classical.propDecidable _) (pt_fw n fc fv c w i - pt_words n (fc i ||| c)) (pt_fw n fc fv c w i)
theorem pt_fw_yes {n : Nat} {fc fv : Nat → Int64} {c w : Int64} {i : Nat} (h : pt_sh (fc i) (fv i) c w) : pt_fw n fc fv c w (i + 1) = pt_fw n fc fv c w i - pt_words n (fc i ||| c) := if_pos h
theorem pt_fw_no {n : Nat} {fc fv : Nat → Int64} {c w : Int64} {i : Nat} (h : ¬ pt_sh (fc i) (fv i) c w) : pt_fw n fc fv c w (i + 1) = pt_fw n fc fv c w i := if_neg h
/-- what is always so of the rows -/
def pt_I (k n : Nat) (fc fv : Nat → Int64) : Prop :=
  k ≤ 512 ∧ 1 ≤ n ∧ n ≤ 64 ∧ (∀ j, j < k → fc j &&& pt_mk n = fc j) ∧ (∀ j, j < k → fv j &&& fc j = fv j) ∧ ∀ i j, i < j → j < k → ¬ (fc i &&& fc j) &&& (fv i ^^^ fv j) = 0
theorem pt_I_0 {fc fv : Nat → Int64} {n : Nat} (h1 : 1 ≤ n) (h2 : n ≤ 64) : pt_I 0 n fc fv :=
  ⟨by omega, h1, h2, fun j h => by omega, fun j h => by omega, fun i j _ h => by omega⟩
theorem pt_mk_and {n : Nat} (c : Int64) : (c &&& pt_mk n) &&& pt_mk n = c &&& pt_mk n := by
  rw [Int64.and_assoc, Int64.and_self]
theorem pt_I_add {k n : Nat} {fc fv : Nat → Int64} {c w : Int64} (h : pt_I k n fc fv) (hk : k < 512) (hw : w &&& (c ^^^ (-1)) &&& pt_mk n = 0)
    (hn : ∀ j, j < k → ¬ pt_sh (fc j) (fv j) (c &&& pt_mk n) (w &&& pt_mk n)) : pt_I (k + 1) n (vp_updL fc k (c &&& pt_mk n)) (vp_updL fv k (w &&& pt_mk n)) := by
  obtain ⟨-, h1, h2, h3, h4, h5⟩ := h
  refine ⟨by omega, h1, h2, fun j hj => ?_, fun j hj => ?_, fun i j hij hj => ?_⟩
  · by_cases e : j = k
    · rw [e, pk_uLs, pt_mk_and]
    · rw [pk_uLn e]; exact h3 j (by omega)
  · by_cases e : j = k
    · rw [e, pk_uLs, pk_uLs]
      apply pt_b_ext
      intro i hi
      have z := pt_b_eq0.mp hw i hi
      simp only [pt_b_and, pt_b_xor, pt_b_m1 hi] at z ⊢
      revert z
      cases pt_b w i <;> cases pt_b c i <;> cases pt_b (pt_mk n) i <;> decide
    · rw [pk_uLn e, pk_uLn e]; exact h4 j (by omega)
  · rw [pk_uLn (show i ≠ k by omega), pk_uLn (show i ≠ k by omega)]
    by_cases e : j = k
    · rw [e, pk_uLs, pk_uLs]; exact hn i (by omega)
    · rw [pk_uLn e, pk_uLn e]; exact h5 i j hij (by omega)
/-- the rows after row i has gone: those behind it up to (not with) t moved up -/
def pt_mv (f : Nat → Int64) (i t : Nat) : Nat → Int64 := fun j => if i ≤ j ∧ j + 1 < t then f (j + 1) else f j
theorem pt_mv_0 (f : Nat → Int64) (i : Nat) : pt_mv f i (i + 1) = f := by
  funext j
  unfold pt_mv
  rw [if_neg (by omega)]
theorem pt_mv_s (f : Nat → Int64) {i t : Nat} (h : i < t) : vp_updL (pt_mv f i t) (t - 1) (pt_mv f i t t) = pt_mv f i (t + 1) := by
  funext j
  unfold vp_updL pt_mv
  rw [if_neg (show ¬ (i ≤ t ∧ t + 1 < t) by omega)]
  by_cases e : j = t - 1
  · rw [if_pos e, if_pos (by omega), show j + 1 = t by omega]
  · rw [if_neg e]
    by_cases e2 : i ≤ j ∧ j + 1 < t
    · rw [if_pos e2, if_pos (by omega)]
    · rw [if_neg e2, if_neg (by omega)]
theorem pt_mv_in {f : Nat → Int64} {i k j : Nat} (hj : j < k - 1) : pt_mv f i k j = f (if i ≤ j then j + 1 else j) := by
  unfold pt_mv
  by_cases e : i ≤ j
  · rw [if_pos e, if_pos ⟨e, by omega⟩]
  · rw [if_neg e, if_neg (by omega)]
theorem pt_I_drop {k n : Nat} {fc fv : Nat → Int64} {i : Nat} (h : pt_I k n fc fv) (hi : i < k) : pt_I (k - 1) n (pt_mv fc i k) (pt_mv fv i k) := by
  obtain ⟨h0, h1, h2, h3, h4, h5⟩ := h
  have g : ∀ j, j < k - 1 → (if i ≤ j then j + 1 else j) < k := fun j hj => by split <;> omega
  refine ⟨by omega, h1, h2, fun j hj => ?_, fun j hj => ?_, fun a b hab hb => ?_⟩
  · rw [pt_mv_in hj]; exact h3 _ (g j hj)
  · rw [pt_mv_in hj, pt_mv_in hj]; exact h4 _ (g j hj)
  · rw [pt_mv_in hb, pt_mv_in hb, pt_mv_in (show a < k - 1 by omega), pt_mv_in (show a < k - 1 by omega)]
    refine h5 _ _ ?_ (g b hb)
    split <;> split <;> omega
/-- one word: what the reference counts for it is 1, less one for each row that it is of -/
theorem pt_words_mk {n : Nat} (h1 : 1 ≤ n) (h2 : n ≤ 64) : pt_words n (pt_mk n) = 1 := by
  have : ∀ n, n < 65 → 1 ≤ n → pt_words n (pt_mk n) = 1 := by decide +kernel
  exact this n (by omega) h1
theorem pt_one_le {k n : Nat} {fc fv : Nat → Int64} {w : Int64} (h : pt_I k n fc fv) : ∀ i, i ≤ k →
    (pt_fw n fc fv (pt_mk n) w i = 1 ∧ ∀ j, j < i → ¬ pt_sh (fc j) (fv j) (pt_mk n) w) ∨ (pt_fw n fc fv (pt_mk n) w i = 0 ∧ ∃ j, j < i ∧ pt_sh (fc j) (fv j) (pt_mk n) w)
  | 0, _ => Or.inl ⟨pt_words_mk h.2.1 h.2.2.1, fun j hj => by omega⟩
  | i + 1, hi => by
    have e : fc i ||| pt_mk n = pt_mk n := by
      have h3 := h.2.2.2.1 i (by omega)
      apply pt_b_ext
      intro b _
      have z := congrArg (fun x => pt_b x b) h3
      simp only [pt_b_and, pt_b_or] at z ⊢
      revert z
      cases pt_b (fc i) b <;> cases pt_b (pt_mk n) b <;> decide
    rcases pt_one_le h i (by omega) with ⟨e1, q1⟩ | ⟨e1, j, hj, q1⟩
    · by_cases s : pt_sh (fc i) (fv i) (pt_mk n) w
      · refine Or.inr ⟨?_, i, by omega, s⟩
        rw [pt_fw_yes s, e1, e, pt_words_mk h.2.1 h.2.2.1]
        decide
      · refine Or.inl ⟨by rw [pt_fw_no s, e1], fun j hj => ?_⟩
        by_cases z : j = i
        · rw [z]; exact s
        · exact q1 j (by omega)
    · by_cases s : pt_sh (fc i) (fv i) (pt_mk n) w
      · exact absurd (pt_sh_two (h.2.2.2.1 j (by omega)) q1 s) (h.2.2.2.2.2 j i hj (by omega))
      · exact Or.inr ⟨by rw [pt_fw_no s, e1], j, by omega, q1⟩
theorem pt_one {k n : Nat} {fc fv : Nat → Int64} {w : Int64} (h : pt_I k n fc fv) : pt_fw n fc fv (pt_mk n) w k = 0 ↔ ¬ ∀ j, j < k → ¬ pt_sh (fc j) (fv j) (pt_mk n) w := by
  rcases pt_one_le (w := w) h k (Nat.le_refl _) with ⟨e1, q1⟩ | ⟨e1, j, hj, q1⟩
  · rw [e1]
    exact ⟨fun z => absurd z (by decide), fun z => absurd q1 z⟩
  · exact ⟨fun _ z => z j hj q1, fun _ => e1⟩
/-- the bits from at on -/
def pt_up (n at_ : Nat) : Int64 := pt_mk n &&& pt_shl (-1) (nI at_)
def pt_rs (n : Nat) (w : Int64) (at_ : Nat) : Int64 := (w ||| pt_shl 1 (nI at_)) &&& pt_up n at_
/-- at this bit the word can be raised -/
def pt_N (k n : Nat) (fc fv : Nat → Int64) (w : Int64) (at_ : Nat) : Prop := pt_ushr w (nI at_) &&& 1 = 0 ∧ ¬ pt_fw n fc fv (pt_up n at_) (pt_rs n w at_) k = 0
/-- the bits below q settled -/
noncomputable def pt_lf (k n : Nat) (fc fv : Nat → Int64) : Nat → Int64 → Int64
  | 0, x => x
  | q + 1, x => pt_lf k n fc fv q (@ite _ (pt_fw n fc fv (pt_up n q) x k = 0) (Classical.propDecidable _) (x ||| pt_shl 1 (nI q)) x)
theorem pt_lf_yes {k n : Nat} {fc fv : Nat → Int64} {q : Nat} {x : Int64} (h : pt_fw n fc fv (pt_up n q) x k = 0) : pt_lf k n fc fv (q + 1) x = pt_lf k n fc fv q (x ||| pt_shl 1 (nI q)) := by
  show pt_lf k n fc fv q (@ite _ _ (Classical.propDecidable _) _ _) = _
  rw [if_pos h]
theorem pt_lf_no {k n : Nat} {fc fv : Nat → Int64} {q : Nat} {x : Int64} (h : ¬ pt_fw n fc fv (pt_up n q) x k = 0) : pt_lf k n fc fv (q + 1) x = pt_lf k n fc fv q x := by
  show pt_lf k n fc fv q (@ite _ _ (Classical.propDecidable _) _ _) = _
  rw [if_neg h]
theorem pt_up_mk {n p : Nat} : pt_up n p &&& pt_mk n = pt_up n p := by
  unfold pt_up
  apply pt_b_ext
  intro i _
  simp only [pt_b_and]
  cases pt_b (pt_mk n) i <;> cases pt_b (pt_shl (-1) (nI p)) i <;> rfl
theorem pt_b_up {n p i : Nat} (h1 : 1 ≤ n) (h2 : n ≤ 64) (hp : p < 64) (hi : i < 64) : pt_b (pt_up n p) i = (decide (i < n) && decide (p ≤ i)) := by
  unfold pt_up
  rw [pt_b_and, pt_b_mk h1 h2, pt_b_from hp hi]
/-- the reference's bits from p on -/
theorem pt_up_ref : ∀ p, p < 64 → (pt_shl 1 (nI p) - 1) ^^^ (-1) = pt_shl (-1) (nI p) := by decide +kernel
theorem pt_rs_ref {n p : Nat} (w : Int64) (h1 : 1 ≤ n) (h2 : n ≤ 64) (hp : p < n) : (w &&& pt_up n p) ||| pt_shl 1 (nI p) = pt_rs n w p := by
  unfold pt_rs
  apply pt_b_ext
  intro i hi
  simp only [pt_b_and, pt_b_or, pt_b_bit (show p < 64 by omega), pt_b_up h1 h2 (show p < 64 by omega) hi]
  by_cases e : p = i
  · rw [decide_eq_true e, decide_eq_true (show i < n by omega), decide_eq_true (show p ≤ i by omega)]
    cases pt_b w i <;> rfl
  · rw [decide_eq_false e]
    cases pt_b w i <;> cases decide (i < n) <;> cases decide (p ≤ i) <;> rfl
theorem pt_up_step {n q : Nat} (h1 : 1 ≤ n) (h2 : n ≤ 64) (hq : q + 1 < n) : pt_up n (q + 1) ||| pt_shl 1 (nI q) = pt_up n q := by
  apply pt_b_ext
  intro i hi
  simp only [pt_b_or, pt_b_bit (show q < 64 by omega), pt_b_up h1 h2 (show q + 1 < 64 by omega) hi, pt_b_up h1 h2 (show q < 64 by omega) hi]
  by_cases e : q = i
  · rw [decide_eq_true e, decide_eq_true (show i < n by omega), decide_eq_true (show q ≤ i by omega)]
    cases decide (q + 1 ≤ i) <;> rfl
  · rw [decide_eq_false e]
    by_cases e2 : q ≤ i
    · rw [decide_eq_true e2, decide_eq_true (show q + 1 ≤ i by omega)]
      cases decide (i < n) <;> rfl
    · rw [decide_eq_false e2, decide_eq_false (show ¬ q + 1 ≤ i by omega)]
      cases decide (i < n) <;> rfl
/-- bit p of w is 0, said in two ways -/
theorem pt_bit_ref (w : Int64) {p : Nat} (hp : p < 64) : w &&& pt_shl 1 (nI p) = 0 ↔ pt_ushr w (nI p) &&& 1 = 0 := by
  have e2 : pt_ushr w (nI p) &&& 1 = lN (pt_u w / 2 ^ p % 2) := by
    apply pt_u_inj
    have e1 : pt_u (1 : Int64) = 2 ^ 1 - 1 := by decide
    rw [pt_u_and, pt_u_shr w hp, e1, Nat.and_two_pow_sub_one_eq_mod, pt_u_lN (by omega)]
  have e3 : pt_ushr w (nI p) &&& 1 = 0 ↔ pt_b w p = false := by
    rw [e2, pt_b_u]
    constructor
    · intro z
      have z := congrArg pt_u z
      rw [pt_u_lN (by omega)] at z
      have z : pt_u w / 2 ^ p % 2 = 0 := z
      rw [z]; rfl
    · intro z
      have z := of_decide_eq_false z
      have z : pt_u w / 2 ^ p % 2 = 0 := by omega
      rw [z]; rfl
  rw [e3, pt_b_eq0]
  constructor
  · intro h
    have z := h p hp
    rw [pt_b_and, pt_b_bit hp, decide_eq_true rfl, Bool.and_true] at z
    exact z
  · intro h i hi
    rw [pt_b_and, pt_b_bit hp]
    by_cases e : p = i
    · rw [← e, h]; rfl
    · rw [decide_eq_false e, Bool.and_false]
/-- 'some' of the reference, of bits inside the mask that are not none, is: there are free words -/
theorem pt_bits_up {n p : Nat} (h1 : 1 ≤ n) (h2 : n ≤ 64) (hp : p < n) : ¬ pt_bits (pt_up n p) = 0 := by
  refine pt_bits_ne (i := p) (by omega) ?_
  rw [pt_b_up h1 h2 (by omega) (by omega), decide_eq_true hp, decide_eq_true (Nat.le_refl _)]
  rfl
theorem pt_bits_mk {n : Nat} (h1 : 1 ≤ n) (h2 : n ≤ 64) : ¬ pt_bits (pt_mk n) = 0 := by
  refine pt_bits_ne (i := 0) (by omega) ?_
  rw [pt_b_mk h1 h2, decide_eq_true (show 0 < n by omega)]
/-- signs: care and want after i of the digits of d -/
def pt_sc (d : Nat) : Nat → Int64
  | 0 => 0
  | i + 1 => if d / 3 ^ i % 3 = 2 then pt_sc d i else pt_sc d i ||| pt_shl 1 (nI i)
def pt_sw (d : Nat) : Nat → Int64
  | 0 => 0
  | i + 1 => if d / 3 ^ i % 3 = 1 then pt_sw d i ||| pt_shl 1 (nI i) else pt_sw d i
theorem pt_hi_mk {n i : Nat} (x : Int64) (h1 : 1 ≤ n) (h2 : n ≤ 64) (hi : n ≤ i) (hi2 : i < 64) : (x ||| pt_shl 1 (nI i)) &&& pt_mk n = x &&& pt_mk n := by
  apply pt_b_ext
  intro j hj
  simp only [pt_b_and, pt_b_or, pt_b_bit hi2, pt_b_mk h1 h2]
  by_cases e : i = j
  · rw [decide_eq_false (show ¬ j < n by omega), Bool.and_false, Bool.and_false]
  · rw [decide_eq_false e, Bool.or_false]
theorem pt_sc_mk {d n : Nat} (h1 : 1 ≤ n) (h2 : n ≤ 64) : ∀ i, i ≤ 40 → n ≤ i → pt_sc d i &&& pt_mk n = pt_sc d n &&& pt_mk n ∧ pt_sw d i &&& pt_mk n = pt_sw d n &&& pt_mk n
  | 0, _, h => by omega
  | i + 1, hi, h => by
    by_cases e : n = i + 1
    · rw [e]; exact ⟨rfl, rfl⟩
    · obtain ⟨a, b⟩ := pt_sc_mk (d := d) h1 h2 i (by omega) (by omega)
      have hs := fun x => pt_hi_mk x h1 h2 (show n ≤ i by omega) (by omega)
      constructor
      · show (if d / 3 ^ i % 3 = 2 then pt_sc d i else pt_sc d i ||| pt_shl 1 (nI i)) &&& pt_mk n = _
        split
        · exact a
        · rw [hs]; exact a
      · show (if d / 3 ^ i % 3 = 1 then pt_sw d i ||| pt_shl 1 (nI i) else pt_sw d i) &&& pt_mk n = _
        split
        · rw [hs]; exact b
        · exact b
/-- as many digits as the reference takes -/
def pt_sn (n : Nat) : Nat := if n < 40 then n else 40
theorem pt_signs {d n : Nat} (h1 : 1 ≤ n) (h2 : n ≤ 64) : pt_sc d (pt_sn n) &&& pt_mk n = pt_sc d 40 &&& pt_mk n ∧ pt_sw d (pt_sn n) &&& pt_mk n = pt_sw d 40 &&& pt_mk n := by
  unfold pt_sn
  split
  · obtain ⟨a, b⟩ := pt_sc_mk (d := d) h1 h2 40 (Nat.le_refl _) (by omega)
    exact ⟨a.symm, b.symm⟩
  · exact ⟨rfl, rfl⟩
theorem pt_sw_sc (d : Nat) : ∀ i, i ≤ 40 → pt_sw d i &&& (pt_sc d i ^^^ (-1)) = 0
  | 0, _ => show (0 : Int64) &&& (0 ^^^ (-1)) = 0 by decide
  | i + 1, hi => by
    have ih := pt_b_eq0.mp (pt_sw_sc d i (by omega))
    rw [pt_b_eq0]
    intro j hj
    have z := ih j hj
    show pt_b ((if d / 3 ^ i % 3 = 1 then pt_sw d i ||| pt_shl 1 (nI i) else pt_sw d i) &&& ((if d / 3 ^ i % 3 = 2 then pt_sc d i else pt_sc d i ||| pt_shl 1 (nI i)) ^^^ (-1))) j = false
    by_cases e1 : d / 3 ^ i % 3 = 1
    · rw [if_pos e1, if_neg (by omega)]
      simp only [pt_b_and, pt_b_or, pt_b_xor, pt_b_m1 hj] at z ⊢
      revert z
      cases pt_b (pt_sw d i) j <;> cases pt_b (pt_sc d i) j <;> cases pt_b (pt_shl 1 (nI i)) j <;> decide
    · rw [if_neg e1]
      split
      · exact z
      · simp only [pt_b_and, pt_b_or, pt_b_xor, pt_b_m1 hj] at z ⊢
        revert z
        cases pt_b (pt_sw d i) j <;> cases pt_b (pt_sc d i) j <;> cases pt_b (pt_shl 1 (nI i)) j <;> decide
theorem pt_F_hit {P : Nat → Prop} {i : Nat} (h : pt_F P i (-1)) (hs : P i) (hi : i ≤ 512) : pt_F P (i + 1) (nI i) := by
  rcases h with ⟨-, h⟩ | ⟨i0, hi0, -, -, e⟩
  · exact Or.inr ⟨i, Nat.lt_succ_self _, hs, h, rfl⟩
  · have z := nI_pos (n := i0) (by omega)
    rw [← e] at z
    exact absurd (by decide) z
theorem pt_F_miss {P : Nat → Prop} {i : Nat} {r : Int32} (h : pt_F P i r) (hs : ¬ P i) : pt_F P (i + 1) r := by
  rcases h with ⟨e, h⟩ | ⟨i0, hi0, hp, hm, e⟩
  · refine Or.inl ⟨e, fun j hj => ?_⟩
    by_cases z : j = i
    · rw [z]; exact hs
    · exact h j (by omega)
  · exact Or.inr ⟨i0, by omega, hp, hm, e⟩
theorem pt_I_two {k n : Nat} {fc fv : Nat → Int64} {w : Int64} {i : Nat} {r : Int32} (hI : pt_I k n fc fv) (hi : i < k) (hF : pt_F (fun j => pt_sh (fc j) (fv j) (pt_mk n) w) i r) (hr : ¬ r = -1) : ¬ pt_sh (fc i) (fv i) (pt_mk n) w := by
  rcases hF with ⟨e, -⟩ | ⟨i0, hi0, hp, -, -⟩
  · exact absurd e hr
  · intro hs
    exact hI.2.2.2.2.2 i0 i hi0 hi (pt_sh_two (hI.2.2.2.1 i0 (by omega)) hp hs)
theorem pt_len {x : Int32} (h1 : ¬ x < 1) (h2 : x ≤ 64) : ∃ a : Nat, 1 ≤ a ∧ a ≤ 64 ∧ x = nI a := by
  have h0 : ¬ x < 0 := fun z => h1 (by rw [Int32.lt_iff_toInt_lt] at z ⊢; have e1 : (1 : Int32).toInt = 1 := by decide
                                       have e0 : (0 : Int32).toInt = 0 := by decide
                                       omega)
  obtain ⟨a, ha, e⟩ := nI_of2 (M := 64) (n := 64) (by decide) h0 h2
  refine ⟨a, ?_, ha, e⟩
  rcases Nat.eq_zero_or_pos a with z | z
  · rw [e, z] at h1; exact absurd (by decide) h1
  · exact z
theorem pt_at {x : Int32} {k : Nat} (hk : k ≤ 512) (h1 : ¬ x < 0) (h2 : x < nI k) : ∃ i : Nat, i < k ∧ x = nI i := by
  obtain ⟨j, hj, e⟩ := nI_of h1
  rw [e] at h2
  exact ⟨j, (nI_ltI hj (by omega)).mp h2, e⟩
theorem pt_nI_ne {i : Nat} (h : i ≤ 512) : ¬ nI i = -1 := fun z => by
  have := nI_pos (n := i) (by omega)
  rw [z] at this
  exact this (by decide)
theorem pt_rs_mk {n p : Nat} {w : Int64} : pt_rs n w p &&& pt_mk n = pt_rs n w p := by
  unfold pt_rs
  rw [Int64.and_assoc, pt_up_mk]
theorem pt_or_mk {n q : Nat} {y : Int64} (hy : y &&& pt_mk n = y) (h1 : 1 ≤ n) (h2 : n ≤ 64) (hq : q < n) : (y ||| pt_shl 1 (nI q)) &&& pt_mk n = y ||| pt_shl 1 (nI q) := by
  apply pt_b_ext
  intro i hi
  have z := congrArg (fun x => pt_b x i) hy
  simp only [pt_b_and, pt_b_or, pt_b_bit (show q < 64 by omega), pt_b_mk h1 h2] at z ⊢
  by_cases e : q = i
  · rw [decide_eq_true e, decide_eq_true (show i < n by omega)]
    cases pt_b y i <;> rfl
  · rw [decide_eq_false e, Bool.or_false]; exact z
theorem pt_one_yes {k n : Nat} {fc fv : Nat → Int64} {w : Int64} (h : pt_I k n fc fv) (hs : ¬ pt_fw n fc fv (pt_mk n) w k = 0) : ∀ j, j < k → ¬ pt_sh (fc j) (fv j) (pt_mk n) w :=
  Classical.byContradiction fun z => hs ((pt_one h).mpr z)
theorem pt_d2ge {m : Nat} (h : 0 ≤ lg_cmp (lN (m % 3)) 2) : m % 3 = 2 := by
  have h := (lg_cmp_ge _ _).mp h
  have h := (pk_lLE (a := 2) (b := m % 3) (by decide) (by omega)).mp h
  omega
theorem pt_d2is {m : Nat} (h : m % 3 = 2) : 0 ≤ lg_cmp (lN (m % 3)) 2 := (lg_cmp_ge _ _).mpr (by rw [h]; exact Int64.le_refl _)
theorem pt_least_or (P : Nat → Prop) : ∀ n : Nat, (∃ i : Nat, i < n ∧ P i ∧ ∀ j, j < i → ¬ P j) ∨ ∀ j, j < n → ¬ P j
  | 0 => Or.inr fun j h => by omega
  | n + 1 => by
    rcases pt_least_or P n with ⟨i, h1, h2, h3⟩ | h
    · exact Or.inl ⟨i, by omega, h2, h3⟩
    · by_cases hp : P n
      · exact Or.inl ⟨n, Nat.lt_succ_self _, hp, h⟩
      · refine Or.inr fun j hj => ?_
        by_cases e : j = n
        · rw [e]; exact hp
        · exact h j (by omega)
theorem pt_F_all (P : Nat → Prop) (n : Nat) : ∃ r : Int32, pt_F P n r := by
  rcases pt_least_or P n with ⟨i, h1, h2, h3⟩ | h
  · exact ⟨nI i, Or.inr ⟨i, h1, h2, h3, rfl⟩⟩
  · exact ⟨-1, Or.inl ⟨rfl, h⟩⟩
end
section
/-! A method that throws for sure: its contract; its end by 'throw new E("..")'; a call of it, left uncaught or caught. -/
section PTA
variable {p : Program} {l : Launch} {e : Env} {R : Room} {s : State} {m : MethodId} {args : Array Value} {below : List Frame} {meth : Method} {c : Code} {H : Heap} {locs : List Loc} {cells slots : Nat} {Q : State → Prop}
/-- from every such start y throws an object of the class called E; Qx of the start and the end -/
def pt_Thr (l : Launch) (y : MethodName) (ws : List Cond) (rm : Room) (Pc : Array Value → State → Prop) (E : String) (Qx : State → State → Prop) (mc ms : Nat) (free : Addr → Prop) : Prop :=
  MetFree l y (headSpec ws rm) Pc (fun _ _ _ _ _ => True) (fun _ st o t => ∃ (q : Addr) (ce : Cell) (L : List Loc), o = .threw q ∧ t.heap[q]? = some ce ∧ ce.vm = .none ∧ st.vm.findClass E = some ce.cls ∧ Qx st t ∧ FrameEndT st o t L mc ms ∧ ∀ z ∈ L, free z.base)
/-- what the walk of such a body comes to -/
def pt_TQ (below : List Frame) (E : String) (Qx : State → State → Prop) (s : State) (mc ms : Nat) (free : Addr → Prop) : State → Prop := fun t =>
  t.status = .running ∧ ∃ (q : Addr) (ce : Cell) (L : List Loc), Ended t below (.threw q) ∧ t.heap[q]? = some ce ∧ ce.vm = .none ∧ s.vm.findClass E = some ce.cls ∧ Qx s t ∧ FrameEndT s (.threw q) t L mc ms ∧ ∀ z ∈ L, free z.base
theorem pt_Thr_ofW {y : MethodName} {ws ws' : List Cond} {rm : Room} {Pc : Array Value → State → Prop} {E : String} {Qx : State → State → Prop} {mc ms : Nat} {free : Addr → Prop} {cc : ByteArray} {maxL : Nat} {ret : Option FieldType}
    (hy : plainName y.cls = true) (hw : ws = Cond.code y cc maxL ret :: ws')
    (body : ∀ p e s m args below meth c s₁, BodyLoose p l y (headSpec ws rm) cc maxL ret e s m args below meth c s₁ → c.maxLocals = maxL → c.exceptionTable.toList = [] → Pc args s →
      W p l e (headSpec ws rm).room s m args below meth c s.heap [] 0 0 (pt_TQ below E Qx s mc ms free) (entryFrame m args maxL)) : pt_Thr l y ws rm Pc E Qx mc ms free := by
  refine MetFree.of_bodyS (code := cc) (maxLocals := maxL) (ret := ret) hy ?_ ?_
  · intro args s m h hn
    obtain ⟨meth, c, h1, h2, h3, h4, h5, h6, -, -⟩ := Cond.code_spec hn (atoms_spec (ws := ws) h _ (by rw [hw]; exact List.mem_cons_self))
    exact ⟨meth, c, h1, h2, h3, h4, h5, h6⟩
  · intro p e s m args below meth c s₁ B hml hP _
    have hh0 : s₁.heap = s.heap := by rw [B.state]; rfl
    have ht : c.exceptionTable.toList = [] := by
      have hne := B.noHandlers (atoms_spec (ws := ws) B.pre _ (by rw [hw]; exact List.mem_cons_self))
      rw [Array.isEmpty_iff.mp hne]
    obtain ⟨t, a1, b1, q, ce, L, b2, b3⟩ := body p e s m args below meth c s₁ B hml ht hP s₁ hh0 (Stand.of_body B)
    exact ⟨t, .threw q, a1, b1, b2, q, ce, L, rfl, b3⟩
/-- the same frame, as if its method had been called just now -/
theorem pt_again {T : State} (X : Stand p l e R s m args below meth c T locs cells slots) {R' : Room} (hf : R'.frames = R.frames) (hl : R'.locals = R.locals) (hc : cells + R'.cells ≤ R.cells) (hs : slots + R'.slots ≤ R.slots) :
    Stand p l e R' ((T.setVm s.vm).setFrames (.invoking m args :: below)) m args below meth c T [] 0 0 := by
  have htop : (T.setVm s.vm).topJava?.isSome := X.here.top
  have hF : ((T.setVm s.vm).setFrames (.invoking m args :: below)).frames = .invoking m args :: below := State.frames_setFrames _ (State.cur_lt_of_top htop)
  have hlim : e.platform.stackLimits (T.setVm s.vm).me = e.platform.stackLimits s.me := X.limits
  have hbyt : (T.setVm s.vm).me.stackBytes = s.me.stackBytes := X.bytes
  have hroom : ((T.setVm s.vm).setFrames (.invoking m args :: below)).hasRoom e.platform R' = true := by
    have h := X.room
    have hu : ((T.setVm s.vm).setFrames (.invoking m args :: below)).localsInUse = s.localsInUse := by
      rw [State.localsInUse_invoking hF (meth := meth) (c := c) X.method X.code, State.localsInUse_invoking X.frames X.method X.code]
    have q1 := X.heapSize
    have q2 := X.used
    have hh : ((T.setVm s.vm).setFrames (.invoking m args :: below)).heap = T.heap := rfl
    have hsu : ((T.setVm s.vm).setFrames (.invoking m args :: below)).slotsUsed = T.slotsUsed := rfl
    have hst : ((T.setVm s.vm).setFrames (.invoking m args :: below)).slotsTrue = true := X.book
    simp only [State.hasRoom, Bool.and_eq_true, decide_eq_true_eq] at h ⊢
    obtain ⟨⟨⟨⟨h1, h2, h3, h4, h5, h6⟩, h7⟩, h8⟩, -⟩ := h
    rw [X.frames, List.length_cons] at h2 h3
    rw [hF, hu, hh, hsu, List.length_cons, State.stackLimits_setFrames, State.stackBytes_setFrames, hlim, hbyt]
    exact ⟨⟨⟨⟨by omega, by omega, by omega, by omega, by omega, h6⟩, by omega⟩, by omega⟩, hst⟩
  obtain ⟨g₀, hg0⟩ := Option.isSome_iff_exists.mp htop
  obtain ⟨r, hr⟩ := State.topJava?_eq_some.mp hg0
  obtain ⟨t, ht, -⟩ := State.frames_cons hr
  have hdrop : T.heap.toList.drop T.heap.size = [] := List.drop_eq_nil_of_le (Nat.le_of_eq Array.length_toList)
  refine ⟨X.admits, X.cas, X.clock, hF, hroom, X.hears, X.method, X.code, X.here, X.tail, X.warmed, ?_, ?_, ?_⟩
  · rw [State.stackLimits_setFrames]; rfl
  · rw [State.stackBytes_setFrames]; rfl
  · refine ⟨?_, Nat.le_refl _, Nat.le_refl _, ?_, ?_, fun a c9 h9 => ⟨c9, h9, rfl, rfl, fun _ _ => rfl⟩⟩
    · show T.setVm s.vm = { ((T.setVm s.vm).setFrames (.invoking m args :: below)).setFrames (T.setVm s.vm).frames with heap := T.heap, slotsUsed := T.slotsUsed }
      rw [State.setFrames_setFrames, State.setFrames_self ht]
      rfl
    · show T.slotsUsed = T.slotsUsed + ((T.heap.toList.drop T.heap.size).map (·.slots.size)).sum
      rw [hdrop]; rfl
    · show ((T.heap.toList.drop T.heap.size).map (·.slots.size)).sum ≤ 0
      rw [hdrop]; exact Nat.le_refl _
end PTA
/-- an E is no nm -/
def pt_nc (E nm : String) (s : State) : Prop := ∃ a b, s.vm.findClass E = some a ∧ s.vm.findClass nm = some b ∧ s.vm.assignable a b = false
theorem pt_nc.moved {E nm : String} {s U : State} (hvm : s.vm.Alike U.vm) (h : pt_nc E nm s) : pt_nc E nm U := by
  obtain ⟨a, b, h1, h2, h3⟩ := h
  exact ⟨a, b, by rw [hvm.findClass]; exact h1, by rw [hvm.findClass]; exact h2, by rw [hvm.assignable]; exact h3⟩
section PTB
variable {p : Program} {l : Launch} {e : Env} {R : Room} {s : State} {m : MethodId} {args : Array Value} {below : List Frame} {meth : Method} {c : Code} {H : Heap} {locs : List Loc} {cells slots : Nat} {Q : State → Prop}
variable {y : MethodName} {bytes cc : ByteArray} {maxL nL mc ms n index : Nat} {ret : Option FieldType} {ws : List Cond} {rm : Room} {Pc : Array Value → State → Prop} {E : String} {Qx : State → State → Prop} {free : Addr → Prop} {Ts : List Cond} {own C : String} {b : Addr} {As rest : List Value} {g : JFrame}
def pt_PostT (E : String) (Qx : State → State → Prop) (mc ms : Nat) (free : Addr → Prop) : Pt → Array Value → Addr → Pt → Prop := fun A _ q B =>
  ∃ (st t : State) (L : List Loc) (ce : Cell), st.heap = A.U.heap ∧ st.vm = A.U.vm ∧ B.U.heap = t.heap ∧ B.U.vm = t.vm ∧ Qx st t ∧ t.heap[q]? = some ce ∧ ce.vm = .none ∧ A.U.vm.findClass E = some ce.cls ∧ B.locs = A.locs ++ L ∧ (∀ z ∈ L, free z.base) ∧ B.cells = A.cells + mc ∧ B.slots = A.slots + ms
theorem pt_backT (cb : CallB R s args own index y bytes maxL ret ws rm mc ms n) (hM : pt_Thr l y ws rm Pc E Qx mc ms free) (hbl : FrameBlind Pc) : BackT l R p e below s args y 3 8 (PreOf R mc ms Pc) (pt_PostT E Qx mc ms free) := by
  obtain ⟨hrc, hrs, hfr, hlo, hws, hcw, -, hini, -⟩ := cb
  refine BackT.of_free (S := headSpec ws rm) (P := Pc) (K := fun _ _ _ _ _ => True) (bytes := bytes) (maxL := maxL) (ret := ret) (E := fun _ _ _ _ L k n => k = mc ∧ n = ms ∧ ∀ z ∈ L, free z.base) hM hfr hlo ?_ ?_ (fun _ _ _ _ _ _ _ _ _ => trivial) ?_ ?_
  · intro m meth c A a X hp
    exact ⟨atoms_intro fun w hw => hws w hw _ _ X.warmed, hws _ hcw _ _ X.warmed, word_at X.warmed (Or.inl (by first | rfl | simp [Cond.onTables, Cond.keeps, Cond.steady])) hini, by rw [show (headSpec ws rm).room.cells = mc from hrc]; exact hp.1, by rw [show (headSpec ws rm).room.slots = ms from hrs]; exact hp.2.1⟩
  · intro m meth c A a g mk X hp
    exact hbl _ _ _ _ hp.2.2
  · intro a st o t h
    obtain ⟨q, ce, L, ho, h1, h2, h3, h4, h5, h6⟩ := h
    exact ⟨L, mc, ms, h5, rfl, rfl, h6⟩
  · intro m meth c A a g mk v t L k n X hp hq hF hE
    obtain ⟨e1, e2, hL⟩ := hE
    subst e1; subst e2
    obtain ⟨q, ce, L', ho, h1, h2, h3, h4, -, -⟩ := hq
    cases ho
    exact ⟨A.U.calling g mk a, t, L, ce, rfl, rfl, rfl, rfl, h4, h1, h2, h3, rfl, hL, rfl, rfl⟩
/-- the call has come back with q thrown over the caller's frame -/
def pt_RunT (p : Program) (l : Launch) (e : Env) (R : Room) (s : State) (m : MethodId) (args : Array Value) (below : List Frame) (meth : Method) (c : Code) (H : Heap) (locs : List Loc) (cells slots mc ms : Nat) (g : JFrame) (rest : List Value) (E : String) (Qx : State → State → Prop) (free : Addr → Prop) : Prop :=
  ∀ T : State, T.heap = H → Stand p l e R s m args below meth c T locs cells slots →
    ∃ (q : Addr) (st t T' : State) (L : List Loc) (ce : Cell), st.heap = H ∧ s.WarmedH st.vm ∧ Stand p l e R s m args below meth c T' (locs ++ L) (cells + mc) (slots + ms) ∧ (∀ z ∈ L, free z.base) ∧ T'.heap = t.heap ∧ T'.vm = t.vm ∧ Qx st t ∧ t.heap[q]? = some ce ∧ ce.vm = .none ∧ s.vm.findClass E = some ce.cls ∧
      Steps p.tables e below (T.setTop g) ((T'.setTop { g with stack := rest }).pushFrame (.throwing q))
theorem pt_runT (S : CallFix p m c cc nL s args Ts own) (hM : pt_Thr l y ws rm Pc E Qx mc ms free) (cw : CallW R s args own C index y bytes maxL ret ws rm mc ms n) (hp : PreV s H C b Pc As)
    (hg : g.method = m) (hn : As.length = n) (hsize : g.locals.size = nL) (hstack : g.stack = As.reverse ++ .ref b :: rest) (hW : 2 * g.monitorRoom + (rest.map fun v => v.category).sum ≤ 8) (hdg : decode cc g.pc = .ok (.invokevirtual index, 3)) (hf : cells + mc ≤ R.cells ∧ slots + ms ≤ R.slots) :
    pt_RunT p l e R s m args below meth c H locs cells slots mc ms g rest E Qx free := by
  have hK : BackT l R p e below s args y 3 8 (PreOf R mc ms Pc) (pt_PostT E Qx mc ms free) := pt_backT cw.1 hM hp.1
  obtain ⟨⟨-, -, -, -, -, -, hcode, -, hy, hlen, hl⟩, hin, hse⟩ := cw
  obtain ⟨hx, hb, hml, ho, -⟩ := S
  obtain ⟨-, ⟨cellB, hcB, hoB, hclB⟩, hPc⟩ := hp
  intro T hT X
  obtain ⟨mk, methM, hnamed, hmethM, hstM, habM⟩ := Cond.instanceMethod_spec hin
  obtain ⟨methM', cM, hmethM', -, -, -, -, -, -, hsigM⟩ := Cond.code_spec hnamed hcode
  cases hmethM.symm.trans hmethM'
  obtain ⟨c2, r2, m2, q1, q2, q3, q4, kP, hkP, hkPi⟩ := Cond.selects_spec hse
  cases hclB.symm.trans q1
  cases (State.methodFound?_of_named hnamed hy).symm.trans q2
  cases hnamed.symm.trans q3
  have hselP : selectMethod e.platform s.vm cellB.cls mk = .method mk := by rw [Launch.admits_selectMethod X.admits]; exact q4
  obtain ⟨vm₁, X₁, hstep₁⟩ := X.invokevirtual hx ho hl hnamed hmethM hstM hkP hkPi hy (a := b) (cell := cellB) (by rw [hT]; exact hcB)
    (fun z h => by rw [h] at hoB; cases hoB) hselP hmethM habM hkP hkPi (g := g) hg (argsL := As) (rest := rest) (hn.trans (hlen _ hsigM)) hstack (by rw [hb]; exact hdg)
  obtain ⟨q, B, X', ⟨st, t, L, ce, h1, h2, h3, h4, h5, h6, h7, h8, h9, h10, h11, h12⟩, hsteps⟩ := hK m meth c ⟨T.setVm vm₁, locs, cells, slots⟩ { g with stack := rest } (.invokevirtual index) mk (Value.ref b :: As).toArray X₁ hg (hsize.trans hml.symm) (by rw [hb]; exact hdg) hW (X₁.named hnamed) ⟨hf.1, hf.2, hPc (T.setVm vm₁) hT X₁.warmed⟩
  obtain ⟨U', l2, c2, s2⟩ := B
  dsimp only [Pt.U, Pt.locs, Pt.cells, Pt.slots] at X' h1 h2 h3 h4 h8 h9 h11 h12 hsteps
  subst h9; subst h11; subst h12
  have h8' : (T.setVm vm₁).vm.findClass E = some ce.cls := h8
  rw [X₁.warmed.alike.findClass] at h8'
  exact ⟨q, st, t, U', L, ce, h1.trans hT, by rw [h2]; exact X₁.warmed, X', h10, h3, h4, h5, h6, h7, h8', hstep₁ _ fun acts => by rw [doInvoke_state]; exact hsteps⟩
/-- nobody catches it here: the caller throws it on -/
theorem pt_out {pc : Nat} {ls : Array Slot} {st0 : List Value} {Qy : State → State → Prop} {free' : Addr → Prop} {mc' ms' : Nat} (hr : pt_RunT p l e R s m args below meth c H locs cells slots mc ms (F0 m pc ls st0) rest E Qx free) (hout : c.exceptionTable.toList = []) (hlocks : meth.locks = false)
    (hq : ∀ st t t' : State, st.heap = H → s.WarmedH st.vm → Qx st t → t'.heap = t.heap → t'.vm = t.vm → Qy s t') (h1 : ∀ z ∈ locs, free' z.base) (h2 : ∀ z, free z → free' z) (hc : cells + mc ≤ mc') (hs : slots + ms ≤ ms') :
    W p l e R s m args below meth c H locs cells slots (pt_TQ below E Qy s mc' ms' free') (F0 m pc ls st0) := by
  intro T hT X
  obtain ⟨q, st, t, T', L, ce, h0, hal, X', hL, e1, e2, hq1, hce, hcv, hcl, st1⟩ := hr T hT X
  obtain ⟨st2, hrun, hend, hW, hsm⟩ := X'.leaveThrown q (g := F0 m pc ls rest) rfl rfl rfl (by rw [hout]; intro x hx; cases hx) hlocks
  refine ⟨_, st1.trans st2, hrun, q, ce, locs ++ L, hend, ?_, hcv, hcl, hq st t _ h0 hal hq1 e1 e2, ⟨⟨q, rfl⟩, hW, hsm.mono hc hs⟩, fun z hz => ?_⟩
  · show T'.heap[q]? = some ce
    rw [e1]; exact hce
  · rcases List.mem_append.mp hz with h | h
    · exact h1 z h
    · exact h2 _ (hL z h)
/-- it is caught by the row x of this method's table, behind rows that don't take it -/
theorem pt_catch {pc : Nat} {ls : Array Slot} {st0 : List Value} {name : String} (hr : pt_RunT p l e R s m args below meth c H locs cells slots mc ms (F0 m pc ls st0) rest E Qx free)
    (hown : s.vm.findClass own = some m.cls) (pre : List ExceptionTableEntry) (x : ExceptionTableEntry) (suf : List ExceptionTableEntry) (hsplit : c.exceptionTable.toList = pre ++ x :: suf)
    (hpass : ∀ z ∈ pre, z.catchType ≠ 0 ∧ ∃ nm : String, (Cond.classLink own z.catchType nm).before args s = true ∧ pt_nc E nm s)
    (hx : covers x pc = true) (h0 : x.catchType ≠ 0) (hlink : (Cond.classLink own x.catchType name).before args s = true) (hcast : (Cond.castable E name).before args s = true)
    (kk : ∀ (q : Addr) (st t : State) (H1 : Heap) (L : List Loc), st.heap = H → s.WarmedH st.vm → t.heap = H1 → s.vm.Alike t.vm → Qx st t → (∀ z ∈ L, free z.base) → W p l e R s m args below meth c H1 (locs ++ L) (cells + mc) (slots + ms) Q (F0 m x.handlerPc ls [.ref q])) :
    W p l e R s m args below meth c H locs cells slots Q (F0 m pc ls st0) := by
  intro T hT X
  obtain ⟨q, st, t, T', L, ce, h9, hal, X', hL, e1, e2, hq1, hce, hcv, hcl, st1⟩ := hr T hT X
  have hpl : e.platform.magicAccessors = ({} : Platform).magicAccessors := by rw [X.admits.platform]
  obtain ⟨c3, c4, hc3, hc4, hasg⟩ := Cond.castable_spec hcast
  cases Option.some.inj (hc3.symm.trans hcl)
  obtain ⟨hrow, hk0⟩ := X'.catches_of_link hown h0 hlink hc4 hasg
  obtain ⟨vm', X2, st2⟩ := X'.thenCaughtThrough q (g := F0 m pc ls rest) rfl st1 (by rw [e1]; exact hce) (by rw [hcv]; rfl) hk0 pre x suf hsplit
    (fun z hz => by
      obtain ⟨hz0, nm, hl1, a8, b8, i1, i2, i3⟩ := hpass z hz
      obtain ⟨c6, hc6, hcl6⟩ := Cond.classLink_spec hown hl1 e.platform hpl
      cases Option.some.inj (i1.symm.trans hcl)
      cases Option.some.inj (i2.symm.trans hc6)
      exact Or.inr ⟨hz0, _, hcl6, i3⟩) hx hrow
  obtain ⟨t2, a1, b1⟩ := kk q st t T'.heap L h9 hal e1.symm (by rw [← e2]; exact X'.warmed.alike) hq1 hL (T'.setVm vm') rfl X2
  exact ⟨t2, st2.trans a1, b1⟩
end PTB
section PTC
variable {p : Program} {l : Launch} {e : Env} {R : Room} {s : State} {m : MethodId} {args : Array Value} {below : List Frame} {meth : Method} {c : Code} {H : Heap} {locs : List Loc} {cells slots : Nat} {Q : State → Prop}
/-- 'throw new E("text")': new; dup; ldc; invokespecial; athrow: at a place that no row of the table covers -/
theorem pt_throwS {cc : ByteArray} {pc : Nat} {ls : Array Slot} {rest : List Value} (hexec : p.tables.exec = Jvm.exec) (hb : c.code = cc) (hl : l.stackTraces = false) {own cls text : String} {names : List String} {ik is ic sa mc ms : Nat} {Qx : State → State → Prop} {free : Addr → Prop}
    (hown : s.vm.findClass own = some m.cls) (hcls : Bundle.fit cls = true) (hnames : ∀ n ∈ names, Bundle.fit n = true)
    (hall : ∀ U : State, U.heap = H → U.vm = s.vm → ∀ w ∈ Cond.classLink own ik cls :: Cond.initialized cls :: Bundle.ownAtoms own ic cls names, w.before args U = true)
    (hstr : vk_R own is text sa s) (hsize : ls.size = c.maxLocals)
    (d0 : decode cc pc = .ok (.new ik, 3)) (d3 : decode cc (pc + 3) = .ok (.dup, 1)) (d4 : decode cc (pc + 4) = .ok (.ldc is, 2)) (d6 : decode cc (pc + 6) = .ok (.invokespecial ic, 3)) (d9 : decode cc (pc + 9) = .ok (.athrow, 1))
    (hout : c.exceptionTable.toList = [])
    (hRf : names.length + 3 < R.frames) (hRl : (rest.map fun v => v.category).sum + (13 * (names.length + 1) + 43) ≤ R.locals) (hRc : cells + 1 ≤ R.cells) (hRs : slots + 6 ≤ R.slots) (hlocks : meth.locks = false)
    (hq : ∀ t : State, s.WarmedH t.vm → H.size ≤ t.heap.size → (∀ q : Nat, q < H.size → t.heap[q]? = H[q]?) → Qx s t)
    (hf : ∀ z ∈ locs, free z.base) (hc : cells + 1 ≤ mc) (hs : slots + 6 ≤ ms) :
    W p l e R s m args below meth c H locs cells slots (pt_TQ below cls Qx s mc ms free) (F0 m pc ls rest) := by
  intro T hT X
  have htr : e.platform.stackTraces = false := (show e.platform.stackTraces = l.stackTraces by rw [X.admits.platform]).trans hl
  have Y := pt_again X (R' := { frames := R.frames, locals := R.locals, cells := 1, slots := 6 }) rfl rfl hRc hRs
  generalize hA : (T.setVm s.vm).setFrames (.invoking m args :: below) = s' at Y
  have hvm : s'.vm = s.vm := by rw [← hA]; rfl
  have hhp : s'.heap = H := by rw [← hA]; exact hT
  have hW0 : s.WarmedH s'.vm := by rw [hvm]; exact State.WarmedH.refl s
  have h := hall s' hhp hvm
  have hat : ∀ w ∈ Bundle.ownAtoms own ic cls names, w.before args s' = true := fun w hw => h w (List.mem_cons_of_mem _ (List.mem_cons_of_mem _ hw))
  have hown' : s'.vm.findClass own = some m.cls := by rw [hvm]; exact hown
  have hins : (Cond.instantiable cls 6).before args s' = true := hat _ (by simp [Bundle.ownAtoms])
  obtain ⟨vm₁, cX, kX, hfX, hkX, -, -, X₁, st1⟩ := Y.newCold hexec (own := own) (C := cls) (index := ik) (n := 6) hown' (h _ List.mem_cons_self) hins (h _ (List.mem_cons_of_mem _ List.mem_cons_self))
    (g := F0 m pc ls rest) rfl (by rw [hb]; exact d0) (Nat.le_refl _) (Nat.le_refl _)
  generalize hT1 : (T.setVm vm₁).pushCell { cls := cX, slots := kX.instanceTypes.map defaultValue, vm := .none } = T1 at X₁ st1
  have hcat : (Value.ref T.heap.size).category = 1 := rfl
  have hcell : T1.heap[T.heap.size]? = some (freshCell cX kX) := by rw [← hT1]; exact State.heap_pushCell_size _ _
  have d3' : decode c.code (pc + 3) = .ok (.dup, 1) := by rw [hb]; exact d3
  have d4' : decode c.code (pc + 4) = .ok (.ldc is, 2) := by rw [hb]; exact d4
  have hstr' : vk_R own is text sa s' := vk_R.warm hW0 hstr
  have hnew : s'.heap.size ≤ T.heap.size := by rw [hhp, hT]; exact Nat.le_refl _
  obtain ⟨U, hsteps, hrun, hend, hW, hsame, ce, hce, hO⟩ := X₁.ctorThrowS hexec htr (own := own) (cls := cls) (names := names) (ic := ic) hown' hcls hnames hat (fun x hx => nomatch hx) hfX hkX hcell hnew (msg := .ref sa) rfl
    (g := { method := m, pc := pc + 6, locals := ls, stack := .ref sa :: .ref T.heap.size :: .ref T.heap.size :: rest, locked := none }) rfl hsize rfl rfl (rest := rest) rfl
    (by rw [hb]; exact d6) (by rw [hb]; exact d9) (by rw [hout]; intro x hx; cases hx) hRf (by simp only [List.map_cons, List.sum_cons, hcat]; omega) hlocks
  have hWs : s.WarmedH U.vm := State.WarmedH.trans hW0 hW
  have hcl : s.vm.findClass cls = some ce.cls := by
    have h9 := hO.cls
    rw [hvm] at h9
    exact h9
  have hold : s'.heap.size ≤ U.heap.size ∧ ∀ q : Nat, q < s'.heap.size → U.heap[q]? = s'.heap[q]? := by
    obtain ⟨-, h2, -, -, -, h6⟩ := hsame
    refine ⟨h2, fun q hq => ?_⟩
    obtain ⟨c9, i1, i2, i3, i4⟩ := h6 q _ (Array.getElem?_eq_getElem hq)
    have hsl : c9.slots = (s'.heap[q]).slots := Array.ext_getElem? fun i => i4 i fun hm => nomatch hm
    have h9 : c9 = s'.heap[q] := by
      rw [hsl] at i2
      exact i2
    have e5 : U.heap[q]? = some c9 := i1
    rw [e5, h9, Array.getElem?_eq_getElem hq]
  rw [hhp] at hold
  have hall2 : s.sameButNew ({ U with vm := s.vm } : State) locs mc ms := by
    subst hA
    obtain ⟨e1, e2⟩ := hsame
    rw [State.setFrames_setFrames] at e1
    have h2 : (T.setVm s.vm).sameButNew ({ U with vm := s.vm } : State) [] (0 + 1) (0 + 6) := ⟨e1, e2⟩
    have h3 := X.same.trans h2
    rw [List.append_nil] at h3
    exact h3.mono hc hs
  refine ⟨U, ?_, hrun, T.heap.size, ce, locs, hend, hce, hO.vm, hcl, hq U hWs hold.1 hold.2, ⟨⟨_, rfl⟩, hWs, hall2⟩, hf⟩
  refine st1 _ ?_
  show Steps p.tables e below (T1.setTop { method := m, pc := pc + 3, locals := ls, stack := .ref T.heap.size :: rest, locked := none }) _
  jvm_step X₁.here [X₁.here.top, hexec, d3', Value.category]
  exact X₁.ldcString hexec (own := own) (text := text) (index := is) (a := sa) hown' hstr'.1 hstr'.2
    (g := { method := m, pc := pc + 4, locals := ls, stack := .ref T.heap.size :: .ref T.heap.size :: rest, locked := none }) rfl d4' _ hsteps
end PTC
section PTD
variable {p : Program} {l : Launch} {e : Env} {R : Room} {s : State} {m : MethodId} {args : Array Value} {below : List Frame} {meth : Method} {c : Code} {H : Heap} {locs : List Loc} {cells slots : Nat}
variable {y : MethodName} {bytes cc : ByteArray} {maxL nL mc ms n index : Nat} {ret : Option FieldType} {ws ws' : List Cond} {rm : Room} {Pc : Array Value → State → Prop} {Qc : Array Value → State → Outcome → State → Prop} {free : Addr → Prop} {Ts : List Cond} {own : String} {As rest : List Value} {g : JFrame} {hh : List (Nat × Nat × Nat × Nat)}
/-- a static call of a method that has handlers, and returns -/
theorem pt_runSW (S : CallFix p m c cc nL s args Ts own) (hM : Met l y ws rm Pc Qc mc ms free) (hT : GoodIn Ts (va_wsS own index y ws)) (hw : ws = Cond.codeWith y bytes maxL ret hh :: ws') (hrc : rm.cells = mc) (hrs : rm.slots = ms)
    (hd : y.cls ≠ "java/lang/invoke/MethodHandle" ∧ y.cls ≠ "java/lang/invoke/VarHandle" ∧ (parseMethodDescriptor y.desc).map (fun d => d.parameters.length) = some n) (hR : rm.frames + 1 ≤ R.frames ∧ 8 + (maxL + 11) + rm.locals ≤ R.locals) (hp : PreS s H Pc As)
    (hg : g.method = m) (hn : As.length = n) (hsize : g.locals.size = nL) (hstack : g.stack = As.reverse ++ rest) (hW : 2 * g.monitorRoom + (rest.map fun v => v.category).sum ≤ 8) (hdg : decode cc g.pc = .ok (.invokestatic index, 3)) (hf : cells + mc ≤ R.cells ∧ slots + ms ≤ R.slots) :
    va_Run p l e R s m args below meth c H locs cells slots mc ms g rest (Qc As.toArray) free := by
  obtain ⟨hx, hb, hml, ho, ht⟩ := S
  have ok : ∀ w ∈ va_wsS own index y ws, w.before args s = true := fun w h => ht w (hT w h).1
  have hG : GoodIn Ts ws := fun w h => hT w (by unfold va_wsS; exact List.mem_append_right _ h)
  have hcm : Cond.codeWith y bytes maxL ret hh ∈ ws := by rw [hw]; exact List.mem_cons_self
  have hini : (Cond.initialized y.cls).before args s = true := ok _ (by simp [va_wsS])
  have hlink : (Cond.methodLink own index y).before args s = true := ok _ (by simp [va_wsS])
  have hstat : (Cond.static y).before args s = true := ok _ (by simp [va_wsS])
  have hcode : (Cond.codeWith y bytes maxL ret hh).before args s = true := ht _ (hG _ hcm).1
  have hK : Back l R p e below s args y 3 8 (PreOf R mc ms Pc) (PostOf Qc mc ms free) :=
    va_backW (hh := hh) (bytes := bytes) (maxL := maxL) (ret := ret) hM hp.1 hrc hrs hR.1 hR.2 (pay_in ht hG) hcm (fun a' U hW => word_at hW (Or.inl (by first | rfl | simp [Cond.onTables, Cond.keeps, Cond.steady])) hini)
  intro T hT2 X
  obtain ⟨mk, methM, cM, hnamed, hmethM, -, -, -, -, -, -, hsigM⟩ := Cond.codeWith_spec hcode
  have hstatic : methM.isStatic = true := Cond.static_spec hnamed hmethM hstat
  obtain ⟨kP, hkP, -⟩ := className_of_methodNamed hnamed
  have hinitP : kP.init = .initialized := Cond.initialized_spec (findClass_of_methodNamed hnamed) hkP hini
  have hlen : As.length = methM.sig.parameters.length := by
    have h2 := hd.2.2
    rw [hsigM] at h2
    exact hn.trans (Option.some.inj h2).symm
  obtain ⟨vm₁, X₁, hstep₁⟩ := X.invokestatic hx ho hlink hnamed hmethM hstatic hkP hinitP ⟨hd.1, hd.2.1⟩ (g := g) hg (argsL := As) (rest := rest) hlen hstack (by rw [hb]; exact hdg)
  obtain ⟨v, B, X', ⟨g', mk', t, L, e1, e2, hq, h1, hL, h2, h3⟩, hsteps⟩ := hK m meth c ⟨T.setVm vm₁, locs, cells, slots⟩ { g with stack := rest } (.invokestatic index) mk As.toArray X₁ hg (hsize.trans hml.symm) (by rw [hb]; exact hdg) hW (X₁.named hnamed) ⟨hf.1, hf.2, hp.2 (T.setVm vm₁) hT2 X₁.warmed⟩
  obtain ⟨U', l2, c2, s2⟩ := B
  dsimp only [Pt.U, Pt.locs, Pt.cells, Pt.slots] at X' e1 e2 h1 h2 h3 hsteps
  subst h1; subst h2; subst h3
  exact ⟨v, (T.setVm vm₁).calling g' mk' As.toArray, t, U', L, hT2, X', hL, e1, e2, hq, fun target h => hstep₁ _ fun acts => by rw [doInvoke_state]; exact hsteps.trans h⟩
end PTD
end
section
/-! What the throws lean on: the words of the start s0, true wherever s0 has only been added to. -/
def pt_ext (s0 U : State) : Prop := s0.WarmedH U.vm ∧ s0.heap.size ≤ U.heap.size ∧ ∀ q : Nat, q < s0.heap.size → U.heap[q]? = s0.heap[q]?
theorem pt_ext.same {s0 s U : State} (h : pt_ext s0 s) (hU : U.heap = s.heap) (hW : s.WarmedH U.vm) : pt_ext s0 U :=
  ⟨State.WarmedH.trans h.1 hW, by rw [hU]; exact h.2.1, by rw [hU]; exact h.2.2⟩
theorem pt_ext.on {s0 s U : State} {A : Nat → Prop} {H : Heap} {locs : List Loc} (h : pt_ext s0 s) (hS : va_S A s.heap H locs) (hA : ∀ q : Nat, A q → s0.heap.size ≤ q) (hU : U.heap = H) (hV : U.vm = s.vm) : pt_ext s0 U :=
  ⟨by rw [hV]; exact h.1, by rw [hU]; exact Nat.le_trans h.2.1 hS.1, fun q hq => by
    rw [hU, hS.2.1 q (Nat.lt_of_lt_of_le hq h.2.1) (fun z => Nat.not_lt.mpr (hA q z) hq)]
    exact h.2.2 q hq⟩
theorem pt_ext.on2 {s0 s U : State} {A : Nat → Prop} {H : Heap} {locs : List Loc} (h : pt_ext s0 s) (hS : va_S A s.heap H locs) (hA : ∀ q : Nat, A q → s0.heap.size ≤ q) (hU : U.heap = H) (hW : s.WarmedH U.vm) : pt_ext s0 U :=
  ⟨State.WarmedH.trans h.1 hW, by rw [hU]; exact Nat.le_trans h.2.1 hS.1, fun q hq => by
    rw [hU, hS.2.1 q (Nat.lt_of_lt_of_le hq h.2.1) (fun z => Nat.not_lt.mpr (hA q z) hq)]
    exact h.2.2 q hq⟩
theorem pt_As {s0 : State} {ws : va_W} {sz : Nat} (hD : va_D (fun q => s0.heap.size ≤ q) ws) (hsz : s0.heap.size ≤ sz) : ∀ q : Nat, va_A ws sz q → s0.heap.size ≤ q := fun q h => by
  rcases h with ⟨k, e, hk⟩ | h
  · exact hD.2 k _ hk
  · exact Nat.le_trans hsz h
theorem pt_S_thrown {A : Nat → Prop} {s t : State} {H : Heap} {locs : List Loc} (hS : va_S A s.heap H locs) (hz : H.size ≤ t.heap.size) (hk : ∀ q : Nat, q < H.size → t.heap[q]? = H[q]?) : va_F A s t :=
  ⟨Nat.le_trans hS.1 hz, fun q h1 h2 => by rw [hk q (Nat.lt_of_lt_of_le h1 hS.1)]; exact hS.2.1 q h1 h2⟩
theorem pt_F_same {A : Nat → Prop} {st s t t2 : State} (h1 : st.heap = s.heap) (h4 : t2.heap = t.heap) (h : va_F A st t) : va_F A s t2 :=
  ⟨by rw [h4, ← h1]; exact h.1, fun q a b => by rw [h4, ← h1]; exact h.2 q (by rw [h1]; exact a) b⟩
theorem pt_S_call {A A1 : Nat → Prop} {H0 H H1 : Heap} {locs L : List Loc} {st t : State} (hS : va_S A H0 H locs) (hA : ∀ q, A1 q → A q) (h1 : st.heap = H) (h3 : t.heap = H1) (hF : va_F A1 st t) (hL : ∀ z ∈ L, A1 z.base) :
    va_S A H0 H1 (locs ++ L) ∧ H.size ≤ H1.size ∧ ∀ q : Nat, q < H.size → ¬ A1 q → H1[q]? = H[q]? := by
  obtain ⟨hz, hk⟩ := hF
  rw [h1, h3] at hz hk
  refine ⟨⟨Nat.le_trans hS.1 hz, fun q a b => ?_, fun z hz2 => ?_⟩, hz, hk⟩
  · rw [hk q (Nat.lt_of_lt_of_le a hS.1) (fun z => b (hA q z))]; exact hS.2.1 q a b
  · rcases List.mem_append.mp hz2 with h | h
    · exact hS.2.2 z h
    · exact hA _ (hL z h)
/-- the table of a body with handlers -/
theorem pt_table {p : Program} {l : Launch} {y : MethodName} {S : Spec} {cc bytes : ByteArray} {maxL maxL' : Nat} {ret ret' : Option FieldType} {e : Env} {s s₁ : State} {m : MethodId} {args : Array Value} {below : List Frame} {meth : Method} {c : Code} {hh : List (Nat × Nat × Nat × Nat)}
    (B : BodyLoose p l y S cc maxL ret e s m args below meth c s₁) (h : (Cond.codeWith y bytes maxL' ret' hh).before args s = true) : c.exceptionTable.toList = tableOf hh := by
  obtain ⟨m9, meth9, c9, hn9, h1, h2, -, -, h6, -⟩ := Cond.codeWith_spec h
  cases Option.some.inj (hn9.symm.trans B.named)
  cases Option.some.inj (h1.symm.trans B.method)
  cases Option.some.inj (h2.symm.trans (Stand.of_body B).code)
  rw [← h6, table_eq]
/-- the two static fields that a new exception reads, and what lays them -/
theorem pt_stat_ext {s0 U : State} {a a' : Array Value} {C n d : String} (hx : pt_ext s0 U) (hl : (Cond.laysStatic C n d).before a s0 = true) :
    (Cond.laysStatic C n d).before a' U = true ∧ ((Cond.isRef (.static C n d)).before a s0 = true → (Cond.isRef (.static C n d)).before a' U = true) := by
  obtain ⟨c, k, i, f, ad, cell, h1, h2, h3, h4, h5, h6, h7, h8, h9⟩ := Cond.laysStatic_spec hl
  have hvm := hx.1.alike
  obtain ⟨k', hi', he⟩ := State.fieldFound?_setVm hvm h2
  have hi2 : U.fieldFound? C n d = some (c, k', i, f) := hi'
  have h5' : U.heap[ad]? = some cell := by rw [hx.2.2 ad (Array.getElem?_eq_some_iff.mp h5).1]; exact h5
  have h4' : k'.statics = some ad := by rw [he]; exact h4
  refine ⟨?_, fun h => ?_⟩
  · show (Cond.laysStatic C n d).holds a' U none U [] = true
    exact Cond.laysStatic_of (by rw [hvm.findClass]; exact h1) hi2 h3 h4' h5' h6 h7 h8 (by rw [he]; exact h9)
  · have e0 : (Term.static C n d).eval a s0 none [] s0 = cell.slots[f.slot]? := by simp [Term.eval, State.fieldNamed?, h2, h3, h4, h5, h6]
    have e1 : (Term.static C n d).eval a' U none [] U = cell.slots[f.slot]? := by simp [Term.eval, State.fieldNamed?, hi2, h3, h4', h5', h6]
    simp only [Cond.before, Cond.holds, Cond.value] at h ⊢
    rw [e0] at h
    rw [e1]
    exact h
/-- the words of the three throws -/
abbrev pt_exn : List String := ["java/lang/RuntimeException", "java/lang/Exception"]
def pt_xw : List Cond := (Cond.classLink RX0 37 "java/lang/IllegalArgumentException" :: Cond.initialized "java/lang/IllegalArgumentException" :: Bundle.ownAtoms RX0 41 "java/lang/IllegalArgumentException" pt_exn) ++
  (Cond.classLink RX0 99 "java/lang/IllegalStateException" :: Cond.initialized "java/lang/IllegalStateException" :: Bundle.ownAtoms RX0 103 "java/lang/IllegalStateException" pt_exn) ++
  (Cond.classLink RX0 80 "java/util/NoSuchElementException" :: Cond.initialized "java/util/NoSuchElementException" :: Bundle.ownAtoms RX0 84 "java/util/NoSuchElementException" pt_exn)
def pt_strs : List (Nat × String) := [(39, "a length is 1 to 64 bits"), (52, "the digits are below 0"), (82, "no free word from this one on"), (85, "what is 0, 1 or 2"), (95, "want is 1 where care is not"), (97, "no pattern of this number"), (101, "512 patterns are there"), (104, "clashes with a pattern")]
def pt_ncs : List (String × String) := [("java/lang/IllegalStateException", "java/lang/IllegalArgumentException"), ("java/util/NoSuchElementException", "java/lang/IllegalArgumentException")]
/-- what the throws need of the start -/
def pt_X (s0 : State) : Prop := (∀ w ∈ pt_xw, w.before #[] s0 = true) ∧ (∀ (k : Nat) (tx : String), (k, tx) ∈ pt_strs → ∃ a, vk_R RX0 k tx a s0) ∧ ∀ E nm : String, (E, nm) ∈ pt_ncs → pt_nc E nm s0
theorem pt_xw_in_iae : ∀ w ∈ Cond.classLink RX0 37 "java/lang/IllegalArgumentException" :: Cond.initialized "java/lang/IllegalArgumentException" :: Bundle.ownAtoms RX0 41 "java/lang/IllegalArgumentException" pt_exn, w ∈ pt_xw := fun _ h => List.mem_append_left _ (List.mem_append_left _ h)
theorem pt_xw_in_ise : ∀ w ∈ Cond.classLink RX0 99 "java/lang/IllegalStateException" :: Cond.initialized "java/lang/IllegalStateException" :: Bundle.ownAtoms RX0 103 "java/lang/IllegalStateException" pt_exn, w ∈ pt_xw := fun _ h => List.mem_append_left _ (List.mem_append_right _ h)
theorem pt_xw_in_nse : ∀ w ∈ Cond.classLink RX0 80 "java/util/NoSuchElementException" :: Cond.initialized "java/util/NoSuchElementException" :: Bundle.ownAtoms RX0 84 "java/util/NoSuchElementException" pt_exn, w ∈ pt_xw := fun _ h => List.mem_append_right _ h
/-- a word that the tables decide, and that warmer tables keep -/
def pt_tw (w : Cond) : Bool := w.onTables && w.keepsFace
theorem pt_tw_at {s0 U : State} {a a' : Array Value} {w : Cond} (hW : s0.WarmedH U.vm) (hw : pt_tw w = true) (h : w.before a s0 = true) : w.before a' U = true := by
  simp only [pt_tw, Bool.and_eq_true] at hw
  have h1 : w.before a (s0.setVm U.vm) = true := Cond.before_shiftedFace (State.Shifted.of_warmed hW) w hw.2 h
  rw [Cond.onTables_vm (A' := a') (U' := U) U.vm w hw.1, State.setVm_self] at h1
  exact h1
abbrev pt_hw : List Cond := [.laysStatic Bundle.tN "UNASSIGNED_STACK" Bundle.steD, .laysStatic Bundle.tN "SUPPRESSED_SENTINEL" Bundle.listD, .isRef (.static Bundle.tN "UNASSIGNED_STACK" Bundle.steD), .isRef (.static Bundle.tN "SUPPRESSED_SENTINEL" Bundle.listD)]
theorem pt_xw_all : ∀ w ∈ pt_xw, pt_tw w = true ∨ w ∈ pt_hw := by decide +kernel
theorem pt_hw_in : ∀ w ∈ pt_hw, w ∈ pt_xw := by decide +kernel
theorem pt_X_at {s0 U : State} (h : pt_X s0) (hx : pt_ext s0 U) (w : Cond) (hw : w ∈ pt_xw) (a : Array Value) : w.before a U = true := by
  rcases pt_xw_all w hw with h1 | h1
  · exact pt_tw_at hx.1 h1 (h.1 w hw)
  · have g := fun v hv => h.1 v (pt_hw_in v hv)
    simp only [pt_hw, List.mem_cons, List.not_mem_nil, or_false] at h1
    rcases h1 with rfl | rfl | rfl | rfl
    · exact (pt_stat_ext hx (g _ (by decide))).1
    · exact (pt_stat_ext hx (g _ (by decide))).1
    · exact (pt_stat_ext hx (g (.laysStatic Bundle.tN "UNASSIGNED_STACK" Bundle.steD) (by decide))).2 (g _ (by decide))
    · exact (pt_stat_ext hx (g (.laysStatic Bundle.tN "SUPPRESSED_SENTINEL" Bundle.listD) (by decide))).2 (g _ (by decide))
end
section
/-! What each call does, to the class and to the reference alike: number thrown, answer, rows behind it. -/
abbrev pt_st : Type := Nat × Nat × (Nat → Int64) × (Nat → Int64) × Int32 × Int32
def pt_Rclear (k n : Nat) (fc fv : Nat → Int64) (cl su : Int32) (x t : Int32) (u : pt_st) : Prop :=
  ((x < 1 ∨ ¬ x ≤ 64) ∧ t = 1 ∧ u = (k, n, fc, fv, cl, su)) ∨ ∃ a : Nat, 1 ≤ a ∧ a ≤ 64 ∧ x = nI a ∧ t = 0 ∧ u = (0, a, fc, fv, cl, su)
def pt_Rapp (k n : Nat) (fc fv : Nat → Int64) (cl su : Int32) (a b : Int64) (t : Int32) (o : Int64) (u : pt_st) : Prop :=
  (k = 512 ∧ t = 2 ∧ u = (k, n, fc, fv, -1, su)) ∨
  (k < 512 ∧ ∃ r : Int32, pt_F (fun j => pt_sh (fc j) (fv j) a b) k r ∧ ¬ r = -1 ∧ t = 2 ∧ u = (k, n, fc, fv, r, su)) ∨
  (k < 512 ∧ (∀ j, j < k → ¬ pt_sh (fc j) (fv j) a b) ∧ t = 0 ∧ o = (nI k).toInt64 ∧ u = (k + 1, n, vp_updL fc k a, vp_updL fv k b, cl, su))
def pt_Radd (k n : Nat) (fc fv : Nat → Int64) (cl su : Int32) (a b : Int64) (t : Int32) (o : Int64) (u : pt_st) : Prop :=
  (pt_stray n a b ∧ t = 1 ∧ u = (k, n, fc, fv, cl, su)) ∨ (¬ pt_stray n a b ∧ pt_Rapp k n fc fv cl su (a &&& pt_mk n) (b &&& pt_mk n) t o u)
def pt_Rsigns (k n : Nat) (fc fv : Nat → Int64) (cl su : Int32) (x : Int64) (t : Int32) (o : Int64) (u : pt_st) : Prop :=
  (x < 0 ∧ t = 1 ∧ u = (k, n, fc, fv, cl, su)) ∨ ∃ D : Nat, D < 2 ^ 63 ∧ x = lN D ∧ pt_Rapp k n fc fv cl su (pt_sc D 40 &&& pt_mk n) (pt_sw D 40 &&& pt_mk n) t o u
def pt_Rdrop (k n : Nat) (fc fv : Nat → Int64) (cl su : Int32) (x t : Int32) (u : pt_st) : Prop :=
  ((x < 0 ∨ ¬ x < nI k) ∧ t = 1 ∧ u = (k, n, fc, fv, cl, su)) ∨ ∃ i : Nat, i < k ∧ x = nI i ∧ t = 0 ∧ u = (k - 1, n, pt_mv fc i k, pt_mv fv i k, cl, su)
def pt_Rmeets (k n : Nat) (fc fv : Nat → Int64) (a b : Int64) (t : Int32) (o : Int64) : Prop :=
  (pt_stray n a b ∧ t = 1) ∨ (¬ pt_stray n a b ∧ t = 0 ∧ ∃ r : Int32, pt_F (fun j => pt_sh (fc j) (fv j) (a &&& pt_mk n) (b &&& pt_mk n)) k r ∧ o = r.toInt64)
def pt_Rfree (k n : Nat) (fc fv : Nat → Int64) (a b : Int64) (t : Int32) (o : Int64) : Prop :=
  (pt_stray n a b ∧ t = 1) ∨ (¬ pt_stray n a b ∧ t = 0 ∧ o = pt_fw n fc fv (a &&& pt_mk n) (b &&& pt_mk n) k)
def pt_Rnext (k n : Nat) (fc fv : Nat → Int64) (a : Int64) (t : Int32) (o : Int64) : Prop :=
  ((∀ j, j < k → ¬ pt_sh (fc j) (fv j) (pt_mk n) (a &&& pt_mk n)) ∧ t = 0 ∧ o = a &&& pt_mk n) ∨
  ((¬ ∀ j, j < k → ¬ pt_sh (fc j) (fv j) (pt_mk n) (a &&& pt_mk n)) ∧
    ((∃ i : Nat, i < n ∧ pt_N k n fc fv (a &&& pt_mk n) i ∧ (∀ j, j < i → ¬ pt_N k n fc fv (a &&& pt_mk n) j) ∧ t = 0 ∧ o = pt_lf k n fc fv i (pt_rs n (a &&& pt_mk n) i)) ∨
     ((∀ j, j < n → ¬ pt_N k n fc fv (a &&& pt_mk n) j) ∧ t = 1)))
def pt_Rtold (k n : Nat) (fc fv : Nat → Int64) (y x t : Int32) (o : Int64) : Prop :=
  ((x < 0 ∨ ¬ x ≤ 2) ∧ t = 1) ∨ (¬ x < 0 ∧ x ≤ 2 ∧ (y < 0 ∨ ¬ y < nI k) ∧ t = 2) ∨
  ∃ i : Nat, i < k ∧ y = nI i ∧ ¬ x < 0 ∧ x ≤ 2 ∧ t = 0 ∧ o = (if x = 0 then fc i else if x = 1 then fv i else (nI n - pt_bits (fc i)).toInt64)
theorem pt_Rclear_det {k n : Nat} {fc fv : Nat → Int64} {cl su x t t' : Int32} {u u' : pt_st} (h : pt_Rclear k n fc fv cl su x t u) (h' : pt_Rclear k n fc fv cl su x t' u') : t = t' ∧ u = u' := by
  have no : ∀ a : Nat, 1 ≤ a → a ≤ 64 → ¬ (nI a < 1 ∨ ¬ nI a ≤ 64) := fun a h1 h2 z => z.elim (fun z => nI_nlt (b := 1) h1 (by omega) z) (fun z => z (nI_le (b := 64) h2 (by decide)))
  rcases h with ⟨hb, rfl, rfl⟩ | ⟨a, h1, h2, rfl, rfl, rfl⟩
  · rcases h' with ⟨-, rfl, rfl⟩ | ⟨a', g1, g2, rfl, -, -⟩
    · exact ⟨rfl, rfl⟩
    · exact absurd hb (no a' g1 g2)
  · rcases h' with ⟨hb, -, -⟩ | ⟨a', g1, g2, e, rfl, rfl⟩
    · exact absurd hb (no a h1 h2)
    · have e := (nI_eq (by omega) (by omega)).mp e
      subst e
      exact ⟨rfl, rfl⟩
theorem pt_Rapp_det {k n : Nat} {fc fv : Nat → Int64} {cl su : Int32} {a b : Int64} {t t' : Int32} {o o' : Int64} {u u' : pt_st} (hk : k ≤ 512) (h : pt_Rapp k n fc fv cl su a b t o u) (h' : pt_Rapp k n fc fv cl su a b t' o' u') : t = t' ∧ u = u' ∧ (t = 0 → o = o') := by
  rcases h with ⟨e1, rfl, rfl⟩ | ⟨e1, r, hF, hr, rfl, rfl⟩ | ⟨e1, hno, rfl, rfl, rfl⟩
  · rcases h' with ⟨-, rfl, rfl⟩ | ⟨g, -⟩ | ⟨g, -⟩
    · exact ⟨rfl, rfl, fun z => absurd z (by decide)⟩
    · omega
    · omega
  · rcases h' with ⟨g, -⟩ | ⟨-, r', hF', -, rfl, rfl⟩ | ⟨-, hno', -⟩
    · omega
    · rw [pt_F_unique (fun _ _ => Iff.rfl) hF hF']
      exact ⟨rfl, rfl, fun z => absurd z (by decide)⟩
    · exact absurd ((pt_F_none hk hF).mpr hno') hr
  · rcases h' with ⟨g, -⟩ | ⟨-, r', hF', hr', -⟩ | ⟨-, -, rfl, rfl, rfl⟩
    · omega
    · exact absurd ((pt_F_none hk hF').mpr hno) hr'
    · exact ⟨rfl, rfl, fun _ => rfl⟩
theorem pt_Radd_det {k n : Nat} {fc fv : Nat → Int64} {cl su : Int32} {a b : Int64} {t t' : Int32} {o o' : Int64} {u u' : pt_st} (hk : k ≤ 512) (h : pt_Radd k n fc fv cl su a b t o u) (h' : pt_Radd k n fc fv cl su a b t' o' u') : t = t' ∧ u = u' ∧ (t = 0 → o = o') := by
  rcases h with ⟨hs, rfl, rfl⟩ | ⟨hs, h⟩
  · rcases h' with ⟨-, rfl, rfl⟩ | ⟨hs', -⟩
    · exact ⟨rfl, rfl, fun z => absurd z (by decide)⟩
    · exact absurd hs hs'
  · rcases h' with ⟨hs', -⟩ | ⟨-, h'⟩
    · exact absurd hs' hs
    · exact pt_Rapp_det hk h h'
theorem pt_Rsigns_det {k n : Nat} {fc fv : Nat → Int64} {cl su : Int32} {x : Int64} {t t' : Int32} {o o' : Int64} {u u' : pt_st} (hk : k ≤ 512) (h : pt_Rsigns k n fc fv cl su x t o u) (h' : pt_Rsigns k n fc fv cl su x t' o' u') : t = t' ∧ u = u' ∧ (t = 0 → o = o') := by
  have no : ∀ D : Nat, D < 2 ^ 63 → ¬ lN D < 0 := fun D hD z => absurd ((pk_lLT (b := 0) hD (by decide)).mp z) (Nat.not_lt_zero _)
  rcases h with ⟨hs, rfl, rfl⟩ | ⟨D, hD, rfl, h⟩
  · rcases h' with ⟨-, rfl, rfl⟩ | ⟨D, hD, rfl, -⟩
    · exact ⟨rfl, rfl, fun z => absurd z (by decide)⟩
    · exact absurd hs (no D hD)
  · rcases h' with ⟨hs', -⟩ | ⟨D', hD', e, h'⟩
    · exact absurd hs' (no D hD)
    · have e := (pk_lEQ hD hD').mp e
      subst e
      exact pt_Rapp_det hk h h'
theorem pt_Rdrop_det {k n : Nat} {fc fv : Nat → Int64} {cl su x t t' : Int32} {u u' : pt_st} (hk : k ≤ 512) (h : pt_Rdrop k n fc fv cl su x t u) (h' : pt_Rdrop k n fc fv cl su x t' u') : t = t' ∧ u = u' := by
  have no : ∀ i : Nat, i < k → ¬ (nI i < 0 ∨ ¬ nI i < nI k) := fun i h1 z => z.elim (fun z => nI_pos (by omega) z) (fun z => z (nI_lt h1 (by omega)))
  rcases h with ⟨hb, rfl, rfl⟩ | ⟨i, h1, rfl, rfl, rfl⟩
  · rcases h' with ⟨-, rfl, rfl⟩ | ⟨i, g1, rfl, -, -⟩
    · exact ⟨rfl, rfl⟩
    · exact absurd hb (no i g1)
  · rcases h' with ⟨hb, -, -⟩ | ⟨i', g1, e, rfl, rfl⟩
    · exact absurd hb (no i h1)
    · have e := (nI_eq (by omega) (by omega)).mp e
      subst e
      exact ⟨rfl, rfl⟩
theorem pt_Rmeets_det {k n : Nat} {fc fv : Nat → Int64} {a b : Int64} {t t' : Int32} {o o' : Int64} (h : pt_Rmeets k n fc fv a b t o) (h' : pt_Rmeets k n fc fv a b t' o') : t = t' ∧ (t = 0 → o = o') := by
  rcases h with ⟨hs, rfl⟩ | ⟨hs, rfl, r, hF, rfl⟩
  · rcases h' with ⟨-, rfl⟩ | ⟨hs', -⟩
    · exact ⟨rfl, fun z => absurd z (by decide)⟩
    · exact absurd hs hs'
  · rcases h' with ⟨hs', -⟩ | ⟨-, rfl, r', hF', rfl⟩
    · exact absurd hs' hs
    · exact ⟨rfl, fun _ => by rw [pt_F_unique (fun _ _ => Iff.rfl) hF hF']⟩
theorem pt_Rfree_det {k n : Nat} {fc fv : Nat → Int64} {a b : Int64} {t t' : Int32} {o o' : Int64} (h : pt_Rfree k n fc fv a b t o) (h' : pt_Rfree k n fc fv a b t' o') : t = t' ∧ (t = 0 → o = o') := by
  rcases h with ⟨hs, rfl⟩ | ⟨hs, rfl, rfl⟩
  · rcases h' with ⟨-, rfl⟩ | ⟨hs', -⟩
    · exact ⟨rfl, fun z => absurd z (by decide)⟩
    · exact absurd hs hs'
  · rcases h' with ⟨hs', -⟩ | ⟨-, rfl, rfl⟩
    · exact absurd hs' hs
    · exact ⟨rfl, fun _ => rfl⟩
theorem pt_Rnext_det {k n : Nat} {fc fv : Nat → Int64} {a : Int64} {t t' : Int32} {o o' : Int64} (h : pt_Rnext k n fc fv a t o) (h' : pt_Rnext k n fc fv a t' o') : t = t' ∧ (t = 0 → o = o') := by
  rcases h with ⟨hf, rfl, rfl⟩ | ⟨hf, ⟨i, hi, hN, hm, rfl, rfl⟩ | ⟨hN, rfl⟩⟩
  · rcases h' with ⟨-, rfl, rfl⟩ | ⟨hf', -⟩
    · exact ⟨rfl, fun _ => rfl⟩
    · exact absurd hf hf'
  · rcases h' with ⟨hf', -⟩ | ⟨-, ⟨i', hi', hN', hm', rfl, rfl⟩ | ⟨hN', -⟩⟩
    · exact absurd hf' hf
    · rcases Nat.lt_trichotomy i i' with z | z | z
      · exact absurd hN (hm' i z)
      · subst z; exact ⟨rfl, fun _ => rfl⟩
      · exact absurd hN' (hm i' z)
    · exact absurd hN (hN' i hi)
  · rcases h' with ⟨hf', -⟩ | ⟨-, ⟨i', hi', hN', hm', rfl, rfl⟩ | ⟨hN', rfl⟩⟩
    · exact absurd hf' hf
    · exact absurd hN' (hN i' hi')
    · exact ⟨rfl, fun z => absurd z (by decide)⟩
theorem pt_Rtold_det {k n : Nat} {fc fv : Nat → Int64} {y x t t' : Int32} {o o' : Int64} (hk : k ≤ 512) (h : pt_Rtold k n fc fv y x t o) (h' : pt_Rtold k n fc fv y x t' o') : t = t' ∧ (t = 0 → o = o') := by
  have nx : ¬ x < 0 → x ≤ 2 → ¬ (x < 0 ∨ ¬ x ≤ 2) := fun h1 h2 z => z.elim h1 (fun z => z h2)
  have no : ∀ i : Nat, i < k → ¬ (nI i < 0 ∨ ¬ nI i < nI k) := fun i h1 z => z.elim (fun z => nI_pos (by omega) z) (fun z => z (nI_lt h1 (by omega)))
  rcases h with ⟨hb, rfl⟩ | ⟨h1, h2, ha, rfl⟩ | ⟨i, hi, rfl, h1, h2, rfl, rfl⟩
  · rcases h' with ⟨-, rfl⟩ | ⟨g1, g2, -, -⟩ | ⟨i, -, -, g1, g2, -, -⟩
    · exact ⟨rfl, fun z => absurd z (by decide)⟩
    · exact absurd hb (nx g1 g2)
    · exact absurd hb (nx g1 g2)
  · rcases h' with ⟨hb, -⟩ | ⟨-, -, -, rfl⟩ | ⟨i, hi, rfl, -, -, -, -⟩
    · exact absurd hb (nx h1 h2)
    · exact ⟨rfl, fun z => absurd z (by decide)⟩
    · exact absurd ha (no i hi)
  · rcases h' with ⟨hb, -⟩ | ⟨-, -, ha, -⟩ | ⟨i', hi', e, -, -, rfl, rfl⟩
    · exact absurd hb (nx h1 h2)
    · exact absurd ha (no i hi)
    · have e := (nI_eq (by omega) (by omega)).mp e
      subst e
      exact ⟨rfl, fun _ => rfl⟩
/-- the rows stay as they must -/
abbrev pt_Iu (u : pt_st) : Prop := pt_I u.1 u.2.1 u.2.2.1 u.2.2.2.1
theorem pt_Rclear_I {k n : Nat} {fc fv : Nat → Int64} {cl su x t : Int32} {u : pt_st} (hI : pt_I k n fc fv) (h : pt_Rclear k n fc fv cl su x t u) : pt_Iu u := by
  rcases h with ⟨-, -, rfl⟩ | ⟨a, h1, h2, -, -, rfl⟩
  · exact hI
  · exact pt_I_0 h1 h2
theorem pt_Rapp_I {k n : Nat} {fc fv : Nat → Int64} {cl su : Int32} {a b : Int64} {t : Int32} {o : Int64} {u : pt_st} (hI : pt_I k n fc fv) (hab : ¬ pt_stray n a b) (h : pt_Rapp k n fc fv cl su (a &&& pt_mk n) (b &&& pt_mk n) t o u) : pt_Iu u := by
  rcases h with ⟨-, -, rfl⟩ | ⟨-, r, -, -, -, rfl⟩ | ⟨hk, hno, -, -, rfl⟩
  · exact hI
  · exact hI
  · exact pt_I_add hI hk (Classical.not_not.mp hab) hno
theorem pt_Radd_I {k n : Nat} {fc fv : Nat → Int64} {cl su : Int32} {a b : Int64} {t : Int32} {o : Int64} {u : pt_st} (hI : pt_I k n fc fv) (h : pt_Radd k n fc fv cl su a b t o u) : pt_Iu u := by
  rcases h with ⟨-, -, rfl⟩ | ⟨hs, h⟩
  · exact hI
  · exact pt_Rapp_I hI hs h
theorem pt_signs_fit (D i n : Nat) (hi : i ≤ 40) : ¬ pt_stray n (pt_sc D i) (pt_sw D i) := by
  unfold pt_stray
  rw [pt_sw_sc D i hi]
  intro z
  exact z (by apply pt_b_ext; intro j _; rw [pt_b_and, pt_b_0]; rfl)
theorem pt_Rsigns_I {k n : Nat} {fc fv : Nat → Int64} {cl su : Int32} {x : Int64} {t : Int32} {o : Int64} {u : pt_st} (hI : pt_I k n fc fv) (h : pt_Rsigns k n fc fv cl su x t o u) : pt_Iu u := by
  rcases h with ⟨-, -, rfl⟩ | ⟨D, -, -, h⟩
  · exact hI
  · exact pt_Rapp_I hI (pt_signs_fit D 40 n (Nat.le_refl _)) h
theorem pt_Rdrop_I {k n : Nat} {fc fv : Nat → Int64} {cl su x t : Int32} {u : pt_st} (hI : pt_I k n fc fv) (h : pt_Rdrop k n fc fv cl su x t u) : pt_Iu u := by
  rcases h with ⟨-, -, rfl⟩ | ⟨i, hi, -, -, rfl⟩
  · exact hI
  · exact pt_I_drop hI hi
theorem pt_Rsigns_of {k n : Nat} {fc fv : Nat → Int64} {cl su : Int32} {D M : Nat} {t : Int32} {o : Int64} {u : pt_st} (hn1 : 1 ≤ n) (hn2 : n ≤ 64) (hM : M = pt_sn n) (h : pt_Radd k n fc fv cl su (pt_sc D M) (pt_sw D M) t o u) :
    pt_Rapp k n fc fv cl su (pt_sc D 40 &&& pt_mk n) (pt_sw D 40 &&& pt_mk n) t o u := by
  rcases h with ⟨hs, -⟩ | ⟨-, h⟩
  · exact absurd hs (pt_signs_fit D M n (by rw [hM]; unfold pt_sn; split <;> omega))
  · obtain ⟨e1, e2⟩ := pt_signs (d := D) hn1 hn2
    rw [hM, e1, e2] at h
    exact h
end
