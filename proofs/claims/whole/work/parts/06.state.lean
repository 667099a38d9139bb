/-! What the throws lean on: the words of the start s0, true wherever s0 has only been added to. -/
def pt_ext (s0 U : State) : Prop := s0.WarmedH U.vm ∧ s0.heap.size ≤ U.heap.size ∧ ∀ q : Nat, q < s0.heap.size → U.heap[q]? = s0.heap[q]?
theorem pt_ext.same {s0 s U : State} (h : pt_ext s0 s) (hU : U.heap = s.heap) (hW : s.WarmedH U.vm) : pt_ext s0 U :=
  ⟨State.WarmedH.trans h.1 hW, by rw [hU]; exact h.2.1, by rw [hU]; exact h.2.2⟩
theorem pt_ext.on {s0 s U : State} {A : Nat → Prop} {H : Heap} {locs : List Loc} (h : pt_ext s0 s) (hS : va_S A s.heap H locs) (hA : ∀ q : Nat, A q → s0.heap.size ≤ q) (hU : U.heap = H) (hV : U.vm = s.vm) : pt_ext s0 U :=
  ⟨by rw [hV]; exact h.1, by rw [hU]; exact Nat.le_trans h.2.1 hS.1, fun q hq => by
    rw [hU, hS.2.1 q (Nat.lt_of_lt_of_le hq h.2.1) (fun z => Nat.not_lt.mpr (hA q z) hq)]
    exact h.2.2 q hq⟩
theorem pt_ext.on2 {s0 s U : State} {A : Nat → Prop} {H : Heap} {locs : List Loc} (h : pt_ext s0 s) (hS : va_S A s.heap H locs) (hA : ∀ q : Nat, A q → s0.heap.size ≤ q) (hU : U.heap = H) (hW : s.WarmedH U.vm) : pt_ext s0 U :=
  ⟨State.WarmedH.trans h.1 hW, by rw [hU]; exact Nat.le_trans h.2.1 hS.1, fun q hq => by
    rw [hU, hS.2.1 q (Nat.lt_of_lt_of_le hq h.2.1) (fun z => Nat.not_lt.mpr (hA q z) hq)]
    exact h.2.2 q hq⟩
theorem pt_As {s0 : State} {ws : va_W} {sz : Nat} (hD : va_D (fun q => s0.heap.size ≤ q) ws) (hsz : s0.heap.size ≤ sz) : ∀ q : Nat, va_A ws sz q → s0.heap.size ≤ q := fun q h => by
  rcases h with ⟨k, e, hk⟩ | h
  · exact hD.2 k _ hk
  · exact Nat.le_trans hsz h
theorem pt_S_thrown {A : Nat → Prop} {s t : State} {H : Heap} {locs : List Loc} (hS : va_S A s.heap H locs) (hz : H.size ≤ t.heap.size) (hk : ∀ q : Nat, q < H.size → t.heap[q]? = H[q]?) : va_F A s t :=
  ⟨Nat.le_trans hS.1 hz, fun q h1 h2 => by rw [hk q (Nat.lt_of_lt_of_le h1 hS.1)]; exact hS.2.1 q h1 h2⟩
theorem pt_F_same {A : Nat → Prop} {st s t t2 : State} (h1 : st.heap = s.heap) (h4 : t2.heap = t.heap) (h : va_F A st t) : va_F A s t2 :=
  ⟨by rw [h4, ← h1]; exact h.1, fun q a b => by rw [h4, ← h1]; exact h.2 q (by rw [h1]; exact a) b⟩
theorem pt_S_call {A A1 : Nat → Prop} {H0 H H1 : Heap} {locs L : List Loc} {st t : State} (hS : va_S A H0 H locs) (hA : ∀ q, A1 q → A q) (h1 : st.heap = H) (h3 : t.heap = H1) (hF : va_F A1 st t) (hL : ∀ z ∈ L, A1 z.base) :
    va_S A H0 H1 (locs ++ L) ∧ H.size ≤ H1.size ∧ ∀ q : Nat, q < H.size → ¬ A1 q → H1[q]? = H[q]? := by
  obtain ⟨hz, hk⟩ := hF
  rw [h1, h3] at hz hk
  refine ⟨⟨Nat.le_trans hS.1 hz, fun q a b => ?_, fun z hz2 => ?_⟩, hz, hk⟩
  · rw [hk q (Nat.lt_of_lt_of_le a hS.1) (fun z => b (hA q z))]; exact hS.2.1 q a b
  · rcases List.mem_append.mp hz2 with h | h
    · exact hS.2.2 z h
    · exact hA _ (hL z h)
/-- the table of a body with handlers -/
theorem pt_table {p : Program} {l : Launch} {y : MethodName} {S : Spec} {cc bytes : ByteArray} {maxL maxL' : Nat} {ret ret' : Option FieldType} {e : Env} {s s₁ : State} {m : MethodId} {args : Array Value} {below : List Frame} {meth : Method} {c : Code} {hh : List (Nat × Nat × Nat × Nat)}
    (B : BodyLoose p l y S cc maxL ret e s m args below meth c s₁) (h : (Cond.codeWith y bytes maxL' ret' hh).before args s = true) : c.exceptionTable.toList = tableOf hh := by
  obtain ⟨m9, meth9, c9, hn9, h1, h2, -, -, h6, -⟩ := Cond.codeWith_spec h
  cases Option.some.inj (hn9.symm.trans B.named)
  cases Option.some.inj (h1.symm.trans B.method)
  cases Option.some.inj (h2.symm.trans (Stand.of_body B).code)
  rw [← h6, table_eq]
/-- the two static fields that a new exception reads, and what lays them -/
theorem pt_stat_ext {s0 U : State} {a a' : Array Value} {C n d : String} (hx : pt_ext s0 U) (hl : (Cond.laysStatic C n d).before a s0 = true) :
    (Cond.laysStatic C n d).before a' U = true ∧ ((Cond.isRef (.static C n d)).before a s0 = true → (Cond.isRef (.static C n d)).before a' U = true) := by
  obtain ⟨c, k, i, f, ad, cell, h1, h2, h3, h4, h5, h6, h7, h8, h9⟩ := Cond.laysStatic_spec hl
  have hvm := hx.1.alike
  obtain ⟨k', hi', he⟩ := State.fieldFound?_setVm hvm h2
  have hi2 : U.fieldFound? C n d = some (c, k', i, f) := hi'
  have h5' : U.heap[ad]? = some cell := by rw [hx.2.2 ad (Array.getElem?_eq_some_iff.mp h5).1]; exact h5
  have h4' : k'.statics = some ad := by rw [he]; exact h4
  refine ⟨?_, fun h => ?_⟩
  · show (Cond.laysStatic C n d).holds a' U none U [] = true
    exact Cond.laysStatic_of (by rw [hvm.findClass]; exact h1) hi2 h3 h4' h5' h6 h7 h8 (by rw [he]; exact h9)
  · have e0 : (Term.static C n d).eval a s0 none [] s0 = cell.slots[f.slot]? := by simp [Term.eval, State.fieldNamed?, h2, h3, h4, h5, h6]
    have e1 : (Term.static C n d).eval a' U none [] U = cell.slots[f.slot]? := by simp [Term.eval, State.fieldNamed?, hi2, h3, h4', h5', h6]
    simp only [Cond.before, Cond.holds, Cond.value] at h ⊢
    rw [e0] at h
    rw [e1]
    exact h
theorem pt_n0 : decode prog_11_method_4_code 0 = .ok (.aload_n 0, 1) := by decide +kernel
theorem pt_n1 : decode prog_11_method_4_code 1 = .ok (.aload_n 1, 1) := by decide +kernel
theorem pt_n2 : decode prog_11_method_4_code 2 = .ok (.invokespecial 13, 3) := by decide +kernel
theorem pt_n5 : decode prog_11_method_4_code 5 = .ok (.return_, 1) := by decide +kernel
/-- the words of the three throws -/
abbrev pt_exn : List String := ["java/lang/RuntimeException", "java/lang/Exception"]
def pt_xw : List Cond := (Cond.classLink RX0 37 "java/lang/IllegalArgumentException" :: Cond.initialized "java/lang/IllegalArgumentException" :: Bundle.ownAtoms RX0 41 "java/lang/IllegalArgumentException" pt_exn) ++
  (Cond.classLink RX0 99 "java/lang/IllegalStateException" :: Cond.initialized "java/lang/IllegalStateException" :: Bundle.ownAtoms RX0 103 "java/lang/IllegalStateException" pt_exn) ++
  (Cond.classLink RX0 80 "java/util/NoSuchElementException" :: Cond.initialized "java/util/NoSuchElementException" :: pt_ownN RX0 84 "java/util/NoSuchElementException" "java/lang/RuntimeException" 13 prog_11_method_4_code ["java/lang/Exception"])
def pt_strs : List (Nat × String) := [(39, "a length is 1 to 64 bits"), (52, "the digits are below 0"), (82, "no free word from this one on"), (85, "what is 0, 1 or 2"), (95, "want is 1 where care is not"), (97, "no pattern of this number"), (101, "512 patterns are there"), (104, "clashes with a pattern")]
def pt_ncs : List (String × String) := [("java/lang/IllegalStateException", "java/lang/IllegalArgumentException"), ("java/util/NoSuchElementException", "java/lang/IllegalArgumentException")]
/-- what the throws need of the start -/
def pt_X (s0 : State) : Prop := (∀ w ∈ pt_xw, w.before #[] s0 = true) ∧ (∀ (k : Nat) (tx : String), (k, tx) ∈ pt_strs → ∃ a, vk_R RX0 k tx a s0) ∧ ∀ E nm : String, (E, nm) ∈ pt_ncs → pt_nc E nm s0
theorem pt_xw_in_iae : ∀ w ∈ Cond.classLink RX0 37 "java/lang/IllegalArgumentException" :: Cond.initialized "java/lang/IllegalArgumentException" :: Bundle.ownAtoms RX0 41 "java/lang/IllegalArgumentException" pt_exn, w ∈ pt_xw := fun _ h => List.mem_append_left _ (List.mem_append_left _ h)
theorem pt_xw_in_ise : ∀ w ∈ Cond.classLink RX0 99 "java/lang/IllegalStateException" :: Cond.initialized "java/lang/IllegalStateException" :: Bundle.ownAtoms RX0 103 "java/lang/IllegalStateException" pt_exn, w ∈ pt_xw := fun _ h => List.mem_append_left _ (List.mem_append_right _ h)
theorem pt_xw_in_nse : ∀ w ∈ Cond.classLink RX0 80 "java/util/NoSuchElementException" :: Cond.initialized "java/util/NoSuchElementException" :: pt_ownN RX0 84 "java/util/NoSuchElementException" "java/lang/RuntimeException" 13 prog_11_method_4_code ["java/lang/Exception"], w ∈ pt_xw := fun _ h => List.mem_append_right _ h
/-- a word that the tables decide, and that warmer tables keep -/
def pt_tw (w : Cond) : Bool := w.onTables && w.keepsFace
theorem pt_tw_at {s0 U : State} {a a' : Array Value} {w : Cond} (hW : s0.WarmedH U.vm) (hw : pt_tw w = true) (h : w.before a s0 = true) : w.before a' U = true := by
  simp only [pt_tw, Bool.and_eq_true] at hw
  have h1 : w.before a (s0.setVm U.vm) = true := Cond.before_shiftedFace (State.Shifted.of_warmed hW) w hw.2 h
  rw [Cond.onTables_vm (A' := a') (U' := U) U.vm w hw.1, State.setVm_self] at h1
  exact h1
abbrev pt_hw : List Cond := [.laysStatic Bundle.tN "UNASSIGNED_STACK" Bundle.steD, .laysStatic Bundle.tN "SUPPRESSED_SENTINEL" Bundle.listD, .isRef (.static Bundle.tN "UNASSIGNED_STACK" Bundle.steD), .isRef (.static Bundle.tN "SUPPRESSED_SENTINEL" Bundle.listD)]
theorem pt_xw_all : ∀ w ∈ pt_xw, pt_tw w = true ∨ w ∈ pt_hw := by decide +kernel
theorem pt_hw_in : ∀ w ∈ pt_hw, w ∈ pt_xw := by decide +kernel
theorem pt_X_at {s0 U : State} (h : pt_X s0) (hx : pt_ext s0 U) (w : Cond) (hw : w ∈ pt_xw) (a : Array Value) : w.before a U = true := by
  rcases pt_xw_all w hw with h1 | h1
  · exact pt_tw_at hx.1 h1 (h.1 w hw)
  · have g := fun v hv => h.1 v (pt_hw_in v hv)
    simp only [pt_hw, List.mem_cons, List.not_mem_nil, or_false] at h1
    rcases h1 with rfl | rfl | rfl | rfl
    · exact (pt_stat_ext hx (g _ (by decide))).1
    · exact (pt_stat_ext hx (g _ (by decide))).1
    · exact (pt_stat_ext hx (g (.laysStatic Bundle.tN "UNASSIGNED_STACK" Bundle.steD) (by decide))).2 (g _ (by decide))
    · exact (pt_stat_ext hx (g (.laysStatic Bundle.tN "SUPPRESSED_SENTINEL" Bundle.listD) (by decide))).2 (g _ (by decide))
