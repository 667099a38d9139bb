set_option maxHeartbeats 4000000 in
set_option maxRecDepth 100000 in
/-- refuseStrayWant(care, want) lets it pass -/
theorem c_refuseStrayWant (l : Launch) (dC : Nat → ClassId) (dI : Nat → Nat → Nat) (h0 c0 w0 : Nat) (kc kw : ClassId) (k n : Nat) (fc fv : Nat → Int64) (cl su : Int32) (a b : Int64) (hst : ¬ pt_stray n a b) : Met l yX0_refuseStrayWant wsX0_refuseStrayWant ({ frames := 0, cells := 0, slots := 0, locals := 0 }) (va_Pc [.ref h0, .long a, .long b] (fun U => va_P (dC, dI) vwCl [(h0, .inr (0, [.ref c0, .ref w0, .int (nI k), .int (nI n), .long (pt_mk n), .int cl, .int su])), (c0, .inl (kc, 512, .inr (.inl fc))), (w0, .inl (kw, 512, .inr (.inl fv)))] U.heap ∧ va_K (dC, dI) vwCl [(kc, .long), (kw, .long)] U)) (va_Sv (fun _ : Unit => True)) 0 0 (fun _ => False) := by
  refine Met.ofW (cc := cX0_refuseStrayWant) (maxL := 5) (ret := none) (by decide) rfl ?_
  intro p e s m args below meth c s₁ B hml hv
  obtain ⟨ha, hP, hK⟩ := hv
  have hx := B.exec
  have hb := B.bytes
  have hr := B.returns
  have hts := atoms_spec (ws := wsX0_refuseStrayWant) B.pre
  have hown : s.vm.findClass RX0 = some m.cls := findClass_of_methodNamed B.named
  have hlocks := B.notSynchronized
  have hl := lv_entry ([.ref h0, .long a, .long b]) (n := 5) (Nat.le_of_ble_eq_true rfl)
  refine W.eq (show entryFrame m args 5 = entryFrame m ([.ref h0, .long a, .long b] : List Value).toArray 5 by rw [ha]) ?_
  rw [lg_entry_eq]
  generalize (lg_sl ([.ref h0, .long a, .long b]) ++ List.replicate (5 - (lg_sl ([.ref h0, .long a, .long b])).length) Slot.unset).toArray = ls at hl ⊢
  have hl : lv_has ls 5 [(0, .ref h0), (1, .long a), (3, .long b)] := hl
  generalize hQ : MQ below (va_Sv (fun _ : Unit => True)) args s 0 0 (fun _ => False) = Q
  refine lv_lload_n hx hb dX0_refuseStrayWant_0 rfl (lv_at hl 2 rfl) ?_
  refine lv_lload_n hx hb dX0_refuseStrayWant_1 rfl (lv_at hl 1 rfl) ?_
  refine lv_ldc2 (v := (-1)) hx hb hown (hts _ (List.mem_cons_of_mem _ pw31)) dX0_refuseStrayWant_2 ?_
  refine lv_lxor hx hb dX0_refuseStrayWant_5 ?_
  refine lv_land hx hb dX0_refuseStrayWant_6 ?_
  refine lv_aload_n hx hb dX0_refuseStrayWant_7 rfl (lv_at hl 0 rfl) ?_
  refine va_get (D := (dC, dI)) (ci := 0) (v := .long (pt_mk n)) (C := RX0) (T := TX0) (N := 7) hx hb hts (fun w h => List.mem_cons_of_mem _ (pt_wsX0 w h)) hown hK hP 0 rfl rfl 4 (by decide) (hts _ (List.mem_cons_of_mem _ pw36)) (fun _ h9 => h9) rfl dX0_refuseStrayWant_8 ?_
  refine lv_land hx hb dX0_refuseStrayWant_11 ?_
  refine lv_lconst (v := 0) hx hb dX0_refuseStrayWant_12 (by decide) ?_
  refine W.lcmp hx hb dX0_refuseStrayWant_13 ?_
  refine lv_if_eq (tgt := 27) hx hb dX0_refuseStrayWant_14 (by decide) (fun h1 => ?_) (fun h1 => absurd (fun z => h1 (pt_cmp0.mpr z)) hst)
  rw [← hQ]
  exact W.vret hx hb hr (fun t ht hW => ⟨rfl, trivial, ht⟩) t_nil dX0_refuseStrayWant_27
set_option maxHeartbeats 4000000 in
set_option maxRecDepth 100000 in
/-- refuseStrayWant(care, want) refuses -/
theorem t_refuseStrayWant (l : Launch) (hl9 : l.stackTraces = false) (dC : Nat → ClassId) (dI : Nat → Nat → Nat) (s0 : State) (h0X : pt_X s0) (h0 c0 w0 : Nat) (kc kw : ClassId) (k n : Nat) (fc fv : Nat → Int64) (cl su : Int32) (a b : Int64) (sz : Nat) (hst : pt_stray n a b) : pt_Thr l yX0_refuseStrayWant wsX0_refuseStrayWant ({ frames := 6, cells := 1, slots := 6, locals := 82 }) (va_Pc [.ref h0, .long a, .long b] (fun U => U.heap.size = sz ∧ va_P (dC, dI) vwCl [(h0, .inr (0, [.ref c0, .ref w0, .int (nI k), .int (nI n), .long (pt_mk n), .int cl, .int su])), (c0, .inl (kc, 512, .inr (.inl fc))), (w0, .inl (kw, 512, .inr (.inl fv)))] U.heap ∧ va_K (dC, dI) vwCl [(kc, .long), (kw, .long)] U ∧ va_D (fun q => s0.heap.size ≤ q) [(h0, .inr (0, [.ref c0, .ref w0, .int (nI k), .int (nI n), .long (pt_mk n), .int cl, .int su])), (c0, .inl (kc, 512, .inr (.inl fc))), (w0, .inl (kw, 512, .inr (.inl fv)))] ∧ pt_ext s0 U)) "java/lang/IllegalArgumentException" (fun st t => va_P (dC, dI) vwCl [(h0, .inr (0, [.ref c0, .ref w0, .int (nI k), .int (nI n), .long (pt_mk n), .int cl, .int su])), (c0, .inl (kc, 512, .inr (.inl fc))), (w0, .inl (kw, 512, .inr (.inl fv)))] t.heap ∧ va_K (dC, dI) vwCl [(kc, .long), (kw, .long)] t ∧ va_D (va_A [(h0, .inr (0, [.ref c0, .ref w0, .int (nI k), .int (nI n), .long (pt_mk n), .int cl, .int su])), (c0, .inl (kc, 512, .inr (.inl fc))), (w0, .inl (kw, 512, .inr (.inl fv)))] sz) [(h0, .inr (0, [.ref c0, .ref w0, .int (nI k), .int (nI n), .long (pt_mk n), .int cl, .int su])), (c0, .inl (kc, 512, .inr (.inl fc))), (w0, .inl (kw, 512, .inr (.inl fv)))] ∧ va_F (va_A [(h0, .inr (0, [.ref c0, .ref w0, .int (nI k), .int (nI n), .long (pt_mk n), .int cl, .int su])), (c0, .inl (kc, 512, .inr (.inl fc))), (w0, .inl (kw, 512, .inr (.inl fv)))] sz) st t) 1 6 (va_A [(h0, .inr (0, [.ref c0, .ref w0, .int (nI k), .int (nI n), .long (pt_mk n), .int cl, .int su])), (c0, .inl (kc, 512, .inr (.inl fc))), (w0, .inl (kw, 512, .inr (.inl fv)))] sz) := by
  refine pt_Thr_ofW (cc := cX0_refuseStrayWant) (maxL := 5) (ret := none) (by decide) rfl ?_
  intro p e s m args below meth c s₁ B hml hnoh hv
  obtain ⟨ha, hsz, hP, hK, hD0, hext⟩ := hv
  subst hsz
  have hx := B.exec
  have hb := B.bytes
  have hr := B.returns
  have hts := atoms_spec (ws := wsX0_refuseStrayWant) B.pre
  have hown : s.vm.findClass RX0 = some m.cls := findClass_of_methodNamed B.named
  have hlocks := B.notSynchronized
  have hl := lv_entry ([.ref h0, .long a, .long b]) (n := 5) (Nat.le_of_ble_eq_true rfl)
  refine W.eq (show entryFrame m args 5 = entryFrame m ([.ref h0, .long a, .long b] : List Value).toArray 5 by rw [ha]) ?_
  rw [lg_entry_eq]
  generalize (lg_sl ([.ref h0, .long a, .long b]) ++ List.replicate (5 - (lg_sl ([.ref h0, .long a, .long b])).length) Slot.unset).toArray = ls at hl ⊢
  have hl : lv_has ls 5 [(0, .ref h0), (1, .long a), (3, .long b)] := hl
  have hD := hD0.self (sz := s.heap.size)
  have hAs : ∀ q : Nat, va_A [(h0, .inr (0, [.ref c0, .ref w0, .int (nI k), .int (nI n), .long (pt_mk n), .int cl, .int su])), (c0, .inl (kc, 512, .inr (.inl fc))), (w0, .inl (kw, 512, .inr (.inl fv)))] s.heap.size q → s0.heap.size ≤ q := pt_As hD0 hext.2.1
  generalize hAe : va_A [(h0, .inr (0, [.ref c0, .ref w0, .int (nI k), .int (nI n), .long (pt_mk n), .int cl, .int su])), (c0, .inl (kc, 512, .inr (.inl fc))), (w0, .inl (kw, 512, .inr (.inl fv)))] s.heap.size = A at hD hAs ⊢
  have hA : ∀ q : Nat, s.heap.size ≤ q → A q := fun q h => by rw [← hAe]; exact Or.inr h
  have hS : va_S A s.heap s.heap [] := va_S.rf
  have hP : va_P (dC, dI) vwCl [(h0, .inr (0, [.ref c0, .ref w0, .int (nI k), .int (nI n), .long (pt_mk n), .int cl, .int su])), (c0, .inl (kc, 512, .inr (.inl fc))), (w0, .inl (kw, 512, .inr (.inl fv)))] s.heap := hP
  generalize hQ : pt_TQ below "java/lang/IllegalArgumentException" (fun st t => va_P (dC, dI) vwCl [(h0, .inr (0, [.ref c0, .ref w0, .int (nI k), .int (nI n), .long (pt_mk n), .int cl, .int su])), (c0, .inl (kc, 512, .inr (.inl fc))), (w0, .inl (kw, 512, .inr (.inl fv)))] t.heap ∧ va_K (dC, dI) vwCl [(kc, .long), (kw, .long)] t ∧ va_D A [(h0, .inr (0, [.ref c0, .ref w0, .int (nI k), .int (nI n), .long (pt_mk n), .int cl, .int su])), (c0, .inl (kc, 512, .inr (.inl fc))), (w0, .inl (kw, 512, .inr (.inl fv)))] ∧ va_F A st t) s 1 6 A = Q
  refine lv_lload_n hx hb dX0_refuseStrayWant_0 rfl (lv_at hl 2 rfl) ?_
  refine lv_lload_n hx hb dX0_refuseStrayWant_1 rfl (lv_at hl 1 rfl) ?_
  refine lv_ldc2 (v := (-1)) hx hb hown (hts _ (List.mem_cons_of_mem _ pw31)) dX0_refuseStrayWant_2 ?_
  refine lv_lxor hx hb dX0_refuseStrayWant_5 ?_
  refine lv_land hx hb dX0_refuseStrayWant_6 ?_
  refine lv_aload_n hx hb dX0_refuseStrayWant_7 rfl (lv_at hl 0 rfl) ?_
  refine va_get (D := (dC, dI)) (ci := 0) (v := .long (pt_mk n)) (C := RX0) (T := TX0) (N := 7) hx hb hts (fun w h => List.mem_cons_of_mem _ (pt_wsX0 w h)) hown hK hP 0 rfl rfl 4 (by decide) (hts _ (List.mem_cons_of_mem _ pw36)) (fun _ h9 => h9) rfl dX0_refuseStrayWant_8 ?_
  refine lv_land hx hb dX0_refuseStrayWant_11 ?_
  refine lv_lconst (v := 0) hx hb dX0_refuseStrayWant_12 (by decide) ?_
  refine W.lcmp hx hb dX0_refuseStrayWant_13 ?_
  refine lv_if_eq (tgt := 27) hx hb dX0_refuseStrayWant_14 (by decide) (fun h1 => absurd (pt_cmp0.mp h1) hst) (fun h1 => ?_)
  obtain ⟨sa, hstr⟩ := h0X.2.1 95 "want is 1 where care is not" (by decide)
  rw [← hQ]
  exact pt_throwS (own := RX0) (cls := "java/lang/IllegalArgumentException") (text := "want is 1 where care is not") (names := ["java/lang/RuntimeException", "java/lang/Exception"]) (ik := 37) (is := 95) (ic := 41) (sa := sa) hx hb hl9 hown (by decide) (by decide) (fun U hU hV w hw => pt_X_at h0X (hext.on hS hAs hU hV) w (pt_xw_in_iae w hw) _) (vk_R.warm hext.1 hstr) (hl.1.trans hml.symm) dX0_refuseStrayWant_17 dX0_refuseStrayWant_20 dX0_refuseStrayWant_21 dX0_refuseStrayWant_23 dX0_refuseStrayWant_26 hnoh (by decide) (by decide) (by decide) (by decide) hlocks (fun t hW hz hk => ⟨hP.kept (fun k q hq => hk _ ((hP k q hq).lt)), va_K.moved hW.alike hK, hD, pt_S_thrown hS hz hk⟩) hS.2.2 (by decide) (by decide)
set_option maxHeartbeats 4000000 in
set_option maxRecDepth 100000 in
/-- refuseAbsent(i) lets it pass -/
theorem c_refuseAbsent (l : Launch) (dC : Nat → ClassId) (dI : Nat → Nat → Nat) (h0 c0 w0 : Nat) (kc kw : ClassId) (k n : Nat) (fc fv : Nat → Int64) (cl su : Int32) (i : Nat) (hi : i < k) (hk : k ≤ 512) : Met l yX0_refuseAbsent wsX0_refuseAbsent ({ frames := 0, cells := 0, slots := 0, locals := 0 }) (va_Pc [.ref h0, .int (nI i)] (fun U => va_P (dC, dI) vwCl [(h0, .inr (0, [.ref c0, .ref w0, .int (nI k), .int (nI n), .long (pt_mk n), .int cl, .int su])), (c0, .inl (kc, 512, .inr (.inl fc))), (w0, .inl (kw, 512, .inr (.inl fv)))] U.heap ∧ va_K (dC, dI) vwCl [(kc, .long), (kw, .long)] U)) (va_Sv (fun _ : Unit => True)) 0 0 (fun _ => False) := by
  refine Met.ofW (cc := cX0_refuseAbsent) (maxL := 2) (ret := none) (by decide) rfl ?_
  intro p e s m args below meth c s₁ B hml hv
  obtain ⟨ha, hP, hK⟩ := hv
  have hx := B.exec
  have hb := B.bytes
  have hr := B.returns
  have hts := atoms_spec (ws := wsX0_refuseAbsent) B.pre
  have hown : s.vm.findClass RX0 = some m.cls := findClass_of_methodNamed B.named
  have hlocks := B.notSynchronized
  have hl := lv_entry ([.ref h0, .int (nI i)]) (n := 2) (Nat.le_of_ble_eq_true rfl)
  refine W.eq (show entryFrame m args 2 = entryFrame m ([.ref h0, .int (nI i)] : List Value).toArray 2 by rw [ha]) ?_
  rw [lg_entry_eq]
  generalize (lg_sl ([.ref h0, .int (nI i)]) ++ List.replicate (2 - (lg_sl ([.ref h0, .int (nI i)])).length) Slot.unset).toArray = ls at hl ⊢
  have hl : lv_has ls 2 [(0, .ref h0), (1, .int (nI i))] := hl
  generalize hQ : MQ below (va_Sv (fun _ : Unit => True)) args s 0 0 (fun _ => False) = Q
  refine lv_iload_n hx hb dX0_refuseAbsent_0 rfl (lv_at hl 1 rfl) ?_
  refine lv_if_lt (tgt := 12) hx hb dX0_refuseAbsent_1 (by decide) (fun h1 => absurd h1 (nI_pos (by omega))) (fun h1 => ?_)
  refine lv_iload_n hx hb dX0_refuseAbsent_4 rfl (lv_at hl 1 rfl) ?_
  refine lv_aload_n hx hb dX0_refuseAbsent_5 rfl (lv_at hl 0 rfl) ?_
  refine va_get (D := (dC, dI)) (ci := 0) (v := .int (nI k)) (C := RX0) (T := TX0) (N := 7) hx hb hts (fun w h => List.mem_cons_of_mem _ (pt_wsX0 w h)) hown hK hP 0 rfl rfl 2 (by decide) (hts _ (List.mem_cons_of_mem _ pw34)) (fun _ h9 => h9) rfl dX0_refuseAbsent_6 ?_
  refine lv_icmp_lt (tgt := 22) hx hb dX0_refuseAbsent_9 (by decide) (fun h2 => ?_) (fun h2 => absurd (nI_lt hi (by omega)) h2)
  rw [← hQ]
  exact W.vret hx hb hr (fun t ht hW => ⟨rfl, trivial, ht⟩) t_nil dX0_refuseAbsent_22
set_option maxHeartbeats 4000000 in
set_option maxRecDepth 100000 in
/-- refuseAbsent(i) refuses -/
theorem t_refuseAbsent (l : Launch) (hl9 : l.stackTraces = false) (dC : Nat → ClassId) (dI : Nat → Nat → Nat) (s0 : State) (h0X : pt_X s0) (h0 c0 w0 : Nat) (kc kw : ClassId) (k n : Nat) (fc fv : Nat → Int64) (cl su : Int32) (x : Int32) (sz : Nat) (hab : x < 0 ∨ ¬ x < nI k) : pt_Thr l yX0_refuseAbsent wsX0_refuseAbsent ({ frames := 6, cells := 1, slots := 6, locals := 82 }) (va_Pc [.ref h0, .int x] (fun U => U.heap.size = sz ∧ va_P (dC, dI) vwCl [(h0, .inr (0, [.ref c0, .ref w0, .int (nI k), .int (nI n), .long (pt_mk n), .int cl, .int su])), (c0, .inl (kc, 512, .inr (.inl fc))), (w0, .inl (kw, 512, .inr (.inl fv)))] U.heap ∧ va_K (dC, dI) vwCl [(kc, .long), (kw, .long)] U ∧ va_D (fun q => s0.heap.size ≤ q) [(h0, .inr (0, [.ref c0, .ref w0, .int (nI k), .int (nI n), .long (pt_mk n), .int cl, .int su])), (c0, .inl (kc, 512, .inr (.inl fc))), (w0, .inl (kw, 512, .inr (.inl fv)))] ∧ pt_ext s0 U)) "java/util/NoSuchElementException" (fun st t => va_P (dC, dI) vwCl [(h0, .inr (0, [.ref c0, .ref w0, .int (nI k), .int (nI n), .long (pt_mk n), .int cl, .int su])), (c0, .inl (kc, 512, .inr (.inl fc))), (w0, .inl (kw, 512, .inr (.inl fv)))] t.heap ∧ va_K (dC, dI) vwCl [(kc, .long), (kw, .long)] t ∧ va_D (va_A [(h0, .inr (0, [.ref c0, .ref w0, .int (nI k), .int (nI n), .long (pt_mk n), .int cl, .int su])), (c0, .inl (kc, 512, .inr (.inl fc))), (w0, .inl (kw, 512, .inr (.inl fv)))] sz) [(h0, .inr (0, [.ref c0, .ref w0, .int (nI k), .int (nI n), .long (pt_mk n), .int cl, .int su])), (c0, .inl (kc, 512, .inr (.inl fc))), (w0, .inl (kw, 512, .inr (.inl fv)))] ∧ va_F (va_A [(h0, .inr (0, [.ref c0, .ref w0, .int (nI k), .int (nI n), .long (pt_mk n), .int cl, .int su])), (c0, .inl (kc, 512, .inr (.inl fc))), (w0, .inl (kw, 512, .inr (.inl fv)))] sz) st t) 1 6 (va_A [(h0, .inr (0, [.ref c0, .ref w0, .int (nI k), .int (nI n), .long (pt_mk n), .int cl, .int su])), (c0, .inl (kc, 512, .inr (.inl fc))), (w0, .inl (kw, 512, .inr (.inl fv)))] sz) := by
  refine pt_Thr_ofW (cc := cX0_refuseAbsent) (maxL := 2) (ret := none) (by decide) rfl ?_
  intro p e s m args below meth c s₁ B hml hnoh hv
  obtain ⟨ha, hsz, hP, hK, hD0, hext⟩ := hv
  subst hsz
  have hx := B.exec
  have hb := B.bytes
  have hr := B.returns
  have hts := atoms_spec (ws := wsX0_refuseAbsent) B.pre
  have hown : s.vm.findClass RX0 = some m.cls := findClass_of_methodNamed B.named
  have hlocks := B.notSynchronized
  have hl := lv_entry ([.ref h0, .int x]) (n := 2) (Nat.le_of_ble_eq_true rfl)
  refine W.eq (show entryFrame m args 2 = entryFrame m ([.ref h0, .int x] : List Value).toArray 2 by rw [ha]) ?_
  rw [lg_entry_eq]
  generalize (lg_sl ([.ref h0, .int x]) ++ List.replicate (2 - (lg_sl ([.ref h0, .int x])).length) Slot.unset).toArray = ls at hl ⊢
  have hl : lv_has ls 2 [(0, .ref h0), (1, .int x)] := hl
  have hD := hD0.self (sz := s.heap.size)
  have hAs : ∀ q : Nat, va_A [(h0, .inr (0, [.ref c0, .ref w0, .int (nI k), .int (nI n), .long (pt_mk n), .int cl, .int su])), (c0, .inl (kc, 512, .inr (.inl fc))), (w0, .inl (kw, 512, .inr (.inl fv)))] s.heap.size q → s0.heap.size ≤ q := pt_As hD0 hext.2.1
  generalize hAe : va_A [(h0, .inr (0, [.ref c0, .ref w0, .int (nI k), .int (nI n), .long (pt_mk n), .int cl, .int su])), (c0, .inl (kc, 512, .inr (.inl fc))), (w0, .inl (kw, 512, .inr (.inl fv)))] s.heap.size = A at hD hAs ⊢
  have hA : ∀ q : Nat, s.heap.size ≤ q → A q := fun q h => by rw [← hAe]; exact Or.inr h
  have hS : va_S A s.heap s.heap [] := va_S.rf
  have hP : va_P (dC, dI) vwCl [(h0, .inr (0, [.ref c0, .ref w0, .int (nI k), .int (nI n), .long (pt_mk n), .int cl, .int su])), (c0, .inl (kc, 512, .inr (.inl fc))), (w0, .inl (kw, 512, .inr (.inl fv)))] s.heap := hP
  generalize hQ : pt_TQ below "java/util/NoSuchElementException" (fun st t => va_P (dC, dI) vwCl [(h0, .inr (0, [.ref c0, .ref w0, .int (nI k), .int (nI n), .long (pt_mk n), .int cl, .int su])), (c0, .inl (kc, 512, .inr (.inl fc))), (w0, .inl (kw, 512, .inr (.inl fv)))] t.heap ∧ va_K (dC, dI) vwCl [(kc, .long), (kw, .long)] t ∧ va_D A [(h0, .inr (0, [.ref c0, .ref w0, .int (nI k), .int (nI n), .long (pt_mk n), .int cl, .int su])), (c0, .inl (kc, 512, .inr (.inl fc))), (w0, .inl (kw, 512, .inr (.inl fv)))] ∧ va_F A st t) s 1 6 A = Q
  refine lv_iload_n hx hb dX0_refuseAbsent_0 rfl (lv_at hl 1 rfl) ?_
  refine lv_if_lt (tgt := 12) hx hb dX0_refuseAbsent_1 (by decide) (fun h1 => ?_) (fun h1 => ?_)
  · obtain ⟨sa, hstr⟩ := h0X.2.1 97 "no pattern of this number" (by decide)
    rw [← hQ]
    exact pt_throwN (Yc := "java/lang/RuntimeException") (b1 := prog_11_method_4_code) (ix := 13) (own := RX0) (cls := "java/util/NoSuchElementException") (text := "no pattern of this number") (names := ["java/lang/Exception"]) (ik := 80) (is := 97) (ic := 84) (sa := sa) hx hb hl9 hown (by decide) (by decide) pt_n0 pt_n1 pt_n2 pt_n5 (by decide) (fun U hU hV w hw => pt_X_at h0X (hext.on hS hAs hU hV) w (pt_xw_in_nse w hw) _) (vk_R.warm hext.1 hstr) (hl.1.trans hml.symm) dX0_refuseAbsent_12 dX0_refuseAbsent_15 dX0_refuseAbsent_16 dX0_refuseAbsent_18 dX0_refuseAbsent_21 hnoh (by decide) (by decide) (by decide) (by decide) hlocks (fun t hW hz hk => ⟨hP.kept (fun k q hq => hk _ ((hP k q hq).lt)), va_K.moved hW.alike hK, hD, pt_S_thrown hS hz hk⟩) hS.2.2 (by decide) (by decide)
  · refine lv_iload_n hx hb dX0_refuseAbsent_4 rfl (lv_at hl 1 rfl) ?_
    refine lv_aload_n hx hb dX0_refuseAbsent_5 rfl (lv_at hl 0 rfl) ?_
    refine va_get (D := (dC, dI)) (ci := 0) (v := .int (nI k)) (C := RX0) (T := TX0) (N := 7) hx hb hts (fun w h => List.mem_cons_of_mem _ (pt_wsX0 w h)) hown hK hP 0 rfl rfl 2 (by decide) (hts _ (List.mem_cons_of_mem _ pw34)) (fun _ h9 => h9) rfl dX0_refuseAbsent_6 ?_
    refine lv_icmp_lt (tgt := 22) hx hb dX0_refuseAbsent_9 (by decide) (fun h2 => (hab.elim (fun z => absurd z h1) (fun z => absurd h2 z))) (fun h2 => ?_)
    obtain ⟨sa, hstr⟩ := h0X.2.1 97 "no pattern of this number" (by decide)
    rw [← hQ]
    exact pt_throwN (Yc := "java/lang/RuntimeException") (b1 := prog_11_method_4_code) (ix := 13) (own := RX0) (cls := "java/util/NoSuchElementException") (text := "no pattern of this number") (names := ["java/lang/Exception"]) (ik := 80) (is := 97) (ic := 84) (sa := sa) hx hb hl9 hown (by decide) (by decide) pt_n0 pt_n1 pt_n2 pt_n5 (by decide) (fun U hU hV w hw => pt_X_at h0X (hext.on hS hAs hU hV) w (pt_xw_in_nse w hw) _) (vk_R.warm hext.1 hstr) (hl.1.trans hml.symm) dX0_refuseAbsent_12 dX0_refuseAbsent_15 dX0_refuseAbsent_16 dX0_refuseAbsent_18 dX0_refuseAbsent_21 hnoh (by decide) (by decide) (by decide) (by decide) hlocks (fun t hW hz hk => ⟨hP.kept (fun k q hq => hk _ ((hP k q hq).lt)), va_K.moved hW.alike hK, hD, pt_S_thrown hS hz hk⟩) hS.2.2 (by decide) (by decide)
set_option maxHeartbeats 4000000 in
set_option maxRecDepth 100000 in
/-- PatternTree() -/
theorem c_init (l : Launch) (dC : Nat → ClassId) (dI : Nat → Nat → Nat) (h0 : Nat) (sz : Nat)  : Met l yX0_init wsX0_init ({ frames := 1, cells := 2, slots := 1024, locals := 20 }) (va_Pc [.ref h0] (fun U => U.heap.size = sz ∧ va_P (dC, dI) vwCl [(h0, .inr (0, [.null, .null, .int 0, .int 0, .long 0, .int 0, .int 0]))] U.heap ∧ va_K (dC, dI) vwCl [] U ∧ va_D (fun _ => True) [(h0, .inr (0, [.null, .null, .int 0, .int 0, .long 0, .int 0, .int 0]))])) (va_Qv (fun _ => True) (fun (u : Nat × Nat × ClassId × ClassId) (t : State) => match u with | (c0, w0, kc, kw) => va_P (dC, dI) vwCl [(h0, .inr (0, [.ref c0, .ref w0, .int 0, .int 32, .long (pt_mk 32), .int (-1), .int 0])), (c0, .inl (kc, 512, .inr (.inl (fun _ => 0)))), (w0, .inl (kw, 512, .inr (.inl (fun _ => 0))))] t.heap ∧ va_K (dC, dI) vwCl [(kc, .long), (kw, .long)] t ∧ va_D (va_A [(h0, .inr (0, [.null, .null, .int 0, .int 0, .long 0, .int 0, .int 0]))] sz) [(h0, .inr (0, [.ref c0, .ref w0, .int 0, .int 32, .long (pt_mk 32), .int (-1), .int 0])), (c0, .inl (kc, 512, .inr (.inl (fun _ => 0)))), (w0, .inl (kw, 512, .inr (.inl (fun _ => 0))))]) (va_A [(h0, .inr (0, [.null, .null, .int 0, .int 0, .long 0, .int 0, .int 0]))] sz)) 2 1024 (va_A [(h0, .inr (0, [.null, .null, .int 0, .int 0, .long 0, .int 0, .int 0]))] sz) := by
  refine Met.ofW (cc := cX0_init) (maxL := 1) (ret := none) (by decide) rfl ?_
  intro p e s m args below meth c s₁ B hml hv
  obtain ⟨ha, hsz, hP, hK, hD0⟩ := hv
  subst hsz
  have hx := B.exec
  have hb := B.bytes
  have hr := B.returns
  have hts := atoms_spec (ws := wsX0_init) B.pre
  have hown : s.vm.findClass RX0 = some m.cls := findClass_of_methodNamed B.named
  have hlocks := B.notSynchronized
  have hl := lv_entry ([.ref h0]) (n := 1) (Nat.le_of_ble_eq_true rfl)
  refine W.eq (show entryFrame m args 1 = entryFrame m ([.ref h0] : List Value).toArray 1 by rw [ha]) ?_
  rw [lg_entry_eq]
  generalize (lg_sl ([.ref h0]) ++ List.replicate (1 - (lg_sl ([.ref h0])).length) Slot.unset).toArray = ls at hl ⊢
  have hl : lv_has ls 1 [(0, .ref h0)] := hl
  have hin : meth.name = "<init>" := (name_of_methodNamed B.named B.method).1
  have hD := hD0.self (sz := s.heap.size)
  generalize hAe : va_A [(h0, .inr (0, [.null, .null, .int 0, .int 0, .long 0, .int 0, .int 0]))] s.heap.size = A at hD ⊢
  have hA : ∀ q : Nat, s.heap.size ≤ q → A q := fun q h => by rw [← hAe]; exact Or.inr h
  have hS : va_S A s.heap s.heap [] := va_S.rf
  generalize hQ : MQ below (va_Qv (fun _ => True) (fun (u : Nat × Nat × ClassId × ClassId) (t : State) => match u with | (c0, w0, kc, kw) => va_P (dC, dI) vwCl [(h0, .inr (0, [.ref c0, .ref w0, .int 0, .int 32, .long (pt_mk 32), .int (-1), .int 0])), (c0, .inl (kc, 512, .inr (.inl (fun _ => 0)))), (w0, .inl (kw, 512, .inr (.inl (fun _ => 0))))] t.heap ∧ va_K (dC, dI) vwCl [(kc, .long), (kw, .long)] t ∧ va_D A [(h0, .inr (0, [.ref c0, .ref w0, .int 0, .int 32, .long (pt_mk 32), .int (-1), .int 0])), (c0, .inl (kc, 512, .inr (.inl (fun _ => 0)))), (w0, .inl (kw, 512, .inr (.inl (fun _ => 0))))]) A) args s 2 1024 A = Q
  have hP : va_P (dC, dI) vwCl [(h0, .inr (0, [.null, .null, .int 0, .int 0, .long 0, .int 0, .int 0]))] s.heap := hP
  refine lv_aload_n hx hb dX0_init_0 rfl (lv_at hl 0 rfl) ?_
  refine W.objInit hx hb hown (hts _ (List.mem_cons_of_mem _ pw25)) (hts _ (List.mem_cons_of_mem _ pw26)) (hts (.code objectInit ⟨#[0xb1]⟩ 1 none) (List.mem_cons_of_mem _ pw27)) rfl (by rw [hml]; exact hl.1) rfl dX0_init_1 (Nat.le_of_ble_eq_true rfl) (Nat.le_of_ble_eq_true rfl) ?_
  refine W.eq (g2 := F0 m 4 ls []) rfl ?_
  refine lv_aload_n hx hb dX0_init_4 rfl (lv_at hl 0 rfl) ?_
  refine lv_sipush (v := 512) hx hb dX0_init_5 (by decide) ?_
  refine va_newa (atype := .long) (N' := 512) (a0 := (512, .inr (.inl (fun _ => 0)))) (ty := .long) (n := 512) hx hb (hts _ (List.mem_cons_of_mem _ pw46)) rfl hK hP hD hS hA (fun _ => rfl) (by decide) (by decide) (by decide) (by decide) (by decide) dX0_init_8 (fun c0 kc H hK hP hD hS => ?_)
  have hP : va_P (dC, dI) vwCl [(h0, .inr (0, [.null, .null, .int 0, .int 0, .long 0, .int 0, .int 0])), (c0, .inl (kc, 512, .inr (.inl (fun _ => 0))))] H := hP
  have hD : va_D A [(h0, .inr (0, [.null, .null, .int 0, .int 0, .long 0, .int 0, .int 0])), (c0, .inl (kc, 512, .inr (.inl (fun _ => 0))))] := hD
  have hK : va_K (dC, dI) vwCl [(kc, .long)] s := hK
  refine va_putF (D := (dC, dI)) (ci := 0) (v := .ref c0) (ty := (.array .long)) (C := RX0) (T := TX0) (N := 7) hx hb hts (fun w h => List.mem_cons_of_mem _ (pt_wsX0 w h)) tyX0 tyX0_ok nmX0 hown hK hP hD hS 0 rfl rfl 0 (by decide) (hts _ (List.mem_cons_of_mem _ pw32)) (fun _ h9 => h9) rfl hin rfl (by decide +kernel) rfl rfl (Nat.le_of_ble_eq_true rfl) dX0_init_10 (fun H locs hP hD hS => ?_)
  have hP : va_P (dC, dI) vwCl [(h0, .inr (0, [.ref c0, .null, .int 0, .int 0, .long 0, .int 0, .int 0])), (c0, .inl (kc, 512, .inr (.inl (fun _ => 0))))] H := hP
  have hD : va_D A [(h0, .inr (0, [.ref c0, .null, .int 0, .int 0, .long 0, .int 0, .int 0])), (c0, .inl (kc, 512, .inr (.inl (fun _ => 0))))] := hD
  refine lv_aload_n hx hb dX0_init_13 rfl (lv_at hl 0 rfl) ?_
  refine lv_sipush (v := 512) hx hb dX0_init_14 (by decide) ?_
  refine va_newa (atype := .long) (N' := 512) (a0 := (512, .inr (.inl (fun _ => 0)))) (ty := .long) (n := 512) hx hb (hts _ (List.mem_cons_of_mem _ pw46)) rfl hK hP hD hS hA (fun _ => rfl) (by decide) (by decide) (by decide) (by decide) (by decide) dX0_init_17 (fun w0 kw H hK hP hD hS => ?_)
  have hP : va_P (dC, dI) vwCl [(h0, .inr (0, [.ref c0, .null, .int 0, .int 0, .long 0, .int 0, .int 0])), (c0, .inl (kc, 512, .inr (.inl (fun _ => 0)))), (w0, .inl (kw, 512, .inr (.inl (fun _ => 0))))] H := hP
  have hD : va_D A [(h0, .inr (0, [.ref c0, .null, .int 0, .int 0, .long 0, .int 0, .int 0])), (c0, .inl (kc, 512, .inr (.inl (fun _ => 0)))), (w0, .inl (kw, 512, .inr (.inl (fun _ => 0))))] := hD
  have hK : va_K (dC, dI) vwCl [(kc, .long), (kw, .long)] s := hK
  refine va_putF (D := (dC, dI)) (ci := 0) (v := .ref w0) (ty := (.array .long)) (C := RX0) (T := TX0) (N := 7) hx hb hts (fun w h => List.mem_cons_of_mem _ (pt_wsX0 w h)) tyX0 tyX0_ok nmX0 hown hK hP hD hS 0 rfl rfl 1 (by decide) (hts _ (List.mem_cons_of_mem _ pw33)) (fun _ h9 => h9) rfl hin rfl (by decide +kernel) rfl rfl (Nat.le_of_ble_eq_true rfl) dX0_init_19 (fun H locs hP hD hS => ?_)
  have hP : va_P (dC, dI) vwCl [(h0, .inr (0, [.ref c0, .ref w0, .int 0, .int 0, .long 0, .int 0, .int 0])), (c0, .inl (kc, 512, .inr (.inl (fun _ => 0)))), (w0, .inl (kw, 512, .inr (.inl (fun _ => 0))))] H := hP
  have hD : va_D A [(h0, .inr (0, [.ref c0, .ref w0, .int 0, .int 0, .long 0, .int 0, .int 0])), (c0, .inl (kc, 512, .inr (.inl (fun _ => 0)))), (w0, .inl (kw, 512, .inr (.inl (fun _ => 0))))] := hD
  refine lv_aload_n hx hb dX0_init_22 rfl (lv_at hl 0 rfl) ?_
  refine lv_iconst (v := 0) hx hb dX0_init_23 (by decide) ?_
  refine va_put (D := (dC, dI)) (ci := 0) (v := .int 0) (ty := .int) (C := RX0) (T := TX0) (N := 7) hx hb hts (fun w h => List.mem_cons_of_mem _ (pt_wsX0 w h)) tyX0 tyX0_ok nmX0 hown hK hP hD hS 0 rfl rfl 2 (by decide) (hts _ (List.mem_cons_of_mem _ pw34)) (fun _ h9 => h9) rfl (by decide +kernel) rfl rfl (Nat.le_of_ble_eq_true rfl) dX0_init_24 (fun H locs hP hD hS => ?_)
  have hP : va_P (dC, dI) vwCl [(h0, .inr (0, [.ref c0, .ref w0, .int 0, .int 0, .long 0, .int 0, .int 0])), (c0, .inl (kc, 512, .inr (.inl (fun _ => 0)))), (w0, .inl (kw, 512, .inr (.inl (fun _ => 0))))] H := hP
  have hD : va_D A [(h0, .inr (0, [.ref c0, .ref w0, .int 0, .int 0, .long 0, .int 0, .int 0])), (c0, .inl (kc, 512, .inr (.inl (fun _ => 0)))), (w0, .inl (kw, 512, .inr (.inl (fun _ => 0))))] := hD
  refine lv_aload_n hx hb dX0_init_27 rfl (lv_at hl 0 rfl) ?_
  refine lv_bipush (v := 32) hx hb dX0_init_28 (by decide) ?_
  refine va_put (D := (dC, dI)) (ci := 0) (v := .int 32) (ty := .int) (C := RX0) (T := TX0) (N := 7) hx hb hts (fun w h => List.mem_cons_of_mem _ (pt_wsX0 w h)) tyX0 tyX0_ok nmX0 hown hK hP hD hS 0 rfl rfl 3 (by decide) (hts _ (List.mem_cons_of_mem _ pw35)) (fun _ h9 => h9) rfl (by decide +kernel) rfl rfl (Nat.le_of_ble_eq_true rfl) dX0_init_30 (fun H locs hP hD hS => ?_)
  have hP : va_P (dC, dI) vwCl [(h0, .inr (0, [.ref c0, .ref w0, .int 0, .int 32, .long 0, .int 0, .int 0])), (c0, .inl (kc, 512, .inr (.inl (fun _ => 0)))), (w0, .inl (kw, 512, .inr (.inl (fun _ => 0))))] H := hP
  have hD : va_D A [(h0, .inr (0, [.ref c0, .ref w0, .int 0, .int 32, .long 0, .int 0, .int 0])), (c0, .inl (kc, 512, .inr (.inl (fun _ => 0)))), (w0, .inl (kw, 512, .inr (.inl (fun _ => 0))))] := hD
  refine lv_aload_n hx hb dX0_init_33 rfl (lv_at hl 0 rfl) ?_
  refine lv_bipush (v := 32) hx hb dX0_init_34 (by decide) ?_
  refine vp_callSl (W.runS (As := [.int 32]) (rest := [.ref h0]) ⟨hx, hb, hml, hown, hts⟩ (c_lowestBits l dC dI 32) (va_cwS 1 hts (pt_gS pw28 pw29 pw17 pw30) rfl rfl rfl (by decide +kernel) ⟨Nat.le_of_ble_eq_true rfl, Nat.le_of_ble_eq_true rfl⟩) ⟨fun a U g mk q => by obtain ⟨q0, qP, qK⟩ := q; exact ⟨q0, qP, va_K.moved (u := U) (U := U.calling g mk a) (Vm.Alike.refl U.vm) qK⟩, fun U hU hW => ⟨rfl, by rw [hU]; exact (hP.sub (ws' := ([] : va_W)) [] rfl), va_K.moved hW.alike (hK.sub (tys' := []) [] rfl)⟩⟩ rfl rfl hl.1 rfl (lv_room (Nat.le_of_ble_eq_true rfl)) dX0_init_36 ⟨by decide, by decide⟩) (fun r1 hw => ?_)
  subst hw
  refine va_put (D := (dC, dI)) (ci := 0) (v := .long (pt_mk 32)) (ty := .long) (C := RX0) (T := TX0) (N := 7) hx hb hts (fun w h => List.mem_cons_of_mem _ (pt_wsX0 w h)) tyX0 tyX0_ok nmX0 hown hK hP hD hS 0 rfl rfl 4 (by decide) (hts _ (List.mem_cons_of_mem _ pw36)) (fun _ h9 => h9) rfl (by decide +kernel) rfl rfl (Nat.le_of_ble_eq_true rfl) dX0_init_39 (fun H locs hP hD hS => ?_)
  have hP : va_P (dC, dI) vwCl [(h0, .inr (0, [.ref c0, .ref w0, .int 0, .int 32, .long (pt_mk 32), .int 0, .int 0])), (c0, .inl (kc, 512, .inr (.inl (fun _ => 0)))), (w0, .inl (kw, 512, .inr (.inl (fun _ => 0))))] H := hP
  have hD : va_D A [(h0, .inr (0, [.ref c0, .ref w0, .int 0, .int 32, .long (pt_mk 32), .int 0, .int 0])), (c0, .inl (kc, 512, .inr (.inl (fun _ => 0)))), (w0, .inl (kw, 512, .inr (.inl (fun _ => 0))))] := hD
  refine lv_aload_n hx hb dX0_init_42 rfl (lv_at hl 0 rfl) ?_
  refine lv_iconst (v := (-1)) hx hb dX0_init_43 (by decide) ?_
  refine va_put (D := (dC, dI)) (ci := 0) (v := .int (-1)) (ty := .int) (C := RX0) (T := TX0) (N := 7) hx hb hts (fun w h => List.mem_cons_of_mem _ (pt_wsX0 w h)) tyX0 tyX0_ok nmX0 hown hK hP hD hS 0 rfl rfl 5 (by decide) (hts _ (List.mem_cons_of_mem _ pw37)) (fun _ h9 => h9) rfl (by decide +kernel) rfl rfl (Nat.le_of_ble_eq_true rfl) dX0_init_44 (fun H locs hP hD hS => ?_)
  have hP : va_P (dC, dI) vwCl [(h0, .inr (0, [.ref c0, .ref w0, .int 0, .int 32, .long (pt_mk 32), .int (-1), .int 0])), (c0, .inl (kc, 512, .inr (.inl (fun _ => 0)))), (w0, .inl (kw, 512, .inr (.inl (fun _ => 0))))] H := hP
  have hD : va_D A [(h0, .inr (0, [.ref c0, .ref w0, .int 0, .int 32, .long (pt_mk 32), .int (-1), .int 0])), (c0, .inl (kc, 512, .inr (.inl (fun _ => 0)))), (w0, .inl (kw, 512, .inr (.inl (fun _ => 0))))] := hD
  refine lv_aload_n hx hb dX0_init_47 rfl (lv_at hl 0 rfl) ?_
  refine lv_iconst (v := 0) hx hb dX0_init_48 (by decide) ?_
  refine va_put (D := (dC, dI)) (ci := 0) (v := .int 0) (ty := .int) (C := RX0) (T := TX0) (N := 7) hx hb hts (fun w h => List.mem_cons_of_mem _ (pt_wsX0 w h)) tyX0 tyX0_ok nmX0 hown hK hP hD hS 0 rfl rfl 6 (by decide) (hts _ (List.mem_cons_of_mem _ pw38)) (fun _ h9 => h9) rfl (by decide +kernel) rfl rfl (Nat.le_of_ble_eq_true rfl) dX0_init_49 (fun H locs hP hD hS => ?_)
  have hP : va_P (dC, dI) vwCl [(h0, .inr (0, [.ref c0, .ref w0, .int 0, .int 32, .long (pt_mk 32), .int (-1), .int 0])), (c0, .inl (kc, 512, .inr (.inl (fun _ => 0)))), (w0, .inl (kw, 512, .inr (.inl (fun _ => 0))))] H := hP
  have hD : va_D A [(h0, .inr (0, [.ref c0, .ref w0, .int 0, .int 32, .long (pt_mk 32), .int (-1), .int 0])), (c0, .inl (kc, 512, .inr (.inl (fun _ => 0)))), (w0, .inl (kw, 512, .inr (.inl (fun _ => 0))))] := hD
  rw [← hQ]
  refine W.widen (k := 2) (n := 1024) (by omega) (by omega) ?_
  exact W.vret hx hb hr (fun t ht hW => ⟨⟨(c0, w0, kc, kw), rfl, trivial, by rw [ht]; exact hP, va_K.moved hW.alike hK, hD⟩, hS.F ht⟩) hS.2.2 dX0_init_52
set_option maxHeartbeats 4000000 in
set_option maxRecDepth 100000 in
/-- clear(n) -/
theorem c_clear (l : Launch) (dC : Nat → ClassId) (dI : Nat → Nat → Nat) (h0 c0 w0 : Nat) (kc kw : ClassId) (k n : Nat) (fc fv : Nat → Int64) (cl su : Int32) (a : Nat) (sz : Nat) (hn1 : 1 ≤ a) (hn2 : a ≤ 64) : Met l yX0_clear wsX0_clear ({ frames := 1, cells := 0, slots := 0, locals := 20 }) (va_Pc [.ref h0, .int (nI a)] (fun U => U.heap.size = sz ∧ va_P (dC, dI) vwCl [(h0, .inr (0, [.ref c0, .ref w0, .int (nI k), .int (nI n), .long (pt_mk n), .int cl, .int su])), (c0, .inl (kc, 512, .inr (.inl fc))), (w0, .inl (kw, 512, .inr (.inl fv)))] U.heap ∧ va_K (dC, dI) vwCl [(kc, .long), (kw, .long)] U ∧ va_D (fun _ => True) [(h0, .inr (0, [.ref c0, .ref w0, .int (nI k), .int (nI n), .long (pt_mk n), .int cl, .int su])), (c0, .inl (kc, 512, .inr (.inl fc))), (w0, .inl (kw, 512, .inr (.inl fv)))])) (va_Qv (fun _ => True) (fun (u : Unit) (t : State) => match u with | _ => va_P (dC, dI) vwCl [(h0, .inr (0, [.ref c0, .ref w0, .int 0, .int (nI a), .long (pt_mk a), .int cl, .int su])), (c0, .inl (kc, 512, .inr (.inl fc))), (w0, .inl (kw, 512, .inr (.inl fv)))] t.heap ∧ va_K (dC, dI) vwCl [(kc, .long), (kw, .long)] t ∧ va_D (va_A [(h0, .inr (0, [.ref c0, .ref w0, .int (nI k), .int (nI n), .long (pt_mk n), .int cl, .int su])), (c0, .inl (kc, 512, .inr (.inl fc))), (w0, .inl (kw, 512, .inr (.inl fv)))] sz) [(h0, .inr (0, [.ref c0, .ref w0, .int 0, .int (nI a), .long (pt_mk a), .int cl, .int su])), (c0, .inl (kc, 512, .inr (.inl fc))), (w0, .inl (kw, 512, .inr (.inl fv)))]) (va_A [(h0, .inr (0, [.ref c0, .ref w0, .int (nI k), .int (nI n), .long (pt_mk n), .int cl, .int su])), (c0, .inl (kc, 512, .inr (.inl fc))), (w0, .inl (kw, 512, .inr (.inl fv)))] sz)) 0 0 (va_A [(h0, .inr (0, [.ref c0, .ref w0, .int (nI k), .int (nI n), .long (pt_mk n), .int cl, .int su])), (c0, .inl (kc, 512, .inr (.inl fc))), (w0, .inl (kw, 512, .inr (.inl fv)))] sz) := by
  refine Met.ofW (cc := cX0_clear) (maxL := 2) (ret := none) (by decide) rfl ?_
  intro p e s m args below meth c s₁ B hml hv
  obtain ⟨ha, hsz, hP, hK, hD0⟩ := hv
  subst hsz
  have hx := B.exec
  have hb := B.bytes
  have hr := B.returns
  have hts := atoms_spec (ws := wsX0_clear) B.pre
  have hown : s.vm.findClass RX0 = some m.cls := findClass_of_methodNamed B.named
  have hlocks := B.notSynchronized
  have hl := lv_entry ([.ref h0, .int (nI a)]) (n := 2) (Nat.le_of_ble_eq_true rfl)
  refine W.eq (show entryFrame m args 2 = entryFrame m ([.ref h0, .int (nI a)] : List Value).toArray 2 by rw [ha]) ?_
  rw [lg_entry_eq]
  generalize (lg_sl ([.ref h0, .int (nI a)]) ++ List.replicate (2 - (lg_sl ([.ref h0, .int (nI a)])).length) Slot.unset).toArray = ls at hl ⊢
  have hl : lv_has ls 2 [(0, .ref h0), (1, .int (nI a))] := hl
  have hD := hD0.self (sz := s.heap.size)
  generalize hAe : va_A [(h0, .inr (0, [.ref c0, .ref w0, .int (nI k), .int (nI n), .long (pt_mk n), .int cl, .int su])), (c0, .inl (kc, 512, .inr (.inl fc))), (w0, .inl (kw, 512, .inr (.inl fv)))] s.heap.size = A at hD ⊢
  have hA : ∀ q : Nat, s.heap.size ≤ q → A q := fun q h => by rw [← hAe]; exact Or.inr h
  have hS : va_S A s.heap s.heap [] := va_S.rf
  generalize hQ : MQ below (va_Qv (fun _ => True) (fun (u : Unit) (t : State) => match u with | _ => va_P (dC, dI) vwCl [(h0, .inr (0, [.ref c0, .ref w0, .int 0, .int (nI a), .long (pt_mk a), .int cl, .int su])), (c0, .inl (kc, 512, .inr (.inl fc))), (w0, .inl (kw, 512, .inr (.inl fv)))] t.heap ∧ va_K (dC, dI) vwCl [(kc, .long), (kw, .long)] t ∧ va_D A [(h0, .inr (0, [.ref c0, .ref w0, .int 0, .int (nI a), .long (pt_mk a), .int cl, .int su])), (c0, .inl (kc, 512, .inr (.inl fc))), (w0, .inl (kw, 512, .inr (.inl fv)))]) A) args s 0 0 A = Q
  have hP : va_P (dC, dI) vwCl [(h0, .inr (0, [.ref c0, .ref w0, .int (nI k), .int (nI n), .long (pt_mk n), .int cl, .int su])), (c0, .inl (kc, 512, .inr (.inl fc))), (w0, .inl (kw, 512, .inr (.inl fv)))] s.heap := hP
  refine lv_iload_n hx hb dX0_clear_0 rfl (lv_at hl 1 rfl) ?_
  refine lv_iconst (v := 1) hx hb dX0_clear_1 (by decide) ?_
  refine lv_icmp_lt (tgt := 11) hx hb dX0_clear_2 (by decide) (fun h1 => absurd h1 (nI_nlt (b := 1) hn1 (by omega))) (fun h1 => ?_)
  refine lv_iload_n hx hb dX0_clear_5 rfl (lv_at hl 1 rfl) ?_
  refine lv_bipush (v := 64) hx hb dX0_clear_6 (by decide) ?_
  refine lv_icmp_le (tgt := 21) hx hb dX0_clear_8 (by decide) (fun h2 => ?_) (fun h2 => absurd (nI_le (b := 64) hn2 (by decide)) h2)
  refine lv_aload_n hx hb dX0_clear_21 rfl (lv_at hl 0 rfl) ?_
  refine lv_iconst (v := 0) hx hb dX0_clear_22 (by decide) ?_
  refine va_put (D := (dC, dI)) (ci := 0) (v := .int 0) (ty := .int) (C := RX0) (T := TX0) (N := 7) hx hb hts (fun w h => List.mem_cons_of_mem _ (pt_wsX0 w h)) tyX0 tyX0_ok nmX0 hown hK hP hD hS 0 rfl rfl 2 (by decide) (hts _ (List.mem_cons_of_mem _ pw34)) (fun _ h9 => h9) rfl (by decide +kernel) rfl rfl (Nat.le_of_ble_eq_true rfl) dX0_clear_23 (fun H locs hP hD hS => ?_)
  have hP : va_P (dC, dI) vwCl [(h0, .inr (0, [.ref c0, .ref w0, .int 0, .int (nI n), .long (pt_mk n), .int cl, .int su])), (c0, .inl (kc, 512, .inr (.inl fc))), (w0, .inl (kw, 512, .inr (.inl fv)))] H := hP
  have hD : va_D A [(h0, .inr (0, [.ref c0, .ref w0, .int 0, .int (nI n), .long (pt_mk n), .int cl, .int su])), (c0, .inl (kc, 512, .inr (.inl fc))), (w0, .inl (kw, 512, .inr (.inl fv)))] := hD
  refine lv_aload_n hx hb dX0_clear_26 rfl (lv_at hl 0 rfl) ?_
  refine lv_iload_n hx hb dX0_clear_27 rfl (lv_at hl 1 rfl) ?_
  refine va_put (D := (dC, dI)) (ci := 0) (v := .int (nI a)) (ty := .int) (C := RX0) (T := TX0) (N := 7) hx hb hts (fun w h => List.mem_cons_of_mem _ (pt_wsX0 w h)) tyX0 tyX0_ok nmX0 hown hK hP hD hS 0 rfl rfl 3 (by decide) (hts _ (List.mem_cons_of_mem _ pw35)) (fun _ h9 => h9) rfl (by decide +kernel) rfl rfl (Nat.le_of_ble_eq_true rfl) dX0_clear_28 (fun H locs hP hD hS => ?_)
  have hP : va_P (dC, dI) vwCl [(h0, .inr (0, [.ref c0, .ref w0, .int 0, .int (nI a), .long (pt_mk n), .int cl, .int su])), (c0, .inl (kc, 512, .inr (.inl fc))), (w0, .inl (kw, 512, .inr (.inl fv)))] H := hP
  have hD : va_D A [(h0, .inr (0, [.ref c0, .ref w0, .int 0, .int (nI a), .long (pt_mk n), .int cl, .int su])), (c0, .inl (kc, 512, .inr (.inl fc))), (w0, .inl (kw, 512, .inr (.inl fv)))] := hD
  refine lv_aload_n hx hb dX0_clear_31 rfl (lv_at hl 0 rfl) ?_
  refine lv_iload_n hx hb dX0_clear_32 rfl (lv_at hl 1 rfl) ?_
  refine vp_callSl (W.runS (As := [.int (nI a)]) (rest := [.ref h0]) ⟨hx, hb, hml, hown, hts⟩ (c_lowestBits l dC dI a) (va_cwS 1 hts (pt_gS pw28 pw29 pw17 pw30) rfl rfl rfl (by decide +kernel) ⟨Nat.le_of_ble_eq_true rfl, Nat.le_of_ble_eq_true rfl⟩) ⟨fun a U g mk q => by obtain ⟨q0, qP, qK⟩ := q; exact ⟨q0, qP, va_K.moved (u := U) (U := U.calling g mk a) (Vm.Alike.refl U.vm) qK⟩, fun U hU hW => ⟨rfl, by rw [hU]; exact (hP.sub (ws' := ([] : va_W)) [] rfl), va_K.moved hW.alike (hK.sub (tys' := []) [] rfl)⟩⟩ rfl rfl hl.1 rfl (lv_room (Nat.le_of_ble_eq_true rfl)) dX0_clear_33 ⟨Nat.zero_le _, Nat.zero_le _⟩) (fun r1 hw => ?_)
  subst hw
  refine va_put (D := (dC, dI)) (ci := 0) (v := .long (pt_mk a)) (ty := .long) (C := RX0) (T := TX0) (N := 7) hx hb hts (fun w h => List.mem_cons_of_mem _ (pt_wsX0 w h)) tyX0 tyX0_ok nmX0 hown hK hP hD hS 0 rfl rfl 4 (by decide) (hts _ (List.mem_cons_of_mem _ pw36)) (fun _ h9 => h9) rfl (by decide +kernel) rfl rfl (Nat.le_of_ble_eq_true rfl) dX0_clear_36 (fun H locs hP hD hS => ?_)
  have hP : va_P (dC, dI) vwCl [(h0, .inr (0, [.ref c0, .ref w0, .int 0, .int (nI a), .long (pt_mk a), .int cl, .int su])), (c0, .inl (kc, 512, .inr (.inl fc))), (w0, .inl (kw, 512, .inr (.inl fv)))] H := hP
  have hD : va_D A [(h0, .inr (0, [.ref c0, .ref w0, .int 0, .int (nI a), .long (pt_mk a), .int cl, .int su])), (c0, .inl (kc, 512, .inr (.inl fc))), (w0, .inl (kw, 512, .inr (.inl fv)))] := hD
  rw [← hQ]
  exact W.vret hx hb hr (fun t ht hW => ⟨⟨(), rfl, trivial, by rw [ht]; exact hP, va_K.moved hW.alike hK, hD⟩, hS.F ht⟩) hS.2.2 dX0_clear_39
set_option maxHeartbeats 4000000 in
set_option maxRecDepth 100000 in
/-- clear(n), n out of range -/
theorem t_clear (l : Launch) (hl9 : l.stackTraces = false) (dC : Nat → ClassId) (dI : Nat → Nat → Nat) (s0 : State) (h0X : pt_X s0) (h0 c0 w0 : Nat) (kc kw : ClassId) (k n : Nat) (fc fv : Nat → Int64) (cl su : Int32) (x : Int32) (sz : Nat) (hbad : x < 1 ∨ ¬ x ≤ 64) : pt_Thr l yX0_clear wsX0_clear ({ frames := 6, cells := 1, slots := 6, locals := 82 }) (va_Pc [.ref h0, .int x] (fun U => U.heap.size = sz ∧ va_P (dC, dI) vwCl [(h0, .inr (0, [.ref c0, .ref w0, .int (nI k), .int (nI n), .long (pt_mk n), .int cl, .int su])), (c0, .inl (kc, 512, .inr (.inl fc))), (w0, .inl (kw, 512, .inr (.inl fv)))] U.heap ∧ va_K (dC, dI) vwCl [(kc, .long), (kw, .long)] U ∧ va_D (fun q => s0.heap.size ≤ q) [(h0, .inr (0, [.ref c0, .ref w0, .int (nI k), .int (nI n), .long (pt_mk n), .int cl, .int su])), (c0, .inl (kc, 512, .inr (.inl fc))), (w0, .inl (kw, 512, .inr (.inl fv)))] ∧ pt_ext s0 U)) "java/lang/IllegalArgumentException" (fun st t => va_P (dC, dI) vwCl [(h0, .inr (0, [.ref c0, .ref w0, .int (nI k), .int (nI n), .long (pt_mk n), .int cl, .int su])), (c0, .inl (kc, 512, .inr (.inl fc))), (w0, .inl (kw, 512, .inr (.inl fv)))] t.heap ∧ va_K (dC, dI) vwCl [(kc, .long), (kw, .long)] t ∧ va_D (va_A [(h0, .inr (0, [.ref c0, .ref w0, .int (nI k), .int (nI n), .long (pt_mk n), .int cl, .int su])), (c0, .inl (kc, 512, .inr (.inl fc))), (w0, .inl (kw, 512, .inr (.inl fv)))] sz) [(h0, .inr (0, [.ref c0, .ref w0, .int (nI k), .int (nI n), .long (pt_mk n), .int cl, .int su])), (c0, .inl (kc, 512, .inr (.inl fc))), (w0, .inl (kw, 512, .inr (.inl fv)))] ∧ va_F (va_A [(h0, .inr (0, [.ref c0, .ref w0, .int (nI k), .int (nI n), .long (pt_mk n), .int cl, .int su])), (c0, .inl (kc, 512, .inr (.inl fc))), (w0, .inl (kw, 512, .inr (.inl fv)))] sz) st t) 1 6 (va_A [(h0, .inr (0, [.ref c0, .ref w0, .int (nI k), .int (nI n), .long (pt_mk n), .int cl, .int su])), (c0, .inl (kc, 512, .inr (.inl fc))), (w0, .inl (kw, 512, .inr (.inl fv)))] sz) := by
  refine pt_Thr_ofW (cc := cX0_clear) (maxL := 2) (ret := none) (by decide) rfl ?_
  intro p e s m args below meth c s₁ B hml hnoh hv
  obtain ⟨ha, hsz, hP, hK, hD0, hext⟩ := hv
  subst hsz
  have hx := B.exec
  have hb := B.bytes
  have hr := B.returns
  have hts := atoms_spec (ws := wsX0_clear) B.pre
  have hown : s.vm.findClass RX0 = some m.cls := findClass_of_methodNamed B.named
  have hlocks := B.notSynchronized
  have hl := lv_entry ([.ref h0, .int x]) (n := 2) (Nat.le_of_ble_eq_true rfl)
  refine W.eq (show entryFrame m args 2 = entryFrame m ([.ref h0, .int x] : List Value).toArray 2 by rw [ha]) ?_
  rw [lg_entry_eq]
  generalize (lg_sl ([.ref h0, .int x]) ++ List.replicate (2 - (lg_sl ([.ref h0, .int x])).length) Slot.unset).toArray = ls at hl ⊢
  have hl : lv_has ls 2 [(0, .ref h0), (1, .int x)] := hl
  have hD := hD0.self (sz := s.heap.size)
  have hAs : ∀ q : Nat, va_A [(h0, .inr (0, [.ref c0, .ref w0, .int (nI k), .int (nI n), .long (pt_mk n), .int cl, .int su])), (c0, .inl (kc, 512, .inr (.inl fc))), (w0, .inl (kw, 512, .inr (.inl fv)))] s.heap.size q → s0.heap.size ≤ q := pt_As hD0 hext.2.1
  generalize hAe : va_A [(h0, .inr (0, [.ref c0, .ref w0, .int (nI k), .int (nI n), .long (pt_mk n), .int cl, .int su])), (c0, .inl (kc, 512, .inr (.inl fc))), (w0, .inl (kw, 512, .inr (.inl fv)))] s.heap.size = A at hD hAs ⊢
  have hA : ∀ q : Nat, s.heap.size ≤ q → A q := fun q h => by rw [← hAe]; exact Or.inr h
  have hS : va_S A s.heap s.heap [] := va_S.rf
  have hP : va_P (dC, dI) vwCl [(h0, .inr (0, [.ref c0, .ref w0, .int (nI k), .int (nI n), .long (pt_mk n), .int cl, .int su])), (c0, .inl (kc, 512, .inr (.inl fc))), (w0, .inl (kw, 512, .inr (.inl fv)))] s.heap := hP
  generalize hQ : pt_TQ below "java/lang/IllegalArgumentException" (fun st t => va_P (dC, dI) vwCl [(h0, .inr (0, [.ref c0, .ref w0, .int (nI k), .int (nI n), .long (pt_mk n), .int cl, .int su])), (c0, .inl (kc, 512, .inr (.inl fc))), (w0, .inl (kw, 512, .inr (.inl fv)))] t.heap ∧ va_K (dC, dI) vwCl [(kc, .long), (kw, .long)] t ∧ va_D A [(h0, .inr (0, [.ref c0, .ref w0, .int (nI k), .int (nI n), .long (pt_mk n), .int cl, .int su])), (c0, .inl (kc, 512, .inr (.inl fc))), (w0, .inl (kw, 512, .inr (.inl fv)))] ∧ va_F A st t) s 1 6 A = Q
  refine lv_iload_n hx hb dX0_clear_0 rfl (lv_at hl 1 rfl) ?_
  refine lv_iconst (v := 1) hx hb dX0_clear_1 (by decide) ?_
  refine lv_icmp_lt (tgt := 11) hx hb dX0_clear_2 (by decide) (fun h1 => ?_) (fun h1 => ?_)
  · obtain ⟨sa, hstr⟩ := h0X.2.1 39 "a length is 1 to 64 bits" (by decide)
    rw [← hQ]
    exact pt_throwS (own := RX0) (cls := "java/lang/IllegalArgumentException") (text := "a length is 1 to 64 bits") (names := ["java/lang/RuntimeException", "java/lang/Exception"]) (ik := 37) (is := 39) (ic := 41) (sa := sa) hx hb hl9 hown (by decide) (by decide) (fun U hU hV w hw => pt_X_at h0X (hext.on hS hAs hU hV) w (pt_xw_in_iae w hw) _) (vk_R.warm hext.1 hstr) (hl.1.trans hml.symm) dX0_clear_11 dX0_clear_14 dX0_clear_15 dX0_clear_17 dX0_clear_20 hnoh (by decide) (by decide) (by decide) (by decide) hlocks (fun t hW hz hk => ⟨hP.kept (fun k q hq => hk _ ((hP k q hq).lt)), va_K.moved hW.alike hK, hD, pt_S_thrown hS hz hk⟩) hS.2.2 (by decide) (by decide)
  · refine lv_iload_n hx hb dX0_clear_5 rfl (lv_at hl 1 rfl) ?_
    refine lv_bipush (v := 64) hx hb dX0_clear_6 (by decide) ?_
    refine lv_icmp_le (tgt := 21) hx hb dX0_clear_8 (by decide) (fun h2 => (hbad.elim (fun z => absurd z h1) (fun z => absurd h2 z))) (fun h2 => ?_)
    obtain ⟨sa, hstr⟩ := h0X.2.1 39 "a length is 1 to 64 bits" (by decide)
    rw [← hQ]
    exact pt_throwS (own := RX0) (cls := "java/lang/IllegalArgumentException") (text := "a length is 1 to 64 bits") (names := ["java/lang/RuntimeException", "java/lang/Exception"]) (ik := 37) (is := 39) (ic := 41) (sa := sa) hx hb hl9 hown (by decide) (by decide) (fun U hU hV w hw => pt_X_at h0X (hext.on hS hAs hU hV) w (pt_xw_in_iae w hw) _) (vk_R.warm hext.1 hstr) (hl.1.trans hml.symm) dX0_clear_11 dX0_clear_14 dX0_clear_15 dX0_clear_17 dX0_clear_20 hnoh (by decide) (by decide) (by decide) (by decide) hlocks (fun t hW hz hk => ⟨hP.kept (fun k q hq => hk _ ((hP k q hq).lt)), va_K.moved hW.alike hK, hD, pt_S_thrown hS hz hk⟩) hS.2.2 (by decide) (by decide)
set_option maxHeartbeats 4000000 in
set_option maxRecDepth 100000 in
/-- append(care, want) takes it -/
theorem c_append (l : Launch) (dC : Nat → ClassId) (dI : Nat → Nat → Nat) (h0 c0 w0 : Nat) (kc kw : ClassId) (k n : Nat) (fc fv : Nat → Int64) (cl su : Int32) (a b : Int64) (sz : Nat) (hk : k < 512) (hno : ∀ j, j < k → ¬ pt_sh (fc j) (fv j) a b) : Met l yX0_append wsX0_append ({ frames := 2, cells := 0, slots := 0, locals := 50 }) (va_Pc [.ref h0, .long a, .long b] (fun U => U.heap.size = sz ∧ va_P (dC, dI) vwCl [(h0, .inr (0, [.ref c0, .ref w0, .int (nI k), .int (nI n), .long (pt_mk n), .int cl, .int su])), (c0, .inl (kc, 512, .inr (.inl fc))), (w0, .inl (kw, 512, .inr (.inl fv)))] U.heap ∧ va_K (dC, dI) vwCl [(kc, .long), (kw, .long)] U ∧ va_D (fun _ => True) [(h0, .inr (0, [.ref c0, .ref w0, .int (nI k), .int (nI n), .long (pt_mk n), .int cl, .int su])), (c0, .inl (kc, 512, .inr (.inl fc))), (w0, .inl (kw, 512, .inr (.inl fv)))])) (va_Qi (fun (r : Int32) _ => r = nI k) (fun (u : Unit) (t : State) => match u with | _ => va_P (dC, dI) vwCl [(h0, .inr (0, [.ref c0, .ref w0, .int (nI (k + 1)), .int (nI n), .long (pt_mk n), .int cl, .int su])), (c0, .inl (kc, 512, .inr (.inl (vp_updL fc k a)))), (w0, .inl (kw, 512, .inr (.inl (vp_updL fv k b))))] t.heap ∧ va_K (dC, dI) vwCl [(kc, .long), (kw, .long)] t ∧ va_D (va_A [(h0, .inr (0, [.ref c0, .ref w0, .int (nI k), .int (nI n), .long (pt_mk n), .int cl, .int su])), (c0, .inl (kc, 512, .inr (.inl fc))), (w0, .inl (kw, 512, .inr (.inl fv)))] sz) [(h0, .inr (0, [.ref c0, .ref w0, .int (nI (k + 1)), .int (nI n), .long (pt_mk n), .int cl, .int su])), (c0, .inl (kc, 512, .inr (.inl (vp_updL fc k a)))), (w0, .inl (kw, 512, .inr (.inl (vp_updL fv k b))))]) (va_A [(h0, .inr (0, [.ref c0, .ref w0, .int (nI k), .int (nI n), .long (pt_mk n), .int cl, .int su])), (c0, .inl (kc, 512, .inr (.inl fc))), (w0, .inl (kw, 512, .inr (.inl fv)))] sz)) 0 0 (va_A [(h0, .inr (0, [.ref c0, .ref w0, .int (nI k), .int (nI n), .long (pt_mk n), .int cl, .int su])), (c0, .inl (kc, 512, .inr (.inl fc))), (w0, .inl (kw, 512, .inr (.inl fv)))] sz) := by
  refine Met.ofW (cc := cX0_append) (maxL := 6) (ret := (some .int)) (by decide) rfl ?_
  intro p e s m args below meth c s₁ B hml hv
  obtain ⟨ha, hsz, hP, hK, hD0⟩ := hv
  subst hsz
  have hx := B.exec
  have hb := B.bytes
  have hr := B.returns
  have hts := atoms_spec (ws := wsX0_append) B.pre
  have hown : s.vm.findClass RX0 = some m.cls := findClass_of_methodNamed B.named
  have hlocks := B.notSynchronized
  have hl := lv_entry ([.ref h0, .long a, .long b]) (n := 6) (Nat.le_of_ble_eq_true rfl)
  refine W.eq (show entryFrame m args 6 = entryFrame m ([.ref h0, .long a, .long b] : List Value).toArray 6 by rw [ha]) ?_
  rw [lg_entry_eq]
  generalize (lg_sl ([.ref h0, .long a, .long b]) ++ List.replicate (6 - (lg_sl ([.ref h0, .long a, .long b])).length) Slot.unset).toArray = ls at hl ⊢
  have hl : lv_has ls 6 [(0, .ref h0), (1, .long a), (3, .long b)] := hl
  have hD := hD0.self (sz := s.heap.size)
  generalize hAe : va_A [(h0, .inr (0, [.ref c0, .ref w0, .int (nI k), .int (nI n), .long (pt_mk n), .int cl, .int su])), (c0, .inl (kc, 512, .inr (.inl fc))), (w0, .inl (kw, 512, .inr (.inl fv)))] s.heap.size = A at hD ⊢
  have hA : ∀ q : Nat, s.heap.size ≤ q → A q := fun q h => by rw [← hAe]; exact Or.inr h
  have hS : va_S A s.heap s.heap [] := va_S.rf
  generalize hQ : MQ below (va_Qi (fun (r : Int32) _ => r = nI k) (fun (u : Unit) (t : State) => match u with | _ => va_P (dC, dI) vwCl [(h0, .inr (0, [.ref c0, .ref w0, .int (nI (k + 1)), .int (nI n), .long (pt_mk n), .int cl, .int su])), (c0, .inl (kc, 512, .inr (.inl (vp_updL fc k a)))), (w0, .inl (kw, 512, .inr (.inl (vp_updL fv k b))))] t.heap ∧ va_K (dC, dI) vwCl [(kc, .long), (kw, .long)] t ∧ va_D A [(h0, .inr (0, [.ref c0, .ref w0, .int (nI (k + 1)), .int (nI n), .long (pt_mk n), .int cl, .int su])), (c0, .inl (kc, 512, .inr (.inl (vp_updL fc k a)))), (w0, .inl (kw, 512, .inr (.inl (vp_updL fv k b))))]) A) args s 0 0 A = Q
  have hP : va_P (dC, dI) vwCl [(h0, .inr (0, [.ref c0, .ref w0, .int (nI k), .int (nI n), .long (pt_mk n), .int cl, .int su])), (c0, .inl (kc, 512, .inr (.inl fc))), (w0, .inl (kw, 512, .inr (.inl fv)))] s.heap := hP
  refine lv_aload_n hx hb dX0_append_0 rfl (lv_at hl 0 rfl) ?_
  refine va_get (D := (dC, dI)) (ci := 0) (v := .int (nI k)) (C := RX0) (T := TX0) (N := 7) hx hb hts (fun w h => List.mem_cons_of_mem _ (pt_wsX0 w h)) hown hK hP 0 rfl rfl 2 (by decide) (hts _ (List.mem_cons_of_mem _ pw34)) (fun _ h9 => h9) rfl dX0_append_1 ?_
  refine lv_sipush (v := 512) hx hb dX0_append_4 (by decide) ?_
  refine lv_icmp_lt (tgt := 25) hx hb dX0_append_7 (by decide) (fun h1 => ?_) (fun h1 => absurd (nI_lt (b := 512) hk (by decide)) h1)
  refine lv_aload_n hx hb dX0_append_25 rfl (lv_at hl 0 rfl) ?_
  refine lv_lload_n hx hb dX0_append_26 rfl (lv_at hl 1 rfl) ?_
  refine lv_lload_n hx hb dX0_append_27 rfl (lv_at hl 2 rfl) ?_
  refine vp_callSi (W.runV (As := [.long a, .long b]) (rest := []) ⟨hx, hb, hml, hown, hts⟩ (c_firstSharing l dC dI h0 c0 w0 kc kw k n fc fv cl su a b (by omega)) (cwV 2 hts (pt_gV pw84 pw85 pw3 pw17 pw86) rfl rfl rfl (by decide +kernel) ⟨Nat.le_of_ble_eq_true rfl, Nat.le_of_ble_eq_true rfl⟩) ⟨fun a U g mk q => by obtain ⟨q0, qP, qK⟩ := q; exact ⟨q0, qP, va_K.moved (u := U) (U := U.calling g mk a) (Vm.Alike.refl U.vm) qK⟩, va_recv hK hP (ci := 0) (q0 := 0) rfl rfl, fun U hU hW => ⟨rfl, by rw [hU]; exact hP, va_K.moved hW.alike hK⟩⟩ rfl rfl hl.1 rfl (lv_room (Nat.le_of_ble_eq_true rfl)) dX0_append_28 ⟨Nat.zero_le _, Nat.zero_le _⟩) (fun r1 hw => ?_)
  have hr1 : r1 = -1 := (pt_F_none (by omega) hw).mpr hno
  refine lv_istore (lv' := [(5, .int r1), (0, .ref h0), (1, .long a), (3, .long b)]) hx hb dX0_append_31 hl (by decide) rfl (fun ls hl => ?_)
  refine lv_iload hx hb dX0_append_33 (lv_at hl 0 rfl) ?_
  refine lv_iconst (v := (-1)) hx hb dX0_append_35 (by decide) ?_
  refine lv_icmp_eq (tgt := 55) hx hb dX0_append_36 (by decide) (fun h2 => ?_) (fun h2 => absurd hr1 h2)
  refine lv_aload_n hx hb dX0_append_55 rfl (lv_at hl 1 rfl) ?_
  refine va_get (D := (dC, dI)) (ci := 0) (v := .ref c0) (C := RX0) (T := TX0) (N := 7) hx hb hts (fun w h => List.mem_cons_of_mem _ (pt_wsX0 w h)) hown hK hP 0 rfl rfl 0 (by decide) (hts _ (List.mem_cons_of_mem _ pw32)) (fun _ h9 => h9) rfl dX0_append_56 ?_
  refine lv_aload_n hx hb dX0_append_59 rfl (lv_at hl 1 rfl) ?_
  refine va_get (D := (dC, dI)) (ci := 0) (v := .int (nI k)) (C := RX0) (T := TX0) (N := 7) hx hb hts (fun w h => List.mem_cons_of_mem _ (pt_wsX0 w h)) hown hK hP 0 rfl rfl 2 (by decide) (hts _ (List.mem_cons_of_mem _ pw34)) (fun _ h9 => h9) rfl dX0_append_60 ?_
  refine lv_lload_n hx hb dX0_append_63 rfl (lv_at hl 2 rfl) ?_
  refine va_last hx hb hK hP hD hS 1 0 rfl rfl (vp_in_nI hk (by decide)) dX0_append_64 (fun H locs hP hD hS => ?_)
  rw [nI_clamp (by omega)] at hP hD
  have hP : va_P (dC, dI) vwCl [(h0, .inr (0, [.ref c0, .ref w0, .int (nI k), .int (nI n), .long (pt_mk n), .int cl, .int su])), (c0, .inl (kc, 512, .inr (.inl (vp_updL fc k a)))), (w0, .inl (kw, 512, .inr (.inl fv)))] H := hP
  have hD : va_D A [(h0, .inr (0, [.ref c0, .ref w0, .int (nI k), .int (nI n), .long (pt_mk n), .int cl, .int su])), (c0, .inl (kc, 512, .inr (.inl (vp_updL fc k a)))), (w0, .inl (kw, 512, .inr (.inl fv)))] := hD
  refine lv_aload_n hx hb dX0_append_65 rfl (lv_at hl 1 rfl) ?_
  refine va_get (D := (dC, dI)) (ci := 0) (v := .ref w0) (C := RX0) (T := TX0) (N := 7) hx hb hts (fun w h => List.mem_cons_of_mem _ (pt_wsX0 w h)) hown hK hP 0 rfl rfl 1 (by decide) (hts _ (List.mem_cons_of_mem _ pw33)) (fun _ h9 => h9) rfl dX0_append_66 ?_
  refine lv_aload_n hx hb dX0_append_69 rfl (lv_at hl 1 rfl) ?_
  refine va_get (D := (dC, dI)) (ci := 0) (v := .int (nI k)) (C := RX0) (T := TX0) (N := 7) hx hb hts (fun w h => List.mem_cons_of_mem _ (pt_wsX0 w h)) hown hK hP 0 rfl rfl 2 (by decide) (hts _ (List.mem_cons_of_mem _ pw34)) (fun _ h9 => h9) rfl dX0_append_70 ?_
  refine lv_lload_n hx hb dX0_append_73 rfl (lv_at hl 3 rfl) ?_
  refine va_last hx hb hK hP hD hS 2 1 rfl rfl (vp_in_nI hk (by decide)) dX0_append_74 (fun H locs hP hD hS => ?_)
  rw [nI_clamp (by omega)] at hP hD
  have hP : va_P (dC, dI) vwCl [(h0, .inr (0, [.ref c0, .ref w0, .int (nI k), .int (nI n), .long (pt_mk n), .int cl, .int su])), (c0, .inl (kc, 512, .inr (.inl (vp_updL fc k a)))), (w0, .inl (kw, 512, .inr (.inl (vp_updL fv k b))))] H := hP
  have hD : va_D A [(h0, .inr (0, [.ref c0, .ref w0, .int (nI k), .int (nI n), .long (pt_mk n), .int cl, .int su])), (c0, .inl (kc, 512, .inr (.inl (vp_updL fc k a)))), (w0, .inl (kw, 512, .inr (.inl (vp_updL fv k b))))] := hD
  refine lv_aload_n hx hb dX0_append_75 rfl (lv_at hl 1 rfl) ?_
  refine lv_dup hx hb dX0_append_76 rfl ?_
  refine va_get (D := (dC, dI)) (ci := 0) (v := .int (nI k)) (C := RX0) (T := TX0) (N := 7) hx hb hts (fun w h => List.mem_cons_of_mem _ (pt_wsX0 w h)) hown hK hP 0 rfl rfl 2 (by decide) (hts _ (List.mem_cons_of_mem _ pw34)) (fun _ h9 => h9) rfl dX0_append_77 ?_
  refine lv_iconst (v := 1) hx hb dX0_append_80 (by decide) ?_
  refine lv_iadd hx hb dX0_append_81 ?_
  rw [nI_1]
  refine va_put (D := (dC, dI)) (ci := 0) (v := .int (nI (k + 1))) (ty := .int) (C := RX0) (T := TX0) (N := 7) hx hb hts (fun w h => List.mem_cons_of_mem _ (pt_wsX0 w h)) tyX0 tyX0_ok nmX0 hown hK hP hD hS 0 rfl rfl 2 (by decide) (hts _ (List.mem_cons_of_mem _ pw34)) (fun _ h9 => h9) rfl (by decide +kernel) rfl rfl (Nat.le_of_ble_eq_true rfl) dX0_append_82 (fun H locs hP hD hS => ?_)
  have hP : va_P (dC, dI) vwCl [(h0, .inr (0, [.ref c0, .ref w0, .int (nI (k + 1)), .int (nI n), .long (pt_mk n), .int cl, .int su])), (c0, .inl (kc, 512, .inr (.inl (vp_updL fc k a)))), (w0, .inl (kw, 512, .inr (.inl (vp_updL fv k b))))] H := hP
  have hD : va_D A [(h0, .inr (0, [.ref c0, .ref w0, .int (nI (k + 1)), .int (nI n), .long (pt_mk n), .int cl, .int su])), (c0, .inl (kc, 512, .inr (.inl (vp_updL fc k a)))), (w0, .inl (kw, 512, .inr (.inl (vp_updL fv k b))))] := hD
  refine lv_aload_n hx hb dX0_append_85 rfl (lv_at hl 1 rfl) ?_
  refine va_get (D := (dC, dI)) (ci := 0) (v := .int (nI (k + 1))) (C := RX0) (T := TX0) (N := 7) hx hb hts (fun w h => List.mem_cons_of_mem _ (pt_wsX0 w h)) hown hK hP 0 rfl rfl 2 (by decide) (hts _ (List.mem_cons_of_mem _ pw34)) (fun _ h9 => h9) rfl dX0_append_86 ?_
  refine lv_iconst (v := 1) hx hb dX0_append_89 (by decide) ?_
  refine lv_isub hx hb dX0_append_90 ?_
  rw [nI_pred]
  rw [← hQ]
  exact W.iret (v := nI k) hx hb hr (fun t ht hW => ⟨⟨nI k, (), rfl, rfl, by rw [ht]; exact hP, va_K.moved hW.alike hK, hD⟩, hS.F ht⟩) hS.2.2 dX0_append_91
set_option maxHeartbeats 4000000 in
set_option maxRecDepth 100000 in
/-- append(care, want) refuses -/
theorem t_append (l : Launch) (hl9 : l.stackTraces = false) (dC : Nat → ClassId) (dI : Nat → Nat → Nat) (s0 : State) (h0X : pt_X s0) (h0 c0 w0 : Nat) (kc kw : ClassId) (k n : Nat) (fc fv : Nat → Int64) (cl su : Int32) (a b : Int64) (sz : Nat) (r : Int32) (hrf : (k = 512 ∧ r = -1) ∨ (k < 512 ∧ pt_F (fun j => pt_sh (fc j) (fv j) a b) k r ∧ ¬ r = -1)) : pt_Thr l yX0_append wsX0_append ({ frames := 6, cells := 1, slots := 6, locals := 82 }) (va_Pc [.ref h0, .long a, .long b] (fun U => U.heap.size = sz ∧ va_P (dC, dI) vwCl [(h0, .inr (0, [.ref c0, .ref w0, .int (nI k), .int (nI n), .long (pt_mk n), .int cl, .int su])), (c0, .inl (kc, 512, .inr (.inl fc))), (w0, .inl (kw, 512, .inr (.inl fv)))] U.heap ∧ va_K (dC, dI) vwCl [(kc, .long), (kw, .long)] U ∧ va_D (fun q => s0.heap.size ≤ q) [(h0, .inr (0, [.ref c0, .ref w0, .int (nI k), .int (nI n), .long (pt_mk n), .int cl, .int su])), (c0, .inl (kc, 512, .inr (.inl fc))), (w0, .inl (kw, 512, .inr (.inl fv)))] ∧ pt_ext s0 U)) "java/lang/IllegalStateException" (fun st t => va_P (dC, dI) vwCl [(h0, .inr (0, [.ref c0, .ref w0, .int (nI k), .int (nI n), .long (pt_mk n), .int r, .int su])), (c0, .inl (kc, 512, .inr (.inl fc))), (w0, .inl (kw, 512, .inr (.inl fv)))] t.heap ∧ va_K (dC, dI) vwCl [(kc, .long), (kw, .long)] t ∧ va_D (va_A [(h0, .inr (0, [.ref c0, .ref w0, .int (nI k), .int (nI n), .long (pt_mk n), .int cl, .int su])), (c0, .inl (kc, 512, .inr (.inl fc))), (w0, .inl (kw, 512, .inr (.inl fv)))] sz) [(h0, .inr (0, [.ref c0, .ref w0, .int (nI k), .int (nI n), .long (pt_mk n), .int r, .int su])), (c0, .inl (kc, 512, .inr (.inl fc))), (w0, .inl (kw, 512, .inr (.inl fv)))] ∧ va_F (va_A [(h0, .inr (0, [.ref c0, .ref w0, .int (nI k), .int (nI n), .long (pt_mk n), .int cl, .int su])), (c0, .inl (kc, 512, .inr (.inl fc))), (w0, .inl (kw, 512, .inr (.inl fv)))] sz) st t) 1 6 (va_A [(h0, .inr (0, [.ref c0, .ref w0, .int (nI k), .int (nI n), .long (pt_mk n), .int cl, .int su])), (c0, .inl (kc, 512, .inr (.inl fc))), (w0, .inl (kw, 512, .inr (.inl fv)))] sz) := by
  refine pt_Thr_ofW (cc := cX0_append) (maxL := 6) (ret := (some .int)) (by decide) rfl ?_
  intro p e s m args below meth c s₁ B hml hnoh hv
  obtain ⟨ha, hsz, hP, hK, hD0, hext⟩ := hv
  subst hsz
  have hx := B.exec
  have hb := B.bytes
  have hr := B.returns
  have hts := atoms_spec (ws := wsX0_append) B.pre
  have hown : s.vm.findClass RX0 = some m.cls := findClass_of_methodNamed B.named
  have hlocks := B.notSynchronized
  have hl := lv_entry ([.ref h0, .long a, .long b]) (n := 6) (Nat.le_of_ble_eq_true rfl)
  refine W.eq (show entryFrame m args 6 = entryFrame m ([.ref h0, .long a, .long b] : List Value).toArray 6 by rw [ha]) ?_
  rw [lg_entry_eq]
  generalize (lg_sl ([.ref h0, .long a, .long b]) ++ List.replicate (6 - (lg_sl ([.ref h0, .long a, .long b])).length) Slot.unset).toArray = ls at hl ⊢
  have hl : lv_has ls 6 [(0, .ref h0), (1, .long a), (3, .long b)] := hl
  have hD := hD0.self (sz := s.heap.size)
  have hAs : ∀ q : Nat, va_A [(h0, .inr (0, [.ref c0, .ref w0, .int (nI k), .int (nI n), .long (pt_mk n), .int cl, .int su])), (c0, .inl (kc, 512, .inr (.inl fc))), (w0, .inl (kw, 512, .inr (.inl fv)))] s.heap.size q → s0.heap.size ≤ q := pt_As hD0 hext.2.1
  generalize hAe : va_A [(h0, .inr (0, [.ref c0, .ref w0, .int (nI k), .int (nI n), .long (pt_mk n), .int cl, .int su])), (c0, .inl (kc, 512, .inr (.inl fc))), (w0, .inl (kw, 512, .inr (.inl fv)))] s.heap.size = A at hD hAs ⊢
  have hA : ∀ q : Nat, s.heap.size ≤ q → A q := fun q h => by rw [← hAe]; exact Or.inr h
  have hS : va_S A s.heap s.heap [] := va_S.rf
  have hP : va_P (dC, dI) vwCl [(h0, .inr (0, [.ref c0, .ref w0, .int (nI k), .int (nI n), .long (pt_mk n), .int cl, .int su])), (c0, .inl (kc, 512, .inr (.inl fc))), (w0, .inl (kw, 512, .inr (.inl fv)))] s.heap := hP
  generalize hQ : pt_TQ below "java/lang/IllegalStateException" (fun st t => va_P (dC, dI) vwCl [(h0, .inr (0, [.ref c0, .ref w0, .int (nI k), .int (nI n), .long (pt_mk n), .int r, .int su])), (c0, .inl (kc, 512, .inr (.inl fc))), (w0, .inl (kw, 512, .inr (.inl fv)))] t.heap ∧ va_K (dC, dI) vwCl [(kc, .long), (kw, .long)] t ∧ va_D A [(h0, .inr (0, [.ref c0, .ref w0, .int (nI k), .int (nI n), .long (pt_mk n), .int r, .int su])), (c0, .inl (kc, 512, .inr (.inl fc))), (w0, .inl (kw, 512, .inr (.inl fv)))] ∧ va_F A st t) s 1 6 A = Q
  rcases hrf with ⟨hk, rfl⟩ | ⟨hk, hF, hne⟩
  · refine lv_aload_n hx hb dX0_append_0 rfl (lv_at hl 0 rfl) ?_
    refine va_get (D := (dC, dI)) (ci := 0) (v := .int (nI k)) (C := RX0) (T := TX0) (N := 7) hx hb hts (fun w h => List.mem_cons_of_mem _ (pt_wsX0 w h)) hown hK hP 0 rfl rfl 2 (by decide) (hts _ (List.mem_cons_of_mem _ pw34)) (fun _ h9 => h9) rfl dX0_append_1 ?_
    refine lv_sipush (v := 512) hx hb dX0_append_4 (by decide) ?_
    refine lv_icmp_lt (tgt := 25) hx hb dX0_append_7 (by decide) (fun h1 => absurd h1 (nI_nlt (b := 512) (by omega) (by omega))) (fun h1 => ?_)
    refine lv_aload_n hx hb dX0_append_10 rfl (lv_at hl 0 rfl) ?_
    refine lv_iconst (v := (-1)) hx hb dX0_append_11 (by decide) ?_
    refine va_put (D := (dC, dI)) (ci := 0) (v := .int (-1)) (ty := .int) (C := RX0) (T := TX0) (N := 7) hx hb hts (fun w h => List.mem_cons_of_mem _ (pt_wsX0 w h)) tyX0 tyX0_ok nmX0 hown hK hP hD hS 0 rfl rfl 5 (by decide) (hts _ (List.mem_cons_of_mem _ pw37)) (fun _ h9 => h9) rfl (by decide +kernel) rfl rfl (Nat.le_of_ble_eq_true rfl) dX0_append_12 (fun H locs hP hD hS => ?_)
    have hP : va_P (dC, dI) vwCl [(h0, .inr (0, [.ref c0, .ref w0, .int (nI k), .int (nI n), .long (pt_mk n), .int (-1), .int su])), (c0, .inl (kc, 512, .inr (.inl fc))), (w0, .inl (kw, 512, .inr (.inl fv)))] H := hP
    have hD : va_D A [(h0, .inr (0, [.ref c0, .ref w0, .int (nI k), .int (nI n), .long (pt_mk n), .int (-1), .int su])), (c0, .inl (kc, 512, .inr (.inl fc))), (w0, .inl (kw, 512, .inr (.inl fv)))] := hD
    obtain ⟨sa, hstr⟩ := h0X.2.1 101 "512 patterns are there" (by decide)
    rw [← hQ]
    exact pt_throwS (own := RX0) (cls := "java/lang/IllegalStateException") (text := "512 patterns are there") (names := ["java/lang/RuntimeException", "java/lang/Exception"]) (ik := 99) (is := 101) (ic := 103) (sa := sa) hx hb hl9 hown (by decide) (by decide) (fun U hU hV w hw => pt_X_at h0X (hext.on hS hAs hU hV) w (pt_xw_in_ise w hw) _) (vk_R.warm hext.1 hstr) (hl.1.trans hml.symm) dX0_append_15 dX0_append_18 dX0_append_19 dX0_append_21 dX0_append_24 hnoh (by decide) (by decide) (by decide) (by decide) hlocks (fun t hW hz hk => ⟨hP.kept (fun k q hq => hk _ ((hP k q hq).lt)), va_K.moved hW.alike hK, hD, pt_S_thrown hS hz hk⟩) hS.2.2 (by decide) (by decide)
  · refine lv_aload_n hx hb dX0_append_0 rfl (lv_at hl 0 rfl) ?_
    refine va_get (D := (dC, dI)) (ci := 0) (v := .int (nI k)) (C := RX0) (T := TX0) (N := 7) hx hb hts (fun w h => List.mem_cons_of_mem _ (pt_wsX0 w h)) hown hK hP 0 rfl rfl 2 (by decide) (hts _ (List.mem_cons_of_mem _ pw34)) (fun _ h9 => h9) rfl dX0_append_1 ?_
    refine lv_sipush (v := 512) hx hb dX0_append_4 (by decide) ?_
    refine lv_icmp_lt (tgt := 25) hx hb dX0_append_7 (by decide) (fun h1 => ?_) (fun h1 => absurd (nI_lt (b := 512) hk (by decide)) h1)
    refine lv_aload_n hx hb dX0_append_25 rfl (lv_at hl 0 rfl) ?_
    refine lv_lload_n hx hb dX0_append_26 rfl (lv_at hl 1 rfl) ?_
    refine lv_lload_n hx hb dX0_append_27 rfl (lv_at hl 2 rfl) ?_
    refine vp_callSi (W.runV (As := [.long a, .long b]) (rest := []) ⟨hx, hb, hml, hown, hts⟩ (c_firstSharing l dC dI h0 c0 w0 kc kw k n fc fv cl su a b (by omega)) (cwV 2 hts (pt_gV pw84 pw85 pw3 pw17 pw86) rfl rfl rfl (by decide +kernel) ⟨Nat.le_of_ble_eq_true rfl, Nat.le_of_ble_eq_true rfl⟩) ⟨fun a U g mk q => by obtain ⟨q0, qP, qK⟩ := q; exact ⟨q0, qP, va_K.moved (u := U) (U := U.calling g mk a) (Vm.Alike.refl U.vm) qK⟩, va_recv hK hP (ci := 0) (q0 := 0) rfl rfl, fun U hU hW => ⟨rfl, by rw [hU]; exact hP, va_K.moved hW.alike hK⟩⟩ rfl rfl hl.1 rfl (lv_room (Nat.le_of_ble_eq_true rfl)) dX0_append_28 ⟨Nat.zero_le _, Nat.zero_le _⟩) (fun r1 hw => ?_)
    obtain rfl : r1 = r := pt_F_unique (fun _ _ => Iff.rfl) hw hF
    refine lv_istore (lv' := [(5, .int r1), (0, .ref h0), (1, .long a), (3, .long b)]) hx hb dX0_append_31 hl (by decide) rfl (fun ls hl => ?_)
    refine lv_iload hx hb dX0_append_33 (lv_at hl 0 rfl) ?_
    refine lv_iconst (v := (-1)) hx hb dX0_append_35 (by decide) ?_
    refine lv_icmp_eq (tgt := 55) hx hb dX0_append_36 (by decide) (fun h2 => absurd h2 hne) (fun h2 => ?_)
    refine lv_aload_n hx hb dX0_append_39 rfl (lv_at hl 1 rfl) ?_
    refine lv_iload hx hb dX0_append_40 (lv_at hl 0 rfl) ?_
    refine va_put (D := (dC, dI)) (ci := 0) (v := .int r1) (ty := .int) (C := RX0) (T := TX0) (N := 7) hx hb hts (fun w h => List.mem_cons_of_mem _ (pt_wsX0 w h)) tyX0 tyX0_ok nmX0 hown hK hP hD hS 0 rfl rfl 5 (by decide) (hts _ (List.mem_cons_of_mem _ pw37)) (fun _ h9 => h9) rfl (by decide +kernel) rfl rfl (Nat.le_of_ble_eq_true rfl) dX0_append_42 (fun H locs hP hD hS => ?_)
    have hP : va_P (dC, dI) vwCl [(h0, .inr (0, [.ref c0, .ref w0, .int (nI k), .int (nI n), .long (pt_mk n), .int r1, .int su])), (c0, .inl (kc, 512, .inr (.inl fc))), (w0, .inl (kw, 512, .inr (.inl fv)))] H := hP
    have hD : va_D A [(h0, .inr (0, [.ref c0, .ref w0, .int (nI k), .int (nI n), .long (pt_mk n), .int r1, .int su])), (c0, .inl (kc, 512, .inr (.inl fc))), (w0, .inl (kw, 512, .inr (.inl fv)))] := hD
    obtain ⟨sa, hstr⟩ := h0X.2.1 104 "clashes with a pattern" (by decide)
    rw [← hQ]
    exact pt_throwS (own := RX0) (cls := "java/lang/IllegalStateException") (text := "clashes with a pattern") (names := ["java/lang/RuntimeException", "java/lang/Exception"]) (ik := 99) (is := 104) (ic := 103) (sa := sa) hx hb hl9 hown (by decide) (by decide) (fun U hU hV w hw => pt_X_at h0X (hext.on hS hAs hU hV) w (pt_xw_in_ise w hw) _) (vk_R.warm hext.1 hstr) (hl.1.trans hml.symm) dX0_append_45 dX0_append_48 dX0_append_49 dX0_append_51 dX0_append_54 hnoh (by decide) (by decide) (by decide) (by decide) hlocks (fun t hW hz hk => ⟨hP.kept (fun k q hq => hk _ ((hP k q hq).lt)), va_K.moved hW.alike hK, hD, pt_S_thrown hS hz hk⟩) hS.2.2 (by decide) (by decide)
set_option maxHeartbeats 4000000 in
set_option maxRecDepth 100000 in
/-- add(care, want) takes it -/
theorem c_add (l : Launch) (dC : Nat → ClassId) (dI : Nat → Nat → Nat) (h0 c0 w0 : Nat) (kc kw : ClassId) (k n : Nat) (fc fv : Nat → Int64) (cl su : Int32) (a b : Int64) (sz : Nat) (hst : ¬ pt_stray n a b) (hk : k < 512) (hno : ∀ j, j < k → ¬ pt_sh (fc j) (fv j) (a &&& pt_mk n) (b &&& pt_mk n)) : Met l yX0_add wsX0_add ({ frames := 3, cells := 0, slots := 0, locals := 75 }) (va_Pc [.ref h0, .long a, .long b] (fun U => U.heap.size = sz ∧ va_P (dC, dI) vwCl [(h0, .inr (0, [.ref c0, .ref w0, .int (nI k), .int (nI n), .long (pt_mk n), .int cl, .int su])), (c0, .inl (kc, 512, .inr (.inl fc))), (w0, .inl (kw, 512, .inr (.inl fv)))] U.heap ∧ va_K (dC, dI) vwCl [(kc, .long), (kw, .long)] U ∧ va_D (fun _ => True) [(h0, .inr (0, [.ref c0, .ref w0, .int (nI k), .int (nI n), .long (pt_mk n), .int cl, .int su])), (c0, .inl (kc, 512, .inr (.inl fc))), (w0, .inl (kw, 512, .inr (.inl fv)))])) (va_Qi (fun (r : Int32) _ => r = nI k) (fun (u : Unit) (t : State) => match u with | _ => va_P (dC, dI) vwCl [(h0, .inr (0, [.ref c0, .ref w0, .int (nI (k + 1)), .int (nI n), .long (pt_mk n), .int cl, .int su])), (c0, .inl (kc, 512, .inr (.inl (vp_updL fc k (a &&& pt_mk n))))), (w0, .inl (kw, 512, .inr (.inl (vp_updL fv k (b &&& pt_mk n)))))] t.heap ∧ va_K (dC, dI) vwCl [(kc, .long), (kw, .long)] t ∧ va_D (va_A [(h0, .inr (0, [.ref c0, .ref w0, .int (nI k), .int (nI n), .long (pt_mk n), .int cl, .int su])), (c0, .inl (kc, 512, .inr (.inl fc))), (w0, .inl (kw, 512, .inr (.inl fv)))] sz) [(h0, .inr (0, [.ref c0, .ref w0, .int (nI (k + 1)), .int (nI n), .long (pt_mk n), .int cl, .int su])), (c0, .inl (kc, 512, .inr (.inl (vp_updL fc k (a &&& pt_mk n))))), (w0, .inl (kw, 512, .inr (.inl (vp_updL fv k (b &&& pt_mk n)))))]) (va_A [(h0, .inr (0, [.ref c0, .ref w0, .int (nI k), .int (nI n), .long (pt_mk n), .int cl, .int su])), (c0, .inl (kc, 512, .inr (.inl fc))), (w0, .inl (kw, 512, .inr (.inl fv)))] sz)) 0 0 (va_A [(h0, .inr (0, [.ref c0, .ref w0, .int (nI k), .int (nI n), .long (pt_mk n), .int cl, .int su])), (c0, .inl (kc, 512, .inr (.inl fc))), (w0, .inl (kw, 512, .inr (.inl fv)))] sz) := by
  refine Met.ofW (cc := cX0_add) (maxL := 5) (ret := (some .int)) (by decide) rfl ?_
  intro p e s m args below meth c s₁ B hml hv
  obtain ⟨ha, hsz, hP, hK, hD0⟩ := hv
  subst hsz
  have hx := B.exec
  have hb := B.bytes
  have hr := B.returns
  have hts := atoms_spec (ws := wsX0_add) B.pre
  have hown : s.vm.findClass RX0 = some m.cls := findClass_of_methodNamed B.named
  have hlocks := B.notSynchronized
  have hl := lv_entry ([.ref h0, .long a, .long b]) (n := 5) (Nat.le_of_ble_eq_true rfl)
  refine W.eq (show entryFrame m args 5 = entryFrame m ([.ref h0, .long a, .long b] : List Value).toArray 5 by rw [ha]) ?_
  rw [lg_entry_eq]
  generalize (lg_sl ([.ref h0, .long a, .long b]) ++ List.replicate (5 - (lg_sl ([.ref h0, .long a, .long b])).length) Slot.unset).toArray = ls at hl ⊢
  have hl : lv_has ls 5 [(0, .ref h0), (1, .long a), (3, .long b)] := hl
  have hD := hD0.self (sz := s.heap.size)
  generalize hAe : va_A [(h0, .inr (0, [.ref c0, .ref w0, .int (nI k), .int (nI n), .long (pt_mk n), .int cl, .int su])), (c0, .inl (kc, 512, .inr (.inl fc))), (w0, .inl (kw, 512, .inr (.inl fv)))] s.heap.size = A at hD ⊢
  have hA : ∀ q : Nat, s.heap.size ≤ q → A q := fun q h => by rw [← hAe]; exact Or.inr h
  have hS : va_S A s.heap s.heap [] := va_S.rf
  generalize hQ : MQ below (va_Qi (fun (r : Int32) _ => r = nI k) (fun (u : Unit) (t : State) => match u with | _ => va_P (dC, dI) vwCl [(h0, .inr (0, [.ref c0, .ref w0, .int (nI (k + 1)), .int (nI n), .long (pt_mk n), .int cl, .int su])), (c0, .inl (kc, 512, .inr (.inl (vp_updL fc k (a &&& pt_mk n))))), (w0, .inl (kw, 512, .inr (.inl (vp_updL fv k (b &&& pt_mk n)))))] t.heap ∧ va_K (dC, dI) vwCl [(kc, .long), (kw, .long)] t ∧ va_D A [(h0, .inr (0, [.ref c0, .ref w0, .int (nI (k + 1)), .int (nI n), .long (pt_mk n), .int cl, .int su])), (c0, .inl (kc, 512, .inr (.inl (vp_updL fc k (a &&& pt_mk n))))), (w0, .inl (kw, 512, .inr (.inl (vp_updL fv k (b &&& pt_mk n)))))]) A) args s 0 0 A = Q
  have hP : va_P (dC, dI) vwCl [(h0, .inr (0, [.ref c0, .ref w0, .int (nI k), .int (nI n), .long (pt_mk n), .int cl, .int su])), (c0, .inl (kc, 512, .inr (.inl fc))), (w0, .inl (kw, 512, .inr (.inl fv)))] s.heap := hP
  refine lv_aload_n hx hb dX0_add_0 rfl (lv_at hl 0 rfl) ?_
  refine lv_lload_n hx hb dX0_add_1 rfl (lv_at hl 1 rfl) ?_
  refine lv_lload_n hx hb dX0_add_2 rfl (lv_at hl 2 rfl) ?_
  refine va_csv (W.runV (As := [.long a, .long b]) (rest := []) ⟨hx, hb, hml, hown, hts⟩ (c_refuseStrayWant l dC dI h0 c0 w0 kc kw k n fc fv cl su a b hst) (cwV 2 hts (pt_gV pw76 pw77 pw1 pw17 pw78) rfl rfl rfl (by decide +kernel) ⟨Nat.le_of_ble_eq_true rfl, Nat.le_of_ble_eq_true rfl⟩) ⟨fun a U g mk q => by obtain ⟨q0, qP, qK⟩ := q; exact ⟨q0, qP, va_K.moved (u := U) (U := U.calling g mk a) (Vm.Alike.refl U.vm) qK⟩, va_recv hK hP (ci := 0) (q0 := 0) rfl rfl, fun U hU hW => ⟨rfl, by rw [hU]; exact hP, va_K.moved hW.alike hK⟩⟩ rfl rfl hl.1 rfl (lv_room (Nat.le_of_ble_eq_true rfl)) dX0_add_3 ⟨Nat.zero_le _, Nat.zero_le _⟩) (fun hw => ?_)
  refine lv_aload_n hx hb dX0_add_6 rfl (lv_at hl 0 rfl) ?_
  refine lv_lload_n hx hb dX0_add_7 rfl (lv_at hl 1 rfl) ?_
  refine lv_aload_n hx hb dX0_add_8 rfl (lv_at hl 0 rfl) ?_
  refine va_get (D := (dC, dI)) (ci := 0) (v := .long (pt_mk n)) (C := RX0) (T := TX0) (N := 7) hx hb hts (fun w h => List.mem_cons_of_mem _ (pt_wsX0 w h)) hown hK hP 0 rfl rfl 4 (by decide) (hts _ (List.mem_cons_of_mem _ pw36)) (fun _ h9 => h9) rfl dX0_add_9 ?_
  refine lv_land hx hb dX0_add_12 ?_
  refine lv_lload_n hx hb dX0_add_13 rfl (lv_at hl 2 rfl) ?_
  refine lv_aload_n hx hb dX0_add_14 rfl (lv_at hl 0 rfl) ?_
  refine va_get (D := (dC, dI)) (ci := 0) (v := .long (pt_mk n)) (C := RX0) (T := TX0) (N := 7) hx hb hts (fun w h => List.mem_cons_of_mem _ (pt_wsX0 w h)) hown hK hP 0 rfl rfl 4 (by decide) (hts _ (List.mem_cons_of_mem _ pw36)) (fun _ h9 => h9) rfl dX0_add_15 ?_
  refine lv_land hx hb dX0_add_18 ?_
  have hPc := hP.sub (ws' := [(h0, .inr (0, [.ref c0, .ref w0, .int (nI k), .int (nI n), .long (pt_mk n), .int cl, .int su])), (c0, .inl (kc, 512, .inr (.inl fc))), (w0, .inl (kw, 512, .inr (.inl fv)))]) [0, 1, 2] rfl
  have hDc := hD.sub (ws' := [(h0, .inr (0, [.ref c0, .ref w0, .int (nI k), .int (nI n), .long (pt_mk n), .int cl, .int su])), (c0, .inl (kc, 512, .inr (.inl fc))), (w0, .inl (kw, 512, .inr (.inl fv)))]) [0, 1, 2] (by decide) rfl
  have hKc := hK.sub (tys' := [(kc, .long), (kw, .long)]) [0, 1] rfl
  have hFc := va_free (wc := [(h0, .inr (0, [.ref c0, .ref w0, .int (nI k), .int (nI n), .long (pt_mk n), .int cl, .int su])), (c0, .inl (kc, 512, .inr (.inl fc))), (w0, .inl (kw, 512, .inr (.inl fv)))]) hD hS hA [0, 1, 2] rfl
  refine va_calli (va_runV (As := [.long (a &&& (pt_mk n)), .long (b &&& (pt_mk n))]) (rest := []) ⟨hx, hb, hml, hown, hts⟩ (c_append l dC dI h0 c0 w0 kc kw k n fc fv cl su (a &&& pt_mk n) (b &&& pt_mk n) s.heap.size hk hno) (cwV 2 hts (pt_gV pw79 pw80 pw2 pw17 pw81) rfl rfl rfl (by decide +kernel) ⟨Nat.le_of_ble_eq_true rfl, Nat.le_of_ble_eq_true rfl⟩) ⟨fun a U g mk q => by obtain ⟨q0, q1, qP, qK, qD⟩ := q; exact ⟨q0, q1, qP, va_K.moved (u := U) (U := U.calling g mk a) (Vm.Alike.refl U.vm) qK, qD⟩, va_recv hK hP (ci := 0) (q0 := 0) rfl rfl, fun U hU hW => ⟨rfl, by rw [hU], by rw [hU]; exact hPc, va_K.moved hW.alike hKc, hDc.weaken (fun _ _ _ _ => trivial)⟩⟩ rfl rfl hl.1 rfl (lv_room (Nat.le_of_ble_eq_true rfl)) dX0_add_19 ⟨Nat.zero_le _, Nat.zero_le _⟩) hS (fun q _ h => hFc q h) hFc (fun r2 u t H1 locs ht hvm hw hB hz1 hk1 hS => ?_)
  obtain ⟨hP1, hK1, hD1⟩ := hB
  rw [ht] at hP1
  obtain ⟨hP, hD⟩ := va_join (wr := ([] : va_W)) (w1 := [(h0, .inr (0, [.ref c0, .ref w0, .int (nI (k + 1)), .int (nI n), .long (pt_mk n), .int cl, .int su])), (c0, .inl (kc, 512, .inr (.inl (vp_updL fc k (a &&& pt_mk n))))), (w0, .inl (kw, 512, .inr (.inl (vp_updL fv k (b &&& pt_mk n)))))]) hP hD [0, 1, 2] [] rfl rfl (by decide) (by decide) hk1 hFc hP1 hD1
  generalize H1 = H at hP hS ⊢
  have hP : va_P (dC, dI) vwCl [(h0, .inr (0, [.ref c0, .ref w0, .int (nI (k + 1)), .int (nI n), .long (pt_mk n), .int cl, .int su])), (c0, .inl (kc, 512, .inr (.inl (vp_updL fc k (a &&& pt_mk n))))), (w0, .inl (kw, 512, .inr (.inl (vp_updL fv k (b &&& pt_mk n)))))] H := hP
  have hD : va_D A [(h0, .inr (0, [.ref c0, .ref w0, .int (nI (k + 1)), .int (nI n), .long (pt_mk n), .int cl, .int su])), (c0, .inl (kc, 512, .inr (.inl (vp_updL fc k (a &&& pt_mk n))))), (w0, .inl (kw, 512, .inr (.inl (vp_updL fv k (b &&& pt_mk n)))))] := hD
  subst hw
  rw [← hQ]
  exact W.iret (v := nI k) hx hb hr (fun t ht hW => ⟨⟨nI k, (), rfl, rfl, by rw [ht]; exact hP, va_K.moved hW.alike hK, hD⟩, hS.F ht⟩) hS.2.2 dX0_add_22
set_option maxHeartbeats 4000000 in
set_option maxRecDepth 100000 in
/-- add(care, want): bad -/
theorem t_add_bad (l : Launch) (hl9 : l.stackTraces = false) (dC : Nat → ClassId) (dI : Nat → Nat → Nat) (s0 : State) (h0X : pt_X s0) (h0 c0 w0 : Nat) (kc kw : ClassId) (k n : Nat) (fc fv : Nat → Int64) (cl su : Int32) (a b : Int64) (sz : Nat) (hst : pt_stray n a b) : pt_Thr l yX0_add wsX0_add ({ frames := 7, cells := 1, slots := 6, locals := 106 }) (va_Pc [.ref h0, .long a, .long b] (fun U => U.heap.size = sz ∧ va_P (dC, dI) vwCl [(h0, .inr (0, [.ref c0, .ref w0, .int (nI k), .int (nI n), .long (pt_mk n), .int cl, .int su])), (c0, .inl (kc, 512, .inr (.inl fc))), (w0, .inl (kw, 512, .inr (.inl fv)))] U.heap ∧ va_K (dC, dI) vwCl [(kc, .long), (kw, .long)] U ∧ va_D (fun q => s0.heap.size ≤ q) [(h0, .inr (0, [.ref c0, .ref w0, .int (nI k), .int (nI n), .long (pt_mk n), .int cl, .int su])), (c0, .inl (kc, 512, .inr (.inl fc))), (w0, .inl (kw, 512, .inr (.inl fv)))] ∧ pt_ext s0 U)) "java/lang/IllegalArgumentException" (fun st t => va_P (dC, dI) vwCl [(h0, .inr (0, [.ref c0, .ref w0, .int (nI k), .int (nI n), .long (pt_mk n), .int cl, .int su])), (c0, .inl (kc, 512, .inr (.inl fc))), (w0, .inl (kw, 512, .inr (.inl fv)))] t.heap ∧ va_K (dC, dI) vwCl [(kc, .long), (kw, .long)] t ∧ va_D (va_A [(h0, .inr (0, [.ref c0, .ref w0, .int (nI k), .int (nI n), .long (pt_mk n), .int cl, .int su])), (c0, .inl (kc, 512, .inr (.inl fc))), (w0, .inl (kw, 512, .inr (.inl fv)))] sz) [(h0, .inr (0, [.ref c0, .ref w0, .int (nI k), .int (nI n), .long (pt_mk n), .int cl, .int su])), (c0, .inl (kc, 512, .inr (.inl fc))), (w0, .inl (kw, 512, .inr (.inl fv)))] ∧ va_F (va_A [(h0, .inr (0, [.ref c0, .ref w0, .int (nI k), .int (nI n), .long (pt_mk n), .int cl, .int su])), (c0, .inl (kc, 512, .inr (.inl fc))), (w0, .inl (kw, 512, .inr (.inl fv)))] sz) st t) 1 6 (va_A [(h0, .inr (0, [.ref c0, .ref w0, .int (nI k), .int (nI n), .long (pt_mk n), .int cl, .int su])), (c0, .inl (kc, 512, .inr (.inl fc))), (w0, .inl (kw, 512, .inr (.inl fv)))] sz) := by
  refine pt_Thr_ofW (cc := cX0_add) (maxL := 5) (ret := (some .int)) (by decide) rfl ?_
  intro p e s m args below meth c s₁ B hml hnoh hv
  obtain ⟨ha, hsz, hP, hK, hD0, hext⟩ := hv
  subst hsz
  have hx := B.exec
  have hb := B.bytes
  have hr := B.returns
  have hts := atoms_spec (ws := wsX0_add) B.pre
  have hown : s.vm.findClass RX0 = some m.cls := findClass_of_methodNamed B.named
  have hlocks := B.notSynchronized
  have hl := lv_entry ([.ref h0, .long a, .long b]) (n := 5) (Nat.le_of_ble_eq_true rfl)
  refine W.eq (show entryFrame m args 5 = entryFrame m ([.ref h0, .long a, .long b] : List Value).toArray 5 by rw [ha]) ?_
  rw [lg_entry_eq]
  generalize (lg_sl ([.ref h0, .long a, .long b]) ++ List.replicate (5 - (lg_sl ([.ref h0, .long a, .long b])).length) Slot.unset).toArray = ls at hl ⊢
  have hl : lv_has ls 5 [(0, .ref h0), (1, .long a), (3, .long b)] := hl
  have hD := hD0.self (sz := s.heap.size)
  have hAs : ∀ q : Nat, va_A [(h0, .inr (0, [.ref c0, .ref w0, .int (nI k), .int (nI n), .long (pt_mk n), .int cl, .int su])), (c0, .inl (kc, 512, .inr (.inl fc))), (w0, .inl (kw, 512, .inr (.inl fv)))] s.heap.size q → s0.heap.size ≤ q := pt_As hD0 hext.2.1
  generalize hAe : va_A [(h0, .inr (0, [.ref c0, .ref w0, .int (nI k), .int (nI n), .long (pt_mk n), .int cl, .int su])), (c0, .inl (kc, 512, .inr (.inl fc))), (w0, .inl (kw, 512, .inr (.inl fv)))] s.heap.size = A at hD hAs ⊢
  have hA : ∀ q : Nat, s.heap.size ≤ q → A q := fun q h => by rw [← hAe]; exact Or.inr h
  have hS : va_S A s.heap s.heap [] := va_S.rf
  have hP : va_P (dC, dI) vwCl [(h0, .inr (0, [.ref c0, .ref w0, .int (nI k), .int (nI n), .long (pt_mk n), .int cl, .int su])), (c0, .inl (kc, 512, .inr (.inl fc))), (w0, .inl (kw, 512, .inr (.inl fv)))] s.heap := hP
  generalize hQ : pt_TQ below "java/lang/IllegalArgumentException" (fun st t => va_P (dC, dI) vwCl [(h0, .inr (0, [.ref c0, .ref w0, .int (nI k), .int (nI n), .long (pt_mk n), .int cl, .int su])), (c0, .inl (kc, 512, .inr (.inl fc))), (w0, .inl (kw, 512, .inr (.inl fv)))] t.heap ∧ va_K (dC, dI) vwCl [(kc, .long), (kw, .long)] t ∧ va_D A [(h0, .inr (0, [.ref c0, .ref w0, .int (nI k), .int (nI n), .long (pt_mk n), .int cl, .int su])), (c0, .inl (kc, 512, .inr (.inl fc))), (w0, .inl (kw, 512, .inr (.inl fv)))] ∧ va_F A st t) s 1 6 A = Q
  refine lv_aload_n hx hb dX0_add_0 rfl (lv_at hl 0 rfl) ?_
  refine lv_lload_n hx hb dX0_add_1 rfl (lv_at hl 1 rfl) ?_
  refine lv_lload_n hx hb dX0_add_2 rfl (lv_at hl 2 rfl) ?_
  rw [← hQ, ← hAe]
  exact pt_out (pt_runT (As := [.long a, .long b]) (rest := []) ⟨hx, hb, hml, hown, hts⟩ (t_refuseStrayWant l hl9 dC dI s0 h0X h0 c0 w0 kc kw k n fc fv cl su a b s.heap.size hst) (cwV 2 hts (pt_gV pw76 pw77 pw1 pw17 pw78) rfl rfl rfl (by decide +kernel) ⟨Nat.le_of_ble_eq_true rfl, Nat.le_of_ble_eq_true rfl⟩) ⟨fun a U g mk q => by obtain ⟨q0, q1, qP, qK, qD, qX⟩ := q; exact ⟨q0, q1, qP, va_K.moved (u := U) (U := U.calling g mk a) (Vm.Alike.refl U.vm) qK, qD, qX⟩, va_recv hK hP (ci := 0) (q0 := 0) rfl rfl, fun U hU hW => ⟨rfl, by rw [hU], by rw [hU]; exact hP, va_K.moved hW.alike hK, hD0, hext.same hU hW⟩⟩ rfl rfl hl.1 rfl (lv_room (Nat.le_of_ble_eq_true rfl)) dX0_add_3 ⟨by decide, by decide⟩) hnoh hlocks (fun st t t2 h1 h2 h3 h4 h5 => ⟨by rw [h4]; exact h3.1, va_K.moved (by rw [h5]; exact Vm.Alike.refl _) h3.2.1, h3.2.2.1, pt_F_same h1 h4 h3.2.2.2⟩) t_nil (fun _ h => h) (by decide) (by decide)
set_option maxHeartbeats 4000000 in
set_option maxRecDepth 100000 in
/-- add(care, want): refused -/
theorem t_add_ref (l : Launch) (hl9 : l.stackTraces = false) (dC : Nat → ClassId) (dI : Nat → Nat → Nat) (s0 : State) (h0X : pt_X s0) (h0 c0 w0 : Nat) (kc kw : ClassId) (k n : Nat) (fc fv : Nat → Int64) (cl su : Int32) (a b : Int64) (sz : Nat) (hst : ¬ pt_stray n a b) (r : Int32) (hrf : (k = 512 ∧ r = -1) ∨ (k < 512 ∧ pt_F (fun j => pt_sh (fc j) (fv j) (a &&& pt_mk n) (b &&& pt_mk n)) k r ∧ ¬ r = -1)) : pt_Thr l yX0_add wsX0_add ({ frames := 7, cells := 1, slots := 6, locals := 107 }) (va_Pc [.ref h0, .long a, .long b] (fun U => U.heap.size = sz ∧ va_P (dC, dI) vwCl [(h0, .inr (0, [.ref c0, .ref w0, .int (nI k), .int (nI n), .long (pt_mk n), .int cl, .int su])), (c0, .inl (kc, 512, .inr (.inl fc))), (w0, .inl (kw, 512, .inr (.inl fv)))] U.heap ∧ va_K (dC, dI) vwCl [(kc, .long), (kw, .long)] U ∧ va_D (fun q => s0.heap.size ≤ q) [(h0, .inr (0, [.ref c0, .ref w0, .int (nI k), .int (nI n), .long (pt_mk n), .int cl, .int su])), (c0, .inl (kc, 512, .inr (.inl fc))), (w0, .inl (kw, 512, .inr (.inl fv)))] ∧ pt_ext s0 U)) "java/lang/IllegalStateException" (fun st t => va_P (dC, dI) vwCl [(h0, .inr (0, [.ref c0, .ref w0, .int (nI k), .int (nI n), .long (pt_mk n), .int r, .int su])), (c0, .inl (kc, 512, .inr (.inl fc))), (w0, .inl (kw, 512, .inr (.inl fv)))] t.heap ∧ va_K (dC, dI) vwCl [(kc, .long), (kw, .long)] t ∧ va_D (va_A [(h0, .inr (0, [.ref c0, .ref w0, .int (nI k), .int (nI n), .long (pt_mk n), .int cl, .int su])), (c0, .inl (kc, 512, .inr (.inl fc))), (w0, .inl (kw, 512, .inr (.inl fv)))] sz) [(h0, .inr (0, [.ref c0, .ref w0, .int (nI k), .int (nI n), .long (pt_mk n), .int r, .int su])), (c0, .inl (kc, 512, .inr (.inl fc))), (w0, .inl (kw, 512, .inr (.inl fv)))] ∧ va_F (va_A [(h0, .inr (0, [.ref c0, .ref w0, .int (nI k), .int (nI n), .long (pt_mk n), .int cl, .int su])), (c0, .inl (kc, 512, .inr (.inl fc))), (w0, .inl (kw, 512, .inr (.inl fv)))] sz) st t) 1 6 (va_A [(h0, .inr (0, [.ref c0, .ref w0, .int (nI k), .int (nI n), .long (pt_mk n), .int cl, .int su])), (c0, .inl (kc, 512, .inr (.inl fc))), (w0, .inl (kw, 512, .inr (.inl fv)))] sz) := by
  refine pt_Thr_ofW (cc := cX0_add) (maxL := 5) (ret := (some .int)) (by decide) rfl ?_
  intro p e s m args below meth c s₁ B hml hnoh hv
  obtain ⟨ha, hsz, hP, hK, hD0, hext⟩ := hv
  subst hsz
  have hx := B.exec
  have hb := B.bytes
  have hr := B.returns
  have hts := atoms_spec (ws := wsX0_add) B.pre
  have hown : s.vm.findClass RX0 = some m.cls := findClass_of_methodNamed B.named
  have hlocks := B.notSynchronized
  have hl := lv_entry ([.ref h0, .long a, .long b]) (n := 5) (Nat.le_of_ble_eq_true rfl)
  refine W.eq (show entryFrame m args 5 = entryFrame m ([.ref h0, .long a, .long b] : List Value).toArray 5 by rw [ha]) ?_
  rw [lg_entry_eq]
  generalize (lg_sl ([.ref h0, .long a, .long b]) ++ List.replicate (5 - (lg_sl ([.ref h0, .long a, .long b])).length) Slot.unset).toArray = ls at hl ⊢
  have hl : lv_has ls 5 [(0, .ref h0), (1, .long a), (3, .long b)] := hl
  have hD := hD0.self (sz := s.heap.size)
  have hAs : ∀ q : Nat, va_A [(h0, .inr (0, [.ref c0, .ref w0, .int (nI k), .int (nI n), .long (pt_mk n), .int cl, .int su])), (c0, .inl (kc, 512, .inr (.inl fc))), (w0, .inl (kw, 512, .inr (.inl fv)))] s.heap.size q → s0.heap.size ≤ q := pt_As hD0 hext.2.1
  generalize hAe : va_A [(h0, .inr (0, [.ref c0, .ref w0, .int (nI k), .int (nI n), .long (pt_mk n), .int cl, .int su])), (c0, .inl (kc, 512, .inr (.inl fc))), (w0, .inl (kw, 512, .inr (.inl fv)))] s.heap.size = A at hD hAs ⊢
  have hA : ∀ q : Nat, s.heap.size ≤ q → A q := fun q h => by rw [← hAe]; exact Or.inr h
  have hS : va_S A s.heap s.heap [] := va_S.rf
  have hP : va_P (dC, dI) vwCl [(h0, .inr (0, [.ref c0, .ref w0, .int (nI k), .int (nI n), .long (pt_mk n), .int cl, .int su])), (c0, .inl (kc, 512, .inr (.inl fc))), (w0, .inl (kw, 512, .inr (.inl fv)))] s.heap := hP
  generalize hQ : pt_TQ below "java/lang/IllegalStateException" (fun st t => va_P (dC, dI) vwCl [(h0, .inr (0, [.ref c0, .ref w0, .int (nI k), .int (nI n), .long (pt_mk n), .int r, .int su])), (c0, .inl (kc, 512, .inr (.inl fc))), (w0, .inl (kw, 512, .inr (.inl fv)))] t.heap ∧ va_K (dC, dI) vwCl [(kc, .long), (kw, .long)] t ∧ va_D A [(h0, .inr (0, [.ref c0, .ref w0, .int (nI k), .int (nI n), .long (pt_mk n), .int r, .int su])), (c0, .inl (kc, 512, .inr (.inl fc))), (w0, .inl (kw, 512, .inr (.inl fv)))] ∧ va_F A st t) s 1 6 A = Q
  refine lv_aload_n hx hb dX0_add_0 rfl (lv_at hl 0 rfl) ?_
  refine lv_lload_n hx hb dX0_add_1 rfl (lv_at hl 1 rfl) ?_
  refine lv_lload_n hx hb dX0_add_2 rfl (lv_at hl 2 rfl) ?_
  refine va_csv (W.runV (As := [.long a, .long b]) (rest := []) ⟨hx, hb, hml, hown, hts⟩ (c_refuseStrayWant l dC dI h0 c0 w0 kc kw k n fc fv cl su a b hst) (cwV 2 hts (pt_gV pw76 pw77 pw1 pw17 pw78) rfl rfl rfl (by decide +kernel) ⟨Nat.le_of_ble_eq_true rfl, Nat.le_of_ble_eq_true rfl⟩) ⟨fun a U g mk q => by obtain ⟨q0, qP, qK⟩ := q; exact ⟨q0, qP, va_K.moved (u := U) (U := U.calling g mk a) (Vm.Alike.refl U.vm) qK⟩, va_recv hK hP (ci := 0) (q0 := 0) rfl rfl, fun U hU hW => ⟨rfl, by rw [hU]; exact hP, va_K.moved hW.alike hK⟩⟩ rfl rfl hl.1 rfl (lv_room (Nat.le_of_ble_eq_true rfl)) dX0_add_3 ⟨Nat.zero_le _, Nat.zero_le _⟩) (fun hw => ?_)
  refine lv_aload_n hx hb dX0_add_6 rfl (lv_at hl 0 rfl) ?_
  refine lv_lload_n hx hb dX0_add_7 rfl (lv_at hl 1 rfl) ?_
  refine lv_aload_n hx hb dX0_add_8 rfl (lv_at hl 0 rfl) ?_
  refine va_get (D := (dC, dI)) (ci := 0) (v := .long (pt_mk n)) (C := RX0) (T := TX0) (N := 7) hx hb hts (fun w h => List.mem_cons_of_mem _ (pt_wsX0 w h)) hown hK hP 0 rfl rfl 4 (by decide) (hts _ (List.mem_cons_of_mem _ pw36)) (fun _ h9 => h9) rfl dX0_add_9 ?_
  refine lv_land hx hb dX0_add_12 ?_
  refine lv_lload_n hx hb dX0_add_13 rfl (lv_at hl 2 rfl) ?_
  refine lv_aload_n hx hb dX0_add_14 rfl (lv_at hl 0 rfl) ?_
  refine va_get (D := (dC, dI)) (ci := 0) (v := .long (pt_mk n)) (C := RX0) (T := TX0) (N := 7) hx hb hts (fun w h => List.mem_cons_of_mem _ (pt_wsX0 w h)) hown hK hP 0 rfl rfl 4 (by decide) (hts _ (List.mem_cons_of_mem _ pw36)) (fun _ h9 => h9) rfl dX0_add_15 ?_
  refine lv_land hx hb dX0_add_18 ?_
  rw [← hQ, ← hAe]
  exact pt_out (pt_runT (As := [.long (a &&& (pt_mk n)), .long (b &&& (pt_mk n))]) (rest := []) ⟨hx, hb, hml, hown, hts⟩ (t_append l hl9 dC dI s0 h0X h0 c0 w0 kc kw k n fc fv cl su (a &&& pt_mk n) (b &&& pt_mk n) s.heap.size r hrf) (cwV 2 hts (pt_gV pw79 pw80 pw2 pw17 pw81) rfl rfl rfl (by decide +kernel) ⟨Nat.le_of_ble_eq_true rfl, Nat.le_of_ble_eq_true rfl⟩) ⟨fun a U g mk q => by obtain ⟨q0, q1, qP, qK, qD, qX⟩ := q; exact ⟨q0, q1, qP, va_K.moved (u := U) (U := U.calling g mk a) (Vm.Alike.refl U.vm) qK, qD, qX⟩, va_recv hK hP (ci := 0) (q0 := 0) rfl rfl, fun U hU hW => ⟨rfl, by rw [hU], by rw [hU]; exact hP, va_K.moved hW.alike hK, hD0, hext.same hU hW⟩⟩ rfl rfl hl.1 rfl (lv_room (Nat.le_of_ble_eq_true rfl)) dX0_add_19 ⟨by decide, by decide⟩) hnoh hlocks (fun st t t2 h1 h2 h3 h4 h5 => ⟨by rw [h4]; exact h3.1, va_K.moved (by rw [h5]; exact Vm.Alike.refl _) h3.2.1, h3.2.2.1, pt_F_same h1 h4 h3.2.2.2⟩) t_nil (fun _ h => h) (by decide) (by decide)
set_option maxHeartbeats 4000000 in
set_option maxRecDepth 100000 in
/-- signs(digits) takes it -/
theorem c_signs (l : Launch) (dC : Nat → ClassId) (dI : Nat → Nat → Nat) (h0 c0 w0 : Nat) (kc kw : ClassId) (k n : Nat) (fc fv : Nat → Int64) (cl su : Int32) (D : Nat) (sz : Nat) (hDb : D < 2 ^ 63) (hk : k < 512) (hno : ∀ j, j < k → ¬ pt_sh (fc j) (fv j) (pt_sc D 40 &&& pt_mk n) (pt_sw D 40 &&& pt_mk n)) : Met l yX0_signs wsX0_signs ({ frames := 3, cells := 0, slots := 0, locals := 75 }) (va_Pc [.ref h0, .long (lN D)] (fun U => U.heap.size = sz ∧ va_P (dC, dI) vwCl [(h0, .inr (0, [.ref c0, .ref w0, .int (nI k), .int (nI n), .long (pt_mk n), .int cl, .int su])), (c0, .inl (kc, 512, .inr (.inl fc))), (w0, .inl (kw, 512, .inr (.inl fv)))] U.heap ∧ va_K (dC, dI) vwCl [(kc, .long), (kw, .long)] U ∧ va_D (fun _ => True) [(h0, .inr (0, [.ref c0, .ref w0, .int (nI k), .int (nI n), .long (pt_mk n), .int cl, .int su])), (c0, .inl (kc, 512, .inr (.inl fc))), (w0, .inl (kw, 512, .inr (.inl fv)))])) (va_Qi (fun (r : Int32) _ => r = nI k) (fun (u : Unit) (t : State) => match u with | _ => va_P (dC, dI) vwCl [(h0, .inr (0, [.ref c0, .ref w0, .int (nI (k + 1)), .int (nI n), .long (pt_mk n), .int cl, .int su])), (c0, .inl (kc, 512, .inr (.inl (vp_updL fc k (pt_sc D 40 &&& pt_mk n))))), (w0, .inl (kw, 512, .inr (.inl (vp_updL fv k (pt_sw D 40 &&& pt_mk n)))))] t.heap ∧ va_K (dC, dI) vwCl [(kc, .long), (kw, .long)] t ∧ va_D (va_A [(h0, .inr (0, [.ref c0, .ref w0, .int (nI k), .int (nI n), .long (pt_mk n), .int cl, .int su])), (c0, .inl (kc, 512, .inr (.inl fc))), (w0, .inl (kw, 512, .inr (.inl fv)))] sz) [(h0, .inr (0, [.ref c0, .ref w0, .int (nI (k + 1)), .int (nI n), .long (pt_mk n), .int cl, .int su])), (c0, .inl (kc, 512, .inr (.inl (vp_updL fc k (pt_sc D 40 &&& pt_mk n))))), (w0, .inl (kw, 512, .inr (.inl (vp_updL fv k (pt_sw D 40 &&& pt_mk n)))))]) (va_A [(h0, .inr (0, [.ref c0, .ref w0, .int (nI k), .int (nI n), .long (pt_mk n), .int cl, .int su])), (c0, .inl (kc, 512, .inr (.inl fc))), (w0, .inl (kw, 512, .inr (.inl fv)))] sz)) 0 0 (va_A [(h0, .inr (0, [.ref c0, .ref w0, .int (nI k), .int (nI n), .long (pt_mk n), .int cl, .int su])), (c0, .inl (kc, 512, .inr (.inl fc))), (w0, .inl (kw, 512, .inr (.inl fv)))] sz) := by
  refine Met.ofW (cc := cX0_signs) (maxL := 12) (ret := (some .int)) (by decide) rfl ?_
  intro p e s m args below meth c s₁ B hml hv
  obtain ⟨ha, hsz, hP, hK, hD0⟩ := hv
  subst hsz
  have hx := B.exec
  have hb := B.bytes
  have hr := B.returns
  have hts := atoms_spec (ws := wsX0_signs) B.pre
  have hown : s.vm.findClass RX0 = some m.cls := findClass_of_methodNamed B.named
  have hlocks := B.notSynchronized
  have hl := lv_entry ([.ref h0, .long (lN D)]) (n := 12) (Nat.le_of_ble_eq_true rfl)
  refine W.eq (show entryFrame m args 12 = entryFrame m ([.ref h0, .long (lN D)] : List Value).toArray 12 by rw [ha]) ?_
  rw [lg_entry_eq]
  generalize (lg_sl ([.ref h0, .long (lN D)]) ++ List.replicate (12 - (lg_sl ([.ref h0, .long (lN D)])).length) Slot.unset).toArray = ls at hl ⊢
  have hl : lv_has ls 12 [(0, .ref h0), (1, .long (lN D))] := hl
  have hD := hD0.self (sz := s.heap.size)
  generalize hAe : va_A [(h0, .inr (0, [.ref c0, .ref w0, .int (nI k), .int (nI n), .long (pt_mk n), .int cl, .int su])), (c0, .inl (kc, 512, .inr (.inl fc))), (w0, .inl (kw, 512, .inr (.inl fv)))] s.heap.size = A at hD ⊢
  have hA : ∀ q : Nat, s.heap.size ≤ q → A q := fun q h => by rw [← hAe]; exact Or.inr h
  have hS : va_S A s.heap s.heap [] := va_S.rf
  generalize hQ : MQ below (va_Qi (fun (r : Int32) _ => r = nI k) (fun (u : Unit) (t : State) => match u with | _ => va_P (dC, dI) vwCl [(h0, .inr (0, [.ref c0, .ref w0, .int (nI (k + 1)), .int (nI n), .long (pt_mk n), .int cl, .int su])), (c0, .inl (kc, 512, .inr (.inl (vp_updL fc k (pt_sc D 40 &&& pt_mk n))))), (w0, .inl (kw, 512, .inr (.inl (vp_updL fv k (pt_sw D 40 &&& pt_mk n)))))] t.heap ∧ va_K (dC, dI) vwCl [(kc, .long), (kw, .long)] t ∧ va_D A [(h0, .inr (0, [.ref c0, .ref w0, .int (nI (k + 1)), .int (nI n), .long (pt_mk n), .int cl, .int su])), (c0, .inl (kc, 512, .inr (.inl (vp_updL fc k (pt_sc D 40 &&& pt_mk n))))), (w0, .inl (kw, 512, .inr (.inl (vp_updL fv k (pt_sw D 40 &&& pt_mk n)))))]) A) args s 0 0 A = Q
  have hP : va_P (dC, dI) vwCl [(h0, .inr (0, [.ref c0, .ref w0, .int (nI k), .int (nI n), .long (pt_mk n), .int cl, .int su])), (c0, .inl (kc, 512, .inr (.inl fc))), (w0, .inl (kw, 512, .inr (.inl fv)))] s.heap := hP
  refine lv_lload_n hx hb dX0_signs_0 rfl (lv_at hl 1 rfl) ?_
  refine lv_lconst (v := 0) hx hb dX0_signs_1 (by decide) ?_
  refine W.lcmp hx hb dX0_signs_2 ?_
  refine lv_if_ge (tgt := 16) hx hb dX0_signs_3 (by decide) (fun h1 => ?_) (fun h1 => absurd ((lg_cmp_ge _ _).mpr ((pk_lLE (a := 0) (by decide) hDb).mpr (Nat.zero_le _))) h1)
  refine lv_lconst (v := 0) hx hb dX0_signs_16 (by decide) ?_
  refine lv_lstore_n (lv' := [(3, .long 0), (0, .ref h0), (1, .long (lN D))]) hx hb dX0_signs_17 rfl hl (by decide) rfl (fun ls hl => ?_)
  refine lv_lconst (v := 0) hx hb dX0_signs_18 (by decide) ?_
  refine lv_lstore (lv' := [(5, .long 0), (3, .long 0), (0, .ref h0), (1, .long (lN D))]) hx hb dX0_signs_19 hl (by decide) rfl (fun ls hl => ?_)
  refine lv_lload_n hx hb dX0_signs_21 rfl (lv_at hl 3 rfl) ?_
  refine lv_lstore (lv' := [(7, .long (lN D)), (5, .long 0), (3, .long 0), (0, .ref h0), (1, .long (lN D))]) hx hb dX0_signs_22 hl (by decide) rfl (fun ls hl => ?_)
  refine lv_iconst (v := 0) hx hb dX0_signs_24 (by decide) ?_
  refine lv_istore (lv' := [(9, .int 0), (7, .long (lN D)), (5, .long 0), (3, .long 0), (0, .ref h0), (1, .long (lN D))]) hx hb dX0_signs_25 hl (by decide) rfl (fun ls hl => ?_)
  have loop : ∀ (d i : Nat) (ls : Array Slot), 40 - i = d → i ≤ 40 → lv_has ls 12 [(9, .int (nI i)), (7, .long (lN (D / 3 ^ i))), (5, .long (pt_sw D i)), (3, .long (pt_sc D i)), (0, .ref h0), (1, .long (lN D))] → W p l e (headSpec wsX0_signs ({ frames := 3, cells := 0, slots := 0, locals := 75 })).room s m args below meth c s.heap [] 0 0 Q (F0 m 27 ls []) := by
    intro d
    induction d with
    | zero =>
      intro i ls hd hi hl
      obtain rfl : i = 40 := by omega
      refine lv_iload hx hb dX0_signs_27 (lv_at hl 0 rfl) ?_
      refine lv_bipush (v := 40) hx hb dX0_signs_29 (by decide) ?_
      refine lv_icmp_ge (tgt := 88) hx hb dX0_signs_31 (by decide) (fun h1 => ?_) (fun h1 => absurd (nI_le (a := 40) (b := 40) (by decide) (by decide)) h1)
      refine lv_aload_n hx hb dX0_signs_88 rfl (lv_at hl 4 rfl) ?_
      refine lv_lload_n hx hb dX0_signs_89 rfl (lv_at hl 3 rfl) ?_
      refine lv_aload_n hx hb dX0_signs_90 rfl (lv_at hl 4 rfl) ?_
      refine va_get (D := (dC, dI)) (ci := 0) (v := .long (pt_mk n)) (C := RX0) (T := TX0) (N := 7) hx hb hts (fun w h => List.mem_cons_of_mem _ (pt_wsX0 w h)) hown hK hP 0 rfl rfl 4 (by decide) (hts _ (List.mem_cons_of_mem _ pw36)) (fun _ h9 => h9) rfl dX0_signs_91 ?_
      refine lv_land hx hb dX0_signs_94 ?_
      refine lv_lload hx hb dX0_signs_95 (lv_at hl 2 rfl) ?_
      refine lv_aload_n hx hb dX0_signs_97 rfl (lv_at hl 4 rfl) ?_
      refine va_get (D := (dC, dI)) (ci := 0) (v := .long (pt_mk n)) (C := RX0) (T := TX0) (N := 7) hx hb hts (fun w h => List.mem_cons_of_mem _ (pt_wsX0 w h)) hown hK hP 0 rfl rfl 4 (by decide) (hts _ (List.mem_cons_of_mem _ pw36)) (fun _ h9 => h9) rfl dX0_signs_98 ?_
      refine lv_land hx hb dX0_signs_101 ?_
      have hPc := hP.sub (ws' := [(h0, .inr (0, [.ref c0, .ref w0, .int (nI k), .int (nI n), .long (pt_mk n), .int cl, .int su])), (c0, .inl (kc, 512, .inr (.inl fc))), (w0, .inl (kw, 512, .inr (.inl fv)))]) [0, 1, 2] rfl
      have hDc := hD.sub (ws' := [(h0, .inr (0, [.ref c0, .ref w0, .int (nI k), .int (nI n), .long (pt_mk n), .int cl, .int su])), (c0, .inl (kc, 512, .inr (.inl fc))), (w0, .inl (kw, 512, .inr (.inl fv)))]) [0, 1, 2] (by decide) rfl
      have hKc := hK.sub (tys' := [(kc, .long), (kw, .long)]) [0, 1] rfl
      have hFc := va_free (wc := [(h0, .inr (0, [.ref c0, .ref w0, .int (nI k), .int (nI n), .long (pt_mk n), .int cl, .int su])), (c0, .inl (kc, 512, .inr (.inl fc))), (w0, .inl (kw, 512, .inr (.inl fv)))]) hD hS hA [0, 1, 2] rfl
      refine va_calli (va_runV (As := [.long ((pt_sc D 40) &&& (pt_mk n)), .long ((pt_sw D 40) &&& (pt_mk n))]) (rest := []) ⟨hx, hb, hml, hown, hts⟩ (c_append l dC dI h0 c0 w0 kc kw k n fc fv cl su (pt_sc D 40 &&& pt_mk n) (pt_sw D 40 &&& pt_mk n) s.heap.size hk hno) (cwV 2 hts (pt_gV pw79 pw80 pw2 pw17 pw81) rfl rfl rfl (by decide +kernel) ⟨Nat.le_of_ble_eq_true rfl, Nat.le_of_ble_eq_true rfl⟩) ⟨fun a U g mk q => by obtain ⟨q0, q1, qP, qK, qD⟩ := q; exact ⟨q0, q1, qP, va_K.moved (u := U) (U := U.calling g mk a) (Vm.Alike.refl U.vm) qK, qD⟩, va_recv hK hP (ci := 0) (q0 := 0) rfl rfl, fun U hU hW => ⟨rfl, by rw [hU], by rw [hU]; exact hPc, va_K.moved hW.alike hKc, hDc.weaken (fun _ _ _ _ => trivial)⟩⟩ rfl rfl hl.1 rfl (lv_room (Nat.le_of_ble_eq_true rfl)) dX0_signs_102 ⟨Nat.zero_le _, Nat.zero_le _⟩) hS (fun q _ h => hFc q h) hFc (fun r1 u t H1 locs ht hvm hw hB hz1 hk1 hS => ?_)
      obtain ⟨hP1, hK1, hD1⟩ := hB
      rw [ht] at hP1
      obtain ⟨hP, hD⟩ := va_join (wr := ([] : va_W)) (w1 := [(h0, .inr (0, [.ref c0, .ref w0, .int (nI (k + 1)), .int (nI n), .long (pt_mk n), .int cl, .int su])), (c0, .inl (kc, 512, .inr (.inl (vp_updL fc k (pt_sc D 40 &&& pt_mk n))))), (w0, .inl (kw, 512, .inr (.inl (vp_updL fv k (pt_sw D 40 &&& pt_mk n)))))]) hP hD [0, 1, 2] [] rfl rfl (by decide) (by decide) hk1 hFc hP1 hD1
      generalize H1 = H at hP hS ⊢
      have hP : va_P (dC, dI) vwCl [(h0, .inr (0, [.ref c0, .ref w0, .int (nI (k + 1)), .int (nI n), .long (pt_mk n), .int cl, .int su])), (c0, .inl (kc, 512, .inr (.inl (vp_updL fc k (pt_sc D 40 &&& pt_mk n))))), (w0, .inl (kw, 512, .inr (.inl (vp_updL fv k (pt_sw D 40 &&& pt_mk n)))))] H := hP
      have hD : va_D A [(h0, .inr (0, [.ref c0, .ref w0, .int (nI (k + 1)), .int (nI n), .long (pt_mk n), .int cl, .int su])), (c0, .inl (kc, 512, .inr (.inl (vp_updL fc k (pt_sc D 40 &&& pt_mk n))))), (w0, .inl (kw, 512, .inr (.inl (vp_updL fv k (pt_sw D 40 &&& pt_mk n)))))] := hD
      subst hw
      rw [← hQ]
      exact W.iret (v := nI k) hx hb hr (fun t ht hW => ⟨⟨nI k, (), rfl, rfl, by rw [ht]; exact hP, va_K.moved hW.alike hK, hD⟩, hS.F ht⟩) hS.2.2 dX0_signs_105
    | succ d ih =>
      intro i ls hd hi hl
      have hDi : D / 3 ^ i < 2 ^ 63 := Nat.lt_of_le_of_lt (Nat.div_le_self _ _) hDb
      refine lv_iload hx hb dX0_signs_27 (lv_at hl 0 rfl) ?_
      refine lv_bipush (v := 40) hx hb dX0_signs_29 (by decide) ?_
      refine lv_icmp_ge (tgt := 88) hx hb dX0_signs_31 (by decide) (fun h1 => absurd h1 (nI_ge (b := 40) (by omega) (by decide))) (fun h1 => ?_)
      refine lv_lload hx hb dX0_signs_34 (lv_at hl 1 rfl) ?_
      refine lv_ldc2 (v := 3) hx hb hown (hts _ (List.mem_cons_of_mem _ pw94)) dX0_signs_36 ?_
      refine lv_lrem hx hb dX0_signs_39 (by decide) ?_
      rw [show lN (D / 3 ^ i) - lN (D / 3 ^ i) / 3 * 3 = lN (D / 3 ^ i % 3) from pk_lRem (b := 3) hDi (by decide) (by decide)]
      refine lv_lstore (lv' := [(10, .long (lN (D / 3 ^ i % 3))), (9, .int (nI i)), (7, .long (lN (D / 3 ^ i))), (5, .long (pt_sw D i)), (3, .long (pt_sc D i)), (0, .ref h0), (1, .long (lN D))]) hx hb dX0_signs_40 hl (by decide) rfl (fun ls hl => ?_)
      refine lv_lload hx hb dX0_signs_42 (lv_at hl 0 rfl) ?_
      refine lv_ldc2 (v := 2) hx hb hown (hts _ (List.mem_cons_of_mem _ pw95)) dX0_signs_44 ?_
      refine W.lcmp hx hb dX0_signs_47 ?_
      refine lv_if_eq (tgt := 58) hx hb dX0_signs_48 (by decide) (fun h2 => ?_) (fun h2 => ?_)
      · refine lv_lload hx hb dX0_signs_58 (lv_at hl 0 rfl) ?_
        refine lv_lconst (v := 1) hx hb dX0_signs_60 (by decide) ?_
        refine W.lcmp hx hb dX0_signs_61 ?_
        refine lv_if_ne (tgt := 74) hx hb dX0_signs_62 (by decide) (fun h3 => ?_) (fun h3 => ?_)
        · refine lv_lload hx hb dX0_signs_74 (lv_at hl 2 rfl) ?_
          refine lv_ldc2 (v := 3) hx hb hown (hts _ (List.mem_cons_of_mem _ pw94)) dX0_signs_76 ?_
          refine lv_ldiv hx hb dX0_signs_79 (by decide) ?_
          rw [show lN (D / 3 ^ i) / 3 = lN (D / 3 ^ (i + 1)) from (pk_lDiv (b := 3) hDi (by decide) (by decide)).trans (congrArg lN (by rw [Nat.div_div_eq_div_mul, Nat.pow_succ]))]
          refine lv_lstore (lv' := [(7, .long (lN (D / 3 ^ (i + 1)))), (10, .long (lN (D / 3 ^ i % 3))), (9, .int (nI i)), (5, .long (pt_sw D i)), (3, .long (pt_sc D i)), (0, .ref h0), (1, .long (lN D))]) hx hb dX0_signs_80 hl (by decide) rfl (fun ls hl => ?_)
          refine lv_iinc (v := nI (i + 1)) (lv' := [(9, .int (nI (i + 1))), (7, .long (lN (D / 3 ^ (i + 1)))), (10, .long (lN (D / 3 ^ i % 3))), (5, .long (pt_sw D i)), (3, .long (pt_sc D i)), (0, .ref h0), (1, .long (lN D))]) hx hb dX0_signs_82 hl (k := 2) rfl (by rw [nI_succ]; rfl) (by decide) rfl (fun ls hl => ?_)
          refine lv_goto (tgt := 27) hx hb dX0_signs_85 (by decide) ?_
          have hl := lv_sub hl [0, 1, 3, 4, 5, 6] rfl
          have hl : lv_has ls 12 [(9, .int (nI (i + 1))), (7, .long (lN (D / 3 ^ (i + 1)))), (5, .long (pt_sw D (i + 1))), (3, .long (pt_sc D (i + 1))), (0, .ref h0), (1, .long (lN D))] := by
            rw [show pt_sw D (i + 1) = pt_sw D i from if_neg (fun z => h3 (pt_cmp0.mpr (by rw [z]; rfl))), show pt_sc D (i + 1) = pt_sc D i from if_pos ((pk_lEQ (b := 2) (by omega) (by decide)).mp (pt_cmp0.mp h2))]
            exact hl
          exact ih (i + 1) ls (by omega) (by omega) hl
        · refine lv_lload hx hb dX0_signs_65 (lv_at hl 3 rfl) ?_
          refine lv_lconst (v := 1) hx hb dX0_signs_67 (by decide) ?_
          refine lv_iload hx hb dX0_signs_68 (lv_at hl 1 rfl) ?_
          refine lv_lshl (v := pt_shl 1 (nI i)) hx hb dX0_signs_70 rfl ?_
          refine lv_lor hx hb dX0_signs_71 ?_
          refine lv_lstore (lv' := [(5, .long ((pt_sw D i) ||| (pt_shl 1 (nI i)))), (10, .long (lN (D / 3 ^ i % 3))), (9, .int (nI i)), (7, .long (lN (D / 3 ^ i))), (3, .long (pt_sc D i)), (0, .ref h0), (1, .long (lN D))]) hx hb dX0_signs_72 hl (by decide) rfl (fun ls hl => ?_)
          refine lv_lload hx hb dX0_signs_74 (lv_at hl 3 rfl) ?_
          refine lv_ldc2 (v := 3) hx hb hown (hts _ (List.mem_cons_of_mem _ pw94)) dX0_signs_76 ?_
          refine lv_ldiv hx hb dX0_signs_79 (by decide) ?_
          rw [show lN (D / 3 ^ i) / 3 = lN (D / 3 ^ (i + 1)) from (pk_lDiv (b := 3) hDi (by decide) (by decide)).trans (congrArg lN (by rw [Nat.div_div_eq_div_mul, Nat.pow_succ]))]
          refine lv_lstore (lv' := [(7, .long (lN (D / 3 ^ (i + 1)))), (5, .long ((pt_sw D i) ||| (pt_shl 1 (nI i)))), (10, .long (lN (D / 3 ^ i % 3))), (9, .int (nI i)), (3, .long (pt_sc D i)), (0, .ref h0), (1, .long (lN D))]) hx hb dX0_signs_80 hl (by decide) rfl (fun ls hl => ?_)
          refine lv_iinc (v := nI (i + 1)) (lv' := [(9, .int (nI (i + 1))), (7, .long (lN (D / 3 ^ (i + 1)))), (5, .long ((pt_sw D i) ||| (pt_shl 1 (nI i)))), (10, .long (lN (D / 3 ^ i % 3))), (3, .long (pt_sc D i)), (0, .ref h0), (1, .long (lN D))]) hx hb dX0_signs_82 hl (k := 3) rfl (by rw [nI_succ]; rfl) (by decide) rfl (fun ls hl => ?_)
          refine lv_goto (tgt := 27) hx hb dX0_signs_85 (by decide) ?_
          have hl := lv_sub hl [0, 1, 2, 4, 5, 6] rfl
          have hl : lv_has ls 12 [(9, .int (nI (i + 1))), (7, .long (lN (D / 3 ^ (i + 1)))), (5, .long (pt_sw D (i + 1))), (3, .long (pt_sc D (i + 1))), (0, .ref h0), (1, .long (lN D))] := by
            rw [show pt_sw D (i + 1) = (pt_sw D i) ||| (pt_shl 1 (nI i)) from if_pos ((pk_lEQ (b := 1) (by omega) (by decide)).mp (pt_cmp0.mp h3)), show pt_sc D (i + 1) = pt_sc D i from if_pos ((pk_lEQ (b := 2) (by omega) (by decide)).mp (pt_cmp0.mp h2))]
            exact hl
          exact ih (i + 1) ls (by omega) (by omega) hl
      · refine lv_lload_n hx hb dX0_signs_51 rfl (lv_at hl 4 rfl) ?_
        refine lv_lconst (v := 1) hx hb dX0_signs_52 (by decide) ?_
        refine lv_iload hx hb dX0_signs_53 (lv_at hl 1 rfl) ?_
        refine lv_lshl (v := pt_shl 1 (nI i)) hx hb dX0_signs_55 rfl ?_
        refine lv_lor hx hb dX0_signs_56 ?_
        refine lv_lstore_n (lv' := [(3, .long ((pt_sc D i) ||| (pt_shl 1 (nI i)))), (10, .long (lN (D / 3 ^ i % 3))), (9, .int (nI i)), (7, .long (lN (D / 3 ^ i))), (5, .long (pt_sw D i)), (0, .ref h0), (1, .long (lN D))]) hx hb dX0_signs_57 rfl hl (by decide) rfl (fun ls hl => ?_)
        refine lv_lload hx hb dX0_signs_58 (lv_at hl 1 rfl) ?_
        refine lv_lconst (v := 1) hx hb dX0_signs_60 (by decide) ?_
        refine W.lcmp hx hb dX0_signs_61 ?_
        refine lv_if_ne (tgt := 74) hx hb dX0_signs_62 (by decide) (fun h3 => ?_) (fun h3 => ?_)
        · refine lv_lload hx hb dX0_signs_74 (lv_at hl 3 rfl) ?_
          refine lv_ldc2 (v := 3) hx hb hown (hts _ (List.mem_cons_of_mem _ pw94)) dX0_signs_76 ?_
          refine lv_ldiv hx hb dX0_signs_79 (by decide) ?_
          rw [show lN (D / 3 ^ i) / 3 = lN (D / 3 ^ (i + 1)) from (pk_lDiv (b := 3) hDi (by decide) (by decide)).trans (congrArg lN (by rw [Nat.div_div_eq_div_mul, Nat.pow_succ]))]
          refine lv_lstore (lv' := [(7, .long (lN (D / 3 ^ (i + 1)))), (3, .long ((pt_sc D i) ||| (pt_shl 1 (nI i)))), (10, .long (lN (D / 3 ^ i % 3))), (9, .int (nI i)), (5, .long (pt_sw D i)), (0, .ref h0), (1, .long (lN D))]) hx hb dX0_signs_80 hl (by decide) rfl (fun ls hl => ?_)
          refine lv_iinc (v := nI (i + 1)) (lv' := [(9, .int (nI (i + 1))), (7, .long (lN (D / 3 ^ (i + 1)))), (3, .long ((pt_sc D i) ||| (pt_shl 1 (nI i)))), (10, .long (lN (D / 3 ^ i % 3))), (5, .long (pt_sw D i)), (0, .ref h0), (1, .long (lN D))]) hx hb dX0_signs_82 hl (k := 3) rfl (by rw [nI_succ]; rfl) (by decide) rfl (fun ls hl => ?_)
          refine lv_goto (tgt := 27) hx hb dX0_signs_85 (by decide) ?_
          have hl := lv_sub hl [0, 1, 4, 2, 5, 6] rfl
          have hl : lv_has ls 12 [(9, .int (nI (i + 1))), (7, .long (lN (D / 3 ^ (i + 1)))), (5, .long (pt_sw D (i + 1))), (3, .long (pt_sc D (i + 1))), (0, .ref h0), (1, .long (lN D))] := by
            rw [show pt_sw D (i + 1) = pt_sw D i from if_neg (fun z => h3 (pt_cmp0.mpr (by rw [z]; rfl))), show pt_sc D (i + 1) = (pt_sc D i) ||| (pt_shl 1 (nI i)) from if_neg (fun z => h2 (pt_cmp0.mpr (by rw [z]; rfl)))]
            exact hl
          exact ih (i + 1) ls (by omega) (by omega) hl
        · refine lv_lload hx hb dX0_signs_65 (lv_at hl 4 rfl) ?_
          refine lv_lconst (v := 1) hx hb dX0_signs_67 (by decide) ?_
          refine lv_iload hx hb dX0_signs_68 (lv_at hl 2 rfl) ?_
          refine lv_lshl (v := pt_shl 1 (nI i)) hx hb dX0_signs_70 rfl ?_
          refine lv_lor hx hb dX0_signs_71 ?_
          refine lv_lstore (lv' := [(5, .long ((pt_sw D i) ||| (pt_shl 1 (nI i)))), (3, .long ((pt_sc D i) ||| (pt_shl 1 (nI i)))), (10, .long (lN (D / 3 ^ i % 3))), (9, .int (nI i)), (7, .long (lN (D / 3 ^ i))), (0, .ref h0), (1, .long (lN D))]) hx hb dX0_signs_72 hl (by decide) rfl (fun ls hl => ?_)
          refine lv_lload hx hb dX0_signs_74 (lv_at hl 4 rfl) ?_
          refine lv_ldc2 (v := 3) hx hb hown (hts _ (List.mem_cons_of_mem _ pw94)) dX0_signs_76 ?_
          refine lv_ldiv hx hb dX0_signs_79 (by decide) ?_
          rw [show lN (D / 3 ^ i) / 3 = lN (D / 3 ^ (i + 1)) from (pk_lDiv (b := 3) hDi (by decide) (by decide)).trans (congrArg lN (by rw [Nat.div_div_eq_div_mul, Nat.pow_succ]))]
          refine lv_lstore (lv' := [(7, .long (lN (D / 3 ^ (i + 1)))), (5, .long ((pt_sw D i) ||| (pt_shl 1 (nI i)))), (3, .long ((pt_sc D i) ||| (pt_shl 1 (nI i)))), (10, .long (lN (D / 3 ^ i % 3))), (9, .int (nI i)), (0, .ref h0), (1, .long (lN D))]) hx hb dX0_signs_80 hl (by decide) rfl (fun ls hl => ?_)
          refine lv_iinc (v := nI (i + 1)) (lv' := [(9, .int (nI (i + 1))), (7, .long (lN (D / 3 ^ (i + 1)))), (5, .long ((pt_sw D i) ||| (pt_shl 1 (nI i)))), (3, .long ((pt_sc D i) ||| (pt_shl 1 (nI i)))), (10, .long (lN (D / 3 ^ i % 3))), (0, .ref h0), (1, .long (lN D))]) hx hb dX0_signs_82 hl (k := 4) rfl (by rw [nI_succ]; rfl) (by decide) rfl (fun ls hl => ?_)
          refine lv_goto (tgt := 27) hx hb dX0_signs_85 (by decide) ?_
          have hl := lv_sub hl [0, 1, 2, 3, 5, 6] rfl
          have hl : lv_has ls 12 [(9, .int (nI (i + 1))), (7, .long (lN (D / 3 ^ (i + 1)))), (5, .long (pt_sw D (i + 1))), (3, .long (pt_sc D (i + 1))), (0, .ref h0), (1, .long (lN D))] := by
            rw [show pt_sw D (i + 1) = (pt_sw D i) ||| (pt_shl 1 (nI i)) from if_pos ((pk_lEQ (b := 1) (by omega) (by decide)).mp (pt_cmp0.mp h3)), show pt_sc D (i + 1) = (pt_sc D i) ||| (pt_shl 1 (nI i)) from if_neg (fun z => h2 (pt_cmp0.mpr (by rw [z]; rfl)))]
            exact hl
          exact ih (i + 1) ls (by omega) (by omega) hl
  have hl : lv_has ls 12 [(9, .int (nI 0)), (7, .long (lN (D / 3 ^ 0))), (5, .long (pt_sw D 0)), (3, .long (pt_sc D 0)), (0, .ref h0), (1, .long (lN D))] := by
    rw [Nat.pow_zero, Nat.div_one]
    exact lv_sub hl [0, 1, 2, 3, 4, 5] rfl
  exact loop 40 0 ls (by omega) (by omega) hl
set_option maxHeartbeats 4000000 in
set_option maxRecDepth 100000 in
/-- signs(digits): refused -/
theorem t_signs_ref (l : Launch) (hl9 : l.stackTraces = false) (dC : Nat → ClassId) (dI : Nat → Nat → Nat) (s0 : State) (h0X : pt_X s0) (h0 c0 w0 : Nat) (kc kw : ClassId) (k n : Nat) (fc fv : Nat → Int64) (cl su : Int32) (D : Nat) (sz : Nat) (hDb : D < 2 ^ 63) (r : Int32) (hrf : (k = 512 ∧ r = -1) ∨ (k < 512 ∧ pt_F (fun j => pt_sh (fc j) (fv j) (pt_sc D 40 &&& pt_mk n) (pt_sw D 40 &&& pt_mk n)) k r ∧ ¬ r = -1)) : pt_Thr l yX0_signs wsX0_signs ({ frames := 7, cells := 1, slots := 6, locals := 107 }) (va_Pc [.ref h0, .long (lN D)] (fun U => U.heap.size = sz ∧ va_P (dC, dI) vwCl [(h0, .inr (0, [.ref c0, .ref w0, .int (nI k), .int (nI n), .long (pt_mk n), .int cl, .int su])), (c0, .inl (kc, 512, .inr (.inl fc))), (w0, .inl (kw, 512, .inr (.inl fv)))] U.heap ∧ va_K (dC, dI) vwCl [(kc, .long), (kw, .long)] U ∧ va_D (fun q => s0.heap.size ≤ q) [(h0, .inr (0, [.ref c0, .ref w0, .int (nI k), .int (nI n), .long (pt_mk n), .int cl, .int su])), (c0, .inl (kc, 512, .inr (.inl fc))), (w0, .inl (kw, 512, .inr (.inl fv)))] ∧ pt_ext s0 U)) "java/lang/IllegalStateException" (fun st t => va_P (dC, dI) vwCl [(h0, .inr (0, [.ref c0, .ref w0, .int (nI k), .int (nI n), .long (pt_mk n), .int r, .int su])), (c0, .inl (kc, 512, .inr (.inl fc))), (w0, .inl (kw, 512, .inr (.inl fv)))] t.heap ∧ va_K (dC, dI) vwCl [(kc, .long), (kw, .long)] t ∧ va_D (va_A [(h0, .inr (0, [.ref c0, .ref w0, .int (nI k), .int (nI n), .long (pt_mk n), .int cl, .int su])), (c0, .inl (kc, 512, .inr (.inl fc))), (w0, .inl (kw, 512, .inr (.inl fv)))] sz) [(h0, .inr (0, [.ref c0, .ref w0, .int (nI k), .int (nI n), .long (pt_mk n), .int r, .int su])), (c0, .inl (kc, 512, .inr (.inl fc))), (w0, .inl (kw, 512, .inr (.inl fv)))] ∧ va_F (va_A [(h0, .inr (0, [.ref c0, .ref w0, .int (nI k), .int (nI n), .long (pt_mk n), .int cl, .int su])), (c0, .inl (kc, 512, .inr (.inl fc))), (w0, .inl (kw, 512, .inr (.inl fv)))] sz) st t) 1 6 (va_A [(h0, .inr (0, [.ref c0, .ref w0, .int (nI k), .int (nI n), .long (pt_mk n), .int cl, .int su])), (c0, .inl (kc, 512, .inr (.inl fc))), (w0, .inl (kw, 512, .inr (.inl fv)))] sz) := by
  refine pt_Thr_ofW (cc := cX0_signs) (maxL := 12) (ret := (some .int)) (by decide) rfl ?_
  intro p e s m args below meth c s₁ B hml hnoh hv
  obtain ⟨ha, hsz, hP, hK, hD0, hext⟩ := hv
  subst hsz
  have hx := B.exec
  have hb := B.bytes
  have hr := B.returns
  have hts := atoms_spec (ws := wsX0_signs) B.pre
  have hown : s.vm.findClass RX0 = some m.cls := findClass_of_methodNamed B.named
  have hlocks := B.notSynchronized
  have hl := lv_entry ([.ref h0, .long (lN D)]) (n := 12) (Nat.le_of_ble_eq_true rfl)
  refine W.eq (show entryFrame m args 12 = entryFrame m ([.ref h0, .long (lN D)] : List Value).toArray 12 by rw [ha]) ?_
  rw [lg_entry_eq]
  generalize (lg_sl ([.ref h0, .long (lN D)]) ++ List.replicate (12 - (lg_sl ([.ref h0, .long (lN D)])).length) Slot.unset).toArray = ls at hl ⊢
  have hl : lv_has ls 12 [(0, .ref h0), (1, .long (lN D))] := hl
  have hD := hD0.self (sz := s.heap.size)
  have hAs : ∀ q : Nat, va_A [(h0, .inr (0, [.ref c0, .ref w0, .int (nI k), .int (nI n), .long (pt_mk n), .int cl, .int su])), (c0, .inl (kc, 512, .inr (.inl fc))), (w0, .inl (kw, 512, .inr (.inl fv)))] s.heap.size q → s0.heap.size ≤ q := pt_As hD0 hext.2.1
  generalize hAe : va_A [(h0, .inr (0, [.ref c0, .ref w0, .int (nI k), .int (nI n), .long (pt_mk n), .int cl, .int su])), (c0, .inl (kc, 512, .inr (.inl fc))), (w0, .inl (kw, 512, .inr (.inl fv)))] s.heap.size = A at hD hAs ⊢
  have hA : ∀ q : Nat, s.heap.size ≤ q → A q := fun q h => by rw [← hAe]; exact Or.inr h
  have hS : va_S A s.heap s.heap [] := va_S.rf
  have hP : va_P (dC, dI) vwCl [(h0, .inr (0, [.ref c0, .ref w0, .int (nI k), .int (nI n), .long (pt_mk n), .int cl, .int su])), (c0, .inl (kc, 512, .inr (.inl fc))), (w0, .inl (kw, 512, .inr (.inl fv)))] s.heap := hP
  generalize hQ : pt_TQ below "java/lang/IllegalStateException" (fun st t => va_P (dC, dI) vwCl [(h0, .inr (0, [.ref c0, .ref w0, .int (nI k), .int (nI n), .long (pt_mk n), .int r, .int su])), (c0, .inl (kc, 512, .inr (.inl fc))), (w0, .inl (kw, 512, .inr (.inl fv)))] t.heap ∧ va_K (dC, dI) vwCl [(kc, .long), (kw, .long)] t ∧ va_D A [(h0, .inr (0, [.ref c0, .ref w0, .int (nI k), .int (nI n), .long (pt_mk n), .int r, .int su])), (c0, .inl (kc, 512, .inr (.inl fc))), (w0, .inl (kw, 512, .inr (.inl fv)))] ∧ va_F A st t) s 1 6 A = Q
  refine lv_lload_n hx hb dX0_signs_0 rfl (lv_at hl 1 rfl) ?_
  refine lv_lconst (v := 0) hx hb dX0_signs_1 (by decide) ?_
  refine W.lcmp hx hb dX0_signs_2 ?_
  refine lv_if_ge (tgt := 16) hx hb dX0_signs_3 (by decide) (fun h1 => ?_) (fun h1 => absurd ((lg_cmp_ge _ _).mpr ((pk_lLE (a := 0) (by decide) hDb).mpr (Nat.zero_le _))) h1)
  refine lv_lconst (v := 0) hx hb dX0_signs_16 (by decide) ?_
  refine lv_lstore_n (lv' := [(3, .long 0), (0, .ref h0), (1, .long (lN D))]) hx hb dX0_signs_17 rfl hl (by decide) rfl (fun ls hl => ?_)
  refine lv_lconst (v := 0) hx hb dX0_signs_18 (by decide) ?_
  refine lv_lstore (lv' := [(5, .long 0), (3, .long 0), (0, .ref h0), (1, .long (lN D))]) hx hb dX0_signs_19 hl (by decide) rfl (fun ls hl => ?_)
  refine lv_lload_n hx hb dX0_signs_21 rfl (lv_at hl 3 rfl) ?_
  refine lv_lstore (lv' := [(7, .long (lN D)), (5, .long 0), (3, .long 0), (0, .ref h0), (1, .long (lN D))]) hx hb dX0_signs_22 hl (by decide) rfl (fun ls hl => ?_)
  refine lv_iconst (v := 0) hx hb dX0_signs_24 (by decide) ?_
  refine lv_istore (lv' := [(9, .int 0), (7, .long (lN D)), (5, .long 0), (3, .long 0), (0, .ref h0), (1, .long (lN D))]) hx hb dX0_signs_25 hl (by decide) rfl (fun ls hl => ?_)
  have loop : ∀ (d i : Nat) (ls : Array Slot), 40 - i = d → i ≤ 40 → lv_has ls 12 [(9, .int (nI i)), (7, .long (lN (D / 3 ^ i))), (5, .long (pt_sw D i)), (3, .long (pt_sc D i)), (0, .ref h0), (1, .long (lN D))] → W p l e (headSpec wsX0_signs ({ frames := 7, cells := 1, slots := 6, locals := 107 })).room s m args below meth c s.heap [] 0 0 Q (F0 m 27 ls []) := by
    intro d
    induction d with
    | zero =>
      intro i ls hd hi hl
      obtain rfl : i = 40 := by omega
      refine lv_iload hx hb dX0_signs_27 (lv_at hl 0 rfl) ?_
      refine lv_bipush (v := 40) hx hb dX0_signs_29 (by decide) ?_
      refine lv_icmp_ge (tgt := 88) hx hb dX0_signs_31 (by decide) (fun h1 => ?_) (fun h1 => absurd (nI_le (a := 40) (b := 40) (by decide) (by decide)) h1)
      refine lv_aload_n hx hb dX0_signs_88 rfl (lv_at hl 4 rfl) ?_
      refine lv_lload_n hx hb dX0_signs_89 rfl (lv_at hl 3 rfl) ?_
      refine lv_aload_n hx hb dX0_signs_90 rfl (lv_at hl 4 rfl) ?_
      refine va_get (D := (dC, dI)) (ci := 0) (v := .long (pt_mk n)) (C := RX0) (T := TX0) (N := 7) hx hb hts (fun w h => List.mem_cons_of_mem _ (pt_wsX0 w h)) hown hK hP 0 rfl rfl 4 (by decide) (hts _ (List.mem_cons_of_mem _ pw36)) (fun _ h9 => h9) rfl dX0_signs_91 ?_
      refine lv_land hx hb dX0_signs_94 ?_
      refine lv_lload hx hb dX0_signs_95 (lv_at hl 2 rfl) ?_
      refine lv_aload_n hx hb dX0_signs_97 rfl (lv_at hl 4 rfl) ?_
      refine va_get (D := (dC, dI)) (ci := 0) (v := .long (pt_mk n)) (C := RX0) (T := TX0) (N := 7) hx hb hts (fun w h => List.mem_cons_of_mem _ (pt_wsX0 w h)) hown hK hP 0 rfl rfl 4 (by decide) (hts _ (List.mem_cons_of_mem _ pw36)) (fun _ h9 => h9) rfl dX0_signs_98 ?_
      refine lv_land hx hb dX0_signs_101 ?_
      rw [← hQ, ← hAe]
      exact pt_out (pt_runT (As := [.long ((pt_sc D 40) &&& (pt_mk n)), .long ((pt_sw D 40) &&& (pt_mk n))]) (rest := []) ⟨hx, hb, hml, hown, hts⟩ (t_append l hl9 dC dI s0 h0X h0 c0 w0 kc kw k n fc fv cl su (pt_sc D 40 &&& pt_mk n) (pt_sw D 40 &&& pt_mk n) s.heap.size r hrf) (cwV 2 hts (pt_gV pw79 pw80 pw2 pw17 pw81) rfl rfl rfl (by decide +kernel) ⟨Nat.le_of_ble_eq_true rfl, Nat.le_of_ble_eq_true rfl⟩) ⟨fun a U g mk q => by obtain ⟨q0, q1, qP, qK, qD, qX⟩ := q; exact ⟨q0, q1, qP, va_K.moved (u := U) (U := U.calling g mk a) (Vm.Alike.refl U.vm) qK, qD, qX⟩, va_recv hK hP (ci := 0) (q0 := 0) rfl rfl, fun U hU hW => ⟨rfl, by rw [hU], by rw [hU]; exact hP, va_K.moved hW.alike hK, hD0, hext.same hU hW⟩⟩ rfl rfl hl.1 rfl (lv_room (Nat.le_of_ble_eq_true rfl)) dX0_signs_102 ⟨by decide, by decide⟩) hnoh hlocks (fun st t t2 h1 h2 h3 h4 h5 => ⟨by rw [h4]; exact h3.1, va_K.moved (by rw [h5]; exact Vm.Alike.refl _) h3.2.1, h3.2.2.1, pt_F_same h1 h4 h3.2.2.2⟩) t_nil (fun _ h => h) (by decide) (by decide)
    | succ d ih =>
      intro i ls hd hi hl
      have hDi : D / 3 ^ i < 2 ^ 63 := Nat.lt_of_le_of_lt (Nat.div_le_self _ _) hDb
      refine lv_iload hx hb dX0_signs_27 (lv_at hl 0 rfl) ?_
      refine lv_bipush (v := 40) hx hb dX0_signs_29 (by decide) ?_
      refine lv_icmp_ge (tgt := 88) hx hb dX0_signs_31 (by decide) (fun h1 => absurd h1 (nI_ge (b := 40) (by omega) (by decide))) (fun h1 => ?_)
      refine lv_lload hx hb dX0_signs_34 (lv_at hl 1 rfl) ?_
      refine lv_ldc2 (v := 3) hx hb hown (hts _ (List.mem_cons_of_mem _ pw94)) dX0_signs_36 ?_
      refine lv_lrem hx hb dX0_signs_39 (by decide) ?_
      rw [show lN (D / 3 ^ i) - lN (D / 3 ^ i) / 3 * 3 = lN (D / 3 ^ i % 3) from pk_lRem (b := 3) hDi (by decide) (by decide)]
      refine lv_lstore (lv' := [(10, .long (lN (D / 3 ^ i % 3))), (9, .int (nI i)), (7, .long (lN (D / 3 ^ i))), (5, .long (pt_sw D i)), (3, .long (pt_sc D i)), (0, .ref h0), (1, .long (lN D))]) hx hb dX0_signs_40 hl (by decide) rfl (fun ls hl => ?_)
      refine lv_lload hx hb dX0_signs_42 (lv_at hl 0 rfl) ?_
      refine lv_ldc2 (v := 2) hx hb hown (hts _ (List.mem_cons_of_mem _ pw95)) dX0_signs_44 ?_
      refine W.lcmp hx hb dX0_signs_47 ?_
      refine lv_if_eq (tgt := 58) hx hb dX0_signs_48 (by decide) (fun h2 => ?_) (fun h2 => ?_)
      · refine lv_lload hx hb dX0_signs_58 (lv_at hl 0 rfl) ?_
        refine lv_lconst (v := 1) hx hb dX0_signs_60 (by decide) ?_
        refine W.lcmp hx hb dX0_signs_61 ?_
        refine lv_if_ne (tgt := 74) hx hb dX0_signs_62 (by decide) (fun h3 => ?_) (fun h3 => ?_)
        · refine lv_lload hx hb dX0_signs_74 (lv_at hl 2 rfl) ?_
          refine lv_ldc2 (v := 3) hx hb hown (hts _ (List.mem_cons_of_mem _ pw94)) dX0_signs_76 ?_
          refine lv_ldiv hx hb dX0_signs_79 (by decide) ?_
          rw [show lN (D / 3 ^ i) / 3 = lN (D / 3 ^ (i + 1)) from (pk_lDiv (b := 3) hDi (by decide) (by decide)).trans (congrArg lN (by rw [Nat.div_div_eq_div_mul, Nat.pow_succ]))]
          refine lv_lstore (lv' := [(7, .long (lN (D / 3 ^ (i + 1)))), (10, .long (lN (D / 3 ^ i % 3))), (9, .int (nI i)), (5, .long (pt_sw D i)), (3, .long (pt_sc D i)), (0, .ref h0), (1, .long (lN D))]) hx hb dX0_signs_80 hl (by decide) rfl (fun ls hl => ?_)
          refine lv_iinc (v := nI (i + 1)) (lv' := [(9, .int (nI (i + 1))), (7, .long (lN (D / 3 ^ (i + 1)))), (10, .long (lN (D / 3 ^ i % 3))), (5, .long (pt_sw D i)), (3, .long (pt_sc D i)), (0, .ref h0), (1, .long (lN D))]) hx hb dX0_signs_82 hl (k := 2) rfl (by rw [nI_succ]; rfl) (by decide) rfl (fun ls hl => ?_)
          refine lv_goto (tgt := 27) hx hb dX0_signs_85 (by decide) ?_
          have hl := lv_sub hl [0, 1, 3, 4, 5, 6] rfl
          have hl : lv_has ls 12 [(9, .int (nI (i + 1))), (7, .long (lN (D / 3 ^ (i + 1)))), (5, .long (pt_sw D (i + 1))), (3, .long (pt_sc D (i + 1))), (0, .ref h0), (1, .long (lN D))] := by
            rw [show pt_sw D (i + 1) = pt_sw D i from if_neg (fun z => h3 (pt_cmp0.mpr (by rw [z]; rfl))), show pt_sc D (i + 1) = pt_sc D i from if_pos ((pk_lEQ (b := 2) (by omega) (by decide)).mp (pt_cmp0.mp h2))]
            exact hl
          exact ih (i + 1) ls (by omega) (by omega) hl
        · refine lv_lload hx hb dX0_signs_65 (lv_at hl 3 rfl) ?_
          refine lv_lconst (v := 1) hx hb dX0_signs_67 (by decide) ?_
          refine lv_iload hx hb dX0_signs_68 (lv_at hl 1 rfl) ?_
          refine lv_lshl (v := pt_shl 1 (nI i)) hx hb dX0_signs_70 rfl ?_
          refine lv_lor hx hb dX0_signs_71 ?_
          refine lv_lstore (lv' := [(5, .long ((pt_sw D i) ||| (pt_shl 1 (nI i)))), (10, .long (lN (D / 3 ^ i % 3))), (9, .int (nI i)), (7, .long (lN (D / 3 ^ i))), (3, .long (pt_sc D i)), (0, .ref h0), (1, .long (lN D))]) hx hb dX0_signs_72 hl (by decide) rfl (fun ls hl => ?_)
          refine lv_lload hx hb dX0_signs_74 (lv_at hl 3 rfl) ?_
          refine lv_ldc2 (v := 3) hx hb hown (hts _ (List.mem_cons_of_mem _ pw94)) dX0_signs_76 ?_
          refine lv_ldiv hx hb dX0_signs_79 (by decide) ?_
          rw [show lN (D / 3 ^ i) / 3 = lN (D / 3 ^ (i + 1)) from (pk_lDiv (b := 3) hDi (by decide) (by decide)).trans (congrArg lN (by rw [Nat.div_div_eq_div_mul, Nat.pow_succ]))]
          refine lv_lstore (lv' := [(7, .long (lN (D / 3 ^ (i + 1)))), (5, .long ((pt_sw D i) ||| (pt_shl 1 (nI i)))), (10, .long (lN (D / 3 ^ i % 3))), (9, .int (nI i)), (3, .long (pt_sc D i)), (0, .ref h0), (1, .long (lN D))]) hx hb dX0_signs_80 hl (by decide) rfl (fun ls hl => ?_)
          refine lv_iinc (v := nI (i + 1)) (lv' := [(9, .int (nI (i + 1))), (7, .long (lN (D / 3 ^ (i + 1)))), (5, .long ((pt_sw D i) ||| (pt_shl 1 (nI i)))), (10, .long (lN (D / 3 ^ i % 3))), (3, .long (pt_sc D i)), (0, .ref h0), (1, .long (lN D))]) hx hb dX0_signs_82 hl (k := 3) rfl (by rw [nI_succ]; rfl) (by decide) rfl (fun ls hl => ?_)
          refine lv_goto (tgt := 27) hx hb dX0_signs_85 (by decide) ?_
          have hl := lv_sub hl [0, 1, 2, 4, 5, 6] rfl
          have hl : lv_has ls 12 [(9, .int (nI (i + 1))), (7, .long (lN (D / 3 ^ (i + 1)))), (5, .long (pt_sw D (i + 1))), (3, .long (pt_sc D (i + 1))), (0, .ref h0), (1, .long (lN D))] := by
            rw [show pt_sw D (i + 1) = (pt_sw D i) ||| (pt_shl 1 (nI i)) from if_pos ((pk_lEQ (b := 1) (by omega) (by decide)).mp (pt_cmp0.mp h3)), show pt_sc D (i + 1) = pt_sc D i from if_pos ((pk_lEQ (b := 2) (by omega) (by decide)).mp (pt_cmp0.mp h2))]
            exact hl
          exact ih (i + 1) ls (by omega) (by omega) hl
      · refine lv_lload_n hx hb dX0_signs_51 rfl (lv_at hl 4 rfl) ?_
        refine lv_lconst (v := 1) hx hb dX0_signs_52 (by decide) ?_
        refine lv_iload hx hb dX0_signs_53 (lv_at hl 1 rfl) ?_
        refine lv_lshl (v := pt_shl 1 (nI i)) hx hb dX0_signs_55 rfl ?_
        refine lv_lor hx hb dX0_signs_56 ?_
        refine lv_lstore_n (lv' := [(3, .long ((pt_sc D i) ||| (pt_shl 1 (nI i)))), (10, .long (lN (D / 3 ^ i % 3))), (9, .int (nI i)), (7, .long (lN (D / 3 ^ i))), (5, .long (pt_sw D i)), (0, .ref h0), (1, .long (lN D))]) hx hb dX0_signs_57 rfl hl (by decide) rfl (fun ls hl => ?_)
        refine lv_lload hx hb dX0_signs_58 (lv_at hl 1 rfl) ?_
        refine lv_lconst (v := 1) hx hb dX0_signs_60 (by decide) ?_
        refine W.lcmp hx hb dX0_signs_61 ?_
        refine lv_if_ne (tgt := 74) hx hb dX0_signs_62 (by decide) (fun h3 => ?_) (fun h3 => ?_)
        · refine lv_lload hx hb dX0_signs_74 (lv_at hl 3 rfl) ?_
          refine lv_ldc2 (v := 3) hx hb hown (hts _ (List.mem_cons_of_mem _ pw94)) dX0_signs_76 ?_
          refine lv_ldiv hx hb dX0_signs_79 (by decide) ?_
          rw [show lN (D / 3 ^ i) / 3 = lN (D / 3 ^ (i + 1)) from (pk_lDiv (b := 3) hDi (by decide) (by decide)).trans (congrArg lN (by rw [Nat.div_div_eq_div_mul, Nat.pow_succ]))]
          refine lv_lstore (lv' := [(7, .long (lN (D / 3 ^ (i + 1)))), (3, .long ((pt_sc D i) ||| (pt_shl 1 (nI i)))), (10, .long (lN (D / 3 ^ i % 3))), (9, .int (nI i)), (5, .long (pt_sw D i)), (0, .ref h0), (1, .long (lN D))]) hx hb dX0_signs_80 hl (by decide) rfl (fun ls hl => ?_)
          refine lv_iinc (v := nI (i + 1)) (lv' := [(9, .int (nI (i + 1))), (7, .long (lN (D / 3 ^ (i + 1)))), (3, .long ((pt_sc D i) ||| (pt_shl 1 (nI i)))), (10, .long (lN (D / 3 ^ i % 3))), (5, .long (pt_sw D i)), (0, .ref h0), (1, .long (lN D))]) hx hb dX0_signs_82 hl (k := 3) rfl (by rw [nI_succ]; rfl) (by decide) rfl (fun ls hl => ?_)
          refine lv_goto (tgt := 27) hx hb dX0_signs_85 (by decide) ?_
          have hl := lv_sub hl [0, 1, 4, 2, 5, 6] rfl
          have hl : lv_has ls 12 [(9, .int (nI (i + 1))), (7, .long (lN (D / 3 ^ (i + 1)))), (5, .long (pt_sw D (i + 1))), (3, .long (pt_sc D (i + 1))), (0, .ref h0), (1, .long (lN D))] := by
            rw [show pt_sw D (i + 1) = pt_sw D i from if_neg (fun z => h3 (pt_cmp0.mpr (by rw [z]; rfl))), show pt_sc D (i + 1) = (pt_sc D i) ||| (pt_shl 1 (nI i)) from if_neg (fun z => h2 (pt_cmp0.mpr (by rw [z]; rfl)))]
            exact hl
          exact ih (i + 1) ls (by omega) (by omega) hl
        · refine lv_lload hx hb dX0_signs_65 (lv_at hl 4 rfl) ?_
          refine lv_lconst (v := 1) hx hb dX0_signs_67 (by decide) ?_
          refine lv_iload hx hb dX0_signs_68 (lv_at hl 2 rfl) ?_
          refine lv_lshl (v := pt_shl 1 (nI i)) hx hb dX0_signs_70 rfl ?_
          refine lv_lor hx hb dX0_signs_71 ?_
          refine lv_lstore (lv' := [(5, .long ((pt_sw D i) ||| (pt_shl 1 (nI i)))), (3, .long ((pt_sc D i) ||| (pt_shl 1 (nI i)))), (10, .long (lN (D / 3 ^ i % 3))), (9, .int (nI i)), (7, .long (lN (D / 3 ^ i))), (0, .ref h0), (1, .long (lN D))]) hx hb dX0_signs_72 hl (by decide) rfl (fun ls hl => ?_)
          refine lv_lload hx hb dX0_signs_74 (lv_at hl 4 rfl) ?_
          refine lv_ldc2 (v := 3) hx hb hown (hts _ (List.mem_cons_of_mem _ pw94)) dX0_signs_76 ?_
          refine lv_ldiv hx hb dX0_signs_79 (by decide) ?_
          rw [show lN (D / 3 ^ i) / 3 = lN (D / 3 ^ (i + 1)) from (pk_lDiv (b := 3) hDi (by decide) (by decide)).trans (congrArg lN (by rw [Nat.div_div_eq_div_mul, Nat.pow_succ]))]
          refine lv_lstore (lv' := [(7, .long (lN (D / 3 ^ (i + 1)))), (5, .long ((pt_sw D i) ||| (pt_shl 1 (nI i)))), (3, .long ((pt_sc D i) ||| (pt_shl 1 (nI i)))), (10, .long (lN (D / 3 ^ i % 3))), (9, .int (nI i)), (0, .ref h0), (1, .long (lN D))]) hx hb dX0_signs_80 hl (by decide) rfl (fun ls hl => ?_)
          refine lv_iinc (v := nI (i + 1)) (lv' := [(9, .int (nI (i + 1))), (7, .long (lN (D / 3 ^ (i + 1)))), (5, .long ((pt_sw D i) ||| (pt_shl 1 (nI i)))), (3, .long ((pt_sc D i) ||| (pt_shl 1 (nI i)))), (10, .long (lN (D / 3 ^ i % 3))), (0, .ref h0), (1, .long (lN D))]) hx hb dX0_signs_82 hl (k := 4) rfl (by rw [nI_succ]; rfl) (by decide) rfl (fun ls hl => ?_)
          refine lv_goto (tgt := 27) hx hb dX0_signs_85 (by decide) ?_
          have hl := lv_sub hl [0, 1, 2, 3, 5, 6] rfl
          have hl : lv_has ls 12 [(9, .int (nI (i + 1))), (7, .long (lN (D / 3 ^ (i + 1)))), (5, .long (pt_sw D (i + 1))), (3, .long (pt_sc D (i + 1))), (0, .ref h0), (1, .long (lN D))] := by
            rw [show pt_sw D (i + 1) = (pt_sw D i) ||| (pt_shl 1 (nI i)) from if_pos ((pk_lEQ (b := 1) (by omega) (by decide)).mp (pt_cmp0.mp h3)), show pt_sc D (i + 1) = (pt_sc D i) ||| (pt_shl 1 (nI i)) from if_neg (fun z => h2 (pt_cmp0.mpr (by rw [z]; rfl)))]
            exact hl
          exact ih (i + 1) ls (by omega) (by omega) hl
  have hl : lv_has ls 12 [(9, .int (nI 0)), (7, .long (lN (D / 3 ^ 0))), (5, .long (pt_sw D 0)), (3, .long (pt_sc D 0)), (0, .ref h0), (1, .long (lN D))] := by
    rw [Nat.pow_zero, Nat.div_one]
    exact lv_sub hl [0, 1, 2, 3, 4, 5] rfl
  exact loop 40 0 ls (by omega) (by omega) hl
set_option maxHeartbeats 4000000 in
set_option maxRecDepth 100000 in
/-- signs(digits): bad -/
theorem t_signs_bad (l : Launch) (hl9 : l.stackTraces = false) (dC : Nat → ClassId) (dI : Nat → Nat → Nat) (s0 : State) (h0X : pt_X s0) (h0 c0 w0 : Nat) (kc kw : ClassId) (k n : Nat) (fc fv : Nat → Int64) (cl su : Int32) (x : Int64) (sz : Nat) (hx0 : x < 0) : pt_Thr l yX0_signs wsX0_signs ({ frames := 6, cells := 1, slots := 6, locals := 82 }) (va_Pc [.ref h0, .long x] (fun U => U.heap.size = sz ∧ va_P (dC, dI) vwCl [(h0, .inr (0, [.ref c0, .ref w0, .int (nI k), .int (nI n), .long (pt_mk n), .int cl, .int su])), (c0, .inl (kc, 512, .inr (.inl fc))), (w0, .inl (kw, 512, .inr (.inl fv)))] U.heap ∧ va_K (dC, dI) vwCl [(kc, .long), (kw, .long)] U ∧ va_D (fun q => s0.heap.size ≤ q) [(h0, .inr (0, [.ref c0, .ref w0, .int (nI k), .int (nI n), .long (pt_mk n), .int cl, .int su])), (c0, .inl (kc, 512, .inr (.inl fc))), (w0, .inl (kw, 512, .inr (.inl fv)))] ∧ pt_ext s0 U)) "java/lang/IllegalArgumentException" (fun st t => va_P (dC, dI) vwCl [(h0, .inr (0, [.ref c0, .ref w0, .int (nI k), .int (nI n), .long (pt_mk n), .int cl, .int su])), (c0, .inl (kc, 512, .inr (.inl fc))), (w0, .inl (kw, 512, .inr (.inl fv)))] t.heap ∧ va_K (dC, dI) vwCl [(kc, .long), (kw, .long)] t ∧ va_D (va_A [(h0, .inr (0, [.ref c0, .ref w0, .int (nI k), .int (nI n), .long (pt_mk n), .int cl, .int su])), (c0, .inl (kc, 512, .inr (.inl fc))), (w0, .inl (kw, 512, .inr (.inl fv)))] sz) [(h0, .inr (0, [.ref c0, .ref w0, .int (nI k), .int (nI n), .long (pt_mk n), .int cl, .int su])), (c0, .inl (kc, 512, .inr (.inl fc))), (w0, .inl (kw, 512, .inr (.inl fv)))] ∧ va_F (va_A [(h0, .inr (0, [.ref c0, .ref w0, .int (nI k), .int (nI n), .long (pt_mk n), .int cl, .int su])), (c0, .inl (kc, 512, .inr (.inl fc))), (w0, .inl (kw, 512, .inr (.inl fv)))] sz) st t) 1 6 (va_A [(h0, .inr (0, [.ref c0, .ref w0, .int (nI k), .int (nI n), .long (pt_mk n), .int cl, .int su])), (c0, .inl (kc, 512, .inr (.inl fc))), (w0, .inl (kw, 512, .inr (.inl fv)))] sz) := by
  refine pt_Thr_ofW (cc := cX0_signs) (maxL := 12) (ret := (some .int)) (by decide) rfl ?_
  intro p e s m args below meth c s₁ B hml hnoh hv
  obtain ⟨ha, hsz, hP, hK, hD0, hext⟩ := hv
  subst hsz
  have hx := B.exec
  have hb := B.bytes
  have hr := B.returns
  have hts := atoms_spec (ws := wsX0_signs) B.pre
  have hown : s.vm.findClass RX0 = some m.cls := findClass_of_methodNamed B.named
  have hlocks := B.notSynchronized
  have hl := lv_entry ([.ref h0, .long x]) (n := 12) (Nat.le_of_ble_eq_true rfl)
  refine W.eq (show entryFrame m args 12 = entryFrame m ([.ref h0, .long x] : List Value).toArray 12 by rw [ha]) ?_
  rw [lg_entry_eq]
  generalize (lg_sl ([.ref h0, .long x]) ++ List.replicate (12 - (lg_sl ([.ref h0, .long x])).length) Slot.unset).toArray = ls at hl ⊢
  have hl : lv_has ls 12 [(0, .ref h0), (1, .long x)] := hl
  have hD := hD0.self (sz := s.heap.size)
  have hAs : ∀ q : Nat, va_A [(h0, .inr (0, [.ref c0, .ref w0, .int (nI k), .int (nI n), .long (pt_mk n), .int cl, .int su])), (c0, .inl (kc, 512, .inr (.inl fc))), (w0, .inl (kw, 512, .inr (.inl fv)))] s.heap.size q → s0.heap.size ≤ q := pt_As hD0 hext.2.1
  generalize hAe : va_A [(h0, .inr (0, [.ref c0, .ref w0, .int (nI k), .int (nI n), .long (pt_mk n), .int cl, .int su])), (c0, .inl (kc, 512, .inr (.inl fc))), (w0, .inl (kw, 512, .inr (.inl fv)))] s.heap.size = A at hD hAs ⊢
  have hA : ∀ q : Nat, s.heap.size ≤ q → A q := fun q h => by rw [← hAe]; exact Or.inr h
  have hS : va_S A s.heap s.heap [] := va_S.rf
  have hP : va_P (dC, dI) vwCl [(h0, .inr (0, [.ref c0, .ref w0, .int (nI k), .int (nI n), .long (pt_mk n), .int cl, .int su])), (c0, .inl (kc, 512, .inr (.inl fc))), (w0, .inl (kw, 512, .inr (.inl fv)))] s.heap := hP
  generalize hQ : pt_TQ below "java/lang/IllegalArgumentException" (fun st t => va_P (dC, dI) vwCl [(h0, .inr (0, [.ref c0, .ref w0, .int (nI k), .int (nI n), .long (pt_mk n), .int cl, .int su])), (c0, .inl (kc, 512, .inr (.inl fc))), (w0, .inl (kw, 512, .inr (.inl fv)))] t.heap ∧ va_K (dC, dI) vwCl [(kc, .long), (kw, .long)] t ∧ va_D A [(h0, .inr (0, [.ref c0, .ref w0, .int (nI k), .int (nI n), .long (pt_mk n), .int cl, .int su])), (c0, .inl (kc, 512, .inr (.inl fc))), (w0, .inl (kw, 512, .inr (.inl fv)))] ∧ va_F A st t) s 1 6 A = Q
  refine lv_lload_n hx hb dX0_signs_0 rfl (lv_at hl 1 rfl) ?_
  refine lv_lconst (v := 0) hx hb dX0_signs_1 (by decide) ?_
  refine W.lcmp hx hb dX0_signs_2 ?_
  refine lv_if_ge (tgt := 16) hx hb dX0_signs_3 (by decide) (fun h1 => absurd ((lg_cmp_ge _ _).mp h1) (Int64.not_le.mpr hx0)) (fun h1 => ?_)
  obtain ⟨sa, hstr⟩ := h0X.2.1 52 "the digits are below 0" (by decide)
  rw [← hQ]
  exact pt_throwS (own := RX0) (cls := "java/lang/IllegalArgumentException") (text := "the digits are below 0") (names := ["java/lang/RuntimeException", "java/lang/Exception"]) (ik := 37) (is := 52) (ic := 41) (sa := sa) hx hb hl9 hown (by decide) (by decide) (fun U hU hV w hw => pt_X_at h0X (hext.on hS hAs hU hV) w (pt_xw_in_iae w hw) _) (vk_R.warm hext.1 hstr) (hl.1.trans hml.symm) dX0_signs_6 dX0_signs_9 dX0_signs_10 dX0_signs_12 dX0_signs_15 hnoh (by decide) (by decide) (by decide) (by decide) hlocks (fun t hW hz hk => ⟨hP.kept (fun k q hq => hk _ ((hP k q hq).lt)), va_K.moved hW.alike hK, hD, pt_S_thrown hS hz hk⟩) hS.2.2 (by decide) (by decide)
