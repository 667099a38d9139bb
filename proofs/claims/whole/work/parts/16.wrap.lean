set_option maxHeartbeats 4000000 in
set_option maxRecDepth 100000 in
/-- the law: clear -/
theorem c_Lclear (l : Launch) (hl9 : l.stackTraces = false) (dC : Nat → ClassId) (dI : Nat → Nat → Nat) (s0 : State) (h0X : pt_X s0) (h0 c0 w0 : Nat) (kc kw : ClassId) (k n : Nat) (fc fv : Nat → Int64) (cl su : Int32) (x : Int32) (sz : Nat)  : Met l yL_clear wsL_clear ({ frames := 7, cells := 1, slots := 6, locals := 103 }) (va_Pc [.ref h0, .int x] (fun U => U.heap.size = sz ∧ va_P (dC, dI) vwCl [(h0, .inr (0, [.ref c0, .ref w0, .int (nI k), .int (nI n), .long (pt_mk n), .int cl, .int su])), (c0, .inl (kc, 512, .inr (.inl fc))), (w0, .inl (kw, 512, .inr (.inl fv)))] U.heap ∧ va_K (dC, dI) vwCl [(kc, .long), (kw, .long)] U ∧ va_D (fun q => s0.heap.size ≤ q) [(h0, .inr (0, [.ref c0, .ref w0, .int (nI k), .int (nI n), .long (pt_mk n), .int cl, .int su])), (c0, .inl (kc, 512, .inr (.inl fc))), (w0, .inl (kw, 512, .inr (.inl fv)))] ∧ pt_ext s0 U)) (va_Qi (fun (r : Int32) u => pt_Rclear k n fc fv cl su x r u) (fun (u : pt_st) (t : State) => match u with | (k2, n2, fc2, fv2, cl2, su2) => va_P (dC, dI) vwCl [(h0, .inr (0, [.ref c0, .ref w0, .int (nI k2), .int (nI n2), .long (pt_mk n2), .int cl2, .int su2])), (c0, .inl (kc, 512, .inr (.inl fc2))), (w0, .inl (kw, 512, .inr (.inl fv2)))] t.heap ∧ va_K (dC, dI) vwCl [(kc, .long), (kw, .long)] t ∧ va_D (va_A [(h0, .inr (0, [.ref c0, .ref w0, .int (nI k), .int (nI n), .long (pt_mk n), .int cl, .int su])), (c0, .inl (kc, 512, .inr (.inl fc))), (w0, .inl (kw, 512, .inr (.inl fv)))] sz) [(h0, .inr (0, [.ref c0, .ref w0, .int (nI k2), .int (nI n2), .long (pt_mk n2), .int cl2, .int su2])), (c0, .inl (kc, 512, .inr (.inl fc2))), (w0, .inl (kw, 512, .inr (.inl fv2)))]) (va_A [(h0, .inr (0, [.ref c0, .ref w0, .int (nI k), .int (nI n), .long (pt_mk n), .int cl, .int su])), (c0, .inl (kc, 512, .inr (.inl fc))), (w0, .inl (kw, 512, .inr (.inl fv)))] sz)) 1 6 (va_A [(h0, .inr (0, [.ref c0, .ref w0, .int (nI k), .int (nI n), .long (pt_mk n), .int cl, .int su])), (c0, .inl (kc, 512, .inr (.inl fc))), (w0, .inl (kw, 512, .inr (.inl fv)))] sz) := by
  refine va_MetW (hh := [(0, 5, 8, 13)]) (cc := cL_clear) (maxL := 3) (ret := (some .int)) (by decide) rfl ?_
  intro p e s m args below meth c s₁ B hml hv
  obtain ⟨ha, hsz, hP, hK, hD0, hext⟩ := hv
  subst hsz
  have hx := B.exec
  have hb := B.bytes
  have hr := B.returns
  have hts := atoms_spec (ws := wsL_clear) B.pre
  have hown : s.vm.findClass RL = some m.cls := findClass_of_methodNamed B.named
  have hlocks := B.notSynchronized
  have hl := lv_entry ([.ref h0, .int x]) (n := 3) (Nat.le_of_ble_eq_true rfl)
  refine W.eq (show entryFrame m args 3 = entryFrame m ([.ref h0, .int x] : List Value).toArray 3 by rw [ha]) ?_
  rw [lg_entry_eq]
  generalize (lg_sl ([.ref h0, .int x]) ++ List.replicate (3 - (lg_sl ([.ref h0, .int x])).length) Slot.unset).toArray = ls at hl ⊢
  have hl : lv_has ls 3 [(0, .ref h0), (1, .int x)] := hl
  have htab : c.exceptionTable.toList = tableOf [(0, 5, 8, 13)] := pt_table B (hts _ List.mem_cons_self)
  have hD := hD0.self (sz := s.heap.size)
  have hAs : ∀ q : Nat, va_A [(h0, .inr (0, [.ref c0, .ref w0, .int (nI k), .int (nI n), .long (pt_mk n), .int cl, .int su])), (c0, .inl (kc, 512, .inr (.inl fc))), (w0, .inl (kw, 512, .inr (.inl fv)))] s.heap.size q → s0.heap.size ≤ q := pt_As hD0 hext.2.1
  generalize hAe : va_A [(h0, .inr (0, [.ref c0, .ref w0, .int (nI k), .int (nI n), .long (pt_mk n), .int cl, .int su])), (c0, .inl (kc, 512, .inr (.inl fc))), (w0, .inl (kw, 512, .inr (.inl fv)))] s.heap.size = A at hD hAs ⊢
  have hA : ∀ q : Nat, s.heap.size ≤ q → A q := fun q h => by rw [← hAe]; exact Or.inr h
  have hS : va_S A s.heap s.heap [] := va_S.rf
  have hP : va_P (dC, dI) vwCl [(h0, .inr (0, [.ref c0, .ref w0, .int (nI k), .int (nI n), .long (pt_mk n), .int cl, .int su])), (c0, .inl (kc, 512, .inr (.inl fc))), (w0, .inl (kw, 512, .inr (.inl fv)))] s.heap := hP
  generalize hQ : MQ below (va_Qi (fun (r : Int32) u => pt_Rclear k n fc fv cl su x r u) (fun (u : pt_st) (t : State) => match u with | (k2, n2, fc2, fv2, cl2, su2) => va_P (dC, dI) vwCl [(h0, .inr (0, [.ref c0, .ref w0, .int (nI k2), .int (nI n2), .long (pt_mk n2), .int cl2, .int su2])), (c0, .inl (kc, 512, .inr (.inl fc2))), (w0, .inl (kw, 512, .inr (.inl fv2)))] t.heap ∧ va_K (dC, dI) vwCl [(kc, .long), (kw, .long)] t ∧ va_D A [(h0, .inr (0, [.ref c0, .ref w0, .int (nI k2), .int (nI n2), .long (pt_mk n2), .int cl2, .int su2])), (c0, .inl (kc, 512, .inr (.inl fc2))), (w0, .inl (kw, 512, .inr (.inl fv2)))]) A) args s 1 6 A = Q
  refine lv_aload_n hx hb dL_clear_0 rfl (lv_at hl 0 rfl) ?_
  refine lv_iload_n hx hb dL_clear_1 rfl (lv_at hl 1 rfl) ?_
  by_cases hbad : x < 1 ∨ ¬ x ≤ 64
  · have hPc := hP.sub (ws' := [(h0, .inr (0, [.ref c0, .ref w0, .int (nI k), .int (nI n), .long (pt_mk n), .int cl, .int su])), (c0, .inl (kc, 512, .inr (.inl fc))), (w0, .inl (kw, 512, .inr (.inl fv)))]) [0, 1, 2] rfl
    have hDc := hD.sub (ws' := [(h0, .inr (0, [.ref c0, .ref w0, .int (nI k), .int (nI n), .long (pt_mk n), .int cl, .int su])), (c0, .inl (kc, 512, .inr (.inl fc))), (w0, .inl (kw, 512, .inr (.inl fv)))]) [0, 1, 2] (by decide) rfl
    have hKc := hK.sub (tys' := [(kc, .long), (kw, .long)]) [0, 1] rfl
    have hFc := va_free (wc := [(h0, .inr (0, [.ref c0, .ref w0, .int (nI k), .int (nI n), .long (pt_mk n), .int cl, .int su])), (c0, .inl (kc, 512, .inr (.inl fc))), (w0, .inl (kw, 512, .inr (.inl fv)))]) hD hS hA [0, 1, 2] rfl
    refine pt_catch (own := RL) (name := "java/lang/IllegalArgumentException") (pt_runT (As := [.int x]) (rest := []) ⟨hx, hb, hml, hown, hts⟩ (t_clear l hl9 dC dI s0 h0X h0 c0 w0 kc kw k n fc fv cl su x s.heap.size hbad) (cwV 1 hts (pt_gV pw62 pw63 pw64 pw17 pw65) rfl rfl rfl (by decide +kernel) ⟨Nat.le_of_ble_eq_true rfl, Nat.le_of_ble_eq_true rfl⟩) ⟨fun a U g mk q => by obtain ⟨q0, q1, qP, qK, qD, qX⟩ := q; exact ⟨q0, q1, qP, va_K.moved (u := U) (U := U.calling g mk a) (Vm.Alike.refl U.vm) qK, qD, qX⟩, va_recv hK hP (ci := 0) (q0 := 0) rfl rfl, fun U hU hW => ⟨rfl, by rw [hU], by rw [hU]; exact hPc, va_K.moved hW.alike hKc, hDc.weaken (fun _ _ _ h => hAs _ h), hext.on2 hS hAs hU hW⟩⟩ rfl rfl hl.1 rfl (lv_room (Nat.le_of_ble_eq_true rfl)) dL_clear_2 ⟨by decide, by decide⟩) hown [] ⟨0, 5, 8, 13⟩ [] (by rw [htab]; rfl) (fun z hz => nomatch hz) (by decide) (by decide) (hts _ (List.mem_cons_of_mem _ pw61)) (pt_X_at h0X hext (.castable "java/lang/IllegalArgumentException" "java/lang/IllegalArgumentException") (by decide) _) (fun q st t H1 L h1 h2 h3 h4 hq hL => ?_)
    obtain ⟨hP1, hK1, hD1, hF1⟩ := hq
    rw [h3] at hP1
    obtain ⟨hS, hz1, hk1⟩ := pt_S_call hS hFc h1 h3 hF1 hL
    obtain ⟨hP, hD⟩ := va_join (wr := ([] : va_W)) (w1 := [(h0, .inr (0, [.ref c0, .ref w0, .int (nI k), .int (nI n), .long (pt_mk n), .int cl, .int su])), (c0, .inl (kc, 512, .inr (.inl fc))), (w0, .inl (kw, 512, .inr (.inl fv)))]) hP hD [0, 1, 2] [] rfl rfl (by decide) (by decide) hk1 hFc hP1 hD1
    generalize H1 = H at hP hS ⊢
    refine W.eq (g2 := F0 m 8 ls [.ref q]) rfl ?_
    refine lv_astore_n (lv' := [(2, .ref q), (0, .ref h0), (1, .int x)]) hx hb dL_clear_8 rfl hl (by decide) rfl (fun ls hl => ?_)
    refine lv_iconst (v := 1) hx hb dL_clear_9 (by decide) ?_
    rw [← hQ]
    refine W.widen (k := 1) (n := 6) (by omega) (by omega) ?_
    exact W.iret (v := 1) hx hb hr (fun t ht hW => ⟨⟨1, (k, n, fc, fv, cl, su), rfl, Or.inl ⟨hbad, rfl, rfl⟩, by rw [ht]; exact hP, va_K.moved hW.alike hK, hD⟩, hS.F ht⟩) hS.2.2 dL_clear_10
  obtain ⟨a, hn1, hn2, rfl⟩ := pt_len (fun z => hbad (Or.inl z)) (Classical.not_not.mp fun z => hbad (Or.inr z))
  have hPc := hP.sub (ws' := [(h0, .inr (0, [.ref c0, .ref w0, .int (nI k), .int (nI n), .long (pt_mk n), .int cl, .int su])), (c0, .inl (kc, 512, .inr (.inl fc))), (w0, .inl (kw, 512, .inr (.inl fv)))]) [0, 1, 2] rfl
  have hDc := hD.sub (ws' := [(h0, .inr (0, [.ref c0, .ref w0, .int (nI k), .int (nI n), .long (pt_mk n), .int cl, .int su])), (c0, .inl (kc, 512, .inr (.inl fc))), (w0, .inl (kw, 512, .inr (.inl fv)))]) [0, 1, 2] (by decide) rfl
  have hKc := hK.sub (tys' := [(kc, .long), (kw, .long)]) [0, 1] rfl
  have hFc := va_free (wc := [(h0, .inr (0, [.ref c0, .ref w0, .int (nI k), .int (nI n), .long (pt_mk n), .int cl, .int su])), (c0, .inl (kc, 512, .inr (.inl fc))), (w0, .inl (kw, 512, .inr (.inl fv)))]) hD hS hA [0, 1, 2] rfl
  refine va_callv (va_runV (As := [.int (nI a)]) (rest := []) ⟨hx, hb, hml, hown, hts⟩ (c_clear l dC dI h0 c0 w0 kc kw k n fc fv cl su a s.heap.size hn1 hn2) (cwV 1 hts (pt_gV pw62 pw63 pw64 pw17 pw65) rfl rfl rfl (by decide +kernel) ⟨Nat.le_of_ble_eq_true rfl, Nat.le_of_ble_eq_true rfl⟩) ⟨fun a U g mk q => by obtain ⟨q0, q1, qP, qK, qD⟩ := q; exact ⟨q0, q1, qP, va_K.moved (u := U) (U := U.calling g mk a) (Vm.Alike.refl U.vm) qK, qD⟩, va_recv hK hP (ci := 0) (q0 := 0) rfl rfl, fun U hU hW => ⟨rfl, by rw [hU], by rw [hU]; exact hPc, va_K.moved hW.alike hKc, hDc.weaken (fun _ _ _ _ => trivial)⟩⟩ rfl rfl hl.1 rfl (lv_room (Nat.le_of_ble_eq_true rfl)) dL_clear_2 ⟨Nat.zero_le _, Nat.zero_le _⟩) hS (fun q _ h => hFc q h) hFc (fun  u t H1 locs ht hvm hw hB hz1 hk1 hS => ?_)
  obtain ⟨hP1, hK1, hD1⟩ := hB
  rw [ht] at hP1
  obtain ⟨hP, hD⟩ := va_join (wr := ([] : va_W)) (w1 := [(h0, .inr (0, [.ref c0, .ref w0, .int 0, .int (nI a), .long (pt_mk a), .int cl, .int su])), (c0, .inl (kc, 512, .inr (.inl fc))), (w0, .inl (kw, 512, .inr (.inl fv)))]) hP hD [0, 1, 2] [] rfl rfl (by decide) (by decide) hk1 hFc hP1 hD1
  generalize H1 = H at hP hS ⊢
  have hP : va_P (dC, dI) vwCl [(h0, .inr (0, [.ref c0, .ref w0, .int 0, .int (nI a), .long (pt_mk a), .int cl, .int su])), (c0, .inl (kc, 512, .inr (.inl fc))), (w0, .inl (kw, 512, .inr (.inl fv)))] H := hP
  have hD : va_D A [(h0, .inr (0, [.ref c0, .ref w0, .int 0, .int (nI a), .long (pt_mk a), .int cl, .int su])), (c0, .inl (kc, 512, .inr (.inl fc))), (w0, .inl (kw, 512, .inr (.inl fv)))] := hD
  refine lv_goto (tgt := 11) hx hb dL_clear_5 (by decide) ?_
  refine lv_iconst (v := 0) hx hb dL_clear_11 (by decide) ?_
  rw [← hQ]
  refine W.widen (k := 1) (n := 6) (by omega) (by omega) ?_
  exact W.iret (v := 0) hx hb hr (fun t ht hW => ⟨⟨0, (0, a, fc, fv, cl, su), rfl, Or.inr ⟨a, hn1, hn2, rfl, rfl, rfl⟩, by rw [ht]; exact hP, va_K.moved hW.alike hK, hD⟩, hS.F ht⟩) hS.2.2 dL_clear_12
set_option maxHeartbeats 4000000 in
set_option maxRecDepth 100000 in
/-- the law: drop -/
theorem c_Ldrop (l : Launch) (hl9 : l.stackTraces = false) (dC : Nat → ClassId) (dI : Nat → Nat → Nat) (s0 : State) (h0X : pt_X s0) (h0 c0 w0 : Nat) (kc kw : ClassId) (k n : Nat) (fc fv : Nat → Int64) (cl su : Int32) (x : Int32) (sz : Nat) (hk : k ≤ 512) : Met l yL_drop wsL_drop ({ frames := 8, cells := 1, slots := 6, locals := 125 }) (va_Pc [.ref h0, .int x] (fun U => U.heap.size = sz ∧ va_P (dC, dI) vwCl [(h0, .inr (0, [.ref c0, .ref w0, .int (nI k), .int (nI n), .long (pt_mk n), .int cl, .int su])), (c0, .inl (kc, 512, .inr (.inl fc))), (w0, .inl (kw, 512, .inr (.inl fv)))] U.heap ∧ va_K (dC, dI) vwCl [(kc, .long), (kw, .long)] U ∧ va_D (fun q => s0.heap.size ≤ q) [(h0, .inr (0, [.ref c0, .ref w0, .int (nI k), .int (nI n), .long (pt_mk n), .int cl, .int su])), (c0, .inl (kc, 512, .inr (.inl fc))), (w0, .inl (kw, 512, .inr (.inl fv)))] ∧ pt_ext s0 U)) (va_Qi (fun (r : Int32) u => pt_Rdrop k n fc fv cl su x r u) (fun (u : pt_st) (t : State) => match u with | (k2, n2, fc2, fv2, cl2, su2) => va_P (dC, dI) vwCl [(h0, .inr (0, [.ref c0, .ref w0, .int (nI k2), .int (nI n2), .long (pt_mk n2), .int cl2, .int su2])), (c0, .inl (kc, 512, .inr (.inl fc2))), (w0, .inl (kw, 512, .inr (.inl fv2)))] t.heap ∧ va_K (dC, dI) vwCl [(kc, .long), (kw, .long)] t ∧ va_D (va_A [(h0, .inr (0, [.ref c0, .ref w0, .int (nI k), .int (nI n), .long (pt_mk n), .int cl, .int su])), (c0, .inl (kc, 512, .inr (.inl fc))), (w0, .inl (kw, 512, .inr (.inl fv)))] sz) [(h0, .inr (0, [.ref c0, .ref w0, .int (nI k2), .int (nI n2), .long (pt_mk n2), .int cl2, .int su2])), (c0, .inl (kc, 512, .inr (.inl fc2))), (w0, .inl (kw, 512, .inr (.inl fv2)))]) (va_A [(h0, .inr (0, [.ref c0, .ref w0, .int (nI k), .int (nI n), .long (pt_mk n), .int cl, .int su])), (c0, .inl (kc, 512, .inr (.inl fc))), (w0, .inl (kw, 512, .inr (.inl fv)))] sz)) 1 6 (va_A [(h0, .inr (0, [.ref c0, .ref w0, .int (nI k), .int (nI n), .long (pt_mk n), .int cl, .int su])), (c0, .inl (kc, 512, .inr (.inl fc))), (w0, .inl (kw, 512, .inr (.inl fv)))] sz) := by
  refine va_MetW (hh := [(0, 5, 8, 28)]) (cc := cL_drop) (maxL := 3) (ret := (some .int)) (by decide) rfl ?_
  intro p e s m args below meth c s₁ B hml hv
  obtain ⟨ha, hsz, hP, hK, hD0, hext⟩ := hv
  subst hsz
  have hx := B.exec
  have hb := B.bytes
  have hr := B.returns
  have hts := atoms_spec (ws := wsL_drop) B.pre
  have hown : s.vm.findClass RL = some m.cls := findClass_of_methodNamed B.named
  have hlocks := B.notSynchronized
  have hl := lv_entry ([.ref h0, .int x]) (n := 3) (Nat.le_of_ble_eq_true rfl)
  refine W.eq (show entryFrame m args 3 = entryFrame m ([.ref h0, .int x] : List Value).toArray 3 by rw [ha]) ?_
  rw [lg_entry_eq]
  generalize (lg_sl ([.ref h0, .int x]) ++ List.replicate (3 - (lg_sl ([.ref h0, .int x])).length) Slot.unset).toArray = ls at hl ⊢
  have hl : lv_has ls 3 [(0, .ref h0), (1, .int x)] := hl
  have htab : c.exceptionTable.toList = tableOf [(0, 5, 8, 28)] := pt_table B (hts _ List.mem_cons_self)
  have hD := hD0.self (sz := s.heap.size)
  have hAs : ∀ q : Nat, va_A [(h0, .inr (0, [.ref c0, .ref w0, .int (nI k), .int (nI n), .long (pt_mk n), .int cl, .int su])), (c0, .inl (kc, 512, .inr (.inl fc))), (w0, .inl (kw, 512, .inr (.inl fv)))] s.heap.size q → s0.heap.size ≤ q := pt_As hD0 hext.2.1
  generalize hAe : va_A [(h0, .inr (0, [.ref c0, .ref w0, .int (nI k), .int (nI n), .long (pt_mk n), .int cl, .int su])), (c0, .inl (kc, 512, .inr (.inl fc))), (w0, .inl (kw, 512, .inr (.inl fv)))] s.heap.size = A at hD hAs ⊢
  have hA : ∀ q : Nat, s.heap.size ≤ q → A q := fun q h => by rw [← hAe]; exact Or.inr h
  have hS : va_S A s.heap s.heap [] := va_S.rf
  have hP : va_P (dC, dI) vwCl [(h0, .inr (0, [.ref c0, .ref w0, .int (nI k), .int (nI n), .long (pt_mk n), .int cl, .int su])), (c0, .inl (kc, 512, .inr (.inl fc))), (w0, .inl (kw, 512, .inr (.inl fv)))] s.heap := hP
  generalize hQ : MQ below (va_Qi (fun (r : Int32) u => pt_Rdrop k n fc fv cl su x r u) (fun (u : pt_st) (t : State) => match u with | (k2, n2, fc2, fv2, cl2, su2) => va_P (dC, dI) vwCl [(h0, .inr (0, [.ref c0, .ref w0, .int (nI k2), .int (nI n2), .long (pt_mk n2), .int cl2, .int su2])), (c0, .inl (kc, 512, .inr (.inl fc2))), (w0, .inl (kw, 512, .inr (.inl fv2)))] t.heap ∧ va_K (dC, dI) vwCl [(kc, .long), (kw, .long)] t ∧ va_D A [(h0, .inr (0, [.ref c0, .ref w0, .int (nI k2), .int (nI n2), .long (pt_mk n2), .int cl2, .int su2])), (c0, .inl (kc, 512, .inr (.inl fc2))), (w0, .inl (kw, 512, .inr (.inl fv2)))]) A) args s 1 6 A = Q
  refine lv_aload_n hx hb dL_drop_0 rfl (lv_at hl 0 rfl) ?_
  refine lv_iload_n hx hb dL_drop_1 rfl (lv_at hl 1 rfl) ?_
  by_cases hab : x < 0 ∨ ¬ x < nI k
  · have hPc := hP.sub (ws' := [(h0, .inr (0, [.ref c0, .ref w0, .int (nI k), .int (nI n), .long (pt_mk n), .int cl, .int su])), (c0, .inl (kc, 512, .inr (.inl fc))), (w0, .inl (kw, 512, .inr (.inl fv)))]) [0, 1, 2] rfl
    have hDc := hD.sub (ws' := [(h0, .inr (0, [.ref c0, .ref w0, .int (nI k), .int (nI n), .long (pt_mk n), .int cl, .int su])), (c0, .inl (kc, 512, .inr (.inl fc))), (w0, .inl (kw, 512, .inr (.inl fv)))]) [0, 1, 2] (by decide) rfl
    have hKc := hK.sub (tys' := [(kc, .long), (kw, .long)]) [0, 1] rfl
    have hFc := va_free (wc := [(h0, .inr (0, [.ref c0, .ref w0, .int (nI k), .int (nI n), .long (pt_mk n), .int cl, .int su])), (c0, .inl (kc, 512, .inr (.inl fc))), (w0, .inl (kw, 512, .inr (.inl fv)))]) hD hS hA [0, 1, 2] rfl
    refine pt_catch (own := RL) (name := "java/util/NoSuchElementException") (pt_runT (As := [.int x]) (rest := []) ⟨hx, hb, hml, hown, hts⟩ (t_drop l hl9 dC dI s0 h0X h0 c0 w0 kc kw k n fc fv cl su x s.heap.size hab) (cwV 1 hts (pt_gV pw100 pw101 pw102 pw17 pw103) rfl rfl rfl (by decide +kernel) ⟨Nat.le_of_ble_eq_true rfl, Nat.le_of_ble_eq_true rfl⟩) ⟨fun a U g mk q => by obtain ⟨q0, q1, qP, qK, qD, qX⟩ := q; exact ⟨q0, q1, qP, va_K.moved (u := U) (U := U.calling g mk a) (Vm.Alike.refl U.vm) qK, qD, qX⟩, va_recv hK hP (ci := 0) (q0 := 0) rfl rfl, fun U hU hW => ⟨rfl, by rw [hU], by rw [hU]; exact hPc, va_K.moved hW.alike hKc, hDc.weaken (fun _ _ _ h => hAs _ h), hext.on2 hS hAs hU hW⟩⟩ rfl rfl hl.1 rfl (lv_room (Nat.le_of_ble_eq_true rfl)) dL_drop_2 ⟨by decide, by decide⟩) hown [] ⟨0, 5, 8, 28⟩ [] (by rw [htab]; rfl) (fun z hz => nomatch hz) (by decide) (by decide) (hts _ (List.mem_cons_of_mem _ pw99)) (pt_X_at h0X hext (.castable "java/util/NoSuchElementException" "java/util/NoSuchElementException") (by decide) _) (fun q st t H1 L h1 h2 h3 h4 hq hL => ?_)
    obtain ⟨hP1, hK1, hD1, hF1⟩ := hq
    rw [h3] at hP1
    obtain ⟨hS, hz1, hk1⟩ := pt_S_call hS hFc h1 h3 hF1 hL
    obtain ⟨hP, hD⟩ := va_join (wr := ([] : va_W)) (w1 := [(h0, .inr (0, [.ref c0, .ref w0, .int (nI k), .int (nI n), .long (pt_mk n), .int cl, .int su])), (c0, .inl (kc, 512, .inr (.inl fc))), (w0, .inl (kw, 512, .inr (.inl fv)))]) hP hD [0, 1, 2] [] rfl rfl (by decide) (by decide) hk1 hFc hP1 hD1
    generalize H1 = H at hP hS ⊢
    refine W.eq (g2 := F0 m 8 ls [.ref q]) rfl ?_
    refine lv_astore_n (lv' := [(2, .ref q), (0, .ref h0), (1, .int x)]) hx hb dL_drop_8 rfl hl (by decide) rfl (fun ls hl => ?_)
    refine lv_iconst (v := 1) hx hb dL_drop_9 (by decide) ?_
    rw [← hQ]
    refine W.widen (k := 1) (n := 6) (by omega) (by omega) ?_
    exact W.iret (v := 1) hx hb hr (fun t ht hW => ⟨⟨1, (k, n, fc, fv, cl, su), rfl, Or.inl ⟨hab, rfl, rfl⟩, by rw [ht]; exact hP, va_K.moved hW.alike hK, hD⟩, hS.F ht⟩) hS.2.2 dL_drop_10
  obtain ⟨i, hi, rfl⟩ := pt_at hk (fun z => hab (Or.inl z)) (Classical.not_not.mp fun z => hab (Or.inr z))
  have hPc := hP.sub (ws' := [(h0, .inr (0, [.ref c0, .ref w0, .int (nI k), .int (nI n), .long (pt_mk n), .int cl, .int su])), (c0, .inl (kc, 512, .inr (.inl fc))), (w0, .inl (kw, 512, .inr (.inl fv)))]) [0, 1, 2] rfl
  have hDc := hD.sub (ws' := [(h0, .inr (0, [.ref c0, .ref w0, .int (nI k), .int (nI n), .long (pt_mk n), .int cl, .int su])), (c0, .inl (kc, 512, .inr (.inl fc))), (w0, .inl (kw, 512, .inr (.inl fv)))]) [0, 1, 2] (by decide) rfl
  have hKc := hK.sub (tys' := [(kc, .long), (kw, .long)]) [0, 1] rfl
  have hFc := va_free (wc := [(h0, .inr (0, [.ref c0, .ref w0, .int (nI k), .int (nI n), .long (pt_mk n), .int cl, .int su])), (c0, .inl (kc, 512, .inr (.inl fc))), (w0, .inl (kw, 512, .inr (.inl fv)))]) hD hS hA [0, 1, 2] rfl
  refine va_callv (va_runV (As := [.int (nI i)]) (rest := []) ⟨hx, hb, hml, hown, hts⟩ (c_drop l dC dI h0 c0 w0 kc kw k n fc fv cl su i s.heap.size hi hk) (cwV 1 hts (pt_gV pw100 pw101 pw102 pw17 pw103) rfl rfl rfl (by decide +kernel) ⟨Nat.le_of_ble_eq_true rfl, Nat.le_of_ble_eq_true rfl⟩) ⟨fun a U g mk q => by obtain ⟨q0, q1, qP, qK, qD⟩ := q; exact ⟨q0, q1, qP, va_K.moved (u := U) (U := U.calling g mk a) (Vm.Alike.refl U.vm) qK, qD⟩, va_recv hK hP (ci := 0) (q0 := 0) rfl rfl, fun U hU hW => ⟨rfl, by rw [hU], by rw [hU]; exact hPc, va_K.moved hW.alike hKc, hDc.weaken (fun _ _ _ _ => trivial)⟩⟩ rfl rfl hl.1 rfl (lv_room (Nat.le_of_ble_eq_true rfl)) dL_drop_2 ⟨Nat.zero_le _, Nat.zero_le _⟩) hS (fun q _ h => hFc q h) hFc (fun  u t H1 locs ht hvm hw hB hz1 hk1 hS => ?_)
  obtain ⟨hP1, hK1, hD1⟩ := hB
  rw [ht] at hP1
  obtain ⟨hP, hD⟩ := va_join (wr := ([] : va_W)) (w1 := [(h0, .inr (0, [.ref c0, .ref w0, .int (nI (k - 1)), .int (nI n), .long (pt_mk n), .int cl, .int su])), (c0, .inl (kc, 512, .inr (.inl (pt_mv fc i k)))), (w0, .inl (kw, 512, .inr (.inl (pt_mv fv i k))))]) hP hD [0, 1, 2] [] rfl rfl (by decide) (by decide) hk1 hFc hP1 hD1
  generalize H1 = H at hP hS ⊢
  have hP : va_P (dC, dI) vwCl [(h0, .inr (0, [.ref c0, .ref w0, .int (nI (k - 1)), .int (nI n), .long (pt_mk n), .int cl, .int su])), (c0, .inl (kc, 512, .inr (.inl (pt_mv fc i k)))), (w0, .inl (kw, 512, .inr (.inl (pt_mv fv i k))))] H := hP
  have hD : va_D A [(h0, .inr (0, [.ref c0, .ref w0, .int (nI (k - 1)), .int (nI n), .long (pt_mk n), .int cl, .int su])), (c0, .inl (kc, 512, .inr (.inl (pt_mv fc i k)))), (w0, .inl (kw, 512, .inr (.inl (pt_mv fv i k))))] := hD
  refine lv_goto (tgt := 11) hx hb dL_drop_5 (by decide) ?_
  refine lv_iconst (v := 0) hx hb dL_drop_11 (by decide) ?_
  rw [← hQ]
  refine W.widen (k := 1) (n := 6) (by omega) (by omega) ?_
  exact W.iret (v := 0) hx hb hr (fun t ht hW => ⟨⟨0, (k - 1, n, pt_mv fc i k, pt_mv fv i k, cl, su), rfl, Or.inr ⟨i, hi, rfl, rfl, rfl⟩, by rw [ht]; exact hP, va_K.moved hW.alike hK, hD⟩, hS.F ht⟩) hS.2.2 dL_drop_12
set_option maxHeartbeats 4000000 in
set_option maxRecDepth 100000 in
/-- the law: add -/
theorem c_Ladd (l : Launch) (hl9 : l.stackTraces = false) (dC : Nat → ClassId) (dI : Nat → Nat → Nat) (s0 : State) (h0X : pt_X s0) (h0 c0 w0 : Nat) (kc kw : ClassId) (k n : Nat) (fc fv : Nat → Int64) (cl su : Int32) (o0 : Nat) (ko : ClassId) (fo : Nat → Int64) (a b : Int64) (sz : Nat) (hk : k ≤ 512) : Met l yL_add wsL_add ({ frames := 8, cells := 1, slots := 6, locals := 131 }) (va_Pc [.ref h0, .long a, .long b, .ref o0] (fun U => U.heap.size = sz ∧ va_P (dC, dI) vwCl [(h0, .inr (0, [.ref c0, .ref w0, .int (nI k), .int (nI n), .long (pt_mk n), .int cl, .int su])), (c0, .inl (kc, 512, .inr (.inl fc))), (w0, .inl (kw, 512, .inr (.inl fv))), (o0, .inl (ko, 1, .inr (.inl fo)))] U.heap ∧ va_K (dC, dI) vwCl [(kc, .long), (kw, .long), (ko, .long)] U ∧ va_D (fun q => s0.heap.size ≤ q) [(h0, .inr (0, [.ref c0, .ref w0, .int (nI k), .int (nI n), .long (pt_mk n), .int cl, .int su])), (c0, .inl (kc, 512, .inr (.inl fc))), (w0, .inl (kw, 512, .inr (.inl fv))), (o0, .inl (ko, 1, .inr (.inl fo)))] ∧ pt_ext s0 U)) (va_Qi (fun (r : Int32) u => pt_Radd k n fc fv cl su a b r (u.2 0) u.1) (fun (u : pt_st × (Nat → Int64)) (t : State) => match u with | ((k2, n2, fc2, fv2, cl2, su2), fo2) => va_P (dC, dI) vwCl [(h0, .inr (0, [.ref c0, .ref w0, .int (nI k2), .int (nI n2), .long (pt_mk n2), .int cl2, .int su2])), (c0, .inl (kc, 512, .inr (.inl fc2))), (w0, .inl (kw, 512, .inr (.inl fv2))), (o0, .inl (ko, 1, .inr (.inl fo2)))] t.heap ∧ va_K (dC, dI) vwCl [(kc, .long), (kw, .long), (ko, .long)] t ∧ va_D (va_A [(h0, .inr (0, [.ref c0, .ref w0, .int (nI k), .int (nI n), .long (pt_mk n), .int cl, .int su])), (c0, .inl (kc, 512, .inr (.inl fc))), (w0, .inl (kw, 512, .inr (.inl fv))), (o0, .inl (ko, 1, .inr (.inl fo)))] sz) [(h0, .inr (0, [.ref c0, .ref w0, .int (nI k2), .int (nI n2), .long (pt_mk n2), .int cl2, .int su2])), (c0, .inl (kc, 512, .inr (.inl fc2))), (w0, .inl (kw, 512, .inr (.inl fv2))), (o0, .inl (ko, 1, .inr (.inl fo2)))]) (va_A [(h0, .inr (0, [.ref c0, .ref w0, .int (nI k), .int (nI n), .long (pt_mk n), .int cl, .int su])), (c0, .inl (kc, 512, .inr (.inl fc))), (w0, .inl (kw, 512, .inr (.inl fv))), (o0, .inl (ko, 1, .inr (.inl fo)))] sz)) 1 6 (va_A [(h0, .inr (0, [.ref c0, .ref w0, .int (nI k), .int (nI n), .long (pt_mk n), .int cl, .int su])), (c0, .inl (kc, 512, .inr (.inl fc))), (w0, .inl (kw, 512, .inr (.inl fv))), (o0, .inl (ko, 1, .inr (.inl fo)))] sz) := by
  refine va_MetW (hh := [(0, 11, 14, 13), (0, 11, 18, 19)]) (cc := cL_add) (maxL := 7) (ret := (some .int)) (by decide) rfl ?_
  intro p e s m args below meth c s₁ B hml hv
  obtain ⟨ha, hsz, hP, hK, hD0, hext⟩ := hv
  subst hsz
  have hx := B.exec
  have hb := B.bytes
  have hr := B.returns
  have hts := atoms_spec (ws := wsL_add) B.pre
  have hown : s.vm.findClass RL = some m.cls := findClass_of_methodNamed B.named
  have hlocks := B.notSynchronized
  have hl := lv_entry ([.ref h0, .long a, .long b, .ref o0]) (n := 7) (Nat.le_of_ble_eq_true rfl)
  refine W.eq (show entryFrame m args 7 = entryFrame m ([.ref h0, .long a, .long b, .ref o0] : List Value).toArray 7 by rw [ha]) ?_
  rw [lg_entry_eq]
  generalize (lg_sl ([.ref h0, .long a, .long b, .ref o0]) ++ List.replicate (7 - (lg_sl ([.ref h0, .long a, .long b, .ref o0])).length) Slot.unset).toArray = ls at hl ⊢
  have hl : lv_has ls 7 [(0, .ref h0), (1, .long a), (3, .long b), (5, .ref o0)] := hl
  have htab : c.exceptionTable.toList = tableOf [(0, 11, 14, 13), (0, 11, 18, 19)] := pt_table B (hts _ List.mem_cons_self)
  have hD := hD0.self (sz := s.heap.size)
  have hAs : ∀ q : Nat, va_A [(h0, .inr (0, [.ref c0, .ref w0, .int (nI k), .int (nI n), .long (pt_mk n), .int cl, .int su])), (c0, .inl (kc, 512, .inr (.inl fc))), (w0, .inl (kw, 512, .inr (.inl fv))), (o0, .inl (ko, 1, .inr (.inl fo)))] s.heap.size q → s0.heap.size ≤ q := pt_As hD0 hext.2.1
  generalize hAe : va_A [(h0, .inr (0, [.ref c0, .ref w0, .int (nI k), .int (nI n), .long (pt_mk n), .int cl, .int su])), (c0, .inl (kc, 512, .inr (.inl fc))), (w0, .inl (kw, 512, .inr (.inl fv))), (o0, .inl (ko, 1, .inr (.inl fo)))] s.heap.size = A at hD hAs ⊢
  have hA : ∀ q : Nat, s.heap.size ≤ q → A q := fun q h => by rw [← hAe]; exact Or.inr h
  have hS : va_S A s.heap s.heap [] := va_S.rf
  have hP : va_P (dC, dI) vwCl [(h0, .inr (0, [.ref c0, .ref w0, .int (nI k), .int (nI n), .long (pt_mk n), .int cl, .int su])), (c0, .inl (kc, 512, .inr (.inl fc))), (w0, .inl (kw, 512, .inr (.inl fv))), (o0, .inl (ko, 1, .inr (.inl fo)))] s.heap := hP
  generalize hQ : MQ below (va_Qi (fun (r : Int32) u => pt_Radd k n fc fv cl su a b r (u.2 0) u.1) (fun (u : pt_st × (Nat → Int64)) (t : State) => match u with | ((k2, n2, fc2, fv2, cl2, su2), fo2) => va_P (dC, dI) vwCl [(h0, .inr (0, [.ref c0, .ref w0, .int (nI k2), .int (nI n2), .long (pt_mk n2), .int cl2, .int su2])), (c0, .inl (kc, 512, .inr (.inl fc2))), (w0, .inl (kw, 512, .inr (.inl fv2))), (o0, .inl (ko, 1, .inr (.inl fo2)))] t.heap ∧ va_K (dC, dI) vwCl [(kc, .long), (kw, .long), (ko, .long)] t ∧ va_D A [(h0, .inr (0, [.ref c0, .ref w0, .int (nI k2), .int (nI n2), .long (pt_mk n2), .int cl2, .int su2])), (c0, .inl (kc, 512, .inr (.inl fc2))), (w0, .inl (kw, 512, .inr (.inl fv2))), (o0, .inl (ko, 1, .inr (.inl fo2)))]) A) args s 1 6 A = Q
  refine lv_aload hx hb dL_add_0 (lv_at hl 3 rfl) ?_
  refine lv_iconst (v := 0) hx hb dL_add_2 (by decide) ?_
  refine lv_aload_n hx hb dL_add_3 rfl (lv_at hl 0 rfl) ?_
  refine lv_lload_n hx hb dL_add_4 rfl (lv_at hl 1 rfl) ?_
  refine lv_lload_n hx hb dL_add_5 rfl (lv_at hl 2 rfl) ?_
  by_cases hst : pt_stray n a b
  · have hPc := hP.sub (ws' := [(h0, .inr (0, [.ref c0, .ref w0, .int (nI k), .int (nI n), .long (pt_mk n), .int cl, .int su])), (c0, .inl (kc, 512, .inr (.inl fc))), (w0, .inl (kw, 512, .inr (.inl fv)))]) [0, 1, 2] rfl
    have hDc := hD.sub (ws' := [(h0, .inr (0, [.ref c0, .ref w0, .int (nI k), .int (nI n), .long (pt_mk n), .int cl, .int su])), (c0, .inl (kc, 512, .inr (.inl fc))), (w0, .inl (kw, 512, .inr (.inl fv)))]) [0, 1, 2] (by decide) rfl
    have hKc := hK.sub (tys' := [(kc, .long), (kw, .long)]) [0, 1] rfl
    have hFc := va_free (wc := [(h0, .inr (0, [.ref c0, .ref w0, .int (nI k), .int (nI n), .long (pt_mk n), .int cl, .int su])), (c0, .inl (kc, 512, .inr (.inl fc))), (w0, .inl (kw, 512, .inr (.inl fv)))]) hD hS hA [0, 1, 2] rfl
    refine pt_catch (own := RL) (name := "java/lang/IllegalArgumentException") (pt_runT (As := [.long a, .long b]) (rest := [.int 0, .ref o0]) ⟨hx, hb, hml, hown, hts⟩ (t_add_bad l hl9 dC dI s0 h0X h0 c0 w0 kc kw k n fc fv cl su a b s.heap.size hst) (cwV 2 hts (pt_gV pw72 pw73 pw74 pw17 pw75) rfl rfl rfl (by decide +kernel) ⟨Nat.le_of_ble_eq_true rfl, Nat.le_of_ble_eq_true rfl⟩) ⟨fun a U g mk q => by obtain ⟨q0, q1, qP, qK, qD, qX⟩ := q; exact ⟨q0, q1, qP, va_K.moved (u := U) (U := U.calling g mk a) (Vm.Alike.refl U.vm) qK, qD, qX⟩, va_recv hK hP (ci := 0) (q0 := 0) rfl rfl, fun U hU hW => ⟨rfl, by rw [hU], by rw [hU]; exact hPc, va_K.moved hW.alike hKc, hDc.weaken (fun _ _ _ h => hAs _ h), hext.on2 hS hAs hU hW⟩⟩ rfl rfl hl.1 rfl (lv_room (Nat.le_of_ble_eq_true rfl)) dL_add_6 ⟨by decide, by decide⟩) hown [] ⟨0, 11, 14, 13⟩ [⟨0, 11, 18, 19⟩] (by rw [htab]; rfl) (fun z hz => nomatch hz) (by decide) (by decide) (hts _ (List.mem_cons_of_mem _ pw61)) (pt_X_at h0X hext (.castable "java/lang/IllegalArgumentException" "java/lang/IllegalArgumentException") (by decide) _) (fun q st t H1 L h1 h2 h3 h4 hq hL => ?_)
    obtain ⟨hP1, hK1, hD1, hF1⟩ := hq
    rw [h3] at hP1
    obtain ⟨hS, hz1, hk1⟩ := pt_S_call hS hFc h1 h3 hF1 hL
    obtain ⟨hP, hD⟩ := va_join (wr := [(o0, .inl (ko, 1, .inr (.inl fo)))]) (w1 := [(h0, .inr (0, [.ref c0, .ref w0, .int (nI k), .int (nI n), .long (pt_mk n), .int cl, .int su])), (c0, .inl (kc, 512, .inr (.inl fc))), (w0, .inl (kw, 512, .inr (.inl fv)))]) hP hD [0, 1, 2] [3] rfl rfl (by decide) (by decide) hk1 hFc hP1 hD1
    generalize H1 = H at hP hS ⊢
    have hP := hP.sub (ws' := [(h0, .inr (0, [.ref c0, .ref w0, .int (nI k), .int (nI n), .long (pt_mk n), .int cl, .int su])), (c0, .inl (kc, 512, .inr (.inl fc))), (w0, .inl (kw, 512, .inr (.inl fv))), (o0, .inl (ko, 1, .inr (.inl fo)))]) [1, 2, 3, 0] rfl
    have hD := hD.sub (ws' := [(h0, .inr (0, [.ref c0, .ref w0, .int (nI k), .int (nI n), .long (pt_mk n), .int cl, .int su])), (c0, .inl (kc, 512, .inr (.inl fc))), (w0, .inl (kw, 512, .inr (.inl fv))), (o0, .inl (ko, 1, .inr (.inl fo)))]) [1, 2, 3, 0] (by decide) rfl
    refine W.eq (g2 := F0 m 14 ls [.ref q]) rfl ?_
    refine lv_astore (lv' := [(6, .ref q), (0, .ref h0), (1, .long a), (3, .long b), (5, .ref o0)]) hx hb dL_add_14 hl (by decide) rfl (fun ls hl => ?_)
    refine lv_iconst (v := 1) hx hb dL_add_16 (by decide) ?_
    rw [← hQ]
    refine W.widen (k := 1) (n := 6) (by omega) (by omega) ?_
    exact W.iret (v := 1) hx hb hr (fun t ht hW => ⟨⟨1, ((k, n, fc, fv, cl, su), fo), rfl, Or.inl ⟨hst, rfl, rfl⟩, by rw [ht]; exact hP, va_K.moved hW.alike hK, hD⟩, hS.F ht⟩) hS.2.2 dL_add_17
  obtain ⟨r0, hF⟩ := pt_F_all (fun j => pt_sh (fc j) (fv j) (a &&& pt_mk n) (b &&& pt_mk n)) k
  by_cases hk5 : k = 512
  · have hPc := hP.sub (ws' := [(h0, .inr (0, [.ref c0, .ref w0, .int (nI k), .int (nI n), .long (pt_mk n), .int cl, .int su])), (c0, .inl (kc, 512, .inr (.inl fc))), (w0, .inl (kw, 512, .inr (.inl fv)))]) [0, 1, 2] rfl
    have hDc := hD.sub (ws' := [(h0, .inr (0, [.ref c0, .ref w0, .int (nI k), .int (nI n), .long (pt_mk n), .int cl, .int su])), (c0, .inl (kc, 512, .inr (.inl fc))), (w0, .inl (kw, 512, .inr (.inl fv)))]) [0, 1, 2] (by decide) rfl
    have hKc := hK.sub (tys' := [(kc, .long), (kw, .long)]) [0, 1] rfl
    have hFc := va_free (wc := [(h0, .inr (0, [.ref c0, .ref w0, .int (nI k), .int (nI n), .long (pt_mk n), .int cl, .int su])), (c0, .inl (kc, 512, .inr (.inl fc))), (w0, .inl (kw, 512, .inr (.inl fv)))]) hD hS hA [0, 1, 2] rfl
    refine pt_catch (own := RL) (name := "java/lang/IllegalStateException") (pt_runT (As := [.long a, .long b]) (rest := [.int 0, .ref o0]) ⟨hx, hb, hml, hown, hts⟩ (t_add_ref l hl9 dC dI s0 h0X h0 c0 w0 kc kw k n fc fv cl su a b s.heap.size hst (-1) (Or.inl ⟨hk5, rfl⟩)) (cwV 2 hts (pt_gV pw72 pw73 pw74 pw17 pw75) rfl rfl rfl (by decide +kernel) ⟨Nat.le_of_ble_eq_true rfl, Nat.le_of_ble_eq_true rfl⟩) ⟨fun a U g mk q => by obtain ⟨q0, q1, qP, qK, qD, qX⟩ := q; exact ⟨q0, q1, qP, va_K.moved (u := U) (U := U.calling g mk a) (Vm.Alike.refl U.vm) qK, qD, qX⟩, va_recv hK hP (ci := 0) (q0 := 0) rfl rfl, fun U hU hW => ⟨rfl, by rw [hU], by rw [hU]; exact hPc, va_K.moved hW.alike hKc, hDc.weaken (fun _ _ _ h => hAs _ h), hext.on2 hS hAs hU hW⟩⟩ rfl rfl hl.1 rfl (lv_room (Nat.le_of_ble_eq_true rfl)) dL_add_6 ⟨by decide, by decide⟩) hown [⟨0, 11, 14, 13⟩] ⟨0, 11, 18, 19⟩ [] (by rw [htab]; rfl) (fun z hz => by rw [List.mem_singleton] at hz; subst hz; exact ⟨by decide, "java/lang/IllegalArgumentException", (hts _ (List.mem_cons_of_mem _ pw61)), (h0X.2.2 "java/lang/IllegalStateException" "java/lang/IllegalArgumentException" (by decide)).moved hext.1.alike⟩) (by decide) (by decide) (hts _ (List.mem_cons_of_mem _ pw71)) (pt_X_at h0X hext (.castable "java/lang/IllegalStateException" "java/lang/IllegalStateException") (by decide) _) (fun q st t H1 L h1 h2 h3 h4 hq hL => ?_)
    obtain ⟨hP1, hK1, hD1, hF1⟩ := hq
    rw [h3] at hP1
    obtain ⟨hS, hz1, hk1⟩ := pt_S_call hS hFc h1 h3 hF1 hL
    obtain ⟨hP, hD⟩ := va_join (wr := [(o0, .inl (ko, 1, .inr (.inl fo)))]) (w1 := [(h0, .inr (0, [.ref c0, .ref w0, .int (nI k), .int (nI n), .long (pt_mk n), .int (-1), .int su])), (c0, .inl (kc, 512, .inr (.inl fc))), (w0, .inl (kw, 512, .inr (.inl fv)))]) hP hD [0, 1, 2] [3] rfl rfl (by decide) (by decide) hk1 hFc hP1 hD1
    generalize H1 = H at hP hS ⊢
    have hP := hP.sub (ws' := [(h0, .inr (0, [.ref c0, .ref w0, .int (nI k), .int (nI n), .long (pt_mk n), .int (-1), .int su])), (c0, .inl (kc, 512, .inr (.inl fc))), (w0, .inl (kw, 512, .inr (.inl fv))), (o0, .inl (ko, 1, .inr (.inl fo)))]) [1, 2, 3, 0] rfl
    have hD := hD.sub (ws' := [(h0, .inr (0, [.ref c0, .ref w0, .int (nI k), .int (nI n), .long (pt_mk n), .int (-1), .int su])), (c0, .inl (kc, 512, .inr (.inl fc))), (w0, .inl (kw, 512, .inr (.inl fv))), (o0, .inl (ko, 1, .inr (.inl fo)))]) [1, 2, 3, 0] (by decide) rfl
    refine W.eq (g2 := F0 m 18 ls [.ref q]) rfl ?_
    refine lv_astore (lv' := [(6, .ref q), (0, .ref h0), (1, .long a), (3, .long b), (5, .ref o0)]) hx hb dL_add_18 hl (by decide) rfl (fun ls hl => ?_)
    refine lv_iconst (v := 2) hx hb dL_add_20 (by decide) ?_
    rw [← hQ]
    refine W.widen (k := 1) (n := 6) (by omega) (by omega) ?_
    exact W.iret (v := 2) hx hb hr (fun t ht hW => ⟨⟨2, ((k, n, fc, fv, -1, su), fo), rfl, Or.inr ⟨hst, Or.inl ⟨hk5, rfl, rfl⟩⟩, by rw [ht]; exact hP, va_K.moved hW.alike hK, hD⟩, hS.F ht⟩) hS.2.2 dL_add_21
  have hk6 : k < 512 := Nat.lt_of_le_of_ne hk hk5
  by_cases hr0 : r0 = -1
  · have hno := (pt_F_none hk hF).mp hr0
    have hPc := hP.sub (ws' := [(h0, .inr (0, [.ref c0, .ref w0, .int (nI k), .int (nI n), .long (pt_mk n), .int cl, .int su])), (c0, .inl (kc, 512, .inr (.inl fc))), (w0, .inl (kw, 512, .inr (.inl fv)))]) [0, 1, 2] rfl
    have hDc := hD.sub (ws' := [(h0, .inr (0, [.ref c0, .ref w0, .int (nI k), .int (nI n), .long (pt_mk n), .int cl, .int su])), (c0, .inl (kc, 512, .inr (.inl fc))), (w0, .inl (kw, 512, .inr (.inl fv)))]) [0, 1, 2] (by decide) rfl
    have hKc := hK.sub (tys' := [(kc, .long), (kw, .long)]) [0, 1] rfl
    have hFc := va_free (wc := [(h0, .inr (0, [.ref c0, .ref w0, .int (nI k), .int (nI n), .long (pt_mk n), .int cl, .int su])), (c0, .inl (kc, 512, .inr (.inl fc))), (w0, .inl (kw, 512, .inr (.inl fv)))]) hD hS hA [0, 1, 2] rfl
    refine va_calli (va_runV (As := [.long a, .long b]) (rest := [.int 0, .ref o0]) ⟨hx, hb, hml, hown, hts⟩ (c_add l dC dI h0 c0 w0 kc kw k n fc fv cl su a b s.heap.size hst hk6 hno) (cwV 2 hts (pt_gV pw72 pw73 pw74 pw17 pw75) rfl rfl rfl (by decide +kernel) ⟨Nat.le_of_ble_eq_true rfl, Nat.le_of_ble_eq_true rfl⟩) ⟨fun a U g mk q => by obtain ⟨q0, q1, qP, qK, qD⟩ := q; exact ⟨q0, q1, qP, va_K.moved (u := U) (U := U.calling g mk a) (Vm.Alike.refl U.vm) qK, qD⟩, va_recv hK hP (ci := 0) (q0 := 0) rfl rfl, fun U hU hW => ⟨rfl, by rw [hU], by rw [hU]; exact hPc, va_K.moved hW.alike hKc, hDc.weaken (fun _ _ _ _ => trivial)⟩⟩ rfl rfl hl.1 rfl (lv_room (Nat.le_of_ble_eq_true rfl)) dL_add_6 ⟨Nat.zero_le _, Nat.zero_le _⟩) hS (fun q _ h => hFc q h) hFc (fun r1 u t H1 locs ht hvm hw hB hz1 hk1 hS => ?_)
    obtain ⟨hP1, hK1, hD1⟩ := hB
    rw [ht] at hP1
    obtain ⟨hP, hD⟩ := va_join (wr := [(o0, .inl (ko, 1, .inr (.inl fo)))]) (w1 := [(h0, .inr (0, [.ref c0, .ref w0, .int (nI (k + 1)), .int (nI n), .long (pt_mk n), .int cl, .int su])), (c0, .inl (kc, 512, .inr (.inl (vp_updL fc k (a &&& pt_mk n))))), (w0, .inl (kw, 512, .inr (.inl (vp_updL fv k (b &&& pt_mk n)))))]) hP hD [0, 1, 2] [3] rfl rfl (by decide) (by decide) hk1 hFc hP1 hD1
    generalize H1 = H at hP hS ⊢
    have hP := hP.sub (ws' := [(h0, .inr (0, [.ref c0, .ref w0, .int (nI (k + 1)), .int (nI n), .long (pt_mk n), .int cl, .int su])), (c0, .inl (kc, 512, .inr (.inl (vp_updL fc k (a &&& pt_mk n))))), (w0, .inl (kw, 512, .inr (.inl (vp_updL fv k (b &&& pt_mk n))))), (o0, .inl (ko, 1, .inr (.inl fo)))]) [1, 2, 3, 0] rfl
    have hD := hD.sub (ws' := [(h0, .inr (0, [.ref c0, .ref w0, .int (nI (k + 1)), .int (nI n), .long (pt_mk n), .int cl, .int su])), (c0, .inl (kc, 512, .inr (.inl (vp_updL fc k (a &&& pt_mk n))))), (w0, .inl (kw, 512, .inr (.inl (vp_updL fv k (b &&& pt_mk n))))), (o0, .inl (ko, 1, .inr (.inl fo)))]) [1, 2, 3, 0] (by decide) rfl
    have hP : va_P (dC, dI) vwCl [(h0, .inr (0, [.ref c0, .ref w0, .int (nI (k + 1)), .int (nI n), .long (pt_mk n), .int cl, .int su])), (c0, .inl (kc, 512, .inr (.inl (vp_updL fc k (a &&& pt_mk n))))), (w0, .inl (kw, 512, .inr (.inl (vp_updL fv k (b &&& pt_mk n))))), (o0, .inl (ko, 1, .inr (.inl fo)))] H := hP
    have hD : va_D A [(h0, .inr (0, [.ref c0, .ref w0, .int (nI (k + 1)), .int (nI n), .long (pt_mk n), .int cl, .int su])), (c0, .inl (kc, 512, .inr (.inl (vp_updL fc k (a &&& pt_mk n))))), (w0, .inl (kw, 512, .inr (.inl (vp_updL fv k (b &&& pt_mk n))))), (o0, .inl (ko, 1, .inr (.inl fo)))] := hD
    subst hw
    refine lv_i2l (v := (nI k).toInt64) hx hb dL_add_9 rfl ?_
    refine va_last hx hb hK hP hD hS 3 2 rfl rfl (vp_in_nI (n := 0) (by decide) (by decide)) dL_add_10 (fun H locs hP hD hS => ?_)
    rw [show Int32.toNatClampNeg 0 = 0 by decide] at hP hD
    have hP : va_P (dC, dI) vwCl [(h0, .inr (0, [.ref c0, .ref w0, .int (nI (k + 1)), .int (nI n), .long (pt_mk n), .int cl, .int su])), (c0, .inl (kc, 512, .inr (.inl (vp_updL fc k (a &&& pt_mk n))))), (w0, .inl (kw, 512, .inr (.inl (vp_updL fv k (b &&& pt_mk n))))), (o0, .inl (ko, 1, .inr (.inl (vp_updL fo 0 ((nI k).toInt64)))))] H := hP
    have hD : va_D A [(h0, .inr (0, [.ref c0, .ref w0, .int (nI (k + 1)), .int (nI n), .long (pt_mk n), .int cl, .int su])), (c0, .inl (kc, 512, .inr (.inl (vp_updL fc k (a &&& pt_mk n))))), (w0, .inl (kw, 512, .inr (.inl (vp_updL fv k (b &&& pt_mk n))))), (o0, .inl (ko, 1, .inr (.inl (vp_updL fo 0 ((nI k).toInt64)))))] := hD
    refine lv_goto (tgt := 22) hx hb dL_add_11 (by decide) ?_
    refine lv_iconst (v := 0) hx hb dL_add_22 (by decide) ?_
    rw [← hQ]
    refine W.widen (k := 1) (n := 6) (by omega) (by omega) ?_
    exact W.iret (v := 0) hx hb hr (fun t ht hW => ⟨⟨0, ((k + 1, n, vp_updL fc k (a &&& pt_mk n), vp_updL fv k (b &&& pt_mk n), cl, su), vp_updL fo 0 (nI k).toInt64), rfl, Or.inr ⟨hst, Or.inr (Or.inr ⟨hk6, hno, rfl, (pk_uLs : vp_updL fo 0 (nI k).toInt64 0 = (nI k).toInt64), rfl⟩)⟩, by rw [ht]; exact hP, va_K.moved hW.alike hK, hD⟩, hS.F ht⟩) hS.2.2 dL_add_23
  · have hPc := hP.sub (ws' := [(h0, .inr (0, [.ref c0, .ref w0, .int (nI k), .int (nI n), .long (pt_mk n), .int cl, .int su])), (c0, .inl (kc, 512, .inr (.inl fc))), (w0, .inl (kw, 512, .inr (.inl fv)))]) [0, 1, 2] rfl
    have hDc := hD.sub (ws' := [(h0, .inr (0, [.ref c0, .ref w0, .int (nI k), .int (nI n), .long (pt_mk n), .int cl, .int su])), (c0, .inl (kc, 512, .inr (.inl fc))), (w0, .inl (kw, 512, .inr (.inl fv)))]) [0, 1, 2] (by decide) rfl
    have hKc := hK.sub (tys' := [(kc, .long), (kw, .long)]) [0, 1] rfl
    have hFc := va_free (wc := [(h0, .inr (0, [.ref c0, .ref w0, .int (nI k), .int (nI n), .long (pt_mk n), .int cl, .int su])), (c0, .inl (kc, 512, .inr (.inl fc))), (w0, .inl (kw, 512, .inr (.inl fv)))]) hD hS hA [0, 1, 2] rfl
    refine pt_catch (own := RL) (name := "java/lang/IllegalStateException") (pt_runT (As := [.long a, .long b]) (rest := [.int 0, .ref o0]) ⟨hx, hb, hml, hown, hts⟩ (t_add_ref l hl9 dC dI s0 h0X h0 c0 w0 kc kw k n fc fv cl su a b s.heap.size hst r0 (Or.inr ⟨hk6, hF, hr0⟩)) (cwV 2 hts (pt_gV pw72 pw73 pw74 pw17 pw75) rfl rfl rfl (by decide +kernel) ⟨Nat.le_of_ble_eq_true rfl, Nat.le_of_ble_eq_true rfl⟩) ⟨fun a U g mk q => by obtain ⟨q0, q1, qP, qK, qD, qX⟩ := q; exact ⟨q0, q1, qP, va_K.moved (u := U) (U := U.calling g mk a) (Vm.Alike.refl U.vm) qK, qD, qX⟩, va_recv hK hP (ci := 0) (q0 := 0) rfl rfl, fun U hU hW => ⟨rfl, by rw [hU], by rw [hU]; exact hPc, va_K.moved hW.alike hKc, hDc.weaken (fun _ _ _ h => hAs _ h), hext.on2 hS hAs hU hW⟩⟩ rfl rfl hl.1 rfl (lv_room (Nat.le_of_ble_eq_true rfl)) dL_add_6 ⟨by decide, by decide⟩) hown [⟨0, 11, 14, 13⟩] ⟨0, 11, 18, 19⟩ [] (by rw [htab]; rfl) (fun z hz => by rw [List.mem_singleton] at hz; subst hz; exact ⟨by decide, "java/lang/IllegalArgumentException", (hts _ (List.mem_cons_of_mem _ pw61)), (h0X.2.2 "java/lang/IllegalStateException" "java/lang/IllegalArgumentException" (by decide)).moved hext.1.alike⟩) (by decide) (by decide) (hts _ (List.mem_cons_of_mem _ pw71)) (pt_X_at h0X hext (.castable "java/lang/IllegalStateException" "java/lang/IllegalStateException") (by decide) _) (fun q st t H1 L h1 h2 h3 h4 hq hL => ?_)
    obtain ⟨hP1, hK1, hD1, hF1⟩ := hq
    rw [h3] at hP1
    obtain ⟨hS, hz1, hk1⟩ := pt_S_call hS hFc h1 h3 hF1 hL
    obtain ⟨hP, hD⟩ := va_join (wr := [(o0, .inl (ko, 1, .inr (.inl fo)))]) (w1 := [(h0, .inr (0, [.ref c0, .ref w0, .int (nI k), .int (nI n), .long (pt_mk n), .int r0, .int su])), (c0, .inl (kc, 512, .inr (.inl fc))), (w0, .inl (kw, 512, .inr (.inl fv)))]) hP hD [0, 1, 2] [3] rfl rfl (by decide) (by decide) hk1 hFc hP1 hD1
    generalize H1 = H at hP hS ⊢
    have hP := hP.sub (ws' := [(h0, .inr (0, [.ref c0, .ref w0, .int (nI k), .int (nI n), .long (pt_mk n), .int r0, .int su])), (c0, .inl (kc, 512, .inr (.inl fc))), (w0, .inl (kw, 512, .inr (.inl fv))), (o0, .inl (ko, 1, .inr (.inl fo)))]) [1, 2, 3, 0] rfl
    have hD := hD.sub (ws' := [(h0, .inr (0, [.ref c0, .ref w0, .int (nI k), .int (nI n), .long (pt_mk n), .int r0, .int su])), (c0, .inl (kc, 512, .inr (.inl fc))), (w0, .inl (kw, 512, .inr (.inl fv))), (o0, .inl (ko, 1, .inr (.inl fo)))]) [1, 2, 3, 0] (by decide) rfl
    refine W.eq (g2 := F0 m 18 ls [.ref q]) rfl ?_
    refine lv_astore (lv' := [(6, .ref q), (0, .ref h0), (1, .long a), (3, .long b), (5, .ref o0)]) hx hb dL_add_18 hl (by decide) rfl (fun ls hl => ?_)
    refine lv_iconst (v := 2) hx hb dL_add_20 (by decide) ?_
    rw [← hQ]
    refine W.widen (k := 1) (n := 6) (by omega) (by omega) ?_
    exact W.iret (v := 2) hx hb hr (fun t ht hW => ⟨⟨2, ((k, n, fc, fv, r0, su), fo), rfl, Or.inr ⟨hst, Or.inr (Or.inl ⟨hk6, r0, hF, hr0, rfl, rfl⟩)⟩, by rw [ht]; exact hP, va_K.moved hW.alike hK, hD⟩, hS.F ht⟩) hS.2.2 dL_add_21
set_option maxHeartbeats 4000000 in
set_option maxRecDepth 100000 in
/-- the law: signs -/
theorem c_Lsigns (l : Launch) (hl9 : l.stackTraces = false) (dC : Nat → ClassId) (dI : Nat → Nat → Nat) (s0 : State) (h0X : pt_X s0) (h0 c0 w0 : Nat) (kc kw : ClassId) (k n : Nat) (fc fv : Nat → Int64) (cl su : Int32) (o0 : Nat) (ko : ClassId) (fo : Nat → Int64) (x : Int64) (sz : Nat) (hk : k ≤ 512) : Met l yL_signs wsL_signs ({ frames := 8, cells := 1, slots := 6, locals := 138 }) (va_Pc [.ref h0, .long x, .ref o0] (fun U => U.heap.size = sz ∧ va_P (dC, dI) vwCl [(h0, .inr (0, [.ref c0, .ref w0, .int (nI k), .int (nI n), .long (pt_mk n), .int cl, .int su])), (c0, .inl (kc, 512, .inr (.inl fc))), (w0, .inl (kw, 512, .inr (.inl fv))), (o0, .inl (ko, 1, .inr (.inl fo)))] U.heap ∧ va_K (dC, dI) vwCl [(kc, .long), (kw, .long), (ko, .long)] U ∧ va_D (fun q => s0.heap.size ≤ q) [(h0, .inr (0, [.ref c0, .ref w0, .int (nI k), .int (nI n), .long (pt_mk n), .int cl, .int su])), (c0, .inl (kc, 512, .inr (.inl fc))), (w0, .inl (kw, 512, .inr (.inl fv))), (o0, .inl (ko, 1, .inr (.inl fo)))] ∧ pt_ext s0 U)) (va_Qi (fun (r : Int32) u => pt_Rsigns k n fc fv cl su x r (u.2 0) u.1) (fun (u : pt_st × (Nat → Int64)) (t : State) => match u with | ((k2, n2, fc2, fv2, cl2, su2), fo2) => va_P (dC, dI) vwCl [(h0, .inr (0, [.ref c0, .ref w0, .int (nI k2), .int (nI n2), .long (pt_mk n2), .int cl2, .int su2])), (c0, .inl (kc, 512, .inr (.inl fc2))), (w0, .inl (kw, 512, .inr (.inl fv2))), (o0, .inl (ko, 1, .inr (.inl fo2)))] t.heap ∧ va_K (dC, dI) vwCl [(kc, .long), (kw, .long), (ko, .long)] t ∧ va_D (va_A [(h0, .inr (0, [.ref c0, .ref w0, .int (nI k), .int (nI n), .long (pt_mk n), .int cl, .int su])), (c0, .inl (kc, 512, .inr (.inl fc))), (w0, .inl (kw, 512, .inr (.inl fv))), (o0, .inl (ko, 1, .inr (.inl fo)))] sz) [(h0, .inr (0, [.ref c0, .ref w0, .int (nI k2), .int (nI n2), .long (pt_mk n2), .int cl2, .int su2])), (c0, .inl (kc, 512, .inr (.inl fc2))), (w0, .inl (kw, 512, .inr (.inl fv2))), (o0, .inl (ko, 1, .inr (.inl fo2)))]) (va_A [(h0, .inr (0, [.ref c0, .ref w0, .int (nI k), .int (nI n), .long (pt_mk n), .int cl, .int su])), (c0, .inl (kc, 512, .inr (.inl fc))), (w0, .inl (kw, 512, .inr (.inl fv))), (o0, .inl (ko, 1, .inr (.inl fo)))] sz)) 1 6 (va_A [(h0, .inr (0, [.ref c0, .ref w0, .int (nI k), .int (nI n), .long (pt_mk n), .int cl, .int su])), (c0, .inl (kc, 512, .inr (.inl fc))), (w0, .inl (kw, 512, .inr (.inl fv))), (o0, .inl (ko, 1, .inr (.inl fo)))] sz) := by
  refine va_MetW (hh := [(0, 9, 12, 13), (0, 9, 16, 19)]) (cc := cL_signs) (maxL := 5) (ret := (some .int)) (by decide) rfl ?_
  intro p e s m args below meth c s₁ B hml hv
  obtain ⟨ha, hsz, hP, hK, hD0, hext⟩ := hv
  subst hsz
  have hx := B.exec
  have hb := B.bytes
  have hr := B.returns
  have hts := atoms_spec (ws := wsL_signs) B.pre
  have hown : s.vm.findClass RL = some m.cls := findClass_of_methodNamed B.named
  have hlocks := B.notSynchronized
  have hl := lv_entry ([.ref h0, .long x, .ref o0]) (n := 5) (Nat.le_of_ble_eq_true rfl)
  refine W.eq (show entryFrame m args 5 = entryFrame m ([.ref h0, .long x, .ref o0] : List Value).toArray 5 by rw [ha]) ?_
  rw [lg_entry_eq]
  generalize (lg_sl ([.ref h0, .long x, .ref o0]) ++ List.replicate (5 - (lg_sl ([.ref h0, .long x, .ref o0])).length) Slot.unset).toArray = ls at hl ⊢
  have hl : lv_has ls 5 [(0, .ref h0), (1, .long x), (3, .ref o0)] := hl
  have htab : c.exceptionTable.toList = tableOf [(0, 9, 12, 13), (0, 9, 16, 19)] := pt_table B (hts _ List.mem_cons_self)
  have hD := hD0.self (sz := s.heap.size)
  have hAs : ∀ q : Nat, va_A [(h0, .inr (0, [.ref c0, .ref w0, .int (nI k), .int (nI n), .long (pt_mk n), .int cl, .int su])), (c0, .inl (kc, 512, .inr (.inl fc))), (w0, .inl (kw, 512, .inr (.inl fv))), (o0, .inl (ko, 1, .inr (.inl fo)))] s.heap.size q → s0.heap.size ≤ q := pt_As hD0 hext.2.1
  generalize hAe : va_A [(h0, .inr (0, [.ref c0, .ref w0, .int (nI k), .int (nI n), .long (pt_mk n), .int cl, .int su])), (c0, .inl (kc, 512, .inr (.inl fc))), (w0, .inl (kw, 512, .inr (.inl fv))), (o0, .inl (ko, 1, .inr (.inl fo)))] s.heap.size = A at hD hAs ⊢
  have hA : ∀ q : Nat, s.heap.size ≤ q → A q := fun q h => by rw [← hAe]; exact Or.inr h
  have hS : va_S A s.heap s.heap [] := va_S.rf
  have hP : va_P (dC, dI) vwCl [(h0, .inr (0, [.ref c0, .ref w0, .int (nI k), .int (nI n), .long (pt_mk n), .int cl, .int su])), (c0, .inl (kc, 512, .inr (.inl fc))), (w0, .inl (kw, 512, .inr (.inl fv))), (o0, .inl (ko, 1, .inr (.inl fo)))] s.heap := hP
  generalize hQ : MQ below (va_Qi (fun (r : Int32) u => pt_Rsigns k n fc fv cl su x r (u.2 0) u.1) (fun (u : pt_st × (Nat → Int64)) (t : State) => match u with | ((k2, n2, fc2, fv2, cl2, su2), fo2) => va_P (dC, dI) vwCl [(h0, .inr (0, [.ref c0, .ref w0, .int (nI k2), .int (nI n2), .long (pt_mk n2), .int cl2, .int su2])), (c0, .inl (kc, 512, .inr (.inl fc2))), (w0, .inl (kw, 512, .inr (.inl fv2))), (o0, .inl (ko, 1, .inr (.inl fo2)))] t.heap ∧ va_K (dC, dI) vwCl [(kc, .long), (kw, .long), (ko, .long)] t ∧ va_D A [(h0, .inr (0, [.ref c0, .ref w0, .int (nI k2), .int (nI n2), .long (pt_mk n2), .int cl2, .int su2])), (c0, .inl (kc, 512, .inr (.inl fc2))), (w0, .inl (kw, 512, .inr (.inl fv2))), (o0, .inl (ko, 1, .inr (.inl fo2)))]) A) args s 1 6 A = Q
  refine lv_aload_n hx hb dL_signs_0 rfl (lv_at hl 2 rfl) ?_
  refine lv_iconst (v := 0) hx hb dL_signs_1 (by decide) ?_
  refine lv_aload_n hx hb dL_signs_2 rfl (lv_at hl 0 rfl) ?_
  refine lv_lload_n hx hb dL_signs_3 rfl (lv_at hl 1 rfl) ?_
  by_cases hx0 : x < 0
  · have hPc := hP.sub (ws' := [(h0, .inr (0, [.ref c0, .ref w0, .int (nI k), .int (nI n), .long (pt_mk n), .int cl, .int su])), (c0, .inl (kc, 512, .inr (.inl fc))), (w0, .inl (kw, 512, .inr (.inl fv)))]) [0, 1, 2] rfl
    have hDc := hD.sub (ws' := [(h0, .inr (0, [.ref c0, .ref w0, .int (nI k), .int (nI n), .long (pt_mk n), .int cl, .int su])), (c0, .inl (kc, 512, .inr (.inl fc))), (w0, .inl (kw, 512, .inr (.inl fv)))]) [0, 1, 2] (by decide) rfl
    have hKc := hK.sub (tys' := [(kc, .long), (kw, .long)]) [0, 1] rfl
    have hFc := va_free (wc := [(h0, .inr (0, [.ref c0, .ref w0, .int (nI k), .int (nI n), .long (pt_mk n), .int cl, .int su])), (c0, .inl (kc, 512, .inr (.inl fc))), (w0, .inl (kw, 512, .inr (.inl fv)))]) hD hS hA [0, 1, 2] rfl
    refine pt_catch (own := RL) (name := "java/lang/IllegalArgumentException") (pt_runT (As := [.long x]) (rest := [.int 0, .ref o0]) ⟨hx, hb, hml, hown, hts⟩ (t_signs_bad l hl9 dC dI s0 h0X h0 c0 w0 kc kw k n fc fv cl su x s.heap.size hx0) (cwV 1 hts (pt_gV pw90 pw91 pw92 pw17 pw93) rfl rfl rfl (by decide +kernel) ⟨Nat.le_of_ble_eq_true rfl, Nat.le_of_ble_eq_true rfl⟩) ⟨fun a U g mk q => by obtain ⟨q0, q1, qP, qK, qD, qX⟩ := q; exact ⟨q0, q1, qP, va_K.moved (u := U) (U := U.calling g mk a) (Vm.Alike.refl U.vm) qK, qD, qX⟩, va_recv hK hP (ci := 0) (q0 := 0) rfl rfl, fun U hU hW => ⟨rfl, by rw [hU], by rw [hU]; exact hPc, va_K.moved hW.alike hKc, hDc.weaken (fun _ _ _ h => hAs _ h), hext.on2 hS hAs hU hW⟩⟩ rfl rfl hl.1 rfl (lv_room (Nat.le_of_ble_eq_true rfl)) dL_signs_4 ⟨by decide, by decide⟩) hown [] ⟨0, 9, 12, 13⟩ [⟨0, 9, 16, 19⟩] (by rw [htab]; rfl) (fun z hz => nomatch hz) (by decide) (by decide) (hts _ (List.mem_cons_of_mem _ pw61)) (pt_X_at h0X hext (.castable "java/lang/IllegalArgumentException" "java/lang/IllegalArgumentException") (by decide) _) (fun q st t H1 L h1 h2 h3 h4 hq hL => ?_)
    obtain ⟨hP1, hK1, hD1, hF1⟩ := hq
    rw [h3] at hP1
    obtain ⟨hS, hz1, hk1⟩ := pt_S_call hS hFc h1 h3 hF1 hL
    obtain ⟨hP, hD⟩ := va_join (wr := [(o0, .inl (ko, 1, .inr (.inl fo)))]) (w1 := [(h0, .inr (0, [.ref c0, .ref w0, .int (nI k), .int (nI n), .long (pt_mk n), .int cl, .int su])), (c0, .inl (kc, 512, .inr (.inl fc))), (w0, .inl (kw, 512, .inr (.inl fv)))]) hP hD [0, 1, 2] [3] rfl rfl (by decide) (by decide) hk1 hFc hP1 hD1
    generalize H1 = H at hP hS ⊢
    have hP := hP.sub (ws' := [(h0, .inr (0, [.ref c0, .ref w0, .int (nI k), .int (nI n), .long (pt_mk n), .int cl, .int su])), (c0, .inl (kc, 512, .inr (.inl fc))), (w0, .inl (kw, 512, .inr (.inl fv))), (o0, .inl (ko, 1, .inr (.inl fo)))]) [1, 2, 3, 0] rfl
    have hD := hD.sub (ws' := [(h0, .inr (0, [.ref c0, .ref w0, .int (nI k), .int (nI n), .long (pt_mk n), .int cl, .int su])), (c0, .inl (kc, 512, .inr (.inl fc))), (w0, .inl (kw, 512, .inr (.inl fv))), (o0, .inl (ko, 1, .inr (.inl fo)))]) [1, 2, 3, 0] (by decide) rfl
    refine W.eq (g2 := F0 m 12 ls [.ref q]) rfl ?_
    refine lv_astore (lv' := [(4, .ref q), (0, .ref h0), (1, .long x), (3, .ref o0)]) hx hb dL_signs_12 hl (by decide) rfl (fun ls hl => ?_)
    refine lv_iconst (v := 1) hx hb dL_signs_14 (by decide) ?_
    rw [← hQ]
    refine W.widen (k := 1) (n := 6) (by omega) (by omega) ?_
    exact W.iret (v := 1) hx hb hr (fun t ht hW => ⟨⟨1, ((k, n, fc, fv, cl, su), fo), rfl, Or.inl ⟨hx0, rfl, rfl⟩, by rw [ht]; exact hP, va_K.moved hW.alike hK, hD⟩, hS.F ht⟩) hS.2.2 dL_signs_15
  obtain ⟨D, hDb, rfl⟩ := pk_lOf hx0
  obtain ⟨r0, hF⟩ := pt_F_all (fun j => pt_sh (fc j) (fv j) (pt_sc D 40 &&& pt_mk n) (pt_sw D 40 &&& pt_mk n)) k
  by_cases hk5 : k = 512
  · have hPc := hP.sub (ws' := [(h0, .inr (0, [.ref c0, .ref w0, .int (nI k), .int (nI n), .long (pt_mk n), .int cl, .int su])), (c0, .inl (kc, 512, .inr (.inl fc))), (w0, .inl (kw, 512, .inr (.inl fv)))]) [0, 1, 2] rfl
    have hDc := hD.sub (ws' := [(h0, .inr (0, [.ref c0, .ref w0, .int (nI k), .int (nI n), .long (pt_mk n), .int cl, .int su])), (c0, .inl (kc, 512, .inr (.inl fc))), (w0, .inl (kw, 512, .inr (.inl fv)))]) [0, 1, 2] (by decide) rfl
    have hKc := hK.sub (tys' := [(kc, .long), (kw, .long)]) [0, 1] rfl
    have hFc := va_free (wc := [(h0, .inr (0, [.ref c0, .ref w0, .int (nI k), .int (nI n), .long (pt_mk n), .int cl, .int su])), (c0, .inl (kc, 512, .inr (.inl fc))), (w0, .inl (kw, 512, .inr (.inl fv)))]) hD hS hA [0, 1, 2] rfl
    refine pt_catch (own := RL) (name := "java/lang/IllegalStateException") (pt_runT (As := [.long (lN D)]) (rest := [.int 0, .ref o0]) ⟨hx, hb, hml, hown, hts⟩ (t_signs_ref l hl9 dC dI s0 h0X h0 c0 w0 kc kw k n fc fv cl su D s.heap.size hDb (-1) (Or.inl ⟨hk5, rfl⟩)) (cwV 1 hts (pt_gV pw90 pw91 pw92 pw17 pw93) rfl rfl rfl (by decide +kernel) ⟨Nat.le_of_ble_eq_true rfl, Nat.le_of_ble_eq_true rfl⟩) ⟨fun a U g mk q => by obtain ⟨q0, q1, qP, qK, qD, qX⟩ := q; exact ⟨q0, q1, qP, va_K.moved (u := U) (U := U.calling g mk a) (Vm.Alike.refl U.vm) qK, qD, qX⟩, va_recv hK hP (ci := 0) (q0 := 0) rfl rfl, fun U hU hW => ⟨rfl, by rw [hU], by rw [hU]; exact hPc, va_K.moved hW.alike hKc, hDc.weaken (fun _ _ _ h => hAs _ h), hext.on2 hS hAs hU hW⟩⟩ rfl rfl hl.1 rfl (lv_room (Nat.le_of_ble_eq_true rfl)) dL_signs_4 ⟨by decide, by decide⟩) hown [⟨0, 9, 12, 13⟩] ⟨0, 9, 16, 19⟩ [] (by rw [htab]; rfl) (fun z hz => by rw [List.mem_singleton] at hz; subst hz; exact ⟨by decide, "java/lang/IllegalArgumentException", (hts _ (List.mem_cons_of_mem _ pw61)), (h0X.2.2 "java/lang/IllegalStateException" "java/lang/IllegalArgumentException" (by decide)).moved hext.1.alike⟩) (by decide) (by decide) (hts _ (List.mem_cons_of_mem _ pw71)) (pt_X_at h0X hext (.castable "java/lang/IllegalStateException" "java/lang/IllegalStateException") (by decide) _) (fun q st t H1 L h1 h2 h3 h4 hq hL => ?_)
    obtain ⟨hP1, hK1, hD1, hF1⟩ := hq
    rw [h3] at hP1
    obtain ⟨hS, hz1, hk1⟩ := pt_S_call hS hFc h1 h3 hF1 hL
    obtain ⟨hP, hD⟩ := va_join (wr := [(o0, .inl (ko, 1, .inr (.inl fo)))]) (w1 := [(h0, .inr (0, [.ref c0, .ref w0, .int (nI k), .int (nI n), .long (pt_mk n), .int (-1), .int su])), (c0, .inl (kc, 512, .inr (.inl fc))), (w0, .inl (kw, 512, .inr (.inl fv)))]) hP hD [0, 1, 2] [3] rfl rfl (by decide) (by decide) hk1 hFc hP1 hD1
    generalize H1 = H at hP hS ⊢
    have hP := hP.sub (ws' := [(h0, .inr (0, [.ref c0, .ref w0, .int (nI k), .int (nI n), .long (pt_mk n), .int (-1), .int su])), (c0, .inl (kc, 512, .inr (.inl fc))), (w0, .inl (kw, 512, .inr (.inl fv))), (o0, .inl (ko, 1, .inr (.inl fo)))]) [1, 2, 3, 0] rfl
    have hD := hD.sub (ws' := [(h0, .inr (0, [.ref c0, .ref w0, .int (nI k), .int (nI n), .long (pt_mk n), .int (-1), .int su])), (c0, .inl (kc, 512, .inr (.inl fc))), (w0, .inl (kw, 512, .inr (.inl fv))), (o0, .inl (ko, 1, .inr (.inl fo)))]) [1, 2, 3, 0] (by decide) rfl
    refine W.eq (g2 := F0 m 16 ls [.ref q]) rfl ?_
    refine lv_astore (lv' := [(4, .ref q), (0, .ref h0), (1, .long (lN D)), (3, .ref o0)]) hx hb dL_signs_16 hl (by decide) rfl (fun ls hl => ?_)
    refine lv_iconst (v := 2) hx hb dL_signs_18 (by decide) ?_
    rw [← hQ]
    refine W.widen (k := 1) (n := 6) (by omega) (by omega) ?_
    exact W.iret (v := 2) hx hb hr (fun t ht hW => ⟨⟨2, ((k, n, fc, fv, -1, su), fo), rfl, Or.inr ⟨D, hDb, rfl, Or.inl ⟨hk5, rfl, rfl⟩⟩, by rw [ht]; exact hP, va_K.moved hW.alike hK, hD⟩, hS.F ht⟩) hS.2.2 dL_signs_19
  have hk6 : k < 512 := Nat.lt_of_le_of_ne hk hk5
  by_cases hr0 : r0 = -1
  · have hno := (pt_F_none hk hF).mp hr0
    have hPc := hP.sub (ws' := [(h0, .inr (0, [.ref c0, .ref w0, .int (nI k), .int (nI n), .long (pt_mk n), .int cl, .int su])), (c0, .inl (kc, 512, .inr (.inl fc))), (w0, .inl (kw, 512, .inr (.inl fv)))]) [0, 1, 2] rfl
    have hDc := hD.sub (ws' := [(h0, .inr (0, [.ref c0, .ref w0, .int (nI k), .int (nI n), .long (pt_mk n), .int cl, .int su])), (c0, .inl (kc, 512, .inr (.inl fc))), (w0, .inl (kw, 512, .inr (.inl fv)))]) [0, 1, 2] (by decide) rfl
    have hKc := hK.sub (tys' := [(kc, .long), (kw, .long)]) [0, 1] rfl
    have hFc := va_free (wc := [(h0, .inr (0, [.ref c0, .ref w0, .int (nI k), .int (nI n), .long (pt_mk n), .int cl, .int su])), (c0, .inl (kc, 512, .inr (.inl fc))), (w0, .inl (kw, 512, .inr (.inl fv)))]) hD hS hA [0, 1, 2] rfl
    refine va_calli (va_runV (As := [.long (lN D)]) (rest := [.int 0, .ref o0]) ⟨hx, hb, hml, hown, hts⟩ (c_signs l dC dI h0 c0 w0 kc kw k n fc fv cl su D s.heap.size hDb hk6 hno) (cwV 1 hts (pt_gV pw90 pw91 pw92 pw17 pw93) rfl rfl rfl (by decide +kernel) ⟨Nat.le_of_ble_eq_true rfl, Nat.le_of_ble_eq_true rfl⟩) ⟨fun a U g mk q => by obtain ⟨q0, q1, qP, qK, qD⟩ := q; exact ⟨q0, q1, qP, va_K.moved (u := U) (U := U.calling g mk a) (Vm.Alike.refl U.vm) qK, qD⟩, va_recv hK hP (ci := 0) (q0 := 0) rfl rfl, fun U hU hW => ⟨rfl, by rw [hU], by rw [hU]; exact hPc, va_K.moved hW.alike hKc, hDc.weaken (fun _ _ _ _ => trivial)⟩⟩ rfl rfl hl.1 rfl (lv_room (Nat.le_of_ble_eq_true rfl)) dL_signs_4 ⟨Nat.zero_le _, Nat.zero_le _⟩) hS (fun q _ h => hFc q h) hFc (fun r1 u t H1 locs ht hvm hw hB hz1 hk1 hS => ?_)
    obtain ⟨hP1, hK1, hD1⟩ := hB
    rw [ht] at hP1
    obtain ⟨hP, hD⟩ := va_join (wr := [(o0, .inl (ko, 1, .inr (.inl fo)))]) (w1 := [(h0, .inr (0, [.ref c0, .ref w0, .int (nI (k + 1)), .int (nI n), .long (pt_mk n), .int cl, .int su])), (c0, .inl (kc, 512, .inr (.inl (vp_updL fc k (pt_sc D 40 &&& pt_mk n))))), (w0, .inl (kw, 512, .inr (.inl (vp_updL fv k (pt_sw D 40 &&& pt_mk n)))))]) hP hD [0, 1, 2] [3] rfl rfl (by decide) (by decide) hk1 hFc hP1 hD1
    generalize H1 = H at hP hS ⊢
    have hP := hP.sub (ws' := [(h0, .inr (0, [.ref c0, .ref w0, .int (nI (k + 1)), .int (nI n), .long (pt_mk n), .int cl, .int su])), (c0, .inl (kc, 512, .inr (.inl (vp_updL fc k (pt_sc D 40 &&& pt_mk n))))), (w0, .inl (kw, 512, .inr (.inl (vp_updL fv k (pt_sw D 40 &&& pt_mk n))))), (o0, .inl (ko, 1, .inr (.inl fo)))]) [1, 2, 3, 0] rfl
    have hD := hD.sub (ws' := [(h0, .inr (0, [.ref c0, .ref w0, .int (nI (k + 1)), .int (nI n), .long (pt_mk n), .int cl, .int su])), (c0, .inl (kc, 512, .inr (.inl (vp_updL fc k (pt_sc D 40 &&& pt_mk n))))), (w0, .inl (kw, 512, .inr (.inl (vp_updL fv k (pt_sw D 40 &&& pt_mk n))))), (o0, .inl (ko, 1, .inr (.inl fo)))]) [1, 2, 3, 0] (by decide) rfl
    have hP : va_P (dC, dI) vwCl [(h0, .inr (0, [.ref c0, .ref w0, .int (nI (k + 1)), .int (nI n), .long (pt_mk n), .int cl, .int su])), (c0, .inl (kc, 512, .inr (.inl (vp_updL fc k (pt_sc D 40 &&& pt_mk n))))), (w0, .inl (kw, 512, .inr (.inl (vp_updL fv k (pt_sw D 40 &&& pt_mk n))))), (o0, .inl (ko, 1, .inr (.inl fo)))] H := hP
    have hD : va_D A [(h0, .inr (0, [.ref c0, .ref w0, .int (nI (k + 1)), .int (nI n), .long (pt_mk n), .int cl, .int su])), (c0, .inl (kc, 512, .inr (.inl (vp_updL fc k (pt_sc D 40 &&& pt_mk n))))), (w0, .inl (kw, 512, .inr (.inl (vp_updL fv k (pt_sw D 40 &&& pt_mk n))))), (o0, .inl (ko, 1, .inr (.inl fo)))] := hD
    subst hw
    refine lv_i2l (v := (nI k).toInt64) hx hb dL_signs_7 rfl ?_
    refine va_last hx hb hK hP hD hS 3 2 rfl rfl (vp_in_nI (n := 0) (by decide) (by decide)) dL_signs_8 (fun H locs hP hD hS => ?_)
    rw [show Int32.toNatClampNeg 0 = 0 by decide] at hP hD
    have hP : va_P (dC, dI) vwCl [(h0, .inr (0, [.ref c0, .ref w0, .int (nI (k + 1)), .int (nI n), .long (pt_mk n), .int cl, .int su])), (c0, .inl (kc, 512, .inr (.inl (vp_updL fc k (pt_sc D 40 &&& pt_mk n))))), (w0, .inl (kw, 512, .inr (.inl (vp_updL fv k (pt_sw D 40 &&& pt_mk n))))), (o0, .inl (ko, 1, .inr (.inl (vp_updL fo 0 ((nI k).toInt64)))))] H := hP
    have hD : va_D A [(h0, .inr (0, [.ref c0, .ref w0, .int (nI (k + 1)), .int (nI n), .long (pt_mk n), .int cl, .int su])), (c0, .inl (kc, 512, .inr (.inl (vp_updL fc k (pt_sc D 40 &&& pt_mk n))))), (w0, .inl (kw, 512, .inr (.inl (vp_updL fv k (pt_sw D 40 &&& pt_mk n))))), (o0, .inl (ko, 1, .inr (.inl (vp_updL fo 0 ((nI k).toInt64)))))] := hD
    refine lv_goto (tgt := 20) hx hb dL_signs_9 (by decide) ?_
    refine lv_iconst (v := 0) hx hb dL_signs_20 (by decide) ?_
    rw [← hQ]
    refine W.widen (k := 1) (n := 6) (by omega) (by omega) ?_
    exact W.iret (v := 0) hx hb hr (fun t ht hW => ⟨⟨0, ((k + 1, n, vp_updL fc k (pt_sc D 40 &&& pt_mk n), vp_updL fv k (pt_sw D 40 &&& pt_mk n), cl, su), vp_updL fo 0 (nI k).toInt64), rfl, Or.inr ⟨D, hDb, rfl, Or.inr (Or.inr ⟨hk6, hno, rfl, (pk_uLs : vp_updL fo 0 (nI k).toInt64 0 = (nI k).toInt64), rfl⟩)⟩, by rw [ht]; exact hP, va_K.moved hW.alike hK, hD⟩, hS.F ht⟩) hS.2.2 dL_signs_21
  · have hPc := hP.sub (ws' := [(h0, .inr (0, [.ref c0, .ref w0, .int (nI k), .int (nI n), .long (pt_mk n), .int cl, .int su])), (c0, .inl (kc, 512, .inr (.inl fc))), (w0, .inl (kw, 512, .inr (.inl fv)))]) [0, 1, 2] rfl
    have hDc := hD.sub (ws' := [(h0, .inr (0, [.ref c0, .ref w0, .int (nI k), .int (nI n), .long (pt_mk n), .int cl, .int su])), (c0, .inl (kc, 512, .inr (.inl fc))), (w0, .inl (kw, 512, .inr (.inl fv)))]) [0, 1, 2] (by decide) rfl
    have hKc := hK.sub (tys' := [(kc, .long), (kw, .long)]) [0, 1] rfl
    have hFc := va_free (wc := [(h0, .inr (0, [.ref c0, .ref w0, .int (nI k), .int (nI n), .long (pt_mk n), .int cl, .int su])), (c0, .inl (kc, 512, .inr (.inl fc))), (w0, .inl (kw, 512, .inr (.inl fv)))]) hD hS hA [0, 1, 2] rfl
    refine pt_catch (own := RL) (name := "java/lang/IllegalStateException") (pt_runT (As := [.long (lN D)]) (rest := [.int 0, .ref o0]) ⟨hx, hb, hml, hown, hts⟩ (t_signs_ref l hl9 dC dI s0 h0X h0 c0 w0 kc kw k n fc fv cl su D s.heap.size hDb r0 (Or.inr ⟨hk6, hF, hr0⟩)) (cwV 1 hts (pt_gV pw90 pw91 pw92 pw17 pw93) rfl rfl rfl (by decide +kernel) ⟨Nat.le_of_ble_eq_true rfl, Nat.le_of_ble_eq_true rfl⟩) ⟨fun a U g mk q => by obtain ⟨q0, q1, qP, qK, qD, qX⟩ := q; exact ⟨q0, q1, qP, va_K.moved (u := U) (U := U.calling g mk a) (Vm.Alike.refl U.vm) qK, qD, qX⟩, va_recv hK hP (ci := 0) (q0 := 0) rfl rfl, fun U hU hW => ⟨rfl, by rw [hU], by rw [hU]; exact hPc, va_K.moved hW.alike hKc, hDc.weaken (fun _ _ _ h => hAs _ h), hext.on2 hS hAs hU hW⟩⟩ rfl rfl hl.1 rfl (lv_room (Nat.le_of_ble_eq_true rfl)) dL_signs_4 ⟨by decide, by decide⟩) hown [⟨0, 9, 12, 13⟩] ⟨0, 9, 16, 19⟩ [] (by rw [htab]; rfl) (fun z hz => by rw [List.mem_singleton] at hz; subst hz; exact ⟨by decide, "java/lang/IllegalArgumentException", (hts _ (List.mem_cons_of_mem _ pw61)), (h0X.2.2 "java/lang/IllegalStateException" "java/lang/IllegalArgumentException" (by decide)).moved hext.1.alike⟩) (by decide) (by decide) (hts _ (List.mem_cons_of_mem _ pw71)) (pt_X_at h0X hext (.castable "java/lang/IllegalStateException" "java/lang/IllegalStateException") (by decide) _) (fun q st t H1 L h1 h2 h3 h4 hq hL => ?_)
    obtain ⟨hP1, hK1, hD1, hF1⟩ := hq
    rw [h3] at hP1
    obtain ⟨hS, hz1, hk1⟩ := pt_S_call hS hFc h1 h3 hF1 hL
    obtain ⟨hP, hD⟩ := va_join (wr := [(o0, .inl (ko, 1, .inr (.inl fo)))]) (w1 := [(h0, .inr (0, [.ref c0, .ref w0, .int (nI k), .int (nI n), .long (pt_mk n), .int r0, .int su])), (c0, .inl (kc, 512, .inr (.inl fc))), (w0, .inl (kw, 512, .inr (.inl fv)))]) hP hD [0, 1, 2] [3] rfl rfl (by decide) (by decide) hk1 hFc hP1 hD1
    generalize H1 = H at hP hS ⊢
    have hP := hP.sub (ws' := [(h0, .inr (0, [.ref c0, .ref w0, .int (nI k), .int (nI n), .long (pt_mk n), .int r0, .int su])), (c0, .inl (kc, 512, .inr (.inl fc))), (w0, .inl (kw, 512, .inr (.inl fv))), (o0, .inl (ko, 1, .inr (.inl fo)))]) [1, 2, 3, 0] rfl
    have hD := hD.sub (ws' := [(h0, .inr (0, [.ref c0, .ref w0, .int (nI k), .int (nI n), .long (pt_mk n), .int r0, .int su])), (c0, .inl (kc, 512, .inr (.inl fc))), (w0, .inl (kw, 512, .inr (.inl fv))), (o0, .inl (ko, 1, .inr (.inl fo)))]) [1, 2, 3, 0] (by decide) rfl
    refine W.eq (g2 := F0 m 16 ls [.ref q]) rfl ?_
    refine lv_astore (lv' := [(4, .ref q), (0, .ref h0), (1, .long (lN D)), (3, .ref o0)]) hx hb dL_signs_16 hl (by decide) rfl (fun ls hl => ?_)
    refine lv_iconst (v := 2) hx hb dL_signs_18 (by decide) ?_
    rw [← hQ]
    refine W.widen (k := 1) (n := 6) (by omega) (by omega) ?_
    exact W.iret (v := 2) hx hb hr (fun t ht hW => ⟨⟨2, ((k, n, fc, fv, r0, su), fo), rfl, Or.inr ⟨D, hDb, rfl, Or.inr (Or.inl ⟨hk6, r0, hF, hr0, rfl, rfl⟩)⟩, by rw [ht]; exact hP, va_K.moved hW.alike hK, hD⟩, hS.F ht⟩) hS.2.2 dL_signs_19
set_option maxHeartbeats 4000000 in
set_option maxRecDepth 100000 in
/-- the law: meets -/
theorem c_Lmeets (l : Launch) (hl9 : l.stackTraces = false) (dC : Nat → ClassId) (dI : Nat → Nat → Nat) (s0 : State) (h0X : pt_X s0) (h0 c0 w0 : Nat) (kc kw : ClassId) (k n : Nat) (fc fv : Nat → Int64) (cl su : Int32) (o0 : Nat) (ko : ClassId) (fo : Nat → Int64) (a b : Int64) (sz : Nat) (hk : k ≤ 512) : Met l yL_meets wsL_meets ({ frames := 8, cells := 1, slots := 6, locals := 130 }) (va_Pc [.ref h0, .long a, .long b, .ref o0] (fun U => U.heap.size = sz ∧ va_P (dC, dI) vwCl [(h0, .inr (0, [.ref c0, .ref w0, .int (nI k), .int (nI n), .long (pt_mk n), .int cl, .int su])), (c0, .inl (kc, 512, .inr (.inl fc))), (w0, .inl (kw, 512, .inr (.inl fv))), (o0, .inl (ko, 1, .inr (.inl fo)))] U.heap ∧ va_K (dC, dI) vwCl [(kc, .long), (kw, .long), (ko, .long)] U ∧ va_D (fun q => s0.heap.size ≤ q) [(h0, .inr (0, [.ref c0, .ref w0, .int (nI k), .int (nI n), .long (pt_mk n), .int cl, .int su])), (c0, .inl (kc, 512, .inr (.inl fc))), (w0, .inl (kw, 512, .inr (.inl fv))), (o0, .inl (ko, 1, .inr (.inl fo)))] ∧ pt_ext s0 U)) (va_Qi (fun (r : Int32) u => pt_Rmeets k n fc fv a b r (u 0)) (fun (u : Nat → Int64) (t : State) => match u with | fo2 => va_P (dC, dI) vwCl [(h0, .inr (0, [.ref c0, .ref w0, .int (nI k), .int (nI n), .long (pt_mk n), .int cl, .int su])), (c0, .inl (kc, 512, .inr (.inl fc))), (w0, .inl (kw, 512, .inr (.inl fv))), (o0, .inl (ko, 1, .inr (.inl fo2)))] t.heap ∧ va_K (dC, dI) vwCl [(kc, .long), (kw, .long), (ko, .long)] t ∧ va_D (va_A [(h0, .inr (0, [.ref c0, .ref w0, .int (nI k), .int (nI n), .long (pt_mk n), .int cl, .int su])), (c0, .inl (kc, 512, .inr (.inl fc))), (w0, .inl (kw, 512, .inr (.inl fv))), (o0, .inl (ko, 1, .inr (.inl fo)))] sz) [(h0, .inr (0, [.ref c0, .ref w0, .int (nI k), .int (nI n), .long (pt_mk n), .int cl, .int su])), (c0, .inl (kc, 512, .inr (.inl fc))), (w0, .inl (kw, 512, .inr (.inl fv))), (o0, .inl (ko, 1, .inr (.inl fo2)))]) (va_A [(h0, .inr (0, [.ref c0, .ref w0, .int (nI k), .int (nI n), .long (pt_mk n), .int cl, .int su])), (c0, .inl (kc, 512, .inr (.inl fc))), (w0, .inl (kw, 512, .inr (.inl fv))), (o0, .inl (ko, 1, .inr (.inl fo)))] sz)) 1 6 (va_A [(h0, .inr (0, [.ref c0, .ref w0, .int (nI k), .int (nI n), .long (pt_mk n), .int cl, .int su])), (c0, .inl (kc, 512, .inr (.inl fc))), (w0, .inl (kw, 512, .inr (.inl fv))), (o0, .inl (ko, 1, .inr (.inl fo)))] sz) := by
  refine va_MetW (hh := [(0, 11, 14, 13)]) (cc := cL_meets) (maxL := 7) (ret := (some .int)) (by decide) rfl ?_
  intro p e s m args below meth c s₁ B hml hv
  obtain ⟨ha, hsz, hP, hK, hD0, hext⟩ := hv
  subst hsz
  have hx := B.exec
  have hb := B.bytes
  have hr := B.returns
  have hts := atoms_spec (ws := wsL_meets) B.pre
  have hown : s.vm.findClass RL = some m.cls := findClass_of_methodNamed B.named
  have hlocks := B.notSynchronized
  have hl := lv_entry ([.ref h0, .long a, .long b, .ref o0]) (n := 7) (Nat.le_of_ble_eq_true rfl)
  refine W.eq (show entryFrame m args 7 = entryFrame m ([.ref h0, .long a, .long b, .ref o0] : List Value).toArray 7 by rw [ha]) ?_
  rw [lg_entry_eq]
  generalize (lg_sl ([.ref h0, .long a, .long b, .ref o0]) ++ List.replicate (7 - (lg_sl ([.ref h0, .long a, .long b, .ref o0])).length) Slot.unset).toArray = ls at hl ⊢
  have hl : lv_has ls 7 [(0, .ref h0), (1, .long a), (3, .long b), (5, .ref o0)] := hl
  have htab : c.exceptionTable.toList = tableOf [(0, 11, 14, 13)] := pt_table B (hts _ List.mem_cons_self)
  have hD := hD0.self (sz := s.heap.size)
  have hAs : ∀ q : Nat, va_A [(h0, .inr (0, [.ref c0, .ref w0, .int (nI k), .int (nI n), .long (pt_mk n), .int cl, .int su])), (c0, .inl (kc, 512, .inr (.inl fc))), (w0, .inl (kw, 512, .inr (.inl fv))), (o0, .inl (ko, 1, .inr (.inl fo)))] s.heap.size q → s0.heap.size ≤ q := pt_As hD0 hext.2.1
  generalize hAe : va_A [(h0, .inr (0, [.ref c0, .ref w0, .int (nI k), .int (nI n), .long (pt_mk n), .int cl, .int su])), (c0, .inl (kc, 512, .inr (.inl fc))), (w0, .inl (kw, 512, .inr (.inl fv))), (o0, .inl (ko, 1, .inr (.inl fo)))] s.heap.size = A at hD hAs ⊢
  have hA : ∀ q : Nat, s.heap.size ≤ q → A q := fun q h => by rw [← hAe]; exact Or.inr h
  have hS : va_S A s.heap s.heap [] := va_S.rf
  have hP : va_P (dC, dI) vwCl [(h0, .inr (0, [.ref c0, .ref w0, .int (nI k), .int (nI n), .long (pt_mk n), .int cl, .int su])), (c0, .inl (kc, 512, .inr (.inl fc))), (w0, .inl (kw, 512, .inr (.inl fv))), (o0, .inl (ko, 1, .inr (.inl fo)))] s.heap := hP
  generalize hQ : MQ below (va_Qi (fun (r : Int32) u => pt_Rmeets k n fc fv a b r (u 0)) (fun (u : Nat → Int64) (t : State) => match u with | fo2 => va_P (dC, dI) vwCl [(h0, .inr (0, [.ref c0, .ref w0, .int (nI k), .int (nI n), .long (pt_mk n), .int cl, .int su])), (c0, .inl (kc, 512, .inr (.inl fc))), (w0, .inl (kw, 512, .inr (.inl fv))), (o0, .inl (ko, 1, .inr (.inl fo2)))] t.heap ∧ va_K (dC, dI) vwCl [(kc, .long), (kw, .long), (ko, .long)] t ∧ va_D A [(h0, .inr (0, [.ref c0, .ref w0, .int (nI k), .int (nI n), .long (pt_mk n), .int cl, .int su])), (c0, .inl (kc, 512, .inr (.inl fc))), (w0, .inl (kw, 512, .inr (.inl fv))), (o0, .inl (ko, 1, .inr (.inl fo2)))]) A) args s 1 6 A = Q
  refine lv_aload hx hb dL_meets_0 (lv_at hl 3 rfl) ?_
  refine lv_iconst (v := 0) hx hb dL_meets_2 (by decide) ?_
  refine lv_aload_n hx hb dL_meets_3 rfl (lv_at hl 0 rfl) ?_
  refine lv_lload_n hx hb dL_meets_4 rfl (lv_at hl 1 rfl) ?_
  refine lv_lload_n hx hb dL_meets_5 rfl (lv_at hl 2 rfl) ?_
  by_cases hst : pt_stray n a b
  · have hPc := hP.sub (ws' := [(h0, .inr (0, [.ref c0, .ref w0, .int (nI k), .int (nI n), .long (pt_mk n), .int cl, .int su])), (c0, .inl (kc, 512, .inr (.inl fc))), (w0, .inl (kw, 512, .inr (.inl fv)))]) [0, 1, 2] rfl
    have hDc := hD.sub (ws' := [(h0, .inr (0, [.ref c0, .ref w0, .int (nI k), .int (nI n), .long (pt_mk n), .int cl, .int su])), (c0, .inl (kc, 512, .inr (.inl fc))), (w0, .inl (kw, 512, .inr (.inl fv)))]) [0, 1, 2] (by decide) rfl
    have hKc := hK.sub (tys' := [(kc, .long), (kw, .long)]) [0, 1] rfl
    have hFc := va_free (wc := [(h0, .inr (0, [.ref c0, .ref w0, .int (nI k), .int (nI n), .long (pt_mk n), .int cl, .int su])), (c0, .inl (kc, 512, .inr (.inl fc))), (w0, .inl (kw, 512, .inr (.inl fv)))]) hD hS hA [0, 1, 2] rfl
    refine pt_catch (own := RL) (name := "java/lang/IllegalArgumentException") (pt_runT (As := [.long a, .long b]) (rest := [.int 0, .ref o0]) ⟨hx, hb, hml, hown, hts⟩ (t_meets_bad l hl9 dC dI s0 h0X h0 c0 w0 kc kw k n fc fv cl su a b s.heap.size hst) (cwV 2 hts (pt_gV pw112 pw113 pw114 pw17 pw115) rfl rfl rfl (by decide +kernel) ⟨Nat.le_of_ble_eq_true rfl, Nat.le_of_ble_eq_true rfl⟩) ⟨fun a U g mk q => by obtain ⟨q0, q1, qP, qK, qD, qX⟩ := q; exact ⟨q0, q1, qP, va_K.moved (u := U) (U := U.calling g mk a) (Vm.Alike.refl U.vm) qK, qD, qX⟩, va_recv hK hP (ci := 0) (q0 := 0) rfl rfl, fun U hU hW => ⟨rfl, by rw [hU], by rw [hU]; exact hPc, va_K.moved hW.alike hKc, hDc.weaken (fun _ _ _ h => hAs _ h), hext.on2 hS hAs hU hW⟩⟩ rfl rfl hl.1 rfl (lv_room (Nat.le_of_ble_eq_true rfl)) dL_meets_6 ⟨by decide, by decide⟩) hown [] ⟨0, 11, 14, 13⟩ [] (by rw [htab]; rfl) (fun z hz => nomatch hz) (by decide) (by decide) (hts _ (List.mem_cons_of_mem _ pw61)) (pt_X_at h0X hext (.castable "java/lang/IllegalArgumentException" "java/lang/IllegalArgumentException") (by decide) _) (fun q st t H1 L h1 h2 h3 h4 hq hL => ?_)
    obtain ⟨hP1, hK1, hD1, hF1⟩ := hq
    rw [h3] at hP1
    obtain ⟨hS, hz1, hk1⟩ := pt_S_call hS hFc h1 h3 hF1 hL
    obtain ⟨hP, hD⟩ := va_join (wr := [(o0, .inl (ko, 1, .inr (.inl fo)))]) (w1 := [(h0, .inr (0, [.ref c0, .ref w0, .int (nI k), .int (nI n), .long (pt_mk n), .int cl, .int su])), (c0, .inl (kc, 512, .inr (.inl fc))), (w0, .inl (kw, 512, .inr (.inl fv)))]) hP hD [0, 1, 2] [3] rfl rfl (by decide) (by decide) hk1 hFc hP1 hD1
    generalize H1 = H at hP hS ⊢
    have hP := hP.sub (ws' := [(h0, .inr (0, [.ref c0, .ref w0, .int (nI k), .int (nI n), .long (pt_mk n), .int cl, .int su])), (c0, .inl (kc, 512, .inr (.inl fc))), (w0, .inl (kw, 512, .inr (.inl fv))), (o0, .inl (ko, 1, .inr (.inl fo)))]) [1, 2, 3, 0] rfl
    have hD := hD.sub (ws' := [(h0, .inr (0, [.ref c0, .ref w0, .int (nI k), .int (nI n), .long (pt_mk n), .int cl, .int su])), (c0, .inl (kc, 512, .inr (.inl fc))), (w0, .inl (kw, 512, .inr (.inl fv))), (o0, .inl (ko, 1, .inr (.inl fo)))]) [1, 2, 3, 0] (by decide) rfl
    refine W.eq (g2 := F0 m 14 ls [.ref q]) rfl ?_
    refine lv_astore (lv' := [(6, .ref q), (0, .ref h0), (1, .long a), (3, .long b), (5, .ref o0)]) hx hb dL_meets_14 hl (by decide) rfl (fun ls hl => ?_)
    refine lv_iconst (v := 1) hx hb dL_meets_16 (by decide) ?_
    rw [← hQ]
    refine W.widen (k := 1) (n := 6) (by omega) (by omega) ?_
    exact W.iret (v := 1) hx hb hr (fun t ht hW => ⟨⟨1, fo, rfl, Or.inl ⟨hst, rfl⟩, by rw [ht]; exact hP, va_K.moved hW.alike hK, hD⟩, hS.F ht⟩) hS.2.2 dL_meets_17
  refine vp_callSi (W.runV (As := [.long a, .long b]) (rest := [.int 0, .ref o0]) ⟨hx, hb, hml, hown, hts⟩ (c_meets l dC dI h0 c0 w0 kc kw k n fc fv cl su a b hst hk) (cwV 2 hts (pt_gV pw112 pw113 pw114 pw17 pw115) rfl rfl rfl (by decide +kernel) ⟨Nat.le_of_ble_eq_true rfl, Nat.le_of_ble_eq_true rfl⟩) ⟨fun a U g mk q => by obtain ⟨q0, qP, qK⟩ := q; exact ⟨q0, qP, va_K.moved (u := U) (U := U.calling g mk a) (Vm.Alike.refl U.vm) qK⟩, va_recv hK hP (ci := 0) (q0 := 0) rfl rfl, fun U hU hW => ⟨rfl, by rw [hU]; exact (hP.sub (ws' := [(h0, .inr (0, [.ref c0, .ref w0, .int (nI k), .int (nI n), .long (pt_mk n), .int cl, .int su])), (c0, .inl (kc, 512, .inr (.inl fc))), (w0, .inl (kw, 512, .inr (.inl fv)))]) [0, 1, 2] rfl), va_K.moved hW.alike (hK.sub (tys' := [(kc, .long), (kw, .long)]) [0, 1] rfl)⟩⟩ rfl rfl hl.1 rfl (lv_room (Nat.le_of_ble_eq_true rfl)) dL_meets_6 ⟨Nat.zero_le _, Nat.zero_le _⟩) (fun r1 hw => ?_)
  refine lv_i2l (v := r1.toInt64) hx hb dL_meets_9 rfl ?_
  refine va_last hx hb hK hP hD hS 3 2 rfl rfl (vp_in_nI (n := 0) (by decide) (by decide)) dL_meets_10 (fun H locs hP hD hS => ?_)
  rw [show Int32.toNatClampNeg 0 = 0 by decide] at hP hD
  have hP : va_P (dC, dI) vwCl [(h0, .inr (0, [.ref c0, .ref w0, .int (nI k), .int (nI n), .long (pt_mk n), .int cl, .int su])), (c0, .inl (kc, 512, .inr (.inl fc))), (w0, .inl (kw, 512, .inr (.inl fv))), (o0, .inl (ko, 1, .inr (.inl (vp_updL fo 0 r1.toInt64))))] H := hP
  have hD : va_D A [(h0, .inr (0, [.ref c0, .ref w0, .int (nI k), .int (nI n), .long (pt_mk n), .int cl, .int su])), (c0, .inl (kc, 512, .inr (.inl fc))), (w0, .inl (kw, 512, .inr (.inl fv))), (o0, .inl (ko, 1, .inr (.inl (vp_updL fo 0 r1.toInt64))))] := hD
  refine lv_goto (tgt := 18) hx hb dL_meets_11 (by decide) ?_
  refine lv_iconst (v := 0) hx hb dL_meets_18 (by decide) ?_
  rw [← hQ]
  refine W.widen (k := 1) (n := 6) (by omega) (by omega) ?_
  exact W.iret (v := 0) hx hb hr (fun t ht hW => ⟨⟨0, vp_updL fo 0 r1.toInt64, rfl, Or.inr ⟨hst, rfl, r1, hw, pk_uLs⟩, by rw [ht]; exact hP, va_K.moved hW.alike hK, hD⟩, hS.F ht⟩) hS.2.2 dL_meets_19
set_option maxHeartbeats 4000000 in
set_option maxRecDepth 100000 in
/-- the law: free -/
theorem c_Lfree (l : Launch) (hl9 : l.stackTraces = false) (dC : Nat → ClassId) (dI : Nat → Nat → Nat) (s0 : State) (h0X : pt_X s0) (h0 c0 w0 : Nat) (kc kw : ClassId) (k n : Nat) (fc fv : Nat → Int64) (cl su : Int32) (o0 : Nat) (ko : ClassId) (fo : Nat → Int64) (a b : Int64) (sz : Nat) (hk : k ≤ 512) : Met l yL_free wsL_free ({ frames := 8, cells := 1, slots := 6, locals := 130 }) (va_Pc [.ref h0, .long a, .long b, .ref o0] (fun U => U.heap.size = sz ∧ va_P (dC, dI) vwCl [(h0, .inr (0, [.ref c0, .ref w0, .int (nI k), .int (nI n), .long (pt_mk n), .int cl, .int su])), (c0, .inl (kc, 512, .inr (.inl fc))), (w0, .inl (kw, 512, .inr (.inl fv))), (o0, .inl (ko, 1, .inr (.inl fo)))] U.heap ∧ va_K (dC, dI) vwCl [(kc, .long), (kw, .long), (ko, .long)] U ∧ va_D (fun q => s0.heap.size ≤ q) [(h0, .inr (0, [.ref c0, .ref w0, .int (nI k), .int (nI n), .long (pt_mk n), .int cl, .int su])), (c0, .inl (kc, 512, .inr (.inl fc))), (w0, .inl (kw, 512, .inr (.inl fv))), (o0, .inl (ko, 1, .inr (.inl fo)))] ∧ pt_ext s0 U)) (va_Qi (fun (r : Int32) u => pt_Rfree k n fc fv a b r (u 0)) (fun (u : Nat → Int64) (t : State) => match u with | fo2 => va_P (dC, dI) vwCl [(h0, .inr (0, [.ref c0, .ref w0, .int (nI k), .int (nI n), .long (pt_mk n), .int cl, .int su])), (c0, .inl (kc, 512, .inr (.inl fc))), (w0, .inl (kw, 512, .inr (.inl fv))), (o0, .inl (ko, 1, .inr (.inl fo2)))] t.heap ∧ va_K (dC, dI) vwCl [(kc, .long), (kw, .long), (ko, .long)] t ∧ va_D (va_A [(h0, .inr (0, [.ref c0, .ref w0, .int (nI k), .int (nI n), .long (pt_mk n), .int cl, .int su])), (c0, .inl (kc, 512, .inr (.inl fc))), (w0, .inl (kw, 512, .inr (.inl fv))), (o0, .inl (ko, 1, .inr (.inl fo)))] sz) [(h0, .inr (0, [.ref c0, .ref w0, .int (nI k), .int (nI n), .long (pt_mk n), .int cl, .int su])), (c0, .inl (kc, 512, .inr (.inl fc))), (w0, .inl (kw, 512, .inr (.inl fv))), (o0, .inl (ko, 1, .inr (.inl fo2)))]) (va_A [(h0, .inr (0, [.ref c0, .ref w0, .int (nI k), .int (nI n), .long (pt_mk n), .int cl, .int su])), (c0, .inl (kc, 512, .inr (.inl fc))), (w0, .inl (kw, 512, .inr (.inl fv))), (o0, .inl (ko, 1, .inr (.inl fo)))] sz)) 1 6 (va_A [(h0, .inr (0, [.ref c0, .ref w0, .int (nI k), .int (nI n), .long (pt_mk n), .int cl, .int su])), (c0, .inl (kc, 512, .inr (.inl fc))), (w0, .inl (kw, 512, .inr (.inl fv))), (o0, .inl (ko, 1, .inr (.inl fo)))] sz) := by
  refine va_MetW (hh := [(0, 10, 13, 13)]) (cc := cL_free) (maxL := 7) (ret := (some .int)) (by decide) rfl ?_
  intro p e s m args below meth c s₁ B hml hv
  obtain ⟨ha, hsz, hP, hK, hD0, hext⟩ := hv
  subst hsz
  have hx := B.exec
  have hb := B.bytes
  have hr := B.returns
  have hts := atoms_spec (ws := wsL_free) B.pre
  have hown : s.vm.findClass RL = some m.cls := findClass_of_methodNamed B.named
  have hlocks := B.notSynchronized
  have hl := lv_entry ([.ref h0, .long a, .long b, .ref o0]) (n := 7) (Nat.le_of_ble_eq_true rfl)
  refine W.eq (show entryFrame m args 7 = entryFrame m ([.ref h0, .long a, .long b, .ref o0] : List Value).toArray 7 by rw [ha]) ?_
  rw [lg_entry_eq]
  generalize (lg_sl ([.ref h0, .long a, .long b, .ref o0]) ++ List.replicate (7 - (lg_sl ([.ref h0, .long a, .long b, .ref o0])).length) Slot.unset).toArray = ls at hl ⊢
  have hl : lv_has ls 7 [(0, .ref h0), (1, .long a), (3, .long b), (5, .ref o0)] := hl
  have htab : c.exceptionTable.toList = tableOf [(0, 10, 13, 13)] := pt_table B (hts _ List.mem_cons_self)
  have hD := hD0.self (sz := s.heap.size)
  have hAs : ∀ q : Nat, va_A [(h0, .inr (0, [.ref c0, .ref w0, .int (nI k), .int (nI n), .long (pt_mk n), .int cl, .int su])), (c0, .inl (kc, 512, .inr (.inl fc))), (w0, .inl (kw, 512, .inr (.inl fv))), (o0, .inl (ko, 1, .inr (.inl fo)))] s.heap.size q → s0.heap.size ≤ q := pt_As hD0 hext.2.1
  generalize hAe : va_A [(h0, .inr (0, [.ref c0, .ref w0, .int (nI k), .int (nI n), .long (pt_mk n), .int cl, .int su])), (c0, .inl (kc, 512, .inr (.inl fc))), (w0, .inl (kw, 512, .inr (.inl fv))), (o0, .inl (ko, 1, .inr (.inl fo)))] s.heap.size = A at hD hAs ⊢
  have hA : ∀ q : Nat, s.heap.size ≤ q → A q := fun q h => by rw [← hAe]; exact Or.inr h
  have hS : va_S A s.heap s.heap [] := va_S.rf
  have hP : va_P (dC, dI) vwCl [(h0, .inr (0, [.ref c0, .ref w0, .int (nI k), .int (nI n), .long (pt_mk n), .int cl, .int su])), (c0, .inl (kc, 512, .inr (.inl fc))), (w0, .inl (kw, 512, .inr (.inl fv))), (o0, .inl (ko, 1, .inr (.inl fo)))] s.heap := hP
  generalize hQ : MQ below (va_Qi (fun (r : Int32) u => pt_Rfree k n fc fv a b r (u 0)) (fun (u : Nat → Int64) (t : State) => match u with | fo2 => va_P (dC, dI) vwCl [(h0, .inr (0, [.ref c0, .ref w0, .int (nI k), .int (nI n), .long (pt_mk n), .int cl, .int su])), (c0, .inl (kc, 512, .inr (.inl fc))), (w0, .inl (kw, 512, .inr (.inl fv))), (o0, .inl (ko, 1, .inr (.inl fo2)))] t.heap ∧ va_K (dC, dI) vwCl [(kc, .long), (kw, .long), (ko, .long)] t ∧ va_D A [(h0, .inr (0, [.ref c0, .ref w0, .int (nI k), .int (nI n), .long (pt_mk n), .int cl, .int su])), (c0, .inl (kc, 512, .inr (.inl fc))), (w0, .inl (kw, 512, .inr (.inl fv))), (o0, .inl (ko, 1, .inr (.inl fo2)))]) A) args s 1 6 A = Q
  refine lv_aload hx hb dL_free_0 (lv_at hl 3 rfl) ?_
  refine lv_iconst (v := 0) hx hb dL_free_2 (by decide) ?_
  refine lv_aload_n hx hb dL_free_3 rfl (lv_at hl 0 rfl) ?_
  refine lv_lload_n hx hb dL_free_4 rfl (lv_at hl 1 rfl) ?_
  refine lv_lload_n hx hb dL_free_5 rfl (lv_at hl 2 rfl) ?_
  by_cases hst : pt_stray n a b
  · have hPc := hP.sub (ws' := [(h0, .inr (0, [.ref c0, .ref w0, .int (nI k), .int (nI n), .long (pt_mk n), .int cl, .int su])), (c0, .inl (kc, 512, .inr (.inl fc))), (w0, .inl (kw, 512, .inr (.inl fv)))]) [0, 1, 2] rfl
    have hDc := hD.sub (ws' := [(h0, .inr (0, [.ref c0, .ref w0, .int (nI k), .int (nI n), .long (pt_mk n), .int cl, .int su])), (c0, .inl (kc, 512, .inr (.inl fc))), (w0, .inl (kw, 512, .inr (.inl fv)))]) [0, 1, 2] (by decide) rfl
    have hKc := hK.sub (tys' := [(kc, .long), (kw, .long)]) [0, 1] rfl
    have hFc := va_free (wc := [(h0, .inr (0, [.ref c0, .ref w0, .int (nI k), .int (nI n), .long (pt_mk n), .int cl, .int su])), (c0, .inl (kc, 512, .inr (.inl fc))), (w0, .inl (kw, 512, .inr (.inl fv)))]) hD hS hA [0, 1, 2] rfl
    refine pt_catch (own := RL) (name := "java/lang/IllegalArgumentException") (pt_runT (As := [.long a, .long b]) (rest := [.int 0, .ref o0]) ⟨hx, hb, hml, hown, hts⟩ (t_free_bad l hl9 dC dI s0 h0X h0 c0 w0 kc kw k n fc fv cl su a b s.heap.size hst) (cwV 2 hts (pt_gV pw119 pw120 pw121 pw17 pw122) rfl rfl rfl (by decide +kernel) ⟨Nat.le_of_ble_eq_true rfl, Nat.le_of_ble_eq_true rfl⟩) ⟨fun a U g mk q => by obtain ⟨q0, q1, qP, qK, qD, qX⟩ := q; exact ⟨q0, q1, qP, va_K.moved (u := U) (U := U.calling g mk a) (Vm.Alike.refl U.vm) qK, qD, qX⟩, va_recv hK hP (ci := 0) (q0 := 0) rfl rfl, fun U hU hW => ⟨rfl, by rw [hU], by rw [hU]; exact hPc, va_K.moved hW.alike hKc, hDc.weaken (fun _ _ _ h => hAs _ h), hext.on2 hS hAs hU hW⟩⟩ rfl rfl hl.1 rfl (lv_room (Nat.le_of_ble_eq_true rfl)) dL_free_6 ⟨by decide, by decide⟩) hown [] ⟨0, 10, 13, 13⟩ [] (by rw [htab]; rfl) (fun z hz => nomatch hz) (by decide) (by decide) (hts _ (List.mem_cons_of_mem _ pw61)) (pt_X_at h0X hext (.castable "java/lang/IllegalArgumentException" "java/lang/IllegalArgumentException") (by decide) _) (fun q st t H1 L h1 h2 h3 h4 hq hL => ?_)
    obtain ⟨hP1, hK1, hD1, hF1⟩ := hq
    rw [h3] at hP1
    obtain ⟨hS, hz1, hk1⟩ := pt_S_call hS hFc h1 h3 hF1 hL
    obtain ⟨hP, hD⟩ := va_join (wr := [(o0, .inl (ko, 1, .inr (.inl fo)))]) (w1 := [(h0, .inr (0, [.ref c0, .ref w0, .int (nI k), .int (nI n), .long (pt_mk n), .int cl, .int su])), (c0, .inl (kc, 512, .inr (.inl fc))), (w0, .inl (kw, 512, .inr (.inl fv)))]) hP hD [0, 1, 2] [3] rfl rfl (by decide) (by decide) hk1 hFc hP1 hD1
    generalize H1 = H at hP hS ⊢
    have hP := hP.sub (ws' := [(h0, .inr (0, [.ref c0, .ref w0, .int (nI k), .int (nI n), .long (pt_mk n), .int cl, .int su])), (c0, .inl (kc, 512, .inr (.inl fc))), (w0, .inl (kw, 512, .inr (.inl fv))), (o0, .inl (ko, 1, .inr (.inl fo)))]) [1, 2, 3, 0] rfl
    have hD := hD.sub (ws' := [(h0, .inr (0, [.ref c0, .ref w0, .int (nI k), .int (nI n), .long (pt_mk n), .int cl, .int su])), (c0, .inl (kc, 512, .inr (.inl fc))), (w0, .inl (kw, 512, .inr (.inl fv))), (o0, .inl (ko, 1, .inr (.inl fo)))]) [1, 2, 3, 0] (by decide) rfl
    refine W.eq (g2 := F0 m 13 ls [.ref q]) rfl ?_
    refine lv_astore (lv' := [(6, .ref q), (0, .ref h0), (1, .long a), (3, .long b), (5, .ref o0)]) hx hb dL_free_13 hl (by decide) rfl (fun ls hl => ?_)
    refine lv_iconst (v := 1) hx hb dL_free_15 (by decide) ?_
    rw [← hQ]
    refine W.widen (k := 1) (n := 6) (by omega) (by omega) ?_
    exact W.iret (v := 1) hx hb hr (fun t ht hW => ⟨⟨1, fo, rfl, Or.inl ⟨hst, rfl⟩, by rw [ht]; exact hP, va_K.moved hW.alike hK, hD⟩, hS.F ht⟩) hS.2.2 dL_free_16
  refine vp_callSl (W.runV (As := [.long a, .long b]) (rest := [.int 0, .ref o0]) ⟨hx, hb, hml, hown, hts⟩ (c_free l dC dI h0 c0 w0 kc kw k n fc fv cl su a b hst hk) (cwV 2 hts (pt_gV pw119 pw120 pw121 pw17 pw122) rfl rfl rfl (by decide +kernel) ⟨Nat.le_of_ble_eq_true rfl, Nat.le_of_ble_eq_true rfl⟩) ⟨fun a U g mk q => by obtain ⟨q0, qP, qK⟩ := q; exact ⟨q0, qP, va_K.moved (u := U) (U := U.calling g mk a) (Vm.Alike.refl U.vm) qK⟩, va_recv hK hP (ci := 0) (q0 := 0) rfl rfl, fun U hU hW => ⟨rfl, by rw [hU]; exact (hP.sub (ws' := [(h0, .inr (0, [.ref c0, .ref w0, .int (nI k), .int (nI n), .long (pt_mk n), .int cl, .int su])), (c0, .inl (kc, 512, .inr (.inl fc))), (w0, .inl (kw, 512, .inr (.inl fv)))]) [0, 1, 2] rfl), va_K.moved hW.alike (hK.sub (tys' := [(kc, .long), (kw, .long)]) [0, 1] rfl)⟩⟩ rfl rfl hl.1 rfl (lv_room (Nat.le_of_ble_eq_true rfl)) dL_free_6 ⟨Nat.zero_le _, Nat.zero_le _⟩) (fun r1 hw => ?_)
  refine va_last hx hb hK hP hD hS 3 2 rfl rfl (vp_in_nI (n := 0) (by decide) (by decide)) dL_free_9 (fun H locs hP hD hS => ?_)
  rw [show Int32.toNatClampNeg 0 = 0 by decide] at hP hD
  have hP : va_P (dC, dI) vwCl [(h0, .inr (0, [.ref c0, .ref w0, .int (nI k), .int (nI n), .long (pt_mk n), .int cl, .int su])), (c0, .inl (kc, 512, .inr (.inl fc))), (w0, .inl (kw, 512, .inr (.inl fv))), (o0, .inl (ko, 1, .inr (.inl (vp_updL fo 0 r1))))] H := hP
  have hD : va_D A [(h0, .inr (0, [.ref c0, .ref w0, .int (nI k), .int (nI n), .long (pt_mk n), .int cl, .int su])), (c0, .inl (kc, 512, .inr (.inl fc))), (w0, .inl (kw, 512, .inr (.inl fv))), (o0, .inl (ko, 1, .inr (.inl (vp_updL fo 0 r1))))] := hD
  refine lv_goto (tgt := 17) hx hb dL_free_10 (by decide) ?_
  refine lv_iconst (v := 0) hx hb dL_free_17 (by decide) ?_
  rw [← hQ]
  refine W.widen (k := 1) (n := 6) (by omega) (by omega) ?_
  exact W.iret (v := 0) hx hb hr (fun t ht hW => ⟨⟨0, vp_updL fo 0 r1, rfl, Or.inr ⟨hst, rfl, pk_uLs.trans hw⟩, by rw [ht]; exact hP, va_K.moved hW.alike hK, hD⟩, hS.F ht⟩) hS.2.2 dL_free_18
set_option maxHeartbeats 4000000 in
set_option maxRecDepth 100000 in
/-- the law: next -/
theorem c_Lnext (l : Launch) (hl9 : l.stackTraces = false) (dC : Nat → ClassId) (dI : Nat → Nat → Nat) (s0 : State) (h0X : pt_X s0) (h0 c0 w0 : Nat) (kc kw : ClassId) (k n : Nat) (fc fv : Nat → Int64) (cl su : Int32) (o0 : Nat) (ko : ClassId) (fo : Nat → Int64) (a : Int64) (sz : Nat) (hk : k ≤ 512) (hn2 : n ≤ 64) : Met l yL_next wsL_next ({ frames := 7, cells := 1, slots := 6, locals := 124 }) (va_Pc [.ref h0, .long a, .ref o0] (fun U => U.heap.size = sz ∧ va_P (dC, dI) vwCl [(h0, .inr (0, [.ref c0, .ref w0, .int (nI k), .int (nI n), .long (pt_mk n), .int cl, .int su])), (c0, .inl (kc, 512, .inr (.inl fc))), (w0, .inl (kw, 512, .inr (.inl fv))), (o0, .inl (ko, 1, .inr (.inl fo)))] U.heap ∧ va_K (dC, dI) vwCl [(kc, .long), (kw, .long), (ko, .long)] U ∧ va_D (fun q => s0.heap.size ≤ q) [(h0, .inr (0, [.ref c0, .ref w0, .int (nI k), .int (nI n), .long (pt_mk n), .int cl, .int su])), (c0, .inl (kc, 512, .inr (.inl fc))), (w0, .inl (kw, 512, .inr (.inl fv))), (o0, .inl (ko, 1, .inr (.inl fo)))] ∧ pt_ext s0 U)) (va_Qi (fun (r : Int32) u => pt_Rnext k n fc fv a r (u 0)) (fun (u : Nat → Int64) (t : State) => match u with | fo2 => va_P (dC, dI) vwCl [(h0, .inr (0, [.ref c0, .ref w0, .int (nI k), .int (nI n), .long (pt_mk n), .int cl, .int su])), (c0, .inl (kc, 512, .inr (.inl fc))), (w0, .inl (kw, 512, .inr (.inl fv))), (o0, .inl (ko, 1, .inr (.inl fo2)))] t.heap ∧ va_K (dC, dI) vwCl [(kc, .long), (kw, .long), (ko, .long)] t ∧ va_D (va_A [(h0, .inr (0, [.ref c0, .ref w0, .int (nI k), .int (nI n), .long (pt_mk n), .int cl, .int su])), (c0, .inl (kc, 512, .inr (.inl fc))), (w0, .inl (kw, 512, .inr (.inl fv))), (o0, .inl (ko, 1, .inr (.inl fo)))] sz) [(h0, .inr (0, [.ref c0, .ref w0, .int (nI k), .int (nI n), .long (pt_mk n), .int cl, .int su])), (c0, .inl (kc, 512, .inr (.inl fc))), (w0, .inl (kw, 512, .inr (.inl fv))), (o0, .inl (ko, 1, .inr (.inl fo2)))]) (va_A [(h0, .inr (0, [.ref c0, .ref w0, .int (nI k), .int (nI n), .long (pt_mk n), .int cl, .int su])), (c0, .inl (kc, 512, .inr (.inl fc))), (w0, .inl (kw, 512, .inr (.inl fv))), (o0, .inl (ko, 1, .inr (.inl fo)))] sz)) 1 6 (va_A [(h0, .inr (0, [.ref c0, .ref w0, .int (nI k), .int (nI n), .long (pt_mk n), .int cl, .int su])), (c0, .inl (kc, 512, .inr (.inl fc))), (w0, .inl (kw, 512, .inr (.inl fv))), (o0, .inl (ko, 1, .inr (.inl fo)))] sz) := by
  refine va_MetW (hh := [(0, 8, 11, 28)]) (cc := cL_next) (maxL := 5) (ret := (some .int)) (by decide) rfl ?_
  intro p e s m args below meth c s₁ B hml hv
  obtain ⟨ha, hsz, hP, hK, hD0, hext⟩ := hv
  subst hsz
  have hx := B.exec
  have hb := B.bytes
  have hr := B.returns
  have hts := atoms_spec (ws := wsL_next) B.pre
  have hown : s.vm.findClass RL = some m.cls := findClass_of_methodNamed B.named
  have hlocks := B.notSynchronized
  have hl := lv_entry ([.ref h0, .long a, .ref o0]) (n := 5) (Nat.le_of_ble_eq_true rfl)
  refine W.eq (show entryFrame m args 5 = entryFrame m ([.ref h0, .long a, .ref o0] : List Value).toArray 5 by rw [ha]) ?_
  rw [lg_entry_eq]
  generalize (lg_sl ([.ref h0, .long a, .ref o0]) ++ List.replicate (5 - (lg_sl ([.ref h0, .long a, .ref o0])).length) Slot.unset).toArray = ls at hl ⊢
  have hl : lv_has ls 5 [(0, .ref h0), (1, .long a), (3, .ref o0)] := hl
  have htab : c.exceptionTable.toList = tableOf [(0, 8, 11, 28)] := pt_table B (hts _ List.mem_cons_self)
  have hD := hD0.self (sz := s.heap.size)
  have hAs : ∀ q : Nat, va_A [(h0, .inr (0, [.ref c0, .ref w0, .int (nI k), .int (nI n), .long (pt_mk n), .int cl, .int su])), (c0, .inl (kc, 512, .inr (.inl fc))), (w0, .inl (kw, 512, .inr (.inl fv))), (o0, .inl (ko, 1, .inr (.inl fo)))] s.heap.size q → s0.heap.size ≤ q := pt_As hD0 hext.2.1
  generalize hAe : va_A [(h0, .inr (0, [.ref c0, .ref w0, .int (nI k), .int (nI n), .long (pt_mk n), .int cl, .int su])), (c0, .inl (kc, 512, .inr (.inl fc))), (w0, .inl (kw, 512, .inr (.inl fv))), (o0, .inl (ko, 1, .inr (.inl fo)))] s.heap.size = A at hD hAs ⊢
  have hA : ∀ q : Nat, s.heap.size ≤ q → A q := fun q h => by rw [← hAe]; exact Or.inr h
  have hS : va_S A s.heap s.heap [] := va_S.rf
  have hP : va_P (dC, dI) vwCl [(h0, .inr (0, [.ref c0, .ref w0, .int (nI k), .int (nI n), .long (pt_mk n), .int cl, .int su])), (c0, .inl (kc, 512, .inr (.inl fc))), (w0, .inl (kw, 512, .inr (.inl fv))), (o0, .inl (ko, 1, .inr (.inl fo)))] s.heap := hP
  generalize hQ : MQ below (va_Qi (fun (r : Int32) u => pt_Rnext k n fc fv a r (u 0)) (fun (u : Nat → Int64) (t : State) => match u with | fo2 => va_P (dC, dI) vwCl [(h0, .inr (0, [.ref c0, .ref w0, .int (nI k), .int (nI n), .long (pt_mk n), .int cl, .int su])), (c0, .inl (kc, 512, .inr (.inl fc))), (w0, .inl (kw, 512, .inr (.inl fv))), (o0, .inl (ko, 1, .inr (.inl fo2)))] t.heap ∧ va_K (dC, dI) vwCl [(kc, .long), (kw, .long), (ko, .long)] t ∧ va_D A [(h0, .inr (0, [.ref c0, .ref w0, .int (nI k), .int (nI n), .long (pt_mk n), .int cl, .int su])), (c0, .inl (kc, 512, .inr (.inl fc))), (w0, .inl (kw, 512, .inr (.inl fv))), (o0, .inl (ko, 1, .inr (.inl fo2)))]) A) args s 1 6 A = Q
  refine lv_aload_n hx hb dL_next_0 rfl (lv_at hl 2 rfl) ?_
  refine lv_iconst (v := 0) hx hb dL_next_1 (by decide) ?_
  refine lv_aload_n hx hb dL_next_2 rfl (lv_at hl 0 rfl) ?_
  refine lv_lload_n hx hb dL_next_3 rfl (lv_at hl 1 rfl) ?_
  by_cases hfree : ∀ j, j < k → ¬ pt_sh (fc j) (fv j) (pt_mk n) (a &&& pt_mk n)
  · refine vp_callSl (W.runV (As := [.long a]) (rest := [.int 0, .ref o0]) ⟨hx, hb, hml, hown, hts⟩ (c_next_free l dC dI h0 c0 w0 kc kw k n fc fv cl su a hk hfree) (cwV 1 hts (pt_gV pw138 pw139 pw140 pw17 pw141) rfl rfl rfl (by decide +kernel) ⟨Nat.le_of_ble_eq_true rfl, Nat.le_of_ble_eq_true rfl⟩) ⟨fun a U g mk q => by obtain ⟨q0, qP, qK⟩ := q; exact ⟨q0, qP, va_K.moved (u := U) (U := U.calling g mk a) (Vm.Alike.refl U.vm) qK⟩, va_recv hK hP (ci := 0) (q0 := 0) rfl rfl, fun U hU hW => ⟨rfl, by rw [hU]; exact (hP.sub (ws' := [(h0, .inr (0, [.ref c0, .ref w0, .int (nI k), .int (nI n), .long (pt_mk n), .int cl, .int su])), (c0, .inl (kc, 512, .inr (.inl fc))), (w0, .inl (kw, 512, .inr (.inl fv)))]) [0, 1, 2] rfl), va_K.moved hW.alike (hK.sub (tys' := [(kc, .long), (kw, .long)]) [0, 1] rfl)⟩⟩ rfl rfl hl.1 rfl (lv_room (Nat.le_of_ble_eq_true rfl)) dL_next_4 ⟨Nat.zero_le _, Nat.zero_le _⟩) (fun r1 hw => ?_)
    refine va_last hx hb hK hP hD hS 3 2 rfl rfl (vp_in_nI (n := 0) (by decide) (by decide)) dL_next_7 (fun H locs hP hD hS => ?_)
    rw [show Int32.toNatClampNeg 0 = 0 by decide] at hP hD
    have hP : va_P (dC, dI) vwCl [(h0, .inr (0, [.ref c0, .ref w0, .int (nI k), .int (nI n), .long (pt_mk n), .int cl, .int su])), (c0, .inl (kc, 512, .inr (.inl fc))), (w0, .inl (kw, 512, .inr (.inl fv))), (o0, .inl (ko, 1, .inr (.inl (vp_updL fo 0 r1))))] H := hP
    have hD : va_D A [(h0, .inr (0, [.ref c0, .ref w0, .int (nI k), .int (nI n), .long (pt_mk n), .int cl, .int su])), (c0, .inl (kc, 512, .inr (.inl fc))), (w0, .inl (kw, 512, .inr (.inl fv))), (o0, .inl (ko, 1, .inr (.inl (vp_updL fo 0 r1))))] := hD
    refine lv_goto (tgt := 15) hx hb dL_next_8 (by decide) ?_
    refine lv_iconst (v := 0) hx hb dL_next_15 (by decide) ?_
    rw [← hQ]
    refine W.widen (k := 1) (n := 6) (by omega) (by omega) ?_
    exact W.iret (v := 0) hx hb hr (fun t ht hW => ⟨⟨0, vp_updL fo 0 r1, rfl, Or.inl ⟨hfree, rfl, pk_uLs.trans hw⟩, by rw [ht]; exact hP, va_K.moved hW.alike hK, hD⟩, hS.F ht⟩) hS.2.2 dL_next_16
  rcases pt_least_or (pt_N k n fc fv (a &&& pt_mk n)) n with ⟨i, hin, hit, hlow⟩ | hnone
  · refine vp_callSl (W.runV (As := [.long a]) (rest := [.int 0, .ref o0]) ⟨hx, hb, hml, hown, hts⟩ (c_next_at l dC dI h0 c0 w0 kc kw k n fc fv cl su a i hk hn2 hfree hin hit hlow) (cwV 1 hts (pt_gV pw138 pw139 pw140 pw17 pw141) rfl rfl rfl (by decide +kernel) ⟨Nat.le_of_ble_eq_true rfl, Nat.le_of_ble_eq_true rfl⟩) ⟨fun a U g mk q => by obtain ⟨q0, qP, qK⟩ := q; exact ⟨q0, qP, va_K.moved (u := U) (U := U.calling g mk a) (Vm.Alike.refl U.vm) qK⟩, va_recv hK hP (ci := 0) (q0 := 0) rfl rfl, fun U hU hW => ⟨rfl, by rw [hU]; exact (hP.sub (ws' := [(h0, .inr (0, [.ref c0, .ref w0, .int (nI k), .int (nI n), .long (pt_mk n), .int cl, .int su])), (c0, .inl (kc, 512, .inr (.inl fc))), (w0, .inl (kw, 512, .inr (.inl fv)))]) [0, 1, 2] rfl), va_K.moved hW.alike (hK.sub (tys' := [(kc, .long), (kw, .long)]) [0, 1] rfl)⟩⟩ rfl rfl hl.1 rfl (lv_room (Nat.le_of_ble_eq_true rfl)) dL_next_4 ⟨Nat.zero_le _, Nat.zero_le _⟩) (fun r2 hw => ?_)
    refine va_last hx hb hK hP hD hS 3 2 rfl rfl (vp_in_nI (n := 0) (by decide) (by decide)) dL_next_7 (fun H locs hP hD hS => ?_)
    rw [show Int32.toNatClampNeg 0 = 0 by decide] at hP hD
    have hP : va_P (dC, dI) vwCl [(h0, .inr (0, [.ref c0, .ref w0, .int (nI k), .int (nI n), .long (pt_mk n), .int cl, .int su])), (c0, .inl (kc, 512, .inr (.inl fc))), (w0, .inl (kw, 512, .inr (.inl fv))), (o0, .inl (ko, 1, .inr (.inl (vp_updL fo 0 r2))))] H := hP
    have hD : va_D A [(h0, .inr (0, [.ref c0, .ref w0, .int (nI k), .int (nI n), .long (pt_mk n), .int cl, .int su])), (c0, .inl (kc, 512, .inr (.inl fc))), (w0, .inl (kw, 512, .inr (.inl fv))), (o0, .inl (ko, 1, .inr (.inl (vp_updL fo 0 r2))))] := hD
    refine lv_goto (tgt := 15) hx hb dL_next_8 (by decide) ?_
    refine lv_iconst (v := 0) hx hb dL_next_15 (by decide) ?_
    rw [← hQ]
    refine W.widen (k := 1) (n := 6) (by omega) (by omega) ?_
    exact W.iret (v := 0) hx hb hr (fun t ht hW => ⟨⟨0, vp_updL fo 0 r2, rfl, Or.inr ⟨hfree, Or.inl ⟨i, hin, hit, hlow, rfl, pk_uLs.trans hw⟩⟩, by rw [ht]; exact hP, va_K.moved hW.alike hK, hD⟩, hS.F ht⟩) hS.2.2 dL_next_16
  · have hPc := hP.sub (ws' := [(h0, .inr (0, [.ref c0, .ref w0, .int (nI k), .int (nI n), .long (pt_mk n), .int cl, .int su])), (c0, .inl (kc, 512, .inr (.inl fc))), (w0, .inl (kw, 512, .inr (.inl fv)))]) [0, 1, 2] rfl
    have hDc := hD.sub (ws' := [(h0, .inr (0, [.ref c0, .ref w0, .int (nI k), .int (nI n), .long (pt_mk n), .int cl, .int su])), (c0, .inl (kc, 512, .inr (.inl fc))), (w0, .inl (kw, 512, .inr (.inl fv)))]) [0, 1, 2] (by decide) rfl
    have hKc := hK.sub (tys' := [(kc, .long), (kw, .long)]) [0, 1] rfl
    have hFc := va_free (wc := [(h0, .inr (0, [.ref c0, .ref w0, .int (nI k), .int (nI n), .long (pt_mk n), .int cl, .int su])), (c0, .inl (kc, 512, .inr (.inl fc))), (w0, .inl (kw, 512, .inr (.inl fv)))]) hD hS hA [0, 1, 2] rfl
    refine pt_catch (own := RL) (name := "java/util/NoSuchElementException") (pt_runT (As := [.long a]) (rest := [.int 0, .ref o0]) ⟨hx, hb, hml, hown, hts⟩ (t_next l hl9 dC dI s0 h0X h0 c0 w0 kc kw k n fc fv cl su a s.heap.size hk hn2 hfree hnone) (cwV 1 hts (pt_gV pw138 pw139 pw140 pw17 pw141) rfl rfl rfl (by decide +kernel) ⟨Nat.le_of_ble_eq_true rfl, Nat.le_of_ble_eq_true rfl⟩) ⟨fun a U g mk q => by obtain ⟨q0, q1, qP, qK, qD, qX⟩ := q; exact ⟨q0, q1, qP, va_K.moved (u := U) (U := U.calling g mk a) (Vm.Alike.refl U.vm) qK, qD, qX⟩, va_recv hK hP (ci := 0) (q0 := 0) rfl rfl, fun U hU hW => ⟨rfl, by rw [hU], by rw [hU]; exact hPc, va_K.moved hW.alike hKc, hDc.weaken (fun _ _ _ h => hAs _ h), hext.on2 hS hAs hU hW⟩⟩ rfl rfl hl.1 rfl (lv_room (Nat.le_of_ble_eq_true rfl)) dL_next_4 ⟨by decide, by decide⟩) hown [] ⟨0, 8, 11, 28⟩ [] (by rw [htab]; rfl) (fun z hz => nomatch hz) (by decide) (by decide) (hts _ (List.mem_cons_of_mem _ pw99)) (pt_X_at h0X hext (.castable "java/util/NoSuchElementException" "java/util/NoSuchElementException") (by decide) _) (fun q st t H1 L h1 h2 h3 h4 hq hL => ?_)
    obtain ⟨hP1, hK1, hD1, hF1⟩ := hq
    rw [h3] at hP1
    obtain ⟨hS, hz1, hk1⟩ := pt_S_call hS hFc h1 h3 hF1 hL
    obtain ⟨hP, hD⟩ := va_join (wr := [(o0, .inl (ko, 1, .inr (.inl fo)))]) (w1 := [(h0, .inr (0, [.ref c0, .ref w0, .int (nI k), .int (nI n), .long (pt_mk n), .int cl, .int su])), (c0, .inl (kc, 512, .inr (.inl fc))), (w0, .inl (kw, 512, .inr (.inl fv)))]) hP hD [0, 1, 2] [3] rfl rfl (by decide) (by decide) hk1 hFc hP1 hD1
    generalize H1 = H at hP hS ⊢
    have hP := hP.sub (ws' := [(h0, .inr (0, [.ref c0, .ref w0, .int (nI k), .int (nI n), .long (pt_mk n), .int cl, .int su])), (c0, .inl (kc, 512, .inr (.inl fc))), (w0, .inl (kw, 512, .inr (.inl fv))), (o0, .inl (ko, 1, .inr (.inl fo)))]) [1, 2, 3, 0] rfl
    have hD := hD.sub (ws' := [(h0, .inr (0, [.ref c0, .ref w0, .int (nI k), .int (nI n), .long (pt_mk n), .int cl, .int su])), (c0, .inl (kc, 512, .inr (.inl fc))), (w0, .inl (kw, 512, .inr (.inl fv))), (o0, .inl (ko, 1, .inr (.inl fo)))]) [1, 2, 3, 0] (by decide) rfl
    refine W.eq (g2 := F0 m 11 ls [.ref q]) rfl ?_
    refine lv_astore (lv' := [(4, .ref q), (0, .ref h0), (1, .long a), (3, .ref o0)]) hx hb dL_next_11 hl (by decide) rfl (fun ls hl => ?_)
    refine lv_iconst (v := 1) hx hb dL_next_13 (by decide) ?_
    rw [← hQ]
    refine W.widen (k := 1) (n := 6) (by omega) (by omega) ?_
    exact W.iret (v := 1) hx hb hr (fun t ht hW => ⟨⟨1, fo, rfl, Or.inr ⟨hfree, Or.inr ⟨hnone, rfl⟩⟩, by rw [ht]; exact hP, va_K.moved hW.alike hK, hD⟩, hS.F ht⟩) hS.2.2 dL_next_14
set_option maxHeartbeats 4000000 in
set_option maxRecDepth 100000 in
/-- the law: told -/
theorem c_Ltold (l : Launch) (hl9 : l.stackTraces = false) (dC : Nat → ClassId) (dI : Nat → Nat → Nat) (s0 : State) (h0X : pt_X s0) (h0 c0 w0 : Nat) (kc kw : ClassId) (k n : Nat) (fc fv : Nat → Int64) (cl su : Int32) (o0 : Nat) (ko : ClassId) (fo : Nat → Int64) (y x : Int32) (sz : Nat) (hk : k ≤ 512) : Met l yL_told wsL_told ({ frames := 8, cells := 1, slots := 6, locals := 125 }) (va_Pc [.ref h0, .int y, .int x, .ref o0] (fun U => U.heap.size = sz ∧ va_P (dC, dI) vwCl [(h0, .inr (0, [.ref c0, .ref w0, .int (nI k), .int (nI n), .long (pt_mk n), .int cl, .int su])), (c0, .inl (kc, 512, .inr (.inl fc))), (w0, .inl (kw, 512, .inr (.inl fv))), (o0, .inl (ko, 1, .inr (.inl fo)))] U.heap ∧ va_K (dC, dI) vwCl [(kc, .long), (kw, .long), (ko, .long)] U ∧ va_D (fun q => s0.heap.size ≤ q) [(h0, .inr (0, [.ref c0, .ref w0, .int (nI k), .int (nI n), .long (pt_mk n), .int cl, .int su])), (c0, .inl (kc, 512, .inr (.inl fc))), (w0, .inl (kw, 512, .inr (.inl fv))), (o0, .inl (ko, 1, .inr (.inl fo)))] ∧ pt_ext s0 U)) (va_Qi (fun (r : Int32) u => pt_Rtold k n fc fv y x r (u 0)) (fun (u : Nat → Int64) (t : State) => match u with | fo2 => va_P (dC, dI) vwCl [(h0, .inr (0, [.ref c0, .ref w0, .int (nI k), .int (nI n), .long (pt_mk n), .int cl, .int su])), (c0, .inl (kc, 512, .inr (.inl fc))), (w0, .inl (kw, 512, .inr (.inl fv))), (o0, .inl (ko, 1, .inr (.inl fo2)))] t.heap ∧ va_K (dC, dI) vwCl [(kc, .long), (kw, .long), (ko, .long)] t ∧ va_D (va_A [(h0, .inr (0, [.ref c0, .ref w0, .int (nI k), .int (nI n), .long (pt_mk n), .int cl, .int su])), (c0, .inl (kc, 512, .inr (.inl fc))), (w0, .inl (kw, 512, .inr (.inl fv))), (o0, .inl (ko, 1, .inr (.inl fo)))] sz) [(h0, .inr (0, [.ref c0, .ref w0, .int (nI k), .int (nI n), .long (pt_mk n), .int cl, .int su])), (c0, .inl (kc, 512, .inr (.inl fc))), (w0, .inl (kw, 512, .inr (.inl fv))), (o0, .inl (ko, 1, .inr (.inl fo2)))]) (va_A [(h0, .inr (0, [.ref c0, .ref w0, .int (nI k), .int (nI n), .long (pt_mk n), .int cl, .int su])), (c0, .inl (kc, 512, .inr (.inl fc))), (w0, .inl (kw, 512, .inr (.inl fv))), (o0, .inl (ko, 1, .inr (.inl fo)))] sz)) 1 6 (va_A [(h0, .inr (0, [.ref c0, .ref w0, .int (nI k), .int (nI n), .long (pt_mk n), .int cl, .int su])), (c0, .inl (kc, 512, .inr (.inl fc))), (w0, .inl (kw, 512, .inr (.inl fv))), (o0, .inl (ko, 1, .inr (.inl fo)))] sz) := by
  refine va_MetW (hh := [(0, 9, 12, 13), (0, 9, 16, 28)]) (cc := cL_told) (maxL := 5) (ret := (some .int)) (by decide) rfl ?_
  intro p e s m args below meth c s₁ B hml hv
  obtain ⟨ha, hsz, hP, hK, hD0, hext⟩ := hv
  subst hsz
  have hx := B.exec
  have hb := B.bytes
  have hr := B.returns
  have hts := atoms_spec (ws := wsL_told) B.pre
  have hown : s.vm.findClass RL = some m.cls := findClass_of_methodNamed B.named
  have hlocks := B.notSynchronized
  have hl := lv_entry ([.ref h0, .int y, .int x, .ref o0]) (n := 5) (Nat.le_of_ble_eq_true rfl)
  refine W.eq (show entryFrame m args 5 = entryFrame m ([.ref h0, .int y, .int x, .ref o0] : List Value).toArray 5 by rw [ha]) ?_
  rw [lg_entry_eq]
  generalize (lg_sl ([.ref h0, .int y, .int x, .ref o0]) ++ List.replicate (5 - (lg_sl ([.ref h0, .int y, .int x, .ref o0])).length) Slot.unset).toArray = ls at hl ⊢
  have hl : lv_has ls 5 [(0, .ref h0), (1, .int y), (2, .int x), (3, .ref o0)] := hl
  have htab : c.exceptionTable.toList = tableOf [(0, 9, 12, 13), (0, 9, 16, 28)] := pt_table B (hts _ List.mem_cons_self)
  have hD := hD0.self (sz := s.heap.size)
  have hAs : ∀ q : Nat, va_A [(h0, .inr (0, [.ref c0, .ref w0, .int (nI k), .int (nI n), .long (pt_mk n), .int cl, .int su])), (c0, .inl (kc, 512, .inr (.inl fc))), (w0, .inl (kw, 512, .inr (.inl fv))), (o0, .inl (ko, 1, .inr (.inl fo)))] s.heap.size q → s0.heap.size ≤ q := pt_As hD0 hext.2.1
  generalize hAe : va_A [(h0, .inr (0, [.ref c0, .ref w0, .int (nI k), .int (nI n), .long (pt_mk n), .int cl, .int su])), (c0, .inl (kc, 512, .inr (.inl fc))), (w0, .inl (kw, 512, .inr (.inl fv))), (o0, .inl (ko, 1, .inr (.inl fo)))] s.heap.size = A at hD hAs ⊢
  have hA : ∀ q : Nat, s.heap.size ≤ q → A q := fun q h => by rw [← hAe]; exact Or.inr h
  have hS : va_S A s.heap s.heap [] := va_S.rf
  have hP : va_P (dC, dI) vwCl [(h0, .inr (0, [.ref c0, .ref w0, .int (nI k), .int (nI n), .long (pt_mk n), .int cl, .int su])), (c0, .inl (kc, 512, .inr (.inl fc))), (w0, .inl (kw, 512, .inr (.inl fv))), (o0, .inl (ko, 1, .inr (.inl fo)))] s.heap := hP
  generalize hQ : MQ below (va_Qi (fun (r : Int32) u => pt_Rtold k n fc fv y x r (u 0)) (fun (u : Nat → Int64) (t : State) => match u with | fo2 => va_P (dC, dI) vwCl [(h0, .inr (0, [.ref c0, .ref w0, .int (nI k), .int (nI n), .long (pt_mk n), .int cl, .int su])), (c0, .inl (kc, 512, .inr (.inl fc))), (w0, .inl (kw, 512, .inr (.inl fv))), (o0, .inl (ko, 1, .inr (.inl fo2)))] t.heap ∧ va_K (dC, dI) vwCl [(kc, .long), (kw, .long), (ko, .long)] t ∧ va_D A [(h0, .inr (0, [.ref c0, .ref w0, .int (nI k), .int (nI n), .long (pt_mk n), .int cl, .int su])), (c0, .inl (kc, 512, .inr (.inl fc))), (w0, .inl (kw, 512, .inr (.inl fv))), (o0, .inl (ko, 1, .inr (.inl fo2)))]) A) args s 1 6 A = Q
  refine lv_aload_n hx hb dL_told_0 rfl (lv_at hl 3 rfl) ?_
  refine lv_iconst (v := 0) hx hb dL_told_1 (by decide) ?_
  refine lv_aload_n hx hb dL_told_2 rfl (lv_at hl 0 rfl) ?_
  refine lv_iload_n hx hb dL_told_3 rfl (lv_at hl 1 rfl) ?_
  refine lv_iload_n hx hb dL_told_4 rfl (lv_at hl 2 rfl) ?_
  by_cases hbad : x < 0 ∨ ¬ x ≤ 2
  · have hPc := hP.sub (ws' := [(h0, .inr (0, [.ref c0, .ref w0, .int (nI k), .int (nI n), .long (pt_mk n), .int cl, .int su])), (c0, .inl (kc, 512, .inr (.inl fc))), (w0, .inl (kw, 512, .inr (.inl fv)))]) [0, 1, 2] rfl
    have hDc := hD.sub (ws' := [(h0, .inr (0, [.ref c0, .ref w0, .int (nI k), .int (nI n), .long (pt_mk n), .int cl, .int su])), (c0, .inl (kc, 512, .inr (.inl fc))), (w0, .inl (kw, 512, .inr (.inl fv)))]) [0, 1, 2] (by decide) rfl
    have hKc := hK.sub (tys' := [(kc, .long), (kw, .long)]) [0, 1] rfl
    have hFc := va_free (wc := [(h0, .inr (0, [.ref c0, .ref w0, .int (nI k), .int (nI n), .long (pt_mk n), .int cl, .int su])), (c0, .inl (kc, 512, .inr (.inl fc))), (w0, .inl (kw, 512, .inr (.inl fv)))]) hD hS hA [0, 1, 2] rfl
    refine pt_catch (own := RL) (name := "java/lang/IllegalArgumentException") (pt_runT (As := [.int y, .int x]) (rest := [.int 0, .ref o0]) ⟨hx, hb, hml, hown, hts⟩ (t_told_bad l hl9 dC dI s0 h0X h0 c0 w0 kc kw k n fc fv cl su y x s.heap.size hbad) (cwV 2 hts (pt_gV pw151 pw152 pw153 pw17 pw154) rfl rfl rfl (by decide +kernel) ⟨Nat.le_of_ble_eq_true rfl, Nat.le_of_ble_eq_true rfl⟩) ⟨fun a U g mk q => by obtain ⟨q0, q1, qP, qK, qD, qX⟩ := q; exact ⟨q0, q1, qP, va_K.moved (u := U) (U := U.calling g mk a) (Vm.Alike.refl U.vm) qK, qD, qX⟩, va_recv hK hP (ci := 0) (q0 := 0) rfl rfl, fun U hU hW => ⟨rfl, by rw [hU], by rw [hU]; exact hPc, va_K.moved hW.alike hKc, hDc.weaken (fun _ _ _ h => hAs _ h), hext.on2 hS hAs hU hW⟩⟩ rfl rfl hl.1 rfl (lv_room (Nat.le_of_ble_eq_true rfl)) dL_told_5 ⟨by decide, by decide⟩) hown [] ⟨0, 9, 12, 13⟩ [⟨0, 9, 16, 28⟩] (by rw [htab]; rfl) (fun z hz => nomatch hz) (by decide) (by decide) (hts _ (List.mem_cons_of_mem _ pw61)) (pt_X_at h0X hext (.castable "java/lang/IllegalArgumentException" "java/lang/IllegalArgumentException") (by decide) _) (fun q st t H1 L h1 h2 h3 h4 hq hL => ?_)
    obtain ⟨hP1, hK1, hD1, hF1⟩ := hq
    rw [h3] at hP1
    obtain ⟨hS, hz1, hk1⟩ := pt_S_call hS hFc h1 h3 hF1 hL
    obtain ⟨hP, hD⟩ := va_join (wr := [(o0, .inl (ko, 1, .inr (.inl fo)))]) (w1 := [(h0, .inr (0, [.ref c0, .ref w0, .int (nI k), .int (nI n), .long (pt_mk n), .int cl, .int su])), (c0, .inl (kc, 512, .inr (.inl fc))), (w0, .inl (kw, 512, .inr (.inl fv)))]) hP hD [0, 1, 2] [3] rfl rfl (by decide) (by decide) hk1 hFc hP1 hD1
    generalize H1 = H at hP hS ⊢
    have hP := hP.sub (ws' := [(h0, .inr (0, [.ref c0, .ref w0, .int (nI k), .int (nI n), .long (pt_mk n), .int cl, .int su])), (c0, .inl (kc, 512, .inr (.inl fc))), (w0, .inl (kw, 512, .inr (.inl fv))), (o0, .inl (ko, 1, .inr (.inl fo)))]) [1, 2, 3, 0] rfl
    have hD := hD.sub (ws' := [(h0, .inr (0, [.ref c0, .ref w0, .int (nI k), .int (nI n), .long (pt_mk n), .int cl, .int su])), (c0, .inl (kc, 512, .inr (.inl fc))), (w0, .inl (kw, 512, .inr (.inl fv))), (o0, .inl (ko, 1, .inr (.inl fo)))]) [1, 2, 3, 0] (by decide) rfl
    refine W.eq (g2 := F0 m 12 ls [.ref q]) rfl ?_
    refine lv_astore (lv' := [(4, .ref q), (0, .ref h0), (1, .int y), (2, .int x), (3, .ref o0)]) hx hb dL_told_12 hl (by decide) rfl (fun ls hl => ?_)
    refine lv_iconst (v := 1) hx hb dL_told_14 (by decide) ?_
    rw [← hQ]
    refine W.widen (k := 1) (n := 6) (by omega) (by omega) ?_
    exact W.iret (v := 1) hx hb hr (fun t ht hW => ⟨⟨1, fo, rfl, Or.inl ⟨hbad, rfl⟩, by rw [ht]; exact hP, va_K.moved hW.alike hK, hD⟩, hS.F ht⟩) hS.2.2 dL_told_15
  have hw1 : ¬ x < 0 := fun z => hbad (Or.inl z)
  have hw2 : x ≤ 2 := Classical.not_not.mp fun z => hbad (Or.inr z)
  by_cases hab : y < 0 ∨ ¬ y < nI k
  · have hPc := hP.sub (ws' := [(h0, .inr (0, [.ref c0, .ref w0, .int (nI k), .int (nI n), .long (pt_mk n), .int cl, .int su])), (c0, .inl (kc, 512, .inr (.inl fc))), (w0, .inl (kw, 512, .inr (.inl fv)))]) [0, 1, 2] rfl
    have hDc := hD.sub (ws' := [(h0, .inr (0, [.ref c0, .ref w0, .int (nI k), .int (nI n), .long (pt_mk n), .int cl, .int su])), (c0, .inl (kc, 512, .inr (.inl fc))), (w0, .inl (kw, 512, .inr (.inl fv)))]) [0, 1, 2] (by decide) rfl
    have hKc := hK.sub (tys' := [(kc, .long), (kw, .long)]) [0, 1] rfl
    have hFc := va_free (wc := [(h0, .inr (0, [.ref c0, .ref w0, .int (nI k), .int (nI n), .long (pt_mk n), .int cl, .int su])), (c0, .inl (kc, 512, .inr (.inl fc))), (w0, .inl (kw, 512, .inr (.inl fv)))]) hD hS hA [0, 1, 2] rfl
    refine pt_catch (own := RL) (name := "java/util/NoSuchElementException") (pt_runT (As := [.int y, .int x]) (rest := [.int 0, .ref o0]) ⟨hx, hb, hml, hown, hts⟩ (t_told_abs l hl9 dC dI s0 h0X h0 c0 w0 kc kw k n fc fv cl su y x s.heap.size hw1 hw2 hab) (cwV 2 hts (pt_gV pw151 pw152 pw153 pw17 pw154) rfl rfl rfl (by decide +kernel) ⟨Nat.le_of_ble_eq_true rfl, Nat.le_of_ble_eq_true rfl⟩) ⟨fun a U g mk q => by obtain ⟨q0, q1, qP, qK, qD, qX⟩ := q; exact ⟨q0, q1, qP, va_K.moved (u := U) (U := U.calling g mk a) (Vm.Alike.refl U.vm) qK, qD, qX⟩, va_recv hK hP (ci := 0) (q0 := 0) rfl rfl, fun U hU hW => ⟨rfl, by rw [hU], by rw [hU]; exact hPc, va_K.moved hW.alike hKc, hDc.weaken (fun _ _ _ h => hAs _ h), hext.on2 hS hAs hU hW⟩⟩ rfl rfl hl.1 rfl (lv_room (Nat.le_of_ble_eq_true rfl)) dL_told_5 ⟨by decide, by decide⟩) hown [⟨0, 9, 12, 13⟩] ⟨0, 9, 16, 28⟩ [] (by rw [htab]; rfl) (fun z hz => by rw [List.mem_singleton] at hz; subst hz; exact ⟨by decide, "java/lang/IllegalArgumentException", (hts _ (List.mem_cons_of_mem _ pw61)), (h0X.2.2 "java/util/NoSuchElementException" "java/lang/IllegalArgumentException" (by decide)).moved hext.1.alike⟩) (by decide) (by decide) (hts _ (List.mem_cons_of_mem _ pw99)) (pt_X_at h0X hext (.castable "java/util/NoSuchElementException" "java/util/NoSuchElementException") (by decide) _) (fun q st t H1 L h1 h2 h3 h4 hq hL => ?_)
    obtain ⟨hP1, hK1, hD1, hF1⟩ := hq
    rw [h3] at hP1
    obtain ⟨hS, hz1, hk1⟩ := pt_S_call hS hFc h1 h3 hF1 hL
    obtain ⟨hP, hD⟩ := va_join (wr := [(o0, .inl (ko, 1, .inr (.inl fo)))]) (w1 := [(h0, .inr (0, [.ref c0, .ref w0, .int (nI k), .int (nI n), .long (pt_mk n), .int cl, .int su])), (c0, .inl (kc, 512, .inr (.inl fc))), (w0, .inl (kw, 512, .inr (.inl fv)))]) hP hD [0, 1, 2] [3] rfl rfl (by decide) (by decide) hk1 hFc hP1 hD1
    generalize H1 = H at hP hS ⊢
    have hP := hP.sub (ws' := [(h0, .inr (0, [.ref c0, .ref w0, .int (nI k), .int (nI n), .long (pt_mk n), .int cl, .int su])), (c0, .inl (kc, 512, .inr (.inl fc))), (w0, .inl (kw, 512, .inr (.inl fv))), (o0, .inl (ko, 1, .inr (.inl fo)))]) [1, 2, 3, 0] rfl
    have hD := hD.sub (ws' := [(h0, .inr (0, [.ref c0, .ref w0, .int (nI k), .int (nI n), .long (pt_mk n), .int cl, .int su])), (c0, .inl (kc, 512, .inr (.inl fc))), (w0, .inl (kw, 512, .inr (.inl fv))), (o0, .inl (ko, 1, .inr (.inl fo)))]) [1, 2, 3, 0] (by decide) rfl
    refine W.eq (g2 := F0 m 16 ls [.ref q]) rfl ?_
    refine lv_astore (lv' := [(4, .ref q), (0, .ref h0), (1, .int y), (2, .int x), (3, .ref o0)]) hx hb dL_told_16 hl (by decide) rfl (fun ls hl => ?_)
    refine lv_iconst (v := 2) hx hb dL_told_18 (by decide) ?_
    rw [← hQ]
    refine W.widen (k := 1) (n := 6) (by omega) (by omega) ?_
    exact W.iret (v := 2) hx hb hr (fun t ht hW => ⟨⟨2, fo, rfl, Or.inr (Or.inl ⟨hw1, hw2, hab, rfl⟩), by rw [ht]; exact hP, va_K.moved hW.alike hK, hD⟩, hS.F ht⟩) hS.2.2 dL_told_19
  obtain ⟨i, hi, rfl⟩ := pt_at hk (fun z => hab (Or.inl z)) (Classical.not_not.mp fun z => hab (Or.inr z))
  refine vp_callSl (W.runV (As := [.int (nI i), .int x]) (rest := [.int 0, .ref o0]) ⟨hx, hb, hml, hown, hts⟩ (c_told l dC dI h0 c0 w0 kc kw k n fc fv cl su i x hw1 hw2 hi hk) (cwV 2 hts (pt_gV pw151 pw152 pw153 pw17 pw154) rfl rfl rfl (by decide +kernel) ⟨Nat.le_of_ble_eq_true rfl, Nat.le_of_ble_eq_true rfl⟩) ⟨fun a U g mk q => by obtain ⟨q0, qP, qK⟩ := q; exact ⟨q0, qP, va_K.moved (u := U) (U := U.calling g mk a) (Vm.Alike.refl U.vm) qK⟩, va_recv hK hP (ci := 0) (q0 := 0) rfl rfl, fun U hU hW => ⟨rfl, by rw [hU]; exact (hP.sub (ws' := [(h0, .inr (0, [.ref c0, .ref w0, .int (nI k), .int (nI n), .long (pt_mk n), .int cl, .int su])), (c0, .inl (kc, 512, .inr (.inl fc))), (w0, .inl (kw, 512, .inr (.inl fv)))]) [0, 1, 2] rfl), va_K.moved hW.alike (hK.sub (tys' := [(kc, .long), (kw, .long)]) [0, 1] rfl)⟩⟩ rfl rfl hl.1 rfl (lv_room (Nat.le_of_ble_eq_true rfl)) dL_told_5 ⟨Nat.zero_le _, Nat.zero_le _⟩) (fun r1 hw => ?_)
  refine va_last hx hb hK hP hD hS 3 2 rfl rfl (vp_in_nI (n := 0) (by decide) (by decide)) dL_told_8 (fun H locs hP hD hS => ?_)
  rw [show Int32.toNatClampNeg 0 = 0 by decide] at hP hD
  have hP : va_P (dC, dI) vwCl [(h0, .inr (0, [.ref c0, .ref w0, .int (nI k), .int (nI n), .long (pt_mk n), .int cl, .int su])), (c0, .inl (kc, 512, .inr (.inl fc))), (w0, .inl (kw, 512, .inr (.inl fv))), (o0, .inl (ko, 1, .inr (.inl (vp_updL fo 0 r1))))] H := hP
  have hD : va_D A [(h0, .inr (0, [.ref c0, .ref w0, .int (nI k), .int (nI n), .long (pt_mk n), .int cl, .int su])), (c0, .inl (kc, 512, .inr (.inl fc))), (w0, .inl (kw, 512, .inr (.inl fv))), (o0, .inl (ko, 1, .inr (.inl (vp_updL fo 0 r1))))] := hD
  refine lv_goto (tgt := 20) hx hb dL_told_9 (by decide) ?_
  refine lv_iconst (v := 0) hx hb dL_told_20 (by decide) ?_
  rw [← hQ]
  refine W.widen (k := 1) (n := 6) (by omega) (by omega) ?_
  exact W.iret (v := 0) hx hb hr (fun t ht hW => ⟨⟨0, vp_updL fo 0 r1, rfl, Or.inr (Or.inr ⟨i, hi, rfl, hw1, hw2, rfl, pk_uLs.trans hw⟩), by rw [ht]; exact hP, va_K.moved hW.alike hK, hD⟩, hS.F ht⟩) hS.2.2 dL_told_21
