set_option maxHeartbeats 4000000 in
set_option maxRecDepth 100000 in
/-- the reference: fail(k) -/
theorem c_fail (l : Launch) (dC : Nat → ClassId) (dI : Nat → Nat → Nat) (g0 a0 b0 : Nat) (ja jb : ClassId) (k9 n9 : Int32) (fc fv : Nat → Int64) (cl su th : Int32) (x : Int32) (sz : Nat)  : Met l yX1_fail wsX1_fail ({ frames := 0, cells := 0, slots := 0, locals := 0 }) (va_Pc [.ref g0, .int x] (fun U => U.heap.size = sz ∧ va_P (dC, dI) vwCl [(g0, .inr (1, [.ref a0, .ref b0, .int k9, .int n9, .int cl, .int su, .int th])), (a0, .inl (ja, 512, .inr (.inl fc))), (b0, .inl (jb, 512, .inr (.inl fv)))] U.heap ∧ va_K (dC, dI) vwCl [(ja, .long), (jb, .long)] U ∧ va_D (fun _ => True) [(g0, .inr (1, [.ref a0, .ref b0, .int k9, .int n9, .int cl, .int su, .int th])), (a0, .inl (ja, 512, .inr (.inl fc))), (b0, .inl (jb, 512, .inr (.inl fv)))])) (va_Qi (fun (r : Int32) _ => r = 0) (fun (u : Unit) (t : State) => match u with | _ => va_P (dC, dI) vwCl [(g0, .inr (1, [.ref a0, .ref b0, .int k9, .int n9, .int cl, .int su, .int x])), (a0, .inl (ja, 512, .inr (.inl fc))), (b0, .inl (jb, 512, .inr (.inl fv)))] t.heap ∧ va_K (dC, dI) vwCl [(ja, .long), (jb, .long)] t ∧ va_D (va_A [(g0, .inr (1, [.ref a0, .ref b0, .int k9, .int n9, .int cl, .int su, .int th])), (a0, .inl (ja, 512, .inr (.inl fc))), (b0, .inl (jb, 512, .inr (.inl fv)))] sz) [(g0, .inr (1, [.ref a0, .ref b0, .int k9, .int n9, .int cl, .int su, .int x])), (a0, .inl (ja, 512, .inr (.inl fc))), (b0, .inl (jb, 512, .inr (.inl fv)))]) (va_A [(g0, .inr (1, [.ref a0, .ref b0, .int k9, .int n9, .int cl, .int su, .int th])), (a0, .inl (ja, 512, .inr (.inl fc))), (b0, .inl (jb, 512, .inr (.inl fv)))] sz)) 0 0 (va_A [(g0, .inr (1, [.ref a0, .ref b0, .int k9, .int n9, .int cl, .int su, .int th])), (a0, .inl (ja, 512, .inr (.inl fc))), (b0, .inl (jb, 512, .inr (.inl fv)))] sz) := by
  refine Met.ofW (cc := cX1_fail) (maxL := 2) (ret := (some .int)) (by decide) rfl ?_
  intro p e s m args below meth c s₁ B hml hv
  obtain ⟨ha, hsz, hP, hK, hD0⟩ := hv
  subst hsz
  have hx := B.exec
  have hb := B.bytes
  have hr := B.returns
  have hts := atoms_spec (ws := wsX1_fail) B.pre
  have hown : s.vm.findClass RX1 = some m.cls := findClass_of_methodNamed B.named
  have hlocks := B.notSynchronized
  have hl := lv_entry ([.ref g0, .int x]) (n := 2) (Nat.le_of_ble_eq_true rfl)
  refine W.eq (show entryFrame m args 2 = entryFrame m ([.ref g0, .int x] : List Value).toArray 2 by rw [ha]) ?_
  rw [lg_entry_eq]
  generalize (lg_sl ([.ref g0, .int x]) ++ List.replicate (2 - (lg_sl ([.ref g0, .int x])).length) Slot.unset).toArray = ls at hl ⊢
  have hl : lv_has ls 2 [(0, .ref g0), (1, .int x)] := hl
  have hD := hD0.self (sz := s.heap.size)
  generalize hAe : va_A [(g0, .inr (1, [.ref a0, .ref b0, .int k9, .int n9, .int cl, .int su, .int th])), (a0, .inl (ja, 512, .inr (.inl fc))), (b0, .inl (jb, 512, .inr (.inl fv)))] s.heap.size = A at hD ⊢
  have hA : ∀ q : Nat, s.heap.size ≤ q → A q := fun q h => by rw [← hAe]; exact Or.inr h
  have hS : va_S A s.heap s.heap [] := va_S.rf
  generalize hQ : MQ below (va_Qi (fun (r : Int32) _ => r = 0) (fun (u : Unit) (t : State) => match u with | _ => va_P (dC, dI) vwCl [(g0, .inr (1, [.ref a0, .ref b0, .int k9, .int n9, .int cl, .int su, .int x])), (a0, .inl (ja, 512, .inr (.inl fc))), (b0, .inl (jb, 512, .inr (.inl fv)))] t.heap ∧ va_K (dC, dI) vwCl [(ja, .long), (jb, .long)] t ∧ va_D A [(g0, .inr (1, [.ref a0, .ref b0, .int k9, .int n9, .int cl, .int su, .int x])), (a0, .inl (ja, 512, .inr (.inl fc))), (b0, .inl (jb, 512, .inr (.inl fv)))]) A) args s 0 0 A = Q
  have hP : va_P (dC, dI) vwCl [(g0, .inr (1, [.ref a0, .ref b0, .int k9, .int n9, .int cl, .int su, .int th])), (a0, .inl (ja, 512, .inr (.inl fc))), (b0, .inl (jb, 512, .inr (.inl fv)))] s.heap := hP
  refine lv_aload_n hx hb dX1_fail_0 rfl (lv_at hl 0 rfl) ?_
  refine lv_iload_n hx hb dX1_fail_1 rfl (lv_at hl 1 rfl) ?_
  refine va_put (D := (dC, dI)) (ci := 1) (v := .int x) (ty := .int) (C := RX1) (T := TX1) (N := 7) hx hb hts (fun w h => List.mem_cons_of_mem _ (pt_wsX1 w h)) tyX1 tyX1_ok nmX1 hown hK hP hD hS 0 rfl rfl 6 (by decide) (hts _ (List.mem_cons_of_mem _ pw167)) (fun _ h9 => h9) rfl (by decide +kernel) rfl rfl (Nat.le_of_ble_eq_true rfl) dX1_fail_2 (fun H locs hP hD hS => ?_)
  have hP : va_P (dC, dI) vwCl [(g0, .inr (1, [.ref a0, .ref b0, .int k9, .int n9, .int cl, .int su, .int x])), (a0, .inl (ja, 512, .inr (.inl fc))), (b0, .inl (jb, 512, .inr (.inl fv)))] H := hP
  have hD : va_D A [(g0, .inr (1, [.ref a0, .ref b0, .int k9, .int n9, .int cl, .int su, .int x])), (a0, .inl (ja, 512, .inr (.inl fc))), (b0, .inl (jb, 512, .inr (.inl fv)))] := hD
  refine lv_iconst (v := 0) hx hb dX1_fail_5 (by decide) ?_
  rw [← hQ]
  exact W.iret (v := 0) hx hb hr (fun t ht hW => ⟨⟨0, (), rfl, rfl, by rw [ht]; exact hP, va_K.moved hW.alike hK, hD⟩, hS.F ht⟩) hS.2.2 dX1_fail_6
set_option maxHeartbeats 4000000 in
set_option maxRecDepth 100000 in
/-- PatternTreeModel() -/
theorem c_minit (l : Launch) (dC : Nat → ClassId) (dI : Nat → Nat → Nat) (g0 : Nat) (sz : Nat)  : Met l yX1_init wsX1_init ({ frames := 1, cells := 2, slots := 1024, locals := 20 }) (va_Pc [.ref g0] (fun U => U.heap.size = sz ∧ va_P (dC, dI) vwCl [(g0, .inr (1, [.null, .null, .int 0, .int 0, .int 0, .int 0, .int 0]))] U.heap ∧ va_K (dC, dI) vwCl [] U ∧ va_D (fun _ => True) [(g0, .inr (1, [.null, .null, .int 0, .int 0, .int 0, .int 0, .int 0]))])) (va_Qv (fun _ => True) (fun (u : Nat × Nat × ClassId × ClassId) (t : State) => match u with | (a0, b0, ja, jb) => va_P (dC, dI) vwCl [(g0, .inr (1, [.ref a0, .ref b0, .int 0, .int 32, .int (-1), .int 0, .int 0])), (a0, .inl (ja, 512, .inr (.inl (fun _ => 0)))), (b0, .inl (jb, 512, .inr (.inl (fun _ => 0))))] t.heap ∧ va_K (dC, dI) vwCl [(ja, .long), (jb, .long)] t ∧ va_D (va_A [(g0, .inr (1, [.null, .null, .int 0, .int 0, .int 0, .int 0, .int 0]))] sz) [(g0, .inr (1, [.ref a0, .ref b0, .int 0, .int 32, .int (-1), .int 0, .int 0])), (a0, .inl (ja, 512, .inr (.inl (fun _ => 0)))), (b0, .inl (jb, 512, .inr (.inl (fun _ => 0))))]) (va_A [(g0, .inr (1, [.null, .null, .int 0, .int 0, .int 0, .int 0, .int 0]))] sz)) 2 1024 (va_A [(g0, .inr (1, [.null, .null, .int 0, .int 0, .int 0, .int 0, .int 0]))] sz) := by
  refine Met.ofW (cc := cX1_init) (maxL := 1) (ret := none) (by decide) rfl ?_
  intro p e s m args below meth c s₁ B hml hv
  obtain ⟨ha, hsz, hP, hK, hD0⟩ := hv
  subst hsz
  have hx := B.exec
  have hb := B.bytes
  have hr := B.returns
  have hts := atoms_spec (ws := wsX1_init) B.pre
  have hown : s.vm.findClass RX1 = some m.cls := findClass_of_methodNamed B.named
  have hlocks := B.notSynchronized
  have hl := lv_entry ([.ref g0]) (n := 1) (Nat.le_of_ble_eq_true rfl)
  refine W.eq (show entryFrame m args 1 = entryFrame m ([.ref g0] : List Value).toArray 1 by rw [ha]) ?_
  rw [lg_entry_eq]
  generalize (lg_sl ([.ref g0]) ++ List.replicate (1 - (lg_sl ([.ref g0])).length) Slot.unset).toArray = ls at hl ⊢
  have hl : lv_has ls 1 [(0, .ref g0)] := hl
  have hin : meth.name = "<init>" := (name_of_methodNamed B.named B.method).1
  have hD := hD0.self (sz := s.heap.size)
  generalize hAe : va_A [(g0, .inr (1, [.null, .null, .int 0, .int 0, .int 0, .int 0, .int 0]))] s.heap.size = A at hD ⊢
  have hA : ∀ q : Nat, s.heap.size ≤ q → A q := fun q h => by rw [← hAe]; exact Or.inr h
  have hS : va_S A s.heap s.heap [] := va_S.rf
  generalize hQ : MQ below (va_Qv (fun _ => True) (fun (u : Nat × Nat × ClassId × ClassId) (t : State) => match u with | (a0, b0, ja, jb) => va_P (dC, dI) vwCl [(g0, .inr (1, [.ref a0, .ref b0, .int 0, .int 32, .int (-1), .int 0, .int 0])), (a0, .inl (ja, 512, .inr (.inl (fun _ => 0)))), (b0, .inl (jb, 512, .inr (.inl (fun _ => 0))))] t.heap ∧ va_K (dC, dI) vwCl [(ja, .long), (jb, .long)] t ∧ va_D A [(g0, .inr (1, [.ref a0, .ref b0, .int 0, .int 32, .int (-1), .int 0, .int 0])), (a0, .inl (ja, 512, .inr (.inl (fun _ => 0)))), (b0, .inl (jb, 512, .inr (.inl (fun _ => 0))))]) A) args s 2 1024 A = Q
  have hP : va_P (dC, dI) vwCl [(g0, .inr (1, [.null, .null, .int 0, .int 0, .int 0, .int 0, .int 0]))] s.heap := hP
  refine lv_aload_n hx hb dX1_init_0 rfl (lv_at hl 0 rfl) ?_
  refine W.objInit hx hb hown (hts _ (List.mem_cons_of_mem _ pw160)) (hts _ (List.mem_cons_of_mem _ pw26)) (hts (.code objectInit ⟨#[0xb1]⟩ 1 none) (List.mem_cons_of_mem _ pw27)) rfl (by rw [hml]; exact hl.1) rfl dX1_init_1 (Nat.le_of_ble_eq_true rfl) (Nat.le_of_ble_eq_true rfl) ?_
  refine W.eq (g2 := F0 m 4 ls []) rfl ?_
  refine lv_aload_n hx hb dX1_init_4 rfl (lv_at hl 0 rfl) ?_
  refine lv_sipush (v := 512) hx hb dX1_init_5 (by decide) ?_
  refine va_newa (atype := .long) (N' := 512) (a0 := (512, .inr (.inl (fun _ => 0)))) (ty := .long) (n := 512) hx hb (hts _ (List.mem_cons_of_mem _ pw46)) rfl hK hP hD hS hA (fun _ => rfl) (by decide) (by decide) (by decide) (by decide) (by decide) dX1_init_8 (fun a0 ja H hK hP hD hS => ?_)
  have hP : va_P (dC, dI) vwCl [(g0, .inr (1, [.null, .null, .int 0, .int 0, .int 0, .int 0, .int 0])), (a0, .inl (ja, 512, .inr (.inl (fun _ => 0))))] H := hP
  have hD : va_D A [(g0, .inr (1, [.null, .null, .int 0, .int 0, .int 0, .int 0, .int 0])), (a0, .inl (ja, 512, .inr (.inl (fun _ => 0))))] := hD
  have hK : va_K (dC, dI) vwCl [(ja, .long)] s := hK
  refine va_putF (D := (dC, dI)) (ci := 1) (v := .ref a0) (ty := (.array .long)) (C := RX1) (T := TX1) (N := 7) hx hb hts (fun w h => List.mem_cons_of_mem _ (pt_wsX1 w h)) tyX1 tyX1_ok nmX1 hown hK hP hD hS 0 rfl rfl 0 (by decide) (hts _ (List.mem_cons_of_mem _ pw161)) (fun _ h9 => h9) rfl hin rfl (by decide +kernel) rfl rfl (Nat.le_of_ble_eq_true rfl) dX1_init_10 (fun H locs hP hD hS => ?_)
  have hP : va_P (dC, dI) vwCl [(g0, .inr (1, [.ref a0, .null, .int 0, .int 0, .int 0, .int 0, .int 0])), (a0, .inl (ja, 512, .inr (.inl (fun _ => 0))))] H := hP
  have hD : va_D A [(g0, .inr (1, [.ref a0, .null, .int 0, .int 0, .int 0, .int 0, .int 0])), (a0, .inl (ja, 512, .inr (.inl (fun _ => 0))))] := hD
  refine lv_aload_n hx hb dX1_init_13 rfl (lv_at hl 0 rfl) ?_
  refine lv_sipush (v := 512) hx hb dX1_init_14 (by decide) ?_
  refine va_newa (atype := .long) (N' := 512) (a0 := (512, .inr (.inl (fun _ => 0)))) (ty := .long) (n := 512) hx hb (hts _ (List.mem_cons_of_mem _ pw46)) rfl hK hP hD hS hA (fun _ => rfl) (by decide) (by decide) (by decide) (by decide) (by decide) dX1_init_17 (fun b0 jb H hK hP hD hS => ?_)
  have hP : va_P (dC, dI) vwCl [(g0, .inr (1, [.ref a0, .null, .int 0, .int 0, .int 0, .int 0, .int 0])), (a0, .inl (ja, 512, .inr (.inl (fun _ => 0)))), (b0, .inl (jb, 512, .inr (.inl (fun _ => 0))))] H := hP
  have hD : va_D A [(g0, .inr (1, [.ref a0, .null, .int 0, .int 0, .int 0, .int 0, .int 0])), (a0, .inl (ja, 512, .inr (.inl (fun _ => 0)))), (b0, .inl (jb, 512, .inr (.inl (fun _ => 0))))] := hD
  have hK : va_K (dC, dI) vwCl [(ja, .long), (jb, .long)] s := hK
  refine va_putF (D := (dC, dI)) (ci := 1) (v := .ref b0) (ty := (.array .long)) (C := RX1) (T := TX1) (N := 7) hx hb hts (fun w h => List.mem_cons_of_mem _ (pt_wsX1 w h)) tyX1 tyX1_ok nmX1 hown hK hP hD hS 0 rfl rfl 1 (by decide) (hts _ (List.mem_cons_of_mem _ pw162)) (fun _ h9 => h9) rfl hin rfl (by decide +kernel) rfl rfl (Nat.le_of_ble_eq_true rfl) dX1_init_19 (fun H locs hP hD hS => ?_)
  have hP : va_P (dC, dI) vwCl [(g0, .inr (1, [.ref a0, .ref b0, .int 0, .int 0, .int 0, .int 0, .int 0])), (a0, .inl (ja, 512, .inr (.inl (fun _ => 0)))), (b0, .inl (jb, 512, .inr (.inl (fun _ => 0))))] H := hP
  have hD : va_D A [(g0, .inr (1, [.ref a0, .ref b0, .int 0, .int 0, .int 0, .int 0, .int 0])), (a0, .inl (ja, 512, .inr (.inl (fun _ => 0)))), (b0, .inl (jb, 512, .inr (.inl (fun _ => 0))))] := hD
  refine lv_aload_n hx hb dX1_init_22 rfl (lv_at hl 0 rfl) ?_
  refine lv_bipush (v := 32) hx hb dX1_init_23 (by decide) ?_
  refine va_put (D := (dC, dI)) (ci := 1) (v := .int 32) (ty := .int) (C := RX1) (T := TX1) (N := 7) hx hb hts (fun w h => List.mem_cons_of_mem _ (pt_wsX1 w h)) tyX1 tyX1_ok nmX1 hown hK hP hD hS 0 rfl rfl 3 (by decide) (hts _ (List.mem_cons_of_mem _ pw164)) (fun _ h9 => h9) rfl (by decide +kernel) rfl rfl (Nat.le_of_ble_eq_true rfl) dX1_init_25 (fun H locs hP hD hS => ?_)
  have hP : va_P (dC, dI) vwCl [(g0, .inr (1, [.ref a0, .ref b0, .int 0, .int 32, .int 0, .int 0, .int 0])), (a0, .inl (ja, 512, .inr (.inl (fun _ => 0)))), (b0, .inl (jb, 512, .inr (.inl (fun _ => 0))))] H := hP
  have hD : va_D A [(g0, .inr (1, [.ref a0, .ref b0, .int 0, .int 32, .int 0, .int 0, .int 0])), (a0, .inl (ja, 512, .inr (.inl (fun _ => 0)))), (b0, .inl (jb, 512, .inr (.inl (fun _ => 0))))] := hD
  refine lv_aload_n hx hb dX1_init_28 rfl (lv_at hl 0 rfl) ?_
  refine lv_iconst (v := (-1)) hx hb dX1_init_29 (by decide) ?_
  refine va_put (D := (dC, dI)) (ci := 1) (v := .int (-1)) (ty := .int) (C := RX1) (T := TX1) (N := 7) hx hb hts (fun w h => List.mem_cons_of_mem _ (pt_wsX1 w h)) tyX1 tyX1_ok nmX1 hown hK hP hD hS 0 rfl rfl 4 (by decide) (hts _ (List.mem_cons_of_mem _ pw165)) (fun _ h9 => h9) rfl (by decide +kernel) rfl rfl (Nat.le_of_ble_eq_true rfl) dX1_init_30 (fun H locs hP hD hS => ?_)
  have hP : va_P (dC, dI) vwCl [(g0, .inr (1, [.ref a0, .ref b0, .int 0, .int 32, .int (-1), .int 0, .int 0])), (a0, .inl (ja, 512, .inr (.inl (fun _ => 0)))), (b0, .inl (jb, 512, .inr (.inl (fun _ => 0))))] H := hP
  have hD : va_D A [(g0, .inr (1, [.ref a0, .ref b0, .int 0, .int 32, .int (-1), .int 0, .int 0])), (a0, .inl (ja, 512, .inr (.inl (fun _ => 0)))), (b0, .inl (jb, 512, .inr (.inl (fun _ => 0))))] := hD
  rw [← hQ]
  refine W.widen (k := 2) (n := 1024) (by omega) (by omega) ?_
  exact W.vret hx hb hr (fun t ht hW => ⟨⟨(a0, b0, ja, jb), rfl, trivial, by rw [ht]; exact hP, va_K.moved hW.alike hK, hD⟩, hS.F ht⟩) hS.2.2 dX1_init_33
set_option maxHeartbeats 4000000 in
set_option maxRecDepth 100000 in
/-- the reference: clear(n) -/
theorem c_mclear (l : Launch) (dC : Nat → ClassId) (dI : Nat → Nat → Nat) (g0 a0 b0 : Nat) (ja jb : ClassId) (k n : Nat) (fc fv : Nat → Int64) (cl su th : Int32) (x : Int32) (sz : Nat)  : Met l yX1_clear wsX1_clear ({ frames := 1, cells := 0, slots := 0, locals := 21 }) (va_Pc [.ref g0, .int x] (fun U => U.heap.size = sz ∧ va_P (dC, dI) vwCl [(g0, .inr (1, [.ref a0, .ref b0, .int (nI k), .int (nI n), .int cl, .int su, .int th])), (a0, .inl (ja, 512, .inr (.inl fc))), (b0, .inl (jb, 512, .inr (.inl fv)))] U.heap ∧ va_K (dC, dI) vwCl [(ja, .long), (jb, .long)] U ∧ va_D (fun _ => True) [(g0, .inr (1, [.ref a0, .ref b0, .int (nI k), .int (nI n), .int cl, .int su, .int th])), (a0, .inl (ja, 512, .inr (.inl fc))), (b0, .inl (jb, 512, .inr (.inl fv)))])) (va_Qv (fun u => pt_Rclear k n fc fv cl su x u.2 u.1) (fun (u : pt_st × Int32) (t : State) => match u with | ((k2, n2, fc2, fv2, cl2, su2), th2) => va_P (dC, dI) vwCl [(g0, .inr (1, [.ref a0, .ref b0, .int (nI k2), .int (nI n2), .int cl2, .int su2, .int th2])), (a0, .inl (ja, 512, .inr (.inl fc2))), (b0, .inl (jb, 512, .inr (.inl fv2)))] t.heap ∧ va_K (dC, dI) vwCl [(ja, .long), (jb, .long)] t ∧ va_D (va_A [(g0, .inr (1, [.ref a0, .ref b0, .int (nI k), .int (nI n), .int cl, .int su, .int th])), (a0, .inl (ja, 512, .inr (.inl fc))), (b0, .inl (jb, 512, .inr (.inl fv)))] sz) [(g0, .inr (1, [.ref a0, .ref b0, .int (nI k2), .int (nI n2), .int cl2, .int su2, .int th2])), (a0, .inl (ja, 512, .inr (.inl fc2))), (b0, .inl (jb, 512, .inr (.inl fv2)))]) (va_A [(g0, .inr (1, [.ref a0, .ref b0, .int (nI k), .int (nI n), .int cl, .int su, .int th])), (a0, .inl (ja, 512, .inr (.inl fc))), (b0, .inl (jb, 512, .inr (.inl fv)))] sz)) 0 0 (va_A [(g0, .inr (1, [.ref a0, .ref b0, .int (nI k), .int (nI n), .int cl, .int su, .int th])), (a0, .inl (ja, 512, .inr (.inl fc))), (b0, .inl (jb, 512, .inr (.inl fv)))] sz) := by
  refine Met.ofW (cc := cX1_clear) (maxL := 2) (ret := none) (by decide) rfl ?_
  intro p e s m args below meth c s₁ B hml hv
  obtain ⟨ha, hsz, hP, hK, hD0⟩ := hv
  subst hsz
  have hx := B.exec
  have hb := B.bytes
  have hr := B.returns
  have hts := atoms_spec (ws := wsX1_clear) B.pre
  have hown : s.vm.findClass RX1 = some m.cls := findClass_of_methodNamed B.named
  have hlocks := B.notSynchronized
  have hl := lv_entry ([.ref g0, .int x]) (n := 2) (Nat.le_of_ble_eq_true rfl)
  refine W.eq (show entryFrame m args 2 = entryFrame m ([.ref g0, .int x] : List Value).toArray 2 by rw [ha]) ?_
  rw [lg_entry_eq]
  generalize (lg_sl ([.ref g0, .int x]) ++ List.replicate (2 - (lg_sl ([.ref g0, .int x])).length) Slot.unset).toArray = ls at hl ⊢
  have hl : lv_has ls 2 [(0, .ref g0), (1, .int x)] := hl
  have hD := hD0.self (sz := s.heap.size)
  generalize hAe : va_A [(g0, .inr (1, [.ref a0, .ref b0, .int (nI k), .int (nI n), .int cl, .int su, .int th])), (a0, .inl (ja, 512, .inr (.inl fc))), (b0, .inl (jb, 512, .inr (.inl fv)))] s.heap.size = A at hD ⊢
  have hA : ∀ q : Nat, s.heap.size ≤ q → A q := fun q h => by rw [← hAe]; exact Or.inr h
  have hS : va_S A s.heap s.heap [] := va_S.rf
  generalize hQ : MQ below (va_Qv (fun u => pt_Rclear k n fc fv cl su x u.2 u.1) (fun (u : pt_st × Int32) (t : State) => match u with | ((k2, n2, fc2, fv2, cl2, su2), th2) => va_P (dC, dI) vwCl [(g0, .inr (1, [.ref a0, .ref b0, .int (nI k2), .int (nI n2), .int cl2, .int su2, .int th2])), (a0, .inl (ja, 512, .inr (.inl fc2))), (b0, .inl (jb, 512, .inr (.inl fv2)))] t.heap ∧ va_K (dC, dI) vwCl [(ja, .long), (jb, .long)] t ∧ va_D A [(g0, .inr (1, [.ref a0, .ref b0, .int (nI k2), .int (nI n2), .int cl2, .int su2, .int th2])), (a0, .inl (ja, 512, .inr (.inl fc2))), (b0, .inl (jb, 512, .inr (.inl fv2)))]) A) args s 0 0 A = Q
  have hP : va_P (dC, dI) vwCl [(g0, .inr (1, [.ref a0, .ref b0, .int (nI k), .int (nI n), .int cl, .int su, .int th])), (a0, .inl (ja, 512, .inr (.inl fc))), (b0, .inl (jb, 512, .inr (.inl fv)))] s.heap := hP
  refine lv_aload_n hx hb dX1_clear_0 rfl (lv_at hl 0 rfl) ?_
  refine lv_iconst (v := 0) hx hb dX1_clear_1 (by decide) ?_
  refine va_put (D := (dC, dI)) (ci := 1) (v := .int 0) (ty := .int) (C := RX1) (T := TX1) (N := 7) hx hb hts (fun w h => List.mem_cons_of_mem _ (pt_wsX1 w h)) tyX1 tyX1_ok nmX1 hown hK hP hD hS 0 rfl rfl 6 (by decide) (hts _ (List.mem_cons_of_mem _ pw167)) (fun _ h9 => h9) rfl (by decide +kernel) rfl rfl (Nat.le_of_ble_eq_true rfl) dX1_clear_2 (fun H locs hP hD hS => ?_)
  have hP : va_P (dC, dI) vwCl [(g0, .inr (1, [.ref a0, .ref b0, .int (nI k), .int (nI n), .int cl, .int su, .int 0])), (a0, .inl (ja, 512, .inr (.inl fc))), (b0, .inl (jb, 512, .inr (.inl fv)))] H := hP
  have hD : va_D A [(g0, .inr (1, [.ref a0, .ref b0, .int (nI k), .int (nI n), .int cl, .int su, .int 0])), (a0, .inl (ja, 512, .inr (.inl fc))), (b0, .inl (jb, 512, .inr (.inl fv)))] := hD
  refine lv_iload_n hx hb dX1_clear_5 rfl (lv_at hl 1 rfl) ?_
  refine lv_iconst (v := 1) hx hb dX1_clear_6 (by decide) ?_
  refine lv_icmp_lt (tgt := 16) hx hb dX1_clear_7 (by decide) (fun h1 => ?_) (fun h1 => ?_)
  · refine lv_aload_n hx hb dX1_clear_16 rfl (lv_at hl 0 rfl) ?_
    refine lv_iconst (v := 1) hx hb dX1_clear_17 (by decide) ?_
    have hPc := hP.sub (ws' := [(g0, .inr (1, [.ref a0, .ref b0, .int (nI k), .int (nI n), .int cl, .int su, .int 0])), (a0, .inl (ja, 512, .inr (.inl fc))), (b0, .inl (jb, 512, .inr (.inl fv)))]) [0, 1, 2] rfl
    have hDc := hD.sub (ws' := [(g0, .inr (1, [.ref a0, .ref b0, .int (nI k), .int (nI n), .int cl, .int su, .int 0])), (a0, .inl (ja, 512, .inr (.inl fc))), (b0, .inl (jb, 512, .inr (.inl fv)))]) [0, 1, 2] (by decide) rfl
    have hKc := hK.sub (tys' := [(ja, .long), (jb, .long)]) [0, 1] rfl
    have hFc := va_free (wc := [(g0, .inr (1, [.ref a0, .ref b0, .int (nI k), .int (nI n), .int cl, .int su, .int 0])), (a0, .inl (ja, 512, .inr (.inl fc))), (b0, .inl (jb, 512, .inr (.inl fv)))]) hD hS hA [0, 1, 2] rfl
    refine va_calli (va_runV (As := [.int 1]) (rest := []) ⟨hx, hb, hml, hown, hts⟩ (c_fail l dC dI g0 a0 b0 ja jb (nI k) (nI n) fc fv cl su 0 1 H.size ) (cwV 1 hts (pt_gV pw183 pw184 pw9 pw18 pw185) rfl rfl rfl (by decide +kernel) ⟨Nat.le_of_ble_eq_true rfl, Nat.le_of_ble_eq_true rfl⟩) ⟨fun a U g mk q => by obtain ⟨q0, q1, qP, qK, qD⟩ := q; exact ⟨q0, q1, qP, va_K.moved (u := U) (U := U.calling g mk a) (Vm.Alike.refl U.vm) qK, qD⟩, va_recv hK hP (ci := 1) (q0 := 0) rfl rfl, fun U hU hW => ⟨rfl, by rw [hU], by rw [hU]; exact hPc, va_K.moved hW.alike hKc, hDc.weaken (fun _ _ _ _ => trivial)⟩⟩ rfl rfl hl.1 rfl (lv_room (Nat.le_of_ble_eq_true rfl)) dX1_clear_18 ⟨Nat.zero_le _, Nat.zero_le _⟩) hS (fun q _ h => hFc q h) hFc (fun r1 u t H1 locs ht hvm hw hB hz1 hk1 hS => ?_)
    obtain ⟨hP1, hK1, hD1⟩ := hB
    rw [ht] at hP1
    obtain ⟨hP, hD⟩ := va_join (wr := ([] : va_W)) (w1 := [(g0, .inr (1, [.ref a0, .ref b0, .int (nI k), .int (nI n), .int cl, .int su, .int 1])), (a0, .inl (ja, 512, .inr (.inl fc))), (b0, .inl (jb, 512, .inr (.inl fv)))]) hP hD [0, 1, 2] [] rfl rfl (by decide) (by decide) hk1 hFc hP1 hD1
    generalize H1 = H at hP hS ⊢
    have hP : va_P (dC, dI) vwCl [(g0, .inr (1, [.ref a0, .ref b0, .int (nI k), .int (nI n), .int cl, .int su, .int 1])), (a0, .inl (ja, 512, .inr (.inl fc))), (b0, .inl (jb, 512, .inr (.inl fv)))] H := hP
    have hD : va_D A [(g0, .inr (1, [.ref a0, .ref b0, .int (nI k), .int (nI n), .int cl, .int su, .int 1])), (a0, .inl (ja, 512, .inr (.inl fc))), (b0, .inl (jb, 512, .inr (.inl fv)))] := hD
    subst hw
    refine lv_pop hx hb dX1_clear_21 rfl ?_
    refine lv_goto (tgt := 35) hx hb dX1_clear_22 (by decide) ?_
    rw [← hQ]
    exact W.vret hx hb hr (fun t ht hW => ⟨⟨((k, n, fc, fv, cl, su), 1), rfl, Or.inl ⟨Or.inl h1, rfl, rfl⟩, by rw [ht]; exact hP, va_K.moved hW.alike hK, hD⟩, hS.F ht⟩) hS.2.2 dX1_clear_35
  · refine lv_iload_n hx hb dX1_clear_10 rfl (lv_at hl 1 rfl) ?_
    refine lv_bipush (v := 64) hx hb dX1_clear_11 (by decide) ?_
    refine lv_icmp_le (tgt := 25) hx hb dX1_clear_13 (by decide) (fun h2 => ?_) (fun h2 => ?_)
    · obtain ⟨a, hn1, hn2, rfl⟩ := pt_len h1 h2
      refine lv_aload_n hx hb dX1_clear_25 rfl (lv_at hl 0 rfl) ?_
      refine lv_iconst (v := 0) hx hb dX1_clear_26 (by decide) ?_
      refine va_put (D := (dC, dI)) (ci := 1) (v := .int 0) (ty := .int) (C := RX1) (T := TX1) (N := 7) hx hb hts (fun w h => List.mem_cons_of_mem _ (pt_wsX1 w h)) tyX1 tyX1_ok nmX1 hown hK hP hD hS 0 rfl rfl 2 (by decide) (hts _ (List.mem_cons_of_mem _ pw163)) (fun _ h9 => h9) rfl (by decide +kernel) rfl rfl (Nat.le_of_ble_eq_true rfl) dX1_clear_27 (fun H locs hP hD hS => ?_)
      have hP : va_P (dC, dI) vwCl [(g0, .inr (1, [.ref a0, .ref b0, .int 0, .int (nI n), .int cl, .int su, .int 0])), (a0, .inl (ja, 512, .inr (.inl fc))), (b0, .inl (jb, 512, .inr (.inl fv)))] H := hP
      have hD : va_D A [(g0, .inr (1, [.ref a0, .ref b0, .int 0, .int (nI n), .int cl, .int su, .int 0])), (a0, .inl (ja, 512, .inr (.inl fc))), (b0, .inl (jb, 512, .inr (.inl fv)))] := hD
      refine lv_aload_n hx hb dX1_clear_30 rfl (lv_at hl 0 rfl) ?_
      refine lv_iload_n hx hb dX1_clear_31 rfl (lv_at hl 1 rfl) ?_
      refine va_put (D := (dC, dI)) (ci := 1) (v := .int (nI a)) (ty := .int) (C := RX1) (T := TX1) (N := 7) hx hb hts (fun w h => List.mem_cons_of_mem _ (pt_wsX1 w h)) tyX1 tyX1_ok nmX1 hown hK hP hD hS 0 rfl rfl 3 (by decide) (hts _ (List.mem_cons_of_mem _ pw164)) (fun _ h9 => h9) rfl (by decide +kernel) rfl rfl (Nat.le_of_ble_eq_true rfl) dX1_clear_32 (fun H locs hP hD hS => ?_)
      have hP : va_P (dC, dI) vwCl [(g0, .inr (1, [.ref a0, .ref b0, .int 0, .int (nI a), .int cl, .int su, .int 0])), (a0, .inl (ja, 512, .inr (.inl fc))), (b0, .inl (jb, 512, .inr (.inl fv)))] H := hP
      have hD : va_D A [(g0, .inr (1, [.ref a0, .ref b0, .int 0, .int (nI a), .int cl, .int su, .int 0])), (a0, .inl (ja, 512, .inr (.inl fc))), (b0, .inl (jb, 512, .inr (.inl fv)))] := hD
      rw [← hQ]
      exact W.vret hx hb hr (fun t ht hW => ⟨⟨((0, a, fc, fv, cl, su), 0), rfl, Or.inr ⟨a, hn1, hn2, rfl, rfl, rfl⟩, by rw [ht]; exact hP, va_K.moved hW.alike hK, hD⟩, hS.F ht⟩) hS.2.2 dX1_clear_35
    · refine lv_aload_n hx hb dX1_clear_16 rfl (lv_at hl 0 rfl) ?_
      refine lv_iconst (v := 1) hx hb dX1_clear_17 (by decide) ?_
      have hPc := hP.sub (ws' := [(g0, .inr (1, [.ref a0, .ref b0, .int (nI k), .int (nI n), .int cl, .int su, .int 0])), (a0, .inl (ja, 512, .inr (.inl fc))), (b0, .inl (jb, 512, .inr (.inl fv)))]) [0, 1, 2] rfl
      have hDc := hD.sub (ws' := [(g0, .inr (1, [.ref a0, .ref b0, .int (nI k), .int (nI n), .int cl, .int su, .int 0])), (a0, .inl (ja, 512, .inr (.inl fc))), (b0, .inl (jb, 512, .inr (.inl fv)))]) [0, 1, 2] (by decide) rfl
      have hKc := hK.sub (tys' := [(ja, .long), (jb, .long)]) [0, 1] rfl
      have hFc := va_free (wc := [(g0, .inr (1, [.ref a0, .ref b0, .int (nI k), .int (nI n), .int cl, .int su, .int 0])), (a0, .inl (ja, 512, .inr (.inl fc))), (b0, .inl (jb, 512, .inr (.inl fv)))]) hD hS hA [0, 1, 2] rfl
      refine va_calli (va_runV (As := [.int 1]) (rest := []) ⟨hx, hb, hml, hown, hts⟩ (c_fail l dC dI g0 a0 b0 ja jb (nI k) (nI n) fc fv cl su 0 1 H.size ) (cwV 1 hts (pt_gV pw183 pw184 pw9 pw18 pw185) rfl rfl rfl (by decide +kernel) ⟨Nat.le_of_ble_eq_true rfl, Nat.le_of_ble_eq_true rfl⟩) ⟨fun a U g mk q => by obtain ⟨q0, q1, qP, qK, qD⟩ := q; exact ⟨q0, q1, qP, va_K.moved (u := U) (U := U.calling g mk a) (Vm.Alike.refl U.vm) qK, qD⟩, va_recv hK hP (ci := 1) (q0 := 0) rfl rfl, fun U hU hW => ⟨rfl, by rw [hU], by rw [hU]; exact hPc, va_K.moved hW.alike hKc, hDc.weaken (fun _ _ _ _ => trivial)⟩⟩ rfl rfl hl.1 rfl (lv_room (Nat.le_of_ble_eq_true rfl)) dX1_clear_18 ⟨Nat.zero_le _, Nat.zero_le _⟩) hS (fun q _ h => hFc q h) hFc (fun r2 u t H1 locs ht hvm hw hB hz1 hk1 hS => ?_)
      obtain ⟨hP1, hK1, hD1⟩ := hB
      rw [ht] at hP1
      obtain ⟨hP, hD⟩ := va_join (wr := ([] : va_W)) (w1 := [(g0, .inr (1, [.ref a0, .ref b0, .int (nI k), .int (nI n), .int cl, .int su, .int 1])), (a0, .inl (ja, 512, .inr (.inl fc))), (b0, .inl (jb, 512, .inr (.inl fv)))]) hP hD [0, 1, 2] [] rfl rfl (by decide) (by decide) hk1 hFc hP1 hD1
      generalize H1 = H at hP hS ⊢
      have hP : va_P (dC, dI) vwCl [(g0, .inr (1, [.ref a0, .ref b0, .int (nI k), .int (nI n), .int cl, .int su, .int 1])), (a0, .inl (ja, 512, .inr (.inl fc))), (b0, .inl (jb, 512, .inr (.inl fv)))] H := hP
      have hD : va_D A [(g0, .inr (1, [.ref a0, .ref b0, .int (nI k), .int (nI n), .int cl, .int su, .int 1])), (a0, .inl (ja, 512, .inr (.inl fc))), (b0, .inl (jb, 512, .inr (.inl fv)))] := hD
      subst hw
      refine lv_pop hx hb dX1_clear_21 rfl ?_
      refine lv_goto (tgt := 35) hx hb dX1_clear_22 (by decide) ?_
      rw [← hQ]
      exact W.vret hx hb hr (fun t ht hW => ⟨⟨((k, n, fc, fv, cl, su), 1), rfl, Or.inl ⟨Or.inr h2, rfl, rfl⟩, by rw [ht]; exact hP, va_K.moved hW.alike hK, hD⟩, hS.F ht⟩) hS.2.2 dX1_clear_35
set_option maxHeartbeats 4000000 in
set_option maxRecDepth 100000 in
/-- the reference: add(c, w) -/
theorem c_madd (l : Launch) (dC : Nat → ClassId) (dI : Nat → Nat → Nat) (g0 a0 b0 : Nat) (ja jb : ClassId) (k n : Nat) (fc fv : Nat → Int64) (cl su th : Int32) (a b : Int64) (sz : Nat) (hI : pt_I k n fc fv) : Met l yX1_add wsX1_add ({ frames := 3, cells := 0, slots := 0, locals := 70 }) (va_Pc [.ref g0, .long a, .long b] (fun U => U.heap.size = sz ∧ va_P (dC, dI) vwCl [(g0, .inr (1, [.ref a0, .ref b0, .int (nI k), .int (nI n), .int cl, .int su, .int th])), (a0, .inl (ja, 512, .inr (.inl fc))), (b0, .inl (jb, 512, .inr (.inl fv)))] U.heap ∧ va_K (dC, dI) vwCl [(ja, .long), (jb, .long)] U ∧ va_D (fun _ => True) [(g0, .inr (1, [.ref a0, .ref b0, .int (nI k), .int (nI n), .int cl, .int su, .int th])), (a0, .inl (ja, 512, .inr (.inl fc))), (b0, .inl (jb, 512, .inr (.inl fv)))])) (va_Qi (fun (r : Int32) u => pt_Radd k n fc fv cl su a b u.2 r.toInt64 u.1) (fun (u : pt_st × Int32) (t : State) => match u with | ((k2, n2, fc2, fv2, cl2, su2), th2) => va_P (dC, dI) vwCl [(g0, .inr (1, [.ref a0, .ref b0, .int (nI k2), .int (nI n2), .int cl2, .int su2, .int th2])), (a0, .inl (ja, 512, .inr (.inl fc2))), (b0, .inl (jb, 512, .inr (.inl fv2)))] t.heap ∧ va_K (dC, dI) vwCl [(ja, .long), (jb, .long)] t ∧ va_D (va_A [(g0, .inr (1, [.ref a0, .ref b0, .int (nI k), .int (nI n), .int cl, .int su, .int th])), (a0, .inl (ja, 512, .inr (.inl fc))), (b0, .inl (jb, 512, .inr (.inl fv)))] sz) [(g0, .inr (1, [.ref a0, .ref b0, .int (nI k2), .int (nI n2), .int cl2, .int su2, .int th2])), (a0, .inl (ja, 512, .inr (.inl fc2))), (b0, .inl (jb, 512, .inr (.inl fv2)))]) (va_A [(g0, .inr (1, [.ref a0, .ref b0, .int (nI k), .int (nI n), .int cl, .int su, .int th])), (a0, .inl (ja, 512, .inr (.inl fc))), (b0, .inl (jb, 512, .inr (.inl fv)))] sz)) 0 0 (va_A [(g0, .inr (1, [.ref a0, .ref b0, .int (nI k), .int (nI n), .int cl, .int su, .int th])), (a0, .inl (ja, 512, .inr (.inl fc))), (b0, .inl (jb, 512, .inr (.inl fv)))] sz) := by
  refine Met.ofW (cc := cX1_add) (maxL := 6) (ret := (some .int)) (by decide) rfl ?_
  intro p e s m args below meth c s₁ B hml hv
  obtain ⟨ha, hsz, hP, hK, hD0⟩ := hv
  subst hsz
  have hx := B.exec
  have hb := B.bytes
  have hr := B.returns
  have hts := atoms_spec (ws := wsX1_add) B.pre
  have hown : s.vm.findClass RX1 = some m.cls := findClass_of_methodNamed B.named
  have hlocks := B.notSynchronized
  have hl := lv_entry ([.ref g0, .long a, .long b]) (n := 6) (Nat.le_of_ble_eq_true rfl)
  refine W.eq (show entryFrame m args 6 = entryFrame m ([.ref g0, .long a, .long b] : List Value).toArray 6 by rw [ha]) ?_
  rw [lg_entry_eq]
  generalize (lg_sl ([.ref g0, .long a, .long b]) ++ List.replicate (6 - (lg_sl ([.ref g0, .long a, .long b])).length) Slot.unset).toArray = ls at hl ⊢
  have hl : lv_has ls 6 [(0, .ref g0), (1, .long a), (3, .long b)] := hl
  have hD := hD0.self (sz := s.heap.size)
  generalize hAe : va_A [(g0, .inr (1, [.ref a0, .ref b0, .int (nI k), .int (nI n), .int cl, .int su, .int th])), (a0, .inl (ja, 512, .inr (.inl fc))), (b0, .inl (jb, 512, .inr (.inl fv)))] s.heap.size = A at hD ⊢
  have hA : ∀ q : Nat, s.heap.size ≤ q → A q := fun q h => by rw [← hAe]; exact Or.inr h
  have hS : va_S A s.heap s.heap [] := va_S.rf
  generalize hQ : MQ below (va_Qi (fun (r : Int32) u => pt_Radd k n fc fv cl su a b u.2 r.toInt64 u.1) (fun (u : pt_st × Int32) (t : State) => match u with | ((k2, n2, fc2, fv2, cl2, su2), th2) => va_P (dC, dI) vwCl [(g0, .inr (1, [.ref a0, .ref b0, .int (nI k2), .int (nI n2), .int cl2, .int su2, .int th2])), (a0, .inl (ja, 512, .inr (.inl fc2))), (b0, .inl (jb, 512, .inr (.inl fv2)))] t.heap ∧ va_K (dC, dI) vwCl [(ja, .long), (jb, .long)] t ∧ va_D A [(g0, .inr (1, [.ref a0, .ref b0, .int (nI k2), .int (nI n2), .int cl2, .int su2, .int th2])), (a0, .inl (ja, 512, .inr (.inl fc2))), (b0, .inl (jb, 512, .inr (.inl fv2)))]) A) args s 0 0 A = Q
  have hP : va_P (dC, dI) vwCl [(g0, .inr (1, [.ref a0, .ref b0, .int (nI k), .int (nI n), .int cl, .int su, .int th])), (a0, .inl (ja, 512, .inr (.inl fc))), (b0, .inl (jb, 512, .inr (.inl fv)))] s.heap := hP
  have hn1 := hI.2.1
  have hn2 := hI.2.2.1
  have hk := hI.1
  refine lv_aload_n hx hb dX1_add_0 rfl (lv_at hl 0 rfl) ?_
  refine lv_iconst (v := 0) hx hb dX1_add_1 (by decide) ?_
  refine va_put (D := (dC, dI)) (ci := 1) (v := .int 0) (ty := .int) (C := RX1) (T := TX1) (N := 7) hx hb hts (fun w h => List.mem_cons_of_mem _ (pt_wsX1 w h)) tyX1 tyX1_ok nmX1 hown hK hP hD hS 0 rfl rfl 6 (by decide) (hts _ (List.mem_cons_of_mem _ pw167)) (fun _ h9 => h9) rfl (by decide +kernel) rfl rfl (Nat.le_of_ble_eq_true rfl) dX1_add_2 (fun H locs hP hD hS => ?_)
  have hP : va_P (dC, dI) vwCl [(g0, .inr (1, [.ref a0, .ref b0, .int (nI k), .int (nI n), .int cl, .int su, .int 0])), (a0, .inl (ja, 512, .inr (.inl fc))), (b0, .inl (jb, 512, .inr (.inl fv)))] H := hP
  have hD : va_D A [(g0, .inr (1, [.ref a0, .ref b0, .int (nI k), .int (nI n), .int cl, .int su, .int 0])), (a0, .inl (ja, 512, .inr (.inl fc))), (b0, .inl (jb, 512, .inr (.inl fv)))] := hD
  refine lv_aload_n hx hb dX1_add_5 rfl (lv_at hl 0 rfl) ?_
  refine lv_lload_n hx hb dX1_add_6 rfl (lv_at hl 1 rfl) ?_
  refine lv_lload_n hx hb dX1_add_7 rfl (lv_at hl 2 rfl) ?_
  refine vp_callSi (W.runV (As := [.long a, .long b]) (rest := []) ⟨hx, hb, hml, hown, hts⟩ (c_wrong l dC dI g0 a0 b0 ja jb k n fc fv cl su 0 a b hn1 hn2) (cwV 2 hts (pt_gV pw190 pw191 pw10 pw18 pw192) rfl rfl rfl (by decide +kernel) ⟨Nat.le_of_ble_eq_true rfl, Nat.le_of_ble_eq_true rfl⟩) ⟨fun a U g mk q => by obtain ⟨q0, qP, qK⟩ := q; exact ⟨q0, qP, va_K.moved (u := U) (U := U.calling g mk a) (Vm.Alike.refl U.vm) qK⟩, va_recv hK hP (ci := 1) (q0 := 0) rfl rfl, fun U hU hW => ⟨rfl, by rw [hU]; exact hP, va_K.moved hW.alike hK⟩⟩ rfl rfl hl.1 rfl (lv_room (Nat.le_of_ble_eq_true rfl)) dX1_add_8 ⟨Nat.zero_le _, Nat.zero_le _⟩) (fun r1 hw => ?_)
  rcases hw with ⟨rfl, hst⟩ | ⟨rfl, hst⟩
  · refine lv_if_eq (tgt := 20) hx hb dX1_add_11 (by decide) (fun h1 => absurd h1 (by decide)) (fun h1 => ?_)
    refine lv_aload_n hx hb dX1_add_14 rfl (lv_at hl 0 rfl) ?_
    refine lv_iconst (v := 1) hx hb dX1_add_15 (by decide) ?_
    have hPc := hP.sub (ws' := [(g0, .inr (1, [.ref a0, .ref b0, .int (nI k), .int (nI n), .int cl, .int su, .int 0])), (a0, .inl (ja, 512, .inr (.inl fc))), (b0, .inl (jb, 512, .inr (.inl fv)))]) [0, 1, 2] rfl
    have hDc := hD.sub (ws' := [(g0, .inr (1, [.ref a0, .ref b0, .int (nI k), .int (nI n), .int cl, .int su, .int 0])), (a0, .inl (ja, 512, .inr (.inl fc))), (b0, .inl (jb, 512, .inr (.inl fv)))]) [0, 1, 2] (by decide) rfl
    have hKc := hK.sub (tys' := [(ja, .long), (jb, .long)]) [0, 1] rfl
    have hFc := va_free (wc := [(g0, .inr (1, [.ref a0, .ref b0, .int (nI k), .int (nI n), .int cl, .int su, .int 0])), (a0, .inl (ja, 512, .inr (.inl fc))), (b0, .inl (jb, 512, .inr (.inl fv)))]) hD hS hA [0, 1, 2] rfl
    refine va_calli (va_runV (As := [.int 1]) (rest := []) ⟨hx, hb, hml, hown, hts⟩ (c_fail l dC dI g0 a0 b0 ja jb (nI k) (nI n) fc fv cl su 0 1 H.size ) (cwV 1 hts (pt_gV pw183 pw184 pw9 pw18 pw185) rfl rfl rfl (by decide +kernel) ⟨Nat.le_of_ble_eq_true rfl, Nat.le_of_ble_eq_true rfl⟩) ⟨fun a U g mk q => by obtain ⟨q0, q1, qP, qK, qD⟩ := q; exact ⟨q0, q1, qP, va_K.moved (u := U) (U := U.calling g mk a) (Vm.Alike.refl U.vm) qK, qD⟩, va_recv hK hP (ci := 1) (q0 := 0) rfl rfl, fun U hU hW => ⟨rfl, by rw [hU], by rw [hU]; exact hPc, va_K.moved hW.alike hKc, hDc.weaken (fun _ _ _ _ => trivial)⟩⟩ rfl rfl hl.1 rfl (lv_room (Nat.le_of_ble_eq_true rfl)) dX1_add_16 ⟨Nat.zero_le _, Nat.zero_le _⟩) hS (fun q _ h => hFc q h) hFc (fun r2 u t H1 locs ht hvm hw hB hz1 hk1 hS => ?_)
    obtain ⟨hP1, hK1, hD1⟩ := hB
    rw [ht] at hP1
    obtain ⟨hP, hD⟩ := va_join (wr := ([] : va_W)) (w1 := [(g0, .inr (1, [.ref a0, .ref b0, .int (nI k), .int (nI n), .int cl, .int su, .int 1])), (a0, .inl (ja, 512, .inr (.inl fc))), (b0, .inl (jb, 512, .inr (.inl fv)))]) hP hD [0, 1, 2] [] rfl rfl (by decide) (by decide) hk1 hFc hP1 hD1
    generalize H1 = H at hP hS ⊢
    have hP : va_P (dC, dI) vwCl [(g0, .inr (1, [.ref a0, .ref b0, .int (nI k), .int (nI n), .int cl, .int su, .int 1])), (a0, .inl (ja, 512, .inr (.inl fc))), (b0, .inl (jb, 512, .inr (.inl fv)))] H := hP
    have hD : va_D A [(g0, .inr (1, [.ref a0, .ref b0, .int (nI k), .int (nI n), .int cl, .int su, .int 1])), (a0, .inl (ja, 512, .inr (.inl fc))), (b0, .inl (jb, 512, .inr (.inl fv)))] := hD
    subst hw
    rw [← hQ]
    exact W.iret (v := 0) hx hb hr (fun t ht hW => ⟨⟨0, ((k, n, fc, fv, cl, su), 1), rfl, Or.inl ⟨hst, rfl, rfl⟩, by rw [ht]; exact hP, va_K.moved hW.alike hK, hD⟩, hS.F ht⟩) hS.2.2 dX1_add_19
  · refine lv_if_eq (tgt := 20) hx hb dX1_add_11 (by decide) (fun h1 => ?_) (fun h1 => absurd rfl h1)
    refine lv_aload_n hx hb dX1_add_20 rfl (lv_at hl 0 rfl) ?_
    refine va_get (D := (dC, dI)) (ci := 1) (v := .int (nI k)) (C := RX1) (T := TX1) (N := 7) hx hb hts (fun w h => List.mem_cons_of_mem _ (pt_wsX1 w h)) hown hK hP 0 rfl rfl 2 (by decide) (hts _ (List.mem_cons_of_mem _ pw163)) (fun _ h9 => h9) rfl dX1_add_21 ?_
    refine lv_sipush (v := 512) hx hb dX1_add_24 (by decide) ?_
    refine lv_icmp_ne (tgt := 34) hx hb dX1_add_27 (by decide) (fun h2 => ?_) (fun h2 => ?_)
    · have hk5 : k < 512 := Nat.lt_of_le_of_ne hk (fun z => h2 (by rw [z]; rfl))
      refine lv_aload_n hx hb dX1_add_34 rfl (lv_at hl 0 rfl) ?_
      refine lv_lload_n hx hb dX1_add_35 rfl (lv_at hl 1 rfl) ?_
      refine lv_lload_n hx hb dX1_add_36 rfl (lv_at hl 2 rfl) ?_
      refine vp_callSi (W.runV (As := [.long a, .long b]) (rest := []) ⟨hx, hb, hml, hown, hts⟩ (c_first l dC dI g0 a0 b0 ja jb k n fc fv cl su 0 a b hk hn1 hn2) (cwV 2 hts (pt_gV pw197 pw198 pw12 pw18 pw199) rfl rfl rfl (by decide +kernel) ⟨Nat.le_of_ble_eq_true rfl, Nat.le_of_ble_eq_true rfl⟩) ⟨fun a U g mk q => by obtain ⟨q0, qP, qK⟩ := q; exact ⟨q0, qP, va_K.moved (u := U) (U := U.calling g mk a) (Vm.Alike.refl U.vm) qK⟩, va_recv hK hP (ci := 1) (q0 := 0) rfl rfl, fun U hU hW => ⟨rfl, by rw [hU]; exact hP, va_K.moved hW.alike hK⟩⟩ rfl rfl hl.1 rfl (lv_room (Nat.le_of_ble_eq_true rfl)) dX1_add_37 ⟨Nat.zero_le _, Nat.zero_le _⟩) (fun r3 hF => ?_)
      refine lv_istore (lv' := [(5, .int r3), (0, .ref g0), (1, .long a), (3, .long b)]) hx hb dX1_add_40 hl (by decide) rfl (fun ls hl => ?_)
      refine lv_aload_n hx hb dX1_add_42 rfl (lv_at hl 1 rfl) ?_
      refine va_get (D := (dC, dI)) (ci := 1) (v := .int (nI k)) (C := RX1) (T := TX1) (N := 7) hx hb hts (fun w h => List.mem_cons_of_mem _ (pt_wsX1 w h)) hown hK hP 0 rfl rfl 2 (by decide) (hts _ (List.mem_cons_of_mem _ pw163)) (fun _ h9 => h9) rfl dX1_add_43 ?_
      refine lv_sipush (v := 512) hx hb dX1_add_46 (by decide) ?_
      refine lv_icmp_eq (tgt := 57) hx hb dX1_add_49 (by decide) (fun h3 => absurd h3 h2) (fun h3 => ?_)
      refine lv_iload hx hb dX1_add_52 (lv_at hl 0 rfl) ?_
      refine lv_if_lt (tgt := 69) hx hb dX1_add_54 (by decide) (fun h4 => ?_) (fun h4 => ?_)
      · have hno := (pt_F_none hk hF).mp ((pt_F_neg hk hF).mp h4)
        refine lv_aload_n hx hb dX1_add_69 rfl (lv_at hl 1 rfl) ?_
        refine va_get (D := (dC, dI)) (ci := 1) (v := .ref a0) (C := RX1) (T := TX1) (N := 7) hx hb hts (fun w h => List.mem_cons_of_mem _ (pt_wsX1 w h)) hown hK hP 0 rfl rfl 0 (by decide) (hts _ (List.mem_cons_of_mem _ pw161)) (fun _ h9 => h9) rfl dX1_add_70 ?_
        refine lv_aload_n hx hb dX1_add_73 rfl (lv_at hl 1 rfl) ?_
        refine va_get (D := (dC, dI)) (ci := 1) (v := .int (nI k)) (C := RX1) (T := TX1) (N := 7) hx hb hts (fun w h => List.mem_cons_of_mem _ (pt_wsX1 w h)) hown hK hP 0 rfl rfl 2 (by decide) (hts _ (List.mem_cons_of_mem _ pw163)) (fun _ h9 => h9) rfl dX1_add_74 ?_
        refine lv_lload_n hx hb dX1_add_77 rfl (lv_at hl 2 rfl) ?_
        refine lv_aload_n hx hb dX1_add_78 rfl (lv_at hl 1 rfl) ?_
        refine vp_callSl (W.runV (As := []) (rest := [.long a, .int (nI k), .ref a0]) ⟨hx, hb, hml, hown, hts⟩ (c_mmask l dC dI g0 a0 b0 ja jb k n fc fv cl su 0 hn1 hn2) (cwV 0 hts (pt_gV pw194 pw195 pw11 pw18 pw196) rfl rfl rfl (by decide +kernel) ⟨Nat.le_of_ble_eq_true rfl, Nat.le_of_ble_eq_true rfl⟩) ⟨fun a U g mk q => by obtain ⟨q0, qP, qK⟩ := q; exact ⟨q0, qP, va_K.moved (u := U) (U := U.calling g mk a) (Vm.Alike.refl U.vm) qK⟩, va_recv hK hP (ci := 1) (q0 := 0) rfl rfl, fun U hU hW => ⟨rfl, by rw [hU]; exact hP, va_K.moved hW.alike hK⟩⟩ rfl rfl hl.1 rfl (lv_room (Nat.le_of_ble_eq_true rfl)) dX1_add_79 ⟨Nat.zero_le _, Nat.zero_le _⟩) (fun r4 hw => ?_)
        subst hw
        refine lv_land hx hb dX1_add_82 ?_
        refine va_last hx hb hK hP hD hS 1 0 rfl rfl (vp_in_nI hk5 (by decide)) dX1_add_83 (fun H locs hP hD hS => ?_)
        rw [nI_clamp (by omega)] at hP hD
        have hP : va_P (dC, dI) vwCl [(g0, .inr (1, [.ref a0, .ref b0, .int (nI k), .int (nI n), .int cl, .int su, .int 0])), (a0, .inl (ja, 512, .inr (.inl (vp_updL fc k (a &&& (pt_mk n)))))), (b0, .inl (jb, 512, .inr (.inl fv)))] H := hP
        have hD : va_D A [(g0, .inr (1, [.ref a0, .ref b0, .int (nI k), .int (nI n), .int cl, .int su, .int 0])), (a0, .inl (ja, 512, .inr (.inl (vp_updL fc k (a &&& (pt_mk n)))))), (b0, .inl (jb, 512, .inr (.inl fv)))] := hD
        refine lv_aload_n hx hb dX1_add_84 rfl (lv_at hl 1 rfl) ?_
        refine va_get (D := (dC, dI)) (ci := 1) (v := .ref b0) (C := RX1) (T := TX1) (N := 7) hx hb hts (fun w h => List.mem_cons_of_mem _ (pt_wsX1 w h)) hown hK hP 0 rfl rfl 1 (by decide) (hts _ (List.mem_cons_of_mem _ pw162)) (fun _ h9 => h9) rfl dX1_add_85 ?_
        refine lv_aload_n hx hb dX1_add_88 rfl (lv_at hl 1 rfl) ?_
        refine va_get (D := (dC, dI)) (ci := 1) (v := .int (nI k)) (C := RX1) (T := TX1) (N := 7) hx hb hts (fun w h => List.mem_cons_of_mem _ (pt_wsX1 w h)) hown hK hP 0 rfl rfl 2 (by decide) (hts _ (List.mem_cons_of_mem _ pw163)) (fun _ h9 => h9) rfl dX1_add_89 ?_
        refine lv_lload_n hx hb dX1_add_92 rfl (lv_at hl 3 rfl) ?_
        refine lv_aload_n hx hb dX1_add_93 rfl (lv_at hl 1 rfl) ?_
        refine vp_callSl (W.runV (As := []) (rest := [.long b, .int (nI k), .ref b0]) ⟨hx, hb, hml, hown, hts⟩ (c_mmask l dC dI g0 a0 b0 ja jb k n (vp_updL fc k (a &&& (pt_mk n))) fv cl su 0 hn1 hn2) (cwV 0 hts (pt_gV pw194 pw195 pw11 pw18 pw196) rfl rfl rfl (by decide +kernel) ⟨Nat.le_of_ble_eq_true rfl, Nat.le_of_ble_eq_true rfl⟩) ⟨fun a U g mk q => by obtain ⟨q0, qP, qK⟩ := q; exact ⟨q0, qP, va_K.moved (u := U) (U := U.calling g mk a) (Vm.Alike.refl U.vm) qK⟩, va_recv hK hP (ci := 1) (q0 := 0) rfl rfl, fun U hU hW => ⟨rfl, by rw [hU]; exact hP, va_K.moved hW.alike hK⟩⟩ rfl rfl hl.1 rfl (lv_room (Nat.le_of_ble_eq_true rfl)) dX1_add_94 ⟨Nat.zero_le _, Nat.zero_le _⟩) (fun r5 hw => ?_)
        subst hw
        refine lv_land hx hb dX1_add_97 ?_
        refine va_last hx hb hK hP hD hS 2 1 rfl rfl (vp_in_nI hk5 (by decide)) dX1_add_98 (fun H locs hP hD hS => ?_)
        rw [nI_clamp (by omega)] at hP hD
        have hP : va_P (dC, dI) vwCl [(g0, .inr (1, [.ref a0, .ref b0, .int (nI k), .int (nI n), .int cl, .int su, .int 0])), (a0, .inl (ja, 512, .inr (.inl (vp_updL fc k (a &&& (pt_mk n)))))), (b0, .inl (jb, 512, .inr (.inl (vp_updL fv k (b &&& (pt_mk n))))))] H := hP
        have hD : va_D A [(g0, .inr (1, [.ref a0, .ref b0, .int (nI k), .int (nI n), .int cl, .int su, .int 0])), (a0, .inl (ja, 512, .inr (.inl (vp_updL fc k (a &&& (pt_mk n)))))), (b0, .inl (jb, 512, .inr (.inl (vp_updL fv k (b &&& (pt_mk n))))))] := hD
        refine lv_aload_n hx hb dX1_add_99 rfl (lv_at hl 1 rfl) ?_
        refine lv_dup hx hb dX1_add_100 rfl ?_
        refine va_get (D := (dC, dI)) (ci := 1) (v := .int (nI k)) (C := RX1) (T := TX1) (N := 7) hx hb hts (fun w h => List.mem_cons_of_mem _ (pt_wsX1 w h)) hown hK hP 0 rfl rfl 2 (by decide) (hts _ (List.mem_cons_of_mem _ pw163)) (fun _ h9 => h9) rfl dX1_add_101 ?_
        refine lv_iconst (v := 1) hx hb dX1_add_104 (by decide) ?_
        refine lv_iadd hx hb dX1_add_105 ?_
        rw [nI_1]
        refine va_put (D := (dC, dI)) (ci := 1) (v := .int (nI (k + 1))) (ty := .int) (C := RX1) (T := TX1) (N := 7) hx hb hts (fun w h => List.mem_cons_of_mem _ (pt_wsX1 w h)) tyX1 tyX1_ok nmX1 hown hK hP hD hS 0 rfl rfl 2 (by decide) (hts _ (List.mem_cons_of_mem _ pw163)) (fun _ h9 => h9) rfl (by decide +kernel) rfl rfl (Nat.le_of_ble_eq_true rfl) dX1_add_106 (fun H locs hP hD hS => ?_)
        have hP : va_P (dC, dI) vwCl [(g0, .inr (1, [.ref a0, .ref b0, .int (nI (k + 1)), .int (nI n), .int cl, .int su, .int 0])), (a0, .inl (ja, 512, .inr (.inl (vp_updL fc k (a &&& (pt_mk n)))))), (b0, .inl (jb, 512, .inr (.inl (vp_updL fv k (b &&& (pt_mk n))))))] H := hP
        have hD : va_D A [(g0, .inr (1, [.ref a0, .ref b0, .int (nI (k + 1)), .int (nI n), .int cl, .int su, .int 0])), (a0, .inl (ja, 512, .inr (.inl (vp_updL fc k (a &&& (pt_mk n)))))), (b0, .inl (jb, 512, .inr (.inl (vp_updL fv k (b &&& (pt_mk n))))))] := hD
        refine lv_aload_n hx hb dX1_add_109 rfl (lv_at hl 1 rfl) ?_
        refine va_get (D := (dC, dI)) (ci := 1) (v := .int (nI (k + 1))) (C := RX1) (T := TX1) (N := 7) hx hb hts (fun w h => List.mem_cons_of_mem _ (pt_wsX1 w h)) hown hK hP 0 rfl rfl 2 (by decide) (hts _ (List.mem_cons_of_mem _ pw163)) (fun _ h9 => h9) rfl dX1_add_110 ?_
        refine lv_iconst (v := 1) hx hb dX1_add_113 (by decide) ?_
        refine lv_isub hx hb dX1_add_114 ?_
        rw [nI_pred]
        rw [← hQ]
        exact W.iret (v := nI k) hx hb hr (fun t ht hW => ⟨⟨nI k, ((k + 1, n, vp_updL fc k (a &&& pt_mk n), vp_updL fv k (b &&& pt_mk n), cl, su), 0), rfl, Or.inr ⟨hst, Or.inr (Or.inr ⟨hk5, hno, rfl, rfl, rfl⟩)⟩, by rw [ht]; exact hP, va_K.moved hW.alike hK, hD⟩, hS.F ht⟩) hS.2.2 dX1_add_115
      · refine lv_aload_n hx hb dX1_add_57 rfl (lv_at hl 1 rfl) ?_
        refine lv_iload hx hb dX1_add_58 (lv_at hl 0 rfl) ?_
        refine va_put (D := (dC, dI)) (ci := 1) (v := .int r3) (ty := .int) (C := RX1) (T := TX1) (N := 7) hx hb hts (fun w h => List.mem_cons_of_mem _ (pt_wsX1 w h)) tyX1 tyX1_ok nmX1 hown hK hP hD hS 0 rfl rfl 4 (by decide) (hts _ (List.mem_cons_of_mem _ pw165)) (fun _ h9 => h9) rfl (by decide +kernel) rfl rfl (Nat.le_of_ble_eq_true rfl) dX1_add_60 (fun H locs hP hD hS => ?_)
        have hP : va_P (dC, dI) vwCl [(g0, .inr (1, [.ref a0, .ref b0, .int (nI k), .int (nI n), .int r3, .int su, .int 0])), (a0, .inl (ja, 512, .inr (.inl fc))), (b0, .inl (jb, 512, .inr (.inl fv)))] H := hP
        have hD : va_D A [(g0, .inr (1, [.ref a0, .ref b0, .int (nI k), .int (nI n), .int r3, .int su, .int 0])), (a0, .inl (ja, 512, .inr (.inl fc))), (b0, .inl (jb, 512, .inr (.inl fv)))] := hD
        refine lv_aload_n hx hb dX1_add_63 rfl (lv_at hl 1 rfl) ?_
        refine lv_iconst (v := 2) hx hb dX1_add_64 (by decide) ?_
        have hPc := hP.sub (ws' := [(g0, .inr (1, [.ref a0, .ref b0, .int (nI k), .int (nI n), .int r3, .int su, .int 0])), (a0, .inl (ja, 512, .inr (.inl fc))), (b0, .inl (jb, 512, .inr (.inl fv)))]) [0, 1, 2] rfl
        have hDc := hD.sub (ws' := [(g0, .inr (1, [.ref a0, .ref b0, .int (nI k), .int (nI n), .int r3, .int su, .int 0])), (a0, .inl (ja, 512, .inr (.inl fc))), (b0, .inl (jb, 512, .inr (.inl fv)))]) [0, 1, 2] (by decide) rfl
        have hKc := hK.sub (tys' := [(ja, .long), (jb, .long)]) [0, 1] rfl
        have hFc := va_free (wc := [(g0, .inr (1, [.ref a0, .ref b0, .int (nI k), .int (nI n), .int r3, .int su, .int 0])), (a0, .inl (ja, 512, .inr (.inl fc))), (b0, .inl (jb, 512, .inr (.inl fv)))]) hD hS hA [0, 1, 2] rfl
        refine va_calli (va_runV (As := [.int 2]) (rest := []) ⟨hx, hb, hml, hown, hts⟩ (c_fail l dC dI g0 a0 b0 ja jb (nI k) (nI n) fc fv r3 su 0 2 H.size ) (cwV 1 hts (pt_gV pw183 pw184 pw9 pw18 pw185) rfl rfl rfl (by decide +kernel) ⟨Nat.le_of_ble_eq_true rfl, Nat.le_of_ble_eq_true rfl⟩) ⟨fun a U g mk q => by obtain ⟨q0, q1, qP, qK, qD⟩ := q; exact ⟨q0, q1, qP, va_K.moved (u := U) (U := U.calling g mk a) (Vm.Alike.refl U.vm) qK, qD⟩, va_recv hK hP (ci := 1) (q0 := 0) rfl rfl, fun U hU hW => ⟨rfl, by rw [hU], by rw [hU]; exact hPc, va_K.moved hW.alike hKc, hDc.weaken (fun _ _ _ _ => trivial)⟩⟩ rfl rfl hl.1 rfl (lv_room (Nat.le_of_ble_eq_true rfl)) dX1_add_65 ⟨Nat.zero_le _, Nat.zero_le _⟩) hS (fun q _ h => hFc q h) hFc (fun r6 u t H1 locs ht hvm hw hB hz1 hk1 hS => ?_)
        obtain ⟨hP1, hK1, hD1⟩ := hB
        rw [ht] at hP1
        obtain ⟨hP, hD⟩ := va_join (wr := ([] : va_W)) (w1 := [(g0, .inr (1, [.ref a0, .ref b0, .int (nI k), .int (nI n), .int r3, .int su, .int 2])), (a0, .inl (ja, 512, .inr (.inl fc))), (b0, .inl (jb, 512, .inr (.inl fv)))]) hP hD [0, 1, 2] [] rfl rfl (by decide) (by decide) hk1 hFc hP1 hD1
        generalize H1 = H at hP hS ⊢
        have hP : va_P (dC, dI) vwCl [(g0, .inr (1, [.ref a0, .ref b0, .int (nI k), .int (nI n), .int r3, .int su, .int 2])), (a0, .inl (ja, 512, .inr (.inl fc))), (b0, .inl (jb, 512, .inr (.inl fv)))] H := hP
        have hD : va_D A [(g0, .inr (1, [.ref a0, .ref b0, .int (nI k), .int (nI n), .int r3, .int su, .int 2])), (a0, .inl (ja, 512, .inr (.inl fc))), (b0, .inl (jb, 512, .inr (.inl fv)))] := hD
        subst hw
        rw [← hQ]
        exact W.iret (v := 0) hx hb hr (fun t ht hW => ⟨⟨0, ((k, n, fc, fv, r3, su), 2), rfl, Or.inr ⟨hst, Or.inr (Or.inl ⟨hk5, r3, hF, fun z => h4 ((pt_F_neg hk hF).mpr z), rfl, rfl⟩)⟩, by rw [ht]; exact hP, va_K.moved hW.alike hK, hD⟩, hS.F ht⟩) hS.2.2 dX1_add_68
    · have hk5 : k = 512 := (nI_eq (b := 512) (by omega) (by decide)).mp h2
      refine lv_iconst (v := (-1)) hx hb dX1_add_30 (by decide) ?_
      refine lv_goto (tgt := 40) hx hb dX1_add_31 (by decide) ?_
      refine lv_istore (lv' := [(5, .int (-1)), (0, .ref g0), (1, .long a), (3, .long b)]) hx hb dX1_add_40 hl (by decide) rfl (fun ls hl => ?_)
      refine lv_aload_n hx hb dX1_add_42 rfl (lv_at hl 1 rfl) ?_
      refine va_get (D := (dC, dI)) (ci := 1) (v := .int (nI k)) (C := RX1) (T := TX1) (N := 7) hx hb hts (fun w h => List.mem_cons_of_mem _ (pt_wsX1 w h)) hown hK hP 0 rfl rfl 2 (by decide) (hts _ (List.mem_cons_of_mem _ pw163)) (fun _ h9 => h9) rfl dX1_add_43 ?_
      refine lv_sipush (v := 512) hx hb dX1_add_46 (by decide) ?_
      refine lv_icmp_eq (tgt := 57) hx hb dX1_add_49 (by decide) (fun h3 => ?_) (fun h3 => absurd h2 h3)
      refine lv_aload_n hx hb dX1_add_57 rfl (lv_at hl 1 rfl) ?_
      refine lv_iload hx hb dX1_add_58 (lv_at hl 0 rfl) ?_
      refine va_put (D := (dC, dI)) (ci := 1) (v := .int (-1)) (ty := .int) (C := RX1) (T := TX1) (N := 7) hx hb hts (fun w h => List.mem_cons_of_mem _ (pt_wsX1 w h)) tyX1 tyX1_ok nmX1 hown hK hP hD hS 0 rfl rfl 4 (by decide) (hts _ (List.mem_cons_of_mem _ pw165)) (fun _ h9 => h9) rfl (by decide +kernel) rfl rfl (Nat.le_of_ble_eq_true rfl) dX1_add_60 (fun H locs hP hD hS => ?_)
      have hP : va_P (dC, dI) vwCl [(g0, .inr (1, [.ref a0, .ref b0, .int (nI k), .int (nI n), .int (-1), .int su, .int 0])), (a0, .inl (ja, 512, .inr (.inl fc))), (b0, .inl (jb, 512, .inr (.inl fv)))] H := hP
      have hD : va_D A [(g0, .inr (1, [.ref a0, .ref b0, .int (nI k), .int (nI n), .int (-1), .int su, .int 0])), (a0, .inl (ja, 512, .inr (.inl fc))), (b0, .inl (jb, 512, .inr (.inl fv)))] := hD
      refine lv_aload_n hx hb dX1_add_63 rfl (lv_at hl 1 rfl) ?_
      refine lv_iconst (v := 2) hx hb dX1_add_64 (by decide) ?_
      have hPc := hP.sub (ws' := [(g0, .inr (1, [.ref a0, .ref b0, .int (nI k), .int (nI n), .int (-1), .int su, .int 0])), (a0, .inl (ja, 512, .inr (.inl fc))), (b0, .inl (jb, 512, .inr (.inl fv)))]) [0, 1, 2] rfl
      have hDc := hD.sub (ws' := [(g0, .inr (1, [.ref a0, .ref b0, .int (nI k), .int (nI n), .int (-1), .int su, .int 0])), (a0, .inl (ja, 512, .inr (.inl fc))), (b0, .inl (jb, 512, .inr (.inl fv)))]) [0, 1, 2] (by decide) rfl
      have hKc := hK.sub (tys' := [(ja, .long), (jb, .long)]) [0, 1] rfl
      have hFc := va_free (wc := [(g0, .inr (1, [.ref a0, .ref b0, .int (nI k), .int (nI n), .int (-1), .int su, .int 0])), (a0, .inl (ja, 512, .inr (.inl fc))), (b0, .inl (jb, 512, .inr (.inl fv)))]) hD hS hA [0, 1, 2] rfl
      refine va_calli (va_runV (As := [.int 2]) (rest := []) ⟨hx, hb, hml, hown, hts⟩ (c_fail l dC dI g0 a0 b0 ja jb (nI k) (nI n) fc fv (-1) su 0 2 H.size ) (cwV 1 hts (pt_gV pw183 pw184 pw9 pw18 pw185) rfl rfl rfl (by decide +kernel) ⟨Nat.le_of_ble_eq_true rfl, Nat.le_of_ble_eq_true rfl⟩) ⟨fun a U g mk q => by obtain ⟨q0, q1, qP, qK, qD⟩ := q; exact ⟨q0, q1, qP, va_K.moved (u := U) (U := U.calling g mk a) (Vm.Alike.refl U.vm) qK, qD⟩, va_recv hK hP (ci := 1) (q0 := 0) rfl rfl, fun U hU hW => ⟨rfl, by rw [hU], by rw [hU]; exact hPc, va_K.moved hW.alike hKc, hDc.weaken (fun _ _ _ _ => trivial)⟩⟩ rfl rfl hl.1 rfl (lv_room (Nat.le_of_ble_eq_true rfl)) dX1_add_65 ⟨Nat.zero_le _, Nat.zero_le _⟩) hS (fun q _ h => hFc q h) hFc (fun r7 u t H1 locs ht hvm hw hB hz1 hk1 hS => ?_)
      obtain ⟨hP1, hK1, hD1⟩ := hB
      rw [ht] at hP1
      obtain ⟨hP, hD⟩ := va_join (wr := ([] : va_W)) (w1 := [(g0, .inr (1, [.ref a0, .ref b0, .int (nI k), .int (nI n), .int (-1), .int su, .int 2])), (a0, .inl (ja, 512, .inr (.inl fc))), (b0, .inl (jb, 512, .inr (.inl fv)))]) hP hD [0, 1, 2] [] rfl rfl (by decide) (by decide) hk1 hFc hP1 hD1
      generalize H1 = H at hP hS ⊢
      have hP : va_P (dC, dI) vwCl [(g0, .inr (1, [.ref a0, .ref b0, .int (nI k), .int (nI n), .int (-1), .int su, .int 2])), (a0, .inl (ja, 512, .inr (.inl fc))), (b0, .inl (jb, 512, .inr (.inl fv)))] H := hP
      have hD : va_D A [(g0, .inr (1, [.ref a0, .ref b0, .int (nI k), .int (nI n), .int (-1), .int su, .int 2])), (a0, .inl (ja, 512, .inr (.inl fc))), (b0, .inl (jb, 512, .inr (.inl fv)))] := hD
      subst hw
      rw [← hQ]
      exact W.iret (v := 0) hx hb hr (fun t ht hW => ⟨⟨0, ((k, n, fc, fv, -1, su), 2), rfl, Or.inr ⟨hst, Or.inl ⟨hk5, rfl, rfl⟩⟩, by rw [ht]; exact hP, va_K.moved hW.alike hK, hD⟩, hS.F ht⟩) hS.2.2 dX1_add_68
set_option maxHeartbeats 4000000 in
set_option maxRecDepth 100000 in
/-- the reference: signs(digits) -/
theorem c_msigns (l : Launch) (dC : Nat → ClassId) (dI : Nat → Nat → Nat) (g0 a0 b0 : Nat) (ja jb : ClassId) (k n : Nat) (fc fv : Nat → Int64) (cl su th : Int32) (x : Int64) (sz : Nat) (hI : pt_I k n fc fv) : Met l yX1_signs wsX1_signs ({ frames := 4, cells := 0, slots := 0, locals := 95 }) (va_Pc [.ref g0, .long x] (fun U => U.heap.size = sz ∧ va_P (dC, dI) vwCl [(g0, .inr (1, [.ref a0, .ref b0, .int (nI k), .int (nI n), .int cl, .int su, .int th])), (a0, .inl (ja, 512, .inr (.inl fc))), (b0, .inl (jb, 512, .inr (.inl fv)))] U.heap ∧ va_K (dC, dI) vwCl [(ja, .long), (jb, .long)] U ∧ va_D (fun _ => True) [(g0, .inr (1, [.ref a0, .ref b0, .int (nI k), .int (nI n), .int cl, .int su, .int th])), (a0, .inl (ja, 512, .inr (.inl fc))), (b0, .inl (jb, 512, .inr (.inl fv)))])) (va_Qi (fun (r : Int32) u => pt_Rsigns k n fc fv cl su x u.2 r.toInt64 u.1) (fun (u : pt_st × Int32) (t : State) => match u with | ((k2, n2, fc2, fv2, cl2, su2), th2) => va_P (dC, dI) vwCl [(g0, .inr (1, [.ref a0, .ref b0, .int (nI k2), .int (nI n2), .int cl2, .int su2, .int th2])), (a0, .inl (ja, 512, .inr (.inl fc2))), (b0, .inl (jb, 512, .inr (.inl fv2)))] t.heap ∧ va_K (dC, dI) vwCl [(ja, .long), (jb, .long)] t ∧ va_D (va_A [(g0, .inr (1, [.ref a0, .ref b0, .int (nI k), .int (nI n), .int cl, .int su, .int th])), (a0, .inl (ja, 512, .inr (.inl fc))), (b0, .inl (jb, 512, .inr (.inl fv)))] sz) [(g0, .inr (1, [.ref a0, .ref b0, .int (nI k2), .int (nI n2), .int cl2, .int su2, .int th2])), (a0, .inl (ja, 512, .inr (.inl fc2))), (b0, .inl (jb, 512, .inr (.inl fv2)))]) (va_A [(g0, .inr (1, [.ref a0, .ref b0, .int (nI k), .int (nI n), .int cl, .int su, .int th])), (a0, .inl (ja, 512, .inr (.inl fc))), (b0, .inl (jb, 512, .inr (.inl fv)))] sz)) 0 0 (va_A [(g0, .inr (1, [.ref a0, .ref b0, .int (nI k), .int (nI n), .int cl, .int su, .int th])), (a0, .inl (ja, 512, .inr (.inl fc))), (b0, .inl (jb, 512, .inr (.inl fv)))] sz) := by
  refine Met.ofW (cc := cX1_signs) (maxL := 12) (ret := (some .int)) (by decide) rfl ?_
  intro p e s m args below meth c s₁ B hml hv
  obtain ⟨ha, hsz, hP, hK, hD0⟩ := hv
  subst hsz
  have hx := B.exec
  have hb := B.bytes
  have hr := B.returns
  have hts := atoms_spec (ws := wsX1_signs) B.pre
  have hown : s.vm.findClass RX1 = some m.cls := findClass_of_methodNamed B.named
  have hlocks := B.notSynchronized
  have hl := lv_entry ([.ref g0, .long x]) (n := 12) (Nat.le_of_ble_eq_true rfl)
  refine W.eq (show entryFrame m args 12 = entryFrame m ([.ref g0, .long x] : List Value).toArray 12 by rw [ha]) ?_
  rw [lg_entry_eq]
  generalize (lg_sl ([.ref g0, .long x]) ++ List.replicate (12 - (lg_sl ([.ref g0, .long x])).length) Slot.unset).toArray = ls at hl ⊢
  have hl : lv_has ls 12 [(0, .ref g0), (1, .long x)] := hl
  have hD := hD0.self (sz := s.heap.size)
  generalize hAe : va_A [(g0, .inr (1, [.ref a0, .ref b0, .int (nI k), .int (nI n), .int cl, .int su, .int th])), (a0, .inl (ja, 512, .inr (.inl fc))), (b0, .inl (jb, 512, .inr (.inl fv)))] s.heap.size = A at hD ⊢
  have hA : ∀ q : Nat, s.heap.size ≤ q → A q := fun q h => by rw [← hAe]; exact Or.inr h
  have hS : va_S A s.heap s.heap [] := va_S.rf
  generalize hQ : MQ below (va_Qi (fun (r : Int32) u => pt_Rsigns k n fc fv cl su x u.2 r.toInt64 u.1) (fun (u : pt_st × Int32) (t : State) => match u with | ((k2, n2, fc2, fv2, cl2, su2), th2) => va_P (dC, dI) vwCl [(g0, .inr (1, [.ref a0, .ref b0, .int (nI k2), .int (nI n2), .int cl2, .int su2, .int th2])), (a0, .inl (ja, 512, .inr (.inl fc2))), (b0, .inl (jb, 512, .inr (.inl fv2)))] t.heap ∧ va_K (dC, dI) vwCl [(ja, .long), (jb, .long)] t ∧ va_D A [(g0, .inr (1, [.ref a0, .ref b0, .int (nI k2), .int (nI n2), .int cl2, .int su2, .int th2])), (a0, .inl (ja, 512, .inr (.inl fc2))), (b0, .inl (jb, 512, .inr (.inl fv2)))]) A) args s 0 0 A = Q
  have hP : va_P (dC, dI) vwCl [(g0, .inr (1, [.ref a0, .ref b0, .int (nI k), .int (nI n), .int cl, .int su, .int th])), (a0, .inl (ja, 512, .inr (.inl fc))), (b0, .inl (jb, 512, .inr (.inl fv)))] s.heap := hP
  have hn1 := hI.2.1
  have hn2 := hI.2.2.1
  refine lv_aload_n hx hb dX1_signs_0 rfl (lv_at hl 0 rfl) ?_
  refine lv_iconst (v := 0) hx hb dX1_signs_1 (by decide) ?_
  refine va_put (D := (dC, dI)) (ci := 1) (v := .int 0) (ty := .int) (C := RX1) (T := TX1) (N := 7) hx hb hts (fun w h => List.mem_cons_of_mem _ (pt_wsX1 w h)) tyX1 tyX1_ok nmX1 hown hK hP hD hS 0 rfl rfl 6 (by decide) (hts _ (List.mem_cons_of_mem _ pw167)) (fun _ h9 => h9) rfl (by decide +kernel) rfl rfl (Nat.le_of_ble_eq_true rfl) dX1_signs_2 (fun H locs hP hD hS => ?_)
  have hP : va_P (dC, dI) vwCl [(g0, .inr (1, [.ref a0, .ref b0, .int (nI k), .int (nI n), .int cl, .int su, .int 0])), (a0, .inl (ja, 512, .inr (.inl fc))), (b0, .inl (jb, 512, .inr (.inl fv)))] H := hP
  have hD : va_D A [(g0, .inr (1, [.ref a0, .ref b0, .int (nI k), .int (nI n), .int cl, .int su, .int 0])), (a0, .inl (ja, 512, .inr (.inl fc))), (b0, .inl (jb, 512, .inr (.inl fv)))] := hD
  refine lv_lload_n hx hb dX1_signs_5 rfl (lv_at hl 1 rfl) ?_
  refine lv_lconst (v := 0) hx hb dX1_signs_6 (by decide) ?_
  refine W.lcmp hx hb dX1_signs_7 ?_
  refine lv_if_ge (tgt := 17) hx hb dX1_signs_8 (by decide) (fun h1 => ?_) (fun h1 => ?_)
  · obtain ⟨D, hDb, rfl⟩ := pk_lOf (Int64.not_lt.mpr ((lg_cmp_ge _ _).mp h1))
    obtain ⟨M, hM⟩ : ∃ M, M = pt_sn n := ⟨_, rfl⟩
    have hM1 : M ≤ 40 := by rw [hM]; unfold pt_sn; split <;> omega
    have hM2 : M ≤ n := by rw [hM]; unfold pt_sn; split <;> omega
    have hM3 : M = 40 ∨ M = n := by rw [hM]; unfold pt_sn; split <;> omega
    refine lv_lconst (v := 0) hx hb dX1_signs_17 (by decide) ?_
    refine lv_lstore_n (lv' := [(3, .long 0), (0, .ref g0), (1, .long (lN D))]) hx hb dX1_signs_18 rfl hl (by decide) rfl (fun ls hl => ?_)
    refine lv_lconst (v := 0) hx hb dX1_signs_19 (by decide) ?_
    refine lv_lstore (lv' := [(5, .long 0), (3, .long 0), (0, .ref g0), (1, .long (lN D))]) hx hb dX1_signs_20 hl (by decide) rfl (fun ls hl => ?_)
    refine lv_lload_n hx hb dX1_signs_22 rfl (lv_at hl 3 rfl) ?_
    refine lv_lstore (lv' := [(7, .long (lN D)), (5, .long 0), (3, .long 0), (0, .ref g0), (1, .long (lN D))]) hx hb dX1_signs_23 hl (by decide) rfl (fun ls hl => ?_)
    refine lv_iconst (v := 0) hx hb dX1_signs_25 (by decide) ?_
    refine lv_istore (lv' := [(9, .int 0), (7, .long (lN D)), (5, .long 0), (3, .long 0), (0, .ref g0), (1, .long (lN D))]) hx hb dX1_signs_26 hl (by decide) rfl (fun ls hl => ?_)
    have loop : ∀ (d i : Nat) (ls : Array Slot), M - i = d → i ≤ M → lv_has ls 12 [(9, .int (nI i)), (7, .long (lN (D / 3 ^ i))), (5, .long (pt_sw D i)), (3, .long (pt_sc D i)), (0, .ref g0), (1, .long (lN D))] → W p l e (headSpec wsX1_signs ({ frames := 4, cells := 0, slots := 0, locals := 95 })).room s m args below meth c H locs 0 0 Q (F0 m 28 ls []) := by
      intro d
      induction d with
      | zero =>
        intro i ls hd hi hl
        have hiM : i = M := by omega
        rw [hiM] at hl
        refine lv_iload hx hb dX1_signs_28 (lv_at hl 0 rfl) ?_
        refine lv_bipush (v := 40) hx hb dX1_signs_30 (by decide) ?_
        refine lv_icmp_ge (tgt := 98) hx hb dX1_signs_32 (by decide) (fun h2 => ?_) (fun h2 => ?_)
        · refine lv_aload_n hx hb dX1_signs_98 rfl (lv_at hl 4 rfl) ?_
          refine lv_lload_n hx hb dX1_signs_99 rfl (lv_at hl 3 rfl) ?_
          refine lv_lload hx hb dX1_signs_100 (lv_at hl 2 rfl) ?_
          have hPc := hP.sub (ws' := [(g0, .inr (1, [.ref a0, .ref b0, .int (nI k), .int (nI n), .int cl, .int su, .int 0])), (a0, .inl (ja, 512, .inr (.inl fc))), (b0, .inl (jb, 512, .inr (.inl fv)))]) [0, 1, 2] rfl
          have hDc := hD.sub (ws' := [(g0, .inr (1, [.ref a0, .ref b0, .int (nI k), .int (nI n), .int cl, .int su, .int 0])), (a0, .inl (ja, 512, .inr (.inl fc))), (b0, .inl (jb, 512, .inr (.inl fv)))]) [0, 1, 2] (by decide) rfl
          have hKc := hK.sub (tys' := [(ja, .long), (jb, .long)]) [0, 1] rfl
          have hFc := va_free (wc := [(g0, .inr (1, [.ref a0, .ref b0, .int (nI k), .int (nI n), .int cl, .int su, .int 0])), (a0, .inl (ja, 512, .inr (.inl fc))), (b0, .inl (jb, 512, .inr (.inl fv)))]) hD hS hA [0, 1, 2] rfl
          refine va_calli (va_runV (As := [.long (pt_sc D M), .long (pt_sw D M)]) (rest := []) ⟨hx, hb, hml, hown, hts⟩ (c_madd l dC dI g0 a0 b0 ja jb k n fc fv cl su 0 (pt_sc D M) (pt_sw D M) H.size hI) (cwV 2 hts (pt_gV pw209 pw187 pw188 pw18 pw189) rfl rfl rfl (by decide +kernel) ⟨Nat.le_of_ble_eq_true rfl, Nat.le_of_ble_eq_true rfl⟩) ⟨fun a U g mk q => by obtain ⟨q0, q1, qP, qK, qD⟩ := q; exact ⟨q0, q1, qP, va_K.moved (u := U) (U := U.calling g mk a) (Vm.Alike.refl U.vm) qK, qD⟩, va_recv hK hP (ci := 1) (q0 := 0) rfl rfl, fun U hU hW => ⟨rfl, by rw [hU], by rw [hU]; exact hPc, va_K.moved hW.alike hKc, hDc.weaken (fun _ _ _ _ => trivial)⟩⟩ rfl rfl hl.1 rfl (lv_room (Nat.le_of_ble_eq_true rfl)) dX1_signs_102 ⟨Nat.zero_le _, Nat.zero_le _⟩) hS (fun q _ h => hFc q h) hFc (fun r1 u t H1 locs ht hvm hw hB hz1 hk1 hS => ?_)
          obtain ⟨⟨k2, n2, fc2, fv2, cl2, su2⟩, th2⟩ := u
          obtain ⟨hP1, hK1, hD1⟩ := hB
          rw [ht] at hP1
          obtain ⟨hP, hD⟩ := va_join (wr := ([] : va_W)) (w1 := [(g0, .inr (1, [.ref a0, .ref b0, .int (nI k2), .int (nI n2), .int cl2, .int su2, .int th2])), (a0, .inl (ja, 512, .inr (.inl fc2))), (b0, .inl (jb, 512, .inr (.inl fv2)))]) hP hD [0, 1, 2] [] rfl rfl (by decide) (by decide) hk1 hFc hP1 hD1
          generalize H1 = H at hP hS ⊢
          have hP : va_P (dC, dI) vwCl [(g0, .inr (1, [.ref a0, .ref b0, .int (nI k2), .int (nI n2), .int cl2, .int su2, .int th2])), (a0, .inl (ja, 512, .inr (.inl fc2))), (b0, .inl (jb, 512, .inr (.inl fv2)))] H := hP
          have hD : va_D A [(g0, .inr (1, [.ref a0, .ref b0, .int (nI k2), .int (nI n2), .int cl2, .int su2, .int th2])), (a0, .inl (ja, 512, .inr (.inl fc2))), (b0, .inl (jb, 512, .inr (.inl fv2)))] := hD
          rw [← hQ]
          exact W.iret (v := r1) hx hb hr (fun t ht hW => ⟨⟨r1, ((k2, n2, fc2, fv2, cl2, su2), th2), rfl, Or.inr ⟨D, hDb, rfl, pt_Rsigns_of hn1 hn2 hM hw⟩, by rw [ht]; exact hP, va_K.moved hW.alike hK, hD⟩, hS.F ht⟩) hS.2.2 dX1_signs_105
        · refine lv_iload hx hb dX1_signs_35 (lv_at hl 0 rfl) ?_
          refine lv_aload_n hx hb dX1_signs_37 rfl (lv_at hl 4 rfl) ?_
          refine va_get (D := (dC, dI)) (ci := 1) (v := .int (nI n)) (C := RX1) (T := TX1) (N := 7) hx hb hts (fun w h => List.mem_cons_of_mem _ (pt_wsX1 w h)) hown hK hP 0 rfl rfl 3 (by decide) (hts _ (List.mem_cons_of_mem _ pw164)) (fun _ h9 => h9) rfl dX1_signs_38 ?_
          refine lv_icmp_ge (tgt := 98) hx hb dX1_signs_41 (by decide) (fun h3 => ?_) (fun h3 => (hM3.elim (fun z => absurd (nI_le (a := 40) (by omega) (by omega)) h2) (fun z => absurd (nI_le (by omega) (by omega)) h3)))
          refine lv_aload_n hx hb dX1_signs_98 rfl (lv_at hl 4 rfl) ?_
          refine lv_lload_n hx hb dX1_signs_99 rfl (lv_at hl 3 rfl) ?_
          refine lv_lload hx hb dX1_signs_100 (lv_at hl 2 rfl) ?_
          have hPc := hP.sub (ws' := [(g0, .inr (1, [.ref a0, .ref b0, .int (nI k), .int (nI n), .int cl, .int su, .int 0])), (a0, .inl (ja, 512, .inr (.inl fc))), (b0, .inl (jb, 512, .inr (.inl fv)))]) [0, 1, 2] rfl
          have hDc := hD.sub (ws' := [(g0, .inr (1, [.ref a0, .ref b0, .int (nI k), .int (nI n), .int cl, .int su, .int 0])), (a0, .inl (ja, 512, .inr (.inl fc))), (b0, .inl (jb, 512, .inr (.inl fv)))]) [0, 1, 2] (by decide) rfl
          have hKc := hK.sub (tys' := [(ja, .long), (jb, .long)]) [0, 1] rfl
          have hFc := va_free (wc := [(g0, .inr (1, [.ref a0, .ref b0, .int (nI k), .int (nI n), .int cl, .int su, .int 0])), (a0, .inl (ja, 512, .inr (.inl fc))), (b0, .inl (jb, 512, .inr (.inl fv)))]) hD hS hA [0, 1, 2] rfl
          refine va_calli (va_runV (As := [.long (pt_sc D M), .long (pt_sw D M)]) (rest := []) ⟨hx, hb, hml, hown, hts⟩ (c_madd l dC dI g0 a0 b0 ja jb k n fc fv cl su 0 (pt_sc D M) (pt_sw D M) H.size hI) (cwV 2 hts (pt_gV pw209 pw187 pw188 pw18 pw189) rfl rfl rfl (by decide +kernel) ⟨Nat.le_of_ble_eq_true rfl, Nat.le_of_ble_eq_true rfl⟩) ⟨fun a U g mk q => by obtain ⟨q0, q1, qP, qK, qD⟩ := q; exact ⟨q0, q1, qP, va_K.moved (u := U) (U := U.calling g mk a) (Vm.Alike.refl U.vm) qK, qD⟩, va_recv hK hP (ci := 1) (q0 := 0) rfl rfl, fun U hU hW => ⟨rfl, by rw [hU], by rw [hU]; exact hPc, va_K.moved hW.alike hKc, hDc.weaken (fun _ _ _ _ => trivial)⟩⟩ rfl rfl hl.1 rfl (lv_room (Nat.le_of_ble_eq_true rfl)) dX1_signs_102 ⟨Nat.zero_le _, Nat.zero_le _⟩) hS (fun q _ h => hFc q h) hFc (fun r2 u t H1 locs ht hvm hw hB hz1 hk1 hS => ?_)
          obtain ⟨⟨k2, n2, fc2, fv2, cl2, su2⟩, th2⟩ := u
          obtain ⟨hP1, hK1, hD1⟩ := hB
          rw [ht] at hP1
          obtain ⟨hP, hD⟩ := va_join (wr := ([] : va_W)) (w1 := [(g0, .inr (1, [.ref a0, .ref b0, .int (nI k2), .int (nI n2), .int cl2, .int su2, .int th2])), (a0, .inl (ja, 512, .inr (.inl fc2))), (b0, .inl (jb, 512, .inr (.inl fv2)))]) hP hD [0, 1, 2] [] rfl rfl (by decide) (by decide) hk1 hFc hP1 hD1
          generalize H1 = H at hP hS ⊢
          have hP : va_P (dC, dI) vwCl [(g0, .inr (1, [.ref a0, .ref b0, .int (nI k2), .int (nI n2), .int cl2, .int su2, .int th2])), (a0, .inl (ja, 512, .inr (.inl fc2))), (b0, .inl (jb, 512, .inr (.inl fv2)))] H := hP
          have hD : va_D A [(g0, .inr (1, [.ref a0, .ref b0, .int (nI k2), .int (nI n2), .int cl2, .int su2, .int th2])), (a0, .inl (ja, 512, .inr (.inl fc2))), (b0, .inl (jb, 512, .inr (.inl fv2)))] := hD
          rw [← hQ]
          exact W.iret (v := r2) hx hb hr (fun t ht hW => ⟨⟨r2, ((k2, n2, fc2, fv2, cl2, su2), th2), rfl, Or.inr ⟨D, hDb, rfl, pt_Rsigns_of hn1 hn2 hM hw⟩, by rw [ht]; exact hP, va_K.moved hW.alike hK, hD⟩, hS.F ht⟩) hS.2.2 dX1_signs_105
      | succ d ih =>
        intro i ls hd hi hl
        have hDi : D / 3 ^ i < 2 ^ 63 := Nat.lt_of_le_of_lt (Nat.div_le_self _ _) hDb
        refine lv_iload hx hb dX1_signs_28 (lv_at hl 0 rfl) ?_
        refine lv_bipush (v := 40) hx hb dX1_signs_30 (by decide) ?_
        refine lv_icmp_ge (tgt := 98) hx hb dX1_signs_32 (by decide) (fun h2 => absurd h2 (nI_ge (b := 40) (by omega) (by decide))) (fun h2 => ?_)
        refine lv_iload hx hb dX1_signs_35 (lv_at hl 0 rfl) ?_
        refine lv_aload_n hx hb dX1_signs_37 rfl (lv_at hl 4 rfl) ?_
        refine va_get (D := (dC, dI)) (ci := 1) (v := .int (nI n)) (C := RX1) (T := TX1) (N := 7) hx hb hts (fun w h => List.mem_cons_of_mem _ (pt_wsX1 w h)) hown hK hP 0 rfl rfl 3 (by decide) (hts _ (List.mem_cons_of_mem _ pw164)) (fun _ h9 => h9) rfl dX1_signs_38 ?_
        refine lv_icmp_ge (tgt := 98) hx hb dX1_signs_41 (by decide) (fun h3 => absurd h3 (nI_ge (by omega) (by omega))) (fun h3 => ?_)
        refine lv_lload hx hb dX1_signs_44 (lv_at hl 1 rfl) ?_
        refine lv_ldc2 (v := 3) hx hb hown (hts _ (List.mem_cons_of_mem _ pw207)) dX1_signs_46 ?_
        refine lv_lrem hx hb dX1_signs_49 (by decide) ?_
        rw [show lN (D / 3 ^ i) - lN (D / 3 ^ i) / 3 * 3 = lN (D / 3 ^ i % 3) from pk_lRem (b := 3) hDi (by decide) (by decide)]
        refine lv_lstore (lv' := [(10, .long (lN (D / 3 ^ i % 3))), (9, .int (nI i)), (7, .long (lN (D / 3 ^ i))), (5, .long (pt_sw D i)), (3, .long (pt_sc D i)), (0, .ref g0), (1, .long (lN D))]) hx hb dX1_signs_50 hl (by decide) rfl (fun ls hl => ?_)
        refine lv_lload hx hb dX1_signs_52 (lv_at hl 2 rfl) ?_
        refine lv_ldc2 (v := 3) hx hb hown (hts _ (List.mem_cons_of_mem _ pw207)) dX1_signs_54 ?_
        refine lv_ldiv hx hb dX1_signs_57 (by decide) ?_
        rw [show lN (D / 3 ^ i) / 3 = lN (D / 3 ^ (i + 1)) from (pk_lDiv (b := 3) hDi (by decide) (by decide)).trans (congrArg lN (by rw [Nat.div_div_eq_div_mul, Nat.pow_succ]))]
        refine lv_lstore (lv' := [(7, .long (lN (D / 3 ^ (i + 1)))), (10, .long (lN (D / 3 ^ i % 3))), (9, .int (nI i)), (5, .long (pt_sw D i)), (3, .long (pt_sc D i)), (0, .ref g0), (1, .long (lN D))]) hx hb dX1_signs_58 hl (by decide) rfl (fun ls hl => ?_)
        refine lv_lload hx hb dX1_signs_60 (lv_at hl 1 rfl) ?_
        refine lv_ldc2 (v := 2) hx hb hown (hts _ (List.mem_cons_of_mem _ pw208)) dX1_signs_62 ?_
        refine W.lcmp hx hb dX1_signs_65 ?_
        refine lv_if_ge (tgt := 76) hx hb dX1_signs_66 (by decide) (fun h4 => ?_) (fun h4 => ?_)
        · refine lv_lload hx hb dX1_signs_76 (lv_at hl 1 rfl) ?_
          refine lv_lconst (v := 1) hx hb dX1_signs_78 (by decide) ?_
          refine W.lcmp hx hb dX1_signs_79 ?_
          refine lv_if_ne (tgt := 92) hx hb dX1_signs_80 (by decide) (fun h5 => ?_) (fun h5 => ?_)
          · refine lv_iinc (v := nI (i + 1)) (lv' := [(9, .int (nI (i + 1))), (7, .long (lN (D / 3 ^ (i + 1)))), (10, .long (lN (D / 3 ^ i % 3))), (5, .long (pt_sw D i)), (3, .long (pt_sc D i)), (0, .ref g0), (1, .long (lN D))]) hx hb dX1_signs_92 hl (k := 2) rfl (by rw [nI_succ]; rfl) (by decide) rfl (fun ls hl => ?_)
            refine lv_goto (tgt := 28) hx hb dX1_signs_95 (by decide) ?_
            have hl := lv_sub hl [0, 1, 3, 4, 5, 6] rfl
            have hl : lv_has ls 12 [(9, .int (nI (i + 1))), (7, .long (lN (D / 3 ^ (i + 1)))), (5, .long (pt_sw D (i + 1))), (3, .long (pt_sc D (i + 1))), (0, .ref g0), (1, .long (lN D))] := by
              rw [show pt_sw D (i + 1) = pt_sw D i from if_neg (fun z => h5 (pt_cmp0.mpr (by rw [z]; rfl))), show pt_sc D (i + 1) = pt_sc D i from if_pos (pt_d2ge h4)]
              exact hl
            exact ih (i + 1) ls (by omega) (by omega) hl
          · refine lv_lload hx hb dX1_signs_83 (lv_at hl 3 rfl) ?_
            refine lv_lconst (v := 1) hx hb dX1_signs_85 (by decide) ?_
            refine lv_iload hx hb dX1_signs_86 (lv_at hl 2 rfl) ?_
            refine lv_lshl (v := pt_shl 1 (nI i)) hx hb dX1_signs_88 rfl ?_
            refine lv_lor hx hb dX1_signs_89 ?_
            refine lv_lstore (lv' := [(5, .long ((pt_sw D i) ||| (pt_shl 1 (nI i)))), (7, .long (lN (D / 3 ^ (i + 1)))), (10, .long (lN (D / 3 ^ i % 3))), (9, .int (nI i)), (3, .long (pt_sc D i)), (0, .ref g0), (1, .long (lN D))]) hx hb dX1_signs_90 hl (by decide) rfl (fun ls hl => ?_)
            refine lv_iinc (v := nI (i + 1)) (lv' := [(9, .int (nI (i + 1))), (5, .long ((pt_sw D i) ||| (pt_shl 1 (nI i)))), (7, .long (lN (D / 3 ^ (i + 1)))), (10, .long (lN (D / 3 ^ i % 3))), (3, .long (pt_sc D i)), (0, .ref g0), (1, .long (lN D))]) hx hb dX1_signs_92 hl (k := 3) rfl (by rw [nI_succ]; rfl) (by decide) rfl (fun ls hl => ?_)
            refine lv_goto (tgt := 28) hx hb dX1_signs_95 (by decide) ?_
            have hl := lv_sub hl [0, 2, 1, 4, 5, 6] rfl
            have hl : lv_has ls 12 [(9, .int (nI (i + 1))), (7, .long (lN (D / 3 ^ (i + 1)))), (5, .long (pt_sw D (i + 1))), (3, .long (pt_sc D (i + 1))), (0, .ref g0), (1, .long (lN D))] := by
              rw [show pt_sw D (i + 1) = (pt_sw D i) ||| (pt_shl 1 (nI i)) from if_pos ((pk_lEQ (b := 1) (by omega) (by decide)).mp (pt_cmp0.mp h5)), show pt_sc D (i + 1) = pt_sc D i from if_pos (pt_d2ge h4)]
              exact hl
            exact ih (i + 1) ls (by omega) (by omega) hl
        · refine lv_lload_n hx hb dX1_signs_69 rfl (lv_at hl 4 rfl) ?_
          refine lv_lconst (v := 1) hx hb dX1_signs_70 (by decide) ?_
          refine lv_iload hx hb dX1_signs_71 (lv_at hl 2 rfl) ?_
          refine lv_lshl (v := pt_shl 1 (nI i)) hx hb dX1_signs_73 rfl ?_
          refine lv_lor hx hb dX1_signs_74 ?_
          refine lv_lstore_n (lv' := [(3, .long ((pt_sc D i) ||| (pt_shl 1 (nI i)))), (7, .long (lN (D / 3 ^ (i + 1)))), (10, .long (lN (D / 3 ^ i % 3))), (9, .int (nI i)), (5, .long (pt_sw D i)), (0, .ref g0), (1, .long (lN D))]) hx hb dX1_signs_75 rfl hl (by decide) rfl (fun ls hl => ?_)
          refine lv_lload hx hb dX1_signs_76 (lv_at hl 2 rfl) ?_
          refine lv_lconst (v := 1) hx hb dX1_signs_78 (by decide) ?_
          refine W.lcmp hx hb dX1_signs_79 ?_
          refine lv_if_ne (tgt := 92) hx hb dX1_signs_80 (by decide) (fun h5 => ?_) (fun h5 => ?_)
          · refine lv_iinc (v := nI (i + 1)) (lv' := [(9, .int (nI (i + 1))), (3, .long ((pt_sc D i) ||| (pt_shl 1 (nI i)))), (7, .long (lN (D / 3 ^ (i + 1)))), (10, .long (lN (D / 3 ^ i % 3))), (5, .long (pt_sw D i)), (0, .ref g0), (1, .long (lN D))]) hx hb dX1_signs_92 hl (k := 3) rfl (by rw [nI_succ]; rfl) (by decide) rfl (fun ls hl => ?_)
            refine lv_goto (tgt := 28) hx hb dX1_signs_95 (by decide) ?_
            have hl := lv_sub hl [0, 2, 4, 1, 5, 6] rfl
            have hl : lv_has ls 12 [(9, .int (nI (i + 1))), (7, .long (lN (D / 3 ^ (i + 1)))), (5, .long (pt_sw D (i + 1))), (3, .long (pt_sc D (i + 1))), (0, .ref g0), (1, .long (lN D))] := by
              rw [show pt_sw D (i + 1) = pt_sw D i from if_neg (fun z => h5 (pt_cmp0.mpr (by rw [z]; rfl))), show pt_sc D (i + 1) = (pt_sc D i) ||| (pt_shl 1 (nI i)) from if_neg (fun z => h4 (pt_d2is z))]
              exact hl
            exact ih (i + 1) ls (by omega) (by omega) hl
          · refine lv_lload hx hb dX1_signs_83 (lv_at hl 4 rfl) ?_
            refine lv_lconst (v := 1) hx hb dX1_signs_85 (by decide) ?_
            refine lv_iload hx hb dX1_signs_86 (lv_at hl 3 rfl) ?_
            refine lv_lshl (v := pt_shl 1 (nI i)) hx hb dX1_signs_88 rfl ?_
            refine lv_lor hx hb dX1_signs_89 ?_
            refine lv_lstore (lv' := [(5, .long ((pt_sw D i) ||| (pt_shl 1 (nI i)))), (3, .long ((pt_sc D i) ||| (pt_shl 1 (nI i)))), (7, .long (lN (D / 3 ^ (i + 1)))), (10, .long (lN (D / 3 ^ i % 3))), (9, .int (nI i)), (0, .ref g0), (1, .long (lN D))]) hx hb dX1_signs_90 hl (by decide) rfl (fun ls hl => ?_)
            refine lv_iinc (v := nI (i + 1)) (lv' := [(9, .int (nI (i + 1))), (5, .long ((pt_sw D i) ||| (pt_shl 1 (nI i)))), (3, .long ((pt_sc D i) ||| (pt_shl 1 (nI i)))), (7, .long (lN (D / 3 ^ (i + 1)))), (10, .long (lN (D / 3 ^ i % 3))), (0, .ref g0), (1, .long (lN D))]) hx hb dX1_signs_92 hl (k := 4) rfl (by rw [nI_succ]; rfl) (by decide) rfl (fun ls hl => ?_)
            refine lv_goto (tgt := 28) hx hb dX1_signs_95 (by decide) ?_
            have hl := lv_sub hl [0, 3, 1, 2, 5, 6] rfl
            have hl : lv_has ls 12 [(9, .int (nI (i + 1))), (7, .long (lN (D / 3 ^ (i + 1)))), (5, .long (pt_sw D (i + 1))), (3, .long (pt_sc D (i + 1))), (0, .ref g0), (1, .long (lN D))] := by
              rw [show pt_sw D (i + 1) = (pt_sw D i) ||| (pt_shl 1 (nI i)) from if_pos ((pk_lEQ (b := 1) (by omega) (by decide)).mp (pt_cmp0.mp h5)), show pt_sc D (i + 1) = (pt_sc D i) ||| (pt_shl 1 (nI i)) from if_neg (fun z => h4 (pt_d2is z))]
              exact hl
            exact ih (i + 1) ls (by omega) (by omega) hl
    have hl : lv_has ls 12 [(9, .int (nI 0)), (7, .long (lN (D / 3 ^ 0))), (5, .long (pt_sw D 0)), (3, .long (pt_sc D 0)), (0, .ref g0), (1, .long (lN D))] := by
      rw [Nat.pow_zero, Nat.div_one]
      exact lv_sub hl [0, 1, 2, 3, 4, 5] rfl
    exact loop M 0 ls (by omega) (by omega) hl
  · refine lv_aload_n hx hb dX1_signs_11 rfl (lv_at hl 0 rfl) ?_
    refine lv_iconst (v := 1) hx hb dX1_signs_12 (by decide) ?_
    have hPc := hP.sub (ws' := [(g0, .inr (1, [.ref a0, .ref b0, .int (nI k), .int (nI n), .int cl, .int su, .int 0])), (a0, .inl (ja, 512, .inr (.inl fc))), (b0, .inl (jb, 512, .inr (.inl fv)))]) [0, 1, 2] rfl
    have hDc := hD.sub (ws' := [(g0, .inr (1, [.ref a0, .ref b0, .int (nI k), .int (nI n), .int cl, .int su, .int 0])), (a0, .inl (ja, 512, .inr (.inl fc))), (b0, .inl (jb, 512, .inr (.inl fv)))]) [0, 1, 2] (by decide) rfl
    have hKc := hK.sub (tys' := [(ja, .long), (jb, .long)]) [0, 1] rfl
    have hFc := va_free (wc := [(g0, .inr (1, [.ref a0, .ref b0, .int (nI k), .int (nI n), .int cl, .int su, .int 0])), (a0, .inl (ja, 512, .inr (.inl fc))), (b0, .inl (jb, 512, .inr (.inl fv)))]) hD hS hA [0, 1, 2] rfl
    refine va_calli (va_runV (As := [.int 1]) (rest := []) ⟨hx, hb, hml, hown, hts⟩ (c_fail l dC dI g0 a0 b0 ja jb (nI k) (nI n) fc fv cl su 0 1 H.size ) (cwV 1 hts (pt_gV pw183 pw184 pw9 pw18 pw185) rfl rfl rfl (by decide +kernel) ⟨Nat.le_of_ble_eq_true rfl, Nat.le_of_ble_eq_true rfl⟩) ⟨fun a U g mk q => by obtain ⟨q0, q1, qP, qK, qD⟩ := q; exact ⟨q0, q1, qP, va_K.moved (u := U) (U := U.calling g mk a) (Vm.Alike.refl U.vm) qK, qD⟩, va_recv hK hP (ci := 1) (q0 := 0) rfl rfl, fun U hU hW => ⟨rfl, by rw [hU], by rw [hU]; exact hPc, va_K.moved hW.alike hKc, hDc.weaken (fun _ _ _ _ => trivial)⟩⟩ rfl rfl hl.1 rfl (lv_room (Nat.le_of_ble_eq_true rfl)) dX1_signs_13 ⟨Nat.zero_le _, Nat.zero_le _⟩) hS (fun q _ h => hFc q h) hFc (fun r3 u t H1 locs ht hvm hw hB hz1 hk1 hS => ?_)
    obtain ⟨hP1, hK1, hD1⟩ := hB
    rw [ht] at hP1
    obtain ⟨hP, hD⟩ := va_join (wr := ([] : va_W)) (w1 := [(g0, .inr (1, [.ref a0, .ref b0, .int (nI k), .int (nI n), .int cl, .int su, .int 1])), (a0, .inl (ja, 512, .inr (.inl fc))), (b0, .inl (jb, 512, .inr (.inl fv)))]) hP hD [0, 1, 2] [] rfl rfl (by decide) (by decide) hk1 hFc hP1 hD1
    generalize H1 = H at hP hS ⊢
    have hP : va_P (dC, dI) vwCl [(g0, .inr (1, [.ref a0, .ref b0, .int (nI k), .int (nI n), .int cl, .int su, .int 1])), (a0, .inl (ja, 512, .inr (.inl fc))), (b0, .inl (jb, 512, .inr (.inl fv)))] H := hP
    have hD : va_D A [(g0, .inr (1, [.ref a0, .ref b0, .int (nI k), .int (nI n), .int cl, .int su, .int 1])), (a0, .inl (ja, 512, .inr (.inl fc))), (b0, .inl (jb, 512, .inr (.inl fv)))] := hD
    subst hw
    rw [← hQ]
    exact W.iret (v := 0) hx hb hr (fun t ht hW => ⟨⟨0, ((k, n, fc, fv, cl, su), 1), rfl, Or.inl ⟨Int64.not_le.mp (fun z => h1 ((lg_cmp_ge _ _).mpr z)), rfl, rfl⟩, by rw [ht]; exact hP, va_K.moved hW.alike hK, hD⟩, hS.F ht⟩) hS.2.2 dX1_signs_16
