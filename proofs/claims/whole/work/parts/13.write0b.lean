set_option maxHeartbeats 4000000 in
set_option maxRecDepth 100000 in
/-- drop(i) -/
theorem c_drop (l : Launch) (dC : Nat → ClassId) (dI : Nat → Nat → Nat) (h0 c0 w0 : Nat) (kc kw : ClassId) (k n : Nat) (fc fv : Nat → Int64) (cl su : Int32) (i : Nat) (sz : Nat) (hi : i < k) (hk : k ≤ 512) : Met l yX0_drop wsX0_drop ({ frames := 1, cells := 0, slots := 0, locals := 21 }) (va_Pc [.ref h0, .int (nI i)] (fun U => U.heap.size = sz ∧ va_P (dC, dI) vwCl [(h0, .inr (0, [.ref c0, .ref w0, .int (nI k), .int (nI n), .long (pt_mk n), .int cl, .int su])), (c0, .inl (kc, 512, .inr (.inl fc))), (w0, .inl (kw, 512, .inr (.inl fv)))] U.heap ∧ va_K (dC, dI) vwCl [(kc, .long), (kw, .long)] U ∧ va_D (fun _ => True) [(h0, .inr (0, [.ref c0, .ref w0, .int (nI k), .int (nI n), .long (pt_mk n), .int cl, .int su])), (c0, .inl (kc, 512, .inr (.inl fc))), (w0, .inl (kw, 512, .inr (.inl fv)))])) (va_Qv (fun _ => True) (fun (u : Unit) (t : State) => match u with | _ => va_P (dC, dI) vwCl [(h0, .inr (0, [.ref c0, .ref w0, .int (nI (k - 1)), .int (nI n), .long (pt_mk n), .int cl, .int su])), (c0, .inl (kc, 512, .inr (.inl (pt_mv fc i k)))), (w0, .inl (kw, 512, .inr (.inl (pt_mv fv i k))))] t.heap ∧ va_K (dC, dI) vwCl [(kc, .long), (kw, .long)] t ∧ va_D (va_A [(h0, .inr (0, [.ref c0, .ref w0, .int (nI k), .int (nI n), .long (pt_mk n), .int cl, .int su])), (c0, .inl (kc, 512, .inr (.inl fc))), (w0, .inl (kw, 512, .inr (.inl fv)))] sz) [(h0, .inr (0, [.ref c0, .ref w0, .int (nI (k - 1)), .int (nI n), .long (pt_mk n), .int cl, .int su])), (c0, .inl (kc, 512, .inr (.inl (pt_mv fc i k)))), (w0, .inl (kw, 512, .inr (.inl (pt_mv fv i k))))]) (va_A [(h0, .inr (0, [.ref c0, .ref w0, .int (nI k), .int (nI n), .long (pt_mk n), .int cl, .int su])), (c0, .inl (kc, 512, .inr (.inl fc))), (w0, .inl (kw, 512, .inr (.inl fv)))] sz)) 0 0 (va_A [(h0, .inr (0, [.ref c0, .ref w0, .int (nI k), .int (nI n), .long (pt_mk n), .int cl, .int su])), (c0, .inl (kc, 512, .inr (.inl fc))), (w0, .inl (kw, 512, .inr (.inl fv)))] sz) := by
  refine Met.ofW (cc := cX0_drop) (maxL := 3) (ret := none) (by decide) rfl ?_
  intro p e s m args below meth c s₁ B hml hv
  obtain ⟨ha, hsz, hP, hK, hD0⟩ := hv
  subst hsz
  have hx := B.exec
  have hb := B.bytes
  have hr := B.returns
  have hts := atoms_spec (ws := wsX0_drop) B.pre
  have hown : s.vm.findClass RX0 = some m.cls := findClass_of_methodNamed B.named
  have hlocks := B.notSynchronized
  have hl := lv_entry ([.ref h0, .int (nI i)]) (n := 3) (Nat.le_of_ble_eq_true rfl)
  refine W.eq (show entryFrame m args 3 = entryFrame m ([.ref h0, .int (nI i)] : List Value).toArray 3 by rw [ha]) ?_
  rw [lg_entry_eq]
  generalize (lg_sl ([.ref h0, .int (nI i)]) ++ List.replicate (3 - (lg_sl ([.ref h0, .int (nI i)])).length) Slot.unset).toArray = ls at hl ⊢
  have hl : lv_has ls 3 [(0, .ref h0), (1, .int (nI i))] := hl
  have hD := hD0.self (sz := s.heap.size)
  generalize hAe : va_A [(h0, .inr (0, [.ref c0, .ref w0, .int (nI k), .int (nI n), .long (pt_mk n), .int cl, .int su])), (c0, .inl (kc, 512, .inr (.inl fc))), (w0, .inl (kw, 512, .inr (.inl fv)))] s.heap.size = A at hD ⊢
  have hA : ∀ q : Nat, s.heap.size ≤ q → A q := fun q h => by rw [← hAe]; exact Or.inr h
  have hS : va_S A s.heap s.heap [] := va_S.rf
  generalize hQ : MQ below (va_Qv (fun _ => True) (fun (u : Unit) (t : State) => match u with | _ => va_P (dC, dI) vwCl [(h0, .inr (0, [.ref c0, .ref w0, .int (nI (k - 1)), .int (nI n), .long (pt_mk n), .int cl, .int su])), (c0, .inl (kc, 512, .inr (.inl (pt_mv fc i k)))), (w0, .inl (kw, 512, .inr (.inl (pt_mv fv i k))))] t.heap ∧ va_K (dC, dI) vwCl [(kc, .long), (kw, .long)] t ∧ va_D A [(h0, .inr (0, [.ref c0, .ref w0, .int (nI (k - 1)), .int (nI n), .long (pt_mk n), .int cl, .int su])), (c0, .inl (kc, 512, .inr (.inl (pt_mv fc i k)))), (w0, .inl (kw, 512, .inr (.inl (pt_mv fv i k))))]) A) args s 0 0 A = Q
  have hP : va_P (dC, dI) vwCl [(h0, .inr (0, [.ref c0, .ref w0, .int (nI k), .int (nI n), .long (pt_mk n), .int cl, .int su])), (c0, .inl (kc, 512, .inr (.inl fc))), (w0, .inl (kw, 512, .inr (.inl fv)))] s.heap := hP
  refine lv_aload_n hx hb dX0_drop_0 rfl (lv_at hl 0 rfl) ?_
  refine lv_iload_n hx hb dX0_drop_1 rfl (lv_at hl 1 rfl) ?_
  refine va_csv (W.runV (As := [.int (nI i)]) (rest := []) ⟨hx, hb, hml, hown, hts⟩ (c_refuseAbsent l dC dI h0 c0 w0 kc kw k n fc fv cl su i hi hk) (cwV 1 hts (pt_gV pw104 pw105 pw4 pw17 pw106) rfl rfl rfl (by decide +kernel) ⟨Nat.le_of_ble_eq_true rfl, Nat.le_of_ble_eq_true rfl⟩) ⟨fun a U g mk q => by obtain ⟨q0, qP, qK⟩ := q; exact ⟨q0, qP, va_K.moved (u := U) (U := U.calling g mk a) (Vm.Alike.refl U.vm) qK⟩, va_recv hK hP (ci := 0) (q0 := 0) rfl rfl, fun U hU hW => ⟨rfl, by rw [hU]; exact hP, va_K.moved hW.alike hK⟩⟩ rfl rfl hl.1 rfl (lv_room (Nat.le_of_ble_eq_true rfl)) dX0_drop_2 ⟨Nat.zero_le _, Nat.zero_le _⟩) (fun hw => ?_)
  refine lv_iload_n hx hb dX0_drop_5 rfl (lv_at hl 1 rfl) ?_
  refine lv_iconst (v := 1) hx hb dX0_drop_6 (by decide) ?_
  refine lv_iadd hx hb dX0_drop_7 ?_
  rw [nI_1]
  refine lv_istore_n (lv' := [(2, .int (nI (i + 1))), (0, .ref h0), (1, .int (nI i))]) hx hb dX0_drop_8 rfl hl (by decide) rfl (fun ls hl => ?_)
  have loop : ∀ (d t : Nat) (H : Heap) (locs : List Loc) (ls : Array Slot), k - t = d → i < t → t ≤ k → va_P (dC, dI) vwCl [(h0, .inr (0, [.ref c0, .ref w0, .int (nI k), .int (nI n), .long (pt_mk n), .int cl, .int su])), (c0, .inl (kc, 512, .inr (.inl (pt_mv fc i t)))), (w0, .inl (kw, 512, .inr (.inl (pt_mv fv i t))))] H → va_D A [(h0, .inr (0, [.ref c0, .ref w0, .int (nI k), .int (nI n), .long (pt_mk n), .int cl, .int su])), (c0, .inl (kc, 512, .inr (.inl (pt_mv fc i t)))), (w0, .inl (kw, 512, .inr (.inl (pt_mv fv i t))))] → va_S A s.heap H locs → lv_has ls 3 [(2, .int (nI t)), (0, .ref h0), (1, .int (nI i))] → W p l e (headSpec wsX0_drop ({ frames := 1, cells := 0, slots := 0, locals := 21 })).room s m args below meth c H locs 0 0 Q (F0 m 9 ls []) := by
    intro d
    induction d with
    | zero =>
      intro t H locs ls hd hit htk hP hD hS hl
      obtain rfl : t = k := by omega
      refine lv_iload_n hx hb dX0_drop_9 rfl (lv_at hl 0 rfl) ?_
      refine lv_aload_n hx hb dX0_drop_10 rfl (lv_at hl 1 rfl) ?_
      refine va_get (D := (dC, dI)) (ci := 0) (v := .int (nI t)) (C := RX0) (T := TX0) (N := 7) hx hb hts (fun w h => List.mem_cons_of_mem _ (pt_wsX0 w h)) hown hK hP 0 rfl rfl 2 (by decide) (hts _ (List.mem_cons_of_mem _ pw34)) (fun _ h9 => h9) rfl dX0_drop_11 ?_
      refine lv_icmp_ge (tgt := 51) hx hb dX0_drop_14 (by decide) (fun h1 => ?_) (fun h1 => absurd (nI_le (by omega) (by omega)) h1)
      refine lv_aload_n hx hb dX0_drop_51 rfl (lv_at hl 1 rfl) ?_
      refine lv_dup hx hb dX0_drop_52 rfl ?_
      refine va_get (D := (dC, dI)) (ci := 0) (v := .int (nI t)) (C := RX0) (T := TX0) (N := 7) hx hb hts (fun w h => List.mem_cons_of_mem _ (pt_wsX0 w h)) hown hK hP 0 rfl rfl 2 (by decide) (hts _ (List.mem_cons_of_mem _ pw34)) (fun _ h9 => h9) rfl dX0_drop_53 ?_
      refine lv_iconst (v := 1) hx hb dX0_drop_56 (by decide) ?_
      refine lv_isub hx hb dX0_drop_57 ?_
      rw [show nI t - 1 = nI (t - 1) from pk_sub (b := 1) (by omega)]
      refine va_put (D := (dC, dI)) (ci := 0) (v := .int (nI (t - 1))) (ty := .int) (C := RX0) (T := TX0) (N := 7) hx hb hts (fun w h => List.mem_cons_of_mem _ (pt_wsX0 w h)) tyX0 tyX0_ok nmX0 hown hK hP hD hS 0 rfl rfl 2 (by decide) (hts _ (List.mem_cons_of_mem _ pw34)) (fun _ h9 => h9) rfl (by decide +kernel) rfl rfl (Nat.le_of_ble_eq_true rfl) dX0_drop_58 (fun H locs hP hD hS => ?_)
      have hP : va_P (dC, dI) vwCl [(h0, .inr (0, [.ref c0, .ref w0, .int (nI (t - 1)), .int (nI n), .long (pt_mk n), .int cl, .int su])), (c0, .inl (kc, 512, .inr (.inl (pt_mv fc i t)))), (w0, .inl (kw, 512, .inr (.inl (pt_mv fv i t))))] H := hP
      have hD : va_D A [(h0, .inr (0, [.ref c0, .ref w0, .int (nI (t - 1)), .int (nI n), .long (pt_mk n), .int cl, .int su])), (c0, .inl (kc, 512, .inr (.inl (pt_mv fc i t)))), (w0, .inl (kw, 512, .inr (.inl (pt_mv fv i t))))] := hD
      rw [← hQ]
      exact W.vret hx hb hr (fun t ht hW => ⟨⟨(), rfl, trivial, by rw [ht]; exact hP, va_K.moved hW.alike hK, hD⟩, hS.F ht⟩) hS.2.2 dX0_drop_61
    | succ d ih =>
      intro t H locs ls hd hit htk hP hD hS hl
      refine lv_iload_n hx hb dX0_drop_9 rfl (lv_at hl 0 rfl) ?_
      refine lv_aload_n hx hb dX0_drop_10 rfl (lv_at hl 1 rfl) ?_
      refine va_get (D := (dC, dI)) (ci := 0) (v := .int (nI k)) (C := RX0) (T := TX0) (N := 7) hx hb hts (fun w h => List.mem_cons_of_mem _ (pt_wsX0 w h)) hown hK hP 0 rfl rfl 2 (by decide) (hts _ (List.mem_cons_of_mem _ pw34)) (fun _ h9 => h9) rfl dX0_drop_11 ?_
      refine lv_icmp_ge (tgt := 51) hx hb dX0_drop_14 (by decide) (fun h1 => absurd h1 (nI_ge (by omega) (by omega))) (fun h1 => ?_)
      refine lv_aload_n hx hb dX0_drop_17 rfl (lv_at hl 1 rfl) ?_
      refine va_get (D := (dC, dI)) (ci := 0) (v := .ref c0) (C := RX0) (T := TX0) (N := 7) hx hb hts (fun w h => List.mem_cons_of_mem _ (pt_wsX0 w h)) hown hK hP 0 rfl rfl 0 (by decide) (hts _ (List.mem_cons_of_mem _ pw32)) (fun _ h9 => h9) rfl dX0_drop_18 ?_
      refine lv_iload_n hx hb dX0_drop_21 rfl (lv_at hl 0 rfl) ?_
      refine lv_iconst (v := 1) hx hb dX0_drop_22 (by decide) ?_
      refine lv_isub hx hb dX0_drop_23 ?_
      rw [show nI t - 1 = nI (t - 1) from pk_sub (b := 1) (by omega)]
      refine lv_aload_n hx hb dX0_drop_24 rfl (lv_at hl 1 rfl) ?_
      refine va_get (D := (dC, dI)) (ci := 0) (v := .ref c0) (C := RX0) (T := TX0) (N := 7) hx hb hts (fun w h => List.mem_cons_of_mem _ (pt_wsX0 w h)) hown hK hP 0 rfl rfl 0 (by decide) (hts _ (List.mem_cons_of_mem _ pw32)) (fun _ h9 => h9) rfl dX0_drop_25 ?_
      refine lv_iload_n hx hb dX0_drop_28 rfl (lv_at hl 0 rfl) ?_
      refine va_lald hx hb hK hP 1 0 rfl rfl (vp_in_nI (by omega) (by decide)) dX0_drop_29 ?_
      rw [nI_clamp (by omega)]
      refine va_last hx hb hK hP hD hS 1 0 rfl rfl (vp_in_nI (by omega) (by decide)) dX0_drop_30 (fun H locs hP hD hS => ?_)
      rw [nI_clamp (by omega)] at hP hD
      have hP : va_P (dC, dI) vwCl [(h0, .inr (0, [.ref c0, .ref w0, .int (nI k), .int (nI n), .long (pt_mk n), .int cl, .int su])), (c0, .inl (kc, 512, .inr (.inl (vp_updL (pt_mv fc i t) (t - 1) ((pt_mv fc i t) t))))), (w0, .inl (kw, 512, .inr (.inl (pt_mv fv i t))))] H := hP
      have hD : va_D A [(h0, .inr (0, [.ref c0, .ref w0, .int (nI k), .int (nI n), .long (pt_mk n), .int cl, .int su])), (c0, .inl (kc, 512, .inr (.inl (vp_updL (pt_mv fc i t) (t - 1) ((pt_mv fc i t) t))))), (w0, .inl (kw, 512, .inr (.inl (pt_mv fv i t))))] := hD
      rw [pt_mv_s fc (by omega)] at hP hD
      refine lv_aload_n hx hb dX0_drop_31 rfl (lv_at hl 1 rfl) ?_
      refine va_get (D := (dC, dI)) (ci := 0) (v := .ref w0) (C := RX0) (T := TX0) (N := 7) hx hb hts (fun w h => List.mem_cons_of_mem _ (pt_wsX0 w h)) hown hK hP 0 rfl rfl 1 (by decide) (hts _ (List.mem_cons_of_mem _ pw33)) (fun _ h9 => h9) rfl dX0_drop_32 ?_
      refine lv_iload_n hx hb dX0_drop_35 rfl (lv_at hl 0 rfl) ?_
      refine lv_iconst (v := 1) hx hb dX0_drop_36 (by decide) ?_
      refine lv_isub hx hb dX0_drop_37 ?_
      rw [show nI t - 1 = nI (t - 1) from pk_sub (b := 1) (by omega)]
      refine lv_aload_n hx hb dX0_drop_38 rfl (lv_at hl 1 rfl) ?_
      refine va_get (D := (dC, dI)) (ci := 0) (v := .ref w0) (C := RX0) (T := TX0) (N := 7) hx hb hts (fun w h => List.mem_cons_of_mem _ (pt_wsX0 w h)) hown hK hP 0 rfl rfl 1 (by decide) (hts _ (List.mem_cons_of_mem _ pw33)) (fun _ h9 => h9) rfl dX0_drop_39 ?_
      refine lv_iload_n hx hb dX0_drop_42 rfl (lv_at hl 0 rfl) ?_
      refine va_lald hx hb hK hP 2 1 rfl rfl (vp_in_nI (by omega) (by decide)) dX0_drop_43 ?_
      rw [nI_clamp (by omega)]
      refine va_last hx hb hK hP hD hS 2 1 rfl rfl (vp_in_nI (by omega) (by decide)) dX0_drop_44 (fun H locs hP hD hS => ?_)
      rw [nI_clamp (by omega)] at hP hD
      have hP : va_P (dC, dI) vwCl [(h0, .inr (0, [.ref c0, .ref w0, .int (nI k), .int (nI n), .long (pt_mk n), .int cl, .int su])), (c0, .inl (kc, 512, .inr (.inl (pt_mv fc i (t + 1))))), (w0, .inl (kw, 512, .inr (.inl (vp_updL (pt_mv fv i t) (t - 1) ((pt_mv fv i t) t)))))] H := hP
      have hD : va_D A [(h0, .inr (0, [.ref c0, .ref w0, .int (nI k), .int (nI n), .long (pt_mk n), .int cl, .int su])), (c0, .inl (kc, 512, .inr (.inl (pt_mv fc i (t + 1))))), (w0, .inl (kw, 512, .inr (.inl (vp_updL (pt_mv fv i t) (t - 1) ((pt_mv fv i t) t)))))] := hD
      rw [pt_mv_s fv (by omega)] at hP hD
      refine lv_iinc (v := nI (t + 1)) (lv' := [(2, .int (nI (t + 1))), (0, .ref h0), (1, .int (nI i))]) hx hb dX0_drop_45 hl (k := 0) rfl (by rw [nI_succ]; rfl) (by decide) rfl (fun ls hl => ?_)
      refine lv_goto (tgt := 9) hx hb dX0_drop_48 (by decide) ?_
      exact ih (t + 1) H locs ls (by omega) (by omega) (by omega) hP hD hS (lv_sub hl [0, 1, 2] rfl)
  exact loop (k - (i + 1)) (i + 1) s.heap [] ls rfl (by omega) (by omega) (by rw [pt_mv_0, pt_mv_0]; exact hP) (by rw [pt_mv_0, pt_mv_0]; exact hD) hS (lv_sub hl [0, 1, 2] rfl)
set_option maxHeartbeats 4000000 in
set_option maxRecDepth 100000 in
/-- drop(i): not there -/
theorem t_drop (l : Launch) (hl9 : l.stackTraces = false) (dC : Nat → ClassId) (dI : Nat → Nat → Nat) (s0 : State) (h0X : pt_X s0) (h0 c0 w0 : Nat) (kc kw : ClassId) (k n : Nat) (fc fv : Nat → Int64) (cl su : Int32) (x : Int32) (sz : Nat) (hab : x < 0 ∨ ¬ x < nI k) : pt_Thr l yX0_drop wsX0_drop ({ frames := 7, cells := 1, slots := 6, locals := 103 }) (va_Pc [.ref h0, .int x] (fun U => U.heap.size = sz ∧ va_P (dC, dI) vwCl [(h0, .inr (0, [.ref c0, .ref w0, .int (nI k), .int (nI n), .long (pt_mk n), .int cl, .int su])), (c0, .inl (kc, 512, .inr (.inl fc))), (w0, .inl (kw, 512, .inr (.inl fv)))] U.heap ∧ va_K (dC, dI) vwCl [(kc, .long), (kw, .long)] U ∧ va_D (fun q => s0.heap.size ≤ q) [(h0, .inr (0, [.ref c0, .ref w0, .int (nI k), .int (nI n), .long (pt_mk n), .int cl, .int su])), (c0, .inl (kc, 512, .inr (.inl fc))), (w0, .inl (kw, 512, .inr (.inl fv)))] ∧ pt_ext s0 U)) "java/util/NoSuchElementException" (fun st t => va_P (dC, dI) vwCl [(h0, .inr (0, [.ref c0, .ref w0, .int (nI k), .int (nI n), .long (pt_mk n), .int cl, .int su])), (c0, .inl (kc, 512, .inr (.inl fc))), (w0, .inl (kw, 512, .inr (.inl fv)))] t.heap ∧ va_K (dC, dI) vwCl [(kc, .long), (kw, .long)] t ∧ va_D (va_A [(h0, .inr (0, [.ref c0, .ref w0, .int (nI k), .int (nI n), .long (pt_mk n), .int cl, .int su])), (c0, .inl (kc, 512, .inr (.inl fc))), (w0, .inl (kw, 512, .inr (.inl fv)))] sz) [(h0, .inr (0, [.ref c0, .ref w0, .int (nI k), .int (nI n), .long (pt_mk n), .int cl, .int su])), (c0, .inl (kc, 512, .inr (.inl fc))), (w0, .inl (kw, 512, .inr (.inl fv)))] ∧ va_F (va_A [(h0, .inr (0, [.ref c0, .ref w0, .int (nI k), .int (nI n), .long (pt_mk n), .int cl, .int su])), (c0, .inl (kc, 512, .inr (.inl fc))), (w0, .inl (kw, 512, .inr (.inl fv)))] sz) st t) 1 6 (va_A [(h0, .inr (0, [.ref c0, .ref w0, .int (nI k), .int (nI n), .long (pt_mk n), .int cl, .int su])), (c0, .inl (kc, 512, .inr (.inl fc))), (w0, .inl (kw, 512, .inr (.inl fv)))] sz) := by
  refine pt_Thr_ofW (cc := cX0_drop) (maxL := 3) (ret := none) (by decide) rfl ?_
  intro p e s m args below meth c s₁ B hml hnoh hv
  obtain ⟨ha, hsz, hP, hK, hD0, hext⟩ := hv
  subst hsz
  have hx := B.exec
  have hb := B.bytes
  have hr := B.returns
  have hts := atoms_spec (ws := wsX0_drop) B.pre
  have hown : s.vm.findClass RX0 = some m.cls := findClass_of_methodNamed B.named
  have hlocks := B.notSynchronized
  have hl := lv_entry ([.ref h0, .int x]) (n := 3) (Nat.le_of_ble_eq_true rfl)
  refine W.eq (show entryFrame m args 3 = entryFrame m ([.ref h0, .int x] : List Value).toArray 3 by rw [ha]) ?_
  rw [lg_entry_eq]
  generalize (lg_sl ([.ref h0, .int x]) ++ List.replicate (3 - (lg_sl ([.ref h0, .int x])).length) Slot.unset).toArray = ls at hl ⊢
  have hl : lv_has ls 3 [(0, .ref h0), (1, .int x)] := hl
  have hD := hD0.self (sz := s.heap.size)
  have hAs : ∀ q : Nat, va_A [(h0, .inr (0, [.ref c0, .ref w0, .int (nI k), .int (nI n), .long (pt_mk n), .int cl, .int su])), (c0, .inl (kc, 512, .inr (.inl fc))), (w0, .inl (kw, 512, .inr (.inl fv)))] s.heap.size q → s0.heap.size ≤ q := pt_As hD0 hext.2.1
  generalize hAe : va_A [(h0, .inr (0, [.ref c0, .ref w0, .int (nI k), .int (nI n), .long (pt_mk n), .int cl, .int su])), (c0, .inl (kc, 512, .inr (.inl fc))), (w0, .inl (kw, 512, .inr (.inl fv)))] s.heap.size = A at hD hAs ⊢
  have hA : ∀ q : Nat, s.heap.size ≤ q → A q := fun q h => by rw [← hAe]; exact Or.inr h
  have hS : va_S A s.heap s.heap [] := va_S.rf
  have hP : va_P (dC, dI) vwCl [(h0, .inr (0, [.ref c0, .ref w0, .int (nI k), .int (nI n), .long (pt_mk n), .int cl, .int su])), (c0, .inl (kc, 512, .inr (.inl fc))), (w0, .inl (kw, 512, .inr (.inl fv)))] s.heap := hP
  generalize hQ : pt_TQ below "java/util/NoSuchElementException" (fun st t => va_P (dC, dI) vwCl [(h0, .inr (0, [.ref c0, .ref w0, .int (nI k), .int (nI n), .long (pt_mk n), .int cl, .int su])), (c0, .inl (kc, 512, .inr (.inl fc))), (w0, .inl (kw, 512, .inr (.inl fv)))] t.heap ∧ va_K (dC, dI) vwCl [(kc, .long), (kw, .long)] t ∧ va_D A [(h0, .inr (0, [.ref c0, .ref w0, .int (nI k), .int (nI n), .long (pt_mk n), .int cl, .int su])), (c0, .inl (kc, 512, .inr (.inl fc))), (w0, .inl (kw, 512, .inr (.inl fv)))] ∧ va_F A st t) s 1 6 A = Q
  refine lv_aload_n hx hb dX0_drop_0 rfl (lv_at hl 0 rfl) ?_
  refine lv_iload_n hx hb dX0_drop_1 rfl (lv_at hl 1 rfl) ?_
  rw [← hQ, ← hAe]
  exact pt_out (pt_runT (As := [.int x]) (rest := []) ⟨hx, hb, hml, hown, hts⟩ (t_refuseAbsent l hl9 dC dI s0 h0X h0 c0 w0 kc kw k n fc fv cl su x s.heap.size hab) (cwV 1 hts (pt_gV pw104 pw105 pw4 pw17 pw106) rfl rfl rfl (by decide +kernel) ⟨Nat.le_of_ble_eq_true rfl, Nat.le_of_ble_eq_true rfl⟩) ⟨fun a U g mk q => by obtain ⟨q0, q1, qP, qK, qD, qX⟩ := q; exact ⟨q0, q1, qP, va_K.moved (u := U) (U := U.calling g mk a) (Vm.Alike.refl U.vm) qK, qD, qX⟩, va_recv hK hP (ci := 0) (q0 := 0) rfl rfl, fun U hU hW => ⟨rfl, by rw [hU], by rw [hU]; exact hP, va_K.moved hW.alike hK, hD0, hext.same hU hW⟩⟩ rfl rfl hl.1 rfl (lv_room (Nat.le_of_ble_eq_true rfl)) dX0_drop_2 ⟨by decide, by decide⟩) hnoh hlocks (fun st t t2 h1 h2 h3 h4 h5 => ⟨by rw [h4]; exact h3.1, va_K.moved (by rw [h5]; exact Vm.Alike.refl _) h3.2.1, h3.2.2.1, pt_F_same h1 h4 h3.2.2.2⟩) t_nil (fun _ h => h) (by decide) (by decide)
set_option maxHeartbeats 4000000 in
set_option maxRecDepth 100000 in
/-- decode(word) -/
theorem c_decode (l : Launch) (dC : Nat → ClassId) (dI : Nat → Nat → Nat) (h0 c0 w0 : Nat) (kc kw : ClassId) (k n : Nat) (fc fv : Nat → Int64) (cl su : Int32) (a : Int64) (hI : pt_I k n fc fv) : Met l yX0_decode wsX0_decode ({ frames := 1, cells := 0, slots := 0, locals := 25 }) (va_Pc [.ref h0, .long a] (fun U => va_P (dC, dI) vwCl [(h0, .inr (0, [.ref c0, .ref w0, .int (nI k), .int (nI n), .long (pt_mk n), .int cl, .int su])), (c0, .inl (kc, 512, .inr (.inl fc))), (w0, .inl (kw, 512, .inr (.inl fv)))] U.heap ∧ va_K (dC, dI) vwCl [(kc, .long), (kw, .long)] U)) (vp_Si (fun r : Int32 => pt_F (fun j => pt_sh (fc j) (fv j) (pt_mk n) (a &&& pt_mk n)) k r)) 0 0 (fun _ => False) := by
  refine Met.ofW (cc := cX0_decode) (maxL := 5) (ret := (some .int)) (by decide) rfl ?_
  intro p e s m args below meth c s₁ B hml hv
  obtain ⟨ha, hP, hK⟩ := hv
  have hx := B.exec
  have hb := B.bytes
  have hr := B.returns
  have hts := atoms_spec (ws := wsX0_decode) B.pre
  have hown : s.vm.findClass RX0 = some m.cls := findClass_of_methodNamed B.named
  have hlocks := B.notSynchronized
  have hl := lv_entry ([.ref h0, .long a]) (n := 5) (Nat.le_of_ble_eq_true rfl)
  refine W.eq (show entryFrame m args 5 = entryFrame m ([.ref h0, .long a] : List Value).toArray 5 by rw [ha]) ?_
  rw [lg_entry_eq]
  generalize (lg_sl ([.ref h0, .long a]) ++ List.replicate (5 - (lg_sl ([.ref h0, .long a])).length) Slot.unset).toArray = ls at hl ⊢
  have hl : lv_has ls 5 [(0, .ref h0), (1, .long a)] := hl
  generalize hQ : MQ below (vp_Si (fun r : Int32 => pt_F (fun j => pt_sh (fc j) (fv j) (pt_mk n) (a &&& pt_mk n)) k r)) args s 0 0 (fun _ => False) = Q
  have hk := hI.1
  refine lv_iconst (v := (-1)) hx hb dX0_decode_0 (by decide) ?_
  refine lv_istore_n (lv' := [(3, .int (-1)), (0, .ref h0), (1, .long a)]) hx hb dX0_decode_1 rfl hl (by decide) rfl (fun ls hl => ?_)
  refine lv_iconst (v := 0) hx hb dX0_decode_2 (by decide) ?_
  refine lv_istore (lv' := [(4, .int 0), (3, .int (-1)), (0, .ref h0), (1, .long a)]) hx hb dX0_decode_3 hl (by decide) rfl (fun ls hl => ?_)
  have loop : ∀ (d i : Nat) (r : Int32) (ls : Array Slot), k - i = d → i ≤ k → pt_F (fun j => pt_sh (fc j) (fv j) (pt_mk n) (a &&& pt_mk n)) i r → lv_has ls 5 [(4, .int (nI i)), (3, .int r), (0, .ref h0), (1, .long a)] → W p l e (headSpec wsX0_decode ({ frames := 1, cells := 0, slots := 0, locals := 25 })).room s m args below meth c s.heap [] 0 0 Q (F0 m 5 ls []) := by
    intro d
    induction d with
    | zero =>
      intro i r ls hd hik hF hl
      obtain rfl : i = k := by omega
      refine lv_iload hx hb dX0_decode_5 (lv_at hl 0 rfl) ?_
      refine lv_aload_n hx hb dX0_decode_7 rfl (lv_at hl 2 rfl) ?_
      refine va_get (D := (dC, dI)) (ci := 0) (v := .int (nI i)) (C := RX0) (T := TX0) (N := 7) hx hb hts (fun w h => List.mem_cons_of_mem _ (pt_wsX0 w h)) hown hK hP 0 rfl rfl 2 (by decide) (hts _ (List.mem_cons_of_mem _ pw34)) (fun _ h9 => h9) rfl dX0_decode_8 ?_
      refine lv_icmp_ge (tgt := 60) hx hb dX0_decode_11 (by decide) (fun h1 => ?_) (fun h1 => absurd (nI_le (by omega) (by omega)) h1)
      refine lv_iload_n hx hb dX0_decode_60 rfl (lv_at hl 1 rfl) ?_
      rw [← hQ]
      exact W.iret (v := r) hx hb hr (fun t ht hW => ⟨r, rfl, hF, ht⟩) t_nil dX0_decode_61
    | succ d ih =>
      intro i r ls hd hik hF hl
      refine lv_iload hx hb dX0_decode_5 (lv_at hl 0 rfl) ?_
      refine lv_aload_n hx hb dX0_decode_7 rfl (lv_at hl 2 rfl) ?_
      refine va_get (D := (dC, dI)) (ci := 0) (v := .int (nI k)) (C := RX0) (T := TX0) (N := 7) hx hb hts (fun w h => List.mem_cons_of_mem _ (pt_wsX0 w h)) hown hK hP 0 rfl rfl 2 (by decide) (hts _ (List.mem_cons_of_mem _ pw34)) (fun _ h9 => h9) rfl dX0_decode_8 ?_
      refine lv_icmp_ge (tgt := 60) hx hb dX0_decode_11 (by decide) (fun h1 => absurd h1 (nI_ge (by omega) (by omega))) (fun h1 => ?_)
      refine lv_aload_n hx hb dX0_decode_14 rfl (lv_at hl 2 rfl) ?_
      refine lv_iload hx hb dX0_decode_15 (lv_at hl 0 rfl) ?_
      refine lv_aload_n hx hb dX0_decode_17 rfl (lv_at hl 2 rfl) ?_
      refine va_get (D := (dC, dI)) (ci := 0) (v := .long (pt_mk n)) (C := RX0) (T := TX0) (N := 7) hx hb hts (fun w h => List.mem_cons_of_mem _ (pt_wsX0 w h)) hown hK hP 0 rfl rfl 4 (by decide) (hts _ (List.mem_cons_of_mem _ pw36)) (fun _ h9 => h9) rfl dX0_decode_18 ?_
      refine lv_lload_n hx hb dX0_decode_21 rfl (lv_at hl 3 rfl) ?_
      refine lv_aload_n hx hb dX0_decode_22 rfl (lv_at hl 2 rfl) ?_
      refine va_get (D := (dC, dI)) (ci := 0) (v := .long (pt_mk n)) (C := RX0) (T := TX0) (N := 7) hx hb hts (fun w h => List.mem_cons_of_mem _ (pt_wsX0 w h)) hown hK hP 0 rfl rfl 4 (by decide) (hts _ (List.mem_cons_of_mem _ pw36)) (fun _ h9 => h9) rfl dX0_decode_23 ?_
      refine lv_land hx hb dX0_decode_26 ?_
      refine vp_callSi (W.runV (As := [.int (nI i), .long (pt_mk n), .long (a &&& (pt_mk n))]) (rest := []) ⟨hx, hb, hml, hown, hts⟩ (c_sharesWord l dC dI h0 c0 w0 kc kw k n fc fv cl su i (pt_mk n) (a &&& pt_mk n) (by omega)) (cwV 3 hts (pt_gV pw51 pw52 pw0 pw17 pw53) rfl rfl rfl (by decide +kernel) ⟨Nat.le_of_ble_eq_true rfl, Nat.le_of_ble_eq_true rfl⟩) ⟨fun a U g mk q => by obtain ⟨q0, qP, qK⟩ := q; exact ⟨q0, qP, va_K.moved (u := U) (U := U.calling g mk a) (Vm.Alike.refl U.vm) qK⟩, va_recv hK hP (ci := 0) (q0 := 0) rfl rfl, fun U hU hW => ⟨rfl, by rw [hU]; exact hP, va_K.moved hW.alike hK⟩⟩ rfl rfl hl.1 rfl (lv_room (Nat.le_of_ble_eq_true rfl)) dX0_decode_27 ⟨Nat.zero_le _, Nat.zero_le _⟩) (fun r1 hw => ?_)
      rcases hw with ⟨rfl, hs⟩ | ⟨rfl, hs⟩
      · refine lv_if_eq (tgt := 54) hx hb dX0_decode_30 (by decide) (fun h2 => absurd h2 (by decide)) (fun h2 => ?_)
        refine lv_iload_n hx hb dX0_decode_33 rfl (lv_at hl 1 rfl) ?_
        refine lv_iconst (v := (-1)) hx hb dX0_decode_34 (by decide) ?_
        refine lv_icmp_ne (tgt := 44) hx hb dX0_decode_35 (by decide) (fun h3 => absurd hs (pt_I_two hI (by omega) hF h3)) (fun h3 => ?_)
        refine lv_iload hx hb dX0_decode_38 (lv_at hl 0 rfl) ?_
        refine lv_istore_n (lv' := [(3, .int (nI i)), (4, .int (nI i)), (0, .ref h0), (1, .long a)]) hx hb dX0_decode_40 rfl hl (by decide) rfl (fun ls hl => ?_)
        refine lv_goto (tgt := 54) hx hb dX0_decode_41 (by decide) ?_
        refine lv_iinc (v := nI (i + 1)) (lv' := [(4, .int (nI (i + 1))), (3, .int (nI i)), (0, .ref h0), (1, .long a)]) hx hb dX0_decode_54 hl (k := 1) rfl (by rw [nI_succ]; rfl) (by decide) rfl (fun ls hl => ?_)
        refine lv_goto (tgt := 5) hx hb dX0_decode_57 (by decide) ?_
        exact ih (i + 1) (nI i) ls (by omega) (by omega) (pt_F_hit (h3 ▸ hF) hs (by omega)) (lv_sub hl [0, 1, 2, 3] rfl)
      · refine lv_if_eq (tgt := 54) hx hb dX0_decode_30 (by decide) (fun h2 => ?_) (fun h2 => absurd rfl h2)
        refine lv_iinc (v := nI (i + 1)) (lv' := [(4, .int (nI (i + 1))), (3, .int r), (0, .ref h0), (1, .long a)]) hx hb dX0_decode_54 hl (k := 0) rfl (by rw [nI_succ]; rfl) (by decide) rfl (fun ls hl => ?_)
        refine lv_goto (tgt := 5) hx hb dX0_decode_57 (by decide) ?_
        exact ih (i + 1) r ls (by omega) (by omega) (pt_F_miss hF hs) (lv_sub hl [0, 1, 2, 3] rfl)
  exact loop k 0 (-1) ls (by omega) (by omega) (Or.inl ⟨rfl, lt_0⟩) (lv_sub hl [0, 1, 2, 3] rfl)
set_option maxHeartbeats 4000000 in
set_option maxRecDepth 100000 in
/-- meets(care, want) -/
theorem c_meets (l : Launch) (dC : Nat → ClassId) (dI : Nat → Nat → Nat) (h0 c0 w0 : Nat) (kc kw : ClassId) (k n : Nat) (fc fv : Nat → Int64) (cl su : Int32) (a b : Int64) (hst : ¬ pt_stray n a b) (hk : k ≤ 512) : Met l yX0_meets wsX0_meets ({ frames := 2, cells := 0, slots := 0, locals := 50 }) (va_Pc [.ref h0, .long a, .long b] (fun U => va_P (dC, dI) vwCl [(h0, .inr (0, [.ref c0, .ref w0, .int (nI k), .int (nI n), .long (pt_mk n), .int cl, .int su])), (c0, .inl (kc, 512, .inr (.inl fc))), (w0, .inl (kw, 512, .inr (.inl fv)))] U.heap ∧ va_K (dC, dI) vwCl [(kc, .long), (kw, .long)] U)) (vp_Si (fun r : Int32 => pt_F (fun j => pt_sh (fc j) (fv j) (a &&& pt_mk n) (b &&& pt_mk n)) k r)) 0 0 (fun _ => False) := by
  refine Met.ofW (cc := cX0_meets) (maxL := 5) (ret := (some .int)) (by decide) rfl ?_
  intro p e s m args below meth c s₁ B hml hv
  obtain ⟨ha, hP, hK⟩ := hv
  have hx := B.exec
  have hb := B.bytes
  have hr := B.returns
  have hts := atoms_spec (ws := wsX0_meets) B.pre
  have hown : s.vm.findClass RX0 = some m.cls := findClass_of_methodNamed B.named
  have hlocks := B.notSynchronized
  have hl := lv_entry ([.ref h0, .long a, .long b]) (n := 5) (Nat.le_of_ble_eq_true rfl)
  refine W.eq (show entryFrame m args 5 = entryFrame m ([.ref h0, .long a, .long b] : List Value).toArray 5 by rw [ha]) ?_
  rw [lg_entry_eq]
  generalize (lg_sl ([.ref h0, .long a, .long b]) ++ List.replicate (5 - (lg_sl ([.ref h0, .long a, .long b])).length) Slot.unset).toArray = ls at hl ⊢
  have hl : lv_has ls 5 [(0, .ref h0), (1, .long a), (3, .long b)] := hl
  generalize hQ : MQ below (vp_Si (fun r : Int32 => pt_F (fun j => pt_sh (fc j) (fv j) (a &&& pt_mk n) (b &&& pt_mk n)) k r)) args s 0 0 (fun _ => False) = Q
  refine lv_aload_n hx hb dX0_meets_0 rfl (lv_at hl 0 rfl) ?_
  refine lv_lload_n hx hb dX0_meets_1 rfl (lv_at hl 1 rfl) ?_
  refine lv_lload_n hx hb dX0_meets_2 rfl (lv_at hl 2 rfl) ?_
  refine va_csv (W.runV (As := [.long a, .long b]) (rest := []) ⟨hx, hb, hml, hown, hts⟩ (c_refuseStrayWant l dC dI h0 c0 w0 kc kw k n fc fv cl su a b hst) (cwV 2 hts (pt_gV pw76 pw77 pw1 pw17 pw78) rfl rfl rfl (by decide +kernel) ⟨Nat.le_of_ble_eq_true rfl, Nat.le_of_ble_eq_true rfl⟩) ⟨fun a U g mk q => by obtain ⟨q0, qP, qK⟩ := q; exact ⟨q0, qP, va_K.moved (u := U) (U := U.calling g mk a) (Vm.Alike.refl U.vm) qK⟩, va_recv hK hP (ci := 0) (q0 := 0) rfl rfl, fun U hU hW => ⟨rfl, by rw [hU]; exact hP, va_K.moved hW.alike hK⟩⟩ rfl rfl hl.1 rfl (lv_room (Nat.le_of_ble_eq_true rfl)) dX0_meets_3 ⟨Nat.zero_le _, Nat.zero_le _⟩) (fun hw => ?_)
  refine lv_aload_n hx hb dX0_meets_6 rfl (lv_at hl 0 rfl) ?_
  refine lv_lload_n hx hb dX0_meets_7 rfl (lv_at hl 1 rfl) ?_
  refine lv_aload_n hx hb dX0_meets_8 rfl (lv_at hl 0 rfl) ?_
  refine va_get (D := (dC, dI)) (ci := 0) (v := .long (pt_mk n)) (C := RX0) (T := TX0) (N := 7) hx hb hts (fun w h => List.mem_cons_of_mem _ (pt_wsX0 w h)) hown hK hP 0 rfl rfl 4 (by decide) (hts _ (List.mem_cons_of_mem _ pw36)) (fun _ h9 => h9) rfl dX0_meets_9 ?_
  refine lv_land hx hb dX0_meets_12 ?_
  refine lv_lload_n hx hb dX0_meets_13 rfl (lv_at hl 2 rfl) ?_
  refine lv_aload_n hx hb dX0_meets_14 rfl (lv_at hl 0 rfl) ?_
  refine va_get (D := (dC, dI)) (ci := 0) (v := .long (pt_mk n)) (C := RX0) (T := TX0) (N := 7) hx hb hts (fun w h => List.mem_cons_of_mem _ (pt_wsX0 w h)) hown hK hP 0 rfl rfl 4 (by decide) (hts _ (List.mem_cons_of_mem _ pw36)) (fun _ h9 => h9) rfl dX0_meets_15 ?_
  refine lv_land hx hb dX0_meets_18 ?_
  refine vp_callSi (W.runV (As := [.long (a &&& (pt_mk n)), .long (b &&& (pt_mk n))]) (rest := []) ⟨hx, hb, hml, hown, hts⟩ (c_firstSharing l dC dI h0 c0 w0 kc kw k n fc fv cl su (a &&& pt_mk n) (b &&& pt_mk n) hk) (cwV 2 hts (pt_gV pw84 pw85 pw3 pw17 pw86) rfl rfl rfl (by decide +kernel) ⟨Nat.le_of_ble_eq_true rfl, Nat.le_of_ble_eq_true rfl⟩) ⟨fun a U g mk q => by obtain ⟨q0, qP, qK⟩ := q; exact ⟨q0, qP, va_K.moved (u := U) (U := U.calling g mk a) (Vm.Alike.refl U.vm) qK⟩, va_recv hK hP (ci := 0) (q0 := 0) rfl rfl, fun U hU hW => ⟨rfl, by rw [hU]; exact hP, va_K.moved hW.alike hK⟩⟩ rfl rfl hl.1 rfl (lv_room (Nat.le_of_ble_eq_true rfl)) dX0_meets_19 ⟨Nat.zero_le _, Nat.zero_le _⟩) (fun r2 hw2 => ?_)
  rw [← hQ]
  exact W.iret (v := r2) hx hb hr (fun t ht hW => ⟨r2, rfl, hw2, ht⟩) t_nil dX0_meets_22
set_option maxHeartbeats 4000000 in
set_option maxRecDepth 100000 in
/-- meets(care, want): bad -/
theorem t_meets_bad (l : Launch) (hl9 : l.stackTraces = false) (dC : Nat → ClassId) (dI : Nat → Nat → Nat) (s0 : State) (h0X : pt_X s0) (h0 c0 w0 : Nat) (kc kw : ClassId) (k n : Nat) (fc fv : Nat → Int64) (cl su : Int32) (a b : Int64) (sz : Nat) (hst : pt_stray n a b) : pt_Thr l yX0_meets wsX0_meets ({ frames := 7, cells := 1, slots := 6, locals := 106 }) (va_Pc [.ref h0, .long a, .long b] (fun U => U.heap.size = sz ∧ va_P (dC, dI) vwCl [(h0, .inr (0, [.ref c0, .ref w0, .int (nI k), .int (nI n), .long (pt_mk n), .int cl, .int su])), (c0, .inl (kc, 512, .inr (.inl fc))), (w0, .inl (kw, 512, .inr (.inl fv)))] U.heap ∧ va_K (dC, dI) vwCl [(kc, .long), (kw, .long)] U ∧ va_D (fun q => s0.heap.size ≤ q) [(h0, .inr (0, [.ref c0, .ref w0, .int (nI k), .int (nI n), .long (pt_mk n), .int cl, .int su])), (c0, .inl (kc, 512, .inr (.inl fc))), (w0, .inl (kw, 512, .inr (.inl fv)))] ∧ pt_ext s0 U)) "java/lang/IllegalArgumentException" (fun st t => va_P (dC, dI) vwCl [(h0, .inr (0, [.ref c0, .ref w0, .int (nI k), .int (nI n), .long (pt_mk n), .int cl, .int su])), (c0, .inl (kc, 512, .inr (.inl fc))), (w0, .inl (kw, 512, .inr (.inl fv)))] t.heap ∧ va_K (dC, dI) vwCl [(kc, .long), (kw, .long)] t ∧ va_D (va_A [(h0, .inr (0, [.ref c0, .ref w0, .int (nI k), .int (nI n), .long (pt_mk n), .int cl, .int su])), (c0, .inl (kc, 512, .inr (.inl fc))), (w0, .inl (kw, 512, .inr (.inl fv)))] sz) [(h0, .inr (0, [.ref c0, .ref w0, .int (nI k), .int (nI n), .long (pt_mk n), .int cl, .int su])), (c0, .inl (kc, 512, .inr (.inl fc))), (w0, .inl (kw, 512, .inr (.inl fv)))] ∧ va_F (va_A [(h0, .inr (0, [.ref c0, .ref w0, .int (nI k), .int (nI n), .long (pt_mk n), .int cl, .int su])), (c0, .inl (kc, 512, .inr (.inl fc))), (w0, .inl (kw, 512, .inr (.inl fv)))] sz) st t) 1 6 (va_A [(h0, .inr (0, [.ref c0, .ref w0, .int (nI k), .int (nI n), .long (pt_mk n), .int cl, .int su])), (c0, .inl (kc, 512, .inr (.inl fc))), (w0, .inl (kw, 512, .inr (.inl fv)))] sz) := by
  refine pt_Thr_ofW (cc := cX0_meets) (maxL := 5) (ret := (some .int)) (by decide) rfl ?_
  intro p e s m args below meth c s₁ B hml hnoh hv
  obtain ⟨ha, hsz, hP, hK, hD0, hext⟩ := hv
  subst hsz
  have hx := B.exec
  have hb := B.bytes
  have hr := B.returns
  have hts := atoms_spec (ws := wsX0_meets) B.pre
  have hown : s.vm.findClass RX0 = some m.cls := findClass_of_methodNamed B.named
  have hlocks := B.notSynchronized
  have hl := lv_entry ([.ref h0, .long a, .long b]) (n := 5) (Nat.le_of_ble_eq_true rfl)
  refine W.eq (show entryFrame m args 5 = entryFrame m ([.ref h0, .long a, .long b] : List Value).toArray 5 by rw [ha]) ?_
  rw [lg_entry_eq]
  generalize (lg_sl ([.ref h0, .long a, .long b]) ++ List.replicate (5 - (lg_sl ([.ref h0, .long a, .long b])).length) Slot.unset).toArray = ls at hl ⊢
  have hl : lv_has ls 5 [(0, .ref h0), (1, .long a), (3, .long b)] := hl
  have hD := hD0.self (sz := s.heap.size)
  have hAs : ∀ q : Nat, va_A [(h0, .inr (0, [.ref c0, .ref w0, .int (nI k), .int (nI n), .long (pt_mk n), .int cl, .int su])), (c0, .inl (kc, 512, .inr (.inl fc))), (w0, .inl (kw, 512, .inr (.inl fv)))] s.heap.size q → s0.heap.size ≤ q := pt_As hD0 hext.2.1
  generalize hAe : va_A [(h0, .inr (0, [.ref c0, .ref w0, .int (nI k), .int (nI n), .long (pt_mk n), .int cl, .int su])), (c0, .inl (kc, 512, .inr (.inl fc))), (w0, .inl (kw, 512, .inr (.inl fv)))] s.heap.size = A at hD hAs ⊢
  have hA : ∀ q : Nat, s.heap.size ≤ q → A q := fun q h => by rw [← hAe]; exact Or.inr h
  have hS : va_S A s.heap s.heap [] := va_S.rf
  have hP : va_P (dC, dI) vwCl [(h0, .inr (0, [.ref c0, .ref w0, .int (nI k), .int (nI n), .long (pt_mk n), .int cl, .int su])), (c0, .inl (kc, 512, .inr (.inl fc))), (w0, .inl (kw, 512, .inr (.inl fv)))] s.heap := hP
  generalize hQ : pt_TQ below "java/lang/IllegalArgumentException" (fun st t => va_P (dC, dI) vwCl [(h0, .inr (0, [.ref c0, .ref w0, .int (nI k), .int (nI n), .long (pt_mk n), .int cl, .int su])), (c0, .inl (kc, 512, .inr (.inl fc))), (w0, .inl (kw, 512, .inr (.inl fv)))] t.heap ∧ va_K (dC, dI) vwCl [(kc, .long), (kw, .long)] t ∧ va_D A [(h0, .inr (0, [.ref c0, .ref w0, .int (nI k), .int (nI n), .long (pt_mk n), .int cl, .int su])), (c0, .inl (kc, 512, .inr (.inl fc))), (w0, .inl (kw, 512, .inr (.inl fv)))] ∧ va_F A st t) s 1 6 A = Q
  refine lv_aload_n hx hb dX0_meets_0 rfl (lv_at hl 0 rfl) ?_
  refine lv_lload_n hx hb dX0_meets_1 rfl (lv_at hl 1 rfl) ?_
  refine lv_lload_n hx hb dX0_meets_2 rfl (lv_at hl 2 rfl) ?_
  rw [← hQ, ← hAe]
  exact pt_out (pt_runT (As := [.long a, .long b]) (rest := []) ⟨hx, hb, hml, hown, hts⟩ (t_refuseStrayWant l hl9 dC dI s0 h0X h0 c0 w0 kc kw k n fc fv cl su a b s.heap.size hst) (cwV 2 hts (pt_gV pw76 pw77 pw1 pw17 pw78) rfl rfl rfl (by decide +kernel) ⟨Nat.le_of_ble_eq_true rfl, Nat.le_of_ble_eq_true rfl⟩) ⟨fun a U g mk q => by obtain ⟨q0, q1, qP, qK, qD, qX⟩ := q; exact ⟨q0, q1, qP, va_K.moved (u := U) (U := U.calling g mk a) (Vm.Alike.refl U.vm) qK, qD, qX⟩, va_recv hK hP (ci := 0) (q0 := 0) rfl rfl, fun U hU hW => ⟨rfl, by rw [hU], by rw [hU]; exact hP, va_K.moved hW.alike hK, hD0, hext.same hU hW⟩⟩ rfl rfl hl.1 rfl (lv_room (Nat.le_of_ble_eq_true rfl)) dX0_meets_3 ⟨by decide, by decide⟩) hnoh hlocks (fun st t t2 h1 h2 h3 h4 h5 => ⟨by rw [h4]; exact h3.1, va_K.moved (by rw [h5]; exact Vm.Alike.refl _) h3.2.1, h3.2.2.1, pt_F_same h1 h4 h3.2.2.2⟩) t_nil (fun _ h => h) (by decide) (by decide)
set_option maxHeartbeats 4000000 in
set_option maxRecDepth 100000 in
/-- free(care, want) -/
theorem c_free (l : Launch) (dC : Nat → ClassId) (dI : Nat → Nat → Nat) (h0 c0 w0 : Nat) (kc kw : ClassId) (k n : Nat) (fc fv : Nat → Int64) (cl su : Int32) (a b : Int64) (hst : ¬ pt_stray n a b) (hk : k ≤ 512) : Met l yX0_free wsX0_free ({ frames := 3, cells := 0, slots := 0, locals := 71 }) (va_Pc [.ref h0, .long a, .long b] (fun U => va_P (dC, dI) vwCl [(h0, .inr (0, [.ref c0, .ref w0, .int (nI k), .int (nI n), .long (pt_mk n), .int cl, .int su])), (c0, .inl (kc, 512, .inr (.inl fc))), (w0, .inl (kw, 512, .inr (.inl fv)))] U.heap ∧ va_K (dC, dI) vwCl [(kc, .long), (kw, .long)] U)) (vp_Sl (fun r : Int64 => r = pt_fw n fc fv (a &&& pt_mk n) (b &&& pt_mk n) k)) 0 0 (fun _ => False) := by
  refine Met.ofW (cc := cX0_free) (maxL := 5) (ret := (some .long)) (by decide) rfl ?_
  intro p e s m args below meth c s₁ B hml hv
  obtain ⟨ha, hP, hK⟩ := hv
  have hx := B.exec
  have hb := B.bytes
  have hr := B.returns
  have hts := atoms_spec (ws := wsX0_free) B.pre
  have hown : s.vm.findClass RX0 = some m.cls := findClass_of_methodNamed B.named
  have hlocks := B.notSynchronized
  have hl := lv_entry ([.ref h0, .long a, .long b]) (n := 5) (Nat.le_of_ble_eq_true rfl)
  refine W.eq (show entryFrame m args 5 = entryFrame m ([.ref h0, .long a, .long b] : List Value).toArray 5 by rw [ha]) ?_
  rw [lg_entry_eq]
  generalize (lg_sl ([.ref h0, .long a, .long b]) ++ List.replicate (5 - (lg_sl ([.ref h0, .long a, .long b])).length) Slot.unset).toArray = ls at hl ⊢
  have hl : lv_has ls 5 [(0, .ref h0), (1, .long a), (3, .long b)] := hl
  generalize hQ : MQ below (vp_Sl (fun r : Int64 => r = pt_fw n fc fv (a &&& pt_mk n) (b &&& pt_mk n) k)) args s 0 0 (fun _ => False) = Q
  refine lv_aload_n hx hb dX0_free_0 rfl (lv_at hl 0 rfl) ?_
  refine lv_lload_n hx hb dX0_free_1 rfl (lv_at hl 1 rfl) ?_
  refine lv_lload_n hx hb dX0_free_2 rfl (lv_at hl 2 rfl) ?_
  refine va_csv (W.runV (As := [.long a, .long b]) (rest := []) ⟨hx, hb, hml, hown, hts⟩ (c_refuseStrayWant l dC dI h0 c0 w0 kc kw k n fc fv cl su a b hst) (cwV 2 hts (pt_gV pw76 pw77 pw1 pw17 pw78) rfl rfl rfl (by decide +kernel) ⟨Nat.le_of_ble_eq_true rfl, Nat.le_of_ble_eq_true rfl⟩) ⟨fun a U g mk q => by obtain ⟨q0, qP, qK⟩ := q; exact ⟨q0, qP, va_K.moved (u := U) (U := U.calling g mk a) (Vm.Alike.refl U.vm) qK⟩, va_recv hK hP (ci := 0) (q0 := 0) rfl rfl, fun U hU hW => ⟨rfl, by rw [hU]; exact hP, va_K.moved hW.alike hK⟩⟩ rfl rfl hl.1 rfl (lv_room (Nat.le_of_ble_eq_true rfl)) dX0_free_3 ⟨Nat.zero_le _, Nat.zero_le _⟩) (fun hw => ?_)
  refine lv_aload_n hx hb dX0_free_6 rfl (lv_at hl 0 rfl) ?_
  refine lv_lload_n hx hb dX0_free_7 rfl (lv_at hl 1 rfl) ?_
  refine lv_aload_n hx hb dX0_free_8 rfl (lv_at hl 0 rfl) ?_
  refine va_get (D := (dC, dI)) (ci := 0) (v := .long (pt_mk n)) (C := RX0) (T := TX0) (N := 7) hx hb hts (fun w h => List.mem_cons_of_mem _ (pt_wsX0 w h)) hown hK hP 0 rfl rfl 4 (by decide) (hts _ (List.mem_cons_of_mem _ pw36)) (fun _ h9 => h9) rfl dX0_free_9 ?_
  refine lv_land hx hb dX0_free_12 ?_
  refine lv_lload_n hx hb dX0_free_13 rfl (lv_at hl 2 rfl) ?_
  refine lv_aload_n hx hb dX0_free_14 rfl (lv_at hl 0 rfl) ?_
  refine va_get (D := (dC, dI)) (ci := 0) (v := .long (pt_mk n)) (C := RX0) (T := TX0) (N := 7) hx hb hts (fun w h => List.mem_cons_of_mem _ (pt_wsX0 w h)) hown hK hP 0 rfl rfl 4 (by decide) (hts _ (List.mem_cons_of_mem _ pw36)) (fun _ h9 => h9) rfl dX0_free_15 ?_
  refine lv_land hx hb dX0_free_18 ?_
  refine vp_callSl (W.runV (As := [.long (a &&& (pt_mk n)), .long (b &&& (pt_mk n))]) (rest := []) ⟨hx, hb, hml, hown, hts⟩ (c_freeWords l dC dI h0 c0 w0 kc kw k n fc fv cl su (a &&& pt_mk n) (b &&& pt_mk n) hk) (cwV 2 hts (pt_gV pw123 pw124 pw5 pw17 pw125) rfl rfl rfl (by decide +kernel) ⟨Nat.le_of_ble_eq_true rfl, Nat.le_of_ble_eq_true rfl⟩) ⟨fun a U g mk q => by obtain ⟨q0, qP, qK⟩ := q; exact ⟨q0, qP, va_K.moved (u := U) (U := U.calling g mk a) (Vm.Alike.refl U.vm) qK⟩, va_recv hK hP (ci := 0) (q0 := 0) rfl rfl, fun U hU hW => ⟨rfl, by rw [hU]; exact hP, va_K.moved hW.alike hK⟩⟩ rfl rfl hl.1 rfl (lv_room (Nat.le_of_ble_eq_true rfl)) dX0_free_19 ⟨Nat.zero_le _, Nat.zero_le _⟩) (fun r2 hw2 => ?_)
  rw [← hQ]
  exact W.lret (v := r2) hx hb hr (fun t ht hW => ⟨r2, rfl, hw2, ht⟩) t_nil dX0_free_22
set_option maxHeartbeats 4000000 in
set_option maxRecDepth 100000 in
/-- free(care, want): bad -/
theorem t_free_bad (l : Launch) (hl9 : l.stackTraces = false) (dC : Nat → ClassId) (dI : Nat → Nat → Nat) (s0 : State) (h0X : pt_X s0) (h0 c0 w0 : Nat) (kc kw : ClassId) (k n : Nat) (fc fv : Nat → Int64) (cl su : Int32) (a b : Int64) (sz : Nat) (hst : pt_stray n a b) : pt_Thr l yX0_free wsX0_free ({ frames := 7, cells := 1, slots := 6, locals := 106 }) (va_Pc [.ref h0, .long a, .long b] (fun U => U.heap.size = sz ∧ va_P (dC, dI) vwCl [(h0, .inr (0, [.ref c0, .ref w0, .int (nI k), .int (nI n), .long (pt_mk n), .int cl, .int su])), (c0, .inl (kc, 512, .inr (.inl fc))), (w0, .inl (kw, 512, .inr (.inl fv)))] U.heap ∧ va_K (dC, dI) vwCl [(kc, .long), (kw, .long)] U ∧ va_D (fun q => s0.heap.size ≤ q) [(h0, .inr (0, [.ref c0, .ref w0, .int (nI k), .int (nI n), .long (pt_mk n), .int cl, .int su])), (c0, .inl (kc, 512, .inr (.inl fc))), (w0, .inl (kw, 512, .inr (.inl fv)))] ∧ pt_ext s0 U)) "java/lang/IllegalArgumentException" (fun st t => va_P (dC, dI) vwCl [(h0, .inr (0, [.ref c0, .ref w0, .int (nI k), .int (nI n), .long (pt_mk n), .int cl, .int su])), (c0, .inl (kc, 512, .inr (.inl fc))), (w0, .inl (kw, 512, .inr (.inl fv)))] t.heap ∧ va_K (dC, dI) vwCl [(kc, .long), (kw, .long)] t ∧ va_D (va_A [(h0, .inr (0, [.ref c0, .ref w0, .int (nI k), .int (nI n), .long (pt_mk n), .int cl, .int su])), (c0, .inl (kc, 512, .inr (.inl fc))), (w0, .inl (kw, 512, .inr (.inl fv)))] sz) [(h0, .inr (0, [.ref c0, .ref w0, .int (nI k), .int (nI n), .long (pt_mk n), .int cl, .int su])), (c0, .inl (kc, 512, .inr (.inl fc))), (w0, .inl (kw, 512, .inr (.inl fv)))] ∧ va_F (va_A [(h0, .inr (0, [.ref c0, .ref w0, .int (nI k), .int (nI n), .long (pt_mk n), .int cl, .int su])), (c0, .inl (kc, 512, .inr (.inl fc))), (w0, .inl (kw, 512, .inr (.inl fv)))] sz) st t) 1 6 (va_A [(h0, .inr (0, [.ref c0, .ref w0, .int (nI k), .int (nI n), .long (pt_mk n), .int cl, .int su])), (c0, .inl (kc, 512, .inr (.inl fc))), (w0, .inl (kw, 512, .inr (.inl fv)))] sz) := by
  refine pt_Thr_ofW (cc := cX0_free) (maxL := 5) (ret := (some .long)) (by decide) rfl ?_
  intro p e s m args below meth c s₁ B hml hnoh hv
  obtain ⟨ha, hsz, hP, hK, hD0, hext⟩ := hv
  subst hsz
  have hx := B.exec
  have hb := B.bytes
  have hr := B.returns
  have hts := atoms_spec (ws := wsX0_free) B.pre
  have hown : s.vm.findClass RX0 = some m.cls := findClass_of_methodNamed B.named
  have hlocks := B.notSynchronized
  have hl := lv_entry ([.ref h0, .long a, .long b]) (n := 5) (Nat.le_of_ble_eq_true rfl)
  refine W.eq (show entryFrame m args 5 = entryFrame m ([.ref h0, .long a, .long b] : List Value).toArray 5 by rw [ha]) ?_
  rw [lg_entry_eq]
  generalize (lg_sl ([.ref h0, .long a, .long b]) ++ List.replicate (5 - (lg_sl ([.ref h0, .long a, .long b])).length) Slot.unset).toArray = ls at hl ⊢
  have hl : lv_has ls 5 [(0, .ref h0), (1, .long a), (3, .long b)] := hl
  have hD := hD0.self (sz := s.heap.size)
  have hAs : ∀ q : Nat, va_A [(h0, .inr (0, [.ref c0, .ref w0, .int (nI k), .int (nI n), .long (pt_mk n), .int cl, .int su])), (c0, .inl (kc, 512, .inr (.inl fc))), (w0, .inl (kw, 512, .inr (.inl fv)))] s.heap.size q → s0.heap.size ≤ q := pt_As hD0 hext.2.1
  generalize hAe : va_A [(h0, .inr (0, [.ref c0, .ref w0, .int (nI k), .int (nI n), .long (pt_mk n), .int cl, .int su])), (c0, .inl (kc, 512, .inr (.inl fc))), (w0, .inl (kw, 512, .inr (.inl fv)))] s.heap.size = A at hD hAs ⊢
  have hA : ∀ q : Nat, s.heap.size ≤ q → A q := fun q h => by rw [← hAe]; exact Or.inr h
  have hS : va_S A s.heap s.heap [] := va_S.rf
  have hP : va_P (dC, dI) vwCl [(h0, .inr (0, [.ref c0, .ref w0, .int (nI k), .int (nI n), .long (pt_mk n), .int cl, .int su])), (c0, .inl (kc, 512, .inr (.inl fc))), (w0, .inl (kw, 512, .inr (.inl fv)))] s.heap := hP
  generalize hQ : pt_TQ below "java/lang/IllegalArgumentException" (fun st t => va_P (dC, dI) vwCl [(h0, .inr (0, [.ref c0, .ref w0, .int (nI k), .int (nI n), .long (pt_mk n), .int cl, .int su])), (c0, .inl (kc, 512, .inr (.inl fc))), (w0, .inl (kw, 512, .inr (.inl fv)))] t.heap ∧ va_K (dC, dI) vwCl [(kc, .long), (kw, .long)] t ∧ va_D A [(h0, .inr (0, [.ref c0, .ref w0, .int (nI k), .int (nI n), .long (pt_mk n), .int cl, .int su])), (c0, .inl (kc, 512, .inr (.inl fc))), (w0, .inl (kw, 512, .inr (.inl fv)))] ∧ va_F A st t) s 1 6 A = Q
  refine lv_aload_n hx hb dX0_free_0 rfl (lv_at hl 0 rfl) ?_
  refine lv_lload_n hx hb dX0_free_1 rfl (lv_at hl 1 rfl) ?_
  refine lv_lload_n hx hb dX0_free_2 rfl (lv_at hl 2 rfl) ?_
  rw [← hQ, ← hAe]
  exact pt_out (pt_runT (As := [.long a, .long b]) (rest := []) ⟨hx, hb, hml, hown, hts⟩ (t_refuseStrayWant l hl9 dC dI s0 h0X h0 c0 w0 kc kw k n fc fv cl su a b s.heap.size hst) (cwV 2 hts (pt_gV pw76 pw77 pw1 pw17 pw78) rfl rfl rfl (by decide +kernel) ⟨Nat.le_of_ble_eq_true rfl, Nat.le_of_ble_eq_true rfl⟩) ⟨fun a U g mk q => by obtain ⟨q0, q1, qP, qK, qD, qX⟩ := q; exact ⟨q0, q1, qP, va_K.moved (u := U) (U := U.calling g mk a) (Vm.Alike.refl U.vm) qK, qD, qX⟩, va_recv hK hP (ci := 0) (q0 := 0) rfl rfl, fun U hU hW => ⟨rfl, by rw [hU], by rw [hU]; exact hP, va_K.moved hW.alike hK, hD0, hext.same hU hW⟩⟩ rfl rfl hl.1 rfl (lv_room (Nat.le_of_ble_eq_true rfl)) dX0_free_3 ⟨by decide, by decide⟩) hnoh hlocks (fun st t t2 h1 h2 h3 h4 h5 => ⟨by rw [h4]; exact h3.1, va_K.moved (by rw [h5]; exact Vm.Alike.refl _) h3.2.1, h3.2.2.1, pt_F_same h1 h4 h3.2.2.2⟩) t_nil (fun _ h => h) (by decide) (by decide)
set_option maxHeartbeats 4000000 in
set_option maxRecDepth 100000 in
/-- next(word): the word itself -/
theorem c_next_free (l : Launch) (dC : Nat → ClassId) (dI : Nat → Nat → Nat) (h0 c0 w0 : Nat) (kc kw : ClassId) (k n : Nat) (fc fv : Nat → Int64) (cl su : Int32) (a : Int64) (hk : k ≤ 512) (hfree : ∀ j, j < k → ¬ pt_sh (fc j) (fv j) (pt_mk n) (a &&& pt_mk n)) : Met l yX0_next wsX0_next ({ frames := 2, cells := 0, slots := 0, locals := 50 }) (va_Pc [.ref h0, .long a] (fun U => va_P (dC, dI) vwCl [(h0, .inr (0, [.ref c0, .ref w0, .int (nI k), .int (nI n), .long (pt_mk n), .int cl, .int su])), (c0, .inl (kc, 512, .inr (.inl fc))), (w0, .inl (kw, 512, .inr (.inl fv)))] U.heap ∧ va_K (dC, dI) vwCl [(kc, .long), (kw, .long)] U)) (vp_Sl (fun r : Int64 => r = a &&& pt_mk n)) 0 0 (fun _ => False) := by
  refine Met.ofW (cc := cX0_next) (maxL := 8) (ret := (some .long)) (by decide) rfl ?_
  intro p e s m args below meth c s₁ B hml hv
  obtain ⟨ha, hP, hK⟩ := hv
  have hx := B.exec
  have hb := B.bytes
  have hr := B.returns
  have hts := atoms_spec (ws := wsX0_next) B.pre
  have hown : s.vm.findClass RX0 = some m.cls := findClass_of_methodNamed B.named
  have hlocks := B.notSynchronized
  have hl := lv_entry ([.ref h0, .long a]) (n := 8) (Nat.le_of_ble_eq_true rfl)
  refine W.eq (show entryFrame m args 8 = entryFrame m ([.ref h0, .long a] : List Value).toArray 8 by rw [ha]) ?_
  rw [lg_entry_eq]
  generalize (lg_sl ([.ref h0, .long a]) ++ List.replicate (8 - (lg_sl ([.ref h0, .long a])).length) Slot.unset).toArray = ls at hl ⊢
  have hl : lv_has ls 8 [(0, .ref h0), (1, .long a)] := hl
  generalize hQ : MQ below (vp_Sl (fun r : Int64 => r = a &&& pt_mk n)) args s 0 0 (fun _ => False) = Q
  refine lv_lload_n hx hb dX0_next_0 rfl (lv_at hl 1 rfl) ?_
  refine lv_aload_n hx hb dX0_next_1 rfl (lv_at hl 0 rfl) ?_
  refine va_get (D := (dC, dI)) (ci := 0) (v := .long (pt_mk n)) (C := RX0) (T := TX0) (N := 7) hx hb hts (fun w h => List.mem_cons_of_mem _ (pt_wsX0 w h)) hown hK hP 0 rfl rfl 4 (by decide) (hts _ (List.mem_cons_of_mem _ pw36)) (fun _ h9 => h9) rfl dX0_next_2 ?_
  refine lv_land hx hb dX0_next_5 ?_
  refine lv_lstore_n (lv' := [(3, .long (a &&& (pt_mk n))), (0, .ref h0), (1, .long a)]) hx hb dX0_next_6 rfl hl (by decide) rfl (fun ls hl => ?_)
  refine lv_aload_n hx hb dX0_next_7 rfl (lv_at hl 1 rfl) ?_
  refine lv_aload_n hx hb dX0_next_8 rfl (lv_at hl 1 rfl) ?_
  refine va_get (D := (dC, dI)) (ci := 0) (v := .long (pt_mk n)) (C := RX0) (T := TX0) (N := 7) hx hb hts (fun w h => List.mem_cons_of_mem _ (pt_wsX0 w h)) hown hK hP 0 rfl rfl 4 (by decide) (hts _ (List.mem_cons_of_mem _ pw36)) (fun _ h9 => h9) rfl dX0_next_9 ?_
  refine lv_lload_n hx hb dX0_next_12 rfl (lv_at hl 0 rfl) ?_
  refine vp_callSi (W.runV (As := [.long (pt_mk n), .long (a &&& (pt_mk n))]) (rest := []) ⟨hx, hb, hml, hown, hts⟩ (c_firstSharing l dC dI h0 c0 w0 kc kw k n fc fv cl su (pt_mk n) (a &&& pt_mk n) hk) (cwV 2 hts (pt_gV pw84 pw85 pw3 pw17 pw86) rfl rfl rfl (by decide +kernel) ⟨Nat.le_of_ble_eq_true rfl, Nat.le_of_ble_eq_true rfl⟩) ⟨fun a U g mk q => by obtain ⟨q0, qP, qK⟩ := q; exact ⟨q0, qP, va_K.moved (u := U) (U := U.calling g mk a) (Vm.Alike.refl U.vm) qK⟩, va_recv hK hP (ci := 0) (q0 := 0) rfl rfl, fun U hU hW => ⟨rfl, by rw [hU]; exact hP, va_K.moved hW.alike hK⟩⟩ rfl rfl hl.1 rfl (lv_room (Nat.le_of_ble_eq_true rfl)) dX0_next_13 ⟨Nat.zero_le _, Nat.zero_le _⟩) (fun r1 hw => ?_)
  refine lv_iconst (v := (-1)) hx hb dX0_next_16 (by decide) ?_
  refine lv_icmp_ne (tgt := 22) hx hb dX0_next_17 (by decide) (fun h1 => absurd ((pt_F_none hk hw).mpr hfree) h1) (fun h1 => ?_)
  refine lv_lload_n hx hb dX0_next_20 rfl (lv_at hl 0 rfl) ?_
  rw [← hQ]
  exact W.lret (v := a &&& (pt_mk n)) hx hb hr (fun t ht hW => ⟨a &&& (pt_mk n), rfl, rfl, ht⟩) t_nil dX0_next_21
set_option maxHeartbeats 4000000 in
set_option maxRecDepth 100000 in
/-- next(word): a greater one -/
theorem c_next_at (l : Launch) (dC : Nat → ClassId) (dI : Nat → Nat → Nat) (h0 c0 w0 : Nat) (kc kw : ClassId) (k n : Nat) (fc fv : Nat → Int64) (cl su : Int32) (a : Int64) (i : Nat) (hk : k ≤ 512) (hn2 : n ≤ 64) (hmet : ¬ ∀ j, j < k → ¬ pt_sh (fc j) (fv j) (pt_mk n) (a &&& pt_mk n)) (hin : i < n) (hit : pt_N k n fc fv (a &&& pt_mk n) i) (hlow : ∀ j, j < i → ¬ pt_N k n fc fv (a &&& pt_mk n) j) : Met l yX0_next wsX0_next ({ frames := 4, cells := 0, slots := 0, locals := 97 }) (va_Pc [.ref h0, .long a] (fun U => va_P (dC, dI) vwCl [(h0, .inr (0, [.ref c0, .ref w0, .int (nI k), .int (nI n), .long (pt_mk n), .int cl, .int su])), (c0, .inl (kc, 512, .inr (.inl fc))), (w0, .inl (kw, 512, .inr (.inl fv)))] U.heap ∧ va_K (dC, dI) vwCl [(kc, .long), (kw, .long)] U)) (vp_Sl (fun r : Int64 => r = pt_lf k n fc fv i (pt_rs n (a &&& pt_mk n) i))) 0 0 (fun _ => False) := by
  refine Met.ofW (cc := cX0_next) (maxL := 8) (ret := (some .long)) (by decide) rfl ?_
  intro p e s m args below meth c s₁ B hml hv
  obtain ⟨ha, hP, hK⟩ := hv
  have hx := B.exec
  have hb := B.bytes
  have hr := B.returns
  have hts := atoms_spec (ws := wsX0_next) B.pre
  have hown : s.vm.findClass RX0 = some m.cls := findClass_of_methodNamed B.named
  have hlocks := B.notSynchronized
  have hl := lv_entry ([.ref h0, .long a]) (n := 8) (Nat.le_of_ble_eq_true rfl)
  refine W.eq (show entryFrame m args 8 = entryFrame m ([.ref h0, .long a] : List Value).toArray 8 by rw [ha]) ?_
  rw [lg_entry_eq]
  generalize (lg_sl ([.ref h0, .long a]) ++ List.replicate (8 - (lg_sl ([.ref h0, .long a])).length) Slot.unset).toArray = ls at hl ⊢
  have hl : lv_has ls 8 [(0, .ref h0), (1, .long a)] := hl
  generalize hQ : MQ below (vp_Sl (fun r : Int64 => r = pt_lf k n fc fv i (pt_rs n (a &&& pt_mk n) i))) args s 0 0 (fun _ => False) = Q
  refine lv_lload_n hx hb dX0_next_0 rfl (lv_at hl 1 rfl) ?_
  refine lv_aload_n hx hb dX0_next_1 rfl (lv_at hl 0 rfl) ?_
  refine va_get (D := (dC, dI)) (ci := 0) (v := .long (pt_mk n)) (C := RX0) (T := TX0) (N := 7) hx hb hts (fun w h => List.mem_cons_of_mem _ (pt_wsX0 w h)) hown hK hP 0 rfl rfl 4 (by decide) (hts _ (List.mem_cons_of_mem _ pw36)) (fun _ h9 => h9) rfl dX0_next_2 ?_
  refine lv_land hx hb dX0_next_5 ?_
  refine lv_lstore_n (lv' := [(3, .long (a &&& (pt_mk n))), (0, .ref h0), (1, .long a)]) hx hb dX0_next_6 rfl hl (by decide) rfl (fun ls hl => ?_)
  refine lv_aload_n hx hb dX0_next_7 rfl (lv_at hl 1 rfl) ?_
  refine lv_aload_n hx hb dX0_next_8 rfl (lv_at hl 1 rfl) ?_
  refine va_get (D := (dC, dI)) (ci := 0) (v := .long (pt_mk n)) (C := RX0) (T := TX0) (N := 7) hx hb hts (fun w h => List.mem_cons_of_mem _ (pt_wsX0 w h)) hown hK hP 0 rfl rfl 4 (by decide) (hts _ (List.mem_cons_of_mem _ pw36)) (fun _ h9 => h9) rfl dX0_next_9 ?_
  refine lv_lload_n hx hb dX0_next_12 rfl (lv_at hl 0 rfl) ?_
  refine vp_callSi (W.runV (As := [.long (pt_mk n), .long (a &&& (pt_mk n))]) (rest := []) ⟨hx, hb, hml, hown, hts⟩ (c_firstSharing l dC dI h0 c0 w0 kc kw k n fc fv cl su (pt_mk n) (a &&& pt_mk n) hk) (cwV 2 hts (pt_gV pw84 pw85 pw3 pw17 pw86) rfl rfl rfl (by decide +kernel) ⟨Nat.le_of_ble_eq_true rfl, Nat.le_of_ble_eq_true rfl⟩) ⟨fun a U g mk q => by obtain ⟨q0, qP, qK⟩ := q; exact ⟨q0, qP, va_K.moved (u := U) (U := U.calling g mk a) (Vm.Alike.refl U.vm) qK⟩, va_recv hK hP (ci := 0) (q0 := 0) rfl rfl, fun U hU hW => ⟨rfl, by rw [hU]; exact hP, va_K.moved hW.alike hK⟩⟩ rfl rfl hl.1 rfl (lv_room (Nat.le_of_ble_eq_true rfl)) dX0_next_13 ⟨Nat.zero_le _, Nat.zero_le _⟩) (fun r1 hw => ?_)
  refine lv_iconst (v := (-1)) hx hb dX0_next_16 (by decide) ?_
  refine lv_icmp_ne (tgt := 22) hx hb dX0_next_17 (by decide) (fun h1 => ?_) (fun h1 => absurd ((pt_F_none hk hw).mp h1) hmet)
  refine lv_iconst (v := 0) hx hb dX0_next_22 (by decide) ?_
  refine lv_istore (lv' := [(5, .int 0), (3, .long (a &&& (pt_mk n))), (0, .ref h0), (1, .long a)]) hx hb dX0_next_23 hl (by decide) rfl (fun ls hl => ?_)
  have loop : ∀ (d t : Nat) (ls : Array Slot), i - t = d → t ≤ i → lv_has ls 8 [(5, .int (nI t)), (3, .long (a &&& pt_mk n)), (0, .ref h0), (1, .long a)] → W p l e (headSpec wsX0_next ({ frames := 4, cells := 0, slots := 0, locals := 97 })).room s m args below meth c s.heap [] 0 0 Q (F0 m 25 ls []) := by
    intro d
    induction d with
    | zero =>
      intro t ls hd htk hl
      obtain rfl : t = i := by omega
      refine lv_iload hx hb dX0_next_25 (lv_at hl 0 rfl) ?_
      refine lv_aload_n hx hb dX0_next_27 rfl (lv_at hl 2 rfl) ?_
      refine va_get (D := (dC, dI)) (ci := 0) (v := .int (nI n)) (C := RX0) (T := TX0) (N := 7) hx hb hts (fun w h => List.mem_cons_of_mem _ (pt_wsX0 w h)) hown hK hP 0 rfl rfl 3 (by decide) (hts _ (List.mem_cons_of_mem _ pw35)) (fun _ h9 => h9) rfl dX0_next_28 ?_
      refine lv_icmp_ge (tgt := 92) hx hb dX0_next_31 (by decide) (fun h1 => absurd h1 (nI_ge hin (by omega))) (fun h1 => ?_)
      refine lv_lload_n hx hb dX0_next_34 rfl (lv_at hl 1 rfl) ?_
      refine lv_lconst (v := 1) hx hb dX0_next_35 (by decide) ?_
      refine lv_iload hx hb dX0_next_36 (lv_at hl 0 rfl) ?_
      refine lv_lshl (v := pt_shl 1 (nI t)) hx hb dX0_next_38 rfl ?_
      refine lv_lor hx hb dX0_next_39 ?_
      refine lv_aload_n hx hb dX0_next_40 rfl (lv_at hl 2 rfl) ?_
      refine lv_iload hx hb dX0_next_41 (lv_at hl 0 rfl) ?_
      refine vp_callSl (W.runV (As := [.int (nI t)]) (rest := [.long ((a &&& pt_mk n) ||| (pt_shl 1 (nI t)))]) ⟨hx, hb, hml, hown, hts⟩ (c_bitsFrom l dC dI h0 c0 w0 kc kw k n fc fv cl su t) (cwV 1 hts (pt_gV pw142 pw143 pw7 pw17 pw144) rfl rfl rfl (by decide +kernel) ⟨Nat.le_of_ble_eq_true rfl, Nat.le_of_ble_eq_true rfl⟩) ⟨fun a U g mk q => by obtain ⟨q0, qP, qK⟩ := q; exact ⟨q0, qP, va_K.moved (u := U) (U := U.calling g mk a) (Vm.Alike.refl U.vm) qK⟩, va_recv hK hP (ci := 0) (q0 := 0) rfl rfl, fun U hU hW => ⟨rfl, by rw [hU]; exact hP, va_K.moved hW.alike hK⟩⟩ rfl rfl hl.1 rfl (lv_room (Nat.le_of_ble_eq_true rfl)) dX0_next_43 ⟨Nat.zero_le _, Nat.zero_le _⟩) (fun r2 hw => ?_)
      subst hw
      refine lv_land hx hb dX0_next_46 ?_
      refine lv_lstore (lv' := [(6, .long (((a &&& pt_mk n) ||| (pt_shl 1 (nI t))) &&& (pt_up n t))), (5, .int (nI t)), (3, .long (a &&& pt_mk n)), (0, .ref h0), (1, .long a)]) hx hb dX0_next_47 hl (by decide) rfl (fun ls hl => ?_)
      refine lv_lload_n hx hb dX0_next_49 rfl (lv_at hl 2 rfl) ?_
      refine lv_iload hx hb dX0_next_50 (lv_at hl 1 rfl) ?_
      refine lv_lushr (v := pt_ushr (a &&& pt_mk n) (nI t)) hx hb dX0_next_52 rfl ?_
      refine lv_lconst (v := 1) hx hb dX0_next_53 (by decide) ?_
      refine lv_land hx hb dX0_next_54 ?_
      refine lv_lconst (v := 0) hx hb dX0_next_55 (by decide) ?_
      refine W.lcmp hx hb dX0_next_56 ?_
      refine lv_if_ne (tgt := 86) hx hb dX0_next_57 (by decide) (fun h2 => ?_) (fun h2 => ?_)
      · exact absurd (pt_cmp0.mpr hit.1) h2
      · refine lv_aload_n hx hb dX0_next_60 rfl (lv_at hl 3 rfl) ?_
        refine lv_aload_n hx hb dX0_next_61 rfl (lv_at hl 3 rfl) ?_
        refine lv_iload hx hb dX0_next_62 (lv_at hl 1 rfl) ?_
        refine vp_callSl (W.runV (As := [.int (nI t)]) (rest := [.ref h0]) ⟨hx, hb, hml, hown, hts⟩ (c_bitsFrom l dC dI h0 c0 w0 kc kw k n fc fv cl su t) (cwV 1 hts (pt_gV pw142 pw143 pw7 pw17 pw144) rfl rfl rfl (by decide +kernel) ⟨Nat.le_of_ble_eq_true rfl, Nat.le_of_ble_eq_true rfl⟩) ⟨fun a U g mk q => by obtain ⟨q0, qP, qK⟩ := q; exact ⟨q0, qP, va_K.moved (u := U) (U := U.calling g mk a) (Vm.Alike.refl U.vm) qK⟩, va_recv hK hP (ci := 0) (q0 := 0) rfl rfl, fun U hU hW => ⟨rfl, by rw [hU]; exact hP, va_K.moved hW.alike hK⟩⟩ rfl rfl hl.1 rfl (lv_room (Nat.le_of_ble_eq_true rfl)) dX0_next_64 ⟨Nat.zero_le _, Nat.zero_le _⟩) (fun r3 hw => ?_)
        subst hw
        refine lv_lload hx hb dX0_next_67 (lv_at hl 0 rfl) ?_
        refine vp_callSl (W.runV (As := [.long (pt_up n t), .long (((a &&& pt_mk n) ||| (pt_shl 1 (nI t))) &&& (pt_up n t))]) (rest := []) ⟨hx, hb, hml, hown, hts⟩ (c_freeWords l dC dI h0 c0 w0 kc kw k n fc fv cl su (pt_up n t) (pt_rs n (a &&& pt_mk n) t) hk) (cwV 2 hts (pt_gV pw123 pw124 pw5 pw17 pw125) rfl rfl rfl (by decide +kernel) ⟨Nat.le_of_ble_eq_true rfl, Nat.le_of_ble_eq_true rfl⟩) ⟨fun a U g mk q => by obtain ⟨q0, qP, qK⟩ := q; exact ⟨q0, qP, va_K.moved (u := U) (U := U.calling g mk a) (Vm.Alike.refl U.vm) qK⟩, va_recv hK hP (ci := 0) (q0 := 0) rfl rfl, fun U hU hW => ⟨rfl, by rw [hU]; exact hP, va_K.moved hW.alike hK⟩⟩ rfl rfl hl.1 rfl (lv_room (Nat.le_of_ble_eq_true rfl)) dX0_next_69 ⟨Nat.zero_le _, Nat.zero_le _⟩) (fun r4 hw => ?_)
        subst hw
        refine lv_lconst (v := 0) hx hb dX0_next_72 (by decide) ?_
        refine W.lcmp hx hb dX0_next_73 ?_
        refine lv_if_eq (tgt := 86) hx hb dX0_next_74 (by decide) (fun h3 => ?_) (fun h3 => ?_)
        · exact absurd (pt_cmp0.mp h3) hit.2
        · refine lv_aload_n hx hb dX0_next_77 rfl (lv_at hl 3 rfl) ?_
          refine lv_iload hx hb dX0_next_78 (lv_at hl 1 rfl) ?_
          refine lv_lload hx hb dX0_next_80 (lv_at hl 0 rfl) ?_
          refine vp_callSl (W.runV (As := [.int (nI t), .long (((a &&& pt_mk n) ||| (pt_shl 1 (nI t))) &&& (pt_up n t))]) (rest := []) ⟨hx, hb, hml, hown, hts⟩ (c_leastFree l dC dI h0 c0 w0 kc kw k n fc fv cl su t (pt_rs n (a &&& pt_mk n) t) hk (by omega)) (cwV 2 hts (pt_gV pw145 pw146 pw8 pw17 pw147) rfl rfl rfl (by decide +kernel) ⟨Nat.le_of_ble_eq_true rfl, Nat.le_of_ble_eq_true rfl⟩) ⟨fun a U g mk q => by obtain ⟨q0, qP, qK⟩ := q; exact ⟨q0, qP, va_K.moved (u := U) (U := U.calling g mk a) (Vm.Alike.refl U.vm) qK⟩, va_recv hK hP (ci := 0) (q0 := 0) rfl rfl, fun U hU hW => ⟨rfl, by rw [hU]; exact hP, va_K.moved hW.alike hK⟩⟩ rfl rfl hl.1 rfl (lv_room (Nat.le_of_ble_eq_true rfl)) dX0_next_82 ⟨Nat.zero_le _, Nat.zero_le _⟩) (fun r5 hw => ?_)
          rw [← hQ]
          exact W.lret (v := r5) hx hb hr (fun t ht hW => ⟨r5, rfl, hw, ht⟩) t_nil dX0_next_85
    | succ d ih =>
      intro t ls hd htk hl
      have hnone : ∀ j, j < i → ¬ pt_N k n fc fv (a &&& pt_mk n) j := hlow
      refine lv_iload hx hb dX0_next_25 (lv_at hl 0 rfl) ?_
      refine lv_aload_n hx hb dX0_next_27 rfl (lv_at hl 2 rfl) ?_
      refine va_get (D := (dC, dI)) (ci := 0) (v := .int (nI n)) (C := RX0) (T := TX0) (N := 7) hx hb hts (fun w h => List.mem_cons_of_mem _ (pt_wsX0 w h)) hown hK hP 0 rfl rfl 3 (by decide) (hts _ (List.mem_cons_of_mem _ pw35)) (fun _ h9 => h9) rfl dX0_next_28 ?_
      refine lv_icmp_ge (tgt := 92) hx hb dX0_next_31 (by decide) (fun h1 => absurd h1 (nI_ge (by omega) (by omega))) (fun h1 => ?_)
      refine lv_lload_n hx hb dX0_next_34 rfl (lv_at hl 1 rfl) ?_
      refine lv_lconst (v := 1) hx hb dX0_next_35 (by decide) ?_
      refine lv_iload hx hb dX0_next_36 (lv_at hl 0 rfl) ?_
      refine lv_lshl (v := pt_shl 1 (nI t)) hx hb dX0_next_38 rfl ?_
      refine lv_lor hx hb dX0_next_39 ?_
      refine lv_aload_n hx hb dX0_next_40 rfl (lv_at hl 2 rfl) ?_
      refine lv_iload hx hb dX0_next_41 (lv_at hl 0 rfl) ?_
      refine vp_callSl (W.runV (As := [.int (nI t)]) (rest := [.long ((a &&& pt_mk n) ||| (pt_shl 1 (nI t)))]) ⟨hx, hb, hml, hown, hts⟩ (c_bitsFrom l dC dI h0 c0 w0 kc kw k n fc fv cl su t) (cwV 1 hts (pt_gV pw142 pw143 pw7 pw17 pw144) rfl rfl rfl (by decide +kernel) ⟨Nat.le_of_ble_eq_true rfl, Nat.le_of_ble_eq_true rfl⟩) ⟨fun a U g mk q => by obtain ⟨q0, qP, qK⟩ := q; exact ⟨q0, qP, va_K.moved (u := U) (U := U.calling g mk a) (Vm.Alike.refl U.vm) qK⟩, va_recv hK hP (ci := 0) (q0 := 0) rfl rfl, fun U hU hW => ⟨rfl, by rw [hU]; exact hP, va_K.moved hW.alike hK⟩⟩ rfl rfl hl.1 rfl (lv_room (Nat.le_of_ble_eq_true rfl)) dX0_next_43 ⟨Nat.zero_le _, Nat.zero_le _⟩) (fun r6 hw => ?_)
      subst hw
      refine lv_land hx hb dX0_next_46 ?_
      refine lv_lstore (lv' := [(6, .long (((a &&& pt_mk n) ||| (pt_shl 1 (nI t))) &&& (pt_up n t))), (5, .int (nI t)), (3, .long (a &&& pt_mk n)), (0, .ref h0), (1, .long a)]) hx hb dX0_next_47 hl (by decide) rfl (fun ls hl => ?_)
      refine lv_lload_n hx hb dX0_next_49 rfl (lv_at hl 2 rfl) ?_
      refine lv_iload hx hb dX0_next_50 (lv_at hl 1 rfl) ?_
      refine lv_lushr (v := pt_ushr (a &&& pt_mk n) (nI t)) hx hb dX0_next_52 rfl ?_
      refine lv_lconst (v := 1) hx hb dX0_next_53 (by decide) ?_
      refine lv_land hx hb dX0_next_54 ?_
      refine lv_lconst (v := 0) hx hb dX0_next_55 (by decide) ?_
      refine W.lcmp hx hb dX0_next_56 ?_
      refine lv_if_ne (tgt := 86) hx hb dX0_next_57 (by decide) (fun h2 => ?_) (fun h2 => ?_)
      · refine lv_iinc (v := nI (t + 1)) (lv' := [(5, .int (nI (t + 1))), (6, .long (((a &&& pt_mk n) ||| (pt_shl 1 (nI t))) &&& (pt_up n t))), (3, .long (a &&& pt_mk n)), (0, .ref h0), (1, .long a)]) hx hb dX0_next_86 hl (k := 1) rfl (by rw [nI_succ]; rfl) (by decide) rfl (fun ls hl => ?_)
        refine lv_goto (tgt := 25) hx hb dX0_next_89 (by decide) ?_
        exact ih (t + 1) ls (by omega) (by omega) (lv_sub hl [0, 2, 3, 4] rfl)
      · refine lv_aload_n hx hb dX0_next_60 rfl (lv_at hl 3 rfl) ?_
        refine lv_aload_n hx hb dX0_next_61 rfl (lv_at hl 3 rfl) ?_
        refine lv_iload hx hb dX0_next_62 (lv_at hl 1 rfl) ?_
        refine vp_callSl (W.runV (As := [.int (nI t)]) (rest := [.ref h0]) ⟨hx, hb, hml, hown, hts⟩ (c_bitsFrom l dC dI h0 c0 w0 kc kw k n fc fv cl su t) (cwV 1 hts (pt_gV pw142 pw143 pw7 pw17 pw144) rfl rfl rfl (by decide +kernel) ⟨Nat.le_of_ble_eq_true rfl, Nat.le_of_ble_eq_true rfl⟩) ⟨fun a U g mk q => by obtain ⟨q0, qP, qK⟩ := q; exact ⟨q0, qP, va_K.moved (u := U) (U := U.calling g mk a) (Vm.Alike.refl U.vm) qK⟩, va_recv hK hP (ci := 0) (q0 := 0) rfl rfl, fun U hU hW => ⟨rfl, by rw [hU]; exact hP, va_K.moved hW.alike hK⟩⟩ rfl rfl hl.1 rfl (lv_room (Nat.le_of_ble_eq_true rfl)) dX0_next_64 ⟨Nat.zero_le _, Nat.zero_le _⟩) (fun r7 hw => ?_)
        subst hw
        refine lv_lload hx hb dX0_next_67 (lv_at hl 0 rfl) ?_
        refine vp_callSl (W.runV (As := [.long (pt_up n t), .long (((a &&& pt_mk n) ||| (pt_shl 1 (nI t))) &&& (pt_up n t))]) (rest := []) ⟨hx, hb, hml, hown, hts⟩ (c_freeWords l dC dI h0 c0 w0 kc kw k n fc fv cl su (pt_up n t) (pt_rs n (a &&& pt_mk n) t) hk) (cwV 2 hts (pt_gV pw123 pw124 pw5 pw17 pw125) rfl rfl rfl (by decide +kernel) ⟨Nat.le_of_ble_eq_true rfl, Nat.le_of_ble_eq_true rfl⟩) ⟨fun a U g mk q => by obtain ⟨q0, qP, qK⟩ := q; exact ⟨q0, qP, va_K.moved (u := U) (U := U.calling g mk a) (Vm.Alike.refl U.vm) qK⟩, va_recv hK hP (ci := 0) (q0 := 0) rfl rfl, fun U hU hW => ⟨rfl, by rw [hU]; exact hP, va_K.moved hW.alike hK⟩⟩ rfl rfl hl.1 rfl (lv_room (Nat.le_of_ble_eq_true rfl)) dX0_next_69 ⟨Nat.zero_le _, Nat.zero_le _⟩) (fun r8 hw => ?_)
        subst hw
        refine lv_lconst (v := 0) hx hb dX0_next_72 (by decide) ?_
        refine W.lcmp hx hb dX0_next_73 ?_
        refine lv_if_eq (tgt := 86) hx hb dX0_next_74 (by decide) (fun h3 => ?_) (fun h3 => ?_)
        · refine lv_iinc (v := nI (t + 1)) (lv' := [(5, .int (nI (t + 1))), (6, .long (((a &&& pt_mk n) ||| (pt_shl 1 (nI t))) &&& (pt_up n t))), (3, .long (a &&& pt_mk n)), (0, .ref h0), (1, .long a)]) hx hb dX0_next_86 hl (k := 1) rfl (by rw [nI_succ]; rfl) (by decide) rfl (fun ls hl => ?_)
          refine lv_goto (tgt := 25) hx hb dX0_next_89 (by decide) ?_
          exact ih (t + 1) ls (by omega) (by omega) (lv_sub hl [0, 2, 3, 4] rfl)
        · exact absurd ⟨pt_cmp0.mp h2, fun z => h3 (pt_cmp0.mpr z)⟩ (hnone t (by omega))
  exact loop i 0 ls (by omega) (by omega) (lv_sub hl [0, 1, 2, 3] rfl)
set_option maxHeartbeats 4000000 in
set_option maxRecDepth 100000 in
/-- next(word): not there -/
theorem t_next (l : Launch) (hl9 : l.stackTraces = false) (dC : Nat → ClassId) (dI : Nat → Nat → Nat) (s0 : State) (h0X : pt_X s0) (h0 c0 w0 : Nat) (kc kw : ClassId) (k n : Nat) (fc fv : Nat → Int64) (cl su : Int32) (a : Int64) (sz : Nat) (hk : k ≤ 512) (hn2 : n ≤ 64) (hmet : ¬ ∀ j, j < k → ¬ pt_sh (fc j) (fv j) (pt_mk n) (a &&& pt_mk n)) (hnone : ∀ j, j < n → ¬ pt_N k n fc fv (a &&& pt_mk n) j) : pt_Thr l yX0_next wsX0_next ({ frames := 6, cells := 1, slots := 6, locals := 82 }) (va_Pc [.ref h0, .long a] (fun U => U.heap.size = sz ∧ va_P (dC, dI) vwCl [(h0, .inr (0, [.ref c0, .ref w0, .int (nI k), .int (nI n), .long (pt_mk n), .int cl, .int su])), (c0, .inl (kc, 512, .inr (.inl fc))), (w0, .inl (kw, 512, .inr (.inl fv)))] U.heap ∧ va_K (dC, dI) vwCl [(kc, .long), (kw, .long)] U ∧ va_D (fun q => s0.heap.size ≤ q) [(h0, .inr (0, [.ref c0, .ref w0, .int (nI k), .int (nI n), .long (pt_mk n), .int cl, .int su])), (c0, .inl (kc, 512, .inr (.inl fc))), (w0, .inl (kw, 512, .inr (.inl fv)))] ∧ pt_ext s0 U)) "java/util/NoSuchElementException" (fun st t => va_P (dC, dI) vwCl [(h0, .inr (0, [.ref c0, .ref w0, .int (nI k), .int (nI n), .long (pt_mk n), .int cl, .int su])), (c0, .inl (kc, 512, .inr (.inl fc))), (w0, .inl (kw, 512, .inr (.inl fv)))] t.heap ∧ va_K (dC, dI) vwCl [(kc, .long), (kw, .long)] t ∧ va_D (va_A [(h0, .inr (0, [.ref c0, .ref w0, .int (nI k), .int (nI n), .long (pt_mk n), .int cl, .int su])), (c0, .inl (kc, 512, .inr (.inl fc))), (w0, .inl (kw, 512, .inr (.inl fv)))] sz) [(h0, .inr (0, [.ref c0, .ref w0, .int (nI k), .int (nI n), .long (pt_mk n), .int cl, .int su])), (c0, .inl (kc, 512, .inr (.inl fc))), (w0, .inl (kw, 512, .inr (.inl fv)))] ∧ va_F (va_A [(h0, .inr (0, [.ref c0, .ref w0, .int (nI k), .int (nI n), .long (pt_mk n), .int cl, .int su])), (c0, .inl (kc, 512, .inr (.inl fc))), (w0, .inl (kw, 512, .inr (.inl fv)))] sz) st t) 1 6 (va_A [(h0, .inr (0, [.ref c0, .ref w0, .int (nI k), .int (nI n), .long (pt_mk n), .int cl, .int su])), (c0, .inl (kc, 512, .inr (.inl fc))), (w0, .inl (kw, 512, .inr (.inl fv)))] sz) := by
  refine pt_Thr_ofW (cc := cX0_next) (maxL := 8) (ret := (some .long)) (by decide) rfl ?_
  intro p e s m args below meth c s₁ B hml hnoh hv
  obtain ⟨ha, hsz, hP, hK, hD0, hext⟩ := hv
  subst hsz
  have hx := B.exec
  have hb := B.bytes
  have hr := B.returns
  have hts := atoms_spec (ws := wsX0_next) B.pre
  have hown : s.vm.findClass RX0 = some m.cls := findClass_of_methodNamed B.named
  have hlocks := B.notSynchronized
  have hl := lv_entry ([.ref h0, .long a]) (n := 8) (Nat.le_of_ble_eq_true rfl)
  refine W.eq (show entryFrame m args 8 = entryFrame m ([.ref h0, .long a] : List Value).toArray 8 by rw [ha]) ?_
  rw [lg_entry_eq]
  generalize (lg_sl ([.ref h0, .long a]) ++ List.replicate (8 - (lg_sl ([.ref h0, .long a])).length) Slot.unset).toArray = ls at hl ⊢
  have hl : lv_has ls 8 [(0, .ref h0), (1, .long a)] := hl
  have hD := hD0.self (sz := s.heap.size)
  have hAs : ∀ q : Nat, va_A [(h0, .inr (0, [.ref c0, .ref w0, .int (nI k), .int (nI n), .long (pt_mk n), .int cl, .int su])), (c0, .inl (kc, 512, .inr (.inl fc))), (w0, .inl (kw, 512, .inr (.inl fv)))] s.heap.size q → s0.heap.size ≤ q := pt_As hD0 hext.2.1
  generalize hAe : va_A [(h0, .inr (0, [.ref c0, .ref w0, .int (nI k), .int (nI n), .long (pt_mk n), .int cl, .int su])), (c0, .inl (kc, 512, .inr (.inl fc))), (w0, .inl (kw, 512, .inr (.inl fv)))] s.heap.size = A at hD hAs ⊢
  have hA : ∀ q : Nat, s.heap.size ≤ q → A q := fun q h => by rw [← hAe]; exact Or.inr h
  have hS : va_S A s.heap s.heap [] := va_S.rf
  have hP : va_P (dC, dI) vwCl [(h0, .inr (0, [.ref c0, .ref w0, .int (nI k), .int (nI n), .long (pt_mk n), .int cl, .int su])), (c0, .inl (kc, 512, .inr (.inl fc))), (w0, .inl (kw, 512, .inr (.inl fv)))] s.heap := hP
  generalize hQ : pt_TQ below "java/util/NoSuchElementException" (fun st t => va_P (dC, dI) vwCl [(h0, .inr (0, [.ref c0, .ref w0, .int (nI k), .int (nI n), .long (pt_mk n), .int cl, .int su])), (c0, .inl (kc, 512, .inr (.inl fc))), (w0, .inl (kw, 512, .inr (.inl fv)))] t.heap ∧ va_K (dC, dI) vwCl [(kc, .long), (kw, .long)] t ∧ va_D A [(h0, .inr (0, [.ref c0, .ref w0, .int (nI k), .int (nI n), .long (pt_mk n), .int cl, .int su])), (c0, .inl (kc, 512, .inr (.inl fc))), (w0, .inl (kw, 512, .inr (.inl fv)))] ∧ va_F A st t) s 1 6 A = Q
  refine lv_lload_n hx hb dX0_next_0 rfl (lv_at hl 1 rfl) ?_
  refine lv_aload_n hx hb dX0_next_1 rfl (lv_at hl 0 rfl) ?_
  refine va_get (D := (dC, dI)) (ci := 0) (v := .long (pt_mk n)) (C := RX0) (T := TX0) (N := 7) hx hb hts (fun w h => List.mem_cons_of_mem _ (pt_wsX0 w h)) hown hK hP 0 rfl rfl 4 (by decide) (hts _ (List.mem_cons_of_mem _ pw36)) (fun _ h9 => h9) rfl dX0_next_2 ?_
  refine lv_land hx hb dX0_next_5 ?_
  refine lv_lstore_n (lv' := [(3, .long (a &&& (pt_mk n))), (0, .ref h0), (1, .long a)]) hx hb dX0_next_6 rfl hl (by decide) rfl (fun ls hl => ?_)
  refine lv_aload_n hx hb dX0_next_7 rfl (lv_at hl 1 rfl) ?_
  refine lv_aload_n hx hb dX0_next_8 rfl (lv_at hl 1 rfl) ?_
  refine va_get (D := (dC, dI)) (ci := 0) (v := .long (pt_mk n)) (C := RX0) (T := TX0) (N := 7) hx hb hts (fun w h => List.mem_cons_of_mem _ (pt_wsX0 w h)) hown hK hP 0 rfl rfl 4 (by decide) (hts _ (List.mem_cons_of_mem _ pw36)) (fun _ h9 => h9) rfl dX0_next_9 ?_
  refine lv_lload_n hx hb dX0_next_12 rfl (lv_at hl 0 rfl) ?_
  refine vp_callSi (W.runV (As := [.long (pt_mk n), .long (a &&& (pt_mk n))]) (rest := []) ⟨hx, hb, hml, hown, hts⟩ (c_firstSharing l dC dI h0 c0 w0 kc kw k n fc fv cl su (pt_mk n) (a &&& pt_mk n) hk) (cwV 2 hts (pt_gV pw84 pw85 pw3 pw17 pw86) rfl rfl rfl (by decide +kernel) ⟨Nat.le_of_ble_eq_true rfl, Nat.le_of_ble_eq_true rfl⟩) ⟨fun a U g mk q => by obtain ⟨q0, qP, qK⟩ := q; exact ⟨q0, qP, va_K.moved (u := U) (U := U.calling g mk a) (Vm.Alike.refl U.vm) qK⟩, va_recv hK hP (ci := 0) (q0 := 0) rfl rfl, fun U hU hW => ⟨rfl, by rw [hU]; exact hP, va_K.moved hW.alike hK⟩⟩ rfl rfl hl.1 rfl (lv_room (Nat.le_of_ble_eq_true rfl)) dX0_next_13 ⟨Nat.zero_le _, Nat.zero_le _⟩) (fun r1 hw => ?_)
  refine lv_iconst (v := (-1)) hx hb dX0_next_16 (by decide) ?_
  refine lv_icmp_ne (tgt := 22) hx hb dX0_next_17 (by decide) (fun h1 => ?_) (fun h1 => absurd ((pt_F_none hk hw).mp h1) hmet)
  refine lv_iconst (v := 0) hx hb dX0_next_22 (by decide) ?_
  refine lv_istore (lv' := [(5, .int 0), (3, .long (a &&& (pt_mk n))), (0, .ref h0), (1, .long a)]) hx hb dX0_next_23 hl (by decide) rfl (fun ls hl => ?_)
  have loop : ∀ (d t : Nat) (ls : Array Slot), n - t = d → t ≤ n → lv_has ls 8 [(5, .int (nI t)), (3, .long (a &&& pt_mk n)), (0, .ref h0), (1, .long a)] → W p l e (headSpec wsX0_next ({ frames := 6, cells := 1, slots := 6, locals := 82 })).room s m args below meth c s.heap [] 0 0 Q (F0 m 25 ls []) := by
    intro d
    induction d with
    | zero =>
      intro t ls hd htk hl
      obtain rfl : t = n := by omega
      refine lv_iload hx hb dX0_next_25 (lv_at hl 0 rfl) ?_
      refine lv_aload_n hx hb dX0_next_27 rfl (lv_at hl 2 rfl) ?_
      refine va_get (D := (dC, dI)) (ci := 0) (v := .int (nI t)) (C := RX0) (T := TX0) (N := 7) hx hb hts (fun w h => List.mem_cons_of_mem _ (pt_wsX0 w h)) hown hK hP 0 rfl rfl 3 (by decide) (hts _ (List.mem_cons_of_mem _ pw35)) (fun _ h9 => h9) rfl dX0_next_28 ?_
      refine lv_icmp_ge (tgt := 92) hx hb dX0_next_31 (by decide) (fun h1 => ?_) (fun h1 => absurd (nI_le (by omega) (by omega)) h1)
      obtain ⟨sa, hstr⟩ := h0X.2.1 82 "no free word from this one on" (by decide)
      rw [← hQ]
      exact pt_throwN (Yc := "java/lang/RuntimeException") (b1 := prog_11_method_4_code) (ix := 13) (own := RX0) (cls := "java/util/NoSuchElementException") (text := "no free word from this one on") (names := ["java/lang/Exception"]) (ik := 80) (is := 82) (ic := 84) (sa := sa) hx hb hl9 hown (by decide) (by decide) pt_n0 pt_n1 pt_n2 pt_n5 (by decide) (fun U hU hV w hw => pt_X_at h0X (hext.on hS hAs hU hV) w (pt_xw_in_nse w hw) _) (vk_R.warm hext.1 hstr) (hl.1.trans hml.symm) dX0_next_92 dX0_next_95 dX0_next_96 dX0_next_98 dX0_next_101 hnoh (by decide) (by decide) (by decide) (by decide) hlocks (fun t hW hz hk => ⟨hP.kept (fun k q hq => hk _ ((hP k q hq).lt)), va_K.moved hW.alike hK, hD, pt_S_thrown hS hz hk⟩) hS.2.2 (by decide) (by decide)
    | succ d ih =>
      intro t ls hd htk hl
      refine lv_iload hx hb dX0_next_25 (lv_at hl 0 rfl) ?_
      refine lv_aload_n hx hb dX0_next_27 rfl (lv_at hl 2 rfl) ?_
      refine va_get (D := (dC, dI)) (ci := 0) (v := .int (nI n)) (C := RX0) (T := TX0) (N := 7) hx hb hts (fun w h => List.mem_cons_of_mem _ (pt_wsX0 w h)) hown hK hP 0 rfl rfl 3 (by decide) (hts _ (List.mem_cons_of_mem _ pw35)) (fun _ h9 => h9) rfl dX0_next_28 ?_
      refine lv_icmp_ge (tgt := 92) hx hb dX0_next_31 (by decide) (fun h1 => absurd h1 (nI_ge (by omega) (by omega))) (fun h1 => ?_)
      refine lv_lload_n hx hb dX0_next_34 rfl (lv_at hl 1 rfl) ?_
      refine lv_lconst (v := 1) hx hb dX0_next_35 (by decide) ?_
      refine lv_iload hx hb dX0_next_36 (lv_at hl 0 rfl) ?_
      refine lv_lshl (v := pt_shl 1 (nI t)) hx hb dX0_next_38 rfl ?_
      refine lv_lor hx hb dX0_next_39 ?_
      refine lv_aload_n hx hb dX0_next_40 rfl (lv_at hl 2 rfl) ?_
      refine lv_iload hx hb dX0_next_41 (lv_at hl 0 rfl) ?_
      refine vp_callSl (W.runV (As := [.int (nI t)]) (rest := [.long ((a &&& pt_mk n) ||| (pt_shl 1 (nI t)))]) ⟨hx, hb, hml, hown, hts⟩ (c_bitsFrom l dC dI h0 c0 w0 kc kw k n fc fv cl su t) (cwV 1 hts (pt_gV pw142 pw143 pw7 pw17 pw144) rfl rfl rfl (by decide +kernel) ⟨Nat.le_of_ble_eq_true rfl, Nat.le_of_ble_eq_true rfl⟩) ⟨fun a U g mk q => by obtain ⟨q0, qP, qK⟩ := q; exact ⟨q0, qP, va_K.moved (u := U) (U := U.calling g mk a) (Vm.Alike.refl U.vm) qK⟩, va_recv hK hP (ci := 0) (q0 := 0) rfl rfl, fun U hU hW => ⟨rfl, by rw [hU]; exact hP, va_K.moved hW.alike hK⟩⟩ rfl rfl hl.1 rfl (lv_room (Nat.le_of_ble_eq_true rfl)) dX0_next_43 ⟨Nat.zero_le _, Nat.zero_le _⟩) (fun r2 hw => ?_)
      subst hw
      refine lv_land hx hb dX0_next_46 ?_
      refine lv_lstore (lv' := [(6, .long (((a &&& pt_mk n) ||| (pt_shl 1 (nI t))) &&& (pt_up n t))), (5, .int (nI t)), (3, .long (a &&& pt_mk n)), (0, .ref h0), (1, .long a)]) hx hb dX0_next_47 hl (by decide) rfl (fun ls hl => ?_)
      refine lv_lload_n hx hb dX0_next_49 rfl (lv_at hl 2 rfl) ?_
      refine lv_iload hx hb dX0_next_50 (lv_at hl 1 rfl) ?_
      refine lv_lushr (v := pt_ushr (a &&& pt_mk n) (nI t)) hx hb dX0_next_52 rfl ?_
      refine lv_lconst (v := 1) hx hb dX0_next_53 (by decide) ?_
      refine lv_land hx hb dX0_next_54 ?_
      refine lv_lconst (v := 0) hx hb dX0_next_55 (by decide) ?_
      refine W.lcmp hx hb dX0_next_56 ?_
      refine lv_if_ne (tgt := 86) hx hb dX0_next_57 (by decide) (fun h2 => ?_) (fun h2 => ?_)
      · refine lv_iinc (v := nI (t + 1)) (lv' := [(5, .int (nI (t + 1))), (6, .long (((a &&& pt_mk n) ||| (pt_shl 1 (nI t))) &&& (pt_up n t))), (3, .long (a &&& pt_mk n)), (0, .ref h0), (1, .long a)]) hx hb dX0_next_86 hl (k := 1) rfl (by rw [nI_succ]; rfl) (by decide) rfl (fun ls hl => ?_)
        refine lv_goto (tgt := 25) hx hb dX0_next_89 (by decide) ?_
        exact ih (t + 1) ls (by omega) (by omega) (lv_sub hl [0, 2, 3, 4] rfl)
      · refine lv_aload_n hx hb dX0_next_60 rfl (lv_at hl 3 rfl) ?_
        refine lv_aload_n hx hb dX0_next_61 rfl (lv_at hl 3 rfl) ?_
        refine lv_iload hx hb dX0_next_62 (lv_at hl 1 rfl) ?_
        refine vp_callSl (W.runV (As := [.int (nI t)]) (rest := [.ref h0]) ⟨hx, hb, hml, hown, hts⟩ (c_bitsFrom l dC dI h0 c0 w0 kc kw k n fc fv cl su t) (cwV 1 hts (pt_gV pw142 pw143 pw7 pw17 pw144) rfl rfl rfl (by decide +kernel) ⟨Nat.le_of_ble_eq_true rfl, Nat.le_of_ble_eq_true rfl⟩) ⟨fun a U g mk q => by obtain ⟨q0, qP, qK⟩ := q; exact ⟨q0, qP, va_K.moved (u := U) (U := U.calling g mk a) (Vm.Alike.refl U.vm) qK⟩, va_recv hK hP (ci := 0) (q0 := 0) rfl rfl, fun U hU hW => ⟨rfl, by rw [hU]; exact hP, va_K.moved hW.alike hK⟩⟩ rfl rfl hl.1 rfl (lv_room (Nat.le_of_ble_eq_true rfl)) dX0_next_64 ⟨Nat.zero_le _, Nat.zero_le _⟩) (fun r3 hw => ?_)
        subst hw
        refine lv_lload hx hb dX0_next_67 (lv_at hl 0 rfl) ?_
        refine vp_callSl (W.runV (As := [.long (pt_up n t), .long (((a &&& pt_mk n) ||| (pt_shl 1 (nI t))) &&& (pt_up n t))]) (rest := []) ⟨hx, hb, hml, hown, hts⟩ (c_freeWords l dC dI h0 c0 w0 kc kw k n fc fv cl su (pt_up n t) (pt_rs n (a &&& pt_mk n) t) hk) (cwV 2 hts (pt_gV pw123 pw124 pw5 pw17 pw125) rfl rfl rfl (by decide +kernel) ⟨Nat.le_of_ble_eq_true rfl, Nat.le_of_ble_eq_true rfl⟩) ⟨fun a U g mk q => by obtain ⟨q0, qP, qK⟩ := q; exact ⟨q0, qP, va_K.moved (u := U) (U := U.calling g mk a) (Vm.Alike.refl U.vm) qK⟩, va_recv hK hP (ci := 0) (q0 := 0) rfl rfl, fun U hU hW => ⟨rfl, by rw [hU]; exact hP, va_K.moved hW.alike hK⟩⟩ rfl rfl hl.1 rfl (lv_room (Nat.le_of_ble_eq_true rfl)) dX0_next_69 ⟨Nat.zero_le _, Nat.zero_le _⟩) (fun r4 hw => ?_)
        subst hw
        refine lv_lconst (v := 0) hx hb dX0_next_72 (by decide) ?_
        refine W.lcmp hx hb dX0_next_73 ?_
        refine lv_if_eq (tgt := 86) hx hb dX0_next_74 (by decide) (fun h3 => ?_) (fun h3 => ?_)
        · refine lv_iinc (v := nI (t + 1)) (lv' := [(5, .int (nI (t + 1))), (6, .long (((a &&& pt_mk n) ||| (pt_shl 1 (nI t))) &&& (pt_up n t))), (3, .long (a &&& pt_mk n)), (0, .ref h0), (1, .long a)]) hx hb dX0_next_86 hl (k := 1) rfl (by rw [nI_succ]; rfl) (by decide) rfl (fun ls hl => ?_)
          refine lv_goto (tgt := 25) hx hb dX0_next_89 (by decide) ?_
          exact ih (t + 1) ls (by omega) (by omega) (lv_sub hl [0, 2, 3, 4] rfl)
        · exact absurd ⟨pt_cmp0.mp h2, fun z => h3 (pt_cmp0.mpr z)⟩ (hnone t (by omega))
  exact loop n 0 ls (by omega) (by omega) (lv_sub hl [0, 1, 2, 3] rfl)
set_option maxHeartbeats 4000000 in
set_option maxRecDepth 100000 in
/-- told(i, what) -/
theorem c_told (l : Launch) (dC : Nat → ClassId) (dI : Nat → Nat → Nat) (h0 c0 w0 : Nat) (kc kw : ClassId) (k n : Nat) (fc fv : Nat → Int64) (cl su : Int32) (i : Nat) (x : Int32) (hw1 : ¬ x < 0) (hw2 : x ≤ 2) (hi : i < k) (hk : k ≤ 512) : Met l yX0_told wsX0_told ({ frames := 1, cells := 0, slots := 0, locals := 21 }) (va_Pc [.ref h0, .int (nI i), .int x] (fun U => va_P (dC, dI) vwCl [(h0, .inr (0, [.ref c0, .ref w0, .int (nI k), .int (nI n), .long (pt_mk n), .int cl, .int su])), (c0, .inl (kc, 512, .inr (.inl fc))), (w0, .inl (kw, 512, .inr (.inl fv)))] U.heap ∧ va_K (dC, dI) vwCl [(kc, .long), (kw, .long)] U)) (vp_Sl (fun r : Int64 => r = (if x = 0 then fc i else if x = 1 then fv i else (nI n - pt_bits (fc i)).toInt64))) 0 0 (fun _ => False) := by
  refine Met.ofW (cc := cX0_told) (maxL := 3) (ret := (some .long)) (by decide) rfl ?_
  intro p e s m args below meth c s₁ B hml hv
  obtain ⟨ha, hP, hK⟩ := hv
  have hx := B.exec
  have hb := B.bytes
  have hr := B.returns
  have hts := atoms_spec (ws := wsX0_told) B.pre
  have hown : s.vm.findClass RX0 = some m.cls := findClass_of_methodNamed B.named
  have hlocks := B.notSynchronized
  have hl := lv_entry ([.ref h0, .int (nI i), .int x]) (n := 3) (Nat.le_of_ble_eq_true rfl)
  refine W.eq (show entryFrame m args 3 = entryFrame m ([.ref h0, .int (nI i), .int x] : List Value).toArray 3 by rw [ha]) ?_
  rw [lg_entry_eq]
  generalize (lg_sl ([.ref h0, .int (nI i), .int x]) ++ List.replicate (3 - (lg_sl ([.ref h0, .int (nI i), .int x])).length) Slot.unset).toArray = ls at hl ⊢
  have hl : lv_has ls 3 [(0, .ref h0), (1, .int (nI i)), (2, .int x)] := hl
  generalize hQ : MQ below (vp_Sl (fun r : Int64 => r = (if x = 0 then fc i else if x = 1 then fv i else (nI n - pt_bits (fc i)).toInt64))) args s 0 0 (fun _ => False) = Q
  refine lv_iload_n hx hb dX0_told_0 rfl (lv_at hl 2 rfl) ?_
  refine lv_if_lt (tgt := 9) hx hb dX0_told_1 (by decide) (fun h1 => absurd h1 hw1) (fun h1 => ?_)
  refine lv_iload_n hx hb dX0_told_4 rfl (lv_at hl 2 rfl) ?_
  refine lv_iconst (v := 2) hx hb dX0_told_5 (by decide) ?_
  refine lv_icmp_le (tgt := 19) hx hb dX0_told_6 (by decide) (fun h2 => ?_) (fun h2 => absurd hw2 h2)
  refine lv_aload_n hx hb dX0_told_19 rfl (lv_at hl 0 rfl) ?_
  refine lv_iload_n hx hb dX0_told_20 rfl (lv_at hl 1 rfl) ?_
  refine va_csv (W.runV (As := [.int (nI i)]) (rest := []) ⟨hx, hb, hml, hown, hts⟩ (c_refuseAbsent l dC dI h0 c0 w0 kc kw k n fc fv cl su i hi hk) (cwV 1 hts (pt_gV pw104 pw105 pw4 pw17 pw106) rfl rfl rfl (by decide +kernel) ⟨Nat.le_of_ble_eq_true rfl, Nat.le_of_ble_eq_true rfl⟩) ⟨fun a U g mk q => by obtain ⟨q0, qP, qK⟩ := q; exact ⟨q0, qP, va_K.moved (u := U) (U := U.calling g mk a) (Vm.Alike.refl U.vm) qK⟩, va_recv hK hP (ci := 0) (q0 := 0) rfl rfl, fun U hU hW => ⟨rfl, by rw [hU]; exact hP, va_K.moved hW.alike hK⟩⟩ rfl rfl hl.1 rfl (lv_room (Nat.le_of_ble_eq_true rfl)) dX0_told_21 ⟨Nat.zero_le _, Nat.zero_le _⟩) (fun hw => ?_)
  refine lv_iload_n hx hb dX0_told_24 rfl (lv_at hl 2 rfl) ?_
  refine lv_if_ne (tgt := 35) hx hb dX0_told_25 (by decide) (fun h3 => ?_) (fun h3 => ?_)
  · refine lv_iload_n hx hb dX0_told_35 rfl (lv_at hl 2 rfl) ?_
    refine lv_iconst (v := 1) hx hb dX0_told_36 (by decide) ?_
    refine lv_icmp_ne (tgt := 47) hx hb dX0_told_37 (by decide) (fun h4 => ?_) (fun h4 => ?_)
    · refine lv_aload_n hx hb dX0_told_47 rfl (lv_at hl 0 rfl) ?_
      refine va_get (D := (dC, dI)) (ci := 0) (v := .int (nI n)) (C := RX0) (T := TX0) (N := 7) hx hb hts (fun w h => List.mem_cons_of_mem _ (pt_wsX0 w h)) hown hK hP 0 rfl rfl 3 (by decide) (hts _ (List.mem_cons_of_mem _ pw35)) (fun _ h9 => h9) rfl dX0_told_48 ?_
      refine lv_aload_n hx hb dX0_told_51 rfl (lv_at hl 0 rfl) ?_
      refine va_get (D := (dC, dI)) (ci := 0) (v := .ref c0) (C := RX0) (T := TX0) (N := 7) hx hb hts (fun w h => List.mem_cons_of_mem _ (pt_wsX0 w h)) hown hK hP 0 rfl rfl 0 (by decide) (hts _ (List.mem_cons_of_mem _ pw32)) (fun _ h9 => h9) rfl dX0_told_52 ?_
      refine lv_iload_n hx hb dX0_told_55 rfl (lv_at hl 1 rfl) ?_
      refine va_lald hx hb hK hP 1 0 rfl rfl (vp_in_nI (by omega) (by decide)) dX0_told_56 ?_
      rw [nI_clamp (by omega)]
      refine vp_callSi (W.runS (As := [.long (fc i)]) (rest := [.int (nI n)]) ⟨hx, hb, hml, hown, hts⟩ (c_bitCount l dC dI (fc i)) (va_cwS 1 hts (pt_gS pw129 pw130 pw19 pw131) rfl rfl rfl (by decide +kernel) ⟨Nat.le_of_ble_eq_true rfl, Nat.le_of_ble_eq_true rfl⟩) ⟨fun a U g mk q => by obtain ⟨q0, qP, qK⟩ := q; exact ⟨q0, qP, va_K.moved (u := U) (U := U.calling g mk a) (Vm.Alike.refl U.vm) qK⟩, fun U hU hW => ⟨rfl, by rw [hU]; exact (hP.sub (ws' := ([] : va_W)) [] rfl), va_K.moved hW.alike (hK.sub (tys' := []) [] rfl)⟩⟩ rfl rfl hl.1 rfl (lv_room (Nat.le_of_ble_eq_true rfl)) dX0_told_57 ⟨Nat.zero_le _, Nat.zero_le _⟩) (fun r2 hw => ?_)
      subst hw
      refine lv_isub hx hb dX0_told_60 ?_
      refine lv_i2l (v := ((nI n) - (pt_bits (fc i))).toInt64) hx hb dX0_told_61 rfl ?_
      rw [← hQ]
      exact W.lret (v := ((nI n) - (pt_bits (fc i))).toInt64) hx hb hr (fun t ht hW => ⟨((nI n) - (pt_bits (fc i))).toInt64, rfl, by rw [if_neg h3, if_neg h4], ht⟩) t_nil dX0_told_62
    · refine lv_aload_n hx hb dX0_told_40 rfl (lv_at hl 0 rfl) ?_
      refine va_get (D := (dC, dI)) (ci := 0) (v := .ref w0) (C := RX0) (T := TX0) (N := 7) hx hb hts (fun w h => List.mem_cons_of_mem _ (pt_wsX0 w h)) hown hK hP 0 rfl rfl 1 (by decide) (hts _ (List.mem_cons_of_mem _ pw33)) (fun _ h9 => h9) rfl dX0_told_41 ?_
      refine lv_iload_n hx hb dX0_told_44 rfl (lv_at hl 1 rfl) ?_
      refine va_lald hx hb hK hP 2 1 rfl rfl (vp_in_nI (by omega) (by decide)) dX0_told_45 ?_
      rw [nI_clamp (by omega)]
      rw [← hQ]
      exact W.lret (v := fv i) hx hb hr (fun t ht hW => ⟨fv i, rfl, by rw [if_neg h3, if_pos h4], ht⟩) t_nil dX0_told_46
  · refine lv_aload_n hx hb dX0_told_28 rfl (lv_at hl 0 rfl) ?_
    refine va_get (D := (dC, dI)) (ci := 0) (v := .ref c0) (C := RX0) (T := TX0) (N := 7) hx hb hts (fun w h => List.mem_cons_of_mem _ (pt_wsX0 w h)) hown hK hP 0 rfl rfl 0 (by decide) (hts _ (List.mem_cons_of_mem _ pw32)) (fun _ h9 => h9) rfl dX0_told_29 ?_
    refine lv_iload_n hx hb dX0_told_32 rfl (lv_at hl 1 rfl) ?_
    refine va_lald hx hb hK hP 1 0 rfl rfl (vp_in_nI (by omega) (by decide)) dX0_told_33 ?_
    rw [nI_clamp (by omega)]
    rw [← hQ]
    exact W.lret (v := fc i) hx hb hr (fun t ht hW => ⟨fc i, rfl, by rw [if_pos h3], ht⟩) t_nil dX0_told_34
set_option maxHeartbeats 4000000 in
set_option maxRecDepth 100000 in
/-- told(i, what): bad -/
theorem t_told_bad (l : Launch) (hl9 : l.stackTraces = false) (dC : Nat → ClassId) (dI : Nat → Nat → Nat) (s0 : State) (h0X : pt_X s0) (h0 c0 w0 : Nat) (kc kw : ClassId) (k n : Nat) (fc fv : Nat → Int64) (cl su : Int32) (y x : Int32) (sz : Nat) (hbad : x < 0 ∨ ¬ x ≤ 2) : pt_Thr l yX0_told wsX0_told ({ frames := 6, cells := 1, slots := 6, locals := 82 }) (va_Pc [.ref h0, .int y, .int x] (fun U => U.heap.size = sz ∧ va_P (dC, dI) vwCl [(h0, .inr (0, [.ref c0, .ref w0, .int (nI k), .int (nI n), .long (pt_mk n), .int cl, .int su])), (c0, .inl (kc, 512, .inr (.inl fc))), (w0, .inl (kw, 512, .inr (.inl fv)))] U.heap ∧ va_K (dC, dI) vwCl [(kc, .long), (kw, .long)] U ∧ va_D (fun q => s0.heap.size ≤ q) [(h0, .inr (0, [.ref c0, .ref w0, .int (nI k), .int (nI n), .long (pt_mk n), .int cl, .int su])), (c0, .inl (kc, 512, .inr (.inl fc))), (w0, .inl (kw, 512, .inr (.inl fv)))] ∧ pt_ext s0 U)) "java/lang/IllegalArgumentException" (fun st t => va_P (dC, dI) vwCl [(h0, .inr (0, [.ref c0, .ref w0, .int (nI k), .int (nI n), .long (pt_mk n), .int cl, .int su])), (c0, .inl (kc, 512, .inr (.inl fc))), (w0, .inl (kw, 512, .inr (.inl fv)))] t.heap ∧ va_K (dC, dI) vwCl [(kc, .long), (kw, .long)] t ∧ va_D (va_A [(h0, .inr (0, [.ref c0, .ref w0, .int (nI k), .int (nI n), .long (pt_mk n), .int cl, .int su])), (c0, .inl (kc, 512, .inr (.inl fc))), (w0, .inl (kw, 512, .inr (.inl fv)))] sz) [(h0, .inr (0, [.ref c0, .ref w0, .int (nI k), .int (nI n), .long (pt_mk n), .int cl, .int su])), (c0, .inl (kc, 512, .inr (.inl fc))), (w0, .inl (kw, 512, .inr (.inl fv)))] ∧ va_F (va_A [(h0, .inr (0, [.ref c0, .ref w0, .int (nI k), .int (nI n), .long (pt_mk n), .int cl, .int su])), (c0, .inl (kc, 512, .inr (.inl fc))), (w0, .inl (kw, 512, .inr (.inl fv)))] sz) st t) 1 6 (va_A [(h0, .inr (0, [.ref c0, .ref w0, .int (nI k), .int (nI n), .long (pt_mk n), .int cl, .int su])), (c0, .inl (kc, 512, .inr (.inl fc))), (w0, .inl (kw, 512, .inr (.inl fv)))] sz) := by
  refine pt_Thr_ofW (cc := cX0_told) (maxL := 3) (ret := (some .long)) (by decide) rfl ?_
  intro p e s m args below meth c s₁ B hml hnoh hv
  obtain ⟨ha, hsz, hP, hK, hD0, hext⟩ := hv
  subst hsz
  have hx := B.exec
  have hb := B.bytes
  have hr := B.returns
  have hts := atoms_spec (ws := wsX0_told) B.pre
  have hown : s.vm.findClass RX0 = some m.cls := findClass_of_methodNamed B.named
  have hlocks := B.notSynchronized
  have hl := lv_entry ([.ref h0, .int y, .int x]) (n := 3) (Nat.le_of_ble_eq_true rfl)
  refine W.eq (show entryFrame m args 3 = entryFrame m ([.ref h0, .int y, .int x] : List Value).toArray 3 by rw [ha]) ?_
  rw [lg_entry_eq]
  generalize (lg_sl ([.ref h0, .int y, .int x]) ++ List.replicate (3 - (lg_sl ([.ref h0, .int y, .int x])).length) Slot.unset).toArray = ls at hl ⊢
  have hl : lv_has ls 3 [(0, .ref h0), (1, .int y), (2, .int x)] := hl
  have hD := hD0.self (sz := s.heap.size)
  have hAs : ∀ q : Nat, va_A [(h0, .inr (0, [.ref c0, .ref w0, .int (nI k), .int (nI n), .long (pt_mk n), .int cl, .int su])), (c0, .inl (kc, 512, .inr (.inl fc))), (w0, .inl (kw, 512, .inr (.inl fv)))] s.heap.size q → s0.heap.size ≤ q := pt_As hD0 hext.2.1
  generalize hAe : va_A [(h0, .inr (0, [.ref c0, .ref w0, .int (nI k), .int (nI n), .long (pt_mk n), .int cl, .int su])), (c0, .inl (kc, 512, .inr (.inl fc))), (w0, .inl (kw, 512, .inr (.inl fv)))] s.heap.size = A at hD hAs ⊢
  have hA : ∀ q : Nat, s.heap.size ≤ q → A q := fun q h => by rw [← hAe]; exact Or.inr h
  have hS : va_S A s.heap s.heap [] := va_S.rf
  have hP : va_P (dC, dI) vwCl [(h0, .inr (0, [.ref c0, .ref w0, .int (nI k), .int (nI n), .long (pt_mk n), .int cl, .int su])), (c0, .inl (kc, 512, .inr (.inl fc))), (w0, .inl (kw, 512, .inr (.inl fv)))] s.heap := hP
  generalize hQ : pt_TQ below "java/lang/IllegalArgumentException" (fun st t => va_P (dC, dI) vwCl [(h0, .inr (0, [.ref c0, .ref w0, .int (nI k), .int (nI n), .long (pt_mk n), .int cl, .int su])), (c0, .inl (kc, 512, .inr (.inl fc))), (w0, .inl (kw, 512, .inr (.inl fv)))] t.heap ∧ va_K (dC, dI) vwCl [(kc, .long), (kw, .long)] t ∧ va_D A [(h0, .inr (0, [.ref c0, .ref w0, .int (nI k), .int (nI n), .long (pt_mk n), .int cl, .int su])), (c0, .inl (kc, 512, .inr (.inl fc))), (w0, .inl (kw, 512, .inr (.inl fv)))] ∧ va_F A st t) s 1 6 A = Q
  refine lv_iload_n hx hb dX0_told_0 rfl (lv_at hl 2 rfl) ?_
  refine lv_if_lt (tgt := 9) hx hb dX0_told_1 (by decide) (fun h1 => ?_) (fun h1 => ?_)
  · obtain ⟨sa, hstr⟩ := h0X.2.1 85 "what is 0, 1 or 2" (by decide)
    rw [← hQ]
    exact pt_throwS (own := RX0) (cls := "java/lang/IllegalArgumentException") (text := "what is 0, 1 or 2") (names := ["java/lang/RuntimeException", "java/lang/Exception"]) (ik := 37) (is := 85) (ic := 41) (sa := sa) hx hb hl9 hown (by decide) (by decide) (fun U hU hV w hw => pt_X_at h0X (hext.on hS hAs hU hV) w (pt_xw_in_iae w hw) _) (vk_R.warm hext.1 hstr) (hl.1.trans hml.symm) dX0_told_9 dX0_told_12 dX0_told_13 dX0_told_15 dX0_told_18 hnoh (by decide) (by decide) (by decide) (by decide) hlocks (fun t hW hz hk => ⟨hP.kept (fun k q hq => hk _ ((hP k q hq).lt)), va_K.moved hW.alike hK, hD, pt_S_thrown hS hz hk⟩) hS.2.2 (by decide) (by decide)
  · refine lv_iload_n hx hb dX0_told_4 rfl (lv_at hl 2 rfl) ?_
    refine lv_iconst (v := 2) hx hb dX0_told_5 (by decide) ?_
    refine lv_icmp_le (tgt := 19) hx hb dX0_told_6 (by decide) (fun h2 => (hbad.elim (fun z => absurd z h1) (fun z => absurd h2 z))) (fun h2 => ?_)
    obtain ⟨sa, hstr⟩ := h0X.2.1 85 "what is 0, 1 or 2" (by decide)
    rw [← hQ]
    exact pt_throwS (own := RX0) (cls := "java/lang/IllegalArgumentException") (text := "what is 0, 1 or 2") (names := ["java/lang/RuntimeException", "java/lang/Exception"]) (ik := 37) (is := 85) (ic := 41) (sa := sa) hx hb hl9 hown (by decide) (by decide) (fun U hU hV w hw => pt_X_at h0X (hext.on hS hAs hU hV) w (pt_xw_in_iae w hw) _) (vk_R.warm hext.1 hstr) (hl.1.trans hml.symm) dX0_told_9 dX0_told_12 dX0_told_13 dX0_told_15 dX0_told_18 hnoh (by decide) (by decide) (by decide) (by decide) hlocks (fun t hW hz hk => ⟨hP.kept (fun k q hq => hk _ ((hP k q hq).lt)), va_K.moved hW.alike hK, hD, pt_S_thrown hS hz hk⟩) hS.2.2 (by decide) (by decide)
set_option maxHeartbeats 4000000 in
set_option maxRecDepth 100000 in
/-- told(i, what): not there -/
theorem t_told_abs (l : Launch) (hl9 : l.stackTraces = false) (dC : Nat → ClassId) (dI : Nat → Nat → Nat) (s0 : State) (h0X : pt_X s0) (h0 c0 w0 : Nat) (kc kw : ClassId) (k n : Nat) (fc fv : Nat → Int64) (cl su : Int32) (y x : Int32) (sz : Nat) (hw1 : ¬ x < 0) (hw2 : x ≤ 2) (hab : y < 0 ∨ ¬ y < nI k) : pt_Thr l yX0_told wsX0_told ({ frames := 7, cells := 1, slots := 6, locals := 103 }) (va_Pc [.ref h0, .int y, .int x] (fun U => U.heap.size = sz ∧ va_P (dC, dI) vwCl [(h0, .inr (0, [.ref c0, .ref w0, .int (nI k), .int (nI n), .long (pt_mk n), .int cl, .int su])), (c0, .inl (kc, 512, .inr (.inl fc))), (w0, .inl (kw, 512, .inr (.inl fv)))] U.heap ∧ va_K (dC, dI) vwCl [(kc, .long), (kw, .long)] U ∧ va_D (fun q => s0.heap.size ≤ q) [(h0, .inr (0, [.ref c0, .ref w0, .int (nI k), .int (nI n), .long (pt_mk n), .int cl, .int su])), (c0, .inl (kc, 512, .inr (.inl fc))), (w0, .inl (kw, 512, .inr (.inl fv)))] ∧ pt_ext s0 U)) "java/util/NoSuchElementException" (fun st t => va_P (dC, dI) vwCl [(h0, .inr (0, [.ref c0, .ref w0, .int (nI k), .int (nI n), .long (pt_mk n), .int cl, .int su])), (c0, .inl (kc, 512, .inr (.inl fc))), (w0, .inl (kw, 512, .inr (.inl fv)))] t.heap ∧ va_K (dC, dI) vwCl [(kc, .long), (kw, .long)] t ∧ va_D (va_A [(h0, .inr (0, [.ref c0, .ref w0, .int (nI k), .int (nI n), .long (pt_mk n), .int cl, .int su])), (c0, .inl (kc, 512, .inr (.inl fc))), (w0, .inl (kw, 512, .inr (.inl fv)))] sz) [(h0, .inr (0, [.ref c0, .ref w0, .int (nI k), .int (nI n), .long (pt_mk n), .int cl, .int su])), (c0, .inl (kc, 512, .inr (.inl fc))), (w0, .inl (kw, 512, .inr (.inl fv)))] ∧ va_F (va_A [(h0, .inr (0, [.ref c0, .ref w0, .int (nI k), .int (nI n), .long (pt_mk n), .int cl, .int su])), (c0, .inl (kc, 512, .inr (.inl fc))), (w0, .inl (kw, 512, .inr (.inl fv)))] sz) st t) 1 6 (va_A [(h0, .inr (0, [.ref c0, .ref w0, .int (nI k), .int (nI n), .long (pt_mk n), .int cl, .int su])), (c0, .inl (kc, 512, .inr (.inl fc))), (w0, .inl (kw, 512, .inr (.inl fv)))] sz) := by
  refine pt_Thr_ofW (cc := cX0_told) (maxL := 3) (ret := (some .long)) (by decide) rfl ?_
  intro p e s m args below meth c s₁ B hml hnoh hv
  obtain ⟨ha, hsz, hP, hK, hD0, hext⟩ := hv
  subst hsz
  have hx := B.exec
  have hb := B.bytes
  have hr := B.returns
  have hts := atoms_spec (ws := wsX0_told) B.pre
  have hown : s.vm.findClass RX0 = some m.cls := findClass_of_methodNamed B.named
  have hlocks := B.notSynchronized
  have hl := lv_entry ([.ref h0, .int y, .int x]) (n := 3) (Nat.le_of_ble_eq_true rfl)
  refine W.eq (show entryFrame m args 3 = entryFrame m ([.ref h0, .int y, .int x] : List Value).toArray 3 by rw [ha]) ?_
  rw [lg_entry_eq]
  generalize (lg_sl ([.ref h0, .int y, .int x]) ++ List.replicate (3 - (lg_sl ([.ref h0, .int y, .int x])).length) Slot.unset).toArray = ls at hl ⊢
  have hl : lv_has ls 3 [(0, .ref h0), (1, .int y), (2, .int x)] := hl
  have hD := hD0.self (sz := s.heap.size)
  have hAs : ∀ q : Nat, va_A [(h0, .inr (0, [.ref c0, .ref w0, .int (nI k), .int (nI n), .long (pt_mk n), .int cl, .int su])), (c0, .inl (kc, 512, .inr (.inl fc))), (w0, .inl (kw, 512, .inr (.inl fv)))] s.heap.size q → s0.heap.size ≤ q := pt_As hD0 hext.2.1
  generalize hAe : va_A [(h0, .inr (0, [.ref c0, .ref w0, .int (nI k), .int (nI n), .long (pt_mk n), .int cl, .int su])), (c0, .inl (kc, 512, .inr (.inl fc))), (w0, .inl (kw, 512, .inr (.inl fv)))] s.heap.size = A at hD hAs ⊢
  have hA : ∀ q : Nat, s.heap.size ≤ q → A q := fun q h => by rw [← hAe]; exact Or.inr h
  have hS : va_S A s.heap s.heap [] := va_S.rf
  have hP : va_P (dC, dI) vwCl [(h0, .inr (0, [.ref c0, .ref w0, .int (nI k), .int (nI n), .long (pt_mk n), .int cl, .int su])), (c0, .inl (kc, 512, .inr (.inl fc))), (w0, .inl (kw, 512, .inr (.inl fv)))] s.heap := hP
  generalize hQ : pt_TQ below "java/util/NoSuchElementException" (fun st t => va_P (dC, dI) vwCl [(h0, .inr (0, [.ref c0, .ref w0, .int (nI k), .int (nI n), .long (pt_mk n), .int cl, .int su])), (c0, .inl (kc, 512, .inr (.inl fc))), (w0, .inl (kw, 512, .inr (.inl fv)))] t.heap ∧ va_K (dC, dI) vwCl [(kc, .long), (kw, .long)] t ∧ va_D A [(h0, .inr (0, [.ref c0, .ref w0, .int (nI k), .int (nI n), .long (pt_mk n), .int cl, .int su])), (c0, .inl (kc, 512, .inr (.inl fc))), (w0, .inl (kw, 512, .inr (.inl fv)))] ∧ va_F A st t) s 1 6 A = Q
  refine lv_iload_n hx hb dX0_told_0 rfl (lv_at hl 2 rfl) ?_
  refine lv_if_lt (tgt := 9) hx hb dX0_told_1 (by decide) (fun h1 => absurd h1 hw1) (fun h1 => ?_)
  refine lv_iload_n hx hb dX0_told_4 rfl (lv_at hl 2 rfl) ?_
  refine lv_iconst (v := 2) hx hb dX0_told_5 (by decide) ?_
  refine lv_icmp_le (tgt := 19) hx hb dX0_told_6 (by decide) (fun h2 => ?_) (fun h2 => absurd hw2 h2)
  refine lv_aload_n hx hb dX0_told_19 rfl (lv_at hl 0 rfl) ?_
  refine lv_iload_n hx hb dX0_told_20 rfl (lv_at hl 1 rfl) ?_
  rw [← hQ, ← hAe]
  exact pt_out (pt_runT (As := [.int y]) (rest := []) ⟨hx, hb, hml, hown, hts⟩ (t_refuseAbsent l hl9 dC dI s0 h0X h0 c0 w0 kc kw k n fc fv cl su y s.heap.size hab) (cwV 1 hts (pt_gV pw104 pw105 pw4 pw17 pw106) rfl rfl rfl (by decide +kernel) ⟨Nat.le_of_ble_eq_true rfl, Nat.le_of_ble_eq_true rfl⟩) ⟨fun a U g mk q => by obtain ⟨q0, q1, qP, qK, qD, qX⟩ := q; exact ⟨q0, q1, qP, va_K.moved (u := U) (U := U.calling g mk a) (Vm.Alike.refl U.vm) qK, qD, qX⟩, va_recv hK hP (ci := 0) (q0 := 0) rfl rfl, fun U hU hW => ⟨rfl, by rw [hU], by rw [hU]; exact hP, va_K.moved hW.alike hK, hD0, hext.same hU hW⟩⟩ rfl rfl hl.1 rfl (lv_room (Nat.le_of_ble_eq_true rfl)) dX0_told_21 ⟨by decide, by decide⟩) hnoh hlocks (fun st t t2 h1 h2 h3 h4 h5 => ⟨by rw [h4]; exact h3.1, va_K.moved (by rw [h5]; exact Vm.Alike.refl _) h3.2.1, h3.2.2.1, pt_F_same h1 h4 h3.2.2.2⟩) t_nil (fun _ h => h) (by decide) (by decide)
set_option maxHeartbeats 4000000 in
set_option maxRecDepth 100000 in
/-- count(what) -/
theorem c_count (l : Launch) (dC : Nat → ClassId) (dI : Nat → Nat → Nat) (h0 c0 w0 : Nat) (kc kw : ClassId) (k n : Nat) (fc fv : Nat → Int64) (cl su : Int32) (x : Int32)  : Met l yX0_count wsX0_count ({ frames := 0, cells := 0, slots := 0, locals := 0 }) (va_Pc [.ref h0, .int x] (fun U => va_P (dC, dI) vwCl [(h0, .inr (0, [.ref c0, .ref w0, .int (nI k), .int (nI n), .long (pt_mk n), .int cl, .int su])), (c0, .inl (kc, 512, .inr (.inl fc))), (w0, .inl (kw, 512, .inr (.inl fv)))] U.heap ∧ va_K (dC, dI) vwCl [(kc, .long), (kw, .long)] U)) (vp_Si (fun r : Int32 => r = (if x = 0 then nI k else if x = 1 then nI n else if x = 2 then cl else if x = 3 then su else -1))) 0 0 (fun _ => False) := by
  refine Met.ofW (cc := cX0_count) (maxL := 2) (ret := (some .int)) (by decide) rfl ?_
  intro p e s m args below meth c s₁ B hml hv
  obtain ⟨ha, hP, hK⟩ := hv
  have hx := B.exec
  have hb := B.bytes
  have hr := B.returns
  have hts := atoms_spec (ws := wsX0_count) B.pre
  have hown : s.vm.findClass RX0 = some m.cls := findClass_of_methodNamed B.named
  have hlocks := B.notSynchronized
  have hl := lv_entry ([.ref h0, .int x]) (n := 2) (Nat.le_of_ble_eq_true rfl)
  refine W.eq (show entryFrame m args 2 = entryFrame m ([.ref h0, .int x] : List Value).toArray 2 by rw [ha]) ?_
  rw [lg_entry_eq]
  generalize (lg_sl ([.ref h0, .int x]) ++ List.replicate (2 - (lg_sl ([.ref h0, .int x])).length) Slot.unset).toArray = ls at hl ⊢
  have hl : lv_has ls 2 [(0, .ref h0), (1, .int x)] := hl
  generalize hQ : MQ below (vp_Si (fun r : Int32 => r = (if x = 0 then nI k else if x = 1 then nI n else if x = 2 then cl else if x = 3 then su else -1))) args s 0 0 (fun _ => False) = Q
  refine lv_iload_n hx hb dX0_count_0 rfl (lv_at hl 1 rfl) ?_
  by_cases c0 : x = 0
  · refine lv_tableIn (off := 31) (tgt := 32) hx hb dX0_count_1 (by rw [c0]; decide) (by rw [c0]; decide) (by rw [c0]; decide) (by decide) ?_
    refine lv_aload_n hx hb dX0_count_32 rfl (lv_at hl 0 rfl) ?_
    refine va_get (D := (dC, dI)) (ci := 0) (v := .int (nI k)) (C := RX0) (T := TX0) (N := 7) hx hb hts (fun w h => List.mem_cons_of_mem _ (pt_wsX0 w h)) hown hK hP 0 rfl rfl 2 (by decide) (hts _ (List.mem_cons_of_mem _ pw34)) (fun _ h9 => h9) rfl dX0_count_33 ?_
    rw [← hQ]
    exact W.iret (v := nI k) hx hb hr (fun t ht hW => ⟨nI k, rfl, by rw [if_pos c0], ht⟩) t_nil dX0_count_36
  by_cases c1 : x = 1
  · refine lv_tableIn (off := 36) (tgt := 37) hx hb dX0_count_1 (by rw [c1]; decide) (by rw [c1]; decide) (by rw [c1]; decide) (by decide) ?_
    refine lv_aload_n hx hb dX0_count_37 rfl (lv_at hl 0 rfl) ?_
    refine va_get (D := (dC, dI)) (ci := 0) (v := .int (nI n)) (C := RX0) (T := TX0) (N := 7) hx hb hts (fun w h => List.mem_cons_of_mem _ (pt_wsX0 w h)) hown hK hP 0 rfl rfl 3 (by decide) (hts _ (List.mem_cons_of_mem _ pw35)) (fun _ h9 => h9) rfl dX0_count_38 ?_
    rw [← hQ]
    exact W.iret (v := nI n) hx hb hr (fun t ht hW => ⟨nI n, rfl, by rw [if_neg c0, if_pos c1], ht⟩) t_nil dX0_count_41
  by_cases c2 : x = 2
  · refine lv_tableIn (off := 41) (tgt := 42) hx hb dX0_count_1 (by rw [c2]; decide) (by rw [c2]; decide) (by rw [c2]; decide) (by decide) ?_
    refine lv_aload_n hx hb dX0_count_42 rfl (lv_at hl 0 rfl) ?_
    refine va_get (D := (dC, dI)) (ci := 0) (v := .int cl) (C := RX0) (T := TX0) (N := 7) hx hb hts (fun w h => List.mem_cons_of_mem _ (pt_wsX0 w h)) hown hK hP 0 rfl rfl 5 (by decide) (hts _ (List.mem_cons_of_mem _ pw37)) (fun _ h9 => h9) rfl dX0_count_43 ?_
    rw [← hQ]
    exact W.iret (v := cl) hx hb hr (fun t ht hW => ⟨cl, rfl, by rw [if_neg c0, if_neg c1, if_pos c2], ht⟩) t_nil dX0_count_46
  by_cases c3 : x = 3
  · refine lv_tableIn (off := 46) (tgt := 47) hx hb dX0_count_1 (by rw [c3]; decide) (by rw [c3]; decide) (by rw [c3]; decide) (by decide) ?_
    refine lv_aload_n hx hb dX0_count_47 rfl (lv_at hl 0 rfl) ?_
    refine va_get (D := (dC, dI)) (ci := 0) (v := .int su) (C := RX0) (T := TX0) (N := 7) hx hb hts (fun w h => List.mem_cons_of_mem _ (pt_wsX0 w h)) hown hK hP 0 rfl rfl 6 (by decide) (hts _ (List.mem_cons_of_mem _ pw38)) (fun _ h9 => h9) rfl dX0_count_48 ?_
    rw [← hQ]
    exact W.iret (v := su) hx hb hr (fun t ht hW => ⟨su, rfl, by rw [if_neg c0, if_neg c1, if_neg c2, if_pos c3], ht⟩) t_nil dX0_count_51
  have q0 := lv_neT c0 (show (0 : Int32).toInt = 0 by decide)
  have q1 := lv_neT c1 (show (1 : Int32).toInt = 1 by decide)
  have q2 := lv_neT c2 (show (2 : Int32).toInt = 2 by decide)
  have q3 := lv_neT c3 (show (3 : Int32).toInt = 3 by decide)
  refine lv_tableOut (tgt := 52) hx hb dX0_count_1 (by omega) (by decide) ?_
  refine lv_iconst (v := (-1)) hx hb dX0_count_52 (by decide) ?_
  rw [← hQ]
  exact W.iret (v := (-1)) hx hb hr (fun t ht hW => ⟨(-1), rfl, by rw [if_neg c0, if_neg c1, if_neg c2, if_neg c3], ht⟩) t_nil dX0_count_53
