set_option maxHeartbeats 4000000 in
set_option maxRecDepth 100000 in
/-- the reference: drop(i) -/
theorem c_mdrop (l : Launch) (dC : Nat → ClassId) (dI : Nat → Nat → Nat) (g0 a0 b0 : Nat) (ja jb : ClassId) (k n : Nat) (fc fv : Nat → Int64) (cl su th : Int32) (x : Int32) (sz : Nat) (hk : k ≤ 512) : Met l yX1_drop wsX1_drop ({ frames := 1, cells := 0, slots := 0, locals := 21 }) (va_Pc [.ref g0, .int x] (fun U => U.heap.size = sz ∧ va_P (dC, dI) vwCl [(g0, .inr (1, [.ref a0, .ref b0, .int (nI k), .int (nI n), .int cl, .int su, .int th])), (a0, .inl (ja, 512, .inr (.inl fc))), (b0, .inl (jb, 512, .inr (.inl fv)))] U.heap ∧ va_K (dC, dI) vwCl [(ja, .long), (jb, .long)] U ∧ va_D (fun _ => True) [(g0, .inr (1, [.ref a0, .ref b0, .int (nI k), .int (nI n), .int cl, .int su, .int th])), (a0, .inl (ja, 512, .inr (.inl fc))), (b0, .inl (jb, 512, .inr (.inl fv)))])) (va_Qv (fun u => pt_Rdrop k n fc fv cl su x u.2 u.1) (fun (u : pt_st × Int32) (t : State) => match u with | ((k2, n2, fc2, fv2, cl2, su2), th2) => va_P (dC, dI) vwCl [(g0, .inr (1, [.ref a0, .ref b0, .int (nI k2), .int (nI n2), .int cl2, .int su2, .int th2])), (a0, .inl (ja, 512, .inr (.inl fc2))), (b0, .inl (jb, 512, .inr (.inl fv2)))] t.heap ∧ va_K (dC, dI) vwCl [(ja, .long), (jb, .long)] t ∧ va_D (va_A [(g0, .inr (1, [.ref a0, .ref b0, .int (nI k), .int (nI n), .int cl, .int su, .int th])), (a0, .inl (ja, 512, .inr (.inl fc))), (b0, .inl (jb, 512, .inr (.inl fv)))] sz) [(g0, .inr (1, [.ref a0, .ref b0, .int (nI k2), .int (nI n2), .int cl2, .int su2, .int th2])), (a0, .inl (ja, 512, .inr (.inl fc2))), (b0, .inl (jb, 512, .inr (.inl fv2)))]) (va_A [(g0, .inr (1, [.ref a0, .ref b0, .int (nI k), .int (nI n), .int cl, .int su, .int th])), (a0, .inl (ja, 512, .inr (.inl fc))), (b0, .inl (jb, 512, .inr (.inl fv)))] sz)) 0 0 (va_A [(g0, .inr (1, [.ref a0, .ref b0, .int (nI k), .int (nI n), .int cl, .int su, .int th])), (a0, .inl (ja, 512, .inr (.inl fc))), (b0, .inl (jb, 512, .inr (.inl fv)))] sz) := by
  refine Met.ofW (cc := cX1_drop) (maxL := 3) (ret := none) (by decide) rfl ?_
  intro p e s m args below meth c s₁ B hml hv
  obtain ⟨ha, hsz, hP, hK, hD0⟩ := hv
  subst hsz
  have hx := B.exec
  have hb := B.bytes
  have hr := B.returns
  have hts := atoms_spec (ws := wsX1_drop) B.pre
  have hown : s.vm.findClass RX1 = some m.cls := findClass_of_methodNamed B.named
  have hlocks := B.notSynchronized
  have hl := lv_entry ([.ref g0, .int x]) (n := 3) (Nat.le_of_ble_eq_true rfl)
  refine W.eq (show entryFrame m args 3 = entryFrame m ([.ref g0, .int x] : List Value).toArray 3 by rw [ha]) ?_
  rw [lg_entry_eq]
  generalize (lg_sl ([.ref g0, .int x]) ++ List.replicate (3 - (lg_sl ([.ref g0, .int x])).length) Slot.unset).toArray = ls at hl ⊢
  have hl : lv_has ls 3 [(0, .ref g0), (1, .int x)] := hl
  have hD := hD0.self (sz := s.heap.size)
  generalize hAe : va_A [(g0, .inr (1, [.ref a0, .ref b0, .int (nI k), .int (nI n), .int cl, .int su, .int th])), (a0, .inl (ja, 512, .inr (.inl fc))), (b0, .inl (jb, 512, .inr (.inl fv)))] s.heap.size = A at hD ⊢
  have hA : ∀ q : Nat, s.heap.size ≤ q → A q := fun q h => by rw [← hAe]; exact Or.inr h
  have hS : va_S A s.heap s.heap [] := va_S.rf
  generalize hQ : MQ below (va_Qv (fun u => pt_Rdrop k n fc fv cl su x u.2 u.1) (fun (u : pt_st × Int32) (t : State) => match u with | ((k2, n2, fc2, fv2, cl2, su2), th2) => va_P (dC, dI) vwCl [(g0, .inr (1, [.ref a0, .ref b0, .int (nI k2), .int (nI n2), .int cl2, .int su2, .int th2])), (a0, .inl (ja, 512, .inr (.inl fc2))), (b0, .inl (jb, 512, .inr (.inl fv2)))] t.heap ∧ va_K (dC, dI) vwCl [(ja, .long), (jb, .long)] t ∧ va_D A [(g0, .inr (1, [.ref a0, .ref b0, .int (nI k2), .int (nI n2), .int cl2, .int su2, .int th2])), (a0, .inl (ja, 512, .inr (.inl fc2))), (b0, .inl (jb, 512, .inr (.inl fv2)))]) A) args s 0 0 A = Q
  have hP : va_P (dC, dI) vwCl [(g0, .inr (1, [.ref a0, .ref b0, .int (nI k), .int (nI n), .int cl, .int su, .int th])), (a0, .inl (ja, 512, .inr (.inl fc))), (b0, .inl (jb, 512, .inr (.inl fv)))] s.heap := hP
  refine lv_aload_n hx hb dX1_drop_0 rfl (lv_at hl 0 rfl) ?_
  refine lv_iconst (v := 0) hx hb dX1_drop_1 (by decide) ?_
  refine va_put (D := (dC, dI)) (ci := 1) (v := .int 0) (ty := .int) (C := RX1) (T := TX1) (N := 7) hx hb hts (fun w h => List.mem_cons_of_mem _ (pt_wsX1 w h)) tyX1 tyX1_ok nmX1 hown hK hP hD hS 0 rfl rfl 6 (by decide) (hts _ (List.mem_cons_of_mem _ pw167)) (fun _ h9 => h9) rfl (by decide +kernel) rfl rfl (Nat.le_of_ble_eq_true rfl) dX1_drop_2 (fun H locs hP hD hS => ?_)
  have hP : va_P (dC, dI) vwCl [(g0, .inr (1, [.ref a0, .ref b0, .int (nI k), .int (nI n), .int cl, .int su, .int 0])), (a0, .inl (ja, 512, .inr (.inl fc))), (b0, .inl (jb, 512, .inr (.inl fv)))] H := hP
  have hD : va_D A [(g0, .inr (1, [.ref a0, .ref b0, .int (nI k), .int (nI n), .int cl, .int su, .int 0])), (a0, .inl (ja, 512, .inr (.inl fc))), (b0, .inl (jb, 512, .inr (.inl fv)))] := hD
  refine lv_iload_n hx hb dX1_drop_5 rfl (lv_at hl 1 rfl) ?_
  refine lv_if_lt (tgt := 17) hx hb dX1_drop_6 (by decide) (fun h1 => ?_) (fun h1 => ?_)
  · refine lv_aload_n hx hb dX1_drop_17 rfl (lv_at hl 0 rfl) ?_
    refine lv_iconst (v := 1) hx hb dX1_drop_18 (by decide) ?_
    have hPc := hP.sub (ws' := [(g0, .inr (1, [.ref a0, .ref b0, .int (nI k), .int (nI n), .int cl, .int su, .int 0])), (a0, .inl (ja, 512, .inr (.inl fc))), (b0, .inl (jb, 512, .inr (.inl fv)))]) [0, 1, 2] rfl
    have hDc := hD.sub (ws' := [(g0, .inr (1, [.ref a0, .ref b0, .int (nI k), .int (nI n), .int cl, .int su, .int 0])), (a0, .inl (ja, 512, .inr (.inl fc))), (b0, .inl (jb, 512, .inr (.inl fv)))]) [0, 1, 2] (by decide) rfl
    have hKc := hK.sub (tys' := [(ja, .long), (jb, .long)]) [0, 1] rfl
    have hFc := va_free (wc := [(g0, .inr (1, [.ref a0, .ref b0, .int (nI k), .int (nI n), .int cl, .int su, .int 0])), (a0, .inl (ja, 512, .inr (.inl fc))), (b0, .inl (jb, 512, .inr (.inl fv)))]) hD hS hA [0, 1, 2] rfl
    refine va_calli (va_runV (As := [.int 1]) (rest := []) ⟨hx, hb, hml, hown, hts⟩ (c_fail l dC dI g0 a0 b0 ja jb (nI k) (nI n) fc fv cl su 0 1 H.size ) (cwV 1 hts (pt_gV pw183 pw184 pw9 pw18 pw185) rfl rfl rfl (by decide +kernel) ⟨Nat.le_of_ble_eq_true rfl, Nat.le_of_ble_eq_true rfl⟩) ⟨fun a U g mk q => by obtain ⟨q0, q1, qP, qK, qD⟩ := q; exact ⟨q0, q1, qP, va_K.moved (u := U) (U := U.calling g mk a) (Vm.Alike.refl U.vm) qK, qD⟩, va_recv hK hP (ci := 1) (q0 := 0) rfl rfl, fun U hU hW => ⟨rfl, by rw [hU], by rw [hU]; exact hPc, va_K.moved hW.alike hKc, hDc.weaken (fun _ _ _ _ => trivial)⟩⟩ rfl rfl hl.1 rfl (lv_room (Nat.le_of_ble_eq_true rfl)) dX1_drop_19 ⟨Nat.zero_le _, Nat.zero_le _⟩) hS (fun q _ h => hFc q h) hFc (fun r1 u t H1 locs ht hvm hw hB hz1 hk1 hS => ?_)
    obtain ⟨hP1, hK1, hD1⟩ := hB
    rw [ht] at hP1
    obtain ⟨hP, hD⟩ := va_join (wr := ([] : va_W)) (w1 := [(g0, .inr (1, [.ref a0, .ref b0, .int (nI k), .int (nI n), .int cl, .int su, .int 1])), (a0, .inl (ja, 512, .inr (.inl fc))), (b0, .inl (jb, 512, .inr (.inl fv)))]) hP hD [0, 1, 2] [] rfl rfl (by decide) (by decide) hk1 hFc hP1 hD1
    generalize H1 = H at hP hS ⊢
    have hP : va_P (dC, dI) vwCl [(g0, .inr (1, [.ref a0, .ref b0, .int (nI k), .int (nI n), .int cl, .int su, .int 1])), (a0, .inl (ja, 512, .inr (.inl fc))), (b0, .inl (jb, 512, .inr (.inl fv)))] H := hP
    have hD : va_D A [(g0, .inr (1, [.ref a0, .ref b0, .int (nI k), .int (nI n), .int cl, .int su, .int 1])), (a0, .inl (ja, 512, .inr (.inl fc))), (b0, .inl (jb, 512, .inr (.inl fv)))] := hD
    subst hw
    refine lv_pop hx hb dX1_drop_22 rfl ?_
    rw [← hQ]
    exact W.vret hx hb hr (fun t ht hW => ⟨⟨((k, n, fc, fv, cl, su), 1), rfl, Or.inl ⟨Or.inl h1, rfl, rfl⟩, by rw [ht]; exact hP, va_K.moved hW.alike hK, hD⟩, hS.F ht⟩) hS.2.2 dX1_drop_23
  · refine lv_iload_n hx hb dX1_drop_9 rfl (lv_at hl 1 rfl) ?_
    refine lv_aload_n hx hb dX1_drop_10 rfl (lv_at hl 0 rfl) ?_
    refine va_get (D := (dC, dI)) (ci := 1) (v := .int (nI k)) (C := RX1) (T := TX1) (N := 7) hx hb hts (fun w h => List.mem_cons_of_mem _ (pt_wsX1 w h)) hown hK hP 0 rfl rfl 2 (by decide) (hts _ (List.mem_cons_of_mem _ pw163)) (fun _ h9 => h9) rfl dX1_drop_11 ?_
    refine lv_icmp_lt (tgt := 24) hx hb dX1_drop_14 (by decide) (fun h2 => ?_) (fun h2 => ?_)
    · obtain ⟨i, hi, rfl⟩ := pt_at hk h1 h2
      refine lv_iload_n hx hb dX1_drop_24 rfl (lv_at hl 1 rfl) ?_
      refine lv_istore_n (lv' := [(2, .int (nI i)), (0, .ref g0), (1, .int (nI i))]) hx hb dX1_drop_25 rfl hl (by decide) rfl (fun ls hl => ?_)
      have loop : ∀ (d t : Nat) (H : Heap) (locs : List Loc) (ls : Array Slot), k - (t + 1) = d → i ≤ t → t + 1 ≤ k → va_P (dC, dI) vwCl [(g0, .inr (1, [.ref a0, .ref b0, .int (nI k), .int (nI n), .int cl, .int su, .int 0])), (a0, .inl (ja, 512, .inr (.inl (pt_mv fc i (t + 1))))), (b0, .inl (jb, 512, .inr (.inl (pt_mv fv i (t + 1)))))] H → va_D A [(g0, .inr (1, [.ref a0, .ref b0, .int (nI k), .int (nI n), .int cl, .int su, .int 0])), (a0, .inl (ja, 512, .inr (.inl (pt_mv fc i (t + 1))))), (b0, .inl (jb, 512, .inr (.inl (pt_mv fv i (t + 1)))))] → va_S A s.heap H locs → lv_has ls 3 [(2, .int (nI t)), (0, .ref g0), (1, .int (nI i))] → W p l e (headSpec wsX1_drop ({ frames := 1, cells := 0, slots := 0, locals := 21 })).room s m args below meth c H locs 0 0 Q (F0 m 26 ls []) := by
        intro d
        induction d with
        | zero =>
          intro t H locs ls hd hit htk hP hD hS hl
          refine lv_iload_n hx hb dX1_drop_26 rfl (lv_at hl 0 rfl) ?_
          refine lv_iconst (v := 1) hx hb dX1_drop_27 (by decide) ?_
          refine lv_iadd hx hb dX1_drop_28 ?_
          rw [nI_1]
          refine lv_aload_n hx hb dX1_drop_29 rfl (lv_at hl 1 rfl) ?_
          refine va_get (D := (dC, dI)) (ci := 1) (v := .int (nI k)) (C := RX1) (T := TX1) (N := 7) hx hb hts (fun w h => List.mem_cons_of_mem _ (pt_wsX1 w h)) hown hK hP 0 rfl rfl 2 (by decide) (hts _ (List.mem_cons_of_mem _ pw163)) (fun _ h9 => h9) rfl dX1_drop_30 ?_
          refine lv_icmp_ge (tgt := 70) hx hb dX1_drop_33 (by decide) (fun h3 => ?_) (fun h3 => absurd (nI_le (by omega) (by omega)) h3)
          refine lv_aload_n hx hb dX1_drop_70 rfl (lv_at hl 1 rfl) ?_
          refine lv_dup hx hb dX1_drop_71 rfl ?_
          refine va_get (D := (dC, dI)) (ci := 1) (v := .int (nI k)) (C := RX1) (T := TX1) (N := 7) hx hb hts (fun w h => List.mem_cons_of_mem _ (pt_wsX1 w h)) hown hK hP 0 rfl rfl 2 (by decide) (hts _ (List.mem_cons_of_mem _ pw163)) (fun _ h9 => h9) rfl dX1_drop_72 ?_
          refine lv_iconst (v := 1) hx hb dX1_drop_75 (by decide) ?_
          refine lv_isub hx hb dX1_drop_76 ?_
          rw [show nI k - 1 = nI (k - 1) from pk_sub (b := 1) (by omega)]
          refine va_put (D := (dC, dI)) (ci := 1) (v := .int (nI (k - 1))) (ty := .int) (C := RX1) (T := TX1) (N := 7) hx hb hts (fun w h => List.mem_cons_of_mem _ (pt_wsX1 w h)) tyX1 tyX1_ok nmX1 hown hK hP hD hS 0 rfl rfl 2 (by decide) (hts _ (List.mem_cons_of_mem _ pw163)) (fun _ h9 => h9) rfl (by decide +kernel) rfl rfl (Nat.le_of_ble_eq_true rfl) dX1_drop_77 (fun H locs hP hD hS => ?_)
          have hP : va_P (dC, dI) vwCl [(g0, .inr (1, [.ref a0, .ref b0, .int (nI (k - 1)), .int (nI n), .int cl, .int su, .int 0])), (a0, .inl (ja, 512, .inr (.inl (pt_mv fc i (t + 1))))), (b0, .inl (jb, 512, .inr (.inl (pt_mv fv i (t + 1)))))] H := hP
          have hD : va_D A [(g0, .inr (1, [.ref a0, .ref b0, .int (nI (k - 1)), .int (nI n), .int cl, .int su, .int 0])), (a0, .inl (ja, 512, .inr (.inl (pt_mv fc i (t + 1))))), (b0, .inl (jb, 512, .inr (.inl (pt_mv fv i (t + 1)))))] := hD
          rw [show t + 1 = k by omega] at hP hD
          rw [← hQ]
          exact W.vret hx hb hr (fun t ht hW => ⟨⟨((k - 1, n, pt_mv fc i k, pt_mv fv i k, cl, su), 0), rfl, Or.inr ⟨i, hi, rfl, rfl, rfl⟩, by rw [ht]; exact hP, va_K.moved hW.alike hK, hD⟩, hS.F ht⟩) hS.2.2 dX1_drop_80
        | succ d ih =>
          intro t H locs ls hd hit htk hP hD hS hl
          refine lv_iload_n hx hb dX1_drop_26 rfl (lv_at hl 0 rfl) ?_
          refine lv_iconst (v := 1) hx hb dX1_drop_27 (by decide) ?_
          refine lv_iadd hx hb dX1_drop_28 ?_
          rw [nI_1]
          refine lv_aload_n hx hb dX1_drop_29 rfl (lv_at hl 1 rfl) ?_
          refine va_get (D := (dC, dI)) (ci := 1) (v := .int (nI k)) (C := RX1) (T := TX1) (N := 7) hx hb hts (fun w h => List.mem_cons_of_mem _ (pt_wsX1 w h)) hown hK hP 0 rfl rfl 2 (by decide) (hts _ (List.mem_cons_of_mem _ pw163)) (fun _ h9 => h9) rfl dX1_drop_30 ?_
          refine lv_icmp_ge (tgt := 70) hx hb dX1_drop_33 (by decide) (fun h3 => absurd h3 (nI_ge (by omega) (by omega))) (fun h3 => ?_)
          refine lv_aload_n hx hb dX1_drop_36 rfl (lv_at hl 1 rfl) ?_
          refine va_get (D := (dC, dI)) (ci := 1) (v := .ref a0) (C := RX1) (T := TX1) (N := 7) hx hb hts (fun w h => List.mem_cons_of_mem _ (pt_wsX1 w h)) hown hK hP 0 rfl rfl 0 (by decide) (hts _ (List.mem_cons_of_mem _ pw161)) (fun _ h9 => h9) rfl dX1_drop_37 ?_
          refine lv_iload_n hx hb dX1_drop_40 rfl (lv_at hl 0 rfl) ?_
          refine lv_aload_n hx hb dX1_drop_41 rfl (lv_at hl 1 rfl) ?_
          refine va_get (D := (dC, dI)) (ci := 1) (v := .ref a0) (C := RX1) (T := TX1) (N := 7) hx hb hts (fun w h => List.mem_cons_of_mem _ (pt_wsX1 w h)) hown hK hP 0 rfl rfl 0 (by decide) (hts _ (List.mem_cons_of_mem _ pw161)) (fun _ h9 => h9) rfl dX1_drop_42 ?_
          refine lv_iload_n hx hb dX1_drop_45 rfl (lv_at hl 0 rfl) ?_
          refine lv_iconst (v := 1) hx hb dX1_drop_46 (by decide) ?_
          refine lv_iadd hx hb dX1_drop_47 ?_
          rw [nI_1]
          refine va_lald hx hb hK hP 1 0 rfl rfl (vp_in_nI (by omega) (by decide)) dX1_drop_48 ?_
          rw [nI_clamp (by omega)]
          refine va_last hx hb hK hP hD hS 1 0 rfl rfl (vp_in_nI (by omega) (by decide)) dX1_drop_49 (fun H locs hP hD hS => ?_)
          rw [nI_clamp (by omega)] at hP hD
          have hP : va_P (dC, dI) vwCl [(g0, .inr (1, [.ref a0, .ref b0, .int (nI k), .int (nI n), .int cl, .int su, .int 0])), (a0, .inl (ja, 512, .inr (.inl (vp_updL (pt_mv fc i (t + 1)) t ((pt_mv fc i (t + 1)) (t + 1)))))), (b0, .inl (jb, 512, .inr (.inl (pt_mv fv i (t + 1)))))] H := hP
          have hD : va_D A [(g0, .inr (1, [.ref a0, .ref b0, .int (nI k), .int (nI n), .int cl, .int su, .int 0])), (a0, .inl (ja, 512, .inr (.inl (vp_updL (pt_mv fc i (t + 1)) t ((pt_mv fc i (t + 1)) (t + 1)))))), (b0, .inl (jb, 512, .inr (.inl (pt_mv fv i (t + 1)))))] := hD
          rw [show vp_updL (pt_mv fc i (t + 1)) t (pt_mv fc i (t + 1) (t + 1)) = pt_mv fc i (t + 1 + 1) from pt_mv_s fc (by omega)] at hP hD
          refine lv_aload_n hx hb dX1_drop_50 rfl (lv_at hl 1 rfl) ?_
          refine va_get (D := (dC, dI)) (ci := 1) (v := .ref b0) (C := RX1) (T := TX1) (N := 7) hx hb hts (fun w h => List.mem_cons_of_mem _ (pt_wsX1 w h)) hown hK hP 0 rfl rfl 1 (by decide) (hts _ (List.mem_cons_of_mem _ pw162)) (fun _ h9 => h9) rfl dX1_drop_51 ?_
          refine lv_iload_n hx hb dX1_drop_54 rfl (lv_at hl 0 rfl) ?_
          refine lv_aload_n hx hb dX1_drop_55 rfl (lv_at hl 1 rfl) ?_
          refine va_get (D := (dC, dI)) (ci := 1) (v := .ref b0) (C := RX1) (T := TX1) (N := 7) hx hb hts (fun w h => List.mem_cons_of_mem _ (pt_wsX1 w h)) hown hK hP 0 rfl rfl 1 (by decide) (hts _ (List.mem_cons_of_mem _ pw162)) (fun _ h9 => h9) rfl dX1_drop_56 ?_
          refine lv_iload_n hx hb dX1_drop_59 rfl (lv_at hl 0 rfl) ?_
          refine lv_iconst (v := 1) hx hb dX1_drop_60 (by decide) ?_
          refine lv_iadd hx hb dX1_drop_61 ?_
          rw [nI_1]
          refine va_lald hx hb hK hP 2 1 rfl rfl (vp_in_nI (by omega) (by decide)) dX1_drop_62 ?_
          rw [nI_clamp (by omega)]
          refine va_last hx hb hK hP hD hS 2 1 rfl rfl (vp_in_nI (by omega) (by decide)) dX1_drop_63 (fun H locs hP hD hS => ?_)
          rw [nI_clamp (by omega)] at hP hD
          have hP : va_P (dC, dI) vwCl [(g0, .inr (1, [.ref a0, .ref b0, .int (nI k), .int (nI n), .int cl, .int su, .int 0])), (a0, .inl (ja, 512, .inr (.inl (pt_mv fc i (t + 1 + 1))))), (b0, .inl (jb, 512, .inr (.inl (vp_updL (pt_mv fv i (t + 1)) t ((pt_mv fv i (t + 1)) (t + 1))))))] H := hP
          have hD : va_D A [(g0, .inr (1, [.ref a0, .ref b0, .int (nI k), .int (nI n), .int cl, .int su, .int 0])), (a0, .inl (ja, 512, .inr (.inl (pt_mv fc i (t + 1 + 1))))), (b0, .inl (jb, 512, .inr (.inl (vp_updL (pt_mv fv i (t + 1)) t ((pt_mv fv i (t + 1)) (t + 1))))))] := hD
          rw [show vp_updL (pt_mv fv i (t + 1)) t (pt_mv fv i (t + 1) (t + 1)) = pt_mv fv i (t + 1 + 1) from pt_mv_s fv (by omega)] at hP hD
          refine lv_iinc (v := nI (t + 1)) (lv' := [(2, .int (nI (t + 1))), (0, .ref g0), (1, .int (nI i))]) hx hb dX1_drop_64 hl (k := 0) rfl (by rw [nI_succ]; rfl) (by decide) rfl (fun ls hl => ?_)
          refine lv_goto (tgt := 26) hx hb dX1_drop_67 (by decide) ?_
          exact ih (t + 1) H locs ls (by omega) (by omega) (by omega) hP hD hS (lv_sub hl [0, 1, 2] rfl)
      exact loop (k - (i + 1)) i H locs ls rfl (by omega) (by omega) (by rw [pt_mv_0, pt_mv_0]; exact hP) (by rw [pt_mv_0, pt_mv_0]; exact hD) hS (lv_sub hl [0, 1, 2] rfl)
    · refine lv_aload_n hx hb dX1_drop_17 rfl (lv_at hl 0 rfl) ?_
      refine lv_iconst (v := 1) hx hb dX1_drop_18 (by decide) ?_
      have hPc := hP.sub (ws' := [(g0, .inr (1, [.ref a0, .ref b0, .int (nI k), .int (nI n), .int cl, .int su, .int 0])), (a0, .inl (ja, 512, .inr (.inl fc))), (b0, .inl (jb, 512, .inr (.inl fv)))]) [0, 1, 2] rfl
      have hDc := hD.sub (ws' := [(g0, .inr (1, [.ref a0, .ref b0, .int (nI k), .int (nI n), .int cl, .int su, .int 0])), (a0, .inl (ja, 512, .inr (.inl fc))), (b0, .inl (jb, 512, .inr (.inl fv)))]) [0, 1, 2] (by decide) rfl
      have hKc := hK.sub (tys' := [(ja, .long), (jb, .long)]) [0, 1] rfl
      have hFc := va_free (wc := [(g0, .inr (1, [.ref a0, .ref b0, .int (nI k), .int (nI n), .int cl, .int su, .int 0])), (a0, .inl (ja, 512, .inr (.inl fc))), (b0, .inl (jb, 512, .inr (.inl fv)))]) hD hS hA [0, 1, 2] rfl
      refine va_calli (va_runV (As := [.int 1]) (rest := []) ⟨hx, hb, hml, hown, hts⟩ (c_fail l dC dI g0 a0 b0 ja jb (nI k) (nI n) fc fv cl su 0 1 H.size ) (cwV 1 hts (pt_gV pw183 pw184 pw9 pw18 pw185) rfl rfl rfl (by decide +kernel) ⟨Nat.le_of_ble_eq_true rfl, Nat.le_of_ble_eq_true rfl⟩) ⟨fun a U g mk q => by obtain ⟨q0, q1, qP, qK, qD⟩ := q; exact ⟨q0, q1, qP, va_K.moved (u := U) (U := U.calling g mk a) (Vm.Alike.refl U.vm) qK, qD⟩, va_recv hK hP (ci := 1) (q0 := 0) rfl rfl, fun U hU hW => ⟨rfl, by rw [hU], by rw [hU]; exact hPc, va_K.moved hW.alike hKc, hDc.weaken (fun _ _ _ _ => trivial)⟩⟩ rfl rfl hl.1 rfl (lv_room (Nat.le_of_ble_eq_true rfl)) dX1_drop_19 ⟨Nat.zero_le _, Nat.zero_le _⟩) hS (fun q _ h => hFc q h) hFc (fun r2 u t H1 locs ht hvm hw hB hz1 hk1 hS => ?_)
      obtain ⟨hP1, hK1, hD1⟩ := hB
      rw [ht] at hP1
      obtain ⟨hP, hD⟩ := va_join (wr := ([] : va_W)) (w1 := [(g0, .inr (1, [.ref a0, .ref b0, .int (nI k), .int (nI n), .int cl, .int su, .int 1])), (a0, .inl (ja, 512, .inr (.inl fc))), (b0, .inl (jb, 512, .inr (.inl fv)))]) hP hD [0, 1, 2] [] rfl rfl (by decide) (by decide) hk1 hFc hP1 hD1
      generalize H1 = H at hP hS ⊢
      have hP : va_P (dC, dI) vwCl [(g0, .inr (1, [.ref a0, .ref b0, .int (nI k), .int (nI n), .int cl, .int su, .int 1])), (a0, .inl (ja, 512, .inr (.inl fc))), (b0, .inl (jb, 512, .inr (.inl fv)))] H := hP
      have hD : va_D A [(g0, .inr (1, [.ref a0, .ref b0, .int (nI k), .int (nI n), .int cl, .int su, .int 1])), (a0, .inl (ja, 512, .inr (.inl fc))), (b0, .inl (jb, 512, .inr (.inl fv)))] := hD
      subst hw
      refine lv_pop hx hb dX1_drop_22 rfl ?_
      rw [← hQ]
      exact W.vret hx hb hr (fun t ht hW => ⟨⟨((k, n, fc, fv, cl, su), 1), rfl, Or.inl ⟨Or.inr h2, rfl, rfl⟩, by rw [ht]; exact hP, va_K.moved hW.alike hK, hD⟩, hS.F ht⟩) hS.2.2 dX1_drop_23
set_option maxHeartbeats 4000000 in
set_option maxRecDepth 100000 in
/-- the reference: decode(word) -/
theorem c_mdecode (l : Launch) (dC : Nat → ClassId) (dI : Nat → Nat → Nat) (g0 a0 b0 : Nat) (ja jb : ClassId) (k n : Nat) (fc fv : Nat → Int64) (cl su th : Int32) (a : Int64) (sz : Nat) (hI : pt_I k n fc fv) : Met l yX1_decode wsX1_decode ({ frames := 0, cells := 0, slots := 0, locals := 0 }) (va_Pc [.ref g0, .long a] (fun U => U.heap.size = sz ∧ va_P (dC, dI) vwCl [(g0, .inr (1, [.ref a0, .ref b0, .int (nI k), .int (nI n), .int cl, .int su, .int th])), (a0, .inl (ja, 512, .inr (.inl fc))), (b0, .inl (jb, 512, .inr (.inl fv)))] U.heap ∧ va_K (dC, dI) vwCl [(ja, .long), (jb, .long)] U ∧ va_D (fun _ => True) [(g0, .inr (1, [.ref a0, .ref b0, .int (nI k), .int (nI n), .int cl, .int su, .int th])), (a0, .inl (ja, 512, .inr (.inl fc))), (b0, .inl (jb, 512, .inr (.inl fv)))])) (va_Qi (fun (r : Int32) _ => pt_F (fun j => pt_sh (fc j) (fv j) (pt_mk n) (a &&& pt_mk n)) k r) (fun (u : Unit) (t : State) => match u with | _ => va_P (dC, dI) vwCl [(g0, .inr (1, [.ref a0, .ref b0, .int (nI k), .int (nI n), .int cl, .int su, .int 0])), (a0, .inl (ja, 512, .inr (.inl fc))), (b0, .inl (jb, 512, .inr (.inl fv)))] t.heap ∧ va_K (dC, dI) vwCl [(ja, .long), (jb, .long)] t ∧ va_D (va_A [(g0, .inr (1, [.ref a0, .ref b0, .int (nI k), .int (nI n), .int cl, .int su, .int th])), (a0, .inl (ja, 512, .inr (.inl fc))), (b0, .inl (jb, 512, .inr (.inl fv)))] sz) [(g0, .inr (1, [.ref a0, .ref b0, .int (nI k), .int (nI n), .int cl, .int su, .int 0])), (a0, .inl (ja, 512, .inr (.inl fc))), (b0, .inl (jb, 512, .inr (.inl fv)))]) (va_A [(g0, .inr (1, [.ref a0, .ref b0, .int (nI k), .int (nI n), .int cl, .int su, .int th])), (a0, .inl (ja, 512, .inr (.inl fc))), (b0, .inl (jb, 512, .inr (.inl fv)))] sz)) 0 0 (va_A [(g0, .inr (1, [.ref a0, .ref b0, .int (nI k), .int (nI n), .int cl, .int su, .int th])), (a0, .inl (ja, 512, .inr (.inl fc))), (b0, .inl (jb, 512, .inr (.inl fv)))] sz) := by
  refine Met.ofW (cc := cX1_decode) (maxL := 6) (ret := (some .int)) (by decide) rfl ?_
  intro p e s m args below meth c s₁ B hml hv
  obtain ⟨ha, hsz, hP, hK, hD0⟩ := hv
  subst hsz
  have hx := B.exec
  have hb := B.bytes
  have hr := B.returns
  have hts := atoms_spec (ws := wsX1_decode) B.pre
  have hown : s.vm.findClass RX1 = some m.cls := findClass_of_methodNamed B.named
  have hlocks := B.notSynchronized
  have hl := lv_entry ([.ref g0, .long a]) (n := 6) (Nat.le_of_ble_eq_true rfl)
  refine W.eq (show entryFrame m args 6 = entryFrame m ([.ref g0, .long a] : List Value).toArray 6 by rw [ha]) ?_
  rw [lg_entry_eq]
  generalize (lg_sl ([.ref g0, .long a]) ++ List.replicate (6 - (lg_sl ([.ref g0, .long a])).length) Slot.unset).toArray = ls at hl ⊢
  have hl : lv_has ls 6 [(0, .ref g0), (1, .long a)] := hl
  have hD := hD0.self (sz := s.heap.size)
  generalize hAe : va_A [(g0, .inr (1, [.ref a0, .ref b0, .int (nI k), .int (nI n), .int cl, .int su, .int th])), (a0, .inl (ja, 512, .inr (.inl fc))), (b0, .inl (jb, 512, .inr (.inl fv)))] s.heap.size = A at hD ⊢
  have hA : ∀ q : Nat, s.heap.size ≤ q → A q := fun q h => by rw [← hAe]; exact Or.inr h
  have hS : va_S A s.heap s.heap [] := va_S.rf
  generalize hQ : MQ below (va_Qi (fun (r : Int32) _ => pt_F (fun j => pt_sh (fc j) (fv j) (pt_mk n) (a &&& pt_mk n)) k r) (fun (u : Unit) (t : State) => match u with | _ => va_P (dC, dI) vwCl [(g0, .inr (1, [.ref a0, .ref b0, .int (nI k), .int (nI n), .int cl, .int su, .int 0])), (a0, .inl (ja, 512, .inr (.inl fc))), (b0, .inl (jb, 512, .inr (.inl fv)))] t.heap ∧ va_K (dC, dI) vwCl [(ja, .long), (jb, .long)] t ∧ va_D A [(g0, .inr (1, [.ref a0, .ref b0, .int (nI k), .int (nI n), .int cl, .int su, .int 0])), (a0, .inl (ja, 512, .inr (.inl fc))), (b0, .inl (jb, 512, .inr (.inl fv)))]) A) args s 0 0 A = Q
  have hP : va_P (dC, dI) vwCl [(g0, .inr (1, [.ref a0, .ref b0, .int (nI k), .int (nI n), .int cl, .int su, .int th])), (a0, .inl (ja, 512, .inr (.inl fc))), (b0, .inl (jb, 512, .inr (.inl fv)))] s.heap := hP
  have hk := hI.1
  refine lv_aload_n hx hb dX1_decode_0 rfl (lv_at hl 0 rfl) ?_
  refine lv_iconst (v := 0) hx hb dX1_decode_1 (by decide) ?_
  refine va_put (D := (dC, dI)) (ci := 1) (v := .int 0) (ty := .int) (C := RX1) (T := TX1) (N := 7) hx hb hts (fun w h => List.mem_cons_of_mem _ (pt_wsX1 w h)) tyX1 tyX1_ok nmX1 hown hK hP hD hS 0 rfl rfl 6 (by decide) (hts _ (List.mem_cons_of_mem _ pw167)) (fun _ h9 => h9) rfl (by decide +kernel) rfl rfl (Nat.le_of_ble_eq_true rfl) dX1_decode_2 (fun H locs hP hD hS => ?_)
  have hP : va_P (dC, dI) vwCl [(g0, .inr (1, [.ref a0, .ref b0, .int (nI k), .int (nI n), .int cl, .int su, .int 0])), (a0, .inl (ja, 512, .inr (.inl fc))), (b0, .inl (jb, 512, .inr (.inl fv)))] H := hP
  have hD : va_D A [(g0, .inr (1, [.ref a0, .ref b0, .int (nI k), .int (nI n), .int cl, .int su, .int 0])), (a0, .inl (ja, 512, .inr (.inl fc))), (b0, .inl (jb, 512, .inr (.inl fv)))] := hD
  refine lv_iconst (v := 0) hx hb dX1_decode_5 (by decide) ?_
  refine lv_istore_n (lv' := [(3, .int 0), (0, .ref g0), (1, .long a)]) hx hb dX1_decode_6 rfl hl (by decide) rfl (fun ls hl => ?_)
  refine lv_iconst (v := (-1)) hx hb dX1_decode_7 (by decide) ?_
  refine lv_istore (lv' := [(4, .int (-1)), (3, .int 0), (0, .ref g0), (1, .long a)]) hx hb dX1_decode_8 hl (by decide) rfl (fun ls hl => ?_)
  refine lv_iconst (v := 0) hx hb dX1_decode_10 (by decide) ?_
  refine lv_istore (lv' := [(5, .int 0), (4, .int (-1)), (3, .int 0), (0, .ref g0), (1, .long a)]) hx hb dX1_decode_11 hl (by decide) rfl (fun ls hl => ?_)
  have loop : ∀ (d i : Nat) (r q : Int32) (ls : Array Slot), k - i = d → i ≤ k → pt_F (fun j => pt_sh (fc j) (fv j) (pt_mk n) (a &&& pt_mk n)) i r → ((r = -1 ∧ q = 0) ∨ (¬ r = -1 ∧ q = 1)) → lv_has ls 6 [(5, .int (nI i)), (4, .int r), (3, .int q), (0, .ref g0), (1, .long a)] → W p l e (headSpec wsX1_decode ({ frames := 0, cells := 0, slots := 0, locals := 0 })).room s m args below meth c H locs 0 0 Q (F0 m 13 ls []) := by
    intro d
    induction d with
    | zero =>
      intro i r q ls hd hik hF hq hl
      have hik2 : i = k := by omega
      rw [hik2] at hF
      refine lv_iload hx hb dX1_decode_13 (lv_at hl 0 rfl) ?_
      refine lv_aload_n hx hb dX1_decode_15 rfl (lv_at hl 3 rfl) ?_
      refine va_get (D := (dC, dI)) (ci := 1) (v := .int (nI k)) (C := RX1) (T := TX1) (N := 7) hx hb hts (fun w h => List.mem_cons_of_mem _ (pt_wsX1 w h)) hown hK hP 0 rfl rfl 2 (by decide) (hts _ (List.mem_cons_of_mem _ pw163)) (fun _ h9 => h9) rfl dX1_decode_16 ?_
      refine lv_icmp_ge (tgt := 62) hx hb dX1_decode_19 (by decide) (fun h1 => ?_) (fun h1 => absurd (nI_le (by omega) (by omega)) h1)
      refine lv_iload_n hx hb dX1_decode_62 rfl (lv_at hl 2 rfl) ?_
      refine lv_iconst (v := 1) hx hb dX1_decode_63 (by decide) ?_
      refine lv_icmp_le (tgt := 79) hx hb dX1_decode_64 (by decide) (fun h2 => ?_) (fun h2 => absurd (by rcases hq with ⟨-, z⟩ | ⟨-, z⟩ <;> rw [z] <;> decide) h2)
      refine lv_iload hx hb dX1_decode_79 (lv_at hl 1 rfl) ?_
      rw [← hQ]
      exact W.iret (v := r) hx hb hr (fun t ht hW => ⟨⟨r, (), rfl, hF, by rw [ht]; exact hP, va_K.moved hW.alike hK, hD⟩, hS.F ht⟩) hS.2.2 dX1_decode_81
    | succ d ih =>
      intro i r q ls hd hik hF hq hl
      refine lv_iload hx hb dX1_decode_13 (lv_at hl 0 rfl) ?_
      refine lv_aload_n hx hb dX1_decode_15 rfl (lv_at hl 3 rfl) ?_
      refine va_get (D := (dC, dI)) (ci := 1) (v := .int (nI k)) (C := RX1) (T := TX1) (N := 7) hx hb hts (fun w h => List.mem_cons_of_mem _ (pt_wsX1 w h)) hown hK hP 0 rfl rfl 2 (by decide) (hts _ (List.mem_cons_of_mem _ pw163)) (fun _ h9 => h9) rfl dX1_decode_16 ?_
      refine lv_icmp_ge (tgt := 62) hx hb dX1_decode_19 (by decide) (fun h1 => absurd h1 (nI_ge (by omega) (by omega))) (fun h1 => ?_)
      refine lv_lload_n hx hb dX1_decode_22 rfl (lv_at hl 4 rfl) ?_
      refine lv_aload_n hx hb dX1_decode_23 rfl (lv_at hl 3 rfl) ?_
      refine va_get (D := (dC, dI)) (ci := 1) (v := .ref a0) (C := RX1) (T := TX1) (N := 7) hx hb hts (fun w h => List.mem_cons_of_mem _ (pt_wsX1 w h)) hown hK hP 0 rfl rfl 0 (by decide) (hts _ (List.mem_cons_of_mem _ pw161)) (fun _ h9 => h9) rfl dX1_decode_24 ?_
      refine lv_iload hx hb dX1_decode_27 (lv_at hl 0 rfl) ?_
      refine va_lald hx hb hK hP 1 0 rfl rfl (vp_in_nI (by omega) (by decide)) dX1_decode_29 ?_
      rw [nI_clamp (by omega)]
      refine lv_land hx hb dX1_decode_30 ?_
      refine lv_aload_n hx hb dX1_decode_31 rfl (lv_at hl 3 rfl) ?_
      refine va_get (D := (dC, dI)) (ci := 1) (v := .ref b0) (C := RX1) (T := TX1) (N := 7) hx hb hts (fun w h => List.mem_cons_of_mem _ (pt_wsX1 w h)) hown hK hP 0 rfl rfl 1 (by decide) (hts _ (List.mem_cons_of_mem _ pw162)) (fun _ h9 => h9) rfl dX1_decode_32 ?_
      refine lv_iload hx hb dX1_decode_35 (lv_at hl 0 rfl) ?_
      refine va_lald hx hb hK hP 2 1 rfl rfl (vp_in_nI (by omega) (by decide)) dX1_decode_37 ?_
      rw [nI_clamp (by omega)]
      refine W.lcmp hx hb dX1_decode_38 ?_
      have hdec := pt_sh_dec (a := fc i) (b := fv i) a (hI.2.2.2.1 i (by omega)) (hI.2.2.2.2.1 i (by omega))
      refine lv_if_eq (tgt := 45) hx hb dX1_decode_39 (by decide) (fun h2 => ?_) (fun h2 => ?_)
      · have hs := hdec.mpr (pt_cmp0.mp h2)
        rcases hq with ⟨hr1, rfl⟩ | ⟨hr1, -⟩
        · refine lv_iload_n hx hb dX1_decode_45 rfl (lv_at hl 2 rfl) ?_
          refine lv_if_ne (tgt := 53) hx hb dX1_decode_46 (by decide) (fun h3 => absurd rfl h3) (fun h3 => ?_)
          refine lv_iload hx hb dX1_decode_49 (lv_at hl 0 rfl) ?_
          refine lv_istore (lv' := [(4, .int (nI i)), (5, .int (nI i)), (3, .int 0), (0, .ref g0), (1, .long a)]) hx hb dX1_decode_51 hl (by decide) rfl (fun ls hl => ?_)
          refine lv_iinc (v := 1) (lv' := [(3, .int 1), (4, .int (nI i)), (5, .int (nI i)), (0, .ref g0), (1, .long a)]) hx hb dX1_decode_53 hl (k := 2) rfl (by decide) (by decide) rfl (fun ls hl => ?_)
          refine lv_iinc (v := nI (i + 1)) (lv' := [(5, .int (nI (i + 1))), (3, .int 1), (4, .int (nI i)), (0, .ref g0), (1, .long a)]) hx hb dX1_decode_56 hl (k := 2) rfl (by rw [nI_succ]; rfl) (by decide) rfl (fun ls hl => ?_)
          refine lv_goto (tgt := 13) hx hb dX1_decode_59 (by decide) ?_
          exact ih (i + 1) (nI i) 1 ls (by omega) (by omega) (pt_F_hit (hr1 ▸ hF) hs (by omega)) (Or.inr ⟨pt_nI_ne (by omega), rfl⟩) (lv_sub hl [0, 2, 1, 3, 4] rfl)
        · exact absurd hs (pt_I_two hI (by omega) hF hr1)
      · refine lv_goto (tgt := 56) hx hb dX1_decode_42 (by decide) ?_
        refine lv_iinc (v := nI (i + 1)) (lv' := [(5, .int (nI (i + 1))), (4, .int r), (3, .int q), (0, .ref g0), (1, .long a)]) hx hb dX1_decode_56 hl (k := 0) rfl (by rw [nI_succ]; rfl) (by decide) rfl (fun ls hl => ?_)
        refine lv_goto (tgt := 13) hx hb dX1_decode_59 (by decide) ?_
        exact ih (i + 1) r q ls (by omega) (by omega) (pt_F_miss hF (fun z => h2 (pt_cmp0.mpr (hdec.mp z)))) hq (lv_sub hl [0, 1, 2, 3, 4] rfl)
  exact loop k 0 (-1) 0 ls (by omega) (by omega) (Or.inl ⟨rfl, lt_0⟩) (Or.inl ⟨rfl, rfl⟩) (lv_sub hl [0, 1, 2, 3, 4] rfl)
set_option maxHeartbeats 4000000 in
set_option maxRecDepth 100000 in
/-- the reference: meets(c, w) -/
theorem c_mmeets (l : Launch) (dC : Nat → ClassId) (dI : Nat → Nat → Nat) (g0 a0 b0 : Nat) (ja jb : ClassId) (k n : Nat) (fc fv : Nat → Int64) (cl su th : Int32) (a b : Int64) (sz : Nat) (hI : pt_I k n fc fv) : Met l yX1_meets wsX1_meets ({ frames := 3, cells := 0, slots := 0, locals := 70 }) (va_Pc [.ref g0, .long a, .long b] (fun U => U.heap.size = sz ∧ va_P (dC, dI) vwCl [(g0, .inr (1, [.ref a0, .ref b0, .int (nI k), .int (nI n), .int cl, .int su, .int th])), (a0, .inl (ja, 512, .inr (.inl fc))), (b0, .inl (jb, 512, .inr (.inl fv)))] U.heap ∧ va_K (dC, dI) vwCl [(ja, .long), (jb, .long)] U ∧ va_D (fun _ => True) [(g0, .inr (1, [.ref a0, .ref b0, .int (nI k), .int (nI n), .int cl, .int su, .int th])), (a0, .inl (ja, 512, .inr (.inl fc))), (b0, .inl (jb, 512, .inr (.inl fv)))])) (va_Qi (fun (r : Int32) u => pt_Rmeets k n fc fv a b u r.toInt64) (fun (u : Int32) (t : State) => match u with | th2 => va_P (dC, dI) vwCl [(g0, .inr (1, [.ref a0, .ref b0, .int (nI k), .int (nI n), .int cl, .int su, .int th2])), (a0, .inl (ja, 512, .inr (.inl fc))), (b0, .inl (jb, 512, .inr (.inl fv)))] t.heap ∧ va_K (dC, dI) vwCl [(ja, .long), (jb, .long)] t ∧ va_D (va_A [(g0, .inr (1, [.ref a0, .ref b0, .int (nI k), .int (nI n), .int cl, .int su, .int th])), (a0, .inl (ja, 512, .inr (.inl fc))), (b0, .inl (jb, 512, .inr (.inl fv)))] sz) [(g0, .inr (1, [.ref a0, .ref b0, .int (nI k), .int (nI n), .int cl, .int su, .int th2])), (a0, .inl (ja, 512, .inr (.inl fc))), (b0, .inl (jb, 512, .inr (.inl fv)))]) (va_A [(g0, .inr (1, [.ref a0, .ref b0, .int (nI k), .int (nI n), .int cl, .int su, .int th])), (a0, .inl (ja, 512, .inr (.inl fc))), (b0, .inl (jb, 512, .inr (.inl fv)))] sz)) 0 0 (va_A [(g0, .inr (1, [.ref a0, .ref b0, .int (nI k), .int (nI n), .int cl, .int su, .int th])), (a0, .inl (ja, 512, .inr (.inl fc))), (b0, .inl (jb, 512, .inr (.inl fv)))] sz) := by
  refine Met.ofW (cc := cX1_meets) (maxL := 5) (ret := (some .int)) (by decide) rfl ?_
  intro p e s m args below meth c s₁ B hml hv
  obtain ⟨ha, hsz, hP, hK, hD0⟩ := hv
  subst hsz
  have hx := B.exec
  have hb := B.bytes
  have hr := B.returns
  have hts := atoms_spec (ws := wsX1_meets) B.pre
  have hown : s.vm.findClass RX1 = some m.cls := findClass_of_methodNamed B.named
  have hlocks := B.notSynchronized
  have hl := lv_entry ([.ref g0, .long a, .long b]) (n := 5) (Nat.le_of_ble_eq_true rfl)
  refine W.eq (show entryFrame m args 5 = entryFrame m ([.ref g0, .long a, .long b] : List Value).toArray 5 by rw [ha]) ?_
  rw [lg_entry_eq]
  generalize (lg_sl ([.ref g0, .long a, .long b]) ++ List.replicate (5 - (lg_sl ([.ref g0, .long a, .long b])).length) Slot.unset).toArray = ls at hl ⊢
  have hl : lv_has ls 5 [(0, .ref g0), (1, .long a), (3, .long b)] := hl
  have hD := hD0.self (sz := s.heap.size)
  generalize hAe : va_A [(g0, .inr (1, [.ref a0, .ref b0, .int (nI k), .int (nI n), .int cl, .int su, .int th])), (a0, .inl (ja, 512, .inr (.inl fc))), (b0, .inl (jb, 512, .inr (.inl fv)))] s.heap.size = A at hD ⊢
  have hA : ∀ q : Nat, s.heap.size ≤ q → A q := fun q h => by rw [← hAe]; exact Or.inr h
  have hS : va_S A s.heap s.heap [] := va_S.rf
  generalize hQ : MQ below (va_Qi (fun (r : Int32) u => pt_Rmeets k n fc fv a b u r.toInt64) (fun (u : Int32) (t : State) => match u with | th2 => va_P (dC, dI) vwCl [(g0, .inr (1, [.ref a0, .ref b0, .int (nI k), .int (nI n), .int cl, .int su, .int th2])), (a0, .inl (ja, 512, .inr (.inl fc))), (b0, .inl (jb, 512, .inr (.inl fv)))] t.heap ∧ va_K (dC, dI) vwCl [(ja, .long), (jb, .long)] t ∧ va_D A [(g0, .inr (1, [.ref a0, .ref b0, .int (nI k), .int (nI n), .int cl, .int su, .int th2])), (a0, .inl (ja, 512, .inr (.inl fc))), (b0, .inl (jb, 512, .inr (.inl fv)))]) A) args s 0 0 A = Q
  have hP : va_P (dC, dI) vwCl [(g0, .inr (1, [.ref a0, .ref b0, .int (nI k), .int (nI n), .int cl, .int su, .int th])), (a0, .inl (ja, 512, .inr (.inl fc))), (b0, .inl (jb, 512, .inr (.inl fv)))] s.heap := hP
  have hn1 := hI.2.1
  have hn2 := hI.2.2.1
  have hk := hI.1
  refine lv_aload_n hx hb dX1_meets_0 rfl (lv_at hl 0 rfl) ?_
  refine lv_iconst (v := 0) hx hb dX1_meets_1 (by decide) ?_
  refine va_put (D := (dC, dI)) (ci := 1) (v := .int 0) (ty := .int) (C := RX1) (T := TX1) (N := 7) hx hb hts (fun w h => List.mem_cons_of_mem _ (pt_wsX1 w h)) tyX1 tyX1_ok nmX1 hown hK hP hD hS 0 rfl rfl 6 (by decide) (hts _ (List.mem_cons_of_mem _ pw167)) (fun _ h9 => h9) rfl (by decide +kernel) rfl rfl (Nat.le_of_ble_eq_true rfl) dX1_meets_2 (fun H locs hP hD hS => ?_)
  have hP : va_P (dC, dI) vwCl [(g0, .inr (1, [.ref a0, .ref b0, .int (nI k), .int (nI n), .int cl, .int su, .int 0])), (a0, .inl (ja, 512, .inr (.inl fc))), (b0, .inl (jb, 512, .inr (.inl fv)))] H := hP
  have hD : va_D A [(g0, .inr (1, [.ref a0, .ref b0, .int (nI k), .int (nI n), .int cl, .int su, .int 0])), (a0, .inl (ja, 512, .inr (.inl fc))), (b0, .inl (jb, 512, .inr (.inl fv)))] := hD
  refine lv_aload_n hx hb dX1_meets_5 rfl (lv_at hl 0 rfl) ?_
  refine lv_lload_n hx hb dX1_meets_6 rfl (lv_at hl 1 rfl) ?_
  refine lv_lload_n hx hb dX1_meets_7 rfl (lv_at hl 2 rfl) ?_
  refine vp_callSi (W.runV (As := [.long a, .long b]) (rest := []) ⟨hx, hb, hml, hown, hts⟩ (c_wrong l dC dI g0 a0 b0 ja jb k n fc fv cl su 0 a b hn1 hn2) (cwV 2 hts (pt_gV pw190 pw191 pw10 pw18 pw192) rfl rfl rfl (by decide +kernel) ⟨Nat.le_of_ble_eq_true rfl, Nat.le_of_ble_eq_true rfl⟩) ⟨fun a U g mk q => by obtain ⟨q0, qP, qK⟩ := q; exact ⟨q0, qP, va_K.moved (u := U) (U := U.calling g mk a) (Vm.Alike.refl U.vm) qK⟩, va_recv hK hP (ci := 1) (q0 := 0) rfl rfl, fun U hU hW => ⟨rfl, by rw [hU]; exact hP, va_K.moved hW.alike hK⟩⟩ rfl rfl hl.1 rfl (lv_room (Nat.le_of_ble_eq_true rfl)) dX1_meets_8 ⟨Nat.zero_le _, Nat.zero_le _⟩) (fun r1 hw => ?_)
  rcases hw with ⟨rfl, hst⟩ | ⟨rfl, hst⟩
  · refine lv_if_eq (tgt := 22) hx hb dX1_meets_11 (by decide) (fun h1 => absurd h1 (by decide)) (fun h1 => ?_)
    refine lv_aload_n hx hb dX1_meets_14 rfl (lv_at hl 0 rfl) ?_
    refine lv_iconst (v := 1) hx hb dX1_meets_15 (by decide) ?_
    have hPc := hP.sub (ws' := [(g0, .inr (1, [.ref a0, .ref b0, .int (nI k), .int (nI n), .int cl, .int su, .int 0])), (a0, .inl (ja, 512, .inr (.inl fc))), (b0, .inl (jb, 512, .inr (.inl fv)))]) [0, 1, 2] rfl
    have hDc := hD.sub (ws' := [(g0, .inr (1, [.ref a0, .ref b0, .int (nI k), .int (nI n), .int cl, .int su, .int 0])), (a0, .inl (ja, 512, .inr (.inl fc))), (b0, .inl (jb, 512, .inr (.inl fv)))]) [0, 1, 2] (by decide) rfl
    have hKc := hK.sub (tys' := [(ja, .long), (jb, .long)]) [0, 1] rfl
    have hFc := va_free (wc := [(g0, .inr (1, [.ref a0, .ref b0, .int (nI k), .int (nI n), .int cl, .int su, .int 0])), (a0, .inl (ja, 512, .inr (.inl fc))), (b0, .inl (jb, 512, .inr (.inl fv)))]) hD hS hA [0, 1, 2] rfl
    refine va_calli (va_runV (As := [.int 1]) (rest := []) ⟨hx, hb, hml, hown, hts⟩ (c_fail l dC dI g0 a0 b0 ja jb (nI k) (nI n) fc fv cl su 0 1 H.size ) (cwV 1 hts (pt_gV pw183 pw184 pw9 pw18 pw185) rfl rfl rfl (by decide +kernel) ⟨Nat.le_of_ble_eq_true rfl, Nat.le_of_ble_eq_true rfl⟩) ⟨fun a U g mk q => by obtain ⟨q0, q1, qP, qK, qD⟩ := q; exact ⟨q0, q1, qP, va_K.moved (u := U) (U := U.calling g mk a) (Vm.Alike.refl U.vm) qK, qD⟩, va_recv hK hP (ci := 1) (q0 := 0) rfl rfl, fun U hU hW => ⟨rfl, by rw [hU], by rw [hU]; exact hPc, va_K.moved hW.alike hKc, hDc.weaken (fun _ _ _ _ => trivial)⟩⟩ rfl rfl hl.1 rfl (lv_room (Nat.le_of_ble_eq_true rfl)) dX1_meets_16 ⟨Nat.zero_le _, Nat.zero_le _⟩) hS (fun q _ h => hFc q h) hFc (fun r2 u t H1 locs ht hvm hw hB hz1 hk1 hS => ?_)
    obtain ⟨hP1, hK1, hD1⟩ := hB
    rw [ht] at hP1
    obtain ⟨hP, hD⟩ := va_join (wr := ([] : va_W)) (w1 := [(g0, .inr (1, [.ref a0, .ref b0, .int (nI k), .int (nI n), .int cl, .int su, .int 1])), (a0, .inl (ja, 512, .inr (.inl fc))), (b0, .inl (jb, 512, .inr (.inl fv)))]) hP hD [0, 1, 2] [] rfl rfl (by decide) (by decide) hk1 hFc hP1 hD1
    generalize H1 = H at hP hS ⊢
    have hP : va_P (dC, dI) vwCl [(g0, .inr (1, [.ref a0, .ref b0, .int (nI k), .int (nI n), .int cl, .int su, .int 1])), (a0, .inl (ja, 512, .inr (.inl fc))), (b0, .inl (jb, 512, .inr (.inl fv)))] H := hP
    have hD : va_D A [(g0, .inr (1, [.ref a0, .ref b0, .int (nI k), .int (nI n), .int cl, .int su, .int 1])), (a0, .inl (ja, 512, .inr (.inl fc))), (b0, .inl (jb, 512, .inr (.inl fv)))] := hD
    subst hw
    refine lv_goto (tgt := 28) hx hb dX1_meets_19 (by decide) ?_
    rw [← hQ]
    exact W.iret (v := 0) hx hb hr (fun t ht hW => ⟨⟨0, 1, rfl, Or.inl ⟨hst, rfl⟩, by rw [ht]; exact hP, va_K.moved hW.alike hK, hD⟩, hS.F ht⟩) hS.2.2 dX1_meets_28
  · refine lv_if_eq (tgt := 22) hx hb dX1_meets_11 (by decide) (fun h1 => ?_) (fun h1 => absurd rfl h1)
    refine lv_aload_n hx hb dX1_meets_22 rfl (lv_at hl 0 rfl) ?_
    refine lv_lload_n hx hb dX1_meets_23 rfl (lv_at hl 1 rfl) ?_
    refine lv_lload_n hx hb dX1_meets_24 rfl (lv_at hl 2 rfl) ?_
    refine vp_callSi (W.runV (As := [.long a, .long b]) (rest := []) ⟨hx, hb, hml, hown, hts⟩ (c_first l dC dI g0 a0 b0 ja jb k n fc fv cl su 0 a b hk hn1 hn2) (cwV 2 hts (pt_gV pw197 pw198 pw12 pw18 pw199) rfl rfl rfl (by decide +kernel) ⟨Nat.le_of_ble_eq_true rfl, Nat.le_of_ble_eq_true rfl⟩) ⟨fun a U g mk q => by obtain ⟨q0, qP, qK⟩ := q; exact ⟨q0, qP, va_K.moved (u := U) (U := U.calling g mk a) (Vm.Alike.refl U.vm) qK⟩, va_recv hK hP (ci := 1) (q0 := 0) rfl rfl, fun U hU hW => ⟨rfl, by rw [hU]; exact hP, va_K.moved hW.alike hK⟩⟩ rfl rfl hl.1 rfl (lv_room (Nat.le_of_ble_eq_true rfl)) dX1_meets_25 ⟨Nat.zero_le _, Nat.zero_le _⟩) (fun r3 hF => ?_)
    rw [← hQ]
    exact W.iret (v := r3) hx hb hr (fun t ht hW => ⟨⟨r3, 0, rfl, Or.inr ⟨hst, rfl, r3, hF, rfl⟩, by rw [ht]; exact hP, va_K.moved hW.alike hK, hD⟩, hS.F ht⟩) hS.2.2 dX1_meets_28
set_option maxHeartbeats 4000000 in
set_option maxRecDepth 100000 in
/-- the reference: free(c, w) -/
theorem c_mfree (l : Launch) (dC : Nat → ClassId) (dI : Nat → Nat → Nat) (g0 a0 b0 : Nat) (ja jb : ClassId) (k n : Nat) (fc fv : Nat → Int64) (cl su th : Int32) (a b : Int64) (sz : Nat) (hI : pt_I k n fc fv) : Met l yX1_free wsX1_free ({ frames := 3, cells := 0, slots := 0, locals := 72 }) (va_Pc [.ref g0, .long a, .long b] (fun U => U.heap.size = sz ∧ va_P (dC, dI) vwCl [(g0, .inr (1, [.ref a0, .ref b0, .int (nI k), .int (nI n), .int cl, .int su, .int th])), (a0, .inl (ja, 512, .inr (.inl fc))), (b0, .inl (jb, 512, .inr (.inl fv)))] U.heap ∧ va_K (dC, dI) vwCl [(ja, .long), (jb, .long)] U ∧ va_D (fun _ => True) [(g0, .inr (1, [.ref a0, .ref b0, .int (nI k), .int (nI n), .int cl, .int su, .int th])), (a0, .inl (ja, 512, .inr (.inl fc))), (b0, .inl (jb, 512, .inr (.inl fv)))])) (va_Ql (fun (r : Int64) u => pt_Rfree k n fc fv a b u r) (fun (u : Int32) (t : State) => match u with | th2 => va_P (dC, dI) vwCl [(g0, .inr (1, [.ref a0, .ref b0, .int (nI k), .int (nI n), .int cl, .int su, .int th2])), (a0, .inl (ja, 512, .inr (.inl fc))), (b0, .inl (jb, 512, .inr (.inl fv)))] t.heap ∧ va_K (dC, dI) vwCl [(ja, .long), (jb, .long)] t ∧ va_D (va_A [(g0, .inr (1, [.ref a0, .ref b0, .int (nI k), .int (nI n), .int cl, .int su, .int th])), (a0, .inl (ja, 512, .inr (.inl fc))), (b0, .inl (jb, 512, .inr (.inl fv)))] sz) [(g0, .inr (1, [.ref a0, .ref b0, .int (nI k), .int (nI n), .int cl, .int su, .int th2])), (a0, .inl (ja, 512, .inr (.inl fc))), (b0, .inl (jb, 512, .inr (.inl fv)))]) (va_A [(g0, .inr (1, [.ref a0, .ref b0, .int (nI k), .int (nI n), .int cl, .int su, .int th])), (a0, .inl (ja, 512, .inr (.inl fc))), (b0, .inl (jb, 512, .inr (.inl fv)))] sz)) 0 0 (va_A [(g0, .inr (1, [.ref a0, .ref b0, .int (nI k), .int (nI n), .int cl, .int su, .int th])), (a0, .inl (ja, 512, .inr (.inl fc))), (b0, .inl (jb, 512, .inr (.inl fv)))] sz) := by
  refine Met.ofW (cc := cX1_free) (maxL := 5) (ret := (some .long)) (by decide) rfl ?_
  intro p e s m args below meth c s₁ B hml hv
  obtain ⟨ha, hsz, hP, hK, hD0⟩ := hv
  subst hsz
  have hx := B.exec
  have hb := B.bytes
  have hr := B.returns
  have hts := atoms_spec (ws := wsX1_free) B.pre
  have hown : s.vm.findClass RX1 = some m.cls := findClass_of_methodNamed B.named
  have hlocks := B.notSynchronized
  have hl := lv_entry ([.ref g0, .long a, .long b]) (n := 5) (Nat.le_of_ble_eq_true rfl)
  refine W.eq (show entryFrame m args 5 = entryFrame m ([.ref g0, .long a, .long b] : List Value).toArray 5 by rw [ha]) ?_
  rw [lg_entry_eq]
  generalize (lg_sl ([.ref g0, .long a, .long b]) ++ List.replicate (5 - (lg_sl ([.ref g0, .long a, .long b])).length) Slot.unset).toArray = ls at hl ⊢
  have hl : lv_has ls 5 [(0, .ref g0), (1, .long a), (3, .long b)] := hl
  have hD := hD0.self (sz := s.heap.size)
  generalize hAe : va_A [(g0, .inr (1, [.ref a0, .ref b0, .int (nI k), .int (nI n), .int cl, .int su, .int th])), (a0, .inl (ja, 512, .inr (.inl fc))), (b0, .inl (jb, 512, .inr (.inl fv)))] s.heap.size = A at hD ⊢
  have hA : ∀ q : Nat, s.heap.size ≤ q → A q := fun q h => by rw [← hAe]; exact Or.inr h
  have hS : va_S A s.heap s.heap [] := va_S.rf
  generalize hQ : MQ below (va_Ql (fun (r : Int64) u => pt_Rfree k n fc fv a b u r) (fun (u : Int32) (t : State) => match u with | th2 => va_P (dC, dI) vwCl [(g0, .inr (1, [.ref a0, .ref b0, .int (nI k), .int (nI n), .int cl, .int su, .int th2])), (a0, .inl (ja, 512, .inr (.inl fc))), (b0, .inl (jb, 512, .inr (.inl fv)))] t.heap ∧ va_K (dC, dI) vwCl [(ja, .long), (jb, .long)] t ∧ va_D A [(g0, .inr (1, [.ref a0, .ref b0, .int (nI k), .int (nI n), .int cl, .int su, .int th2])), (a0, .inl (ja, 512, .inr (.inl fc))), (b0, .inl (jb, 512, .inr (.inl fv)))]) A) args s 0 0 A = Q
  have hP : va_P (dC, dI) vwCl [(g0, .inr (1, [.ref a0, .ref b0, .int (nI k), .int (nI n), .int cl, .int su, .int th])), (a0, .inl (ja, 512, .inr (.inl fc))), (b0, .inl (jb, 512, .inr (.inl fv)))] s.heap := hP
  have hn1 := hI.2.1
  have hn2 := hI.2.2.1
  have hk := hI.1
  refine lv_aload_n hx hb dX1_free_0 rfl (lv_at hl 0 rfl) ?_
  refine lv_iconst (v := 0) hx hb dX1_free_1 (by decide) ?_
  refine va_put (D := (dC, dI)) (ci := 1) (v := .int 0) (ty := .int) (C := RX1) (T := TX1) (N := 7) hx hb hts (fun w h => List.mem_cons_of_mem _ (pt_wsX1 w h)) tyX1 tyX1_ok nmX1 hown hK hP hD hS 0 rfl rfl 6 (by decide) (hts _ (List.mem_cons_of_mem _ pw167)) (fun _ h9 => h9) rfl (by decide +kernel) rfl rfl (Nat.le_of_ble_eq_true rfl) dX1_free_2 (fun H locs hP hD hS => ?_)
  have hP : va_P (dC, dI) vwCl [(g0, .inr (1, [.ref a0, .ref b0, .int (nI k), .int (nI n), .int cl, .int su, .int 0])), (a0, .inl (ja, 512, .inr (.inl fc))), (b0, .inl (jb, 512, .inr (.inl fv)))] H := hP
  have hD : va_D A [(g0, .inr (1, [.ref a0, .ref b0, .int (nI k), .int (nI n), .int cl, .int su, .int 0])), (a0, .inl (ja, 512, .inr (.inl fc))), (b0, .inl (jb, 512, .inr (.inl fv)))] := hD
  refine lv_aload_n hx hb dX1_free_5 rfl (lv_at hl 0 rfl) ?_
  refine lv_lload_n hx hb dX1_free_6 rfl (lv_at hl 1 rfl) ?_
  refine lv_lload_n hx hb dX1_free_7 rfl (lv_at hl 2 rfl) ?_
  refine vp_callSi (W.runV (As := [.long a, .long b]) (rest := []) ⟨hx, hb, hml, hown, hts⟩ (c_wrong l dC dI g0 a0 b0 ja jb k n fc fv cl su 0 a b hn1 hn2) (cwV 2 hts (pt_gV pw190 pw191 pw10 pw18 pw192) rfl rfl rfl (by decide +kernel) ⟨Nat.le_of_ble_eq_true rfl, Nat.le_of_ble_eq_true rfl⟩) ⟨fun a U g mk q => by obtain ⟨q0, qP, qK⟩ := q; exact ⟨q0, qP, va_K.moved (u := U) (U := U.calling g mk a) (Vm.Alike.refl U.vm) qK⟩, va_recv hK hP (ci := 1) (q0 := 0) rfl rfl, fun U hU hW => ⟨rfl, by rw [hU]; exact hP, va_K.moved hW.alike hK⟩⟩ rfl rfl hl.1 rfl (lv_room (Nat.le_of_ble_eq_true rfl)) dX1_free_8 ⟨Nat.zero_le _, Nat.zero_le _⟩) (fun r1 hw => ?_)
  rcases hw with ⟨rfl, hst⟩ | ⟨rfl, hst⟩
  · refine lv_if_eq (tgt := 23) hx hb dX1_free_11 (by decide) (fun h1 => absurd h1 (by decide)) (fun h1 => ?_)
    refine lv_aload_n hx hb dX1_free_14 rfl (lv_at hl 0 rfl) ?_
    refine lv_iconst (v := 1) hx hb dX1_free_15 (by decide) ?_
    have hPc := hP.sub (ws' := [(g0, .inr (1, [.ref a0, .ref b0, .int (nI k), .int (nI n), .int cl, .int su, .int 0])), (a0, .inl (ja, 512, .inr (.inl fc))), (b0, .inl (jb, 512, .inr (.inl fv)))]) [0, 1, 2] rfl
    have hDc := hD.sub (ws' := [(g0, .inr (1, [.ref a0, .ref b0, .int (nI k), .int (nI n), .int cl, .int su, .int 0])), (a0, .inl (ja, 512, .inr (.inl fc))), (b0, .inl (jb, 512, .inr (.inl fv)))]) [0, 1, 2] (by decide) rfl
    have hKc := hK.sub (tys' := [(ja, .long), (jb, .long)]) [0, 1] rfl
    have hFc := va_free (wc := [(g0, .inr (1, [.ref a0, .ref b0, .int (nI k), .int (nI n), .int cl, .int su, .int 0])), (a0, .inl (ja, 512, .inr (.inl fc))), (b0, .inl (jb, 512, .inr (.inl fv)))]) hD hS hA [0, 1, 2] rfl
    refine va_calli (va_runV (As := [.int 1]) (rest := []) ⟨hx, hb, hml, hown, hts⟩ (c_fail l dC dI g0 a0 b0 ja jb (nI k) (nI n) fc fv cl su 0 1 H.size ) (cwV 1 hts (pt_gV pw183 pw184 pw9 pw18 pw185) rfl rfl rfl (by decide +kernel) ⟨Nat.le_of_ble_eq_true rfl, Nat.le_of_ble_eq_true rfl⟩) ⟨fun a U g mk q => by obtain ⟨q0, q1, qP, qK, qD⟩ := q; exact ⟨q0, q1, qP, va_K.moved (u := U) (U := U.calling g mk a) (Vm.Alike.refl U.vm) qK, qD⟩, va_recv hK hP (ci := 1) (q0 := 0) rfl rfl, fun U hU hW => ⟨rfl, by rw [hU], by rw [hU]; exact hPc, va_K.moved hW.alike hKc, hDc.weaken (fun _ _ _ _ => trivial)⟩⟩ rfl rfl hl.1 rfl (lv_room (Nat.le_of_ble_eq_true rfl)) dX1_free_16 ⟨Nat.zero_le _, Nat.zero_le _⟩) hS (fun q _ h => hFc q h) hFc (fun r2 u t H1 locs ht hvm hw hB hz1 hk1 hS => ?_)
    obtain ⟨hP1, hK1, hD1⟩ := hB
    rw [ht] at hP1
    obtain ⟨hP, hD⟩ := va_join (wr := ([] : va_W)) (w1 := [(g0, .inr (1, [.ref a0, .ref b0, .int (nI k), .int (nI n), .int cl, .int su, .int 1])), (a0, .inl (ja, 512, .inr (.inl fc))), (b0, .inl (jb, 512, .inr (.inl fv)))]) hP hD [0, 1, 2] [] rfl rfl (by decide) (by decide) hk1 hFc hP1 hD1
    generalize H1 = H at hP hS ⊢
    have hP : va_P (dC, dI) vwCl [(g0, .inr (1, [.ref a0, .ref b0, .int (nI k), .int (nI n), .int cl, .int su, .int 1])), (a0, .inl (ja, 512, .inr (.inl fc))), (b0, .inl (jb, 512, .inr (.inl fv)))] H := hP
    have hD : va_D A [(g0, .inr (1, [.ref a0, .ref b0, .int (nI k), .int (nI n), .int cl, .int su, .int 1])), (a0, .inl (ja, 512, .inr (.inl fc))), (b0, .inl (jb, 512, .inr (.inl fv)))] := hD
    subst hw
    refine lv_i2l (v := (0 : Int32).toInt64) hx hb dX1_free_19 rfl ?_
    refine lv_goto (tgt := 29) hx hb dX1_free_20 (by decide) ?_
    rw [← hQ]
    exact W.lret (v := (0 : Int32).toInt64) hx hb hr (fun t ht hW => ⟨⟨(0 : Int32).toInt64, 1, rfl, Or.inl ⟨hst, rfl⟩, by rw [ht]; exact hP, va_K.moved hW.alike hK, hD⟩, hS.F ht⟩) hS.2.2 dX1_free_29
  · refine lv_if_eq (tgt := 23) hx hb dX1_free_11 (by decide) (fun h1 => ?_) (fun h1 => absurd rfl h1)
    refine lv_aload_n hx hb dX1_free_23 rfl (lv_at hl 0 rfl) ?_
    refine lv_lload_n hx hb dX1_free_24 rfl (lv_at hl 1 rfl) ?_
    refine lv_lload_n hx hb dX1_free_25 rfl (lv_at hl 2 rfl) ?_
    refine vp_callSl (W.runV (As := [.long a, .long b]) (rest := []) ⟨hx, hb, hml, hown, hts⟩ (c_none l dC dI g0 a0 b0 ja jb k n fc fv cl su 0 a b hI) (cwV 2 hts (pt_gV pw226 pw227 pw14 pw18 pw228) rfl rfl rfl (by decide +kernel) ⟨Nat.le_of_ble_eq_true rfl, Nat.le_of_ble_eq_true rfl⟩) ⟨fun a U g mk q => by obtain ⟨q0, qP, qK⟩ := q; exact ⟨q0, qP, va_K.moved (u := U) (U := U.calling g mk a) (Vm.Alike.refl U.vm) qK⟩, va_recv hK hP (ci := 1) (q0 := 0) rfl rfl, fun U hU hW => ⟨rfl, by rw [hU]; exact hP, va_K.moved hW.alike hK⟩⟩ rfl rfl hl.1 rfl (lv_room (Nat.le_of_ble_eq_true rfl)) dX1_free_26 ⟨Nat.zero_le _, Nat.zero_le _⟩) (fun r3 hw => ?_)
    rw [← hQ]
    exact W.lret (v := r3) hx hb hr (fun t ht hW => ⟨⟨r3, 0, rfl, Or.inr ⟨hst, rfl, hw⟩, by rw [ht]; exact hP, va_K.moved hW.alike hK, hD⟩, hS.F ht⟩) hS.2.2 dX1_free_29
set_option maxHeartbeats 4000000 in
set_option maxRecDepth 100000 in
/-- the reference: next(word) -/
theorem c_mnext (l : Launch) (dC : Nat → ClassId) (dI : Nat → Nat → Nat) (g0 a0 b0 : Nat) (ja jb : ClassId) (k n : Nat) (fc fv : Nat → Int64) (cl su th : Int32) (a : Int64) (sz : Nat) (hI : pt_I k n fc fv) : Met l yX1_next wsX1_next ({ frames := 4, cells := 0, slots := 0, locals := 96 }) (va_Pc [.ref g0, .long a] (fun U => U.heap.size = sz ∧ va_P (dC, dI) vwCl [(g0, .inr (1, [.ref a0, .ref b0, .int (nI k), .int (nI n), .int cl, .int su, .int th])), (a0, .inl (ja, 512, .inr (.inl fc))), (b0, .inl (jb, 512, .inr (.inl fv)))] U.heap ∧ va_K (dC, dI) vwCl [(ja, .long), (jb, .long)] U ∧ va_D (fun _ => True) [(g0, .inr (1, [.ref a0, .ref b0, .int (nI k), .int (nI n), .int cl, .int su, .int th])), (a0, .inl (ja, 512, .inr (.inl fc))), (b0, .inl (jb, 512, .inr (.inl fv)))])) (va_Ql (fun (r : Int64) u => pt_Rnext k n fc fv a u r) (fun (u : Int32) (t : State) => match u with | th2 => va_P (dC, dI) vwCl [(g0, .inr (1, [.ref a0, .ref b0, .int (nI k), .int (nI n), .int cl, .int su, .int th2])), (a0, .inl (ja, 512, .inr (.inl fc))), (b0, .inl (jb, 512, .inr (.inl fv)))] t.heap ∧ va_K (dC, dI) vwCl [(ja, .long), (jb, .long)] t ∧ va_D (va_A [(g0, .inr (1, [.ref a0, .ref b0, .int (nI k), .int (nI n), .int cl, .int su, .int th])), (a0, .inl (ja, 512, .inr (.inl fc))), (b0, .inl (jb, 512, .inr (.inl fv)))] sz) [(g0, .inr (1, [.ref a0, .ref b0, .int (nI k), .int (nI n), .int cl, .int su, .int th2])), (a0, .inl (ja, 512, .inr (.inl fc))), (b0, .inl (jb, 512, .inr (.inl fv)))]) (va_A [(g0, .inr (1, [.ref a0, .ref b0, .int (nI k), .int (nI n), .int cl, .int su, .int th])), (a0, .inl (ja, 512, .inr (.inl fc))), (b0, .inl (jb, 512, .inr (.inl fv)))] sz)) 0 0 (va_A [(g0, .inr (1, [.ref a0, .ref b0, .int (nI k), .int (nI n), .int cl, .int su, .int th])), (a0, .inl (ja, 512, .inr (.inl fc))), (b0, .inl (jb, 512, .inr (.inl fv)))] sz) := by
  refine Met.ofW (cc := cX1_next) (maxL := 13) (ret := (some .long)) (by decide) rfl ?_
  intro p e s m args below meth c s₁ B hml hv
  obtain ⟨ha, hsz, hP, hK, hD0⟩ := hv
  subst hsz
  have hx := B.exec
  have hb := B.bytes
  have hr := B.returns
  have hts := atoms_spec (ws := wsX1_next) B.pre
  have hown : s.vm.findClass RX1 = some m.cls := findClass_of_methodNamed B.named
  have hlocks := B.notSynchronized
  have hl := lv_entry ([.ref g0, .long a]) (n := 13) (Nat.le_of_ble_eq_true rfl)
  refine W.eq (show entryFrame m args 13 = entryFrame m ([.ref g0, .long a] : List Value).toArray 13 by rw [ha]) ?_
  rw [lg_entry_eq]
  generalize (lg_sl ([.ref g0, .long a]) ++ List.replicate (13 - (lg_sl ([.ref g0, .long a])).length) Slot.unset).toArray = ls at hl ⊢
  have hl : lv_has ls 13 [(0, .ref g0), (1, .long a)] := hl
  have hD := hD0.self (sz := s.heap.size)
  generalize hAe : va_A [(g0, .inr (1, [.ref a0, .ref b0, .int (nI k), .int (nI n), .int cl, .int su, .int th])), (a0, .inl (ja, 512, .inr (.inl fc))), (b0, .inl (jb, 512, .inr (.inl fv)))] s.heap.size = A at hD ⊢
  have hA : ∀ q : Nat, s.heap.size ≤ q → A q := fun q h => by rw [← hAe]; exact Or.inr h
  have hS : va_S A s.heap s.heap [] := va_S.rf
  generalize hQ : MQ below (va_Ql (fun (r : Int64) u => pt_Rnext k n fc fv a u r) (fun (u : Int32) (t : State) => match u with | th2 => va_P (dC, dI) vwCl [(g0, .inr (1, [.ref a0, .ref b0, .int (nI k), .int (nI n), .int cl, .int su, .int th2])), (a0, .inl (ja, 512, .inr (.inl fc))), (b0, .inl (jb, 512, .inr (.inl fv)))] t.heap ∧ va_K (dC, dI) vwCl [(ja, .long), (jb, .long)] t ∧ va_D A [(g0, .inr (1, [.ref a0, .ref b0, .int (nI k), .int (nI n), .int cl, .int su, .int th2])), (a0, .inl (ja, 512, .inr (.inl fc))), (b0, .inl (jb, 512, .inr (.inl fv)))]) A) args s 0 0 A = Q
  have hP : va_P (dC, dI) vwCl [(g0, .inr (1, [.ref a0, .ref b0, .int (nI k), .int (nI n), .int cl, .int su, .int th])), (a0, .inl (ja, 512, .inr (.inl fc))), (b0, .inl (jb, 512, .inr (.inl fv)))] s.heap := hP
  have hn1 := hI.2.1
  have hn2 := hI.2.2.1
  have hk := hI.1
  refine lv_aload_n hx hb dX1_next_0 rfl (lv_at hl 0 rfl) ?_
  refine lv_iconst (v := 0) hx hb dX1_next_1 (by decide) ?_
  refine va_put (D := (dC, dI)) (ci := 1) (v := .int 0) (ty := .int) (C := RX1) (T := TX1) (N := 7) hx hb hts (fun w h => List.mem_cons_of_mem _ (pt_wsX1 w h)) tyX1 tyX1_ok nmX1 hown hK hP hD hS 0 rfl rfl 6 (by decide) (hts _ (List.mem_cons_of_mem _ pw167)) (fun _ h9 => h9) rfl (by decide +kernel) rfl rfl (Nat.le_of_ble_eq_true rfl) dX1_next_2 (fun H locs hP hD hS => ?_)
  have hP : va_P (dC, dI) vwCl [(g0, .inr (1, [.ref a0, .ref b0, .int (nI k), .int (nI n), .int cl, .int su, .int 0])), (a0, .inl (ja, 512, .inr (.inl fc))), (b0, .inl (jb, 512, .inr (.inl fv)))] H := hP
  have hD : va_D A [(g0, .inr (1, [.ref a0, .ref b0, .int (nI k), .int (nI n), .int cl, .int su, .int 0])), (a0, .inl (ja, 512, .inr (.inl fc))), (b0, .inl (jb, 512, .inr (.inl fv)))] := hD
  refine lv_lload_n hx hb dX1_next_5 rfl (lv_at hl 1 rfl) ?_
  refine lv_aload_n hx hb dX1_next_6 rfl (lv_at hl 0 rfl) ?_
  refine vp_callSl (W.runV (As := []) (rest := [.long a]) ⟨hx, hb, hml, hown, hts⟩ (c_mmask l dC dI g0 a0 b0 ja jb k n fc fv cl su 0 hn1 hn2) (cwV 0 hts (pt_gV pw194 pw195 pw11 pw18 pw196) rfl rfl rfl (by decide +kernel) ⟨Nat.le_of_ble_eq_true rfl, Nat.le_of_ble_eq_true rfl⟩) ⟨fun a U g mk q => by obtain ⟨q0, qP, qK⟩ := q; exact ⟨q0, qP, va_K.moved (u := U) (U := U.calling g mk a) (Vm.Alike.refl U.vm) qK⟩, va_recv hK hP (ci := 1) (q0 := 0) rfl rfl, fun U hU hW => ⟨rfl, by rw [hU]; exact hP, va_K.moved hW.alike hK⟩⟩ rfl rfl hl.1 rfl (lv_room (Nat.le_of_ble_eq_true rfl)) dX1_next_7 ⟨Nat.zero_le _, Nat.zero_le _⟩) (fun r1 hw => ?_)
  subst hw
  refine lv_land hx hb dX1_next_10 ?_
  refine lv_lstore_n (lv' := [(3, .long (a &&& (pt_mk n))), (0, .ref g0), (1, .long a)]) hx hb dX1_next_11 rfl hl (by decide) rfl (fun ls hl => ?_)
  refine lv_aload_n hx hb dX1_next_12 rfl (lv_at hl 1 rfl) ?_
  refine lv_aload_n hx hb dX1_next_13 rfl (lv_at hl 1 rfl) ?_
  refine vp_callSl (W.runV (As := []) (rest := [.ref g0]) ⟨hx, hb, hml, hown, hts⟩ (c_mmask l dC dI g0 a0 b0 ja jb k n fc fv cl su 0 hn1 hn2) (cwV 0 hts (pt_gV pw194 pw195 pw11 pw18 pw196) rfl rfl rfl (by decide +kernel) ⟨Nat.le_of_ble_eq_true rfl, Nat.le_of_ble_eq_true rfl⟩) ⟨fun a U g mk q => by obtain ⟨q0, qP, qK⟩ := q; exact ⟨q0, qP, va_K.moved (u := U) (U := U.calling g mk a) (Vm.Alike.refl U.vm) qK⟩, va_recv hK hP (ci := 1) (q0 := 0) rfl rfl, fun U hU hW => ⟨rfl, by rw [hU]; exact hP, va_K.moved hW.alike hK⟩⟩ rfl rfl hl.1 rfl (lv_room (Nat.le_of_ble_eq_true rfl)) dX1_next_14 ⟨Nat.zero_le _, Nat.zero_le _⟩) (fun r2 hw => ?_)
  subst hw
  refine lv_lload_n hx hb dX1_next_17 rfl (lv_at hl 0 rfl) ?_
  refine vp_callSi (W.runV (As := [.long (pt_mk n), .long (a &&& (pt_mk n))]) (rest := []) ⟨hx, hb, hml, hown, hts⟩ (c_some l dC dI g0 a0 b0 ja jb k n fc fv cl su 0 (pt_mk n) (a &&& pt_mk n) hI (by rw [Int64.and_self]; exact pt_bits_mk hn1 hn2)) (cwV 2 hts (pt_gV pw239 pw240 pw15 pw18 pw241) rfl rfl rfl (by decide +kernel) ⟨Nat.le_of_ble_eq_true rfl, Nat.le_of_ble_eq_true rfl⟩) ⟨fun a U g mk q => by obtain ⟨q0, qP, qK⟩ := q; exact ⟨q0, qP, va_K.moved (u := U) (U := U.calling g mk a) (Vm.Alike.refl U.vm) qK⟩, va_recv hK hP (ci := 1) (q0 := 0) rfl rfl, fun U hU hW => ⟨rfl, by rw [hU]; exact hP, va_K.moved hW.alike hK⟩⟩ rfl rfl hl.1 rfl (lv_room (Nat.le_of_ble_eq_true rfl)) dX1_next_18 ⟨Nat.zero_le _, Nat.zero_le _⟩) (fun r3 hw => ?_)
  rw [Int64.and_self, pt_mk_and] at hw
  rcases hw with ⟨rfl, hs⟩ | ⟨rfl, hs⟩
  · refine lv_if_eq (tgt := 26) hx hb dX1_next_21 (by decide) (fun h1 => absurd h1 (by decide)) (fun h1 => ?_)
    refine lv_lload_n hx hb dX1_next_24 rfl (lv_at hl 0 rfl) ?_
    rw [← hQ]
    exact W.lret (v := a &&& (pt_mk n)) hx hb hr (fun t9 ht hW => ⟨⟨a &&& (pt_mk n), 0, rfl, Or.inl ⟨pt_one_yes hI hs, rfl, rfl⟩, by rw [ht]; exact hP, va_K.moved hW.alike hK, hD⟩, hS.F ht⟩) hS.2.2 dX1_next_25
  · refine lv_if_eq (tgt := 26) hx hb dX1_next_21 (by decide) (fun h1 => ?_) (fun h1 => absurd rfl h1)
    have hmet := (pt_one hI).mp hs
    refine lv_iconst (v := 0) hx hb dX1_next_26 (by decide) ?_
    refine lv_istore (lv' := [(5, .int 0), (3, .long (a &&& (pt_mk n))), (0, .ref g0), (1, .long a)]) hx hb dX1_next_27 hl (by decide) rfl (fun ls hl => ?_)
    have loop : ∀ (d t : Nat) (ls : Array Slot), n - t = d → t ≤ n → (∀ j, j < t → ¬ pt_N k n fc fv (a &&& pt_mk n) j) → lv_has ls 13 [(5, .int (nI t)), (3, .long (a &&& pt_mk n)), (0, .ref g0), (1, .long a)] → W p l e (headSpec wsX1_next ({ frames := 4, cells := 0, slots := 0, locals := 96 })).room s m args below meth c H locs 0 0 Q (F0 m 29 ls []) := by
      intro d
      induction d with
      | zero =>
        intro t ls hd htn hno hl
        refine lv_iload hx hb dX1_next_29 (lv_at hl 0 rfl) ?_
        refine lv_aload_n hx hb dX1_next_31 rfl (lv_at hl 2 rfl) ?_
        refine va_get (D := (dC, dI)) (ci := 1) (v := .int (nI n)) (C := RX1) (T := TX1) (N := 7) hx hb hts (fun w h => List.mem_cons_of_mem _ (pt_wsX1 w h)) hown hK hP 0 rfl rfl 3 (by decide) (hts _ (List.mem_cons_of_mem _ pw164)) (fun _ h9 => h9) rfl dX1_next_32 ?_
        refine lv_icmp_ge (tgt := 149) hx hb dX1_next_35 (by decide) (fun h2 => ?_) (fun h2 => absurd (nI_le (by omega) (by omega)) h2)
        refine lv_aload_n hx hb dX1_next_149 rfl (lv_at hl 2 rfl) ?_
        refine lv_iconst (v := 1) hx hb dX1_next_150 (by decide) ?_
        have hPc := hP.sub (ws' := [(g0, .inr (1, [.ref a0, .ref b0, .int (nI k), .int (nI n), .int cl, .int su, .int 0])), (a0, .inl (ja, 512, .inr (.inl fc))), (b0, .inl (jb, 512, .inr (.inl fv)))]) [0, 1, 2] rfl
        have hDc := hD.sub (ws' := [(g0, .inr (1, [.ref a0, .ref b0, .int (nI k), .int (nI n), .int cl, .int su, .int 0])), (a0, .inl (ja, 512, .inr (.inl fc))), (b0, .inl (jb, 512, .inr (.inl fv)))]) [0, 1, 2] (by decide) rfl
        have hKc := hK.sub (tys' := [(ja, .long), (jb, .long)]) [0, 1] rfl
        have hFc := va_free (wc := [(g0, .inr (1, [.ref a0, .ref b0, .int (nI k), .int (nI n), .int cl, .int su, .int 0])), (a0, .inl (ja, 512, .inr (.inl fc))), (b0, .inl (jb, 512, .inr (.inl fv)))]) hD hS hA [0, 1, 2] rfl
        refine va_calli (va_runV (As := [.int 1]) (rest := []) ⟨hx, hb, hml, hown, hts⟩ (c_fail l dC dI g0 a0 b0 ja jb (nI k) (nI n) fc fv cl su 0 1 H.size ) (cwV 1 hts (pt_gV pw183 pw184 pw9 pw18 pw185) rfl rfl rfl (by decide +kernel) ⟨Nat.le_of_ble_eq_true rfl, Nat.le_of_ble_eq_true rfl⟩) ⟨fun a U g mk q => by obtain ⟨q0, q1, qP, qK, qD⟩ := q; exact ⟨q0, q1, qP, va_K.moved (u := U) (U := U.calling g mk a) (Vm.Alike.refl U.vm) qK, qD⟩, va_recv hK hP (ci := 1) (q0 := 0) rfl rfl, fun U hU hW => ⟨rfl, by rw [hU], by rw [hU]; exact hPc, va_K.moved hW.alike hKc, hDc.weaken (fun _ _ _ _ => trivial)⟩⟩ rfl rfl hl.1 rfl (lv_room (Nat.le_of_ble_eq_true rfl)) dX1_next_151 ⟨Nat.zero_le _, Nat.zero_le _⟩) hS (fun q _ h => hFc q h) hFc (fun r4 u t H1 locs ht hvm hw hB hz1 hk1 hS => ?_)
        obtain ⟨hP1, hK1, hD1⟩ := hB
        rw [ht] at hP1
        obtain ⟨hP, hD⟩ := va_join (wr := ([] : va_W)) (w1 := [(g0, .inr (1, [.ref a0, .ref b0, .int (nI k), .int (nI n), .int cl, .int su, .int 1])), (a0, .inl (ja, 512, .inr (.inl fc))), (b0, .inl (jb, 512, .inr (.inl fv)))]) hP hD [0, 1, 2] [] rfl rfl (by decide) (by decide) hk1 hFc hP1 hD1
        generalize H1 = H at hP hS ⊢
        have hP : va_P (dC, dI) vwCl [(g0, .inr (1, [.ref a0, .ref b0, .int (nI k), .int (nI n), .int cl, .int su, .int 1])), (a0, .inl (ja, 512, .inr (.inl fc))), (b0, .inl (jb, 512, .inr (.inl fv)))] H := hP
        have hD : va_D A [(g0, .inr (1, [.ref a0, .ref b0, .int (nI k), .int (nI n), .int cl, .int su, .int 1])), (a0, .inl (ja, 512, .inr (.inl fc))), (b0, .inl (jb, 512, .inr (.inl fv)))] := hD
        subst hw
        refine lv_i2l (v := (0 : Int32).toInt64) hx hb dX1_next_154 rfl ?_
        rw [← hQ]
        exact W.lret (v := (0 : Int32).toInt64) hx hb hr (fun t9 ht hW => ⟨⟨(0 : Int32).toInt64, 1, rfl, Or.inr ⟨hmet, Or.inr ⟨fun j hj => hno j (by omega), rfl⟩⟩, by rw [ht]; exact hP, va_K.moved hW.alike hK, hD⟩, hS.F ht⟩) hS.2.2 dX1_next_155
      | succ d ih =>
        intro t ls hd htn hno hl
        refine lv_iload hx hb dX1_next_29 (lv_at hl 0 rfl) ?_
        refine lv_aload_n hx hb dX1_next_31 rfl (lv_at hl 2 rfl) ?_
        refine va_get (D := (dC, dI)) (ci := 1) (v := .int (nI n)) (C := RX1) (T := TX1) (N := 7) hx hb hts (fun w h => List.mem_cons_of_mem _ (pt_wsX1 w h)) hown hK hP 0 rfl rfl 3 (by decide) (hts _ (List.mem_cons_of_mem _ pw164)) (fun _ h9 => h9) rfl dX1_next_32 ?_
        refine lv_icmp_ge (tgt := 149) hx hb dX1_next_35 (by decide) (fun h2 => absurd h2 (nI_ge (by omega) (by omega))) (fun h2 => ?_)
        refine lv_lconst (v := 1) hx hb dX1_next_38 (by decide) ?_
        refine lv_iload hx hb dX1_next_39 (lv_at hl 0 rfl) ?_
        refine lv_lshl (v := pt_shl 1 (nI t)) hx hb dX1_next_41 rfl ?_
        refine lv_lstore (lv' := [(6, .long (pt_shl 1 (nI t))), (5, .int (nI t)), (3, .long (a &&& pt_mk n)), (0, .ref g0), (1, .long a)]) hx hb dX1_next_42 hl (by decide) rfl (fun ls hl => ?_)
        refine lv_lload_n hx hb dX1_next_44 rfl (lv_at hl 2 rfl) ?_
        refine lv_lload hx hb dX1_next_45 (lv_at hl 0 rfl) ?_
        refine lv_land hx hb dX1_next_47 ?_
        refine lv_lconst (v := 0) hx hb dX1_next_48 (by decide) ?_
        refine W.lcmp hx hb dX1_next_49 ?_
        refine lv_if_eq (tgt := 56) hx hb dX1_next_50 (by decide) (fun h3 => ?_) (fun h3 => ?_)
        · refine lv_aload_n hx hb dX1_next_56 rfl (lv_at hl 3 rfl) ?_
          refine vp_callSl (W.runV (As := []) (rest := []) ⟨hx, hb, hml, hown, hts⟩ (c_mmask l dC dI g0 a0 b0 ja jb k n fc fv cl su 0 hn1 hn2) (cwV 0 hts (pt_gV pw194 pw195 pw11 pw18 pw196) rfl rfl rfl (by decide +kernel) ⟨Nat.le_of_ble_eq_true rfl, Nat.le_of_ble_eq_true rfl⟩) ⟨fun a U g mk q => by obtain ⟨q0, qP, qK⟩ := q; exact ⟨q0, qP, va_K.moved (u := U) (U := U.calling g mk a) (Vm.Alike.refl U.vm) qK⟩, va_recv hK hP (ci := 1) (q0 := 0) rfl rfl, fun U hU hW => ⟨rfl, by rw [hU]; exact hP, va_K.moved hW.alike hK⟩⟩ rfl rfl hl.1 rfl (lv_room (Nat.le_of_ble_eq_true rfl)) dX1_next_57 ⟨Nat.zero_le _, Nat.zero_le _⟩) (fun r5 hw => ?_)
          subst hw
          refine lv_lload hx hb dX1_next_60 (lv_at hl 0 rfl) ?_
          refine lv_lconst (v := 1) hx hb dX1_next_62 (by decide) ?_
          refine lv_lsub hx hb dX1_next_63 ?_
          refine lv_ldc2 (v := (-1)) hx hb hown (hts _ (List.mem_cons_of_mem _ pw193)) dX1_next_64 ?_
          refine lv_lxor hx hb dX1_next_67 ?_
          refine lv_land hx hb dX1_next_68 ?_
          rw [show pt_mk n &&& ((pt_shl 1 (nI t) - 1) ^^^ (-1)) = pt_up n t from congrArg (pt_mk n &&& ·) (pt_up_ref t (by omega))]
          refine lv_lstore (lv' := [(8, .long (pt_up n t)), (6, .long (pt_shl 1 (nI t))), (5, .int (nI t)), (3, .long (a &&& pt_mk n)), (0, .ref g0), (1, .long a)]) hx hb dX1_next_69 hl (by decide) rfl (fun ls hl => ?_)
          refine lv_lload_n hx hb dX1_next_71 rfl (lv_at hl 3 rfl) ?_
          refine lv_lload hx hb dX1_next_72 (lv_at hl 0 rfl) ?_
          refine lv_land hx hb dX1_next_74 ?_
          refine lv_lload hx hb dX1_next_75 (lv_at hl 1 rfl) ?_
          refine lv_lor hx hb dX1_next_77 ?_
          rw [pt_rs_ref (a &&& pt_mk n) hn1 hn2 (by omega)]
          refine lv_lstore (lv' := [(10, .long (pt_rs n (a &&& pt_mk n) t)), (8, .long (pt_up n t)), (6, .long (pt_shl 1 (nI t))), (5, .int (nI t)), (3, .long (a &&& pt_mk n)), (0, .ref g0), (1, .long a)]) hx hb dX1_next_78 hl (by decide) rfl (fun ls hl => ?_)
          refine lv_aload_n hx hb dX1_next_80 rfl (lv_at hl 5 rfl) ?_
          refine lv_lload hx hb dX1_next_81 (lv_at hl 1 rfl) ?_
          refine lv_lload hx hb dX1_next_83 (lv_at hl 0 rfl) ?_
          refine vp_callSi (W.runV (As := [.long (pt_up n t), .long (pt_rs n (a &&& pt_mk n) t)]) (rest := []) ⟨hx, hb, hml, hown, hts⟩ (c_some l dC dI g0 a0 b0 ja jb k n fc fv cl su 0 (pt_up n t) (pt_rs n (a &&& pt_mk n) t) hI (by rw [pt_up_mk]; exact pt_bits_up hn1 hn2 (by omega))) (cwV 2 hts (pt_gV pw239 pw240 pw15 pw18 pw241) rfl rfl rfl (by decide +kernel) ⟨Nat.le_of_ble_eq_true rfl, Nat.le_of_ble_eq_true rfl⟩) ⟨fun a U g mk q => by obtain ⟨q0, qP, qK⟩ := q; exact ⟨q0, qP, va_K.moved (u := U) (U := U.calling g mk a) (Vm.Alike.refl U.vm) qK⟩, va_recv hK hP (ci := 1) (q0 := 0) rfl rfl, fun U hU hW => ⟨rfl, by rw [hU]; exact hP, va_K.moved hW.alike hK⟩⟩ rfl rfl hl.1 rfl (lv_room (Nat.le_of_ble_eq_true rfl)) dX1_next_85 ⟨Nat.zero_le _, Nat.zero_le _⟩) (fun r6 hw => ?_)
          rw [pt_up_mk, pt_rs_mk] at hw
          rcases hw with ⟨rfl, hs2⟩ | ⟨rfl, hs2⟩
          · refine lv_if_ne (tgt := 94) hx hb dX1_next_88 (by decide) (fun h4 => ?_) (fun h4 => absurd h4 (by decide))
            refine lv_iload hx hb dX1_next_94 (lv_at hl 3 rfl) ?_
            refine lv_iconst (v := 1) hx hb dX1_next_96 (by decide) ?_
            refine lv_isub hx hb dX1_next_97 ?_
            refine lv_istore (lv' := [(12, .int ((nI t) - 1)), (10, .long (pt_rs n (a &&& pt_mk n) t)), (8, .long (pt_up n t)), (6, .long (pt_shl 1 (nI t))), (5, .int (nI t)), (3, .long (a &&& pt_mk n)), (0, .ref g0), (1, .long a)]) hx hb dX1_next_98 hl (by decide) rfl (fun ls hl => ?_)
            have loop2 : ∀ (q : Nat) (y : Int64) (ls : Array Slot), q ≤ t → y &&& pt_mk n = y → pt_lf k n fc fv q y = pt_lf k n fc fv t (pt_rs n (a &&& pt_mk n) t) → lv_has ls 13 [(12, .int (nI q - 1)), (10, .long y), (8, .long (pt_up n q)), (0, .ref g0)] → W p l e (headSpec wsX1_next ({ frames := 4, cells := 0, slots := 0, locals := 96 })).room s m args below meth c H locs 0 0 Q (F0 m 100 ls []) := by
              intro q
              induction q with
              | zero =>
                intro y ls hq hym hy hl
                refine lv_iload hx hb dX1_next_100 (lv_at hl 0 rfl) ?_
                refine lv_if_lt (tgt := 140) hx hb dX1_next_102 (by decide) (fun h4 => ?_) (fun h4 => absurd (by decide) h4)
                refine lv_lload hx hb dX1_next_140 (lv_at hl 1 rfl) ?_
                rw [← hQ]
                exact W.lret (v := y) hx hb hr (fun t9 ht hW => ⟨⟨y, 0, rfl, Or.inr ⟨hmet, Or.inl ⟨t, by omega, ⟨(pt_bit_ref _ (by omega)).mp (pt_cmp0.mp h3), hs2⟩, hno, rfl, hy⟩⟩, by rw [ht]; exact hP, va_K.moved hW.alike hK, hD⟩, hS.F ht⟩) hS.2.2 dX1_next_142
              | succ q ih2 =>
                intro y ls hq hym hy hl
                rw [nI_pred] at hl
                refine lv_iload hx hb dX1_next_100 (lv_at hl 0 rfl) ?_
                refine lv_if_lt (tgt := 140) hx hb dX1_next_102 (by decide) (fun h4 => absurd h4 (nI_pos (by omega))) (fun h4 => ?_)
                refine lv_lload hx hb dX1_next_105 (lv_at hl 2 rfl) ?_
                refine lv_lconst (v := 1) hx hb dX1_next_107 (by decide) ?_
                refine lv_iload hx hb dX1_next_108 (lv_at hl 0 rfl) ?_
                refine lv_lshl (v := pt_shl 1 (nI q)) hx hb dX1_next_110 rfl ?_
                refine lv_lor hx hb dX1_next_111 ?_
                rw [pt_up_step hn1 hn2 (by omega)]
                refine lv_lstore (lv' := [(8, .long (pt_up n q)), (12, .int (nI q)), (10, .long y), (0, .ref g0)]) hx hb dX1_next_112 hl (by decide) rfl (fun ls hl => ?_)
                refine lv_aload_n hx hb dX1_next_114 rfl (lv_at hl 3 rfl) ?_
                refine lv_lload hx hb dX1_next_115 (lv_at hl 0 rfl) ?_
                refine lv_lload hx hb dX1_next_117 (lv_at hl 2 rfl) ?_
                refine vp_callSi (W.runV (As := [.long (pt_up n q), .long y]) (rest := []) ⟨hx, hb, hml, hown, hts⟩ (c_some l dC dI g0 a0 b0 ja jb k n fc fv cl su 0 (pt_up n q) y hI (by rw [pt_up_mk]; exact pt_bits_up hn1 hn2 (by omega))) (cwV 2 hts (pt_gV pw239 pw240 pw15 pw18 pw241) rfl rfl rfl (by decide +kernel) ⟨Nat.le_of_ble_eq_true rfl, Nat.le_of_ble_eq_true rfl⟩) ⟨fun a U g mk q => by obtain ⟨q0, qP, qK⟩ := q; exact ⟨q0, qP, va_K.moved (u := U) (U := U.calling g mk a) (Vm.Alike.refl U.vm) qK⟩, va_recv hK hP (ci := 1) (q0 := 0) rfl rfl, fun U hU hW => ⟨rfl, by rw [hU]; exact hP, va_K.moved hW.alike hK⟩⟩ rfl rfl hl.1 rfl (lv_room (Nat.le_of_ble_eq_true rfl)) dX1_next_119 ⟨Nat.zero_le _, Nat.zero_le _⟩) (fun r7 hw => ?_)
                rw [pt_up_mk, hym] at hw
                rcases hw with ⟨rfl, hs3⟩ | ⟨rfl, hs3⟩
                · refine lv_if_ne (tgt := 134) hx hb dX1_next_122 (by decide) (fun h5 => ?_) (fun h5 => absurd h5 (by decide))
                  refine lv_iinc (v := nI q - 1) (lv' := [(12, .int (nI q - 1)), (8, .long (pt_up n q)), (10, .long y), (0, .ref g0)]) hx hb dX1_next_134 hl (k := 1) rfl (by rw [Int32.sub_eq_add_neg]; rfl) (by decide) rfl (fun ls hl => ?_)
                  refine lv_goto (tgt := 100) hx hb dX1_next_137 (by decide) ?_
                  exact ih2 y ls (by omega) hym ((pt_lf_no hs3).symm.trans hy) (lv_sub hl [0, 2, 1, 3] rfl)
                · refine lv_if_ne (tgt := 134) hx hb dX1_next_122 (by decide) (fun h5 => absurd rfl h5) (fun h5 => ?_)
                  refine lv_lload hx hb dX1_next_125 (lv_at hl 2 rfl) ?_
                  refine lv_lconst (v := 1) hx hb dX1_next_127 (by decide) ?_
                  refine lv_iload hx hb dX1_next_128 (lv_at hl 1 rfl) ?_
                  refine lv_lshl (v := pt_shl 1 (nI q)) hx hb dX1_next_130 rfl ?_
                  refine lv_lor hx hb dX1_next_131 ?_
                  refine lv_lstore (lv' := [(10, .long (y ||| (pt_shl 1 (nI q)))), (8, .long (pt_up n q)), (12, .int (nI q)), (0, .ref g0)]) hx hb dX1_next_132 hl (by decide) rfl (fun ls hl => ?_)
                  refine lv_iinc (v := nI q - 1) (lv' := [(12, .int (nI q - 1)), (10, .long (y ||| (pt_shl 1 (nI q)))), (8, .long (pt_up n q)), (0, .ref g0)]) hx hb dX1_next_134 hl (k := 2) rfl (by rw [Int32.sub_eq_add_neg]; rfl) (by decide) rfl (fun ls hl => ?_)
                  refine lv_goto (tgt := 100) hx hb dX1_next_137 (by decide) ?_
                  exact ih2 (y ||| pt_shl 1 (nI q)) ls (by omega) (pt_or_mk hym hn1 hn2 (by omega)) ((pt_lf_yes hs3).symm.trans hy) (lv_sub hl [0, 1, 2, 3] rfl)
            exact loop2 t (pt_rs n (a &&& pt_mk n) t) ls (by omega) pt_rs_mk rfl (lv_sub hl [0, 1, 2, 6] rfl)
          · refine lv_if_ne (tgt := 94) hx hb dX1_next_88 (by decide) (fun h4 => absurd rfl h4) (fun h4 => ?_)
            refine lv_goto (tgt := 143) hx hb dX1_next_91 (by decide) ?_
            refine lv_iinc (v := nI (t + 1)) (lv' := [(5, .int (nI (t + 1))), (10, .long (pt_rs n (a &&& pt_mk n) t)), (8, .long (pt_up n t)), (6, .long (pt_shl 1 (nI t))), (3, .long (a &&& pt_mk n)), (0, .ref g0), (1, .long a)]) hx hb dX1_next_143 hl (k := 3) rfl (by rw [nI_succ]; rfl) (by decide) rfl (fun ls hl => ?_)
            refine lv_goto (tgt := 29) hx hb dX1_next_146 (by decide) ?_
            exact ih (t + 1) ls (by omega) (by omega) (lt_s hno (fun z => z.2 hs2)) (lv_sub hl [0, 4, 5, 6] rfl)
        · refine lv_goto (tgt := 143) hx hb dX1_next_53 (by decide) ?_
          refine lv_iinc (v := nI (t + 1)) (lv' := [(5, .int (nI (t + 1))), (6, .long (pt_shl 1 (nI t))), (3, .long (a &&& pt_mk n)), (0, .ref g0), (1, .long a)]) hx hb dX1_next_143 hl (k := 1) rfl (by rw [nI_succ]; rfl) (by decide) rfl (fun ls hl => ?_)
          refine lv_goto (tgt := 29) hx hb dX1_next_146 (by decide) ?_
          exact ih (t + 1) ls (by omega) (by omega) (lt_s hno (fun z => h3 (pt_cmp0.mpr ((pt_bit_ref _ (by omega)).mpr z.1)))) (lv_sub hl [0, 2, 3, 4] rfl)
    exact loop n 0 ls (by omega) (by omega) lt_0 (lv_sub hl [0, 1, 2, 3] rfl)
set_option maxHeartbeats 4000000 in
set_option maxRecDepth 100000 in
/-- the reference: told(i, what) -/
theorem c_mtold (l : Launch) (dC : Nat → ClassId) (dI : Nat → Nat → Nat) (g0 a0 b0 : Nat) (ja jb : ClassId) (k n : Nat) (fc fv : Nat → Int64) (cl su th : Int32) (y x : Int32) (sz : Nat) (hk : k ≤ 512) : Met l yX1_told wsX1_told ({ frames := 1, cells := 0, slots := 0, locals := 23 }) (va_Pc [.ref g0, .int y, .int x] (fun U => U.heap.size = sz ∧ va_P (dC, dI) vwCl [(g0, .inr (1, [.ref a0, .ref b0, .int (nI k), .int (nI n), .int cl, .int su, .int th])), (a0, .inl (ja, 512, .inr (.inl fc))), (b0, .inl (jb, 512, .inr (.inl fv)))] U.heap ∧ va_K (dC, dI) vwCl [(ja, .long), (jb, .long)] U ∧ va_D (fun _ => True) [(g0, .inr (1, [.ref a0, .ref b0, .int (nI k), .int (nI n), .int cl, .int su, .int th])), (a0, .inl (ja, 512, .inr (.inl fc))), (b0, .inl (jb, 512, .inr (.inl fv)))])) (va_Ql (fun (r : Int64) u => pt_Rtold k n fc fv y x u r) (fun (u : Int32) (t : State) => match u with | th2 => va_P (dC, dI) vwCl [(g0, .inr (1, [.ref a0, .ref b0, .int (nI k), .int (nI n), .int cl, .int su, .int th2])), (a0, .inl (ja, 512, .inr (.inl fc))), (b0, .inl (jb, 512, .inr (.inl fv)))] t.heap ∧ va_K (dC, dI) vwCl [(ja, .long), (jb, .long)] t ∧ va_D (va_A [(g0, .inr (1, [.ref a0, .ref b0, .int (nI k), .int (nI n), .int cl, .int su, .int th])), (a0, .inl (ja, 512, .inr (.inl fc))), (b0, .inl (jb, 512, .inr (.inl fv)))] sz) [(g0, .inr (1, [.ref a0, .ref b0, .int (nI k), .int (nI n), .int cl, .int su, .int th2])), (a0, .inl (ja, 512, .inr (.inl fc))), (b0, .inl (jb, 512, .inr (.inl fv)))]) (va_A [(g0, .inr (1, [.ref a0, .ref b0, .int (nI k), .int (nI n), .int cl, .int su, .int th])), (a0, .inl (ja, 512, .inr (.inl fc))), (b0, .inl (jb, 512, .inr (.inl fv)))] sz)) 0 0 (va_A [(g0, .inr (1, [.ref a0, .ref b0, .int (nI k), .int (nI n), .int cl, .int su, .int th])), (a0, .inl (ja, 512, .inr (.inl fc))), (b0, .inl (jb, 512, .inr (.inl fv)))] sz) := by
  refine Met.ofW (cc := cX1_told) (maxL := 3) (ret := (some .long)) (by decide) rfl ?_
  intro p e s m args below meth c s₁ B hml hv
  obtain ⟨ha, hsz, hP, hK, hD0⟩ := hv
  subst hsz
  have hx := B.exec
  have hb := B.bytes
  have hr := B.returns
  have hts := atoms_spec (ws := wsX1_told) B.pre
  have hown : s.vm.findClass RX1 = some m.cls := findClass_of_methodNamed B.named
  have hlocks := B.notSynchronized
  have hl := lv_entry ([.ref g0, .int y, .int x]) (n := 3) (Nat.le_of_ble_eq_true rfl)
  refine W.eq (show entryFrame m args 3 = entryFrame m ([.ref g0, .int y, .int x] : List Value).toArray 3 by rw [ha]) ?_
  rw [lg_entry_eq]
  generalize (lg_sl ([.ref g0, .int y, .int x]) ++ List.replicate (3 - (lg_sl ([.ref g0, .int y, .int x])).length) Slot.unset).toArray = ls at hl ⊢
  have hl : lv_has ls 3 [(0, .ref g0), (1, .int y), (2, .int x)] := hl
  have hD := hD0.self (sz := s.heap.size)
  generalize hAe : va_A [(g0, .inr (1, [.ref a0, .ref b0, .int (nI k), .int (nI n), .int cl, .int su, .int th])), (a0, .inl (ja, 512, .inr (.inl fc))), (b0, .inl (jb, 512, .inr (.inl fv)))] s.heap.size = A at hD ⊢
  have hA : ∀ q : Nat, s.heap.size ≤ q → A q := fun q h => by rw [← hAe]; exact Or.inr h
  have hS : va_S A s.heap s.heap [] := va_S.rf
  generalize hQ : MQ below (va_Ql (fun (r : Int64) u => pt_Rtold k n fc fv y x u r) (fun (u : Int32) (t : State) => match u with | th2 => va_P (dC, dI) vwCl [(g0, .inr (1, [.ref a0, .ref b0, .int (nI k), .int (nI n), .int cl, .int su, .int th2])), (a0, .inl (ja, 512, .inr (.inl fc))), (b0, .inl (jb, 512, .inr (.inl fv)))] t.heap ∧ va_K (dC, dI) vwCl [(ja, .long), (jb, .long)] t ∧ va_D A [(g0, .inr (1, [.ref a0, .ref b0, .int (nI k), .int (nI n), .int cl, .int su, .int th2])), (a0, .inl (ja, 512, .inr (.inl fc))), (b0, .inl (jb, 512, .inr (.inl fv)))]) A) args s 0 0 A = Q
  have hP : va_P (dC, dI) vwCl [(g0, .inr (1, [.ref a0, .ref b0, .int (nI k), .int (nI n), .int cl, .int su, .int th])), (a0, .inl (ja, 512, .inr (.inl fc))), (b0, .inl (jb, 512, .inr (.inl fv)))] s.heap := hP
  refine lv_aload_n hx hb dX1_told_0 rfl (lv_at hl 0 rfl) ?_
  refine lv_iconst (v := 0) hx hb dX1_told_1 (by decide) ?_
  refine va_put (D := (dC, dI)) (ci := 1) (v := .int 0) (ty := .int) (C := RX1) (T := TX1) (N := 7) hx hb hts (fun w h => List.mem_cons_of_mem _ (pt_wsX1 w h)) tyX1 tyX1_ok nmX1 hown hK hP hD hS 0 rfl rfl 6 (by decide) (hts _ (List.mem_cons_of_mem _ pw167)) (fun _ h9 => h9) rfl (by decide +kernel) rfl rfl (Nat.le_of_ble_eq_true rfl) dX1_told_2 (fun H locs hP hD hS => ?_)
  have hP : va_P (dC, dI) vwCl [(g0, .inr (1, [.ref a0, .ref b0, .int (nI k), .int (nI n), .int cl, .int su, .int 0])), (a0, .inl (ja, 512, .inr (.inl fc))), (b0, .inl (jb, 512, .inr (.inl fv)))] H := hP
  have hD : va_D A [(g0, .inr (1, [.ref a0, .ref b0, .int (nI k), .int (nI n), .int cl, .int su, .int 0])), (a0, .inl (ja, 512, .inr (.inl fc))), (b0, .inl (jb, 512, .inr (.inl fv)))] := hD
  refine lv_iload_n hx hb dX1_told_5 rfl (lv_at hl 2 rfl) ?_
  refine lv_if_lt (tgt := 14) hx hb dX1_told_6 (by decide) (fun h1 => ?_) (fun h1 => ?_)
  · refine lv_aload_n hx hb dX1_told_14 rfl (lv_at hl 0 rfl) ?_
    refine lv_iconst (v := 1) hx hb dX1_told_15 (by decide) ?_
    have hPc := hP.sub (ws' := [(g0, .inr (1, [.ref a0, .ref b0, .int (nI k), .int (nI n), .int cl, .int su, .int 0])), (a0, .inl (ja, 512, .inr (.inl fc))), (b0, .inl (jb, 512, .inr (.inl fv)))]) [0, 1, 2] rfl
    have hDc := hD.sub (ws' := [(g0, .inr (1, [.ref a0, .ref b0, .int (nI k), .int (nI n), .int cl, .int su, .int 0])), (a0, .inl (ja, 512, .inr (.inl fc))), (b0, .inl (jb, 512, .inr (.inl fv)))]) [0, 1, 2] (by decide) rfl
    have hKc := hK.sub (tys' := [(ja, .long), (jb, .long)]) [0, 1] rfl
    have hFc := va_free (wc := [(g0, .inr (1, [.ref a0, .ref b0, .int (nI k), .int (nI n), .int cl, .int su, .int 0])), (a0, .inl (ja, 512, .inr (.inl fc))), (b0, .inl (jb, 512, .inr (.inl fv)))]) hD hS hA [0, 1, 2] rfl
    refine va_calli (va_runV (As := [.int 1]) (rest := []) ⟨hx, hb, hml, hown, hts⟩ (c_fail l dC dI g0 a0 b0 ja jb (nI k) (nI n) fc fv cl su 0 1 H.size ) (cwV 1 hts (pt_gV pw183 pw184 pw9 pw18 pw185) rfl rfl rfl (by decide +kernel) ⟨Nat.le_of_ble_eq_true rfl, Nat.le_of_ble_eq_true rfl⟩) ⟨fun a U g mk q => by obtain ⟨q0, q1, qP, qK, qD⟩ := q; exact ⟨q0, q1, qP, va_K.moved (u := U) (U := U.calling g mk a) (Vm.Alike.refl U.vm) qK, qD⟩, va_recv hK hP (ci := 1) (q0 := 0) rfl rfl, fun U hU hW => ⟨rfl, by rw [hU], by rw [hU]; exact hPc, va_K.moved hW.alike hKc, hDc.weaken (fun _ _ _ _ => trivial)⟩⟩ rfl rfl hl.1 rfl (lv_room (Nat.le_of_ble_eq_true rfl)) dX1_told_16 ⟨Nat.zero_le _, Nat.zero_le _⟩) hS (fun q _ h => hFc q h) hFc (fun r1 u t H1 locs ht hvm hw hB hz1 hk1 hS => ?_)
    obtain ⟨hP1, hK1, hD1⟩ := hB
    rw [ht] at hP1
    obtain ⟨hP, hD⟩ := va_join (wr := ([] : va_W)) (w1 := [(g0, .inr (1, [.ref a0, .ref b0, .int (nI k), .int (nI n), .int cl, .int su, .int 1])), (a0, .inl (ja, 512, .inr (.inl fc))), (b0, .inl (jb, 512, .inr (.inl fv)))]) hP hD [0, 1, 2] [] rfl rfl (by decide) (by decide) hk1 hFc hP1 hD1
    generalize H1 = H at hP hS ⊢
    have hP : va_P (dC, dI) vwCl [(g0, .inr (1, [.ref a0, .ref b0, .int (nI k), .int (nI n), .int cl, .int su, .int 1])), (a0, .inl (ja, 512, .inr (.inl fc))), (b0, .inl (jb, 512, .inr (.inl fv)))] H := hP
    have hD : va_D A [(g0, .inr (1, [.ref a0, .ref b0, .int (nI k), .int (nI n), .int cl, .int su, .int 1])), (a0, .inl (ja, 512, .inr (.inl fc))), (b0, .inl (jb, 512, .inr (.inl fv)))] := hD
    subst hw
    refine lv_i2l (v := (0 : Int32).toInt64) hx hb dX1_told_19 rfl ?_
    rw [← hQ]
    exact W.lret (v := (0 : Int32).toInt64) hx hb hr (fun t ht hW => ⟨⟨(0 : Int32).toInt64, 1, rfl, Or.inl ⟨Or.inl h1, rfl⟩, by rw [ht]; exact hP, va_K.moved hW.alike hK, hD⟩, hS.F ht⟩) hS.2.2 dX1_told_20
  · refine lv_iload_n hx hb dX1_told_9 rfl (lv_at hl 2 rfl) ?_
    refine lv_iconst (v := 2) hx hb dX1_told_10 (by decide) ?_
    refine lv_icmp_le (tgt := 21) hx hb dX1_told_11 (by decide) (fun h2 => ?_) (fun h2 => ?_)
    · refine lv_iload_n hx hb dX1_told_21 rfl (lv_at hl 1 rfl) ?_
      refine lv_if_lt (tgt := 33) hx hb dX1_told_22 (by decide) (fun h3 => ?_) (fun h3 => ?_)
      · refine lv_aload_n hx hb dX1_told_33 rfl (lv_at hl 0 rfl) ?_
        refine lv_iconst (v := 2) hx hb dX1_told_34 (by decide) ?_
        have hPc := hP.sub (ws' := [(g0, .inr (1, [.ref a0, .ref b0, .int (nI k), .int (nI n), .int cl, .int su, .int 0])), (a0, .inl (ja, 512, .inr (.inl fc))), (b0, .inl (jb, 512, .inr (.inl fv)))]) [0, 1, 2] rfl
        have hDc := hD.sub (ws' := [(g0, .inr (1, [.ref a0, .ref b0, .int (nI k), .int (nI n), .int cl, .int su, .int 0])), (a0, .inl (ja, 512, .inr (.inl fc))), (b0, .inl (jb, 512, .inr (.inl fv)))]) [0, 1, 2] (by decide) rfl
        have hKc := hK.sub (tys' := [(ja, .long), (jb, .long)]) [0, 1] rfl
        have hFc := va_free (wc := [(g0, .inr (1, [.ref a0, .ref b0, .int (nI k), .int (nI n), .int cl, .int su, .int 0])), (a0, .inl (ja, 512, .inr (.inl fc))), (b0, .inl (jb, 512, .inr (.inl fv)))]) hD hS hA [0, 1, 2] rfl
        refine va_calli (va_runV (As := [.int 2]) (rest := []) ⟨hx, hb, hml, hown, hts⟩ (c_fail l dC dI g0 a0 b0 ja jb (nI k) (nI n) fc fv cl su 0 2 H.size ) (cwV 1 hts (pt_gV pw183 pw184 pw9 pw18 pw185) rfl rfl rfl (by decide +kernel) ⟨Nat.le_of_ble_eq_true rfl, Nat.le_of_ble_eq_true rfl⟩) ⟨fun a U g mk q => by obtain ⟨q0, q1, qP, qK, qD⟩ := q; exact ⟨q0, q1, qP, va_K.moved (u := U) (U := U.calling g mk a) (Vm.Alike.refl U.vm) qK, qD⟩, va_recv hK hP (ci := 1) (q0 := 0) rfl rfl, fun U hU hW => ⟨rfl, by rw [hU], by rw [hU]; exact hPc, va_K.moved hW.alike hKc, hDc.weaken (fun _ _ _ _ => trivial)⟩⟩ rfl rfl hl.1 rfl (lv_room (Nat.le_of_ble_eq_true rfl)) dX1_told_35 ⟨Nat.zero_le _, Nat.zero_le _⟩) hS (fun q _ h => hFc q h) hFc (fun r2 u t H1 locs ht hvm hw hB hz1 hk1 hS => ?_)
        obtain ⟨hP1, hK1, hD1⟩ := hB
        rw [ht] at hP1
        obtain ⟨hP, hD⟩ := va_join (wr := ([] : va_W)) (w1 := [(g0, .inr (1, [.ref a0, .ref b0, .int (nI k), .int (nI n), .int cl, .int su, .int 2])), (a0, .inl (ja, 512, .inr (.inl fc))), (b0, .inl (jb, 512, .inr (.inl fv)))]) hP hD [0, 1, 2] [] rfl rfl (by decide) (by decide) hk1 hFc hP1 hD1
        generalize H1 = H at hP hS ⊢
        have hP : va_P (dC, dI) vwCl [(g0, .inr (1, [.ref a0, .ref b0, .int (nI k), .int (nI n), .int cl, .int su, .int 2])), (a0, .inl (ja, 512, .inr (.inl fc))), (b0, .inl (jb, 512, .inr (.inl fv)))] H := hP
        have hD : va_D A [(g0, .inr (1, [.ref a0, .ref b0, .int (nI k), .int (nI n), .int cl, .int su, .int 2])), (a0, .inl (ja, 512, .inr (.inl fc))), (b0, .inl (jb, 512, .inr (.inl fv)))] := hD
        subst hw
        refine lv_i2l (v := (0 : Int32).toInt64) hx hb dX1_told_38 rfl ?_
        rw [← hQ]
        exact W.lret (v := (0 : Int32).toInt64) hx hb hr (fun t ht hW => ⟨⟨(0 : Int32).toInt64, 2, rfl, Or.inr (Or.inl ⟨h1, h2, Or.inl h3, rfl⟩), by rw [ht]; exact hP, va_K.moved hW.alike hK, hD⟩, hS.F ht⟩) hS.2.2 dX1_told_39
      · refine lv_iload_n hx hb dX1_told_25 rfl (lv_at hl 1 rfl) ?_
        refine lv_aload_n hx hb dX1_told_26 rfl (lv_at hl 0 rfl) ?_
        refine va_get (D := (dC, dI)) (ci := 1) (v := .int (nI k)) (C := RX1) (T := TX1) (N := 7) hx hb hts (fun w h => List.mem_cons_of_mem _ (pt_wsX1 w h)) hown hK hP 0 rfl rfl 2 (by decide) (hts _ (List.mem_cons_of_mem _ pw163)) (fun _ h9 => h9) rfl dX1_told_27 ?_
        refine lv_icmp_lt (tgt := 40) hx hb dX1_told_30 (by decide) (fun h4 => ?_) (fun h4 => ?_)
        · obtain ⟨i, hi, rfl⟩ := pt_at hk h3 h4
          refine lv_iload_n hx hb dX1_told_40 rfl (lv_at hl 2 rfl) ?_
          refine lv_if_ne (tgt := 53) hx hb dX1_told_41 (by decide) (fun h5 => ?_) (fun h5 => ?_)
          · refine lv_iload_n hx hb dX1_told_53 rfl (lv_at hl 2 rfl) ?_
            refine lv_iconst (v := 1) hx hb dX1_told_54 (by decide) ?_
            refine lv_icmp_ne (tgt := 67) hx hb dX1_told_55 (by decide) (fun h6 => ?_) (fun h6 => ?_)
            · refine lv_aload_n hx hb dX1_told_67 rfl (lv_at hl 0 rfl) ?_
              refine va_get (D := (dC, dI)) (ci := 1) (v := .int (nI n)) (C := RX1) (T := TX1) (N := 7) hx hb hts (fun w h => List.mem_cons_of_mem _ (pt_wsX1 w h)) hown hK hP 0 rfl rfl 3 (by decide) (hts _ (List.mem_cons_of_mem _ pw164)) (fun _ h9 => h9) rfl dX1_told_68 ?_
              refine lv_aload_n hx hb dX1_told_71 rfl (lv_at hl 0 rfl) ?_
              refine va_get (D := (dC, dI)) (ci := 1) (v := .ref a0) (C := RX1) (T := TX1) (N := 7) hx hb hts (fun w h => List.mem_cons_of_mem _ (pt_wsX1 w h)) hown hK hP 0 rfl rfl 0 (by decide) (hts _ (List.mem_cons_of_mem _ pw161)) (fun _ h9 => h9) rfl dX1_told_72 ?_
              refine lv_iload_n hx hb dX1_told_75 rfl (lv_at hl 1 rfl) ?_
              refine va_lald hx hb hK hP 1 0 rfl rfl (vp_in_nI (by omega) (by decide)) dX1_told_76 ?_
              rw [nI_clamp (by omega)]
              refine vp_callSi (W.runS (As := [.long (fc i)]) (rest := [.int (nI n)]) ⟨hx, hb, hml, hown, hts⟩ (c_bits l dC dI (fc i)) (va_cwS 1 hts (pt_gS pw229 pw230 pw18 pw231) rfl rfl rfl (by decide +kernel) ⟨Nat.le_of_ble_eq_true rfl, Nat.le_of_ble_eq_true rfl⟩) ⟨fun a U g mk q => by obtain ⟨q0, qP, qK⟩ := q; exact ⟨q0, qP, va_K.moved (u := U) (U := U.calling g mk a) (Vm.Alike.refl U.vm) qK⟩, fun U hU hW => ⟨rfl, by rw [hU]; exact (hP.sub (ws' := ([] : va_W)) [] rfl), va_K.moved hW.alike (hK.sub (tys' := []) [] rfl)⟩⟩ rfl rfl hl.1 rfl (lv_room (Nat.le_of_ble_eq_true rfl)) dX1_told_77 ⟨Nat.zero_le _, Nat.zero_le _⟩) (fun r3 hw => ?_)
              subst hw
              refine lv_isub hx hb dX1_told_80 ?_
              refine lv_i2l (v := ((nI n) - (pt_bits (fc i))).toInt64) hx hb dX1_told_81 rfl ?_
              rw [← hQ]
              exact W.lret (v := ((nI n) - (pt_bits (fc i))).toInt64) hx hb hr (fun t ht hW => ⟨⟨((nI n) - (pt_bits (fc i))).toInt64, 0, rfl, Or.inr (Or.inr ⟨i, hi, rfl, h1, h2, rfl, by rw [if_neg h5, if_neg h6]⟩), by rw [ht]; exact hP, va_K.moved hW.alike hK, hD⟩, hS.F ht⟩) hS.2.2 dX1_told_82
            · refine lv_aload_n hx hb dX1_told_58 rfl (lv_at hl 0 rfl) ?_
              refine va_get (D := (dC, dI)) (ci := 1) (v := .ref b0) (C := RX1) (T := TX1) (N := 7) hx hb hts (fun w h => List.mem_cons_of_mem _ (pt_wsX1 w h)) hown hK hP 0 rfl rfl 1 (by decide) (hts _ (List.mem_cons_of_mem _ pw162)) (fun _ h9 => h9) rfl dX1_told_59 ?_
              refine lv_iload_n hx hb dX1_told_62 rfl (lv_at hl 1 rfl) ?_
              refine va_lald hx hb hK hP 2 1 rfl rfl (vp_in_nI (by omega) (by decide)) dX1_told_63 ?_
              rw [nI_clamp (by omega)]
              refine lv_goto (tgt := 82) hx hb dX1_told_64 (by decide) ?_
              rw [← hQ]
              exact W.lret (v := fv i) hx hb hr (fun t ht hW => ⟨⟨fv i, 0, rfl, Or.inr (Or.inr ⟨i, hi, rfl, h1, h2, rfl, by rw [if_neg h5, if_pos h6]⟩), by rw [ht]; exact hP, va_K.moved hW.alike hK, hD⟩, hS.F ht⟩) hS.2.2 dX1_told_82
          · refine lv_aload_n hx hb dX1_told_44 rfl (lv_at hl 0 rfl) ?_
            refine va_get (D := (dC, dI)) (ci := 1) (v := .ref a0) (C := RX1) (T := TX1) (N := 7) hx hb hts (fun w h => List.mem_cons_of_mem _ (pt_wsX1 w h)) hown hK hP 0 rfl rfl 0 (by decide) (hts _ (List.mem_cons_of_mem _ pw161)) (fun _ h9 => h9) rfl dX1_told_45 ?_
            refine lv_iload_n hx hb dX1_told_48 rfl (lv_at hl 1 rfl) ?_
            refine va_lald hx hb hK hP 1 0 rfl rfl (vp_in_nI (by omega) (by decide)) dX1_told_49 ?_
            rw [nI_clamp (by omega)]
            refine lv_goto (tgt := 82) hx hb dX1_told_50 (by decide) ?_
            rw [← hQ]
            exact W.lret (v := fc i) hx hb hr (fun t ht hW => ⟨⟨fc i, 0, rfl, Or.inr (Or.inr ⟨i, hi, rfl, h1, h2, rfl, by rw [if_pos h5]⟩), by rw [ht]; exact hP, va_K.moved hW.alike hK, hD⟩, hS.F ht⟩) hS.2.2 dX1_told_82
        · refine lv_aload_n hx hb dX1_told_33 rfl (lv_at hl 0 rfl) ?_
          refine lv_iconst (v := 2) hx hb dX1_told_34 (by decide) ?_
          have hPc := hP.sub (ws' := [(g0, .inr (1, [.ref a0, .ref b0, .int (nI k), .int (nI n), .int cl, .int su, .int 0])), (a0, .inl (ja, 512, .inr (.inl fc))), (b0, .inl (jb, 512, .inr (.inl fv)))]) [0, 1, 2] rfl
          have hDc := hD.sub (ws' := [(g0, .inr (1, [.ref a0, .ref b0, .int (nI k), .int (nI n), .int cl, .int su, .int 0])), (a0, .inl (ja, 512, .inr (.inl fc))), (b0, .inl (jb, 512, .inr (.inl fv)))]) [0, 1, 2] (by decide) rfl
          have hKc := hK.sub (tys' := [(ja, .long), (jb, .long)]) [0, 1] rfl
          have hFc := va_free (wc := [(g0, .inr (1, [.ref a0, .ref b0, .int (nI k), .int (nI n), .int cl, .int su, .int 0])), (a0, .inl (ja, 512, .inr (.inl fc))), (b0, .inl (jb, 512, .inr (.inl fv)))]) hD hS hA [0, 1, 2] rfl
          refine va_calli (va_runV (As := [.int 2]) (rest := []) ⟨hx, hb, hml, hown, hts⟩ (c_fail l dC dI g0 a0 b0 ja jb (nI k) (nI n) fc fv cl su 0 2 H.size ) (cwV 1 hts (pt_gV pw183 pw184 pw9 pw18 pw185) rfl rfl rfl (by decide +kernel) ⟨Nat.le_of_ble_eq_true rfl, Nat.le_of_ble_eq_true rfl⟩) ⟨fun a U g mk q => by obtain ⟨q0, q1, qP, qK, qD⟩ := q; exact ⟨q0, q1, qP, va_K.moved (u := U) (U := U.calling g mk a) (Vm.Alike.refl U.vm) qK, qD⟩, va_recv hK hP (ci := 1) (q0 := 0) rfl rfl, fun U hU hW => ⟨rfl, by rw [hU], by rw [hU]; exact hPc, va_K.moved hW.alike hKc, hDc.weaken (fun _ _ _ _ => trivial)⟩⟩ rfl rfl hl.1 rfl (lv_room (Nat.le_of_ble_eq_true rfl)) dX1_told_35 ⟨Nat.zero_le _, Nat.zero_le _⟩) hS (fun q _ h => hFc q h) hFc (fun r4 u t H1 locs ht hvm hw hB hz1 hk1 hS => ?_)
          obtain ⟨hP1, hK1, hD1⟩ := hB
          rw [ht] at hP1
          obtain ⟨hP, hD⟩ := va_join (wr := ([] : va_W)) (w1 := [(g0, .inr (1, [.ref a0, .ref b0, .int (nI k), .int (nI n), .int cl, .int su, .int 2])), (a0, .inl (ja, 512, .inr (.inl fc))), (b0, .inl (jb, 512, .inr (.inl fv)))]) hP hD [0, 1, 2] [] rfl rfl (by decide) (by decide) hk1 hFc hP1 hD1
          generalize H1 = H at hP hS ⊢
          have hP : va_P (dC, dI) vwCl [(g0, .inr (1, [.ref a0, .ref b0, .int (nI k), .int (nI n), .int cl, .int su, .int 2])), (a0, .inl (ja, 512, .inr (.inl fc))), (b0, .inl (jb, 512, .inr (.inl fv)))] H := hP
          have hD : va_D A [(g0, .inr (1, [.ref a0, .ref b0, .int (nI k), .int (nI n), .int cl, .int su, .int 2])), (a0, .inl (ja, 512, .inr (.inl fc))), (b0, .inl (jb, 512, .inr (.inl fv)))] := hD
          subst hw
          refine lv_i2l (v := (0 : Int32).toInt64) hx hb dX1_told_38 rfl ?_
          rw [← hQ]
          exact W.lret (v := (0 : Int32).toInt64) hx hb hr (fun t ht hW => ⟨⟨(0 : Int32).toInt64, 2, rfl, Or.inr (Or.inl ⟨h1, h2, Or.inr h4, rfl⟩), by rw [ht]; exact hP, va_K.moved hW.alike hK, hD⟩, hS.F ht⟩) hS.2.2 dX1_told_39
    · refine lv_aload_n hx hb dX1_told_14 rfl (lv_at hl 0 rfl) ?_
      refine lv_iconst (v := 1) hx hb dX1_told_15 (by decide) ?_
      have hPc := hP.sub (ws' := [(g0, .inr (1, [.ref a0, .ref b0, .int (nI k), .int (nI n), .int cl, .int su, .int 0])), (a0, .inl (ja, 512, .inr (.inl fc))), (b0, .inl (jb, 512, .inr (.inl fv)))]) [0, 1, 2] rfl
      have hDc := hD.sub (ws' := [(g0, .inr (1, [.ref a0, .ref b0, .int (nI k), .int (nI n), .int cl, .int su, .int 0])), (a0, .inl (ja, 512, .inr (.inl fc))), (b0, .inl (jb, 512, .inr (.inl fv)))]) [0, 1, 2] (by decide) rfl
      have hKc := hK.sub (tys' := [(ja, .long), (jb, .long)]) [0, 1] rfl
      have hFc := va_free (wc := [(g0, .inr (1, [.ref a0, .ref b0, .int (nI k), .int (nI n), .int cl, .int su, .int 0])), (a0, .inl (ja, 512, .inr (.inl fc))), (b0, .inl (jb, 512, .inr (.inl fv)))]) hD hS hA [0, 1, 2] rfl
      refine va_calli (va_runV (As := [.int 1]) (rest := []) ⟨hx, hb, hml, hown, hts⟩ (c_fail l dC dI g0 a0 b0 ja jb (nI k) (nI n) fc fv cl su 0 1 H.size ) (cwV 1 hts (pt_gV pw183 pw184 pw9 pw18 pw185) rfl rfl rfl (by decide +kernel) ⟨Nat.le_of_ble_eq_true rfl, Nat.le_of_ble_eq_true rfl⟩) ⟨fun a U g mk q => by obtain ⟨q0, q1, qP, qK, qD⟩ := q; exact ⟨q0, q1, qP, va_K.moved (u := U) (U := U.calling g mk a) (Vm.Alike.refl U.vm) qK, qD⟩, va_recv hK hP (ci := 1) (q0 := 0) rfl rfl, fun U hU hW => ⟨rfl, by rw [hU], by rw [hU]; exact hPc, va_K.moved hW.alike hKc, hDc.weaken (fun _ _ _ _ => trivial)⟩⟩ rfl rfl hl.1 rfl (lv_room (Nat.le_of_ble_eq_true rfl)) dX1_told_16 ⟨Nat.zero_le _, Nat.zero_le _⟩) hS (fun q _ h => hFc q h) hFc (fun r5 u t H1 locs ht hvm hw hB hz1 hk1 hS => ?_)
      obtain ⟨hP1, hK1, hD1⟩ := hB
      rw [ht] at hP1
      obtain ⟨hP, hD⟩ := va_join (wr := ([] : va_W)) (w1 := [(g0, .inr (1, [.ref a0, .ref b0, .int (nI k), .int (nI n), .int cl, .int su, .int 1])), (a0, .inl (ja, 512, .inr (.inl fc))), (b0, .inl (jb, 512, .inr (.inl fv)))]) hP hD [0, 1, 2] [] rfl rfl (by decide) (by decide) hk1 hFc hP1 hD1
      generalize H1 = H at hP hS ⊢
      have hP : va_P (dC, dI) vwCl [(g0, .inr (1, [.ref a0, .ref b0, .int (nI k), .int (nI n), .int cl, .int su, .int 1])), (a0, .inl (ja, 512, .inr (.inl fc))), (b0, .inl (jb, 512, .inr (.inl fv)))] H := hP
      have hD : va_D A [(g0, .inr (1, [.ref a0, .ref b0, .int (nI k), .int (nI n), .int cl, .int su, .int 1])), (a0, .inl (ja, 512, .inr (.inl fc))), (b0, .inl (jb, 512, .inr (.inl fv)))] := hD
      subst hw
      refine lv_i2l (v := (0 : Int32).toInt64) hx hb dX1_told_19 rfl ?_
      rw [← hQ]
      exact W.lret (v := (0 : Int32).toInt64) hx hb hr (fun t ht hW => ⟨⟨(0 : Int32).toInt64, 1, rfl, Or.inl ⟨Or.inr h2, rfl⟩, by rw [ht]; exact hP, va_K.moved hW.alike hK, hD⟩, hS.F ht⟩) hS.2.2 dX1_told_20
set_option maxHeartbeats 4000000 in
set_option maxRecDepth 100000 in
/-- the reference: count(what) -/
theorem c_mcount (l : Launch) (dC : Nat → ClassId) (dI : Nat → Nat → Nat) (g0 a0 b0 : Nat) (ja jb : ClassId) (k n : Nat) (fc fv : Nat → Int64) (cl su th : Int32) (x : Int32) (sz : Nat)  : Met l yX1_count wsX1_count ({ frames := 0, cells := 0, slots := 0, locals := 0 }) (va_Pc [.ref g0, .int x] (fun U => U.heap.size = sz ∧ va_P (dC, dI) vwCl [(g0, .inr (1, [.ref a0, .ref b0, .int (nI k), .int (nI n), .int cl, .int su, .int th])), (a0, .inl (ja, 512, .inr (.inl fc))), (b0, .inl (jb, 512, .inr (.inl fv)))] U.heap ∧ va_K (dC, dI) vwCl [(ja, .long), (jb, .long)] U ∧ va_D (fun _ => True) [(g0, .inr (1, [.ref a0, .ref b0, .int (nI k), .int (nI n), .int cl, .int su, .int th])), (a0, .inl (ja, 512, .inr (.inl fc))), (b0, .inl (jb, 512, .inr (.inl fv)))])) (va_Qi (fun (r : Int32) _ => r = (if x = 0 then nI k else if x = 1 then nI n else if x = 2 then cl else if x = 3 then su else -1)) (fun (u : Unit) (t : State) => match u with | _ => va_P (dC, dI) vwCl [(g0, .inr (1, [.ref a0, .ref b0, .int (nI k), .int (nI n), .int cl, .int su, .int 0])), (a0, .inl (ja, 512, .inr (.inl fc))), (b0, .inl (jb, 512, .inr (.inl fv)))] t.heap ∧ va_K (dC, dI) vwCl [(ja, .long), (jb, .long)] t ∧ va_D (va_A [(g0, .inr (1, [.ref a0, .ref b0, .int (nI k), .int (nI n), .int cl, .int su, .int th])), (a0, .inl (ja, 512, .inr (.inl fc))), (b0, .inl (jb, 512, .inr (.inl fv)))] sz) [(g0, .inr (1, [.ref a0, .ref b0, .int (nI k), .int (nI n), .int cl, .int su, .int 0])), (a0, .inl (ja, 512, .inr (.inl fc))), (b0, .inl (jb, 512, .inr (.inl fv)))]) (va_A [(g0, .inr (1, [.ref a0, .ref b0, .int (nI k), .int (nI n), .int cl, .int su, .int th])), (a0, .inl (ja, 512, .inr (.inl fc))), (b0, .inl (jb, 512, .inr (.inl fv)))] sz)) 0 0 (va_A [(g0, .inr (1, [.ref a0, .ref b0, .int (nI k), .int (nI n), .int cl, .int su, .int th])), (a0, .inl (ja, 512, .inr (.inl fc))), (b0, .inl (jb, 512, .inr (.inl fv)))] sz) := by
  refine Met.ofW (cc := cX1_count) (maxL := 2) (ret := (some .int)) (by decide) rfl ?_
  intro p e s m args below meth c s₁ B hml hv
  obtain ⟨ha, hsz, hP, hK, hD0⟩ := hv
  subst hsz
  have hx := B.exec
  have hb := B.bytes
  have hr := B.returns
  have hts := atoms_spec (ws := wsX1_count) B.pre
  have hown : s.vm.findClass RX1 = some m.cls := findClass_of_methodNamed B.named
  have hlocks := B.notSynchronized
  have hl := lv_entry ([.ref g0, .int x]) (n := 2) (Nat.le_of_ble_eq_true rfl)
  refine W.eq (show entryFrame m args 2 = entryFrame m ([.ref g0, .int x] : List Value).toArray 2 by rw [ha]) ?_
  rw [lg_entry_eq]
  generalize (lg_sl ([.ref g0, .int x]) ++ List.replicate (2 - (lg_sl ([.ref g0, .int x])).length) Slot.unset).toArray = ls at hl ⊢
  have hl : lv_has ls 2 [(0, .ref g0), (1, .int x)] := hl
  have hD := hD0.self (sz := s.heap.size)
  generalize hAe : va_A [(g0, .inr (1, [.ref a0, .ref b0, .int (nI k), .int (nI n), .int cl, .int su, .int th])), (a0, .inl (ja, 512, .inr (.inl fc))), (b0, .inl (jb, 512, .inr (.inl fv)))] s.heap.size = A at hD ⊢
  have hA : ∀ q : Nat, s.heap.size ≤ q → A q := fun q h => by rw [← hAe]; exact Or.inr h
  have hS : va_S A s.heap s.heap [] := va_S.rf
  generalize hQ : MQ below (va_Qi (fun (r : Int32) _ => r = (if x = 0 then nI k else if x = 1 then nI n else if x = 2 then cl else if x = 3 then su else -1)) (fun (u : Unit) (t : State) => match u with | _ => va_P (dC, dI) vwCl [(g0, .inr (1, [.ref a0, .ref b0, .int (nI k), .int (nI n), .int cl, .int su, .int 0])), (a0, .inl (ja, 512, .inr (.inl fc))), (b0, .inl (jb, 512, .inr (.inl fv)))] t.heap ∧ va_K (dC, dI) vwCl [(ja, .long), (jb, .long)] t ∧ va_D A [(g0, .inr (1, [.ref a0, .ref b0, .int (nI k), .int (nI n), .int cl, .int su, .int 0])), (a0, .inl (ja, 512, .inr (.inl fc))), (b0, .inl (jb, 512, .inr (.inl fv)))]) A) args s 0 0 A = Q
  have hP : va_P (dC, dI) vwCl [(g0, .inr (1, [.ref a0, .ref b0, .int (nI k), .int (nI n), .int cl, .int su, .int th])), (a0, .inl (ja, 512, .inr (.inl fc))), (b0, .inl (jb, 512, .inr (.inl fv)))] s.heap := hP
  refine lv_aload_n hx hb dX1_count_0 rfl (lv_at hl 0 rfl) ?_
  refine lv_iconst (v := 0) hx hb dX1_count_1 (by decide) ?_
  refine va_put (D := (dC, dI)) (ci := 1) (v := .int 0) (ty := .int) (C := RX1) (T := TX1) (N := 7) hx hb hts (fun w h => List.mem_cons_of_mem _ (pt_wsX1 w h)) tyX1 tyX1_ok nmX1 hown hK hP hD hS 0 rfl rfl 6 (by decide) (hts _ (List.mem_cons_of_mem _ pw167)) (fun _ h9 => h9) rfl (by decide +kernel) rfl rfl (Nat.le_of_ble_eq_true rfl) dX1_count_2 (fun H locs hP hD hS => ?_)
  have hP : va_P (dC, dI) vwCl [(g0, .inr (1, [.ref a0, .ref b0, .int (nI k), .int (nI n), .int cl, .int su, .int 0])), (a0, .inl (ja, 512, .inr (.inl fc))), (b0, .inl (jb, 512, .inr (.inl fv)))] H := hP
  have hD : va_D A [(g0, .inr (1, [.ref a0, .ref b0, .int (nI k), .int (nI n), .int cl, .int su, .int 0])), (a0, .inl (ja, 512, .inr (.inl fc))), (b0, .inl (jb, 512, .inr (.inl fv)))] := hD
  refine lv_iload_n hx hb dX1_count_5 rfl (lv_at hl 1 rfl) ?_
  refine lv_if_ne (tgt := 16) hx hb dX1_count_6 (by decide) (fun h0 => ?_) (fun h0 => ?_)
  · refine lv_iload_n hx hb dX1_count_16 rfl (lv_at hl 1 rfl) ?_
    refine lv_iconst (v := 1) hx hb dX1_count_17 (by decide) ?_
    refine lv_icmp_ne (tgt := 28) hx hb dX1_count_18 (by decide) (fun h1 => ?_) (fun h1 => ?_)
    · refine lv_iload_n hx hb dX1_count_28 rfl (lv_at hl 1 rfl) ?_
      refine lv_iconst (v := 2) hx hb dX1_count_29 (by decide) ?_
      refine lv_icmp_ne (tgt := 40) hx hb dX1_count_30 (by decide) (fun h2 => ?_) (fun h2 => ?_)
      · refine lv_iload_n hx hb dX1_count_40 rfl (lv_at hl 1 rfl) ?_
        refine lv_iconst (v := 3) hx hb dX1_count_41 (by decide) ?_
        refine lv_icmp_ne (tgt := 52) hx hb dX1_count_42 (by decide) (fun h3 => ?_) (fun h3 => ?_)
        · refine lv_iconst (v := (-1)) hx hb dX1_count_52 (by decide) ?_
          rw [← hQ]
          exact W.iret (v := (-1)) hx hb hr (fun t ht hW => ⟨⟨(-1), (), rfl, by rw [if_neg h0, if_neg h1, if_neg h2, if_neg h3], by rw [ht]; exact hP, va_K.moved hW.alike hK, hD⟩, hS.F ht⟩) hS.2.2 dX1_count_53
        · refine lv_aload_n hx hb dX1_count_45 rfl (lv_at hl 0 rfl) ?_
          refine va_get (D := (dC, dI)) (ci := 1) (v := .int su) (C := RX1) (T := TX1) (N := 7) hx hb hts (fun w h => List.mem_cons_of_mem _ (pt_wsX1 w h)) hown hK hP 0 rfl rfl 5 (by decide) (hts _ (List.mem_cons_of_mem _ pw166)) (fun _ h9 => h9) rfl dX1_count_46 ?_
          refine lv_goto (tgt := 53) hx hb dX1_count_49 (by decide) ?_
          rw [← hQ]
          exact W.iret (v := su) hx hb hr (fun t ht hW => ⟨⟨su, (), rfl, by rw [if_neg h0, if_neg h1, if_neg h2, if_pos h3], by rw [ht]; exact hP, va_K.moved hW.alike hK, hD⟩, hS.F ht⟩) hS.2.2 dX1_count_53
      · refine lv_aload_n hx hb dX1_count_33 rfl (lv_at hl 0 rfl) ?_
        refine va_get (D := (dC, dI)) (ci := 1) (v := .int cl) (C := RX1) (T := TX1) (N := 7) hx hb hts (fun w h => List.mem_cons_of_mem _ (pt_wsX1 w h)) hown hK hP 0 rfl rfl 4 (by decide) (hts _ (List.mem_cons_of_mem _ pw165)) (fun _ h9 => h9) rfl dX1_count_34 ?_
        refine lv_goto (tgt := 53) hx hb dX1_count_37 (by decide) ?_
        rw [← hQ]
        exact W.iret (v := cl) hx hb hr (fun t ht hW => ⟨⟨cl, (), rfl, by rw [if_neg h0, if_neg h1, if_pos h2], by rw [ht]; exact hP, va_K.moved hW.alike hK, hD⟩, hS.F ht⟩) hS.2.2 dX1_count_53
    · refine lv_aload_n hx hb dX1_count_21 rfl (lv_at hl 0 rfl) ?_
      refine va_get (D := (dC, dI)) (ci := 1) (v := .int (nI n)) (C := RX1) (T := TX1) (N := 7) hx hb hts (fun w h => List.mem_cons_of_mem _ (pt_wsX1 w h)) hown hK hP 0 rfl rfl 3 (by decide) (hts _ (List.mem_cons_of_mem _ pw164)) (fun _ h9 => h9) rfl dX1_count_22 ?_
      refine lv_goto (tgt := 53) hx hb dX1_count_25 (by decide) ?_
      rw [← hQ]
      exact W.iret (v := nI n) hx hb hr (fun t ht hW => ⟨⟨nI n, (), rfl, by rw [if_neg h0, if_pos h1], by rw [ht]; exact hP, va_K.moved hW.alike hK, hD⟩, hS.F ht⟩) hS.2.2 dX1_count_53
  · refine lv_aload_n hx hb dX1_count_9 rfl (lv_at hl 0 rfl) ?_
    refine va_get (D := (dC, dI)) (ci := 1) (v := .int (nI k)) (C := RX1) (T := TX1) (N := 7) hx hb hts (fun w h => List.mem_cons_of_mem _ (pt_wsX1 w h)) hown hK hP 0 rfl rfl 2 (by decide) (hts _ (List.mem_cons_of_mem _ pw163)) (fun _ h9 => h9) rfl dX1_count_10 ?_
    refine lv_goto (tgt := 53) hx hb dX1_count_13 (by decide) ?_
    rw [← hQ]
    exact W.iret (v := nI k) hx hb hr (fun t ht hW => ⟨⟨nI k, (), rfl, by rw [if_pos h0], by rw [ht]; exact hP, va_K.moved hW.alike hK, hD⟩, hS.F ht⟩) hS.2.2 dX1_count_53
