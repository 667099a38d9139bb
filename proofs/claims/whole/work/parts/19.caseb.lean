set_option maxHeartbeats 4000000 in
set_option maxRecDepth 100000 in
theorem lw_case_meets (l : Launch) (hl9 : l.stackTraces = false) {p : Program} {e : Env} {s : State} {m : MethodId} {below : List Frame} {meth : Method} {c : Code} {Q : State → Prop} {b L : Nat} {xs : Nat → Int32} (dC : Nat → ClassId) (dI : Nat → Nat → Nat) {A : Nat → Prop} (hAs : ∀ q : Nat, A q → s.heap.size ≤ q) (hA : ∀ q : Nat, s.heap.size ≤ q → A q) (hx : p.tables.exec = Jvm.exec) (hb : c.code = code) (hml : c.maxLocals = 8) (hown : s.vm.findClass RL = some m.cls) (hts : ∀ w ∈ Cond.initialized RL :: pt_all, w.before #[Value.ref b] s = true) (hX : va_X b L xs s s.heap) (hbl : b < s.heap.size) (hbA : ¬ A b) (h0X : pt_X s) (hext0 : pt_ext s s) {h0 c0 w0 g0 a0 b0 o0 : Nat} {kc kw ja jb ko : ClassId} (hK : va_K (dC, dI) vwCl [(kc, .long), (kw, .long), (ja, .long), (jb, .long), (ko, .long)] s) {k n : Nat} {fc fv : Nat → Int64} {cl su th : Int32} {fo : Nat → Int64} {H : Heap} {locs : List Loc} {ls : Array Slot} {j : Nat} (hL : L ≤ 2560) (hj : 5 * j + 5 ≤ L) (hI : pt_I k n fc fv) (hP : va_P (dC, dI) vwCl [(h0, .inr (0, [.ref c0, .ref w0, .int (nI k), .int (nI n), .long (pt_mk n), .int cl, .int su])), (c0, .inl (kc, 512, .inr (.inl fc))), (w0, .inl (kw, 512, .inr (.inl fv))), (g0, .inr (1, [.ref a0, .ref b0, .int (nI k), .int (nI n), .int cl, .int su, .int th])), (a0, .inl (ja, 512, .inr (.inl fc))), (b0, .inl (jb, 512, .inr (.inl fv))), (o0, .inl (ko, 1, .inr (.inl fo)))] H) (hD : va_D A [(h0, .inr (0, [.ref c0, .ref w0, .int (nI k), .int (nI n), .long (pt_mk n), .int cl, .int su])), (c0, .inl (kc, 512, .inr (.inl fc))), (w0, .inl (kw, 512, .inr (.inl fv))), (g0, .inr (1, [.ref a0, .ref b0, .int (nI k), .int (nI n), .int cl, .int su, .int th])), (a0, .inl (ja, 512, .inr (.inl fc))), (b0, .inl (jb, 512, .inr (.inl fv))), (o0, .inl (ko, 1, .inr (.inl fo)))]) (hS : va_S A s.heap H locs) (hl : lv_has ls 8 [(4, .int (nI (5 * j))), (3, .ref o0), (2, .ref g0), (1, .ref h0), (0, .ref b)]) (kk : ∀ (k n : Nat) (fc fv : Nat → Int64) (cl su th : Int32) (fo : Nat → Int64) (H : Heap) (locs : List Loc) (ls : Array Slot), pt_I k n fc fv → va_P (dC, dI) vwCl [(h0, .inr (0, [.ref c0, .ref w0, .int (nI k), .int (nI n), .long (pt_mk n), .int cl, .int su])), (c0, .inl (kc, 512, .inr (.inl fc))), (w0, .inl (kw, 512, .inr (.inl fv))), (g0, .inr (1, [.ref a0, .ref b0, .int (nI k), .int (nI n), .int cl, .int su, .int th])), (a0, .inl (ja, 512, .inr (.inl fc))), (b0, .inl (jb, 512, .inr (.inl fv))), (o0, .inl (ko, 1, .inr (.inl fo)))] H → va_D A [(h0, .inr (0, [.ref c0, .ref w0, .int (nI k), .int (nI n), .long (pt_mk n), .int cl, .int su])), (c0, .inl (kc, 512, .inr (.inl fc))), (w0, .inl (kw, 512, .inr (.inl fv))), (g0, .inr (1, [.ref a0, .ref b0, .int (nI k), .int (nI n), .int cl, .int su, .int th])), (a0, .inl (ja, 512, .inr (.inl fc))), (b0, .inl (jb, 512, .inr (.inl fv))), (o0, .inl (ko, 1, .inr (.inl fo)))] → va_S A s.heap H locs → lv_has ls 8 [(4, .int (nI (5 * (j + 1)))), (3, .ref o0), (2, .ref g0), (1, .ref h0), (0, .ref b)] → W p l e room_1 s m #[Value.ref b] below meth c H locs (7 + (j + 1)) (2063 + 6 * (j + 1)) Q (F0 m 23 ls [])) : W p l e room_1 s m #[Value.ref b] below meth c H locs (7 + j) (2063 + 6 * j) Q (F0 m 441 ls []) := by
  refine lv_aload_n hx hb dL_law_441 rfl (lv_at hl 3 rfl) ?_
  refine lv_aload_n hx hb dL_law_442 rfl (lv_at hl 4 rfl) ?_
  refine lv_iload hx hb dL_law_443 (lv_at hl 0 rfl) ?_
  refine lv_iconst (v := 1) hx hb dL_law_445 (by decide) ?_
  refine lv_iadd hx hb dL_law_446 ?_
  rw [show nI (5 * j) + 1 = nI (5 * j + 1) from nI_add (5 * j) 1]
  refine va_sld hx hb hX hbl hbA hS (vp_in_nI (by omega) (by omega)) dL_law_447 ?_
  rw [nI_clamp (by omega)]
  refine lv_i2l (v := (xs (5 * j + 1)).toInt64) hx hb dL_law_448 rfl ?_
  refine lv_bipush (v := 32) hx hb dL_law_449 (by decide) ?_
  refine lv_lshl (v := pt_shl ((xs (5 * j + 1)).toInt64) 32) hx hb dL_law_451 rfl ?_
  refine lv_aload_n hx hb dL_law_452 rfl (lv_at hl 4 rfl) ?_
  refine lv_iload hx hb dL_law_453 (lv_at hl 0 rfl) ?_
  refine lv_iconst (v := 2) hx hb dL_law_455 (by decide) ?_
  refine lv_iadd hx hb dL_law_456 ?_
  rw [show nI (5 * j) + 2 = nI (5 * j + 2) from nI_add (5 * j) 2]
  refine va_sld hx hb hX hbl hbA hS (vp_in_nI (by omega) (by omega)) dL_law_457 ?_
  rw [nI_clamp (by omega)]
  refine lv_i2l (v := (xs (5 * j + 2)).toInt64) hx hb dL_law_458 rfl ?_
  refine lv_ldc2 (v := 4294967295) hx hb hown (hts _ (List.mem_cons_of_mem _ pw250)) dL_law_459 ?_
  refine lv_land hx hb dL_law_462 ?_
  refine lv_lor hx hb dL_law_463 ?_
  refine lv_topl (fun v1 ev1 => ?_)
  refine lv_aload_n hx hb dL_law_464 rfl (lv_at hl 4 rfl) ?_
  refine lv_iload hx hb dL_law_465 (lv_at hl 0 rfl) ?_
  refine lv_iconst (v := 3) hx hb dL_law_467 (by decide) ?_
  refine lv_iadd hx hb dL_law_468 ?_
  rw [show nI (5 * j) + 3 = nI (5 * j + 3) from nI_add (5 * j) 3]
  refine va_sld hx hb hX hbl hbA hS (vp_in_nI (by omega) (by omega)) dL_law_469 ?_
  rw [nI_clamp (by omega)]
  refine lv_i2l (v := (xs (5 * j + 3)).toInt64) hx hb dL_law_470 rfl ?_
  refine lv_bipush (v := 32) hx hb dL_law_471 (by decide) ?_
  refine lv_lshl (v := pt_shl ((xs (5 * j + 3)).toInt64) 32) hx hb dL_law_473 rfl ?_
  refine lv_aload_n hx hb dL_law_474 rfl (lv_at hl 4 rfl) ?_
  refine lv_iload hx hb dL_law_475 (lv_at hl 0 rfl) ?_
  refine lv_iconst (v := 4) hx hb dL_law_477 (by decide) ?_
  refine lv_iadd hx hb dL_law_478 ?_
  rw [show nI (5 * j) + 4 = nI (5 * j + 4) from nI_add (5 * j) 4]
  refine va_sld hx hb hX hbl hbA hS (vp_in_nI (by omega) (by omega)) dL_law_479 ?_
  rw [nI_clamp (by omega)]
  refine lv_i2l (v := (xs (5 * j + 4)).toInt64) hx hb dL_law_480 rfl ?_
  refine lv_ldc2 (v := 4294967295) hx hb hown (hts _ (List.mem_cons_of_mem _ pw250)) dL_law_481 ?_
  refine lv_land hx hb dL_law_484 ?_
  refine lv_lor hx hb dL_law_485 ?_
  refine lv_topl (fun v2 ev2 => ?_)
  refine lv_aload_n hx hb dL_law_486 rfl (lv_at hl 1 rfl) ?_
  have hPc := hP.sub (ws' := [(h0, .inr (0, [.ref c0, .ref w0, .int (nI k), .int (nI n), .long (pt_mk n), .int cl, .int su])), (c0, .inl (kc, 512, .inr (.inl fc))), (w0, .inl (kw, 512, .inr (.inl fv))), (o0, .inl (ko, 1, .inr (.inl fo)))]) [0, 1, 2, 6] rfl
  have hDc := hD.sub (ws' := [(h0, .inr (0, [.ref c0, .ref w0, .int (nI k), .int (nI n), .long (pt_mk n), .int cl, .int su])), (c0, .inl (kc, 512, .inr (.inl fc))), (w0, .inl (kw, 512, .inr (.inl fv))), (o0, .inl (ko, 1, .inr (.inl fo)))]) [0, 1, 2, 6] (by decide) rfl
  have hKc := hK.sub (tys' := [(kc, .long), (kw, .long), (ko, .long)]) [0, 1, 4] rfl
  have hFc := va_free (wc := [(h0, .inr (0, [.ref c0, .ref w0, .int (nI k), .int (nI n), .long (pt_mk n), .int cl, .int su])), (c0, .inl (kc, 512, .inr (.inl fc))), (w0, .inl (kw, 512, .inr (.inl fv))), (o0, .inl (ko, 1, .inr (.inl fo)))]) hD hS hA [0, 1, 2, 6] rfl
  refine va_calli (pt_runSW (n := 4) (hh := [(0, 11, 14, 13)]) (maxL := 7) (As := [.ref h0, .long v1, .long v2, .ref o0]) (rest := []) ⟨hx, hb, hml, hown, hts⟩ (c_Lmeets l hl9 dC dI s h0X h0 c0 w0 kc kw k n fc fv cl su o0 ko fo v1 v2 H.size hI.1) (pt_gW pw109 pw110 pw16 pw111) rfl rfl rfl (by decide +kernel) ⟨Nat.le_of_ble_eq_true rfl, Nat.le_of_ble_eq_true rfl⟩ ⟨fun a U g mk q => by obtain ⟨q0, q1, qP, qK, qD, qX⟩ := q; exact ⟨q0, q1, qP, va_K.moved (u := U) (U := U.calling g mk a) (Vm.Alike.refl U.vm) qK, qD, qX⟩, fun U hU hW => ⟨rfl, by rw [hU], by rw [hU]; exact hPc, va_K.moved hW.alike hKc, hDc.weaken (fun _ _ _ h => hAs _ h), hext0.on2 hS hAs hU hW⟩⟩ rfl rfl hl.1 rfl (lv_room (Nat.le_of_ble_eq_true rfl)) dL_law_487 ⟨by show _ ≤ 1039; omega, by show _ ≤ 10303; omega⟩) hS (fun q _ h => hFc q h) hFc (fun r1 u t H1 locs ht hvm hw hB hz1 hk1 hS => ?_)
  obtain ⟨fo2, rfl⟩ : ∃ z, z = u := ⟨_, rfl⟩
  obtain ⟨hP1, hK1, hD1⟩ := hB
  rw [ht] at hP1
  obtain ⟨hP, hD⟩ := va_join (wr := [(g0, .inr (1, [.ref a0, .ref b0, .int (nI k), .int (nI n), .int cl, .int su, .int th])), (a0, .inl (ja, 512, .inr (.inl fc))), (b0, .inl (jb, 512, .inr (.inl fv)))]) (w1 := [(h0, .inr (0, [.ref c0, .ref w0, .int (nI k), .int (nI n), .long (pt_mk n), .int cl, .int su])), (c0, .inl (kc, 512, .inr (.inl fc))), (w0, .inl (kw, 512, .inr (.inl fv))), (o0, .inl (ko, 1, .inr (.inl fo2)))]) hP hD [0, 1, 2, 6] [3, 4, 5] rfl rfl (by decide) (by decide) hk1 hFc hP1 hD1
  generalize H1 = H at hP hS ⊢
  have hP := hP.sub (ws' := [(h0, .inr (0, [.ref c0, .ref w0, .int (nI k), .int (nI n), .long (pt_mk n), .int cl, .int su])), (c0, .inl (kc, 512, .inr (.inl fc))), (w0, .inl (kw, 512, .inr (.inl fv))), (g0, .inr (1, [.ref a0, .ref b0, .int (nI k), .int (nI n), .int cl, .int su, .int th])), (a0, .inl (ja, 512, .inr (.inl fc))), (b0, .inl (jb, 512, .inr (.inl fv))), (o0, .inl (ko, 1, .inr (.inl fo2)))]) [3, 4, 5, 0, 1, 2, 6] rfl
  have hD := hD.sub (ws' := [(h0, .inr (0, [.ref c0, .ref w0, .int (nI k), .int (nI n), .long (pt_mk n), .int cl, .int su])), (c0, .inl (kc, 512, .inr (.inl fc))), (w0, .inl (kw, 512, .inr (.inl fv))), (g0, .inr (1, [.ref a0, .ref b0, .int (nI k), .int (nI n), .int cl, .int su, .int th])), (a0, .inl (ja, 512, .inr (.inl fc))), (b0, .inl (jb, 512, .inr (.inl fv))), (o0, .inl (ko, 1, .inr (.inl fo2)))]) [3, 4, 5, 0, 1, 2, 6] (by decide) rfl
  have hP : va_P (dC, dI) vwCl [(h0, .inr (0, [.ref c0, .ref w0, .int (nI k), .int (nI n), .long (pt_mk n), .int cl, .int su])), (c0, .inl (kc, 512, .inr (.inl fc))), (w0, .inl (kw, 512, .inr (.inl fv))), (g0, .inr (1, [.ref a0, .ref b0, .int (nI k), .int (nI n), .int cl, .int su, .int th])), (a0, .inl (ja, 512, .inr (.inl fc))), (b0, .inl (jb, 512, .inr (.inl fv))), (o0, .inl (ko, 1, .inr (.inl fo2)))] H := hP
  have hD : va_D A [(h0, .inr (0, [.ref c0, .ref w0, .int (nI k), .int (nI n), .long (pt_mk n), .int cl, .int su])), (c0, .inl (kc, 512, .inr (.inl fc))), (w0, .inl (kw, 512, .inr (.inl fv))), (g0, .inr (1, [.ref a0, .ref b0, .int (nI k), .int (nI n), .int cl, .int su, .int th])), (a0, .inl (ja, 512, .inr (.inl fc))), (b0, .inl (jb, 512, .inr (.inl fv))), (o0, .inl (ko, 1, .inr (.inl fo2)))] := hD
  refine lv_istore (lv' := [(5, .int r1), (4, .int (nI (5 * j))), (3, .ref o0), (2, .ref g0), (1, .ref h0), (0, .ref b)]) hx hb dL_law_490 hl (by decide) rfl (fun ls hl => ?_)
  refine lv_aload_n hx hb dL_law_492 rfl (lv_at hl 3 rfl) ?_
  refine lv_aload_n hx hb dL_law_493 rfl (lv_at hl 5 rfl) ?_
  refine lv_iload hx hb dL_law_494 (lv_at hl 1 rfl) ?_
  refine lv_iconst (v := 1) hx hb dL_law_496 (by decide) ?_
  refine lv_iadd hx hb dL_law_497 ?_
  rw [show nI (5 * j) + 1 = nI (5 * j + 1) from nI_add (5 * j) 1]
  refine va_sld hx hb hX hbl hbA hS (vp_in_nI (by omega) (by omega)) dL_law_498 ?_
  rw [nI_clamp (by omega)]
  refine lv_i2l (v := (xs (5 * j + 1)).toInt64) hx hb dL_law_499 rfl ?_
  refine lv_bipush (v := 32) hx hb dL_law_500 (by decide) ?_
  refine lv_lshl (v := pt_shl ((xs (5 * j + 1)).toInt64) 32) hx hb dL_law_502 rfl ?_
  refine lv_aload_n hx hb dL_law_503 rfl (lv_at hl 5 rfl) ?_
  refine lv_iload hx hb dL_law_504 (lv_at hl 1 rfl) ?_
  refine lv_iconst (v := 2) hx hb dL_law_506 (by decide) ?_
  refine lv_iadd hx hb dL_law_507 ?_
  rw [show nI (5 * j) + 2 = nI (5 * j + 2) from nI_add (5 * j) 2]
  refine va_sld hx hb hX hbl hbA hS (vp_in_nI (by omega) (by omega)) dL_law_508 ?_
  rw [nI_clamp (by omega)]
  refine lv_i2l (v := (xs (5 * j + 2)).toInt64) hx hb dL_law_509 rfl ?_
  refine lv_ldc2 (v := 4294967295) hx hb hown (hts _ (List.mem_cons_of_mem _ pw250)) dL_law_510 ?_
  refine lv_land hx hb dL_law_513 ?_
  refine lv_lor hx hb dL_law_514 ?_
  rw [← ev1]
  refine lv_aload_n hx hb dL_law_515 rfl (lv_at hl 5 rfl) ?_
  refine lv_iload hx hb dL_law_516 (lv_at hl 1 rfl) ?_
  refine lv_iconst (v := 3) hx hb dL_law_518 (by decide) ?_
  refine lv_iadd hx hb dL_law_519 ?_
  rw [show nI (5 * j) + 3 = nI (5 * j + 3) from nI_add (5 * j) 3]
  refine va_sld hx hb hX hbl hbA hS (vp_in_nI (by omega) (by omega)) dL_law_520 ?_
  rw [nI_clamp (by omega)]
  refine lv_i2l (v := (xs (5 * j + 3)).toInt64) hx hb dL_law_521 rfl ?_
  refine lv_bipush (v := 32) hx hb dL_law_522 (by decide) ?_
  refine lv_lshl (v := pt_shl ((xs (5 * j + 3)).toInt64) 32) hx hb dL_law_524 rfl ?_
  refine lv_aload_n hx hb dL_law_525 rfl (lv_at hl 5 rfl) ?_
  refine lv_iload hx hb dL_law_526 (lv_at hl 1 rfl) ?_
  refine lv_iconst (v := 4) hx hb dL_law_528 (by decide) ?_
  refine lv_iadd hx hb dL_law_529 ?_
  rw [show nI (5 * j) + 4 = nI (5 * j + 4) from nI_add (5 * j) 4]
  refine va_sld hx hb hX hbl hbA hS (vp_in_nI (by omega) (by omega)) dL_law_530 ?_
  rw [nI_clamp (by omega)]
  refine lv_i2l (v := (xs (5 * j + 4)).toInt64) hx hb dL_law_531 rfl ?_
  refine lv_ldc2 (v := 4294967295) hx hb hown (hts _ (List.mem_cons_of_mem _ pw250)) dL_law_532 ?_
  refine lv_land hx hb dL_law_535 ?_
  refine lv_lor hx hb dL_law_536 ?_
  rw [← ev2]
  have hPc := hP.sub (ws' := [(g0, .inr (1, [.ref a0, .ref b0, .int (nI k), .int (nI n), .int cl, .int su, .int th])), (a0, .inl (ja, 512, .inr (.inl fc))), (b0, .inl (jb, 512, .inr (.inl fv)))]) [3, 4, 5] rfl
  have hDc := hD.sub (ws' := [(g0, .inr (1, [.ref a0, .ref b0, .int (nI k), .int (nI n), .int cl, .int su, .int th])), (a0, .inl (ja, 512, .inr (.inl fc))), (b0, .inl (jb, 512, .inr (.inl fv)))]) [3, 4, 5] (by decide) rfl
  have hKc := hK.sub (tys' := [(ja, .long), (jb, .long)]) [2, 3] rfl
  have hFc := va_free (wc := [(g0, .inr (1, [.ref a0, .ref b0, .int (nI k), .int (nI n), .int cl, .int su, .int th])), (a0, .inl (ja, 512, .inr (.inl fc))), (b0, .inl (jb, 512, .inr (.inl fv)))]) hD hS hA [3, 4, 5] rfl
  refine va_calli (va_runV (As := [.long v1, .long v2]) (rest := []) ⟨hx, hb, hml, hown, hts⟩ (c_mmeets l dC dI g0 a0 b0 ja jb k n fc fv cl su th v1 v2 H.size hI) (cwV 2 hts (pt_gV pw218 pw219 pw220 pw18 pw221) rfl rfl rfl (by decide +kernel) ⟨Nat.le_of_ble_eq_true rfl, Nat.le_of_ble_eq_true rfl⟩) ⟨fun a U g mk q => by obtain ⟨q0, q1, qP, qK, qD⟩ := q; exact ⟨q0, q1, qP, va_K.moved (u := U) (U := U.calling g mk a) (Vm.Alike.refl U.vm) qK, qD⟩, va_recv hK hP (ci := 1) (q0 := 3) rfl rfl, fun U hU hW => ⟨rfl, by rw [hU], by rw [hU]; exact hPc, va_K.moved hW.alike hKc, hDc.weaken (fun _ _ _ _ => trivial)⟩⟩ rfl rfl hl.1 rfl (lv_room (Nat.le_of_ble_eq_true rfl)) dL_law_537 ⟨by show _ ≤ 1039; omega, by show _ ≤ 10303; omega⟩) hS (fun q _ h => hFc q h) hFc (fun r2 u t H1 locs ht hvm hw2 hB hz1 hk1 hS => ?_)
  obtain ⟨th3, rfl⟩ : ∃ z, z = u := ⟨_, rfl⟩
  obtain ⟨hP1, hK1, hD1⟩ := hB
  rw [ht] at hP1
  obtain ⟨hP, hD⟩ := va_join (wr := [(h0, .inr (0, [.ref c0, .ref w0, .int (nI k), .int (nI n), .long (pt_mk n), .int cl, .int su])), (c0, .inl (kc, 512, .inr (.inl fc))), (w0, .inl (kw, 512, .inr (.inl fv))), (o0, .inl (ko, 1, .inr (.inl fo2)))]) (w1 := [(g0, .inr (1, [.ref a0, .ref b0, .int (nI k), .int (nI n), .int cl, .int su, .int th3])), (a0, .inl (ja, 512, .inr (.inl fc))), (b0, .inl (jb, 512, .inr (.inl fv)))]) hP hD [3, 4, 5] [0, 1, 2, 6] rfl rfl (by decide) (by decide) hk1 hFc hP1 hD1
  generalize H1 = H at hP hS ⊢
  have hP := hP.sub (ws' := [(h0, .inr (0, [.ref c0, .ref w0, .int (nI k), .int (nI n), .long (pt_mk n), .int cl, .int su])), (c0, .inl (kc, 512, .inr (.inl fc))), (w0, .inl (kw, 512, .inr (.inl fv))), (g0, .inr (1, [.ref a0, .ref b0, .int (nI k), .int (nI n), .int cl, .int su, .int th3])), (a0, .inl (ja, 512, .inr (.inl fc))), (b0, .inl (jb, 512, .inr (.inl fv))), (o0, .inl (ko, 1, .inr (.inl fo2)))]) [0, 1, 2, 4, 5, 6, 3] rfl
  have hD := hD.sub (ws' := [(h0, .inr (0, [.ref c0, .ref w0, .int (nI k), .int (nI n), .long (pt_mk n), .int cl, .int su])), (c0, .inl (kc, 512, .inr (.inl fc))), (w0, .inl (kw, 512, .inr (.inl fv))), (g0, .inr (1, [.ref a0, .ref b0, .int (nI k), .int (nI n), .int cl, .int su, .int th3])), (a0, .inl (ja, 512, .inr (.inl fc))), (b0, .inl (jb, 512, .inr (.inl fv))), (o0, .inl (ko, 1, .inr (.inl fo2)))]) [0, 1, 2, 4, 5, 6, 3] (by decide) rfl
  have hP : va_P (dC, dI) vwCl [(h0, .inr (0, [.ref c0, .ref w0, .int (nI k), .int (nI n), .long (pt_mk n), .int cl, .int su])), (c0, .inl (kc, 512, .inr (.inl fc))), (w0, .inl (kw, 512, .inr (.inl fv))), (g0, .inr (1, [.ref a0, .ref b0, .int (nI k), .int (nI n), .int cl, .int su, .int th3])), (a0, .inl (ja, 512, .inr (.inl fc))), (b0, .inl (jb, 512, .inr (.inl fv))), (o0, .inl (ko, 1, .inr (.inl fo2)))] H := hP
  have hD : va_D A [(h0, .inr (0, [.ref c0, .ref w0, .int (nI k), .int (nI n), .long (pt_mk n), .int cl, .int su])), (c0, .inl (kc, 512, .inr (.inl fc))), (w0, .inl (kw, 512, .inr (.inl fv))), (g0, .inr (1, [.ref a0, .ref b0, .int (nI k), .int (nI n), .int cl, .int su, .int th3])), (a0, .inl (ja, 512, .inr (.inl fc))), (b0, .inl (jb, 512, .inr (.inl fv))), (o0, .inl (ko, 1, .inr (.inl fo2)))] := hD
  obtain ⟨q1, q3⟩ := pt_Rmeets_det hw hw2
  refine lv_istore (lv' := [(6, .int r2), (5, .int r1), (4, .int (nI (5 * j))), (3, .ref o0), (2, .ref g0), (1, .ref h0), (0, .ref b)]) hx hb dL_law_540 hl (by decide) rfl (fun ls hl => ?_)
  refine lv_aload_n hx hb dL_law_542 rfl (lv_at hl 4 rfl) ?_
  refine vp_callSi (W.runV (As := []) (rest := []) ⟨hx, hb, hml, hown, hts⟩ (c_thrown l dC dI g0 a0 b0 ja jb k n fc fv cl su th3) (cwV 0 hts (pt_gV pw175 pw176 pw177 pw18 pw178) rfl rfl rfl (by decide +kernel) ⟨Nat.le_of_ble_eq_true rfl, Nat.le_of_ble_eq_true rfl⟩) ⟨fun a U g mk q => by obtain ⟨q0, qP, qK⟩ := q; exact ⟨q0, qP, va_K.moved (u := U) (U := U.calling g mk a) (Vm.Alike.refl U.vm) qK⟩, va_recv hK hP (ci := 1) (q0 := 3) rfl rfl, fun U hU hW => ⟨rfl, by rw [hU]; exact (hP.sub (ws' := [(g0, .inr (1, [.ref a0, .ref b0, .int (nI k), .int (nI n), .int cl, .int su, .int th3])), (a0, .inl (ja, 512, .inr (.inl fc))), (b0, .inl (jb, 512, .inr (.inl fv)))]) [3, 4, 5] rfl), va_K.moved hW.alike (hK.sub (tys' := [(ja, .long), (jb, .long)]) [2, 3] rfl)⟩⟩ rfl rfl hl.1 rfl (lv_room (Nat.le_of_ble_eq_true rfl)) dL_law_543 ⟨by show _ ≤ 1039; omega, by show _ ≤ 10303; omega⟩) (fun r3 hw9 => ?_)
  have hw9 := hw9.symm
  subst hw9
  refine lv_iload hx hb dL_law_546 (lv_at hl 1 rfl) ?_
  refine lv_icmp_eq (tgt := 553) hx hb dL_law_548 (by decide) (fun h5 => ?_) (fun h5 => absurd q1.symm h5)
  refine lv_iload hx hb dL_law_553 (lv_at hl 1 rfl) ?_
  refine lv_if_ne (tgt := 570) hx hb dL_law_555 (by decide) (fun h6 => ?_) (fun h6 => ?_)
  · refine lv_goto (tgt := 883) hx hb dL_law_570 (by decide) ?_
    refine lv_iinc (v := nI (5 * (j + 1))) (lv' := [(4, .int (nI (5 * (j + 1)))), (6, .int r2), (5, .int r1), (3, .ref o0), (2, .ref g0), (1, .ref h0), (0, .ref b)]) hx hb dL_law_883 hl (k := 2) rfl (show nI (5 * j) + nI 5 = nI (5 * j + 5) from nI_add _ _) (by decide) rfl (fun ls hl => ?_)
    refine lv_goto (tgt := 23) hx hb dL_law_886 (by decide) ?_
    refine W.widen (k := 7 + (j + 1)) (n := 2063 + 6 * (j + 1)) (by omega) (by omega) ?_
    exact kk k n fc fv cl su th3 fo2 H _ ls hI hP hD hS (lv_sub hl [0, 3, 4, 5, 6] rfl)
  · refine lv_aload_n hx hb dL_law_558 rfl (lv_at hl 3 rfl) ?_
    refine lv_iconst (v := 0) hx hb dL_law_559 (by decide) ?_
    refine va_lald hx hb hK hP 6 4 rfl rfl (vp_in_nI (n := 0) (by decide) (by decide)) dL_law_560 ?_
    rw [show Int32.toNatClampNeg 0 = 0 by decide]
    refine lv_iload hx hb dL_law_561 (lv_at hl 0 rfl) ?_
    refine lv_i2l (v := r2.toInt64) hx hb dL_law_563 rfl ?_
    refine W.lcmp hx hb dL_law_564 ?_
    refine lv_if_eq (tgt := 570) hx hb dL_law_565 (by decide) (fun h7 => ?_) (fun h7 => absurd (pt_cmp0.mpr (q3 h6)) h7)
    refine lv_goto (tgt := 883) hx hb dL_law_570 (by decide) ?_
    refine lv_iinc (v := nI (5 * (j + 1))) (lv' := [(4, .int (nI (5 * (j + 1)))), (6, .int r2), (5, .int r1), (3, .ref o0), (2, .ref g0), (1, .ref h0), (0, .ref b)]) hx hb dL_law_883 hl (k := 2) rfl (show nI (5 * j) + nI 5 = nI (5 * j + 5) from nI_add _ _) (by decide) rfl (fun ls hl => ?_)
    refine lv_goto (tgt := 23) hx hb dL_law_886 (by decide) ?_
    refine W.widen (k := 7 + (j + 1)) (n := 2063 + 6 * (j + 1)) (by omega) (by omega) ?_
    exact kk k n fc fv cl su th3 fo2 H _ ls hI hP hD hS (lv_sub hl [0, 3, 4, 5, 6] rfl)
set_option maxHeartbeats 4000000 in
set_option maxRecDepth 100000 in
theorem lw_case_free (l : Launch) (hl9 : l.stackTraces = false) {p : Program} {e : Env} {s : State} {m : MethodId} {below : List Frame} {meth : Method} {c : Code} {Q : State → Prop} {b L : Nat} {xs : Nat → Int32} (dC : Nat → ClassId) (dI : Nat → Nat → Nat) {A : Nat → Prop} (hAs : ∀ q : Nat, A q → s.heap.size ≤ q) (hA : ∀ q : Nat, s.heap.size ≤ q → A q) (hx : p.tables.exec = Jvm.exec) (hb : c.code = code) (hml : c.maxLocals = 8) (hown : s.vm.findClass RL = some m.cls) (hts : ∀ w ∈ Cond.initialized RL :: pt_all, w.before #[Value.ref b] s = true) (hX : va_X b L xs s s.heap) (hbl : b < s.heap.size) (hbA : ¬ A b) (h0X : pt_X s) (hext0 : pt_ext s s) {h0 c0 w0 g0 a0 b0 o0 : Nat} {kc kw ja jb ko : ClassId} (hK : va_K (dC, dI) vwCl [(kc, .long), (kw, .long), (ja, .long), (jb, .long), (ko, .long)] s) {k n : Nat} {fc fv : Nat → Int64} {cl su th : Int32} {fo : Nat → Int64} {H : Heap} {locs : List Loc} {ls : Array Slot} {j : Nat} (hL : L ≤ 2560) (hj : 5 * j + 5 ≤ L) (hI : pt_I k n fc fv) (hP : va_P (dC, dI) vwCl [(h0, .inr (0, [.ref c0, .ref w0, .int (nI k), .int (nI n), .long (pt_mk n), .int cl, .int su])), (c0, .inl (kc, 512, .inr (.inl fc))), (w0, .inl (kw, 512, .inr (.inl fv))), (g0, .inr (1, [.ref a0, .ref b0, .int (nI k), .int (nI n), .int cl, .int su, .int th])), (a0, .inl (ja, 512, .inr (.inl fc))), (b0, .inl (jb, 512, .inr (.inl fv))), (o0, .inl (ko, 1, .inr (.inl fo)))] H) (hD : va_D A [(h0, .inr (0, [.ref c0, .ref w0, .int (nI k), .int (nI n), .long (pt_mk n), .int cl, .int su])), (c0, .inl (kc, 512, .inr (.inl fc))), (w0, .inl (kw, 512, .inr (.inl fv))), (g0, .inr (1, [.ref a0, .ref b0, .int (nI k), .int (nI n), .int cl, .int su, .int th])), (a0, .inl (ja, 512, .inr (.inl fc))), (b0, .inl (jb, 512, .inr (.inl fv))), (o0, .inl (ko, 1, .inr (.inl fo)))]) (hS : va_S A s.heap H locs) (hl : lv_has ls 8 [(4, .int (nI (5 * j))), (3, .ref o0), (2, .ref g0), (1, .ref h0), (0, .ref b)]) (kk : ∀ (k n : Nat) (fc fv : Nat → Int64) (cl su th : Int32) (fo : Nat → Int64) (H : Heap) (locs : List Loc) (ls : Array Slot), pt_I k n fc fv → va_P (dC, dI) vwCl [(h0, .inr (0, [.ref c0, .ref w0, .int (nI k), .int (nI n), .long (pt_mk n), .int cl, .int su])), (c0, .inl (kc, 512, .inr (.inl fc))), (w0, .inl (kw, 512, .inr (.inl fv))), (g0, .inr (1, [.ref a0, .ref b0, .int (nI k), .int (nI n), .int cl, .int su, .int th])), (a0, .inl (ja, 512, .inr (.inl fc))), (b0, .inl (jb, 512, .inr (.inl fv))), (o0, .inl (ko, 1, .inr (.inl fo)))] H → va_D A [(h0, .inr (0, [.ref c0, .ref w0, .int (nI k), .int (nI n), .long (pt_mk n), .int cl, .int su])), (c0, .inl (kc, 512, .inr (.inl fc))), (w0, .inl (kw, 512, .inr (.inl fv))), (g0, .inr (1, [.ref a0, .ref b0, .int (nI k), .int (nI n), .int cl, .int su, .int th])), (a0, .inl (ja, 512, .inr (.inl fc))), (b0, .inl (jb, 512, .inr (.inl fv))), (o0, .inl (ko, 1, .inr (.inl fo)))] → va_S A s.heap H locs → lv_has ls 8 [(4, .int (nI (5 * (j + 1)))), (3, .ref o0), (2, .ref g0), (1, .ref h0), (0, .ref b)] → W p l e room_1 s m #[Value.ref b] below meth c H locs (7 + (j + 1)) (2063 + 6 * (j + 1)) Q (F0 m 23 ls [])) : W p l e room_1 s m #[Value.ref b] below meth c H locs (7 + j) (2063 + 6 * j) Q (F0 m 573 ls []) := by
  refine lv_aload_n hx hb dL_law_573 rfl (lv_at hl 3 rfl) ?_
  refine lv_aload_n hx hb dL_law_574 rfl (lv_at hl 4 rfl) ?_
  refine lv_iload hx hb dL_law_575 (lv_at hl 0 rfl) ?_
  refine lv_iconst (v := 1) hx hb dL_law_577 (by decide) ?_
  refine lv_iadd hx hb dL_law_578 ?_
  rw [show nI (5 * j) + 1 = nI (5 * j + 1) from nI_add (5 * j) 1]
  refine va_sld hx hb hX hbl hbA hS (vp_in_nI (by omega) (by omega)) dL_law_579 ?_
  rw [nI_clamp (by omega)]
  refine lv_i2l (v := (xs (5 * j + 1)).toInt64) hx hb dL_law_580 rfl ?_
  refine lv_bipush (v := 32) hx hb dL_law_581 (by decide) ?_
  refine lv_lshl (v := pt_shl ((xs (5 * j + 1)).toInt64) 32) hx hb dL_law_583 rfl ?_
  refine lv_aload_n hx hb dL_law_584 rfl (lv_at hl 4 rfl) ?_
  refine lv_iload hx hb dL_law_585 (lv_at hl 0 rfl) ?_
  refine lv_iconst (v := 2) hx hb dL_law_587 (by decide) ?_
  refine lv_iadd hx hb dL_law_588 ?_
  rw [show nI (5 * j) + 2 = nI (5 * j + 2) from nI_add (5 * j) 2]
  refine va_sld hx hb hX hbl hbA hS (vp_in_nI (by omega) (by omega)) dL_law_589 ?_
  rw [nI_clamp (by omega)]
  refine lv_i2l (v := (xs (5 * j + 2)).toInt64) hx hb dL_law_590 rfl ?_
  refine lv_ldc2 (v := 4294967295) hx hb hown (hts _ (List.mem_cons_of_mem _ pw250)) dL_law_591 ?_
  refine lv_land hx hb dL_law_594 ?_
  refine lv_lor hx hb dL_law_595 ?_
  refine lv_topl (fun v1 ev1 => ?_)
  refine lv_aload_n hx hb dL_law_596 rfl (lv_at hl 4 rfl) ?_
  refine lv_iload hx hb dL_law_597 (lv_at hl 0 rfl) ?_
  refine lv_iconst (v := 3) hx hb dL_law_599 (by decide) ?_
  refine lv_iadd hx hb dL_law_600 ?_
  rw [show nI (5 * j) + 3 = nI (5 * j + 3) from nI_add (5 * j) 3]
  refine va_sld hx hb hX hbl hbA hS (vp_in_nI (by omega) (by omega)) dL_law_601 ?_
  rw [nI_clamp (by omega)]
  refine lv_i2l (v := (xs (5 * j + 3)).toInt64) hx hb dL_law_602 rfl ?_
  refine lv_bipush (v := 32) hx hb dL_law_603 (by decide) ?_
  refine lv_lshl (v := pt_shl ((xs (5 * j + 3)).toInt64) 32) hx hb dL_law_605 rfl ?_
  refine lv_aload_n hx hb dL_law_606 rfl (lv_at hl 4 rfl) ?_
  refine lv_iload hx hb dL_law_607 (lv_at hl 0 rfl) ?_
  refine lv_iconst (v := 4) hx hb dL_law_609 (by decide) ?_
  refine lv_iadd hx hb dL_law_610 ?_
  rw [show nI (5 * j) + 4 = nI (5 * j + 4) from nI_add (5 * j) 4]
  refine va_sld hx hb hX hbl hbA hS (vp_in_nI (by omega) (by omega)) dL_law_611 ?_
  rw [nI_clamp (by omega)]
  refine lv_i2l (v := (xs (5 * j + 4)).toInt64) hx hb dL_law_612 rfl ?_
  refine lv_ldc2 (v := 4294967295) hx hb hown (hts _ (List.mem_cons_of_mem _ pw250)) dL_law_613 ?_
  refine lv_land hx hb dL_law_616 ?_
  refine lv_lor hx hb dL_law_617 ?_
  refine lv_topl (fun v2 ev2 => ?_)
  refine lv_aload_n hx hb dL_law_618 rfl (lv_at hl 1 rfl) ?_
  have hPc := hP.sub (ws' := [(h0, .inr (0, [.ref c0, .ref w0, .int (nI k), .int (nI n), .long (pt_mk n), .int cl, .int su])), (c0, .inl (kc, 512, .inr (.inl fc))), (w0, .inl (kw, 512, .inr (.inl fv))), (o0, .inl (ko, 1, .inr (.inl fo)))]) [0, 1, 2, 6] rfl
  have hDc := hD.sub (ws' := [(h0, .inr (0, [.ref c0, .ref w0, .int (nI k), .int (nI n), .long (pt_mk n), .int cl, .int su])), (c0, .inl (kc, 512, .inr (.inl fc))), (w0, .inl (kw, 512, .inr (.inl fv))), (o0, .inl (ko, 1, .inr (.inl fo)))]) [0, 1, 2, 6] (by decide) rfl
  have hKc := hK.sub (tys' := [(kc, .long), (kw, .long), (ko, .long)]) [0, 1, 4] rfl
  have hFc := va_free (wc := [(h0, .inr (0, [.ref c0, .ref w0, .int (nI k), .int (nI n), .long (pt_mk n), .int cl, .int su])), (c0, .inl (kc, 512, .inr (.inl fc))), (w0, .inl (kw, 512, .inr (.inl fv))), (o0, .inl (ko, 1, .inr (.inl fo)))]) hD hS hA [0, 1, 2, 6] rfl
  refine va_calli (pt_runSW (n := 4) (hh := [(0, 10, 13, 13)]) (maxL := 7) (As := [.ref h0, .long v1, .long v2, .ref o0]) (rest := []) ⟨hx, hb, hml, hown, hts⟩ (c_Lfree l hl9 dC dI s h0X h0 c0 w0 kc kw k n fc fv cl su o0 ko fo v1 v2 H.size hI.1) (pt_gW pw116 pw117 pw16 pw118) rfl rfl rfl (by decide +kernel) ⟨Nat.le_of_ble_eq_true rfl, Nat.le_of_ble_eq_true rfl⟩ ⟨fun a U g mk q => by obtain ⟨q0, q1, qP, qK, qD, qX⟩ := q; exact ⟨q0, q1, qP, va_K.moved (u := U) (U := U.calling g mk a) (Vm.Alike.refl U.vm) qK, qD, qX⟩, fun U hU hW => ⟨rfl, by rw [hU], by rw [hU]; exact hPc, va_K.moved hW.alike hKc, hDc.weaken (fun _ _ _ h => hAs _ h), hext0.on2 hS hAs hU hW⟩⟩ rfl rfl hl.1 rfl (lv_room (Nat.le_of_ble_eq_true rfl)) dL_law_619 ⟨by show _ ≤ 1039; omega, by show _ ≤ 10303; omega⟩) hS (fun q _ h => hFc q h) hFc (fun r1 u t H1 locs ht hvm hw hB hz1 hk1 hS => ?_)
  obtain ⟨fo2, rfl⟩ : ∃ z, z = u := ⟨_, rfl⟩
  obtain ⟨hP1, hK1, hD1⟩ := hB
  rw [ht] at hP1
  obtain ⟨hP, hD⟩ := va_join (wr := [(g0, .inr (1, [.ref a0, .ref b0, .int (nI k), .int (nI n), .int cl, .int su, .int th])), (a0, .inl (ja, 512, .inr (.inl fc))), (b0, .inl (jb, 512, .inr (.inl fv)))]) (w1 := [(h0, .inr (0, [.ref c0, .ref w0, .int (nI k), .int (nI n), .long (pt_mk n), .int cl, .int su])), (c0, .inl (kc, 512, .inr (.inl fc))), (w0, .inl (kw, 512, .inr (.inl fv))), (o0, .inl (ko, 1, .inr (.inl fo2)))]) hP hD [0, 1, 2, 6] [3, 4, 5] rfl rfl (by decide) (by decide) hk1 hFc hP1 hD1
  generalize H1 = H at hP hS ⊢
  have hP := hP.sub (ws' := [(h0, .inr (0, [.ref c0, .ref w0, .int (nI k), .int (nI n), .long (pt_mk n), .int cl, .int su])), (c0, .inl (kc, 512, .inr (.inl fc))), (w0, .inl (kw, 512, .inr (.inl fv))), (g0, .inr (1, [.ref a0, .ref b0, .int (nI k), .int (nI n), .int cl, .int su, .int th])), (a0, .inl (ja, 512, .inr (.inl fc))), (b0, .inl (jb, 512, .inr (.inl fv))), (o0, .inl (ko, 1, .inr (.inl fo2)))]) [3, 4, 5, 0, 1, 2, 6] rfl
  have hD := hD.sub (ws' := [(h0, .inr (0, [.ref c0, .ref w0, .int (nI k), .int (nI n), .long (pt_mk n), .int cl, .int su])), (c0, .inl (kc, 512, .inr (.inl fc))), (w0, .inl (kw, 512, .inr (.inl fv))), (g0, .inr (1, [.ref a0, .ref b0, .int (nI k), .int (nI n), .int cl, .int su, .int th])), (a0, .inl (ja, 512, .inr (.inl fc))), (b0, .inl (jb, 512, .inr (.inl fv))), (o0, .inl (ko, 1, .inr (.inl fo2)))]) [3, 4, 5, 0, 1, 2, 6] (by decide) rfl
  have hP : va_P (dC, dI) vwCl [(h0, .inr (0, [.ref c0, .ref w0, .int (nI k), .int (nI n), .long (pt_mk n), .int cl, .int su])), (c0, .inl (kc, 512, .inr (.inl fc))), (w0, .inl (kw, 512, .inr (.inl fv))), (g0, .inr (1, [.ref a0, .ref b0, .int (nI k), .int (nI n), .int cl, .int su, .int th])), (a0, .inl (ja, 512, .inr (.inl fc))), (b0, .inl (jb, 512, .inr (.inl fv))), (o0, .inl (ko, 1, .inr (.inl fo2)))] H := hP
  have hD : va_D A [(h0, .inr (0, [.ref c0, .ref w0, .int (nI k), .int (nI n), .long (pt_mk n), .int cl, .int su])), (c0, .inl (kc, 512, .inr (.inl fc))), (w0, .inl (kw, 512, .inr (.inl fv))), (g0, .inr (1, [.ref a0, .ref b0, .int (nI k), .int (nI n), .int cl, .int su, .int th])), (a0, .inl (ja, 512, .inr (.inl fc))), (b0, .inl (jb, 512, .inr (.inl fv))), (o0, .inl (ko, 1, .inr (.inl fo2)))] := hD
  refine lv_istore (lv' := [(5, .int r1), (4, .int (nI (5 * j))), (3, .ref o0), (2, .ref g0), (1, .ref h0), (0, .ref b)]) hx hb dL_law_622 hl (by decide) rfl (fun ls hl => ?_)
  refine lv_aload_n hx hb dL_law_624 rfl (lv_at hl 3 rfl) ?_
  refine lv_aload_n hx hb dL_law_625 rfl (lv_at hl 5 rfl) ?_
  refine lv_iload hx hb dL_law_626 (lv_at hl 1 rfl) ?_
  refine lv_iconst (v := 1) hx hb dL_law_628 (by decide) ?_
  refine lv_iadd hx hb dL_law_629 ?_
  rw [show nI (5 * j) + 1 = nI (5 * j + 1) from nI_add (5 * j) 1]
  refine va_sld hx hb hX hbl hbA hS (vp_in_nI (by omega) (by omega)) dL_law_630 ?_
  rw [nI_clamp (by omega)]
  refine lv_i2l (v := (xs (5 * j + 1)).toInt64) hx hb dL_law_631 rfl ?_
  refine lv_bipush (v := 32) hx hb dL_law_632 (by decide) ?_
  refine lv_lshl (v := pt_shl ((xs (5 * j + 1)).toInt64) 32) hx hb dL_law_634 rfl ?_
  refine lv_aload_n hx hb dL_law_635 rfl (lv_at hl 5 rfl) ?_
  refine lv_iload hx hb dL_law_636 (lv_at hl 1 rfl) ?_
  refine lv_iconst (v := 2) hx hb dL_law_638 (by decide) ?_
  refine lv_iadd hx hb dL_law_639 ?_
  rw [show nI (5 * j) + 2 = nI (5 * j + 2) from nI_add (5 * j) 2]
  refine va_sld hx hb hX hbl hbA hS (vp_in_nI (by omega) (by omega)) dL_law_640 ?_
  rw [nI_clamp (by omega)]
  refine lv_i2l (v := (xs (5 * j + 2)).toInt64) hx hb dL_law_641 rfl ?_
  refine lv_ldc2 (v := 4294967295) hx hb hown (hts _ (List.mem_cons_of_mem _ pw250)) dL_law_642 ?_
  refine lv_land hx hb dL_law_645 ?_
  refine lv_lor hx hb dL_law_646 ?_
  rw [← ev1]
  refine lv_aload_n hx hb dL_law_647 rfl (lv_at hl 5 rfl) ?_
  refine lv_iload hx hb dL_law_648 (lv_at hl 1 rfl) ?_
  refine lv_iconst (v := 3) hx hb dL_law_650 (by decide) ?_
  refine lv_iadd hx hb dL_law_651 ?_
  rw [show nI (5 * j) + 3 = nI (5 * j + 3) from nI_add (5 * j) 3]
  refine va_sld hx hb hX hbl hbA hS (vp_in_nI (by omega) (by omega)) dL_law_652 ?_
  rw [nI_clamp (by omega)]
  refine lv_i2l (v := (xs (5 * j + 3)).toInt64) hx hb dL_law_653 rfl ?_
  refine lv_bipush (v := 32) hx hb dL_law_654 (by decide) ?_
  refine lv_lshl (v := pt_shl ((xs (5 * j + 3)).toInt64) 32) hx hb dL_law_656 rfl ?_
  refine lv_aload_n hx hb dL_law_657 rfl (lv_at hl 5 rfl) ?_
  refine lv_iload hx hb dL_law_658 (lv_at hl 1 rfl) ?_
  refine lv_iconst (v := 4) hx hb dL_law_660 (by decide) ?_
  refine lv_iadd hx hb dL_law_661 ?_
  rw [show nI (5 * j) + 4 = nI (5 * j + 4) from nI_add (5 * j) 4]
  refine va_sld hx hb hX hbl hbA hS (vp_in_nI (by omega) (by omega)) dL_law_662 ?_
  rw [nI_clamp (by omega)]
  refine lv_i2l (v := (xs (5 * j + 4)).toInt64) hx hb dL_law_663 rfl ?_
  refine lv_ldc2 (v := 4294967295) hx hb hown (hts _ (List.mem_cons_of_mem _ pw250)) dL_law_664 ?_
  refine lv_land hx hb dL_law_667 ?_
  refine lv_lor hx hb dL_law_668 ?_
  rw [← ev2]
  have hPc := hP.sub (ws' := [(g0, .inr (1, [.ref a0, .ref b0, .int (nI k), .int (nI n), .int cl, .int su, .int th])), (a0, .inl (ja, 512, .inr (.inl fc))), (b0, .inl (jb, 512, .inr (.inl fv)))]) [3, 4, 5] rfl
  have hDc := hD.sub (ws' := [(g0, .inr (1, [.ref a0, .ref b0, .int (nI k), .int (nI n), .int cl, .int su, .int th])), (a0, .inl (ja, 512, .inr (.inl fc))), (b0, .inl (jb, 512, .inr (.inl fv)))]) [3, 4, 5] (by decide) rfl
  have hKc := hK.sub (tys' := [(ja, .long), (jb, .long)]) [2, 3] rfl
  have hFc := va_free (wc := [(g0, .inr (1, [.ref a0, .ref b0, .int (nI k), .int (nI n), .int cl, .int su, .int th])), (a0, .inl (ja, 512, .inr (.inl fc))), (b0, .inl (jb, 512, .inr (.inl fv)))]) hD hS hA [3, 4, 5] rfl
  refine va_calll (va_runV (As := [.long v1, .long v2]) (rest := []) ⟨hx, hb, hml, hown, hts⟩ (c_mfree l dC dI g0 a0 b0 ja jb k n fc fv cl su th v1 v2 H.size hI) (cwV 2 hts (pt_gV pw222 pw223 pw224 pw18 pw225) rfl rfl rfl (by decide +kernel) ⟨Nat.le_of_ble_eq_true rfl, Nat.le_of_ble_eq_true rfl⟩) ⟨fun a U g mk q => by obtain ⟨q0, q1, qP, qK, qD⟩ := q; exact ⟨q0, q1, qP, va_K.moved (u := U) (U := U.calling g mk a) (Vm.Alike.refl U.vm) qK, qD⟩, va_recv hK hP (ci := 1) (q0 := 3) rfl rfl, fun U hU hW => ⟨rfl, by rw [hU], by rw [hU]; exact hPc, va_K.moved hW.alike hKc, hDc.weaken (fun _ _ _ _ => trivial)⟩⟩ rfl rfl hl.1 rfl (lv_room (Nat.le_of_ble_eq_true rfl)) dL_law_669 ⟨by show _ ≤ 1039; omega, by show _ ≤ 10303; omega⟩) hS (fun q _ h => hFc q h) hFc (fun r2 u t H1 locs ht hvm hw2 hB hz1 hk1 hS => ?_)
  obtain ⟨th3, rfl⟩ : ∃ z, z = u := ⟨_, rfl⟩
  obtain ⟨hP1, hK1, hD1⟩ := hB
  rw [ht] at hP1
  obtain ⟨hP, hD⟩ := va_join (wr := [(h0, .inr (0, [.ref c0, .ref w0, .int (nI k), .int (nI n), .long (pt_mk n), .int cl, .int su])), (c0, .inl (kc, 512, .inr (.inl fc))), (w0, .inl (kw, 512, .inr (.inl fv))), (o0, .inl (ko, 1, .inr (.inl fo2)))]) (w1 := [(g0, .inr (1, [.ref a0, .ref b0, .int (nI k), .int (nI n), .int cl, .int su, .int th3])), (a0, .inl (ja, 512, .inr (.inl fc))), (b0, .inl (jb, 512, .inr (.inl fv)))]) hP hD [3, 4, 5] [0, 1, 2, 6] rfl rfl (by decide) (by decide) hk1 hFc hP1 hD1
  generalize H1 = H at hP hS ⊢
  have hP := hP.sub (ws' := [(h0, .inr (0, [.ref c0, .ref w0, .int (nI k), .int (nI n), .long (pt_mk n), .int cl, .int su])), (c0, .inl (kc, 512, .inr (.inl fc))), (w0, .inl (kw, 512, .inr (.inl fv))), (g0, .inr (1, [.ref a0, .ref b0, .int (nI k), .int (nI n), .int cl, .int su, .int th3])), (a0, .inl (ja, 512, .inr (.inl fc))), (b0, .inl (jb, 512, .inr (.inl fv))), (o0, .inl (ko, 1, .inr (.inl fo2)))]) [0, 1, 2, 4, 5, 6, 3] rfl
  have hD := hD.sub (ws' := [(h0, .inr (0, [.ref c0, .ref w0, .int (nI k), .int (nI n), .long (pt_mk n), .int cl, .int su])), (c0, .inl (kc, 512, .inr (.inl fc))), (w0, .inl (kw, 512, .inr (.inl fv))), (g0, .inr (1, [.ref a0, .ref b0, .int (nI k), .int (nI n), .int cl, .int su, .int th3])), (a0, .inl (ja, 512, .inr (.inl fc))), (b0, .inl (jb, 512, .inr (.inl fv))), (o0, .inl (ko, 1, .inr (.inl fo2)))]) [0, 1, 2, 4, 5, 6, 3] (by decide) rfl
  have hP : va_P (dC, dI) vwCl [(h0, .inr (0, [.ref c0, .ref w0, .int (nI k), .int (nI n), .long (pt_mk n), .int cl, .int su])), (c0, .inl (kc, 512, .inr (.inl fc))), (w0, .inl (kw, 512, .inr (.inl fv))), (g0, .inr (1, [.ref a0, .ref b0, .int (nI k), .int (nI n), .int cl, .int su, .int th3])), (a0, .inl (ja, 512, .inr (.inl fc))), (b0, .inl (jb, 512, .inr (.inl fv))), (o0, .inl (ko, 1, .inr (.inl fo2)))] H := hP
  have hD : va_D A [(h0, .inr (0, [.ref c0, .ref w0, .int (nI k), .int (nI n), .long (pt_mk n), .int cl, .int su])), (c0, .inl (kc, 512, .inr (.inl fc))), (w0, .inl (kw, 512, .inr (.inl fv))), (g0, .inr (1, [.ref a0, .ref b0, .int (nI k), .int (nI n), .int cl, .int su, .int th3])), (a0, .inl (ja, 512, .inr (.inl fc))), (b0, .inl (jb, 512, .inr (.inl fv))), (o0, .inl (ko, 1, .inr (.inl fo2)))] := hD
  obtain ⟨q1, q3⟩ := pt_Rfree_det hw hw2
  refine lv_lstore (lv' := [(6, .long r2), (5, .int r1), (4, .int (nI (5 * j))), (3, .ref o0), (2, .ref g0), (1, .ref h0), (0, .ref b)]) hx hb dL_law_672 hl (by decide) rfl (fun ls hl => ?_)
  refine lv_aload_n hx hb dL_law_674 rfl (lv_at hl 4 rfl) ?_
  refine vp_callSi (W.runV (As := []) (rest := []) ⟨hx, hb, hml, hown, hts⟩ (c_thrown l dC dI g0 a0 b0 ja jb k n fc fv cl su th3) (cwV 0 hts (pt_gV pw175 pw176 pw177 pw18 pw178) rfl rfl rfl (by decide +kernel) ⟨Nat.le_of_ble_eq_true rfl, Nat.le_of_ble_eq_true rfl⟩) ⟨fun a U g mk q => by obtain ⟨q0, qP, qK⟩ := q; exact ⟨q0, qP, va_K.moved (u := U) (U := U.calling g mk a) (Vm.Alike.refl U.vm) qK⟩, va_recv hK hP (ci := 1) (q0 := 3) rfl rfl, fun U hU hW => ⟨rfl, by rw [hU]; exact (hP.sub (ws' := [(g0, .inr (1, [.ref a0, .ref b0, .int (nI k), .int (nI n), .int cl, .int su, .int th3])), (a0, .inl (ja, 512, .inr (.inl fc))), (b0, .inl (jb, 512, .inr (.inl fv)))]) [3, 4, 5] rfl), va_K.moved hW.alike (hK.sub (tys' := [(ja, .long), (jb, .long)]) [2, 3] rfl)⟩⟩ rfl rfl hl.1 rfl (lv_room (Nat.le_of_ble_eq_true rfl)) dL_law_675 ⟨by show _ ≤ 1039; omega, by show _ ≤ 10303; omega⟩) (fun r3 hw9 => ?_)
  have hw9 := hw9.symm
  subst hw9
  refine lv_iload hx hb dL_law_678 (lv_at hl 1 rfl) ?_
  refine lv_icmp_eq (tgt := 685) hx hb dL_law_680 (by decide) (fun h5 => ?_) (fun h5 => absurd q1.symm h5)
  refine lv_iload hx hb dL_law_685 (lv_at hl 1 rfl) ?_
  refine lv_if_ne (tgt := 701) hx hb dL_law_687 (by decide) (fun h6 => ?_) (fun h6 => ?_)
  · refine lv_goto (tgt := 883) hx hb dL_law_701 (by decide) ?_
    refine lv_iinc (v := nI (5 * (j + 1))) (lv' := [(4, .int (nI (5 * (j + 1)))), (6, .long r2), (5, .int r1), (3, .ref o0), (2, .ref g0), (1, .ref h0), (0, .ref b)]) hx hb dL_law_883 hl (k := 2) rfl (show nI (5 * j) + nI 5 = nI (5 * j + 5) from nI_add _ _) (by decide) rfl (fun ls hl => ?_)
    refine lv_goto (tgt := 23) hx hb dL_law_886 (by decide) ?_
    refine W.widen (k := 7 + (j + 1)) (n := 2063 + 6 * (j + 1)) (by omega) (by omega) ?_
    exact kk k n fc fv cl su th3 fo2 H _ ls hI hP hD hS (lv_sub hl [0, 3, 4, 5, 6] rfl)
  · refine lv_aload_n hx hb dL_law_690 rfl (lv_at hl 3 rfl) ?_
    refine lv_iconst (v := 0) hx hb dL_law_691 (by decide) ?_
    refine va_lald hx hb hK hP 6 4 rfl rfl (vp_in_nI (n := 0) (by decide) (by decide)) dL_law_692 ?_
    rw [show Int32.toNatClampNeg 0 = 0 by decide]
    refine lv_lload hx hb dL_law_693 (lv_at hl 0 rfl) ?_
    refine W.lcmp hx hb dL_law_695 ?_
    refine lv_if_eq (tgt := 701) hx hb dL_law_696 (by decide) (fun h7 => ?_) (fun h7 => absurd (pt_cmp0.mpr (q3 h6)) h7)
    refine lv_goto (tgt := 883) hx hb dL_law_701 (by decide) ?_
    refine lv_iinc (v := nI (5 * (j + 1))) (lv' := [(4, .int (nI (5 * (j + 1)))), (6, .long r2), (5, .int r1), (3, .ref o0), (2, .ref g0), (1, .ref h0), (0, .ref b)]) hx hb dL_law_883 hl (k := 2) rfl (show nI (5 * j) + nI 5 = nI (5 * j + 5) from nI_add _ _) (by decide) rfl (fun ls hl => ?_)
    refine lv_goto (tgt := 23) hx hb dL_law_886 (by decide) ?_
    refine W.widen (k := 7 + (j + 1)) (n := 2063 + 6 * (j + 1)) (by omega) (by omega) ?_
    exact kk k n fc fv cl su th3 fo2 H _ ls hI hP hD hS (lv_sub hl [0, 3, 4, 5, 6] rfl)
set_option maxHeartbeats 4000000 in
set_option maxRecDepth 100000 in
theorem lw_case_next (l : Launch) (hl9 : l.stackTraces = false) {p : Program} {e : Env} {s : State} {m : MethodId} {below : List Frame} {meth : Method} {c : Code} {Q : State → Prop} {b L : Nat} {xs : Nat → Int32} (dC : Nat → ClassId) (dI : Nat → Nat → Nat) {A : Nat → Prop} (hAs : ∀ q : Nat, A q → s.heap.size ≤ q) (hA : ∀ q : Nat, s.heap.size ≤ q → A q) (hx : p.tables.exec = Jvm.exec) (hb : c.code = code) (hml : c.maxLocals = 8) (hown : s.vm.findClass RL = some m.cls) (hts : ∀ w ∈ Cond.initialized RL :: pt_all, w.before #[Value.ref b] s = true) (hX : va_X b L xs s s.heap) (hbl : b < s.heap.size) (hbA : ¬ A b) (h0X : pt_X s) (hext0 : pt_ext s s) {h0 c0 w0 g0 a0 b0 o0 : Nat} {kc kw ja jb ko : ClassId} (hK : va_K (dC, dI) vwCl [(kc, .long), (kw, .long), (ja, .long), (jb, .long), (ko, .long)] s) {k n : Nat} {fc fv : Nat → Int64} {cl su th : Int32} {fo : Nat → Int64} {H : Heap} {locs : List Loc} {ls : Array Slot} {j : Nat} (hL : L ≤ 2560) (hj : 5 * j + 5 ≤ L) (hI : pt_I k n fc fv) (hP : va_P (dC, dI) vwCl [(h0, .inr (0, [.ref c0, .ref w0, .int (nI k), .int (nI n), .long (pt_mk n), .int cl, .int su])), (c0, .inl (kc, 512, .inr (.inl fc))), (w0, .inl (kw, 512, .inr (.inl fv))), (g0, .inr (1, [.ref a0, .ref b0, .int (nI k), .int (nI n), .int cl, .int su, .int th])), (a0, .inl (ja, 512, .inr (.inl fc))), (b0, .inl (jb, 512, .inr (.inl fv))), (o0, .inl (ko, 1, .inr (.inl fo)))] H) (hD : va_D A [(h0, .inr (0, [.ref c0, .ref w0, .int (nI k), .int (nI n), .long (pt_mk n), .int cl, .int su])), (c0, .inl (kc, 512, .inr (.inl fc))), (w0, .inl (kw, 512, .inr (.inl fv))), (g0, .inr (1, [.ref a0, .ref b0, .int (nI k), .int (nI n), .int cl, .int su, .int th])), (a0, .inl (ja, 512, .inr (.inl fc))), (b0, .inl (jb, 512, .inr (.inl fv))), (o0, .inl (ko, 1, .inr (.inl fo)))]) (hS : va_S A s.heap H locs) (hl : lv_has ls 8 [(4, .int (nI (5 * j))), (3, .ref o0), (2, .ref g0), (1, .ref h0), (0, .ref b)]) (kk : ∀ (k n : Nat) (fc fv : Nat → Int64) (cl su th : Int32) (fo : Nat → Int64) (H : Heap) (locs : List Loc) (ls : Array Slot), pt_I k n fc fv → va_P (dC, dI) vwCl [(h0, .inr (0, [.ref c0, .ref w0, .int (nI k), .int (nI n), .long (pt_mk n), .int cl, .int su])), (c0, .inl (kc, 512, .inr (.inl fc))), (w0, .inl (kw, 512, .inr (.inl fv))), (g0, .inr (1, [.ref a0, .ref b0, .int (nI k), .int (nI n), .int cl, .int su, .int th])), (a0, .inl (ja, 512, .inr (.inl fc))), (b0, .inl (jb, 512, .inr (.inl fv))), (o0, .inl (ko, 1, .inr (.inl fo)))] H → va_D A [(h0, .inr (0, [.ref c0, .ref w0, .int (nI k), .int (nI n), .long (pt_mk n), .int cl, .int su])), (c0, .inl (kc, 512, .inr (.inl fc))), (w0, .inl (kw, 512, .inr (.inl fv))), (g0, .inr (1, [.ref a0, .ref b0, .int (nI k), .int (nI n), .int cl, .int su, .int th])), (a0, .inl (ja, 512, .inr (.inl fc))), (b0, .inl (jb, 512, .inr (.inl fv))), (o0, .inl (ko, 1, .inr (.inl fo)))] → va_S A s.heap H locs → lv_has ls 8 [(4, .int (nI (5 * (j + 1)))), (3, .ref o0), (2, .ref g0), (1, .ref h0), (0, .ref b)] → W p l e room_1 s m #[Value.ref b] below meth c H locs (7 + (j + 1)) (2063 + 6 * (j + 1)) Q (F0 m 23 ls [])) : W p l e room_1 s m #[Value.ref b] below meth c H locs (7 + j) (2063 + 6 * j) Q (F0 m 704 ls []) := by
  refine lv_aload_n hx hb dL_law_704 rfl (lv_at hl 3 rfl) ?_
  refine lv_aload_n hx hb dL_law_705 rfl (lv_at hl 4 rfl) ?_
  refine lv_iload hx hb dL_law_706 (lv_at hl 0 rfl) ?_
  refine lv_iconst (v := 1) hx hb dL_law_708 (by decide) ?_
  refine lv_iadd hx hb dL_law_709 ?_
  rw [show nI (5 * j) + 1 = nI (5 * j + 1) from nI_add (5 * j) 1]
  refine va_sld hx hb hX hbl hbA hS (vp_in_nI (by omega) (by omega)) dL_law_710 ?_
  rw [nI_clamp (by omega)]
  refine lv_i2l (v := (xs (5 * j + 1)).toInt64) hx hb dL_law_711 rfl ?_
  refine lv_bipush (v := 32) hx hb dL_law_712 (by decide) ?_
  refine lv_lshl (v := pt_shl ((xs (5 * j + 1)).toInt64) 32) hx hb dL_law_714 rfl ?_
  refine lv_aload_n hx hb dL_law_715 rfl (lv_at hl 4 rfl) ?_
  refine lv_iload hx hb dL_law_716 (lv_at hl 0 rfl) ?_
  refine lv_iconst (v := 2) hx hb dL_law_718 (by decide) ?_
  refine lv_iadd hx hb dL_law_719 ?_
  rw [show nI (5 * j) + 2 = nI (5 * j + 2) from nI_add (5 * j) 2]
  refine va_sld hx hb hX hbl hbA hS (vp_in_nI (by omega) (by omega)) dL_law_720 ?_
  rw [nI_clamp (by omega)]
  refine lv_i2l (v := (xs (5 * j + 2)).toInt64) hx hb dL_law_721 rfl ?_
  refine lv_ldc2 (v := 4294967295) hx hb hown (hts _ (List.mem_cons_of_mem _ pw250)) dL_law_722 ?_
  refine lv_land hx hb dL_law_725 ?_
  refine lv_lor hx hb dL_law_726 ?_
  refine lv_topl (fun v1 ev1 => ?_)
  refine lv_aload_n hx hb dL_law_727 rfl (lv_at hl 1 rfl) ?_
  have hPc := hP.sub (ws' := [(h0, .inr (0, [.ref c0, .ref w0, .int (nI k), .int (nI n), .long (pt_mk n), .int cl, .int su])), (c0, .inl (kc, 512, .inr (.inl fc))), (w0, .inl (kw, 512, .inr (.inl fv))), (o0, .inl (ko, 1, .inr (.inl fo)))]) [0, 1, 2, 6] rfl
  have hDc := hD.sub (ws' := [(h0, .inr (0, [.ref c0, .ref w0, .int (nI k), .int (nI n), .long (pt_mk n), .int cl, .int su])), (c0, .inl (kc, 512, .inr (.inl fc))), (w0, .inl (kw, 512, .inr (.inl fv))), (o0, .inl (ko, 1, .inr (.inl fo)))]) [0, 1, 2, 6] (by decide) rfl
  have hKc := hK.sub (tys' := [(kc, .long), (kw, .long), (ko, .long)]) [0, 1, 4] rfl
  have hFc := va_free (wc := [(h0, .inr (0, [.ref c0, .ref w0, .int (nI k), .int (nI n), .long (pt_mk n), .int cl, .int su])), (c0, .inl (kc, 512, .inr (.inl fc))), (w0, .inl (kw, 512, .inr (.inl fv))), (o0, .inl (ko, 1, .inr (.inl fo)))]) hD hS hA [0, 1, 2, 6] rfl
  refine va_calli (pt_runSW (n := 3) (hh := [(0, 8, 11, 28)]) (maxL := 5) (As := [.ref h0, .long v1, .ref o0]) (rest := []) ⟨hx, hb, hml, hown, hts⟩ (c_Lnext l hl9 dC dI s h0X h0 c0 w0 kc kw k n fc fv cl su o0 ko fo v1 H.size hI.1 hI.2.2.1) (pt_gW pw135 pw136 pw16 pw137) rfl rfl rfl (by decide +kernel) ⟨Nat.le_of_ble_eq_true rfl, Nat.le_of_ble_eq_true rfl⟩ ⟨fun a U g mk q => by obtain ⟨q0, q1, qP, qK, qD, qX⟩ := q; exact ⟨q0, q1, qP, va_K.moved (u := U) (U := U.calling g mk a) (Vm.Alike.refl U.vm) qK, qD, qX⟩, fun U hU hW => ⟨rfl, by rw [hU], by rw [hU]; exact hPc, va_K.moved hW.alike hKc, hDc.weaken (fun _ _ _ h => hAs _ h), hext0.on2 hS hAs hU hW⟩⟩ rfl rfl hl.1 rfl (lv_room (Nat.le_of_ble_eq_true rfl)) dL_law_728 ⟨by show _ ≤ 1039; omega, by show _ ≤ 10303; omega⟩) hS (fun q _ h => hFc q h) hFc (fun r1 u t H1 locs ht hvm hw hB hz1 hk1 hS => ?_)
  obtain ⟨fo2, rfl⟩ : ∃ z, z = u := ⟨_, rfl⟩
  obtain ⟨hP1, hK1, hD1⟩ := hB
  rw [ht] at hP1
  obtain ⟨hP, hD⟩ := va_join (wr := [(g0, .inr (1, [.ref a0, .ref b0, .int (nI k), .int (nI n), .int cl, .int su, .int th])), (a0, .inl (ja, 512, .inr (.inl fc))), (b0, .inl (jb, 512, .inr (.inl fv)))]) (w1 := [(h0, .inr (0, [.ref c0, .ref w0, .int (nI k), .int (nI n), .long (pt_mk n), .int cl, .int su])), (c0, .inl (kc, 512, .inr (.inl fc))), (w0, .inl (kw, 512, .inr (.inl fv))), (o0, .inl (ko, 1, .inr (.inl fo2)))]) hP hD [0, 1, 2, 6] [3, 4, 5] rfl rfl (by decide) (by decide) hk1 hFc hP1 hD1
  generalize H1 = H at hP hS ⊢
  have hP := hP.sub (ws' := [(h0, .inr (0, [.ref c0, .ref w0, .int (nI k), .int (nI n), .long (pt_mk n), .int cl, .int su])), (c0, .inl (kc, 512, .inr (.inl fc))), (w0, .inl (kw, 512, .inr (.inl fv))), (g0, .inr (1, [.ref a0, .ref b0, .int (nI k), .int (nI n), .int cl, .int su, .int th])), (a0, .inl (ja, 512, .inr (.inl fc))), (b0, .inl (jb, 512, .inr (.inl fv))), (o0, .inl (ko, 1, .inr (.inl fo2)))]) [3, 4, 5, 0, 1, 2, 6] rfl
  have hD := hD.sub (ws' := [(h0, .inr (0, [.ref c0, .ref w0, .int (nI k), .int (nI n), .long (pt_mk n), .int cl, .int su])), (c0, .inl (kc, 512, .inr (.inl fc))), (w0, .inl (kw, 512, .inr (.inl fv))), (g0, .inr (1, [.ref a0, .ref b0, .int (nI k), .int (nI n), .int cl, .int su, .int th])), (a0, .inl (ja, 512, .inr (.inl fc))), (b0, .inl (jb, 512, .inr (.inl fv))), (o0, .inl (ko, 1, .inr (.inl fo2)))]) [3, 4, 5, 0, 1, 2, 6] (by decide) rfl
  have hP : va_P (dC, dI) vwCl [(h0, .inr (0, [.ref c0, .ref w0, .int (nI k), .int (nI n), .long (pt_mk n), .int cl, .int su])), (c0, .inl (kc, 512, .inr (.inl fc))), (w0, .inl (kw, 512, .inr (.inl fv))), (g0, .inr (1, [.ref a0, .ref b0, .int (nI k), .int (nI n), .int cl, .int su, .int th])), (a0, .inl (ja, 512, .inr (.inl fc))), (b0, .inl (jb, 512, .inr (.inl fv))), (o0, .inl (ko, 1, .inr (.inl fo2)))] H := hP
  have hD : va_D A [(h0, .inr (0, [.ref c0, .ref w0, .int (nI k), .int (nI n), .long (pt_mk n), .int cl, .int su])), (c0, .inl (kc, 512, .inr (.inl fc))), (w0, .inl (kw, 512, .inr (.inl fv))), (g0, .inr (1, [.ref a0, .ref b0, .int (nI k), .int (nI n), .int cl, .int su, .int th])), (a0, .inl (ja, 512, .inr (.inl fc))), (b0, .inl (jb, 512, .inr (.inl fv))), (o0, .inl (ko, 1, .inr (.inl fo2)))] := hD
  refine lv_istore (lv' := [(5, .int r1), (4, .int (nI (5 * j))), (3, .ref o0), (2, .ref g0), (1, .ref h0), (0, .ref b)]) hx hb dL_law_731 hl (by decide) rfl (fun ls hl => ?_)
  refine lv_aload_n hx hb dL_law_733 rfl (lv_at hl 3 rfl) ?_
  refine lv_aload_n hx hb dL_law_734 rfl (lv_at hl 5 rfl) ?_
  refine lv_iload hx hb dL_law_735 (lv_at hl 1 rfl) ?_
  refine lv_iconst (v := 1) hx hb dL_law_737 (by decide) ?_
  refine lv_iadd hx hb dL_law_738 ?_
  rw [show nI (5 * j) + 1 = nI (5 * j + 1) from nI_add (5 * j) 1]
  refine va_sld hx hb hX hbl hbA hS (vp_in_nI (by omega) (by omega)) dL_law_739 ?_
  rw [nI_clamp (by omega)]
  refine lv_i2l (v := (xs (5 * j + 1)).toInt64) hx hb dL_law_740 rfl ?_
  refine lv_bipush (v := 32) hx hb dL_law_741 (by decide) ?_
  refine lv_lshl (v := pt_shl ((xs (5 * j + 1)).toInt64) 32) hx hb dL_law_743 rfl ?_
  refine lv_aload_n hx hb dL_law_744 rfl (lv_at hl 5 rfl) ?_
  refine lv_iload hx hb dL_law_745 (lv_at hl 1 rfl) ?_
  refine lv_iconst (v := 2) hx hb dL_law_747 (by decide) ?_
  refine lv_iadd hx hb dL_law_748 ?_
  rw [show nI (5 * j) + 2 = nI (5 * j + 2) from nI_add (5 * j) 2]
  refine va_sld hx hb hX hbl hbA hS (vp_in_nI (by omega) (by omega)) dL_law_749 ?_
  rw [nI_clamp (by omega)]
  refine lv_i2l (v := (xs (5 * j + 2)).toInt64) hx hb dL_law_750 rfl ?_
  refine lv_ldc2 (v := 4294967295) hx hb hown (hts _ (List.mem_cons_of_mem _ pw250)) dL_law_751 ?_
  refine lv_land hx hb dL_law_754 ?_
  refine lv_lor hx hb dL_law_755 ?_
  rw [← ev1]
  have hPc := hP.sub (ws' := [(g0, .inr (1, [.ref a0, .ref b0, .int (nI k), .int (nI n), .int cl, .int su, .int th])), (a0, .inl (ja, 512, .inr (.inl fc))), (b0, .inl (jb, 512, .inr (.inl fv)))]) [3, 4, 5] rfl
  have hDc := hD.sub (ws' := [(g0, .inr (1, [.ref a0, .ref b0, .int (nI k), .int (nI n), .int cl, .int su, .int th])), (a0, .inl (ja, 512, .inr (.inl fc))), (b0, .inl (jb, 512, .inr (.inl fv)))]) [3, 4, 5] (by decide) rfl
  have hKc := hK.sub (tys' := [(ja, .long), (jb, .long)]) [2, 3] rfl
  have hFc := va_free (wc := [(g0, .inr (1, [.ref a0, .ref b0, .int (nI k), .int (nI n), .int cl, .int su, .int th])), (a0, .inl (ja, 512, .inr (.inl fc))), (b0, .inl (jb, 512, .inr (.inl fv)))]) hD hS hA [3, 4, 5] rfl
  refine va_calll (va_runV (As := [.long v1]) (rest := []) ⟨hx, hb, hml, hown, hts⟩ (c_mnext l dC dI g0 a0 b0 ja jb k n fc fv cl su th v1 H.size hI) (cwV 1 hts (pt_gV pw235 pw236 pw237 pw18 pw238) rfl rfl rfl (by decide +kernel) ⟨Nat.le_of_ble_eq_true rfl, Nat.le_of_ble_eq_true rfl⟩) ⟨fun a U g mk q => by obtain ⟨q0, q1, qP, qK, qD⟩ := q; exact ⟨q0, q1, qP, va_K.moved (u := U) (U := U.calling g mk a) (Vm.Alike.refl U.vm) qK, qD⟩, va_recv hK hP (ci := 1) (q0 := 3) rfl rfl, fun U hU hW => ⟨rfl, by rw [hU], by rw [hU]; exact hPc, va_K.moved hW.alike hKc, hDc.weaken (fun _ _ _ _ => trivial)⟩⟩ rfl rfl hl.1 rfl (lv_room (Nat.le_of_ble_eq_true rfl)) dL_law_756 ⟨by show _ ≤ 1039; omega, by show _ ≤ 10303; omega⟩) hS (fun q _ h => hFc q h) hFc (fun r2 u t H1 locs ht hvm hw2 hB hz1 hk1 hS => ?_)
  obtain ⟨th3, rfl⟩ : ∃ z, z = u := ⟨_, rfl⟩
  obtain ⟨hP1, hK1, hD1⟩ := hB
  rw [ht] at hP1
  obtain ⟨hP, hD⟩ := va_join (wr := [(h0, .inr (0, [.ref c0, .ref w0, .int (nI k), .int (nI n), .long (pt_mk n), .int cl, .int su])), (c0, .inl (kc, 512, .inr (.inl fc))), (w0, .inl (kw, 512, .inr (.inl fv))), (o0, .inl (ko, 1, .inr (.inl fo2)))]) (w1 := [(g0, .inr (1, [.ref a0, .ref b0, .int (nI k), .int (nI n), .int cl, .int su, .int th3])), (a0, .inl (ja, 512, .inr (.inl fc))), (b0, .inl (jb, 512, .inr (.inl fv)))]) hP hD [3, 4, 5] [0, 1, 2, 6] rfl rfl (by decide) (by decide) hk1 hFc hP1 hD1
  generalize H1 = H at hP hS ⊢
  have hP := hP.sub (ws' := [(h0, .inr (0, [.ref c0, .ref w0, .int (nI k), .int (nI n), .long (pt_mk n), .int cl, .int su])), (c0, .inl (kc, 512, .inr (.inl fc))), (w0, .inl (kw, 512, .inr (.inl fv))), (g0, .inr (1, [.ref a0, .ref b0, .int (nI k), .int (nI n), .int cl, .int su, .int th3])), (a0, .inl (ja, 512, .inr (.inl fc))), (b0, .inl (jb, 512, .inr (.inl fv))), (o0, .inl (ko, 1, .inr (.inl fo2)))]) [0, 1, 2, 4, 5, 6, 3] rfl
  have hD := hD.sub (ws' := [(h0, .inr (0, [.ref c0, .ref w0, .int (nI k), .int (nI n), .long (pt_mk n), .int cl, .int su])), (c0, .inl (kc, 512, .inr (.inl fc))), (w0, .inl (kw, 512, .inr (.inl fv))), (g0, .inr (1, [.ref a0, .ref b0, .int (nI k), .int (nI n), .int cl, .int su, .int th3])), (a0, .inl (ja, 512, .inr (.inl fc))), (b0, .inl (jb, 512, .inr (.inl fv))), (o0, .inl (ko, 1, .inr (.inl fo2)))]) [0, 1, 2, 4, 5, 6, 3] (by decide) rfl
  have hP : va_P (dC, dI) vwCl [(h0, .inr (0, [.ref c0, .ref w0, .int (nI k), .int (nI n), .long (pt_mk n), .int cl, .int su])), (c0, .inl (kc, 512, .inr (.inl fc))), (w0, .inl (kw, 512, .inr (.inl fv))), (g0, .inr (1, [.ref a0, .ref b0, .int (nI k), .int (nI n), .int cl, .int su, .int th3])), (a0, .inl (ja, 512, .inr (.inl fc))), (b0, .inl (jb, 512, .inr (.inl fv))), (o0, .inl (ko, 1, .inr (.inl fo2)))] H := hP
  have hD : va_D A [(h0, .inr (0, [.ref c0, .ref w0, .int (nI k), .int (nI n), .long (pt_mk n), .int cl, .int su])), (c0, .inl (kc, 512, .inr (.inl fc))), (w0, .inl (kw, 512, .inr (.inl fv))), (g0, .inr (1, [.ref a0, .ref b0, .int (nI k), .int (nI n), .int cl, .int su, .int th3])), (a0, .inl (ja, 512, .inr (.inl fc))), (b0, .inl (jb, 512, .inr (.inl fv))), (o0, .inl (ko, 1, .inr (.inl fo2)))] := hD
  obtain ⟨q1, q3⟩ := pt_Rnext_det hw hw2
  refine lv_lstore (lv' := [(6, .long r2), (5, .int r1), (4, .int (nI (5 * j))), (3, .ref o0), (2, .ref g0), (1, .ref h0), (0, .ref b)]) hx hb dL_law_759 hl (by decide) rfl (fun ls hl => ?_)
  refine lv_aload_n hx hb dL_law_761 rfl (lv_at hl 4 rfl) ?_
  refine vp_callSi (W.runV (As := []) (rest := []) ⟨hx, hb, hml, hown, hts⟩ (c_thrown l dC dI g0 a0 b0 ja jb k n fc fv cl su th3) (cwV 0 hts (pt_gV pw175 pw176 pw177 pw18 pw178) rfl rfl rfl (by decide +kernel) ⟨Nat.le_of_ble_eq_true rfl, Nat.le_of_ble_eq_true rfl⟩) ⟨fun a U g mk q => by obtain ⟨q0, qP, qK⟩ := q; exact ⟨q0, qP, va_K.moved (u := U) (U := U.calling g mk a) (Vm.Alike.refl U.vm) qK⟩, va_recv hK hP (ci := 1) (q0 := 3) rfl rfl, fun U hU hW => ⟨rfl, by rw [hU]; exact (hP.sub (ws' := [(g0, .inr (1, [.ref a0, .ref b0, .int (nI k), .int (nI n), .int cl, .int su, .int th3])), (a0, .inl (ja, 512, .inr (.inl fc))), (b0, .inl (jb, 512, .inr (.inl fv)))]) [3, 4, 5] rfl), va_K.moved hW.alike (hK.sub (tys' := [(ja, .long), (jb, .long)]) [2, 3] rfl)⟩⟩ rfl rfl hl.1 rfl (lv_room (Nat.le_of_ble_eq_true rfl)) dL_law_762 ⟨by show _ ≤ 1039; omega, by show _ ≤ 10303; omega⟩) (fun r3 hw9 => ?_)
  have hw9 := hw9.symm
  subst hw9
  refine lv_iload hx hb dL_law_765 (lv_at hl 1 rfl) ?_
  refine lv_icmp_eq (tgt := 772) hx hb dL_law_767 (by decide) (fun h5 => ?_) (fun h5 => absurd q1.symm h5)
  refine lv_iload hx hb dL_law_772 (lv_at hl 1 rfl) ?_
  refine lv_if_ne (tgt := 788) hx hb dL_law_774 (by decide) (fun h6 => ?_) (fun h6 => ?_)
  · refine lv_goto (tgt := 883) hx hb dL_law_788 (by decide) ?_
    refine lv_iinc (v := nI (5 * (j + 1))) (lv' := [(4, .int (nI (5 * (j + 1)))), (6, .long r2), (5, .int r1), (3, .ref o0), (2, .ref g0), (1, .ref h0), (0, .ref b)]) hx hb dL_law_883 hl (k := 2) rfl (show nI (5 * j) + nI 5 = nI (5 * j + 5) from nI_add _ _) (by decide) rfl (fun ls hl => ?_)
    refine lv_goto (tgt := 23) hx hb dL_law_886 (by decide) ?_
    refine W.widen (k := 7 + (j + 1)) (n := 2063 + 6 * (j + 1)) (by omega) (by omega) ?_
    exact kk k n fc fv cl su th3 fo2 H _ ls hI hP hD hS (lv_sub hl [0, 3, 4, 5, 6] rfl)
  · refine lv_aload_n hx hb dL_law_777 rfl (lv_at hl 3 rfl) ?_
    refine lv_iconst (v := 0) hx hb dL_law_778 (by decide) ?_
    refine va_lald hx hb hK hP 6 4 rfl rfl (vp_in_nI (n := 0) (by decide) (by decide)) dL_law_779 ?_
    rw [show Int32.toNatClampNeg 0 = 0 by decide]
    refine lv_lload hx hb dL_law_780 (lv_at hl 0 rfl) ?_
    refine W.lcmp hx hb dL_law_782 ?_
    refine lv_if_eq (tgt := 788) hx hb dL_law_783 (by decide) (fun h7 => ?_) (fun h7 => absurd (pt_cmp0.mpr (q3 h6)) h7)
    refine lv_goto (tgt := 883) hx hb dL_law_788 (by decide) ?_
    refine lv_iinc (v := nI (5 * (j + 1))) (lv' := [(4, .int (nI (5 * (j + 1)))), (6, .long r2), (5, .int r1), (3, .ref o0), (2, .ref g0), (1, .ref h0), (0, .ref b)]) hx hb dL_law_883 hl (k := 2) rfl (show nI (5 * j) + nI 5 = nI (5 * j + 5) from nI_add _ _) (by decide) rfl (fun ls hl => ?_)
    refine lv_goto (tgt := 23) hx hb dL_law_886 (by decide) ?_
    refine W.widen (k := 7 + (j + 1)) (n := 2063 + 6 * (j + 1)) (by omega) (by omega) ?_
    exact kk k n fc fv cl su th3 fo2 H _ ls hI hP hD hS (lv_sub hl [0, 3, 4, 5, 6] rfl)
set_option maxHeartbeats 4000000 in
set_option maxRecDepth 100000 in
theorem lw_case_told (l : Launch) (hl9 : l.stackTraces = false) {p : Program} {e : Env} {s : State} {m : MethodId} {below : List Frame} {meth : Method} {c : Code} {Q : State → Prop} {b L : Nat} {xs : Nat → Int32} (dC : Nat → ClassId) (dI : Nat → Nat → Nat) {A : Nat → Prop} (hAs : ∀ q : Nat, A q → s.heap.size ≤ q) (hA : ∀ q : Nat, s.heap.size ≤ q → A q) (hx : p.tables.exec = Jvm.exec) (hb : c.code = code) (hml : c.maxLocals = 8) (hown : s.vm.findClass RL = some m.cls) (hts : ∀ w ∈ Cond.initialized RL :: pt_all, w.before #[Value.ref b] s = true) (hX : va_X b L xs s s.heap) (hbl : b < s.heap.size) (hbA : ¬ A b) (h0X : pt_X s) (hext0 : pt_ext s s) {h0 c0 w0 g0 a0 b0 o0 : Nat} {kc kw ja jb ko : ClassId} (hK : va_K (dC, dI) vwCl [(kc, .long), (kw, .long), (ja, .long), (jb, .long), (ko, .long)] s) {k n : Nat} {fc fv : Nat → Int64} {cl su th : Int32} {fo : Nat → Int64} {H : Heap} {locs : List Loc} {ls : Array Slot} {j : Nat} (hL : L ≤ 2560) (hj : 5 * j + 5 ≤ L) (hI : pt_I k n fc fv) (hP : va_P (dC, dI) vwCl [(h0, .inr (0, [.ref c0, .ref w0, .int (nI k), .int (nI n), .long (pt_mk n), .int cl, .int su])), (c0, .inl (kc, 512, .inr (.inl fc))), (w0, .inl (kw, 512, .inr (.inl fv))), (g0, .inr (1, [.ref a0, .ref b0, .int (nI k), .int (nI n), .int cl, .int su, .int th])), (a0, .inl (ja, 512, .inr (.inl fc))), (b0, .inl (jb, 512, .inr (.inl fv))), (o0, .inl (ko, 1, .inr (.inl fo)))] H) (hD : va_D A [(h0, .inr (0, [.ref c0, .ref w0, .int (nI k), .int (nI n), .long (pt_mk n), .int cl, .int su])), (c0, .inl (kc, 512, .inr (.inl fc))), (w0, .inl (kw, 512, .inr (.inl fv))), (g0, .inr (1, [.ref a0, .ref b0, .int (nI k), .int (nI n), .int cl, .int su, .int th])), (a0, .inl (ja, 512, .inr (.inl fc))), (b0, .inl (jb, 512, .inr (.inl fv))), (o0, .inl (ko, 1, .inr (.inl fo)))]) (hS : va_S A s.heap H locs) (hl : lv_has ls 8 [(4, .int (nI (5 * j))), (3, .ref o0), (2, .ref g0), (1, .ref h0), (0, .ref b)]) (kk : ∀ (k n : Nat) (fc fv : Nat → Int64) (cl su th : Int32) (fo : Nat → Int64) (H : Heap) (locs : List Loc) (ls : Array Slot), pt_I k n fc fv → va_P (dC, dI) vwCl [(h0, .inr (0, [.ref c0, .ref w0, .int (nI k), .int (nI n), .long (pt_mk n), .int cl, .int su])), (c0, .inl (kc, 512, .inr (.inl fc))), (w0, .inl (kw, 512, .inr (.inl fv))), (g0, .inr (1, [.ref a0, .ref b0, .int (nI k), .int (nI n), .int cl, .int su, .int th])), (a0, .inl (ja, 512, .inr (.inl fc))), (b0, .inl (jb, 512, .inr (.inl fv))), (o0, .inl (ko, 1, .inr (.inl fo)))] H → va_D A [(h0, .inr (0, [.ref c0, .ref w0, .int (nI k), .int (nI n), .long (pt_mk n), .int cl, .int su])), (c0, .inl (kc, 512, .inr (.inl fc))), (w0, .inl (kw, 512, .inr (.inl fv))), (g0, .inr (1, [.ref a0, .ref b0, .int (nI k), .int (nI n), .int cl, .int su, .int th])), (a0, .inl (ja, 512, .inr (.inl fc))), (b0, .inl (jb, 512, .inr (.inl fv))), (o0, .inl (ko, 1, .inr (.inl fo)))] → va_S A s.heap H locs → lv_has ls 8 [(4, .int (nI (5 * (j + 1)))), (3, .ref o0), (2, .ref g0), (1, .ref h0), (0, .ref b)] → W p l e room_1 s m #[Value.ref b] below meth c H locs (7 + (j + 1)) (2063 + 6 * (j + 1)) Q (F0 m 23 ls [])) : W p l e room_1 s m #[Value.ref b] below meth c H locs (7 + j) (2063 + 6 * j) Q (F0 m 791 ls []) := by
  refine lv_aload_n hx hb dL_law_791 rfl (lv_at hl 3 rfl) ?_
  refine lv_aload_n hx hb dL_law_792 rfl (lv_at hl 4 rfl) ?_
  refine lv_iload hx hb dL_law_793 (lv_at hl 0 rfl) ?_
  refine lv_iconst (v := 1) hx hb dL_law_795 (by decide) ?_
  refine lv_iadd hx hb dL_law_796 ?_
  rw [show nI (5 * j) + 1 = nI (5 * j + 1) from nI_add (5 * j) 1]
  refine va_sld hx hb hX hbl hbA hS (vp_in_nI (by omega) (by omega)) dL_law_797 ?_
  rw [nI_clamp (by omega)]
  refine lv_aload_n hx hb dL_law_798 rfl (lv_at hl 4 rfl) ?_
  refine lv_iload hx hb dL_law_799 (lv_at hl 0 rfl) ?_
  refine lv_iconst (v := 2) hx hb dL_law_801 (by decide) ?_
  refine lv_iadd hx hb dL_law_802 ?_
  rw [show nI (5 * j) + 2 = nI (5 * j + 2) from nI_add (5 * j) 2]
  refine va_sld hx hb hX hbl hbA hS (vp_in_nI (by omega) (by omega)) dL_law_803 ?_
  rw [nI_clamp (by omega)]
  refine lv_aload_n hx hb dL_law_804 rfl (lv_at hl 1 rfl) ?_
  have hPc := hP.sub (ws' := [(h0, .inr (0, [.ref c0, .ref w0, .int (nI k), .int (nI n), .long (pt_mk n), .int cl, .int su])), (c0, .inl (kc, 512, .inr (.inl fc))), (w0, .inl (kw, 512, .inr (.inl fv))), (o0, .inl (ko, 1, .inr (.inl fo)))]) [0, 1, 2, 6] rfl
  have hDc := hD.sub (ws' := [(h0, .inr (0, [.ref c0, .ref w0, .int (nI k), .int (nI n), .long (pt_mk n), .int cl, .int su])), (c0, .inl (kc, 512, .inr (.inl fc))), (w0, .inl (kw, 512, .inr (.inl fv))), (o0, .inl (ko, 1, .inr (.inl fo)))]) [0, 1, 2, 6] (by decide) rfl
  have hKc := hK.sub (tys' := [(kc, .long), (kw, .long), (ko, .long)]) [0, 1, 4] rfl
  have hFc := va_free (wc := [(h0, .inr (0, [.ref c0, .ref w0, .int (nI k), .int (nI n), .long (pt_mk n), .int cl, .int su])), (c0, .inl (kc, 512, .inr (.inl fc))), (w0, .inl (kw, 512, .inr (.inl fv))), (o0, .inl (ko, 1, .inr (.inl fo)))]) hD hS hA [0, 1, 2, 6] rfl
  refine va_calli (pt_runSW (n := 4) (hh := [(0, 9, 12, 13), (0, 9, 16, 28)]) (maxL := 5) (As := [.ref h0, .int (xs (5 * j + 1)), .int (xs (5 * j + 2)), .ref o0]) (rest := []) ⟨hx, hb, hml, hown, hts⟩ (c_Ltold l hl9 dC dI s h0X h0 c0 w0 kc kw k n fc fv cl su o0 ko fo (xs (5 * j + 1)) (xs (5 * j + 2)) H.size hI.1) (pt_gW pw148 pw149 pw16 pw150) rfl rfl rfl (by decide +kernel) ⟨Nat.le_of_ble_eq_true rfl, Nat.le_of_ble_eq_true rfl⟩ ⟨fun a U g mk q => by obtain ⟨q0, q1, qP, qK, qD, qX⟩ := q; exact ⟨q0, q1, qP, va_K.moved (u := U) (U := U.calling g mk a) (Vm.Alike.refl U.vm) qK, qD, qX⟩, fun U hU hW => ⟨rfl, by rw [hU], by rw [hU]; exact hPc, va_K.moved hW.alike hKc, hDc.weaken (fun _ _ _ h => hAs _ h), hext0.on2 hS hAs hU hW⟩⟩ rfl rfl hl.1 rfl (lv_room (Nat.le_of_ble_eq_true rfl)) dL_law_805 ⟨by show _ ≤ 1039; omega, by show _ ≤ 10303; omega⟩) hS (fun q _ h => hFc q h) hFc (fun r1 u t H1 locs ht hvm hw hB hz1 hk1 hS => ?_)
  obtain ⟨fo2, rfl⟩ : ∃ z, z = u := ⟨_, rfl⟩
  obtain ⟨hP1, hK1, hD1⟩ := hB
  rw [ht] at hP1
  obtain ⟨hP, hD⟩ := va_join (wr := [(g0, .inr (1, [.ref a0, .ref b0, .int (nI k), .int (nI n), .int cl, .int su, .int th])), (a0, .inl (ja, 512, .inr (.inl fc))), (b0, .inl (jb, 512, .inr (.inl fv)))]) (w1 := [(h0, .inr (0, [.ref c0, .ref w0, .int (nI k), .int (nI n), .long (pt_mk n), .int cl, .int su])), (c0, .inl (kc, 512, .inr (.inl fc))), (w0, .inl (kw, 512, .inr (.inl fv))), (o0, .inl (ko, 1, .inr (.inl fo2)))]) hP hD [0, 1, 2, 6] [3, 4, 5] rfl rfl (by decide) (by decide) hk1 hFc hP1 hD1
  generalize H1 = H at hP hS ⊢
  have hP := hP.sub (ws' := [(h0, .inr (0, [.ref c0, .ref w0, .int (nI k), .int (nI n), .long (pt_mk n), .int cl, .int su])), (c0, .inl (kc, 512, .inr (.inl fc))), (w0, .inl (kw, 512, .inr (.inl fv))), (g0, .inr (1, [.ref a0, .ref b0, .int (nI k), .int (nI n), .int cl, .int su, .int th])), (a0, .inl (ja, 512, .inr (.inl fc))), (b0, .inl (jb, 512, .inr (.inl fv))), (o0, .inl (ko, 1, .inr (.inl fo2)))]) [3, 4, 5, 0, 1, 2, 6] rfl
  have hD := hD.sub (ws' := [(h0, .inr (0, [.ref c0, .ref w0, .int (nI k), .int (nI n), .long (pt_mk n), .int cl, .int su])), (c0, .inl (kc, 512, .inr (.inl fc))), (w0, .inl (kw, 512, .inr (.inl fv))), (g0, .inr (1, [.ref a0, .ref b0, .int (nI k), .int (nI n), .int cl, .int su, .int th])), (a0, .inl (ja, 512, .inr (.inl fc))), (b0, .inl (jb, 512, .inr (.inl fv))), (o0, .inl (ko, 1, .inr (.inl fo2)))]) [3, 4, 5, 0, 1, 2, 6] (by decide) rfl
  have hP : va_P (dC, dI) vwCl [(h0, .inr (0, [.ref c0, .ref w0, .int (nI k), .int (nI n), .long (pt_mk n), .int cl, .int su])), (c0, .inl (kc, 512, .inr (.inl fc))), (w0, .inl (kw, 512, .inr (.inl fv))), (g0, .inr (1, [.ref a0, .ref b0, .int (nI k), .int (nI n), .int cl, .int su, .int th])), (a0, .inl (ja, 512, .inr (.inl fc))), (b0, .inl (jb, 512, .inr (.inl fv))), (o0, .inl (ko, 1, .inr (.inl fo2)))] H := hP
  have hD : va_D A [(h0, .inr (0, [.ref c0, .ref w0, .int (nI k), .int (nI n), .long (pt_mk n), .int cl, .int su])), (c0, .inl (kc, 512, .inr (.inl fc))), (w0, .inl (kw, 512, .inr (.inl fv))), (g0, .inr (1, [.ref a0, .ref b0, .int (nI k), .int (nI n), .int cl, .int su, .int th])), (a0, .inl (ja, 512, .inr (.inl fc))), (b0, .inl (jb, 512, .inr (.inl fv))), (o0, .inl (ko, 1, .inr (.inl fo2)))] := hD
  refine lv_istore (lv' := [(5, .int r1), (4, .int (nI (5 * j))), (3, .ref o0), (2, .ref g0), (1, .ref h0), (0, .ref b)]) hx hb dL_law_808 hl (by decide) rfl (fun ls hl => ?_)
  refine lv_aload_n hx hb dL_law_810 rfl (lv_at hl 3 rfl) ?_
  refine lv_aload_n hx hb dL_law_811 rfl (lv_at hl 5 rfl) ?_
  refine lv_iload hx hb dL_law_812 (lv_at hl 1 rfl) ?_
  refine lv_iconst (v := 1) hx hb dL_law_814 (by decide) ?_
  refine lv_iadd hx hb dL_law_815 ?_
  rw [show nI (5 * j) + 1 = nI (5 * j + 1) from nI_add (5 * j) 1]
  refine va_sld hx hb hX hbl hbA hS (vp_in_nI (by omega) (by omega)) dL_law_816 ?_
  rw [nI_clamp (by omega)]
  refine lv_aload_n hx hb dL_law_817 rfl (lv_at hl 5 rfl) ?_
  refine lv_iload hx hb dL_law_818 (lv_at hl 1 rfl) ?_
  refine lv_iconst (v := 2) hx hb dL_law_820 (by decide) ?_
  refine lv_iadd hx hb dL_law_821 ?_
  rw [show nI (5 * j) + 2 = nI (5 * j + 2) from nI_add (5 * j) 2]
  refine va_sld hx hb hX hbl hbA hS (vp_in_nI (by omega) (by omega)) dL_law_822 ?_
  rw [nI_clamp (by omega)]
  have hPc := hP.sub (ws' := [(g0, .inr (1, [.ref a0, .ref b0, .int (nI k), .int (nI n), .int cl, .int su, .int th])), (a0, .inl (ja, 512, .inr (.inl fc))), (b0, .inl (jb, 512, .inr (.inl fv)))]) [3, 4, 5] rfl
  have hDc := hD.sub (ws' := [(g0, .inr (1, [.ref a0, .ref b0, .int (nI k), .int (nI n), .int cl, .int su, .int th])), (a0, .inl (ja, 512, .inr (.inl fc))), (b0, .inl (jb, 512, .inr (.inl fv)))]) [3, 4, 5] (by decide) rfl
  have hKc := hK.sub (tys' := [(ja, .long), (jb, .long)]) [2, 3] rfl
  have hFc := va_free (wc := [(g0, .inr (1, [.ref a0, .ref b0, .int (nI k), .int (nI n), .int cl, .int su, .int th])), (a0, .inl (ja, 512, .inr (.inl fc))), (b0, .inl (jb, 512, .inr (.inl fv)))]) hD hS hA [3, 4, 5] rfl
  refine va_calll (va_runV (As := [.int (xs (5 * j + 1)), .int (xs (5 * j + 2))]) (rest := []) ⟨hx, hb, hml, hown, hts⟩ (c_mtold l dC dI g0 a0 b0 ja jb k n fc fv cl su th (xs (5 * j + 1)) (xs (5 * j + 2)) H.size hI.1) (cwV 2 hts (pt_gV pw242 pw243 pw244 pw18 pw245) rfl rfl rfl (by decide +kernel) ⟨Nat.le_of_ble_eq_true rfl, Nat.le_of_ble_eq_true rfl⟩) ⟨fun a U g mk q => by obtain ⟨q0, q1, qP, qK, qD⟩ := q; exact ⟨q0, q1, qP, va_K.moved (u := U) (U := U.calling g mk a) (Vm.Alike.refl U.vm) qK, qD⟩, va_recv hK hP (ci := 1) (q0 := 3) rfl rfl, fun U hU hW => ⟨rfl, by rw [hU], by rw [hU]; exact hPc, va_K.moved hW.alike hKc, hDc.weaken (fun _ _ _ _ => trivial)⟩⟩ rfl rfl hl.1 rfl (lv_room (Nat.le_of_ble_eq_true rfl)) dL_law_823 ⟨by show _ ≤ 1039; omega, by show _ ≤ 10303; omega⟩) hS (fun q _ h => hFc q h) hFc (fun r2 u t H1 locs ht hvm hw2 hB hz1 hk1 hS => ?_)
  obtain ⟨th3, rfl⟩ : ∃ z, z = u := ⟨_, rfl⟩
  obtain ⟨hP1, hK1, hD1⟩ := hB
  rw [ht] at hP1
  obtain ⟨hP, hD⟩ := va_join (wr := [(h0, .inr (0, [.ref c0, .ref w0, .int (nI k), .int (nI n), .long (pt_mk n), .int cl, .int su])), (c0, .inl (kc, 512, .inr (.inl fc))), (w0, .inl (kw, 512, .inr (.inl fv))), (o0, .inl (ko, 1, .inr (.inl fo2)))]) (w1 := [(g0, .inr (1, [.ref a0, .ref b0, .int (nI k), .int (nI n), .int cl, .int su, .int th3])), (a0, .inl (ja, 512, .inr (.inl fc))), (b0, .inl (jb, 512, .inr (.inl fv)))]) hP hD [3, 4, 5] [0, 1, 2, 6] rfl rfl (by decide) (by decide) hk1 hFc hP1 hD1
  generalize H1 = H at hP hS ⊢
  have hP := hP.sub (ws' := [(h0, .inr (0, [.ref c0, .ref w0, .int (nI k), .int (nI n), .long (pt_mk n), .int cl, .int su])), (c0, .inl (kc, 512, .inr (.inl fc))), (w0, .inl (kw, 512, .inr (.inl fv))), (g0, .inr (1, [.ref a0, .ref b0, .int (nI k), .int (nI n), .int cl, .int su, .int th3])), (a0, .inl (ja, 512, .inr (.inl fc))), (b0, .inl (jb, 512, .inr (.inl fv))), (o0, .inl (ko, 1, .inr (.inl fo2)))]) [0, 1, 2, 4, 5, 6, 3] rfl
  have hD := hD.sub (ws' := [(h0, .inr (0, [.ref c0, .ref w0, .int (nI k), .int (nI n), .long (pt_mk n), .int cl, .int su])), (c0, .inl (kc, 512, .inr (.inl fc))), (w0, .inl (kw, 512, .inr (.inl fv))), (g0, .inr (1, [.ref a0, .ref b0, .int (nI k), .int (nI n), .int cl, .int su, .int th3])), (a0, .inl (ja, 512, .inr (.inl fc))), (b0, .inl (jb, 512, .inr (.inl fv))), (o0, .inl (ko, 1, .inr (.inl fo2)))]) [0, 1, 2, 4, 5, 6, 3] (by decide) rfl
  have hP : va_P (dC, dI) vwCl [(h0, .inr (0, [.ref c0, .ref w0, .int (nI k), .int (nI n), .long (pt_mk n), .int cl, .int su])), (c0, .inl (kc, 512, .inr (.inl fc))), (w0, .inl (kw, 512, .inr (.inl fv))), (g0, .inr (1, [.ref a0, .ref b0, .int (nI k), .int (nI n), .int cl, .int su, .int th3])), (a0, .inl (ja, 512, .inr (.inl fc))), (b0, .inl (jb, 512, .inr (.inl fv))), (o0, .inl (ko, 1, .inr (.inl fo2)))] H := hP
  have hD : va_D A [(h0, .inr (0, [.ref c0, .ref w0, .int (nI k), .int (nI n), .long (pt_mk n), .int cl, .int su])), (c0, .inl (kc, 512, .inr (.inl fc))), (w0, .inl (kw, 512, .inr (.inl fv))), (g0, .inr (1, [.ref a0, .ref b0, .int (nI k), .int (nI n), .int cl, .int su, .int th3])), (a0, .inl (ja, 512, .inr (.inl fc))), (b0, .inl (jb, 512, .inr (.inl fv))), (o0, .inl (ko, 1, .inr (.inl fo2)))] := hD
  obtain ⟨q1, q3⟩ := pt_Rtold_det hI.1 hw hw2
  refine lv_lstore (lv' := [(6, .long r2), (5, .int r1), (4, .int (nI (5 * j))), (3, .ref o0), (2, .ref g0), (1, .ref h0), (0, .ref b)]) hx hb dL_law_826 hl (by decide) rfl (fun ls hl => ?_)
  refine lv_aload_n hx hb dL_law_828 rfl (lv_at hl 4 rfl) ?_
  refine vp_callSi (W.runV (As := []) (rest := []) ⟨hx, hb, hml, hown, hts⟩ (c_thrown l dC dI g0 a0 b0 ja jb k n fc fv cl su th3) (cwV 0 hts (pt_gV pw175 pw176 pw177 pw18 pw178) rfl rfl rfl (by decide +kernel) ⟨Nat.le_of_ble_eq_true rfl, Nat.le_of_ble_eq_true rfl⟩) ⟨fun a U g mk q => by obtain ⟨q0, qP, qK⟩ := q; exact ⟨q0, qP, va_K.moved (u := U) (U := U.calling g mk a) (Vm.Alike.refl U.vm) qK⟩, va_recv hK hP (ci := 1) (q0 := 3) rfl rfl, fun U hU hW => ⟨rfl, by rw [hU]; exact (hP.sub (ws' := [(g0, .inr (1, [.ref a0, .ref b0, .int (nI k), .int (nI n), .int cl, .int su, .int th3])), (a0, .inl (ja, 512, .inr (.inl fc))), (b0, .inl (jb, 512, .inr (.inl fv)))]) [3, 4, 5] rfl), va_K.moved hW.alike (hK.sub (tys' := [(ja, .long), (jb, .long)]) [2, 3] rfl)⟩⟩ rfl rfl hl.1 rfl (lv_room (Nat.le_of_ble_eq_true rfl)) dL_law_829 ⟨by show _ ≤ 1039; omega, by show _ ≤ 10303; omega⟩) (fun r3 hw9 => ?_)
  have hw9 := hw9.symm
  subst hw9
  refine lv_iload hx hb dL_law_832 (lv_at hl 1 rfl) ?_
  refine lv_icmp_eq (tgt := 839) hx hb dL_law_834 (by decide) (fun h5 => ?_) (fun h5 => absurd q1.symm h5)
  refine lv_iload hx hb dL_law_839 (lv_at hl 1 rfl) ?_
  refine lv_if_ne (tgt := 855) hx hb dL_law_841 (by decide) (fun h6 => ?_) (fun h6 => ?_)
  · refine lv_goto (tgt := 883) hx hb dL_law_855 (by decide) ?_
    refine lv_iinc (v := nI (5 * (j + 1))) (lv' := [(4, .int (nI (5 * (j + 1)))), (6, .long r2), (5, .int r1), (3, .ref o0), (2, .ref g0), (1, .ref h0), (0, .ref b)]) hx hb dL_law_883 hl (k := 2) rfl (show nI (5 * j) + nI 5 = nI (5 * j + 5) from nI_add _ _) (by decide) rfl (fun ls hl => ?_)
    refine lv_goto (tgt := 23) hx hb dL_law_886 (by decide) ?_
    refine W.widen (k := 7 + (j + 1)) (n := 2063 + 6 * (j + 1)) (by omega) (by omega) ?_
    exact kk k n fc fv cl su th3 fo2 H _ ls hI hP hD hS (lv_sub hl [0, 3, 4, 5, 6] rfl)
  · refine lv_aload_n hx hb dL_law_844 rfl (lv_at hl 3 rfl) ?_
    refine lv_iconst (v := 0) hx hb dL_law_845 (by decide) ?_
    refine va_lald hx hb hK hP 6 4 rfl rfl (vp_in_nI (n := 0) (by decide) (by decide)) dL_law_846 ?_
    rw [show Int32.toNatClampNeg 0 = 0 by decide]
    refine lv_lload hx hb dL_law_847 (lv_at hl 0 rfl) ?_
    refine W.lcmp hx hb dL_law_849 ?_
    refine lv_if_eq (tgt := 855) hx hb dL_law_850 (by decide) (fun h7 => ?_) (fun h7 => absurd (pt_cmp0.mpr (q3 h6)) h7)
    refine lv_goto (tgt := 883) hx hb dL_law_855 (by decide) ?_
    refine lv_iinc (v := nI (5 * (j + 1))) (lv' := [(4, .int (nI (5 * (j + 1)))), (6, .long r2), (5, .int r1), (3, .ref o0), (2, .ref g0), (1, .ref h0), (0, .ref b)]) hx hb dL_law_883 hl (k := 2) rfl (show nI (5 * j) + nI 5 = nI (5 * j + 5) from nI_add _ _) (by decide) rfl (fun ls hl => ?_)
    refine lv_goto (tgt := 23) hx hb dL_law_886 (by decide) ?_
    refine W.widen (k := 7 + (j + 1)) (n := 2063 + 6 * (j + 1)) (by omega) (by omega) ?_
    exact kk k n fc fv cl su th3 fo2 H _ ls hI hP hD hS (lv_sub hl [0, 3, 4, 5, 6] rfl)
set_option maxHeartbeats 4000000 in
set_option maxRecDepth 100000 in
theorem lw_case_count (l : Launch) (hl9 : l.stackTraces = false) {p : Program} {e : Env} {s : State} {m : MethodId} {below : List Frame} {meth : Method} {c : Code} {Q : State → Prop} {b L : Nat} {xs : Nat → Int32} (dC : Nat → ClassId) (dI : Nat → Nat → Nat) {A : Nat → Prop} (hAs : ∀ q : Nat, A q → s.heap.size ≤ q) (hA : ∀ q : Nat, s.heap.size ≤ q → A q) (hx : p.tables.exec = Jvm.exec) (hb : c.code = code) (hml : c.maxLocals = 8) (hown : s.vm.findClass RL = some m.cls) (hts : ∀ w ∈ Cond.initialized RL :: pt_all, w.before #[Value.ref b] s = true) (hX : va_X b L xs s s.heap) (hbl : b < s.heap.size) (hbA : ¬ A b) (h0X : pt_X s) (hext0 : pt_ext s s) {h0 c0 w0 g0 a0 b0 o0 : Nat} {kc kw ja jb ko : ClassId} (hK : va_K (dC, dI) vwCl [(kc, .long), (kw, .long), (ja, .long), (jb, .long), (ko, .long)] s) {k n : Nat} {fc fv : Nat → Int64} {cl su th : Int32} {fo : Nat → Int64} {H : Heap} {locs : List Loc} {ls : Array Slot} {j : Nat} (hL : L ≤ 2560) (hj : 5 * j + 5 ≤ L) (hI : pt_I k n fc fv) (hP : va_P (dC, dI) vwCl [(h0, .inr (0, [.ref c0, .ref w0, .int (nI k), .int (nI n), .long (pt_mk n), .int cl, .int su])), (c0, .inl (kc, 512, .inr (.inl fc))), (w0, .inl (kw, 512, .inr (.inl fv))), (g0, .inr (1, [.ref a0, .ref b0, .int (nI k), .int (nI n), .int cl, .int su, .int th])), (a0, .inl (ja, 512, .inr (.inl fc))), (b0, .inl (jb, 512, .inr (.inl fv))), (o0, .inl (ko, 1, .inr (.inl fo)))] H) (hD : va_D A [(h0, .inr (0, [.ref c0, .ref w0, .int (nI k), .int (nI n), .long (pt_mk n), .int cl, .int su])), (c0, .inl (kc, 512, .inr (.inl fc))), (w0, .inl (kw, 512, .inr (.inl fv))), (g0, .inr (1, [.ref a0, .ref b0, .int (nI k), .int (nI n), .int cl, .int su, .int th])), (a0, .inl (ja, 512, .inr (.inl fc))), (b0, .inl (jb, 512, .inr (.inl fv))), (o0, .inl (ko, 1, .inr (.inl fo)))]) (hS : va_S A s.heap H locs) (hl : lv_has ls 8 [(4, .int (nI (5 * j))), (3, .ref o0), (2, .ref g0), (1, .ref h0), (0, .ref b)]) (kk : ∀ (k n : Nat) (fc fv : Nat → Int64) (cl su th : Int32) (fo : Nat → Int64) (H : Heap) (locs : List Loc) (ls : Array Slot), pt_I k n fc fv → va_P (dC, dI) vwCl [(h0, .inr (0, [.ref c0, .ref w0, .int (nI k), .int (nI n), .long (pt_mk n), .int cl, .int su])), (c0, .inl (kc, 512, .inr (.inl fc))), (w0, .inl (kw, 512, .inr (.inl fv))), (g0, .inr (1, [.ref a0, .ref b0, .int (nI k), .int (nI n), .int cl, .int su, .int th])), (a0, .inl (ja, 512, .inr (.inl fc))), (b0, .inl (jb, 512, .inr (.inl fv))), (o0, .inl (ko, 1, .inr (.inl fo)))] H → va_D A [(h0, .inr (0, [.ref c0, .ref w0, .int (nI k), .int (nI n), .long (pt_mk n), .int cl, .int su])), (c0, .inl (kc, 512, .inr (.inl fc))), (w0, .inl (kw, 512, .inr (.inl fv))), (g0, .inr (1, [.ref a0, .ref b0, .int (nI k), .int (nI n), .int cl, .int su, .int th])), (a0, .inl (ja, 512, .inr (.inl fc))), (b0, .inl (jb, 512, .inr (.inl fv))), (o0, .inl (ko, 1, .inr (.inl fo)))] → va_S A s.heap H locs → lv_has ls 8 [(4, .int (nI (5 * (j + 1)))), (3, .ref o0), (2, .ref g0), (1, .ref h0), (0, .ref b)] → W p l e room_1 s m #[Value.ref b] below meth c H locs (7 + (j + 1)) (2063 + 6 * (j + 1)) Q (F0 m 23 ls [])) : W p l e room_1 s m #[Value.ref b] below meth c H locs (7 + j) (2063 + 6 * j) Q (F0 m 858 ls []) := by
  refine lv_aload_n hx hb dL_law_858 rfl (lv_at hl 3 rfl) ?_
  refine lv_aload_n hx hb dL_law_859 rfl (lv_at hl 4 rfl) ?_
  refine lv_iload hx hb dL_law_860 (lv_at hl 0 rfl) ?_
  refine lv_iconst (v := 1) hx hb dL_law_862 (by decide) ?_
  refine lv_iadd hx hb dL_law_863 ?_
  rw [show nI (5 * j) + 1 = nI (5 * j + 1) from nI_add (5 * j) 1]
  refine va_sld hx hb hX hbl hbA hS (vp_in_nI (by omega) (by omega)) dL_law_864 ?_
  rw [nI_clamp (by omega)]
  refine vp_callSi (W.runV (As := [.int (xs (5 * j + 1))]) (rest := []) ⟨hx, hb, hml, hown, hts⟩ (c_count l dC dI h0 c0 w0 kc kw k n fc fv cl su (xs (5 * j + 1))) (cwV 1 hts (pt_gV pw54 pw55 pw56 pw17 pw57) rfl rfl rfl (by decide +kernel) ⟨Nat.le_of_ble_eq_true rfl, Nat.le_of_ble_eq_true rfl⟩) ⟨fun a U g mk q => by obtain ⟨q0, qP, qK⟩ := q; exact ⟨q0, qP, va_K.moved (u := U) (U := U.calling g mk a) (Vm.Alike.refl U.vm) qK⟩, va_recv hK hP (ci := 0) (q0 := 0) rfl rfl, fun U hU hW => ⟨rfl, by rw [hU]; exact (hP.sub (ws' := [(h0, .inr (0, [.ref c0, .ref w0, .int (nI k), .int (nI n), .long (pt_mk n), .int cl, .int su])), (c0, .inl (kc, 512, .inr (.inl fc))), (w0, .inl (kw, 512, .inr (.inl fv)))]) [0, 1, 2] rfl), va_K.moved hW.alike (hK.sub (tys' := [(kc, .long), (kw, .long)]) [0, 1] rfl)⟩⟩ rfl rfl hl.1 rfl (lv_room (Nat.le_of_ble_eq_true rfl)) dL_law_865 ⟨by show _ ≤ 1039; omega, by show _ ≤ 10303; omega⟩) (fun r1 hw => ?_)
  refine lv_aload_n hx hb dL_law_868 rfl (lv_at hl 2 rfl) ?_
  refine lv_aload_n hx hb dL_law_869 rfl (lv_at hl 4 rfl) ?_
  refine lv_iload hx hb dL_law_870 (lv_at hl 0 rfl) ?_
  refine lv_iconst (v := 1) hx hb dL_law_872 (by decide) ?_
  refine lv_iadd hx hb dL_law_873 ?_
  rw [show nI (5 * j) + 1 = nI (5 * j + 1) from nI_add (5 * j) 1]
  refine va_sld hx hb hX hbl hbA hS (vp_in_nI (by omega) (by omega)) dL_law_874 ?_
  rw [nI_clamp (by omega)]
  have hPc := hP.sub (ws' := [(g0, .inr (1, [.ref a0, .ref b0, .int (nI k), .int (nI n), .int cl, .int su, .int th])), (a0, .inl (ja, 512, .inr (.inl fc))), (b0, .inl (jb, 512, .inr (.inl fv)))]) [3, 4, 5] rfl
  have hDc := hD.sub (ws' := [(g0, .inr (1, [.ref a0, .ref b0, .int (nI k), .int (nI n), .int cl, .int su, .int th])), (a0, .inl (ja, 512, .inr (.inl fc))), (b0, .inl (jb, 512, .inr (.inl fv)))]) [3, 4, 5] (by decide) rfl
  have hKc := hK.sub (tys' := [(ja, .long), (jb, .long)]) [2, 3] rfl
  have hFc := va_free (wc := [(g0, .inr (1, [.ref a0, .ref b0, .int (nI k), .int (nI n), .int cl, .int su, .int th])), (a0, .inl (ja, 512, .inr (.inl fc))), (b0, .inl (jb, 512, .inr (.inl fv)))]) hD hS hA [3, 4, 5] rfl
  refine va_calli (va_runV (As := [.int (xs (5 * j + 1))]) (rest := [.int r1]) ⟨hx, hb, hml, hown, hts⟩ (c_mcount l dC dI g0 a0 b0 ja jb k n fc fv cl su th (xs (5 * j + 1)) H.size ) (cwV 1 hts (pt_gV pw246 pw247 pw248 pw18 pw249) rfl rfl rfl (by decide +kernel) ⟨Nat.le_of_ble_eq_true rfl, Nat.le_of_ble_eq_true rfl⟩) ⟨fun a U g mk q => by obtain ⟨q0, q1, qP, qK, qD⟩ := q; exact ⟨q0, q1, qP, va_K.moved (u := U) (U := U.calling g mk a) (Vm.Alike.refl U.vm) qK, qD⟩, va_recv hK hP (ci := 1) (q0 := 3) rfl rfl, fun U hU hW => ⟨rfl, by rw [hU], by rw [hU]; exact hPc, va_K.moved hW.alike hKc, hDc.weaken (fun _ _ _ _ => trivial)⟩⟩ rfl rfl hl.1 rfl (lv_room (Nat.le_of_ble_eq_true rfl)) dL_law_875 ⟨by show _ ≤ 1039; omega, by show _ ≤ 10303; omega⟩) hS (fun q _ h => hFc q h) hFc (fun r2 u t H1 locs ht hvm hw2 hB hz1 hk1 hS => ?_)
  obtain ⟨hP1, hK1, hD1⟩ := hB
  rw [ht] at hP1
  obtain ⟨hP, hD⟩ := va_join (wr := [(h0, .inr (0, [.ref c0, .ref w0, .int (nI k), .int (nI n), .long (pt_mk n), .int cl, .int su])), (c0, .inl (kc, 512, .inr (.inl fc))), (w0, .inl (kw, 512, .inr (.inl fv))), (o0, .inl (ko, 1, .inr (.inl fo)))]) (w1 := [(g0, .inr (1, [.ref a0, .ref b0, .int (nI k), .int (nI n), .int cl, .int su, .int 0])), (a0, .inl (ja, 512, .inr (.inl fc))), (b0, .inl (jb, 512, .inr (.inl fv)))]) hP hD [3, 4, 5] [0, 1, 2, 6] rfl rfl (by decide) (by decide) hk1 hFc hP1 hD1
  generalize H1 = H at hP hS ⊢
  have hP := hP.sub (ws' := [(h0, .inr (0, [.ref c0, .ref w0, .int (nI k), .int (nI n), .long (pt_mk n), .int cl, .int su])), (c0, .inl (kc, 512, .inr (.inl fc))), (w0, .inl (kw, 512, .inr (.inl fv))), (g0, .inr (1, [.ref a0, .ref b0, .int (nI k), .int (nI n), .int cl, .int su, .int 0])), (a0, .inl (ja, 512, .inr (.inl fc))), (b0, .inl (jb, 512, .inr (.inl fv))), (o0, .inl (ko, 1, .inr (.inl fo)))]) [0, 1, 2, 4, 5, 6, 3] rfl
  have hD := hD.sub (ws' := [(h0, .inr (0, [.ref c0, .ref w0, .int (nI k), .int (nI n), .long (pt_mk n), .int cl, .int su])), (c0, .inl (kc, 512, .inr (.inl fc))), (w0, .inl (kw, 512, .inr (.inl fv))), (g0, .inr (1, [.ref a0, .ref b0, .int (nI k), .int (nI n), .int cl, .int su, .int 0])), (a0, .inl (ja, 512, .inr (.inl fc))), (b0, .inl (jb, 512, .inr (.inl fv))), (o0, .inl (ko, 1, .inr (.inl fo)))]) [0, 1, 2, 4, 5, 6, 3] (by decide) rfl
  have hP : va_P (dC, dI) vwCl [(h0, .inr (0, [.ref c0, .ref w0, .int (nI k), .int (nI n), .long (pt_mk n), .int cl, .int su])), (c0, .inl (kc, 512, .inr (.inl fc))), (w0, .inl (kw, 512, .inr (.inl fv))), (g0, .inr (1, [.ref a0, .ref b0, .int (nI k), .int (nI n), .int cl, .int su, .int 0])), (a0, .inl (ja, 512, .inr (.inl fc))), (b0, .inl (jb, 512, .inr (.inl fv))), (o0, .inl (ko, 1, .inr (.inl fo)))] H := hP
  have hD : va_D A [(h0, .inr (0, [.ref c0, .ref w0, .int (nI k), .int (nI n), .long (pt_mk n), .int cl, .int su])), (c0, .inl (kc, 512, .inr (.inl fc))), (w0, .inl (kw, 512, .inr (.inl fv))), (g0, .inr (1, [.ref a0, .ref b0, .int (nI k), .int (nI n), .int cl, .int su, .int 0])), (a0, .inl (ja, 512, .inr (.inl fc))), (b0, .inl (jb, 512, .inr (.inl fv))), (o0, .inl (ko, 1, .inr (.inl fo)))] := hD
  refine lv_icmp_eq (tgt := 883) hx hb dL_law_878 (by decide) (fun h5 => ?_) (fun h5 => absurd (hw.trans hw2.symm) h5)
  refine lv_iinc (v := nI (5 * (j + 1))) (lv' := [(4, .int (nI (5 * (j + 1)))), (3, .ref o0), (2, .ref g0), (1, .ref h0), (0, .ref b)]) hx hb dL_law_883 hl (k := 0) rfl (show nI (5 * j) + nI 5 = nI (5 * j + 5) from nI_add _ _) (by decide) rfl (fun ls hl => ?_)
  refine lv_goto (tgt := 23) hx hb dL_law_886 (by decide) ?_
  refine W.widen (k := 7 + (j + 1)) (n := 2063 + 6 * (j + 1)) (by omega) (by omega) ?_
  exact kk k n fc fv cl su 0 fo H _ ls hI hP hD hS (lv_sub hl [0, 1, 2, 3, 4] rfl)
