set_option maxHeartbeats 4000000 in
set_option maxRecDepth 100000 in
theorem lw_case_clear (l : Launch) (hl9 : l.stackTraces = false) {p : Program} {e : Env} {s : State} {m : MethodId} {below : List Frame} {meth : Method} {c : Code} {Q : State → Prop} {b L : Nat} {xs : Nat → Int32} (dC : Nat → ClassId) (dI : Nat → Nat → Nat) {A : Nat → Prop} (hAs : ∀ q : Nat, A q → s.heap.size ≤ q) (hA : ∀ q : Nat, s.heap.size ≤ q → A q) (hx : p.tables.exec = Jvm.exec) (hb : c.code = code) (hml : c.maxLocals = 8) (hown : s.vm.findClass RL = some m.cls) (hts : ∀ w ∈ Cond.initialized RL :: pt_all, w.before #[Value.ref b] s = true) (hX : va_X b L xs s s.heap) (hbl : b < s.heap.size) (hbA : ¬ A b) (h0X : pt_X s) (hext0 : pt_ext s s) {h0 c0 w0 g0 a0 b0 o0 : Nat} {kc kw ja jb ko : ClassId} (hK : va_K (dC, dI) vwCl [(kc, .long), (kw, .long), (ja, .long), (jb, .long), (ko, .long)] s) {k n : Nat} {fc fv : Nat → Int64} {cl su th : Int32} {fo : Nat → Int64} {H : Heap} {locs : List Loc} {ls : Array Slot} {j : Nat} (hL : L ≤ 2560) (hj : 5 * j + 5 ≤ L) (hI : pt_I k n fc fv) (hP : va_P (dC, dI) vwCl [(h0, .inr (0, [.ref c0, .ref w0, .int (nI k), .int (nI n), .long (pt_mk n), .int cl, .int su])), (c0, .inl (kc, 512, .inr (.inl fc))), (w0, .inl (kw, 512, .inr (.inl fv))), (g0, .inr (1, [.ref a0, .ref b0, .int (nI k), .int (nI n), .int cl, .int su, .int th])), (a0, .inl (ja, 512, .inr (.inl fc))), (b0, .inl (jb, 512, .inr (.inl fv))), (o0, .inl (ko, 1, .inr (.inl fo)))] H) (hD : va_D A [(h0, .inr (0, [.ref c0, .ref w0, .int (nI k), .int (nI n), .long (pt_mk n), .int cl, .int su])), (c0, .inl (kc, 512, .inr (.inl fc))), (w0, .inl (kw, 512, .inr (.inl fv))), (g0, .inr (1, [.ref a0, .ref b0, .int (nI k), .int (nI n), .int cl, .int su, .int th])), (a0, .inl (ja, 512, .inr (.inl fc))), (b0, .inl (jb, 512, .inr (.inl fv))), (o0, .inl (ko, 1, .inr (.inl fo)))]) (hS : va_S A s.heap H locs) (hl : lv_has ls 8 [(4, .int (nI (5 * j))), (3, .ref o0), (2, .ref g0), (1, .ref h0), (0, .ref b)]) (kk : ∀ (k n : Nat) (fc fv : Nat → Int64) (cl su th : Int32) (fo : Nat → Int64) (H : Heap) (locs : List Loc) (ls : Array Slot), pt_I k n fc fv → va_P (dC, dI) vwCl [(h0, .inr (0, [.ref c0, .ref w0, .int (nI k), .int (nI n), .long (pt_mk n), .int cl, .int su])), (c0, .inl (kc, 512, .inr (.inl fc))), (w0, .inl (kw, 512, .inr (.inl fv))), (g0, .inr (1, [.ref a0, .ref b0, .int (nI k), .int (nI n), .int cl, .int su, .int th])), (a0, .inl (ja, 512, .inr (.inl fc))), (b0, .inl (jb, 512, .inr (.inl fv))), (o0, .inl (ko, 1, .inr (.inl fo)))] H → va_D A [(h0, .inr (0, [.ref c0, .ref w0, .int (nI k), .int (nI n), .long (pt_mk n), .int cl, .int su])), (c0, .inl (kc, 512, .inr (.inl fc))), (w0, .inl (kw, 512, .inr (.inl fv))), (g0, .inr (1, [.ref a0, .ref b0, .int (nI k), .int (nI n), .int cl, .int su, .int th])), (a0, .inl (ja, 512, .inr (.inl fc))), (b0, .inl (jb, 512, .inr (.inl fv))), (o0, .inl (ko, 1, .inr (.inl fo)))] → va_S A s.heap H locs → lv_has ls 8 [(4, .int (nI (5 * (j + 1)))), (3, .ref o0), (2, .ref g0), (1, .ref h0), (0, .ref b)] → W p l e room_1 s m #[Value.ref b] below meth c H locs (7 + (j + 1)) (2063 + 6 * (j + 1)) Q (F0 m 23 ls [])) : W p l e room_1 s m #[Value.ref b] below meth c H locs (7 + j) (2063 + 6 * j) Q (F0 m 92 ls []) := by
  refine lv_aload_n hx hb dL_law_92 rfl (lv_at hl 3 rfl) ?_
  refine lv_aload_n hx hb dL_law_93 rfl (lv_at hl 4 rfl) ?_
  refine lv_iload hx hb dL_law_94 (lv_at hl 0 rfl) ?_
  refine lv_iconst (v := 1) hx hb dL_law_96 (by decide) ?_
  refine lv_iadd hx hb dL_law_97 ?_
  rw [show nI (5 * j) + 1 = nI (5 * j + 1) from nI_add (5 * j) 1]
  refine va_sld hx hb hX hbl hbA hS (vp_in_nI (by omega) (by omega)) dL_law_98 ?_
  rw [nI_clamp (by omega)]
  have hPc := hP.sub (ws' := [(h0, .inr (0, [.ref c0, .ref w0, .int (nI k), .int (nI n), .long (pt_mk n), .int cl, .int su])), (c0, .inl (kc, 512, .inr (.inl fc))), (w0, .inl (kw, 512, .inr (.inl fv)))]) [0, 1, 2] rfl
  have hDc := hD.sub (ws' := [(h0, .inr (0, [.ref c0, .ref w0, .int (nI k), .int (nI n), .long (pt_mk n), .int cl, .int su])), (c0, .inl (kc, 512, .inr (.inl fc))), (w0, .inl (kw, 512, .inr (.inl fv)))]) [0, 1, 2] (by decide) rfl
  have hKc := hK.sub (tys' := [(kc, .long), (kw, .long)]) [0, 1] rfl
  have hFc := va_free (wc := [(h0, .inr (0, [.ref c0, .ref w0, .int (nI k), .int (nI n), .long (pt_mk n), .int cl, .int su])), (c0, .inl (kc, 512, .inr (.inl fc))), (w0, .inl (kw, 512, .inr (.inl fv)))]) hD hS hA [0, 1, 2] rfl
  refine va_calli (pt_runSW (n := 2) (hh := [(0, 5, 8, 13)]) (maxL := 3) (As := [.ref h0, .int (xs (5 * j + 1))]) (rest := []) ⟨hx, hb, hml, hown, hts⟩ (c_Lclear l hl9 dC dI s h0X h0 c0 w0 kc kw k n fc fv cl su (xs (5 * j + 1)) H.size ) (pt_gW pw58 pw59 pw16 pw60) rfl rfl rfl (by decide +kernel) ⟨Nat.le_of_ble_eq_true rfl, Nat.le_of_ble_eq_true rfl⟩ ⟨fun a U g mk q => by obtain ⟨q0, q1, qP, qK, qD, qX⟩ := q; exact ⟨q0, q1, qP, va_K.moved (u := U) (U := U.calling g mk a) (Vm.Alike.refl U.vm) qK, qD, qX⟩, fun U hU hW => ⟨rfl, by rw [hU], by rw [hU]; exact hPc, va_K.moved hW.alike hKc, hDc.weaken (fun _ _ _ h => hAs _ h), hext0.on2 hS hAs hU hW⟩⟩ rfl rfl hl.1 rfl (lv_room (Nat.le_of_ble_eq_true rfl)) dL_law_99 ⟨by show _ ≤ 1039; omega, by show _ ≤ 10303; omega⟩) hS (fun q _ h => hFc q h) hFc (fun r1 u t H1 locs ht hvm hw hB hz1 hk1 hS => ?_)
  obtain ⟨k2, n2, fc2, fv2, cl2, su2⟩ := u
  obtain ⟨hP1, hK1, hD1⟩ := hB
  rw [ht] at hP1
  obtain ⟨hP, hD⟩ := va_join (wr := [(g0, .inr (1, [.ref a0, .ref b0, .int (nI k), .int (nI n), .int cl, .int su, .int th])), (a0, .inl (ja, 512, .inr (.inl fc))), (b0, .inl (jb, 512, .inr (.inl fv))), (o0, .inl (ko, 1, .inr (.inl fo)))]) (w1 := [(h0, .inr (0, [.ref c0, .ref w0, .int (nI k2), .int (nI n2), .long (pt_mk n2), .int cl2, .int su2])), (c0, .inl (kc, 512, .inr (.inl fc2))), (w0, .inl (kw, 512, .inr (.inl fv2)))]) hP hD [0, 1, 2] [3, 4, 5, 6] rfl rfl (by decide) (by decide) hk1 hFc hP1 hD1
  generalize H1 = H at hP hS ⊢
  have hP := hP.sub (ws' := [(h0, .inr (0, [.ref c0, .ref w0, .int (nI k2), .int (nI n2), .long (pt_mk n2), .int cl2, .int su2])), (c0, .inl (kc, 512, .inr (.inl fc2))), (w0, .inl (kw, 512, .inr (.inl fv2))), (g0, .inr (1, [.ref a0, .ref b0, .int (nI k), .int (nI n), .int cl, .int su, .int th])), (a0, .inl (ja, 512, .inr (.inl fc))), (b0, .inl (jb, 512, .inr (.inl fv))), (o0, .inl (ko, 1, .inr (.inl fo)))]) [4, 5, 6, 0, 1, 2, 3] rfl
  have hD := hD.sub (ws' := [(h0, .inr (0, [.ref c0, .ref w0, .int (nI k2), .int (nI n2), .long (pt_mk n2), .int cl2, .int su2])), (c0, .inl (kc, 512, .inr (.inl fc2))), (w0, .inl (kw, 512, .inr (.inl fv2))), (g0, .inr (1, [.ref a0, .ref b0, .int (nI k), .int (nI n), .int cl, .int su, .int th])), (a0, .inl (ja, 512, .inr (.inl fc))), (b0, .inl (jb, 512, .inr (.inl fv))), (o0, .inl (ko, 1, .inr (.inl fo)))]) [4, 5, 6, 0, 1, 2, 3] (by decide) rfl
  have hP : va_P (dC, dI) vwCl [(h0, .inr (0, [.ref c0, .ref w0, .int (nI k2), .int (nI n2), .long (pt_mk n2), .int cl2, .int su2])), (c0, .inl (kc, 512, .inr (.inl fc2))), (w0, .inl (kw, 512, .inr (.inl fv2))), (g0, .inr (1, [.ref a0, .ref b0, .int (nI k), .int (nI n), .int cl, .int su, .int th])), (a0, .inl (ja, 512, .inr (.inl fc))), (b0, .inl (jb, 512, .inr (.inl fv))), (o0, .inl (ko, 1, .inr (.inl fo)))] H := hP
  have hD : va_D A [(h0, .inr (0, [.ref c0, .ref w0, .int (nI k2), .int (nI n2), .long (pt_mk n2), .int cl2, .int su2])), (c0, .inl (kc, 512, .inr (.inl fc2))), (w0, .inl (kw, 512, .inr (.inl fv2))), (g0, .inr (1, [.ref a0, .ref b0, .int (nI k), .int (nI n), .int cl, .int su, .int th])), (a0, .inl (ja, 512, .inr (.inl fc))), (b0, .inl (jb, 512, .inr (.inl fv))), (o0, .inl (ko, 1, .inr (.inl fo)))] := hD
  refine lv_istore (lv' := [(5, .int r1), (4, .int (nI (5 * j))), (3, .ref o0), (2, .ref g0), (1, .ref h0), (0, .ref b)]) hx hb dL_law_102 hl (by decide) rfl (fun ls hl => ?_)
  refine lv_aload_n hx hb dL_law_104 rfl (lv_at hl 3 rfl) ?_
  refine lv_aload_n hx hb dL_law_105 rfl (lv_at hl 5 rfl) ?_
  refine lv_iload hx hb dL_law_106 (lv_at hl 1 rfl) ?_
  refine lv_iconst (v := 1) hx hb dL_law_108 (by decide) ?_
  refine lv_iadd hx hb dL_law_109 ?_
  rw [show nI (5 * j) + 1 = nI (5 * j + 1) from nI_add (5 * j) 1]
  refine va_sld hx hb hX hbl hbA hS (vp_in_nI (by omega) (by omega)) dL_law_110 ?_
  rw [nI_clamp (by omega)]
  have hPc := hP.sub (ws' := [(g0, .inr (1, [.ref a0, .ref b0, .int (nI k), .int (nI n), .int cl, .int su, .int th])), (a0, .inl (ja, 512, .inr (.inl fc))), (b0, .inl (jb, 512, .inr (.inl fv)))]) [3, 4, 5] rfl
  have hDc := hD.sub (ws' := [(g0, .inr (1, [.ref a0, .ref b0, .int (nI k), .int (nI n), .int cl, .int su, .int th])), (a0, .inl (ja, 512, .inr (.inl fc))), (b0, .inl (jb, 512, .inr (.inl fv)))]) [3, 4, 5] (by decide) rfl
  have hKc := hK.sub (tys' := [(ja, .long), (jb, .long)]) [2, 3] rfl
  have hFc := va_free (wc := [(g0, .inr (1, [.ref a0, .ref b0, .int (nI k), .int (nI n), .int cl, .int su, .int th])), (a0, .inl (ja, 512, .inr (.inl fc))), (b0, .inl (jb, 512, .inr (.inl fv)))]) hD hS hA [3, 4, 5] rfl
  refine va_callv (va_runV (As := [.int (xs (5 * j + 1))]) (rest := []) ⟨hx, hb, hml, hown, hts⟩ (c_mclear l dC dI g0 a0 b0 ja jb k n fc fv cl su th (xs (5 * j + 1)) H.size ) (cwV 1 hts (pt_gV pw179 pw180 pw181 pw18 pw182) rfl rfl rfl (by decide +kernel) ⟨Nat.le_of_ble_eq_true rfl, Nat.le_of_ble_eq_true rfl⟩) ⟨fun a U g mk q => by obtain ⟨q0, q1, qP, qK, qD⟩ := q; exact ⟨q0, q1, qP, va_K.moved (u := U) (U := U.calling g mk a) (Vm.Alike.refl U.vm) qK, qD⟩, va_recv hK hP (ci := 1) (q0 := 3) rfl rfl, fun U hU hW => ⟨rfl, by rw [hU], by rw [hU]; exact hPc, va_K.moved hW.alike hKc, hDc.weaken (fun _ _ _ _ => trivial)⟩⟩ rfl rfl hl.1 rfl (lv_room (Nat.le_of_ble_eq_true rfl)) dL_law_111 ⟨by show _ ≤ 1039; omega, by show _ ≤ 10303; omega⟩) hS (fun q _ h => hFc q h) hFc (fun  u t H1 locs ht hvm hw2 hB hz1 hk1 hS => ?_)
  obtain ⟨⟨k3, n3, fc3, fv3, cl3, su3⟩, th3⟩ := u
  obtain ⟨hP1, hK1, hD1⟩ := hB
  rw [ht] at hP1
  obtain ⟨hP, hD⟩ := va_join (wr := [(h0, .inr (0, [.ref c0, .ref w0, .int (nI k2), .int (nI n2), .long (pt_mk n2), .int cl2, .int su2])), (c0, .inl (kc, 512, .inr (.inl fc2))), (w0, .inl (kw, 512, .inr (.inl fv2))), (o0, .inl (ko, 1, .inr (.inl fo)))]) (w1 := [(g0, .inr (1, [.ref a0, .ref b0, .int (nI k3), .int (nI n3), .int cl3, .int su3, .int th3])), (a0, .inl (ja, 512, .inr (.inl fc3))), (b0, .inl (jb, 512, .inr (.inl fv3)))]) hP hD [3, 4, 5] [0, 1, 2, 6] rfl rfl (by decide) (by decide) hk1 hFc hP1 hD1
  generalize H1 = H at hP hS ⊢
  have hP := hP.sub (ws' := [(h0, .inr (0, [.ref c0, .ref w0, .int (nI k2), .int (nI n2), .long (pt_mk n2), .int cl2, .int su2])), (c0, .inl (kc, 512, .inr (.inl fc2))), (w0, .inl (kw, 512, .inr (.inl fv2))), (g0, .inr (1, [.ref a0, .ref b0, .int (nI k3), .int (nI n3), .int cl3, .int su3, .int th3])), (a0, .inl (ja, 512, .inr (.inl fc3))), (b0, .inl (jb, 512, .inr (.inl fv3))), (o0, .inl (ko, 1, .inr (.inl fo)))]) [0, 1, 2, 4, 5, 6, 3] rfl
  have hD := hD.sub (ws' := [(h0, .inr (0, [.ref c0, .ref w0, .int (nI k2), .int (nI n2), .long (pt_mk n2), .int cl2, .int su2])), (c0, .inl (kc, 512, .inr (.inl fc2))), (w0, .inl (kw, 512, .inr (.inl fv2))), (g0, .inr (1, [.ref a0, .ref b0, .int (nI k3), .int (nI n3), .int cl3, .int su3, .int th3])), (a0, .inl (ja, 512, .inr (.inl fc3))), (b0, .inl (jb, 512, .inr (.inl fv3))), (o0, .inl (ko, 1, .inr (.inl fo)))]) [0, 1, 2, 4, 5, 6, 3] (by decide) rfl
  have hP : va_P (dC, dI) vwCl [(h0, .inr (0, [.ref c0, .ref w0, .int (nI k2), .int (nI n2), .long (pt_mk n2), .int cl2, .int su2])), (c0, .inl (kc, 512, .inr (.inl fc2))), (w0, .inl (kw, 512, .inr (.inl fv2))), (g0, .inr (1, [.ref a0, .ref b0, .int (nI k3), .int (nI n3), .int cl3, .int su3, .int th3])), (a0, .inl (ja, 512, .inr (.inl fc3))), (b0, .inl (jb, 512, .inr (.inl fv3))), (o0, .inl (ko, 1, .inr (.inl fo)))] H := hP
  have hD : va_D A [(h0, .inr (0, [.ref c0, .ref w0, .int (nI k2), .int (nI n2), .long (pt_mk n2), .int cl2, .int su2])), (c0, .inl (kc, 512, .inr (.inl fc2))), (w0, .inl (kw, 512, .inr (.inl fv2))), (g0, .inr (1, [.ref a0, .ref b0, .int (nI k3), .int (nI n3), .int cl3, .int su3, .int th3])), (a0, .inl (ja, 512, .inr (.inl fc3))), (b0, .inl (jb, 512, .inr (.inl fv3))), (o0, .inl (ko, 1, .inr (.inl fo)))] := hD
  obtain ⟨q1, q2⟩ := pt_Rclear_det hw hw2
  have hI2 : pt_I k2 n2 fc2 fv2 := pt_Rclear_I hI hw
  have q2 : (k2, n2, fc2, fv2, cl2, su2) = (k3, n3, fc3, fv3, cl3, su3) := q2
  simp only [Prod.mk.injEq] at q2
  obtain ⟨e1, e2, e3, e4, e5, e6⟩ := q2
  subst e1 e2 e3 e4 e5 e6
  refine lv_aload_n hx hb dL_law_114 rfl (lv_at hl 3 rfl) ?_
  refine vp_callSi (W.runV (As := []) (rest := []) ⟨hx, hb, hml, hown, hts⟩ (c_thrown l dC dI g0 a0 b0 ja jb k2 n2 fc2 fv2 cl2 su2 th3) (cwV 0 hts (pt_gV pw175 pw176 pw177 pw18 pw178) rfl rfl rfl (by decide +kernel) ⟨Nat.le_of_ble_eq_true rfl, Nat.le_of_ble_eq_true rfl⟩) ⟨fun a U g mk q => by obtain ⟨q0, qP, qK⟩ := q; exact ⟨q0, qP, va_K.moved (u := U) (U := U.calling g mk a) (Vm.Alike.refl U.vm) qK⟩, va_recv hK hP (ci := 1) (q0 := 3) rfl rfl, fun U hU hW => ⟨rfl, by rw [hU]; exact (hP.sub (ws' := [(g0, .inr (1, [.ref a0, .ref b0, .int (nI k2), .int (nI n2), .int cl2, .int su2, .int th3])), (a0, .inl (ja, 512, .inr (.inl fc2))), (b0, .inl (jb, 512, .inr (.inl fv2)))]) [3, 4, 5] rfl), va_K.moved hW.alike (hK.sub (tys' := [(ja, .long), (jb, .long)]) [2, 3] rfl)⟩⟩ rfl rfl hl.1 rfl (lv_room (Nat.le_of_ble_eq_true rfl)) dL_law_115 ⟨by show _ ≤ 1039; omega, by show _ ≤ 10303; omega⟩) (fun r2 hw9 => ?_)
  have hw9 := hw9.symm
  subst hw9
  refine lv_iload hx hb dL_law_118 (lv_at hl 0 rfl) ?_
  refine lv_icmp_eq (tgt := 125) hx hb dL_law_120 (by decide) (fun h5 => ?_) (fun h5 => absurd q1.symm h5)
  refine lv_goto (tgt := 883) hx hb dL_law_125 (by decide) ?_
  refine lv_iinc (v := nI (5 * (j + 1))) (lv' := [(4, .int (nI (5 * (j + 1)))), (5, .int r1), (3, .ref o0), (2, .ref g0), (1, .ref h0), (0, .ref b)]) hx hb dL_law_883 hl (k := 1) rfl (show nI (5 * j) + nI 5 = nI (5 * j + 5) from nI_add _ _) (by decide) rfl (fun ls hl => ?_)
  refine lv_goto (tgt := 23) hx hb dL_law_886 (by decide) ?_
  refine W.widen (k := 7 + (j + 1)) (n := 2063 + 6 * (j + 1)) (by omega) (by omega) ?_
  exact kk k2 n2 fc2 fv2 cl2 su2 th3 fo H _ ls hI2 hP hD hS (lv_sub hl [0, 2, 3, 4, 5] rfl)
set_option maxHeartbeats 4000000 in
set_option maxRecDepth 100000 in
theorem lw_case_add (l : Launch) (hl9 : l.stackTraces = false) {p : Program} {e : Env} {s : State} {m : MethodId} {below : List Frame} {meth : Method} {c : Code} {Q : State → Prop} {b L : Nat} {xs : Nat → Int32} (dC : Nat → ClassId) (dI : Nat → Nat → Nat) {A : Nat → Prop} (hAs : ∀ q : Nat, A q → s.heap.size ≤ q) (hA : ∀ q : Nat, s.heap.size ≤ q → A q) (hx : p.tables.exec = Jvm.exec) (hb : c.code = code) (hml : c.maxLocals = 8) (hown : s.vm.findClass RL = some m.cls) (hts : ∀ w ∈ Cond.initialized RL :: pt_all, w.before #[Value.ref b] s = true) (hX : va_X b L xs s s.heap) (hbl : b < s.heap.size) (hbA : ¬ A b) (h0X : pt_X s) (hext0 : pt_ext s s) {h0 c0 w0 g0 a0 b0 o0 : Nat} {kc kw ja jb ko : ClassId} (hK : va_K (dC, dI) vwCl [(kc, .long), (kw, .long), (ja, .long), (jb, .long), (ko, .long)] s) {k n : Nat} {fc fv : Nat → Int64} {cl su th : Int32} {fo : Nat → Int64} {H : Heap} {locs : List Loc} {ls : Array Slot} {j : Nat} (hL : L ≤ 2560) (hj : 5 * j + 5 ≤ L) (hI : pt_I k n fc fv) (hP : va_P (dC, dI) vwCl [(h0, .inr (0, [.ref c0, .ref w0, .int (nI k), .int (nI n), .long (pt_mk n), .int cl, .int su])), (c0, .inl (kc, 512, .inr (.inl fc))), (w0, .inl (kw, 512, .inr (.inl fv))), (g0, .inr (1, [.ref a0, .ref b0, .int (nI k), .int (nI n), .int cl, .int su, .int th])), (a0, .inl (ja, 512, .inr (.inl fc))), (b0, .inl (jb, 512, .inr (.inl fv))), (o0, .inl (ko, 1, .inr (.inl fo)))] H) (hD : va_D A [(h0, .inr (0, [.ref c0, .ref w0, .int (nI k), .int (nI n), .long (pt_mk n), .int cl, .int su])), (c0, .inl (kc, 512, .inr (.inl fc))), (w0, .inl (kw, 512, .inr (.inl fv))), (g0, .inr (1, [.ref a0, .ref b0, .int (nI k), .int (nI n), .int cl, .int su, .int th])), (a0, .inl (ja, 512, .inr (.inl fc))), (b0, .inl (jb, 512, .inr (.inl fv))), (o0, .inl (ko, 1, .inr (.inl fo)))]) (hS : va_S A s.heap H locs) (hl : lv_has ls 8 [(4, .int (nI (5 * j))), (3, .ref o0), (2, .ref g0), (1, .ref h0), (0, .ref b)]) (kk : ∀ (k n : Nat) (fc fv : Nat → Int64) (cl su th : Int32) (fo : Nat → Int64) (H : Heap) (locs : List Loc) (ls : Array Slot), pt_I k n fc fv → va_P (dC, dI) vwCl [(h0, .inr (0, [.ref c0, .ref w0, .int (nI k), .int (nI n), .long (pt_mk n), .int cl, .int su])), (c0, .inl (kc, 512, .inr (.inl fc))), (w0, .inl (kw, 512, .inr (.inl fv))), (g0, .inr (1, [.ref a0, .ref b0, .int (nI k), .int (nI n), .int cl, .int su, .int th])), (a0, .inl (ja, 512, .inr (.inl fc))), (b0, .inl (jb, 512, .inr (.inl fv))), (o0, .inl (ko, 1, .inr (.inl fo)))] H → va_D A [(h0, .inr (0, [.ref c0, .ref w0, .int (nI k), .int (nI n), .long (pt_mk n), .int cl, .int su])), (c0, .inl (kc, 512, .inr (.inl fc))), (w0, .inl (kw, 512, .inr (.inl fv))), (g0, .inr (1, [.ref a0, .ref b0, .int (nI k), .int (nI n), .int cl, .int su, .int th])), (a0, .inl (ja, 512, .inr (.inl fc))), (b0, .inl (jb, 512, .inr (.inl fv))), (o0, .inl (ko, 1, .inr (.inl fo)))] → va_S A s.heap H locs → lv_has ls 8 [(4, .int (nI (5 * (j + 1)))), (3, .ref o0), (2, .ref g0), (1, .ref h0), (0, .ref b)] → W p l e room_1 s m #[Value.ref b] below meth c H locs (7 + (j + 1)) (2063 + 6 * (j + 1)) Q (F0 m 23 ls [])) : W p l e room_1 s m #[Value.ref b] below meth c H locs (7 + j) (2063 + 6 * j) Q (F0 m 128 ls []) := by
  refine lv_aload_n hx hb dL_law_128 rfl (lv_at hl 3 rfl) ?_
  refine lv_aload_n hx hb dL_law_129 rfl (lv_at hl 4 rfl) ?_
  refine lv_iload hx hb dL_law_130 (lv_at hl 0 rfl) ?_
  refine lv_iconst (v := 1) hx hb dL_law_132 (by decide) ?_
  refine lv_iadd hx hb dL_law_133 ?_
  rw [show nI (5 * j) + 1 = nI (5 * j + 1) from nI_add (5 * j) 1]
  refine va_sld hx hb hX hbl hbA hS (vp_in_nI (by omega) (by omega)) dL_law_134 ?_
  rw [nI_clamp (by omega)]
  refine lv_i2l (v := (xs (5 * j + 1)).toInt64) hx hb dL_law_135 rfl ?_
  refine lv_bipush (v := 32) hx hb dL_law_136 (by decide) ?_
  refine lv_lshl (v := pt_shl ((xs (5 * j + 1)).toInt64) 32) hx hb dL_law_138 rfl ?_
  refine lv_aload_n hx hb dL_law_139 rfl (lv_at hl 4 rfl) ?_
  refine lv_iload hx hb dL_law_140 (lv_at hl 0 rfl) ?_
  refine lv_iconst (v := 2) hx hb dL_law_142 (by decide) ?_
  refine lv_iadd hx hb dL_law_143 ?_
  rw [show nI (5 * j) + 2 = nI (5 * j + 2) from nI_add (5 * j) 2]
  refine va_sld hx hb hX hbl hbA hS (vp_in_nI (by omega) (by omega)) dL_law_144 ?_
  rw [nI_clamp (by omega)]
  refine lv_i2l (v := (xs (5 * j + 2)).toInt64) hx hb dL_law_145 rfl ?_
  refine lv_ldc2 (v := 4294967295) hx hb hown (hts _ (List.mem_cons_of_mem _ pw250)) dL_law_146 ?_
  refine lv_land hx hb dL_law_149 ?_
  refine lv_lor hx hb dL_law_150 ?_
  refine lv_topl (fun v1 ev1 => ?_)
  refine lv_aload_n hx hb dL_law_151 rfl (lv_at hl 4 rfl) ?_
  refine lv_iload hx hb dL_law_152 (lv_at hl 0 rfl) ?_
  refine lv_iconst (v := 3) hx hb dL_law_154 (by decide) ?_
  refine lv_iadd hx hb dL_law_155 ?_
  rw [show nI (5 * j) + 3 = nI (5 * j + 3) from nI_add (5 * j) 3]
  refine va_sld hx hb hX hbl hbA hS (vp_in_nI (by omega) (by omega)) dL_law_156 ?_
  rw [nI_clamp (by omega)]
  refine lv_i2l (v := (xs (5 * j + 3)).toInt64) hx hb dL_law_157 rfl ?_
  refine lv_bipush (v := 32) hx hb dL_law_158 (by decide) ?_
  refine lv_lshl (v := pt_shl ((xs (5 * j + 3)).toInt64) 32) hx hb dL_law_160 rfl ?_
  refine lv_aload_n hx hb dL_law_161 rfl (lv_at hl 4 rfl) ?_
  refine lv_iload hx hb dL_law_162 (lv_at hl 0 rfl) ?_
  refine lv_iconst (v := 4) hx hb dL_law_164 (by decide) ?_
  refine lv_iadd hx hb dL_law_165 ?_
  rw [show nI (5 * j) + 4 = nI (5 * j + 4) from nI_add (5 * j) 4]
  refine va_sld hx hb hX hbl hbA hS (vp_in_nI (by omega) (by omega)) dL_law_166 ?_
  rw [nI_clamp (by omega)]
  refine lv_i2l (v := (xs (5 * j + 4)).toInt64) hx hb dL_law_167 rfl ?_
  refine lv_ldc2 (v := 4294967295) hx hb hown (hts _ (List.mem_cons_of_mem _ pw250)) dL_law_168 ?_
  refine lv_land hx hb dL_law_171 ?_
  refine lv_lor hx hb dL_law_172 ?_
  refine lv_topl (fun v2 ev2 => ?_)
  refine lv_aload_n hx hb dL_law_173 rfl (lv_at hl 1 rfl) ?_
  have hPc := hP.sub (ws' := [(h0, .inr (0, [.ref c0, .ref w0, .int (nI k), .int (nI n), .long (pt_mk n), .int cl, .int su])), (c0, .inl (kc, 512, .inr (.inl fc))), (w0, .inl (kw, 512, .inr (.inl fv))), (o0, .inl (ko, 1, .inr (.inl fo)))]) [0, 1, 2, 6] rfl
  have hDc := hD.sub (ws' := [(h0, .inr (0, [.ref c0, .ref w0, .int (nI k), .int (nI n), .long (pt_mk n), .int cl, .int su])), (c0, .inl (kc, 512, .inr (.inl fc))), (w0, .inl (kw, 512, .inr (.inl fv))), (o0, .inl (ko, 1, .inr (.inl fo)))]) [0, 1, 2, 6] (by decide) rfl
  have hKc := hK.sub (tys' := [(kc, .long), (kw, .long), (ko, .long)]) [0, 1, 4] rfl
  have hFc := va_free (wc := [(h0, .inr (0, [.ref c0, .ref w0, .int (nI k), .int (nI n), .long (pt_mk n), .int cl, .int su])), (c0, .inl (kc, 512, .inr (.inl fc))), (w0, .inl (kw, 512, .inr (.inl fv))), (o0, .inl (ko, 1, .inr (.inl fo)))]) hD hS hA [0, 1, 2, 6] rfl
  refine va_calli (pt_runSW (n := 4) (hh := [(0, 11, 14, 13), (0, 11, 18, 19)]) (maxL := 7) (As := [.ref h0, .long v1, .long v2, .ref o0]) (rest := []) ⟨hx, hb, hml, hown, hts⟩ (c_Ladd l hl9 dC dI s h0X h0 c0 w0 kc kw k n fc fv cl su o0 ko fo v1 v2 H.size hI.1) (pt_gW pw68 pw69 pw16 pw70) rfl rfl rfl (by decide +kernel) ⟨Nat.le_of_ble_eq_true rfl, Nat.le_of_ble_eq_true rfl⟩ ⟨fun a U g mk q => by obtain ⟨q0, q1, qP, qK, qD, qX⟩ := q; exact ⟨q0, q1, qP, va_K.moved (u := U) (U := U.calling g mk a) (Vm.Alike.refl U.vm) qK, qD, qX⟩, fun U hU hW => ⟨rfl, by rw [hU], by rw [hU]; exact hPc, va_K.moved hW.alike hKc, hDc.weaken (fun _ _ _ h => hAs _ h), hext0.on2 hS hAs hU hW⟩⟩ rfl rfl hl.1 rfl (lv_room (Nat.le_of_ble_eq_true rfl)) dL_law_174 ⟨by show _ ≤ 1039; omega, by show _ ≤ 10303; omega⟩) hS (fun q _ h => hFc q h) hFc (fun r1 u t H1 locs ht hvm hw hB hz1 hk1 hS => ?_)
  obtain ⟨⟨k2, n2, fc2, fv2, cl2, su2⟩, fo2⟩ := u
  obtain ⟨hP1, hK1, hD1⟩ := hB
  rw [ht] at hP1
  obtain ⟨hP, hD⟩ := va_join (wr := [(g0, .inr (1, [.ref a0, .ref b0, .int (nI k), .int (nI n), .int cl, .int su, .int th])), (a0, .inl (ja, 512, .inr (.inl fc))), (b0, .inl (jb, 512, .inr (.inl fv)))]) (w1 := [(h0, .inr (0, [.ref c0, .ref w0, .int (nI k2), .int (nI n2), .long (pt_mk n2), .int cl2, .int su2])), (c0, .inl (kc, 512, .inr (.inl fc2))), (w0, .inl (kw, 512, .inr (.inl fv2))), (o0, .inl (ko, 1, .inr (.inl fo2)))]) hP hD [0, 1, 2, 6] [3, 4, 5] rfl rfl (by decide) (by decide) hk1 hFc hP1 hD1
  generalize H1 = H at hP hS ⊢
  have hP := hP.sub (ws' := [(h0, .inr (0, [.ref c0, .ref w0, .int (nI k2), .int (nI n2), .long (pt_mk n2), .int cl2, .int su2])), (c0, .inl (kc, 512, .inr (.inl fc2))), (w0, .inl (kw, 512, .inr (.inl fv2))), (g0, .inr (1, [.ref a0, .ref b0, .int (nI k), .int (nI n), .int cl, .int su, .int th])), (a0, .inl (ja, 512, .inr (.inl fc))), (b0, .inl (jb, 512, .inr (.inl fv))), (o0, .inl (ko, 1, .inr (.inl fo2)))]) [3, 4, 5, 0, 1, 2, 6] rfl
  have hD := hD.sub (ws' := [(h0, .inr (0, [.ref c0, .ref w0, .int (nI k2), .int (nI n2), .long (pt_mk n2), .int cl2, .int su2])), (c0, .inl (kc, 512, .inr (.inl fc2))), (w0, .inl (kw, 512, .inr (.inl fv2))), (g0, .inr (1, [.ref a0, .ref b0, .int (nI k), .int (nI n), .int cl, .int su, .int th])), (a0, .inl (ja, 512, .inr (.inl fc))), (b0, .inl (jb, 512, .inr (.inl fv))), (o0, .inl (ko, 1, .inr (.inl fo2)))]) [3, 4, 5, 0, 1, 2, 6] (by decide) rfl
  have hP : va_P (dC, dI) vwCl [(h0, .inr (0, [.ref c0, .ref w0, .int (nI k2), .int (nI n2), .long (pt_mk n2), .int cl2, .int su2])), (c0, .inl (kc, 512, .inr (.inl fc2))), (w0, .inl (kw, 512, .inr (.inl fv2))), (g0, .inr (1, [.ref a0, .ref b0, .int (nI k), .int (nI n), .int cl, .int su, .int th])), (a0, .inl (ja, 512, .inr (.inl fc))), (b0, .inl (jb, 512, .inr (.inl fv))), (o0, .inl (ko, 1, .inr (.inl fo2)))] H := hP
  have hD : va_D A [(h0, .inr (0, [.ref c0, .ref w0, .int (nI k2), .int (nI n2), .long (pt_mk n2), .int cl2, .int su2])), (c0, .inl (kc, 512, .inr (.inl fc2))), (w0, .inl (kw, 512, .inr (.inl fv2))), (g0, .inr (1, [.ref a0, .ref b0, .int (nI k), .int (nI n), .int cl, .int su, .int th])), (a0, .inl (ja, 512, .inr (.inl fc))), (b0, .inl (jb, 512, .inr (.inl fv))), (o0, .inl (ko, 1, .inr (.inl fo2)))] := hD
  refine lv_istore (lv' := [(5, .int r1), (4, .int (nI (5 * j))), (3, .ref o0), (2, .ref g0), (1, .ref h0), (0, .ref b)]) hx hb dL_law_177 hl (by decide) rfl (fun ls hl => ?_)
  refine lv_aload_n hx hb dL_law_179 rfl (lv_at hl 3 rfl) ?_
  refine lv_aload_n hx hb dL_law_180 rfl (lv_at hl 5 rfl) ?_
  refine lv_iload hx hb dL_law_181 (lv_at hl 1 rfl) ?_
  refine lv_iconst (v := 1) hx hb dL_law_183 (by decide) ?_
  refine lv_iadd hx hb dL_law_184 ?_
  rw [show nI (5 * j) + 1 = nI (5 * j + 1) from nI_add (5 * j) 1]
  refine va_sld hx hb hX hbl hbA hS (vp_in_nI (by omega) (by omega)) dL_law_185 ?_
  rw [nI_clamp (by omega)]
  refine lv_i2l (v := (xs (5 * j + 1)).toInt64) hx hb dL_law_186 rfl ?_
  refine lv_bipush (v := 32) hx hb dL_law_187 (by decide) ?_
  refine lv_lshl (v := pt_shl ((xs (5 * j + 1)).toInt64) 32) hx hb dL_law_189 rfl ?_
  refine lv_aload_n hx hb dL_law_190 rfl (lv_at hl 5 rfl) ?_
  refine lv_iload hx hb dL_law_191 (lv_at hl 1 rfl) ?_
  refine lv_iconst (v := 2) hx hb dL_law_193 (by decide) ?_
  refine lv_iadd hx hb dL_law_194 ?_
  rw [show nI (5 * j) + 2 = nI (5 * j + 2) from nI_add (5 * j) 2]
  refine va_sld hx hb hX hbl hbA hS (vp_in_nI (by omega) (by omega)) dL_law_195 ?_
  rw [nI_clamp (by omega)]
  refine lv_i2l (v := (xs (5 * j + 2)).toInt64) hx hb dL_law_196 rfl ?_
  refine lv_ldc2 (v := 4294967295) hx hb hown (hts _ (List.mem_cons_of_mem _ pw250)) dL_law_197 ?_
  refine lv_land hx hb dL_law_200 ?_
  refine lv_lor hx hb dL_law_201 ?_
  rw [← ev1]
  refine lv_aload_n hx hb dL_law_202 rfl (lv_at hl 5 rfl) ?_
  refine lv_iload hx hb dL_law_203 (lv_at hl 1 rfl) ?_
  refine lv_iconst (v := 3) hx hb dL_law_205 (by decide) ?_
  refine lv_iadd hx hb dL_law_206 ?_
  rw [show nI (5 * j) + 3 = nI (5 * j + 3) from nI_add (5 * j) 3]
  refine va_sld hx hb hX hbl hbA hS (vp_in_nI (by omega) (by omega)) dL_law_207 ?_
  rw [nI_clamp (by omega)]
  refine lv_i2l (v := (xs (5 * j + 3)).toInt64) hx hb dL_law_208 rfl ?_
  refine lv_bipush (v := 32) hx hb dL_law_209 (by decide) ?_
  refine lv_lshl (v := pt_shl ((xs (5 * j + 3)).toInt64) 32) hx hb dL_law_211 rfl ?_
  refine lv_aload_n hx hb dL_law_212 rfl (lv_at hl 5 rfl) ?_
  refine lv_iload hx hb dL_law_213 (lv_at hl 1 rfl) ?_
  refine lv_iconst (v := 4) hx hb dL_law_215 (by decide) ?_
  refine lv_iadd hx hb dL_law_216 ?_
  rw [show nI (5 * j) + 4 = nI (5 * j + 4) from nI_add (5 * j) 4]
  refine va_sld hx hb hX hbl hbA hS (vp_in_nI (by omega) (by omega)) dL_law_217 ?_
  rw [nI_clamp (by omega)]
  refine lv_i2l (v := (xs (5 * j + 4)).toInt64) hx hb dL_law_218 rfl ?_
  refine lv_ldc2 (v := 4294967295) hx hb hown (hts _ (List.mem_cons_of_mem _ pw250)) dL_law_219 ?_
  refine lv_land hx hb dL_law_222 ?_
  refine lv_lor hx hb dL_law_223 ?_
  rw [← ev2]
  have hPc := hP.sub (ws' := [(g0, .inr (1, [.ref a0, .ref b0, .int (nI k), .int (nI n), .int cl, .int su, .int th])), (a0, .inl (ja, 512, .inr (.inl fc))), (b0, .inl (jb, 512, .inr (.inl fv)))]) [3, 4, 5] rfl
  have hDc := hD.sub (ws' := [(g0, .inr (1, [.ref a0, .ref b0, .int (nI k), .int (nI n), .int cl, .int su, .int th])), (a0, .inl (ja, 512, .inr (.inl fc))), (b0, .inl (jb, 512, .inr (.inl fv)))]) [3, 4, 5] (by decide) rfl
  have hKc := hK.sub (tys' := [(ja, .long), (jb, .long)]) [2, 3] rfl
  have hFc := va_free (wc := [(g0, .inr (1, [.ref a0, .ref b0, .int (nI k), .int (nI n), .int cl, .int su, .int th])), (a0, .inl (ja, 512, .inr (.inl fc))), (b0, .inl (jb, 512, .inr (.inl fv)))]) hD hS hA [3, 4, 5] rfl
  refine va_calli (va_runV (As := [.long v1, .long v2]) (rest := []) ⟨hx, hb, hml, hown, hts⟩ (c_madd l dC dI g0 a0 b0 ja jb k n fc fv cl su th v1 v2 H.size hI) (cwV 2 hts (pt_gV pw186 pw187 pw188 pw18 pw189) rfl rfl rfl (by decide +kernel) ⟨Nat.le_of_ble_eq_true rfl, Nat.le_of_ble_eq_true rfl⟩) ⟨fun a U g mk q => by obtain ⟨q0, q1, qP, qK, qD⟩ := q; exact ⟨q0, q1, qP, va_K.moved (u := U) (U := U.calling g mk a) (Vm.Alike.refl U.vm) qK, qD⟩, va_recv hK hP (ci := 1) (q0 := 3) rfl rfl, fun U hU hW => ⟨rfl, by rw [hU], by rw [hU]; exact hPc, va_K.moved hW.alike hKc, hDc.weaken (fun _ _ _ _ => trivial)⟩⟩ rfl rfl hl.1 rfl (lv_room (Nat.le_of_ble_eq_true rfl)) dL_law_224 ⟨by show _ ≤ 1039; omega, by show _ ≤ 10303; omega⟩) hS (fun q _ h => hFc q h) hFc (fun r2 u t H1 locs ht hvm hw2 hB hz1 hk1 hS => ?_)
  obtain ⟨⟨k3, n3, fc3, fv3, cl3, su3⟩, th3⟩ := u
  obtain ⟨hP1, hK1, hD1⟩ := hB
  rw [ht] at hP1
  obtain ⟨hP, hD⟩ := va_join (wr := [(h0, .inr (0, [.ref c0, .ref w0, .int (nI k2), .int (nI n2), .long (pt_mk n2), .int cl2, .int su2])), (c0, .inl (kc, 512, .inr (.inl fc2))), (w0, .inl (kw, 512, .inr (.inl fv2))), (o0, .inl (ko, 1, .inr (.inl fo2)))]) (w1 := [(g0, .inr (1, [.ref a0, .ref b0, .int (nI k3), .int (nI n3), .int cl3, .int su3, .int th3])), (a0, .inl (ja, 512, .inr (.inl fc3))), (b0, .inl (jb, 512, .inr (.inl fv3)))]) hP hD [3, 4, 5] [0, 1, 2, 6] rfl rfl (by decide) (by decide) hk1 hFc hP1 hD1
  generalize H1 = H at hP hS ⊢
  have hP := hP.sub (ws' := [(h0, .inr (0, [.ref c0, .ref w0, .int (nI k2), .int (nI n2), .long (pt_mk n2), .int cl2, .int su2])), (c0, .inl (kc, 512, .inr (.inl fc2))), (w0, .inl (kw, 512, .inr (.inl fv2))), (g0, .inr (1, [.ref a0, .ref b0, .int (nI k3), .int (nI n3), .int cl3, .int su3, .int th3])), (a0, .inl (ja, 512, .inr (.inl fc3))), (b0, .inl (jb, 512, .inr (.inl fv3))), (o0, .inl (ko, 1, .inr (.inl fo2)))]) [0, 1, 2, 4, 5, 6, 3] rfl
  have hD := hD.sub (ws' := [(h0, .inr (0, [.ref c0, .ref w0, .int (nI k2), .int (nI n2), .long (pt_mk n2), .int cl2, .int su2])), (c0, .inl (kc, 512, .inr (.inl fc2))), (w0, .inl (kw, 512, .inr (.inl fv2))), (g0, .inr (1, [.ref a0, .ref b0, .int (nI k3), .int (nI n3), .int cl3, .int su3, .int th3])), (a0, .inl (ja, 512, .inr (.inl fc3))), (b0, .inl (jb, 512, .inr (.inl fv3))), (o0, .inl (ko, 1, .inr (.inl fo2)))]) [0, 1, 2, 4, 5, 6, 3] (by decide) rfl
  have hP : va_P (dC, dI) vwCl [(h0, .inr (0, [.ref c0, .ref w0, .int (nI k2), .int (nI n2), .long (pt_mk n2), .int cl2, .int su2])), (c0, .inl (kc, 512, .inr (.inl fc2))), (w0, .inl (kw, 512, .inr (.inl fv2))), (g0, .inr (1, [.ref a0, .ref b0, .int (nI k3), .int (nI n3), .int cl3, .int su3, .int th3])), (a0, .inl (ja, 512, .inr (.inl fc3))), (b0, .inl (jb, 512, .inr (.inl fv3))), (o0, .inl (ko, 1, .inr (.inl fo2)))] H := hP
  have hD : va_D A [(h0, .inr (0, [.ref c0, .ref w0, .int (nI k2), .int (nI n2), .long (pt_mk n2), .int cl2, .int su2])), (c0, .inl (kc, 512, .inr (.inl fc2))), (w0, .inl (kw, 512, .inr (.inl fv2))), (g0, .inr (1, [.ref a0, .ref b0, .int (nI k3), .int (nI n3), .int cl3, .int su3, .int th3])), (a0, .inl (ja, 512, .inr (.inl fc3))), (b0, .inl (jb, 512, .inr (.inl fv3))), (o0, .inl (ko, 1, .inr (.inl fo2)))] := hD
  obtain ⟨q1, q2, q3⟩ := pt_Radd_det hI.1 hw hw2
  have hI2 : pt_I k2 n2 fc2 fv2 := pt_Radd_I hI hw
  have q2 : (k2, n2, fc2, fv2, cl2, su2) = (k3, n3, fc3, fv3, cl3, su3) := q2
  simp only [Prod.mk.injEq] at q2
  obtain ⟨e1, e2, e3, e4, e5, e6⟩ := q2
  subst e1 e2 e3 e4 e5 e6
  refine lv_istore (lv' := [(6, .int r2), (5, .int r1), (4, .int (nI (5 * j))), (3, .ref o0), (2, .ref g0), (1, .ref h0), (0, .ref b)]) hx hb dL_law_227 hl (by decide) rfl (fun ls hl => ?_)
  refine lv_aload_n hx hb dL_law_229 rfl (lv_at hl 4 rfl) ?_
  refine vp_callSi (W.runV (As := []) (rest := []) ⟨hx, hb, hml, hown, hts⟩ (c_thrown l dC dI g0 a0 b0 ja jb k2 n2 fc2 fv2 cl2 su2 th3) (cwV 0 hts (pt_gV pw175 pw176 pw177 pw18 pw178) rfl rfl rfl (by decide +kernel) ⟨Nat.le_of_ble_eq_true rfl, Nat.le_of_ble_eq_true rfl⟩) ⟨fun a U g mk q => by obtain ⟨q0, qP, qK⟩ := q; exact ⟨q0, qP, va_K.moved (u := U) (U := U.calling g mk a) (Vm.Alike.refl U.vm) qK⟩, va_recv hK hP (ci := 1) (q0 := 3) rfl rfl, fun U hU hW => ⟨rfl, by rw [hU]; exact (hP.sub (ws' := [(g0, .inr (1, [.ref a0, .ref b0, .int (nI k2), .int (nI n2), .int cl2, .int su2, .int th3])), (a0, .inl (ja, 512, .inr (.inl fc2))), (b0, .inl (jb, 512, .inr (.inl fv2)))]) [3, 4, 5] rfl), va_K.moved hW.alike (hK.sub (tys' := [(ja, .long), (jb, .long)]) [2, 3] rfl)⟩⟩ rfl rfl hl.1 rfl (lv_room (Nat.le_of_ble_eq_true rfl)) dL_law_230 ⟨by show _ ≤ 1039; omega, by show _ ≤ 10303; omega⟩) (fun r3 hw9 => ?_)
  have hw9 := hw9.symm
  subst hw9
  refine lv_iload hx hb dL_law_233 (lv_at hl 1 rfl) ?_
  refine lv_icmp_eq (tgt := 240) hx hb dL_law_235 (by decide) (fun h5 => ?_) (fun h5 => absurd q1.symm h5)
  refine lv_iload hx hb dL_law_240 (lv_at hl 1 rfl) ?_
  refine lv_if_ne (tgt := 257) hx hb dL_law_242 (by decide) (fun h6 => ?_) (fun h6 => ?_)
  · refine lv_goto (tgt := 883) hx hb dL_law_257 (by decide) ?_
    refine lv_iinc (v := nI (5 * (j + 1))) (lv' := [(4, .int (nI (5 * (j + 1)))), (6, .int r2), (5, .int r1), (3, .ref o0), (2, .ref g0), (1, .ref h0), (0, .ref b)]) hx hb dL_law_883 hl (k := 2) rfl (show nI (5 * j) + nI 5 = nI (5 * j + 5) from nI_add _ _) (by decide) rfl (fun ls hl => ?_)
    refine lv_goto (tgt := 23) hx hb dL_law_886 (by decide) ?_
    refine W.widen (k := 7 + (j + 1)) (n := 2063 + 6 * (j + 1)) (by omega) (by omega) ?_
    exact kk k2 n2 fc2 fv2 cl2 su2 th3 fo2 H _ ls hI2 hP hD hS (lv_sub hl [0, 3, 4, 5, 6] rfl)
  · refine lv_aload_n hx hb dL_law_245 rfl (lv_at hl 3 rfl) ?_
    refine lv_iconst (v := 0) hx hb dL_law_246 (by decide) ?_
    refine va_lald hx hb hK hP 6 4 rfl rfl (vp_in_nI (n := 0) (by decide) (by decide)) dL_law_247 ?_
    rw [show Int32.toNatClampNeg 0 = 0 by decide]
    refine lv_iload hx hb dL_law_248 (lv_at hl 0 rfl) ?_
    refine lv_i2l (v := r2.toInt64) hx hb dL_law_250 rfl ?_
    refine W.lcmp hx hb dL_law_251 ?_
    refine lv_if_eq (tgt := 257) hx hb dL_law_252 (by decide) (fun h7 => ?_) (fun h7 => absurd (pt_cmp0.mpr (q3 h6)) h7)
    refine lv_goto (tgt := 883) hx hb dL_law_257 (by decide) ?_
    refine lv_iinc (v := nI (5 * (j + 1))) (lv' := [(4, .int (nI (5 * (j + 1)))), (6, .int r2), (5, .int r1), (3, .ref o0), (2, .ref g0), (1, .ref h0), (0, .ref b)]) hx hb dL_law_883 hl (k := 2) rfl (show nI (5 * j) + nI 5 = nI (5 * j + 5) from nI_add _ _) (by decide) rfl (fun ls hl => ?_)
    refine lv_goto (tgt := 23) hx hb dL_law_886 (by decide) ?_
    refine W.widen (k := 7 + (j + 1)) (n := 2063 + 6 * (j + 1)) (by omega) (by omega) ?_
    exact kk k2 n2 fc2 fv2 cl2 su2 th3 fo2 H _ ls hI2 hP hD hS (lv_sub hl [0, 3, 4, 5, 6] rfl)
set_option maxHeartbeats 4000000 in
set_option maxRecDepth 100000 in
theorem lw_case_signs (l : Launch) (hl9 : l.stackTraces = false) {p : Program} {e : Env} {s : State} {m : MethodId} {below : List Frame} {meth : Method} {c : Code} {Q : State → Prop} {b L : Nat} {xs : Nat → Int32} (dC : Nat → ClassId) (dI : Nat → Nat → Nat) {A : Nat → Prop} (hAs : ∀ q : Nat, A q → s.heap.size ≤ q) (hA : ∀ q : Nat, s.heap.size ≤ q → A q) (hx : p.tables.exec = Jvm.exec) (hb : c.code = code) (hml : c.maxLocals = 8) (hown : s.vm.findClass RL = some m.cls) (hts : ∀ w ∈ Cond.initialized RL :: pt_all, w.before #[Value.ref b] s = true) (hX : va_X b L xs s s.heap) (hbl : b < s.heap.size) (hbA : ¬ A b) (h0X : pt_X s) (hext0 : pt_ext s s) {h0 c0 w0 g0 a0 b0 o0 : Nat} {kc kw ja jb ko : ClassId} (hK : va_K (dC, dI) vwCl [(kc, .long), (kw, .long), (ja, .long), (jb, .long), (ko, .long)] s) {k n : Nat} {fc fv : Nat → Int64} {cl su th : Int32} {fo : Nat → Int64} {H : Heap} {locs : List Loc} {ls : Array Slot} {j : Nat} (hL : L ≤ 2560) (hj : 5 * j + 5 ≤ L) (hI : pt_I k n fc fv) (hP : va_P (dC, dI) vwCl [(h0, .inr (0, [.ref c0, .ref w0, .int (nI k), .int (nI n), .long (pt_mk n), .int cl, .int su])), (c0, .inl (kc, 512, .inr (.inl fc))), (w0, .inl (kw, 512, .inr (.inl fv))), (g0, .inr (1, [.ref a0, .ref b0, .int (nI k), .int (nI n), .int cl, .int su, .int th])), (a0, .inl (ja, 512, .inr (.inl fc))), (b0, .inl (jb, 512, .inr (.inl fv))), (o0, .inl (ko, 1, .inr (.inl fo)))] H) (hD : va_D A [(h0, .inr (0, [.ref c0, .ref w0, .int (nI k), .int (nI n), .long (pt_mk n), .int cl, .int su])), (c0, .inl (kc, 512, .inr (.inl fc))), (w0, .inl (kw, 512, .inr (.inl fv))), (g0, .inr (1, [.ref a0, .ref b0, .int (nI k), .int (nI n), .int cl, .int su, .int th])), (a0, .inl (ja, 512, .inr (.inl fc))), (b0, .inl (jb, 512, .inr (.inl fv))), (o0, .inl (ko, 1, .inr (.inl fo)))]) (hS : va_S A s.heap H locs) (hl : lv_has ls 8 [(4, .int (nI (5 * j))), (3, .ref o0), (2, .ref g0), (1, .ref h0), (0, .ref b)]) (kk : ∀ (k n : Nat) (fc fv : Nat → Int64) (cl su th : Int32) (fo : Nat → Int64) (H : Heap) (locs : List Loc) (ls : Array Slot), pt_I k n fc fv → va_P (dC, dI) vwCl [(h0, .inr (0, [.ref c0, .ref w0, .int (nI k), .int (nI n), .long (pt_mk n), .int cl, .int su])), (c0, .inl (kc, 512, .inr (.inl fc))), (w0, .inl (kw, 512, .inr (.inl fv))), (g0, .inr (1, [.ref a0, .ref b0, .int (nI k), .int (nI n), .int cl, .int su, .int th])), (a0, .inl (ja, 512, .inr (.inl fc))), (b0, .inl (jb, 512, .inr (.inl fv))), (o0, .inl (ko, 1, .inr (.inl fo)))] H → va_D A [(h0, .inr (0, [.ref c0, .ref w0, .int (nI k), .int (nI n), .long (pt_mk n), .int cl, .int su])), (c0, .inl (kc, 512, .inr (.inl fc))), (w0, .inl (kw, 512, .inr (.inl fv))), (g0, .inr (1, [.ref a0, .ref b0, .int (nI k), .int (nI n), .int cl, .int su, .int th])), (a0, .inl (ja, 512, .inr (.inl fc))), (b0, .inl (jb, 512, .inr (.inl fv))), (o0, .inl (ko, 1, .inr (.inl fo)))] → va_S A s.heap H locs → lv_has ls 8 [(4, .int (nI (5 * (j + 1)))), (3, .ref o0), (2, .ref g0), (1, .ref h0), (0, .ref b)] → W p l e room_1 s m #[Value.ref b] below meth c H locs (7 + (j + 1)) (2063 + 6 * (j + 1)) Q (F0 m 23 ls [])) : W p l e room_1 s m #[Value.ref b] below meth c H locs (7 + j) (2063 + 6 * j) Q (F0 m 260 ls []) := by
  refine lv_aload_n hx hb dL_law_260 rfl (lv_at hl 3 rfl) ?_
  refine lv_aload_n hx hb dL_law_261 rfl (lv_at hl 4 rfl) ?_
  refine lv_iload hx hb dL_law_262 (lv_at hl 0 rfl) ?_
  refine lv_iconst (v := 1) hx hb dL_law_264 (by decide) ?_
  refine lv_iadd hx hb dL_law_265 ?_
  rw [show nI (5 * j) + 1 = nI (5 * j + 1) from nI_add (5 * j) 1]
  refine va_sld hx hb hX hbl hbA hS (vp_in_nI (by omega) (by omega)) dL_law_266 ?_
  rw [nI_clamp (by omega)]
  refine lv_i2l (v := (xs (5 * j + 1)).toInt64) hx hb dL_law_267 rfl ?_
  refine lv_bipush (v := 32) hx hb dL_law_268 (by decide) ?_
  refine lv_lshl (v := pt_shl ((xs (5 * j + 1)).toInt64) 32) hx hb dL_law_270 rfl ?_
  refine lv_aload_n hx hb dL_law_271 rfl (lv_at hl 4 rfl) ?_
  refine lv_iload hx hb dL_law_272 (lv_at hl 0 rfl) ?_
  refine lv_iconst (v := 2) hx hb dL_law_274 (by decide) ?_
  refine lv_iadd hx hb dL_law_275 ?_
  rw [show nI (5 * j) + 2 = nI (5 * j + 2) from nI_add (5 * j) 2]
  refine va_sld hx hb hX hbl hbA hS (vp_in_nI (by omega) (by omega)) dL_law_276 ?_
  rw [nI_clamp (by omega)]
  refine lv_i2l (v := (xs (5 * j + 2)).toInt64) hx hb dL_law_277 rfl ?_
  refine lv_ldc2 (v := 4294967295) hx hb hown (hts _ (List.mem_cons_of_mem _ pw250)) dL_law_278 ?_
  refine lv_land hx hb dL_law_281 ?_
  refine lv_lor hx hb dL_law_282 ?_
  refine lv_topl (fun v1 ev1 => ?_)
  refine lv_aload_n hx hb dL_law_283 rfl (lv_at hl 1 rfl) ?_
  have hPc := hP.sub (ws' := [(h0, .inr (0, [.ref c0, .ref w0, .int (nI k), .int (nI n), .long (pt_mk n), .int cl, .int su])), (c0, .inl (kc, 512, .inr (.inl fc))), (w0, .inl (kw, 512, .inr (.inl fv))), (o0, .inl (ko, 1, .inr (.inl fo)))]) [0, 1, 2, 6] rfl
  have hDc := hD.sub (ws' := [(h0, .inr (0, [.ref c0, .ref w0, .int (nI k), .int (nI n), .long (pt_mk n), .int cl, .int su])), (c0, .inl (kc, 512, .inr (.inl fc))), (w0, .inl (kw, 512, .inr (.inl fv))), (o0, .inl (ko, 1, .inr (.inl fo)))]) [0, 1, 2, 6] (by decide) rfl
  have hKc := hK.sub (tys' := [(kc, .long), (kw, .long), (ko, .long)]) [0, 1, 4] rfl
  have hFc := va_free (wc := [(h0, .inr (0, [.ref c0, .ref w0, .int (nI k), .int (nI n), .long (pt_mk n), .int cl, .int su])), (c0, .inl (kc, 512, .inr (.inl fc))), (w0, .inl (kw, 512, .inr (.inl fv))), (o0, .inl (ko, 1, .inr (.inl fo)))]) hD hS hA [0, 1, 2, 6] rfl
  refine va_calli (pt_runSW (n := 3) (hh := [(0, 9, 12, 13), (0, 9, 16, 19)]) (maxL := 5) (As := [.ref h0, .long v1, .ref o0]) (rest := []) ⟨hx, hb, hml, hown, hts⟩ (c_Lsigns l hl9 dC dI s h0X h0 c0 w0 kc kw k n fc fv cl su o0 ko fo v1 H.size hI.1) (pt_gW pw87 pw88 pw16 pw89) rfl rfl rfl (by decide +kernel) ⟨Nat.le_of_ble_eq_true rfl, Nat.le_of_ble_eq_true rfl⟩ ⟨fun a U g mk q => by obtain ⟨q0, q1, qP, qK, qD, qX⟩ := q; exact ⟨q0, q1, qP, va_K.moved (u := U) (U := U.calling g mk a) (Vm.Alike.refl U.vm) qK, qD, qX⟩, fun U hU hW => ⟨rfl, by rw [hU], by rw [hU]; exact hPc, va_K.moved hW.alike hKc, hDc.weaken (fun _ _ _ h => hAs _ h), hext0.on2 hS hAs hU hW⟩⟩ rfl rfl hl.1 rfl (lv_room (Nat.le_of_ble_eq_true rfl)) dL_law_284 ⟨by show _ ≤ 1039; omega, by show _ ≤ 10303; omega⟩) hS (fun q _ h => hFc q h) hFc (fun r1 u t H1 locs ht hvm hw hB hz1 hk1 hS => ?_)
  obtain ⟨⟨k2, n2, fc2, fv2, cl2, su2⟩, fo2⟩ := u
  obtain ⟨hP1, hK1, hD1⟩ := hB
  rw [ht] at hP1
  obtain ⟨hP, hD⟩ := va_join (wr := [(g0, .inr (1, [.ref a0, .ref b0, .int (nI k), .int (nI n), .int cl, .int su, .int th])), (a0, .inl (ja, 512, .inr (.inl fc))), (b0, .inl (jb, 512, .inr (.inl fv)))]) (w1 := [(h0, .inr (0, [.ref c0, .ref w0, .int (nI k2), .int (nI n2), .long (pt_mk n2), .int cl2, .int su2])), (c0, .inl (kc, 512, .inr (.inl fc2))), (w0, .inl (kw, 512, .inr (.inl fv2))), (o0, .inl (ko, 1, .inr (.inl fo2)))]) hP hD [0, 1, 2, 6] [3, 4, 5] rfl rfl (by decide) (by decide) hk1 hFc hP1 hD1
  generalize H1 = H at hP hS ⊢
  have hP := hP.sub (ws' := [(h0, .inr (0, [.ref c0, .ref w0, .int (nI k2), .int (nI n2), .long (pt_mk n2), .int cl2, .int su2])), (c0, .inl (kc, 512, .inr (.inl fc2))), (w0, .inl (kw, 512, .inr (.inl fv2))), (g0, .inr (1, [.ref a0, .ref b0, .int (nI k), .int (nI n), .int cl, .int su, .int th])), (a0, .inl (ja, 512, .inr (.inl fc))), (b0, .inl (jb, 512, .inr (.inl fv))), (o0, .inl (ko, 1, .inr (.inl fo2)))]) [3, 4, 5, 0, 1, 2, 6] rfl
  have hD := hD.sub (ws' := [(h0, .inr (0, [.ref c0, .ref w0, .int (nI k2), .int (nI n2), .long (pt_mk n2), .int cl2, .int su2])), (c0, .inl (kc, 512, .inr (.inl fc2))), (w0, .inl (kw, 512, .inr (.inl fv2))), (g0, .inr (1, [.ref a0, .ref b0, .int (nI k), .int (nI n), .int cl, .int su, .int th])), (a0, .inl (ja, 512, .inr (.inl fc))), (b0, .inl (jb, 512, .inr (.inl fv))), (o0, .inl (ko, 1, .inr (.inl fo2)))]) [3, 4, 5, 0, 1, 2, 6] (by decide) rfl
  have hP : va_P (dC, dI) vwCl [(h0, .inr (0, [.ref c0, .ref w0, .int (nI k2), .int (nI n2), .long (pt_mk n2), .int cl2, .int su2])), (c0, .inl (kc, 512, .inr (.inl fc2))), (w0, .inl (kw, 512, .inr (.inl fv2))), (g0, .inr (1, [.ref a0, .ref b0, .int (nI k), .int (nI n), .int cl, .int su, .int th])), (a0, .inl (ja, 512, .inr (.inl fc))), (b0, .inl (jb, 512, .inr (.inl fv))), (o0, .inl (ko, 1, .inr (.inl fo2)))] H := hP
  have hD : va_D A [(h0, .inr (0, [.ref c0, .ref w0, .int (nI k2), .int (nI n2), .long (pt_mk n2), .int cl2, .int su2])), (c0, .inl (kc, 512, .inr (.inl fc2))), (w0, .inl (kw, 512, .inr (.inl fv2))), (g0, .inr (1, [.ref a0, .ref b0, .int (nI k), .int (nI n), .int cl, .int su, .int th])), (a0, .inl (ja, 512, .inr (.inl fc))), (b0, .inl (jb, 512, .inr (.inl fv))), (o0, .inl (ko, 1, .inr (.inl fo2)))] := hD
  refine lv_istore (lv' := [(5, .int r1), (4, .int (nI (5 * j))), (3, .ref o0), (2, .ref g0), (1, .ref h0), (0, .ref b)]) hx hb dL_law_287 hl (by decide) rfl (fun ls hl => ?_)
  refine lv_aload_n hx hb dL_law_289 rfl (lv_at hl 3 rfl) ?_
  refine lv_aload_n hx hb dL_law_290 rfl (lv_at hl 5 rfl) ?_
  refine lv_iload hx hb dL_law_291 (lv_at hl 1 rfl) ?_
  refine lv_iconst (v := 1) hx hb dL_law_293 (by decide) ?_
  refine lv_iadd hx hb dL_law_294 ?_
  rw [show nI (5 * j) + 1 = nI (5 * j + 1) from nI_add (5 * j) 1]
  refine va_sld hx hb hX hbl hbA hS (vp_in_nI (by omega) (by omega)) dL_law_295 ?_
  rw [nI_clamp (by omega)]
  refine lv_i2l (v := (xs (5 * j + 1)).toInt64) hx hb dL_law_296 rfl ?_
  refine lv_bipush (v := 32) hx hb dL_law_297 (by decide) ?_
  refine lv_lshl (v := pt_shl ((xs (5 * j + 1)).toInt64) 32) hx hb dL_law_299 rfl ?_
  refine lv_aload_n hx hb dL_law_300 rfl (lv_at hl 5 rfl) ?_
  refine lv_iload hx hb dL_law_301 (lv_at hl 1 rfl) ?_
  refine lv_iconst (v := 2) hx hb dL_law_303 (by decide) ?_
  refine lv_iadd hx hb dL_law_304 ?_
  rw [show nI (5 * j) + 2 = nI (5 * j + 2) from nI_add (5 * j) 2]
  refine va_sld hx hb hX hbl hbA hS (vp_in_nI (by omega) (by omega)) dL_law_305 ?_
  rw [nI_clamp (by omega)]
  refine lv_i2l (v := (xs (5 * j + 2)).toInt64) hx hb dL_law_306 rfl ?_
  refine lv_ldc2 (v := 4294967295) hx hb hown (hts _ (List.mem_cons_of_mem _ pw250)) dL_law_307 ?_
  refine lv_land hx hb dL_law_310 ?_
  refine lv_lor hx hb dL_law_311 ?_
  rw [← ev1]
  have hPc := hP.sub (ws' := [(g0, .inr (1, [.ref a0, .ref b0, .int (nI k), .int (nI n), .int cl, .int su, .int th])), (a0, .inl (ja, 512, .inr (.inl fc))), (b0, .inl (jb, 512, .inr (.inl fv)))]) [3, 4, 5] rfl
  have hDc := hD.sub (ws' := [(g0, .inr (1, [.ref a0, .ref b0, .int (nI k), .int (nI n), .int cl, .int su, .int th])), (a0, .inl (ja, 512, .inr (.inl fc))), (b0, .inl (jb, 512, .inr (.inl fv)))]) [3, 4, 5] (by decide) rfl
  have hKc := hK.sub (tys' := [(ja, .long), (jb, .long)]) [2, 3] rfl
  have hFc := va_free (wc := [(g0, .inr (1, [.ref a0, .ref b0, .int (nI k), .int (nI n), .int cl, .int su, .int th])), (a0, .inl (ja, 512, .inr (.inl fc))), (b0, .inl (jb, 512, .inr (.inl fv)))]) hD hS hA [3, 4, 5] rfl
  refine va_calli (va_runV (As := [.long v1]) (rest := []) ⟨hx, hb, hml, hown, hts⟩ (c_msigns l dC dI g0 a0 b0 ja jb k n fc fv cl su th v1 H.size hI) (cwV 1 hts (pt_gV pw203 pw204 pw205 pw18 pw206) rfl rfl rfl (by decide +kernel) ⟨Nat.le_of_ble_eq_true rfl, Nat.le_of_ble_eq_true rfl⟩) ⟨fun a U g mk q => by obtain ⟨q0, q1, qP, qK, qD⟩ := q; exact ⟨q0, q1, qP, va_K.moved (u := U) (U := U.calling g mk a) (Vm.Alike.refl U.vm) qK, qD⟩, va_recv hK hP (ci := 1) (q0 := 3) rfl rfl, fun U hU hW => ⟨rfl, by rw [hU], by rw [hU]; exact hPc, va_K.moved hW.alike hKc, hDc.weaken (fun _ _ _ _ => trivial)⟩⟩ rfl rfl hl.1 rfl (lv_room (Nat.le_of_ble_eq_true rfl)) dL_law_312 ⟨by show _ ≤ 1039; omega, by show _ ≤ 10303; omega⟩) hS (fun q _ h => hFc q h) hFc (fun r2 u t H1 locs ht hvm hw2 hB hz1 hk1 hS => ?_)
  obtain ⟨⟨k3, n3, fc3, fv3, cl3, su3⟩, th3⟩ := u
  obtain ⟨hP1, hK1, hD1⟩ := hB
  rw [ht] at hP1
  obtain ⟨hP, hD⟩ := va_join (wr := [(h0, .inr (0, [.ref c0, .ref w0, .int (nI k2), .int (nI n2), .long (pt_mk n2), .int cl2, .int su2])), (c0, .inl (kc, 512, .inr (.inl fc2))), (w0, .inl (kw, 512, .inr (.inl fv2))), (o0, .inl (ko, 1, .inr (.inl fo2)))]) (w1 := [(g0, .inr (1, [.ref a0, .ref b0, .int (nI k3), .int (nI n3), .int cl3, .int su3, .int th3])), (a0, .inl (ja, 512, .inr (.inl fc3))), (b0, .inl (jb, 512, .inr (.inl fv3)))]) hP hD [3, 4, 5] [0, 1, 2, 6] rfl rfl (by decide) (by decide) hk1 hFc hP1 hD1
  generalize H1 = H at hP hS ⊢
  have hP := hP.sub (ws' := [(h0, .inr (0, [.ref c0, .ref w0, .int (nI k2), .int (nI n2), .long (pt_mk n2), .int cl2, .int su2])), (c0, .inl (kc, 512, .inr (.inl fc2))), (w0, .inl (kw, 512, .inr (.inl fv2))), (g0, .inr (1, [.ref a0, .ref b0, .int (nI k3), .int (nI n3), .int cl3, .int su3, .int th3])), (a0, .inl (ja, 512, .inr (.inl fc3))), (b0, .inl (jb, 512, .inr (.inl fv3))), (o0, .inl (ko, 1, .inr (.inl fo2)))]) [0, 1, 2, 4, 5, 6, 3] rfl
  have hD := hD.sub (ws' := [(h0, .inr (0, [.ref c0, .ref w0, .int (nI k2), .int (nI n2), .long (pt_mk n2), .int cl2, .int su2])), (c0, .inl (kc, 512, .inr (.inl fc2))), (w0, .inl (kw, 512, .inr (.inl fv2))), (g0, .inr (1, [.ref a0, .ref b0, .int (nI k3), .int (nI n3), .int cl3, .int su3, .int th3])), (a0, .inl (ja, 512, .inr (.inl fc3))), (b0, .inl (jb, 512, .inr (.inl fv3))), (o0, .inl (ko, 1, .inr (.inl fo2)))]) [0, 1, 2, 4, 5, 6, 3] (by decide) rfl
  have hP : va_P (dC, dI) vwCl [(h0, .inr (0, [.ref c0, .ref w0, .int (nI k2), .int (nI n2), .long (pt_mk n2), .int cl2, .int su2])), (c0, .inl (kc, 512, .inr (.inl fc2))), (w0, .inl (kw, 512, .inr (.inl fv2))), (g0, .inr (1, [.ref a0, .ref b0, .int (nI k3), .int (nI n3), .int cl3, .int su3, .int th3])), (a0, .inl (ja, 512, .inr (.inl fc3))), (b0, .inl (jb, 512, .inr (.inl fv3))), (o0, .inl (ko, 1, .inr (.inl fo2)))] H := hP
  have hD : va_D A [(h0, .inr (0, [.ref c0, .ref w0, .int (nI k2), .int (nI n2), .long (pt_mk n2), .int cl2, .int su2])), (c0, .inl (kc, 512, .inr (.inl fc2))), (w0, .inl (kw, 512, .inr (.inl fv2))), (g0, .inr (1, [.ref a0, .ref b0, .int (nI k3), .int (nI n3), .int cl3, .int su3, .int th3])), (a0, .inl (ja, 512, .inr (.inl fc3))), (b0, .inl (jb, 512, .inr (.inl fv3))), (o0, .inl (ko, 1, .inr (.inl fo2)))] := hD
  obtain ⟨q1, q2, q3⟩ := pt_Rsigns_det hI.1 hw hw2
  have hI2 : pt_I k2 n2 fc2 fv2 := pt_Rsigns_I hI hw
  have q2 : (k2, n2, fc2, fv2, cl2, su2) = (k3, n3, fc3, fv3, cl3, su3) := q2
  simp only [Prod.mk.injEq] at q2
  obtain ⟨e1, e2, e3, e4, e5, e6⟩ := q2
  subst e1 e2 e3 e4 e5 e6
  refine lv_istore (lv' := [(6, .int r2), (5, .int r1), (4, .int (nI (5 * j))), (3, .ref o0), (2, .ref g0), (1, .ref h0), (0, .ref b)]) hx hb dL_law_315 hl (by decide) rfl (fun ls hl => ?_)
  refine lv_aload_n hx hb dL_law_317 rfl (lv_at hl 4 rfl) ?_
  refine vp_callSi (W.runV (As := []) (rest := []) ⟨hx, hb, hml, hown, hts⟩ (c_thrown l dC dI g0 a0 b0 ja jb k2 n2 fc2 fv2 cl2 su2 th3) (cwV 0 hts (pt_gV pw175 pw176 pw177 pw18 pw178) rfl rfl rfl (by decide +kernel) ⟨Nat.le_of_ble_eq_true rfl, Nat.le_of_ble_eq_true rfl⟩) ⟨fun a U g mk q => by obtain ⟨q0, qP, qK⟩ := q; exact ⟨q0, qP, va_K.moved (u := U) (U := U.calling g mk a) (Vm.Alike.refl U.vm) qK⟩, va_recv hK hP (ci := 1) (q0 := 3) rfl rfl, fun U hU hW => ⟨rfl, by rw [hU]; exact (hP.sub (ws' := [(g0, .inr (1, [.ref a0, .ref b0, .int (nI k2), .int (nI n2), .int cl2, .int su2, .int th3])), (a0, .inl (ja, 512, .inr (.inl fc2))), (b0, .inl (jb, 512, .inr (.inl fv2)))]) [3, 4, 5] rfl), va_K.moved hW.alike (hK.sub (tys' := [(ja, .long), (jb, .long)]) [2, 3] rfl)⟩⟩ rfl rfl hl.1 rfl (lv_room (Nat.le_of_ble_eq_true rfl)) dL_law_318 ⟨by show _ ≤ 1039; omega, by show _ ≤ 10303; omega⟩) (fun r3 hw9 => ?_)
  have hw9 := hw9.symm
  subst hw9
  refine lv_iload hx hb dL_law_321 (lv_at hl 1 rfl) ?_
  refine lv_icmp_eq (tgt := 328) hx hb dL_law_323 (by decide) (fun h5 => ?_) (fun h5 => absurd q1.symm h5)
  refine lv_iload hx hb dL_law_328 (lv_at hl 1 rfl) ?_
  refine lv_if_ne (tgt := 345) hx hb dL_law_330 (by decide) (fun h6 => ?_) (fun h6 => ?_)
  · refine lv_goto (tgt := 883) hx hb dL_law_345 (by decide) ?_
    refine lv_iinc (v := nI (5 * (j + 1))) (lv' := [(4, .int (nI (5 * (j + 1)))), (6, .int r2), (5, .int r1), (3, .ref o0), (2, .ref g0), (1, .ref h0), (0, .ref b)]) hx hb dL_law_883 hl (k := 2) rfl (show nI (5 * j) + nI 5 = nI (5 * j + 5) from nI_add _ _) (by decide) rfl (fun ls hl => ?_)
    refine lv_goto (tgt := 23) hx hb dL_law_886 (by decide) ?_
    refine W.widen (k := 7 + (j + 1)) (n := 2063 + 6 * (j + 1)) (by omega) (by omega) ?_
    exact kk k2 n2 fc2 fv2 cl2 su2 th3 fo2 H _ ls hI2 hP hD hS (lv_sub hl [0, 3, 4, 5, 6] rfl)
  · refine lv_aload_n hx hb dL_law_333 rfl (lv_at hl 3 rfl) ?_
    refine lv_iconst (v := 0) hx hb dL_law_334 (by decide) ?_
    refine va_lald hx hb hK hP 6 4 rfl rfl (vp_in_nI (n := 0) (by decide) (by decide)) dL_law_335 ?_
    rw [show Int32.toNatClampNeg 0 = 0 by decide]
    refine lv_iload hx hb dL_law_336 (lv_at hl 0 rfl) ?_
    refine lv_i2l (v := r2.toInt64) hx hb dL_law_338 rfl ?_
    refine W.lcmp hx hb dL_law_339 ?_
    refine lv_if_eq (tgt := 345) hx hb dL_law_340 (by decide) (fun h7 => ?_) (fun h7 => absurd (pt_cmp0.mpr (q3 h6)) h7)
    refine lv_goto (tgt := 883) hx hb dL_law_345 (by decide) ?_
    refine lv_iinc (v := nI (5 * (j + 1))) (lv' := [(4, .int (nI (5 * (j + 1)))), (6, .int r2), (5, .int r1), (3, .ref o0), (2, .ref g0), (1, .ref h0), (0, .ref b)]) hx hb dL_law_883 hl (k := 2) rfl (show nI (5 * j) + nI 5 = nI (5 * j + 5) from nI_add _ _) (by decide) rfl (fun ls hl => ?_)
    refine lv_goto (tgt := 23) hx hb dL_law_886 (by decide) ?_
    refine W.widen (k := 7 + (j + 1)) (n := 2063 + 6 * (j + 1)) (by omega) (by omega) ?_
    exact kk k2 n2 fc2 fv2 cl2 su2 th3 fo2 H _ ls hI2 hP hD hS (lv_sub hl [0, 3, 4, 5, 6] rfl)
set_option maxHeartbeats 4000000 in
set_option maxRecDepth 100000 in
theorem lw_case_drop (l : Launch) (hl9 : l.stackTraces = false) {p : Program} {e : Env} {s : State} {m : MethodId} {below : List Frame} {meth : Method} {c : Code} {Q : State → Prop} {b L : Nat} {xs : Nat → Int32} (dC : Nat → ClassId) (dI : Nat → Nat → Nat) {A : Nat → Prop} (hAs : ∀ q : Nat, A q → s.heap.size ≤ q) (hA : ∀ q : Nat, s.heap.size ≤ q → A q) (hx : p.tables.exec = Jvm.exec) (hb : c.code = code) (hml : c.maxLocals = 8) (hown : s.vm.findClass RL = some m.cls) (hts : ∀ w ∈ Cond.initialized RL :: pt_all, w.before #[Value.ref b] s = true) (hX : va_X b L xs s s.heap) (hbl : b < s.heap.size) (hbA : ¬ A b) (h0X : pt_X s) (hext0 : pt_ext s s) {h0 c0 w0 g0 a0 b0 o0 : Nat} {kc kw ja jb ko : ClassId} (hK : va_K (dC, dI) vwCl [(kc, .long), (kw, .long), (ja, .long), (jb, .long), (ko, .long)] s) {k n : Nat} {fc fv : Nat → Int64} {cl su th : Int32} {fo : Nat → Int64} {H : Heap} {locs : List Loc} {ls : Array Slot} {j : Nat} (hL : L ≤ 2560) (hj : 5 * j + 5 ≤ L) (hI : pt_I k n fc fv) (hP : va_P (dC, dI) vwCl [(h0, .inr (0, [.ref c0, .ref w0, .int (nI k), .int (nI n), .long (pt_mk n), .int cl, .int su])), (c0, .inl (kc, 512, .inr (.inl fc))), (w0, .inl (kw, 512, .inr (.inl fv))), (g0, .inr (1, [.ref a0, .ref b0, .int (nI k), .int (nI n), .int cl, .int su, .int th])), (a0, .inl (ja, 512, .inr (.inl fc))), (b0, .inl (jb, 512, .inr (.inl fv))), (o0, .inl (ko, 1, .inr (.inl fo)))] H) (hD : va_D A [(h0, .inr (0, [.ref c0, .ref w0, .int (nI k), .int (nI n), .long (pt_mk n), .int cl, .int su])), (c0, .inl (kc, 512, .inr (.inl fc))), (w0, .inl (kw, 512, .inr (.inl fv))), (g0, .inr (1, [.ref a0, .ref b0, .int (nI k), .int (nI n), .int cl, .int su, .int th])), (a0, .inl (ja, 512, .inr (.inl fc))), (b0, .inl (jb, 512, .inr (.inl fv))), (o0, .inl (ko, 1, .inr (.inl fo)))]) (hS : va_S A s.heap H locs) (hl : lv_has ls 8 [(4, .int (nI (5 * j))), (3, .ref o0), (2, .ref g0), (1, .ref h0), (0, .ref b)]) (kk : ∀ (k n : Nat) (fc fv : Nat → Int64) (cl su th : Int32) (fo : Nat → Int64) (H : Heap) (locs : List Loc) (ls : Array Slot), pt_I k n fc fv → va_P (dC, dI) vwCl [(h0, .inr (0, [.ref c0, .ref w0, .int (nI k), .int (nI n), .long (pt_mk n), .int cl, .int su])), (c0, .inl (kc, 512, .inr (.inl fc))), (w0, .inl (kw, 512, .inr (.inl fv))), (g0, .inr (1, [.ref a0, .ref b0, .int (nI k), .int (nI n), .int cl, .int su, .int th])), (a0, .inl (ja, 512, .inr (.inl fc))), (b0, .inl (jb, 512, .inr (.inl fv))), (o0, .inl (ko, 1, .inr (.inl fo)))] H → va_D A [(h0, .inr (0, [.ref c0, .ref w0, .int (nI k), .int (nI n), .long (pt_mk n), .int cl, .int su])), (c0, .inl (kc, 512, .inr (.inl fc))), (w0, .inl (kw, 512, .inr (.inl fv))), (g0, .inr (1, [.ref a0, .ref b0, .int (nI k), .int (nI n), .int cl, .int su, .int th])), (a0, .inl (ja, 512, .inr (.inl fc))), (b0, .inl (jb, 512, .inr (.inl fv))), (o0, .inl (ko, 1, .inr (.inl fo)))] → va_S A s.heap H locs → lv_has ls 8 [(4, .int (nI (5 * (j + 1)))), (3, .ref o0), (2, .ref g0), (1, .ref h0), (0, .ref b)] → W p l e room_1 s m #[Value.ref b] below meth c H locs (7 + (j + 1)) (2063 + 6 * (j + 1)) Q (F0 m 23 ls [])) : W p l e room_1 s m #[Value.ref b] below meth c H locs (7 + j) (2063 + 6 * j) Q (F0 m 348 ls []) := by
  refine lv_aload_n hx hb dL_law_348 rfl (lv_at hl 3 rfl) ?_
  refine lv_aload_n hx hb dL_law_349 rfl (lv_at hl 4 rfl) ?_
  refine lv_iload hx hb dL_law_350 (lv_at hl 0 rfl) ?_
  refine lv_iconst (v := 1) hx hb dL_law_352 (by decide) ?_
  refine lv_iadd hx hb dL_law_353 ?_
  rw [show nI (5 * j) + 1 = nI (5 * j + 1) from nI_add (5 * j) 1]
  refine va_sld hx hb hX hbl hbA hS (vp_in_nI (by omega) (by omega)) dL_law_354 ?_
  rw [nI_clamp (by omega)]
  have hPc := hP.sub (ws' := [(h0, .inr (0, [.ref c0, .ref w0, .int (nI k), .int (nI n), .long (pt_mk n), .int cl, .int su])), (c0, .inl (kc, 512, .inr (.inl fc))), (w0, .inl (kw, 512, .inr (.inl fv)))]) [0, 1, 2] rfl
  have hDc := hD.sub (ws' := [(h0, .inr (0, [.ref c0, .ref w0, .int (nI k), .int (nI n), .long (pt_mk n), .int cl, .int su])), (c0, .inl (kc, 512, .inr (.inl fc))), (w0, .inl (kw, 512, .inr (.inl fv)))]) [0, 1, 2] (by decide) rfl
  have hKc := hK.sub (tys' := [(kc, .long), (kw, .long)]) [0, 1] rfl
  have hFc := va_free (wc := [(h0, .inr (0, [.ref c0, .ref w0, .int (nI k), .int (nI n), .long (pt_mk n), .int cl, .int su])), (c0, .inl (kc, 512, .inr (.inl fc))), (w0, .inl (kw, 512, .inr (.inl fv)))]) hD hS hA [0, 1, 2] rfl
  refine va_calli (pt_runSW (n := 2) (hh := [(0, 5, 8, 28)]) (maxL := 3) (As := [.ref h0, .int (xs (5 * j + 1))]) (rest := []) ⟨hx, hb, hml, hown, hts⟩ (c_Ldrop l hl9 dC dI s h0X h0 c0 w0 kc kw k n fc fv cl su (xs (5 * j + 1)) H.size hI.1) (pt_gW pw96 pw97 pw16 pw98) rfl rfl rfl (by decide +kernel) ⟨Nat.le_of_ble_eq_true rfl, Nat.le_of_ble_eq_true rfl⟩ ⟨fun a U g mk q => by obtain ⟨q0, q1, qP, qK, qD, qX⟩ := q; exact ⟨q0, q1, qP, va_K.moved (u := U) (U := U.calling g mk a) (Vm.Alike.refl U.vm) qK, qD, qX⟩, fun U hU hW => ⟨rfl, by rw [hU], by rw [hU]; exact hPc, va_K.moved hW.alike hKc, hDc.weaken (fun _ _ _ h => hAs _ h), hext0.on2 hS hAs hU hW⟩⟩ rfl rfl hl.1 rfl (lv_room (Nat.le_of_ble_eq_true rfl)) dL_law_355 ⟨by show _ ≤ 1039; omega, by show _ ≤ 10303; omega⟩) hS (fun q _ h => hFc q h) hFc (fun r1 u t H1 locs ht hvm hw hB hz1 hk1 hS => ?_)
  obtain ⟨k2, n2, fc2, fv2, cl2, su2⟩ := u
  obtain ⟨hP1, hK1, hD1⟩ := hB
  rw [ht] at hP1
  obtain ⟨hP, hD⟩ := va_join (wr := [(g0, .inr (1, [.ref a0, .ref b0, .int (nI k), .int (nI n), .int cl, .int su, .int th])), (a0, .inl (ja, 512, .inr (.inl fc))), (b0, .inl (jb, 512, .inr (.inl fv))), (o0, .inl (ko, 1, .inr (.inl fo)))]) (w1 := [(h0, .inr (0, [.ref c0, .ref w0, .int (nI k2), .int (nI n2), .long (pt_mk n2), .int cl2, .int su2])), (c0, .inl (kc, 512, .inr (.inl fc2))), (w0, .inl (kw, 512, .inr (.inl fv2)))]) hP hD [0, 1, 2] [3, 4, 5, 6] rfl rfl (by decide) (by decide) hk1 hFc hP1 hD1
  generalize H1 = H at hP hS ⊢
  have hP := hP.sub (ws' := [(h0, .inr (0, [.ref c0, .ref w0, .int (nI k2), .int (nI n2), .long (pt_mk n2), .int cl2, .int su2])), (c0, .inl (kc, 512, .inr (.inl fc2))), (w0, .inl (kw, 512, .inr (.inl fv2))), (g0, .inr (1, [.ref a0, .ref b0, .int (nI k), .int (nI n), .int cl, .int su, .int th])), (a0, .inl (ja, 512, .inr (.inl fc))), (b0, .inl (jb, 512, .inr (.inl fv))), (o0, .inl (ko, 1, .inr (.inl fo)))]) [4, 5, 6, 0, 1, 2, 3] rfl
  have hD := hD.sub (ws' := [(h0, .inr (0, [.ref c0, .ref w0, .int (nI k2), .int (nI n2), .long (pt_mk n2), .int cl2, .int su2])), (c0, .inl (kc, 512, .inr (.inl fc2))), (w0, .inl (kw, 512, .inr (.inl fv2))), (g0, .inr (1, [.ref a0, .ref b0, .int (nI k), .int (nI n), .int cl, .int su, .int th])), (a0, .inl (ja, 512, .inr (.inl fc))), (b0, .inl (jb, 512, .inr (.inl fv))), (o0, .inl (ko, 1, .inr (.inl fo)))]) [4, 5, 6, 0, 1, 2, 3] (by decide) rfl
  have hP : va_P (dC, dI) vwCl [(h0, .inr (0, [.ref c0, .ref w0, .int (nI k2), .int (nI n2), .long (pt_mk n2), .int cl2, .int su2])), (c0, .inl (kc, 512, .inr (.inl fc2))), (w0, .inl (kw, 512, .inr (.inl fv2))), (g0, .inr (1, [.ref a0, .ref b0, .int (nI k), .int (nI n), .int cl, .int su, .int th])), (a0, .inl (ja, 512, .inr (.inl fc))), (b0, .inl (jb, 512, .inr (.inl fv))), (o0, .inl (ko, 1, .inr (.inl fo)))] H := hP
  have hD : va_D A [(h0, .inr (0, [.ref c0, .ref w0, .int (nI k2), .int (nI n2), .long (pt_mk n2), .int cl2, .int su2])), (c0, .inl (kc, 512, .inr (.inl fc2))), (w0, .inl (kw, 512, .inr (.inl fv2))), (g0, .inr (1, [.ref a0, .ref b0, .int (nI k), .int (nI n), .int cl, .int su, .int th])), (a0, .inl (ja, 512, .inr (.inl fc))), (b0, .inl (jb, 512, .inr (.inl fv))), (o0, .inl (ko, 1, .inr (.inl fo)))] := hD
  refine lv_istore (lv' := [(5, .int r1), (4, .int (nI (5 * j))), (3, .ref o0), (2, .ref g0), (1, .ref h0), (0, .ref b)]) hx hb dL_law_358 hl (by decide) rfl (fun ls hl => ?_)
  refine lv_aload_n hx hb dL_law_360 rfl (lv_at hl 3 rfl) ?_
  refine lv_aload_n hx hb dL_law_361 rfl (lv_at hl 5 rfl) ?_
  refine lv_iload hx hb dL_law_362 (lv_at hl 1 rfl) ?_
  refine lv_iconst (v := 1) hx hb dL_law_364 (by decide) ?_
  refine lv_iadd hx hb dL_law_365 ?_
  rw [show nI (5 * j) + 1 = nI (5 * j + 1) from nI_add (5 * j) 1]
  refine va_sld hx hb hX hbl hbA hS (vp_in_nI (by omega) (by omega)) dL_law_366 ?_
  rw [nI_clamp (by omega)]
  have hPc := hP.sub (ws' := [(g0, .inr (1, [.ref a0, .ref b0, .int (nI k), .int (nI n), .int cl, .int su, .int th])), (a0, .inl (ja, 512, .inr (.inl fc))), (b0, .inl (jb, 512, .inr (.inl fv)))]) [3, 4, 5] rfl
  have hDc := hD.sub (ws' := [(g0, .inr (1, [.ref a0, .ref b0, .int (nI k), .int (nI n), .int cl, .int su, .int th])), (a0, .inl (ja, 512, .inr (.inl fc))), (b0, .inl (jb, 512, .inr (.inl fv)))]) [3, 4, 5] (by decide) rfl
  have hKc := hK.sub (tys' := [(ja, .long), (jb, .long)]) [2, 3] rfl
  have hFc := va_free (wc := [(g0, .inr (1, [.ref a0, .ref b0, .int (nI k), .int (nI n), .int cl, .int su, .int th])), (a0, .inl (ja, 512, .inr (.inl fc))), (b0, .inl (jb, 512, .inr (.inl fv)))]) hD hS hA [3, 4, 5] rfl
  refine va_callv (va_runV (As := [.int (xs (5 * j + 1))]) (rest := []) ⟨hx, hb, hml, hown, hts⟩ (c_mdrop l dC dI g0 a0 b0 ja jb k n fc fv cl su th (xs (5 * j + 1)) H.size hI.1) (cwV 1 hts (pt_gV pw210 pw211 pw212 pw18 pw213) rfl rfl rfl (by decide +kernel) ⟨Nat.le_of_ble_eq_true rfl, Nat.le_of_ble_eq_true rfl⟩) ⟨fun a U g mk q => by obtain ⟨q0, q1, qP, qK, qD⟩ := q; exact ⟨q0, q1, qP, va_K.moved (u := U) (U := U.calling g mk a) (Vm.Alike.refl U.vm) qK, qD⟩, va_recv hK hP (ci := 1) (q0 := 3) rfl rfl, fun U hU hW => ⟨rfl, by rw [hU], by rw [hU]; exact hPc, va_K.moved hW.alike hKc, hDc.weaken (fun _ _ _ _ => trivial)⟩⟩ rfl rfl hl.1 rfl (lv_room (Nat.le_of_ble_eq_true rfl)) dL_law_367 ⟨by show _ ≤ 1039; omega, by show _ ≤ 10303; omega⟩) hS (fun q _ h => hFc q h) hFc (fun  u t H1 locs ht hvm hw2 hB hz1 hk1 hS => ?_)
  obtain ⟨⟨k3, n3, fc3, fv3, cl3, su3⟩, th3⟩ := u
  obtain ⟨hP1, hK1, hD1⟩ := hB
  rw [ht] at hP1
  obtain ⟨hP, hD⟩ := va_join (wr := [(h0, .inr (0, [.ref c0, .ref w0, .int (nI k2), .int (nI n2), .long (pt_mk n2), .int cl2, .int su2])), (c0, .inl (kc, 512, .inr (.inl fc2))), (w0, .inl (kw, 512, .inr (.inl fv2))), (o0, .inl (ko, 1, .inr (.inl fo)))]) (w1 := [(g0, .inr (1, [.ref a0, .ref b0, .int (nI k3), .int (nI n3), .int cl3, .int su3, .int th3])), (a0, .inl (ja, 512, .inr (.inl fc3))), (b0, .inl (jb, 512, .inr (.inl fv3)))]) hP hD [3, 4, 5] [0, 1, 2, 6] rfl rfl (by decide) (by decide) hk1 hFc hP1 hD1
  generalize H1 = H at hP hS ⊢
  have hP := hP.sub (ws' := [(h0, .inr (0, [.ref c0, .ref w0, .int (nI k2), .int (nI n2), .long (pt_mk n2), .int cl2, .int su2])), (c0, .inl (kc, 512, .inr (.inl fc2))), (w0, .inl (kw, 512, .inr (.inl fv2))), (g0, .inr (1, [.ref a0, .ref b0, .int (nI k3), .int (nI n3), .int cl3, .int su3, .int th3])), (a0, .inl (ja, 512, .inr (.inl fc3))), (b0, .inl (jb, 512, .inr (.inl fv3))), (o0, .inl (ko, 1, .inr (.inl fo)))]) [0, 1, 2, 4, 5, 6, 3] rfl
  have hD := hD.sub (ws' := [(h0, .inr (0, [.ref c0, .ref w0, .int (nI k2), .int (nI n2), .long (pt_mk n2), .int cl2, .int su2])), (c0, .inl (kc, 512, .inr (.inl fc2))), (w0, .inl (kw, 512, .inr (.inl fv2))), (g0, .inr (1, [.ref a0, .ref b0, .int (nI k3), .int (nI n3), .int cl3, .int su3, .int th3])), (a0, .inl (ja, 512, .inr (.inl fc3))), (b0, .inl (jb, 512, .inr (.inl fv3))), (o0, .inl (ko, 1, .inr (.inl fo)))]) [0, 1, 2, 4, 5, 6, 3] (by decide) rfl
  have hP : va_P (dC, dI) vwCl [(h0, .inr (0, [.ref c0, .ref w0, .int (nI k2), .int (nI n2), .long (pt_mk n2), .int cl2, .int su2])), (c0, .inl (kc, 512, .inr (.inl fc2))), (w0, .inl (kw, 512, .inr (.inl fv2))), (g0, .inr (1, [.ref a0, .ref b0, .int (nI k3), .int (nI n3), .int cl3, .int su3, .int th3])), (a0, .inl (ja, 512, .inr (.inl fc3))), (b0, .inl (jb, 512, .inr (.inl fv3))), (o0, .inl (ko, 1, .inr (.inl fo)))] H := hP
  have hD : va_D A [(h0, .inr (0, [.ref c0, .ref w0, .int (nI k2), .int (nI n2), .long (pt_mk n2), .int cl2, .int su2])), (c0, .inl (kc, 512, .inr (.inl fc2))), (w0, .inl (kw, 512, .inr (.inl fv2))), (g0, .inr (1, [.ref a0, .ref b0, .int (nI k3), .int (nI n3), .int cl3, .int su3, .int th3])), (a0, .inl (ja, 512, .inr (.inl fc3))), (b0, .inl (jb, 512, .inr (.inl fv3))), (o0, .inl (ko, 1, .inr (.inl fo)))] := hD
  obtain ⟨q1, q2⟩ := pt_Rdrop_det hI.1 hw hw2
  have hI2 : pt_I k2 n2 fc2 fv2 := pt_Rdrop_I hI hw
  have q2 : (k2, n2, fc2, fv2, cl2, su2) = (k3, n3, fc3, fv3, cl3, su3) := q2
  simp only [Prod.mk.injEq] at q2
  obtain ⟨e1, e2, e3, e4, e5, e6⟩ := q2
  subst e1 e2 e3 e4 e5 e6
  refine lv_aload_n hx hb dL_law_370 rfl (lv_at hl 3 rfl) ?_
  refine vp_callSi (W.runV (As := []) (rest := []) ⟨hx, hb, hml, hown, hts⟩ (c_thrown l dC dI g0 a0 b0 ja jb k2 n2 fc2 fv2 cl2 su2 th3) (cwV 0 hts (pt_gV pw175 pw176 pw177 pw18 pw178) rfl rfl rfl (by decide +kernel) ⟨Nat.le_of_ble_eq_true rfl, Nat.le_of_ble_eq_true rfl⟩) ⟨fun a U g mk q => by obtain ⟨q0, qP, qK⟩ := q; exact ⟨q0, qP, va_K.moved (u := U) (U := U.calling g mk a) (Vm.Alike.refl U.vm) qK⟩, va_recv hK hP (ci := 1) (q0 := 3) rfl rfl, fun U hU hW => ⟨rfl, by rw [hU]; exact (hP.sub (ws' := [(g0, .inr (1, [.ref a0, .ref b0, .int (nI k2), .int (nI n2), .int cl2, .int su2, .int th3])), (a0, .inl (ja, 512, .inr (.inl fc2))), (b0, .inl (jb, 512, .inr (.inl fv2)))]) [3, 4, 5] rfl), va_K.moved hW.alike (hK.sub (tys' := [(ja, .long), (jb, .long)]) [2, 3] rfl)⟩⟩ rfl rfl hl.1 rfl (lv_room (Nat.le_of_ble_eq_true rfl)) dL_law_371 ⟨by show _ ≤ 1039; omega, by show _ ≤ 10303; omega⟩) (fun r2 hw9 => ?_)
  have hw9 := hw9.symm
  subst hw9
  refine lv_iload hx hb dL_law_374 (lv_at hl 0 rfl) ?_
  refine lv_icmp_eq (tgt := 381) hx hb dL_law_376 (by decide) (fun h5 => ?_) (fun h5 => absurd q1.symm h5)
  refine lv_goto (tgt := 883) hx hb dL_law_381 (by decide) ?_
  refine lv_iinc (v := nI (5 * (j + 1))) (lv' := [(4, .int (nI (5 * (j + 1)))), (5, .int r1), (3, .ref o0), (2, .ref g0), (1, .ref h0), (0, .ref b)]) hx hb dL_law_883 hl (k := 1) rfl (show nI (5 * j) + nI 5 = nI (5 * j + 5) from nI_add _ _) (by decide) rfl (fun ls hl => ?_)
  refine lv_goto (tgt := 23) hx hb dL_law_886 (by decide) ?_
  refine W.widen (k := 7 + (j + 1)) (n := 2063 + 6 * (j + 1)) (by omega) (by omega) ?_
  exact kk k2 n2 fc2 fv2 cl2 su2 th3 fo H _ ls hI2 hP hD hS (lv_sub hl [0, 2, 3, 4, 5] rfl)
set_option maxHeartbeats 4000000 in
set_option maxRecDepth 100000 in
theorem lw_case_decode (l : Launch) (hl9 : l.stackTraces = false) {p : Program} {e : Env} {s : State} {m : MethodId} {below : List Frame} {meth : Method} {c : Code} {Q : State → Prop} {b L : Nat} {xs : Nat → Int32} (dC : Nat → ClassId) (dI : Nat → Nat → Nat) {A : Nat → Prop} (hAs : ∀ q : Nat, A q → s.heap.size ≤ q) (hA : ∀ q : Nat, s.heap.size ≤ q → A q) (hx : p.tables.exec = Jvm.exec) (hb : c.code = code) (hml : c.maxLocals = 8) (hown : s.vm.findClass RL = some m.cls) (hts : ∀ w ∈ Cond.initialized RL :: pt_all, w.before #[Value.ref b] s = true) (hX : va_X b L xs s s.heap) (hbl : b < s.heap.size) (hbA : ¬ A b) (h0X : pt_X s) (hext0 : pt_ext s s) {h0 c0 w0 g0 a0 b0 o0 : Nat} {kc kw ja jb ko : ClassId} (hK : va_K (dC, dI) vwCl [(kc, .long), (kw, .long), (ja, .long), (jb, .long), (ko, .long)] s) {k n : Nat} {fc fv : Nat → Int64} {cl su th : Int32} {fo : Nat → Int64} {H : Heap} {locs : List Loc} {ls : Array Slot} {j : Nat} (hL : L ≤ 2560) (hj : 5 * j + 5 ≤ L) (hI : pt_I k n fc fv) (hP : va_P (dC, dI) vwCl [(h0, .inr (0, [.ref c0, .ref w0, .int (nI k), .int (nI n), .long (pt_mk n), .int cl, .int su])), (c0, .inl (kc, 512, .inr (.inl fc))), (w0, .inl (kw, 512, .inr (.inl fv))), (g0, .inr (1, [.ref a0, .ref b0, .int (nI k), .int (nI n), .int cl, .int su, .int th])), (a0, .inl (ja, 512, .inr (.inl fc))), (b0, .inl (jb, 512, .inr (.inl fv))), (o0, .inl (ko, 1, .inr (.inl fo)))] H) (hD : va_D A [(h0, .inr (0, [.ref c0, .ref w0, .int (nI k), .int (nI n), .long (pt_mk n), .int cl, .int su])), (c0, .inl (kc, 512, .inr (.inl fc))), (w0, .inl (kw, 512, .inr (.inl fv))), (g0, .inr (1, [.ref a0, .ref b0, .int (nI k), .int (nI n), .int cl, .int su, .int th])), (a0, .inl (ja, 512, .inr (.inl fc))), (b0, .inl (jb, 512, .inr (.inl fv))), (o0, .inl (ko, 1, .inr (.inl fo)))]) (hS : va_S A s.heap H locs) (hl : lv_has ls 8 [(4, .int (nI (5 * j))), (3, .ref o0), (2, .ref g0), (1, .ref h0), (0, .ref b)]) (kk : ∀ (k n : Nat) (fc fv : Nat → Int64) (cl su th : Int32) (fo : Nat → Int64) (H : Heap) (locs : List Loc) (ls : Array Slot), pt_I k n fc fv → va_P (dC, dI) vwCl [(h0, .inr (0, [.ref c0, .ref w0, .int (nI k), .int (nI n), .long (pt_mk n), .int cl, .int su])), (c0, .inl (kc, 512, .inr (.inl fc))), (w0, .inl (kw, 512, .inr (.inl fv))), (g0, .inr (1, [.ref a0, .ref b0, .int (nI k), .int (nI n), .int cl, .int su, .int th])), (a0, .inl (ja, 512, .inr (.inl fc))), (b0, .inl (jb, 512, .inr (.inl fv))), (o0, .inl (ko, 1, .inr (.inl fo)))] H → va_D A [(h0, .inr (0, [.ref c0, .ref w0, .int (nI k), .int (nI n), .long (pt_mk n), .int cl, .int su])), (c0, .inl (kc, 512, .inr (.inl fc))), (w0, .inl (kw, 512, .inr (.inl fv))), (g0, .inr (1, [.ref a0, .ref b0, .int (nI k), .int (nI n), .int cl, .int su, .int th])), (a0, .inl (ja, 512, .inr (.inl fc))), (b0, .inl (jb, 512, .inr (.inl fv))), (o0, .inl (ko, 1, .inr (.inl fo)))] → va_S A s.heap H locs → lv_has ls 8 [(4, .int (nI (5 * (j + 1)))), (3, .ref o0), (2, .ref g0), (1, .ref h0), (0, .ref b)] → W p l e room_1 s m #[Value.ref b] below meth c H locs (7 + (j + 1)) (2063 + 6 * (j + 1)) Q (F0 m 23 ls [])) : W p l e room_1 s m #[Value.ref b] below meth c H locs (7 + j) (2063 + 6 * j) Q (F0 m 384 ls []) := by
  refine lv_aload_n hx hb dL_law_384 rfl (lv_at hl 3 rfl) ?_
  refine lv_aload_n hx hb dL_law_385 rfl (lv_at hl 4 rfl) ?_
  refine lv_iload hx hb dL_law_386 (lv_at hl 0 rfl) ?_
  refine lv_iconst (v := 1) hx hb dL_law_388 (by decide) ?_
  refine lv_iadd hx hb dL_law_389 ?_
  rw [show nI (5 * j) + 1 = nI (5 * j + 1) from nI_add (5 * j) 1]
  refine va_sld hx hb hX hbl hbA hS (vp_in_nI (by omega) (by omega)) dL_law_390 ?_
  rw [nI_clamp (by omega)]
  refine lv_i2l (v := (xs (5 * j + 1)).toInt64) hx hb dL_law_391 rfl ?_
  refine lv_bipush (v := 32) hx hb dL_law_392 (by decide) ?_
  refine lv_lshl (v := pt_shl ((xs (5 * j + 1)).toInt64) 32) hx hb dL_law_394 rfl ?_
  refine lv_aload_n hx hb dL_law_395 rfl (lv_at hl 4 rfl) ?_
  refine lv_iload hx hb dL_law_396 (lv_at hl 0 rfl) ?_
  refine lv_iconst (v := 2) hx hb dL_law_398 (by decide) ?_
  refine lv_iadd hx hb dL_law_399 ?_
  rw [show nI (5 * j) + 2 = nI (5 * j + 2) from nI_add (5 * j) 2]
  refine va_sld hx hb hX hbl hbA hS (vp_in_nI (by omega) (by omega)) dL_law_400 ?_
  rw [nI_clamp (by omega)]
  refine lv_i2l (v := (xs (5 * j + 2)).toInt64) hx hb dL_law_401 rfl ?_
  refine lv_ldc2 (v := 4294967295) hx hb hown (hts _ (List.mem_cons_of_mem _ pw250)) dL_law_402 ?_
  refine lv_land hx hb dL_law_405 ?_
  refine lv_lor hx hb dL_law_406 ?_
  refine lv_topl (fun v1 ev1 => ?_)
  refine vp_callSi (W.runV (As := [.long v1]) (rest := []) ⟨hx, hb, hml, hown, hts⟩ (c_decode l dC dI h0 c0 w0 kc kw k n fc fv cl su v1 hI) (cwV 1 hts (pt_gV pw47 pw48 pw49 pw17 pw50) rfl rfl rfl (by decide +kernel) ⟨Nat.le_of_ble_eq_true rfl, Nat.le_of_ble_eq_true rfl⟩) ⟨fun a U g mk q => by obtain ⟨q0, qP, qK⟩ := q; exact ⟨q0, qP, va_K.moved (u := U) (U := U.calling g mk a) (Vm.Alike.refl U.vm) qK⟩, va_recv hK hP (ci := 0) (q0 := 0) rfl rfl, fun U hU hW => ⟨rfl, by rw [hU]; exact (hP.sub (ws' := [(h0, .inr (0, [.ref c0, .ref w0, .int (nI k), .int (nI n), .long (pt_mk n), .int cl, .int su])), (c0, .inl (kc, 512, .inr (.inl fc))), (w0, .inl (kw, 512, .inr (.inl fv)))]) [0, 1, 2] rfl), va_K.moved hW.alike (hK.sub (tys' := [(kc, .long), (kw, .long)]) [0, 1] rfl)⟩⟩ rfl rfl hl.1 rfl (lv_room (Nat.le_of_ble_eq_true rfl)) dL_law_407 ⟨by show _ ≤ 1039; omega, by show _ ≤ 10303; omega⟩) (fun r1 hw => ?_)
  refine lv_aload_n hx hb dL_law_410 rfl (lv_at hl 2 rfl) ?_
  refine lv_aload_n hx hb dL_law_411 rfl (lv_at hl 4 rfl) ?_
  refine lv_iload hx hb dL_law_412 (lv_at hl 0 rfl) ?_
  refine lv_iconst (v := 1) hx hb dL_law_414 (by decide) ?_
  refine lv_iadd hx hb dL_law_415 ?_
  rw [show nI (5 * j) + 1 = nI (5 * j + 1) from nI_add (5 * j) 1]
  refine va_sld hx hb hX hbl hbA hS (vp_in_nI (by omega) (by omega)) dL_law_416 ?_
  rw [nI_clamp (by omega)]
  refine lv_i2l (v := (xs (5 * j + 1)).toInt64) hx hb dL_law_417 rfl ?_
  refine lv_bipush (v := 32) hx hb dL_law_418 (by decide) ?_
  refine lv_lshl (v := pt_shl ((xs (5 * j + 1)).toInt64) 32) hx hb dL_law_420 rfl ?_
  refine lv_aload_n hx hb dL_law_421 rfl (lv_at hl 4 rfl) ?_
  refine lv_iload hx hb dL_law_422 (lv_at hl 0 rfl) ?_
  refine lv_iconst (v := 2) hx hb dL_law_424 (by decide) ?_
  refine lv_iadd hx hb dL_law_425 ?_
  rw [show nI (5 * j) + 2 = nI (5 * j + 2) from nI_add (5 * j) 2]
  refine va_sld hx hb hX hbl hbA hS (vp_in_nI (by omega) (by omega)) dL_law_426 ?_
  rw [nI_clamp (by omega)]
  refine lv_i2l (v := (xs (5 * j + 2)).toInt64) hx hb dL_law_427 rfl ?_
  refine lv_ldc2 (v := 4294967295) hx hb hown (hts _ (List.mem_cons_of_mem _ pw250)) dL_law_428 ?_
  refine lv_land hx hb dL_law_431 ?_
  refine lv_lor hx hb dL_law_432 ?_
  rw [← ev1]
  have hPc := hP.sub (ws' := [(g0, .inr (1, [.ref a0, .ref b0, .int (nI k), .int (nI n), .int cl, .int su, .int th])), (a0, .inl (ja, 512, .inr (.inl fc))), (b0, .inl (jb, 512, .inr (.inl fv)))]) [3, 4, 5] rfl
  have hDc := hD.sub (ws' := [(g0, .inr (1, [.ref a0, .ref b0, .int (nI k), .int (nI n), .int cl, .int su, .int th])), (a0, .inl (ja, 512, .inr (.inl fc))), (b0, .inl (jb, 512, .inr (.inl fv)))]) [3, 4, 5] (by decide) rfl
  have hKc := hK.sub (tys' := [(ja, .long), (jb, .long)]) [2, 3] rfl
  have hFc := va_free (wc := [(g0, .inr (1, [.ref a0, .ref b0, .int (nI k), .int (nI n), .int cl, .int su, .int th])), (a0, .inl (ja, 512, .inr (.inl fc))), (b0, .inl (jb, 512, .inr (.inl fv)))]) hD hS hA [3, 4, 5] rfl
  refine va_calli (va_runV (As := [.long v1]) (rest := [.int r1]) ⟨hx, hb, hml, hown, hts⟩ (c_mdecode l dC dI g0 a0 b0 ja jb k n fc fv cl su th v1 H.size hI) (cwV 1 hts (pt_gV pw214 pw215 pw216 pw18 pw217) rfl rfl rfl (by decide +kernel) ⟨Nat.le_of_ble_eq_true rfl, Nat.le_of_ble_eq_true rfl⟩) ⟨fun a U g mk q => by obtain ⟨q0, q1, qP, qK, qD⟩ := q; exact ⟨q0, q1, qP, va_K.moved (u := U) (U := U.calling g mk a) (Vm.Alike.refl U.vm) qK, qD⟩, va_recv hK hP (ci := 1) (q0 := 3) rfl rfl, fun U hU hW => ⟨rfl, by rw [hU], by rw [hU]; exact hPc, va_K.moved hW.alike hKc, hDc.weaken (fun _ _ _ _ => trivial)⟩⟩ rfl rfl hl.1 rfl (lv_room (Nat.le_of_ble_eq_true rfl)) dL_law_433 ⟨by show _ ≤ 1039; omega, by show _ ≤ 10303; omega⟩) hS (fun q _ h => hFc q h) hFc (fun r2 u t H1 locs ht hvm hw2 hB hz1 hk1 hS => ?_)
  obtain ⟨hP1, hK1, hD1⟩ := hB
  rw [ht] at hP1
  obtain ⟨hP, hD⟩ := va_join (wr := [(h0, .inr (0, [.ref c0, .ref w0, .int (nI k), .int (nI n), .long (pt_mk n), .int cl, .int su])), (c0, .inl (kc, 512, .inr (.inl fc))), (w0, .inl (kw, 512, .inr (.inl fv))), (o0, .inl (ko, 1, .inr (.inl fo)))]) (w1 := [(g0, .inr (1, [.ref a0, .ref b0, .int (nI k), .int (nI n), .int cl, .int su, .int 0])), (a0, .inl (ja, 512, .inr (.inl fc))), (b0, .inl (jb, 512, .inr (.inl fv)))]) hP hD [3, 4, 5] [0, 1, 2, 6] rfl rfl (by decide) (by decide) hk1 hFc hP1 hD1
  generalize H1 = H at hP hS ⊢
  have hP := hP.sub (ws' := [(h0, .inr (0, [.ref c0, .ref w0, .int (nI k), .int (nI n), .long (pt_mk n), .int cl, .int su])), (c0, .inl (kc, 512, .inr (.inl fc))), (w0, .inl (kw, 512, .inr (.inl fv))), (g0, .inr (1, [.ref a0, .ref b0, .int (nI k), .int (nI n), .int cl, .int su, .int 0])), (a0, .inl (ja, 512, .inr (.inl fc))), (b0, .inl (jb, 512, .inr (.inl fv))), (o0, .inl (ko, 1, .inr (.inl fo)))]) [0, 1, 2, 4, 5, 6, 3] rfl
  have hD := hD.sub (ws' := [(h0, .inr (0, [.ref c0, .ref w0, .int (nI k), .int (nI n), .long (pt_mk n), .int cl, .int su])), (c0, .inl (kc, 512, .inr (.inl fc))), (w0, .inl (kw, 512, .inr (.inl fv))), (g0, .inr (1, [.ref a0, .ref b0, .int (nI k), .int (nI n), .int cl, .int su, .int 0])), (a0, .inl (ja, 512, .inr (.inl fc))), (b0, .inl (jb, 512, .inr (.inl fv))), (o0, .inl (ko, 1, .inr (.inl fo)))]) [0, 1, 2, 4, 5, 6, 3] (by decide) rfl
  have hP : va_P (dC, dI) vwCl [(h0, .inr (0, [.ref c0, .ref w0, .int (nI k), .int (nI n), .long (pt_mk n), .int cl, .int su])), (c0, .inl (kc, 512, .inr (.inl fc))), (w0, .inl (kw, 512, .inr (.inl fv))), (g0, .inr (1, [.ref a0, .ref b0, .int (nI k), .int (nI n), .int cl, .int su, .int 0])), (a0, .inl (ja, 512, .inr (.inl fc))), (b0, .inl (jb, 512, .inr (.inl fv))), (o0, .inl (ko, 1, .inr (.inl fo)))] H := hP
  have hD : va_D A [(h0, .inr (0, [.ref c0, .ref w0, .int (nI k), .int (nI n), .long (pt_mk n), .int cl, .int su])), (c0, .inl (kc, 512, .inr (.inl fc))), (w0, .inl (kw, 512, .inr (.inl fv))), (g0, .inr (1, [.ref a0, .ref b0, .int (nI k), .int (nI n), .int cl, .int su, .int 0])), (a0, .inl (ja, 512, .inr (.inl fc))), (b0, .inl (jb, 512, .inr (.inl fv))), (o0, .inl (ko, 1, .inr (.inl fo)))] := hD
  refine lv_icmp_eq (tgt := 883) hx hb dL_law_436 (by decide) (fun h5 => ?_) (fun h5 => absurd (pt_F_unique (fun _ _ => Iff.rfl) hw hw2) h5)
  refine lv_iinc (v := nI (5 * (j + 1))) (lv' := [(4, .int (nI (5 * (j + 1)))), (3, .ref o0), (2, .ref g0), (1, .ref h0), (0, .ref b)]) hx hb dL_law_883 hl (k := 0) rfl (show nI (5 * j) + nI 5 = nI (5 * j + 5) from nI_add _ _) (by decide) rfl (fun ls hl => ?_)
  refine lv_goto (tgt := 23) hx hb dL_law_886 (by decide) ?_
  refine W.widen (k := 7 + (j + 1)) (n := 2063 + 6 * (j + 1)) (by omega) (by omega) ?_
  exact kk k n fc fv cl su 0 fo H _ ls hI hP hD hS (lv_sub hl [0, 1, 2, 3, 4] rfl)
