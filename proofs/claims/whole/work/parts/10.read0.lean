set_option maxHeartbeats 4000000 in
set_option maxRecDepth 100000 in
/-- Long.bitCount -/
theorem c_bitCount (l : Launch) (dC : Nat → ClassId) (dI : Nat → Nat → Nat) (a : Int64)  : Met l yJ_bitCount wsJ_bitCount ({ frames := 0, cells := 0, slots := 0, locals := 0 }) (va_Pc [.long a] (fun U => va_P (dC, dI) vwCl [] U.heap ∧ va_K (dC, dI) vwCl [] U)) (vp_Si (fun r : Int32 => r = pt_bits a)) 0 0 (fun _ => False) := by
  refine va_MetF (cc := cJ_bitCount) (maxL := 2) (ret := (some .int)) (by decide) rfl ?_
  intro p e s m args below meth c s₁ B hml hv
  obtain ⟨ha, hP, hK⟩ := hv
  have hx := B.exec
  have hb := B.bytes
  have hr := B.returns
  have hts := atoms_spec (ws := wsJ_bitCount) B.pre
  have hown : s.vm.findClass RJ = some m.cls := findClass_of_methodNamed B.named
  have hlocks := B.notSynchronized
  have hl := lv_entry ([.long a]) (n := 2) (Nat.le_of_ble_eq_true rfl)
  refine W.eq (show entryFrame m args 2 = entryFrame m ([.long a] : List Value).toArray 2 by rw [ha]) ?_
  rw [lg_entry_eq]
  generalize (lg_sl ([.long a]) ++ List.replicate (2 - (lg_sl ([.long a])).length) Slot.unset).toArray = ls at hl ⊢
  have hl : lv_has ls 2 [(0, .long a)] := hl
  generalize hQ : MQ below (vp_Si (fun r : Int32 => r = pt_bits a)) args s 0 0 (fun _ => False) = Q
  refine lv_lload_n hx hb dJ_bitCount_0 rfl (lv_at hl 0 rfl) ?_
  refine lv_lload_n hx hb dJ_bitCount_1 rfl (lv_at hl 0 rfl) ?_
  refine lv_iconst (v := 1) hx hb dJ_bitCount_2 (by decide) ?_
  refine lv_lushr (v := pt_ushr a 1) hx hb dJ_bitCount_3 rfl ?_
  refine lv_ldc2 (v := 6148914691236517205) hx hb hown (hts _ (List.mem_cons_of_mem _ pw132)) dJ_bitCount_4 ?_
  refine lv_land hx hb dJ_bitCount_7 ?_
  refine lv_lsub hx hb dJ_bitCount_8 ?_
  refine W.eq (g2 := F0 m 9 ls [.long (pt_c1 a)]) rfl ?_
  refine lv_lstore_n (lv' := [(0, .long (pt_c1 a))]) hx hb dJ_bitCount_9 rfl hl (by decide) rfl (fun ls hl => ?_)
  refine lv_lload_n hx hb dJ_bitCount_10 rfl (lv_at hl 0 rfl) ?_
  refine lv_ldc2 (v := 3689348814741910323) hx hb hown (hts _ (List.mem_cons_of_mem _ pw133)) dJ_bitCount_11 ?_
  refine lv_land hx hb dJ_bitCount_14 ?_
  refine lv_lload_n hx hb dJ_bitCount_15 rfl (lv_at hl 0 rfl) ?_
  refine lv_iconst (v := 2) hx hb dJ_bitCount_16 (by decide) ?_
  refine lv_lushr (v := pt_ushr (pt_c1 a) 2) hx hb dJ_bitCount_17 rfl ?_
  refine lv_ldc2 (v := 3689348814741910323) hx hb hown (hts _ (List.mem_cons_of_mem _ pw133)) dJ_bitCount_18 ?_
  refine lv_land hx hb dJ_bitCount_21 ?_
  refine lv_ladd hx hb dJ_bitCount_22 ?_
  refine W.eq (g2 := F0 m 23 ls [.long (pt_c2 (pt_c1 a))]) rfl ?_
  refine lv_lstore_n (lv' := [(0, .long (pt_c2 (pt_c1 a)))]) hx hb dJ_bitCount_23 rfl hl (by decide) rfl (fun ls hl => ?_)
  refine lv_lload_n hx hb dJ_bitCount_24 rfl (lv_at hl 0 rfl) ?_
  refine lv_lload_n hx hb dJ_bitCount_25 rfl (lv_at hl 0 rfl) ?_
  refine lv_iconst (v := 4) hx hb dJ_bitCount_26 (by decide) ?_
  refine lv_lushr (v := pt_ushr (pt_c2 (pt_c1 a)) 4) hx hb dJ_bitCount_27 rfl ?_
  refine lv_ladd hx hb dJ_bitCount_28 ?_
  refine lv_ldc2 (v := 1085102592571150095) hx hb hown (hts _ (List.mem_cons_of_mem _ pw134)) dJ_bitCount_29 ?_
  refine lv_land hx hb dJ_bitCount_32 ?_
  refine W.eq (g2 := F0 m 33 ls [.long (pt_c3 (pt_c2 (pt_c1 a)))]) rfl ?_
  refine lv_lstore_n (lv' := [(0, .long (pt_c3 (pt_c2 (pt_c1 a))))]) hx hb dJ_bitCount_33 rfl hl (by decide) rfl (fun ls hl => ?_)
  refine lv_lload_n hx hb dJ_bitCount_34 rfl (lv_at hl 0 rfl) ?_
  refine lv_lload_n hx hb dJ_bitCount_35 rfl (lv_at hl 0 rfl) ?_
  refine lv_bipush (v := 8) hx hb dJ_bitCount_36 (by decide) ?_
  refine lv_lushr (v := pt_ushr (pt_c3 (pt_c2 (pt_c1 a))) 8) hx hb dJ_bitCount_38 rfl ?_
  refine lv_ladd hx hb dJ_bitCount_39 ?_
  refine W.eq (g2 := F0 m 40 ls [.long (pt_c4 (pt_c3 (pt_c2 (pt_c1 a))))]) rfl ?_
  refine lv_lstore_n (lv' := [(0, .long (pt_c4 (pt_c3 (pt_c2 (pt_c1 a)))))]) hx hb dJ_bitCount_40 rfl hl (by decide) rfl (fun ls hl => ?_)
  refine lv_lload_n hx hb dJ_bitCount_41 rfl (lv_at hl 0 rfl) ?_
  refine lv_lload_n hx hb dJ_bitCount_42 rfl (lv_at hl 0 rfl) ?_
  refine lv_bipush (v := 16) hx hb dJ_bitCount_43 (by decide) ?_
  refine lv_lushr (v := pt_ushr (pt_c4 (pt_c3 (pt_c2 (pt_c1 a)))) 16) hx hb dJ_bitCount_45 rfl ?_
  refine lv_ladd hx hb dJ_bitCount_46 ?_
  refine W.eq (g2 := F0 m 47 ls [.long (pt_c5 (pt_c4 (pt_c3 (pt_c2 (pt_c1 a)))))]) rfl ?_
  refine lv_lstore_n (lv' := [(0, .long (pt_c5 (pt_c4 (pt_c3 (pt_c2 (pt_c1 a))))))]) hx hb dJ_bitCount_47 rfl hl (by decide) rfl (fun ls hl => ?_)
  refine lv_lload_n hx hb dJ_bitCount_48 rfl (lv_at hl 0 rfl) ?_
  refine lv_lload_n hx hb dJ_bitCount_49 rfl (lv_at hl 0 rfl) ?_
  refine lv_bipush (v := 32) hx hb dJ_bitCount_50 (by decide) ?_
  refine lv_lushr (v := pt_ushr (pt_c5 (pt_c4 (pt_c3 (pt_c2 (pt_c1 a))))) 32) hx hb dJ_bitCount_52 rfl ?_
  refine lv_ladd hx hb dJ_bitCount_53 ?_
  refine W.eq (g2 := F0 m 54 ls [.long (pt_c6 (pt_c5 (pt_c4 (pt_c3 (pt_c2 (pt_c1 a))))))]) rfl ?_
  refine lv_lstore_n (lv' := [(0, .long (pt_c6 (pt_c5 (pt_c4 (pt_c3 (pt_c2 (pt_c1 a)))))))]) hx hb dJ_bitCount_54 rfl hl (by decide) rfl (fun ls hl => ?_)
  refine lv_lload_n hx hb dJ_bitCount_55 rfl (lv_at hl 0 rfl) ?_
  refine lv_l2i (v := (pt_c6 (pt_c5 (pt_c4 (pt_c3 (pt_c2 (pt_c1 a)))))).toInt32) hx hb dJ_bitCount_56 rfl ?_
  refine lv_bipush (v := 127) hx hb dJ_bitCount_57 (by decide) ?_
  refine lv_iand hx hb dJ_bitCount_59 ?_
  rw [← hQ]
  exact W.iret (v := ((pt_c6 (pt_c5 (pt_c4 (pt_c3 (pt_c2 (pt_c1 a)))))).toInt32) &&& 127) hx hb hr (fun t ht hW => ⟨((pt_c6 (pt_c5 (pt_c4 (pt_c3 (pt_c2 (pt_c1 a)))))).toInt32) &&& 127, rfl, pt_bc_bits a, ht⟩) t_nil dJ_bitCount_60
set_option maxHeartbeats 4000000 in
set_option maxRecDepth 100000 in
/-- lowestBits(n) -/
theorem c_lowestBits (l : Launch) (dC : Nat → ClassId) (dI : Nat → Nat → Nat) (n : Nat)  : Met l yX0_lowestBits wsX0_lowestBits ({ frames := 0, cells := 0, slots := 0, locals := 0 }) (va_Pc [.int (nI n)] (fun U => va_P (dC, dI) vwCl [] U.heap ∧ va_K (dC, dI) vwCl [] U)) (vp_Sl (fun r : Int64 => r = pt_mk n)) 0 0 (fun _ => False) := by
  refine Met.ofW (cc := cX0_lowestBits) (maxL := 1) (ret := (some .long)) (by decide) rfl ?_
  intro p e s m args below meth c s₁ B hml hv
  obtain ⟨ha, hP, hK⟩ := hv
  have hx := B.exec
  have hb := B.bytes
  have hr := B.returns
  have hts := atoms_spec (ws := wsX0_lowestBits) B.pre
  have hown : s.vm.findClass RX0 = some m.cls := findClass_of_methodNamed B.named
  have hlocks := B.notSynchronized
  have hl := lv_entry ([.int (nI n)]) (n := 1) (Nat.le_of_ble_eq_true rfl)
  refine W.eq (show entryFrame m args 1 = entryFrame m ([.int (nI n)] : List Value).toArray 1 by rw [ha]) ?_
  rw [lg_entry_eq]
  generalize (lg_sl ([.int (nI n)]) ++ List.replicate (1 - (lg_sl ([.int (nI n)])).length) Slot.unset).toArray = ls at hl ⊢
  have hl : lv_has ls 1 [(0, .int (nI n))] := hl
  generalize hQ : MQ below (vp_Sl (fun r : Int64 => r = pt_mk n)) args s 0 0 (fun _ => False) = Q
  refine lv_ldc2 (v := (-1)) hx hb hown (hts _ (List.mem_cons_of_mem _ pw31)) dX0_lowestBits_0 ?_
  refine lv_bipush (v := 64) hx hb dX0_lowestBits_3 (by decide) ?_
  refine lv_iload_n hx hb dX0_lowestBits_5 rfl (lv_at hl 0 rfl) ?_
  refine lv_isub hx hb dX0_lowestBits_6 ?_
  refine lv_lushr (v := pt_ushr (-1) (64 - (nI n))) hx hb dX0_lowestBits_7 rfl ?_
  rw [← hQ]
  exact W.lret (v := pt_ushr (-1) (64 - (nI n))) hx hb hr (fun t ht hW => ⟨pt_ushr (-1) (64 - (nI n)), rfl, rfl, ht⟩) t_nil dX0_lowestBits_8
set_option maxHeartbeats 4000000 in
set_option maxRecDepth 100000 in
/-- bitsFrom(at) -/
theorem c_bitsFrom (l : Launch) (dC : Nat → ClassId) (dI : Nat → Nat → Nat) (h0 c0 w0 : Nat) (kc kw : ClassId) (k n : Nat) (fc fv : Nat → Int64) (cl su : Int32) (q : Nat)  : Met l yX0_bitsFrom wsX0_bitsFrom ({ frames := 0, cells := 0, slots := 0, locals := 0 }) (va_Pc [.ref h0, .int (nI q)] (fun U => va_P (dC, dI) vwCl [(h0, .inr (0, [.ref c0, .ref w0, .int (nI k), .int (nI n), .long (pt_mk n), .int cl, .int su])), (c0, .inl (kc, 512, .inr (.inl fc))), (w0, .inl (kw, 512, .inr (.inl fv)))] U.heap ∧ va_K (dC, dI) vwCl [(kc, .long), (kw, .long)] U)) (vp_Sl (fun r : Int64 => r = pt_up n q)) 0 0 (fun _ => False) := by
  refine Met.ofW (cc := cX0_bitsFrom) (maxL := 2) (ret := (some .long)) (by decide) rfl ?_
  intro p e s m args below meth c s₁ B hml hv
  obtain ⟨ha, hP, hK⟩ := hv
  have hx := B.exec
  have hb := B.bytes
  have hr := B.returns
  have hts := atoms_spec (ws := wsX0_bitsFrom) B.pre
  have hown : s.vm.findClass RX0 = some m.cls := findClass_of_methodNamed B.named
  have hlocks := B.notSynchronized
  have hl := lv_entry ([.ref h0, .int (nI q)]) (n := 2) (Nat.le_of_ble_eq_true rfl)
  refine W.eq (show entryFrame m args 2 = entryFrame m ([.ref h0, .int (nI q)] : List Value).toArray 2 by rw [ha]) ?_
  rw [lg_entry_eq]
  generalize (lg_sl ([.ref h0, .int (nI q)]) ++ List.replicate (2 - (lg_sl ([.ref h0, .int (nI q)])).length) Slot.unset).toArray = ls at hl ⊢
  have hl : lv_has ls 2 [(0, .ref h0), (1, .int (nI q))] := hl
  generalize hQ : MQ below (vp_Sl (fun r : Int64 => r = pt_up n q)) args s 0 0 (fun _ => False) = Q
  refine lv_aload_n hx hb dX0_bitsFrom_0 rfl (lv_at hl 0 rfl) ?_
  refine va_get (D := (dC, dI)) (ci := 0) (v := .long (pt_mk n)) (C := RX0) (T := TX0) (N := 7) hx hb hts (fun w h => List.mem_cons_of_mem _ (pt_wsX0 w h)) hown hK hP 0 rfl rfl 4 (by decide) (hts _ (List.mem_cons_of_mem _ pw36)) (fun _ h9 => h9) rfl dX0_bitsFrom_1 ?_
  refine lv_ldc2 (v := (-1)) hx hb hown (hts _ (List.mem_cons_of_mem _ pw31)) dX0_bitsFrom_4 ?_
  refine lv_iload_n hx hb dX0_bitsFrom_7 rfl (lv_at hl 1 rfl) ?_
  refine lv_lshl (v := pt_shl (-1) (nI q)) hx hb dX0_bitsFrom_8 rfl ?_
  refine lv_land hx hb dX0_bitsFrom_9 ?_
  rw [← hQ]
  exact W.lret (v := (pt_mk n) &&& (pt_shl (-1) (nI q))) hx hb hr (fun t ht hW => ⟨(pt_mk n) &&& (pt_shl (-1) (nI q)), rfl, rfl, ht⟩) t_nil dX0_bitsFrom_10
set_option maxHeartbeats 4000000 in
set_option maxRecDepth 100000 in
/-- sharesWord(i, care, want) -/
theorem c_sharesWord (l : Launch) (dC : Nat → ClassId) (dI : Nat → Nat → Nat) (h0 c0 w0 : Nat) (kc kw : ClassId) (k n : Nat) (fc fv : Nat → Int64) (cl su : Int32) (i : Nat) (a b : Int64) (hi : i < 512) : Met l yX0_sharesWord wsX0_sharesWord ({ frames := 0, cells := 0, slots := 0, locals := 0 }) (va_Pc [.ref h0, .int (nI i), .long a, .long b] (fun U => va_P (dC, dI) vwCl [(h0, .inr (0, [.ref c0, .ref w0, .int (nI k), .int (nI n), .long (pt_mk n), .int cl, .int su])), (c0, .inl (kc, 512, .inr (.inl fc))), (w0, .inl (kw, 512, .inr (.inl fv)))] U.heap ∧ va_K (dC, dI) vwCl [(kc, .long), (kw, .long)] U)) (vp_Si (fun r : Int32 => (r = 1 ∧ pt_sh (fc i) (fv i) a b) ∨ (r = 0 ∧ ¬ pt_sh (fc i) (fv i) a b))) 0 0 (fun _ => False) := by
  refine Met.ofW (cc := cX0_sharesWord) (maxL := 6) (ret := (some .boolean)) (by decide) rfl ?_
  intro p e s m args below meth c s₁ B hml hv
  obtain ⟨ha, hP, hK⟩ := hv
  have hx := B.exec
  have hb := B.bytes
  have hr := B.returns
  have hts := atoms_spec (ws := wsX0_sharesWord) B.pre
  have hown : s.vm.findClass RX0 = some m.cls := findClass_of_methodNamed B.named
  have hlocks := B.notSynchronized
  have hl := lv_entry ([.ref h0, .int (nI i), .long a, .long b]) (n := 6) (Nat.le_of_ble_eq_true rfl)
  refine W.eq (show entryFrame m args 6 = entryFrame m ([.ref h0, .int (nI i), .long a, .long b] : List Value).toArray 6 by rw [ha]) ?_
  rw [lg_entry_eq]
  generalize (lg_sl ([.ref h0, .int (nI i), .long a, .long b]) ++ List.replicate (6 - (lg_sl ([.ref h0, .int (nI i), .long a, .long b])).length) Slot.unset).toArray = ls at hl ⊢
  have hl : lv_has ls 6 [(0, .ref h0), (1, .int (nI i)), (2, .long a), (4, .long b)] := hl
  generalize hQ : MQ below (vp_Si (fun r : Int32 => (r = 1 ∧ pt_sh (fc i) (fv i) a b) ∨ (r = 0 ∧ ¬ pt_sh (fc i) (fv i) a b))) args s 0 0 (fun _ => False) = Q
  refine lv_aload_n hx hb dX0_sharesWord_0 rfl (lv_at hl 0 rfl) ?_
  refine va_get (D := (dC, dI)) (ci := 0) (v := .ref c0) (C := RX0) (T := TX0) (N := 7) hx hb hts (fun w h => List.mem_cons_of_mem _ (pt_wsX0 w h)) hown hK hP 0 rfl rfl 0 (by decide) (hts _ (List.mem_cons_of_mem _ pw32)) (fun _ h9 => h9) rfl dX0_sharesWord_1 ?_
  refine lv_iload_n hx hb dX0_sharesWord_4 rfl (lv_at hl 1 rfl) ?_
  refine va_lald hx hb hK hP 1 0 rfl rfl (vp_in_nI hi (by decide)) dX0_sharesWord_5 ?_
  rw [nI_clamp (by omega)]
  refine lv_lload_n hx hb dX0_sharesWord_6 rfl (lv_at hl 2 rfl) ?_
  refine lv_land hx hb dX0_sharesWord_7 ?_
  refine lv_aload_n hx hb dX0_sharesWord_8 rfl (lv_at hl 0 rfl) ?_
  refine va_get (D := (dC, dI)) (ci := 0) (v := .ref w0) (C := RX0) (T := TX0) (N := 7) hx hb hts (fun w h => List.mem_cons_of_mem _ (pt_wsX0 w h)) hown hK hP 0 rfl rfl 1 (by decide) (hts _ (List.mem_cons_of_mem _ pw33)) (fun _ h9 => h9) rfl dX0_sharesWord_9 ?_
  refine lv_iload_n hx hb dX0_sharesWord_12 rfl (lv_at hl 1 rfl) ?_
  refine va_lald hx hb hK hP 2 1 rfl rfl (vp_in_nI hi (by decide)) dX0_sharesWord_13 ?_
  rw [nI_clamp (by omega)]
  refine lv_lload hx hb dX0_sharesWord_14 (lv_at hl 3 rfl) ?_
  refine lv_lxor hx hb dX0_sharesWord_16 ?_
  refine lv_land hx hb dX0_sharesWord_17 ?_
  refine lv_lconst (v := 0) hx hb dX0_sharesWord_18 (by decide) ?_
  refine W.lcmp hx hb dX0_sharesWord_19 ?_
  refine lv_if_ne (tgt := 27) hx hb dX0_sharesWord_20 (by decide) (fun h1 => ?_) (fun h1 => ?_)
  · refine lv_iconst (v := 0) hx hb dX0_sharesWord_27 (by decide) ?_
    rw [← hQ]
    exact W.zret (v := 0) hx hb hr narrow_b0 (fun t ht hW => ⟨0, rfl, Or.inr ⟨rfl, fun q => h1 (pt_cmp0.mpr q)⟩, ht⟩) t_nil dX0_sharesWord_28
  · refine lv_iconst (v := 1) hx hb dX0_sharesWord_23 (by decide) ?_
    refine lv_goto (tgt := 28) hx hb dX0_sharesWord_24 (by decide) ?_
    rw [← hQ]
    exact W.zret (v := 1) hx hb hr narrow_b1 (fun t ht hW => ⟨1, rfl, Or.inl ⟨rfl, pt_cmp0.mp h1⟩, ht⟩) t_nil dX0_sharesWord_28
set_option maxHeartbeats 4000000 in
set_option maxRecDepth 100000 in
/-- firstSharing -/
theorem c_firstSharing (l : Launch) (dC : Nat → ClassId) (dI : Nat → Nat → Nat) (h0 c0 w0 : Nat) (kc kw : ClassId) (k n : Nat) (fc fv : Nat → Int64) (cl su : Int32) (a b : Int64) (hk : k ≤ 512) : Met l yX0_firstSharing wsX0_firstSharing ({ frames := 1, cells := 0, slots := 0, locals := 25 }) (va_Pc [.ref h0, .long a, .long b] (fun U => va_P (dC, dI) vwCl [(h0, .inr (0, [.ref c0, .ref w0, .int (nI k), .int (nI n), .long (pt_mk n), .int cl, .int su])), (c0, .inl (kc, 512, .inr (.inl fc))), (w0, .inl (kw, 512, .inr (.inl fv)))] U.heap ∧ va_K (dC, dI) vwCl [(kc, .long), (kw, .long)] U)) (vp_Si (fun r : Int32 => pt_F (fun j => pt_sh (fc j) (fv j) a b) k r)) 0 0 (fun _ => False) := by
  refine Met.ofW (cc := cX0_firstSharing) (maxL := 6) (ret := (some .int)) (by decide) rfl ?_
  intro p e s m args below meth c s₁ B hml hv
  obtain ⟨ha, hP, hK⟩ := hv
  have hx := B.exec
  have hb := B.bytes
  have hr := B.returns
  have hts := atoms_spec (ws := wsX0_firstSharing) B.pre
  have hown : s.vm.findClass RX0 = some m.cls := findClass_of_methodNamed B.named
  have hlocks := B.notSynchronized
  have hl := lv_entry ([.ref h0, .long a, .long b]) (n := 6) (Nat.le_of_ble_eq_true rfl)
  refine W.eq (show entryFrame m args 6 = entryFrame m ([.ref h0, .long a, .long b] : List Value).toArray 6 by rw [ha]) ?_
  rw [lg_entry_eq]
  generalize (lg_sl ([.ref h0, .long a, .long b]) ++ List.replicate (6 - (lg_sl ([.ref h0, .long a, .long b])).length) Slot.unset).toArray = ls at hl ⊢
  have hl : lv_has ls 6 [(0, .ref h0), (1, .long a), (3, .long b)] := hl
  generalize hQ : MQ below (vp_Si (fun r : Int32 => pt_F (fun j => pt_sh (fc j) (fv j) a b) k r)) args s 0 0 (fun _ => False) = Q
  refine lv_iconst (v := 0) hx hb dX0_firstSharing_0 (by decide) ?_
  refine lv_istore (lv' := [(5, .int 0), (0, .ref h0), (1, .long a), (3, .long b)]) hx hb dX0_firstSharing_1 hl (by decide) rfl (fun ls hl => ?_)
  have loop : ∀ (d i : Nat) (ls : Array Slot), k - i = d → i ≤ k → (∀ j, j < i → ¬ pt_sh (fc j) (fv j) a b) → lv_has ls 6 [(5, .int (nI i)), (0, .ref h0), (1, .long a), (3, .long b)] → W p l e (headSpec wsX0_firstSharing ({ frames := 1, cells := 0, slots := 0, locals := 25 })).room s m args below meth c s.heap [] 0 0 Q (F0 m 3 ls []) := by
    intro d
    induction d with
    | zero =>
      intro i ls hd hik hno hl
      refine lv_iload hx hb dX0_firstSharing_3 (lv_at hl 0 rfl) ?_
      refine lv_aload_n hx hb dX0_firstSharing_5 rfl (lv_at hl 1 rfl) ?_
      refine va_get (D := (dC, dI)) (ci := 0) (v := .int (nI k)) (C := RX0) (T := TX0) (N := 7) hx hb hts (fun w h => List.mem_cons_of_mem _ (pt_wsX0 w h)) hown hK hP 0 rfl rfl 2 (by decide) (hts _ (List.mem_cons_of_mem _ pw34)) (fun _ h9 => h9) rfl dX0_firstSharing_6 ?_
      refine lv_icmp_ge (tgt := 32) hx hb dX0_firstSharing_9 (by decide) (fun h1 => ?_) (fun h1 => absurd (nI_le (by omega) (by omega)) h1)
      refine lv_iconst (v := (-1)) hx hb dX0_firstSharing_32 (by decide) ?_
      rw [← hQ]
      exact W.iret (v := (-1)) hx hb hr (fun t ht hW => ⟨(-1), rfl, Or.inl ⟨rfl, fun j hj => hno j (by omega)⟩, ht⟩) t_nil dX0_firstSharing_33
    | succ d ih =>
      intro i ls hd hik hno hl
      refine lv_iload hx hb dX0_firstSharing_3 (lv_at hl 0 rfl) ?_
      refine lv_aload_n hx hb dX0_firstSharing_5 rfl (lv_at hl 1 rfl) ?_
      refine va_get (D := (dC, dI)) (ci := 0) (v := .int (nI k)) (C := RX0) (T := TX0) (N := 7) hx hb hts (fun w h => List.mem_cons_of_mem _ (pt_wsX0 w h)) hown hK hP 0 rfl rfl 2 (by decide) (hts _ (List.mem_cons_of_mem _ pw34)) (fun _ h9 => h9) rfl dX0_firstSharing_6 ?_
      refine lv_icmp_ge (tgt := 32) hx hb dX0_firstSharing_9 (by decide) (fun h1 => absurd h1 (nI_ge (by omega) (by omega))) (fun h1 => ?_)
      refine lv_aload_n hx hb dX0_firstSharing_12 rfl (lv_at hl 1 rfl) ?_
      refine lv_iload hx hb dX0_firstSharing_13 (lv_at hl 0 rfl) ?_
      refine lv_lload_n hx hb dX0_firstSharing_15 rfl (lv_at hl 2 rfl) ?_
      refine lv_lload_n hx hb dX0_firstSharing_16 rfl (lv_at hl 3 rfl) ?_
      refine vp_callSi (W.runV (As := [.int (nI i), .long a, .long b]) (rest := []) ⟨hx, hb, hml, hown, hts⟩ (c_sharesWord l dC dI h0 c0 w0 kc kw k n fc fv cl su i a b (by omega)) (cwV 3 hts (pt_gV pw51 pw52 pw0 pw17 pw53) rfl rfl rfl (by decide +kernel) ⟨Nat.le_of_ble_eq_true rfl, Nat.le_of_ble_eq_true rfl⟩) ⟨fun a U g mk q => by obtain ⟨q0, qP, qK⟩ := q; exact ⟨q0, qP, va_K.moved (u := U) (U := U.calling g mk a) (Vm.Alike.refl U.vm) qK⟩, va_recv hK hP (ci := 0) (q0 := 0) rfl rfl, fun U hU hW => ⟨rfl, by rw [hU]; exact hP, va_K.moved hW.alike hK⟩⟩ rfl rfl hl.1 rfl (lv_room (Nat.le_of_ble_eq_true rfl)) dX0_firstSharing_17 ⟨Nat.zero_le _, Nat.zero_le _⟩) (fun r1 hw => ?_)
      rcases hw with ⟨rfl, hs⟩ | ⟨rfl, hs⟩
      · refine lv_if_eq (tgt := 26) hx hb dX0_firstSharing_20 (by decide) (fun h2 => absurd h2 (by decide)) (fun h2 => ?_)
        refine lv_iload hx hb dX0_firstSharing_23 (lv_at hl 0 rfl) ?_
        rw [← hQ]
        exact W.iret (v := nI i) hx hb hr (fun t ht hW => ⟨nI i, rfl, Or.inr ⟨i, by omega, hs, hno, rfl⟩, ht⟩) t_nil dX0_firstSharing_25
      · refine lv_if_eq (tgt := 26) hx hb dX0_firstSharing_20 (by decide) (fun h2 => ?_) (fun h2 => absurd rfl h2)
        refine lv_iinc (v := nI (i + 1)) (lv' := [(5, .int (nI (i + 1))), (0, .ref h0), (1, .long a), (3, .long b)]) hx hb dX0_firstSharing_26 hl (k := 0) rfl (by rw [nI_succ]; rfl) (by decide) rfl (fun ls hl => ?_)
        refine lv_goto (tgt := 3) hx hb dX0_firstSharing_29 (by decide) ?_
        exact ih (i + 1) ls (by omega) (by omega) (lt_s hno hs) (lv_sub hl [0, 1, 2, 3] rfl)
  exact loop k 0 ls (by omega) (by omega) lt_0 (lv_sub hl [0, 1, 2, 3] rfl)
set_option maxHeartbeats 4000000 in
set_option maxRecDepth 100000 in
/-- wordsOf(care) -/
theorem c_wordsOf (l : Launch) (dC : Nat → ClassId) (dI : Nat → Nat → Nat) (h0 c0 w0 : Nat) (kc kw : ClassId) (k n : Nat) (fc fv : Nat → Int64) (cl su : Int32) (a : Int64)  : Met l yX0_wordsOf wsX0_wordsOf ({ frames := 1, cells := 0, slots := 0, locals := 21 }) (va_Pc [.ref h0, .long a] (fun U => va_P (dC, dI) vwCl [(h0, .inr (0, [.ref c0, .ref w0, .int (nI k), .int (nI n), .long (pt_mk n), .int cl, .int su])), (c0, .inl (kc, 512, .inr (.inl fc))), (w0, .inl (kw, 512, .inr (.inl fv)))] U.heap ∧ va_K (dC, dI) vwCl [(kc, .long), (kw, .long)] U)) (vp_Sl (fun r : Int64 => r = pt_words n a)) 0 0 (fun _ => False) := by
  refine Met.ofW (cc := cX0_wordsOf) (maxL := 4) (ret := (some .long)) (by decide) rfl ?_
  intro p e s m args below meth c s₁ B hml hv
  obtain ⟨ha, hP, hK⟩ := hv
  have hx := B.exec
  have hb := B.bytes
  have hr := B.returns
  have hts := atoms_spec (ws := wsX0_wordsOf) B.pre
  have hown : s.vm.findClass RX0 = some m.cls := findClass_of_methodNamed B.named
  have hlocks := B.notSynchronized
  have hl := lv_entry ([.ref h0, .long a]) (n := 4) (Nat.le_of_ble_eq_true rfl)
  refine W.eq (show entryFrame m args 4 = entryFrame m ([.ref h0, .long a] : List Value).toArray 4 by rw [ha]) ?_
  rw [lg_entry_eq]
  generalize (lg_sl ([.ref h0, .long a]) ++ List.replicate (4 - (lg_sl ([.ref h0, .long a])).length) Slot.unset).toArray = ls at hl ⊢
  have hl : lv_has ls 4 [(0, .ref h0), (1, .long a)] := hl
  generalize hQ : MQ below (vp_Sl (fun r : Int64 => r = pt_words n a)) args s 0 0 (fun _ => False) = Q
  refine lv_aload_n hx hb dX0_wordsOf_0 rfl (lv_at hl 0 rfl) ?_
  refine va_get (D := (dC, dI)) (ci := 0) (v := .int (nI n)) (C := RX0) (T := TX0) (N := 7) hx hb hts (fun w h => List.mem_cons_of_mem _ (pt_wsX0 w h)) hown hK hP 0 rfl rfl 3 (by decide) (hts _ (List.mem_cons_of_mem _ pw35)) (fun _ h9 => h9) rfl dX0_wordsOf_1 ?_
  refine lv_lload_n hx hb dX0_wordsOf_4 rfl (lv_at hl 1 rfl) ?_
  refine vp_callSi (W.runS (As := [.long a]) (rest := [.int (nI n)]) ⟨hx, hb, hml, hown, hts⟩ (c_bitCount l dC dI a) (va_cwS 1 hts (pt_gS pw129 pw130 pw19 pw131) rfl rfl rfl (by decide +kernel) ⟨Nat.le_of_ble_eq_true rfl, Nat.le_of_ble_eq_true rfl⟩) ⟨fun a U g mk q => by obtain ⟨q0, qP, qK⟩ := q; exact ⟨q0, qP, va_K.moved (u := U) (U := U.calling g mk a) (Vm.Alike.refl U.vm) qK⟩, fun U hU hW => ⟨rfl, by rw [hU]; exact (hP.sub (ws' := ([] : va_W)) [] rfl), va_K.moved hW.alike (hK.sub (tys' := []) [] rfl)⟩⟩ rfl rfl hl.1 rfl (lv_room (Nat.le_of_ble_eq_true rfl)) dX0_wordsOf_5 ⟨Nat.zero_le _, Nat.zero_le _⟩) (fun r1 hw => ?_)
  subst hw
  refine lv_isub hx hb dX0_wordsOf_8 ?_
  refine lv_istore_n (lv' := [(3, .int ((nI n) - (pt_bits a))), (0, .ref h0), (1, .long a)]) hx hb dX0_wordsOf_9 rfl hl (by decide) rfl (fun ls hl => ?_)
  refine lv_iload_n hx hb dX0_wordsOf_10 rfl (lv_at hl 0 rfl) ?_
  refine lv_bipush (v := 64) hx hb dX0_wordsOf_11 (by decide) ?_
  refine lv_icmp_lt (tgt := 20) hx hb dX0_wordsOf_13 (by decide) (fun h1 => ?_) (fun h1 => ?_)
  · refine lv_lconst (v := 1) hx hb dX0_wordsOf_20 (by decide) ?_
    refine lv_iload_n hx hb dX0_wordsOf_21 rfl (lv_at hl 0 rfl) ?_
    refine lv_lshl (v := pt_shl 1 ((nI n) - (pt_bits a))) hx hb dX0_wordsOf_22 rfl ?_
    rw [← hQ]
    exact W.lret (v := pt_shl 1 ((nI n) - (pt_bits a))) hx hb hr (fun t ht hW => ⟨pt_shl 1 ((nI n) - (pt_bits a)), rfl, by unfold pt_words; rw [if_neg (Int32.not_le.mpr h1)], ht⟩) t_nil dX0_wordsOf_23
  · refine lv_lconst (v := 0) hx hb dX0_wordsOf_16 (by decide) ?_
    refine lv_goto (tgt := 23) hx hb dX0_wordsOf_17 (by decide) ?_
    rw [← hQ]
    exact W.lret (v := 0) hx hb hr (fun t ht hW => ⟨0, rfl, by unfold pt_words; rw [if_pos (Int32.not_lt.mp h1)], ht⟩) t_nil dX0_wordsOf_23
set_option maxHeartbeats 4000000 in
set_option maxRecDepth 100000 in
/-- freeWords(care, want) -/
theorem c_freeWords (l : Launch) (dC : Nat → ClassId) (dI : Nat → Nat → Nat) (h0 c0 w0 : Nat) (kc kw : ClassId) (k n : Nat) (fc fv : Nat → Int64) (cl su : Int32) (a b : Int64) (hk : k ≤ 512) : Met l yX0_freeWords wsX0_freeWords ({ frames := 2, cells := 0, slots := 0, locals := 44 }) (va_Pc [.ref h0, .long a, .long b] (fun U => va_P (dC, dI) vwCl [(h0, .inr (0, [.ref c0, .ref w0, .int (nI k), .int (nI n), .long (pt_mk n), .int cl, .int su])), (c0, .inl (kc, 512, .inr (.inl fc))), (w0, .inl (kw, 512, .inr (.inl fv)))] U.heap ∧ va_K (dC, dI) vwCl [(kc, .long), (kw, .long)] U)) (vp_Sl (fun r : Int64 => r = pt_fw n fc fv a b k)) 0 0 (fun _ => False) := by
  refine Met.ofW (cc := cX0_freeWords) (maxL := 8) (ret := (some .long)) (by decide) rfl ?_
  intro p e s m args below meth c s₁ B hml hv
  obtain ⟨ha, hP, hK⟩ := hv
  have hx := B.exec
  have hb := B.bytes
  have hr := B.returns
  have hts := atoms_spec (ws := wsX0_freeWords) B.pre
  have hown : s.vm.findClass RX0 = some m.cls := findClass_of_methodNamed B.named
  have hlocks := B.notSynchronized
  have hl := lv_entry ([.ref h0, .long a, .long b]) (n := 8) (Nat.le_of_ble_eq_true rfl)
  refine W.eq (show entryFrame m args 8 = entryFrame m ([.ref h0, .long a, .long b] : List Value).toArray 8 by rw [ha]) ?_
  rw [lg_entry_eq]
  generalize (lg_sl ([.ref h0, .long a, .long b]) ++ List.replicate (8 - (lg_sl ([.ref h0, .long a, .long b])).length) Slot.unset).toArray = ls at hl ⊢
  have hl : lv_has ls 8 [(0, .ref h0), (1, .long a), (3, .long b)] := hl
  generalize hQ : MQ below (vp_Sl (fun r : Int64 => r = pt_fw n fc fv a b k)) args s 0 0 (fun _ => False) = Q
  refine lv_aload_n hx hb dX0_freeWords_0 rfl (lv_at hl 0 rfl) ?_
  refine lv_lload_n hx hb dX0_freeWords_1 rfl (lv_at hl 1 rfl) ?_
  refine vp_callSl (W.runV (As := [.long a]) (rest := []) ⟨hx, hb, hml, hown, hts⟩ (c_wordsOf l dC dI h0 c0 w0 kc kw k n fc fv cl su a) (cwV 1 hts (pt_gV pw126 pw127 pw6 pw17 pw128) rfl rfl rfl (by decide +kernel) ⟨Nat.le_of_ble_eq_true rfl, Nat.le_of_ble_eq_true rfl⟩) ⟨fun a U g mk q => by obtain ⟨q0, qP, qK⟩ := q; exact ⟨q0, qP, va_K.moved (u := U) (U := U.calling g mk a) (Vm.Alike.refl U.vm) qK⟩, va_recv hK hP (ci := 0) (q0 := 0) rfl rfl, fun U hU hW => ⟨rfl, by rw [hU]; exact hP, va_K.moved hW.alike hK⟩⟩ rfl rfl hl.1 rfl (lv_room (Nat.le_of_ble_eq_true rfl)) dX0_freeWords_2 ⟨Nat.zero_le _, Nat.zero_le _⟩) (fun r1 hw => ?_)
  subst hw
  refine lv_lstore (lv' := [(5, .long (pt_words n a)), (0, .ref h0), (1, .long a), (3, .long b)]) hx hb dX0_freeWords_5 hl (by decide) rfl (fun ls hl => ?_)
  refine lv_iconst (v := 0) hx hb dX0_freeWords_7 (by decide) ?_
  refine lv_istore (lv' := [(7, .int 0), (5, .long (pt_words n a)), (0, .ref h0), (1, .long a), (3, .long b)]) hx hb dX0_freeWords_8 hl (by decide) rfl (fun ls hl => ?_)
  have loop : ∀ (d i : Nat) (ls : Array Slot), k - i = d → i ≤ k → lv_has ls 8 [(7, .int (nI i)), (5, .long (pt_fw n fc fv a b i)), (0, .ref h0), (1, .long a), (3, .long b)] → W p l e (headSpec wsX0_freeWords ({ frames := 2, cells := 0, slots := 0, locals := 44 })).room s m args below meth c s.heap [] 0 0 Q (F0 m 10 ls []) := by
    intro d
    induction d with
    | zero =>
      intro i ls hd hik hl
      have hik2 : i = k := by omega
      refine lv_iload hx hb dX0_freeWords_10 (lv_at hl 0 rfl) ?_
      refine lv_aload_n hx hb dX0_freeWords_12 rfl (lv_at hl 2 rfl) ?_
      refine va_get (D := (dC, dI)) (ci := 0) (v := .int (nI k)) (C := RX0) (T := TX0) (N := 7) hx hb hts (fun w h => List.mem_cons_of_mem _ (pt_wsX0 w h)) hown hK hP 0 rfl rfl 2 (by decide) (hts _ (List.mem_cons_of_mem _ pw34)) (fun _ h9 => h9) rfl dX0_freeWords_13 ?_
      refine lv_icmp_ge (tgt := 54) hx hb dX0_freeWords_16 (by decide) (fun h1 => ?_) (fun h1 => absurd (nI_le (by omega) (by omega)) h1)
      refine lv_lload hx hb dX0_freeWords_54 (lv_at hl 1 rfl) ?_
      rw [← hQ]
      exact W.lret (v := pt_fw n fc fv a b i) hx hb hr (fun t ht hW => ⟨pt_fw n fc fv a b i, rfl, by rw [hik2], ht⟩) t_nil dX0_freeWords_56
    | succ d ih =>
      intro i ls hd hik hl
      refine lv_iload hx hb dX0_freeWords_10 (lv_at hl 0 rfl) ?_
      refine lv_aload_n hx hb dX0_freeWords_12 rfl (lv_at hl 2 rfl) ?_
      refine va_get (D := (dC, dI)) (ci := 0) (v := .int (nI k)) (C := RX0) (T := TX0) (N := 7) hx hb hts (fun w h => List.mem_cons_of_mem _ (pt_wsX0 w h)) hown hK hP 0 rfl rfl 2 (by decide) (hts _ (List.mem_cons_of_mem _ pw34)) (fun _ h9 => h9) rfl dX0_freeWords_13 ?_
      refine lv_icmp_ge (tgt := 54) hx hb dX0_freeWords_16 (by decide) (fun h1 => absurd h1 (nI_ge (by omega) (by omega))) (fun h1 => ?_)
      refine lv_aload_n hx hb dX0_freeWords_19 rfl (lv_at hl 2 rfl) ?_
      refine lv_iload hx hb dX0_freeWords_20 (lv_at hl 0 rfl) ?_
      refine lv_lload_n hx hb dX0_freeWords_22 rfl (lv_at hl 3 rfl) ?_
      refine lv_lload_n hx hb dX0_freeWords_23 rfl (lv_at hl 4 rfl) ?_
      refine vp_callSi (W.runV (As := [.int (nI i), .long a, .long b]) (rest := []) ⟨hx, hb, hml, hown, hts⟩ (c_sharesWord l dC dI h0 c0 w0 kc kw k n fc fv cl su i a b (by omega)) (cwV 3 hts (pt_gV pw51 pw52 pw0 pw17 pw53) rfl rfl rfl (by decide +kernel) ⟨Nat.le_of_ble_eq_true rfl, Nat.le_of_ble_eq_true rfl⟩) ⟨fun a U g mk q => by obtain ⟨q0, qP, qK⟩ := q; exact ⟨q0, qP, va_K.moved (u := U) (U := U.calling g mk a) (Vm.Alike.refl U.vm) qK⟩, va_recv hK hP (ci := 0) (q0 := 0) rfl rfl, fun U hU hW => ⟨rfl, by rw [hU]; exact hP, va_K.moved hW.alike hK⟩⟩ rfl rfl hl.1 rfl (lv_room (Nat.le_of_ble_eq_true rfl)) dX0_freeWords_24 ⟨Nat.zero_le _, Nat.zero_le _⟩) (fun r2 hw => ?_)
      rcases hw with ⟨rfl, hs⟩ | ⟨rfl, hs⟩
      · refine lv_if_eq (tgt := 48) hx hb dX0_freeWords_27 (by decide) (fun h2 => absurd h2 (by decide)) (fun h2 => ?_)
        refine lv_lload hx hb dX0_freeWords_30 (lv_at hl 1 rfl) ?_
        refine lv_aload_n hx hb dX0_freeWords_32 rfl (lv_at hl 2 rfl) ?_
        refine lv_aload_n hx hb dX0_freeWords_33 rfl (lv_at hl 2 rfl) ?_
        refine va_get (D := (dC, dI)) (ci := 0) (v := .ref c0) (C := RX0) (T := TX0) (N := 7) hx hb hts (fun w h => List.mem_cons_of_mem _ (pt_wsX0 w h)) hown hK hP 0 rfl rfl 0 (by decide) (hts _ (List.mem_cons_of_mem _ pw32)) (fun _ h9 => h9) rfl dX0_freeWords_34 ?_
        refine lv_iload hx hb dX0_freeWords_37 (lv_at hl 0 rfl) ?_
        refine va_lald hx hb hK hP 1 0 rfl rfl (vp_in_nI (by omega) (by decide)) dX0_freeWords_39 ?_
        rw [nI_clamp (by omega)]
        refine lv_lload_n hx hb dX0_freeWords_40 rfl (lv_at hl 3 rfl) ?_
        refine lv_lor hx hb dX0_freeWords_41 ?_
        refine vp_callSl (W.runV (As := [.long ((fc i) ||| a)]) (rest := [.long (pt_fw n fc fv a b i)]) ⟨hx, hb, hml, hown, hts⟩ (c_wordsOf l dC dI h0 c0 w0 kc kw k n fc fv cl su (fc i ||| a)) (cwV 1 hts (pt_gV pw126 pw127 pw6 pw17 pw128) rfl rfl rfl (by decide +kernel) ⟨Nat.le_of_ble_eq_true rfl, Nat.le_of_ble_eq_true rfl⟩) ⟨fun a U g mk q => by obtain ⟨q0, qP, qK⟩ := q; exact ⟨q0, qP, va_K.moved (u := U) (U := U.calling g mk a) (Vm.Alike.refl U.vm) qK⟩, va_recv hK hP (ci := 0) (q0 := 0) rfl rfl, fun U hU hW => ⟨rfl, by rw [hU]; exact hP, va_K.moved hW.alike hK⟩⟩ rfl rfl hl.1 rfl (lv_room (Nat.le_of_ble_eq_true rfl)) dX0_freeWords_42 ⟨Nat.zero_le _, Nat.zero_le _⟩) (fun r3 hw2 => ?_)
        subst hw2
        refine lv_lsub hx hb dX0_freeWords_45 ?_
        rw [← pt_fw_yes hs]
        refine lv_lstore (lv' := [(5, .long (pt_fw n fc fv a b (i + 1))), (7, .int (nI i)), (0, .ref h0), (1, .long a), (3, .long b)]) hx hb dX0_freeWords_46 hl (by decide) rfl (fun ls hl => ?_)
        refine lv_iinc (v := nI (i + 1)) (lv' := [(7, .int (nI (i + 1))), (5, .long (pt_fw n fc fv a b (i + 1))), (0, .ref h0), (1, .long a), (3, .long b)]) hx hb dX0_freeWords_48 hl (k := 1) rfl (by rw [nI_succ]; rfl) (by decide) rfl (fun ls hl => ?_)
        refine lv_goto (tgt := 10) hx hb dX0_freeWords_51 (by decide) ?_
        exact ih (i + 1) ls (by omega) (by omega) (lv_sub hl [0, 1, 2, 3, 4] rfl)
      · refine lv_if_eq (tgt := 48) hx hb dX0_freeWords_27 (by decide) (fun h2 => ?_) (fun h2 => absurd rfl h2)
        refine lv_iinc (v := nI (i + 1)) (lv' := [(7, .int (nI (i + 1))), (5, .long (pt_fw n fc fv a b i)), (0, .ref h0), (1, .long a), (3, .long b)]) hx hb dX0_freeWords_48 hl (k := 0) rfl (by rw [nI_succ]; rfl) (by decide) rfl (fun ls hl => ?_)
        refine lv_goto (tgt := 10) hx hb dX0_freeWords_51 (by decide) ?_
        rw [← pt_fw_no hs] at hl
        exact ih (i + 1) ls (by omega) (by omega) (lv_sub hl [0, 1, 2, 3, 4] rfl)
  exact loop k 0 ls (by omega) (by omega) (lv_sub hl [0, 1, 2, 3, 4] rfl)
set_option maxHeartbeats 4000000 in
set_option maxRecDepth 100000 in
/-- leastFree(top, start) -/
theorem c_leastFree (l : Launch) (dC : Nat → ClassId) (dI : Nat → Nat → Nat) (h0 c0 w0 : Nat) (kc kw : ClassId) (k n : Nat) (fc fv : Nat → Int64) (cl su : Int32) (t : Nat) (a : Int64) (hk : k ≤ 512) (ht : t ≤ 64) : Met l yX0_leastFree wsX0_leastFree ({ frames := 3, cells := 0, slots := 0, locals := 71 }) (va_Pc [.ref h0, .int (nI t), .long a] (fun U => va_P (dC, dI) vwCl [(h0, .inr (0, [.ref c0, .ref w0, .int (nI k), .int (nI n), .long (pt_mk n), .int cl, .int su])), (c0, .inl (kc, 512, .inr (.inl fc))), (w0, .inl (kw, 512, .inr (.inl fv)))] U.heap ∧ va_K (dC, dI) vwCl [(kc, .long), (kw, .long)] U)) (vp_Sl (fun r : Int64 => r = pt_lf k n fc fv t a)) 0 0 (fun _ => False) := by
  refine Met.ofW (cc := cX0_leastFree) (maxL := 7) (ret := (some .long)) (by decide) rfl ?_
  intro p e s m args below meth c s₁ B hml hv
  obtain ⟨ha, hP, hK⟩ := hv
  have hx := B.exec
  have hb := B.bytes
  have hr := B.returns
  have hts := atoms_spec (ws := wsX0_leastFree) B.pre
  have hown : s.vm.findClass RX0 = some m.cls := findClass_of_methodNamed B.named
  have hlocks := B.notSynchronized
  have hl := lv_entry ([.ref h0, .int (nI t), .long a]) (n := 7) (Nat.le_of_ble_eq_true rfl)
  refine W.eq (show entryFrame m args 7 = entryFrame m ([.ref h0, .int (nI t), .long a] : List Value).toArray 7 by rw [ha]) ?_
  rw [lg_entry_eq]
  generalize (lg_sl ([.ref h0, .int (nI t), .long a]) ++ List.replicate (7 - (lg_sl ([.ref h0, .int (nI t), .long a])).length) Slot.unset).toArray = ls at hl ⊢
  have hl : lv_has ls 7 [(0, .ref h0), (1, .int (nI t)), (2, .long a)] := hl
  generalize hQ : MQ below (vp_Sl (fun r : Int64 => r = pt_lf k n fc fv t a)) args s 0 0 (fun _ => False) = Q
  refine lv_lload_n hx hb dX0_leastFree_0 rfl (lv_at hl 2 rfl) ?_
  refine lv_lstore (lv' := [(4, .long a), (0, .ref h0), (1, .int (nI t)), (2, .long a)]) hx hb dX0_leastFree_1 hl (by decide) rfl (fun ls hl => ?_)
  refine lv_iload_n hx hb dX0_leastFree_3 rfl (lv_at hl 2 rfl) ?_
  refine lv_iconst (v := 1) hx hb dX0_leastFree_4 (by decide) ?_
  refine lv_isub hx hb dX0_leastFree_5 ?_
  refine lv_istore (lv' := [(6, .int ((nI t) - 1)), (4, .long a), (0, .ref h0), (1, .int (nI t)), (2, .long a)]) hx hb dX0_leastFree_6 hl (by decide) rfl (fun ls hl => ?_)
  have loop : ∀ (q : Nat) (x : Int64) (ls : Array Slot), q ≤ 64 → pt_lf k n fc fv q x = pt_lf k n fc fv t a → lv_has ls 7 [(6, .int (nI q - 1)), (4, .long x), (0, .ref h0)] → W p l e (headSpec wsX0_leastFree ({ frames := 3, cells := 0, slots := 0, locals := 71 })).room s m args below meth c s.heap [] 0 0 Q (F0 m 8 ls []) := by
    intro q
    induction q with
    | zero =>
      intro x ls hq hx0 hl
      refine lv_iload hx hb dX0_leastFree_8 (lv_at hl 0 rfl) ?_
      refine lv_if_lt (tgt := 45) hx hb dX0_leastFree_10 (by decide) (fun h1 => ?_) (fun h1 => absurd (by decide) h1)
      refine lv_lload hx hb dX0_leastFree_45 (lv_at hl 1 rfl) ?_
      rw [← hQ]
      exact W.lret (v := x) hx hb hr (fun t ht hW => ⟨x, rfl, hx0, ht⟩) t_nil dX0_leastFree_47
    | succ q ih =>
      intro x ls hq hx0 hl
      rw [nI_pred] at hl
      refine lv_iload hx hb dX0_leastFree_8 (lv_at hl 0 rfl) ?_
      refine lv_if_lt (tgt := 45) hx hb dX0_leastFree_10 (by decide) (fun h1 => absurd h1 (nI_pos (by omega))) (fun h1 => ?_)
      refine lv_aload_n hx hb dX0_leastFree_13 rfl (lv_at hl 2 rfl) ?_
      refine lv_aload_n hx hb dX0_leastFree_14 rfl (lv_at hl 2 rfl) ?_
      refine lv_iload hx hb dX0_leastFree_15 (lv_at hl 0 rfl) ?_
      refine vp_callSl (W.runV (As := [.int (nI q)]) (rest := [.ref h0]) ⟨hx, hb, hml, hown, hts⟩ (c_bitsFrom l dC dI h0 c0 w0 kc kw k n fc fv cl su q) (cwV 1 hts (pt_gV pw142 pw143 pw7 pw17 pw144) rfl rfl rfl (by decide +kernel) ⟨Nat.le_of_ble_eq_true rfl, Nat.le_of_ble_eq_true rfl⟩) ⟨fun a U g mk q => by obtain ⟨q0, qP, qK⟩ := q; exact ⟨q0, qP, va_K.moved (u := U) (U := U.calling g mk a) (Vm.Alike.refl U.vm) qK⟩, va_recv hK hP (ci := 0) (q0 := 0) rfl rfl, fun U hU hW => ⟨rfl, by rw [hU]; exact hP, va_K.moved hW.alike hK⟩⟩ rfl rfl hl.1 rfl (lv_room (Nat.le_of_ble_eq_true rfl)) dX0_leastFree_17 ⟨Nat.zero_le _, Nat.zero_le _⟩) (fun r1 hw => ?_)
      subst hw
      refine lv_lload hx hb dX0_leastFree_20 (lv_at hl 1 rfl) ?_
      refine vp_callSl (W.runV (As := [.long (pt_up n q), .long x]) (rest := []) ⟨hx, hb, hml, hown, hts⟩ (c_freeWords l dC dI h0 c0 w0 kc kw k n fc fv cl su (pt_up n q) x hk) (cwV 2 hts (pt_gV pw123 pw124 pw5 pw17 pw125) rfl rfl rfl (by decide +kernel) ⟨Nat.le_of_ble_eq_true rfl, Nat.le_of_ble_eq_true rfl⟩) ⟨fun a U g mk q => by obtain ⟨q0, qP, qK⟩ := q; exact ⟨q0, qP, va_K.moved (u := U) (U := U.calling g mk a) (Vm.Alike.refl U.vm) qK⟩, va_recv hK hP (ci := 0) (q0 := 0) rfl rfl, fun U hU hW => ⟨rfl, by rw [hU]; exact hP, va_K.moved hW.alike hK⟩⟩ rfl rfl hl.1 rfl (lv_room (Nat.le_of_ble_eq_true rfl)) dX0_leastFree_22 ⟨Nat.zero_le _, Nat.zero_le _⟩) (fun r2 hw => ?_)
      subst hw
      refine lv_lconst (v := 0) hx hb dX0_leastFree_25 (by decide) ?_
      refine W.lcmp hx hb dX0_leastFree_26 ?_
      refine lv_if_ne (tgt := 39) hx hb dX0_leastFree_27 (by decide) (fun h2 => ?_) (fun h2 => ?_)
      · refine lv_iinc (v := nI q - 1) (lv' := [(6, .int (nI q - 1)), (4, .long x), (0, .ref h0)]) hx hb dX0_leastFree_39 hl (k := 0) rfl (by rw [Int32.sub_eq_add_neg]; rfl) (by decide) rfl (fun ls hl => ?_)
        refine lv_goto (tgt := 8) hx hb dX0_leastFree_42 (by decide) ?_
        exact ih x ls (by omega) ((pt_lf_no (fun z => h2 (pt_cmp0.mpr z))).symm.trans hx0) (lv_sub hl [0, 1, 2] rfl)
      · refine lv_lload hx hb dX0_leastFree_30 (lv_at hl 1 rfl) ?_
        refine lv_lconst (v := 1) hx hb dX0_leastFree_32 (by decide) ?_
        refine lv_iload hx hb dX0_leastFree_33 (lv_at hl 0 rfl) ?_
        refine lv_lshl (v := pt_shl 1 (nI q)) hx hb dX0_leastFree_35 rfl ?_
        refine lv_lor hx hb dX0_leastFree_36 ?_
        refine lv_lstore (lv' := [(4, .long (x ||| (pt_shl 1 (nI q)))), (6, .int (nI q)), (0, .ref h0)]) hx hb dX0_leastFree_37 hl (by decide) rfl (fun ls hl => ?_)
        refine lv_iinc (v := nI q - 1) (lv' := [(6, .int (nI q - 1)), (4, .long (x ||| (pt_shl 1 (nI q)))), (0, .ref h0)]) hx hb dX0_leastFree_39 hl (k := 1) rfl (by rw [Int32.sub_eq_add_neg]; rfl) (by decide) rfl (fun ls hl => ?_)
        refine lv_goto (tgt := 8) hx hb dX0_leastFree_42 (by decide) ?_
        exact ih (x ||| pt_shl 1 (nI q)) ls (by omega) ((pt_lf_yes (pt_cmp0.mp h2)).symm.trans hx0) (lv_sub hl [0, 1, 2] rfl)
  exact loop t a ls ht rfl (lv_sub hl [0, 1, 2] rfl)
